/-! one row an instruction (written by wip/whole/gen_rows.py) -/
section
variable {d : Nat} {Q : ma_P} {l : ma_L} {st : List Value} {H : ma_H} {a b : Nat} {x y x0 x1 x2 x3 x4 : Int32} {u v u0 u1 u2 : Int64} {i j i0 i1 i2 i3 i4 : Nat} {p q o0 o1 o2 o3 o4 o5 o6 o7 o8 o9 o10 : Option Value}
/-! 124 mo_init -/
theorem w124_0 : ma_W d 124 Q 0 (some (.ref i) :: l) st H a b = ma_W d 124 Q 1 (some (.ref i) :: l) (.ref i :: st) H a b := wp_aload_n (x := some i) rfl rfl
theorem w124_1 : ma_W d 124 Q 1 l (.ref i :: st) H a b = (ma_cat st ≤ 8 ∧ ma_W d 124 Q 4 l st H a b) := wc_obj (ia := 0) (n := 1) (cn := 0) rfl (by decide +kernel)
theorem w124_4 : ma_W d 124 Q 4 (some (.ref i) :: l) st H a b = ma_W d 124 Q 5 (some (.ref i) :: l) (.ref i :: st) H a b := wp_aload_n (x := some i) rfl rfl
theorem w124_5 : ma_W d 124 Q 5 l st H a b = ma_W d 124 Q 8 l (.int 545 :: st) H a b := wp_sipush rfl (by decide)
theorem w124_8 : ma_W d 124 Q 8 l (.int 545 :: st) H a b = (a + 1 ≤ 9 ∧ b + 545 ≤ 2445 ∧ ma_W d 124 Q 10 l (.ref H.2 :: st) (ma_new H (.inl (.int, 545, .inl fun _ => 0))) (a + 1) (b + 545)) := wp_newi rfl (by decide) (by decide) (by decide) rfl rfl
theorem w124_10 : ma_W d 124 Q 10 l (.ref j :: .ref i :: st) H a b = ma_pf (H.1 i) 8 0 (.ref j) (ma_kH d 124 Q 13 l st H i a b) := wp_put rfl (by decide +kernel) (by decide +kernel) rfl rfl
theorem w124_13 : ma_W d 124 Q 13 (some (.ref i) :: l) st H a b = ma_W d 124 Q 14 (some (.ref i) :: l) (.ref i :: st) H a b := wp_aload_n (x := some i) rfl rfl
theorem w124_14 : ma_W d 124 Q 14 l st H a b = ma_W d 124 Q 17 l (.int 545 :: st) H a b := wp_sipush rfl (by decide)
theorem w124_17 : ma_W d 124 Q 17 l (.int 545 :: st) H a b = (a + 1 ≤ 9 ∧ b + 545 ≤ 2445 ∧ ma_W d 124 Q 19 l (.ref H.2 :: st) (ma_new H (.inl (.int, 545, .inl fun _ => 0))) (a + 1) (b + 545)) := wp_newi rfl (by decide) (by decide) (by decide) rfl rfl
theorem w124_19 : ma_W d 124 Q 19 l (.ref j :: .ref i :: st) H a b = ma_pf (H.1 i) 8 1 (.ref j) (ma_kH d 124 Q 22 l st H i a b) := wp_put rfl (by decide +kernel) (by decide +kernel) rfl rfl
theorem w124_22 : ma_W d 124 Q 22 (some (.ref i) :: l) st H a b = ma_W d 124 Q 23 (some (.ref i) :: l) (.ref i :: st) H a b := wp_aload_n (x := some i) rfl rfl
theorem w124_23 : ma_W d 124 Q 23 l st H a b = ma_W d 124 Q 26 l (.int 1090 :: st) H a b := wp_sipush rfl (by decide)
theorem w124_26 : ma_W d 124 Q 26 l (.int 1090 :: st) H a b = (a + 1 ≤ 9 ∧ b + 1090 ≤ 2445 ∧ ma_W d 124 Q 28 l (.ref H.2 :: st) (ma_new H (.inl (.int, 1090, .inl fun _ => 0))) (a + 1) (b + 1090)) := wp_newi rfl (by decide) (by decide) (by decide) rfl rfl
theorem w124_28 : ma_W d 124 Q 28 l (.ref j :: .ref i :: st) H a b = ma_pf (H.1 i) 8 2 (.ref j) (ma_kH d 124 Q 31 l st H i a b) := wp_put rfl (by decide +kernel) (by decide +kernel) rfl rfl
theorem w124_31 : ma_W d 124 Q 31 (some (.ref i) :: l) st H a b = ma_W d 124 Q 32 (some (.ref i) :: l) (.ref i :: st) H a b := wp_aload_n (x := some i) rfl rfl
theorem w124_32 : ma_W d 124 Q 32 l st H a b = ma_W d 124 Q 33 l (.int 2 :: st) H a b := wp_iconst rfl (by decide)
theorem w124_33 : ma_W d 124 Q 33 l (.int 2 :: st) H a b = (a + 1 ≤ 9 ∧ b + 2 ≤ 2445 ∧ ma_W d 124 Q 35 l (.ref H.2 :: st) (ma_new H (.inl (.boolean, 2, .inl fun _ => 0))) (a + 1) (b + 2)) := wp_newz rfl (by decide) (by decide) (by decide) rfl rfl
theorem w124_35 : ma_W d 124 Q 35 l (.ref j :: .ref i :: st) H a b = ma_pf (H.1 i) 8 3 (.ref j) (ma_kH d 124 Q 38 l st H i a b) := wp_put rfl (by decide +kernel) (by decide +kernel) rfl rfl
theorem w124_38 : ma_W d 124 Q 38 (some (.ref i) :: l) st H a b = ma_W d 124 Q 39 (some (.ref i) :: l) (.ref i :: st) H a b := wp_aload_n (x := some i) rfl rfl
theorem w124_39 : ma_W d 124 Q 39 l st H a b = ma_W d 124 Q 40 l (.int 3 :: st) H a b := wp_iconst rfl (by decide)
theorem w124_40 : ma_W d 124 Q 40 l (.int 3 :: st) H a b = (a + 1 ≤ 9 ∧ b + 3 ≤ 2445 ∧ ma_W d 124 Q 42 l (.ref H.2 :: st) (ma_new H (.inl (.int, 3, .inl fun _ => 0))) (a + 1) (b + 3)) := wp_newi rfl (by decide) (by decide) (by decide) rfl rfl
theorem w124_42 : ma_W d 124 Q 42 l (.ref j :: .ref i :: st) H a b = ma_pf (H.1 i) 8 4 (.ref j) (ma_kH d 124 Q 45 l st H i a b) := wp_put rfl (by decide +kernel) (by decide +kernel) rfl rfl
theorem w124_45 : ma_W d 124 Q 45 (some (.ref i) :: l) st H a b = ma_W d 124 Q 46 (some (.ref i) :: l) (.ref i :: st) H a b := wp_aload_n (x := some i) rfl rfl
theorem w124_46 : ma_W d 124 Q 46 l st H a b = ma_W d 124 Q 47 l (.long 1 :: st) H a b := wp_lconst rfl (by decide)
theorem w124_47 : ma_W d 124 Q 47 l (.long u :: .ref i :: st) H a b = ma_pf (H.1 i) 8 6 (.long u) (ma_kH d 124 Q 50 l st H i a b) := wp_put rfl (by decide +kernel) (by decide +kernel) rfl rfl
theorem w124_50 : ma_W d 124 Q 50 (some (.ref i) :: l) st H a b = ma_W d 124 Q 51 (some (.ref i) :: l) (.ref i :: st) H a b := wp_aload_n (x := some i) rfl rfl
theorem w124_51 : ma_W d 124 Q 51 l st H a b = ma_W d 124 Q 54 l (.int 150 :: st) H a b := wp_sipush rfl (by decide)
theorem w124_54 : ma_W d 124 Q 54 l (.int 150 :: st) H a b = (a + 1 ≤ 9 ∧ b + 150 ≤ 2445 ∧ ma_W d 124 Q 56 l (.ref H.2 :: st) (ma_new H (.inl (.int, 150, .inl fun _ => 0))) (a + 1) (b + 150)) := wp_newi rfl (by decide) (by decide) (by decide) rfl rfl
theorem w124_56 : ma_W d 124 Q 56 l (.ref j :: .ref i :: st) H a b = ma_pf (H.1 i) 8 8 (.ref j) (ma_kH d 124 Q 59 l st H i a b) := wp_put rfl (by decide +kernel) (by decide +kernel) rfl rfl
theorem w124_59 : ma_W d 124 Q 59 (some (.ref i) :: l) st H a b = ma_W d 124 Q 60 (some (.ref i) :: l) (.ref i :: st) H a b := wp_aload_n (x := some i) rfl rfl
theorem w124_60 : ma_W d 124 Q 60 l st H a b = ma_W d 124 Q 62 l (.int 58 :: st) H a b := wp_bipush rfl (by decide)
theorem w124_62 : ma_W d 124 Q 62 l (.int 58 :: st) H a b = (a + 1 ≤ 9 ∧ b + 58 ≤ 2445 ∧ ma_W d 124 Q 64 l (.ref H.2 :: st) (ma_new H (.inl (.int, 58, .inl fun _ => 0))) (a + 1) (b + 58)) := wp_newi rfl (by decide) (by decide) (by decide) rfl rfl
theorem w124_64 : ma_W d 124 Q 64 l (.ref j :: .ref i :: st) H a b = ma_pf (H.1 i) 8 15 (.ref j) (ma_kH d 124 Q 67 l st H i a b) := wp_put rfl (by decide +kernel) (by decide +kernel) rfl rfl
theorem w124_67 : ma_W d 124 Q 67 (some (.ref i) :: l) st H a b = ma_W d 124 Q 68 (some (.ref i) :: l) (.ref i :: st) H a b := wp_aload_n (x := some i) rfl rfl
theorem w124_68 : ma_W d 124 Q 68 l st H a b = ma_W d 124 Q 70 l (.int 16 :: st) H a b := wp_bipush rfl (by decide)
theorem w124_70 : ma_W d 124 Q 70 l (.int 16 :: st) H a b = (a + 1 ≤ 9 ∧ b + 16 ≤ 2445 ∧ ma_W d 124 Q 72 l (.ref H.2 :: st) (ma_new H (.inl (.int, 16, .inl fun _ => 0))) (a + 1) (b + 16)) := wp_newi rfl (by decide) (by decide) (by decide) rfl rfl
theorem w124_72 : ma_W d 124 Q 72 l (.ref j :: .ref i :: st) H a b = ma_pf (H.1 i) 8 16 (.ref j) (ma_kH d 124 Q 75 l st H i a b) := wp_put rfl (by decide +kernel) (by decide +kernel) rfl rfl
theorem w124_75 : ma_W d 124 Q 75 (some (.ref i) :: l) st H a b = ma_W d 124 Q 76 (some (.ref i) :: l) (.ref i :: st) H a b := wp_aload_n (x := some i) rfl rfl
theorem w124_76 : ma_W d 124 Q 76 l st H a b = ma_W d 124 Q 78 l (.int 36 :: st) H a b := wp_bipush rfl (by decide)
theorem w124_78 : ma_W d 124 Q 78 l (.int 36 :: st) H a b = (a + 1 ≤ 9 ∧ b + 36 ≤ 2445 ∧ ma_W d 124 Q 80 l (.ref H.2 :: st) (ma_new H (.inl (.int, 36, .inl fun _ => 0))) (a + 1) (b + 36)) := wp_newi rfl (by decide) (by decide) (by decide) rfl rfl
theorem w124_80 : ma_W d 124 Q 80 l (.ref j :: .ref i :: st) H a b = ma_pf (H.1 i) 8 17 (.ref j) (ma_kH d 124 Q 83 l st H i a b) := wp_put rfl (by decide +kernel) (by decide +kernel) rfl rfl
theorem w124_83 : ma_W d 124 Q 83 l [] H a b = Q none H := wp_vret rfl rfl
theorem e124 : ma_MW (d + 1) 124 [.ref i] H Q = ma_W d 124 Q 0 [some (.ref i)] [] H 0 0 := wp_enter (by decide) (Nat.le_of_ble_eq_true rfl) rfl
/-! 125 mo_in -/
theorem w125_0 : ma_W d 125 Q 0 (some (.int x) :: l) st H 0 0 = ma_W d 125 Q 1 (some (.int x) :: l) (.int x :: st) H 0 0 := wp_iload_n rfl rfl
theorem w125_1 : ma_W d 125 Q 1 (o0 :: some (.int x) :: l) st H 0 0 = ma_W d 125 Q 2 (o0 :: some (.int x) :: l) (.int x :: st) H 0 0 := wp_iload_n rfl rfl
theorem w125_2 : ma_W d 125 Q 2 l (.int y :: .int x :: st) H 0 0 = ma_if (x < y) d 125 Q 14 5 l st H 0 0 := wp_ic (id := 125) (pc := 2) (c := .lt) (off := 12) 14 rfl (by decide)
theorem w125_5 : ma_W d 125 Q 5 (some (.int x) :: l) st H 0 0 = ma_W d 125 Q 6 (some (.int x) :: l) (.int x :: st) H 0 0 := wp_iload_n rfl rfl
theorem w125_6 : ma_W d 125 Q 6 (o0 :: o1 :: some (.int x) :: l) st H 0 0 = ma_W d 125 Q 7 (o0 :: o1 :: some (.int x) :: l) (.int x :: st) H 0 0 := wp_iload_n rfl rfl
theorem w125_7 : ma_W d 125 Q 7 l (.int y :: .int x :: st) H 0 0 = ma_if (y < x) d 125 Q 14 10 l st H 0 0 := wp_ic (id := 125) (pc := 7) (c := .gt) (off := 7) 14 rfl (by decide)
theorem w125_10 : ma_W d 125 Q 10 l st H 0 0 = ma_W d 125 Q 11 l (.int 1 :: st) H 0 0 := wp_iconst rfl (by decide)
theorem w125_11 : ma_W d 125 Q 11 l st H 0 0 = ma_W d 125 Q 15 l st H 0 0 := wp_goto 15 rfl (by decide)
theorem w125_14 : ma_W d 125 Q 14 l st H 0 0 = ma_W d 125 Q 15 l (.int 0 :: st) H 0 0 := wp_iconst rfl (by decide)
theorem w125_15 : ma_W d 125 Q 15 l [.int x] H 0 0 = ((x = 0 ∨ x = 1) ∧ Q (some (.int x)) H) := wp_zret rfl rfl
theorem e125 : ma_MW (d + 1) 125 [.int x0, .int x1, .int x2] H Q = ma_W d 125 Q 0 [some (.int x0), some (.int x1), some (.int x2)] [] H 0 0 := wp_enter (by decide) (Nat.le_of_ble_eq_true rfl) rfl
/-! 126 mo_has -/
theorem w126_0 : ma_W d 126 Q 0 (some (.int x) :: l) st H 0 0 = ma_W d 126 Q 1 (some (.int x) :: l) (.int x :: st) H 0 0 := wp_iload_n rfl rfl
theorem w126_1 : ma_W d 126 Q 1 (o0 :: some (.int x) :: l) st H 0 0 = ma_W d 126 Q 2 (o0 :: some (.int x) :: l) (.int x :: st) H 0 0 := wp_iload_n rfl rfl
theorem w126_2 : ma_W d 126 Q 2 l (.int y :: .int x :: st) H 0 0 = ma_W d 126 Q 3 l (.int (x >>> (y &&& 31)) :: st) H 0 0 := wp_ishr rfl
theorem w126_3 : ma_W d 126 Q 3 l st H 0 0 = ma_W d 126 Q 4 l (.int 1 :: st) H 0 0 := wp_iconst rfl (by decide)
theorem w126_4 : ma_W d 126 Q 4 l (.int y :: .int x :: st) H 0 0 = ma_W d 126 Q 5 l (.int (x &&& y) :: st) H 0 0 := wp_iand rfl
theorem w126_5 : ma_W d 126 Q 5 l st H 0 0 = ma_W d 126 Q 6 l (.int 1 :: st) H 0 0 := wp_iconst rfl (by decide)
theorem w126_6 : ma_W d 126 Q 6 l (.int y :: .int x :: st) H 0 0 = ma_if (x = y) d 126 Q 9 13 l st H 0 0 := wp_ic (id := 126) (pc := 6) (c := .ne) (off := 7) 13 rfl (by decide)
theorem w126_9 : ma_W d 126 Q 9 l st H 0 0 = ma_W d 126 Q 10 l (.int 1 :: st) H 0 0 := wp_iconst rfl (by decide)
theorem w126_10 : ma_W d 126 Q 10 l st H 0 0 = ma_W d 126 Q 14 l st H 0 0 := wp_goto 14 rfl (by decide)
theorem w126_13 : ma_W d 126 Q 13 l st H 0 0 = ma_W d 126 Q 14 l (.int 0 :: st) H 0 0 := wp_iconst rfl (by decide)
theorem w126_14 : ma_W d 126 Q 14 l [.int x] H 0 0 = ((x = 0 ∨ x = 1) ∧ Q (some (.int x)) H) := wp_zret rfl rfl
theorem e126 : ma_MW (d + 1) 126 [.int x0, .int x1] H Q = ma_W d 126 Q 0 [some (.int x0), some (.int x1)] [] H 0 0 := wp_enter (by decide) (Nat.le_of_ble_eq_true rfl) rfl
/-! 127 mo_badBy -/
theorem w127_0 : ma_W d 127 Q 0 (some (.ref i) :: l) st H 0 0 = ma_W d 127 Q 1 (some (.ref i) :: l) (.ref i :: st) H 0 0 := wp_aload_n (x := some i) rfl rfl
theorem w127_1 : ma_W d 127 Q 1 l (.ref i :: st) H 0 0 = ma_gf (H.1 i) 8 4 (ma_kV d 127 Q 4 l st H 0 0) := wp_get rfl (by decide +kernel)
theorem w127_4 : ma_W d 127 Q 4 l st H 0 0 = ma_W d 127 Q 5 l (.int 0 :: st) H 0 0 := wp_iconst rfl (by decide)
theorem w127_5 : ma_W d 127 Q 5 l (.int x :: .ref i :: st) H 0 0 = ma_W d 127 Q 6 l (.int x :: .ref i :: .int x :: .ref i :: st) H 0 0 := wp_dup2 rfl rfl rfl
theorem w127_6 : ma_W d 127 Q 6 l (.int x :: .ref i :: st) H 0 0 = ma_ial (H.1 i) x (ma_kV d 127 Q 7 l st H 0 0) := wp_iald rfl
theorem w127_7 : ma_W d 127 Q 7 l st H 0 0 = ma_W d 127 Q 8 l (.int 1 :: st) H 0 0 := wp_iconst rfl (by decide)
theorem w127_8 : ma_W d 127 Q 8 l (.int y :: .int x :: st) H 0 0 = ma_W d 127 Q 9 l (.int (x + y) :: st) H 0 0 := wp_iadd rfl
theorem w127_9 : ma_W d 127 Q 9 l (.int y :: .int x :: .ref i :: st) H 0 0 = (4 ≤ i ∧ ma_ias (H.1 i) x y (ma_kH d 127 Q 10 l st H i 0 0)) := wp_iast rfl
theorem w127_10 : ma_W d 127 Q 10 (o0 :: some (.int x) :: l) st H 0 0 = ma_W d 127 Q 11 (o0 :: some (.int x) :: l) (.int x :: st) H 0 0 := wp_iload_n rfl rfl
theorem w127_11 : ma_W d 127 Q 11 l [.int x] H 0 0 = Q (some (.int x)) H := wp_iret rfl rfl
theorem e127 : ma_MW (d + 1) 127 [.ref i, .int x0] H Q = ma_W d 127 Q 0 [some (.ref i), some (.int x0)] [] H 0 0 := wp_enter (by decide) (Nat.le_of_ble_eq_true rfl) rfl
/-! 128 mo_bad -/
theorem w128_0 : ma_W d 128 Q 0 (some (.ref i) :: l) st H 0 0 = ma_W d 128 Q 1 (some (.ref i) :: l) (.ref i :: st) H 0 0 := wp_aload_n (x := some i) rfl rfl
theorem w128_1 : ma_W d 128 Q 1 l st H 0 0 = ma_W d 128 Q 3 l (.int (-2) :: st) H 0 0 := wp_bipush rfl (by decide)
theorem w128_3 : ma_W d 128 Q 3 l (.int x0 :: .ref i :: st) H 0 0 = (ma_cat st ≤ 8 ∧ ma_cv (H.1 i) 8 d 127 [.ref i, .int x0] H (ma_kC d 128 Q 6 l st 0 0)) := wc_V0 (ia := 127) (n := 2) (cn := 8) rfl (by decide +kernel) (fun _ => rfl) rfl rfl
theorem w128_6 : ma_W d 128 Q 6 l [.int x] H 0 0 = Q (some (.int x)) H := wp_iret rfl rfl
theorem e128 : ma_MW (d + 1) 128 [.ref i] H Q = ma_W d 128 Q 0 [some (.ref i)] [] H 0 0 := wp_enter (by decide) (Nat.le_of_ble_eq_true rfl) rfl
/-! 129 mo_no -/
theorem w129_0 : ma_W d 129 Q 0 (some (.ref i) :: l) st H 0 0 = ma_W d 129 Q 1 (some (.ref i) :: l) (.ref i :: st) H 0 0 := wp_aload_n (x := some i) rfl rfl
theorem w129_1 : ma_W d 129 Q 1 l (.ref i :: st) H 0 0 = ma_gf (H.1 i) 8 4 (ma_kV d 129 Q 4 l st H 0 0) := wp_get rfl (by decide +kernel)
theorem w129_4 : ma_W d 129 Q 4 l st H 0 0 = ma_W d 129 Q 5 l (.int 1 :: st) H 0 0 := wp_iconst rfl (by decide)
theorem w129_5 : ma_W d 129 Q 5 l (.int x :: .ref i :: st) H 0 0 = ma_W d 129 Q 6 l (.int x :: .ref i :: .int x :: .ref i :: st) H 0 0 := wp_dup2 rfl rfl rfl
theorem w129_6 : ma_W d 129 Q 6 l (.int x :: .ref i :: st) H 0 0 = ma_ial (H.1 i) x (ma_kV d 129 Q 7 l st H 0 0) := wp_iald rfl
theorem w129_7 : ma_W d 129 Q 7 l st H 0 0 = ma_W d 129 Q 8 l (.int 1 :: st) H 0 0 := wp_iconst rfl (by decide)
theorem w129_8 : ma_W d 129 Q 8 l (.int y :: .int x :: st) H 0 0 = ma_W d 129 Q 9 l (.int (x + y) :: st) H 0 0 := wp_iadd rfl
theorem w129_9 : ma_W d 129 Q 9 l (.int y :: .int x :: .ref i :: st) H 0 0 = (4 ≤ i ∧ ma_ias (H.1 i) x y (ma_kH d 129 Q 10 l st H i 0 0)) := wp_iast rfl
theorem w129_10 : ma_W d 129 Q 10 l st H 0 0 = ma_W d 129 Q 12 l (.int (-3) :: st) H 0 0 := wp_bipush rfl (by decide)
theorem w129_12 : ma_W d 129 Q 12 l [.int x] H 0 0 = Q (some (.int x)) H := wp_iret rfl rfl
theorem e129 : ma_MW (d + 1) 129 [.ref i] H Q = ma_W d 129 Q 0 [some (.ref i)] [] H 0 0 := wp_enter (by decide) (Nat.le_of_ble_eq_true rfl) rfl
/-! 130 mo_full -/
theorem w130_0 : ma_W d 130 Q 0 (some (.ref i) :: l) st H 0 0 = ma_W d 130 Q 1 (some (.ref i) :: l) (.ref i :: st) H 0 0 := wp_aload_n (x := some i) rfl rfl
theorem w130_1 : ma_W d 130 Q 1 l (.ref i :: st) H 0 0 = ma_gf (H.1 i) 8 4 (ma_kV d 130 Q 4 l st H 0 0) := wp_get rfl (by decide +kernel)
theorem w130_4 : ma_W d 130 Q 4 l st H 0 0 = ma_W d 130 Q 5 l (.int 2 :: st) H 0 0 := wp_iconst rfl (by decide)
theorem w130_5 : ma_W d 130 Q 5 l (.int x :: .ref i :: st) H 0 0 = ma_W d 130 Q 6 l (.int x :: .ref i :: .int x :: .ref i :: st) H 0 0 := wp_dup2 rfl rfl rfl
theorem w130_6 : ma_W d 130 Q 6 l (.int x :: .ref i :: st) H 0 0 = ma_ial (H.1 i) x (ma_kV d 130 Q 7 l st H 0 0) := wp_iald rfl
theorem w130_7 : ma_W d 130 Q 7 l st H 0 0 = ma_W d 130 Q 8 l (.int 1 :: st) H 0 0 := wp_iconst rfl (by decide)
theorem w130_8 : ma_W d 130 Q 8 l (.int y :: .int x :: st) H 0 0 = ma_W d 130 Q 9 l (.int (x + y) :: st) H 0 0 := wp_iadd rfl
theorem w130_9 : ma_W d 130 Q 9 l (.int y :: .int x :: .ref i :: st) H 0 0 = (4 ≤ i ∧ ma_ias (H.1 i) x y (ma_kH d 130 Q 10 l st H i 0 0)) := wp_iast rfl
theorem w130_10 : ma_W d 130 Q 10 l st H 0 0 = ma_W d 130 Q 12 l (.int (-4) :: st) H 0 0 := wp_bipush rfl (by decide)
theorem w130_12 : ma_W d 130 Q 12 l [.int x] H 0 0 = Q (some (.int x)) H := wp_iret rfl rfl
theorem e130 : ma_MW (d + 1) 130 [.ref i] H Q = ma_W d 130 Q 0 [some (.ref i)] [] H 0 0 := wp_enter (by decide) (Nat.le_of_ble_eq_true rfl) rfl
/-! 131 mo_bring -/
theorem w131_0 : ma_W d 131 Q 0 l st H 0 0 = ma_W d 131 Q 1 l (.int 0 :: st) H 0 0 := wp_iconst rfl (by decide)
theorem w131_1 : ma_W d 131 Q 1 (o0 :: o1 :: o2 :: o3 :: o4 :: p :: l) (.int x :: st) H 0 0 = ma_W d 131 Q 3 (o0 :: o1 :: o2 :: o3 :: ma_clr o4 :: some (.int x) :: l) st H 0 0 := wp_istore (id := 131) (pc := 1) (k := 5) rfl (Nat.succ_lt_succ (Nat.succ_lt_succ (Nat.succ_lt_succ (Nat.succ_lt_succ (Nat.succ_lt_succ (Nat.zero_lt_succ _))))))
theorem w131_3 : ma_W d 131 Q 3 (o0 :: o1 :: o2 :: o3 :: o4 :: some (.int x) :: l) st H 0 0 = ma_W d 131 Q 5 (o0 :: o1 :: o2 :: o3 :: o4 :: some (.int x) :: l) (.int x :: st) H 0 0 := wp_iload rfl rfl
theorem w131_5 : ma_W d 131 Q 5 (o0 :: o1 :: o2 :: o3 :: some (.int x) :: l) st H 0 0 = ma_W d 131 Q 7 (o0 :: o1 :: o2 :: o3 :: some (.int x) :: l) (.int x :: st) H 0 0 := wp_iload rfl rfl
theorem w131_7 : ma_W d 131 Q 7 l (.int y :: .int x :: st) H 0 0 = ma_if (y ≤ x) d 131 Q 28 10 l st H 0 0 := wp_ic (id := 131) (pc := 7) (c := .ge) (off := 21) 28 rfl (by decide)
theorem w131_10 : ma_W d 131 Q 10 (o0 :: o1 :: some (.ref i) :: l) st H 0 0 = ma_W d 131 Q 11 (o0 :: o1 :: some (.ref i) :: l) (.ref i :: st) H 0 0 := wp_aload_n (x := some i) rfl rfl
theorem w131_11 : ma_W d 131 Q 11 (o0 :: o1 :: o2 :: some (.int x) :: l) st H 0 0 = ma_W d 131 Q 12 (o0 :: o1 :: o2 :: some (.int x) :: l) (.int x :: st) H 0 0 := wp_iload_n rfl rfl
theorem w131_12 : ma_W d 131 Q 12 (o0 :: o1 :: o2 :: o3 :: o4 :: some (.int x) :: l) st H 0 0 = ma_W d 131 Q 14 (o0 :: o1 :: o2 :: o3 :: o4 :: some (.int x) :: l) (.int x :: st) H 0 0 := wp_iload rfl rfl
theorem w131_14 : ma_W d 131 Q 14 l (.int y :: .int x :: st) H 0 0 = ma_W d 131 Q 15 l (.int (x + y) :: st) H 0 0 := wp_iadd rfl
theorem w131_15 : ma_W d 131 Q 15 (some (.ref i) :: l) st H 0 0 = ma_W d 131 Q 16 (some (.ref i) :: l) (.ref i :: st) H 0 0 := wp_aload_n (x := some i) rfl rfl
theorem w131_16 : ma_W d 131 Q 16 (o0 :: some (.int x) :: l) st H 0 0 = ma_W d 131 Q 17 (o0 :: some (.int x) :: l) (.int x :: st) H 0 0 := wp_iload_n rfl rfl
theorem w131_17 : ma_W d 131 Q 17 (o0 :: o1 :: o2 :: o3 :: o4 :: some (.int x) :: l) st H 0 0 = ma_W d 131 Q 19 (o0 :: o1 :: o2 :: o3 :: o4 :: some (.int x) :: l) (.int x :: st) H 0 0 := wp_iload rfl rfl
theorem w131_19 : ma_W d 131 Q 19 l (.int y :: .int x :: st) H 0 0 = ma_W d 131 Q 20 l (.int (x + y) :: st) H 0 0 := wp_iadd rfl
theorem w131_20 : ma_W d 131 Q 20 l (.int x :: .ref i :: st) H 0 0 = ma_ial (H.1 i) x (ma_kV d 131 Q 21 l st H 0 0) := wp_iald rfl
theorem w131_21 : ma_W d 131 Q 21 l (.int y :: .int x :: .ref i :: st) H 0 0 = (4 ≤ i ∧ ma_ias (H.1 i) x y (ma_kH d 131 Q 22 l st H i 0 0)) := wp_iast rfl
theorem w131_22 : ma_W d 131 Q 22 (o0 :: o1 :: o2 :: o3 :: o4 :: some (.int x) :: l) st H 0 0 = ma_W d 131 Q 25 (o0 :: o1 :: o2 :: o3 :: ma_clr o4 :: some (.int (x + 1)) :: l) st H 0 0 := wp_iinc (id := 131) (pc := 22) (k := 5) (n := 1) rfl (Nat.succ_lt_succ (Nat.succ_lt_succ (Nat.succ_lt_succ (Nat.succ_lt_succ (Nat.succ_lt_succ (Nat.zero_lt_succ _)))))) rfl (by decide)
theorem w131_25 : ma_W d 131 Q 25 l st H 0 0 = ma_W d 131 Q 3 l st H 0 0 := wp_goto 3 rfl (by decide)
theorem w131_28 : ma_W d 131 Q 28 l [] H 0 0 = Q none H := wp_vret rfl rfl
theorem e131 : ma_MW (d + 1) 131 [.ref i0, .int x1, .ref i2, .int x3, .int x4] H Q = ma_W d 131 Q 0 [some (.ref i0), some (.int x1), some (.ref i2), some (.int x3), some (.int x4), none] [] H 0 0 := wp_enter (by decide) (Nat.le_of_ble_eq_true rfl) rfl
/-! 132 mo_begin -/
theorem w132_0 : ma_W d 132 Q 0 l st H 0 0 = ma_W d 132 Q 1 l (.int 0 :: st) H 0 0 := wp_iconst rfl (by decide)
theorem w132_1 : ma_W d 132 Q 1 (o0 :: p :: l) (.int x :: st) H 0 0 = ma_W d 132 Q 2 (ma_clr o0 :: some (.int x) :: l) st H 0 0 := wp_istore_n (id := 132) (pc := 1) (k := 1) rfl (Nat.succ_lt_succ (Nat.zero_lt_succ _))
theorem w132_2 : ma_W d 132 Q 2 (o0 :: some (.int x) :: l) st H 0 0 = ma_W d 132 Q 3 (o0 :: some (.int x) :: l) (.int x :: st) H 0 0 := wp_iload_n rfl rfl
theorem w132_3 : ma_W d 132 Q 3 l st H 0 0 = ma_W d 132 Q 6 l (.int 545 :: st) H 0 0 := wp_sipush rfl (by decide)
theorem w132_6 : ma_W d 132 Q 6 l (.int y :: .int x :: st) H 0 0 = ma_if (y ≤ x) d 132 Q 19 9 l st H 0 0 := wp_ic (id := 132) (pc := 6) (c := .ge) (off := 13) 19 rfl (by decide)
theorem w132_9 : ma_W d 132 Q 9 (some (.ref i) :: l) st H 0 0 = ma_W d 132 Q 10 (some (.ref i) :: l) (.ref i :: st) H 0 0 := wp_aload_n (x := some i) rfl rfl
theorem w132_10 : ma_W d 132 Q 10 (o0 :: some (.int x) :: l) st H 0 0 = ma_W d 132 Q 11 (o0 :: some (.int x) :: l) (.int x :: st) H 0 0 := wp_iload_n rfl rfl
theorem w132_11 : ma_W d 132 Q 11 l st H 0 0 = ma_W d 132 Q 12 l (.int 0 :: st) H 0 0 := wp_iconst rfl (by decide)
theorem w132_12 : ma_W d 132 Q 12 l (.int y :: .int x :: .ref i :: st) H 0 0 = (4 ≤ i ∧ ma_ias (H.1 i) x y (ma_kH d 132 Q 13 l st H i 0 0)) := wp_iast rfl
theorem w132_13 : ma_W d 132 Q 13 (o0 :: some (.int x) :: l) st H 0 0 = ma_W d 132 Q 16 (ma_clr o0 :: some (.int (x + 1)) :: l) st H 0 0 := wp_iinc (id := 132) (pc := 13) (k := 1) (n := 1) rfl (Nat.succ_lt_succ (Nat.zero_lt_succ _)) rfl (by decide)
theorem w132_16 : ma_W d 132 Q 16 l st H 0 0 = ma_W d 132 Q 2 l st H 0 0 := wp_goto 2 rfl (by decide)
theorem w132_19 : ma_W d 132 Q 19 l [] H 0 0 = Q none H := wp_vret rfl rfl
theorem e132 : ma_MW (d + 1) 132 [.ref i0] H Q = ma_W d 132 Q 0 [some (.ref i0), none] [] H 0 0 := wp_enter (by decide) (Nat.le_of_ble_eq_true rfl) rfl
/-! 133 mo_all -/
theorem w133_0 : ma_W d 133 Q 0 (some (.ref i) :: l) st H 0 0 = ma_W d 133 Q 1 (some (.ref i) :: l) (.ref i :: st) H 0 0 := wp_aload_n (x := some i) rfl rfl
theorem w133_1 : ma_W d 133 Q 1 l st H 0 0 = ma_W d 133 Q 3 l (.int 7 :: st) H 0 0 := wp_bipush rfl (by decide)
theorem w133_3 : ma_W d 133 Q 3 l (.int x :: .ref i :: st) H 0 0 = ma_ial (H.1 i) x (ma_kV d 133 Q 4 l st H 0 0) := wp_iald rfl
theorem w133_4 : ma_W d 133 Q 4 (some (.ref i) :: l) st H 0 0 = ma_W d 133 Q 5 (some (.ref i) :: l) (.ref i :: st) H 0 0 := wp_aload_n (x := some i) rfl rfl
theorem w133_5 : ma_W d 133 Q 5 l st H 0 0 = ma_W d 133 Q 7 l (.int 8 :: st) H 0 0 := wp_bipush rfl (by decide)
theorem w133_7 : ma_W d 133 Q 7 l (.int x :: .ref i :: st) H 0 0 = ma_ial (H.1 i) x (ma_kV d 133 Q 8 l st H 0 0) := wp_iald rfl
theorem w133_8 : ma_W d 133 Q 8 l (.int y :: .int x :: st) H 0 0 = ma_W d 133 Q 9 l (.int (x + y) :: st) H 0 0 := wp_iadd rfl
theorem w133_9 : ma_W d 133 Q 9 (some (.ref i) :: l) st H 0 0 = ma_W d 133 Q 10 (some (.ref i) :: l) (.ref i :: st) H 0 0 := wp_aload_n (x := some i) rfl rfl
theorem w133_10 : ma_W d 133 Q 10 l st H 0 0 = ma_W d 133 Q 12 l (.int 9 :: st) H 0 0 := wp_bipush rfl (by decide)
theorem w133_12 : ma_W d 133 Q 12 l (.int x :: .ref i :: st) H 0 0 = ma_ial (H.1 i) x (ma_kV d 133 Q 13 l st H 0 0) := wp_iald rfl
theorem w133_13 : ma_W d 133 Q 13 l (.int y :: .int x :: st) H 0 0 = ma_W d 133 Q 14 l (.int (x + y) :: st) H 0 0 := wp_iadd rfl
theorem w133_14 : ma_W d 133 Q 14 l [.int x] H 0 0 = Q (some (.int x)) H := wp_iret rfl rfl
theorem e133 : ma_MW (d + 1) 133 [.ref i0] H Q = ma_W d 133 Q 0 [some (.ref i0)] [] H 0 0 := wp_enter (by decide) (Nat.le_of_ble_eq_true rfl) rfl
/-! 134 mo_game -/
theorem w134_0 : ma_W d 134 Q 0 (o0 :: some (.int x) :: l) st H 0 0 = ma_W d 134 Q 1 (o0 :: some (.int x) :: l) (.int x :: st) H 0 0 := wp_iload_n rfl rfl
theorem w134_1 : ma_W d 134 Q 1 l st H 0 0 = ma_W d 134 Q 2 l (.int 0 :: st) H 0 0 := wp_iconst rfl (by decide)
theorem w134_2 : ma_W d 134 Q 2 l st H 0 0 = ma_W d 134 Q 3 l (.int 5 :: st) H 0 0 := wp_iconst rfl (by decide)
theorem w134_3 : ma_W d 134 Q 3 l (.int x2 :: .int x1 :: .int x0 :: st) H 0 0 = (ma_cat st ≤ 8 ∧ ma_MW d 125 [.int x0, .int x1, .int x2] H (ma_kC d 134 Q 6 l st 0 0)) := wc_S0 (ia := 125) (n := 3) (cn := 8) (k := 1) rfl (by decide +kernel) (by decide) (fun _ => rfl) rfl rfl
theorem w134_6 : ma_W d 134 Q 6 l (.int x :: st) H 0 0 = ma_if (x = 0) d 134 Q 18 9 l st H 0 0 := wp_c0 (id := 134) (pc := 6) (c := .eq) (off := 12) 18 rfl (by decide)
theorem w134_9 : ma_W d 134 Q 9 (o0 :: o1 :: some (.int x) :: l) st H 0 0 = ma_W d 134 Q 10 (o0 :: o1 :: some (.int x) :: l) (.int x :: st) H 0 0 := wp_iload_n rfl rfl
theorem w134_10 : ma_W d 134 Q 10 l st H 0 0 = ma_W d 134 Q 11 l (.int 0 :: st) H 0 0 := wp_iconst rfl (by decide)
theorem w134_11 : ma_W d 134 Q 11 l st H 0 0 = ma_W d 134 Q 12 l (.int 5 :: st) H 0 0 := wp_iconst rfl (by decide)
theorem w134_12 : ma_W d 134 Q 12 l (.int x2 :: .int x1 :: .int x0 :: st) H 0 0 = (ma_cat st ≤ 8 ∧ ma_MW d 125 [.int x0, .int x1, .int x2] H (ma_kC d 134 Q 15 l st 0 0)) := wc_S0 (ia := 125) (n := 3) (cn := 8) (k := 1) rfl (by decide +kernel) (by decide) (fun _ => rfl) rfl rfl
theorem w134_15 : ma_W d 134 Q 15 l (.int x :: st) H 0 0 = ma_if (x = 0) d 134 Q 18 23 l st H 0 0 := wp_c0 (id := 134) (pc := 15) (c := .ne) (off := 8) 23 rfl (by decide)
theorem w134_18 : ma_W d 134 Q 18 (some (.ref i) :: l) st H 0 0 = ma_W d 134 Q 19 (some (.ref i) :: l) (.ref i :: st) H 0 0 := wp_aload_n (x := some i) rfl rfl
theorem w134_19 : ma_W d 134 Q 19 l (.ref i :: st) H 0 0 = (ma_cat st ≤ 8 ∧ ma_cv (H.1 i) 8 d 128 [.ref i] H (ma_kC d 134 Q 22 l st 0 0)) := wc_V0 (ia := 128) (n := 1) (cn := 8) rfl (by decide +kernel) (fun _ => rfl) rfl rfl
theorem w134_22 : ma_W d 134 Q 22 l [.int x] H 0 0 = Q (some (.int x)) H := wp_iret rfl rfl
theorem w134_23 : ma_W d 134 Q 23 (some (.ref i) :: l) st H 0 0 = ma_W d 134 Q 24 (some (.ref i) :: l) (.ref i :: st) H 0 0 := wp_aload_n (x := some i) rfl rfl
theorem w134_24 : ma_W d 134 Q 24 l (.ref i :: st) H 0 0 = ma_gf (H.1 i) 8 0 (ma_kV d 134 Q 27 l st H 0 0) := wp_get rfl (by decide +kernel)
theorem w134_27 : ma_W d 134 Q 27 l (.ref i0 :: st) H 0 0 = (ma_cat st ≤ 8 ∧ ma_MW d 133 [.ref i0] H (ma_kC d 134 Q 30 l st 0 0)) := wc_S0 (ia := 133) (n := 1) (cn := 8) (k := 1) rfl (by decide +kernel) (by decide) (fun _ => rfl) rfl rfl
theorem w134_30 : ma_W d 134 Q 30 (o0 :: o1 :: o2 :: p :: l) (.int x :: st) H 0 0 = ma_W d 134 Q 31 (o0 :: o1 :: ma_clr o2 :: some (.int x) :: l) st H 0 0 := wp_istore_n (id := 134) (pc := 30) (k := 3) rfl (Nat.succ_lt_succ (Nat.succ_lt_succ (Nat.succ_lt_succ (Nat.zero_lt_succ _))))
theorem w134_31 : ma_W d 134 Q 31 (some (.ref i) :: l) st H 0 0 = ma_W d 134 Q 32 (some (.ref i) :: l) (.ref i :: st) H 0 0 := wp_aload_n (x := some i) rfl rfl
theorem w134_32 : ma_W d 134 Q 32 l (.ref i :: st) H 0 0 = ma_gf (H.1 i) 8 0 (ma_kV d 134 Q 35 l st H 0 0) := wp_get rfl (by decide +kernel)
theorem w134_35 : ma_W d 134 Q 35 l (.ref i0 :: st) H 0 0 = (ma_cat st ≤ 8 ∧ ma_MW d 132 [.ref i0] H (ma_kC d 134 Q 38 l st 0 0)) := wc_S0 (ia := 132) (n := 1) (cn := 8) (k := 1) rfl (by decide +kernel) (by decide) (fun _ => rfl) rfl rfl
theorem w134_38 : ma_W d 134 Q 38 (some (.ref i) :: l) st H 0 0 = ma_W d 134 Q 39 (some (.ref i) :: l) (.ref i :: st) H 0 0 := wp_aload_n (x := some i) rfl rfl
theorem w134_39 : ma_W d 134 Q 39 l (.ref i :: st) H 0 0 = ma_gf (H.1 i) 8 0 (ma_kV d 134 Q 42 l st H 0 0) := wp_get rfl (by decide +kernel)
theorem w134_42 : ma_W d 134 Q 42 l st H 0 0 = ma_W d 134 Q 43 l (.int 0 :: st) H 0 0 := wp_iconst rfl (by decide)
theorem w134_43 : ma_W d 134 Q 43 (o0 :: some (.int x) :: l) st H 0 0 = ma_W d 134 Q 44 (o0 :: some (.int x) :: l) (.int x :: st) H 0 0 := wp_iload_n rfl rfl
theorem w134_44 : ma_W d 134 Q 44 l (.int y :: .int x :: .ref i :: st) H 0 0 = (4 ≤ i ∧ ma_ias (H.1 i) x y (ma_kH d 134 Q 45 l st H i 0 0)) := wp_iast rfl
theorem w134_45 : ma_W d 134 Q 45 (some (.ref i) :: l) st H 0 0 = ma_W d 134 Q 46 (some (.ref i) :: l) (.ref i :: st) H 0 0 := wp_aload_n (x := some i) rfl rfl
theorem w134_46 : ma_W d 134 Q 46 l (.ref i :: st) H 0 0 = ma_gf (H.1 i) 8 0 (ma_kV d 134 Q 49 l st H 0 0) := wp_get rfl (by decide +kernel)
theorem w134_49 : ma_W d 134 Q 49 l st H 0 0 = ma_W d 134 Q 50 l (.int 1 :: st) H 0 0 := wp_iconst rfl (by decide)
theorem w134_50 : ma_W d 134 Q 50 (o0 :: o1 :: some (.int x) :: l) st H 0 0 = ma_W d 134 Q 51 (o0 :: o1 :: some (.int x) :: l) (.int x :: st) H 0 0 := wp_iload_n rfl rfl
theorem w134_51 : ma_W d 134 Q 51 l (.int y :: .int x :: .ref i :: st) H 0 0 = (4 ≤ i ∧ ma_ias (H.1 i) x y (ma_kH d 134 Q 52 l st H i 0 0)) := wp_iast rfl
theorem w134_52 : ma_W d 134 Q 52 (o0 :: o1 :: o2 :: some (.int x) :: l) st H 0 0 = ma_W d 134 Q 53 (o0 :: o1 :: o2 :: some (.int x) :: l) (.int x :: st) H 0 0 := wp_iload_n rfl rfl
theorem w134_53 : ma_W d 134 Q 53 l [.int x] H 0 0 = Q (some (.int x)) H := wp_iret rfl rfl
theorem e134 : ma_MW (d + 1) 134 [.ref i, .int x0, .int x1] H Q = ma_W d 134 Q 0 [some (.ref i), some (.int x0), some (.int x1), none] [] H 0 0 := wp_enter (by decide) (Nat.le_of_ble_eq_true rfl) rfl
/-! 135 mo_player -/
theorem w135_0 : ma_W d 135 Q 0 (o0 :: some (.int x) :: l) st H 0 0 = ma_W d 135 Q 1 (o0 :: some (.int x) :: l) (.int x :: st) H 0 0 := wp_iload_n rfl rfl
theorem w135_1 : ma_W d 135 Q 1 l st H 0 0 = ma_W d 135 Q 2 l (.int 0 :: st) H 0 0 := wp_iconst rfl (by decide)
theorem w135_2 : ma_W d 135 Q 2 l st H 0 0 = ma_W d 135 Q 3 l (.int 1 :: st) H 0 0 := wp_iconst rfl (by decide)
theorem w135_3 : ma_W d 135 Q 3 l (.int x2 :: .int x1 :: .int x0 :: st) H 0 0 = (ma_cat st ≤ 8 ∧ ma_MW d 125 [.int x0, .int x1, .int x2] H (ma_kC d 135 Q 6 l st 0 0)) := wc_S0 (ia := 125) (n := 3) (cn := 8) (k := 1) rfl (by decide +kernel) (by decide) (fun _ => rfl) rfl rfl
theorem w135_6 : ma_W d 135 Q 6 l (.int x :: st) H 0 0 = ma_if (x = 0) d 135 Q 18 9 l st H 0 0 := wp_c0 (id := 135) (pc := 6) (c := .eq) (off := 12) 18 rfl (by decide)
theorem w135_9 : ma_W d 135 Q 9 (o0 :: o1 :: some (.int x) :: l) st H 0 0 = ma_W d 135 Q 10 (o0 :: o1 :: some (.int x) :: l) (.int x :: st) H 0 0 := wp_iload_n rfl rfl
theorem w135_10 : ma_W d 135 Q 10 l st H 0 0 = ma_W d 135 Q 11 l (.int 0 :: st) H 0 0 := wp_iconst rfl (by decide)
theorem w135_11 : ma_W d 135 Q 11 l st H 0 0 = ma_W d 135 Q 12 l (.int 5 :: st) H 0 0 := wp_iconst rfl (by decide)
theorem w135_12 : ma_W d 135 Q 12 l (.int x2 :: .int x1 :: .int x0 :: st) H 0 0 = (ma_cat st ≤ 8 ∧ ma_MW d 125 [.int x0, .int x1, .int x2] H (ma_kC d 135 Q 15 l st 0 0)) := wc_S0 (ia := 125) (n := 3) (cn := 8) (k := 1) rfl (by decide +kernel) (by decide) (fun _ => rfl) rfl rfl
theorem w135_15 : ma_W d 135 Q 15 l (.int x :: st) H 0 0 = ma_if (x = 0) d 135 Q 18 23 l st H 0 0 := wp_c0 (id := 135) (pc := 15) (c := .ne) (off := 8) 23 rfl (by decide)
theorem w135_18 : ma_W d 135 Q 18 (some (.ref i) :: l) st H 0 0 = ma_W d 135 Q 19 (some (.ref i) :: l) (.ref i :: st) H 0 0 := wp_aload_n (x := some i) rfl rfl
theorem w135_19 : ma_W d 135 Q 19 l (.ref i :: st) H 0 0 = (ma_cat st ≤ 8 ∧ ma_cv (H.1 i) 8 d 128 [.ref i] H (ma_kC d 135 Q 22 l st 0 0)) := wc_V0 (ia := 128) (n := 1) (cn := 8) rfl (by decide +kernel) (fun _ => rfl) rfl rfl
theorem w135_22 : ma_W d 135 Q 22 l [.int x] H 0 0 = Q (some (.int x)) H := wp_iret rfl rfl
theorem w135_23 : ma_W d 135 Q 23 (some (.ref i) :: l) st H 0 0 = ma_W d 135 Q 24 (some (.ref i) :: l) (.ref i :: st) H 0 0 := wp_aload_n (x := some i) rfl rfl
theorem w135_24 : ma_W d 135 Q 24 l (.ref i :: st) H 0 0 = ma_gf (H.1 i) 8 0 (ma_kV d 135 Q 27 l st H 0 0) := wp_get rfl (by decide +kernel)
theorem w135_27 : ma_W d 135 Q 27 l st H 0 0 = ma_W d 135 Q 28 l (.int 0 :: st) H 0 0 := wp_iconst rfl (by decide)
theorem w135_28 : ma_W d 135 Q 28 (o0 :: some (.int x) :: l) st H 0 0 = ma_W d 135 Q 29 (o0 :: some (.int x) :: l) (.int x :: st) H 0 0 := wp_iload_n rfl rfl
theorem w135_29 : ma_W d 135 Q 29 l (.int y :: .int x :: st) H 0 0 = ma_W d 135 Q 30 l (.int (x + y) :: st) H 0 0 := wp_iadd rfl
theorem w135_30 : ma_W d 135 Q 30 l (.int x :: .ref i :: st) H 0 0 = ma_ial (H.1 i) x (ma_kV d 135 Q 31 l st H 0 0) := wp_iald rfl
theorem w135_31 : ma_W d 135 Q 31 (o0 :: o1 :: o2 :: p :: l) (.int x :: st) H 0 0 = ma_W d 135 Q 32 (o0 :: o1 :: ma_clr o2 :: some (.int x) :: l) st H 0 0 := wp_istore_n (id := 135) (pc := 31) (k := 3) rfl (Nat.succ_lt_succ (Nat.succ_lt_succ (Nat.succ_lt_succ (Nat.zero_lt_succ _))))
theorem w135_32 : ma_W d 135 Q 32 (some (.ref i) :: l) st H 0 0 = ma_W d 135 Q 33 (some (.ref i) :: l) (.ref i :: st) H 0 0 := wp_aload_n (x := some i) rfl rfl
theorem w135_33 : ma_W d 135 Q 33 l (.ref i :: st) H 0 0 = ma_gf (H.1 i) 8 0 (ma_kV d 135 Q 36 l st H 0 0) := wp_get rfl (by decide +kernel)
theorem w135_36 : ma_W d 135 Q 36 l st H 0 0 = ma_W d 135 Q 37 l (.int 0 :: st) H 0 0 := wp_iconst rfl (by decide)
theorem w135_37 : ma_W d 135 Q 37 (o0 :: some (.int x) :: l) st H 0 0 = ma_W d 135 Q 38 (o0 :: some (.int x) :: l) (.int x :: st) H 0 0 := wp_iload_n rfl rfl
theorem w135_38 : ma_W d 135 Q 38 l (.int y :: .int x :: st) H 0 0 = ma_W d 135 Q 39 l (.int (x + y) :: st) H 0 0 := wp_iadd rfl
theorem w135_39 : ma_W d 135 Q 39 (o0 :: o1 :: some (.int x) :: l) st H 0 0 = ma_W d 135 Q 40 (o0 :: o1 :: some (.int x) :: l) (.int x :: st) H 0 0 := wp_iload_n rfl rfl
theorem w135_40 : ma_W d 135 Q 40 l (.int y :: .int x :: .ref i :: st) H 0 0 = (4 ≤ i ∧ ma_ias (H.1 i) x y (ma_kH d 135 Q 41 l st H i 0 0)) := wp_iast rfl
theorem w135_41 : ma_W d 135 Q 41 (some (.ref i) :: l) st H 0 0 = ma_W d 135 Q 42 (some (.ref i) :: l) (.ref i :: st) H 0 0 := wp_aload_n (x := some i) rfl rfl
theorem w135_42 : ma_W d 135 Q 42 l (.ref i :: st) H 0 0 = ma_gf (H.1 i) 8 0 (ma_kV d 135 Q 45 l st H 0 0) := wp_get rfl (by decide +kernel)
theorem w135_45 : ma_W d 135 Q 45 l st H 0 0 = ma_W d 135 Q 47 l (.int 96 :: st) H 0 0 := wp_bipush rfl (by decide)
theorem w135_47 : ma_W d 135 Q 47 l st H 0 0 = ma_W d 135 Q 48 l (.int 0 :: st) H 0 0 := wp_iconst rfl (by decide)
theorem w135_48 : ma_W d 135 Q 48 l (.int y :: .int x :: .ref i :: st) H 0 0 = (4 ≤ i ∧ ma_ias (H.1 i) x y (ma_kH d 135 Q 49 l st H i 0 0)) := wp_iast rfl
theorem w135_49 : ma_W d 135 Q 49 (o0 :: o1 :: o2 :: some (.int x) :: l) st H 0 0 = ma_W d 135 Q 50 (o0 :: o1 :: o2 :: some (.int x) :: l) (.int x :: st) H 0 0 := wp_iload_n rfl rfl
theorem w135_50 : ma_W d 135 Q 50 l [.int x] H 0 0 = Q (some (.int x)) H := wp_iret rfl rfl
theorem e135 : ma_MW (d + 1) 135 [.ref i, .int x0, .int x1] H Q = ma_W d 135 Q 0 [some (.ref i), some (.int x0), some (.int x1), none] [] H 0 0 := wp_enter (by decide) (Nat.le_of_ble_eq_true rfl) rfl
/-! 136 mo_deal -/
theorem w136_0 : ma_W d 136 Q 0 (some (.ref i) :: l) st H 0 0 = ma_W d 136 Q 1 (some (.ref i) :: l) (.ref i :: st) H 0 0 := wp_aload_n (x := some i) rfl rfl
theorem w136_1 : ma_W d 136 Q 1 l st H 0 0 = ma_W d 136 Q 3 l (.int 10 :: st) H 0 0 := wp_bipush rfl (by decide)
theorem w136_3 : ma_W d 136 Q 3 l st H 0 0 = ma_W d 136 Q 5 l (.int 16 :: st) H 0 0 := wp_bipush rfl (by decide)
theorem w136_5 : ma_W d 136 Q 5 (o0 :: some (.int x) :: l) st H 0 0 = ma_W d 136 Q 6 (o0 :: some (.int x) :: l) (.int x :: st) H 0 0 := wp_iload_n rfl rfl
theorem w136_6 : ma_W d 136 Q 6 l (.int y :: .int x :: st) H 0 0 = ma_W d 136 Q 7 l (.int (x * y) :: st) H 0 0 := wp_imul rfl
theorem w136_7 : ma_W d 136 Q 7 l (.int y :: .int x :: st) H 0 0 = ma_W d 136 Q 8 l (.int (x + y) :: st) H 0 0 := wp_iadd rfl
theorem w136_8 : ma_W d 136 Q 8 (some (.ref i) :: l) st H 0 0 = ma_W d 136 Q 9 (some (.ref i) :: l) (.ref i :: st) H 0 0 := wp_aload_n (x := some i) rfl rfl
theorem w136_9 : ma_W d 136 Q 9 l st H 0 0 = ma_W d 136 Q 11 l (.int 7 :: st) H 0 0 := wp_bipush rfl (by decide)
theorem w136_11 : ma_W d 136 Q 11 (o0 :: some (.int x) :: l) st H 0 0 = ma_W d 136 Q 12 (o0 :: some (.int x) :: l) (.int x :: st) H 0 0 := wp_iload_n rfl rfl
theorem w136_12 : ma_W d 136 Q 12 l (.int y :: .int x :: st) H 0 0 = ma_W d 136 Q 13 l (.int (x + y) :: st) H 0 0 := wp_iadd rfl
theorem w136_13 : ma_W d 136 Q 13 l (.int x :: .ref i :: st) H 0 0 = ma_ial (H.1 i) x (ma_kV d 136 Q 14 l st H 0 0) := wp_iald rfl
theorem w136_14 : ma_W d 136 Q 14 l (.int y :: .int x :: st) H 0 0 = ma_W d 136 Q 15 l (.int (x + y) :: st) H 0 0 := wp_iadd rfl
theorem w136_15 : ma_W d 136 Q 15 (o0 :: o1 :: some (.int x) :: l) st H 0 0 = ma_W d 136 Q 16 (o0 :: o1 :: some (.int x) :: l) (.int x :: st) H 0 0 := wp_iload_n rfl rfl
theorem w136_16 : ma_W d 136 Q 16 l (.int y :: .int x :: .ref i :: st) H 0 0 = (4 ≤ i ∧ ma_ias (H.1 i) x y (ma_kH d 136 Q 17 l st H i 0 0)) := wp_iast rfl
theorem w136_17 : ma_W d 136 Q 17 (some (.ref i) :: l) st H 0 0 = ma_W d 136 Q 18 (some (.ref i) :: l) (.ref i :: st) H 0 0 := wp_aload_n (x := some i) rfl rfl
theorem w136_18 : ma_W d 136 Q 18 l st H 0 0 = ma_W d 136 Q 20 l (.int 7 :: st) H 0 0 := wp_bipush rfl (by decide)
theorem w136_20 : ma_W d 136 Q 20 (o0 :: some (.int x) :: l) st H 0 0 = ma_W d 136 Q 21 (o0 :: some (.int x) :: l) (.int x :: st) H 0 0 := wp_iload_n rfl rfl
theorem w136_21 : ma_W d 136 Q 21 l (.int y :: .int x :: st) H 0 0 = ma_W d 136 Q 22 l (.int (x + y) :: st) H 0 0 := wp_iadd rfl
theorem w136_22 : ma_W d 136 Q 22 l (.int x :: .ref i :: st) H 0 0 = ma_W d 136 Q 23 l (.int x :: .ref i :: .int x :: .ref i :: st) H 0 0 := wp_dup2 rfl rfl rfl
theorem w136_23 : ma_W d 136 Q 23 l (.int x :: .ref i :: st) H 0 0 = ma_ial (H.1 i) x (ma_kV d 136 Q 24 l st H 0 0) := wp_iald rfl
theorem w136_24 : ma_W d 136 Q 24 l st H 0 0 = ma_W d 136 Q 25 l (.int 1 :: st) H 0 0 := wp_iconst rfl (by decide)
theorem w136_25 : ma_W d 136 Q 25 l (.int y :: .int x :: st) H 0 0 = ma_W d 136 Q 26 l (.int (x + y) :: st) H 0 0 := wp_iadd rfl
theorem w136_26 : ma_W d 136 Q 26 l (.int y :: .int x :: .ref i :: st) H 0 0 = (4 ≤ i ∧ ma_ias (H.1 i) x y (ma_kH d 136 Q 27 l st H i 0 0)) := wp_iast rfl
theorem w136_27 : ma_W d 136 Q 27 (some (.ref i) :: l) st H 0 0 = ma_W d 136 Q 28 (some (.ref i) :: l) (.ref i :: st) H 0 0 := wp_aload_n (x := some i) rfl rfl
theorem w136_28 : ma_W d 136 Q 28 l st H 0 0 = ma_W d 136 Q 30 l (.int 7 :: st) H 0 0 := wp_bipush rfl (by decide)
theorem w136_30 : ma_W d 136 Q 30 (o0 :: some (.int x) :: l) st H 0 0 = ma_W d 136 Q 31 (o0 :: some (.int x) :: l) (.int x :: st) H 0 0 := wp_iload_n rfl rfl
theorem w136_31 : ma_W d 136 Q 31 l (.int y :: .int x :: st) H 0 0 = ma_W d 136 Q 32 l (.int (x + y) :: st) H 0 0 := wp_iadd rfl
theorem w136_32 : ma_W d 136 Q 32 l (.int x :: .ref i :: st) H 0 0 = ma_ial (H.1 i) x (ma_kV d 136 Q 33 l st H 0 0) := wp_iald rfl
theorem w136_33 : ma_W d 136 Q 33 l [.int x] H 0 0 = Q (some (.int x)) H := wp_iret rfl rfl
theorem e136 : ma_MW (d + 1) 136 [.ref i0, .int x1, .int x2] H Q = ma_W d 136 Q 0 [some (.ref i0), some (.int x1), some (.int x2)] [] H 0 0 := wp_enter (by decide) (Nat.le_of_ble_eq_true rfl) rfl
/-! 137 mo_deals -/
theorem w137_0 : ma_W d 137 Q 0 (o0 :: some (.int x) :: l) st H 0 0 = ma_W d 137 Q 1 (o0 :: some (.int x) :: l) (.int x :: st) H 0 0 := wp_iload_n rfl rfl
theorem w137_1 : ma_W d 137 Q 1 l st H 0 0 = ma_W d 137 Q 2 l (.int 0 :: st) H 0 0 := wp_iconst rfl (by decide)
theorem w137_2 : ma_W d 137 Q 2 l st H 0 0 = ma_W d 137 Q 3 l (.int 1 :: st) H 0 0 := wp_iconst rfl (by decide)
theorem w137_3 : ma_W d 137 Q 3 l (.int x2 :: .int x1 :: .int x0 :: st) H 0 0 = (ma_cat st ≤ 8 ∧ ma_MW d 125 [.int x0, .int x1, .int x2] H (ma_kC d 137 Q 6 l st 0 0)) := wc_S0 (ia := 125) (n := 3) (cn := 8) (k := 1) rfl (by decide +kernel) (by decide) (fun _ => rfl) rfl rfl
theorem w137_6 : ma_W d 137 Q 6 l (.int x :: st) H 0 0 = ma_if (x = 0) d 137 Q 18 9 l st H 0 0 := wp_c0 (id := 137) (pc := 6) (c := .eq) (off := 12) 18 rfl (by decide)
theorem w137_9 : ma_W d 137 Q 9 (o0 :: o1 :: some (.int x) :: l) st H 0 0 = ma_W d 137 Q 10 (o0 :: o1 :: some (.int x) :: l) (.int x :: st) H 0 0 := wp_iload_n rfl rfl
theorem w137_10 : ma_W d 137 Q 10 l st H 0 0 = ma_W d 137 Q 11 l (.int 0 :: st) H 0 0 := wp_iconst rfl (by decide)
theorem w137_11 : ma_W d 137 Q 11 l st H 0 0 = ma_W d 137 Q 12 l (.int 5 :: st) H 0 0 := wp_iconst rfl (by decide)
theorem w137_12 : ma_W d 137 Q 12 l (.int x2 :: .int x1 :: .int x0 :: st) H 0 0 = (ma_cat st ≤ 8 ∧ ma_MW d 125 [.int x0, .int x1, .int x2] H (ma_kC d 137 Q 15 l st 0 0)) := wc_S0 (ia := 125) (n := 3) (cn := 8) (k := 1) rfl (by decide +kernel) (by decide) (fun _ => rfl) rfl rfl
theorem w137_15 : ma_W d 137 Q 15 l (.int x :: st) H 0 0 = ma_if (x = 0) d 137 Q 18 23 l st H 0 0 := wp_c0 (id := 137) (pc := 15) (c := .ne) (off := 8) 23 rfl (by decide)
theorem w137_18 : ma_W d 137 Q 18 (some (.ref i) :: l) st H 0 0 = ma_W d 137 Q 19 (some (.ref i) :: l) (.ref i :: st) H 0 0 := wp_aload_n (x := some i) rfl rfl
theorem w137_19 : ma_W d 137 Q 19 l (.ref i :: st) H 0 0 = (ma_cat st ≤ 8 ∧ ma_cv (H.1 i) 8 d 128 [.ref i] H (ma_kC d 137 Q 22 l st 0 0)) := wc_V0 (ia := 128) (n := 1) (cn := 8) rfl (by decide +kernel) (fun _ => rfl) rfl rfl
theorem w137_22 : ma_W d 137 Q 22 l [.int x] H 0 0 = Q (some (.int x)) H := wp_iret rfl rfl
theorem w137_23 : ma_W d 137 Q 23 (some (.ref i) :: l) st H 0 0 = ma_W d 137 Q 24 (some (.ref i) :: l) (.ref i :: st) H 0 0 := wp_aload_n (x := some i) rfl rfl
theorem w137_24 : ma_W d 137 Q 24 l (.ref i :: st) H 0 0 = ma_gf (H.1 i) 8 0 (ma_kV d 137 Q 27 l st H 0 0) := wp_get rfl (by decide +kernel)
theorem w137_27 : ma_W d 137 Q 27 l (.ref i0 :: st) H 0 0 = (ma_cat st ≤ 8 ∧ ma_MW d 133 [.ref i0] H (ma_kC d 137 Q 30 l st 0 0)) := wc_S0 (ia := 133) (n := 1) (cn := 8) (k := 1) rfl (by decide +kernel) (by decide) (fun _ => rfl) rfl rfl
theorem w137_30 : ma_W d 137 Q 30 l st H 0 0 = ma_W d 137 Q 32 l (.int 16 :: st) H 0 0 := wp_bipush rfl (by decide)
theorem w137_32 : ma_W d 137 Q 32 l (.int y :: .int x :: st) H 0 0 = ma_if (x = y) d 137 Q 35 40 l st H 0 0 := wp_ic (id := 137) (pc := 32) (c := .ne) (off := 8) 40 rfl (by decide)
theorem w137_35 : ma_W d 137 Q 35 (some (.ref i) :: l) st H 0 0 = ma_W d 137 Q 36 (some (.ref i) :: l) (.ref i :: st) H 0 0 := wp_aload_n (x := some i) rfl rfl
theorem w137_36 : ma_W d 137 Q 36 l (.ref i :: st) H 0 0 = (ma_cat st ≤ 8 ∧ ma_cv (H.1 i) 8 d 130 [.ref i] H (ma_kC d 137 Q 39 l st 0 0)) := wc_V0 (ia := 130) (n := 1) (cn := 8) rfl (by decide +kernel) (fun _ => rfl) rfl rfl
theorem w137_39 : ma_W d 137 Q 39 l [.int x] H 0 0 = Q (some (.int x)) H := wp_iret rfl rfl
theorem w137_40 : ma_W d 137 Q 40 (some (.ref i) :: l) st H 0 0 = ma_W d 137 Q 41 (some (.ref i) :: l) (.ref i :: st) H 0 0 := wp_aload_n (x := some i) rfl rfl
theorem w137_41 : ma_W d 137 Q 41 l (.ref i :: st) H 0 0 = ma_gf (H.1 i) 8 0 (ma_kV d 137 Q 44 l st H 0 0) := wp_get rfl (by decide +kernel)
theorem w137_44 : ma_W d 137 Q 44 l st H 0 0 = ma_W d 137 Q 46 l (.int 96 :: st) H 0 0 := wp_bipush rfl (by decide)
theorem w137_46 : ma_W d 137 Q 46 l st H 0 0 = ma_W d 137 Q 47 l (.int 0 :: st) H 0 0 := wp_iconst rfl (by decide)
theorem w137_47 : ma_W d 137 Q 47 l (.int y :: .int x :: .ref i :: st) H 0 0 = (4 ≤ i ∧ ma_ias (H.1 i) x y (ma_kH d 137 Q 48 l st H i 0 0)) := wp_iast rfl
theorem w137_48 : ma_W d 137 Q 48 (some (.ref i) :: l) st H 0 0 = ma_W d 137 Q 49 (some (.ref i) :: l) (.ref i :: st) H 0 0 := wp_aload_n (x := some i) rfl rfl
theorem w137_49 : ma_W d 137 Q 49 l (.ref i :: st) H 0 0 = ma_gf (H.1 i) 8 0 (ma_kV d 137 Q 52 l st H 0 0) := wp_get rfl (by decide +kernel)
theorem w137_52 : ma_W d 137 Q 52 (o0 :: some (.int x) :: l) st H 0 0 = ma_W d 137 Q 53 (o0 :: some (.int x) :: l) (.int x :: st) H 0 0 := wp_iload_n rfl rfl
theorem w137_53 : ma_W d 137 Q 53 (o0 :: o1 :: some (.int x) :: l) st H 0 0 = ma_W d 137 Q 54 (o0 :: o1 :: some (.int x) :: l) (.int x :: st) H 0 0 := wp_iload_n rfl rfl
theorem w137_54 : ma_W d 137 Q 54 l (.int x2 :: .int x1 :: .ref i0 :: st) H 0 0 = (ma_cat st ≤ 8 ∧ ma_MW d 136 [.ref i0, .int x1, .int x2] H (ma_kC d 137 Q 57 l st 0 0)) := wc_S0 (ia := 136) (n := 3) (cn := 8) (k := 1) rfl (by decide +kernel) (by decide) (fun _ => rfl) rfl rfl
theorem w137_57 : ma_W d 137 Q 57 l [.int x] H 0 0 = Q (some (.int x)) H := wp_iret rfl rfl
theorem e137 : ma_MW (d + 1) 137 [.ref i, .int x0, .int x1] H Q = ma_W d 137 Q 0 [some (.ref i), some (.int x0), some (.int x1)] [] H 0 0 := wp_enter (by decide) (Nat.le_of_ble_eq_true rfl) rfl
/-! 138 mo_type -/
theorem w138_0 : ma_W d 138 Q 0 (o0 :: some (.int x) :: l) st H 0 0 = ma_W d 138 Q 1 (o0 :: some (.int x) :: l) (.int x :: st) H 0 0 := wp_iload_n rfl rfl
theorem w138_1 : ma_W d 138 Q 1 l st H 0 0 = ma_W d 138 Q 2 l (.int 0 :: st) H 0 0 := wp_iconst rfl (by decide)
theorem w138_2 : ma_W d 138 Q 2 l st H 0 0 = ma_W d 138 Q 4 l (.int 127 :: st) H 0 0 := wp_bipush rfl (by decide)
theorem w138_4 : ma_W d 138 Q 4 l (.int x2 :: .int x1 :: .int x0 :: st) H 0 0 = (ma_cat st ≤ 8 ∧ ma_MW d 125 [.int x0, .int x1, .int x2] H (ma_kC d 138 Q 7 l st 0 0)) := wc_S0 (ia := 125) (n := 3) (cn := 8) (k := 1) rfl (by decide +kernel) (by decide) (fun _ => rfl) rfl rfl
theorem w138_7 : ma_W d 138 Q 7 l (.int x :: st) H 0 0 = ma_if (x = 0) d 138 Q 10 15 l st H 0 0 := wp_c0 (id := 138) (pc := 7) (c := .ne) (off := 8) 15 rfl (by decide)
theorem w138_10 : ma_W d 138 Q 10 (some (.ref i) :: l) st H 0 0 = ma_W d 138 Q 11 (some (.ref i) :: l) (.ref i :: st) H 0 0 := wp_aload_n (x := some i) rfl rfl
theorem w138_11 : ma_W d 138 Q 11 l (.ref i :: st) H 0 0 = (ma_cat st ≤ 8 ∧ ma_cv (H.1 i) 8 d 128 [.ref i] H (ma_kC d 138 Q 14 l st 0 0)) := wc_V0 (ia := 128) (n := 1) (cn := 8) rfl (by decide +kernel) (fun _ => rfl) rfl rfl
theorem w138_14 : ma_W d 138 Q 14 l [.int x] H 0 0 = Q (some (.int x)) H := wp_iret rfl rfl
theorem w138_15 : ma_W d 138 Q 15 (some (.ref i) :: l) st H 0 0 = ma_W d 138 Q 16 (some (.ref i) :: l) (.ref i :: st) H 0 0 := wp_aload_n (x := some i) rfl rfl
theorem w138_16 : ma_W d 138 Q 16 l (.ref i :: st) H 0 0 = ma_gf (H.1 i) 8 7 (ma_kV d 138 Q 19 l st H 0 0) := wp_get rfl (by decide +kernel)
theorem w138_19 : ma_W d 138 Q 19 l st H 0 0 = ma_W d 138 Q 22 l (.int 150 :: st) H 0 0 := wp_sipush rfl (by decide)
theorem w138_22 : ma_W d 138 Q 22 l (.int y :: .int x :: st) H 0 0 = ma_if (x = y) d 138 Q 25 30 l st H 0 0 := wp_ic (id := 138) (pc := 22) (c := .ne) (off := 8) 30 rfl (by decide)
theorem w138_25 : ma_W d 138 Q 25 (some (.ref i) :: l) st H 0 0 = ma_W d 138 Q 26 (some (.ref i) :: l) (.ref i :: st) H 0 0 := wp_aload_n (x := some i) rfl rfl
theorem w138_26 : ma_W d 138 Q 26 l (.ref i :: st) H 0 0 = (ma_cat st ≤ 8 ∧ ma_cv (H.1 i) 8 d 130 [.ref i] H (ma_kC d 138 Q 29 l st 0 0)) := wc_V0 (ia := 130) (n := 1) (cn := 8) rfl (by decide +kernel) (fun _ => rfl) rfl rfl
theorem w138_29 : ma_W d 138 Q 29 l [.int x] H 0 0 = Q (some (.int x)) H := wp_iret rfl rfl
theorem w138_30 : ma_W d 138 Q 30 (some (.ref i) :: l) st H 0 0 = ma_W d 138 Q 31 (some (.ref i) :: l) (.ref i :: st) H 0 0 := wp_aload_n (x := some i) rfl rfl
theorem w138_31 : ma_W d 138 Q 31 l (.ref i :: st) H 0 0 = ma_gf (H.1 i) 8 8 (ma_kV d 138 Q 34 l st H 0 0) := wp_get rfl (by decide +kernel)
theorem w138_34 : ma_W d 138 Q 34 (some (.ref i) :: l) st H 0 0 = ma_W d 138 Q 35 (some (.ref i) :: l) (.ref i :: st) H 0 0 := wp_aload_n (x := some i) rfl rfl
theorem w138_35 : ma_W d 138 Q 35 l (.ref i :: st) H 0 0 = ma_gf (H.1 i) 8 7 (ma_kV d 138 Q 38 l st H 0 0) := wp_get rfl (by decide +kernel)
theorem w138_38 : ma_W d 138 Q 38 (o0 :: some (.int x) :: l) st H 0 0 = ma_W d 138 Q 39 (o0 :: some (.int x) :: l) (.int x :: st) H 0 0 := wp_iload_n rfl rfl
theorem w138_39 : ma_W d 138 Q 39 l (.int y :: .int x :: .ref i :: st) H 0 0 = (4 ≤ i ∧ ma_ias (H.1 i) x y (ma_kH d 138 Q 40 l st H i 0 0)) := wp_iast rfl
theorem w138_40 : ma_W d 138 Q 40 (some (.ref i) :: l) st H 0 0 = ma_W d 138 Q 41 (some (.ref i) :: l) (.ref i :: st) H 0 0 := wp_aload_n (x := some i) rfl rfl
theorem w138_41 : ma_W d 138 Q 41 l (.ref i :: st) H 0 0 = ma_W d 138 Q 42 l (.ref i :: .ref i :: st) H 0 0 := wp_dup rfl rfl
theorem w138_41i : ma_W d 138 Q 41 l (.int x :: st) H 0 0 = ma_W d 138 Q 42 l (.int x :: .int x :: st) H 0 0 := wp_dup rfl rfl
theorem w138_42 : ma_W d 138 Q 42 l (.ref i :: st) H 0 0 = ma_gf (H.1 i) 8 7 (ma_kV d 138 Q 45 l st H 0 0) := wp_get rfl (by decide +kernel)
theorem w138_45 : ma_W d 138 Q 45 l st H 0 0 = ma_W d 138 Q 46 l (.int 1 :: st) H 0 0 := wp_iconst rfl (by decide)
theorem w138_46 : ma_W d 138 Q 46 l (.int y :: .int x :: st) H 0 0 = ma_W d 138 Q 47 l (.int (x + y) :: st) H 0 0 := wp_iadd rfl
theorem w138_47 : ma_W d 138 Q 47 l (.int x :: .ref i :: st) H 0 0 = ma_pf (H.1 i) 8 7 (.int x) (ma_kH d 138 Q 50 l st H i 0 0) := wp_put rfl (by decide +kernel) (by decide +kernel) rfl rfl
theorem w138_50 : ma_W d 138 Q 50 (some (.ref i) :: l) st H 0 0 = ma_W d 138 Q 51 (some (.ref i) :: l) (.ref i :: st) H 0 0 := wp_aload_n (x := some i) rfl rfl
theorem w138_51 : ma_W d 138 Q 51 l (.ref i :: st) H 0 0 = ma_gf (H.1 i) 8 7 (ma_kV d 138 Q 54 l st H 0 0) := wp_get rfl (by decide +kernel)
theorem w138_54 : ma_W d 138 Q 54 l [.int x] H 0 0 = Q (some (.int x)) H := wp_iret rfl rfl
theorem e138 : ma_MW (d + 1) 138 [.ref i, .int x0] H Q = ma_W d 138 Q 0 [some (.ref i), some (.int x0)] [] H 0 0 := wp_enter (by decide) (Nat.le_of_ble_eq_true rfl) rfl
/-! 139 mo_clear -/
theorem w139_0 : ma_W d 139 Q 0 (some (.ref i) :: l) st H 0 0 = ma_W d 139 Q 1 (some (.ref i) :: l) (.ref i :: st) H 0 0 := wp_aload_n (x := some i) rfl rfl
theorem w139_1 : ma_W d 139 Q 1 l (.ref i :: st) H 0 0 = ma_gf (H.1 i) 8 7 (ma_kV d 139 Q 4 l st H 0 0) := wp_get rfl (by decide +kernel)
theorem w139_4 : ma_W d 139 Q 4 (o0 :: p :: l) (.int x :: st) H 0 0 = ma_W d 139 Q 5 (ma_clr o0 :: some (.int x) :: l) st H 0 0 := wp_istore_n (id := 139) (pc := 4) (k := 1) rfl (Nat.succ_lt_succ (Nat.zero_lt_succ _))
theorem w139_5 : ma_W d 139 Q 5 (some (.ref i) :: l) st H 0 0 = ma_W d 139 Q 6 (some (.ref i) :: l) (.ref i :: st) H 0 0 := wp_aload_n (x := some i) rfl rfl
theorem w139_6 : ma_W d 139 Q 6 l st H 0 0 = ma_W d 139 Q 7 l (.int 0 :: st) H 0 0 := wp_iconst rfl (by decide)
theorem w139_7 : ma_W d 139 Q 7 l (.int x :: .ref i :: st) H 0 0 = ma_pf (H.1 i) 8 7 (.int x) (ma_kH d 139 Q 10 l st H i 0 0) := wp_put rfl (by decide +kernel) (by decide +kernel) rfl rfl
theorem w139_10 : ma_W d 139 Q 10 (o0 :: some (.int x) :: l) st H 0 0 = ma_W d 139 Q 11 (o0 :: some (.int x) :: l) (.int x :: st) H 0 0 := wp_iload_n rfl rfl
theorem w139_11 : ma_W d 139 Q 11 l [.int x] H 0 0 = Q (some (.int x)) H := wp_iret rfl rfl
theorem e139 : ma_MW (d + 1) 139 [.ref i] H Q = ma_W d 139 Q 0 [some (.ref i), none] [] H 0 0 := wp_enter (by decide) (Nat.le_of_ble_eq_true rfl) rfl
/-! 140 mo_kindAt -/
theorem w140_0 : ma_W d 140 Q 0 (o0 :: some (.int x) :: l) st H 0 0 = ma_W d 140 Q 1 (o0 :: some (.int x) :: l) (.int x :: st) H 0 0 := wp_iload_n rfl rfl
theorem w140_1 : ma_W d 140 Q 1 (some (.ref i) :: l) st H 0 0 = ma_W d 140 Q 2 (some (.ref i) :: l) (.ref i :: st) H 0 0 := wp_aload_n (x := some i) rfl rfl
theorem w140_2 : ma_W d 140 Q 2 l (.ref i :: st) H 0 0 = ma_gf (H.1 i) 8 7 (ma_kV d 140 Q 5 l st H 0 0) := wp_get rfl (by decide +kernel)
theorem w140_5 : ma_W d 140 Q 5 l (.int y :: .int x :: st) H 0 0 = ma_if (y ≤ x) d 140 Q 17 8 l st H 0 0 := wp_ic (id := 140) (pc := 5) (c := .ge) (off := 12) 17 rfl (by decide)
theorem w140_8 : ma_W d 140 Q 8 (some (.ref i) :: l) st H 0 0 = ma_W d 140 Q 9 (some (.ref i) :: l) (.ref i :: st) H 0 0 := wp_aload_n (x := some i) rfl rfl
theorem w140_9 : ma_W d 140 Q 9 l (.ref i :: st) H 0 0 = ma_gf (H.1 i) 8 8 (ma_kV d 140 Q 12 l st H 0 0) := wp_get rfl (by decide +kernel)
theorem w140_12 : ma_W d 140 Q 12 (o0 :: some (.int x) :: l) st H 0 0 = ma_W d 140 Q 13 (o0 :: some (.int x) :: l) (.int x :: st) H 0 0 := wp_iload_n rfl rfl
theorem w140_13 : ma_W d 140 Q 13 l (.int x :: .ref i :: st) H 0 0 = ma_ial (H.1 i) x (ma_kV d 140 Q 14 l st H 0 0) := wp_iald rfl
theorem w140_14 : ma_W d 140 Q 14 l st H 0 0 = ma_W d 140 Q 18 l st H 0 0 := wp_goto 18 rfl (by decide)
theorem w140_17 : ma_W d 140 Q 17 l st H 0 0 = ma_W d 140 Q 18 l (.int 0 :: st) H 0 0 := wp_iconst rfl (by decide)
theorem w140_18 : ma_W d 140 Q 18 (o0 :: o1 :: p :: l) (.int x :: st) H 0 0 = ma_W d 140 Q 19 (o0 :: ma_clr o1 :: some (.int x) :: l) st H 0 0 := wp_istore_n (id := 140) (pc := 18) (k := 2) rfl (Nat.succ_lt_succ (Nat.succ_lt_succ (Nat.zero_lt_succ _)))
theorem w140_19 : ma_W d 140 Q 19 (o0 :: o1 :: some (.int x) :: l) st H 0 0 = ma_W d 140 Q 20 (o0 :: o1 :: some (.int x) :: l) (.int x :: st) H 0 0 := wp_iload_n rfl rfl
theorem w140_20 : ma_W d 140 Q 20 l st H 0 0 = ma_W d 140 Q 22 l (.int 97 :: st) H 0 0 := wp_bipush rfl (by decide)
theorem w140_22 : ma_W d 140 Q 22 l st H 0 0 = ma_W d 140 Q 24 l (.int 122 :: st) H 0 0 := wp_bipush rfl (by decide)
theorem w140_24 : ma_W d 140 Q 24 l (.int x2 :: .int x1 :: .int x0 :: st) H 0 0 = (ma_cat st ≤ 8 ∧ ma_MW d 125 [.int x0, .int x1, .int x2] H (ma_kC d 140 Q 27 l st 0 0)) := wc_S0 (ia := 125) (n := 3) (cn := 8) (k := 1) rfl (by decide +kernel) (by decide) (fun _ => rfl) rfl rfl
theorem w140_27 : ma_W d 140 Q 27 l (.int x :: st) H 0 0 = ma_if (x = 0) d 140 Q 34 30 l st H 0 0 := wp_c0 (id := 140) (pc := 27) (c := .eq) (off := 7) 34 rfl (by decide)
theorem w140_30 : ma_W d 140 Q 30 l st H 0 0 = ma_W d 140 Q 31 l (.int 1 :: st) H 0 0 := wp_iconst rfl (by decide)
theorem w140_31 : ma_W d 140 Q 31 l st H 0 0 = ma_W d 140 Q 50 l st H 0 0 := wp_goto 50 rfl (by decide)
theorem w140_34 : ma_W d 140 Q 34 (o0 :: o1 :: some (.int x) :: l) st H 0 0 = ma_W d 140 Q 35 (o0 :: o1 :: some (.int x) :: l) (.int x :: st) H 0 0 := wp_iload_n rfl rfl
theorem w140_35 : ma_W d 140 Q 35 l st H 0 0 = ma_W d 140 Q 37 l (.int 48 :: st) H 0 0 := wp_bipush rfl (by decide)
theorem w140_37 : ma_W d 140 Q 37 l st H 0 0 = ma_W d 140 Q 39 l (.int 57 :: st) H 0 0 := wp_bipush rfl (by decide)
theorem w140_39 : ma_W d 140 Q 39 l (.int x2 :: .int x1 :: .int x0 :: st) H 0 0 = (ma_cat st ≤ 8 ∧ ma_MW d 125 [.int x0, .int x1, .int x2] H (ma_kC d 140 Q 42 l st 0 0)) := wc_S0 (ia := 125) (n := 3) (cn := 8) (k := 1) rfl (by decide +kernel) (by decide) (fun _ => rfl) rfl rfl
theorem w140_42 : ma_W d 140 Q 42 l (.int x :: st) H 0 0 = ma_if (x = 0) d 140 Q 49 45 l st H 0 0 := wp_c0 (id := 140) (pc := 42) (c := .eq) (off := 7) 49 rfl (by decide)
theorem w140_45 : ma_W d 140 Q 45 l st H 0 0 = ma_W d 140 Q 46 l (.int 2 :: st) H 0 0 := wp_iconst rfl (by decide)
theorem w140_46 : ma_W d 140 Q 46 l st H 0 0 = ma_W d 140 Q 50 l st H 0 0 := wp_goto 50 rfl (by decide)
theorem w140_49 : ma_W d 140 Q 49 l st H 0 0 = ma_W d 140 Q 50 l (.int 0 :: st) H 0 0 := wp_iconst rfl (by decide)
theorem w140_50 : ma_W d 140 Q 50 l [.int x] H 0 0 = Q (some (.int x)) H := wp_iret rfl rfl
theorem e140 : ma_MW (d + 1) 140 [.ref i, .int x0] H Q = ma_W d 140 Q 0 [some (.ref i), some (.int x0), none] [] H 0 0 := wp_enter (by decide) (Nat.le_of_ble_eq_true rfl) rfl
/-! 141 mo_nextToken -/
theorem w141_0 : ma_W d 141 Q 0 (some (.ref i) :: l) st H 0 0 = ma_W d 141 Q 1 (some (.ref i) :: l) (.ref i :: st) H 0 0 := wp_aload_n (x := some i) rfl rfl
theorem w141_1 : ma_W d 141 Q 1 l (.ref i :: st) H 0 0 = ma_gf (H.1 i) 8 9 (ma_kV d 141 Q 4 l st H 0 0) := wp_get rfl (by decide +kernel)
theorem w141_4 : ma_W d 141 Q 4 (some (.ref i) :: l) st H 0 0 = ma_W d 141 Q 5 (some (.ref i) :: l) (.ref i :: st) H 0 0 := wp_aload_n (x := some i) rfl rfl
theorem w141_5 : ma_W d 141 Q 5 l (.ref i :: st) H 0 0 = ma_gf (H.1 i) 8 7 (ma_kV d 141 Q 8 l st H 0 0) := wp_get rfl (by decide +kernel)
theorem w141_8 : ma_W d 141 Q 8 l (.int y :: .int x :: st) H 0 0 = ma_if (y ≤ x) d 141 Q 38 11 l st H 0 0 := wp_ic (id := 141) (pc := 8) (c := .ge) (off := 30) 38 rfl (by decide)
theorem w141_11 : ma_W d 141 Q 11 (some (.ref i) :: l) st H 0 0 = ma_W d 141 Q 12 (some (.ref i) :: l) (.ref i :: st) H 0 0 := wp_aload_n (x := some i) rfl rfl
theorem w141_12 : ma_W d 141 Q 12 l (.ref i :: st) H 0 0 = ma_gf (H.1 i) 8 8 (ma_kV d 141 Q 15 l st H 0 0) := wp_get rfl (by decide +kernel)
theorem w141_15 : ma_W d 141 Q 15 (some (.ref i) :: l) st H 0 0 = ma_W d 141 Q 16 (some (.ref i) :: l) (.ref i :: st) H 0 0 := wp_aload_n (x := some i) rfl rfl
theorem w141_16 : ma_W d 141 Q 16 l (.ref i :: st) H 0 0 = ma_gf (H.1 i) 8 9 (ma_kV d 141 Q 19 l st H 0 0) := wp_get rfl (by decide +kernel)
theorem w141_19 : ma_W d 141 Q 19 l (.int x :: .ref i :: st) H 0 0 = ma_ial (H.1 i) x (ma_kV d 141 Q 20 l st H 0 0) := wp_iald rfl
theorem w141_20 : ma_W d 141 Q 20 l st H 0 0 = ma_W d 141 Q 22 l (.int 32 :: st) H 0 0 := wp_bipush rfl (by decide)
theorem w141_22 : ma_W d 141 Q 22 l (.int y :: .int x :: st) H 0 0 = ma_if (x = y) d 141 Q 25 38 l st H 0 0 := wp_ic (id := 141) (pc := 22) (c := .ne) (off := 16) 38 rfl (by decide)
theorem w141_25 : ma_W d 141 Q 25 (some (.ref i) :: l) st H 0 0 = ma_W d 141 Q 26 (some (.ref i) :: l) (.ref i :: st) H 0 0 := wp_aload_n (x := some i) rfl rfl
theorem w141_26 : ma_W d 141 Q 26 l (.ref i :: st) H 0 0 = ma_W d 141 Q 27 l (.ref i :: .ref i :: st) H 0 0 := wp_dup rfl rfl
theorem w141_26i : ma_W d 141 Q 26 l (.int x :: st) H 0 0 = ma_W d 141 Q 27 l (.int x :: .int x :: st) H 0 0 := wp_dup rfl rfl
theorem w141_27 : ma_W d 141 Q 27 l (.ref i :: st) H 0 0 = ma_gf (H.1 i) 8 9 (ma_kV d 141 Q 30 l st H 0 0) := wp_get rfl (by decide +kernel)
theorem w141_30 : ma_W d 141 Q 30 l st H 0 0 = ma_W d 141 Q 31 l (.int 1 :: st) H 0 0 := wp_iconst rfl (by decide)
theorem w141_31 : ma_W d 141 Q 31 l (.int y :: .int x :: st) H 0 0 = ma_W d 141 Q 32 l (.int (x + y) :: st) H 0 0 := wp_iadd rfl
theorem w141_32 : ma_W d 141 Q 32 l (.int x :: .ref i :: st) H 0 0 = ma_pf (H.1 i) 8 9 (.int x) (ma_kH d 141 Q 35 l st H i 0 0) := wp_put rfl (by decide +kernel) (by decide +kernel) rfl rfl
theorem w141_35 : ma_W d 141 Q 35 l st H 0 0 = ma_W d 141 Q 0 l st H 0 0 := wp_goto 0 rfl (by decide)
theorem w141_38 : ma_W d 141 Q 38 (some (.ref i) :: l) st H 0 0 = ma_W d 141 Q 39 (some (.ref i) :: l) (.ref i :: st) H 0 0 := wp_aload_n (x := some i) rfl rfl
theorem w141_39 : ma_W d 141 Q 39 (some (.ref i) :: l) st H 0 0 = ma_W d 141 Q 40 (some (.ref i) :: l) (.ref i :: st) H 0 0 := wp_aload_n (x := some i) rfl rfl
theorem w141_40 : ma_W d 141 Q 40 l (.ref i :: st) H 0 0 = ma_gf (H.1 i) 8 9 (ma_kV d 141 Q 43 l st H 0 0) := wp_get rfl (by decide +kernel)
theorem w141_43 : ma_W d 141 Q 43 l (.int x :: .ref i :: st) H 0 0 = ma_pf (H.1 i) 8 10 (.int x) (ma_kH d 141 Q 46 l st H i 0 0) := wp_put rfl (by decide +kernel) (by decide +kernel) rfl rfl
theorem w141_46 : ma_W d 141 Q 46 (some (.ref i) :: l) st H 0 0 = ma_W d 141 Q 47 (some (.ref i) :: l) (.ref i :: st) H 0 0 := wp_aload_n (x := some i) rfl rfl
theorem w141_47 : ma_W d 141 Q 47 l st H 0 0 = ma_W d 141 Q 48 l (.long 0 :: st) H 0 0 := wp_lconst rfl (by decide)
theorem w141_48 : ma_W d 141 Q 48 l (.long u :: .ref i :: st) H 0 0 = ma_pf (H.1 i) 8 13 (.long u) (ma_kH d 141 Q 51 l st H i 0 0) := wp_put rfl (by decide +kernel) (by decide +kernel) rfl rfl
theorem w141_51 : ma_W d 141 Q 51 (some (.ref i) :: l) st H 0 0 = ma_W d 141 Q 52 (some (.ref i) :: l) (.ref i :: st) H 0 0 := wp_aload_n (x := some i) rfl rfl
theorem w141_52 : ma_W d 141 Q 52 l st H 0 0 = ma_W d 141 Q 53 l (.int 0 :: st) H 0 0 := wp_iconst rfl (by decide)
theorem w141_53 : ma_W d 141 Q 53 l (.int x :: .ref i :: st) H 0 0 = ma_pf (H.1 i) 8 12 (.int x) (ma_kH d 141 Q 56 l st H i 0 0) := wp_put rfl (by decide +kernel) (by decide +kernel) rfl rfl
theorem w141_56 : ma_W d 141 Q 56 (some (.ref i) :: l) st H 0 0 = ma_W d 141 Q 57 (some (.ref i) :: l) (.ref i :: st) H 0 0 := wp_aload_n (x := some i) rfl rfl
theorem w141_57 : ma_W d 141 Q 57 l (.ref i :: st) H 0 0 = ma_gf (H.1 i) 8 9 (ma_kV d 141 Q 60 l st H 0 0) := wp_get rfl (by decide +kernel)
theorem w141_60 : ma_W d 141 Q 60 (some (.ref i) :: l) st H 0 0 = ma_W d 141 Q 61 (some (.ref i) :: l) (.ref i :: st) H 0 0 := wp_aload_n (x := some i) rfl rfl
theorem w141_61 : ma_W d 141 Q 61 l (.ref i :: st) H 0 0 = ma_gf (H.1 i) 8 7 (ma_kV d 141 Q 64 l st H 0 0) := wp_get rfl (by decide +kernel)
theorem w141_64 : ma_W d 141 Q 64 l (.int y :: .int x :: st) H 0 0 = ma_if (x = y) d 141 Q 67 73 l st H 0 0 := wp_ic (id := 141) (pc := 64) (c := .ne) (off := 9) 73 rfl (by decide)
theorem w141_67 : ma_W d 141 Q 67 (some (.ref i) :: l) st H 0 0 = ma_W d 141 Q 68 (some (.ref i) :: l) (.ref i :: st) H 0 0 := wp_aload_n (x := some i) rfl rfl
theorem w141_68 : ma_W d 141 Q 68 l st H 0 0 = ma_W d 141 Q 69 l (.int 0 :: st) H 0 0 := wp_iconst rfl (by decide)
theorem w141_69 : ma_W d 141 Q 69 l (.int x :: .ref i :: st) H 0 0 = ma_pf (H.1 i) 8 11 (.int x) (ma_kH d 141 Q 72 l st H i 0 0) := wp_put rfl (by decide +kernel) (by decide +kernel) rfl rfl
theorem w141_72 : ma_W d 141 Q 72 l [] H 0 0 = Q none H := wp_vret rfl rfl
theorem w141_73 : ma_W d 141 Q 73 (some (.ref i) :: l) st H 0 0 = ma_W d 141 Q 74 (some (.ref i) :: l) (.ref i :: st) H 0 0 := wp_aload_n (x := some i) rfl rfl
theorem w141_74 : ma_W d 141 Q 74 (some (.ref i) :: l) st H 0 0 = ma_W d 141 Q 75 (some (.ref i) :: l) (.ref i :: st) H 0 0 := wp_aload_n (x := some i) rfl rfl
theorem w141_75 : ma_W d 141 Q 75 (some (.ref i) :: l) st H 0 0 = ma_W d 141 Q 76 (some (.ref i) :: l) (.ref i :: st) H 0 0 := wp_aload_n (x := some i) rfl rfl
theorem w141_76 : ma_W d 141 Q 76 l (.ref i :: st) H 0 0 = ma_gf (H.1 i) 8 9 (ma_kV d 141 Q 79 l st H 0 0) := wp_get rfl (by decide +kernel)
theorem w141_79 : ma_W d 141 Q 79 l (.int x0 :: .ref i :: st) H 0 0 = (ma_cat st ≤ 8 ∧ ma_cv (H.1 i) 8 d 140 [.ref i, .int x0] H (ma_kC d 141 Q 82 l st 0 0)) := wc_V0 (ia := 140) (n := 2) (cn := 8) rfl (by decide +kernel) (fun _ => rfl) rfl rfl
theorem w141_82 : ma_W d 141 Q 82 l (.int x :: .ref i :: st) H 0 0 = ma_pf (H.1 i) 8 11 (.int x) (ma_kH d 141 Q 85 l st H i 0 0) := wp_put rfl (by decide +kernel) (by decide +kernel) rfl rfl
theorem w141_85 : ma_W d 141 Q 85 (some (.ref i) :: l) st H 0 0 = ma_W d 141 Q 86 (some (.ref i) :: l) (.ref i :: st) H 0 0 := wp_aload_n (x := some i) rfl rfl
theorem w141_86 : ma_W d 141 Q 86 l (.ref i :: st) H 0 0 = ma_gf (H.1 i) 8 11 (ma_kV d 141 Q 89 l st H 0 0) := wp_get rfl (by decide +kernel)
theorem w141_89 : ma_W d 141 Q 89 l (.int x :: st) H 0 0 = ma_if (x = 0) d 141 Q 92 126 l st H 0 0 := wp_c0 (id := 141) (pc := 89) (c := .ne) (off := 37) 126 rfl (by decide)
theorem w141_92 : ma_W d 141 Q 92 (some (.ref i) :: l) st H 0 0 = ma_W d 141 Q 93 (some (.ref i) :: l) (.ref i :: st) H 0 0 := wp_aload_n (x := some i) rfl rfl
theorem w141_93 : ma_W d 141 Q 93 (some (.ref i) :: l) st H 0 0 = ma_W d 141 Q 94 (some (.ref i) :: l) (.ref i :: st) H 0 0 := wp_aload_n (x := some i) rfl rfl
theorem w141_94 : ma_W d 141 Q 94 l (.ref i :: st) H 0 0 = ma_gf (H.1 i) 8 8 (ma_kV d 141 Q 97 l st H 0 0) := wp_get rfl (by decide +kernel)
theorem w141_97 : ma_W d 141 Q 97 (some (.ref i) :: l) st H 0 0 = ma_W d 141 Q 98 (some (.ref i) :: l) (.ref i :: st) H 0 0 := wp_aload_n (x := some i) rfl rfl
theorem w141_98 : ma_W d 141 Q 98 l (.ref i :: st) H 0 0 = ma_gf (H.1 i) 8 9 (ma_kV d 141 Q 101 l st H 0 0) := wp_get rfl (by decide +kernel)
theorem w141_101 : ma_W d 141 Q 101 l (.int x :: .ref i :: st) H 0 0 = ma_ial (H.1 i) x (ma_kV d 141 Q 102 l st H 0 0) := wp_iald rfl
theorem w141_102 : ma_W d 141 Q 102 l st H 0 0 = ma_W d 141 Q 104 l (.int 59 :: st) H 0 0 := wp_bipush rfl (by decide)
theorem w141_104 : ma_W d 141 Q 104 l (.int y :: .int x :: st) H 0 0 = ma_if (x = y) d 141 Q 107 111 l st H 0 0 := wp_ic (id := 141) (pc := 104) (c := .ne) (off := 7) 111 rfl (by decide)
theorem w141_107 : ma_W d 141 Q 107 l st H 0 0 = ma_W d 141 Q 108 l (.int 3 :: st) H 0 0 := wp_iconst rfl (by decide)
theorem w141_108 : ma_W d 141 Q 108 l st H 0 0 = ma_W d 141 Q 112 l st H 0 0 := wp_goto 112 rfl (by decide)
theorem w141_111 : ma_W d 141 Q 111 l st H 0 0 = ma_W d 141 Q 112 l (.int 4 :: st) H 0 0 := wp_iconst rfl (by decide)
theorem w141_112 : ma_W d 141 Q 112 l (.int x :: .ref i :: st) H 0 0 = ma_pf (H.1 i) 8 11 (.int x) (ma_kH d 141 Q 115 l st H i 0 0) := wp_put rfl (by decide +kernel) (by decide +kernel) rfl rfl
theorem w141_115 : ma_W d 141 Q 115 (some (.ref i) :: l) st H 0 0 = ma_W d 141 Q 116 (some (.ref i) :: l) (.ref i :: st) H 0 0 := wp_aload_n (x := some i) rfl rfl
theorem w141_116 : ma_W d 141 Q 116 l (.ref i :: st) H 0 0 = ma_W d 141 Q 117 l (.ref i :: .ref i :: st) H 0 0 := wp_dup rfl rfl
theorem w141_116i : ma_W d 141 Q 116 l (.int x :: st) H 0 0 = ma_W d 141 Q 117 l (.int x :: .int x :: st) H 0 0 := wp_dup rfl rfl
theorem w141_117 : ma_W d 141 Q 117 l (.ref i :: st) H 0 0 = ma_gf (H.1 i) 8 9 (ma_kV d 141 Q 120 l st H 0 0) := wp_get rfl (by decide +kernel)
theorem w141_120 : ma_W d 141 Q 120 l st H 0 0 = ma_W d 141 Q 121 l (.int 1 :: st) H 0 0 := wp_iconst rfl (by decide)
theorem w141_121 : ma_W d 141 Q 121 l (.int y :: .int x :: st) H 0 0 = ma_W d 141 Q 122 l (.int (x + y) :: st) H 0 0 := wp_iadd rfl
theorem w141_122 : ma_W d 141 Q 122 l (.int x :: .ref i :: st) H 0 0 = ma_pf (H.1 i) 8 9 (.int x) (ma_kH d 141 Q 125 l st H i 0 0) := wp_put rfl (by decide +kernel) (by decide +kernel) rfl rfl
theorem w141_125 : ma_W d 141 Q 125 l [] H 0 0 = Q none H := wp_vret rfl rfl
theorem w141_126 : ma_W d 141 Q 126 (some (.ref i) :: l) st H 0 0 = ma_W d 141 Q 127 (some (.ref i) :: l) (.ref i :: st) H 0 0 := wp_aload_n (x := some i) rfl rfl
theorem w141_127 : ma_W d 141 Q 127 (some (.ref i) :: l) st H 0 0 = ma_W d 141 Q 128 (some (.ref i) :: l) (.ref i :: st) H 0 0 := wp_aload_n (x := some i) rfl rfl
theorem w141_128 : ma_W d 141 Q 128 l (.ref i :: st) H 0 0 = ma_gf (H.1 i) 8 9 (ma_kV d 141 Q 131 l st H 0 0) := wp_get rfl (by decide +kernel)
theorem w141_131 : ma_W d 141 Q 131 l (.int x0 :: .ref i :: st) H 0 0 = (ma_cat st ≤ 8 ∧ ma_cv (H.1 i) 8 d 140 [.ref i, .int x0] H (ma_kC d 141 Q 134 l st 0 0)) := wc_V0 (ia := 140) (n := 2) (cn := 8) rfl (by decide +kernel) (fun _ => rfl) rfl rfl
theorem w141_134 : ma_W d 141 Q 134 (some (.ref i) :: l) st H 0 0 = ma_W d 141 Q 135 (some (.ref i) :: l) (.ref i :: st) H 0 0 := wp_aload_n (x := some i) rfl rfl
theorem w141_135 : ma_W d 141 Q 135 l (.ref i :: st) H 0 0 = ma_gf (H.1 i) 8 11 (ma_kV d 141 Q 138 l st H 0 0) := wp_get rfl (by decide +kernel)
theorem w141_138 : ma_W d 141 Q 138 l (.int y :: .int x :: st) H 0 0 = ma_if (x = y) d 141 Q 141 235 l st H 0 0 := wp_ic (id := 141) (pc := 138) (c := .ne) (off := 97) 235 rfl (by decide)
theorem w141_141 : ma_W d 141 Q 141 (some (.ref i) :: l) st H 0 0 = ma_W d 141 Q 142 (some (.ref i) :: l) (.ref i :: st) H 0 0 := wp_aload_n (x := some i) rfl rfl
theorem w141_142 : ma_W d 141 Q 142 l (.ref i :: st) H 0 0 = ma_gf (H.1 i) 8 9 (ma_kV d 141 Q 145 l st H 0 0) := wp_get rfl (by decide +kernel)
theorem w141_145 : ma_W d 141 Q 145 (some (.ref i) :: l) st H 0 0 = ma_W d 141 Q 146 (some (.ref i) :: l) (.ref i :: st) H 0 0 := wp_aload_n (x := some i) rfl rfl
theorem w141_146 : ma_W d 141 Q 146 l (.ref i :: st) H 0 0 = ma_gf (H.1 i) 8 10 (ma_kV d 141 Q 149 l st H 0 0) := wp_get rfl (by decide +kernel)
theorem w141_149 : ma_W d 141 Q 149 l (.int y :: .int x :: st) H 0 0 = ma_W d 141 Q 150 l (.int (x - y) :: st) H 0 0 := wp_isub rfl
theorem w141_150 : ma_W d 141 Q 150 (o0 :: p :: l) (.int x :: st) H 0 0 = ma_W d 141 Q 151 (ma_clr o0 :: some (.int x) :: l) st H 0 0 := wp_istore_n (id := 141) (pc := 150) (k := 1) rfl (Nat.succ_lt_succ (Nat.zero_lt_succ _))
theorem w141_151 : ma_W d 141 Q 151 (some (.ref i) :: l) st H 0 0 = ma_W d 141 Q 152 (some (.ref i) :: l) (.ref i :: st) H 0 0 := wp_aload_n (x := some i) rfl rfl
theorem w141_152 : ma_W d 141 Q 152 (o0 :: some (.int x) :: l) st H 0 0 = ma_W d 141 Q 153 (o0 :: some (.int x) :: l) (.int x :: st) H 0 0 := wp_iload_n rfl rfl
theorem w141_153 : ma_W d 141 Q 153 l st H 0 0 = ma_W d 141 Q 155 l (.int 7 :: st) H 0 0 := wp_bipush rfl (by decide)
theorem w141_155 : ma_W d 141 Q 155 l (.int y :: .int x :: st) H 0 0 = ma_if (y ≤ x) d 141 Q 180 158 l st H 0 0 := wp_ic (id := 141) (pc := 155) (c := .ge) (off := 25) 180 rfl (by decide)
theorem w141_158 : ma_W d 141 Q 158 l st H 0 0 = ma_W d 141 Q 161 l (.long 256 :: st) H 0 0 := wp_ldc2 rfl (by decide +kernel)
theorem w141_161 : ma_W d 141 Q 161 (some (.ref i) :: l) st H 0 0 = ma_W d 141 Q 162 (some (.ref i) :: l) (.ref i :: st) H 0 0 := wp_aload_n (x := some i) rfl rfl
theorem w141_162 : ma_W d 141 Q 162 l (.ref i :: st) H 0 0 = ma_gf (H.1 i) 8 13 (ma_kV d 141 Q 165 l st H 0 0) := wp_get rfl (by decide +kernel)
theorem w141_165 : ma_W d 141 Q 165 l (.long v :: .long u :: st) H 0 0 = ma_W d 141 Q 166 l (.long (u * v) :: st) H 0 0 := wp_lmul rfl
theorem w141_166 : ma_W d 141 Q 166 (some (.ref i) :: l) st H 0 0 = ma_W d 141 Q 167 (some (.ref i) :: l) (.ref i :: st) H 0 0 := wp_aload_n (x := some i) rfl rfl
theorem w141_167 : ma_W d 141 Q 167 l (.ref i :: st) H 0 0 = ma_gf (H.1 i) 8 8 (ma_kV d 141 Q 170 l st H 0 0) := wp_get rfl (by decide +kernel)
theorem w141_170 : ma_W d 141 Q 170 (some (.ref i) :: l) st H 0 0 = ma_W d 141 Q 171 (some (.ref i) :: l) (.ref i :: st) H 0 0 := wp_aload_n (x := some i) rfl rfl
theorem w141_171 : ma_W d 141 Q 171 l (.ref i :: st) H 0 0 = ma_gf (H.1 i) 8 9 (ma_kV d 141 Q 174 l st H 0 0) := wp_get rfl (by decide +kernel)
theorem w141_174 : ma_W d 141 Q 174 l (.int x :: .ref i :: st) H 0 0 = ma_ial (H.1 i) x (ma_kV d 141 Q 175 l st H 0 0) := wp_iald rfl
theorem w141_175 : ma_W d 141 Q 175 l (.int x :: st) H 0 0 = ma_W d 141 Q 176 l (.long x.toInt64 :: st) H 0 0 := wp_i2l rfl
theorem w141_176 : ma_W d 141 Q 176 l (.long v :: .long u :: st) H 0 0 = ma_W d 141 Q 177 l (.long (u + v) :: st) H 0 0 := wp_ladd rfl
theorem w141_177 : ma_W d 141 Q 177 l st H 0 0 = ma_W d 141 Q 183 l st H 0 0 := wp_goto 183 rfl (by decide)
theorem w141_180 : ma_W d 141 Q 180 l st H 0 0 = ma_W d 141 Q 183 l (.long (-1) :: st) H 0 0 := wp_ldc2 rfl (by decide +kernel)
theorem w141_183 : ma_W d 141 Q 183 l (.long u :: .ref i :: st) H 0 0 = ma_pf (H.1 i) 8 13 (.long u) (ma_kH d 141 Q 186 l st H i 0 0) := wp_put rfl (by decide +kernel) (by decide +kernel) rfl rfl
theorem w141_186 : ma_W d 141 Q 186 (some (.ref i) :: l) st H 0 0 = ma_W d 141 Q 187 (some (.ref i) :: l) (.ref i :: st) H 0 0 := wp_aload_n (x := some i) rfl rfl
theorem w141_187 : ma_W d 141 Q 187 (o0 :: some (.int x) :: l) st H 0 0 = ma_W d 141 Q 188 (o0 :: some (.int x) :: l) (.int x :: st) H 0 0 := wp_iload_n rfl rfl
theorem w141_188 : ma_W d 141 Q 188 l st H 0 0 = ma_W d 141 Q 189 l (.int 2 :: st) H 0 0 := wp_iconst rfl (by decide)
theorem w141_189 : ma_W d 141 Q 189 l (.int y :: .int x :: st) H 0 0 = ma_if (y ≤ x) d 141 Q 215 192 l st H 0 0 := wp_ic (id := 141) (pc := 189) (c := .ge) (off := 26) 215 rfl (by decide)
theorem w141_192 : ma_W d 141 Q 192 l st H 0 0 = ma_W d 141 Q 194 l (.int 10 :: st) H 0 0 := wp_bipush rfl (by decide)
theorem w141_194 : ma_W d 141 Q 194 (some (.ref i) :: l) st H 0 0 = ma_W d 141 Q 195 (some (.ref i) :: l) (.ref i :: st) H 0 0 := wp_aload_n (x := some i) rfl rfl
theorem w141_195 : ma_W d 141 Q 195 l (.ref i :: st) H 0 0 = ma_gf (H.1 i) 8 12 (ma_kV d 141 Q 198 l st H 0 0) := wp_get rfl (by decide +kernel)
theorem w141_198 : ma_W d 141 Q 198 l (.int y :: .int x :: st) H 0 0 = ma_W d 141 Q 199 l (.int (x * y) :: st) H 0 0 := wp_imul rfl
theorem w141_199 : ma_W d 141 Q 199 (some (.ref i) :: l) st H 0 0 = ma_W d 141 Q 200 (some (.ref i) :: l) (.ref i :: st) H 0 0 := wp_aload_n (x := some i) rfl rfl
theorem w141_200 : ma_W d 141 Q 200 l (.ref i :: st) H 0 0 = ma_gf (H.1 i) 8 8 (ma_kV d 141 Q 203 l st H 0 0) := wp_get rfl (by decide +kernel)
theorem w141_203 : ma_W d 141 Q 203 (some (.ref i) :: l) st H 0 0 = ma_W d 141 Q 204 (some (.ref i) :: l) (.ref i :: st) H 0 0 := wp_aload_n (x := some i) rfl rfl
theorem w141_204 : ma_W d 141 Q 204 l (.ref i :: st) H 0 0 = ma_gf (H.1 i) 8 9 (ma_kV d 141 Q 207 l st H 0 0) := wp_get rfl (by decide +kernel)
theorem w141_207 : ma_W d 141 Q 207 l (.int x :: .ref i :: st) H 0 0 = ma_ial (H.1 i) x (ma_kV d 141 Q 208 l st H 0 0) := wp_iald rfl
theorem w141_208 : ma_W d 141 Q 208 l (.int y :: .int x :: st) H 0 0 = ma_W d 141 Q 209 l (.int (x + y) :: st) H 0 0 := wp_iadd rfl
theorem w141_209 : ma_W d 141 Q 209 l st H 0 0 = ma_W d 141 Q 211 l (.int 48 :: st) H 0 0 := wp_bipush rfl (by decide)
theorem w141_211 : ma_W d 141 Q 211 l (.int y :: .int x :: st) H 0 0 = ma_W d 141 Q 212 l (.int (x - y) :: st) H 0 0 := wp_isub rfl
theorem w141_212 : ma_W d 141 Q 212 l st H 0 0 = ma_W d 141 Q 219 l st H 0 0 := wp_goto 219 rfl (by decide)
theorem w141_215 : ma_W d 141 Q 215 (some (.ref i) :: l) st H 0 0 = ma_W d 141 Q 216 (some (.ref i) :: l) (.ref i :: st) H 0 0 := wp_aload_n (x := some i) rfl rfl
theorem w141_216 : ma_W d 141 Q 216 l (.ref i :: st) H 0 0 = ma_gf (H.1 i) 8 12 (ma_kV d 141 Q 219 l st H 0 0) := wp_get rfl (by decide +kernel)
theorem w141_219 : ma_W d 141 Q 219 l (.int x :: .ref i :: st) H 0 0 = ma_pf (H.1 i) 8 12 (.int x) (ma_kH d 141 Q 222 l st H i 0 0) := wp_put rfl (by decide +kernel) (by decide +kernel) rfl rfl
theorem w141_222 : ma_W d 141 Q 222 (some (.ref i) :: l) st H 0 0 = ma_W d 141 Q 223 (some (.ref i) :: l) (.ref i :: st) H 0 0 := wp_aload_n (x := some i) rfl rfl
theorem w141_223 : ma_W d 141 Q 223 l (.ref i :: st) H 0 0 = ma_W d 141 Q 224 l (.ref i :: .ref i :: st) H 0 0 := wp_dup rfl rfl
theorem w141_223i : ma_W d 141 Q 223 l (.int x :: st) H 0 0 = ma_W d 141 Q 224 l (.int x :: .int x :: st) H 0 0 := wp_dup rfl rfl
theorem w141_224 : ma_W d 141 Q 224 l (.ref i :: st) H 0 0 = ma_gf (H.1 i) 8 9 (ma_kV d 141 Q 227 l st H 0 0) := wp_get rfl (by decide +kernel)
theorem w141_227 : ma_W d 141 Q 227 l st H 0 0 = ma_W d 141 Q 228 l (.int 1 :: st) H 0 0 := wp_iconst rfl (by decide)
theorem w141_228 : ma_W d 141 Q 228 l (.int y :: .int x :: st) H 0 0 = ma_W d 141 Q 229 l (.int (x + y) :: st) H 0 0 := wp_iadd rfl
theorem w141_229 : ma_W d 141 Q 229 l (.int x :: .ref i :: st) H 0 0 = ma_pf (H.1 i) 8 9 (.int x) (ma_kH d 141 Q 232 l st H i 0 0) := wp_put rfl (by decide +kernel) (by decide +kernel) rfl rfl
theorem w141_232 : ma_W d 141 Q 232 l st H 0 0 = ma_W d 141 Q 126 l st H 0 0 := wp_goto 126 rfl (by decide)
theorem w141_235 : ma_W d 141 Q 235 (some (.ref i) :: l) st H 0 0 = ma_W d 141 Q 236 (some (.ref i) :: l) (.ref i :: st) H 0 0 := wp_aload_n (x := some i) rfl rfl
theorem w141_236 : ma_W d 141 Q 236 (some (.ref i) :: l) st H 0 0 = ma_W d 141 Q 237 (some (.ref i) :: l) (.ref i :: st) H 0 0 := wp_aload_n (x := some i) rfl rfl
theorem w141_237 : ma_W d 141 Q 237 l (.ref i :: st) H 0 0 = ma_gf (H.1 i) 8 11 (ma_kV d 141 Q 240 l st H 0 0) := wp_get rfl (by decide +kernel)
theorem w141_240 : ma_W d 141 Q 240 l st H 0 0 = ma_W d 141 Q 241 l (.int 2 :: st) H 0 0 := wp_iconst rfl (by decide)
theorem w141_241 : ma_W d 141 Q 241 l (.int y :: .int x :: st) H 0 0 = ma_if (x = y) d 141 Q 244 261 l st H 0 0 := wp_ic (id := 141) (pc := 241) (c := .ne) (off := 20) 261 rfl (by decide)
theorem w141_244 : ma_W d 141 Q 244 (some (.ref i) :: l) st H 0 0 = ma_W d 141 Q 245 (some (.ref i) :: l) (.ref i :: st) H 0 0 := wp_aload_n (x := some i) rfl rfl
theorem w141_245 : ma_W d 141 Q 245 l (.ref i :: st) H 0 0 = ma_gf (H.1 i) 8 9 (ma_kV d 141 Q 248 l st H 0 0) := wp_get rfl (by decide +kernel)
theorem w141_248 : ma_W d 141 Q 248 (some (.ref i) :: l) st H 0 0 = ma_W d 141 Q 249 (some (.ref i) :: l) (.ref i :: st) H 0 0 := wp_aload_n (x := some i) rfl rfl
theorem w141_249 : ma_W d 141 Q 249 l (.ref i :: st) H 0 0 = ma_gf (H.1 i) 8 10 (ma_kV d 141 Q 252 l st H 0 0) := wp_get rfl (by decide +kernel)
theorem w141_252 : ma_W d 141 Q 252 l (.int y :: .int x :: st) H 0 0 = ma_W d 141 Q 253 l (.int (x - y) :: st) H 0 0 := wp_isub rfl
theorem w141_253 : ma_W d 141 Q 253 l st H 0 0 = ma_W d 141 Q 254 l (.int 2 :: st) H 0 0 := wp_iconst rfl (by decide)
theorem w141_254 : ma_W d 141 Q 254 l (.int y :: .int x :: st) H 0 0 = ma_if (x ≤ y) d 141 Q 261 257 l st H 0 0 := wp_ic (id := 141) (pc := 254) (c := .le) (off := 7) 261 rfl (by decide)
theorem w141_257 : ma_W d 141 Q 257 l st H 0 0 = ma_W d 141 Q 258 l (.int 4 :: st) H 0 0 := wp_iconst rfl (by decide)
theorem w141_258 : ma_W d 141 Q 258 l st H 0 0 = ma_W d 141 Q 265 l st H 0 0 := wp_goto 265 rfl (by decide)
theorem w141_261 : ma_W d 141 Q 261 (some (.ref i) :: l) st H 0 0 = ma_W d 141 Q 262 (some (.ref i) :: l) (.ref i :: st) H 0 0 := wp_aload_n (x := some i) rfl rfl
theorem w141_262 : ma_W d 141 Q 262 l (.ref i :: st) H 0 0 = ma_gf (H.1 i) 8 11 (ma_kV d 141 Q 265 l st H 0 0) := wp_get rfl (by decide +kernel)
theorem w141_265 : ma_W d 141 Q 265 l (.int x :: .ref i :: st) H 0 0 = ma_pf (H.1 i) 8 11 (.int x) (ma_kH d 141 Q 268 l st H i 0 0) := wp_put rfl (by decide +kernel) (by decide +kernel) rfl rfl
theorem w141_268 : ma_W d 141 Q 268 l [] H 0 0 = Q none H := wp_vret rfl rfl
theorem e141 : ma_MW (d + 1) 141 [.ref i] H Q = ma_W d 141 Q 0 [some (.ref i), none] [] H 0 0 := wp_enter (by decide) (Nat.le_of_ble_eq_true rfl) rfl
/-! 142 mo_isNumber -/
theorem w142_0 : ma_W d 142 Q 0 (some (.ref i) :: l) st H 0 0 = ma_W d 142 Q 1 (some (.ref i) :: l) (.ref i :: st) H 0 0 := wp_aload_n (x := some i) rfl rfl
theorem w142_1 : ma_W d 142 Q 1 l (.ref i :: st) H 0 0 = (ma_cat st ≤ 8 ∧ ma_cv (H.1 i) 8 d 141 [.ref i] H (ma_kC d 142 Q 4 l st 0 0)) := wc_V0 (ia := 141) (n := 1) (cn := 8) rfl (by decide +kernel) (fun _ => rfl) rfl rfl
theorem w142_4 : ma_W d 142 Q 4 (some (.ref i) :: l) st H 0 0 = ma_W d 142 Q 5 (some (.ref i) :: l) (.ref i :: st) H 0 0 := wp_aload_n (x := some i) rfl rfl
theorem w142_5 : ma_W d 142 Q 5 l (.ref i :: st) H 0 0 = ma_gf (H.1 i) 8 11 (ma_kV d 142 Q 8 l st H 0 0) := wp_get rfl (by decide +kernel)
theorem w142_8 : ma_W d 142 Q 8 l st H 0 0 = ma_W d 142 Q 9 l (.int 2 :: st) H 0 0 := wp_iconst rfl (by decide)
theorem w142_9 : ma_W d 142 Q 9 l (.int y :: .int x :: st) H 0 0 = ma_if (x = y) d 142 Q 12 28 l st H 0 0 := wp_ic (id := 142) (pc := 9) (c := .ne) (off := 19) 28 rfl (by decide)
theorem w142_12 : ma_W d 142 Q 12 (some (.ref i) :: l) st H 0 0 = ma_W d 142 Q 13 (some (.ref i) :: l) (.ref i :: st) H 0 0 := wp_aload_n (x := some i) rfl rfl
theorem w142_13 : ma_W d 142 Q 13 l (.ref i :: st) H 0 0 = ma_gf (H.1 i) 8 12 (ma_kV d 142 Q 16 l st H 0 0) := wp_get rfl (by decide +kernel)
theorem w142_16 : ma_W d 142 Q 16 (o0 :: some (.int x) :: l) st H 0 0 = ma_W d 142 Q 17 (o0 :: some (.int x) :: l) (.int x :: st) H 0 0 := wp_iload_n rfl rfl
theorem w142_17 : ma_W d 142 Q 17 (o0 :: o1 :: some (.int x) :: l) st H 0 0 = ma_W d 142 Q 18 (o0 :: o1 :: some (.int x) :: l) (.int x :: st) H 0 0 := wp_iload_n rfl rfl
theorem w142_18 : ma_W d 142 Q 18 l (.int x2 :: .int x1 :: .int x0 :: st) H 0 0 = (ma_cat st ≤ 8 ∧ ma_MW d 125 [.int x0, .int x1, .int x2] H (ma_kC d 142 Q 21 l st 0 0)) := wc_S0 (ia := 125) (n := 3) (cn := 8) (k := 1) rfl (by decide +kernel) (by decide) (fun _ => rfl) rfl rfl
theorem w142_21 : ma_W d 142 Q 21 l (.int x :: st) H 0 0 = ma_if (x = 0) d 142 Q 28 24 l st H 0 0 := wp_c0 (id := 142) (pc := 21) (c := .eq) (off := 7) 28 rfl (by decide)
theorem w142_24 : ma_W d 142 Q 24 l st H 0 0 = ma_W d 142 Q 25 l (.int 1 :: st) H 0 0 := wp_iconst rfl (by decide)
theorem w142_25 : ma_W d 142 Q 25 l st H 0 0 = ma_W d 142 Q 29 l st H 0 0 := wp_goto 29 rfl (by decide)
theorem w142_28 : ma_W d 142 Q 28 l st H 0 0 = ma_W d 142 Q 29 l (.int 0 :: st) H 0 0 := wp_iconst rfl (by decide)
theorem w142_29 : ma_W d 142 Q 29 l [.int x] H 0 0 = ((x = 0 ∨ x = 1) ∧ Q (some (.int x)) H) := wp_zret rfl rfl
theorem e142 : ma_MW (d + 1) 142 [.ref i, .int x0, .int x1] H Q = ma_W d 142 Q 0 [some (.ref i), some (.int x0), some (.int x1)] [] H 0 0 := wp_enter (by decide) (Nat.le_of_ble_eq_true rfl) rfl
/-! 143 mo_isGameItem -/
theorem w143_0 : ma_W d 143 Q 0 (some (.ref i) :: l) st H 0 0 = ma_W d 143 Q 1 (some (.ref i) :: l) (.ref i :: st) H 0 0 := wp_aload_n (x := some i) rfl rfl
theorem w143_1 : ma_W d 143 Q 1 l st H 0 0 = ma_W d 143 Q 2 l (.int 0 :: st) H 0 0 := wp_iconst rfl (by decide)
theorem w143_2 : ma_W d 143 Q 2 l st H 0 0 = ma_W d 143 Q 3 l (.int 5 :: st) H 0 0 := wp_iconst rfl (by decide)
theorem w143_3 : ma_W d 143 Q 3 l (.int x1 :: .int x0 :: .ref i :: st) H 0 0 = (ma_cat st ≤ 8 ∧ ma_cv (H.1 i) 8 d 142 [.ref i, .int x0, .int x1] H (ma_kC d 143 Q 6 l st 0 0)) := wc_V0 (ia := 142) (n := 3) (cn := 8) rfl (by decide +kernel) (fun _ => rfl) rfl rfl
theorem w143_6 : ma_W d 143 Q 6 l (.int x :: st) H 0 0 = ma_if (x = 0) d 143 Q 9 11 l st H 0 0 := wp_c0 (id := 143) (pc := 6) (c := .ne) (off := 5) 11 rfl (by decide)
theorem w143_9 : ma_W d 143 Q 9 l st H 0 0 = ma_W d 143 Q 10 l (.int 0 :: st) H 0 0 := wp_iconst rfl (by decide)
theorem w143_10 : ma_W d 143 Q 10 l [.int x] H 0 0 = ((x = 0 ∨ x = 1) ∧ Q (some (.int x)) H) := wp_zret rfl rfl
theorem w143_11 : ma_W d 143 Q 11 (some (.ref i) :: l) st H 0 0 = ma_W d 143 Q 12 (some (.ref i) :: l) (.ref i :: st) H 0 0 := wp_aload_n (x := some i) rfl rfl
theorem w143_12 : ma_W d 143 Q 12 l (.ref i :: st) H 0 0 = ma_gf (H.1 i) 8 1 (ma_kV d 143 Q 15 l st H 0 0) := wp_get rfl (by decide +kernel)
theorem w143_15 : ma_W d 143 Q 15 l st H 0 0 = ma_W d 143 Q 16 l (.int 0 :: st) H 0 0 := wp_iconst rfl (by decide)
theorem w143_16 : ma_W d 143 Q 16 (some (.ref i) :: l) st H 0 0 = ma_W d 143 Q 17 (some (.ref i) :: l) (.ref i :: st) H 0 0 := wp_aload_n (x := some i) rfl rfl
theorem w143_17 : ma_W d 143 Q 17 l (.ref i :: st) H 0 0 = ma_gf (H.1 i) 8 12 (ma_kV d 143 Q 20 l st H 0 0) := wp_get rfl (by decide +kernel)
theorem w143_20 : ma_W d 143 Q 20 l (.int y :: .int x :: .ref i :: st) H 0 0 = (4 ≤ i ∧ ma_ias (H.1 i) x y (ma_kH d 143 Q 21 l st H i 0 0)) := wp_iast rfl
theorem w143_21 : ma_W d 143 Q 21 (some (.ref i) :: l) st H 0 0 = ma_W d 143 Q 22 (some (.ref i) :: l) (.ref i :: st) H 0 0 := wp_aload_n (x := some i) rfl rfl
theorem w143_22 : ma_W d 143 Q 22 l st H 0 0 = ma_W d 143 Q 23 l (.int 0 :: st) H 0 0 := wp_iconst rfl (by decide)
theorem w143_23 : ma_W d 143 Q 23 l st H 0 0 = ma_W d 143 Q 24 l (.int 5 :: st) H 0 0 := wp_iconst rfl (by decide)
theorem w143_24 : ma_W d 143 Q 24 l (.int x1 :: .int x0 :: .ref i :: st) H 0 0 = (ma_cat st ≤ 8 ∧ ma_cv (H.1 i) 8 d 142 [.ref i, .int x0, .int x1] H (ma_kC d 143 Q 27 l st 0 0)) := wc_V0 (ia := 142) (n := 3) (cn := 8) rfl (by decide +kernel) (fun _ => rfl) rfl rfl
theorem w143_27 : ma_W d 143 Q 27 l (.int x :: st) H 0 0 = ma_if (x = 0) d 143 Q 30 32 l st H 0 0 := wp_c0 (id := 143) (pc := 27) (c := .ne) (off := 5) 32 rfl (by decide)
theorem w143_30 : ma_W d 143 Q 30 l st H 0 0 = ma_W d 143 Q 31 l (.int 0 :: st) H 0 0 := wp_iconst rfl (by decide)
theorem w143_31 : ma_W d 143 Q 31 l [.int x] H 0 0 = ((x = 0 ∨ x = 1) ∧ Q (some (.int x)) H) := wp_zret rfl rfl
theorem w143_32 : ma_W d 143 Q 32 (some (.ref i) :: l) st H 0 0 = ma_W d 143 Q 33 (some (.ref i) :: l) (.ref i :: st) H 0 0 := wp_aload_n (x := some i) rfl rfl
theorem w143_33 : ma_W d 143 Q 33 l (.ref i :: st) H 0 0 = ma_gf (H.1 i) 8 1 (ma_kV d 143 Q 36 l st H 0 0) := wp_get rfl (by decide +kernel)
theorem w143_36 : ma_W d 143 Q 36 l st H 0 0 = ma_W d 143 Q 37 l (.int 1 :: st) H 0 0 := wp_iconst rfl (by decide)
theorem w143_37 : ma_W d 143 Q 37 (some (.ref i) :: l) st H 0 0 = ma_W d 143 Q 38 (some (.ref i) :: l) (.ref i :: st) H 0 0 := wp_aload_n (x := some i) rfl rfl
theorem w143_38 : ma_W d 143 Q 38 l (.ref i :: st) H 0 0 = ma_gf (H.1 i) 8 12 (ma_kV d 143 Q 41 l st H 0 0) := wp_get rfl (by decide +kernel)
theorem w143_41 : ma_W d 143 Q 41 l (.int y :: .int x :: .ref i :: st) H 0 0 = (4 ≤ i ∧ ma_ias (H.1 i) x y (ma_kH d 143 Q 42 l st H i 0 0)) := wp_iast rfl
theorem w143_42 : ma_W d 143 Q 42 (some (.ref i) :: l) st H 0 0 = ma_W d 143 Q 43 (some (.ref i) :: l) (.ref i :: st) H 0 0 := wp_aload_n (x := some i) rfl rfl
theorem w143_43 : ma_W d 143 Q 43 l (.ref i :: st) H 0 0 = (ma_cat st ≤ 8 ∧ ma_cv (H.1 i) 8 d 141 [.ref i] H (ma_kC d 143 Q 46 l st 0 0)) := wc_V0 (ia := 141) (n := 1) (cn := 8) rfl (by decide +kernel) (fun _ => rfl) rfl rfl
theorem w143_46 : ma_W d 143 Q 46 (some (.ref i) :: l) st H 0 0 = ma_W d 143 Q 47 (some (.ref i) :: l) (.ref i :: st) H 0 0 := wp_aload_n (x := some i) rfl rfl
theorem w143_47 : ma_W d 143 Q 47 l (.ref i :: st) H 0 0 = ma_gf (H.1 i) 8 11 (ma_kV d 143 Q 50 l st H 0 0) := wp_get rfl (by decide +kernel)
theorem w143_50 : ma_W d 143 Q 50 l st H 0 0 = ma_W d 143 Q 51 l (.int 3 :: st) H 0 0 := wp_iconst rfl (by decide)
theorem w143_51 : ma_W d 143 Q 51 l (.int y :: .int x :: st) H 0 0 = ma_if (x = y) d 143 Q 54 58 l st H 0 0 := wp_ic (id := 143) (pc := 51) (c := .ne) (off := 7) 58 rfl (by decide)
theorem w143_54 : ma_W d 143 Q 54 l st H 0 0 = ma_W d 143 Q 55 l (.int 1 :: st) H 0 0 := wp_iconst rfl (by decide)
theorem w143_55 : ma_W d 143 Q 55 l st H 0 0 = ma_W d 143 Q 59 l st H 0 0 := wp_goto 59 rfl (by decide)
theorem w143_58 : ma_W d 143 Q 58 l st H 0 0 = ma_W d 143 Q 59 l (.int 0 :: st) H 0 0 := wp_iconst rfl (by decide)
theorem w143_59 : ma_W d 143 Q 59 l [.int x] H 0 0 = ((x = 0 ∨ x = 1) ∧ Q (some (.int x)) H) := wp_zret rfl rfl
theorem e143 : ma_MW (d + 1) 143 [.ref i] H Q = ma_W d 143 Q 0 [some (.ref i)] [] H 0 0 := wp_enter (by decide) (Nat.le_of_ble_eq_true rfl) rfl
/-! 144 mo_isHandItem -/
theorem w144_0 : ma_W d 144 Q 0 (some (.ref i) :: l) st H 0 0 = ma_W d 144 Q 1 (some (.ref i) :: l) (.ref i :: st) H 0 0 := wp_aload_n (x := some i) rfl rfl
theorem w144_1 : ma_W d 144 Q 1 l st H 0 0 = ma_W d 144 Q 2 l (.int 0 :: st) H 0 0 := wp_iconst rfl (by decide)
theorem w144_2 : ma_W d 144 Q 2 l st H 0 0 = ma_W d 144 Q 3 l (.int 1 :: st) H 0 0 := wp_iconst rfl (by decide)
theorem w144_3 : ma_W d 144 Q 3 l (.int x1 :: .int x0 :: .ref i :: st) H 0 0 = (ma_cat st ≤ 8 ∧ ma_cv (H.1 i) 8 d 142 [.ref i, .int x0, .int x1] H (ma_kC d 144 Q 6 l st 0 0)) := wc_V0 (ia := 142) (n := 3) (cn := 8) rfl (by decide +kernel) (fun _ => rfl) rfl rfl
theorem w144_6 : ma_W d 144 Q 6 l (.int x :: st) H 0 0 = ma_if (x = 0) d 144 Q 9 11 l st H 0 0 := wp_c0 (id := 144) (pc := 6) (c := .ne) (off := 5) 11 rfl (by decide)
theorem w144_9 : ma_W d 144 Q 9 l st H 0 0 = ma_W d 144 Q 10 l (.int 0 :: st) H 0 0 := wp_iconst rfl (by decide)
theorem w144_10 : ma_W d 144 Q 10 l [.int x] H 0 0 = ((x = 0 ∨ x = 1) ∧ Q (some (.int x)) H) := wp_zret rfl rfl
theorem w144_11 : ma_W d 144 Q 11 (some (.ref i) :: l) st H 0 0 = ma_W d 144 Q 12 (some (.ref i) :: l) (.ref i :: st) H 0 0 := wp_aload_n (x := some i) rfl rfl
theorem w144_12 : ma_W d 144 Q 12 l (.ref i :: st) H 0 0 = ma_gf (H.1 i) 8 12 (ma_kV d 144 Q 15 l st H 0 0) := wp_get rfl (by decide +kernel)
theorem w144_15 : ma_W d 144 Q 15 (o0 :: p :: l) (.int x :: st) H 0 0 = ma_W d 144 Q 16 (ma_clr o0 :: some (.int x) :: l) st H 0 0 := wp_istore_n (id := 144) (pc := 15) (k := 1) rfl (Nat.succ_lt_succ (Nat.zero_lt_succ _))
theorem w144_16 : ma_W d 144 Q 16 l st H 0 0 = ma_W d 144 Q 17 l (.int 0 :: st) H 0 0 := wp_iconst rfl (by decide)
theorem w144_17 : ma_W d 144 Q 17 (o0 :: o1 :: p :: l) (.int x :: st) H 0 0 = ma_W d 144 Q 18 (o0 :: ma_clr o1 :: some (.int x) :: l) st H 0 0 := wp_istore_n (id := 144) (pc := 17) (k := 2) rfl (Nat.succ_lt_succ (Nat.succ_lt_succ (Nat.zero_lt_succ _)))
theorem w144_18 : ma_W d 144 Q 18 (some (.ref i) :: l) st H 0 0 = ma_W d 144 Q 19 (some (.ref i) :: l) (.ref i :: st) H 0 0 := wp_aload_n (x := some i) rfl rfl
theorem w144_19 : ma_W d 144 Q 19 l (.ref i :: st) H 0 0 = (ma_cat st ≤ 8 ∧ ma_cv (H.1 i) 8 d 141 [.ref i] H (ma_kC d 144 Q 22 l st 0 0)) := wc_V0 (ia := 141) (n := 1) (cn := 8) rfl (by decide +kernel) (fun _ => rfl) rfl rfl
theorem w144_22 : ma_W d 144 Q 22 (some (.ref i) :: l) st H 0 0 = ma_W d 144 Q 23 (some (.ref i) :: l) (.ref i :: st) H 0 0 := wp_aload_n (x := some i) rfl rfl
theorem w144_23 : ma_W d 144 Q 23 l (.ref i :: st) H 0 0 = ma_gf (H.1 i) 8 11 (ma_kV d 144 Q 26 l st H 0 0) := wp_get rfl (by decide +kernel)
theorem w144_26 : ma_W d 144 Q 26 l st H 0 0 = ma_W d 144 Q 27 l (.int 2 :: st) H 0 0 := wp_iconst rfl (by decide)
theorem w144_27 : ma_W d 144 Q 27 l (.int y :: .int x :: st) H 0 0 = ma_if (x = y) d 144 Q 30 83 l st H 0 0 := wp_ic (id := 144) (pc := 27) (c := .ne) (off := 56) 83 rfl (by decide)
theorem w144_30 : ma_W d 144 Q 30 (some (.ref i) :: l) st H 0 0 = ma_W d 144 Q 31 (some (.ref i) :: l) (.ref i :: st) H 0 0 := wp_aload_n (x := some i) rfl rfl
theorem w144_31 : ma_W d 144 Q 31 l (.ref i :: st) H 0 0 = ma_gf (H.1 i) 8 12 (ma_kV d 144 Q 34 l st H 0 0) := wp_get rfl (by decide +kernel)
theorem w144_34 : ma_W d 144 Q 34 l st H 0 0 = ma_W d 144 Q 35 l (.int 0 :: st) H 0 0 := wp_iconst rfl (by decide)
theorem w144_35 : ma_W d 144 Q 35 l st H 0 0 = ma_W d 144 Q 36 l (.int 5 :: st) H 0 0 := wp_iconst rfl (by decide)
theorem w144_36 : ma_W d 144 Q 36 l (.int x2 :: .int x1 :: .int x0 :: st) H 0 0 = (ma_cat st ≤ 8 ∧ ma_MW d 125 [.int x0, .int x1, .int x2] H (ma_kC d 144 Q 39 l st 0 0)) := wc_S0 (ia := 125) (n := 3) (cn := 8) (k := 1) rfl (by decide +kernel) (by decide) (fun _ => rfl) rfl rfl
theorem w144_39 : ma_W d 144 Q 39 l (.int x :: st) H 0 0 = ma_if (x = 0) d 144 Q 83 42 l st H 0 0 := wp_c0 (id := 144) (pc := 39) (c := .eq) (off := 44) 83 rfl (by decide)
theorem w144_42 : ma_W d 144 Q 42 (o0 :: o1 :: some (.int x) :: l) st H 0 0 = ma_W d 144 Q 43 (o0 :: o1 :: some (.int x) :: l) (.int x :: st) H 0 0 := wp_iload_n rfl rfl
theorem w144_43 : ma_W d 144 Q 43 l st H 0 0 = ma_W d 144 Q 45 l (.int 9 :: st) H 0 0 := wp_bipush rfl (by decide)
theorem w144_45 : ma_W d 144 Q 45 l (.int y :: .int x :: st) H 0 0 = ma_if (y ≤ x) d 144 Q 83 48 l st H 0 0 := wp_ic (id := 144) (pc := 45) (c := .ge) (off := 38) 83 rfl (by decide)
theorem w144_48 : ma_W d 144 Q 48 (some (.ref i) :: l) st H 0 0 = ma_W d 144 Q 49 (some (.ref i) :: l) (.ref i :: st) H 0 0 := wp_aload_n (x := some i) rfl rfl
theorem w144_49 : ma_W d 144 Q 49 l (.ref i :: st) H 0 0 = ma_gf (H.1 i) 8 1 (ma_kV d 144 Q 52 l st H 0 0) := wp_get rfl (by decide +kernel)
theorem w144_52 : ma_W d 144 Q 52 l (.ref i0 :: st) H 0 0 = (ma_cat st ≤ 8 ∧ ma_MW d 133 [.ref i0] H (ma_kC d 144 Q 55 l st 0 0)) := wc_S0 (ia := 133) (n := 1) (cn := 8) (k := 1) rfl (by decide +kernel) (by decide) (fun _ => rfl) rfl rfl
theorem w144_55 : ma_W d 144 Q 55 l st H 0 0 = ma_W d 144 Q 57 l (.int 16 :: st) H 0 0 := wp_bipush rfl (by decide)
theorem w144_57 : ma_W d 144 Q 57 l (.int y :: .int x :: st) H 0 0 = ma_if (y ≤ x) d 144 Q 83 60 l st H 0 0 := wp_ic (id := 144) (pc := 57) (c := .ge) (off := 26) 83 rfl (by decide)
theorem w144_60 : ma_W d 144 Q 60 (some (.ref i) :: l) st H 0 0 = ma_W d 144 Q 61 (some (.ref i) :: l) (.ref i :: st) H 0 0 := wp_aload_n (x := some i) rfl rfl
theorem w144_61 : ma_W d 144 Q 61 l (.ref i :: st) H 0 0 = ma_gf (H.1 i) 8 1 (ma_kV d 144 Q 64 l st H 0 0) := wp_get rfl (by decide +kernel)
theorem w144_64 : ma_W d 144 Q 64 (o0 :: some (.int x) :: l) st H 0 0 = ma_W d 144 Q 65 (o0 :: some (.int x) :: l) (.int x :: st) H 0 0 := wp_iload_n rfl rfl
theorem w144_65 : ma_W d 144 Q 65 (some (.ref i) :: l) st H 0 0 = ma_W d 144 Q 66 (some (.ref i) :: l) (.ref i :: st) H 0 0 := wp_aload_n (x := some i) rfl rfl
theorem w144_66 : ma_W d 144 Q 66 l (.ref i :: st) H 0 0 = ma_gf (H.1 i) 8 12 (ma_kV d 144 Q 69 l st H 0 0) := wp_get rfl (by decide +kernel)
theorem w144_69 : ma_W d 144 Q 69 l (.int x2 :: .int x1 :: .ref i0 :: st) H 0 0 = (ma_cat st ≤ 8 ∧ ma_MW d 136 [.ref i0, .int x1, .int x2] H (ma_kC d 144 Q 72 l st 0 0)) := wc_S0 (ia := 136) (n := 3) (cn := 8) (k := 1) rfl (by decide +kernel) (by decide) (fun _ => rfl) rfl rfl
theorem w144_72 : ma_W d 144 Q 72 l (.int x :: st) H 0 0 = ma_W d 144 Q 73 l st H 0 0 := wp_pop rfl rfl
theorem w144_73 : ma_W d 144 Q 73 (o0 :: o1 :: some (.int x) :: l) st H 0 0 = ma_W d 144 Q 76 (o0 :: ma_clr o1 :: some (.int (x + 1)) :: l) st H 0 0 := wp_iinc (id := 144) (pc := 73) (k := 2) (n := 1) rfl (Nat.succ_lt_succ (Nat.succ_lt_succ (Nat.zero_lt_succ _))) rfl (by decide)
theorem w144_76 : ma_W d 144 Q 76 (some (.ref i) :: l) st H 0 0 = ma_W d 144 Q 77 (some (.ref i) :: l) (.ref i :: st) H 0 0 := wp_aload_n (x := some i) rfl rfl
theorem w144_77 : ma_W d 144 Q 77 l (.ref i :: st) H 0 0 = (ma_cat st ≤ 8 ∧ ma_cv (H.1 i) 8 d 141 [.ref i] H (ma_kC d 144 Q 80 l st 0 0)) := wc_V0 (ia := 141) (n := 1) (cn := 8) rfl (by decide +kernel) (fun _ => rfl) rfl rfl
theorem w144_80 : ma_W d 144 Q 80 l st H 0 0 = ma_W d 144 Q 22 l st H 0 0 := wp_goto 22 rfl (by decide)
theorem w144_83 : ma_W d 144 Q 83 (some (.ref i) :: l) st H 0 0 = ma_W d 144 Q 84 (some (.ref i) :: l) (.ref i :: st) H 0 0 := wp_aload_n (x := some i) rfl rfl
theorem w144_84 : ma_W d 144 Q 84 l (.ref i :: st) H 0 0 = ma_gf (H.1 i) 8 11 (ma_kV d 144 Q 87 l st H 0 0) := wp_get rfl (by decide +kernel)
theorem w144_87 : ma_W d 144 Q 87 l st H 0 0 = ma_W d 144 Q 88 l (.int 3 :: st) H 0 0 := wp_iconst rfl (by decide)
theorem w144_88 : ma_W d 144 Q 88 l (.int y :: .int x :: st) H 0 0 = ma_if (x = y) d 144 Q 91 99 l st H 0 0 := wp_ic (id := 144) (pc := 88) (c := .ne) (off := 11) 99 rfl (by decide)
theorem w144_91 : ma_W d 144 Q 91 (o0 :: o1 :: some (.int x) :: l) st H 0 0 = ma_W d 144 Q 92 (o0 :: o1 :: some (.int x) :: l) (.int x :: st) H 0 0 := wp_iload_n rfl rfl
theorem w144_92 : ma_W d 144 Q 92 l (.int x :: st) H 0 0 = ma_if (x ≤ 0) d 144 Q 99 95 l st H 0 0 := wp_c0 (id := 144) (pc := 92) (c := .le) (off := 7) 99 rfl (by decide)
theorem w144_95 : ma_W d 144 Q 95 l st H 0 0 = ma_W d 144 Q 96 l (.int 1 :: st) H 0 0 := wp_iconst rfl (by decide)
theorem w144_96 : ma_W d 144 Q 96 l st H 0 0 = ma_W d 144 Q 100 l st H 0 0 := wp_goto 100 rfl (by decide)
theorem w144_99 : ma_W d 144 Q 99 l st H 0 0 = ma_W d 144 Q 100 l (.int 0 :: st) H 0 0 := wp_iconst rfl (by decide)
theorem w144_100 : ma_W d 144 Q 100 l [.int x] H 0 0 = ((x = 0 ∨ x = 1) ∧ Q (some (.int x)) H) := wp_zret rfl rfl
theorem e144 : ma_MW (d + 1) 144 [.ref i] H Q = ma_W d 144 Q 0 [some (.ref i), none, none] [] H 0 0 := wp_enter (by decide) (Nat.le_of_ble_eq_true rfl) rfl
/-! 145 mo_isLayItem -/
theorem w145_0 : ma_W d 145 Q 0 (some (.ref i) :: l) st H 0 0 = ma_W d 145 Q 1 (some (.ref i) :: l) (.ref i :: st) H 0 0 := wp_aload_n (x := some i) rfl rfl
theorem w145_1 : ma_W d 145 Q 1 l st H 0 0 = ma_W d 145 Q 2 l (.int 1 :: st) H 0 0 := wp_iconst rfl (by decide)
theorem w145_2 : ma_W d 145 Q 2 l st H 0 0 = ma_W d 145 Q 4 l (.int 99 :: st) H 0 0 := wp_bipush rfl (by decide)
theorem w145_4 : ma_W d 145 Q 4 l (.int x1 :: .int x0 :: .ref i :: st) H 0 0 = (ma_cat st ≤ 8 ∧ ma_cv (H.1 i) 8 d 142 [.ref i, .int x0, .int x1] H (ma_kC d 145 Q 7 l st 0 0)) := wc_V0 (ia := 142) (n := 3) (cn := 8) rfl (by decide +kernel) (fun _ => rfl) rfl rfl
theorem w145_7 : ma_W d 145 Q 7 l (.int x :: st) H 0 0 = ma_if (x = 0) d 145 Q 10 12 l st H 0 0 := wp_c0 (id := 145) (pc := 7) (c := .ne) (off := 5) 12 rfl (by decide)
theorem w145_10 : ma_W d 145 Q 10 l st H 0 0 = ma_W d 145 Q 11 l (.int 0 :: st) H 0 0 := wp_iconst rfl (by decide)
theorem w145_11 : ma_W d 145 Q 11 l [.int x] H 0 0 = ((x = 0 ∨ x = 1) ∧ Q (some (.int x)) H) := wp_zret rfl rfl
theorem w145_12 : ma_W d 145 Q 12 (some (.ref i) :: l) st H 0 0 = ma_W d 145 Q 13 (some (.ref i) :: l) (.ref i :: st) H 0 0 := wp_aload_n (x := some i) rfl rfl
theorem w145_13 : ma_W d 145 Q 13 l (.ref i :: st) H 0 0 = ma_gf (H.1 i) 8 12 (ma_kV d 145 Q 16 l st H 0 0) := wp_get rfl (by decide +kernel)
theorem w145_16 : ma_W d 145 Q 16 (o0 :: p :: l) (.int x :: st) H 0 0 = ma_W d 145 Q 17 (ma_clr o0 :: some (.int x) :: l) st H 0 0 := wp_istore_n (id := 145) (pc := 16) (k := 1) rfl (Nat.succ_lt_succ (Nat.zero_lt_succ _))
theorem w145_17 : ma_W d 145 Q 17 l st H 0 0 = ma_W d 145 Q 18 l (.int 0 :: st) H 0 0 := wp_iconst rfl (by decide)
theorem w145_18 : ma_W d 145 Q 18 (o0 :: o1 :: p :: l) (.int x :: st) H 0 0 = ma_W d 145 Q 19 (o0 :: ma_clr o1 :: some (.int x) :: l) st H 0 0 := wp_istore_n (id := 145) (pc := 18) (k := 2) rfl (Nat.succ_lt_succ (Nat.succ_lt_succ (Nat.zero_lt_succ _)))
theorem w145_19 : ma_W d 145 Q 19 (o0 :: o1 :: some (.int x) :: l) st H 0 0 = ma_W d 145 Q 20 (o0 :: o1 :: some (.int x) :: l) (.int x :: st) H 0 0 := wp_iload_n rfl rfl
theorem w145_20 : ma_W d 145 Q 20 (o0 :: some (.int x) :: l) st H 0 0 = ma_W d 145 Q 21 (o0 :: some (.int x) :: l) (.int x :: st) H 0 0 := wp_iload_n rfl rfl
theorem w145_21 : ma_W d 145 Q 21 l (.int y :: .int x :: st) H 0 0 = ma_if (y ≤ x) d 145 Q 48 24 l st H 0 0 := wp_ic (id := 145) (pc := 21) (c := .ge) (off := 27) 48 rfl (by decide)
theorem w145_24 : ma_W d 145 Q 24 (some (.ref i) :: l) st H 0 0 = ma_W d 145 Q 25 (some (.ref i) :: l) (.ref i :: st) H 0 0 := wp_aload_n (x := some i) rfl rfl
theorem w145_25 : ma_W d 145 Q 25 l (.ref i :: st) H 0 0 = ma_gf (H.1 i) 8 1 (ma_kV d 145 Q 28 l st H 0 0) := wp_get rfl (by decide +kernel)
theorem w145_28 : ma_W d 145 Q 28 l (.ref i0 :: st) H 0 0 = (ma_cat st ≤ 8 ∧ ma_MW d 151 [.ref i0] H (ma_kC d 145 Q 31 l st 0 0)) := wc_S0 (ia := 151) (n := 1) (cn := 8) (k := 1) rfl (by decide +kernel) (by decide) (fun _ => rfl) rfl rfl
theorem w145_31 : ma_W d 145 Q 31 l (.int x :: st) H 0 0 = ma_if (x = 0) d 145 Q 34 48 l st H 0 0 := wp_c0 (id := 145) (pc := 31) (c := .ne) (off := 17) 48 rfl (by decide)
theorem w145_34 : ma_W d 145 Q 34 (some (.ref i) :: l) st H 0 0 = ma_W d 145 Q 35 (some (.ref i) :: l) (.ref i :: st) H 0 0 := wp_aload_n (x := some i) rfl rfl
theorem w145_35 : ma_W d 145 Q 35 (some (.ref i) :: l) st H 0 0 = ma_W d 145 Q 36 (some (.ref i) :: l) (.ref i :: st) H 0 0 := wp_aload_n (x := some i) rfl rfl
theorem w145_36 : ma_W d 145 Q 36 l (.ref i :: st) H 0 0 = ma_gf (H.1 i) 8 1 (ma_kV d 145 Q 39 l st H 0 0) := wp_get rfl (by decide +kernel)
theorem w145_39 : ma_W d 145 Q 39 l (.ref i0 :: .ref i :: st) H 0 0 = (ma_cat st ≤ 8 ∧ ma_cv (H.1 i) 8 d 153 [.ref i, .ref i0] H (ma_kC d 145 Q 42 l st 0 0)) := wc_V0 (ia := 153) (n := 2) (cn := 8) rfl (by decide +kernel) (fun _ => rfl) rfl rfl
theorem w145_42 : ma_W d 145 Q 42 (o0 :: o1 :: some (.int x) :: l) st H 0 0 = ma_W d 145 Q 45 (o0 :: ma_clr o1 :: some (.int (x + 1)) :: l) st H 0 0 := wp_iinc (id := 145) (pc := 42) (k := 2) (n := 1) rfl (Nat.succ_lt_succ (Nat.succ_lt_succ (Nat.zero_lt_succ _))) rfl (by decide)
theorem w145_45 : ma_W d 145 Q 45 l st H 0 0 = ma_W d 145 Q 19 l st H 0 0 := wp_goto 19 rfl (by decide)
theorem w145_48 : ma_W d 145 Q 48 (some (.ref i) :: l) st H 0 0 = ma_W d 145 Q 49 (some (.ref i) :: l) (.ref i :: st) H 0 0 := wp_aload_n (x := some i) rfl rfl
theorem w145_49 : ma_W d 145 Q 49 l (.ref i :: st) H 0 0 = (ma_cat st ≤ 8 ∧ ma_cv (H.1 i) 8 d 141 [.ref i] H (ma_kC d 145 Q 52 l st 0 0)) := wc_V0 (ia := 141) (n := 1) (cn := 8) rfl (by decide +kernel) (fun _ => rfl) rfl rfl
theorem w145_52 : ma_W d 145 Q 52 (some (.ref i) :: l) st H 0 0 = ma_W d 145 Q 53 (some (.ref i) :: l) (.ref i :: st) H 0 0 := wp_aload_n (x := some i) rfl rfl
theorem w145_53 : ma_W d 145 Q 53 l (.ref i :: st) H 0 0 = ma_gf (H.1 i) 8 11 (ma_kV d 145 Q 56 l st H 0 0) := wp_get rfl (by decide +kernel)
theorem w145_56 : ma_W d 145 Q 56 l st H 0 0 = ma_W d 145 Q 57 l (.int 3 :: st) H 0 0 := wp_iconst rfl (by decide)
theorem w145_57 : ma_W d 145 Q 57 l (.int y :: .int x :: st) H 0 0 = ma_if (x = y) d 145 Q 60 64 l st H 0 0 := wp_ic (id := 145) (pc := 57) (c := .ne) (off := 7) 64 rfl (by decide)
theorem w145_60 : ma_W d 145 Q 60 l st H 0 0 = ma_W d 145 Q 61 l (.int 1 :: st) H 0 0 := wp_iconst rfl (by decide)
theorem w145_61 : ma_W d 145 Q 61 l st H 0 0 = ma_W d 145 Q 65 l st H 0 0 := wp_goto 65 rfl (by decide)
theorem w145_64 : ma_W d 145 Q 64 l st H 0 0 = ma_W d 145 Q 65 l (.int 0 :: st) H 0 0 := wp_iconst rfl (by decide)
theorem w145_65 : ma_W d 145 Q 65 l [.int x] H 0 0 = ((x = 0 ∨ x = 1) ∧ Q (some (.int x)) H) := wp_zret rfl rfl
theorem e145 : ma_MW (d + 1) 145 [.ref i] H Q = ma_W d 145 Q 0 [some (.ref i), none, none] [] H 0 0 := wp_enter (by decide) (Nat.le_of_ble_eq_true rfl) rfl
/-! 146 mo_isItem -/
theorem w146_0 : ma_W d 146 Q 0 (some (.ref i) :: l) st H 0 0 = ma_W d 146 Q 1 (some (.ref i) :: l) (.ref i :: st) H 0 0 := wp_aload_n (x := some i) rfl rfl
theorem w146_1 : ma_W d 146 Q 1 l (.ref i :: st) H 0 0 = ma_gf (H.1 i) 8 14 (ma_kV d 146 Q 4 l st H 0 0) := wp_get rfl (by decide +kernel)
theorem w146_4 : ma_W d 146 Q 4 l (.int x :: st) H 0 0 = ma_if (x = 0) d 146 Q 7 11 l st H 0 0 := wp_c0 (id := 146) (pc := 4) (c := .ne) (off := 7) 11 rfl (by decide)
theorem w146_7 : ma_W d 146 Q 7 l st H 0 0 = ma_W d 146 Q 8 l (.int 1 :: st) H 0 0 := wp_iconst rfl (by decide)
theorem w146_8 : ma_W d 146 Q 8 l st H 0 0 = ma_W d 146 Q 12 l st H 0 0 := wp_goto 12 rfl (by decide)
theorem w146_11 : ma_W d 146 Q 11 l st H 0 0 = ma_W d 146 Q 12 l (.int 0 :: st) H 0 0 := wp_iconst rfl (by decide)
theorem w146_12 : ma_W d 146 Q 12 (o0 :: p :: l) (.int x :: st) H 0 0 = ma_W d 146 Q 13 (ma_clr o0 :: some (.int x) :: l) st H 0 0 := wp_istore_n (id := 146) (pc := 12) (k := 1) rfl (Nat.succ_lt_succ (Nat.zero_lt_succ _))
theorem w146_13 : ma_W d 146 Q 13 (some (.ref i) :: l) st H 0 0 = ma_W d 146 Q 14 (some (.ref i) :: l) (.ref i :: st) H 0 0 := wp_aload_n (x := some i) rfl rfl
theorem w146_14 : ma_W d 146 Q 14 l (.ref i :: st) H 0 0 = ma_gf (H.1 i) 8 11 (ma_kV d 146 Q 17 l st H 0 0) := wp_get rfl (by decide +kernel)
theorem w146_17 : ma_W d 146 Q 17 l st H 0 0 = ma_W d 146 Q 18 l (.int 1 :: st) H 0 0 := wp_iconst rfl (by decide)
theorem w146_18 : ma_W d 146 Q 18 l (.int y :: .int x :: st) H 0 0 = ma_if (x = y) d 146 Q 21 41 l st H 0 0 := wp_ic (id := 146) (pc := 18) (c := .ne) (off := 23) 41 rfl (by decide)
theorem w146_21 : ma_W d 146 Q 21 (o0 :: some (.int x) :: l) st H 0 0 = ma_W d 146 Q 22 (o0 :: some (.int x) :: l) (.int x :: st) H 0 0 := wp_iload_n rfl rfl
theorem w146_22 : ma_W d 146 Q 22 (some (.ref i) :: l) st H 0 0 = ma_W d 146 Q 23 (some (.ref i) :: l) (.ref i :: st) H 0 0 := wp_aload_n (x := some i) rfl rfl
theorem w146_23 : ma_W d 146 Q 23 l (.ref i :: st) H 0 0 = ma_gf (H.1 i) 8 13 (ma_kV d 146 Q 26 l st H 0 0) := wp_get rfl (by decide +kernel)
theorem w146_26 : ma_W d 146 Q 26 l st H 0 0 = ma_W d 146 Q 29 l (.long 1734438245 :: st) H 0 0 := wp_ldc2 rfl (by decide +kernel)
theorem w146_29 : ma_W d 146 Q 29 l (.long v :: .long u :: st) H 0 0 = ma_W d 146 Q 30 l (.int (lg_cmp u v) :: st) H 0 0 := wp_lcmp rfl
theorem w146_30 : ma_W d 146 Q 30 l (.int x :: st) H 0 0 = ma_if (x = 0) d 146 Q 33 37 l st H 0 0 := wp_c0 (id := 146) (pc := 30) (c := .ne) (off := 7) 37 rfl (by decide)
theorem w146_33 : ma_W d 146 Q 33 l st H 0 0 = ma_W d 146 Q 34 l (.int 1 :: st) H 0 0 := wp_iconst rfl (by decide)
theorem w146_34 : ma_W d 146 Q 34 l st H 0 0 = ma_W d 146 Q 38 l st H 0 0 := wp_goto 38 rfl (by decide)
theorem w146_37 : ma_W d 146 Q 37 l st H 0 0 = ma_W d 146 Q 38 l (.int 0 :: st) H 0 0 := wp_iconst rfl (by decide)
theorem w146_38 : ma_W d 146 Q 38 l (.int y :: .int x :: st) H 0 0 = ma_if (x = y) d 146 Q 43 41 l st H 0 0 := wp_ic (id := 146) (pc := 38) (c := .eq) (off := 5) 43 rfl (by decide)
theorem w146_41 : ma_W d 146 Q 41 l st H 0 0 = ma_W d 146 Q 42 l (.int 0 :: st) H 0 0 := wp_iconst rfl (by decide)
theorem w146_42 : ma_W d 146 Q 42 l [.int x] H 0 0 = ((x = 0 ∨ x = 1) ∧ Q (some (.int x)) H) := wp_zret rfl rfl
theorem w146_43 : ma_W d 146 Q 43 (o0 :: some (.int x) :: l) st H 0 0 = ma_W d 146 Q 44 (o0 :: some (.int x) :: l) (.int x :: st) H 0 0 := wp_iload_n rfl rfl
theorem w146_44 : ma_W d 146 Q 44 l (.int x :: st) H 0 0 = ma_if (x = 0) d 146 Q 52 47 l st H 0 0 := wp_c0 (id := 146) (pc := 44) (c := .eq) (off := 8) 52 rfl (by decide)
theorem w146_47 : ma_W d 146 Q 47 (some (.ref i) :: l) st H 0 0 = ma_W d 146 Q 48 (some (.ref i) :: l) (.ref i :: st) H 0 0 := wp_aload_n (x := some i) rfl rfl
theorem w146_48 : ma_W d 146 Q 48 l (.ref i :: st) H 0 0 = (ma_cat st ≤ 8 ∧ ma_cv (H.1 i) 8 d 143 [.ref i] H (ma_kC d 146 Q 51 l st 0 0)) := wc_V0 (ia := 143) (n := 1) (cn := 8) rfl (by decide +kernel) (fun _ => rfl) rfl rfl
theorem w146_51 : ma_W d 146 Q 51 l [.int x] H 0 0 = ((x = 0 ∨ x = 1) ∧ Q (some (.int x)) H) := wp_zret rfl rfl
theorem w146_52 : ma_W d 146 Q 52 (some (.ref i) :: l) st H 0 0 = ma_W d 146 Q 53 (some (.ref i) :: l) (.ref i :: st) H 0 0 := wp_aload_n (x := some i) rfl rfl
theorem w146_53 : ma_W d 146 Q 53 l (.ref i :: st) H 0 0 = ma_gf (H.1 i) 8 13 (ma_kV d 146 Q 56 l st H 0 0) := wp_get rfl (by decide +kernel)
theorem w146_56 : ma_W d 146 Q 56 l st H 0 0 = ma_W d 146 Q 59 l (.long 1751215716 :: st) H 0 0 := wp_ldc2 rfl (by decide +kernel)
theorem w146_59 : ma_W d 146 Q 59 l (.long v :: .long u :: st) H 0 0 = ma_W d 146 Q 60 l (.int (lg_cmp u v) :: st) H 0 0 := wp_lcmp rfl
theorem w146_60 : ma_W d 146 Q 60 l (.int x :: st) H 0 0 = ma_if (x = 0) d 146 Q 63 70 l st H 0 0 := wp_c0 (id := 146) (pc := 60) (c := .ne) (off := 10) 70 rfl (by decide)
theorem w146_63 : ma_W d 146 Q 63 (some (.ref i) :: l) st H 0 0 = ma_W d 146 Q 64 (some (.ref i) :: l) (.ref i :: st) H 0 0 := wp_aload_n (x := some i) rfl rfl
theorem w146_64 : ma_W d 146 Q 64 l (.ref i :: st) H 0 0 = (ma_cat st ≤ 8 ∧ ma_cv (H.1 i) 8 d 144 [.ref i] H (ma_kC d 146 Q 67 l st 0 0)) := wc_V0 (ia := 144) (n := 1) (cn := 8) rfl (by decide +kernel) (fun _ => rfl) rfl rfl
theorem w146_67 : ma_W d 146 Q 67 l st H 0 0 = ma_W d 146 Q 93 l st H 0 0 := wp_goto 93 rfl (by decide)
theorem w146_70 : ma_W d 146 Q 70 (some (.ref i) :: l) st H 0 0 = ma_W d 146 Q 71 (some (.ref i) :: l) (.ref i :: st) H 0 0 := wp_aload_n (x := some i) rfl rfl
theorem w146_71 : ma_W d 146 Q 71 l (.ref i :: st) H 0 0 = ma_gf (H.1 i) 8 13 (ma_kV d 146 Q 74 l st H 0 0) := wp_get rfl (by decide +kernel)
theorem w146_74 : ma_W d 146 Q 74 l st H 0 0 = ma_W d 146 Q 77 l (.long 7102841 :: st) H 0 0 := wp_ldc2 rfl (by decide +kernel)
theorem w146_77 : ma_W d 146 Q 77 l (.long v :: .long u :: st) H 0 0 = ma_W d 146 Q 78 l (.int (lg_cmp u v) :: st) H 0 0 := wp_lcmp rfl
theorem w146_78 : ma_W d 146 Q 78 l (.int x :: st) H 0 0 = ma_if (x = 0) d 146 Q 81 92 l st H 0 0 := wp_c0 (id := 146) (pc := 78) (c := .ne) (off := 14) 92 rfl (by decide)
theorem w146_81 : ma_W d 146 Q 81 (some (.ref i) :: l) st H 0 0 = ma_W d 146 Q 82 (some (.ref i) :: l) (.ref i :: st) H 0 0 := wp_aload_n (x := some i) rfl rfl
theorem w146_82 : ma_W d 146 Q 82 l (.ref i :: st) H 0 0 = (ma_cat st ≤ 8 ∧ ma_cv (H.1 i) 8 d 145 [.ref i] H (ma_kC d 146 Q 85 l st 0 0)) := wc_V0 (ia := 145) (n := 1) (cn := 8) rfl (by decide +kernel) (fun _ => rfl) rfl rfl
theorem w146_85 : ma_W d 146 Q 85 l (.int x :: st) H 0 0 = ma_if (x = 0) d 146 Q 92 88 l st H 0 0 := wp_c0 (id := 146) (pc := 85) (c := .eq) (off := 7) 92 rfl (by decide)
theorem w146_88 : ma_W d 146 Q 88 l st H 0 0 = ma_W d 146 Q 89 l (.int 1 :: st) H 0 0 := wp_iconst rfl (by decide)
theorem w146_89 : ma_W d 146 Q 89 l st H 0 0 = ma_W d 146 Q 93 l st H 0 0 := wp_goto 93 rfl (by decide)
theorem w146_92 : ma_W d 146 Q 92 l st H 0 0 = ma_W d 146 Q 93 l (.int 0 :: st) H 0 0 := wp_iconst rfl (by decide)
theorem w146_93 : ma_W d 146 Q 93 l [.int x] H 0 0 = ((x = 0 ∨ x = 1) ∧ Q (some (.int x)) H) := wp_zret rfl rfl
theorem e146 : ma_MW (d + 1) 146 [.ref i] H Q = ma_W d 146 Q 0 [some (.ref i), none] [] H 0 0 := wp_enter (by decide) (Nat.le_of_ble_eq_true rfl) rfl
/-! 147 mo_isRead -/
theorem w147_0 : ma_W d 147 Q 0 (some (.ref i) :: l) st H 0 0 = ma_W d 147 Q 1 (some (.ref i) :: l) (.ref i :: st) H 0 0 := wp_aload_n (x := some i) rfl rfl
theorem w147_1 : ma_W d 147 Q 1 l (.ref i :: st) H 0 0 = ma_gf (H.1 i) 8 1 (ma_kV d 147 Q 4 l st H 0 0) := wp_get rfl (by decide +kernel)
theorem w147_4 : ma_W d 147 Q 4 l (.ref i0 :: st) H 0 0 = (ma_cat st ≤ 8 ∧ ma_MW d 132 [.ref i0] H (ma_kC d 147 Q 7 l st 0 0)) := wc_S0 (ia := 132) (n := 1) (cn := 8) (k := 1) rfl (by decide +kernel) (by decide) (fun _ => rfl) rfl rfl
theorem w147_7 : ma_W d 147 Q 7 (some (.ref i) :: l) st H 0 0 = ma_W d 147 Q 8 (some (.ref i) :: l) (.ref i :: st) H 0 0 := wp_aload_n (x := some i) rfl rfl
theorem w147_8 : ma_W d 147 Q 8 l st H 0 0 = ma_W d 147 Q 9 l (.int 0 :: st) H 0 0 := wp_iconst rfl (by decide)
theorem w147_9 : ma_W d 147 Q 9 l (.int x :: .ref i :: st) H 0 0 = ma_pf (H.1 i) 8 9 (.int x) (ma_kH d 147 Q 12 l st H i 0 0) := wp_put rfl (by decide +kernel) (by decide +kernel) rfl rfl
theorem w147_12 : ma_W d 147 Q 12 (some (.ref i) :: l) st H 0 0 = ma_W d 147 Q 13 (some (.ref i) :: l) (.ref i :: st) H 0 0 := wp_aload_n (x := some i) rfl rfl
theorem w147_13 : ma_W d 147 Q 13 l st H 0 0 = ma_W d 147 Q 14 l (.int 0 :: st) H 0 0 := wp_iconst rfl (by decide)
theorem w147_14 : ma_W d 147 Q 14 l (.int x :: .ref i :: st) H 0 0 = ma_pf (H.1 i) 8 14 (.int x) (ma_kH d 147 Q 17 l st H i 0 0) := wp_put rfl (by decide +kernel) (by decide +kernel) rfl rfl
theorem w147_17 : ma_W d 147 Q 17 (some (.ref i) :: l) st H 0 0 = ma_W d 147 Q 18 (some (.ref i) :: l) (.ref i :: st) H 0 0 := wp_aload_n (x := some i) rfl rfl
theorem w147_18 : ma_W d 147 Q 18 l (.ref i :: st) H 0 0 = (ma_cat st ≤ 8 ∧ ma_cv (H.1 i) 8 d 141 [.ref i] H (ma_kC d 147 Q 21 l st 0 0)) := wc_V0 (ia := 141) (n := 1) (cn := 8) rfl (by decide +kernel) (fun _ => rfl) rfl rfl
theorem w147_21 : ma_W d 147 Q 21 (some (.ref i) :: l) st H 0 0 = ma_W d 147 Q 22 (some (.ref i) :: l) (.ref i :: st) H 0 0 := wp_aload_n (x := some i) rfl rfl
theorem w147_22 : ma_W d 147 Q 22 l (.ref i :: st) H 0 0 = ma_gf (H.1 i) 8 11 (ma_kV d 147 Q 25 l st H 0 0) := wp_get rfl (by decide +kernel)
theorem w147_25 : ma_W d 147 Q 25 l (.int x :: st) H 0 0 = ma_if (x = 0) d 147 Q 28 35 l st H 0 0 := wp_c0 (id := 147) (pc := 25) (c := .ne) (off := 10) 35 rfl (by decide)
theorem w147_28 : ma_W d 147 Q 28 (some (.ref i) :: l) st H 0 0 = ma_W d 147 Q 29 (some (.ref i) :: l) (.ref i :: st) H 0 0 := wp_aload_n (x := some i) rfl rfl
theorem w147_29 : ma_W d 147 Q 29 l (.ref i :: st) H 0 0 = ma_gf (H.1 i) 8 14 (ma_kV d 147 Q 32 l st H 0 0) := wp_get rfl (by decide +kernel)
theorem w147_32 : ma_W d 147 Q 32 l (.int x :: st) H 0 0 = ma_if (x = 0) d 147 Q 35 61 l st H 0 0 := wp_c0 (id := 147) (pc := 32) (c := .ne) (off := 29) 61 rfl (by decide)
theorem w147_35 : ma_W d 147 Q 35 (some (.ref i) :: l) st H 0 0 = ma_W d 147 Q 36 (some (.ref i) :: l) (.ref i :: st) H 0 0 := wp_aload_n (x := some i) rfl rfl
theorem w147_36 : ma_W d 147 Q 36 l (.ref i :: st) H 0 0 = (ma_cat st ≤ 8 ∧ ma_cv (H.1 i) 8 d 146 [.ref i] H (ma_kC d 147 Q 39 l st 0 0)) := wc_V0 (ia := 146) (n := 1) (cn := 8) rfl (by decide +kernel) (fun _ => rfl) rfl rfl
theorem w147_39 : ma_W d 147 Q 39 l (.int x :: st) H 0 0 = ma_if (x = 0) d 147 Q 42 44 l st H 0 0 := wp_c0 (id := 147) (pc := 39) (c := .ne) (off := 5) 44 rfl (by decide)
theorem w147_42 : ma_W d 147 Q 42 l st H 0 0 = ma_W d 147 Q 43 l (.int 0 :: st) H 0 0 := wp_iconst rfl (by decide)
theorem w147_43 : ma_W d 147 Q 43 l [.int x] H 0 0 = ((x = 0 ∨ x = 1) ∧ Q (some (.int x)) H) := wp_zret rfl rfl
theorem w147_44 : ma_W d 147 Q 44 (some (.ref i) :: l) st H 0 0 = ma_W d 147 Q 45 (some (.ref i) :: l) (.ref i :: st) H 0 0 := wp_aload_n (x := some i) rfl rfl
theorem w147_45 : ma_W d 147 Q 45 l (.ref i :: st) H 0 0 = ma_W d 147 Q 46 l (.ref i :: .ref i :: st) H 0 0 := wp_dup rfl rfl
theorem w147_45i : ma_W d 147 Q 45 l (.int x :: st) H 0 0 = ma_W d 147 Q 46 l (.int x :: .int x :: st) H 0 0 := wp_dup rfl rfl
theorem w147_46 : ma_W d 147 Q 46 l (.ref i :: st) H 0 0 = ma_gf (H.1 i) 8 14 (ma_kV d 147 Q 49 l st H 0 0) := wp_get rfl (by decide +kernel)
theorem w147_49 : ma_W d 147 Q 49 l st H 0 0 = ma_W d 147 Q 50 l (.int 1 :: st) H 0 0 := wp_iconst rfl (by decide)
theorem w147_50 : ma_W d 147 Q 50 l (.int y :: .int x :: st) H 0 0 = ma_W d 147 Q 51 l (.int (x + y) :: st) H 0 0 := wp_iadd rfl
theorem w147_51 : ma_W d 147 Q 51 l (.int x :: .ref i :: st) H 0 0 = ma_pf (H.1 i) 8 14 (.int x) (ma_kH d 147 Q 54 l st H i 0 0) := wp_put rfl (by decide +kernel) (by decide +kernel) rfl rfl
theorem w147_54 : ma_W d 147 Q 54 (some (.ref i) :: l) st H 0 0 = ma_W d 147 Q 55 (some (.ref i) :: l) (.ref i :: st) H 0 0 := wp_aload_n (x := some i) rfl rfl
theorem w147_55 : ma_W d 147 Q 55 l (.ref i :: st) H 0 0 = (ma_cat st ≤ 8 ∧ ma_cv (H.1 i) 8 d 141 [.ref i] H (ma_kC d 147 Q 58 l st 0 0)) := wc_V0 (ia := 141) (n := 1) (cn := 8) rfl (by decide +kernel) (fun _ => rfl) rfl rfl
theorem w147_58 : ma_W d 147 Q 58 l st H 0 0 = ma_W d 147 Q 21 l st H 0 0 := wp_goto 21 rfl (by decide)
theorem w147_61 : ma_W d 147 Q 61 l st H 0 0 = ma_W d 147 Q 62 l (.int 1 :: st) H 0 0 := wp_iconst rfl (by decide)
theorem w147_62 : ma_W d 147 Q 62 l [.int x] H 0 0 = ((x = 0 ∨ x = 1) ∧ Q (some (.int x)) H) := wp_zret rfl rfl
theorem e147 : ma_MW (d + 1) 147 [.ref i] H Q = ma_W d 147 Q 0 [some (.ref i)] [] H 0 0 := wp_enter (by decide) (Nat.le_of_ble_eq_true rfl) rfl
/-! 148 mo_read -/
theorem w148_0 : ma_W d 148 Q 0 (some (.ref i) :: l) st H 0 0 = ma_W d 148 Q 1 (some (.ref i) :: l) (.ref i :: st) H 0 0 := wp_aload_n (x := some i) rfl rfl
theorem w148_1 : ma_W d 148 Q 1 l (.ref i :: st) H 0 0 = (ma_cat st ≤ 8 ∧ ma_cv (H.1 i) 8 d 147 [.ref i] H (ma_kC d 148 Q 4 l st 0 0)) := wc_V0 (ia := 147) (n := 1) (cn := 8) rfl (by decide +kernel) (fun _ => rfl) rfl rfl
theorem w148_4 : ma_W d 148 Q 4 l (.int x :: st) H 0 0 = ma_if (x = 0) d 148 Q 7 15 l st H 0 0 := wp_c0 (id := 148) (pc := 4) (c := .ne) (off := 11) 15 rfl (by decide)
theorem w148_7 : ma_W d 148 Q 7 l st H 0 0 = ma_W d 148 Q 9 l (.int (-10) :: st) H 0 0 := wp_bipush rfl (by decide)
theorem w148_9 : ma_W d 148 Q 9 (some (.ref i) :: l) st H 0 0 = ma_W d 148 Q 10 (some (.ref i) :: l) (.ref i :: st) H 0 0 := wp_aload_n (x := some i) rfl rfl
theorem w148_10 : ma_W d 148 Q 10 l (.ref i :: st) H 0 0 = ma_gf (H.1 i) 8 10 (ma_kV d 148 Q 13 l st H 0 0) := wp_get rfl (by decide +kernel)
theorem w148_13 : ma_W d 148 Q 13 l (.int y :: .int x :: st) H 0 0 = ma_W d 148 Q 14 l (.int (x - y) :: st) H 0 0 := wp_isub rfl
theorem w148_14 : ma_W d 148 Q 14 l [.int x] H 0 0 = Q (some (.int x)) H := wp_iret rfl rfl
theorem w148_15 : ma_W d 148 Q 15 (some (.ref i) :: l) st H 0 0 = ma_W d 148 Q 16 (some (.ref i) :: l) (.ref i :: st) H 0 0 := wp_aload_n (x := some i) rfl rfl
theorem w148_16 : ma_W d 148 Q 16 l (.ref i :: st) H 0 0 = ma_gf (H.1 i) 8 1 (ma_kV d 148 Q 19 l st H 0 0) := wp_get rfl (by decide +kernel)
theorem w148_19 : ma_W d 148 Q 19 l st H 0 0 = ma_W d 148 Q 20 l (.int 0 :: st) H 0 0 := wp_iconst rfl (by decide)
theorem w148_20 : ma_W d 148 Q 20 (some (.ref i) :: l) st H 0 0 = ma_W d 148 Q 21 (some (.ref i) :: l) (.ref i :: st) H 0 0 := wp_aload_n (x := some i) rfl rfl
theorem w148_21 : ma_W d 148 Q 21 l (.ref i :: st) H 0 0 = ma_gf (H.1 i) 8 0 (ma_kV d 148 Q 24 l st H 0 0) := wp_get rfl (by decide +kernel)
theorem w148_24 : ma_W d 148 Q 24 l st H 0 0 = ma_W d 148 Q 25 l (.int 0 :: st) H 0 0 := wp_iconst rfl (by decide)
theorem w148_25 : ma_W d 148 Q 25 l st H 0 0 = ma_W d 148 Q 28 l (.int 545 :: st) H 0 0 := wp_sipush rfl (by decide)
theorem w148_28 : ma_W d 148 Q 28 l (.int x4 :: .int x3 :: .ref i2 :: .int x1 :: .ref i0 :: st) H 0 0 = (ma_cat st ≤ 8 ∧ ma_MW d 131 [.ref i0, .int x1, .ref i2, .int x3, .int x4] H (ma_kC d 148 Q 31 l st 0 0)) := wc_S0 (ia := 131) (n := 5) (cn := 8) (k := 1) rfl (by decide +kernel) (by decide) (fun _ => rfl) rfl rfl
theorem w148_31 : ma_W d 148 Q 31 (some (.ref i) :: l) st H 0 0 = ma_W d 148 Q 32 (some (.ref i) :: l) (.ref i :: st) H 0 0 := wp_aload_n (x := some i) rfl rfl
theorem w148_32 : ma_W d 148 Q 32 l (.ref i :: st) H 0 0 = ma_gf (H.1 i) 8 14 (ma_kV d 148 Q 35 l st H 0 0) := wp_get rfl (by decide +kernel)
theorem w148_35 : ma_W d 148 Q 35 l [.int x] H 0 0 = Q (some (.int x)) H := wp_iret rfl rfl
theorem e148 : ma_MW (d + 1) 148 [.ref i] H Q = ma_W d 148 Q 0 [some (.ref i)] [] H 0 0 := wp_enter (by decide) (Nat.le_of_ble_eq_true rfl) rfl
/-! 149 mo_owedBy -/
theorem w149_0 : ma_W d 149 Q 0 (some (.int x) :: l) st H 0 0 = ma_W d 149 Q 1 (some (.int x) :: l) (.int x :: st) H 0 0 := wp_iload_n rfl rfl
theorem w149_1 : ma_W d 149 Q 1 l (.int x :: st) H 0 0 = ma_sw x 0 [36, 38, 40, 42, 44] 46 d 149 Q l st H 0 0 := wp_switch _ _ rfl (by decide) (by decide +kernel) (by decide)
theorem w149_36 : ma_W d 149 Q 36 l st H 0 0 = ma_W d 149 Q 37 l (.int 0 :: st) H 0 0 := wp_iconst rfl (by decide)
theorem w149_37 : ma_W d 149 Q 37 l [.int x] H 0 0 = Q (some (.int x)) H := wp_iret rfl rfl
theorem w149_38 : ma_W d 149 Q 38 l st H 0 0 = ma_W d 149 Q 39 l (.int 1 :: st) H 0 0 := wp_iconst rfl (by decide)
theorem w149_39 : ma_W d 149 Q 39 l [.int x] H 0 0 = Q (some (.int x)) H := wp_iret rfl rfl
theorem w149_40 : ma_W d 149 Q 40 l st H 0 0 = ma_W d 149 Q 41 l (.int 2 :: st) H 0 0 := wp_iconst rfl (by decide)
theorem w149_41 : ma_W d 149 Q 41 l [.int x] H 0 0 = Q (some (.int x)) H := wp_iret rfl rfl
theorem w149_42 : ma_W d 149 Q 42 l st H 0 0 = ma_W d 149 Q 43 l (.int 3 :: st) H 0 0 := wp_iconst rfl (by decide)
theorem w149_43 : ma_W d 149 Q 43 l [.int x] H 0 0 = Q (some (.int x)) H := wp_iret rfl rfl
theorem w149_44 : ma_W d 149 Q 44 l st H 0 0 = ma_W d 149 Q 45 l (.int 4 :: st) H 0 0 := wp_iconst rfl (by decide)
theorem w149_45 : ma_W d 149 Q 45 l [.int x] H 0 0 = Q (some (.int x)) H := wp_iret rfl rfl
theorem w149_46 : ma_W d 149 Q 46 l st H 0 0 = ma_W d 149 Q 47 l (.int 1 :: st) H 0 0 := wp_iconst rfl (by decide)
theorem w149_47 : ma_W d 149 Q 47 (o0 :: some (.int x) :: l) st H 0 0 = ma_W d 149 Q 48 (o0 :: some (.int x) :: l) (.int x :: st) H 0 0 := wp_iload_n rfl rfl
theorem w149_48 : ma_W d 149 Q 48 l st H 0 0 = ma_W d 149 Q 49 l (.int 3 :: st) H 0 0 := wp_iconst rfl (by decide)
theorem w149_49 : ma_W d 149 Q 49 l (.int y :: .int x :: st) H 0 0 = (¬ y = 0 ∧ ma_W d 149 Q 50 l (.int (ma_rem x y) :: st) H 0 0) := wp_irem rfl
theorem w149_50 : ma_W d 149 Q 50 l (.int y :: .int x :: st) H 0 0 = ma_W d 149 Q 51 l (.int (x + y) :: st) H 0 0 := wp_iadd rfl
theorem w149_51 : ma_W d 149 Q 51 l [.int x] H 0 0 = Q (some (.int x)) H := wp_iret rfl rfl
theorem e149 : ma_MW (d + 1) 149 [.int x0, .int x1] H Q = ma_W d 149 Q 0 [some (.int x0), some (.int x1)] [] H 0 0 := wp_enter (by decide) (Nat.le_of_ble_eq_true rfl) rfl
/-! 150 mo_comesBy -/
theorem w150_0 : ma_W d 150 Q 0 (some (.int x) :: l) st H 0 0 = ma_W d 150 Q 1 (some (.int x) :: l) (.int x :: st) H 0 0 := wp_iload_n rfl rfl
theorem w150_1 : ma_W d 150 Q 1 l (.int x :: st) H 0 0 = ma_sw x 1 [36, 42, 50, 86, 98] 126 d 150 Q l st H 0 0 := wp_switch _ _ rfl (by decide) (by decide +kernel) (by decide)
theorem w150_36 : ma_W d 150 Q 36 (o0 :: some (.int x) :: l) st H 0 0 = ma_W d 150 Q 37 (o0 :: some (.int x) :: l) (.int x :: st) H 0 0 := wp_iload_n rfl rfl
theorem w150_37 : ma_W d 150 Q 37 l st H 0 0 = ma_W d 150 Q 38 l (.int 1 :: st) H 0 0 := wp_iconst rfl (by decide)
theorem w150_38 : ma_W d 150 Q 38 l (.int y :: .int x :: st) H 0 0 = ma_W d 150 Q 39 l (.int (x - y) :: st) H 0 0 := wp_isub rfl
theorem w150_39 : ma_W d 150 Q 39 (o0 :: o1 :: some (.int x) :: l) st H 0 0 = ma_W d 150 Q 40 (o0 :: o1 :: some (.int x) :: l) (.int x :: st) H 0 0 := wp_iload_n rfl rfl
theorem w150_40 : ma_W d 150 Q 40 l (.int y :: .int x :: st) H 0 0 = ma_W d 150 Q 41 l (.int (x - y) :: st) H 0 0 := wp_isub rfl
theorem w150_41 : ma_W d 150 Q 41 l [.int x] H 0 0 = Q (some (.int x)) H := wp_iret rfl rfl
theorem w150_42 : ma_W d 150 Q 42 (o0 :: o1 :: some (.int x) :: l) st H 0 0 = ma_W d 150 Q 43 (o0 :: o1 :: some (.int x) :: l) (.int x :: st) H 0 0 := wp_iload_n rfl rfl
theorem w150_43 : ma_W d 150 Q 43 (o0 :: some (.int x) :: l) st H 0 0 = ma_W d 150 Q 44 (o0 :: some (.int x) :: l) (.int x :: st) H 0 0 := wp_iload_n rfl rfl
theorem w150_44 : ma_W d 150 Q 44 l st H 0 0 = ma_W d 150 Q 45 l (.int 2 :: st) H 0 0 := wp_iconst rfl (by decide)
theorem w150_45 : ma_W d 150 Q 45 l (.int y :: .int x :: st) H 0 0 = (¬ y = 0 ∧ ma_W d 150 Q 46 l (.int (x / y) :: st) H 0 0) := wp_idiv rfl
theorem w150_46 : ma_W d 150 Q 46 l (.int y :: .int x :: st) H 0 0 = ma_W d 150 Q 47 l (.int (x + y) :: st) H 0 0 := wp_iadd rfl
theorem w150_47 : ma_W d 150 Q 47 (o0 :: some (.int x) :: l) st H 0 0 = ma_W d 150 Q 48 (o0 :: some (.int x) :: l) (.int x :: st) H 0 0 := wp_iload_n rfl rfl
theorem w150_48 : ma_W d 150 Q 48 l (.int y :: .int x :: st) H 0 0 = (¬ y = 0 ∧ ma_W d 150 Q 49 l (.int (ma_rem x y) :: st) H 0 0) := wp_irem rfl
theorem w150_49 : ma_W d 150 Q 49 l [.int x] H 0 0 = Q (some (.int x)) H := wp_iret rfl rfl
theorem w150_50 : ma_W d 150 Q 50 l st H 0 0 = ma_W d 150 Q 51 l (.int 2 :: st) H 0 0 := wp_iconst rfl (by decide)
theorem w150_51 : ma_W d 150 Q 51 (o0 :: o1 :: some (.int x) :: l) st H 0 0 = ma_W d 150 Q 52 (o0 :: o1 :: some (.int x) :: l) (.int x :: st) H 0 0 := wp_iload_n rfl rfl
theorem w150_52 : ma_W d 150 Q 52 l (.int y :: .int x :: st) H 0 0 = ma_W d 150 Q 53 l (.int (x * y) :: st) H 0 0 := wp_imul rfl
theorem w150_53 : ma_W d 150 Q 53 (o0 :: some (.int x) :: l) st H 0 0 = ma_W d 150 Q 54 (o0 :: some (.int x) :: l) (.int x :: st) H 0 0 := wp_iload_n rfl rfl
theorem w150_54 : ma_W d 150 Q 54 l (.int y :: .int x :: st) H 0 0 = ma_if (y ≤ x) d 150 Q 63 57 l st H 0 0 := wp_ic (id := 150) (pc := 54) (c := .ge) (off := 9) 63 rfl (by decide)
theorem w150_57 : ma_W d 150 Q 57 l st H 0 0 = ma_W d 150 Q 58 l (.int 2 :: st) H 0 0 := wp_iconst rfl (by decide)
theorem w150_58 : ma_W d 150 Q 58 (o0 :: o1 :: some (.int x) :: l) st H 0 0 = ma_W d 150 Q 59 (o0 :: o1 :: some (.int x) :: l) (.int x :: st) H 0 0 := wp_iload_n rfl rfl
theorem w150_59 : ma_W d 150 Q 59 l (.int y :: .int x :: st) H 0 0 = ma_W d 150 Q 60 l (.int (x * y) :: st) H 0 0 := wp_imul rfl
theorem w150_60 : ma_W d 150 Q 60 l st H 0 0 = ma_W d 150 Q 85 l st H 0 0 := wp_goto 85 rfl (by decide)
theorem w150_63 : ma_W d 150 Q 63 (o0 :: some (.int x) :: l) st H 0 0 = ma_W d 150 Q 64 (o0 :: some (.int x) :: l) (.int x :: st) H 0 0 := wp_iload_n rfl rfl
theorem w150_64 : ma_W d 150 Q 64 l st H 0 0 = ma_W d 150 Q 65 l (.int 2 :: st) H 0 0 := wp_iconst rfl (by decide)
theorem w150_65 : ma_W d 150 Q 65 l (.int y :: .int x :: st) H 0 0 = (¬ y = 0 ∧ ma_W d 150 Q 66 l (.int (ma_rem x y) :: st) H 0 0) := wp_irem rfl
theorem w150_66 : ma_W d 150 Q 66 l st H 0 0 = ma_W d 150 Q 67 l (.int 1 :: st) H 0 0 := wp_iconst rfl (by decide)
theorem w150_67 : ma_W d 150 Q 67 l (.int y :: .int x :: st) H 0 0 = ma_if (x = y) d 150 Q 70 78 l st H 0 0 := wp_ic (id := 150) (pc := 67) (c := .ne) (off := 11) 78 rfl (by decide)
theorem w150_70 : ma_W d 150 Q 70 l st H 0 0 = ma_W d 150 Q 71 l (.int 2 :: st) H 0 0 := wp_iconst rfl (by decide)
theorem w150_71 : ma_W d 150 Q 71 (o0 :: o1 :: some (.int x) :: l) st H 0 0 = ma_W d 150 Q 72 (o0 :: o1 :: some (.int x) :: l) (.int x :: st) H 0 0 := wp_iload_n rfl rfl
theorem w150_72 : ma_W d 150 Q 72 l (.int y :: .int x :: st) H 0 0 = ma_W d 150 Q 73 l (.int (x * y) :: st) H 0 0 := wp_imul rfl
theorem w150_73 : ma_W d 150 Q 73 (o0 :: some (.int x) :: l) st H 0 0 = ma_W d 150 Q 74 (o0 :: some (.int x) :: l) (.int x :: st) H 0 0 := wp_iload_n rfl rfl
theorem w150_74 : ma_W d 150 Q 74 l (.int y :: .int x :: st) H 0 0 = ma_W d 150 Q 75 l (.int (x - y) :: st) H 0 0 := wp_isub rfl
theorem w150_75 : ma_W d 150 Q 75 l st H 0 0 = ma_W d 150 Q 85 l st H 0 0 := wp_goto 85 rfl (by decide)
theorem w150_78 : ma_W d 150 Q 78 l st H 0 0 = ma_W d 150 Q 79 l (.int 2 :: st) H 0 0 := wp_iconst rfl (by decide)
theorem w150_79 : ma_W d 150 Q 79 (o0 :: o1 :: some (.int x) :: l) st H 0 0 = ma_W d 150 Q 80 (o0 :: o1 :: some (.int x) :: l) (.int x :: st) H 0 0 := wp_iload_n rfl rfl
theorem w150_80 : ma_W d 150 Q 80 l (.int y :: .int x :: st) H 0 0 = ma_W d 150 Q 81 l (.int (x * y) :: st) H 0 0 := wp_imul rfl
theorem w150_81 : ma_W d 150 Q 81 (o0 :: some (.int x) :: l) st H 0 0 = ma_W d 150 Q 82 (o0 :: some (.int x) :: l) (.int x :: st) H 0 0 := wp_iload_n rfl rfl
theorem w150_82 : ma_W d 150 Q 82 l (.int y :: .int x :: st) H 0 0 = ma_W d 150 Q 83 l (.int (x - y) :: st) H 0 0 := wp_isub rfl
theorem w150_83 : ma_W d 150 Q 83 l st H 0 0 = ma_W d 150 Q 84 l (.int 1 :: st) H 0 0 := wp_iconst rfl (by decide)
theorem w150_84 : ma_W d 150 Q 84 l (.int y :: .int x :: st) H 0 0 = ma_W d 150 Q 85 l (.int (x + y) :: st) H 0 0 := wp_iadd rfl
theorem w150_85 : ma_W d 150 Q 85 l [.int x] H 0 0 = Q (some (.int x)) H := wp_iret rfl rfl
theorem w150_86 : ma_W d 150 Q 86 (o0 :: some (.int x) :: l) st H 0 0 = ma_W d 150 Q 87 (o0 :: some (.int x) :: l) (.int x :: st) H 0 0 := wp_iload_n rfl rfl
theorem w150_87 : ma_W d 150 Q 87 l st H 0 0 = ma_W d 150 Q 88 l (.int 1 :: st) H 0 0 := wp_iconst rfl (by decide)
theorem w150_88 : ma_W d 150 Q 88 l (.int y :: .int x :: st) H 0 0 = ma_W d 150 Q 89 l (.int (x - y) :: st) H 0 0 := wp_isub rfl
theorem w150_89 : ma_W d 150 Q 89 (o0 :: o1 :: some (.int x) :: l) st H 0 0 = ma_W d 150 Q 90 (o0 :: o1 :: some (.int x) :: l) (.int x :: st) H 0 0 := wp_iload_n rfl rfl
theorem w150_90 : ma_W d 150 Q 90 l (.int y :: .int x :: st) H 0 0 = ma_W d 150 Q 91 l (.int (x - y) :: st) H 0 0 := wp_isub rfl
theorem w150_91 : ma_W d 150 Q 91 (o0 :: some (.int x) :: l) st H 0 0 = ma_W d 150 Q 92 (o0 :: some (.int x) :: l) (.int x :: st) H 0 0 := wp_iload_n rfl rfl
theorem w150_92 : ma_W d 150 Q 92 l st H 0 0 = ma_W d 150 Q 93 l (.int 2 :: st) H 0 0 := wp_iconst rfl (by decide)
theorem w150_93 : ma_W d 150 Q 93 l (.int y :: .int x :: st) H 0 0 = (¬ y = 0 ∧ ma_W d 150 Q 94 l (.int (x / y) :: st) H 0 0) := wp_idiv rfl
theorem w150_94 : ma_W d 150 Q 94 l (.int y :: .int x :: st) H 0 0 = ma_W d 150 Q 95 l (.int (x + y) :: st) H 0 0 := wp_iadd rfl
theorem w150_95 : ma_W d 150 Q 95 (o0 :: some (.int x) :: l) st H 0 0 = ma_W d 150 Q 96 (o0 :: some (.int x) :: l) (.int x :: st) H 0 0 := wp_iload_n rfl rfl
theorem w150_96 : ma_W d 150 Q 96 l (.int y :: .int x :: st) H 0 0 = (¬ y = 0 ∧ ma_W d 150 Q 97 l (.int (ma_rem x y) :: st) H 0 0) := wp_irem rfl
theorem w150_97 : ma_W d 150 Q 97 l [.int x] H 0 0 = Q (some (.int x)) H := wp_iret rfl rfl
theorem w150_98 : ma_W d 150 Q 98 (o0 :: o1 :: some (.int x) :: l) st H 0 0 = ma_W d 150 Q 99 (o0 :: o1 :: some (.int x) :: l) (.int x :: st) H 0 0 := wp_iload_n rfl rfl
theorem w150_99 : ma_W d 150 Q 99 l st H 0 0 = ma_W d 150 Q 100 l (.int 2 :: st) H 0 0 := wp_iconst rfl (by decide)
theorem w150_100 : ma_W d 150 Q 100 l (.int y :: .int x :: st) H 0 0 = (¬ y = 0 ∧ ma_W d 150 Q 101 l (.int (ma_rem x y) :: st) H 0 0) := wp_irem rfl
theorem w150_101 : ma_W d 150 Q 101 l st H 0 0 = ma_W d 150 Q 102 l (.int 1 :: st) H 0 0 := wp_iconst rfl (by decide)
theorem w150_102 : ma_W d 150 Q 102 l (.int y :: .int x :: st) H 0 0 = ma_if (x = y) d 150 Q 105 111 l st H 0 0 := wp_ic (id := 150) (pc := 102) (c := .ne) (off := 9) 111 rfl (by decide)
theorem w150_105 : ma_W d 150 Q 105 (o0 :: o1 :: some (.int x) :: l) st H 0 0 = ma_W d 150 Q 106 (o0 :: o1 :: some (.int x) :: l) (.int x :: st) H 0 0 := wp_iload_n rfl rfl
theorem w150_106 : ma_W d 150 Q 106 l st H 0 0 = ma_W d 150 Q 107 l (.int 1 :: st) H 0 0 := wp_iconst rfl (by decide)
theorem w150_107 : ma_W d 150 Q 107 l (.int y :: .int x :: st) H 0 0 = ma_W d 150 Q 108 l (.int (x - y) :: st) H 0 0 := wp_isub rfl
theorem w150_108 : ma_W d 150 Q 108 l st H 0 0 = ma_W d 150 Q 125 l st H 0 0 := wp_goto 125 rfl (by decide)
theorem w150_111 : ma_W d 150 Q 111 (o0 :: o1 :: some (.int x) :: l) st H 0 0 = ma_W d 150 Q 112 (o0 :: o1 :: some (.int x) :: l) (.int x :: st) H 0 0 := wp_iload_n rfl rfl
theorem w150_112 : ma_W d 150 Q 112 l st H 0 0 = ma_W d 150 Q 113 l (.int 1 :: st) H 0 0 := wp_iconst rfl (by decide)
theorem w150_113 : ma_W d 150 Q 113 l (.int y :: .int x :: st) H 0 0 = ma_W d 150 Q 114 l (.int (x + y) :: st) H 0 0 := wp_iadd rfl
theorem w150_114 : ma_W d 150 Q 114 (o0 :: some (.int x) :: l) st H 0 0 = ma_W d 150 Q 115 (o0 :: some (.int x) :: l) (.int x :: st) H 0 0 := wp_iload_n rfl rfl
theorem w150_115 : ma_W d 150 Q 115 l (.int y :: .int x :: st) H 0 0 = ma_if (y ≤ x) d 150 Q 124 118 l st H 0 0 := wp_ic (id := 150) (pc := 115) (c := .ge) (off := 9) 124 rfl (by decide)
theorem w150_118 : ma_W d 150 Q 118 (o0 :: o1 :: some (.int x) :: l) st H 0 0 = ma_W d 150 Q 119 (o0 :: o1 :: some (.int x) :: l) (.int x :: st) H 0 0 := wp_iload_n rfl rfl
theorem w150_119 : ma_W d 150 Q 119 l st H 0 0 = ma_W d 150 Q 120 l (.int 1 :: st) H 0 0 := wp_iconst rfl (by decide)
theorem w150_120 : ma_W d 150 Q 120 l (.int y :: .int x :: st) H 0 0 = ma_W d 150 Q 121 l (.int (x + y) :: st) H 0 0 := wp_iadd rfl
theorem w150_121 : ma_W d 150 Q 121 l st H 0 0 = ma_W d 150 Q 125 l st H 0 0 := wp_goto 125 rfl (by decide)
theorem w150_124 : ma_W d 150 Q 124 (o0 :: o1 :: some (.int x) :: l) st H 0 0 = ma_W d 150 Q 125 (o0 :: o1 :: some (.int x) :: l) (.int x :: st) H 0 0 := wp_iload_n rfl rfl
theorem w150_125 : ma_W d 150 Q 125 l [.int x] H 0 0 = Q (some (.int x)) H := wp_iret rfl rfl
theorem w150_126 : ma_W d 150 Q 126 (o0 :: o1 :: some (.int x) :: l) st H 0 0 = ma_W d 150 Q 127 (o0 :: o1 :: some (.int x) :: l) (.int x :: st) H 0 0 := wp_iload_n rfl rfl
theorem w150_127 : ma_W d 150 Q 127 l [.int x] H 0 0 = Q (some (.int x)) H := wp_iret rfl rfl
theorem e150 : ma_MW (d + 1) 150 [.int x0, .int x1, .int x2] H Q = ma_W d 150 Q 0 [some (.int x0), some (.int x1), some (.int x2)] [] H 0 0 := wp_enter (by decide) (Nat.le_of_ble_eq_true rfl) rfl
/-! 151 mo_isDone -/
theorem w151_0 : ma_W d 151 Q 0 (some (.ref i) :: l) st H 0 0 = ma_W d 151 Q 1 (some (.ref i) :: l) (.ref i :: st) H 0 0 := wp_aload_n (x := some i) rfl rfl
theorem w151_1 : ma_W d 151 Q 1 l st H 0 0 = ma_W d 151 Q 3 l (.int 7 :: st) H 0 0 := wp_bipush rfl (by decide)
theorem w151_3 : ma_W d 151 Q 3 (some (.ref i) :: l) st H 0 0 = ma_W d 151 Q 4 (some (.ref i) :: l) (.ref i :: st) H 0 0 := wp_aload_n (x := some i) rfl rfl
theorem w151_4 : ma_W d 151 Q 4 l st H 0 0 = ma_W d 151 Q 5 l (.int 2 :: st) H 0 0 := wp_iconst rfl (by decide)
theorem w151_5 : ma_W d 151 Q 5 l (.int x :: .ref i :: st) H 0 0 = ma_ial (H.1 i) x (ma_kV d 151 Q 6 l st H 0 0) := wp_iald rfl
theorem w151_6 : ma_W d 151 Q 6 l (.int y :: .int x :: st) H 0 0 = ma_W d 151 Q 7 l (.int (x + y) :: st) H 0 0 := wp_iadd rfl
theorem w151_7 : ma_W d 151 Q 7 l (.int x :: .ref i :: st) H 0 0 = ma_ial (H.1 i) x (ma_kV d 151 Q 8 l st H 0 0) := wp_iald rfl
theorem w151_8 : ma_W d 151 Q 8 l (.int x :: st) H 0 0 = ma_if (x = 0) d 151 Q 11 15 l st H 0 0 := wp_c0 (id := 151) (pc := 8) (c := .ne) (off := 7) 15 rfl (by decide)
theorem w151_11 : ma_W d 151 Q 11 l st H 0 0 = ma_W d 151 Q 12 l (.int 1 :: st) H 0 0 := wp_iconst rfl (by decide)
theorem w151_12 : ma_W d 151 Q 12 l st H 0 0 = ma_W d 151 Q 16 l st H 0 0 := wp_goto 16 rfl (by decide)
theorem w151_15 : ma_W d 151 Q 15 l st H 0 0 = ma_W d 151 Q 16 l (.int 0 :: st) H 0 0 := wp_iconst rfl (by decide)
theorem w151_16 : ma_W d 151 Q 16 l [.int x] H 0 0 = ((x = 0 ∨ x = 1) ∧ Q (some (.int x)) H) := wp_zret rfl rfl
theorem e151 : ma_MW (d + 1) 151 [.ref i0] H Q = ma_W d 151 Q 0 [some (.ref i0)] [] H 0 0 := wp_enter (by decide) (Nat.le_of_ble_eq_true rfl) rfl
/-! 152 mo_take -/
theorem w152_0 : ma_W d 152 Q 0 (o0 :: some (.ref i) :: l) st H 0 0 = ma_W d 152 Q 1 (o0 :: some (.ref i) :: l) (.ref i :: st) H 0 0 := wp_aload_n (x := some i) rfl rfl
theorem w152_1 : ma_W d 152 Q 1 l st H 0 0 = ma_W d 152 Q 3 l (.int 9 :: st) H 0 0 := wp_bipush rfl (by decide)
theorem w152_3 : ma_W d 152 Q 3 l (.int x :: .ref i :: st) H 0 0 = ma_ial (H.1 i) x (ma_kV d 152 Q 4 l st H 0 0) := wp_iald rfl
theorem w152_4 : ma_W d 152 Q 4 (o0 :: o1 :: o2 :: p :: l) (.int x :: st) H 0 0 = ma_W d 152 Q 5 (o0 :: o1 :: ma_clr o2 :: some (.int x) :: l) st H 0 0 := wp_istore_n (id := 152) (pc := 4) (k := 3) rfl (Nat.succ_lt_succ (Nat.succ_lt_succ (Nat.succ_lt_succ (Nat.zero_lt_succ _))))
theorem w152_5 : ma_W d 152 Q 5 (o0 :: some (.ref i) :: l) st H 0 0 = ma_W d 152 Q 6 (o0 :: some (.ref i) :: l) (.ref i :: st) H 0 0 := wp_aload_n (x := some i) rfl rfl
theorem w152_6 : ma_W d 152 Q 6 l st H 0 0 = ma_W d 152 Q 8 l (.int 42 :: st) H 0 0 := wp_bipush rfl (by decide)
theorem w152_8 : ma_W d 152 Q 8 (some (.ref i) :: l) st H 0 0 = ma_W d 152 Q 9 (some (.ref i) :: l) (.ref i :: st) H 0 0 := wp_aload_n (x := some i) rfl rfl
theorem w152_9 : ma_W d 152 Q 9 l (.ref i :: st) H 0 0 = ma_gf (H.1 i) 8 16 (ma_kV d 152 Q 12 l st H 0 0) := wp_get rfl (by decide +kernel)
theorem w152_12 : ma_W d 152 Q 12 l st H 0 0 = ma_W d 152 Q 13 l (.int 0 :: st) H 0 0 := wp_iconst rfl (by decide)
theorem w152_13 : ma_W d 152 Q 13 (o0 :: o1 :: o2 :: some (.int x) :: l) st H 0 0 = ma_W d 152 Q 14 (o0 :: o1 :: o2 :: some (.int x) :: l) (.int x :: st) H 0 0 := wp_iload_n rfl rfl
theorem w152_14 : ma_W d 152 Q 14 l (.int x4 :: .int x3 :: .ref i2 :: .int x1 :: .ref i0 :: st) H 0 0 = (ma_cat st ≤ 8 ∧ ma_MW d 131 [.ref i0, .int x1, .ref i2, .int x3, .int x4] H (ma_kC d 152 Q 17 l st 0 0)) := wc_S0 (ia := 131) (n := 5) (cn := 8) (k := 1) rfl (by decide +kernel) (by decide) (fun _ => rfl) rfl rfl
theorem w152_17 : ma_W d 152 Q 17 l st H 0 0 = ma_W d 152 Q 18 l (.int 0 :: st) H 0 0 := wp_iconst rfl (by decide)
theorem w152_18 : ma_W d 152 Q 18 (o0 :: o1 :: o2 :: o3 :: p :: l) (.int x :: st) H 0 0 = ma_W d 152 Q 20 (o0 :: o1 :: o2 :: ma_clr o3 :: some (.int x) :: l) st H 0 0 := wp_istore (id := 152) (pc := 18) (k := 4) rfl (Nat.succ_lt_succ (Nat.succ_lt_succ (Nat.succ_lt_succ (Nat.succ_lt_succ (Nat.zero_lt_succ _)))))
theorem w152_20 : ma_W d 152 Q 20 (o0 :: o1 :: o2 :: o3 :: some (.int x) :: l) st H 0 0 = ma_W d 152 Q 22 (o0 :: o1 :: o2 :: o3 :: some (.int x) :: l) (.int x :: st) H 0 0 := wp_iload rfl rfl
theorem w152_22 : ma_W d 152 Q 22 (o0 :: o1 :: o2 :: some (.int x) :: l) st H 0 0 = ma_W d 152 Q 23 (o0 :: o1 :: o2 :: some (.int x) :: l) (.int x :: st) H 0 0 := wp_iload_n rfl rfl
theorem w152_23 : ma_W d 152 Q 23 l (.int y :: .int x :: st) H 0 0 = ma_if (y ≤ x) d 152 Q 54 26 l st H 0 0 := wp_ic (id := 152) (pc := 23) (c := .ge) (off := 31) 54 rfl (by decide)
theorem w152_26 : ma_W d 152 Q 26 (o0 :: some (.ref i) :: l) st H 0 0 = ma_W d 152 Q 27 (o0 :: some (.ref i) :: l) (.ref i :: st) H 0 0 := wp_aload_n (x := some i) rfl rfl
theorem w152_27 : ma_W d 152 Q 27 (o0 :: o1 :: some (.int x) :: l) st H 0 0 = ma_W d 152 Q 28 (o0 :: o1 :: some (.int x) :: l) (.int x :: st) H 0 0 := wp_iload_n rfl rfl
theorem w152_28 : ma_W d 152 Q 28 (some (.ref i) :: l) st H 0 0 = ma_W d 152 Q 29 (some (.ref i) :: l) (.ref i :: st) H 0 0 := wp_aload_n (x := some i) rfl rfl
theorem w152_29 : ma_W d 152 Q 29 l (.ref i :: st) H 0 0 = ma_gf (H.1 i) 8 16 (ma_kV d 152 Q 32 l st H 0 0) := wp_get rfl (by decide +kernel)
theorem w152_32 : ma_W d 152 Q 32 (o0 :: some (.ref i) :: l) st H 0 0 = ma_W d 152 Q 33 (o0 :: some (.ref i) :: l) (.ref i :: st) H 0 0 := wp_aload_n (x := some i) rfl rfl
theorem w152_33 : ma_W d 152 Q 33 l st H 0 0 = ma_W d 152 Q 34 l (.int 0 :: st) H 0 0 := wp_iconst rfl (by decide)
theorem w152_34 : ma_W d 152 Q 34 (o0 :: o1 :: some (.int x) :: l) st H 0 0 = ma_W d 152 Q 35 (o0 :: o1 :: some (.int x) :: l) (.int x :: st) H 0 0 := wp_iload_n rfl rfl
theorem w152_35 : ma_W d 152 Q 35 l (.int y :: .int x :: st) H 0 0 = ma_W d 152 Q 36 l (.int (x + y) :: st) H 0 0 := wp_iadd rfl
theorem w152_36 : ma_W d 152 Q 36 l (.int x :: .ref i :: st) H 0 0 = ma_ial (H.1 i) x (ma_kV d 152 Q 37 l st H 0 0) := wp_iald rfl
theorem w152_37 : ma_W d 152 Q 37 (o0 :: o1 :: o2 :: some (.int x) :: l) st H 0 0 = ma_W d 152 Q 38 (o0 :: o1 :: o2 :: some (.int x) :: l) (.int x :: st) H 0 0 := wp_iload_n rfl rfl
theorem w152_38 : ma_W d 152 Q 38 (o0 :: o1 :: o2 :: o3 :: some (.int x) :: l) st H 0 0 = ma_W d 152 Q 40 (o0 :: o1 :: o2 :: o3 :: some (.int x) :: l) (.int x :: st) H 0 0 := wp_iload rfl rfl
theorem w152_40 : ma_W d 152 Q 40 l (.int x2 :: .int x1 :: .int x0 :: st) H 0 0 = (ma_cat st ≤ 8 ∧ ma_MW d 150 [.int x0, .int x1, .int x2] H (ma_kC d 152 Q 43 l st 0 0)) := wc_S0 (ia := 150) (n := 3) (cn := 8) (k := 1) rfl (by decide +kernel) (by decide) (fun _ => rfl) rfl rfl
theorem w152_43 : ma_W d 152 Q 43 l (.int x :: .ref i :: st) H 0 0 = ma_ial (H.1 i) x (ma_kV d 152 Q 44 l st H 0 0) := wp_iald rfl
theorem w152_44 : ma_W d 152 Q 44 l (.int x2 :: .int x1 :: .ref i0 :: st) H 0 0 = (ma_cat st ≤ 8 ∧ ma_MW d 136 [.ref i0, .int x1, .int x2] H (ma_kC d 152 Q 47 l st 0 0)) := wc_S0 (ia := 136) (n := 3) (cn := 8) (k := 1) rfl (by decide +kernel) (by decide) (fun _ => rfl) rfl rfl
theorem w152_47 : ma_W d 152 Q 47 l (.int x :: st) H 0 0 = ma_W d 152 Q 48 l st H 0 0 := wp_pop rfl rfl
theorem w152_48 : ma_W d 152 Q 48 (o0 :: o1 :: o2 :: o3 :: some (.int x) :: l) st H 0 0 = ma_W d 152 Q 51 (o0 :: o1 :: o2 :: ma_clr o3 :: some (.int (x + 1)) :: l) st H 0 0 := wp_iinc (id := 152) (pc := 48) (k := 4) (n := 1) rfl (Nat.succ_lt_succ (Nat.succ_lt_succ (Nat.succ_lt_succ (Nat.succ_lt_succ (Nat.zero_lt_succ _))))) rfl (by decide)
theorem w152_51 : ma_W d 152 Q 51 l st H 0 0 = ma_W d 152 Q 20 l st H 0 0 := wp_goto 20 rfl (by decide)
theorem w152_54 : ma_W d 152 Q 54 (o0 :: some (.ref i) :: l) st H 0 0 = ma_W d 152 Q 55 (o0 :: some (.ref i) :: l) (.ref i :: st) H 0 0 := wp_aload_n (x := some i) rfl rfl
theorem w152_55 : ma_W d 152 Q 55 l st H 0 0 = ma_W d 152 Q 57 l (.int 9 :: st) H 0 0 := wp_bipush rfl (by decide)
theorem w152_57 : ma_W d 152 Q 57 l st H 0 0 = ma_W d 152 Q 58 l (.int 0 :: st) H 0 0 := wp_iconst rfl (by decide)
theorem w152_58 : ma_W d 152 Q 58 l (.int y :: .int x :: .ref i :: st) H 0 0 = (4 ≤ i ∧ ma_ias (H.1 i) x y (ma_kH d 152 Q 59 l st H i 0 0)) := wp_iast rfl
theorem w152_59 : ma_W d 152 Q 59 (o0 :: some (.ref i) :: l) st H 0 0 = ma_W d 152 Q 60 (o0 :: some (.ref i) :: l) (.ref i :: st) H 0 0 := wp_aload_n (x := some i) rfl rfl
theorem w152_60 : ma_W d 152 Q 60 l st H 0 0 = ma_W d 152 Q 61 l (.int 5 :: st) H 0 0 := wp_iconst rfl (by decide)
theorem w152_61 : ma_W d 152 Q 61 (o0 :: o1 :: some (.int x) :: l) st H 0 0 = ma_W d 152 Q 62 (o0 :: o1 :: some (.int x) :: l) (.int x :: st) H 0 0 := wp_iload_n rfl rfl
theorem w152_62 : ma_W d 152 Q 62 l (.int y :: .int x :: st) H 0 0 = ma_W d 152 Q 63 l (.int (x + y) :: st) H 0 0 := wp_iadd rfl
theorem w152_63 : ma_W d 152 Q 63 l (.int x :: .ref i :: st) H 0 0 = ma_W d 152 Q 64 l (.int x :: .ref i :: .int x :: .ref i :: st) H 0 0 := wp_dup2 rfl rfl rfl
theorem w152_64 : ma_W d 152 Q 64 l (.int x :: .ref i :: st) H 0 0 = ma_ial (H.1 i) x (ma_kV d 152 Q 65 l st H 0 0) := wp_iald rfl
theorem w152_65 : ma_W d 152 Q 65 l st H 0 0 = ma_W d 152 Q 66 l (.int 1 :: st) H 0 0 := wp_iconst rfl (by decide)
theorem w152_66 : ma_W d 152 Q 66 l (.int y :: .int x :: st) H 0 0 = ma_W d 152 Q 67 l (.int (x + y) :: st) H 0 0 := wp_iadd rfl
theorem w152_67 : ma_W d 152 Q 67 l (.int y :: .int x :: .ref i :: st) H 0 0 = (4 ≤ i ∧ ma_ias (H.1 i) x y (ma_kH d 152 Q 68 l st H i 0 0)) := wp_iast rfl
theorem w152_68 : ma_W d 152 Q 68 (o0 :: some (.ref i) :: l) st H 0 0 = ma_W d 152 Q 69 (o0 :: some (.ref i) :: l) (.ref i :: st) H 0 0 := wp_aload_n (x := some i) rfl rfl
theorem w152_69 : ma_W d 152 Q 69 l st H 0 0 = ma_W d 152 Q 70 l (.int 2 :: st) H 0 0 := wp_iconst rfl (by decide)
theorem w152_70 : ma_W d 152 Q 70 (o0 :: o1 :: some (.int x) :: l) st H 0 0 = ma_W d 152 Q 71 (o0 :: o1 :: some (.int x) :: l) (.int x :: st) H 0 0 := wp_iload_n rfl rfl
theorem w152_71 : ma_W d 152 Q 71 l (.int y :: .int x :: .ref i :: st) H 0 0 = (4 ≤ i ∧ ma_ias (H.1 i) x y (ma_kH d 152 Q 72 l st H i 0 0)) := wp_iast rfl
theorem w152_72 : ma_W d 152 Q 72 l [] H 0 0 = Q none H := wp_vret rfl rfl
theorem e152 : ma_MW (d + 1) 152 [.ref i, .ref i0, .int x1] H Q = ma_W d 152 Q 0 [some (.ref i), some (.ref i0), some (.int x1), none, none] [] H 0 0 := wp_enter (by decide) (Nat.le_of_ble_eq_true rfl) rfl
/-! 153 mo_lay -/
theorem w153_0 : ma_W d 153 Q 0 (o0 :: some (.ref i) :: l) st H 0 0 = ma_W d 153 Q 1 (o0 :: some (.ref i) :: l) (.ref i :: st) H 0 0 := wp_aload_n (x := some i) rfl rfl
theorem w153_1 : ma_W d 153 Q 1 l st H 0 0 = ma_W d 153 Q 2 l (.int 2 :: st) H 0 0 := wp_iconst rfl (by decide)
theorem w153_2 : ma_W d 153 Q 2 l (.int x :: .ref i :: st) H 0 0 = ma_ial (H.1 i) x (ma_kV d 153 Q 3 l st H 0 0) := wp_iald rfl
theorem w153_3 : ma_W d 153 Q 3 (o0 :: o1 :: p :: l) (.int x :: st) H 0 0 = ma_W d 153 Q 4 (o0 :: ma_clr o1 :: some (.int x) :: l) st H 0 0 := wp_istore_n (id := 153) (pc := 3) (k := 2) rfl (Nat.succ_lt_succ (Nat.succ_lt_succ (Nat.zero_lt_succ _)))
theorem w153_4 : ma_W d 153 Q 4 l st H 0 0 = ma_W d 153 Q 6 l (.int 10 :: st) H 0 0 := wp_bipush rfl (by decide)
theorem w153_6 : ma_W d 153 Q 6 l st H 0 0 = ma_W d 153 Q 8 l (.int 16 :: st) H 0 0 := wp_bipush rfl (by decide)
theorem w153_8 : ma_W d 153 Q 8 (o0 :: o1 :: some (.int x) :: l) st H 0 0 = ma_W d 153 Q 9 (o0 :: o1 :: some (.int x) :: l) (.int x :: st) H 0 0 := wp_iload_n rfl rfl
theorem w153_9 : ma_W d 153 Q 9 l (.int y :: .int x :: st) H 0 0 = ma_W d 153 Q 10 l (.int (x * y) :: st) H 0 0 := wp_imul rfl
theorem w153_10 : ma_W d 153 Q 10 l (.int y :: .int x :: st) H 0 0 = ma_W d 153 Q 11 l (.int (x + y) :: st) H 0 0 := wp_iadd rfl
theorem w153_11 : ma_W d 153 Q 11 (o0 :: o1 :: o2 :: p :: l) (.int x :: st) H 0 0 = ma_W d 153 Q 12 (o0 :: o1 :: ma_clr o2 :: some (.int x) :: l) st H 0 0 := wp_istore_n (id := 153) (pc := 11) (k := 3) rfl (Nat.succ_lt_succ (Nat.succ_lt_succ (Nat.succ_lt_succ (Nat.zero_lt_succ _))))
theorem w153_12 : ma_W d 153 Q 12 (o0 :: some (.ref i) :: l) st H 0 0 = ma_W d 153 Q 13 (o0 :: some (.ref i) :: l) (.ref i :: st) H 0 0 := wp_aload_n (x := some i) rfl rfl
theorem w153_13 : ma_W d 153 Q 13 (o0 :: o1 :: o2 :: some (.int x) :: l) st H 0 0 = ma_W d 153 Q 14 (o0 :: o1 :: o2 :: some (.int x) :: l) (.int x :: st) H 0 0 := wp_iload_n rfl rfl
theorem w153_14 : ma_W d 153 Q 14 l (.int x :: .ref i :: st) H 0 0 = ma_ial (H.1 i) x (ma_kV d 153 Q 15 l st H 0 0) := wp_iald rfl
theorem w153_15 : ma_W d 153 Q 15 (o0 :: o1 :: o2 :: o3 :: p :: l) (.int x :: st) H 0 0 = ma_W d 153 Q 17 (o0 :: o1 :: o2 :: ma_clr o3 :: some (.int x) :: l) st H 0 0 := wp_istore (id := 153) (pc := 15) (k := 4) rfl (Nat.succ_lt_succ (Nat.succ_lt_succ (Nat.succ_lt_succ (Nat.succ_lt_succ (Nat.zero_lt_succ _)))))
theorem w153_17 : ma_W d 153 Q 17 (o0 :: some (.ref i) :: l) st H 0 0 = ma_W d 153 Q 18 (o0 :: some (.ref i) :: l) (.ref i :: st) H 0 0 := wp_aload_n (x := some i) rfl rfl
theorem w153_18 : ma_W d 153 Q 18 l st H 0 0 = ma_W d 153 Q 20 l (.int 7 :: st) H 0 0 := wp_bipush rfl (by decide)
theorem w153_20 : ma_W d 153 Q 20 (o0 :: o1 :: some (.int x) :: l) st H 0 0 = ma_W d 153 Q 21 (o0 :: o1 :: some (.int x) :: l) (.int x :: st) H 0 0 := wp_iload_n rfl rfl
theorem w153_21 : ma_W d 153 Q 21 l (.int y :: .int x :: st) H 0 0 = ma_W d 153 Q 22 l (.int (x + y) :: st) H 0 0 := wp_iadd rfl
theorem w153_22 : ma_W d 153 Q 22 l (.int x :: .ref i :: st) H 0 0 = ma_W d 153 Q 23 l (.int x :: .ref i :: .int x :: .ref i :: st) H 0 0 := wp_dup2 rfl rfl rfl
theorem w153_23 : ma_W d 153 Q 23 l (.int x :: .ref i :: st) H 0 0 = ma_ial (H.1 i) x (ma_kV d 153 Q 24 l st H 0 0) := wp_iald rfl
theorem w153_24 : ma_W d 153 Q 24 l st H 0 0 = ma_W d 153 Q 25 l (.int 1 :: st) H 0 0 := wp_iconst rfl (by decide)
theorem w153_25 : ma_W d 153 Q 25 l (.int y :: .int x :: st) H 0 0 = ma_W d 153 Q 26 l (.int (x - y) :: st) H 0 0 := wp_isub rfl
theorem w153_26 : ma_W d 153 Q 26 l (.int y :: .int x :: .ref i :: st) H 0 0 = (4 ≤ i ∧ ma_ias (H.1 i) x y (ma_kH d 153 Q 27 l st H i 0 0)) := wp_iast rfl
theorem w153_27 : ma_W d 153 Q 27 (o0 :: some (.ref i) :: l) st H 0 0 = ma_W d 153 Q 28 (o0 :: some (.ref i) :: l) (.ref i :: st) H 0 0 := wp_aload_n (x := some i) rfl rfl
theorem w153_28 : ma_W d 153 Q 28 (o0 :: o1 :: o2 :: some (.int x) :: l) st H 0 0 = ma_W d 153 Q 29 (o0 :: o1 :: o2 :: some (.int x) :: l) (.int x :: st) H 0 0 := wp_iload_n rfl rfl
theorem w153_29 : ma_W d 153 Q 29 l st H 0 0 = ma_W d 153 Q 30 l (.int 1 :: st) H 0 0 := wp_iconst rfl (by decide)
theorem w153_30 : ma_W d 153 Q 30 l (.int y :: .int x :: st) H 0 0 = ma_W d 153 Q 31 l (.int (x + y) :: st) H 0 0 := wp_iadd rfl
theorem w153_31 : ma_W d 153 Q 31 (o0 :: some (.ref i) :: l) st H 0 0 = ma_W d 153 Q 32 (o0 :: some (.ref i) :: l) (.ref i :: st) H 0 0 := wp_aload_n (x := some i) rfl rfl
theorem w153_32 : ma_W d 153 Q 32 (o0 :: o1 :: o2 :: some (.int x) :: l) st H 0 0 = ma_W d 153 Q 33 (o0 :: o1 :: o2 :: some (.int x) :: l) (.int x :: st) H 0 0 := wp_iload_n rfl rfl
theorem w153_33 : ma_W d 153 Q 33 (o0 :: some (.ref i) :: l) st H 0 0 = ma_W d 153 Q 34 (o0 :: some (.ref i) :: l) (.ref i :: st) H 0 0 := wp_aload_n (x := some i) rfl rfl
theorem w153_34 : ma_W d 153 Q 34 l st H 0 0 = ma_W d 153 Q 36 l (.int 7 :: st) H 0 0 := wp_bipush rfl (by decide)
theorem w153_36 : ma_W d 153 Q 36 (o0 :: o1 :: some (.int x) :: l) st H 0 0 = ma_W d 153 Q 37 (o0 :: o1 :: some (.int x) :: l) (.int x :: st) H 0 0 := wp_iload_n rfl rfl
theorem w153_37 : ma_W d 153 Q 37 l (.int y :: .int x :: st) H 0 0 = ma_W d 153 Q 38 l (.int (x + y) :: st) H 0 0 := wp_iadd rfl
theorem w153_38 : ma_W d 153 Q 38 l (.int x :: .ref i :: st) H 0 0 = ma_ial (H.1 i) x (ma_kV d 153 Q 39 l st H 0 0) := wp_iald rfl
theorem w153_39 : ma_W d 153 Q 39 l (.int x4 :: .int x3 :: .ref i2 :: .int x1 :: .ref i0 :: st) H 0 0 = (ma_cat st ≤ 8 ∧ ma_MW d 131 [.ref i0, .int x1, .ref i2, .int x3, .int x4] H (ma_kC d 153 Q 42 l st 0 0)) := wc_S0 (ia := 131) (n := 5) (cn := 8) (k := 1) rfl (by decide +kernel) (by decide) (fun _ => rfl) rfl rfl
theorem w153_42 : ma_W d 153 Q 42 (o0 :: some (.ref i) :: l) st H 0 0 = ma_W d 153 Q 43 (o0 :: some (.ref i) :: l) (.ref i :: st) H 0 0 := wp_aload_n (x := some i) rfl rfl
theorem w153_43 : ma_W d 153 Q 43 l st H 0 0 = ma_W d 153 Q 45 l (.int 42 :: st) H 0 0 := wp_bipush rfl (by decide)
theorem w153_45 : ma_W d 153 Q 45 (o0 :: some (.ref i) :: l) st H 0 0 = ma_W d 153 Q 46 (o0 :: some (.ref i) :: l) (.ref i :: st) H 0 0 := wp_aload_n (x := some i) rfl rfl
theorem w153_46 : ma_W d 153 Q 46 l st H 0 0 = ma_W d 153 Q 48 l (.int 9 :: st) H 0 0 := wp_bipush rfl (by decide)
theorem w153_48 : ma_W d 153 Q 48 l (.int x :: .ref i :: st) H 0 0 = ma_ial (H.1 i) x (ma_kV d 153 Q 49 l st H 0 0) := wp_iald rfl
theorem w153_49 : ma_W d 153 Q 49 l (.int y :: .int x :: st) H 0 0 = ma_W d 153 Q 50 l (.int (x + y) :: st) H 0 0 := wp_iadd rfl
theorem w153_50 : ma_W d 153 Q 50 (o0 :: o1 :: o2 :: o3 :: some (.int x) :: l) st H 0 0 = ma_W d 153 Q 52 (o0 :: o1 :: o2 :: o3 :: some (.int x) :: l) (.int x :: st) H 0 0 := wp_iload rfl rfl
theorem w153_52 : ma_W d 153 Q 52 l (.int y :: .int x :: .ref i :: st) H 0 0 = (4 ≤ i ∧ ma_ias (H.1 i) x y (ma_kH d 153 Q 53 l st H i 0 0)) := wp_iast rfl
theorem w153_53 : ma_W d 153 Q 53 (o0 :: some (.ref i) :: l) st H 0 0 = ma_W d 153 Q 54 (o0 :: some (.ref i) :: l) (.ref i :: st) H 0 0 := wp_aload_n (x := some i) rfl rfl
theorem w153_54 : ma_W d 153 Q 54 l st H 0 0 = ma_W d 153 Q 56 l (.int 9 :: st) H 0 0 := wp_bipush rfl (by decide)
theorem w153_56 : ma_W d 153 Q 56 l (.int x :: .ref i :: st) H 0 0 = ma_W d 153 Q 57 l (.int x :: .ref i :: .int x :: .ref i :: st) H 0 0 := wp_dup2 rfl rfl rfl
theorem w153_57 : ma_W d 153 Q 57 l (.int x :: .ref i :: st) H 0 0 = ma_ial (H.1 i) x (ma_kV d 153 Q 58 l st H 0 0) := wp_iald rfl
theorem w153_58 : ma_W d 153 Q 58 l st H 0 0 = ma_W d 153 Q 59 l (.int 1 :: st) H 0 0 := wp_iconst rfl (by decide)
theorem w153_59 : ma_W d 153 Q 59 l (.int y :: .int x :: st) H 0 0 = ma_W d 153 Q 60 l (.int (x + y) :: st) H 0 0 := wp_iadd rfl
theorem w153_60 : ma_W d 153 Q 60 l (.int y :: .int x :: .ref i :: st) H 0 0 = (4 ≤ i ∧ ma_ias (H.1 i) x y (ma_kH d 153 Q 61 l st H i 0 0)) := wp_iast rfl
theorem w153_61 : ma_W d 153 Q 61 (o0 :: some (.ref i) :: l) st H 0 0 = ma_W d 153 Q 62 (o0 :: some (.ref i) :: l) (.ref i :: st) H 0 0 := wp_aload_n (x := some i) rfl rfl
theorem w153_62 : ma_W d 153 Q 62 l st H 0 0 = ma_W d 153 Q 63 l (.int 4 :: st) H 0 0 := wp_iconst rfl (by decide)
theorem w153_63 : ma_W d 153 Q 63 l (.int x :: .ref i :: st) H 0 0 = ma_W d 153 Q 64 l (.int x :: .ref i :: .int x :: .ref i :: st) H 0 0 := wp_dup2 rfl rfl rfl
theorem w153_64 : ma_W d 153 Q 64 l (.int x :: .ref i :: st) H 0 0 = ma_ial (H.1 i) x (ma_kV d 153 Q 65 l st H 0 0) := wp_iald rfl
theorem w153_65 : ma_W d 153 Q 65 l st H 0 0 = ma_W d 153 Q 66 l (.int 1 :: st) H 0 0 := wp_iconst rfl (by decide)
theorem w153_66 : ma_W d 153 Q 66 l (.int y :: .int x :: st) H 0 0 = ma_W d 153 Q 67 l (.int (x + y) :: st) H 0 0 := wp_iadd rfl
theorem w153_67 : ma_W d 153 Q 67 l (.int y :: .int x :: .ref i :: st) H 0 0 = (4 ≤ i ∧ ma_ias (H.1 i) x y (ma_kH d 153 Q 68 l st H i 0 0)) := wp_iast rfl
theorem w153_68 : ma_W d 153 Q 68 (o0 :: o1 :: o2 :: o3 :: some (.int x) :: l) st H 0 0 = ma_W d 153 Q 70 (o0 :: o1 :: o2 :: o3 :: some (.int x) :: l) (.int x :: st) H 0 0 := wp_iload rfl rfl
theorem w153_70 : ma_W d 153 Q 70 (o0 :: some (.ref i) :: l) st H 0 0 = ma_W d 153 Q 71 (o0 :: some (.ref i) :: l) (.ref i :: st) H 0 0 := wp_aload_n (x := some i) rfl rfl
theorem w153_71 : ma_W d 153 Q 71 l st H 0 0 = ma_W d 153 Q 73 l (.int 9 :: st) H 0 0 := wp_bipush rfl (by decide)
theorem w153_73 : ma_W d 153 Q 73 l (.int x :: .ref i :: st) H 0 0 = ma_ial (H.1 i) x (ma_kV d 153 Q 74 l st H 0 0) := wp_iald rfl
theorem w153_74 : ma_W d 153 Q 74 l (.int x1 :: .int x0 :: st) H 0 0 = (ma_cat st ≤ 8 ∧ ma_MW d 149 [.int x0, .int x1] H (ma_kC d 153 Q 77 l st 0 0)) := wc_S0 (ia := 149) (n := 2) (cn := 8) (k := 1) rfl (by decide +kernel) (by decide) (fun _ => rfl) rfl rfl
theorem w153_77 : ma_W d 153 Q 77 (o0 :: o1 :: o2 :: o3 :: o4 :: p :: l) (.int x :: st) H 0 0 = ma_W d 153 Q 79 (o0 :: o1 :: o2 :: o3 :: ma_clr o4 :: some (.int x) :: l) st H 0 0 := wp_istore (id := 153) (pc := 77) (k := 5) rfl (Nat.succ_lt_succ (Nat.succ_lt_succ (Nat.succ_lt_succ (Nat.succ_lt_succ (Nat.succ_lt_succ (Nat.zero_lt_succ _))))))
theorem w153_79 : ma_W d 153 Q 79 (o0 :: o1 :: o2 :: o3 :: o4 :: some (.int x) :: l) st H 0 0 = ma_W d 153 Q 81 (o0 :: o1 :: o2 :: o3 :: o4 :: some (.int x) :: l) (.int x :: st) H 0 0 := wp_iload rfl rfl
theorem w153_81 : ma_W d 153 Q 81 l (.int x :: st) H 0 0 = ma_if (x ≤ 0) d 153 Q 98 84 l st H 0 0 := wp_c0 (id := 153) (pc := 81) (c := .le) (off := 17) 98 rfl (by decide)
theorem w153_84 : ma_W d 153 Q 84 (o0 :: some (.ref i) :: l) st H 0 0 = ma_W d 153 Q 85 (o0 :: some (.ref i) :: l) (.ref i :: st) H 0 0 := wp_aload_n (x := some i) rfl rfl
theorem w153_85 : ma_W d 153 Q 85 l st H 0 0 = ma_W d 153 Q 86 l (.int 3 :: st) H 0 0 := wp_iconst rfl (by decide)
theorem w153_86 : ma_W d 153 Q 86 (o0 :: o1 :: o2 :: o3 :: o4 :: some (.int x) :: l) st H 0 0 = ma_W d 153 Q 88 (o0 :: o1 :: o2 :: o3 :: o4 :: some (.int x) :: l) (.int x :: st) H 0 0 := wp_iload rfl rfl
theorem w153_88 : ma_W d 153 Q 88 l (.int y :: .int x :: .ref i :: st) H 0 0 = (4 ≤ i ∧ ma_ias (H.1 i) x y (ma_kH d 153 Q 89 l st H i 0 0)) := wp_iast rfl
theorem w153_89 : ma_W d 153 Q 89 (o0 :: some (.ref i) :: l) st H 0 0 = ma_W d 153 Q 90 (o0 :: some (.ref i) :: l) (.ref i :: st) H 0 0 := wp_aload_n (x := some i) rfl rfl
theorem w153_90 : ma_W d 153 Q 90 l st H 0 0 = ma_W d 153 Q 91 l (.int 2 :: st) H 0 0 := wp_iconst rfl (by decide)
theorem w153_91 : ma_W d 153 Q 91 l st H 0 0 = ma_W d 153 Q 92 l (.int 1 :: st) H 0 0 := wp_iconst rfl (by decide)
theorem w153_92 : ma_W d 153 Q 92 (o0 :: o1 :: some (.int x) :: l) st H 0 0 = ma_W d 153 Q 93 (o0 :: o1 :: some (.int x) :: l) (.int x :: st) H 0 0 := wp_iload_n rfl rfl
theorem w153_93 : ma_W d 153 Q 93 l (.int y :: .int x :: st) H 0 0 = ma_W d 153 Q 94 l (.int (x - y) :: st) H 0 0 := wp_isub rfl
theorem w153_94 : ma_W d 153 Q 94 l (.int y :: .int x :: .ref i :: st) H 0 0 = (4 ≤ i ∧ ma_ias (H.1 i) x y (ma_kH d 153 Q 95 l st H i 0 0)) := wp_iast rfl
theorem w153_95 : ma_W d 153 Q 95 l st H 0 0 = ma_W d 153 Q 134 l st H 0 0 := wp_goto 134 rfl (by decide)
theorem w153_98 : ma_W d 153 Q 98 (o0 :: some (.ref i) :: l) st H 0 0 = ma_W d 153 Q 99 (o0 :: some (.ref i) :: l) (.ref i :: st) H 0 0 := wp_aload_n (x := some i) rfl rfl
theorem w153_99 : ma_W d 153 Q 99 l st H 0 0 = ma_W d 153 Q 100 l (.int 3 :: st) H 0 0 := wp_iconst rfl (by decide)
theorem w153_100 : ma_W d 153 Q 100 l (.int x :: .ref i :: st) H 0 0 = ma_ial (H.1 i) x (ma_kV d 153 Q 101 l st H 0 0) := wp_iald rfl
theorem w153_101 : ma_W d 153 Q 101 l (.int x :: st) H 0 0 = ma_if (x ≤ 0) d 153 Q 128 104 l st H 0 0 := wp_c0 (id := 153) (pc := 101) (c := .le) (off := 27) 128 rfl (by decide)
theorem w153_104 : ma_W d 153 Q 104 (o0 :: some (.ref i) :: l) st H 0 0 = ma_W d 153 Q 105 (o0 :: some (.ref i) :: l) (.ref i :: st) H 0 0 := wp_aload_n (x := some i) rfl rfl
theorem w153_105 : ma_W d 153 Q 105 l st H 0 0 = ma_W d 153 Q 106 l (.int 3 :: st) H 0 0 := wp_iconst rfl (by decide)
theorem w153_106 : ma_W d 153 Q 106 l (.int x :: .ref i :: st) H 0 0 = ma_W d 153 Q 107 l (.int x :: .ref i :: .int x :: .ref i :: st) H 0 0 := wp_dup2 rfl rfl rfl
theorem w153_107 : ma_W d 153 Q 107 l (.int x :: .ref i :: st) H 0 0 = ma_ial (H.1 i) x (ma_kV d 153 Q 108 l st H 0 0) := wp_iald rfl
theorem w153_108 : ma_W d 153 Q 108 l st H 0 0 = ma_W d 153 Q 109 l (.int 1 :: st) H 0 0 := wp_iconst rfl (by decide)
theorem w153_109 : ma_W d 153 Q 109 l (.int y :: .int x :: st) H 0 0 = ma_W d 153 Q 110 l (.int (x - y) :: st) H 0 0 := wp_isub rfl
theorem w153_110 : ma_W d 153 Q 110 l (.int y :: .int x :: .ref i :: st) H 0 0 = (4 ≤ i ∧ ma_ias (H.1 i) x y (ma_kH d 153 Q 111 l st H i 0 0)) := wp_iast rfl
theorem w153_111 : ma_W d 153 Q 111 (o0 :: some (.ref i) :: l) st H 0 0 = ma_W d 153 Q 112 (o0 :: some (.ref i) :: l) (.ref i :: st) H 0 0 := wp_aload_n (x := some i) rfl rfl
theorem w153_112 : ma_W d 153 Q 112 l st H 0 0 = ma_W d 153 Q 113 l (.int 3 :: st) H 0 0 := wp_iconst rfl (by decide)
theorem w153_113 : ma_W d 153 Q 113 l (.int x :: .ref i :: st) H 0 0 = ma_ial (H.1 i) x (ma_kV d 153 Q 114 l st H 0 0) := wp_iald rfl
theorem w153_114 : ma_W d 153 Q 114 l (.int x :: st) H 0 0 = ma_if (x = 0) d 153 Q 117 134 l st H 0 0 := wp_c0 (id := 153) (pc := 114) (c := .ne) (off := 20) 134 rfl (by decide)
theorem w153_117 : ma_W d 153 Q 117 (some (.ref i) :: l) st H 0 0 = ma_W d 153 Q 118 (some (.ref i) :: l) (.ref i :: st) H 0 0 := wp_aload_n (x := some i) rfl rfl
theorem w153_118 : ma_W d 153 Q 118 (o0 :: some (.ref i) :: l) st H 0 0 = ma_W d 153 Q 119 (o0 :: some (.ref i) :: l) (.ref i :: st) H 0 0 := wp_aload_n (x := some i) rfl rfl
theorem w153_119 : ma_W d 153 Q 119 l st H 0 0 = ma_W d 153 Q 120 l (.int 1 :: st) H 0 0 := wp_iconst rfl (by decide)
theorem w153_120 : ma_W d 153 Q 120 (o0 :: o1 :: some (.int x) :: l) st H 0 0 = ma_W d 153 Q 121 (o0 :: o1 :: some (.int x) :: l) (.int x :: st) H 0 0 := wp_iload_n rfl rfl
theorem w153_121 : ma_W d 153 Q 121 l (.int y :: .int x :: st) H 0 0 = ma_W d 153 Q 122 l (.int (x - y) :: st) H 0 0 := wp_isub rfl
theorem w153_122 : ma_W d 153 Q 122 l (.int x1 :: .ref i0 :: .ref i :: st) H 0 0 = (ma_cat st ≤ 8 ∧ ma_cv (H.1 i) 8 d 152 [.ref i, .ref i0, .int x1] H (ma_kC d 153 Q 125 l st 0 0)) := wc_V0 (ia := 152) (n := 3) (cn := 8) rfl (by decide +kernel) (fun _ => rfl) rfl rfl
theorem w153_125 : ma_W d 153 Q 125 l st H 0 0 = ma_W d 153 Q 134 l st H 0 0 := wp_goto 134 rfl (by decide)
theorem w153_128 : ma_W d 153 Q 128 (o0 :: some (.ref i) :: l) st H 0 0 = ma_W d 153 Q 129 (o0 :: some (.ref i) :: l) (.ref i :: st) H 0 0 := wp_aload_n (x := some i) rfl rfl
theorem w153_129 : ma_W d 153 Q 129 l st H 0 0 = ma_W d 153 Q 130 l (.int 2 :: st) H 0 0 := wp_iconst rfl (by decide)
theorem w153_130 : ma_W d 153 Q 130 l st H 0 0 = ma_W d 153 Q 131 l (.int 1 :: st) H 0 0 := wp_iconst rfl (by decide)
theorem w153_131 : ma_W d 153 Q 131 (o0 :: o1 :: some (.int x) :: l) st H 0 0 = ma_W d 153 Q 132 (o0 :: o1 :: some (.int x) :: l) (.int x :: st) H 0 0 := wp_iload_n rfl rfl
theorem w153_132 : ma_W d 153 Q 132 l (.int y :: .int x :: st) H 0 0 = ma_W d 153 Q 133 l (.int (x - y) :: st) H 0 0 := wp_isub rfl
theorem w153_133 : ma_W d 153 Q 133 l (.int y :: .int x :: .ref i :: st) H 0 0 = (4 ≤ i ∧ ma_ias (H.1 i) x y (ma_kH d 153 Q 134 l st H i 0 0)) := wp_iast rfl
theorem w153_134 : ma_W d 153 Q 134 l [] H 0 0 = Q none H := wp_vret rfl rfl
theorem e153 : ma_MW (d + 1) 153 [.ref i, .ref i0] H Q = ma_W d 153 Q 0 [some (.ref i), some (.ref i0), none, none, none, none] [] H 0 0 := wp_enter (by decide) (Nat.le_of_ble_eq_true rfl) rfl
/-! 154 mo_notes -/
theorem w154_0 : ma_W d 154 Q 0 (some (.ref i) :: l) st H 0 0 = ma_W d 154 Q 1 (some (.ref i) :: l) (.ref i :: st) H 0 0 := wp_aload_n (x := some i) rfl rfl
theorem w154_1 : ma_W d 154 Q 1 l (.ref i :: st) H 0 0 = ma_gf (H.1 i) 8 0 (ma_kV d 154 Q 4 l st H 0 0) := wp_get rfl (by decide +kernel)
theorem w154_4 : ma_W d 154 Q 4 l st H 0 0 = ma_W d 154 Q 6 l (.int 96 :: st) H 0 0 := wp_bipush rfl (by decide)
theorem w154_6 : ma_W d 154 Q 6 l (.int x :: .ref i :: st) H 0 0 = ma_ial (H.1 i) x (ma_kV d 154 Q 7 l st H 0 0) := wp_iald rfl
theorem w154_7 : ma_W d 154 Q 7 l st H 0 0 = ma_W d 154 Q 9 l (.int 8 :: st) H 0 0 := wp_bipush rfl (by decide)
theorem w154_9 : ma_W d 154 Q 9 l (.int y :: .int x :: st) H 0 0 = ma_if (x = y) d 154 Q 12 42 l st H 0 0 := wp_ic (id := 154) (pc := 9) (c := .ne) (off := 33) 42 rfl (by decide)
theorem w154_12 : ma_W d 154 Q 12 (some (.ref i) :: l) st H 0 0 = ma_W d 154 Q 13 (some (.ref i) :: l) (.ref i :: st) H 0 0 := wp_aload_n (x := some i) rfl rfl
theorem w154_13 : ma_W d 154 Q 13 l (.ref i :: st) H 0 0 = ma_gf (H.1 i) 8 0 (ma_kV d 154 Q 16 l st H 0 0) := wp_get rfl (by decide +kernel)
theorem w154_16 : ma_W d 154 Q 16 l st H 0 0 = ma_W d 154 Q 19 l (.int 153 :: st) H 0 0 := wp_sipush rfl (by decide)
theorem w154_19 : ma_W d 154 Q 19 (some (.ref i) :: l) st H 0 0 = ma_W d 154 Q 20 (some (.ref i) :: l) (.ref i :: st) H 0 0 := wp_aload_n (x := some i) rfl rfl
theorem w154_20 : ma_W d 154 Q 20 l (.ref i :: st) H 0 0 = ma_gf (H.1 i) 8 0 (ma_kV d 154 Q 23 l st H 0 0) := wp_get rfl (by decide +kernel)
theorem w154_23 : ma_W d 154 Q 23 l st H 0 0 = ma_W d 154 Q 25 l (.int 97 :: st) H 0 0 := wp_bipush rfl (by decide)
theorem w154_25 : ma_W d 154 Q 25 l st H 0 0 = ma_W d 154 Q 28 l (.int 392 :: st) H 0 0 := wp_sipush rfl (by decide)
theorem w154_28 : ma_W d 154 Q 28 l (.int x4 :: .int x3 :: .ref i2 :: .int x1 :: .ref i0 :: st) H 0 0 = (ma_cat st ≤ 8 ∧ ma_MW d 131 [.ref i0, .int x1, .ref i2, .int x3, .int x4] H (ma_kC d 154 Q 31 l st 0 0)) := wc_S0 (ia := 131) (n := 5) (cn := 8) (k := 1) rfl (by decide +kernel) (by decide) (fun _ => rfl) rfl rfl
theorem w154_31 : ma_W d 154 Q 31 (some (.ref i) :: l) st H 0 0 = ma_W d 154 Q 32 (some (.ref i) :: l) (.ref i :: st) H 0 0 := wp_aload_n (x := some i) rfl rfl
theorem w154_32 : ma_W d 154 Q 32 l (.ref i :: st) H 0 0 = ma_gf (H.1 i) 8 0 (ma_kV d 154 Q 35 l st H 0 0) := wp_get rfl (by decide +kernel)
theorem w154_35 : ma_W d 154 Q 35 l st H 0 0 = ma_W d 154 Q 37 l (.int 96 :: st) H 0 0 := wp_bipush rfl (by decide)
theorem w154_37 : ma_W d 154 Q 37 l (.int x :: .ref i :: st) H 0 0 = ma_W d 154 Q 38 l (.int x :: .ref i :: .int x :: .ref i :: st) H 0 0 := wp_dup2 rfl rfl rfl
theorem w154_38 : ma_W d 154 Q 38 l (.int x :: .ref i :: st) H 0 0 = ma_ial (H.1 i) x (ma_kV d 154 Q 39 l st H 0 0) := wp_iald rfl
theorem w154_39 : ma_W d 154 Q 39 l st H 0 0 = ma_W d 154 Q 40 l (.int 1 :: st) H 0 0 := wp_iconst rfl (by decide)
theorem w154_40 : ma_W d 154 Q 40 l (.int y :: .int x :: st) H 0 0 = ma_W d 154 Q 41 l (.int (x - y) :: st) H 0 0 := wp_isub rfl
theorem w154_41 : ma_W d 154 Q 41 l (.int y :: .int x :: .ref i :: st) H 0 0 = (4 ≤ i ∧ ma_ias (H.1 i) x y (ma_kH d 154 Q 42 l st H i 0 0)) := wp_iast rfl
theorem w154_42 : ma_W d 154 Q 42 (some (.ref i) :: l) st H 0 0 = ma_W d 154 Q 43 (some (.ref i) :: l) (.ref i :: st) H 0 0 := wp_aload_n (x := some i) rfl rfl
theorem w154_43 : ma_W d 154 Q 43 l (.ref i :: st) H 0 0 = ma_gf (H.1 i) 8 0 (ma_kV d 154 Q 46 l st H 0 0) := wp_get rfl (by decide +kernel)
theorem w154_46 : ma_W d 154 Q 46 l st H 0 0 = ma_W d 154 Q 47 l (.int 2 :: st) H 0 0 := wp_iconst rfl (by decide)
theorem w154_47 : ma_W d 154 Q 47 (some (.ref i) :: l) st H 0 0 = ma_W d 154 Q 48 (some (.ref i) :: l) (.ref i :: st) H 0 0 := wp_aload_n (x := some i) rfl rfl
theorem w154_48 : ma_W d 154 Q 48 l (.ref i :: st) H 0 0 = ma_gf (H.1 i) 8 0 (ma_kV d 154 Q 51 l st H 0 0) := wp_get rfl (by decide +kernel)
theorem w154_51 : ma_W d 154 Q 51 l st H 0 0 = ma_W d 154 Q 53 l (.int 97 :: st) H 0 0 := wp_bipush rfl (by decide)
theorem w154_53 : ma_W d 154 Q 53 l st H 0 0 = ma_W d 154 Q 55 l (.int 56 :: st) H 0 0 := wp_bipush rfl (by decide)
theorem w154_55 : ma_W d 154 Q 55 (some (.ref i) :: l) st H 0 0 = ma_W d 154 Q 56 (some (.ref i) :: l) (.ref i :: st) H 0 0 := wp_aload_n (x := some i) rfl rfl
theorem w154_56 : ma_W d 154 Q 56 l (.ref i :: st) H 0 0 = ma_gf (H.1 i) 8 0 (ma_kV d 154 Q 59 l st H 0 0) := wp_get rfl (by decide +kernel)
theorem w154_59 : ma_W d 154 Q 59 l st H 0 0 = ma_W d 154 Q 61 l (.int 96 :: st) H 0 0 := wp_bipush rfl (by decide)
theorem w154_61 : ma_W d 154 Q 61 l (.int x :: .ref i :: st) H 0 0 = ma_ial (H.1 i) x (ma_kV d 154 Q 62 l st H 0 0) := wp_iald rfl
theorem w154_62 : ma_W d 154 Q 62 l (.int y :: .int x :: st) H 0 0 = ma_W d 154 Q 63 l (.int (x * y) :: st) H 0 0 := wp_imul rfl
theorem w154_63 : ma_W d 154 Q 63 l (.int y :: .int x :: st) H 0 0 = ma_W d 154 Q 64 l (.int (x + y) :: st) H 0 0 := wp_iadd rfl
theorem w154_64 : ma_W d 154 Q 64 l st H 0 0 = ma_W d 154 Q 66 l (.int 56 :: st) H 0 0 := wp_bipush rfl (by decide)
theorem w154_66 : ma_W d 154 Q 66 l (.int x4 :: .int x3 :: .ref i2 :: .int x1 :: .ref i0 :: st) H 0 0 = (ma_cat st ≤ 8 ∧ ma_MW d 131 [.ref i0, .int x1, .ref i2, .int x3, .int x4] H (ma_kC d 154 Q 69 l st 0 0)) := wc_S0 (ia := 131) (n := 5) (cn := 8) (k := 1) rfl (by decide +kernel) (by decide) (fun _ => rfl) rfl rfl
theorem w154_69 : ma_W d 154 Q 69 (some (.ref i) :: l) st H 0 0 = ma_W d 154 Q 70 (some (.ref i) :: l) (.ref i :: st) H 0 0 := wp_aload_n (x := some i) rfl rfl
theorem w154_70 : ma_W d 154 Q 70 l (.ref i :: st) H 0 0 = ma_gf (H.1 i) 8 0 (ma_kV d 154 Q 73 l st H 0 0) := wp_get rfl (by decide +kernel)
theorem w154_73 : ma_W d 154 Q 73 l st H 0 0 = ma_W d 154 Q 75 l (.int 96 :: st) H 0 0 := wp_bipush rfl (by decide)
theorem w154_75 : ma_W d 154 Q 75 l (.int x :: .ref i :: st) H 0 0 = ma_W d 154 Q 76 l (.int x :: .ref i :: .int x :: .ref i :: st) H 0 0 := wp_dup2 rfl rfl rfl
theorem w154_76 : ma_W d 154 Q 76 l (.int x :: .ref i :: st) H 0 0 = ma_ial (H.1 i) x (ma_kV d 154 Q 77 l st H 0 0) := wp_iald rfl
theorem w154_77 : ma_W d 154 Q 77 l st H 0 0 = ma_W d 154 Q 78 l (.int 1 :: st) H 0 0 := wp_iconst rfl (by decide)
theorem w154_78 : ma_W d 154 Q 78 l (.int y :: .int x :: st) H 0 0 = ma_W d 154 Q 79 l (.int (x + y) :: st) H 0 0 := wp_iadd rfl
theorem w154_79 : ma_W d 154 Q 79 l (.int y :: .int x :: .ref i :: st) H 0 0 = (4 ≤ i ∧ ma_ias (H.1 i) x y (ma_kH d 154 Q 80 l st H i 0 0)) := wp_iast rfl
theorem w154_80 : ma_W d 154 Q 80 l [] H 0 0 = Q none H := wp_vret rfl rfl
theorem e154 : ma_MW (d + 1) 154 [.ref i] H Q = ma_W d 154 Q 0 [some (.ref i)] [] H 0 0 := wp_enter (by decide) (Nat.le_of_ble_eq_true rfl) rfl
/-! 155 mo_lays -/
theorem w155_0 : ma_W d 155 Q 0 (o0 :: some (.int x) :: l) st H 0 0 = ma_W d 155 Q 1 (o0 :: some (.int x) :: l) (.int x :: st) H 0 0 := wp_iload_n rfl rfl
theorem w155_1 : ma_W d 155 Q 1 l st H 0 0 = ma_W d 155 Q 2 l (.int 1 :: st) H 0 0 := wp_iconst rfl (by decide)
theorem w155_2 : ma_W d 155 Q 2 l st H 0 0 = ma_W d 155 Q 4 l (.int 60 :: st) H 0 0 := wp_bipush rfl (by decide)
theorem w155_4 : ma_W d 155 Q 4 l (.int x2 :: .int x1 :: .int x0 :: st) H 0 0 = (ma_cat st ≤ 8 ∧ ma_MW d 125 [.int x0, .int x1, .int x2] H (ma_kC d 155 Q 7 l st 0 0)) := wc_S0 (ia := 125) (n := 3) (cn := 8) (k := 1) rfl (by decide +kernel) (by decide) (fun _ => rfl) rfl rfl
theorem w155_7 : ma_W d 155 Q 7 l (.int x :: st) H 0 0 = ma_if (x = 0) d 155 Q 10 15 l st H 0 0 := wp_c0 (id := 155) (pc := 7) (c := .ne) (off := 8) 15 rfl (by decide)
theorem w155_10 : ma_W d 155 Q 10 (some (.ref i) :: l) st H 0 0 = ma_W d 155 Q 11 (some (.ref i) :: l) (.ref i :: st) H 0 0 := wp_aload_n (x := some i) rfl rfl
theorem w155_11 : ma_W d 155 Q 11 l (.ref i :: st) H 0 0 = (ma_cat st ≤ 8 ∧ ma_cv (H.1 i) 8 d 128 [.ref i] H (ma_kC d 155 Q 14 l st 0 0)) := wc_V0 (ia := 128) (n := 1) (cn := 8) rfl (by decide +kernel) (fun _ => rfl) rfl rfl
theorem w155_14 : ma_W d 155 Q 14 l [.int x] H 0 0 = Q (some (.int x)) H := wp_iret rfl rfl
theorem w155_15 : ma_W d 155 Q 15 (some (.ref i) :: l) st H 0 0 = ma_W d 155 Q 16 (some (.ref i) :: l) (.ref i :: st) H 0 0 := wp_aload_n (x := some i) rfl rfl
theorem w155_16 : ma_W d 155 Q 16 l (.ref i :: st) H 0 0 = ma_gf (H.1 i) 8 0 (ma_kV d 155 Q 19 l st H 0 0) := wp_get rfl (by decide +kernel)
theorem w155_19 : ma_W d 155 Q 19 l (.ref i0 :: st) H 0 0 = (ma_cat st ≤ 8 ∧ ma_MW d 151 [.ref i0] H (ma_kC d 155 Q 22 l st 0 0)) := wc_S0 (ia := 151) (n := 1) (cn := 8) (k := 1) rfl (by decide +kernel) (by decide) (fun _ => rfl) rfl rfl
theorem w155_22 : ma_W d 155 Q 22 l (.int x :: st) H 0 0 = ma_if (x = 0) d 155 Q 25 37 l st H 0 0 := wp_c0 (id := 155) (pc := 22) (c := .ne) (off := 15) 37 rfl (by decide)
theorem w155_25 : ma_W d 155 Q 25 (some (.ref i) :: l) st H 0 0 = ma_W d 155 Q 26 (some (.ref i) :: l) (.ref i :: st) H 0 0 := wp_aload_n (x := some i) rfl rfl
theorem w155_26 : ma_W d 155 Q 26 l (.ref i :: st) H 0 0 = ma_gf (H.1 i) 8 0 (ma_kV d 155 Q 29 l st H 0 0) := wp_get rfl (by decide +kernel)
theorem w155_29 : ma_W d 155 Q 29 l st H 0 0 = ma_W d 155 Q 30 l (.int 4 :: st) H 0 0 := wp_iconst rfl (by decide)
theorem w155_30 : ma_W d 155 Q 30 l (.int x :: .ref i :: st) H 0 0 = ma_ial (H.1 i) x (ma_kV d 155 Q 31 l st H 0 0) := wp_iald rfl
theorem w155_31 : ma_W d 155 Q 31 l st H 0 0 = ma_W d 155 Q 34 l (.int 9999 :: st) H 0 0 := wp_sipush rfl (by decide)
theorem w155_34 : ma_W d 155 Q 34 l (.int y :: .int x :: st) H 0 0 = ma_if (x = y) d 155 Q 37 42 l st H 0 0 := wp_ic (id := 155) (pc := 34) (c := .ne) (off := 8) 42 rfl (by decide)
theorem w155_37 : ma_W d 155 Q 37 (some (.ref i) :: l) st H 0 0 = ma_W d 155 Q 38 (some (.ref i) :: l) (.ref i :: st) H 0 0 := wp_aload_n (x := some i) rfl rfl
theorem w155_38 : ma_W d 155 Q 38 l (.ref i :: st) H 0 0 = (ma_cat st ≤ 8 ∧ ma_cv (H.1 i) 8 d 129 [.ref i] H (ma_kC d 155 Q 41 l st 0 0)) := wc_V0 (ia := 129) (n := 1) (cn := 8) rfl (by decide +kernel) (fun _ => rfl) rfl rfl
theorem w155_41 : ma_W d 155 Q 41 l [.int x] H 0 0 = Q (some (.int x)) H := wp_iret rfl rfl
theorem w155_42 : ma_W d 155 Q 42 (some (.ref i) :: l) st H 0 0 = ma_W d 155 Q 43 (some (.ref i) :: l) (.ref i :: st) H 0 0 := wp_aload_n (x := some i) rfl rfl
theorem w155_43 : ma_W d 155 Q 43 l (.ref i :: st) H 0 0 = (ma_cat st ≤ 8 ∧ ma_cv (H.1 i) 8 d 154 [.ref i] H (ma_kC d 155 Q 46 l st 0 0)) := wc_V0 (ia := 154) (n := 1) (cn := 8) rfl (by decide +kernel) (fun _ => rfl) rfl rfl
theorem w155_46 : ma_W d 155 Q 46 l st H 0 0 = ma_W d 155 Q 47 l (.int 0 :: st) H 0 0 := wp_iconst rfl (by decide)
theorem w155_47 : ma_W d 155 Q 47 (o0 :: o1 :: p :: l) (.int x :: st) H 0 0 = ma_W d 155 Q 48 (o0 :: ma_clr o1 :: some (.int x) :: l) st H 0 0 := wp_istore_n (id := 155) (pc := 47) (k := 2) rfl (Nat.succ_lt_succ (Nat.succ_lt_succ (Nat.zero_lt_succ _)))
theorem w155_48 : ma_W d 155 Q 48 (o0 :: o1 :: some (.int x) :: l) st H 0 0 = ma_W d 155 Q 49 (o0 :: o1 :: some (.int x) :: l) (.int x :: st) H 0 0 := wp_iload_n rfl rfl
theorem w155_49 : ma_W d 155 Q 49 (o0 :: some (.int x) :: l) st H 0 0 = ma_W d 155 Q 50 (o0 :: some (.int x) :: l) (.int x :: st) H 0 0 := wp_iload_n rfl rfl
theorem w155_50 : ma_W d 155 Q 50 l (.int y :: .int x :: st) H 0 0 = ma_if (y ≤ x) d 155 Q 89 53 l st H 0 0 := wp_ic (id := 155) (pc := 50) (c := .ge) (off := 39) 89 rfl (by decide)
theorem w155_53 : ma_W d 155 Q 53 (some (.ref i) :: l) st H 0 0 = ma_W d 155 Q 54 (some (.ref i) :: l) (.ref i :: st) H 0 0 := wp_aload_n (x := some i) rfl rfl
theorem w155_54 : ma_W d 155 Q 54 l (.ref i :: st) H 0 0 = ma_gf (H.1 i) 8 0 (ma_kV d 155 Q 57 l st H 0 0) := wp_get rfl (by decide +kernel)
theorem w155_57 : ma_W d 155 Q 57 l (.ref i0 :: st) H 0 0 = (ma_cat st ≤ 8 ∧ ma_MW d 151 [.ref i0] H (ma_kC d 155 Q 60 l st 0 0)) := wc_S0 (ia := 151) (n := 1) (cn := 8) (k := 1) rfl (by decide +kernel) (by decide) (fun _ => rfl) rfl rfl
theorem w155_60 : ma_W d 155 Q 60 l (.int x :: st) H 0 0 = ma_if (x = 0) d 155 Q 63 89 l st H 0 0 := wp_c0 (id := 155) (pc := 60) (c := .ne) (off := 29) 89 rfl (by decide)
theorem w155_63 : ma_W d 155 Q 63 (some (.ref i) :: l) st H 0 0 = ma_W d 155 Q 64 (some (.ref i) :: l) (.ref i :: st) H 0 0 := wp_aload_n (x := some i) rfl rfl
theorem w155_64 : ma_W d 155 Q 64 l (.ref i :: st) H 0 0 = ma_gf (H.1 i) 8 0 (ma_kV d 155 Q 67 l st H 0 0) := wp_get rfl (by decide +kernel)
theorem w155_67 : ma_W d 155 Q 67 l st H 0 0 = ma_W d 155 Q 68 l (.int 4 :: st) H 0 0 := wp_iconst rfl (by decide)
theorem w155_68 : ma_W d 155 Q 68 l (.int x :: .ref i :: st) H 0 0 = ma_ial (H.1 i) x (ma_kV d 155 Q 69 l st H 0 0) := wp_iald rfl
theorem w155_69 : ma_W d 155 Q 69 l st H 0 0 = ma_W d 155 Q 72 l (.int 9999 :: st) H 0 0 := wp_sipush rfl (by decide)
theorem w155_72 : ma_W d 155 Q 72 l (.int y :: .int x :: st) H 0 0 = ma_if (y ≤ x) d 155 Q 89 75 l st H 0 0 := wp_ic (id := 155) (pc := 72) (c := .ge) (off := 17) 89 rfl (by decide)
theorem w155_75 : ma_W d 155 Q 75 (some (.ref i) :: l) st H 0 0 = ma_W d 155 Q 76 (some (.ref i) :: l) (.ref i :: st) H 0 0 := wp_aload_n (x := some i) rfl rfl
theorem w155_76 : ma_W d 155 Q 76 (some (.ref i) :: l) st H 0 0 = ma_W d 155 Q 77 (some (.ref i) :: l) (.ref i :: st) H 0 0 := wp_aload_n (x := some i) rfl rfl
theorem w155_77 : ma_W d 155 Q 77 l (.ref i :: st) H 0 0 = ma_gf (H.1 i) 8 0 (ma_kV d 155 Q 80 l st H 0 0) := wp_get rfl (by decide +kernel)
theorem w155_80 : ma_W d 155 Q 80 l (.ref i0 :: .ref i :: st) H 0 0 = (ma_cat st ≤ 8 ∧ ma_cv (H.1 i) 8 d 153 [.ref i, .ref i0] H (ma_kC d 155 Q 83 l st 0 0)) := wc_V0 (ia := 153) (n := 2) (cn := 8) rfl (by decide +kernel) (fun _ => rfl) rfl rfl
theorem w155_83 : ma_W d 155 Q 83 (o0 :: o1 :: some (.int x) :: l) st H 0 0 = ma_W d 155 Q 86 (o0 :: ma_clr o1 :: some (.int (x + 1)) :: l) st H 0 0 := wp_iinc (id := 155) (pc := 83) (k := 2) (n := 1) rfl (Nat.succ_lt_succ (Nat.succ_lt_succ (Nat.zero_lt_succ _))) rfl (by decide)
theorem w155_86 : ma_W d 155 Q 86 l st H 0 0 = ma_W d 155 Q 48 l st H 0 0 := wp_goto 48 rfl (by decide)
theorem w155_89 : ma_W d 155 Q 89 (o0 :: o1 :: some (.int x) :: l) st H 0 0 = ma_W d 155 Q 90 (o0 :: o1 :: some (.int x) :: l) (.int x :: st) H 0 0 := wp_iload_n rfl rfl
theorem w155_90 : ma_W d 155 Q 90 l [.int x] H 0 0 = Q (some (.int x)) H := wp_iret rfl rfl
theorem e155 : ma_MW (d + 1) 155 [.ref i, .int x0] H Q = ma_W d 155 Q 0 [some (.ref i), some (.int x0), none] [] H 0 0 := wp_enter (by decide) (Nat.le_of_ble_eq_true rfl) rfl
/-! 156 mo_change -/
theorem w156_0 : ma_W d 156 Q 0 (some (.ref i) :: l) st H 0 0 = ma_W d 156 Q 1 (some (.ref i) :: l) (.ref i :: st) H 0 0 := wp_aload_n (x := some i) rfl rfl
theorem w156_1 : ma_W d 156 Q 1 l st H 0 0 = ma_W d 156 Q 3 l (.int 10 :: st) H 0 0 := wp_bipush rfl (by decide)
theorem w156_3 : ma_W d 156 Q 3 (o0 :: some (.int x) :: l) st H 0 0 = ma_W d 156 Q 4 (o0 :: some (.int x) :: l) (.int x :: st) H 0 0 := wp_iload_n rfl rfl
theorem w156_4 : ma_W d 156 Q 4 l (.int y :: .int x :: st) H 0 0 = ma_W d 156 Q 5 l (.int (x + y) :: st) H 0 0 := wp_iadd rfl
theorem w156_5 : ma_W d 156 Q 5 l (.int x :: .ref i :: st) H 0 0 = ma_ial (H.1 i) x (ma_kV d 156 Q 6 l st H 0 0) := wp_iald rfl
theorem w156_6 : ma_W d 156 Q 6 (o0 :: o1 :: o2 :: p :: l) (.int x :: st) H 0 0 = ma_W d 156 Q 7 (o0 :: o1 :: ma_clr o2 :: some (.int x) :: l) st H 0 0 := wp_istore_n (id := 156) (pc := 6) (k := 3) rfl (Nat.succ_lt_succ (Nat.succ_lt_succ (Nat.succ_lt_succ (Nat.zero_lt_succ _))))
theorem w156_7 : ma_W d 156 Q 7 (some (.ref i) :: l) st H 0 0 = ma_W d 156 Q 8 (some (.ref i) :: l) (.ref i :: st) H 0 0 := wp_aload_n (x := some i) rfl rfl
theorem w156_8 : ma_W d 156 Q 8 l st H 0 0 = ma_W d 156 Q 10 l (.int 10 :: st) H 0 0 := wp_bipush rfl (by decide)
theorem w156_10 : ma_W d 156 Q 10 (o0 :: some (.int x) :: l) st H 0 0 = ma_W d 156 Q 11 (o0 :: some (.int x) :: l) (.int x :: st) H 0 0 := wp_iload_n rfl rfl
theorem w156_11 : ma_W d 156 Q 11 l (.int y :: .int x :: st) H 0 0 = ma_W d 156 Q 12 l (.int (x + y) :: st) H 0 0 := wp_iadd rfl
theorem w156_12 : ma_W d 156 Q 12 (some (.ref i) :: l) st H 0 0 = ma_W d 156 Q 13 (some (.ref i) :: l) (.ref i :: st) H 0 0 := wp_aload_n (x := some i) rfl rfl
theorem w156_13 : ma_W d 156 Q 13 l st H 0 0 = ma_W d 156 Q 15 l (.int 26 :: st) H 0 0 := wp_bipush rfl (by decide)
theorem w156_15 : ma_W d 156 Q 15 (o0 :: o1 :: some (.int x) :: l) st H 0 0 = ma_W d 156 Q 16 (o0 :: o1 :: some (.int x) :: l) (.int x :: st) H 0 0 := wp_iload_n rfl rfl
theorem w156_16 : ma_W d 156 Q 16 l (.int y :: .int x :: st) H 0 0 = ma_W d 156 Q 17 l (.int (x + y) :: st) H 0 0 := wp_iadd rfl
theorem w156_17 : ma_W d 156 Q 17 l (.int x :: .ref i :: st) H 0 0 = ma_ial (H.1 i) x (ma_kV d 156 Q 18 l st H 0 0) := wp_iald rfl
theorem w156_18 : ma_W d 156 Q 18 l (.int y :: .int x :: .ref i :: st) H 0 0 = (4 ≤ i ∧ ma_ias (H.1 i) x y (ma_kH d 156 Q 19 l st H i 0 0)) := wp_iast rfl
theorem w156_19 : ma_W d 156 Q 19 (some (.ref i) :: l) st H 0 0 = ma_W d 156 Q 20 (some (.ref i) :: l) (.ref i :: st) H 0 0 := wp_aload_n (x := some i) rfl rfl
theorem w156_20 : ma_W d 156 Q 20 l st H 0 0 = ma_W d 156 Q 22 l (.int 26 :: st) H 0 0 := wp_bipush rfl (by decide)
theorem w156_22 : ma_W d 156 Q 22 (o0 :: o1 :: some (.int x) :: l) st H 0 0 = ma_W d 156 Q 23 (o0 :: o1 :: some (.int x) :: l) (.int x :: st) H 0 0 := wp_iload_n rfl rfl
theorem w156_23 : ma_W d 156 Q 23 l (.int y :: .int x :: st) H 0 0 = ma_W d 156 Q 24 l (.int (x + y) :: st) H 0 0 := wp_iadd rfl
theorem w156_24 : ma_W d 156 Q 24 (o0 :: o1 :: o2 :: some (.int x) :: l) st H 0 0 = ma_W d 156 Q 25 (o0 :: o1 :: o2 :: some (.int x) :: l) (.int x :: st) H 0 0 := wp_iload_n rfl rfl
theorem w156_25 : ma_W d 156 Q 25 l (.int y :: .int x :: .ref i :: st) H 0 0 = (4 ≤ i ∧ ma_ias (H.1 i) x y (ma_kH d 156 Q 26 l st H i 0 0)) := wp_iast rfl
theorem w156_26 : ma_W d 156 Q 26 l [] H 0 0 = Q none H := wp_vret rfl rfl
theorem e156 : ma_MW (d + 1) 156 [.ref i0, .int x1, .int x2] H Q = ma_W d 156 Q 0 [some (.ref i0), some (.int x1), some (.int x2), none] [] H 0 0 := wp_enter (by decide) (Nat.le_of_ble_eq_true rfl) rfl
/-! 157 mo_exchanges -/
theorem w157_0 : ma_W d 157 Q 0 (o0 :: some (.int x) :: l) st H 0 0 = ma_W d 157 Q 1 (o0 :: some (.int x) :: l) (.int x :: st) H 0 0 := wp_iload_n rfl rfl
theorem w157_1 : ma_W d 157 Q 1 l st H 0 0 = ma_W d 157 Q 2 l (.int 0 :: st) H 0 0 := wp_iconst rfl (by decide)
theorem w157_2 : ma_W d 157 Q 2 (some (.ref i) :: l) st H 0 0 = ma_W d 157 Q 3 (some (.ref i) :: l) (.ref i :: st) H 0 0 := wp_aload_n (x := some i) rfl rfl
theorem w157_3 : ma_W d 157 Q 3 l (.ref i :: st) H 0 0 = ma_gf (H.1 i) 8 0 (ma_kV d 157 Q 6 l st H 0 0) := wp_get rfl (by decide +kernel)
theorem w157_6 : ma_W d 157 Q 6 l st H 0 0 = ma_W d 157 Q 8 l (.int 7 :: st) H 0 0 := wp_bipush rfl (by decide)
theorem w157_8 : ma_W d 157 Q 8 l (.int x :: .ref i :: st) H 0 0 = ma_ial (H.1 i) x (ma_kV d 157 Q 9 l st H 0 0) := wp_iald rfl
theorem w157_9 : ma_W d 157 Q 9 l st H 0 0 = ma_W d 157 Q 10 l (.int 1 :: st) H 0 0 := wp_iconst rfl (by decide)
theorem w157_10 : ma_W d 157 Q 10 l (.int y :: .int x :: st) H 0 0 = ma_W d 157 Q 11 l (.int (x - y) :: st) H 0 0 := wp_isub rfl
theorem w157_11 : ma_W d 157 Q 11 l (.int x2 :: .int x1 :: .int x0 :: st) H 0 0 = (ma_cat st ≤ 8 ∧ ma_MW d 125 [.int x0, .int x1, .int x2] H (ma_kC d 157 Q 14 l st 0 0)) := wc_S0 (ia := 125) (n := 3) (cn := 8) (k := 1) rfl (by decide +kernel) (by decide) (fun _ => rfl) rfl rfl
theorem w157_14 : ma_W d 157 Q 14 l (.int x :: st) H 0 0 = ma_if (x = 0) d 157 Q 34 17 l st H 0 0 := wp_c0 (id := 157) (pc := 14) (c := .eq) (off := 20) 34 rfl (by decide)
theorem w157_17 : ma_W d 157 Q 17 (o0 :: o1 :: some (.int x) :: l) st H 0 0 = ma_W d 157 Q 18 (o0 :: o1 :: some (.int x) :: l) (.int x :: st) H 0 0 := wp_iload_n rfl rfl
theorem w157_18 : ma_W d 157 Q 18 l st H 0 0 = ma_W d 157 Q 19 l (.int 0 :: st) H 0 0 := wp_iconst rfl (by decide)
theorem w157_19 : ma_W d 157 Q 19 (some (.ref i) :: l) st H 0 0 = ma_W d 157 Q 20 (some (.ref i) :: l) (.ref i :: st) H 0 0 := wp_aload_n (x := some i) rfl rfl
theorem w157_20 : ma_W d 157 Q 20 l (.ref i :: st) H 0 0 = ma_gf (H.1 i) 8 0 (ma_kV d 157 Q 23 l st H 0 0) := wp_get rfl (by decide +kernel)
theorem w157_23 : ma_W d 157 Q 23 l st H 0 0 = ma_W d 157 Q 25 l (.int 8 :: st) H 0 0 := wp_bipush rfl (by decide)
theorem w157_25 : ma_W d 157 Q 25 l (.int x :: .ref i :: st) H 0 0 = ma_ial (H.1 i) x (ma_kV d 157 Q 26 l st H 0 0) := wp_iald rfl
theorem w157_26 : ma_W d 157 Q 26 l st H 0 0 = ma_W d 157 Q 27 l (.int 1 :: st) H 0 0 := wp_iconst rfl (by decide)
theorem w157_27 : ma_W d 157 Q 27 l (.int y :: .int x :: st) H 0 0 = ma_W d 157 Q 28 l (.int (x - y) :: st) H 0 0 := wp_isub rfl
theorem w157_28 : ma_W d 157 Q 28 l (.int x2 :: .int x1 :: .int x0 :: st) H 0 0 = (ma_cat st ≤ 8 ∧ ma_MW d 125 [.int x0, .int x1, .int x2] H (ma_kC d 157 Q 31 l st 0 0)) := wc_S0 (ia := 125) (n := 3) (cn := 8) (k := 1) rfl (by decide +kernel) (by decide) (fun _ => rfl) rfl rfl
theorem w157_31 : ma_W d 157 Q 31 l (.int x :: st) H 0 0 = ma_if (x = 0) d 157 Q 34 39 l st H 0 0 := wp_c0 (id := 157) (pc := 31) (c := .ne) (off := 8) 39 rfl (by decide)
theorem w157_34 : ma_W d 157 Q 34 (some (.ref i) :: l) st H 0 0 = ma_W d 157 Q 35 (some (.ref i) :: l) (.ref i :: st) H 0 0 := wp_aload_n (x := some i) rfl rfl
theorem w157_35 : ma_W d 157 Q 35 l (.ref i :: st) H 0 0 = (ma_cat st ≤ 8 ∧ ma_cv (H.1 i) 8 d 128 [.ref i] H (ma_kC d 157 Q 38 l st 0 0)) := wc_V0 (ia := 128) (n := 1) (cn := 8) rfl (by decide +kernel) (fun _ => rfl) rfl rfl
theorem w157_38 : ma_W d 157 Q 38 l [.int x] H 0 0 = Q (some (.int x)) H := wp_iret rfl rfl
theorem w157_39 : ma_W d 157 Q 39 (some (.ref i) :: l) st H 0 0 = ma_W d 157 Q 40 (some (.ref i) :: l) (.ref i :: st) H 0 0 := wp_aload_n (x := some i) rfl rfl
theorem w157_40 : ma_W d 157 Q 40 l (.ref i :: st) H 0 0 = (ma_cat st ≤ 8 ∧ ma_cv (H.1 i) 8 d 154 [.ref i] H (ma_kC d 157 Q 43 l st 0 0)) := wc_V0 (ia := 154) (n := 1) (cn := 8) rfl (by decide +kernel) (fun _ => rfl) rfl rfl
theorem w157_43 : ma_W d 157 Q 43 (some (.ref i) :: l) st H 0 0 = ma_W d 157 Q 44 (some (.ref i) :: l) (.ref i :: st) H 0 0 := wp_aload_n (x := some i) rfl rfl
theorem w157_44 : ma_W d 157 Q 44 l (.ref i :: st) H 0 0 = ma_gf (H.1 i) 8 0 (ma_kV d 157 Q 47 l st H 0 0) := wp_get rfl (by decide +kernel)
theorem w157_47 : ma_W d 157 Q 47 (o0 :: some (.int x) :: l) st H 0 0 = ma_W d 157 Q 48 (o0 :: some (.int x) :: l) (.int x :: st) H 0 0 := wp_iload_n rfl rfl
theorem w157_48 : ma_W d 157 Q 48 (o0 :: o1 :: some (.int x) :: l) st H 0 0 = ma_W d 157 Q 49 (o0 :: o1 :: some (.int x) :: l) (.int x :: st) H 0 0 := wp_iload_n rfl rfl
theorem w157_49 : ma_W d 157 Q 49 l (.int x2 :: .int x1 :: .ref i0 :: st) H 0 0 = (ma_cat st ≤ 8 ∧ ma_MW d 156 [.ref i0, .int x1, .int x2] H (ma_kC d 157 Q 52 l st 0 0)) := wc_S0 (ia := 156) (n := 3) (cn := 8) (k := 1) rfl (by decide +kernel) (by decide) (fun _ => rfl) rfl rfl
theorem w157_52 : ma_W d 157 Q 52 l st H 0 0 = ma_W d 157 Q 54 l (.int 10 :: st) H 0 0 := wp_bipush rfl (by decide)
theorem w157_54 : ma_W d 157 Q 54 (some (.ref i) :: l) st H 0 0 = ma_W d 157 Q 55 (some (.ref i) :: l) (.ref i :: st) H 0 0 := wp_aload_n (x := some i) rfl rfl
theorem w157_55 : ma_W d 157 Q 55 l (.ref i :: st) H 0 0 = ma_gf (H.1 i) 8 0 (ma_kV d 157 Q 58 l st H 0 0) := wp_get rfl (by decide +kernel)
theorem w157_58 : ma_W d 157 Q 58 l st H 0 0 = ma_W d 157 Q 60 l (.int 10 :: st) H 0 0 := wp_bipush rfl (by decide)
theorem w157_60 : ma_W d 157 Q 60 (o0 :: some (.int x) :: l) st H 0 0 = ma_W d 157 Q 61 (o0 :: some (.int x) :: l) (.int x :: st) H 0 0 := wp_iload_n rfl rfl
theorem w157_61 : ma_W d 157 Q 61 l (.int y :: .int x :: st) H 0 0 = ma_W d 157 Q 62 l (.int (x + y) :: st) H 0 0 := wp_iadd rfl
theorem w157_62 : ma_W d 157 Q 62 l (.int x :: .ref i :: st) H 0 0 = ma_ial (H.1 i) x (ma_kV d 157 Q 63 l st H 0 0) := wp_iald rfl
theorem w157_63 : ma_W d 157 Q 63 l (.int y :: .int x :: st) H 0 0 = ma_W d 157 Q 64 l (.int (x * y) :: st) H 0 0 := wp_imul rfl
theorem w157_64 : ma_W d 157 Q 64 (some (.ref i) :: l) st H 0 0 = ma_W d 157 Q 65 (some (.ref i) :: l) (.ref i :: st) H 0 0 := wp_aload_n (x := some i) rfl rfl
theorem w157_65 : ma_W d 157 Q 65 l (.ref i :: st) H 0 0 = ma_gf (H.1 i) 8 0 (ma_kV d 157 Q 68 l st H 0 0) := wp_get rfl (by decide +kernel)
theorem w157_68 : ma_W d 157 Q 68 l st H 0 0 = ma_W d 157 Q 70 l (.int 26 :: st) H 0 0 := wp_bipush rfl (by decide)
theorem w157_70 : ma_W d 157 Q 70 (o0 :: o1 :: some (.int x) :: l) st H 0 0 = ma_W d 157 Q 71 (o0 :: o1 :: some (.int x) :: l) (.int x :: st) H 0 0 := wp_iload_n rfl rfl
theorem w157_71 : ma_W d 157 Q 71 l (.int y :: .int x :: st) H 0 0 = ma_W d 157 Q 72 l (.int (x + y) :: st) H 0 0 := wp_iadd rfl
theorem w157_72 : ma_W d 157 Q 72 l (.int x :: .ref i :: st) H 0 0 = ma_ial (H.1 i) x (ma_kV d 157 Q 73 l st H 0 0) := wp_iald rfl
theorem w157_73 : ma_W d 157 Q 73 l (.int y :: .int x :: st) H 0 0 = ma_W d 157 Q 74 l (.int (x + y) :: st) H 0 0 := wp_iadd rfl
theorem w157_74 : ma_W d 157 Q 74 l [.int x] H 0 0 = Q (some (.int x)) H := wp_iret rfl rfl
theorem e157 : ma_MW (d + 1) 157 [.ref i, .int x0, .int x1] H Q = ma_W d 157 Q 0 [some (.ref i), some (.int x0), some (.int x1)] [] H 0 0 := wp_enter (by decide) (Nat.le_of_ble_eq_true rfl) rfl
/-! 158 mo_undo -/
theorem w158_0 : ma_W d 158 Q 0 (some (.ref i) :: l) st H 0 0 = ma_W d 158 Q 1 (some (.ref i) :: l) (.ref i :: st) H 0 0 := wp_aload_n (x := some i) rfl rfl
theorem w158_1 : ma_W d 158 Q 1 l (.ref i :: st) H 0 0 = ma_gf (H.1 i) 8 0 (ma_kV d 158 Q 4 l st H 0 0) := wp_get rfl (by decide +kernel)
theorem w158_4 : ma_W d 158 Q 4 l st H 0 0 = ma_W d 158 Q 6 l (.int 96 :: st) H 0 0 := wp_bipush rfl (by decide)
theorem w158_6 : ma_W d 158 Q 6 l (.int x :: .ref i :: st) H 0 0 = ma_ial (H.1 i) x (ma_kV d 158 Q 7 l st H 0 0) := wp_iald rfl
theorem w158_7 : ma_W d 158 Q 7 l (.int x :: st) H 0 0 = ma_if (x = 0) d 158 Q 10 15 l st H 0 0 := wp_c0 (id := 158) (pc := 7) (c := .ne) (off := 8) 15 rfl (by decide)
theorem w158_10 : ma_W d 158 Q 10 (some (.ref i) :: l) st H 0 0 = ma_W d 158 Q 11 (some (.ref i) :: l) (.ref i :: st) H 0 0 := wp_aload_n (x := some i) rfl rfl
theorem w158_11 : ma_W d 158 Q 11 l (.ref i :: st) H 0 0 = (ma_cat st ≤ 8 ∧ ma_cv (H.1 i) 8 d 129 [.ref i] H (ma_kC d 158 Q 14 l st 0 0)) := wc_V0 (ia := 129) (n := 1) (cn := 8) rfl (by decide +kernel) (fun _ => rfl) rfl rfl
theorem w158_14 : ma_W d 158 Q 14 l [.int x] H 0 0 = Q (some (.int x)) H := wp_iret rfl rfl
theorem w158_15 : ma_W d 158 Q 15 (some (.ref i) :: l) st H 0 0 = ma_W d 158 Q 16 (some (.ref i) :: l) (.ref i :: st) H 0 0 := wp_aload_n (x := some i) rfl rfl
theorem w158_16 : ma_W d 158 Q 16 l (.ref i :: st) H 0 0 = ma_gf (H.1 i) 8 0 (ma_kV d 158 Q 19 l st H 0 0) := wp_get rfl (by decide +kernel)
theorem w158_19 : ma_W d 158 Q 19 l st H 0 0 = ma_W d 158 Q 21 l (.int 96 :: st) H 0 0 := wp_bipush rfl (by decide)
theorem w158_21 : ma_W d 158 Q 21 l (.int x :: .ref i :: st) H 0 0 = ma_W d 158 Q 22 l (.int x :: .ref i :: .int x :: .ref i :: st) H 0 0 := wp_dup2 rfl rfl rfl
theorem w158_22 : ma_W d 158 Q 22 l (.int x :: .ref i :: st) H 0 0 = ma_ial (H.1 i) x (ma_kV d 158 Q 23 l st H 0 0) := wp_iald rfl
theorem w158_23 : ma_W d 158 Q 23 l st H 0 0 = ma_W d 158 Q 24 l (.int 1 :: st) H 0 0 := wp_iconst rfl (by decide)
theorem w158_24 : ma_W d 158 Q 24 l (.int y :: .int x :: st) H 0 0 = ma_W d 158 Q 25 l (.int (x - y) :: st) H 0 0 := wp_isub rfl
theorem w158_25 : ma_W d 158 Q 25 l (.int y :: .int x :: .ref i :: st) H 0 0 = (4 ≤ i ∧ ma_ias (H.1 i) x y (ma_kH d 158 Q 26 l st H i 0 0)) := wp_iast rfl
theorem w158_26 : ma_W d 158 Q 26 (some (.ref i) :: l) st H 0 0 = ma_W d 158 Q 27 (some (.ref i) :: l) (.ref i :: st) H 0 0 := wp_aload_n (x := some i) rfl rfl
theorem w158_27 : ma_W d 158 Q 27 l (.ref i :: st) H 0 0 = ma_gf (H.1 i) 8 0 (ma_kV d 158 Q 30 l st H 0 0) := wp_get rfl (by decide +kernel)
theorem w158_30 : ma_W d 158 Q 30 l st H 0 0 = ma_W d 158 Q 32 l (.int 97 :: st) H 0 0 := wp_bipush rfl (by decide)
theorem w158_32 : ma_W d 158 Q 32 l st H 0 0 = ma_W d 158 Q 34 l (.int 56 :: st) H 0 0 := wp_bipush rfl (by decide)
theorem w158_34 : ma_W d 158 Q 34 (some (.ref i) :: l) st H 0 0 = ma_W d 158 Q 35 (some (.ref i) :: l) (.ref i :: st) H 0 0 := wp_aload_n (x := some i) rfl rfl
theorem w158_35 : ma_W d 158 Q 35 l (.ref i :: st) H 0 0 = ma_gf (H.1 i) 8 0 (ma_kV d 158 Q 38 l st H 0 0) := wp_get rfl (by decide +kernel)
theorem w158_38 : ma_W d 158 Q 38 l st H 0 0 = ma_W d 158 Q 40 l (.int 96 :: st) H 0 0 := wp_bipush rfl (by decide)
theorem w158_40 : ma_W d 158 Q 40 l (.int x :: .ref i :: st) H 0 0 = ma_ial (H.1 i) x (ma_kV d 158 Q 41 l st H 0 0) := wp_iald rfl
theorem w158_41 : ma_W d 158 Q 41 l (.int y :: .int x :: st) H 0 0 = ma_W d 158 Q 42 l (.int (x * y) :: st) H 0 0 := wp_imul rfl
theorem w158_42 : ma_W d 158 Q 42 l (.int y :: .int x :: st) H 0 0 = ma_W d 158 Q 43 l (.int (x + y) :: st) H 0 0 := wp_iadd rfl
theorem w158_43 : ma_W d 158 Q 43 (some (.ref i) :: l) st H 0 0 = ma_W d 158 Q 44 (some (.ref i) :: l) (.ref i :: st) H 0 0 := wp_aload_n (x := some i) rfl rfl
theorem w158_44 : ma_W d 158 Q 44 l (.ref i :: st) H 0 0 = ma_gf (H.1 i) 8 0 (ma_kV d 158 Q 47 l st H 0 0) := wp_get rfl (by decide +kernel)
theorem w158_47 : ma_W d 158 Q 47 l st H 0 0 = ma_W d 158 Q 48 l (.int 2 :: st) H 0 0 := wp_iconst rfl (by decide)
theorem w158_48 : ma_W d 158 Q 48 l st H 0 0 = ma_W d 158 Q 50 l (.int 56 :: st) H 0 0 := wp_bipush rfl (by decide)
theorem w158_50 : ma_W d 158 Q 50 l (.int x4 :: .int x3 :: .ref i2 :: .int x1 :: .ref i0 :: st) H 0 0 = (ma_cat st ≤ 8 ∧ ma_MW d 131 [.ref i0, .int x1, .ref i2, .int x3, .int x4] H (ma_kC d 158 Q 53 l st 0 0)) := wc_S0 (ia := 131) (n := 5) (cn := 8) (k := 1) rfl (by decide +kernel) (by decide) (fun _ => rfl) rfl rfl
theorem w158_53 : ma_W d 158 Q 53 (some (.ref i) :: l) st H 0 0 = ma_W d 158 Q 54 (some (.ref i) :: l) (.ref i :: st) H 0 0 := wp_aload_n (x := some i) rfl rfl
theorem w158_54 : ma_W d 158 Q 54 l (.ref i :: st) H 0 0 = ma_gf (H.1 i) 8 0 (ma_kV d 158 Q 57 l st H 0 0) := wp_get rfl (by decide +kernel)
theorem w158_57 : ma_W d 158 Q 57 l st H 0 0 = ma_W d 158 Q 58 l (.int 4 :: st) H 0 0 := wp_iconst rfl (by decide)
theorem w158_58 : ma_W d 158 Q 58 l (.int x :: .ref i :: st) H 0 0 = ma_ial (H.1 i) x (ma_kV d 158 Q 59 l st H 0 0) := wp_iald rfl
theorem w158_59 : ma_W d 158 Q 59 l [.int x] H 0 0 = Q (some (.int x)) H := wp_iret rfl rfl
theorem e158 : ma_MW (d + 1) 158 [.ref i] H Q = ma_W d 158 Q 0 [some (.ref i)] [] H 0 0 := wp_enter (by decide) (Nat.le_of_ble_eq_true rfl) rfl
/-! 159 mo_card -/
theorem w159_0 : ma_W d 159 Q 0 (o0 :: some (.int x) :: l) st H 0 0 = ma_W d 159 Q 1 (o0 :: some (.int x) :: l) (.int x :: st) H 0 0 := wp_iload_n rfl rfl
theorem w159_1 : ma_W d 159 Q 1 l st H 0 0 = ma_W d 159 Q 2 l (.int 0 :: st) H 0 0 := wp_iconst rfl (by decide)
theorem w159_2 : ma_W d 159 Q 2 l st H 0 0 = ma_W d 159 Q 3 l (.int 2 :: st) H 0 0 := wp_iconst rfl (by decide)
theorem w159_3 : ma_W d 159 Q 3 l (.int x2 :: .int x1 :: .int x0 :: st) H 0 0 = (ma_cat st ≤ 8 ∧ ma_MW d 125 [.int x0, .int x1, .int x2] H (ma_kC d 159 Q 6 l st 0 0)) := wc_S0 (ia := 125) (n := 3) (cn := 8) (k := 1) rfl (by decide +kernel) (by decide) (fun _ => rfl) rfl rfl
theorem w159_6 : ma_W d 159 Q 6 l (.int x :: st) H 0 0 = ma_if (x = 0) d 159 Q 45 9 l st H 0 0 := wp_c0 (id := 159) (pc := 6) (c := .eq) (off := 39) 45 rfl (by decide)
theorem w159_9 : ma_W d 159 Q 9 (o0 :: o1 :: some (.int x) :: l) st H 0 0 = ma_W d 159 Q 10 (o0 :: o1 :: some (.int x) :: l) (.int x :: st) H 0 0 := wp_iload_n rfl rfl
theorem w159_10 : ma_W d 159 Q 10 l st H 0 0 = ma_W d 159 Q 11 l (.int 0 :: st) H 0 0 := wp_iconst rfl (by decide)
theorem w159_11 : ma_W d 159 Q 11 (some (.ref i) :: l) st H 0 0 = ma_W d 159 Q 12 (some (.ref i) :: l) (.ref i :: st) H 0 0 := wp_aload_n (x := some i) rfl rfl
theorem w159_12 : ma_W d 159 Q 12 l (.ref i :: st) H 0 0 = ma_gf (H.1 i) 8 0 (ma_kV d 159 Q 15 l st H 0 0) := wp_get rfl (by decide +kernel)
theorem w159_15 : ma_W d 159 Q 15 l st H 0 0 = ma_W d 159 Q 17 l (.int 7 :: st) H 0 0 := wp_bipush rfl (by decide)
theorem w159_17 : ma_W d 159 Q 17 (o0 :: some (.int x) :: l) st H 0 0 = ma_W d 159 Q 18 (o0 :: some (.int x) :: l) (.int x :: st) H 0 0 := wp_iload_n rfl rfl
theorem w159_18 : ma_W d 159 Q 18 l (.int y :: .int x :: st) H 0 0 = ma_W d 159 Q 19 l (.int (x + y) :: st) H 0 0 := wp_iadd rfl
theorem w159_19 : ma_W d 159 Q 19 l (.int x :: .ref i :: st) H 0 0 = ma_ial (H.1 i) x (ma_kV d 159 Q 20 l st H 0 0) := wp_iald rfl
theorem w159_20 : ma_W d 159 Q 20 l st H 0 0 = ma_W d 159 Q 21 l (.int 1 :: st) H 0 0 := wp_iconst rfl (by decide)
theorem w159_21 : ma_W d 159 Q 21 l (.int y :: .int x :: st) H 0 0 = ma_W d 159 Q 22 l (.int (x - y) :: st) H 0 0 := wp_isub rfl
theorem w159_22 : ma_W d 159 Q 22 l (.int x2 :: .int x1 :: .int x0 :: st) H 0 0 = (ma_cat st ≤ 8 ∧ ma_MW d 125 [.int x0, .int x1, .int x2] H (ma_kC d 159 Q 25 l st 0 0)) := wc_S0 (ia := 125) (n := 3) (cn := 8) (k := 1) rfl (by decide +kernel) (by decide) (fun _ => rfl) rfl rfl
theorem w159_25 : ma_W d 159 Q 25 l (.int x :: st) H 0 0 = ma_if (x = 0) d 159 Q 45 28 l st H 0 0 := wp_c0 (id := 159) (pc := 25) (c := .eq) (off := 20) 45 rfl (by decide)
theorem w159_28 : ma_W d 159 Q 28 (some (.ref i) :: l) st H 0 0 = ma_W d 159 Q 29 (some (.ref i) :: l) (.ref i :: st) H 0 0 := wp_aload_n (x := some i) rfl rfl
theorem w159_29 : ma_W d 159 Q 29 l (.ref i :: st) H 0 0 = ma_gf (H.1 i) 8 0 (ma_kV d 159 Q 32 l st H 0 0) := wp_get rfl (by decide +kernel)
theorem w159_32 : ma_W d 159 Q 32 l st H 0 0 = ma_W d 159 Q 34 l (.int 10 :: st) H 0 0 := wp_bipush rfl (by decide)
theorem w159_34 : ma_W d 159 Q 34 l st H 0 0 = ma_W d 159 Q 36 l (.int 16 :: st) H 0 0 := wp_bipush rfl (by decide)
theorem w159_36 : ma_W d 159 Q 36 (o0 :: some (.int x) :: l) st H 0 0 = ma_W d 159 Q 37 (o0 :: some (.int x) :: l) (.int x :: st) H 0 0 := wp_iload_n rfl rfl
theorem w159_37 : ma_W d 159 Q 37 l (.int y :: .int x :: st) H 0 0 = ma_W d 159 Q 38 l (.int (x * y) :: st) H 0 0 := wp_imul rfl
theorem w159_38 : ma_W d 159 Q 38 l (.int y :: .int x :: st) H 0 0 = ma_W d 159 Q 39 l (.int (x + y) :: st) H 0 0 := wp_iadd rfl
theorem w159_39 : ma_W d 159 Q 39 (o0 :: o1 :: some (.int x) :: l) st H 0 0 = ma_W d 159 Q 40 (o0 :: o1 :: some (.int x) :: l) (.int x :: st) H 0 0 := wp_iload_n rfl rfl
theorem w159_40 : ma_W d 159 Q 40 l (.int y :: .int x :: st) H 0 0 = ma_W d 159 Q 41 l (.int (x + y) :: st) H 0 0 := wp_iadd rfl
theorem w159_41 : ma_W d 159 Q 41 l (.int x :: .ref i :: st) H 0 0 = ma_ial (H.1 i) x (ma_kV d 159 Q 42 l st H 0 0) := wp_iald rfl
theorem w159_42 : ma_W d 159 Q 42 l st H 0 0 = ma_W d 159 Q 49 l st H 0 0 := wp_goto 49 rfl (by decide)
theorem w159_45 : ma_W d 159 Q 45 (some (.ref i) :: l) st H 0 0 = ma_W d 159 Q 46 (some (.ref i) :: l) (.ref i :: st) H 0 0 := wp_aload_n (x := some i) rfl rfl
theorem w159_46 : ma_W d 159 Q 46 l (.ref i :: st) H 0 0 = (ma_cat st ≤ 8 ∧ ma_cv (H.1 i) 8 d 128 [.ref i] H (ma_kC d 159 Q 49 l st 0 0)) := wc_V0 (ia := 128) (n := 1) (cn := 8) rfl (by decide +kernel) (fun _ => rfl) rfl rfl
theorem w159_49 : ma_W d 159 Q 49 l [.int x] H 0 0 = Q (some (.int x)) H := wp_iret rfl rfl
theorem e159 : ma_MW (d + 1) 159 [.ref i, .int x0, .int x1] H Q = ma_W d 159 Q 0 [some (.ref i), some (.int x0), some (.int x1)] [] H 0 0 := wp_enter (by decide) (Nat.le_of_ble_eq_true rfl) rfl
/-! 160 mo_begins -/
theorem w160_0 : ma_W d 160 Q 0 (some (.ref i) :: l) st H 0 0 = ma_W d 160 Q 1 (some (.ref i) :: l) (.ref i :: st) H 0 0 := wp_aload_n (x := some i) rfl rfl
theorem w160_1 : ma_W d 160 Q 1 l (.ref i :: st) H 0 0 = ma_gf (H.1 i) 8 0 (ma_kV d 160 Q 4 l st H 0 0) := wp_get rfl (by decide +kernel)
theorem w160_4 : ma_W d 160 Q 4 l st H 0 0 = ma_W d 160 Q 5 l (.int 0 :: st) H 0 0 := wp_iconst rfl (by decide)
theorem w160_5 : ma_W d 160 Q 5 (some (.ref i) :: l) st H 0 0 = ma_W d 160 Q 6 (some (.ref i) :: l) (.ref i :: st) H 0 0 := wp_aload_n (x := some i) rfl rfl
theorem w160_6 : ma_W d 160 Q 6 l (.ref i :: st) H 0 0 = ma_gf (H.1 i) 8 15 (ma_kV d 160 Q 9 l st H 0 0) := wp_get rfl (by decide +kernel)
theorem w160_9 : ma_W d 160 Q 9 l st H 0 0 = ma_W d 160 Q 10 l (.int 0 :: st) H 0 0 := wp_iconst rfl (by decide)
theorem w160_10 : ma_W d 160 Q 10 l st H 0 0 = ma_W d 160 Q 12 l (.int 58 :: st) H 0 0 := wp_bipush rfl (by decide)
theorem w160_12 : ma_W d 160 Q 12 l (.int x4 :: .int x3 :: .ref i2 :: .int x1 :: .ref i0 :: st) H 0 0 = (ma_cat st ≤ 8 ∧ ma_MW d 131 [.ref i0, .int x1, .ref i2, .int x3, .int x4] H (ma_kC d 160 Q 15 l st 0 0)) := wc_S0 (ia := 131) (n := 5) (cn := 8) (k := 1) rfl (by decide +kernel) (by decide) (fun _ => rfl) rfl rfl
theorem w160_15 : ma_W d 160 Q 15 l [] H 0 0 = Q none H := wp_vret rfl rfl
theorem e160 : ma_MW (d + 1) 160 [.ref i] H Q = ma_W d 160 Q 0 [some (.ref i)] [] H 0 0 := wp_enter (by decide) (Nat.le_of_ble_eq_true rfl) rfl
/-! 161 mo_behind -/
theorem w161_0 : ma_W d 161 Q 0 (o0 :: some (.int x) :: l) st H 0 0 = ma_W d 161 Q 1 (o0 :: some (.int x) :: l) (.int x :: st) H 0 0 := wp_iload_n rfl rfl
theorem w161_1 : ma_W d 161 Q 1 l st H 0 0 = ma_W d 161 Q 2 l (.int 0 :: st) H 0 0 := wp_iconst rfl (by decide)
theorem w161_2 : ma_W d 161 Q 2 l st H 0 0 = ma_W d 161 Q 4 l (.int 60 :: st) H 0 0 := wp_bipush rfl (by decide)
theorem w161_4 : ma_W d 161 Q 4 l (.int x2 :: .int x1 :: .int x0 :: st) H 0 0 = (ma_cat st ≤ 8 ∧ ma_MW d 125 [.int x0, .int x1, .int x2] H (ma_kC d 161 Q 7 l st 0 0)) := wc_S0 (ia := 125) (n := 3) (cn := 8) (k := 1) rfl (by decide +kernel) (by decide) (fun _ => rfl) rfl rfl
theorem w161_7 : ma_W d 161 Q 7 l (.int x :: st) H 0 0 = ma_if (x = 0) d 161 Q 19 10 l st H 0 0 := wp_c0 (id := 161) (pc := 7) (c := .eq) (off := 12) 19 rfl (by decide)
theorem w161_10 : ma_W d 161 Q 10 (o0 :: o1 :: some (.int x) :: l) st H 0 0 = ma_W d 161 Q 11 (o0 :: o1 :: some (.int x) :: l) (.int x :: st) H 0 0 := wp_iload_n rfl rfl
theorem w161_11 : ma_W d 161 Q 11 l st H 0 0 = ma_W d 161 Q 12 l (.int 0 :: st) H 0 0 := wp_iconst rfl (by decide)
theorem w161_12 : ma_W d 161 Q 12 l st H 0 0 = ma_W d 161 Q 13 l (.int 4 :: st) H 0 0 := wp_iconst rfl (by decide)
theorem w161_13 : ma_W d 161 Q 13 l (.int x2 :: .int x1 :: .int x0 :: st) H 0 0 = (ma_cat st ≤ 8 ∧ ma_MW d 125 [.int x0, .int x1, .int x2] H (ma_kC d 161 Q 16 l st 0 0)) := wc_S0 (ia := 125) (n := 3) (cn := 8) (k := 1) rfl (by decide +kernel) (by decide) (fun _ => rfl) rfl rfl
theorem w161_16 : ma_W d 161 Q 16 l (.int x :: st) H 0 0 = ma_if (x = 0) d 161 Q 19 24 l st H 0 0 := wp_c0 (id := 161) (pc := 16) (c := .ne) (off := 8) 24 rfl (by decide)
theorem w161_19 : ma_W d 161 Q 19 (some (.ref i) :: l) st H 0 0 = ma_W d 161 Q 20 (some (.ref i) :: l) (.ref i :: st) H 0 0 := wp_aload_n (x := some i) rfl rfl
theorem w161_20 : ma_W d 161 Q 20 l (.ref i :: st) H 0 0 = (ma_cat st ≤ 8 ∧ ma_cv (H.1 i) 8 d 128 [.ref i] H (ma_kC d 161 Q 23 l st 0 0)) := wc_V0 (ia := 128) (n := 1) (cn := 8) rfl (by decide +kernel) (fun _ => rfl) rfl rfl
theorem w161_23 : ma_W d 161 Q 23 l [.int x] H 0 0 = Q (some (.int x)) H := wp_iret rfl rfl
theorem w161_24 : ma_W d 161 Q 24 (some (.ref i) :: l) st H 0 0 = ma_W d 161 Q 25 (some (.ref i) :: l) (.ref i :: st) H 0 0 := wp_aload_n (x := some i) rfl rfl
theorem w161_25 : ma_W d 161 Q 25 l (.ref i :: st) H 0 0 = (ma_cat st ≤ 8 ∧ ma_cv (H.1 i) 8 d 160 [.ref i] H (ma_kC d 161 Q 28 l st 0 0)) := wc_V0 (ia := 160) (n := 1) (cn := 8) rfl (by decide +kernel) (fun _ => rfl) rfl rfl
theorem w161_28 : ma_W d 161 Q 28 l st H 0 0 = ma_W d 161 Q 29 l (.int 0 :: st) H 0 0 := wp_iconst rfl (by decide)
theorem w161_29 : ma_W d 161 Q 29 (o0 :: o1 :: o2 :: p :: l) (.int x :: st) H 0 0 = ma_W d 161 Q 30 (o0 :: o1 :: ma_clr o2 :: some (.int x) :: l) st H 0 0 := wp_istore_n (id := 161) (pc := 29) (k := 3) rfl (Nat.succ_lt_succ (Nat.succ_lt_succ (Nat.succ_lt_succ (Nat.zero_lt_succ _))))
theorem w161_30 : ma_W d 161 Q 30 (o0 :: o1 :: o2 :: some (.int x) :: l) st H 0 0 = ma_W d 161 Q 31 (o0 :: o1 :: o2 :: some (.int x) :: l) (.int x :: st) H 0 0 := wp_iload_n rfl rfl
theorem w161_31 : ma_W d 161 Q 31 (o0 :: some (.int x) :: l) st H 0 0 = ma_W d 161 Q 32 (o0 :: some (.int x) :: l) (.int x :: st) H 0 0 := wp_iload_n rfl rfl
theorem w161_32 : ma_W d 161 Q 32 l (.int y :: .int x :: st) H 0 0 = ma_if (y ≤ x) d 161 Q 59 35 l st H 0 0 := wp_ic (id := 161) (pc := 32) (c := .ge) (off := 27) 59 rfl (by decide)
theorem w161_35 : ma_W d 161 Q 35 (some (.ref i) :: l) st H 0 0 = ma_W d 161 Q 36 (some (.ref i) :: l) (.ref i :: st) H 0 0 := wp_aload_n (x := some i) rfl rfl
theorem w161_36 : ma_W d 161 Q 36 l (.ref i :: st) H 0 0 = ma_gf (H.1 i) 8 15 (ma_kV d 161 Q 39 l st H 0 0) := wp_get rfl (by decide +kernel)
theorem w161_39 : ma_W d 161 Q 39 l (.ref i0 :: st) H 0 0 = (ma_cat st ≤ 8 ∧ ma_MW d 151 [.ref i0] H (ma_kC d 161 Q 42 l st 0 0)) := wc_S0 (ia := 151) (n := 1) (cn := 8) (k := 1) rfl (by decide +kernel) (by decide) (fun _ => rfl) rfl rfl
theorem w161_42 : ma_W d 161 Q 42 l (.int x :: st) H 0 0 = ma_if (x = 0) d 161 Q 45 59 l st H 0 0 := wp_c0 (id := 161) (pc := 42) (c := .ne) (off := 17) 59 rfl (by decide)
theorem w161_45 : ma_W d 161 Q 45 (some (.ref i) :: l) st H 0 0 = ma_W d 161 Q 46 (some (.ref i) :: l) (.ref i :: st) H 0 0 := wp_aload_n (x := some i) rfl rfl
theorem w161_46 : ma_W d 161 Q 46 (some (.ref i) :: l) st H 0 0 = ma_W d 161 Q 47 (some (.ref i) :: l) (.ref i :: st) H 0 0 := wp_aload_n (x := some i) rfl rfl
theorem w161_47 : ma_W d 161 Q 47 l (.ref i :: st) H 0 0 = ma_gf (H.1 i) 8 15 (ma_kV d 161 Q 50 l st H 0 0) := wp_get rfl (by decide +kernel)
theorem w161_50 : ma_W d 161 Q 50 l (.ref i0 :: .ref i :: st) H 0 0 = (ma_cat st ≤ 8 ∧ ma_cv (H.1 i) 8 d 153 [.ref i, .ref i0] H (ma_kC d 161 Q 53 l st 0 0)) := wc_V0 (ia := 153) (n := 2) (cn := 8) rfl (by decide +kernel) (fun _ => rfl) rfl rfl
theorem w161_53 : ma_W d 161 Q 53 (o0 :: o1 :: o2 :: some (.int x) :: l) st H 0 0 = ma_W d 161 Q 56 (o0 :: o1 :: ma_clr o2 :: some (.int (x + 1)) :: l) st H 0 0 := wp_iinc (id := 161) (pc := 53) (k := 3) (n := 1) rfl (Nat.succ_lt_succ (Nat.succ_lt_succ (Nat.succ_lt_succ (Nat.zero_lt_succ _)))) rfl (by decide)
theorem w161_56 : ma_W d 161 Q 56 l st H 0 0 = ma_W d 161 Q 30 l st H 0 0 := wp_goto 30 rfl (by decide)
theorem w161_59 : ma_W d 161 Q 59 (o0 :: o1 :: some (.int x) :: l) st H 0 0 = ma_W d 161 Q 60 (o0 :: o1 :: some (.int x) :: l) (.int x :: st) H 0 0 := wp_iload_n rfl rfl
theorem w161_60 : ma_W d 161 Q 60 l st H 0 0 = ma_W d 161 Q 61 l (.int 3 :: st) H 0 0 := wp_iconst rfl (by decide)
theorem w161_61 : ma_W d 161 Q 61 l (.int y :: .int x :: st) H 0 0 = ma_if (y ≤ x) d 161 Q 76 64 l st H 0 0 := wp_ic (id := 161) (pc := 61) (c := .ge) (off := 15) 76 rfl (by decide)
theorem w161_64 : ma_W d 161 Q 64 (some (.ref i) :: l) st H 0 0 = ma_W d 161 Q 65 (some (.ref i) :: l) (.ref i :: st) H 0 0 := wp_aload_n (x := some i) rfl rfl
theorem w161_65 : ma_W d 161 Q 65 l (.ref i :: st) H 0 0 = ma_gf (H.1 i) 8 15 (ma_kV d 161 Q 68 l st H 0 0) := wp_get rfl (by decide +kernel)
theorem w161_68 : ma_W d 161 Q 68 l st H 0 0 = ma_W d 161 Q 70 l (.int 7 :: st) H 0 0 := wp_bipush rfl (by decide)
theorem w161_70 : ma_W d 161 Q 70 (o0 :: o1 :: some (.int x) :: l) st H 0 0 = ma_W d 161 Q 71 (o0 :: o1 :: some (.int x) :: l) (.int x :: st) H 0 0 := wp_iload_n rfl rfl
theorem w161_71 : ma_W d 161 Q 71 l (.int y :: .int x :: st) H 0 0 = ma_W d 161 Q 72 l (.int (x + y) :: st) H 0 0 := wp_iadd rfl
theorem w161_72 : ma_W d 161 Q 72 l (.int x :: .ref i :: st) H 0 0 = ma_ial (H.1 i) x (ma_kV d 161 Q 73 l st H 0 0) := wp_iald rfl
theorem w161_73 : ma_W d 161 Q 73 l st H 0 0 = ma_W d 161 Q 96 l st H 0 0 := wp_goto 96 rfl (by decide)
theorem w161_76 : ma_W d 161 Q 76 (o0 :: o1 :: some (.int x) :: l) st H 0 0 = ma_W d 161 Q 77 (o0 :: o1 :: some (.int x) :: l) (.int x :: st) H 0 0 := wp_iload_n rfl rfl
theorem w161_77 : ma_W d 161 Q 77 l st H 0 0 = ma_W d 161 Q 78 l (.int 3 :: st) H 0 0 := wp_iconst rfl (by decide)
theorem w161_78 : ma_W d 161 Q 78 l (.int y :: .int x :: st) H 0 0 = ma_if (x = y) d 161 Q 81 90 l st H 0 0 := wp_ic (id := 161) (pc := 78) (c := .ne) (off := 12) 90 rfl (by decide)
theorem w161_81 : ma_W d 161 Q 81 (some (.ref i) :: l) st H 0 0 = ma_W d 161 Q 82 (some (.ref i) :: l) (.ref i :: st) H 0 0 := wp_aload_n (x := some i) rfl rfl
theorem w161_82 : ma_W d 161 Q 82 l (.ref i :: st) H 0 0 = ma_gf (H.1 i) 8 15 (ma_kV d 161 Q 85 l st H 0 0) := wp_get rfl (by decide +kernel)
theorem w161_85 : ma_W d 161 Q 85 l st H 0 0 = ma_W d 161 Q 86 l (.int 2 :: st) H 0 0 := wp_iconst rfl (by decide)
theorem w161_86 : ma_W d 161 Q 86 l (.int x :: .ref i :: st) H 0 0 = ma_ial (H.1 i) x (ma_kV d 161 Q 87 l st H 0 0) := wp_iald rfl
theorem w161_87 : ma_W d 161 Q 87 l st H 0 0 = ma_W d 161 Q 96 l st H 0 0 := wp_goto 96 rfl (by decide)
theorem w161_90 : ma_W d 161 Q 90 (some (.ref i) :: l) st H 0 0 = ma_W d 161 Q 91 (some (.ref i) :: l) (.ref i :: st) H 0 0 := wp_aload_n (x := some i) rfl rfl
theorem w161_91 : ma_W d 161 Q 91 l (.ref i :: st) H 0 0 = ma_gf (H.1 i) 8 15 (ma_kV d 161 Q 94 l st H 0 0) := wp_get rfl (by decide +kernel)
theorem w161_94 : ma_W d 161 Q 94 l st H 0 0 = ma_W d 161 Q 95 l (.int 3 :: st) H 0 0 := wp_iconst rfl (by decide)
theorem w161_95 : ma_W d 161 Q 95 l (.int x :: .ref i :: st) H 0 0 = ma_ial (H.1 i) x (ma_kV d 161 Q 96 l st H 0 0) := wp_iald rfl
theorem w161_96 : ma_W d 161 Q 96 l [.int x] H 0 0 = Q (some (.int x)) H := wp_iret rfl rfl
theorem e161 : ma_MW (d + 1) 161 [.ref i, .int x0, .int x1] H Q = ma_W d 161 Q 0 [some (.ref i), some (.int x0), some (.int x1), none] [] H 0 0 := wp_enter (by decide) (Nat.le_of_ble_eq_true rfl) rfl
/-! 162 mo_lastsOf -/
theorem w162_0 : ma_W d 162 Q 0 l st H 0 0 = ma_W d 162 Q 1 l (.int 0 :: st) H 0 0 := wp_iconst rfl (by decide)
theorem w162_1 : ma_W d 162 Q 1 (o0 :: p :: l) (.int x :: st) H 0 0 = ma_W d 162 Q 2 (ma_clr o0 :: some (.int x) :: l) st H 0 0 := wp_istore_n (id := 162) (pc := 1) (k := 1) rfl (Nat.succ_lt_succ (Nat.zero_lt_succ _))
theorem w162_2 : ma_W d 162 Q 2 (o0 :: some (.int x) :: l) st H 0 0 = ma_W d 162 Q 3 (o0 :: some (.int x) :: l) (.int x :: st) H 0 0 := wp_iload_n rfl rfl
theorem w162_3 : ma_W d 162 Q 3 l st H 0 0 = ma_W d 162 Q 6 l (.int 2000 :: st) H 0 0 := wp_sipush rfl (by decide)
theorem w162_6 : ma_W d 162 Q 6 l (.int y :: .int x :: st) H 0 0 = ma_if (y < x) d 162 Q 42 9 l st H 0 0 := wp_ic (id := 162) (pc := 6) (c := .gt) (off := 36) 42 rfl (by decide)
theorem w162_9 : ma_W d 162 Q 9 (some (.ref i) :: l) st H 0 0 = ma_W d 162 Q 10 (some (.ref i) :: l) (.ref i :: st) H 0 0 := wp_aload_n (x := some i) rfl rfl
theorem w162_10 : ma_W d 162 Q 10 l (.ref i :: st) H 0 0 = ma_gf (H.1 i) 8 15 (ma_kV d 162 Q 13 l st H 0 0) := wp_get rfl (by decide +kernel)
theorem w162_13 : ma_W d 162 Q 13 l (.ref i0 :: st) H 0 0 = (ma_cat st ≤ 8 ∧ ma_MW d 151 [.ref i0] H (ma_kC d 162 Q 16 l st 0 0)) := wc_S0 (ia := 151) (n := 1) (cn := 8) (k := 1) rfl (by decide +kernel) (by decide) (fun _ => rfl) rfl rfl
theorem w162_16 : ma_W d 162 Q 16 l (.int x :: st) H 0 0 = ma_if (x = 0) d 162 Q 21 19 l st H 0 0 := wp_c0 (id := 162) (pc := 16) (c := .eq) (off := 5) 21 rfl (by decide)
theorem w162_19 : ma_W d 162 Q 19 (o0 :: some (.int x) :: l) st H 0 0 = ma_W d 162 Q 20 (o0 :: some (.int x) :: l) (.int x :: st) H 0 0 := wp_iload_n rfl rfl
theorem w162_20 : ma_W d 162 Q 20 l [.int x] H 0 0 = Q (some (.int x)) H := wp_iret rfl rfl
theorem w162_21 : ma_W d 162 Q 21 (o0 :: some (.int x) :: l) st H 0 0 = ma_W d 162 Q 22 (o0 :: some (.int x) :: l) (.int x :: st) H 0 0 := wp_iload_n rfl rfl
theorem w162_22 : ma_W d 162 Q 22 l st H 0 0 = ma_W d 162 Q 25 l (.int 2000 :: st) H 0 0 := wp_sipush rfl (by decide)
theorem w162_25 : ma_W d 162 Q 25 l (.int y :: .int x :: st) H 0 0 = ma_if (y ≤ x) d 162 Q 36 28 l st H 0 0 := wp_ic (id := 162) (pc := 25) (c := .ge) (off := 11) 36 rfl (by decide)
theorem w162_28 : ma_W d 162 Q 28 (some (.ref i) :: l) st H 0 0 = ma_W d 162 Q 29 (some (.ref i) :: l) (.ref i :: st) H 0 0 := wp_aload_n (x := some i) rfl rfl
theorem w162_29 : ma_W d 162 Q 29 (some (.ref i) :: l) st H 0 0 = ma_W d 162 Q 30 (some (.ref i) :: l) (.ref i :: st) H 0 0 := wp_aload_n (x := some i) rfl rfl
theorem w162_30 : ma_W d 162 Q 30 l (.ref i :: st) H 0 0 = ma_gf (H.1 i) 8 15 (ma_kV d 162 Q 33 l st H 0 0) := wp_get rfl (by decide +kernel)
theorem w162_33 : ma_W d 162 Q 33 l (.ref i0 :: .ref i :: st) H 0 0 = (ma_cat st ≤ 8 ∧ ma_cv (H.1 i) 8 d 153 [.ref i, .ref i0] H (ma_kC d 162 Q 36 l st 0 0)) := wc_V0 (ia := 153) (n := 2) (cn := 8) rfl (by decide +kernel) (fun _ => rfl) rfl rfl
theorem w162_36 : ma_W d 162 Q 36 (o0 :: some (.int x) :: l) st H 0 0 = ma_W d 162 Q 39 (ma_clr o0 :: some (.int (x + 1)) :: l) st H 0 0 := wp_iinc (id := 162) (pc := 36) (k := 1) (n := 1) rfl (Nat.succ_lt_succ (Nat.zero_lt_succ _)) rfl (by decide)
theorem w162_39 : ma_W d 162 Q 39 l st H 0 0 = ma_W d 162 Q 2 l st H 0 0 := wp_goto 2 rfl (by decide)
theorem w162_42 : ma_W d 162 Q 42 l st H 0 0 = ma_W d 162 Q 43 l (.int (-1) :: st) H 0 0 := wp_iconst rfl (by decide)
theorem w162_43 : ma_W d 162 Q 43 l [.int x] H 0 0 = Q (some (.int x)) H := wp_iret rfl rfl
theorem e162 : ma_MW (d + 1) 162 [.ref i] H Q = ma_W d 162 Q 0 [some (.ref i), none] [] H 0 0 := wp_enter (by decide) (Nat.le_of_ble_eq_true rfl) rfl
/-! 163 mo_winsOf -/
theorem w163_0 : ma_W d 163 Q 0 (some (.ref i) :: l) st H 0 0 = ma_W d 163 Q 1 (some (.ref i) :: l) (.ref i :: st) H 0 0 := wp_aload_n (x := some i) rfl rfl
theorem w163_1 : ma_W d 163 Q 1 l (.ref i :: st) H 0 0 = (ma_cat st ≤ 8 ∧ ma_cv (H.1 i) 8 d 162 [.ref i] H (ma_kC d 163 Q 4 l st 0 0)) := wc_V0 (ia := 162) (n := 1) (cn := 8) rfl (by decide +kernel) (fun _ => rfl) rfl rfl
theorem w163_4 : ma_W d 163 Q 4 (o0 :: o1 :: p :: l) (.int x :: st) H 0 0 = ma_W d 163 Q 5 (o0 :: ma_clr o1 :: some (.int x) :: l) st H 0 0 := wp_istore_n (id := 163) (pc := 4) (k := 2) rfl (Nat.succ_lt_succ (Nat.succ_lt_succ (Nat.zero_lt_succ _)))
theorem w163_5 : ma_W d 163 Q 5 (o0 :: o1 :: some (.int x) :: l) st H 0 0 = ma_W d 163 Q 6 (o0 :: o1 :: some (.int x) :: l) (.int x :: st) H 0 0 := wp_iload_n rfl rfl
theorem w163_6 : ma_W d 163 Q 6 l st H 0 0 = ma_W d 163 Q 7 l (.int (-1) :: st) H 0 0 := wp_iconst rfl (by decide)
theorem w163_7 : ma_W d 163 Q 7 l (.int y :: .int x :: st) H 0 0 = ma_if (x = y) d 163 Q 26 10 l st H 0 0 := wp_ic (id := 163) (pc := 7) (c := .eq) (off := 19) 26 rfl (by decide)
theorem w163_10 : ma_W d 163 Q 10 (some (.ref i) :: l) st H 0 0 = ma_W d 163 Q 11 (some (.ref i) :: l) (.ref i :: st) H 0 0 := wp_aload_n (x := some i) rfl rfl
theorem w163_11 : ma_W d 163 Q 11 l (.ref i :: st) H 0 0 = ma_gf (H.1 i) 8 15 (ma_kV d 163 Q 14 l st H 0 0) := wp_get rfl (by decide +kernel)
theorem w163_14 : ma_W d 163 Q 14 l st H 0 0 = ma_W d 163 Q 15 l (.int 2 :: st) H 0 0 := wp_iconst rfl (by decide)
theorem w163_15 : ma_W d 163 Q 15 l (.int x :: .ref i :: st) H 0 0 = ma_ial (H.1 i) x (ma_kV d 163 Q 16 l st H 0 0) := wp_iald rfl
theorem w163_16 : ma_W d 163 Q 16 l st H 0 0 = ma_W d 163 Q 17 l (.int 1 :: st) H 0 0 := wp_iconst rfl (by decide)
theorem w163_17 : ma_W d 163 Q 17 (o0 :: some (.int x) :: l) st H 0 0 = ma_W d 163 Q 18 (o0 :: some (.int x) :: l) (.int x :: st) H 0 0 := wp_iload_n rfl rfl
theorem w163_18 : ma_W d 163 Q 18 l (.int y :: .int x :: st) H 0 0 = ma_W d 163 Q 19 l (.int (x - y) :: st) H 0 0 := wp_isub rfl
theorem w163_19 : ma_W d 163 Q 19 l (.int y :: .int x :: st) H 0 0 = ma_if (x = y) d 163 Q 22 26 l st H 0 0 := wp_ic (id := 163) (pc := 19) (c := .ne) (off := 7) 26 rfl (by decide)
theorem w163_22 : ma_W d 163 Q 22 (o0 :: o1 :: some (.int x) :: l) st H 0 0 = ma_W d 163 Q 23 (o0 :: o1 :: some (.int x) :: l) (.int x :: st) H 0 0 := wp_iload_n rfl rfl
theorem w163_23 : ma_W d 163 Q 23 l st H 0 0 = ma_W d 163 Q 27 l st H 0 0 := wp_goto 27 rfl (by decide)
theorem w163_26 : ma_W d 163 Q 26 l st H 0 0 = ma_W d 163 Q 27 l (.int (-1) :: st) H 0 0 := wp_iconst rfl (by decide)
theorem w163_27 : ma_W d 163 Q 27 l [.int x] H 0 0 = Q (some (.int x)) H := wp_iret rfl rfl
theorem e163 : ma_MW (d + 1) 163 [.ref i, .int x0] H Q = ma_W d 163 Q 0 [some (.ref i), some (.int x0), none] [] H 0 0 := wp_enter (by decide) (Nat.le_of_ble_eq_true rfl) rfl
/-! 164 mo_won -/
theorem w164_0 : ma_W d 164 Q 0 (some (.ref i) :: l) st H 0 0 = ma_W d 164 Q 1 (some (.ref i) :: l) (.ref i :: st) H 0 0 := wp_aload_n (x := some i) rfl rfl
theorem w164_1 : ma_W d 164 Q 1 l (.ref i :: st) H 0 0 = (ma_cat st ≤ 8 ∧ ma_cv (H.1 i) 8 d 160 [.ref i] H (ma_kC d 164 Q 4 l st 0 0)) := wc_V0 (ia := 160) (n := 1) (cn := 8) rfl (by decide +kernel) (fun _ => rfl) rfl rfl
theorem w164_4 : ma_W d 164 Q 4 (some (.ref i) :: l) st H 0 0 = ma_W d 164 Q 5 (some (.ref i) :: l) (.ref i :: st) H 0 0 := wp_aload_n (x := some i) rfl rfl
theorem w164_5 : ma_W d 164 Q 5 l (.ref i :: st) H 0 0 = (ma_cat st ≤ 8 ∧ ma_cv (H.1 i) 8 d 162 [.ref i] H (ma_kC d 164 Q 8 l st 0 0)) := wc_V0 (ia := 162) (n := 1) (cn := 8) rfl (by decide +kernel) (fun _ => rfl) rfl rfl
theorem w164_8 : ma_W d 164 Q 8 l st H 0 0 = ma_W d 164 Q 9 l (.int (-1) :: st) H 0 0 := wp_iconst rfl (by decide)
theorem w164_9 : ma_W d 164 Q 9 l (.int y :: .int x :: st) H 0 0 = ma_if (x = y) d 164 Q 12 16 l st H 0 0 := wp_ic (id := 164) (pc := 9) (c := .ne) (off := 7) 16 rfl (by decide)
theorem w164_12 : ma_W d 164 Q 12 l st H 0 0 = ma_W d 164 Q 13 l (.int (-1) :: st) H 0 0 := wp_iconst rfl (by decide)
theorem w164_13 : ma_W d 164 Q 13 l st H 0 0 = ma_W d 164 Q 24 l st H 0 0 := wp_goto 24 rfl (by decide)
theorem w164_16 : ma_W d 164 Q 16 l st H 0 0 = ma_W d 164 Q 17 l (.int 1 :: st) H 0 0 := wp_iconst rfl (by decide)
theorem w164_17 : ma_W d 164 Q 17 (some (.ref i) :: l) st H 0 0 = ma_W d 164 Q 18 (some (.ref i) :: l) (.ref i :: st) H 0 0 := wp_aload_n (x := some i) rfl rfl
theorem w164_18 : ma_W d 164 Q 18 l (.ref i :: st) H 0 0 = ma_gf (H.1 i) 8 15 (ma_kV d 164 Q 21 l st H 0 0) := wp_get rfl (by decide +kernel)
theorem w164_21 : ma_W d 164 Q 21 l st H 0 0 = ma_W d 164 Q 22 l (.int 2 :: st) H 0 0 := wp_iconst rfl (by decide)
theorem w164_22 : ma_W d 164 Q 22 l (.int x :: .ref i :: st) H 0 0 = ma_ial (H.1 i) x (ma_kV d 164 Q 23 l st H 0 0) := wp_iald rfl
theorem w164_23 : ma_W d 164 Q 23 l (.int y :: .int x :: st) H 0 0 = ma_W d 164 Q 24 l (.int (x - y) :: st) H 0 0 := wp_isub rfl
theorem w164_24 : ma_W d 164 Q 24 l [.int x] H 0 0 = Q (some (.int x)) H := wp_iret rfl rfl
theorem e164 : ma_MW (d + 1) 164 [.ref i] H Q = ma_W d 164 Q 0 [some (.ref i)] [] H 0 0 := wp_enter (by decide) (Nat.le_of_ble_eq_true rfl) rfl
/-! 165 mo_lasts -/
theorem w165_0 : ma_W d 165 Q 0 (some (.ref i) :: l) st H 0 0 = ma_W d 165 Q 1 (some (.ref i) :: l) (.ref i :: st) H 0 0 := wp_aload_n (x := some i) rfl rfl
theorem w165_1 : ma_W d 165 Q 1 l (.ref i :: st) H 0 0 = (ma_cat st ≤ 8 ∧ ma_cv (H.1 i) 8 d 160 [.ref i] H (ma_kC d 165 Q 4 l st 0 0)) := wc_V0 (ia := 160) (n := 1) (cn := 8) rfl (by decide +kernel) (fun _ => rfl) rfl rfl
theorem w165_4 : ma_W d 165 Q 4 (some (.ref i) :: l) st H 0 0 = ma_W d 165 Q 5 (some (.ref i) :: l) (.ref i :: st) H 0 0 := wp_aload_n (x := some i) rfl rfl
theorem w165_5 : ma_W d 165 Q 5 l (.ref i :: st) H 0 0 = (ma_cat st ≤ 8 ∧ ma_cv (H.1 i) 8 d 162 [.ref i] H (ma_kC d 165 Q 8 l st 0 0)) := wc_V0 (ia := 162) (n := 1) (cn := 8) rfl (by decide +kernel) (fun _ => rfl) rfl rfl
theorem w165_8 : ma_W d 165 Q 8 l [.int x] H 0 0 = Q (some (.int x)) H := wp_iret rfl rfl
theorem e165 : ma_MW (d + 1) 165 [.ref i] H Q = ma_W d 165 Q 0 [some (.ref i)] [] H 0 0 := wp_enter (by decide) (Nat.le_of_ble_eq_true rfl) rfl
/-! 166 mo_first -/
theorem w166_0 : ma_W d 166 Q 0 (o0 :: some (.int x) :: l) st H 0 0 = ma_W d 166 Q 1 (o0 :: some (.int x) :: l) (.int x :: st) H 0 0 := wp_iload_n rfl rfl
theorem w166_1 : ma_W d 166 Q 1 l st H 0 0 = ma_W d 166 Q 2 l (.int 0 :: st) H 0 0 := wp_iconst rfl (by decide)
theorem w166_2 : ma_W d 166 Q 2 l st H 0 0 = ma_W d 166 Q 3 l (.int 1 :: st) H 0 0 := wp_iconst rfl (by decide)
theorem w166_3 : ma_W d 166 Q 3 l (.int x2 :: .int x1 :: .int x0 :: st) H 0 0 = (ma_cat st ≤ 8 ∧ ma_MW d 125 [.int x0, .int x1, .int x2] H (ma_kC d 166 Q 6 l st 0 0)) := wc_S0 (ia := 125) (n := 3) (cn := 8) (k := 1) rfl (by decide +kernel) (by decide) (fun _ => rfl) rfl rfl
theorem w166_6 : ma_W d 166 Q 6 l (.int x :: st) H 0 0 = ma_if (x = 0) d 166 Q 9 14 l st H 0 0 := wp_c0 (id := 166) (pc := 6) (c := .ne) (off := 8) 14 rfl (by decide)
theorem w166_9 : ma_W d 166 Q 9 (some (.ref i) :: l) st H 0 0 = ma_W d 166 Q 10 (some (.ref i) :: l) (.ref i :: st) H 0 0 := wp_aload_n (x := some i) rfl rfl
theorem w166_10 : ma_W d 166 Q 10 l (.ref i :: st) H 0 0 = (ma_cat st ≤ 8 ∧ ma_cv (H.1 i) 8 d 128 [.ref i] H (ma_kC d 166 Q 13 l st 0 0)) := wc_V0 (ia := 128) (n := 1) (cn := 8) rfl (by decide +kernel) (fun _ => rfl) rfl rfl
theorem w166_13 : ma_W d 166 Q 13 l [.int x] H 0 0 = Q (some (.int x)) H := wp_iret rfl rfl
theorem w166_14 : ma_W d 166 Q 14 (some (.ref i) :: l) st H 0 0 = ma_W d 166 Q 15 (some (.ref i) :: l) (.ref i :: st) H 0 0 := wp_aload_n (x := some i) rfl rfl
theorem w166_15 : ma_W d 166 Q 15 l (.ref i :: st) H 0 0 = (ma_cat st ≤ 8 ∧ ma_cv (H.1 i) 8 d 160 [.ref i] H (ma_kC d 166 Q 18 l st 0 0)) := wc_V0 (ia := 160) (n := 1) (cn := 8) rfl (by decide +kernel) (fun _ => rfl) rfl rfl
theorem w166_18 : ma_W d 166 Q 18 (some (.ref i) :: l) st H 0 0 = ma_W d 166 Q 19 (some (.ref i) :: l) (.ref i :: st) H 0 0 := wp_aload_n (x := some i) rfl rfl
theorem w166_19 : ma_W d 166 Q 19 l (.ref i :: st) H 0 0 = ma_gf (H.1 i) 8 15 (ma_kV d 166 Q 22 l st H 0 0) := wp_get rfl (by decide +kernel)
theorem w166_22 : ma_W d 166 Q 22 l st H 0 0 = ma_W d 166 Q 23 l (.int 5 :: st) H 0 0 := wp_iconst rfl (by decide)
theorem w166_23 : ma_W d 166 Q 23 l (.int x :: .ref i :: st) H 0 0 = ma_ial (H.1 i) x (ma_kV d 166 Q 24 l st H 0 0) := wp_iald rfl
theorem w166_24 : ma_W d 166 Q 24 (o0 :: o1 :: p :: l) (.int x :: st) H 0 0 = ma_W d 166 Q 25 (o0 :: ma_clr o1 :: some (.int x) :: l) st H 0 0 := wp_istore_n (id := 166) (pc := 24) (k := 2) rfl (Nat.succ_lt_succ (Nat.succ_lt_succ (Nat.zero_lt_succ _)))
theorem w166_25 : ma_W d 166 Q 25 (some (.ref i) :: l) st H 0 0 = ma_W d 166 Q 26 (some (.ref i) :: l) (.ref i :: st) H 0 0 := wp_aload_n (x := some i) rfl rfl
theorem w166_26 : ma_W d 166 Q 26 l (.ref i :: st) H 0 0 = ma_gf (H.1 i) 8 15 (ma_kV d 166 Q 29 l st H 0 0) := wp_get rfl (by decide +kernel)
theorem w166_29 : ma_W d 166 Q 29 l st H 0 0 = ma_W d 166 Q 31 l (.int 6 :: st) H 0 0 := wp_bipush rfl (by decide)
theorem w166_31 : ma_W d 166 Q 31 l (.int x :: .ref i :: st) H 0 0 = ma_ial (H.1 i) x (ma_kV d 166 Q 32 l st H 0 0) := wp_iald rfl
theorem w166_32 : ma_W d 166 Q 32 (o0 :: o1 :: o2 :: p :: l) (.int x :: st) H 0 0 = ma_W d 166 Q 33 (o0 :: o1 :: ma_clr o2 :: some (.int x) :: l) st H 0 0 := wp_istore_n (id := 166) (pc := 32) (k := 3) rfl (Nat.succ_lt_succ (Nat.succ_lt_succ (Nat.succ_lt_succ (Nat.zero_lt_succ _))))
theorem w166_33 : ma_W d 166 Q 33 l st H 0 0 = ma_W d 166 Q 34 l (.int 1 :: st) H 0 0 := wp_iconst rfl (by decide)
theorem w166_34 : ma_W d 166 Q 34 (o0 :: o1 :: o2 :: o3 :: p :: l) (.int x :: st) H 0 0 = ma_W d 166 Q 36 (o0 :: o1 :: o2 :: ma_clr o3 :: some (.int x) :: l) st H 0 0 := wp_istore (id := 166) (pc := 34) (k := 4) rfl (Nat.succ_lt_succ (Nat.succ_lt_succ (Nat.succ_lt_succ (Nat.succ_lt_succ (Nat.zero_lt_succ _)))))
theorem w166_36 : ma_W d 166 Q 36 (o0 :: o1 :: o2 :: o3 :: some (.int x) :: l) st H 0 0 = ma_W d 166 Q 38 (o0 :: o1 :: o2 :: o3 :: some (.int x) :: l) (.int x :: st) H 0 0 := wp_iload rfl rfl
theorem w166_38 : ma_W d 166 Q 38 l st H 0 0 = ma_W d 166 Q 41 l (.int 200 :: st) H 0 0 := wp_sipush rfl (by decide)
theorem w166_41 : ma_W d 166 Q 41 l (.int y :: .int x :: st) H 0 0 = ma_if (y < x) d 166 Q 114 44 l st H 0 0 := wp_ic (id := 166) (pc := 41) (c := .gt) (off := 73) 114 rfl (by decide)
theorem w166_44 : ma_W d 166 Q 44 (some (.ref i) :: l) st H 0 0 = ma_W d 166 Q 45 (some (.ref i) :: l) (.ref i :: st) H 0 0 := wp_aload_n (x := some i) rfl rfl
theorem w166_45 : ma_W d 166 Q 45 l (.ref i :: st) H 0 0 = ma_gf (H.1 i) 8 15 (ma_kV d 166 Q 48 l st H 0 0) := wp_get rfl (by decide +kernel)
theorem w166_48 : ma_W d 166 Q 48 l (.ref i0 :: st) H 0 0 = (ma_cat st ≤ 8 ∧ ma_MW d 151 [.ref i0] H (ma_kC d 166 Q 51 l st 0 0)) := wc_S0 (ia := 151) (n := 1) (cn := 8) (k := 1) rfl (by decide +kernel) (by decide) (fun _ => rfl) rfl rfl
theorem w166_51 : ma_W d 166 Q 51 l (.int x :: st) H 0 0 = ma_if (x = 0) d 166 Q 54 114 l st H 0 0 := wp_c0 (id := 166) (pc := 51) (c := .ne) (off := 63) 114 rfl (by decide)
theorem w166_54 : ma_W d 166 Q 54 (some (.ref i) :: l) st H 0 0 = ma_W d 166 Q 55 (some (.ref i) :: l) (.ref i :: st) H 0 0 := wp_aload_n (x := some i) rfl rfl
theorem w166_55 : ma_W d 166 Q 55 (some (.ref i) :: l) st H 0 0 = ma_W d 166 Q 56 (some (.ref i) :: l) (.ref i :: st) H 0 0 := wp_aload_n (x := some i) rfl rfl
theorem w166_56 : ma_W d 166 Q 56 l (.ref i :: st) H 0 0 = ma_gf (H.1 i) 8 15 (ma_kV d 166 Q 59 l st H 0 0) := wp_get rfl (by decide +kernel)
theorem w166_59 : ma_W d 166 Q 59 l (.ref i0 :: .ref i :: st) H 0 0 = (ma_cat st ≤ 8 ∧ ma_cv (H.1 i) 8 d 153 [.ref i, .ref i0] H (ma_kC d 166 Q 62 l st 0 0)) := wc_V0 (ia := 153) (n := 2) (cn := 8) rfl (by decide +kernel) (fun _ => rfl) rfl rfl
theorem w166_62 : ma_W d 166 Q 62 (some (.ref i) :: l) st H 0 0 = ma_W d 166 Q 63 (some (.ref i) :: l) (.ref i :: st) H 0 0 := wp_aload_n (x := some i) rfl rfl
theorem w166_63 : ma_W d 166 Q 63 l (.ref i :: st) H 0 0 = ma_gf (H.1 i) 8 15 (ma_kV d 166 Q 66 l st H 0 0) := wp_get rfl (by decide +kernel)
theorem w166_66 : ma_W d 166 Q 66 l st H 0 0 = ma_W d 166 Q 67 l (.int 5 :: st) H 0 0 := wp_iconst rfl (by decide)
theorem w166_67 : ma_W d 166 Q 67 l (.int x :: .ref i :: st) H 0 0 = ma_ial (H.1 i) x (ma_kV d 166 Q 68 l st H 0 0) := wp_iald rfl
theorem w166_68 : ma_W d 166 Q 68 (o0 :: o1 :: some (.int x) :: l) st H 0 0 = ma_W d 166 Q 69 (o0 :: o1 :: some (.int x) :: l) (.int x :: st) H 0 0 := wp_iload_n rfl rfl
theorem w166_69 : ma_W d 166 Q 69 l (.int y :: .int x :: st) H 0 0 = ma_if (y < x) d 166 Q 83 72 l st H 0 0 := wp_ic (id := 166) (pc := 69) (c := .gt) (off := 14) 83 rfl (by decide)
theorem w166_72 : ma_W d 166 Q 72 (some (.ref i) :: l) st H 0 0 = ma_W d 166 Q 73 (some (.ref i) :: l) (.ref i :: st) H 0 0 := wp_aload_n (x := some i) rfl rfl
theorem w166_73 : ma_W d 166 Q 73 l (.ref i :: st) H 0 0 = ma_gf (H.1 i) 8 15 (ma_kV d 166 Q 76 l st H 0 0) := wp_get rfl (by decide +kernel)
theorem w166_76 : ma_W d 166 Q 76 l st H 0 0 = ma_W d 166 Q 78 l (.int 6 :: st) H 0 0 := wp_bipush rfl (by decide)
theorem w166_78 : ma_W d 166 Q 78 l (.int x :: .ref i :: st) H 0 0 = ma_ial (H.1 i) x (ma_kV d 166 Q 79 l st H 0 0) := wp_iald rfl
theorem w166_79 : ma_W d 166 Q 79 (o0 :: o1 :: o2 :: some (.int x) :: l) st H 0 0 = ma_W d 166 Q 80 (o0 :: o1 :: o2 :: some (.int x) :: l) (.int x :: st) H 0 0 := wp_iload_n rfl rfl
theorem w166_80 : ma_W d 166 Q 80 l (.int y :: .int x :: st) H 0 0 = ma_if (x ≤ y) d 166 Q 108 83 l st H 0 0 := wp_ic (id := 166) (pc := 80) (c := .le) (off := 28) 108 rfl (by decide)
theorem w166_83 : ma_W d 166 Q 83 (o0 :: some (.int x) :: l) st H 0 0 = ma_W d 166 Q 84 (o0 :: some (.int x) :: l) (.int x :: st) H 0 0 := wp_iload_n rfl rfl
theorem w166_84 : ma_W d 166 Q 84 l (.int x :: st) H 0 0 = ma_if (x = 0) d 166 Q 87 92 l st H 0 0 := wp_c0 (id := 166) (pc := 84) (c := .ne) (off := 8) 92 rfl (by decide)
theorem w166_87 : ma_W d 166 Q 87 (o0 :: o1 :: o2 :: o3 :: some (.int x) :: l) st H 0 0 = ma_W d 166 Q 89 (o0 :: o1 :: o2 :: o3 :: some (.int x) :: l) (.int x :: st) H 0 0 := wp_iload rfl rfl
theorem w166_89 : ma_W d 166 Q 89 l st H 0 0 = ma_W d 166 Q 107 l st H 0 0 := wp_goto 107 rfl (by decide)
theorem w166_92 : ma_W d 166 Q 92 (some (.ref i) :: l) st H 0 0 = ma_W d 166 Q 93 (some (.ref i) :: l) (.ref i :: st) H 0 0 := wp_aload_n (x := some i) rfl rfl
theorem w166_93 : ma_W d 166 Q 93 l (.ref i :: st) H 0 0 = ma_gf (H.1 i) 8 15 (ma_kV d 166 Q 96 l st H 0 0) := wp_get rfl (by decide +kernel)
theorem w166_96 : ma_W d 166 Q 96 l st H 0 0 = ma_W d 166 Q 97 l (.int 5 :: st) H 0 0 := wp_iconst rfl (by decide)
theorem w166_97 : ma_W d 166 Q 97 l (.int x :: .ref i :: st) H 0 0 = ma_ial (H.1 i) x (ma_kV d 166 Q 98 l st H 0 0) := wp_iald rfl
theorem w166_98 : ma_W d 166 Q 98 (o0 :: o1 :: some (.int x) :: l) st H 0 0 = ma_W d 166 Q 99 (o0 :: o1 :: some (.int x) :: l) (.int x :: st) H 0 0 := wp_iload_n rfl rfl
theorem w166_99 : ma_W d 166 Q 99 l (.int y :: .int x :: st) H 0 0 = ma_if (x ≤ y) d 166 Q 106 102 l st H 0 0 := wp_ic (id := 166) (pc := 99) (c := .le) (off := 7) 106 rfl (by decide)
theorem w166_102 : ma_W d 166 Q 102 l st H 0 0 = ma_W d 166 Q 103 l (.int 0 :: st) H 0 0 := wp_iconst rfl (by decide)
theorem w166_103 : ma_W d 166 Q 103 l st H 0 0 = ma_W d 166 Q 107 l st H 0 0 := wp_goto 107 rfl (by decide)
theorem w166_106 : ma_W d 166 Q 106 l st H 0 0 = ma_W d 166 Q 107 l (.int 1 :: st) H 0 0 := wp_iconst rfl (by decide)
theorem w166_107 : ma_W d 166 Q 107 l [.int x] H 0 0 = Q (some (.int x)) H := wp_iret rfl rfl
theorem w166_108 : ma_W d 166 Q 108 (o0 :: o1 :: o2 :: o3 :: some (.int x) :: l) st H 0 0 = ma_W d 166 Q 111 (o0 :: o1 :: o2 :: ma_clr o3 :: some (.int (x + 1)) :: l) st H 0 0 := wp_iinc (id := 166) (pc := 108) (k := 4) (n := 1) rfl (Nat.succ_lt_succ (Nat.succ_lt_succ (Nat.succ_lt_succ (Nat.succ_lt_succ (Nat.zero_lt_succ _))))) rfl (by decide)
theorem w166_111 : ma_W d 166 Q 111 l st H 0 0 = ma_W d 166 Q 36 l st H 0 0 := wp_goto 36 rfl (by decide)
theorem w166_114 : ma_W d 166 Q 114 l st H 0 0 = ma_W d 166 Q 115 l (.int (-1) :: st) H 0 0 := wp_iconst rfl (by decide)
theorem w166_115 : ma_W d 166 Q 115 l [.int x] H 0 0 = Q (some (.int x)) H := wp_iret rfl rfl
theorem e166 : ma_MW (d + 1) 166 [.ref i, .int x0] H Q = ma_W d 166 Q 0 [some (.ref i), some (.int x0), none, none, none] [] H 0 0 := wp_enter (by decide) (Nat.le_of_ble_eq_true rfl) rfl
/-! 167 mo_isAsNow -/
theorem w167_0 : ma_W d 167 Q 0 (some (.ref i) :: l) st H 0 0 = ma_W d 167 Q 1 (some (.ref i) :: l) (.ref i :: st) H 0 0 := wp_aload_n (x := some i) rfl rfl
theorem w167_1 : ma_W d 167 Q 1 l (.ref i :: st) H 0 0 = ma_gf (H.1 i) 8 15 (ma_kV d 167 Q 4 l st H 0 0) := wp_get rfl (by decide +kernel)
theorem w167_4 : ma_W d 167 Q 4 l st H 0 0 = ma_W d 167 Q 5 l (.int 2 :: st) H 0 0 := wp_iconst rfl (by decide)
theorem w167_5 : ma_W d 167 Q 5 l (.int x :: .ref i :: st) H 0 0 = ma_ial (H.1 i) x (ma_kV d 167 Q 6 l st H 0 0) := wp_iald rfl
theorem w167_6 : ma_W d 167 Q 6 (some (.ref i) :: l) st H 0 0 = ma_W d 167 Q 7 (some (.ref i) :: l) (.ref i :: st) H 0 0 := wp_aload_n (x := some i) rfl rfl
theorem w167_7 : ma_W d 167 Q 7 l (.ref i :: st) H 0 0 = ma_gf (H.1 i) 8 0 (ma_kV d 167 Q 10 l st H 0 0) := wp_get rfl (by decide +kernel)
theorem w167_10 : ma_W d 167 Q 10 l st H 0 0 = ma_W d 167 Q 11 l (.int 2 :: st) H 0 0 := wp_iconst rfl (by decide)
theorem w167_11 : ma_W d 167 Q 11 l (.int x :: .ref i :: st) H 0 0 = ma_ial (H.1 i) x (ma_kV d 167 Q 12 l st H 0 0) := wp_iald rfl
theorem w167_12 : ma_W d 167 Q 12 l (.int y :: .int x :: st) H 0 0 = ma_if (x = y) d 167 Q 15 34 l st H 0 0 := wp_ic (id := 167) (pc := 12) (c := .ne) (off := 22) 34 rfl (by decide)
theorem w167_15 : ma_W d 167 Q 15 (some (.ref i) :: l) st H 0 0 = ma_W d 167 Q 16 (some (.ref i) :: l) (.ref i :: st) H 0 0 := wp_aload_n (x := some i) rfl rfl
theorem w167_16 : ma_W d 167 Q 16 l (.ref i :: st) H 0 0 = ma_gf (H.1 i) 8 15 (ma_kV d 167 Q 19 l st H 0 0) := wp_get rfl (by decide +kernel)
theorem w167_19 : ma_W d 167 Q 19 l st H 0 0 = ma_W d 167 Q 20 l (.int 3 :: st) H 0 0 := wp_iconst rfl (by decide)
theorem w167_20 : ma_W d 167 Q 20 l (.int x :: .ref i :: st) H 0 0 = ma_ial (H.1 i) x (ma_kV d 167 Q 21 l st H 0 0) := wp_iald rfl
theorem w167_21 : ma_W d 167 Q 21 (some (.ref i) :: l) st H 0 0 = ma_W d 167 Q 22 (some (.ref i) :: l) (.ref i :: st) H 0 0 := wp_aload_n (x := some i) rfl rfl
theorem w167_22 : ma_W d 167 Q 22 l (.ref i :: st) H 0 0 = ma_gf (H.1 i) 8 0 (ma_kV d 167 Q 25 l st H 0 0) := wp_get rfl (by decide +kernel)
theorem w167_25 : ma_W d 167 Q 25 l st H 0 0 = ma_W d 167 Q 26 l (.int 3 :: st) H 0 0 := wp_iconst rfl (by decide)
theorem w167_26 : ma_W d 167 Q 26 l (.int x :: .ref i :: st) H 0 0 = ma_ial (H.1 i) x (ma_kV d 167 Q 27 l st H 0 0) := wp_iald rfl
theorem w167_27 : ma_W d 167 Q 27 l (.int y :: .int x :: st) H 0 0 = ma_if (x = y) d 167 Q 30 34 l st H 0 0 := wp_ic (id := 167) (pc := 27) (c := .ne) (off := 7) 34 rfl (by decide)
theorem w167_30 : ma_W d 167 Q 30 l st H 0 0 = ma_W d 167 Q 31 l (.int 1 :: st) H 0 0 := wp_iconst rfl (by decide)
theorem w167_31 : ma_W d 167 Q 31 l st H 0 0 = ma_W d 167 Q 35 l st H 0 0 := wp_goto 35 rfl (by decide)
theorem w167_34 : ma_W d 167 Q 34 l st H 0 0 = ma_W d 167 Q 35 l (.int 0 :: st) H 0 0 := wp_iconst rfl (by decide)
theorem w167_35 : ma_W d 167 Q 35 (o0 :: p :: l) (.int x :: st) H 0 0 = ma_W d 167 Q 36 (ma_clr o0 :: some (.int x) :: l) st H 0 0 := wp_istore_n (id := 167) (pc := 35) (k := 1) rfl (Nat.succ_lt_succ (Nat.zero_lt_succ _))
theorem w167_36 : ma_W d 167 Q 36 l st H 0 0 = ma_W d 167 Q 37 l (.int 0 :: st) H 0 0 := wp_iconst rfl (by decide)
theorem w167_37 : ma_W d 167 Q 37 (o0 :: o1 :: p :: l) (.int x :: st) H 0 0 = ma_W d 167 Q 38 (o0 :: ma_clr o1 :: some (.int x) :: l) st H 0 0 := wp_istore_n (id := 167) (pc := 37) (k := 2) rfl (Nat.succ_lt_succ (Nat.succ_lt_succ (Nat.zero_lt_succ _)))
theorem w167_38 : ma_W d 167 Q 38 (o0 :: o1 :: some (.int x) :: l) st H 0 0 = ma_W d 167 Q 39 (o0 :: o1 :: some (.int x) :: l) (.int x :: st) H 0 0 := wp_iload_n rfl rfl
theorem w167_39 : ma_W d 167 Q 39 l st H 0 0 = ma_W d 167 Q 40 l (.int 3 :: st) H 0 0 := wp_iconst rfl (by decide)
theorem w167_40 : ma_W d 167 Q 40 l (.int y :: .int x :: st) H 0 0 = ma_if (y ≤ x) d 167 Q 142 43 l st H 0 0 := wp_ic (id := 167) (pc := 40) (c := .ge) (off := 102) 142 rfl (by decide)
theorem w167_43 : ma_W d 167 Q 43 (o0 :: some (.int x) :: l) st H 0 0 = ma_W d 167 Q 44 (o0 :: some (.int x) :: l) (.int x :: st) H 0 0 := wp_iload_n rfl rfl
theorem w167_44 : ma_W d 167 Q 44 l (.int x :: st) H 0 0 = ma_if (x = 0) d 167 Q 72 47 l st H 0 0 := wp_c0 (id := 167) (pc := 44) (c := .eq) (off := 28) 72 rfl (by decide)
theorem w167_47 : ma_W d 167 Q 47 (some (.ref i) :: l) st H 0 0 = ma_W d 167 Q 48 (some (.ref i) :: l) (.ref i :: st) H 0 0 := wp_aload_n (x := some i) rfl rfl
theorem w167_48 : ma_W d 167 Q 48 l (.ref i :: st) H 0 0 = ma_gf (H.1 i) 8 15 (ma_kV d 167 Q 51 l st H 0 0) := wp_get rfl (by decide +kernel)
theorem w167_51 : ma_W d 167 Q 51 l st H 0 0 = ma_W d 167 Q 53 l (.int 7 :: st) H 0 0 := wp_bipush rfl (by decide)
theorem w167_53 : ma_W d 167 Q 53 (o0 :: o1 :: some (.int x) :: l) st H 0 0 = ma_W d 167 Q 54 (o0 :: o1 :: some (.int x) :: l) (.int x :: st) H 0 0 := wp_iload_n rfl rfl
theorem w167_54 : ma_W d 167 Q 54 l (.int y :: .int x :: st) H 0 0 = ma_W d 167 Q 55 l (.int (x + y) :: st) H 0 0 := wp_iadd rfl
theorem w167_55 : ma_W d 167 Q 55 l (.int x :: .ref i :: st) H 0 0 = ma_ial (H.1 i) x (ma_kV d 167 Q 56 l st H 0 0) := wp_iald rfl
theorem w167_56 : ma_W d 167 Q 56 (some (.ref i) :: l) st H 0 0 = ma_W d 167 Q 57 (some (.ref i) :: l) (.ref i :: st) H 0 0 := wp_aload_n (x := some i) rfl rfl
theorem w167_57 : ma_W d 167 Q 57 l (.ref i :: st) H 0 0 = ma_gf (H.1 i) 8 0 (ma_kV d 167 Q 60 l st H 0 0) := wp_get rfl (by decide +kernel)
theorem w167_60 : ma_W d 167 Q 60 l st H 0 0 = ma_W d 167 Q 62 l (.int 7 :: st) H 0 0 := wp_bipush rfl (by decide)
theorem w167_62 : ma_W d 167 Q 62 (o0 :: o1 :: some (.int x) :: l) st H 0 0 = ma_W d 167 Q 63 (o0 :: o1 :: some (.int x) :: l) (.int x :: st) H 0 0 := wp_iload_n rfl rfl
theorem w167_63 : ma_W d 167 Q 63 l (.int y :: .int x :: st) H 0 0 = ma_W d 167 Q 64 l (.int (x + y) :: st) H 0 0 := wp_iadd rfl
theorem w167_64 : ma_W d 167 Q 64 l (.int x :: .ref i :: st) H 0 0 = ma_ial (H.1 i) x (ma_kV d 167 Q 65 l st H 0 0) := wp_iald rfl
theorem w167_65 : ma_W d 167 Q 65 l (.int y :: .int x :: st) H 0 0 = ma_if (x = y) d 167 Q 68 72 l st H 0 0 := wp_ic (id := 167) (pc := 65) (c := .ne) (off := 7) 72 rfl (by decide)
theorem w167_68 : ma_W d 167 Q 68 l st H 0 0 = ma_W d 167 Q 69 l (.int 1 :: st) H 0 0 := wp_iconst rfl (by decide)
theorem w167_69 : ma_W d 167 Q 69 l st H 0 0 = ma_W d 167 Q 73 l st H 0 0 := wp_goto 73 rfl (by decide)
theorem w167_72 : ma_W d 167 Q 72 l st H 0 0 = ma_W d 167 Q 73 l (.int 0 :: st) H 0 0 := wp_iconst rfl (by decide)
theorem w167_73 : ma_W d 167 Q 73 (o0 :: p :: l) (.int x :: st) H 0 0 = ma_W d 167 Q 74 (ma_clr o0 :: some (.int x) :: l) st H 0 0 := wp_istore_n (id := 167) (pc := 73) (k := 1) rfl (Nat.succ_lt_succ (Nat.zero_lt_succ _))
theorem w167_74 : ma_W d 167 Q 74 l st H 0 0 = ma_W d 167 Q 75 l (.int 0 :: st) H 0 0 := wp_iconst rfl (by decide)
theorem w167_75 : ma_W d 167 Q 75 (o0 :: o1 :: o2 :: p :: l) (.int x :: st) H 0 0 = ma_W d 167 Q 76 (o0 :: o1 :: ma_clr o2 :: some (.int x) :: l) st H 0 0 := wp_istore_n (id := 167) (pc := 75) (k := 3) rfl (Nat.succ_lt_succ (Nat.succ_lt_succ (Nat.succ_lt_succ (Nat.zero_lt_succ _))))
theorem w167_76 : ma_W d 167 Q 76 (o0 :: o1 :: o2 :: some (.int x) :: l) st H 0 0 = ma_W d 167 Q 77 (o0 :: o1 :: o2 :: some (.int x) :: l) (.int x :: st) H 0 0 := wp_iload_n rfl rfl
theorem w167_77 : ma_W d 167 Q 77 (some (.ref i) :: l) st H 0 0 = ma_W d 167 Q 78 (some (.ref i) :: l) (.ref i :: st) H 0 0 := wp_aload_n (x := some i) rfl rfl
theorem w167_78 : ma_W d 167 Q 78 l (.ref i :: st) H 0 0 = ma_gf (H.1 i) 8 0 (ma_kV d 167 Q 81 l st H 0 0) := wp_get rfl (by decide +kernel)
theorem w167_81 : ma_W d 167 Q 81 l st H 0 0 = ma_W d 167 Q 83 l (.int 7 :: st) H 0 0 := wp_bipush rfl (by decide)
theorem w167_83 : ma_W d 167 Q 83 (o0 :: o1 :: some (.int x) :: l) st H 0 0 = ma_W d 167 Q 84 (o0 :: o1 :: some (.int x) :: l) (.int x :: st) H 0 0 := wp_iload_n rfl rfl
theorem w167_84 : ma_W d 167 Q 84 l (.int y :: .int x :: st) H 0 0 = ma_W d 167 Q 85 l (.int (x + y) :: st) H 0 0 := wp_iadd rfl
theorem w167_85 : ma_W d 167 Q 85 l (.int x :: .ref i :: st) H 0 0 = ma_ial (H.1 i) x (ma_kV d 167 Q 86 l st H 0 0) := wp_iald rfl
theorem w167_86 : ma_W d 167 Q 86 l (.int y :: .int x :: st) H 0 0 = ma_if (y ≤ x) d 167 Q 136 89 l st H 0 0 := wp_ic (id := 167) (pc := 86) (c := .ge) (off := 50) 136 rfl (by decide)
theorem w167_89 : ma_W d 167 Q 89 (o0 :: some (.int x) :: l) st H 0 0 = ma_W d 167 Q 90 (o0 :: some (.int x) :: l) (.int x :: st) H 0 0 := wp_iload_n rfl rfl
theorem w167_90 : ma_W d 167 Q 90 l (.int x :: st) H 0 0 = ma_if (x = 0) d 167 Q 136 93 l st H 0 0 := wp_c0 (id := 167) (pc := 90) (c := .eq) (off := 46) 136 rfl (by decide)
theorem w167_93 : ma_W d 167 Q 93 (some (.ref i) :: l) st H 0 0 = ma_W d 167 Q 94 (some (.ref i) :: l) (.ref i :: st) H 0 0 := wp_aload_n (x := some i) rfl rfl
theorem w167_94 : ma_W d 167 Q 94 l (.ref i :: st) H 0 0 = ma_gf (H.1 i) 8 15 (ma_kV d 167 Q 97 l st H 0 0) := wp_get rfl (by decide +kernel)
theorem w167_97 : ma_W d 167 Q 97 l st H 0 0 = ma_W d 167 Q 99 l (.int 10 :: st) H 0 0 := wp_bipush rfl (by decide)
theorem w167_99 : ma_W d 167 Q 99 l st H 0 0 = ma_W d 167 Q 101 l (.int 16 :: st) H 0 0 := wp_bipush rfl (by decide)
theorem w167_101 : ma_W d 167 Q 101 (o0 :: o1 :: some (.int x) :: l) st H 0 0 = ma_W d 167 Q 102 (o0 :: o1 :: some (.int x) :: l) (.int x :: st) H 0 0 := wp_iload_n rfl rfl
theorem w167_102 : ma_W d 167 Q 102 l (.int y :: .int x :: st) H 0 0 = ma_W d 167 Q 103 l (.int (x * y) :: st) H 0 0 := wp_imul rfl
theorem w167_103 : ma_W d 167 Q 103 l (.int y :: .int x :: st) H 0 0 = ma_W d 167 Q 104 l (.int (x + y) :: st) H 0 0 := wp_iadd rfl
theorem w167_104 : ma_W d 167 Q 104 (o0 :: o1 :: o2 :: some (.int x) :: l) st H 0 0 = ma_W d 167 Q 105 (o0 :: o1 :: o2 :: some (.int x) :: l) (.int x :: st) H 0 0 := wp_iload_n rfl rfl
theorem w167_105 : ma_W d 167 Q 105 l (.int y :: .int x :: st) H 0 0 = ma_W d 167 Q 106 l (.int (x + y) :: st) H 0 0 := wp_iadd rfl
theorem w167_106 : ma_W d 167 Q 106 l (.int x :: .ref i :: st) H 0 0 = ma_ial (H.1 i) x (ma_kV d 167 Q 107 l st H 0 0) := wp_iald rfl
theorem w167_107 : ma_W d 167 Q 107 (some (.ref i) :: l) st H 0 0 = ma_W d 167 Q 108 (some (.ref i) :: l) (.ref i :: st) H 0 0 := wp_aload_n (x := some i) rfl rfl
theorem w167_108 : ma_W d 167 Q 108 l (.ref i :: st) H 0 0 = ma_gf (H.1 i) 8 0 (ma_kV d 167 Q 111 l st H 0 0) := wp_get rfl (by decide +kernel)
theorem w167_111 : ma_W d 167 Q 111 l st H 0 0 = ma_W d 167 Q 113 l (.int 10 :: st) H 0 0 := wp_bipush rfl (by decide)
theorem w167_113 : ma_W d 167 Q 113 l st H 0 0 = ma_W d 167 Q 115 l (.int 16 :: st) H 0 0 := wp_bipush rfl (by decide)
theorem w167_115 : ma_W d 167 Q 115 (o0 :: o1 :: some (.int x) :: l) st H 0 0 = ma_W d 167 Q 116 (o0 :: o1 :: some (.int x) :: l) (.int x :: st) H 0 0 := wp_iload_n rfl rfl
theorem w167_116 : ma_W d 167 Q 116 l (.int y :: .int x :: st) H 0 0 = ma_W d 167 Q 117 l (.int (x * y) :: st) H 0 0 := wp_imul rfl
theorem w167_117 : ma_W d 167 Q 117 l (.int y :: .int x :: st) H 0 0 = ma_W d 167 Q 118 l (.int (x + y) :: st) H 0 0 := wp_iadd rfl
theorem w167_118 : ma_W d 167 Q 118 (o0 :: o1 :: o2 :: some (.int x) :: l) st H 0 0 = ma_W d 167 Q 119 (o0 :: o1 :: o2 :: some (.int x) :: l) (.int x :: st) H 0 0 := wp_iload_n rfl rfl
theorem w167_119 : ma_W d 167 Q 119 l (.int y :: .int x :: st) H 0 0 = ma_W d 167 Q 120 l (.int (x + y) :: st) H 0 0 := wp_iadd rfl
theorem w167_120 : ma_W d 167 Q 120 l (.int x :: .ref i :: st) H 0 0 = ma_ial (H.1 i) x (ma_kV d 167 Q 121 l st H 0 0) := wp_iald rfl
theorem w167_121 : ma_W d 167 Q 121 l (.int y :: .int x :: st) H 0 0 = ma_if (x = y) d 167 Q 124 128 l st H 0 0 := wp_ic (id := 167) (pc := 121) (c := .ne) (off := 7) 128 rfl (by decide)
theorem w167_124 : ma_W d 167 Q 124 l st H 0 0 = ma_W d 167 Q 125 l (.int 1 :: st) H 0 0 := wp_iconst rfl (by decide)
theorem w167_125 : ma_W d 167 Q 125 l st H 0 0 = ma_W d 167 Q 129 l st H 0 0 := wp_goto 129 rfl (by decide)
theorem w167_128 : ma_W d 167 Q 128 l st H 0 0 = ma_W d 167 Q 129 l (.int 0 :: st) H 0 0 := wp_iconst rfl (by decide)
theorem w167_129 : ma_W d 167 Q 129 (o0 :: p :: l) (.int x :: st) H 0 0 = ma_W d 167 Q 130 (ma_clr o0 :: some (.int x) :: l) st H 0 0 := wp_istore_n (id := 167) (pc := 129) (k := 1) rfl (Nat.succ_lt_succ (Nat.zero_lt_succ _))
theorem w167_130 : ma_W d 167 Q 130 (o0 :: o1 :: o2 :: some (.int x) :: l) st H 0 0 = ma_W d 167 Q 133 (o0 :: o1 :: ma_clr o2 :: some (.int (x + 1)) :: l) st H 0 0 := wp_iinc (id := 167) (pc := 130) (k := 3) (n := 1) rfl (Nat.succ_lt_succ (Nat.succ_lt_succ (Nat.succ_lt_succ (Nat.zero_lt_succ _)))) rfl (by decide)
theorem w167_133 : ma_W d 167 Q 133 l st H 0 0 = ma_W d 167 Q 76 l st H 0 0 := wp_goto 76 rfl (by decide)
theorem w167_136 : ma_W d 167 Q 136 (o0 :: o1 :: some (.int x) :: l) st H 0 0 = ma_W d 167 Q 139 (o0 :: ma_clr o1 :: some (.int (x + 1)) :: l) st H 0 0 := wp_iinc (id := 167) (pc := 136) (k := 2) (n := 1) rfl (Nat.succ_lt_succ (Nat.succ_lt_succ (Nat.zero_lt_succ _))) rfl (by decide)
theorem w167_139 : ma_W d 167 Q 139 l st H 0 0 = ma_W d 167 Q 38 l st H 0 0 := wp_goto 38 rfl (by decide)
theorem w167_142 : ma_W d 167 Q 142 (o0 :: some (.int x) :: l) st H 0 0 = ma_W d 167 Q 143 (o0 :: some (.int x) :: l) (.int x :: st) H 0 0 := wp_iload_n rfl rfl
theorem w167_143 : ma_W d 167 Q 143 l [.int x] H 0 0 = ((x = 0 ∨ x = 1) ∧ Q (some (.int x)) H) := wp_zret rfl rfl
theorem e167 : ma_MW (d + 1) 167 [.ref i] H Q = ma_W d 167 Q 0 [some (.ref i), none, none, none] [] H 0 0 := wp_enter (by decide) (Nat.le_of_ble_eq_true rfl) rfl
/-! 168 mo_again -/
theorem w168_0 : ma_W d 168 Q 0 (some (.ref i) :: l) st H 0 0 = ma_W d 168 Q 1 (some (.ref i) :: l) (.ref i :: st) H 0 0 := wp_aload_n (x := some i) rfl rfl
theorem w168_1 : ma_W d 168 Q 1 l (.ref i :: st) H 0 0 = (ma_cat st ≤ 8 ∧ ma_cv (H.1 i) 8 d 160 [.ref i] H (ma_kC d 168 Q 4 l st 0 0)) := wc_V0 (ia := 160) (n := 1) (cn := 8) rfl (by decide +kernel) (fun _ => rfl) rfl rfl
theorem w168_4 : ma_W d 168 Q 4 l st H 0 0 = ma_W d 168 Q 5 l (.int 1 :: st) H 0 0 := wp_iconst rfl (by decide)
theorem w168_5 : ma_W d 168 Q 5 (o0 :: p :: l) (.int x :: st) H 0 0 = ma_W d 168 Q 6 (ma_clr o0 :: some (.int x) :: l) st H 0 0 := wp_istore_n (id := 168) (pc := 5) (k := 1) rfl (Nat.succ_lt_succ (Nat.zero_lt_succ _))
theorem w168_6 : ma_W d 168 Q 6 (o0 :: some (.int x) :: l) st H 0 0 = ma_W d 168 Q 7 (o0 :: some (.int x) :: l) (.int x :: st) H 0 0 := wp_iload_n rfl rfl
theorem w168_7 : ma_W d 168 Q 7 l st H 0 0 = ma_W d 168 Q 10 l (.int 500 :: st) H 0 0 := wp_sipush rfl (by decide)
theorem w168_10 : ma_W d 168 Q 10 l (.int y :: .int x :: st) H 0 0 = ma_if (y < x) d 168 Q 46 13 l st H 0 0 := wp_ic (id := 168) (pc := 10) (c := .gt) (off := 36) 46 rfl (by decide)
theorem w168_13 : ma_W d 168 Q 13 (some (.ref i) :: l) st H 0 0 = ma_W d 168 Q 14 (some (.ref i) :: l) (.ref i :: st) H 0 0 := wp_aload_n (x := some i) rfl rfl
theorem w168_14 : ma_W d 168 Q 14 l (.ref i :: st) H 0 0 = ma_gf (H.1 i) 8 15 (ma_kV d 168 Q 17 l st H 0 0) := wp_get rfl (by decide +kernel)
theorem w168_17 : ma_W d 168 Q 17 l (.ref i0 :: st) H 0 0 = (ma_cat st ≤ 8 ∧ ma_MW d 151 [.ref i0] H (ma_kC d 168 Q 20 l st 0 0)) := wc_S0 (ia := 151) (n := 1) (cn := 8) (k := 1) rfl (by decide +kernel) (by decide) (fun _ => rfl) rfl rfl
theorem w168_20 : ma_W d 168 Q 20 l (.int x :: st) H 0 0 = ma_if (x = 0) d 168 Q 23 46 l st H 0 0 := wp_c0 (id := 168) (pc := 20) (c := .ne) (off := 26) 46 rfl (by decide)
theorem w168_23 : ma_W d 168 Q 23 (some (.ref i) :: l) st H 0 0 = ma_W d 168 Q 24 (some (.ref i) :: l) (.ref i :: st) H 0 0 := wp_aload_n (x := some i) rfl rfl
theorem w168_24 : ma_W d 168 Q 24 (some (.ref i) :: l) st H 0 0 = ma_W d 168 Q 25 (some (.ref i) :: l) (.ref i :: st) H 0 0 := wp_aload_n (x := some i) rfl rfl
theorem w168_25 : ma_W d 168 Q 25 l (.ref i :: st) H 0 0 = ma_gf (H.1 i) 8 15 (ma_kV d 168 Q 28 l st H 0 0) := wp_get rfl (by decide +kernel)
theorem w168_28 : ma_W d 168 Q 28 l (.ref i0 :: .ref i :: st) H 0 0 = (ma_cat st ≤ 8 ∧ ma_cv (H.1 i) 8 d 153 [.ref i, .ref i0] H (ma_kC d 168 Q 31 l st 0 0)) := wc_V0 (ia := 153) (n := 2) (cn := 8) rfl (by decide +kernel) (fun _ => rfl) rfl rfl
theorem w168_31 : ma_W d 168 Q 31 (some (.ref i) :: l) st H 0 0 = ma_W d 168 Q 32 (some (.ref i) :: l) (.ref i :: st) H 0 0 := wp_aload_n (x := some i) rfl rfl
theorem w168_32 : ma_W d 168 Q 32 l (.ref i :: st) H 0 0 = (ma_cat st ≤ 8 ∧ ma_cv (H.1 i) 8 d 167 [.ref i] H (ma_kC d 168 Q 35 l st 0 0)) := wc_V0 (ia := 167) (n := 1) (cn := 8) rfl (by decide +kernel) (fun _ => rfl) rfl rfl
theorem w168_35 : ma_W d 168 Q 35 l (.int x :: st) H 0 0 = ma_if (x = 0) d 168 Q 40 38 l st H 0 0 := wp_c0 (id := 168) (pc := 35) (c := .eq) (off := 5) 40 rfl (by decide)
theorem w168_38 : ma_W d 168 Q 38 (o0 :: some (.int x) :: l) st H 0 0 = ma_W d 168 Q 39 (o0 :: some (.int x) :: l) (.int x :: st) H 0 0 := wp_iload_n rfl rfl
theorem w168_39 : ma_W d 168 Q 39 l [.int x] H 0 0 = Q (some (.int x)) H := wp_iret rfl rfl
theorem w168_40 : ma_W d 168 Q 40 (o0 :: some (.int x) :: l) st H 0 0 = ma_W d 168 Q 43 (ma_clr o0 :: some (.int (x + 1)) :: l) st H 0 0 := wp_iinc (id := 168) (pc := 40) (k := 1) (n := 1) rfl (Nat.succ_lt_succ (Nat.zero_lt_succ _)) rfl (by decide)
theorem w168_43 : ma_W d 168 Q 43 l st H 0 0 = ma_W d 168 Q 6 l st H 0 0 := wp_goto 6 rfl (by decide)
theorem w168_46 : ma_W d 168 Q 46 l st H 0 0 = ma_W d 168 Q 47 l (.int (-1) :: st) H 0 0 := wp_iconst rfl (by decide)
theorem w168_47 : ma_W d 168 Q 47 l [.int x] H 0 0 = Q (some (.int x)) H := wp_iret rfl rfl
theorem e168 : ma_MW (d + 1) 168 [.ref i] H Q = ma_W d 168 Q 0 [some (.ref i), none] [] H 0 0 := wp_enter (by decide) (Nat.le_of_ble_eq_true rfl) rfl
/-! 169 mo_exchange -/
theorem w169_0 : ma_W d 169 Q 0 (o0 :: some (.int x) :: l) st H 0 0 = ma_W d 169 Q 1 (o0 :: some (.int x) :: l) (.int x :: st) H 0 0 := wp_iload_n rfl rfl
theorem w169_1 : ma_W d 169 Q 1 l st H 0 0 = ma_W d 169 Q 2 l (.int 0 :: st) H 0 0 := wp_iconst rfl (by decide)
theorem w169_2 : ma_W d 169 Q 2 l st H 0 0 = ma_W d 169 Q 3 l (.int 1 :: st) H 0 0 := wp_iconst rfl (by decide)
theorem w169_3 : ma_W d 169 Q 3 l (.int x2 :: .int x1 :: .int x0 :: st) H 0 0 = (ma_cat st ≤ 8 ∧ ma_MW d 125 [.int x0, .int x1, .int x2] H (ma_kC d 169 Q 6 l st 0 0)) := wc_S0 (ia := 125) (n := 3) (cn := 8) (k := 1) rfl (by decide +kernel) (by decide) (fun _ => rfl) rfl rfl
theorem w169_6 : ma_W d 169 Q 6 l (.int x :: st) H 0 0 = ma_if (x = 0) d 169 Q 18 9 l st H 0 0 := wp_c0 (id := 169) (pc := 6) (c := .eq) (off := 12) 18 rfl (by decide)
theorem w169_9 : ma_W d 169 Q 9 (o0 :: o1 :: some (.int x) :: l) st H 0 0 = ma_W d 169 Q 10 (o0 :: o1 :: some (.int x) :: l) (.int x :: st) H 0 0 := wp_iload_n rfl rfl
theorem w169_10 : ma_W d 169 Q 10 l st H 0 0 = ma_W d 169 Q 11 l (.int 0 :: st) H 0 0 := wp_iconst rfl (by decide)
theorem w169_11 : ma_W d 169 Q 11 l st H 0 0 = ma_W d 169 Q 12 l (.int 1 :: st) H 0 0 := wp_iconst rfl (by decide)
theorem w169_12 : ma_W d 169 Q 12 l (.int x2 :: .int x1 :: .int x0 :: st) H 0 0 = (ma_cat st ≤ 8 ∧ ma_MW d 125 [.int x0, .int x1, .int x2] H (ma_kC d 169 Q 15 l st 0 0)) := wc_S0 (ia := 125) (n := 3) (cn := 8) (k := 1) rfl (by decide +kernel) (by decide) (fun _ => rfl) rfl rfl
theorem w169_15 : ma_W d 169 Q 15 l (.int x :: st) H 0 0 = ma_if (x = 0) d 169 Q 18 23 l st H 0 0 := wp_c0 (id := 169) (pc := 15) (c := .ne) (off := 8) 23 rfl (by decide)
theorem w169_18 : ma_W d 169 Q 18 (some (.ref i) :: l) st H 0 0 = ma_W d 169 Q 19 (some (.ref i) :: l) (.ref i :: st) H 0 0 := wp_aload_n (x := some i) rfl rfl
theorem w169_19 : ma_W d 169 Q 19 l (.ref i :: st) H 0 0 = (ma_cat st ≤ 8 ∧ ma_cv (H.1 i) 8 d 128 [.ref i] H (ma_kC d 169 Q 22 l st 0 0)) := wc_V0 (ia := 128) (n := 1) (cn := 8) rfl (by decide +kernel) (fun _ => rfl) rfl rfl
theorem w169_22 : ma_W d 169 Q 22 l [.int x] H 0 0 = Q (some (.int x)) H := wp_iret rfl rfl
theorem w169_23 : ma_W d 169 Q 23 l st H 0 0 = ma_W d 169 Q 24 l (.int (-1) :: st) H 0 0 := wp_iconst rfl (by decide)
theorem w169_24 : ma_W d 169 Q 24 (o0 :: o1 :: o2 :: p :: l) (.int x :: st) H 0 0 = ma_W d 169 Q 25 (o0 :: o1 :: ma_clr o2 :: some (.int x) :: l) st H 0 0 := wp_istore_n (id := 169) (pc := 24) (k := 3) rfl (Nat.succ_lt_succ (Nat.succ_lt_succ (Nat.succ_lt_succ (Nat.zero_lt_succ _))))
theorem w169_25 : ma_W d 169 Q 25 l st H 0 0 = ma_W d 169 Q 28 l (.int 2001 :: st) H 0 0 := wp_sipush rfl (by decide)
theorem w169_28 : ma_W d 169 Q 28 (o0 :: o1 :: o2 :: o3 :: p :: l) (.int x :: st) H 0 0 = ma_W d 169 Q 30 (o0 :: o1 :: o2 :: ma_clr o3 :: some (.int x) :: l) st H 0 0 := wp_istore (id := 169) (pc := 28) (k := 4) rfl (Nat.succ_lt_succ (Nat.succ_lt_succ (Nat.succ_lt_succ (Nat.succ_lt_succ (Nat.zero_lt_succ _)))))
theorem w169_30 : ma_W d 169 Q 30 l st H 0 0 = ma_W d 169 Q 31 l (.int 0 :: st) H 0 0 := wp_iconst rfl (by decide)
theorem w169_31 : ma_W d 169 Q 31 (o0 :: o1 :: o2 :: o3 :: o4 :: p :: l) (.int x :: st) H 0 0 = ma_W d 169 Q 33 (o0 :: o1 :: o2 :: o3 :: ma_clr o4 :: some (.int x) :: l) st H 0 0 := wp_istore (id := 169) (pc := 31) (k := 5) rfl (Nat.succ_lt_succ (Nat.succ_lt_succ (Nat.succ_lt_succ (Nat.succ_lt_succ (Nat.succ_lt_succ (Nat.zero_lt_succ _))))))
theorem w169_33 : ma_W d 169 Q 33 (o0 :: o1 :: o2 :: o3 :: o4 :: some (.int x) :: l) st H 0 0 = ma_W d 169 Q 35 (o0 :: o1 :: o2 :: o3 :: o4 :: some (.int x) :: l) (.int x :: st) H 0 0 := wp_iload rfl rfl
theorem w169_35 : ma_W d 169 Q 35 l st H 0 0 = ma_W d 169 Q 38 l (.int 1600 :: st) H 0 0 := wp_sipush rfl (by decide)
theorem w169_38 : ma_W d 169 Q 38 l (.int y :: .int x :: st) H 0 0 = ma_if (y ≤ x) d 169 Q 175 41 l st H 0 0 := wp_ic (id := 169) (pc := 38) (c := .ge) (off := 137) 175 rfl (by decide)
theorem w169_41 : ma_W d 169 Q 41 (o0 :: o1 :: o2 :: o3 :: o4 :: some (.int x) :: l) st H 0 0 = ma_W d 169 Q 43 (o0 :: o1 :: o2 :: o3 :: o4 :: some (.int x) :: l) (.int x :: st) H 0 0 := wp_iload rfl rfl
theorem w169_43 : ma_W d 169 Q 43 l st H 0 0 = ma_W d 169 Q 45 l (.int 100 :: st) H 0 0 := wp_bipush rfl (by decide)
theorem w169_45 : ma_W d 169 Q 45 l (.int y :: .int x :: st) H 0 0 = (¬ y = 0 ∧ ma_W d 169 Q 46 l (.int (x / y) :: st) H 0 0) := wp_idiv rfl
theorem w169_46 : ma_W d 169 Q 46 (o0 :: o1 :: o2 :: o3 :: o4 :: o5 :: p :: l) (.int x :: st) H 0 0 = ma_W d 169 Q 48 (o0 :: o1 :: o2 :: o3 :: o4 :: ma_clr o5 :: some (.int x) :: l) st H 0 0 := wp_istore (id := 169) (pc := 46) (k := 6) rfl (Nat.succ_lt_succ (Nat.succ_lt_succ (Nat.succ_lt_succ (Nat.succ_lt_succ (Nat.succ_lt_succ (Nat.succ_lt_succ (Nat.zero_lt_succ _)))))))
theorem w169_48 : ma_W d 169 Q 48 (o0 :: o1 :: o2 :: o3 :: o4 :: some (.int x) :: l) st H 0 0 = ma_W d 169 Q 50 (o0 :: o1 :: o2 :: o3 :: o4 :: some (.int x) :: l) (.int x :: st) H 0 0 := wp_iload rfl rfl
theorem w169_50 : ma_W d 169 Q 50 l st H 0 0 = ma_W d 169 Q 52 l (.int 100 :: st) H 0 0 := wp_bipush rfl (by decide)
theorem w169_52 : ma_W d 169 Q 52 l (.int y :: .int x :: st) H 0 0 = (¬ y = 0 ∧ ma_W d 169 Q 53 l (.int (ma_rem x y) :: st) H 0 0) := wp_irem rfl
theorem w169_53 : ma_W d 169 Q 53 (o0 :: o1 :: o2 :: o3 :: o4 :: o5 :: o6 :: p :: l) (.int x :: st) H 0 0 = ma_W d 169 Q 55 (o0 :: o1 :: o2 :: o3 :: o4 :: o5 :: ma_clr o6 :: some (.int x) :: l) st H 0 0 := wp_istore (id := 169) (pc := 53) (k := 7) rfl (Nat.succ_lt_succ (Nat.succ_lt_succ (Nat.succ_lt_succ (Nat.succ_lt_succ (Nat.succ_lt_succ (Nat.succ_lt_succ (Nat.succ_lt_succ (Nat.zero_lt_succ _))))))))
theorem w169_55 : ma_W d 169 Q 55 (o0 :: o1 :: o2 :: o3 :: o4 :: o5 :: some (.int x) :: l) st H 0 0 = ma_W d 169 Q 57 (o0 :: o1 :: o2 :: o3 :: o4 :: o5 :: some (.int x) :: l) (.int x :: st) H 0 0 := wp_iload rfl rfl
theorem w169_57 : ma_W d 169 Q 57 (some (.ref i) :: l) st H 0 0 = ma_W d 169 Q 58 (some (.ref i) :: l) (.ref i :: st) H 0 0 := wp_aload_n (x := some i) rfl rfl
theorem w169_58 : ma_W d 169 Q 58 l (.ref i :: st) H 0 0 = ma_gf (H.1 i) 8 0 (ma_kV d 169 Q 61 l st H 0 0) := wp_get rfl (by decide +kernel)
theorem w169_61 : ma_W d 169 Q 61 l st H 0 0 = ma_W d 169 Q 63 l (.int 7 :: st) H 0 0 := wp_bipush rfl (by decide)
theorem w169_63 : ma_W d 169 Q 63 (o0 :: some (.int x) :: l) st H 0 0 = ma_W d 169 Q 64 (o0 :: some (.int x) :: l) (.int x :: st) H 0 0 := wp_iload_n rfl rfl
theorem w169_64 : ma_W d 169 Q 64 l (.int y :: .int x :: st) H 0 0 = ma_W d 169 Q 65 l (.int (x + y) :: st) H 0 0 := wp_iadd rfl
theorem w169_65 : ma_W d 169 Q 65 l (.int x :: .ref i :: st) H 0 0 = ma_ial (H.1 i) x (ma_kV d 169 Q 66 l st H 0 0) := wp_iald rfl
theorem w169_66 : ma_W d 169 Q 66 l (.int y :: .int x :: st) H 0 0 = ma_if (y ≤ x) d 169 Q 169 69 l st H 0 0 := wp_ic (id := 169) (pc := 66) (c := .ge) (off := 103) 169 rfl (by decide)
theorem w169_69 : ma_W d 169 Q 69 (o0 :: o1 :: o2 :: o3 :: o4 :: o5 :: o6 :: some (.int x) :: l) st H 0 0 = ma_W d 169 Q 71 (o0 :: o1 :: o2 :: o3 :: o4 :: o5 :: o6 :: some (.int x) :: l) (.int x :: st) H 0 0 := wp_iload rfl rfl
theorem w169_71 : ma_W d 169 Q 71 (some (.ref i) :: l) st H 0 0 = ma_W d 169 Q 72 (some (.ref i) :: l) (.ref i :: st) H 0 0 := wp_aload_n (x := some i) rfl rfl
theorem w169_72 : ma_W d 169 Q 72 l (.ref i :: st) H 0 0 = ma_gf (H.1 i) 8 0 (ma_kV d 169 Q 75 l st H 0 0) := wp_get rfl (by decide +kernel)
theorem w169_75 : ma_W d 169 Q 75 l st H 0 0 = ma_W d 169 Q 77 l (.int 8 :: st) H 0 0 := wp_bipush rfl (by decide)
theorem w169_77 : ma_W d 169 Q 77 (o0 :: some (.int x) :: l) st H 0 0 = ma_W d 169 Q 78 (o0 :: some (.int x) :: l) (.int x :: st) H 0 0 := wp_iload_n rfl rfl
theorem w169_78 : ma_W d 169 Q 78 l (.int y :: .int x :: st) H 0 0 = ma_W d 169 Q 79 l (.int (x - y) :: st) H 0 0 := wp_isub rfl
theorem w169_79 : ma_W d 169 Q 79 l (.int x :: .ref i :: st) H 0 0 = ma_ial (H.1 i) x (ma_kV d 169 Q 80 l st H 0 0) := wp_iald rfl
theorem w169_80 : ma_W d 169 Q 80 l (.int y :: .int x :: st) H 0 0 = ma_if (y ≤ x) d 169 Q 169 83 l st H 0 0 := wp_ic (id := 169) (pc := 80) (c := .ge) (off := 89) 169 rfl (by decide)
theorem w169_83 : ma_W d 169 Q 83 (some (.ref i) :: l) st H 0 0 = ma_W d 169 Q 84 (some (.ref i) :: l) (.ref i :: st) H 0 0 := wp_aload_n (x := some i) rfl rfl
theorem w169_84 : ma_W d 169 Q 84 l (.ref i :: st) H 0 0 = (ma_cat st ≤ 8 ∧ ma_cv (H.1 i) 8 d 160 [.ref i] H (ma_kC d 169 Q 87 l st 0 0)) := wc_V0 (ia := 160) (n := 1) (cn := 8) rfl (by decide +kernel) (fun _ => rfl) rfl rfl
theorem w169_87 : ma_W d 169 Q 87 (some (.ref i) :: l) st H 0 0 = ma_W d 169 Q 88 (some (.ref i) :: l) (.ref i :: st) H 0 0 := wp_aload_n (x := some i) rfl rfl
theorem w169_88 : ma_W d 169 Q 88 l (.ref i :: st) H 0 0 = ma_gf (H.1 i) 8 15 (ma_kV d 169 Q 91 l st H 0 0) := wp_get rfl (by decide +kernel)
theorem w169_91 : ma_W d 169 Q 91 (o0 :: some (.int x) :: l) st H 0 0 = ma_W d 169 Q 92 (o0 :: some (.int x) :: l) (.int x :: st) H 0 0 := wp_iload_n rfl rfl
theorem w169_92 : ma_W d 169 Q 92 l (.int x :: st) H 0 0 = ma_if (x = 0) d 169 Q 95 100 l st H 0 0 := wp_c0 (id := 169) (pc := 92) (c := .ne) (off := 8) 100 rfl (by decide)
theorem w169_95 : ma_W d 169 Q 95 (o0 :: o1 :: o2 :: o3 :: o4 :: o5 :: some (.int x) :: l) st H 0 0 = ma_W d 169 Q 97 (o0 :: o1 :: o2 :: o3 :: o4 :: o5 :: some (.int x) :: l) (.int x :: st) H 0 0 := wp_iload rfl rfl
theorem w169_97 : ma_W d 169 Q 97 l st H 0 0 = ma_W d 169 Q 102 l st H 0 0 := wp_goto 102 rfl (by decide)
theorem w169_100 : ma_W d 169 Q 100 (o0 :: o1 :: o2 :: o3 :: o4 :: o5 :: o6 :: some (.int x) :: l) st H 0 0 = ma_W d 169 Q 102 (o0 :: o1 :: o2 :: o3 :: o4 :: o5 :: o6 :: some (.int x) :: l) (.int x :: st) H 0 0 := wp_iload rfl rfl
theorem w169_102 : ma_W d 169 Q 102 (o0 :: some (.int x) :: l) st H 0 0 = ma_W d 169 Q 103 (o0 :: some (.int x) :: l) (.int x :: st) H 0 0 := wp_iload_n rfl rfl
theorem w169_103 : ma_W d 169 Q 103 l (.int x :: st) H 0 0 = ma_if (x = 0) d 169 Q 106 111 l st H 0 0 := wp_c0 (id := 169) (pc := 103) (c := .ne) (off := 8) 111 rfl (by decide)
theorem w169_106 : ma_W d 169 Q 106 (o0 :: o1 :: o2 :: o3 :: o4 :: o5 :: o6 :: some (.int x) :: l) st H 0 0 = ma_W d 169 Q 108 (o0 :: o1 :: o2 :: o3 :: o4 :: o5 :: o6 :: some (.int x) :: l) (.int x :: st) H 0 0 := wp_iload rfl rfl
theorem w169_108 : ma_W d 169 Q 108 l st H 0 0 = ma_W d 169 Q 113 l st H 0 0 := wp_goto 113 rfl (by decide)
theorem w169_111 : ma_W d 169 Q 111 (o0 :: o1 :: o2 :: o3 :: o4 :: o5 :: some (.int x) :: l) st H 0 0 = ma_W d 169 Q 113 (o0 :: o1 :: o2 :: o3 :: o4 :: o5 :: some (.int x) :: l) (.int x :: st) H 0 0 := wp_iload rfl rfl
theorem w169_113 : ma_W d 169 Q 113 l (.int x2 :: .int x1 :: .ref i0 :: st) H 0 0 = (ma_cat st ≤ 8 ∧ ma_MW d 156 [.ref i0, .int x1, .int x2] H (ma_kC d 169 Q 116 l st 0 0)) := wc_S0 (ia := 156) (n := 3) (cn := 8) (k := 1) rfl (by decide +kernel) (by decide) (fun _ => rfl) rfl rfl
theorem w169_116 : ma_W d 169 Q 116 (some (.ref i) :: l) st H 0 0 = ma_W d 169 Q 117 (some (.ref i) :: l) (.ref i :: st) H 0 0 := wp_aload_n (x := some i) rfl rfl
theorem w169_117 : ma_W d 169 Q 117 (o0 :: some (.int x) :: l) st H 0 0 = ma_W d 169 Q 118 (o0 :: some (.int x) :: l) (.int x :: st) H 0 0 := wp_iload_n rfl rfl
theorem w169_118 : ma_W d 169 Q 118 l (.int x0 :: .ref i :: st) H 0 0 = (ma_cat st ≤ 8 ∧ ma_cv (H.1 i) 8 d 163 [.ref i, .int x0] H (ma_kC d 169 Q 121 l st 0 0)) := wc_V0 (ia := 163) (n := 2) (cn := 8) rfl (by decide +kernel) (fun _ => rfl) rfl rfl
theorem w169_121 : ma_W d 169 Q 121 (o0 :: o1 :: o2 :: o3 :: o4 :: o5 :: o6 :: o7 :: p :: l) (.int x :: st) H 0 0 = ma_W d 169 Q 123 (o0 :: o1 :: o2 :: o3 :: o4 :: o5 :: o6 :: ma_clr o7 :: some (.int x) :: l) st H 0 0 := wp_istore (id := 169) (pc := 121) (k := 8) rfl (Nat.succ_lt_succ (Nat.succ_lt_succ (Nat.succ_lt_succ (Nat.succ_lt_succ (Nat.succ_lt_succ (Nat.succ_lt_succ (Nat.succ_lt_succ (Nat.succ_lt_succ (Nat.zero_lt_succ _)))))))))
theorem w169_123 : ma_W d 169 Q 123 (o0 :: o1 :: o2 :: o3 :: o4 :: o5 :: o6 :: o7 :: some (.int x) :: l) st H 0 0 = ma_W d 169 Q 125 (o0 :: o1 :: o2 :: o3 :: o4 :: o5 :: o6 :: o7 :: some (.int x) :: l) (.int x :: st) H 0 0 := wp_iload rfl rfl
theorem w169_125 : ma_W d 169 Q 125 l st H 0 0 = ma_W d 169 Q 126 l (.int (-1) :: st) H 0 0 := wp_iconst rfl (by decide)
theorem w169_126 : ma_W d 169 Q 126 l (.int y :: .int x :: st) H 0 0 = ma_if (x = y) d 169 Q 140 129 l st H 0 0 := wp_ic (id := 169) (pc := 126) (c := .eq) (off := 14) 140 rfl (by decide)
theorem w169_129 : ma_W d 169 Q 129 (o0 :: o1 :: o2 :: o3 :: o4 :: o5 :: o6 :: o7 :: some (.int x) :: l) st H 0 0 = ma_W d 169 Q 131 (o0 :: o1 :: o2 :: o3 :: o4 :: o5 :: o6 :: o7 :: some (.int x) :: l) (.int x :: st) H 0 0 := wp_iload rfl rfl
theorem w169_131 : ma_W d 169 Q 131 (o0 :: o1 :: o2 :: o3 :: some (.int x) :: l) st H 0 0 = ma_W d 169 Q 133 (o0 :: o1 :: o2 :: o3 :: some (.int x) :: l) (.int x :: st) H 0 0 := wp_iload rfl rfl
theorem w169_133 : ma_W d 169 Q 133 l (.int y :: .int x :: st) H 0 0 = ma_if (y ≤ x) d 169 Q 140 136 l st H 0 0 := wp_ic (id := 169) (pc := 133) (c := .ge) (off := 7) 140 rfl (by decide)
theorem w169_136 : ma_W d 169 Q 136 l st H 0 0 = ma_W d 169 Q 137 l (.int 1 :: st) H 0 0 := wp_iconst rfl (by decide)
theorem w169_137 : ma_W d 169 Q 137 l st H 0 0 = ma_W d 169 Q 141 l st H 0 0 := wp_goto 141 rfl (by decide)
theorem w169_140 : ma_W d 169 Q 140 l st H 0 0 = ma_W d 169 Q 141 l (.int 0 :: st) H 0 0 := wp_iconst rfl (by decide)
theorem w169_141 : ma_W d 169 Q 141 (o0 :: o1 :: o2 :: o3 :: o4 :: o5 :: o6 :: o7 :: o8 :: p :: l) (.int x :: st) H 0 0 = ma_W d 169 Q 143 (o0 :: o1 :: o2 :: o3 :: o4 :: o5 :: o6 :: o7 :: ma_clr o8 :: some (.int x) :: l) st H 0 0 := wp_istore (id := 169) (pc := 141) (k := 9) rfl (Nat.succ_lt_succ (Nat.succ_lt_succ (Nat.succ_lt_succ (Nat.succ_lt_succ (Nat.succ_lt_succ (Nat.succ_lt_succ (Nat.succ_lt_succ (Nat.succ_lt_succ (Nat.succ_lt_succ (Nat.zero_lt_succ _))))))))))
theorem w169_143 : ma_W d 169 Q 143 (o0 :: o1 :: o2 :: o3 :: o4 :: o5 :: o6 :: o7 :: o8 :: some (.int x) :: l) st H 0 0 = ma_W d 169 Q 145 (o0 :: o1 :: o2 :: o3 :: o4 :: o5 :: o6 :: o7 :: o8 :: some (.int x) :: l) (.int x :: st) H 0 0 := wp_iload rfl rfl
theorem w169_145 : ma_W d 169 Q 145 l (.int x :: st) H 0 0 = ma_if (x = 0) d 169 Q 153 148 l st H 0 0 := wp_c0 (id := 169) (pc := 145) (c := .eq) (off := 8) 153 rfl (by decide)
theorem w169_148 : ma_W d 169 Q 148 (o0 :: o1 :: o2 :: o3 :: o4 :: some (.int x) :: l) st H 0 0 = ma_W d 169 Q 150 (o0 :: o1 :: o2 :: o3 :: o4 :: some (.int x) :: l) (.int x :: st) H 0 0 := wp_iload rfl rfl
theorem w169_150 : ma_W d 169 Q 150 l st H 0 0 = ma_W d 169 Q 154 l st H 0 0 := wp_goto 154 rfl (by decide)
theorem w169_153 : ma_W d 169 Q 153 (o0 :: o1 :: o2 :: some (.int x) :: l) st H 0 0 = ma_W d 169 Q 154 (o0 :: o1 :: o2 :: some (.int x) :: l) (.int x :: st) H 0 0 := wp_iload_n rfl rfl
theorem w169_154 : ma_W d 169 Q 154 (o0 :: o1 :: o2 :: p :: l) (.int x :: st) H 0 0 = ma_W d 169 Q 155 (o0 :: o1 :: ma_clr o2 :: some (.int x) :: l) st H 0 0 := wp_istore_n (id := 169) (pc := 154) (k := 3) rfl (Nat.succ_lt_succ (Nat.succ_lt_succ (Nat.succ_lt_succ (Nat.zero_lt_succ _))))
theorem w169_155 : ma_W d 169 Q 155 (o0 :: o1 :: o2 :: o3 :: o4 :: o5 :: o6 :: o7 :: o8 :: some (.int x) :: l) st H 0 0 = ma_W d 169 Q 157 (o0 :: o1 :: o2 :: o3 :: o4 :: o5 :: o6 :: o7 :: o8 :: some (.int x) :: l) (.int x :: st) H 0 0 := wp_iload rfl rfl
theorem w169_157 : ma_W d 169 Q 157 l (.int x :: st) H 0 0 = ma_if (x = 0) d 169 Q 165 160 l st H 0 0 := wp_c0 (id := 169) (pc := 157) (c := .eq) (off := 8) 165 rfl (by decide)
theorem w169_160 : ma_W d 169 Q 160 (o0 :: o1 :: o2 :: o3 :: o4 :: o5 :: o6 :: o7 :: some (.int x) :: l) st H 0 0 = ma_W d 169 Q 162 (o0 :: o1 :: o2 :: o3 :: o4 :: o5 :: o6 :: o7 :: some (.int x) :: l) (.int x :: st) H 0 0 := wp_iload rfl rfl
theorem w169_162 : ma_W d 169 Q 162 l st H 0 0 = ma_W d 169 Q 167 l st H 0 0 := wp_goto 167 rfl (by decide)
theorem w169_165 : ma_W d 169 Q 165 (o0 :: o1 :: o2 :: o3 :: some (.int x) :: l) st H 0 0 = ma_W d 169 Q 167 (o0 :: o1 :: o2 :: o3 :: some (.int x) :: l) (.int x :: st) H 0 0 := wp_iload rfl rfl
theorem w169_167 : ma_W d 169 Q 167 (o0 :: o1 :: o2 :: o3 :: p :: l) (.int x :: st) H 0 0 = ma_W d 169 Q 169 (o0 :: o1 :: o2 :: ma_clr o3 :: some (.int x) :: l) st H 0 0 := wp_istore (id := 169) (pc := 167) (k := 4) rfl (Nat.succ_lt_succ (Nat.succ_lt_succ (Nat.succ_lt_succ (Nat.succ_lt_succ (Nat.zero_lt_succ _)))))
theorem w169_169 : ma_W d 169 Q 169 (o0 :: o1 :: o2 :: o3 :: o4 :: some (.int x) :: l) st H 0 0 = ma_W d 169 Q 172 (o0 :: o1 :: o2 :: o3 :: ma_clr o4 :: some (.int (x + 1)) :: l) st H 0 0 := wp_iinc (id := 169) (pc := 169) (k := 5) (n := 1) rfl (Nat.succ_lt_succ (Nat.succ_lt_succ (Nat.succ_lt_succ (Nat.succ_lt_succ (Nat.succ_lt_succ (Nat.zero_lt_succ _)))))) rfl (by decide)
theorem w169_172 : ma_W d 169 Q 172 l st H 0 0 = ma_W d 169 Q 33 l st H 0 0 := wp_goto 33 rfl (by decide)
theorem w169_175 : ma_W d 169 Q 175 (o0 :: o1 :: o2 :: some (.int x) :: l) st H 0 0 = ma_W d 169 Q 176 (o0 :: o1 :: o2 :: some (.int x) :: l) (.int x :: st) H 0 0 := wp_iload_n rfl rfl
theorem w169_176 : ma_W d 169 Q 176 l st H 0 0 = ma_W d 169 Q 177 l (.int (-1) :: st) H 0 0 := wp_iconst rfl (by decide)
theorem w169_177 : ma_W d 169 Q 177 l (.int y :: .int x :: st) H 0 0 = ma_if (x = y) d 169 Q 184 180 l st H 0 0 := wp_ic (id := 169) (pc := 177) (c := .eq) (off := 7) 184 rfl (by decide)
theorem w169_180 : ma_W d 169 Q 180 (o0 :: o1 :: some (.int x) :: l) st H 0 0 = ma_W d 169 Q 181 (o0 :: o1 :: some (.int x) :: l) (.int x :: st) H 0 0 := wp_iload_n rfl rfl
theorem w169_181 : ma_W d 169 Q 181 l (.int x :: st) H 0 0 = ma_if (x = 0) d 169 Q 184 188 l st H 0 0 := wp_c0 (id := 169) (pc := 181) (c := .ne) (off := 7) 188 rfl (by decide)
theorem w169_184 : ma_W d 169 Q 184 (o0 :: o1 :: o2 :: some (.int x) :: l) st H 0 0 = ma_W d 169 Q 185 (o0 :: o1 :: o2 :: some (.int x) :: l) (.int x :: st) H 0 0 := wp_iload_n rfl rfl
theorem w169_185 : ma_W d 169 Q 185 l st H 0 0 = ma_W d 169 Q 190 l st H 0 0 := wp_goto 190 rfl (by decide)
theorem w169_188 : ma_W d 169 Q 188 (o0 :: o1 :: o2 :: o3 :: some (.int x) :: l) st H 0 0 = ma_W d 169 Q 190 (o0 :: o1 :: o2 :: o3 :: some (.int x) :: l) (.int x :: st) H 0 0 := wp_iload rfl rfl
theorem w169_190 : ma_W d 169 Q 190 l [.int x] H 0 0 = Q (some (.int x)) H := wp_iret rfl rfl
theorem e169 : ma_MW (d + 1) 169 [.ref i, .int x0, .int x1] H Q = ma_W d 169 Q 0 [some (.ref i), some (.int x0), some (.int x1), none, none, none, none, none, none, none] [] H 0 0 := wp_enter (by decide) (Nat.le_of_ble_eq_true rfl) rfl
/-! 170 mo_turnOn -/
theorem w170_0 : ma_W d 170 Q 0 (some (.ref i) :: l) st H 0 0 = ma_W d 170 Q 1 (some (.ref i) :: l) (.ref i :: st) H 0 0 := wp_aload_n (x := some i) rfl rfl
theorem w170_1 : ma_W d 170 Q 1 l (.ref i :: st) H 0 0 = ma_gf (H.1 i) 8 15 (ma_kV d 170 Q 4 l st H 0 0) := wp_get rfl (by decide +kernel)
theorem w170_4 : ma_W d 170 Q 4 l st H 0 0 = ma_W d 170 Q 6 l (.int 7 :: st) H 0 0 := wp_bipush rfl (by decide)
theorem w170_6 : ma_W d 170 Q 6 (o0 :: some (.int x) :: l) st H 0 0 = ma_W d 170 Q 7 (o0 :: some (.int x) :: l) (.int x :: st) H 0 0 := wp_iload_n rfl rfl
theorem w170_7 : ma_W d 170 Q 7 l (.int y :: .int x :: st) H 0 0 = ma_W d 170 Q 8 l (.int (x + y) :: st) H 0 0 := wp_iadd rfl
theorem w170_8 : ma_W d 170 Q 8 l (.int x :: .ref i :: st) H 0 0 = ma_ial (H.1 i) x (ma_kV d 170 Q 9 l st H 0 0) := wp_iald rfl
theorem w170_9 : ma_W d 170 Q 9 (o0 :: o1 :: o2 :: p :: l) (.int x :: st) H 0 0 = ma_W d 170 Q 10 (o0 :: o1 :: ma_clr o2 :: some (.int x) :: l) st H 0 0 := wp_istore_n (id := 170) (pc := 9) (k := 3) rfl (Nat.succ_lt_succ (Nat.succ_lt_succ (Nat.succ_lt_succ (Nat.zero_lt_succ _))))
theorem w170_10 : ma_W d 170 Q 10 l st H 0 0 = ma_W d 170 Q 12 l (.int 10 :: st) H 0 0 := wp_bipush rfl (by decide)
theorem w170_12 : ma_W d 170 Q 12 l st H 0 0 = ma_W d 170 Q 14 l (.int 16 :: st) H 0 0 := wp_bipush rfl (by decide)
theorem w170_14 : ma_W d 170 Q 14 (o0 :: some (.int x) :: l) st H 0 0 = ma_W d 170 Q 15 (o0 :: some (.int x) :: l) (.int x :: st) H 0 0 := wp_iload_n rfl rfl
theorem w170_15 : ma_W d 170 Q 15 l (.int y :: .int x :: st) H 0 0 = ma_W d 170 Q 16 l (.int (x * y) :: st) H 0 0 := wp_imul rfl
theorem w170_16 : ma_W d 170 Q 16 l (.int y :: .int x :: st) H 0 0 = ma_W d 170 Q 17 l (.int (x + y) :: st) H 0 0 := wp_iadd rfl
theorem w170_17 : ma_W d 170 Q 17 (o0 :: o1 :: o2 :: o3 :: p :: l) (.int x :: st) H 0 0 = ma_W d 170 Q 19 (o0 :: o1 :: o2 :: ma_clr o3 :: some (.int x) :: l) st H 0 0 := wp_istore (id := 170) (pc := 17) (k := 4) rfl (Nat.succ_lt_succ (Nat.succ_lt_succ (Nat.succ_lt_succ (Nat.succ_lt_succ (Nat.zero_lt_succ _)))))
theorem w170_19 : ma_W d 170 Q 19 (some (.ref i) :: l) st H 0 0 = ma_W d 170 Q 20 (some (.ref i) :: l) (.ref i :: st) H 0 0 := wp_aload_n (x := some i) rfl rfl
theorem w170_20 : ma_W d 170 Q 20 l (.ref i :: st) H 0 0 = ma_gf (H.1 i) 8 15 (ma_kV d 170 Q 23 l st H 0 0) := wp_get rfl (by decide +kernel)
theorem w170_23 : ma_W d 170 Q 23 (o0 :: o1 :: o2 :: o3 :: some (.int x) :: l) st H 0 0 = ma_W d 170 Q 25 (o0 :: o1 :: o2 :: o3 :: some (.int x) :: l) (.int x :: st) H 0 0 := wp_iload rfl rfl
theorem w170_25 : ma_W d 170 Q 25 (some (.ref i) :: l) st H 0 0 = ma_W d 170 Q 26 (some (.ref i) :: l) (.ref i :: st) H 0 0 := wp_aload_n (x := some i) rfl rfl
theorem w170_26 : ma_W d 170 Q 26 l (.ref i :: st) H 0 0 = ma_gf (H.1 i) 8 16 (ma_kV d 170 Q 29 l st H 0 0) := wp_get rfl (by decide +kernel)
theorem w170_29 : ma_W d 170 Q 29 l st H 0 0 = ma_W d 170 Q 30 l (.int 0 :: st) H 0 0 := wp_iconst rfl (by decide)
theorem w170_30 : ma_W d 170 Q 30 (o0 :: o1 :: o2 :: some (.int x) :: l) st H 0 0 = ma_W d 170 Q 31 (o0 :: o1 :: o2 :: some (.int x) :: l) (.int x :: st) H 0 0 := wp_iload_n rfl rfl
theorem w170_31 : ma_W d 170 Q 31 l (.int x4 :: .int x3 :: .ref i2 :: .int x1 :: .ref i0 :: st) H 0 0 = (ma_cat st ≤ 8 ∧ ma_MW d 131 [.ref i0, .int x1, .ref i2, .int x3, .int x4] H (ma_kC d 170 Q 34 l st 0 0)) := wc_S0 (ia := 131) (n := 5) (cn := 8) (k := 1) rfl (by decide +kernel) (by decide) (fun _ => rfl) rfl rfl
theorem w170_34 : ma_W d 170 Q 34 l st H 0 0 = ma_W d 170 Q 35 l (.int 0 :: st) H 0 0 := wp_iconst rfl (by decide)
theorem w170_35 : ma_W d 170 Q 35 (o0 :: o1 :: o2 :: o3 :: o4 :: p :: l) (.int x :: st) H 0 0 = ma_W d 170 Q 37 (o0 :: o1 :: o2 :: o3 :: ma_clr o4 :: some (.int x) :: l) st H 0 0 := wp_istore (id := 170) (pc := 35) (k := 5) rfl (Nat.succ_lt_succ (Nat.succ_lt_succ (Nat.succ_lt_succ (Nat.succ_lt_succ (Nat.succ_lt_succ (Nat.zero_lt_succ _))))))
theorem w170_37 : ma_W d 170 Q 37 (o0 :: o1 :: o2 :: o3 :: o4 :: some (.int x) :: l) st H 0 0 = ma_W d 170 Q 39 (o0 :: o1 :: o2 :: o3 :: o4 :: some (.int x) :: l) (.int x :: st) H 0 0 := wp_iload rfl rfl
theorem w170_39 : ma_W d 170 Q 39 (o0 :: o1 :: o2 :: some (.int x) :: l) st H 0 0 = ma_W d 170 Q 40 (o0 :: o1 :: o2 :: some (.int x) :: l) (.int x :: st) H 0 0 := wp_iload_n rfl rfl
theorem w170_40 : ma_W d 170 Q 40 l (.int y :: .int x :: st) H 0 0 = ma_if (y ≤ x) d 170 Q 70 43 l st H 0 0 := wp_ic (id := 170) (pc := 40) (c := .ge) (off := 30) 70 rfl (by decide)
theorem w170_43 : ma_W d 170 Q 43 (some (.ref i) :: l) st H 0 0 = ma_W d 170 Q 44 (some (.ref i) :: l) (.ref i :: st) H 0 0 := wp_aload_n (x := some i) rfl rfl
theorem w170_44 : ma_W d 170 Q 44 l (.ref i :: st) H 0 0 = ma_gf (H.1 i) 8 15 (ma_kV d 170 Q 47 l st H 0 0) := wp_get rfl (by decide +kernel)
theorem w170_47 : ma_W d 170 Q 47 (o0 :: o1 :: o2 :: o3 :: some (.int x) :: l) st H 0 0 = ma_W d 170 Q 49 (o0 :: o1 :: o2 :: o3 :: some (.int x) :: l) (.int x :: st) H 0 0 := wp_iload rfl rfl
theorem w170_49 : ma_W d 170 Q 49 (o0 :: o1 :: o2 :: o3 :: o4 :: some (.int x) :: l) st H 0 0 = ma_W d 170 Q 51 (o0 :: o1 :: o2 :: o3 :: o4 :: some (.int x) :: l) (.int x :: st) H 0 0 := wp_iload rfl rfl
theorem w170_51 : ma_W d 170 Q 51 l (.int y :: .int x :: st) H 0 0 = ma_W d 170 Q 52 l (.int (x + y) :: st) H 0 0 := wp_iadd rfl
theorem w170_52 : ma_W d 170 Q 52 (some (.ref i) :: l) st H 0 0 = ma_W d 170 Q 53 (some (.ref i) :: l) (.ref i :: st) H 0 0 := wp_aload_n (x := some i) rfl rfl
theorem w170_53 : ma_W d 170 Q 53 l (.ref i :: st) H 0 0 = ma_gf (H.1 i) 8 16 (ma_kV d 170 Q 56 l st H 0 0) := wp_get rfl (by decide +kernel)
theorem w170_56 : ma_W d 170 Q 56 (o0 :: o1 :: o2 :: o3 :: o4 :: some (.int x) :: l) st H 0 0 = ma_W d 170 Q 58 (o0 :: o1 :: o2 :: o3 :: o4 :: some (.int x) :: l) (.int x :: st) H 0 0 := wp_iload rfl rfl
theorem w170_58 : ma_W d 170 Q 58 (o0 :: o1 :: some (.int x) :: l) st H 0 0 = ma_W d 170 Q 59 (o0 :: o1 :: some (.int x) :: l) (.int x :: st) H 0 0 := wp_iload_n rfl rfl
theorem w170_59 : ma_W d 170 Q 59 l (.int y :: .int x :: st) H 0 0 = ma_W d 170 Q 60 l (.int (x + y) :: st) H 0 0 := wp_iadd rfl
theorem w170_60 : ma_W d 170 Q 60 (o0 :: o1 :: o2 :: some (.int x) :: l) st H 0 0 = ma_W d 170 Q 61 (o0 :: o1 :: o2 :: some (.int x) :: l) (.int x :: st) H 0 0 := wp_iload_n rfl rfl
theorem w170_61 : ma_W d 170 Q 61 l (.int y :: .int x :: st) H 0 0 = (¬ y = 0 ∧ ma_W d 170 Q 62 l (.int (ma_rem x y) :: st) H 0 0) := wp_irem rfl
theorem w170_62 : ma_W d 170 Q 62 l (.int x :: .ref i :: st) H 0 0 = ma_ial (H.1 i) x (ma_kV d 170 Q 63 l st H 0 0) := wp_iald rfl
theorem w170_63 : ma_W d 170 Q 63 l (.int y :: .int x :: .ref i :: st) H 0 0 = (4 ≤ i ∧ ma_ias (H.1 i) x y (ma_kH d 170 Q 64 l st H i 0 0)) := wp_iast rfl
theorem w170_64 : ma_W d 170 Q 64 (o0 :: o1 :: o2 :: o3 :: o4 :: some (.int x) :: l) st H 0 0 = ma_W d 170 Q 67 (o0 :: o1 :: o2 :: o3 :: ma_clr o4 :: some (.int (x + 1)) :: l) st H 0 0 := wp_iinc (id := 170) (pc := 64) (k := 5) (n := 1) rfl (Nat.succ_lt_succ (Nat.succ_lt_succ (Nat.succ_lt_succ (Nat.succ_lt_succ (Nat.succ_lt_succ (Nat.zero_lt_succ _)))))) rfl (by decide)
theorem w170_67 : ma_W d 170 Q 67 l st H 0 0 = ma_W d 170 Q 37 l st H 0 0 := wp_goto 37 rfl (by decide)
theorem w170_70 : ma_W d 170 Q 70 l [] H 0 0 = Q none H := wp_vret rfl rfl
theorem e170 : ma_MW (d + 1) 170 [.ref i, .int x0, .int x1] H Q = ma_W d 170 Q 0 [some (.ref i), some (.int x0), some (.int x1), none, none, none] [] H 0 0 := wp_enter (by decide) (Nat.le_of_ble_eq_true rfl) rfl
/-! 171 mo_cut -/
theorem w171_0 : ma_W d 171 Q 0 (o0 :: some (.int x) :: l) st H 0 0 = ma_W d 171 Q 1 (o0 :: some (.int x) :: l) (.int x :: st) H 0 0 := wp_iload_n rfl rfl
theorem w171_1 : ma_W d 171 Q 1 l st H 0 0 = ma_W d 171 Q 2 l (.int 0 :: st) H 0 0 := wp_iconst rfl (by decide)
theorem w171_2 : ma_W d 171 Q 2 l st H 0 0 = ma_W d 171 Q 3 l (.int 1 :: st) H 0 0 := wp_iconst rfl (by decide)
theorem w171_3 : ma_W d 171 Q 3 l (.int x2 :: .int x1 :: .int x0 :: st) H 0 0 = (ma_cat st ≤ 8 ∧ ma_MW d 125 [.int x0, .int x1, .int x2] H (ma_kC d 171 Q 6 l st 0 0)) := wc_S0 (ia := 125) (n := 3) (cn := 8) (k := 1) rfl (by decide +kernel) (by decide) (fun _ => rfl) rfl rfl
theorem w171_6 : ma_W d 171 Q 6 l (.int x :: st) H 0 0 = ma_if (x = 0) d 171 Q 18 9 l st H 0 0 := wp_c0 (id := 171) (pc := 6) (c := .eq) (off := 12) 18 rfl (by decide)
theorem w171_9 : ma_W d 171 Q 9 (o0 :: o1 :: some (.int x) :: l) st H 0 0 = ma_W d 171 Q 10 (o0 :: o1 :: some (.int x) :: l) (.int x :: st) H 0 0 := wp_iload_n rfl rfl
theorem w171_10 : ma_W d 171 Q 10 l st H 0 0 = ma_W d 171 Q 11 l (.int 0 :: st) H 0 0 := wp_iconst rfl (by decide)
theorem w171_11 : ma_W d 171 Q 11 l st H 0 0 = ma_W d 171 Q 12 l (.int 1 :: st) H 0 0 := wp_iconst rfl (by decide)
theorem w171_12 : ma_W d 171 Q 12 l (.int x2 :: .int x1 :: .int x0 :: st) H 0 0 = (ma_cat st ≤ 8 ∧ ma_MW d 125 [.int x0, .int x1, .int x2] H (ma_kC d 171 Q 15 l st 0 0)) := wc_S0 (ia := 125) (n := 3) (cn := 8) (k := 1) rfl (by decide +kernel) (by decide) (fun _ => rfl) rfl rfl
theorem w171_15 : ma_W d 171 Q 15 l (.int x :: st) H 0 0 = ma_if (x = 0) d 171 Q 18 23 l st H 0 0 := wp_c0 (id := 171) (pc := 15) (c := .ne) (off := 8) 23 rfl (by decide)
theorem w171_18 : ma_W d 171 Q 18 (some (.ref i) :: l) st H 0 0 = ma_W d 171 Q 19 (some (.ref i) :: l) (.ref i :: st) H 0 0 := wp_aload_n (x := some i) rfl rfl
theorem w171_19 : ma_W d 171 Q 19 l (.ref i :: st) H 0 0 = (ma_cat st ≤ 8 ∧ ma_cv (H.1 i) 8 d 128 [.ref i] H (ma_kC d 171 Q 22 l st 0 0)) := wc_V0 (ia := 128) (n := 1) (cn := 8) rfl (by decide +kernel) (fun _ => rfl) rfl rfl
theorem w171_22 : ma_W d 171 Q 22 l [.int x] H 0 0 = Q (some (.int x)) H := wp_iret rfl rfl
theorem w171_23 : ma_W d 171 Q 23 l st H 0 0 = ma_W d 171 Q 24 l (.int (-1) :: st) H 0 0 := wp_iconst rfl (by decide)
theorem w171_24 : ma_W d 171 Q 24 (o0 :: o1 :: o2 :: p :: l) (.int x :: st) H 0 0 = ma_W d 171 Q 25 (o0 :: o1 :: ma_clr o2 :: some (.int x) :: l) st H 0 0 := wp_istore_n (id := 171) (pc := 24) (k := 3) rfl (Nat.succ_lt_succ (Nat.succ_lt_succ (Nat.succ_lt_succ (Nat.zero_lt_succ _))))
theorem w171_25 : ma_W d 171 Q 25 l st H 0 0 = ma_W d 171 Q 28 l (.int 2001 :: st) H 0 0 := wp_sipush rfl (by decide)
theorem w171_28 : ma_W d 171 Q 28 (o0 :: o1 :: o2 :: o3 :: p :: l) (.int x :: st) H 0 0 = ma_W d 171 Q 30 (o0 :: o1 :: o2 :: ma_clr o3 :: some (.int x) :: l) st H 0 0 := wp_istore (id := 171) (pc := 28) (k := 4) rfl (Nat.succ_lt_succ (Nat.succ_lt_succ (Nat.succ_lt_succ (Nat.succ_lt_succ (Nat.zero_lt_succ _)))))
theorem w171_30 : ma_W d 171 Q 30 l st H 0 0 = ma_W d 171 Q 31 l (.int 0 :: st) H 0 0 := wp_iconst rfl (by decide)
theorem w171_31 : ma_W d 171 Q 31 (o0 :: o1 :: o2 :: o3 :: o4 :: p :: l) (.int x :: st) H 0 0 = ma_W d 171 Q 33 (o0 :: o1 :: o2 :: o3 :: ma_clr o4 :: some (.int x) :: l) st H 0 0 := wp_istore (id := 171) (pc := 31) (k := 5) rfl (Nat.succ_lt_succ (Nat.succ_lt_succ (Nat.succ_lt_succ (Nat.succ_lt_succ (Nat.succ_lt_succ (Nat.zero_lt_succ _))))))
theorem w171_33 : ma_W d 171 Q 33 (o0 :: o1 :: o2 :: o3 :: o4 :: some (.int x) :: l) st H 0 0 = ma_W d 171 Q 35 (o0 :: o1 :: o2 :: o3 :: o4 :: some (.int x) :: l) (.int x :: st) H 0 0 := wp_iload rfl rfl
theorem w171_35 : ma_W d 171 Q 35 (some (.ref i) :: l) st H 0 0 = ma_W d 171 Q 36 (some (.ref i) :: l) (.ref i :: st) H 0 0 := wp_aload_n (x := some i) rfl rfl
theorem w171_36 : ma_W d 171 Q 36 l (.ref i :: st) H 0 0 = ma_gf (H.1 i) 8 0 (ma_kV d 171 Q 39 l st H 0 0) := wp_get rfl (by decide +kernel)
theorem w171_39 : ma_W d 171 Q 39 l st H 0 0 = ma_W d 171 Q 41 l (.int 7 :: st) H 0 0 := wp_bipush rfl (by decide)
theorem w171_41 : ma_W d 171 Q 41 (o0 :: some (.int x) :: l) st H 0 0 = ma_W d 171 Q 42 (o0 :: some (.int x) :: l) (.int x :: st) H 0 0 := wp_iload_n rfl rfl
theorem w171_42 : ma_W d 171 Q 42 l (.int y :: .int x :: st) H 0 0 = ma_W d 171 Q 43 l (.int (x + y) :: st) H 0 0 := wp_iadd rfl
theorem w171_43 : ma_W d 171 Q 43 l (.int x :: .ref i :: st) H 0 0 = ma_ial (H.1 i) x (ma_kV d 171 Q 44 l st H 0 0) := wp_iald rfl
theorem w171_44 : ma_W d 171 Q 44 l (.int y :: .int x :: st) H 0 0 = ma_if (y ≤ x) d 171 Q 117 47 l st H 0 0 := wp_ic (id := 171) (pc := 44) (c := .ge) (off := 73) 117 rfl (by decide)
theorem w171_47 : ma_W d 171 Q 47 (some (.ref i) :: l) st H 0 0 = ma_W d 171 Q 48 (some (.ref i) :: l) (.ref i :: st) H 0 0 := wp_aload_n (x := some i) rfl rfl
theorem w171_48 : ma_W d 171 Q 48 l (.ref i :: st) H 0 0 = (ma_cat st ≤ 8 ∧ ma_cv (H.1 i) 8 d 160 [.ref i] H (ma_kC d 171 Q 51 l st 0 0)) := wc_V0 (ia := 160) (n := 1) (cn := 8) rfl (by decide +kernel) (fun _ => rfl) rfl rfl
theorem w171_51 : ma_W d 171 Q 51 (some (.ref i) :: l) st H 0 0 = ma_W d 171 Q 52 (some (.ref i) :: l) (.ref i :: st) H 0 0 := wp_aload_n (x := some i) rfl rfl
theorem w171_52 : ma_W d 171 Q 52 (o0 :: some (.int x) :: l) st H 0 0 = ma_W d 171 Q 53 (o0 :: some (.int x) :: l) (.int x :: st) H 0 0 := wp_iload_n rfl rfl
theorem w171_53 : ma_W d 171 Q 53 (o0 :: o1 :: o2 :: o3 :: o4 :: some (.int x) :: l) st H 0 0 = ma_W d 171 Q 55 (o0 :: o1 :: o2 :: o3 :: o4 :: some (.int x) :: l) (.int x :: st) H 0 0 := wp_iload rfl rfl
theorem w171_55 : ma_W d 171 Q 55 l (.int x1 :: .int x0 :: .ref i :: st) H 0 0 = (ma_cat st ≤ 8 ∧ ma_cv (H.1 i) 8 d 170 [.ref i, .int x0, .int x1] H (ma_kC d 171 Q 58 l st 0 0)) := wc_V0 (ia := 170) (n := 3) (cn := 8) rfl (by decide +kernel) (fun _ => rfl) rfl rfl
theorem w171_58 : ma_W d 171 Q 58 (some (.ref i) :: l) st H 0 0 = ma_W d 171 Q 59 (some (.ref i) :: l) (.ref i :: st) H 0 0 := wp_aload_n (x := some i) rfl rfl
theorem w171_59 : ma_W d 171 Q 59 (o0 :: some (.int x) :: l) st H 0 0 = ma_W d 171 Q 60 (o0 :: some (.int x) :: l) (.int x :: st) H 0 0 := wp_iload_n rfl rfl
theorem w171_60 : ma_W d 171 Q 60 l (.int x0 :: .ref i :: st) H 0 0 = (ma_cat st ≤ 8 ∧ ma_cv (H.1 i) 8 d 163 [.ref i, .int x0] H (ma_kC d 171 Q 63 l st 0 0)) := wc_V0 (ia := 163) (n := 2) (cn := 8) rfl (by decide +kernel) (fun _ => rfl) rfl rfl
theorem w171_63 : ma_W d 171 Q 63 (o0 :: o1 :: o2 :: o3 :: o4 :: o5 :: p :: l) (.int x :: st) H 0 0 = ma_W d 171 Q 65 (o0 :: o1 :: o2 :: o3 :: o4 :: ma_clr o5 :: some (.int x) :: l) st H 0 0 := wp_istore (id := 171) (pc := 63) (k := 6) rfl (Nat.succ_lt_succ (Nat.succ_lt_succ (Nat.succ_lt_succ (Nat.succ_lt_succ (Nat.succ_lt_succ (Nat.succ_lt_succ (Nat.zero_lt_succ _)))))))
theorem w171_65 : ma_W d 171 Q 65 (o0 :: o1 :: o2 :: o3 :: o4 :: o5 :: some (.int x) :: l) st H 0 0 = ma_W d 171 Q 67 (o0 :: o1 :: o2 :: o3 :: o4 :: o5 :: some (.int x) :: l) (.int x :: st) H 0 0 := wp_iload rfl rfl
theorem w171_67 : ma_W d 171 Q 67 l st H 0 0 = ma_W d 171 Q 68 l (.int (-1) :: st) H 0 0 := wp_iconst rfl (by decide)
theorem w171_68 : ma_W d 171 Q 68 l (.int y :: .int x :: st) H 0 0 = ma_if (x = y) d 171 Q 82 71 l st H 0 0 := wp_ic (id := 171) (pc := 68) (c := .eq) (off := 14) 82 rfl (by decide)
theorem w171_71 : ma_W d 171 Q 71 (o0 :: o1 :: o2 :: o3 :: o4 :: o5 :: some (.int x) :: l) st H 0 0 = ma_W d 171 Q 73 (o0 :: o1 :: o2 :: o3 :: o4 :: o5 :: some (.int x) :: l) (.int x :: st) H 0 0 := wp_iload rfl rfl
theorem w171_73 : ma_W d 171 Q 73 (o0 :: o1 :: o2 :: o3 :: some (.int x) :: l) st H 0 0 = ma_W d 171 Q 75 (o0 :: o1 :: o2 :: o3 :: some (.int x) :: l) (.int x :: st) H 0 0 := wp_iload rfl rfl
theorem w171_75 : ma_W d 171 Q 75 l (.int y :: .int x :: st) H 0 0 = ma_if (y ≤ x) d 171 Q 82 78 l st H 0 0 := wp_ic (id := 171) (pc := 75) (c := .ge) (off := 7) 82 rfl (by decide)
theorem w171_78 : ma_W d 171 Q 78 l st H 0 0 = ma_W d 171 Q 79 l (.int 1 :: st) H 0 0 := wp_iconst rfl (by decide)
theorem w171_79 : ma_W d 171 Q 79 l st H 0 0 = ma_W d 171 Q 83 l st H 0 0 := wp_goto 83 rfl (by decide)
theorem w171_82 : ma_W d 171 Q 82 l st H 0 0 = ma_W d 171 Q 83 l (.int 0 :: st) H 0 0 := wp_iconst rfl (by decide)
theorem w171_83 : ma_W d 171 Q 83 (o0 :: o1 :: o2 :: o3 :: o4 :: o5 :: o6 :: p :: l) (.int x :: st) H 0 0 = ma_W d 171 Q 85 (o0 :: o1 :: o2 :: o3 :: o4 :: o5 :: ma_clr o6 :: some (.int x) :: l) st H 0 0 := wp_istore (id := 171) (pc := 83) (k := 7) rfl (Nat.succ_lt_succ (Nat.succ_lt_succ (Nat.succ_lt_succ (Nat.succ_lt_succ (Nat.succ_lt_succ (Nat.succ_lt_succ (Nat.succ_lt_succ (Nat.zero_lt_succ _))))))))
theorem w171_85 : ma_W d 171 Q 85 (o0 :: o1 :: o2 :: o3 :: o4 :: o5 :: o6 :: some (.int x) :: l) st H 0 0 = ma_W d 171 Q 87 (o0 :: o1 :: o2 :: o3 :: o4 :: o5 :: o6 :: some (.int x) :: l) (.int x :: st) H 0 0 := wp_iload rfl rfl
theorem w171_87 : ma_W d 171 Q 87 l (.int x :: st) H 0 0 = ma_if (x = 0) d 171 Q 95 90 l st H 0 0 := wp_c0 (id := 171) (pc := 87) (c := .eq) (off := 8) 95 rfl (by decide)
theorem w171_90 : ma_W d 171 Q 90 (o0 :: o1 :: o2 :: o3 :: o4 :: some (.int x) :: l) st H 0 0 = ma_W d 171 Q 92 (o0 :: o1 :: o2 :: o3 :: o4 :: some (.int x) :: l) (.int x :: st) H 0 0 := wp_iload rfl rfl
theorem w171_92 : ma_W d 171 Q 92 l st H 0 0 = ma_W d 171 Q 96 l st H 0 0 := wp_goto 96 rfl (by decide)
theorem w171_95 : ma_W d 171 Q 95 (o0 :: o1 :: o2 :: some (.int x) :: l) st H 0 0 = ma_W d 171 Q 96 (o0 :: o1 :: o2 :: some (.int x) :: l) (.int x :: st) H 0 0 := wp_iload_n rfl rfl
theorem w171_96 : ma_W d 171 Q 96 (o0 :: o1 :: o2 :: p :: l) (.int x :: st) H 0 0 = ma_W d 171 Q 97 (o0 :: o1 :: ma_clr o2 :: some (.int x) :: l) st H 0 0 := wp_istore_n (id := 171) (pc := 96) (k := 3) rfl (Nat.succ_lt_succ (Nat.succ_lt_succ (Nat.succ_lt_succ (Nat.zero_lt_succ _))))
theorem w171_97 : ma_W d 171 Q 97 (o0 :: o1 :: o2 :: o3 :: o4 :: o5 :: o6 :: some (.int x) :: l) st H 0 0 = ma_W d 171 Q 99 (o0 :: o1 :: o2 :: o3 :: o4 :: o5 :: o6 :: some (.int x) :: l) (.int x :: st) H 0 0 := wp_iload rfl rfl
theorem w171_99 : ma_W d 171 Q 99 l (.int x :: st) H 0 0 = ma_if (x = 0) d 171 Q 107 102 l st H 0 0 := wp_c0 (id := 171) (pc := 99) (c := .eq) (off := 8) 107 rfl (by decide)
theorem w171_102 : ma_W d 171 Q 102 (o0 :: o1 :: o2 :: o3 :: o4 :: o5 :: some (.int x) :: l) st H 0 0 = ma_W d 171 Q 104 (o0 :: o1 :: o2 :: o3 :: o4 :: o5 :: some (.int x) :: l) (.int x :: st) H 0 0 := wp_iload rfl rfl
theorem w171_104 : ma_W d 171 Q 104 l st H 0 0 = ma_W d 171 Q 109 l st H 0 0 := wp_goto 109 rfl (by decide)
theorem w171_107 : ma_W d 171 Q 107 (o0 :: o1 :: o2 :: o3 :: some (.int x) :: l) st H 0 0 = ma_W d 171 Q 109 (o0 :: o1 :: o2 :: o3 :: some (.int x) :: l) (.int x :: st) H 0 0 := wp_iload rfl rfl
theorem w171_109 : ma_W d 171 Q 109 (o0 :: o1 :: o2 :: o3 :: p :: l) (.int x :: st) H 0 0 = ma_W d 171 Q 111 (o0 :: o1 :: o2 :: ma_clr o3 :: some (.int x) :: l) st H 0 0 := wp_istore (id := 171) (pc := 109) (k := 4) rfl (Nat.succ_lt_succ (Nat.succ_lt_succ (Nat.succ_lt_succ (Nat.succ_lt_succ (Nat.zero_lt_succ _)))))
theorem w171_111 : ma_W d 171 Q 111 (o0 :: o1 :: o2 :: o3 :: o4 :: some (.int x) :: l) st H 0 0 = ma_W d 171 Q 114 (o0 :: o1 :: o2 :: o3 :: ma_clr o4 :: some (.int (x + 1)) :: l) st H 0 0 := wp_iinc (id := 171) (pc := 111) (k := 5) (n := 1) rfl (Nat.succ_lt_succ (Nat.succ_lt_succ (Nat.succ_lt_succ (Nat.succ_lt_succ (Nat.succ_lt_succ (Nat.zero_lt_succ _)))))) rfl (by decide)
theorem w171_114 : ma_W d 171 Q 114 l st H 0 0 = ma_W d 171 Q 33 l st H 0 0 := wp_goto 33 rfl (by decide)
theorem w171_117 : ma_W d 171 Q 117 (o0 :: o1 :: o2 :: some (.int x) :: l) st H 0 0 = ma_W d 171 Q 118 (o0 :: o1 :: o2 :: some (.int x) :: l) (.int x :: st) H 0 0 := wp_iload_n rfl rfl
theorem w171_118 : ma_W d 171 Q 118 l st H 0 0 = ma_W d 171 Q 119 l (.int (-1) :: st) H 0 0 := wp_iconst rfl (by decide)
theorem w171_119 : ma_W d 171 Q 119 l (.int y :: .int x :: st) H 0 0 = ma_if (x = y) d 171 Q 126 122 l st H 0 0 := wp_ic (id := 171) (pc := 119) (c := .eq) (off := 7) 126 rfl (by decide)
theorem w171_122 : ma_W d 171 Q 122 (o0 :: o1 :: some (.int x) :: l) st H 0 0 = ma_W d 171 Q 123 (o0 :: o1 :: some (.int x) :: l) (.int x :: st) H 0 0 := wp_iload_n rfl rfl
theorem w171_123 : ma_W d 171 Q 123 l (.int x :: st) H 0 0 = ma_if (x = 0) d 171 Q 126 130 l st H 0 0 := wp_c0 (id := 171) (pc := 123) (c := .ne) (off := 7) 130 rfl (by decide)
theorem w171_126 : ma_W d 171 Q 126 (o0 :: o1 :: o2 :: some (.int x) :: l) st H 0 0 = ma_W d 171 Q 127 (o0 :: o1 :: o2 :: some (.int x) :: l) (.int x :: st) H 0 0 := wp_iload_n rfl rfl
theorem w171_127 : ma_W d 171 Q 127 l st H 0 0 = ma_W d 171 Q 132 l st H 0 0 := wp_goto 132 rfl (by decide)
theorem w171_130 : ma_W d 171 Q 130 (o0 :: o1 :: o2 :: o3 :: some (.int x) :: l) st H 0 0 = ma_W d 171 Q 132 (o0 :: o1 :: o2 :: o3 :: some (.int x) :: l) (.int x :: st) H 0 0 := wp_iload rfl rfl
theorem w171_132 : ma_W d 171 Q 132 l [.int x] H 0 0 = Q (some (.int x)) H := wp_iret rfl rfl
theorem e171 : ma_MW (d + 1) 171 [.ref i, .int x0, .int x1] H Q = ma_W d 171 Q 0 [some (.ref i), some (.int x0), some (.int x1), none, none, none, none, none] [] H 0 0 := wp_enter (by decide) (Nat.le_of_ble_eq_true rfl) rfl
/-! 172 mo_note -/
theorem w172_0 : ma_W d 172 Q 0 (o0 :: some (.int x) :: l) st H 0 0 = ma_W d 172 Q 1 (o0 :: some (.int x) :: l) (.int x :: st) H 0 0 := wp_iload_n rfl rfl
theorem w172_1 : ma_W d 172 Q 1 l st H 0 0 = ma_W d 172 Q 2 l (.int 1 :: st) H 0 0 := wp_iconst rfl (by decide)
theorem w172_2 : ma_W d 172 Q 2 l st H 0 0 = ma_W d 172 Q 4 l (.int 16 :: st) H 0 0 := wp_bipush rfl (by decide)
theorem w172_4 : ma_W d 172 Q 4 l (.int x2 :: .int x1 :: .int x0 :: st) H 0 0 = (ma_cat st ≤ 8 ∧ ma_MW d 125 [.int x0, .int x1, .int x2] H (ma_kC d 172 Q 7 l st 0 0)) := wc_S0 (ia := 125) (n := 3) (cn := 8) (k := 1) rfl (by decide +kernel) (by decide) (fun _ => rfl) rfl rfl
theorem w172_7 : ma_W d 172 Q 7 l (.int x :: st) H 0 0 = ma_if (x = 0) d 172 Q 20 10 l st H 0 0 := wp_c0 (id := 172) (pc := 7) (c := .eq) (off := 13) 20 rfl (by decide)
theorem w172_10 : ma_W d 172 Q 10 (o0 :: o1 :: some (.int x) :: l) st H 0 0 = ma_W d 172 Q 11 (o0 :: o1 :: some (.int x) :: l) (.int x :: st) H 0 0 := wp_iload_n rfl rfl
theorem w172_11 : ma_W d 172 Q 11 l st H 0 0 = ma_W d 172 Q 12 l (.int 0 :: st) H 0 0 := wp_iconst rfl (by decide)
theorem w172_12 : ma_W d 172 Q 12 l st H 0 0 = ma_W d 172 Q 14 l (.int 9 :: st) H 0 0 := wp_bipush rfl (by decide)
theorem w172_14 : ma_W d 172 Q 14 l (.int x2 :: .int x1 :: .int x0 :: st) H 0 0 = (ma_cat st ≤ 8 ∧ ma_MW d 125 [.int x0, .int x1, .int x2] H (ma_kC d 172 Q 17 l st 0 0)) := wc_S0 (ia := 125) (n := 3) (cn := 8) (k := 1) rfl (by decide +kernel) (by decide) (fun _ => rfl) rfl rfl
theorem w172_17 : ma_W d 172 Q 17 l (.int x :: st) H 0 0 = ma_if (x = 0) d 172 Q 20 25 l st H 0 0 := wp_c0 (id := 172) (pc := 17) (c := .ne) (off := 8) 25 rfl (by decide)
theorem w172_20 : ma_W d 172 Q 20 (some (.ref i) :: l) st H 0 0 = ma_W d 172 Q 21 (some (.ref i) :: l) (.ref i :: st) H 0 0 := wp_aload_n (x := some i) rfl rfl
theorem w172_21 : ma_W d 172 Q 21 l (.ref i :: st) H 0 0 = (ma_cat st ≤ 8 ∧ ma_cv (H.1 i) 8 d 128 [.ref i] H (ma_kC d 172 Q 24 l st 0 0)) := wc_V0 (ia := 128) (n := 1) (cn := 8) rfl (by decide +kernel) (fun _ => rfl) rfl rfl
theorem w172_24 : ma_W d 172 Q 24 l [.int x] H 0 0 = Q (some (.int x)) H := wp_iret rfl rfl
theorem w172_25 : ma_W d 172 Q 25 (some (.ref i) :: l) st H 0 0 = ma_W d 172 Q 26 (some (.ref i) :: l) (.ref i :: st) H 0 0 := wp_aload_n (x := some i) rfl rfl
theorem w172_26 : ma_W d 172 Q 26 l (.ref i :: st) H 0 0 = ma_gf (H.1 i) 8 0 (ma_kV d 172 Q 29 l st H 0 0) := wp_get rfl (by decide +kernel)
theorem w172_29 : ma_W d 172 Q 29 l st H 0 0 = ma_W d 172 Q 31 l (.int 58 :: st) H 0 0 := wp_bipush rfl (by decide)
theorem w172_31 : ma_W d 172 Q 31 l (.int x :: .ref i :: st) H 0 0 = ma_ial (H.1 i) x (ma_kV d 172 Q 32 l st H 0 0) := wp_iald rfl
theorem w172_32 : ma_W d 172 Q 32 l st H 0 0 = ma_W d 172 Q 34 l (.int 6 :: st) H 0 0 := wp_bipush rfl (by decide)
theorem w172_34 : ma_W d 172 Q 34 l (.int y :: .int x :: st) H 0 0 = ma_if (x = y) d 172 Q 37 42 l st H 0 0 := wp_ic (id := 172) (pc := 34) (c := .ne) (off := 8) 42 rfl (by decide)
theorem w172_37 : ma_W d 172 Q 37 (some (.ref i) :: l) st H 0 0 = ma_W d 172 Q 38 (some (.ref i) :: l) (.ref i :: st) H 0 0 := wp_aload_n (x := some i) rfl rfl
theorem w172_38 : ma_W d 172 Q 38 l (.ref i :: st) H 0 0 = (ma_cat st ≤ 8 ∧ ma_cv (H.1 i) 8 d 130 [.ref i] H (ma_kC d 172 Q 41 l st 0 0)) := wc_V0 (ia := 130) (n := 1) (cn := 8) rfl (by decide +kernel) (fun _ => rfl) rfl rfl
theorem w172_41 : ma_W d 172 Q 41 l [.int x] H 0 0 = Q (some (.int x)) H := wp_iret rfl rfl
theorem w172_42 : ma_W d 172 Q 42 (some (.ref i) :: l) st H 0 0 = ma_W d 172 Q 43 (some (.ref i) :: l) (.ref i :: st) H 0 0 := wp_aload_n (x := some i) rfl rfl
theorem w172_43 : ma_W d 172 Q 43 l (.ref i :: st) H 0 0 = ma_gf (H.1 i) 8 0 (ma_kV d 172 Q 46 l st H 0 0) := wp_get rfl (by decide +kernel)
theorem w172_46 : ma_W d 172 Q 46 l st H 0 0 = ma_W d 172 Q 48 l (.int 59 :: st) H 0 0 := wp_bipush rfl (by decide)
theorem w172_48 : ma_W d 172 Q 48 l st H 0 0 = ma_W d 172 Q 49 l (.int 2 :: st) H 0 0 := wp_iconst rfl (by decide)
theorem w172_49 : ma_W d 172 Q 49 (some (.ref i) :: l) st H 0 0 = ma_W d 172 Q 50 (some (.ref i) :: l) (.ref i :: st) H 0 0 := wp_aload_n (x := some i) rfl rfl
theorem w172_50 : ma_W d 172 Q 50 l (.ref i :: st) H 0 0 = ma_gf (H.1 i) 8 0 (ma_kV d 172 Q 53 l st H 0 0) := wp_get rfl (by decide +kernel)
theorem w172_53 : ma_W d 172 Q 53 l st H 0 0 = ma_W d 172 Q 55 l (.int 58 :: st) H 0 0 := wp_bipush rfl (by decide)
theorem w172_55 : ma_W d 172 Q 55 l (.int x :: .ref i :: st) H 0 0 = ma_ial (H.1 i) x (ma_kV d 172 Q 56 l st H 0 0) := wp_iald rfl
theorem w172_56 : ma_W d 172 Q 56 l (.int y :: .int x :: st) H 0 0 = ma_W d 172 Q 57 l (.int (x * y) :: st) H 0 0 := wp_imul rfl
theorem w172_57 : ma_W d 172 Q 57 l (.int y :: .int x :: st) H 0 0 = ma_W d 172 Q 58 l (.int (x + y) :: st) H 0 0 := wp_iadd rfl
theorem w172_58 : ma_W d 172 Q 58 (o0 :: some (.int x) :: l) st H 0 0 = ma_W d 172 Q 59 (o0 :: some (.int x) :: l) (.int x :: st) H 0 0 := wp_iload_n rfl rfl
theorem w172_59 : ma_W d 172 Q 59 l (.int y :: .int x :: .ref i :: st) H 0 0 = (4 ≤ i ∧ ma_ias (H.1 i) x y (ma_kH d 172 Q 60 l st H i 0 0)) := wp_iast rfl
theorem w172_60 : ma_W d 172 Q 60 (some (.ref i) :: l) st H 0 0 = ma_W d 172 Q 61 (some (.ref i) :: l) (.ref i :: st) H 0 0 := wp_aload_n (x := some i) rfl rfl
theorem w172_61 : ma_W d 172 Q 61 l (.ref i :: st) H 0 0 = ma_gf (H.1 i) 8 0 (ma_kV d 172 Q 64 l st H 0 0) := wp_get rfl (by decide +kernel)
theorem w172_64 : ma_W d 172 Q 64 l st H 0 0 = ma_W d 172 Q 66 l (.int 59 :: st) H 0 0 := wp_bipush rfl (by decide)
theorem w172_66 : ma_W d 172 Q 66 l st H 0 0 = ma_W d 172 Q 67 l (.int 2 :: st) H 0 0 := wp_iconst rfl (by decide)
theorem w172_67 : ma_W d 172 Q 67 (some (.ref i) :: l) st H 0 0 = ma_W d 172 Q 68 (some (.ref i) :: l) (.ref i :: st) H 0 0 := wp_aload_n (x := some i) rfl rfl
theorem w172_68 : ma_W d 172 Q 68 l (.ref i :: st) H 0 0 = ma_gf (H.1 i) 8 0 (ma_kV d 172 Q 71 l st H 0 0) := wp_get rfl (by decide +kernel)
theorem w172_71 : ma_W d 172 Q 71 l st H 0 0 = ma_W d 172 Q 73 l (.int 58 :: st) H 0 0 := wp_bipush rfl (by decide)
theorem w172_73 : ma_W d 172 Q 73 l (.int x :: .ref i :: st) H 0 0 = ma_ial (H.1 i) x (ma_kV d 172 Q 74 l st H 0 0) := wp_iald rfl
theorem w172_74 : ma_W d 172 Q 74 l (.int y :: .int x :: st) H 0 0 = ma_W d 172 Q 75 l (.int (x * y) :: st) H 0 0 := wp_imul rfl
theorem w172_75 : ma_W d 172 Q 75 l (.int y :: .int x :: st) H 0 0 = ma_W d 172 Q 76 l (.int (x + y) :: st) H 0 0 := wp_iadd rfl
theorem w172_76 : ma_W d 172 Q 76 l st H 0 0 = ma_W d 172 Q 77 l (.int 1 :: st) H 0 0 := wp_iconst rfl (by decide)
theorem w172_77 : ma_W d 172 Q 77 l (.int y :: .int x :: st) H 0 0 = ma_W d 172 Q 78 l (.int (x + y) :: st) H 0 0 := wp_iadd rfl
theorem w172_78 : ma_W d 172 Q 78 (o0 :: o1 :: some (.int x) :: l) st H 0 0 = ma_W d 172 Q 79 (o0 :: o1 :: some (.int x) :: l) (.int x :: st) H 0 0 := wp_iload_n rfl rfl
theorem w172_79 : ma_W d 172 Q 79 l (.int y :: .int x :: .ref i :: st) H 0 0 = (4 ≤ i ∧ ma_ias (H.1 i) x y (ma_kH d 172 Q 80 l st H i 0 0)) := wp_iast rfl
theorem w172_80 : ma_W d 172 Q 80 (some (.ref i) :: l) st H 0 0 = ma_W d 172 Q 81 (some (.ref i) :: l) (.ref i :: st) H 0 0 := wp_aload_n (x := some i) rfl rfl
theorem w172_81 : ma_W d 172 Q 81 l (.ref i :: st) H 0 0 = ma_gf (H.1 i) 8 0 (ma_kV d 172 Q 84 l st H 0 0) := wp_get rfl (by decide +kernel)
theorem w172_84 : ma_W d 172 Q 84 l st H 0 0 = ma_W d 172 Q 86 l (.int 58 :: st) H 0 0 := wp_bipush rfl (by decide)
theorem w172_86 : ma_W d 172 Q 86 l (.int x :: .ref i :: st) H 0 0 = ma_W d 172 Q 87 l (.int x :: .ref i :: .int x :: .ref i :: st) H 0 0 := wp_dup2 rfl rfl rfl
theorem w172_87 : ma_W d 172 Q 87 l (.int x :: .ref i :: st) H 0 0 = ma_ial (H.1 i) x (ma_kV d 172 Q 88 l st H 0 0) := wp_iald rfl
theorem w172_88 : ma_W d 172 Q 88 l st H 0 0 = ma_W d 172 Q 89 l (.int 1 :: st) H 0 0 := wp_iconst rfl (by decide)
theorem w172_89 : ma_W d 172 Q 89 l (.int y :: .int x :: st) H 0 0 = ma_W d 172 Q 90 l (.int (x + y) :: st) H 0 0 := wp_iadd rfl
theorem w172_90 : ma_W d 172 Q 90 l (.int y :: .int x :: .ref i :: st) H 0 0 = (4 ≤ i ∧ ma_ias (H.1 i) x y (ma_kH d 172 Q 91 l st H i 0 0)) := wp_iast rfl
theorem w172_91 : ma_W d 172 Q 91 (some (.ref i) :: l) st H 0 0 = ma_W d 172 Q 92 (some (.ref i) :: l) (.ref i :: st) H 0 0 := wp_aload_n (x := some i) rfl rfl
theorem w172_92 : ma_W d 172 Q 92 l (.ref i :: st) H 0 0 = ma_gf (H.1 i) 8 0 (ma_kV d 172 Q 95 l st H 0 0) := wp_get rfl (by decide +kernel)
theorem w172_95 : ma_W d 172 Q 95 l st H 0 0 = ma_W d 172 Q 97 l (.int 58 :: st) H 0 0 := wp_bipush rfl (by decide)
theorem w172_97 : ma_W d 172 Q 97 l (.int x :: .ref i :: st) H 0 0 = ma_ial (H.1 i) x (ma_kV d 172 Q 98 l st H 0 0) := wp_iald rfl
theorem w172_98 : ma_W d 172 Q 98 l [.int x] H 0 0 = Q (some (.int x)) H := wp_iret rfl rfl
theorem e172 : ma_MW (d + 1) 172 [.ref i, .int x0, .int x1] H Q = ma_W d 172 Q 0 [some (.ref i), some (.int x0), some (.int x1)] [] H 0 0 := wp_enter (by decide) (Nat.le_of_ble_eq_true rfl) rfl
/-! 173 mo_mark -/
theorem w173_0 : ma_W d 173 Q 0 (o0 :: some (.int x) :: l) st H 0 0 = ma_W d 173 Q 1 (o0 :: some (.int x) :: l) (.int x :: st) H 0 0 := wp_iload_n rfl rfl
theorem w173_1 : ma_W d 173 Q 1 l st H 0 0 = ma_W d 173 Q 2 l (.int 0 :: st) H 0 0 := wp_iconst rfl (by decide)
theorem w173_2 : ma_W d 173 Q 2 l st H 0 0 = ma_W d 173 Q 3 l (.int 1 :: st) H 0 0 := wp_iconst rfl (by decide)
theorem w173_3 : ma_W d 173 Q 3 l (.int x2 :: .int x1 :: .int x0 :: st) H 0 0 = (ma_cat st ≤ 8 ∧ ma_MW d 125 [.int x0, .int x1, .int x2] H (ma_kC d 173 Q 6 l st 0 0)) := wc_S0 (ia := 125) (n := 3) (cn := 8) (k := 1) rfl (by decide +kernel) (by decide) (fun _ => rfl) rfl rfl
theorem w173_6 : ma_W d 173 Q 6 l (.int x :: st) H 0 0 = ma_if (x = 0) d 173 Q 41 9 l st H 0 0 := wp_c0 (id := 173) (pc := 6) (c := .eq) (off := 35) 41 rfl (by decide)
theorem w173_9 : ma_W d 173 Q 9 (o0 :: o1 :: some (.int x) :: l) st H 0 0 = ma_W d 173 Q 10 (o0 :: o1 :: some (.int x) :: l) (.int x :: st) H 0 0 := wp_iload_n rfl rfl
theorem w173_10 : ma_W d 173 Q 10 l st H 0 0 = ma_W d 173 Q 11 l (.int 1 :: st) H 0 0 := wp_iconst rfl (by decide)
theorem w173_11 : ma_W d 173 Q 11 l st H 0 0 = ma_W d 173 Q 13 l (.int 16 :: st) H 0 0 := wp_bipush rfl (by decide)
theorem w173_13 : ma_W d 173 Q 13 l (.int x2 :: .int x1 :: .int x0 :: st) H 0 0 = (ma_cat st ≤ 8 ∧ ma_MW d 125 [.int x0, .int x1, .int x2] H (ma_kC d 173 Q 16 l st 0 0)) := wc_S0 (ia := 125) (n := 3) (cn := 8) (k := 1) rfl (by decide +kernel) (by decide) (fun _ => rfl) rfl rfl
theorem w173_16 : ma_W d 173 Q 16 l (.int x :: st) H 0 0 = ma_if (x = 0) d 173 Q 41 19 l st H 0 0 := wp_c0 (id := 173) (pc := 16) (c := .eq) (off := 25) 41 rfl (by decide)
theorem w173_19 : ma_W d 173 Q 19 (o0 :: o1 :: o2 :: some (.int x) :: l) st H 0 0 = ma_W d 173 Q 20 (o0 :: o1 :: o2 :: some (.int x) :: l) (.int x :: st) H 0 0 := wp_iload_n rfl rfl
theorem w173_20 : ma_W d 173 Q 20 l st H 0 0 = ma_W d 173 Q 21 l (.int 0 :: st) H 0 0 := wp_iconst rfl (by decide)
theorem w173_21 : ma_W d 173 Q 21 (o0 :: o1 :: some (.int x) :: l) st H 0 0 = ma_W d 173 Q 22 (o0 :: o1 :: some (.int x) :: l) (.int x :: st) H 0 0 := wp_iload_n rfl rfl
theorem w173_22 : ma_W d 173 Q 22 l st H 0 0 = ma_W d 173 Q 23 l (.int 1 :: st) H 0 0 := wp_iconst rfl (by decide)
theorem w173_23 : ma_W d 173 Q 23 l (.int y :: .int x :: st) H 0 0 = ma_W d 173 Q 24 l (.int (x - y) :: st) H 0 0 := wp_isub rfl
theorem w173_24 : ma_W d 173 Q 24 l (.int x2 :: .int x1 :: .int x0 :: st) H 0 0 = (ma_cat st ≤ 8 ∧ ma_MW d 125 [.int x0, .int x1, .int x2] H (ma_kC d 173 Q 27 l st 0 0)) := wc_S0 (ia := 125) (n := 3) (cn := 8) (k := 1) rfl (by decide +kernel) (by decide) (fun _ => rfl) rfl rfl
theorem w173_27 : ma_W d 173 Q 27 l (.int x :: st) H 0 0 = ma_if (x = 0) d 173 Q 41 30 l st H 0 0 := wp_c0 (id := 173) (pc := 27) (c := .eq) (off := 14) 41 rfl (by decide)
theorem w173_30 : ma_W d 173 Q 30 (o0 :: o1 :: o2 :: o3 :: some (.int x) :: l) st H 0 0 = ma_W d 173 Q 32 (o0 :: o1 :: o2 :: o3 :: some (.int x) :: l) (.int x :: st) H 0 0 := wp_iload rfl rfl
theorem w173_32 : ma_W d 173 Q 32 l st H 0 0 = ma_W d 173 Q 33 l (.int 0 :: st) H 0 0 := wp_iconst rfl (by decide)
theorem w173_33 : ma_W d 173 Q 33 l st H 0 0 = ma_W d 173 Q 35 l (.int 15 :: st) H 0 0 := wp_bipush rfl (by decide)
theorem w173_35 : ma_W d 173 Q 35 l (.int x2 :: .int x1 :: .int x0 :: st) H 0 0 = (ma_cat st ≤ 8 ∧ ma_MW d 125 [.int x0, .int x1, .int x2] H (ma_kC d 173 Q 38 l st 0 0)) := wc_S0 (ia := 125) (n := 3) (cn := 8) (k := 1) rfl (by decide +kernel) (by decide) (fun _ => rfl) rfl rfl
theorem w173_38 : ma_W d 173 Q 38 l (.int x :: st) H 0 0 = ma_if (x = 0) d 173 Q 41 46 l st H 0 0 := wp_c0 (id := 173) (pc := 38) (c := .ne) (off := 8) 46 rfl (by decide)
theorem w173_41 : ma_W d 173 Q 41 (some (.ref i) :: l) st H 0 0 = ma_W d 173 Q 42 (some (.ref i) :: l) (.ref i :: st) H 0 0 := wp_aload_n (x := some i) rfl rfl
theorem w173_42 : ma_W d 173 Q 42 l (.ref i :: st) H 0 0 = (ma_cat st ≤ 8 ∧ ma_cv (H.1 i) 8 d 128 [.ref i] H (ma_kC d 173 Q 45 l st 0 0)) := wc_V0 (ia := 128) (n := 1) (cn := 8) rfl (by decide +kernel) (fun _ => rfl) rfl rfl
theorem w173_45 : ma_W d 173 Q 45 l [.int x] H 0 0 = Q (some (.int x)) H := wp_iret rfl rfl
theorem w173_46 : ma_W d 173 Q 46 (some (.ref i) :: l) st H 0 0 = ma_W d 173 Q 47 (some (.ref i) :: l) (.ref i :: st) H 0 0 := wp_aload_n (x := some i) rfl rfl
theorem w173_47 : ma_W d 173 Q 47 l (.ref i :: st) H 0 0 = ma_gf (H.1 i) 8 0 (ma_kV d 173 Q 50 l st H 0 0) := wp_get rfl (by decide +kernel)
theorem w173_50 : ma_W d 173 Q 50 l st H 0 0 = ma_W d 173 Q 52 l (.int 71 :: st) H 0 0 := wp_bipush rfl (by decide)
theorem w173_52 : ma_W d 173 Q 52 l (.int x :: .ref i :: st) H 0 0 = ma_ial (H.1 i) x (ma_kV d 173 Q 53 l st H 0 0) := wp_iald rfl
theorem w173_53 : ma_W d 173 Q 53 l st H 0 0 = ma_W d 173 Q 55 l (.int 6 :: st) H 0 0 := wp_bipush rfl (by decide)
theorem w173_55 : ma_W d 173 Q 55 l (.int y :: .int x :: st) H 0 0 = ma_if (x = y) d 173 Q 58 63 l st H 0 0 := wp_ic (id := 173) (pc := 55) (c := .ne) (off := 8) 63 rfl (by decide)
theorem w173_58 : ma_W d 173 Q 58 (some (.ref i) :: l) st H 0 0 = ma_W d 173 Q 59 (some (.ref i) :: l) (.ref i :: st) H 0 0 := wp_aload_n (x := some i) rfl rfl
theorem w173_59 : ma_W d 173 Q 59 l (.ref i :: st) H 0 0 = (ma_cat st ≤ 8 ∧ ma_cv (H.1 i) 8 d 130 [.ref i] H (ma_kC d 173 Q 62 l st 0 0)) := wc_V0 (ia := 130) (n := 1) (cn := 8) rfl (by decide +kernel) (fun _ => rfl) rfl rfl
theorem w173_62 : ma_W d 173 Q 62 l [.int x] H 0 0 = Q (some (.int x)) H := wp_iret rfl rfl
theorem w173_63 : ma_W d 173 Q 63 l st H 0 0 = ma_W d 173 Q 65 l (.int 72 :: st) H 0 0 := wp_bipush rfl (by decide)
theorem w173_65 : ma_W d 173 Q 65 l st H 0 0 = ma_W d 173 Q 66 l (.int 4 :: st) H 0 0 := wp_iconst rfl (by decide)
theorem w173_66 : ma_W d 173 Q 66 (some (.ref i) :: l) st H 0 0 = ma_W d 173 Q 67 (some (.ref i) :: l) (.ref i :: st) H 0 0 := wp_aload_n (x := some i) rfl rfl
theorem w173_67 : ma_W d 173 Q 67 l (.ref i :: st) H 0 0 = ma_gf (H.1 i) 8 0 (ma_kV d 173 Q 70 l st H 0 0) := wp_get rfl (by decide +kernel)
theorem w173_70 : ma_W d 173 Q 70 l st H 0 0 = ma_W d 173 Q 72 l (.int 71 :: st) H 0 0 := wp_bipush rfl (by decide)
theorem w173_72 : ma_W d 173 Q 72 l (.int x :: .ref i :: st) H 0 0 = ma_ial (H.1 i) x (ma_kV d 173 Q 73 l st H 0 0) := wp_iald rfl
theorem w173_73 : ma_W d 173 Q 73 l (.int y :: .int x :: st) H 0 0 = ma_W d 173 Q 74 l (.int (x * y) :: st) H 0 0 := wp_imul rfl
theorem w173_74 : ma_W d 173 Q 74 l (.int y :: .int x :: st) H 0 0 = ma_W d 173 Q 75 l (.int (x + y) :: st) H 0 0 := wp_iadd rfl
theorem w173_75 : ma_W d 173 Q 75 (o0 :: o1 :: o2 :: o3 :: o4 :: p :: l) (.int x :: st) H 0 0 = ma_W d 173 Q 77 (o0 :: o1 :: o2 :: o3 :: ma_clr o4 :: some (.int x) :: l) st H 0 0 := wp_istore (id := 173) (pc := 75) (k := 5) rfl (Nat.succ_lt_succ (Nat.succ_lt_succ (Nat.succ_lt_succ (Nat.succ_lt_succ (Nat.succ_lt_succ (Nat.zero_lt_succ _))))))
theorem w173_77 : ma_W d 173 Q 77 (some (.ref i) :: l) st H 0 0 = ma_W d 173 Q 78 (some (.ref i) :: l) (.ref i :: st) H 0 0 := wp_aload_n (x := some i) rfl rfl
theorem w173_78 : ma_W d 173 Q 78 l (.ref i :: st) H 0 0 = ma_gf (H.1 i) 8 0 (ma_kV d 173 Q 81 l st H 0 0) := wp_get rfl (by decide +kernel)
theorem w173_81 : ma_W d 173 Q 81 (o0 :: o1 :: o2 :: o3 :: o4 :: some (.int x) :: l) st H 0 0 = ma_W d 173 Q 83 (o0 :: o1 :: o2 :: o3 :: o4 :: some (.int x) :: l) (.int x :: st) H 0 0 := wp_iload rfl rfl
theorem w173_83 : ma_W d 173 Q 83 (o0 :: some (.int x) :: l) st H 0 0 = ma_W d 173 Q 84 (o0 :: some (.int x) :: l) (.int x :: st) H 0 0 := wp_iload_n rfl rfl
theorem w173_84 : ma_W d 173 Q 84 l (.int y :: .int x :: .ref i :: st) H 0 0 = (4 ≤ i ∧ ma_ias (H.1 i) x y (ma_kH d 173 Q 85 l st H i 0 0)) := wp_iast rfl
theorem w173_85 : ma_W d 173 Q 85 (some (.ref i) :: l) st H 0 0 = ma_W d 173 Q 86 (some (.ref i) :: l) (.ref i :: st) H 0 0 := wp_aload_n (x := some i) rfl rfl
theorem w173_86 : ma_W d 173 Q 86 l (.ref i :: st) H 0 0 = ma_gf (H.1 i) 8 0 (ma_kV d 173 Q 89 l st H 0 0) := wp_get rfl (by decide +kernel)
theorem w173_89 : ma_W d 173 Q 89 (o0 :: o1 :: o2 :: o3 :: o4 :: some (.int x) :: l) st H 0 0 = ma_W d 173 Q 91 (o0 :: o1 :: o2 :: o3 :: o4 :: some (.int x) :: l) (.int x :: st) H 0 0 := wp_iload rfl rfl
theorem w173_91 : ma_W d 173 Q 91 l st H 0 0 = ma_W d 173 Q 92 l (.int 1 :: st) H 0 0 := wp_iconst rfl (by decide)
theorem w173_92 : ma_W d 173 Q 92 l (.int y :: .int x :: st) H 0 0 = ma_W d 173 Q 93 l (.int (x + y) :: st) H 0 0 := wp_iadd rfl
theorem w173_93 : ma_W d 173 Q 93 (o0 :: o1 :: some (.int x) :: l) st H 0 0 = ma_W d 173 Q 94 (o0 :: o1 :: some (.int x) :: l) (.int x :: st) H 0 0 := wp_iload_n rfl rfl
theorem w173_94 : ma_W d 173 Q 94 l (.int y :: .int x :: .ref i :: st) H 0 0 = (4 ≤ i ∧ ma_ias (H.1 i) x y (ma_kH d 173 Q 95 l st H i 0 0)) := wp_iast rfl
theorem w173_95 : ma_W d 173 Q 95 (some (.ref i) :: l) st H 0 0 = ma_W d 173 Q 96 (some (.ref i) :: l) (.ref i :: st) H 0 0 := wp_aload_n (x := some i) rfl rfl
theorem w173_96 : ma_W d 173 Q 96 l (.ref i :: st) H 0 0 = ma_gf (H.1 i) 8 0 (ma_kV d 173 Q 99 l st H 0 0) := wp_get rfl (by decide +kernel)
theorem w173_99 : ma_W d 173 Q 99 (o0 :: o1 :: o2 :: o3 :: o4 :: some (.int x) :: l) st H 0 0 = ma_W d 173 Q 101 (o0 :: o1 :: o2 :: o3 :: o4 :: some (.int x) :: l) (.int x :: st) H 0 0 := wp_iload rfl rfl
theorem w173_101 : ma_W d 173 Q 101 l st H 0 0 = ma_W d 173 Q 102 l (.int 2 :: st) H 0 0 := wp_iconst rfl (by decide)
theorem w173_102 : ma_W d 173 Q 102 l (.int y :: .int x :: st) H 0 0 = ma_W d 173 Q 103 l (.int (x + y) :: st) H 0 0 := wp_iadd rfl
theorem w173_103 : ma_W d 173 Q 103 (o0 :: o1 :: o2 :: some (.int x) :: l) st H 0 0 = ma_W d 173 Q 104 (o0 :: o1 :: o2 :: some (.int x) :: l) (.int x :: st) H 0 0 := wp_iload_n rfl rfl
theorem w173_104 : ma_W d 173 Q 104 l (.int y :: .int x :: .ref i :: st) H 0 0 = (4 ≤ i ∧ ma_ias (H.1 i) x y (ma_kH d 173 Q 105 l st H i 0 0)) := wp_iast rfl
theorem w173_105 : ma_W d 173 Q 105 (some (.ref i) :: l) st H 0 0 = ma_W d 173 Q 106 (some (.ref i) :: l) (.ref i :: st) H 0 0 := wp_aload_n (x := some i) rfl rfl
theorem w173_106 : ma_W d 173 Q 106 l (.ref i :: st) H 0 0 = ma_gf (H.1 i) 8 0 (ma_kV d 173 Q 109 l st H 0 0) := wp_get rfl (by decide +kernel)
theorem w173_109 : ma_W d 173 Q 109 (o0 :: o1 :: o2 :: o3 :: o4 :: some (.int x) :: l) st H 0 0 = ma_W d 173 Q 111 (o0 :: o1 :: o2 :: o3 :: o4 :: some (.int x) :: l) (.int x :: st) H 0 0 := wp_iload rfl rfl
theorem w173_111 : ma_W d 173 Q 111 l st H 0 0 = ma_W d 173 Q 112 l (.int 3 :: st) H 0 0 := wp_iconst rfl (by decide)
theorem w173_112 : ma_W d 173 Q 112 l (.int y :: .int x :: st) H 0 0 = ma_W d 173 Q 113 l (.int (x + y) :: st) H 0 0 := wp_iadd rfl
theorem w173_113 : ma_W d 173 Q 113 (o0 :: o1 :: o2 :: o3 :: some (.int x) :: l) st H 0 0 = ma_W d 173 Q 115 (o0 :: o1 :: o2 :: o3 :: some (.int x) :: l) (.int x :: st) H 0 0 := wp_iload rfl rfl
theorem w173_115 : ma_W d 173 Q 115 l (.int y :: .int x :: .ref i :: st) H 0 0 = (4 ≤ i ∧ ma_ias (H.1 i) x y (ma_kH d 173 Q 116 l st H i 0 0)) := wp_iast rfl
theorem w173_116 : ma_W d 173 Q 116 (some (.ref i) :: l) st H 0 0 = ma_W d 173 Q 117 (some (.ref i) :: l) (.ref i :: st) H 0 0 := wp_aload_n (x := some i) rfl rfl
theorem w173_117 : ma_W d 173 Q 117 l (.ref i :: st) H 0 0 = ma_gf (H.1 i) 8 0 (ma_kV d 173 Q 120 l st H 0 0) := wp_get rfl (by decide +kernel)
theorem w173_120 : ma_W d 173 Q 120 l st H 0 0 = ma_W d 173 Q 122 l (.int 71 :: st) H 0 0 := wp_bipush rfl (by decide)
theorem w173_122 : ma_W d 173 Q 122 l (.int x :: .ref i :: st) H 0 0 = ma_W d 173 Q 123 l (.int x :: .ref i :: .int x :: .ref i :: st) H 0 0 := wp_dup2 rfl rfl rfl
theorem w173_123 : ma_W d 173 Q 123 l (.int x :: .ref i :: st) H 0 0 = ma_ial (H.1 i) x (ma_kV d 173 Q 124 l st H 0 0) := wp_iald rfl
theorem w173_124 : ma_W d 173 Q 124 l st H 0 0 = ma_W d 173 Q 125 l (.int 1 :: st) H 0 0 := wp_iconst rfl (by decide)
theorem w173_125 : ma_W d 173 Q 125 l (.int y :: .int x :: st) H 0 0 = ma_W d 173 Q 126 l (.int (x + y) :: st) H 0 0 := wp_iadd rfl
theorem w173_126 : ma_W d 173 Q 126 l (.int y :: .int x :: .ref i :: st) H 0 0 = (4 ≤ i ∧ ma_ias (H.1 i) x y (ma_kH d 173 Q 127 l st H i 0 0)) := wp_iast rfl
theorem w173_127 : ma_W d 173 Q 127 (some (.ref i) :: l) st H 0 0 = ma_W d 173 Q 128 (some (.ref i) :: l) (.ref i :: st) H 0 0 := wp_aload_n (x := some i) rfl rfl
theorem w173_128 : ma_W d 173 Q 128 l (.ref i :: st) H 0 0 = ma_gf (H.1 i) 8 0 (ma_kV d 173 Q 131 l st H 0 0) := wp_get rfl (by decide +kernel)
theorem w173_131 : ma_W d 173 Q 131 l st H 0 0 = ma_W d 173 Q 133 l (.int 71 :: st) H 0 0 := wp_bipush rfl (by decide)
theorem w173_133 : ma_W d 173 Q 133 l (.int x :: .ref i :: st) H 0 0 = ma_ial (H.1 i) x (ma_kV d 173 Q 134 l st H 0 0) := wp_iald rfl
theorem w173_134 : ma_W d 173 Q 134 l [.int x] H 0 0 = Q (some (.int x)) H := wp_iret rfl rfl
theorem e173 : ma_MW (d + 1) 173 [.ref i, .int x0, .int x1, .int x2, .int x3] H Q = ma_W d 173 Q 0 [some (.ref i), some (.int x0), some (.int x1), some (.int x2), some (.int x3), none] [] H 0 0 := wp_enter (by decide) (Nat.le_of_ble_eq_true rfl) rfl
/-! 174 mo_forget -/
theorem w174_0 : ma_W d 174 Q 0 (o0 :: some (.int x) :: l) st H 0 0 = ma_W d 174 Q 1 (o0 :: some (.int x) :: l) (.int x :: st) H 0 0 := wp_iload_n rfl rfl
theorem w174_1 : ma_W d 174 Q 1 l st H 0 0 = ma_W d 174 Q 2 l (.int 0 :: st) H 0 0 := wp_iconst rfl (by decide)
theorem w174_2 : ma_W d 174 Q 2 l st H 0 0 = ma_W d 174 Q 3 l (.int 1 :: st) H 0 0 := wp_iconst rfl (by decide)
theorem w174_3 : ma_W d 174 Q 3 l (.int x2 :: .int x1 :: .int x0 :: st) H 0 0 = (ma_cat st ≤ 8 ∧ ma_MW d 125 [.int x0, .int x1, .int x2] H (ma_kC d 174 Q 6 l st 0 0)) := wc_S0 (ia := 125) (n := 3) (cn := 8) (k := 1) rfl (by decide +kernel) (by decide) (fun _ => rfl) rfl rfl
theorem w174_6 : ma_W d 174 Q 6 l (.int x :: st) H 0 0 = ma_if (x = 0) d 174 Q 9 14 l st H 0 0 := wp_c0 (id := 174) (pc := 6) (c := .ne) (off := 8) 14 rfl (by decide)
theorem w174_9 : ma_W d 174 Q 9 (some (.ref i) :: l) st H 0 0 = ma_W d 174 Q 10 (some (.ref i) :: l) (.ref i :: st) H 0 0 := wp_aload_n (x := some i) rfl rfl
theorem w174_10 : ma_W d 174 Q 10 l (.ref i :: st) H 0 0 = (ma_cat st ≤ 8 ∧ ma_cv (H.1 i) 8 d 128 [.ref i] H (ma_kC d 174 Q 13 l st 0 0)) := wc_V0 (ia := 128) (n := 1) (cn := 8) rfl (by decide +kernel) (fun _ => rfl) rfl rfl
theorem w174_13 : ma_W d 174 Q 13 l [.int x] H 0 0 = Q (some (.int x)) H := wp_iret rfl rfl
theorem w174_14 : ma_W d 174 Q 14 (o0 :: some (.int x) :: l) st H 0 0 = ma_W d 174 Q 15 (o0 :: some (.int x) :: l) (.int x :: st) H 0 0 := wp_iload_n rfl rfl
theorem w174_15 : ma_W d 174 Q 15 l (.int x :: st) H 0 0 = ma_if (x = 0) d 174 Q 18 23 l st H 0 0 := wp_c0 (id := 174) (pc := 15) (c := .ne) (off := 8) 23 rfl (by decide)
theorem w174_18 : ma_W d 174 Q 18 l st H 0 0 = ma_W d 174 Q 20 l (.int 58 :: st) H 0 0 := wp_bipush rfl (by decide)
theorem w174_20 : ma_W d 174 Q 20 l st H 0 0 = ma_W d 174 Q 25 l st H 0 0 := wp_goto 25 rfl (by decide)
theorem w174_23 : ma_W d 174 Q 23 l st H 0 0 = ma_W d 174 Q 25 l (.int 71 :: st) H 0 0 := wp_bipush rfl (by decide)
theorem w174_25 : ma_W d 174 Q 25 (o0 :: o1 :: p :: l) (.int x :: st) H 0 0 = ma_W d 174 Q 26 (o0 :: ma_clr o1 :: some (.int x) :: l) st H 0 0 := wp_istore_n (id := 174) (pc := 25) (k := 2) rfl (Nat.succ_lt_succ (Nat.succ_lt_succ (Nat.zero_lt_succ _)))
theorem w174_26 : ma_W d 174 Q 26 (some (.ref i) :: l) st H 0 0 = ma_W d 174 Q 27 (some (.ref i) :: l) (.ref i :: st) H 0 0 := wp_aload_n (x := some i) rfl rfl
theorem w174_27 : ma_W d 174 Q 27 l (.ref i :: st) H 0 0 = ma_gf (H.1 i) 8 0 (ma_kV d 174 Q 30 l st H 0 0) := wp_get rfl (by decide +kernel)
theorem w174_30 : ma_W d 174 Q 30 (o0 :: o1 :: some (.int x) :: l) st H 0 0 = ma_W d 174 Q 31 (o0 :: o1 :: some (.int x) :: l) (.int x :: st) H 0 0 := wp_iload_n rfl rfl
theorem w174_31 : ma_W d 174 Q 31 l (.int x :: .ref i :: st) H 0 0 = ma_ial (H.1 i) x (ma_kV d 174 Q 32 l st H 0 0) := wp_iald rfl
theorem w174_32 : ma_W d 174 Q 32 (o0 :: o1 :: o2 :: p :: l) (.int x :: st) H 0 0 = ma_W d 174 Q 33 (o0 :: o1 :: ma_clr o2 :: some (.int x) :: l) st H 0 0 := wp_istore_n (id := 174) (pc := 32) (k := 3) rfl (Nat.succ_lt_succ (Nat.succ_lt_succ (Nat.succ_lt_succ (Nat.zero_lt_succ _))))
theorem w174_33 : ma_W d 174 Q 33 (some (.ref i) :: l) st H 0 0 = ma_W d 174 Q 34 (some (.ref i) :: l) (.ref i :: st) H 0 0 := wp_aload_n (x := some i) rfl rfl
theorem w174_34 : ma_W d 174 Q 34 l (.ref i :: st) H 0 0 = ma_gf (H.1 i) 8 0 (ma_kV d 174 Q 37 l st H 0 0) := wp_get rfl (by decide +kernel)
theorem w174_37 : ma_W d 174 Q 37 (o0 :: o1 :: some (.int x) :: l) st H 0 0 = ma_W d 174 Q 38 (o0 :: o1 :: some (.int x) :: l) (.int x :: st) H 0 0 := wp_iload_n rfl rfl
theorem w174_38 : ma_W d 174 Q 38 l st H 0 0 = ma_W d 174 Q 39 l (.int 0 :: st) H 0 0 := wp_iconst rfl (by decide)
theorem w174_39 : ma_W d 174 Q 39 l (.int y :: .int x :: .ref i :: st) H 0 0 = (4 ≤ i ∧ ma_ias (H.1 i) x y (ma_kH d 174 Q 40 l st H i 0 0)) := wp_iast rfl
theorem w174_40 : ma_W d 174 Q 40 (o0 :: o1 :: o2 :: some (.int x) :: l) st H 0 0 = ma_W d 174 Q 41 (o0 :: o1 :: o2 :: some (.int x) :: l) (.int x :: st) H 0 0 := wp_iload_n rfl rfl
theorem w174_41 : ma_W d 174 Q 41 l [.int x] H 0 0 = Q (some (.int x)) H := wp_iret rfl rfl
theorem e174 : ma_MW (d + 1) 174 [.ref i, .int x0] H Q = ma_W d 174 Q 0 [some (.ref i), some (.int x0), none, none] [] H 0 0 := wp_enter (by decide) (Nat.le_of_ble_eq_true rfl) rfl
/-! 175 mo_cardsSeen -/
theorem w175_0 : ma_W d 175 Q 0 l st H 0 0 = ma_W d 175 Q 1 l (.int 0 :: st) H 0 0 := wp_iconst rfl (by decide)
theorem w175_1 : ma_W d 175 Q 1 (o0 :: p :: l) (.int x :: st) H 0 0 = ma_W d 175 Q 2 (ma_clr o0 :: some (.int x) :: l) st H 0 0 := wp_istore_n (id := 175) (pc := 1) (k := 1) rfl (Nat.succ_lt_succ (Nat.zero_lt_succ _))
theorem w175_2 : ma_W d 175 Q 2 l st H 0 0 = ma_W d 175 Q 3 l (.int 0 :: st) H 0 0 := wp_iconst rfl (by decide)
theorem w175_3 : ma_W d 175 Q 3 (o0 :: o1 :: p :: l) (.int x :: st) H 0 0 = ma_W d 175 Q 4 (o0 :: ma_clr o1 :: some (.int x) :: l) st H 0 0 := wp_istore_n (id := 175) (pc := 3) (k := 2) rfl (Nat.succ_lt_succ (Nat.succ_lt_succ (Nat.zero_lt_succ _)))
theorem w175_4 : ma_W d 175 Q 4 (o0 :: o1 :: some (.int x) :: l) st H 0 0 = ma_W d 175 Q 5 (o0 :: o1 :: some (.int x) :: l) (.int x :: st) H 0 0 := wp_iload_n rfl rfl
theorem w175_5 : ma_W d 175 Q 5 l st H 0 0 = ma_W d 175 Q 7 l (.int 6 :: st) H 0 0 := wp_bipush rfl (by decide)
theorem w175_7 : ma_W d 175 Q 7 l (.int y :: .int x :: st) H 0 0 = ma_if (y ≤ x) d 175 Q 96 10 l st H 0 0 := wp_ic (id := 175) (pc := 7) (c := .ge) (off := 89) 96 rfl (by decide)
theorem w175_10 : ma_W d 175 Q 10 l st H 0 0 = ma_W d 175 Q 11 l (.int 1 :: st) H 0 0 := wp_iconst rfl (by decide)
theorem w175_11 : ma_W d 175 Q 11 (o0 :: o1 :: o2 :: p :: l) (.int x :: st) H 0 0 = ma_W d 175 Q 12 (o0 :: o1 :: ma_clr o2 :: some (.int x) :: l) st H 0 0 := wp_istore_n (id := 175) (pc := 11) (k := 3) rfl (Nat.succ_lt_succ (Nat.succ_lt_succ (Nat.succ_lt_succ (Nat.zero_lt_succ _))))
theorem w175_12 : ma_W d 175 Q 12 l st H 0 0 = ma_W d 175 Q 13 l (.int 0 :: st) H 0 0 := wp_iconst rfl (by decide)
theorem w175_13 : ma_W d 175 Q 13 (o0 :: o1 :: o2 :: o3 :: p :: l) (.int x :: st) H 0 0 = ma_W d 175 Q 15 (o0 :: o1 :: o2 :: ma_clr o3 :: some (.int x) :: l) st H 0 0 := wp_istore (id := 175) (pc := 13) (k := 4) rfl (Nat.succ_lt_succ (Nat.succ_lt_succ (Nat.succ_lt_succ (Nat.succ_lt_succ (Nat.zero_lt_succ _)))))
theorem w175_15 : ma_W d 175 Q 15 (o0 :: o1 :: o2 :: o3 :: some (.int x) :: l) st H 0 0 = ma_W d 175 Q 17 (o0 :: o1 :: o2 :: o3 :: some (.int x) :: l) (.int x :: st) H 0 0 := wp_iload rfl rfl
theorem w175_17 : ma_W d 175 Q 17 (some (.ref i) :: l) st H 0 0 = ma_W d 175 Q 18 (some (.ref i) :: l) (.ref i :: st) H 0 0 := wp_aload_n (x := some i) rfl rfl
theorem w175_18 : ma_W d 175 Q 18 l (.ref i :: st) H 0 0 = ma_gf (H.1 i) 8 0 (ma_kV d 175 Q 21 l st H 0 0) := wp_get rfl (by decide +kernel)
theorem w175_21 : ma_W d 175 Q 21 l st H 0 0 = ma_W d 175 Q 23 l (.int 58 :: st) H 0 0 := wp_bipush rfl (by decide)
theorem w175_23 : ma_W d 175 Q 23 l (.int x :: .ref i :: st) H 0 0 = ma_ial (H.1 i) x (ma_kV d 175 Q 24 l st H 0 0) := wp_iald rfl
theorem w175_24 : ma_W d 175 Q 24 l (.int y :: .int x :: st) H 0 0 = ma_if (y ≤ x) d 175 Q 76 27 l st H 0 0 := wp_ic (id := 175) (pc := 24) (c := .ge) (off := 52) 76 rfl (by decide)
theorem w175_27 : ma_W d 175 Q 27 (o0 :: o1 :: o2 :: some (.int x) :: l) st H 0 0 = ma_W d 175 Q 28 (o0 :: o1 :: o2 :: some (.int x) :: l) (.int x :: st) H 0 0 := wp_iload_n rfl rfl
theorem w175_28 : ma_W d 175 Q 28 l (.int x :: st) H 0 0 = ma_if (x = 0) d 175 Q 68 31 l st H 0 0 := wp_c0 (id := 175) (pc := 28) (c := .eq) (off := 40) 68 rfl (by decide)
theorem w175_31 : ma_W d 175 Q 31 (o0 :: o1 :: some (.int x) :: l) st H 0 0 = ma_W d 175 Q 32 (o0 :: o1 :: some (.int x) :: l) (.int x :: st) H 0 0 := wp_iload_n rfl rfl
theorem w175_32 : ma_W d 175 Q 32 (some (.ref i) :: l) st H 0 0 = ma_W d 175 Q 33 (some (.ref i) :: l) (.ref i :: st) H 0 0 := wp_aload_n (x := some i) rfl rfl
theorem w175_33 : ma_W d 175 Q 33 l (.ref i :: st) H 0 0 = ma_gf (H.1 i) 8 0 (ma_kV d 175 Q 36 l st H 0 0) := wp_get rfl (by decide +kernel)
theorem w175_36 : ma_W d 175 Q 36 l st H 0 0 = ma_W d 175 Q 38 l (.int 59 :: st) H 0 0 := wp_bipush rfl (by decide)
theorem w175_38 : ma_W d 175 Q 38 l st H 0 0 = ma_W d 175 Q 39 l (.int 2 :: st) H 0 0 := wp_iconst rfl (by decide)
theorem w175_39 : ma_W d 175 Q 39 (o0 :: o1 :: o2 :: o3 :: some (.int x) :: l) st H 0 0 = ma_W d 175 Q 41 (o0 :: o1 :: o2 :: o3 :: some (.int x) :: l) (.int x :: st) H 0 0 := wp_iload rfl rfl
theorem w175_41 : ma_W d 175 Q 41 l (.int y :: .int x :: st) H 0 0 = ma_W d 175 Q 42 l (.int (x * y) :: st) H 0 0 := wp_imul rfl
theorem w175_42 : ma_W d 175 Q 42 l (.int y :: .int x :: st) H 0 0 = ma_W d 175 Q 43 l (.int (x + y) :: st) H 0 0 := wp_iadd rfl
theorem w175_43 : ma_W d 175 Q 43 l (.int x :: .ref i :: st) H 0 0 = ma_ial (H.1 i) x (ma_kV d 175 Q 44 l st H 0 0) := wp_iald rfl
theorem w175_44 : ma_W d 175 Q 44 l (.int x1 :: .int x0 :: st) H 0 0 = (ma_cat st ≤ 8 ∧ ma_MW d 149 [.int x0, .int x1] H (ma_kC d 175 Q 47 l st 0 0)) := wc_S0 (ia := 149) (n := 2) (cn := 8) (k := 1) rfl (by decide +kernel) (by decide) (fun _ => rfl) rfl rfl
theorem w175_47 : ma_W d 175 Q 47 (some (.ref i) :: l) st H 0 0 = ma_W d 175 Q 48 (some (.ref i) :: l) (.ref i :: st) H 0 0 := wp_aload_n (x := some i) rfl rfl
theorem w175_48 : ma_W d 175 Q 48 l (.ref i :: st) H 0 0 = ma_gf (H.1 i) 8 0 (ma_kV d 175 Q 51 l st H 0 0) := wp_get rfl (by decide +kernel)
theorem w175_51 : ma_W d 175 Q 51 l st H 0 0 = ma_W d 175 Q 53 l (.int 59 :: st) H 0 0 := wp_bipush rfl (by decide)
theorem w175_53 : ma_W d 175 Q 53 l st H 0 0 = ma_W d 175 Q 54 l (.int 2 :: st) H 0 0 := wp_iconst rfl (by decide)
theorem w175_54 : ma_W d 175 Q 54 (o0 :: o1 :: o2 :: o3 :: some (.int x) :: l) st H 0 0 = ma_W d 175 Q 56 (o0 :: o1 :: o2 :: o3 :: some (.int x) :: l) (.int x :: st) H 0 0 := wp_iload rfl rfl
theorem w175_56 : ma_W d 175 Q 56 l (.int y :: .int x :: st) H 0 0 = ma_W d 175 Q 57 l (.int (x * y) :: st) H 0 0 := wp_imul rfl
theorem w175_57 : ma_W d 175 Q 57 l (.int y :: .int x :: st) H 0 0 = ma_W d 175 Q 58 l (.int (x + y) :: st) H 0 0 := wp_iadd rfl
theorem w175_58 : ma_W d 175 Q 58 l st H 0 0 = ma_W d 175 Q 59 l (.int 1 :: st) H 0 0 := wp_iconst rfl (by decide)
theorem w175_59 : ma_W d 175 Q 59 l (.int y :: .int x :: st) H 0 0 = ma_W d 175 Q 60 l (.int (x + y) :: st) H 0 0 := wp_iadd rfl
theorem w175_60 : ma_W d 175 Q 60 l (.int x :: .ref i :: st) H 0 0 = ma_ial (H.1 i) x (ma_kV d 175 Q 61 l st H 0 0) := wp_iald rfl
theorem w175_61 : ma_W d 175 Q 61 l (.int y :: .int x :: st) H 0 0 = ma_if (x = y) d 175 Q 64 68 l st H 0 0 := wp_ic (id := 175) (pc := 61) (c := .ne) (off := 7) 68 rfl (by decide)
theorem w175_64 : ma_W d 175 Q 64 l st H 0 0 = ma_W d 175 Q 65 l (.int 1 :: st) H 0 0 := wp_iconst rfl (by decide)
theorem w175_65 : ma_W d 175 Q 65 l st H 0 0 = ma_W d 175 Q 69 l st H 0 0 := wp_goto 69 rfl (by decide)
theorem w175_68 : ma_W d 175 Q 68 l st H 0 0 = ma_W d 175 Q 69 l (.int 0 :: st) H 0 0 := wp_iconst rfl (by decide)
theorem w175_69 : ma_W d 175 Q 69 (o0 :: o1 :: o2 :: p :: l) (.int x :: st) H 0 0 = ma_W d 175 Q 70 (o0 :: o1 :: ma_clr o2 :: some (.int x) :: l) st H 0 0 := wp_istore_n (id := 175) (pc := 69) (k := 3) rfl (Nat.succ_lt_succ (Nat.succ_lt_succ (Nat.succ_lt_succ (Nat.zero_lt_succ _))))
theorem w175_70 : ma_W d 175 Q 70 (o0 :: o1 :: o2 :: o3 :: some (.int x) :: l) st H 0 0 = ma_W d 175 Q 73 (o0 :: o1 :: o2 :: ma_clr o3 :: some (.int (x + 1)) :: l) st H 0 0 := wp_iinc (id := 175) (pc := 70) (k := 4) (n := 1) rfl (Nat.succ_lt_succ (Nat.succ_lt_succ (Nat.succ_lt_succ (Nat.succ_lt_succ (Nat.zero_lt_succ _))))) rfl (by decide)
theorem w175_73 : ma_W d 175 Q 73 l st H 0 0 = ma_W d 175 Q 15 l st H 0 0 := wp_goto 15 rfl (by decide)
theorem w175_76 : ma_W d 175 Q 76 (o0 :: some (.int x) :: l) st H 0 0 = ma_W d 175 Q 77 (o0 :: some (.int x) :: l) (.int x :: st) H 0 0 := wp_iload_n rfl rfl
theorem w175_77 : ma_W d 175 Q 77 (o0 :: o1 :: o2 :: some (.int x) :: l) st H 0 0 = ma_W d 175 Q 78 (o0 :: o1 :: o2 :: some (.int x) :: l) (.int x :: st) H 0 0 := wp_iload_n rfl rfl
theorem w175_78 : ma_W d 175 Q 78 l (.int x :: st) H 0 0 = ma_if (x = 0) d 175 Q 87 81 l st H 0 0 := wp_c0 (id := 175) (pc := 78) (c := .eq) (off := 9) 87 rfl (by decide)
theorem w175_81 : ma_W d 175 Q 81 l st H 0 0 = ma_W d 175 Q 82 l (.int 1 :: st) H 0 0 := wp_iconst rfl (by decide)
theorem w175_82 : ma_W d 175 Q 82 (o0 :: o1 :: some (.int x) :: l) st H 0 0 = ma_W d 175 Q 83 (o0 :: o1 :: some (.int x) :: l) (.int x :: st) H 0 0 := wp_iload_n rfl rfl
theorem w175_83 : ma_W d 175 Q 83 l (.int y :: .int x :: st) H 0 0 = ma_W d 175 Q 84 l (.int (x <<< (y &&& 31)) :: st) H 0 0 := wp_ishl rfl
theorem w175_84 : ma_W d 175 Q 84 l st H 0 0 = ma_W d 175 Q 88 l st H 0 0 := wp_goto 88 rfl (by decide)
theorem w175_87 : ma_W d 175 Q 87 l st H 0 0 = ma_W d 175 Q 88 l (.int 0 :: st) H 0 0 := wp_iconst rfl (by decide)
theorem w175_88 : ma_W d 175 Q 88 l (.int y :: .int x :: st) H 0 0 = ma_W d 175 Q 89 l (.int (x ||| y) :: st) H 0 0 := wp_ior rfl
theorem w175_89 : ma_W d 175 Q 89 (o0 :: p :: l) (.int x :: st) H 0 0 = ma_W d 175 Q 90 (ma_clr o0 :: some (.int x) :: l) st H 0 0 := wp_istore_n (id := 175) (pc := 89) (k := 1) rfl (Nat.succ_lt_succ (Nat.zero_lt_succ _))
theorem w175_90 : ma_W d 175 Q 90 (o0 :: o1 :: some (.int x) :: l) st H 0 0 = ma_W d 175 Q 93 (o0 :: ma_clr o1 :: some (.int (x + 1)) :: l) st H 0 0 := wp_iinc (id := 175) (pc := 90) (k := 2) (n := 1) rfl (Nat.succ_lt_succ (Nat.succ_lt_succ (Nat.zero_lt_succ _))) rfl (by decide)
theorem w175_93 : ma_W d 175 Q 93 l st H 0 0 = ma_W d 175 Q 4 l st H 0 0 := wp_goto 4 rfl (by decide)
theorem w175_96 : ma_W d 175 Q 96 (o0 :: some (.int x) :: l) st H 0 0 = ma_W d 175 Q 97 (o0 :: some (.int x) :: l) (.int x :: st) H 0 0 := wp_iload_n rfl rfl
theorem w175_97 : ma_W d 175 Q 97 l [.int x] H 0 0 = Q (some (.int x)) H := wp_iret rfl rfl
theorem e175 : ma_MW (d + 1) 175 [.ref i] H Q = ma_W d 175 Q 0 [some (.ref i), none, none, none, none] [] H 0 0 := wp_enter (by decide) (Nat.le_of_ble_eq_true rfl) rfl
/-! 176 mo_playersSeen -/
theorem w176_0 : ma_W d 176 Q 0 l st H 0 0 = ma_W d 176 Q 1 l (.int 0 :: st) H 0 0 := wp_iconst rfl (by decide)
theorem w176_1 : ma_W d 176 Q 1 (o0 :: o1 :: p :: l) (.int x :: st) H 0 0 = ma_W d 176 Q 2 (o0 :: ma_clr o1 :: some (.int x) :: l) st H 0 0 := wp_istore_n (id := 176) (pc := 1) (k := 2) rfl (Nat.succ_lt_succ (Nat.succ_lt_succ (Nat.zero_lt_succ _)))
theorem w176_2 : ma_W d 176 Q 2 l st H 0 0 = ma_W d 176 Q 3 l (.int 0 :: st) H 0 0 := wp_iconst rfl (by decide)
theorem w176_3 : ma_W d 176 Q 3 (o0 :: o1 :: o2 :: p :: l) (.int x :: st) H 0 0 = ma_W d 176 Q 4 (o0 :: o1 :: ma_clr o2 :: some (.int x) :: l) st H 0 0 := wp_istore_n (id := 176) (pc := 3) (k := 3) rfl (Nat.succ_lt_succ (Nat.succ_lt_succ (Nat.succ_lt_succ (Nat.zero_lt_succ _))))
theorem w176_4 : ma_W d 176 Q 4 (o0 :: o1 :: o2 :: some (.int x) :: l) st H 0 0 = ma_W d 176 Q 5 (o0 :: o1 :: o2 :: some (.int x) :: l) (.int x :: st) H 0 0 := wp_iload_n rfl rfl
theorem w176_5 : ma_W d 176 Q 5 l st H 0 0 = ma_W d 176 Q 7 l (.int 6 :: st) H 0 0 := wp_bipush rfl (by decide)
theorem w176_7 : ma_W d 176 Q 7 l (.int y :: .int x :: st) H 0 0 = ma_if (y ≤ x) d 176 Q 121 10 l st H 0 0 := wp_ic (id := 176) (pc := 7) (c := .ge) (off := 114) 121 rfl (by decide)
theorem w176_10 : ma_W d 176 Q 10 l st H 0 0 = ma_W d 176 Q 11 l (.int 1 :: st) H 0 0 := wp_iconst rfl (by decide)
theorem w176_11 : ma_W d 176 Q 11 (o0 :: o1 :: o2 :: o3 :: p :: l) (.int x :: st) H 0 0 = ma_W d 176 Q 13 (o0 :: o1 :: o2 :: ma_clr o3 :: some (.int x) :: l) st H 0 0 := wp_istore (id := 176) (pc := 11) (k := 4) rfl (Nat.succ_lt_succ (Nat.succ_lt_succ (Nat.succ_lt_succ (Nat.succ_lt_succ (Nat.zero_lt_succ _)))))
theorem w176_13 : ma_W d 176 Q 13 l st H 0 0 = ma_W d 176 Q 14 l (.int 0 :: st) H 0 0 := wp_iconst rfl (by decide)
theorem w176_14 : ma_W d 176 Q 14 (o0 :: o1 :: o2 :: o3 :: o4 :: p :: l) (.int x :: st) H 0 0 = ma_W d 176 Q 16 (o0 :: o1 :: o2 :: o3 :: ma_clr o4 :: some (.int x) :: l) st H 0 0 := wp_istore (id := 176) (pc := 14) (k := 5) rfl (Nat.succ_lt_succ (Nat.succ_lt_succ (Nat.succ_lt_succ (Nat.succ_lt_succ (Nat.succ_lt_succ (Nat.zero_lt_succ _))))))
theorem w176_16 : ma_W d 176 Q 16 (o0 :: o1 :: o2 :: o3 :: o4 :: some (.int x) :: l) st H 0 0 = ma_W d 176 Q 18 (o0 :: o1 :: o2 :: o3 :: o4 :: some (.int x) :: l) (.int x :: st) H 0 0 := wp_iload rfl rfl
theorem w176_18 : ma_W d 176 Q 18 (some (.ref i) :: l) st H 0 0 = ma_W d 176 Q 19 (some (.ref i) :: l) (.ref i :: st) H 0 0 := wp_aload_n (x := some i) rfl rfl
theorem w176_19 : ma_W d 176 Q 19 l (.ref i :: st) H 0 0 = ma_gf (H.1 i) 8 0 (ma_kV d 176 Q 22 l st H 0 0) := wp_get rfl (by decide +kernel)
theorem w176_22 : ma_W d 176 Q 22 l st H 0 0 = ma_W d 176 Q 24 l (.int 71 :: st) H 0 0 := wp_bipush rfl (by decide)
theorem w176_24 : ma_W d 176 Q 24 l (.int x :: .ref i :: st) H 0 0 = ma_ial (H.1 i) x (ma_kV d 176 Q 25 l st H 0 0) := wp_iald rfl
theorem w176_25 : ma_W d 176 Q 25 l (.int y :: .int x :: st) H 0 0 = ma_if (y ≤ x) d 176 Q 100 28 l st H 0 0 := wp_ic (id := 176) (pc := 25) (c := .ge) (off := 75) 100 rfl (by decide)
theorem w176_28 : ma_W d 176 Q 28 l st H 0 0 = ma_W d 176 Q 30 l (.int 72 :: st) H 0 0 := wp_bipush rfl (by decide)
theorem w176_30 : ma_W d 176 Q 30 l st H 0 0 = ma_W d 176 Q 31 l (.int 4 :: st) H 0 0 := wp_iconst rfl (by decide)
theorem w176_31 : ma_W d 176 Q 31 (o0 :: o1 :: o2 :: o3 :: o4 :: some (.int x) :: l) st H 0 0 = ma_W d 176 Q 33 (o0 :: o1 :: o2 :: o3 :: o4 :: some (.int x) :: l) (.int x :: st) H 0 0 := wp_iload rfl rfl
theorem w176_33 : ma_W d 176 Q 33 l (.int y :: .int x :: st) H 0 0 = ma_W d 176 Q 34 l (.int (x * y) :: st) H 0 0 := wp_imul rfl
theorem w176_34 : ma_W d 176 Q 34 l (.int y :: .int x :: st) H 0 0 = ma_W d 176 Q 35 l (.int (x + y) :: st) H 0 0 := wp_iadd rfl
theorem w176_35 : ma_W d 176 Q 35 (o0 :: o1 :: o2 :: o3 :: o4 :: o5 :: p :: l) (.int x :: st) H 0 0 = ma_W d 176 Q 37 (o0 :: o1 :: o2 :: o3 :: o4 :: ma_clr o5 :: some (.int x) :: l) st H 0 0 := wp_istore (id := 176) (pc := 35) (k := 6) rfl (Nat.succ_lt_succ (Nat.succ_lt_succ (Nat.succ_lt_succ (Nat.succ_lt_succ (Nat.succ_lt_succ (Nat.succ_lt_succ (Nat.zero_lt_succ _)))))))
theorem w176_37 : ma_W d 176 Q 37 (o0 :: o1 :: o2 :: o3 :: some (.int x) :: l) st H 0 0 = ma_W d 176 Q 39 (o0 :: o1 :: o2 :: o3 :: some (.int x) :: l) (.int x :: st) H 0 0 := wp_iload rfl rfl
theorem w176_39 : ma_W d 176 Q 39 l (.int x :: st) H 0 0 = ma_if (x = 0) d 176 Q 91 42 l st H 0 0 := wp_c0 (id := 176) (pc := 39) (c := .eq) (off := 52) 91 rfl (by decide)
theorem w176_42 : ma_W d 176 Q 42 (some (.ref i) :: l) st H 0 0 = ma_W d 176 Q 43 (some (.ref i) :: l) (.ref i :: st) H 0 0 := wp_aload_n (x := some i) rfl rfl
theorem w176_43 : ma_W d 176 Q 43 l (.ref i :: st) H 0 0 = ma_gf (H.1 i) 8 0 (ma_kV d 176 Q 46 l st H 0 0) := wp_get rfl (by decide +kernel)
theorem w176_46 : ma_W d 176 Q 46 (o0 :: o1 :: o2 :: o3 :: o4 :: o5 :: some (.int x) :: l) st H 0 0 = ma_W d 176 Q 48 (o0 :: o1 :: o2 :: o3 :: o4 :: o5 :: some (.int x) :: l) (.int x :: st) H 0 0 := wp_iload rfl rfl
theorem w176_48 : ma_W d 176 Q 48 l (.int x :: .ref i :: st) H 0 0 = ma_ial (H.1 i) x (ma_kV d 176 Q 49 l st H 0 0) := wp_iald rfl
theorem w176_49 : ma_W d 176 Q 49 (o0 :: some (.int x) :: l) st H 0 0 = ma_W d 176 Q 50 (o0 :: some (.int x) :: l) (.int x :: st) H 0 0 := wp_iload_n rfl rfl
theorem w176_50 : ma_W d 176 Q 50 l (.int y :: .int x :: st) H 0 0 = ma_if (x = y) d 176 Q 53 87 l st H 0 0 := wp_ic (id := 176) (pc := 50) (c := .ne) (off := 37) 87 rfl (by decide)
theorem w176_53 : ma_W d 176 Q 53 (o0 :: o1 :: o2 :: some (.int x) :: l) st H 0 0 = ma_W d 176 Q 54 (o0 :: o1 :: o2 :: some (.int x) :: l) (.int x :: st) H 0 0 := wp_iload_n rfl rfl
theorem w176_54 : ma_W d 176 Q 54 (some (.ref i) :: l) st H 0 0 = ma_W d 176 Q 55 (some (.ref i) :: l) (.ref i :: st) H 0 0 := wp_aload_n (x := some i) rfl rfl
theorem w176_55 : ma_W d 176 Q 55 l (.ref i :: st) H 0 0 = ma_gf (H.1 i) 8 0 (ma_kV d 176 Q 58 l st H 0 0) := wp_get rfl (by decide +kernel)
theorem w176_58 : ma_W d 176 Q 58 (o0 :: o1 :: o2 :: o3 :: o4 :: o5 :: some (.int x) :: l) st H 0 0 = ma_W d 176 Q 60 (o0 :: o1 :: o2 :: o3 :: o4 :: o5 :: some (.int x) :: l) (.int x :: st) H 0 0 := wp_iload rfl rfl
theorem w176_60 : ma_W d 176 Q 60 l st H 0 0 = ma_W d 176 Q 61 l (.int 1 :: st) H 0 0 := wp_iconst rfl (by decide)
theorem w176_61 : ma_W d 176 Q 61 l (.int y :: .int x :: st) H 0 0 = ma_W d 176 Q 62 l (.int (x + y) :: st) H 0 0 := wp_iadd rfl
theorem w176_62 : ma_W d 176 Q 62 l (.int x :: .ref i :: st) H 0 0 = ma_ial (H.1 i) x (ma_kV d 176 Q 63 l st H 0 0) := wp_iald rfl
theorem w176_63 : ma_W d 176 Q 63 (some (.ref i) :: l) st H 0 0 = ma_W d 176 Q 64 (some (.ref i) :: l) (.ref i :: st) H 0 0 := wp_aload_n (x := some i) rfl rfl
theorem w176_64 : ma_W d 176 Q 64 l (.ref i :: st) H 0 0 = ma_gf (H.1 i) 8 0 (ma_kV d 176 Q 67 l st H 0 0) := wp_get rfl (by decide +kernel)
theorem w176_67 : ma_W d 176 Q 67 (o0 :: o1 :: o2 :: o3 :: o4 :: o5 :: some (.int x) :: l) st H 0 0 = ma_W d 176 Q 69 (o0 :: o1 :: o2 :: o3 :: o4 :: o5 :: some (.int x) :: l) (.int x :: st) H 0 0 := wp_iload rfl rfl
theorem w176_69 : ma_W d 176 Q 69 l st H 0 0 = ma_W d 176 Q 70 l (.int 2 :: st) H 0 0 := wp_iconst rfl (by decide)
theorem w176_70 : ma_W d 176 Q 70 l (.int y :: .int x :: st) H 0 0 = ma_W d 176 Q 71 l (.int (x + y) :: st) H 0 0 := wp_iadd rfl
theorem w176_71 : ma_W d 176 Q 71 l (.int x :: .ref i :: st) H 0 0 = ma_ial (H.1 i) x (ma_kV d 176 Q 72 l st H 0 0) := wp_iald rfl
theorem w176_72 : ma_W d 176 Q 72 l (.int x2 :: .int x1 :: .int x0 :: st) H 0 0 = (ma_cat st ≤ 8 ∧ ma_MW d 150 [.int x0, .int x1, .int x2] H (ma_kC d 176 Q 75 l st 0 0)) := wc_S0 (ia := 150) (n := 3) (cn := 8) (k := 1) rfl (by decide +kernel) (by decide) (fun _ => rfl) rfl rfl
theorem w176_75 : ma_W d 176 Q 75 (some (.ref i) :: l) st H 0 0 = ma_W d 176 Q 76 (some (.ref i) :: l) (.ref i :: st) H 0 0 := wp_aload_n (x := some i) rfl rfl
theorem w176_76 : ma_W d 176 Q 76 l (.ref i :: st) H 0 0 = ma_gf (H.1 i) 8 0 (ma_kV d 176 Q 79 l st H 0 0) := wp_get rfl (by decide +kernel)
theorem w176_79 : ma_W d 176 Q 79 (o0 :: o1 :: o2 :: o3 :: o4 :: o5 :: some (.int x) :: l) st H 0 0 = ma_W d 176 Q 81 (o0 :: o1 :: o2 :: o3 :: o4 :: o5 :: some (.int x) :: l) (.int x :: st) H 0 0 := wp_iload rfl rfl
theorem w176_81 : ma_W d 176 Q 81 l st H 0 0 = ma_W d 176 Q 82 l (.int 3 :: st) H 0 0 := wp_iconst rfl (by decide)
theorem w176_82 : ma_W d 176 Q 82 l (.int y :: .int x :: st) H 0 0 = ma_W d 176 Q 83 l (.int (x + y) :: st) H 0 0 := wp_iadd rfl
theorem w176_83 : ma_W d 176 Q 83 l (.int x :: .ref i :: st) H 0 0 = ma_ial (H.1 i) x (ma_kV d 176 Q 84 l st H 0 0) := wp_iald rfl
theorem w176_84 : ma_W d 176 Q 84 l (.int y :: .int x :: st) H 0 0 = ma_if (x = y) d 176 Q 87 91 l st H 0 0 := wp_ic (id := 176) (pc := 84) (c := .ne) (off := 7) 91 rfl (by decide)
theorem w176_87 : ma_W d 176 Q 87 l st H 0 0 = ma_W d 176 Q 88 l (.int 1 :: st) H 0 0 := wp_iconst rfl (by decide)
theorem w176_88 : ma_W d 176 Q 88 l st H 0 0 = ma_W d 176 Q 92 l st H 0 0 := wp_goto 92 rfl (by decide)
theorem w176_91 : ma_W d 176 Q 91 l st H 0 0 = ma_W d 176 Q 92 l (.int 0 :: st) H 0 0 := wp_iconst rfl (by decide)
theorem w176_92 : ma_W d 176 Q 92 (o0 :: o1 :: o2 :: o3 :: p :: l) (.int x :: st) H 0 0 = ma_W d 176 Q 94 (o0 :: o1 :: o2 :: ma_clr o3 :: some (.int x) :: l) st H 0 0 := wp_istore (id := 176) (pc := 92) (k := 4) rfl (Nat.succ_lt_succ (Nat.succ_lt_succ (Nat.succ_lt_succ (Nat.succ_lt_succ (Nat.zero_lt_succ _)))))
theorem w176_94 : ma_W d 176 Q 94 (o0 :: o1 :: o2 :: o3 :: o4 :: some (.int x) :: l) st H 0 0 = ma_W d 176 Q 97 (o0 :: o1 :: o2 :: o3 :: ma_clr o4 :: some (.int (x + 1)) :: l) st H 0 0 := wp_iinc (id := 176) (pc := 94) (k := 5) (n := 1) rfl (Nat.succ_lt_succ (Nat.succ_lt_succ (Nat.succ_lt_succ (Nat.succ_lt_succ (Nat.succ_lt_succ (Nat.zero_lt_succ _)))))) rfl (by decide)
theorem w176_97 : ma_W d 176 Q 97 l st H 0 0 = ma_W d 176 Q 16 l st H 0 0 := wp_goto 16 rfl (by decide)
theorem w176_100 : ma_W d 176 Q 100 (o0 :: o1 :: some (.int x) :: l) st H 0 0 = ma_W d 176 Q 101 (o0 :: o1 :: some (.int x) :: l) (.int x :: st) H 0 0 := wp_iload_n rfl rfl
theorem w176_101 : ma_W d 176 Q 101 (o0 :: o1 :: o2 :: o3 :: some (.int x) :: l) st H 0 0 = ma_W d 176 Q 103 (o0 :: o1 :: o2 :: o3 :: some (.int x) :: l) (.int x :: st) H 0 0 := wp_iload rfl rfl
theorem w176_103 : ma_W d 176 Q 103 l (.int x :: st) H 0 0 = ma_if (x = 0) d 176 Q 112 106 l st H 0 0 := wp_c0 (id := 176) (pc := 103) (c := .eq) (off := 9) 112 rfl (by decide)
theorem w176_106 : ma_W d 176 Q 106 l st H 0 0 = ma_W d 176 Q 107 l (.int 1 :: st) H 0 0 := wp_iconst rfl (by decide)
theorem w176_107 : ma_W d 176 Q 107 (o0 :: o1 :: o2 :: some (.int x) :: l) st H 0 0 = ma_W d 176 Q 108 (o0 :: o1 :: o2 :: some (.int x) :: l) (.int x :: st) H 0 0 := wp_iload_n rfl rfl
theorem w176_108 : ma_W d 176 Q 108 l (.int y :: .int x :: st) H 0 0 = ma_W d 176 Q 109 l (.int (x <<< (y &&& 31)) :: st) H 0 0 := wp_ishl rfl
theorem w176_109 : ma_W d 176 Q 109 l st H 0 0 = ma_W d 176 Q 113 l st H 0 0 := wp_goto 113 rfl (by decide)
theorem w176_112 : ma_W d 176 Q 112 l st H 0 0 = ma_W d 176 Q 113 l (.int 0 :: st) H 0 0 := wp_iconst rfl (by decide)
theorem w176_113 : ma_W d 176 Q 113 l (.int y :: .int x :: st) H 0 0 = ma_W d 176 Q 114 l (.int (x ||| y) :: st) H 0 0 := wp_ior rfl
theorem w176_114 : ma_W d 176 Q 114 (o0 :: o1 :: p :: l) (.int x :: st) H 0 0 = ma_W d 176 Q 115 (o0 :: ma_clr o1 :: some (.int x) :: l) st H 0 0 := wp_istore_n (id := 176) (pc := 114) (k := 2) rfl (Nat.succ_lt_succ (Nat.succ_lt_succ (Nat.zero_lt_succ _)))
theorem w176_115 : ma_W d 176 Q 115 (o0 :: o1 :: o2 :: some (.int x) :: l) st H 0 0 = ma_W d 176 Q 118 (o0 :: o1 :: ma_clr o2 :: some (.int (x + 1)) :: l) st H 0 0 := wp_iinc (id := 176) (pc := 115) (k := 3) (n := 1) rfl (Nat.succ_lt_succ (Nat.succ_lt_succ (Nat.succ_lt_succ (Nat.zero_lt_succ _)))) rfl (by decide)
theorem w176_118 : ma_W d 176 Q 118 l st H 0 0 = ma_W d 176 Q 4 l st H 0 0 := wp_goto 4 rfl (by decide)
theorem w176_121 : ma_W d 176 Q 121 (o0 :: o1 :: some (.int x) :: l) st H 0 0 = ma_W d 176 Q 122 (o0 :: o1 :: some (.int x) :: l) (.int x :: st) H 0 0 := wp_iload_n rfl rfl
theorem w176_122 : ma_W d 176 Q 122 l [.int x] H 0 0 = Q (some (.int x)) H := wp_iret rfl rfl
theorem e176 : ma_MW (d + 1) 176 [.ref i, .int x0] H Q = ma_W d 176 Q 0 [some (.ref i), some (.int x0), none, none, none, none, none] [] H 0 0 := wp_enter (by decide) (Nat.le_of_ble_eq_true rfl) rfl
/-! 177 mo_alike -/
theorem w177_0 : ma_W d 177 Q 0 l st H 0 0 = ma_W d 177 Q 1 l (.int 0 :: st) H 0 0 := wp_iconst rfl (by decide)
theorem w177_1 : ma_W d 177 Q 1 (o0 :: o1 :: o2 :: p :: l) (.int x :: st) H 0 0 = ma_W d 177 Q 2 (o0 :: o1 :: ma_clr o2 :: some (.int x) :: l) st H 0 0 := wp_istore_n (id := 177) (pc := 1) (k := 3) rfl (Nat.succ_lt_succ (Nat.succ_lt_succ (Nat.succ_lt_succ (Nat.zero_lt_succ _))))
theorem w177_2 : ma_W d 177 Q 2 l st H 0 0 = ma_W d 177 Q 3 l (.int 0 :: st) H 0 0 := wp_iconst rfl (by decide)
theorem w177_3 : ma_W d 177 Q 3 (o0 :: o1 :: o2 :: o3 :: p :: l) (.int x :: st) H 0 0 = ma_W d 177 Q 5 (o0 :: o1 :: o2 :: ma_clr o3 :: some (.int x) :: l) st H 0 0 := wp_istore (id := 177) (pc := 3) (k := 4) rfl (Nat.succ_lt_succ (Nat.succ_lt_succ (Nat.succ_lt_succ (Nat.succ_lt_succ (Nat.zero_lt_succ _)))))
theorem w177_5 : ma_W d 177 Q 5 (o0 :: o1 :: o2 :: o3 :: some (.int x) :: l) st H 0 0 = ma_W d 177 Q 7 (o0 :: o1 :: o2 :: o3 :: some (.int x) :: l) (.int x :: st) H 0 0 := wp_iload rfl rfl
theorem w177_7 : ma_W d 177 Q 7 l st H 0 0 = ma_W d 177 Q 9 l (.int 6 :: st) H 0 0 := wp_bipush rfl (by decide)
theorem w177_9 : ma_W d 177 Q 9 l (.int y :: .int x :: st) H 0 0 = ma_if (y ≤ x) d 177 Q 131 12 l st H 0 0 := wp_ic (id := 177) (pc := 9) (c := .ge) (off := 122) 131 rfl (by decide)
theorem w177_12 : ma_W d 177 Q 12 (o0 :: o1 :: some (.int x) :: l) st H 0 0 = ma_W d 177 Q 13 (o0 :: o1 :: some (.int x) :: l) (.int x :: st) H 0 0 := wp_iload_n rfl rfl
theorem w177_13 : ma_W d 177 Q 13 l st H 0 0 = ma_W d 177 Q 14 l (.int (-1) :: st) H 0 0 := wp_iconst rfl (by decide)
theorem w177_14 : ma_W d 177 Q 14 l (.int y :: .int x :: st) H 0 0 = ma_if (x = y) d 177 Q 17 26 l st H 0 0 := wp_ic (id := 177) (pc := 14) (c := .ne) (off := 12) 26 rfl (by decide)
theorem w177_17 : ma_W d 177 Q 17 (o0 :: o1 :: o2 :: o3 :: some (.int x) :: l) st H 0 0 = ma_W d 177 Q 19 (o0 :: o1 :: o2 :: o3 :: some (.int x) :: l) (.int x :: st) H 0 0 := wp_iload rfl rfl
theorem w177_19 : ma_W d 177 Q 19 (o0 :: some (.int x) :: l) st H 0 0 = ma_W d 177 Q 20 (o0 :: some (.int x) :: l) (.int x :: st) H 0 0 := wp_iload_n rfl rfl
theorem w177_20 : ma_W d 177 Q 20 l (.int x1 :: .int x0 :: st) H 0 0 = (ma_cat st ≤ 8 ∧ ma_MW d 149 [.int x0, .int x1] H (ma_kC d 177 Q 23 l st 0 0)) := wc_S0 (ia := 149) (n := 2) (cn := 8) (k := 1) rfl (by decide +kernel) (by decide) (fun _ => rfl) rfl rfl
theorem w177_23 : ma_W d 177 Q 23 l st H 0 0 = ma_W d 177 Q 33 l st H 0 0 := wp_goto 33 rfl (by decide)
theorem w177_26 : ma_W d 177 Q 26 (o0 :: o1 :: o2 :: o3 :: some (.int x) :: l) st H 0 0 = ma_W d 177 Q 28 (o0 :: o1 :: o2 :: o3 :: some (.int x) :: l) (.int x :: st) H 0 0 := wp_iload rfl rfl
theorem w177_28 : ma_W d 177 Q 28 (o0 :: some (.int x) :: l) st H 0 0 = ma_W d 177 Q 29 (o0 :: some (.int x) :: l) (.int x :: st) H 0 0 := wp_iload_n rfl rfl
theorem w177_29 : ma_W d 177 Q 29 (o0 :: o1 :: some (.int x) :: l) st H 0 0 = ma_W d 177 Q 30 (o0 :: o1 :: some (.int x) :: l) (.int x :: st) H 0 0 := wp_iload_n rfl rfl
theorem w177_30 : ma_W d 177 Q 30 l (.int x2 :: .int x1 :: .int x0 :: st) H 0 0 = (ma_cat st ≤ 8 ∧ ma_MW d 150 [.int x0, .int x1, .int x2] H (ma_kC d 177 Q 33 l st 0 0)) := wc_S0 (ia := 150) (n := 3) (cn := 8) (k := 1) rfl (by decide +kernel) (by decide) (fun _ => rfl) rfl rfl
theorem w177_33 : ma_W d 177 Q 33 (o0 :: o1 :: o2 :: o3 :: o4 :: p :: l) (.int x :: st) H 0 0 = ma_W d 177 Q 35 (o0 :: o1 :: o2 :: o3 :: ma_clr o4 :: some (.int x) :: l) st H 0 0 := wp_istore (id := 177) (pc := 33) (k := 5) rfl (Nat.succ_lt_succ (Nat.succ_lt_succ (Nat.succ_lt_succ (Nat.succ_lt_succ (Nat.succ_lt_succ (Nat.zero_lt_succ _))))))
theorem w177_35 : ma_W d 177 Q 35 l st H 0 0 = ma_W d 177 Q 36 l (.int 0 :: st) H 0 0 := wp_iconst rfl (by decide)
theorem w177_36 : ma_W d 177 Q 36 (o0 :: o1 :: o2 :: o3 :: o4 :: o5 :: p :: l) (.int x :: st) H 0 0 = ma_W d 177 Q 38 (o0 :: o1 :: o2 :: o3 :: o4 :: ma_clr o5 :: some (.int x) :: l) st H 0 0 := wp_istore (id := 177) (pc := 36) (k := 6) rfl (Nat.succ_lt_succ (Nat.succ_lt_succ (Nat.succ_lt_succ (Nat.succ_lt_succ (Nat.succ_lt_succ (Nat.succ_lt_succ (Nat.zero_lt_succ _)))))))
theorem w177_38 : ma_W d 177 Q 38 l st H 0 0 = ma_W d 177 Q 39 l (.int 0 :: st) H 0 0 := wp_iconst rfl (by decide)
theorem w177_39 : ma_W d 177 Q 39 (o0 :: o1 :: o2 :: o3 :: o4 :: o5 :: o6 :: p :: l) (.int x :: st) H 0 0 = ma_W d 177 Q 41 (o0 :: o1 :: o2 :: o3 :: o4 :: o5 :: ma_clr o6 :: some (.int x) :: l) st H 0 0 := wp_istore (id := 177) (pc := 39) (k := 7) rfl (Nat.succ_lt_succ (Nat.succ_lt_succ (Nat.succ_lt_succ (Nat.succ_lt_succ (Nat.succ_lt_succ (Nat.succ_lt_succ (Nat.succ_lt_succ (Nat.zero_lt_succ _))))))))
theorem w177_41 : ma_W d 177 Q 41 (o0 :: o1 :: o2 :: o3 :: o4 :: o5 :: o6 :: some (.int x) :: l) st H 0 0 = ma_W d 177 Q 43 (o0 :: o1 :: o2 :: o3 :: o4 :: o5 :: o6 :: some (.int x) :: l) (.int x :: st) H 0 0 := wp_iload rfl rfl
theorem w177_43 : ma_W d 177 Q 43 l st H 0 0 = ma_W d 177 Q 45 l (.int 6 :: st) H 0 0 := wp_bipush rfl (by decide)
theorem w177_45 : ma_W d 177 Q 45 l (.int y :: .int x :: st) H 0 0 = ma_if (y ≤ x) d 177 Q 112 48 l st H 0 0 := wp_ic (id := 177) (pc := 45) (c := .ge) (off := 67) 112 rfl (by decide)
theorem w177_48 : ma_W d 177 Q 48 (o0 :: o1 :: some (.int x) :: l) st H 0 0 = ma_W d 177 Q 49 (o0 :: o1 :: some (.int x) :: l) (.int x :: st) H 0 0 := wp_iload_n rfl rfl
theorem w177_49 : ma_W d 177 Q 49 l st H 0 0 = ma_W d 177 Q 50 l (.int (-1) :: st) H 0 0 := wp_iconst rfl (by decide)
theorem w177_50 : ma_W d 177 Q 50 l (.int y :: .int x :: st) H 0 0 = ma_if (x = y) d 177 Q 53 62 l st H 0 0 := wp_ic (id := 177) (pc := 50) (c := .ne) (off := 12) 62 rfl (by decide)
theorem w177_53 : ma_W d 177 Q 53 (o0 :: o1 :: o2 :: o3 :: o4 :: o5 :: o6 :: some (.int x) :: l) st H 0 0 = ma_W d 177 Q 55 (o0 :: o1 :: o2 :: o3 :: o4 :: o5 :: o6 :: some (.int x) :: l) (.int x :: st) H 0 0 := wp_iload rfl rfl
theorem w177_55 : ma_W d 177 Q 55 (o0 :: some (.int x) :: l) st H 0 0 = ma_W d 177 Q 56 (o0 :: some (.int x) :: l) (.int x :: st) H 0 0 := wp_iload_n rfl rfl
theorem w177_56 : ma_W d 177 Q 56 l (.int x1 :: .int x0 :: st) H 0 0 = (ma_cat st ≤ 8 ∧ ma_MW d 149 [.int x0, .int x1] H (ma_kC d 177 Q 59 l st 0 0)) := wc_S0 (ia := 149) (n := 2) (cn := 8) (k := 1) rfl (by decide +kernel) (by decide) (fun _ => rfl) rfl rfl
theorem w177_59 : ma_W d 177 Q 59 l st H 0 0 = ma_W d 177 Q 69 l st H 0 0 := wp_goto 69 rfl (by decide)
theorem w177_62 : ma_W d 177 Q 62 (o0 :: o1 :: o2 :: o3 :: o4 :: o5 :: o6 :: some (.int x) :: l) st H 0 0 = ma_W d 177 Q 64 (o0 :: o1 :: o2 :: o3 :: o4 :: o5 :: o6 :: some (.int x) :: l) (.int x :: st) H 0 0 := wp_iload rfl rfl
theorem w177_64 : ma_W d 177 Q 64 (o0 :: some (.int x) :: l) st H 0 0 = ma_W d 177 Q 65 (o0 :: some (.int x) :: l) (.int x :: st) H 0 0 := wp_iload_n rfl rfl
theorem w177_65 : ma_W d 177 Q 65 (o0 :: o1 :: some (.int x) :: l) st H 0 0 = ma_W d 177 Q 66 (o0 :: o1 :: some (.int x) :: l) (.int x :: st) H 0 0 := wp_iload_n rfl rfl
theorem w177_66 : ma_W d 177 Q 66 l (.int x2 :: .int x1 :: .int x0 :: st) H 0 0 = (ma_cat st ≤ 8 ∧ ma_MW d 150 [.int x0, .int x1, .int x2] H (ma_kC d 177 Q 69 l st 0 0)) := wc_S0 (ia := 150) (n := 3) (cn := 8) (k := 1) rfl (by decide +kernel) (by decide) (fun _ => rfl) rfl rfl
theorem w177_69 : ma_W d 177 Q 69 (o0 :: o1 :: o2 :: o3 :: o4 :: o5 :: o6 :: o7 :: p :: l) (.int x :: st) H 0 0 = ma_W d 177 Q 71 (o0 :: o1 :: o2 :: o3 :: o4 :: o5 :: o6 :: ma_clr o7 :: some (.int x) :: l) st H 0 0 := wp_istore (id := 177) (pc := 69) (k := 8) rfl (Nat.succ_lt_succ (Nat.succ_lt_succ (Nat.succ_lt_succ (Nat.succ_lt_succ (Nat.succ_lt_succ (Nat.succ_lt_succ (Nat.succ_lt_succ (Nat.succ_lt_succ (Nat.zero_lt_succ _)))))))))
theorem w177_71 : ma_W d 177 Q 71 (o0 :: o1 :: o2 :: o3 :: o4 :: o5 :: some (.int x) :: l) st H 0 0 = ma_W d 177 Q 73 (o0 :: o1 :: o2 :: o3 :: o4 :: o5 :: some (.int x) :: l) (.int x :: st) H 0 0 := wp_iload rfl rfl
theorem w177_73 : ma_W d 177 Q 73 (some (.int x) :: l) st H 0 0 = ma_W d 177 Q 74 (some (.int x) :: l) (.int x :: st) H 0 0 := wp_iload_n rfl rfl
theorem w177_74 : ma_W d 177 Q 74 (o0 :: o1 :: o2 :: o3 :: some (.int x) :: l) st H 0 0 = ma_W d 177 Q 76 (o0 :: o1 :: o2 :: o3 :: some (.int x) :: l) (.int x :: st) H 0 0 := wp_iload rfl rfl
theorem w177_76 : ma_W d 177 Q 76 l (.int x1 :: .int x0 :: st) H 0 0 = (ma_cat st ≤ 8 ∧ ma_MW d 126 [.int x0, .int x1] H (ma_kC d 177 Q 79 l st 0 0)) := wc_S0 (ia := 126) (n := 2) (cn := 8) (k := 1) rfl (by decide +kernel) (by decide) (fun _ => rfl) rfl rfl
theorem w177_79 : ma_W d 177 Q 79 l (.int x :: st) H 0 0 = ma_if (x = 0) d 177 Q 102 82 l st H 0 0 := wp_c0 (id := 177) (pc := 79) (c := .eq) (off := 23) 102 rfl (by decide)
theorem w177_82 : ma_W d 177 Q 82 (some (.int x) :: l) st H 0 0 = ma_W d 177 Q 83 (some (.int x) :: l) (.int x :: st) H 0 0 := wp_iload_n rfl rfl
theorem w177_83 : ma_W d 177 Q 83 (o0 :: o1 :: o2 :: o3 :: o4 :: o5 :: o6 :: some (.int x) :: l) st H 0 0 = ma_W d 177 Q 85 (o0 :: o1 :: o2 :: o3 :: o4 :: o5 :: o6 :: some (.int x) :: l) (.int x :: st) H 0 0 := wp_iload rfl rfl
theorem w177_85 : ma_W d 177 Q 85 l (.int x1 :: .int x0 :: st) H 0 0 = (ma_cat st ≤ 8 ∧ ma_MW d 126 [.int x0, .int x1] H (ma_kC d 177 Q 88 l st 0 0)) := wc_S0 (ia := 126) (n := 2) (cn := 8) (k := 1) rfl (by decide +kernel) (by decide) (fun _ => rfl) rfl rfl
theorem w177_88 : ma_W d 177 Q 88 l (.int x :: st) H 0 0 = ma_if (x = 0) d 177 Q 102 91 l st H 0 0 := wp_c0 (id := 177) (pc := 88) (c := .eq) (off := 14) 102 rfl (by decide)
theorem w177_91 : ma_W d 177 Q 91 (o0 :: o1 :: o2 :: o3 :: o4 :: some (.int x) :: l) st H 0 0 = ma_W d 177 Q 93 (o0 :: o1 :: o2 :: o3 :: o4 :: some (.int x) :: l) (.int x :: st) H 0 0 := wp_iload rfl rfl
theorem w177_93 : ma_W d 177 Q 93 (o0 :: o1 :: o2 :: o3 :: o4 :: o5 :: o6 :: o7 :: some (.int x) :: l) st H 0 0 = ma_W d 177 Q 95 (o0 :: o1 :: o2 :: o3 :: o4 :: o5 :: o6 :: o7 :: some (.int x) :: l) (.int x :: st) H 0 0 := wp_iload rfl rfl
theorem w177_95 : ma_W d 177 Q 95 l (.int y :: .int x :: st) H 0 0 = ma_if (x = y) d 177 Q 98 102 l st H 0 0 := wp_ic (id := 177) (pc := 95) (c := .ne) (off := 7) 102 rfl (by decide)
theorem w177_98 : ma_W d 177 Q 98 l st H 0 0 = ma_W d 177 Q 99 l (.int 1 :: st) H 0 0 := wp_iconst rfl (by decide)
theorem w177_99 : ma_W d 177 Q 99 l st H 0 0 = ma_W d 177 Q 103 l st H 0 0 := wp_goto 103 rfl (by decide)
theorem w177_102 : ma_W d 177 Q 102 l st H 0 0 = ma_W d 177 Q 103 l (.int 0 :: st) H 0 0 := wp_iconst rfl (by decide)
theorem w177_103 : ma_W d 177 Q 103 l (.int y :: .int x :: st) H 0 0 = ma_W d 177 Q 104 l (.int (x + y) :: st) H 0 0 := wp_iadd rfl
theorem w177_104 : ma_W d 177 Q 104 (o0 :: o1 :: o2 :: o3 :: o4 :: o5 :: p :: l) (.int x :: st) H 0 0 = ma_W d 177 Q 106 (o0 :: o1 :: o2 :: o3 :: o4 :: ma_clr o5 :: some (.int x) :: l) st H 0 0 := wp_istore (id := 177) (pc := 104) (k := 6) rfl (Nat.succ_lt_succ (Nat.succ_lt_succ (Nat.succ_lt_succ (Nat.succ_lt_succ (Nat.succ_lt_succ (Nat.succ_lt_succ (Nat.zero_lt_succ _)))))))
theorem w177_106 : ma_W d 177 Q 106 (o0 :: o1 :: o2 :: o3 :: o4 :: o5 :: o6 :: some (.int x) :: l) st H 0 0 = ma_W d 177 Q 109 (o0 :: o1 :: o2 :: o3 :: o4 :: o5 :: ma_clr o6 :: some (.int (x + 1)) :: l) st H 0 0 := wp_iinc (id := 177) (pc := 106) (k := 7) (n := 1) rfl (Nat.succ_lt_succ (Nat.succ_lt_succ (Nat.succ_lt_succ (Nat.succ_lt_succ (Nat.succ_lt_succ (Nat.succ_lt_succ (Nat.succ_lt_succ (Nat.zero_lt_succ _)))))))) rfl (by decide)
theorem w177_109 : ma_W d 177 Q 109 l st H 0 0 = ma_W d 177 Q 41 l st H 0 0 := wp_goto 41 rfl (by decide)
theorem w177_112 : ma_W d 177 Q 112 (o0 :: o1 :: o2 :: o3 :: o4 :: o5 :: some (.int x) :: l) st H 0 0 = ma_W d 177 Q 114 (o0 :: o1 :: o2 :: o3 :: o4 :: o5 :: some (.int x) :: l) (.int x :: st) H 0 0 := wp_iload rfl rfl
theorem w177_114 : ma_W d 177 Q 114 (o0 :: o1 :: o2 :: some (.int x) :: l) st H 0 0 = ma_W d 177 Q 115 (o0 :: o1 :: o2 :: some (.int x) :: l) (.int x :: st) H 0 0 := wp_iload_n rfl rfl
theorem w177_115 : ma_W d 177 Q 115 l (.int y :: .int x :: st) H 0 0 = ma_if (x ≤ y) d 177 Q 123 118 l st H 0 0 := wp_ic (id := 177) (pc := 115) (c := .le) (off := 8) 123 rfl (by decide)
theorem w177_118 : ma_W d 177 Q 118 (o0 :: o1 :: o2 :: o3 :: o4 :: o5 :: some (.int x) :: l) st H 0 0 = ma_W d 177 Q 120 (o0 :: o1 :: o2 :: o3 :: o4 :: o5 :: some (.int x) :: l) (.int x :: st) H 0 0 := wp_iload rfl rfl
theorem w177_120 : ma_W d 177 Q 120 l st H 0 0 = ma_W d 177 Q 124 l st H 0 0 := wp_goto 124 rfl (by decide)
theorem w177_123 : ma_W d 177 Q 123 (o0 :: o1 :: o2 :: some (.int x) :: l) st H 0 0 = ma_W d 177 Q 124 (o0 :: o1 :: o2 :: some (.int x) :: l) (.int x :: st) H 0 0 := wp_iload_n rfl rfl
theorem w177_124 : ma_W d 177 Q 124 (o0 :: o1 :: o2 :: p :: l) (.int x :: st) H 0 0 = ma_W d 177 Q 125 (o0 :: o1 :: ma_clr o2 :: some (.int x) :: l) st H 0 0 := wp_istore_n (id := 177) (pc := 124) (k := 3) rfl (Nat.succ_lt_succ (Nat.succ_lt_succ (Nat.succ_lt_succ (Nat.zero_lt_succ _))))
theorem w177_125 : ma_W d 177 Q 125 (o0 :: o1 :: o2 :: o3 :: some (.int x) :: l) st H 0 0 = ma_W d 177 Q 128 (o0 :: o1 :: o2 :: ma_clr o3 :: some (.int (x + 1)) :: l) st H 0 0 := wp_iinc (id := 177) (pc := 125) (k := 4) (n := 1) rfl (Nat.succ_lt_succ (Nat.succ_lt_succ (Nat.succ_lt_succ (Nat.succ_lt_succ (Nat.zero_lt_succ _))))) rfl (by decide)
theorem w177_128 : ma_W d 177 Q 128 l st H 0 0 = ma_W d 177 Q 5 l st H 0 0 := wp_goto 5 rfl (by decide)
theorem w177_131 : ma_W d 177 Q 131 (o0 :: o1 :: o2 :: some (.int x) :: l) st H 0 0 = ma_W d 177 Q 132 (o0 :: o1 :: o2 :: some (.int x) :: l) (.int x :: st) H 0 0 := wp_iload_n rfl rfl
theorem w177_132 : ma_W d 177 Q 132 l [.int x] H 0 0 = Q (some (.int x)) H := wp_iret rfl rfl
theorem e177 : ma_MW (d + 1) 177 [.int x0, .int x1, .int x2] H Q = ma_W d 177 Q 0 [some (.int x0), some (.int x1), some (.int x2), none, none, none, none, none, none] [] H 0 0 := wp_enter (by decide) (Nat.le_of_ble_eq_true rfl) rfl
/-! 178 mo_is -/
theorem w178_0 : ma_W d 178 Q 0 (some (.ref i) :: l) st H 0 0 = ma_W d 178 Q 1 (some (.ref i) :: l) (.ref i :: st) H 0 0 := wp_aload_n (x := some i) rfl rfl
theorem w178_1 : ma_W d 178 Q 1 l (.ref i :: st) H 0 0 = (ma_cat st ≤ 8 ∧ ma_cv (H.1 i) 8 d 175 [.ref i] H (ma_kC d 178 Q 4 l st 0 0)) := wc_V0 (ia := 175) (n := 1) (cn := 8) rfl (by decide +kernel) (fun _ => rfl) rfl rfl
theorem w178_4 : ma_W d 178 Q 4 l [.int x] H 0 0 = Q (some (.int x)) H := wp_iret rfl rfl
theorem e178 : ma_MW (d + 1) 178 [.ref i] H Q = ma_W d 178 Q 0 [some (.ref i)] [] H 0 0 := wp_enter (by decide) (Nat.le_of_ble_eq_true rfl) rfl
/-! 179 mo_look -/
theorem w179_0 : ma_W d 179 Q 0 (some (.ref i) :: l) st H 0 0 = ma_W d 179 Q 1 (some (.ref i) :: l) (.ref i :: st) H 0 0 := wp_aload_n (x := some i) rfl rfl
theorem w179_1 : ma_W d 179 Q 1 l (.ref i :: st) H 0 0 = (ma_cat st ≤ 8 ∧ ma_cv (H.1 i) 8 d 175 [.ref i] H (ma_kC d 179 Q 4 l st 0 0)) := wc_V0 (ia := 175) (n := 1) (cn := 8) rfl (by decide +kernel) (fun _ => rfl) rfl rfl
theorem w179_4 : ma_W d 179 Q 4 (o0 :: p :: l) (.int x :: st) H 0 0 = ma_W d 179 Q 5 (ma_clr o0 :: some (.int x) :: l) st H 0 0 := wp_istore_n (id := 179) (pc := 4) (k := 1) rfl (Nat.succ_lt_succ (Nat.zero_lt_succ _))
theorem w179_5 : ma_W d 179 Q 5 l st H 0 0 = ma_W d 179 Q 6 l (.int (-1) :: st) H 0 0 := wp_iconst rfl (by decide)
theorem w179_6 : ma_W d 179 Q 6 (o0 :: o1 :: p :: l) (.int x :: st) H 0 0 = ma_W d 179 Q 7 (o0 :: ma_clr o1 :: some (.int x) :: l) st H 0 0 := wp_istore_n (id := 179) (pc := 6) (k := 2) rfl (Nat.succ_lt_succ (Nat.succ_lt_succ (Nat.zero_lt_succ _)))
theorem w179_7 : ma_W d 179 Q 7 l st H 0 0 = ma_W d 179 Q 9 l (.int 7 :: st) H 0 0 := wp_bipush rfl (by decide)
theorem w179_9 : ma_W d 179 Q 9 (o0 :: o1 :: o2 :: p :: l) (.int x :: st) H 0 0 = ma_W d 179 Q 10 (o0 :: o1 :: ma_clr o2 :: some (.int x) :: l) st H 0 0 := wp_istore_n (id := 179) (pc := 9) (k := 3) rfl (Nat.succ_lt_succ (Nat.succ_lt_succ (Nat.succ_lt_succ (Nat.zero_lt_succ _))))
theorem w179_10 : ma_W d 179 Q 10 l st H 0 0 = ma_W d 179 Q 11 l (.int 1 :: st) H 0 0 := wp_iconst rfl (by decide)
theorem w179_11 : ma_W d 179 Q 11 (o0 :: o1 :: o2 :: o3 :: p :: l) (.int x :: st) H 0 0 = ma_W d 179 Q 13 (o0 :: o1 :: o2 :: ma_clr o3 :: some (.int x) :: l) st H 0 0 := wp_istore (id := 179) (pc := 11) (k := 4) rfl (Nat.succ_lt_succ (Nat.succ_lt_succ (Nat.succ_lt_succ (Nat.succ_lt_succ (Nat.zero_lt_succ _)))))
theorem w179_13 : ma_W d 179 Q 13 (o0 :: o1 :: o2 :: o3 :: some (.int x) :: l) st H 0 0 = ma_W d 179 Q 15 (o0 :: o1 :: o2 :: o3 :: some (.int x) :: l) (.int x :: st) H 0 0 := wp_iload rfl rfl
theorem w179_15 : ma_W d 179 Q 15 l st H 0 0 = ma_W d 179 Q 17 l (.int 16 :: st) H 0 0 := wp_bipush rfl (by decide)
theorem w179_17 : ma_W d 179 Q 17 l (.int y :: .int x :: st) H 0 0 = ma_if (y < x) d 179 Q 65 20 l st H 0 0 := wp_ic (id := 179) (pc := 17) (c := .gt) (off := 48) 65 rfl (by decide)
theorem w179_20 : ma_W d 179 Q 20 (o0 :: some (.int x) :: l) st H 0 0 = ma_W d 179 Q 21 (o0 :: some (.int x) :: l) (.int x :: st) H 0 0 := wp_iload_n rfl rfl
theorem w179_21 : ma_W d 179 Q 21 l (.int x :: st) H 0 0 = ma_if (x = 0) d 179 Q 65 24 l st H 0 0 := wp_c0 (id := 179) (pc := 21) (c := .eq) (off := 44) 65 rfl (by decide)
theorem w179_24 : ma_W d 179 Q 24 (o0 :: some (.int x) :: l) st H 0 0 = ma_W d 179 Q 25 (o0 :: some (.int x) :: l) (.int x :: st) H 0 0 := wp_iload_n rfl rfl
theorem w179_25 : ma_W d 179 Q 25 (o0 :: o1 :: o2 :: o3 :: some (.int x) :: l) st H 0 0 = ma_W d 179 Q 27 (o0 :: o1 :: o2 :: o3 :: some (.int x) :: l) (.int x :: st) H 0 0 := wp_iload rfl rfl
theorem w179_27 : ma_W d 179 Q 27 l st H 0 0 = ma_W d 179 Q 28 l (.int (-1) :: st) H 0 0 := wp_iconst rfl (by decide)
theorem w179_28 : ma_W d 179 Q 28 l (.int x2 :: .int x1 :: .int x0 :: st) H 0 0 = (ma_cat st ≤ 8 ∧ ma_MW d 177 [.int x0, .int x1, .int x2] H (ma_kC d 179 Q 31 l st 0 0)) := wc_S0 (ia := 177) (n := 3) (cn := 8) (k := 1) rfl (by decide +kernel) (by decide) (fun _ => rfl) rfl rfl
theorem w179_31 : ma_W d 179 Q 31 (o0 :: o1 :: o2 :: o3 :: o4 :: p :: l) (.int x :: st) H 0 0 = ma_W d 179 Q 33 (o0 :: o1 :: o2 :: o3 :: ma_clr o4 :: some (.int x) :: l) st H 0 0 := wp_istore (id := 179) (pc := 31) (k := 5) rfl (Nat.succ_lt_succ (Nat.succ_lt_succ (Nat.succ_lt_succ (Nat.succ_lt_succ (Nat.succ_lt_succ (Nat.zero_lt_succ _))))))
theorem w179_33 : ma_W d 179 Q 33 (o0 :: o1 :: o2 :: o3 :: o4 :: some (.int x) :: l) st H 0 0 = ma_W d 179 Q 35 (o0 :: o1 :: o2 :: o3 :: o4 :: some (.int x) :: l) (.int x :: st) H 0 0 := wp_iload rfl rfl
theorem w179_35 : ma_W d 179 Q 35 (o0 :: o1 :: o2 :: some (.int x) :: l) st H 0 0 = ma_W d 179 Q 36 (o0 :: o1 :: o2 :: some (.int x) :: l) (.int x :: st) H 0 0 := wp_iload_n rfl rfl
theorem w179_36 : ma_W d 179 Q 36 l (.int y :: .int x :: st) H 0 0 = ma_if (y ≤ x) d 179 Q 44 39 l st H 0 0 := wp_ic (id := 179) (pc := 36) (c := .ge) (off := 8) 44 rfl (by decide)
theorem w179_39 : ma_W d 179 Q 39 (o0 :: o1 :: o2 :: o3 :: some (.int x) :: l) st H 0 0 = ma_W d 179 Q 41 (o0 :: o1 :: o2 :: o3 :: some (.int x) :: l) (.int x :: st) H 0 0 := wp_iload rfl rfl
theorem w179_41 : ma_W d 179 Q 41 l st H 0 0 = ma_W d 179 Q 45 l st H 0 0 := wp_goto 45 rfl (by decide)
theorem w179_44 : ma_W d 179 Q 44 (o0 :: o1 :: some (.int x) :: l) st H 0 0 = ma_W d 179 Q 45 (o0 :: o1 :: some (.int x) :: l) (.int x :: st) H 0 0 := wp_iload_n rfl rfl
theorem w179_45 : ma_W d 179 Q 45 (o0 :: o1 :: p :: l) (.int x :: st) H 0 0 = ma_W d 179 Q 46 (o0 :: ma_clr o1 :: some (.int x) :: l) st H 0 0 := wp_istore_n (id := 179) (pc := 45) (k := 2) rfl (Nat.succ_lt_succ (Nat.succ_lt_succ (Nat.zero_lt_succ _)))
theorem w179_46 : ma_W d 179 Q 46 (o0 :: o1 :: o2 :: o3 :: o4 :: some (.int x) :: l) st H 0 0 = ma_W d 179 Q 48 (o0 :: o1 :: o2 :: o3 :: o4 :: some (.int x) :: l) (.int x :: st) H 0 0 := wp_iload rfl rfl
theorem w179_48 : ma_W d 179 Q 48 (o0 :: o1 :: o2 :: some (.int x) :: l) st H 0 0 = ma_W d 179 Q 49 (o0 :: o1 :: o2 :: some (.int x) :: l) (.int x :: st) H 0 0 := wp_iload_n rfl rfl
theorem w179_49 : ma_W d 179 Q 49 l (.int y :: .int x :: st) H 0 0 = ma_if (y ≤ x) d 179 Q 57 52 l st H 0 0 := wp_ic (id := 179) (pc := 49) (c := .ge) (off := 8) 57 rfl (by decide)
theorem w179_52 : ma_W d 179 Q 52 (o0 :: o1 :: o2 :: o3 :: o4 :: some (.int x) :: l) st H 0 0 = ma_W d 179 Q 54 (o0 :: o1 :: o2 :: o3 :: o4 :: some (.int x) :: l) (.int x :: st) H 0 0 := wp_iload rfl rfl
theorem w179_54 : ma_W d 179 Q 54 l st H 0 0 = ma_W d 179 Q 58 l st H 0 0 := wp_goto 58 rfl (by decide)
theorem w179_57 : ma_W d 179 Q 57 (o0 :: o1 :: o2 :: some (.int x) :: l) st H 0 0 = ma_W d 179 Q 58 (o0 :: o1 :: o2 :: some (.int x) :: l) (.int x :: st) H 0 0 := wp_iload_n rfl rfl
theorem w179_58 : ma_W d 179 Q 58 (o0 :: o1 :: o2 :: p :: l) (.int x :: st) H 0 0 = ma_W d 179 Q 59 (o0 :: o1 :: ma_clr o2 :: some (.int x) :: l) st H 0 0 := wp_istore_n (id := 179) (pc := 58) (k := 3) rfl (Nat.succ_lt_succ (Nat.succ_lt_succ (Nat.succ_lt_succ (Nat.zero_lt_succ _))))
theorem w179_59 : ma_W d 179 Q 59 (o0 :: o1 :: o2 :: o3 :: some (.int x) :: l) st H 0 0 = ma_W d 179 Q 62 (o0 :: o1 :: o2 :: ma_clr o3 :: some (.int (x + 1)) :: l) st H 0 0 := wp_iinc (id := 179) (pc := 59) (k := 4) (n := 1) rfl (Nat.succ_lt_succ (Nat.succ_lt_succ (Nat.succ_lt_succ (Nat.succ_lt_succ (Nat.zero_lt_succ _))))) rfl (by decide)
theorem w179_62 : ma_W d 179 Q 62 l st H 0 0 = ma_W d 179 Q 13 l st H 0 0 := wp_goto 13 rfl (by decide)
theorem w179_65 : ma_W d 179 Q 65 (o0 :: o1 :: some (.int x) :: l) st H 0 0 = ma_W d 179 Q 66 (o0 :: o1 :: some (.int x) :: l) (.int x :: st) H 0 0 := wp_iload_n rfl rfl
theorem w179_66 : ma_W d 179 Q 66 l [.int x] H 0 0 = Q (some (.int x)) H := wp_iret rfl rfl
theorem e179 : ma_MW (d + 1) 179 [.ref i] H Q = ma_W d 179 Q 0 [some (.ref i), none, none, none, none, none] [] H 0 0 := wp_enter (by decide) (Nat.le_of_ble_eq_true rfl) rfl
/-! 180 mo_kinds -/
theorem w180_0 : ma_W d 180 Q 0 (o0 :: some (.int x) :: l) st H 0 0 = ma_W d 180 Q 1 (o0 :: some (.int x) :: l) (.int x :: st) H 0 0 := wp_iload_n rfl rfl
theorem w180_1 : ma_W d 180 Q 1 l st H 0 0 = ma_W d 180 Q 2 l (.int 0 :: st) H 0 0 := wp_iconst rfl (by decide)
theorem w180_2 : ma_W d 180 Q 2 l st H 0 0 = ma_W d 180 Q 3 l (.int 1 :: st) H 0 0 := wp_iconst rfl (by decide)
theorem w180_3 : ma_W d 180 Q 3 l (.int x2 :: .int x1 :: .int x0 :: st) H 0 0 = (ma_cat st ≤ 8 ∧ ma_MW d 125 [.int x0, .int x1, .int x2] H (ma_kC d 180 Q 6 l st 0 0)) := wc_S0 (ia := 125) (n := 3) (cn := 8) (k := 1) rfl (by decide +kernel) (by decide) (fun _ => rfl) rfl rfl
theorem w180_6 : ma_W d 180 Q 6 l (.int x :: st) H 0 0 = ma_if (x = 0) d 180 Q 17 9 l st H 0 0 := wp_c0 (id := 180) (pc := 6) (c := .eq) (off := 11) 17 rfl (by decide)
theorem w180_9 : ma_W d 180 Q 9 (some (.ref i) :: l) st H 0 0 = ma_W d 180 Q 10 (some (.ref i) :: l) (.ref i :: st) H 0 0 := wp_aload_n (x := some i) rfl rfl
theorem w180_10 : ma_W d 180 Q 10 (o0 :: some (.int x) :: l) st H 0 0 = ma_W d 180 Q 11 (o0 :: some (.int x) :: l) (.int x :: st) H 0 0 := wp_iload_n rfl rfl
theorem w180_11 : ma_W d 180 Q 11 l (.int x0 :: .ref i :: st) H 0 0 = (ma_cat st ≤ 8 ∧ ma_cv (H.1 i) 8 d 176 [.ref i, .int x0] H (ma_kC d 180 Q 14 l st 0 0)) := wc_V0 (ia := 176) (n := 2) (cn := 8) rfl (by decide +kernel) (fun _ => rfl) rfl rfl
theorem w180_14 : ma_W d 180 Q 14 l st H 0 0 = ma_W d 180 Q 21 l st H 0 0 := wp_goto 21 rfl (by decide)
theorem w180_17 : ma_W d 180 Q 17 (some (.ref i) :: l) st H 0 0 = ma_W d 180 Q 18 (some (.ref i) :: l) (.ref i :: st) H 0 0 := wp_aload_n (x := some i) rfl rfl
theorem w180_18 : ma_W d 180 Q 18 l (.ref i :: st) H 0 0 = (ma_cat st ≤ 8 ∧ ma_cv (H.1 i) 8 d 128 [.ref i] H (ma_kC d 180 Q 21 l st 0 0)) := wc_V0 (ia := 128) (n := 1) (cn := 8) rfl (by decide +kernel) (fun _ => rfl) rfl rfl
theorem w180_21 : ma_W d 180 Q 21 l [.int x] H 0 0 = Q (some (.int x)) H := wp_iret rfl rfl
theorem e180 : ma_MW (d + 1) 180 [.ref i, .int x0] H Q = ma_W d 180 Q 0 [some (.ref i), some (.int x0)] [] H 0 0 := wp_enter (by decide) (Nat.le_of_ble_eq_true rfl) rfl
/-! 181 mo_ask -/
theorem w181_0 : ma_W d 181 Q 0 (o0 :: some (.int x) :: l) st H 0 0 = ma_W d 181 Q 1 (o0 :: some (.int x) :: l) (.int x :: st) H 0 0 := wp_iload_n rfl rfl
theorem w181_1 : ma_W d 181 Q 1 l st H 0 0 = ma_W d 181 Q 2 l (.int 0 :: st) H 0 0 := wp_iconst rfl (by decide)
theorem w181_2 : ma_W d 181 Q 2 l st H 0 0 = ma_W d 181 Q 3 l (.int 1 :: st) H 0 0 := wp_iconst rfl (by decide)
theorem w181_3 : ma_W d 181 Q 3 l (.int x2 :: .int x1 :: .int x0 :: st) H 0 0 = (ma_cat st ≤ 8 ∧ ma_MW d 125 [.int x0, .int x1, .int x2] H (ma_kC d 181 Q 6 l st 0 0)) := wc_S0 (ia := 125) (n := 3) (cn := 8) (k := 1) rfl (by decide +kernel) (by decide) (fun _ => rfl) rfl rfl
theorem w181_6 : ma_W d 181 Q 6 l (.int x :: st) H 0 0 = ma_if (x = 0) d 181 Q 9 14 l st H 0 0 := wp_c0 (id := 181) (pc := 6) (c := .ne) (off := 8) 14 rfl (by decide)
theorem w181_9 : ma_W d 181 Q 9 (some (.ref i) :: l) st H 0 0 = ma_W d 181 Q 10 (some (.ref i) :: l) (.ref i :: st) H 0 0 := wp_aload_n (x := some i) rfl rfl
theorem w181_10 : ma_W d 181 Q 10 l (.ref i :: st) H 0 0 = (ma_cat st ≤ 8 ∧ ma_cv (H.1 i) 8 d 128 [.ref i] H (ma_kC d 181 Q 13 l st 0 0)) := wc_V0 (ia := 128) (n := 1) (cn := 8) rfl (by decide +kernel) (fun _ => rfl) rfl rfl
theorem w181_13 : ma_W d 181 Q 13 l [.int x] H 0 0 = Q (some (.int x)) H := wp_iret rfl rfl
theorem w181_14 : ma_W d 181 Q 14 (some (.ref i) :: l) st H 0 0 = ma_W d 181 Q 15 (some (.ref i) :: l) (.ref i :: st) H 0 0 := wp_aload_n (x := some i) rfl rfl
theorem w181_15 : ma_W d 181 Q 15 (o0 :: some (.int x) :: l) st H 0 0 = ma_W d 181 Q 16 (o0 :: some (.int x) :: l) (.int x :: st) H 0 0 := wp_iload_n rfl rfl
theorem w181_16 : ma_W d 181 Q 16 l (.int x0 :: .ref i :: st) H 0 0 = (ma_cat st ≤ 8 ∧ ma_cv (H.1 i) 8 d 176 [.ref i, .int x0] H (ma_kC d 181 Q 19 l st 0 0)) := wc_V0 (ia := 176) (n := 2) (cn := 8) rfl (by decide +kernel) (fun _ => rfl) rfl rfl
theorem w181_19 : ma_W d 181 Q 19 (o0 :: o1 :: p :: l) (.int x :: st) H 0 0 = ma_W d 181 Q 20 (o0 :: ma_clr o1 :: some (.int x) :: l) st H 0 0 := wp_istore_n (id := 181) (pc := 19) (k := 2) rfl (Nat.succ_lt_succ (Nat.succ_lt_succ (Nat.zero_lt_succ _)))
theorem w181_20 : ma_W d 181 Q 20 l st H 0 0 = ma_W d 181 Q 21 l (.int (-1) :: st) H 0 0 := wp_iconst rfl (by decide)
theorem w181_21 : ma_W d 181 Q 21 (o0 :: o1 :: o2 :: p :: l) (.int x :: st) H 0 0 = ma_W d 181 Q 22 (o0 :: o1 :: ma_clr o2 :: some (.int x) :: l) st H 0 0 := wp_istore_n (id := 181) (pc := 21) (k := 3) rfl (Nat.succ_lt_succ (Nat.succ_lt_succ (Nat.succ_lt_succ (Nat.zero_lt_succ _))))
theorem w181_22 : ma_W d 181 Q 22 l st H 0 0 = ma_W d 181 Q 24 l (.int 7 :: st) H 0 0 := wp_bipush rfl (by decide)
theorem w181_24 : ma_W d 181 Q 24 (o0 :: o1 :: o2 :: o3 :: p :: l) (.int x :: st) H 0 0 = ma_W d 181 Q 26 (o0 :: o1 :: o2 :: ma_clr o3 :: some (.int x) :: l) st H 0 0 := wp_istore (id := 181) (pc := 24) (k := 4) rfl (Nat.succ_lt_succ (Nat.succ_lt_succ (Nat.succ_lt_succ (Nat.succ_lt_succ (Nat.zero_lt_succ _)))))
theorem w181_26 : ma_W d 181 Q 26 l st H 0 0 = ma_W d 181 Q 28 l (.int 100 :: st) H 0 0 := wp_bipush rfl (by decide)
theorem w181_28 : ma_W d 181 Q 28 (o0 :: o1 :: o2 :: o3 :: o4 :: p :: l) (.int x :: st) H 0 0 = ma_W d 181 Q 30 (o0 :: o1 :: o2 :: o3 :: ma_clr o4 :: some (.int x) :: l) st H 0 0 := wp_istore (id := 181) (pc := 28) (k := 5) rfl (Nat.succ_lt_succ (Nat.succ_lt_succ (Nat.succ_lt_succ (Nat.succ_lt_succ (Nat.succ_lt_succ (Nat.zero_lt_succ _))))))
theorem w181_30 : ma_W d 181 Q 30 (o0 :: o1 :: o2 :: o3 :: o4 :: some (.int x) :: l) st H 0 0 = ma_W d 181 Q 32 (o0 :: o1 :: o2 :: o3 :: o4 :: some (.int x) :: l) (.int x :: st) H 0 0 := wp_iload rfl rfl
theorem w181_32 : ma_W d 181 Q 32 l st H 0 0 = ma_W d 181 Q 35 l (.int 1616 :: st) H 0 0 := wp_sipush rfl (by decide)
theorem w181_35 : ma_W d 181 Q 35 l (.int y :: .int x :: st) H 0 0 = ma_if (y ≤ x) d 181 Q 114 38 l st H 0 0 := wp_ic (id := 181) (pc := 35) (c := .ge) (off := 79) 114 rfl (by decide)
theorem w181_38 : ma_W d 181 Q 38 (o0 :: o1 :: some (.int x) :: l) st H 0 0 = ma_W d 181 Q 39 (o0 :: o1 :: some (.int x) :: l) (.int x :: st) H 0 0 := wp_iload_n rfl rfl
theorem w181_39 : ma_W d 181 Q 39 l (.int x :: st) H 0 0 = ma_if (x = 0) d 181 Q 114 42 l st H 0 0 := wp_c0 (id := 181) (pc := 39) (c := .eq) (off := 75) 114 rfl (by decide)
theorem w181_42 : ma_W d 181 Q 42 (o0 :: o1 :: o2 :: o3 :: o4 :: some (.int x) :: l) st H 0 0 = ma_W d 181 Q 44 (o0 :: o1 :: o2 :: o3 :: o4 :: some (.int x) :: l) (.int x :: st) H 0 0 := wp_iload rfl rfl
theorem w181_44 : ma_W d 181 Q 44 l st H 0 0 = ma_W d 181 Q 46 l (.int 100 :: st) H 0 0 := wp_bipush rfl (by decide)
theorem w181_46 : ma_W d 181 Q 46 l (.int y :: .int x :: st) H 0 0 = (¬ y = 0 ∧ ma_W d 181 Q 47 l (.int (x / y) :: st) H 0 0) := wp_idiv rfl
theorem w181_47 : ma_W d 181 Q 47 (o0 :: o1 :: o2 :: o3 :: o4 :: o5 :: p :: l) (.int x :: st) H 0 0 = ma_W d 181 Q 49 (o0 :: o1 :: o2 :: o3 :: o4 :: ma_clr o5 :: some (.int x) :: l) st H 0 0 := wp_istore (id := 181) (pc := 47) (k := 6) rfl (Nat.succ_lt_succ (Nat.succ_lt_succ (Nat.succ_lt_succ (Nat.succ_lt_succ (Nat.succ_lt_succ (Nat.succ_lt_succ (Nat.zero_lt_succ _)))))))
theorem w181_49 : ma_W d 181 Q 49 (o0 :: o1 :: o2 :: o3 :: o4 :: some (.int x) :: l) st H 0 0 = ma_W d 181 Q 51 (o0 :: o1 :: o2 :: o3 :: o4 :: some (.int x) :: l) (.int x :: st) H 0 0 := wp_iload rfl rfl
theorem w181_51 : ma_W d 181 Q 51 l st H 0 0 = ma_W d 181 Q 53 l (.int 100 :: st) H 0 0 := wp_bipush rfl (by decide)
theorem w181_53 : ma_W d 181 Q 53 l (.int y :: .int x :: st) H 0 0 = (¬ y = 0 ∧ ma_W d 181 Q 54 l (.int (ma_rem x y) :: st) H 0 0) := wp_irem rfl
theorem w181_54 : ma_W d 181 Q 54 (o0 :: o1 :: o2 :: o3 :: o4 :: o5 :: o6 :: p :: l) (.int x :: st) H 0 0 = ma_W d 181 Q 56 (o0 :: o1 :: o2 :: o3 :: o4 :: o5 :: ma_clr o6 :: some (.int x) :: l) st H 0 0 := wp_istore (id := 181) (pc := 54) (k := 7) rfl (Nat.succ_lt_succ (Nat.succ_lt_succ (Nat.succ_lt_succ (Nat.succ_lt_succ (Nat.succ_lt_succ (Nat.succ_lt_succ (Nat.succ_lt_succ (Nat.zero_lt_succ _))))))))
theorem w181_56 : ma_W d 181 Q 56 (o0 :: o1 :: o2 :: o3 :: o4 :: o5 :: o6 :: some (.int x) :: l) st H 0 0 = ma_W d 181 Q 58 (o0 :: o1 :: o2 :: o3 :: o4 :: o5 :: o6 :: some (.int x) :: l) (.int x :: st) H 0 0 := wp_iload rfl rfl
theorem w181_58 : ma_W d 181 Q 58 (o0 :: o1 :: o2 :: o3 :: o4 :: o5 :: some (.int x) :: l) st H 0 0 = ma_W d 181 Q 60 (o0 :: o1 :: o2 :: o3 :: o4 :: o5 :: some (.int x) :: l) (.int x :: st) H 0 0 := wp_iload rfl rfl
theorem w181_60 : ma_W d 181 Q 60 l (.int y :: .int x :: st) H 0 0 = ma_if (y ≤ x) d 181 Q 74 63 l st H 0 0 := wp_ic (id := 181) (pc := 60) (c := .ge) (off := 14) 74 rfl (by decide)
theorem w181_63 : ma_W d 181 Q 63 (o0 :: o1 :: some (.int x) :: l) st H 0 0 = ma_W d 181 Q 64 (o0 :: o1 :: some (.int x) :: l) (.int x :: st) H 0 0 := wp_iload_n rfl rfl
theorem w181_64 : ma_W d 181 Q 64 (o0 :: o1 :: o2 :: o3 :: o4 :: o5 :: some (.int x) :: l) st H 0 0 = ma_W d 181 Q 66 (o0 :: o1 :: o2 :: o3 :: o4 :: o5 :: some (.int x) :: l) (.int x :: st) H 0 0 := wp_iload rfl rfl
theorem w181_66 : ma_W d 181 Q 66 (o0 :: o1 :: o2 :: o3 :: o4 :: o5 :: o6 :: some (.int x) :: l) st H 0 0 = ma_W d 181 Q 68 (o0 :: o1 :: o2 :: o3 :: o4 :: o5 :: o6 :: some (.int x) :: l) (.int x :: st) H 0 0 := wp_iload rfl rfl
theorem w181_68 : ma_W d 181 Q 68 l (.int x2 :: .int x1 :: .int x0 :: st) H 0 0 = (ma_cat st ≤ 8 ∧ ma_MW d 177 [.int x0, .int x1, .int x2] H (ma_kC d 181 Q 71 l st 0 0)) := wc_S0 (ia := 177) (n := 3) (cn := 8) (k := 1) rfl (by decide +kernel) (by decide) (fun _ => rfl) rfl rfl
theorem w181_71 : ma_W d 181 Q 71 l st H 0 0 = ma_W d 181 Q 76 l st H 0 0 := wp_goto 76 rfl (by decide)
theorem w181_74 : ma_W d 181 Q 74 l st H 0 0 = ma_W d 181 Q 76 l (.int 7 :: st) H 0 0 := wp_bipush rfl (by decide)
theorem w181_76 : ma_W d 181 Q 76 (o0 :: o1 :: o2 :: o3 :: o4 :: o5 :: o6 :: o7 :: p :: l) (.int x :: st) H 0 0 = ma_W d 181 Q 78 (o0 :: o1 :: o2 :: o3 :: o4 :: o5 :: o6 :: ma_clr o7 :: some (.int x) :: l) st H 0 0 := wp_istore (id := 181) (pc := 76) (k := 8) rfl (Nat.succ_lt_succ (Nat.succ_lt_succ (Nat.succ_lt_succ (Nat.succ_lt_succ (Nat.succ_lt_succ (Nat.succ_lt_succ (Nat.succ_lt_succ (Nat.succ_lt_succ (Nat.zero_lt_succ _)))))))))
theorem w181_78 : ma_W d 181 Q 78 (o0 :: o1 :: o2 :: o3 :: o4 :: o5 :: o6 :: o7 :: some (.int x) :: l) st H 0 0 = ma_W d 181 Q 80 (o0 :: o1 :: o2 :: o3 :: o4 :: o5 :: o6 :: o7 :: some (.int x) :: l) (.int x :: st) H 0 0 := wp_iload rfl rfl
theorem w181_80 : ma_W d 181 Q 80 (o0 :: o1 :: o2 :: o3 :: some (.int x) :: l) st H 0 0 = ma_W d 181 Q 82 (o0 :: o1 :: o2 :: o3 :: some (.int x) :: l) (.int x :: st) H 0 0 := wp_iload rfl rfl
theorem w181_82 : ma_W d 181 Q 82 l (.int y :: .int x :: st) H 0 0 = ma_if (y ≤ x) d 181 Q 90 85 l st H 0 0 := wp_ic (id := 181) (pc := 82) (c := .ge) (off := 8) 90 rfl (by decide)
theorem w181_85 : ma_W d 181 Q 85 (o0 :: o1 :: o2 :: o3 :: o4 :: some (.int x) :: l) st H 0 0 = ma_W d 181 Q 87 (o0 :: o1 :: o2 :: o3 :: o4 :: some (.int x) :: l) (.int x :: st) H 0 0 := wp_iload rfl rfl
theorem w181_87 : ma_W d 181 Q 87 l st H 0 0 = ma_W d 181 Q 91 l st H 0 0 := wp_goto 91 rfl (by decide)
theorem w181_90 : ma_W d 181 Q 90 (o0 :: o1 :: o2 :: some (.int x) :: l) st H 0 0 = ma_W d 181 Q 91 (o0 :: o1 :: o2 :: some (.int x) :: l) (.int x :: st) H 0 0 := wp_iload_n rfl rfl
theorem w181_91 : ma_W d 181 Q 91 (o0 :: o1 :: o2 :: p :: l) (.int x :: st) H 0 0 = ma_W d 181 Q 92 (o0 :: o1 :: ma_clr o2 :: some (.int x) :: l) st H 0 0 := wp_istore_n (id := 181) (pc := 91) (k := 3) rfl (Nat.succ_lt_succ (Nat.succ_lt_succ (Nat.succ_lt_succ (Nat.zero_lt_succ _))))
theorem w181_92 : ma_W d 181 Q 92 (o0 :: o1 :: o2 :: o3 :: o4 :: o5 :: o6 :: o7 :: some (.int x) :: l) st H 0 0 = ma_W d 181 Q 94 (o0 :: o1 :: o2 :: o3 :: o4 :: o5 :: o6 :: o7 :: some (.int x) :: l) (.int x :: st) H 0 0 := wp_iload rfl rfl
theorem w181_94 : ma_W d 181 Q 94 (o0 :: o1 :: o2 :: o3 :: some (.int x) :: l) st H 0 0 = ma_W d 181 Q 96 (o0 :: o1 :: o2 :: o3 :: some (.int x) :: l) (.int x :: st) H 0 0 := wp_iload rfl rfl
theorem w181_96 : ma_W d 181 Q 96 l (.int y :: .int x :: st) H 0 0 = ma_if (y ≤ x) d 181 Q 104 99 l st H 0 0 := wp_ic (id := 181) (pc := 96) (c := .ge) (off := 8) 104 rfl (by decide)
theorem w181_99 : ma_W d 181 Q 99 (o0 :: o1 :: o2 :: o3 :: o4 :: o5 :: o6 :: o7 :: some (.int x) :: l) st H 0 0 = ma_W d 181 Q 101 (o0 :: o1 :: o2 :: o3 :: o4 :: o5 :: o6 :: o7 :: some (.int x) :: l) (.int x :: st) H 0 0 := wp_iload rfl rfl
theorem w181_101 : ma_W d 181 Q 101 l st H 0 0 = ma_W d 181 Q 106 l st H 0 0 := wp_goto 106 rfl (by decide)
theorem w181_104 : ma_W d 181 Q 104 (o0 :: o1 :: o2 :: o3 :: some (.int x) :: l) st H 0 0 = ma_W d 181 Q 106 (o0 :: o1 :: o2 :: o3 :: some (.int x) :: l) (.int x :: st) H 0 0 := wp_iload rfl rfl
theorem w181_106 : ma_W d 181 Q 106 (o0 :: o1 :: o2 :: o3 :: p :: l) (.int x :: st) H 0 0 = ma_W d 181 Q 108 (o0 :: o1 :: o2 :: ma_clr o3 :: some (.int x) :: l) st H 0 0 := wp_istore (id := 181) (pc := 106) (k := 4) rfl (Nat.succ_lt_succ (Nat.succ_lt_succ (Nat.succ_lt_succ (Nat.succ_lt_succ (Nat.zero_lt_succ _)))))
theorem w181_108 : ma_W d 181 Q 108 (o0 :: o1 :: o2 :: o3 :: o4 :: some (.int x) :: l) st H 0 0 = ma_W d 181 Q 111 (o0 :: o1 :: o2 :: o3 :: ma_clr o4 :: some (.int (x + 1)) :: l) st H 0 0 := wp_iinc (id := 181) (pc := 108) (k := 5) (n := 1) rfl (Nat.succ_lt_succ (Nat.succ_lt_succ (Nat.succ_lt_succ (Nat.succ_lt_succ (Nat.succ_lt_succ (Nat.zero_lt_succ _)))))) rfl (by decide)
theorem w181_111 : ma_W d 181 Q 111 l st H 0 0 = ma_W d 181 Q 30 l st H 0 0 := wp_goto 30 rfl (by decide)
theorem w181_114 : ma_W d 181 Q 114 (o0 :: o1 :: o2 :: some (.int x) :: l) st H 0 0 = ma_W d 181 Q 115 (o0 :: o1 :: o2 :: some (.int x) :: l) (.int x :: st) H 0 0 := wp_iload_n rfl rfl
theorem w181_115 : ma_W d 181 Q 115 l [.int x] H 0 0 = Q (some (.int x)) H := wp_iret rfl rfl
theorem e181 : ma_MW (d + 1) 181 [.ref i, .int x0] H Q = ma_W d 181 Q 0 [some (.ref i), some (.int x0), none, none, none, none, none, none, none] [] H 0 0 := wp_enter (by decide) (Nat.le_of_ble_eq_true rfl) rfl
/-! 182 mo_isRest -/
theorem w182_0 : ma_W d 182 Q 0 l st H 0 0 = ma_W d 182 Q 1 l (.int 1 :: st) H 0 0 := wp_iconst rfl (by decide)
theorem w182_1 : ma_W d 182 Q 1 (o0 :: o1 :: o2 :: p :: l) (.int x :: st) H 0 0 = ma_W d 182 Q 2 (o0 :: o1 :: ma_clr o2 :: some (.int x) :: l) st H 0 0 := wp_istore_n (id := 182) (pc := 1) (k := 3) rfl (Nat.succ_lt_succ (Nat.succ_lt_succ (Nat.succ_lt_succ (Nat.zero_lt_succ _))))
theorem w182_2 : ma_W d 182 Q 2 l st H 0 0 = ma_W d 182 Q 3 l (.int 0 :: st) H 0 0 := wp_iconst rfl (by decide)
theorem w182_3 : ma_W d 182 Q 3 (o0 :: o1 :: o2 :: o3 :: p :: l) (.int x :: st) H 0 0 = ma_W d 182 Q 5 (o0 :: o1 :: o2 :: ma_clr o3 :: some (.int x) :: l) st H 0 0 := wp_istore (id := 182) (pc := 3) (k := 4) rfl (Nat.succ_lt_succ (Nat.succ_lt_succ (Nat.succ_lt_succ (Nat.succ_lt_succ (Nat.zero_lt_succ _)))))
theorem w182_5 : ma_W d 182 Q 5 (o0 :: o1 :: o2 :: o3 :: some (.int x) :: l) st H 0 0 = ma_W d 182 Q 7 (o0 :: o1 :: o2 :: o3 :: some (.int x) :: l) (.int x :: st) H 0 0 := wp_iload rfl rfl
theorem w182_7 : ma_W d 182 Q 7 l st H 0 0 = ma_W d 182 Q 9 l (.int 6 :: st) H 0 0 := wp_bipush rfl (by decide)
theorem w182_9 : ma_W d 182 Q 9 l (.int y :: .int x :: st) H 0 0 = ma_if (y ≤ x) d 182 Q 80 12 l st H 0 0 := wp_ic (id := 182) (pc := 9) (c := .ge) (off := 71) 80 rfl (by decide)
theorem w182_12 : ma_W d 182 Q 12 (o0 :: o1 :: o2 :: some (.int x) :: l) st H 0 0 = ma_W d 182 Q 13 (o0 :: o1 :: o2 :: some (.int x) :: l) (.int x :: st) H 0 0 := wp_iload_n rfl rfl
theorem w182_13 : ma_W d 182 Q 13 l (.int x :: st) H 0 0 = ma_if (x = 0) d 182 Q 72 16 l st H 0 0 := wp_c0 (id := 182) (pc := 13) (c := .eq) (off := 59) 72 rfl (by decide)
theorem w182_16 : ma_W d 182 Q 16 (some (.ref i) :: l) st H 0 0 = ma_W d 182 Q 17 (some (.ref i) :: l) (.ref i :: st) H 0 0 := wp_aload_n (x := some i) rfl rfl
theorem w182_17 : ma_W d 182 Q 17 l (.ref i :: st) H 0 0 = ma_gf (H.1 i) 8 17 (ma_kV d 182 Q 20 l st H 0 0) := wp_get rfl (by decide +kernel)
theorem w182_20 : ma_W d 182 Q 20 l st H 0 0 = ma_W d 182 Q 22 l (.int 6 :: st) H 0 0 := wp_bipush rfl (by decide)
theorem w182_22 : ma_W d 182 Q 22 (o0 :: o1 :: o2 :: o3 :: some (.int x) :: l) st H 0 0 = ma_W d 182 Q 24 (o0 :: o1 :: o2 :: o3 :: some (.int x) :: l) (.int x :: st) H 0 0 := wp_iload rfl rfl
theorem w182_24 : ma_W d 182 Q 24 l (.int y :: .int x :: st) H 0 0 = ma_W d 182 Q 25 l (.int (x * y) :: st) H 0 0 := wp_imul rfl
theorem w182_25 : ma_W d 182 Q 25 (o0 :: o1 :: some (.int x) :: l) st H 0 0 = ma_W d 182 Q 26 (o0 :: o1 :: some (.int x) :: l) (.int x :: st) H 0 0 := wp_iload_n rfl rfl
theorem w182_26 : ma_W d 182 Q 26 l (.int y :: .int x :: st) H 0 0 = ma_W d 182 Q 27 l (.int (x + y) :: st) H 0 0 := wp_iadd rfl
theorem w182_27 : ma_W d 182 Q 27 l (.int x :: .ref i :: st) H 0 0 = ma_ial (H.1 i) x (ma_kV d 182 Q 28 l st H 0 0) := wp_iald rfl
theorem w182_28 : ma_W d 182 Q 28 (some (.ref i) :: l) st H 0 0 = ma_W d 182 Q 29 (some (.ref i) :: l) (.ref i :: st) H 0 0 := wp_aload_n (x := some i) rfl rfl
theorem w182_29 : ma_W d 182 Q 29 l (.ref i :: st) H 0 0 = ma_gf (H.1 i) 8 17 (ma_kV d 182 Q 32 l st H 0 0) := wp_get rfl (by decide +kernel)
theorem w182_32 : ma_W d 182 Q 32 l st H 0 0 = ma_W d 182 Q 34 l (.int 6 :: st) H 0 0 := wp_bipush rfl (by decide)
theorem w182_34 : ma_W d 182 Q 34 (o0 :: some (.int x) :: l) st H 0 0 = ma_W d 182 Q 35 (o0 :: some (.int x) :: l) (.int x :: st) H 0 0 := wp_iload_n rfl rfl
theorem w182_35 : ma_W d 182 Q 35 l (.int y :: .int x :: st) H 0 0 = ma_W d 182 Q 36 l (.int (x * y) :: st) H 0 0 := wp_imul rfl
theorem w182_36 : ma_W d 182 Q 36 (o0 :: o1 :: some (.int x) :: l) st H 0 0 = ma_W d 182 Q 37 (o0 :: o1 :: some (.int x) :: l) (.int x :: st) H 0 0 := wp_iload_n rfl rfl
theorem w182_37 : ma_W d 182 Q 37 l (.int y :: .int x :: st) H 0 0 = ma_W d 182 Q 38 l (.int (x + y) :: st) H 0 0 := wp_iadd rfl
theorem w182_38 : ma_W d 182 Q 38 l (.int x :: .ref i :: st) H 0 0 = ma_ial (H.1 i) x (ma_kV d 182 Q 39 l st H 0 0) := wp_iald rfl
theorem w182_39 : ma_W d 182 Q 39 l (.int y :: .int x :: st) H 0 0 = ma_if (y < x) d 182 Q 72 42 l st H 0 0 := wp_ic (id := 182) (pc := 39) (c := .gt) (off := 33) 72 rfl (by decide)
theorem w182_42 : ma_W d 182 Q 42 (some (.ref i) :: l) st H 0 0 = ma_W d 182 Q 43 (some (.ref i) :: l) (.ref i :: st) H 0 0 := wp_aload_n (x := some i) rfl rfl
theorem w182_43 : ma_W d 182 Q 43 l (.ref i :: st) H 0 0 = ma_gf (H.1 i) 8 17 (ma_kV d 182 Q 46 l st H 0 0) := wp_get rfl (by decide +kernel)
theorem w182_46 : ma_W d 182 Q 46 l st H 0 0 = ma_W d 182 Q 48 l (.int 6 :: st) H 0 0 := wp_bipush rfl (by decide)
theorem w182_48 : ma_W d 182 Q 48 (o0 :: some (.int x) :: l) st H 0 0 = ma_W d 182 Q 49 (o0 :: some (.int x) :: l) (.int x :: st) H 0 0 := wp_iload_n rfl rfl
theorem w182_49 : ma_W d 182 Q 49 l (.int y :: .int x :: st) H 0 0 = ma_W d 182 Q 50 l (.int (x * y) :: st) H 0 0 := wp_imul rfl
theorem w182_50 : ma_W d 182 Q 50 (o0 :: o1 :: o2 :: o3 :: some (.int x) :: l) st H 0 0 = ma_W d 182 Q 52 (o0 :: o1 :: o2 :: o3 :: some (.int x) :: l) (.int x :: st) H 0 0 := wp_iload rfl rfl
theorem w182_52 : ma_W d 182 Q 52 l (.int y :: .int x :: st) H 0 0 = ma_W d 182 Q 53 l (.int (x + y) :: st) H 0 0 := wp_iadd rfl
theorem w182_53 : ma_W d 182 Q 53 l (.int x :: .ref i :: st) H 0 0 = ma_ial (H.1 i) x (ma_kV d 182 Q 54 l st H 0 0) := wp_iald rfl
theorem w182_54 : ma_W d 182 Q 54 (some (.ref i) :: l) st H 0 0 = ma_W d 182 Q 55 (some (.ref i) :: l) (.ref i :: st) H 0 0 := wp_aload_n (x := some i) rfl rfl
theorem w182_55 : ma_W d 182 Q 55 l (.ref i :: st) H 0 0 = ma_gf (H.1 i) 8 17 (ma_kV d 182 Q 58 l st H 0 0) := wp_get rfl (by decide +kernel)
theorem w182_58 : ma_W d 182 Q 58 l st H 0 0 = ma_W d 182 Q 60 l (.int 6 :: st) H 0 0 := wp_bipush rfl (by decide)
theorem w182_60 : ma_W d 182 Q 60 (o0 :: some (.int x) :: l) st H 0 0 = ma_W d 182 Q 61 (o0 :: some (.int x) :: l) (.int x :: st) H 0 0 := wp_iload_n rfl rfl
theorem w182_61 : ma_W d 182 Q 61 l (.int y :: .int x :: st) H 0 0 = ma_W d 182 Q 62 l (.int (x * y) :: st) H 0 0 := wp_imul rfl
theorem w182_62 : ma_W d 182 Q 62 (o0 :: o1 :: some (.int x) :: l) st H 0 0 = ma_W d 182 Q 63 (o0 :: o1 :: some (.int x) :: l) (.int x :: st) H 0 0 := wp_iload_n rfl rfl
theorem w182_63 : ma_W d 182 Q 63 l (.int y :: .int x :: st) H 0 0 = ma_W d 182 Q 64 l (.int (x + y) :: st) H 0 0 := wp_iadd rfl
theorem w182_64 : ma_W d 182 Q 64 l (.int x :: .ref i :: st) H 0 0 = ma_ial (H.1 i) x (ma_kV d 182 Q 65 l st H 0 0) := wp_iald rfl
theorem w182_65 : ma_W d 182 Q 65 l (.int y :: .int x :: st) H 0 0 = ma_if (x < y) d 182 Q 72 68 l st H 0 0 := wp_ic (id := 182) (pc := 65) (c := .lt) (off := 7) 72 rfl (by decide)
theorem w182_68 : ma_W d 182 Q 68 l st H 0 0 = ma_W d 182 Q 69 l (.int 1 :: st) H 0 0 := wp_iconst rfl (by decide)
theorem w182_69 : ma_W d 182 Q 69 l st H 0 0 = ma_W d 182 Q 73 l st H 0 0 := wp_goto 73 rfl (by decide)
theorem w182_72 : ma_W d 182 Q 72 l st H 0 0 = ma_W d 182 Q 73 l (.int 0 :: st) H 0 0 := wp_iconst rfl (by decide)
theorem w182_73 : ma_W d 182 Q 73 (o0 :: o1 :: o2 :: p :: l) (.int x :: st) H 0 0 = ma_W d 182 Q 74 (o0 :: o1 :: ma_clr o2 :: some (.int x) :: l) st H 0 0 := wp_istore_n (id := 182) (pc := 73) (k := 3) rfl (Nat.succ_lt_succ (Nat.succ_lt_succ (Nat.succ_lt_succ (Nat.zero_lt_succ _))))
theorem w182_74 : ma_W d 182 Q 74 (o0 :: o1 :: o2 :: o3 :: some (.int x) :: l) st H 0 0 = ma_W d 182 Q 77 (o0 :: o1 :: o2 :: ma_clr o3 :: some (.int (x + 1)) :: l) st H 0 0 := wp_iinc (id := 182) (pc := 74) (k := 4) (n := 1) rfl (Nat.succ_lt_succ (Nat.succ_lt_succ (Nat.succ_lt_succ (Nat.succ_lt_succ (Nat.zero_lt_succ _))))) rfl (by decide)
theorem w182_77 : ma_W d 182 Q 77 l st H 0 0 = ma_W d 182 Q 5 l st H 0 0 := wp_goto 5 rfl (by decide)
theorem w182_80 : ma_W d 182 Q 80 (o0 :: o1 :: o2 :: some (.int x) :: l) st H 0 0 = ma_W d 182 Q 81 (o0 :: o1 :: o2 :: some (.int x) :: l) (.int x :: st) H 0 0 := wp_iload_n rfl rfl
theorem w182_81 : ma_W d 182 Q 81 l [.int x] H 0 0 = ((x = 0 ∨ x = 1) ∧ Q (some (.int x)) H) := wp_zret rfl rfl
theorem e182 : ma_MW (d + 1) 182 [.ref i, .int x0, .int x1] H Q = ma_W d 182 Q 0 [some (.ref i), some (.int x0), some (.int x1), none, none] [] H 0 0 := wp_enter (by decide) (Nat.le_of_ble_eq_true rfl) rfl
/-! 183 mo_against -/
theorem w183_0 : ma_W d 183 Q 0 (o0 :: some (.int x) :: l) st H 0 0 = ma_W d 183 Q 1 (o0 :: some (.int x) :: l) (.int x :: st) H 0 0 := wp_iload_n rfl rfl
theorem w183_1 : ma_W d 183 Q 1 l st H 0 0 = ma_W d 183 Q 2 l (.int (-1) :: st) H 0 0 := wp_iconst rfl (by decide)
theorem w183_2 : ma_W d 183 Q 2 l (.int y :: .int x :: st) H 0 0 = ma_if (y ≤ x) d 183 Q 12 5 l st H 0 0 := wp_ic (id := 183) (pc := 2) (c := .ge) (off := 10) 12 rfl (by decide)
theorem w183_5 : ma_W d 183 Q 5 (some (.ref i) :: l) st H 0 0 = ma_W d 183 Q 6 (some (.ref i) :: l) (.ref i :: st) H 0 0 := wp_aload_n (x := some i) rfl rfl
theorem w183_6 : ma_W d 183 Q 6 l st H 0 0 = ma_W d 183 Q 8 l (.int (-10) :: st) H 0 0 := wp_bipush rfl (by decide)
theorem w183_8 : ma_W d 183 Q 8 l (.int x0 :: .ref i :: st) H 0 0 = (ma_cat st ≤ 8 ∧ ma_cv (H.1 i) 8 d 127 [.ref i, .int x0] H (ma_kC d 183 Q 11 l st 0 0)) := wc_V0 (ia := 127) (n := 2) (cn := 8) rfl (by decide +kernel) (fun _ => rfl) rfl rfl
theorem w183_11 : ma_W d 183 Q 11 l [.int x] H 0 0 = Q (some (.int x)) H := wp_iret rfl rfl
theorem w183_12 : ma_W d 183 Q 12 l st H 0 0 = ma_W d 183 Q 13 l (.int 0 :: st) H 0 0 := wp_iconst rfl (by decide)
theorem w183_13 : ma_W d 183 Q 13 (o0 :: o1 :: p :: l) (.int x :: st) H 0 0 = ma_W d 183 Q 14 (o0 :: ma_clr o1 :: some (.int x) :: l) st H 0 0 := wp_istore_n (id := 183) (pc := 13) (k := 2) rfl (Nat.succ_lt_succ (Nat.succ_lt_succ (Nat.zero_lt_succ _)))
theorem w183_14 : ma_W d 183 Q 14 (o0 :: o1 :: some (.int x) :: l) st H 0 0 = ma_W d 183 Q 15 (o0 :: o1 :: some (.int x) :: l) (.int x :: st) H 0 0 := wp_iload_n rfl rfl
theorem w183_15 : ma_W d 183 Q 15 l st H 0 0 = ma_W d 183 Q 17 l (.int 36 :: st) H 0 0 := wp_bipush rfl (by decide)
theorem w183_17 : ma_W d 183 Q 17 l (.int y :: .int x :: st) H 0 0 = ma_if (y ≤ x) d 183 Q 83 20 l st H 0 0 := wp_ic (id := 183) (pc := 17) (c := .ge) (off := 66) 83 rfl (by decide)
theorem w183_20 : ma_W d 183 Q 20 (some (.ref i) :: l) st H 0 0 = ma_W d 183 Q 21 (some (.ref i) :: l) (.ref i :: st) H 0 0 := wp_aload_n (x := some i) rfl rfl
theorem w183_21 : ma_W d 183 Q 21 l (.ref i :: st) H 0 0 = (ma_cat st ≤ 8 ∧ ma_cv (H.1 i) 8 d 160 [.ref i] H (ma_kC d 183 Q 24 l st 0 0)) := wc_V0 (ia := 160) (n := 1) (cn := 8) rfl (by decide +kernel) (fun _ => rfl) rfl rfl
theorem w183_24 : ma_W d 183 Q 24 (some (.ref i) :: l) st H 0 0 = ma_W d 183 Q 25 (some (.ref i) :: l) (.ref i :: st) H 0 0 := wp_aload_n (x := some i) rfl rfl
theorem w183_25 : ma_W d 183 Q 25 l (.ref i :: st) H 0 0 = ma_gf (H.1 i) 8 15 (ma_kV d 183 Q 28 l st H 0 0) := wp_get rfl (by decide +kernel)
theorem w183_28 : ma_W d 183 Q 28 l st H 0 0 = ma_W d 183 Q 29 l (.int 0 :: st) H 0 0 := wp_iconst rfl (by decide)
theorem w183_29 : ma_W d 183 Q 29 (o0 :: o1 :: some (.int x) :: l) st H 0 0 = ma_W d 183 Q 30 (o0 :: o1 :: some (.int x) :: l) (.int x :: st) H 0 0 := wp_iload_n rfl rfl
theorem w183_30 : ma_W d 183 Q 30 l st H 0 0 = ma_W d 183 Q 32 l (.int 6 :: st) H 0 0 := wp_bipush rfl (by decide)
theorem w183_32 : ma_W d 183 Q 32 l (.int y :: .int x :: st) H 0 0 = (¬ y = 0 ∧ ma_W d 183 Q 33 l (.int (x / y) :: st) H 0 0) := wp_idiv rfl
theorem w183_33 : ma_W d 183 Q 33 l (.int y :: .int x :: .ref i :: st) H 0 0 = (4 ≤ i ∧ ma_ias (H.1 i) x y (ma_kH d 183 Q 34 l st H i 0 0)) := wp_iast rfl
theorem w183_34 : ma_W d 183 Q 34 (some (.ref i) :: l) st H 0 0 = ma_W d 183 Q 35 (some (.ref i) :: l) (.ref i :: st) H 0 0 := wp_aload_n (x := some i) rfl rfl
theorem w183_35 : ma_W d 183 Q 35 l (.ref i :: st) H 0 0 = ma_gf (H.1 i) 8 15 (ma_kV d 183 Q 38 l st H 0 0) := wp_get rfl (by decide +kernel)
theorem w183_38 : ma_W d 183 Q 38 l st H 0 0 = ma_W d 183 Q 39 l (.int 1 :: st) H 0 0 := wp_iconst rfl (by decide)
theorem w183_39 : ma_W d 183 Q 39 (o0 :: o1 :: some (.int x) :: l) st H 0 0 = ma_W d 183 Q 40 (o0 :: o1 :: some (.int x) :: l) (.int x :: st) H 0 0 := wp_iload_n rfl rfl
theorem w183_40 : ma_W d 183 Q 40 l st H 0 0 = ma_W d 183 Q 42 l (.int 6 :: st) H 0 0 := wp_bipush rfl (by decide)
theorem w183_42 : ma_W d 183 Q 42 l (.int y :: .int x :: st) H 0 0 = (¬ y = 0 ∧ ma_W d 183 Q 43 l (.int (ma_rem x y) :: st) H 0 0) := wp_irem rfl
theorem w183_43 : ma_W d 183 Q 43 l (.int y :: .int x :: .ref i :: st) H 0 0 = (4 ≤ i ∧ ma_ias (H.1 i) x y (ma_kH d 183 Q 44 l st H i 0 0)) := wp_iast rfl
theorem w183_44 : ma_W d 183 Q 44 (some (.ref i) :: l) st H 0 0 = ma_W d 183 Q 45 (some (.ref i) :: l) (.ref i :: st) H 0 0 := wp_aload_n (x := some i) rfl rfl
theorem w183_45 : ma_W d 183 Q 45 l (.ref i :: st) H 0 0 = ma_gf (H.1 i) 8 17 (ma_kV d 183 Q 48 l st H 0 0) := wp_get rfl (by decide +kernel)
theorem w183_48 : ma_W d 183 Q 48 (o0 :: o1 :: some (.int x) :: l) st H 0 0 = ma_W d 183 Q 49 (o0 :: o1 :: some (.int x) :: l) (.int x :: st) H 0 0 := wp_iload_n rfl rfl
theorem w183_49 : ma_W d 183 Q 49 (some (.ref i) :: l) st H 0 0 = ma_W d 183 Q 50 (some (.ref i) :: l) (.ref i :: st) H 0 0 := wp_aload_n (x := some i) rfl rfl
theorem w183_50 : ma_W d 183 Q 50 l (.ref i :: st) H 0 0 = (ma_cat st ≤ 8 ∧ ma_cv (H.1 i) 8 d 162 [.ref i] H (ma_kC d 183 Q 53 l st 0 0)) := wc_V0 (ia := 162) (n := 1) (cn := 8) rfl (by decide +kernel) (fun _ => rfl) rfl rfl
theorem w183_53 : ma_W d 183 Q 53 l st H 0 0 = ma_W d 183 Q 54 l (.int (-1) :: st) H 0 0 := wp_iconst rfl (by decide)
theorem w183_54 : ma_W d 183 Q 54 l (.int y :: .int x :: st) H 0 0 = ma_if (x = y) d 183 Q 57 61 l st H 0 0 := wp_ic (id := 183) (pc := 54) (c := .ne) (off := 7) 61 rfl (by decide)
theorem w183_57 : ma_W d 183 Q 57 l st H 0 0 = ma_W d 183 Q 58 l (.int 0 :: st) H 0 0 := wp_iconst rfl (by decide)
theorem w183_58 : ma_W d 183 Q 58 l st H 0 0 = ma_W d 183 Q 76 l st H 0 0 := wp_goto 76 rfl (by decide)
theorem w183_61 : ma_W d 183 Q 61 (some (.ref i) :: l) st H 0 0 = ma_W d 183 Q 62 (some (.ref i) :: l) (.ref i :: st) H 0 0 := wp_aload_n (x := some i) rfl rfl
theorem w183_62 : ma_W d 183 Q 62 l (.ref i :: st) H 0 0 = ma_gf (H.1 i) 8 15 (ma_kV d 183 Q 65 l st H 0 0) := wp_get rfl (by decide +kernel)
theorem w183_65 : ma_W d 183 Q 65 l st H 0 0 = ma_W d 183 Q 66 l (.int 2 :: st) H 0 0 := wp_iconst rfl (by decide)
theorem w183_66 : ma_W d 183 Q 66 l (.int x :: .ref i :: st) H 0 0 = ma_ial (H.1 i) x (ma_kV d 183 Q 67 l st H 0 0) := wp_iald rfl
theorem w183_67 : ma_W d 183 Q 67 l st H 0 0 = ma_W d 183 Q 68 l (.int 1 :: st) H 0 0 := wp_iconst rfl (by decide)
theorem w183_68 : ma_W d 183 Q 68 l (.int y :: .int x :: st) H 0 0 = ma_if (x = y) d 183 Q 71 75 l st H 0 0 := wp_ic (id := 183) (pc := 68) (c := .ne) (off := 7) 75 rfl (by decide)
theorem w183_71 : ma_W d 183 Q 71 l st H 0 0 = ma_W d 183 Q 72 l (.int 1 :: st) H 0 0 := wp_iconst rfl (by decide)
theorem w183_72 : ma_W d 183 Q 72 l st H 0 0 = ma_W d 183 Q 76 l st H 0 0 := wp_goto 76 rfl (by decide)
theorem w183_75 : ma_W d 183 Q 75 l st H 0 0 = ma_W d 183 Q 76 l (.int (-1) :: st) H 0 0 := wp_iconst rfl (by decide)
theorem w183_76 : ma_W d 183 Q 76 l (.int y :: .int x :: .ref i :: st) H 0 0 = (4 ≤ i ∧ ma_ias (H.1 i) x y (ma_kH d 183 Q 77 l st H i 0 0)) := wp_iast rfl
theorem w183_77 : ma_W d 183 Q 77 (o0 :: o1 :: some (.int x) :: l) st H 0 0 = ma_W d 183 Q 80 (o0 :: ma_clr o1 :: some (.int (x + 1)) :: l) st H 0 0 := wp_iinc (id := 183) (pc := 77) (k := 2) (n := 1) rfl (Nat.succ_lt_succ (Nat.succ_lt_succ (Nat.zero_lt_succ _))) rfl (by decide)
theorem w183_80 : ma_W d 183 Q 80 l st H 0 0 = ma_W d 183 Q 14 l st H 0 0 := wp_goto 14 rfl (by decide)
theorem w183_83 : ma_W d 183 Q 83 l st H 0 0 = ma_W d 183 Q 84 l (.int 0 :: st) H 0 0 := wp_iconst rfl (by decide)
theorem w183_84 : ma_W d 183 Q 84 (o0 :: o1 :: p :: l) (.int x :: st) H 0 0 = ma_W d 183 Q 85 (o0 :: ma_clr o1 :: some (.int x) :: l) st H 0 0 := wp_istore_n (id := 183) (pc := 84) (k := 2) rfl (Nat.succ_lt_succ (Nat.succ_lt_succ (Nat.zero_lt_succ _)))
theorem w183_85 : ma_W d 183 Q 85 l st H 0 0 = ma_W d 183 Q 86 l (.int 0 :: st) H 0 0 := wp_iconst rfl (by decide)
theorem w183_86 : ma_W d 183 Q 86 (o0 :: o1 :: o2 :: p :: l) (.int x :: st) H 0 0 = ma_W d 183 Q 87 (o0 :: o1 :: ma_clr o2 :: some (.int x) :: l) st H 0 0 := wp_istore_n (id := 183) (pc := 86) (k := 3) rfl (Nat.succ_lt_succ (Nat.succ_lt_succ (Nat.succ_lt_succ (Nat.zero_lt_succ _))))
theorem w183_87 : ma_W d 183 Q 87 (o0 :: o1 :: o2 :: some (.int x) :: l) st H 0 0 = ma_W d 183 Q 88 (o0 :: o1 :: o2 :: some (.int x) :: l) (.int x :: st) H 0 0 := wp_iload_n rfl rfl
theorem w183_88 : ma_W d 183 Q 88 l st H 0 0 = ma_W d 183 Q 90 l (.int 36 :: st) H 0 0 := wp_bipush rfl (by decide)
theorem w183_90 : ma_W d 183 Q 90 l (.int y :: .int x :: st) H 0 0 = ma_if (y ≤ x) d 183 Q 135 93 l st H 0 0 := wp_ic (id := 183) (pc := 90) (c := .ge) (off := 45) 135 rfl (by decide)
theorem w183_93 : ma_W d 183 Q 93 (some (.ref i) :: l) st H 0 0 = ma_W d 183 Q 94 (some (.ref i) :: l) (.ref i :: st) H 0 0 := wp_aload_n (x := some i) rfl rfl
theorem w183_94 : ma_W d 183 Q 94 (o0 :: o1 :: o2 :: some (.int x) :: l) st H 0 0 = ma_W d 183 Q 95 (o0 :: o1 :: o2 :: some (.int x) :: l) (.int x :: st) H 0 0 := wp_iload_n rfl rfl
theorem w183_95 : ma_W d 183 Q 95 l st H 0 0 = ma_W d 183 Q 97 l (.int 6 :: st) H 0 0 := wp_bipush rfl (by decide)
theorem w183_97 : ma_W d 183 Q 97 l (.int y :: .int x :: st) H 0 0 = (¬ y = 0 ∧ ma_W d 183 Q 98 l (.int (x / y) :: st) H 0 0) := wp_idiv rfl
theorem w183_98 : ma_W d 183 Q 98 (o0 :: o1 :: o2 :: some (.int x) :: l) st H 0 0 = ma_W d 183 Q 99 (o0 :: o1 :: o2 :: some (.int x) :: l) (.int x :: st) H 0 0 := wp_iload_n rfl rfl
theorem w183_99 : ma_W d 183 Q 99 l st H 0 0 = ma_W d 183 Q 101 l (.int 6 :: st) H 0 0 := wp_bipush rfl (by decide)
theorem w183_101 : ma_W d 183 Q 101 l (.int y :: .int x :: st) H 0 0 = (¬ y = 0 ∧ ma_W d 183 Q 102 l (.int (ma_rem x y) :: st) H 0 0) := wp_irem rfl
theorem w183_102 : ma_W d 183 Q 102 l (.int x1 :: .int x0 :: .ref i :: st) H 0 0 = (ma_cat st ≤ 8 ∧ ma_cv (H.1 i) 8 d 182 [.ref i, .int x0, .int x1] H (ma_kC d 183 Q 105 l st 0 0)) := wc_V0 (ia := 182) (n := 3) (cn := 8) rfl (by decide +kernel) (fun _ => rfl) rfl rfl
theorem w183_105 : ma_W d 183 Q 105 l (.int x :: st) H 0 0 = ma_if (x = 0) d 183 Q 129 108 l st H 0 0 := wp_c0 (id := 183) (pc := 105) (c := .eq) (off := 24) 129 rfl (by decide)
theorem w183_108 : ma_W d 183 Q 108 (o0 :: o1 :: some (.int x) :: l) st H 0 0 = ma_W d 183 Q 109 (o0 :: o1 :: some (.int x) :: l) (.int x :: st) H 0 0 := wp_iload_n rfl rfl
theorem w183_109 : ma_W d 183 Q 109 (o0 :: some (.int x) :: l) st H 0 0 = ma_W d 183 Q 110 (o0 :: some (.int x) :: l) (.int x :: st) H 0 0 := wp_iload_n rfl rfl
theorem w183_110 : ma_W d 183 Q 110 l (.int y :: .int x :: st) H 0 0 = ma_if (x = y) d 183 Q 113 126 l st H 0 0 := wp_ic (id := 183) (pc := 110) (c := .ne) (off := 16) 126 rfl (by decide)
theorem w183_113 : ma_W d 183 Q 113 l st H 0 0 = ma_W d 183 Q 115 l (.int 10 :: st) H 0 0 := wp_bipush rfl (by decide)
theorem w183_115 : ma_W d 183 Q 115 (o0 :: o1 :: o2 :: some (.int x) :: l) st H 0 0 = ma_W d 183 Q 116 (o0 :: o1 :: o2 :: some (.int x) :: l) (.int x :: st) H 0 0 := wp_iload_n rfl rfl
theorem w183_116 : ma_W d 183 Q 116 l st H 0 0 = ma_W d 183 Q 118 l (.int 6 :: st) H 0 0 := wp_bipush rfl (by decide)
theorem w183_118 : ma_W d 183 Q 118 l (.int y :: .int x :: st) H 0 0 = (¬ y = 0 ∧ ma_W d 183 Q 119 l (.int (x / y) :: st) H 0 0) := wp_idiv rfl
theorem w183_119 : ma_W d 183 Q 119 l (.int y :: .int x :: st) H 0 0 = ma_W d 183 Q 120 l (.int (x * y) :: st) H 0 0 := wp_imul rfl
theorem w183_120 : ma_W d 183 Q 120 (o0 :: o1 :: o2 :: some (.int x) :: l) st H 0 0 = ma_W d 183 Q 121 (o0 :: o1 :: o2 :: some (.int x) :: l) (.int x :: st) H 0 0 := wp_iload_n rfl rfl
theorem w183_121 : ma_W d 183 Q 121 l st H 0 0 = ma_W d 183 Q 123 l (.int 6 :: st) H 0 0 := wp_bipush rfl (by decide)
theorem w183_123 : ma_W d 183 Q 123 l (.int y :: .int x :: st) H 0 0 = (¬ y = 0 ∧ ma_W d 183 Q 124 l (.int (ma_rem x y) :: st) H 0 0) := wp_irem rfl
theorem w183_124 : ma_W d 183 Q 124 l (.int y :: .int x :: st) H 0 0 = ma_W d 183 Q 125 l (.int (x + y) :: st) H 0 0 := wp_iadd rfl
theorem w183_125 : ma_W d 183 Q 125 l [.int x] H 0 0 = Q (some (.int x)) H := wp_iret rfl rfl
theorem w183_126 : ma_W d 183 Q 126 (o0 :: o1 :: some (.int x) :: l) st H 0 0 = ma_W d 183 Q 129 (o0 :: ma_clr o1 :: some (.int (x + 1)) :: l) st H 0 0 := wp_iinc (id := 183) (pc := 126) (k := 2) (n := 1) rfl (Nat.succ_lt_succ (Nat.succ_lt_succ (Nat.zero_lt_succ _))) rfl (by decide)
theorem w183_129 : ma_W d 183 Q 129 (o0 :: o1 :: o2 :: some (.int x) :: l) st H 0 0 = ma_W d 183 Q 132 (o0 :: o1 :: ma_clr o2 :: some (.int (x + 1)) :: l) st H 0 0 := wp_iinc (id := 183) (pc := 129) (k := 3) (n := 1) rfl (Nat.succ_lt_succ (Nat.succ_lt_succ (Nat.succ_lt_succ (Nat.zero_lt_succ _)))) rfl (by decide)
theorem w183_132 : ma_W d 183 Q 132 l st H 0 0 = ma_W d 183 Q 87 l st H 0 0 := wp_goto 87 rfl (by decide)
theorem w183_135 : ma_W d 183 Q 135 (o0 :: some (.int x) :: l) st H 0 0 = ma_W d 183 Q 136 (o0 :: some (.int x) :: l) (.int x :: st) H 0 0 := wp_iload_n rfl rfl
theorem w183_136 : ma_W d 183 Q 136 l st H 0 0 = ma_W d 183 Q 137 l (.int (-1) :: st) H 0 0 := wp_iconst rfl (by decide)
theorem w183_137 : ma_W d 183 Q 137 l (.int y :: .int x :: st) H 0 0 = ma_if (x = y) d 183 Q 140 144 l st H 0 0 := wp_ic (id := 183) (pc := 137) (c := .ne) (off := 7) 144 rfl (by decide)
theorem w183_140 : ma_W d 183 Q 140 (o0 :: o1 :: some (.int x) :: l) st H 0 0 = ma_W d 183 Q 141 (o0 :: o1 :: some (.int x) :: l) (.int x :: st) H 0 0 := wp_iload_n rfl rfl
theorem w183_141 : ma_W d 183 Q 141 l st H 0 0 = ma_W d 183 Q 146 l st H 0 0 := wp_goto 146 rfl (by decide)
theorem w183_144 : ma_W d 183 Q 144 l st H 0 0 = ma_W d 183 Q 146 l (.int (-5) :: st) H 0 0 := wp_bipush rfl (by decide)
theorem w183_146 : ma_W d 183 Q 146 l [.int x] H 0 0 = Q (some (.int x)) H := wp_iret rfl rfl
theorem e183 : ma_MW (d + 1) 183 [.ref i, .int x0] H Q = ma_W d 183 Q 0 [some (.ref i), some (.int x0), none, none] [] H 0 0 := wp_enter (by decide) (Nat.le_of_ble_eq_true rfl) rfl
/-! 184 mo_tells -/
theorem w184_0 : ma_W d 184 Q 0 (o0 :: some (.long u) :: l) st H 0 0 = ma_W d 184 Q 1 (o0 :: some (.long u) :: l) (.long u :: st) H 0 0 := wp_lload_n rfl rfl
theorem w184_1 : ma_W d 184 Q 1 (o0 :: o1 :: o2 :: o3 :: o4 :: p :: q :: l) (.long u :: st) H 0 0 = ma_W d 184 Q 3 (o0 :: o1 :: o2 :: o3 :: ma_clr o4 :: some (.long u) :: none :: l) st H 0 0 := wp_lstore (id := 184) (pc := 1) (k := 5) rfl (Nat.succ_lt_succ (Nat.succ_lt_succ (Nat.succ_lt_succ (Nat.succ_lt_succ (Nat.succ_lt_succ (Nat.succ_lt_succ (Nat.zero_lt_succ _)))))))
theorem w184_3 : ma_W d 184 Q 3 (o0 :: o1 :: o2 :: some (.long u) :: l) st H 0 0 = ma_W d 184 Q 4 (o0 :: o1 :: o2 :: some (.long u) :: l) (.long u :: st) H 0 0 := wp_lload_n rfl rfl
theorem w184_4 : ma_W d 184 Q 4 (o0 :: o1 :: o2 :: o3 :: o4 :: o5 :: o6 :: p :: q :: l) (.long u :: st) H 0 0 = ma_W d 184 Q 6 (o0 :: o1 :: o2 :: o3 :: o4 :: o5 :: ma_clr o6 :: some (.long u) :: none :: l) st H 0 0 := wp_lstore (id := 184) (pc := 4) (k := 7) rfl (Nat.succ_lt_succ (Nat.succ_lt_succ (Nat.succ_lt_succ (Nat.succ_lt_succ (Nat.succ_lt_succ (Nat.succ_lt_succ (Nat.succ_lt_succ (Nat.succ_lt_succ (Nat.zero_lt_succ _)))))))))
theorem w184_6 : ma_W d 184 Q 6 (o0 :: o1 :: o2 :: o3 :: o4 :: o5 :: o6 :: some (.long u) :: l) st H 0 0 = ma_W d 184 Q 8 (o0 :: o1 :: o2 :: o3 :: o4 :: o5 :: o6 :: some (.long u) :: l) (.long u :: st) H 0 0 := wp_lload rfl rfl
theorem w184_8 : ma_W d 184 Q 8 l st H 0 0 = ma_W d 184 Q 9 l (.long 0 :: st) H 0 0 := wp_lconst rfl (by decide)
theorem w184_9 : ma_W d 184 Q 9 l (.long v :: .long u :: st) H 0 0 = ma_W d 184 Q 10 l (.int (lg_cmp u v) :: st) H 0 0 := wp_lcmp rfl
theorem w184_10 : ma_W d 184 Q 10 l (.int x :: st) H 0 0 = ma_if (x ≤ 0) d 184 Q 31 13 l st H 0 0 := wp_c0 (id := 184) (pc := 10) (c := .le) (off := 21) 31 rfl (by decide)
theorem w184_13 : ma_W d 184 Q 13 (o0 :: o1 :: o2 :: o3 :: o4 :: some (.long u) :: l) st H 0 0 = ma_W d 184 Q 15 (o0 :: o1 :: o2 :: o3 :: o4 :: some (.long u) :: l) (.long u :: st) H 0 0 := wp_lload rfl rfl
theorem w184_15 : ma_W d 184 Q 15 (o0 :: o1 :: o2 :: o3 :: o4 :: o5 :: o6 :: some (.long u) :: l) st H 0 0 = ma_W d 184 Q 17 (o0 :: o1 :: o2 :: o3 :: o4 :: o5 :: o6 :: some (.long u) :: l) (.long u :: st) H 0 0 := wp_lload rfl rfl
theorem w184_17 : ma_W d 184 Q 17 l (.long v :: .long u :: st) H 0 0 = (¬ v = 0 ∧ ma_W d 184 Q 18 l (.long (ma_rml u v) :: st) H 0 0) := wp_lrem rfl
theorem w184_18 : ma_W d 184 Q 18 (o0 :: o1 :: o2 :: o3 :: o4 :: o5 :: o6 :: o7 :: o8 :: p :: q :: l) (.long u :: st) H 0 0 = ma_W d 184 Q 20 (o0 :: o1 :: o2 :: o3 :: o4 :: o5 :: o6 :: o7 :: ma_clr o8 :: some (.long u) :: none :: l) st H 0 0 := wp_lstore (id := 184) (pc := 18) (k := 9) rfl (Nat.succ_lt_succ (Nat.succ_lt_succ (Nat.succ_lt_succ (Nat.succ_lt_succ (Nat.succ_lt_succ (Nat.succ_lt_succ (Nat.succ_lt_succ (Nat.succ_lt_succ (Nat.succ_lt_succ (Nat.succ_lt_succ (Nat.zero_lt_succ _)))))))))))
theorem w184_20 : ma_W d 184 Q 20 (o0 :: o1 :: o2 :: o3 :: o4 :: o5 :: o6 :: some (.long u) :: l) st H 0 0 = ma_W d 184 Q 22 (o0 :: o1 :: o2 :: o3 :: o4 :: o5 :: o6 :: some (.long u) :: l) (.long u :: st) H 0 0 := wp_lload rfl rfl
theorem w184_22 : ma_W d 184 Q 22 (o0 :: o1 :: o2 :: o3 :: o4 :: p :: q :: l) (.long u :: st) H 0 0 = ma_W d 184 Q 24 (o0 :: o1 :: o2 :: o3 :: ma_clr o4 :: some (.long u) :: none :: l) st H 0 0 := wp_lstore (id := 184) (pc := 22) (k := 5) rfl (Nat.succ_lt_succ (Nat.succ_lt_succ (Nat.succ_lt_succ (Nat.succ_lt_succ (Nat.succ_lt_succ (Nat.succ_lt_succ (Nat.zero_lt_succ _)))))))
theorem w184_24 : ma_W d 184 Q 24 (o0 :: o1 :: o2 :: o3 :: o4 :: o5 :: o6 :: o7 :: o8 :: some (.long u) :: l) st H 0 0 = ma_W d 184 Q 26 (o0 :: o1 :: o2 :: o3 :: o4 :: o5 :: o6 :: o7 :: o8 :: some (.long u) :: l) (.long u :: st) H 0 0 := wp_lload rfl rfl
theorem w184_26 : ma_W d 184 Q 26 (o0 :: o1 :: o2 :: o3 :: o4 :: o5 :: o6 :: p :: q :: l) (.long u :: st) H 0 0 = ma_W d 184 Q 28 (o0 :: o1 :: o2 :: o3 :: o4 :: o5 :: ma_clr o6 :: some (.long u) :: none :: l) st H 0 0 := wp_lstore (id := 184) (pc := 26) (k := 7) rfl (Nat.succ_lt_succ (Nat.succ_lt_succ (Nat.succ_lt_succ (Nat.succ_lt_succ (Nat.succ_lt_succ (Nat.succ_lt_succ (Nat.succ_lt_succ (Nat.succ_lt_succ (Nat.zero_lt_succ _)))))))))
theorem w184_28 : ma_W d 184 Q 28 l st H 0 0 = ma_W d 184 Q 6 l st H 0 0 := wp_goto 6 rfl (by decide)
theorem w184_31 : ma_W d 184 Q 31 (some (.ref i) :: l) st H 0 0 = ma_W d 184 Q 32 (some (.ref i) :: l) (.ref i :: st) H 0 0 := wp_aload_n (x := some i) rfl rfl
theorem w184_32 : ma_W d 184 Q 32 (o0 :: some (.long u) :: l) st H 0 0 = ma_W d 184 Q 33 (o0 :: some (.long u) :: l) (.long u :: st) H 0 0 := wp_lload_n rfl rfl
theorem w184_33 : ma_W d 184 Q 33 (o0 :: o1 :: o2 :: o3 :: o4 :: some (.long u) :: l) st H 0 0 = ma_W d 184 Q 35 (o0 :: o1 :: o2 :: o3 :: o4 :: some (.long u) :: l) (.long u :: st) H 0 0 := wp_lload rfl rfl
theorem w184_35 : ma_W d 184 Q 35 l (.long v :: .long u :: st) H 0 0 = (¬ v = 0 ∧ ma_W d 184 Q 36 l (.long (u / v) :: st) H 0 0) := wp_ldiv rfl
theorem w184_36 : ma_W d 184 Q 36 l (.long u :: .ref i :: st) H 0 0 = ma_pf (H.1 i) 8 5 (.long u) (ma_kH d 184 Q 39 l st H i 0 0) := wp_put rfl (by decide +kernel) (by decide +kernel) rfl rfl
theorem w184_39 : ma_W d 184 Q 39 (some (.ref i) :: l) st H 0 0 = ma_W d 184 Q 40 (some (.ref i) :: l) (.ref i :: st) H 0 0 := wp_aload_n (x := some i) rfl rfl
theorem w184_40 : ma_W d 184 Q 40 (o0 :: o1 :: o2 :: some (.long u) :: l) st H 0 0 = ma_W d 184 Q 41 (o0 :: o1 :: o2 :: some (.long u) :: l) (.long u :: st) H 0 0 := wp_lload_n rfl rfl
theorem w184_41 : ma_W d 184 Q 41 (o0 :: o1 :: o2 :: o3 :: o4 :: some (.long u) :: l) st H 0 0 = ma_W d 184 Q 43 (o0 :: o1 :: o2 :: o3 :: o4 :: some (.long u) :: l) (.long u :: st) H 0 0 := wp_lload rfl rfl
theorem w184_43 : ma_W d 184 Q 43 l (.long v :: .long u :: st) H 0 0 = (¬ v = 0 ∧ ma_W d 184 Q 44 l (.long (u / v) :: st) H 0 0) := wp_ldiv rfl
theorem w184_44 : ma_W d 184 Q 44 l (.long u :: .ref i :: st) H 0 0 = ma_pf (H.1 i) 8 6 (.long u) (ma_kH d 184 Q 47 l st H i 0 0) := wp_put rfl (by decide +kernel) (by decide +kernel) rfl rfl
theorem w184_47 : ma_W d 184 Q 47 l st H 0 0 = ma_W d 184 Q 48 l (.int 1 :: st) H 0 0 := wp_iconst rfl (by decide)
theorem w184_48 : ma_W d 184 Q 48 l [.int x] H 0 0 = Q (some (.int x)) H := wp_iret rfl rfl
theorem e184 : ma_MW (d + 1) 184 [.ref i, .long u0, .long u1] H Q = ma_W d 184 Q 0 [some (.ref i), some (.long u0), none, some (.long u1), none, none, none, none, none, none, none] [] H 0 0 := wp_enter (by decide) (Nat.le_of_ble_eq_true rfl) rfl
/-! 185 mo_order -/
theorem w185_0 : ma_W d 185 Q 0 l st H 0 0 = ma_W d 185 Q 2 l (.int 10 :: st) H 0 0 := wp_bipush rfl (by decide)
theorem w185_2 : ma_W d 185 Q 2 l st H 0 0 = ma_W d 185 Q 4 l (.int 16 :: st) H 0 0 := wp_bipush rfl (by decide)
theorem w185_4 : ma_W d 185 Q 4 (o0 :: some (.int x) :: l) st H 0 0 = ma_W d 185 Q 5 (o0 :: some (.int x) :: l) (.int x :: st) H 0 0 := wp_iload_n rfl rfl
theorem w185_5 : ma_W d 185 Q 5 l (.int y :: .int x :: st) H 0 0 = ma_W d 185 Q 6 l (.int (x * y) :: st) H 0 0 := wp_imul rfl
theorem w185_6 : ma_W d 185 Q 6 l (.int y :: .int x :: st) H 0 0 = ma_W d 185 Q 7 l (.int (x + y) :: st) H 0 0 := wp_iadd rfl
theorem w185_7 : ma_W d 185 Q 7 (o0 :: o1 :: o2 :: o3 :: p :: l) (.int x :: st) H 0 0 = ma_W d 185 Q 9 (o0 :: o1 :: o2 :: ma_clr o3 :: some (.int x) :: l) st H 0 0 := wp_istore (id := 185) (pc := 7) (k := 4) rfl (Nat.succ_lt_succ (Nat.succ_lt_succ (Nat.succ_lt_succ (Nat.succ_lt_succ (Nat.zero_lt_succ _)))))
theorem w185_9 : ma_W d 185 Q 9 (o0 :: o1 :: o2 :: some (.int x) :: l) st H 0 0 = ma_W d 185 Q 10 (o0 :: o1 :: o2 :: some (.int x) :: l) (.int x :: st) H 0 0 := wp_iload_n rfl rfl
theorem w185_10 : ma_W d 185 Q 10 (o0 :: o1 :: o2 :: o3 :: o4 :: p :: l) (.int x :: st) H 0 0 = ma_W d 185 Q 12 (o0 :: o1 :: o2 :: o3 :: ma_clr o4 :: some (.int x) :: l) st H 0 0 := wp_istore (id := 185) (pc := 10) (k := 5) rfl (Nat.succ_lt_succ (Nat.succ_lt_succ (Nat.succ_lt_succ (Nat.succ_lt_succ (Nat.succ_lt_succ (Nat.zero_lt_succ _))))))
theorem w185_12 : ma_W d 185 Q 12 l st H 0 0 = ma_W d 185 Q 13 l (.int 0 :: st) H 0 0 := wp_iconst rfl (by decide)
theorem w185_13 : ma_W d 185 Q 13 (o0 :: o1 :: o2 :: o3 :: o4 :: o5 :: p :: l) (.int x :: st) H 0 0 = ma_W d 185 Q 15 (o0 :: o1 :: o2 :: o3 :: o4 :: ma_clr o5 :: some (.int x) :: l) st H 0 0 := wp_istore (id := 185) (pc := 13) (k := 6) rfl (Nat.succ_lt_succ (Nat.succ_lt_succ (Nat.succ_lt_succ (Nat.succ_lt_succ (Nat.succ_lt_succ (Nat.succ_lt_succ (Nat.zero_lt_succ _)))))))
theorem w185_15 : ma_W d 185 Q 15 (o0 :: o1 :: o2 :: o3 :: o4 :: o5 :: some (.int x) :: l) st H 0 0 = ma_W d 185 Q 17 (o0 :: o1 :: o2 :: o3 :: o4 :: o5 :: some (.int x) :: l) (.int x :: st) H 0 0 := wp_iload rfl rfl
theorem w185_17 : ma_W d 185 Q 17 (o0 :: o1 :: some (.int x) :: l) st H 0 0 = ma_W d 185 Q 18 (o0 :: o1 :: some (.int x) :: l) (.int x :: st) H 0 0 := wp_iload_n rfl rfl
theorem w185_18 : ma_W d 185 Q 18 l (.int y :: .int x :: st) H 0 0 = ma_if (y ≤ x) d 185 Q 92 21 l st H 0 0 := wp_ic (id := 185) (pc := 18) (c := .ge) (off := 74) 92 rfl (by decide)
theorem w185_21 : ma_W d 185 Q 21 (o0 :: o1 :: o2 :: o3 :: o4 :: o5 :: some (.int x) :: l) st H 0 0 = ma_W d 185 Q 23 (o0 :: o1 :: o2 :: o3 :: o4 :: o5 :: some (.int x) :: l) (.int x :: st) H 0 0 := wp_iload rfl rfl
theorem w185_23 : ma_W d 185 Q 23 (o0 :: o1 :: o2 :: o3 :: o4 :: some (.int x) :: l) st H 0 0 = ma_W d 185 Q 25 (o0 :: o1 :: o2 :: o3 :: o4 :: some (.int x) :: l) (.int x :: st) H 0 0 := wp_iload rfl rfl
theorem w185_25 : ma_W d 185 Q 25 (o0 :: o1 :: some (.int x) :: l) st H 0 0 = ma_W d 185 Q 26 (o0 :: o1 :: some (.int x) :: l) (.int x :: st) H 0 0 := wp_iload_n rfl rfl
theorem w185_26 : ma_W d 185 Q 26 (o0 :: o1 :: o2 :: o3 :: o4 :: o5 :: some (.int x) :: l) st H 0 0 = ma_W d 185 Q 28 (o0 :: o1 :: o2 :: o3 :: o4 :: o5 :: some (.int x) :: l) (.int x :: st) H 0 0 := wp_iload rfl rfl
theorem w185_28 : ma_W d 185 Q 28 l (.int y :: .int x :: st) H 0 0 = ma_W d 185 Q 29 l (.int (x - y) :: st) H 0 0 := wp_isub rfl
theorem w185_29 : ma_W d 185 Q 29 l (.int y :: .int x :: st) H 0 0 = (¬ y = 0 ∧ ma_W d 185 Q 30 l (.int (ma_rem x y) :: st) H 0 0) := wp_irem rfl
theorem w185_30 : ma_W d 185 Q 30 l (.int y :: .int x :: st) H 0 0 = ma_W d 185 Q 31 l (.int (x + y) :: st) H 0 0 := wp_iadd rfl
theorem w185_31 : ma_W d 185 Q 31 (o0 :: o1 :: o2 :: o3 :: o4 :: o5 :: o6 :: p :: l) (.int x :: st) H 0 0 = ma_W d 185 Q 33 (o0 :: o1 :: o2 :: o3 :: o4 :: o5 :: ma_clr o6 :: some (.int x) :: l) st H 0 0 := wp_istore (id := 185) (pc := 31) (k := 7) rfl (Nat.succ_lt_succ (Nat.succ_lt_succ (Nat.succ_lt_succ (Nat.succ_lt_succ (Nat.succ_lt_succ (Nat.succ_lt_succ (Nat.succ_lt_succ (Nat.zero_lt_succ _))))))))
theorem w185_33 : ma_W d 185 Q 33 (o0 :: o1 :: o2 :: o3 :: o4 :: some (.int x) :: l) st H 0 0 = ma_W d 185 Q 35 (o0 :: o1 :: o2 :: o3 :: o4 :: some (.int x) :: l) (.int x :: st) H 0 0 := wp_iload rfl rfl
theorem w185_35 : ma_W d 185 Q 35 (o0 :: o1 :: some (.int x) :: l) st H 0 0 = ma_W d 185 Q 36 (o0 :: o1 :: some (.int x) :: l) (.int x :: st) H 0 0 := wp_iload_n rfl rfl
theorem w185_36 : ma_W d 185 Q 36 (o0 :: o1 :: o2 :: o3 :: o4 :: o5 :: some (.int x) :: l) st H 0 0 = ma_W d 185 Q 38 (o0 :: o1 :: o2 :: o3 :: o4 :: o5 :: some (.int x) :: l) (.int x :: st) H 0 0 := wp_iload rfl rfl
theorem w185_38 : ma_W d 185 Q 38 l (.int y :: .int x :: st) H 0 0 = ma_W d 185 Q 39 l (.int (x - y) :: st) H 0 0 := wp_isub rfl
theorem w185_39 : ma_W d 185 Q 39 l (.int y :: .int x :: st) H 0 0 = (¬ y = 0 ∧ ma_W d 185 Q 40 l (.int (x / y) :: st) H 0 0) := wp_idiv rfl
theorem w185_40 : ma_W d 185 Q 40 (o0 :: o1 :: o2 :: o3 :: o4 :: p :: l) (.int x :: st) H 0 0 = ma_W d 185 Q 42 (o0 :: o1 :: o2 :: o3 :: ma_clr o4 :: some (.int x) :: l) st H 0 0 := wp_istore (id := 185) (pc := 40) (k := 5) rfl (Nat.succ_lt_succ (Nat.succ_lt_succ (Nat.succ_lt_succ (Nat.succ_lt_succ (Nat.succ_lt_succ (Nat.zero_lt_succ _))))))
theorem w185_42 : ma_W d 185 Q 42 (some (.ref i) :: l) st H 0 0 = ma_W d 185 Q 43 (some (.ref i) :: l) (.ref i :: st) H 0 0 := wp_aload_n (x := some i) rfl rfl
theorem w185_43 : ma_W d 185 Q 43 l (.ref i :: st) H 0 0 = ma_gf (H.1 i) 8 15 (ma_kV d 185 Q 46 l st H 0 0) := wp_get rfl (by decide +kernel)
theorem w185_46 : ma_W d 185 Q 46 (o0 :: o1 :: o2 :: o3 :: some (.int x) :: l) st H 0 0 = ma_W d 185 Q 48 (o0 :: o1 :: o2 :: o3 :: some (.int x) :: l) (.int x :: st) H 0 0 := wp_iload rfl rfl
theorem w185_48 : ma_W d 185 Q 48 (o0 :: o1 :: o2 :: o3 :: o4 :: o5 :: some (.int x) :: l) st H 0 0 = ma_W d 185 Q 50 (o0 :: o1 :: o2 :: o3 :: o4 :: o5 :: some (.int x) :: l) (.int x :: st) H 0 0 := wp_iload rfl rfl
theorem w185_50 : ma_W d 185 Q 50 l (.int y :: .int x :: st) H 0 0 = ma_W d 185 Q 51 l (.int (x + y) :: st) H 0 0 := wp_iadd rfl
theorem w185_51 : ma_W d 185 Q 51 l (.int x :: .ref i :: st) H 0 0 = ma_ial (H.1 i) x (ma_kV d 185 Q 52 l st H 0 0) := wp_iald rfl
theorem w185_52 : ma_W d 185 Q 52 (o0 :: o1 :: o2 :: o3 :: o4 :: o5 :: o6 :: o7 :: p :: l) (.int x :: st) H 0 0 = ma_W d 185 Q 54 (o0 :: o1 :: o2 :: o3 :: o4 :: o5 :: o6 :: ma_clr o7 :: some (.int x) :: l) st H 0 0 := wp_istore (id := 185) (pc := 52) (k := 8) rfl (Nat.succ_lt_succ (Nat.succ_lt_succ (Nat.succ_lt_succ (Nat.succ_lt_succ (Nat.succ_lt_succ (Nat.succ_lt_succ (Nat.succ_lt_succ (Nat.succ_lt_succ (Nat.zero_lt_succ _)))))))))
theorem w185_54 : ma_W d 185 Q 54 (some (.ref i) :: l) st H 0 0 = ma_W d 185 Q 55 (some (.ref i) :: l) (.ref i :: st) H 0 0 := wp_aload_n (x := some i) rfl rfl
theorem w185_55 : ma_W d 185 Q 55 l (.ref i :: st) H 0 0 = ma_gf (H.1 i) 8 15 (ma_kV d 185 Q 58 l st H 0 0) := wp_get rfl (by decide +kernel)
theorem w185_58 : ma_W d 185 Q 58 (o0 :: o1 :: o2 :: o3 :: some (.int x) :: l) st H 0 0 = ma_W d 185 Q 60 (o0 :: o1 :: o2 :: o3 :: some (.int x) :: l) (.int x :: st) H 0 0 := wp_iload rfl rfl
theorem w185_60 : ma_W d 185 Q 60 (o0 :: o1 :: o2 :: o3 :: o4 :: o5 :: some (.int x) :: l) st H 0 0 = ma_W d 185 Q 62 (o0 :: o1 :: o2 :: o3 :: o4 :: o5 :: some (.int x) :: l) (.int x :: st) H 0 0 := wp_iload rfl rfl
theorem w185_62 : ma_W d 185 Q 62 l (.int y :: .int x :: st) H 0 0 = ma_W d 185 Q 63 l (.int (x + y) :: st) H 0 0 := wp_iadd rfl
theorem w185_63 : ma_W d 185 Q 63 (some (.ref i) :: l) st H 0 0 = ma_W d 185 Q 64 (some (.ref i) :: l) (.ref i :: st) H 0 0 := wp_aload_n (x := some i) rfl rfl
theorem w185_64 : ma_W d 185 Q 64 l (.ref i :: st) H 0 0 = ma_gf (H.1 i) 8 15 (ma_kV d 185 Q 67 l st H 0 0) := wp_get rfl (by decide +kernel)
theorem w185_67 : ma_W d 185 Q 67 (o0 :: o1 :: o2 :: o3 :: some (.int x) :: l) st H 0 0 = ma_W d 185 Q 69 (o0 :: o1 :: o2 :: o3 :: some (.int x) :: l) (.int x :: st) H 0 0 := wp_iload rfl rfl
theorem w185_69 : ma_W d 185 Q 69 (o0 :: o1 :: o2 :: o3 :: o4 :: o5 :: o6 :: some (.int x) :: l) st H 0 0 = ma_W d 185 Q 71 (o0 :: o1 :: o2 :: o3 :: o4 :: o5 :: o6 :: some (.int x) :: l) (.int x :: st) H 0 0 := wp_iload rfl rfl
theorem w185_71 : ma_W d 185 Q 71 l (.int y :: .int x :: st) H 0 0 = ma_W d 185 Q 72 l (.int (x + y) :: st) H 0 0 := wp_iadd rfl
theorem w185_72 : ma_W d 185 Q 72 l (.int x :: .ref i :: st) H 0 0 = ma_ial (H.1 i) x (ma_kV d 185 Q 73 l st H 0 0) := wp_iald rfl
theorem w185_73 : ma_W d 185 Q 73 l (.int y :: .int x :: .ref i :: st) H 0 0 = (4 ≤ i ∧ ma_ias (H.1 i) x y (ma_kH d 185 Q 74 l st H i 0 0)) := wp_iast rfl
theorem w185_74 : ma_W d 185 Q 74 (some (.ref i) :: l) st H 0 0 = ma_W d 185 Q 75 (some (.ref i) :: l) (.ref i :: st) H 0 0 := wp_aload_n (x := some i) rfl rfl
theorem w185_75 : ma_W d 185 Q 75 l (.ref i :: st) H 0 0 = ma_gf (H.1 i) 8 15 (ma_kV d 185 Q 78 l st H 0 0) := wp_get rfl (by decide +kernel)
theorem w185_78 : ma_W d 185 Q 78 (o0 :: o1 :: o2 :: o3 :: some (.int x) :: l) st H 0 0 = ma_W d 185 Q 80 (o0 :: o1 :: o2 :: o3 :: some (.int x) :: l) (.int x :: st) H 0 0 := wp_iload rfl rfl
theorem w185_80 : ma_W d 185 Q 80 (o0 :: o1 :: o2 :: o3 :: o4 :: o5 :: o6 :: some (.int x) :: l) st H 0 0 = ma_W d 185 Q 82 (o0 :: o1 :: o2 :: o3 :: o4 :: o5 :: o6 :: some (.int x) :: l) (.int x :: st) H 0 0 := wp_iload rfl rfl
theorem w185_82 : ma_W d 185 Q 82 l (.int y :: .int x :: st) H 0 0 = ma_W d 185 Q 83 l (.int (x + y) :: st) H 0 0 := wp_iadd rfl
theorem w185_83 : ma_W d 185 Q 83 (o0 :: o1 :: o2 :: o3 :: o4 :: o5 :: o6 :: o7 :: some (.int x) :: l) st H 0 0 = ma_W d 185 Q 85 (o0 :: o1 :: o2 :: o3 :: o4 :: o5 :: o6 :: o7 :: some (.int x) :: l) (.int x :: st) H 0 0 := wp_iload rfl rfl
theorem w185_85 : ma_W d 185 Q 85 l (.int y :: .int x :: .ref i :: st) H 0 0 = (4 ≤ i ∧ ma_ias (H.1 i) x y (ma_kH d 185 Q 86 l st H i 0 0)) := wp_iast rfl
theorem w185_86 : ma_W d 185 Q 86 (o0 :: o1 :: o2 :: o3 :: o4 :: o5 :: some (.int x) :: l) st H 0 0 = ma_W d 185 Q 89 (o0 :: o1 :: o2 :: o3 :: o4 :: ma_clr o5 :: some (.int (x + 1)) :: l) st H 0 0 := wp_iinc (id := 185) (pc := 86) (k := 6) (n := 1) rfl (Nat.succ_lt_succ (Nat.succ_lt_succ (Nat.succ_lt_succ (Nat.succ_lt_succ (Nat.succ_lt_succ (Nat.succ_lt_succ (Nat.zero_lt_succ _))))))) rfl (by decide)
theorem w185_89 : ma_W d 185 Q 89 l st H 0 0 = ma_W d 185 Q 15 l st H 0 0 := wp_goto 15 rfl (by decide)
theorem w185_92 : ma_W d 185 Q 92 l [] H 0 0 = Q none H := wp_vret rfl rfl
theorem e185 : ma_MW (d + 1) 185 [.ref i, .int x0, .int x1, .int x2] H Q = ma_W d 185 Q 0 [some (.ref i), some (.int x0), some (.int x1), some (.int x2), none, none, none, none, none] [] H 0 0 := wp_enter (by decide) (Nat.le_of_ble_eq_true rfl) rfl
/-! 186 mo_luck -/
theorem w186_0 : ma_W d 186 Q 0 (o0 :: some (.int x) :: l) st H 0 0 = ma_W d 186 Q 1 (o0 :: some (.int x) :: l) (.int x :: st) H 0 0 := wp_iload_n rfl rfl
theorem w186_1 : ma_W d 186 Q 1 l st H 0 0 = ma_W d 186 Q 2 l (.int 0 :: st) H 0 0 := wp_iconst rfl (by decide)
theorem w186_2 : ma_W d 186 Q 2 l st H 0 0 = ma_W d 186 Q 3 l (.int 1 :: st) H 0 0 := wp_iconst rfl (by decide)
theorem w186_3 : ma_W d 186 Q 3 l (.int x2 :: .int x1 :: .int x0 :: st) H 0 0 = (ma_cat st ≤ 8 ∧ ma_MW d 125 [.int x0, .int x1, .int x2] H (ma_kC d 186 Q 6 l st 0 0)) := wc_S0 (ia := 125) (n := 3) (cn := 8) (k := 1) rfl (by decide +kernel) (by decide) (fun _ => rfl) rfl rfl
theorem w186_6 : ma_W d 186 Q 6 l (.int x :: st) H 0 0 = ma_if (x = 0) d 186 Q 18 9 l st H 0 0 := wp_c0 (id := 186) (pc := 6) (c := .eq) (off := 12) 18 rfl (by decide)
theorem w186_9 : ma_W d 186 Q 9 (o0 :: o1 :: some (.int x) :: l) st H 0 0 = ma_W d 186 Q 10 (o0 :: o1 :: some (.int x) :: l) (.int x :: st) H 0 0 := wp_iload_n rfl rfl
theorem w186_10 : ma_W d 186 Q 10 l st H 0 0 = ma_W d 186 Q 11 l (.int 0 :: st) H 0 0 := wp_iconst rfl (by decide)
theorem w186_11 : ma_W d 186 Q 11 l st H 0 0 = ma_W d 186 Q 12 l (.int 5 :: st) H 0 0 := wp_iconst rfl (by decide)
theorem w186_12 : ma_W d 186 Q 12 l (.int x2 :: .int x1 :: .int x0 :: st) H 0 0 = (ma_cat st ≤ 8 ∧ ma_MW d 125 [.int x0, .int x1, .int x2] H (ma_kC d 186 Q 15 l st 0 0)) := wc_S0 (ia := 125) (n := 3) (cn := 8) (k := 1) rfl (by decide +kernel) (by decide) (fun _ => rfl) rfl rfl
theorem w186_15 : ma_W d 186 Q 15 l (.int x :: st) H 0 0 = ma_if (x = 0) d 186 Q 18 23 l st H 0 0 := wp_c0 (id := 186) (pc := 15) (c := .ne) (off := 8) 23 rfl (by decide)
theorem w186_18 : ma_W d 186 Q 18 (some (.ref i) :: l) st H 0 0 = ma_W d 186 Q 19 (some (.ref i) :: l) (.ref i :: st) H 0 0 := wp_aload_n (x := some i) rfl rfl
theorem w186_19 : ma_W d 186 Q 19 l (.ref i :: st) H 0 0 = (ma_cat st ≤ 8 ∧ ma_cv (H.1 i) 8 d 128 [.ref i] H (ma_kC d 186 Q 22 l st 0 0)) := wc_V0 (ia := 128) (n := 1) (cn := 8) rfl (by decide +kernel) (fun _ => rfl) rfl rfl
theorem w186_22 : ma_W d 186 Q 22 l [.int x] H 0 0 = Q (some (.int x)) H := wp_iret rfl rfl
theorem w186_23 : ma_W d 186 Q 23 (o0 :: o1 :: some (.int x) :: l) st H 0 0 = ma_W d 186 Q 24 (o0 :: o1 :: some (.int x) :: l) (.int x :: st) H 0 0 := wp_iload_n rfl rfl
theorem w186_24 : ma_W d 186 Q 24 (some (.ref i) :: l) st H 0 0 = ma_W d 186 Q 25 (some (.ref i) :: l) (.ref i :: st) H 0 0 := wp_aload_n (x := some i) rfl rfl
theorem w186_25 : ma_W d 186 Q 25 l (.ref i :: st) H 0 0 = ma_gf (H.1 i) 8 0 (ma_kV d 186 Q 28 l st H 0 0) := wp_get rfl (by decide +kernel)
theorem w186_28 : ma_W d 186 Q 28 l st H 0 0 = ma_W d 186 Q 30 l (.int 7 :: st) H 0 0 := wp_bipush rfl (by decide)
theorem w186_30 : ma_W d 186 Q 30 (o0 :: some (.int x) :: l) st H 0 0 = ma_W d 186 Q 31 (o0 :: some (.int x) :: l) (.int x :: st) H 0 0 := wp_iload_n rfl rfl
theorem w186_31 : ma_W d 186 Q 31 l (.int y :: .int x :: st) H 0 0 = ma_W d 186 Q 32 l (.int (x + y) :: st) H 0 0 := wp_iadd rfl
theorem w186_32 : ma_W d 186 Q 32 l (.int x :: .ref i :: st) H 0 0 = ma_ial (H.1 i) x (ma_kV d 186 Q 33 l st H 0 0) := wp_iald rfl
theorem w186_33 : ma_W d 186 Q 33 l (.int y :: .int x :: st) H 0 0 = ma_if (y ≤ x) d 186 Q 40 36 l st H 0 0 := wp_ic (id := 186) (pc := 33) (c := .ge) (off := 7) 40 rfl (by decide)
theorem w186_36 : ma_W d 186 Q 36 (o0 :: o1 :: some (.int x) :: l) st H 0 0 = ma_W d 186 Q 37 (o0 :: o1 :: some (.int x) :: l) (.int x :: st) H 0 0 := wp_iload_n rfl rfl
theorem w186_37 : ma_W d 186 Q 37 l st H 0 0 = ma_W d 186 Q 49 l st H 0 0 := wp_goto 49 rfl (by decide)
theorem w186_40 : ma_W d 186 Q 40 (some (.ref i) :: l) st H 0 0 = ma_W d 186 Q 41 (some (.ref i) :: l) (.ref i :: st) H 0 0 := wp_aload_n (x := some i) rfl rfl
theorem w186_41 : ma_W d 186 Q 41 l (.ref i :: st) H 0 0 = ma_gf (H.1 i) 8 0 (ma_kV d 186 Q 44 l st H 0 0) := wp_get rfl (by decide +kernel)
theorem w186_44 : ma_W d 186 Q 44 l st H 0 0 = ma_W d 186 Q 46 l (.int 7 :: st) H 0 0 := wp_bipush rfl (by decide)
theorem w186_46 : ma_W d 186 Q 46 (o0 :: some (.int x) :: l) st H 0 0 = ma_W d 186 Q 47 (o0 :: some (.int x) :: l) (.int x :: st) H 0 0 := wp_iload_n rfl rfl
theorem w186_47 : ma_W d 186 Q 47 l (.int y :: .int x :: st) H 0 0 = ma_W d 186 Q 48 l (.int (x + y) :: st) H 0 0 := wp_iadd rfl
theorem w186_48 : ma_W d 186 Q 48 l (.int x :: .ref i :: st) H 0 0 = ma_ial (H.1 i) x (ma_kV d 186 Q 49 l st H 0 0) := wp_iald rfl
theorem w186_49 : ma_W d 186 Q 49 (o0 :: o1 :: o2 :: p :: l) (.int x :: st) H 0 0 = ma_W d 186 Q 50 (o0 :: o1 :: ma_clr o2 :: some (.int x) :: l) st H 0 0 := wp_istore_n (id := 186) (pc := 49) (k := 3) rfl (Nat.succ_lt_succ (Nat.succ_lt_succ (Nat.succ_lt_succ (Nat.zero_lt_succ _))))
theorem w186_50 : ma_W d 186 Q 50 l st H 0 0 = ma_W d 186 Q 51 l (.int 1 :: st) H 0 0 := wp_iconst rfl (by decide)
theorem w186_51 : ma_W d 186 Q 51 (o0 :: o1 :: o2 :: o3 :: p :: l) (.int x :: st) H 0 0 = ma_W d 186 Q 53 (o0 :: o1 :: o2 :: ma_clr o3 :: some (.int x) :: l) st H 0 0 := wp_istore (id := 186) (pc := 51) (k := 4) rfl (Nat.succ_lt_succ (Nat.succ_lt_succ (Nat.succ_lt_succ (Nat.succ_lt_succ (Nat.zero_lt_succ _)))))
theorem w186_53 : ma_W d 186 Q 53 l st H 0 0 = ma_W d 186 Q 54 l (.int 2 :: st) H 0 0 := wp_iconst rfl (by decide)
theorem w186_54 : ma_W d 186 Q 54 (o0 :: o1 :: o2 :: o3 :: o4 :: p :: l) (.int x :: st) H 0 0 = ma_W d 186 Q 56 (o0 :: o1 :: o2 :: o3 :: ma_clr o4 :: some (.int x) :: l) st H 0 0 := wp_istore (id := 186) (pc := 54) (k := 5) rfl (Nat.succ_lt_succ (Nat.succ_lt_succ (Nat.succ_lt_succ (Nat.succ_lt_succ (Nat.succ_lt_succ (Nat.zero_lt_succ _))))))
theorem w186_56 : ma_W d 186 Q 56 (o0 :: o1 :: o2 :: o3 :: o4 :: some (.int x) :: l) st H 0 0 = ma_W d 186 Q 58 (o0 :: o1 :: o2 :: o3 :: o4 :: some (.int x) :: l) (.int x :: st) H 0 0 := wp_iload rfl rfl
theorem w186_58 : ma_W d 186 Q 58 (o0 :: o1 :: o2 :: some (.int x) :: l) st H 0 0 = ma_W d 186 Q 59 (o0 :: o1 :: o2 :: some (.int x) :: l) (.int x :: st) H 0 0 := wp_iload_n rfl rfl
theorem w186_59 : ma_W d 186 Q 59 l (.int y :: .int x :: st) H 0 0 = ma_if (y < x) d 186 Q 75 62 l st H 0 0 := wp_ic (id := 186) (pc := 59) (c := .gt) (off := 16) 75 rfl (by decide)
theorem w186_62 : ma_W d 186 Q 62 (o0 :: o1 :: o2 :: o3 :: some (.int x) :: l) st H 0 0 = ma_W d 186 Q 64 (o0 :: o1 :: o2 :: o3 :: some (.int x) :: l) (.int x :: st) H 0 0 := wp_iload rfl rfl
theorem w186_64 : ma_W d 186 Q 64 (o0 :: o1 :: o2 :: o3 :: o4 :: some (.int x) :: l) st H 0 0 = ma_W d 186 Q 66 (o0 :: o1 :: o2 :: o3 :: o4 :: some (.int x) :: l) (.int x :: st) H 0 0 := wp_iload rfl rfl
theorem w186_66 : ma_W d 186 Q 66 l (.int y :: .int x :: st) H 0 0 = ma_W d 186 Q 67 l (.int (x * y) :: st) H 0 0 := wp_imul rfl
theorem w186_67 : ma_W d 186 Q 67 (o0 :: o1 :: o2 :: o3 :: p :: l) (.int x :: st) H 0 0 = ma_W d 186 Q 69 (o0 :: o1 :: o2 :: ma_clr o3 :: some (.int x) :: l) st H 0 0 := wp_istore (id := 186) (pc := 67) (k := 4) rfl (Nat.succ_lt_succ (Nat.succ_lt_succ (Nat.succ_lt_succ (Nat.succ_lt_succ (Nat.zero_lt_succ _)))))
theorem w186_69 : ma_W d 186 Q 69 (o0 :: o1 :: o2 :: o3 :: o4 :: some (.int x) :: l) st H 0 0 = ma_W d 186 Q 72 (o0 :: o1 :: o2 :: o3 :: ma_clr o4 :: some (.int (x + 1)) :: l) st H 0 0 := wp_iinc (id := 186) (pc := 69) (k := 5) (n := 1) rfl (Nat.succ_lt_succ (Nat.succ_lt_succ (Nat.succ_lt_succ (Nat.succ_lt_succ (Nat.succ_lt_succ (Nat.zero_lt_succ _)))))) rfl (by decide)
theorem w186_72 : ma_W d 186 Q 72 l st H 0 0 = ma_W d 186 Q 56 l st H 0 0 := wp_goto 56 rfl (by decide)
theorem w186_75 : ma_W d 186 Q 75 l st H 0 0 = ma_W d 186 Q 76 l (.int 0 :: st) H 0 0 := wp_iconst rfl (by decide)
theorem w186_76 : ma_W d 186 Q 76 (o0 :: o1 :: o2 :: o3 :: o4 :: p :: l) (.int x :: st) H 0 0 = ma_W d 186 Q 78 (o0 :: o1 :: o2 :: o3 :: ma_clr o4 :: some (.int x) :: l) st H 0 0 := wp_istore (id := 186) (pc := 76) (k := 5) rfl (Nat.succ_lt_succ (Nat.succ_lt_succ (Nat.succ_lt_succ (Nat.succ_lt_succ (Nat.succ_lt_succ (Nat.zero_lt_succ _))))))
theorem w186_78 : ma_W d 186 Q 78 l st H 0 0 = ma_W d 186 Q 79 l (.int 0 :: st) H 0 0 := wp_iconst rfl (by decide)
theorem w186_79 : ma_W d 186 Q 79 (o0 :: o1 :: o2 :: o3 :: o4 :: o5 :: p :: l) (.int x :: st) H 0 0 = ma_W d 186 Q 81 (o0 :: o1 :: o2 :: o3 :: o4 :: ma_clr o5 :: some (.int x) :: l) st H 0 0 := wp_istore (id := 186) (pc := 79) (k := 6) rfl (Nat.succ_lt_succ (Nat.succ_lt_succ (Nat.succ_lt_succ (Nat.succ_lt_succ (Nat.succ_lt_succ (Nat.succ_lt_succ (Nat.zero_lt_succ _)))))))
theorem w186_81 : ma_W d 186 Q 81 (o0 :: o1 :: o2 :: o3 :: o4 :: o5 :: some (.int x) :: l) st H 0 0 = ma_W d 186 Q 83 (o0 :: o1 :: o2 :: o3 :: o4 :: o5 :: some (.int x) :: l) (.int x :: st) H 0 0 := wp_iload rfl rfl
theorem w186_83 : ma_W d 186 Q 83 (o0 :: o1 :: o2 :: o3 :: some (.int x) :: l) st H 0 0 = ma_W d 186 Q 85 (o0 :: o1 :: o2 :: o3 :: some (.int x) :: l) (.int x :: st) H 0 0 := wp_iload rfl rfl
theorem w186_85 : ma_W d 186 Q 85 l (.int y :: .int x :: st) H 0 0 = ma_if (y ≤ x) d 186 Q 125 88 l st H 0 0 := wp_ic (id := 186) (pc := 85) (c := .ge) (off := 40) 125 rfl (by decide)
theorem w186_88 : ma_W d 186 Q 88 (some (.ref i) :: l) st H 0 0 = ma_W d 186 Q 89 (some (.ref i) :: l) (.ref i :: st) H 0 0 := wp_aload_n (x := some i) rfl rfl
theorem w186_89 : ma_W d 186 Q 89 l (.ref i :: st) H 0 0 = (ma_cat st ≤ 8 ∧ ma_cv (H.1 i) 8 d 160 [.ref i] H (ma_kC d 186 Q 92 l st 0 0)) := wc_V0 (ia := 160) (n := 1) (cn := 8) rfl (by decide +kernel) (fun _ => rfl) rfl rfl
theorem w186_92 : ma_W d 186 Q 92 (some (.ref i) :: l) st H 0 0 = ma_W d 186 Q 93 (some (.ref i) :: l) (.ref i :: st) H 0 0 := wp_aload_n (x := some i) rfl rfl
theorem w186_93 : ma_W d 186 Q 93 (o0 :: some (.int x) :: l) st H 0 0 = ma_W d 186 Q 94 (o0 :: some (.int x) :: l) (.int x :: st) H 0 0 := wp_iload_n rfl rfl
theorem w186_94 : ma_W d 186 Q 94 (o0 :: o1 :: o2 :: some (.int x) :: l) st H 0 0 = ma_W d 186 Q 95 (o0 :: o1 :: o2 :: some (.int x) :: l) (.int x :: st) H 0 0 := wp_iload_n rfl rfl
theorem w186_95 : ma_W d 186 Q 95 (o0 :: o1 :: o2 :: o3 :: o4 :: o5 :: some (.int x) :: l) st H 0 0 = ma_W d 186 Q 97 (o0 :: o1 :: o2 :: o3 :: o4 :: o5 :: some (.int x) :: l) (.int x :: st) H 0 0 := wp_iload rfl rfl
theorem w186_97 : ma_W d 186 Q 97 l (.int x2 :: .int x1 :: .int x0 :: .ref i :: st) H 0 0 = (ma_cat st ≤ 8 ∧ ma_cv (H.1 i) 8 d 185 [.ref i, .int x0, .int x1, .int x2] H (ma_kC d 186 Q 100 l st 0 0)) := wc_V0 (ia := 185) (n := 4) (cn := 8) rfl (by decide +kernel) (fun _ => rfl) rfl rfl
theorem w186_100 : ma_W d 186 Q 100 (o0 :: o1 :: o2 :: o3 :: o4 :: some (.int x) :: l) st H 0 0 = ma_W d 186 Q 102 (o0 :: o1 :: o2 :: o3 :: o4 :: some (.int x) :: l) (.int x :: st) H 0 0 := wp_iload rfl rfl
theorem w186_102 : ma_W d 186 Q 102 (some (.ref i) :: l) st H 0 0 = ma_W d 186 Q 103 (some (.ref i) :: l) (.ref i :: st) H 0 0 := wp_aload_n (x := some i) rfl rfl
theorem w186_103 : ma_W d 186 Q 103 (o0 :: some (.int x) :: l) st H 0 0 = ma_W d 186 Q 104 (o0 :: some (.int x) :: l) (.int x :: st) H 0 0 := wp_iload_n rfl rfl
theorem w186_104 : ma_W d 186 Q 104 l (.int x0 :: .ref i :: st) H 0 0 = (ma_cat st ≤ 8 ∧ ma_cv (H.1 i) 8 d 163 [.ref i, .int x0] H (ma_kC d 186 Q 107 l st 0 0)) := wc_V0 (ia := 163) (n := 2) (cn := 8) rfl (by decide +kernel) (fun _ => rfl) rfl rfl
theorem w186_107 : ma_W d 186 Q 107 l st H 0 0 = ma_W d 186 Q 108 l (.int (-1) :: st) H 0 0 := wp_iconst rfl (by decide)
theorem w186_108 : ma_W d 186 Q 108 l (.int y :: .int x :: st) H 0 0 = ma_if (x = y) d 186 Q 111 115 l st H 0 0 := wp_ic (id := 186) (pc := 108) (c := .ne) (off := 7) 115 rfl (by decide)
theorem w186_111 : ma_W d 186 Q 111 l st H 0 0 = ma_W d 186 Q 112 l (.int 0 :: st) H 0 0 := wp_iconst rfl (by decide)
theorem w186_112 : ma_W d 186 Q 112 l st H 0 0 = ma_W d 186 Q 116 l st H 0 0 := wp_goto 116 rfl (by decide)
theorem w186_115 : ma_W d 186 Q 115 l st H 0 0 = ma_W d 186 Q 116 l (.int 1 :: st) H 0 0 := wp_iconst rfl (by decide)
theorem w186_116 : ma_W d 186 Q 116 l (.int y :: .int x :: st) H 0 0 = ma_W d 186 Q 117 l (.int (x + y) :: st) H 0 0 := wp_iadd rfl
theorem w186_117 : ma_W d 186 Q 117 (o0 :: o1 :: o2 :: o3 :: o4 :: p :: l) (.int x :: st) H 0 0 = ma_W d 186 Q 119 (o0 :: o1 :: o2 :: o3 :: ma_clr o4 :: some (.int x) :: l) st H 0 0 := wp_istore (id := 186) (pc := 117) (k := 5) rfl (Nat.succ_lt_succ (Nat.succ_lt_succ (Nat.succ_lt_succ (Nat.succ_lt_succ (Nat.succ_lt_succ (Nat.zero_lt_succ _))))))
theorem w186_119 : ma_W d 186 Q 119 (o0 :: o1 :: o2 :: o3 :: o4 :: o5 :: some (.int x) :: l) st H 0 0 = ma_W d 186 Q 122 (o0 :: o1 :: o2 :: o3 :: o4 :: ma_clr o5 :: some (.int (x + 1)) :: l) st H 0 0 := wp_iinc (id := 186) (pc := 119) (k := 6) (n := 1) rfl (Nat.succ_lt_succ (Nat.succ_lt_succ (Nat.succ_lt_succ (Nat.succ_lt_succ (Nat.succ_lt_succ (Nat.succ_lt_succ (Nat.zero_lt_succ _))))))) rfl (by decide)
theorem w186_122 : ma_W d 186 Q 122 l st H 0 0 = ma_W d 186 Q 81 l st H 0 0 := wp_goto 81 rfl (by decide)
theorem w186_125 : ma_W d 186 Q 125 (some (.ref i) :: l) st H 0 0 = ma_W d 186 Q 126 (some (.ref i) :: l) (.ref i :: st) H 0 0 := wp_aload_n (x := some i) rfl rfl
theorem w186_126 : ma_W d 186 Q 126 (o0 :: o1 :: o2 :: o3 :: o4 :: some (.int x) :: l) st H 0 0 = ma_W d 186 Q 128 (o0 :: o1 :: o2 :: o3 :: o4 :: some (.int x) :: l) (.int x :: st) H 0 0 := wp_iload rfl rfl
theorem w186_128 : ma_W d 186 Q 128 l (.int x :: st) H 0 0 = ma_W d 186 Q 129 l (.long x.toInt64 :: st) H 0 0 := wp_i2l rfl
theorem w186_129 : ma_W d 186 Q 129 (o0 :: o1 :: o2 :: o3 :: some (.int x) :: l) st H 0 0 = ma_W d 186 Q 131 (o0 :: o1 :: o2 :: o3 :: some (.int x) :: l) (.int x :: st) H 0 0 := wp_iload rfl rfl
theorem w186_131 : ma_W d 186 Q 131 l (.int x :: st) H 0 0 = ma_W d 186 Q 132 l (.long x.toInt64 :: st) H 0 0 := wp_i2l rfl
theorem w186_132 : ma_W d 186 Q 132 l (.long u1 :: .long u0 :: .ref i :: st) H 0 0 = (ma_cat st ≤ 8 ∧ ma_cv (H.1 i) 8 d 184 [.ref i, .long u0, .long u1] H (ma_kC d 186 Q 135 l st 0 0)) := wc_V0 (ia := 184) (n := 3) (cn := 8) rfl (by decide +kernel) (fun _ => rfl) rfl rfl
theorem w186_135 : ma_W d 186 Q 135 l [.int x] H 0 0 = Q (some (.int x)) H := wp_iret rfl rfl
theorem e186 : ma_MW (d + 1) 186 [.ref i, .int x0, .int x1] H Q = ma_W d 186 Q 0 [some (.ref i), some (.int x0), some (.int x1), none, none, none, none] [] H 0 0 := wp_enter (by decide) (Nat.le_of_ble_eq_true rfl) rfl
/-! 187 mo_evenings -/
theorem w187_0 : ma_W d 187 Q 0 (o0 :: some (.int x) :: l) st H 0 0 = ma_W d 187 Q 1 (o0 :: some (.int x) :: l) (.int x :: st) H 0 0 := wp_iload_n rfl rfl
theorem w187_1 : ma_W d 187 Q 1 l st H 0 0 = ma_W d 187 Q 2 l (.int 0 :: st) H 0 0 := wp_iconst rfl (by decide)
theorem w187_2 : ma_W d 187 Q 2 l st H 0 0 = ma_W d 187 Q 4 l (.int 999999 :: st) H 0 0 := wp_ldci rfl (by decide +kernel) (by decide +kernel)
theorem w187_4 : ma_W d 187 Q 4 l (.int x2 :: .int x1 :: .int x0 :: st) H 0 0 = (ma_cat st ≤ 8 ∧ ma_MW d 125 [.int x0, .int x1, .int x2] H (ma_kC d 187 Q 7 l st 0 0)) := wc_S0 (ia := 125) (n := 3) (cn := 8) (k := 1) rfl (by decide +kernel) (by decide) (fun _ => rfl) rfl rfl
theorem w187_7 : ma_W d 187 Q 7 l (.int x :: st) H 0 0 = ma_if (x = 0) d 187 Q 20 10 l st H 0 0 := wp_c0 (id := 187) (pc := 7) (c := .eq) (off := 13) 20 rfl (by decide)
theorem w187_10 : ma_W d 187 Q 10 (o0 :: o1 :: some (.int x) :: l) st H 0 0 = ma_W d 187 Q 11 (o0 :: o1 :: some (.int x) :: l) (.int x :: st) H 0 0 := wp_iload_n rfl rfl
theorem w187_11 : ma_W d 187 Q 11 l st H 0 0 = ma_W d 187 Q 12 l (.int 0 :: st) H 0 0 := wp_iconst rfl (by decide)
theorem w187_12 : ma_W d 187 Q 12 l st H 0 0 = ma_W d 187 Q 14 l (.int 30 :: st) H 0 0 := wp_bipush rfl (by decide)
theorem w187_14 : ma_W d 187 Q 14 l (.int x2 :: .int x1 :: .int x0 :: st) H 0 0 = (ma_cat st ≤ 8 ∧ ma_MW d 125 [.int x0, .int x1, .int x2] H (ma_kC d 187 Q 17 l st 0 0)) := wc_S0 (ia := 125) (n := 3) (cn := 8) (k := 1) rfl (by decide +kernel) (by decide) (fun _ => rfl) rfl rfl
theorem w187_17 : ma_W d 187 Q 17 l (.int x :: st) H 0 0 = ma_if (x = 0) d 187 Q 20 25 l st H 0 0 := wp_c0 (id := 187) (pc := 17) (c := .ne) (off := 8) 25 rfl (by decide)
theorem w187_20 : ma_W d 187 Q 20 (some (.ref i) :: l) st H 0 0 = ma_W d 187 Q 21 (some (.ref i) :: l) (.ref i :: st) H 0 0 := wp_aload_n (x := some i) rfl rfl
theorem w187_21 : ma_W d 187 Q 21 l (.ref i :: st) H 0 0 = (ma_cat st ≤ 8 ∧ ma_cv (H.1 i) 8 d 128 [.ref i] H (ma_kC d 187 Q 24 l st 0 0)) := wc_V0 (ia := 128) (n := 1) (cn := 8) rfl (by decide +kernel) (fun _ => rfl) rfl rfl
theorem w187_24 : ma_W d 187 Q 24 l [.int x] H 0 0 = Q (some (.int x)) H := wp_iret rfl rfl
theorem w187_25 : ma_W d 187 Q 25 (o0 :: some (.int x) :: l) st H 0 0 = ma_W d 187 Q 26 (o0 :: some (.int x) :: l) (.int x :: st) H 0 0 := wp_iload_n rfl rfl
theorem w187_26 : ma_W d 187 Q 26 l (.int x :: st) H 0 0 = ma_W d 187 Q 27 l (.long x.toInt64 :: st) H 0 0 := wp_i2l rfl
theorem w187_27 : ma_W d 187 Q 27 (o0 :: o1 :: o2 :: p :: q :: l) (.long u :: st) H 0 0 = ma_W d 187 Q 28 (o0 :: o1 :: ma_clr o2 :: some (.long u) :: none :: l) st H 0 0 := wp_lstore_n (id := 187) (pc := 27) (k := 3) rfl (Nat.succ_lt_succ (Nat.succ_lt_succ (Nat.succ_lt_succ (Nat.succ_lt_succ (Nat.zero_lt_succ _)))))
theorem w187_28 : ma_W d 187 Q 28 l st H 0 0 = ma_W d 187 Q 29 l (.int 0 :: st) H 0 0 := wp_iconst rfl (by decide)
theorem w187_29 : ma_W d 187 Q 29 (o0 :: o1 :: o2 :: o3 :: o4 :: p :: l) (.int x :: st) H 0 0 = ma_W d 187 Q 31 (o0 :: o1 :: o2 :: o3 :: ma_clr o4 :: some (.int x) :: l) st H 0 0 := wp_istore (id := 187) (pc := 29) (k := 5) rfl (Nat.succ_lt_succ (Nat.succ_lt_succ (Nat.succ_lt_succ (Nat.succ_lt_succ (Nat.succ_lt_succ (Nat.zero_lt_succ _))))))
theorem w187_31 : ma_W d 187 Q 31 l st H 0 0 = ma_W d 187 Q 32 l (.int 0 :: st) H 0 0 := wp_iconst rfl (by decide)
theorem w187_32 : ma_W d 187 Q 32 (o0 :: o1 :: o2 :: o3 :: o4 :: o5 :: p :: l) (.int x :: st) H 0 0 = ma_W d 187 Q 34 (o0 :: o1 :: o2 :: o3 :: o4 :: ma_clr o5 :: some (.int x) :: l) st H 0 0 := wp_istore (id := 187) (pc := 32) (k := 6) rfl (Nat.succ_lt_succ (Nat.succ_lt_succ (Nat.succ_lt_succ (Nat.succ_lt_succ (Nat.succ_lt_succ (Nat.succ_lt_succ (Nat.zero_lt_succ _)))))))
theorem w187_34 : ma_W d 187 Q 34 (o0 :: o1 :: o2 :: o3 :: o4 :: o5 :: some (.int x) :: l) st H 0 0 = ma_W d 187 Q 36 (o0 :: o1 :: o2 :: o3 :: o4 :: o5 :: some (.int x) :: l) (.int x :: st) H 0 0 := wp_iload rfl rfl
theorem w187_36 : ma_W d 187 Q 36 (o0 :: o1 :: some (.int x) :: l) st H 0 0 = ma_W d 187 Q 37 (o0 :: o1 :: some (.int x) :: l) (.int x :: st) H 0 0 := wp_iload_n rfl rfl
theorem w187_37 : ma_W d 187 Q 37 l (.int y :: .int x :: st) H 0 0 = ma_if (y ≤ x) d 187 Q 143 40 l st H 0 0 := wp_ic (id := 187) (pc := 37) (c := .ge) (off := 106) 143 rfl (by decide)
theorem w187_40 : ma_W d 187 Q 40 (o0 :: o1 :: o2 :: some (.long u) :: l) st H 0 0 = ma_W d 187 Q 41 (o0 :: o1 :: o2 :: some (.long u) :: l) (.long u :: st) H 0 0 := wp_lload_n rfl rfl
theorem w187_41 : ma_W d 187 Q 41 l st H 0 0 = ma_W d 187 Q 44 l (.long 1103515245 :: st) H 0 0 := wp_ldc2 rfl (by decide +kernel)
theorem w187_44 : ma_W d 187 Q 44 l (.long v :: .long u :: st) H 0 0 = ma_W d 187 Q 45 l (.long (u * v) :: st) H 0 0 := wp_lmul rfl
theorem w187_45 : ma_W d 187 Q 45 l st H 0 0 = ma_W d 187 Q 48 l (.long 12345 :: st) H 0 0 := wp_ldc2 rfl (by decide +kernel)
theorem w187_48 : ma_W d 187 Q 48 l (.long v :: .long u :: st) H 0 0 = ma_W d 187 Q 49 l (.long (u + v) :: st) H 0 0 := wp_ladd rfl
theorem w187_49 : ma_W d 187 Q 49 l st H 0 0 = ma_W d 187 Q 52 l (.long 2147483648 :: st) H 0 0 := wp_ldc2 rfl (by decide +kernel)
theorem w187_52 : ma_W d 187 Q 52 l (.long v :: .long u :: st) H 0 0 = (¬ v = 0 ∧ ma_W d 187 Q 53 l (.long (ma_rml u v) :: st) H 0 0) := wp_lrem rfl
theorem w187_53 : ma_W d 187 Q 53 (o0 :: o1 :: o2 :: p :: q :: l) (.long u :: st) H 0 0 = ma_W d 187 Q 54 (o0 :: o1 :: ma_clr o2 :: some (.long u) :: none :: l) st H 0 0 := wp_lstore_n (id := 187) (pc := 53) (k := 3) rfl (Nat.succ_lt_succ (Nat.succ_lt_succ (Nat.succ_lt_succ (Nat.succ_lt_succ (Nat.zero_lt_succ _)))))
theorem w187_54 : ma_W d 187 Q 54 (some (.ref i) :: l) st H 0 0 = ma_W d 187 Q 55 (some (.ref i) :: l) (.ref i :: st) H 0 0 := wp_aload_n (x := some i) rfl rfl
theorem w187_55 : ma_W d 187 Q 55 l (.ref i :: st) H 0 0 = (ma_cat st ≤ 8 ∧ ma_cv (H.1 i) 8 d 160 [.ref i] H (ma_kC d 187 Q 58 l st 0 0)) := wc_V0 (ia := 160) (n := 1) (cn := 8) rfl (by decide +kernel) (fun _ => rfl) rfl rfl
theorem w187_58 : ma_W d 187 Q 58 (some (.ref i) :: l) st H 0 0 = ma_W d 187 Q 59 (some (.ref i) :: l) (.ref i :: st) H 0 0 := wp_aload_n (x := some i) rfl rfl
theorem w187_59 : ma_W d 187 Q 59 l (.ref i :: st) H 0 0 = ma_gf (H.1 i) 8 0 (ma_kV d 187 Q 62 l st H 0 0) := wp_get rfl (by decide +kernel)
theorem w187_62 : ma_W d 187 Q 62 l st H 0 0 = ma_W d 187 Q 64 l (.int 7 :: st) H 0 0 := wp_bipush rfl (by decide)
theorem w187_64 : ma_W d 187 Q 64 l (.int x :: .ref i :: st) H 0 0 = ma_ial (H.1 i) x (ma_kV d 187 Q 65 l st H 0 0) := wp_iald rfl
theorem w187_65 : ma_W d 187 Q 65 l (.int x :: st) H 0 0 = ma_if (x ≤ 0) d 187 Q 88 68 l st H 0 0 := wp_c0 (id := 187) (pc := 65) (c := .le) (off := 23) 88 rfl (by decide)
theorem w187_68 : ma_W d 187 Q 68 (some (.ref i) :: l) st H 0 0 = ma_W d 187 Q 69 (some (.ref i) :: l) (.ref i :: st) H 0 0 := wp_aload_n (x := some i) rfl rfl
theorem w187_69 : ma_W d 187 Q 69 l st H 0 0 = ma_W d 187 Q 70 l (.int 0 :: st) H 0 0 := wp_iconst rfl (by decide)
theorem w187_70 : ma_W d 187 Q 70 (o0 :: o1 :: o2 :: some (.long u) :: l) st H 0 0 = ma_W d 187 Q 71 (o0 :: o1 :: o2 :: some (.long u) :: l) (.long u :: st) H 0 0 := wp_lload_n rfl rfl
theorem w187_71 : ma_W d 187 Q 71 l st H 0 0 = ma_W d 187 Q 74 l (.long 65536 :: st) H 0 0 := wp_ldc2 rfl (by decide +kernel)
theorem w187_74 : ma_W d 187 Q 74 l (.long v :: .long u :: st) H 0 0 = (¬ v = 0 ∧ ma_W d 187 Q 75 l (.long (u / v) :: st) H 0 0) := wp_ldiv rfl
theorem w187_75 : ma_W d 187 Q 75 (some (.ref i) :: l) st H 0 0 = ma_W d 187 Q 76 (some (.ref i) :: l) (.ref i :: st) H 0 0 := wp_aload_n (x := some i) rfl rfl
theorem w187_76 : ma_W d 187 Q 76 l (.ref i :: st) H 0 0 = ma_gf (H.1 i) 8 0 (ma_kV d 187 Q 79 l st H 0 0) := wp_get rfl (by decide +kernel)
theorem w187_79 : ma_W d 187 Q 79 l st H 0 0 = ma_W d 187 Q 81 l (.int 7 :: st) H 0 0 := wp_bipush rfl (by decide)
theorem w187_81 : ma_W d 187 Q 81 l (.int x :: .ref i :: st) H 0 0 = ma_ial (H.1 i) x (ma_kV d 187 Q 82 l st H 0 0) := wp_iald rfl
theorem w187_82 : ma_W d 187 Q 82 l (.int x :: st) H 0 0 = ma_W d 187 Q 83 l (.long x.toInt64 :: st) H 0 0 := wp_i2l rfl
theorem w187_83 : ma_W d 187 Q 83 l (.long v :: .long u :: st) H 0 0 = (¬ v = 0 ∧ ma_W d 187 Q 84 l (.long (ma_rml u v) :: st) H 0 0) := wp_lrem rfl
theorem w187_84 : ma_W d 187 Q 84 l (.long u :: st) H 0 0 = ma_W d 187 Q 85 l (.int u.toInt32 :: st) H 0 0 := wp_l2i rfl
theorem w187_85 : ma_W d 187 Q 85 l (.int x1 :: .int x0 :: .ref i :: st) H 0 0 = (ma_cat st ≤ 8 ∧ ma_cv (H.1 i) 8 d 170 [.ref i, .int x0, .int x1] H (ma_kC d 187 Q 88 l st 0 0)) := wc_V0 (ia := 170) (n := 3) (cn := 8) rfl (by decide +kernel) (fun _ => rfl) rfl rfl
theorem w187_88 : ma_W d 187 Q 88 (some (.ref i) :: l) st H 0 0 = ma_W d 187 Q 89 (some (.ref i) :: l) (.ref i :: st) H 0 0 := wp_aload_n (x := some i) rfl rfl
theorem w187_89 : ma_W d 187 Q 89 l (.ref i :: st) H 0 0 = ma_gf (H.1 i) 8 0 (ma_kV d 187 Q 92 l st H 0 0) := wp_get rfl (by decide +kernel)
theorem w187_92 : ma_W d 187 Q 92 l st H 0 0 = ma_W d 187 Q 94 l (.int 8 :: st) H 0 0 := wp_bipush rfl (by decide)
theorem w187_94 : ma_W d 187 Q 94 l (.int x :: .ref i :: st) H 0 0 = ma_ial (H.1 i) x (ma_kV d 187 Q 95 l st H 0 0) := wp_iald rfl
theorem w187_95 : ma_W d 187 Q 95 l (.int x :: st) H 0 0 = ma_if (x ≤ 0) d 187 Q 118 98 l st H 0 0 := wp_c0 (id := 187) (pc := 95) (c := .le) (off := 23) 118 rfl (by decide)
theorem w187_98 : ma_W d 187 Q 98 (some (.ref i) :: l) st H 0 0 = ma_W d 187 Q 99 (some (.ref i) :: l) (.ref i :: st) H 0 0 := wp_aload_n (x := some i) rfl rfl
theorem w187_99 : ma_W d 187 Q 99 l st H 0 0 = ma_W d 187 Q 100 l (.int 1 :: st) H 0 0 := wp_iconst rfl (by decide)
theorem w187_100 : ma_W d 187 Q 100 (o0 :: o1 :: o2 :: some (.long u) :: l) st H 0 0 = ma_W d 187 Q 101 (o0 :: o1 :: o2 :: some (.long u) :: l) (.long u :: st) H 0 0 := wp_lload_n rfl rfl
theorem w187_101 : ma_W d 187 Q 101 l st H 0 0 = ma_W d 187 Q 104 l (.long 1048576 :: st) H 0 0 := wp_ldc2 rfl (by decide +kernel)
theorem w187_104 : ma_W d 187 Q 104 l (.long v :: .long u :: st) H 0 0 = (¬ v = 0 ∧ ma_W d 187 Q 105 l (.long (u / v) :: st) H 0 0) := wp_ldiv rfl
theorem w187_105 : ma_W d 187 Q 105 (some (.ref i) :: l) st H 0 0 = ma_W d 187 Q 106 (some (.ref i) :: l) (.ref i :: st) H 0 0 := wp_aload_n (x := some i) rfl rfl
theorem w187_106 : ma_W d 187 Q 106 l (.ref i :: st) H 0 0 = ma_gf (H.1 i) 8 0 (ma_kV d 187 Q 109 l st H 0 0) := wp_get rfl (by decide +kernel)
theorem w187_109 : ma_W d 187 Q 109 l st H 0 0 = ma_W d 187 Q 111 l (.int 8 :: st) H 0 0 := wp_bipush rfl (by decide)
theorem w187_111 : ma_W d 187 Q 111 l (.int x :: .ref i :: st) H 0 0 = ma_ial (H.1 i) x (ma_kV d 187 Q 112 l st H 0 0) := wp_iald rfl
theorem w187_112 : ma_W d 187 Q 112 l (.int x :: st) H 0 0 = ma_W d 187 Q 113 l (.long x.toInt64 :: st) H 0 0 := wp_i2l rfl
theorem w187_113 : ma_W d 187 Q 113 l (.long v :: .long u :: st) H 0 0 = (¬ v = 0 ∧ ma_W d 187 Q 114 l (.long (ma_rml u v) :: st) H 0 0) := wp_lrem rfl
theorem w187_114 : ma_W d 187 Q 114 l (.long u :: st) H 0 0 = ma_W d 187 Q 115 l (.int u.toInt32 :: st) H 0 0 := wp_l2i rfl
theorem w187_115 : ma_W d 187 Q 115 l (.int x1 :: .int x0 :: .ref i :: st) H 0 0 = (ma_cat st ≤ 8 ∧ ma_cv (H.1 i) 8 d 170 [.ref i, .int x0, .int x1] H (ma_kC d 187 Q 118 l st 0 0)) := wc_V0 (ia := 170) (n := 3) (cn := 8) rfl (by decide +kernel) (fun _ => rfl) rfl rfl
theorem w187_118 : ma_W d 187 Q 118 (o0 :: o1 :: o2 :: o3 :: o4 :: some (.int x) :: l) st H 0 0 = ma_W d 187 Q 120 (o0 :: o1 :: o2 :: o3 :: o4 :: some (.int x) :: l) (.int x :: st) H 0 0 := wp_iload rfl rfl
theorem w187_120 : ma_W d 187 Q 120 (some (.ref i) :: l) st H 0 0 = ma_W d 187 Q 121 (some (.ref i) :: l) (.ref i :: st) H 0 0 := wp_aload_n (x := some i) rfl rfl
theorem w187_121 : ma_W d 187 Q 121 l st H 0 0 = ma_W d 187 Q 122 l (.int 0 :: st) H 0 0 := wp_iconst rfl (by decide)
theorem w187_122 : ma_W d 187 Q 122 l (.int x0 :: .ref i :: st) H 0 0 = (ma_cat st ≤ 8 ∧ ma_cv (H.1 i) 8 d 163 [.ref i, .int x0] H (ma_kC d 187 Q 125 l st 0 0)) := wc_V0 (ia := 163) (n := 2) (cn := 8) rfl (by decide +kernel) (fun _ => rfl) rfl rfl
theorem w187_125 : ma_W d 187 Q 125 l st H 0 0 = ma_W d 187 Q 126 l (.int (-1) :: st) H 0 0 := wp_iconst rfl (by decide)
theorem w187_126 : ma_W d 187 Q 126 l (.int y :: .int x :: st) H 0 0 = ma_if (x = y) d 187 Q 129 133 l st H 0 0 := wp_ic (id := 187) (pc := 126) (c := .ne) (off := 7) 133 rfl (by decide)
theorem w187_129 : ma_W d 187 Q 129 l st H 0 0 = ma_W d 187 Q 130 l (.int 0 :: st) H 0 0 := wp_iconst rfl (by decide)
theorem w187_130 : ma_W d 187 Q 130 l st H 0 0 = ma_W d 187 Q 134 l st H 0 0 := wp_goto 134 rfl (by decide)
theorem w187_133 : ma_W d 187 Q 133 l st H 0 0 = ma_W d 187 Q 134 l (.int 1 :: st) H 0 0 := wp_iconst rfl (by decide)
theorem w187_134 : ma_W d 187 Q 134 l (.int y :: .int x :: st) H 0 0 = ma_W d 187 Q 135 l (.int (x + y) :: st) H 0 0 := wp_iadd rfl
theorem w187_135 : ma_W d 187 Q 135 (o0 :: o1 :: o2 :: o3 :: o4 :: p :: l) (.int x :: st) H 0 0 = ma_W d 187 Q 137 (o0 :: o1 :: o2 :: o3 :: ma_clr o4 :: some (.int x) :: l) st H 0 0 := wp_istore (id := 187) (pc := 135) (k := 5) rfl (Nat.succ_lt_succ (Nat.succ_lt_succ (Nat.succ_lt_succ (Nat.succ_lt_succ (Nat.succ_lt_succ (Nat.zero_lt_succ _))))))
theorem w187_137 : ma_W d 187 Q 137 (o0 :: o1 :: o2 :: o3 :: o4 :: o5 :: some (.int x) :: l) st H 0 0 = ma_W d 187 Q 140 (o0 :: o1 :: o2 :: o3 :: o4 :: ma_clr o5 :: some (.int (x + 1)) :: l) st H 0 0 := wp_iinc (id := 187) (pc := 137) (k := 6) (n := 1) rfl (Nat.succ_lt_succ (Nat.succ_lt_succ (Nat.succ_lt_succ (Nat.succ_lt_succ (Nat.succ_lt_succ (Nat.succ_lt_succ (Nat.zero_lt_succ _))))))) rfl (by decide)
theorem w187_140 : ma_W d 187 Q 140 l st H 0 0 = ma_W d 187 Q 34 l st H 0 0 := wp_goto 34 rfl (by decide)
theorem w187_143 : ma_W d 187 Q 143 (o0 :: o1 :: o2 :: o3 :: o4 :: some (.int x) :: l) st H 0 0 = ma_W d 187 Q 145 (o0 :: o1 :: o2 :: o3 :: o4 :: some (.int x) :: l) (.int x :: st) H 0 0 := wp_iload rfl rfl
theorem w187_145 : ma_W d 187 Q 145 l [.int x] H 0 0 = Q (some (.int x)) H := wp_iret rfl rfl
theorem e187 : ma_MW (d + 1) 187 [.ref i, .int x0, .int x1] H Q = ma_W d 187 Q 0 [some (.ref i), some (.int x0), some (.int x1), none, none, none, none] [] H 0 0 := wp_enter (by decide) (Nat.le_of_ble_eq_true rfl) rfl
/-! 188 mo_part -/
theorem w188_0 : ma_W d 188 Q 0 (o0 :: some (.int x) :: l) st H 0 0 = ma_W d 188 Q 1 (o0 :: some (.int x) :: l) (.int x :: st) H 0 0 := wp_iload_n rfl rfl
theorem w188_1 : ma_W d 188 Q 1 l (.int x :: st) H 0 0 = ma_if (x = 0) d 188 Q 4 11 l st H 0 0 := wp_c0 (id := 188) (pc := 1) (c := .ne) (off := 10) 11 rfl (by decide)
theorem w188_4 : ma_W d 188 Q 4 (some (.ref i) :: l) st H 0 0 = ma_W d 188 Q 5 (some (.ref i) :: l) (.ref i :: st) H 0 0 := wp_aload_n (x := some i) rfl rfl
theorem w188_5 : ma_W d 188 Q 5 l (.ref i :: st) H 0 0 = ma_gf (H.1 i) 8 5 (ma_kV d 188 Q 8 l st H 0 0) := wp_get rfl (by decide +kernel)
theorem w188_8 : ma_W d 188 Q 8 l st H 0 0 = ma_W d 188 Q 28 l st H 0 0 := wp_goto 28 rfl (by decide)
theorem w188_11 : ma_W d 188 Q 11 (o0 :: some (.int x) :: l) st H 0 0 = ma_W d 188 Q 12 (o0 :: some (.int x) :: l) (.int x :: st) H 0 0 := wp_iload_n rfl rfl
theorem w188_12 : ma_W d 188 Q 12 l st H 0 0 = ma_W d 188 Q 13 l (.int 1 :: st) H 0 0 := wp_iconst rfl (by decide)
theorem w188_13 : ma_W d 188 Q 13 l (.int y :: .int x :: st) H 0 0 = ma_if (x = y) d 188 Q 16 23 l st H 0 0 := wp_ic (id := 188) (pc := 13) (c := .ne) (off := 10) 23 rfl (by decide)
theorem w188_16 : ma_W d 188 Q 16 (some (.ref i) :: l) st H 0 0 = ma_W d 188 Q 17 (some (.ref i) :: l) (.ref i :: st) H 0 0 := wp_aload_n (x := some i) rfl rfl
theorem w188_17 : ma_W d 188 Q 17 l (.ref i :: st) H 0 0 = ma_gf (H.1 i) 8 6 (ma_kV d 188 Q 20 l st H 0 0) := wp_get rfl (by decide +kernel)
theorem w188_20 : ma_W d 188 Q 20 l st H 0 0 = ma_W d 188 Q 28 l st H 0 0 := wp_goto 28 rfl (by decide)
theorem w188_23 : ma_W d 188 Q 23 (some (.ref i) :: l) st H 0 0 = ma_W d 188 Q 24 (some (.ref i) :: l) (.ref i :: st) H 0 0 := wp_aload_n (x := some i) rfl rfl
theorem w188_24 : ma_W d 188 Q 24 l (.ref i :: st) H 0 0 = (ma_cat st ≤ 8 ∧ ma_cv (H.1 i) 8 d 128 [.ref i] H (ma_kC d 188 Q 27 l st 0 0)) := wc_V0 (ia := 128) (n := 1) (cn := 8) rfl (by decide +kernel) (fun _ => rfl) rfl rfl
theorem w188_27 : ma_W d 188 Q 27 l (.int x :: st) H 0 0 = ma_W d 188 Q 28 l (.long x.toInt64 :: st) H 0 0 := wp_i2l rfl
theorem w188_28 : ma_W d 188 Q 28 l [.long u] H 0 0 = Q (some (.long u)) H := wp_lret rfl rfl
theorem e188 : ma_MW (d + 1) 188 [.ref i, .int x0] H Q = ma_W d 188 Q 0 [some (.ref i), some (.int x0)] [] H 0 0 := wp_enter (by decide) (Nat.le_of_ble_eq_true rfl) rfl
/-! 189 mo_image -/
theorem w189_0 : ma_W d 189 Q 0 (o0 :: some (.int x) :: l) st H 0 0 = ma_W d 189 Q 1 (o0 :: some (.int x) :: l) (.int x :: st) H 0 0 := wp_iload_n rfl rfl
theorem w189_1 : ma_W d 189 Q 1 l st H 0 0 = ma_W d 189 Q 2 l (.int 0 :: st) H 0 0 := wp_iconst rfl (by decide)
theorem w189_2 : ma_W d 189 Q 2 l st H 0 0 = ma_W d 189 Q 3 l (.int 1 :: st) H 0 0 := wp_iconst rfl (by decide)
theorem w189_3 : ma_W d 189 Q 3 l (.int x2 :: .int x1 :: .int x0 :: st) H 0 0 = (ma_cat st ≤ 8 ∧ ma_MW d 125 [.int x0, .int x1, .int x2] H (ma_kC d 189 Q 6 l st 0 0)) := wc_S0 (ia := 125) (n := 3) (cn := 8) (k := 1) rfl (by decide +kernel) (by decide) (fun _ => rfl) rfl rfl
theorem w189_6 : ma_W d 189 Q 6 l (.int x :: st) H 0 0 = ma_if (x = 0) d 189 Q 9 14 l st H 0 0 := wp_c0 (id := 189) (pc := 6) (c := .ne) (off := 8) 14 rfl (by decide)
theorem w189_9 : ma_W d 189 Q 9 (some (.ref i) :: l) st H 0 0 = ma_W d 189 Q 10 (some (.ref i) :: l) (.ref i :: st) H 0 0 := wp_aload_n (x := some i) rfl rfl
theorem w189_10 : ma_W d 189 Q 10 l (.ref i :: st) H 0 0 = (ma_cat st ≤ 8 ∧ ma_cv (H.1 i) 8 d 128 [.ref i] H (ma_kC d 189 Q 13 l st 0 0)) := wc_V0 (ia := 128) (n := 1) (cn := 8) rfl (by decide +kernel) (fun _ => rfl) rfl rfl
theorem w189_13 : ma_W d 189 Q 13 l [.int x] H 0 0 = Q (some (.int x)) H := wp_iret rfl rfl
theorem w189_14 : ma_W d 189 Q 14 (some (.ref i) :: l) st H 0 0 = ma_W d 189 Q 15 (some (.ref i) :: l) (.ref i :: st) H 0 0 := wp_aload_n (x := some i) rfl rfl
theorem w189_15 : ma_W d 189 Q 15 l (.ref i :: st) H 0 0 = ma_gf (H.1 i) 8 0 (ma_kV d 189 Q 18 l st H 0 0) := wp_get rfl (by decide +kernel)
theorem w189_18 : ma_W d 189 Q 18 l st H 0 0 = ma_W d 189 Q 19 l (.int 0 :: st) H 0 0 := wp_iconst rfl (by decide)
theorem w189_19 : ma_W d 189 Q 19 (some (.ref i) :: l) st H 0 0 = ma_W d 189 Q 20 (some (.ref i) :: l) (.ref i :: st) H 0 0 := wp_aload_n (x := some i) rfl rfl
theorem w189_20 : ma_W d 189 Q 20 l (.ref i :: st) H 0 0 = ma_gf (H.1 i) 8 2 (ma_kV d 189 Q 23 l st H 0 0) := wp_get rfl (by decide +kernel)
theorem w189_23 : ma_W d 189 Q 23 l st H 0 0 = ma_W d 189 Q 26 l (.int 545 :: st) H 0 0 := wp_sipush rfl (by decide)
theorem w189_26 : ma_W d 189 Q 26 (o0 :: some (.int x) :: l) st H 0 0 = ma_W d 189 Q 27 (o0 :: some (.int x) :: l) (.int x :: st) H 0 0 := wp_iload_n rfl rfl
theorem w189_27 : ma_W d 189 Q 27 l (.int y :: .int x :: st) H 0 0 = ma_W d 189 Q 28 l (.int (x * y) :: st) H 0 0 := wp_imul rfl
theorem w189_28 : ma_W d 189 Q 28 l st H 0 0 = ma_W d 189 Q 31 l (.int 545 :: st) H 0 0 := wp_sipush rfl (by decide)
theorem w189_31 : ma_W d 189 Q 31 l (.int x4 :: .int x3 :: .ref i2 :: .int x1 :: .ref i0 :: st) H 0 0 = (ma_cat st ≤ 8 ∧ ma_MW d 131 [.ref i0, .int x1, .ref i2, .int x3, .int x4] H (ma_kC d 189 Q 34 l st 0 0)) := wc_S0 (ia := 131) (n := 5) (cn := 8) (k := 1) rfl (by decide +kernel) (by decide) (fun _ => rfl) rfl rfl
theorem w189_34 : ma_W d 189 Q 34 (some (.ref i) :: l) st H 0 0 = ma_W d 189 Q 35 (some (.ref i) :: l) (.ref i :: st) H 0 0 := wp_aload_n (x := some i) rfl rfl
theorem w189_35 : ma_W d 189 Q 35 l (.ref i :: st) H 0 0 = ma_gf (H.1 i) 8 3 (ma_kV d 189 Q 38 l st H 0 0) := wp_get rfl (by decide +kernel)
theorem w189_38 : ma_W d 189 Q 38 (o0 :: some (.int x) :: l) st H 0 0 = ma_W d 189 Q 39 (o0 :: some (.int x) :: l) (.int x :: st) H 0 0 := wp_iload_n rfl rfl
theorem w189_39 : ma_W d 189 Q 39 l st H 0 0 = ma_W d 189 Q 40 l (.int 1 :: st) H 0 0 := wp_iconst rfl (by decide)
theorem w189_40 : ma_W d 189 Q 40 l (.int y :: .int x :: .ref i :: st) H 0 0 = (4 ≤ i ∧ ma_bas (H.1 i) x y (ma_kH d 189 Q 41 l st H i 0 0)) := wp_bast rfl
theorem w189_41 : ma_W d 189 Q 41 l st H 0 0 = ma_W d 189 Q 42 l (.int 1 :: st) H 0 0 := wp_iconst rfl (by decide)
theorem w189_42 : ma_W d 189 Q 42 l [.int x] H 0 0 = Q (some (.int x)) H := wp_iret rfl rfl
theorem e189 : ma_MW (d + 1) 189 [.ref i, .int x0] H Q = ma_W d 189 Q 0 [some (.ref i), some (.int x0)] [] H 0 0 := wp_enter (by decide) (Nat.le_of_ble_eq_true rfl) rfl
/-! 190 mo_from -/
theorem w190_0 : ma_W d 190 Q 0 (o0 :: some (.int x) :: l) st H 0 0 = ma_W d 190 Q 1 (o0 :: some (.int x) :: l) (.int x :: st) H 0 0 := wp_iload_n rfl rfl
theorem w190_1 : ma_W d 190 Q 1 l st H 0 0 = ma_W d 190 Q 2 l (.int 0 :: st) H 0 0 := wp_iconst rfl (by decide)
theorem w190_2 : ma_W d 190 Q 2 l st H 0 0 = ma_W d 190 Q 3 l (.int 1 :: st) H 0 0 := wp_iconst rfl (by decide)
theorem w190_3 : ma_W d 190 Q 3 l (.int x2 :: .int x1 :: .int x0 :: st) H 0 0 = (ma_cat st ≤ 8 ∧ ma_MW d 125 [.int x0, .int x1, .int x2] H (ma_kC d 190 Q 6 l st 0 0)) := wc_S0 (ia := 125) (n := 3) (cn := 8) (k := 1) rfl (by decide +kernel) (by decide) (fun _ => rfl) rfl rfl
theorem w190_6 : ma_W d 190 Q 6 l (.int x :: st) H 0 0 = ma_if (x = 0) d 190 Q 9 14 l st H 0 0 := wp_c0 (id := 190) (pc := 6) (c := .ne) (off := 8) 14 rfl (by decide)
theorem w190_9 : ma_W d 190 Q 9 (some (.ref i) :: l) st H 0 0 = ma_W d 190 Q 10 (some (.ref i) :: l) (.ref i :: st) H 0 0 := wp_aload_n (x := some i) rfl rfl
theorem w190_10 : ma_W d 190 Q 10 l (.ref i :: st) H 0 0 = (ma_cat st ≤ 8 ∧ ma_cv (H.1 i) 8 d 128 [.ref i] H (ma_kC d 190 Q 13 l st 0 0)) := wc_V0 (ia := 128) (n := 1) (cn := 8) rfl (by decide +kernel) (fun _ => rfl) rfl rfl
theorem w190_13 : ma_W d 190 Q 13 l [.int x] H 0 0 = Q (some (.int x)) H := wp_iret rfl rfl
theorem w190_14 : ma_W d 190 Q 14 (some (.ref i) :: l) st H 0 0 = ma_W d 190 Q 15 (some (.ref i) :: l) (.ref i :: st) H 0 0 := wp_aload_n (x := some i) rfl rfl
theorem w190_15 : ma_W d 190 Q 15 l (.ref i :: st) H 0 0 = ma_gf (H.1 i) 8 3 (ma_kV d 190 Q 18 l st H 0 0) := wp_get rfl (by decide +kernel)
theorem w190_18 : ma_W d 190 Q 18 (o0 :: some (.int x) :: l) st H 0 0 = ma_W d 190 Q 19 (o0 :: some (.int x) :: l) (.int x :: st) H 0 0 := wp_iload_n rfl rfl
theorem w190_19 : ma_W d 190 Q 19 l (.int x :: .ref i :: st) H 0 0 = (4 ≤ i ∧ ma_bal (H.1 i) x (ma_kV d 190 Q 20 l st H 0 0)) := wp_bald rfl
theorem w190_20 : ma_W d 190 Q 20 l (.int x :: st) H 0 0 = ma_if (x = 0) d 190 Q 23 28 l st H 0 0 := wp_c0 (id := 190) (pc := 20) (c := .ne) (off := 8) 28 rfl (by decide)
theorem w190_23 : ma_W d 190 Q 23 (some (.ref i) :: l) st H 0 0 = ma_W d 190 Q 24 (some (.ref i) :: l) (.ref i :: st) H 0 0 := wp_aload_n (x := some i) rfl rfl
theorem w190_24 : ma_W d 190 Q 24 l (.ref i :: st) H 0 0 = (ma_cat st ≤ 8 ∧ ma_cv (H.1 i) 8 d 129 [.ref i] H (ma_kC d 190 Q 27 l st 0 0)) := wc_V0 (ia := 129) (n := 1) (cn := 8) rfl (by decide +kernel) (fun _ => rfl) rfl rfl
theorem w190_27 : ma_W d 190 Q 27 l [.int x] H 0 0 = Q (some (.int x)) H := wp_iret rfl rfl
theorem w190_28 : ma_W d 190 Q 28 (some (.ref i) :: l) st H 0 0 = ma_W d 190 Q 29 (some (.ref i) :: l) (.ref i :: st) H 0 0 := wp_aload_n (x := some i) rfl rfl
theorem w190_29 : ma_W d 190 Q 29 l (.ref i :: st) H 0 0 = ma_gf (H.1 i) 8 2 (ma_kV d 190 Q 32 l st H 0 0) := wp_get rfl (by decide +kernel)
theorem w190_32 : ma_W d 190 Q 32 l st H 0 0 = ma_W d 190 Q 35 l (.int 545 :: st) H 0 0 := wp_sipush rfl (by decide)
theorem w190_35 : ma_W d 190 Q 35 (o0 :: some (.int x) :: l) st H 0 0 = ma_W d 190 Q 36 (o0 :: some (.int x) :: l) (.int x :: st) H 0 0 := wp_iload_n rfl rfl
theorem w190_36 : ma_W d 190 Q 36 l (.int y :: .int x :: st) H 0 0 = ma_W d 190 Q 37 l (.int (x * y) :: st) H 0 0 := wp_imul rfl
theorem w190_37 : ma_W d 190 Q 37 (some (.ref i) :: l) st H 0 0 = ma_W d 190 Q 38 (some (.ref i) :: l) (.ref i :: st) H 0 0 := wp_aload_n (x := some i) rfl rfl
theorem w190_38 : ma_W d 190 Q 38 l (.ref i :: st) H 0 0 = ma_gf (H.1 i) 8 0 (ma_kV d 190 Q 41 l st H 0 0) := wp_get rfl (by decide +kernel)
theorem w190_41 : ma_W d 190 Q 41 l st H 0 0 = ma_W d 190 Q 42 l (.int 0 :: st) H 0 0 := wp_iconst rfl (by decide)
theorem w190_42 : ma_W d 190 Q 42 l st H 0 0 = ma_W d 190 Q 45 l (.int 545 :: st) H 0 0 := wp_sipush rfl (by decide)
theorem w190_45 : ma_W d 190 Q 45 l (.int x4 :: .int x3 :: .ref i2 :: .int x1 :: .ref i0 :: st) H 0 0 = (ma_cat st ≤ 8 ∧ ma_MW d 131 [.ref i0, .int x1, .ref i2, .int x3, .int x4] H (ma_kC d 190 Q 48 l st 0 0)) := wc_S0 (ia := 131) (n := 5) (cn := 8) (k := 1) rfl (by decide +kernel) (by decide) (fun _ => rfl) rfl rfl
theorem w190_48 : ma_W d 190 Q 48 l st H 0 0 = ma_W d 190 Q 49 l (.int 1 :: st) H 0 0 := wp_iconst rfl (by decide)
theorem w190_49 : ma_W d 190 Q 49 l [.int x] H 0 0 = Q (some (.int x)) H := wp_iret rfl rfl
theorem e190 : ma_MW (d + 1) 190 [.ref i, .int x0] H Q = ma_W d 190 Q 0 [some (.ref i), some (.int x0)] [] H 0 0 := wp_enter (by decide) (Nat.le_of_ble_eq_true rfl) rfl
/-! 191 mo_status -/
theorem w191_0 : ma_W d 191 Q 0 (o0 :: some (.int x) :: l) st H 0 0 = ma_W d 191 Q 1 (o0 :: some (.int x) :: l) (.int x :: st) H 0 0 := wp_iload_n rfl rfl
theorem w191_1 : ma_W d 191 Q 1 l st H 0 0 = ma_W d 191 Q 2 l (.int 0 :: st) H 0 0 := wp_iconst rfl (by decide)
theorem w191_2 : ma_W d 191 Q 2 l st H 0 0 = ma_W d 191 Q 3 l (.int 2 :: st) H 0 0 := wp_iconst rfl (by decide)
theorem w191_3 : ma_W d 191 Q 3 l (.int x2 :: .int x1 :: .int x0 :: st) H 0 0 = (ma_cat st ≤ 8 ∧ ma_MW d 125 [.int x0, .int x1, .int x2] H (ma_kC d 191 Q 6 l st 0 0)) := wc_S0 (ia := 125) (n := 3) (cn := 8) (k := 1) rfl (by decide +kernel) (by decide) (fun _ => rfl) rfl rfl
theorem w191_6 : ma_W d 191 Q 6 l (.int x :: st) H 0 0 = ma_if (x = 0) d 191 Q 18 9 l st H 0 0 := wp_c0 (id := 191) (pc := 6) (c := .eq) (off := 12) 18 rfl (by decide)
theorem w191_9 : ma_W d 191 Q 9 (some (.ref i) :: l) st H 0 0 = ma_W d 191 Q 10 (some (.ref i) :: l) (.ref i :: st) H 0 0 := wp_aload_n (x := some i) rfl rfl
theorem w191_10 : ma_W d 191 Q 10 l (.ref i :: st) H 0 0 = ma_gf (H.1 i) 8 4 (ma_kV d 191 Q 13 l st H 0 0) := wp_get rfl (by decide +kernel)
theorem w191_13 : ma_W d 191 Q 13 (o0 :: some (.int x) :: l) st H 0 0 = ma_W d 191 Q 14 (o0 :: some (.int x) :: l) (.int x :: st) H 0 0 := wp_iload_n rfl rfl
theorem w191_14 : ma_W d 191 Q 14 l (.int x :: .ref i :: st) H 0 0 = ma_ial (H.1 i) x (ma_kV d 191 Q 15 l st H 0 0) := wp_iald rfl
theorem w191_15 : ma_W d 191 Q 15 l st H 0 0 = ma_W d 191 Q 23 l st H 0 0 := wp_goto 23 rfl (by decide)
theorem w191_18 : ma_W d 191 Q 18 (some (.ref i) :: l) st H 0 0 = ma_W d 191 Q 19 (some (.ref i) :: l) (.ref i :: st) H 0 0 := wp_aload_n (x := some i) rfl rfl
theorem w191_19 : ma_W d 191 Q 19 l st H 0 0 = ma_W d 191 Q 20 l (.int (-1) :: st) H 0 0 := wp_iconst rfl (by decide)
theorem w191_20 : ma_W d 191 Q 20 l (.int x0 :: .ref i :: st) H 0 0 = (ma_cat st ≤ 8 ∧ ma_cv (H.1 i) 8 d 127 [.ref i, .int x0] H (ma_kC d 191 Q 23 l st 0 0)) := wc_V0 (ia := 127) (n := 2) (cn := 8) rfl (by decide +kernel) (fun _ => rfl) rfl rfl
theorem w191_23 : ma_W d 191 Q 23 l [.int x] H 0 0 = Q (some (.int x)) H := wp_iret rfl rfl
theorem e191 : ma_MW (d + 1) 191 [.ref i, .int x0] H Q = ma_W d 191 Q 0 [some (.ref i), some (.int x0)] [] H 0 0 := wp_enter (by decide) (Nat.le_of_ble_eq_true rfl) rfl
/-! 192 mo_counted -/
theorem w192_0 : ma_W d 192 Q 0 (o0 :: some (.int x) :: l) st H 0 0 = ma_W d 192 Q 1 (o0 :: some (.int x) :: l) (.int x :: st) H 0 0 := wp_iload_n rfl rfl
theorem w192_1 : ma_W d 192 Q 1 l st H 0 0 = ma_W d 192 Q 2 l (.int 3 :: st) H 0 0 := wp_iconst rfl (by decide)
theorem w192_2 : ma_W d 192 Q 2 l (.int y :: .int x :: st) H 0 0 = ma_if (y ≤ x) d 192 Q 15 5 l st H 0 0 := wp_ic (id := 192) (pc := 2) (c := .ge) (off := 13) 15 rfl (by decide)
theorem w192_5 : ma_W d 192 Q 5 (some (.ref i) :: l) st H 0 0 = ma_W d 192 Q 6 (some (.ref i) :: l) (.ref i :: st) H 0 0 := wp_aload_n (x := some i) rfl rfl
theorem w192_6 : ma_W d 192 Q 6 l (.ref i :: st) H 0 0 = ma_gf (H.1 i) 8 0 (ma_kV d 192 Q 9 l st H 0 0) := wp_get rfl (by decide +kernel)
theorem w192_9 : ma_W d 192 Q 9 l st H 0 0 = ma_W d 192 Q 11 l (.int 7 :: st) H 0 0 := wp_bipush rfl (by decide)
theorem w192_11 : ma_W d 192 Q 11 (o0 :: some (.int x) :: l) st H 0 0 = ma_W d 192 Q 12 (o0 :: some (.int x) :: l) (.int x :: st) H 0 0 := wp_iload_n rfl rfl
theorem w192_12 : ma_W d 192 Q 12 l (.int y :: .int x :: st) H 0 0 = ma_W d 192 Q 13 l (.int (x + y) :: st) H 0 0 := wp_iadd rfl
theorem w192_13 : ma_W d 192 Q 13 l (.int x :: .ref i :: st) H 0 0 = ma_ial (H.1 i) x (ma_kV d 192 Q 14 l st H 0 0) := wp_iald rfl
theorem w192_14 : ma_W d 192 Q 14 l [.int x] H 0 0 = Q (some (.int x)) H := wp_iret rfl rfl
theorem w192_15 : ma_W d 192 Q 15 (o0 :: some (.int x) :: l) st H 0 0 = ma_W d 192 Q 16 (o0 :: some (.int x) :: l) (.int x :: st) H 0 0 := wp_iload_n rfl rfl
theorem w192_16 : ma_W d 192 Q 16 l (.int x :: st) H 0 0 = ma_sw x 3 [72, 79, 86, 93, 93, 105, 105, 117, 125, 133] 141 d 192 Q l st H 0 0 := wp_switch _ _ rfl (by decide) (by decide +kernel) (by decide)
theorem w192_72 : ma_W d 192 Q 72 (some (.ref i) :: l) st H 0 0 = ma_W d 192 Q 73 (some (.ref i) :: l) (.ref i :: st) H 0 0 := wp_aload_n (x := some i) rfl rfl
theorem w192_73 : ma_W d 192 Q 73 l (.ref i :: st) H 0 0 = ma_gf (H.1 i) 8 0 (ma_kV d 192 Q 76 l st H 0 0) := wp_get rfl (by decide +kernel)
theorem w192_76 : ma_W d 192 Q 76 l st H 0 0 = ma_W d 192 Q 77 l (.int 2 :: st) H 0 0 := wp_iconst rfl (by decide)
theorem w192_77 : ma_W d 192 Q 77 l (.int x :: .ref i :: st) H 0 0 = ma_ial (H.1 i) x (ma_kV d 192 Q 78 l st H 0 0) := wp_iald rfl
theorem w192_78 : ma_W d 192 Q 78 l [.int x] H 0 0 = Q (some (.int x)) H := wp_iret rfl rfl
theorem w192_79 : ma_W d 192 Q 79 (some (.ref i) :: l) st H 0 0 = ma_W d 192 Q 80 (some (.ref i) :: l) (.ref i :: st) H 0 0 := wp_aload_n (x := some i) rfl rfl
theorem w192_80 : ma_W d 192 Q 80 l (.ref i :: st) H 0 0 = ma_gf (H.1 i) 8 0 (ma_kV d 192 Q 83 l st H 0 0) := wp_get rfl (by decide +kernel)
theorem w192_83 : ma_W d 192 Q 83 l st H 0 0 = ma_W d 192 Q 84 l (.int 3 :: st) H 0 0 := wp_iconst rfl (by decide)
theorem w192_84 : ma_W d 192 Q 84 l (.int x :: .ref i :: st) H 0 0 = ma_ial (H.1 i) x (ma_kV d 192 Q 85 l st H 0 0) := wp_iald rfl
theorem w192_85 : ma_W d 192 Q 85 l [.int x] H 0 0 = Q (some (.int x)) H := wp_iret rfl rfl
theorem w192_86 : ma_W d 192 Q 86 (some (.ref i) :: l) st H 0 0 = ma_W d 192 Q 87 (some (.ref i) :: l) (.ref i :: st) H 0 0 := wp_aload_n (x := some i) rfl rfl
theorem w192_87 : ma_W d 192 Q 87 l (.ref i :: st) H 0 0 = ma_gf (H.1 i) 8 0 (ma_kV d 192 Q 90 l st H 0 0) := wp_get rfl (by decide +kernel)
theorem w192_90 : ma_W d 192 Q 90 l st H 0 0 = ma_W d 192 Q 91 l (.int 4 :: st) H 0 0 := wp_iconst rfl (by decide)
theorem w192_91 : ma_W d 192 Q 91 l (.int x :: .ref i :: st) H 0 0 = ma_ial (H.1 i) x (ma_kV d 192 Q 92 l st H 0 0) := wp_iald rfl
theorem w192_92 : ma_W d 192 Q 92 l [.int x] H 0 0 = Q (some (.int x)) H := wp_iret rfl rfl
theorem w192_93 : ma_W d 192 Q 93 (some (.ref i) :: l) st H 0 0 = ma_W d 192 Q 94 (some (.ref i) :: l) (.ref i :: st) H 0 0 := wp_aload_n (x := some i) rfl rfl
theorem w192_94 : ma_W d 192 Q 94 l (.ref i :: st) H 0 0 = ma_gf (H.1 i) 8 0 (ma_kV d 192 Q 97 l st H 0 0) := wp_get rfl (by decide +kernel)
theorem w192_97 : ma_W d 192 Q 97 l st H 0 0 = ma_W d 192 Q 98 l (.int 5 :: st) H 0 0 := wp_iconst rfl (by decide)
theorem w192_98 : ma_W d 192 Q 98 (o0 :: some (.int x) :: l) st H 0 0 = ma_W d 192 Q 99 (o0 :: some (.int x) :: l) (.int x :: st) H 0 0 := wp_iload_n rfl rfl
theorem w192_99 : ma_W d 192 Q 99 l (.int y :: .int x :: st) H 0 0 = ma_W d 192 Q 100 l (.int (x + y) :: st) H 0 0 := wp_iadd rfl
theorem w192_100 : ma_W d 192 Q 100 l st H 0 0 = ma_W d 192 Q 102 l (.int 6 :: st) H 0 0 := wp_bipush rfl (by decide)
theorem w192_102 : ma_W d 192 Q 102 l (.int y :: .int x :: st) H 0 0 = ma_W d 192 Q 103 l (.int (x - y) :: st) H 0 0 := wp_isub rfl
theorem w192_103 : ma_W d 192 Q 103 l (.int x :: .ref i :: st) H 0 0 = ma_ial (H.1 i) x (ma_kV d 192 Q 104 l st H 0 0) := wp_iald rfl
theorem w192_104 : ma_W d 192 Q 104 l [.int x] H 0 0 = Q (some (.int x)) H := wp_iret rfl rfl
theorem w192_105 : ma_W d 192 Q 105 (some (.ref i) :: l) st H 0 0 = ma_W d 192 Q 106 (some (.ref i) :: l) (.ref i :: st) H 0 0 := wp_aload_n (x := some i) rfl rfl
theorem w192_106 : ma_W d 192 Q 106 l (.ref i :: st) H 0 0 = ma_gf (H.1 i) 8 0 (ma_kV d 192 Q 109 l st H 0 0) := wp_get rfl (by decide +kernel)
theorem w192_109 : ma_W d 192 Q 109 l st H 0 0 = ma_W d 192 Q 110 l (.int 0 :: st) H 0 0 := wp_iconst rfl (by decide)
theorem w192_110 : ma_W d 192 Q 110 (o0 :: some (.int x) :: l) st H 0 0 = ma_W d 192 Q 111 (o0 :: some (.int x) :: l) (.int x :: st) H 0 0 := wp_iload_n rfl rfl
theorem w192_111 : ma_W d 192 Q 111 l (.int y :: .int x :: st) H 0 0 = ma_W d 192 Q 112 l (.int (x + y) :: st) H 0 0 := wp_iadd rfl
theorem w192_112 : ma_W d 192 Q 112 l st H 0 0 = ma_W d 192 Q 114 l (.int 8 :: st) H 0 0 := wp_bipush rfl (by decide)
theorem w192_114 : ma_W d 192 Q 114 l (.int y :: .int x :: st) H 0 0 = ma_W d 192 Q 115 l (.int (x - y) :: st) H 0 0 := wp_isub rfl
theorem w192_115 : ma_W d 192 Q 115 l (.int x :: .ref i :: st) H 0 0 = ma_ial (H.1 i) x (ma_kV d 192 Q 116 l st H 0 0) := wp_iald rfl
theorem w192_116 : ma_W d 192 Q 116 l [.int x] H 0 0 = Q (some (.int x)) H := wp_iret rfl rfl
theorem w192_117 : ma_W d 192 Q 117 (some (.ref i) :: l) st H 0 0 = ma_W d 192 Q 118 (some (.ref i) :: l) (.ref i :: st) H 0 0 := wp_aload_n (x := some i) rfl rfl
theorem w192_118 : ma_W d 192 Q 118 l (.ref i :: st) H 0 0 = ma_gf (H.1 i) 8 0 (ma_kV d 192 Q 121 l st H 0 0) := wp_get rfl (by decide +kernel)
theorem w192_121 : ma_W d 192 Q 121 l st H 0 0 = ma_W d 192 Q 123 l (.int 58 :: st) H 0 0 := wp_bipush rfl (by decide)
theorem w192_123 : ma_W d 192 Q 123 l (.int x :: .ref i :: st) H 0 0 = ma_ial (H.1 i) x (ma_kV d 192 Q 124 l st H 0 0) := wp_iald rfl
theorem w192_124 : ma_W d 192 Q 124 l [.int x] H 0 0 = Q (some (.int x)) H := wp_iret rfl rfl
theorem w192_125 : ma_W d 192 Q 125 (some (.ref i) :: l) st H 0 0 = ma_W d 192 Q 126 (some (.ref i) :: l) (.ref i :: st) H 0 0 := wp_aload_n (x := some i) rfl rfl
theorem w192_126 : ma_W d 192 Q 126 l (.ref i :: st) H 0 0 = ma_gf (H.1 i) 8 0 (ma_kV d 192 Q 129 l st H 0 0) := wp_get rfl (by decide +kernel)
theorem w192_129 : ma_W d 192 Q 129 l st H 0 0 = ma_W d 192 Q 131 l (.int 71 :: st) H 0 0 := wp_bipush rfl (by decide)
theorem w192_131 : ma_W d 192 Q 131 l (.int x :: .ref i :: st) H 0 0 = ma_ial (H.1 i) x (ma_kV d 192 Q 132 l st H 0 0) := wp_iald rfl
theorem w192_132 : ma_W d 192 Q 132 l [.int x] H 0 0 = Q (some (.int x)) H := wp_iret rfl rfl
theorem w192_133 : ma_W d 192 Q 133 (some (.ref i) :: l) st H 0 0 = ma_W d 192 Q 134 (some (.ref i) :: l) (.ref i :: st) H 0 0 := wp_aload_n (x := some i) rfl rfl
theorem w192_134 : ma_W d 192 Q 134 l (.ref i :: st) H 0 0 = ma_gf (H.1 i) 8 0 (ma_kV d 192 Q 137 l st H 0 0) := wp_get rfl (by decide +kernel)
theorem w192_137 : ma_W d 192 Q 137 l st H 0 0 = ma_W d 192 Q 139 l (.int 96 :: st) H 0 0 := wp_bipush rfl (by decide)
theorem w192_139 : ma_W d 192 Q 139 l (.int x :: .ref i :: st) H 0 0 = ma_ial (H.1 i) x (ma_kV d 192 Q 140 l st H 0 0) := wp_iald rfl
theorem w192_140 : ma_W d 192 Q 140 l [.int x] H 0 0 = Q (some (.int x)) H := wp_iret rfl rfl
theorem w192_141 : ma_W d 192 Q 141 (some (.ref i) :: l) st H 0 0 = ma_W d 192 Q 142 (some (.ref i) :: l) (.ref i :: st) H 0 0 := wp_aload_n (x := some i) rfl rfl
theorem w192_142 : ma_W d 192 Q 142 l (.ref i :: st) H 0 0 = ma_gf (H.1 i) 8 7 (ma_kV d 192 Q 145 l st H 0 0) := wp_get rfl (by decide +kernel)
theorem w192_145 : ma_W d 192 Q 145 l [.int x] H 0 0 = Q (some (.int x)) H := wp_iret rfl rfl
theorem e192 : ma_MW (d + 1) 192 [.ref i, .int x0] H Q = ma_W d 192 Q 0 [some (.ref i), some (.int x0)] [] H 0 0 := wp_enter (by decide) (Nat.le_of_ble_eq_true rfl) rfl
/-! 193 mo_count -/
theorem w193_0 : ma_W d 193 Q 0 (o0 :: some (.int x) :: l) st H 0 0 = ma_W d 193 Q 1 (o0 :: some (.int x) :: l) (.int x :: st) H 0 0 := wp_iload_n rfl rfl
theorem w193_1 : ma_W d 193 Q 1 l st H 0 0 = ma_W d 193 Q 2 l (.int 0 :: st) H 0 0 := wp_iconst rfl (by decide)
theorem w193_2 : ma_W d 193 Q 2 l st H 0 0 = ma_W d 193 Q 4 l (.int 13 :: st) H 0 0 := wp_bipush rfl (by decide)
theorem w193_4 : ma_W d 193 Q 4 l (.int x2 :: .int x1 :: .int x0 :: st) H 0 0 = (ma_cat st ≤ 8 ∧ ma_MW d 125 [.int x0, .int x1, .int x2] H (ma_kC d 193 Q 7 l st 0 0)) := wc_S0 (ia := 125) (n := 3) (cn := 8) (k := 1) rfl (by decide +kernel) (by decide) (fun _ => rfl) rfl rfl
theorem w193_7 : ma_W d 193 Q 7 l (.int x :: st) H 0 0 = ma_if (x = 0) d 193 Q 18 10 l st H 0 0 := wp_c0 (id := 193) (pc := 7) (c := .eq) (off := 11) 18 rfl (by decide)
theorem w193_10 : ma_W d 193 Q 10 (some (.ref i) :: l) st H 0 0 = ma_W d 193 Q 11 (some (.ref i) :: l) (.ref i :: st) H 0 0 := wp_aload_n (x := some i) rfl rfl
theorem w193_11 : ma_W d 193 Q 11 (o0 :: some (.int x) :: l) st H 0 0 = ma_W d 193 Q 12 (o0 :: some (.int x) :: l) (.int x :: st) H 0 0 := wp_iload_n rfl rfl
theorem w193_12 : ma_W d 193 Q 12 l (.int x0 :: .ref i :: st) H 0 0 = (ma_cat st ≤ 8 ∧ ma_cv (H.1 i) 8 d 192 [.ref i, .int x0] H (ma_kC d 193 Q 15 l st 0 0)) := wc_V0 (ia := 192) (n := 2) (cn := 8) rfl (by decide +kernel) (fun _ => rfl) rfl rfl
theorem w193_15 : ma_W d 193 Q 15 l st H 0 0 = ma_W d 193 Q 22 l st H 0 0 := wp_goto 22 rfl (by decide)
theorem w193_18 : ma_W d 193 Q 18 (some (.ref i) :: l) st H 0 0 = ma_W d 193 Q 19 (some (.ref i) :: l) (.ref i :: st) H 0 0 := wp_aload_n (x := some i) rfl rfl
theorem w193_19 : ma_W d 193 Q 19 l (.ref i :: st) H 0 0 = (ma_cat st ≤ 8 ∧ ma_cv (H.1 i) 8 d 128 [.ref i] H (ma_kC d 193 Q 22 l st 0 0)) := wc_V0 (ia := 128) (n := 1) (cn := 8) rfl (by decide +kernel) (fun _ => rfl) rfl rfl
theorem w193_22 : ma_W d 193 Q 22 l [.int x] H 0 0 = Q (some (.int x)) H := wp_iret rfl rfl
theorem e193 : ma_MW (d + 1) 193 [.ref i, .int x0] H Q = ma_W d 193 Q 0 [some (.ref i), some (.int x0)] [] H 0 0 := wp_enter (by decide) (Nat.le_of_ble_eq_true rfl) rfl
/-! 194 mo_digest -/
theorem w194_0 : ma_W d 194 Q 0 l st H 0 0 = ma_W d 194 Q 3 l (.long 1871 :: st) H 0 0 := wp_ldc2 rfl (by decide +kernel)
theorem w194_3 : ma_W d 194 Q 3 (o0 :: p :: q :: l) (.long u :: st) H 0 0 = ma_W d 194 Q 4 (ma_clr o0 :: some (.long u) :: none :: l) st H 0 0 := wp_lstore_n (id := 194) (pc := 3) (k := 1) rfl (Nat.succ_lt_succ (Nat.succ_lt_succ (Nat.zero_lt_succ _)))
theorem w194_4 : ma_W d 194 Q 4 l st H 0 0 = ma_W d 194 Q 5 l (.int 0 :: st) H 0 0 := wp_iconst rfl (by decide)
theorem w194_5 : ma_W d 194 Q 5 (o0 :: o1 :: o2 :: p :: l) (.int x :: st) H 0 0 = ma_W d 194 Q 6 (o0 :: o1 :: ma_clr o2 :: some (.int x) :: l) st H 0 0 := wp_istore_n (id := 194) (pc := 5) (k := 3) rfl (Nat.succ_lt_succ (Nat.succ_lt_succ (Nat.succ_lt_succ (Nat.zero_lt_succ _))))
theorem w194_6 : ma_W d 194 Q 6 (o0 :: o1 :: o2 :: some (.int x) :: l) st H 0 0 = ma_W d 194 Q 7 (o0 :: o1 :: o2 :: some (.int x) :: l) (.int x :: st) H 0 0 := wp_iload_n rfl rfl
theorem w194_7 : ma_W d 194 Q 7 l st H 0 0 = ma_W d 194 Q 9 l (.int 14 :: st) H 0 0 := wp_bipush rfl (by decide)
theorem w194_9 : ma_W d 194 Q 9 l (.int y :: .int x :: st) H 0 0 = ma_if (y ≤ x) d 194 Q 31 12 l st H 0 0 := wp_ic (id := 194) (pc := 9) (c := .ge) (off := 22) 31 rfl (by decide)
theorem w194_12 : ma_W d 194 Q 12 l st H 0 0 = ma_W d 194 Q 15 l (.long 31 :: st) H 0 0 := wp_ldc2 rfl (by decide +kernel)
theorem w194_15 : ma_W d 194 Q 15 (o0 :: some (.long u) :: l) st H 0 0 = ma_W d 194 Q 16 (o0 :: some (.long u) :: l) (.long u :: st) H 0 0 := wp_lload_n rfl rfl
theorem w194_16 : ma_W d 194 Q 16 l (.long v :: .long u :: st) H 0 0 = ma_W d 194 Q 17 l (.long (u * v) :: st) H 0 0 := wp_lmul rfl
theorem w194_17 : ma_W d 194 Q 17 (some (.ref i) :: l) st H 0 0 = ma_W d 194 Q 18 (some (.ref i) :: l) (.ref i :: st) H 0 0 := wp_aload_n (x := some i) rfl rfl
theorem w194_18 : ma_W d 194 Q 18 (o0 :: o1 :: o2 :: some (.int x) :: l) st H 0 0 = ma_W d 194 Q 19 (o0 :: o1 :: o2 :: some (.int x) :: l) (.int x :: st) H 0 0 := wp_iload_n rfl rfl
theorem w194_19 : ma_W d 194 Q 19 l (.int x0 :: .ref i :: st) H 0 0 = (ma_cat st ≤ 8 ∧ ma_cv (H.1 i) 8 d 192 [.ref i, .int x0] H (ma_kC d 194 Q 22 l st 0 0)) := wc_V0 (ia := 192) (n := 2) (cn := 8) rfl (by decide +kernel) (fun _ => rfl) rfl rfl
theorem w194_22 : ma_W d 194 Q 22 l (.int x :: st) H 0 0 = ma_W d 194 Q 23 l (.long x.toInt64 :: st) H 0 0 := wp_i2l rfl
theorem w194_23 : ma_W d 194 Q 23 l (.long v :: .long u :: st) H 0 0 = ma_W d 194 Q 24 l (.long (u + v) :: st) H 0 0 := wp_ladd rfl
theorem w194_24 : ma_W d 194 Q 24 (o0 :: p :: q :: l) (.long u :: st) H 0 0 = ma_W d 194 Q 25 (ma_clr o0 :: some (.long u) :: none :: l) st H 0 0 := wp_lstore_n (id := 194) (pc := 24) (k := 1) rfl (Nat.succ_lt_succ (Nat.succ_lt_succ (Nat.zero_lt_succ _)))
theorem w194_25 : ma_W d 194 Q 25 (o0 :: o1 :: o2 :: some (.int x) :: l) st H 0 0 = ma_W d 194 Q 28 (o0 :: o1 :: ma_clr o2 :: some (.int (x + 1)) :: l) st H 0 0 := wp_iinc (id := 194) (pc := 25) (k := 3) (n := 1) rfl (Nat.succ_lt_succ (Nat.succ_lt_succ (Nat.succ_lt_succ (Nat.zero_lt_succ _)))) rfl (by decide)
theorem w194_28 : ma_W d 194 Q 28 l st H 0 0 = ma_W d 194 Q 6 l st H 0 0 := wp_goto 6 rfl (by decide)
theorem w194_31 : ma_W d 194 Q 31 l st H 0 0 = ma_W d 194 Q 32 l (.int 0 :: st) H 0 0 := wp_iconst rfl (by decide)
theorem w194_32 : ma_W d 194 Q 32 (o0 :: o1 :: o2 :: p :: l) (.int x :: st) H 0 0 = ma_W d 194 Q 33 (o0 :: o1 :: ma_clr o2 :: some (.int x) :: l) st H 0 0 := wp_istore_n (id := 194) (pc := 32) (k := 3) rfl (Nat.succ_lt_succ (Nat.succ_lt_succ (Nat.succ_lt_succ (Nat.zero_lt_succ _))))
theorem w194_33 : ma_W d 194 Q 33 (o0 :: o1 :: o2 :: some (.int x) :: l) st H 0 0 = ma_W d 194 Q 34 (o0 :: o1 :: o2 :: some (.int x) :: l) (.int x :: st) H 0 0 := wp_iload_n rfl rfl
theorem w194_34 : ma_W d 194 Q 34 l st H 0 0 = ma_W d 194 Q 35 l (.int 3 :: st) H 0 0 := wp_iconst rfl (by decide)
theorem w194_35 : ma_W d 194 Q 35 l (.int y :: .int x :: st) H 0 0 = ma_if (y ≤ x) d 194 Q 90 38 l st H 0 0 := wp_ic (id := 194) (pc := 35) (c := .ge) (off := 55) 90 rfl (by decide)
theorem w194_38 : ma_W d 194 Q 38 l st H 0 0 = ma_W d 194 Q 39 l (.int 0 :: st) H 0 0 := wp_iconst rfl (by decide)
theorem w194_39 : ma_W d 194 Q 39 (o0 :: o1 :: o2 :: o3 :: p :: l) (.int x :: st) H 0 0 = ma_W d 194 Q 41 (o0 :: o1 :: o2 :: ma_clr o3 :: some (.int x) :: l) st H 0 0 := wp_istore (id := 194) (pc := 39) (k := 4) rfl (Nat.succ_lt_succ (Nat.succ_lt_succ (Nat.succ_lt_succ (Nat.succ_lt_succ (Nat.zero_lt_succ _)))))
theorem w194_41 : ma_W d 194 Q 41 (o0 :: o1 :: o2 :: o3 :: some (.int x) :: l) st H 0 0 = ma_W d 194 Q 43 (o0 :: o1 :: o2 :: o3 :: some (.int x) :: l) (.int x :: st) H 0 0 := wp_iload rfl rfl
theorem w194_43 : ma_W d 194 Q 43 (some (.ref i) :: l) st H 0 0 = ma_W d 194 Q 44 (some (.ref i) :: l) (.ref i :: st) H 0 0 := wp_aload_n (x := some i) rfl rfl
theorem w194_44 : ma_W d 194 Q 44 l (.ref i :: st) H 0 0 = ma_gf (H.1 i) 8 0 (ma_kV d 194 Q 47 l st H 0 0) := wp_get rfl (by decide +kernel)
theorem w194_47 : ma_W d 194 Q 47 l st H 0 0 = ma_W d 194 Q 49 l (.int 7 :: st) H 0 0 := wp_bipush rfl (by decide)
theorem w194_49 : ma_W d 194 Q 49 (o0 :: o1 :: o2 :: some (.int x) :: l) st H 0 0 = ma_W d 194 Q 50 (o0 :: o1 :: o2 :: some (.int x) :: l) (.int x :: st) H 0 0 := wp_iload_n rfl rfl
theorem w194_50 : ma_W d 194 Q 50 l (.int y :: .int x :: st) H 0 0 = ma_W d 194 Q 51 l (.int (x + y) :: st) H 0 0 := wp_iadd rfl
theorem w194_51 : ma_W d 194 Q 51 l (.int x :: .ref i :: st) H 0 0 = ma_ial (H.1 i) x (ma_kV d 194 Q 52 l st H 0 0) := wp_iald rfl
theorem w194_52 : ma_W d 194 Q 52 l (.int y :: .int x :: st) H 0 0 = ma_if (y ≤ x) d 194 Q 84 55 l st H 0 0 := wp_ic (id := 194) (pc := 52) (c := .ge) (off := 32) 84 rfl (by decide)
theorem w194_55 : ma_W d 194 Q 55 l st H 0 0 = ma_W d 194 Q 58 l (.long 31 :: st) H 0 0 := wp_ldc2 rfl (by decide +kernel)
theorem w194_58 : ma_W d 194 Q 58 (o0 :: some (.long u) :: l) st H 0 0 = ma_W d 194 Q 59 (o0 :: some (.long u) :: l) (.long u :: st) H 0 0 := wp_lload_n rfl rfl
theorem w194_59 : ma_W d 194 Q 59 l (.long v :: .long u :: st) H 0 0 = ma_W d 194 Q 60 l (.long (u * v) :: st) H 0 0 := wp_lmul rfl
theorem w194_60 : ma_W d 194 Q 60 (some (.ref i) :: l) st H 0 0 = ma_W d 194 Q 61 (some (.ref i) :: l) (.ref i :: st) H 0 0 := wp_aload_n (x := some i) rfl rfl
theorem w194_61 : ma_W d 194 Q 61 l (.ref i :: st) H 0 0 = ma_gf (H.1 i) 8 0 (ma_kV d 194 Q 64 l st H 0 0) := wp_get rfl (by decide +kernel)
theorem w194_64 : ma_W d 194 Q 64 l st H 0 0 = ma_W d 194 Q 66 l (.int 10 :: st) H 0 0 := wp_bipush rfl (by decide)
theorem w194_66 : ma_W d 194 Q 66 l st H 0 0 = ma_W d 194 Q 68 l (.int 16 :: st) H 0 0 := wp_bipush rfl (by decide)
theorem w194_68 : ma_W d 194 Q 68 (o0 :: o1 :: o2 :: some (.int x) :: l) st H 0 0 = ma_W d 194 Q 69 (o0 :: o1 :: o2 :: some (.int x) :: l) (.int x :: st) H 0 0 := wp_iload_n rfl rfl
theorem w194_69 : ma_W d 194 Q 69 l (.int y :: .int x :: st) H 0 0 = ma_W d 194 Q 70 l (.int (x * y) :: st) H 0 0 := wp_imul rfl
theorem w194_70 : ma_W d 194 Q 70 l (.int y :: .int x :: st) H 0 0 = ma_W d 194 Q 71 l (.int (x + y) :: st) H 0 0 := wp_iadd rfl
theorem w194_71 : ma_W d 194 Q 71 (o0 :: o1 :: o2 :: o3 :: some (.int x) :: l) st H 0 0 = ma_W d 194 Q 73 (o0 :: o1 :: o2 :: o3 :: some (.int x) :: l) (.int x :: st) H 0 0 := wp_iload rfl rfl
theorem w194_73 : ma_W d 194 Q 73 l (.int y :: .int x :: st) H 0 0 = ma_W d 194 Q 74 l (.int (x + y) :: st) H 0 0 := wp_iadd rfl
theorem w194_74 : ma_W d 194 Q 74 l (.int x :: .ref i :: st) H 0 0 = ma_ial (H.1 i) x (ma_kV d 194 Q 75 l st H 0 0) := wp_iald rfl
theorem w194_75 : ma_W d 194 Q 75 l (.int x :: st) H 0 0 = ma_W d 194 Q 76 l (.long x.toInt64 :: st) H 0 0 := wp_i2l rfl
theorem w194_76 : ma_W d 194 Q 76 l (.long v :: .long u :: st) H 0 0 = ma_W d 194 Q 77 l (.long (u + v) :: st) H 0 0 := wp_ladd rfl
theorem w194_77 : ma_W d 194 Q 77 (o0 :: p :: q :: l) (.long u :: st) H 0 0 = ma_W d 194 Q 78 (ma_clr o0 :: some (.long u) :: none :: l) st H 0 0 := wp_lstore_n (id := 194) (pc := 77) (k := 1) rfl (Nat.succ_lt_succ (Nat.succ_lt_succ (Nat.zero_lt_succ _)))
theorem w194_78 : ma_W d 194 Q 78 (o0 :: o1 :: o2 :: o3 :: some (.int x) :: l) st H 0 0 = ma_W d 194 Q 81 (o0 :: o1 :: o2 :: ma_clr o3 :: some (.int (x + 1)) :: l) st H 0 0 := wp_iinc (id := 194) (pc := 78) (k := 4) (n := 1) rfl (Nat.succ_lt_succ (Nat.succ_lt_succ (Nat.succ_lt_succ (Nat.succ_lt_succ (Nat.zero_lt_succ _))))) rfl (by decide)
theorem w194_81 : ma_W d 194 Q 81 l st H 0 0 = ma_W d 194 Q 41 l st H 0 0 := wp_goto 41 rfl (by decide)
theorem w194_84 : ma_W d 194 Q 84 (o0 :: o1 :: o2 :: some (.int x) :: l) st H 0 0 = ma_W d 194 Q 87 (o0 :: o1 :: ma_clr o2 :: some (.int (x + 1)) :: l) st H 0 0 := wp_iinc (id := 194) (pc := 84) (k := 3) (n := 1) rfl (Nat.succ_lt_succ (Nat.succ_lt_succ (Nat.succ_lt_succ (Nat.zero_lt_succ _)))) rfl (by decide)
theorem w194_87 : ma_W d 194 Q 87 l st H 0 0 = ma_W d 194 Q 33 l st H 0 0 := wp_goto 33 rfl (by decide)
theorem w194_90 : ma_W d 194 Q 90 l st H 0 0 = ma_W d 194 Q 91 l (.int 0 :: st) H 0 0 := wp_iconst rfl (by decide)
theorem w194_91 : ma_W d 194 Q 91 (o0 :: o1 :: o2 :: p :: l) (.int x :: st) H 0 0 = ma_W d 194 Q 92 (o0 :: o1 :: ma_clr o2 :: some (.int x) :: l) st H 0 0 := wp_istore_n (id := 194) (pc := 91) (k := 3) rfl (Nat.succ_lt_succ (Nat.succ_lt_succ (Nat.succ_lt_succ (Nat.zero_lt_succ _))))
theorem w194_92 : ma_W d 194 Q 92 (o0 :: o1 :: o2 :: some (.int x) :: l) st H 0 0 = ma_W d 194 Q 93 (o0 :: o1 :: o2 :: some (.int x) :: l) (.int x :: st) H 0 0 := wp_iload_n rfl rfl
theorem w194_93 : ma_W d 194 Q 93 l st H 0 0 = ma_W d 194 Q 94 l (.int 2 :: st) H 0 0 := wp_iconst rfl (by decide)
theorem w194_94 : ma_W d 194 Q 94 (some (.ref i) :: l) st H 0 0 = ma_W d 194 Q 95 (some (.ref i) :: l) (.ref i :: st) H 0 0 := wp_aload_n (x := some i) rfl rfl
theorem w194_95 : ma_W d 194 Q 95 l (.ref i :: st) H 0 0 = ma_gf (H.1 i) 8 0 (ma_kV d 194 Q 98 l st H 0 0) := wp_get rfl (by decide +kernel)
theorem w194_98 : ma_W d 194 Q 98 l st H 0 0 = ma_W d 194 Q 100 l (.int 58 :: st) H 0 0 := wp_bipush rfl (by decide)
theorem w194_100 : ma_W d 194 Q 100 l (.int x :: .ref i :: st) H 0 0 = ma_ial (H.1 i) x (ma_kV d 194 Q 101 l st H 0 0) := wp_iald rfl
theorem w194_101 : ma_W d 194 Q 101 l (.int y :: .int x :: st) H 0 0 = ma_W d 194 Q 102 l (.int (x * y) :: st) H 0 0 := wp_imul rfl
theorem w194_102 : ma_W d 194 Q 102 l (.int y :: .int x :: st) H 0 0 = ma_if (y ≤ x) d 194 Q 128 105 l st H 0 0 := wp_ic (id := 194) (pc := 102) (c := .ge) (off := 26) 128 rfl (by decide)
theorem w194_105 : ma_W d 194 Q 105 l st H 0 0 = ma_W d 194 Q 108 l (.long 31 :: st) H 0 0 := wp_ldc2 rfl (by decide +kernel)
theorem w194_108 : ma_W d 194 Q 108 (o0 :: some (.long u) :: l) st H 0 0 = ma_W d 194 Q 109 (o0 :: some (.long u) :: l) (.long u :: st) H 0 0 := wp_lload_n rfl rfl
theorem w194_109 : ma_W d 194 Q 109 l (.long v :: .long u :: st) H 0 0 = ma_W d 194 Q 110 l (.long (u * v) :: st) H 0 0 := wp_lmul rfl
theorem w194_110 : ma_W d 194 Q 110 (some (.ref i) :: l) st H 0 0 = ma_W d 194 Q 111 (some (.ref i) :: l) (.ref i :: st) H 0 0 := wp_aload_n (x := some i) rfl rfl
theorem w194_111 : ma_W d 194 Q 111 l (.ref i :: st) H 0 0 = ma_gf (H.1 i) 8 0 (ma_kV d 194 Q 114 l st H 0 0) := wp_get rfl (by decide +kernel)
theorem w194_114 : ma_W d 194 Q 114 l st H 0 0 = ma_W d 194 Q 116 l (.int 59 :: st) H 0 0 := wp_bipush rfl (by decide)
theorem w194_116 : ma_W d 194 Q 116 (o0 :: o1 :: o2 :: some (.int x) :: l) st H 0 0 = ma_W d 194 Q 117 (o0 :: o1 :: o2 :: some (.int x) :: l) (.int x :: st) H 0 0 := wp_iload_n rfl rfl
theorem w194_117 : ma_W d 194 Q 117 l (.int y :: .int x :: st) H 0 0 = ma_W d 194 Q 118 l (.int (x + y) :: st) H 0 0 := wp_iadd rfl
theorem w194_118 : ma_W d 194 Q 118 l (.int x :: .ref i :: st) H 0 0 = ma_ial (H.1 i) x (ma_kV d 194 Q 119 l st H 0 0) := wp_iald rfl
theorem w194_119 : ma_W d 194 Q 119 l (.int x :: st) H 0 0 = ma_W d 194 Q 120 l (.long x.toInt64 :: st) H 0 0 := wp_i2l rfl
theorem w194_120 : ma_W d 194 Q 120 l (.long v :: .long u :: st) H 0 0 = ma_W d 194 Q 121 l (.long (u + v) :: st) H 0 0 := wp_ladd rfl
theorem w194_121 : ma_W d 194 Q 121 (o0 :: p :: q :: l) (.long u :: st) H 0 0 = ma_W d 194 Q 122 (ma_clr o0 :: some (.long u) :: none :: l) st H 0 0 := wp_lstore_n (id := 194) (pc := 121) (k := 1) rfl (Nat.succ_lt_succ (Nat.succ_lt_succ (Nat.zero_lt_succ _)))
theorem w194_122 : ma_W d 194 Q 122 (o0 :: o1 :: o2 :: some (.int x) :: l) st H 0 0 = ma_W d 194 Q 125 (o0 :: o1 :: ma_clr o2 :: some (.int (x + 1)) :: l) st H 0 0 := wp_iinc (id := 194) (pc := 122) (k := 3) (n := 1) rfl (Nat.succ_lt_succ (Nat.succ_lt_succ (Nat.succ_lt_succ (Nat.zero_lt_succ _)))) rfl (by decide)
theorem w194_125 : ma_W d 194 Q 125 l st H 0 0 = ma_W d 194 Q 92 l st H 0 0 := wp_goto 92 rfl (by decide)
theorem w194_128 : ma_W d 194 Q 128 l st H 0 0 = ma_W d 194 Q 129 l (.int 0 :: st) H 0 0 := wp_iconst rfl (by decide)
theorem w194_129 : ma_W d 194 Q 129 (o0 :: o1 :: o2 :: p :: l) (.int x :: st) H 0 0 = ma_W d 194 Q 130 (o0 :: o1 :: ma_clr o2 :: some (.int x) :: l) st H 0 0 := wp_istore_n (id := 194) (pc := 129) (k := 3) rfl (Nat.succ_lt_succ (Nat.succ_lt_succ (Nat.succ_lt_succ (Nat.zero_lt_succ _))))
theorem w194_130 : ma_W d 194 Q 130 (o0 :: o1 :: o2 :: some (.int x) :: l) st H 0 0 = ma_W d 194 Q 131 (o0 :: o1 :: o2 :: some (.int x) :: l) (.int x :: st) H 0 0 := wp_iload_n rfl rfl
theorem w194_131 : ma_W d 194 Q 131 l st H 0 0 = ma_W d 194 Q 132 l (.int 4 :: st) H 0 0 := wp_iconst rfl (by decide)
theorem w194_132 : ma_W d 194 Q 132 (some (.ref i) :: l) st H 0 0 = ma_W d 194 Q 133 (some (.ref i) :: l) (.ref i :: st) H 0 0 := wp_aload_n (x := some i) rfl rfl
theorem w194_133 : ma_W d 194 Q 133 l (.ref i :: st) H 0 0 = ma_gf (H.1 i) 8 0 (ma_kV d 194 Q 136 l st H 0 0) := wp_get rfl (by decide +kernel)
theorem w194_136 : ma_W d 194 Q 136 l st H 0 0 = ma_W d 194 Q 138 l (.int 71 :: st) H 0 0 := wp_bipush rfl (by decide)
theorem w194_138 : ma_W d 194 Q 138 l (.int x :: .ref i :: st) H 0 0 = ma_ial (H.1 i) x (ma_kV d 194 Q 139 l st H 0 0) := wp_iald rfl
theorem w194_139 : ma_W d 194 Q 139 l (.int y :: .int x :: st) H 0 0 = ma_W d 194 Q 140 l (.int (x * y) :: st) H 0 0 := wp_imul rfl
theorem w194_140 : ma_W d 194 Q 140 l (.int y :: .int x :: st) H 0 0 = ma_if (y ≤ x) d 194 Q 166 143 l st H 0 0 := wp_ic (id := 194) (pc := 140) (c := .ge) (off := 26) 166 rfl (by decide)
theorem w194_143 : ma_W d 194 Q 143 l st H 0 0 = ma_W d 194 Q 146 l (.long 31 :: st) H 0 0 := wp_ldc2 rfl (by decide +kernel)
theorem w194_146 : ma_W d 194 Q 146 (o0 :: some (.long u) :: l) st H 0 0 = ma_W d 194 Q 147 (o0 :: some (.long u) :: l) (.long u :: st) H 0 0 := wp_lload_n rfl rfl
theorem w194_147 : ma_W d 194 Q 147 l (.long v :: .long u :: st) H 0 0 = ma_W d 194 Q 148 l (.long (u * v) :: st) H 0 0 := wp_lmul rfl
theorem w194_148 : ma_W d 194 Q 148 (some (.ref i) :: l) st H 0 0 = ma_W d 194 Q 149 (some (.ref i) :: l) (.ref i :: st) H 0 0 := wp_aload_n (x := some i) rfl rfl
theorem w194_149 : ma_W d 194 Q 149 l (.ref i :: st) H 0 0 = ma_gf (H.1 i) 8 0 (ma_kV d 194 Q 152 l st H 0 0) := wp_get rfl (by decide +kernel)
theorem w194_152 : ma_W d 194 Q 152 l st H 0 0 = ma_W d 194 Q 154 l (.int 72 :: st) H 0 0 := wp_bipush rfl (by decide)
theorem w194_154 : ma_W d 194 Q 154 (o0 :: o1 :: o2 :: some (.int x) :: l) st H 0 0 = ma_W d 194 Q 155 (o0 :: o1 :: o2 :: some (.int x) :: l) (.int x :: st) H 0 0 := wp_iload_n rfl rfl
theorem w194_155 : ma_W d 194 Q 155 l (.int y :: .int x :: st) H 0 0 = ma_W d 194 Q 156 l (.int (x + y) :: st) H 0 0 := wp_iadd rfl
theorem w194_156 : ma_W d 194 Q 156 l (.int x :: .ref i :: st) H 0 0 = ma_ial (H.1 i) x (ma_kV d 194 Q 157 l st H 0 0) := wp_iald rfl
theorem w194_157 : ma_W d 194 Q 157 l (.int x :: st) H 0 0 = ma_W d 194 Q 158 l (.long x.toInt64 :: st) H 0 0 := wp_i2l rfl
theorem w194_158 : ma_W d 194 Q 158 l (.long v :: .long u :: st) H 0 0 = ma_W d 194 Q 159 l (.long (u + v) :: st) H 0 0 := wp_ladd rfl
theorem w194_159 : ma_W d 194 Q 159 (o0 :: p :: q :: l) (.long u :: st) H 0 0 = ma_W d 194 Q 160 (ma_clr o0 :: some (.long u) :: none :: l) st H 0 0 := wp_lstore_n (id := 194) (pc := 159) (k := 1) rfl (Nat.succ_lt_succ (Nat.succ_lt_succ (Nat.zero_lt_succ _)))
theorem w194_160 : ma_W d 194 Q 160 (o0 :: o1 :: o2 :: some (.int x) :: l) st H 0 0 = ma_W d 194 Q 163 (o0 :: o1 :: ma_clr o2 :: some (.int (x + 1)) :: l) st H 0 0 := wp_iinc (id := 194) (pc := 160) (k := 3) (n := 1) rfl (Nat.succ_lt_succ (Nat.succ_lt_succ (Nat.succ_lt_succ (Nat.zero_lt_succ _)))) rfl (by decide)
theorem w194_163 : ma_W d 194 Q 163 l st H 0 0 = ma_W d 194 Q 130 l st H 0 0 := wp_goto 130 rfl (by decide)
theorem w194_166 : ma_W d 194 Q 166 l st H 0 0 = ma_W d 194 Q 169 l (.long 31 :: st) H 0 0 := wp_ldc2 rfl (by decide +kernel)
theorem w194_169 : ma_W d 194 Q 169 l st H 0 0 = ma_W d 194 Q 172 l (.long 31 :: st) H 0 0 := wp_ldc2 rfl (by decide +kernel)
theorem w194_172 : ma_W d 194 Q 172 (o0 :: some (.long u) :: l) st H 0 0 = ma_W d 194 Q 173 (o0 :: some (.long u) :: l) (.long u :: st) H 0 0 := wp_lload_n rfl rfl
theorem w194_173 : ma_W d 194 Q 173 l (.long v :: .long u :: st) H 0 0 = ma_W d 194 Q 174 l (.long (u * v) :: st) H 0 0 := wp_lmul rfl
theorem w194_174 : ma_W d 194 Q 174 (some (.ref i) :: l) st H 0 0 = ma_W d 194 Q 175 (some (.ref i) :: l) (.ref i :: st) H 0 0 := wp_aload_n (x := some i) rfl rfl
theorem w194_175 : ma_W d 194 Q 175 l (.ref i :: st) H 0 0 = ma_gf (H.1 i) 8 5 (ma_kV d 194 Q 178 l st H 0 0) := wp_get rfl (by decide +kernel)
theorem w194_178 : ma_W d 194 Q 178 l (.long v :: .long u :: st) H 0 0 = ma_W d 194 Q 179 l (.long (u + v) :: st) H 0 0 := wp_ladd rfl
theorem w194_179 : ma_W d 194 Q 179 l (.long v :: .long u :: st) H 0 0 = ma_W d 194 Q 180 l (.long (u * v) :: st) H 0 0 := wp_lmul rfl
theorem w194_180 : ma_W d 194 Q 180 (some (.ref i) :: l) st H 0 0 = ma_W d 194 Q 181 (some (.ref i) :: l) (.ref i :: st) H 0 0 := wp_aload_n (x := some i) rfl rfl
theorem w194_181 : ma_W d 194 Q 181 l (.ref i :: st) H 0 0 = ma_gf (H.1 i) 8 6 (ma_kV d 194 Q 184 l st H 0 0) := wp_get rfl (by decide +kernel)
theorem w194_184 : ma_W d 194 Q 184 l (.long v :: .long u :: st) H 0 0 = ma_W d 194 Q 185 l (.long (u + v) :: st) H 0 0 := wp_ladd rfl
theorem w194_185 : ma_W d 194 Q 185 l [.long u] H 0 0 = Q (some (.long u)) H := wp_lret rfl rfl
theorem e194 : ma_MW (d + 1) 194 [.ref i] H Q = ma_W d 194 Q 0 [some (.ref i), none, none, none, none] [] H 0 0 := wp_enter (by decide) (Nat.le_of_ble_eq_true rfl) rfl
end

/-! one row an instruction (written by wip/whole/gen_rows.py) -/
section
variable {d : Nat} {Q : ma_P} {l : ma_L} {st : List Value} {H : ma_H} {a b : Nat} {x y x0 x1 x2 x3 x4 : Int32} {u v u0 u1 u2 : Int64} {i j i0 i1 i2 i3 i4 : Nat} {p q o0 o1 o2 o3 o4 o5 o6 o7 o8 o9 o10 : Option Value}
/-! 0 ga_init -/
theorem w0_0 : ma_W d 0 Q 0 (some (.ref i) :: l) st H a b = ma_W d 0 Q 1 (some (.ref i) :: l) (.ref i :: st) H a b := wp_aload_n (x := some i) rfl rfl
theorem w0_1 : ma_W d 0 Q 1 l (.ref i :: st) H a b = (ma_cat st ≤ 8 ∧ ma_W d 0 Q 4 l st H a b) := wc_obj (ia := 0) (n := 1) (cn := 0) rfl (by decide +kernel)
theorem w0_4 : ma_W d 0 Q 4 (some (.ref i) :: l) st H a b = ma_W d 0 Q 5 (some (.ref i) :: l) (.ref i :: st) H a b := wp_aload_n (x := some i) rfl rfl
theorem w0_5 : ma_W d 0 Q 5 l st H a b = (a + 1 ≤ 21 ∧ b + 10 ≤ 159 ∧ ma_W d 0 Q 8 l (.ref H.2 :: st) (ma_new H (.inr (4, [.int 0, .int 0, .int 0, .long 0, .long 0, .long 0, .int 0, .int 0, .int 0, .int 0]))) (a + 1) (b + 10)) := wp_new rfl (by decide +kernel) rfl rfl rfl rfl
theorem w0_8 : ma_W d 0 Q 8 l (.ref i :: st) H a b = ma_W d 0 Q 9 l (.ref i :: .ref i :: st) H a b := wp_dup rfl rfl
theorem w0_8i : ma_W d 0 Q 8 l (.int x :: st) H a b = ma_W d 0 Q 9 l (.int x :: .int x :: st) H a b := wp_dup rfl rfl
theorem w0_9 : ma_W d 0 Q 9 l (.ref i :: st) H a b = (ma_cat st ≤ 8 ∧ a + 0 ≤ 21 ∧ b + 0 ≤ 159 ∧ ma_MW d 33 [.ref i] H (ma_kC d 0 Q 12 l st (a + 0) (b + 0))) := wc_I (ia := 33) (n := 1) (cn := 4) (k := 4) rfl (by decide +kernel) (by decide) (fun _ => rfl) rfl rfl rfl
theorem w0_12 : ma_W d 0 Q 12 l (.ref j :: .ref i :: st) H a b = ma_pf (H.1 i) 0 0 (.ref j) (ma_kH d 0 Q 15 l st H i a b) := wp_put rfl (by decide +kernel) (by decide +kernel) rfl rfl
theorem w0_15 : ma_W d 0 Q 15 (some (.ref i) :: l) st H a b = ma_W d 0 Q 16 (some (.ref i) :: l) (.ref i :: st) H a b := wp_aload_n (x := some i) rfl rfl
theorem w0_16 : ma_W d 0 Q 16 l st H a b = (a + 1 ≤ 21 ∧ b + 3 ≤ 159 ∧ ma_W d 0 Q 19 l (.ref H.2 :: st) (ma_new H (.inr (1, [.null, .int 0, .int 0]))) (a + 1) (b + 3)) := wp_new rfl (by decide +kernel) rfl rfl rfl rfl
theorem w0_19 : ma_W d 0 Q 19 l (.ref i :: st) H a b = ma_W d 0 Q 20 l (.ref i :: .ref i :: st) H a b := wp_dup rfl rfl
theorem w0_19i : ma_W d 0 Q 19 l (.int x :: st) H a b = ma_W d 0 Q 20 l (.int x :: .int x :: st) H a b := wp_dup rfl rfl
theorem w0_20 : ma_W d 0 Q 20 l (.ref i :: st) H a b = (ma_cat st ≤ 8 ∧ a + 9 ≤ 21 ∧ b + 88 ≤ 159 ∧ ma_MW d 5 [.ref i] H (ma_kC d 0 Q 23 l st (a + 9) (b + 88))) := wc_I (ia := 5) (n := 1) (cn := 1) (k := 2) rfl (by decide +kernel) (by decide) (fun _ => rfl) rfl rfl rfl
theorem w0_23 : ma_W d 0 Q 23 l (.ref j :: .ref i :: st) H a b = ma_pf (H.1 i) 0 1 (.ref j) (ma_kH d 0 Q 26 l st H i a b) := wp_put rfl (by decide +kernel) (by decide +kernel) rfl rfl
theorem w0_26 : ma_W d 0 Q 26 (some (.ref i) :: l) st H a b = ma_W d 0 Q 27 (some (.ref i) :: l) (.ref i :: st) H a b := wp_aload_n (x := some i) rfl rfl
theorem w0_27 : ma_W d 0 Q 27 l st H a b = (a + 1 ≤ 21 ∧ b + 5 ≤ 159 ∧ ma_W d 0 Q 30 l (.ref H.2 :: st) (ma_new H (.inr (3, [.null, .null, .null, .null, .int 0]))) (a + 1) (b + 5)) := wp_new rfl (by decide +kernel) rfl rfl rfl rfl
theorem w0_30 : ma_W d 0 Q 30 l (.ref i :: st) H a b = ma_W d 0 Q 31 l (.ref i :: .ref i :: st) H a b := wp_dup rfl rfl
theorem w0_30i : ma_W d 0 Q 30 l (.int x :: st) H a b = ma_W d 0 Q 31 l (.int x :: .int x :: st) H a b := wp_dup rfl rfl
theorem w0_31 : ma_W d 0 Q 31 l (.ref i :: st) H a b = (ma_cat st ≤ 8 ∧ a + 4 ≤ 21 ∧ b + 24 ≤ 159 ∧ ma_MW d 24 [.ref i] H (ma_kC d 0 Q 34 l st (a + 4) (b + 24))) := wc_I (ia := 24) (n := 1) (cn := 3) (k := 4) rfl (by decide +kernel) (by decide) (fun _ => rfl) rfl rfl rfl
theorem w0_34 : ma_W d 0 Q 34 l (.ref j :: .ref i :: st) H a b = ma_pf (H.1 i) 0 2 (.ref j) (ma_kH d 0 Q 37 l st H i a b) := wp_put rfl (by decide +kernel) (by decide +kernel) rfl rfl
theorem w0_37 : ma_W d 0 Q 37 (some (.ref i) :: l) st H a b = ma_W d 0 Q 38 (some (.ref i) :: l) (.ref i :: st) H a b := wp_aload_n (x := some i) rfl rfl
theorem w0_38 : ma_W d 0 Q 38 l st H a b = (a + 1 ≤ 21 ∧ b + 5 ≤ 159 ∧ ma_W d 0 Q 41 l (.ref H.2 :: st) (ma_new H (.inr (3, [.null, .null, .null, .null, .int 0]))) (a + 1) (b + 5)) := wp_new rfl (by decide +kernel) rfl rfl rfl rfl
theorem w0_41 : ma_W d 0 Q 41 l (.ref i :: st) H a b = ma_W d 0 Q 42 l (.ref i :: .ref i :: st) H a b := wp_dup rfl rfl
theorem w0_41i : ma_W d 0 Q 41 l (.int x :: st) H a b = ma_W d 0 Q 42 l (.int x :: .int x :: st) H a b := wp_dup rfl rfl
theorem w0_42 : ma_W d 0 Q 42 l (.ref i :: st) H a b = (ma_cat st ≤ 8 ∧ a + 4 ≤ 21 ∧ b + 24 ≤ 159 ∧ ma_MW d 24 [.ref i] H (ma_kC d 0 Q 45 l st (a + 4) (b + 24))) := wc_I (ia := 24) (n := 1) (cn := 3) (k := 4) rfl (by decide +kernel) (by decide) (fun _ => rfl) rfl rfl rfl
theorem w0_45 : ma_W d 0 Q 45 l (.ref j :: .ref i :: st) H a b = ma_pf (H.1 i) 0 3 (.ref j) (ma_kH d 0 Q 48 l st H i a b) := wp_put rfl (by decide +kernel) (by decide +kernel) rfl rfl
theorem w0_48 : ma_W d 0 Q 48 l [] H a b = Q none H := wp_vret rfl rfl
theorem e0 : ma_MW (d + 1) 0 [.ref i] H Q = ma_W d 0 Q 0 [some (.ref i)] [] H 0 0 := wp_enter (by decide) (Nat.le_of_ble_eq_true rfl) rfl
/-! 1 ga_begin -/
theorem w1_0 : ma_W d 1 Q 0 (some (.ref i) :: l) st H 0 0 = ma_W d 1 Q 1 (some (.ref i) :: l) (.ref i :: st) H 0 0 := wp_aload_n (x := some i) rfl rfl
theorem w1_1 : ma_W d 1 Q 1 l (.ref i :: st) H 0 0 = ma_gf (H.1 i) 0 0 (ma_kV d 1 Q 4 l st H 0 0) := wp_get rfl (by decide +kernel)
theorem w1_4 : ma_W d 1 Q 4 (o0 :: some (.int x) :: l) st H 0 0 = ma_W d 1 Q 5 (o0 :: some (.int x) :: l) (.int x :: st) H 0 0 := wp_iload_n rfl rfl
theorem w1_5 : ma_W d 1 Q 5 (o0 :: o1 :: some (.int x) :: l) st H 0 0 = ma_W d 1 Q 6 (o0 :: o1 :: some (.int x) :: l) (.int x :: st) H 0 0 := wp_iload_n rfl rfl
theorem w1_6 : ma_W d 1 Q 6 l (.int x1 :: .int x0 :: .ref i :: st) H 0 0 = (ma_cat st ≤ 8 ∧ ma_cv (H.1 i) 4 d 34 [.ref i, .int x0, .int x1] H (ma_kC d 1 Q 9 l st 0 0)) := wc_V0 (ia := 34) (n := 3) (cn := 4) rfl (by decide +kernel) (fun _ => rfl) rfl rfl
theorem w1_9 : ma_W d 1 Q 9 (some (.ref i) :: l) st H 0 0 = ma_W d 1 Q 10 (some (.ref i) :: l) (.ref i :: st) H 0 0 := wp_aload_n (x := some i) rfl rfl
theorem w1_10 : ma_W d 1 Q 10 l (.ref i :: st) H 0 0 = (ma_cat st ≤ 8 ∧ ma_cv (H.1 i) 0 d 3 [.ref i] H (ma_kC d 1 Q 13 l st 0 0)) := wc_V0 (ia := 3) (n := 1) (cn := 0) rfl (by decide +kernel) (fun _ => rfl) rfl rfl
theorem w1_13 : ma_W d 1 Q 13 l [] H 0 0 = Q none H := wp_vret rfl rfl
theorem e1 : ma_MW (d + 1) 1 [.ref i, .int x0, .int x1] H Q = ma_W d 1 Q 0 [some (.ref i), some (.int x0), some (.int x1)] [] H 0 0 := wp_enter (by decide) (Nat.le_of_ble_eq_true rfl) rfl
/-! 2 ga_beginAt -/
theorem w2_0 : ma_W d 2 Q 0 (some (.ref i) :: l) st H 0 0 = ma_W d 2 Q 1 (some (.ref i) :: l) (.ref i :: st) H 0 0 := wp_aload_n (x := some i) rfl rfl
theorem w2_1 : ma_W d 2 Q 1 l (.ref i :: st) H 0 0 = ma_gf (H.1 i) 0 0 (ma_kV d 2 Q 4 l st H 0 0) := wp_get rfl (by decide +kernel)
theorem w2_4 : ma_W d 2 Q 4 (o0 :: some (.ref i) :: l) st H 0 0 = ma_W d 2 Q 5 (o0 :: some (.ref i) :: l) (.ref i :: st) H 0 0 := wp_aload_n (x := some i) rfl rfl
theorem w2_5 : ma_W d 2 Q 5 l (.ref i0 :: .ref i :: st) H 0 0 = (ma_cat st ≤ 8 ∧ ma_cv (H.1 i) 4 d 35 [.ref i, .ref i0] H (ma_kC d 2 Q 8 l st 0 0)) := wc_V0 (ia := 35) (n := 2) (cn := 4) rfl (by decide +kernel) (fun _ => rfl) rfl rfl
theorem w2_8 : ma_W d 2 Q 8 (some (.ref i) :: l) st H 0 0 = ma_W d 2 Q 9 (some (.ref i) :: l) (.ref i :: st) H 0 0 := wp_aload_n (x := some i) rfl rfl
theorem w2_9 : ma_W d 2 Q 9 l (.ref i :: st) H 0 0 = (ma_cat st ≤ 8 ∧ ma_cv (H.1 i) 0 d 3 [.ref i] H (ma_kC d 2 Q 12 l st 0 0)) := wc_V0 (ia := 3) (n := 1) (cn := 0) rfl (by decide +kernel) (fun _ => rfl) rfl rfl
theorem w2_12 : ma_W d 2 Q 12 l [] H 0 0 = Q none H := wp_vret rfl rfl
theorem e2 : ma_MW (d + 1) 2 [.ref i, .ref i0] H Q = ma_W d 2 Q 0 [some (.ref i), some (.ref i0)] [] H 0 0 := wp_enter (by decide) (Nat.le_of_ble_eq_true rfl) rfl
/-! 3 ga_forgetAllElse -/
theorem w3_0 : ma_W d 3 Q 0 (some (.ref i) :: l) st H 0 0 = ma_W d 3 Q 1 (some (.ref i) :: l) (.ref i :: st) H 0 0 := wp_aload_n (x := some i) rfl rfl
theorem w3_1 : ma_W d 3 Q 1 l (.ref i :: st) H 0 0 = ma_gf (H.1 i) 0 1 (ma_kV d 3 Q 4 l st H 0 0) := wp_get rfl (by decide +kernel)
theorem w3_4 : ma_W d 3 Q 4 l (.ref i :: st) H 0 0 = (ma_cat st ≤ 8 ∧ ma_cv (H.1 i) 1 d 7 [.ref i] H (ma_kC d 3 Q 7 l st 0 0)) := wc_V0 (ia := 7) (n := 1) (cn := 1) rfl (by decide +kernel) (fun _ => rfl) rfl rfl
theorem w3_7 : ma_W d 3 Q 7 (some (.ref i) :: l) st H 0 0 = ma_W d 3 Q 8 (some (.ref i) :: l) (.ref i :: st) H 0 0 := wp_aload_n (x := some i) rfl rfl
theorem w3_8 : ma_W d 3 Q 8 l (.ref i :: st) H 0 0 = ma_gf (H.1 i) 0 2 (ma_kV d 3 Q 11 l st H 0 0) := wp_get rfl (by decide +kernel)
theorem w3_11 : ma_W d 3 Q 11 l (.ref i :: st) H 0 0 = (ma_cat st ≤ 8 ∧ ma_cv (H.1 i) 3 d 27 [.ref i] H (ma_kC d 3 Q 14 l st 0 0)) := wc_V0 (ia := 27) (n := 1) (cn := 3) rfl (by decide +kernel) (fun _ => rfl) rfl rfl
theorem w3_14 : ma_W d 3 Q 14 (some (.ref i) :: l) st H 0 0 = ma_W d 3 Q 15 (some (.ref i) :: l) (.ref i :: st) H 0 0 := wp_aload_n (x := some i) rfl rfl
theorem w3_15 : ma_W d 3 Q 15 l (.ref i :: st) H 0 0 = ma_gf (H.1 i) 0 3 (ma_kV d 3 Q 18 l st H 0 0) := wp_get rfl (by decide +kernel)
theorem w3_18 : ma_W d 3 Q 18 l (.ref i :: st) H 0 0 = (ma_cat st ≤ 8 ∧ ma_cv (H.1 i) 3 d 27 [.ref i] H (ma_kC d 3 Q 21 l st 0 0)) := wc_V0 (ia := 27) (n := 1) (cn := 3) rfl (by decide +kernel) (fun _ => rfl) rfl rfl
theorem w3_21 : ma_W d 3 Q 21 l [] H 0 0 = Q none H := wp_vret rfl rfl
theorem e3 : ma_MW (d + 1) 3 [.ref i] H Q = ma_W d 3 Q 0 [some (.ref i)] [] H 0 0 := wp_enter (by decide) (Nat.le_of_ble_eq_true rfl) rfl
/-! 4 ga_copyFrom -/
theorem w4_0 : ma_W d 4 Q 0 (some (.ref i) :: l) st H 0 0 = ma_W d 4 Q 1 (some (.ref i) :: l) (.ref i :: st) H 0 0 := wp_aload_n (x := some i) rfl rfl
theorem w4_1 : ma_W d 4 Q 1 l (.ref i :: st) H 0 0 = ma_gf (H.1 i) 0 0 (ma_kV d 4 Q 4 l st H 0 0) := wp_get rfl (by decide +kernel)
theorem w4_4 : ma_W d 4 Q 4 (o0 :: some (.ref i) :: l) st H 0 0 = ma_W d 4 Q 5 (o0 :: some (.ref i) :: l) (.ref i :: st) H 0 0 := wp_aload_n (x := some i) rfl rfl
theorem w4_5 : ma_W d 4 Q 5 l (.ref i :: st) H 0 0 = ma_gf (H.1 i) 0 0 (ma_kV d 4 Q 8 l st H 0 0) := wp_get rfl (by decide +kernel)
theorem w4_8 : ma_W d 4 Q 8 l (.ref i0 :: .ref i :: st) H 0 0 = (ma_cat st ≤ 8 ∧ ma_cv (H.1 i) 4 d 35 [.ref i, .ref i0] H (ma_kC d 4 Q 11 l st 0 0)) := wc_V0 (ia := 35) (n := 2) (cn := 4) rfl (by decide +kernel) (fun _ => rfl) rfl rfl
theorem w4_11 : ma_W d 4 Q 11 (some (.ref i) :: l) st H 0 0 = ma_W d 4 Q 12 (some (.ref i) :: l) (.ref i :: st) H 0 0 := wp_aload_n (x := some i) rfl rfl
theorem w4_12 : ma_W d 4 Q 12 l (.ref i :: st) H 0 0 = ma_gf (H.1 i) 0 1 (ma_kV d 4 Q 15 l st H 0 0) := wp_get rfl (by decide +kernel)
theorem w4_15 : ma_W d 4 Q 15 (o0 :: some (.ref i) :: l) st H 0 0 = ma_W d 4 Q 16 (o0 :: some (.ref i) :: l) (.ref i :: st) H 0 0 := wp_aload_n (x := some i) rfl rfl
theorem w4_16 : ma_W d 4 Q 16 l (.ref i :: st) H 0 0 = ma_gf (H.1 i) 0 1 (ma_kV d 4 Q 19 l st H 0 0) := wp_get rfl (by decide +kernel)
theorem w4_19 : ma_W d 4 Q 19 l (.ref i0 :: .ref i :: st) H 0 0 = (ma_cat st ≤ 8 ∧ ma_cv (H.1 i) 1 d 10 [.ref i, .ref i0] H (ma_kC d 4 Q 22 l st 0 0)) := wc_V0 (ia := 10) (n := 2) (cn := 1) rfl (by decide +kernel) (fun _ => rfl) rfl rfl
theorem w4_22 : ma_W d 4 Q 22 (some (.ref i) :: l) st H 0 0 = ma_W d 4 Q 23 (some (.ref i) :: l) (.ref i :: st) H 0 0 := wp_aload_n (x := some i) rfl rfl
theorem w4_23 : ma_W d 4 Q 23 l (.ref i :: st) H 0 0 = ma_gf (H.1 i) 0 2 (ma_kV d 4 Q 26 l st H 0 0) := wp_get rfl (by decide +kernel)
theorem w4_26 : ma_W d 4 Q 26 (o0 :: some (.ref i) :: l) st H 0 0 = ma_W d 4 Q 27 (o0 :: some (.ref i) :: l) (.ref i :: st) H 0 0 := wp_aload_n (x := some i) rfl rfl
theorem w4_27 : ma_W d 4 Q 27 l (.ref i :: st) H 0 0 = ma_gf (H.1 i) 0 2 (ma_kV d 4 Q 30 l st H 0 0) := wp_get rfl (by decide +kernel)
theorem w4_30 : ma_W d 4 Q 30 l (.ref i0 :: .ref i :: st) H 0 0 = (ma_cat st ≤ 8 ∧ ma_cv (H.1 i) 3 d 32 [.ref i, .ref i0] H (ma_kC d 4 Q 33 l st 0 0)) := wc_V0 (ia := 32) (n := 2) (cn := 3) rfl (by decide +kernel) (fun _ => rfl) rfl rfl
theorem w4_33 : ma_W d 4 Q 33 (some (.ref i) :: l) st H 0 0 = ma_W d 4 Q 34 (some (.ref i) :: l) (.ref i :: st) H 0 0 := wp_aload_n (x := some i) rfl rfl
theorem w4_34 : ma_W d 4 Q 34 l (.ref i :: st) H 0 0 = ma_gf (H.1 i) 0 3 (ma_kV d 4 Q 37 l st H 0 0) := wp_get rfl (by decide +kernel)
theorem w4_37 : ma_W d 4 Q 37 (o0 :: some (.ref i) :: l) st H 0 0 = ma_W d 4 Q 38 (o0 :: some (.ref i) :: l) (.ref i :: st) H 0 0 := wp_aload_n (x := some i) rfl rfl
theorem w4_38 : ma_W d 4 Q 38 l (.ref i :: st) H 0 0 = ma_gf (H.1 i) 0 3 (ma_kV d 4 Q 41 l st H 0 0) := wp_get rfl (by decide +kernel)
theorem w4_41 : ma_W d 4 Q 41 l (.ref i0 :: .ref i :: st) H 0 0 = (ma_cat st ≤ 8 ∧ ma_cv (H.1 i) 3 d 32 [.ref i, .ref i0] H (ma_kC d 4 Q 44 l st 0 0)) := wc_V0 (ia := 32) (n := 2) (cn := 3) rfl (by decide +kernel) (fun _ => rfl) rfl rfl
theorem w4_44 : ma_W d 4 Q 44 l [] H 0 0 = Q none H := wp_vret rfl rfl
theorem e4 : ma_MW (d + 1) 4 [.ref i, .ref i0] H Q = ma_W d 4 Q 0 [some (.ref i), some (.ref i0)] [] H 0 0 := wp_enter (by decide) (Nat.le_of_ble_eq_true rfl) rfl
/-! 5 hi_init -/
theorem w5_0 : ma_W d 5 Q 0 (some (.ref i) :: l) st H a b = ma_W d 5 Q 1 (some (.ref i) :: l) (.ref i :: st) H a b := wp_aload_n (x := some i) rfl rfl
theorem w5_1 : ma_W d 5 Q 1 l (.ref i :: st) H a b = (ma_cat st ≤ 8 ∧ ma_W d 5 Q 4 l st H a b) := wc_obj (ia := 0) (n := 1) (cn := 0) rfl (by decide +kernel)
theorem w5_4 : ma_W d 5 Q 4 (some (.ref i) :: l) st H a b = ma_W d 5 Q 5 (some (.ref i) :: l) (.ref i :: st) H a b := wp_aload_n (x := some i) rfl rfl
theorem w5_5 : ma_W d 5 Q 5 l st H a b = ma_W d 5 Q 7 l (.int 8 :: st) H a b := wp_bipush rfl (by decide)
theorem w5_7 : ma_W d 5 Q 7 l (.int 8 :: st) H a b = (a + 1 ≤ 9 ∧ b + 8 ≤ 88 ∧ ma_W d 5 Q 10 l (.ref H.2 :: st) (ma_new H (.inl (.object "BeggarPile$Table", 8, .inr (.inr (.inr (.inr fun _ => none)))))) (a + 1) (b + 8)) := wp_newr (ci := 4) rfl (by decide +kernel) (by decide) rfl (by decide) (by decide) (by decide) rfl rfl
theorem w5_10 : ma_W d 5 Q 10 l (.ref j :: .ref i :: st) H a b = ma_pf (H.1 i) 1 0 (.ref j) (ma_kH d 5 Q 13 l st H i a b) := wp_put rfl (by decide +kernel) (by decide +kernel) rfl rfl
theorem w5_13 : ma_W d 5 Q 13 (some (.ref i) :: l) st H a b = ma_W d 5 Q 14 (some (.ref i) :: l) (.ref i :: st) H a b := wp_aload_n (x := some i) rfl rfl
theorem w5_14 : ma_W d 5 Q 14 l st H a b = ma_W d 5 Q 15 l (.int 0 :: st) H a b := wp_iconst rfl (by decide)
theorem w5_15 : ma_W d 5 Q 15 l (.int x :: .ref i :: st) H a b = ma_pf (H.1 i) 1 1 (.int x) (ma_kH d 5 Q 18 l st H i a b) := wp_put rfl (by decide +kernel) (by decide +kernel) rfl rfl
theorem w5_18 : ma_W d 5 Q 18 (some (.ref i) :: l) st H a b = ma_W d 5 Q 19 (some (.ref i) :: l) (.ref i :: st) H a b := wp_aload_n (x := some i) rfl rfl
theorem w5_19 : ma_W d 5 Q 19 l st H a b = ma_W d 5 Q 20 l (.int 0 :: st) H a b := wp_iconst rfl (by decide)
theorem w5_20 : ma_W d 5 Q 20 l (.int x :: .ref i :: st) H a b = ma_pf (H.1 i) 1 2 (.int x) (ma_kH d 5 Q 23 l st H i a b) := wp_put rfl (by decide +kernel) (by decide +kernel) rfl rfl
theorem w5_23 : ma_W d 5 Q 23 l st H a b = ma_W d 5 Q 24 l (.int 0 :: st) H a b := wp_iconst rfl (by decide)
theorem w5_24 : ma_W d 5 Q 24 (o0 :: p :: l) (.int x :: st) H a b = ma_W d 5 Q 25 (ma_clr o0 :: some (.int x) :: l) st H a b := wp_istore_n (id := 5) (pc := 24) (k := 1) rfl (Nat.succ_lt_succ (Nat.zero_lt_succ _))
theorem w5_25 : ma_W d 5 Q 25 (o0 :: some (.int x) :: l) st H a b = ma_W d 5 Q 26 (o0 :: some (.int x) :: l) (.int x :: st) H a b := wp_iload_n rfl rfl
theorem w5_26 : ma_W d 5 Q 26 l st H a b = ma_W d 5 Q 28 l (.int 8 :: st) H a b := wp_bipush rfl (by decide)
theorem w5_28 : ma_W d 5 Q 28 l (.int y :: .int x :: st) H a b = ma_if (y ≤ x) d 5 Q 50 31 l st H a b := wp_ic (id := 5) (pc := 28) (c := .ge) (off := 22) 50 rfl (by decide)
theorem w5_31 : ma_W d 5 Q 31 (some (.ref i) :: l) st H a b = ma_W d 5 Q 32 (some (.ref i) :: l) (.ref i :: st) H a b := wp_aload_n (x := some i) rfl rfl
theorem w5_32 : ma_W d 5 Q 32 l (.ref i :: st) H a b = ma_gf (H.1 i) 1 0 (ma_kV d 5 Q 35 l st H a b) := wp_get rfl (by decide +kernel)
theorem w5_35 : ma_W d 5 Q 35 (o0 :: some (.int x) :: l) st H a b = ma_W d 5 Q 36 (o0 :: some (.int x) :: l) (.int x :: st) H a b := wp_iload_n rfl rfl
theorem w5_36 : ma_W d 5 Q 36 l st H a b = (a + 1 ≤ 9 ∧ b + 10 ≤ 88 ∧ ma_W d 5 Q 39 l (.ref H.2 :: st) (ma_new H (.inr (4, [.int 0, .int 0, .int 0, .long 0, .long 0, .long 0, .int 0, .int 0, .int 0, .int 0]))) (a + 1) (b + 10)) := wp_new rfl (by decide +kernel) rfl rfl rfl rfl
theorem w5_39 : ma_W d 5 Q 39 l (.ref i :: st) H a b = ma_W d 5 Q 40 l (.ref i :: .ref i :: st) H a b := wp_dup rfl rfl
theorem w5_39i : ma_W d 5 Q 39 l (.int x :: st) H a b = ma_W d 5 Q 40 l (.int x :: .int x :: st) H a b := wp_dup rfl rfl
theorem w5_40 : ma_W d 5 Q 40 l (.ref i :: st) H a b = (ma_cat st ≤ 8 ∧ a + 0 ≤ 9 ∧ b + 0 ≤ 88 ∧ ma_MW d 33 [.ref i] H (ma_kC d 5 Q 43 l st (a + 0) (b + 0))) := wc_I (ia := 33) (n := 1) (cn := 4) (k := 4) rfl (by decide +kernel) (by decide) (fun _ => rfl) rfl rfl rfl
theorem w5_43 : ma_W d 5 Q 43 l (.ref j :: .int x :: .ref i :: st) H a b = ma_ras (H.1 i) (H.1 j) x j (ma_kH d 5 Q 44 l st H i a b) := wp_aast rfl
theorem w5_44 : ma_W d 5 Q 44 (o0 :: some (.int x) :: l) st H a b = ma_W d 5 Q 47 (ma_clr o0 :: some (.int (x + 1)) :: l) st H a b := wp_iinc (id := 5) (pc := 44) (k := 1) (n := 1) rfl (Nat.succ_lt_succ (Nat.zero_lt_succ _)) rfl (by decide)
theorem w5_47 : ma_W d 5 Q 47 l st H a b = ma_W d 5 Q 25 l st H a b := wp_goto 25 rfl (by decide)
theorem w5_50 : ma_W d 5 Q 50 l [] H a b = Q none H := wp_vret rfl rfl
theorem e5 : ma_MW (d + 1) 5 [.ref i] H Q = ma_W d 5 Q 0 [some (.ref i), none] [] H 0 0 := wp_enter (by decide) (Nat.le_of_ble_eq_true rfl) rfl
/-! 6 hi_size -/
theorem w6_0 : ma_W d 6 Q 0 (some (.ref i) :: l) st H 0 0 = ma_W d 6 Q 1 (some (.ref i) :: l) (.ref i :: st) H 0 0 := wp_aload_n (x := some i) rfl rfl
theorem w6_1 : ma_W d 6 Q 1 l (.ref i :: st) H 0 0 = ma_gf (H.1 i) 1 2 (ma_kV d 6 Q 4 l st H 0 0) := wp_get rfl (by decide +kernel)
theorem w6_4 : ma_W d 6 Q 4 l [.int x] H 0 0 = Q (some (.int x)) H := wp_iret rfl rfl
theorem e6 : ma_MW (d + 1) 6 [.ref i] H Q = ma_W d 6 Q 0 [some (.ref i)] [] H 0 0 := wp_enter (by decide) (Nat.le_of_ble_eq_true rfl) rfl
/-! 7 hi_empty -/
theorem w7_0 : ma_W d 7 Q 0 (some (.ref i) :: l) st H 0 0 = ma_W d 7 Q 1 (some (.ref i) :: l) (.ref i :: st) H 0 0 := wp_aload_n (x := some i) rfl rfl
theorem w7_1 : ma_W d 7 Q 1 l st H 0 0 = ma_W d 7 Q 2 l (.int 0 :: st) H 0 0 := wp_iconst rfl (by decide)
theorem w7_2 : ma_W d 7 Q 2 l (.int x :: .ref i :: st) H 0 0 = ma_pf (H.1 i) 1 1 (.int x) (ma_kH d 7 Q 5 l st H i 0 0) := wp_put rfl (by decide +kernel) (by decide +kernel) rfl rfl
theorem w7_5 : ma_W d 7 Q 5 (some (.ref i) :: l) st H 0 0 = ma_W d 7 Q 6 (some (.ref i) :: l) (.ref i :: st) H 0 0 := wp_aload_n (x := some i) rfl rfl
theorem w7_6 : ma_W d 7 Q 6 l st H 0 0 = ma_W d 7 Q 7 l (.int 0 :: st) H 0 0 := wp_iconst rfl (by decide)
theorem w7_7 : ma_W d 7 Q 7 l (.int x :: .ref i :: st) H 0 0 = ma_pf (H.1 i) 1 2 (.int x) (ma_kH d 7 Q 10 l st H i 0 0) := wp_put rfl (by decide +kernel) (by decide +kernel) rfl rfl
theorem w7_10 : ma_W d 7 Q 10 l [] H 0 0 = Q none H := wp_vret rfl rfl
theorem e7 : ma_MW (d + 1) 7 [.ref i] H Q = ma_W d 7 Q 0 [some (.ref i)] [] H 0 0 := wp_enter (by decide) (Nat.le_of_ble_eq_true rfl) rfl
/-! 8 hi_keep -/
theorem w8_0 : ma_W d 8 Q 0 (some (.ref i) :: l) st H 0 0 = ma_W d 8 Q 1 (some (.ref i) :: l) (.ref i :: st) H 0 0 := wp_aload_n (x := some i) rfl rfl
theorem w8_1 : ma_W d 8 Q 1 l (.ref i :: st) H 0 0 = ma_gf (H.1 i) 1 2 (ma_kV d 8 Q 4 l st H 0 0) := wp_get rfl (by decide +kernel)
theorem w8_4 : ma_W d 8 Q 4 l st H 0 0 = ma_W d 8 Q 6 l (.int 8 :: st) H 0 0 := wp_bipush rfl (by decide)
theorem w8_6 : ma_W d 8 Q 6 l (.int y :: .int x :: st) H 0 0 = ma_if (x = y) d 8 Q 9 32 l st H 0 0 := wp_ic (id := 8) (pc := 6) (c := .ne) (off := 26) 32 rfl (by decide)
theorem w8_9 : ma_W d 8 Q 9 (some (.ref i) :: l) st H 0 0 = ma_W d 8 Q 10 (some (.ref i) :: l) (.ref i :: st) H 0 0 := wp_aload_n (x := some i) rfl rfl
theorem w8_10 : ma_W d 8 Q 10 (some (.ref i) :: l) st H 0 0 = ma_W d 8 Q 11 (some (.ref i) :: l) (.ref i :: st) H 0 0 := wp_aload_n (x := some i) rfl rfl
theorem w8_11 : ma_W d 8 Q 11 l (.ref i :: st) H 0 0 = ma_gf (H.1 i) 1 1 (ma_kV d 8 Q 14 l st H 0 0) := wp_get rfl (by decide +kernel)
theorem w8_14 : ma_W d 8 Q 14 l st H 0 0 = ma_W d 8 Q 15 l (.int 1 :: st) H 0 0 := wp_iconst rfl (by decide)
theorem w8_15 : ma_W d 8 Q 15 l (.int y :: .int x :: st) H 0 0 = ma_W d 8 Q 16 l (.int (x + y) :: st) H 0 0 := wp_iadd rfl
theorem w8_16 : ma_W d 8 Q 16 l st H 0 0 = ma_W d 8 Q 18 l (.int 8 :: st) H 0 0 := wp_bipush rfl (by decide)
theorem w8_18 : ma_W d 8 Q 18 l (.int y :: .int x :: st) H 0 0 = (¬ y = 0 ∧ ma_W d 8 Q 19 l (.int (ma_rem x y) :: st) H 0 0) := wp_irem rfl
theorem w8_19 : ma_W d 8 Q 19 l (.int x :: .ref i :: st) H 0 0 = ma_pf (H.1 i) 1 1 (.int x) (ma_kH d 8 Q 22 l st H i 0 0) := wp_put rfl (by decide +kernel) (by decide +kernel) rfl rfl
theorem w8_22 : ma_W d 8 Q 22 (some (.ref i) :: l) st H 0 0 = ma_W d 8 Q 23 (some (.ref i) :: l) (.ref i :: st) H 0 0 := wp_aload_n (x := some i) rfl rfl
theorem w8_23 : ma_W d 8 Q 23 l (.ref i :: st) H 0 0 = ma_W d 8 Q 24 l (.ref i :: .ref i :: st) H 0 0 := wp_dup rfl rfl
theorem w8_23i : ma_W d 8 Q 23 l (.int x :: st) H 0 0 = ma_W d 8 Q 24 l (.int x :: .int x :: st) H 0 0 := wp_dup rfl rfl
theorem w8_24 : ma_W d 8 Q 24 l (.ref i :: st) H 0 0 = ma_gf (H.1 i) 1 2 (ma_kV d 8 Q 27 l st H 0 0) := wp_get rfl (by decide +kernel)
theorem w8_27 : ma_W d 8 Q 27 l st H 0 0 = ma_W d 8 Q 28 l (.int 1 :: st) H 0 0 := wp_iconst rfl (by decide)
theorem w8_28 : ma_W d 8 Q 28 l (.int y :: .int x :: st) H 0 0 = ma_W d 8 Q 29 l (.int (x - y) :: st) H 0 0 := wp_isub rfl
theorem w8_29 : ma_W d 8 Q 29 l (.int x :: .ref i :: st) H 0 0 = ma_pf (H.1 i) 1 2 (.int x) (ma_kH d 8 Q 32 l st H i 0 0) := wp_put rfl (by decide +kernel) (by decide +kernel) rfl rfl
theorem w8_32 : ma_W d 8 Q 32 (some (.ref i) :: l) st H 0 0 = ma_W d 8 Q 33 (some (.ref i) :: l) (.ref i :: st) H 0 0 := wp_aload_n (x := some i) rfl rfl
theorem w8_33 : ma_W d 8 Q 33 l (.ref i :: st) H 0 0 = ma_gf (H.1 i) 1 0 (ma_kV d 8 Q 36 l st H 0 0) := wp_get rfl (by decide +kernel)
theorem w8_36 : ma_W d 8 Q 36 (some (.ref i) :: l) st H 0 0 = ma_W d 8 Q 37 (some (.ref i) :: l) (.ref i :: st) H 0 0 := wp_aload_n (x := some i) rfl rfl
theorem w8_37 : ma_W d 8 Q 37 l (.ref i :: st) H 0 0 = ma_gf (H.1 i) 1 1 (ma_kV d 8 Q 40 l st H 0 0) := wp_get rfl (by decide +kernel)
theorem w8_40 : ma_W d 8 Q 40 (some (.ref i) :: l) st H 0 0 = ma_W d 8 Q 41 (some (.ref i) :: l) (.ref i :: st) H 0 0 := wp_aload_n (x := some i) rfl rfl
theorem w8_41 : ma_W d 8 Q 41 l (.ref i :: st) H 0 0 = ma_gf (H.1 i) 1 2 (ma_kV d 8 Q 44 l st H 0 0) := wp_get rfl (by decide +kernel)
theorem w8_44 : ma_W d 8 Q 44 l (.int y :: .int x :: st) H 0 0 = ma_W d 8 Q 45 l (.int (x + y) :: st) H 0 0 := wp_iadd rfl
theorem w8_45 : ma_W d 8 Q 45 l st H 0 0 = ma_W d 8 Q 47 l (.int 8 :: st) H 0 0 := wp_bipush rfl (by decide)
theorem w8_47 : ma_W d 8 Q 47 l (.int y :: .int x :: st) H 0 0 = (¬ y = 0 ∧ ma_W d 8 Q 48 l (.int (ma_rem x y) :: st) H 0 0) := wp_irem rfl
theorem w8_48 : ma_W d 8 Q 48 l (.int x :: .ref i :: st) H 0 0 = ma_ral (H.1 i) x (ma_kV d 8 Q 49 l st H 0 0) := wp_aald rfl
theorem w8_49 : ma_W d 8 Q 49 (o0 :: some (.ref i) :: l) st H 0 0 = ma_W d 8 Q 50 (o0 :: some (.ref i) :: l) (.ref i :: st) H 0 0 := wp_aload_n (x := some i) rfl rfl
theorem w8_50 : ma_W d 8 Q 50 l (.ref i1 :: .ref i0 :: st) H 0 0 = (ma_cat st ≤ 8 ∧ ma_MW d 11 [.ref i0, .ref i1] H (ma_kC d 8 Q 53 l st 0 0)) := wc_S0 (ia := 11) (n := 2) (cn := 1) (k := 1) rfl (by decide +kernel) (by decide) (fun _ => rfl) rfl rfl
theorem w8_53 : ma_W d 8 Q 53 (some (.ref i) :: l) st H 0 0 = ma_W d 8 Q 54 (some (.ref i) :: l) (.ref i :: st) H 0 0 := wp_aload_n (x := some i) rfl rfl
theorem w8_54 : ma_W d 8 Q 54 l (.ref i :: st) H 0 0 = ma_W d 8 Q 55 l (.ref i :: .ref i :: st) H 0 0 := wp_dup rfl rfl
theorem w8_54i : ma_W d 8 Q 54 l (.int x :: st) H 0 0 = ma_W d 8 Q 55 l (.int x :: .int x :: st) H 0 0 := wp_dup rfl rfl
theorem w8_55 : ma_W d 8 Q 55 l (.ref i :: st) H 0 0 = ma_gf (H.1 i) 1 2 (ma_kV d 8 Q 58 l st H 0 0) := wp_get rfl (by decide +kernel)
theorem w8_58 : ma_W d 8 Q 58 l st H 0 0 = ma_W d 8 Q 59 l (.int 1 :: st) H 0 0 := wp_iconst rfl (by decide)
theorem w8_59 : ma_W d 8 Q 59 l (.int y :: .int x :: st) H 0 0 = ma_W d 8 Q 60 l (.int (x + y) :: st) H 0 0 := wp_iadd rfl
theorem w8_60 : ma_W d 8 Q 60 l (.int x :: .ref i :: st) H 0 0 = ma_pf (H.1 i) 1 2 (.int x) (ma_kH d 8 Q 63 l st H i 0 0) := wp_put rfl (by decide +kernel) (by decide +kernel) rfl rfl
theorem w8_63 : ma_W d 8 Q 63 l [] H 0 0 = Q none H := wp_vret rfl rfl
theorem e8 : ma_MW (d + 1) 8 [.ref i, .ref i0] H Q = ma_W d 8 Q 0 [some (.ref i), some (.ref i0)] [] H 0 0 := wp_enter (by decide) (Nat.le_of_ble_eq_true rfl) rfl
/-! 9 hi_bringBack -/
theorem w9_0 : ma_W d 9 Q 0 (some (.ref i) :: l) st H 0 0 = ma_W d 9 Q 1 (some (.ref i) :: l) (.ref i :: st) H 0 0 := wp_aload_n (x := some i) rfl rfl
theorem w9_1 : ma_W d 9 Q 1 l (.ref i :: st) H 0 0 = ma_gf (H.1 i) 1 2 (ma_kV d 9 Q 4 l st H 0 0) := wp_get rfl (by decide +kernel)
theorem w9_4 : ma_W d 9 Q 4 l (.int x :: st) H 0 0 = ma_if (x ≤ 0) d 9 Q 38 7 l st H 0 0 := wp_c0 (id := 9) (pc := 4) (c := .le) (off := 34) 38 rfl (by decide)
theorem w9_7 : ma_W d 9 Q 7 (some (.ref i) :: l) st H 0 0 = ma_W d 9 Q 8 (some (.ref i) :: l) (.ref i :: st) H 0 0 := wp_aload_n (x := some i) rfl rfl
theorem w9_8 : ma_W d 9 Q 8 l (.ref i :: st) H 0 0 = ma_W d 9 Q 9 l (.ref i :: .ref i :: st) H 0 0 := wp_dup rfl rfl
theorem w9_8i : ma_W d 9 Q 8 l (.int x :: st) H 0 0 = ma_W d 9 Q 9 l (.int x :: .int x :: st) H 0 0 := wp_dup rfl rfl
theorem w9_9 : ma_W d 9 Q 9 l (.ref i :: st) H 0 0 = ma_gf (H.1 i) 1 2 (ma_kV d 9 Q 12 l st H 0 0) := wp_get rfl (by decide +kernel)
theorem w9_12 : ma_W d 9 Q 12 l st H 0 0 = ma_W d 9 Q 13 l (.int 1 :: st) H 0 0 := wp_iconst rfl (by decide)
theorem w9_13 : ma_W d 9 Q 13 l (.int y :: .int x :: st) H 0 0 = ma_W d 9 Q 14 l (.int (x - y) :: st) H 0 0 := wp_isub rfl
theorem w9_14 : ma_W d 9 Q 14 l (.int x :: .ref i :: st) H 0 0 = ma_pf (H.1 i) 1 2 (.int x) (ma_kH d 9 Q 17 l st H i 0 0) := wp_put rfl (by decide +kernel) (by decide +kernel) rfl rfl
theorem w9_17 : ma_W d 9 Q 17 (o0 :: some (.ref i) :: l) st H 0 0 = ma_W d 9 Q 18 (o0 :: some (.ref i) :: l) (.ref i :: st) H 0 0 := wp_aload_n (x := some i) rfl rfl
theorem w9_18 : ma_W d 9 Q 18 (some (.ref i) :: l) st H 0 0 = ma_W d 9 Q 19 (some (.ref i) :: l) (.ref i :: st) H 0 0 := wp_aload_n (x := some i) rfl rfl
theorem w9_19 : ma_W d 9 Q 19 l (.ref i :: st) H 0 0 = ma_gf (H.1 i) 1 0 (ma_kV d 9 Q 22 l st H 0 0) := wp_get rfl (by decide +kernel)
theorem w9_22 : ma_W d 9 Q 22 (some (.ref i) :: l) st H 0 0 = ma_W d 9 Q 23 (some (.ref i) :: l) (.ref i :: st) H 0 0 := wp_aload_n (x := some i) rfl rfl
theorem w9_23 : ma_W d 9 Q 23 l (.ref i :: st) H 0 0 = ma_gf (H.1 i) 1 1 (ma_kV d 9 Q 26 l st H 0 0) := wp_get rfl (by decide +kernel)
theorem w9_26 : ma_W d 9 Q 26 (some (.ref i) :: l) st H 0 0 = ma_W d 9 Q 27 (some (.ref i) :: l) (.ref i :: st) H 0 0 := wp_aload_n (x := some i) rfl rfl
theorem w9_27 : ma_W d 9 Q 27 l (.ref i :: st) H 0 0 = ma_gf (H.1 i) 1 2 (ma_kV d 9 Q 30 l st H 0 0) := wp_get rfl (by decide +kernel)
theorem w9_30 : ma_W d 9 Q 30 l (.int y :: .int x :: st) H 0 0 = ma_W d 9 Q 31 l (.int (x + y) :: st) H 0 0 := wp_iadd rfl
theorem w9_31 : ma_W d 9 Q 31 l st H 0 0 = ma_W d 9 Q 33 l (.int 8 :: st) H 0 0 := wp_bipush rfl (by decide)
theorem w9_33 : ma_W d 9 Q 33 l (.int y :: .int x :: st) H 0 0 = (¬ y = 0 ∧ ma_W d 9 Q 34 l (.int (ma_rem x y) :: st) H 0 0) := wp_irem rfl
theorem w9_34 : ma_W d 9 Q 34 l (.int x :: .ref i :: st) H 0 0 = ma_ral (H.1 i) x (ma_kV d 9 Q 35 l st H 0 0) := wp_aald rfl
theorem w9_35 : ma_W d 9 Q 35 l (.ref i1 :: .ref i0 :: st) H 0 0 = (ma_cat st ≤ 8 ∧ ma_MW d 11 [.ref i0, .ref i1] H (ma_kC d 9 Q 38 l st 0 0)) := wc_S0 (ia := 11) (n := 2) (cn := 1) (k := 1) rfl (by decide +kernel) (by decide) (fun _ => rfl) rfl rfl
theorem w9_38 : ma_W d 9 Q 38 l [] H 0 0 = Q none H := wp_vret rfl rfl
theorem e9 : ma_MW (d + 1) 9 [.ref i, .ref i0] H Q = ma_W d 9 Q 0 [some (.ref i), some (.ref i0)] [] H 0 0 := wp_enter (by decide) (Nat.le_of_ble_eq_true rfl) rfl
/-! 10 hi_copyFrom -/
theorem w10_0 : ma_W d 10 Q 0 (some (.ref i) :: l) st H 0 0 = ma_W d 10 Q 1 (some (.ref i) :: l) (.ref i :: st) H 0 0 := wp_aload_n (x := some i) rfl rfl
theorem w10_1 : ma_W d 10 Q 1 (o0 :: some (.ref i) :: l) st H 0 0 = ma_W d 10 Q 2 (o0 :: some (.ref i) :: l) (.ref i :: st) H 0 0 := wp_aload_n (x := some i) rfl rfl
theorem w10_2 : ma_W d 10 Q 2 l (.ref i :: st) H 0 0 = ma_gf (H.1 i) 1 1 (ma_kV d 10 Q 5 l st H 0 0) := wp_get rfl (by decide +kernel)
theorem w10_5 : ma_W d 10 Q 5 l (.int x :: .ref i :: st) H 0 0 = ma_pf (H.1 i) 1 1 (.int x) (ma_kH d 10 Q 8 l st H i 0 0) := wp_put rfl (by decide +kernel) (by decide +kernel) rfl rfl
theorem w10_8 : ma_W d 10 Q 8 (some (.ref i) :: l) st H 0 0 = ma_W d 10 Q 9 (some (.ref i) :: l) (.ref i :: st) H 0 0 := wp_aload_n (x := some i) rfl rfl
theorem w10_9 : ma_W d 10 Q 9 (o0 :: some (.ref i) :: l) st H 0 0 = ma_W d 10 Q 10 (o0 :: some (.ref i) :: l) (.ref i :: st) H 0 0 := wp_aload_n (x := some i) rfl rfl
theorem w10_10 : ma_W d 10 Q 10 l (.ref i :: st) H 0 0 = ma_gf (H.1 i) 1 2 (ma_kV d 10 Q 13 l st H 0 0) := wp_get rfl (by decide +kernel)
theorem w10_13 : ma_W d 10 Q 13 l (.int x :: .ref i :: st) H 0 0 = ma_pf (H.1 i) 1 2 (.int x) (ma_kH d 10 Q 16 l st H i 0 0) := wp_put rfl (by decide +kernel) (by decide +kernel) rfl rfl
theorem w10_16 : ma_W d 10 Q 16 l st H 0 0 = ma_W d 10 Q 17 l (.int 0 :: st) H 0 0 := wp_iconst rfl (by decide)
theorem w10_17 : ma_W d 10 Q 17 (o0 :: o1 :: p :: l) (.int x :: st) H 0 0 = ma_W d 10 Q 18 (o0 :: ma_clr o1 :: some (.int x) :: l) st H 0 0 := wp_istore_n (id := 10) (pc := 17) (k := 2) rfl (Nat.succ_lt_succ (Nat.succ_lt_succ (Nat.zero_lt_succ _)))
theorem w10_18 : ma_W d 10 Q 18 (o0 :: o1 :: some (.int x) :: l) st H 0 0 = ma_W d 10 Q 19 (o0 :: o1 :: some (.int x) :: l) (.int x :: st) H 0 0 := wp_iload_n rfl rfl
theorem w10_19 : ma_W d 10 Q 19 l st H 0 0 = ma_W d 10 Q 21 l (.int 8 :: st) H 0 0 := wp_bipush rfl (by decide)
theorem w10_21 : ma_W d 10 Q 21 l (.int y :: .int x :: st) H 0 0 = ma_if (y ≤ x) d 10 Q 45 24 l st H 0 0 := wp_ic (id := 10) (pc := 21) (c := .ge) (off := 24) 45 rfl (by decide)
theorem w10_24 : ma_W d 10 Q 24 (some (.ref i) :: l) st H 0 0 = ma_W d 10 Q 25 (some (.ref i) :: l) (.ref i :: st) H 0 0 := wp_aload_n (x := some i) rfl rfl
theorem w10_25 : ma_W d 10 Q 25 l (.ref i :: st) H 0 0 = ma_gf (H.1 i) 1 0 (ma_kV d 10 Q 28 l st H 0 0) := wp_get rfl (by decide +kernel)
theorem w10_28 : ma_W d 10 Q 28 (o0 :: o1 :: some (.int x) :: l) st H 0 0 = ma_W d 10 Q 29 (o0 :: o1 :: some (.int x) :: l) (.int x :: st) H 0 0 := wp_iload_n rfl rfl
theorem w10_29 : ma_W d 10 Q 29 l (.int x :: .ref i :: st) H 0 0 = ma_ral (H.1 i) x (ma_kV d 10 Q 30 l st H 0 0) := wp_aald rfl
theorem w10_30 : ma_W d 10 Q 30 (o0 :: some (.ref i) :: l) st H 0 0 = ma_W d 10 Q 31 (o0 :: some (.ref i) :: l) (.ref i :: st) H 0 0 := wp_aload_n (x := some i) rfl rfl
theorem w10_31 : ma_W d 10 Q 31 l (.ref i :: st) H 0 0 = ma_gf (H.1 i) 1 0 (ma_kV d 10 Q 34 l st H 0 0) := wp_get rfl (by decide +kernel)
theorem w10_34 : ma_W d 10 Q 34 (o0 :: o1 :: some (.int x) :: l) st H 0 0 = ma_W d 10 Q 35 (o0 :: o1 :: some (.int x) :: l) (.int x :: st) H 0 0 := wp_iload_n rfl rfl
theorem w10_35 : ma_W d 10 Q 35 l (.int x :: .ref i :: st) H 0 0 = ma_ral (H.1 i) x (ma_kV d 10 Q 36 l st H 0 0) := wp_aald rfl
theorem w10_36 : ma_W d 10 Q 36 l (.ref i1 :: .ref i0 :: st) H 0 0 = (ma_cat st ≤ 8 ∧ ma_MW d 11 [.ref i0, .ref i1] H (ma_kC d 10 Q 39 l st 0 0)) := wc_S0 (ia := 11) (n := 2) (cn := 1) (k := 1) rfl (by decide +kernel) (by decide) (fun _ => rfl) rfl rfl
theorem w10_39 : ma_W d 10 Q 39 (o0 :: o1 :: some (.int x) :: l) st H 0 0 = ma_W d 10 Q 42 (o0 :: ma_clr o1 :: some (.int (x + 1)) :: l) st H 0 0 := wp_iinc (id := 10) (pc := 39) (k := 2) (n := 1) rfl (Nat.succ_lt_succ (Nat.succ_lt_succ (Nat.zero_lt_succ _))) rfl (by decide)
theorem w10_42 : ma_W d 10 Q 42 l st H 0 0 = ma_W d 10 Q 18 l st H 0 0 := wp_goto 18 rfl (by decide)
theorem w10_45 : ma_W d 10 Q 45 l [] H 0 0 = Q none H := wp_vret rfl rfl
theorem e10 : ma_MW (d + 1) 10 [.ref i, .ref i0] H Q = ma_W d 10 Q 0 [some (.ref i), some (.ref i0), none] [] H 0 0 := wp_enter (by decide) (Nat.le_of_ble_eq_true rfl) rfl
/-! 11 hi_copyTable -/
theorem w11_0 : ma_W d 11 Q 0 (some (.ref i) :: l) st H 0 0 = ma_W d 11 Q 1 (some (.ref i) :: l) (.ref i :: st) H 0 0 := wp_aload_n (x := some i) rfl rfl
theorem w11_1 : ma_W d 11 Q 1 l (.ref i :: st) H 0 0 = ma_W d 11 Q 4 l st H 0 0 := wp_nullR 13 rfl (by decide)
theorem w11_4 : ma_W d 11 Q 4 (o0 :: some (.ref i) :: l) st H 0 0 = ma_W d 11 Q 5 (o0 :: some (.ref i) :: l) (.ref i :: st) H 0 0 := wp_aload_n (x := some i) rfl rfl
theorem w11_5 : ma_W d 11 Q 5 l (.ref i :: st) H 0 0 = ma_W d 11 Q 8 l st H 0 0 := wp_nullR 13 rfl (by decide)
theorem w11_8 : ma_W d 11 Q 8 (some (.ref i) :: l) st H 0 0 = ma_W d 11 Q 9 (some (.ref i) :: l) (.ref i :: st) H 0 0 := wp_aload_n (x := some i) rfl rfl
theorem w11_9 : ma_W d 11 Q 9 (o0 :: some (.ref i) :: l) st H 0 0 = ma_W d 11 Q 10 (o0 :: some (.ref i) :: l) (.ref i :: st) H 0 0 := wp_aload_n (x := some i) rfl rfl
theorem w11_10 : ma_W d 11 Q 10 l (.ref i0 :: .ref i :: st) H 0 0 = (ma_cat st ≤ 8 ∧ ma_cv (H.1 i) 4 d 35 [.ref i, .ref i0] H (ma_kC d 11 Q 13 l st 0 0)) := wc_V0 (ia := 35) (n := 2) (cn := 4) rfl (by decide +kernel) (fun _ => rfl) rfl rfl
theorem w11_13 : ma_W d 11 Q 13 l [] H 0 0 = Q none H := wp_vret rfl rfl
theorem e11 : ma_MW (d + 1) 11 [.ref i0, .ref i1] H Q = ma_W d 11 Q 0 [some (.ref i0), some (.ref i1)] [] H 0 0 := wp_enter (by decide) (Nat.le_of_ble_eq_true rfl) rfl
/-! 12 re_init -/
theorem w12_0 : ma_W d 12 Q 0 (some (.ref i) :: l) st H 0 0 = ma_W d 12 Q 1 (some (.ref i) :: l) (.ref i :: st) H 0 0 := wp_aload_n (x := some i) rfl rfl
theorem w12_1 : ma_W d 12 Q 1 l (.ref i :: st) H 0 0 = (ma_cat st ≤ 8 ∧ ma_W d 12 Q 4 l st H 0 0) := wc_obj (ia := 0) (n := 1) (cn := 0) rfl (by decide +kernel)
theorem w12_4 : ma_W d 12 Q 4 (some (.ref i) :: l) st H 0 0 = ma_W d 12 Q 5 (some (.ref i) :: l) (.ref i :: st) H 0 0 := wp_aload_n (x := some i) rfl rfl
theorem w12_5 : ma_W d 12 Q 5 l st H 0 0 = ma_W d 12 Q 6 l (.int 0 :: st) H 0 0 := wp_iconst rfl (by decide)
theorem w12_6 : ma_W d 12 Q 6 l (.int x :: .ref i :: st) H 0 0 = ma_pf (H.1 i) 2 1 (.int x) (ma_kH d 12 Q 9 l st H i 0 0) := wp_put rfl (by decide +kernel) (by decide +kernel) rfl rfl
theorem w12_9 : ma_W d 12 Q 9 (some (.ref i) :: l) st H 0 0 = ma_W d 12 Q 10 (some (.ref i) :: l) (.ref i :: st) H 0 0 := wp_aload_n (x := some i) rfl rfl
theorem w12_10 : ma_W d 12 Q 10 l st H 0 0 = ma_W d 12 Q 11 l (.int 0 :: st) H 0 0 := wp_iconst rfl (by decide)
theorem w12_11 : ma_W d 12 Q 11 l (.int x :: .ref i :: st) H 0 0 = ma_pf (H.1 i) 2 2 (.int x) (ma_kH d 12 Q 14 l st H i 0 0) := wp_put rfl (by decide +kernel) (by decide +kernel) rfl rfl
theorem w12_14 : ma_W d 12 Q 14 (some (.ref i) :: l) st H 0 0 = ma_W d 12 Q 15 (some (.ref i) :: l) (.ref i :: st) H 0 0 := wp_aload_n (x := some i) rfl rfl
theorem w12_15 : ma_W d 12 Q 15 l st H 0 0 = ma_W d 12 Q 16 l (.int 0 :: st) H 0 0 := wp_iconst rfl (by decide)
theorem w12_16 : ma_W d 12 Q 16 l (.int x :: .ref i :: st) H 0 0 = ma_pf (H.1 i) 2 3 (.int x) (ma_kH d 12 Q 19 l st H i 0 0) := wp_put rfl (by decide +kernel) (by decide +kernel) rfl rfl
theorem w12_19 : ma_W d 12 Q 19 (some (.ref i) :: l) st H 0 0 = ma_W d 12 Q 20 (some (.ref i) :: l) (.ref i :: st) H 0 0 := wp_aload_n (x := some i) rfl rfl
theorem w12_20 : ma_W d 12 Q 20 l st H 0 0 = ma_W d 12 Q 21 l (.int 0 :: st) H 0 0 := wp_iconst rfl (by decide)
theorem w12_21 : ma_W d 12 Q 21 l (.int x :: .ref i :: st) H 0 0 = ma_pf (H.1 i) 2 4 (.int x) (ma_kH d 12 Q 24 l st H i 0 0) := wp_put rfl (by decide +kernel) (by decide +kernel) rfl rfl
theorem w12_24 : ma_W d 12 Q 24 (some (.ref i) :: l) st H 0 0 = ma_W d 12 Q 25 (some (.ref i) :: l) (.ref i :: st) H 0 0 := wp_aload_n (x := some i) rfl rfl
theorem w12_25 : ma_W d 12 Q 25 (o0 :: some (.ref i) :: l) st H 0 0 = ma_W d 12 Q 26 (o0 :: some (.ref i) :: l) (.ref i :: st) H 0 0 := wp_aload_n (x := some i) rfl rfl
theorem w12_26 : ma_W d 12 Q 26 l (.ref j :: .ref i :: st) H 0 0 = ma_pf (H.1 i) 2 0 (.ref j) (ma_kH d 12 Q 29 l st H i 0 0) := wp_put rfl (by decide +kernel) (by decide +kernel) rfl rfl
theorem w12_29 : ma_W d 12 Q 29 l [] H 0 0 = Q none H := wp_vret rfl rfl
theorem e12 : ma_MW (d + 1) 12 [.ref i, .ref i0] H Q = ma_W d 12 Q 0 [some (.ref i), some (.ref i0)] [] H 0 0 := wp_enter (by decide) (Nat.le_of_ble_eq_true rfl) rfl
/-! 13 re_readInto -/
theorem w13_0 : ma_W d 13 Q 0 (some (.ref i) :: l) st H 0 0 = ma_W d 13 Q 1 (some (.ref i) :: l) (.ref i :: st) H 0 0 := wp_aload_n (x := some i) rfl rfl
theorem w13_1 : ma_W d 13 Q 1 l st H 0 0 = ma_W d 13 Q 2 l (.int 0 :: st) H 0 0 := wp_iconst rfl (by decide)
theorem w13_2 : ma_W d 13 Q 2 l (.int x :: .ref i :: st) H 0 0 = ma_pf (H.1 i) 2 3 (.int x) (ma_kH d 13 Q 5 l st H i 0 0) := wp_put rfl (by decide +kernel) (by decide +kernel) rfl rfl
theorem w13_5 : ma_W d 13 Q 5 (some (.ref i) :: l) st H 0 0 = ma_W d 13 Q 6 (some (.ref i) :: l) (.ref i :: st) H 0 0 := wp_aload_n (x := some i) rfl rfl
theorem w13_6 : ma_W d 13 Q 6 l (.ref i :: st) H 0 0 = (ma_cat st ≤ 8 ∧ ma_cv (H.1 i) 2 d 19 [.ref i] H (ma_kC d 13 Q 9 l st 0 0)) := wc_V0 (ia := 19) (n := 1) (cn := 2) rfl (by decide +kernel) (fun _ => rfl) rfl rfl
theorem w13_9 : ma_W d 13 Q 9 (some (.ref i) :: l) st H 0 0 = ma_W d 13 Q 10 (some (.ref i) :: l) (.ref i :: st) H 0 0 := wp_aload_n (x := some i) rfl rfl
theorem w13_10 : ma_W d 13 Q 10 (o0 :: some (.ref i) :: l) st H 0 0 = ma_W d 13 Q 11 (o0 :: some (.ref i) :: l) (.ref i :: st) H 0 0 := wp_aload_n (x := some i) rfl rfl
theorem w13_11 : ma_W d 13 Q 11 l (.ref i0 :: .ref i :: st) H 0 0 = (ma_cat st ≤ 8 ∧ ma_cv (H.1 i) 2 d 14 [.ref i, .ref i0] H (ma_kC d 13 Q 14 l st 0 0)) := wc_V0 (ia := 14) (n := 2) (cn := 2) rfl (by decide +kernel) (fun _ => rfl) rfl rfl
theorem w13_14 : ma_W d 13 Q 14 (o0 :: o1 :: p :: l) (.int x :: st) H 0 0 = ma_W d 13 Q 15 (o0 :: ma_clr o1 :: some (.int x) :: l) st H 0 0 := wp_istore_n (id := 13) (pc := 14) (k := 2) rfl (Nat.succ_lt_succ (Nat.succ_lt_succ (Nat.zero_lt_succ _)))
theorem w13_15 : ma_W d 13 Q 15 l st H 0 0 = ma_W d 13 Q 16 l (.int 1 :: st) H 0 0 := wp_iconst rfl (by decide)
theorem w13_16 : ma_W d 13 Q 16 (o0 :: o1 :: o2 :: p :: l) (.int x :: st) H 0 0 = ma_W d 13 Q 17 (o0 :: o1 :: ma_clr o2 :: some (.int x) :: l) st H 0 0 := wp_istore_n (id := 13) (pc := 16) (k := 3) rfl (Nat.succ_lt_succ (Nat.succ_lt_succ (Nat.succ_lt_succ (Nat.zero_lt_succ _))))
theorem w13_17 : ma_W d 13 Q 17 (o0 :: o1 :: some (.int x) :: l) st H 0 0 = ma_W d 13 Q 18 (o0 :: o1 :: some (.int x) :: l) (.int x :: st) H 0 0 := wp_iload_n rfl rfl
theorem w13_18 : ma_W d 13 Q 18 l (.int x :: st) H 0 0 = ma_if (x = 0) d 13 Q 63 21 l st H 0 0 := wp_c0 (id := 13) (pc := 18) (c := .eq) (off := 45) 63 rfl (by decide)
theorem w13_21 : ma_W d 13 Q 21 (some (.ref i) :: l) st H 0 0 = ma_W d 13 Q 22 (some (.ref i) :: l) (.ref i :: st) H 0 0 := wp_aload_n (x := some i) rfl rfl
theorem w13_22 : ma_W d 13 Q 22 l (.ref i :: st) H 0 0 = ma_gf (H.1 i) 2 1 (ma_kV d 13 Q 25 l st H 0 0) := wp_get rfl (by decide +kernel)
theorem w13_25 : ma_W d 13 Q 25 l (.int x :: st) H 0 0 = ma_if (x = 0) d 13 Q 63 28 l st H 0 0 := wp_c0 (id := 13) (pc := 25) (c := .eq) (off := 38) 63 rfl (by decide)
theorem w13_28 : ma_W d 13 Q 28 (o0 :: o1 :: o2 :: some (.int x) :: l) st H 0 0 = ma_W d 13 Q 29 (o0 :: o1 :: o2 :: some (.int x) :: l) (.int x :: st) H 0 0 := wp_iload_n rfl rfl
theorem w13_29 : ma_W d 13 Q 29 l st H 0 0 = ma_W d 13 Q 32 l (.int 150 :: st) H 0 0 := wp_sipush rfl (by decide)
theorem w13_32 : ma_W d 13 Q 32 l (.int y :: .int x :: st) H 0 0 = ma_if (y ≤ x) d 13 Q 63 35 l st H 0 0 := wp_ic (id := 13) (pc := 32) (c := .ge) (off := 31) 63 rfl (by decide)
theorem w13_35 : ma_W d 13 Q 35 (some (.ref i) :: l) st H 0 0 = ma_W d 13 Q 36 (some (.ref i) :: l) (.ref i :: st) H 0 0 := wp_aload_n (x := some i) rfl rfl
theorem w13_36 : ma_W d 13 Q 36 l (.ref i :: st) H 0 0 = ma_gf (H.1 i) 2 1 (ma_kV d 13 Q 39 l st H 0 0) := wp_get rfl (by decide +kernel)
theorem w13_39 : ma_W d 13 Q 39 l st H 0 0 = ma_W d 13 Q 40 l (.int 4 :: st) H 0 0 := wp_iconst rfl (by decide)
theorem w13_40 : ma_W d 13 Q 40 l (.int y :: .int x :: st) H 0 0 = ma_if (x = y) d 13 Q 43 51 l st H 0 0 := wp_ic (id := 13) (pc := 40) (c := .ne) (off := 11) 51 rfl (by decide)
theorem w13_43 : ma_W d 13 Q 43 (some (.ref i) :: l) st H 0 0 = ma_W d 13 Q 44 (some (.ref i) :: l) (.ref i :: st) H 0 0 := wp_aload_n (x := some i) rfl rfl
theorem w13_44 : ma_W d 13 Q 44 (o0 :: some (.ref i) :: l) st H 0 0 = ma_W d 13 Q 45 (o0 :: some (.ref i) :: l) (.ref i :: st) H 0 0 := wp_aload_n (x := some i) rfl rfl
theorem w13_45 : ma_W d 13 Q 45 l (.ref i0 :: .ref i :: st) H 0 0 = (ma_cat st ≤ 8 ∧ ma_cv (H.1 i) 2 d 15 [.ref i, .ref i0] H (ma_kC d 13 Q 48 l st 0 0)) := wc_V0 (ia := 15) (n := 2) (cn := 2) rfl (by decide +kernel) (fun _ => rfl) rfl rfl
theorem w13_48 : ma_W d 13 Q 48 l st H 0 0 = ma_W d 13 Q 56 l st H 0 0 := wp_goto 56 rfl (by decide)
theorem w13_51 : ma_W d 13 Q 51 (some (.ref i) :: l) st H 0 0 = ma_W d 13 Q 52 (some (.ref i) :: l) (.ref i :: st) H 0 0 := wp_aload_n (x := some i) rfl rfl
theorem w13_52 : ma_W d 13 Q 52 (o0 :: some (.ref i) :: l) st H 0 0 = ma_W d 13 Q 53 (o0 :: some (.ref i) :: l) (.ref i :: st) H 0 0 := wp_aload_n (x := some i) rfl rfl
theorem w13_53 : ma_W d 13 Q 53 l (.ref i0 :: .ref i :: st) H 0 0 = (ma_cat st ≤ 8 ∧ ma_cv (H.1 i) 2 d 16 [.ref i, .ref i0] H (ma_kC d 13 Q 56 l st 0 0)) := wc_V0 (ia := 16) (n := 2) (cn := 2) rfl (by decide +kernel) (fun _ => rfl) rfl rfl
theorem w13_56 : ma_W d 13 Q 56 (o0 :: o1 :: p :: l) (.int x :: st) H 0 0 = ma_W d 13 Q 57 (o0 :: ma_clr o1 :: some (.int x) :: l) st H 0 0 := wp_istore_n (id := 13) (pc := 56) (k := 2) rfl (Nat.succ_lt_succ (Nat.succ_lt_succ (Nat.zero_lt_succ _)))
theorem w13_57 : ma_W d 13 Q 57 (o0 :: o1 :: o2 :: some (.int x) :: l) st H 0 0 = ma_W d 13 Q 60 (o0 :: o1 :: ma_clr o2 :: some (.int (x + 1)) :: l) st H 0 0 := wp_iinc (id := 13) (pc := 57) (k := 3) (n := 1) rfl (Nat.succ_lt_succ (Nat.succ_lt_succ (Nat.succ_lt_succ (Nat.zero_lt_succ _)))) rfl (by decide)
theorem w13_60 : ma_W d 13 Q 60 l st H 0 0 = ma_W d 13 Q 17 l st H 0 0 := wp_goto 17 rfl (by decide)
theorem w13_63 : ma_W d 13 Q 63 (o0 :: o1 :: some (.int x) :: l) st H 0 0 = ma_W d 13 Q 64 (o0 :: o1 :: some (.int x) :: l) (.int x :: st) H 0 0 := wp_iload_n rfl rfl
theorem w13_64 : ma_W d 13 Q 64 l (.int x :: st) H 0 0 = ma_if (x = 0) d 13 Q 71 67 l st H 0 0 := wp_c0 (id := 13) (pc := 64) (c := .eq) (off := 7) 71 rfl (by decide)
theorem w13_67 : ma_W d 13 Q 67 (o0 :: o1 :: o2 :: some (.int x) :: l) st H 0 0 = ma_W d 13 Q 68 (o0 :: o1 :: o2 :: some (.int x) :: l) (.int x :: st) H 0 0 := wp_iload_n rfl rfl
theorem w13_68 : ma_W d 13 Q 68 l st H 0 0 = ma_W d 13 Q 78 l st H 0 0 := wp_goto 78 rfl (by decide)
theorem w13_71 : ma_W d 13 Q 71 l st H 0 0 = ma_W d 13 Q 73 l (.int (-10) :: st) H 0 0 := wp_bipush rfl (by decide)
theorem w13_73 : ma_W d 13 Q 73 (some (.ref i) :: l) st H 0 0 = ma_W d 13 Q 74 (some (.ref i) :: l) (.ref i :: st) H 0 0 := wp_aload_n (x := some i) rfl rfl
theorem w13_74 : ma_W d 13 Q 74 l (.ref i :: st) H 0 0 = ma_gf (H.1 i) 2 2 (ma_kV d 13 Q 77 l st H 0 0) := wp_get rfl (by decide +kernel)
theorem w13_77 : ma_W d 13 Q 77 l (.int y :: .int x :: st) H 0 0 = ma_W d 13 Q 78 l (.int (x - y) :: st) H 0 0 := wp_isub rfl
theorem w13_78 : ma_W d 13 Q 78 l [.int x] H 0 0 = Q (some (.int x)) H := wp_iret rfl rfl
theorem e13 : ma_MW (d + 1) 13 [.ref i, .ref i0] H Q = ma_W d 13 Q 0 [some (.ref i), some (.ref i0), none, none] [] H 0 0 := wp_enter (by decide) (Nat.le_of_ble_eq_true rfl) rfl
/-! 14 re_readGame -/
theorem w14_0 : ma_W d 14 Q 0 (some (.ref i) :: l) st H 0 0 = ma_W d 14 Q 1 (some (.ref i) :: l) (.ref i :: st) H 0 0 := wp_aload_n (x := some i) rfl rfl
theorem w14_1 : ma_W d 14 Q 1 l st H 0 0 = ma_W d 14 Q 2 l (.int 3 :: st) H 0 0 := wp_iconst rfl (by decide)
theorem w14_2 : ma_W d 14 Q 2 l (.int x0 :: .ref i :: st) H 0 0 = (ma_cat st ≤ 8 ∧ ma_cv (H.1 i) 2 d 17 [.ref i, .int x0] H (ma_kC d 14 Q 5 l st 0 0)) := wc_V0 (ia := 17) (n := 2) (cn := 2) rfl (by decide +kernel) (fun _ => rfl) rfl rfl
theorem w14_5 : ma_W d 14 Q 5 l (.int x :: st) H 0 0 = ma_if (x = 0) d 14 Q 8 10 l st H 0 0 := wp_c0 (id := 14) (pc := 5) (c := .ne) (off := 5) 10 rfl (by decide)
theorem w14_8 : ma_W d 14 Q 8 l st H 0 0 = ma_W d 14 Q 9 l (.int 0 :: st) H 0 0 := wp_iconst rfl (by decide)
theorem w14_9 : ma_W d 14 Q 9 l [.int x] H 0 0 = ((x = 0 ∨ x = 1) ∧ Q (some (.int x)) H) := wp_zret rfl rfl
theorem w14_10 : ma_W d 14 Q 10 (some (.ref i) :: l) st H 0 0 = ma_W d 14 Q 11 (some (.ref i) :: l) (.ref i :: st) H 0 0 := wp_aload_n (x := some i) rfl rfl
theorem w14_11 : ma_W d 14 Q 11 l st H 0 0 = ma_W d 14 Q 12 l (.int 0 :: st) H 0 0 := wp_iconst rfl (by decide)
theorem w14_12 : ma_W d 14 Q 12 l st H 0 0 = ma_W d 14 Q 13 l (.int 5 :: st) H 0 0 := wp_iconst rfl (by decide)
theorem w14_13 : ma_W d 14 Q 13 l (.int x1 :: .int x0 :: .ref i :: st) H 0 0 = (ma_cat st ≤ 8 ∧ ma_cv (H.1 i) 2 d 18 [.ref i, .int x0, .int x1] H (ma_kC d 14 Q 16 l st 0 0)) := wc_V0 (ia := 18) (n := 3) (cn := 2) rfl (by decide +kernel) (fun _ => rfl) rfl rfl
theorem w14_16 : ma_W d 14 Q 16 (o0 :: o1 :: p :: l) (.int x :: st) H 0 0 = ma_W d 14 Q 17 (o0 :: ma_clr o1 :: some (.int x) :: l) st H 0 0 := wp_istore_n (id := 14) (pc := 16) (k := 2) rfl (Nat.succ_lt_succ (Nat.succ_lt_succ (Nat.zero_lt_succ _)))
theorem w14_17 : ma_W d 14 Q 17 (o0 :: o1 :: some (.int x) :: l) st H 0 0 = ma_W d 14 Q 18 (o0 :: o1 :: some (.int x) :: l) (.int x :: st) H 0 0 := wp_iload_n rfl rfl
theorem w14_18 : ma_W d 14 Q 18 l st H 0 0 = ma_W d 14 Q 19 l (.int (-1) :: st) H 0 0 := wp_iconst rfl (by decide)
theorem w14_19 : ma_W d 14 Q 19 l (.int y :: .int x :: st) H 0 0 = ma_if (x = y) d 14 Q 22 26 l st H 0 0 := wp_ic (id := 14) (pc := 19) (c := .ne) (off := 7) 26 rfl (by decide)
theorem w14_22 : ma_W d 14 Q 22 l st H 0 0 = ma_W d 14 Q 23 l (.int (-1) :: st) H 0 0 := wp_iconst rfl (by decide)
theorem w14_23 : ma_W d 14 Q 23 l st H 0 0 = ma_W d 14 Q 32 l st H 0 0 := wp_goto 32 rfl (by decide)
theorem w14_26 : ma_W d 14 Q 26 (some (.ref i) :: l) st H 0 0 = ma_W d 14 Q 27 (some (.ref i) :: l) (.ref i :: st) H 0 0 := wp_aload_n (x := some i) rfl rfl
theorem w14_27 : ma_W d 14 Q 27 l st H 0 0 = ma_W d 14 Q 28 l (.int 0 :: st) H 0 0 := wp_iconst rfl (by decide)
theorem w14_28 : ma_W d 14 Q 28 l st H 0 0 = ma_W d 14 Q 29 l (.int 5 :: st) H 0 0 := wp_iconst rfl (by decide)
theorem w14_29 : ma_W d 14 Q 29 l (.int x1 :: .int x0 :: .ref i :: st) H 0 0 = (ma_cat st ≤ 8 ∧ ma_cv (H.1 i) 2 d 18 [.ref i, .int x0, .int x1] H (ma_kC d 14 Q 32 l st 0 0)) := wc_V0 (ia := 18) (n := 3) (cn := 2) rfl (by decide +kernel) (fun _ => rfl) rfl rfl
theorem w14_32 : ma_W d 14 Q 32 (o0 :: o1 :: o2 :: p :: l) (.int x :: st) H 0 0 = ma_W d 14 Q 33 (o0 :: o1 :: ma_clr o2 :: some (.int x) :: l) st H 0 0 := wp_istore_n (id := 14) (pc := 32) (k := 3) rfl (Nat.succ_lt_succ (Nat.succ_lt_succ (Nat.succ_lt_succ (Nat.zero_lt_succ _))))
theorem w14_33 : ma_W d 14 Q 33 (o0 :: o1 :: o2 :: some (.int x) :: l) st H 0 0 = ma_W d 14 Q 34 (o0 :: o1 :: o2 :: some (.int x) :: l) (.int x :: st) H 0 0 := wp_iload_n rfl rfl
theorem w14_34 : ma_W d 14 Q 34 l st H 0 0 = ma_W d 14 Q 35 l (.int (-1) :: st) H 0 0 := wp_iconst rfl (by decide)
theorem w14_35 : ma_W d 14 Q 35 l (.int y :: .int x :: st) H 0 0 = ma_if (x = y) d 14 Q 38 40 l st H 0 0 := wp_ic (id := 14) (pc := 35) (c := .ne) (off := 5) 40 rfl (by decide)
theorem w14_38 : ma_W d 14 Q 38 l st H 0 0 = ma_W d 14 Q 39 l (.int 0 :: st) H 0 0 := wp_iconst rfl (by decide)
theorem w14_39 : ma_W d 14 Q 39 l [.int x] H 0 0 = ((x = 0 ∨ x = 1) ∧ Q (some (.int x)) H) := wp_zret rfl rfl
theorem w14_40 : ma_W d 14 Q 40 (o0 :: some (.ref i) :: l) st H 0 0 = ma_W d 14 Q 41 (o0 :: some (.ref i) :: l) (.ref i :: st) H 0 0 := wp_aload_n (x := some i) rfl rfl
theorem w14_41 : ma_W d 14 Q 41 (o0 :: o1 :: some (.int x) :: l) st H 0 0 = ma_W d 14 Q 42 (o0 :: o1 :: some (.int x) :: l) (.int x :: st) H 0 0 := wp_iload_n rfl rfl
theorem w14_42 : ma_W d 14 Q 42 (o0 :: o1 :: o2 :: some (.int x) :: l) st H 0 0 = ma_W d 14 Q 43 (o0 :: o1 :: o2 :: some (.int x) :: l) (.int x :: st) H 0 0 := wp_iload_n rfl rfl
theorem w14_43 : ma_W d 14 Q 43 l (.int x1 :: .int x0 :: .ref i :: st) H 0 0 = (ma_cat st ≤ 8 ∧ ma_cv (H.1 i) 4 d 34 [.ref i, .int x0, .int x1] H (ma_kC d 14 Q 46 l st 0 0)) := wc_V0 (ia := 34) (n := 3) (cn := 4) rfl (by decide +kernel) (fun _ => rfl) rfl rfl
theorem w14_46 : ma_W d 14 Q 46 (some (.ref i) :: l) st H 0 0 = ma_W d 14 Q 47 (some (.ref i) :: l) (.ref i :: st) H 0 0 := wp_aload_n (x := some i) rfl rfl
theorem w14_47 : ma_W d 14 Q 47 l st H 0 0 = ma_W d 14 Q 48 l (.int 1 :: st) H 0 0 := wp_iconst rfl (by decide)
theorem w14_48 : ma_W d 14 Q 48 l (.int x0 :: .ref i :: st) H 0 0 = (ma_cat st ≤ 8 ∧ ma_cv (H.1 i) 2 d 17 [.ref i, .int x0] H (ma_kC d 14 Q 51 l st 0 0)) := wc_V0 (ia := 17) (n := 2) (cn := 2) rfl (by decide +kernel) (fun _ => rfl) rfl rfl
theorem w14_51 : ma_W d 14 Q 51 l [.int x] H 0 0 = ((x = 0 ∨ x = 1) ∧ Q (some (.int x)) H) := wp_zret rfl rfl
theorem e14 : ma_MW (d + 1) 14 [.ref i, .ref i0] H Q = ma_W d 14 Q 0 [some (.ref i), some (.ref i0), none, none] [] H 0 0 := wp_enter (by decide) (Nat.le_of_ble_eq_true rfl) rfl
/-! 15 re_readHand -/
theorem w15_0 : ma_W d 15 Q 0 (some (.ref i) :: l) st H 0 0 = ma_W d 15 Q 1 (some (.ref i) :: l) (.ref i :: st) H 0 0 := wp_aload_n (x := some i) rfl rfl
theorem w15_1 : ma_W d 15 Q 1 l st H 0 0 = ma_W d 15 Q 2 l (.int 4 :: st) H 0 0 := wp_iconst rfl (by decide)
theorem w15_2 : ma_W d 15 Q 2 l (.int x0 :: .ref i :: st) H 0 0 = (ma_cat st ≤ 8 ∧ ma_cv (H.1 i) 2 d 17 [.ref i, .int x0] H (ma_kC d 15 Q 5 l st 0 0)) := wc_V0 (ia := 17) (n := 2) (cn := 2) rfl (by decide +kernel) (fun _ => rfl) rfl rfl
theorem w15_5 : ma_W d 15 Q 5 l (.int x :: st) H 0 0 = ma_if (x = 0) d 15 Q 8 10 l st H 0 0 := wp_c0 (id := 15) (pc := 5) (c := .ne) (off := 5) 10 rfl (by decide)
theorem w15_8 : ma_W d 15 Q 8 l st H 0 0 = ma_W d 15 Q 9 l (.int 0 :: st) H 0 0 := wp_iconst rfl (by decide)
theorem w15_9 : ma_W d 15 Q 9 l [.int x] H 0 0 = ((x = 0 ∨ x = 1) ∧ Q (some (.int x)) H) := wp_zret rfl rfl
theorem w15_10 : ma_W d 15 Q 10 (some (.ref i) :: l) st H 0 0 = ma_W d 15 Q 11 (some (.ref i) :: l) (.ref i :: st) H 0 0 := wp_aload_n (x := some i) rfl rfl
theorem w15_11 : ma_W d 15 Q 11 l st H 0 0 = ma_W d 15 Q 12 l (.int 0 :: st) H 0 0 := wp_iconst rfl (by decide)
theorem w15_12 : ma_W d 15 Q 12 l st H 0 0 = ma_W d 15 Q 13 l (.int 1 :: st) H 0 0 := wp_iconst rfl (by decide)
theorem w15_13 : ma_W d 15 Q 13 l (.int x1 :: .int x0 :: .ref i :: st) H 0 0 = (ma_cat st ≤ 8 ∧ ma_cv (H.1 i) 2 d 18 [.ref i, .int x0, .int x1] H (ma_kC d 15 Q 16 l st 0 0)) := wc_V0 (ia := 18) (n := 3) (cn := 2) rfl (by decide +kernel) (fun _ => rfl) rfl rfl
theorem w15_16 : ma_W d 15 Q 16 (o0 :: o1 :: p :: l) (.int x :: st) H 0 0 = ma_W d 15 Q 17 (o0 :: ma_clr o1 :: some (.int x) :: l) st H 0 0 := wp_istore_n (id := 15) (pc := 16) (k := 2) rfl (Nat.succ_lt_succ (Nat.succ_lt_succ (Nat.zero_lt_succ _)))
theorem w15_17 : ma_W d 15 Q 17 (o0 :: o1 :: some (.int x) :: l) st H 0 0 = ma_W d 15 Q 18 (o0 :: o1 :: some (.int x) :: l) (.int x :: st) H 0 0 := wp_iload_n rfl rfl
theorem w15_18 : ma_W d 15 Q 18 l st H 0 0 = ma_W d 15 Q 19 l (.int (-1) :: st) H 0 0 := wp_iconst rfl (by decide)
theorem w15_19 : ma_W d 15 Q 19 l (.int y :: .int x :: st) H 0 0 = ma_if (x = y) d 15 Q 22 24 l st H 0 0 := wp_ic (id := 15) (pc := 19) (c := .ne) (off := 5) 24 rfl (by decide)
theorem w15_22 : ma_W d 15 Q 22 l st H 0 0 = ma_W d 15 Q 23 l (.int 0 :: st) H 0 0 := wp_iconst rfl (by decide)
theorem w15_23 : ma_W d 15 Q 23 l [.int x] H 0 0 = ((x = 0 ∨ x = 1) ∧ Q (some (.int x)) H) := wp_zret rfl rfl
theorem w15_24 : ma_W d 15 Q 24 l st H 0 0 = ma_W d 15 Q 25 l (.int 0 :: st) H 0 0 := wp_iconst rfl (by decide)
theorem w15_25 : ma_W d 15 Q 25 (o0 :: o1 :: o2 :: p :: l) (.int x :: st) H 0 0 = ma_W d 15 Q 26 (o0 :: o1 :: ma_clr o2 :: some (.int x) :: l) st H 0 0 := wp_istore_n (id := 15) (pc := 25) (k := 3) rfl (Nat.succ_lt_succ (Nat.succ_lt_succ (Nat.succ_lt_succ (Nat.zero_lt_succ _))))
theorem w15_26 : ma_W d 15 Q 26 (o0 :: o1 :: o2 :: some (.int x) :: l) st H 0 0 = ma_W d 15 Q 27 (o0 :: o1 :: o2 :: some (.int x) :: l) (.int x :: st) H 0 0 := wp_iload_n rfl rfl
theorem w15_27 : ma_W d 15 Q 27 l st H 0 0 = ma_W d 15 Q 29 l (.int 9 :: st) H 0 0 := wp_bipush rfl (by decide)
theorem w15_29 : ma_W d 15 Q 29 l (.int y :: .int x :: st) H 0 0 = ma_if (y ≤ x) d 15 Q 69 32 l st H 0 0 := wp_ic (id := 15) (pc := 29) (c := .ge) (off := 40) 69 rfl (by decide)
theorem w15_32 : ma_W d 15 Q 32 (o0 :: some (.ref i) :: l) st H 0 0 = ma_W d 15 Q 33 (o0 :: some (.ref i) :: l) (.ref i :: st) H 0 0 := wp_aload_n (x := some i) rfl rfl
theorem w15_33 : ma_W d 15 Q 33 l (.ref i :: st) H 0 0 = (ma_cat st ≤ 8 ∧ ma_cv (H.1 i) 4 d 42 [.ref i] H (ma_kC d 15 Q 36 l st 0 0)) := wc_V0 (ia := 42) (n := 1) (cn := 4) rfl (by decide +kernel) (fun _ => rfl) rfl rfl
theorem w15_36 : ma_W d 15 Q 36 l (.int x :: st) H 0 0 = ma_if (x = 0) d 15 Q 69 39 l st H 0 0 := wp_c0 (id := 15) (pc := 36) (c := .eq) (off := 33) 69 rfl (by decide)
theorem w15_39 : ma_W d 15 Q 39 (some (.ref i) :: l) st H 0 0 = ma_W d 15 Q 40 (some (.ref i) :: l) (.ref i :: st) H 0 0 := wp_aload_n (x := some i) rfl rfl
theorem w15_40 : ma_W d 15 Q 40 l st H 0 0 = ma_W d 15 Q 41 l (.int 0 :: st) H 0 0 := wp_iconst rfl (by decide)
theorem w15_41 : ma_W d 15 Q 41 l st H 0 0 = ma_W d 15 Q 42 l (.int 5 :: st) H 0 0 := wp_iconst rfl (by decide)
theorem w15_42 : ma_W d 15 Q 42 l (.int x1 :: .int x0 :: .ref i :: st) H 0 0 = (ma_cat st ≤ 8 ∧ ma_cv (H.1 i) 2 d 18 [.ref i, .int x0, .int x1] H (ma_kC d 15 Q 45 l st 0 0)) := wc_V0 (ia := 18) (n := 3) (cn := 2) rfl (by decide +kernel) (fun _ => rfl) rfl rfl
theorem w15_45 : ma_W d 15 Q 45 (o0 :: o1 :: o2 :: o3 :: p :: l) (.int x :: st) H 0 0 = ma_W d 15 Q 47 (o0 :: o1 :: o2 :: ma_clr o3 :: some (.int x) :: l) st H 0 0 := wp_istore (id := 15) (pc := 45) (k := 4) rfl (Nat.succ_lt_succ (Nat.succ_lt_succ (Nat.succ_lt_succ (Nat.succ_lt_succ (Nat.zero_lt_succ _)))))
theorem w15_47 : ma_W d 15 Q 47 (o0 :: o1 :: o2 :: o3 :: some (.int x) :: l) st H 0 0 = ma_W d 15 Q 49 (o0 :: o1 :: o2 :: o3 :: some (.int x) :: l) (.int x :: st) H 0 0 := wp_iload rfl rfl
theorem w15_49 : ma_W d 15 Q 49 l st H 0 0 = ma_W d 15 Q 50 l (.int (-1) :: st) H 0 0 := wp_iconst rfl (by decide)
theorem w15_50 : ma_W d 15 Q 50 l (.int y :: .int x :: st) H 0 0 = ma_if (x = y) d 15 Q 53 56 l st H 0 0 := wp_ic (id := 15) (pc := 50) (c := .ne) (off := 6) 56 rfl (by decide)
theorem w15_53 : ma_W d 15 Q 53 l st H 0 0 = ma_W d 15 Q 69 l st H 0 0 := wp_goto 69 rfl (by decide)
theorem w15_56 : ma_W d 15 Q 56 (o0 :: some (.ref i) :: l) st H 0 0 = ma_W d 15 Q 57 (o0 :: some (.ref i) :: l) (.ref i :: st) H 0 0 := wp_aload_n (x := some i) rfl rfl
theorem w15_57 : ma_W d 15 Q 57 (o0 :: o1 :: some (.int x) :: l) st H 0 0 = ma_W d 15 Q 58 (o0 :: o1 :: some (.int x) :: l) (.int x :: st) H 0 0 := wp_iload_n rfl rfl
theorem w15_58 : ma_W d 15 Q 58 (o0 :: o1 :: o2 :: o3 :: some (.int x) :: l) st H 0 0 = ma_W d 15 Q 60 (o0 :: o1 :: o2 :: o3 :: some (.int x) :: l) (.int x :: st) H 0 0 := wp_iload rfl rfl
theorem w15_60 : ma_W d 15 Q 60 l (.int x1 :: .int x0 :: .ref i :: st) H 0 0 = (ma_cat st ≤ 8 ∧ ma_cv (H.1 i) 4 d 45 [.ref i, .int x0, .int x1] H (ma_kC d 15 Q 63 l st 0 0)) := wc_V0 (ia := 45) (n := 3) (cn := 4) rfl (by decide +kernel) (fun _ => rfl) rfl rfl
theorem w15_63 : ma_W d 15 Q 63 (o0 :: o1 :: o2 :: some (.int x) :: l) st H 0 0 = ma_W d 15 Q 66 (o0 :: o1 :: ma_clr o2 :: some (.int (x + 1)) :: l) st H 0 0 := wp_iinc (id := 15) (pc := 63) (k := 3) (n := 1) rfl (Nat.succ_lt_succ (Nat.succ_lt_succ (Nat.succ_lt_succ (Nat.zero_lt_succ _)))) rfl (by decide)
theorem w15_66 : ma_W d 15 Q 66 l st H 0 0 = ma_W d 15 Q 26 l st H 0 0 := wp_goto 26 rfl (by decide)
theorem w15_69 : ma_W d 15 Q 69 (o0 :: o1 :: o2 :: some (.int x) :: l) st H 0 0 = ma_W d 15 Q 70 (o0 :: o1 :: o2 :: some (.int x) :: l) (.int x :: st) H 0 0 := wp_iload_n rfl rfl
theorem w15_70 : ma_W d 15 Q 70 l (.int x :: st) H 0 0 = ma_if (x ≤ 0) d 15 Q 85 73 l st H 0 0 := wp_c0 (id := 15) (pc := 70) (c := .le) (off := 15) 85 rfl (by decide)
theorem w15_73 : ma_W d 15 Q 73 (some (.ref i) :: l) st H 0 0 = ma_W d 15 Q 74 (some (.ref i) :: l) (.ref i :: st) H 0 0 := wp_aload_n (x := some i) rfl rfl
theorem w15_74 : ma_W d 15 Q 74 l st H 0 0 = ma_W d 15 Q 75 l (.int 1 :: st) H 0 0 := wp_iconst rfl (by decide)
theorem w15_75 : ma_W d 15 Q 75 l (.int x0 :: .ref i :: st) H 0 0 = (ma_cat st ≤ 8 ∧ ma_cv (H.1 i) 2 d 17 [.ref i, .int x0] H (ma_kC d 15 Q 78 l st 0 0)) := wc_V0 (ia := 17) (n := 2) (cn := 2) rfl (by decide +kernel) (fun _ => rfl) rfl rfl
theorem w15_78 : ma_W d 15 Q 78 l (.int x :: st) H 0 0 = ma_if (x = 0) d 15 Q 85 81 l st H 0 0 := wp_c0 (id := 15) (pc := 78) (c := .eq) (off := 7) 85 rfl (by decide)
theorem w15_81 : ma_W d 15 Q 81 l st H 0 0 = ma_W d 15 Q 82 l (.int 1 :: st) H 0 0 := wp_iconst rfl (by decide)
theorem w15_82 : ma_W d 15 Q 82 l st H 0 0 = ma_W d 15 Q 86 l st H 0 0 := wp_goto 86 rfl (by decide)
theorem w15_85 : ma_W d 15 Q 85 l st H 0 0 = ma_W d 15 Q 86 l (.int 0 :: st) H 0 0 := wp_iconst rfl (by decide)
theorem w15_86 : ma_W d 15 Q 86 l [.int x] H 0 0 = ((x = 0 ∨ x = 1) ∧ Q (some (.int x)) H) := wp_zret rfl rfl
theorem e15 : ma_MW (d + 1) 15 [.ref i, .ref i0] H Q = ma_W d 15 Q 0 [some (.ref i), some (.ref i0), none, none, none] [] H 0 0 := wp_enter (by decide) (Nat.le_of_ble_eq_true rfl) rfl
/-! 16 re_readLay -/
theorem w16_0 : ma_W d 16 Q 0 (some (.ref i) :: l) st H 0 0 = ma_W d 16 Q 1 (some (.ref i) :: l) (.ref i :: st) H 0 0 := wp_aload_n (x := some i) rfl rfl
theorem w16_1 : ma_W d 16 Q 1 l st H 0 0 = ma_W d 16 Q 2 l (.int 5 :: st) H 0 0 := wp_iconst rfl (by decide)
theorem w16_2 : ma_W d 16 Q 2 l (.int x0 :: .ref i :: st) H 0 0 = (ma_cat st ≤ 8 ∧ ma_cv (H.1 i) 2 d 17 [.ref i, .int x0] H (ma_kC d 16 Q 5 l st 0 0)) := wc_V0 (ia := 17) (n := 2) (cn := 2) rfl (by decide +kernel) (fun _ => rfl) rfl rfl
theorem w16_5 : ma_W d 16 Q 5 l (.int x :: st) H 0 0 = ma_if (x = 0) d 16 Q 8 10 l st H 0 0 := wp_c0 (id := 16) (pc := 5) (c := .ne) (off := 5) 10 rfl (by decide)
theorem w16_8 : ma_W d 16 Q 8 l st H 0 0 = ma_W d 16 Q 9 l (.int 0 :: st) H 0 0 := wp_iconst rfl (by decide)
theorem w16_9 : ma_W d 16 Q 9 l [.int x] H 0 0 = ((x = 0 ∨ x = 1) ∧ Q (some (.int x)) H) := wp_zret rfl rfl
theorem w16_10 : ma_W d 16 Q 10 (some (.ref i) :: l) st H 0 0 = ma_W d 16 Q 11 (some (.ref i) :: l) (.ref i :: st) H 0 0 := wp_aload_n (x := some i) rfl rfl
theorem w16_11 : ma_W d 16 Q 11 l st H 0 0 = ma_W d 16 Q 12 l (.int 1 :: st) H 0 0 := wp_iconst rfl (by decide)
theorem w16_12 : ma_W d 16 Q 12 l st H 0 0 = ma_W d 16 Q 14 l (.int 99 :: st) H 0 0 := wp_bipush rfl (by decide)
theorem w16_14 : ma_W d 16 Q 14 l (.int x1 :: .int x0 :: .ref i :: st) H 0 0 = (ma_cat st ≤ 8 ∧ ma_cv (H.1 i) 2 d 18 [.ref i, .int x0, .int x1] H (ma_kC d 16 Q 17 l st 0 0)) := wc_V0 (ia := 18) (n := 3) (cn := 2) rfl (by decide +kernel) (fun _ => rfl) rfl rfl
theorem w16_17 : ma_W d 16 Q 17 (o0 :: o1 :: p :: l) (.int x :: st) H 0 0 = ma_W d 16 Q 18 (o0 :: ma_clr o1 :: some (.int x) :: l) st H 0 0 := wp_istore_n (id := 16) (pc := 17) (k := 2) rfl (Nat.succ_lt_succ (Nat.succ_lt_succ (Nat.zero_lt_succ _)))
theorem w16_18 : ma_W d 16 Q 18 (o0 :: o1 :: some (.int x) :: l) st H 0 0 = ma_W d 16 Q 19 (o0 :: o1 :: some (.int x) :: l) (.int x :: st) H 0 0 := wp_iload_n rfl rfl
theorem w16_19 : ma_W d 16 Q 19 l st H 0 0 = ma_W d 16 Q 20 l (.int (-1) :: st) H 0 0 := wp_iconst rfl (by decide)
theorem w16_20 : ma_W d 16 Q 20 l (.int y :: .int x :: st) H 0 0 = ma_if (x = y) d 16 Q 23 25 l st H 0 0 := wp_ic (id := 16) (pc := 20) (c := .ne) (off := 5) 25 rfl (by decide)
theorem w16_23 : ma_W d 16 Q 23 l st H 0 0 = ma_W d 16 Q 24 l (.int 0 :: st) H 0 0 := wp_iconst rfl (by decide)
theorem w16_24 : ma_W d 16 Q 24 l [.int x] H 0 0 = ((x = 0 ∨ x = 1) ∧ Q (some (.int x)) H) := wp_zret rfl rfl
theorem w16_25 : ma_W d 16 Q 25 (o0 :: some (.ref i) :: l) st H 0 0 = ma_W d 16 Q 26 (o0 :: some (.ref i) :: l) (.ref i :: st) H 0 0 := wp_aload_n (x := some i) rfl rfl
theorem w16_26 : ma_W d 16 Q 26 (o0 :: o1 :: some (.int x) :: l) st H 0 0 = ma_W d 16 Q 27 (o0 :: o1 :: some (.int x) :: l) (.int x :: st) H 0 0 := wp_iload_n rfl rfl
theorem w16_27 : ma_W d 16 Q 27 l (.int x0 :: .ref i :: st) H 0 0 = (ma_cat st ≤ 8 ∧ ma_cv (H.1 i) 4 d 50 [.ref i, .int x0] H (ma_kC d 16 Q 30 l st 0 0)) := wc_V0 (ia := 50) (n := 2) (cn := 4) rfl (by decide +kernel) (fun _ => rfl) rfl rfl
theorem w16_30 : ma_W d 16 Q 30 l (.int x :: st) H 0 0 = ma_W d 16 Q 31 l st H 0 0 := wp_pop rfl rfl
theorem w16_31 : ma_W d 16 Q 31 (some (.ref i) :: l) st H 0 0 = ma_W d 16 Q 32 (some (.ref i) :: l) (.ref i :: st) H 0 0 := wp_aload_n (x := some i) rfl rfl
theorem w16_32 : ma_W d 16 Q 32 l st H 0 0 = ma_W d 16 Q 33 l (.int 1 :: st) H 0 0 := wp_iconst rfl (by decide)
theorem w16_33 : ma_W d 16 Q 33 l (.int x0 :: .ref i :: st) H 0 0 = (ma_cat st ≤ 8 ∧ ma_cv (H.1 i) 2 d 17 [.ref i, .int x0] H (ma_kC d 16 Q 36 l st 0 0)) := wc_V0 (ia := 17) (n := 2) (cn := 2) rfl (by decide +kernel) (fun _ => rfl) rfl rfl
theorem w16_36 : ma_W d 16 Q 36 l [.int x] H 0 0 = ((x = 0 ∨ x = 1) ∧ Q (some (.int x)) H) := wp_zret rfl rfl
theorem e16 : ma_MW (d + 1) 16 [.ref i, .ref i0] H Q = ma_W d 16 Q 0 [some (.ref i), some (.ref i0), none] [] H 0 0 := wp_enter (by decide) (Nat.le_of_ble_eq_true rfl) rfl
/-! 17 re_passes -/
theorem w17_0 : ma_W d 17 Q 0 (some (.ref i) :: l) st H 0 0 = ma_W d 17 Q 1 (some (.ref i) :: l) (.ref i :: st) H 0 0 := wp_aload_n (x := some i) rfl rfl
theorem w17_1 : ma_W d 17 Q 1 l (.ref i :: st) H 0 0 = ma_gf (H.1 i) 2 1 (ma_kV d 17 Q 4 l st H 0 0) := wp_get rfl (by decide +kernel)
theorem w17_4 : ma_W d 17 Q 4 (o0 :: some (.int x) :: l) st H 0 0 = ma_W d 17 Q 5 (o0 :: some (.int x) :: l) (.int x :: st) H 0 0 := wp_iload_n rfl rfl
theorem w17_5 : ma_W d 17 Q 5 l (.int y :: .int x :: st) H 0 0 = ma_if (x = y) d 17 Q 10 8 l st H 0 0 := wp_ic (id := 17) (pc := 5) (c := .eq) (off := 5) 10 rfl (by decide)
theorem w17_8 : ma_W d 17 Q 8 l st H 0 0 = ma_W d 17 Q 9 l (.int 0 :: st) H 0 0 := wp_iconst rfl (by decide)
theorem w17_9 : ma_W d 17 Q 9 l [.int x] H 0 0 = ((x = 0 ∨ x = 1) ∧ Q (some (.int x)) H) := wp_zret rfl rfl
theorem w17_10 : ma_W d 17 Q 10 (some (.ref i) :: l) st H 0 0 = ma_W d 17 Q 11 (some (.ref i) :: l) (.ref i :: st) H 0 0 := wp_aload_n (x := some i) rfl rfl
theorem w17_11 : ma_W d 17 Q 11 l (.ref i :: st) H 0 0 = (ma_cat st ≤ 8 ∧ ma_cv (H.1 i) 2 d 19 [.ref i] H (ma_kC d 17 Q 14 l st 0 0)) := wc_V0 (ia := 19) (n := 1) (cn := 2) rfl (by decide +kernel) (fun _ => rfl) rfl rfl
theorem w17_14 : ma_W d 17 Q 14 l st H 0 0 = ma_W d 17 Q 15 l (.int 1 :: st) H 0 0 := wp_iconst rfl (by decide)
theorem w17_15 : ma_W d 17 Q 15 l [.int x] H 0 0 = ((x = 0 ∨ x = 1) ∧ Q (some (.int x)) H) := wp_zret rfl rfl
theorem e17 : ma_MW (d + 1) 17 [.ref i, .int x0] H Q = ma_W d 17 Q 0 [some (.ref i), some (.int x0)] [] H 0 0 := wp_enter (by decide) (Nat.le_of_ble_eq_true rfl) rfl
/-! 18 re_passNumber -/
theorem w18_0 : ma_W d 18 Q 0 (some (.ref i) :: l) st H 0 0 = ma_W d 18 Q 1 (some (.ref i) :: l) (.ref i :: st) H 0 0 := wp_aload_n (x := some i) rfl rfl
theorem w18_1 : ma_W d 18 Q 1 l (.ref i :: st) H 0 0 = ma_gf (H.1 i) 2 1 (ma_kV d 18 Q 4 l st H 0 0) := wp_get rfl (by decide +kernel)
theorem w18_4 : ma_W d 18 Q 4 l st H 0 0 = ma_W d 18 Q 5 l (.int 2 :: st) H 0 0 := wp_iconst rfl (by decide)
theorem w18_5 : ma_W d 18 Q 5 l (.int y :: .int x :: st) H 0 0 = ma_if (x = y) d 18 Q 8 20 l st H 0 0 := wp_ic (id := 18) (pc := 5) (c := .ne) (off := 15) 20 rfl (by decide)
theorem w18_8 : ma_W d 18 Q 8 (some (.ref i) :: l) st H 0 0 = ma_W d 18 Q 9 (some (.ref i) :: l) (.ref i :: st) H 0 0 := wp_aload_n (x := some i) rfl rfl
theorem w18_9 : ma_W d 18 Q 9 l (.ref i :: st) H 0 0 = ma_gf (H.1 i) 2 4 (ma_kV d 18 Q 12 l st H 0 0) := wp_get rfl (by decide +kernel)
theorem w18_12 : ma_W d 18 Q 12 (o0 :: some (.int x) :: l) st H 0 0 = ma_W d 18 Q 13 (o0 :: some (.int x) :: l) (.int x :: st) H 0 0 := wp_iload_n rfl rfl
theorem w18_13 : ma_W d 18 Q 13 (o0 :: o1 :: some (.int x) :: l) st H 0 0 = ma_W d 18 Q 14 (o0 :: o1 :: some (.int x) :: l) (.int x :: st) H 0 0 := wp_iload_n rfl rfl
theorem w18_14 : ma_W d 18 Q 14 l (.int x2 :: .int x1 :: .int x0 :: st) H 0 0 = (ma_cat st ≤ 8 ∧ ma_MW d 116 [.int x0, .int x1, .int x2] H (ma_kC d 18 Q 17 l st 0 0)) := wc_S0 (ia := 116) (n := 3) (cn := 7) (k := 3) rfl (by decide +kernel) (by decide) (fun _ => rfl) rfl rfl
theorem w18_17 : ma_W d 18 Q 17 l (.int x :: st) H 0 0 = ma_if (x = 0) d 18 Q 20 22 l st H 0 0 := wp_c0 (id := 18) (pc := 17) (c := .ne) (off := 5) 22 rfl (by decide)
theorem w18_20 : ma_W d 18 Q 20 l st H 0 0 = ma_W d 18 Q 21 l (.int (-1) :: st) H 0 0 := wp_iconst rfl (by decide)
theorem w18_21 : ma_W d 18 Q 21 l [.int x] H 0 0 = Q (some (.int x)) H := wp_iret rfl rfl
theorem w18_22 : ma_W d 18 Q 22 (some (.ref i) :: l) st H 0 0 = ma_W d 18 Q 23 (some (.ref i) :: l) (.ref i :: st) H 0 0 := wp_aload_n (x := some i) rfl rfl
theorem w18_23 : ma_W d 18 Q 23 l (.ref i :: st) H 0 0 = ma_gf (H.1 i) 2 4 (ma_kV d 18 Q 26 l st H 0 0) := wp_get rfl (by decide +kernel)
theorem w18_26 : ma_W d 18 Q 26 (o0 :: o1 :: o2 :: p :: l) (.int x :: st) H 0 0 = ma_W d 18 Q 27 (o0 :: o1 :: ma_clr o2 :: some (.int x) :: l) st H 0 0 := wp_istore_n (id := 18) (pc := 26) (k := 3) rfl (Nat.succ_lt_succ (Nat.succ_lt_succ (Nat.succ_lt_succ (Nat.zero_lt_succ _))))
theorem w18_27 : ma_W d 18 Q 27 (some (.ref i) :: l) st H 0 0 = ma_W d 18 Q 28 (some (.ref i) :: l) (.ref i :: st) H 0 0 := wp_aload_n (x := some i) rfl rfl
theorem w18_28 : ma_W d 18 Q 28 l (.ref i :: st) H 0 0 = (ma_cat st ≤ 8 ∧ ma_cv (H.1 i) 2 d 19 [.ref i] H (ma_kC d 18 Q 31 l st 0 0)) := wc_V0 (ia := 19) (n := 1) (cn := 2) rfl (by decide +kernel) (fun _ => rfl) rfl rfl
theorem w18_31 : ma_W d 18 Q 31 (o0 :: o1 :: o2 :: some (.int x) :: l) st H 0 0 = ma_W d 18 Q 32 (o0 :: o1 :: o2 :: some (.int x) :: l) (.int x :: st) H 0 0 := wp_iload_n rfl rfl
theorem w18_32 : ma_W d 18 Q 32 l [.int x] H 0 0 = Q (some (.int x)) H := wp_iret rfl rfl
theorem e18 : ma_MW (d + 1) 18 [.ref i, .int x0, .int x1] H Q = ma_W d 18 Q 0 [some (.ref i), some (.int x0), some (.int x1), none] [] H 0 0 := wp_enter (by decide) (Nat.le_of_ble_eq_true rfl) rfl
/-! 19 re_advance -/
theorem w19_0 : ma_W d 19 Q 0 (some (.ref i) :: l) st H 0 0 = ma_W d 19 Q 1 (some (.ref i) :: l) (.ref i :: st) H 0 0 := wp_aload_n (x := some i) rfl rfl
theorem w19_1 : ma_W d 19 Q 1 (some (.ref i) :: l) st H 0 0 = ma_W d 19 Q 2 (some (.ref i) :: l) (.ref i :: st) H 0 0 := wp_aload_n (x := some i) rfl rfl
theorem w19_2 : ma_W d 19 Q 2 l (.ref i :: st) H 0 0 = ma_gf (H.1 i) 2 3 (ma_kV d 19 Q 5 l st H 0 0) := wp_get rfl (by decide +kernel)
theorem w19_5 : ma_W d 19 Q 5 l (.int x :: .ref i :: st) H 0 0 = ma_pf (H.1 i) 2 2 (.int x) (ma_kH d 19 Q 8 l st H i 0 0) := wp_put rfl (by decide +kernel) (by decide +kernel) rfl rfl
theorem w19_8 : ma_W d 19 Q 8 (some (.ref i) :: l) st H 0 0 = ma_W d 19 Q 9 (some (.ref i) :: l) (.ref i :: st) H 0 0 := wp_aload_n (x := some i) rfl rfl
theorem w19_9 : ma_W d 19 Q 9 l (.ref i :: st) H 0 0 = ma_gf (H.1 i) 2 2 (ma_kV d 19 Q 12 l st H 0 0) := wp_get rfl (by decide +kernel)
theorem w19_12 : ma_W d 19 Q 12 (some (.ref i) :: l) st H 0 0 = ma_W d 19 Q 13 (some (.ref i) :: l) (.ref i :: st) H 0 0 := wp_aload_n (x := some i) rfl rfl
theorem w19_13 : ma_W d 19 Q 13 l (.ref i :: st) H 0 0 = ma_gf (H.1 i) 2 0 (ma_kV d 19 Q 16 l st H 0 0) := wp_get rfl (by decide +kernel)
theorem w19_16 : ma_W d 19 Q 16 l (.ref i :: st) H 0 0 = (ma_cat st ≤ 8 ∧ ma_cv (H.1 i) 5 d 54 [.ref i] H (ma_kC d 19 Q 19 l st 0 0)) := wc_V0 (ia := 54) (n := 1) (cn := 5) rfl (by decide +kernel) (fun _ => rfl) rfl rfl
theorem w19_19 : ma_W d 19 Q 19 l (.int y :: .int x :: st) H 0 0 = ma_if (y ≤ x) d 19 Q 51 22 l st H 0 0 := wp_ic (id := 19) (pc := 19) (c := .ge) (off := 32) 51 rfl (by decide)
theorem w19_22 : ma_W d 19 Q 22 (some (.ref i) :: l) st H 0 0 = ma_W d 19 Q 23 (some (.ref i) :: l) (.ref i :: st) H 0 0 := wp_aload_n (x := some i) rfl rfl
theorem w19_23 : ma_W d 19 Q 23 l (.ref i :: st) H 0 0 = ma_gf (H.1 i) 2 0 (ma_kV d 19 Q 26 l st H 0 0) := wp_get rfl (by decide +kernel)
theorem w19_26 : ma_W d 19 Q 26 (some (.ref i) :: l) st H 0 0 = ma_W d 19 Q 27 (some (.ref i) :: l) (.ref i :: st) H 0 0 := wp_aload_n (x := some i) rfl rfl
theorem w19_27 : ma_W d 19 Q 27 l (.ref i :: st) H 0 0 = ma_gf (H.1 i) 2 2 (ma_kV d 19 Q 30 l st H 0 0) := wp_get rfl (by decide +kernel)
theorem w19_30 : ma_W d 19 Q 30 l (.int x0 :: .ref i :: st) H 0 0 = (ma_cat st ≤ 8 ∧ ma_cv (H.1 i) 5 d 58 [.ref i, .int x0] H (ma_kC d 19 Q 33 l st 0 0)) := wc_V0 (ia := 58) (n := 2) (cn := 5) rfl (by decide +kernel) (fun _ => rfl) rfl rfl
theorem w19_33 : ma_W d 19 Q 33 l st H 0 0 = ma_W d 19 Q 35 l (.int 32 :: st) H 0 0 := wp_bipush rfl (by decide)
theorem w19_35 : ma_W d 19 Q 35 l (.int y :: .int x :: st) H 0 0 = ma_if (x = y) d 19 Q 38 51 l st H 0 0 := wp_ic (id := 19) (pc := 35) (c := .ne) (off := 16) 51 rfl (by decide)
theorem w19_38 : ma_W d 19 Q 38 (some (.ref i) :: l) st H 0 0 = ma_W d 19 Q 39 (some (.ref i) :: l) (.ref i :: st) H 0 0 := wp_aload_n (x := some i) rfl rfl
theorem w19_39 : ma_W d 19 Q 39 l (.ref i :: st) H 0 0 = ma_W d 19 Q 40 l (.ref i :: .ref i :: st) H 0 0 := wp_dup rfl rfl
theorem w19_39i : ma_W d 19 Q 39 l (.int x :: st) H 0 0 = ma_W d 19 Q 40 l (.int x :: .int x :: st) H 0 0 := wp_dup rfl rfl
theorem w19_40 : ma_W d 19 Q 40 l (.ref i :: st) H 0 0 = ma_gf (H.1 i) 2 2 (ma_kV d 19 Q 43 l st H 0 0) := wp_get rfl (by decide +kernel)
theorem w19_43 : ma_W d 19 Q 43 l st H 0 0 = ma_W d 19 Q 44 l (.int 1 :: st) H 0 0 := wp_iconst rfl (by decide)
theorem w19_44 : ma_W d 19 Q 44 l (.int y :: .int x :: st) H 0 0 = ma_W d 19 Q 45 l (.int (x + y) :: st) H 0 0 := wp_iadd rfl
theorem w19_45 : ma_W d 19 Q 45 l (.int x :: .ref i :: st) H 0 0 = ma_pf (H.1 i) 2 2 (.int x) (ma_kH d 19 Q 48 l st H i 0 0) := wp_put rfl (by decide +kernel) (by decide +kernel) rfl rfl
theorem w19_48 : ma_W d 19 Q 48 l st H 0 0 = ma_W d 19 Q 8 l st H 0 0 := wp_goto 8 rfl (by decide)
theorem w19_51 : ma_W d 19 Q 51 (some (.ref i) :: l) st H 0 0 = ma_W d 19 Q 52 (some (.ref i) :: l) (.ref i :: st) H 0 0 := wp_aload_n (x := some i) rfl rfl
theorem w19_52 : ma_W d 19 Q 52 l (.ref i :: st) H 0 0 = ma_gf (H.1 i) 2 0 (ma_kV d 19 Q 55 l st H 0 0) := wp_get rfl (by decide +kernel)
theorem w19_55 : ma_W d 19 Q 55 (some (.ref i) :: l) st H 0 0 = ma_W d 19 Q 56 (some (.ref i) :: l) (.ref i :: st) H 0 0 := wp_aload_n (x := some i) rfl rfl
theorem w19_56 : ma_W d 19 Q 56 l (.ref i :: st) H 0 0 = ma_gf (H.1 i) 2 2 (ma_kV d 19 Q 59 l st H 0 0) := wp_get rfl (by decide +kernel)
theorem w19_59 : ma_W d 19 Q 59 l (.int x0 :: .ref i :: st) H 0 0 = (ma_cat st ≤ 8 ∧ ma_cv (H.1 i) 5 d 58 [.ref i, .int x0] H (ma_kC d 19 Q 62 l st 0 0)) := wc_V0 (ia := 58) (n := 2) (cn := 5) rfl (by decide +kernel) (fun _ => rfl) rfl rfl
theorem w19_62 : ma_W d 19 Q 62 (o0 :: p :: l) (.int x :: st) H 0 0 = ma_W d 19 Q 63 (ma_clr o0 :: some (.int x) :: l) st H 0 0 := wp_istore_n (id := 19) (pc := 62) (k := 1) rfl (Nat.succ_lt_succ (Nat.zero_lt_succ _))
theorem w19_63 : ma_W d 19 Q 63 (some (.ref i) :: l) st H 0 0 = ma_W d 19 Q 64 (some (.ref i) :: l) (.ref i :: st) H 0 0 := wp_aload_n (x := some i) rfl rfl
theorem w19_64 : ma_W d 19 Q 64 (some (.ref i) :: l) st H 0 0 = ma_W d 19 Q 65 (some (.ref i) :: l) (.ref i :: st) H 0 0 := wp_aload_n (x := some i) rfl rfl
theorem w19_65 : ma_W d 19 Q 65 l (.ref i :: st) H 0 0 = ma_gf (H.1 i) 2 2 (ma_kV d 19 Q 68 l st H 0 0) := wp_get rfl (by decide +kernel)
theorem w19_68 : ma_W d 19 Q 68 l st H 0 0 = ma_W d 19 Q 69 l (.int 1 :: st) H 0 0 := wp_iconst rfl (by decide)
theorem w19_69 : ma_W d 19 Q 69 l (.int y :: .int x :: st) H 0 0 = ma_W d 19 Q 70 l (.int (x + y) :: st) H 0 0 := wp_iadd rfl
theorem w19_70 : ma_W d 19 Q 70 l (.int x :: .ref i :: st) H 0 0 = ma_pf (H.1 i) 2 3 (.int x) (ma_kH d 19 Q 73 l st H i 0 0) := wp_put rfl (by decide +kernel) (by decide +kernel) rfl rfl
theorem w19_73 : ma_W d 19 Q 73 (some (.ref i) :: l) st H 0 0 = ma_W d 19 Q 74 (some (.ref i) :: l) (.ref i :: st) H 0 0 := wp_aload_n (x := some i) rfl rfl
theorem w19_74 : ma_W d 19 Q 74 l (.ref i :: st) H 0 0 = ma_gf (H.1 i) 2 2 (ma_kV d 19 Q 77 l st H 0 0) := wp_get rfl (by decide +kernel)
theorem w19_77 : ma_W d 19 Q 77 (some (.ref i) :: l) st H 0 0 = ma_W d 19 Q 78 (some (.ref i) :: l) (.ref i :: st) H 0 0 := wp_aload_n (x := some i) rfl rfl
theorem w19_78 : ma_W d 19 Q 78 l (.ref i :: st) H 0 0 = ma_gf (H.1 i) 2 0 (ma_kV d 19 Q 81 l st H 0 0) := wp_get rfl (by decide +kernel)
theorem w19_81 : ma_W d 19 Q 81 l (.ref i :: st) H 0 0 = (ma_cat st ≤ 8 ∧ ma_cv (H.1 i) 5 d 54 [.ref i] H (ma_kC d 19 Q 84 l st 0 0)) := wc_V0 (ia := 54) (n := 1) (cn := 5) rfl (by decide +kernel) (fun _ => rfl) rfl rfl
theorem w19_84 : ma_W d 19 Q 84 l (.int y :: .int x :: st) H 0 0 = ma_if (x < y) d 19 Q 95 87 l st H 0 0 := wp_ic (id := 19) (pc := 84) (c := .lt) (off := 11) 95 rfl (by decide)
theorem w19_87 : ma_W d 19 Q 87 (some (.ref i) :: l) st H 0 0 = ma_W d 19 Q 88 (some (.ref i) :: l) (.ref i :: st) H 0 0 := wp_aload_n (x := some i) rfl rfl
theorem w19_88 : ma_W d 19 Q 88 l st H 0 0 = ma_W d 19 Q 89 l (.int 0 :: st) H 0 0 := wp_iconst rfl (by decide)
theorem w19_89 : ma_W d 19 Q 89 l (.int x :: .ref i :: st) H 0 0 = ma_pf (H.1 i) 2 1 (.int x) (ma_kH d 19 Q 92 l st H i 0 0) := wp_put rfl (by decide +kernel) (by decide +kernel) rfl rfl
theorem w19_92 : ma_W d 19 Q 92 l st H 0 0 = ma_W d 19 Q 139 l st H 0 0 := wp_goto 139 rfl (by decide)
theorem w19_95 : ma_W d 19 Q 95 (o0 :: some (.int x) :: l) st H 0 0 = ma_W d 19 Q 96 (o0 :: some (.int x) :: l) (.int x :: st) H 0 0 := wp_iload_n rfl rfl
theorem w19_96 : ma_W d 19 Q 96 l (.int x0 :: st) H 0 0 = (ma_cat st ≤ 8 ∧ ma_MW d 22 [.int x0] H (ma_kC d 19 Q 99 l st 0 0)) := wc_S0 (ia := 22) (n := 1) (cn := 2) (k := 1) rfl (by decide +kernel) (by decide) (fun _ => rfl) rfl rfl
theorem w19_99 : ma_W d 19 Q 99 l (.int x :: st) H 0 0 = ma_if (x = 0) d 19 Q 109 102 l st H 0 0 := wp_c0 (id := 19) (pc := 99) (c := .eq) (off := 10) 109 rfl (by decide)
theorem w19_102 : ma_W d 19 Q 102 (some (.ref i) :: l) st H 0 0 = ma_W d 19 Q 103 (some (.ref i) :: l) (.ref i :: st) H 0 0 := wp_aload_n (x := some i) rfl rfl
theorem w19_103 : ma_W d 19 Q 103 l (.ref i :: st) H 0 0 = (ma_cat st ≤ 8 ∧ ma_cv (H.1 i) 2 d 20 [.ref i] H (ma_kC d 19 Q 106 l st 0 0)) := wc_V0 (ia := 20) (n := 1) (cn := 2) rfl (by decide +kernel) (fun _ => rfl) rfl rfl
theorem w19_106 : ma_W d 19 Q 106 l st H 0 0 = ma_W d 19 Q 139 l st H 0 0 := wp_goto 139 rfl (by decide)
theorem w19_109 : ma_W d 19 Q 109 (o0 :: some (.int x) :: l) st H 0 0 = ma_W d 19 Q 110 (o0 :: some (.int x) :: l) (.int x :: st) H 0 0 := wp_iload_n rfl rfl
theorem w19_110 : ma_W d 19 Q 110 l (.int x0 :: st) H 0 0 = (ma_cat st ≤ 8 ∧ ma_MW d 23 [.int x0] H (ma_kC d 19 Q 113 l st 0 0)) := wc_S0 (ia := 23) (n := 1) (cn := 2) (k := 1) rfl (by decide +kernel) (by decide) (fun _ => rfl) rfl rfl
theorem w19_113 : ma_W d 19 Q 113 l (.int x :: st) H 0 0 = ma_if (x = 0) d 19 Q 123 116 l st H 0 0 := wp_c0 (id := 19) (pc := 113) (c := .eq) (off := 10) 123 rfl (by decide)
theorem w19_116 : ma_W d 19 Q 116 (some (.ref i) :: l) st H 0 0 = ma_W d 19 Q 117 (some (.ref i) :: l) (.ref i :: st) H 0 0 := wp_aload_n (x := some i) rfl rfl
theorem w19_117 : ma_W d 19 Q 117 l (.ref i :: st) H 0 0 = (ma_cat st ≤ 8 ∧ ma_cv (H.1 i) 2 d 21 [.ref i] H (ma_kC d 19 Q 120 l st 0 0)) := wc_V0 (ia := 21) (n := 1) (cn := 2) rfl (by decide +kernel) (fun _ => rfl) rfl rfl
theorem w19_120 : ma_W d 19 Q 120 l st H 0 0 = ma_W d 19 Q 139 l st H 0 0 := wp_goto 139 rfl (by decide)
theorem w19_123 : ma_W d 19 Q 123 (some (.ref i) :: l) st H 0 0 = ma_W d 19 Q 124 (some (.ref i) :: l) (.ref i :: st) H 0 0 := wp_aload_n (x := some i) rfl rfl
theorem w19_124 : ma_W d 19 Q 124 (o0 :: some (.int x) :: l) st H 0 0 = ma_W d 19 Q 125 (o0 :: some (.int x) :: l) (.int x :: st) H 0 0 := wp_iload_n rfl rfl
theorem w19_125 : ma_W d 19 Q 125 l st H 0 0 = ma_W d 19 Q 127 l (.int 59 :: st) H 0 0 := wp_bipush rfl (by decide)
theorem w19_127 : ma_W d 19 Q 127 l (.int y :: .int x :: st) H 0 0 = ma_if (x = y) d 19 Q 130 134 l st H 0 0 := wp_ic (id := 19) (pc := 127) (c := .ne) (off := 7) 134 rfl (by decide)
theorem w19_130 : ma_W d 19 Q 130 l st H 0 0 = ma_W d 19 Q 131 l (.int 1 :: st) H 0 0 := wp_iconst rfl (by decide)
theorem w19_131 : ma_W d 19 Q 131 l st H 0 0 = ma_W d 19 Q 136 l st H 0 0 := wp_goto 136 rfl (by decide)
theorem w19_134 : ma_W d 19 Q 134 l st H 0 0 = ma_W d 19 Q 136 l (.int 6 :: st) H 0 0 := wp_bipush rfl (by decide)
theorem w19_136 : ma_W d 19 Q 136 l (.int x :: .ref i :: st) H 0 0 = ma_pf (H.1 i) 2 1 (.int x) (ma_kH d 19 Q 139 l st H i 0 0) := wp_put rfl (by decide +kernel) (by decide +kernel) rfl rfl
theorem w19_139 : ma_W d 19 Q 139 l [] H 0 0 = Q none H := wp_vret rfl rfl
theorem e19 : ma_MW (d + 1) 19 [.ref i] H Q = ma_W d 19 Q 0 [some (.ref i), none] [] H 0 0 := wp_enter (by decide) (Nat.le_of_ble_eq_true rfl) rfl
/-! 20 re_readWord -/
theorem w20_0 : ma_W d 20 Q 0 (some (.ref i) :: l) st H 0 0 = ma_W d 20 Q 1 (some (.ref i) :: l) (.ref i :: st) H 0 0 := wp_aload_n (x := some i) rfl rfl
theorem w20_1 : ma_W d 20 Q 1 l (.ref i :: st) H 0 0 = ma_gf (H.1 i) 2 3 (ma_kV d 20 Q 4 l st H 0 0) := wp_get rfl (by decide +kernel)
theorem w20_4 : ma_W d 20 Q 4 (some (.ref i) :: l) st H 0 0 = ma_W d 20 Q 5 (some (.ref i) :: l) (.ref i :: st) H 0 0 := wp_aload_n (x := some i) rfl rfl
theorem w20_5 : ma_W d 20 Q 5 l (.ref i :: st) H 0 0 = ma_gf (H.1 i) 2 0 (ma_kV d 20 Q 8 l st H 0 0) := wp_get rfl (by decide +kernel)
theorem w20_8 : ma_W d 20 Q 8 l (.ref i :: st) H 0 0 = (ma_cat st ≤ 8 ∧ ma_cv (H.1 i) 5 d 54 [.ref i] H (ma_kC d 20 Q 11 l st 0 0)) := wc_V0 (ia := 54) (n := 1) (cn := 5) rfl (by decide +kernel) (fun _ => rfl) rfl rfl
theorem w20_11 : ma_W d 20 Q 11 l (.int y :: .int x :: st) H 0 0 = ma_if (y ≤ x) d 20 Q 44 14 l st H 0 0 := wp_ic (id := 20) (pc := 11) (c := .ge) (off := 33) 44 rfl (by decide)
theorem w20_14 : ma_W d 20 Q 14 (some (.ref i) :: l) st H 0 0 = ma_W d 20 Q 15 (some (.ref i) :: l) (.ref i :: st) H 0 0 := wp_aload_n (x := some i) rfl rfl
theorem w20_15 : ma_W d 20 Q 15 l (.ref i :: st) H 0 0 = ma_gf (H.1 i) 2 0 (ma_kV d 20 Q 18 l st H 0 0) := wp_get rfl (by decide +kernel)
theorem w20_18 : ma_W d 20 Q 18 (some (.ref i) :: l) st H 0 0 = ma_W d 20 Q 19 (some (.ref i) :: l) (.ref i :: st) H 0 0 := wp_aload_n (x := some i) rfl rfl
theorem w20_19 : ma_W d 20 Q 19 l (.ref i :: st) H 0 0 = ma_gf (H.1 i) 2 3 (ma_kV d 20 Q 22 l st H 0 0) := wp_get rfl (by decide +kernel)
theorem w20_22 : ma_W d 20 Q 22 l (.int x0 :: .ref i :: st) H 0 0 = (ma_cat st ≤ 8 ∧ ma_cv (H.1 i) 5 d 58 [.ref i, .int x0] H (ma_kC d 20 Q 25 l st 0 0)) := wc_V0 (ia := 58) (n := 2) (cn := 5) rfl (by decide +kernel) (fun _ => rfl) rfl rfl
theorem w20_25 : ma_W d 20 Q 25 l (.int x0 :: st) H 0 0 = (ma_cat st ≤ 8 ∧ ma_MW d 22 [.int x0] H (ma_kC d 20 Q 28 l st 0 0)) := wc_S0 (ia := 22) (n := 1) (cn := 2) (k := 1) rfl (by decide +kernel) (by decide) (fun _ => rfl) rfl rfl
theorem w20_28 : ma_W d 20 Q 28 l (.int x :: st) H 0 0 = ma_if (x = 0) d 20 Q 44 31 l st H 0 0 := wp_c0 (id := 20) (pc := 28) (c := .eq) (off := 16) 44 rfl (by decide)
theorem w20_31 : ma_W d 20 Q 31 (some (.ref i) :: l) st H 0 0 = ma_W d 20 Q 32 (some (.ref i) :: l) (.ref i :: st) H 0 0 := wp_aload_n (x := some i) rfl rfl
theorem w20_32 : ma_W d 20 Q 32 l (.ref i :: st) H 0 0 = ma_W d 20 Q 33 l (.ref i :: .ref i :: st) H 0 0 := wp_dup rfl rfl
theorem w20_32i : ma_W d 20 Q 32 l (.int x :: st) H 0 0 = ma_W d 20 Q 33 l (.int x :: .int x :: st) H 0 0 := wp_dup rfl rfl
theorem w20_33 : ma_W d 20 Q 33 l (.ref i :: st) H 0 0 = ma_gf (H.1 i) 2 3 (ma_kV d 20 Q 36 l st H 0 0) := wp_get rfl (by decide +kernel)
theorem w20_36 : ma_W d 20 Q 36 l st H 0 0 = ma_W d 20 Q 37 l (.int 1 :: st) H 0 0 := wp_iconst rfl (by decide)
theorem w20_37 : ma_W d 20 Q 37 l (.int y :: .int x :: st) H 0 0 = ma_W d 20 Q 38 l (.int (x + y) :: st) H 0 0 := wp_iadd rfl
theorem w20_38 : ma_W d 20 Q 38 l (.int x :: .ref i :: st) H 0 0 = ma_pf (H.1 i) 2 3 (.int x) (ma_kH d 20 Q 41 l st H i 0 0) := wp_put rfl (by decide +kernel) (by decide +kernel) rfl rfl
theorem w20_41 : ma_W d 20 Q 41 l st H 0 0 = ma_W d 20 Q 0 l st H 0 0 := wp_goto 0 rfl (by decide)
theorem w20_44 : ma_W d 20 Q 44 (some (.ref i) :: l) st H 0 0 = ma_W d 20 Q 45 (some (.ref i) :: l) (.ref i :: st) H 0 0 := wp_aload_n (x := some i) rfl rfl
theorem w20_45 : ma_W d 20 Q 45 l (.ref i :: st) H 0 0 = ma_gf (H.1 i) 2 0 (ma_kV d 20 Q 48 l st H 0 0) := wp_get rfl (by decide +kernel)
theorem w20_48 : ma_W d 20 Q 48 (some (.ref i) :: l) st H 0 0 = ma_W d 20 Q 49 (some (.ref i) :: l) (.ref i :: st) H 0 0 := wp_aload_n (x := some i) rfl rfl
theorem w20_49 : ma_W d 20 Q 49 l (.ref i :: st) H 0 0 = ma_gf (H.1 i) 2 2 (ma_kV d 20 Q 52 l st H 0 0) := wp_get rfl (by decide +kernel)
theorem w20_52 : ma_W d 20 Q 52 (some (.ref i) :: l) st H 0 0 = ma_W d 20 Q 53 (some (.ref i) :: l) (.ref i :: st) H 0 0 := wp_aload_n (x := some i) rfl rfl
theorem w20_53 : ma_W d 20 Q 53 l (.ref i :: st) H 0 0 = ma_gf (H.1 i) 2 3 (ma_kV d 20 Q 56 l st H 0 0) := wp_get rfl (by decide +kernel)
theorem w20_56 : ma_W d 20 Q 56 l st H 0 0 = ma_W d 20 Q 58 l (.ref 1 :: st) H 0 0 := wp_ldcs rfl (by decide +kernel) (by decide +kernel)
theorem w20_58 : ma_W d 20 Q 58 l (.ref i2 :: .int x1 :: .int x0 :: .ref i :: st) H 0 0 = (ma_cat st ≤ 8 ∧ ma_cv (H.1 i) 5 d 59 [.ref i, .int x0, .int x1, .ref i2] H (ma_kC d 20 Q 61 l st 0 0)) := wc_V0 (ia := 59) (n := 4) (cn := 5) rfl (by decide +kernel) (fun _ => rfl) rfl rfl
theorem w20_61 : ma_W d 20 Q 61 l (.int x :: st) H 0 0 = ma_if (x = 0) d 20 Q 72 64 l st H 0 0 := wp_c0 (id := 20) (pc := 61) (c := .eq) (off := 11) 72 rfl (by decide)
theorem w20_64 : ma_W d 20 Q 64 (some (.ref i) :: l) st H 0 0 = ma_W d 20 Q 65 (some (.ref i) :: l) (.ref i :: st) H 0 0 := wp_aload_n (x := some i) rfl rfl
theorem w20_65 : ma_W d 20 Q 65 l st H 0 0 = ma_W d 20 Q 66 l (.int 3 :: st) H 0 0 := wp_iconst rfl (by decide)
theorem w20_66 : ma_W d 20 Q 66 l (.int x :: .ref i :: st) H 0 0 = ma_pf (H.1 i) 2 1 (.int x) (ma_kH d 20 Q 69 l st H i 0 0) := wp_put rfl (by decide +kernel) (by decide +kernel) rfl rfl
theorem w20_69 : ma_W d 20 Q 69 l st H 0 0 = ma_W d 20 Q 130 l st H 0 0 := wp_goto 130 rfl (by decide)
theorem w20_72 : ma_W d 20 Q 72 (some (.ref i) :: l) st H 0 0 = ma_W d 20 Q 73 (some (.ref i) :: l) (.ref i :: st) H 0 0 := wp_aload_n (x := some i) rfl rfl
theorem w20_73 : ma_W d 20 Q 73 l (.ref i :: st) H 0 0 = ma_gf (H.1 i) 2 0 (ma_kV d 20 Q 76 l st H 0 0) := wp_get rfl (by decide +kernel)
theorem w20_76 : ma_W d 20 Q 76 (some (.ref i) :: l) st H 0 0 = ma_W d 20 Q 77 (some (.ref i) :: l) (.ref i :: st) H 0 0 := wp_aload_n (x := some i) rfl rfl
theorem w20_77 : ma_W d 20 Q 77 l (.ref i :: st) H 0 0 = ma_gf (H.1 i) 2 2 (ma_kV d 20 Q 80 l st H 0 0) := wp_get rfl (by decide +kernel)
theorem w20_80 : ma_W d 20 Q 80 (some (.ref i) :: l) st H 0 0 = ma_W d 20 Q 81 (some (.ref i) :: l) (.ref i :: st) H 0 0 := wp_aload_n (x := some i) rfl rfl
theorem w20_81 : ma_W d 20 Q 81 l (.ref i :: st) H 0 0 = ma_gf (H.1 i) 2 3 (ma_kV d 20 Q 84 l st H 0 0) := wp_get rfl (by decide +kernel)
theorem w20_84 : ma_W d 20 Q 84 l st H 0 0 = ma_W d 20 Q 86 l (.ref 2 :: st) H 0 0 := wp_ldcs rfl (by decide +kernel) (by decide +kernel)
theorem w20_86 : ma_W d 20 Q 86 l (.ref i2 :: .int x1 :: .int x0 :: .ref i :: st) H 0 0 = (ma_cat st ≤ 8 ∧ ma_cv (H.1 i) 5 d 59 [.ref i, .int x0, .int x1, .ref i2] H (ma_kC d 20 Q 89 l st 0 0)) := wc_V0 (ia := 59) (n := 4) (cn := 5) rfl (by decide +kernel) (fun _ => rfl) rfl rfl
theorem w20_89 : ma_W d 20 Q 89 l (.int x :: st) H 0 0 = ma_if (x = 0) d 20 Q 100 92 l st H 0 0 := wp_c0 (id := 20) (pc := 89) (c := .eq) (off := 11) 100 rfl (by decide)
theorem w20_92 : ma_W d 20 Q 92 (some (.ref i) :: l) st H 0 0 = ma_W d 20 Q 93 (some (.ref i) :: l) (.ref i :: st) H 0 0 := wp_aload_n (x := some i) rfl rfl
theorem w20_93 : ma_W d 20 Q 93 l st H 0 0 = ma_W d 20 Q 94 l (.int 4 :: st) H 0 0 := wp_iconst rfl (by decide)
theorem w20_94 : ma_W d 20 Q 94 l (.int x :: .ref i :: st) H 0 0 = ma_pf (H.1 i) 2 1 (.int x) (ma_kH d 20 Q 97 l st H i 0 0) := wp_put rfl (by decide +kernel) (by decide +kernel) rfl rfl
theorem w20_97 : ma_W d 20 Q 97 l st H 0 0 = ma_W d 20 Q 130 l st H 0 0 := wp_goto 130 rfl (by decide)
theorem w20_100 : ma_W d 20 Q 100 (some (.ref i) :: l) st H 0 0 = ma_W d 20 Q 101 (some (.ref i) :: l) (.ref i :: st) H 0 0 := wp_aload_n (x := some i) rfl rfl
theorem w20_101 : ma_W d 20 Q 101 (some (.ref i) :: l) st H 0 0 = ma_W d 20 Q 102 (some (.ref i) :: l) (.ref i :: st) H 0 0 := wp_aload_n (x := some i) rfl rfl
theorem w20_102 : ma_W d 20 Q 102 l (.ref i :: st) H 0 0 = ma_gf (H.1 i) 2 0 (ma_kV d 20 Q 105 l st H 0 0) := wp_get rfl (by decide +kernel)
theorem w20_105 : ma_W d 20 Q 105 (some (.ref i) :: l) st H 0 0 = ma_W d 20 Q 106 (some (.ref i) :: l) (.ref i :: st) H 0 0 := wp_aload_n (x := some i) rfl rfl
theorem w20_106 : ma_W d 20 Q 106 l (.ref i :: st) H 0 0 = ma_gf (H.1 i) 2 2 (ma_kV d 20 Q 109 l st H 0 0) := wp_get rfl (by decide +kernel)
theorem w20_109 : ma_W d 20 Q 109 (some (.ref i) :: l) st H 0 0 = ma_W d 20 Q 110 (some (.ref i) :: l) (.ref i :: st) H 0 0 := wp_aload_n (x := some i) rfl rfl
theorem w20_110 : ma_W d 20 Q 110 l (.ref i :: st) H 0 0 = ma_gf (H.1 i) 2 3 (ma_kV d 20 Q 113 l st H 0 0) := wp_get rfl (by decide +kernel)
theorem w20_113 : ma_W d 20 Q 113 l st H 0 0 = ma_W d 20 Q 115 l (.ref 3 :: st) H 0 0 := wp_ldcs rfl (by decide +kernel) (by decide +kernel)
theorem w20_115 : ma_W d 20 Q 115 l (.ref i2 :: .int x1 :: .int x0 :: .ref i :: st) H 0 0 = (ma_cat st ≤ 8 ∧ ma_cv (H.1 i) 5 d 59 [.ref i, .int x0, .int x1, .ref i2] H (ma_kC d 20 Q 118 l st 0 0)) := wc_V0 (ia := 59) (n := 4) (cn := 5) rfl (by decide +kernel) (fun _ => rfl) rfl rfl
theorem w20_118 : ma_W d 20 Q 118 l (.int x :: st) H 0 0 = ma_if (x = 0) d 20 Q 125 121 l st H 0 0 := wp_c0 (id := 20) (pc := 118) (c := .eq) (off := 7) 125 rfl (by decide)
theorem w20_121 : ma_W d 20 Q 121 l st H 0 0 = ma_W d 20 Q 122 l (.int 5 :: st) H 0 0 := wp_iconst rfl (by decide)
theorem w20_122 : ma_W d 20 Q 122 l st H 0 0 = ma_W d 20 Q 127 l st H 0 0 := wp_goto 127 rfl (by decide)
theorem w20_125 : ma_W d 20 Q 125 l st H 0 0 = ma_W d 20 Q 127 l (.int 6 :: st) H 0 0 := wp_bipush rfl (by decide)
theorem w20_127 : ma_W d 20 Q 127 l (.int x :: .ref i :: st) H 0 0 = ma_pf (H.1 i) 2 1 (.int x) (ma_kH d 20 Q 130 l st H i 0 0) := wp_put rfl (by decide +kernel) (by decide +kernel) rfl rfl
theorem w20_130 : ma_W d 20 Q 130 l [] H 0 0 = Q none H := wp_vret rfl rfl
theorem e20 : ma_MW (d + 1) 20 [.ref i] H Q = ma_W d 20 Q 0 [some (.ref i)] [] H 0 0 := wp_enter (by decide) (Nat.le_of_ble_eq_true rfl) rfl
/-! 21 re_readFigures -/
theorem w21_0 : ma_W d 21 Q 0 (some (.ref i) :: l) st H 0 0 = ma_W d 21 Q 1 (some (.ref i) :: l) (.ref i :: st) H 0 0 := wp_aload_n (x := some i) rfl rfl
theorem w21_1 : ma_W d 21 Q 1 (some (.ref i) :: l) st H 0 0 = ma_W d 21 Q 2 (some (.ref i) :: l) (.ref i :: st) H 0 0 := wp_aload_n (x := some i) rfl rfl
theorem w21_2 : ma_W d 21 Q 2 l (.ref i :: st) H 0 0 = ma_gf (H.1 i) 2 0 (ma_kV d 21 Q 5 l st H 0 0) := wp_get rfl (by decide +kernel)
theorem w21_5 : ma_W d 21 Q 5 (some (.ref i) :: l) st H 0 0 = ma_W d 21 Q 6 (some (.ref i) :: l) (.ref i :: st) H 0 0 := wp_aload_n (x := some i) rfl rfl
theorem w21_6 : ma_W d 21 Q 6 l (.ref i :: st) H 0 0 = ma_gf (H.1 i) 2 2 (ma_kV d 21 Q 9 l st H 0 0) := wp_get rfl (by decide +kernel)
theorem w21_9 : ma_W d 21 Q 9 l (.int x0 :: .ref i :: st) H 0 0 = (ma_cat st ≤ 8 ∧ ma_cv (H.1 i) 5 d 58 [.ref i, .int x0] H (ma_kC d 21 Q 12 l st 0 0)) := wc_V0 (ia := 58) (n := 2) (cn := 5) rfl (by decide +kernel) (fun _ => rfl) rfl rfl
theorem w21_12 : ma_W d 21 Q 12 l st H 0 0 = ma_W d 21 Q 14 l (.int 48 :: st) H 0 0 := wp_bipush rfl (by decide)
theorem w21_14 : ma_W d 21 Q 14 l (.int y :: .int x :: st) H 0 0 = ma_W d 21 Q 15 l (.int (x - y) :: st) H 0 0 := wp_isub rfl
theorem w21_15 : ma_W d 21 Q 15 l (.int x :: .ref i :: st) H 0 0 = ma_pf (H.1 i) 2 4 (.int x) (ma_kH d 21 Q 18 l st H i 0 0) := wp_put rfl (by decide +kernel) (by decide +kernel) rfl rfl
theorem w21_18 : ma_W d 21 Q 18 (some (.ref i) :: l) st H 0 0 = ma_W d 21 Q 19 (some (.ref i) :: l) (.ref i :: st) H 0 0 := wp_aload_n (x := some i) rfl rfl
theorem w21_19 : ma_W d 21 Q 19 l (.ref i :: st) H 0 0 = ma_gf (H.1 i) 2 3 (ma_kV d 21 Q 22 l st H 0 0) := wp_get rfl (by decide +kernel)
theorem w21_22 : ma_W d 21 Q 22 (some (.ref i) :: l) st H 0 0 = ma_W d 21 Q 23 (some (.ref i) :: l) (.ref i :: st) H 0 0 := wp_aload_n (x := some i) rfl rfl
theorem w21_23 : ma_W d 21 Q 23 l (.ref i :: st) H 0 0 = ma_gf (H.1 i) 2 0 (ma_kV d 21 Q 26 l st H 0 0) := wp_get rfl (by decide +kernel)
theorem w21_26 : ma_W d 21 Q 26 l (.ref i :: st) H 0 0 = (ma_cat st ≤ 8 ∧ ma_cv (H.1 i) 5 d 54 [.ref i] H (ma_kC d 21 Q 29 l st 0 0)) := wc_V0 (ia := 54) (n := 1) (cn := 5) rfl (by decide +kernel) (fun _ => rfl) rfl rfl
theorem w21_29 : ma_W d 21 Q 29 l (.int y :: .int x :: st) H 0 0 = ma_if (y ≤ x) d 21 Q 88 32 l st H 0 0 := wp_ic (id := 21) (pc := 29) (c := .ge) (off := 59) 88 rfl (by decide)
theorem w21_32 : ma_W d 21 Q 32 (some (.ref i) :: l) st H 0 0 = ma_W d 21 Q 33 (some (.ref i) :: l) (.ref i :: st) H 0 0 := wp_aload_n (x := some i) rfl rfl
theorem w21_33 : ma_W d 21 Q 33 l (.ref i :: st) H 0 0 = ma_gf (H.1 i) 2 0 (ma_kV d 21 Q 36 l st H 0 0) := wp_get rfl (by decide +kernel)
theorem w21_36 : ma_W d 21 Q 36 (some (.ref i) :: l) st H 0 0 = ma_W d 21 Q 37 (some (.ref i) :: l) (.ref i :: st) H 0 0 := wp_aload_n (x := some i) rfl rfl
theorem w21_37 : ma_W d 21 Q 37 l (.ref i :: st) H 0 0 = ma_gf (H.1 i) 2 3 (ma_kV d 21 Q 40 l st H 0 0) := wp_get rfl (by decide +kernel)
theorem w21_40 : ma_W d 21 Q 40 l (.int x0 :: .ref i :: st) H 0 0 = (ma_cat st ≤ 8 ∧ ma_cv (H.1 i) 5 d 58 [.ref i, .int x0] H (ma_kC d 21 Q 43 l st 0 0)) := wc_V0 (ia := 58) (n := 2) (cn := 5) rfl (by decide +kernel) (fun _ => rfl) rfl rfl
theorem w21_43 : ma_W d 21 Q 43 l (.int x0 :: st) H 0 0 = (ma_cat st ≤ 8 ∧ ma_MW d 23 [.int x0] H (ma_kC d 21 Q 46 l st 0 0)) := wc_S0 (ia := 23) (n := 1) (cn := 2) (k := 1) rfl (by decide +kernel) (by decide) (fun _ => rfl) rfl rfl
theorem w21_46 : ma_W d 21 Q 46 l (.int x :: st) H 0 0 = ma_if (x = 0) d 21 Q 88 49 l st H 0 0 := wp_c0 (id := 21) (pc := 46) (c := .eq) (off := 42) 88 rfl (by decide)
theorem w21_49 : ma_W d 21 Q 49 (some (.ref i) :: l) st H 0 0 = ma_W d 21 Q 50 (some (.ref i) :: l) (.ref i :: st) H 0 0 := wp_aload_n (x := some i) rfl rfl
theorem w21_50 : ma_W d 21 Q 50 l st H 0 0 = ma_W d 21 Q 52 l (.int 10 :: st) H 0 0 := wp_bipush rfl (by decide)
theorem w21_52 : ma_W d 21 Q 52 (some (.ref i) :: l) st H 0 0 = ma_W d 21 Q 53 (some (.ref i) :: l) (.ref i :: st) H 0 0 := wp_aload_n (x := some i) rfl rfl
theorem w21_53 : ma_W d 21 Q 53 l (.ref i :: st) H 0 0 = ma_gf (H.1 i) 2 4 (ma_kV d 21 Q 56 l st H 0 0) := wp_get rfl (by decide +kernel)
theorem w21_56 : ma_W d 21 Q 56 l (.int y :: .int x :: st) H 0 0 = ma_W d 21 Q 57 l (.int (x * y) :: st) H 0 0 := wp_imul rfl
theorem w21_57 : ma_W d 21 Q 57 (some (.ref i) :: l) st H 0 0 = ma_W d 21 Q 58 (some (.ref i) :: l) (.ref i :: st) H 0 0 := wp_aload_n (x := some i) rfl rfl
theorem w21_58 : ma_W d 21 Q 58 l (.ref i :: st) H 0 0 = ma_gf (H.1 i) 2 0 (ma_kV d 21 Q 61 l st H 0 0) := wp_get rfl (by decide +kernel)
theorem w21_61 : ma_W d 21 Q 61 (some (.ref i) :: l) st H 0 0 = ma_W d 21 Q 62 (some (.ref i) :: l) (.ref i :: st) H 0 0 := wp_aload_n (x := some i) rfl rfl
theorem w21_62 : ma_W d 21 Q 62 l (.ref i :: st) H 0 0 = ma_gf (H.1 i) 2 3 (ma_kV d 21 Q 65 l st H 0 0) := wp_get rfl (by decide +kernel)
theorem w21_65 : ma_W d 21 Q 65 l (.int x0 :: .ref i :: st) H 0 0 = (ma_cat st ≤ 8 ∧ ma_cv (H.1 i) 5 d 58 [.ref i, .int x0] H (ma_kC d 21 Q 68 l st 0 0)) := wc_V0 (ia := 58) (n := 2) (cn := 5) rfl (by decide +kernel) (fun _ => rfl) rfl rfl
theorem w21_68 : ma_W d 21 Q 68 l (.int y :: .int x :: st) H 0 0 = ma_W d 21 Q 69 l (.int (x + y) :: st) H 0 0 := wp_iadd rfl
theorem w21_69 : ma_W d 21 Q 69 l st H 0 0 = ma_W d 21 Q 71 l (.int 48 :: st) H 0 0 := wp_bipush rfl (by decide)
theorem w21_71 : ma_W d 21 Q 71 l (.int y :: .int x :: st) H 0 0 = ma_W d 21 Q 72 l (.int (x - y) :: st) H 0 0 := wp_isub rfl
theorem w21_72 : ma_W d 21 Q 72 l (.int x :: .ref i :: st) H 0 0 = ma_pf (H.1 i) 2 4 (.int x) (ma_kH d 21 Q 75 l st H i 0 0) := wp_put rfl (by decide +kernel) (by decide +kernel) rfl rfl
theorem w21_75 : ma_W d 21 Q 75 (some (.ref i) :: l) st H 0 0 = ma_W d 21 Q 76 (some (.ref i) :: l) (.ref i :: st) H 0 0 := wp_aload_n (x := some i) rfl rfl
theorem w21_76 : ma_W d 21 Q 76 l (.ref i :: st) H 0 0 = ma_W d 21 Q 77 l (.ref i :: .ref i :: st) H 0 0 := wp_dup rfl rfl
theorem w21_76i : ma_W d 21 Q 76 l (.int x :: st) H 0 0 = ma_W d 21 Q 77 l (.int x :: .int x :: st) H 0 0 := wp_dup rfl rfl
theorem w21_77 : ma_W d 21 Q 77 l (.ref i :: st) H 0 0 = ma_gf (H.1 i) 2 3 (ma_kV d 21 Q 80 l st H 0 0) := wp_get rfl (by decide +kernel)
theorem w21_80 : ma_W d 21 Q 80 l st H 0 0 = ma_W d 21 Q 81 l (.int 1 :: st) H 0 0 := wp_iconst rfl (by decide)
theorem w21_81 : ma_W d 21 Q 81 l (.int y :: .int x :: st) H 0 0 = ma_W d 21 Q 82 l (.int (x + y) :: st) H 0 0 := wp_iadd rfl
theorem w21_82 : ma_W d 21 Q 82 l (.int x :: .ref i :: st) H 0 0 = ma_pf (H.1 i) 2 3 (.int x) (ma_kH d 21 Q 85 l st H i 0 0) := wp_put rfl (by decide +kernel) (by decide +kernel) rfl rfl
theorem w21_85 : ma_W d 21 Q 85 l st H 0 0 = ma_W d 21 Q 18 l st H 0 0 := wp_goto 18 rfl (by decide)
theorem w21_88 : ma_W d 21 Q 88 (some (.ref i) :: l) st H 0 0 = ma_W d 21 Q 89 (some (.ref i) :: l) (.ref i :: st) H 0 0 := wp_aload_n (x := some i) rfl rfl
theorem w21_89 : ma_W d 21 Q 89 (some (.ref i) :: l) st H 0 0 = ma_W d 21 Q 90 (some (.ref i) :: l) (.ref i :: st) H 0 0 := wp_aload_n (x := some i) rfl rfl
theorem w21_90 : ma_W d 21 Q 90 l (.ref i :: st) H 0 0 = ma_gf (H.1 i) 2 3 (ma_kV d 21 Q 93 l st H 0 0) := wp_get rfl (by decide +kernel)
theorem w21_93 : ma_W d 21 Q 93 (some (.ref i) :: l) st H 0 0 = ma_W d 21 Q 94 (some (.ref i) :: l) (.ref i :: st) H 0 0 := wp_aload_n (x := some i) rfl rfl
theorem w21_94 : ma_W d 21 Q 94 l (.ref i :: st) H 0 0 = ma_gf (H.1 i) 2 2 (ma_kV d 21 Q 97 l st H 0 0) := wp_get rfl (by decide +kernel)
theorem w21_97 : ma_W d 21 Q 97 l (.int y :: .int x :: st) H 0 0 = ma_W d 21 Q 98 l (.int (x - y) :: st) H 0 0 := wp_isub rfl
theorem w21_98 : ma_W d 21 Q 98 l st H 0 0 = ma_W d 21 Q 99 l (.int 2 :: st) H 0 0 := wp_iconst rfl (by decide)
theorem w21_99 : ma_W d 21 Q 99 l (.int y :: .int x :: st) H 0 0 = ma_if (y < x) d 21 Q 106 102 l st H 0 0 := wp_ic (id := 21) (pc := 99) (c := .gt) (off := 7) 106 rfl (by decide)
theorem w21_102 : ma_W d 21 Q 102 l st H 0 0 = ma_W d 21 Q 103 l (.int 2 :: st) H 0 0 := wp_iconst rfl (by decide)
theorem w21_103 : ma_W d 21 Q 103 l st H 0 0 = ma_W d 21 Q 108 l st H 0 0 := wp_goto 108 rfl (by decide)
theorem w21_106 : ma_W d 21 Q 106 l st H 0 0 = ma_W d 21 Q 108 l (.int 6 :: st) H 0 0 := wp_bipush rfl (by decide)
theorem w21_108 : ma_W d 21 Q 108 l (.int x :: .ref i :: st) H 0 0 = ma_pf (H.1 i) 2 1 (.int x) (ma_kH d 21 Q 111 l st H i 0 0) := wp_put rfl (by decide +kernel) (by decide +kernel) rfl rfl
theorem w21_111 : ma_W d 21 Q 111 l [] H 0 0 = Q none H := wp_vret rfl rfl
theorem e21 : ma_MW (d + 1) 21 [.ref i] H Q = ma_W d 21 Q 0 [some (.ref i)] [] H 0 0 := wp_enter (by decide) (Nat.le_of_ble_eq_true rfl) rfl
/-! 22 re_isLetter -/
theorem w22_0 : ma_W d 22 Q 0 (some (.int x) :: l) st H 0 0 = ma_W d 22 Q 1 (some (.int x) :: l) (.int x :: st) H 0 0 := wp_iload_n rfl rfl
theorem w22_1 : ma_W d 22 Q 1 l st H 0 0 = ma_W d 22 Q 3 l (.int 97 :: st) H 0 0 := wp_bipush rfl (by decide)
theorem w22_3 : ma_W d 22 Q 3 l (.int y :: .int x :: st) H 0 0 = ma_if (x < y) d 22 Q 16 6 l st H 0 0 := wp_ic (id := 22) (pc := 3) (c := .lt) (off := 13) 16 rfl (by decide)
theorem w22_6 : ma_W d 22 Q 6 (some (.int x) :: l) st H 0 0 = ma_W d 22 Q 7 (some (.int x) :: l) (.int x :: st) H 0 0 := wp_iload_n rfl rfl
theorem w22_7 : ma_W d 22 Q 7 l st H 0 0 = ma_W d 22 Q 9 l (.int 122 :: st) H 0 0 := wp_bipush rfl (by decide)
theorem w22_9 : ma_W d 22 Q 9 l (.int y :: .int x :: st) H 0 0 = ma_if (y < x) d 22 Q 16 12 l st H 0 0 := wp_ic (id := 22) (pc := 9) (c := .gt) (off := 7) 16 rfl (by decide)
theorem w22_12 : ma_W d 22 Q 12 l st H 0 0 = ma_W d 22 Q 13 l (.int 1 :: st) H 0 0 := wp_iconst rfl (by decide)
theorem w22_13 : ma_W d 22 Q 13 l st H 0 0 = ma_W d 22 Q 17 l st H 0 0 := wp_goto 17 rfl (by decide)
theorem w22_16 : ma_W d 22 Q 16 l st H 0 0 = ma_W d 22 Q 17 l (.int 0 :: st) H 0 0 := wp_iconst rfl (by decide)
theorem w22_17 : ma_W d 22 Q 17 l [.int x] H 0 0 = ((x = 0 ∨ x = 1) ∧ Q (some (.int x)) H) := wp_zret rfl rfl
theorem e22 : ma_MW (d + 1) 22 [.int x0] H Q = ma_W d 22 Q 0 [some (.int x0)] [] H 0 0 := wp_enter (by decide) (Nat.le_of_ble_eq_true rfl) rfl
/-! 23 re_isFigure -/
theorem w23_0 : ma_W d 23 Q 0 (some (.int x) :: l) st H 0 0 = ma_W d 23 Q 1 (some (.int x) :: l) (.int x :: st) H 0 0 := wp_iload_n rfl rfl
theorem w23_1 : ma_W d 23 Q 1 l st H 0 0 = ma_W d 23 Q 3 l (.int 48 :: st) H 0 0 := wp_bipush rfl (by decide)
theorem w23_3 : ma_W d 23 Q 3 l (.int y :: .int x :: st) H 0 0 = ma_if (x < y) d 23 Q 16 6 l st H 0 0 := wp_ic (id := 23) (pc := 3) (c := .lt) (off := 13) 16 rfl (by decide)
theorem w23_6 : ma_W d 23 Q 6 (some (.int x) :: l) st H 0 0 = ma_W d 23 Q 7 (some (.int x) :: l) (.int x :: st) H 0 0 := wp_iload_n rfl rfl
theorem w23_7 : ma_W d 23 Q 7 l st H 0 0 = ma_W d 23 Q 9 l (.int 57 :: st) H 0 0 := wp_bipush rfl (by decide)
theorem w23_9 : ma_W d 23 Q 9 l (.int y :: .int x :: st) H 0 0 = ma_if (y < x) d 23 Q 16 12 l st H 0 0 := wp_ic (id := 23) (pc := 9) (c := .gt) (off := 7) 16 rfl (by decide)
theorem w23_12 : ma_W d 23 Q 12 l st H 0 0 = ma_W d 23 Q 13 l (.int 1 :: st) H 0 0 := wp_iconst rfl (by decide)
theorem w23_13 : ma_W d 23 Q 13 l st H 0 0 = ma_W d 23 Q 17 l st H 0 0 := wp_goto 17 rfl (by decide)
theorem w23_16 : ma_W d 23 Q 16 l st H 0 0 = ma_W d 23 Q 17 l (.int 0 :: st) H 0 0 := wp_iconst rfl (by decide)
theorem w23_17 : ma_W d 23 Q 17 l [.int x] H 0 0 = ((x = 0 ∨ x = 1) ∧ Q (some (.int x)) H) := wp_zret rfl rfl
theorem e23 : ma_MW (d + 1) 23 [.int x0] H Q = ma_W d 23 Q 0 [some (.int x0)] [] H 0 0 := wp_enter (by decide) (Nat.le_of_ble_eq_true rfl) rfl
/-! 24 se_init -/
theorem w24_0 : ma_W d 24 Q 0 (some (.ref i) :: l) st H a b = ma_W d 24 Q 1 (some (.ref i) :: l) (.ref i :: st) H a b := wp_aload_n (x := some i) rfl rfl
theorem w24_1 : ma_W d 24 Q 1 l (.ref i :: st) H a b = (ma_cat st ≤ 8 ∧ ma_W d 24 Q 4 l st H a b) := wc_obj (ia := 0) (n := 1) (cn := 0) rfl (by decide +kernel)
theorem w24_4 : ma_W d 24 Q 4 (some (.ref i) :: l) st H a b = ma_W d 24 Q 5 (some (.ref i) :: l) (.ref i :: st) H a b := wp_aload_n (x := some i) rfl rfl
theorem w24_5 : ma_W d 24 Q 5 l st H a b = ma_W d 24 Q 7 l (.int 6 :: st) H a b := wp_bipush rfl (by decide)
theorem w24_7 : ma_W d 24 Q 7 l (.int 6 :: st) H a b = (a + 1 ≤ 4 ∧ b + 6 ≤ 24 ∧ ma_W d 24 Q 9 l (.ref H.2 :: st) (ma_new H (.inl (.int, 6, .inl fun _ => 0))) (a + 1) (b + 6)) := wp_newi rfl (by decide) (by decide) (by decide) rfl rfl
theorem w24_9 : ma_W d 24 Q 9 l (.ref j :: .ref i :: st) H a b = ma_pf (H.1 i) 3 0 (.ref j) (ma_kH d 24 Q 12 l st H i a b) := wp_put rfl (by decide +kernel) (by decide +kernel) rfl rfl
theorem w24_12 : ma_W d 24 Q 12 (some (.ref i) :: l) st H a b = ma_W d 24 Q 13 (some (.ref i) :: l) (.ref i :: st) H a b := wp_aload_n (x := some i) rfl rfl
theorem w24_13 : ma_W d 24 Q 13 l st H a b = ma_W d 24 Q 15 l (.int 6 :: st) H a b := wp_bipush rfl (by decide)
theorem w24_15 : ma_W d 24 Q 15 l (.int 6 :: st) H a b = (a + 1 ≤ 4 ∧ b + 6 ≤ 24 ∧ ma_W d 24 Q 17 l (.ref H.2 :: st) (ma_new H (.inl (.int, 6, .inl fun _ => 0))) (a + 1) (b + 6)) := wp_newi rfl (by decide) (by decide) (by decide) rfl rfl
theorem w24_17 : ma_W d 24 Q 17 l (.ref j :: .ref i :: st) H a b = ma_pf (H.1 i) 3 1 (.ref j) (ma_kH d 24 Q 20 l st H i a b) := wp_put rfl (by decide +kernel) (by decide +kernel) rfl rfl
theorem w24_20 : ma_W d 24 Q 20 (some (.ref i) :: l) st H a b = ma_W d 24 Q 21 (some (.ref i) :: l) (.ref i :: st) H a b := wp_aload_n (x := some i) rfl rfl
theorem w24_21 : ma_W d 24 Q 21 l st H a b = ma_W d 24 Q 23 l (.int 6 :: st) H a b := wp_bipush rfl (by decide)
theorem w24_23 : ma_W d 24 Q 23 l (.int 6 :: st) H a b = (a + 1 ≤ 4 ∧ b + 6 ≤ 24 ∧ ma_W d 24 Q 25 l (.ref H.2 :: st) (ma_new H (.inl (.int, 6, .inl fun _ => 0))) (a + 1) (b + 6)) := wp_newi rfl (by decide) (by decide) (by decide) rfl rfl
theorem w24_25 : ma_W d 24 Q 25 l (.ref j :: .ref i :: st) H a b = ma_pf (H.1 i) 3 2 (.ref j) (ma_kH d 24 Q 28 l st H i a b) := wp_put rfl (by decide +kernel) (by decide +kernel) rfl rfl
theorem w24_28 : ma_W d 24 Q 28 (some (.ref i) :: l) st H a b = ma_W d 24 Q 29 (some (.ref i) :: l) (.ref i :: st) H a b := wp_aload_n (x := some i) rfl rfl
theorem w24_29 : ma_W d 24 Q 29 l st H a b = ma_W d 24 Q 31 l (.int 6 :: st) H a b := wp_bipush rfl (by decide)
theorem w24_31 : ma_W d 24 Q 31 l (.int 6 :: st) H a b = (a + 1 ≤ 4 ∧ b + 6 ≤ 24 ∧ ma_W d 24 Q 33 l (.ref H.2 :: st) (ma_new H (.inl (.int, 6, .inl fun _ => 0))) (a + 1) (b + 6)) := wp_newi rfl (by decide) (by decide) (by decide) rfl rfl
theorem w24_33 : ma_W d 24 Q 33 l (.ref j :: .ref i :: st) H a b = ma_pf (H.1 i) 3 3 (.ref j) (ma_kH d 24 Q 36 l st H i a b) := wp_put rfl (by decide +kernel) (by decide +kernel) rfl rfl
theorem w24_36 : ma_W d 24 Q 36 (some (.ref i) :: l) st H a b = ma_W d 24 Q 37 (some (.ref i) :: l) (.ref i :: st) H a b := wp_aload_n (x := some i) rfl rfl
theorem w24_37 : ma_W d 24 Q 37 l st H a b = ma_W d 24 Q 38 l (.int 0 :: st) H a b := wp_iconst rfl (by decide)
theorem w24_38 : ma_W d 24 Q 38 l (.int x :: .ref i :: st) H a b = ma_pf (H.1 i) 3 4 (.int x) (ma_kH d 24 Q 41 l st H i a b) := wp_put rfl (by decide +kernel) (by decide +kernel) rfl rfl
theorem w24_41 : ma_W d 24 Q 41 l [] H a b = Q none H := wp_vret rfl rfl
theorem e24 : ma_MW (d + 1) 24 [.ref i] H Q = ma_W d 24 Q 0 [some (.ref i)] [] H 0 0 := wp_enter (by decide) (Nat.le_of_ble_eq_true rfl) rfl
/-! 25 se_size -/
theorem w25_0 : ma_W d 25 Q 0 (some (.ref i) :: l) st H 0 0 = ma_W d 25 Q 1 (some (.ref i) :: l) (.ref i :: st) H 0 0 := wp_aload_n (x := some i) rfl rfl
theorem w25_1 : ma_W d 25 Q 1 l (.ref i :: st) H 0 0 = ma_gf (H.1 i) 3 4 (ma_kV d 25 Q 4 l st H 0 0) := wp_get rfl (by decide +kernel)
theorem w25_4 : ma_W d 25 Q 4 l [.int x] H 0 0 = Q (some (.int x)) H := wp_iret rfl rfl
theorem e25 : ma_MW (d + 1) 25 [.ref i] H Q = ma_W d 25 Q 0 [some (.ref i)] [] H 0 0 := wp_enter (by decide) (Nat.le_of_ble_eq_true rfl) rfl
/-! 26 se_isFull -/
theorem w26_0 : ma_W d 26 Q 0 (some (.ref i) :: l) st H 0 0 = ma_W d 26 Q 1 (some (.ref i) :: l) (.ref i :: st) H 0 0 := wp_aload_n (x := some i) rfl rfl
theorem w26_1 : ma_W d 26 Q 1 l (.ref i :: st) H 0 0 = ma_gf (H.1 i) 3 4 (ma_kV d 26 Q 4 l st H 0 0) := wp_get rfl (by decide +kernel)
theorem w26_4 : ma_W d 26 Q 4 l st H 0 0 = ma_W d 26 Q 6 l (.int 6 :: st) H 0 0 := wp_bipush rfl (by decide)
theorem w26_6 : ma_W d 26 Q 6 l (.int y :: .int x :: st) H 0 0 = ma_if (x < y) d 26 Q 13 9 l st H 0 0 := wp_ic (id := 26) (pc := 6) (c := .lt) (off := 7) 13 rfl (by decide)
theorem w26_9 : ma_W d 26 Q 9 l st H 0 0 = ma_W d 26 Q 10 l (.int 1 :: st) H 0 0 := wp_iconst rfl (by decide)
theorem w26_10 : ma_W d 26 Q 10 l st H 0 0 = ma_W d 26 Q 14 l st H 0 0 := wp_goto 14 rfl (by decide)
theorem w26_13 : ma_W d 26 Q 13 l st H 0 0 = ma_W d 26 Q 14 l (.int 0 :: st) H 0 0 := wp_iconst rfl (by decide)
theorem w26_14 : ma_W d 26 Q 14 l [.int x] H 0 0 = ((x = 0 ∨ x = 1) ∧ Q (some (.int x)) H) := wp_zret rfl rfl
theorem e26 : ma_MW (d + 1) 26 [.ref i] H Q = ma_W d 26 Q 0 [some (.ref i)] [] H 0 0 := wp_enter (by decide) (Nat.le_of_ble_eq_true rfl) rfl
/-! 27 se_empty -/
theorem w27_0 : ma_W d 27 Q 0 (some (.ref i) :: l) st H 0 0 = ma_W d 27 Q 1 (some (.ref i) :: l) (.ref i :: st) H 0 0 := wp_aload_n (x := some i) rfl rfl
theorem w27_1 : ma_W d 27 Q 1 l st H 0 0 = ma_W d 27 Q 2 l (.int 0 :: st) H 0 0 := wp_iconst rfl (by decide)
theorem w27_2 : ma_W d 27 Q 2 l (.int x :: .ref i :: st) H 0 0 = ma_pf (H.1 i) 3 4 (.int x) (ma_kH d 27 Q 5 l st H i 0 0) := wp_put rfl (by decide +kernel) (by decide +kernel) rfl rfl
theorem w27_5 : ma_W d 27 Q 5 l [] H 0 0 = Q none H := wp_vret rfl rfl
theorem e27 : ma_MW (d + 1) 27 [.ref i] H Q = ma_W d 27 Q 0 [some (.ref i)] [] H 0 0 := wp_enter (by decide) (Nat.le_of_ble_eq_true rfl) rfl
/-! 28 se_add -/
theorem w28_0 : ma_W d 28 Q 0 (some (.ref i) :: l) st H 0 0 = ma_W d 28 Q 1 (some (.ref i) :: l) (.ref i :: st) H 0 0 := wp_aload_n (x := some i) rfl rfl
theorem w28_1 : ma_W d 28 Q 1 l (.ref i :: st) H 0 0 = (ma_cat st ≤ 8 ∧ ma_cv (H.1 i) 3 d 26 [.ref i] H (ma_kC d 28 Q 4 l st 0 0)) := wc_V0 (ia := 26) (n := 1) (cn := 3) rfl (by decide +kernel) (fun _ => rfl) rfl rfl
theorem w28_4 : ma_W d 28 Q 4 l (.int x :: st) H 0 0 = ma_if (x = 0) d 28 Q 7 58 l st H 0 0 := wp_c0 (id := 28) (pc := 4) (c := .ne) (off := 54) 58 rfl (by decide)
theorem w28_7 : ma_W d 28 Q 7 (some (.ref i) :: l) st H 0 0 = ma_W d 28 Q 8 (some (.ref i) :: l) (.ref i :: st) H 0 0 := wp_aload_n (x := some i) rfl rfl
theorem w28_8 : ma_W d 28 Q 8 l (.ref i :: st) H 0 0 = ma_gf (H.1 i) 3 0 (ma_kV d 28 Q 11 l st H 0 0) := wp_get rfl (by decide +kernel)
theorem w28_11 : ma_W d 28 Q 11 (some (.ref i) :: l) st H 0 0 = ma_W d 28 Q 12 (some (.ref i) :: l) (.ref i :: st) H 0 0 := wp_aload_n (x := some i) rfl rfl
theorem w28_12 : ma_W d 28 Q 12 l (.ref i :: st) H 0 0 = ma_gf (H.1 i) 3 4 (ma_kV d 28 Q 15 l st H 0 0) := wp_get rfl (by decide +kernel)
theorem w28_15 : ma_W d 28 Q 15 (o0 :: some (.int x) :: l) st H 0 0 = ma_W d 28 Q 16 (o0 :: some (.int x) :: l) (.int x :: st) H 0 0 := wp_iload_n rfl rfl
theorem w28_16 : ma_W d 28 Q 16 l (.int y :: .int x :: .ref i :: st) H 0 0 = (4 ≤ i ∧ ma_ias (H.1 i) x y (ma_kH d 28 Q 17 l st H i 0 0)) := wp_iast rfl
theorem w28_17 : ma_W d 28 Q 17 (some (.ref i) :: l) st H 0 0 = ma_W d 28 Q 18 (some (.ref i) :: l) (.ref i :: st) H 0 0 := wp_aload_n (x := some i) rfl rfl
theorem w28_18 : ma_W d 28 Q 18 l (.ref i :: st) H 0 0 = ma_gf (H.1 i) 3 1 (ma_kV d 28 Q 21 l st H 0 0) := wp_get rfl (by decide +kernel)
theorem w28_21 : ma_W d 28 Q 21 (some (.ref i) :: l) st H 0 0 = ma_W d 28 Q 22 (some (.ref i) :: l) (.ref i :: st) H 0 0 := wp_aload_n (x := some i) rfl rfl
theorem w28_22 : ma_W d 28 Q 22 l (.ref i :: st) H 0 0 = ma_gf (H.1 i) 3 4 (ma_kV d 28 Q 25 l st H 0 0) := wp_get rfl (by decide +kernel)
theorem w28_25 : ma_W d 28 Q 25 (o0 :: o1 :: some (.int x) :: l) st H 0 0 = ma_W d 28 Q 26 (o0 :: o1 :: some (.int x) :: l) (.int x :: st) H 0 0 := wp_iload_n rfl rfl
theorem w28_26 : ma_W d 28 Q 26 l (.int y :: .int x :: .ref i :: st) H 0 0 = (4 ≤ i ∧ ma_ias (H.1 i) x y (ma_kH d 28 Q 27 l st H i 0 0)) := wp_iast rfl
theorem w28_27 : ma_W d 28 Q 27 (some (.ref i) :: l) st H 0 0 = ma_W d 28 Q 28 (some (.ref i) :: l) (.ref i :: st) H 0 0 := wp_aload_n (x := some i) rfl rfl
theorem w28_28 : ma_W d 28 Q 28 l (.ref i :: st) H 0 0 = ma_gf (H.1 i) 3 2 (ma_kV d 28 Q 31 l st H 0 0) := wp_get rfl (by decide +kernel)
theorem w28_31 : ma_W d 28 Q 31 (some (.ref i) :: l) st H 0 0 = ma_W d 28 Q 32 (some (.ref i) :: l) (.ref i :: st) H 0 0 := wp_aload_n (x := some i) rfl rfl
theorem w28_32 : ma_W d 28 Q 32 l (.ref i :: st) H 0 0 = ma_gf (H.1 i) 3 4 (ma_kV d 28 Q 35 l st H 0 0) := wp_get rfl (by decide +kernel)
theorem w28_35 : ma_W d 28 Q 35 (o0 :: o1 :: o2 :: some (.int x) :: l) st H 0 0 = ma_W d 28 Q 36 (o0 :: o1 :: o2 :: some (.int x) :: l) (.int x :: st) H 0 0 := wp_iload_n rfl rfl
theorem w28_36 : ma_W d 28 Q 36 l (.int y :: .int x :: .ref i :: st) H 0 0 = (4 ≤ i ∧ ma_ias (H.1 i) x y (ma_kH d 28 Q 37 l st H i 0 0)) := wp_iast rfl
theorem w28_37 : ma_W d 28 Q 37 (some (.ref i) :: l) st H 0 0 = ma_W d 28 Q 38 (some (.ref i) :: l) (.ref i :: st) H 0 0 := wp_aload_n (x := some i) rfl rfl
theorem w28_38 : ma_W d 28 Q 38 l (.ref i :: st) H 0 0 = ma_gf (H.1 i) 3 3 (ma_kV d 28 Q 41 l st H 0 0) := wp_get rfl (by decide +kernel)
theorem w28_41 : ma_W d 28 Q 41 (some (.ref i) :: l) st H 0 0 = ma_W d 28 Q 42 (some (.ref i) :: l) (.ref i :: st) H 0 0 := wp_aload_n (x := some i) rfl rfl
theorem w28_42 : ma_W d 28 Q 42 l (.ref i :: st) H 0 0 = ma_gf (H.1 i) 3 4 (ma_kV d 28 Q 45 l st H 0 0) := wp_get rfl (by decide +kernel)
theorem w28_45 : ma_W d 28 Q 45 (o0 :: o1 :: o2 :: o3 :: some (.int x) :: l) st H 0 0 = ma_W d 28 Q 47 (o0 :: o1 :: o2 :: o3 :: some (.int x) :: l) (.int x :: st) H 0 0 := wp_iload rfl rfl
theorem w28_47 : ma_W d 28 Q 47 l (.int y :: .int x :: .ref i :: st) H 0 0 = (4 ≤ i ∧ ma_ias (H.1 i) x y (ma_kH d 28 Q 48 l st H i 0 0)) := wp_iast rfl
theorem w28_48 : ma_W d 28 Q 48 (some (.ref i) :: l) st H 0 0 = ma_W d 28 Q 49 (some (.ref i) :: l) (.ref i :: st) H 0 0 := wp_aload_n (x := some i) rfl rfl
theorem w28_49 : ma_W d 28 Q 49 l (.ref i :: st) H 0 0 = ma_W d 28 Q 50 l (.ref i :: .ref i :: st) H 0 0 := wp_dup rfl rfl
theorem w28_49i : ma_W d 28 Q 49 l (.int x :: st) H 0 0 = ma_W d 28 Q 50 l (.int x :: .int x :: st) H 0 0 := wp_dup rfl rfl
theorem w28_50 : ma_W d 28 Q 50 l (.ref i :: st) H 0 0 = ma_gf (H.1 i) 3 4 (ma_kV d 28 Q 53 l st H 0 0) := wp_get rfl (by decide +kernel)
theorem w28_53 : ma_W d 28 Q 53 l st H 0 0 = ma_W d 28 Q 54 l (.int 1 :: st) H 0 0 := wp_iconst rfl (by decide)
theorem w28_54 : ma_W d 28 Q 54 l (.int y :: .int x :: st) H 0 0 = ma_W d 28 Q 55 l (.int (x + y) :: st) H 0 0 := wp_iadd rfl
theorem w28_55 : ma_W d 28 Q 55 l (.int x :: .ref i :: st) H 0 0 = ma_pf (H.1 i) 3 4 (.int x) (ma_kH d 28 Q 58 l st H i 0 0) := wp_put rfl (by decide +kernel) (by decide +kernel) rfl rfl
theorem w28_58 : ma_W d 28 Q 58 l [] H 0 0 = Q none H := wp_vret rfl rfl
theorem e28 : ma_MW (d + 1) 28 [.ref i, .int x0, .int x1, .int x2, .int x3] H Q = ma_W d 28 Q 0 [some (.ref i), some (.int x0), some (.int x1), some (.int x2), some (.int x3)] [] H 0 0 := wp_enter (by decide) (Nat.le_of_ble_eq_true rfl) rfl
/-! 29 se_allOwed -/
theorem w29_0 : ma_W d 29 Q 0 l st H 0 0 = ma_W d 29 Q 1 l (.int 0 :: st) H 0 0 := wp_iconst rfl (by decide)
theorem w29_1 : ma_W d 29 Q 1 (o0 :: o1 :: p :: l) (.int x :: st) H 0 0 = ma_W d 29 Q 2 (o0 :: ma_clr o1 :: some (.int x) :: l) st H 0 0 := wp_istore_n (id := 29) (pc := 1) (k := 2) rfl (Nat.succ_lt_succ (Nat.succ_lt_succ (Nat.zero_lt_succ _)))
theorem w29_2 : ma_W d 29 Q 2 (o0 :: o1 :: some (.int x) :: l) st H 0 0 = ma_W d 29 Q 3 (o0 :: o1 :: some (.int x) :: l) (.int x :: st) H 0 0 := wp_iload_n rfl rfl
theorem w29_3 : ma_W d 29 Q 3 (some (.ref i) :: l) st H 0 0 = ma_W d 29 Q 4 (some (.ref i) :: l) (.ref i :: st) H 0 0 := wp_aload_n (x := some i) rfl rfl
theorem w29_4 : ma_W d 29 Q 4 l (.ref i :: st) H 0 0 = ma_gf (H.1 i) 3 4 (ma_kV d 29 Q 7 l st H 0 0) := wp_get rfl (by decide +kernel)
theorem w29_7 : ma_W d 29 Q 7 l (.int y :: .int x :: st) H 0 0 = ma_if (y ≤ x) d 29 Q 37 10 l st H 0 0 := wp_ic (id := 29) (pc := 7) (c := .ge) (off := 30) 37 rfl (by decide)
theorem w29_10 : ma_W d 29 Q 10 (o0 :: some (.int x) :: l) st H 0 0 = ma_W d 29 Q 11 (o0 :: some (.int x) :: l) (.int x :: st) H 0 0 := wp_iload_n rfl rfl
theorem w29_11 : ma_W d 29 Q 11 (some (.ref i) :: l) st H 0 0 = ma_W d 29 Q 12 (some (.ref i) :: l) (.ref i :: st) H 0 0 := wp_aload_n (x := some i) rfl rfl
theorem w29_12 : ma_W d 29 Q 12 l (.ref i :: st) H 0 0 = ma_gf (H.1 i) 3 1 (ma_kV d 29 Q 15 l st H 0 0) := wp_get rfl (by decide +kernel)
theorem w29_15 : ma_W d 29 Q 15 (o0 :: o1 :: some (.int x) :: l) st H 0 0 = ma_W d 29 Q 16 (o0 :: o1 :: some (.int x) :: l) (.int x :: st) H 0 0 := wp_iload_n rfl rfl
theorem w29_16 : ma_W d 29 Q 16 l (.int x :: .ref i :: st) H 0 0 = ma_ial (H.1 i) x (ma_kV d 29 Q 17 l st H 0 0) := wp_iald rfl
theorem w29_17 : ma_W d 29 Q 17 l (.int x1 :: .int x0 :: st) H 0 0 = (ma_cat st ≤ 8 ∧ ma_MW d 119 [.int x0, .int x1] H (ma_kC d 29 Q 20 l st 0 0)) := wc_S0 (ia := 119) (n := 2) (cn := 7) (k := 3) rfl (by decide +kernel) (by decide) (fun _ => rfl) rfl rfl
theorem w29_20 : ma_W d 29 Q 20 (some (.ref i) :: l) st H 0 0 = ma_W d 29 Q 21 (some (.ref i) :: l) (.ref i :: st) H 0 0 := wp_aload_n (x := some i) rfl rfl
theorem w29_21 : ma_W d 29 Q 21 l (.ref i :: st) H 0 0 = ma_gf (H.1 i) 3 3 (ma_kV d 29 Q 24 l st H 0 0) := wp_get rfl (by decide +kernel)
theorem w29_24 : ma_W d 29 Q 24 (o0 :: o1 :: some (.int x) :: l) st H 0 0 = ma_W d 29 Q 25 (o0 :: o1 :: some (.int x) :: l) (.int x :: st) H 0 0 := wp_iload_n rfl rfl
theorem w29_25 : ma_W d 29 Q 25 l (.int x :: .ref i :: st) H 0 0 = ma_ial (H.1 i) x (ma_kV d 29 Q 26 l st H 0 0) := wp_iald rfl
theorem w29_26 : ma_W d 29 Q 26 l (.int y :: .int x :: st) H 0 0 = ma_if (x = y) d 29 Q 31 29 l st H 0 0 := wp_ic (id := 29) (pc := 26) (c := .eq) (off := 5) 31 rfl (by decide)
theorem w29_29 : ma_W d 29 Q 29 l st H 0 0 = ma_W d 29 Q 30 l (.int 0 :: st) H 0 0 := wp_iconst rfl (by decide)
theorem w29_30 : ma_W d 29 Q 30 l [.int x] H 0 0 = ((x = 0 ∨ x = 1) ∧ Q (some (.int x)) H) := wp_zret rfl rfl
theorem w29_31 : ma_W d 29 Q 31 (o0 :: o1 :: some (.int x) :: l) st H 0 0 = ma_W d 29 Q 34 (o0 :: ma_clr o1 :: some (.int (x + 1)) :: l) st H 0 0 := wp_iinc (id := 29) (pc := 31) (k := 2) (n := 1) rfl (Nat.succ_lt_succ (Nat.succ_lt_succ (Nat.zero_lt_succ _))) rfl (by decide)
theorem w29_34 : ma_W d 29 Q 34 l st H 0 0 = ma_W d 29 Q 2 l st H 0 0 := wp_goto 2 rfl (by decide)
theorem w29_37 : ma_W d 29 Q 37 l st H 0 0 = ma_W d 29 Q 38 l (.int 1 :: st) H 0 0 := wp_iconst rfl (by decide)
theorem w29_38 : ma_W d 29 Q 38 l [.int x] H 0 0 = ((x = 0 ∨ x = 1) ∧ Q (some (.int x)) H) := wp_zret rfl rfl
theorem e29 : ma_MW (d + 1) 29 [.ref i, .int x0] H Q = ma_W d 29 Q 0 [some (.ref i), some (.int x0), none] [] H 0 0 := wp_enter (by decide) (Nat.le_of_ble_eq_true rfl) rfl
/-! 30 se_allCame -/
theorem w30_0 : ma_W d 30 Q 0 l st H 0 0 = ma_W d 30 Q 1 l (.int 0 :: st) H 0 0 := wp_iconst rfl (by decide)
theorem w30_1 : ma_W d 30 Q 1 (o0 :: o1 :: o2 :: p :: l) (.int x :: st) H 0 0 = ma_W d 30 Q 2 (o0 :: o1 :: ma_clr o2 :: some (.int x) :: l) st H 0 0 := wp_istore_n (id := 30) (pc := 1) (k := 3) rfl (Nat.succ_lt_succ (Nat.succ_lt_succ (Nat.succ_lt_succ (Nat.zero_lt_succ _))))
theorem w30_2 : ma_W d 30 Q 2 (o0 :: o1 :: o2 :: some (.int x) :: l) st H 0 0 = ma_W d 30 Q 3 (o0 :: o1 :: o2 :: some (.int x) :: l) (.int x :: st) H 0 0 := wp_iload_n rfl rfl
theorem w30_3 : ma_W d 30 Q 3 (some (.ref i) :: l) st H 0 0 = ma_W d 30 Q 4 (some (.ref i) :: l) (.ref i :: st) H 0 0 := wp_aload_n (x := some i) rfl rfl
theorem w30_4 : ma_W d 30 Q 4 l (.ref i :: st) H 0 0 = ma_gf (H.1 i) 3 4 (ma_kV d 30 Q 7 l st H 0 0) := wp_get rfl (by decide +kernel)
theorem w30_7 : ma_W d 30 Q 7 l (.int y :: .int x :: st) H 0 0 = ma_if (y ≤ x) d 30 Q 53 10 l st H 0 0 := wp_ic (id := 30) (pc := 7) (c := .ge) (off := 46) 53 rfl (by decide)
theorem w30_10 : ma_W d 30 Q 10 (some (.ref i) :: l) st H 0 0 = ma_W d 30 Q 11 (some (.ref i) :: l) (.ref i :: st) H 0 0 := wp_aload_n (x := some i) rfl rfl
theorem w30_11 : ma_W d 30 Q 11 l (.ref i :: st) H 0 0 = ma_gf (H.1 i) 3 0 (ma_kV d 30 Q 14 l st H 0 0) := wp_get rfl (by decide +kernel)
theorem w30_14 : ma_W d 30 Q 14 (o0 :: o1 :: o2 :: some (.int x) :: l) st H 0 0 = ma_W d 30 Q 15 (o0 :: o1 :: o2 :: some (.int x) :: l) (.int x :: st) H 0 0 := wp_iload_n rfl rfl
theorem w30_15 : ma_W d 30 Q 15 l (.int x :: .ref i :: st) H 0 0 = ma_ial (H.1 i) x (ma_kV d 30 Q 16 l st H 0 0) := wp_iald rfl
theorem w30_16 : ma_W d 30 Q 16 (o0 :: o1 :: some (.int x) :: l) st H 0 0 = ma_W d 30 Q 17 (o0 :: o1 :: some (.int x) :: l) (.int x :: st) H 0 0 := wp_iload_n rfl rfl
theorem w30_17 : ma_W d 30 Q 17 l (.int y :: .int x :: st) H 0 0 = ma_if (x = y) d 30 Q 20 47 l st H 0 0 := wp_ic (id := 30) (pc := 17) (c := .ne) (off := 30) 47 rfl (by decide)
theorem w30_20 : ma_W d 30 Q 20 (o0 :: some (.int x) :: l) st H 0 0 = ma_W d 30 Q 21 (o0 :: some (.int x) :: l) (.int x :: st) H 0 0 := wp_iload_n rfl rfl
theorem w30_21 : ma_W d 30 Q 21 (some (.ref i) :: l) st H 0 0 = ma_W d 30 Q 22 (some (.ref i) :: l) (.ref i :: st) H 0 0 := wp_aload_n (x := some i) rfl rfl
theorem w30_22 : ma_W d 30 Q 22 l (.ref i :: st) H 0 0 = ma_gf (H.1 i) 3 1 (ma_kV d 30 Q 25 l st H 0 0) := wp_get rfl (by decide +kernel)
theorem w30_25 : ma_W d 30 Q 25 (o0 :: o1 :: o2 :: some (.int x) :: l) st H 0 0 = ma_W d 30 Q 26 (o0 :: o1 :: o2 :: some (.int x) :: l) (.int x :: st) H 0 0 := wp_iload_n rfl rfl
theorem w30_26 : ma_W d 30 Q 26 l (.int x :: .ref i :: st) H 0 0 = ma_ial (H.1 i) x (ma_kV d 30 Q 27 l st H 0 0) := wp_iald rfl
theorem w30_27 : ma_W d 30 Q 27 (some (.ref i) :: l) st H 0 0 = ma_W d 30 Q 28 (some (.ref i) :: l) (.ref i :: st) H 0 0 := wp_aload_n (x := some i) rfl rfl
theorem w30_28 : ma_W d 30 Q 28 l (.ref i :: st) H 0 0 = ma_gf (H.1 i) 3 2 (ma_kV d 30 Q 31 l st H 0 0) := wp_get rfl (by decide +kernel)
theorem w30_31 : ma_W d 30 Q 31 (o0 :: o1 :: o2 :: some (.int x) :: l) st H 0 0 = ma_W d 30 Q 32 (o0 :: o1 :: o2 :: some (.int x) :: l) (.int x :: st) H 0 0 := wp_iload_n rfl rfl
theorem w30_32 : ma_W d 30 Q 32 l (.int x :: .ref i :: st) H 0 0 = ma_ial (H.1 i) x (ma_kV d 30 Q 33 l st H 0 0) := wp_iald rfl
theorem w30_33 : ma_W d 30 Q 33 l (.int x2 :: .int x1 :: .int x0 :: st) H 0 0 = (ma_cat st ≤ 8 ∧ ma_MW d 120 [.int x0, .int x1, .int x2] H (ma_kC d 30 Q 36 l st 0 0)) := wc_S0 (ia := 120) (n := 3) (cn := 7) (k := 3) rfl (by decide +kernel) (by decide) (fun _ => rfl) rfl rfl
theorem w30_36 : ma_W d 30 Q 36 (some (.ref i) :: l) st H 0 0 = ma_W d 30 Q 37 (some (.ref i) :: l) (.ref i :: st) H 0 0 := wp_aload_n (x := some i) rfl rfl
theorem w30_37 : ma_W d 30 Q 37 l (.ref i :: st) H 0 0 = ma_gf (H.1 i) 3 3 (ma_kV d 30 Q 40 l st H 0 0) := wp_get rfl (by decide +kernel)
theorem w30_40 : ma_W d 30 Q 40 (o0 :: o1 :: o2 :: some (.int x) :: l) st H 0 0 = ma_W d 30 Q 41 (o0 :: o1 :: o2 :: some (.int x) :: l) (.int x :: st) H 0 0 := wp_iload_n rfl rfl
theorem w30_41 : ma_W d 30 Q 41 l (.int x :: .ref i :: st) H 0 0 = ma_ial (H.1 i) x (ma_kV d 30 Q 42 l st H 0 0) := wp_iald rfl
theorem w30_42 : ma_W d 30 Q 42 l (.int y :: .int x :: st) H 0 0 = ma_if (x = y) d 30 Q 47 45 l st H 0 0 := wp_ic (id := 30) (pc := 42) (c := .eq) (off := 5) 47 rfl (by decide)
theorem w30_45 : ma_W d 30 Q 45 l st H 0 0 = ma_W d 30 Q 46 l (.int 0 :: st) H 0 0 := wp_iconst rfl (by decide)
theorem w30_46 : ma_W d 30 Q 46 l [.int x] H 0 0 = ((x = 0 ∨ x = 1) ∧ Q (some (.int x)) H) := wp_zret rfl rfl
theorem w30_47 : ma_W d 30 Q 47 (o0 :: o1 :: o2 :: some (.int x) :: l) st H 0 0 = ma_W d 30 Q 50 (o0 :: o1 :: ma_clr o2 :: some (.int (x + 1)) :: l) st H 0 0 := wp_iinc (id := 30) (pc := 47) (k := 3) (n := 1) rfl (Nat.succ_lt_succ (Nat.succ_lt_succ (Nat.succ_lt_succ (Nat.zero_lt_succ _)))) rfl (by decide)
theorem w30_50 : ma_W d 30 Q 50 l st H 0 0 = ma_W d 30 Q 2 l st H 0 0 := wp_goto 2 rfl (by decide)
theorem w30_53 : ma_W d 30 Q 53 l st H 0 0 = ma_W d 30 Q 54 l (.int 1 :: st) H 0 0 := wp_iconst rfl (by decide)
theorem w30_54 : ma_W d 30 Q 54 l [.int x] H 0 0 = ((x = 0 ∨ x = 1) ∧ Q (some (.int x)) H) := wp_zret rfl rfl
theorem e30 : ma_MW (d + 1) 30 [.ref i, .int x0, .int x1] H Q = ma_W d 30 Q 0 [some (.ref i), some (.int x0), some (.int x1), none] [] H 0 0 := wp_enter (by decide) (Nat.le_of_ble_eq_true rfl) rfl
/-! 31 se_mixInto -/
theorem w31_0 : ma_W d 31 Q 0 (o0 :: some (.long u) :: l) st H 0 0 = ma_W d 31 Q 1 (o0 :: some (.long u) :: l) (.long u :: st) H 0 0 := wp_lload_n rfl rfl
theorem w31_1 : ma_W d 31 Q 1 (o0 :: o1 :: o2 :: o3 :: p :: q :: l) (.long u :: st) H 0 0 = ma_W d 31 Q 3 (o0 :: o1 :: o2 :: ma_clr o3 :: some (.long u) :: none :: l) st H 0 0 := wp_lstore (id := 31) (pc := 1) (k := 4) rfl (Nat.succ_lt_succ (Nat.succ_lt_succ (Nat.succ_lt_succ (Nat.succ_lt_succ (Nat.succ_lt_succ (Nat.zero_lt_succ _))))))
theorem w31_3 : ma_W d 31 Q 3 l st H 0 0 = ma_W d 31 Q 4 l (.int 0 :: st) H 0 0 := wp_iconst rfl (by decide)
theorem w31_4 : ma_W d 31 Q 4 (o0 :: o1 :: o2 :: o3 :: o4 :: o5 :: p :: l) (.int x :: st) H 0 0 = ma_W d 31 Q 6 (o0 :: o1 :: o2 :: o3 :: o4 :: ma_clr o5 :: some (.int x) :: l) st H 0 0 := wp_istore (id := 31) (pc := 4) (k := 6) rfl (Nat.succ_lt_succ (Nat.succ_lt_succ (Nat.succ_lt_succ (Nat.succ_lt_succ (Nat.succ_lt_succ (Nat.succ_lt_succ (Nat.zero_lt_succ _)))))))
theorem w31_6 : ma_W d 31 Q 6 (o0 :: o1 :: o2 :: o3 :: o4 :: o5 :: some (.int x) :: l) st H 0 0 = ma_W d 31 Q 8 (o0 :: o1 :: o2 :: o3 :: o4 :: o5 :: some (.int x) :: l) (.int x :: st) H 0 0 := wp_iload rfl rfl
theorem w31_8 : ma_W d 31 Q 8 (some (.ref i) :: l) st H 0 0 = ma_W d 31 Q 9 (some (.ref i) :: l) (.ref i :: st) H 0 0 := wp_aload_n (x := some i) rfl rfl
theorem w31_9 : ma_W d 31 Q 9 l (.ref i :: st) H 0 0 = ma_gf (H.1 i) 3 4 (ma_kV d 31 Q 12 l st H 0 0) := wp_get rfl (by decide +kernel)
theorem w31_12 : ma_W d 31 Q 12 l (.int y :: .int x :: st) H 0 0 = ma_if (y ≤ x) d 31 Q 107 15 l st H 0 0 := wp_ic (id := 31) (pc := 12) (c := .ge) (off := 95) 107 rfl (by decide)
theorem w31_15 : ma_W d 31 Q 15 (o0 :: o1 :: o2 :: some (.int x) :: l) st H 0 0 = ma_W d 31 Q 16 (o0 :: o1 :: o2 :: some (.int x) :: l) (.int x :: st) H 0 0 := wp_iload_n rfl rfl
theorem w31_16 : ma_W d 31 Q 16 l (.int x :: st) H 0 0 = ma_if (x = 0) d 31 Q 37 19 l st H 0 0 := wp_c0 (id := 31) (pc := 16) (c := .eq) (off := 21) 37 rfl (by decide)
theorem w31_19 : ma_W d 31 Q 19 l st H 0 0 = ma_W d 31 Q 22 l (.long 31 :: st) H 0 0 := wp_ldc2 rfl (by decide +kernel)
theorem w31_22 : ma_W d 31 Q 22 (o0 :: o1 :: o2 :: o3 :: some (.long u) :: l) st H 0 0 = ma_W d 31 Q 24 (o0 :: o1 :: o2 :: o3 :: some (.long u) :: l) (.long u :: st) H 0 0 := wp_lload rfl rfl
theorem w31_24 : ma_W d 31 Q 24 l (.long v :: .long u :: st) H 0 0 = ma_W d 31 Q 25 l (.long (u * v) :: st) H 0 0 := wp_lmul rfl
theorem w31_25 : ma_W d 31 Q 25 (some (.ref i) :: l) st H 0 0 = ma_W d 31 Q 26 (some (.ref i) :: l) (.ref i :: st) H 0 0 := wp_aload_n (x := some i) rfl rfl
theorem w31_26 : ma_W d 31 Q 26 l (.ref i :: st) H 0 0 = ma_gf (H.1 i) 3 0 (ma_kV d 31 Q 29 l st H 0 0) := wp_get rfl (by decide +kernel)
theorem w31_29 : ma_W d 31 Q 29 (o0 :: o1 :: o2 :: o3 :: o4 :: o5 :: some (.int x) :: l) st H 0 0 = ma_W d 31 Q 31 (o0 :: o1 :: o2 :: o3 :: o4 :: o5 :: some (.int x) :: l) (.int x :: st) H 0 0 := wp_iload rfl rfl
theorem w31_31 : ma_W d 31 Q 31 l (.int x :: .ref i :: st) H 0 0 = ma_ial (H.1 i) x (ma_kV d 31 Q 32 l st H 0 0) := wp_iald rfl
theorem w31_32 : ma_W d 31 Q 32 l (.int x :: st) H 0 0 = ma_W d 31 Q 33 l (.long x.toInt64 :: st) H 0 0 := wp_i2l rfl
theorem w31_33 : ma_W d 31 Q 33 l (.long v :: .long u :: st) H 0 0 = ma_W d 31 Q 34 l (.long (u + v) :: st) H 0 0 := wp_ladd rfl
theorem w31_34 : ma_W d 31 Q 34 l st H 0 0 = ma_W d 31 Q 39 l st H 0 0 := wp_goto 39 rfl (by decide)
theorem w31_37 : ma_W d 31 Q 37 (o0 :: o1 :: o2 :: o3 :: some (.long u) :: l) st H 0 0 = ma_W d 31 Q 39 (o0 :: o1 :: o2 :: o3 :: some (.long u) :: l) (.long u :: st) H 0 0 := wp_lload rfl rfl
theorem w31_39 : ma_W d 31 Q 39 (o0 :: o1 :: o2 :: o3 :: p :: q :: l) (.long u :: st) H 0 0 = ma_W d 31 Q 41 (o0 :: o1 :: o2 :: ma_clr o3 :: some (.long u) :: none :: l) st H 0 0 := wp_lstore (id := 31) (pc := 39) (k := 4) rfl (Nat.succ_lt_succ (Nat.succ_lt_succ (Nat.succ_lt_succ (Nat.succ_lt_succ (Nat.succ_lt_succ (Nat.zero_lt_succ _))))))
theorem w31_41 : ma_W d 31 Q 41 l st H 0 0 = ma_W d 31 Q 44 l (.long 31 :: st) H 0 0 := wp_ldc2 rfl (by decide +kernel)
theorem w31_44 : ma_W d 31 Q 44 (o0 :: o1 :: o2 :: o3 :: some (.long u) :: l) st H 0 0 = ma_W d 31 Q 46 (o0 :: o1 :: o2 :: o3 :: some (.long u) :: l) (.long u :: st) H 0 0 := wp_lload rfl rfl
theorem w31_46 : ma_W d 31 Q 46 l (.long v :: .long u :: st) H 0 0 = ma_W d 31 Q 47 l (.long (u * v) :: st) H 0 0 := wp_lmul rfl
theorem w31_47 : ma_W d 31 Q 47 (some (.ref i) :: l) st H 0 0 = ma_W d 31 Q 48 (some (.ref i) :: l) (.ref i :: st) H 0 0 := wp_aload_n (x := some i) rfl rfl
theorem w31_48 : ma_W d 31 Q 48 l (.ref i :: st) H 0 0 = ma_gf (H.1 i) 3 1 (ma_kV d 31 Q 51 l st H 0 0) := wp_get rfl (by decide +kernel)
theorem w31_51 : ma_W d 31 Q 51 (o0 :: o1 :: o2 :: o3 :: o4 :: o5 :: some (.int x) :: l) st H 0 0 = ma_W d 31 Q 53 (o0 :: o1 :: o2 :: o3 :: o4 :: o5 :: some (.int x) :: l) (.int x :: st) H 0 0 := wp_iload rfl rfl
theorem w31_53 : ma_W d 31 Q 53 l (.int x :: .ref i :: st) H 0 0 = ma_ial (H.1 i) x (ma_kV d 31 Q 54 l st H 0 0) := wp_iald rfl
theorem w31_54 : ma_W d 31 Q 54 l (.int x :: st) H 0 0 = ma_W d 31 Q 55 l (.long x.toInt64 :: st) H 0 0 := wp_i2l rfl
theorem w31_55 : ma_W d 31 Q 55 l (.long v :: .long u :: st) H 0 0 = ma_W d 31 Q 56 l (.long (u + v) :: st) H 0 0 := wp_ladd rfl
theorem w31_56 : ma_W d 31 Q 56 (o0 :: o1 :: o2 :: o3 :: p :: q :: l) (.long u :: st) H 0 0 = ma_W d 31 Q 58 (o0 :: o1 :: o2 :: ma_clr o3 :: some (.long u) :: none :: l) st H 0 0 := wp_lstore (id := 31) (pc := 56) (k := 4) rfl (Nat.succ_lt_succ (Nat.succ_lt_succ (Nat.succ_lt_succ (Nat.succ_lt_succ (Nat.succ_lt_succ (Nat.zero_lt_succ _))))))
theorem w31_58 : ma_W d 31 Q 58 (o0 :: o1 :: o2 :: some (.int x) :: l) st H 0 0 = ma_W d 31 Q 59 (o0 :: o1 :: o2 :: some (.int x) :: l) (.int x :: st) H 0 0 := wp_iload_n rfl rfl
theorem w31_59 : ma_W d 31 Q 59 l (.int x :: st) H 0 0 = ma_if (x = 0) d 31 Q 80 62 l st H 0 0 := wp_c0 (id := 31) (pc := 59) (c := .eq) (off := 21) 80 rfl (by decide)
theorem w31_62 : ma_W d 31 Q 62 l st H 0 0 = ma_W d 31 Q 65 l (.long 31 :: st) H 0 0 := wp_ldc2 rfl (by decide +kernel)
theorem w31_65 : ma_W d 31 Q 65 (o0 :: o1 :: o2 :: o3 :: some (.long u) :: l) st H 0 0 = ma_W d 31 Q 67 (o0 :: o1 :: o2 :: o3 :: some (.long u) :: l) (.long u :: st) H 0 0 := wp_lload rfl rfl
theorem w31_67 : ma_W d 31 Q 67 l (.long v :: .long u :: st) H 0 0 = ma_W d 31 Q 68 l (.long (u * v) :: st) H 0 0 := wp_lmul rfl
theorem w31_68 : ma_W d 31 Q 68 (some (.ref i) :: l) st H 0 0 = ma_W d 31 Q 69 (some (.ref i) :: l) (.ref i :: st) H 0 0 := wp_aload_n (x := some i) rfl rfl
theorem w31_69 : ma_W d 31 Q 69 l (.ref i :: st) H 0 0 = ma_gf (H.1 i) 3 2 (ma_kV d 31 Q 72 l st H 0 0) := wp_get rfl (by decide +kernel)
theorem w31_72 : ma_W d 31 Q 72 (o0 :: o1 :: o2 :: o3 :: o4 :: o5 :: some (.int x) :: l) st H 0 0 = ma_W d 31 Q 74 (o0 :: o1 :: o2 :: o3 :: o4 :: o5 :: some (.int x) :: l) (.int x :: st) H 0 0 := wp_iload rfl rfl
theorem w31_74 : ma_W d 31 Q 74 l (.int x :: .ref i :: st) H 0 0 = ma_ial (H.1 i) x (ma_kV d 31 Q 75 l st H 0 0) := wp_iald rfl
theorem w31_75 : ma_W d 31 Q 75 l (.int x :: st) H 0 0 = ma_W d 31 Q 76 l (.long x.toInt64 :: st) H 0 0 := wp_i2l rfl
theorem w31_76 : ma_W d 31 Q 76 l (.long v :: .long u :: st) H 0 0 = ma_W d 31 Q 77 l (.long (u + v) :: st) H 0 0 := wp_ladd rfl
theorem w31_77 : ma_W d 31 Q 77 l st H 0 0 = ma_W d 31 Q 82 l st H 0 0 := wp_goto 82 rfl (by decide)
theorem w31_80 : ma_W d 31 Q 80 (o0 :: o1 :: o2 :: o3 :: some (.long u) :: l) st H 0 0 = ma_W d 31 Q 82 (o0 :: o1 :: o2 :: o3 :: some (.long u) :: l) (.long u :: st) H 0 0 := wp_lload rfl rfl
theorem w31_82 : ma_W d 31 Q 82 (o0 :: o1 :: o2 :: o3 :: p :: q :: l) (.long u :: st) H 0 0 = ma_W d 31 Q 84 (o0 :: o1 :: o2 :: ma_clr o3 :: some (.long u) :: none :: l) st H 0 0 := wp_lstore (id := 31) (pc := 82) (k := 4) rfl (Nat.succ_lt_succ (Nat.succ_lt_succ (Nat.succ_lt_succ (Nat.succ_lt_succ (Nat.succ_lt_succ (Nat.zero_lt_succ _))))))
theorem w31_84 : ma_W d 31 Q 84 l st H 0 0 = ma_W d 31 Q 87 l (.long 31 :: st) H 0 0 := wp_ldc2 rfl (by decide +kernel)
theorem w31_87 : ma_W d 31 Q 87 (o0 :: o1 :: o2 :: o3 :: some (.long u) :: l) st H 0 0 = ma_W d 31 Q 89 (o0 :: o1 :: o2 :: o3 :: some (.long u) :: l) (.long u :: st) H 0 0 := wp_lload rfl rfl
theorem w31_89 : ma_W d 31 Q 89 l (.long v :: .long u :: st) H 0 0 = ma_W d 31 Q 90 l (.long (u * v) :: st) H 0 0 := wp_lmul rfl
theorem w31_90 : ma_W d 31 Q 90 (some (.ref i) :: l) st H 0 0 = ma_W d 31 Q 91 (some (.ref i) :: l) (.ref i :: st) H 0 0 := wp_aload_n (x := some i) rfl rfl
theorem w31_91 : ma_W d 31 Q 91 l (.ref i :: st) H 0 0 = ma_gf (H.1 i) 3 3 (ma_kV d 31 Q 94 l st H 0 0) := wp_get rfl (by decide +kernel)
theorem w31_94 : ma_W d 31 Q 94 (o0 :: o1 :: o2 :: o3 :: o4 :: o5 :: some (.int x) :: l) st H 0 0 = ma_W d 31 Q 96 (o0 :: o1 :: o2 :: o3 :: o4 :: o5 :: some (.int x) :: l) (.int x :: st) H 0 0 := wp_iload rfl rfl
theorem w31_96 : ma_W d 31 Q 96 l (.int x :: .ref i :: st) H 0 0 = ma_ial (H.1 i) x (ma_kV d 31 Q 97 l st H 0 0) := wp_iald rfl
theorem w31_97 : ma_W d 31 Q 97 l (.int x :: st) H 0 0 = ma_W d 31 Q 98 l (.long x.toInt64 :: st) H 0 0 := wp_i2l rfl
theorem w31_98 : ma_W d 31 Q 98 l (.long v :: .long u :: st) H 0 0 = ma_W d 31 Q 99 l (.long (u + v) :: st) H 0 0 := wp_ladd rfl
theorem w31_99 : ma_W d 31 Q 99 (o0 :: o1 :: o2 :: o3 :: p :: q :: l) (.long u :: st) H 0 0 = ma_W d 31 Q 101 (o0 :: o1 :: o2 :: ma_clr o3 :: some (.long u) :: none :: l) st H 0 0 := wp_lstore (id := 31) (pc := 99) (k := 4) rfl (Nat.succ_lt_succ (Nat.succ_lt_succ (Nat.succ_lt_succ (Nat.succ_lt_succ (Nat.succ_lt_succ (Nat.zero_lt_succ _))))))
theorem w31_101 : ma_W d 31 Q 101 (o0 :: o1 :: o2 :: o3 :: o4 :: o5 :: some (.int x) :: l) st H 0 0 = ma_W d 31 Q 104 (o0 :: o1 :: o2 :: o3 :: o4 :: ma_clr o5 :: some (.int (x + 1)) :: l) st H 0 0 := wp_iinc (id := 31) (pc := 101) (k := 6) (n := 1) rfl (Nat.succ_lt_succ (Nat.succ_lt_succ (Nat.succ_lt_succ (Nat.succ_lt_succ (Nat.succ_lt_succ (Nat.succ_lt_succ (Nat.zero_lt_succ _))))))) rfl (by decide)
theorem w31_104 : ma_W d 31 Q 104 l st H 0 0 = ma_W d 31 Q 6 l st H 0 0 := wp_goto 6 rfl (by decide)
theorem w31_107 : ma_W d 31 Q 107 (o0 :: o1 :: o2 :: o3 :: some (.long u) :: l) st H 0 0 = ma_W d 31 Q 109 (o0 :: o1 :: o2 :: o3 :: some (.long u) :: l) (.long u :: st) H 0 0 := wp_lload rfl rfl
theorem w31_109 : ma_W d 31 Q 109 l [.long u] H 0 0 = Q (some (.long u)) H := wp_lret rfl rfl
theorem e31 : ma_MW (d + 1) 31 [.ref i, .long u0, .int x1] H Q = ma_W d 31 Q 0 [some (.ref i), some (.long u0), none, some (.int x1), none, none, none] [] H 0 0 := wp_enter (by decide) (Nat.le_of_ble_eq_true rfl) rfl
/-! 32 se_copyFrom -/
theorem w32_0 : ma_W d 32 Q 0 (some (.ref i) :: l) st H 0 0 = ma_W d 32 Q 1 (some (.ref i) :: l) (.ref i :: st) H 0 0 := wp_aload_n (x := some i) rfl rfl
theorem w32_1 : ma_W d 32 Q 1 (o0 :: some (.ref i) :: l) st H 0 0 = ma_W d 32 Q 2 (o0 :: some (.ref i) :: l) (.ref i :: st) H 0 0 := wp_aload_n (x := some i) rfl rfl
theorem w32_2 : ma_W d 32 Q 2 l (.ref i :: st) H 0 0 = ma_gf (H.1 i) 3 4 (ma_kV d 32 Q 5 l st H 0 0) := wp_get rfl (by decide +kernel)
theorem w32_5 : ma_W d 32 Q 5 l (.int x :: .ref i :: st) H 0 0 = ma_pf (H.1 i) 3 4 (.int x) (ma_kH d 32 Q 8 l st H i 0 0) := wp_put rfl (by decide +kernel) (by decide +kernel) rfl rfl
theorem w32_8 : ma_W d 32 Q 8 l st H 0 0 = ma_W d 32 Q 9 l (.int 0 :: st) H 0 0 := wp_iconst rfl (by decide)
theorem w32_9 : ma_W d 32 Q 9 (o0 :: o1 :: p :: l) (.int x :: st) H 0 0 = ma_W d 32 Q 10 (o0 :: ma_clr o1 :: some (.int x) :: l) st H 0 0 := wp_istore_n (id := 32) (pc := 9) (k := 2) rfl (Nat.succ_lt_succ (Nat.succ_lt_succ (Nat.zero_lt_succ _)))
theorem w32_10 : ma_W d 32 Q 10 (o0 :: o1 :: some (.int x) :: l) st H 0 0 = ma_W d 32 Q 11 (o0 :: o1 :: some (.int x) :: l) (.int x :: st) H 0 0 := wp_iload_n rfl rfl
theorem w32_11 : ma_W d 32 Q 11 l st H 0 0 = ma_W d 32 Q 13 l (.int 6 :: st) H 0 0 := wp_bipush rfl (by decide)
theorem w32_13 : ma_W d 32 Q 13 l (.int y :: .int x :: st) H 0 0 = ma_if (y ≤ x) d 32 Q 70 16 l st H 0 0 := wp_ic (id := 32) (pc := 13) (c := .ge) (off := 57) 70 rfl (by decide)
theorem w32_16 : ma_W d 32 Q 16 (some (.ref i) :: l) st H 0 0 = ma_W d 32 Q 17 (some (.ref i) :: l) (.ref i :: st) H 0 0 := wp_aload_n (x := some i) rfl rfl
theorem w32_17 : ma_W d 32 Q 17 l (.ref i :: st) H 0 0 = ma_gf (H.1 i) 3 0 (ma_kV d 32 Q 20 l st H 0 0) := wp_get rfl (by decide +kernel)
theorem w32_20 : ma_W d 32 Q 20 (o0 :: o1 :: some (.int x) :: l) st H 0 0 = ma_W d 32 Q 21 (o0 :: o1 :: some (.int x) :: l) (.int x :: st) H 0 0 := wp_iload_n rfl rfl
theorem w32_21 : ma_W d 32 Q 21 (o0 :: some (.ref i) :: l) st H 0 0 = ma_W d 32 Q 22 (o0 :: some (.ref i) :: l) (.ref i :: st) H 0 0 := wp_aload_n (x := some i) rfl rfl
theorem w32_22 : ma_W d 32 Q 22 l (.ref i :: st) H 0 0 = ma_gf (H.1 i) 3 0 (ma_kV d 32 Q 25 l st H 0 0) := wp_get rfl (by decide +kernel)
theorem w32_25 : ma_W d 32 Q 25 (o0 :: o1 :: some (.int x) :: l) st H 0 0 = ma_W d 32 Q 26 (o0 :: o1 :: some (.int x) :: l) (.int x :: st) H 0 0 := wp_iload_n rfl rfl
theorem w32_26 : ma_W d 32 Q 26 l (.int x :: .ref i :: st) H 0 0 = ma_ial (H.1 i) x (ma_kV d 32 Q 27 l st H 0 0) := wp_iald rfl
theorem w32_27 : ma_W d 32 Q 27 l (.int y :: .int x :: .ref i :: st) H 0 0 = (4 ≤ i ∧ ma_ias (H.1 i) x y (ma_kH d 32 Q 28 l st H i 0 0)) := wp_iast rfl
theorem w32_28 : ma_W d 32 Q 28 (some (.ref i) :: l) st H 0 0 = ma_W d 32 Q 29 (some (.ref i) :: l) (.ref i :: st) H 0 0 := wp_aload_n (x := some i) rfl rfl
theorem w32_29 : ma_W d 32 Q 29 l (.ref i :: st) H 0 0 = ma_gf (H.1 i) 3 1 (ma_kV d 32 Q 32 l st H 0 0) := wp_get rfl (by decide +kernel)
theorem w32_32 : ma_W d 32 Q 32 (o0 :: o1 :: some (.int x) :: l) st H 0 0 = ma_W d 32 Q 33 (o0 :: o1 :: some (.int x) :: l) (.int x :: st) H 0 0 := wp_iload_n rfl rfl
theorem w32_33 : ma_W d 32 Q 33 (o0 :: some (.ref i) :: l) st H 0 0 = ma_W d 32 Q 34 (o0 :: some (.ref i) :: l) (.ref i :: st) H 0 0 := wp_aload_n (x := some i) rfl rfl
theorem w32_34 : ma_W d 32 Q 34 l (.ref i :: st) H 0 0 = ma_gf (H.1 i) 3 1 (ma_kV d 32 Q 37 l st H 0 0) := wp_get rfl (by decide +kernel)
theorem w32_37 : ma_W d 32 Q 37 (o0 :: o1 :: some (.int x) :: l) st H 0 0 = ma_W d 32 Q 38 (o0 :: o1 :: some (.int x) :: l) (.int x :: st) H 0 0 := wp_iload_n rfl rfl
theorem w32_38 : ma_W d 32 Q 38 l (.int x :: .ref i :: st) H 0 0 = ma_ial (H.1 i) x (ma_kV d 32 Q 39 l st H 0 0) := wp_iald rfl
theorem w32_39 : ma_W d 32 Q 39 l (.int y :: .int x :: .ref i :: st) H 0 0 = (4 ≤ i ∧ ma_ias (H.1 i) x y (ma_kH d 32 Q 40 l st H i 0 0)) := wp_iast rfl
theorem w32_40 : ma_W d 32 Q 40 (some (.ref i) :: l) st H 0 0 = ma_W d 32 Q 41 (some (.ref i) :: l) (.ref i :: st) H 0 0 := wp_aload_n (x := some i) rfl rfl
theorem w32_41 : ma_W d 32 Q 41 l (.ref i :: st) H 0 0 = ma_gf (H.1 i) 3 2 (ma_kV d 32 Q 44 l st H 0 0) := wp_get rfl (by decide +kernel)
theorem w32_44 : ma_W d 32 Q 44 (o0 :: o1 :: some (.int x) :: l) st H 0 0 = ma_W d 32 Q 45 (o0 :: o1 :: some (.int x) :: l) (.int x :: st) H 0 0 := wp_iload_n rfl rfl
theorem w32_45 : ma_W d 32 Q 45 (o0 :: some (.ref i) :: l) st H 0 0 = ma_W d 32 Q 46 (o0 :: some (.ref i) :: l) (.ref i :: st) H 0 0 := wp_aload_n (x := some i) rfl rfl
theorem w32_46 : ma_W d 32 Q 46 l (.ref i :: st) H 0 0 = ma_gf (H.1 i) 3 2 (ma_kV d 32 Q 49 l st H 0 0) := wp_get rfl (by decide +kernel)
theorem w32_49 : ma_W d 32 Q 49 (o0 :: o1 :: some (.int x) :: l) st H 0 0 = ma_W d 32 Q 50 (o0 :: o1 :: some (.int x) :: l) (.int x :: st) H 0 0 := wp_iload_n rfl rfl
theorem w32_50 : ma_W d 32 Q 50 l (.int x :: .ref i :: st) H 0 0 = ma_ial (H.1 i) x (ma_kV d 32 Q 51 l st H 0 0) := wp_iald rfl
theorem w32_51 : ma_W d 32 Q 51 l (.int y :: .int x :: .ref i :: st) H 0 0 = (4 ≤ i ∧ ma_ias (H.1 i) x y (ma_kH d 32 Q 52 l st H i 0 0)) := wp_iast rfl
theorem w32_52 : ma_W d 32 Q 52 (some (.ref i) :: l) st H 0 0 = ma_W d 32 Q 53 (some (.ref i) :: l) (.ref i :: st) H 0 0 := wp_aload_n (x := some i) rfl rfl
theorem w32_53 : ma_W d 32 Q 53 l (.ref i :: st) H 0 0 = ma_gf (H.1 i) 3 3 (ma_kV d 32 Q 56 l st H 0 0) := wp_get rfl (by decide +kernel)
theorem w32_56 : ma_W d 32 Q 56 (o0 :: o1 :: some (.int x) :: l) st H 0 0 = ma_W d 32 Q 57 (o0 :: o1 :: some (.int x) :: l) (.int x :: st) H 0 0 := wp_iload_n rfl rfl
theorem w32_57 : ma_W d 32 Q 57 (o0 :: some (.ref i) :: l) st H 0 0 = ma_W d 32 Q 58 (o0 :: some (.ref i) :: l) (.ref i :: st) H 0 0 := wp_aload_n (x := some i) rfl rfl
theorem w32_58 : ma_W d 32 Q 58 l (.ref i :: st) H 0 0 = ma_gf (H.1 i) 3 3 (ma_kV d 32 Q 61 l st H 0 0) := wp_get rfl (by decide +kernel)
theorem w32_61 : ma_W d 32 Q 61 (o0 :: o1 :: some (.int x) :: l) st H 0 0 = ma_W d 32 Q 62 (o0 :: o1 :: some (.int x) :: l) (.int x :: st) H 0 0 := wp_iload_n rfl rfl
theorem w32_62 : ma_W d 32 Q 62 l (.int x :: .ref i :: st) H 0 0 = ma_ial (H.1 i) x (ma_kV d 32 Q 63 l st H 0 0) := wp_iald rfl
theorem w32_63 : ma_W d 32 Q 63 l (.int y :: .int x :: .ref i :: st) H 0 0 = (4 ≤ i ∧ ma_ias (H.1 i) x y (ma_kH d 32 Q 64 l st H i 0 0)) := wp_iast rfl
theorem w32_64 : ma_W d 32 Q 64 (o0 :: o1 :: some (.int x) :: l) st H 0 0 = ma_W d 32 Q 67 (o0 :: ma_clr o1 :: some (.int (x + 1)) :: l) st H 0 0 := wp_iinc (id := 32) (pc := 64) (k := 2) (n := 1) rfl (Nat.succ_lt_succ (Nat.succ_lt_succ (Nat.zero_lt_succ _))) rfl (by decide)
theorem w32_67 : ma_W d 32 Q 67 l st H 0 0 = ma_W d 32 Q 10 l st H 0 0 := wp_goto 10 rfl (by decide)
theorem w32_70 : ma_W d 32 Q 70 l [] H 0 0 = Q none H := wp_vret rfl rfl
theorem e32 : ma_MW (d + 1) 32 [.ref i, .ref i0] H Q = ma_W d 32 Q 0 [some (.ref i), some (.ref i0), none] [] H 0 0 := wp_enter (by decide) (Nat.le_of_ble_eq_true rfl) rfl
/-! 33 ta_init -/
theorem w33_0 : ma_W d 33 Q 0 (some (.ref i) :: l) st H 0 0 = ma_W d 33 Q 1 (some (.ref i) :: l) (.ref i :: st) H 0 0 := wp_aload_n (x := some i) rfl rfl
theorem w33_1 : ma_W d 33 Q 1 l (.ref i :: st) H 0 0 = (ma_cat st ≤ 8 ∧ ma_W d 33 Q 4 l st H 0 0) := wc_obj (ia := 0) (n := 1) (cn := 0) rfl (by decide +kernel)
theorem w33_4 : ma_W d 33 Q 4 (some (.ref i) :: l) st H 0 0 = ma_W d 33 Q 5 (some (.ref i) :: l) (.ref i :: st) H 0 0 := wp_aload_n (x := some i) rfl rfl
theorem w33_5 : ma_W d 33 Q 5 l st H 0 0 = ma_W d 33 Q 6 l (.int 0 :: st) H 0 0 := wp_iconst rfl (by decide)
theorem w33_6 : ma_W d 33 Q 6 l (.int x :: .ref i :: st) H 0 0 = ma_pf (H.1 i) 4 0 (.int x) (ma_kH d 33 Q 9 l st H i 0 0) := wp_put rfl (by decide +kernel) (by decide +kernel) rfl rfl
theorem w33_9 : ma_W d 33 Q 9 (some (.ref i) :: l) st H 0 0 = ma_W d 33 Q 10 (some (.ref i) :: l) (.ref i :: st) H 0 0 := wp_aload_n (x := some i) rfl rfl
theorem w33_10 : ma_W d 33 Q 10 l st H 0 0 = ma_W d 33 Q 11 l (.int 0 :: st) H 0 0 := wp_iconst rfl (by decide)
theorem w33_11 : ma_W d 33 Q 11 l (.int x :: .ref i :: st) H 0 0 = ma_pf (H.1 i) 4 1 (.int x) (ma_kH d 33 Q 14 l st H i 0 0) := wp_put rfl (by decide +kernel) (by decide +kernel) rfl rfl
theorem w33_14 : ma_W d 33 Q 14 (some (.ref i) :: l) st H 0 0 = ma_W d 33 Q 15 (some (.ref i) :: l) (.ref i :: st) H 0 0 := wp_aload_n (x := some i) rfl rfl
theorem w33_15 : ma_W d 33 Q 15 l st H 0 0 = ma_W d 33 Q 16 l (.int 0 :: st) H 0 0 := wp_iconst rfl (by decide)
theorem w33_16 : ma_W d 33 Q 16 l (.int x :: .ref i :: st) H 0 0 = ma_pf (H.1 i) 4 2 (.int x) (ma_kH d 33 Q 19 l st H i 0 0) := wp_put rfl (by decide +kernel) (by decide +kernel) rfl rfl
theorem w33_19 : ma_W d 33 Q 19 (some (.ref i) :: l) st H 0 0 = ma_W d 33 Q 20 (some (.ref i) :: l) (.ref i :: st) H 0 0 := wp_aload_n (x := some i) rfl rfl
theorem w33_20 : ma_W d 33 Q 20 l st H 0 0 = ma_W d 33 Q 21 l (.long 0 :: st) H 0 0 := wp_lconst rfl (by decide)
theorem w33_21 : ma_W d 33 Q 21 l (.long u :: .ref i :: st) H 0 0 = ma_pf (H.1 i) 4 3 (.long u) (ma_kH d 33 Q 24 l st H i 0 0) := wp_put rfl (by decide +kernel) (by decide +kernel) rfl rfl
theorem w33_24 : ma_W d 33 Q 24 (some (.ref i) :: l) st H 0 0 = ma_W d 33 Q 25 (some (.ref i) :: l) (.ref i :: st) H 0 0 := wp_aload_n (x := some i) rfl rfl
theorem w33_25 : ma_W d 33 Q 25 l st H 0 0 = ma_W d 33 Q 26 l (.long 0 :: st) H 0 0 := wp_lconst rfl (by decide)
theorem w33_26 : ma_W d 33 Q 26 l (.long u :: .ref i :: st) H 0 0 = ma_pf (H.1 i) 4 4 (.long u) (ma_kH d 33 Q 29 l st H i 0 0) := wp_put rfl (by decide +kernel) (by decide +kernel) rfl rfl
theorem w33_29 : ma_W d 33 Q 29 (some (.ref i) :: l) st H 0 0 = ma_W d 33 Q 30 (some (.ref i) :: l) (.ref i :: st) H 0 0 := wp_aload_n (x := some i) rfl rfl
theorem w33_30 : ma_W d 33 Q 30 l st H 0 0 = ma_W d 33 Q 31 l (.long 0 :: st) H 0 0 := wp_lconst rfl (by decide)
theorem w33_31 : ma_W d 33 Q 31 l (.long u :: .ref i :: st) H 0 0 = ma_pf (H.1 i) 4 5 (.long u) (ma_kH d 33 Q 34 l st H i 0 0) := wp_put rfl (by decide +kernel) (by decide +kernel) rfl rfl
theorem w33_34 : ma_W d 33 Q 34 (some (.ref i) :: l) st H 0 0 = ma_W d 33 Q 35 (some (.ref i) :: l) (.ref i :: st) H 0 0 := wp_aload_n (x := some i) rfl rfl
theorem w33_35 : ma_W d 33 Q 35 l st H 0 0 = ma_W d 33 Q 36 l (.int 0 :: st) H 0 0 := wp_iconst rfl (by decide)
theorem w33_36 : ma_W d 33 Q 36 l (.int x :: .ref i :: st) H 0 0 = ma_pf (H.1 i) 4 6 (.int x) (ma_kH d 33 Q 39 l st H i 0 0) := wp_put rfl (by decide +kernel) (by decide +kernel) rfl rfl
theorem w33_39 : ma_W d 33 Q 39 (some (.ref i) :: l) st H 0 0 = ma_W d 33 Q 40 (some (.ref i) :: l) (.ref i :: st) H 0 0 := wp_aload_n (x := some i) rfl rfl
theorem w33_40 : ma_W d 33 Q 40 l st H 0 0 = ma_W d 33 Q 41 l (.int 0 :: st) H 0 0 := wp_iconst rfl (by decide)
theorem w33_41 : ma_W d 33 Q 41 l (.int x :: .ref i :: st) H 0 0 = ma_pf (H.1 i) 4 7 (.int x) (ma_kH d 33 Q 44 l st H i 0 0) := wp_put rfl (by decide +kernel) (by decide +kernel) rfl rfl
theorem w33_44 : ma_W d 33 Q 44 (some (.ref i) :: l) st H 0 0 = ma_W d 33 Q 45 (some (.ref i) :: l) (.ref i :: st) H 0 0 := wp_aload_n (x := some i) rfl rfl
theorem w33_45 : ma_W d 33 Q 45 l st H 0 0 = ma_W d 33 Q 46 l (.int 0 :: st) H 0 0 := wp_iconst rfl (by decide)
theorem w33_46 : ma_W d 33 Q 46 l (.int x :: .ref i :: st) H 0 0 = ma_pf (H.1 i) 4 8 (.int x) (ma_kH d 33 Q 49 l st H i 0 0) := wp_put rfl (by decide +kernel) (by decide +kernel) rfl rfl
theorem w33_49 : ma_W d 33 Q 49 (some (.ref i) :: l) st H 0 0 = ma_W d 33 Q 50 (some (.ref i) :: l) (.ref i :: st) H 0 0 := wp_aload_n (x := some i) rfl rfl
theorem w33_50 : ma_W d 33 Q 50 l st H 0 0 = ma_W d 33 Q 51 l (.int 0 :: st) H 0 0 := wp_iconst rfl (by decide)
theorem w33_51 : ma_W d 33 Q 51 l (.int x :: .ref i :: st) H 0 0 = ma_pf (H.1 i) 4 9 (.int x) (ma_kH d 33 Q 54 l st H i 0 0) := wp_put rfl (by decide +kernel) (by decide +kernel) rfl rfl
theorem w33_54 : ma_W d 33 Q 54 l [] H 0 0 = Q none H := wp_vret rfl rfl
theorem e33 : ma_MW (d + 1) 33 [.ref i] H Q = ma_W d 33 Q 0 [some (.ref i)] [] H 0 0 := wp_enter (by decide) (Nat.le_of_ble_eq_true rfl) rfl
/-! 34 ta_begin -/
theorem w34_0 : ma_W d 34 Q 0 (some (.ref i) :: l) st H 0 0 = ma_W d 34 Q 1 (some (.ref i) :: l) (.ref i :: st) H 0 0 := wp_aload_n (x := some i) rfl rfl
theorem w34_1 : ma_W d 34 Q 1 l st H 0 0 = ma_W d 34 Q 2 l (.long 0 :: st) H 0 0 := wp_lconst rfl (by decide)
theorem w34_2 : ma_W d 34 Q 2 l (.long u :: .ref i :: st) H 0 0 = ma_pf (H.1 i) 4 3 (.long u) (ma_kH d 34 Q 5 l st H i 0 0) := wp_put rfl (by decide +kernel) (by decide +kernel) rfl rfl
theorem w34_5 : ma_W d 34 Q 5 (some (.ref i) :: l) st H 0 0 = ma_W d 34 Q 6 (some (.ref i) :: l) (.ref i :: st) H 0 0 := wp_aload_n (x := some i) rfl rfl
theorem w34_6 : ma_W d 34 Q 6 l st H 0 0 = ma_W d 34 Q 7 l (.long 0 :: st) H 0 0 := wp_lconst rfl (by decide)
theorem w34_7 : ma_W d 34 Q 7 l (.long u :: .ref i :: st) H 0 0 = ma_pf (H.1 i) 4 4 (.long u) (ma_kH d 34 Q 10 l st H i 0 0) := wp_put rfl (by decide +kernel) (by decide +kernel) rfl rfl
theorem w34_10 : ma_W d 34 Q 10 (some (.ref i) :: l) st H 0 0 = ma_W d 34 Q 11 (some (.ref i) :: l) (.ref i :: st) H 0 0 := wp_aload_n (x := some i) rfl rfl
theorem w34_11 : ma_W d 34 Q 11 l st H 0 0 = ma_W d 34 Q 12 l (.long 0 :: st) H 0 0 := wp_lconst rfl (by decide)
theorem w34_12 : ma_W d 34 Q 12 l (.long u :: .ref i :: st) H 0 0 = ma_pf (H.1 i) 4 5 (.long u) (ma_kH d 34 Q 15 l st H i 0 0) := wp_put rfl (by decide +kernel) (by decide +kernel) rfl rfl
theorem w34_15 : ma_W d 34 Q 15 (some (.ref i) :: l) st H 0 0 = ma_W d 34 Q 16 (some (.ref i) :: l) (.ref i :: st) H 0 0 := wp_aload_n (x := some i) rfl rfl
theorem w34_16 : ma_W d 34 Q 16 l st H 0 0 = ma_W d 34 Q 17 l (.int 0 :: st) H 0 0 := wp_iconst rfl (by decide)
theorem w34_17 : ma_W d 34 Q 17 l (.int x :: .ref i :: st) H 0 0 = ma_pf (H.1 i) 4 0 (.int x) (ma_kH d 34 Q 20 l st H i 0 0) := wp_put rfl (by decide +kernel) (by decide +kernel) rfl rfl
theorem w34_20 : ma_W d 34 Q 20 (some (.ref i) :: l) st H 0 0 = ma_W d 34 Q 21 (some (.ref i) :: l) (.ref i :: st) H 0 0 := wp_aload_n (x := some i) rfl rfl
theorem w34_21 : ma_W d 34 Q 21 l st H 0 0 = ma_W d 34 Q 22 l (.int 0 :: st) H 0 0 := wp_iconst rfl (by decide)
theorem w34_22 : ma_W d 34 Q 22 l (.int x :: .ref i :: st) H 0 0 = ma_pf (H.1 i) 4 1 (.int x) (ma_kH d 34 Q 25 l st H i 0 0) := wp_put rfl (by decide +kernel) (by decide +kernel) rfl rfl
theorem w34_25 : ma_W d 34 Q 25 (some (.ref i) :: l) st H 0 0 = ma_W d 34 Q 26 (some (.ref i) :: l) (.ref i :: st) H 0 0 := wp_aload_n (x := some i) rfl rfl
theorem w34_26 : ma_W d 34 Q 26 l st H 0 0 = ma_W d 34 Q 27 l (.int 0 :: st) H 0 0 := wp_iconst rfl (by decide)
theorem w34_27 : ma_W d 34 Q 27 l (.int x :: .ref i :: st) H 0 0 = ma_pf (H.1 i) 4 6 (.int x) (ma_kH d 34 Q 30 l st H i 0 0) := wp_put rfl (by decide +kernel) (by decide +kernel) rfl rfl
theorem w34_30 : ma_W d 34 Q 30 (some (.ref i) :: l) st H 0 0 = ma_W d 34 Q 31 (some (.ref i) :: l) (.ref i :: st) H 0 0 := wp_aload_n (x := some i) rfl rfl
theorem w34_31 : ma_W d 34 Q 31 l st H 0 0 = ma_W d 34 Q 32 l (.int 0 :: st) H 0 0 := wp_iconst rfl (by decide)
theorem w34_32 : ma_W d 34 Q 32 l (.int x :: .ref i :: st) H 0 0 = ma_pf (H.1 i) 4 7 (.int x) (ma_kH d 34 Q 35 l st H i 0 0) := wp_put rfl (by decide +kernel) (by decide +kernel) rfl rfl
theorem w34_35 : ma_W d 34 Q 35 (some (.ref i) :: l) st H 0 0 = ma_W d 34 Q 36 (some (.ref i) :: l) (.ref i :: st) H 0 0 := wp_aload_n (x := some i) rfl rfl
theorem w34_36 : ma_W d 34 Q 36 l st H 0 0 = ma_W d 34 Q 37 l (.int 0 :: st) H 0 0 := wp_iconst rfl (by decide)
theorem w34_37 : ma_W d 34 Q 37 l (.int x :: .ref i :: st) H 0 0 = ma_pf (H.1 i) 4 2 (.int x) (ma_kH d 34 Q 40 l st H i 0 0) := wp_put rfl (by decide +kernel) (by decide +kernel) rfl rfl
theorem w34_40 : ma_W d 34 Q 40 (some (.ref i) :: l) st H 0 0 = ma_W d 34 Q 41 (some (.ref i) :: l) (.ref i :: st) H 0 0 := wp_aload_n (x := some i) rfl rfl
theorem w34_41 : ma_W d 34 Q 41 (o0 :: some (.int x) :: l) st H 0 0 = ma_W d 34 Q 42 (o0 :: some (.int x) :: l) (.int x :: st) H 0 0 := wp_iload_n rfl rfl
theorem w34_42 : ma_W d 34 Q 42 l (.int x :: .ref i :: st) H 0 0 = ma_pf (H.1 i) 4 8 (.int x) (ma_kH d 34 Q 45 l st H i 0 0) := wp_put rfl (by decide +kernel) (by decide +kernel) rfl rfl
theorem w34_45 : ma_W d 34 Q 45 (some (.ref i) :: l) st H 0 0 = ma_W d 34 Q 46 (some (.ref i) :: l) (.ref i :: st) H 0 0 := wp_aload_n (x := some i) rfl rfl
theorem w34_46 : ma_W d 34 Q 46 (o0 :: o1 :: some (.int x) :: l) st H 0 0 = ma_W d 34 Q 47 (o0 :: o1 :: some (.int x) :: l) (.int x :: st) H 0 0 := wp_iload_n rfl rfl
theorem w34_47 : ma_W d 34 Q 47 l (.int x :: .ref i :: st) H 0 0 = ma_pf (H.1 i) 4 9 (.int x) (ma_kH d 34 Q 50 l st H i 0 0) := wp_put rfl (by decide +kernel) (by decide +kernel) rfl rfl
theorem w34_50 : ma_W d 34 Q 50 l [] H 0 0 = Q none H := wp_vret rfl rfl
theorem e34 : ma_MW (d + 1) 34 [.ref i, .int x0, .int x1] H Q = ma_W d 34 Q 0 [some (.ref i), some (.int x0), some (.int x1)] [] H 0 0 := wp_enter (by decide) (Nat.le_of_ble_eq_true rfl) rfl
/-! 35 ta_copyFrom -/
theorem w35_0 : ma_W d 35 Q 0 (some (.ref i) :: l) st H 0 0 = ma_W d 35 Q 1 (some (.ref i) :: l) (.ref i :: st) H 0 0 := wp_aload_n (x := some i) rfl rfl
theorem w35_1 : ma_W d 35 Q 1 (o0 :: some (.ref i) :: l) st H 0 0 = ma_W d 35 Q 2 (o0 :: some (.ref i) :: l) (.ref i :: st) H 0 0 := wp_aload_n (x := some i) rfl rfl
theorem w35_2 : ma_W d 35 Q 2 l (.ref i :: st) H 0 0 = ma_gf (H.1 i) 4 3 (ma_kV d 35 Q 5 l st H 0 0) := wp_get rfl (by decide +kernel)
theorem w35_5 : ma_W d 35 Q 5 l (.long u :: .ref i :: st) H 0 0 = ma_pf (H.1 i) 4 3 (.long u) (ma_kH d 35 Q 8 l st H i 0 0) := wp_put rfl (by decide +kernel) (by decide +kernel) rfl rfl
theorem w35_8 : ma_W d 35 Q 8 (some (.ref i) :: l) st H 0 0 = ma_W d 35 Q 9 (some (.ref i) :: l) (.ref i :: st) H 0 0 := wp_aload_n (x := some i) rfl rfl
theorem w35_9 : ma_W d 35 Q 9 (o0 :: some (.ref i) :: l) st H 0 0 = ma_W d 35 Q 10 (o0 :: some (.ref i) :: l) (.ref i :: st) H 0 0 := wp_aload_n (x := some i) rfl rfl
theorem w35_10 : ma_W d 35 Q 10 l (.ref i :: st) H 0 0 = ma_gf (H.1 i) 4 4 (ma_kV d 35 Q 13 l st H 0 0) := wp_get rfl (by decide +kernel)
theorem w35_13 : ma_W d 35 Q 13 l (.long u :: .ref i :: st) H 0 0 = ma_pf (H.1 i) 4 4 (.long u) (ma_kH d 35 Q 16 l st H i 0 0) := wp_put rfl (by decide +kernel) (by decide +kernel) rfl rfl
theorem w35_16 : ma_W d 35 Q 16 (some (.ref i) :: l) st H 0 0 = ma_W d 35 Q 17 (some (.ref i) :: l) (.ref i :: st) H 0 0 := wp_aload_n (x := some i) rfl rfl
theorem w35_17 : ma_W d 35 Q 17 (o0 :: some (.ref i) :: l) st H 0 0 = ma_W d 35 Q 18 (o0 :: some (.ref i) :: l) (.ref i :: st) H 0 0 := wp_aload_n (x := some i) rfl rfl
theorem w35_18 : ma_W d 35 Q 18 l (.ref i :: st) H 0 0 = ma_gf (H.1 i) 4 5 (ma_kV d 35 Q 21 l st H 0 0) := wp_get rfl (by decide +kernel)
theorem w35_21 : ma_W d 35 Q 21 l (.long u :: .ref i :: st) H 0 0 = ma_pf (H.1 i) 4 5 (.long u) (ma_kH d 35 Q 24 l st H i 0 0) := wp_put rfl (by decide +kernel) (by decide +kernel) rfl rfl
theorem w35_24 : ma_W d 35 Q 24 (some (.ref i) :: l) st H 0 0 = ma_W d 35 Q 25 (some (.ref i) :: l) (.ref i :: st) H 0 0 := wp_aload_n (x := some i) rfl rfl
theorem w35_25 : ma_W d 35 Q 25 (o0 :: some (.ref i) :: l) st H 0 0 = ma_W d 35 Q 26 (o0 :: some (.ref i) :: l) (.ref i :: st) H 0 0 := wp_aload_n (x := some i) rfl rfl
theorem w35_26 : ma_W d 35 Q 26 l (.ref i :: st) H 0 0 = ma_gf (H.1 i) 4 0 (ma_kV d 35 Q 29 l st H 0 0) := wp_get rfl (by decide +kernel)
theorem w35_29 : ma_W d 35 Q 29 l (.int x :: .ref i :: st) H 0 0 = ma_pf (H.1 i) 4 0 (.int x) (ma_kH d 35 Q 32 l st H i 0 0) := wp_put rfl (by decide +kernel) (by decide +kernel) rfl rfl
theorem w35_32 : ma_W d 35 Q 32 (some (.ref i) :: l) st H 0 0 = ma_W d 35 Q 33 (some (.ref i) :: l) (.ref i :: st) H 0 0 := wp_aload_n (x := some i) rfl rfl
theorem w35_33 : ma_W d 35 Q 33 (o0 :: some (.ref i) :: l) st H 0 0 = ma_W d 35 Q 34 (o0 :: some (.ref i) :: l) (.ref i :: st) H 0 0 := wp_aload_n (x := some i) rfl rfl
theorem w35_34 : ma_W d 35 Q 34 l (.ref i :: st) H 0 0 = ma_gf (H.1 i) 4 1 (ma_kV d 35 Q 37 l st H 0 0) := wp_get rfl (by decide +kernel)
theorem w35_37 : ma_W d 35 Q 37 l (.int x :: .ref i :: st) H 0 0 = ma_pf (H.1 i) 4 1 (.int x) (ma_kH d 35 Q 40 l st H i 0 0) := wp_put rfl (by decide +kernel) (by decide +kernel) rfl rfl
theorem w35_40 : ma_W d 35 Q 40 (some (.ref i) :: l) st H 0 0 = ma_W d 35 Q 41 (some (.ref i) :: l) (.ref i :: st) H 0 0 := wp_aload_n (x := some i) rfl rfl
theorem w35_41 : ma_W d 35 Q 41 (o0 :: some (.ref i) :: l) st H 0 0 = ma_W d 35 Q 42 (o0 :: some (.ref i) :: l) (.ref i :: st) H 0 0 := wp_aload_n (x := some i) rfl rfl
theorem w35_42 : ma_W d 35 Q 42 l (.ref i :: st) H 0 0 = ma_gf (H.1 i) 4 6 (ma_kV d 35 Q 45 l st H 0 0) := wp_get rfl (by decide +kernel)
theorem w35_45 : ma_W d 35 Q 45 l (.int x :: .ref i :: st) H 0 0 = ma_pf (H.1 i) 4 6 (.int x) (ma_kH d 35 Q 48 l st H i 0 0) := wp_put rfl (by decide +kernel) (by decide +kernel) rfl rfl
theorem w35_48 : ma_W d 35 Q 48 (some (.ref i) :: l) st H 0 0 = ma_W d 35 Q 49 (some (.ref i) :: l) (.ref i :: st) H 0 0 := wp_aload_n (x := some i) rfl rfl
theorem w35_49 : ma_W d 35 Q 49 (o0 :: some (.ref i) :: l) st H 0 0 = ma_W d 35 Q 50 (o0 :: some (.ref i) :: l) (.ref i :: st) H 0 0 := wp_aload_n (x := some i) rfl rfl
theorem w35_50 : ma_W d 35 Q 50 l (.ref i :: st) H 0 0 = ma_gf (H.1 i) 4 7 (ma_kV d 35 Q 53 l st H 0 0) := wp_get rfl (by decide +kernel)
theorem w35_53 : ma_W d 35 Q 53 l (.int x :: .ref i :: st) H 0 0 = ma_pf (H.1 i) 4 7 (.int x) (ma_kH d 35 Q 56 l st H i 0 0) := wp_put rfl (by decide +kernel) (by decide +kernel) rfl rfl
theorem w35_56 : ma_W d 35 Q 56 (some (.ref i) :: l) st H 0 0 = ma_W d 35 Q 57 (some (.ref i) :: l) (.ref i :: st) H 0 0 := wp_aload_n (x := some i) rfl rfl
theorem w35_57 : ma_W d 35 Q 57 (o0 :: some (.ref i) :: l) st H 0 0 = ma_W d 35 Q 58 (o0 :: some (.ref i) :: l) (.ref i :: st) H 0 0 := wp_aload_n (x := some i) rfl rfl
theorem w35_58 : ma_W d 35 Q 58 l (.ref i :: st) H 0 0 = ma_gf (H.1 i) 4 2 (ma_kV d 35 Q 61 l st H 0 0) := wp_get rfl (by decide +kernel)
theorem w35_61 : ma_W d 35 Q 61 l (.int x :: .ref i :: st) H 0 0 = ma_pf (H.1 i) 4 2 (.int x) (ma_kH d 35 Q 64 l st H i 0 0) := wp_put rfl (by decide +kernel) (by decide +kernel) rfl rfl
theorem w35_64 : ma_W d 35 Q 64 (some (.ref i) :: l) st H 0 0 = ma_W d 35 Q 65 (some (.ref i) :: l) (.ref i :: st) H 0 0 := wp_aload_n (x := some i) rfl rfl
theorem w35_65 : ma_W d 35 Q 65 (o0 :: some (.ref i) :: l) st H 0 0 = ma_W d 35 Q 66 (o0 :: some (.ref i) :: l) (.ref i :: st) H 0 0 := wp_aload_n (x := some i) rfl rfl
theorem w35_66 : ma_W d 35 Q 66 l (.ref i :: st) H 0 0 = ma_gf (H.1 i) 4 8 (ma_kV d 35 Q 69 l st H 0 0) := wp_get rfl (by decide +kernel)
theorem w35_69 : ma_W d 35 Q 69 l (.int x :: .ref i :: st) H 0 0 = ma_pf (H.1 i) 4 8 (.int x) (ma_kH d 35 Q 72 l st H i 0 0) := wp_put rfl (by decide +kernel) (by decide +kernel) rfl rfl
theorem w35_72 : ma_W d 35 Q 72 (some (.ref i) :: l) st H 0 0 = ma_W d 35 Q 73 (some (.ref i) :: l) (.ref i :: st) H 0 0 := wp_aload_n (x := some i) rfl rfl
theorem w35_73 : ma_W d 35 Q 73 (o0 :: some (.ref i) :: l) st H 0 0 = ma_W d 35 Q 74 (o0 :: some (.ref i) :: l) (.ref i :: st) H 0 0 := wp_aload_n (x := some i) rfl rfl
theorem w35_74 : ma_W d 35 Q 74 l (.ref i :: st) H 0 0 = ma_gf (H.1 i) 4 9 (ma_kV d 35 Q 77 l st H 0 0) := wp_get rfl (by decide +kernel)
theorem w35_77 : ma_W d 35 Q 77 l (.int x :: .ref i :: st) H 0 0 = ma_pf (H.1 i) 4 9 (.int x) (ma_kH d 35 Q 80 l st H i 0 0) := wp_put rfl (by decide +kernel) (by decide +kernel) rfl rfl
theorem w35_80 : ma_W d 35 Q 80 l [] H 0 0 = Q none H := wp_vret rfl rfl
theorem e35 : ma_MW (d + 1) 35 [.ref i, .ref i0] H Q = ma_W d 35 Q 0 [some (.ref i), some (.ref i0)] [] H 0 0 := wp_enter (by decide) (Nat.le_of_ble_eq_true rfl) rfl
/-! 36 ta_liesAs -/
theorem w36_0 : ma_W d 36 Q 0 (some (.ref i) :: l) st H 0 0 = ma_W d 36 Q 1 (some (.ref i) :: l) (.ref i :: st) H 0 0 := wp_aload_n (x := some i) rfl rfl
theorem w36_1 : ma_W d 36 Q 1 l (.ref i :: st) H 0 0 = ma_gf (H.1 i) 4 3 (ma_kV d 36 Q 4 l st H 0 0) := wp_get rfl (by decide +kernel)
theorem w36_4 : ma_W d 36 Q 4 (o0 :: some (.ref i) :: l) st H 0 0 = ma_W d 36 Q 5 (o0 :: some (.ref i) :: l) (.ref i :: st) H 0 0 := wp_aload_n (x := some i) rfl rfl
theorem w36_5 : ma_W d 36 Q 5 l (.ref i :: st) H 0 0 = ma_gf (H.1 i) 4 3 (ma_kV d 36 Q 8 l st H 0 0) := wp_get rfl (by decide +kernel)
theorem w36_8 : ma_W d 36 Q 8 l (.long v :: .long u :: st) H 0 0 = ma_W d 36 Q 9 l (.int (lg_cmp u v) :: st) H 0 0 := wp_lcmp rfl
theorem w36_9 : ma_W d 36 Q 9 l (.int x :: st) H 0 0 = ma_if (x = 0) d 36 Q 12 62 l st H 0 0 := wp_c0 (id := 36) (pc := 9) (c := .ne) (off := 53) 62 rfl (by decide)
theorem w36_12 : ma_W d 36 Q 12 (some (.ref i) :: l) st H 0 0 = ma_W d 36 Q 13 (some (.ref i) :: l) (.ref i :: st) H 0 0 := wp_aload_n (x := some i) rfl rfl
theorem w36_13 : ma_W d 36 Q 13 l (.ref i :: st) H 0 0 = ma_gf (H.1 i) 4 4 (ma_kV d 36 Q 16 l st H 0 0) := wp_get rfl (by decide +kernel)
theorem w36_16 : ma_W d 36 Q 16 (o0 :: some (.ref i) :: l) st H 0 0 = ma_W d 36 Q 17 (o0 :: some (.ref i) :: l) (.ref i :: st) H 0 0 := wp_aload_n (x := some i) rfl rfl
theorem w36_17 : ma_W d 36 Q 17 l (.ref i :: st) H 0 0 = ma_gf (H.1 i) 4 4 (ma_kV d 36 Q 20 l st H 0 0) := wp_get rfl (by decide +kernel)
theorem w36_20 : ma_W d 36 Q 20 l (.long v :: .long u :: st) H 0 0 = ma_W d 36 Q 21 l (.int (lg_cmp u v) :: st) H 0 0 := wp_lcmp rfl
theorem w36_21 : ma_W d 36 Q 21 l (.int x :: st) H 0 0 = ma_if (x = 0) d 36 Q 24 62 l st H 0 0 := wp_c0 (id := 36) (pc := 21) (c := .ne) (off := 41) 62 rfl (by decide)
theorem w36_24 : ma_W d 36 Q 24 (some (.ref i) :: l) st H 0 0 = ma_W d 36 Q 25 (some (.ref i) :: l) (.ref i :: st) H 0 0 := wp_aload_n (x := some i) rfl rfl
theorem w36_25 : ma_W d 36 Q 25 l (.ref i :: st) H 0 0 = ma_gf (H.1 i) 4 5 (ma_kV d 36 Q 28 l st H 0 0) := wp_get rfl (by decide +kernel)
theorem w36_28 : ma_W d 36 Q 28 (o0 :: some (.ref i) :: l) st H 0 0 = ma_W d 36 Q 29 (o0 :: some (.ref i) :: l) (.ref i :: st) H 0 0 := wp_aload_n (x := some i) rfl rfl
theorem w36_29 : ma_W d 36 Q 29 l (.ref i :: st) H 0 0 = ma_gf (H.1 i) 4 5 (ma_kV d 36 Q 32 l st H 0 0) := wp_get rfl (by decide +kernel)
theorem w36_32 : ma_W d 36 Q 32 l (.long v :: .long u :: st) H 0 0 = ma_W d 36 Q 33 l (.int (lg_cmp u v) :: st) H 0 0 := wp_lcmp rfl
theorem w36_33 : ma_W d 36 Q 33 l (.int x :: st) H 0 0 = ma_if (x = 0) d 36 Q 36 62 l st H 0 0 := wp_c0 (id := 36) (pc := 33) (c := .ne) (off := 29) 62 rfl (by decide)
theorem w36_36 : ma_W d 36 Q 36 (some (.ref i) :: l) st H 0 0 = ma_W d 36 Q 37 (some (.ref i) :: l) (.ref i :: st) H 0 0 := wp_aload_n (x := some i) rfl rfl
theorem w36_37 : ma_W d 36 Q 37 l (.ref i :: st) H 0 0 = ma_gf (H.1 i) 4 0 (ma_kV d 36 Q 40 l st H 0 0) := wp_get rfl (by decide +kernel)
theorem w36_40 : ma_W d 36 Q 40 (o0 :: some (.ref i) :: l) st H 0 0 = ma_W d 36 Q 41 (o0 :: some (.ref i) :: l) (.ref i :: st) H 0 0 := wp_aload_n (x := some i) rfl rfl
theorem w36_41 : ma_W d 36 Q 41 l (.ref i :: st) H 0 0 = ma_gf (H.1 i) 4 0 (ma_kV d 36 Q 44 l st H 0 0) := wp_get rfl (by decide +kernel)
theorem w36_44 : ma_W d 36 Q 44 l (.int y :: .int x :: st) H 0 0 = ma_if (x = y) d 36 Q 47 62 l st H 0 0 := wp_ic (id := 36) (pc := 44) (c := .ne) (off := 18) 62 rfl (by decide)
theorem w36_47 : ma_W d 36 Q 47 (some (.ref i) :: l) st H 0 0 = ma_W d 36 Q 48 (some (.ref i) :: l) (.ref i :: st) H 0 0 := wp_aload_n (x := some i) rfl rfl
theorem w36_48 : ma_W d 36 Q 48 l (.ref i :: st) H 0 0 = ma_gf (H.1 i) 4 1 (ma_kV d 36 Q 51 l st H 0 0) := wp_get rfl (by decide +kernel)
theorem w36_51 : ma_W d 36 Q 51 (o0 :: some (.ref i) :: l) st H 0 0 = ma_W d 36 Q 52 (o0 :: some (.ref i) :: l) (.ref i :: st) H 0 0 := wp_aload_n (x := some i) rfl rfl
theorem w36_52 : ma_W d 36 Q 52 l (.ref i :: st) H 0 0 = ma_gf (H.1 i) 4 1 (ma_kV d 36 Q 55 l st H 0 0) := wp_get rfl (by decide +kernel)
theorem w36_55 : ma_W d 36 Q 55 l (.int y :: .int x :: st) H 0 0 = ma_if (x = y) d 36 Q 58 62 l st H 0 0 := wp_ic (id := 36) (pc := 55) (c := .ne) (off := 7) 62 rfl (by decide)
theorem w36_58 : ma_W d 36 Q 58 l st H 0 0 = ma_W d 36 Q 59 l (.int 1 :: st) H 0 0 := wp_iconst rfl (by decide)
theorem w36_59 : ma_W d 36 Q 59 l st H 0 0 = ma_W d 36 Q 63 l st H 0 0 := wp_goto 63 rfl (by decide)
theorem w36_62 : ma_W d 36 Q 62 l st H 0 0 = ma_W d 36 Q 63 l (.int 0 :: st) H 0 0 := wp_iconst rfl (by decide)
theorem w36_63 : ma_W d 36 Q 63 l [.int x] H 0 0 = ((x = 0 ∨ x = 1) ∧ Q (some (.int x)) H) := wp_zret rfl rfl
theorem e36 : ma_MW (d + 1) 36 [.ref i, .ref i0] H Q = ma_W d 36 Q 0 [some (.ref i), some (.ref i0)] [] H 0 0 := wp_enter (by decide) (Nat.le_of_ble_eq_true rfl) rfl
/-! 37 ta_row -/
theorem w37_0 : ma_W d 37 Q 0 (o0 :: some (.int x) :: l) st H 0 0 = ma_W d 37 Q 1 (o0 :: some (.int x) :: l) (.int x :: st) H 0 0 := wp_iload_n rfl rfl
theorem w37_1 : ma_W d 37 Q 1 l (.int x :: st) H 0 0 = ma_if (x = 0) d 37 Q 4 11 l st H 0 0 := wp_c0 (id := 37) (pc := 1) (c := .ne) (off := 10) 11 rfl (by decide)
theorem w37_4 : ma_W d 37 Q 4 (some (.ref i) :: l) st H 0 0 = ma_W d 37 Q 5 (some (.ref i) :: l) (.ref i :: st) H 0 0 := wp_aload_n (x := some i) rfl rfl
theorem w37_5 : ma_W d 37 Q 5 l (.ref i :: st) H 0 0 = ma_gf (H.1 i) 4 3 (ma_kV d 37 Q 8 l st H 0 0) := wp_get rfl (by decide +kernel)
theorem w37_8 : ma_W d 37 Q 8 l st H 0 0 = ma_W d 37 Q 27 l st H 0 0 := wp_goto 27 rfl (by decide)
theorem w37_11 : ma_W d 37 Q 11 (o0 :: some (.int x) :: l) st H 0 0 = ma_W d 37 Q 12 (o0 :: some (.int x) :: l) (.int x :: st) H 0 0 := wp_iload_n rfl rfl
theorem w37_12 : ma_W d 37 Q 12 l st H 0 0 = ma_W d 37 Q 13 l (.int 1 :: st) H 0 0 := wp_iconst rfl (by decide)
theorem w37_13 : ma_W d 37 Q 13 l (.int y :: .int x :: st) H 0 0 = ma_if (x = y) d 37 Q 16 23 l st H 0 0 := wp_ic (id := 37) (pc := 13) (c := .ne) (off := 10) 23 rfl (by decide)
theorem w37_16 : ma_W d 37 Q 16 (some (.ref i) :: l) st H 0 0 = ma_W d 37 Q 17 (some (.ref i) :: l) (.ref i :: st) H 0 0 := wp_aload_n (x := some i) rfl rfl
theorem w37_17 : ma_W d 37 Q 17 l (.ref i :: st) H 0 0 = ma_gf (H.1 i) 4 4 (ma_kV d 37 Q 20 l st H 0 0) := wp_get rfl (by decide +kernel)
theorem w37_20 : ma_W d 37 Q 20 l st H 0 0 = ma_W d 37 Q 27 l st H 0 0 := wp_goto 27 rfl (by decide)
theorem w37_23 : ma_W d 37 Q 23 (some (.ref i) :: l) st H 0 0 = ma_W d 37 Q 24 (some (.ref i) :: l) (.ref i :: st) H 0 0 := wp_aload_n (x := some i) rfl rfl
theorem w37_24 : ma_W d 37 Q 24 l (.ref i :: st) H 0 0 = ma_gf (H.1 i) 4 5 (ma_kV d 37 Q 27 l st H 0 0) := wp_get rfl (by decide +kernel)
theorem w37_27 : ma_W d 37 Q 27 l [.long u] H 0 0 = Q (some (.long u)) H := wp_lret rfl rfl
theorem e37 : ma_MW (d + 1) 37 [.ref i, .int x0] H Q = ma_W d 37 Q 0 [some (.ref i), some (.int x0)] [] H 0 0 := wp_enter (by decide) (Nat.le_of_ble_eq_true rfl) rfl
/-! 38 ta_setHand -/
theorem w38_0 : ma_W d 38 Q 0 (o0 :: some (.int x) :: l) st H 0 0 = ma_W d 38 Q 1 (o0 :: some (.int x) :: l) (.int x :: st) H 0 0 := wp_iload_n rfl rfl
theorem w38_1 : ma_W d 38 Q 1 l (.int x :: st) H 0 0 = ma_if (x = 0) d 38 Q 4 12 l st H 0 0 := wp_c0 (id := 38) (pc := 1) (c := .ne) (off := 11) 12 rfl (by decide)
theorem w38_4 : ma_W d 38 Q 4 (some (.ref i) :: l) st H 0 0 = ma_W d 38 Q 5 (some (.ref i) :: l) (.ref i :: st) H 0 0 := wp_aload_n (x := some i) rfl rfl
theorem w38_5 : ma_W d 38 Q 5 (o0 :: o1 :: some (.long u) :: l) st H 0 0 = ma_W d 38 Q 6 (o0 :: o1 :: some (.long u) :: l) (.long u :: st) H 0 0 := wp_lload_n rfl rfl
theorem w38_6 : ma_W d 38 Q 6 l (.long u :: .ref i :: st) H 0 0 = ma_pf (H.1 i) 4 3 (.long u) (ma_kH d 38 Q 9 l st H i 0 0) := wp_put rfl (by decide +kernel) (by decide +kernel) rfl rfl
theorem w38_9 : ma_W d 38 Q 9 l st H 0 0 = ma_W d 38 Q 17 l st H 0 0 := wp_goto 17 rfl (by decide)
theorem w38_12 : ma_W d 38 Q 12 (some (.ref i) :: l) st H 0 0 = ma_W d 38 Q 13 (some (.ref i) :: l) (.ref i :: st) H 0 0 := wp_aload_n (x := some i) rfl rfl
theorem w38_13 : ma_W d 38 Q 13 (o0 :: o1 :: some (.long u) :: l) st H 0 0 = ma_W d 38 Q 14 (o0 :: o1 :: some (.long u) :: l) (.long u :: st) H 0 0 := wp_lload_n rfl rfl
theorem w38_14 : ma_W d 38 Q 14 l (.long u :: .ref i :: st) H 0 0 = ma_pf (H.1 i) 4 4 (.long u) (ma_kH d 38 Q 17 l st H i 0 0) := wp_put rfl (by decide +kernel) (by decide +kernel) rfl rfl
theorem w38_17 : ma_W d 38 Q 17 l [] H 0 0 = Q none H := wp_vret rfl rfl
theorem e38 : ma_MW (d + 1) 38 [.ref i, .int x0, .long u1] H Q = ma_W d 38 Q 0 [some (.ref i), some (.int x0), some (.long u1), none] [] H 0 0 := wp_enter (by decide) (Nat.le_of_ble_eq_true rfl) rfl
/-! 39 ta_kindOf -/
theorem w39_0 : ma_W d 39 Q 0 (o0 :: some (.int x) :: l) st H 0 0 = ma_W d 39 Q 1 (o0 :: some (.int x) :: l) (.int x :: st) H 0 0 := wp_iload_n rfl rfl
theorem w39_1 : ma_W d 39 Q 1 l (.int x :: st) H 0 0 = ma_if (x = 0) d 39 Q 4 11 l st H 0 0 := wp_c0 (id := 39) (pc := 1) (c := .ne) (off := 10) 11 rfl (by decide)
theorem w39_4 : ma_W d 39 Q 4 (some (.ref i) :: l) st H 0 0 = ma_W d 39 Q 5 (some (.ref i) :: l) (.ref i :: st) H 0 0 := wp_aload_n (x := some i) rfl rfl
theorem w39_5 : ma_W d 39 Q 5 l (.ref i :: st) H 0 0 = ma_gf (H.1 i) 4 8 (ma_kV d 39 Q 8 l st H 0 0) := wp_get rfl (by decide +kernel)
theorem w39_8 : ma_W d 39 Q 8 l st H 0 0 = ma_W d 39 Q 15 l st H 0 0 := wp_goto 15 rfl (by decide)
theorem w39_11 : ma_W d 39 Q 11 (some (.ref i) :: l) st H 0 0 = ma_W d 39 Q 12 (some (.ref i) :: l) (.ref i :: st) H 0 0 := wp_aload_n (x := some i) rfl rfl
theorem w39_12 : ma_W d 39 Q 12 l (.ref i :: st) H 0 0 = ma_gf (H.1 i) 4 9 (ma_kV d 39 Q 15 l st H 0 0) := wp_get rfl (by decide +kernel)
theorem w39_15 : ma_W d 39 Q 15 l [.int x] H 0 0 = Q (some (.int x)) H := wp_iret rfl rfl
theorem e39 : ma_MW (d + 1) 39 [.ref i, .int x0] H Q = ma_W d 39 Q 0 [some (.ref i), some (.int x0)] [] H 0 0 := wp_enter (by decide) (Nat.le_of_ble_eq_true rfl) rfl
/-! 40 ta_setKind -/
theorem w40_0 : ma_W d 40 Q 0 (o0 :: some (.int x) :: l) st H 0 0 = ma_W d 40 Q 1 (o0 :: some (.int x) :: l) (.int x :: st) H 0 0 := wp_iload_n rfl rfl
theorem w40_1 : ma_W d 40 Q 1 l (.int x :: st) H 0 0 = ma_if (x = 0) d 40 Q 4 12 l st H 0 0 := wp_c0 (id := 40) (pc := 1) (c := .ne) (off := 11) 12 rfl (by decide)
theorem w40_4 : ma_W d 40 Q 4 (some (.ref i) :: l) st H 0 0 = ma_W d 40 Q 5 (some (.ref i) :: l) (.ref i :: st) H 0 0 := wp_aload_n (x := some i) rfl rfl
theorem w40_5 : ma_W d 40 Q 5 (o0 :: o1 :: some (.int x) :: l) st H 0 0 = ma_W d 40 Q 6 (o0 :: o1 :: some (.int x) :: l) (.int x :: st) H 0 0 := wp_iload_n rfl rfl
theorem w40_6 : ma_W d 40 Q 6 l (.int x :: .ref i :: st) H 0 0 = ma_pf (H.1 i) 4 8 (.int x) (ma_kH d 40 Q 9 l st H i 0 0) := wp_put rfl (by decide +kernel) (by decide +kernel) rfl rfl
theorem w40_9 : ma_W d 40 Q 9 l st H 0 0 = ma_W d 40 Q 17 l st H 0 0 := wp_goto 17 rfl (by decide)
theorem w40_12 : ma_W d 40 Q 12 (some (.ref i) :: l) st H 0 0 = ma_W d 40 Q 13 (some (.ref i) :: l) (.ref i :: st) H 0 0 := wp_aload_n (x := some i) rfl rfl
theorem w40_13 : ma_W d 40 Q 13 (o0 :: o1 :: some (.int x) :: l) st H 0 0 = ma_W d 40 Q 14 (o0 :: o1 :: some (.int x) :: l) (.int x :: st) H 0 0 := wp_iload_n rfl rfl
theorem w40_14 : ma_W d 40 Q 14 l (.int x :: .ref i :: st) H 0 0 = ma_pf (H.1 i) 4 9 (.int x) (ma_kH d 40 Q 17 l st H i 0 0) := wp_put rfl (by decide +kernel) (by decide +kernel) rfl rfl
theorem w40_17 : ma_W d 40 Q 17 l [] H 0 0 = Q none H := wp_vret rfl rfl
theorem e40 : ma_MW (d + 1) 40 [.ref i, .int x0, .int x1] H Q = ma_W d 40 Q 0 [some (.ref i), some (.int x0), some (.int x1)] [] H 0 0 := wp_enter (by decide) (Nat.le_of_ble_eq_true rfl) rfl
/-! 41 ta_cards -/
theorem w41_0 : ma_W d 41 Q 0 (some (.ref i) :: l) st H 0 0 = ma_W d 41 Q 1 (some (.ref i) :: l) (.ref i :: st) H 0 0 := wp_aload_n (x := some i) rfl rfl
theorem w41_1 : ma_W d 41 Q 1 l (.ref i :: st) H 0 0 = ma_gf (H.1 i) 4 3 (ma_kV d 41 Q 4 l st H 0 0) := wp_get rfl (by decide +kernel)
theorem w41_4 : ma_W d 41 Q 4 l (.long u0 :: st) H 0 0 = (ma_cat st ≤ 8 ∧ ma_MW d 202 [.long u0] H (ma_kC d 41 Q 7 l st 0 0)) := wc_S0 (ia := 202) (n := 1) (cn := 10) (k := 1) rfl (by decide +kernel) (by decide) (fun _ => rfl) rfl rfl
theorem w41_7 : ma_W d 41 Q 7 (some (.ref i) :: l) st H 0 0 = ma_W d 41 Q 8 (some (.ref i) :: l) (.ref i :: st) H 0 0 := wp_aload_n (x := some i) rfl rfl
theorem w41_8 : ma_W d 41 Q 8 l (.ref i :: st) H 0 0 = ma_gf (H.1 i) 4 4 (ma_kV d 41 Q 11 l st H 0 0) := wp_get rfl (by decide +kernel)
theorem w41_11 : ma_W d 41 Q 11 l (.long u0 :: st) H 0 0 = (ma_cat st ≤ 8 ∧ ma_MW d 202 [.long u0] H (ma_kC d 41 Q 14 l st 0 0)) := wc_S0 (ia := 202) (n := 1) (cn := 10) (k := 1) rfl (by decide +kernel) (by decide) (fun _ => rfl) rfl rfl
theorem w41_14 : ma_W d 41 Q 14 l (.int y :: .int x :: st) H 0 0 = ma_W d 41 Q 15 l (.int (x + y) :: st) H 0 0 := wp_iadd rfl
theorem w41_15 : ma_W d 41 Q 15 (some (.ref i) :: l) st H 0 0 = ma_W d 41 Q 16 (some (.ref i) :: l) (.ref i :: st) H 0 0 := wp_aload_n (x := some i) rfl rfl
theorem w41_16 : ma_W d 41 Q 16 l (.ref i :: st) H 0 0 = ma_gf (H.1 i) 4 5 (ma_kV d 41 Q 19 l st H 0 0) := wp_get rfl (by decide +kernel)
theorem w41_19 : ma_W d 41 Q 19 l (.long u0 :: st) H 0 0 = (ma_cat st ≤ 8 ∧ ma_MW d 202 [.long u0] H (ma_kC d 41 Q 22 l st 0 0)) := wc_S0 (ia := 202) (n := 1) (cn := 10) (k := 1) rfl (by decide +kernel) (by decide) (fun _ => rfl) rfl rfl
theorem w41_22 : ma_W d 41 Q 22 l (.int y :: .int x :: st) H 0 0 = ma_W d 41 Q 23 l (.int (x + y) :: st) H 0 0 := wp_iadd rfl
theorem w41_23 : ma_W d 41 Q 23 l [.int x] H 0 0 = Q (some (.int x)) H := wp_iret rfl rfl
theorem e41 : ma_MW (d + 1) 41 [.ref i] H Q = ma_W d 41 Q 0 [some (.ref i)] [] H 0 0 := wp_enter (by decide) (Nat.le_of_ble_eq_true rfl) rfl
/-! 42 ta_hasRoom -/
theorem w42_0 : ma_W d 42 Q 0 (some (.ref i) :: l) st H 0 0 = ma_W d 42 Q 1 (some (.ref i) :: l) (.ref i :: st) H 0 0 := wp_aload_n (x := some i) rfl rfl
theorem w42_1 : ma_W d 42 Q 1 l (.ref i :: st) H 0 0 = (ma_cat st ≤ 8 ∧ ma_cv (H.1 i) 4 d 41 [.ref i] H (ma_kC d 42 Q 4 l st 0 0)) := wc_V0 (ia := 41) (n := 1) (cn := 4) rfl (by decide +kernel) (fun _ => rfl) rfl rfl
theorem w42_4 : ma_W d 42 Q 4 l st H 0 0 = ma_W d 42 Q 6 l (.int 16 :: st) H 0 0 := wp_bipush rfl (by decide)
theorem w42_6 : ma_W d 42 Q 6 l (.int y :: .int x :: st) H 0 0 = ma_if (y ≤ x) d 42 Q 13 9 l st H 0 0 := wp_ic (id := 42) (pc := 6) (c := .ge) (off := 7) 13 rfl (by decide)
theorem w42_9 : ma_W d 42 Q 9 l st H 0 0 = ma_W d 42 Q 10 l (.int 1 :: st) H 0 0 := wp_iconst rfl (by decide)
theorem w42_10 : ma_W d 42 Q 10 l st H 0 0 = ma_W d 42 Q 14 l st H 0 0 := wp_goto 14 rfl (by decide)
theorem w42_13 : ma_W d 42 Q 13 l st H 0 0 = ma_W d 42 Q 14 l (.int 0 :: st) H 0 0 := wp_iconst rfl (by decide)
theorem w42_14 : ma_W d 42 Q 14 l [.int x] H 0 0 = ((x = 0 ∨ x = 1) ∧ Q (some (.int x)) H) := wp_zret rfl rfl
theorem e42 : ma_MW (d + 1) 42 [.ref i] H Q = ma_W d 42 Q 0 [some (.ref i)] [] H 0 0 := wp_enter (by decide) (Nat.le_of_ble_eq_true rfl) rfl
/-! 43 ta_hasPlace -/
theorem w43_0 : ma_W d 43 Q 0 (o0 :: o1 :: some (.int x) :: l) st H 0 0 = ma_W d 43 Q 1 (o0 :: o1 :: some (.int x) :: l) (.int x :: st) H 0 0 := wp_iload_n rfl rfl
theorem w43_1 : ma_W d 43 Q 1 l (.int x :: st) H 0 0 = ma_if (x < 0) d 43 Q 20 4 l st H 0 0 := wp_c0 (id := 43) (pc := 1) (c := .lt) (off := 19) 20 rfl (by decide)
theorem w43_4 : ma_W d 43 Q 4 (o0 :: o1 :: some (.int x) :: l) st H 0 0 = ma_W d 43 Q 5 (o0 :: o1 :: some (.int x) :: l) (.int x :: st) H 0 0 := wp_iload_n rfl rfl
theorem w43_5 : ma_W d 43 Q 5 (some (.ref i) :: l) st H 0 0 = ma_W d 43 Q 6 (some (.ref i) :: l) (.ref i :: st) H 0 0 := wp_aload_n (x := some i) rfl rfl
theorem w43_6 : ma_W d 43 Q 6 (o0 :: some (.int x) :: l) st H 0 0 = ma_W d 43 Q 7 (o0 :: some (.int x) :: l) (.int x :: st) H 0 0 := wp_iload_n rfl rfl
theorem w43_7 : ma_W d 43 Q 7 l (.int x0 :: .ref i :: st) H 0 0 = (ma_cat st ≤ 8 ∧ ma_cv (H.1 i) 4 d 37 [.ref i, .int x0] H (ma_kC d 43 Q 10 l st 0 0)) := wc_V0 (ia := 37) (n := 2) (cn := 4) rfl (by decide +kernel) (fun _ => rfl) rfl rfl
theorem w43_10 : ma_W d 43 Q 10 l (.long u0 :: st) H 0 0 = (ma_cat st ≤ 8 ∧ ma_MW d 202 [.long u0] H (ma_kC d 43 Q 13 l st 0 0)) := wc_S0 (ia := 202) (n := 1) (cn := 10) (k := 1) rfl (by decide +kernel) (by decide) (fun _ => rfl) rfl rfl
theorem w43_13 : ma_W d 43 Q 13 l (.int y :: .int x :: st) H 0 0 = ma_if (y ≤ x) d 43 Q 20 16 l st H 0 0 := wp_ic (id := 43) (pc := 13) (c := .ge) (off := 7) 20 rfl (by decide)
theorem w43_16 : ma_W d 43 Q 16 l st H 0 0 = ma_W d 43 Q 17 l (.int 1 :: st) H 0 0 := wp_iconst rfl (by decide)
theorem w43_17 : ma_W d 43 Q 17 l st H 0 0 = ma_W d 43 Q 21 l st H 0 0 := wp_goto 21 rfl (by decide)
theorem w43_20 : ma_W d 43 Q 20 l st H 0 0 = ma_W d 43 Q 21 l (.int 0 :: st) H 0 0 := wp_iconst rfl (by decide)
theorem w43_21 : ma_W d 43 Q 21 l [.int x] H 0 0 = ((x = 0 ∨ x = 1) ∧ Q (some (.int x)) H) := wp_zret rfl rfl
theorem e43 : ma_MW (d + 1) 43 [.ref i, .int x0, .int x1] H Q = ma_W d 43 Q 0 [some (.ref i), some (.int x0), some (.int x1)] [] H 0 0 := wp_enter (by decide) (Nat.le_of_ble_eq_true rfl) rfl
/-! 44 ta_number -/
theorem w44_0 : ma_W d 44 Q 0 (o0 :: some (.int x) :: l) st H 0 0 = ma_W d 44 Q 1 (o0 :: some (.int x) :: l) (.int x :: st) H 0 0 := wp_iload_n rfl rfl
theorem w44_1 : ma_W d 44 Q 1 l (.int x :: st) H 0 0 = ma_sw x 3 [44, 49, 54, 59, 64, 69, 74] 79 d 44 Q l st H 0 0 := wp_switch _ _ rfl (by decide) (by decide +kernel) (by decide)
theorem w44_44 : ma_W d 44 Q 44 (some (.ref i) :: l) st H 0 0 = ma_W d 44 Q 45 (some (.ref i) :: l) (.ref i :: st) H 0 0 := wp_aload_n (x := some i) rfl rfl
theorem w44_45 : ma_W d 44 Q 45 l (.ref i :: st) H 0 0 = ma_gf (H.1 i) 4 0 (ma_kV d 44 Q 48 l st H 0 0) := wp_get rfl (by decide +kernel)
theorem w44_48 : ma_W d 44 Q 48 l [.int x] H 0 0 = Q (some (.int x)) H := wp_iret rfl rfl
theorem w44_49 : ma_W d 44 Q 49 (some (.ref i) :: l) st H 0 0 = ma_W d 44 Q 50 (some (.ref i) :: l) (.ref i :: st) H 0 0 := wp_aload_n (x := some i) rfl rfl
theorem w44_50 : ma_W d 44 Q 50 l (.ref i :: st) H 0 0 = ma_gf (H.1 i) 4 1 (ma_kV d 44 Q 53 l st H 0 0) := wp_get rfl (by decide +kernel)
theorem w44_53 : ma_W d 44 Q 53 l [.int x] H 0 0 = Q (some (.int x)) H := wp_iret rfl rfl
theorem w44_54 : ma_W d 44 Q 54 (some (.ref i) :: l) st H 0 0 = ma_W d 44 Q 55 (some (.ref i) :: l) (.ref i :: st) H 0 0 := wp_aload_n (x := some i) rfl rfl
theorem w44_55 : ma_W d 44 Q 55 l (.ref i :: st) H 0 0 = ma_gf (H.1 i) 4 2 (ma_kV d 44 Q 58 l st H 0 0) := wp_get rfl (by decide +kernel)
theorem w44_58 : ma_W d 44 Q 58 l [.int x] H 0 0 = Q (some (.int x)) H := wp_iret rfl rfl
theorem w44_59 : ma_W d 44 Q 59 (some (.ref i) :: l) st H 0 0 = ma_W d 44 Q 60 (some (.ref i) :: l) (.ref i :: st) H 0 0 := wp_aload_n (x := some i) rfl rfl
theorem w44_60 : ma_W d 44 Q 60 l (.ref i :: st) H 0 0 = ma_gf (H.1 i) 4 6 (ma_kV d 44 Q 63 l st H 0 0) := wp_get rfl (by decide +kernel)
theorem w44_63 : ma_W d 44 Q 63 l [.int x] H 0 0 = Q (some (.int x)) H := wp_iret rfl rfl
theorem w44_64 : ma_W d 44 Q 64 (some (.ref i) :: l) st H 0 0 = ma_W d 44 Q 65 (some (.ref i) :: l) (.ref i :: st) H 0 0 := wp_aload_n (x := some i) rfl rfl
theorem w44_65 : ma_W d 44 Q 65 l (.ref i :: st) H 0 0 = ma_gf (H.1 i) 4 7 (ma_kV d 44 Q 68 l st H 0 0) := wp_get rfl (by decide +kernel)
theorem w44_68 : ma_W d 44 Q 68 l [.int x] H 0 0 = Q (some (.int x)) H := wp_iret rfl rfl
theorem w44_69 : ma_W d 44 Q 69 (some (.ref i) :: l) st H 0 0 = ma_W d 44 Q 70 (some (.ref i) :: l) (.ref i :: st) H 0 0 := wp_aload_n (x := some i) rfl rfl
theorem w44_70 : ma_W d 44 Q 70 l (.ref i :: st) H 0 0 = ma_gf (H.1 i) 4 8 (ma_kV d 44 Q 73 l st H 0 0) := wp_get rfl (by decide +kernel)
theorem w44_73 : ma_W d 44 Q 73 l [.int x] H 0 0 = Q (some (.int x)) H := wp_iret rfl rfl
theorem w44_74 : ma_W d 44 Q 74 (some (.ref i) :: l) st H 0 0 = ma_W d 44 Q 75 (some (.ref i) :: l) (.ref i :: st) H 0 0 := wp_aload_n (x := some i) rfl rfl
theorem w44_75 : ma_W d 44 Q 75 l (.ref i :: st) H 0 0 = ma_gf (H.1 i) 4 9 (ma_kV d 44 Q 78 l st H 0 0) := wp_get rfl (by decide +kernel)
theorem w44_78 : ma_W d 44 Q 78 l [.int x] H 0 0 = Q (some (.int x)) H := wp_iret rfl rfl
theorem w44_79 : ma_W d 44 Q 79 (some (.ref i) :: l) st H 0 0 = ma_W d 44 Q 80 (some (.ref i) :: l) (.ref i :: st) H 0 0 := wp_aload_n (x := some i) rfl rfl
theorem w44_80 : ma_W d 44 Q 80 (o0 :: some (.int x) :: l) st H 0 0 = ma_W d 44 Q 81 (o0 :: some (.int x) :: l) (.int x :: st) H 0 0 := wp_iload_n rfl rfl
theorem w44_81 : ma_W d 44 Q 81 l (.int x0 :: .ref i :: st) H 0 0 = (ma_cat st ≤ 8 ∧ ma_cv (H.1 i) 4 d 37 [.ref i, .int x0] H (ma_kC d 44 Q 84 l st 0 0)) := wc_V0 (ia := 37) (n := 2) (cn := 4) rfl (by decide +kernel) (fun _ => rfl) rfl rfl
theorem w44_84 : ma_W d 44 Q 84 l (.long u0 :: st) H 0 0 = (ma_cat st ≤ 8 ∧ ma_MW d 202 [.long u0] H (ma_kC d 44 Q 87 l st 0 0)) := wc_S0 (ia := 202) (n := 1) (cn := 10) (k := 1) rfl (by decide +kernel) (by decide) (fun _ => rfl) rfl rfl
theorem w44_87 : ma_W d 44 Q 87 l [.int x] H 0 0 = Q (some (.int x)) H := wp_iret rfl rfl
theorem e44 : ma_MW (d + 1) 44 [.ref i, .int x0] H Q = ma_W d 44 Q 0 [some (.ref i), some (.int x0)] [] H 0 0 := wp_enter (by decide) (Nat.le_of_ble_eq_true rfl) rfl
/-! 45 ta_deal -/
theorem w45_0 : ma_W d 45 Q 0 (some (.ref i) :: l) st H 0 0 = ma_W d 45 Q 1 (some (.ref i) :: l) (.ref i :: st) H 0 0 := wp_aload_n (x := some i) rfl rfl
theorem w45_1 : ma_W d 45 Q 1 l (.ref i :: st) H 0 0 = (ma_cat st ≤ 8 ∧ ma_cv (H.1 i) 4 d 42 [.ref i] H (ma_kC d 45 Q 4 l st 0 0)) := wc_V0 (ia := 42) (n := 1) (cn := 4) rfl (by decide +kernel) (fun _ => rfl) rfl rfl
theorem w45_4 : ma_W d 45 Q 4 l (.int x :: st) H 0 0 = ma_if (x = 0) d 45 Q 21 7 l st H 0 0 := wp_c0 (id := 45) (pc := 4) (c := .eq) (off := 17) 21 rfl (by decide)
theorem w45_7 : ma_W d 45 Q 7 (some (.ref i) :: l) st H 0 0 = ma_W d 45 Q 8 (some (.ref i) :: l) (.ref i :: st) H 0 0 := wp_aload_n (x := some i) rfl rfl
theorem w45_8 : ma_W d 45 Q 8 (o0 :: some (.int x) :: l) st H 0 0 = ma_W d 45 Q 9 (o0 :: some (.int x) :: l) (.int x :: st) H 0 0 := wp_iload_n rfl rfl
theorem w45_9 : ma_W d 45 Q 9 (some (.ref i) :: l) st H 0 0 = ma_W d 45 Q 10 (some (.ref i) :: l) (.ref i :: st) H 0 0 := wp_aload_n (x := some i) rfl rfl
theorem w45_10 : ma_W d 45 Q 10 (o0 :: some (.int x) :: l) st H 0 0 = ma_W d 45 Q 11 (o0 :: some (.int x) :: l) (.int x :: st) H 0 0 := wp_iload_n rfl rfl
theorem w45_11 : ma_W d 45 Q 11 l (.int x0 :: .ref i :: st) H 0 0 = (ma_cat st ≤ 8 ∧ ma_cv (H.1 i) 4 d 37 [.ref i, .int x0] H (ma_kC d 45 Q 14 l st 0 0)) := wc_V0 (ia := 37) (n := 2) (cn := 4) rfl (by decide +kernel) (fun _ => rfl) rfl rfl
theorem w45_14 : ma_W d 45 Q 14 (o0 :: o1 :: some (.int x) :: l) st H 0 0 = ma_W d 45 Q 15 (o0 :: o1 :: some (.int x) :: l) (.int x :: st) H 0 0 := wp_iload_n rfl rfl
theorem w45_15 : ma_W d 45 Q 15 l (.int x1 :: .long u0 :: st) H 0 0 = (ma_cat st ≤ 8 ∧ ma_MW d 204 [.long u0, .int x1] H (ma_kC d 45 Q 18 l st 0 0)) := wc_S0 (ia := 204) (n := 2) (cn := 10) (k := 1) rfl (by decide +kernel) (by decide) (fun _ => rfl) rfl rfl
theorem w45_18 : ma_W d 45 Q 18 l (.long u1 :: .int x0 :: .ref i :: st) H 0 0 = (ma_cat st ≤ 8 ∧ ma_cv (H.1 i) 4 d 38 [.ref i, .int x0, .long u1] H (ma_kC d 45 Q 21 l st 0 0)) := wc_V0 (ia := 38) (n := 3) (cn := 4) rfl (by decide +kernel) (fun _ => rfl) rfl rfl
theorem w45_21 : ma_W d 45 Q 21 l [] H 0 0 = Q none H := wp_vret rfl rfl
theorem e45 : ma_MW (d + 1) 45 [.ref i, .int x0, .int x1] H Q = ma_W d 45 Q 0 [some (.ref i), some (.int x0), some (.int x1)] [] H 0 0 := wp_enter (by decide) (Nat.le_of_ble_eq_true rfl) rfl
/-! 46 ta_swapPlaces -/
theorem w46_0 : ma_W d 46 Q 0 (some (.ref i) :: l) st H 0 0 = ma_W d 46 Q 1 (some (.ref i) :: l) (.ref i :: st) H 0 0 := wp_aload_n (x := some i) rfl rfl
theorem w46_1 : ma_W d 46 Q 1 l (.ref i :: st) H 0 0 = ma_gf (H.1 i) 4 3 (ma_kV d 46 Q 4 l st H 0 0) := wp_get rfl (by decide +kernel)
theorem w46_4 : ma_W d 46 Q 4 (o0 :: some (.int x) :: l) st H 0 0 = ma_W d 46 Q 5 (o0 :: some (.int x) :: l) (.int x :: st) H 0 0 := wp_iload_n rfl rfl
theorem w46_5 : ma_W d 46 Q 5 l (.int x1 :: .long u0 :: st) H 0 0 = (ma_cat st ≤ 8 ∧ ma_MW d 203 [.long u0, .int x1] H (ma_kC d 46 Q 8 l st 0 0)) := wc_S0 (ia := 203) (n := 2) (cn := 10) (k := 1) rfl (by decide +kernel) (by decide) (fun _ => rfl) rfl rfl
theorem w46_8 : ma_W d 46 Q 8 (o0 :: o1 :: o2 :: p :: l) (.int x :: st) H 0 0 = ma_W d 46 Q 9 (o0 :: o1 :: ma_clr o2 :: some (.int x) :: l) st H 0 0 := wp_istore_n (id := 46) (pc := 8) (k := 3) rfl (Nat.succ_lt_succ (Nat.succ_lt_succ (Nat.succ_lt_succ (Nat.zero_lt_succ _))))
theorem w46_9 : ma_W d 46 Q 9 (some (.ref i) :: l) st H 0 0 = ma_W d 46 Q 10 (some (.ref i) :: l) (.ref i :: st) H 0 0 := wp_aload_n (x := some i) rfl rfl
theorem w46_10 : ma_W d 46 Q 10 l (.ref i :: st) H 0 0 = ma_gf (H.1 i) 4 4 (ma_kV d 46 Q 13 l st H 0 0) := wp_get rfl (by decide +kernel)
theorem w46_13 : ma_W d 46 Q 13 (o0 :: o1 :: some (.int x) :: l) st H 0 0 = ma_W d 46 Q 14 (o0 :: o1 :: some (.int x) :: l) (.int x :: st) H 0 0 := wp_iload_n rfl rfl
theorem w46_14 : ma_W d 46 Q 14 l (.int x1 :: .long u0 :: st) H 0 0 = (ma_cat st ≤ 8 ∧ ma_MW d 203 [.long u0, .int x1] H (ma_kC d 46 Q 17 l st 0 0)) := wc_S0 (ia := 203) (n := 2) (cn := 10) (k := 1) rfl (by decide +kernel) (by decide) (fun _ => rfl) rfl rfl
theorem w46_17 : ma_W d 46 Q 17 (o0 :: o1 :: o2 :: o3 :: p :: l) (.int x :: st) H 0 0 = ma_W d 46 Q 19 (o0 :: o1 :: o2 :: ma_clr o3 :: some (.int x) :: l) st H 0 0 := wp_istore (id := 46) (pc := 17) (k := 4) rfl (Nat.succ_lt_succ (Nat.succ_lt_succ (Nat.succ_lt_succ (Nat.succ_lt_succ (Nat.zero_lt_succ _)))))
theorem w46_19 : ma_W d 46 Q 19 (some (.ref i) :: l) st H 0 0 = ma_W d 46 Q 20 (some (.ref i) :: l) (.ref i :: st) H 0 0 := wp_aload_n (x := some i) rfl rfl
theorem w46_20 : ma_W d 46 Q 20 (some (.ref i) :: l) st H 0 0 = ma_W d 46 Q 21 (some (.ref i) :: l) (.ref i :: st) H 0 0 := wp_aload_n (x := some i) rfl rfl
theorem w46_21 : ma_W d 46 Q 21 l (.ref i :: st) H 0 0 = ma_gf (H.1 i) 4 3 (ma_kV d 46 Q 24 l st H 0 0) := wp_get rfl (by decide +kernel)
theorem w46_24 : ma_W d 46 Q 24 (o0 :: some (.int x) :: l) st H 0 0 = ma_W d 46 Q 25 (o0 :: some (.int x) :: l) (.int x :: st) H 0 0 := wp_iload_n rfl rfl
theorem w46_25 : ma_W d 46 Q 25 (o0 :: o1 :: o2 :: o3 :: some (.int x) :: l) st H 0 0 = ma_W d 46 Q 27 (o0 :: o1 :: o2 :: o3 :: some (.int x) :: l) (.int x :: st) H 0 0 := wp_iload rfl rfl
theorem w46_27 : ma_W d 46 Q 27 l (.int x2 :: .int x1 :: .long u0 :: st) H 0 0 = (ma_cat st ≤ 8 ∧ ma_MW d 206 [.long u0, .int x1, .int x2] H (ma_kC d 46 Q 30 l st 0 0)) := wc_S0 (ia := 206) (n := 3) (cn := 10) (k := 1) rfl (by decide +kernel) (by decide) (fun _ => rfl) rfl rfl
theorem w46_30 : ma_W d 46 Q 30 l (.long u :: .ref i :: st) H 0 0 = ma_pf (H.1 i) 4 3 (.long u) (ma_kH d 46 Q 33 l st H i 0 0) := wp_put rfl (by decide +kernel) (by decide +kernel) rfl rfl
theorem w46_33 : ma_W d 46 Q 33 (some (.ref i) :: l) st H 0 0 = ma_W d 46 Q 34 (some (.ref i) :: l) (.ref i :: st) H 0 0 := wp_aload_n (x := some i) rfl rfl
theorem w46_34 : ma_W d 46 Q 34 (some (.ref i) :: l) st H 0 0 = ma_W d 46 Q 35 (some (.ref i) :: l) (.ref i :: st) H 0 0 := wp_aload_n (x := some i) rfl rfl
theorem w46_35 : ma_W d 46 Q 35 l (.ref i :: st) H 0 0 = ma_gf (H.1 i) 4 4 (ma_kV d 46 Q 38 l st H 0 0) := wp_get rfl (by decide +kernel)
theorem w46_38 : ma_W d 46 Q 38 (o0 :: o1 :: some (.int x) :: l) st H 0 0 = ma_W d 46 Q 39 (o0 :: o1 :: some (.int x) :: l) (.int x :: st) H 0 0 := wp_iload_n rfl rfl
theorem w46_39 : ma_W d 46 Q 39 (o0 :: o1 :: o2 :: some (.int x) :: l) st H 0 0 = ma_W d 46 Q 40 (o0 :: o1 :: o2 :: some (.int x) :: l) (.int x :: st) H 0 0 := wp_iload_n rfl rfl
theorem w46_40 : ma_W d 46 Q 40 l (.int x2 :: .int x1 :: .long u0 :: st) H 0 0 = (ma_cat st ≤ 8 ∧ ma_MW d 206 [.long u0, .int x1, .int x2] H (ma_kC d 46 Q 43 l st 0 0)) := wc_S0 (ia := 206) (n := 3) (cn := 10) (k := 1) rfl (by decide +kernel) (by decide) (fun _ => rfl) rfl rfl
theorem w46_43 : ma_W d 46 Q 43 l (.long u :: .ref i :: st) H 0 0 = ma_pf (H.1 i) 4 4 (.long u) (ma_kH d 46 Q 46 l st H i 0 0) := wp_put rfl (by decide +kernel) (by decide +kernel) rfl rfl
theorem w46_46 : ma_W d 46 Q 46 l [] H 0 0 = Q none H := wp_vret rfl rfl
theorem e46 : ma_MW (d + 1) 46 [.ref i, .int x0, .int x1] H Q = ma_W d 46 Q 0 [some (.ref i), some (.int x0), some (.int x1), none, none] [] H 0 0 := wp_enter (by decide) (Nat.le_of_ble_eq_true rfl) rfl
/-! 47 ta_isDone -/
theorem w47_0 : ma_W d 47 Q 0 (some (.ref i) :: l) st H 0 0 = ma_W d 47 Q 1 (some (.ref i) :: l) (.ref i :: st) H 0 0 := wp_aload_n (x := some i) rfl rfl
theorem w47_1 : ma_W d 47 Q 1 (some (.ref i) :: l) st H 0 0 = ma_W d 47 Q 2 (some (.ref i) :: l) (.ref i :: st) H 0 0 := wp_aload_n (x := some i) rfl rfl
theorem w47_2 : ma_W d 47 Q 2 l (.ref i :: st) H 0 0 = ma_gf (H.1 i) 4 0 (ma_kV d 47 Q 5 l st H 0 0) := wp_get rfl (by decide +kernel)
theorem w47_5 : ma_W d 47 Q 5 l (.int x0 :: .ref i :: st) H 0 0 = (ma_cat st ≤ 8 ∧ ma_cv (H.1 i) 4 d 37 [.ref i, .int x0] H (ma_kC d 47 Q 8 l st 0 0)) := wc_V0 (ia := 37) (n := 2) (cn := 4) rfl (by decide +kernel) (fun _ => rfl) rfl rfl
theorem w47_8 : ma_W d 47 Q 8 l st H 0 0 = ma_W d 47 Q 9 l (.long 0 :: st) H 0 0 := wp_lconst rfl (by decide)
theorem w47_9 : ma_W d 47 Q 9 l (.long v :: .long u :: st) H 0 0 = ma_W d 47 Q 10 l (.int (lg_cmp u v) :: st) H 0 0 := wp_lcmp rfl
theorem w47_10 : ma_W d 47 Q 10 l (.int x :: st) H 0 0 = ma_if (x = 0) d 47 Q 13 17 l st H 0 0 := wp_c0 (id := 47) (pc := 10) (c := .ne) (off := 7) 17 rfl (by decide)
theorem w47_13 : ma_W d 47 Q 13 l st H 0 0 = ma_W d 47 Q 14 l (.int 1 :: st) H 0 0 := wp_iconst rfl (by decide)
theorem w47_14 : ma_W d 47 Q 14 l st H 0 0 = ma_W d 47 Q 18 l st H 0 0 := wp_goto 18 rfl (by decide)
theorem w47_17 : ma_W d 47 Q 17 l st H 0 0 = ma_W d 47 Q 18 l (.int 0 :: st) H 0 0 := wp_iconst rfl (by decide)
theorem w47_18 : ma_W d 47 Q 18 l [.int x] H 0 0 = ((x = 0 ∨ x = 1) ∧ Q (some (.int x)) H) := wp_zret rfl rfl
theorem e47 : ma_MW (d + 1) 47 [.ref i] H Q = ma_W d 47 Q 0 [some (.ref i)] [] H 0 0 := wp_enter (by decide) (Nat.le_of_ble_eq_true rfl) rfl
/-! 48 ta_other -/
theorem w48_0 : ma_W d 48 Q 0 l st H 0 0 = ma_W d 48 Q 1 l (.int 1 :: st) H 0 0 := wp_iconst rfl (by decide)
theorem w48_1 : ma_W d 48 Q 1 (some (.ref i) :: l) st H 0 0 = ma_W d 48 Q 2 (some (.ref i) :: l) (.ref i :: st) H 0 0 := wp_aload_n (x := some i) rfl rfl
theorem w48_2 : ma_W d 48 Q 2 l (.ref i :: st) H 0 0 = ma_gf (H.1 i) 4 0 (ma_kV d 48 Q 5 l st H 0 0) := wp_get rfl (by decide +kernel)
theorem w48_5 : ma_W d 48 Q 5 l (.int y :: .int x :: st) H 0 0 = ma_W d 48 Q 6 l (.int (x - y) :: st) H 0 0 := wp_isub rfl
theorem w48_6 : ma_W d 48 Q 6 l [.int x] H 0 0 = Q (some (.int x)) H := wp_iret rfl rfl
theorem e48 : ma_MW (d + 1) 48 [.ref i] H Q = ma_W d 48 Q 0 [some (.ref i)] [] H 0 0 := wp_enter (by decide) (Nat.le_of_ble_eq_true rfl) rfl
/-! 49 ta_mayMove -/
theorem w49_0 : ma_W d 49 Q 0 (some (.ref i) :: l) st H 0 0 = ma_W d 49 Q 1 (some (.ref i) :: l) (.ref i :: st) H 0 0 := wp_aload_n (x := some i) rfl rfl
theorem w49_1 : ma_W d 49 Q 1 l (.ref i :: st) H 0 0 = (ma_cat st ≤ 8 ∧ ma_cv (H.1 i) 4 d 47 [.ref i] H (ma_kC d 49 Q 4 l st 0 0)) := wc_V0 (ia := 47) (n := 1) (cn := 4) rfl (by decide +kernel) (fun _ => rfl) rfl rfl
theorem w49_4 : ma_W d 49 Q 4 l (.int x :: st) H 0 0 = ma_if (x = 0) d 49 Q 7 21 l st H 0 0 := wp_c0 (id := 49) (pc := 4) (c := .ne) (off := 17) 21 rfl (by decide)
theorem w49_7 : ma_W d 49 Q 7 (some (.ref i) :: l) st H 0 0 = ma_W d 49 Q 8 (some (.ref i) :: l) (.ref i :: st) H 0 0 := wp_aload_n (x := some i) rfl rfl
theorem w49_8 : ma_W d 49 Q 8 l (.ref i :: st) H 0 0 = ma_gf (H.1 i) 4 2 (ma_kV d 49 Q 11 l st H 0 0) := wp_get rfl (by decide +kernel)
theorem w49_11 : ma_W d 49 Q 11 l st H 0 0 = ma_W d 49 Q 14 l (.int 9999 :: st) H 0 0 := wp_sipush rfl (by decide)
theorem w49_14 : ma_W d 49 Q 14 l (.int y :: .int x :: st) H 0 0 = ma_if (y ≤ x) d 49 Q 21 17 l st H 0 0 := wp_ic (id := 49) (pc := 14) (c := .ge) (off := 7) 21 rfl (by decide)
theorem w49_17 : ma_W d 49 Q 17 l st H 0 0 = ma_W d 49 Q 18 l (.int 1 :: st) H 0 0 := wp_iconst rfl (by decide)
theorem w49_18 : ma_W d 49 Q 18 l st H 0 0 = ma_W d 49 Q 22 l st H 0 0 := wp_goto 22 rfl (by decide)
theorem w49_21 : ma_W d 49 Q 21 l st H 0 0 = ma_W d 49 Q 22 l (.int 0 :: st) H 0 0 := wp_iconst rfl (by decide)
theorem w49_22 : ma_W d 49 Q 22 l [.int x] H 0 0 = ((x = 0 ∨ x = 1) ∧ Q (some (.int x)) H) := wp_zret rfl rfl
theorem e49 : ma_MW (d + 1) 49 [.ref i] H Q = ma_W d 49 Q 0 [some (.ref i)] [] H 0 0 := wp_enter (by decide) (Nat.le_of_ble_eq_true rfl) rfl
/-! 50 ta_moveUpTo -/
theorem w50_0 : ma_W d 50 Q 0 l st H 0 0 = ma_W d 50 Q 1 l (.int 0 :: st) H 0 0 := wp_iconst rfl (by decide)
theorem w50_1 : ma_W d 50 Q 1 (o0 :: o1 :: p :: l) (.int x :: st) H 0 0 = ma_W d 50 Q 2 (o0 :: ma_clr o1 :: some (.int x) :: l) st H 0 0 := wp_istore_n (id := 50) (pc := 1) (k := 2) rfl (Nat.succ_lt_succ (Nat.succ_lt_succ (Nat.zero_lt_succ _)))
theorem w50_2 : ma_W d 50 Q 2 (o0 :: o1 :: some (.int x) :: l) st H 0 0 = ma_W d 50 Q 3 (o0 :: o1 :: some (.int x) :: l) (.int x :: st) H 0 0 := wp_iload_n rfl rfl
theorem w50_3 : ma_W d 50 Q 3 (o0 :: some (.int x) :: l) st H 0 0 = ma_W d 50 Q 4 (o0 :: some (.int x) :: l) (.int x :: st) H 0 0 := wp_iload_n rfl rfl
theorem w50_4 : ma_W d 50 Q 4 l (.int y :: .int x :: st) H 0 0 = ma_if (y ≤ x) d 50 Q 24 7 l st H 0 0 := wp_ic (id := 50) (pc := 4) (c := .ge) (off := 20) 24 rfl (by decide)
theorem w50_7 : ma_W d 50 Q 7 (some (.ref i) :: l) st H 0 0 = ma_W d 50 Q 8 (some (.ref i) :: l) (.ref i :: st) H 0 0 := wp_aload_n (x := some i) rfl rfl
theorem w50_8 : ma_W d 50 Q 8 l (.ref i :: st) H 0 0 = (ma_cat st ≤ 8 ∧ ma_cv (H.1 i) 4 d 49 [.ref i] H (ma_kC d 50 Q 11 l st 0 0)) := wc_V0 (ia := 49) (n := 1) (cn := 4) rfl (by decide +kernel) (fun _ => rfl) rfl rfl
theorem w50_11 : ma_W d 50 Q 11 l (.int x :: st) H 0 0 = ma_if (x = 0) d 50 Q 24 14 l st H 0 0 := wp_c0 (id := 50) (pc := 11) (c := .eq) (off := 13) 24 rfl (by decide)
theorem w50_14 : ma_W d 50 Q 14 (some (.ref i) :: l) st H 0 0 = ma_W d 50 Q 15 (some (.ref i) :: l) (.ref i :: st) H 0 0 := wp_aload_n (x := some i) rfl rfl
theorem w50_15 : ma_W d 50 Q 15 l (.ref i :: st) H 0 0 = (ma_cat st ≤ 8 ∧ ma_cv (H.1 i) 4 d 51 [.ref i] H (ma_kC d 50 Q 18 l st 0 0)) := wc_V0 (ia := 51) (n := 1) (cn := 4) rfl (by decide +kernel) (fun _ => rfl) rfl rfl
theorem w50_18 : ma_W d 50 Q 18 (o0 :: o1 :: some (.int x) :: l) st H 0 0 = ma_W d 50 Q 21 (o0 :: ma_clr o1 :: some (.int (x + 1)) :: l) st H 0 0 := wp_iinc (id := 50) (pc := 18) (k := 2) (n := 1) rfl (Nat.succ_lt_succ (Nat.succ_lt_succ (Nat.zero_lt_succ _))) rfl (by decide)
theorem w50_21 : ma_W d 50 Q 21 l st H 0 0 = ma_W d 50 Q 2 l st H 0 0 := wp_goto 2 rfl (by decide)
theorem w50_24 : ma_W d 50 Q 24 (o0 :: o1 :: some (.int x) :: l) st H 0 0 = ma_W d 50 Q 25 (o0 :: o1 :: some (.int x) :: l) (.int x :: st) H 0 0 := wp_iload_n rfl rfl
theorem w50_25 : ma_W d 50 Q 25 l [.int x] H 0 0 = Q (some (.int x)) H := wp_iret rfl rfl
theorem e50 : ma_MW (d + 1) 50 [.ref i, .int x0] H Q = ma_W d 50 Q 0 [some (.ref i), some (.int x0), none] [] H 0 0 := wp_enter (by decide) (Nat.le_of_ble_eq_true rfl) rfl
/-! 51 ta_move -/
theorem w51_0 : ma_W d 51 Q 0 (some (.ref i) :: l) st H 0 0 = ma_W d 51 Q 1 (some (.ref i) :: l) (.ref i :: st) H 0 0 := wp_aload_n (x := some i) rfl rfl
theorem w51_1 : ma_W d 51 Q 1 (some (.ref i) :: l) st H 0 0 = ma_W d 51 Q 2 (some (.ref i) :: l) (.ref i :: st) H 0 0 := wp_aload_n (x := some i) rfl rfl
theorem w51_2 : ma_W d 51 Q 2 l (.ref i :: st) H 0 0 = ma_gf (H.1 i) 4 0 (ma_kV d 51 Q 5 l st H 0 0) := wp_get rfl (by decide +kernel)
theorem w51_5 : ma_W d 51 Q 5 l (.int x0 :: .ref i :: st) H 0 0 = (ma_cat st ≤ 8 ∧ ma_cv (H.1 i) 4 d 37 [.ref i, .int x0] H (ma_kC d 51 Q 8 l st 0 0)) := wc_V0 (ia := 37) (n := 2) (cn := 4) rfl (by decide +kernel) (fun _ => rfl) rfl rfl
theorem w51_8 : ma_W d 51 Q 8 (o0 :: p :: q :: l) (.long u :: st) H 0 0 = ma_W d 51 Q 9 (ma_clr o0 :: some (.long u) :: none :: l) st H 0 0 := wp_lstore_n (id := 51) (pc := 8) (k := 1) rfl (Nat.succ_lt_succ (Nat.succ_lt_succ (Nat.zero_lt_succ _)))
theorem w51_9 : ma_W d 51 Q 9 (o0 :: some (.long u) :: l) st H 0 0 = ma_W d 51 Q 10 (o0 :: some (.long u) :: l) (.long u :: st) H 0 0 := wp_lload_n rfl rfl
theorem w51_10 : ma_W d 51 Q 10 l st H 0 0 = ma_W d 51 Q 11 l (.int 0 :: st) H 0 0 := wp_iconst rfl (by decide)
theorem w51_11 : ma_W d 51 Q 11 l (.int x1 :: .long u0 :: st) H 0 0 = (ma_cat st ≤ 8 ∧ ma_MW d 203 [.long u0, .int x1] H (ma_kC d 51 Q 14 l st 0 0)) := wc_S0 (ia := 203) (n := 2) (cn := 10) (k := 1) rfl (by decide +kernel) (by decide) (fun _ => rfl) rfl rfl
theorem w51_14 : ma_W d 51 Q 14 (o0 :: o1 :: o2 :: p :: l) (.int x :: st) H 0 0 = ma_W d 51 Q 15 (o0 :: o1 :: ma_clr o2 :: some (.int x) :: l) st H 0 0 := wp_istore_n (id := 51) (pc := 14) (k := 3) rfl (Nat.succ_lt_succ (Nat.succ_lt_succ (Nat.succ_lt_succ (Nat.zero_lt_succ _))))
theorem w51_15 : ma_W d 51 Q 15 (some (.ref i) :: l) st H 0 0 = ma_W d 51 Q 16 (some (.ref i) :: l) (.ref i :: st) H 0 0 := wp_aload_n (x := some i) rfl rfl
theorem w51_16 : ma_W d 51 Q 16 (some (.ref i) :: l) st H 0 0 = ma_W d 51 Q 17 (some (.ref i) :: l) (.ref i :: st) H 0 0 := wp_aload_n (x := some i) rfl rfl
theorem w51_17 : ma_W d 51 Q 17 l (.ref i :: st) H 0 0 = ma_gf (H.1 i) 4 0 (ma_kV d 51 Q 20 l st H 0 0) := wp_get rfl (by decide +kernel)
theorem w51_20 : ma_W d 51 Q 20 (o0 :: some (.long u) :: l) st H 0 0 = ma_W d 51 Q 21 (o0 :: some (.long u) :: l) (.long u :: st) H 0 0 := wp_lload_n rfl rfl
theorem w51_21 : ma_W d 51 Q 21 l (.long u0 :: st) H 0 0 = (ma_cat st ≤ 8 ∧ ma_MW d 205 [.long u0] H (ma_kC d 51 Q 24 l st 0 0)) := wc_S0 (ia := 205) (n := 1) (cn := 10) (k := 1) rfl (by decide +kernel) (by decide) (fun _ => rfl) rfl rfl
theorem w51_24 : ma_W d 51 Q 24 l (.long u1 :: .int x0 :: .ref i :: st) H 0 0 = (ma_cat st ≤ 8 ∧ ma_cv (H.1 i) 4 d 38 [.ref i, .int x0, .long u1] H (ma_kC d 51 Q 27 l st 0 0)) := wc_V0 (ia := 38) (n := 3) (cn := 4) rfl (by decide +kernel) (fun _ => rfl) rfl rfl
theorem w51_27 : ma_W d 51 Q 27 (some (.ref i) :: l) st H 0 0 = ma_W d 51 Q 28 (some (.ref i) :: l) (.ref i :: st) H 0 0 := wp_aload_n (x := some i) rfl rfl
theorem w51_28 : ma_W d 51 Q 28 (some (.ref i) :: l) st H 0 0 = ma_W d 51 Q 29 (some (.ref i) :: l) (.ref i :: st) H 0 0 := wp_aload_n (x := some i) rfl rfl
theorem w51_29 : ma_W d 51 Q 29 l (.ref i :: st) H 0 0 = ma_gf (H.1 i) 4 5 (ma_kV d 51 Q 32 l st H 0 0) := wp_get rfl (by decide +kernel)
theorem w51_32 : ma_W d 51 Q 32 (o0 :: o1 :: o2 :: some (.int x) :: l) st H 0 0 = ma_W d 51 Q 33 (o0 :: o1 :: o2 :: some (.int x) :: l) (.int x :: st) H 0 0 := wp_iload_n rfl rfl
theorem w51_33 : ma_W d 51 Q 33 l (.int x1 :: .long u0 :: st) H 0 0 = (ma_cat st ≤ 8 ∧ ma_MW d 204 [.long u0, .int x1] H (ma_kC d 51 Q 36 l st 0 0)) := wc_S0 (ia := 204) (n := 2) (cn := 10) (k := 1) rfl (by decide +kernel) (by decide) (fun _ => rfl) rfl rfl
theorem w51_36 : ma_W d 51 Q 36 l (.long u :: .ref i :: st) H 0 0 = ma_pf (H.1 i) 4 5 (.long u) (ma_kH d 51 Q 39 l st H i 0 0) := wp_put rfl (by decide +kernel) (by decide +kernel) rfl rfl
theorem w51_39 : ma_W d 51 Q 39 (some (.ref i) :: l) st H 0 0 = ma_W d 51 Q 40 (some (.ref i) :: l) (.ref i :: st) H 0 0 := wp_aload_n (x := some i) rfl rfl
theorem w51_40 : ma_W d 51 Q 40 l (.ref i :: st) H 0 0 = ma_W d 51 Q 41 l (.ref i :: .ref i :: st) H 0 0 := wp_dup rfl rfl
theorem w51_40i : ma_W d 51 Q 40 l (.int x :: st) H 0 0 = ma_W d 51 Q 41 l (.int x :: .int x :: st) H 0 0 := wp_dup rfl rfl
theorem w51_41 : ma_W d 51 Q 41 l (.ref i :: st) H 0 0 = ma_gf (H.1 i) 4 2 (ma_kV d 51 Q 44 l st H 0 0) := wp_get rfl (by decide +kernel)
theorem w51_44 : ma_W d 51 Q 44 l st H 0 0 = ma_W d 51 Q 45 l (.int 1 :: st) H 0 0 := wp_iconst rfl (by decide)
theorem w51_45 : ma_W d 51 Q 45 l (.int y :: .int x :: st) H 0 0 = ma_W d 51 Q 46 l (.int (x + y) :: st) H 0 0 := wp_iadd rfl
theorem w51_46 : ma_W d 51 Q 46 l (.int x :: .ref i :: st) H 0 0 = ma_pf (H.1 i) 4 2 (.int x) (ma_kH d 51 Q 49 l st H i 0 0) := wp_put rfl (by decide +kernel) (by decide +kernel) rfl rfl
theorem w51_49 : ma_W d 51 Q 49 (o0 :: o1 :: o2 :: some (.int x) :: l) st H 0 0 = ma_W d 51 Q 50 (o0 :: o1 :: o2 :: some (.int x) :: l) (.int x :: st) H 0 0 := wp_iload_n rfl rfl
theorem w51_50 : ma_W d 51 Q 50 (some (.ref i) :: l) st H 0 0 = ma_W d 51 Q 51 (some (.ref i) :: l) (.ref i :: st) H 0 0 := wp_aload_n (x := some i) rfl rfl
theorem w51_51 : ma_W d 51 Q 51 l (.ref i :: st) H 0 0 = ma_gf (H.1 i) 4 5 (ma_kV d 51 Q 54 l st H 0 0) := wp_get rfl (by decide +kernel)
theorem w51_54 : ma_W d 51 Q 54 l (.long u0 :: st) H 0 0 = (ma_cat st ≤ 8 ∧ ma_MW d 202 [.long u0] H (ma_kC d 51 Q 57 l st 0 0)) := wc_S0 (ia := 202) (n := 1) (cn := 10) (k := 1) rfl (by decide +kernel) (by decide) (fun _ => rfl) rfl rfl
theorem w51_57 : ma_W d 51 Q 57 l (.int x1 :: .int x0 :: st) H 0 0 = (ma_cat st ≤ 8 ∧ ma_MW d 119 [.int x0, .int x1] H (ma_kC d 51 Q 60 l st 0 0)) := wc_S0 (ia := 119) (n := 2) (cn := 7) (k := 3) rfl (by decide +kernel) (by decide) (fun _ => rfl) rfl rfl
theorem w51_60 : ma_W d 51 Q 60 (o0 :: o1 :: o2 :: o3 :: p :: l) (.int x :: st) H 0 0 = ma_W d 51 Q 62 (o0 :: o1 :: o2 :: ma_clr o3 :: some (.int x) :: l) st H 0 0 := wp_istore (id := 51) (pc := 60) (k := 4) rfl (Nat.succ_lt_succ (Nat.succ_lt_succ (Nat.succ_lt_succ (Nat.succ_lt_succ (Nat.zero_lt_succ _)))))
theorem w51_62 : ma_W d 51 Q 62 (o0 :: o1 :: o2 :: o3 :: some (.int x) :: l) st H 0 0 = ma_W d 51 Q 64 (o0 :: o1 :: o2 :: o3 :: some (.int x) :: l) (.int x :: st) H 0 0 := wp_iload rfl rfl
theorem w51_64 : ma_W d 51 Q 64 l (.int x :: st) H 0 0 = ma_if (x ≤ 0) d 51 Q 84 67 l st H 0 0 := wp_c0 (id := 51) (pc := 64) (c := .le) (off := 20) 84 rfl (by decide)
theorem w51_67 : ma_W d 51 Q 67 (some (.ref i) :: l) st H 0 0 = ma_W d 51 Q 68 (some (.ref i) :: l) (.ref i :: st) H 0 0 := wp_aload_n (x := some i) rfl rfl
theorem w51_68 : ma_W d 51 Q 68 (o0 :: o1 :: o2 :: o3 :: some (.int x) :: l) st H 0 0 = ma_W d 51 Q 70 (o0 :: o1 :: o2 :: o3 :: some (.int x) :: l) (.int x :: st) H 0 0 := wp_iload rfl rfl
theorem w51_70 : ma_W d 51 Q 70 l (.int x :: .ref i :: st) H 0 0 = ma_pf (H.1 i) 4 1 (.int x) (ma_kH d 51 Q 73 l st H i 0 0) := wp_put rfl (by decide +kernel) (by decide +kernel) rfl rfl
theorem w51_73 : ma_W d 51 Q 73 (some (.ref i) :: l) st H 0 0 = ma_W d 51 Q 74 (some (.ref i) :: l) (.ref i :: st) H 0 0 := wp_aload_n (x := some i) rfl rfl
theorem w51_74 : ma_W d 51 Q 74 (some (.ref i) :: l) st H 0 0 = ma_W d 51 Q 75 (some (.ref i) :: l) (.ref i :: st) H 0 0 := wp_aload_n (x := some i) rfl rfl
theorem w51_75 : ma_W d 51 Q 75 l (.ref i :: st) H 0 0 = (ma_cat st ≤ 8 ∧ ma_cv (H.1 i) 4 d 48 [.ref i] H (ma_kC d 51 Q 78 l st 0 0)) := wc_V0 (ia := 48) (n := 1) (cn := 4) rfl (by decide +kernel) (fun _ => rfl) rfl rfl
theorem w51_78 : ma_W d 51 Q 78 l (.int x :: .ref i :: st) H 0 0 = ma_pf (H.1 i) 4 0 (.int x) (ma_kH d 51 Q 81 l st H i 0 0) := wp_put rfl (by decide +kernel) (by decide +kernel) rfl rfl
theorem w51_81 : ma_W d 51 Q 81 l st H 0 0 = ma_W d 51 Q 131 l st H 0 0 := wp_goto 131 rfl (by decide)
theorem w51_84 : ma_W d 51 Q 84 (some (.ref i) :: l) st H 0 0 = ma_W d 51 Q 85 (some (.ref i) :: l) (.ref i :: st) H 0 0 := wp_aload_n (x := some i) rfl rfl
theorem w51_85 : ma_W d 51 Q 85 l (.ref i :: st) H 0 0 = ma_gf (H.1 i) 4 1 (ma_kV d 51 Q 88 l st H 0 0) := wp_get rfl (by decide +kernel)
theorem w51_88 : ma_W d 51 Q 88 l (.int x :: st) H 0 0 = ma_if (x ≤ 0) d 51 Q 123 91 l st H 0 0 := wp_c0 (id := 51) (pc := 88) (c := .le) (off := 35) 123 rfl (by decide)
theorem w51_91 : ma_W d 51 Q 91 (some (.ref i) :: l) st H 0 0 = ma_W d 51 Q 92 (some (.ref i) :: l) (.ref i :: st) H 0 0 := wp_aload_n (x := some i) rfl rfl
theorem w51_92 : ma_W d 51 Q 92 l (.ref i :: st) H 0 0 = ma_W d 51 Q 93 l (.ref i :: .ref i :: st) H 0 0 := wp_dup rfl rfl
theorem w51_92i : ma_W d 51 Q 92 l (.int x :: st) H 0 0 = ma_W d 51 Q 93 l (.int x :: .int x :: st) H 0 0 := wp_dup rfl rfl
theorem w51_93 : ma_W d 51 Q 93 l (.ref i :: st) H 0 0 = ma_gf (H.1 i) 4 1 (ma_kV d 51 Q 96 l st H 0 0) := wp_get rfl (by decide +kernel)
theorem w51_96 : ma_W d 51 Q 96 l st H 0 0 = ma_W d 51 Q 97 l (.int 1 :: st) H 0 0 := wp_iconst rfl (by decide)
theorem w51_97 : ma_W d 51 Q 97 l (.int y :: .int x :: st) H 0 0 = ma_W d 51 Q 98 l (.int (x - y) :: st) H 0 0 := wp_isub rfl
theorem w51_98 : ma_W d 51 Q 98 l (.int x :: .ref i :: st) H 0 0 = ma_pf (H.1 i) 4 1 (.int x) (ma_kH d 51 Q 101 l st H i 0 0) := wp_put rfl (by decide +kernel) (by decide +kernel) rfl rfl
theorem w51_101 : ma_W d 51 Q 101 (some (.ref i) :: l) st H 0 0 = ma_W d 51 Q 102 (some (.ref i) :: l) (.ref i :: st) H 0 0 := wp_aload_n (x := some i) rfl rfl
theorem w51_102 : ma_W d 51 Q 102 l (.ref i :: st) H 0 0 = ma_gf (H.1 i) 4 1 (ma_kV d 51 Q 105 l st H 0 0) := wp_get rfl (by decide +kernel)
theorem w51_105 : ma_W d 51 Q 105 l (.int x :: st) H 0 0 = ma_if (x = 0) d 51 Q 108 131 l st H 0 0 := wp_c0 (id := 51) (pc := 105) (c := .ne) (off := 26) 131 rfl (by decide)
theorem w51_108 : ma_W d 51 Q 108 (some (.ref i) :: l) st H 0 0 = ma_W d 51 Q 109 (some (.ref i) :: l) (.ref i :: st) H 0 0 := wp_aload_n (x := some i) rfl rfl
theorem w51_109 : ma_W d 51 Q 109 (some (.ref i) :: l) st H 0 0 = ma_W d 51 Q 110 (some (.ref i) :: l) (.ref i :: st) H 0 0 := wp_aload_n (x := some i) rfl rfl
theorem w51_110 : ma_W d 51 Q 110 l (.ref i :: st) H 0 0 = (ma_cat st ≤ 8 ∧ ma_cv (H.1 i) 4 d 48 [.ref i] H (ma_kC d 51 Q 113 l st 0 0)) := wc_V0 (ia := 48) (n := 1) (cn := 4) rfl (by decide +kernel) (fun _ => rfl) rfl rfl
theorem w51_113 : ma_W d 51 Q 113 l (.int x :: .ref i :: st) H 0 0 = ma_pf (H.1 i) 4 0 (.int x) (ma_kH d 51 Q 116 l st H i 0 0) := wp_put rfl (by decide +kernel) (by decide +kernel) rfl rfl
theorem w51_116 : ma_W d 51 Q 116 (some (.ref i) :: l) st H 0 0 = ma_W d 51 Q 117 (some (.ref i) :: l) (.ref i :: st) H 0 0 := wp_aload_n (x := some i) rfl rfl
theorem w51_117 : ma_W d 51 Q 117 l (.ref i :: st) H 0 0 = (ma_cat st ≤ 8 ∧ ma_cv (H.1 i) 4 d 52 [.ref i] H (ma_kC d 51 Q 120 l st 0 0)) := wc_V0 (ia := 52) (n := 1) (cn := 4) rfl (by decide +kernel) (fun _ => rfl) rfl rfl
theorem w51_120 : ma_W d 51 Q 120 l st H 0 0 = ma_W d 51 Q 131 l st H 0 0 := wp_goto 131 rfl (by decide)
theorem w51_123 : ma_W d 51 Q 123 (some (.ref i) :: l) st H 0 0 = ma_W d 51 Q 124 (some (.ref i) :: l) (.ref i :: st) H 0 0 := wp_aload_n (x := some i) rfl rfl
theorem w51_124 : ma_W d 51 Q 124 (some (.ref i) :: l) st H 0 0 = ma_W d 51 Q 125 (some (.ref i) :: l) (.ref i :: st) H 0 0 := wp_aload_n (x := some i) rfl rfl
theorem w51_125 : ma_W d 51 Q 125 l (.ref i :: st) H 0 0 = (ma_cat st ≤ 8 ∧ ma_cv (H.1 i) 4 d 48 [.ref i] H (ma_kC d 51 Q 128 l st 0 0)) := wc_V0 (ia := 48) (n := 1) (cn := 4) rfl (by decide +kernel) (fun _ => rfl) rfl rfl
theorem w51_128 : ma_W d 51 Q 128 l (.int x :: .ref i :: st) H 0 0 = ma_pf (H.1 i) 4 0 (.int x) (ma_kH d 51 Q 131 l st H i 0 0) := wp_put rfl (by decide +kernel) (by decide +kernel) rfl rfl
theorem w51_131 : ma_W d 51 Q 131 l [] H 0 0 = Q none H := wp_vret rfl rfl
theorem e51 : ma_MW (d + 1) 51 [.ref i] H Q = ma_W d 51 Q 0 [some (.ref i), none, none, none, none] [] H 0 0 := wp_enter (by decide) (Nat.le_of_ble_eq_true rfl) rfl
/-! 52 ta_takePile -/
theorem w52_0 : ma_W d 52 Q 0 (some (.ref i) :: l) st H 0 0 = ma_W d 52 Q 1 (some (.ref i) :: l) (.ref i :: st) H 0 0 := wp_aload_n (x := some i) rfl rfl
theorem w52_1 : ma_W d 52 Q 1 l (.ref i :: st) H 0 0 = ma_gf (H.1 i) 4 5 (ma_kV d 52 Q 4 l st H 0 0) := wp_get rfl (by decide +kernel)
theorem w52_4 : ma_W d 52 Q 4 l (.long u0 :: st) H 0 0 = (ma_cat st ≤ 8 ∧ ma_MW d 202 [.long u0] H (ma_kC d 52 Q 7 l st 0 0)) := wc_S0 (ia := 202) (n := 1) (cn := 10) (k := 1) rfl (by decide +kernel) (by decide) (fun _ => rfl) rfl rfl
theorem w52_7 : ma_W d 52 Q 7 (o0 :: p :: l) (.int x :: st) H 0 0 = ma_W d 52 Q 8 (ma_clr o0 :: some (.int x) :: l) st H 0 0 := wp_istore_n (id := 52) (pc := 7) (k := 1) rfl (Nat.succ_lt_succ (Nat.zero_lt_succ _))
theorem w52_8 : ma_W d 52 Q 8 (some (.ref i) :: l) st H 0 0 = ma_W d 52 Q 9 (some (.ref i) :: l) (.ref i :: st) H 0 0 := wp_aload_n (x := some i) rfl rfl
theorem w52_9 : ma_W d 52 Q 9 (some (.ref i) :: l) st H 0 0 = ma_W d 52 Q 10 (some (.ref i) :: l) (.ref i :: st) H 0 0 := wp_aload_n (x := some i) rfl rfl
theorem w52_10 : ma_W d 52 Q 10 l (.ref i :: st) H 0 0 = ma_gf (H.1 i) 4 0 (ma_kV d 52 Q 13 l st H 0 0) := wp_get rfl (by decide +kernel)
theorem w52_13 : ma_W d 52 Q 13 l (.int x0 :: .ref i :: st) H 0 0 = (ma_cat st ≤ 8 ∧ ma_cv (H.1 i) 4 d 39 [.ref i, .int x0] H (ma_kC d 52 Q 16 l st 0 0)) := wc_V0 (ia := 39) (n := 2) (cn := 4) rfl (by decide +kernel) (fun _ => rfl) rfl rfl
theorem w52_16 : ma_W d 52 Q 16 (o0 :: o1 :: p :: l) (.int x :: st) H 0 0 = ma_W d 52 Q 17 (o0 :: ma_clr o1 :: some (.int x) :: l) st H 0 0 := wp_istore_n (id := 52) (pc := 16) (k := 2) rfl (Nat.succ_lt_succ (Nat.succ_lt_succ (Nat.zero_lt_succ _)))
theorem w52_17 : ma_W d 52 Q 17 (some (.ref i) :: l) st H 0 0 = ma_W d 52 Q 18 (some (.ref i) :: l) (.ref i :: st) H 0 0 := wp_aload_n (x := some i) rfl rfl
theorem w52_18 : ma_W d 52 Q 18 (some (.ref i) :: l) st H 0 0 = ma_W d 52 Q 19 (some (.ref i) :: l) (.ref i :: st) H 0 0 := wp_aload_n (x := some i) rfl rfl
theorem w52_19 : ma_W d 52 Q 19 l (.ref i :: st) H 0 0 = ma_gf (H.1 i) 4 0 (ma_kV d 52 Q 22 l st H 0 0) := wp_get rfl (by decide +kernel)
theorem w52_22 : ma_W d 52 Q 22 l (.int x0 :: .ref i :: st) H 0 0 = (ma_cat st ≤ 8 ∧ ma_cv (H.1 i) 4 d 37 [.ref i, .int x0] H (ma_kC d 52 Q 25 l st 0 0)) := wc_V0 (ia := 37) (n := 2) (cn := 4) rfl (by decide +kernel) (fun _ => rfl) rfl rfl
theorem w52_25 : ma_W d 52 Q 25 (o0 :: o1 :: o2 :: p :: q :: l) (.long u :: st) H 0 0 = ma_W d 52 Q 26 (o0 :: o1 :: ma_clr o2 :: some (.long u) :: none :: l) st H 0 0 := wp_lstore_n (id := 52) (pc := 25) (k := 3) rfl (Nat.succ_lt_succ (Nat.succ_lt_succ (Nat.succ_lt_succ (Nat.succ_lt_succ (Nat.zero_lt_succ _)))))
theorem w52_26 : ma_W d 52 Q 26 l st H 0 0 = ma_W d 52 Q 27 l (.int 0 :: st) H 0 0 := wp_iconst rfl (by decide)
theorem w52_27 : ma_W d 52 Q 27 (o0 :: o1 :: o2 :: o3 :: o4 :: p :: l) (.int x :: st) H 0 0 = ma_W d 52 Q 29 (o0 :: o1 :: o2 :: o3 :: ma_clr o4 :: some (.int x) :: l) st H 0 0 := wp_istore (id := 52) (pc := 27) (k := 5) rfl (Nat.succ_lt_succ (Nat.succ_lt_succ (Nat.succ_lt_succ (Nat.succ_lt_succ (Nat.succ_lt_succ (Nat.zero_lt_succ _))))))
theorem w52_29 : ma_W d 52 Q 29 (o0 :: o1 :: o2 :: o3 :: o4 :: some (.int x) :: l) st H 0 0 = ma_W d 52 Q 31 (o0 :: o1 :: o2 :: o3 :: o4 :: some (.int x) :: l) (.int x :: st) H 0 0 := wp_iload rfl rfl
theorem w52_31 : ma_W d 52 Q 31 (o0 :: some (.int x) :: l) st H 0 0 = ma_W d 52 Q 32 (o0 :: some (.int x) :: l) (.int x :: st) H 0 0 := wp_iload_n rfl rfl
theorem w52_32 : ma_W d 52 Q 32 l (.int y :: .int x :: st) H 0 0 = ma_if (y ≤ x) d 52 Q 60 35 l st H 0 0 := wp_ic (id := 52) (pc := 32) (c := .ge) (off := 28) 60 rfl (by decide)
theorem w52_35 : ma_W d 52 Q 35 (o0 :: o1 :: o2 :: some (.long u) :: l) st H 0 0 = ma_W d 52 Q 36 (o0 :: o1 :: o2 :: some (.long u) :: l) (.long u :: st) H 0 0 := wp_lload_n rfl rfl
theorem w52_36 : ma_W d 52 Q 36 (some (.ref i) :: l) st H 0 0 = ma_W d 52 Q 37 (some (.ref i) :: l) (.ref i :: st) H 0 0 := wp_aload_n (x := some i) rfl rfl
theorem w52_37 : ma_W d 52 Q 37 l (.ref i :: st) H 0 0 = ma_gf (H.1 i) 4 5 (ma_kV d 52 Q 40 l st H 0 0) := wp_get rfl (by decide +kernel)
theorem w52_40 : ma_W d 52 Q 40 (o0 :: o1 :: some (.int x) :: l) st H 0 0 = ma_W d 52 Q 41 (o0 :: o1 :: some (.int x) :: l) (.int x :: st) H 0 0 := wp_iload_n rfl rfl
theorem w52_41 : ma_W d 52 Q 41 (o0 :: some (.int x) :: l) st H 0 0 = ma_W d 52 Q 42 (o0 :: some (.int x) :: l) (.int x :: st) H 0 0 := wp_iload_n rfl rfl
theorem w52_42 : ma_W d 52 Q 42 (o0 :: o1 :: o2 :: o3 :: o4 :: some (.int x) :: l) st H 0 0 = ma_W d 52 Q 44 (o0 :: o1 :: o2 :: o3 :: o4 :: some (.int x) :: l) (.int x :: st) H 0 0 := wp_iload rfl rfl
theorem w52_44 : ma_W d 52 Q 44 l (.int x2 :: .int x1 :: .int x0 :: st) H 0 0 = (ma_cat st ≤ 8 ∧ ma_MW d 120 [.int x0, .int x1, .int x2] H (ma_kC d 52 Q 47 l st 0 0)) := wc_S0 (ia := 120) (n := 3) (cn := 7) (k := 3) rfl (by decide +kernel) (by decide) (fun _ => rfl) rfl rfl
theorem w52_47 : ma_W d 52 Q 47 l (.int x1 :: .long u0 :: st) H 0 0 = (ma_cat st ≤ 8 ∧ ma_MW d 203 [.long u0, .int x1] H (ma_kC d 52 Q 50 l st 0 0)) := wc_S0 (ia := 203) (n := 2) (cn := 10) (k := 1) rfl (by decide +kernel) (by decide) (fun _ => rfl) rfl rfl
theorem w52_50 : ma_W d 52 Q 50 l (.int x1 :: .long u0 :: st) H 0 0 = (ma_cat st ≤ 8 ∧ ma_MW d 204 [.long u0, .int x1] H (ma_kC d 52 Q 53 l st 0 0)) := wc_S0 (ia := 204) (n := 2) (cn := 10) (k := 1) rfl (by decide +kernel) (by decide) (fun _ => rfl) rfl rfl
theorem w52_53 : ma_W d 52 Q 53 (o0 :: o1 :: o2 :: p :: q :: l) (.long u :: st) H 0 0 = ma_W d 52 Q 54 (o0 :: o1 :: ma_clr o2 :: some (.long u) :: none :: l) st H 0 0 := wp_lstore_n (id := 52) (pc := 53) (k := 3) rfl (Nat.succ_lt_succ (Nat.succ_lt_succ (Nat.succ_lt_succ (Nat.succ_lt_succ (Nat.zero_lt_succ _)))))
theorem w52_54 : ma_W d 52 Q 54 (o0 :: o1 :: o2 :: o3 :: o4 :: some (.int x) :: l) st H 0 0 = ma_W d 52 Q 57 (o0 :: o1 :: o2 :: o3 :: ma_clr o4 :: some (.int (x + 1)) :: l) st H 0 0 := wp_iinc (id := 52) (pc := 54) (k := 5) (n := 1) rfl (Nat.succ_lt_succ (Nat.succ_lt_succ (Nat.succ_lt_succ (Nat.succ_lt_succ (Nat.succ_lt_succ (Nat.zero_lt_succ _)))))) rfl (by decide)
theorem w52_57 : ma_W d 52 Q 57 l st H 0 0 = ma_W d 52 Q 29 l st H 0 0 := wp_goto 29 rfl (by decide)
theorem w52_60 : ma_W d 52 Q 60 (some (.ref i) :: l) st H 0 0 = ma_W d 52 Q 61 (some (.ref i) :: l) (.ref i :: st) H 0 0 := wp_aload_n (x := some i) rfl rfl
theorem w52_61 : ma_W d 52 Q 61 (some (.ref i) :: l) st H 0 0 = ma_W d 52 Q 62 (some (.ref i) :: l) (.ref i :: st) H 0 0 := wp_aload_n (x := some i) rfl rfl
theorem w52_62 : ma_W d 52 Q 62 l (.ref i :: st) H 0 0 = ma_gf (H.1 i) 4 0 (ma_kV d 52 Q 65 l st H 0 0) := wp_get rfl (by decide +kernel)
theorem w52_65 : ma_W d 52 Q 65 (o0 :: o1 :: o2 :: some (.long u) :: l) st H 0 0 = ma_W d 52 Q 66 (o0 :: o1 :: o2 :: some (.long u) :: l) (.long u :: st) H 0 0 := wp_lload_n rfl rfl
theorem w52_66 : ma_W d 52 Q 66 l (.long u1 :: .int x0 :: .ref i :: st) H 0 0 = (ma_cat st ≤ 8 ∧ ma_cv (H.1 i) 4 d 38 [.ref i, .int x0, .long u1] H (ma_kC d 52 Q 69 l st 0 0)) := wc_V0 (ia := 38) (n := 3) (cn := 4) rfl (by decide +kernel) (fun _ => rfl) rfl rfl
theorem w52_69 : ma_W d 52 Q 69 (some (.ref i) :: l) st H 0 0 = ma_W d 52 Q 70 (some (.ref i) :: l) (.ref i :: st) H 0 0 := wp_aload_n (x := some i) rfl rfl
theorem w52_70 : ma_W d 52 Q 70 l st H 0 0 = ma_W d 52 Q 71 l (.long 0 :: st) H 0 0 := wp_lconst rfl (by decide)
theorem w52_71 : ma_W d 52 Q 71 l (.long u :: .ref i :: st) H 0 0 = ma_pf (H.1 i) 4 5 (.long u) (ma_kH d 52 Q 74 l st H i 0 0) := wp_put rfl (by decide +kernel) (by decide +kernel) rfl rfl
theorem w52_74 : ma_W d 52 Q 74 (some (.ref i) :: l) st H 0 0 = ma_W d 52 Q 75 (some (.ref i) :: l) (.ref i :: st) H 0 0 := wp_aload_n (x := some i) rfl rfl
theorem w52_75 : ma_W d 52 Q 75 l (.ref i :: st) H 0 0 = ma_gf (H.1 i) 4 0 (ma_kV d 52 Q 78 l st H 0 0) := wp_get rfl (by decide +kernel)
theorem w52_78 : ma_W d 52 Q 78 l (.int x :: st) H 0 0 = ma_if (x = 0) d 52 Q 81 94 l st H 0 0 := wp_c0 (id := 52) (pc := 78) (c := .ne) (off := 16) 94 rfl (by decide)
theorem w52_81 : ma_W d 52 Q 81 (some (.ref i) :: l) st H 0 0 = ma_W d 52 Q 82 (some (.ref i) :: l) (.ref i :: st) H 0 0 := wp_aload_n (x := some i) rfl rfl
theorem w52_82 : ma_W d 52 Q 82 l (.ref i :: st) H 0 0 = ma_W d 52 Q 83 l (.ref i :: .ref i :: st) H 0 0 := wp_dup rfl rfl
theorem w52_82i : ma_W d 52 Q 82 l (.int x :: st) H 0 0 = ma_W d 52 Q 83 l (.int x :: .int x :: st) H 0 0 := wp_dup rfl rfl
theorem w52_83 : ma_W d 52 Q 83 l (.ref i :: st) H 0 0 = ma_gf (H.1 i) 4 6 (ma_kV d 52 Q 86 l st H 0 0) := wp_get rfl (by decide +kernel)
theorem w52_86 : ma_W d 52 Q 86 l st H 0 0 = ma_W d 52 Q 87 l (.int 1 :: st) H 0 0 := wp_iconst rfl (by decide)
theorem w52_87 : ma_W d 52 Q 87 l (.int y :: .int x :: st) H 0 0 = ma_W d 52 Q 88 l (.int (x + y) :: st) H 0 0 := wp_iadd rfl
theorem w52_88 : ma_W d 52 Q 88 l (.int x :: .ref i :: st) H 0 0 = ma_pf (H.1 i) 4 6 (.int x) (ma_kH d 52 Q 91 l st H i 0 0) := wp_put rfl (by decide +kernel) (by decide +kernel) rfl rfl
theorem w52_91 : ma_W d 52 Q 91 l st H 0 0 = ma_W d 52 Q 104 l st H 0 0 := wp_goto 104 rfl (by decide)
theorem w52_94 : ma_W d 52 Q 94 (some (.ref i) :: l) st H 0 0 = ma_W d 52 Q 95 (some (.ref i) :: l) (.ref i :: st) H 0 0 := wp_aload_n (x := some i) rfl rfl
theorem w52_95 : ma_W d 52 Q 95 l (.ref i :: st) H 0 0 = ma_W d 52 Q 96 l (.ref i :: .ref i :: st) H 0 0 := wp_dup rfl rfl
theorem w52_95i : ma_W d 52 Q 95 l (.int x :: st) H 0 0 = ma_W d 52 Q 96 l (.int x :: .int x :: st) H 0 0 := wp_dup rfl rfl
theorem w52_96 : ma_W d 52 Q 96 l (.ref i :: st) H 0 0 = ma_gf (H.1 i) 4 7 (ma_kV d 52 Q 99 l st H 0 0) := wp_get rfl (by decide +kernel)
theorem w52_99 : ma_W d 52 Q 99 l st H 0 0 = ma_W d 52 Q 100 l (.int 1 :: st) H 0 0 := wp_iconst rfl (by decide)
theorem w52_100 : ma_W d 52 Q 100 l (.int y :: .int x :: st) H 0 0 = ma_W d 52 Q 101 l (.int (x + y) :: st) H 0 0 := wp_iadd rfl
theorem w52_101 : ma_W d 52 Q 101 l (.int x :: .ref i :: st) H 0 0 = ma_pf (H.1 i) 4 7 (.int x) (ma_kH d 52 Q 104 l st H i 0 0) := wp_put rfl (by decide +kernel) (by decide +kernel) rfl rfl
theorem w52_104 : ma_W d 52 Q 104 l [] H 0 0 = Q none H := wp_vret rfl rfl
theorem e52 : ma_MW (d + 1) 52 [.ref i] H Q = ma_W d 52 Q 0 [some (.ref i), none, none, none, none, none] [] H 0 0 := wp_enter (by decide) (Nat.le_of_ble_eq_true rfl) rfl
/-! 53 te_init -/
theorem w53_0 : ma_W d 53 Q 0 (some (.ref i) :: l) st H a b = ma_W d 53 Q 1 (some (.ref i) :: l) (.ref i :: st) H a b := wp_aload_n (x := some i) rfl rfl
theorem w53_1 : ma_W d 53 Q 1 l (.ref i :: st) H a b = (ma_cat st ≤ 8 ∧ ma_W d 53 Q 4 l st H a b) := wc_obj (ia := 0) (n := 1) (cn := 0) rfl (by decide +kernel)
theorem w53_4 : ma_W d 53 Q 4 (some (.ref i) :: l) st H a b = ma_W d 53 Q 5 (some (.ref i) :: l) (.ref i :: st) H a b := wp_aload_n (x := some i) rfl rfl
theorem w53_5 : ma_W d 53 Q 5 l st H a b = ma_W d 53 Q 8 l (.int 150 :: st) H a b := wp_sipush rfl (by decide)
theorem w53_8 : ma_W d 53 Q 8 l (.int 150 :: st) H a b = (a + 1 ≤ 1 ∧ b + 150 ≤ 150 ∧ ma_W d 53 Q 10 l (.ref H.2 :: st) (ma_new H (.inl (.byte, 150, .inl fun _ => 0))) (a + 1) (b + 150)) := wp_newb rfl (by decide) (by decide) (by decide) rfl rfl
theorem w53_10 : ma_W d 53 Q 10 l (.ref j :: .ref i :: st) H a b = ma_pf (H.1 i) 5 0 (.ref j) (ma_kH d 53 Q 13 l st H i a b) := wp_put rfl (by decide +kernel) (by decide +kernel) rfl rfl
theorem w53_13 : ma_W d 53 Q 13 (some (.ref i) :: l) st H a b = ma_W d 53 Q 14 (some (.ref i) :: l) (.ref i :: st) H a b := wp_aload_n (x := some i) rfl rfl
theorem w53_14 : ma_W d 53 Q 14 l st H a b = ma_W d 53 Q 15 l (.int 0 :: st) H a b := wp_iconst rfl (by decide)
theorem w53_15 : ma_W d 53 Q 15 l (.int x :: .ref i :: st) H a b = ma_pf (H.1 i) 5 1 (.int x) (ma_kH d 53 Q 18 l st H i a b) := wp_put rfl (by decide +kernel) (by decide +kernel) rfl rfl
theorem w53_18 : ma_W d 53 Q 18 l [] H a b = Q none H := wp_vret rfl rfl
theorem e53 : ma_MW (d + 1) 53 [.ref i] H Q = ma_W d 53 Q 0 [some (.ref i)] [] H 0 0 := wp_enter (by decide) (Nat.le_of_ble_eq_true rfl) rfl
/-! 54 te_size -/
theorem w54_0 : ma_W d 54 Q 0 (some (.ref i) :: l) st H 0 0 = ma_W d 54 Q 1 (some (.ref i) :: l) (.ref i :: st) H 0 0 := wp_aload_n (x := some i) rfl rfl
theorem w54_1 : ma_W d 54 Q 1 l (.ref i :: st) H 0 0 = ma_gf (H.1 i) 5 1 (ma_kV d 54 Q 4 l st H 0 0) := wp_get rfl (by decide +kernel)
theorem w54_4 : ma_W d 54 Q 4 l [.int x] H 0 0 = Q (some (.int x)) H := wp_iret rfl rfl
theorem e54 : ma_MW (d + 1) 54 [.ref i] H Q = ma_W d 54 Q 0 [some (.ref i)] [] H 0 0 := wp_enter (by decide) (Nat.le_of_ble_eq_true rfl) rfl
/-! 55 te_isFull -/
theorem w55_0 : ma_W d 55 Q 0 (some (.ref i) :: l) st H 0 0 = ma_W d 55 Q 1 (some (.ref i) :: l) (.ref i :: st) H 0 0 := wp_aload_n (x := some i) rfl rfl
theorem w55_1 : ma_W d 55 Q 1 l (.ref i :: st) H 0 0 = ma_gf (H.1 i) 5 1 (ma_kV d 55 Q 4 l st H 0 0) := wp_get rfl (by decide +kernel)
theorem w55_4 : ma_W d 55 Q 4 l st H 0 0 = ma_W d 55 Q 7 l (.int 150 :: st) H 0 0 := wp_sipush rfl (by decide)
theorem w55_7 : ma_W d 55 Q 7 l (.int y :: .int x :: st) H 0 0 = ma_if (x < y) d 55 Q 14 10 l st H 0 0 := wp_ic (id := 55) (pc := 7) (c := .lt) (off := 7) 14 rfl (by decide)
theorem w55_10 : ma_W d 55 Q 10 l st H 0 0 = ma_W d 55 Q 11 l (.int 1 :: st) H 0 0 := wp_iconst rfl (by decide)
theorem w55_11 : ma_W d 55 Q 11 l st H 0 0 = ma_W d 55 Q 15 l st H 0 0 := wp_goto 15 rfl (by decide)
theorem w55_14 : ma_W d 55 Q 14 l st H 0 0 = ma_W d 55 Q 15 l (.int 0 :: st) H 0 0 := wp_iconst rfl (by decide)
theorem w55_15 : ma_W d 55 Q 15 l [.int x] H 0 0 = ((x = 0 ∨ x = 1) ∧ Q (some (.int x)) H) := wp_zret rfl rfl
theorem e55 : ma_MW (d + 1) 55 [.ref i] H Q = ma_W d 55 Q 0 [some (.ref i)] [] H 0 0 := wp_enter (by decide) (Nat.le_of_ble_eq_true rfl) rfl
/-! 56 te_add -/
theorem w56_0 : ma_W d 56 Q 0 (some (.ref i) :: l) st H 0 0 = ma_W d 56 Q 1 (some (.ref i) :: l) (.ref i :: st) H 0 0 := wp_aload_n (x := some i) rfl rfl
theorem w56_1 : ma_W d 56 Q 1 l (.ref i :: st) H 0 0 = (ma_cat st ≤ 8 ∧ ma_cv (H.1 i) 5 d 55 [.ref i] H (ma_kC d 56 Q 4 l st 0 0)) := wc_V0 (ia := 55) (n := 1) (cn := 5) rfl (by decide +kernel) (fun _ => rfl) rfl rfl
theorem w56_4 : ma_W d 56 Q 4 l (.int x :: st) H 0 0 = ma_if (x = 0) d 56 Q 7 28 l st H 0 0 := wp_c0 (id := 56) (pc := 4) (c := .ne) (off := 24) 28 rfl (by decide)
theorem w56_7 : ma_W d 56 Q 7 (some (.ref i) :: l) st H 0 0 = ma_W d 56 Q 8 (some (.ref i) :: l) (.ref i :: st) H 0 0 := wp_aload_n (x := some i) rfl rfl
theorem w56_8 : ma_W d 56 Q 8 l (.ref i :: st) H 0 0 = ma_gf (H.1 i) 5 0 (ma_kV d 56 Q 11 l st H 0 0) := wp_get rfl (by decide +kernel)
theorem w56_11 : ma_W d 56 Q 11 (some (.ref i) :: l) st H 0 0 = ma_W d 56 Q 12 (some (.ref i) :: l) (.ref i :: st) H 0 0 := wp_aload_n (x := some i) rfl rfl
theorem w56_12 : ma_W d 56 Q 12 l (.ref i :: st) H 0 0 = ma_gf (H.1 i) 5 1 (ma_kV d 56 Q 15 l st H 0 0) := wp_get rfl (by decide +kernel)
theorem w56_15 : ma_W d 56 Q 15 (o0 :: some (.int x) :: l) st H 0 0 = ma_W d 56 Q 16 (o0 :: some (.int x) :: l) (.int x :: st) H 0 0 := wp_iload_n rfl rfl
theorem w56_16 : ma_W d 56 Q 16 l (.int x :: st) H 0 0 = ma_W d 56 Q 17 l (.int x.toInt8.toInt32 :: st) H 0 0 := wp_i2b rfl
theorem w56_17 : ma_W d 56 Q 17 l (.int y :: .int x :: .ref i :: st) H 0 0 = (4 ≤ i ∧ ma_bas (H.1 i) x y (ma_kH d 56 Q 18 l st H i 0 0)) := wp_bast rfl
theorem w56_18 : ma_W d 56 Q 18 (some (.ref i) :: l) st H 0 0 = ma_W d 56 Q 19 (some (.ref i) :: l) (.ref i :: st) H 0 0 := wp_aload_n (x := some i) rfl rfl
theorem w56_19 : ma_W d 56 Q 19 l (.ref i :: st) H 0 0 = ma_W d 56 Q 20 l (.ref i :: .ref i :: st) H 0 0 := wp_dup rfl rfl
theorem w56_19i : ma_W d 56 Q 19 l (.int x :: st) H 0 0 = ma_W d 56 Q 20 l (.int x :: .int x :: st) H 0 0 := wp_dup rfl rfl
theorem w56_20 : ma_W d 56 Q 20 l (.ref i :: st) H 0 0 = ma_gf (H.1 i) 5 1 (ma_kV d 56 Q 23 l st H 0 0) := wp_get rfl (by decide +kernel)
theorem w56_23 : ma_W d 56 Q 23 l st H 0 0 = ma_W d 56 Q 24 l (.int 1 :: st) H 0 0 := wp_iconst rfl (by decide)
theorem w56_24 : ma_W d 56 Q 24 l (.int y :: .int x :: st) H 0 0 = ma_W d 56 Q 25 l (.int (x + y) :: st) H 0 0 := wp_iadd rfl
theorem w56_25 : ma_W d 56 Q 25 l (.int x :: .ref i :: st) H 0 0 = ma_pf (H.1 i) 5 1 (.int x) (ma_kH d 56 Q 28 l st H i 0 0) := wp_put rfl (by decide +kernel) (by decide +kernel) rfl rfl
theorem w56_28 : ma_W d 56 Q 28 l [] H 0 0 = Q none H := wp_vret rfl rfl
theorem e56 : ma_MW (d + 1) 56 [.ref i, .int x0] H Q = ma_W d 56 Q 0 [some (.ref i), some (.int x0)] [] H 0 0 := wp_enter (by decide) (Nat.le_of_ble_eq_true rfl) rfl
/-! 57 te_empty -/
theorem w57_0 : ma_W d 57 Q 0 (some (.ref i) :: l) st H 0 0 = ma_W d 57 Q 1 (some (.ref i) :: l) (.ref i :: st) H 0 0 := wp_aload_n (x := some i) rfl rfl
theorem w57_1 : ma_W d 57 Q 1 l st H 0 0 = ma_W d 57 Q 2 l (.int 0 :: st) H 0 0 := wp_iconst rfl (by decide)
theorem w57_2 : ma_W d 57 Q 2 l (.int x :: .ref i :: st) H 0 0 = ma_pf (H.1 i) 5 1 (.int x) (ma_kH d 57 Q 5 l st H i 0 0) := wp_put rfl (by decide +kernel) (by decide +kernel) rfl rfl
theorem w57_5 : ma_W d 57 Q 5 l [] H 0 0 = Q none H := wp_vret rfl rfl
theorem e57 : ma_MW (d + 1) 57 [.ref i] H Q = ma_W d 57 Q 0 [some (.ref i)] [] H 0 0 := wp_enter (by decide) (Nat.le_of_ble_eq_true rfl) rfl
/-! 58 te_at -/
theorem w58_0 : ma_W d 58 Q 0 (o0 :: some (.int x) :: l) st H 0 0 = ma_W d 58 Q 1 (o0 :: some (.int x) :: l) (.int x :: st) H 0 0 := wp_iload_n rfl rfl
theorem w58_1 : ma_W d 58 Q 1 l (.int x :: st) H 0 0 = ma_if (x < 0) d 58 Q 21 4 l st H 0 0 := wp_c0 (id := 58) (pc := 1) (c := .lt) (off := 20) 21 rfl (by decide)
theorem w58_4 : ma_W d 58 Q 4 (o0 :: some (.int x) :: l) st H 0 0 = ma_W d 58 Q 5 (o0 :: some (.int x) :: l) (.int x :: st) H 0 0 := wp_iload_n rfl rfl
theorem w58_5 : ma_W d 58 Q 5 (some (.ref i) :: l) st H 0 0 = ma_W d 58 Q 6 (some (.ref i) :: l) (.ref i :: st) H 0 0 := wp_aload_n (x := some i) rfl rfl
theorem w58_6 : ma_W d 58 Q 6 l (.ref i :: st) H 0 0 = ma_gf (H.1 i) 5 1 (ma_kV d 58 Q 9 l st H 0 0) := wp_get rfl (by decide +kernel)
theorem w58_9 : ma_W d 58 Q 9 l (.int y :: .int x :: st) H 0 0 = ma_if (y ≤ x) d 58 Q 21 12 l st H 0 0 := wp_ic (id := 58) (pc := 9) (c := .ge) (off := 12) 21 rfl (by decide)
theorem w58_12 : ma_W d 58 Q 12 (some (.ref i) :: l) st H 0 0 = ma_W d 58 Q 13 (some (.ref i) :: l) (.ref i :: st) H 0 0 := wp_aload_n (x := some i) rfl rfl
theorem w58_13 : ma_W d 58 Q 13 l (.ref i :: st) H 0 0 = ma_gf (H.1 i) 5 0 (ma_kV d 58 Q 16 l st H 0 0) := wp_get rfl (by decide +kernel)
theorem w58_16 : ma_W d 58 Q 16 (o0 :: some (.int x) :: l) st H 0 0 = ma_W d 58 Q 17 (o0 :: some (.int x) :: l) (.int x :: st) H 0 0 := wp_iload_n rfl rfl
theorem w58_17 : ma_W d 58 Q 17 l (.int x :: .ref i :: st) H 0 0 = (4 ≤ i ∧ ma_bal (H.1 i) x (ma_kV d 58 Q 18 l st H 0 0)) := wp_bald rfl
theorem w58_18 : ma_W d 58 Q 18 l st H 0 0 = ma_W d 58 Q 22 l st H 0 0 := wp_goto 22 rfl (by decide)
theorem w58_21 : ma_W d 58 Q 21 l st H 0 0 = ma_W d 58 Q 22 l (.int (-1) :: st) H 0 0 := wp_iconst rfl (by decide)
theorem w58_22 : ma_W d 58 Q 22 l [.int x] H 0 0 = Q (some (.int x)) H := wp_iret rfl rfl
theorem e58 : ma_MW (d + 1) 58 [.ref i, .int x0] H Q = ma_W d 58 Q 0 [some (.ref i), some (.int x0)] [] H 0 0 := wp_enter (by decide) (Nat.le_of_ble_eq_true rfl) rfl
/-! 59 te_spells -/
theorem w59_0 : ma_W d 59 Q 0 (o0 :: some (.int x) :: l) st H 0 0 = ma_W d 59 Q 1 (o0 :: some (.int x) :: l) (.int x :: st) H 0 0 := wp_iload_n rfl rfl
theorem w59_1 : ma_W d 59 Q 1 l (.int x :: st) H 0 0 = ma_if (x < 0) d 59 Q 22 4 l st H 0 0 := wp_c0 (id := 59) (pc := 1) (c := .lt) (off := 21) 22 rfl (by decide)
theorem w59_4 : ma_W d 59 Q 4 (o0 :: o1 :: some (.int x) :: l) st H 0 0 = ma_W d 59 Q 5 (o0 :: o1 :: some (.int x) :: l) (.int x :: st) H 0 0 := wp_iload_n rfl rfl
theorem w59_5 : ma_W d 59 Q 5 (some (.ref i) :: l) st H 0 0 = ma_W d 59 Q 6 (some (.ref i) :: l) (.ref i :: st) H 0 0 := wp_aload_n (x := some i) rfl rfl
theorem w59_6 : ma_W d 59 Q 6 l (.ref i :: st) H 0 0 = ma_gf (H.1 i) 5 1 (ma_kV d 59 Q 9 l st H 0 0) := wp_get rfl (by decide +kernel)
theorem w59_9 : ma_W d 59 Q 9 l (.int y :: .int x :: st) H 0 0 = ma_if (y < x) d 59 Q 22 12 l st H 0 0 := wp_ic (id := 59) (pc := 9) (c := .gt) (off := 13) 22 rfl (by decide)
theorem w59_12 : ma_W d 59 Q 12 (o0 :: o1 :: some (.int x) :: l) st H 0 0 = ma_W d 59 Q 13 (o0 :: o1 :: some (.int x) :: l) (.int x :: st) H 0 0 := wp_iload_n rfl rfl
theorem w59_13 : ma_W d 59 Q 13 (o0 :: some (.int x) :: l) st H 0 0 = ma_W d 59 Q 14 (o0 :: some (.int x) :: l) (.int x :: st) H 0 0 := wp_iload_n rfl rfl
theorem w59_14 : ma_W d 59 Q 14 l (.int y :: .int x :: st) H 0 0 = ma_W d 59 Q 15 l (.int (x - y) :: st) H 0 0 := wp_isub rfl
theorem w59_15 : ma_W d 59 Q 15 (o0 :: o1 :: o2 :: some (.ref i) :: l) st H 0 0 = ma_W d 59 Q 16 (o0 :: o1 :: o2 :: some (.ref i) :: l) (.ref i :: st) H 0 0 := wp_aload_n (x := some i) rfl rfl
theorem w59_16 : ma_W d 59 Q 16 l (.ref i :: st) H 0 0 = (ma_cat st ≤ 8 ∧ ma_cv (H.1 i) 90 d 213 [.ref i] H (ma_kC d 59 Q 19 l st 0 0)) := wc_V0 (ia := 213) (n := 1) (cn := 90) rfl (by decide +kernel) (fun _ => rfl) rfl rfl
theorem w59_19 : ma_W d 59 Q 19 l (.int y :: .int x :: st) H 0 0 = ma_if (x = y) d 59 Q 24 22 l st H 0 0 := wp_ic (id := 59) (pc := 19) (c := .eq) (off := 5) 24 rfl (by decide)
theorem w59_22 : ma_W d 59 Q 22 l st H 0 0 = ma_W d 59 Q 23 l (.int 0 :: st) H 0 0 := wp_iconst rfl (by decide)
theorem w59_23 : ma_W d 59 Q 23 l [.int x] H 0 0 = ((x = 0 ∨ x = 1) ∧ Q (some (.int x)) H) := wp_zret rfl rfl
theorem w59_24 : ma_W d 59 Q 24 l st H 0 0 = ma_W d 59 Q 25 l (.int 0 :: st) H 0 0 := wp_iconst rfl (by decide)
theorem w59_25 : ma_W d 59 Q 25 (o0 :: o1 :: o2 :: o3 :: p :: l) (.int x :: st) H 0 0 = ma_W d 59 Q 27 (o0 :: o1 :: o2 :: ma_clr o3 :: some (.int x) :: l) st H 0 0 := wp_istore (id := 59) (pc := 25) (k := 4) rfl (Nat.succ_lt_succ (Nat.succ_lt_succ (Nat.succ_lt_succ (Nat.succ_lt_succ (Nat.zero_lt_succ _)))))
theorem w59_27 : ma_W d 59 Q 27 (o0 :: o1 :: o2 :: o3 :: some (.int x) :: l) st H 0 0 = ma_W d 59 Q 29 (o0 :: o1 :: o2 :: o3 :: some (.int x) :: l) (.int x :: st) H 0 0 := wp_iload rfl rfl
theorem w59_29 : ma_W d 59 Q 29 (o0 :: o1 :: o2 :: some (.ref i) :: l) st H 0 0 = ma_W d 59 Q 30 (o0 :: o1 :: o2 :: some (.ref i) :: l) (.ref i :: st) H 0 0 := wp_aload_n (x := some i) rfl rfl
theorem w59_30 : ma_W d 59 Q 30 l (.ref i :: st) H 0 0 = (ma_cat st ≤ 8 ∧ ma_cv (H.1 i) 90 d 213 [.ref i] H (ma_kC d 59 Q 33 l st 0 0)) := wc_V0 (ia := 213) (n := 1) (cn := 90) rfl (by decide +kernel) (fun _ => rfl) rfl rfl
theorem w59_33 : ma_W d 59 Q 33 l (.int y :: .int x :: st) H 0 0 = ma_if (y ≤ x) d 59 Q 62 36 l st H 0 0 := wp_ic (id := 59) (pc := 33) (c := .ge) (off := 29) 62 rfl (by decide)
theorem w59_36 : ma_W d 59 Q 36 (some (.ref i) :: l) st H 0 0 = ma_W d 59 Q 37 (some (.ref i) :: l) (.ref i :: st) H 0 0 := wp_aload_n (x := some i) rfl rfl
theorem w59_37 : ma_W d 59 Q 37 l (.ref i :: st) H 0 0 = ma_gf (H.1 i) 5 0 (ma_kV d 59 Q 40 l st H 0 0) := wp_get rfl (by decide +kernel)
theorem w59_40 : ma_W d 59 Q 40 (o0 :: some (.int x) :: l) st H 0 0 = ma_W d 59 Q 41 (o0 :: some (.int x) :: l) (.int x :: st) H 0 0 := wp_iload_n rfl rfl
theorem w59_41 : ma_W d 59 Q 41 (o0 :: o1 :: o2 :: o3 :: some (.int x) :: l) st H 0 0 = ma_W d 59 Q 43 (o0 :: o1 :: o2 :: o3 :: some (.int x) :: l) (.int x :: st) H 0 0 := wp_iload rfl rfl
theorem w59_43 : ma_W d 59 Q 43 l (.int y :: .int x :: st) H 0 0 = ma_W d 59 Q 44 l (.int (x + y) :: st) H 0 0 := wp_iadd rfl
theorem w59_44 : ma_W d 59 Q 44 l (.int x :: .ref i :: st) H 0 0 = (4 ≤ i ∧ ma_bal (H.1 i) x (ma_kV d 59 Q 45 l st H 0 0)) := wp_bald rfl
theorem w59_45 : ma_W d 59 Q 45 (o0 :: o1 :: o2 :: some (.ref i) :: l) st H 0 0 = ma_W d 59 Q 46 (o0 :: o1 :: o2 :: some (.ref i) :: l) (.ref i :: st) H 0 0 := wp_aload_n (x := some i) rfl rfl
theorem w59_46 : ma_W d 59 Q 46 (o0 :: o1 :: o2 :: o3 :: some (.int x) :: l) st H 0 0 = ma_W d 59 Q 48 (o0 :: o1 :: o2 :: o3 :: some (.int x) :: l) (.int x :: st) H 0 0 := wp_iload rfl rfl
theorem w59_48 : ma_W d 59 Q 48 l (.int x0 :: .ref i :: st) H 0 0 = (ma_cat st ≤ 8 ∧ ma_cv (H.1 i) 90 d 214 [.ref i, .int x0] H (ma_kC d 59 Q 51 l st 0 0)) := wc_V0 (ia := 214) (n := 2) (cn := 90) rfl (by decide +kernel) (fun _ => rfl) rfl rfl
theorem w59_51 : ma_W d 59 Q 51 l (.int y :: .int x :: st) H 0 0 = ma_if (x = y) d 59 Q 56 54 l st H 0 0 := wp_ic (id := 59) (pc := 51) (c := .eq) (off := 5) 56 rfl (by decide)
theorem w59_54 : ma_W d 59 Q 54 l st H 0 0 = ma_W d 59 Q 55 l (.int 0 :: st) H 0 0 := wp_iconst rfl (by decide)
theorem w59_55 : ma_W d 59 Q 55 l [.int x] H 0 0 = ((x = 0 ∨ x = 1) ∧ Q (some (.int x)) H) := wp_zret rfl rfl
theorem w59_56 : ma_W d 59 Q 56 (o0 :: o1 :: o2 :: o3 :: some (.int x) :: l) st H 0 0 = ma_W d 59 Q 59 (o0 :: o1 :: o2 :: ma_clr o3 :: some (.int (x + 1)) :: l) st H 0 0 := wp_iinc (id := 59) (pc := 56) (k := 4) (n := 1) rfl (Nat.succ_lt_succ (Nat.succ_lt_succ (Nat.succ_lt_succ (Nat.succ_lt_succ (Nat.zero_lt_succ _))))) rfl (by decide)
theorem w59_59 : ma_W d 59 Q 59 l st H 0 0 = ma_W d 59 Q 27 l st H 0 0 := wp_goto 27 rfl (by decide)
theorem w59_62 : ma_W d 59 Q 62 l st H 0 0 = ma_W d 59 Q 63 l (.int 1 :: st) H 0 0 := wp_iconst rfl (by decide)
theorem w59_63 : ma_W d 59 Q 63 l [.int x] H 0 0 = ((x = 0 ∨ x = 1) ∧ Q (some (.int x)) H) := wp_zret rfl rfl
theorem e59 : ma_MW (d + 1) 59 [.ref i, .int x0, .int x1, .ref i2] H Q = ma_W d 59 Q 0 [some (.ref i), some (.int x0), some (.int x1), some (.ref i2), none] [] H 0 0 := wp_enter (by decide) (Nat.le_of_ble_eq_true rfl) rfl
/-! 60 tr_init -/
theorem w60_0 : ma_W d 60 Q 0 (some (.ref i) :: l) st H a b = ma_W d 60 Q 1 (some (.ref i) :: l) (.ref i :: st) H a b := wp_aload_n (x := some i) rfl rfl
theorem w60_1 : ma_W d 60 Q 1 l (.ref i :: st) H a b = (ma_cat st ≤ 8 ∧ ma_W d 60 Q 4 l st H a b) := wc_obj (ia := 0) (n := 1) (cn := 0) rfl (by decide +kernel)
theorem w60_4 : ma_W d 60 Q 4 (some (.ref i) :: l) st H a b = ma_W d 60 Q 5 (some (.ref i) :: l) (.ref i :: st) H a b := wp_aload_n (x := some i) rfl rfl
theorem w60_5 : ma_W d 60 Q 5 l st H a b = ma_W d 60 Q 6 l (.int (-1) :: st) H a b := wp_iconst rfl (by decide)
theorem w60_6 : ma_W d 60 Q 6 l (.int x :: .ref i :: st) H a b = ma_pf (H.1 i) 6 0 (.int x) (ma_kH d 60 Q 9 l st H i a b) := wp_put rfl (by decide +kernel) (by decide +kernel) rfl rfl
theorem w60_9 : ma_W d 60 Q 9 (some (.ref i) :: l) st H a b = ma_W d 60 Q 10 (some (.ref i) :: l) (.ref i :: st) H a b := wp_aload_n (x := some i) rfl rfl
theorem w60_10 : ma_W d 60 Q 10 l st H a b = ma_W d 60 Q 11 l (.int (-1) :: st) H a b := wp_iconst rfl (by decide)
theorem w60_11 : ma_W d 60 Q 11 l (.int x :: .ref i :: st) H a b = ma_pf (H.1 i) 6 1 (.int x) (ma_kH d 60 Q 14 l st H i a b) := wp_put rfl (by decide +kernel) (by decide +kernel) rfl rfl
theorem w60_14 : ma_W d 60 Q 14 (some (.ref i) :: l) st H a b = ma_W d 60 Q 15 (some (.ref i) :: l) (.ref i :: st) H a b := wp_aload_n (x := some i) rfl rfl
theorem w60_15 : ma_W d 60 Q 15 l st H a b = (a + 1 ≤ 3 ∧ b + 10 ≤ 56 ∧ ma_W d 60 Q 18 l (.ref H.2 :: st) (ma_new H (.inr (4, [.int 0, .int 0, .int 0, .long 0, .long 0, .long 0, .int 0, .int 0, .int 0, .int 0]))) (a + 1) (b + 10)) := wp_new rfl (by decide +kernel) rfl rfl rfl rfl
theorem w60_18 : ma_W d 60 Q 18 l (.ref i :: st) H a b = ma_W d 60 Q 19 l (.ref i :: .ref i :: st) H a b := wp_dup rfl rfl
theorem w60_18i : ma_W d 60 Q 18 l (.int x :: st) H a b = ma_W d 60 Q 19 l (.int x :: .int x :: st) H a b := wp_dup rfl rfl
theorem w60_19 : ma_W d 60 Q 19 l (.ref i :: st) H a b = (ma_cat st ≤ 8 ∧ a + 0 ≤ 3 ∧ b + 0 ≤ 56 ∧ ma_MW d 33 [.ref i] H (ma_kC d 60 Q 22 l st (a + 0) (b + 0))) := wc_I (ia := 33) (n := 1) (cn := 4) (k := 4) rfl (by decide +kernel) (by decide) (fun _ => rfl) rfl rfl rfl
theorem w60_22 : ma_W d 60 Q 22 l (.ref j :: .ref i :: st) H a b = ma_pf (H.1 i) 6 2 (.ref j) (ma_kH d 60 Q 25 l st H i a b) := wp_put rfl (by decide +kernel) (by decide +kernel) rfl rfl
theorem w60_25 : ma_W d 60 Q 25 (some (.ref i) :: l) st H a b = ma_W d 60 Q 26 (some (.ref i) :: l) (.ref i :: st) H a b := wp_aload_n (x := some i) rfl rfl
theorem w60_26 : ma_W d 60 Q 26 l st H a b = (a + 1 ≤ 3 ∧ b + 10 ≤ 56 ∧ ma_W d 60 Q 29 l (.ref H.2 :: st) (ma_new H (.inr (4, [.int 0, .int 0, .int 0, .long 0, .long 0, .long 0, .int 0, .int 0, .int 0, .int 0]))) (a + 1) (b + 10)) := wp_new rfl (by decide +kernel) rfl rfl rfl rfl
theorem w60_29 : ma_W d 60 Q 29 l (.ref i :: st) H a b = ma_W d 60 Q 30 l (.ref i :: .ref i :: st) H a b := wp_dup rfl rfl
theorem w60_29i : ma_W d 60 Q 29 l (.int x :: st) H a b = ma_W d 60 Q 30 l (.int x :: .int x :: st) H a b := wp_dup rfl rfl
theorem w60_30 : ma_W d 60 Q 30 l (.ref i :: st) H a b = (ma_cat st ≤ 8 ∧ a + 0 ≤ 3 ∧ b + 0 ≤ 56 ∧ ma_MW d 33 [.ref i] H (ma_kC d 60 Q 33 l st (a + 0) (b + 0))) := wc_I (ia := 33) (n := 1) (cn := 4) (k := 4) rfl (by decide +kernel) (by decide) (fun _ => rfl) rfl rfl rfl
theorem w60_33 : ma_W d 60 Q 33 l (.ref j :: .ref i :: st) H a b = ma_pf (H.1 i) 6 3 (.ref j) (ma_kH d 60 Q 36 l st H i a b) := wp_put rfl (by decide +kernel) (by decide +kernel) rfl rfl
theorem w60_36 : ma_W d 60 Q 36 (some (.ref i) :: l) st H a b = ma_W d 60 Q 37 (some (.ref i) :: l) (.ref i :: st) H a b := wp_aload_n (x := some i) rfl rfl
theorem w60_37 : ma_W d 60 Q 37 l st H a b = ma_W d 60 Q 39 l (.int 36 :: st) H a b := wp_bipush rfl (by decide)
theorem w60_39 : ma_W d 60 Q 39 l (.int 36 :: st) H a b = (a + 1 ≤ 3 ∧ b + 36 ≤ 56 ∧ ma_W d 60 Q 41 l (.ref H.2 :: st) (ma_new H (.inl (.int, 36, .inl fun _ => 0))) (a + 1) (b + 36)) := wp_newi rfl (by decide) (by decide) (by decide) rfl rfl
theorem w60_41 : ma_W d 60 Q 41 l (.ref j :: .ref i :: st) H a b = ma_pf (H.1 i) 6 4 (.ref j) (ma_kH d 60 Q 44 l st H i a b) := wp_put rfl (by decide +kernel) (by decide +kernel) rfl rfl
theorem w60_44 : ma_W d 60 Q 44 l [] H a b = Q none H := wp_vret rfl rfl
theorem e60 : ma_MW (d + 1) 60 [.ref i] H Q = ma_W d 60 Q 0 [some (.ref i)] [] H 0 0 := wp_enter (by decide) (Nat.le_of_ble_eq_true rfl) rfl
/-! 61 tr_numberBehind -/
theorem w61_0 : ma_W d 61 Q 0 (some (.ref i) :: l) st H 0 0 = ma_W d 61 Q 1 (some (.ref i) :: l) (.ref i :: st) H 0 0 := wp_aload_n (x := some i) rfl rfl
theorem w61_1 : ma_W d 61 Q 1 l (.ref i :: st) H 0 0 = ma_gf (H.1 i) 6 2 (ma_kV d 61 Q 4 l st H 0 0) := wp_get rfl (by decide +kernel)
theorem w61_4 : ma_W d 61 Q 4 (o0 :: some (.ref i) :: l) st H 0 0 = ma_W d 61 Q 5 (o0 :: some (.ref i) :: l) (.ref i :: st) H 0 0 := wp_aload_n (x := some i) rfl rfl
theorem w61_5 : ma_W d 61 Q 5 l (.ref i0 :: .ref i :: st) H 0 0 = (ma_cat st ≤ 8 ∧ ma_cv (H.1 i) 4 d 35 [.ref i, .ref i0] H (ma_kC d 61 Q 8 l st 0 0)) := wc_V0 (ia := 35) (n := 2) (cn := 4) rfl (by decide +kernel) (fun _ => rfl) rfl rfl
theorem w61_8 : ma_W d 61 Q 8 l st H 0 0 = ma_W d 61 Q 9 l (.int 0 :: st) H 0 0 := wp_iconst rfl (by decide)
theorem w61_9 : ma_W d 61 Q 9 (o0 :: o1 :: o2 :: o3 :: p :: l) (.int x :: st) H 0 0 = ma_W d 61 Q 11 (o0 :: o1 :: o2 :: ma_clr o3 :: some (.int x) :: l) st H 0 0 := wp_istore (id := 61) (pc := 9) (k := 4) rfl (Nat.succ_lt_succ (Nat.succ_lt_succ (Nat.succ_lt_succ (Nat.succ_lt_succ (Nat.zero_lt_succ _)))))
theorem w61_11 : ma_W d 61 Q 11 (o0 :: o1 :: o2 :: o3 :: some (.int x) :: l) st H 0 0 = ma_W d 61 Q 13 (o0 :: o1 :: o2 :: o3 :: some (.int x) :: l) (.int x :: st) H 0 0 := wp_iload rfl rfl
theorem w61_13 : ma_W d 61 Q 13 (o0 :: o1 :: some (.int x) :: l) st H 0 0 = ma_W d 61 Q 14 (o0 :: o1 :: some (.int x) :: l) (.int x :: st) H 0 0 := wp_iload_n rfl rfl
theorem w61_14 : ma_W d 61 Q 14 l (.int y :: .int x :: st) H 0 0 = ma_if (y ≤ x) d 61 Q 40 17 l st H 0 0 := wp_ic (id := 61) (pc := 14) (c := .ge) (off := 26) 40 rfl (by decide)
theorem w61_17 : ma_W d 61 Q 17 (some (.ref i) :: l) st H 0 0 = ma_W d 61 Q 18 (some (.ref i) :: l) (.ref i :: st) H 0 0 := wp_aload_n (x := some i) rfl rfl
theorem w61_18 : ma_W d 61 Q 18 l (.ref i :: st) H 0 0 = ma_gf (H.1 i) 6 2 (ma_kV d 61 Q 21 l st H 0 0) := wp_get rfl (by decide +kernel)
theorem w61_21 : ma_W d 61 Q 21 l (.ref i :: st) H 0 0 = (ma_cat st ≤ 8 ∧ ma_cv (H.1 i) 4 d 47 [.ref i] H (ma_kC d 61 Q 24 l st 0 0)) := wc_V0 (ia := 47) (n := 1) (cn := 4) rfl (by decide +kernel) (fun _ => rfl) rfl rfl
theorem w61_24 : ma_W d 61 Q 24 l (.int x :: st) H 0 0 = ma_if (x = 0) d 61 Q 27 40 l st H 0 0 := wp_c0 (id := 61) (pc := 24) (c := .ne) (off := 16) 40 rfl (by decide)
theorem w61_27 : ma_W d 61 Q 27 (some (.ref i) :: l) st H 0 0 = ma_W d 61 Q 28 (some (.ref i) :: l) (.ref i :: st) H 0 0 := wp_aload_n (x := some i) rfl rfl
theorem w61_28 : ma_W d 61 Q 28 l (.ref i :: st) H 0 0 = ma_gf (H.1 i) 6 2 (ma_kV d 61 Q 31 l st H 0 0) := wp_get rfl (by decide +kernel)
theorem w61_31 : ma_W d 61 Q 31 l (.ref i :: st) H 0 0 = (ma_cat st ≤ 8 ∧ ma_cv (H.1 i) 4 d 51 [.ref i] H (ma_kC d 61 Q 34 l st 0 0)) := wc_V0 (ia := 51) (n := 1) (cn := 4) rfl (by decide +kernel) (fun _ => rfl) rfl rfl
theorem w61_34 : ma_W d 61 Q 34 (o0 :: o1 :: o2 :: o3 :: some (.int x) :: l) st H 0 0 = ma_W d 61 Q 37 (o0 :: o1 :: o2 :: ma_clr o3 :: some (.int (x + 1)) :: l) st H 0 0 := wp_iinc (id := 61) (pc := 34) (k := 4) (n := 1) rfl (Nat.succ_lt_succ (Nat.succ_lt_succ (Nat.succ_lt_succ (Nat.succ_lt_succ (Nat.zero_lt_succ _))))) rfl (by decide)
theorem w61_37 : ma_W d 61 Q 37 l st H 0 0 = ma_W d 61 Q 11 l st H 0 0 := wp_goto 11 rfl (by decide)
theorem w61_40 : ma_W d 61 Q 40 (some (.ref i) :: l) st H 0 0 = ma_W d 61 Q 41 (some (.ref i) :: l) (.ref i :: st) H 0 0 := wp_aload_n (x := some i) rfl rfl
theorem w61_41 : ma_W d 61 Q 41 l (.ref i :: st) H 0 0 = ma_gf (H.1 i) 6 2 (ma_kV d 61 Q 44 l st H 0 0) := wp_get rfl (by decide +kernel)
theorem w61_44 : ma_W d 61 Q 44 (o0 :: o1 :: o2 :: some (.int x) :: l) st H 0 0 = ma_W d 61 Q 45 (o0 :: o1 :: o2 :: some (.int x) :: l) (.int x :: st) H 0 0 := wp_iload_n rfl rfl
theorem w61_45 : ma_W d 61 Q 45 l (.int x0 :: .ref i :: st) H 0 0 = (ma_cat st ≤ 8 ∧ ma_cv (H.1 i) 4 d 44 [.ref i, .int x0] H (ma_kC d 61 Q 48 l st 0 0)) := wc_V0 (ia := 44) (n := 2) (cn := 4) rfl (by decide +kernel) (fun _ => rfl) rfl rfl
theorem w61_48 : ma_W d 61 Q 48 l [.int x] H 0 0 = Q (some (.int x)) H := wp_iret rfl rfl
theorem e61 : ma_MW (d + 1) 61 [.ref i, .ref i0, .int x1, .int x2] H Q = ma_W d 61 Q 0 [some (.ref i), some (.ref i0), some (.int x1), some (.int x2), none] [] H 0 0 := wp_enter (by decide) (Nat.le_of_ble_eq_true rfl) rfl
/-! 62 tr_winner -/
theorem w62_0 : ma_W d 62 Q 0 (some (.ref i) :: l) st H 0 0 = ma_W d 62 Q 1 (some (.ref i) :: l) (.ref i :: st) H 0 0 := wp_aload_n (x := some i) rfl rfl
theorem w62_1 : ma_W d 62 Q 1 l (.ref i :: st) H 0 0 = ma_gf (H.1 i) 6 2 (ma_kV d 62 Q 4 l st H 0 0) := wp_get rfl (by decide +kernel)
theorem w62_4 : ma_W d 62 Q 4 (o0 :: some (.ref i) :: l) st H 0 0 = ma_W d 62 Q 5 (o0 :: some (.ref i) :: l) (.ref i :: st) H 0 0 := wp_aload_n (x := some i) rfl rfl
theorem w62_5 : ma_W d 62 Q 5 l (.ref i0 :: .ref i :: st) H 0 0 = (ma_cat st ≤ 8 ∧ ma_cv (H.1 i) 4 d 35 [.ref i, .ref i0] H (ma_kC d 62 Q 8 l st 0 0)) := wc_V0 (ia := 35) (n := 2) (cn := 4) rfl (by decide +kernel) (fun _ => rfl) rfl rfl
theorem w62_8 : ma_W d 62 Q 8 (some (.ref i) :: l) st H 0 0 = ma_W d 62 Q 9 (some (.ref i) :: l) (.ref i :: st) H 0 0 := wp_aload_n (x := some i) rfl rfl
theorem w62_9 : ma_W d 62 Q 9 l st H 0 0 = ma_W d 62 Q 12 l (.int 2000 :: st) H 0 0 := wp_sipush rfl (by decide)
theorem w62_12 : ma_W d 62 Q 12 l (.int x0 :: .ref i :: st) H 0 0 = (ma_cat st ≤ 8 ∧ ma_cv (H.1 i) 6 d 76 [.ref i, .int x0] H (ma_kC d 62 Q 15 l st 0 0)) := wc_V0 (ia := 76) (n := 2) (cn := 6) rfl (by decide +kernel) (fun _ => rfl) rfl rfl
theorem w62_15 : ma_W d 62 Q 15 l st H 0 0 = ma_W d 62 Q 16 l (.int (-1) :: st) H 0 0 := wp_iconst rfl (by decide)
theorem w62_16 : ma_W d 62 Q 16 l (.int y :: .int x :: st) H 0 0 = ma_if (x = y) d 62 Q 19 23 l st H 0 0 := wp_ic (id := 62) (pc := 16) (c := .ne) (off := 7) 23 rfl (by decide)
theorem w62_19 : ma_W d 62 Q 19 l st H 0 0 = ma_W d 62 Q 20 l (.int (-1) :: st) H 0 0 := wp_iconst rfl (by decide)
theorem w62_20 : ma_W d 62 Q 20 l st H 0 0 = ma_W d 62 Q 30 l st H 0 0 := wp_goto 30 rfl (by decide)
theorem w62_23 : ma_W d 62 Q 23 (some (.ref i) :: l) st H 0 0 = ma_W d 62 Q 24 (some (.ref i) :: l) (.ref i :: st) H 0 0 := wp_aload_n (x := some i) rfl rfl
theorem w62_24 : ma_W d 62 Q 24 l (.ref i :: st) H 0 0 = ma_gf (H.1 i) 6 2 (ma_kV d 62 Q 27 l st H 0 0) := wp_get rfl (by decide +kernel)
theorem w62_27 : ma_W d 62 Q 27 l (.ref i :: st) H 0 0 = (ma_cat st ≤ 8 ∧ ma_cv (H.1 i) 4 d 48 [.ref i] H (ma_kC d 62 Q 30 l st 0 0)) := wc_V0 (ia := 48) (n := 1) (cn := 4) rfl (by decide +kernel) (fun _ => rfl) rfl rfl
theorem w62_30 : ma_W d 62 Q 30 l [.int x] H 0 0 = Q (some (.int x)) H := wp_iret rfl rfl
theorem e62 : ma_MW (d + 1) 62 [.ref i, .ref i0] H Q = ma_W d 62 Q 0 [some (.ref i), some (.ref i0)] [] H 0 0 := wp_enter (by decide) (Nat.le_of_ble_eq_true rfl) rfl
/-! 63 tr_length -/
theorem w63_0 : ma_W d 63 Q 0 (some (.ref i) :: l) st H 0 0 = ma_W d 63 Q 1 (some (.ref i) :: l) (.ref i :: st) H 0 0 := wp_aload_n (x := some i) rfl rfl
theorem w63_1 : ma_W d 63 Q 1 l (.ref i :: st) H 0 0 = ma_gf (H.1 i) 6 2 (ma_kV d 63 Q 4 l st H 0 0) := wp_get rfl (by decide +kernel)
theorem w63_4 : ma_W d 63 Q 4 (o0 :: some (.ref i) :: l) st H 0 0 = ma_W d 63 Q 5 (o0 :: some (.ref i) :: l) (.ref i :: st) H 0 0 := wp_aload_n (x := some i) rfl rfl
theorem w63_5 : ma_W d 63 Q 5 l (.ref i0 :: .ref i :: st) H 0 0 = (ma_cat st ≤ 8 ∧ ma_cv (H.1 i) 4 d 35 [.ref i, .ref i0] H (ma_kC d 63 Q 8 l st 0 0)) := wc_V0 (ia := 35) (n := 2) (cn := 4) rfl (by decide +kernel) (fun _ => rfl) rfl rfl
theorem w63_8 : ma_W d 63 Q 8 (some (.ref i) :: l) st H 0 0 = ma_W d 63 Q 9 (some (.ref i) :: l) (.ref i :: st) H 0 0 := wp_aload_n (x := some i) rfl rfl
theorem w63_9 : ma_W d 63 Q 9 l st H 0 0 = ma_W d 63 Q 12 l (.int 2000 :: st) H 0 0 := wp_sipush rfl (by decide)
theorem w63_12 : ma_W d 63 Q 12 l (.int x0 :: .ref i :: st) H 0 0 = (ma_cat st ≤ 8 ∧ ma_cv (H.1 i) 6 d 76 [.ref i, .int x0] H (ma_kC d 63 Q 15 l st 0 0)) := wc_V0 (ia := 76) (n := 2) (cn := 6) rfl (by decide +kernel) (fun _ => rfl) rfl rfl
theorem w63_15 : ma_W d 63 Q 15 l [.int x] H 0 0 = Q (some (.int x)) H := wp_iret rfl rfl
theorem e63 : ma_MW (d + 1) 63 [.ref i, .ref i0] H Q = ma_W d 63 Q 0 [some (.ref i), some (.ref i0)] [] H 0 0 := wp_enter (by decide) (Nat.le_of_ble_eq_true rfl) rfl
/-! 64 tr_firstTaken -/
theorem w64_0 : ma_W d 64 Q 0 (some (.ref i) :: l) st H 0 0 = ma_W d 64 Q 1 (some (.ref i) :: l) (.ref i :: st) H 0 0 := wp_aload_n (x := some i) rfl rfl
theorem w64_1 : ma_W d 64 Q 1 (o0 :: some (.ref i) :: l) st H 0 0 = ma_W d 64 Q 2 (o0 :: some (.ref i) :: l) (.ref i :: st) H 0 0 := wp_aload_n (x := some i) rfl rfl
theorem w64_2 : ma_W d 64 Q 2 l st H 0 0 = ma_W d 64 Q 5 l (.int 200 :: st) H 0 0 := wp_sipush rfl (by decide)
theorem w64_5 : ma_W d 64 Q 5 (o0 :: o1 :: some (.int x) :: l) st H 0 0 = ma_W d 64 Q 6 (o0 :: o1 :: some (.int x) :: l) (.int x :: st) H 0 0 := wp_iload_n rfl rfl
theorem w64_6 : ma_W d 64 Q 6 l (.int x2 :: .int x1 :: .ref i0 :: .ref i :: st) H 0 0 = (ma_cat st ≤ 8 ∧ ma_cv (H.1 i) 6 d 210 [.ref i, .ref i0, .int x1, .int x2] H (ma_kC d 64 Q 9 l st 0 0)) := wc_V0 (ia := 210) (n := 4) (cn := 6) rfl (by decide +kernel) (fun _ => rfl) rfl rfl
theorem w64_9 : ma_W d 64 Q 9 l [.int x] H 0 0 = Q (some (.int x)) H := wp_iret rfl rfl
theorem e64 : ma_MW (d + 1) 64 [.ref i, .ref i0, .int x1] H Q = ma_W d 64 Q 0 [some (.ref i), some (.ref i0), some (.int x1)] [] H 0 0 := wp_enter (by decide) (Nat.le_of_ble_eq_true rfl) rfl
/-! 65 tr_comesRound -/
theorem w65_0 : ma_W d 65 Q 0 (some (.ref i) :: l) st H 0 0 = ma_W d 65 Q 1 (some (.ref i) :: l) (.ref i :: st) H 0 0 := wp_aload_n (x := some i) rfl rfl
theorem w65_1 : ma_W d 65 Q 1 (o0 :: some (.ref i) :: l) st H 0 0 = ma_W d 65 Q 2 (o0 :: some (.ref i) :: l) (.ref i :: st) H 0 0 := wp_aload_n (x := some i) rfl rfl
theorem w65_2 : ma_W d 65 Q 2 l st H 0 0 = ma_W d 65 Q 5 l (.int 500 :: st) H 0 0 := wp_sipush rfl (by decide)
theorem w65_5 : ma_W d 65 Q 5 l (.int x1 :: .ref i0 :: .ref i :: st) H 0 0 = (ma_cat st ≤ 8 ∧ ma_cv (H.1 i) 6 d 211 [.ref i, .ref i0, .int x1] H (ma_kC d 65 Q 8 l st 0 0)) := wc_V0 (ia := 211) (n := 3) (cn := 6) rfl (by decide +kernel) (fun _ => rfl) rfl rfl
theorem w65_8 : ma_W d 65 Q 8 l [.int x] H 0 0 = Q (some (.int x)) H := wp_iret rfl rfl
theorem e65 : ma_MW (d + 1) 65 [.ref i, .ref i0] H Q = ma_W d 65 Q 0 [some (.ref i), some (.ref i0)] [] H 0 0 := wp_enter (by decide) (Nat.le_of_ble_eq_true rfl) rfl
/-! 66 tr_seekExchange -/
theorem w66_0 : ma_W d 66 Q 0 (some (.ref i) :: l) st H 0 0 = ma_W d 66 Q 1 (some (.ref i) :: l) (.ref i :: st) H 0 0 := wp_aload_n (x := some i) rfl rfl
theorem w66_1 : ma_W d 66 Q 1 l st H 0 0 = ma_W d 66 Q 2 l (.int (-1) :: st) H 0 0 := wp_iconst rfl (by decide)
theorem w66_2 : ma_W d 66 Q 2 l (.int x :: .ref i :: st) H 0 0 = ma_pf (H.1 i) 6 0 (.int x) (ma_kH d 66 Q 5 l st H i 0 0) := wp_put rfl (by decide +kernel) (by decide +kernel) rfl rfl
theorem w66_5 : ma_W d 66 Q 5 (some (.ref i) :: l) st H 0 0 = ma_W d 66 Q 6 (some (.ref i) :: l) (.ref i :: st) H 0 0 := wp_aload_n (x := some i) rfl rfl
theorem w66_6 : ma_W d 66 Q 6 l st H 0 0 = ma_W d 66 Q 7 l (.int (-1) :: st) H 0 0 := wp_iconst rfl (by decide)
theorem w66_7 : ma_W d 66 Q 7 l (.int x :: .ref i :: st) H 0 0 = ma_pf (H.1 i) 6 1 (.int x) (ma_kH d 66 Q 10 l st H i 0 0) := wp_put rfl (by decide +kernel) (by decide +kernel) rfl rfl
theorem w66_10 : ma_W d 66 Q 10 (o0 :: some (.ref i) :: l) st H 0 0 = ma_W d 66 Q 11 (o0 :: some (.ref i) :: l) (.ref i :: st) H 0 0 := wp_aload_n (x := some i) rfl rfl
theorem w66_11 : ma_W d 66 Q 11 (o0 :: o1 :: some (.int x) :: l) st H 0 0 = ma_W d 66 Q 12 (o0 :: o1 :: some (.int x) :: l) (.int x :: st) H 0 0 := wp_iload_n rfl rfl
theorem w66_12 : ma_W d 66 Q 12 l (.int x0 :: .ref i :: st) H 0 0 = (ma_cat st ≤ 8 ∧ ma_cv (H.1 i) 4 d 37 [.ref i, .int x0] H (ma_kC d 66 Q 15 l st 0 0)) := wc_V0 (ia := 37) (n := 2) (cn := 4) rfl (by decide +kernel) (fun _ => rfl) rfl rfl
theorem w66_15 : ma_W d 66 Q 15 l (.long u0 :: st) H 0 0 = (ma_cat st ≤ 8 ∧ ma_MW d 202 [.long u0] H (ma_kC d 66 Q 18 l st 0 0)) := wc_S0 (ia := 202) (n := 1) (cn := 10) (k := 1) rfl (by decide +kernel) (by decide) (fun _ => rfl) rfl rfl
theorem w66_18 : ma_W d 66 Q 18 (o0 :: o1 :: o2 :: p :: l) (.int x :: st) H 0 0 = ma_W d 66 Q 19 (o0 :: o1 :: ma_clr o2 :: some (.int x) :: l) st H 0 0 := wp_istore_n (id := 66) (pc := 18) (k := 3) rfl (Nat.succ_lt_succ (Nat.succ_lt_succ (Nat.succ_lt_succ (Nat.zero_lt_succ _))))
theorem w66_19 : ma_W d 66 Q 19 (o0 :: some (.ref i) :: l) st H 0 0 = ma_W d 66 Q 20 (o0 :: some (.ref i) :: l) (.ref i :: st) H 0 0 := wp_aload_n (x := some i) rfl rfl
theorem w66_20 : ma_W d 66 Q 20 l st H 0 0 = ma_W d 66 Q 21 l (.int 1 :: st) H 0 0 := wp_iconst rfl (by decide)
theorem w66_21 : ma_W d 66 Q 21 (o0 :: o1 :: some (.int x) :: l) st H 0 0 = ma_W d 66 Q 22 (o0 :: o1 :: some (.int x) :: l) (.int x :: st) H 0 0 := wp_iload_n rfl rfl
theorem w66_22 : ma_W d 66 Q 22 l (.int y :: .int x :: st) H 0 0 = ma_W d 66 Q 23 l (.int (x - y) :: st) H 0 0 := wp_isub rfl
theorem w66_23 : ma_W d 66 Q 23 l (.int x0 :: .ref i :: st) H 0 0 = (ma_cat st ≤ 8 ∧ ma_cv (H.1 i) 4 d 37 [.ref i, .int x0] H (ma_kC d 66 Q 26 l st 0 0)) := wc_V0 (ia := 37) (n := 2) (cn := 4) rfl (by decide +kernel) (fun _ => rfl) rfl rfl
theorem w66_26 : ma_W d 66 Q 26 l (.long u0 :: st) H 0 0 = (ma_cat st ≤ 8 ∧ ma_MW d 202 [.long u0] H (ma_kC d 66 Q 29 l st 0 0)) := wc_S0 (ia := 202) (n := 1) (cn := 10) (k := 1) rfl (by decide +kernel) (by decide) (fun _ => rfl) rfl rfl
theorem w66_29 : ma_W d 66 Q 29 (o0 :: o1 :: o2 :: o3 :: p :: l) (.int x :: st) H 0 0 = ma_W d 66 Q 31 (o0 :: o1 :: o2 :: ma_clr o3 :: some (.int x) :: l) st H 0 0 := wp_istore (id := 66) (pc := 29) (k := 4) rfl (Nat.succ_lt_succ (Nat.succ_lt_succ (Nat.succ_lt_succ (Nat.succ_lt_succ (Nat.zero_lt_succ _)))))
theorem w66_31 : ma_W d 66 Q 31 l st H 0 0 = ma_W d 66 Q 32 l (.int 0 :: st) H 0 0 := wp_iconst rfl (by decide)
theorem w66_32 : ma_W d 66 Q 32 (o0 :: o1 :: o2 :: o3 :: o4 :: p :: l) (.int x :: st) H 0 0 = ma_W d 66 Q 34 (o0 :: o1 :: o2 :: o3 :: ma_clr o4 :: some (.int x) :: l) st H 0 0 := wp_istore (id := 66) (pc := 32) (k := 5) rfl (Nat.succ_lt_succ (Nat.succ_lt_succ (Nat.succ_lt_succ (Nat.succ_lt_succ (Nat.succ_lt_succ (Nat.zero_lt_succ _))))))
theorem w66_34 : ma_W d 66 Q 34 (o0 :: o1 :: o2 :: o3 :: o4 :: some (.int x) :: l) st H 0 0 = ma_W d 66 Q 36 (o0 :: o1 :: o2 :: o3 :: o4 :: some (.int x) :: l) (.int x :: st) H 0 0 := wp_iload rfl rfl
theorem w66_36 : ma_W d 66 Q 36 (o0 :: o1 :: o2 :: some (.int x) :: l) st H 0 0 = ma_W d 66 Q 37 (o0 :: o1 :: o2 :: some (.int x) :: l) (.int x :: st) H 0 0 := wp_iload_n rfl rfl
theorem w66_37 : ma_W d 66 Q 37 l (.int y :: .int x :: st) H 0 0 = ma_if (y ≤ x) d 66 Q 112 40 l st H 0 0 := wp_ic (id := 66) (pc := 37) (c := .ge) (off := 75) 112 rfl (by decide)
theorem w66_40 : ma_W d 66 Q 40 l st H 0 0 = ma_W d 66 Q 41 l (.int 0 :: st) H 0 0 := wp_iconst rfl (by decide)
theorem w66_41 : ma_W d 66 Q 41 (o0 :: o1 :: o2 :: o3 :: o4 :: o5 :: p :: l) (.int x :: st) H 0 0 = ma_W d 66 Q 43 (o0 :: o1 :: o2 :: o3 :: o4 :: ma_clr o5 :: some (.int x) :: l) st H 0 0 := wp_istore (id := 66) (pc := 41) (k := 6) rfl (Nat.succ_lt_succ (Nat.succ_lt_succ (Nat.succ_lt_succ (Nat.succ_lt_succ (Nat.succ_lt_succ (Nat.succ_lt_succ (Nat.zero_lt_succ _)))))))
theorem w66_43 : ma_W d 66 Q 43 (o0 :: o1 :: o2 :: o3 :: o4 :: o5 :: some (.int x) :: l) st H 0 0 = ma_W d 66 Q 45 (o0 :: o1 :: o2 :: o3 :: o4 :: o5 :: some (.int x) :: l) (.int x :: st) H 0 0 := wp_iload rfl rfl
theorem w66_45 : ma_W d 66 Q 45 (o0 :: o1 :: o2 :: o3 :: some (.int x) :: l) st H 0 0 = ma_W d 66 Q 47 (o0 :: o1 :: o2 :: o3 :: some (.int x) :: l) (.int x :: st) H 0 0 := wp_iload rfl rfl
theorem w66_47 : ma_W d 66 Q 47 l (.int y :: .int x :: st) H 0 0 = ma_if (y ≤ x) d 66 Q 106 50 l st H 0 0 := wp_ic (id := 66) (pc := 47) (c := .ge) (off := 59) 106 rfl (by decide)
theorem w66_50 : ma_W d 66 Q 50 (some (.ref i) :: l) st H 0 0 = ma_W d 66 Q 51 (some (.ref i) :: l) (.ref i :: st) H 0 0 := wp_aload_n (x := some i) rfl rfl
theorem w66_51 : ma_W d 66 Q 51 l (.ref i :: st) H 0 0 = ma_gf (H.1 i) 6 2 (ma_kV d 66 Q 54 l st H 0 0) := wp_get rfl (by decide +kernel)
theorem w66_54 : ma_W d 66 Q 54 (o0 :: some (.ref i) :: l) st H 0 0 = ma_W d 66 Q 55 (o0 :: some (.ref i) :: l) (.ref i :: st) H 0 0 := wp_aload_n (x := some i) rfl rfl
theorem w66_55 : ma_W d 66 Q 55 l (.ref i0 :: .ref i :: st) H 0 0 = (ma_cat st ≤ 8 ∧ ma_cv (H.1 i) 4 d 35 [.ref i, .ref i0] H (ma_kC d 66 Q 58 l st 0 0)) := wc_V0 (ia := 35) (n := 2) (cn := 4) rfl (by decide +kernel) (fun _ => rfl) rfl rfl
theorem w66_58 : ma_W d 66 Q 58 (some (.ref i) :: l) st H 0 0 = ma_W d 66 Q 59 (some (.ref i) :: l) (.ref i :: st) H 0 0 := wp_aload_n (x := some i) rfl rfl
theorem w66_59 : ma_W d 66 Q 59 l (.ref i :: st) H 0 0 = ma_gf (H.1 i) 6 2 (ma_kV d 66 Q 62 l st H 0 0) := wp_get rfl (by decide +kernel)
theorem w66_62 : ma_W d 66 Q 62 (o0 :: o1 :: some (.int x) :: l) st H 0 0 = ma_W d 66 Q 63 (o0 :: o1 :: some (.int x) :: l) (.int x :: st) H 0 0 := wp_iload_n rfl rfl
theorem w66_63 : ma_W d 66 Q 63 l (.int x :: st) H 0 0 = ma_if (x = 0) d 66 Q 66 71 l st H 0 0 := wp_c0 (id := 66) (pc := 63) (c := .ne) (off := 8) 71 rfl (by decide)
theorem w66_66 : ma_W d 66 Q 66 (o0 :: o1 :: o2 :: o3 :: o4 :: some (.int x) :: l) st H 0 0 = ma_W d 66 Q 68 (o0 :: o1 :: o2 :: o3 :: o4 :: some (.int x) :: l) (.int x :: st) H 0 0 := wp_iload rfl rfl
theorem w66_68 : ma_W d 66 Q 68 l st H 0 0 = ma_W d 66 Q 73 l st H 0 0 := wp_goto 73 rfl (by decide)
theorem w66_71 : ma_W d 66 Q 71 (o0 :: o1 :: o2 :: o3 :: o4 :: o5 :: some (.int x) :: l) st H 0 0 = ma_W d 66 Q 73 (o0 :: o1 :: o2 :: o3 :: o4 :: o5 :: some (.int x) :: l) (.int x :: st) H 0 0 := wp_iload rfl rfl
theorem w66_73 : ma_W d 66 Q 73 (o0 :: o1 :: some (.int x) :: l) st H 0 0 = ma_W d 66 Q 74 (o0 :: o1 :: some (.int x) :: l) (.int x :: st) H 0 0 := wp_iload_n rfl rfl
theorem w66_74 : ma_W d 66 Q 74 l (.int x :: st) H 0 0 = ma_if (x = 0) d 66 Q 77 82 l st H 0 0 := wp_c0 (id := 66) (pc := 74) (c := .ne) (off := 8) 82 rfl (by decide)
theorem w66_77 : ma_W d 66 Q 77 (o0 :: o1 :: o2 :: o3 :: o4 :: o5 :: some (.int x) :: l) st H 0 0 = ma_W d 66 Q 79 (o0 :: o1 :: o2 :: o3 :: o4 :: o5 :: some (.int x) :: l) (.int x :: st) H 0 0 := wp_iload rfl rfl
theorem w66_79 : ma_W d 66 Q 79 l st H 0 0 = ma_W d 66 Q 84 l st H 0 0 := wp_goto 84 rfl (by decide)
theorem w66_82 : ma_W d 66 Q 82 (o0 :: o1 :: o2 :: o3 :: o4 :: some (.int x) :: l) st H 0 0 = ma_W d 66 Q 84 (o0 :: o1 :: o2 :: o3 :: o4 :: some (.int x) :: l) (.int x :: st) H 0 0 := wp_iload rfl rfl
theorem w66_84 : ma_W d 66 Q 84 l (.int x1 :: .int x0 :: .ref i :: st) H 0 0 = (ma_cat st ≤ 8 ∧ ma_cv (H.1 i) 4 d 46 [.ref i, .int x0, .int x1] H (ma_kC d 66 Q 87 l st 0 0)) := wc_V0 (ia := 46) (n := 3) (cn := 4) rfl (by decide +kernel) (fun _ => rfl) rfl rfl
theorem w66_87 : ma_W d 66 Q 87 (some (.ref i) :: l) st H 0 0 = ma_W d 66 Q 88 (some (.ref i) :: l) (.ref i :: st) H 0 0 := wp_aload_n (x := some i) rfl rfl
theorem w66_88 : ma_W d 66 Q 88 (o0 :: o1 :: some (.int x) :: l) st H 0 0 = ma_W d 66 Q 89 (o0 :: o1 :: some (.int x) :: l) (.int x :: st) H 0 0 := wp_iload_n rfl rfl
theorem w66_89 : ma_W d 66 Q 89 l st H 0 0 = ma_W d 66 Q 91 l (.int 100 :: st) H 0 0 := wp_bipush rfl (by decide)
theorem w66_91 : ma_W d 66 Q 91 (o0 :: o1 :: o2 :: o3 :: o4 :: some (.int x) :: l) st H 0 0 = ma_W d 66 Q 93 (o0 :: o1 :: o2 :: o3 :: o4 :: some (.int x) :: l) (.int x :: st) H 0 0 := wp_iload rfl rfl
theorem w66_93 : ma_W d 66 Q 93 l (.int y :: .int x :: st) H 0 0 = ma_W d 66 Q 94 l (.int (x * y) :: st) H 0 0 := wp_imul rfl
theorem w66_94 : ma_W d 66 Q 94 (o0 :: o1 :: o2 :: o3 :: o4 :: o5 :: some (.int x) :: l) st H 0 0 = ma_W d 66 Q 96 (o0 :: o1 :: o2 :: o3 :: o4 :: o5 :: some (.int x) :: l) (.int x :: st) H 0 0 := wp_iload rfl rfl
theorem w66_96 : ma_W d 66 Q 96 l (.int y :: .int x :: st) H 0 0 = ma_W d 66 Q 97 l (.int (x + y) :: st) H 0 0 := wp_iadd rfl
theorem w66_97 : ma_W d 66 Q 97 l (.int x1 :: .int x0 :: .ref i :: st) H 0 0 = (ma_cat st ≤ 8 ∧ ma_cv (H.1 i) 6 d 68 [.ref i, .int x0, .int x1] H (ma_kC d 66 Q 100 l st 0 0)) := wc_V0 (ia := 68) (n := 3) (cn := 6) rfl (by decide +kernel) (fun _ => rfl) rfl rfl
theorem w66_100 : ma_W d 66 Q 100 (o0 :: o1 :: o2 :: o3 :: o4 :: o5 :: some (.int x) :: l) st H 0 0 = ma_W d 66 Q 103 (o0 :: o1 :: o2 :: o3 :: o4 :: ma_clr o5 :: some (.int (x + 1)) :: l) st H 0 0 := wp_iinc (id := 66) (pc := 100) (k := 6) (n := 1) rfl (Nat.succ_lt_succ (Nat.succ_lt_succ (Nat.succ_lt_succ (Nat.succ_lt_succ (Nat.succ_lt_succ (Nat.succ_lt_succ (Nat.zero_lt_succ _))))))) rfl (by decide)
theorem w66_103 : ma_W d 66 Q 103 l st H 0 0 = ma_W d 66 Q 43 l st H 0 0 := wp_goto 43 rfl (by decide)
theorem w66_106 : ma_W d 66 Q 106 (o0 :: o1 :: o2 :: o3 :: o4 :: some (.int x) :: l) st H 0 0 = ma_W d 66 Q 109 (o0 :: o1 :: o2 :: o3 :: ma_clr o4 :: some (.int (x + 1)) :: l) st H 0 0 := wp_iinc (id := 66) (pc := 106) (k := 5) (n := 1) rfl (Nat.succ_lt_succ (Nat.succ_lt_succ (Nat.succ_lt_succ (Nat.succ_lt_succ (Nat.succ_lt_succ (Nat.zero_lt_succ _)))))) rfl (by decide)
theorem w66_109 : ma_W d 66 Q 109 l st H 0 0 = ma_W d 66 Q 34 l st H 0 0 := wp_goto 34 rfl (by decide)
theorem w66_112 : ma_W d 66 Q 112 l [] H 0 0 = Q none H := wp_vret rfl rfl
theorem e66 : ma_MW (d + 1) 66 [.ref i, .ref i0, .int x1] H Q = ma_W d 66 Q 0 [some (.ref i), some (.ref i0), some (.int x1), none, none, none, none] [] H 0 0 := wp_enter (by decide) (Nat.le_of_ble_eq_true rfl) rfl
/-! 67 tr_seekCut -/
theorem w67_0 : ma_W d 67 Q 0 (some (.ref i) :: l) st H 0 0 = ma_W d 67 Q 1 (some (.ref i) :: l) (.ref i :: st) H 0 0 := wp_aload_n (x := some i) rfl rfl
theorem w67_1 : ma_W d 67 Q 1 l st H 0 0 = ma_W d 67 Q 2 l (.int (-1) :: st) H 0 0 := wp_iconst rfl (by decide)
theorem w67_2 : ma_W d 67 Q 2 l (.int x :: .ref i :: st) H 0 0 = ma_pf (H.1 i) 6 0 (.int x) (ma_kH d 67 Q 5 l st H i 0 0) := wp_put rfl (by decide +kernel) (by decide +kernel) rfl rfl
theorem w67_5 : ma_W d 67 Q 5 (some (.ref i) :: l) st H 0 0 = ma_W d 67 Q 6 (some (.ref i) :: l) (.ref i :: st) H 0 0 := wp_aload_n (x := some i) rfl rfl
theorem w67_6 : ma_W d 67 Q 6 l st H 0 0 = ma_W d 67 Q 7 l (.int (-1) :: st) H 0 0 := wp_iconst rfl (by decide)
theorem w67_7 : ma_W d 67 Q 7 l (.int x :: .ref i :: st) H 0 0 = ma_pf (H.1 i) 6 1 (.int x) (ma_kH d 67 Q 10 l st H i 0 0) := wp_put rfl (by decide +kernel) (by decide +kernel) rfl rfl
theorem w67_10 : ma_W d 67 Q 10 (o0 :: some (.ref i) :: l) st H 0 0 = ma_W d 67 Q 11 (o0 :: some (.ref i) :: l) (.ref i :: st) H 0 0 := wp_aload_n (x := some i) rfl rfl
theorem w67_11 : ma_W d 67 Q 11 (o0 :: o1 :: some (.int x) :: l) st H 0 0 = ma_W d 67 Q 12 (o0 :: o1 :: some (.int x) :: l) (.int x :: st) H 0 0 := wp_iload_n rfl rfl
theorem w67_12 : ma_W d 67 Q 12 l (.int x0 :: .ref i :: st) H 0 0 = (ma_cat st ≤ 8 ∧ ma_cv (H.1 i) 4 d 37 [.ref i, .int x0] H (ma_kC d 67 Q 15 l st 0 0)) := wc_V0 (ia := 37) (n := 2) (cn := 4) rfl (by decide +kernel) (fun _ => rfl) rfl rfl
theorem w67_15 : ma_W d 67 Q 15 l (.long u0 :: st) H 0 0 = (ma_cat st ≤ 8 ∧ ma_MW d 202 [.long u0] H (ma_kC d 67 Q 18 l st 0 0)) := wc_S0 (ia := 202) (n := 1) (cn := 10) (k := 1) rfl (by decide +kernel) (by decide) (fun _ => rfl) rfl rfl
theorem w67_18 : ma_W d 67 Q 18 (o0 :: o1 :: o2 :: p :: l) (.int x :: st) H 0 0 = ma_W d 67 Q 19 (o0 :: o1 :: ma_clr o2 :: some (.int x) :: l) st H 0 0 := wp_istore_n (id := 67) (pc := 18) (k := 3) rfl (Nat.succ_lt_succ (Nat.succ_lt_succ (Nat.succ_lt_succ (Nat.zero_lt_succ _))))
theorem w67_19 : ma_W d 67 Q 19 l st H 0 0 = ma_W d 67 Q 20 l (.int 0 :: st) H 0 0 := wp_iconst rfl (by decide)
theorem w67_20 : ma_W d 67 Q 20 (o0 :: o1 :: o2 :: o3 :: p :: l) (.int x :: st) H 0 0 = ma_W d 67 Q 22 (o0 :: o1 :: o2 :: ma_clr o3 :: some (.int x) :: l) st H 0 0 := wp_istore (id := 67) (pc := 20) (k := 4) rfl (Nat.succ_lt_succ (Nat.succ_lt_succ (Nat.succ_lt_succ (Nat.succ_lt_succ (Nat.zero_lt_succ _)))))
theorem w67_22 : ma_W d 67 Q 22 (o0 :: o1 :: o2 :: o3 :: some (.int x) :: l) st H 0 0 = ma_W d 67 Q 24 (o0 :: o1 :: o2 :: o3 :: some (.int x) :: l) (.int x :: st) H 0 0 := wp_iload rfl rfl
theorem w67_24 : ma_W d 67 Q 24 (o0 :: o1 :: o2 :: some (.int x) :: l) st H 0 0 = ma_W d 67 Q 25 (o0 :: o1 :: o2 :: some (.int x) :: l) (.int x :: st) H 0 0 := wp_iload_n rfl rfl
theorem w67_25 : ma_W d 67 Q 25 l (.int y :: .int x :: st) H 0 0 = ma_if (y ≤ x) d 67 Q 68 28 l st H 0 0 := wp_ic (id := 67) (pc := 25) (c := .ge) (off := 43) 68 rfl (by decide)
theorem w67_28 : ma_W d 67 Q 28 (some (.ref i) :: l) st H 0 0 = ma_W d 67 Q 29 (some (.ref i) :: l) (.ref i :: st) H 0 0 := wp_aload_n (x := some i) rfl rfl
theorem w67_29 : ma_W d 67 Q 29 l (.ref i :: st) H 0 0 = ma_gf (H.1 i) 6 2 (ma_kV d 67 Q 32 l st H 0 0) := wp_get rfl (by decide +kernel)
theorem w67_32 : ma_W d 67 Q 32 (o0 :: some (.ref i) :: l) st H 0 0 = ma_W d 67 Q 33 (o0 :: some (.ref i) :: l) (.ref i :: st) H 0 0 := wp_aload_n (x := some i) rfl rfl
theorem w67_33 : ma_W d 67 Q 33 l (.ref i0 :: .ref i :: st) H 0 0 = (ma_cat st ≤ 8 ∧ ma_cv (H.1 i) 4 d 35 [.ref i, .ref i0] H (ma_kC d 67 Q 36 l st 0 0)) := wc_V0 (ia := 35) (n := 2) (cn := 4) rfl (by decide +kernel) (fun _ => rfl) rfl rfl
theorem w67_36 : ma_W d 67 Q 36 (some (.ref i) :: l) st H 0 0 = ma_W d 67 Q 37 (some (.ref i) :: l) (.ref i :: st) H 0 0 := wp_aload_n (x := some i) rfl rfl
theorem w67_37 : ma_W d 67 Q 37 l (.ref i :: st) H 0 0 = ma_gf (H.1 i) 6 2 (ma_kV d 67 Q 40 l st H 0 0) := wp_get rfl (by decide +kernel)
theorem w67_40 : ma_W d 67 Q 40 (o0 :: o1 :: some (.int x) :: l) st H 0 0 = ma_W d 67 Q 41 (o0 :: o1 :: some (.int x) :: l) (.int x :: st) H 0 0 := wp_iload_n rfl rfl
theorem w67_41 : ma_W d 67 Q 41 (o0 :: some (.ref i) :: l) st H 0 0 = ma_W d 67 Q 42 (o0 :: some (.ref i) :: l) (.ref i :: st) H 0 0 := wp_aload_n (x := some i) rfl rfl
theorem w67_42 : ma_W d 67 Q 42 (o0 :: o1 :: some (.int x) :: l) st H 0 0 = ma_W d 67 Q 43 (o0 :: o1 :: some (.int x) :: l) (.int x :: st) H 0 0 := wp_iload_n rfl rfl
theorem w67_43 : ma_W d 67 Q 43 l (.int x0 :: .ref i :: st) H 0 0 = (ma_cat st ≤ 8 ∧ ma_cv (H.1 i) 4 d 37 [.ref i, .int x0] H (ma_kC d 67 Q 46 l st 0 0)) := wc_V0 (ia := 37) (n := 2) (cn := 4) rfl (by decide +kernel) (fun _ => rfl) rfl rfl
theorem w67_46 : ma_W d 67 Q 46 (o0 :: o1 :: o2 :: o3 :: some (.int x) :: l) st H 0 0 = ma_W d 67 Q 48 (o0 :: o1 :: o2 :: o3 :: some (.int x) :: l) (.int x :: st) H 0 0 := wp_iload rfl rfl
theorem w67_48 : ma_W d 67 Q 48 l (.int x :: st) H 0 0 = ma_W d 67 Q 49 l (.long x.toInt64 :: st) H 0 0 := wp_i2l rfl
theorem w67_49 : ma_W d 67 Q 49 l (.long u1 :: .long u0 :: st) H 0 0 = (ma_cat st ≤ 8 ∧ ma_MW d 207 [.long u0, .long u1] H (ma_kC d 67 Q 52 l st 0 0)) := wc_S0 (ia := 207) (n := 2) (cn := 10) (k := 1) rfl (by decide +kernel) (by decide) (fun _ => rfl) rfl rfl
theorem w67_52 : ma_W d 67 Q 52 l (.long u1 :: .int x0 :: .ref i :: st) H 0 0 = (ma_cat st ≤ 8 ∧ ma_cv (H.1 i) 4 d 38 [.ref i, .int x0, .long u1] H (ma_kC d 67 Q 55 l st 0 0)) := wc_V0 (ia := 38) (n := 3) (cn := 4) rfl (by decide +kernel) (fun _ => rfl) rfl rfl
theorem w67_55 : ma_W d 67 Q 55 (some (.ref i) :: l) st H 0 0 = ma_W d 67 Q 56 (some (.ref i) :: l) (.ref i :: st) H 0 0 := wp_aload_n (x := some i) rfl rfl
theorem w67_56 : ma_W d 67 Q 56 (o0 :: o1 :: some (.int x) :: l) st H 0 0 = ma_W d 67 Q 57 (o0 :: o1 :: some (.int x) :: l) (.int x :: st) H 0 0 := wp_iload_n rfl rfl
theorem w67_57 : ma_W d 67 Q 57 (o0 :: o1 :: o2 :: o3 :: some (.int x) :: l) st H 0 0 = ma_W d 67 Q 59 (o0 :: o1 :: o2 :: o3 :: some (.int x) :: l) (.int x :: st) H 0 0 := wp_iload rfl rfl
theorem w67_59 : ma_W d 67 Q 59 l (.int x1 :: .int x0 :: .ref i :: st) H 0 0 = (ma_cat st ≤ 8 ∧ ma_cv (H.1 i) 6 d 68 [.ref i, .int x0, .int x1] H (ma_kC d 67 Q 62 l st 0 0)) := wc_V0 (ia := 68) (n := 3) (cn := 6) rfl (by decide +kernel) (fun _ => rfl) rfl rfl
theorem w67_62 : ma_W d 67 Q 62 (o0 :: o1 :: o2 :: o3 :: some (.int x) :: l) st H 0 0 = ma_W d 67 Q 65 (o0 :: o1 :: o2 :: ma_clr o3 :: some (.int (x + 1)) :: l) st H 0 0 := wp_iinc (id := 67) (pc := 62) (k := 4) (n := 1) rfl (Nat.succ_lt_succ (Nat.succ_lt_succ (Nat.succ_lt_succ (Nat.succ_lt_succ (Nat.zero_lt_succ _))))) rfl (by decide)
theorem w67_65 : ma_W d 67 Q 65 l st H 0 0 = ma_W d 67 Q 22 l st H 0 0 := wp_goto 22 rfl (by decide)
theorem w67_68 : ma_W d 67 Q 68 l [] H 0 0 = Q none H := wp_vret rfl rfl
theorem e67 : ma_MW (d + 1) 67 [.ref i, .ref i0, .int x1] H Q = ma_W d 67 Q 0 [some (.ref i), some (.ref i0), some (.int x1), none, none] [] H 0 0 := wp_enter (by decide) (Nat.le_of_ble_eq_true rfl) rfl
/-! 68 tr_keepIfSooner -/
theorem w68_0 : ma_W d 68 Q 0 (some (.ref i) :: l) st H 0 0 = ma_W d 68 Q 1 (some (.ref i) :: l) (.ref i :: st) H 0 0 := wp_aload_n (x := some i) rfl rfl
theorem w68_1 : ma_W d 68 Q 1 (some (.ref i) :: l) st H 0 0 = ma_W d 68 Q 2 (some (.ref i) :: l) (.ref i :: st) H 0 0 := wp_aload_n (x := some i) rfl rfl
theorem w68_2 : ma_W d 68 Q 2 l (.ref i :: st) H 0 0 = ma_gf (H.1 i) 6 1 (ma_kV d 68 Q 5 l st H 0 0) := wp_get rfl (by decide +kernel)
theorem w68_5 : ma_W d 68 Q 5 l st H 0 0 = ma_W d 68 Q 6 l (.int (-1) :: st) H 0 0 := wp_iconst rfl (by decide)
theorem w68_6 : ma_W d 68 Q 6 l (.int y :: .int x :: st) H 0 0 = ma_if (x = y) d 68 Q 9 15 l st H 0 0 := wp_ic (id := 68) (pc := 6) (c := .ne) (off := 9) 15 rfl (by decide)
theorem w68_9 : ma_W d 68 Q 9 l st H 0 0 = ma_W d 68 Q 12 l (.int 2000 :: st) H 0 0 := wp_sipush rfl (by decide)
theorem w68_12 : ma_W d 68 Q 12 l st H 0 0 = ma_W d 68 Q 21 l st H 0 0 := wp_goto 21 rfl (by decide)
theorem w68_15 : ma_W d 68 Q 15 (some (.ref i) :: l) st H 0 0 = ma_W d 68 Q 16 (some (.ref i) :: l) (.ref i :: st) H 0 0 := wp_aload_n (x := some i) rfl rfl
theorem w68_16 : ma_W d 68 Q 16 l (.ref i :: st) H 0 0 = ma_gf (H.1 i) 6 1 (ma_kV d 68 Q 19 l st H 0 0) := wp_get rfl (by decide +kernel)
theorem w68_19 : ma_W d 68 Q 19 l st H 0 0 = ma_W d 68 Q 20 l (.int 1 :: st) H 0 0 := wp_iconst rfl (by decide)
theorem w68_20 : ma_W d 68 Q 20 l (.int y :: .int x :: st) H 0 0 = ma_W d 68 Q 21 l (.int (x - y) :: st) H 0 0 := wp_isub rfl
theorem w68_21 : ma_W d 68 Q 21 l (.int x0 :: .ref i :: st) H 0 0 = (ma_cat st ≤ 8 ∧ ma_cv (H.1 i) 6 d 76 [.ref i, .int x0] H (ma_kC d 68 Q 24 l st 0 0)) := wc_V0 (ia := 76) (n := 2) (cn := 6) rfl (by decide +kernel) (fun _ => rfl) rfl rfl
theorem w68_24 : ma_W d 68 Q 24 (o0 :: o1 :: o2 :: p :: l) (.int x :: st) H 0 0 = ma_W d 68 Q 25 (o0 :: o1 :: ma_clr o2 :: some (.int x) :: l) st H 0 0 := wp_istore_n (id := 68) (pc := 24) (k := 3) rfl (Nat.succ_lt_succ (Nat.succ_lt_succ (Nat.succ_lt_succ (Nat.zero_lt_succ _))))
theorem w68_25 : ma_W d 68 Q 25 (o0 :: o1 :: o2 :: some (.int x) :: l) st H 0 0 = ma_W d 68 Q 26 (o0 :: o1 :: o2 :: some (.int x) :: l) (.int x :: st) H 0 0 := wp_iload_n rfl rfl
theorem w68_26 : ma_W d 68 Q 26 l st H 0 0 = ma_W d 68 Q 27 l (.int (-1) :: st) H 0 0 := wp_iconst rfl (by decide)
theorem w68_27 : ma_W d 68 Q 27 l (.int y :: .int x :: st) H 0 0 = ma_if (x = y) d 68 Q 51 30 l st H 0 0 := wp_ic (id := 68) (pc := 27) (c := .eq) (off := 24) 51 rfl (by decide)
theorem w68_30 : ma_W d 68 Q 30 (some (.ref i) :: l) st H 0 0 = ma_W d 68 Q 31 (some (.ref i) :: l) (.ref i :: st) H 0 0 := wp_aload_n (x := some i) rfl rfl
theorem w68_31 : ma_W d 68 Q 31 l (.ref i :: st) H 0 0 = ma_gf (H.1 i) 6 2 (ma_kV d 68 Q 34 l st H 0 0) := wp_get rfl (by decide +kernel)
theorem w68_34 : ma_W d 68 Q 34 l (.ref i :: st) H 0 0 = (ma_cat st ≤ 8 ∧ ma_cv (H.1 i) 4 d 48 [.ref i] H (ma_kC d 68 Q 37 l st 0 0)) := wc_V0 (ia := 48) (n := 1) (cn := 4) rfl (by decide +kernel) (fun _ => rfl) rfl rfl
theorem w68_37 : ma_W d 68 Q 37 (o0 :: some (.int x) :: l) st H 0 0 = ma_W d 68 Q 38 (o0 :: some (.int x) :: l) (.int x :: st) H 0 0 := wp_iload_n rfl rfl
theorem w68_38 : ma_W d 68 Q 38 l (.int y :: .int x :: st) H 0 0 = ma_if (x = y) d 68 Q 41 51 l st H 0 0 := wp_ic (id := 68) (pc := 38) (c := .ne) (off := 13) 51 rfl (by decide)
theorem w68_41 : ma_W d 68 Q 41 (some (.ref i) :: l) st H 0 0 = ma_W d 68 Q 42 (some (.ref i) :: l) (.ref i :: st) H 0 0 := wp_aload_n (x := some i) rfl rfl
theorem w68_42 : ma_W d 68 Q 42 (o0 :: o1 :: o2 :: some (.int x) :: l) st H 0 0 = ma_W d 68 Q 43 (o0 :: o1 :: o2 :: some (.int x) :: l) (.int x :: st) H 0 0 := wp_iload_n rfl rfl
theorem w68_43 : ma_W d 68 Q 43 l (.int x :: .ref i :: st) H 0 0 = ma_pf (H.1 i) 6 1 (.int x) (ma_kH d 68 Q 46 l st H i 0 0) := wp_put rfl (by decide +kernel) (by decide +kernel) rfl rfl
theorem w68_46 : ma_W d 68 Q 46 (some (.ref i) :: l) st H 0 0 = ma_W d 68 Q 47 (some (.ref i) :: l) (.ref i :: st) H 0 0 := wp_aload_n (x := some i) rfl rfl
theorem w68_47 : ma_W d 68 Q 47 (o0 :: o1 :: some (.int x) :: l) st H 0 0 = ma_W d 68 Q 48 (o0 :: o1 :: some (.int x) :: l) (.int x :: st) H 0 0 := wp_iload_n rfl rfl
theorem w68_48 : ma_W d 68 Q 48 l (.int x :: .ref i :: st) H 0 0 = ma_pf (H.1 i) 6 0 (.int x) (ma_kH d 68 Q 51 l st H i 0 0) := wp_put rfl (by decide +kernel) (by decide +kernel) rfl rfl
theorem w68_51 : ma_W d 68 Q 51 l [] H 0 0 = Q none H := wp_vret rfl rfl
theorem e68 : ma_MW (d + 1) 68 [.ref i, .int x0, .int x1] H Q = ma_W d 68 Q 0 [some (.ref i), some (.int x0), some (.int x1), none] [] H 0 0 := wp_enter (by decide) (Nat.le_of_ble_eq_true rfl) rfl
/-! 69 tr_playAllKinds -/
theorem w69_0 : ma_W d 69 Q 0 l st H 0 0 = ma_W d 69 Q 1 l (.int 0 :: st) H 0 0 := wp_iconst rfl (by decide)
theorem w69_1 : ma_W d 69 Q 1 (o0 :: o1 :: p :: l) (.int x :: st) H 0 0 = ma_W d 69 Q 2 (o0 :: ma_clr o1 :: some (.int x) :: l) st H 0 0 := wp_istore_n (id := 69) (pc := 1) (k := 2) rfl (Nat.succ_lt_succ (Nat.succ_lt_succ (Nat.zero_lt_succ _)))
theorem w69_2 : ma_W d 69 Q 2 (o0 :: o1 :: some (.int x) :: l) st H 0 0 = ma_W d 69 Q 3 (o0 :: o1 :: some (.int x) :: l) (.int x :: st) H 0 0 := wp_iload_n rfl rfl
theorem w69_3 : ma_W d 69 Q 3 l st H 0 0 = ma_W d 69 Q 5 l (.int 6 :: st) H 0 0 := wp_bipush rfl (by decide)
theorem w69_5 : ma_W d 69 Q 5 l (.int y :: .int x :: st) H 0 0 = ma_if (y ≤ x) d 69 Q 107 8 l st H 0 0 := wp_ic (id := 69) (pc := 5) (c := .ge) (off := 102) 107 rfl (by decide)
theorem w69_8 : ma_W d 69 Q 8 l st H 0 0 = ma_W d 69 Q 9 l (.int 0 :: st) H 0 0 := wp_iconst rfl (by decide)
theorem w69_9 : ma_W d 69 Q 9 (o0 :: o1 :: o2 :: p :: l) (.int x :: st) H 0 0 = ma_W d 69 Q 10 (o0 :: o1 :: ma_clr o2 :: some (.int x) :: l) st H 0 0 := wp_istore_n (id := 69) (pc := 9) (k := 3) rfl (Nat.succ_lt_succ (Nat.succ_lt_succ (Nat.succ_lt_succ (Nat.zero_lt_succ _))))
theorem w69_10 : ma_W d 69 Q 10 (o0 :: o1 :: o2 :: some (.int x) :: l) st H 0 0 = ma_W d 69 Q 11 (o0 :: o1 :: o2 :: some (.int x) :: l) (.int x :: st) H 0 0 := wp_iload_n rfl rfl
theorem w69_11 : ma_W d 69 Q 11 l st H 0 0 = ma_W d 69 Q 13 l (.int 6 :: st) H 0 0 := wp_bipush rfl (by decide)
theorem w69_13 : ma_W d 69 Q 13 l (.int y :: .int x :: st) H 0 0 = ma_if (y ≤ x) d 69 Q 101 16 l st H 0 0 := wp_ic (id := 69) (pc := 13) (c := .ge) (off := 88) 101 rfl (by decide)
theorem w69_16 : ma_W d 69 Q 16 (some (.ref i) :: l) st H 0 0 = ma_W d 69 Q 17 (some (.ref i) :: l) (.ref i :: st) H 0 0 := wp_aload_n (x := some i) rfl rfl
theorem w69_17 : ma_W d 69 Q 17 l (.ref i :: st) H 0 0 = ma_gf (H.1 i) 6 2 (ma_kV d 69 Q 20 l st H 0 0) := wp_get rfl (by decide +kernel)
theorem w69_20 : ma_W d 69 Q 20 (o0 :: some (.ref i) :: l) st H 0 0 = ma_W d 69 Q 21 (o0 :: some (.ref i) :: l) (.ref i :: st) H 0 0 := wp_aload_n (x := some i) rfl rfl
theorem w69_21 : ma_W d 69 Q 21 l (.ref i0 :: .ref i :: st) H 0 0 = (ma_cat st ≤ 8 ∧ ma_cv (H.1 i) 4 d 35 [.ref i, .ref i0] H (ma_kC d 69 Q 24 l st 0 0)) := wc_V0 (ia := 35) (n := 2) (cn := 4) rfl (by decide +kernel) (fun _ => rfl) rfl rfl
theorem w69_24 : ma_W d 69 Q 24 (some (.ref i) :: l) st H 0 0 = ma_W d 69 Q 25 (some (.ref i) :: l) (.ref i :: st) H 0 0 := wp_aload_n (x := some i) rfl rfl
theorem w69_25 : ma_W d 69 Q 25 l (.ref i :: st) H 0 0 = ma_gf (H.1 i) 6 2 (ma_kV d 69 Q 28 l st H 0 0) := wp_get rfl (by decide +kernel)
theorem w69_28 : ma_W d 69 Q 28 l st H 0 0 = ma_W d 69 Q 29 l (.int 0 :: st) H 0 0 := wp_iconst rfl (by decide)
theorem w69_29 : ma_W d 69 Q 29 (o0 :: o1 :: some (.int x) :: l) st H 0 0 = ma_W d 69 Q 30 (o0 :: o1 :: some (.int x) :: l) (.int x :: st) H 0 0 := wp_iload_n rfl rfl
theorem w69_30 : ma_W d 69 Q 30 l (.int x1 :: .int x0 :: .ref i :: st) H 0 0 = (ma_cat st ≤ 8 ∧ ma_cv (H.1 i) 4 d 40 [.ref i, .int x0, .int x1] H (ma_kC d 69 Q 33 l st 0 0)) := wc_V0 (ia := 40) (n := 3) (cn := 4) rfl (by decide +kernel) (fun _ => rfl) rfl rfl
theorem w69_33 : ma_W d 69 Q 33 (some (.ref i) :: l) st H 0 0 = ma_W d 69 Q 34 (some (.ref i) :: l) (.ref i :: st) H 0 0 := wp_aload_n (x := some i) rfl rfl
theorem w69_34 : ma_W d 69 Q 34 l (.ref i :: st) H 0 0 = ma_gf (H.1 i) 6 2 (ma_kV d 69 Q 37 l st H 0 0) := wp_get rfl (by decide +kernel)
theorem w69_37 : ma_W d 69 Q 37 l st H 0 0 = ma_W d 69 Q 38 l (.int 1 :: st) H 0 0 := wp_iconst rfl (by decide)
theorem w69_38 : ma_W d 69 Q 38 (o0 :: o1 :: o2 :: some (.int x) :: l) st H 0 0 = ma_W d 69 Q 39 (o0 :: o1 :: o2 :: some (.int x) :: l) (.int x :: st) H 0 0 := wp_iload_n rfl rfl
theorem w69_39 : ma_W d 69 Q 39 l (.int x1 :: .int x0 :: .ref i :: st) H 0 0 = (ma_cat st ≤ 8 ∧ ma_cv (H.1 i) 4 d 40 [.ref i, .int x0, .int x1] H (ma_kC d 69 Q 42 l st 0 0)) := wc_V0 (ia := 40) (n := 3) (cn := 4) rfl (by decide +kernel) (fun _ => rfl) rfl rfl
theorem w69_42 : ma_W d 69 Q 42 (some (.ref i) :: l) st H 0 0 = ma_W d 69 Q 43 (some (.ref i) :: l) (.ref i :: st) H 0 0 := wp_aload_n (x := some i) rfl rfl
theorem w69_43 : ma_W d 69 Q 43 l st H 0 0 = ma_W d 69 Q 46 l (.int 2000 :: st) H 0 0 := wp_sipush rfl (by decide)
theorem w69_46 : ma_W d 69 Q 46 l (.int x0 :: .ref i :: st) H 0 0 = (ma_cat st ≤ 8 ∧ ma_cv (H.1 i) 6 d 76 [.ref i, .int x0] H (ma_kC d 69 Q 49 l st 0 0)) := wc_V0 (ia := 76) (n := 2) (cn := 6) rfl (by decide +kernel) (fun _ => rfl) rfl rfl
theorem w69_49 : ma_W d 69 Q 49 l st H 0 0 = ma_W d 69 Q 50 l (.int (-1) :: st) H 0 0 := wp_iconst rfl (by decide)
theorem w69_50 : ma_W d 69 Q 50 l (.int y :: .int x :: st) H 0 0 = ma_if (x = y) d 69 Q 57 53 l st H 0 0 := wp_ic (id := 69) (pc := 50) (c := .eq) (off := 7) 57 rfl (by decide)
theorem w69_53 : ma_W d 69 Q 53 l st H 0 0 = ma_W d 69 Q 54 l (.int 1 :: st) H 0 0 := wp_iconst rfl (by decide)
theorem w69_54 : ma_W d 69 Q 54 l st H 0 0 = ma_W d 69 Q 58 l st H 0 0 := wp_goto 58 rfl (by decide)
theorem w69_57 : ma_W d 69 Q 57 l st H 0 0 = ma_W d 69 Q 58 l (.int 0 :: st) H 0 0 := wp_iconst rfl (by decide)
theorem w69_58 : ma_W d 69 Q 58 (o0 :: o1 :: o2 :: o3 :: p :: l) (.int x :: st) H 0 0 = ma_W d 69 Q 60 (o0 :: o1 :: o2 :: ma_clr o3 :: some (.int x) :: l) st H 0 0 := wp_istore (id := 69) (pc := 58) (k := 4) rfl (Nat.succ_lt_succ (Nat.succ_lt_succ (Nat.succ_lt_succ (Nat.succ_lt_succ (Nat.zero_lt_succ _)))))
theorem w69_60 : ma_W d 69 Q 60 (some (.ref i) :: l) st H 0 0 = ma_W d 69 Q 61 (some (.ref i) :: l) (.ref i :: st) H 0 0 := wp_aload_n (x := some i) rfl rfl
theorem w69_61 : ma_W d 69 Q 61 l (.ref i :: st) H 0 0 = ma_gf (H.1 i) 6 4 (ma_kV d 69 Q 64 l st H 0 0) := wp_get rfl (by decide +kernel)
theorem w69_64 : ma_W d 69 Q 64 l st H 0 0 = ma_W d 69 Q 66 l (.int 6 :: st) H 0 0 := wp_bipush rfl (by decide)
theorem w69_66 : ma_W d 69 Q 66 (o0 :: o1 :: some (.int x) :: l) st H 0 0 = ma_W d 69 Q 67 (o0 :: o1 :: some (.int x) :: l) (.int x :: st) H 0 0 := wp_iload_n rfl rfl
theorem w69_67 : ma_W d 69 Q 67 l (.int y :: .int x :: st) H 0 0 = ma_W d 69 Q 68 l (.int (x * y) :: st) H 0 0 := wp_imul rfl
theorem w69_68 : ma_W d 69 Q 68 (o0 :: o1 :: o2 :: some (.int x) :: l) st H 0 0 = ma_W d 69 Q 69 (o0 :: o1 :: o2 :: some (.int x) :: l) (.int x :: st) H 0 0 := wp_iload_n rfl rfl
theorem w69_69 : ma_W d 69 Q 69 l (.int y :: .int x :: st) H 0 0 = ma_W d 69 Q 70 l (.int (x + y) :: st) H 0 0 := wp_iadd rfl
theorem w69_70 : ma_W d 69 Q 70 (o0 :: o1 :: o2 :: o3 :: some (.int x) :: l) st H 0 0 = ma_W d 69 Q 72 (o0 :: o1 :: o2 :: o3 :: some (.int x) :: l) (.int x :: st) H 0 0 := wp_iload rfl rfl
theorem w69_72 : ma_W d 69 Q 72 l (.int x :: st) H 0 0 = ma_if (x = 0) d 69 Q 75 79 l st H 0 0 := wp_c0 (id := 69) (pc := 72) (c := .ne) (off := 7) 79 rfl (by decide)
theorem w69_75 : ma_W d 69 Q 75 l st H 0 0 = ma_W d 69 Q 76 l (.int 0 :: st) H 0 0 := wp_iconst rfl (by decide)
theorem w69_76 : ma_W d 69 Q 76 l st H 0 0 = ma_W d 69 Q 94 l st H 0 0 := wp_goto 94 rfl (by decide)
theorem w69_79 : ma_W d 69 Q 79 (some (.ref i) :: l) st H 0 0 = ma_W d 69 Q 80 (some (.ref i) :: l) (.ref i :: st) H 0 0 := wp_aload_n (x := some i) rfl rfl
theorem w69_80 : ma_W d 69 Q 80 l (.ref i :: st) H 0 0 = ma_gf (H.1 i) 6 2 (ma_kV d 69 Q 83 l st H 0 0) := wp_get rfl (by decide +kernel)
theorem w69_83 : ma_W d 69 Q 83 l (.ref i :: st) H 0 0 = (ma_cat st ≤ 8 ∧ ma_cv (H.1 i) 4 d 48 [.ref i] H (ma_kC d 69 Q 86 l st 0 0)) := wc_V0 (ia := 48) (n := 1) (cn := 4) rfl (by decide +kernel) (fun _ => rfl) rfl rfl
theorem w69_86 : ma_W d 69 Q 86 l (.int x :: st) H 0 0 = ma_if (x = 0) d 69 Q 89 93 l st H 0 0 := wp_c0 (id := 69) (pc := 86) (c := .ne) (off := 7) 93 rfl (by decide)
theorem w69_89 : ma_W d 69 Q 89 l st H 0 0 = ma_W d 69 Q 90 l (.int 1 :: st) H 0 0 := wp_iconst rfl (by decide)
theorem w69_90 : ma_W d 69 Q 90 l st H 0 0 = ma_W d 69 Q 94 l st H 0 0 := wp_goto 94 rfl (by decide)
theorem w69_93 : ma_W d 69 Q 93 l st H 0 0 = ma_W d 69 Q 94 l (.int (-1) :: st) H 0 0 := wp_iconst rfl (by decide)
theorem w69_94 : ma_W d 69 Q 94 l (.int y :: .int x :: .ref i :: st) H 0 0 = (4 ≤ i ∧ ma_ias (H.1 i) x y (ma_kH d 69 Q 95 l st H i 0 0)) := wp_iast rfl
theorem w69_95 : ma_W d 69 Q 95 (o0 :: o1 :: o2 :: some (.int x) :: l) st H 0 0 = ma_W d 69 Q 98 (o0 :: o1 :: ma_clr o2 :: some (.int (x + 1)) :: l) st H 0 0 := wp_iinc (id := 69) (pc := 95) (k := 3) (n := 1) rfl (Nat.succ_lt_succ (Nat.succ_lt_succ (Nat.succ_lt_succ (Nat.zero_lt_succ _)))) rfl (by decide)
theorem w69_98 : ma_W d 69 Q 98 l st H 0 0 = ma_W d 69 Q 10 l st H 0 0 := wp_goto 10 rfl (by decide)
theorem w69_101 : ma_W d 69 Q 101 (o0 :: o1 :: some (.int x) :: l) st H 0 0 = ma_W d 69 Q 104 (o0 :: ma_clr o1 :: some (.int (x + 1)) :: l) st H 0 0 := wp_iinc (id := 69) (pc := 101) (k := 2) (n := 1) rfl (Nat.succ_lt_succ (Nat.succ_lt_succ (Nat.zero_lt_succ _))) rfl (by decide)
theorem w69_104 : ma_W d 69 Q 104 l st H 0 0 = ma_W d 69 Q 2 l st H 0 0 := wp_goto 2 rfl (by decide)
theorem w69_107 : ma_W d 69 Q 107 l [] H 0 0 = Q none H := wp_vret rfl rfl
theorem e69 : ma_MW (d + 1) 69 [.ref i, .ref i0] H Q = ma_W d 69 Q 0 [some (.ref i), some (.ref i0), none, none, none] [] H 0 0 := wp_enter (by decide) (Nat.le_of_ble_eq_true rfl) rfl
/-! 70 tr_howManyRest -/
theorem w70_0 : ma_W d 70 Q 0 l st H 0 0 = ma_W d 70 Q 1 l (.int 0 :: st) H 0 0 := wp_iconst rfl (by decide)
theorem w70_1 : ma_W d 70 Q 1 (o0 :: p :: l) (.int x :: st) H 0 0 = ma_W d 70 Q 2 (ma_clr o0 :: some (.int x) :: l) st H 0 0 := wp_istore_n (id := 70) (pc := 1) (k := 1) rfl (Nat.succ_lt_succ (Nat.zero_lt_succ _))
theorem w70_2 : ma_W d 70 Q 2 l st H 0 0 = ma_W d 70 Q 3 l (.int 0 :: st) H 0 0 := wp_iconst rfl (by decide)
theorem w70_3 : ma_W d 70 Q 3 (o0 :: o1 :: p :: l) (.int x :: st) H 0 0 = ma_W d 70 Q 4 (o0 :: ma_clr o1 :: some (.int x) :: l) st H 0 0 := wp_istore_n (id := 70) (pc := 3) (k := 2) rfl (Nat.succ_lt_succ (Nat.succ_lt_succ (Nat.zero_lt_succ _)))
theorem w70_4 : ma_W d 70 Q 4 (o0 :: o1 :: some (.int x) :: l) st H 0 0 = ma_W d 70 Q 5 (o0 :: o1 :: some (.int x) :: l) (.int x :: st) H 0 0 := wp_iload_n rfl rfl
theorem w70_5 : ma_W d 70 Q 5 (some (.ref i) :: l) st H 0 0 = ma_W d 70 Q 6 (some (.ref i) :: l) (.ref i :: st) H 0 0 := wp_aload_n (x := some i) rfl rfl
theorem w70_6 : ma_W d 70 Q 6 l (.ref i :: st) H 0 0 = ma_gf (H.1 i) 6 4 (ma_kV d 70 Q 9 l st H 0 0) := wp_get rfl (by decide +kernel)
theorem w70_9 : ma_W d 70 Q 9 l (.ref i :: st) H 0 0 = ma_al1 (H.1 i) (ma_kV d 70 Q 10 l st H 0 0) := wp_alen rfl
theorem w70_10 : ma_W d 70 Q 10 l (.int y :: .int x :: st) H 0 0 = ma_if (y ≤ x) d 70 Q 37 13 l st H 0 0 := wp_ic (id := 70) (pc := 10) (c := .ge) (off := 27) 37 rfl (by decide)
theorem w70_13 : ma_W d 70 Q 13 (some (.ref i) :: l) st H 0 0 = ma_W d 70 Q 14 (some (.ref i) :: l) (.ref i :: st) H 0 0 := wp_aload_n (x := some i) rfl rfl
theorem w70_14 : ma_W d 70 Q 14 (o0 :: o1 :: some (.int x) :: l) st H 0 0 = ma_W d 70 Q 15 (o0 :: o1 :: some (.int x) :: l) (.int x :: st) H 0 0 := wp_iload_n rfl rfl
theorem w70_15 : ma_W d 70 Q 15 l st H 0 0 = ma_W d 70 Q 17 l (.int 6 :: st) H 0 0 := wp_bipush rfl (by decide)
theorem w70_17 : ma_W d 70 Q 17 l (.int y :: .int x :: st) H 0 0 = (¬ y = 0 ∧ ma_W d 70 Q 18 l (.int (x / y) :: st) H 0 0) := wp_idiv rfl
theorem w70_18 : ma_W d 70 Q 18 (o0 :: o1 :: some (.int x) :: l) st H 0 0 = ma_W d 70 Q 19 (o0 :: o1 :: some (.int x) :: l) (.int x :: st) H 0 0 := wp_iload_n rfl rfl
theorem w70_19 : ma_W d 70 Q 19 l st H 0 0 = ma_W d 70 Q 21 l (.int 6 :: st) H 0 0 := wp_bipush rfl (by decide)
theorem w70_21 : ma_W d 70 Q 21 l (.int y :: .int x :: st) H 0 0 = (¬ y = 0 ∧ ma_W d 70 Q 22 l (.int (ma_rem x y) :: st) H 0 0) := wp_irem rfl
theorem w70_22 : ma_W d 70 Q 22 l (.int x1 :: .int x0 :: .ref i :: st) H 0 0 = (ma_cat st ≤ 8 ∧ ma_cv (H.1 i) 6 d 72 [.ref i, .int x0, .int x1] H (ma_kC d 70 Q 25 l st 0 0)) := wc_V0 (ia := 72) (n := 3) (cn := 6) rfl (by decide +kernel) (fun _ => rfl) rfl rfl
theorem w70_25 : ma_W d 70 Q 25 l (.int x :: st) H 0 0 = ma_if (x = 0) d 70 Q 31 28 l st H 0 0 := wp_c0 (id := 70) (pc := 25) (c := .eq) (off := 6) 31 rfl (by decide)
theorem w70_28 : ma_W d 70 Q 28 (o0 :: some (.int x) :: l) st H 0 0 = ma_W d 70 Q 31 (ma_clr o0 :: some (.int (x + 1)) :: l) st H 0 0 := wp_iinc (id := 70) (pc := 28) (k := 1) (n := 1) rfl (Nat.succ_lt_succ (Nat.zero_lt_succ _)) rfl (by decide)
theorem w70_31 : ma_W d 70 Q 31 (o0 :: o1 :: some (.int x) :: l) st H 0 0 = ma_W d 70 Q 34 (o0 :: ma_clr o1 :: some (.int (x + 1)) :: l) st H 0 0 := wp_iinc (id := 70) (pc := 31) (k := 2) (n := 1) rfl (Nat.succ_lt_succ (Nat.succ_lt_succ (Nat.zero_lt_succ _))) rfl (by decide)
theorem w70_34 : ma_W d 70 Q 34 l st H 0 0 = ma_W d 70 Q 4 l st H 0 0 := wp_goto 4 rfl (by decide)
theorem w70_37 : ma_W d 70 Q 37 (o0 :: some (.int x) :: l) st H 0 0 = ma_W d 70 Q 38 (o0 :: some (.int x) :: l) (.int x :: st) H 0 0 := wp_iload_n rfl rfl
theorem w70_38 : ma_W d 70 Q 38 l [.int x] H 0 0 = Q (some (.int x)) H := wp_iret rfl rfl
theorem e70 : ma_MW (d + 1) 70 [.ref i] H Q = ma_W d 70 Q 0 [some (.ref i), none, none] [] H 0 0 := wp_enter (by decide) (Nat.le_of_ble_eq_true rfl) rfl
/-! 71 tr_restingPair -/
theorem w71_0 : ma_W d 71 Q 0 l st H 0 0 = ma_W d 71 Q 1 l (.int 0 :: st) H 0 0 := wp_iconst rfl (by decide)
theorem w71_1 : ma_W d 71 Q 1 (o0 :: o1 :: p :: l) (.int x :: st) H 0 0 = ma_W d 71 Q 2 (o0 :: ma_clr o1 :: some (.int x) :: l) st H 0 0 := wp_istore_n (id := 71) (pc := 1) (k := 2) rfl (Nat.succ_lt_succ (Nat.succ_lt_succ (Nat.zero_lt_succ _)))
theorem w71_2 : ma_W d 71 Q 2 l st H 0 0 = ma_W d 71 Q 3 l (.int 0 :: st) H 0 0 := wp_iconst rfl (by decide)
theorem w71_3 : ma_W d 71 Q 3 (o0 :: o1 :: o2 :: p :: l) (.int x :: st) H 0 0 = ma_W d 71 Q 4 (o0 :: o1 :: ma_clr o2 :: some (.int x) :: l) st H 0 0 := wp_istore_n (id := 71) (pc := 3) (k := 3) rfl (Nat.succ_lt_succ (Nat.succ_lt_succ (Nat.succ_lt_succ (Nat.zero_lt_succ _))))
theorem w71_4 : ma_W d 71 Q 4 (o0 :: o1 :: o2 :: some (.int x) :: l) st H 0 0 = ma_W d 71 Q 5 (o0 :: o1 :: o2 :: some (.int x) :: l) (.int x :: st) H 0 0 := wp_iload_n rfl rfl
theorem w71_5 : ma_W d 71 Q 5 (some (.ref i) :: l) st H 0 0 = ma_W d 71 Q 6 (some (.ref i) :: l) (.ref i :: st) H 0 0 := wp_aload_n (x := some i) rfl rfl
theorem w71_6 : ma_W d 71 Q 6 l (.ref i :: st) H 0 0 = ma_gf (H.1 i) 6 4 (ma_kV d 71 Q 9 l st H 0 0) := wp_get rfl (by decide +kernel)
theorem w71_9 : ma_W d 71 Q 9 l (.ref i :: st) H 0 0 = ma_al1 (H.1 i) (ma_kV d 71 Q 10 l st H 0 0) := wp_alen rfl
theorem w71_10 : ma_W d 71 Q 10 l (.int y :: .int x :: st) H 0 0 = ma_if (y ≤ x) d 71 Q 55 13 l st H 0 0 := wp_ic (id := 71) (pc := 10) (c := .ge) (off := 45) 55 rfl (by decide)
theorem w71_13 : ma_W d 71 Q 13 (some (.ref i) :: l) st H 0 0 = ma_W d 71 Q 14 (some (.ref i) :: l) (.ref i :: st) H 0 0 := wp_aload_n (x := some i) rfl rfl
theorem w71_14 : ma_W d 71 Q 14 (o0 :: o1 :: o2 :: some (.int x) :: l) st H 0 0 = ma_W d 71 Q 15 (o0 :: o1 :: o2 :: some (.int x) :: l) (.int x :: st) H 0 0 := wp_iload_n rfl rfl
theorem w71_15 : ma_W d 71 Q 15 l st H 0 0 = ma_W d 71 Q 17 l (.int 6 :: st) H 0 0 := wp_bipush rfl (by decide)
theorem w71_17 : ma_W d 71 Q 17 l (.int y :: .int x :: st) H 0 0 = (¬ y = 0 ∧ ma_W d 71 Q 18 l (.int (x / y) :: st) H 0 0) := wp_idiv rfl
theorem w71_18 : ma_W d 71 Q 18 (o0 :: o1 :: o2 :: some (.int x) :: l) st H 0 0 = ma_W d 71 Q 19 (o0 :: o1 :: o2 :: some (.int x) :: l) (.int x :: st) H 0 0 := wp_iload_n rfl rfl
theorem w71_19 : ma_W d 71 Q 19 l st H 0 0 = ma_W d 71 Q 21 l (.int 6 :: st) H 0 0 := wp_bipush rfl (by decide)
theorem w71_21 : ma_W d 71 Q 21 l (.int y :: .int x :: st) H 0 0 = (¬ y = 0 ∧ ma_W d 71 Q 22 l (.int (ma_rem x y) :: st) H 0 0) := wp_irem rfl
theorem w71_22 : ma_W d 71 Q 22 l (.int x1 :: .int x0 :: .ref i :: st) H 0 0 = (ma_cat st ≤ 8 ∧ ma_cv (H.1 i) 6 d 72 [.ref i, .int x0, .int x1] H (ma_kC d 71 Q 25 l st 0 0)) := wc_V0 (ia := 72) (n := 3) (cn := 6) rfl (by decide +kernel) (fun _ => rfl) rfl rfl
theorem w71_25 : ma_W d 71 Q 25 l (.int x :: st) H 0 0 = ma_if (x = 0) d 71 Q 49 28 l st H 0 0 := wp_c0 (id := 71) (pc := 25) (c := .eq) (off := 24) 49 rfl (by decide)
theorem w71_28 : ma_W d 71 Q 28 (o0 :: o1 :: some (.int x) :: l) st H 0 0 = ma_W d 71 Q 29 (o0 :: o1 :: some (.int x) :: l) (.int x :: st) H 0 0 := wp_iload_n rfl rfl
theorem w71_29 : ma_W d 71 Q 29 (o0 :: some (.int x) :: l) st H 0 0 = ma_W d 71 Q 30 (o0 :: some (.int x) :: l) (.int x :: st) H 0 0 := wp_iload_n rfl rfl
theorem w71_30 : ma_W d 71 Q 30 l (.int y :: .int x :: st) H 0 0 = ma_if (x = y) d 71 Q 33 46 l st H 0 0 := wp_ic (id := 71) (pc := 30) (c := .ne) (off := 16) 46 rfl (by decide)
theorem w71_33 : ma_W d 71 Q 33 l st H 0 0 = ma_W d 71 Q 35 l (.int 10 :: st) H 0 0 := wp_bipush rfl (by decide)
theorem w71_35 : ma_W d 71 Q 35 (o0 :: o1 :: o2 :: some (.int x) :: l) st H 0 0 = ma_W d 71 Q 36 (o0 :: o1 :: o2 :: some (.int x) :: l) (.int x :: st) H 0 0 := wp_iload_n rfl rfl
theorem w71_36 : ma_W d 71 Q 36 l st H 0 0 = ma_W d 71 Q 38 l (.int 6 :: st) H 0 0 := wp_bipush rfl (by decide)
theorem w71_38 : ma_W d 71 Q 38 l (.int y :: .int x :: st) H 0 0 = (¬ y = 0 ∧ ma_W d 71 Q 39 l (.int (x / y) :: st) H 0 0) := wp_idiv rfl
theorem w71_39 : ma_W d 71 Q 39 l (.int y :: .int x :: st) H 0 0 = ma_W d 71 Q 40 l (.int (x * y) :: st) H 0 0 := wp_imul rfl
theorem w71_40 : ma_W d 71 Q 40 (o0 :: o1 :: o2 :: some (.int x) :: l) st H 0 0 = ma_W d 71 Q 41 (o0 :: o1 :: o2 :: some (.int x) :: l) (.int x :: st) H 0 0 := wp_iload_n rfl rfl
theorem w71_41 : ma_W d 71 Q 41 l st H 0 0 = ma_W d 71 Q 43 l (.int 6 :: st) H 0 0 := wp_bipush rfl (by decide)
theorem w71_43 : ma_W d 71 Q 43 l (.int y :: .int x :: st) H 0 0 = (¬ y = 0 ∧ ma_W d 71 Q 44 l (.int (ma_rem x y) :: st) H 0 0) := wp_irem rfl
theorem w71_44 : ma_W d 71 Q 44 l (.int y :: .int x :: st) H 0 0 = ma_W d 71 Q 45 l (.int (x + y) :: st) H 0 0 := wp_iadd rfl
theorem w71_45 : ma_W d 71 Q 45 l [.int x] H 0 0 = Q (some (.int x)) H := wp_iret rfl rfl
theorem w71_46 : ma_W d 71 Q 46 (o0 :: o1 :: some (.int x) :: l) st H 0 0 = ma_W d 71 Q 49 (o0 :: ma_clr o1 :: some (.int (x + 1)) :: l) st H 0 0 := wp_iinc (id := 71) (pc := 46) (k := 2) (n := 1) rfl (Nat.succ_lt_succ (Nat.succ_lt_succ (Nat.zero_lt_succ _))) rfl (by decide)
theorem w71_49 : ma_W d 71 Q 49 (o0 :: o1 :: o2 :: some (.int x) :: l) st H 0 0 = ma_W d 71 Q 52 (o0 :: o1 :: ma_clr o2 :: some (.int (x + 1)) :: l) st H 0 0 := wp_iinc (id := 71) (pc := 49) (k := 3) (n := 1) rfl (Nat.succ_lt_succ (Nat.succ_lt_succ (Nat.succ_lt_succ (Nat.zero_lt_succ _)))) rfl (by decide)
theorem w71_52 : ma_W d 71 Q 52 l st H 0 0 = ma_W d 71 Q 4 l st H 0 0 := wp_goto 4 rfl (by decide)
theorem w71_55 : ma_W d 71 Q 55 l st H 0 0 = ma_W d 71 Q 57 l (.int (-5) :: st) H 0 0 := wp_bipush rfl (by decide)
theorem w71_57 : ma_W d 71 Q 57 l [.int x] H 0 0 = Q (some (.int x)) H := wp_iret rfl rfl
theorem e71 : ma_MW (d + 1) 71 [.ref i, .int x0] H Q = ma_W d 71 Q 0 [some (.ref i), some (.int x0), none, none] [] H 0 0 := wp_enter (by decide) (Nat.le_of_ble_eq_true rfl) rfl
/-! 72 tr_rests -/
theorem w72_0 : ma_W d 72 Q 0 (some (.ref i) :: l) st H 0 0 = ma_W d 72 Q 1 (some (.ref i) :: l) (.ref i :: st) H 0 0 := wp_aload_n (x := some i) rfl rfl
theorem w72_1 : ma_W d 72 Q 1 l (.ref i :: st) H 0 0 = ma_gf (H.1 i) 6 4 (ma_kV d 72 Q 4 l st H 0 0) := wp_get rfl (by decide +kernel)
theorem w72_4 : ma_W d 72 Q 4 l st H 0 0 = ma_W d 72 Q 6 l (.int 6 :: st) H 0 0 := wp_bipush rfl (by decide)
theorem w72_6 : ma_W d 72 Q 6 (o0 :: some (.int x) :: l) st H 0 0 = ma_W d 72 Q 7 (o0 :: some (.int x) :: l) (.int x :: st) H 0 0 := wp_iload_n rfl rfl
theorem w72_7 : ma_W d 72 Q 7 l (.int y :: .int x :: st) H 0 0 = ma_W d 72 Q 8 l (.int (x * y) :: st) H 0 0 := wp_imul rfl
theorem w72_8 : ma_W d 72 Q 8 (o0 :: o1 :: some (.int x) :: l) st H 0 0 = ma_W d 72 Q 9 (o0 :: o1 :: some (.int x) :: l) (.int x :: st) H 0 0 := wp_iload_n rfl rfl
theorem w72_9 : ma_W d 72 Q 9 l (.int y :: .int x :: st) H 0 0 = ma_W d 72 Q 10 l (.int (x + y) :: st) H 0 0 := wp_iadd rfl
theorem w72_10 : ma_W d 72 Q 10 l (.int x :: .ref i :: st) H 0 0 = ma_ial (H.1 i) x (ma_kV d 72 Q 11 l st H 0 0) := wp_iald rfl
theorem w72_11 : ma_W d 72 Q 11 (o0 :: o1 :: o2 :: p :: l) (.int x :: st) H 0 0 = ma_W d 72 Q 12 (o0 :: o1 :: ma_clr o2 :: some (.int x) :: l) st H 0 0 := wp_istore_n (id := 72) (pc := 11) (k := 3) rfl (Nat.succ_lt_succ (Nat.succ_lt_succ (Nat.succ_lt_succ (Nat.zero_lt_succ _))))
theorem w72_12 : ma_W d 72 Q 12 l st H 0 0 = ma_W d 72 Q 13 l (.int 0 :: st) H 0 0 := wp_iconst rfl (by decide)
theorem w72_13 : ma_W d 72 Q 13 (o0 :: o1 :: o2 :: o3 :: p :: l) (.int x :: st) H 0 0 = ma_W d 72 Q 15 (o0 :: o1 :: o2 :: ma_clr o3 :: some (.int x) :: l) st H 0 0 := wp_istore (id := 72) (pc := 13) (k := 4) rfl (Nat.succ_lt_succ (Nat.succ_lt_succ (Nat.succ_lt_succ (Nat.succ_lt_succ (Nat.zero_lt_succ _)))))
theorem w72_15 : ma_W d 72 Q 15 (o0 :: o1 :: o2 :: o3 :: some (.int x) :: l) st H 0 0 = ma_W d 72 Q 17 (o0 :: o1 :: o2 :: o3 :: some (.int x) :: l) (.int x :: st) H 0 0 := wp_iload rfl rfl
theorem w72_17 : ma_W d 72 Q 17 l st H 0 0 = ma_W d 72 Q 19 l (.int 6 :: st) H 0 0 := wp_bipush rfl (by decide)
theorem w72_19 : ma_W d 72 Q 19 l (.int y :: .int x :: st) H 0 0 = ma_if (y ≤ x) d 72 Q 62 22 l st H 0 0 := wp_ic (id := 72) (pc := 19) (c := .ge) (off := 43) 62 rfl (by decide)
theorem w72_22 : ma_W d 72 Q 22 (some (.ref i) :: l) st H 0 0 = ma_W d 72 Q 23 (some (.ref i) :: l) (.ref i :: st) H 0 0 := wp_aload_n (x := some i) rfl rfl
theorem w72_23 : ma_W d 72 Q 23 l (.ref i :: st) H 0 0 = ma_gf (H.1 i) 6 4 (ma_kV d 72 Q 26 l st H 0 0) := wp_get rfl (by decide +kernel)
theorem w72_26 : ma_W d 72 Q 26 l st H 0 0 = ma_W d 72 Q 28 l (.int 6 :: st) H 0 0 := wp_bipush rfl (by decide)
theorem w72_28 : ma_W d 72 Q 28 (o0 :: o1 :: o2 :: o3 :: some (.int x) :: l) st H 0 0 = ma_W d 72 Q 30 (o0 :: o1 :: o2 :: o3 :: some (.int x) :: l) (.int x :: st) H 0 0 := wp_iload rfl rfl
theorem w72_30 : ma_W d 72 Q 30 l (.int y :: .int x :: st) H 0 0 = ma_W d 72 Q 31 l (.int (x * y) :: st) H 0 0 := wp_imul rfl
theorem w72_31 : ma_W d 72 Q 31 (o0 :: o1 :: some (.int x) :: l) st H 0 0 = ma_W d 72 Q 32 (o0 :: o1 :: some (.int x) :: l) (.int x :: st) H 0 0 := wp_iload_n rfl rfl
theorem w72_32 : ma_W d 72 Q 32 l (.int y :: .int x :: st) H 0 0 = ma_W d 72 Q 33 l (.int (x + y) :: st) H 0 0 := wp_iadd rfl
theorem w72_33 : ma_W d 72 Q 33 l (.int x :: .ref i :: st) H 0 0 = ma_ial (H.1 i) x (ma_kV d 72 Q 34 l st H 0 0) := wp_iald rfl
theorem w72_34 : ma_W d 72 Q 34 (o0 :: o1 :: o2 :: some (.int x) :: l) st H 0 0 = ma_W d 72 Q 35 (o0 :: o1 :: o2 :: some (.int x) :: l) (.int x :: st) H 0 0 := wp_iload_n rfl rfl
theorem w72_35 : ma_W d 72 Q 35 l (.int y :: .int x :: st) H 0 0 = ma_if (y < x) d 72 Q 54 38 l st H 0 0 := wp_ic (id := 72) (pc := 35) (c := .gt) (off := 19) 54 rfl (by decide)
theorem w72_38 : ma_W d 72 Q 38 (some (.ref i) :: l) st H 0 0 = ma_W d 72 Q 39 (some (.ref i) :: l) (.ref i :: st) H 0 0 := wp_aload_n (x := some i) rfl rfl
theorem w72_39 : ma_W d 72 Q 39 l (.ref i :: st) H 0 0 = ma_gf (H.1 i) 6 4 (ma_kV d 72 Q 42 l st H 0 0) := wp_get rfl (by decide +kernel)
theorem w72_42 : ma_W d 72 Q 42 l st H 0 0 = ma_W d 72 Q 44 l (.int 6 :: st) H 0 0 := wp_bipush rfl (by decide)
theorem w72_44 : ma_W d 72 Q 44 (o0 :: some (.int x) :: l) st H 0 0 = ma_W d 72 Q 45 (o0 :: some (.int x) :: l) (.int x :: st) H 0 0 := wp_iload_n rfl rfl
theorem w72_45 : ma_W d 72 Q 45 l (.int y :: .int x :: st) H 0 0 = ma_W d 72 Q 46 l (.int (x * y) :: st) H 0 0 := wp_imul rfl
theorem w72_46 : ma_W d 72 Q 46 (o0 :: o1 :: o2 :: o3 :: some (.int x) :: l) st H 0 0 = ma_W d 72 Q 48 (o0 :: o1 :: o2 :: o3 :: some (.int x) :: l) (.int x :: st) H 0 0 := wp_iload rfl rfl
theorem w72_48 : ma_W d 72 Q 48 l (.int y :: .int x :: st) H 0 0 = ma_W d 72 Q 49 l (.int (x + y) :: st) H 0 0 := wp_iadd rfl
theorem w72_49 : ma_W d 72 Q 49 l (.int x :: .ref i :: st) H 0 0 = ma_ial (H.1 i) x (ma_kV d 72 Q 50 l st H 0 0) := wp_iald rfl
theorem w72_50 : ma_W d 72 Q 50 (o0 :: o1 :: o2 :: some (.int x) :: l) st H 0 0 = ma_W d 72 Q 51 (o0 :: o1 :: o2 :: some (.int x) :: l) (.int x :: st) H 0 0 := wp_iload_n rfl rfl
theorem w72_51 : ma_W d 72 Q 51 l (.int y :: .int x :: st) H 0 0 = ma_if (y ≤ x) d 72 Q 56 54 l st H 0 0 := wp_ic (id := 72) (pc := 51) (c := .ge) (off := 5) 56 rfl (by decide)
theorem w72_54 : ma_W d 72 Q 54 l st H 0 0 = ma_W d 72 Q 55 l (.int 0 :: st) H 0 0 := wp_iconst rfl (by decide)
theorem w72_55 : ma_W d 72 Q 55 l [.int x] H 0 0 = ((x = 0 ∨ x = 1) ∧ Q (some (.int x)) H) := wp_zret rfl rfl
theorem w72_56 : ma_W d 72 Q 56 (o0 :: o1 :: o2 :: o3 :: some (.int x) :: l) st H 0 0 = ma_W d 72 Q 59 (o0 :: o1 :: o2 :: ma_clr o3 :: some (.int (x + 1)) :: l) st H 0 0 := wp_iinc (id := 72) (pc := 56) (k := 4) (n := 1) rfl (Nat.succ_lt_succ (Nat.succ_lt_succ (Nat.succ_lt_succ (Nat.succ_lt_succ (Nat.zero_lt_succ _))))) rfl (by decide)
theorem w72_59 : ma_W d 72 Q 59 l st H 0 0 = ma_W d 72 Q 15 l st H 0 0 := wp_goto 15 rfl (by decide)
theorem w72_62 : ma_W d 72 Q 62 l st H 0 0 = ma_W d 72 Q 63 l (.int 1 :: st) H 0 0 := wp_iconst rfl (by decide)
theorem w72_63 : ma_W d 72 Q 63 l [.int x] H 0 0 = ((x = 0 ∨ x = 1) ∧ Q (some (.int x)) H) := wp_zret rfl rfl
theorem e72 : ma_MW (d + 1) 72 [.ref i, .int x0, .int x1] H Q = ma_W d 72 Q 0 [some (.ref i), some (.int x0), some (.int x1), none, none] [] H 0 0 := wp_enter (by decide) (Nat.le_of_ble_eq_true rfl) rfl
/-! 73 tr_ordersOf -/
theorem w73_0 : ma_W d 73 Q 0 l st H 0 0 = ma_W d 73 Q 1 l (.int 1 :: st) H 0 0 := wp_iconst rfl (by decide)
theorem w73_1 : ma_W d 73 Q 1 (o0 :: p :: l) (.int x :: st) H 0 0 = ma_W d 73 Q 2 (ma_clr o0 :: some (.int x) :: l) st H 0 0 := wp_istore_n (id := 73) (pc := 1) (k := 1) rfl (Nat.succ_lt_succ (Nat.zero_lt_succ _))
theorem w73_2 : ma_W d 73 Q 2 l st H 0 0 = ma_W d 73 Q 3 l (.int 2 :: st) H 0 0 := wp_iconst rfl (by decide)
theorem w73_3 : ma_W d 73 Q 3 (o0 :: o1 :: p :: l) (.int x :: st) H 0 0 = ma_W d 73 Q 4 (o0 :: ma_clr o1 :: some (.int x) :: l) st H 0 0 := wp_istore_n (id := 73) (pc := 3) (k := 2) rfl (Nat.succ_lt_succ (Nat.succ_lt_succ (Nat.zero_lt_succ _)))
theorem w73_4 : ma_W d 73 Q 4 (o0 :: o1 :: some (.int x) :: l) st H 0 0 = ma_W d 73 Q 5 (o0 :: o1 :: some (.int x) :: l) (.int x :: st) H 0 0 := wp_iload_n rfl rfl
theorem w73_5 : ma_W d 73 Q 5 (some (.int x) :: l) st H 0 0 = ma_W d 73 Q 6 (some (.int x) :: l) (.int x :: st) H 0 0 := wp_iload_n rfl rfl
theorem w73_6 : ma_W d 73 Q 6 l (.int y :: .int x :: st) H 0 0 = ma_if (y < x) d 73 Q 19 9 l st H 0 0 := wp_ic (id := 73) (pc := 6) (c := .gt) (off := 13) 19 rfl (by decide)
theorem w73_9 : ma_W d 73 Q 9 (o0 :: some (.int x) :: l) st H 0 0 = ma_W d 73 Q 10 (o0 :: some (.int x) :: l) (.int x :: st) H 0 0 := wp_iload_n rfl rfl
theorem w73_10 : ma_W d 73 Q 10 (o0 :: o1 :: some (.int x) :: l) st H 0 0 = ma_W d 73 Q 11 (o0 :: o1 :: some (.int x) :: l) (.int x :: st) H 0 0 := wp_iload_n rfl rfl
theorem w73_11 : ma_W d 73 Q 11 l (.int y :: .int x :: st) H 0 0 = ma_W d 73 Q 12 l (.int (x * y) :: st) H 0 0 := wp_imul rfl
theorem w73_12 : ma_W d 73 Q 12 (o0 :: p :: l) (.int x :: st) H 0 0 = ma_W d 73 Q 13 (ma_clr o0 :: some (.int x) :: l) st H 0 0 := wp_istore_n (id := 73) (pc := 12) (k := 1) rfl (Nat.succ_lt_succ (Nat.zero_lt_succ _))
theorem w73_13 : ma_W d 73 Q 13 (o0 :: o1 :: some (.int x) :: l) st H 0 0 = ma_W d 73 Q 16 (o0 :: ma_clr o1 :: some (.int (x + 1)) :: l) st H 0 0 := wp_iinc (id := 73) (pc := 13) (k := 2) (n := 1) rfl (Nat.succ_lt_succ (Nat.succ_lt_succ (Nat.zero_lt_succ _))) rfl (by decide)
theorem w73_16 : ma_W d 73 Q 16 l st H 0 0 = ma_W d 73 Q 4 l st H 0 0 := wp_goto 4 rfl (by decide)
theorem w73_19 : ma_W d 73 Q 19 (o0 :: some (.int x) :: l) st H 0 0 = ma_W d 73 Q 20 (o0 :: some (.int x) :: l) (.int x :: st) H 0 0 := wp_iload_n rfl rfl
theorem w73_20 : ma_W d 73 Q 20 l [.int x] H 0 0 = Q (some (.int x)) H := wp_iret rfl rfl
theorem e73 : ma_MW (d + 1) 73 [.int x0] H Q = ma_W d 73 Q 0 [some (.int x0), none, none] [] H 0 0 := wp_enter (by decide) (Nat.le_of_ble_eq_true rfl) rfl
/-! 74 tr_ordersWon -/
theorem w74_0 : ma_W d 74 Q 0 (o0 :: o1 :: o2 :: some (.int x) :: l) st H 0 0 = ma_W d 74 Q 1 (o0 :: o1 :: o2 :: some (.int x) :: l) (.int x :: st) H 0 0 := wp_iload_n rfl rfl
theorem w74_1 : ma_W d 74 Q 1 l (.int x0 :: st) H 0 0 = (ma_cat st ≤ 8 ∧ ma_MW d 73 [.int x0] H (ma_kC d 74 Q 4 l st 0 0)) := wc_S0 (ia := 73) (n := 1) (cn := 6) (k := 1) rfl (by decide +kernel) (by decide) (fun _ => rfl) rfl rfl
theorem w74_4 : ma_W d 74 Q 4 (o0 :: o1 :: o2 :: o3 :: p :: l) (.int x :: st) H 0 0 = ma_W d 74 Q 6 (o0 :: o1 :: o2 :: ma_clr o3 :: some (.int x) :: l) st H 0 0 := wp_istore (id := 74) (pc := 4) (k := 4) rfl (Nat.succ_lt_succ (Nat.succ_lt_succ (Nat.succ_lt_succ (Nat.succ_lt_succ (Nat.zero_lt_succ _)))))
theorem w74_6 : ma_W d 74 Q 6 l st H 0 0 = ma_W d 74 Q 7 l (.int 0 :: st) H 0 0 := wp_iconst rfl (by decide)
theorem w74_7 : ma_W d 74 Q 7 (o0 :: o1 :: o2 :: o3 :: o4 :: p :: l) (.int x :: st) H 0 0 = ma_W d 74 Q 9 (o0 :: o1 :: o2 :: o3 :: ma_clr o4 :: some (.int x) :: l) st H 0 0 := wp_istore (id := 74) (pc := 7) (k := 5) rfl (Nat.succ_lt_succ (Nat.succ_lt_succ (Nat.succ_lt_succ (Nat.succ_lt_succ (Nat.succ_lt_succ (Nat.zero_lt_succ _))))))
theorem w74_9 : ma_W d 74 Q 9 l st H 0 0 = ma_W d 74 Q 10 l (.int 0 :: st) H 0 0 := wp_iconst rfl (by decide)
theorem w74_10 : ma_W d 74 Q 10 (o0 :: o1 :: o2 :: o3 :: o4 :: o5 :: p :: l) (.int x :: st) H 0 0 = ma_W d 74 Q 12 (o0 :: o1 :: o2 :: o3 :: o4 :: ma_clr o5 :: some (.int x) :: l) st H 0 0 := wp_istore (id := 74) (pc := 10) (k := 6) rfl (Nat.succ_lt_succ (Nat.succ_lt_succ (Nat.succ_lt_succ (Nat.succ_lt_succ (Nat.succ_lt_succ (Nat.succ_lt_succ (Nat.zero_lt_succ _)))))))
theorem w74_12 : ma_W d 74 Q 12 (o0 :: o1 :: o2 :: o3 :: o4 :: o5 :: some (.int x) :: l) st H 0 0 = ma_W d 74 Q 14 (o0 :: o1 :: o2 :: o3 :: o4 :: o5 :: some (.int x) :: l) (.int x :: st) H 0 0 := wp_iload rfl rfl
theorem w74_14 : ma_W d 74 Q 14 (o0 :: o1 :: o2 :: o3 :: some (.int x) :: l) st H 0 0 = ma_W d 74 Q 16 (o0 :: o1 :: o2 :: o3 :: some (.int x) :: l) (.int x :: st) H 0 0 := wp_iload rfl rfl
theorem w74_16 : ma_W d 74 Q 16 l (.int y :: .int x :: st) H 0 0 = ma_if (y ≤ x) d 74 Q 77 19 l st H 0 0 := wp_ic (id := 74) (pc := 16) (c := .ge) (off := 61) 77 rfl (by decide)
theorem w74_19 : ma_W d 74 Q 19 (some (.ref i) :: l) st H 0 0 = ma_W d 74 Q 20 (some (.ref i) :: l) (.ref i :: st) H 0 0 := wp_aload_n (x := some i) rfl rfl
theorem w74_20 : ma_W d 74 Q 20 l (.ref i :: st) H 0 0 = ma_gf (H.1 i) 6 2 (ma_kV d 74 Q 23 l st H 0 0) := wp_get rfl (by decide +kernel)
theorem w74_23 : ma_W d 74 Q 23 (o0 :: some (.ref i) :: l) st H 0 0 = ma_W d 74 Q 24 (o0 :: some (.ref i) :: l) (.ref i :: st) H 0 0 := wp_aload_n (x := some i) rfl rfl
theorem w74_24 : ma_W d 74 Q 24 l (.ref i0 :: .ref i :: st) H 0 0 = (ma_cat st ≤ 8 ∧ ma_cv (H.1 i) 4 d 35 [.ref i, .ref i0] H (ma_kC d 74 Q 27 l st 0 0)) := wc_V0 (ia := 35) (n := 2) (cn := 4) rfl (by decide +kernel) (fun _ => rfl) rfl rfl
theorem w74_27 : ma_W d 74 Q 27 (some (.ref i) :: l) st H 0 0 = ma_W d 74 Q 28 (some (.ref i) :: l) (.ref i :: st) H 0 0 := wp_aload_n (x := some i) rfl rfl
theorem w74_28 : ma_W d 74 Q 28 l (.ref i :: st) H 0 0 = ma_gf (H.1 i) 6 2 (ma_kV d 74 Q 31 l st H 0 0) := wp_get rfl (by decide +kernel)
theorem w74_31 : ma_W d 74 Q 31 (o0 :: o1 :: some (.int x) :: l) st H 0 0 = ma_W d 74 Q 32 (o0 :: o1 :: some (.int x) :: l) (.int x :: st) H 0 0 := wp_iload_n rfl rfl
theorem w74_32 : ma_W d 74 Q 32 (o0 :: some (.ref i) :: l) st H 0 0 = ma_W d 74 Q 33 (o0 :: some (.ref i) :: l) (.ref i :: st) H 0 0 := wp_aload_n (x := some i) rfl rfl
theorem w74_33 : ma_W d 74 Q 33 (o0 :: o1 :: some (.int x) :: l) st H 0 0 = ma_W d 74 Q 34 (o0 :: o1 :: some (.int x) :: l) (.int x :: st) H 0 0 := wp_iload_n rfl rfl
theorem w74_34 : ma_W d 74 Q 34 l (.int x0 :: .ref i :: st) H 0 0 = (ma_cat st ≤ 8 ∧ ma_cv (H.1 i) 4 d 37 [.ref i, .int x0] H (ma_kC d 74 Q 37 l st 0 0)) := wc_V0 (ia := 37) (n := 2) (cn := 4) rfl (by decide +kernel) (fun _ => rfl) rfl rfl
theorem w74_37 : ma_W d 74 Q 37 (o0 :: o1 :: o2 :: some (.int x) :: l) st H 0 0 = ma_W d 74 Q 38 (o0 :: o1 :: o2 :: some (.int x) :: l) (.int x :: st) H 0 0 := wp_iload_n rfl rfl
theorem w74_38 : ma_W d 74 Q 38 (o0 :: o1 :: o2 :: o3 :: o4 :: o5 :: some (.int x) :: l) st H 0 0 = ma_W d 74 Q 40 (o0 :: o1 :: o2 :: o3 :: o4 :: o5 :: some (.int x) :: l) (.int x :: st) H 0 0 := wp_iload rfl rfl
theorem w74_40 : ma_W d 74 Q 40 l (.int x2 :: .int x1 :: .long u0 :: st) H 0 0 = (ma_cat st ≤ 8 ∧ ma_MW d 208 [.long u0, .int x1, .int x2] H (ma_kC d 74 Q 43 l st 0 0)) := wc_S0 (ia := 208) (n := 3) (cn := 10) (k := 1) rfl (by decide +kernel) (by decide) (fun _ => rfl) rfl rfl
theorem w74_43 : ma_W d 74 Q 43 l (.long u1 :: .int x0 :: .ref i :: st) H 0 0 = (ma_cat st ≤ 8 ∧ ma_cv (H.1 i) 4 d 38 [.ref i, .int x0, .long u1] H (ma_kC d 74 Q 46 l st 0 0)) := wc_V0 (ia := 38) (n := 3) (cn := 4) rfl (by decide +kernel) (fun _ => rfl) rfl rfl
theorem w74_46 : ma_W d 74 Q 46 (some (.ref i) :: l) st H 0 0 = ma_W d 74 Q 47 (some (.ref i) :: l) (.ref i :: st) H 0 0 := wp_aload_n (x := some i) rfl rfl
theorem w74_47 : ma_W d 74 Q 47 l st H 0 0 = ma_W d 74 Q 50 l (.int 2000 :: st) H 0 0 := wp_sipush rfl (by decide)
theorem w74_50 : ma_W d 74 Q 50 l (.int x0 :: .ref i :: st) H 0 0 = (ma_cat st ≤ 8 ∧ ma_cv (H.1 i) 6 d 76 [.ref i, .int x0] H (ma_kC d 74 Q 53 l st 0 0)) := wc_V0 (ia := 76) (n := 2) (cn := 6) rfl (by decide +kernel) (fun _ => rfl) rfl rfl
theorem w74_53 : ma_W d 74 Q 53 l st H 0 0 = ma_W d 74 Q 54 l (.int (-1) :: st) H 0 0 := wp_iconst rfl (by decide)
theorem w74_54 : ma_W d 74 Q 54 l (.int y :: .int x :: st) H 0 0 = ma_if (x = y) d 74 Q 71 57 l st H 0 0 := wp_ic (id := 74) (pc := 54) (c := .eq) (off := 17) 71 rfl (by decide)
theorem w74_57 : ma_W d 74 Q 57 (some (.ref i) :: l) st H 0 0 = ma_W d 74 Q 58 (some (.ref i) :: l) (.ref i :: st) H 0 0 := wp_aload_n (x := some i) rfl rfl
theorem w74_58 : ma_W d 74 Q 58 l (.ref i :: st) H 0 0 = ma_gf (H.1 i) 6 2 (ma_kV d 74 Q 61 l st H 0 0) := wp_get rfl (by decide +kernel)
theorem w74_61 : ma_W d 74 Q 61 l (.ref i :: st) H 0 0 = (ma_cat st ≤ 8 ∧ ma_cv (H.1 i) 4 d 48 [.ref i] H (ma_kC d 74 Q 64 l st 0 0)) := wc_V0 (ia := 48) (n := 1) (cn := 4) rfl (by decide +kernel) (fun _ => rfl) rfl rfl
theorem w74_64 : ma_W d 74 Q 64 (o0 :: o1 :: some (.int x) :: l) st H 0 0 = ma_W d 74 Q 65 (o0 :: o1 :: some (.int x) :: l) (.int x :: st) H 0 0 := wp_iload_n rfl rfl
theorem w74_65 : ma_W d 74 Q 65 l (.int y :: .int x :: st) H 0 0 = ma_if (x = y) d 74 Q 68 71 l st H 0 0 := wp_ic (id := 74) (pc := 65) (c := .ne) (off := 6) 71 rfl (by decide)
theorem w74_68 : ma_W d 74 Q 68 (o0 :: o1 :: o2 :: o3 :: o4 :: some (.int x) :: l) st H 0 0 = ma_W d 74 Q 71 (o0 :: o1 :: o2 :: o3 :: ma_clr o4 :: some (.int (x + 1)) :: l) st H 0 0 := wp_iinc (id := 74) (pc := 68) (k := 5) (n := 1) rfl (Nat.succ_lt_succ (Nat.succ_lt_succ (Nat.succ_lt_succ (Nat.succ_lt_succ (Nat.succ_lt_succ (Nat.zero_lt_succ _)))))) rfl (by decide)
theorem w74_71 : ma_W d 74 Q 71 (o0 :: o1 :: o2 :: o3 :: o4 :: o5 :: some (.int x) :: l) st H 0 0 = ma_W d 74 Q 74 (o0 :: o1 :: o2 :: o3 :: o4 :: ma_clr o5 :: some (.int (x + 1)) :: l) st H 0 0 := wp_iinc (id := 74) (pc := 71) (k := 6) (n := 1) rfl (Nat.succ_lt_succ (Nat.succ_lt_succ (Nat.succ_lt_succ (Nat.succ_lt_succ (Nat.succ_lt_succ (Nat.succ_lt_succ (Nat.zero_lt_succ _))))))) rfl (by decide)
theorem w74_74 : ma_W d 74 Q 74 l st H 0 0 = ma_W d 74 Q 12 l st H 0 0 := wp_goto 12 rfl (by decide)
theorem w74_77 : ma_W d 74 Q 77 (o0 :: o1 :: o2 :: o3 :: o4 :: some (.int x) :: l) st H 0 0 = ma_W d 74 Q 79 (o0 :: o1 :: o2 :: o3 :: o4 :: some (.int x) :: l) (.int x :: st) H 0 0 := wp_iload rfl rfl
theorem w74_79 : ma_W d 74 Q 79 l [.int x] H 0 0 = Q (some (.int x)) H := wp_iret rfl rfl
theorem e74 : ma_MW (d + 1) 74 [.ref i, .ref i0, .int x1, .int x2] H Q = ma_W d 74 Q 0 [some (.ref i), some (.ref i0), some (.int x1), some (.int x2), none, none, none] [] H 0 0 := wp_enter (by decide) (Nat.le_of_ble_eq_true rfl) rfl
/-! 75 tr_eveningsWon -/
theorem w75_0 : ma_W d 75 Q 0 (o0 :: o1 :: some (.int x) :: l) st H 0 0 = ma_W d 75 Q 1 (o0 :: o1 :: some (.int x) :: l) (.int x :: st) H 0 0 := wp_iload_n rfl rfl
theorem w75_1 : ma_W d 75 Q 1 l (.int x :: st) H 0 0 = ma_W d 75 Q 2 l (.long x.toInt64 :: st) H 0 0 := wp_i2l rfl
theorem w75_2 : ma_W d 75 Q 2 (o0 :: o1 :: o2 :: o3 :: p :: q :: l) (.long u :: st) H 0 0 = ma_W d 75 Q 4 (o0 :: o1 :: o2 :: ma_clr o3 :: some (.long u) :: none :: l) st H 0 0 := wp_lstore (id := 75) (pc := 2) (k := 4) rfl (Nat.succ_lt_succ (Nat.succ_lt_succ (Nat.succ_lt_succ (Nat.succ_lt_succ (Nat.succ_lt_succ (Nat.zero_lt_succ _))))))
theorem w75_4 : ma_W d 75 Q 4 l st H 0 0 = ma_W d 75 Q 5 l (.int 0 :: st) H 0 0 := wp_iconst rfl (by decide)
theorem w75_5 : ma_W d 75 Q 5 (o0 :: o1 :: o2 :: o3 :: o4 :: o5 :: p :: l) (.int x :: st) H 0 0 = ma_W d 75 Q 7 (o0 :: o1 :: o2 :: o3 :: o4 :: ma_clr o5 :: some (.int x) :: l) st H 0 0 := wp_istore (id := 75) (pc := 5) (k := 6) rfl (Nat.succ_lt_succ (Nat.succ_lt_succ (Nat.succ_lt_succ (Nat.succ_lt_succ (Nat.succ_lt_succ (Nat.succ_lt_succ (Nat.zero_lt_succ _)))))))
theorem w75_7 : ma_W d 75 Q 7 l st H 0 0 = ma_W d 75 Q 8 l (.int 0 :: st) H 0 0 := wp_iconst rfl (by decide)
theorem w75_8 : ma_W d 75 Q 8 (o0 :: o1 :: o2 :: o3 :: o4 :: o5 :: o6 :: p :: l) (.int x :: st) H 0 0 = ma_W d 75 Q 10 (o0 :: o1 :: o2 :: o3 :: o4 :: o5 :: ma_clr o6 :: some (.int x) :: l) st H 0 0 := wp_istore (id := 75) (pc := 8) (k := 7) rfl (Nat.succ_lt_succ (Nat.succ_lt_succ (Nat.succ_lt_succ (Nat.succ_lt_succ (Nat.succ_lt_succ (Nat.succ_lt_succ (Nat.succ_lt_succ (Nat.zero_lt_succ _))))))))
theorem w75_10 : ma_W d 75 Q 10 (o0 :: o1 :: o2 :: o3 :: o4 :: o5 :: o6 :: some (.int x) :: l) st H 0 0 = ma_W d 75 Q 12 (o0 :: o1 :: o2 :: o3 :: o4 :: o5 :: o6 :: some (.int x) :: l) (.int x :: st) H 0 0 := wp_iload rfl rfl
theorem w75_12 : ma_W d 75 Q 12 (o0 :: o1 :: o2 :: some (.int x) :: l) st H 0 0 = ma_W d 75 Q 13 (o0 :: o1 :: o2 :: some (.int x) :: l) (.int x :: st) H 0 0 := wp_iload_n rfl rfl
theorem w75_13 : ma_W d 75 Q 13 l (.int y :: .int x :: st) H 0 0 = ma_if (y ≤ x) d 75 Q 114 16 l st H 0 0 := wp_ic (id := 75) (pc := 13) (c := .ge) (off := 101) 114 rfl (by decide)
theorem w75_16 : ma_W d 75 Q 16 (o0 :: o1 :: o2 :: o3 :: some (.long u) :: l) st H 0 0 = ma_W d 75 Q 18 (o0 :: o1 :: o2 :: o3 :: some (.long u) :: l) (.long u :: st) H 0 0 := wp_lload rfl rfl
theorem w75_18 : ma_W d 75 Q 18 l st H 0 0 = ma_W d 75 Q 21 l (.long 1103515245 :: st) H 0 0 := wp_ldc2 rfl (by decide +kernel)
theorem w75_21 : ma_W d 75 Q 21 l (.long v :: .long u :: st) H 0 0 = ma_W d 75 Q 22 l (.long (u * v) :: st) H 0 0 := wp_lmul rfl
theorem w75_22 : ma_W d 75 Q 22 l st H 0 0 = ma_W d 75 Q 25 l (.long 12345 :: st) H 0 0 := wp_ldc2 rfl (by decide +kernel)
theorem w75_25 : ma_W d 75 Q 25 l (.long v :: .long u :: st) H 0 0 = ma_W d 75 Q 26 l (.long (u + v) :: st) H 0 0 := wp_ladd rfl
theorem w75_26 : ma_W d 75 Q 26 l st H 0 0 = ma_W d 75 Q 29 l (.long 2147483648 :: st) H 0 0 := wp_ldc2 rfl (by decide +kernel)
theorem w75_29 : ma_W d 75 Q 29 l (.long v :: .long u :: st) H 0 0 = (¬ v = 0 ∧ ma_W d 75 Q 30 l (.long (ma_rml u v) :: st) H 0 0) := wp_lrem rfl
theorem w75_30 : ma_W d 75 Q 30 (o0 :: o1 :: o2 :: o3 :: p :: q :: l) (.long u :: st) H 0 0 = ma_W d 75 Q 32 (o0 :: o1 :: o2 :: ma_clr o3 :: some (.long u) :: none :: l) st H 0 0 := wp_lstore (id := 75) (pc := 30) (k := 4) rfl (Nat.succ_lt_succ (Nat.succ_lt_succ (Nat.succ_lt_succ (Nat.succ_lt_succ (Nat.succ_lt_succ (Nat.zero_lt_succ _))))))
theorem w75_32 : ma_W d 75 Q 32 (some (.ref i) :: l) st H 0 0 = ma_W d 75 Q 33 (some (.ref i) :: l) (.ref i :: st) H 0 0 := wp_aload_n (x := some i) rfl rfl
theorem w75_33 : ma_W d 75 Q 33 l (.ref i :: st) H 0 0 = ma_gf (H.1 i) 6 2 (ma_kV d 75 Q 36 l st H 0 0) := wp_get rfl (by decide +kernel)
theorem w75_36 : ma_W d 75 Q 36 (o0 :: some (.ref i) :: l) st H 0 0 = ma_W d 75 Q 37 (o0 :: some (.ref i) :: l) (.ref i :: st) H 0 0 := wp_aload_n (x := some i) rfl rfl
theorem w75_37 : ma_W d 75 Q 37 l (.ref i0 :: .ref i :: st) H 0 0 = (ma_cat st ≤ 8 ∧ ma_cv (H.1 i) 4 d 35 [.ref i, .ref i0] H (ma_kC d 75 Q 40 l st 0 0)) := wc_V0 (ia := 35) (n := 2) (cn := 4) rfl (by decide +kernel) (fun _ => rfl) rfl rfl
theorem w75_40 : ma_W d 75 Q 40 (some (.ref i) :: l) st H 0 0 = ma_W d 75 Q 41 (some (.ref i) :: l) (.ref i :: st) H 0 0 := wp_aload_n (x := some i) rfl rfl
theorem w75_41 : ma_W d 75 Q 41 l (.ref i :: st) H 0 0 = ma_gf (H.1 i) 6 2 (ma_kV d 75 Q 44 l st H 0 0) := wp_get rfl (by decide +kernel)
theorem w75_44 : ma_W d 75 Q 44 l st H 0 0 = ma_W d 75 Q 45 l (.int 0 :: st) H 0 0 := wp_iconst rfl (by decide)
theorem w75_45 : ma_W d 75 Q 45 (o0 :: some (.ref i) :: l) st H 0 0 = ma_W d 75 Q 46 (o0 :: some (.ref i) :: l) (.ref i :: st) H 0 0 := wp_aload_n (x := some i) rfl rfl
theorem w75_46 : ma_W d 75 Q 46 l st H 0 0 = ma_W d 75 Q 47 l (.int 0 :: st) H 0 0 := wp_iconst rfl (by decide)
theorem w75_47 : ma_W d 75 Q 47 l (.int x0 :: .ref i :: st) H 0 0 = (ma_cat st ≤ 8 ∧ ma_cv (H.1 i) 4 d 37 [.ref i, .int x0] H (ma_kC d 75 Q 50 l st 0 0)) := wc_V0 (ia := 37) (n := 2) (cn := 4) rfl (by decide +kernel) (fun _ => rfl) rfl rfl
theorem w75_50 : ma_W d 75 Q 50 (o0 :: o1 :: o2 :: o3 :: some (.long u) :: l) st H 0 0 = ma_W d 75 Q 52 (o0 :: o1 :: o2 :: o3 :: some (.long u) :: l) (.long u :: st) H 0 0 := wp_lload rfl rfl
theorem w75_52 : ma_W d 75 Q 52 l st H 0 0 = ma_W d 75 Q 55 l (.long 65536 :: st) H 0 0 := wp_ldc2 rfl (by decide +kernel)
theorem w75_55 : ma_W d 75 Q 55 l (.long v :: .long u :: st) H 0 0 = (¬ v = 0 ∧ ma_W d 75 Q 56 l (.long (u / v) :: st) H 0 0) := wp_ldiv rfl
theorem w75_56 : ma_W d 75 Q 56 l (.long u1 :: .long u0 :: st) H 0 0 = (ma_cat st ≤ 8 ∧ ma_MW d 207 [.long u0, .long u1] H (ma_kC d 75 Q 59 l st 0 0)) := wc_S0 (ia := 207) (n := 2) (cn := 10) (k := 1) rfl (by decide +kernel) (by decide) (fun _ => rfl) rfl rfl
theorem w75_59 : ma_W d 75 Q 59 l (.long u1 :: .int x0 :: .ref i :: st) H 0 0 = (ma_cat st ≤ 8 ∧ ma_cv (H.1 i) 4 d 38 [.ref i, .int x0, .long u1] H (ma_kC d 75 Q 62 l st 0 0)) := wc_V0 (ia := 38) (n := 3) (cn := 4) rfl (by decide +kernel) (fun _ => rfl) rfl rfl
theorem w75_62 : ma_W d 75 Q 62 (some (.ref i) :: l) st H 0 0 = ma_W d 75 Q 63 (some (.ref i) :: l) (.ref i :: st) H 0 0 := wp_aload_n (x := some i) rfl rfl
theorem w75_63 : ma_W d 75 Q 63 l (.ref i :: st) H 0 0 = ma_gf (H.1 i) 6 2 (ma_kV d 75 Q 66 l st H 0 0) := wp_get rfl (by decide +kernel)
theorem w75_66 : ma_W d 75 Q 66 l st H 0 0 = ma_W d 75 Q 67 l (.int 1 :: st) H 0 0 := wp_iconst rfl (by decide)
theorem w75_67 : ma_W d 75 Q 67 (o0 :: some (.ref i) :: l) st H 0 0 = ma_W d 75 Q 68 (o0 :: some (.ref i) :: l) (.ref i :: st) H 0 0 := wp_aload_n (x := some i) rfl rfl
theorem w75_68 : ma_W d 75 Q 68 l st H 0 0 = ma_W d 75 Q 69 l (.int 1 :: st) H 0 0 := wp_iconst rfl (by decide)
theorem w75_69 : ma_W d 75 Q 69 l (.int x0 :: .ref i :: st) H 0 0 = (ma_cat st ≤ 8 ∧ ma_cv (H.1 i) 4 d 37 [.ref i, .int x0] H (ma_kC d 75 Q 72 l st 0 0)) := wc_V0 (ia := 37) (n := 2) (cn := 4) rfl (by decide +kernel) (fun _ => rfl) rfl rfl
theorem w75_72 : ma_W d 75 Q 72 (o0 :: o1 :: o2 :: o3 :: some (.long u) :: l) st H 0 0 = ma_W d 75 Q 74 (o0 :: o1 :: o2 :: o3 :: some (.long u) :: l) (.long u :: st) H 0 0 := wp_lload rfl rfl
theorem w75_74 : ma_W d 75 Q 74 l st H 0 0 = ma_W d 75 Q 77 l (.long 1048576 :: st) H 0 0 := wp_ldc2 rfl (by decide +kernel)
theorem w75_77 : ma_W d 75 Q 77 l (.long v :: .long u :: st) H 0 0 = (¬ v = 0 ∧ ma_W d 75 Q 78 l (.long (u / v) :: st) H 0 0) := wp_ldiv rfl
theorem w75_78 : ma_W d 75 Q 78 l (.long u1 :: .long u0 :: st) H 0 0 = (ma_cat st ≤ 8 ∧ ma_MW d 207 [.long u0, .long u1] H (ma_kC d 75 Q 81 l st 0 0)) := wc_S0 (ia := 207) (n := 2) (cn := 10) (k := 1) rfl (by decide +kernel) (by decide) (fun _ => rfl) rfl rfl
theorem w75_81 : ma_W d 75 Q 81 l (.long u1 :: .int x0 :: .ref i :: st) H 0 0 = (ma_cat st ≤ 8 ∧ ma_cv (H.1 i) 4 d 38 [.ref i, .int x0, .long u1] H (ma_kC d 75 Q 84 l st 0 0)) := wc_V0 (ia := 38) (n := 3) (cn := 4) rfl (by decide +kernel) (fun _ => rfl) rfl rfl
theorem w75_84 : ma_W d 75 Q 84 (some (.ref i) :: l) st H 0 0 = ma_W d 75 Q 85 (some (.ref i) :: l) (.ref i :: st) H 0 0 := wp_aload_n (x := some i) rfl rfl
theorem w75_85 : ma_W d 75 Q 85 l st H 0 0 = ma_W d 75 Q 88 l (.int 2000 :: st) H 0 0 := wp_sipush rfl (by decide)
theorem w75_88 : ma_W d 75 Q 88 l (.int x0 :: .ref i :: st) H 0 0 = (ma_cat st ≤ 8 ∧ ma_cv (H.1 i) 6 d 76 [.ref i, .int x0] H (ma_kC d 75 Q 91 l st 0 0)) := wc_V0 (ia := 76) (n := 2) (cn := 6) rfl (by decide +kernel) (fun _ => rfl) rfl rfl
theorem w75_91 : ma_W d 75 Q 91 l st H 0 0 = ma_W d 75 Q 92 l (.int (-1) :: st) H 0 0 := wp_iconst rfl (by decide)
theorem w75_92 : ma_W d 75 Q 92 l (.int y :: .int x :: st) H 0 0 = ma_if (x = y) d 75 Q 108 95 l st H 0 0 := wp_ic (id := 75) (pc := 92) (c := .eq) (off := 16) 108 rfl (by decide)
theorem w75_95 : ma_W d 75 Q 95 (some (.ref i) :: l) st H 0 0 = ma_W d 75 Q 96 (some (.ref i) :: l) (.ref i :: st) H 0 0 := wp_aload_n (x := some i) rfl rfl
theorem w75_96 : ma_W d 75 Q 96 l (.ref i :: st) H 0 0 = ma_gf (H.1 i) 6 2 (ma_kV d 75 Q 99 l st H 0 0) := wp_get rfl (by decide +kernel)
theorem w75_99 : ma_W d 75 Q 99 l (.ref i :: st) H 0 0 = (ma_cat st ≤ 8 ∧ ma_cv (H.1 i) 4 d 48 [.ref i] H (ma_kC d 75 Q 102 l st 0 0)) := wc_V0 (ia := 48) (n := 1) (cn := 4) rfl (by decide +kernel) (fun _ => rfl) rfl rfl
theorem w75_102 : ma_W d 75 Q 102 l (.int x :: st) H 0 0 = ma_if (x = 0) d 75 Q 105 108 l st H 0 0 := wp_c0 (id := 75) (pc := 102) (c := .ne) (off := 6) 108 rfl (by decide)
theorem w75_105 : ma_W d 75 Q 105 (o0 :: o1 :: o2 :: o3 :: o4 :: o5 :: some (.int x) :: l) st H 0 0 = ma_W d 75 Q 108 (o0 :: o1 :: o2 :: o3 :: o4 :: ma_clr o5 :: some (.int (x + 1)) :: l) st H 0 0 := wp_iinc (id := 75) (pc := 105) (k := 6) (n := 1) rfl (Nat.succ_lt_succ (Nat.succ_lt_succ (Nat.succ_lt_succ (Nat.succ_lt_succ (Nat.succ_lt_succ (Nat.succ_lt_succ (Nat.zero_lt_succ _))))))) rfl (by decide)
theorem w75_108 : ma_W d 75 Q 108 (o0 :: o1 :: o2 :: o3 :: o4 :: o5 :: o6 :: some (.int x) :: l) st H 0 0 = ma_W d 75 Q 111 (o0 :: o1 :: o2 :: o3 :: o4 :: o5 :: ma_clr o6 :: some (.int (x + 1)) :: l) st H 0 0 := wp_iinc (id := 75) (pc := 108) (k := 7) (n := 1) rfl (Nat.succ_lt_succ (Nat.succ_lt_succ (Nat.succ_lt_succ (Nat.succ_lt_succ (Nat.succ_lt_succ (Nat.succ_lt_succ (Nat.succ_lt_succ (Nat.zero_lt_succ _)))))))) rfl (by decide)
theorem w75_111 : ma_W d 75 Q 111 l st H 0 0 = ma_W d 75 Q 10 l st H 0 0 := wp_goto 10 rfl (by decide)
theorem w75_114 : ma_W d 75 Q 114 (o0 :: o1 :: o2 :: o3 :: o4 :: o5 :: some (.int x) :: l) st H 0 0 = ma_W d 75 Q 116 (o0 :: o1 :: o2 :: o3 :: o4 :: o5 :: some (.int x) :: l) (.int x :: st) H 0 0 := wp_iload rfl rfl
theorem w75_116 : ma_W d 75 Q 116 l [.int x] H 0 0 = Q (some (.int x)) H := wp_iret rfl rfl
theorem e75 : ma_MW (d + 1) 75 [.ref i, .ref i0, .int x1, .int x2] H Q = ma_W d 75 Q 0 [some (.ref i), some (.ref i0), some (.int x1), some (.int x2), none, none, none, none] [] H 0 0 := wp_enter (by decide) (Nat.le_of_ble_eq_true rfl) rfl
/-! 76 tr_playOut -/
theorem w76_0 : ma_W d 76 Q 0 l st H 0 0 = ma_W d 76 Q 1 l (.int 1 :: st) H 0 0 := wp_iconst rfl (by decide)
theorem w76_1 : ma_W d 76 Q 1 (o0 :: o1 :: p :: l) (.int x :: st) H 0 0 = ma_W d 76 Q 2 (o0 :: ma_clr o1 :: some (.int x) :: l) st H 0 0 := wp_istore_n (id := 76) (pc := 1) (k := 2) rfl (Nat.succ_lt_succ (Nat.succ_lt_succ (Nat.zero_lt_succ _)))
theorem w76_2 : ma_W d 76 Q 2 (some (.ref i) :: l) st H 0 0 = ma_W d 76 Q 3 (some (.ref i) :: l) (.ref i :: st) H 0 0 := wp_aload_n (x := some i) rfl rfl
theorem w76_3 : ma_W d 76 Q 3 l (.ref i :: st) H 0 0 = ma_gf (H.1 i) 6 3 (ma_kV d 76 Q 6 l st H 0 0) := wp_get rfl (by decide +kernel)
theorem w76_6 : ma_W d 76 Q 6 (some (.ref i) :: l) st H 0 0 = ma_W d 76 Q 7 (some (.ref i) :: l) (.ref i :: st) H 0 0 := wp_aload_n (x := some i) rfl rfl
theorem w76_7 : ma_W d 76 Q 7 l (.ref i :: st) H 0 0 = ma_gf (H.1 i) 6 2 (ma_kV d 76 Q 10 l st H 0 0) := wp_get rfl (by decide +kernel)
theorem w76_10 : ma_W d 76 Q 10 l (.ref i0 :: .ref i :: st) H 0 0 = (ma_cat st ≤ 8 ∧ ma_cv (H.1 i) 4 d 35 [.ref i, .ref i0] H (ma_kC d 76 Q 13 l st 0 0)) := wc_V0 (ia := 35) (n := 2) (cn := 4) rfl (by decide +kernel) (fun _ => rfl) rfl rfl
theorem w76_13 : ma_W d 76 Q 13 l st H 0 0 = ma_W d 76 Q 14 l (.int 0 :: st) H 0 0 := wp_iconst rfl (by decide)
theorem w76_14 : ma_W d 76 Q 14 (o0 :: o1 :: o2 :: p :: l) (.int x :: st) H 0 0 = ma_W d 76 Q 15 (o0 :: o1 :: ma_clr o2 :: some (.int x) :: l) st H 0 0 := wp_istore_n (id := 76) (pc := 14) (k := 3) rfl (Nat.succ_lt_succ (Nat.succ_lt_succ (Nat.succ_lt_succ (Nat.zero_lt_succ _))))
theorem w76_15 : ma_W d 76 Q 15 (o0 :: o1 :: o2 :: some (.int x) :: l) st H 0 0 = ma_W d 76 Q 16 (o0 :: o1 :: o2 :: some (.int x) :: l) (.int x :: st) H 0 0 := wp_iload_n rfl rfl
theorem w76_16 : ma_W d 76 Q 16 (o0 :: some (.int x) :: l) st H 0 0 = ma_W d 76 Q 17 (o0 :: some (.int x) :: l) (.int x :: st) H 0 0 := wp_iload_n rfl rfl
theorem w76_17 : ma_W d 76 Q 17 l (.int y :: .int x :: st) H 0 0 = ma_if (y < x) d 76 Q 85 20 l st H 0 0 := wp_ic (id := 76) (pc := 17) (c := .gt) (off := 68) 85 rfl (by decide)
theorem w76_20 : ma_W d 76 Q 20 (some (.ref i) :: l) st H 0 0 = ma_W d 76 Q 21 (some (.ref i) :: l) (.ref i :: st) H 0 0 := wp_aload_n (x := some i) rfl rfl
theorem w76_21 : ma_W d 76 Q 21 l (.ref i :: st) H 0 0 = ma_gf (H.1 i) 6 2 (ma_kV d 76 Q 24 l st H 0 0) := wp_get rfl (by decide +kernel)
theorem w76_24 : ma_W d 76 Q 24 l (.ref i :: st) H 0 0 = (ma_cat st ≤ 8 ∧ ma_cv (H.1 i) 4 d 47 [.ref i] H (ma_kC d 76 Q 27 l st 0 0)) := wc_V0 (ia := 47) (n := 1) (cn := 4) rfl (by decide +kernel) (fun _ => rfl) rfl rfl
theorem w76_27 : ma_W d 76 Q 27 l (.int x :: st) H 0 0 = ma_if (x = 0) d 76 Q 32 30 l st H 0 0 := wp_c0 (id := 76) (pc := 27) (c := .eq) (off := 5) 32 rfl (by decide)
theorem w76_30 : ma_W d 76 Q 30 (o0 :: o1 :: o2 :: some (.int x) :: l) st H 0 0 = ma_W d 76 Q 31 (o0 :: o1 :: o2 :: some (.int x) :: l) (.int x :: st) H 0 0 := wp_iload_n rfl rfl
theorem w76_31 : ma_W d 76 Q 31 l [.int x] H 0 0 = Q (some (.int x)) H := wp_iret rfl rfl
theorem w76_32 : ma_W d 76 Q 32 (o0 :: o1 :: o2 :: some (.int x) :: l) st H 0 0 = ma_W d 76 Q 33 (o0 :: o1 :: o2 :: some (.int x) :: l) (.int x :: st) H 0 0 := wp_iload_n rfl rfl
theorem w76_33 : ma_W d 76 Q 33 l (.int x :: st) H 0 0 = ma_if (x ≤ 0) d 76 Q 52 36 l st H 0 0 := wp_c0 (id := 76) (pc := 33) (c := .le) (off := 19) 52 rfl (by decide)
theorem w76_36 : ma_W d 76 Q 36 (some (.ref i) :: l) st H 0 0 = ma_W d 76 Q 37 (some (.ref i) :: l) (.ref i :: st) H 0 0 := wp_aload_n (x := some i) rfl rfl
theorem w76_37 : ma_W d 76 Q 37 l (.ref i :: st) H 0 0 = ma_gf (H.1 i) 6 2 (ma_kV d 76 Q 40 l st H 0 0) := wp_get rfl (by decide +kernel)
theorem w76_40 : ma_W d 76 Q 40 (some (.ref i) :: l) st H 0 0 = ma_W d 76 Q 41 (some (.ref i) :: l) (.ref i :: st) H 0 0 := wp_aload_n (x := some i) rfl rfl
theorem w76_41 : ma_W d 76 Q 41 l (.ref i :: st) H 0 0 = ma_gf (H.1 i) 6 3 (ma_kV d 76 Q 44 l st H 0 0) := wp_get rfl (by decide +kernel)
theorem w76_44 : ma_W d 76 Q 44 l (.ref i0 :: .ref i :: st) H 0 0 = (ma_cat st ≤ 8 ∧ ma_cv (H.1 i) 4 d 36 [.ref i, .ref i0] H (ma_kC d 76 Q 47 l st 0 0)) := wc_V0 (ia := 36) (n := 2) (cn := 4) rfl (by decide +kernel) (fun _ => rfl) rfl rfl
theorem w76_47 : ma_W d 76 Q 47 l (.int x :: st) H 0 0 = ma_if (x = 0) d 76 Q 52 50 l st H 0 0 := wp_c0 (id := 76) (pc := 47) (c := .eq) (off := 5) 52 rfl (by decide)
theorem w76_50 : ma_W d 76 Q 50 l st H 0 0 = ma_W d 76 Q 51 l (.int (-1) :: st) H 0 0 := wp_iconst rfl (by decide)
theorem w76_51 : ma_W d 76 Q 51 l [.int x] H 0 0 = Q (some (.int x)) H := wp_iret rfl rfl
theorem w76_52 : ma_W d 76 Q 52 (o0 :: o1 :: o2 :: some (.int x) :: l) st H 0 0 = ma_W d 76 Q 53 (o0 :: o1 :: o2 :: some (.int x) :: l) (.int x :: st) H 0 0 := wp_iload_n rfl rfl
theorem w76_53 : ma_W d 76 Q 53 (o0 :: o1 :: some (.int x) :: l) st H 0 0 = ma_W d 76 Q 54 (o0 :: o1 :: some (.int x) :: l) (.int x :: st) H 0 0 := wp_iload_n rfl rfl
theorem w76_54 : ma_W d 76 Q 54 l (.int y :: .int x :: st) H 0 0 = ma_if (x = y) d 76 Q 57 72 l st H 0 0 := wp_ic (id := 76) (pc := 54) (c := .ne) (off := 18) 72 rfl (by decide)
theorem w76_57 : ma_W d 76 Q 57 (some (.ref i) :: l) st H 0 0 = ma_W d 76 Q 58 (some (.ref i) :: l) (.ref i :: st) H 0 0 := wp_aload_n (x := some i) rfl rfl
theorem w76_58 : ma_W d 76 Q 58 l (.ref i :: st) H 0 0 = ma_gf (H.1 i) 6 3 (ma_kV d 76 Q 61 l st H 0 0) := wp_get rfl (by decide +kernel)
theorem w76_61 : ma_W d 76 Q 61 (some (.ref i) :: l) st H 0 0 = ma_W d 76 Q 62 (some (.ref i) :: l) (.ref i :: st) H 0 0 := wp_aload_n (x := some i) rfl rfl
theorem w76_62 : ma_W d 76 Q 62 l (.ref i :: st) H 0 0 = ma_gf (H.1 i) 6 2 (ma_kV d 76 Q 65 l st H 0 0) := wp_get rfl (by decide +kernel)
theorem w76_65 : ma_W d 76 Q 65 l (.ref i0 :: .ref i :: st) H 0 0 = (ma_cat st ≤ 8 ∧ ma_cv (H.1 i) 4 d 35 [.ref i, .ref i0] H (ma_kC d 76 Q 68 l st 0 0)) := wc_V0 (ia := 35) (n := 2) (cn := 4) rfl (by decide +kernel) (fun _ => rfl) rfl rfl
theorem w76_68 : ma_W d 76 Q 68 l st H 0 0 = ma_W d 76 Q 69 l (.int 2 :: st) H 0 0 := wp_iconst rfl (by decide)
theorem w76_69 : ma_W d 76 Q 69 (o0 :: o1 :: some (.int x) :: l) st H 0 0 = ma_W d 76 Q 70 (o0 :: o1 :: some (.int x) :: l) (.int x :: st) H 0 0 := wp_iload_n rfl rfl
theorem w76_70 : ma_W d 76 Q 70 l (.int y :: .int x :: st) H 0 0 = ma_W d 76 Q 71 l (.int (x * y) :: st) H 0 0 := wp_imul rfl
theorem w76_71 : ma_W d 76 Q 71 (o0 :: o1 :: p :: l) (.int x :: st) H 0 0 = ma_W d 76 Q 72 (o0 :: ma_clr o1 :: some (.int x) :: l) st H 0 0 := wp_istore_n (id := 76) (pc := 71) (k := 2) rfl (Nat.succ_lt_succ (Nat.succ_lt_succ (Nat.zero_lt_succ _)))
theorem w76_72 : ma_W d 76 Q 72 (some (.ref i) :: l) st H 0 0 = ma_W d 76 Q 73 (some (.ref i) :: l) (.ref i :: st) H 0 0 := wp_aload_n (x := some i) rfl rfl
theorem w76_73 : ma_W d 76 Q 73 l (.ref i :: st) H 0 0 = ma_gf (H.1 i) 6 2 (ma_kV d 76 Q 76 l st H 0 0) := wp_get rfl (by decide +kernel)
theorem w76_76 : ma_W d 76 Q 76 l (.ref i :: st) H 0 0 = (ma_cat st ≤ 8 ∧ ma_cv (H.1 i) 4 d 51 [.ref i] H (ma_kC d 76 Q 79 l st 0 0)) := wc_V0 (ia := 51) (n := 1) (cn := 4) rfl (by decide +kernel) (fun _ => rfl) rfl rfl
theorem w76_79 : ma_W d 76 Q 79 (o0 :: o1 :: o2 :: some (.int x) :: l) st H 0 0 = ma_W d 76 Q 82 (o0 :: o1 :: ma_clr o2 :: some (.int (x + 1)) :: l) st H 0 0 := wp_iinc (id := 76) (pc := 79) (k := 3) (n := 1) rfl (Nat.succ_lt_succ (Nat.succ_lt_succ (Nat.succ_lt_succ (Nat.zero_lt_succ _)))) rfl (by decide)
theorem w76_82 : ma_W d 76 Q 82 l st H 0 0 = ma_W d 76 Q 15 l st H 0 0 := wp_goto 15 rfl (by decide)
theorem w76_85 : ma_W d 76 Q 85 l st H 0 0 = ma_W d 76 Q 86 l (.int (-1) :: st) H 0 0 := wp_iconst rfl (by decide)
theorem w76_86 : ma_W d 76 Q 86 l [.int x] H 0 0 = Q (some (.int x)) H := wp_iret rfl rfl
theorem e76 : ma_MW (d + 1) 76 [.ref i, .int x0] H Q = ma_W d 76 Q 0 [some (.ref i), some (.int x0), none, none] [] H 0 0 := wp_enter (by decide) (Nat.le_of_ble_eq_true rfl) rfl
/-! 77 be_init -/
theorem w77_0 : ma_W d 77 Q 0 (some (.ref i) :: l) st H a b = ma_W d 77 Q 1 (some (.ref i) :: l) (.ref i :: st) H a b := wp_aload_n (x := some i) rfl rfl
theorem w77_1 : ma_W d 77 Q 1 l (.ref i :: st) H a b = (ma_cat st ≤ 8 ∧ ma_W d 77 Q 4 l st H a b) := wc_obj (ia := 0) (n := 1) (cn := 0) rfl (by decide +kernel)
theorem w77_4 : ma_W d 77 Q 4 (some (.ref i) :: l) st H a b = ma_W d 77 Q 5 (some (.ref i) :: l) (.ref i :: st) H a b := wp_aload_n (x := some i) rfl rfl
theorem w77_5 : ma_W d 77 Q 5 l st H a b = (a + 1 ≤ 31 ∧ b + 4 ≤ 393 ∧ ma_W d 77 Q 8 l (.ref H.2 :: st) (ma_new H (.inr (0, [.null, .null, .null, .null]))) (a + 1) (b + 4)) := wp_new rfl (by decide +kernel) rfl rfl rfl rfl
theorem w77_8 : ma_W d 77 Q 8 l (.ref i :: st) H a b = ma_W d 77 Q 9 l (.ref i :: .ref i :: st) H a b := wp_dup rfl rfl
theorem w77_8i : ma_W d 77 Q 8 l (.int x :: st) H a b = ma_W d 77 Q 9 l (.int x :: .int x :: st) H a b := wp_dup rfl rfl
theorem w77_9 : ma_W d 77 Q 9 l (.ref i :: st) H a b = (ma_cat st ≤ 8 ∧ a + 21 ≤ 31 ∧ b + 159 ≤ 393 ∧ ma_MW d 0 [.ref i] H (ma_kC d 77 Q 12 l st (a + 21) (b + 159))) := wc_I (ia := 0) (n := 1) (cn := 0) (k := 4) rfl (by decide +kernel) (by decide) (fun _ => rfl) rfl rfl rfl
theorem w77_12 : ma_W d 77 Q 12 l (.ref j :: .ref i :: st) H a b = ma_pf (H.1 i) 7 0 (.ref j) (ma_kH d 77 Q 15 l st H i a b) := wp_put rfl (by decide +kernel) (by decide +kernel) rfl rfl
theorem w77_15 : ma_W d 77 Q 15 (some (.ref i) :: l) st H a b = ma_W d 77 Q 16 (some (.ref i) :: l) (.ref i :: st) H a b := wp_aload_n (x := some i) rfl rfl
theorem w77_16 : ma_W d 77 Q 16 l st H a b = (a + 1 ≤ 31 ∧ b + 10 ≤ 393 ∧ ma_W d 77 Q 19 l (.ref H.2 :: st) (ma_new H (.inr (4, [.int 0, .int 0, .int 0, .long 0, .long 0, .long 0, .int 0, .int 0, .int 0, .int 0]))) (a + 1) (b + 10)) := wp_new rfl (by decide +kernel) rfl rfl rfl rfl
theorem w77_19 : ma_W d 77 Q 19 l (.ref i :: st) H a b = ma_W d 77 Q 20 l (.ref i :: .ref i :: st) H a b := wp_dup rfl rfl
theorem w77_19i : ma_W d 77 Q 19 l (.int x :: st) H a b = ma_W d 77 Q 20 l (.int x :: .int x :: st) H a b := wp_dup rfl rfl
theorem w77_20 : ma_W d 77 Q 20 l (.ref i :: st) H a b = (ma_cat st ≤ 8 ∧ a + 0 ≤ 31 ∧ b + 0 ≤ 393 ∧ ma_MW d 33 [.ref i] H (ma_kC d 77 Q 23 l st (a + 0) (b + 0))) := wc_I (ia := 33) (n := 1) (cn := 4) (k := 4) rfl (by decide +kernel) (by decide) (fun _ => rfl) rfl rfl rfl
theorem w77_23 : ma_W d 77 Q 23 l (.ref j :: .ref i :: st) H a b = ma_pf (H.1 i) 7 1 (.ref j) (ma_kH d 77 Q 26 l st H i a b) := wp_put rfl (by decide +kernel) (by decide +kernel) rfl rfl
theorem w77_26 : ma_W d 77 Q 26 (some (.ref i) :: l) st H a b = ma_W d 77 Q 27 (some (.ref i) :: l) (.ref i :: st) H a b := wp_aload_n (x := some i) rfl rfl
theorem w77_27 : ma_W d 77 Q 27 l st H a b = ma_W d 77 Q 28 l (.int 2 :: st) H a b := wp_iconst rfl (by decide)
theorem w77_28 : ma_W d 77 Q 28 l (.int 2 :: st) H a b = (a + 1 ≤ 31 ∧ b + 2 ≤ 393 ∧ ma_W d 77 Q 31 l (.ref H.2 :: st) (ma_new H (.inl (.object "BeggarPile$Game", 2, .inr (.inr (.inr (.inr fun _ => none)))))) (a + 1) (b + 2)) := wp_newr (ci := 0) rfl (by decide +kernel) (by decide) rfl (by decide) (by decide) (by decide) rfl rfl
theorem w77_31 : ma_W d 77 Q 31 l (.ref j :: .ref i :: st) H a b = ma_pf (H.1 i) 7 2 (.ref j) (ma_kH d 77 Q 34 l st H i a b) := wp_put rfl (by decide +kernel) (by decide +kernel) rfl rfl
theorem w77_34 : ma_W d 77 Q 34 (some (.ref i) :: l) st H a b = ma_W d 77 Q 35 (some (.ref i) :: l) (.ref i :: st) H a b := wp_aload_n (x := some i) rfl rfl
theorem w77_35 : ma_W d 77 Q 35 l st H a b = (a + 1 ≤ 31 ∧ b + 5 ≤ 393 ∧ ma_W d 77 Q 38 l (.ref H.2 :: st) (ma_new H (.inr (6, [.int 0, .int 0, .null, .null, .null]))) (a + 1) (b + 5)) := wp_new rfl (by decide +kernel) rfl rfl rfl rfl
theorem w77_38 : ma_W d 77 Q 38 l (.ref i :: st) H a b = ma_W d 77 Q 39 l (.ref i :: .ref i :: st) H a b := wp_dup rfl rfl
theorem w77_38i : ma_W d 77 Q 38 l (.int x :: st) H a b = ma_W d 77 Q 39 l (.int x :: .int x :: st) H a b := wp_dup rfl rfl
theorem w77_39 : ma_W d 77 Q 39 l (.ref i :: st) H a b = (ma_cat st ≤ 8 ∧ a + 3 ≤ 31 ∧ b + 56 ≤ 393 ∧ ma_MW d 60 [.ref i] H (ma_kC d 77 Q 42 l st (a + 3) (b + 56))) := wc_I (ia := 60) (n := 1) (cn := 6) (k := 4) rfl (by decide +kernel) (by decide) (fun _ => rfl) rfl rfl rfl
theorem w77_42 : ma_W d 77 Q 42 l (.ref j :: .ref i :: st) H a b = ma_pf (H.1 i) 7 3 (.ref j) (ma_kH d 77 Q 45 l st H i a b) := wp_put rfl (by decide +kernel) (by decide +kernel) rfl rfl
theorem w77_45 : ma_W d 77 Q 45 (some (.ref i) :: l) st H a b = ma_W d 77 Q 46 (some (.ref i) :: l) (.ref i :: st) H a b := wp_aload_n (x := some i) rfl rfl
theorem w77_46 : ma_W d 77 Q 46 l st H a b = (a + 1 ≤ 31 ∧ b + 2 ≤ 393 ∧ ma_W d 77 Q 49 l (.ref H.2 :: st) (ma_new H (.inr (5, [.null, .int 0]))) (a + 1) (b + 2)) := wp_new rfl (by decide +kernel) rfl rfl rfl rfl
theorem w77_49 : ma_W d 77 Q 49 l (.ref i :: st) H a b = ma_W d 77 Q 50 l (.ref i :: .ref i :: st) H a b := wp_dup rfl rfl
theorem w77_49i : ma_W d 77 Q 49 l (.int x :: st) H a b = ma_W d 77 Q 50 l (.int x :: .int x :: st) H a b := wp_dup rfl rfl
theorem w77_50 : ma_W d 77 Q 50 l (.ref i :: st) H a b = (ma_cat st ≤ 8 ∧ a + 1 ≤ 31 ∧ b + 150 ≤ 393 ∧ ma_MW d 53 [.ref i] H (ma_kC d 77 Q 53 l st (a + 1) (b + 150))) := wc_I (ia := 53) (n := 1) (cn := 5) (k := 4) rfl (by decide +kernel) (by decide) (fun _ => rfl) rfl rfl rfl
theorem w77_53 : ma_W d 77 Q 53 l (.ref j :: .ref i :: st) H a b = ma_pf (H.1 i) 7 4 (.ref j) (ma_kH d 77 Q 56 l st H i a b) := wp_put rfl (by decide +kernel) (by decide +kernel) rfl rfl
theorem w77_56 : ma_W d 77 Q 56 (some (.ref i) :: l) st H a b = ma_W d 77 Q 57 (some (.ref i) :: l) (.ref i :: st) H a b := wp_aload_n (x := some i) rfl rfl
theorem w77_57 : ma_W d 77 Q 57 l st H a b = (a + 1 ≤ 31 ∧ b + 5 ≤ 393 ∧ ma_W d 77 Q 60 l (.ref H.2 :: st) (ma_new H (.inr (2, [.null, .int 0, .int 0, .int 0, .int 0]))) (a + 1) (b + 5)) := wp_new rfl (by decide +kernel) rfl rfl rfl rfl
theorem w77_60 : ma_W d 77 Q 60 l (.ref i :: st) H a b = ma_W d 77 Q 61 l (.ref i :: .ref i :: st) H a b := wp_dup rfl rfl
theorem w77_60i : ma_W d 77 Q 60 l (.int x :: st) H a b = ma_W d 77 Q 61 l (.int x :: .int x :: st) H a b := wp_dup rfl rfl
theorem w77_61 : ma_W d 77 Q 61 (some (.ref i) :: l) st H a b = ma_W d 77 Q 62 (some (.ref i) :: l) (.ref i :: st) H a b := wp_aload_n (x := some i) rfl rfl
theorem w77_62 : ma_W d 77 Q 62 l (.ref i :: st) H a b = ma_gf (H.1 i) 7 4 (ma_kV d 77 Q 65 l st H a b) := wp_get rfl (by decide +kernel)
theorem w77_65 : ma_W d 77 Q 65 l (.ref i0 :: .ref i :: st) H a b = (ma_cat st ≤ 8 ∧ a + 0 ≤ 31 ∧ b + 0 ≤ 393 ∧ ma_MW d 12 [.ref i, .ref i0] H (ma_kC d 77 Q 68 l st (a + 0) (b + 0))) := wc_I (ia := 12) (n := 2) (cn := 2) (k := 2) rfl (by decide +kernel) (by decide) (fun _ => rfl) rfl rfl rfl
theorem w77_68 : ma_W d 77 Q 68 l (.ref j :: .ref i :: st) H a b = ma_pf (H.1 i) 7 5 (.ref j) (ma_kH d 77 Q 71 l st H i a b) := wp_put rfl (by decide +kernel) (by decide +kernel) rfl rfl
theorem w77_71 : ma_W d 77 Q 71 (some (.ref i) :: l) st H a b = ma_W d 77 Q 72 (some (.ref i) :: l) (.ref i :: st) H a b := wp_aload_n (x := some i) rfl rfl
theorem w77_72 : ma_W d 77 Q 72 l st H a b = ma_W d 77 Q 73 l (.long 0 :: st) H a b := wp_lconst rfl (by decide)
theorem w77_73 : ma_W d 77 Q 73 l (.long u :: .ref i :: st) H a b = ma_pf (H.1 i) 7 6 (.long u) (ma_kH d 77 Q 76 l st H i a b) := wp_put rfl (by decide +kernel) (by decide +kernel) rfl rfl
theorem w77_76 : ma_W d 77 Q 76 (some (.ref i) :: l) st H a b = ma_W d 77 Q 77 (some (.ref i) :: l) (.ref i :: st) H a b := wp_aload_n (x := some i) rfl rfl
theorem w77_77 : ma_W d 77 Q 77 l st H a b = ma_W d 77 Q 78 l (.long 1 :: st) H a b := wp_lconst rfl (by decide)
theorem w77_78 : ma_W d 77 Q 78 l (.long u :: .ref i :: st) H a b = ma_pf (H.1 i) 7 7 (.long u) (ma_kH d 77 Q 81 l st H i a b) := wp_put rfl (by decide +kernel) (by decide +kernel) rfl rfl
theorem w77_81 : ma_W d 77 Q 81 (some (.ref i) :: l) st H a b = ma_W d 77 Q 82 (some (.ref i) :: l) (.ref i :: st) H a b := wp_aload_n (x := some i) rfl rfl
theorem w77_82 : ma_W d 77 Q 82 l st H a b = ma_W d 77 Q 83 l (.int 0 :: st) H a b := wp_iconst rfl (by decide)
theorem w77_83 : ma_W d 77 Q 83 l (.int x :: .ref i :: st) H a b = ma_pf (H.1 i) 7 8 (.int x) (ma_kH d 77 Q 86 l st H i a b) := wp_put rfl (by decide +kernel) (by decide +kernel) rfl rfl
theorem w77_86 : ma_W d 77 Q 86 (some (.ref i) :: l) st H a b = ma_W d 77 Q 87 (some (.ref i) :: l) (.ref i :: st) H a b := wp_aload_n (x := some i) rfl rfl
theorem w77_87 : ma_W d 77 Q 87 l st H a b = ma_W d 77 Q 88 l (.int 0 :: st) H a b := wp_iconst rfl (by decide)
theorem w77_88 : ma_W d 77 Q 88 l (.int x :: .ref i :: st) H a b = ma_pf (H.1 i) 7 9 (.int x) (ma_kH d 77 Q 91 l st H i a b) := wp_put rfl (by decide +kernel) (by decide +kernel) rfl rfl
theorem w77_91 : ma_W d 77 Q 91 (some (.ref i) :: l) st H a b = ma_W d 77 Q 92 (some (.ref i) :: l) (.ref i :: st) H a b := wp_aload_n (x := some i) rfl rfl
theorem w77_92 : ma_W d 77 Q 92 l st H a b = ma_W d 77 Q 93 l (.int 0 :: st) H a b := wp_iconst rfl (by decide)
theorem w77_93 : ma_W d 77 Q 93 l (.int x :: .ref i :: st) H a b = ma_pf (H.1 i) 7 10 (.int x) (ma_kH d 77 Q 96 l st H i a b) := wp_put rfl (by decide +kernel) (by decide +kernel) rfl rfl
theorem w77_96 : ma_W d 77 Q 96 l [] H a b = Q none H := wp_vret rfl rfl
theorem e77 : ma_MW (d + 1) 77 [.ref i] H Q = ma_W d 77 Q 0 [some (.ref i)] [] H 0 0 := wp_enter (by decide) (Nat.le_of_ble_eq_true rfl) rfl
/-! 78 be_game -/
theorem w78_0 : ma_W d 78 Q 0 (o0 :: some (.int x) :: l) st H 0 0 = ma_W d 78 Q 1 (o0 :: some (.int x) :: l) (.int x :: st) H 0 0 := wp_iload_n rfl rfl
theorem w78_1 : ma_W d 78 Q 1 l (.int x0 :: st) H 0 0 = (ma_cat st ≤ 8 ∧ ma_MW d 118 [.int x0] H (ma_kC d 78 Q 4 l st 0 0)) := wc_S0 (ia := 118) (n := 1) (cn := 7) (k := 1) rfl (by decide +kernel) (by decide) (fun _ => rfl) rfl rfl
theorem w78_4 : ma_W d 78 Q 4 l (.int x :: st) H 0 0 = ma_if (x = 0) d 78 Q 14 7 l st H 0 0 := wp_c0 (id := 78) (pc := 4) (c := .eq) (off := 10) 14 rfl (by decide)
theorem w78_7 : ma_W d 78 Q 7 (o0 :: o1 :: some (.int x) :: l) st H 0 0 = ma_W d 78 Q 8 (o0 :: o1 :: some (.int x) :: l) (.int x :: st) H 0 0 := wp_iload_n rfl rfl
theorem w78_8 : ma_W d 78 Q 8 l (.int x0 :: st) H 0 0 = (ma_cat st ≤ 8 ∧ ma_MW d 118 [.int x0] H (ma_kC d 78 Q 11 l st 0 0)) := wc_S0 (ia := 118) (n := 1) (cn := 7) (k := 1) rfl (by decide +kernel) (by decide) (fun _ => rfl) rfl rfl
theorem w78_11 : ma_W d 78 Q 11 l (.int x :: st) H 0 0 = ma_if (x = 0) d 78 Q 14 19 l st H 0 0 := wp_c0 (id := 78) (pc := 11) (c := .ne) (off := 8) 19 rfl (by decide)
theorem w78_14 : ma_W d 78 Q 14 (some (.ref i) :: l) st H 0 0 = ma_W d 78 Q 15 (some (.ref i) :: l) (.ref i :: st) H 0 0 := wp_aload_n (x := some i) rfl rfl
theorem w78_15 : ma_W d 78 Q 15 l (.ref i :: st) H 0 0 = (ma_cat st ≤ 8 ∧ ma_cv (H.1 i) 7 d 113 [.ref i] H (ma_kC d 78 Q 18 l st 0 0)) := wc_V0 (ia := 113) (n := 1) (cn := 7) rfl (by decide +kernel) (fun _ => rfl) rfl rfl
theorem w78_18 : ma_W d 78 Q 18 l [.int x] H 0 0 = Q (some (.int x)) H := wp_iret rfl rfl
theorem w78_19 : ma_W d 78 Q 19 (some (.ref i) :: l) st H 0 0 = ma_W d 78 Q 20 (some (.ref i) :: l) (.ref i :: st) H 0 0 := wp_aload_n (x := some i) rfl rfl
theorem w78_20 : ma_W d 78 Q 20 l (.ref i :: st) H 0 0 = ma_gf (H.1 i) 7 0 (ma_kV d 78 Q 23 l st H 0 0) := wp_get rfl (by decide +kernel)
theorem w78_23 : ma_W d 78 Q 23 l (.ref i :: st) H 0 0 = ma_gf (H.1 i) 0 0 (ma_kV d 78 Q 26 l st H 0 0) := wp_get rfl (by decide +kernel)
theorem w78_26 : ma_W d 78 Q 26 l (.ref i :: st) H 0 0 = (ma_cat st ≤ 8 ∧ ma_cv (H.1 i) 4 d 41 [.ref i] H (ma_kC d 78 Q 29 l st 0 0)) := wc_V0 (ia := 41) (n := 1) (cn := 4) rfl (by decide +kernel) (fun _ => rfl) rfl rfl
theorem w78_29 : ma_W d 78 Q 29 (o0 :: o1 :: o2 :: p :: l) (.int x :: st) H 0 0 = ma_W d 78 Q 30 (o0 :: o1 :: ma_clr o2 :: some (.int x) :: l) st H 0 0 := wp_istore_n (id := 78) (pc := 29) (k := 3) rfl (Nat.succ_lt_succ (Nat.succ_lt_succ (Nat.succ_lt_succ (Nat.zero_lt_succ _))))
theorem w78_30 : ma_W d 78 Q 30 (some (.ref i) :: l) st H 0 0 = ma_W d 78 Q 31 (some (.ref i) :: l) (.ref i :: st) H 0 0 := wp_aload_n (x := some i) rfl rfl
theorem w78_31 : ma_W d 78 Q 31 l (.ref i :: st) H 0 0 = ma_gf (H.1 i) 7 0 (ma_kV d 78 Q 34 l st H 0 0) := wp_get rfl (by decide +kernel)
theorem w78_34 : ma_W d 78 Q 34 (o0 :: some (.int x) :: l) st H 0 0 = ma_W d 78 Q 35 (o0 :: some (.int x) :: l) (.int x :: st) H 0 0 := wp_iload_n rfl rfl
theorem w78_35 : ma_W d 78 Q 35 (o0 :: o1 :: some (.int x) :: l) st H 0 0 = ma_W d 78 Q 36 (o0 :: o1 :: some (.int x) :: l) (.int x :: st) H 0 0 := wp_iload_n rfl rfl
theorem w78_36 : ma_W d 78 Q 36 l (.int x1 :: .int x0 :: .ref i :: st) H 0 0 = (ma_cat st ≤ 8 ∧ ma_cv (H.1 i) 0 d 1 [.ref i, .int x0, .int x1] H (ma_kC d 78 Q 39 l st 0 0)) := wc_V0 (ia := 1) (n := 3) (cn := 0) rfl (by decide +kernel) (fun _ => rfl) rfl rfl
theorem w78_39 : ma_W d 78 Q 39 (o0 :: o1 :: o2 :: some (.int x) :: l) st H 0 0 = ma_W d 78 Q 40 (o0 :: o1 :: o2 :: some (.int x) :: l) (.int x :: st) H 0 0 := wp_iload_n rfl rfl
theorem w78_40 : ma_W d 78 Q 40 l [.int x] H 0 0 = Q (some (.int x)) H := wp_iret rfl rfl
theorem e78 : ma_MW (d + 1) 78 [.ref i, .int x0, .int x1] H Q = ma_W d 78 Q 0 [some (.ref i), some (.int x0), some (.int x1), none] [] H 0 0 := wp_enter (by decide) (Nat.le_of_ble_eq_true rfl) rfl
/-! 79 be_player -/
theorem w79_0 : ma_W d 79 Q 0 (o0 :: some (.int x) :: l) st H 0 0 = ma_W d 79 Q 1 (o0 :: some (.int x) :: l) (.int x :: st) H 0 0 := wp_iload_n rfl rfl
theorem w79_1 : ma_W d 79 Q 1 l (.int x0 :: st) H 0 0 = (ma_cat st ≤ 8 ∧ ma_MW d 117 [.int x0] H (ma_kC d 79 Q 4 l st 0 0)) := wc_S0 (ia := 117) (n := 1) (cn := 7) (k := 1) rfl (by decide +kernel) (by decide) (fun _ => rfl) rfl rfl
theorem w79_4 : ma_W d 79 Q 4 l (.int x :: st) H 0 0 = ma_if (x = 0) d 79 Q 14 7 l st H 0 0 := wp_c0 (id := 79) (pc := 4) (c := .eq) (off := 10) 14 rfl (by decide)
theorem w79_7 : ma_W d 79 Q 7 (o0 :: o1 :: some (.int x) :: l) st H 0 0 = ma_W d 79 Q 8 (o0 :: o1 :: some (.int x) :: l) (.int x :: st) H 0 0 := wp_iload_n rfl rfl
theorem w79_8 : ma_W d 79 Q 8 l (.int x0 :: st) H 0 0 = (ma_cat st ≤ 8 ∧ ma_MW d 118 [.int x0] H (ma_kC d 79 Q 11 l st 0 0)) := wc_S0 (ia := 118) (n := 1) (cn := 7) (k := 1) rfl (by decide +kernel) (by decide) (fun _ => rfl) rfl rfl
theorem w79_11 : ma_W d 79 Q 11 l (.int x :: st) H 0 0 = ma_if (x = 0) d 79 Q 14 19 l st H 0 0 := wp_c0 (id := 79) (pc := 11) (c := .ne) (off := 8) 19 rfl (by decide)
theorem w79_14 : ma_W d 79 Q 14 (some (.ref i) :: l) st H 0 0 = ma_W d 79 Q 15 (some (.ref i) :: l) (.ref i :: st) H 0 0 := wp_aload_n (x := some i) rfl rfl
theorem w79_15 : ma_W d 79 Q 15 l (.ref i :: st) H 0 0 = (ma_cat st ≤ 8 ∧ ma_cv (H.1 i) 7 d 113 [.ref i] H (ma_kC d 79 Q 18 l st 0 0)) := wc_V0 (ia := 113) (n := 1) (cn := 7) rfl (by decide +kernel) (fun _ => rfl) rfl rfl
theorem w79_18 : ma_W d 79 Q 18 l [.int x] H 0 0 = Q (some (.int x)) H := wp_iret rfl rfl
theorem w79_19 : ma_W d 79 Q 19 (some (.ref i) :: l) st H 0 0 = ma_W d 79 Q 20 (some (.ref i) :: l) (.ref i :: st) H 0 0 := wp_aload_n (x := some i) rfl rfl
theorem w79_20 : ma_W d 79 Q 20 l (.ref i :: st) H 0 0 = ma_gf (H.1 i) 7 0 (ma_kV d 79 Q 23 l st H 0 0) := wp_get rfl (by decide +kernel)
theorem w79_23 : ma_W d 79 Q 23 l (.ref i :: st) H 0 0 = ma_gf (H.1 i) 0 0 (ma_kV d 79 Q 26 l st H 0 0) := wp_get rfl (by decide +kernel)
theorem w79_26 : ma_W d 79 Q 26 (o0 :: some (.int x) :: l) st H 0 0 = ma_W d 79 Q 27 (o0 :: some (.int x) :: l) (.int x :: st) H 0 0 := wp_iload_n rfl rfl
theorem w79_27 : ma_W d 79 Q 27 l (.int x0 :: .ref i :: st) H 0 0 = (ma_cat st ≤ 8 ∧ ma_cv (H.1 i) 4 d 39 [.ref i, .int x0] H (ma_kC d 79 Q 30 l st 0 0)) := wc_V0 (ia := 39) (n := 2) (cn := 4) rfl (by decide +kernel) (fun _ => rfl) rfl rfl
theorem w79_30 : ma_W d 79 Q 30 (o0 :: o1 :: o2 :: p :: l) (.int x :: st) H 0 0 = ma_W d 79 Q 31 (o0 :: o1 :: ma_clr o2 :: some (.int x) :: l) st H 0 0 := wp_istore_n (id := 79) (pc := 30) (k := 3) rfl (Nat.succ_lt_succ (Nat.succ_lt_succ (Nat.succ_lt_succ (Nat.zero_lt_succ _))))
theorem w79_31 : ma_W d 79 Q 31 (some (.ref i) :: l) st H 0 0 = ma_W d 79 Q 32 (some (.ref i) :: l) (.ref i :: st) H 0 0 := wp_aload_n (x := some i) rfl rfl
theorem w79_32 : ma_W d 79 Q 32 l (.ref i :: st) H 0 0 = ma_gf (H.1 i) 7 0 (ma_kV d 79 Q 35 l st H 0 0) := wp_get rfl (by decide +kernel)
theorem w79_35 : ma_W d 79 Q 35 l (.ref i :: st) H 0 0 = ma_gf (H.1 i) 0 0 (ma_kV d 79 Q 38 l st H 0 0) := wp_get rfl (by decide +kernel)
theorem w79_38 : ma_W d 79 Q 38 (o0 :: some (.int x) :: l) st H 0 0 = ma_W d 79 Q 39 (o0 :: some (.int x) :: l) (.int x :: st) H 0 0 := wp_iload_n rfl rfl
theorem w79_39 : ma_W d 79 Q 39 (o0 :: o1 :: some (.int x) :: l) st H 0 0 = ma_W d 79 Q 40 (o0 :: o1 :: some (.int x) :: l) (.int x :: st) H 0 0 := wp_iload_n rfl rfl
theorem w79_40 : ma_W d 79 Q 40 l (.int x1 :: .int x0 :: .ref i :: st) H 0 0 = (ma_cat st ≤ 8 ∧ ma_cv (H.1 i) 4 d 40 [.ref i, .int x0, .int x1] H (ma_kC d 79 Q 43 l st 0 0)) := wc_V0 (ia := 40) (n := 3) (cn := 4) rfl (by decide +kernel) (fun _ => rfl) rfl rfl
theorem w79_43 : ma_W d 79 Q 43 (some (.ref i) :: l) st H 0 0 = ma_W d 79 Q 44 (some (.ref i) :: l) (.ref i :: st) H 0 0 := wp_aload_n (x := some i) rfl rfl
theorem w79_44 : ma_W d 79 Q 44 l (.ref i :: st) H 0 0 = ma_gf (H.1 i) 7 0 (ma_kV d 79 Q 47 l st H 0 0) := wp_get rfl (by decide +kernel)
theorem w79_47 : ma_W d 79 Q 47 l (.ref i :: st) H 0 0 = ma_gf (H.1 i) 0 1 (ma_kV d 79 Q 50 l st H 0 0) := wp_get rfl (by decide +kernel)
theorem w79_50 : ma_W d 79 Q 50 l (.ref i :: st) H 0 0 = (ma_cat st ≤ 8 ∧ ma_cv (H.1 i) 1 d 7 [.ref i] H (ma_kC d 79 Q 53 l st 0 0)) := wc_V0 (ia := 7) (n := 1) (cn := 1) rfl (by decide +kernel) (fun _ => rfl) rfl rfl
theorem w79_53 : ma_W d 79 Q 53 (o0 :: o1 :: o2 :: some (.int x) :: l) st H 0 0 = ma_W d 79 Q 54 (o0 :: o1 :: o2 :: some (.int x) :: l) (.int x :: st) H 0 0 := wp_iload_n rfl rfl
theorem w79_54 : ma_W d 79 Q 54 l [.int x] H 0 0 = Q (some (.int x)) H := wp_iret rfl rfl
theorem e79 : ma_MW (d + 1) 79 [.ref i, .int x0, .int x1] H Q = ma_W d 79 Q 0 [some (.ref i), some (.int x0), some (.int x1), none] [] H 0 0 := wp_enter (by decide) (Nat.le_of_ble_eq_true rfl) rfl
/-! 80 be_deals -/
theorem w80_0 : ma_W d 80 Q 0 (o0 :: some (.int x) :: l) st H 0 0 = ma_W d 80 Q 1 (o0 :: some (.int x) :: l) (.int x :: st) H 0 0 := wp_iload_n rfl rfl
theorem w80_1 : ma_W d 80 Q 1 l (.int x0 :: st) H 0 0 = (ma_cat st ≤ 8 ∧ ma_MW d 117 [.int x0] H (ma_kC d 80 Q 4 l st 0 0)) := wc_S0 (ia := 117) (n := 1) (cn := 7) (k := 1) rfl (by decide +kernel) (by decide) (fun _ => rfl) rfl rfl
theorem w80_4 : ma_W d 80 Q 4 l (.int x :: st) H 0 0 = ma_if (x = 0) d 80 Q 14 7 l st H 0 0 := wp_c0 (id := 80) (pc := 4) (c := .eq) (off := 10) 14 rfl (by decide)
theorem w80_7 : ma_W d 80 Q 7 (o0 :: o1 :: some (.int x) :: l) st H 0 0 = ma_W d 80 Q 8 (o0 :: o1 :: some (.int x) :: l) (.int x :: st) H 0 0 := wp_iload_n rfl rfl
theorem w80_8 : ma_W d 80 Q 8 l (.int x0 :: st) H 0 0 = (ma_cat st ≤ 8 ∧ ma_MW d 118 [.int x0] H (ma_kC d 80 Q 11 l st 0 0)) := wc_S0 (ia := 118) (n := 1) (cn := 7) (k := 1) rfl (by decide +kernel) (by decide) (fun _ => rfl) rfl rfl
theorem w80_11 : ma_W d 80 Q 11 l (.int x :: st) H 0 0 = ma_if (x = 0) d 80 Q 14 19 l st H 0 0 := wp_c0 (id := 80) (pc := 11) (c := .ne) (off := 8) 19 rfl (by decide)
theorem w80_14 : ma_W d 80 Q 14 (some (.ref i) :: l) st H 0 0 = ma_W d 80 Q 15 (some (.ref i) :: l) (.ref i :: st) H 0 0 := wp_aload_n (x := some i) rfl rfl
theorem w80_15 : ma_W d 80 Q 15 l (.ref i :: st) H 0 0 = (ma_cat st ≤ 8 ∧ ma_cv (H.1 i) 7 d 113 [.ref i] H (ma_kC d 80 Q 18 l st 0 0)) := wc_V0 (ia := 113) (n := 1) (cn := 7) rfl (by decide +kernel) (fun _ => rfl) rfl rfl
theorem w80_18 : ma_W d 80 Q 18 l [.int x] H 0 0 = Q (some (.int x)) H := wp_iret rfl rfl
theorem w80_19 : ma_W d 80 Q 19 (some (.ref i) :: l) st H 0 0 = ma_W d 80 Q 20 (some (.ref i) :: l) (.ref i :: st) H 0 0 := wp_aload_n (x := some i) rfl rfl
theorem w80_20 : ma_W d 80 Q 20 l (.ref i :: st) H 0 0 = ma_gf (H.1 i) 7 0 (ma_kV d 80 Q 23 l st H 0 0) := wp_get rfl (by decide +kernel)
theorem w80_23 : ma_W d 80 Q 23 l (.ref i :: st) H 0 0 = ma_gf (H.1 i) 0 0 (ma_kV d 80 Q 26 l st H 0 0) := wp_get rfl (by decide +kernel)
theorem w80_26 : ma_W d 80 Q 26 l (.ref i :: st) H 0 0 = (ma_cat st ≤ 8 ∧ ma_cv (H.1 i) 4 d 42 [.ref i] H (ma_kC d 80 Q 29 l st 0 0)) := wc_V0 (ia := 42) (n := 1) (cn := 4) rfl (by decide +kernel) (fun _ => rfl) rfl rfl
theorem w80_29 : ma_W d 80 Q 29 l (.int x :: st) H 0 0 = ma_if (x = 0) d 80 Q 32 37 l st H 0 0 := wp_c0 (id := 80) (pc := 29) (c := .ne) (off := 8) 37 rfl (by decide)
theorem w80_32 : ma_W d 80 Q 32 (some (.ref i) :: l) st H 0 0 = ma_W d 80 Q 33 (some (.ref i) :: l) (.ref i :: st) H 0 0 := wp_aload_n (x := some i) rfl rfl
theorem w80_33 : ma_W d 80 Q 33 l (.ref i :: st) H 0 0 = (ma_cat st ≤ 8 ∧ ma_cv (H.1 i) 7 d 115 [.ref i] H (ma_kC d 80 Q 36 l st 0 0)) := wc_V0 (ia := 115) (n := 1) (cn := 7) rfl (by decide +kernel) (fun _ => rfl) rfl rfl
theorem w80_36 : ma_W d 80 Q 36 l [.int x] H 0 0 = Q (some (.int x)) H := wp_iret rfl rfl
theorem w80_37 : ma_W d 80 Q 37 (some (.ref i) :: l) st H 0 0 = ma_W d 80 Q 38 (some (.ref i) :: l) (.ref i :: st) H 0 0 := wp_aload_n (x := some i) rfl rfl
theorem w80_38 : ma_W d 80 Q 38 l (.ref i :: st) H 0 0 = ma_gf (H.1 i) 7 0 (ma_kV d 80 Q 41 l st H 0 0) := wp_get rfl (by decide +kernel)
theorem w80_41 : ma_W d 80 Q 41 l (.ref i :: st) H 0 0 = ma_gf (H.1 i) 0 0 (ma_kV d 80 Q 44 l st H 0 0) := wp_get rfl (by decide +kernel)
theorem w80_44 : ma_W d 80 Q 44 (o0 :: some (.int x) :: l) st H 0 0 = ma_W d 80 Q 45 (o0 :: some (.int x) :: l) (.int x :: st) H 0 0 := wp_iload_n rfl rfl
theorem w80_45 : ma_W d 80 Q 45 (o0 :: o1 :: some (.int x) :: l) st H 0 0 = ma_W d 80 Q 46 (o0 :: o1 :: some (.int x) :: l) (.int x :: st) H 0 0 := wp_iload_n rfl rfl
theorem w80_46 : ma_W d 80 Q 46 l (.int x1 :: .int x0 :: .ref i :: st) H 0 0 = (ma_cat st ≤ 8 ∧ ma_cv (H.1 i) 4 d 45 [.ref i, .int x0, .int x1] H (ma_kC d 80 Q 49 l st 0 0)) := wc_V0 (ia := 45) (n := 3) (cn := 4) rfl (by decide +kernel) (fun _ => rfl) rfl rfl
theorem w80_49 : ma_W d 80 Q 49 (some (.ref i) :: l) st H 0 0 = ma_W d 80 Q 50 (some (.ref i) :: l) (.ref i :: st) H 0 0 := wp_aload_n (x := some i) rfl rfl
theorem w80_50 : ma_W d 80 Q 50 l (.ref i :: st) H 0 0 = ma_gf (H.1 i) 7 0 (ma_kV d 80 Q 53 l st H 0 0) := wp_get rfl (by decide +kernel)
theorem w80_53 : ma_W d 80 Q 53 l (.ref i :: st) H 0 0 = ma_gf (H.1 i) 0 1 (ma_kV d 80 Q 56 l st H 0 0) := wp_get rfl (by decide +kernel)
theorem w80_56 : ma_W d 80 Q 56 l (.ref i :: st) H 0 0 = (ma_cat st ≤ 8 ∧ ma_cv (H.1 i) 1 d 7 [.ref i] H (ma_kC d 80 Q 59 l st 0 0)) := wc_V0 (ia := 7) (n := 1) (cn := 1) rfl (by decide +kernel) (fun _ => rfl) rfl rfl
theorem w80_59 : ma_W d 80 Q 59 (some (.ref i) :: l) st H 0 0 = ma_W d 80 Q 60 (some (.ref i) :: l) (.ref i :: st) H 0 0 := wp_aload_n (x := some i) rfl rfl
theorem w80_60 : ma_W d 80 Q 60 l (.ref i :: st) H 0 0 = ma_gf (H.1 i) 7 0 (ma_kV d 80 Q 63 l st H 0 0) := wp_get rfl (by decide +kernel)
theorem w80_63 : ma_W d 80 Q 63 l (.ref i :: st) H 0 0 = ma_gf (H.1 i) 0 0 (ma_kV d 80 Q 66 l st H 0 0) := wp_get rfl (by decide +kernel)
theorem w80_66 : ma_W d 80 Q 66 (o0 :: some (.int x) :: l) st H 0 0 = ma_W d 80 Q 67 (o0 :: some (.int x) :: l) (.int x :: st) H 0 0 := wp_iload_n rfl rfl
theorem w80_67 : ma_W d 80 Q 67 l (.int x0 :: .ref i :: st) H 0 0 = (ma_cat st ≤ 8 ∧ ma_cv (H.1 i) 4 d 37 [.ref i, .int x0] H (ma_kC d 80 Q 70 l st 0 0)) := wc_V0 (ia := 37) (n := 2) (cn := 4) rfl (by decide +kernel) (fun _ => rfl) rfl rfl
theorem w80_70 : ma_W d 80 Q 70 l (.long u0 :: st) H 0 0 = (ma_cat st ≤ 8 ∧ ma_MW d 202 [.long u0] H (ma_kC d 80 Q 73 l st 0 0)) := wc_S0 (ia := 202) (n := 1) (cn := 10) (k := 1) rfl (by decide +kernel) (by decide) (fun _ => rfl) rfl rfl
theorem w80_73 : ma_W d 80 Q 73 l [.int x] H 0 0 = Q (some (.int x)) H := wp_iret rfl rfl
theorem e80 : ma_MW (d + 1) 80 [.ref i, .int x0, .int x1] H Q = ma_W d 80 Q 0 [some (.ref i), some (.int x0), some (.int x1)] [] H 0 0 := wp_enter (by decide) (Nat.le_of_ble_eq_true rfl) rfl
/-! 81 be_type -/
theorem w81_0 : ma_W d 81 Q 0 (o0 :: some (.int x) :: l) st H 0 0 = ma_W d 81 Q 1 (o0 :: some (.int x) :: l) (.int x :: st) H 0 0 := wp_iload_n rfl rfl
theorem w81_1 : ma_W d 81 Q 1 l st H 0 0 = ma_W d 81 Q 2 l (.int 0 :: st) H 0 0 := wp_iconst rfl (by decide)
theorem w81_2 : ma_W d 81 Q 2 l st H 0 0 = ma_W d 81 Q 4 l (.int 127 :: st) H 0 0 := wp_bipush rfl (by decide)
theorem w81_4 : ma_W d 81 Q 4 l (.int x2 :: .int x1 :: .int x0 :: st) H 0 0 = (ma_cat st ≤ 8 ∧ ma_MW d 116 [.int x0, .int x1, .int x2] H (ma_kC d 81 Q 7 l st 0 0)) := wc_S0 (ia := 116) (n := 3) (cn := 7) (k := 1) rfl (by decide +kernel) (by decide) (fun _ => rfl) rfl rfl
theorem w81_7 : ma_W d 81 Q 7 l (.int x :: st) H 0 0 = ma_if (x = 0) d 81 Q 10 15 l st H 0 0 := wp_c0 (id := 81) (pc := 7) (c := .ne) (off := 8) 15 rfl (by decide)
theorem w81_10 : ma_W d 81 Q 10 (some (.ref i) :: l) st H 0 0 = ma_W d 81 Q 11 (some (.ref i) :: l) (.ref i :: st) H 0 0 := wp_aload_n (x := some i) rfl rfl
theorem w81_11 : ma_W d 81 Q 11 l (.ref i :: st) H 0 0 = (ma_cat st ≤ 8 ∧ ma_cv (H.1 i) 7 d 113 [.ref i] H (ma_kC d 81 Q 14 l st 0 0)) := wc_V0 (ia := 113) (n := 1) (cn := 7) rfl (by decide +kernel) (fun _ => rfl) rfl rfl
theorem w81_14 : ma_W d 81 Q 14 l [.int x] H 0 0 = Q (some (.int x)) H := wp_iret rfl rfl
theorem w81_15 : ma_W d 81 Q 15 (some (.ref i) :: l) st H 0 0 = ma_W d 81 Q 16 (some (.ref i) :: l) (.ref i :: st) H 0 0 := wp_aload_n (x := some i) rfl rfl
theorem w81_16 : ma_W d 81 Q 16 l (.ref i :: st) H 0 0 = ma_gf (H.1 i) 7 4 (ma_kV d 81 Q 19 l st H 0 0) := wp_get rfl (by decide +kernel)
theorem w81_19 : ma_W d 81 Q 19 l (.ref i :: st) H 0 0 = (ma_cat st ≤ 8 ∧ ma_cv (H.1 i) 5 d 55 [.ref i] H (ma_kC d 81 Q 22 l st 0 0)) := wc_V0 (ia := 55) (n := 1) (cn := 5) rfl (by decide +kernel) (fun _ => rfl) rfl rfl
theorem w81_22 : ma_W d 81 Q 22 l (.int x :: st) H 0 0 = ma_if (x = 0) d 81 Q 30 25 l st H 0 0 := wp_c0 (id := 81) (pc := 22) (c := .eq) (off := 8) 30 rfl (by decide)
theorem w81_25 : ma_W d 81 Q 25 (some (.ref i) :: l) st H 0 0 = ma_W d 81 Q 26 (some (.ref i) :: l) (.ref i :: st) H 0 0 := wp_aload_n (x := some i) rfl rfl
theorem w81_26 : ma_W d 81 Q 26 l (.ref i :: st) H 0 0 = (ma_cat st ≤ 8 ∧ ma_cv (H.1 i) 7 d 115 [.ref i] H (ma_kC d 81 Q 29 l st 0 0)) := wc_V0 (ia := 115) (n := 1) (cn := 7) rfl (by decide +kernel) (fun _ => rfl) rfl rfl
theorem w81_29 : ma_W d 81 Q 29 l [.int x] H 0 0 = Q (some (.int x)) H := wp_iret rfl rfl
theorem w81_30 : ma_W d 81 Q 30 (some (.ref i) :: l) st H 0 0 = ma_W d 81 Q 31 (some (.ref i) :: l) (.ref i :: st) H 0 0 := wp_aload_n (x := some i) rfl rfl
theorem w81_31 : ma_W d 81 Q 31 l (.ref i :: st) H 0 0 = ma_gf (H.1 i) 7 4 (ma_kV d 81 Q 34 l st H 0 0) := wp_get rfl (by decide +kernel)
theorem w81_34 : ma_W d 81 Q 34 (o0 :: some (.int x) :: l) st H 0 0 = ma_W d 81 Q 35 (o0 :: some (.int x) :: l) (.int x :: st) H 0 0 := wp_iload_n rfl rfl
theorem w81_35 : ma_W d 81 Q 35 l (.int x0 :: .ref i :: st) H 0 0 = (ma_cat st ≤ 8 ∧ ma_cv (H.1 i) 5 d 56 [.ref i, .int x0] H (ma_kC d 81 Q 38 l st 0 0)) := wc_V0 (ia := 56) (n := 2) (cn := 5) rfl (by decide +kernel) (fun _ => rfl) rfl rfl
theorem w81_38 : ma_W d 81 Q 38 (some (.ref i) :: l) st H 0 0 = ma_W d 81 Q 39 (some (.ref i) :: l) (.ref i :: st) H 0 0 := wp_aload_n (x := some i) rfl rfl
theorem w81_39 : ma_W d 81 Q 39 l (.ref i :: st) H 0 0 = ma_gf (H.1 i) 7 4 (ma_kV d 81 Q 42 l st H 0 0) := wp_get rfl (by decide +kernel)
theorem w81_42 : ma_W d 81 Q 42 l (.ref i :: st) H 0 0 = (ma_cat st ≤ 8 ∧ ma_cv (H.1 i) 5 d 54 [.ref i] H (ma_kC d 81 Q 45 l st 0 0)) := wc_V0 (ia := 54) (n := 1) (cn := 5) rfl (by decide +kernel) (fun _ => rfl) rfl rfl
theorem w81_45 : ma_W d 81 Q 45 l [.int x] H 0 0 = Q (some (.int x)) H := wp_iret rfl rfl
theorem e81 : ma_MW (d + 1) 81 [.ref i, .int x0] H Q = ma_W d 81 Q 0 [some (.ref i), some (.int x0)] [] H 0 0 := wp_enter (by decide) (Nat.le_of_ble_eq_true rfl) rfl
/-! 82 be_clear -/
theorem w82_0 : ma_W d 82 Q 0 (some (.ref i) :: l) st H 0 0 = ma_W d 82 Q 1 (some (.ref i) :: l) (.ref i :: st) H 0 0 := wp_aload_n (x := some i) rfl rfl
theorem w82_1 : ma_W d 82 Q 1 l (.ref i :: st) H 0 0 = ma_gf (H.1 i) 7 4 (ma_kV d 82 Q 4 l st H 0 0) := wp_get rfl (by decide +kernel)
theorem w82_4 : ma_W d 82 Q 4 l (.ref i :: st) H 0 0 = (ma_cat st ≤ 8 ∧ ma_cv (H.1 i) 5 d 54 [.ref i] H (ma_kC d 82 Q 7 l st 0 0)) := wc_V0 (ia := 54) (n := 1) (cn := 5) rfl (by decide +kernel) (fun _ => rfl) rfl rfl
theorem w82_7 : ma_W d 82 Q 7 (o0 :: p :: l) (.int x :: st) H 0 0 = ma_W d 82 Q 8 (ma_clr o0 :: some (.int x) :: l) st H 0 0 := wp_istore_n (id := 82) (pc := 7) (k := 1) rfl (Nat.succ_lt_succ (Nat.zero_lt_succ _))
theorem w82_8 : ma_W d 82 Q 8 (some (.ref i) :: l) st H 0 0 = ma_W d 82 Q 9 (some (.ref i) :: l) (.ref i :: st) H 0 0 := wp_aload_n (x := some i) rfl rfl
theorem w82_9 : ma_W d 82 Q 9 l (.ref i :: st) H 0 0 = ma_gf (H.1 i) 7 4 (ma_kV d 82 Q 12 l st H 0 0) := wp_get rfl (by decide +kernel)
theorem w82_12 : ma_W d 82 Q 12 l (.ref i :: st) H 0 0 = (ma_cat st ≤ 8 ∧ ma_cv (H.1 i) 5 d 57 [.ref i] H (ma_kC d 82 Q 15 l st 0 0)) := wc_V0 (ia := 57) (n := 1) (cn := 5) rfl (by decide +kernel) (fun _ => rfl) rfl rfl
theorem w82_15 : ma_W d 82 Q 15 (o0 :: some (.int x) :: l) st H 0 0 = ma_W d 82 Q 16 (o0 :: some (.int x) :: l) (.int x :: st) H 0 0 := wp_iload_n rfl rfl
theorem w82_16 : ma_W d 82 Q 16 l [.int x] H 0 0 = Q (some (.int x)) H := wp_iret rfl rfl
theorem e82 : ma_MW (d + 1) 82 [.ref i] H Q = ma_W d 82 Q 0 [some (.ref i), none] [] H 0 0 := wp_enter (by decide) (Nat.le_of_ble_eq_true rfl) rfl
/-! 83 be_read -/
theorem w83_0 : ma_W d 83 Q 0 (some (.ref i) :: l) st H 0 0 = ma_W d 83 Q 1 (some (.ref i) :: l) (.ref i :: st) H 0 0 := wp_aload_n (x := some i) rfl rfl
theorem w83_1 : ma_W d 83 Q 1 l (.ref i :: st) H 0 0 = ma_gf (H.1 i) 7 5 (ma_kV d 83 Q 4 l st H 0 0) := wp_get rfl (by decide +kernel)
theorem w83_4 : ma_W d 83 Q 4 (some (.ref i) :: l) st H 0 0 = ma_W d 83 Q 5 (some (.ref i) :: l) (.ref i :: st) H 0 0 := wp_aload_n (x := some i) rfl rfl
theorem w83_5 : ma_W d 83 Q 5 l (.ref i :: st) H 0 0 = ma_gf (H.1 i) 7 1 (ma_kV d 83 Q 8 l st H 0 0) := wp_get rfl (by decide +kernel)
theorem w83_8 : ma_W d 83 Q 8 l (.ref i0 :: .ref i :: st) H 0 0 = (ma_cat st ≤ 8 ∧ ma_cv (H.1 i) 2 d 13 [.ref i, .ref i0] H (ma_kC d 83 Q 11 l st 0 0)) := wc_V0 (ia := 13) (n := 2) (cn := 2) rfl (by decide +kernel) (fun _ => rfl) rfl rfl
theorem w83_11 : ma_W d 83 Q 11 (o0 :: p :: l) (.int x :: st) H 0 0 = ma_W d 83 Q 12 (ma_clr o0 :: some (.int x) :: l) st H 0 0 := wp_istore_n (id := 83) (pc := 11) (k := 1) rfl (Nat.succ_lt_succ (Nat.zero_lt_succ _))
theorem w83_12 : ma_W d 83 Q 12 (o0 :: some (.int x) :: l) st H 0 0 = ma_W d 83 Q 13 (o0 :: some (.int x) :: l) (.int x :: st) H 0 0 := wp_iload_n rfl rfl
theorem w83_13 : ma_W d 83 Q 13 l (.int x :: st) H 0 0 = ma_if (x < 0) d 83 Q 27 16 l st H 0 0 := wp_c0 (id := 83) (pc := 13) (c := .lt) (off := 14) 27 rfl (by decide)
theorem w83_16 : ma_W d 83 Q 16 (some (.ref i) :: l) st H 0 0 = ma_W d 83 Q 17 (some (.ref i) :: l) (.ref i :: st) H 0 0 := wp_aload_n (x := some i) rfl rfl
theorem w83_17 : ma_W d 83 Q 17 l (.ref i :: st) H 0 0 = ma_gf (H.1 i) 7 0 (ma_kV d 83 Q 20 l st H 0 0) := wp_get rfl (by decide +kernel)
theorem w83_20 : ma_W d 83 Q 20 (some (.ref i) :: l) st H 0 0 = ma_W d 83 Q 21 (some (.ref i) :: l) (.ref i :: st) H 0 0 := wp_aload_n (x := some i) rfl rfl
theorem w83_21 : ma_W d 83 Q 21 l (.ref i :: st) H 0 0 = ma_gf (H.1 i) 7 1 (ma_kV d 83 Q 24 l st H 0 0) := wp_get rfl (by decide +kernel)
theorem w83_24 : ma_W d 83 Q 24 l (.ref i0 :: .ref i :: st) H 0 0 = (ma_cat st ≤ 8 ∧ ma_cv (H.1 i) 0 d 2 [.ref i, .ref i0] H (ma_kC d 83 Q 27 l st 0 0)) := wc_V0 (ia := 2) (n := 2) (cn := 0) rfl (by decide +kernel) (fun _ => rfl) rfl rfl
theorem w83_27 : ma_W d 83 Q 27 (o0 :: some (.int x) :: l) st H 0 0 = ma_W d 83 Q 28 (o0 :: some (.int x) :: l) (.int x :: st) H 0 0 := wp_iload_n rfl rfl
theorem w83_28 : ma_W d 83 Q 28 l [.int x] H 0 0 = Q (some (.int x)) H := wp_iret rfl rfl
theorem e83 : ma_MW (d + 1) 83 [.ref i] H Q = ma_W d 83 Q 0 [some (.ref i), none] [] H 0 0 := wp_enter (by decide) (Nat.le_of_ble_eq_true rfl) rfl
/-! 84 be_lays -/
theorem w84_0 : ma_W d 84 Q 0 (o0 :: some (.int x) :: l) st H 0 0 = ma_W d 84 Q 1 (o0 :: some (.int x) :: l) (.int x :: st) H 0 0 := wp_iload_n rfl rfl
theorem w84_1 : ma_W d 84 Q 1 l st H 0 0 = ma_W d 84 Q 2 l (.int 1 :: st) H 0 0 := wp_iconst rfl (by decide)
theorem w84_2 : ma_W d 84 Q 2 l st H 0 0 = ma_W d 84 Q 4 l (.int 60 :: st) H 0 0 := wp_bipush rfl (by decide)
theorem w84_4 : ma_W d 84 Q 4 l (.int x2 :: .int x1 :: .int x0 :: st) H 0 0 = (ma_cat st ≤ 8 ∧ ma_MW d 116 [.int x0, .int x1, .int x2] H (ma_kC d 84 Q 7 l st 0 0)) := wc_S0 (ia := 116) (n := 3) (cn := 7) (k := 1) rfl (by decide +kernel) (by decide) (fun _ => rfl) rfl rfl
theorem w84_7 : ma_W d 84 Q 7 l (.int x :: st) H 0 0 = ma_if (x = 0) d 84 Q 10 15 l st H 0 0 := wp_c0 (id := 84) (pc := 7) (c := .ne) (off := 8) 15 rfl (by decide)
theorem w84_10 : ma_W d 84 Q 10 (some (.ref i) :: l) st H 0 0 = ma_W d 84 Q 11 (some (.ref i) :: l) (.ref i :: st) H 0 0 := wp_aload_n (x := some i) rfl rfl
theorem w84_11 : ma_W d 84 Q 11 l (.ref i :: st) H 0 0 = (ma_cat st ≤ 8 ∧ ma_cv (H.1 i) 7 d 113 [.ref i] H (ma_kC d 84 Q 14 l st 0 0)) := wc_V0 (ia := 113) (n := 1) (cn := 7) rfl (by decide +kernel) (fun _ => rfl) rfl rfl
theorem w84_14 : ma_W d 84 Q 14 l [.int x] H 0 0 = Q (some (.int x)) H := wp_iret rfl rfl
theorem w84_15 : ma_W d 84 Q 15 (some (.ref i) :: l) st H 0 0 = ma_W d 84 Q 16 (some (.ref i) :: l) (.ref i :: st) H 0 0 := wp_aload_n (x := some i) rfl rfl
theorem w84_16 : ma_W d 84 Q 16 l (.ref i :: st) H 0 0 = ma_gf (H.1 i) 7 0 (ma_kV d 84 Q 19 l st H 0 0) := wp_get rfl (by decide +kernel)
theorem w84_19 : ma_W d 84 Q 19 l (.ref i :: st) H 0 0 = ma_gf (H.1 i) 0 0 (ma_kV d 84 Q 22 l st H 0 0) := wp_get rfl (by decide +kernel)
theorem w84_22 : ma_W d 84 Q 22 l (.ref i :: st) H 0 0 = (ma_cat st ≤ 8 ∧ ma_cv (H.1 i) 4 d 49 [.ref i] H (ma_kC d 84 Q 25 l st 0 0)) := wc_V0 (ia := 49) (n := 1) (cn := 4) rfl (by decide +kernel) (fun _ => rfl) rfl rfl
theorem w84_25 : ma_W d 84 Q 25 l (.int x :: st) H 0 0 = ma_if (x = 0) d 84 Q 28 33 l st H 0 0 := wp_c0 (id := 84) (pc := 25) (c := .ne) (off := 8) 33 rfl (by decide)
theorem w84_28 : ma_W d 84 Q 28 (some (.ref i) :: l) st H 0 0 = ma_W d 84 Q 29 (some (.ref i) :: l) (.ref i :: st) H 0 0 := wp_aload_n (x := some i) rfl rfl
theorem w84_29 : ma_W d 84 Q 29 l (.ref i :: st) H 0 0 = (ma_cat st ≤ 8 ∧ ma_cv (H.1 i) 7 d 114 [.ref i] H (ma_kC d 84 Q 32 l st 0 0)) := wc_V0 (ia := 114) (n := 1) (cn := 7) rfl (by decide +kernel) (fun _ => rfl) rfl rfl
theorem w84_32 : ma_W d 84 Q 32 l [.int x] H 0 0 = Q (some (.int x)) H := wp_iret rfl rfl
theorem w84_33 : ma_W d 84 Q 33 (some (.ref i) :: l) st H 0 0 = ma_W d 84 Q 34 (some (.ref i) :: l) (.ref i :: st) H 0 0 := wp_aload_n (x := some i) rfl rfl
theorem w84_34 : ma_W d 84 Q 34 l (.ref i :: st) H 0 0 = ma_gf (H.1 i) 7 0 (ma_kV d 84 Q 37 l st H 0 0) := wp_get rfl (by decide +kernel)
theorem w84_37 : ma_W d 84 Q 37 l (.ref i :: st) H 0 0 = ma_gf (H.1 i) 0 1 (ma_kV d 84 Q 40 l st H 0 0) := wp_get rfl (by decide +kernel)
theorem w84_40 : ma_W d 84 Q 40 (some (.ref i) :: l) st H 0 0 = ma_W d 84 Q 41 (some (.ref i) :: l) (.ref i :: st) H 0 0 := wp_aload_n (x := some i) rfl rfl
theorem w84_41 : ma_W d 84 Q 41 l (.ref i :: st) H 0 0 = ma_gf (H.1 i) 7 0 (ma_kV d 84 Q 44 l st H 0 0) := wp_get rfl (by decide +kernel)
theorem w84_44 : ma_W d 84 Q 44 l (.ref i :: st) H 0 0 = ma_gf (H.1 i) 0 0 (ma_kV d 84 Q 47 l st H 0 0) := wp_get rfl (by decide +kernel)
theorem w84_47 : ma_W d 84 Q 47 l (.ref i0 :: .ref i :: st) H 0 0 = (ma_cat st ≤ 8 ∧ ma_cv (H.1 i) 1 d 8 [.ref i, .ref i0] H (ma_kC d 84 Q 50 l st 0 0)) := wc_V0 (ia := 8) (n := 2) (cn := 1) rfl (by decide +kernel) (fun _ => rfl) rfl rfl
theorem w84_50 : ma_W d 84 Q 50 (some (.ref i) :: l) st H 0 0 = ma_W d 84 Q 51 (some (.ref i) :: l) (.ref i :: st) H 0 0 := wp_aload_n (x := some i) rfl rfl
theorem w84_51 : ma_W d 84 Q 51 l (.ref i :: st) H 0 0 = ma_gf (H.1 i) 7 0 (ma_kV d 84 Q 54 l st H 0 0) := wp_get rfl (by decide +kernel)
theorem w84_54 : ma_W d 84 Q 54 l (.ref i :: st) H 0 0 = ma_gf (H.1 i) 0 0 (ma_kV d 84 Q 57 l st H 0 0) := wp_get rfl (by decide +kernel)
theorem w84_57 : ma_W d 84 Q 57 (o0 :: some (.int x) :: l) st H 0 0 = ma_W d 84 Q 58 (o0 :: some (.int x) :: l) (.int x :: st) H 0 0 := wp_iload_n rfl rfl
theorem w84_58 : ma_W d 84 Q 58 l (.int x0 :: .ref i :: st) H 0 0 = (ma_cat st ≤ 8 ∧ ma_cv (H.1 i) 4 d 50 [.ref i, .int x0] H (ma_kC d 84 Q 61 l st 0 0)) := wc_V0 (ia := 50) (n := 2) (cn := 4) rfl (by decide +kernel) (fun _ => rfl) rfl rfl
theorem w84_61 : ma_W d 84 Q 61 l [.int x] H 0 0 = Q (some (.int x)) H := wp_iret rfl rfl
theorem e84 : ma_MW (d + 1) 84 [.ref i, .int x0] H Q = ma_W d 84 Q 0 [some (.ref i), some (.int x0)] [] H 0 0 := wp_enter (by decide) (Nat.le_of_ble_eq_true rfl) rfl
/-! 85 be_exchanges -/
theorem w85_0 : ma_W d 85 Q 0 (some (.ref i) :: l) st H 0 0 = ma_W d 85 Q 1 (some (.ref i) :: l) (.ref i :: st) H 0 0 := wp_aload_n (x := some i) rfl rfl
theorem w85_1 : ma_W d 85 Q 1 l (.ref i :: st) H 0 0 = ma_gf (H.1 i) 7 0 (ma_kV d 85 Q 4 l st H 0 0) := wp_get rfl (by decide +kernel)
theorem w85_4 : ma_W d 85 Q 4 l (.ref i :: st) H 0 0 = ma_gf (H.1 i) 0 0 (ma_kV d 85 Q 7 l st H 0 0) := wp_get rfl (by decide +kernel)
theorem w85_7 : ma_W d 85 Q 7 l st H 0 0 = ma_W d 85 Q 8 l (.int 0 :: st) H 0 0 := wp_iconst rfl (by decide)
theorem w85_8 : ma_W d 85 Q 8 (o0 :: some (.int x) :: l) st H 0 0 = ma_W d 85 Q 9 (o0 :: some (.int x) :: l) (.int x :: st) H 0 0 := wp_iload_n rfl rfl
theorem w85_9 : ma_W d 85 Q 9 l (.int x1 :: .int x0 :: .ref i :: st) H 0 0 = (ma_cat st ≤ 8 ∧ ma_cv (H.1 i) 4 d 43 [.ref i, .int x0, .int x1] H (ma_kC d 85 Q 12 l st 0 0)) := wc_V0 (ia := 43) (n := 3) (cn := 4) rfl (by decide +kernel) (fun _ => rfl) rfl rfl
theorem w85_12 : ma_W d 85 Q 12 l (.int x :: st) H 0 0 = ma_if (x = 0) d 85 Q 30 15 l st H 0 0 := wp_c0 (id := 85) (pc := 12) (c := .eq) (off := 18) 30 rfl (by decide)
theorem w85_15 : ma_W d 85 Q 15 (some (.ref i) :: l) st H 0 0 = ma_W d 85 Q 16 (some (.ref i) :: l) (.ref i :: st) H 0 0 := wp_aload_n (x := some i) rfl rfl
theorem w85_16 : ma_W d 85 Q 16 l (.ref i :: st) H 0 0 = ma_gf (H.1 i) 7 0 (ma_kV d 85 Q 19 l st H 0 0) := wp_get rfl (by decide +kernel)
theorem w85_19 : ma_W d 85 Q 19 l (.ref i :: st) H 0 0 = ma_gf (H.1 i) 0 0 (ma_kV d 85 Q 22 l st H 0 0) := wp_get rfl (by decide +kernel)
theorem w85_22 : ma_W d 85 Q 22 l st H 0 0 = ma_W d 85 Q 23 l (.int 1 :: st) H 0 0 := wp_iconst rfl (by decide)
theorem w85_23 : ma_W d 85 Q 23 (o0 :: o1 :: some (.int x) :: l) st H 0 0 = ma_W d 85 Q 24 (o0 :: o1 :: some (.int x) :: l) (.int x :: st) H 0 0 := wp_iload_n rfl rfl
theorem w85_24 : ma_W d 85 Q 24 l (.int x1 :: .int x0 :: .ref i :: st) H 0 0 = (ma_cat st ≤ 8 ∧ ma_cv (H.1 i) 4 d 43 [.ref i, .int x0, .int x1] H (ma_kC d 85 Q 27 l st 0 0)) := wc_V0 (ia := 43) (n := 3) (cn := 4) rfl (by decide +kernel) (fun _ => rfl) rfl rfl
theorem w85_27 : ma_W d 85 Q 27 l (.int x :: st) H 0 0 = ma_if (x = 0) d 85 Q 30 35 l st H 0 0 := wp_c0 (id := 85) (pc := 27) (c := .ne) (off := 8) 35 rfl (by decide)
theorem w85_30 : ma_W d 85 Q 30 (some (.ref i) :: l) st H 0 0 = ma_W d 85 Q 31 (some (.ref i) :: l) (.ref i :: st) H 0 0 := wp_aload_n (x := some i) rfl rfl
theorem w85_31 : ma_W d 85 Q 31 l (.ref i :: st) H 0 0 = (ma_cat st ≤ 8 ∧ ma_cv (H.1 i) 7 d 113 [.ref i] H (ma_kC d 85 Q 34 l st 0 0)) := wc_V0 (ia := 113) (n := 1) (cn := 7) rfl (by decide +kernel) (fun _ => rfl) rfl rfl
theorem w85_34 : ma_W d 85 Q 34 l [.int x] H 0 0 = Q (some (.int x)) H := wp_iret rfl rfl
theorem w85_35 : ma_W d 85 Q 35 (some (.ref i) :: l) st H 0 0 = ma_W d 85 Q 36 (some (.ref i) :: l) (.ref i :: st) H 0 0 := wp_aload_n (x := some i) rfl rfl
theorem w85_36 : ma_W d 85 Q 36 l (.ref i :: st) H 0 0 = ma_gf (H.1 i) 7 0 (ma_kV d 85 Q 39 l st H 0 0) := wp_get rfl (by decide +kernel)
theorem w85_39 : ma_W d 85 Q 39 l (.ref i :: st) H 0 0 = ma_gf (H.1 i) 0 1 (ma_kV d 85 Q 42 l st H 0 0) := wp_get rfl (by decide +kernel)
theorem w85_42 : ma_W d 85 Q 42 (some (.ref i) :: l) st H 0 0 = ma_W d 85 Q 43 (some (.ref i) :: l) (.ref i :: st) H 0 0 := wp_aload_n (x := some i) rfl rfl
theorem w85_43 : ma_W d 85 Q 43 l (.ref i :: st) H 0 0 = ma_gf (H.1 i) 7 0 (ma_kV d 85 Q 46 l st H 0 0) := wp_get rfl (by decide +kernel)
theorem w85_46 : ma_W d 85 Q 46 l (.ref i :: st) H 0 0 = ma_gf (H.1 i) 0 0 (ma_kV d 85 Q 49 l st H 0 0) := wp_get rfl (by decide +kernel)
theorem w85_49 : ma_W d 85 Q 49 l (.ref i0 :: .ref i :: st) H 0 0 = (ma_cat st ≤ 8 ∧ ma_cv (H.1 i) 1 d 8 [.ref i, .ref i0] H (ma_kC d 85 Q 52 l st 0 0)) := wc_V0 (ia := 8) (n := 2) (cn := 1) rfl (by decide +kernel) (fun _ => rfl) rfl rfl
theorem w85_52 : ma_W d 85 Q 52 (some (.ref i) :: l) st H 0 0 = ma_W d 85 Q 53 (some (.ref i) :: l) (.ref i :: st) H 0 0 := wp_aload_n (x := some i) rfl rfl
theorem w85_53 : ma_W d 85 Q 53 l (.ref i :: st) H 0 0 = ma_gf (H.1 i) 7 0 (ma_kV d 85 Q 56 l st H 0 0) := wp_get rfl (by decide +kernel)
theorem w85_56 : ma_W d 85 Q 56 l (.ref i :: st) H 0 0 = ma_gf (H.1 i) 0 0 (ma_kV d 85 Q 59 l st H 0 0) := wp_get rfl (by decide +kernel)
theorem w85_59 : ma_W d 85 Q 59 (o0 :: some (.int x) :: l) st H 0 0 = ma_W d 85 Q 60 (o0 :: some (.int x) :: l) (.int x :: st) H 0 0 := wp_iload_n rfl rfl
theorem w85_60 : ma_W d 85 Q 60 (o0 :: o1 :: some (.int x) :: l) st H 0 0 = ma_W d 85 Q 61 (o0 :: o1 :: some (.int x) :: l) (.int x :: st) H 0 0 := wp_iload_n rfl rfl
theorem w85_61 : ma_W d 85 Q 61 l (.int x1 :: .int x0 :: .ref i :: st) H 0 0 = (ma_cat st ≤ 8 ∧ ma_cv (H.1 i) 4 d 46 [.ref i, .int x0, .int x1] H (ma_kC d 85 Q 64 l st 0 0)) := wc_V0 (ia := 46) (n := 3) (cn := 4) rfl (by decide +kernel) (fun _ => rfl) rfl rfl
theorem w85_64 : ma_W d 85 Q 64 l st H 0 0 = ma_W d 85 Q 66 l (.int 10 :: st) H 0 0 := wp_bipush rfl (by decide)
theorem w85_66 : ma_W d 85 Q 66 (some (.ref i) :: l) st H 0 0 = ma_W d 85 Q 67 (some (.ref i) :: l) (.ref i :: st) H 0 0 := wp_aload_n (x := some i) rfl rfl
theorem w85_67 : ma_W d 85 Q 67 l (.ref i :: st) H 0 0 = ma_gf (H.1 i) 7 0 (ma_kV d 85 Q 70 l st H 0 0) := wp_get rfl (by decide +kernel)
theorem w85_70 : ma_W d 85 Q 70 l (.ref i :: st) H 0 0 = ma_gf (H.1 i) 0 0 (ma_kV d 85 Q 73 l st H 0 0) := wp_get rfl (by decide +kernel)
theorem w85_73 : ma_W d 85 Q 73 l st H 0 0 = ma_W d 85 Q 74 l (.int 0 :: st) H 0 0 := wp_iconst rfl (by decide)
theorem w85_74 : ma_W d 85 Q 74 l (.int x0 :: .ref i :: st) H 0 0 = (ma_cat st ≤ 8 ∧ ma_cv (H.1 i) 4 d 37 [.ref i, .int x0] H (ma_kC d 85 Q 77 l st 0 0)) := wc_V0 (ia := 37) (n := 2) (cn := 4) rfl (by decide +kernel) (fun _ => rfl) rfl rfl
theorem w85_77 : ma_W d 85 Q 77 (o0 :: some (.int x) :: l) st H 0 0 = ma_W d 85 Q 78 (o0 :: some (.int x) :: l) (.int x :: st) H 0 0 := wp_iload_n rfl rfl
theorem w85_78 : ma_W d 85 Q 78 l (.int x1 :: .long u0 :: st) H 0 0 = (ma_cat st ≤ 8 ∧ ma_MW d 203 [.long u0, .int x1] H (ma_kC d 85 Q 81 l st 0 0)) := wc_S0 (ia := 203) (n := 2) (cn := 10) (k := 1) rfl (by decide +kernel) (by decide) (fun _ => rfl) rfl rfl
theorem w85_81 : ma_W d 85 Q 81 l (.int y :: .int x :: st) H 0 0 = ma_W d 85 Q 82 l (.int (x * y) :: st) H 0 0 := wp_imul rfl
theorem w85_82 : ma_W d 85 Q 82 (some (.ref i) :: l) st H 0 0 = ma_W d 85 Q 83 (some (.ref i) :: l) (.ref i :: st) H 0 0 := wp_aload_n (x := some i) rfl rfl
theorem w85_83 : ma_W d 85 Q 83 l (.ref i :: st) H 0 0 = ma_gf (H.1 i) 7 0 (ma_kV d 85 Q 86 l st H 0 0) := wp_get rfl (by decide +kernel)
theorem w85_86 : ma_W d 85 Q 86 l (.ref i :: st) H 0 0 = ma_gf (H.1 i) 0 0 (ma_kV d 85 Q 89 l st H 0 0) := wp_get rfl (by decide +kernel)
theorem w85_89 : ma_W d 85 Q 89 l st H 0 0 = ma_W d 85 Q 90 l (.int 1 :: st) H 0 0 := wp_iconst rfl (by decide)
theorem w85_90 : ma_W d 85 Q 90 l (.int x0 :: .ref i :: st) H 0 0 = (ma_cat st ≤ 8 ∧ ma_cv (H.1 i) 4 d 37 [.ref i, .int x0] H (ma_kC d 85 Q 93 l st 0 0)) := wc_V0 (ia := 37) (n := 2) (cn := 4) rfl (by decide +kernel) (fun _ => rfl) rfl rfl
theorem w85_93 : ma_W d 85 Q 93 (o0 :: o1 :: some (.int x) :: l) st H 0 0 = ma_W d 85 Q 94 (o0 :: o1 :: some (.int x) :: l) (.int x :: st) H 0 0 := wp_iload_n rfl rfl
theorem w85_94 : ma_W d 85 Q 94 l (.int x1 :: .long u0 :: st) H 0 0 = (ma_cat st ≤ 8 ∧ ma_MW d 203 [.long u0, .int x1] H (ma_kC d 85 Q 97 l st 0 0)) := wc_S0 (ia := 203) (n := 2) (cn := 10) (k := 1) rfl (by decide +kernel) (by decide) (fun _ => rfl) rfl rfl
theorem w85_97 : ma_W d 85 Q 97 l (.int y :: .int x :: st) H 0 0 = ma_W d 85 Q 98 l (.int (x + y) :: st) H 0 0 := wp_iadd rfl
theorem w85_98 : ma_W d 85 Q 98 l [.int x] H 0 0 = Q (some (.int x)) H := wp_iret rfl rfl
theorem e85 : ma_MW (d + 1) 85 [.ref i, .int x0, .int x1] H Q = ma_W d 85 Q 0 [some (.ref i), some (.int x0), some (.int x1)] [] H 0 0 := wp_enter (by decide) (Nat.le_of_ble_eq_true rfl) rfl
/-! 86 be_undo -/
theorem w86_0 : ma_W d 86 Q 0 (some (.ref i) :: l) st H 0 0 = ma_W d 86 Q 1 (some (.ref i) :: l) (.ref i :: st) H 0 0 := wp_aload_n (x := some i) rfl rfl
theorem w86_1 : ma_W d 86 Q 1 l (.ref i :: st) H 0 0 = ma_gf (H.1 i) 7 0 (ma_kV d 86 Q 4 l st H 0 0) := wp_get rfl (by decide +kernel)
theorem w86_4 : ma_W d 86 Q 4 l (.ref i :: st) H 0 0 = ma_gf (H.1 i) 0 1 (ma_kV d 86 Q 7 l st H 0 0) := wp_get rfl (by decide +kernel)
theorem w86_7 : ma_W d 86 Q 7 l (.ref i :: st) H 0 0 = (ma_cat st ≤ 8 ∧ ma_cv (H.1 i) 1 d 6 [.ref i] H (ma_kC d 86 Q 10 l st 0 0)) := wc_V0 (ia := 6) (n := 1) (cn := 1) rfl (by decide +kernel) (fun _ => rfl) rfl rfl
theorem w86_10 : ma_W d 86 Q 10 l (.int x :: st) H 0 0 = ma_if (x = 0) d 86 Q 13 18 l st H 0 0 := wp_c0 (id := 86) (pc := 10) (c := .ne) (off := 8) 18 rfl (by decide)
theorem w86_13 : ma_W d 86 Q 13 (some (.ref i) :: l) st H 0 0 = ma_W d 86 Q 14 (some (.ref i) :: l) (.ref i :: st) H 0 0 := wp_aload_n (x := some i) rfl rfl
theorem w86_14 : ma_W d 86 Q 14 l (.ref i :: st) H 0 0 = (ma_cat st ≤ 8 ∧ ma_cv (H.1 i) 7 d 114 [.ref i] H (ma_kC d 86 Q 17 l st 0 0)) := wc_V0 (ia := 114) (n := 1) (cn := 7) rfl (by decide +kernel) (fun _ => rfl) rfl rfl
theorem w86_17 : ma_W d 86 Q 17 l [.int x] H 0 0 = Q (some (.int x)) H := wp_iret rfl rfl
theorem w86_18 : ma_W d 86 Q 18 (some (.ref i) :: l) st H 0 0 = ma_W d 86 Q 19 (some (.ref i) :: l) (.ref i :: st) H 0 0 := wp_aload_n (x := some i) rfl rfl
theorem w86_19 : ma_W d 86 Q 19 l (.ref i :: st) H 0 0 = ma_gf (H.1 i) 7 0 (ma_kV d 86 Q 22 l st H 0 0) := wp_get rfl (by decide +kernel)
theorem w86_22 : ma_W d 86 Q 22 l (.ref i :: st) H 0 0 = ma_gf (H.1 i) 0 1 (ma_kV d 86 Q 25 l st H 0 0) := wp_get rfl (by decide +kernel)
theorem w86_25 : ma_W d 86 Q 25 (some (.ref i) :: l) st H 0 0 = ma_W d 86 Q 26 (some (.ref i) :: l) (.ref i :: st) H 0 0 := wp_aload_n (x := some i) rfl rfl
theorem w86_26 : ma_W d 86 Q 26 l (.ref i :: st) H 0 0 = ma_gf (H.1 i) 7 0 (ma_kV d 86 Q 29 l st H 0 0) := wp_get rfl (by decide +kernel)
theorem w86_29 : ma_W d 86 Q 29 l (.ref i :: st) H 0 0 = ma_gf (H.1 i) 0 0 (ma_kV d 86 Q 32 l st H 0 0) := wp_get rfl (by decide +kernel)
theorem w86_32 : ma_W d 86 Q 32 l (.ref i0 :: .ref i :: st) H 0 0 = (ma_cat st ≤ 8 ∧ ma_cv (H.1 i) 1 d 9 [.ref i, .ref i0] H (ma_kC d 86 Q 35 l st 0 0)) := wc_V0 (ia := 9) (n := 2) (cn := 1) rfl (by decide +kernel) (fun _ => rfl) rfl rfl
theorem w86_35 : ma_W d 86 Q 35 (some (.ref i) :: l) st H 0 0 = ma_W d 86 Q 36 (some (.ref i) :: l) (.ref i :: st) H 0 0 := wp_aload_n (x := some i) rfl rfl
theorem w86_36 : ma_W d 86 Q 36 l (.ref i :: st) H 0 0 = ma_gf (H.1 i) 7 0 (ma_kV d 86 Q 39 l st H 0 0) := wp_get rfl (by decide +kernel)
theorem w86_39 : ma_W d 86 Q 39 l (.ref i :: st) H 0 0 = ma_gf (H.1 i) 0 0 (ma_kV d 86 Q 42 l st H 0 0) := wp_get rfl (by decide +kernel)
theorem w86_42 : ma_W d 86 Q 42 l (.ref i :: st) H 0 0 = ma_gf (H.1 i) 4 2 (ma_kV d 86 Q 45 l st H 0 0) := wp_get rfl (by decide +kernel)
theorem w86_45 : ma_W d 86 Q 45 l [.int x] H 0 0 = Q (some (.int x)) H := wp_iret rfl rfl
theorem e86 : ma_MW (d + 1) 86 [.ref i] H Q = ma_W d 86 Q 0 [some (.ref i)] [] H 0 0 := wp_enter (by decide) (Nat.le_of_ble_eq_true rfl) rfl
/-! 87 be_card -/
theorem w87_0 : ma_W d 87 Q 0 (o0 :: some (.int x) :: l) st H 0 0 = ma_W d 87 Q 1 (o0 :: some (.int x) :: l) (.int x :: st) H 0 0 := wp_iload_n rfl rfl
theorem w87_1 : ma_W d 87 Q 1 l st H 0 0 = ma_W d 87 Q 2 l (.int 0 :: st) H 0 0 := wp_iconst rfl (by decide)
theorem w87_2 : ma_W d 87 Q 2 l st H 0 0 = ma_W d 87 Q 3 l (.int 2 :: st) H 0 0 := wp_iconst rfl (by decide)
theorem w87_3 : ma_W d 87 Q 3 l (.int x2 :: .int x1 :: .int x0 :: st) H 0 0 = (ma_cat st ≤ 8 ∧ ma_MW d 116 [.int x0, .int x1, .int x2] H (ma_kC d 87 Q 6 l st 0 0)) := wc_S0 (ia := 116) (n := 3) (cn := 7) (k := 1) rfl (by decide +kernel) (by decide) (fun _ => rfl) rfl rfl
theorem w87_6 : ma_W d 87 Q 6 l (.int x :: st) H 0 0 = ma_if (x = 0) d 87 Q 24 9 l st H 0 0 := wp_c0 (id := 87) (pc := 6) (c := .eq) (off := 18) 24 rfl (by decide)
theorem w87_9 : ma_W d 87 Q 9 (some (.ref i) :: l) st H 0 0 = ma_W d 87 Q 10 (some (.ref i) :: l) (.ref i :: st) H 0 0 := wp_aload_n (x := some i) rfl rfl
theorem w87_10 : ma_W d 87 Q 10 l (.ref i :: st) H 0 0 = ma_gf (H.1 i) 7 0 (ma_kV d 87 Q 13 l st H 0 0) := wp_get rfl (by decide +kernel)
theorem w87_13 : ma_W d 87 Q 13 l (.ref i :: st) H 0 0 = ma_gf (H.1 i) 0 0 (ma_kV d 87 Q 16 l st H 0 0) := wp_get rfl (by decide +kernel)
theorem w87_16 : ma_W d 87 Q 16 (o0 :: some (.int x) :: l) st H 0 0 = ma_W d 87 Q 17 (o0 :: some (.int x) :: l) (.int x :: st) H 0 0 := wp_iload_n rfl rfl
theorem w87_17 : ma_W d 87 Q 17 (o0 :: o1 :: some (.int x) :: l) st H 0 0 = ma_W d 87 Q 18 (o0 :: o1 :: some (.int x) :: l) (.int x :: st) H 0 0 := wp_iload_n rfl rfl
theorem w87_18 : ma_W d 87 Q 18 l (.int x1 :: .int x0 :: .ref i :: st) H 0 0 = (ma_cat st ≤ 8 ∧ ma_cv (H.1 i) 4 d 43 [.ref i, .int x0, .int x1] H (ma_kC d 87 Q 21 l st 0 0)) := wc_V0 (ia := 43) (n := 3) (cn := 4) rfl (by decide +kernel) (fun _ => rfl) rfl rfl
theorem w87_21 : ma_W d 87 Q 21 l (.int x :: st) H 0 0 = ma_if (x = 0) d 87 Q 24 29 l st H 0 0 := wp_c0 (id := 87) (pc := 21) (c := .ne) (off := 8) 29 rfl (by decide)
theorem w87_24 : ma_W d 87 Q 24 (some (.ref i) :: l) st H 0 0 = ma_W d 87 Q 25 (some (.ref i) :: l) (.ref i :: st) H 0 0 := wp_aload_n (x := some i) rfl rfl
theorem w87_25 : ma_W d 87 Q 25 l (.ref i :: st) H 0 0 = (ma_cat st ≤ 8 ∧ ma_cv (H.1 i) 7 d 113 [.ref i] H (ma_kC d 87 Q 28 l st 0 0)) := wc_V0 (ia := 113) (n := 1) (cn := 7) rfl (by decide +kernel) (fun _ => rfl) rfl rfl
theorem w87_28 : ma_W d 87 Q 28 l [.int x] H 0 0 = Q (some (.int x)) H := wp_iret rfl rfl
theorem w87_29 : ma_W d 87 Q 29 (some (.ref i) :: l) st H 0 0 = ma_W d 87 Q 30 (some (.ref i) :: l) (.ref i :: st) H 0 0 := wp_aload_n (x := some i) rfl rfl
theorem w87_30 : ma_W d 87 Q 30 l (.ref i :: st) H 0 0 = ma_gf (H.1 i) 7 0 (ma_kV d 87 Q 33 l st H 0 0) := wp_get rfl (by decide +kernel)
theorem w87_33 : ma_W d 87 Q 33 l (.ref i :: st) H 0 0 = ma_gf (H.1 i) 0 0 (ma_kV d 87 Q 36 l st H 0 0) := wp_get rfl (by decide +kernel)
theorem w87_36 : ma_W d 87 Q 36 (o0 :: some (.int x) :: l) st H 0 0 = ma_W d 87 Q 37 (o0 :: some (.int x) :: l) (.int x :: st) H 0 0 := wp_iload_n rfl rfl
theorem w87_37 : ma_W d 87 Q 37 l (.int x0 :: .ref i :: st) H 0 0 = (ma_cat st ≤ 8 ∧ ma_cv (H.1 i) 4 d 37 [.ref i, .int x0] H (ma_kC d 87 Q 40 l st 0 0)) := wc_V0 (ia := 37) (n := 2) (cn := 4) rfl (by decide +kernel) (fun _ => rfl) rfl rfl
theorem w87_40 : ma_W d 87 Q 40 (o0 :: o1 :: some (.int x) :: l) st H 0 0 = ma_W d 87 Q 41 (o0 :: o1 :: some (.int x) :: l) (.int x :: st) H 0 0 := wp_iload_n rfl rfl
theorem w87_41 : ma_W d 87 Q 41 l (.int x1 :: .long u0 :: st) H 0 0 = (ma_cat st ≤ 8 ∧ ma_MW d 203 [.long u0, .int x1] H (ma_kC d 87 Q 44 l st 0 0)) := wc_S0 (ia := 203) (n := 2) (cn := 10) (k := 1) rfl (by decide +kernel) (by decide) (fun _ => rfl) rfl rfl
theorem w87_44 : ma_W d 87 Q 44 l [.int x] H 0 0 = Q (some (.int x)) H := wp_iret rfl rfl
theorem e87 : ma_MW (d + 1) 87 [.ref i, .int x0, .int x1] H Q = ma_W d 87 Q 0 [some (.ref i), some (.int x0), some (.int x1)] [] H 0 0 := wp_enter (by decide) (Nat.le_of_ble_eq_true rfl) rfl
/-! 88 be_behind -/
theorem w88_0 : ma_W d 88 Q 0 (o0 :: some (.int x) :: l) st H 0 0 = ma_W d 88 Q 1 (o0 :: some (.int x) :: l) (.int x :: st) H 0 0 := wp_iload_n rfl rfl
theorem w88_1 : ma_W d 88 Q 1 l st H 0 0 = ma_W d 88 Q 2 l (.int 0 :: st) H 0 0 := wp_iconst rfl (by decide)
theorem w88_2 : ma_W d 88 Q 2 l st H 0 0 = ma_W d 88 Q 4 l (.int 60 :: st) H 0 0 := wp_bipush rfl (by decide)
theorem w88_4 : ma_W d 88 Q 4 l (.int x2 :: .int x1 :: .int x0 :: st) H 0 0 = (ma_cat st ≤ 8 ∧ ma_MW d 116 [.int x0, .int x1, .int x2] H (ma_kC d 88 Q 7 l st 0 0)) := wc_S0 (ia := 116) (n := 3) (cn := 7) (k := 1) rfl (by decide +kernel) (by decide) (fun _ => rfl) rfl rfl
theorem w88_7 : ma_W d 88 Q 7 l (.int x :: st) H 0 0 = ma_if (x = 0) d 88 Q 19 10 l st H 0 0 := wp_c0 (id := 88) (pc := 7) (c := .eq) (off := 12) 19 rfl (by decide)
theorem w88_10 : ma_W d 88 Q 10 (o0 :: o1 :: some (.int x) :: l) st H 0 0 = ma_W d 88 Q 11 (o0 :: o1 :: some (.int x) :: l) (.int x :: st) H 0 0 := wp_iload_n rfl rfl
theorem w88_11 : ma_W d 88 Q 11 l st H 0 0 = ma_W d 88 Q 12 l (.int 0 :: st) H 0 0 := wp_iconst rfl (by decide)
theorem w88_12 : ma_W d 88 Q 12 l st H 0 0 = ma_W d 88 Q 13 l (.int 4 :: st) H 0 0 := wp_iconst rfl (by decide)
theorem w88_13 : ma_W d 88 Q 13 l (.int x2 :: .int x1 :: .int x0 :: st) H 0 0 = (ma_cat st ≤ 8 ∧ ma_MW d 116 [.int x0, .int x1, .int x2] H (ma_kC d 88 Q 16 l st 0 0)) := wc_S0 (ia := 116) (n := 3) (cn := 7) (k := 1) rfl (by decide +kernel) (by decide) (fun _ => rfl) rfl rfl
theorem w88_16 : ma_W d 88 Q 16 l (.int x :: st) H 0 0 = ma_if (x = 0) d 88 Q 19 24 l st H 0 0 := wp_c0 (id := 88) (pc := 16) (c := .ne) (off := 8) 24 rfl (by decide)
theorem w88_19 : ma_W d 88 Q 19 (some (.ref i) :: l) st H 0 0 = ma_W d 88 Q 20 (some (.ref i) :: l) (.ref i :: st) H 0 0 := wp_aload_n (x := some i) rfl rfl
theorem w88_20 : ma_W d 88 Q 20 l (.ref i :: st) H 0 0 = (ma_cat st ≤ 8 ∧ ma_cv (H.1 i) 7 d 113 [.ref i] H (ma_kC d 88 Q 23 l st 0 0)) := wc_V0 (ia := 113) (n := 1) (cn := 7) rfl (by decide +kernel) (fun _ => rfl) rfl rfl
theorem w88_23 : ma_W d 88 Q 23 l [.int x] H 0 0 = Q (some (.int x)) H := wp_iret rfl rfl
theorem w88_24 : ma_W d 88 Q 24 (some (.ref i) :: l) st H 0 0 = ma_W d 88 Q 25 (some (.ref i) :: l) (.ref i :: st) H 0 0 := wp_aload_n (x := some i) rfl rfl
theorem w88_25 : ma_W d 88 Q 25 l (.ref i :: st) H 0 0 = ma_gf (H.1 i) 7 3 (ma_kV d 88 Q 28 l st H 0 0) := wp_get rfl (by decide +kernel)
theorem w88_28 : ma_W d 88 Q 28 (some (.ref i) :: l) st H 0 0 = ma_W d 88 Q 29 (some (.ref i) :: l) (.ref i :: st) H 0 0 := wp_aload_n (x := some i) rfl rfl
theorem w88_29 : ma_W d 88 Q 29 l (.ref i :: st) H 0 0 = ma_gf (H.1 i) 7 0 (ma_kV d 88 Q 32 l st H 0 0) := wp_get rfl (by decide +kernel)
theorem w88_32 : ma_W d 88 Q 32 l (.ref i :: st) H 0 0 = ma_gf (H.1 i) 0 0 (ma_kV d 88 Q 35 l st H 0 0) := wp_get rfl (by decide +kernel)
theorem w88_35 : ma_W d 88 Q 35 (o0 :: some (.int x) :: l) st H 0 0 = ma_W d 88 Q 36 (o0 :: some (.int x) :: l) (.int x :: st) H 0 0 := wp_iload_n rfl rfl
theorem w88_36 : ma_W d 88 Q 36 (o0 :: o1 :: some (.int x) :: l) st H 0 0 = ma_W d 88 Q 37 (o0 :: o1 :: some (.int x) :: l) (.int x :: st) H 0 0 := wp_iload_n rfl rfl
theorem w88_37 : ma_W d 88 Q 37 l (.int x2 :: .int x1 :: .ref i0 :: .ref i :: st) H 0 0 = (ma_cat st ≤ 8 ∧ ma_cv (H.1 i) 6 d 61 [.ref i, .ref i0, .int x1, .int x2] H (ma_kC d 88 Q 40 l st 0 0)) := wc_V0 (ia := 61) (n := 4) (cn := 6) rfl (by decide +kernel) (fun _ => rfl) rfl rfl
theorem w88_40 : ma_W d 88 Q 40 l [.int x] H 0 0 = Q (some (.int x)) H := wp_iret rfl rfl
theorem e88 : ma_MW (d + 1) 88 [.ref i, .int x0, .int x1] H Q = ma_W d 88 Q 0 [some (.ref i), some (.int x0), some (.int x1)] [] H 0 0 := wp_enter (by decide) (Nat.le_of_ble_eq_true rfl) rfl
/-! 89 be_won -/
theorem w89_0 : ma_W d 89 Q 0 (some (.ref i) :: l) st H 0 0 = ma_W d 89 Q 1 (some (.ref i) :: l) (.ref i :: st) H 0 0 := wp_aload_n (x := some i) rfl rfl
theorem w89_1 : ma_W d 89 Q 1 l (.ref i :: st) H 0 0 = ma_gf (H.1 i) 7 3 (ma_kV d 89 Q 4 l st H 0 0) := wp_get rfl (by decide +kernel)
theorem w89_4 : ma_W d 89 Q 4 (some (.ref i) :: l) st H 0 0 = ma_W d 89 Q 5 (some (.ref i) :: l) (.ref i :: st) H 0 0 := wp_aload_n (x := some i) rfl rfl
theorem w89_5 : ma_W d 89 Q 5 l (.ref i :: st) H 0 0 = ma_gf (H.1 i) 7 0 (ma_kV d 89 Q 8 l st H 0 0) := wp_get rfl (by decide +kernel)
theorem w89_8 : ma_W d 89 Q 8 l (.ref i :: st) H 0 0 = ma_gf (H.1 i) 0 0 (ma_kV d 89 Q 11 l st H 0 0) := wp_get rfl (by decide +kernel)
theorem w89_11 : ma_W d 89 Q 11 l (.ref i0 :: .ref i :: st) H 0 0 = (ma_cat st ≤ 8 ∧ ma_cv (H.1 i) 6 d 62 [.ref i, .ref i0] H (ma_kC d 89 Q 14 l st 0 0)) := wc_V0 (ia := 62) (n := 2) (cn := 6) rfl (by decide +kernel) (fun _ => rfl) rfl rfl
theorem w89_14 : ma_W d 89 Q 14 l [.int x] H 0 0 = Q (some (.int x)) H := wp_iret rfl rfl
theorem e89 : ma_MW (d + 1) 89 [.ref i] H Q = ma_W d 89 Q 0 [some (.ref i)] [] H 0 0 := wp_enter (by decide) (Nat.le_of_ble_eq_true rfl) rfl
/-! 90 be_lasts -/
theorem w90_0 : ma_W d 90 Q 0 (some (.ref i) :: l) st H 0 0 = ma_W d 90 Q 1 (some (.ref i) :: l) (.ref i :: st) H 0 0 := wp_aload_n (x := some i) rfl rfl
theorem w90_1 : ma_W d 90 Q 1 l (.ref i :: st) H 0 0 = ma_gf (H.1 i) 7 3 (ma_kV d 90 Q 4 l st H 0 0) := wp_get rfl (by decide +kernel)
theorem w90_4 : ma_W d 90 Q 4 (some (.ref i) :: l) st H 0 0 = ma_W d 90 Q 5 (some (.ref i) :: l) (.ref i :: st) H 0 0 := wp_aload_n (x := some i) rfl rfl
theorem w90_5 : ma_W d 90 Q 5 l (.ref i :: st) H 0 0 = ma_gf (H.1 i) 7 0 (ma_kV d 90 Q 8 l st H 0 0) := wp_get rfl (by decide +kernel)
theorem w90_8 : ma_W d 90 Q 8 l (.ref i :: st) H 0 0 = ma_gf (H.1 i) 0 0 (ma_kV d 90 Q 11 l st H 0 0) := wp_get rfl (by decide +kernel)
theorem w90_11 : ma_W d 90 Q 11 l (.ref i0 :: .ref i :: st) H 0 0 = (ma_cat st ≤ 8 ∧ ma_cv (H.1 i) 6 d 63 [.ref i, .ref i0] H (ma_kC d 90 Q 14 l st 0 0)) := wc_V0 (ia := 63) (n := 2) (cn := 6) rfl (by decide +kernel) (fun _ => rfl) rfl rfl
theorem w90_14 : ma_W d 90 Q 14 l [.int x] H 0 0 = Q (some (.int x)) H := wp_iret rfl rfl
theorem e90 : ma_MW (d + 1) 90 [.ref i] H Q = ma_W d 90 Q 0 [some (.ref i)] [] H 0 0 := wp_enter (by decide) (Nat.le_of_ble_eq_true rfl) rfl
/-! 91 be_first -/
theorem w91_0 : ma_W d 91 Q 0 (o0 :: some (.int x) :: l) st H 0 0 = ma_W d 91 Q 1 (o0 :: some (.int x) :: l) (.int x :: st) H 0 0 := wp_iload_n rfl rfl
theorem w91_1 : ma_W d 91 Q 1 l st H 0 0 = ma_W d 91 Q 2 l (.int 0 :: st) H 0 0 := wp_iconst rfl (by decide)
theorem w91_2 : ma_W d 91 Q 2 l st H 0 0 = ma_W d 91 Q 3 l (.int 1 :: st) H 0 0 := wp_iconst rfl (by decide)
theorem w91_3 : ma_W d 91 Q 3 l (.int x2 :: .int x1 :: .int x0 :: st) H 0 0 = (ma_cat st ≤ 8 ∧ ma_MW d 116 [.int x0, .int x1, .int x2] H (ma_kC d 91 Q 6 l st 0 0)) := wc_S0 (ia := 116) (n := 3) (cn := 7) (k := 1) rfl (by decide +kernel) (by decide) (fun _ => rfl) rfl rfl
theorem w91_6 : ma_W d 91 Q 6 l (.int x :: st) H 0 0 = ma_if (x = 0) d 91 Q 9 14 l st H 0 0 := wp_c0 (id := 91) (pc := 6) (c := .ne) (off := 8) 14 rfl (by decide)
theorem w91_9 : ma_W d 91 Q 9 (some (.ref i) :: l) st H 0 0 = ma_W d 91 Q 10 (some (.ref i) :: l) (.ref i :: st) H 0 0 := wp_aload_n (x := some i) rfl rfl
theorem w91_10 : ma_W d 91 Q 10 l (.ref i :: st) H 0 0 = (ma_cat st ≤ 8 ∧ ma_cv (H.1 i) 7 d 113 [.ref i] H (ma_kC d 91 Q 13 l st 0 0)) := wc_V0 (ia := 113) (n := 1) (cn := 7) rfl (by decide +kernel) (fun _ => rfl) rfl rfl
theorem w91_13 : ma_W d 91 Q 13 l [.int x] H 0 0 = Q (some (.int x)) H := wp_iret rfl rfl
theorem w91_14 : ma_W d 91 Q 14 (some (.ref i) :: l) st H 0 0 = ma_W d 91 Q 15 (some (.ref i) :: l) (.ref i :: st) H 0 0 := wp_aload_n (x := some i) rfl rfl
theorem w91_15 : ma_W d 91 Q 15 l (.ref i :: st) H 0 0 = ma_gf (H.1 i) 7 3 (ma_kV d 91 Q 18 l st H 0 0) := wp_get rfl (by decide +kernel)
theorem w91_18 : ma_W d 91 Q 18 (some (.ref i) :: l) st H 0 0 = ma_W d 91 Q 19 (some (.ref i) :: l) (.ref i :: st) H 0 0 := wp_aload_n (x := some i) rfl rfl
theorem w91_19 : ma_W d 91 Q 19 l (.ref i :: st) H 0 0 = ma_gf (H.1 i) 7 0 (ma_kV d 91 Q 22 l st H 0 0) := wp_get rfl (by decide +kernel)
theorem w91_22 : ma_W d 91 Q 22 l (.ref i :: st) H 0 0 = ma_gf (H.1 i) 0 0 (ma_kV d 91 Q 25 l st H 0 0) := wp_get rfl (by decide +kernel)
theorem w91_25 : ma_W d 91 Q 25 (o0 :: some (.int x) :: l) st H 0 0 = ma_W d 91 Q 26 (o0 :: some (.int x) :: l) (.int x :: st) H 0 0 := wp_iload_n rfl rfl
theorem w91_26 : ma_W d 91 Q 26 l st H 0 0 = ma_W d 91 Q 27 l (.int 1 :: st) H 0 0 := wp_iconst rfl (by decide)
theorem w91_27 : ma_W d 91 Q 27 l (.int y :: .int x :: st) H 0 0 = ma_if (x = y) d 91 Q 30 34 l st H 0 0 := wp_ic (id := 91) (pc := 27) (c := .ne) (off := 7) 34 rfl (by decide)
theorem w91_30 : ma_W d 91 Q 30 l st H 0 0 = ma_W d 91 Q 31 l (.int 1 :: st) H 0 0 := wp_iconst rfl (by decide)
theorem w91_31 : ma_W d 91 Q 31 l st H 0 0 = ma_W d 91 Q 35 l st H 0 0 := wp_goto 35 rfl (by decide)
theorem w91_34 : ma_W d 91 Q 34 l st H 0 0 = ma_W d 91 Q 35 l (.int 0 :: st) H 0 0 := wp_iconst rfl (by decide)
theorem w91_35 : ma_W d 91 Q 35 l (.int x1 :: .ref i0 :: .ref i :: st) H 0 0 = (ma_cat st ≤ 8 ∧ ma_cv (H.1 i) 6 d 64 [.ref i, .ref i0, .int x1] H (ma_kC d 91 Q 38 l st 0 0)) := wc_V0 (ia := 64) (n := 3) (cn := 6) rfl (by decide +kernel) (fun _ => rfl) rfl rfl
theorem w91_38 : ma_W d 91 Q 38 l [.int x] H 0 0 = Q (some (.int x)) H := wp_iret rfl rfl
theorem e91 : ma_MW (d + 1) 91 [.ref i, .int x0] H Q = ma_W d 91 Q 0 [some (.ref i), some (.int x0)] [] H 0 0 := wp_enter (by decide) (Nat.le_of_ble_eq_true rfl) rfl
/-! 92 be_again -/
theorem w92_0 : ma_W d 92 Q 0 (some (.ref i) :: l) st H 0 0 = ma_W d 92 Q 1 (some (.ref i) :: l) (.ref i :: st) H 0 0 := wp_aload_n (x := some i) rfl rfl
theorem w92_1 : ma_W d 92 Q 1 l (.ref i :: st) H 0 0 = ma_gf (H.1 i) 7 3 (ma_kV d 92 Q 4 l st H 0 0) := wp_get rfl (by decide +kernel)
theorem w92_4 : ma_W d 92 Q 4 (some (.ref i) :: l) st H 0 0 = ma_W d 92 Q 5 (some (.ref i) :: l) (.ref i :: st) H 0 0 := wp_aload_n (x := some i) rfl rfl
theorem w92_5 : ma_W d 92 Q 5 l (.ref i :: st) H 0 0 = ma_gf (H.1 i) 7 0 (ma_kV d 92 Q 8 l st H 0 0) := wp_get rfl (by decide +kernel)
theorem w92_8 : ma_W d 92 Q 8 l (.ref i :: st) H 0 0 = ma_gf (H.1 i) 0 0 (ma_kV d 92 Q 11 l st H 0 0) := wp_get rfl (by decide +kernel)
theorem w92_11 : ma_W d 92 Q 11 l (.ref i0 :: .ref i :: st) H 0 0 = (ma_cat st ≤ 8 ∧ ma_cv (H.1 i) 6 d 65 [.ref i, .ref i0] H (ma_kC d 92 Q 14 l st 0 0)) := wc_V0 (ia := 65) (n := 2) (cn := 6) rfl (by decide +kernel) (fun _ => rfl) rfl rfl
theorem w92_14 : ma_W d 92 Q 14 l [.int x] H 0 0 = Q (some (.int x)) H := wp_iret rfl rfl
theorem e92 : ma_MW (d + 1) 92 [.ref i] H Q = ma_W d 92 Q 0 [some (.ref i)] [] H 0 0 := wp_enter (by decide) (Nat.le_of_ble_eq_true rfl) rfl
/-! 93 be_exchange -/
theorem w93_0 : ma_W d 93 Q 0 (o0 :: some (.int x) :: l) st H 0 0 = ma_W d 93 Q 1 (o0 :: some (.int x) :: l) (.int x :: st) H 0 0 := wp_iload_n rfl rfl
theorem w93_1 : ma_W d 93 Q 1 l (.int x0 :: st) H 0 0 = (ma_cat st ≤ 8 ∧ ma_MW d 117 [.int x0] H (ma_kC d 93 Q 4 l st 0 0)) := wc_S0 (ia := 117) (n := 1) (cn := 7) (k := 1) rfl (by decide +kernel) (by decide) (fun _ => rfl) rfl rfl
theorem w93_4 : ma_W d 93 Q 4 l (.int x :: st) H 0 0 = ma_if (x = 0) d 93 Q 16 7 l st H 0 0 := wp_c0 (id := 93) (pc := 4) (c := .eq) (off := 12) 16 rfl (by decide)
theorem w93_7 : ma_W d 93 Q 7 (o0 :: o1 :: some (.int x) :: l) st H 0 0 = ma_W d 93 Q 8 (o0 :: o1 :: some (.int x) :: l) (.int x :: st) H 0 0 := wp_iload_n rfl rfl
theorem w93_8 : ma_W d 93 Q 8 l st H 0 0 = ma_W d 93 Q 9 l (.int 0 :: st) H 0 0 := wp_iconst rfl (by decide)
theorem w93_9 : ma_W d 93 Q 9 l st H 0 0 = ma_W d 93 Q 10 l (.int 1 :: st) H 0 0 := wp_iconst rfl (by decide)
theorem w93_10 : ma_W d 93 Q 10 l (.int x2 :: .int x1 :: .int x0 :: st) H 0 0 = (ma_cat st ≤ 8 ∧ ma_MW d 116 [.int x0, .int x1, .int x2] H (ma_kC d 93 Q 13 l st 0 0)) := wc_S0 (ia := 116) (n := 3) (cn := 7) (k := 1) rfl (by decide +kernel) (by decide) (fun _ => rfl) rfl rfl
theorem w93_13 : ma_W d 93 Q 13 l (.int x :: st) H 0 0 = ma_if (x = 0) d 93 Q 16 21 l st H 0 0 := wp_c0 (id := 93) (pc := 13) (c := .ne) (off := 8) 21 rfl (by decide)
theorem w93_16 : ma_W d 93 Q 16 (some (.ref i) :: l) st H 0 0 = ma_W d 93 Q 17 (some (.ref i) :: l) (.ref i :: st) H 0 0 := wp_aload_n (x := some i) rfl rfl
theorem w93_17 : ma_W d 93 Q 17 l (.ref i :: st) H 0 0 = (ma_cat st ≤ 8 ∧ ma_cv (H.1 i) 7 d 113 [.ref i] H (ma_kC d 93 Q 20 l st 0 0)) := wc_V0 (ia := 113) (n := 1) (cn := 7) rfl (by decide +kernel) (fun _ => rfl) rfl rfl
theorem w93_20 : ma_W d 93 Q 20 l [.int x] H 0 0 = Q (some (.int x)) H := wp_iret rfl rfl
theorem w93_21 : ma_W d 93 Q 21 (some (.ref i) :: l) st H 0 0 = ma_W d 93 Q 22 (some (.ref i) :: l) (.ref i :: st) H 0 0 := wp_aload_n (x := some i) rfl rfl
theorem w93_22 : ma_W d 93 Q 22 l (.ref i :: st) H 0 0 = ma_gf (H.1 i) 7 3 (ma_kV d 93 Q 25 l st H 0 0) := wp_get rfl (by decide +kernel)
theorem w93_25 : ma_W d 93 Q 25 (some (.ref i) :: l) st H 0 0 = ma_W d 93 Q 26 (some (.ref i) :: l) (.ref i :: st) H 0 0 := wp_aload_n (x := some i) rfl rfl
theorem w93_26 : ma_W d 93 Q 26 l (.ref i :: st) H 0 0 = ma_gf (H.1 i) 7 0 (ma_kV d 93 Q 29 l st H 0 0) := wp_get rfl (by decide +kernel)
theorem w93_29 : ma_W d 93 Q 29 l (.ref i :: st) H 0 0 = ma_gf (H.1 i) 0 0 (ma_kV d 93 Q 32 l st H 0 0) := wp_get rfl (by decide +kernel)
theorem w93_32 : ma_W d 93 Q 32 (o0 :: some (.int x) :: l) st H 0 0 = ma_W d 93 Q 33 (o0 :: some (.int x) :: l) (.int x :: st) H 0 0 := wp_iload_n rfl rfl
theorem w93_33 : ma_W d 93 Q 33 l (.int x1 :: .ref i0 :: .ref i :: st) H 0 0 = (ma_cat st ≤ 8 ∧ ma_cv (H.1 i) 6 d 66 [.ref i, .ref i0, .int x1] H (ma_kC d 93 Q 36 l st 0 0)) := wc_V0 (ia := 66) (n := 3) (cn := 6) rfl (by decide +kernel) (fun _ => rfl) rfl rfl
theorem w93_36 : ma_W d 93 Q 36 (o0 :: o1 :: some (.int x) :: l) st H 0 0 = ma_W d 93 Q 37 (o0 :: o1 :: some (.int x) :: l) (.int x :: st) H 0 0 := wp_iload_n rfl rfl
theorem w93_37 : ma_W d 93 Q 37 l (.int x :: st) H 0 0 = ma_if (x = 0) d 93 Q 40 50 l st H 0 0 := wp_c0 (id := 93) (pc := 37) (c := .ne) (off := 13) 50 rfl (by decide)
theorem w93_40 : ma_W d 93 Q 40 (some (.ref i) :: l) st H 0 0 = ma_W d 93 Q 41 (some (.ref i) :: l) (.ref i :: st) H 0 0 := wp_aload_n (x := some i) rfl rfl
theorem w93_41 : ma_W d 93 Q 41 l (.ref i :: st) H 0 0 = ma_gf (H.1 i) 7 3 (ma_kV d 93 Q 44 l st H 0 0) := wp_get rfl (by decide +kernel)
theorem w93_44 : ma_W d 93 Q 44 l (.ref i :: st) H 0 0 = ma_gf (H.1 i) 6 0 (ma_kV d 93 Q 47 l st H 0 0) := wp_get rfl (by decide +kernel)
theorem w93_47 : ma_W d 93 Q 47 l st H 0 0 = ma_W d 93 Q 57 l st H 0 0 := wp_goto 57 rfl (by decide)
theorem w93_50 : ma_W d 93 Q 50 (some (.ref i) :: l) st H 0 0 = ma_W d 93 Q 51 (some (.ref i) :: l) (.ref i :: st) H 0 0 := wp_aload_n (x := some i) rfl rfl
theorem w93_51 : ma_W d 93 Q 51 l (.ref i :: st) H 0 0 = ma_gf (H.1 i) 7 3 (ma_kV d 93 Q 54 l st H 0 0) := wp_get rfl (by decide +kernel)
theorem w93_54 : ma_W d 93 Q 54 l (.ref i :: st) H 0 0 = ma_gf (H.1 i) 6 1 (ma_kV d 93 Q 57 l st H 0 0) := wp_get rfl (by decide +kernel)
theorem w93_57 : ma_W d 93 Q 57 l [.int x] H 0 0 = Q (some (.int x)) H := wp_iret rfl rfl
theorem e93 : ma_MW (d + 1) 93 [.ref i, .int x0, .int x1] H Q = ma_W d 93 Q 0 [some (.ref i), some (.int x0), some (.int x1)] [] H 0 0 := wp_enter (by decide) (Nat.le_of_ble_eq_true rfl) rfl
/-! 94 be_cut -/
theorem w94_0 : ma_W d 94 Q 0 (o0 :: some (.int x) :: l) st H 0 0 = ma_W d 94 Q 1 (o0 :: some (.int x) :: l) (.int x :: st) H 0 0 := wp_iload_n rfl rfl
theorem w94_1 : ma_W d 94 Q 1 l (.int x0 :: st) H 0 0 = (ma_cat st ≤ 8 ∧ ma_MW d 117 [.int x0] H (ma_kC d 94 Q 4 l st 0 0)) := wc_S0 (ia := 117) (n := 1) (cn := 7) (k := 1) rfl (by decide +kernel) (by decide) (fun _ => rfl) rfl rfl
theorem w94_4 : ma_W d 94 Q 4 l (.int x :: st) H 0 0 = ma_if (x = 0) d 94 Q 16 7 l st H 0 0 := wp_c0 (id := 94) (pc := 4) (c := .eq) (off := 12) 16 rfl (by decide)
theorem w94_7 : ma_W d 94 Q 7 (o0 :: o1 :: some (.int x) :: l) st H 0 0 = ma_W d 94 Q 8 (o0 :: o1 :: some (.int x) :: l) (.int x :: st) H 0 0 := wp_iload_n rfl rfl
theorem w94_8 : ma_W d 94 Q 8 l st H 0 0 = ma_W d 94 Q 9 l (.int 0 :: st) H 0 0 := wp_iconst rfl (by decide)
theorem w94_9 : ma_W d 94 Q 9 l st H 0 0 = ma_W d 94 Q 10 l (.int 1 :: st) H 0 0 := wp_iconst rfl (by decide)
theorem w94_10 : ma_W d 94 Q 10 l (.int x2 :: .int x1 :: .int x0 :: st) H 0 0 = (ma_cat st ≤ 8 ∧ ma_MW d 116 [.int x0, .int x1, .int x2] H (ma_kC d 94 Q 13 l st 0 0)) := wc_S0 (ia := 116) (n := 3) (cn := 7) (k := 1) rfl (by decide +kernel) (by decide) (fun _ => rfl) rfl rfl
theorem w94_13 : ma_W d 94 Q 13 l (.int x :: st) H 0 0 = ma_if (x = 0) d 94 Q 16 21 l st H 0 0 := wp_c0 (id := 94) (pc := 13) (c := .ne) (off := 8) 21 rfl (by decide)
theorem w94_16 : ma_W d 94 Q 16 (some (.ref i) :: l) st H 0 0 = ma_W d 94 Q 17 (some (.ref i) :: l) (.ref i :: st) H 0 0 := wp_aload_n (x := some i) rfl rfl
theorem w94_17 : ma_W d 94 Q 17 l (.ref i :: st) H 0 0 = (ma_cat st ≤ 8 ∧ ma_cv (H.1 i) 7 d 113 [.ref i] H (ma_kC d 94 Q 20 l st 0 0)) := wc_V0 (ia := 113) (n := 1) (cn := 7) rfl (by decide +kernel) (fun _ => rfl) rfl rfl
theorem w94_20 : ma_W d 94 Q 20 l [.int x] H 0 0 = Q (some (.int x)) H := wp_iret rfl rfl
theorem w94_21 : ma_W d 94 Q 21 (some (.ref i) :: l) st H 0 0 = ma_W d 94 Q 22 (some (.ref i) :: l) (.ref i :: st) H 0 0 := wp_aload_n (x := some i) rfl rfl
theorem w94_22 : ma_W d 94 Q 22 l (.ref i :: st) H 0 0 = ma_gf (H.1 i) 7 3 (ma_kV d 94 Q 25 l st H 0 0) := wp_get rfl (by decide +kernel)
theorem w94_25 : ma_W d 94 Q 25 (some (.ref i) :: l) st H 0 0 = ma_W d 94 Q 26 (some (.ref i) :: l) (.ref i :: st) H 0 0 := wp_aload_n (x := some i) rfl rfl
theorem w94_26 : ma_W d 94 Q 26 l (.ref i :: st) H 0 0 = ma_gf (H.1 i) 7 0 (ma_kV d 94 Q 29 l st H 0 0) := wp_get rfl (by decide +kernel)
theorem w94_29 : ma_W d 94 Q 29 l (.ref i :: st) H 0 0 = ma_gf (H.1 i) 0 0 (ma_kV d 94 Q 32 l st H 0 0) := wp_get rfl (by decide +kernel)
theorem w94_32 : ma_W d 94 Q 32 (o0 :: some (.int x) :: l) st H 0 0 = ma_W d 94 Q 33 (o0 :: some (.int x) :: l) (.int x :: st) H 0 0 := wp_iload_n rfl rfl
theorem w94_33 : ma_W d 94 Q 33 l (.int x1 :: .ref i0 :: .ref i :: st) H 0 0 = (ma_cat st ≤ 8 ∧ ma_cv (H.1 i) 6 d 67 [.ref i, .ref i0, .int x1] H (ma_kC d 94 Q 36 l st 0 0)) := wc_V0 (ia := 67) (n := 3) (cn := 6) rfl (by decide +kernel) (fun _ => rfl) rfl rfl
theorem w94_36 : ma_W d 94 Q 36 (o0 :: o1 :: some (.int x) :: l) st H 0 0 = ma_W d 94 Q 37 (o0 :: o1 :: some (.int x) :: l) (.int x :: st) H 0 0 := wp_iload_n rfl rfl
theorem w94_37 : ma_W d 94 Q 37 l (.int x :: st) H 0 0 = ma_if (x = 0) d 94 Q 40 50 l st H 0 0 := wp_c0 (id := 94) (pc := 37) (c := .ne) (off := 13) 50 rfl (by decide)
theorem w94_40 : ma_W d 94 Q 40 (some (.ref i) :: l) st H 0 0 = ma_W d 94 Q 41 (some (.ref i) :: l) (.ref i :: st) H 0 0 := wp_aload_n (x := some i) rfl rfl
theorem w94_41 : ma_W d 94 Q 41 l (.ref i :: st) H 0 0 = ma_gf (H.1 i) 7 3 (ma_kV d 94 Q 44 l st H 0 0) := wp_get rfl (by decide +kernel)
theorem w94_44 : ma_W d 94 Q 44 l (.ref i :: st) H 0 0 = ma_gf (H.1 i) 6 0 (ma_kV d 94 Q 47 l st H 0 0) := wp_get rfl (by decide +kernel)
theorem w94_47 : ma_W d 94 Q 47 l st H 0 0 = ma_W d 94 Q 57 l st H 0 0 := wp_goto 57 rfl (by decide)
theorem w94_50 : ma_W d 94 Q 50 (some (.ref i) :: l) st H 0 0 = ma_W d 94 Q 51 (some (.ref i) :: l) (.ref i :: st) H 0 0 := wp_aload_n (x := some i) rfl rfl
theorem w94_51 : ma_W d 94 Q 51 l (.ref i :: st) H 0 0 = ma_gf (H.1 i) 7 3 (ma_kV d 94 Q 54 l st H 0 0) := wp_get rfl (by decide +kernel)
theorem w94_54 : ma_W d 94 Q 54 l (.ref i :: st) H 0 0 = ma_gf (H.1 i) 6 1 (ma_kV d 94 Q 57 l st H 0 0) := wp_get rfl (by decide +kernel)
theorem w94_57 : ma_W d 94 Q 57 l [.int x] H 0 0 = Q (some (.int x)) H := wp_iret rfl rfl
theorem e94 : ma_MW (d + 1) 94 [.ref i, .int x0, .int x1] H Q = ma_W d 94 Q 0 [some (.ref i), some (.int x0), some (.int x1)] [] H 0 0 := wp_enter (by decide) (Nat.le_of_ble_eq_true rfl) rfl
/-! 95 be_note -/
theorem w95_0 : ma_W d 95 Q 0 (o0 :: some (.int x) :: l) st H 0 0 = ma_W d 95 Q 1 (o0 :: some (.int x) :: l) (.int x :: st) H 0 0 := wp_iload_n rfl rfl
theorem w95_1 : ma_W d 95 Q 1 l st H 0 0 = ma_W d 95 Q 2 l (.int 1 :: st) H 0 0 := wp_iconst rfl (by decide)
theorem w95_2 : ma_W d 95 Q 2 l st H 0 0 = ma_W d 95 Q 4 l (.int 16 :: st) H 0 0 := wp_bipush rfl (by decide)
theorem w95_4 : ma_W d 95 Q 4 l (.int x2 :: .int x1 :: .int x0 :: st) H 0 0 = (ma_cat st ≤ 8 ∧ ma_MW d 116 [.int x0, .int x1, .int x2] H (ma_kC d 95 Q 7 l st 0 0)) := wc_S0 (ia := 116) (n := 3) (cn := 7) (k := 1) rfl (by decide +kernel) (by decide) (fun _ => rfl) rfl rfl
theorem w95_7 : ma_W d 95 Q 7 l (.int x :: st) H 0 0 = ma_if (x = 0) d 95 Q 20 10 l st H 0 0 := wp_c0 (id := 95) (pc := 7) (c := .eq) (off := 13) 20 rfl (by decide)
theorem w95_10 : ma_W d 95 Q 10 (o0 :: o1 :: some (.int x) :: l) st H 0 0 = ma_W d 95 Q 11 (o0 :: o1 :: some (.int x) :: l) (.int x :: st) H 0 0 := wp_iload_n rfl rfl
theorem w95_11 : ma_W d 95 Q 11 l st H 0 0 = ma_W d 95 Q 12 l (.int 0 :: st) H 0 0 := wp_iconst rfl (by decide)
theorem w95_12 : ma_W d 95 Q 12 l st H 0 0 = ma_W d 95 Q 14 l (.int 9 :: st) H 0 0 := wp_bipush rfl (by decide)
theorem w95_14 : ma_W d 95 Q 14 l (.int x2 :: .int x1 :: .int x0 :: st) H 0 0 = (ma_cat st ≤ 8 ∧ ma_MW d 116 [.int x0, .int x1, .int x2] H (ma_kC d 95 Q 17 l st 0 0)) := wc_S0 (ia := 116) (n := 3) (cn := 7) (k := 1) rfl (by decide +kernel) (by decide) (fun _ => rfl) rfl rfl
theorem w95_17 : ma_W d 95 Q 17 l (.int x :: st) H 0 0 = ma_if (x = 0) d 95 Q 20 25 l st H 0 0 := wp_c0 (id := 95) (pc := 17) (c := .ne) (off := 8) 25 rfl (by decide)
theorem w95_20 : ma_W d 95 Q 20 (some (.ref i) :: l) st H 0 0 = ma_W d 95 Q 21 (some (.ref i) :: l) (.ref i :: st) H 0 0 := wp_aload_n (x := some i) rfl rfl
theorem w95_21 : ma_W d 95 Q 21 l (.ref i :: st) H 0 0 = (ma_cat st ≤ 8 ∧ ma_cv (H.1 i) 7 d 113 [.ref i] H (ma_kC d 95 Q 24 l st 0 0)) := wc_V0 (ia := 113) (n := 1) (cn := 7) rfl (by decide +kernel) (fun _ => rfl) rfl rfl
theorem w95_24 : ma_W d 95 Q 24 l [.int x] H 0 0 = Q (some (.int x)) H := wp_iret rfl rfl
theorem w95_25 : ma_W d 95 Q 25 (some (.ref i) :: l) st H 0 0 = ma_W d 95 Q 26 (some (.ref i) :: l) (.ref i :: st) H 0 0 := wp_aload_n (x := some i) rfl rfl
theorem w95_26 : ma_W d 95 Q 26 l (.ref i :: st) H 0 0 = ma_gf (H.1 i) 7 0 (ma_kV d 95 Q 29 l st H 0 0) := wp_get rfl (by decide +kernel)
theorem w95_29 : ma_W d 95 Q 29 l (.ref i :: st) H 0 0 = ma_gf (H.1 i) 0 2 (ma_kV d 95 Q 32 l st H 0 0) := wp_get rfl (by decide +kernel)
theorem w95_32 : ma_W d 95 Q 32 l (.ref i :: st) H 0 0 = (ma_cat st ≤ 8 ∧ ma_cv (H.1 i) 3 d 26 [.ref i] H (ma_kC d 95 Q 35 l st 0 0)) := wc_V0 (ia := 26) (n := 1) (cn := 3) rfl (by decide +kernel) (fun _ => rfl) rfl rfl
theorem w95_35 : ma_W d 95 Q 35 l (.int x :: st) H 0 0 = ma_if (x = 0) d 95 Q 43 38 l st H 0 0 := wp_c0 (id := 95) (pc := 35) (c := .eq) (off := 8) 43 rfl (by decide)
theorem w95_38 : ma_W d 95 Q 38 (some (.ref i) :: l) st H 0 0 = ma_W d 95 Q 39 (some (.ref i) :: l) (.ref i :: st) H 0 0 := wp_aload_n (x := some i) rfl rfl
theorem w95_39 : ma_W d 95 Q 39 l (.ref i :: st) H 0 0 = (ma_cat st ≤ 8 ∧ ma_cv (H.1 i) 7 d 115 [.ref i] H (ma_kC d 95 Q 42 l st 0 0)) := wc_V0 (ia := 115) (n := 1) (cn := 7) rfl (by decide +kernel) (fun _ => rfl) rfl rfl
theorem w95_42 : ma_W d 95 Q 42 l [.int x] H 0 0 = Q (some (.int x)) H := wp_iret rfl rfl
theorem w95_43 : ma_W d 95 Q 43 (some (.ref i) :: l) st H 0 0 = ma_W d 95 Q 44 (some (.ref i) :: l) (.ref i :: st) H 0 0 := wp_aload_n (x := some i) rfl rfl
theorem w95_44 : ma_W d 95 Q 44 l (.ref i :: st) H 0 0 = ma_gf (H.1 i) 7 0 (ma_kV d 95 Q 47 l st H 0 0) := wp_get rfl (by decide +kernel)
theorem w95_47 : ma_W d 95 Q 47 l (.ref i :: st) H 0 0 = ma_gf (H.1 i) 0 2 (ma_kV d 95 Q 50 l st H 0 0) := wp_get rfl (by decide +kernel)
theorem w95_50 : ma_W d 95 Q 50 l st H 0 0 = ma_W d 95 Q 51 l (.int 0 :: st) H 0 0 := wp_iconst rfl (by decide)
theorem w95_51 : ma_W d 95 Q 51 (o0 :: some (.int x) :: l) st H 0 0 = ma_W d 95 Q 52 (o0 :: some (.int x) :: l) (.int x :: st) H 0 0 := wp_iload_n rfl rfl
theorem w95_52 : ma_W d 95 Q 52 l st H 0 0 = ma_W d 95 Q 53 l (.int 0 :: st) H 0 0 := wp_iconst rfl (by decide)
theorem w95_53 : ma_W d 95 Q 53 (o0 :: o1 :: some (.int x) :: l) st H 0 0 = ma_W d 95 Q 54 (o0 :: o1 :: some (.int x) :: l) (.int x :: st) H 0 0 := wp_iload_n rfl rfl
theorem w95_54 : ma_W d 95 Q 54 l (.int x3 :: .int x2 :: .int x1 :: .int x0 :: .ref i :: st) H 0 0 = (ma_cat st ≤ 8 ∧ ma_cv (H.1 i) 3 d 28 [.ref i, .int x0, .int x1, .int x2, .int x3] H (ma_kC d 95 Q 57 l st 0 0)) := wc_V0 (ia := 28) (n := 5) (cn := 3) rfl (by decide +kernel) (fun _ => rfl) rfl rfl
theorem w95_57 : ma_W d 95 Q 57 (some (.ref i) :: l) st H 0 0 = ma_W d 95 Q 58 (some (.ref i) :: l) (.ref i :: st) H 0 0 := wp_aload_n (x := some i) rfl rfl
theorem w95_58 : ma_W d 95 Q 58 l (.ref i :: st) H 0 0 = ma_gf (H.1 i) 7 0 (ma_kV d 95 Q 61 l st H 0 0) := wp_get rfl (by decide +kernel)
theorem w95_61 : ma_W d 95 Q 61 l (.ref i :: st) H 0 0 = ma_gf (H.1 i) 0 2 (ma_kV d 95 Q 64 l st H 0 0) := wp_get rfl (by decide +kernel)
theorem w95_64 : ma_W d 95 Q 64 l (.ref i :: st) H 0 0 = (ma_cat st ≤ 8 ∧ ma_cv (H.1 i) 3 d 25 [.ref i] H (ma_kC d 95 Q 67 l st 0 0)) := wc_V0 (ia := 25) (n := 1) (cn := 3) rfl (by decide +kernel) (fun _ => rfl) rfl rfl
theorem w95_67 : ma_W d 95 Q 67 l [.int x] H 0 0 = Q (some (.int x)) H := wp_iret rfl rfl
theorem e95 : ma_MW (d + 1) 95 [.ref i, .int x0, .int x1] H Q = ma_W d 95 Q 0 [some (.ref i), some (.int x0), some (.int x1)] [] H 0 0 := wp_enter (by decide) (Nat.le_of_ble_eq_true rfl) rfl
/-! 96 be_mark -/
theorem w96_0 : ma_W d 96 Q 0 (o0 :: some (.int x) :: l) st H 0 0 = ma_W d 96 Q 1 (o0 :: some (.int x) :: l) (.int x :: st) H 0 0 := wp_iload_n rfl rfl
theorem w96_1 : ma_W d 96 Q 1 l (.int x0 :: st) H 0 0 = (ma_cat st ≤ 8 ∧ ma_MW d 117 [.int x0] H (ma_kC d 96 Q 4 l st 0 0)) := wc_S0 (ia := 117) (n := 1) (cn := 7) (k := 1) rfl (by decide +kernel) (by decide) (fun _ => rfl) rfl rfl
theorem w96_4 : ma_W d 96 Q 4 l (.int x :: st) H 0 0 = ma_if (x = 0) d 96 Q 39 7 l st H 0 0 := wp_c0 (id := 96) (pc := 4) (c := .eq) (off := 35) 39 rfl (by decide)
theorem w96_7 : ma_W d 96 Q 7 (o0 :: o1 :: some (.int x) :: l) st H 0 0 = ma_W d 96 Q 8 (o0 :: o1 :: some (.int x) :: l) (.int x :: st) H 0 0 := wp_iload_n rfl rfl
theorem w96_8 : ma_W d 96 Q 8 l st H 0 0 = ma_W d 96 Q 9 l (.int 1 :: st) H 0 0 := wp_iconst rfl (by decide)
theorem w96_9 : ma_W d 96 Q 9 l st H 0 0 = ma_W d 96 Q 11 l (.int 16 :: st) H 0 0 := wp_bipush rfl (by decide)
theorem w96_11 : ma_W d 96 Q 11 l (.int x2 :: .int x1 :: .int x0 :: st) H 0 0 = (ma_cat st ≤ 8 ∧ ma_MW d 116 [.int x0, .int x1, .int x2] H (ma_kC d 96 Q 14 l st 0 0)) := wc_S0 (ia := 116) (n := 3) (cn := 7) (k := 1) rfl (by decide +kernel) (by decide) (fun _ => rfl) rfl rfl
theorem w96_14 : ma_W d 96 Q 14 l (.int x :: st) H 0 0 = ma_if (x = 0) d 96 Q 39 17 l st H 0 0 := wp_c0 (id := 96) (pc := 14) (c := .eq) (off := 25) 39 rfl (by decide)
theorem w96_17 : ma_W d 96 Q 17 (o0 :: o1 :: o2 :: some (.int x) :: l) st H 0 0 = ma_W d 96 Q 18 (o0 :: o1 :: o2 :: some (.int x) :: l) (.int x :: st) H 0 0 := wp_iload_n rfl rfl
theorem w96_18 : ma_W d 96 Q 18 l st H 0 0 = ma_W d 96 Q 19 l (.int 0 :: st) H 0 0 := wp_iconst rfl (by decide)
theorem w96_19 : ma_W d 96 Q 19 (o0 :: o1 :: some (.int x) :: l) st H 0 0 = ma_W d 96 Q 20 (o0 :: o1 :: some (.int x) :: l) (.int x :: st) H 0 0 := wp_iload_n rfl rfl
theorem w96_20 : ma_W d 96 Q 20 l st H 0 0 = ma_W d 96 Q 21 l (.int 1 :: st) H 0 0 := wp_iconst rfl (by decide)
theorem w96_21 : ma_W d 96 Q 21 l (.int y :: .int x :: st) H 0 0 = ma_W d 96 Q 22 l (.int (x - y) :: st) H 0 0 := wp_isub rfl
theorem w96_22 : ma_W d 96 Q 22 l (.int x2 :: .int x1 :: .int x0 :: st) H 0 0 = (ma_cat st ≤ 8 ∧ ma_MW d 116 [.int x0, .int x1, .int x2] H (ma_kC d 96 Q 25 l st 0 0)) := wc_S0 (ia := 116) (n := 3) (cn := 7) (k := 1) rfl (by decide +kernel) (by decide) (fun _ => rfl) rfl rfl
theorem w96_25 : ma_W d 96 Q 25 l (.int x :: st) H 0 0 = ma_if (x = 0) d 96 Q 39 28 l st H 0 0 := wp_c0 (id := 96) (pc := 25) (c := .eq) (off := 14) 39 rfl (by decide)
theorem w96_28 : ma_W d 96 Q 28 (o0 :: o1 :: o2 :: o3 :: some (.int x) :: l) st H 0 0 = ma_W d 96 Q 30 (o0 :: o1 :: o2 :: o3 :: some (.int x) :: l) (.int x :: st) H 0 0 := wp_iload rfl rfl
theorem w96_30 : ma_W d 96 Q 30 l st H 0 0 = ma_W d 96 Q 31 l (.int 0 :: st) H 0 0 := wp_iconst rfl (by decide)
theorem w96_31 : ma_W d 96 Q 31 l st H 0 0 = ma_W d 96 Q 33 l (.int 15 :: st) H 0 0 := wp_bipush rfl (by decide)
theorem w96_33 : ma_W d 96 Q 33 l (.int x2 :: .int x1 :: .int x0 :: st) H 0 0 = (ma_cat st ≤ 8 ∧ ma_MW d 116 [.int x0, .int x1, .int x2] H (ma_kC d 96 Q 36 l st 0 0)) := wc_S0 (ia := 116) (n := 3) (cn := 7) (k := 1) rfl (by decide +kernel) (by decide) (fun _ => rfl) rfl rfl
theorem w96_36 : ma_W d 96 Q 36 l (.int x :: st) H 0 0 = ma_if (x = 0) d 96 Q 39 44 l st H 0 0 := wp_c0 (id := 96) (pc := 36) (c := .ne) (off := 8) 44 rfl (by decide)
theorem w96_39 : ma_W d 96 Q 39 (some (.ref i) :: l) st H 0 0 = ma_W d 96 Q 40 (some (.ref i) :: l) (.ref i :: st) H 0 0 := wp_aload_n (x := some i) rfl rfl
theorem w96_40 : ma_W d 96 Q 40 l (.ref i :: st) H 0 0 = (ma_cat st ≤ 8 ∧ ma_cv (H.1 i) 7 d 113 [.ref i] H (ma_kC d 96 Q 43 l st 0 0)) := wc_V0 (ia := 113) (n := 1) (cn := 7) rfl (by decide +kernel) (fun _ => rfl) rfl rfl
theorem w96_43 : ma_W d 96 Q 43 l [.int x] H 0 0 = Q (some (.int x)) H := wp_iret rfl rfl
theorem w96_44 : ma_W d 96 Q 44 (some (.ref i) :: l) st H 0 0 = ma_W d 96 Q 45 (some (.ref i) :: l) (.ref i :: st) H 0 0 := wp_aload_n (x := some i) rfl rfl
theorem w96_45 : ma_W d 96 Q 45 l (.ref i :: st) H 0 0 = ma_gf (H.1 i) 7 0 (ma_kV d 96 Q 48 l st H 0 0) := wp_get rfl (by decide +kernel)
theorem w96_48 : ma_W d 96 Q 48 l (.ref i :: st) H 0 0 = ma_gf (H.1 i) 0 3 (ma_kV d 96 Q 51 l st H 0 0) := wp_get rfl (by decide +kernel)
theorem w96_51 : ma_W d 96 Q 51 l (.ref i :: st) H 0 0 = (ma_cat st ≤ 8 ∧ ma_cv (H.1 i) 3 d 26 [.ref i] H (ma_kC d 96 Q 54 l st 0 0)) := wc_V0 (ia := 26) (n := 1) (cn := 3) rfl (by decide +kernel) (fun _ => rfl) rfl rfl
theorem w96_54 : ma_W d 96 Q 54 l (.int x :: st) H 0 0 = ma_if (x = 0) d 96 Q 62 57 l st H 0 0 := wp_c0 (id := 96) (pc := 54) (c := .eq) (off := 8) 62 rfl (by decide)
theorem w96_57 : ma_W d 96 Q 57 (some (.ref i) :: l) st H 0 0 = ma_W d 96 Q 58 (some (.ref i) :: l) (.ref i :: st) H 0 0 := wp_aload_n (x := some i) rfl rfl
theorem w96_58 : ma_W d 96 Q 58 l (.ref i :: st) H 0 0 = (ma_cat st ≤ 8 ∧ ma_cv (H.1 i) 7 d 115 [.ref i] H (ma_kC d 96 Q 61 l st 0 0)) := wc_V0 (ia := 115) (n := 1) (cn := 7) rfl (by decide +kernel) (fun _ => rfl) rfl rfl
theorem w96_61 : ma_W d 96 Q 61 l [.int x] H 0 0 = Q (some (.int x)) H := wp_iret rfl rfl
theorem w96_62 : ma_W d 96 Q 62 (some (.ref i) :: l) st H 0 0 = ma_W d 96 Q 63 (some (.ref i) :: l) (.ref i :: st) H 0 0 := wp_aload_n (x := some i) rfl rfl
theorem w96_63 : ma_W d 96 Q 63 l (.ref i :: st) H 0 0 = ma_gf (H.1 i) 7 0 (ma_kV d 96 Q 66 l st H 0 0) := wp_get rfl (by decide +kernel)
theorem w96_66 : ma_W d 96 Q 66 l (.ref i :: st) H 0 0 = ma_gf (H.1 i) 0 3 (ma_kV d 96 Q 69 l st H 0 0) := wp_get rfl (by decide +kernel)
theorem w96_69 : ma_W d 96 Q 69 (o0 :: some (.int x) :: l) st H 0 0 = ma_W d 96 Q 70 (o0 :: some (.int x) :: l) (.int x :: st) H 0 0 := wp_iload_n rfl rfl
theorem w96_70 : ma_W d 96 Q 70 (o0 :: o1 :: some (.int x) :: l) st H 0 0 = ma_W d 96 Q 71 (o0 :: o1 :: some (.int x) :: l) (.int x :: st) H 0 0 := wp_iload_n rfl rfl
theorem w96_71 : ma_W d 96 Q 71 (o0 :: o1 :: o2 :: some (.int x) :: l) st H 0 0 = ma_W d 96 Q 72 (o0 :: o1 :: o2 :: some (.int x) :: l) (.int x :: st) H 0 0 := wp_iload_n rfl rfl
theorem w96_72 : ma_W d 96 Q 72 (o0 :: o1 :: o2 :: o3 :: some (.int x) :: l) st H 0 0 = ma_W d 96 Q 74 (o0 :: o1 :: o2 :: o3 :: some (.int x) :: l) (.int x :: st) H 0 0 := wp_iload rfl rfl
theorem w96_74 : ma_W d 96 Q 74 l (.int x3 :: .int x2 :: .int x1 :: .int x0 :: .ref i :: st) H 0 0 = (ma_cat st ≤ 8 ∧ ma_cv (H.1 i) 3 d 28 [.ref i, .int x0, .int x1, .int x2, .int x3] H (ma_kC d 96 Q 77 l st 0 0)) := wc_V0 (ia := 28) (n := 5) (cn := 3) rfl (by decide +kernel) (fun _ => rfl) rfl rfl
theorem w96_77 : ma_W d 96 Q 77 (some (.ref i) :: l) st H 0 0 = ma_W d 96 Q 78 (some (.ref i) :: l) (.ref i :: st) H 0 0 := wp_aload_n (x := some i) rfl rfl
theorem w96_78 : ma_W d 96 Q 78 l (.ref i :: st) H 0 0 = ma_gf (H.1 i) 7 0 (ma_kV d 96 Q 81 l st H 0 0) := wp_get rfl (by decide +kernel)
theorem w96_81 : ma_W d 96 Q 81 l (.ref i :: st) H 0 0 = ma_gf (H.1 i) 0 3 (ma_kV d 96 Q 84 l st H 0 0) := wp_get rfl (by decide +kernel)
theorem w96_84 : ma_W d 96 Q 84 l (.ref i :: st) H 0 0 = (ma_cat st ≤ 8 ∧ ma_cv (H.1 i) 3 d 25 [.ref i] H (ma_kC d 96 Q 87 l st 0 0)) := wc_V0 (ia := 25) (n := 1) (cn := 3) rfl (by decide +kernel) (fun _ => rfl) rfl rfl
theorem w96_87 : ma_W d 96 Q 87 l [.int x] H 0 0 = Q (some (.int x)) H := wp_iret rfl rfl
theorem e96 : ma_MW (d + 1) 96 [.ref i, .int x0, .int x1, .int x2, .int x3] H Q = ma_W d 96 Q 0 [some (.ref i), some (.int x0), some (.int x1), some (.int x2), some (.int x3)] [] H 0 0 := wp_enter (by decide) (Nat.le_of_ble_eq_true rfl) rfl
/-! 97 be_forget -/
theorem w97_0 : ma_W d 97 Q 0 (o0 :: some (.int x) :: l) st H 0 0 = ma_W d 97 Q 1 (o0 :: some (.int x) :: l) (.int x :: st) H 0 0 := wp_iload_n rfl rfl
theorem w97_1 : ma_W d 97 Q 1 l st H 0 0 = ma_W d 97 Q 2 l (.int 0 :: st) H 0 0 := wp_iconst rfl (by decide)
theorem w97_2 : ma_W d 97 Q 2 l st H 0 0 = ma_W d 97 Q 3 l (.int 1 :: st) H 0 0 := wp_iconst rfl (by decide)
theorem w97_3 : ma_W d 97 Q 3 l (.int x2 :: .int x1 :: .int x0 :: st) H 0 0 = (ma_cat st ≤ 8 ∧ ma_MW d 116 [.int x0, .int x1, .int x2] H (ma_kC d 97 Q 6 l st 0 0)) := wc_S0 (ia := 116) (n := 3) (cn := 7) (k := 1) rfl (by decide +kernel) (by decide) (fun _ => rfl) rfl rfl
theorem w97_6 : ma_W d 97 Q 6 l (.int x :: st) H 0 0 = ma_if (x = 0) d 97 Q 9 14 l st H 0 0 := wp_c0 (id := 97) (pc := 6) (c := .ne) (off := 8) 14 rfl (by decide)
theorem w97_9 : ma_W d 97 Q 9 (some (.ref i) :: l) st H 0 0 = ma_W d 97 Q 10 (some (.ref i) :: l) (.ref i :: st) H 0 0 := wp_aload_n (x := some i) rfl rfl
theorem w97_10 : ma_W d 97 Q 10 l (.ref i :: st) H 0 0 = (ma_cat st ≤ 8 ∧ ma_cv (H.1 i) 7 d 113 [.ref i] H (ma_kC d 97 Q 13 l st 0 0)) := wc_V0 (ia := 113) (n := 1) (cn := 7) rfl (by decide +kernel) (fun _ => rfl) rfl rfl
theorem w97_13 : ma_W d 97 Q 13 l [.int x] H 0 0 = Q (some (.int x)) H := wp_iret rfl rfl
theorem w97_14 : ma_W d 97 Q 14 (o0 :: some (.int x) :: l) st H 0 0 = ma_W d 97 Q 15 (o0 :: some (.int x) :: l) (.int x :: st) H 0 0 := wp_iload_n rfl rfl
theorem w97_15 : ma_W d 97 Q 15 l (.int x :: st) H 0 0 = ma_if (x = 0) d 97 Q 18 28 l st H 0 0 := wp_c0 (id := 97) (pc := 15) (c := .ne) (off := 13) 28 rfl (by decide)
theorem w97_18 : ma_W d 97 Q 18 (some (.ref i) :: l) st H 0 0 = ma_W d 97 Q 19 (some (.ref i) :: l) (.ref i :: st) H 0 0 := wp_aload_n (x := some i) rfl rfl
theorem w97_19 : ma_W d 97 Q 19 l (.ref i :: st) H 0 0 = ma_gf (H.1 i) 7 0 (ma_kV d 97 Q 22 l st H 0 0) := wp_get rfl (by decide +kernel)
theorem w97_22 : ma_W d 97 Q 22 l (.ref i :: st) H 0 0 = ma_gf (H.1 i) 0 2 (ma_kV d 97 Q 25 l st H 0 0) := wp_get rfl (by decide +kernel)
theorem w97_25 : ma_W d 97 Q 25 l st H 0 0 = ma_W d 97 Q 35 l st H 0 0 := wp_goto 35 rfl (by decide)
theorem w97_28 : ma_W d 97 Q 28 (some (.ref i) :: l) st H 0 0 = ma_W d 97 Q 29 (some (.ref i) :: l) (.ref i :: st) H 0 0 := wp_aload_n (x := some i) rfl rfl
theorem w97_29 : ma_W d 97 Q 29 l (.ref i :: st) H 0 0 = ma_gf (H.1 i) 7 0 (ma_kV d 97 Q 32 l st H 0 0) := wp_get rfl (by decide +kernel)
theorem w97_32 : ma_W d 97 Q 32 l (.ref i :: st) H 0 0 = ma_gf (H.1 i) 0 3 (ma_kV d 97 Q 35 l st H 0 0) := wp_get rfl (by decide +kernel)
theorem w97_35 : ma_W d 97 Q 35 (o0 :: o1 :: p :: l) (.ref i :: st) H 0 0 = ma_W d 97 Q 36 (o0 :: ma_clr o1 :: some (.ref i) :: l) st H 0 0 := wp_astore_n (id := 97) (pc := 35) (k := 2) rfl (Nat.succ_lt_succ (Nat.succ_lt_succ (Nat.zero_lt_succ _)))
theorem w97_36 : ma_W d 97 Q 36 (o0 :: o1 :: some (.ref i) :: l) st H 0 0 = ma_W d 97 Q 37 (o0 :: o1 :: some (.ref i) :: l) (.ref i :: st) H 0 0 := wp_aload_n (x := some i) rfl rfl
theorem w97_37 : ma_W d 97 Q 37 l (.ref i :: st) H 0 0 = (ma_cat st ≤ 8 ∧ ma_cv (H.1 i) 3 d 25 [.ref i] H (ma_kC d 97 Q 40 l st 0 0)) := wc_V0 (ia := 25) (n := 1) (cn := 3) rfl (by decide +kernel) (fun _ => rfl) rfl rfl
theorem w97_40 : ma_W d 97 Q 40 (o0 :: o1 :: o2 :: p :: l) (.int x :: st) H 0 0 = ma_W d 97 Q 41 (o0 :: o1 :: ma_clr o2 :: some (.int x) :: l) st H 0 0 := wp_istore_n (id := 97) (pc := 40) (k := 3) rfl (Nat.succ_lt_succ (Nat.succ_lt_succ (Nat.succ_lt_succ (Nat.zero_lt_succ _))))
theorem w97_41 : ma_W d 97 Q 41 (o0 :: o1 :: some (.ref i) :: l) st H 0 0 = ma_W d 97 Q 42 (o0 :: o1 :: some (.ref i) :: l) (.ref i :: st) H 0 0 := wp_aload_n (x := some i) rfl rfl
theorem w97_42 : ma_W d 97 Q 42 l (.ref i :: st) H 0 0 = (ma_cat st ≤ 8 ∧ ma_cv (H.1 i) 3 d 27 [.ref i] H (ma_kC d 97 Q 45 l st 0 0)) := wc_V0 (ia := 27) (n := 1) (cn := 3) rfl (by decide +kernel) (fun _ => rfl) rfl rfl
theorem w97_45 : ma_W d 97 Q 45 (o0 :: o1 :: o2 :: some (.int x) :: l) st H 0 0 = ma_W d 97 Q 46 (o0 :: o1 :: o2 :: some (.int x) :: l) (.int x :: st) H 0 0 := wp_iload_n rfl rfl
theorem w97_46 : ma_W d 97 Q 46 l [.int x] H 0 0 = Q (some (.int x)) H := wp_iret rfl rfl
theorem e97 : ma_MW (d + 1) 97 [.ref i, .int x0] H Q = ma_W d 97 Q 0 [some (.ref i), some (.int x0), none, none] [] H 0 0 := wp_enter (by decide) (Nat.le_of_ble_eq_true rfl) rfl
/-! 98 be_is -/
theorem w98_0 : ma_W d 98 Q 0 (some (.ref i) :: l) st H 0 0 = ma_W d 98 Q 1 (some (.ref i) :: l) (.ref i :: st) H 0 0 := wp_aload_n (x := some i) rfl rfl
theorem w98_1 : ma_W d 98 Q 1 l (.ref i :: st) H 0 0 = ma_gf (H.1 i) 7 0 (ma_kV d 98 Q 4 l st H 0 0) := wp_get rfl (by decide +kernel)
theorem w98_4 : ma_W d 98 Q 4 l (.ref i :: st) H 0 0 = ma_gf (H.1 i) 0 2 (ma_kV d 98 Q 7 l st H 0 0) := wp_get rfl (by decide +kernel)
theorem w98_7 : ma_W d 98 Q 7 l (.ref i0 :: st) H 0 0 = (ma_cat st ≤ 8 ∧ ma_MW d 195 [.ref i0] H (ma_kC d 98 Q 10 l st 0 0)) := wc_S0 (ia := 195) (n := 1) (cn := 9) (k := 1) rfl (by decide +kernel) (by decide) (fun _ => rfl) rfl rfl
theorem w98_10 : ma_W d 98 Q 10 l [.int x] H 0 0 = Q (some (.int x)) H := wp_iret rfl rfl
theorem e98 : ma_MW (d + 1) 98 [.ref i] H Q = ma_W d 98 Q 0 [some (.ref i)] [] H 0 0 := wp_enter (by decide) (Nat.le_of_ble_eq_true rfl) rfl
/-! 99 be_look -/
theorem w99_0 : ma_W d 99 Q 0 (some (.ref i) :: l) st H 0 0 = ma_W d 99 Q 1 (some (.ref i) :: l) (.ref i :: st) H 0 0 := wp_aload_n (x := some i) rfl rfl
theorem w99_1 : ma_W d 99 Q 1 l (.ref i :: st) H 0 0 = ma_gf (H.1 i) 7 0 (ma_kV d 99 Q 4 l st H 0 0) := wp_get rfl (by decide +kernel)
theorem w99_4 : ma_W d 99 Q 4 l (.ref i :: st) H 0 0 = ma_gf (H.1 i) 0 2 (ma_kV d 99 Q 7 l st H 0 0) := wp_get rfl (by decide +kernel)
theorem w99_7 : ma_W d 99 Q 7 l (.ref i0 :: st) H 0 0 = (ma_cat st ≤ 8 ∧ ma_MW d 195 [.ref i0] H (ma_kC d 99 Q 10 l st 0 0)) := wc_S0 (ia := 195) (n := 1) (cn := 9) (k := 1) rfl (by decide +kernel) (by decide) (fun _ => rfl) rfl rfl
theorem w99_10 : ma_W d 99 Q 10 l (.int x0 :: st) H 0 0 = (ma_cat st ≤ 8 ∧ ma_MW d 197 [.int x0] H (ma_kC d 99 Q 13 l st 0 0)) := wc_S0 (ia := 197) (n := 1) (cn := 9) (k := 1) rfl (by decide +kernel) (by decide) (fun _ => rfl) rfl rfl
theorem w99_13 : ma_W d 99 Q 13 l [.int x] H 0 0 = Q (some (.int x)) H := wp_iret rfl rfl
theorem e99 : ma_MW (d + 1) 99 [.ref i] H Q = ma_W d 99 Q 0 [some (.ref i)] [] H 0 0 := wp_enter (by decide) (Nat.le_of_ble_eq_true rfl) rfl
/-! 100 be_kinds -/
theorem w100_0 : ma_W d 100 Q 0 (o0 :: some (.int x) :: l) st H 0 0 = ma_W d 100 Q 1 (o0 :: some (.int x) :: l) (.int x :: st) H 0 0 := wp_iload_n rfl rfl
theorem w100_1 : ma_W d 100 Q 1 l (.int x0 :: st) H 0 0 = (ma_cat st ≤ 8 ∧ ma_MW d 117 [.int x0] H (ma_kC d 100 Q 4 l st 0 0)) := wc_S0 (ia := 117) (n := 1) (cn := 7) (k := 1) rfl (by decide +kernel) (by decide) (fun _ => rfl) rfl rfl
theorem w100_4 : ma_W d 100 Q 4 l (.int x :: st) H 0 0 = ma_if (x = 0) d 100 Q 7 12 l st H 0 0 := wp_c0 (id := 100) (pc := 4) (c := .ne) (off := 8) 12 rfl (by decide)
theorem w100_7 : ma_W d 100 Q 7 (some (.ref i) :: l) st H 0 0 = ma_W d 100 Q 8 (some (.ref i) :: l) (.ref i :: st) H 0 0 := wp_aload_n (x := some i) rfl rfl
theorem w100_8 : ma_W d 100 Q 8 l (.ref i :: st) H 0 0 = (ma_cat st ≤ 8 ∧ ma_cv (H.1 i) 7 d 113 [.ref i] H (ma_kC d 100 Q 11 l st 0 0)) := wc_V0 (ia := 113) (n := 1) (cn := 7) rfl (by decide +kernel) (fun _ => rfl) rfl rfl
theorem w100_11 : ma_W d 100 Q 11 l [.int x] H 0 0 = Q (some (.int x)) H := wp_iret rfl rfl
theorem w100_12 : ma_W d 100 Q 12 (some (.ref i) :: l) st H 0 0 = ma_W d 100 Q 13 (some (.ref i) :: l) (.ref i :: st) H 0 0 := wp_aload_n (x := some i) rfl rfl
theorem w100_13 : ma_W d 100 Q 13 l (.ref i :: st) H 0 0 = ma_gf (H.1 i) 7 0 (ma_kV d 100 Q 16 l st H 0 0) := wp_get rfl (by decide +kernel)
theorem w100_16 : ma_W d 100 Q 16 l (.ref i :: st) H 0 0 = ma_gf (H.1 i) 0 3 (ma_kV d 100 Q 19 l st H 0 0) := wp_get rfl (by decide +kernel)
theorem w100_19 : ma_W d 100 Q 19 (o0 :: some (.int x) :: l) st H 0 0 = ma_W d 100 Q 20 (o0 :: some (.int x) :: l) (.int x :: st) H 0 0 := wp_iload_n rfl rfl
theorem w100_20 : ma_W d 100 Q 20 l (.int x1 :: .ref i0 :: st) H 0 0 = (ma_cat st ≤ 8 ∧ ma_MW d 196 [.ref i0, .int x1] H (ma_kC d 100 Q 23 l st 0 0)) := wc_S0 (ia := 196) (n := 2) (cn := 9) (k := 1) rfl (by decide +kernel) (by decide) (fun _ => rfl) rfl rfl
theorem w100_23 : ma_W d 100 Q 23 l [.int x] H 0 0 = Q (some (.int x)) H := wp_iret rfl rfl
theorem e100 : ma_MW (d + 1) 100 [.ref i, .int x0] H Q = ma_W d 100 Q 0 [some (.ref i), some (.int x0)] [] H 0 0 := wp_enter (by decide) (Nat.le_of_ble_eq_true rfl) rfl
/-! 101 be_ask -/
theorem w101_0 : ma_W d 101 Q 0 (o0 :: some (.int x) :: l) st H 0 0 = ma_W d 101 Q 1 (o0 :: some (.int x) :: l) (.int x :: st) H 0 0 := wp_iload_n rfl rfl
theorem w101_1 : ma_W d 101 Q 1 l (.int x0 :: st) H 0 0 = (ma_cat st ≤ 8 ∧ ma_MW d 117 [.int x0] H (ma_kC d 101 Q 4 l st 0 0)) := wc_S0 (ia := 117) (n := 1) (cn := 7) (k := 1) rfl (by decide +kernel) (by decide) (fun _ => rfl) rfl rfl
theorem w101_4 : ma_W d 101 Q 4 l (.int x :: st) H 0 0 = ma_if (x = 0) d 101 Q 7 12 l st H 0 0 := wp_c0 (id := 101) (pc := 4) (c := .ne) (off := 8) 12 rfl (by decide)
theorem w101_7 : ma_W d 101 Q 7 (some (.ref i) :: l) st H 0 0 = ma_W d 101 Q 8 (some (.ref i) :: l) (.ref i :: st) H 0 0 := wp_aload_n (x := some i) rfl rfl
theorem w101_8 : ma_W d 101 Q 8 l (.ref i :: st) H 0 0 = (ma_cat st ≤ 8 ∧ ma_cv (H.1 i) 7 d 113 [.ref i] H (ma_kC d 101 Q 11 l st 0 0)) := wc_V0 (ia := 113) (n := 1) (cn := 7) rfl (by decide +kernel) (fun _ => rfl) rfl rfl
theorem w101_11 : ma_W d 101 Q 11 l [.int x] H 0 0 = Q (some (.int x)) H := wp_iret rfl rfl
theorem w101_12 : ma_W d 101 Q 12 (some (.ref i) :: l) st H 0 0 = ma_W d 101 Q 13 (some (.ref i) :: l) (.ref i :: st) H 0 0 := wp_aload_n (x := some i) rfl rfl
theorem w101_13 : ma_W d 101 Q 13 l (.ref i :: st) H 0 0 = ma_gf (H.1 i) 7 0 (ma_kV d 101 Q 16 l st H 0 0) := wp_get rfl (by decide +kernel)
theorem w101_16 : ma_W d 101 Q 16 l (.ref i :: st) H 0 0 = ma_gf (H.1 i) 0 3 (ma_kV d 101 Q 19 l st H 0 0) := wp_get rfl (by decide +kernel)
theorem w101_19 : ma_W d 101 Q 19 (o0 :: some (.int x) :: l) st H 0 0 = ma_W d 101 Q 20 (o0 :: some (.int x) :: l) (.int x :: st) H 0 0 := wp_iload_n rfl rfl
theorem w101_20 : ma_W d 101 Q 20 l (.int x1 :: .ref i0 :: st) H 0 0 = (ma_cat st ≤ 8 ∧ ma_MW d 196 [.ref i0, .int x1] H (ma_kC d 101 Q 23 l st 0 0)) := wc_S0 (ia := 196) (n := 2) (cn := 9) (k := 1) rfl (by decide +kernel) (by decide) (fun _ => rfl) rfl rfl
theorem w101_23 : ma_W d 101 Q 23 l (.int x0 :: st) H 0 0 = (ma_cat st ≤ 8 ∧ ma_MW d 198 [.int x0] H (ma_kC d 101 Q 26 l st 0 0)) := wc_S0 (ia := 198) (n := 1) (cn := 9) (k := 1) rfl (by decide +kernel) (by decide) (fun _ => rfl) rfl rfl
theorem w101_26 : ma_W d 101 Q 26 l [.int x] H 0 0 = Q (some (.int x)) H := wp_iret rfl rfl
theorem e101 : ma_MW (d + 1) 101 [.ref i, .int x0] H Q = ma_W d 101 Q 0 [some (.ref i), some (.int x0)] [] H 0 0 := wp_enter (by decide) (Nat.le_of_ble_eq_true rfl) rfl
/-! 102 be_against -/
theorem w102_0 : ma_W d 102 Q 0 (o0 :: some (.int x) :: l) st H 0 0 = ma_W d 102 Q 1 (o0 :: some (.int x) :: l) (.int x :: st) H 0 0 := wp_iload_n rfl rfl
theorem w102_1 : ma_W d 102 Q 1 l st H 0 0 = ma_W d 102 Q 2 l (.int (-1) :: st) H 0 0 := wp_iconst rfl (by decide)
theorem w102_2 : ma_W d 102 Q 2 l (.int y :: .int x :: st) H 0 0 = ma_if (y ≤ x) d 102 Q 18 5 l st H 0 0 := wp_ic (id := 102) (pc := 2) (c := .ge) (off := 16) 18 rfl (by decide)
theorem w102_5 : ma_W d 102 Q 5 (some (.ref i) :: l) st H 0 0 = ma_W d 102 Q 6 (some (.ref i) :: l) (.ref i :: st) H 0 0 := wp_aload_n (x := some i) rfl rfl
theorem w102_6 : ma_W d 102 Q 6 l (.ref i :: st) H 0 0 = ma_W d 102 Q 7 l (.ref i :: .ref i :: st) H 0 0 := wp_dup rfl rfl
theorem w102_6i : ma_W d 102 Q 6 l (.int x :: st) H 0 0 = ma_W d 102 Q 7 l (.int x :: .int x :: st) H 0 0 := wp_dup rfl rfl
theorem w102_7 : ma_W d 102 Q 7 l (.ref i :: st) H 0 0 = ma_gf (H.1 i) 7 8 (ma_kV d 102 Q 10 l st H 0 0) := wp_get rfl (by decide +kernel)
theorem w102_10 : ma_W d 102 Q 10 l st H 0 0 = ma_W d 102 Q 11 l (.int 1 :: st) H 0 0 := wp_iconst rfl (by decide)
theorem w102_11 : ma_W d 102 Q 11 l (.int y :: .int x :: st) H 0 0 = ma_W d 102 Q 12 l (.int (x + y) :: st) H 0 0 := wp_iadd rfl
theorem w102_12 : ma_W d 102 Q 12 l (.int x :: .ref i :: st) H 0 0 = ma_pf (H.1 i) 7 8 (.int x) (ma_kH d 102 Q 15 l st H i 0 0) := wp_put rfl (by decide +kernel) (by decide +kernel) rfl rfl
theorem w102_15 : ma_W d 102 Q 15 l st H 0 0 = ma_W d 102 Q 17 l (.int (-10) :: st) H 0 0 := wp_bipush rfl (by decide)
theorem w102_17 : ma_W d 102 Q 17 l [.int x] H 0 0 = Q (some (.int x)) H := wp_iret rfl rfl
theorem w102_18 : ma_W d 102 Q 18 (some (.ref i) :: l) st H 0 0 = ma_W d 102 Q 19 (some (.ref i) :: l) (.ref i :: st) H 0 0 := wp_aload_n (x := some i) rfl rfl
theorem w102_19 : ma_W d 102 Q 19 l (.ref i :: st) H 0 0 = ma_gf (H.1 i) 7 3 (ma_kV d 102 Q 22 l st H 0 0) := wp_get rfl (by decide +kernel)
theorem w102_22 : ma_W d 102 Q 22 (some (.ref i) :: l) st H 0 0 = ma_W d 102 Q 23 (some (.ref i) :: l) (.ref i :: st) H 0 0 := wp_aload_n (x := some i) rfl rfl
theorem w102_23 : ma_W d 102 Q 23 l (.ref i :: st) H 0 0 = ma_gf (H.1 i) 7 0 (ma_kV d 102 Q 26 l st H 0 0) := wp_get rfl (by decide +kernel)
theorem w102_26 : ma_W d 102 Q 26 l (.ref i :: st) H 0 0 = ma_gf (H.1 i) 0 0 (ma_kV d 102 Q 29 l st H 0 0) := wp_get rfl (by decide +kernel)
theorem w102_29 : ma_W d 102 Q 29 l (.ref i0 :: .ref i :: st) H 0 0 = (ma_cat st ≤ 8 ∧ ma_cv (H.1 i) 6 d 69 [.ref i, .ref i0] H (ma_kC d 102 Q 32 l st 0 0)) := wc_V0 (ia := 69) (n := 2) (cn := 6) rfl (by decide +kernel) (fun _ => rfl) rfl rfl
theorem w102_32 : ma_W d 102 Q 32 (o0 :: some (.int x) :: l) st H 0 0 = ma_W d 102 Q 33 (o0 :: some (.int x) :: l) (.int x :: st) H 0 0 := wp_iload_n rfl rfl
theorem w102_33 : ma_W d 102 Q 33 l st H 0 0 = ma_W d 102 Q 34 l (.int (-1) :: st) H 0 0 := wp_iconst rfl (by decide)
theorem w102_34 : ma_W d 102 Q 34 l (.int y :: .int x :: st) H 0 0 = ma_if (x = y) d 102 Q 37 47 l st H 0 0 := wp_ic (id := 102) (pc := 34) (c := .ne) (off := 13) 47 rfl (by decide)
theorem w102_37 : ma_W d 102 Q 37 (some (.ref i) :: l) st H 0 0 = ma_W d 102 Q 38 (some (.ref i) :: l) (.ref i :: st) H 0 0 := wp_aload_n (x := some i) rfl rfl
theorem w102_38 : ma_W d 102 Q 38 l (.ref i :: st) H 0 0 = ma_gf (H.1 i) 7 3 (ma_kV d 102 Q 41 l st H 0 0) := wp_get rfl (by decide +kernel)
theorem w102_41 : ma_W d 102 Q 41 l (.ref i :: st) H 0 0 = (ma_cat st ≤ 8 ∧ ma_cv (H.1 i) 6 d 70 [.ref i] H (ma_kC d 102 Q 44 l st 0 0)) := wc_V0 (ia := 70) (n := 1) (cn := 6) rfl (by decide +kernel) (fun _ => rfl) rfl rfl
theorem w102_44 : ma_W d 102 Q 44 l st H 0 0 = ma_W d 102 Q 55 l st H 0 0 := wp_goto 55 rfl (by decide)
theorem w102_47 : ma_W d 102 Q 47 (some (.ref i) :: l) st H 0 0 = ma_W d 102 Q 48 (some (.ref i) :: l) (.ref i :: st) H 0 0 := wp_aload_n (x := some i) rfl rfl
theorem w102_48 : ma_W d 102 Q 48 l (.ref i :: st) H 0 0 = ma_gf (H.1 i) 7 3 (ma_kV d 102 Q 51 l st H 0 0) := wp_get rfl (by decide +kernel)
theorem w102_51 : ma_W d 102 Q 51 (o0 :: some (.int x) :: l) st H 0 0 = ma_W d 102 Q 52 (o0 :: some (.int x) :: l) (.int x :: st) H 0 0 := wp_iload_n rfl rfl
theorem w102_52 : ma_W d 102 Q 52 l (.int x0 :: .ref i :: st) H 0 0 = (ma_cat st ≤ 8 ∧ ma_cv (H.1 i) 6 d 71 [.ref i, .int x0] H (ma_kC d 102 Q 55 l st 0 0)) := wc_V0 (ia := 71) (n := 2) (cn := 6) rfl (by decide +kernel) (fun _ => rfl) rfl rfl
theorem w102_55 : ma_W d 102 Q 55 l [.int x] H 0 0 = Q (some (.int x)) H := wp_iret rfl rfl
theorem e102 : ma_MW (d + 1) 102 [.ref i, .int x0] H Q = ma_W d 102 Q 0 [some (.ref i), some (.int x0)] [] H 0 0 := wp_enter (by decide) (Nat.le_of_ble_eq_true rfl) rfl
/-! 103 be_luck -/
theorem w103_0 : ma_W d 103 Q 0 (o0 :: some (.int x) :: l) st H 0 0 = ma_W d 103 Q 1 (o0 :: some (.int x) :: l) (.int x :: st) H 0 0 := wp_iload_n rfl rfl
theorem w103_1 : ma_W d 103 Q 1 l (.int x0 :: st) H 0 0 = (ma_cat st ≤ 8 ∧ ma_MW d 117 [.int x0] H (ma_kC d 103 Q 4 l st 0 0)) := wc_S0 (ia := 117) (n := 1) (cn := 7) (k := 1) rfl (by decide +kernel) (by decide) (fun _ => rfl) rfl rfl
theorem w103_4 : ma_W d 103 Q 4 l (.int x :: st) H 0 0 = ma_if (x = 0) d 103 Q 16 7 l st H 0 0 := wp_c0 (id := 103) (pc := 4) (c := .eq) (off := 12) 16 rfl (by decide)
theorem w103_7 : ma_W d 103 Q 7 (o0 :: o1 :: some (.int x) :: l) st H 0 0 = ma_W d 103 Q 8 (o0 :: o1 :: some (.int x) :: l) (.int x :: st) H 0 0 := wp_iload_n rfl rfl
theorem w103_8 : ma_W d 103 Q 8 l st H 0 0 = ma_W d 103 Q 9 l (.int 0 :: st) H 0 0 := wp_iconst rfl (by decide)
theorem w103_9 : ma_W d 103 Q 9 l st H 0 0 = ma_W d 103 Q 10 l (.int 5 :: st) H 0 0 := wp_iconst rfl (by decide)
theorem w103_10 : ma_W d 103 Q 10 l (.int x2 :: .int x1 :: .int x0 :: st) H 0 0 = (ma_cat st ≤ 8 ∧ ma_MW d 116 [.int x0, .int x1, .int x2] H (ma_kC d 103 Q 13 l st 0 0)) := wc_S0 (ia := 116) (n := 3) (cn := 7) (k := 1) rfl (by decide +kernel) (by decide) (fun _ => rfl) rfl rfl
theorem w103_13 : ma_W d 103 Q 13 l (.int x :: st) H 0 0 = ma_if (x = 0) d 103 Q 16 21 l st H 0 0 := wp_c0 (id := 103) (pc := 13) (c := .ne) (off := 8) 21 rfl (by decide)
theorem w103_16 : ma_W d 103 Q 16 (some (.ref i) :: l) st H 0 0 = ma_W d 103 Q 17 (some (.ref i) :: l) (.ref i :: st) H 0 0 := wp_aload_n (x := some i) rfl rfl
theorem w103_17 : ma_W d 103 Q 17 l (.ref i :: st) H 0 0 = (ma_cat st ≤ 8 ∧ ma_cv (H.1 i) 7 d 113 [.ref i] H (ma_kC d 103 Q 20 l st 0 0)) := wc_V0 (ia := 113) (n := 1) (cn := 7) rfl (by decide +kernel) (fun _ => rfl) rfl rfl
theorem w103_20 : ma_W d 103 Q 20 l [.int x] H 0 0 = Q (some (.int x)) H := wp_iret rfl rfl
theorem w103_21 : ma_W d 103 Q 21 (o0 :: o1 :: some (.int x) :: l) st H 0 0 = ma_W d 103 Q 22 (o0 :: o1 :: some (.int x) :: l) (.int x :: st) H 0 0 := wp_iload_n rfl rfl
theorem w103_22 : ma_W d 103 Q 22 (some (.ref i) :: l) st H 0 0 = ma_W d 103 Q 23 (some (.ref i) :: l) (.ref i :: st) H 0 0 := wp_aload_n (x := some i) rfl rfl
theorem w103_23 : ma_W d 103 Q 23 l (.ref i :: st) H 0 0 = ma_gf (H.1 i) 7 0 (ma_kV d 103 Q 26 l st H 0 0) := wp_get rfl (by decide +kernel)
theorem w103_26 : ma_W d 103 Q 26 l (.ref i :: st) H 0 0 = ma_gf (H.1 i) 0 0 (ma_kV d 103 Q 29 l st H 0 0) := wp_get rfl (by decide +kernel)
theorem w103_29 : ma_W d 103 Q 29 (o0 :: some (.int x) :: l) st H 0 0 = ma_W d 103 Q 30 (o0 :: some (.int x) :: l) (.int x :: st) H 0 0 := wp_iload_n rfl rfl
theorem w103_30 : ma_W d 103 Q 30 l (.int x0 :: .ref i :: st) H 0 0 = (ma_cat st ≤ 8 ∧ ma_cv (H.1 i) 4 d 37 [.ref i, .int x0] H (ma_kC d 103 Q 33 l st 0 0)) := wc_V0 (ia := 37) (n := 2) (cn := 4) rfl (by decide +kernel) (fun _ => rfl) rfl rfl
theorem w103_33 : ma_W d 103 Q 33 l (.long u0 :: st) H 0 0 = (ma_cat st ≤ 8 ∧ ma_MW d 202 [.long u0] H (ma_kC d 103 Q 36 l st 0 0)) := wc_S0 (ia := 202) (n := 1) (cn := 10) (k := 1) rfl (by decide +kernel) (by decide) (fun _ => rfl) rfl rfl
theorem w103_36 : ma_W d 103 Q 36 l (.int y :: .int x :: st) H 0 0 = (ma_cat st ≤ 8 ∧ ma_W d 103 Q 39 l (.int (if y < x then y else x) :: st) H 0 0) := wc_min (ia := 0) (n := 2) (cn := 0) rfl (by decide +kernel)
theorem w103_39 : ma_W d 103 Q 39 (o0 :: o1 :: o2 :: p :: l) (.int x :: st) H 0 0 = ma_W d 103 Q 40 (o0 :: o1 :: ma_clr o2 :: some (.int x) :: l) st H 0 0 := wp_istore_n (id := 103) (pc := 39) (k := 3) rfl (Nat.succ_lt_succ (Nat.succ_lt_succ (Nat.succ_lt_succ (Nat.zero_lt_succ _))))
theorem w103_40 : ma_W d 103 Q 40 (some (.ref i) :: l) st H 0 0 = ma_W d 103 Q 41 (some (.ref i) :: l) (.ref i :: st) H 0 0 := wp_aload_n (x := some i) rfl rfl
theorem w103_41 : ma_W d 103 Q 41 (some (.ref i) :: l) st H 0 0 = ma_W d 103 Q 42 (some (.ref i) :: l) (.ref i :: st) H 0 0 := wp_aload_n (x := some i) rfl rfl
theorem w103_42 : ma_W d 103 Q 42 l (.ref i :: st) H 0 0 = ma_gf (H.1 i) 7 3 (ma_kV d 103 Q 45 l st H 0 0) := wp_get rfl (by decide +kernel)
theorem w103_45 : ma_W d 103 Q 45 (some (.ref i) :: l) st H 0 0 = ma_W d 103 Q 46 (some (.ref i) :: l) (.ref i :: st) H 0 0 := wp_aload_n (x := some i) rfl rfl
theorem w103_46 : ma_W d 103 Q 46 l (.ref i :: st) H 0 0 = ma_gf (H.1 i) 7 0 (ma_kV d 103 Q 49 l st H 0 0) := wp_get rfl (by decide +kernel)
theorem w103_49 : ma_W d 103 Q 49 l (.ref i :: st) H 0 0 = ma_gf (H.1 i) 0 0 (ma_kV d 103 Q 52 l st H 0 0) := wp_get rfl (by decide +kernel)
theorem w103_52 : ma_W d 103 Q 52 (o0 :: some (.int x) :: l) st H 0 0 = ma_W d 103 Q 53 (o0 :: some (.int x) :: l) (.int x :: st) H 0 0 := wp_iload_n rfl rfl
theorem w103_53 : ma_W d 103 Q 53 (o0 :: o1 :: o2 :: some (.int x) :: l) st H 0 0 = ma_W d 103 Q 54 (o0 :: o1 :: o2 :: some (.int x) :: l) (.int x :: st) H 0 0 := wp_iload_n rfl rfl
theorem w103_54 : ma_W d 103 Q 54 l (.int x2 :: .int x1 :: .ref i0 :: .ref i :: st) H 0 0 = (ma_cat st ≤ 8 ∧ ma_cv (H.1 i) 6 d 74 [.ref i, .ref i0, .int x1, .int x2] H (ma_kC d 103 Q 57 l st 0 0)) := wc_V0 (ia := 74) (n := 4) (cn := 6) rfl (by decide +kernel) (fun _ => rfl) rfl rfl
theorem w103_57 : ma_W d 103 Q 57 (o0 :: o1 :: o2 :: some (.int x) :: l) st H 0 0 = ma_W d 103 Q 58 (o0 :: o1 :: o2 :: some (.int x) :: l) (.int x :: st) H 0 0 := wp_iload_n rfl rfl
theorem w103_58 : ma_W d 103 Q 58 l (.int x0 :: st) H 0 0 = (ma_cat st ≤ 8 ∧ ma_MW d 73 [.int x0] H (ma_kC d 103 Q 61 l st 0 0)) := wc_S0 (ia := 73) (n := 1) (cn := 6) (k := 1) rfl (by decide +kernel) (by decide) (fun _ => rfl) rfl rfl
theorem w103_61 : ma_W d 103 Q 61 l (.int x1 :: .int x0 :: .ref i :: st) H 0 0 = (ma_cat st ≤ 8 ∧ ma_cv (H.1 i) 7 d 112 [.ref i, .int x0, .int x1] H (ma_kC d 103 Q 64 l st 0 0)) := wc_V0 (ia := 112) (n := 3) (cn := 7) rfl (by decide +kernel) (fun _ => rfl) rfl rfl
theorem w103_64 : ma_W d 103 Q 64 l st H 0 0 = ma_W d 103 Q 65 l (.int 1 :: st) H 0 0 := wp_iconst rfl (by decide)
theorem w103_65 : ma_W d 103 Q 65 l [.int x] H 0 0 = Q (some (.int x)) H := wp_iret rfl rfl
theorem e103 : ma_MW (d + 1) 103 [.ref i, .int x0, .int x1] H Q = ma_W d 103 Q 0 [some (.ref i), some (.int x0), some (.int x1), none] [] H 0 0 := wp_enter (by decide) (Nat.le_of_ble_eq_true rfl) rfl
/-! 104 be_evenings -/
theorem w104_0 : ma_W d 104 Q 0 (o0 :: some (.int x) :: l) st H 0 0 = ma_W d 104 Q 1 (o0 :: some (.int x) :: l) (.int x :: st) H 0 0 := wp_iload_n rfl rfl
theorem w104_1 : ma_W d 104 Q 1 l st H 0 0 = ma_W d 104 Q 2 l (.int 0 :: st) H 0 0 := wp_iconst rfl (by decide)
theorem w104_2 : ma_W d 104 Q 2 l st H 0 0 = ma_W d 104 Q 5 l (.int 999999 :: st) H 0 0 := wp_ldcw rfl (by decide +kernel)
theorem w104_5 : ma_W d 104 Q 5 l (.int x2 :: .int x1 :: .int x0 :: st) H 0 0 = (ma_cat st ≤ 8 ∧ ma_MW d 116 [.int x0, .int x1, .int x2] H (ma_kC d 104 Q 8 l st 0 0)) := wc_S0 (ia := 116) (n := 3) (cn := 7) (k := 1) rfl (by decide +kernel) (by decide) (fun _ => rfl) rfl rfl
theorem w104_8 : ma_W d 104 Q 8 l (.int x :: st) H 0 0 = ma_if (x = 0) d 104 Q 21 11 l st H 0 0 := wp_c0 (id := 104) (pc := 8) (c := .eq) (off := 13) 21 rfl (by decide)
theorem w104_11 : ma_W d 104 Q 11 (o0 :: o1 :: some (.int x) :: l) st H 0 0 = ma_W d 104 Q 12 (o0 :: o1 :: some (.int x) :: l) (.int x :: st) H 0 0 := wp_iload_n rfl rfl
theorem w104_12 : ma_W d 104 Q 12 l st H 0 0 = ma_W d 104 Q 13 l (.int 0 :: st) H 0 0 := wp_iconst rfl (by decide)
theorem w104_13 : ma_W d 104 Q 13 l st H 0 0 = ma_W d 104 Q 15 l (.int 30 :: st) H 0 0 := wp_bipush rfl (by decide)
theorem w104_15 : ma_W d 104 Q 15 l (.int x2 :: .int x1 :: .int x0 :: st) H 0 0 = (ma_cat st ≤ 8 ∧ ma_MW d 116 [.int x0, .int x1, .int x2] H (ma_kC d 104 Q 18 l st 0 0)) := wc_S0 (ia := 116) (n := 3) (cn := 7) (k := 1) rfl (by decide +kernel) (by decide) (fun _ => rfl) rfl rfl
theorem w104_18 : ma_W d 104 Q 18 l (.int x :: st) H 0 0 = ma_if (x = 0) d 104 Q 21 26 l st H 0 0 := wp_c0 (id := 104) (pc := 18) (c := .ne) (off := 8) 26 rfl (by decide)
theorem w104_21 : ma_W d 104 Q 21 (some (.ref i) :: l) st H 0 0 = ma_W d 104 Q 22 (some (.ref i) :: l) (.ref i :: st) H 0 0 := wp_aload_n (x := some i) rfl rfl
theorem w104_22 : ma_W d 104 Q 22 l (.ref i :: st) H 0 0 = (ma_cat st ≤ 8 ∧ ma_cv (H.1 i) 7 d 113 [.ref i] H (ma_kC d 104 Q 25 l st 0 0)) := wc_V0 (ia := 113) (n := 1) (cn := 7) rfl (by decide +kernel) (fun _ => rfl) rfl rfl
theorem w104_25 : ma_W d 104 Q 25 l [.int x] H 0 0 = Q (some (.int x)) H := wp_iret rfl rfl
theorem w104_26 : ma_W d 104 Q 26 (some (.ref i) :: l) st H 0 0 = ma_W d 104 Q 27 (some (.ref i) :: l) (.ref i :: st) H 0 0 := wp_aload_n (x := some i) rfl rfl
theorem w104_27 : ma_W d 104 Q 27 l (.ref i :: st) H 0 0 = ma_gf (H.1 i) 7 3 (ma_kV d 104 Q 30 l st H 0 0) := wp_get rfl (by decide +kernel)
theorem w104_30 : ma_W d 104 Q 30 (some (.ref i) :: l) st H 0 0 = ma_W d 104 Q 31 (some (.ref i) :: l) (.ref i :: st) H 0 0 := wp_aload_n (x := some i) rfl rfl
theorem w104_31 : ma_W d 104 Q 31 l (.ref i :: st) H 0 0 = ma_gf (H.1 i) 7 0 (ma_kV d 104 Q 34 l st H 0 0) := wp_get rfl (by decide +kernel)
theorem w104_34 : ma_W d 104 Q 34 l (.ref i :: st) H 0 0 = ma_gf (H.1 i) 0 0 (ma_kV d 104 Q 37 l st H 0 0) := wp_get rfl (by decide +kernel)
theorem w104_37 : ma_W d 104 Q 37 (o0 :: some (.int x) :: l) st H 0 0 = ma_W d 104 Q 38 (o0 :: some (.int x) :: l) (.int x :: st) H 0 0 := wp_iload_n rfl rfl
theorem w104_38 : ma_W d 104 Q 38 (o0 :: o1 :: some (.int x) :: l) st H 0 0 = ma_W d 104 Q 39 (o0 :: o1 :: some (.int x) :: l) (.int x :: st) H 0 0 := wp_iload_n rfl rfl
theorem w104_39 : ma_W d 104 Q 39 l (.int x2 :: .int x1 :: .ref i0 :: .ref i :: st) H 0 0 = (ma_cat st ≤ 8 ∧ ma_cv (H.1 i) 6 d 75 [.ref i, .ref i0, .int x1, .int x2] H (ma_kC d 104 Q 42 l st 0 0)) := wc_V0 (ia := 75) (n := 4) (cn := 6) rfl (by decide +kernel) (fun _ => rfl) rfl rfl
theorem w104_42 : ma_W d 104 Q 42 l [.int x] H 0 0 = Q (some (.int x)) H := wp_iret rfl rfl
theorem e104 : ma_MW (d + 1) 104 [.ref i, .int x0, .int x1] H Q = ma_W d 104 Q 0 [some (.ref i), some (.int x0), some (.int x1)] [] H 0 0 := wp_enter (by decide) (Nat.le_of_ble_eq_true rfl) rfl
/-! 105 be_part -/
theorem w105_0 : ma_W d 105 Q 0 (o0 :: some (.int x) :: l) st H 0 0 = ma_W d 105 Q 1 (o0 :: some (.int x) :: l) (.int x :: st) H 0 0 := wp_iload_n rfl rfl
theorem w105_1 : ma_W d 105 Q 1 l st H 0 0 = ma_W d 105 Q 2 l (.int 0 :: st) H 0 0 := wp_iconst rfl (by decide)
theorem w105_2 : ma_W d 105 Q 2 l st H 0 0 = ma_W d 105 Q 3 l (.int 1 :: st) H 0 0 := wp_iconst rfl (by decide)
theorem w105_3 : ma_W d 105 Q 3 l (.int x2 :: .int x1 :: .int x0 :: st) H 0 0 = (ma_cat st ≤ 8 ∧ ma_MW d 116 [.int x0, .int x1, .int x2] H (ma_kC d 105 Q 6 l st 0 0)) := wc_S0 (ia := 116) (n := 3) (cn := 7) (k := 1) rfl (by decide +kernel) (by decide) (fun _ => rfl) rfl rfl
theorem w105_6 : ma_W d 105 Q 6 l (.int x :: st) H 0 0 = ma_if (x = 0) d 105 Q 9 15 l st H 0 0 := wp_c0 (id := 105) (pc := 6) (c := .ne) (off := 9) 15 rfl (by decide)
theorem w105_9 : ma_W d 105 Q 9 (some (.ref i) :: l) st H 0 0 = ma_W d 105 Q 10 (some (.ref i) :: l) (.ref i :: st) H 0 0 := wp_aload_n (x := some i) rfl rfl
theorem w105_10 : ma_W d 105 Q 10 l (.ref i :: st) H 0 0 = (ma_cat st ≤ 8 ∧ ma_cv (H.1 i) 7 d 113 [.ref i] H (ma_kC d 105 Q 13 l st 0 0)) := wc_V0 (ia := 113) (n := 1) (cn := 7) rfl (by decide +kernel) (fun _ => rfl) rfl rfl
theorem w105_13 : ma_W d 105 Q 13 l (.int x :: st) H 0 0 = ma_W d 105 Q 14 l (.long x.toInt64 :: st) H 0 0 := wp_i2l rfl
theorem w105_14 : ma_W d 105 Q 14 l [.long u] H 0 0 = Q (some (.long u)) H := wp_lret rfl rfl
theorem w105_15 : ma_W d 105 Q 15 (o0 :: some (.int x) :: l) st H 0 0 = ma_W d 105 Q 16 (o0 :: some (.int x) :: l) (.int x :: st) H 0 0 := wp_iload_n rfl rfl
theorem w105_16 : ma_W d 105 Q 16 l (.int x :: st) H 0 0 = ma_if (x = 0) d 105 Q 19 26 l st H 0 0 := wp_c0 (id := 105) (pc := 16) (c := .ne) (off := 10) 26 rfl (by decide)
theorem w105_19 : ma_W d 105 Q 19 (some (.ref i) :: l) st H 0 0 = ma_W d 105 Q 20 (some (.ref i) :: l) (.ref i :: st) H 0 0 := wp_aload_n (x := some i) rfl rfl
theorem w105_20 : ma_W d 105 Q 20 l (.ref i :: st) H 0 0 = ma_gf (H.1 i) 7 6 (ma_kV d 105 Q 23 l st H 0 0) := wp_get rfl (by decide +kernel)
theorem w105_23 : ma_W d 105 Q 23 l st H 0 0 = ma_W d 105 Q 30 l st H 0 0 := wp_goto 30 rfl (by decide)
theorem w105_26 : ma_W d 105 Q 26 (some (.ref i) :: l) st H 0 0 = ma_W d 105 Q 27 (some (.ref i) :: l) (.ref i :: st) H 0 0 := wp_aload_n (x := some i) rfl rfl
theorem w105_27 : ma_W d 105 Q 27 l (.ref i :: st) H 0 0 = ma_gf (H.1 i) 7 7 (ma_kV d 105 Q 30 l st H 0 0) := wp_get rfl (by decide +kernel)
theorem w105_30 : ma_W d 105 Q 30 l [.long u] H 0 0 = Q (some (.long u)) H := wp_lret rfl rfl
theorem e105 : ma_MW (d + 1) 105 [.ref i, .int x0] H Q = ma_W d 105 Q 0 [some (.ref i), some (.int x0)] [] H 0 0 := wp_enter (by decide) (Nat.le_of_ble_eq_true rfl) rfl
/-! 106 be_image -/
theorem w106_0 : ma_W d 106 Q 0 (o0 :: some (.int x) :: l) st H a b = ma_W d 106 Q 1 (o0 :: some (.int x) :: l) (.int x :: st) H a b := wp_iload_n rfl rfl
theorem w106_1 : ma_W d 106 Q 1 l st H a b = ma_W d 106 Q 2 l (.int 0 :: st) H a b := wp_iconst rfl (by decide)
theorem w106_2 : ma_W d 106 Q 2 (some (.ref i) :: l) st H a b = ma_W d 106 Q 3 (some (.ref i) :: l) (.ref i :: st) H a b := wp_aload_n (x := some i) rfl rfl
theorem w106_3 : ma_W d 106 Q 3 l (.ref i :: st) H a b = ma_gf (H.1 i) 7 2 (ma_kV d 106 Q 6 l st H a b) := wp_get rfl (by decide +kernel)
theorem w106_6 : ma_W d 106 Q 6 l (.ref i :: st) H a b = ma_al1 (H.1 i) (ma_kV d 106 Q 7 l st H a b) := wp_alen rfl
theorem w106_7 : ma_W d 106 Q 7 l st H a b = ma_W d 106 Q 8 l (.int 1 :: st) H a b := wp_iconst rfl (by decide)
theorem w106_8 : ma_W d 106 Q 8 l (.int y :: .int x :: st) H a b = ma_W d 106 Q 9 l (.int (x - y) :: st) H a b := wp_isub rfl
theorem w106_9 : ma_W d 106 Q 9 l (.int x2 :: .int x1 :: .int x0 :: st) H a b = (ma_cat st ≤ 8 ∧ a + 0 ≤ 22 ∧ b + 0 ≤ 163 ∧ ma_MW d 116 [.int x0, .int x1, .int x2] H (ma_kC d 106 Q 12 l st (a + 0) (b + 0))) := wc_S (ia := 116) (n := 3) (cn := 7) (k := 1) rfl (by decide +kernel) (by decide) (fun _ => rfl) rfl rfl
theorem w106_12 : ma_W d 106 Q 12 l (.int x :: st) H a b = ma_if (x = 0) d 106 Q 15 20 l st H a b := wp_c0 (id := 106) (pc := 12) (c := .ne) (off := 8) 20 rfl (by decide)
theorem w106_15 : ma_W d 106 Q 15 (some (.ref i) :: l) st H a b = ma_W d 106 Q 16 (some (.ref i) :: l) (.ref i :: st) H a b := wp_aload_n (x := some i) rfl rfl
theorem w106_16 : ma_W d 106 Q 16 l (.ref i :: st) H a b = (ma_cat st ≤ 8 ∧ a + 0 ≤ 22 ∧ b + 0 ≤ 163 ∧ ma_cv (H.1 i) 7 d 113 [.ref i] H (ma_kC d 106 Q 19 l st (a + 0) (b + 0))) := wc_V (ia := 113) (n := 1) (cn := 7) rfl (by decide +kernel) (fun _ => rfl) rfl rfl
theorem w106_19 : ma_W d 106 Q 19 l [.int x] H a b = Q (some (.int x)) H := wp_iret rfl rfl
theorem w106_20 : ma_W d 106 Q 20 (some (.ref i) :: l) st H a b = ma_W d 106 Q 21 (some (.ref i) :: l) (.ref i :: st) H a b := wp_aload_n (x := some i) rfl rfl
theorem w106_21 : ma_W d 106 Q 21 l (.ref i :: st) H a b = ma_gf (H.1 i) 7 2 (ma_kV d 106 Q 24 l st H a b) := wp_get rfl (by decide +kernel)
theorem w106_24 : ma_W d 106 Q 24 (o0 :: some (.int x) :: l) st H a b = ma_W d 106 Q 25 (o0 :: some (.int x) :: l) (.int x :: st) H a b := wp_iload_n rfl rfl
theorem w106_25 : ma_W d 106 Q 25 l (.int x :: .ref i :: st) H a b = ma_ral (H.1 i) x (ma_kV d 106 Q 26 l st H a b) := wp_aald rfl
theorem w106_26 : ma_W d 106 Q 26 (o0 :: o1 :: p :: l) (.ref i :: st) H a b = ma_W d 106 Q 27 (o0 :: ma_clr o1 :: some (.ref i) :: l) st H a b := wp_astore_n (id := 106) (pc := 26) (k := 2) rfl (Nat.succ_lt_succ (Nat.succ_lt_succ (Nat.zero_lt_succ _)))
theorem w106_26n : ma_W d 106 Q 26 (o0 :: o1 :: p :: l) (.null :: st) H a b = ma_W d 106 Q 27 (o0 :: ma_clr o1 :: some .null :: l) st H a b := wp_astore_nN (id := 106) (pc := 26) (k := 2) rfl (Nat.succ_lt_succ (Nat.succ_lt_succ (Nat.zero_lt_succ _)))
theorem w106_27 : ma_W d 106 Q 27 (o0 :: o1 :: some (.ref i) :: l) st H a b = ma_W d 106 Q 28 (o0 :: o1 :: some (.ref i) :: l) (.ref i :: st) H a b := wp_aload_n (x := some i) rfl rfl
theorem w106_27n : ma_W d 106 Q 27 (o0 :: o1 :: some .null :: l) st H a b = ma_W d 106 Q 28 (o0 :: o1 :: some .null :: l) (.null :: st) H a b := wp_aload_n (x := none) rfl rfl
theorem w106_28 : ma_W d 106 Q 28 l (.ref i :: st) H a b = ma_W d 106 Q 46 l st H a b := wp_nonnullR 46 rfl (by decide)
theorem w106_28n : ma_W d 106 Q 28 l (.null :: st) H a b = ma_W d 106 Q 31 l st H a b := wp_nonnullN 46 rfl (by decide)
theorem w106_31 : ma_W d 106 Q 31 l st H a b = (a + 1 ≤ 22 ∧ b + 4 ≤ 163 ∧ ma_W d 106 Q 34 l (.ref H.2 :: st) (ma_new H (.inr (0, [.null, .null, .null, .null]))) (a + 1) (b + 4)) := wp_new rfl (by decide +kernel) rfl rfl rfl rfl
theorem w106_34 : ma_W d 106 Q 34 l (.ref i :: st) H a b = ma_W d 106 Q 35 l (.ref i :: .ref i :: st) H a b := wp_dup rfl rfl
theorem w106_34i : ma_W d 106 Q 34 l (.int x :: st) H a b = ma_W d 106 Q 35 l (.int x :: .int x :: st) H a b := wp_dup rfl rfl
theorem w106_35 : ma_W d 106 Q 35 l (.ref i :: st) H a b = (ma_cat st ≤ 8 ∧ a + 21 ≤ 22 ∧ b + 159 ≤ 163 ∧ ma_MW d 0 [.ref i] H (ma_kC d 106 Q 38 l st (a + 21) (b + 159))) := wc_I (ia := 0) (n := 1) (cn := 0) (k := 4) rfl (by decide +kernel) (by decide) (fun _ => rfl) rfl rfl rfl
theorem w106_38 : ma_W d 106 Q 38 (o0 :: o1 :: p :: l) (.ref i :: st) H a b = ma_W d 106 Q 39 (o0 :: ma_clr o1 :: some (.ref i) :: l) st H a b := wp_astore_n (id := 106) (pc := 38) (k := 2) rfl (Nat.succ_lt_succ (Nat.succ_lt_succ (Nat.zero_lt_succ _)))
theorem w106_38n : ma_W d 106 Q 38 (o0 :: o1 :: p :: l) (.null :: st) H a b = ma_W d 106 Q 39 (o0 :: ma_clr o1 :: some .null :: l) st H a b := wp_astore_nN (id := 106) (pc := 38) (k := 2) rfl (Nat.succ_lt_succ (Nat.succ_lt_succ (Nat.zero_lt_succ _)))
theorem w106_39 : ma_W d 106 Q 39 (some (.ref i) :: l) st H a b = ma_W d 106 Q 40 (some (.ref i) :: l) (.ref i :: st) H a b := wp_aload_n (x := some i) rfl rfl
theorem w106_40 : ma_W d 106 Q 40 l (.ref i :: st) H a b = ma_gf (H.1 i) 7 2 (ma_kV d 106 Q 43 l st H a b) := wp_get rfl (by decide +kernel)
theorem w106_43 : ma_W d 106 Q 43 (o0 :: some (.int x) :: l) st H a b = ma_W d 106 Q 44 (o0 :: some (.int x) :: l) (.int x :: st) H a b := wp_iload_n rfl rfl
theorem w106_44 : ma_W d 106 Q 44 (o0 :: o1 :: some (.ref i) :: l) st H a b = ma_W d 106 Q 45 (o0 :: o1 :: some (.ref i) :: l) (.ref i :: st) H a b := wp_aload_n (x := some i) rfl rfl
theorem w106_44n : ma_W d 106 Q 44 (o0 :: o1 :: some .null :: l) st H a b = ma_W d 106 Q 45 (o0 :: o1 :: some .null :: l) (.null :: st) H a b := wp_aload_n (x := none) rfl rfl
theorem w106_45 : ma_W d 106 Q 45 l (.ref j :: .int x :: .ref i :: st) H a b = ma_ras (H.1 i) (H.1 j) x j (ma_kH d 106 Q 46 l st H i a b) := wp_aast rfl
theorem w106_46 : ma_W d 106 Q 46 (o0 :: o1 :: some (.ref i) :: l) st H a b = ma_W d 106 Q 47 (o0 :: o1 :: some (.ref i) :: l) (.ref i :: st) H a b := wp_aload_n (x := some i) rfl rfl
theorem w106_46n : ma_W d 106 Q 46 (o0 :: o1 :: some .null :: l) st H a b = ma_W d 106 Q 47 (o0 :: o1 :: some .null :: l) (.null :: st) H a b := wp_aload_n (x := none) rfl rfl
theorem w106_47 : ma_W d 106 Q 47 (some (.ref i) :: l) st H a b = ma_W d 106 Q 48 (some (.ref i) :: l) (.ref i :: st) H a b := wp_aload_n (x := some i) rfl rfl
theorem w106_48 : ma_W d 106 Q 48 l (.ref i :: st) H a b = ma_gf (H.1 i) 7 0 (ma_kV d 106 Q 51 l st H a b) := wp_get rfl (by decide +kernel)
theorem w106_51 : ma_W d 106 Q 51 l (.ref i0 :: .ref i :: st) H a b = (ma_cat st ≤ 8 ∧ a + 0 ≤ 22 ∧ b + 0 ≤ 163 ∧ ma_cv (H.1 i) 0 d 4 [.ref i, .ref i0] H (ma_kC d 106 Q 54 l st (a + 0) (b + 0))) := wc_V (ia := 4) (n := 2) (cn := 0) rfl (by decide +kernel) (fun _ => rfl) rfl rfl
theorem w106_54 : ma_W d 106 Q 54 l st H a b = ma_W d 106 Q 55 l (.int 1 :: st) H a b := wp_iconst rfl (by decide)
theorem w106_55 : ma_W d 106 Q 55 l [.int x] H a b = Q (some (.int x)) H := wp_iret rfl rfl
theorem e106 : ma_MW (d + 1) 106 [.ref i, .int x0] H Q = ma_W d 106 Q 0 [some (.ref i), some (.int x0), none] [] H 0 0 := wp_enter (by decide) (Nat.le_of_ble_eq_true rfl) rfl
/-! 107 be_from -/
theorem w107_0 : ma_W d 107 Q 0 (o0 :: some (.int x) :: l) st H 0 0 = ma_W d 107 Q 1 (o0 :: some (.int x) :: l) (.int x :: st) H 0 0 := wp_iload_n rfl rfl
theorem w107_1 : ma_W d 107 Q 1 l st H 0 0 = ma_W d 107 Q 2 l (.int 0 :: st) H 0 0 := wp_iconst rfl (by decide)
theorem w107_2 : ma_W d 107 Q 2 (some (.ref i) :: l) st H 0 0 = ma_W d 107 Q 3 (some (.ref i) :: l) (.ref i :: st) H 0 0 := wp_aload_n (x := some i) rfl rfl
theorem w107_3 : ma_W d 107 Q 3 l (.ref i :: st) H 0 0 = ma_gf (H.1 i) 7 2 (ma_kV d 107 Q 6 l st H 0 0) := wp_get rfl (by decide +kernel)
theorem w107_6 : ma_W d 107 Q 6 l (.ref i :: st) H 0 0 = ma_al1 (H.1 i) (ma_kV d 107 Q 7 l st H 0 0) := wp_alen rfl
theorem w107_7 : ma_W d 107 Q 7 l st H 0 0 = ma_W d 107 Q 8 l (.int 1 :: st) H 0 0 := wp_iconst rfl (by decide)
theorem w107_8 : ma_W d 107 Q 8 l (.int y :: .int x :: st) H 0 0 = ma_W d 107 Q 9 l (.int (x - y) :: st) H 0 0 := wp_isub rfl
theorem w107_9 : ma_W d 107 Q 9 l (.int x2 :: .int x1 :: .int x0 :: st) H 0 0 = (ma_cat st ≤ 8 ∧ ma_MW d 116 [.int x0, .int x1, .int x2] H (ma_kC d 107 Q 12 l st 0 0)) := wc_S0 (ia := 116) (n := 3) (cn := 7) (k := 1) rfl (by decide +kernel) (by decide) (fun _ => rfl) rfl rfl
theorem w107_12 : ma_W d 107 Q 12 l (.int x :: st) H 0 0 = ma_if (x = 0) d 107 Q 15 20 l st H 0 0 := wp_c0 (id := 107) (pc := 12) (c := .ne) (off := 8) 20 rfl (by decide)
theorem w107_15 : ma_W d 107 Q 15 (some (.ref i) :: l) st H 0 0 = ma_W d 107 Q 16 (some (.ref i) :: l) (.ref i :: st) H 0 0 := wp_aload_n (x := some i) rfl rfl
theorem w107_16 : ma_W d 107 Q 16 l (.ref i :: st) H 0 0 = (ma_cat st ≤ 8 ∧ ma_cv (H.1 i) 7 d 113 [.ref i] H (ma_kC d 107 Q 19 l st 0 0)) := wc_V0 (ia := 113) (n := 1) (cn := 7) rfl (by decide +kernel) (fun _ => rfl) rfl rfl
theorem w107_19 : ma_W d 107 Q 19 l [.int x] H 0 0 = Q (some (.int x)) H := wp_iret rfl rfl
theorem w107_20 : ma_W d 107 Q 20 (some (.ref i) :: l) st H 0 0 = ma_W d 107 Q 21 (some (.ref i) :: l) (.ref i :: st) H 0 0 := wp_aload_n (x := some i) rfl rfl
theorem w107_21 : ma_W d 107 Q 21 l (.ref i :: st) H 0 0 = ma_gf (H.1 i) 7 2 (ma_kV d 107 Q 24 l st H 0 0) := wp_get rfl (by decide +kernel)
theorem w107_24 : ma_W d 107 Q 24 (o0 :: some (.int x) :: l) st H 0 0 = ma_W d 107 Q 25 (o0 :: some (.int x) :: l) (.int x :: st) H 0 0 := wp_iload_n rfl rfl
theorem w107_25 : ma_W d 107 Q 25 l (.int x :: .ref i :: st) H 0 0 = ma_ral (H.1 i) x (ma_kV d 107 Q 26 l st H 0 0) := wp_aald rfl
theorem w107_26 : ma_W d 107 Q 26 (o0 :: o1 :: p :: l) (.ref i :: st) H 0 0 = ma_W d 107 Q 27 (o0 :: ma_clr o1 :: some (.ref i) :: l) st H 0 0 := wp_astore_n (id := 107) (pc := 26) (k := 2) rfl (Nat.succ_lt_succ (Nat.succ_lt_succ (Nat.zero_lt_succ _)))
theorem w107_26n : ma_W d 107 Q 26 (o0 :: o1 :: p :: l) (.null :: st) H 0 0 = ma_W d 107 Q 27 (o0 :: ma_clr o1 :: some .null :: l) st H 0 0 := wp_astore_nN (id := 107) (pc := 26) (k := 2) rfl (Nat.succ_lt_succ (Nat.succ_lt_succ (Nat.zero_lt_succ _)))
theorem w107_27 : ma_W d 107 Q 27 (o0 :: o1 :: some (.ref i) :: l) st H 0 0 = ma_W d 107 Q 28 (o0 :: o1 :: some (.ref i) :: l) (.ref i :: st) H 0 0 := wp_aload_n (x := some i) rfl rfl
theorem w107_27n : ma_W d 107 Q 27 (o0 :: o1 :: some .null :: l) st H 0 0 = ma_W d 107 Q 28 (o0 :: o1 :: some .null :: l) (.null :: st) H 0 0 := wp_aload_n (x := none) rfl rfl
theorem w107_28 : ma_W d 107 Q 28 l (.ref i :: st) H 0 0 = ma_W d 107 Q 36 l st H 0 0 := wp_nonnullR 36 rfl (by decide)
theorem w107_28n : ma_W d 107 Q 28 l (.null :: st) H 0 0 = ma_W d 107 Q 31 l st H 0 0 := wp_nonnullN 36 rfl (by decide)
theorem w107_31 : ma_W d 107 Q 31 (some (.ref i) :: l) st H 0 0 = ma_W d 107 Q 32 (some (.ref i) :: l) (.ref i :: st) H 0 0 := wp_aload_n (x := some i) rfl rfl
theorem w107_32 : ma_W d 107 Q 32 l (.ref i :: st) H 0 0 = (ma_cat st ≤ 8 ∧ ma_cv (H.1 i) 7 d 114 [.ref i] H (ma_kC d 107 Q 35 l st 0 0)) := wc_V0 (ia := 114) (n := 1) (cn := 7) rfl (by decide +kernel) (fun _ => rfl) rfl rfl
theorem w107_35 : ma_W d 107 Q 35 l [.int x] H 0 0 = Q (some (.int x)) H := wp_iret rfl rfl
theorem w107_36 : ma_W d 107 Q 36 (some (.ref i) :: l) st H 0 0 = ma_W d 107 Q 37 (some (.ref i) :: l) (.ref i :: st) H 0 0 := wp_aload_n (x := some i) rfl rfl
theorem w107_37 : ma_W d 107 Q 37 l (.ref i :: st) H 0 0 = ma_gf (H.1 i) 7 0 (ma_kV d 107 Q 40 l st H 0 0) := wp_get rfl (by decide +kernel)
theorem w107_40 : ma_W d 107 Q 40 (o0 :: o1 :: some (.ref i) :: l) st H 0 0 = ma_W d 107 Q 41 (o0 :: o1 :: some (.ref i) :: l) (.ref i :: st) H 0 0 := wp_aload_n (x := some i) rfl rfl
theorem w107_40n : ma_W d 107 Q 40 (o0 :: o1 :: some .null :: l) st H 0 0 = ma_W d 107 Q 41 (o0 :: o1 :: some .null :: l) (.null :: st) H 0 0 := wp_aload_n (x := none) rfl rfl
theorem w107_41 : ma_W d 107 Q 41 l (.ref i0 :: .ref i :: st) H 0 0 = (ma_cat st ≤ 8 ∧ ma_cv (H.1 i) 0 d 4 [.ref i, .ref i0] H (ma_kC d 107 Q 44 l st 0 0)) := wc_V0 (ia := 4) (n := 2) (cn := 0) rfl (by decide +kernel) (fun _ => rfl) rfl rfl
theorem w107_44 : ma_W d 107 Q 44 l st H 0 0 = ma_W d 107 Q 45 l (.int 1 :: st) H 0 0 := wp_iconst rfl (by decide)
theorem w107_45 : ma_W d 107 Q 45 l [.int x] H 0 0 = Q (some (.int x)) H := wp_iret rfl rfl
theorem e107 : ma_MW (d + 1) 107 [.ref i, .int x0] H Q = ma_W d 107 Q 0 [some (.ref i), some (.int x0), none] [] H 0 0 := wp_enter (by decide) (Nat.le_of_ble_eq_true rfl) rfl
/-! 108 be_status -/
theorem w108_0 : ma_W d 108 Q 0 (o0 :: some (.int x) :: l) st H 0 0 = ma_W d 108 Q 1 (o0 :: some (.int x) :: l) (.int x :: st) H 0 0 := wp_iload_n rfl rfl
theorem w108_1 : ma_W d 108 Q 1 l (.int x :: st) H 0 0 = ma_sw x 0 [28, 33, 38] 43 d 108 Q l st H 0 0 := wp_switch _ _ rfl (by decide) (by decide +kernel) (by decide)
theorem w108_28 : ma_W d 108 Q 28 (some (.ref i) :: l) st H 0 0 = ma_W d 108 Q 29 (some (.ref i) :: l) (.ref i :: st) H 0 0 := wp_aload_n (x := some i) rfl rfl
theorem w108_29 : ma_W d 108 Q 29 l (.ref i :: st) H 0 0 = ma_gf (H.1 i) 7 8 (ma_kV d 108 Q 32 l st H 0 0) := wp_get rfl (by decide +kernel)
theorem w108_32 : ma_W d 108 Q 32 l [.int x] H 0 0 = Q (some (.int x)) H := wp_iret rfl rfl
theorem w108_33 : ma_W d 108 Q 33 (some (.ref i) :: l) st H 0 0 = ma_W d 108 Q 34 (some (.ref i) :: l) (.ref i :: st) H 0 0 := wp_aload_n (x := some i) rfl rfl
theorem w108_34 : ma_W d 108 Q 34 l (.ref i :: st) H 0 0 = ma_gf (H.1 i) 7 9 (ma_kV d 108 Q 37 l st H 0 0) := wp_get rfl (by decide +kernel)
theorem w108_37 : ma_W d 108 Q 37 l [.int x] H 0 0 = Q (some (.int x)) H := wp_iret rfl rfl
theorem w108_38 : ma_W d 108 Q 38 (some (.ref i) :: l) st H 0 0 = ma_W d 108 Q 39 (some (.ref i) :: l) (.ref i :: st) H 0 0 := wp_aload_n (x := some i) rfl rfl
theorem w108_39 : ma_W d 108 Q 39 l (.ref i :: st) H 0 0 = ma_gf (H.1 i) 7 10 (ma_kV d 108 Q 42 l st H 0 0) := wp_get rfl (by decide +kernel)
theorem w108_42 : ma_W d 108 Q 42 l [.int x] H 0 0 = Q (some (.int x)) H := wp_iret rfl rfl
theorem w108_43 : ma_W d 108 Q 43 (some (.ref i) :: l) st H 0 0 = ma_W d 108 Q 44 (some (.ref i) :: l) (.ref i :: st) H 0 0 := wp_aload_n (x := some i) rfl rfl
theorem w108_44 : ma_W d 108 Q 44 l (.ref i :: st) H 0 0 = ma_W d 108 Q 45 l (.ref i :: .ref i :: st) H 0 0 := wp_dup rfl rfl
theorem w108_44i : ma_W d 108 Q 44 l (.int x :: st) H 0 0 = ma_W d 108 Q 45 l (.int x :: .int x :: st) H 0 0 := wp_dup rfl rfl
theorem w108_45 : ma_W d 108 Q 45 l (.ref i :: st) H 0 0 = ma_gf (H.1 i) 7 8 (ma_kV d 108 Q 48 l st H 0 0) := wp_get rfl (by decide +kernel)
theorem w108_48 : ma_W d 108 Q 48 l st H 0 0 = ma_W d 108 Q 49 l (.int 1 :: st) H 0 0 := wp_iconst rfl (by decide)
theorem w108_49 : ma_W d 108 Q 49 l (.int y :: .int x :: st) H 0 0 = ma_W d 108 Q 50 l (.int (x + y) :: st) H 0 0 := wp_iadd rfl
theorem w108_50 : ma_W d 108 Q 50 l (.int x :: .ref i :: st) H 0 0 = ma_pf (H.1 i) 7 8 (.int x) (ma_kH d 108 Q 53 l st H i 0 0) := wp_put rfl (by decide +kernel) (by decide +kernel) rfl rfl
theorem w108_53 : ma_W d 108 Q 53 l st H 0 0 = ma_W d 108 Q 54 l (.int (-1) :: st) H 0 0 := wp_iconst rfl (by decide)
theorem w108_54 : ma_W d 108 Q 54 l [.int x] H 0 0 = Q (some (.int x)) H := wp_iret rfl rfl
theorem e108 : ma_MW (d + 1) 108 [.ref i, .int x0] H Q = ma_W d 108 Q 0 [some (.ref i), some (.int x0)] [] H 0 0 := wp_enter (by decide) (Nat.le_of_ble_eq_true rfl) rfl
/-! 109 be_count -/
theorem w109_0 : ma_W d 109 Q 0 (o0 :: some (.int x) :: l) st H 0 0 = ma_W d 109 Q 1 (o0 :: some (.int x) :: l) (.int x :: st) H 0 0 := wp_iload_n rfl rfl
theorem w109_1 : ma_W d 109 Q 1 l st H 0 0 = ma_W d 109 Q 2 l (.int 0 :: st) H 0 0 := wp_iconst rfl (by decide)
theorem w109_2 : ma_W d 109 Q 2 l st H 0 0 = ma_W d 109 Q 4 l (.int 13 :: st) H 0 0 := wp_bipush rfl (by decide)
theorem w109_4 : ma_W d 109 Q 4 l (.int x2 :: .int x1 :: .int x0 :: st) H 0 0 = (ma_cat st ≤ 8 ∧ ma_MW d 116 [.int x0, .int x1, .int x2] H (ma_kC d 109 Q 7 l st 0 0)) := wc_S0 (ia := 116) (n := 3) (cn := 7) (k := 1) rfl (by decide +kernel) (by decide) (fun _ => rfl) rfl rfl
theorem w109_7 : ma_W d 109 Q 7 l (.int x :: st) H 0 0 = ma_if (x = 0) d 109 Q 10 15 l st H 0 0 := wp_c0 (id := 109) (pc := 7) (c := .ne) (off := 8) 15 rfl (by decide)
theorem w109_10 : ma_W d 109 Q 10 (some (.ref i) :: l) st H 0 0 = ma_W d 109 Q 11 (some (.ref i) :: l) (.ref i :: st) H 0 0 := wp_aload_n (x := some i) rfl rfl
theorem w109_11 : ma_W d 109 Q 11 l (.ref i :: st) H 0 0 = (ma_cat st ≤ 8 ∧ ma_cv (H.1 i) 7 d 113 [.ref i] H (ma_kC d 109 Q 14 l st 0 0)) := wc_V0 (ia := 113) (n := 1) (cn := 7) rfl (by decide +kernel) (fun _ => rfl) rfl rfl
theorem w109_14 : ma_W d 109 Q 14 l [.int x] H 0 0 = Q (some (.int x)) H := wp_iret rfl rfl
theorem w109_15 : ma_W d 109 Q 15 (some (.ref i) :: l) st H 0 0 = ma_W d 109 Q 16 (some (.ref i) :: l) (.ref i :: st) H 0 0 := wp_aload_n (x := some i) rfl rfl
theorem w109_16 : ma_W d 109 Q 16 (o0 :: some (.int x) :: l) st H 0 0 = ma_W d 109 Q 17 (o0 :: some (.int x) :: l) (.int x :: st) H 0 0 := wp_iload_n rfl rfl
theorem w109_17 : ma_W d 109 Q 17 l (.int x0 :: .ref i :: st) H 0 0 = (ma_cat st ≤ 8 ∧ ma_cv (H.1 i) 7 d 111 [.ref i, .int x0] H (ma_kC d 109 Q 20 l st 0 0)) := wc_V0 (ia := 111) (n := 2) (cn := 7) rfl (by decide +kernel) (fun _ => rfl) rfl rfl
theorem w109_20 : ma_W d 109 Q 20 l [.int x] H 0 0 = Q (some (.int x)) H := wp_iret rfl rfl
theorem e109 : ma_MW (d + 1) 109 [.ref i, .int x0] H Q = ma_W d 109 Q 0 [some (.ref i), some (.int x0)] [] H 0 0 := wp_enter (by decide) (Nat.le_of_ble_eq_true rfl) rfl
/-! 110 be_digest -/
theorem w110_0 : ma_W d 110 Q 0 l st H 0 0 = ma_W d 110 Q 3 l (.long 1871 :: st) H 0 0 := wp_ldc2 rfl (by decide +kernel)
theorem w110_3 : ma_W d 110 Q 3 (o0 :: p :: q :: l) (.long u :: st) H 0 0 = ma_W d 110 Q 4 (ma_clr o0 :: some (.long u) :: none :: l) st H 0 0 := wp_lstore_n (id := 110) (pc := 3) (k := 1) rfl (Nat.succ_lt_succ (Nat.succ_lt_succ (Nat.zero_lt_succ _)))
theorem w110_4 : ma_W d 110 Q 4 l st H 0 0 = ma_W d 110 Q 5 l (.int 0 :: st) H 0 0 := wp_iconst rfl (by decide)
theorem w110_5 : ma_W d 110 Q 5 (o0 :: o1 :: o2 :: p :: l) (.int x :: st) H 0 0 = ma_W d 110 Q 6 (o0 :: o1 :: ma_clr o2 :: some (.int x) :: l) st H 0 0 := wp_istore_n (id := 110) (pc := 5) (k := 3) rfl (Nat.succ_lt_succ (Nat.succ_lt_succ (Nat.succ_lt_succ (Nat.zero_lt_succ _))))
theorem w110_6 : ma_W d 110 Q 6 (o0 :: o1 :: o2 :: some (.int x) :: l) st H 0 0 = ma_W d 110 Q 7 (o0 :: o1 :: o2 :: some (.int x) :: l) (.int x :: st) H 0 0 := wp_iload_n rfl rfl
theorem w110_7 : ma_W d 110 Q 7 l st H 0 0 = ma_W d 110 Q 9 l (.int 13 :: st) H 0 0 := wp_bipush rfl (by decide)
theorem w110_9 : ma_W d 110 Q 9 l (.int y :: .int x :: st) H 0 0 = ma_if (y < x) d 110 Q 31 12 l st H 0 0 := wp_ic (id := 110) (pc := 9) (c := .gt) (off := 22) 31 rfl (by decide)
theorem w110_12 : ma_W d 110 Q 12 l st H 0 0 = ma_W d 110 Q 15 l (.long 31 :: st) H 0 0 := wp_ldc2 rfl (by decide +kernel)
theorem w110_15 : ma_W d 110 Q 15 (o0 :: some (.long u) :: l) st H 0 0 = ma_W d 110 Q 16 (o0 :: some (.long u) :: l) (.long u :: st) H 0 0 := wp_lload_n rfl rfl
theorem w110_16 : ma_W d 110 Q 16 l (.long v :: .long u :: st) H 0 0 = ma_W d 110 Q 17 l (.long (u * v) :: st) H 0 0 := wp_lmul rfl
theorem w110_17 : ma_W d 110 Q 17 (some (.ref i) :: l) st H 0 0 = ma_W d 110 Q 18 (some (.ref i) :: l) (.ref i :: st) H 0 0 := wp_aload_n (x := some i) rfl rfl
theorem w110_18 : ma_W d 110 Q 18 (o0 :: o1 :: o2 :: some (.int x) :: l) st H 0 0 = ma_W d 110 Q 19 (o0 :: o1 :: o2 :: some (.int x) :: l) (.int x :: st) H 0 0 := wp_iload_n rfl rfl
theorem w110_19 : ma_W d 110 Q 19 l (.int x0 :: .ref i :: st) H 0 0 = (ma_cat st ≤ 8 ∧ ma_cv (H.1 i) 7 d 111 [.ref i, .int x0] H (ma_kC d 110 Q 22 l st 0 0)) := wc_V0 (ia := 111) (n := 2) (cn := 7) rfl (by decide +kernel) (fun _ => rfl) rfl rfl
theorem w110_22 : ma_W d 110 Q 22 l (.int x :: st) H 0 0 = ma_W d 110 Q 23 l (.long x.toInt64 :: st) H 0 0 := wp_i2l rfl
theorem w110_23 : ma_W d 110 Q 23 l (.long v :: .long u :: st) H 0 0 = ma_W d 110 Q 24 l (.long (u + v) :: st) H 0 0 := wp_ladd rfl
theorem w110_24 : ma_W d 110 Q 24 (o0 :: p :: q :: l) (.long u :: st) H 0 0 = ma_W d 110 Q 25 (ma_clr o0 :: some (.long u) :: none :: l) st H 0 0 := wp_lstore_n (id := 110) (pc := 24) (k := 1) rfl (Nat.succ_lt_succ (Nat.succ_lt_succ (Nat.zero_lt_succ _)))
theorem w110_25 : ma_W d 110 Q 25 (o0 :: o1 :: o2 :: some (.int x) :: l) st H 0 0 = ma_W d 110 Q 28 (o0 :: o1 :: ma_clr o2 :: some (.int (x + 1)) :: l) st H 0 0 := wp_iinc (id := 110) (pc := 25) (k := 3) (n := 1) rfl (Nat.succ_lt_succ (Nat.succ_lt_succ (Nat.succ_lt_succ (Nat.zero_lt_succ _)))) rfl (by decide)
theorem w110_28 : ma_W d 110 Q 28 l st H 0 0 = ma_W d 110 Q 6 l st H 0 0 := wp_goto 6 rfl (by decide)
theorem w110_31 : ma_W d 110 Q 31 l st H 0 0 = ma_W d 110 Q 32 l (.int 0 :: st) H 0 0 := wp_iconst rfl (by decide)
theorem w110_32 : ma_W d 110 Q 32 (o0 :: o1 :: o2 :: p :: l) (.int x :: st) H 0 0 = ma_W d 110 Q 33 (o0 :: o1 :: ma_clr o2 :: some (.int x) :: l) st H 0 0 := wp_istore_n (id := 110) (pc := 32) (k := 3) rfl (Nat.succ_lt_succ (Nat.succ_lt_succ (Nat.succ_lt_succ (Nat.zero_lt_succ _))))
theorem w110_33 : ma_W d 110 Q 33 (o0 :: o1 :: o2 :: some (.int x) :: l) st H 0 0 = ma_W d 110 Q 34 (o0 :: o1 :: o2 :: some (.int x) :: l) (.int x :: st) H 0 0 := wp_iload_n rfl rfl
theorem w110_34 : ma_W d 110 Q 34 l st H 0 0 = ma_W d 110 Q 35 l (.int 2 :: st) H 0 0 := wp_iconst rfl (by decide)
theorem w110_35 : ma_W d 110 Q 35 l (.int y :: .int x :: st) H 0 0 = ma_if (y < x) d 110 Q 60 38 l st H 0 0 := wp_ic (id := 110) (pc := 35) (c := .gt) (off := 25) 60 rfl (by decide)
theorem w110_38 : ma_W d 110 Q 38 (o0 :: some (.long u) :: l) st H 0 0 = ma_W d 110 Q 39 (o0 :: some (.long u) :: l) (.long u :: st) H 0 0 := wp_lload_n rfl rfl
theorem w110_39 : ma_W d 110 Q 39 (some (.ref i) :: l) st H 0 0 = ma_W d 110 Q 40 (some (.ref i) :: l) (.ref i :: st) H 0 0 := wp_aload_n (x := some i) rfl rfl
theorem w110_40 : ma_W d 110 Q 40 l (.ref i :: st) H 0 0 = ma_gf (H.1 i) 7 0 (ma_kV d 110 Q 43 l st H 0 0) := wp_get rfl (by decide +kernel)
theorem w110_43 : ma_W d 110 Q 43 l (.ref i :: st) H 0 0 = ma_gf (H.1 i) 0 0 (ma_kV d 110 Q 46 l st H 0 0) := wp_get rfl (by decide +kernel)
theorem w110_46 : ma_W d 110 Q 46 (o0 :: o1 :: o2 :: some (.int x) :: l) st H 0 0 = ma_W d 110 Q 47 (o0 :: o1 :: o2 :: some (.int x) :: l) (.int x :: st) H 0 0 := wp_iload_n rfl rfl
theorem w110_47 : ma_W d 110 Q 47 l (.int x0 :: .ref i :: st) H 0 0 = (ma_cat st ≤ 8 ∧ ma_cv (H.1 i) 4 d 37 [.ref i, .int x0] H (ma_kC d 110 Q 50 l st 0 0)) := wc_V0 (ia := 37) (n := 2) (cn := 4) rfl (by decide +kernel) (fun _ => rfl) rfl rfl
theorem w110_50 : ma_W d 110 Q 50 l (.long u1 :: .long u0 :: st) H 0 0 = (ma_cat st ≤ 8 ∧ ma_MW d 209 [.long u0, .long u1] H (ma_kC d 110 Q 53 l st 0 0)) := wc_S0 (ia := 209) (n := 2) (cn := 10) (k := 1) rfl (by decide +kernel) (by decide) (fun _ => rfl) rfl rfl
theorem w110_53 : ma_W d 110 Q 53 (o0 :: p :: q :: l) (.long u :: st) H 0 0 = ma_W d 110 Q 54 (ma_clr o0 :: some (.long u) :: none :: l) st H 0 0 := wp_lstore_n (id := 110) (pc := 53) (k := 1) rfl (Nat.succ_lt_succ (Nat.succ_lt_succ (Nat.zero_lt_succ _)))
theorem w110_54 : ma_W d 110 Q 54 (o0 :: o1 :: o2 :: some (.int x) :: l) st H 0 0 = ma_W d 110 Q 57 (o0 :: o1 :: ma_clr o2 :: some (.int (x + 1)) :: l) st H 0 0 := wp_iinc (id := 110) (pc := 54) (k := 3) (n := 1) rfl (Nat.succ_lt_succ (Nat.succ_lt_succ (Nat.succ_lt_succ (Nat.zero_lt_succ _)))) rfl (by decide)
theorem w110_57 : ma_W d 110 Q 57 l st H 0 0 = ma_W d 110 Q 33 l st H 0 0 := wp_goto 33 rfl (by decide)
theorem w110_60 : ma_W d 110 Q 60 (some (.ref i) :: l) st H 0 0 = ma_W d 110 Q 61 (some (.ref i) :: l) (.ref i :: st) H 0 0 := wp_aload_n (x := some i) rfl rfl
theorem w110_61 : ma_W d 110 Q 61 l (.ref i :: st) H 0 0 = ma_gf (H.1 i) 7 0 (ma_kV d 110 Q 64 l st H 0 0) := wp_get rfl (by decide +kernel)
theorem w110_64 : ma_W d 110 Q 64 l (.ref i :: st) H 0 0 = ma_gf (H.1 i) 0 2 (ma_kV d 110 Q 67 l st H 0 0) := wp_get rfl (by decide +kernel)
theorem w110_67 : ma_W d 110 Q 67 (o0 :: some (.long u) :: l) st H 0 0 = ma_W d 110 Q 68 (o0 :: some (.long u) :: l) (.long u :: st) H 0 0 := wp_lload_n rfl rfl
theorem w110_68 : ma_W d 110 Q 68 l st H 0 0 = ma_W d 110 Q 69 l (.int 0 :: st) H 0 0 := wp_iconst rfl (by decide)
theorem w110_69 : ma_W d 110 Q 69 l (.int x1 :: .long u0 :: .ref i :: st) H 0 0 = (ma_cat st ≤ 8 ∧ ma_cv (H.1 i) 3 d 31 [.ref i, .long u0, .int x1] H (ma_kC d 110 Q 72 l st 0 0)) := wc_V0 (ia := 31) (n := 3) (cn := 3) rfl (by decide +kernel) (fun _ => rfl) rfl rfl
theorem w110_72 : ma_W d 110 Q 72 (o0 :: p :: q :: l) (.long u :: st) H 0 0 = ma_W d 110 Q 73 (ma_clr o0 :: some (.long u) :: none :: l) st H 0 0 := wp_lstore_n (id := 110) (pc := 72) (k := 1) rfl (Nat.succ_lt_succ (Nat.succ_lt_succ (Nat.zero_lt_succ _)))
theorem w110_73 : ma_W d 110 Q 73 (some (.ref i) :: l) st H 0 0 = ma_W d 110 Q 74 (some (.ref i) :: l) (.ref i :: st) H 0 0 := wp_aload_n (x := some i) rfl rfl
theorem w110_74 : ma_W d 110 Q 74 l (.ref i :: st) H 0 0 = ma_gf (H.1 i) 7 0 (ma_kV d 110 Q 77 l st H 0 0) := wp_get rfl (by decide +kernel)
theorem w110_77 : ma_W d 110 Q 77 l (.ref i :: st) H 0 0 = ma_gf (H.1 i) 0 3 (ma_kV d 110 Q 80 l st H 0 0) := wp_get rfl (by decide +kernel)
theorem w110_80 : ma_W d 110 Q 80 (o0 :: some (.long u) :: l) st H 0 0 = ma_W d 110 Q 81 (o0 :: some (.long u) :: l) (.long u :: st) H 0 0 := wp_lload_n rfl rfl
theorem w110_81 : ma_W d 110 Q 81 l st H 0 0 = ma_W d 110 Q 82 l (.int 1 :: st) H 0 0 := wp_iconst rfl (by decide)
theorem w110_82 : ma_W d 110 Q 82 l (.int x1 :: .long u0 :: .ref i :: st) H 0 0 = (ma_cat st ≤ 8 ∧ ma_cv (H.1 i) 3 d 31 [.ref i, .long u0, .int x1] H (ma_kC d 110 Q 85 l st 0 0)) := wc_V0 (ia := 31) (n := 3) (cn := 3) rfl (by decide +kernel) (fun _ => rfl) rfl rfl
theorem w110_85 : ma_W d 110 Q 85 (o0 :: p :: q :: l) (.long u :: st) H 0 0 = ma_W d 110 Q 86 (ma_clr o0 :: some (.long u) :: none :: l) st H 0 0 := wp_lstore_n (id := 110) (pc := 85) (k := 1) rfl (Nat.succ_lt_succ (Nat.succ_lt_succ (Nat.zero_lt_succ _)))
theorem w110_86 : ma_W d 110 Q 86 l st H 0 0 = ma_W d 110 Q 89 l (.long 31 :: st) H 0 0 := wp_ldc2 rfl (by decide +kernel)
theorem w110_89 : ma_W d 110 Q 89 (o0 :: some (.long u) :: l) st H 0 0 = ma_W d 110 Q 90 (o0 :: some (.long u) :: l) (.long u :: st) H 0 0 := wp_lload_n rfl rfl
theorem w110_90 : ma_W d 110 Q 90 l (.long v :: .long u :: st) H 0 0 = ma_W d 110 Q 91 l (.long (u * v) :: st) H 0 0 := wp_lmul rfl
theorem w110_91 : ma_W d 110 Q 91 (some (.ref i) :: l) st H 0 0 = ma_W d 110 Q 92 (some (.ref i) :: l) (.ref i :: st) H 0 0 := wp_aload_n (x := some i) rfl rfl
theorem w110_92 : ma_W d 110 Q 92 l (.ref i :: st) H 0 0 = ma_gf (H.1 i) 7 6 (ma_kV d 110 Q 95 l st H 0 0) := wp_get rfl (by decide +kernel)
theorem w110_95 : ma_W d 110 Q 95 l (.long v :: .long u :: st) H 0 0 = ma_W d 110 Q 96 l (.long (u + v) :: st) H 0 0 := wp_ladd rfl
theorem w110_96 : ma_W d 110 Q 96 (o0 :: p :: q :: l) (.long u :: st) H 0 0 = ma_W d 110 Q 97 (ma_clr o0 :: some (.long u) :: none :: l) st H 0 0 := wp_lstore_n (id := 110) (pc := 96) (k := 1) rfl (Nat.succ_lt_succ (Nat.succ_lt_succ (Nat.zero_lt_succ _)))
theorem w110_97 : ma_W d 110 Q 97 l st H 0 0 = ma_W d 110 Q 100 l (.long 31 :: st) H 0 0 := wp_ldc2 rfl (by decide +kernel)
theorem w110_100 : ma_W d 110 Q 100 (o0 :: some (.long u) :: l) st H 0 0 = ma_W d 110 Q 101 (o0 :: some (.long u) :: l) (.long u :: st) H 0 0 := wp_lload_n rfl rfl
theorem w110_101 : ma_W d 110 Q 101 l (.long v :: .long u :: st) H 0 0 = ma_W d 110 Q 102 l (.long (u * v) :: st) H 0 0 := wp_lmul rfl
theorem w110_102 : ma_W d 110 Q 102 (some (.ref i) :: l) st H 0 0 = ma_W d 110 Q 103 (some (.ref i) :: l) (.ref i :: st) H 0 0 := wp_aload_n (x := some i) rfl rfl
theorem w110_103 : ma_W d 110 Q 103 l (.ref i :: st) H 0 0 = ma_gf (H.1 i) 7 7 (ma_kV d 110 Q 106 l st H 0 0) := wp_get rfl (by decide +kernel)
theorem w110_106 : ma_W d 110 Q 106 l (.long v :: .long u :: st) H 0 0 = ma_W d 110 Q 107 l (.long (u + v) :: st) H 0 0 := wp_ladd rfl
theorem w110_107 : ma_W d 110 Q 107 l [.long u] H 0 0 = Q (some (.long u)) H := wp_lret rfl rfl
theorem e110 : ma_MW (d + 1) 110 [.ref i] H Q = ma_W d 110 Q 0 [some (.ref i), none, none, none] [] H 0 0 := wp_enter (by decide) (Nat.le_of_ble_eq_true rfl) rfl
/-! 111 be_numberOf -/
theorem w111_0 : ma_W d 111 Q 0 (o0 :: some (.int x) :: l) st H 0 0 = ma_W d 111 Q 1 (o0 :: some (.int x) :: l) (.int x :: st) H 0 0 := wp_iload_n rfl rfl
theorem w111_1 : ma_W d 111 Q 1 l (.int x :: st) H 0 0 = ma_sw x 10 [32, 43, 54, 65] 73 d 111 Q l st H 0 0 := wp_switch _ _ rfl (by decide) (by decide +kernel) (by decide)
theorem w111_32 : ma_W d 111 Q 32 (some (.ref i) :: l) st H 0 0 = ma_W d 111 Q 33 (some (.ref i) :: l) (.ref i :: st) H 0 0 := wp_aload_n (x := some i) rfl rfl
theorem w111_33 : ma_W d 111 Q 33 l (.ref i :: st) H 0 0 = ma_gf (H.1 i) 7 0 (ma_kV d 111 Q 36 l st H 0 0) := wp_get rfl (by decide +kernel)
theorem w111_36 : ma_W d 111 Q 36 l (.ref i :: st) H 0 0 = ma_gf (H.1 i) 0 2 (ma_kV d 111 Q 39 l st H 0 0) := wp_get rfl (by decide +kernel)
theorem w111_39 : ma_W d 111 Q 39 l (.ref i :: st) H 0 0 = (ma_cat st ≤ 8 ∧ ma_cv (H.1 i) 3 d 25 [.ref i] H (ma_kC d 111 Q 42 l st 0 0)) := wc_V0 (ia := 25) (n := 1) (cn := 3) rfl (by decide +kernel) (fun _ => rfl) rfl rfl
theorem w111_42 : ma_W d 111 Q 42 l [.int x] H 0 0 = Q (some (.int x)) H := wp_iret rfl rfl
theorem w111_43 : ma_W d 111 Q 43 (some (.ref i) :: l) st H 0 0 = ma_W d 111 Q 44 (some (.ref i) :: l) (.ref i :: st) H 0 0 := wp_aload_n (x := some i) rfl rfl
theorem w111_44 : ma_W d 111 Q 44 l (.ref i :: st) H 0 0 = ma_gf (H.1 i) 7 0 (ma_kV d 111 Q 47 l st H 0 0) := wp_get rfl (by decide +kernel)
theorem w111_47 : ma_W d 111 Q 47 l (.ref i :: st) H 0 0 = ma_gf (H.1 i) 0 3 (ma_kV d 111 Q 50 l st H 0 0) := wp_get rfl (by decide +kernel)
theorem w111_50 : ma_W d 111 Q 50 l (.ref i :: st) H 0 0 = (ma_cat st ≤ 8 ∧ ma_cv (H.1 i) 3 d 25 [.ref i] H (ma_kC d 111 Q 53 l st 0 0)) := wc_V0 (ia := 25) (n := 1) (cn := 3) rfl (by decide +kernel) (fun _ => rfl) rfl rfl
theorem w111_53 : ma_W d 111 Q 53 l [.int x] H 0 0 = Q (some (.int x)) H := wp_iret rfl rfl
theorem w111_54 : ma_W d 111 Q 54 (some (.ref i) :: l) st H 0 0 = ma_W d 111 Q 55 (some (.ref i) :: l) (.ref i :: st) H 0 0 := wp_aload_n (x := some i) rfl rfl
theorem w111_55 : ma_W d 111 Q 55 l (.ref i :: st) H 0 0 = ma_gf (H.1 i) 7 0 (ma_kV d 111 Q 58 l st H 0 0) := wp_get rfl (by decide +kernel)
theorem w111_58 : ma_W d 111 Q 58 l (.ref i :: st) H 0 0 = ma_gf (H.1 i) 0 1 (ma_kV d 111 Q 61 l st H 0 0) := wp_get rfl (by decide +kernel)
theorem w111_61 : ma_W d 111 Q 61 l (.ref i :: st) H 0 0 = (ma_cat st ≤ 8 ∧ ma_cv (H.1 i) 1 d 6 [.ref i] H (ma_kC d 111 Q 64 l st 0 0)) := wc_V0 (ia := 6) (n := 1) (cn := 1) rfl (by decide +kernel) (fun _ => rfl) rfl rfl
theorem w111_64 : ma_W d 111 Q 64 l [.int x] H 0 0 = Q (some (.int x)) H := wp_iret rfl rfl
theorem w111_65 : ma_W d 111 Q 65 (some (.ref i) :: l) st H 0 0 = ma_W d 111 Q 66 (some (.ref i) :: l) (.ref i :: st) H 0 0 := wp_aload_n (x := some i) rfl rfl
theorem w111_66 : ma_W d 111 Q 66 l (.ref i :: st) H 0 0 = ma_gf (H.1 i) 7 4 (ma_kV d 111 Q 69 l st H 0 0) := wp_get rfl (by decide +kernel)
theorem w111_69 : ma_W d 111 Q 69 l (.ref i :: st) H 0 0 = (ma_cat st ≤ 8 ∧ ma_cv (H.1 i) 5 d 54 [.ref i] H (ma_kC d 111 Q 72 l st 0 0)) := wc_V0 (ia := 54) (n := 1) (cn := 5) rfl (by decide +kernel) (fun _ => rfl) rfl rfl
theorem w111_72 : ma_W d 111 Q 72 l [.int x] H 0 0 = Q (some (.int x)) H := wp_iret rfl rfl
theorem w111_73 : ma_W d 111 Q 73 (some (.ref i) :: l) st H 0 0 = ma_W d 111 Q 74 (some (.ref i) :: l) (.ref i :: st) H 0 0 := wp_aload_n (x := some i) rfl rfl
theorem w111_74 : ma_W d 111 Q 74 l (.ref i :: st) H 0 0 = ma_gf (H.1 i) 7 0 (ma_kV d 111 Q 77 l st H 0 0) := wp_get rfl (by decide +kernel)
theorem w111_77 : ma_W d 111 Q 77 l (.ref i :: st) H 0 0 = ma_gf (H.1 i) 0 0 (ma_kV d 111 Q 80 l st H 0 0) := wp_get rfl (by decide +kernel)
theorem w111_80 : ma_W d 111 Q 80 (o0 :: some (.int x) :: l) st H 0 0 = ma_W d 111 Q 81 (o0 :: some (.int x) :: l) (.int x :: st) H 0 0 := wp_iload_n rfl rfl
theorem w111_81 : ma_W d 111 Q 81 l (.int x0 :: .ref i :: st) H 0 0 = (ma_cat st ≤ 8 ∧ ma_cv (H.1 i) 4 d 44 [.ref i, .int x0] H (ma_kC d 111 Q 84 l st 0 0)) := wc_V0 (ia := 44) (n := 2) (cn := 4) rfl (by decide +kernel) (fun _ => rfl) rfl rfl
theorem w111_84 : ma_W d 111 Q 84 l [.int x] H 0 0 = Q (some (.int x)) H := wp_iret rfl rfl
theorem e111 : ma_MW (d + 1) 111 [.ref i, .int x0] H Q = ma_W d 111 Q 0 [some (.ref i), some (.int x0)] [] H 0 0 := wp_enter (by decide) (Nat.le_of_ble_eq_true rfl) rfl
/-! 112 be_setFraction -/
theorem w112_0 : ma_W d 112 Q 0 (o0 :: o1 :: some (.int x) :: l) st H 0 0 = ma_W d 112 Q 1 (o0 :: o1 :: some (.int x) :: l) (.int x :: st) H 0 0 := wp_iload_n rfl rfl
theorem w112_1 : ma_W d 112 Q 1 (o0 :: o1 :: o2 :: p :: l) (.int x :: st) H 0 0 = ma_W d 112 Q 2 (o0 :: o1 :: ma_clr o2 :: some (.int x) :: l) st H 0 0 := wp_istore_n (id := 112) (pc := 1) (k := 3) rfl (Nat.succ_lt_succ (Nat.succ_lt_succ (Nat.succ_lt_succ (Nat.zero_lt_succ _))))
theorem w112_2 : ma_W d 112 Q 2 (o0 :: o1 :: o2 :: some (.int x) :: l) st H 0 0 = ma_W d 112 Q 3 (o0 :: o1 :: o2 :: some (.int x) :: l) (.int x :: st) H 0 0 := wp_iload_n rfl rfl
theorem w112_3 : ma_W d 112 Q 3 l st H 0 0 = ma_W d 112 Q 4 l (.int 1 :: st) H 0 0 := wp_iconst rfl (by decide)
theorem w112_4 : ma_W d 112 Q 4 l (.int y :: .int x :: st) H 0 0 = ma_if (x ≤ y) d 112 Q 25 7 l st H 0 0 := wp_ic (id := 112) (pc := 4) (c := .le) (off := 21) 25 rfl (by decide)
theorem w112_7 : ma_W d 112 Q 7 (o0 :: some (.int x) :: l) st H 0 0 = ma_W d 112 Q 8 (o0 :: some (.int x) :: l) (.int x :: st) H 0 0 := wp_iload_n rfl rfl
theorem w112_8 : ma_W d 112 Q 8 (o0 :: o1 :: o2 :: some (.int x) :: l) st H 0 0 = ma_W d 112 Q 9 (o0 :: o1 :: o2 :: some (.int x) :: l) (.int x :: st) H 0 0 := wp_iload_n rfl rfl
theorem w112_9 : ma_W d 112 Q 9 l (.int y :: .int x :: st) H 0 0 = (¬ y = 0 ∧ ma_W d 112 Q 10 l (.int (ma_rem x y) :: st) H 0 0) := wp_irem rfl
theorem w112_10 : ma_W d 112 Q 10 l (.int x :: st) H 0 0 = ma_if (x = 0) d 112 Q 13 19 l st H 0 0 := wp_c0 (id := 112) (pc := 10) (c := .ne) (off := 9) 19 rfl (by decide)
theorem w112_13 : ma_W d 112 Q 13 (o0 :: o1 :: some (.int x) :: l) st H 0 0 = ma_W d 112 Q 14 (o0 :: o1 :: some (.int x) :: l) (.int x :: st) H 0 0 := wp_iload_n rfl rfl
theorem w112_14 : ma_W d 112 Q 14 (o0 :: o1 :: o2 :: some (.int x) :: l) st H 0 0 = ma_W d 112 Q 15 (o0 :: o1 :: o2 :: some (.int x) :: l) (.int x :: st) H 0 0 := wp_iload_n rfl rfl
theorem w112_15 : ma_W d 112 Q 15 l (.int y :: .int x :: st) H 0 0 = (¬ y = 0 ∧ ma_W d 112 Q 16 l (.int (ma_rem x y) :: st) H 0 0) := wp_irem rfl
theorem w112_16 : ma_W d 112 Q 16 l (.int x :: st) H 0 0 = ma_if (x = 0) d 112 Q 25 19 l st H 0 0 := wp_c0 (id := 112) (pc := 16) (c := .eq) (off := 9) 25 rfl (by decide)
theorem w112_19 : ma_W d 112 Q 19 (o0 :: o1 :: o2 :: some (.int x) :: l) st H 0 0 = ma_W d 112 Q 22 (o0 :: o1 :: ma_clr o2 :: some (.int (x + (-1))) :: l) st H 0 0 := wp_iinc (id := 112) (pc := 19) (k := 3) (n := (-1)) rfl (Nat.succ_lt_succ (Nat.succ_lt_succ (Nat.succ_lt_succ (Nat.zero_lt_succ _)))) rfl (by decide)
theorem w112_22 : ma_W d 112 Q 22 l st H 0 0 = ma_W d 112 Q 2 l st H 0 0 := wp_goto 2 rfl (by decide)
theorem w112_25 : ma_W d 112 Q 25 (o0 :: o1 :: o2 :: some (.int x) :: l) st H 0 0 = ma_W d 112 Q 26 (o0 :: o1 :: o2 :: some (.int x) :: l) (.int x :: st) H 0 0 := wp_iload_n rfl rfl
theorem w112_26 : ma_W d 112 Q 26 l (.int x :: st) H 0 0 = ma_if (x ≤ 0) d 112 Q 45 29 l st H 0 0 := wp_c0 (id := 112) (pc := 26) (c := .le) (off := 19) 45 rfl (by decide)
theorem w112_29 : ma_W d 112 Q 29 (some (.ref i) :: l) st H 0 0 = ma_W d 112 Q 30 (some (.ref i) :: l) (.ref i :: st) H 0 0 := wp_aload_n (x := some i) rfl rfl
theorem w112_30 : ma_W d 112 Q 30 (o0 :: some (.int x) :: l) st H 0 0 = ma_W d 112 Q 31 (o0 :: some (.int x) :: l) (.int x :: st) H 0 0 := wp_iload_n rfl rfl
theorem w112_31 : ma_W d 112 Q 31 (o0 :: o1 :: o2 :: some (.int x) :: l) st H 0 0 = ma_W d 112 Q 32 (o0 :: o1 :: o2 :: some (.int x) :: l) (.int x :: st) H 0 0 := wp_iload_n rfl rfl
theorem w112_32 : ma_W d 112 Q 32 l (.int y :: .int x :: st) H 0 0 = (¬ y = 0 ∧ ma_W d 112 Q 33 l (.int (x / y) :: st) H 0 0) := wp_idiv rfl
theorem w112_33 : ma_W d 112 Q 33 l (.int x :: st) H 0 0 = ma_W d 112 Q 34 l (.long x.toInt64 :: st) H 0 0 := wp_i2l rfl
theorem w112_34 : ma_W d 112 Q 34 l (.long u :: .ref i :: st) H 0 0 = ma_pf (H.1 i) 7 6 (.long u) (ma_kH d 112 Q 37 l st H i 0 0) := wp_put rfl (by decide +kernel) (by decide +kernel) rfl rfl
theorem w112_37 : ma_W d 112 Q 37 (some (.ref i) :: l) st H 0 0 = ma_W d 112 Q 38 (some (.ref i) :: l) (.ref i :: st) H 0 0 := wp_aload_n (x := some i) rfl rfl
theorem w112_38 : ma_W d 112 Q 38 (o0 :: o1 :: some (.int x) :: l) st H 0 0 = ma_W d 112 Q 39 (o0 :: o1 :: some (.int x) :: l) (.int x :: st) H 0 0 := wp_iload_n rfl rfl
theorem w112_39 : ma_W d 112 Q 39 (o0 :: o1 :: o2 :: some (.int x) :: l) st H 0 0 = ma_W d 112 Q 40 (o0 :: o1 :: o2 :: some (.int x) :: l) (.int x :: st) H 0 0 := wp_iload_n rfl rfl
theorem w112_40 : ma_W d 112 Q 40 l (.int y :: .int x :: st) H 0 0 = (¬ y = 0 ∧ ma_W d 112 Q 41 l (.int (x / y) :: st) H 0 0) := wp_idiv rfl
theorem w112_41 : ma_W d 112 Q 41 l (.int x :: st) H 0 0 = ma_W d 112 Q 42 l (.long x.toInt64 :: st) H 0 0 := wp_i2l rfl
theorem w112_42 : ma_W d 112 Q 42 l (.long u :: .ref i :: st) H 0 0 = ma_pf (H.1 i) 7 7 (.long u) (ma_kH d 112 Q 45 l st H i 0 0) := wp_put rfl (by decide +kernel) (by decide +kernel) rfl rfl
theorem w112_45 : ma_W d 112 Q 45 l [] H 0 0 = Q none H := wp_vret rfl rfl
theorem e112 : ma_MW (d + 1) 112 [.ref i, .int x0, .int x1] H Q = ma_W d 112 Q 0 [some (.ref i), some (.int x0), some (.int x1), none] [] H 0 0 := wp_enter (by decide) (Nat.le_of_ble_eq_true rfl) rfl
/-! 113 be_refusedBad -/
theorem w113_0 : ma_W d 113 Q 0 (some (.ref i) :: l) st H 0 0 = ma_W d 113 Q 1 (some (.ref i) :: l) (.ref i :: st) H 0 0 := wp_aload_n (x := some i) rfl rfl
theorem w113_1 : ma_W d 113 Q 1 l (.ref i :: st) H 0 0 = ma_W d 113 Q 2 l (.ref i :: .ref i :: st) H 0 0 := wp_dup rfl rfl
theorem w113_1i : ma_W d 113 Q 1 l (.int x :: st) H 0 0 = ma_W d 113 Q 2 l (.int x :: .int x :: st) H 0 0 := wp_dup rfl rfl
theorem w113_2 : ma_W d 113 Q 2 l (.ref i :: st) H 0 0 = ma_gf (H.1 i) 7 8 (ma_kV d 113 Q 5 l st H 0 0) := wp_get rfl (by decide +kernel)
theorem w113_5 : ma_W d 113 Q 5 l st H 0 0 = ma_W d 113 Q 6 l (.int 1 :: st) H 0 0 := wp_iconst rfl (by decide)
theorem w113_6 : ma_W d 113 Q 6 l (.int y :: .int x :: st) H 0 0 = ma_W d 113 Q 7 l (.int (x + y) :: st) H 0 0 := wp_iadd rfl
theorem w113_7 : ma_W d 113 Q 7 l (.int x :: .ref i :: st) H 0 0 = ma_pf (H.1 i) 7 8 (.int x) (ma_kH d 113 Q 10 l st H i 0 0) := wp_put rfl (by decide +kernel) (by decide +kernel) rfl rfl
theorem w113_10 : ma_W d 113 Q 10 l st H 0 0 = ma_W d 113 Q 12 l (.int (-2) :: st) H 0 0 := wp_bipush rfl (by decide)
theorem w113_12 : ma_W d 113 Q 12 l [.int x] H 0 0 = Q (some (.int x)) H := wp_iret rfl rfl
theorem e113 : ma_MW (d + 1) 113 [.ref i] H Q = ma_W d 113 Q 0 [some (.ref i)] [] H 0 0 := wp_enter (by decide) (Nat.le_of_ble_eq_true rfl) rfl
/-! 114 be_refusedNo -/
theorem w114_0 : ma_W d 114 Q 0 (some (.ref i) :: l) st H 0 0 = ma_W d 114 Q 1 (some (.ref i) :: l) (.ref i :: st) H 0 0 := wp_aload_n (x := some i) rfl rfl
theorem w114_1 : ma_W d 114 Q 1 l (.ref i :: st) H 0 0 = ma_W d 114 Q 2 l (.ref i :: .ref i :: st) H 0 0 := wp_dup rfl rfl
theorem w114_1i : ma_W d 114 Q 1 l (.int x :: st) H 0 0 = ma_W d 114 Q 2 l (.int x :: .int x :: st) H 0 0 := wp_dup rfl rfl
theorem w114_2 : ma_W d 114 Q 2 l (.ref i :: st) H 0 0 = ma_gf (H.1 i) 7 9 (ma_kV d 114 Q 5 l st H 0 0) := wp_get rfl (by decide +kernel)
theorem w114_5 : ma_W d 114 Q 5 l st H 0 0 = ma_W d 114 Q 6 l (.int 1 :: st) H 0 0 := wp_iconst rfl (by decide)
theorem w114_6 : ma_W d 114 Q 6 l (.int y :: .int x :: st) H 0 0 = ma_W d 114 Q 7 l (.int (x + y) :: st) H 0 0 := wp_iadd rfl
theorem w114_7 : ma_W d 114 Q 7 l (.int x :: .ref i :: st) H 0 0 = ma_pf (H.1 i) 7 9 (.int x) (ma_kH d 114 Q 10 l st H i 0 0) := wp_put rfl (by decide +kernel) (by decide +kernel) rfl rfl
theorem w114_10 : ma_W d 114 Q 10 l st H 0 0 = ma_W d 114 Q 12 l (.int (-3) :: st) H 0 0 := wp_bipush rfl (by decide)
theorem w114_12 : ma_W d 114 Q 12 l [.int x] H 0 0 = Q (some (.int x)) H := wp_iret rfl rfl
theorem e114 : ma_MW (d + 1) 114 [.ref i] H Q = ma_W d 114 Q 0 [some (.ref i)] [] H 0 0 := wp_enter (by decide) (Nat.le_of_ble_eq_true rfl) rfl
/-! 115 be_refusedFull -/
theorem w115_0 : ma_W d 115 Q 0 (some (.ref i) :: l) st H 0 0 = ma_W d 115 Q 1 (some (.ref i) :: l) (.ref i :: st) H 0 0 := wp_aload_n (x := some i) rfl rfl
theorem w115_1 : ma_W d 115 Q 1 l (.ref i :: st) H 0 0 = ma_W d 115 Q 2 l (.ref i :: .ref i :: st) H 0 0 := wp_dup rfl rfl
theorem w115_1i : ma_W d 115 Q 1 l (.int x :: st) H 0 0 = ma_W d 115 Q 2 l (.int x :: .int x :: st) H 0 0 := wp_dup rfl rfl
theorem w115_2 : ma_W d 115 Q 2 l (.ref i :: st) H 0 0 = ma_gf (H.1 i) 7 10 (ma_kV d 115 Q 5 l st H 0 0) := wp_get rfl (by decide +kernel)
theorem w115_5 : ma_W d 115 Q 5 l st H 0 0 = ma_W d 115 Q 6 l (.int 1 :: st) H 0 0 := wp_iconst rfl (by decide)
theorem w115_6 : ma_W d 115 Q 6 l (.int y :: .int x :: st) H 0 0 = ma_W d 115 Q 7 l (.int (x + y) :: st) H 0 0 := wp_iadd rfl
theorem w115_7 : ma_W d 115 Q 7 l (.int x :: .ref i :: st) H 0 0 = ma_pf (H.1 i) 7 10 (.int x) (ma_kH d 115 Q 10 l st H i 0 0) := wp_put rfl (by decide +kernel) (by decide +kernel) rfl rfl
theorem w115_10 : ma_W d 115 Q 10 l st H 0 0 = ma_W d 115 Q 12 l (.int (-4) :: st) H 0 0 := wp_bipush rfl (by decide)
theorem w115_12 : ma_W d 115 Q 12 l [.int x] H 0 0 = Q (some (.int x)) H := wp_iret rfl rfl
theorem e115 : ma_MW (d + 1) 115 [.ref i] H Q = ma_W d 115 Q 0 [some (.ref i)] [] H 0 0 := wp_enter (by decide) (Nat.le_of_ble_eq_true rfl) rfl
/-! 116 be_within -/
theorem w116_0 : ma_W d 116 Q 0 (some (.int x) :: l) st H 0 0 = ma_W d 116 Q 1 (some (.int x) :: l) (.int x :: st) H 0 0 := wp_iload_n rfl rfl
theorem w116_1 : ma_W d 116 Q 1 (o0 :: some (.int x) :: l) st H 0 0 = ma_W d 116 Q 2 (o0 :: some (.int x) :: l) (.int x :: st) H 0 0 := wp_iload_n rfl rfl
theorem w116_2 : ma_W d 116 Q 2 l (.int y :: .int x :: st) H 0 0 = ma_if (x < y) d 116 Q 14 5 l st H 0 0 := wp_ic (id := 116) (pc := 2) (c := .lt) (off := 12) 14 rfl (by decide)
theorem w116_5 : ma_W d 116 Q 5 (some (.int x) :: l) st H 0 0 = ma_W d 116 Q 6 (some (.int x) :: l) (.int x :: st) H 0 0 := wp_iload_n rfl rfl
theorem w116_6 : ma_W d 116 Q 6 (o0 :: o1 :: some (.int x) :: l) st H 0 0 = ma_W d 116 Q 7 (o0 :: o1 :: some (.int x) :: l) (.int x :: st) H 0 0 := wp_iload_n rfl rfl
theorem w116_7 : ma_W d 116 Q 7 l (.int y :: .int x :: st) H 0 0 = ma_if (y < x) d 116 Q 14 10 l st H 0 0 := wp_ic (id := 116) (pc := 7) (c := .gt) (off := 7) 14 rfl (by decide)
theorem w116_10 : ma_W d 116 Q 10 l st H 0 0 = ma_W d 116 Q 11 l (.int 1 :: st) H 0 0 := wp_iconst rfl (by decide)
theorem w116_11 : ma_W d 116 Q 11 l st H 0 0 = ma_W d 116 Q 15 l st H 0 0 := wp_goto 15 rfl (by decide)
theorem w116_14 : ma_W d 116 Q 14 l st H 0 0 = ma_W d 116 Q 15 l (.int 0 :: st) H 0 0 := wp_iconst rfl (by decide)
theorem w116_15 : ma_W d 116 Q 15 l [.int x] H 0 0 = ((x = 0 ∨ x = 1) ∧ Q (some (.int x)) H) := wp_zret rfl rfl
theorem e116 : ma_MW (d + 1) 116 [.int x0, .int x1, .int x2] H Q = ma_W d 116 Q 0 [some (.int x0), some (.int x1), some (.int x2)] [] H 0 0 := wp_enter (by decide) (Nat.le_of_ble_eq_true rfl) rfl
/-! 117 be_isPlayer -/
theorem w117_0 : ma_W d 117 Q 0 (some (.int x) :: l) st H 0 0 = ma_W d 117 Q 1 (some (.int x) :: l) (.int x :: st) H 0 0 := wp_iload_n rfl rfl
theorem w117_1 : ma_W d 117 Q 1 l st H 0 0 = ma_W d 117 Q 2 l (.int 0 :: st) H 0 0 := wp_iconst rfl (by decide)
theorem w117_2 : ma_W d 117 Q 2 l st H 0 0 = ma_W d 117 Q 3 l (.int 1 :: st) H 0 0 := wp_iconst rfl (by decide)
theorem w117_3 : ma_W d 117 Q 3 l (.int x2 :: .int x1 :: .int x0 :: st) H 0 0 = (ma_cat st ≤ 8 ∧ ma_MW d 116 [.int x0, .int x1, .int x2] H (ma_kC d 117 Q 6 l st 0 0)) := wc_S0 (ia := 116) (n := 3) (cn := 7) (k := 1) rfl (by decide +kernel) (by decide) (fun _ => rfl) rfl rfl
theorem w117_6 : ma_W d 117 Q 6 l [.int x] H 0 0 = ((x = 0 ∨ x = 1) ∧ Q (some (.int x)) H) := wp_zret rfl rfl
theorem e117 : ma_MW (d + 1) 117 [.int x0] H Q = ma_W d 117 Q 0 [some (.int x0)] [] H 0 0 := wp_enter (by decide) (Nat.le_of_ble_eq_true rfl) rfl
/-! 118 be_isKind -/
theorem w118_0 : ma_W d 118 Q 0 (some (.int x) :: l) st H 0 0 = ma_W d 118 Q 1 (some (.int x) :: l) (.int x :: st) H 0 0 := wp_iload_n rfl rfl
theorem w118_1 : ma_W d 118 Q 1 l st H 0 0 = ma_W d 118 Q 2 l (.int 0 :: st) H 0 0 := wp_iconst rfl (by decide)
theorem w118_2 : ma_W d 118 Q 2 l st H 0 0 = ma_W d 118 Q 3 l (.int 5 :: st) H 0 0 := wp_iconst rfl (by decide)
theorem w118_3 : ma_W d 118 Q 3 l (.int x2 :: .int x1 :: .int x0 :: st) H 0 0 = (ma_cat st ≤ 8 ∧ ma_MW d 116 [.int x0, .int x1, .int x2] H (ma_kC d 118 Q 6 l st 0 0)) := wc_S0 (ia := 116) (n := 3) (cn := 7) (k := 1) rfl (by decide +kernel) (by decide) (fun _ => rfl) rfl rfl
theorem w118_6 : ma_W d 118 Q 6 l [.int x] H 0 0 = ((x = 0 ∨ x = 1) ∧ Q (some (.int x)) H) := wp_zret rfl rfl
theorem e118 : ma_MW (d + 1) 118 [.int x0] H Q = ma_W d 118 Q 0 [some (.int x0)] [] H 0 0 := wp_enter (by decide) (Nat.le_of_ble_eq_true rfl) rfl
/-! 119 be_owedFor -/
theorem w119_0 : ma_W d 119 Q 0 (some (.int x) :: l) st H 0 0 = ma_W d 119 Q 1 (some (.int x) :: l) (.int x :: st) H 0 0 := wp_iload_n rfl rfl
theorem w119_1 : ma_W d 119 Q 1 l (.int x :: st) H 0 0 = ma_sw x 1 [36, 38, 40, 42, 44] 50 d 119 Q l st H 0 0 := wp_switch _ _ rfl (by decide) (by decide +kernel) (by decide)
theorem w119_36 : ma_W d 119 Q 36 l st H 0 0 = ma_W d 119 Q 37 l (.int 1 :: st) H 0 0 := wp_iconst rfl (by decide)
theorem w119_37 : ma_W d 119 Q 37 l [.int x] H 0 0 = Q (some (.int x)) H := wp_iret rfl rfl
theorem w119_38 : ma_W d 119 Q 38 l st H 0 0 = ma_W d 119 Q 39 l (.int 2 :: st) H 0 0 := wp_iconst rfl (by decide)
theorem w119_39 : ma_W d 119 Q 39 l [.int x] H 0 0 = Q (some (.int x)) H := wp_iret rfl rfl
theorem w119_40 : ma_W d 119 Q 40 l st H 0 0 = ma_W d 119 Q 41 l (.int 3 :: st) H 0 0 := wp_iconst rfl (by decide)
theorem w119_41 : ma_W d 119 Q 41 l [.int x] H 0 0 = Q (some (.int x)) H := wp_iret rfl rfl
theorem w119_42 : ma_W d 119 Q 42 l st H 0 0 = ma_W d 119 Q 43 l (.int 4 :: st) H 0 0 := wp_iconst rfl (by decide)
theorem w119_43 : ma_W d 119 Q 43 l [.int x] H 0 0 = Q (some (.int x)) H := wp_iret rfl rfl
theorem w119_44 : ma_W d 119 Q 44 l st H 0 0 = ma_W d 119 Q 45 l (.int 1 :: st) H 0 0 := wp_iconst rfl (by decide)
theorem w119_45 : ma_W d 119 Q 45 (o0 :: some (.int x) :: l) st H 0 0 = ma_W d 119 Q 46 (o0 :: some (.int x) :: l) (.int x :: st) H 0 0 := wp_iload_n rfl rfl
theorem w119_46 : ma_W d 119 Q 46 l st H 0 0 = ma_W d 119 Q 47 l (.int 3 :: st) H 0 0 := wp_iconst rfl (by decide)
theorem w119_47 : ma_W d 119 Q 47 l (.int y :: .int x :: st) H 0 0 = (¬ y = 0 ∧ ma_W d 119 Q 48 l (.int (ma_rem x y) :: st) H 0 0) := wp_irem rfl
theorem w119_48 : ma_W d 119 Q 48 l (.int y :: .int x :: st) H 0 0 = ma_W d 119 Q 49 l (.int (x + y) :: st) H 0 0 := wp_iadd rfl
theorem w119_49 : ma_W d 119 Q 49 l [.int x] H 0 0 = Q (some (.int x)) H := wp_iret rfl rfl
theorem w119_50 : ma_W d 119 Q 50 l st H 0 0 = ma_W d 119 Q 51 l (.int 0 :: st) H 0 0 := wp_iconst rfl (by decide)
theorem w119_51 : ma_W d 119 Q 51 l [.int x] H 0 0 = Q (some (.int x)) H := wp_iret rfl rfl
theorem e119 : ma_MW (d + 1) 119 [.int x0, .int x1] H Q = ma_W d 119 Q 0 [some (.int x0), some (.int x1)] [] H 0 0 := wp_enter (by decide) (Nat.le_of_ble_eq_true rfl) rfl
/-! 120 be_comesAt -/
theorem w120_0 : ma_W d 120 Q 0 (some (.int x) :: l) st H 0 0 = ma_W d 120 Q 1 (some (.int x) :: l) (.int x :: st) H 0 0 := wp_iload_n rfl rfl
theorem w120_1 : ma_W d 120 Q 1 l (.int x :: st) H 0 0 = ma_sw x 1 [36, 42, 48, 54, 64] 70 d 120 Q l st H 0 0 := wp_switch _ _ rfl (by decide) (by decide +kernel) (by decide)
theorem w120_36 : ma_W d 120 Q 36 (o0 :: some (.int x) :: l) st H 0 0 = ma_W d 120 Q 37 (o0 :: some (.int x) :: l) (.int x :: st) H 0 0 := wp_iload_n rfl rfl
theorem w120_37 : ma_W d 120 Q 37 l st H 0 0 = ma_W d 120 Q 38 l (.int 1 :: st) H 0 0 := wp_iconst rfl (by decide)
theorem w120_38 : ma_W d 120 Q 38 l (.int y :: .int x :: st) H 0 0 = ma_W d 120 Q 39 l (.int (x - y) :: st) H 0 0 := wp_isub rfl
theorem w120_39 : ma_W d 120 Q 39 (o0 :: o1 :: some (.int x) :: l) st H 0 0 = ma_W d 120 Q 40 (o0 :: o1 :: some (.int x) :: l) (.int x :: st) H 0 0 := wp_iload_n rfl rfl
theorem w120_40 : ma_W d 120 Q 40 l (.int y :: .int x :: st) H 0 0 = ma_W d 120 Q 41 l (.int (x - y) :: st) H 0 0 := wp_isub rfl
theorem w120_41 : ma_W d 120 Q 41 l [.int x] H 0 0 = Q (some (.int x)) H := wp_iret rfl rfl
theorem w120_42 : ma_W d 120 Q 42 (o0 :: o1 :: some (.int x) :: l) st H 0 0 = ma_W d 120 Q 43 (o0 :: o1 :: some (.int x) :: l) (.int x :: st) H 0 0 := wp_iload_n rfl rfl
theorem w120_43 : ma_W d 120 Q 43 (o0 :: some (.int x) :: l) st H 0 0 = ma_W d 120 Q 44 (o0 :: some (.int x) :: l) (.int x :: st) H 0 0 := wp_iload_n rfl rfl
theorem w120_44 : ma_W d 120 Q 44 l (.int x1 :: .int x0 :: st) H 0 0 = (ma_cat st ≤ 8 ∧ ma_MW d 121 [.int x0, .int x1] H (ma_kC d 120 Q 47 l st 0 0)) := wc_S0 (ia := 121) (n := 2) (cn := 7) (k := 1) rfl (by decide +kernel) (by decide) (fun _ => rfl) rfl rfl
theorem w120_47 : ma_W d 120 Q 47 l [.int x] H 0 0 = Q (some (.int x)) H := wp_iret rfl rfl
theorem w120_48 : ma_W d 120 Q 48 (o0 :: o1 :: some (.int x) :: l) st H 0 0 = ma_W d 120 Q 49 (o0 :: o1 :: some (.int x) :: l) (.int x :: st) H 0 0 := wp_iload_n rfl rfl
theorem w120_49 : ma_W d 120 Q 49 (o0 :: some (.int x) :: l) st H 0 0 = ma_W d 120 Q 50 (o0 :: some (.int x) :: l) (.int x :: st) H 0 0 := wp_iload_n rfl rfl
theorem w120_50 : ma_W d 120 Q 50 l (.int x1 :: .int x0 :: st) H 0 0 = (ma_cat st ≤ 8 ∧ ma_MW d 122 [.int x0, .int x1] H (ma_kC d 120 Q 53 l st 0 0)) := wc_S0 (ia := 122) (n := 2) (cn := 7) (k := 1) rfl (by decide +kernel) (by decide) (fun _ => rfl) rfl rfl
theorem w120_53 : ma_W d 120 Q 53 l [.int x] H 0 0 = Q (some (.int x)) H := wp_iret rfl rfl
theorem w120_54 : ma_W d 120 Q 54 (o0 :: some (.int x) :: l) st H 0 0 = ma_W d 120 Q 55 (o0 :: some (.int x) :: l) (.int x :: st) H 0 0 := wp_iload_n rfl rfl
theorem w120_55 : ma_W d 120 Q 55 l st H 0 0 = ma_W d 120 Q 56 l (.int 1 :: st) H 0 0 := wp_iconst rfl (by decide)
theorem w120_56 : ma_W d 120 Q 56 l (.int y :: .int x :: st) H 0 0 = ma_W d 120 Q 57 l (.int (x - y) :: st) H 0 0 := wp_isub rfl
theorem w120_57 : ma_W d 120 Q 57 (o0 :: o1 :: some (.int x) :: l) st H 0 0 = ma_W d 120 Q 58 (o0 :: o1 :: some (.int x) :: l) (.int x :: st) H 0 0 := wp_iload_n rfl rfl
theorem w120_58 : ma_W d 120 Q 58 l (.int y :: .int x :: st) H 0 0 = ma_W d 120 Q 59 l (.int (x - y) :: st) H 0 0 := wp_isub rfl
theorem w120_59 : ma_W d 120 Q 59 (o0 :: some (.int x) :: l) st H 0 0 = ma_W d 120 Q 60 (o0 :: some (.int x) :: l) (.int x :: st) H 0 0 := wp_iload_n rfl rfl
theorem w120_60 : ma_W d 120 Q 60 l (.int x1 :: .int x0 :: st) H 0 0 = (ma_cat st ≤ 8 ∧ ma_MW d 121 [.int x0, .int x1] H (ma_kC d 120 Q 63 l st 0 0)) := wc_S0 (ia := 121) (n := 2) (cn := 7) (k := 1) rfl (by decide +kernel) (by decide) (fun _ => rfl) rfl rfl
theorem w120_63 : ma_W d 120 Q 63 l [.int x] H 0 0 = Q (some (.int x)) H := wp_iret rfl rfl
theorem w120_64 : ma_W d 120 Q 64 (o0 :: o1 :: some (.int x) :: l) st H 0 0 = ma_W d 120 Q 65 (o0 :: o1 :: some (.int x) :: l) (.int x :: st) H 0 0 := wp_iload_n rfl rfl
theorem w120_65 : ma_W d 120 Q 65 (o0 :: some (.int x) :: l) st H 0 0 = ma_W d 120 Q 66 (o0 :: some (.int x) :: l) (.int x :: st) H 0 0 := wp_iload_n rfl rfl
theorem w120_66 : ma_W d 120 Q 66 l (.int x1 :: .int x0 :: st) H 0 0 = (ma_cat st ≤ 8 ∧ ma_MW d 123 [.int x0, .int x1] H (ma_kC d 120 Q 69 l st 0 0)) := wc_S0 (ia := 123) (n := 2) (cn := 7) (k := 1) rfl (by decide +kernel) (by decide) (fun _ => rfl) rfl rfl
theorem w120_69 : ma_W d 120 Q 69 l [.int x] H 0 0 = Q (some (.int x)) H := wp_iret rfl rfl
theorem w120_70 : ma_W d 120 Q 70 (o0 :: o1 :: some (.int x) :: l) st H 0 0 = ma_W d 120 Q 71 (o0 :: o1 :: some (.int x) :: l) (.int x :: st) H 0 0 := wp_iload_n rfl rfl
theorem w120_71 : ma_W d 120 Q 71 l [.int x] H 0 0 = Q (some (.int x)) H := wp_iret rfl rfl
theorem e120 : ma_MW (d + 1) 120 [.int x0, .int x1, .int x2] H Q = ma_W d 120 Q 0 [some (.int x0), some (.int x1), some (.int x2)] [] H 0 0 := wp_enter (by decide) (Nat.le_of_ble_eq_true rfl) rfl
/-! 121 be_halfOn -/
theorem w121_0 : ma_W d 121 Q 0 (o0 :: some (.int x) :: l) st H 0 0 = ma_W d 121 Q 1 (o0 :: some (.int x) :: l) (.int x :: st) H 0 0 := wp_iload_n rfl rfl
theorem w121_1 : ma_W d 121 Q 1 l st H 0 0 = ma_W d 121 Q 2 l (.int 1 :: st) H 0 0 := wp_iconst rfl (by decide)
theorem w121_2 : ma_W d 121 Q 2 l (.int y :: .int x :: st) H 0 0 = ma_if (y ≤ x) d 121 Q 9 5 l st H 0 0 := wp_ic (id := 121) (pc := 2) (c := .ge) (off := 7) 9 rfl (by decide)
theorem w121_5 : ma_W d 121 Q 5 l st H 0 0 = ma_W d 121 Q 6 l (.int 0 :: st) H 0 0 := wp_iconst rfl (by decide)
theorem w121_6 : ma_W d 121 Q 6 l st H 0 0 = ma_W d 121 Q 16 l st H 0 0 := wp_goto 16 rfl (by decide)
theorem w121_9 : ma_W d 121 Q 9 (some (.int x) :: l) st H 0 0 = ma_W d 121 Q 10 (some (.int x) :: l) (.int x :: st) H 0 0 := wp_iload_n rfl rfl
theorem w121_10 : ma_W d 121 Q 10 (o0 :: some (.int x) :: l) st H 0 0 = ma_W d 121 Q 11 (o0 :: some (.int x) :: l) (.int x :: st) H 0 0 := wp_iload_n rfl rfl
theorem w121_11 : ma_W d 121 Q 11 l st H 0 0 = ma_W d 121 Q 12 l (.int 2 :: st) H 0 0 := wp_iconst rfl (by decide)
theorem w121_12 : ma_W d 121 Q 12 l (.int y :: .int x :: st) H 0 0 = (¬ y = 0 ∧ ma_W d 121 Q 13 l (.int (x / y) :: st) H 0 0) := wp_idiv rfl
theorem w121_13 : ma_W d 121 Q 13 l (.int y :: .int x :: st) H 0 0 = ma_W d 121 Q 14 l (.int (x + y) :: st) H 0 0 := wp_iadd rfl
theorem w121_14 : ma_W d 121 Q 14 (o0 :: some (.int x) :: l) st H 0 0 = ma_W d 121 Q 15 (o0 :: some (.int x) :: l) (.int x :: st) H 0 0 := wp_iload_n rfl rfl
theorem w121_15 : ma_W d 121 Q 15 l (.int y :: .int x :: st) H 0 0 = (¬ y = 0 ∧ ma_W d 121 Q 16 l (.int (ma_rem x y) :: st) H 0 0) := wp_irem rfl
theorem w121_16 : ma_W d 121 Q 16 l [.int x] H 0 0 = Q (some (.int x)) H := wp_iret rfl rfl
theorem e121 : ma_MW (d + 1) 121 [.int x0, .int x1] H Q = ma_W d 121 Q 0 [some (.int x0), some (.int x1)] [] H 0 0 := wp_enter (by decide) (Nat.le_of_ble_eq_true rfl) rfl
/-! 122 be_stepped -/
theorem w122_0 : ma_W d 122 Q 0 l st H 0 0 = ma_W d 122 Q 1 l (.int 2 :: st) H 0 0 := wp_iconst rfl (by decide)
theorem w122_1 : ma_W d 122 Q 1 (some (.int x) :: l) st H 0 0 = ma_W d 122 Q 2 (some (.int x) :: l) (.int x :: st) H 0 0 := wp_iload_n rfl rfl
theorem w122_2 : ma_W d 122 Q 2 l (.int y :: .int x :: st) H 0 0 = ma_W d 122 Q 3 l (.int (x * y) :: st) H 0 0 := wp_imul rfl
theorem w122_3 : ma_W d 122 Q 3 (o0 :: some (.int x) :: l) st H 0 0 = ma_W d 122 Q 4 (o0 :: some (.int x) :: l) (.int x :: st) H 0 0 := wp_iload_n rfl rfl
theorem w122_4 : ma_W d 122 Q 4 l (.int y :: .int x :: st) H 0 0 = ma_if (y ≤ x) d 122 Q 11 7 l st H 0 0 := wp_ic (id := 122) (pc := 4) (c := .ge) (off := 7) 11 rfl (by decide)
theorem w122_7 : ma_W d 122 Q 7 l st H 0 0 = ma_W d 122 Q 8 l (.int 2 :: st) H 0 0 := wp_iconst rfl (by decide)
theorem w122_8 : ma_W d 122 Q 8 (some (.int x) :: l) st H 0 0 = ma_W d 122 Q 9 (some (.int x) :: l) (.int x :: st) H 0 0 := wp_iload_n rfl rfl
theorem w122_9 : ma_W d 122 Q 9 l (.int y :: .int x :: st) H 0 0 = ma_W d 122 Q 10 l (.int (x * y) :: st) H 0 0 := wp_imul rfl
theorem w122_10 : ma_W d 122 Q 10 l [.int x] H 0 0 = Q (some (.int x)) H := wp_iret rfl rfl
theorem w122_11 : ma_W d 122 Q 11 (o0 :: some (.int x) :: l) st H 0 0 = ma_W d 122 Q 12 (o0 :: some (.int x) :: l) (.int x :: st) H 0 0 := wp_iload_n rfl rfl
theorem w122_12 : ma_W d 122 Q 12 l st H 0 0 = ma_W d 122 Q 13 l (.int 2 :: st) H 0 0 := wp_iconst rfl (by decide)
theorem w122_13 : ma_W d 122 Q 13 l (.int y :: .int x :: st) H 0 0 = (¬ y = 0 ∧ ma_W d 122 Q 14 l (.int (ma_rem x y) :: st) H 0 0) := wp_irem rfl
theorem w122_14 : ma_W d 122 Q 14 l st H 0 0 = ma_W d 122 Q 15 l (.int 1 :: st) H 0 0 := wp_iconst rfl (by decide)
theorem w122_15 : ma_W d 122 Q 15 l (.int y :: .int x :: st) H 0 0 = ma_if (x = y) d 122 Q 18 26 l st H 0 0 := wp_ic (id := 122) (pc := 15) (c := .ne) (off := 11) 26 rfl (by decide)
theorem w122_18 : ma_W d 122 Q 18 l st H 0 0 = ma_W d 122 Q 19 l (.int 2 :: st) H 0 0 := wp_iconst rfl (by decide)
theorem w122_19 : ma_W d 122 Q 19 (some (.int x) :: l) st H 0 0 = ma_W d 122 Q 20 (some (.int x) :: l) (.int x :: st) H 0 0 := wp_iload_n rfl rfl
theorem w122_20 : ma_W d 122 Q 20 l (.int y :: .int x :: st) H 0 0 = ma_W d 122 Q 21 l (.int (x * y) :: st) H 0 0 := wp_imul rfl
theorem w122_21 : ma_W d 122 Q 21 (o0 :: some (.int x) :: l) st H 0 0 = ma_W d 122 Q 22 (o0 :: some (.int x) :: l) (.int x :: st) H 0 0 := wp_iload_n rfl rfl
theorem w122_22 : ma_W d 122 Q 22 l (.int y :: .int x :: st) H 0 0 = ma_W d 122 Q 23 l (.int (x - y) :: st) H 0 0 := wp_isub rfl
theorem w122_23 : ma_W d 122 Q 23 l st H 0 0 = ma_W d 122 Q 33 l st H 0 0 := wp_goto 33 rfl (by decide)
theorem w122_26 : ma_W d 122 Q 26 l st H 0 0 = ma_W d 122 Q 27 l (.int 2 :: st) H 0 0 := wp_iconst rfl (by decide)
theorem w122_27 : ma_W d 122 Q 27 (some (.int x) :: l) st H 0 0 = ma_W d 122 Q 28 (some (.int x) :: l) (.int x :: st) H 0 0 := wp_iload_n rfl rfl
theorem w122_28 : ma_W d 122 Q 28 l (.int y :: .int x :: st) H 0 0 = ma_W d 122 Q 29 l (.int (x * y) :: st) H 0 0 := wp_imul rfl
theorem w122_29 : ma_W d 122 Q 29 (o0 :: some (.int x) :: l) st H 0 0 = ma_W d 122 Q 30 (o0 :: some (.int x) :: l) (.int x :: st) H 0 0 := wp_iload_n rfl rfl
theorem w122_30 : ma_W d 122 Q 30 l (.int y :: .int x :: st) H 0 0 = ma_W d 122 Q 31 l (.int (x - y) :: st) H 0 0 := wp_isub rfl
theorem w122_31 : ma_W d 122 Q 31 l st H 0 0 = ma_W d 122 Q 32 l (.int 1 :: st) H 0 0 := wp_iconst rfl (by decide)
theorem w122_32 : ma_W d 122 Q 32 l (.int y :: .int x :: st) H 0 0 = ma_W d 122 Q 33 l (.int (x + y) :: st) H 0 0 := wp_iadd rfl
theorem w122_33 : ma_W d 122 Q 33 l [.int x] H 0 0 = Q (some (.int x)) H := wp_iret rfl rfl
theorem e122 : ma_MW (d + 1) 122 [.int x0, .int x1] H Q = ma_W d 122 Q 0 [some (.int x0), some (.int x1)] [] H 0 0 := wp_enter (by decide) (Nat.le_of_ble_eq_true rfl) rfl
/-! 123 be_paired -/
theorem w123_0 : ma_W d 123 Q 0 (some (.int x) :: l) st H 0 0 = ma_W d 123 Q 1 (some (.int x) :: l) (.int x :: st) H 0 0 := wp_iload_n rfl rfl
theorem w123_1 : ma_W d 123 Q 1 l st H 0 0 = ma_W d 123 Q 2 l (.int 2 :: st) H 0 0 := wp_iconst rfl (by decide)
theorem w123_2 : ma_W d 123 Q 2 l (.int y :: .int x :: st) H 0 0 = (¬ y = 0 ∧ ma_W d 123 Q 3 l (.int (ma_rem x y) :: st) H 0 0) := wp_irem rfl
theorem w123_3 : ma_W d 123 Q 3 l st H 0 0 = ma_W d 123 Q 4 l (.int 1 :: st) H 0 0 := wp_iconst rfl (by decide)
theorem w123_4 : ma_W d 123 Q 4 l (.int y :: .int x :: st) H 0 0 = ma_if (x = y) d 123 Q 7 11 l st H 0 0 := wp_ic (id := 123) (pc := 4) (c := .ne) (off := 7) 11 rfl (by decide)
theorem w123_7 : ma_W d 123 Q 7 (some (.int x) :: l) st H 0 0 = ma_W d 123 Q 8 (some (.int x) :: l) (.int x :: st) H 0 0 := wp_iload_n rfl rfl
theorem w123_8 : ma_W d 123 Q 8 l st H 0 0 = ma_W d 123 Q 9 l (.int 1 :: st) H 0 0 := wp_iconst rfl (by decide)
theorem w123_9 : ma_W d 123 Q 9 l (.int y :: .int x :: st) H 0 0 = ma_W d 123 Q 10 l (.int (x - y) :: st) H 0 0 := wp_isub rfl
theorem w123_10 : ma_W d 123 Q 10 l [.int x] H 0 0 = Q (some (.int x)) H := wp_iret rfl rfl
theorem w123_11 : ma_W d 123 Q 11 (some (.int x) :: l) st H 0 0 = ma_W d 123 Q 12 (some (.int x) :: l) (.int x :: st) H 0 0 := wp_iload_n rfl rfl
theorem w123_12 : ma_W d 123 Q 12 l st H 0 0 = ma_W d 123 Q 13 l (.int 1 :: st) H 0 0 := wp_iconst rfl (by decide)
theorem w123_13 : ma_W d 123 Q 13 l (.int y :: .int x :: st) H 0 0 = ma_W d 123 Q 14 l (.int (x + y) :: st) H 0 0 := wp_iadd rfl
theorem w123_14 : ma_W d 123 Q 14 (o0 :: some (.int x) :: l) st H 0 0 = ma_W d 123 Q 15 (o0 :: some (.int x) :: l) (.int x :: st) H 0 0 := wp_iload_n rfl rfl
theorem w123_15 : ma_W d 123 Q 15 l (.int y :: .int x :: st) H 0 0 = ma_if (y ≤ x) d 123 Q 24 18 l st H 0 0 := wp_ic (id := 123) (pc := 15) (c := .ge) (off := 9) 24 rfl (by decide)
theorem w123_18 : ma_W d 123 Q 18 (some (.int x) :: l) st H 0 0 = ma_W d 123 Q 19 (some (.int x) :: l) (.int x :: st) H 0 0 := wp_iload_n rfl rfl
theorem w123_19 : ma_W d 123 Q 19 l st H 0 0 = ma_W d 123 Q 20 l (.int 1 :: st) H 0 0 := wp_iconst rfl (by decide)
theorem w123_20 : ma_W d 123 Q 20 l (.int y :: .int x :: st) H 0 0 = ma_W d 123 Q 21 l (.int (x + y) :: st) H 0 0 := wp_iadd rfl
theorem w123_21 : ma_W d 123 Q 21 l st H 0 0 = ma_W d 123 Q 25 l st H 0 0 := wp_goto 25 rfl (by decide)
theorem w123_24 : ma_W d 123 Q 24 (some (.int x) :: l) st H 0 0 = ma_W d 123 Q 25 (some (.int x) :: l) (.int x :: st) H 0 0 := wp_iload_n rfl rfl
theorem w123_25 : ma_W d 123 Q 25 l [.int x] H 0 0 = Q (some (.int x)) H := wp_iret rfl rfl
theorem e123 : ma_MW (d + 1) 123 [.int x0, .int x1] H Q = ma_W d 123 Q 0 [some (.int x0), some (.int x1)] [] H 0 0 := wp_enter (by decide) (Nat.le_of_ble_eq_true rfl) rfl
/-! 195 gu_cardKinds -/
theorem w195_0 : ma_W d 195 Q 0 l st H 0 0 = ma_W d 195 Q 1 l (.int 0 :: st) H 0 0 := wp_iconst rfl (by decide)
theorem w195_1 : ma_W d 195 Q 1 (o0 :: p :: l) (.int x :: st) H 0 0 = ma_W d 195 Q 2 (ma_clr o0 :: some (.int x) :: l) st H 0 0 := wp_istore_n (id := 195) (pc := 1) (k := 1) rfl (Nat.succ_lt_succ (Nat.zero_lt_succ _))
theorem w195_2 : ma_W d 195 Q 2 l st H 0 0 = ma_W d 195 Q 3 l (.int 0 :: st) H 0 0 := wp_iconst rfl (by decide)
theorem w195_3 : ma_W d 195 Q 3 (o0 :: o1 :: p :: l) (.int x :: st) H 0 0 = ma_W d 195 Q 4 (o0 :: ma_clr o1 :: some (.int x) :: l) st H 0 0 := wp_istore_n (id := 195) (pc := 3) (k := 2) rfl (Nat.succ_lt_succ (Nat.succ_lt_succ (Nat.zero_lt_succ _)))
theorem w195_4 : ma_W d 195 Q 4 (o0 :: o1 :: some (.int x) :: l) st H 0 0 = ma_W d 195 Q 5 (o0 :: o1 :: some (.int x) :: l) (.int x :: st) H 0 0 := wp_iload_n rfl rfl
theorem w195_5 : ma_W d 195 Q 5 l st H 0 0 = ma_W d 195 Q 7 l (.int 6 :: st) H 0 0 := wp_bipush rfl (by decide)
theorem w195_7 : ma_W d 195 Q 7 l (.int y :: .int x :: st) H 0 0 = ma_if (y ≤ x) d 195 Q 30 10 l st H 0 0 := wp_ic (id := 195) (pc := 7) (c := .ge) (off := 23) 30 rfl (by decide)
theorem w195_10 : ma_W d 195 Q 10 (some (.ref i) :: l) st H 0 0 = ma_W d 195 Q 11 (some (.ref i) :: l) (.ref i :: st) H 0 0 := wp_aload_n (x := some i) rfl rfl
theorem w195_11 : ma_W d 195 Q 11 (o0 :: o1 :: some (.int x) :: l) st H 0 0 = ma_W d 195 Q 12 (o0 :: o1 :: some (.int x) :: l) (.int x :: st) H 0 0 := wp_iload_n rfl rfl
theorem w195_12 : ma_W d 195 Q 12 l (.int x0 :: .ref i :: st) H 0 0 = (ma_cat st ≤ 8 ∧ ma_cv (H.1 i) 3 d 29 [.ref i, .int x0] H (ma_kC d 195 Q 15 l st 0 0)) := wc_V0 (ia := 29) (n := 2) (cn := 3) rfl (by decide +kernel) (fun _ => rfl) rfl rfl
theorem w195_15 : ma_W d 195 Q 15 l (.int x :: st) H 0 0 = ma_if (x = 0) d 195 Q 24 18 l st H 0 0 := wp_c0 (id := 195) (pc := 15) (c := .eq) (off := 9) 24 rfl (by decide)
theorem w195_18 : ma_W d 195 Q 18 (o0 :: some (.int x) :: l) st H 0 0 = ma_W d 195 Q 19 (o0 :: some (.int x) :: l) (.int x :: st) H 0 0 := wp_iload_n rfl rfl
theorem w195_19 : ma_W d 195 Q 19 l st H 0 0 = ma_W d 195 Q 20 l (.int 1 :: st) H 0 0 := wp_iconst rfl (by decide)
theorem w195_20 : ma_W d 195 Q 20 (o0 :: o1 :: some (.int x) :: l) st H 0 0 = ma_W d 195 Q 21 (o0 :: o1 :: some (.int x) :: l) (.int x :: st) H 0 0 := wp_iload_n rfl rfl
theorem w195_21 : ma_W d 195 Q 21 l (.int y :: .int x :: st) H 0 0 = ma_W d 195 Q 22 l (.int (x <<< (y &&& 31)) :: st) H 0 0 := wp_ishl rfl
theorem w195_22 : ma_W d 195 Q 22 l (.int y :: .int x :: st) H 0 0 = ma_W d 195 Q 23 l (.int (x ||| y) :: st) H 0 0 := wp_ior rfl
theorem w195_23 : ma_W d 195 Q 23 (o0 :: p :: l) (.int x :: st) H 0 0 = ma_W d 195 Q 24 (ma_clr o0 :: some (.int x) :: l) st H 0 0 := wp_istore_n (id := 195) (pc := 23) (k := 1) rfl (Nat.succ_lt_succ (Nat.zero_lt_succ _))
theorem w195_24 : ma_W d 195 Q 24 (o0 :: o1 :: some (.int x) :: l) st H 0 0 = ma_W d 195 Q 27 (o0 :: ma_clr o1 :: some (.int (x + 1)) :: l) st H 0 0 := wp_iinc (id := 195) (pc := 24) (k := 2) (n := 1) rfl (Nat.succ_lt_succ (Nat.succ_lt_succ (Nat.zero_lt_succ _))) rfl (by decide)
theorem w195_27 : ma_W d 195 Q 27 l st H 0 0 = ma_W d 195 Q 4 l st H 0 0 := wp_goto 4 rfl (by decide)
theorem w195_30 : ma_W d 195 Q 30 (o0 :: some (.int x) :: l) st H 0 0 = ma_W d 195 Q 31 (o0 :: some (.int x) :: l) (.int x :: st) H 0 0 := wp_iload_n rfl rfl
theorem w195_31 : ma_W d 195 Q 31 l [.int x] H 0 0 = Q (some (.int x)) H := wp_iret rfl rfl
theorem e195 : ma_MW (d + 1) 195 [.ref i0] H Q = ma_W d 195 Q 0 [some (.ref i0), none, none] [] H 0 0 := wp_enter (by decide) (Nat.le_of_ble_eq_true rfl) rfl
/-! 196 gu_playerKinds -/
theorem w196_0 : ma_W d 196 Q 0 l st H 0 0 = ma_W d 196 Q 1 l (.int 0 :: st) H 0 0 := wp_iconst rfl (by decide)
theorem w196_1 : ma_W d 196 Q 1 (o0 :: o1 :: p :: l) (.int x :: st) H 0 0 = ma_W d 196 Q 2 (o0 :: ma_clr o1 :: some (.int x) :: l) st H 0 0 := wp_istore_n (id := 196) (pc := 1) (k := 2) rfl (Nat.succ_lt_succ (Nat.succ_lt_succ (Nat.zero_lt_succ _)))
theorem w196_2 : ma_W d 196 Q 2 l st H 0 0 = ma_W d 196 Q 3 l (.int 0 :: st) H 0 0 := wp_iconst rfl (by decide)
theorem w196_3 : ma_W d 196 Q 3 (o0 :: o1 :: o2 :: p :: l) (.int x :: st) H 0 0 = ma_W d 196 Q 4 (o0 :: o1 :: ma_clr o2 :: some (.int x) :: l) st H 0 0 := wp_istore_n (id := 196) (pc := 3) (k := 3) rfl (Nat.succ_lt_succ (Nat.succ_lt_succ (Nat.succ_lt_succ (Nat.zero_lt_succ _))))
theorem w196_4 : ma_W d 196 Q 4 (o0 :: o1 :: o2 :: some (.int x) :: l) st H 0 0 = ma_W d 196 Q 5 (o0 :: o1 :: o2 :: some (.int x) :: l) (.int x :: st) H 0 0 := wp_iload_n rfl rfl
theorem w196_5 : ma_W d 196 Q 5 l st H 0 0 = ma_W d 196 Q 7 l (.int 6 :: st) H 0 0 := wp_bipush rfl (by decide)
theorem w196_7 : ma_W d 196 Q 7 l (.int y :: .int x :: st) H 0 0 = ma_if (y ≤ x) d 196 Q 31 10 l st H 0 0 := wp_ic (id := 196) (pc := 7) (c := .ge) (off := 24) 31 rfl (by decide)
theorem w196_10 : ma_W d 196 Q 10 (some (.ref i) :: l) st H 0 0 = ma_W d 196 Q 11 (some (.ref i) :: l) (.ref i :: st) H 0 0 := wp_aload_n (x := some i) rfl rfl
theorem w196_11 : ma_W d 196 Q 11 (o0 :: o1 :: o2 :: some (.int x) :: l) st H 0 0 = ma_W d 196 Q 12 (o0 :: o1 :: o2 :: some (.int x) :: l) (.int x :: st) H 0 0 := wp_iload_n rfl rfl
theorem w196_12 : ma_W d 196 Q 12 (o0 :: some (.int x) :: l) st H 0 0 = ma_W d 196 Q 13 (o0 :: some (.int x) :: l) (.int x :: st) H 0 0 := wp_iload_n rfl rfl
theorem w196_13 : ma_W d 196 Q 13 l (.int x1 :: .int x0 :: .ref i :: st) H 0 0 = (ma_cat st ≤ 8 ∧ ma_cv (H.1 i) 3 d 30 [.ref i, .int x0, .int x1] H (ma_kC d 196 Q 16 l st 0 0)) := wc_V0 (ia := 30) (n := 3) (cn := 3) rfl (by decide +kernel) (fun _ => rfl) rfl rfl
theorem w196_16 : ma_W d 196 Q 16 l (.int x :: st) H 0 0 = ma_if (x = 0) d 196 Q 25 19 l st H 0 0 := wp_c0 (id := 196) (pc := 16) (c := .eq) (off := 9) 25 rfl (by decide)
theorem w196_19 : ma_W d 196 Q 19 (o0 :: o1 :: some (.int x) :: l) st H 0 0 = ma_W d 196 Q 20 (o0 :: o1 :: some (.int x) :: l) (.int x :: st) H 0 0 := wp_iload_n rfl rfl
theorem w196_20 : ma_W d 196 Q 20 l st H 0 0 = ma_W d 196 Q 21 l (.int 1 :: st) H 0 0 := wp_iconst rfl (by decide)
theorem w196_21 : ma_W d 196 Q 21 (o0 :: o1 :: o2 :: some (.int x) :: l) st H 0 0 = ma_W d 196 Q 22 (o0 :: o1 :: o2 :: some (.int x) :: l) (.int x :: st) H 0 0 := wp_iload_n rfl rfl
theorem w196_22 : ma_W d 196 Q 22 l (.int y :: .int x :: st) H 0 0 = ma_W d 196 Q 23 l (.int (x <<< (y &&& 31)) :: st) H 0 0 := wp_ishl rfl
theorem w196_23 : ma_W d 196 Q 23 l (.int y :: .int x :: st) H 0 0 = ma_W d 196 Q 24 l (.int (x ||| y) :: st) H 0 0 := wp_ior rfl
theorem w196_24 : ma_W d 196 Q 24 (o0 :: o1 :: p :: l) (.int x :: st) H 0 0 = ma_W d 196 Q 25 (o0 :: ma_clr o1 :: some (.int x) :: l) st H 0 0 := wp_istore_n (id := 196) (pc := 24) (k := 2) rfl (Nat.succ_lt_succ (Nat.succ_lt_succ (Nat.zero_lt_succ _)))
theorem w196_25 : ma_W d 196 Q 25 (o0 :: o1 :: o2 :: some (.int x) :: l) st H 0 0 = ma_W d 196 Q 28 (o0 :: o1 :: ma_clr o2 :: some (.int (x + 1)) :: l) st H 0 0 := wp_iinc (id := 196) (pc := 25) (k := 3) (n := 1) rfl (Nat.succ_lt_succ (Nat.succ_lt_succ (Nat.succ_lt_succ (Nat.zero_lt_succ _)))) rfl (by decide)
theorem w196_28 : ma_W d 196 Q 28 l st H 0 0 = ma_W d 196 Q 4 l st H 0 0 := wp_goto 4 rfl (by decide)
theorem w196_31 : ma_W d 196 Q 31 (o0 :: o1 :: some (.int x) :: l) st H 0 0 = ma_W d 196 Q 32 (o0 :: o1 :: some (.int x) :: l) (.int x :: st) H 0 0 := wp_iload_n rfl rfl
theorem w196_32 : ma_W d 196 Q 32 l [.int x] H 0 0 = Q (some (.int x)) H := wp_iret rfl rfl
theorem e196 : ma_MW (d + 1) 196 [.ref i0, .int x1] H Q = ma_W d 196 Q 0 [some (.ref i0), some (.int x1), none, none] [] H 0 0 := wp_enter (by decide) (Nat.le_of_ble_eq_true rfl) rfl
/-! 197 gu_bestLook -/
theorem w197_0 : ma_W d 197 Q 0 l st H 0 0 = ma_W d 197 Q 1 l (.int (-1) :: st) H 0 0 := wp_iconst rfl (by decide)
theorem w197_1 : ma_W d 197 Q 1 (o0 :: p :: l) (.int x :: st) H 0 0 = ma_W d 197 Q 2 (ma_clr o0 :: some (.int x) :: l) st H 0 0 := wp_istore_n (id := 197) (pc := 1) (k := 1) rfl (Nat.succ_lt_succ (Nat.zero_lt_succ _))
theorem w197_2 : ma_W d 197 Q 2 l st H 0 0 = ma_W d 197 Q 4 l (.int 7 :: st) H 0 0 := wp_bipush rfl (by decide)
theorem w197_4 : ma_W d 197 Q 4 (o0 :: o1 :: p :: l) (.int x :: st) H 0 0 = ma_W d 197 Q 5 (o0 :: ma_clr o1 :: some (.int x) :: l) st H 0 0 := wp_istore_n (id := 197) (pc := 4) (k := 2) rfl (Nat.succ_lt_succ (Nat.succ_lt_succ (Nat.zero_lt_succ _)))
theorem w197_5 : ma_W d 197 Q 5 l st H 0 0 = ma_W d 197 Q 6 l (.int 1 :: st) H 0 0 := wp_iconst rfl (by decide)
theorem w197_6 : ma_W d 197 Q 6 (o0 :: o1 :: o2 :: p :: l) (.int x :: st) H 0 0 = ma_W d 197 Q 7 (o0 :: o1 :: ma_clr o2 :: some (.int x) :: l) st H 0 0 := wp_istore_n (id := 197) (pc := 6) (k := 3) rfl (Nat.succ_lt_succ (Nat.succ_lt_succ (Nat.succ_lt_succ (Nat.zero_lt_succ _))))
theorem w197_7 : ma_W d 197 Q 7 (some (.int x) :: l) st H 0 0 = ma_W d 197 Q 8 (some (.int x) :: l) (.int x :: st) H 0 0 := wp_iload_n rfl rfl
theorem w197_8 : ma_W d 197 Q 8 l (.int x :: st) H 0 0 = ma_if (x = 0) d 197 Q 41 11 l st H 0 0 := wp_c0 (id := 197) (pc := 8) (c := .eq) (off := 33) 41 rfl (by decide)
theorem w197_11 : ma_W d 197 Q 11 (o0 :: o1 :: o2 :: some (.int x) :: l) st H 0 0 = ma_W d 197 Q 12 (o0 :: o1 :: o2 :: some (.int x) :: l) (.int x :: st) H 0 0 := wp_iload_n rfl rfl
theorem w197_12 : ma_W d 197 Q 12 l st H 0 0 = ma_W d 197 Q 14 l (.int 16 :: st) H 0 0 := wp_bipush rfl (by decide)
theorem w197_14 : ma_W d 197 Q 14 l (.int y :: .int x :: st) H 0 0 = ma_if (y < x) d 197 Q 41 17 l st H 0 0 := wp_ic (id := 197) (pc := 14) (c := .gt) (off := 27) 41 rfl (by decide)
theorem w197_17 : ma_W d 197 Q 17 (some (.int x) :: l) st H 0 0 = ma_W d 197 Q 18 (some (.int x) :: l) (.int x :: st) H 0 0 := wp_iload_n rfl rfl
theorem w197_18 : ma_W d 197 Q 18 (o0 :: o1 :: o2 :: some (.int x) :: l) st H 0 0 = ma_W d 197 Q 19 (o0 :: o1 :: o2 :: some (.int x) :: l) (.int x :: st) H 0 0 := wp_iload_n rfl rfl
theorem w197_19 : ma_W d 197 Q 19 l (.int x1 :: .int x0 :: st) H 0 0 = (ma_cat st ≤ 8 ∧ ma_MW d 200 [.int x0, .int x1] H (ma_kC d 197 Q 22 l st 0 0)) := wc_S0 (ia := 200) (n := 2) (cn := 9) (k := 1) rfl (by decide +kernel) (by decide) (fun _ => rfl) rfl rfl
theorem w197_22 : ma_W d 197 Q 22 (o0 :: o1 :: o2 :: o3 :: p :: l) (.int x :: st) H 0 0 = ma_W d 197 Q 24 (o0 :: o1 :: o2 :: ma_clr o3 :: some (.int x) :: l) st H 0 0 := wp_istore (id := 197) (pc := 22) (k := 4) rfl (Nat.succ_lt_succ (Nat.succ_lt_succ (Nat.succ_lt_succ (Nat.succ_lt_succ (Nat.zero_lt_succ _)))))
theorem w197_24 : ma_W d 197 Q 24 (o0 :: o1 :: o2 :: o3 :: some (.int x) :: l) st H 0 0 = ma_W d 197 Q 26 (o0 :: o1 :: o2 :: o3 :: some (.int x) :: l) (.int x :: st) H 0 0 := wp_iload rfl rfl
theorem w197_26 : ma_W d 197 Q 26 (o0 :: o1 :: some (.int x) :: l) st H 0 0 = ma_W d 197 Q 27 (o0 :: o1 :: some (.int x) :: l) (.int x :: st) H 0 0 := wp_iload_n rfl rfl
theorem w197_27 : ma_W d 197 Q 27 l (.int y :: .int x :: st) H 0 0 = ma_if (y ≤ x) d 197 Q 35 30 l st H 0 0 := wp_ic (id := 197) (pc := 27) (c := .ge) (off := 8) 35 rfl (by decide)
theorem w197_30 : ma_W d 197 Q 30 (o0 :: o1 :: o2 :: o3 :: some (.int x) :: l) st H 0 0 = ma_W d 197 Q 32 (o0 :: o1 :: o2 :: o3 :: some (.int x) :: l) (.int x :: st) H 0 0 := wp_iload rfl rfl
theorem w197_32 : ma_W d 197 Q 32 (o0 :: o1 :: p :: l) (.int x :: st) H 0 0 = ma_W d 197 Q 33 (o0 :: ma_clr o1 :: some (.int x) :: l) st H 0 0 := wp_istore_n (id := 197) (pc := 32) (k := 2) rfl (Nat.succ_lt_succ (Nat.succ_lt_succ (Nat.zero_lt_succ _)))
theorem w197_33 : ma_W d 197 Q 33 (o0 :: o1 :: o2 :: some (.int x) :: l) st H 0 0 = ma_W d 197 Q 34 (o0 :: o1 :: o2 :: some (.int x) :: l) (.int x :: st) H 0 0 := wp_iload_n rfl rfl
theorem w197_34 : ma_W d 197 Q 34 (o0 :: p :: l) (.int x :: st) H 0 0 = ma_W d 197 Q 35 (ma_clr o0 :: some (.int x) :: l) st H 0 0 := wp_istore_n (id := 197) (pc := 34) (k := 1) rfl (Nat.succ_lt_succ (Nat.zero_lt_succ _))
theorem w197_35 : ma_W d 197 Q 35 (o0 :: o1 :: o2 :: some (.int x) :: l) st H 0 0 = ma_W d 197 Q 38 (o0 :: o1 :: ma_clr o2 :: some (.int (x + 1)) :: l) st H 0 0 := wp_iinc (id := 197) (pc := 35) (k := 3) (n := 1) rfl (Nat.succ_lt_succ (Nat.succ_lt_succ (Nat.succ_lt_succ (Nat.zero_lt_succ _)))) rfl (by decide)
theorem w197_38 : ma_W d 197 Q 38 l st H 0 0 = ma_W d 197 Q 7 l st H 0 0 := wp_goto 7 rfl (by decide)
theorem w197_41 : ma_W d 197 Q 41 (o0 :: some (.int x) :: l) st H 0 0 = ma_W d 197 Q 42 (o0 :: some (.int x) :: l) (.int x :: st) H 0 0 := wp_iload_n rfl rfl
theorem w197_42 : ma_W d 197 Q 42 l [.int x] H 0 0 = Q (some (.int x)) H := wp_iret rfl rfl
theorem e197 : ma_MW (d + 1) 197 [.int x0] H Q = ma_W d 197 Q 0 [some (.int x0), none, none, none, none] [] H 0 0 := wp_enter (by decide) (Nat.le_of_ble_eq_true rfl) rfl
/-! 198 gu_bestAsk -/
theorem w198_0 : ma_W d 198 Q 0 l st H 0 0 = ma_W d 198 Q 1 l (.int (-1) :: st) H 0 0 := wp_iconst rfl (by decide)
theorem w198_1 : ma_W d 198 Q 1 (o0 :: p :: l) (.int x :: st) H 0 0 = ma_W d 198 Q 2 (ma_clr o0 :: some (.int x) :: l) st H 0 0 := wp_istore_n (id := 198) (pc := 1) (k := 1) rfl (Nat.succ_lt_succ (Nat.zero_lt_succ _))
theorem w198_2 : ma_W d 198 Q 2 l st H 0 0 = ma_W d 198 Q 4 l (.int 7 :: st) H 0 0 := wp_bipush rfl (by decide)
theorem w198_4 : ma_W d 198 Q 4 (o0 :: o1 :: p :: l) (.int x :: st) H 0 0 = ma_W d 198 Q 5 (o0 :: ma_clr o1 :: some (.int x) :: l) st H 0 0 := wp_istore_n (id := 198) (pc := 4) (k := 2) rfl (Nat.succ_lt_succ (Nat.succ_lt_succ (Nat.zero_lt_succ _)))
theorem w198_5 : ma_W d 198 Q 5 l st H 0 0 = ma_W d 198 Q 6 l (.int 1 :: st) H 0 0 := wp_iconst rfl (by decide)
theorem w198_6 : ma_W d 198 Q 6 (o0 :: o1 :: o2 :: p :: l) (.int x :: st) H 0 0 = ma_W d 198 Q 7 (o0 :: o1 :: ma_clr o2 :: some (.int x) :: l) st H 0 0 := wp_istore_n (id := 198) (pc := 6) (k := 3) rfl (Nat.succ_lt_succ (Nat.succ_lt_succ (Nat.succ_lt_succ (Nat.zero_lt_succ _))))
theorem w198_7 : ma_W d 198 Q 7 (some (.int x) :: l) st H 0 0 = ma_W d 198 Q 8 (some (.int x) :: l) (.int x :: st) H 0 0 := wp_iload_n rfl rfl
theorem w198_8 : ma_W d 198 Q 8 l (.int x :: st) H 0 0 = ma_if (x = 0) d 198 Q 64 11 l st H 0 0 := wp_c0 (id := 198) (pc := 8) (c := .eq) (off := 56) 64 rfl (by decide)
theorem w198_11 : ma_W d 198 Q 11 (o0 :: o1 :: o2 :: some (.int x) :: l) st H 0 0 = ma_W d 198 Q 12 (o0 :: o1 :: o2 :: some (.int x) :: l) (.int x :: st) H 0 0 := wp_iload_n rfl rfl
theorem w198_12 : ma_W d 198 Q 12 l st H 0 0 = ma_W d 198 Q 14 l (.int 16 :: st) H 0 0 := wp_bipush rfl (by decide)
theorem w198_14 : ma_W d 198 Q 14 l (.int y :: .int x :: st) H 0 0 = ma_if (y < x) d 198 Q 64 17 l st H 0 0 := wp_ic (id := 198) (pc := 14) (c := .gt) (off := 50) 64 rfl (by decide)
theorem w198_17 : ma_W d 198 Q 17 l st H 0 0 = ma_W d 198 Q 18 l (.int 0 :: st) H 0 0 := wp_iconst rfl (by decide)
theorem w198_18 : ma_W d 198 Q 18 (o0 :: o1 :: o2 :: o3 :: p :: l) (.int x :: st) H 0 0 = ma_W d 198 Q 20 (o0 :: o1 :: o2 :: ma_clr o3 :: some (.int x) :: l) st H 0 0 := wp_istore (id := 198) (pc := 18) (k := 4) rfl (Nat.succ_lt_succ (Nat.succ_lt_succ (Nat.succ_lt_succ (Nat.succ_lt_succ (Nat.zero_lt_succ _)))))
theorem w198_20 : ma_W d 198 Q 20 (o0 :: o1 :: o2 :: o3 :: some (.int x) :: l) st H 0 0 = ma_W d 198 Q 22 (o0 :: o1 :: o2 :: o3 :: some (.int x) :: l) (.int x :: st) H 0 0 := wp_iload rfl rfl
theorem w198_22 : ma_W d 198 Q 22 (o0 :: o1 :: o2 :: some (.int x) :: l) st H 0 0 = ma_W d 198 Q 23 (o0 :: o1 :: o2 :: some (.int x) :: l) (.int x :: st) H 0 0 := wp_iload_n rfl rfl
theorem w198_23 : ma_W d 198 Q 23 l (.int y :: .int x :: st) H 0 0 = ma_if (y ≤ x) d 198 Q 58 26 l st H 0 0 := wp_ic (id := 198) (pc := 23) (c := .ge) (off := 35) 58 rfl (by decide)
theorem w198_26 : ma_W d 198 Q 26 (some (.int x) :: l) st H 0 0 = ma_W d 198 Q 27 (some (.int x) :: l) (.int x :: st) H 0 0 := wp_iload_n rfl rfl
theorem w198_27 : ma_W d 198 Q 27 (o0 :: o1 :: o2 :: some (.int x) :: l) st H 0 0 = ma_W d 198 Q 28 (o0 :: o1 :: o2 :: some (.int x) :: l) (.int x :: st) H 0 0 := wp_iload_n rfl rfl
theorem w198_28 : ma_W d 198 Q 28 (o0 :: o1 :: o2 :: o3 :: some (.int x) :: l) st H 0 0 = ma_W d 198 Q 30 (o0 :: o1 :: o2 :: o3 :: some (.int x) :: l) (.int x :: st) H 0 0 := wp_iload rfl rfl
theorem w198_30 : ma_W d 198 Q 30 l (.int x2 :: .int x1 :: .int x0 :: st) H 0 0 = (ma_cat st ≤ 8 ∧ ma_MW d 201 [.int x0, .int x1, .int x2] H (ma_kC d 198 Q 33 l st 0 0)) := wc_S0 (ia := 201) (n := 3) (cn := 9) (k := 1) rfl (by decide +kernel) (by decide) (fun _ => rfl) rfl rfl
theorem w198_33 : ma_W d 198 Q 33 (o0 :: o1 :: o2 :: o3 :: o4 :: p :: l) (.int x :: st) H 0 0 = ma_W d 198 Q 35 (o0 :: o1 :: o2 :: o3 :: ma_clr o4 :: some (.int x) :: l) st H 0 0 := wp_istore (id := 198) (pc := 33) (k := 5) rfl (Nat.succ_lt_succ (Nat.succ_lt_succ (Nat.succ_lt_succ (Nat.succ_lt_succ (Nat.succ_lt_succ (Nat.zero_lt_succ _))))))
theorem w198_35 : ma_W d 198 Q 35 (o0 :: o1 :: o2 :: o3 :: o4 :: some (.int x) :: l) st H 0 0 = ma_W d 198 Q 37 (o0 :: o1 :: o2 :: o3 :: o4 :: some (.int x) :: l) (.int x :: st) H 0 0 := wp_iload rfl rfl
theorem w198_37 : ma_W d 198 Q 37 (o0 :: o1 :: some (.int x) :: l) st H 0 0 = ma_W d 198 Q 38 (o0 :: o1 :: some (.int x) :: l) (.int x :: st) H 0 0 := wp_iload_n rfl rfl
theorem w198_38 : ma_W d 198 Q 38 l (.int y :: .int x :: st) H 0 0 = ma_if (y ≤ x) d 198 Q 52 41 l st H 0 0 := wp_ic (id := 198) (pc := 38) (c := .ge) (off := 14) 52 rfl (by decide)
theorem w198_41 : ma_W d 198 Q 41 (o0 :: o1 :: o2 :: o3 :: o4 :: some (.int x) :: l) st H 0 0 = ma_W d 198 Q 43 (o0 :: o1 :: o2 :: o3 :: o4 :: some (.int x) :: l) (.int x :: st) H 0 0 := wp_iload rfl rfl
theorem w198_43 : ma_W d 198 Q 43 (o0 :: o1 :: p :: l) (.int x :: st) H 0 0 = ma_W d 198 Q 44 (o0 :: ma_clr o1 :: some (.int x) :: l) st H 0 0 := wp_istore_n (id := 198) (pc := 43) (k := 2) rfl (Nat.succ_lt_succ (Nat.succ_lt_succ (Nat.zero_lt_succ _)))
theorem w198_44 : ma_W d 198 Q 44 l st H 0 0 = ma_W d 198 Q 46 l (.int 100 :: st) H 0 0 := wp_bipush rfl (by decide)
theorem w198_46 : ma_W d 198 Q 46 (o0 :: o1 :: o2 :: some (.int x) :: l) st H 0 0 = ma_W d 198 Q 47 (o0 :: o1 :: o2 :: some (.int x) :: l) (.int x :: st) H 0 0 := wp_iload_n rfl rfl
theorem w198_47 : ma_W d 198 Q 47 l (.int y :: .int x :: st) H 0 0 = ma_W d 198 Q 48 l (.int (x * y) :: st) H 0 0 := wp_imul rfl
theorem w198_48 : ma_W d 198 Q 48 (o0 :: o1 :: o2 :: o3 :: some (.int x) :: l) st H 0 0 = ma_W d 198 Q 50 (o0 :: o1 :: o2 :: o3 :: some (.int x) :: l) (.int x :: st) H 0 0 := wp_iload rfl rfl
theorem w198_50 : ma_W d 198 Q 50 l (.int y :: .int x :: st) H 0 0 = ma_W d 198 Q 51 l (.int (x + y) :: st) H 0 0 := wp_iadd rfl
theorem w198_51 : ma_W d 198 Q 51 (o0 :: p :: l) (.int x :: st) H 0 0 = ma_W d 198 Q 52 (ma_clr o0 :: some (.int x) :: l) st H 0 0 := wp_istore_n (id := 198) (pc := 51) (k := 1) rfl (Nat.succ_lt_succ (Nat.zero_lt_succ _))
theorem w198_52 : ma_W d 198 Q 52 (o0 :: o1 :: o2 :: o3 :: some (.int x) :: l) st H 0 0 = ma_W d 198 Q 55 (o0 :: o1 :: o2 :: ma_clr o3 :: some (.int (x + 1)) :: l) st H 0 0 := wp_iinc (id := 198) (pc := 52) (k := 4) (n := 1) rfl (Nat.succ_lt_succ (Nat.succ_lt_succ (Nat.succ_lt_succ (Nat.succ_lt_succ (Nat.zero_lt_succ _))))) rfl (by decide)
theorem w198_55 : ma_W d 198 Q 55 l st H 0 0 = ma_W d 198 Q 20 l st H 0 0 := wp_goto 20 rfl (by decide)
theorem w198_58 : ma_W d 198 Q 58 (o0 :: o1 :: o2 :: some (.int x) :: l) st H 0 0 = ma_W d 198 Q 61 (o0 :: o1 :: ma_clr o2 :: some (.int (x + 1)) :: l) st H 0 0 := wp_iinc (id := 198) (pc := 58) (k := 3) (n := 1) rfl (Nat.succ_lt_succ (Nat.succ_lt_succ (Nat.succ_lt_succ (Nat.zero_lt_succ _)))) rfl (by decide)
theorem w198_61 : ma_W d 198 Q 61 l st H 0 0 = ma_W d 198 Q 7 l st H 0 0 := wp_goto 7 rfl (by decide)
theorem w198_64 : ma_W d 198 Q 64 (o0 :: some (.int x) :: l) st H 0 0 = ma_W d 198 Q 65 (o0 :: some (.int x) :: l) (.int x :: st) H 0 0 := wp_iload_n rfl rfl
theorem w198_65 : ma_W d 198 Q 65 l [.int x] H 0 0 = Q (some (.int x)) H := wp_iret rfl rfl
theorem e198 : ma_MW (d + 1) 198 [.int x0] H Q = ma_W d 198 Q 0 [some (.int x0), none, none, none, none, none] [] H 0 0 := wp_enter (by decide) (Nat.le_of_ble_eq_true rfl) rfl
/-! 199 gu_holds -/
theorem w199_0 : ma_W d 199 Q 0 (some (.int x) :: l) st H 0 0 = ma_W d 199 Q 1 (some (.int x) :: l) (.int x :: st) H 0 0 := wp_iload_n rfl rfl
theorem w199_1 : ma_W d 199 Q 1 (o0 :: some (.int x) :: l) st H 0 0 = ma_W d 199 Q 2 (o0 :: some (.int x) :: l) (.int x :: st) H 0 0 := wp_iload_n rfl rfl
theorem w199_2 : ma_W d 199 Q 2 l (.int y :: .int x :: st) H 0 0 = ma_W d 199 Q 3 l (.int (x >>> (y &&& 31)) :: st) H 0 0 := wp_ishr rfl
theorem w199_3 : ma_W d 199 Q 3 l st H 0 0 = ma_W d 199 Q 4 l (.int 1 :: st) H 0 0 := wp_iconst rfl (by decide)
theorem w199_4 : ma_W d 199 Q 4 l (.int y :: .int x :: st) H 0 0 = ma_W d 199 Q 5 l (.int (x &&& y) :: st) H 0 0 := wp_iand rfl
theorem w199_5 : ma_W d 199 Q 5 l st H 0 0 = ma_W d 199 Q 6 l (.int 1 :: st) H 0 0 := wp_iconst rfl (by decide)
theorem w199_6 : ma_W d 199 Q 6 l (.int y :: .int x :: st) H 0 0 = ma_if (x = y) d 199 Q 9 13 l st H 0 0 := wp_ic (id := 199) (pc := 6) (c := .ne) (off := 7) 13 rfl (by decide)
theorem w199_9 : ma_W d 199 Q 9 l st H 0 0 = ma_W d 199 Q 10 l (.int 1 :: st) H 0 0 := wp_iconst rfl (by decide)
theorem w199_10 : ma_W d 199 Q 10 l st H 0 0 = ma_W d 199 Q 14 l st H 0 0 := wp_goto 14 rfl (by decide)
theorem w199_13 : ma_W d 199 Q 13 l st H 0 0 = ma_W d 199 Q 14 l (.int 0 :: st) H 0 0 := wp_iconst rfl (by decide)
theorem w199_14 : ma_W d 199 Q 14 l [.int x] H 0 0 = ((x = 0 ∨ x = 1) ∧ Q (some (.int x)) H) := wp_zret rfl rfl
theorem e199 : ma_MW (d + 1) 199 [.int x0, .int x1] H Q = ma_W d 199 Q 0 [some (.int x0), some (.int x1)] [] H 0 0 := wp_enter (by decide) (Nat.le_of_ble_eq_true rfl) rfl
/-! 200 gu_mostOwedAlike -/
theorem w200_0 : ma_W d 200 Q 0 l st H 0 0 = ma_W d 200 Q 1 l (.int 0 :: st) H 0 0 := wp_iconst rfl (by decide)
theorem w200_1 : ma_W d 200 Q 1 (o0 :: o1 :: p :: l) (.int x :: st) H 0 0 = ma_W d 200 Q 2 (o0 :: ma_clr o1 :: some (.int x) :: l) st H 0 0 := wp_istore_n (id := 200) (pc := 1) (k := 2) rfl (Nat.succ_lt_succ (Nat.succ_lt_succ (Nat.zero_lt_succ _)))
theorem w200_2 : ma_W d 200 Q 2 l st H 0 0 = ma_W d 200 Q 3 l (.int 0 :: st) H 0 0 := wp_iconst rfl (by decide)
theorem w200_3 : ma_W d 200 Q 3 (o0 :: o1 :: o2 :: p :: l) (.int x :: st) H 0 0 = ma_W d 200 Q 4 (o0 :: o1 :: ma_clr o2 :: some (.int x) :: l) st H 0 0 := wp_istore_n (id := 200) (pc := 3) (k := 3) rfl (Nat.succ_lt_succ (Nat.succ_lt_succ (Nat.succ_lt_succ (Nat.zero_lt_succ _))))
theorem w200_4 : ma_W d 200 Q 4 (o0 :: o1 :: o2 :: some (.int x) :: l) st H 0 0 = ma_W d 200 Q 5 (o0 :: o1 :: o2 :: some (.int x) :: l) (.int x :: st) H 0 0 := wp_iload_n rfl rfl
theorem w200_5 : ma_W d 200 Q 5 l st H 0 0 = ma_W d 200 Q 7 l (.int 6 :: st) H 0 0 := wp_bipush rfl (by decide)
theorem w200_7 : ma_W d 200 Q 7 l (.int y :: .int x :: st) H 0 0 = ma_if (y ≤ x) d 200 Q 76 10 l st H 0 0 := wp_ic (id := 200) (pc := 7) (c := .ge) (off := 69) 76 rfl (by decide)
theorem w200_10 : ma_W d 200 Q 10 l st H 0 0 = ma_W d 200 Q 11 l (.int 0 :: st) H 0 0 := wp_iconst rfl (by decide)
theorem w200_11 : ma_W d 200 Q 11 (o0 :: o1 :: o2 :: o3 :: p :: l) (.int x :: st) H 0 0 = ma_W d 200 Q 13 (o0 :: o1 :: o2 :: ma_clr o3 :: some (.int x) :: l) st H 0 0 := wp_istore (id := 200) (pc := 11) (k := 4) rfl (Nat.succ_lt_succ (Nat.succ_lt_succ (Nat.succ_lt_succ (Nat.succ_lt_succ (Nat.zero_lt_succ _)))))
theorem w200_13 : ma_W d 200 Q 13 l st H 0 0 = ma_W d 200 Q 14 l (.int 0 :: st) H 0 0 := wp_iconst rfl (by decide)
theorem w200_14 : ma_W d 200 Q 14 (o0 :: o1 :: o2 :: o3 :: o4 :: p :: l) (.int x :: st) H 0 0 = ma_W d 200 Q 16 (o0 :: o1 :: o2 :: o3 :: ma_clr o4 :: some (.int x) :: l) st H 0 0 := wp_istore (id := 200) (pc := 14) (k := 5) rfl (Nat.succ_lt_succ (Nat.succ_lt_succ (Nat.succ_lt_succ (Nat.succ_lt_succ (Nat.succ_lt_succ (Nat.zero_lt_succ _))))))
theorem w200_16 : ma_W d 200 Q 16 (o0 :: o1 :: o2 :: o3 :: o4 :: some (.int x) :: l) st H 0 0 = ma_W d 200 Q 18 (o0 :: o1 :: o2 :: o3 :: o4 :: some (.int x) :: l) (.int x :: st) H 0 0 := wp_iload rfl rfl
theorem w200_18 : ma_W d 200 Q 18 l st H 0 0 = ma_W d 200 Q 20 l (.int 6 :: st) H 0 0 := wp_bipush rfl (by decide)
theorem w200_20 : ma_W d 200 Q 20 l (.int y :: .int x :: st) H 0 0 = ma_if (y ≤ x) d 200 Q 63 23 l st H 0 0 := wp_ic (id := 200) (pc := 20) (c := .ge) (off := 43) 63 rfl (by decide)
theorem w200_23 : ma_W d 200 Q 23 (some (.int x) :: l) st H 0 0 = ma_W d 200 Q 24 (some (.int x) :: l) (.int x :: st) H 0 0 := wp_iload_n rfl rfl
theorem w200_24 : ma_W d 200 Q 24 (o0 :: o1 :: o2 :: some (.int x) :: l) st H 0 0 = ma_W d 200 Q 25 (o0 :: o1 :: o2 :: some (.int x) :: l) (.int x :: st) H 0 0 := wp_iload_n rfl rfl
theorem w200_25 : ma_W d 200 Q 25 l (.int x1 :: .int x0 :: st) H 0 0 = (ma_cat st ≤ 8 ∧ ma_MW d 199 [.int x0, .int x1] H (ma_kC d 200 Q 28 l st 0 0)) := wc_S0 (ia := 199) (n := 2) (cn := 9) (k := 1) rfl (by decide +kernel) (by decide) (fun _ => rfl) rfl rfl
theorem w200_28 : ma_W d 200 Q 28 l (.int x :: st) H 0 0 = ma_if (x = 0) d 200 Q 57 31 l st H 0 0 := wp_c0 (id := 200) (pc := 28) (c := .eq) (off := 29) 57 rfl (by decide)
theorem w200_31 : ma_W d 200 Q 31 (some (.int x) :: l) st H 0 0 = ma_W d 200 Q 32 (some (.int x) :: l) (.int x :: st) H 0 0 := wp_iload_n rfl rfl
theorem w200_32 : ma_W d 200 Q 32 (o0 :: o1 :: o2 :: o3 :: o4 :: some (.int x) :: l) st H 0 0 = ma_W d 200 Q 34 (o0 :: o1 :: o2 :: o3 :: o4 :: some (.int x) :: l) (.int x :: st) H 0 0 := wp_iload rfl rfl
theorem w200_34 : ma_W d 200 Q 34 l (.int x1 :: .int x0 :: st) H 0 0 = (ma_cat st ≤ 8 ∧ ma_MW d 199 [.int x0, .int x1] H (ma_kC d 200 Q 37 l st 0 0)) := wc_S0 (ia := 199) (n := 2) (cn := 9) (k := 1) rfl (by decide +kernel) (by decide) (fun _ => rfl) rfl rfl
theorem w200_37 : ma_W d 200 Q 37 l (.int x :: st) H 0 0 = ma_if (x = 0) d 200 Q 57 40 l st H 0 0 := wp_c0 (id := 200) (pc := 37) (c := .eq) (off := 20) 57 rfl (by decide)
theorem w200_40 : ma_W d 200 Q 40 (o0 :: o1 :: o2 :: some (.int x) :: l) st H 0 0 = ma_W d 200 Q 41 (o0 :: o1 :: o2 :: some (.int x) :: l) (.int x :: st) H 0 0 := wp_iload_n rfl rfl
theorem w200_41 : ma_W d 200 Q 41 (o0 :: some (.int x) :: l) st H 0 0 = ma_W d 200 Q 42 (o0 :: some (.int x) :: l) (.int x :: st) H 0 0 := wp_iload_n rfl rfl
theorem w200_42 : ma_W d 200 Q 42 l (.int x1 :: .int x0 :: st) H 0 0 = (ma_cat st ≤ 8 ∧ ma_MW d 119 [.int x0, .int x1] H (ma_kC d 200 Q 45 l st 0 0)) := wc_S0 (ia := 119) (n := 2) (cn := 7) (k := 3) rfl (by decide +kernel) (by decide) (fun _ => rfl) rfl rfl
theorem w200_45 : ma_W d 200 Q 45 (o0 :: o1 :: o2 :: o3 :: o4 :: some (.int x) :: l) st H 0 0 = ma_W d 200 Q 47 (o0 :: o1 :: o2 :: o3 :: o4 :: some (.int x) :: l) (.int x :: st) H 0 0 := wp_iload rfl rfl
theorem w200_47 : ma_W d 200 Q 47 (o0 :: some (.int x) :: l) st H 0 0 = ma_W d 200 Q 48 (o0 :: some (.int x) :: l) (.int x :: st) H 0 0 := wp_iload_n rfl rfl
theorem w200_48 : ma_W d 200 Q 48 l (.int x1 :: .int x0 :: st) H 0 0 = (ma_cat st ≤ 8 ∧ ma_MW d 119 [.int x0, .int x1] H (ma_kC d 200 Q 51 l st 0 0)) := wc_S0 (ia := 119) (n := 2) (cn := 7) (k := 3) rfl (by decide +kernel) (by decide) (fun _ => rfl) rfl rfl
theorem w200_51 : ma_W d 200 Q 51 l (.int y :: .int x :: st) H 0 0 = ma_if (x = y) d 200 Q 54 57 l st H 0 0 := wp_ic (id := 200) (pc := 51) (c := .ne) (off := 6) 57 rfl (by decide)
theorem w200_54 : ma_W d 200 Q 54 (o0 :: o1 :: o2 :: o3 :: some (.int x) :: l) st H 0 0 = ma_W d 200 Q 57 (o0 :: o1 :: o2 :: ma_clr o3 :: some (.int (x + 1)) :: l) st H 0 0 := wp_iinc (id := 200) (pc := 54) (k := 4) (n := 1) rfl (Nat.succ_lt_succ (Nat.succ_lt_succ (Nat.succ_lt_succ (Nat.succ_lt_succ (Nat.zero_lt_succ _))))) rfl (by decide)
theorem w200_57 : ma_W d 200 Q 57 (o0 :: o1 :: o2 :: o3 :: o4 :: some (.int x) :: l) st H 0 0 = ma_W d 200 Q 60 (o0 :: o1 :: o2 :: o3 :: ma_clr o4 :: some (.int (x + 1)) :: l) st H 0 0 := wp_iinc (id := 200) (pc := 57) (k := 5) (n := 1) rfl (Nat.succ_lt_succ (Nat.succ_lt_succ (Nat.succ_lt_succ (Nat.succ_lt_succ (Nat.succ_lt_succ (Nat.zero_lt_succ _)))))) rfl (by decide)
theorem w200_60 : ma_W d 200 Q 60 l st H 0 0 = ma_W d 200 Q 16 l st H 0 0 := wp_goto 16 rfl (by decide)
theorem w200_63 : ma_W d 200 Q 63 (o0 :: o1 :: some (.int x) :: l) st H 0 0 = ma_W d 200 Q 64 (o0 :: o1 :: some (.int x) :: l) (.int x :: st) H 0 0 := wp_iload_n rfl rfl
theorem w200_64 : ma_W d 200 Q 64 (o0 :: o1 :: o2 :: o3 :: some (.int x) :: l) st H 0 0 = ma_W d 200 Q 66 (o0 :: o1 :: o2 :: o3 :: some (.int x) :: l) (.int x :: st) H 0 0 := wp_iload rfl rfl
theorem w200_66 : ma_W d 200 Q 66 l (.int y :: .int x :: st) H 0 0 = (ma_cat st ≤ 8 ∧ ma_W d 200 Q 69 l (.int (if x < y then y else x) :: st) H 0 0) := wc_max (ia := 0) (n := 2) (cn := 0) rfl (by decide +kernel)
theorem w200_69 : ma_W d 200 Q 69 (o0 :: o1 :: p :: l) (.int x :: st) H 0 0 = ma_W d 200 Q 70 (o0 :: ma_clr o1 :: some (.int x) :: l) st H 0 0 := wp_istore_n (id := 200) (pc := 69) (k := 2) rfl (Nat.succ_lt_succ (Nat.succ_lt_succ (Nat.zero_lt_succ _)))
theorem w200_70 : ma_W d 200 Q 70 (o0 :: o1 :: o2 :: some (.int x) :: l) st H 0 0 = ma_W d 200 Q 73 (o0 :: o1 :: ma_clr o2 :: some (.int (x + 1)) :: l) st H 0 0 := wp_iinc (id := 200) (pc := 70) (k := 3) (n := 1) rfl (Nat.succ_lt_succ (Nat.succ_lt_succ (Nat.succ_lt_succ (Nat.zero_lt_succ _)))) rfl (by decide)
theorem w200_73 : ma_W d 200 Q 73 l st H 0 0 = ma_W d 200 Q 4 l st H 0 0 := wp_goto 4 rfl (by decide)
theorem w200_76 : ma_W d 200 Q 76 (o0 :: o1 :: some (.int x) :: l) st H 0 0 = ma_W d 200 Q 77 (o0 :: o1 :: some (.int x) :: l) (.int x :: st) H 0 0 := wp_iload_n rfl rfl
theorem w200_77 : ma_W d 200 Q 77 l [.int x] H 0 0 = Q (some (.int x)) H := wp_iret rfl rfl
theorem e200 : ma_MW (d + 1) 200 [.int x0, .int x1] H Q = ma_W d 200 Q 0 [some (.int x0), some (.int x1), none, none, none, none] [] H 0 0 := wp_enter (by decide) (Nat.le_of_ble_eq_true rfl) rfl
/-! 201 gu_mostComingAlike -/
theorem w201_0 : ma_W d 201 Q 0 l st H 0 0 = ma_W d 201 Q 1 l (.int 0 :: st) H 0 0 := wp_iconst rfl (by decide)
theorem w201_1 : ma_W d 201 Q 1 (o0 :: o1 :: o2 :: p :: l) (.int x :: st) H 0 0 = ma_W d 201 Q 2 (o0 :: o1 :: ma_clr o2 :: some (.int x) :: l) st H 0 0 := wp_istore_n (id := 201) (pc := 1) (k := 3) rfl (Nat.succ_lt_succ (Nat.succ_lt_succ (Nat.succ_lt_succ (Nat.zero_lt_succ _))))
theorem w201_2 : ma_W d 201 Q 2 l st H 0 0 = ma_W d 201 Q 3 l (.int 0 :: st) H 0 0 := wp_iconst rfl (by decide)
theorem w201_3 : ma_W d 201 Q 3 (o0 :: o1 :: o2 :: o3 :: p :: l) (.int x :: st) H 0 0 = ma_W d 201 Q 5 (o0 :: o1 :: o2 :: ma_clr o3 :: some (.int x) :: l) st H 0 0 := wp_istore (id := 201) (pc := 3) (k := 4) rfl (Nat.succ_lt_succ (Nat.succ_lt_succ (Nat.succ_lt_succ (Nat.succ_lt_succ (Nat.zero_lt_succ _)))))
theorem w201_5 : ma_W d 201 Q 5 (o0 :: o1 :: o2 :: o3 :: some (.int x) :: l) st H 0 0 = ma_W d 201 Q 7 (o0 :: o1 :: o2 :: o3 :: some (.int x) :: l) (.int x :: st) H 0 0 := wp_iload rfl rfl
theorem w201_7 : ma_W d 201 Q 7 l st H 0 0 = ma_W d 201 Q 9 l (.int 6 :: st) H 0 0 := wp_bipush rfl (by decide)
theorem w201_9 : ma_W d 201 Q 9 l (.int y :: .int x :: st) H 0 0 = ma_if (y ≤ x) d 201 Q 82 12 l st H 0 0 := wp_ic (id := 201) (pc := 9) (c := .ge) (off := 73) 82 rfl (by decide)
theorem w201_12 : ma_W d 201 Q 12 l st H 0 0 = ma_W d 201 Q 13 l (.int 0 :: st) H 0 0 := wp_iconst rfl (by decide)
theorem w201_13 : ma_W d 201 Q 13 (o0 :: o1 :: o2 :: o3 :: o4 :: p :: l) (.int x :: st) H 0 0 = ma_W d 201 Q 15 (o0 :: o1 :: o2 :: o3 :: ma_clr o4 :: some (.int x) :: l) st H 0 0 := wp_istore (id := 201) (pc := 13) (k := 5) rfl (Nat.succ_lt_succ (Nat.succ_lt_succ (Nat.succ_lt_succ (Nat.succ_lt_succ (Nat.succ_lt_succ (Nat.zero_lt_succ _))))))
theorem w201_15 : ma_W d 201 Q 15 l st H 0 0 = ma_W d 201 Q 16 l (.int 0 :: st) H 0 0 := wp_iconst rfl (by decide)
theorem w201_16 : ma_W d 201 Q 16 (o0 :: o1 :: o2 :: o3 :: o4 :: o5 :: p :: l) (.int x :: st) H 0 0 = ma_W d 201 Q 18 (o0 :: o1 :: o2 :: o3 :: o4 :: ma_clr o5 :: some (.int x) :: l) st H 0 0 := wp_istore (id := 201) (pc := 16) (k := 6) rfl (Nat.succ_lt_succ (Nat.succ_lt_succ (Nat.succ_lt_succ (Nat.succ_lt_succ (Nat.succ_lt_succ (Nat.succ_lt_succ (Nat.zero_lt_succ _)))))))
theorem w201_18 : ma_W d 201 Q 18 (o0 :: o1 :: o2 :: o3 :: o4 :: o5 :: some (.int x) :: l) st H 0 0 = ma_W d 201 Q 20 (o0 :: o1 :: o2 :: o3 :: o4 :: o5 :: some (.int x) :: l) (.int x :: st) H 0 0 := wp_iload rfl rfl
theorem w201_20 : ma_W d 201 Q 20 l st H 0 0 = ma_W d 201 Q 22 l (.int 6 :: st) H 0 0 := wp_bipush rfl (by decide)
theorem w201_22 : ma_W d 201 Q 22 l (.int y :: .int x :: st) H 0 0 = ma_if (y ≤ x) d 201 Q 69 25 l st H 0 0 := wp_ic (id := 201) (pc := 22) (c := .ge) (off := 47) 69 rfl (by decide)
theorem w201_25 : ma_W d 201 Q 25 (some (.int x) :: l) st H 0 0 = ma_W d 201 Q 26 (some (.int x) :: l) (.int x :: st) H 0 0 := wp_iload_n rfl rfl
theorem w201_26 : ma_W d 201 Q 26 (o0 :: o1 :: o2 :: o3 :: some (.int x) :: l) st H 0 0 = ma_W d 201 Q 28 (o0 :: o1 :: o2 :: o3 :: some (.int x) :: l) (.int x :: st) H 0 0 := wp_iload rfl rfl
theorem w201_28 : ma_W d 201 Q 28 l (.int x1 :: .int x0 :: st) H 0 0 = (ma_cat st ≤ 8 ∧ ma_MW d 199 [.int x0, .int x1] H (ma_kC d 201 Q 31 l st 0 0)) := wc_S0 (ia := 199) (n := 2) (cn := 9) (k := 1) rfl (by decide +kernel) (by decide) (fun _ => rfl) rfl rfl
theorem w201_31 : ma_W d 201 Q 31 l (.int x :: st) H 0 0 = ma_if (x = 0) d 201 Q 63 34 l st H 0 0 := wp_c0 (id := 201) (pc := 31) (c := .eq) (off := 32) 63 rfl (by decide)
theorem w201_34 : ma_W d 201 Q 34 (some (.int x) :: l) st H 0 0 = ma_W d 201 Q 35 (some (.int x) :: l) (.int x :: st) H 0 0 := wp_iload_n rfl rfl
theorem w201_35 : ma_W d 201 Q 35 (o0 :: o1 :: o2 :: o3 :: o4 :: o5 :: some (.int x) :: l) st H 0 0 = ma_W d 201 Q 37 (o0 :: o1 :: o2 :: o3 :: o4 :: o5 :: some (.int x) :: l) (.int x :: st) H 0 0 := wp_iload rfl rfl
theorem w201_37 : ma_W d 201 Q 37 l (.int x1 :: .int x0 :: st) H 0 0 = (ma_cat st ≤ 8 ∧ ma_MW d 199 [.int x0, .int x1] H (ma_kC d 201 Q 40 l st 0 0)) := wc_S0 (ia := 199) (n := 2) (cn := 9) (k := 1) rfl (by decide +kernel) (by decide) (fun _ => rfl) rfl rfl
theorem w201_40 : ma_W d 201 Q 40 l (.int x :: st) H 0 0 = ma_if (x = 0) d 201 Q 63 43 l st H 0 0 := wp_c0 (id := 201) (pc := 40) (c := .eq) (off := 23) 63 rfl (by decide)
theorem w201_43 : ma_W d 201 Q 43 (o0 :: o1 :: o2 :: o3 :: some (.int x) :: l) st H 0 0 = ma_W d 201 Q 45 (o0 :: o1 :: o2 :: o3 :: some (.int x) :: l) (.int x :: st) H 0 0 := wp_iload rfl rfl
theorem w201_45 : ma_W d 201 Q 45 (o0 :: some (.int x) :: l) st H 0 0 = ma_W d 201 Q 46 (o0 :: some (.int x) :: l) (.int x :: st) H 0 0 := wp_iload_n rfl rfl
theorem w201_46 : ma_W d 201 Q 46 (o0 :: o1 :: some (.int x) :: l) st H 0 0 = ma_W d 201 Q 47 (o0 :: o1 :: some (.int x) :: l) (.int x :: st) H 0 0 := wp_iload_n rfl rfl
theorem w201_47 : ma_W d 201 Q 47 l (.int x2 :: .int x1 :: .int x0 :: st) H 0 0 = (ma_cat st ≤ 8 ∧ ma_MW d 120 [.int x0, .int x1, .int x2] H (ma_kC d 201 Q 50 l st 0 0)) := wc_S0 (ia := 120) (n := 3) (cn := 7) (k := 3) rfl (by decide +kernel) (by decide) (fun _ => rfl) rfl rfl
theorem w201_50 : ma_W d 201 Q 50 (o0 :: o1 :: o2 :: o3 :: o4 :: o5 :: some (.int x) :: l) st H 0 0 = ma_W d 201 Q 52 (o0 :: o1 :: o2 :: o3 :: o4 :: o5 :: some (.int x) :: l) (.int x :: st) H 0 0 := wp_iload rfl rfl
theorem w201_52 : ma_W d 201 Q 52 (o0 :: some (.int x) :: l) st H 0 0 = ma_W d 201 Q 53 (o0 :: some (.int x) :: l) (.int x :: st) H 0 0 := wp_iload_n rfl rfl
theorem w201_53 : ma_W d 201 Q 53 (o0 :: o1 :: some (.int x) :: l) st H 0 0 = ma_W d 201 Q 54 (o0 :: o1 :: some (.int x) :: l) (.int x :: st) H 0 0 := wp_iload_n rfl rfl
theorem w201_54 : ma_W d 201 Q 54 l (.int x2 :: .int x1 :: .int x0 :: st) H 0 0 = (ma_cat st ≤ 8 ∧ ma_MW d 120 [.int x0, .int x1, .int x2] H (ma_kC d 201 Q 57 l st 0 0)) := wc_S0 (ia := 120) (n := 3) (cn := 7) (k := 3) rfl (by decide +kernel) (by decide) (fun _ => rfl) rfl rfl
theorem w201_57 : ma_W d 201 Q 57 l (.int y :: .int x :: st) H 0 0 = ma_if (x = y) d 201 Q 60 63 l st H 0 0 := wp_ic (id := 201) (pc := 57) (c := .ne) (off := 6) 63 rfl (by decide)
theorem w201_60 : ma_W d 201 Q 60 (o0 :: o1 :: o2 :: o3 :: o4 :: some (.int x) :: l) st H 0 0 = ma_W d 201 Q 63 (o0 :: o1 :: o2 :: o3 :: ma_clr o4 :: some (.int (x + 1)) :: l) st H 0 0 := wp_iinc (id := 201) (pc := 60) (k := 5) (n := 1) rfl (Nat.succ_lt_succ (Nat.succ_lt_succ (Nat.succ_lt_succ (Nat.succ_lt_succ (Nat.succ_lt_succ (Nat.zero_lt_succ _)))))) rfl (by decide)
theorem w201_63 : ma_W d 201 Q 63 (o0 :: o1 :: o2 :: o3 :: o4 :: o5 :: some (.int x) :: l) st H 0 0 = ma_W d 201 Q 66 (o0 :: o1 :: o2 :: o3 :: o4 :: ma_clr o5 :: some (.int (x + 1)) :: l) st H 0 0 := wp_iinc (id := 201) (pc := 63) (k := 6) (n := 1) rfl (Nat.succ_lt_succ (Nat.succ_lt_succ (Nat.succ_lt_succ (Nat.succ_lt_succ (Nat.succ_lt_succ (Nat.succ_lt_succ (Nat.zero_lt_succ _))))))) rfl (by decide)
theorem w201_66 : ma_W d 201 Q 66 l st H 0 0 = ma_W d 201 Q 18 l st H 0 0 := wp_goto 18 rfl (by decide)
theorem w201_69 : ma_W d 201 Q 69 (o0 :: o1 :: o2 :: some (.int x) :: l) st H 0 0 = ma_W d 201 Q 70 (o0 :: o1 :: o2 :: some (.int x) :: l) (.int x :: st) H 0 0 := wp_iload_n rfl rfl
theorem w201_70 : ma_W d 201 Q 70 (o0 :: o1 :: o2 :: o3 :: o4 :: some (.int x) :: l) st H 0 0 = ma_W d 201 Q 72 (o0 :: o1 :: o2 :: o3 :: o4 :: some (.int x) :: l) (.int x :: st) H 0 0 := wp_iload rfl rfl
theorem w201_72 : ma_W d 201 Q 72 l (.int y :: .int x :: st) H 0 0 = (ma_cat st ≤ 8 ∧ ma_W d 201 Q 75 l (.int (if x < y then y else x) :: st) H 0 0) := wc_max (ia := 0) (n := 2) (cn := 0) rfl (by decide +kernel)
theorem w201_75 : ma_W d 201 Q 75 (o0 :: o1 :: o2 :: p :: l) (.int x :: st) H 0 0 = ma_W d 201 Q 76 (o0 :: o1 :: ma_clr o2 :: some (.int x) :: l) st H 0 0 := wp_istore_n (id := 201) (pc := 75) (k := 3) rfl (Nat.succ_lt_succ (Nat.succ_lt_succ (Nat.succ_lt_succ (Nat.zero_lt_succ _))))
theorem w201_76 : ma_W d 201 Q 76 (o0 :: o1 :: o2 :: o3 :: some (.int x) :: l) st H 0 0 = ma_W d 201 Q 79 (o0 :: o1 :: o2 :: ma_clr o3 :: some (.int (x + 1)) :: l) st H 0 0 := wp_iinc (id := 201) (pc := 76) (k := 4) (n := 1) rfl (Nat.succ_lt_succ (Nat.succ_lt_succ (Nat.succ_lt_succ (Nat.succ_lt_succ (Nat.zero_lt_succ _))))) rfl (by decide)
theorem w201_79 : ma_W d 201 Q 79 l st H 0 0 = ma_W d 201 Q 5 l st H 0 0 := wp_goto 5 rfl (by decide)
theorem w201_82 : ma_W d 201 Q 82 (o0 :: o1 :: o2 :: some (.int x) :: l) st H 0 0 = ma_W d 201 Q 83 (o0 :: o1 :: o2 :: some (.int x) :: l) (.int x :: st) H 0 0 := wp_iload_n rfl rfl
theorem w201_83 : ma_W d 201 Q 83 l [.int x] H 0 0 = Q (some (.int x)) H := wp_iret rfl rfl
theorem e201 : ma_MW (d + 1) 201 [.int x0, .int x1, .int x2] H Q = ma_W d 201 Q 0 [some (.int x0), some (.int x1), some (.int x2), none, none, none, none] [] H 0 0 := wp_enter (by decide) (Nat.le_of_ble_eq_true rfl) rfl
/-! 202 ro_size -/
theorem w202_0 : ma_W d 202 Q 0 (some (.long u) :: l) st H 0 0 = ma_W d 202 Q 1 (some (.long u) :: l) (.long u :: st) H 0 0 := wp_lload_n rfl rfl
theorem w202_1 : ma_W d 202 Q 1 l st H 0 0 = ma_W d 202 Q 3 l (.int 48 :: st) H 0 0 := wp_bipush rfl (by decide)
theorem w202_3 : ma_W d 202 Q 3 l (.int y :: .long u :: st) H 0 0 = ma_W d 202 Q 4 l (.long (ma_ushr u y) :: st) H 0 0 := wp_lushr rfl
theorem w202_4 : ma_W d 202 Q 4 l (.long u :: st) H 0 0 = ma_W d 202 Q 5 l (.int u.toInt32 :: st) H 0 0 := wp_l2i rfl
theorem w202_5 : ma_W d 202 Q 5 l [.int x] H 0 0 = Q (some (.int x)) H := wp_iret rfl rfl
theorem e202 : ma_MW (d + 1) 202 [.long u0] H Q = ma_W d 202 Q 0 [some (.long u0), none] [] H 0 0 := wp_enter (by decide) (Nat.le_of_ble_eq_true rfl) rfl
/-! 203 ro_at -/
theorem w203_0 : ma_W d 203 Q 0 (some (.long u) :: l) st H 0 0 = ma_W d 203 Q 1 (some (.long u) :: l) (.long u :: st) H 0 0 := wp_lload_n rfl rfl
theorem w203_1 : ma_W d 203 Q 1 l st H 0 0 = ma_W d 203 Q 2 l (.int 3 :: st) H 0 0 := wp_iconst rfl (by decide)
theorem w203_2 : ma_W d 203 Q 2 (o0 :: o1 :: some (.int x) :: l) st H 0 0 = ma_W d 203 Q 3 (o0 :: o1 :: some (.int x) :: l) (.int x :: st) H 0 0 := wp_iload_n rfl rfl
theorem w203_3 : ma_W d 203 Q 3 l (.int y :: .int x :: st) H 0 0 = ma_W d 203 Q 4 l (.int (x * y) :: st) H 0 0 := wp_imul rfl
theorem w203_4 : ma_W d 203 Q 4 l (.int y :: .long u :: st) H 0 0 = ma_W d 203 Q 5 l (.long (ma_ushr u y) :: st) H 0 0 := wp_lushr rfl
theorem w203_5 : ma_W d 203 Q 5 l st H 0 0 = ma_W d 203 Q 8 l (.long 7 :: st) H 0 0 := wp_ldc2 rfl (by decide +kernel)
theorem w203_8 : ma_W d 203 Q 8 l (.long v :: .long u :: st) H 0 0 = ma_W d 203 Q 9 l (.long (u &&& v) :: st) H 0 0 := wp_land rfl
theorem w203_9 : ma_W d 203 Q 9 l (.long u :: st) H 0 0 = ma_W d 203 Q 10 l (.int u.toInt32 :: st) H 0 0 := wp_l2i rfl
theorem w203_10 : ma_W d 203 Q 10 l [.int x] H 0 0 = Q (some (.int x)) H := wp_iret rfl rfl
theorem e203 : ma_MW (d + 1) 203 [.long u0, .int x1] H Q = ma_W d 203 Q 0 [some (.long u0), none, some (.int x1)] [] H 0 0 := wp_enter (by decide) (Nat.le_of_ble_eq_true rfl) rfl
/-! 204 ro_added -/
theorem w204_0 : ma_W d 204 Q 0 (some (.long u) :: l) st H 0 0 = ma_W d 204 Q 1 (some (.long u) :: l) (.long u :: st) H 0 0 := wp_lload_n rfl rfl
theorem w204_1 : ma_W d 204 Q 1 (o0 :: o1 :: some (.int x) :: l) st H 0 0 = ma_W d 204 Q 2 (o0 :: o1 :: some (.int x) :: l) (.int x :: st) H 0 0 := wp_iload_n rfl rfl
theorem w204_2 : ma_W d 204 Q 2 l (.int x :: st) H 0 0 = ma_W d 204 Q 3 l (.long x.toInt64 :: st) H 0 0 := wp_i2l rfl
theorem w204_3 : ma_W d 204 Q 3 l st H 0 0 = ma_W d 204 Q 4 l (.int 3 :: st) H 0 0 := wp_iconst rfl (by decide)
theorem w204_4 : ma_W d 204 Q 4 (some (.long u) :: l) st H 0 0 = ma_W d 204 Q 5 (some (.long u) :: l) (.long u :: st) H 0 0 := wp_lload_n rfl rfl
theorem w204_5 : ma_W d 204 Q 5 l (.long u0 :: st) H 0 0 = (ma_cat st ≤ 8 ∧ ma_MW d 202 [.long u0] H (ma_kC d 204 Q 8 l st 0 0)) := wc_S0 (ia := 202) (n := 1) (cn := 10) (k := 1) rfl (by decide +kernel) (by decide) (fun _ => rfl) rfl rfl
theorem w204_8 : ma_W d 204 Q 8 l (.int y :: .int x :: st) H 0 0 = ma_W d 204 Q 9 l (.int (x * y) :: st) H 0 0 := wp_imul rfl
theorem w204_9 : ma_W d 204 Q 9 l (.int y :: .long u :: st) H 0 0 = ma_W d 204 Q 10 l (.long (u <<< (y.toInt64 &&& 63)) :: st) H 0 0 := wp_lshl rfl
theorem w204_10 : ma_W d 204 Q 10 l (.long v :: .long u :: st) H 0 0 = ma_W d 204 Q 11 l (.long (u ||| v) :: st) H 0 0 := wp_lor rfl
theorem w204_11 : ma_W d 204 Q 11 l st H 0 0 = ma_W d 204 Q 14 l (.long 281474976710656 :: st) H 0 0 := wp_ldc2 rfl (by decide +kernel)
theorem w204_14 : ma_W d 204 Q 14 l (.long v :: .long u :: st) H 0 0 = ma_W d 204 Q 15 l (.long (u + v) :: st) H 0 0 := wp_ladd rfl
theorem w204_15 : ma_W d 204 Q 15 l [.long u] H 0 0 = Q (some (.long u)) H := wp_lret rfl rfl
theorem e204 : ma_MW (d + 1) 204 [.long u0, .int x1] H Q = ma_W d 204 Q 0 [some (.long u0), none, some (.int x1)] [] H 0 0 := wp_enter (by decide) (Nat.le_of_ble_eq_true rfl) rfl
/-! 205 ro_withoutFirst -/
theorem w205_0 : ma_W d 205 Q 0 (some (.long u) :: l) st H 0 0 = ma_W d 205 Q 1 (some (.long u) :: l) (.long u :: st) H 0 0 := wp_lload_n rfl rfl
theorem w205_1 : ma_W d 205 Q 1 l st H 0 0 = ma_W d 205 Q 2 l (.long 0 :: st) H 0 0 := wp_lconst rfl (by decide)
theorem w205_2 : ma_W d 205 Q 2 l (.long v :: .long u :: st) H 0 0 = ma_W d 205 Q 3 l (.int (lg_cmp u v) :: st) H 0 0 := wp_lcmp rfl
theorem w205_3 : ma_W d 205 Q 3 l (.int x :: st) H 0 0 = ma_if (x = 0) d 205 Q 6 10 l st H 0 0 := wp_c0 (id := 205) (pc := 3) (c := .ne) (off := 7) 10 rfl (by decide)
theorem w205_6 : ma_W d 205 Q 6 l st H 0 0 = ma_W d 205 Q 7 l (.long 0 :: st) H 0 0 := wp_lconst rfl (by decide)
theorem w205_7 : ma_W d 205 Q 7 l st H 0 0 = ma_W d 205 Q 27 l st H 0 0 := wp_goto 27 rfl (by decide)
theorem w205_10 : ma_W d 205 Q 10 (some (.long u) :: l) st H 0 0 = ma_W d 205 Q 11 (some (.long u) :: l) (.long u :: st) H 0 0 := wp_lload_n rfl rfl
theorem w205_11 : ma_W d 205 Q 11 l st H 0 0 = ma_W d 205 Q 14 l (.long 281474976710655 :: st) H 0 0 := wp_ldc2 rfl (by decide +kernel)
theorem w205_14 : ma_W d 205 Q 14 l (.long v :: .long u :: st) H 0 0 = ma_W d 205 Q 15 l (.long (u &&& v) :: st) H 0 0 := wp_land rfl
theorem w205_15 : ma_W d 205 Q 15 l st H 0 0 = ma_W d 205 Q 16 l (.int 3 :: st) H 0 0 := wp_iconst rfl (by decide)
theorem w205_16 : ma_W d 205 Q 16 l (.int y :: .long u :: st) H 0 0 = ma_W d 205 Q 17 l (.long (ma_ushr u y) :: st) H 0 0 := wp_lushr rfl
theorem w205_17 : ma_W d 205 Q 17 (some (.long u) :: l) st H 0 0 = ma_W d 205 Q 18 (some (.long u) :: l) (.long u :: st) H 0 0 := wp_lload_n rfl rfl
theorem w205_18 : ma_W d 205 Q 18 l st H 0 0 = ma_W d 205 Q 21 l (.long (-281474976710656) :: st) H 0 0 := wp_ldc2 rfl (by decide +kernel)
theorem w205_21 : ma_W d 205 Q 21 l (.long v :: .long u :: st) H 0 0 = ma_W d 205 Q 22 l (.long (u &&& v) :: st) H 0 0 := wp_land rfl
theorem w205_22 : ma_W d 205 Q 22 l st H 0 0 = ma_W d 205 Q 25 l (.long 281474976710656 :: st) H 0 0 := wp_ldc2 rfl (by decide +kernel)
theorem w205_25 : ma_W d 205 Q 25 l (.long v :: .long u :: st) H 0 0 = ma_W d 205 Q 26 l (.long (u - v) :: st) H 0 0 := wp_lsub rfl
theorem w205_26 : ma_W d 205 Q 26 l (.long v :: .long u :: st) H 0 0 = ma_W d 205 Q 27 l (.long (u ||| v) :: st) H 0 0 := wp_lor rfl
theorem w205_27 : ma_W d 205 Q 27 l [.long u] H 0 0 = Q (some (.long u)) H := wp_lret rfl rfl
theorem e205 : ma_MW (d + 1) 205 [.long u0] H Q = ma_W d 205 Q 0 [some (.long u0), none] [] H 0 0 := wp_enter (by decide) (Nat.le_of_ble_eq_true rfl) rfl
/-! 206 ro_put -/
theorem w206_0 : ma_W d 206 Q 0 (some (.long u) :: l) st H 0 0 = ma_W d 206 Q 1 (some (.long u) :: l) (.long u :: st) H 0 0 := wp_lload_n rfl rfl
theorem w206_1 : ma_W d 206 Q 1 l st H 0 0 = ma_W d 206 Q 4 l (.long 7 :: st) H 0 0 := wp_ldc2 rfl (by decide +kernel)
theorem w206_4 : ma_W d 206 Q 4 l st H 0 0 = ma_W d 206 Q 5 l (.int 3 :: st) H 0 0 := wp_iconst rfl (by decide)
theorem w206_5 : ma_W d 206 Q 5 (o0 :: o1 :: some (.int x) :: l) st H 0 0 = ma_W d 206 Q 6 (o0 :: o1 :: some (.int x) :: l) (.int x :: st) H 0 0 := wp_iload_n rfl rfl
theorem w206_6 : ma_W d 206 Q 6 l (.int y :: .int x :: st) H 0 0 = ma_W d 206 Q 7 l (.int (x * y) :: st) H 0 0 := wp_imul rfl
theorem w206_7 : ma_W d 206 Q 7 l (.int y :: .long u :: st) H 0 0 = ma_W d 206 Q 8 l (.long (u <<< (y.toInt64 &&& 63)) :: st) H 0 0 := wp_lshl rfl
theorem w206_8 : ma_W d 206 Q 8 l st H 0 0 = ma_W d 206 Q 11 l (.long (-1) :: st) H 0 0 := wp_ldc2 rfl (by decide +kernel)
theorem w206_11 : ma_W d 206 Q 11 l (.long v :: .long u :: st) H 0 0 = ma_W d 206 Q 12 l (.long (u ^^^ v) :: st) H 0 0 := wp_lxor rfl
theorem w206_12 : ma_W d 206 Q 12 l (.long v :: .long u :: st) H 0 0 = ma_W d 206 Q 13 l (.long (u &&& v) :: st) H 0 0 := wp_land rfl
theorem w206_13 : ma_W d 206 Q 13 (o0 :: o1 :: o2 :: some (.int x) :: l) st H 0 0 = ma_W d 206 Q 14 (o0 :: o1 :: o2 :: some (.int x) :: l) (.int x :: st) H 0 0 := wp_iload_n rfl rfl
theorem w206_14 : ma_W d 206 Q 14 l (.int x :: st) H 0 0 = ma_W d 206 Q 15 l (.long x.toInt64 :: st) H 0 0 := wp_i2l rfl
theorem w206_15 : ma_W d 206 Q 15 l st H 0 0 = ma_W d 206 Q 16 l (.int 3 :: st) H 0 0 := wp_iconst rfl (by decide)
theorem w206_16 : ma_W d 206 Q 16 (o0 :: o1 :: some (.int x) :: l) st H 0 0 = ma_W d 206 Q 17 (o0 :: o1 :: some (.int x) :: l) (.int x :: st) H 0 0 := wp_iload_n rfl rfl
theorem w206_17 : ma_W d 206 Q 17 l (.int y :: .int x :: st) H 0 0 = ma_W d 206 Q 18 l (.int (x * y) :: st) H 0 0 := wp_imul rfl
theorem w206_18 : ma_W d 206 Q 18 l (.int y :: .long u :: st) H 0 0 = ma_W d 206 Q 19 l (.long (u <<< (y.toInt64 &&& 63)) :: st) H 0 0 := wp_lshl rfl
theorem w206_19 : ma_W d 206 Q 19 l (.long v :: .long u :: st) H 0 0 = ma_W d 206 Q 20 l (.long (u ||| v) :: st) H 0 0 := wp_lor rfl
theorem w206_20 : ma_W d 206 Q 20 l [.long u] H 0 0 = Q (some (.long u)) H := wp_lret rfl rfl
theorem e206 : ma_MW (d + 1) 206 [.long u0, .int x1, .int x2] H Q = ma_W d 206 Q 0 [some (.long u0), none, some (.int x1), some (.int x2)] [] H 0 0 := wp_enter (by decide) (Nat.le_of_ble_eq_true rfl) rfl
/-! 207 ro_turned -/
theorem w207_0 : ma_W d 207 Q 0 (some (.long u) :: l) st H 0 0 = ma_W d 207 Q 1 (some (.long u) :: l) (.long u :: st) H 0 0 := wp_lload_n rfl rfl
theorem w207_1 : ma_W d 207 Q 1 l (.long u0 :: st) H 0 0 = (ma_cat st ≤ 8 ∧ ma_MW d 202 [.long u0] H (ma_kC d 207 Q 4 l st 0 0)) := wc_S0 (ia := 202) (n := 1) (cn := 10) (k := 1) rfl (by decide +kernel) (by decide) (fun _ => rfl) rfl rfl
theorem w207_4 : ma_W d 207 Q 4 (o0 :: o1 :: o2 :: o3 :: p :: l) (.int x :: st) H 0 0 = ma_W d 207 Q 6 (o0 :: o1 :: o2 :: ma_clr o3 :: some (.int x) :: l) st H 0 0 := wp_istore (id := 207) (pc := 4) (k := 4) rfl (Nat.succ_lt_succ (Nat.succ_lt_succ (Nat.succ_lt_succ (Nat.succ_lt_succ (Nat.zero_lt_succ _)))))
theorem w207_6 : ma_W d 207 Q 6 (o0 :: o1 :: o2 :: o3 :: some (.int x) :: l) st H 0 0 = ma_W d 207 Q 8 (o0 :: o1 :: o2 :: o3 :: some (.int x) :: l) (.int x :: st) H 0 0 := wp_iload rfl rfl
theorem w207_8 : ma_W d 207 Q 8 l (.int x :: st) H 0 0 = ma_if (x = 0) d 207 Q 11 15 l st H 0 0 := wp_c0 (id := 207) (pc := 8) (c := .ne) (off := 7) 15 rfl (by decide)
theorem w207_11 : ma_W d 207 Q 11 l st H 0 0 = ma_W d 207 Q 12 l (.int 0 :: st) H 0 0 := wp_iconst rfl (by decide)
theorem w207_12 : ma_W d 207 Q 12 l st H 0 0 = ma_W d 207 Q 21 l st H 0 0 := wp_goto 21 rfl (by decide)
theorem w207_15 : ma_W d 207 Q 15 (o0 :: o1 :: some (.long u) :: l) st H 0 0 = ma_W d 207 Q 16 (o0 :: o1 :: some (.long u) :: l) (.long u :: st) H 0 0 := wp_lload_n rfl rfl
theorem w207_16 : ma_W d 207 Q 16 (o0 :: o1 :: o2 :: o3 :: some (.int x) :: l) st H 0 0 = ma_W d 207 Q 18 (o0 :: o1 :: o2 :: o3 :: some (.int x) :: l) (.int x :: st) H 0 0 := wp_iload rfl rfl
theorem w207_18 : ma_W d 207 Q 18 l (.int x :: st) H 0 0 = ma_W d 207 Q 19 l (.long x.toInt64 :: st) H 0 0 := wp_i2l rfl
theorem w207_19 : ma_W d 207 Q 19 l (.long v :: .long u :: st) H 0 0 = (¬ v = 0 ∧ ma_W d 207 Q 20 l (.long (ma_rml u v) :: st) H 0 0) := wp_lrem rfl
theorem w207_20 : ma_W d 207 Q 20 l (.long u :: st) H 0 0 = ma_W d 207 Q 21 l (.int u.toInt32 :: st) H 0 0 := wp_l2i rfl
theorem w207_21 : ma_W d 207 Q 21 (o0 :: o1 :: o2 :: o3 :: o4 :: p :: l) (.int x :: st) H 0 0 = ma_W d 207 Q 23 (o0 :: o1 :: o2 :: o3 :: ma_clr o4 :: some (.int x) :: l) st H 0 0 := wp_istore (id := 207) (pc := 21) (k := 5) rfl (Nat.succ_lt_succ (Nat.succ_lt_succ (Nat.succ_lt_succ (Nat.succ_lt_succ (Nat.succ_lt_succ (Nat.zero_lt_succ _))))))
theorem w207_23 : ma_W d 207 Q 23 (o0 :: o1 :: o2 :: o3 :: o4 :: some (.int x) :: l) st H 0 0 = ma_W d 207 Q 25 (o0 :: o1 :: o2 :: o3 :: o4 :: some (.int x) :: l) (.int x :: st) H 0 0 := wp_iload rfl rfl
theorem w207_25 : ma_W d 207 Q 25 l (.int x :: st) H 0 0 = ma_if (0 < x) d 207 Q 30 28 l st H 0 0 := wp_c0 (id := 207) (pc := 25) (c := .gt) (off := 5) 30 rfl (by decide)
theorem w207_28 : ma_W d 207 Q 28 (some (.long u) :: l) st H 0 0 = ma_W d 207 Q 29 (some (.long u) :: l) (.long u :: st) H 0 0 := wp_lload_n rfl rfl
theorem w207_29 : ma_W d 207 Q 29 l [.long u] H 0 0 = Q (some (.long u)) H := wp_lret rfl rfl
theorem w207_30 : ma_W d 207 Q 30 (some (.long u) :: l) st H 0 0 = ma_W d 207 Q 31 (some (.long u) :: l) (.long u :: st) H 0 0 := wp_lload_n rfl rfl
theorem w207_31 : ma_W d 207 Q 31 l st H 0 0 = ma_W d 207 Q 34 l (.long 281474976710655 :: st) H 0 0 := wp_ldc2 rfl (by decide +kernel)
theorem w207_34 : ma_W d 207 Q 34 l (.long v :: .long u :: st) H 0 0 = ma_W d 207 Q 35 l (.long (u &&& v) :: st) H 0 0 := wp_land rfl
theorem w207_35 : ma_W d 207 Q 35 (o0 :: o1 :: o2 :: o3 :: o4 :: o5 :: p :: q :: l) (.long u :: st) H 0 0 = ma_W d 207 Q 37 (o0 :: o1 :: o2 :: o3 :: o4 :: ma_clr o5 :: some (.long u) :: none :: l) st H 0 0 := wp_lstore (id := 207) (pc := 35) (k := 6) rfl (Nat.succ_lt_succ (Nat.succ_lt_succ (Nat.succ_lt_succ (Nat.succ_lt_succ (Nat.succ_lt_succ (Nat.succ_lt_succ (Nat.succ_lt_succ (Nat.zero_lt_succ _))))))))
theorem w207_37 : ma_W d 207 Q 37 (o0 :: o1 :: o2 :: o3 :: o4 :: o5 :: some (.long u) :: l) st H 0 0 = ma_W d 207 Q 39 (o0 :: o1 :: o2 :: o3 :: o4 :: o5 :: some (.long u) :: l) (.long u :: st) H 0 0 := wp_lload rfl rfl
theorem w207_39 : ma_W d 207 Q 39 l st H 0 0 = ma_W d 207 Q 40 l (.long 1 :: st) H 0 0 := wp_lconst rfl (by decide)
theorem w207_40 : ma_W d 207 Q 40 l st H 0 0 = ma_W d 207 Q 41 l (.int 3 :: st) H 0 0 := wp_iconst rfl (by decide)
theorem w207_41 : ma_W d 207 Q 41 (o0 :: o1 :: o2 :: o3 :: o4 :: some (.int x) :: l) st H 0 0 = ma_W d 207 Q 43 (o0 :: o1 :: o2 :: o3 :: o4 :: some (.int x) :: l) (.int x :: st) H 0 0 := wp_iload rfl rfl
theorem w207_43 : ma_W d 207 Q 43 l (.int y :: .int x :: st) H 0 0 = ma_W d 207 Q 44 l (.int (x * y) :: st) H 0 0 := wp_imul rfl
theorem w207_44 : ma_W d 207 Q 44 l (.int y :: .long u :: st) H 0 0 = ma_W d 207 Q 45 l (.long (u <<< (y.toInt64 &&& 63)) :: st) H 0 0 := wp_lshl rfl
theorem w207_45 : ma_W d 207 Q 45 l st H 0 0 = ma_W d 207 Q 46 l (.long 1 :: st) H 0 0 := wp_lconst rfl (by decide)
theorem w207_46 : ma_W d 207 Q 46 l (.long v :: .long u :: st) H 0 0 = ma_W d 207 Q 47 l (.long (u - v) :: st) H 0 0 := wp_lsub rfl
theorem w207_47 : ma_W d 207 Q 47 l (.long v :: .long u :: st) H 0 0 = ma_W d 207 Q 48 l (.long (u &&& v) :: st) H 0 0 := wp_land rfl
theorem w207_48 : ma_W d 207 Q 48 (o0 :: o1 :: o2 :: o3 :: o4 :: o5 :: o6 :: o7 :: p :: q :: l) (.long u :: st) H 0 0 = ma_W d 207 Q 50 (o0 :: o1 :: o2 :: o3 :: o4 :: o5 :: o6 :: ma_clr o7 :: some (.long u) :: none :: l) st H 0 0 := wp_lstore (id := 207) (pc := 48) (k := 8) rfl (Nat.succ_lt_succ (Nat.succ_lt_succ (Nat.succ_lt_succ (Nat.succ_lt_succ (Nat.succ_lt_succ (Nat.succ_lt_succ (Nat.succ_lt_succ (Nat.succ_lt_succ (Nat.succ_lt_succ (Nat.zero_lt_succ _))))))))))
theorem w207_50 : ma_W d 207 Q 50 (some (.long u) :: l) st H 0 0 = ma_W d 207 Q 51 (some (.long u) :: l) (.long u :: st) H 0 0 := wp_lload_n rfl rfl
theorem w207_51 : ma_W d 207 Q 51 l st H 0 0 = ma_W d 207 Q 54 l (.long (-281474976710656) :: st) H 0 0 := wp_ldc2 rfl (by decide +kernel)
theorem w207_54 : ma_W d 207 Q 54 l (.long v :: .long u :: st) H 0 0 = ma_W d 207 Q 55 l (.long (u &&& v) :: st) H 0 0 := wp_land rfl
theorem w207_55 : ma_W d 207 Q 55 (o0 :: o1 :: o2 :: o3 :: o4 :: o5 :: some (.long u) :: l) st H 0 0 = ma_W d 207 Q 57 (o0 :: o1 :: o2 :: o3 :: o4 :: o5 :: some (.long u) :: l) (.long u :: st) H 0 0 := wp_lload rfl rfl
theorem w207_57 : ma_W d 207 Q 57 l st H 0 0 = ma_W d 207 Q 58 l (.int 3 :: st) H 0 0 := wp_iconst rfl (by decide)
theorem w207_58 : ma_W d 207 Q 58 (o0 :: o1 :: o2 :: o3 :: o4 :: some (.int x) :: l) st H 0 0 = ma_W d 207 Q 60 (o0 :: o1 :: o2 :: o3 :: o4 :: some (.int x) :: l) (.int x :: st) H 0 0 := wp_iload rfl rfl
theorem w207_60 : ma_W d 207 Q 60 l (.int y :: .int x :: st) H 0 0 = ma_W d 207 Q 61 l (.int (x * y) :: st) H 0 0 := wp_imul rfl
theorem w207_61 : ma_W d 207 Q 61 l (.int y :: .long u :: st) H 0 0 = ma_W d 207 Q 62 l (.long (ma_ushr u y) :: st) H 0 0 := wp_lushr rfl
theorem w207_62 : ma_W d 207 Q 62 l (.long v :: .long u :: st) H 0 0 = ma_W d 207 Q 63 l (.long (u ||| v) :: st) H 0 0 := wp_lor rfl
theorem w207_63 : ma_W d 207 Q 63 (o0 :: o1 :: o2 :: o3 :: o4 :: o5 :: o6 :: o7 :: some (.long u) :: l) st H 0 0 = ma_W d 207 Q 65 (o0 :: o1 :: o2 :: o3 :: o4 :: o5 :: o6 :: o7 :: some (.long u) :: l) (.long u :: st) H 0 0 := wp_lload rfl rfl
theorem w207_65 : ma_W d 207 Q 65 l st H 0 0 = ma_W d 207 Q 66 l (.int 3 :: st) H 0 0 := wp_iconst rfl (by decide)
theorem w207_66 : ma_W d 207 Q 66 (o0 :: o1 :: o2 :: o3 :: some (.int x) :: l) st H 0 0 = ma_W d 207 Q 68 (o0 :: o1 :: o2 :: o3 :: some (.int x) :: l) (.int x :: st) H 0 0 := wp_iload rfl rfl
theorem w207_68 : ma_W d 207 Q 68 (o0 :: o1 :: o2 :: o3 :: o4 :: some (.int x) :: l) st H 0 0 = ma_W d 207 Q 70 (o0 :: o1 :: o2 :: o3 :: o4 :: some (.int x) :: l) (.int x :: st) H 0 0 := wp_iload rfl rfl
theorem w207_70 : ma_W d 207 Q 70 l (.int y :: .int x :: st) H 0 0 = ma_W d 207 Q 71 l (.int (x - y) :: st) H 0 0 := wp_isub rfl
theorem w207_71 : ma_W d 207 Q 71 l (.int y :: .int x :: st) H 0 0 = ma_W d 207 Q 72 l (.int (x * y) :: st) H 0 0 := wp_imul rfl
theorem w207_72 : ma_W d 207 Q 72 l (.int y :: .long u :: st) H 0 0 = ma_W d 207 Q 73 l (.long (u <<< (y.toInt64 &&& 63)) :: st) H 0 0 := wp_lshl rfl
theorem w207_73 : ma_W d 207 Q 73 l (.long v :: .long u :: st) H 0 0 = ma_W d 207 Q 74 l (.long (u ||| v) :: st) H 0 0 := wp_lor rfl
theorem w207_74 : ma_W d 207 Q 74 l [.long u] H 0 0 = Q (some (.long u)) H := wp_lret rfl rfl
theorem e207 : ma_MW (d + 1) 207 [.long u0, .long u1] H Q = ma_W d 207 Q 0 [some (.long u0), none, some (.long u1), none, none, none, none, none, none, none] [] H 0 0 := wp_enter (by decide) (Nat.le_of_ble_eq_true rfl) rfl
/-! 208 ro_inOrder -/
theorem w208_0 : ma_W d 208 Q 0 (some (.long u) :: l) st H 0 0 = ma_W d 208 Q 1 (some (.long u) :: l) (.long u :: st) H 0 0 := wp_lload_n rfl rfl
theorem w208_1 : ma_W d 208 Q 1 (o0 :: o1 :: o2 :: o3 :: p :: q :: l) (.long u :: st) H 0 0 = ma_W d 208 Q 3 (o0 :: o1 :: o2 :: ma_clr o3 :: some (.long u) :: none :: l) st H 0 0 := wp_lstore (id := 208) (pc := 1) (k := 4) rfl (Nat.succ_lt_succ (Nat.succ_lt_succ (Nat.succ_lt_succ (Nat.succ_lt_succ (Nat.succ_lt_succ (Nat.zero_lt_succ _))))))
theorem w208_3 : ma_W d 208 Q 3 (o0 :: o1 :: o2 :: some (.int x) :: l) st H 0 0 = ma_W d 208 Q 4 (o0 :: o1 :: o2 :: some (.int x) :: l) (.int x :: st) H 0 0 := wp_iload_n rfl rfl
theorem w208_4 : ma_W d 208 Q 4 (o0 :: o1 :: o2 :: o3 :: o4 :: o5 :: p :: l) (.int x :: st) H 0 0 = ma_W d 208 Q 6 (o0 :: o1 :: o2 :: o3 :: o4 :: ma_clr o5 :: some (.int x) :: l) st H 0 0 := wp_istore (id := 208) (pc := 4) (k := 6) rfl (Nat.succ_lt_succ (Nat.succ_lt_succ (Nat.succ_lt_succ (Nat.succ_lt_succ (Nat.succ_lt_succ (Nat.succ_lt_succ (Nat.zero_lt_succ _)))))))
theorem w208_6 : ma_W d 208 Q 6 l st H 0 0 = ma_W d 208 Q 7 l (.int 0 :: st) H 0 0 := wp_iconst rfl (by decide)
theorem w208_7 : ma_W d 208 Q 7 (o0 :: o1 :: o2 :: o3 :: o4 :: o5 :: o6 :: p :: l) (.int x :: st) H 0 0 = ma_W d 208 Q 9 (o0 :: o1 :: o2 :: o3 :: o4 :: o5 :: ma_clr o6 :: some (.int x) :: l) st H 0 0 := wp_istore (id := 208) (pc := 7) (k := 7) rfl (Nat.succ_lt_succ (Nat.succ_lt_succ (Nat.succ_lt_succ (Nat.succ_lt_succ (Nat.succ_lt_succ (Nat.succ_lt_succ (Nat.succ_lt_succ (Nat.zero_lt_succ _))))))))
theorem w208_9 : ma_W d 208 Q 9 (o0 :: o1 :: o2 :: o3 :: o4 :: o5 :: o6 :: some (.int x) :: l) st H 0 0 = ma_W d 208 Q 11 (o0 :: o1 :: o2 :: o3 :: o4 :: o5 :: o6 :: some (.int x) :: l) (.int x :: st) H 0 0 := wp_iload rfl rfl
theorem w208_11 : ma_W d 208 Q 11 (o0 :: o1 :: some (.int x) :: l) st H 0 0 = ma_W d 208 Q 12 (o0 :: o1 :: some (.int x) :: l) (.int x :: st) H 0 0 := wp_iload_n rfl rfl
theorem w208_12 : ma_W d 208 Q 12 l (.int y :: .int x :: st) H 0 0 = ma_if (y ≤ x) d 208 Q 80 15 l st H 0 0 := wp_ic (id := 208) (pc := 12) (c := .ge) (off := 68) 80 rfl (by decide)
theorem w208_15 : ma_W d 208 Q 15 (o0 :: o1 :: some (.int x) :: l) st H 0 0 = ma_W d 208 Q 16 (o0 :: o1 :: some (.int x) :: l) (.int x :: st) H 0 0 := wp_iload_n rfl rfl
theorem w208_16 : ma_W d 208 Q 16 (o0 :: o1 :: o2 :: o3 :: o4 :: o5 :: o6 :: some (.int x) :: l) st H 0 0 = ma_W d 208 Q 18 (o0 :: o1 :: o2 :: o3 :: o4 :: o5 :: o6 :: some (.int x) :: l) (.int x :: st) H 0 0 := wp_iload rfl rfl
theorem w208_18 : ma_W d 208 Q 18 l (.int y :: .int x :: st) H 0 0 = ma_W d 208 Q 19 l (.int (x - y) :: st) H 0 0 := wp_isub rfl
theorem w208_19 : ma_W d 208 Q 19 (o0 :: o1 :: o2 :: o3 :: o4 :: o5 :: o6 :: o7 :: p :: l) (.int x :: st) H 0 0 = ma_W d 208 Q 21 (o0 :: o1 :: o2 :: o3 :: o4 :: o5 :: o6 :: ma_clr o7 :: some (.int x) :: l) st H 0 0 := wp_istore (id := 208) (pc := 19) (k := 8) rfl (Nat.succ_lt_succ (Nat.succ_lt_succ (Nat.succ_lt_succ (Nat.succ_lt_succ (Nat.succ_lt_succ (Nat.succ_lt_succ (Nat.succ_lt_succ (Nat.succ_lt_succ (Nat.zero_lt_succ _)))))))))
theorem w208_21 : ma_W d 208 Q 21 (o0 :: o1 :: o2 :: o3 :: o4 :: o5 :: o6 :: some (.int x) :: l) st H 0 0 = ma_W d 208 Q 23 (o0 :: o1 :: o2 :: o3 :: o4 :: o5 :: o6 :: some (.int x) :: l) (.int x :: st) H 0 0 := wp_iload rfl rfl
theorem w208_23 : ma_W d 208 Q 23 (o0 :: o1 :: o2 :: o3 :: o4 :: o5 :: some (.int x) :: l) st H 0 0 = ma_W d 208 Q 25 (o0 :: o1 :: o2 :: o3 :: o4 :: o5 :: some (.int x) :: l) (.int x :: st) H 0 0 := wp_iload rfl rfl
theorem w208_25 : ma_W d 208 Q 25 (o0 :: o1 :: o2 :: o3 :: o4 :: o5 :: o6 :: o7 :: some (.int x) :: l) st H 0 0 = ma_W d 208 Q 27 (o0 :: o1 :: o2 :: o3 :: o4 :: o5 :: o6 :: o7 :: some (.int x) :: l) (.int x :: st) H 0 0 := wp_iload rfl rfl
theorem w208_27 : ma_W d 208 Q 27 l (.int y :: .int x :: st) H 0 0 = (¬ y = 0 ∧ ma_W d 208 Q 28 l (.int (ma_rem x y) :: st) H 0 0) := wp_irem rfl
theorem w208_28 : ma_W d 208 Q 28 l (.int y :: .int x :: st) H 0 0 = ma_W d 208 Q 29 l (.int (x + y) :: st) H 0 0 := wp_iadd rfl
theorem w208_29 : ma_W d 208 Q 29 (o0 :: o1 :: o2 :: o3 :: o4 :: o5 :: o6 :: o7 :: o8 :: p :: l) (.int x :: st) H 0 0 = ma_W d 208 Q 31 (o0 :: o1 :: o2 :: o3 :: o4 :: o5 :: o6 :: o7 :: ma_clr o8 :: some (.int x) :: l) st H 0 0 := wp_istore (id := 208) (pc := 29) (k := 9) rfl (Nat.succ_lt_succ (Nat.succ_lt_succ (Nat.succ_lt_succ (Nat.succ_lt_succ (Nat.succ_lt_succ (Nat.succ_lt_succ (Nat.succ_lt_succ (Nat.succ_lt_succ (Nat.succ_lt_succ (Nat.zero_lt_succ _))))))))))
theorem w208_31 : ma_W d 208 Q 31 (o0 :: o1 :: o2 :: o3 :: some (.long u) :: l) st H 0 0 = ma_W d 208 Q 33 (o0 :: o1 :: o2 :: o3 :: some (.long u) :: l) (.long u :: st) H 0 0 := wp_lload rfl rfl
theorem w208_33 : ma_W d 208 Q 33 (o0 :: o1 :: o2 :: o3 :: o4 :: o5 :: o6 :: o7 :: o8 :: some (.int x) :: l) st H 0 0 = ma_W d 208 Q 35 (o0 :: o1 :: o2 :: o3 :: o4 :: o5 :: o6 :: o7 :: o8 :: some (.int x) :: l) (.int x :: st) H 0 0 := wp_iload rfl rfl
theorem w208_35 : ma_W d 208 Q 35 l (.int x1 :: .long u0 :: st) H 0 0 = (ma_cat st ≤ 8 ∧ ma_MW d 203 [.long u0, .int x1] H (ma_kC d 208 Q 38 l st 0 0)) := wc_S0 (ia := 203) (n := 2) (cn := 10) (k := 1) rfl (by decide +kernel) (by decide) (fun _ => rfl) rfl rfl
theorem w208_38 : ma_W d 208 Q 38 (o0 :: o1 :: o2 :: o3 :: o4 :: o5 :: o6 :: o7 :: o8 :: o9 :: p :: l) (.int x :: st) H 0 0 = ma_W d 208 Q 40 (o0 :: o1 :: o2 :: o3 :: o4 :: o5 :: o6 :: o7 :: o8 :: ma_clr o9 :: some (.int x) :: l) st H 0 0 := wp_istore (id := 208) (pc := 38) (k := 10) rfl (Nat.succ_lt_succ (Nat.succ_lt_succ (Nat.succ_lt_succ (Nat.succ_lt_succ (Nat.succ_lt_succ (Nat.succ_lt_succ (Nat.succ_lt_succ (Nat.succ_lt_succ (Nat.succ_lt_succ (Nat.succ_lt_succ (Nat.zero_lt_succ _)))))))))))
theorem w208_40 : ma_W d 208 Q 40 (o0 :: o1 :: o2 :: o3 :: some (.long u) :: l) st H 0 0 = ma_W d 208 Q 42 (o0 :: o1 :: o2 :: o3 :: some (.long u) :: l) (.long u :: st) H 0 0 := wp_lload rfl rfl
theorem w208_42 : ma_W d 208 Q 42 (o0 :: o1 :: o2 :: o3 :: o4 :: o5 :: o6 :: o7 :: o8 :: some (.int x) :: l) st H 0 0 = ma_W d 208 Q 44 (o0 :: o1 :: o2 :: o3 :: o4 :: o5 :: o6 :: o7 :: o8 :: some (.int x) :: l) (.int x :: st) H 0 0 := wp_iload rfl rfl
theorem w208_44 : ma_W d 208 Q 44 (o0 :: o1 :: o2 :: o3 :: some (.long u) :: l) st H 0 0 = ma_W d 208 Q 46 (o0 :: o1 :: o2 :: o3 :: some (.long u) :: l) (.long u :: st) H 0 0 := wp_lload rfl rfl
theorem w208_46 : ma_W d 208 Q 46 (o0 :: o1 :: o2 :: o3 :: o4 :: o5 :: o6 :: some (.int x) :: l) st H 0 0 = ma_W d 208 Q 48 (o0 :: o1 :: o2 :: o3 :: o4 :: o5 :: o6 :: some (.int x) :: l) (.int x :: st) H 0 0 := wp_iload rfl rfl
theorem w208_48 : ma_W d 208 Q 48 l (.int x1 :: .long u0 :: st) H 0 0 = (ma_cat st ≤ 8 ∧ ma_MW d 203 [.long u0, .int x1] H (ma_kC d 208 Q 51 l st 0 0)) := wc_S0 (ia := 203) (n := 2) (cn := 10) (k := 1) rfl (by decide +kernel) (by decide) (fun _ => rfl) rfl rfl
theorem w208_51 : ma_W d 208 Q 51 l (.int x2 :: .int x1 :: .long u0 :: st) H 0 0 = (ma_cat st ≤ 8 ∧ ma_MW d 206 [.long u0, .int x1, .int x2] H (ma_kC d 208 Q 54 l st 0 0)) := wc_S0 (ia := 206) (n := 3) (cn := 10) (k := 1) rfl (by decide +kernel) (by decide) (fun _ => rfl) rfl rfl
theorem w208_54 : ma_W d 208 Q 54 (o0 :: o1 :: o2 :: o3 :: p :: q :: l) (.long u :: st) H 0 0 = ma_W d 208 Q 56 (o0 :: o1 :: o2 :: ma_clr o3 :: some (.long u) :: none :: l) st H 0 0 := wp_lstore (id := 208) (pc := 54) (k := 4) rfl (Nat.succ_lt_succ (Nat.succ_lt_succ (Nat.succ_lt_succ (Nat.succ_lt_succ (Nat.succ_lt_succ (Nat.zero_lt_succ _))))))
theorem w208_56 : ma_W d 208 Q 56 (o0 :: o1 :: o2 :: o3 :: some (.long u) :: l) st H 0 0 = ma_W d 208 Q 58 (o0 :: o1 :: o2 :: o3 :: some (.long u) :: l) (.long u :: st) H 0 0 := wp_lload rfl rfl
theorem w208_58 : ma_W d 208 Q 58 (o0 :: o1 :: o2 :: o3 :: o4 :: o5 :: o6 :: some (.int x) :: l) st H 0 0 = ma_W d 208 Q 60 (o0 :: o1 :: o2 :: o3 :: o4 :: o5 :: o6 :: some (.int x) :: l) (.int x :: st) H 0 0 := wp_iload rfl rfl
theorem w208_60 : ma_W d 208 Q 60 (o0 :: o1 :: o2 :: o3 :: o4 :: o5 :: o6 :: o7 :: o8 :: o9 :: some (.int x) :: l) st H 0 0 = ma_W d 208 Q 62 (o0 :: o1 :: o2 :: o3 :: o4 :: o5 :: o6 :: o7 :: o8 :: o9 :: some (.int x) :: l) (.int x :: st) H 0 0 := wp_iload rfl rfl
theorem w208_62 : ma_W d 208 Q 62 l (.int x2 :: .int x1 :: .long u0 :: st) H 0 0 = (ma_cat st ≤ 8 ∧ ma_MW d 206 [.long u0, .int x1, .int x2] H (ma_kC d 208 Q 65 l st 0 0)) := wc_S0 (ia := 206) (n := 3) (cn := 10) (k := 1) rfl (by decide +kernel) (by decide) (fun _ => rfl) rfl rfl
theorem w208_65 : ma_W d 208 Q 65 (o0 :: o1 :: o2 :: o3 :: p :: q :: l) (.long u :: st) H 0 0 = ma_W d 208 Q 67 (o0 :: o1 :: o2 :: ma_clr o3 :: some (.long u) :: none :: l) st H 0 0 := wp_lstore (id := 208) (pc := 65) (k := 4) rfl (Nat.succ_lt_succ (Nat.succ_lt_succ (Nat.succ_lt_succ (Nat.succ_lt_succ (Nat.succ_lt_succ (Nat.zero_lt_succ _))))))
theorem w208_67 : ma_W d 208 Q 67 (o0 :: o1 :: o2 :: o3 :: o4 :: o5 :: some (.int x) :: l) st H 0 0 = ma_W d 208 Q 69 (o0 :: o1 :: o2 :: o3 :: o4 :: o5 :: some (.int x) :: l) (.int x :: st) H 0 0 := wp_iload rfl rfl
theorem w208_69 : ma_W d 208 Q 69 (o0 :: o1 :: o2 :: o3 :: o4 :: o5 :: o6 :: o7 :: some (.int x) :: l) st H 0 0 = ma_W d 208 Q 71 (o0 :: o1 :: o2 :: o3 :: o4 :: o5 :: o6 :: o7 :: some (.int x) :: l) (.int x :: st) H 0 0 := wp_iload rfl rfl
theorem w208_71 : ma_W d 208 Q 71 l (.int y :: .int x :: st) H 0 0 = (¬ y = 0 ∧ ma_W d 208 Q 72 l (.int (x / y) :: st) H 0 0) := wp_idiv rfl
theorem w208_72 : ma_W d 208 Q 72 (o0 :: o1 :: o2 :: o3 :: o4 :: o5 :: p :: l) (.int x :: st) H 0 0 = ma_W d 208 Q 74 (o0 :: o1 :: o2 :: o3 :: o4 :: ma_clr o5 :: some (.int x) :: l) st H 0 0 := wp_istore (id := 208) (pc := 72) (k := 6) rfl (Nat.succ_lt_succ (Nat.succ_lt_succ (Nat.succ_lt_succ (Nat.succ_lt_succ (Nat.succ_lt_succ (Nat.succ_lt_succ (Nat.zero_lt_succ _)))))))
theorem w208_74 : ma_W d 208 Q 74 (o0 :: o1 :: o2 :: o3 :: o4 :: o5 :: o6 :: some (.int x) :: l) st H 0 0 = ma_W d 208 Q 77 (o0 :: o1 :: o2 :: o3 :: o4 :: o5 :: ma_clr o6 :: some (.int (x + 1)) :: l) st H 0 0 := wp_iinc (id := 208) (pc := 74) (k := 7) (n := 1) rfl (Nat.succ_lt_succ (Nat.succ_lt_succ (Nat.succ_lt_succ (Nat.succ_lt_succ (Nat.succ_lt_succ (Nat.succ_lt_succ (Nat.succ_lt_succ (Nat.zero_lt_succ _)))))))) rfl (by decide)
theorem w208_77 : ma_W d 208 Q 77 l st H 0 0 = ma_W d 208 Q 9 l st H 0 0 := wp_goto 9 rfl (by decide)
theorem w208_80 : ma_W d 208 Q 80 (o0 :: o1 :: o2 :: o3 :: some (.long u) :: l) st H 0 0 = ma_W d 208 Q 82 (o0 :: o1 :: o2 :: o3 :: some (.long u) :: l) (.long u :: st) H 0 0 := wp_lload rfl rfl
theorem w208_82 : ma_W d 208 Q 82 l [.long u] H 0 0 = Q (some (.long u)) H := wp_lret rfl rfl
theorem e208 : ma_MW (d + 1) 208 [.long u0, .int x1, .int x2] H Q = ma_W d 208 Q 0 [some (.long u0), none, some (.int x1), some (.int x2), none, none, none, none, none, none, none] [] H 0 0 := wp_enter (by decide) (Nat.le_of_ble_eq_true rfl) rfl
/-! 209 ro_mixInto -/
theorem w209_0 : ma_W d 209 Q 0 (some (.long u) :: l) st H 0 0 = ma_W d 209 Q 1 (some (.long u) :: l) (.long u :: st) H 0 0 := wp_lload_n rfl rfl
theorem w209_1 : ma_W d 209 Q 1 (o0 :: o1 :: o2 :: o3 :: p :: q :: l) (.long u :: st) H 0 0 = ma_W d 209 Q 3 (o0 :: o1 :: o2 :: ma_clr o3 :: some (.long u) :: none :: l) st H 0 0 := wp_lstore (id := 209) (pc := 1) (k := 4) rfl (Nat.succ_lt_succ (Nat.succ_lt_succ (Nat.succ_lt_succ (Nat.succ_lt_succ (Nat.succ_lt_succ (Nat.zero_lt_succ _))))))
theorem w209_3 : ma_W d 209 Q 3 l st H 0 0 = ma_W d 209 Q 4 l (.int 0 :: st) H 0 0 := wp_iconst rfl (by decide)
theorem w209_4 : ma_W d 209 Q 4 (o0 :: o1 :: o2 :: o3 :: o4 :: o5 :: p :: l) (.int x :: st) H 0 0 = ma_W d 209 Q 6 (o0 :: o1 :: o2 :: o3 :: o4 :: ma_clr o5 :: some (.int x) :: l) st H 0 0 := wp_istore (id := 209) (pc := 4) (k := 6) rfl (Nat.succ_lt_succ (Nat.succ_lt_succ (Nat.succ_lt_succ (Nat.succ_lt_succ (Nat.succ_lt_succ (Nat.succ_lt_succ (Nat.zero_lt_succ _)))))))
theorem w209_6 : ma_W d 209 Q 6 (o0 :: o1 :: o2 :: o3 :: o4 :: o5 :: some (.int x) :: l) st H 0 0 = ma_W d 209 Q 8 (o0 :: o1 :: o2 :: o3 :: o4 :: o5 :: some (.int x) :: l) (.int x :: st) H 0 0 := wp_iload rfl rfl
theorem w209_8 : ma_W d 209 Q 8 (o0 :: o1 :: some (.long u) :: l) st H 0 0 = ma_W d 209 Q 9 (o0 :: o1 :: some (.long u) :: l) (.long u :: st) H 0 0 := wp_lload_n rfl rfl
theorem w209_9 : ma_W d 209 Q 9 l (.long u0 :: st) H 0 0 = (ma_cat st ≤ 8 ∧ ma_MW d 202 [.long u0] H (ma_kC d 209 Q 12 l st 0 0)) := wc_S0 (ia := 202) (n := 1) (cn := 10) (k := 1) rfl (by decide +kernel) (by decide) (fun _ => rfl) rfl rfl
theorem w209_12 : ma_W d 209 Q 12 l (.int y :: .int x :: st) H 0 0 = ma_if (y ≤ x) d 209 Q 37 15 l st H 0 0 := wp_ic (id := 209) (pc := 12) (c := .ge) (off := 25) 37 rfl (by decide)
theorem w209_15 : ma_W d 209 Q 15 l st H 0 0 = ma_W d 209 Q 18 l (.long 31 :: st) H 0 0 := wp_ldc2 rfl (by decide +kernel)
theorem w209_18 : ma_W d 209 Q 18 (o0 :: o1 :: o2 :: o3 :: some (.long u) :: l) st H 0 0 = ma_W d 209 Q 20 (o0 :: o1 :: o2 :: o3 :: some (.long u) :: l) (.long u :: st) H 0 0 := wp_lload rfl rfl
theorem w209_20 : ma_W d 209 Q 20 l (.long v :: .long u :: st) H 0 0 = ma_W d 209 Q 21 l (.long (u * v) :: st) H 0 0 := wp_lmul rfl
theorem w209_21 : ma_W d 209 Q 21 (o0 :: o1 :: some (.long u) :: l) st H 0 0 = ma_W d 209 Q 22 (o0 :: o1 :: some (.long u) :: l) (.long u :: st) H 0 0 := wp_lload_n rfl rfl
theorem w209_22 : ma_W d 209 Q 22 (o0 :: o1 :: o2 :: o3 :: o4 :: o5 :: some (.int x) :: l) st H 0 0 = ma_W d 209 Q 24 (o0 :: o1 :: o2 :: o3 :: o4 :: o5 :: some (.int x) :: l) (.int x :: st) H 0 0 := wp_iload rfl rfl
theorem w209_24 : ma_W d 209 Q 24 l (.int x1 :: .long u0 :: st) H 0 0 = (ma_cat st ≤ 8 ∧ ma_MW d 203 [.long u0, .int x1] H (ma_kC d 209 Q 27 l st 0 0)) := wc_S0 (ia := 203) (n := 2) (cn := 10) (k := 1) rfl (by decide +kernel) (by decide) (fun _ => rfl) rfl rfl
theorem w209_27 : ma_W d 209 Q 27 l (.int x :: st) H 0 0 = ma_W d 209 Q 28 l (.long x.toInt64 :: st) H 0 0 := wp_i2l rfl
theorem w209_28 : ma_W d 209 Q 28 l (.long v :: .long u :: st) H 0 0 = ma_W d 209 Q 29 l (.long (u + v) :: st) H 0 0 := wp_ladd rfl
theorem w209_29 : ma_W d 209 Q 29 (o0 :: o1 :: o2 :: o3 :: p :: q :: l) (.long u :: st) H 0 0 = ma_W d 209 Q 31 (o0 :: o1 :: o2 :: ma_clr o3 :: some (.long u) :: none :: l) st H 0 0 := wp_lstore (id := 209) (pc := 29) (k := 4) rfl (Nat.succ_lt_succ (Nat.succ_lt_succ (Nat.succ_lt_succ (Nat.succ_lt_succ (Nat.succ_lt_succ (Nat.zero_lt_succ _))))))
theorem w209_31 : ma_W d 209 Q 31 (o0 :: o1 :: o2 :: o3 :: o4 :: o5 :: some (.int x) :: l) st H 0 0 = ma_W d 209 Q 34 (o0 :: o1 :: o2 :: o3 :: o4 :: ma_clr o5 :: some (.int (x + 1)) :: l) st H 0 0 := wp_iinc (id := 209) (pc := 31) (k := 6) (n := 1) rfl (Nat.succ_lt_succ (Nat.succ_lt_succ (Nat.succ_lt_succ (Nat.succ_lt_succ (Nat.succ_lt_succ (Nat.succ_lt_succ (Nat.zero_lt_succ _))))))) rfl (by decide)
theorem w209_34 : ma_W d 209 Q 34 l st H 0 0 = ma_W d 209 Q 6 l st H 0 0 := wp_goto 6 rfl (by decide)
theorem w209_37 : ma_W d 209 Q 37 (o0 :: o1 :: o2 :: o3 :: some (.long u) :: l) st H 0 0 = ma_W d 209 Q 39 (o0 :: o1 :: o2 :: o3 :: some (.long u) :: l) (.long u :: st) H 0 0 := wp_lload rfl rfl
theorem w209_39 : ma_W d 209 Q 39 l [.long u] H 0 0 = Q (some (.long u)) H := wp_lret rfl rfl
theorem e209 : ma_MW (d + 1) 209 [.long u0, .long u1] H Q = ma_W d 209 Q 0 [some (.long u0), none, some (.long u1), none, none, none, none] [] H 0 0 := wp_enter (by decide) (Nat.le_of_ble_eq_true rfl) rfl
/-! 210 tr_takenWithin -/
theorem w210_0 : ma_W d 210 Q 0 (some (.ref i) :: l) st H 0 0 = ma_W d 210 Q 1 (some (.ref i) :: l) (.ref i :: st) H 0 0 := wp_aload_n (x := some i) rfl rfl
theorem w210_1 : ma_W d 210 Q 1 l (.ref i :: st) H 0 0 = ma_gf (H.1 i) 6 2 (ma_kV d 210 Q 4 l st H 0 0) := wp_get rfl (by decide +kernel)
theorem w210_4 : ma_W d 210 Q 4 (o0 :: some (.ref i) :: l) st H 0 0 = ma_W d 210 Q 5 (o0 :: some (.ref i) :: l) (.ref i :: st) H 0 0 := wp_aload_n (x := some i) rfl rfl
theorem w210_5 : ma_W d 210 Q 5 l (.ref i0 :: .ref i :: st) H 0 0 = (ma_cat st ≤ 8 ∧ ma_cv (H.1 i) 4 d 35 [.ref i, .ref i0] H (ma_kC d 210 Q 8 l st 0 0)) := wc_V0 (ia := 35) (n := 2) (cn := 4) rfl (by decide +kernel) (fun _ => rfl) rfl rfl
theorem w210_8 : ma_W d 210 Q 8 l st H 0 0 = ma_W d 210 Q 9 l (.int 1 :: st) H 0 0 := wp_iconst rfl (by decide)
theorem w210_9 : ma_W d 210 Q 9 (o0 :: o1 :: o2 :: o3 :: p :: l) (.int x :: st) H 0 0 = ma_W d 210 Q 11 (o0 :: o1 :: o2 :: ma_clr o3 :: some (.int x) :: l) st H 0 0 := wp_istore (id := 210) (pc := 9) (k := 4) rfl (Nat.succ_lt_succ (Nat.succ_lt_succ (Nat.succ_lt_succ (Nat.succ_lt_succ (Nat.zero_lt_succ _)))))
theorem w210_11 : ma_W d 210 Q 11 (o0 :: o1 :: o2 :: o3 :: some (.int x) :: l) st H 0 0 = ma_W d 210 Q 13 (o0 :: o1 :: o2 :: o3 :: some (.int x) :: l) (.int x :: st) H 0 0 := wp_iload rfl rfl
theorem w210_13 : ma_W d 210 Q 13 (o0 :: o1 :: some (.int x) :: l) st H 0 0 = ma_W d 210 Q 14 (o0 :: o1 :: some (.int x) :: l) (.int x :: st) H 0 0 := wp_iload_n rfl rfl
theorem w210_14 : ma_W d 210 Q 14 l (.int y :: .int x :: st) H 0 0 = ma_if (y < x) d 210 Q 70 17 l st H 0 0 := wp_ic (id := 210) (pc := 14) (c := .gt) (off := 56) 70 rfl (by decide)
theorem w210_17 : ma_W d 210 Q 17 (some (.ref i) :: l) st H 0 0 = ma_W d 210 Q 18 (some (.ref i) :: l) (.ref i :: st) H 0 0 := wp_aload_n (x := some i) rfl rfl
theorem w210_18 : ma_W d 210 Q 18 l (.ref i :: st) H 0 0 = ma_gf (H.1 i) 6 2 (ma_kV d 210 Q 21 l st H 0 0) := wp_get rfl (by decide +kernel)
theorem w210_21 : ma_W d 210 Q 21 l (.ref i :: st) H 0 0 = (ma_cat st ≤ 8 ∧ ma_cv (H.1 i) 4 d 47 [.ref i] H (ma_kC d 210 Q 24 l st 0 0)) := wc_V0 (ia := 47) (n := 1) (cn := 4) rfl (by decide +kernel) (fun _ => rfl) rfl rfl
theorem w210_24 : ma_W d 210 Q 24 l (.int x :: st) H 0 0 = ma_if (x = 0) d 210 Q 27 70 l st H 0 0 := wp_c0 (id := 210) (pc := 24) (c := .ne) (off := 46) 70 rfl (by decide)
theorem w210_27 : ma_W d 210 Q 27 (some (.ref i) :: l) st H 0 0 = ma_W d 210 Q 28 (some (.ref i) :: l) (.ref i :: st) H 0 0 := wp_aload_n (x := some i) rfl rfl
theorem w210_28 : ma_W d 210 Q 28 l (.ref i :: st) H 0 0 = ma_gf (H.1 i) 6 2 (ma_kV d 210 Q 31 l st H 0 0) := wp_get rfl (by decide +kernel)
theorem w210_31 : ma_W d 210 Q 31 l (.ref i :: st) H 0 0 = (ma_cat st ≤ 8 ∧ ma_cv (H.1 i) 4 d 51 [.ref i] H (ma_kC d 210 Q 34 l st 0 0)) := wc_V0 (ia := 51) (n := 1) (cn := 4) rfl (by decide +kernel) (fun _ => rfl) rfl rfl
theorem w210_34 : ma_W d 210 Q 34 (some (.ref i) :: l) st H 0 0 = ma_W d 210 Q 35 (some (.ref i) :: l) (.ref i :: st) H 0 0 := wp_aload_n (x := some i) rfl rfl
theorem w210_35 : ma_W d 210 Q 35 l (.ref i :: st) H 0 0 = ma_gf (H.1 i) 6 2 (ma_kV d 210 Q 38 l st H 0 0) := wp_get rfl (by decide +kernel)
theorem w210_38 : ma_W d 210 Q 38 l st H 0 0 = ma_W d 210 Q 39 l (.int 2 :: st) H 0 0 := wp_iconst rfl (by decide)
theorem w210_39 : ma_W d 210 Q 39 l (.int x0 :: .ref i :: st) H 0 0 = (ma_cat st ≤ 8 ∧ ma_cv (H.1 i) 4 d 37 [.ref i, .int x0] H (ma_kC d 210 Q 42 l st 0 0)) := wc_V0 (ia := 37) (n := 2) (cn := 4) rfl (by decide +kernel) (fun _ => rfl) rfl rfl
theorem w210_42 : ma_W d 210 Q 42 l st H 0 0 = ma_W d 210 Q 43 l (.long 0 :: st) H 0 0 := wp_lconst rfl (by decide)
theorem w210_43 : ma_W d 210 Q 43 l (.long v :: .long u :: st) H 0 0 = ma_W d 210 Q 44 l (.int (lg_cmp u v) :: st) H 0 0 := wp_lcmp rfl
theorem w210_44 : ma_W d 210 Q 44 l (.int x :: st) H 0 0 = ma_if (x = 0) d 210 Q 47 64 l st H 0 0 := wp_c0 (id := 210) (pc := 44) (c := .ne) (off := 20) 64 rfl (by decide)
theorem w210_47 : ma_W d 210 Q 47 (o0 :: o1 :: o2 :: some (.int x) :: l) st H 0 0 = ma_W d 210 Q 48 (o0 :: o1 :: o2 :: some (.int x) :: l) (.int x :: st) H 0 0 := wp_iload_n rfl rfl
theorem w210_48 : ma_W d 210 Q 48 l (.int x :: st) H 0 0 = ma_if (x = 0) d 210 Q 61 51 l st H 0 0 := wp_c0 (id := 210) (pc := 48) (c := .eq) (off := 13) 61 rfl (by decide)
theorem w210_51 : ma_W d 210 Q 51 (some (.ref i) :: l) st H 0 0 = ma_W d 210 Q 52 (some (.ref i) :: l) (.ref i :: st) H 0 0 := wp_aload_n (x := some i) rfl rfl
theorem w210_52 : ma_W d 210 Q 52 l (.ref i :: st) H 0 0 = ma_gf (H.1 i) 6 2 (ma_kV d 210 Q 55 l st H 0 0) := wp_get rfl (by decide +kernel)
theorem w210_55 : ma_W d 210 Q 55 l (.ref i :: st) H 0 0 = ma_gf (H.1 i) 4 0 (ma_kV d 210 Q 58 l st H 0 0) := wp_get rfl (by decide +kernel)
theorem w210_58 : ma_W d 210 Q 58 l st H 0 0 = ma_W d 210 Q 63 l st H 0 0 := wp_goto 63 rfl (by decide)
theorem w210_61 : ma_W d 210 Q 61 (o0 :: o1 :: o2 :: o3 :: some (.int x) :: l) st H 0 0 = ma_W d 210 Q 63 (o0 :: o1 :: o2 :: o3 :: some (.int x) :: l) (.int x :: st) H 0 0 := wp_iload rfl rfl
theorem w210_63 : ma_W d 210 Q 63 l [.int x] H 0 0 = Q (some (.int x)) H := wp_iret rfl rfl
theorem w210_64 : ma_W d 210 Q 64 (o0 :: o1 :: o2 :: o3 :: some (.int x) :: l) st H 0 0 = ma_W d 210 Q 67 (o0 :: o1 :: o2 :: ma_clr o3 :: some (.int (x + 1)) :: l) st H 0 0 := wp_iinc (id := 210) (pc := 64) (k := 4) (n := 1) rfl (Nat.succ_lt_succ (Nat.succ_lt_succ (Nat.succ_lt_succ (Nat.succ_lt_succ (Nat.zero_lt_succ _))))) rfl (by decide)
theorem w210_67 : ma_W d 210 Q 67 l st H 0 0 = ma_W d 210 Q 11 l st H 0 0 := wp_goto 11 rfl (by decide)
theorem w210_70 : ma_W d 210 Q 70 l st H 0 0 = ma_W d 210 Q 71 l (.int (-1) :: st) H 0 0 := wp_iconst rfl (by decide)
theorem w210_71 : ma_W d 210 Q 71 l [.int x] H 0 0 = Q (some (.int x)) H := wp_iret rfl rfl
theorem e210 : ma_MW (d + 1) 210 [.ref i, .ref i0, .int x1, .int x2] H Q = ma_W d 210 Q 0 [some (.ref i), some (.ref i0), some (.int x1), some (.int x2), none] [] H 0 0 := wp_enter (by decide) (Nat.le_of_ble_eq_true rfl) rfl
/-! 211 tr_roundWithin -/
theorem w211_0 : ma_W d 211 Q 0 (some (.ref i) :: l) st H 0 0 = ma_W d 211 Q 1 (some (.ref i) :: l) (.ref i :: st) H 0 0 := wp_aload_n (x := some i) rfl rfl
theorem w211_1 : ma_W d 211 Q 1 l (.ref i :: st) H 0 0 = ma_gf (H.1 i) 6 2 (ma_kV d 211 Q 4 l st H 0 0) := wp_get rfl (by decide +kernel)
theorem w211_4 : ma_W d 211 Q 4 (o0 :: some (.ref i) :: l) st H 0 0 = ma_W d 211 Q 5 (o0 :: some (.ref i) :: l) (.ref i :: st) H 0 0 := wp_aload_n (x := some i) rfl rfl
theorem w211_5 : ma_W d 211 Q 5 l (.ref i0 :: .ref i :: st) H 0 0 = (ma_cat st ≤ 8 ∧ ma_cv (H.1 i) 4 d 35 [.ref i, .ref i0] H (ma_kC d 211 Q 8 l st 0 0)) := wc_V0 (ia := 35) (n := 2) (cn := 4) rfl (by decide +kernel) (fun _ => rfl) rfl rfl
theorem w211_8 : ma_W d 211 Q 8 l st H 0 0 = ma_W d 211 Q 9 l (.int 1 :: st) H 0 0 := wp_iconst rfl (by decide)
theorem w211_9 : ma_W d 211 Q 9 (o0 :: o1 :: o2 :: p :: l) (.int x :: st) H 0 0 = ma_W d 211 Q 10 (o0 :: o1 :: ma_clr o2 :: some (.int x) :: l) st H 0 0 := wp_istore_n (id := 211) (pc := 9) (k := 3) rfl (Nat.succ_lt_succ (Nat.succ_lt_succ (Nat.succ_lt_succ (Nat.zero_lt_succ _))))
theorem w211_10 : ma_W d 211 Q 10 (o0 :: o1 :: o2 :: some (.int x) :: l) st H 0 0 = ma_W d 211 Q 11 (o0 :: o1 :: o2 :: some (.int x) :: l) (.int x :: st) H 0 0 := wp_iload_n rfl rfl
theorem w211_11 : ma_W d 211 Q 11 (o0 :: o1 :: some (.int x) :: l) st H 0 0 = ma_W d 211 Q 12 (o0 :: o1 :: some (.int x) :: l) (.int x :: st) H 0 0 := wp_iload_n rfl rfl
theorem w211_12 : ma_W d 211 Q 12 l (.int y :: .int x :: st) H 0 0 = ma_if (y < x) d 211 Q 51 15 l st H 0 0 := wp_ic (id := 211) (pc := 12) (c := .gt) (off := 39) 51 rfl (by decide)
theorem w211_15 : ma_W d 211 Q 15 (some (.ref i) :: l) st H 0 0 = ma_W d 211 Q 16 (some (.ref i) :: l) (.ref i :: st) H 0 0 := wp_aload_n (x := some i) rfl rfl
theorem w211_16 : ma_W d 211 Q 16 l (.ref i :: st) H 0 0 = ma_gf (H.1 i) 6 2 (ma_kV d 211 Q 19 l st H 0 0) := wp_get rfl (by decide +kernel)
theorem w211_19 : ma_W d 211 Q 19 l (.ref i :: st) H 0 0 = (ma_cat st ≤ 8 ∧ ma_cv (H.1 i) 4 d 47 [.ref i] H (ma_kC d 211 Q 22 l st 0 0)) := wc_V0 (ia := 47) (n := 1) (cn := 4) rfl (by decide +kernel) (fun _ => rfl) rfl rfl
theorem w211_22 : ma_W d 211 Q 22 l (.int x :: st) H 0 0 = ma_if (x = 0) d 211 Q 25 51 l st H 0 0 := wp_c0 (id := 211) (pc := 22) (c := .ne) (off := 29) 51 rfl (by decide)
theorem w211_25 : ma_W d 211 Q 25 (some (.ref i) :: l) st H 0 0 = ma_W d 211 Q 26 (some (.ref i) :: l) (.ref i :: st) H 0 0 := wp_aload_n (x := some i) rfl rfl
theorem w211_26 : ma_W d 211 Q 26 l (.ref i :: st) H 0 0 = ma_gf (H.1 i) 6 2 (ma_kV d 211 Q 29 l st H 0 0) := wp_get rfl (by decide +kernel)
theorem w211_29 : ma_W d 211 Q 29 l (.ref i :: st) H 0 0 = (ma_cat st ≤ 8 ∧ ma_cv (H.1 i) 4 d 51 [.ref i] H (ma_kC d 211 Q 32 l st 0 0)) := wc_V0 (ia := 51) (n := 1) (cn := 4) rfl (by decide +kernel) (fun _ => rfl) rfl rfl
theorem w211_32 : ma_W d 211 Q 32 (some (.ref i) :: l) st H 0 0 = ma_W d 211 Q 33 (some (.ref i) :: l) (.ref i :: st) H 0 0 := wp_aload_n (x := some i) rfl rfl
theorem w211_33 : ma_W d 211 Q 33 l (.ref i :: st) H 0 0 = ma_gf (H.1 i) 6 2 (ma_kV d 211 Q 36 l st H 0 0) := wp_get rfl (by decide +kernel)
theorem w211_36 : ma_W d 211 Q 36 (o0 :: some (.ref i) :: l) st H 0 0 = ma_W d 211 Q 37 (o0 :: some (.ref i) :: l) (.ref i :: st) H 0 0 := wp_aload_n (x := some i) rfl rfl
theorem w211_37 : ma_W d 211 Q 37 l (.ref i0 :: .ref i :: st) H 0 0 = (ma_cat st ≤ 8 ∧ ma_cv (H.1 i) 4 d 36 [.ref i, .ref i0] H (ma_kC d 211 Q 40 l st 0 0)) := wc_V0 (ia := 36) (n := 2) (cn := 4) rfl (by decide +kernel) (fun _ => rfl) rfl rfl
theorem w211_40 : ma_W d 211 Q 40 l (.int x :: st) H 0 0 = ma_if (x = 0) d 211 Q 45 43 l st H 0 0 := wp_c0 (id := 211) (pc := 40) (c := .eq) (off := 5) 45 rfl (by decide)
theorem w211_43 : ma_W d 211 Q 43 (o0 :: o1 :: o2 :: some (.int x) :: l) st H 0 0 = ma_W d 211 Q 44 (o0 :: o1 :: o2 :: some (.int x) :: l) (.int x :: st) H 0 0 := wp_iload_n rfl rfl
theorem w211_44 : ma_W d 211 Q 44 l [.int x] H 0 0 = Q (some (.int x)) H := wp_iret rfl rfl
theorem w211_45 : ma_W d 211 Q 45 (o0 :: o1 :: o2 :: some (.int x) :: l) st H 0 0 = ma_W d 211 Q 48 (o0 :: o1 :: ma_clr o2 :: some (.int (x + 1)) :: l) st H 0 0 := wp_iinc (id := 211) (pc := 45) (k := 3) (n := 1) rfl (Nat.succ_lt_succ (Nat.succ_lt_succ (Nat.succ_lt_succ (Nat.zero_lt_succ _)))) rfl (by decide)
theorem w211_48 : ma_W d 211 Q 48 l st H 0 0 = ma_W d 211 Q 10 l st H 0 0 := wp_goto 10 rfl (by decide)
theorem w211_51 : ma_W d 211 Q 51 l st H 0 0 = ma_W d 211 Q 52 l (.int (-1) :: st) H 0 0 := wp_iconst rfl (by decide)
theorem w211_52 : ma_W d 211 Q 52 l [.int x] H 0 0 = Q (some (.int x)) H := wp_iret rfl rfl
theorem e211 : ma_MW (d + 1) 211 [.ref i, .ref i0, .int x1] H Q = ma_W d 211 Q 0 [some (.ref i), some (.ref i0), some (.int x1), none] [] H 0 0 := wp_enter (by decide) (Nat.le_of_ble_eq_true rfl) rfl
end

/-! one row an instruction (written by wip/whole/gen_rows.py) -/
section
variable {d : Nat} {Q : ma_P} {l : ma_L} {st : List Value} {H : ma_H} {a b : Nat} {x y x0 x1 x2 x3 x4 : Int32} {u v u0 u1 u2 : Int64} {i j i0 i1 i2 i3 i4 : Nat} {p q o0 o1 o2 o3 o4 o5 o6 o7 o8 o9 o10 : Option Value}
/-! 210 la_law -/
theorem f210_0 : ma_ins 210 0 = some (.new 7, 3) := by decide +kernel
theorem w210_0 : ma_W d 210 Q 0 l st H a b = (a + 1 ≤ 600000 ∧ b + 11 ≤ 7302250 ∧ ma_W d 210 Q 3 l (.ref H.2 :: st) (ma_new H (.inr (7, [.null, .null, .null, .null, .null, .null, .long 0, .long 0, .int 0, .int 0, .int 0]))) (a + 1) (b + 11)) := wp_new f210_0 (by decide +kernel) rfl rfl rfl rfl
theorem f210_3 : ma_ins 210 3 = some (.dup, 1) := by decide +kernel
theorem w210_3 : ma_W d 210 Q 3 l (.ref i :: st) H a b = ma_W d 210 Q 4 l (.ref i :: .ref i :: st) H a b := wp_dup f210_3 rfl
theorem w210_3i : ma_W d 210 Q 3 l (.int x :: st) H a b = ma_W d 210 Q 4 l (.int x :: .int x :: st) H a b := wp_dup f210_3 rfl
theorem f210_4 : ma_ins 210 4 = some (.invokespecial 9, 3) := by decide +kernel
theorem w210_4 : ma_W d 210 Q 4 l (.ref i :: st) H a b = (ma_cat st ≤ 8 ∧ a + 31 ≤ 600000 ∧ b + 393 ≤ 7302250 ∧ ma_MW d 77 [.ref i] H (ma_kC d 210 Q 7 l st (a + 31) (b + 393))) := wc_I (ia := 77) (n := 1) (cn := 7) (k := 2) f210_4 (by decide +kernel) (by decide) (fun _ => rfl) rfl rfl rfl
theorem f210_7 : ma_ins 210 7 = some (.astore_n 1, 1) := by decide +kernel
theorem w210_7 : ma_W d 210 Q 7 (o0 :: p :: l) (.ref i :: st) H a b = ma_W d 210 Q 8 (ma_clr o0 :: some (.ref i) :: l) st H a b := wp_astore_n (id := 210) (pc := 7) (k := 1) f210_7 (Nat.succ_lt_succ (Nat.zero_lt_succ _))
theorem f210_8 : ma_ins 210 8 = some (.new 10, 3) := by decide +kernel
theorem w210_8 : ma_W d 210 Q 8 l st H a b = (a + 1 ≤ 600000 ∧ b + 18 ≤ 7302250 ∧ ma_W d 210 Q 11 l (.ref H.2 :: st) (ma_new H (.inr (8, [.null, .null, .null, .null, .null, .long 0, .long 0, .int 0, .null, .int 0, .int 0, .int 0, .int 0, .long 0, .int 0, .null, .null, .null]))) (a + 1) (b + 18)) := wp_new f210_8 (by decide +kernel) rfl rfl rfl rfl
theorem f210_11 : ma_ins 210 11 = some (.dup, 1) := by decide +kernel
theorem w210_11 : ma_W d 210 Q 11 l (.ref i :: st) H a b = ma_W d 210 Q 12 l (.ref i :: .ref i :: st) H a b := wp_dup f210_11 rfl
theorem w210_11i : ma_W d 210 Q 11 l (.int x :: st) H a b = ma_W d 210 Q 12 l (.int x :: .int x :: st) H a b := wp_dup f210_11 rfl
theorem f210_12 : ma_ins 210 12 = some (.invokespecial 12, 3) := by decide +kernel
theorem w210_12 : ma_W d 210 Q 12 l (.ref i :: st) H a b = (ma_cat st ≤ 8 ∧ a + 9 ≤ 600000 ∧ b + 2445 ≤ 7302250 ∧ ma_MW d 124 [.ref i] H (ma_kC d 210 Q 15 l st (a + 9) (b + 2445))) := wc_I (ia := 124) (n := 1) (cn := 8) (k := 2) f210_12 (by decide +kernel) (by decide) (fun _ => rfl) rfl rfl rfl
theorem f210_15 : ma_ins 210 15 = some (.astore_n 2, 1) := by decide +kernel
theorem w210_15 : ma_W d 210 Q 15 (o0 :: o1 :: p :: l) (.ref i :: st) H a b = ma_W d 210 Q 16 (o0 :: ma_clr o1 :: some (.ref i) :: l) st H a b := wp_astore_n (id := 210) (pc := 15) (k := 2) f210_15 (Nat.succ_lt_succ (Nat.succ_lt_succ (Nat.zero_lt_succ _)))
theorem f210_16 : ma_ins 210 16 = some (.iconst 0, 1) := by decide +kernel
theorem w210_16 : ma_W d 210 Q 16 l st H a b = ma_W d 210 Q 17 l (.int 0 :: st) H a b := wp_iconst f210_16 (by decide)
theorem f210_17 : ma_ins 210 17 = some (.istore_n 3, 1) := by decide +kernel
theorem w210_17 : ma_W d 210 Q 17 (o0 :: o1 :: o2 :: p :: l) (.int x :: st) H a b = ma_W d 210 Q 18 (o0 :: o1 :: ma_clr o2 :: some (.int x) :: l) st H a b := wp_istore_n (id := 210) (pc := 17) (k := 3) f210_17 (Nat.succ_lt_succ (Nat.succ_lt_succ (Nat.succ_lt_succ (Nat.zero_lt_succ _))))
theorem f210_18 : ma_ins 210 18 = some (.iload_n 3, 1) := by decide +kernel
theorem w210_18 : ma_W d 210 Q 18 (o0 :: o1 :: o2 :: some (.int x) :: l) st H a b = ma_W d 210 Q 19 (o0 :: o1 :: o2 :: some (.int x) :: l) (.int x :: st) H a b := wp_iload_n f210_18 rfl
theorem f210_19 : ma_ins 210 19 = some (.aload_n 0, 1) := by decide +kernel
theorem w210_19 : ma_W d 210 Q 19 (some (.ref i) :: l) st H a b = ma_W d 210 Q 20 (some (.ref i) :: l) (.ref i :: st) H a b := wp_aload_n (x := some i) f210_19 rfl
theorem f210_20 : ma_ins 210 20 = some (.arraylength, 1) := by decide +kernel
theorem w210_20 : ma_W d 210 Q 20 l (.ref i :: st) H a b = ma_al1 (H.1 i) (ma_kV d 210 Q 21 l st H a b) := wp_alen f210_20
theorem f210_21 : ma_ins 210 21 = some (.iconst 5, 1) := by decide +kernel
theorem w210_21 : ma_W d 210 Q 21 l st H a b = ma_W d 210 Q 22 l (.int 5 :: st) H a b := wp_iconst f210_21 (by decide)
theorem f210_22 : ma_ins 210 22 = some (.isub, 1) := by decide +kernel
theorem w210_22 : ma_W d 210 Q 22 l (.int y :: .int x :: st) H a b = ma_W d 210 Q 23 l (.int (x - y) :: st) H a b := wp_isub f210_22
theorem f210_23 : ma_ins 210 23 = some (.if_icmp .gt 974, 3) := by decide +kernel
theorem w210_23 : ma_W d 210 Q 23 l (.int y :: .int x :: st) H a b = ma_if (y < x) d 210 Q 997 26 l st H a b := wp_ic (id := 210) (pc := 23) (c := .gt) (off := 974) 997 f210_23 (by decide)
theorem f210_26 : ma_ins 210 26 = some (.aload_n 0, 1) := by decide +kernel
theorem w210_26 : ma_W d 210 Q 26 (some (.ref i) :: l) st H a b = ma_W d 210 Q 27 (some (.ref i) :: l) (.ref i :: st) H a b := wp_aload_n (x := some i) f210_26 rfl
theorem f210_27 : ma_ins 210 27 = some (.iload_n 3, 1) := by decide +kernel
theorem w210_27 : ma_W d 210 Q 27 (o0 :: o1 :: o2 :: some (.int x) :: l) st H a b = ma_W d 210 Q 28 (o0 :: o1 :: o2 :: some (.int x) :: l) (.int x :: st) H a b := wp_iload_n f210_27 rfl
theorem f210_28 : ma_ins 210 28 = some (.iaload, 1) := by decide +kernel
theorem w210_28 : ma_W d 210 Q 28 l (.int x :: .ref i :: st) H a b = ma_ial (H.1 i) x (ma_kV d 210 Q 29 l st H a b) := wp_iald f210_28
theorem f210_29 : ma_ins 210 29 = some (.bipush 63, 2) := by decide +kernel
theorem w210_29 : ma_W d 210 Q 29 l st H a b = ma_W d 210 Q 31 l (.int 63 :: st) H a b := wp_bipush f210_29 (by decide)
theorem f210_31 : ma_ins 210 31 = some (.iand, 1) := by decide +kernel
theorem w210_31 : ma_W d 210 Q 31 l (.int y :: .int x :: st) H a b = ma_W d 210 Q 32 l (.int (x &&& y) :: st) H a b := wp_iand f210_31
theorem f210_32 : ma_ins 210 32 = some (.tableswitch 959 0 32 #[148, 181, 214, 247, 270, 283, 296, 319, 352, 365, 398, 431, 444, 457, 480, 493, 526, 559, 592, 645, 668, 681, 694, 717, 740, 763, 796, 829, 853, 876, 899, 922, 945], 148) := by decide +kernel
theorem w210_32 : ma_W d 210 Q 32 l (.int x :: st) H a b = ma_sw x 0 [180, 213, 246, 279, 302, 315, 328, 351, 384, 397, 430, 463, 476, 489, 512, 525, 558, 591, 624, 677, 700, 713, 726, 749, 772, 795, 828, 861, 885, 908, 931, 954, 977] 991 d 210 Q l st H a b := wp_switch _ _ f210_32 (by decide) (by decide +kernel) (by decide)
theorem f210_180 : ma_ins 210 180 = some (.aload_n 1, 1) := by decide +kernel
theorem w210_180 : ma_W d 210 Q 180 (o0 :: some (.ref i) :: l) st H a b = ma_W d 210 Q 181 (o0 :: some (.ref i) :: l) (.ref i :: st) H a b := wp_aload_n (x := some i) f210_180 rfl
theorem f210_181 : ma_ins 210 181 = some (.aload_n 0, 1) := by decide +kernel
theorem w210_181 : ma_W d 210 Q 181 (some (.ref i) :: l) st H a b = ma_W d 210 Q 182 (some (.ref i) :: l) (.ref i :: st) H a b := wp_aload_n (x := some i) f210_181 rfl
theorem f210_182 : ma_ins 210 182 = some (.iload_n 3, 1) := by decide +kernel
theorem w210_182 : ma_W d 210 Q 182 (o0 :: o1 :: o2 :: some (.int x) :: l) st H a b = ma_W d 210 Q 183 (o0 :: o1 :: o2 :: some (.int x) :: l) (.int x :: st) H a b := wp_iload_n f210_182 rfl
theorem f210_183 : ma_ins 210 183 = some (.iconst 1, 1) := by decide +kernel
theorem w210_183 : ma_W d 210 Q 183 l st H a b = ma_W d 210 Q 184 l (.int 1 :: st) H a b := wp_iconst f210_183 (by decide)
theorem f210_184 : ma_ins 210 184 = some (.iadd, 1) := by decide +kernel
theorem w210_184 : ma_W d 210 Q 184 l (.int y :: .int x :: st) H a b = ma_W d 210 Q 185 l (.int (x + y) :: st) H a b := wp_iadd f210_184
theorem f210_185 : ma_ins 210 185 = some (.iaload, 1) := by decide +kernel
theorem w210_185 : ma_W d 210 Q 185 l (.int x :: .ref i :: st) H a b = ma_ial (H.1 i) x (ma_kV d 210 Q 186 l st H a b) := wp_iald f210_185
theorem f210_186 : ma_ins 210 186 = some (.aload_n 0, 1) := by decide +kernel
theorem w210_186 : ma_W d 210 Q 186 (some (.ref i) :: l) st H a b = ma_W d 210 Q 187 (some (.ref i) :: l) (.ref i :: st) H a b := wp_aload_n (x := some i) f210_186 rfl
theorem f210_187 : ma_ins 210 187 = some (.iload_n 3, 1) := by decide +kernel
theorem w210_187 : ma_W d 210 Q 187 (o0 :: o1 :: o2 :: some (.int x) :: l) st H a b = ma_W d 210 Q 188 (o0 :: o1 :: o2 :: some (.int x) :: l) (.int x :: st) H a b := wp_iload_n f210_187 rfl
theorem f210_188 : ma_ins 210 188 = some (.iconst 2, 1) := by decide +kernel
theorem w210_188 : ma_W d 210 Q 188 l st H a b = ma_W d 210 Q 189 l (.int 2 :: st) H a b := wp_iconst f210_188 (by decide)
theorem f210_189 : ma_ins 210 189 = some (.iadd, 1) := by decide +kernel
theorem w210_189 : ma_W d 210 Q 189 l (.int y :: .int x :: st) H a b = ma_W d 210 Q 190 l (.int (x + y) :: st) H a b := wp_iadd f210_189
theorem f210_190 : ma_ins 210 190 = some (.iaload, 1) := by decide +kernel
theorem w210_190 : ma_W d 210 Q 190 l (.int x :: .ref i :: st) H a b = ma_ial (H.1 i) x (ma_kV d 210 Q 191 l st H a b) := wp_iald f210_190
theorem f210_191 : ma_ins 210 191 = some (.invokevirtual 13, 3) := by decide +kernel
theorem w210_191 : ma_W d 210 Q 191 l (.int x1 :: .int x0 :: .ref i :: st) H a b = (ma_cat st ≤ 8 ∧ a + 0 ≤ 600000 ∧ b + 0 ≤ 7302250 ∧ ma_cv (H.1 i) 7 d 78 [.ref i, .int x0, .int x1] H (ma_kC d 210 Q 194 l st (a + 0) (b + 0))) := wc_V (ia := 78) (n := 3) (cn := 7) f210_191 (by decide +kernel) (fun _ => rfl) rfl rfl
theorem f210_194 : ma_ins 210 194 = some (.aload_n 2, 1) := by decide +kernel
theorem w210_194 : ma_W d 210 Q 194 (o0 :: o1 :: some (.ref i) :: l) st H a b = ma_W d 210 Q 195 (o0 :: o1 :: some (.ref i) :: l) (.ref i :: st) H a b := wp_aload_n (x := some i) f210_194 rfl
theorem f210_195 : ma_ins 210 195 = some (.aload_n 0, 1) := by decide +kernel
theorem w210_195 : ma_W d 210 Q 195 (some (.ref i) :: l) st H a b = ma_W d 210 Q 196 (some (.ref i) :: l) (.ref i :: st) H a b := wp_aload_n (x := some i) f210_195 rfl
theorem f210_196 : ma_ins 210 196 = some (.iload_n 3, 1) := by decide +kernel
theorem w210_196 : ma_W d 210 Q 196 (o0 :: o1 :: o2 :: some (.int x) :: l) st H a b = ma_W d 210 Q 197 (o0 :: o1 :: o2 :: some (.int x) :: l) (.int x :: st) H a b := wp_iload_n f210_196 rfl
theorem f210_197 : ma_ins 210 197 = some (.iconst 1, 1) := by decide +kernel
theorem w210_197 : ma_W d 210 Q 197 l st H a b = ma_W d 210 Q 198 l (.int 1 :: st) H a b := wp_iconst f210_197 (by decide)
theorem f210_198 : ma_ins 210 198 = some (.iadd, 1) := by decide +kernel
theorem w210_198 : ma_W d 210 Q 198 l (.int y :: .int x :: st) H a b = ma_W d 210 Q 199 l (.int (x + y) :: st) H a b := wp_iadd f210_198
theorem f210_199 : ma_ins 210 199 = some (.iaload, 1) := by decide +kernel
theorem w210_199 : ma_W d 210 Q 199 l (.int x :: .ref i :: st) H a b = ma_ial (H.1 i) x (ma_kV d 210 Q 200 l st H a b) := wp_iald f210_199
theorem f210_200 : ma_ins 210 200 = some (.aload_n 0, 1) := by decide +kernel
theorem w210_200 : ma_W d 210 Q 200 (some (.ref i) :: l) st H a b = ma_W d 210 Q 201 (some (.ref i) :: l) (.ref i :: st) H a b := wp_aload_n (x := some i) f210_200 rfl
theorem f210_201 : ma_ins 210 201 = some (.iload_n 3, 1) := by decide +kernel
theorem w210_201 : ma_W d 210 Q 201 (o0 :: o1 :: o2 :: some (.int x) :: l) st H a b = ma_W d 210 Q 202 (o0 :: o1 :: o2 :: some (.int x) :: l) (.int x :: st) H a b := wp_iload_n f210_201 rfl
theorem f210_202 : ma_ins 210 202 = some (.iconst 2, 1) := by decide +kernel
theorem w210_202 : ma_W d 210 Q 202 l st H a b = ma_W d 210 Q 203 l (.int 2 :: st) H a b := wp_iconst f210_202 (by decide)
theorem f210_203 : ma_ins 210 203 = some (.iadd, 1) := by decide +kernel
theorem w210_203 : ma_W d 210 Q 203 l (.int y :: .int x :: st) H a b = ma_W d 210 Q 204 l (.int (x + y) :: st) H a b := wp_iadd f210_203
theorem f210_204 : ma_ins 210 204 = some (.iaload, 1) := by decide +kernel
theorem w210_204 : ma_W d 210 Q 204 l (.int x :: .ref i :: st) H a b = ma_ial (H.1 i) x (ma_kV d 210 Q 205 l st H a b) := wp_iald f210_204
theorem f210_205 : ma_ins 210 205 = some (.invokevirtual 17, 3) := by decide +kernel
theorem w210_205 : ma_W d 210 Q 205 l (.int x1 :: .int x0 :: .ref i :: st) H a b = (ma_cat st ≤ 8 ∧ a + 0 ≤ 600000 ∧ b + 0 ≤ 7302250 ∧ ma_cv (H.1 i) 8 d 134 [.ref i, .int x0, .int x1] H (ma_kC d 210 Q 208 l st (a + 0) (b + 0))) := wc_V (ia := 134) (n := 3) (cn := 8) f210_205 (by decide +kernel) (fun _ => rfl) rfl rfl
theorem f210_208 : ma_ins 210 208 = some (.if_icmp .eq 783, 3) := by decide +kernel
theorem w210_208 : ma_W d 210 Q 208 l (.int y :: .int x :: st) H a b = ma_if (x = y) d 210 Q 991 211 l st H a b := wp_ic (id := 210) (pc := 208) (c := .eq) (off := 783) 991 f210_208 (by decide)
theorem f210_211 : ma_ins 210 211 = some (.iconst 0, 1) := by decide +kernel
theorem w210_211 : ma_W d 210 Q 211 l st H a b = ma_W d 210 Q 212 l (.int 0 :: st) H a b := wp_iconst f210_211 (by decide)
theorem f210_212 : ma_ins 210 212 = some (.ireturn, 1) := by decide +kernel
theorem w210_212 : ma_W d 210 Q 212 l [.int x] H a b = ((x = 0 ∨ x = 1) ∧ Q (some (.int x)) H) := wp_zret f210_212 rfl
theorem f210_213 : ma_ins 210 213 = some (.aload_n 1, 1) := by decide +kernel
theorem w210_213 : ma_W d 210 Q 213 (o0 :: some (.ref i) :: l) st H a b = ma_W d 210 Q 214 (o0 :: some (.ref i) :: l) (.ref i :: st) H a b := wp_aload_n (x := some i) f210_213 rfl
theorem f210_214 : ma_ins 210 214 = some (.aload_n 0, 1) := by decide +kernel
theorem w210_214 : ma_W d 210 Q 214 (some (.ref i) :: l) st H a b = ma_W d 210 Q 215 (some (.ref i) :: l) (.ref i :: st) H a b := wp_aload_n (x := some i) f210_214 rfl
theorem f210_215 : ma_ins 210 215 = some (.iload_n 3, 1) := by decide +kernel
theorem w210_215 : ma_W d 210 Q 215 (o0 :: o1 :: o2 :: some (.int x) :: l) st H a b = ma_W d 210 Q 216 (o0 :: o1 :: o2 :: some (.int x) :: l) (.int x :: st) H a b := wp_iload_n f210_215 rfl
theorem f210_216 : ma_ins 210 216 = some (.iconst 1, 1) := by decide +kernel
theorem w210_216 : ma_W d 210 Q 216 l st H a b = ma_W d 210 Q 217 l (.int 1 :: st) H a b := wp_iconst f210_216 (by decide)
theorem f210_217 : ma_ins 210 217 = some (.iadd, 1) := by decide +kernel
theorem w210_217 : ma_W d 210 Q 217 l (.int y :: .int x :: st) H a b = ma_W d 210 Q 218 l (.int (x + y) :: st) H a b := wp_iadd f210_217
theorem f210_218 : ma_ins 210 218 = some (.iaload, 1) := by decide +kernel
theorem w210_218 : ma_W d 210 Q 218 l (.int x :: .ref i :: st) H a b = ma_ial (H.1 i) x (ma_kV d 210 Q 219 l st H a b) := wp_iald f210_218
theorem f210_219 : ma_ins 210 219 = some (.aload_n 0, 1) := by decide +kernel
theorem w210_219 : ma_W d 210 Q 219 (some (.ref i) :: l) st H a b = ma_W d 210 Q 220 (some (.ref i) :: l) (.ref i :: st) H a b := wp_aload_n (x := some i) f210_219 rfl
theorem f210_220 : ma_ins 210 220 = some (.iload_n 3, 1) := by decide +kernel
theorem w210_220 : ma_W d 210 Q 220 (o0 :: o1 :: o2 :: some (.int x) :: l) st H a b = ma_W d 210 Q 221 (o0 :: o1 :: o2 :: some (.int x) :: l) (.int x :: st) H a b := wp_iload_n f210_220 rfl
theorem f210_221 : ma_ins 210 221 = some (.iconst 2, 1) := by decide +kernel
theorem w210_221 : ma_W d 210 Q 221 l st H a b = ma_W d 210 Q 222 l (.int 2 :: st) H a b := wp_iconst f210_221 (by decide)
theorem f210_222 : ma_ins 210 222 = some (.iadd, 1) := by decide +kernel
theorem w210_222 : ma_W d 210 Q 222 l (.int y :: .int x :: st) H a b = ma_W d 210 Q 223 l (.int (x + y) :: st) H a b := wp_iadd f210_222
theorem f210_223 : ma_ins 210 223 = some (.iaload, 1) := by decide +kernel
theorem w210_223 : ma_W d 210 Q 223 l (.int x :: .ref i :: st) H a b = ma_ial (H.1 i) x (ma_kV d 210 Q 224 l st H a b) := wp_iald f210_223
theorem f210_224 : ma_ins 210 224 = some (.invokevirtual 18, 3) := by decide +kernel
theorem w210_224 : ma_W d 210 Q 224 l (.int x1 :: .int x0 :: .ref i :: st) H a b = (ma_cat st ≤ 8 ∧ a + 0 ≤ 600000 ∧ b + 0 ≤ 7302250 ∧ ma_cv (H.1 i) 7 d 79 [.ref i, .int x0, .int x1] H (ma_kC d 210 Q 227 l st (a + 0) (b + 0))) := wc_V (ia := 79) (n := 3) (cn := 7) f210_224 (by decide +kernel) (fun _ => rfl) rfl rfl
theorem f210_227 : ma_ins 210 227 = some (.aload_n 2, 1) := by decide +kernel
theorem w210_227 : ma_W d 210 Q 227 (o0 :: o1 :: some (.ref i) :: l) st H a b = ma_W d 210 Q 228 (o0 :: o1 :: some (.ref i) :: l) (.ref i :: st) H a b := wp_aload_n (x := some i) f210_227 rfl
theorem f210_228 : ma_ins 210 228 = some (.aload_n 0, 1) := by decide +kernel
theorem w210_228 : ma_W d 210 Q 228 (some (.ref i) :: l) st H a b = ma_W d 210 Q 229 (some (.ref i) :: l) (.ref i :: st) H a b := wp_aload_n (x := some i) f210_228 rfl
theorem f210_229 : ma_ins 210 229 = some (.iload_n 3, 1) := by decide +kernel
theorem w210_229 : ma_W d 210 Q 229 (o0 :: o1 :: o2 :: some (.int x) :: l) st H a b = ma_W d 210 Q 230 (o0 :: o1 :: o2 :: some (.int x) :: l) (.int x :: st) H a b := wp_iload_n f210_229 rfl
theorem f210_230 : ma_ins 210 230 = some (.iconst 1, 1) := by decide +kernel
theorem w210_230 : ma_W d 210 Q 230 l st H a b = ma_W d 210 Q 231 l (.int 1 :: st) H a b := wp_iconst f210_230 (by decide)
theorem f210_231 : ma_ins 210 231 = some (.iadd, 1) := by decide +kernel
theorem w210_231 : ma_W d 210 Q 231 l (.int y :: .int x :: st) H a b = ma_W d 210 Q 232 l (.int (x + y) :: st) H a b := wp_iadd f210_231
theorem f210_232 : ma_ins 210 232 = some (.iaload, 1) := by decide +kernel
theorem w210_232 : ma_W d 210 Q 232 l (.int x :: .ref i :: st) H a b = ma_ial (H.1 i) x (ma_kV d 210 Q 233 l st H a b) := wp_iald f210_232
theorem f210_233 : ma_ins 210 233 = some (.aload_n 0, 1) := by decide +kernel
theorem w210_233 : ma_W d 210 Q 233 (some (.ref i) :: l) st H a b = ma_W d 210 Q 234 (some (.ref i) :: l) (.ref i :: st) H a b := wp_aload_n (x := some i) f210_233 rfl
theorem f210_234 : ma_ins 210 234 = some (.iload_n 3, 1) := by decide +kernel
theorem w210_234 : ma_W d 210 Q 234 (o0 :: o1 :: o2 :: some (.int x) :: l) st H a b = ma_W d 210 Q 235 (o0 :: o1 :: o2 :: some (.int x) :: l) (.int x :: st) H a b := wp_iload_n f210_234 rfl
theorem f210_235 : ma_ins 210 235 = some (.iconst 2, 1) := by decide +kernel
theorem w210_235 : ma_W d 210 Q 235 l st H a b = ma_W d 210 Q 236 l (.int 2 :: st) H a b := wp_iconst f210_235 (by decide)
theorem f210_236 : ma_ins 210 236 = some (.iadd, 1) := by decide +kernel
theorem w210_236 : ma_W d 210 Q 236 l (.int y :: .int x :: st) H a b = ma_W d 210 Q 237 l (.int (x + y) :: st) H a b := wp_iadd f210_236
theorem f210_237 : ma_ins 210 237 = some (.iaload, 1) := by decide +kernel
theorem w210_237 : ma_W d 210 Q 237 l (.int x :: .ref i :: st) H a b = ma_ial (H.1 i) x (ma_kV d 210 Q 238 l st H a b) := wp_iald f210_237
theorem f210_238 : ma_ins 210 238 = some (.invokevirtual 21, 3) := by decide +kernel
theorem w210_238 : ma_W d 210 Q 238 l (.int x1 :: .int x0 :: .ref i :: st) H a b = (ma_cat st ≤ 8 ∧ a + 0 ≤ 600000 ∧ b + 0 ≤ 7302250 ∧ ma_cv (H.1 i) 8 d 135 [.ref i, .int x0, .int x1] H (ma_kC d 210 Q 241 l st (a + 0) (b + 0))) := wc_V (ia := 135) (n := 3) (cn := 8) f210_238 (by decide +kernel) (fun _ => rfl) rfl rfl
theorem f210_241 : ma_ins 210 241 = some (.if_icmp .eq 750, 3) := by decide +kernel
theorem w210_241 : ma_W d 210 Q 241 l (.int y :: .int x :: st) H a b = ma_if (x = y) d 210 Q 991 244 l st H a b := wp_ic (id := 210) (pc := 241) (c := .eq) (off := 750) 991 f210_241 (by decide)
theorem f210_244 : ma_ins 210 244 = some (.iconst 0, 1) := by decide +kernel
theorem w210_244 : ma_W d 210 Q 244 l st H a b = ma_W d 210 Q 245 l (.int 0 :: st) H a b := wp_iconst f210_244 (by decide)
theorem f210_245 : ma_ins 210 245 = some (.ireturn, 1) := by decide +kernel
theorem w210_245 : ma_W d 210 Q 245 l [.int x] H a b = ((x = 0 ∨ x = 1) ∧ Q (some (.int x)) H) := wp_zret f210_245 rfl
theorem f210_246 : ma_ins 210 246 = some (.aload_n 1, 1) := by decide +kernel
theorem w210_246 : ma_W d 210 Q 246 (o0 :: some (.ref i) :: l) st H a b = ma_W d 210 Q 247 (o0 :: some (.ref i) :: l) (.ref i :: st) H a b := wp_aload_n (x := some i) f210_246 rfl
theorem f210_247 : ma_ins 210 247 = some (.aload_n 0, 1) := by decide +kernel
theorem w210_247 : ma_W d 210 Q 247 (some (.ref i) :: l) st H a b = ma_W d 210 Q 248 (some (.ref i) :: l) (.ref i :: st) H a b := wp_aload_n (x := some i) f210_247 rfl
theorem f210_248 : ma_ins 210 248 = some (.iload_n 3, 1) := by decide +kernel
theorem w210_248 : ma_W d 210 Q 248 (o0 :: o1 :: o2 :: some (.int x) :: l) st H a b = ma_W d 210 Q 249 (o0 :: o1 :: o2 :: some (.int x) :: l) (.int x :: st) H a b := wp_iload_n f210_248 rfl
theorem f210_249 : ma_ins 210 249 = some (.iconst 1, 1) := by decide +kernel
theorem w210_249 : ma_W d 210 Q 249 l st H a b = ma_W d 210 Q 250 l (.int 1 :: st) H a b := wp_iconst f210_249 (by decide)
theorem f210_250 : ma_ins 210 250 = some (.iadd, 1) := by decide +kernel
theorem w210_250 : ma_W d 210 Q 250 l (.int y :: .int x :: st) H a b = ma_W d 210 Q 251 l (.int (x + y) :: st) H a b := wp_iadd f210_250
theorem f210_251 : ma_ins 210 251 = some (.iaload, 1) := by decide +kernel
theorem w210_251 : ma_W d 210 Q 251 l (.int x :: .ref i :: st) H a b = ma_ial (H.1 i) x (ma_kV d 210 Q 252 l st H a b) := wp_iald f210_251
theorem f210_252 : ma_ins 210 252 = some (.aload_n 0, 1) := by decide +kernel
theorem w210_252 : ma_W d 210 Q 252 (some (.ref i) :: l) st H a b = ma_W d 210 Q 253 (some (.ref i) :: l) (.ref i :: st) H a b := wp_aload_n (x := some i) f210_252 rfl
theorem f210_253 : ma_ins 210 253 = some (.iload_n 3, 1) := by decide +kernel
theorem w210_253 : ma_W d 210 Q 253 (o0 :: o1 :: o2 :: some (.int x) :: l) st H a b = ma_W d 210 Q 254 (o0 :: o1 :: o2 :: some (.int x) :: l) (.int x :: st) H a b := wp_iload_n f210_253 rfl
theorem f210_254 : ma_ins 210 254 = some (.iconst 2, 1) := by decide +kernel
theorem w210_254 : ma_W d 210 Q 254 l st H a b = ma_W d 210 Q 255 l (.int 2 :: st) H a b := wp_iconst f210_254 (by decide)
theorem f210_255 : ma_ins 210 255 = some (.iadd, 1) := by decide +kernel
theorem w210_255 : ma_W d 210 Q 255 l (.int y :: .int x :: st) H a b = ma_W d 210 Q 256 l (.int (x + y) :: st) H a b := wp_iadd f210_255
theorem f210_256 : ma_ins 210 256 = some (.iaload, 1) := by decide +kernel
theorem w210_256 : ma_W d 210 Q 256 l (.int x :: .ref i :: st) H a b = ma_ial (H.1 i) x (ma_kV d 210 Q 257 l st H a b) := wp_iald f210_256
theorem f210_257 : ma_ins 210 257 = some (.invokevirtual 22, 3) := by decide +kernel
theorem w210_257 : ma_W d 210 Q 257 l (.int x1 :: .int x0 :: .ref i :: st) H a b = (ma_cat st ≤ 8 ∧ a + 0 ≤ 600000 ∧ b + 0 ≤ 7302250 ∧ ma_cv (H.1 i) 7 d 80 [.ref i, .int x0, .int x1] H (ma_kC d 210 Q 260 l st (a + 0) (b + 0))) := wc_V (ia := 80) (n := 3) (cn := 7) f210_257 (by decide +kernel) (fun _ => rfl) rfl rfl
theorem f210_260 : ma_ins 210 260 = some (.aload_n 2, 1) := by decide +kernel
theorem w210_260 : ma_W d 210 Q 260 (o0 :: o1 :: some (.ref i) :: l) st H a b = ma_W d 210 Q 261 (o0 :: o1 :: some (.ref i) :: l) (.ref i :: st) H a b := wp_aload_n (x := some i) f210_260 rfl
theorem f210_261 : ma_ins 210 261 = some (.aload_n 0, 1) := by decide +kernel
theorem w210_261 : ma_W d 210 Q 261 (some (.ref i) :: l) st H a b = ma_W d 210 Q 262 (some (.ref i) :: l) (.ref i :: st) H a b := wp_aload_n (x := some i) f210_261 rfl
theorem f210_262 : ma_ins 210 262 = some (.iload_n 3, 1) := by decide +kernel
theorem w210_262 : ma_W d 210 Q 262 (o0 :: o1 :: o2 :: some (.int x) :: l) st H a b = ma_W d 210 Q 263 (o0 :: o1 :: o2 :: some (.int x) :: l) (.int x :: st) H a b := wp_iload_n f210_262 rfl
theorem f210_263 : ma_ins 210 263 = some (.iconst 1, 1) := by decide +kernel
theorem w210_263 : ma_W d 210 Q 263 l st H a b = ma_W d 210 Q 264 l (.int 1 :: st) H a b := wp_iconst f210_263 (by decide)
theorem f210_264 : ma_ins 210 264 = some (.iadd, 1) := by decide +kernel
theorem w210_264 : ma_W d 210 Q 264 l (.int y :: .int x :: st) H a b = ma_W d 210 Q 265 l (.int (x + y) :: st) H a b := wp_iadd f210_264
theorem f210_265 : ma_ins 210 265 = some (.iaload, 1) := by decide +kernel
theorem w210_265 : ma_W d 210 Q 265 l (.int x :: .ref i :: st) H a b = ma_ial (H.1 i) x (ma_kV d 210 Q 266 l st H a b) := wp_iald f210_265
theorem f210_266 : ma_ins 210 266 = some (.aload_n 0, 1) := by decide +kernel
theorem w210_266 : ma_W d 210 Q 266 (some (.ref i) :: l) st H a b = ma_W d 210 Q 267 (some (.ref i) :: l) (.ref i :: st) H a b := wp_aload_n (x := some i) f210_266 rfl
theorem f210_267 : ma_ins 210 267 = some (.iload_n 3, 1) := by decide +kernel
theorem w210_267 : ma_W d 210 Q 267 (o0 :: o1 :: o2 :: some (.int x) :: l) st H a b = ma_W d 210 Q 268 (o0 :: o1 :: o2 :: some (.int x) :: l) (.int x :: st) H a b := wp_iload_n f210_267 rfl
theorem f210_268 : ma_ins 210 268 = some (.iconst 2, 1) := by decide +kernel
theorem w210_268 : ma_W d 210 Q 268 l st H a b = ma_W d 210 Q 269 l (.int 2 :: st) H a b := wp_iconst f210_268 (by decide)
theorem f210_269 : ma_ins 210 269 = some (.iadd, 1) := by decide +kernel
theorem w210_269 : ma_W d 210 Q 269 l (.int y :: .int x :: st) H a b = ma_W d 210 Q 270 l (.int (x + y) :: st) H a b := wp_iadd f210_269
theorem f210_270 : ma_ins 210 270 = some (.iaload, 1) := by decide +kernel
theorem w210_270 : ma_W d 210 Q 270 l (.int x :: .ref i :: st) H a b = ma_ial (H.1 i) x (ma_kV d 210 Q 271 l st H a b) := wp_iald f210_270
theorem f210_271 : ma_ins 210 271 = some (.invokevirtual 25, 3) := by decide +kernel
theorem w210_271 : ma_W d 210 Q 271 l (.int x1 :: .int x0 :: .ref i :: st) H a b = (ma_cat st ≤ 8 ∧ a + 0 ≤ 600000 ∧ b + 0 ≤ 7302250 ∧ ma_cv (H.1 i) 8 d 137 [.ref i, .int x0, .int x1] H (ma_kC d 210 Q 274 l st (a + 0) (b + 0))) := wc_V (ia := 137) (n := 3) (cn := 8) f210_271 (by decide +kernel) (fun _ => rfl) rfl rfl
theorem f210_274 : ma_ins 210 274 = some (.if_icmp .eq 717, 3) := by decide +kernel
theorem w210_274 : ma_W d 210 Q 274 l (.int y :: .int x :: st) H a b = ma_if (x = y) d 210 Q 991 277 l st H a b := wp_ic (id := 210) (pc := 274) (c := .eq) (off := 717) 991 f210_274 (by decide)
theorem f210_277 : ma_ins 210 277 = some (.iconst 0, 1) := by decide +kernel
theorem w210_277 : ma_W d 210 Q 277 l st H a b = ma_W d 210 Q 278 l (.int 0 :: st) H a b := wp_iconst f210_277 (by decide)
theorem f210_278 : ma_ins 210 278 = some (.ireturn, 1) := by decide +kernel
theorem w210_278 : ma_W d 210 Q 278 l [.int x] H a b = ((x = 0 ∨ x = 1) ∧ Q (some (.int x)) H) := wp_zret f210_278 rfl
theorem f210_279 : ma_ins 210 279 = some (.aload_n 1, 1) := by decide +kernel
theorem w210_279 : ma_W d 210 Q 279 (o0 :: some (.ref i) :: l) st H a b = ma_W d 210 Q 280 (o0 :: some (.ref i) :: l) (.ref i :: st) H a b := wp_aload_n (x := some i) f210_279 rfl
theorem f210_280 : ma_ins 210 280 = some (.aload_n 0, 1) := by decide +kernel
theorem w210_280 : ma_W d 210 Q 280 (some (.ref i) :: l) st H a b = ma_W d 210 Q 281 (some (.ref i) :: l) (.ref i :: st) H a b := wp_aload_n (x := some i) f210_280 rfl
theorem f210_281 : ma_ins 210 281 = some (.iload_n 3, 1) := by decide +kernel
theorem w210_281 : ma_W d 210 Q 281 (o0 :: o1 :: o2 :: some (.int x) :: l) st H a b = ma_W d 210 Q 282 (o0 :: o1 :: o2 :: some (.int x) :: l) (.int x :: st) H a b := wp_iload_n f210_281 rfl
theorem f210_282 : ma_ins 210 282 = some (.iconst 1, 1) := by decide +kernel
theorem w210_282 : ma_W d 210 Q 282 l st H a b = ma_W d 210 Q 283 l (.int 1 :: st) H a b := wp_iconst f210_282 (by decide)
theorem f210_283 : ma_ins 210 283 = some (.iadd, 1) := by decide +kernel
theorem w210_283 : ma_W d 210 Q 283 l (.int y :: .int x :: st) H a b = ma_W d 210 Q 284 l (.int (x + y) :: st) H a b := wp_iadd f210_283
theorem f210_284 : ma_ins 210 284 = some (.iaload, 1) := by decide +kernel
theorem w210_284 : ma_W d 210 Q 284 l (.int x :: .ref i :: st) H a b = ma_ial (H.1 i) x (ma_kV d 210 Q 285 l st H a b) := wp_iald f210_284
theorem f210_285 : ma_ins 210 285 = some (.invokevirtual 26, 3) := by decide +kernel
theorem w210_285 : ma_W d 210 Q 285 l (.int x0 :: .ref i :: st) H a b = (ma_cat st ≤ 8 ∧ a + 0 ≤ 600000 ∧ b + 0 ≤ 7302250 ∧ ma_cv (H.1 i) 7 d 81 [.ref i, .int x0] H (ma_kC d 210 Q 288 l st (a + 0) (b + 0))) := wc_V (ia := 81) (n := 2) (cn := 7) f210_285 (by decide +kernel) (fun _ => rfl) rfl rfl
theorem f210_288 : ma_ins 210 288 = some (.aload_n 2, 1) := by decide +kernel
theorem w210_288 : ma_W d 210 Q 288 (o0 :: o1 :: some (.ref i) :: l) st H a b = ma_W d 210 Q 289 (o0 :: o1 :: some (.ref i) :: l) (.ref i :: st) H a b := wp_aload_n (x := some i) f210_288 rfl
theorem f210_289 : ma_ins 210 289 = some (.aload_n 0, 1) := by decide +kernel
theorem w210_289 : ma_W d 210 Q 289 (some (.ref i) :: l) st H a b = ma_W d 210 Q 290 (some (.ref i) :: l) (.ref i :: st) H a b := wp_aload_n (x := some i) f210_289 rfl
theorem f210_290 : ma_ins 210 290 = some (.iload_n 3, 1) := by decide +kernel
theorem w210_290 : ma_W d 210 Q 290 (o0 :: o1 :: o2 :: some (.int x) :: l) st H a b = ma_W d 210 Q 291 (o0 :: o1 :: o2 :: some (.int x) :: l) (.int x :: st) H a b := wp_iload_n f210_290 rfl
theorem f210_291 : ma_ins 210 291 = some (.iconst 1, 1) := by decide +kernel
theorem w210_291 : ma_W d 210 Q 291 l st H a b = ma_W d 210 Q 292 l (.int 1 :: st) H a b := wp_iconst f210_291 (by decide)
theorem f210_292 : ma_ins 210 292 = some (.iadd, 1) := by decide +kernel
theorem w210_292 : ma_W d 210 Q 292 l (.int y :: .int x :: st) H a b = ma_W d 210 Q 293 l (.int (x + y) :: st) H a b := wp_iadd f210_292
theorem f210_293 : ma_ins 210 293 = some (.iaload, 1) := by decide +kernel
theorem w210_293 : ma_W d 210 Q 293 l (.int x :: .ref i :: st) H a b = ma_ial (H.1 i) x (ma_kV d 210 Q 294 l st H a b) := wp_iald f210_293
theorem f210_294 : ma_ins 210 294 = some (.invokevirtual 30, 3) := by decide +kernel
theorem w210_294 : ma_W d 210 Q 294 l (.int x0 :: .ref i :: st) H a b = (ma_cat st ≤ 8 ∧ a + 0 ≤ 600000 ∧ b + 0 ≤ 7302250 ∧ ma_cv (H.1 i) 8 d 138 [.ref i, .int x0] H (ma_kC d 210 Q 297 l st (a + 0) (b + 0))) := wc_V (ia := 138) (n := 2) (cn := 8) f210_294 (by decide +kernel) (fun _ => rfl) rfl rfl
theorem f210_297 : ma_ins 210 297 = some (.if_icmp .eq 694, 3) := by decide +kernel
theorem w210_297 : ma_W d 210 Q 297 l (.int y :: .int x :: st) H a b = ma_if (x = y) d 210 Q 991 300 l st H a b := wp_ic (id := 210) (pc := 297) (c := .eq) (off := 694) 991 f210_297 (by decide)
theorem f210_300 : ma_ins 210 300 = some (.iconst 0, 1) := by decide +kernel
theorem w210_300 : ma_W d 210 Q 300 l st H a b = ma_W d 210 Q 301 l (.int 0 :: st) H a b := wp_iconst f210_300 (by decide)
theorem f210_301 : ma_ins 210 301 = some (.ireturn, 1) := by decide +kernel
theorem w210_301 : ma_W d 210 Q 301 l [.int x] H a b = ((x = 0 ∨ x = 1) ∧ Q (some (.int x)) H) := wp_zret f210_301 rfl
theorem f210_302 : ma_ins 210 302 = some (.aload_n 1, 1) := by decide +kernel
theorem w210_302 : ma_W d 210 Q 302 (o0 :: some (.ref i) :: l) st H a b = ma_W d 210 Q 303 (o0 :: some (.ref i) :: l) (.ref i :: st) H a b := wp_aload_n (x := some i) f210_302 rfl
theorem f210_303 : ma_ins 210 303 = some (.invokevirtual 31, 3) := by decide +kernel
theorem w210_303 : ma_W d 210 Q 303 l (.ref i :: st) H a b = (ma_cat st ≤ 8 ∧ a + 0 ≤ 600000 ∧ b + 0 ≤ 7302250 ∧ ma_cv (H.1 i) 7 d 82 [.ref i] H (ma_kC d 210 Q 306 l st (a + 0) (b + 0))) := wc_V (ia := 82) (n := 1) (cn := 7) f210_303 (by decide +kernel) (fun _ => rfl) rfl rfl
theorem f210_306 : ma_ins 210 306 = some (.aload_n 2, 1) := by decide +kernel
theorem w210_306 : ma_W d 210 Q 306 (o0 :: o1 :: some (.ref i) :: l) st H a b = ma_W d 210 Q 307 (o0 :: o1 :: some (.ref i) :: l) (.ref i :: st) H a b := wp_aload_n (x := some i) f210_306 rfl
theorem f210_307 : ma_ins 210 307 = some (.invokevirtual 35, 3) := by decide +kernel
theorem w210_307 : ma_W d 210 Q 307 l (.ref i :: st) H a b = (ma_cat st ≤ 8 ∧ a + 0 ≤ 600000 ∧ b + 0 ≤ 7302250 ∧ ma_cv (H.1 i) 8 d 139 [.ref i] H (ma_kC d 210 Q 310 l st (a + 0) (b + 0))) := wc_V (ia := 139) (n := 1) (cn := 8) f210_307 (by decide +kernel) (fun _ => rfl) rfl rfl
theorem f210_310 : ma_ins 210 310 = some (.if_icmp .eq 681, 3) := by decide +kernel
theorem w210_310 : ma_W d 210 Q 310 l (.int y :: .int x :: st) H a b = ma_if (x = y) d 210 Q 991 313 l st H a b := wp_ic (id := 210) (pc := 310) (c := .eq) (off := 681) 991 f210_310 (by decide)
theorem f210_313 : ma_ins 210 313 = some (.iconst 0, 1) := by decide +kernel
theorem w210_313 : ma_W d 210 Q 313 l st H a b = ma_W d 210 Q 314 l (.int 0 :: st) H a b := wp_iconst f210_313 (by decide)
theorem f210_314 : ma_ins 210 314 = some (.ireturn, 1) := by decide +kernel
theorem w210_314 : ma_W d 210 Q 314 l [.int x] H a b = ((x = 0 ∨ x = 1) ∧ Q (some (.int x)) H) := wp_zret f210_314 rfl
theorem f210_315 : ma_ins 210 315 = some (.aload_n 1, 1) := by decide +kernel
theorem w210_315 : ma_W d 210 Q 315 (o0 :: some (.ref i) :: l) st H a b = ma_W d 210 Q 316 (o0 :: some (.ref i) :: l) (.ref i :: st) H a b := wp_aload_n (x := some i) f210_315 rfl
theorem f210_316 : ma_ins 210 316 = some (.invokevirtual 36, 3) := by decide +kernel
theorem w210_316 : ma_W d 210 Q 316 l (.ref i :: st) H a b = (ma_cat st ≤ 8 ∧ a + 0 ≤ 600000 ∧ b + 0 ≤ 7302250 ∧ ma_cv (H.1 i) 7 d 83 [.ref i] H (ma_kC d 210 Q 319 l st (a + 0) (b + 0))) := wc_V (ia := 83) (n := 1) (cn := 7) f210_316 (by decide +kernel) (fun _ => rfl) rfl rfl
theorem f210_319 : ma_ins 210 319 = some (.aload_n 2, 1) := by decide +kernel
theorem w210_319 : ma_W d 210 Q 319 (o0 :: o1 :: some (.ref i) :: l) st H a b = ma_W d 210 Q 320 (o0 :: o1 :: some (.ref i) :: l) (.ref i :: st) H a b := wp_aload_n (x := some i) f210_319 rfl
theorem f210_320 : ma_ins 210 320 = some (.invokevirtual 39, 3) := by decide +kernel
theorem w210_320 : ma_W d 210 Q 320 l (.ref i :: st) H a b = (ma_cat st ≤ 8 ∧ a + 0 ≤ 600000 ∧ b + 0 ≤ 7302250 ∧ ma_cv (H.1 i) 8 d 148 [.ref i] H (ma_kC d 210 Q 323 l st (a + 0) (b + 0))) := wc_V (ia := 148) (n := 1) (cn := 8) f210_320 (by decide +kernel) (fun _ => rfl) rfl rfl
theorem f210_323 : ma_ins 210 323 = some (.if_icmp .eq 668, 3) := by decide +kernel
theorem w210_323 : ma_W d 210 Q 323 l (.int y :: .int x :: st) H a b = ma_if (x = y) d 210 Q 991 326 l st H a b := wp_ic (id := 210) (pc := 323) (c := .eq) (off := 668) 991 f210_323 (by decide)
theorem f210_326 : ma_ins 210 326 = some (.iconst 0, 1) := by decide +kernel
theorem w210_326 : ma_W d 210 Q 326 l st H a b = ma_W d 210 Q 327 l (.int 0 :: st) H a b := wp_iconst f210_326 (by decide)
theorem f210_327 : ma_ins 210 327 = some (.ireturn, 1) := by decide +kernel
theorem w210_327 : ma_W d 210 Q 327 l [.int x] H a b = ((x = 0 ∨ x = 1) ∧ Q (some (.int x)) H) := wp_zret f210_327 rfl
theorem f210_328 : ma_ins 210 328 = some (.aload_n 1, 1) := by decide +kernel
theorem w210_328 : ma_W d 210 Q 328 (o0 :: some (.ref i) :: l) st H a b = ma_W d 210 Q 329 (o0 :: some (.ref i) :: l) (.ref i :: st) H a b := wp_aload_n (x := some i) f210_328 rfl
theorem f210_329 : ma_ins 210 329 = some (.aload_n 0, 1) := by decide +kernel
theorem w210_329 : ma_W d 210 Q 329 (some (.ref i) :: l) st H a b = ma_W d 210 Q 330 (some (.ref i) :: l) (.ref i :: st) H a b := wp_aload_n (x := some i) f210_329 rfl
theorem f210_330 : ma_ins 210 330 = some (.iload_n 3, 1) := by decide +kernel
theorem w210_330 : ma_W d 210 Q 330 (o0 :: o1 :: o2 :: some (.int x) :: l) st H a b = ma_W d 210 Q 331 (o0 :: o1 :: o2 :: some (.int x) :: l) (.int x :: st) H a b := wp_iload_n f210_330 rfl
theorem f210_331 : ma_ins 210 331 = some (.iconst 1, 1) := by decide +kernel
theorem w210_331 : ma_W d 210 Q 331 l st H a b = ma_W d 210 Q 332 l (.int 1 :: st) H a b := wp_iconst f210_331 (by decide)
theorem f210_332 : ma_ins 210 332 = some (.iadd, 1) := by decide +kernel
theorem w210_332 : ma_W d 210 Q 332 l (.int y :: .int x :: st) H a b = ma_W d 210 Q 333 l (.int (x + y) :: st) H a b := wp_iadd f210_332
theorem f210_333 : ma_ins 210 333 = some (.iaload, 1) := by decide +kernel
theorem w210_333 : ma_W d 210 Q 333 l (.int x :: .ref i :: st) H a b = ma_ial (H.1 i) x (ma_kV d 210 Q 334 l st H a b) := wp_iald f210_333
theorem f210_334 : ma_ins 210 334 = some (.invokevirtual 40, 3) := by decide +kernel
theorem w210_334 : ma_W d 210 Q 334 l (.int x0 :: .ref i :: st) H a b = (ma_cat st ≤ 8 ∧ a + 0 ≤ 600000 ∧ b + 0 ≤ 7302250 ∧ ma_cv (H.1 i) 7 d 84 [.ref i, .int x0] H (ma_kC d 210 Q 337 l st (a + 0) (b + 0))) := wc_V (ia := 84) (n := 2) (cn := 7) f210_334 (by decide +kernel) (fun _ => rfl) rfl rfl
theorem f210_337 : ma_ins 210 337 = some (.aload_n 2, 1) := by decide +kernel
theorem w210_337 : ma_W d 210 Q 337 (o0 :: o1 :: some (.ref i) :: l) st H a b = ma_W d 210 Q 338 (o0 :: o1 :: some (.ref i) :: l) (.ref i :: st) H a b := wp_aload_n (x := some i) f210_337 rfl
theorem f210_338 : ma_ins 210 338 = some (.aload_n 0, 1) := by decide +kernel
theorem w210_338 : ma_W d 210 Q 338 (some (.ref i) :: l) st H a b = ma_W d 210 Q 339 (some (.ref i) :: l) (.ref i :: st) H a b := wp_aload_n (x := some i) f210_338 rfl
theorem f210_339 : ma_ins 210 339 = some (.iload_n 3, 1) := by decide +kernel
theorem w210_339 : ma_W d 210 Q 339 (o0 :: o1 :: o2 :: some (.int x) :: l) st H a b = ma_W d 210 Q 340 (o0 :: o1 :: o2 :: some (.int x) :: l) (.int x :: st) H a b := wp_iload_n f210_339 rfl
theorem f210_340 : ma_ins 210 340 = some (.iconst 1, 1) := by decide +kernel
theorem w210_340 : ma_W d 210 Q 340 l st H a b = ma_W d 210 Q 341 l (.int 1 :: st) H a b := wp_iconst f210_340 (by decide)
theorem f210_341 : ma_ins 210 341 = some (.iadd, 1) := by decide +kernel
theorem w210_341 : ma_W d 210 Q 341 l (.int y :: .int x :: st) H a b = ma_W d 210 Q 342 l (.int (x + y) :: st) H a b := wp_iadd f210_341
theorem f210_342 : ma_ins 210 342 = some (.iaload, 1) := by decide +kernel
theorem w210_342 : ma_W d 210 Q 342 l (.int x :: .ref i :: st) H a b = ma_ial (H.1 i) x (ma_kV d 210 Q 343 l st H a b) := wp_iald f210_342
theorem f210_343 : ma_ins 210 343 = some (.invokevirtual 43, 3) := by decide +kernel
theorem w210_343 : ma_W d 210 Q 343 l (.int x0 :: .ref i :: st) H a b = (ma_cat st ≤ 8 ∧ a + 0 ≤ 600000 ∧ b + 0 ≤ 7302250 ∧ ma_cv (H.1 i) 8 d 155 [.ref i, .int x0] H (ma_kC d 210 Q 346 l st (a + 0) (b + 0))) := wc_V (ia := 155) (n := 2) (cn := 8) f210_343 (by decide +kernel) (fun _ => rfl) rfl rfl
theorem f210_346 : ma_ins 210 346 = some (.if_icmp .eq 645, 3) := by decide +kernel
theorem w210_346 : ma_W d 210 Q 346 l (.int y :: .int x :: st) H a b = ma_if (x = y) d 210 Q 991 349 l st H a b := wp_ic (id := 210) (pc := 346) (c := .eq) (off := 645) 991 f210_346 (by decide)
theorem f210_349 : ma_ins 210 349 = some (.iconst 0, 1) := by decide +kernel
theorem w210_349 : ma_W d 210 Q 349 l st H a b = ma_W d 210 Q 350 l (.int 0 :: st) H a b := wp_iconst f210_349 (by decide)
theorem f210_350 : ma_ins 210 350 = some (.ireturn, 1) := by decide +kernel
theorem w210_350 : ma_W d 210 Q 350 l [.int x] H a b = ((x = 0 ∨ x = 1) ∧ Q (some (.int x)) H) := wp_zret f210_350 rfl
theorem f210_351 : ma_ins 210 351 = some (.aload_n 1, 1) := by decide +kernel
theorem w210_351 : ma_W d 210 Q 351 (o0 :: some (.ref i) :: l) st H a b = ma_W d 210 Q 352 (o0 :: some (.ref i) :: l) (.ref i :: st) H a b := wp_aload_n (x := some i) f210_351 rfl
theorem f210_352 : ma_ins 210 352 = some (.aload_n 0, 1) := by decide +kernel
theorem w210_352 : ma_W d 210 Q 352 (some (.ref i) :: l) st H a b = ma_W d 210 Q 353 (some (.ref i) :: l) (.ref i :: st) H a b := wp_aload_n (x := some i) f210_352 rfl
theorem f210_353 : ma_ins 210 353 = some (.iload_n 3, 1) := by decide +kernel
theorem w210_353 : ma_W d 210 Q 353 (o0 :: o1 :: o2 :: some (.int x) :: l) st H a b = ma_W d 210 Q 354 (o0 :: o1 :: o2 :: some (.int x) :: l) (.int x :: st) H a b := wp_iload_n f210_353 rfl
theorem f210_354 : ma_ins 210 354 = some (.iconst 1, 1) := by decide +kernel
theorem w210_354 : ma_W d 210 Q 354 l st H a b = ma_W d 210 Q 355 l (.int 1 :: st) H a b := wp_iconst f210_354 (by decide)
theorem f210_355 : ma_ins 210 355 = some (.iadd, 1) := by decide +kernel
theorem w210_355 : ma_W d 210 Q 355 l (.int y :: .int x :: st) H a b = ma_W d 210 Q 356 l (.int (x + y) :: st) H a b := wp_iadd f210_355
theorem f210_356 : ma_ins 210 356 = some (.iaload, 1) := by decide +kernel
theorem w210_356 : ma_W d 210 Q 356 l (.int x :: .ref i :: st) H a b = ma_ial (H.1 i) x (ma_kV d 210 Q 357 l st H a b) := wp_iald f210_356
theorem f210_357 : ma_ins 210 357 = some (.aload_n 0, 1) := by decide +kernel
theorem w210_357 : ma_W d 210 Q 357 (some (.ref i) :: l) st H a b = ma_W d 210 Q 358 (some (.ref i) :: l) (.ref i :: st) H a b := wp_aload_n (x := some i) f210_357 rfl
theorem f210_358 : ma_ins 210 358 = some (.iload_n 3, 1) := by decide +kernel
theorem w210_358 : ma_W d 210 Q 358 (o0 :: o1 :: o2 :: some (.int x) :: l) st H a b = ma_W d 210 Q 359 (o0 :: o1 :: o2 :: some (.int x) :: l) (.int x :: st) H a b := wp_iload_n f210_358 rfl
theorem f210_359 : ma_ins 210 359 = some (.iconst 2, 1) := by decide +kernel
theorem w210_359 : ma_W d 210 Q 359 l st H a b = ma_W d 210 Q 360 l (.int 2 :: st) H a b := wp_iconst f210_359 (by decide)
theorem f210_360 : ma_ins 210 360 = some (.iadd, 1) := by decide +kernel
theorem w210_360 : ma_W d 210 Q 360 l (.int y :: .int x :: st) H a b = ma_W d 210 Q 361 l (.int (x + y) :: st) H a b := wp_iadd f210_360
theorem f210_361 : ma_ins 210 361 = some (.iaload, 1) := by decide +kernel
theorem w210_361 : ma_W d 210 Q 361 l (.int x :: .ref i :: st) H a b = ma_ial (H.1 i) x (ma_kV d 210 Q 362 l st H a b) := wp_iald f210_361
theorem f210_362 : ma_ins 210 362 = some (.invokevirtual 44, 3) := by decide +kernel
theorem w210_362 : ma_W d 210 Q 362 l (.int x1 :: .int x0 :: .ref i :: st) H a b = (ma_cat st ≤ 8 ∧ a + 0 ≤ 600000 ∧ b + 0 ≤ 7302250 ∧ ma_cv (H.1 i) 7 d 85 [.ref i, .int x0, .int x1] H (ma_kC d 210 Q 365 l st (a + 0) (b + 0))) := wc_V (ia := 85) (n := 3) (cn := 7) f210_362 (by decide +kernel) (fun _ => rfl) rfl rfl
theorem f210_365 : ma_ins 210 365 = some (.aload_n 2, 1) := by decide +kernel
theorem w210_365 : ma_W d 210 Q 365 (o0 :: o1 :: some (.ref i) :: l) st H a b = ma_W d 210 Q 366 (o0 :: o1 :: some (.ref i) :: l) (.ref i :: st) H a b := wp_aload_n (x := some i) f210_365 rfl
theorem f210_366 : ma_ins 210 366 = some (.aload_n 0, 1) := by decide +kernel
theorem w210_366 : ma_W d 210 Q 366 (some (.ref i) :: l) st H a b = ma_W d 210 Q 367 (some (.ref i) :: l) (.ref i :: st) H a b := wp_aload_n (x := some i) f210_366 rfl
theorem f210_367 : ma_ins 210 367 = some (.iload_n 3, 1) := by decide +kernel
theorem w210_367 : ma_W d 210 Q 367 (o0 :: o1 :: o2 :: some (.int x) :: l) st H a b = ma_W d 210 Q 368 (o0 :: o1 :: o2 :: some (.int x) :: l) (.int x :: st) H a b := wp_iload_n f210_367 rfl
theorem f210_368 : ma_ins 210 368 = some (.iconst 1, 1) := by decide +kernel
theorem w210_368 : ma_W d 210 Q 368 l st H a b = ma_W d 210 Q 369 l (.int 1 :: st) H a b := wp_iconst f210_368 (by decide)
theorem f210_369 : ma_ins 210 369 = some (.iadd, 1) := by decide +kernel
theorem w210_369 : ma_W d 210 Q 369 l (.int y :: .int x :: st) H a b = ma_W d 210 Q 370 l (.int (x + y) :: st) H a b := wp_iadd f210_369
theorem f210_370 : ma_ins 210 370 = some (.iaload, 1) := by decide +kernel
theorem w210_370 : ma_W d 210 Q 370 l (.int x :: .ref i :: st) H a b = ma_ial (H.1 i) x (ma_kV d 210 Q 371 l st H a b) := wp_iald f210_370
theorem f210_371 : ma_ins 210 371 = some (.aload_n 0, 1) := by decide +kernel
theorem w210_371 : ma_W d 210 Q 371 (some (.ref i) :: l) st H a b = ma_W d 210 Q 372 (some (.ref i) :: l) (.ref i :: st) H a b := wp_aload_n (x := some i) f210_371 rfl
theorem f210_372 : ma_ins 210 372 = some (.iload_n 3, 1) := by decide +kernel
theorem w210_372 : ma_W d 210 Q 372 (o0 :: o1 :: o2 :: some (.int x) :: l) st H a b = ma_W d 210 Q 373 (o0 :: o1 :: o2 :: some (.int x) :: l) (.int x :: st) H a b := wp_iload_n f210_372 rfl
theorem f210_373 : ma_ins 210 373 = some (.iconst 2, 1) := by decide +kernel
theorem w210_373 : ma_W d 210 Q 373 l st H a b = ma_W d 210 Q 374 l (.int 2 :: st) H a b := wp_iconst f210_373 (by decide)
theorem f210_374 : ma_ins 210 374 = some (.iadd, 1) := by decide +kernel
theorem w210_374 : ma_W d 210 Q 374 l (.int y :: .int x :: st) H a b = ma_W d 210 Q 375 l (.int (x + y) :: st) H a b := wp_iadd f210_374
theorem f210_375 : ma_ins 210 375 = some (.iaload, 1) := by decide +kernel
theorem w210_375 : ma_W d 210 Q 375 l (.int x :: .ref i :: st) H a b = ma_ial (H.1 i) x (ma_kV d 210 Q 376 l st H a b) := wp_iald f210_375
theorem f210_376 : ma_ins 210 376 = some (.invokevirtual 47, 3) := by decide +kernel
theorem w210_376 : ma_W d 210 Q 376 l (.int x1 :: .int x0 :: .ref i :: st) H a b = (ma_cat st ≤ 8 ∧ a + 0 ≤ 600000 ∧ b + 0 ≤ 7302250 ∧ ma_cv (H.1 i) 8 d 157 [.ref i, .int x0, .int x1] H (ma_kC d 210 Q 379 l st (a + 0) (b + 0))) := wc_V (ia := 157) (n := 3) (cn := 8) f210_376 (by decide +kernel) (fun _ => rfl) rfl rfl
theorem f210_379 : ma_ins 210 379 = some (.if_icmp .eq 612, 3) := by decide +kernel
theorem w210_379 : ma_W d 210 Q 379 l (.int y :: .int x :: st) H a b = ma_if (x = y) d 210 Q 991 382 l st H a b := wp_ic (id := 210) (pc := 379) (c := .eq) (off := 612) 991 f210_379 (by decide)
theorem f210_382 : ma_ins 210 382 = some (.iconst 0, 1) := by decide +kernel
theorem w210_382 : ma_W d 210 Q 382 l st H a b = ma_W d 210 Q 383 l (.int 0 :: st) H a b := wp_iconst f210_382 (by decide)
theorem f210_383 : ma_ins 210 383 = some (.ireturn, 1) := by decide +kernel
theorem w210_383 : ma_W d 210 Q 383 l [.int x] H a b = ((x = 0 ∨ x = 1) ∧ Q (some (.int x)) H) := wp_zret f210_383 rfl
theorem f210_384 : ma_ins 210 384 = some (.aload_n 1, 1) := by decide +kernel
theorem w210_384 : ma_W d 210 Q 384 (o0 :: some (.ref i) :: l) st H a b = ma_W d 210 Q 385 (o0 :: some (.ref i) :: l) (.ref i :: st) H a b := wp_aload_n (x := some i) f210_384 rfl
theorem f210_385 : ma_ins 210 385 = some (.invokevirtual 48, 3) := by decide +kernel
theorem w210_385 : ma_W d 210 Q 385 l (.ref i :: st) H a b = (ma_cat st ≤ 8 ∧ a + 0 ≤ 600000 ∧ b + 0 ≤ 7302250 ∧ ma_cv (H.1 i) 7 d 86 [.ref i] H (ma_kC d 210 Q 388 l st (a + 0) (b + 0))) := wc_V (ia := 86) (n := 1) (cn := 7) f210_385 (by decide +kernel) (fun _ => rfl) rfl rfl
theorem f210_388 : ma_ins 210 388 = some (.aload_n 2, 1) := by decide +kernel
theorem w210_388 : ma_W d 210 Q 388 (o0 :: o1 :: some (.ref i) :: l) st H a b = ma_W d 210 Q 389 (o0 :: o1 :: some (.ref i) :: l) (.ref i :: st) H a b := wp_aload_n (x := some i) f210_388 rfl
theorem f210_389 : ma_ins 210 389 = some (.invokevirtual 51, 3) := by decide +kernel
theorem w210_389 : ma_W d 210 Q 389 l (.ref i :: st) H a b = (ma_cat st ≤ 8 ∧ a + 0 ≤ 600000 ∧ b + 0 ≤ 7302250 ∧ ma_cv (H.1 i) 8 d 158 [.ref i] H (ma_kC d 210 Q 392 l st (a + 0) (b + 0))) := wc_V (ia := 158) (n := 1) (cn := 8) f210_389 (by decide +kernel) (fun _ => rfl) rfl rfl
theorem f210_392 : ma_ins 210 392 = some (.if_icmp .eq 599, 3) := by decide +kernel
theorem w210_392 : ma_W d 210 Q 392 l (.int y :: .int x :: st) H a b = ma_if (x = y) d 210 Q 991 395 l st H a b := wp_ic (id := 210) (pc := 392) (c := .eq) (off := 599) 991 f210_392 (by decide)
theorem f210_395 : ma_ins 210 395 = some (.iconst 0, 1) := by decide +kernel
theorem w210_395 : ma_W d 210 Q 395 l st H a b = ma_W d 210 Q 396 l (.int 0 :: st) H a b := wp_iconst f210_395 (by decide)
theorem f210_396 : ma_ins 210 396 = some (.ireturn, 1) := by decide +kernel
theorem w210_396 : ma_W d 210 Q 396 l [.int x] H a b = ((x = 0 ∨ x = 1) ∧ Q (some (.int x)) H) := wp_zret f210_396 rfl
theorem f210_397 : ma_ins 210 397 = some (.aload_n 1, 1) := by decide +kernel
theorem w210_397 : ma_W d 210 Q 397 (o0 :: some (.ref i) :: l) st H a b = ma_W d 210 Q 398 (o0 :: some (.ref i) :: l) (.ref i :: st) H a b := wp_aload_n (x := some i) f210_397 rfl
theorem f210_398 : ma_ins 210 398 = some (.aload_n 0, 1) := by decide +kernel
theorem w210_398 : ma_W d 210 Q 398 (some (.ref i) :: l) st H a b = ma_W d 210 Q 399 (some (.ref i) :: l) (.ref i :: st) H a b := wp_aload_n (x := some i) f210_398 rfl
theorem f210_399 : ma_ins 210 399 = some (.iload_n 3, 1) := by decide +kernel
theorem w210_399 : ma_W d 210 Q 399 (o0 :: o1 :: o2 :: some (.int x) :: l) st H a b = ma_W d 210 Q 400 (o0 :: o1 :: o2 :: some (.int x) :: l) (.int x :: st) H a b := wp_iload_n f210_399 rfl
theorem f210_400 : ma_ins 210 400 = some (.iconst 1, 1) := by decide +kernel
theorem w210_400 : ma_W d 210 Q 400 l st H a b = ma_W d 210 Q 401 l (.int 1 :: st) H a b := wp_iconst f210_400 (by decide)
theorem f210_401 : ma_ins 210 401 = some (.iadd, 1) := by decide +kernel
theorem w210_401 : ma_W d 210 Q 401 l (.int y :: .int x :: st) H a b = ma_W d 210 Q 402 l (.int (x + y) :: st) H a b := wp_iadd f210_401
theorem f210_402 : ma_ins 210 402 = some (.iaload, 1) := by decide +kernel
theorem w210_402 : ma_W d 210 Q 402 l (.int x :: .ref i :: st) H a b = ma_ial (H.1 i) x (ma_kV d 210 Q 403 l st H a b) := wp_iald f210_402
theorem f210_403 : ma_ins 210 403 = some (.aload_n 0, 1) := by decide +kernel
theorem w210_403 : ma_W d 210 Q 403 (some (.ref i) :: l) st H a b = ma_W d 210 Q 404 (some (.ref i) :: l) (.ref i :: st) H a b := wp_aload_n (x := some i) f210_403 rfl
theorem f210_404 : ma_ins 210 404 = some (.iload_n 3, 1) := by decide +kernel
theorem w210_404 : ma_W d 210 Q 404 (o0 :: o1 :: o2 :: some (.int x) :: l) st H a b = ma_W d 210 Q 405 (o0 :: o1 :: o2 :: some (.int x) :: l) (.int x :: st) H a b := wp_iload_n f210_404 rfl
theorem f210_405 : ma_ins 210 405 = some (.iconst 2, 1) := by decide +kernel
theorem w210_405 : ma_W d 210 Q 405 l st H a b = ma_W d 210 Q 406 l (.int 2 :: st) H a b := wp_iconst f210_405 (by decide)
theorem f210_406 : ma_ins 210 406 = some (.iadd, 1) := by decide +kernel
theorem w210_406 : ma_W d 210 Q 406 l (.int y :: .int x :: st) H a b = ma_W d 210 Q 407 l (.int (x + y) :: st) H a b := wp_iadd f210_406
theorem f210_407 : ma_ins 210 407 = some (.iaload, 1) := by decide +kernel
theorem w210_407 : ma_W d 210 Q 407 l (.int x :: .ref i :: st) H a b = ma_ial (H.1 i) x (ma_kV d 210 Q 408 l st H a b) := wp_iald f210_407
theorem f210_408 : ma_ins 210 408 = some (.invokevirtual 52, 3) := by decide +kernel
theorem w210_408 : ma_W d 210 Q 408 l (.int x1 :: .int x0 :: .ref i :: st) H a b = (ma_cat st ≤ 8 ∧ a + 0 ≤ 600000 ∧ b + 0 ≤ 7302250 ∧ ma_cv (H.1 i) 7 d 87 [.ref i, .int x0, .int x1] H (ma_kC d 210 Q 411 l st (a + 0) (b + 0))) := wc_V (ia := 87) (n := 3) (cn := 7) f210_408 (by decide +kernel) (fun _ => rfl) rfl rfl
theorem f210_411 : ma_ins 210 411 = some (.aload_n 2, 1) := by decide +kernel
theorem w210_411 : ma_W d 210 Q 411 (o0 :: o1 :: some (.ref i) :: l) st H a b = ma_W d 210 Q 412 (o0 :: o1 :: some (.ref i) :: l) (.ref i :: st) H a b := wp_aload_n (x := some i) f210_411 rfl
theorem f210_412 : ma_ins 210 412 = some (.aload_n 0, 1) := by decide +kernel
theorem w210_412 : ma_W d 210 Q 412 (some (.ref i) :: l) st H a b = ma_W d 210 Q 413 (some (.ref i) :: l) (.ref i :: st) H a b := wp_aload_n (x := some i) f210_412 rfl
theorem f210_413 : ma_ins 210 413 = some (.iload_n 3, 1) := by decide +kernel
theorem w210_413 : ma_W d 210 Q 413 (o0 :: o1 :: o2 :: some (.int x) :: l) st H a b = ma_W d 210 Q 414 (o0 :: o1 :: o2 :: some (.int x) :: l) (.int x :: st) H a b := wp_iload_n f210_413 rfl
theorem f210_414 : ma_ins 210 414 = some (.iconst 1, 1) := by decide +kernel
theorem w210_414 : ma_W d 210 Q 414 l st H a b = ma_W d 210 Q 415 l (.int 1 :: st) H a b := wp_iconst f210_414 (by decide)
theorem f210_415 : ma_ins 210 415 = some (.iadd, 1) := by decide +kernel
theorem w210_415 : ma_W d 210 Q 415 l (.int y :: .int x :: st) H a b = ma_W d 210 Q 416 l (.int (x + y) :: st) H a b := wp_iadd f210_415
theorem f210_416 : ma_ins 210 416 = some (.iaload, 1) := by decide +kernel
theorem w210_416 : ma_W d 210 Q 416 l (.int x :: .ref i :: st) H a b = ma_ial (H.1 i) x (ma_kV d 210 Q 417 l st H a b) := wp_iald f210_416
theorem f210_417 : ma_ins 210 417 = some (.aload_n 0, 1) := by decide +kernel
theorem w210_417 : ma_W d 210 Q 417 (some (.ref i) :: l) st H a b = ma_W d 210 Q 418 (some (.ref i) :: l) (.ref i :: st) H a b := wp_aload_n (x := some i) f210_417 rfl
theorem f210_418 : ma_ins 210 418 = some (.iload_n 3, 1) := by decide +kernel
theorem w210_418 : ma_W d 210 Q 418 (o0 :: o1 :: o2 :: some (.int x) :: l) st H a b = ma_W d 210 Q 419 (o0 :: o1 :: o2 :: some (.int x) :: l) (.int x :: st) H a b := wp_iload_n f210_418 rfl
theorem f210_419 : ma_ins 210 419 = some (.iconst 2, 1) := by decide +kernel
theorem w210_419 : ma_W d 210 Q 419 l st H a b = ma_W d 210 Q 420 l (.int 2 :: st) H a b := wp_iconst f210_419 (by decide)
theorem f210_420 : ma_ins 210 420 = some (.iadd, 1) := by decide +kernel
theorem w210_420 : ma_W d 210 Q 420 l (.int y :: .int x :: st) H a b = ma_W d 210 Q 421 l (.int (x + y) :: st) H a b := wp_iadd f210_420
theorem f210_421 : ma_ins 210 421 = some (.iaload, 1) := by decide +kernel
theorem w210_421 : ma_W d 210 Q 421 l (.int x :: .ref i :: st) H a b = ma_ial (H.1 i) x (ma_kV d 210 Q 422 l st H a b) := wp_iald f210_421
theorem f210_422 : ma_ins 210 422 = some (.invokevirtual 55, 3) := by decide +kernel
theorem w210_422 : ma_W d 210 Q 422 l (.int x1 :: .int x0 :: .ref i :: st) H a b = (ma_cat st ≤ 8 ∧ a + 0 ≤ 600000 ∧ b + 0 ≤ 7302250 ∧ ma_cv (H.1 i) 8 d 159 [.ref i, .int x0, .int x1] H (ma_kC d 210 Q 425 l st (a + 0) (b + 0))) := wc_V (ia := 159) (n := 3) (cn := 8) f210_422 (by decide +kernel) (fun _ => rfl) rfl rfl
theorem f210_425 : ma_ins 210 425 = some (.if_icmp .eq 566, 3) := by decide +kernel
theorem w210_425 : ma_W d 210 Q 425 l (.int y :: .int x :: st) H a b = ma_if (x = y) d 210 Q 991 428 l st H a b := wp_ic (id := 210) (pc := 425) (c := .eq) (off := 566) 991 f210_425 (by decide)
theorem f210_428 : ma_ins 210 428 = some (.iconst 0, 1) := by decide +kernel
theorem w210_428 : ma_W d 210 Q 428 l st H a b = ma_W d 210 Q 429 l (.int 0 :: st) H a b := wp_iconst f210_428 (by decide)
theorem f210_429 : ma_ins 210 429 = some (.ireturn, 1) := by decide +kernel
theorem w210_429 : ma_W d 210 Q 429 l [.int x] H a b = ((x = 0 ∨ x = 1) ∧ Q (some (.int x)) H) := wp_zret f210_429 rfl
theorem f210_430 : ma_ins 210 430 = some (.aload_n 1, 1) := by decide +kernel
theorem w210_430 : ma_W d 210 Q 430 (o0 :: some (.ref i) :: l) st H a b = ma_W d 210 Q 431 (o0 :: some (.ref i) :: l) (.ref i :: st) H a b := wp_aload_n (x := some i) f210_430 rfl
theorem f210_431 : ma_ins 210 431 = some (.aload_n 0, 1) := by decide +kernel
theorem w210_431 : ma_W d 210 Q 431 (some (.ref i) :: l) st H a b = ma_W d 210 Q 432 (some (.ref i) :: l) (.ref i :: st) H a b := wp_aload_n (x := some i) f210_431 rfl
theorem f210_432 : ma_ins 210 432 = some (.iload_n 3, 1) := by decide +kernel
theorem w210_432 : ma_W d 210 Q 432 (o0 :: o1 :: o2 :: some (.int x) :: l) st H a b = ma_W d 210 Q 433 (o0 :: o1 :: o2 :: some (.int x) :: l) (.int x :: st) H a b := wp_iload_n f210_432 rfl
theorem f210_433 : ma_ins 210 433 = some (.iconst 1, 1) := by decide +kernel
theorem w210_433 : ma_W d 210 Q 433 l st H a b = ma_W d 210 Q 434 l (.int 1 :: st) H a b := wp_iconst f210_433 (by decide)
theorem f210_434 : ma_ins 210 434 = some (.iadd, 1) := by decide +kernel
theorem w210_434 : ma_W d 210 Q 434 l (.int y :: .int x :: st) H a b = ma_W d 210 Q 435 l (.int (x + y) :: st) H a b := wp_iadd f210_434
theorem f210_435 : ma_ins 210 435 = some (.iaload, 1) := by decide +kernel
theorem w210_435 : ma_W d 210 Q 435 l (.int x :: .ref i :: st) H a b = ma_ial (H.1 i) x (ma_kV d 210 Q 436 l st H a b) := wp_iald f210_435
theorem f210_436 : ma_ins 210 436 = some (.aload_n 0, 1) := by decide +kernel
theorem w210_436 : ma_W d 210 Q 436 (some (.ref i) :: l) st H a b = ma_W d 210 Q 437 (some (.ref i) :: l) (.ref i :: st) H a b := wp_aload_n (x := some i) f210_436 rfl
theorem f210_437 : ma_ins 210 437 = some (.iload_n 3, 1) := by decide +kernel
theorem w210_437 : ma_W d 210 Q 437 (o0 :: o1 :: o2 :: some (.int x) :: l) st H a b = ma_W d 210 Q 438 (o0 :: o1 :: o2 :: some (.int x) :: l) (.int x :: st) H a b := wp_iload_n f210_437 rfl
theorem f210_438 : ma_ins 210 438 = some (.iconst 2, 1) := by decide +kernel
theorem w210_438 : ma_W d 210 Q 438 l st H a b = ma_W d 210 Q 439 l (.int 2 :: st) H a b := wp_iconst f210_438 (by decide)
theorem f210_439 : ma_ins 210 439 = some (.iadd, 1) := by decide +kernel
theorem w210_439 : ma_W d 210 Q 439 l (.int y :: .int x :: st) H a b = ma_W d 210 Q 440 l (.int (x + y) :: st) H a b := wp_iadd f210_439
theorem f210_440 : ma_ins 210 440 = some (.iaload, 1) := by decide +kernel
theorem w210_440 : ma_W d 210 Q 440 l (.int x :: .ref i :: st) H a b = ma_ial (H.1 i) x (ma_kV d 210 Q 441 l st H a b) := wp_iald f210_440
theorem f210_441 : ma_ins 210 441 = some (.invokevirtual 56, 3) := by decide +kernel
theorem w210_441 : ma_W d 210 Q 441 l (.int x1 :: .int x0 :: .ref i :: st) H a b = (ma_cat st ≤ 8 ∧ a + 0 ≤ 600000 ∧ b + 0 ≤ 7302250 ∧ ma_cv (H.1 i) 7 d 88 [.ref i, .int x0, .int x1] H (ma_kC d 210 Q 444 l st (a + 0) (b + 0))) := wc_V (ia := 88) (n := 3) (cn := 7) f210_441 (by decide +kernel) (fun _ => rfl) rfl rfl
theorem f210_444 : ma_ins 210 444 = some (.aload_n 2, 1) := by decide +kernel
theorem w210_444 : ma_W d 210 Q 444 (o0 :: o1 :: some (.ref i) :: l) st H a b = ma_W d 210 Q 445 (o0 :: o1 :: some (.ref i) :: l) (.ref i :: st) H a b := wp_aload_n (x := some i) f210_444 rfl
theorem f210_445 : ma_ins 210 445 = some (.aload_n 0, 1) := by decide +kernel
theorem w210_445 : ma_W d 210 Q 445 (some (.ref i) :: l) st H a b = ma_W d 210 Q 446 (some (.ref i) :: l) (.ref i :: st) H a b := wp_aload_n (x := some i) f210_445 rfl
theorem f210_446 : ma_ins 210 446 = some (.iload_n 3, 1) := by decide +kernel
theorem w210_446 : ma_W d 210 Q 446 (o0 :: o1 :: o2 :: some (.int x) :: l) st H a b = ma_W d 210 Q 447 (o0 :: o1 :: o2 :: some (.int x) :: l) (.int x :: st) H a b := wp_iload_n f210_446 rfl
theorem f210_447 : ma_ins 210 447 = some (.iconst 1, 1) := by decide +kernel
theorem w210_447 : ma_W d 210 Q 447 l st H a b = ma_W d 210 Q 448 l (.int 1 :: st) H a b := wp_iconst f210_447 (by decide)
theorem f210_448 : ma_ins 210 448 = some (.iadd, 1) := by decide +kernel
theorem w210_448 : ma_W d 210 Q 448 l (.int y :: .int x :: st) H a b = ma_W d 210 Q 449 l (.int (x + y) :: st) H a b := wp_iadd f210_448
theorem f210_449 : ma_ins 210 449 = some (.iaload, 1) := by decide +kernel
theorem w210_449 : ma_W d 210 Q 449 l (.int x :: .ref i :: st) H a b = ma_ial (H.1 i) x (ma_kV d 210 Q 450 l st H a b) := wp_iald f210_449
theorem f210_450 : ma_ins 210 450 = some (.aload_n 0, 1) := by decide +kernel
theorem w210_450 : ma_W d 210 Q 450 (some (.ref i) :: l) st H a b = ma_W d 210 Q 451 (some (.ref i) :: l) (.ref i :: st) H a b := wp_aload_n (x := some i) f210_450 rfl
theorem f210_451 : ma_ins 210 451 = some (.iload_n 3, 1) := by decide +kernel
theorem w210_451 : ma_W d 210 Q 451 (o0 :: o1 :: o2 :: some (.int x) :: l) st H a b = ma_W d 210 Q 452 (o0 :: o1 :: o2 :: some (.int x) :: l) (.int x :: st) H a b := wp_iload_n f210_451 rfl
theorem f210_452 : ma_ins 210 452 = some (.iconst 2, 1) := by decide +kernel
theorem w210_452 : ma_W d 210 Q 452 l st H a b = ma_W d 210 Q 453 l (.int 2 :: st) H a b := wp_iconst f210_452 (by decide)
theorem f210_453 : ma_ins 210 453 = some (.iadd, 1) := by decide +kernel
theorem w210_453 : ma_W d 210 Q 453 l (.int y :: .int x :: st) H a b = ma_W d 210 Q 454 l (.int (x + y) :: st) H a b := wp_iadd f210_453
theorem f210_454 : ma_ins 210 454 = some (.iaload, 1) := by decide +kernel
theorem w210_454 : ma_W d 210 Q 454 l (.int x :: .ref i :: st) H a b = ma_ial (H.1 i) x (ma_kV d 210 Q 455 l st H a b) := wp_iald f210_454
theorem f210_455 : ma_ins 210 455 = some (.invokevirtual 59, 3) := by decide +kernel
theorem w210_455 : ma_W d 210 Q 455 l (.int x1 :: .int x0 :: .ref i :: st) H a b = (ma_cat st ≤ 8 ∧ a + 0 ≤ 600000 ∧ b + 0 ≤ 7302250 ∧ ma_cv (H.1 i) 8 d 161 [.ref i, .int x0, .int x1] H (ma_kC d 210 Q 458 l st (a + 0) (b + 0))) := wc_V (ia := 161) (n := 3) (cn := 8) f210_455 (by decide +kernel) (fun _ => rfl) rfl rfl
theorem f210_458 : ma_ins 210 458 = some (.if_icmp .eq 533, 3) := by decide +kernel
theorem w210_458 : ma_W d 210 Q 458 l (.int y :: .int x :: st) H a b = ma_if (x = y) d 210 Q 991 461 l st H a b := wp_ic (id := 210) (pc := 458) (c := .eq) (off := 533) 991 f210_458 (by decide)
theorem f210_461 : ma_ins 210 461 = some (.iconst 0, 1) := by decide +kernel
theorem w210_461 : ma_W d 210 Q 461 l st H a b = ma_W d 210 Q 462 l (.int 0 :: st) H a b := wp_iconst f210_461 (by decide)
theorem f210_462 : ma_ins 210 462 = some (.ireturn, 1) := by decide +kernel
theorem w210_462 : ma_W d 210 Q 462 l [.int x] H a b = ((x = 0 ∨ x = 1) ∧ Q (some (.int x)) H) := wp_zret f210_462 rfl
theorem f210_463 : ma_ins 210 463 = some (.aload_n 1, 1) := by decide +kernel
theorem w210_463 : ma_W d 210 Q 463 (o0 :: some (.ref i) :: l) st H a b = ma_W d 210 Q 464 (o0 :: some (.ref i) :: l) (.ref i :: st) H a b := wp_aload_n (x := some i) f210_463 rfl
theorem f210_464 : ma_ins 210 464 = some (.invokevirtual 60, 3) := by decide +kernel
theorem w210_464 : ma_W d 210 Q 464 l (.ref i :: st) H a b = (ma_cat st ≤ 8 ∧ a + 0 ≤ 600000 ∧ b + 0 ≤ 7302250 ∧ ma_cv (H.1 i) 7 d 89 [.ref i] H (ma_kC d 210 Q 467 l st (a + 0) (b + 0))) := wc_V (ia := 89) (n := 1) (cn := 7) f210_464 (by decide +kernel) (fun _ => rfl) rfl rfl
theorem f210_467 : ma_ins 210 467 = some (.aload_n 2, 1) := by decide +kernel
theorem w210_467 : ma_W d 210 Q 467 (o0 :: o1 :: some (.ref i) :: l) st H a b = ma_W d 210 Q 468 (o0 :: o1 :: some (.ref i) :: l) (.ref i :: st) H a b := wp_aload_n (x := some i) f210_467 rfl
theorem f210_468 : ma_ins 210 468 = some (.invokevirtual 63, 3) := by decide +kernel
theorem w210_468 : ma_W d 210 Q 468 l (.ref i :: st) H a b = (ma_cat st ≤ 8 ∧ a + 0 ≤ 600000 ∧ b + 0 ≤ 7302250 ∧ ma_cv (H.1 i) 8 d 164 [.ref i] H (ma_kC d 210 Q 471 l st (a + 0) (b + 0))) := wc_V (ia := 164) (n := 1) (cn := 8) f210_468 (by decide +kernel) (fun _ => rfl) rfl rfl
theorem f210_471 : ma_ins 210 471 = some (.if_icmp .eq 520, 3) := by decide +kernel
theorem w210_471 : ma_W d 210 Q 471 l (.int y :: .int x :: st) H a b = ma_if (x = y) d 210 Q 991 474 l st H a b := wp_ic (id := 210) (pc := 471) (c := .eq) (off := 520) 991 f210_471 (by decide)
theorem f210_474 : ma_ins 210 474 = some (.iconst 0, 1) := by decide +kernel
theorem w210_474 : ma_W d 210 Q 474 l st H a b = ma_W d 210 Q 475 l (.int 0 :: st) H a b := wp_iconst f210_474 (by decide)
theorem f210_475 : ma_ins 210 475 = some (.ireturn, 1) := by decide +kernel
theorem w210_475 : ma_W d 210 Q 475 l [.int x] H a b = ((x = 0 ∨ x = 1) ∧ Q (some (.int x)) H) := wp_zret f210_475 rfl
theorem f210_476 : ma_ins 210 476 = some (.aload_n 1, 1) := by decide +kernel
theorem w210_476 : ma_W d 210 Q 476 (o0 :: some (.ref i) :: l) st H a b = ma_W d 210 Q 477 (o0 :: some (.ref i) :: l) (.ref i :: st) H a b := wp_aload_n (x := some i) f210_476 rfl
theorem f210_477 : ma_ins 210 477 = some (.invokevirtual 64, 3) := by decide +kernel
theorem w210_477 : ma_W d 210 Q 477 l (.ref i :: st) H a b = (ma_cat st ≤ 8 ∧ a + 0 ≤ 600000 ∧ b + 0 ≤ 7302250 ∧ ma_cv (H.1 i) 7 d 90 [.ref i] H (ma_kC d 210 Q 480 l st (a + 0) (b + 0))) := wc_V (ia := 90) (n := 1) (cn := 7) f210_477 (by decide +kernel) (fun _ => rfl) rfl rfl
theorem f210_480 : ma_ins 210 480 = some (.aload_n 2, 1) := by decide +kernel
theorem w210_480 : ma_W d 210 Q 480 (o0 :: o1 :: some (.ref i) :: l) st H a b = ma_W d 210 Q 481 (o0 :: o1 :: some (.ref i) :: l) (.ref i :: st) H a b := wp_aload_n (x := some i) f210_480 rfl
theorem f210_481 : ma_ins 210 481 = some (.invokevirtual 67, 3) := by decide +kernel
theorem w210_481 : ma_W d 210 Q 481 l (.ref i :: st) H a b = (ma_cat st ≤ 8 ∧ a + 0 ≤ 600000 ∧ b + 0 ≤ 7302250 ∧ ma_cv (H.1 i) 8 d 165 [.ref i] H (ma_kC d 210 Q 484 l st (a + 0) (b + 0))) := wc_V (ia := 165) (n := 1) (cn := 8) f210_481 (by decide +kernel) (fun _ => rfl) rfl rfl
theorem f210_484 : ma_ins 210 484 = some (.if_icmp .eq 507, 3) := by decide +kernel
theorem w210_484 : ma_W d 210 Q 484 l (.int y :: .int x :: st) H a b = ma_if (x = y) d 210 Q 991 487 l st H a b := wp_ic (id := 210) (pc := 484) (c := .eq) (off := 507) 991 f210_484 (by decide)
theorem f210_487 : ma_ins 210 487 = some (.iconst 0, 1) := by decide +kernel
theorem w210_487 : ma_W d 210 Q 487 l st H a b = ma_W d 210 Q 488 l (.int 0 :: st) H a b := wp_iconst f210_487 (by decide)
theorem f210_488 : ma_ins 210 488 = some (.ireturn, 1) := by decide +kernel
theorem w210_488 : ma_W d 210 Q 488 l [.int x] H a b = ((x = 0 ∨ x = 1) ∧ Q (some (.int x)) H) := wp_zret f210_488 rfl
theorem f210_489 : ma_ins 210 489 = some (.aload_n 1, 1) := by decide +kernel
theorem w210_489 : ma_W d 210 Q 489 (o0 :: some (.ref i) :: l) st H a b = ma_W d 210 Q 490 (o0 :: some (.ref i) :: l) (.ref i :: st) H a b := wp_aload_n (x := some i) f210_489 rfl
theorem f210_490 : ma_ins 210 490 = some (.aload_n 0, 1) := by decide +kernel
theorem w210_490 : ma_W d 210 Q 490 (some (.ref i) :: l) st H a b = ma_W d 210 Q 491 (some (.ref i) :: l) (.ref i :: st) H a b := wp_aload_n (x := some i) f210_490 rfl
theorem f210_491 : ma_ins 210 491 = some (.iload_n 3, 1) := by decide +kernel
theorem w210_491 : ma_W d 210 Q 491 (o0 :: o1 :: o2 :: some (.int x) :: l) st H a b = ma_W d 210 Q 492 (o0 :: o1 :: o2 :: some (.int x) :: l) (.int x :: st) H a b := wp_iload_n f210_491 rfl
theorem f210_492 : ma_ins 210 492 = some (.iconst 1, 1) := by decide +kernel
theorem w210_492 : ma_W d 210 Q 492 l st H a b = ma_W d 210 Q 493 l (.int 1 :: st) H a b := wp_iconst f210_492 (by decide)
theorem f210_493 : ma_ins 210 493 = some (.iadd, 1) := by decide +kernel
theorem w210_493 : ma_W d 210 Q 493 l (.int y :: .int x :: st) H a b = ma_W d 210 Q 494 l (.int (x + y) :: st) H a b := wp_iadd f210_493
theorem f210_494 : ma_ins 210 494 = some (.iaload, 1) := by decide +kernel
theorem w210_494 : ma_W d 210 Q 494 l (.int x :: .ref i :: st) H a b = ma_ial (H.1 i) x (ma_kV d 210 Q 495 l st H a b) := wp_iald f210_494
theorem f210_495 : ma_ins 210 495 = some (.invokevirtual 68, 3) := by decide +kernel
theorem w210_495 : ma_W d 210 Q 495 l (.int x0 :: .ref i :: st) H a b = (ma_cat st ≤ 8 ∧ a + 0 ≤ 600000 ∧ b + 0 ≤ 7302250 ∧ ma_cv (H.1 i) 7 d 91 [.ref i, .int x0] H (ma_kC d 210 Q 498 l st (a + 0) (b + 0))) := wc_V (ia := 91) (n := 2) (cn := 7) f210_495 (by decide +kernel) (fun _ => rfl) rfl rfl
theorem f210_498 : ma_ins 210 498 = some (.aload_n 2, 1) := by decide +kernel
theorem w210_498 : ma_W d 210 Q 498 (o0 :: o1 :: some (.ref i) :: l) st H a b = ma_W d 210 Q 499 (o0 :: o1 :: some (.ref i) :: l) (.ref i :: st) H a b := wp_aload_n (x := some i) f210_498 rfl
theorem f210_499 : ma_ins 210 499 = some (.aload_n 0, 1) := by decide +kernel
theorem w210_499 : ma_W d 210 Q 499 (some (.ref i) :: l) st H a b = ma_W d 210 Q 500 (some (.ref i) :: l) (.ref i :: st) H a b := wp_aload_n (x := some i) f210_499 rfl
theorem f210_500 : ma_ins 210 500 = some (.iload_n 3, 1) := by decide +kernel
theorem w210_500 : ma_W d 210 Q 500 (o0 :: o1 :: o2 :: some (.int x) :: l) st H a b = ma_W d 210 Q 501 (o0 :: o1 :: o2 :: some (.int x) :: l) (.int x :: st) H a b := wp_iload_n f210_500 rfl
theorem f210_501 : ma_ins 210 501 = some (.iconst 1, 1) := by decide +kernel
theorem w210_501 : ma_W d 210 Q 501 l st H a b = ma_W d 210 Q 502 l (.int 1 :: st) H a b := wp_iconst f210_501 (by decide)
theorem f210_502 : ma_ins 210 502 = some (.iadd, 1) := by decide +kernel
theorem w210_502 : ma_W d 210 Q 502 l (.int y :: .int x :: st) H a b = ma_W d 210 Q 503 l (.int (x + y) :: st) H a b := wp_iadd f210_502
theorem f210_503 : ma_ins 210 503 = some (.iaload, 1) := by decide +kernel
theorem w210_503 : ma_W d 210 Q 503 l (.int x :: .ref i :: st) H a b = ma_ial (H.1 i) x (ma_kV d 210 Q 504 l st H a b) := wp_iald f210_503
theorem f210_504 : ma_ins 210 504 = some (.invokevirtual 71, 3) := by decide +kernel
theorem w210_504 : ma_W d 210 Q 504 l (.int x0 :: .ref i :: st) H a b = (ma_cat st ≤ 8 ∧ a + 0 ≤ 600000 ∧ b + 0 ≤ 7302250 ∧ ma_cv (H.1 i) 8 d 166 [.ref i, .int x0] H (ma_kC d 210 Q 507 l st (a + 0) (b + 0))) := wc_V (ia := 166) (n := 2) (cn := 8) f210_504 (by decide +kernel) (fun _ => rfl) rfl rfl
theorem f210_507 : ma_ins 210 507 = some (.if_icmp .eq 484, 3) := by decide +kernel
theorem w210_507 : ma_W d 210 Q 507 l (.int y :: .int x :: st) H a b = ma_if (x = y) d 210 Q 991 510 l st H a b := wp_ic (id := 210) (pc := 507) (c := .eq) (off := 484) 991 f210_507 (by decide)
theorem f210_510 : ma_ins 210 510 = some (.iconst 0, 1) := by decide +kernel
theorem w210_510 : ma_W d 210 Q 510 l st H a b = ma_W d 210 Q 511 l (.int 0 :: st) H a b := wp_iconst f210_510 (by decide)
theorem f210_511 : ma_ins 210 511 = some (.ireturn, 1) := by decide +kernel
theorem w210_511 : ma_W d 210 Q 511 l [.int x] H a b = ((x = 0 ∨ x = 1) ∧ Q (some (.int x)) H) := wp_zret f210_511 rfl
theorem f210_512 : ma_ins 210 512 = some (.aload_n 1, 1) := by decide +kernel
theorem w210_512 : ma_W d 210 Q 512 (o0 :: some (.ref i) :: l) st H a b = ma_W d 210 Q 513 (o0 :: some (.ref i) :: l) (.ref i :: st) H a b := wp_aload_n (x := some i) f210_512 rfl
theorem f210_513 : ma_ins 210 513 = some (.invokevirtual 72, 3) := by decide +kernel
theorem w210_513 : ma_W d 210 Q 513 l (.ref i :: st) H a b = (ma_cat st ≤ 8 ∧ a + 0 ≤ 600000 ∧ b + 0 ≤ 7302250 ∧ ma_cv (H.1 i) 7 d 92 [.ref i] H (ma_kC d 210 Q 516 l st (a + 0) (b + 0))) := wc_V (ia := 92) (n := 1) (cn := 7) f210_513 (by decide +kernel) (fun _ => rfl) rfl rfl
theorem f210_516 : ma_ins 210 516 = some (.aload_n 2, 1) := by decide +kernel
theorem w210_516 : ma_W d 210 Q 516 (o0 :: o1 :: some (.ref i) :: l) st H a b = ma_W d 210 Q 517 (o0 :: o1 :: some (.ref i) :: l) (.ref i :: st) H a b := wp_aload_n (x := some i) f210_516 rfl
theorem f210_517 : ma_ins 210 517 = some (.invokevirtual 75, 3) := by decide +kernel
theorem w210_517 : ma_W d 210 Q 517 l (.ref i :: st) H a b = (ma_cat st ≤ 8 ∧ a + 0 ≤ 600000 ∧ b + 0 ≤ 7302250 ∧ ma_cv (H.1 i) 8 d 168 [.ref i] H (ma_kC d 210 Q 520 l st (a + 0) (b + 0))) := wc_V (ia := 168) (n := 1) (cn := 8) f210_517 (by decide +kernel) (fun _ => rfl) rfl rfl
theorem f210_520 : ma_ins 210 520 = some (.if_icmp .eq 471, 3) := by decide +kernel
theorem w210_520 : ma_W d 210 Q 520 l (.int y :: .int x :: st) H a b = ma_if (x = y) d 210 Q 991 523 l st H a b := wp_ic (id := 210) (pc := 520) (c := .eq) (off := 471) 991 f210_520 (by decide)
theorem f210_523 : ma_ins 210 523 = some (.iconst 0, 1) := by decide +kernel
theorem w210_523 : ma_W d 210 Q 523 l st H a b = ma_W d 210 Q 524 l (.int 0 :: st) H a b := wp_iconst f210_523 (by decide)
theorem f210_524 : ma_ins 210 524 = some (.ireturn, 1) := by decide +kernel
theorem w210_524 : ma_W d 210 Q 524 l [.int x] H a b = ((x = 0 ∨ x = 1) ∧ Q (some (.int x)) H) := wp_zret f210_524 rfl
theorem f210_525 : ma_ins 210 525 = some (.aload_n 1, 1) := by decide +kernel
theorem w210_525 : ma_W d 210 Q 525 (o0 :: some (.ref i) :: l) st H a b = ma_W d 210 Q 526 (o0 :: some (.ref i) :: l) (.ref i :: st) H a b := wp_aload_n (x := some i) f210_525 rfl
theorem f210_526 : ma_ins 210 526 = some (.aload_n 0, 1) := by decide +kernel
theorem w210_526 : ma_W d 210 Q 526 (some (.ref i) :: l) st H a b = ma_W d 210 Q 527 (some (.ref i) :: l) (.ref i :: st) H a b := wp_aload_n (x := some i) f210_526 rfl
theorem f210_527 : ma_ins 210 527 = some (.iload_n 3, 1) := by decide +kernel
theorem w210_527 : ma_W d 210 Q 527 (o0 :: o1 :: o2 :: some (.int x) :: l) st H a b = ma_W d 210 Q 528 (o0 :: o1 :: o2 :: some (.int x) :: l) (.int x :: st) H a b := wp_iload_n f210_527 rfl
theorem f210_528 : ma_ins 210 528 = some (.iconst 1, 1) := by decide +kernel
theorem w210_528 : ma_W d 210 Q 528 l st H a b = ma_W d 210 Q 529 l (.int 1 :: st) H a b := wp_iconst f210_528 (by decide)
theorem f210_529 : ma_ins 210 529 = some (.iadd, 1) := by decide +kernel
theorem w210_529 : ma_W d 210 Q 529 l (.int y :: .int x :: st) H a b = ma_W d 210 Q 530 l (.int (x + y) :: st) H a b := wp_iadd f210_529
theorem f210_530 : ma_ins 210 530 = some (.iaload, 1) := by decide +kernel
theorem w210_530 : ma_W d 210 Q 530 l (.int x :: .ref i :: st) H a b = ma_ial (H.1 i) x (ma_kV d 210 Q 531 l st H a b) := wp_iald f210_530
theorem f210_531 : ma_ins 210 531 = some (.aload_n 0, 1) := by decide +kernel
theorem w210_531 : ma_W d 210 Q 531 (some (.ref i) :: l) st H a b = ma_W d 210 Q 532 (some (.ref i) :: l) (.ref i :: st) H a b := wp_aload_n (x := some i) f210_531 rfl
theorem f210_532 : ma_ins 210 532 = some (.iload_n 3, 1) := by decide +kernel
theorem w210_532 : ma_W d 210 Q 532 (o0 :: o1 :: o2 :: some (.int x) :: l) st H a b = ma_W d 210 Q 533 (o0 :: o1 :: o2 :: some (.int x) :: l) (.int x :: st) H a b := wp_iload_n f210_532 rfl
theorem f210_533 : ma_ins 210 533 = some (.iconst 2, 1) := by decide +kernel
theorem w210_533 : ma_W d 210 Q 533 l st H a b = ma_W d 210 Q 534 l (.int 2 :: st) H a b := wp_iconst f210_533 (by decide)
theorem f210_534 : ma_ins 210 534 = some (.iadd, 1) := by decide +kernel
theorem w210_534 : ma_W d 210 Q 534 l (.int y :: .int x :: st) H a b = ma_W d 210 Q 535 l (.int (x + y) :: st) H a b := wp_iadd f210_534
theorem f210_535 : ma_ins 210 535 = some (.iaload, 1) := by decide +kernel
theorem w210_535 : ma_W d 210 Q 535 l (.int x :: .ref i :: st) H a b = ma_ial (H.1 i) x (ma_kV d 210 Q 536 l st H a b) := wp_iald f210_535
theorem f210_536 : ma_ins 210 536 = some (.invokevirtual 76, 3) := by decide +kernel
theorem w210_536 : ma_W d 210 Q 536 l (.int x1 :: .int x0 :: .ref i :: st) H a b = (ma_cat st ≤ 8 ∧ a + 0 ≤ 600000 ∧ b + 0 ≤ 7302250 ∧ ma_cv (H.1 i) 7 d 93 [.ref i, .int x0, .int x1] H (ma_kC d 210 Q 539 l st (a + 0) (b + 0))) := wc_V (ia := 93) (n := 3) (cn := 7) f210_536 (by decide +kernel) (fun _ => rfl) rfl rfl
theorem f210_539 : ma_ins 210 539 = some (.aload_n 2, 1) := by decide +kernel
theorem w210_539 : ma_W d 210 Q 539 (o0 :: o1 :: some (.ref i) :: l) st H a b = ma_W d 210 Q 540 (o0 :: o1 :: some (.ref i) :: l) (.ref i :: st) H a b := wp_aload_n (x := some i) f210_539 rfl
theorem f210_540 : ma_ins 210 540 = some (.aload_n 0, 1) := by decide +kernel
theorem w210_540 : ma_W d 210 Q 540 (some (.ref i) :: l) st H a b = ma_W d 210 Q 541 (some (.ref i) :: l) (.ref i :: st) H a b := wp_aload_n (x := some i) f210_540 rfl
theorem f210_541 : ma_ins 210 541 = some (.iload_n 3, 1) := by decide +kernel
theorem w210_541 : ma_W d 210 Q 541 (o0 :: o1 :: o2 :: some (.int x) :: l) st H a b = ma_W d 210 Q 542 (o0 :: o1 :: o2 :: some (.int x) :: l) (.int x :: st) H a b := wp_iload_n f210_541 rfl
theorem f210_542 : ma_ins 210 542 = some (.iconst 1, 1) := by decide +kernel
theorem w210_542 : ma_W d 210 Q 542 l st H a b = ma_W d 210 Q 543 l (.int 1 :: st) H a b := wp_iconst f210_542 (by decide)
theorem f210_543 : ma_ins 210 543 = some (.iadd, 1) := by decide +kernel
theorem w210_543 : ma_W d 210 Q 543 l (.int y :: .int x :: st) H a b = ma_W d 210 Q 544 l (.int (x + y) :: st) H a b := wp_iadd f210_543
theorem f210_544 : ma_ins 210 544 = some (.iaload, 1) := by decide +kernel
theorem w210_544 : ma_W d 210 Q 544 l (.int x :: .ref i :: st) H a b = ma_ial (H.1 i) x (ma_kV d 210 Q 545 l st H a b) := wp_iald f210_544
theorem f210_545 : ma_ins 210 545 = some (.aload_n 0, 1) := by decide +kernel
theorem w210_545 : ma_W d 210 Q 545 (some (.ref i) :: l) st H a b = ma_W d 210 Q 546 (some (.ref i) :: l) (.ref i :: st) H a b := wp_aload_n (x := some i) f210_545 rfl
theorem f210_546 : ma_ins 210 546 = some (.iload_n 3, 1) := by decide +kernel
theorem w210_546 : ma_W d 210 Q 546 (o0 :: o1 :: o2 :: some (.int x) :: l) st H a b = ma_W d 210 Q 547 (o0 :: o1 :: o2 :: some (.int x) :: l) (.int x :: st) H a b := wp_iload_n f210_546 rfl
theorem f210_547 : ma_ins 210 547 = some (.iconst 2, 1) := by decide +kernel
theorem w210_547 : ma_W d 210 Q 547 l st H a b = ma_W d 210 Q 548 l (.int 2 :: st) H a b := wp_iconst f210_547 (by decide)
theorem f210_548 : ma_ins 210 548 = some (.iadd, 1) := by decide +kernel
theorem w210_548 : ma_W d 210 Q 548 l (.int y :: .int x :: st) H a b = ma_W d 210 Q 549 l (.int (x + y) :: st) H a b := wp_iadd f210_548
theorem f210_549 : ma_ins 210 549 = some (.iaload, 1) := by decide +kernel
theorem w210_549 : ma_W d 210 Q 549 l (.int x :: .ref i :: st) H a b = ma_ial (H.1 i) x (ma_kV d 210 Q 550 l st H a b) := wp_iald f210_549
theorem f210_550 : ma_ins 210 550 = some (.invokevirtual 79, 3) := by decide +kernel
theorem w210_550 : ma_W d 210 Q 550 l (.int x1 :: .int x0 :: .ref i :: st) H a b = (ma_cat st ≤ 8 ∧ a + 0 ≤ 600000 ∧ b + 0 ≤ 7302250 ∧ ma_cv (H.1 i) 8 d 169 [.ref i, .int x0, .int x1] H (ma_kC d 210 Q 553 l st (a + 0) (b + 0))) := wc_V (ia := 169) (n := 3) (cn := 8) f210_550 (by decide +kernel) (fun _ => rfl) rfl rfl
theorem f210_553 : ma_ins 210 553 = some (.if_icmp .eq 438, 3) := by decide +kernel
theorem w210_553 : ma_W d 210 Q 553 l (.int y :: .int x :: st) H a b = ma_if (x = y) d 210 Q 991 556 l st H a b := wp_ic (id := 210) (pc := 553) (c := .eq) (off := 438) 991 f210_553 (by decide)
theorem f210_556 : ma_ins 210 556 = some (.iconst 0, 1) := by decide +kernel
theorem w210_556 : ma_W d 210 Q 556 l st H a b = ma_W d 210 Q 557 l (.int 0 :: st) H a b := wp_iconst f210_556 (by decide)
theorem f210_557 : ma_ins 210 557 = some (.ireturn, 1) := by decide +kernel
theorem w210_557 : ma_W d 210 Q 557 l [.int x] H a b = ((x = 0 ∨ x = 1) ∧ Q (some (.int x)) H) := wp_zret f210_557 rfl
theorem f210_558 : ma_ins 210 558 = some (.aload_n 1, 1) := by decide +kernel
theorem w210_558 : ma_W d 210 Q 558 (o0 :: some (.ref i) :: l) st H a b = ma_W d 210 Q 559 (o0 :: some (.ref i) :: l) (.ref i :: st) H a b := wp_aload_n (x := some i) f210_558 rfl
theorem f210_559 : ma_ins 210 559 = some (.aload_n 0, 1) := by decide +kernel
theorem w210_559 : ma_W d 210 Q 559 (some (.ref i) :: l) st H a b = ma_W d 210 Q 560 (some (.ref i) :: l) (.ref i :: st) H a b := wp_aload_n (x := some i) f210_559 rfl
theorem f210_560 : ma_ins 210 560 = some (.iload_n 3, 1) := by decide +kernel
theorem w210_560 : ma_W d 210 Q 560 (o0 :: o1 :: o2 :: some (.int x) :: l) st H a b = ma_W d 210 Q 561 (o0 :: o1 :: o2 :: some (.int x) :: l) (.int x :: st) H a b := wp_iload_n f210_560 rfl
theorem f210_561 : ma_ins 210 561 = some (.iconst 1, 1) := by decide +kernel
theorem w210_561 : ma_W d 210 Q 561 l st H a b = ma_W d 210 Q 562 l (.int 1 :: st) H a b := wp_iconst f210_561 (by decide)
theorem f210_562 : ma_ins 210 562 = some (.iadd, 1) := by decide +kernel
theorem w210_562 : ma_W d 210 Q 562 l (.int y :: .int x :: st) H a b = ma_W d 210 Q 563 l (.int (x + y) :: st) H a b := wp_iadd f210_562
theorem f210_563 : ma_ins 210 563 = some (.iaload, 1) := by decide +kernel
theorem w210_563 : ma_W d 210 Q 563 l (.int x :: .ref i :: st) H a b = ma_ial (H.1 i) x (ma_kV d 210 Q 564 l st H a b) := wp_iald f210_563
theorem f210_564 : ma_ins 210 564 = some (.aload_n 0, 1) := by decide +kernel
theorem w210_564 : ma_W d 210 Q 564 (some (.ref i) :: l) st H a b = ma_W d 210 Q 565 (some (.ref i) :: l) (.ref i :: st) H a b := wp_aload_n (x := some i) f210_564 rfl
theorem f210_565 : ma_ins 210 565 = some (.iload_n 3, 1) := by decide +kernel
theorem w210_565 : ma_W d 210 Q 565 (o0 :: o1 :: o2 :: some (.int x) :: l) st H a b = ma_W d 210 Q 566 (o0 :: o1 :: o2 :: some (.int x) :: l) (.int x :: st) H a b := wp_iload_n f210_565 rfl
theorem f210_566 : ma_ins 210 566 = some (.iconst 2, 1) := by decide +kernel
theorem w210_566 : ma_W d 210 Q 566 l st H a b = ma_W d 210 Q 567 l (.int 2 :: st) H a b := wp_iconst f210_566 (by decide)
theorem f210_567 : ma_ins 210 567 = some (.iadd, 1) := by decide +kernel
theorem w210_567 : ma_W d 210 Q 567 l (.int y :: .int x :: st) H a b = ma_W d 210 Q 568 l (.int (x + y) :: st) H a b := wp_iadd f210_567
theorem f210_568 : ma_ins 210 568 = some (.iaload, 1) := by decide +kernel
theorem w210_568 : ma_W d 210 Q 568 l (.int x :: .ref i :: st) H a b = ma_ial (H.1 i) x (ma_kV d 210 Q 569 l st H a b) := wp_iald f210_568
theorem f210_569 : ma_ins 210 569 = some (.invokevirtual 80, 3) := by decide +kernel
theorem w210_569 : ma_W d 210 Q 569 l (.int x1 :: .int x0 :: .ref i :: st) H a b = (ma_cat st ≤ 8 ∧ a + 0 ≤ 600000 ∧ b + 0 ≤ 7302250 ∧ ma_cv (H.1 i) 7 d 94 [.ref i, .int x0, .int x1] H (ma_kC d 210 Q 572 l st (a + 0) (b + 0))) := wc_V (ia := 94) (n := 3) (cn := 7) f210_569 (by decide +kernel) (fun _ => rfl) rfl rfl
theorem f210_572 : ma_ins 210 572 = some (.aload_n 2, 1) := by decide +kernel
theorem w210_572 : ma_W d 210 Q 572 (o0 :: o1 :: some (.ref i) :: l) st H a b = ma_W d 210 Q 573 (o0 :: o1 :: some (.ref i) :: l) (.ref i :: st) H a b := wp_aload_n (x := some i) f210_572 rfl
theorem f210_573 : ma_ins 210 573 = some (.aload_n 0, 1) := by decide +kernel
theorem w210_573 : ma_W d 210 Q 573 (some (.ref i) :: l) st H a b = ma_W d 210 Q 574 (some (.ref i) :: l) (.ref i :: st) H a b := wp_aload_n (x := some i) f210_573 rfl
theorem f210_574 : ma_ins 210 574 = some (.iload_n 3, 1) := by decide +kernel
theorem w210_574 : ma_W d 210 Q 574 (o0 :: o1 :: o2 :: some (.int x) :: l) st H a b = ma_W d 210 Q 575 (o0 :: o1 :: o2 :: some (.int x) :: l) (.int x :: st) H a b := wp_iload_n f210_574 rfl
theorem f210_575 : ma_ins 210 575 = some (.iconst 1, 1) := by decide +kernel
theorem w210_575 : ma_W d 210 Q 575 l st H a b = ma_W d 210 Q 576 l (.int 1 :: st) H a b := wp_iconst f210_575 (by decide)
theorem f210_576 : ma_ins 210 576 = some (.iadd, 1) := by decide +kernel
theorem w210_576 : ma_W d 210 Q 576 l (.int y :: .int x :: st) H a b = ma_W d 210 Q 577 l (.int (x + y) :: st) H a b := wp_iadd f210_576
theorem f210_577 : ma_ins 210 577 = some (.iaload, 1) := by decide +kernel
theorem w210_577 : ma_W d 210 Q 577 l (.int x :: .ref i :: st) H a b = ma_ial (H.1 i) x (ma_kV d 210 Q 578 l st H a b) := wp_iald f210_577
theorem f210_578 : ma_ins 210 578 = some (.aload_n 0, 1) := by decide +kernel
theorem w210_578 : ma_W d 210 Q 578 (some (.ref i) :: l) st H a b = ma_W d 210 Q 579 (some (.ref i) :: l) (.ref i :: st) H a b := wp_aload_n (x := some i) f210_578 rfl
theorem f210_579 : ma_ins 210 579 = some (.iload_n 3, 1) := by decide +kernel
theorem w210_579 : ma_W d 210 Q 579 (o0 :: o1 :: o2 :: some (.int x) :: l) st H a b = ma_W d 210 Q 580 (o0 :: o1 :: o2 :: some (.int x) :: l) (.int x :: st) H a b := wp_iload_n f210_579 rfl
theorem f210_580 : ma_ins 210 580 = some (.iconst 2, 1) := by decide +kernel
theorem w210_580 : ma_W d 210 Q 580 l st H a b = ma_W d 210 Q 581 l (.int 2 :: st) H a b := wp_iconst f210_580 (by decide)
theorem f210_581 : ma_ins 210 581 = some (.iadd, 1) := by decide +kernel
theorem w210_581 : ma_W d 210 Q 581 l (.int y :: .int x :: st) H a b = ma_W d 210 Q 582 l (.int (x + y) :: st) H a b := wp_iadd f210_581
theorem f210_582 : ma_ins 210 582 = some (.iaload, 1) := by decide +kernel
theorem w210_582 : ma_W d 210 Q 582 l (.int x :: .ref i :: st) H a b = ma_ial (H.1 i) x (ma_kV d 210 Q 583 l st H a b) := wp_iald f210_582
theorem f210_583 : ma_ins 210 583 = some (.invokevirtual 83, 3) := by decide +kernel
theorem w210_583 : ma_W d 210 Q 583 l (.int x1 :: .int x0 :: .ref i :: st) H a b = (ma_cat st ≤ 8 ∧ a + 0 ≤ 600000 ∧ b + 0 ≤ 7302250 ∧ ma_cv (H.1 i) 8 d 171 [.ref i, .int x0, .int x1] H (ma_kC d 210 Q 586 l st (a + 0) (b + 0))) := wc_V (ia := 171) (n := 3) (cn := 8) f210_583 (by decide +kernel) (fun _ => rfl) rfl rfl
theorem f210_586 : ma_ins 210 586 = some (.if_icmp .eq 405, 3) := by decide +kernel
theorem w210_586 : ma_W d 210 Q 586 l (.int y :: .int x :: st) H a b = ma_if (x = y) d 210 Q 991 589 l st H a b := wp_ic (id := 210) (pc := 586) (c := .eq) (off := 405) 991 f210_586 (by decide)
theorem f210_589 : ma_ins 210 589 = some (.iconst 0, 1) := by decide +kernel
theorem w210_589 : ma_W d 210 Q 589 l st H a b = ma_W d 210 Q 590 l (.int 0 :: st) H a b := wp_iconst f210_589 (by decide)
theorem f210_590 : ma_ins 210 590 = some (.ireturn, 1) := by decide +kernel
theorem w210_590 : ma_W d 210 Q 590 l [.int x] H a b = ((x = 0 ∨ x = 1) ∧ Q (some (.int x)) H) := wp_zret f210_590 rfl
theorem f210_591 : ma_ins 210 591 = some (.aload_n 1, 1) := by decide +kernel
theorem w210_591 : ma_W d 210 Q 591 (o0 :: some (.ref i) :: l) st H a b = ma_W d 210 Q 592 (o0 :: some (.ref i) :: l) (.ref i :: st) H a b := wp_aload_n (x := some i) f210_591 rfl
theorem f210_592 : ma_ins 210 592 = some (.aload_n 0, 1) := by decide +kernel
theorem w210_592 : ma_W d 210 Q 592 (some (.ref i) :: l) st H a b = ma_W d 210 Q 593 (some (.ref i) :: l) (.ref i :: st) H a b := wp_aload_n (x := some i) f210_592 rfl
theorem f210_593 : ma_ins 210 593 = some (.iload_n 3, 1) := by decide +kernel
theorem w210_593 : ma_W d 210 Q 593 (o0 :: o1 :: o2 :: some (.int x) :: l) st H a b = ma_W d 210 Q 594 (o0 :: o1 :: o2 :: some (.int x) :: l) (.int x :: st) H a b := wp_iload_n f210_593 rfl
theorem f210_594 : ma_ins 210 594 = some (.iconst 1, 1) := by decide +kernel
theorem w210_594 : ma_W d 210 Q 594 l st H a b = ma_W d 210 Q 595 l (.int 1 :: st) H a b := wp_iconst f210_594 (by decide)
theorem f210_595 : ma_ins 210 595 = some (.iadd, 1) := by decide +kernel
theorem w210_595 : ma_W d 210 Q 595 l (.int y :: .int x :: st) H a b = ma_W d 210 Q 596 l (.int (x + y) :: st) H a b := wp_iadd f210_595
theorem f210_596 : ma_ins 210 596 = some (.iaload, 1) := by decide +kernel
theorem w210_596 : ma_W d 210 Q 596 l (.int x :: .ref i :: st) H a b = ma_ial (H.1 i) x (ma_kV d 210 Q 597 l st H a b) := wp_iald f210_596
theorem f210_597 : ma_ins 210 597 = some (.aload_n 0, 1) := by decide +kernel
theorem w210_597 : ma_W d 210 Q 597 (some (.ref i) :: l) st H a b = ma_W d 210 Q 598 (some (.ref i) :: l) (.ref i :: st) H a b := wp_aload_n (x := some i) f210_597 rfl
theorem f210_598 : ma_ins 210 598 = some (.iload_n 3, 1) := by decide +kernel
theorem w210_598 : ma_W d 210 Q 598 (o0 :: o1 :: o2 :: some (.int x) :: l) st H a b = ma_W d 210 Q 599 (o0 :: o1 :: o2 :: some (.int x) :: l) (.int x :: st) H a b := wp_iload_n f210_598 rfl
theorem f210_599 : ma_ins 210 599 = some (.iconst 2, 1) := by decide +kernel
theorem w210_599 : ma_W d 210 Q 599 l st H a b = ma_W d 210 Q 600 l (.int 2 :: st) H a b := wp_iconst f210_599 (by decide)
theorem f210_600 : ma_ins 210 600 = some (.iadd, 1) := by decide +kernel
theorem w210_600 : ma_W d 210 Q 600 l (.int y :: .int x :: st) H a b = ma_W d 210 Q 601 l (.int (x + y) :: st) H a b := wp_iadd f210_600
theorem f210_601 : ma_ins 210 601 = some (.iaload, 1) := by decide +kernel
theorem w210_601 : ma_W d 210 Q 601 l (.int x :: .ref i :: st) H a b = ma_ial (H.1 i) x (ma_kV d 210 Q 602 l st H a b) := wp_iald f210_601
theorem f210_602 : ma_ins 210 602 = some (.invokevirtual 84, 3) := by decide +kernel
theorem w210_602 : ma_W d 210 Q 602 l (.int x1 :: .int x0 :: .ref i :: st) H a b = (ma_cat st ≤ 8 ∧ a + 0 ≤ 600000 ∧ b + 0 ≤ 7302250 ∧ ma_cv (H.1 i) 7 d 95 [.ref i, .int x0, .int x1] H (ma_kC d 210 Q 605 l st (a + 0) (b + 0))) := wc_V (ia := 95) (n := 3) (cn := 7) f210_602 (by decide +kernel) (fun _ => rfl) rfl rfl
theorem f210_605 : ma_ins 210 605 = some (.aload_n 2, 1) := by decide +kernel
theorem w210_605 : ma_W d 210 Q 605 (o0 :: o1 :: some (.ref i) :: l) st H a b = ma_W d 210 Q 606 (o0 :: o1 :: some (.ref i) :: l) (.ref i :: st) H a b := wp_aload_n (x := some i) f210_605 rfl
theorem f210_606 : ma_ins 210 606 = some (.aload_n 0, 1) := by decide +kernel
theorem w210_606 : ma_W d 210 Q 606 (some (.ref i) :: l) st H a b = ma_W d 210 Q 607 (some (.ref i) :: l) (.ref i :: st) H a b := wp_aload_n (x := some i) f210_606 rfl
theorem f210_607 : ma_ins 210 607 = some (.iload_n 3, 1) := by decide +kernel
theorem w210_607 : ma_W d 210 Q 607 (o0 :: o1 :: o2 :: some (.int x) :: l) st H a b = ma_W d 210 Q 608 (o0 :: o1 :: o2 :: some (.int x) :: l) (.int x :: st) H a b := wp_iload_n f210_607 rfl
theorem f210_608 : ma_ins 210 608 = some (.iconst 1, 1) := by decide +kernel
theorem w210_608 : ma_W d 210 Q 608 l st H a b = ma_W d 210 Q 609 l (.int 1 :: st) H a b := wp_iconst f210_608 (by decide)
theorem f210_609 : ma_ins 210 609 = some (.iadd, 1) := by decide +kernel
theorem w210_609 : ma_W d 210 Q 609 l (.int y :: .int x :: st) H a b = ma_W d 210 Q 610 l (.int (x + y) :: st) H a b := wp_iadd f210_609
theorem f210_610 : ma_ins 210 610 = some (.iaload, 1) := by decide +kernel
theorem w210_610 : ma_W d 210 Q 610 l (.int x :: .ref i :: st) H a b = ma_ial (H.1 i) x (ma_kV d 210 Q 611 l st H a b) := wp_iald f210_610
theorem f210_611 : ma_ins 210 611 = some (.aload_n 0, 1) := by decide +kernel
theorem w210_611 : ma_W d 210 Q 611 (some (.ref i) :: l) st H a b = ma_W d 210 Q 612 (some (.ref i) :: l) (.ref i :: st) H a b := wp_aload_n (x := some i) f210_611 rfl
theorem f210_612 : ma_ins 210 612 = some (.iload_n 3, 1) := by decide +kernel
theorem w210_612 : ma_W d 210 Q 612 (o0 :: o1 :: o2 :: some (.int x) :: l) st H a b = ma_W d 210 Q 613 (o0 :: o1 :: o2 :: some (.int x) :: l) (.int x :: st) H a b := wp_iload_n f210_612 rfl
theorem f210_613 : ma_ins 210 613 = some (.iconst 2, 1) := by decide +kernel
theorem w210_613 : ma_W d 210 Q 613 l st H a b = ma_W d 210 Q 614 l (.int 2 :: st) H a b := wp_iconst f210_613 (by decide)
theorem f210_614 : ma_ins 210 614 = some (.iadd, 1) := by decide +kernel
theorem w210_614 : ma_W d 210 Q 614 l (.int y :: .int x :: st) H a b = ma_W d 210 Q 615 l (.int (x + y) :: st) H a b := wp_iadd f210_614
theorem f210_615 : ma_ins 210 615 = some (.iaload, 1) := by decide +kernel
theorem w210_615 : ma_W d 210 Q 615 l (.int x :: .ref i :: st) H a b = ma_ial (H.1 i) x (ma_kV d 210 Q 616 l st H a b) := wp_iald f210_615
theorem f210_616 : ma_ins 210 616 = some (.invokevirtual 87, 3) := by decide +kernel
theorem w210_616 : ma_W d 210 Q 616 l (.int x1 :: .int x0 :: .ref i :: st) H a b = (ma_cat st ≤ 8 ∧ a + 0 ≤ 600000 ∧ b + 0 ≤ 7302250 ∧ ma_cv (H.1 i) 8 d 172 [.ref i, .int x0, .int x1] H (ma_kC d 210 Q 619 l st (a + 0) (b + 0))) := wc_V (ia := 172) (n := 3) (cn := 8) f210_616 (by decide +kernel) (fun _ => rfl) rfl rfl
theorem f210_619 : ma_ins 210 619 = some (.if_icmp .eq 372, 3) := by decide +kernel
theorem w210_619 : ma_W d 210 Q 619 l (.int y :: .int x :: st) H a b = ma_if (x = y) d 210 Q 991 622 l st H a b := wp_ic (id := 210) (pc := 619) (c := .eq) (off := 372) 991 f210_619 (by decide)
theorem f210_622 : ma_ins 210 622 = some (.iconst 0, 1) := by decide +kernel
theorem w210_622 : ma_W d 210 Q 622 l st H a b = ma_W d 210 Q 623 l (.int 0 :: st) H a b := wp_iconst f210_622 (by decide)
theorem f210_623 : ma_ins 210 623 = some (.ireturn, 1) := by decide +kernel
theorem w210_623 : ma_W d 210 Q 623 l [.int x] H a b = ((x = 0 ∨ x = 1) ∧ Q (some (.int x)) H) := wp_zret f210_623 rfl
theorem f210_624 : ma_ins 210 624 = some (.aload_n 1, 1) := by decide +kernel
theorem w210_624 : ma_W d 210 Q 624 (o0 :: some (.ref i) :: l) st H a b = ma_W d 210 Q 625 (o0 :: some (.ref i) :: l) (.ref i :: st) H a b := wp_aload_n (x := some i) f210_624 rfl
theorem f210_625 : ma_ins 210 625 = some (.aload_n 0, 1) := by decide +kernel
theorem w210_625 : ma_W d 210 Q 625 (some (.ref i) :: l) st H a b = ma_W d 210 Q 626 (some (.ref i) :: l) (.ref i :: st) H a b := wp_aload_n (x := some i) f210_625 rfl
theorem f210_626 : ma_ins 210 626 = some (.iload_n 3, 1) := by decide +kernel
theorem w210_626 : ma_W d 210 Q 626 (o0 :: o1 :: o2 :: some (.int x) :: l) st H a b = ma_W d 210 Q 627 (o0 :: o1 :: o2 :: some (.int x) :: l) (.int x :: st) H a b := wp_iload_n f210_626 rfl
theorem f210_627 : ma_ins 210 627 = some (.iconst 1, 1) := by decide +kernel
theorem w210_627 : ma_W d 210 Q 627 l st H a b = ma_W d 210 Q 628 l (.int 1 :: st) H a b := wp_iconst f210_627 (by decide)
theorem f210_628 : ma_ins 210 628 = some (.iadd, 1) := by decide +kernel
theorem w210_628 : ma_W d 210 Q 628 l (.int y :: .int x :: st) H a b = ma_W d 210 Q 629 l (.int (x + y) :: st) H a b := wp_iadd f210_628
theorem f210_629 : ma_ins 210 629 = some (.iaload, 1) := by decide +kernel
theorem w210_629 : ma_W d 210 Q 629 l (.int x :: .ref i :: st) H a b = ma_ial (H.1 i) x (ma_kV d 210 Q 630 l st H a b) := wp_iald f210_629
theorem f210_630 : ma_ins 210 630 = some (.aload_n 0, 1) := by decide +kernel
theorem w210_630 : ma_W d 210 Q 630 (some (.ref i) :: l) st H a b = ma_W d 210 Q 631 (some (.ref i) :: l) (.ref i :: st) H a b := wp_aload_n (x := some i) f210_630 rfl
theorem f210_631 : ma_ins 210 631 = some (.iload_n 3, 1) := by decide +kernel
theorem w210_631 : ma_W d 210 Q 631 (o0 :: o1 :: o2 :: some (.int x) :: l) st H a b = ma_W d 210 Q 632 (o0 :: o1 :: o2 :: some (.int x) :: l) (.int x :: st) H a b := wp_iload_n f210_631 rfl
theorem f210_632 : ma_ins 210 632 = some (.iconst 2, 1) := by decide +kernel
theorem w210_632 : ma_W d 210 Q 632 l st H a b = ma_W d 210 Q 633 l (.int 2 :: st) H a b := wp_iconst f210_632 (by decide)
theorem f210_633 : ma_ins 210 633 = some (.iadd, 1) := by decide +kernel
theorem w210_633 : ma_W d 210 Q 633 l (.int y :: .int x :: st) H a b = ma_W d 210 Q 634 l (.int (x + y) :: st) H a b := wp_iadd f210_633
theorem f210_634 : ma_ins 210 634 = some (.iaload, 1) := by decide +kernel
theorem w210_634 : ma_W d 210 Q 634 l (.int x :: .ref i :: st) H a b = ma_ial (H.1 i) x (ma_kV d 210 Q 635 l st H a b) := wp_iald f210_634
theorem f210_635 : ma_ins 210 635 = some (.aload_n 0, 1) := by decide +kernel
theorem w210_635 : ma_W d 210 Q 635 (some (.ref i) :: l) st H a b = ma_W d 210 Q 636 (some (.ref i) :: l) (.ref i :: st) H a b := wp_aload_n (x := some i) f210_635 rfl
theorem f210_636 : ma_ins 210 636 = some (.iload_n 3, 1) := by decide +kernel
theorem w210_636 : ma_W d 210 Q 636 (o0 :: o1 :: o2 :: some (.int x) :: l) st H a b = ma_W d 210 Q 637 (o0 :: o1 :: o2 :: some (.int x) :: l) (.int x :: st) H a b := wp_iload_n f210_636 rfl
theorem f210_637 : ma_ins 210 637 = some (.iconst 3, 1) := by decide +kernel
theorem w210_637 : ma_W d 210 Q 637 l st H a b = ma_W d 210 Q 638 l (.int 3 :: st) H a b := wp_iconst f210_637 (by decide)
theorem f210_638 : ma_ins 210 638 = some (.iadd, 1) := by decide +kernel
theorem w210_638 : ma_W d 210 Q 638 l (.int y :: .int x :: st) H a b = ma_W d 210 Q 639 l (.int (x + y) :: st) H a b := wp_iadd f210_638
theorem f210_639 : ma_ins 210 639 = some (.iaload, 1) := by decide +kernel
theorem w210_639 : ma_W d 210 Q 639 l (.int x :: .ref i :: st) H a b = ma_ial (H.1 i) x (ma_kV d 210 Q 640 l st H a b) := wp_iald f210_639
theorem f210_640 : ma_ins 210 640 = some (.aload_n 0, 1) := by decide +kernel
theorem w210_640 : ma_W d 210 Q 640 (some (.ref i) :: l) st H a b = ma_W d 210 Q 641 (some (.ref i) :: l) (.ref i :: st) H a b := wp_aload_n (x := some i) f210_640 rfl
theorem f210_641 : ma_ins 210 641 = some (.iload_n 3, 1) := by decide +kernel
theorem w210_641 : ma_W d 210 Q 641 (o0 :: o1 :: o2 :: some (.int x) :: l) st H a b = ma_W d 210 Q 642 (o0 :: o1 :: o2 :: some (.int x) :: l) (.int x :: st) H a b := wp_iload_n f210_641 rfl
theorem f210_642 : ma_ins 210 642 = some (.iconst 4, 1) := by decide +kernel
theorem w210_642 : ma_W d 210 Q 642 l st H a b = ma_W d 210 Q 643 l (.int 4 :: st) H a b := wp_iconst f210_642 (by decide)
theorem f210_643 : ma_ins 210 643 = some (.iadd, 1) := by decide +kernel
theorem w210_643 : ma_W d 210 Q 643 l (.int y :: .int x :: st) H a b = ma_W d 210 Q 644 l (.int (x + y) :: st) H a b := wp_iadd f210_643
theorem f210_644 : ma_ins 210 644 = some (.iaload, 1) := by decide +kernel
theorem w210_644 : ma_W d 210 Q 644 l (.int x :: .ref i :: st) H a b = ma_ial (H.1 i) x (ma_kV d 210 Q 645 l st H a b) := wp_iald f210_644
theorem f210_645 : ma_ins 210 645 = some (.invokevirtual 88, 3) := by decide +kernel
theorem w210_645 : ma_W d 210 Q 645 l (.int x3 :: .int x2 :: .int x1 :: .int x0 :: .ref i :: st) H a b = (ma_cat st ≤ 8 ∧ a + 0 ≤ 600000 ∧ b + 0 ≤ 7302250 ∧ ma_cv (H.1 i) 7 d 96 [.ref i, .int x0, .int x1, .int x2, .int x3] H (ma_kC d 210 Q 648 l st (a + 0) (b + 0))) := wc_V (ia := 96) (n := 5) (cn := 7) f210_645 (by decide +kernel) (fun _ => rfl) rfl rfl
theorem f210_648 : ma_ins 210 648 = some (.aload_n 2, 1) := by decide +kernel
theorem w210_648 : ma_W d 210 Q 648 (o0 :: o1 :: some (.ref i) :: l) st H a b = ma_W d 210 Q 649 (o0 :: o1 :: some (.ref i) :: l) (.ref i :: st) H a b := wp_aload_n (x := some i) f210_648 rfl
theorem f210_649 : ma_ins 210 649 = some (.aload_n 0, 1) := by decide +kernel
theorem w210_649 : ma_W d 210 Q 649 (some (.ref i) :: l) st H a b = ma_W d 210 Q 650 (some (.ref i) :: l) (.ref i :: st) H a b := wp_aload_n (x := some i) f210_649 rfl
theorem f210_650 : ma_ins 210 650 = some (.iload_n 3, 1) := by decide +kernel
theorem w210_650 : ma_W d 210 Q 650 (o0 :: o1 :: o2 :: some (.int x) :: l) st H a b = ma_W d 210 Q 651 (o0 :: o1 :: o2 :: some (.int x) :: l) (.int x :: st) H a b := wp_iload_n f210_650 rfl
theorem f210_651 : ma_ins 210 651 = some (.iconst 1, 1) := by decide +kernel
theorem w210_651 : ma_W d 210 Q 651 l st H a b = ma_W d 210 Q 652 l (.int 1 :: st) H a b := wp_iconst f210_651 (by decide)
theorem f210_652 : ma_ins 210 652 = some (.iadd, 1) := by decide +kernel
theorem w210_652 : ma_W d 210 Q 652 l (.int y :: .int x :: st) H a b = ma_W d 210 Q 653 l (.int (x + y) :: st) H a b := wp_iadd f210_652
theorem f210_653 : ma_ins 210 653 = some (.iaload, 1) := by decide +kernel
theorem w210_653 : ma_W d 210 Q 653 l (.int x :: .ref i :: st) H a b = ma_ial (H.1 i) x (ma_kV d 210 Q 654 l st H a b) := wp_iald f210_653
theorem f210_654 : ma_ins 210 654 = some (.aload_n 0, 1) := by decide +kernel
theorem w210_654 : ma_W d 210 Q 654 (some (.ref i) :: l) st H a b = ma_W d 210 Q 655 (some (.ref i) :: l) (.ref i :: st) H a b := wp_aload_n (x := some i) f210_654 rfl
theorem f210_655 : ma_ins 210 655 = some (.iload_n 3, 1) := by decide +kernel
theorem w210_655 : ma_W d 210 Q 655 (o0 :: o1 :: o2 :: some (.int x) :: l) st H a b = ma_W d 210 Q 656 (o0 :: o1 :: o2 :: some (.int x) :: l) (.int x :: st) H a b := wp_iload_n f210_655 rfl
theorem f210_656 : ma_ins 210 656 = some (.iconst 2, 1) := by decide +kernel
theorem w210_656 : ma_W d 210 Q 656 l st H a b = ma_W d 210 Q 657 l (.int 2 :: st) H a b := wp_iconst f210_656 (by decide)
theorem f210_657 : ma_ins 210 657 = some (.iadd, 1) := by decide +kernel
theorem w210_657 : ma_W d 210 Q 657 l (.int y :: .int x :: st) H a b = ma_W d 210 Q 658 l (.int (x + y) :: st) H a b := wp_iadd f210_657
theorem f210_658 : ma_ins 210 658 = some (.iaload, 1) := by decide +kernel
theorem w210_658 : ma_W d 210 Q 658 l (.int x :: .ref i :: st) H a b = ma_ial (H.1 i) x (ma_kV d 210 Q 659 l st H a b) := wp_iald f210_658
theorem f210_659 : ma_ins 210 659 = some (.aload_n 0, 1) := by decide +kernel
theorem w210_659 : ma_W d 210 Q 659 (some (.ref i) :: l) st H a b = ma_W d 210 Q 660 (some (.ref i) :: l) (.ref i :: st) H a b := wp_aload_n (x := some i) f210_659 rfl
theorem f210_660 : ma_ins 210 660 = some (.iload_n 3, 1) := by decide +kernel
theorem w210_660 : ma_W d 210 Q 660 (o0 :: o1 :: o2 :: some (.int x) :: l) st H a b = ma_W d 210 Q 661 (o0 :: o1 :: o2 :: some (.int x) :: l) (.int x :: st) H a b := wp_iload_n f210_660 rfl
theorem f210_661 : ma_ins 210 661 = some (.iconst 3, 1) := by decide +kernel
theorem w210_661 : ma_W d 210 Q 661 l st H a b = ma_W d 210 Q 662 l (.int 3 :: st) H a b := wp_iconst f210_661 (by decide)
theorem f210_662 : ma_ins 210 662 = some (.iadd, 1) := by decide +kernel
theorem w210_662 : ma_W d 210 Q 662 l (.int y :: .int x :: st) H a b = ma_W d 210 Q 663 l (.int (x + y) :: st) H a b := wp_iadd f210_662
theorem f210_663 : ma_ins 210 663 = some (.iaload, 1) := by decide +kernel
theorem w210_663 : ma_W d 210 Q 663 l (.int x :: .ref i :: st) H a b = ma_ial (H.1 i) x (ma_kV d 210 Q 664 l st H a b) := wp_iald f210_663
theorem f210_664 : ma_ins 210 664 = some (.aload_n 0, 1) := by decide +kernel
theorem w210_664 : ma_W d 210 Q 664 (some (.ref i) :: l) st H a b = ma_W d 210 Q 665 (some (.ref i) :: l) (.ref i :: st) H a b := wp_aload_n (x := some i) f210_664 rfl
theorem f210_665 : ma_ins 210 665 = some (.iload_n 3, 1) := by decide +kernel
theorem w210_665 : ma_W d 210 Q 665 (o0 :: o1 :: o2 :: some (.int x) :: l) st H a b = ma_W d 210 Q 666 (o0 :: o1 :: o2 :: some (.int x) :: l) (.int x :: st) H a b := wp_iload_n f210_665 rfl
theorem f210_666 : ma_ins 210 666 = some (.iconst 4, 1) := by decide +kernel
theorem w210_666 : ma_W d 210 Q 666 l st H a b = ma_W d 210 Q 667 l (.int 4 :: st) H a b := wp_iconst f210_666 (by decide)
theorem f210_667 : ma_ins 210 667 = some (.iadd, 1) := by decide +kernel
theorem w210_667 : ma_W d 210 Q 667 l (.int y :: .int x :: st) H a b = ma_W d 210 Q 668 l (.int (x + y) :: st) H a b := wp_iadd f210_667
theorem f210_668 : ma_ins 210 668 = some (.iaload, 1) := by decide +kernel
theorem w210_668 : ma_W d 210 Q 668 l (.int x :: .ref i :: st) H a b = ma_ial (H.1 i) x (ma_kV d 210 Q 669 l st H a b) := wp_iald f210_668
theorem f210_669 : ma_ins 210 669 = some (.invokevirtual 92, 3) := by decide +kernel
theorem w210_669 : ma_W d 210 Q 669 l (.int x3 :: .int x2 :: .int x1 :: .int x0 :: .ref i :: st) H a b = (ma_cat st ≤ 8 ∧ a + 0 ≤ 600000 ∧ b + 0 ≤ 7302250 ∧ ma_cv (H.1 i) 8 d 173 [.ref i, .int x0, .int x1, .int x2, .int x3] H (ma_kC d 210 Q 672 l st (a + 0) (b + 0))) := wc_V (ia := 173) (n := 5) (cn := 8) f210_669 (by decide +kernel) (fun _ => rfl) rfl rfl
theorem f210_672 : ma_ins 210 672 = some (.if_icmp .eq 319, 3) := by decide +kernel
theorem w210_672 : ma_W d 210 Q 672 l (.int y :: .int x :: st) H a b = ma_if (x = y) d 210 Q 991 675 l st H a b := wp_ic (id := 210) (pc := 672) (c := .eq) (off := 319) 991 f210_672 (by decide)
theorem f210_675 : ma_ins 210 675 = some (.iconst 0, 1) := by decide +kernel
theorem w210_675 : ma_W d 210 Q 675 l st H a b = ma_W d 210 Q 676 l (.int 0 :: st) H a b := wp_iconst f210_675 (by decide)
theorem f210_676 : ma_ins 210 676 = some (.ireturn, 1) := by decide +kernel
theorem w210_676 : ma_W d 210 Q 676 l [.int x] H a b = ((x = 0 ∨ x = 1) ∧ Q (some (.int x)) H) := wp_zret f210_676 rfl
theorem f210_677 : ma_ins 210 677 = some (.aload_n 1, 1) := by decide +kernel
theorem w210_677 : ma_W d 210 Q 677 (o0 :: some (.ref i) :: l) st H a b = ma_W d 210 Q 678 (o0 :: some (.ref i) :: l) (.ref i :: st) H a b := wp_aload_n (x := some i) f210_677 rfl
theorem f210_678 : ma_ins 210 678 = some (.aload_n 0, 1) := by decide +kernel
theorem w210_678 : ma_W d 210 Q 678 (some (.ref i) :: l) st H a b = ma_W d 210 Q 679 (some (.ref i) :: l) (.ref i :: st) H a b := wp_aload_n (x := some i) f210_678 rfl
theorem f210_679 : ma_ins 210 679 = some (.iload_n 3, 1) := by decide +kernel
theorem w210_679 : ma_W d 210 Q 679 (o0 :: o1 :: o2 :: some (.int x) :: l) st H a b = ma_W d 210 Q 680 (o0 :: o1 :: o2 :: some (.int x) :: l) (.int x :: st) H a b := wp_iload_n f210_679 rfl
theorem f210_680 : ma_ins 210 680 = some (.iconst 1, 1) := by decide +kernel
theorem w210_680 : ma_W d 210 Q 680 l st H a b = ma_W d 210 Q 681 l (.int 1 :: st) H a b := wp_iconst f210_680 (by decide)
theorem f210_681 : ma_ins 210 681 = some (.iadd, 1) := by decide +kernel
theorem w210_681 : ma_W d 210 Q 681 l (.int y :: .int x :: st) H a b = ma_W d 210 Q 682 l (.int (x + y) :: st) H a b := wp_iadd f210_681
theorem f210_682 : ma_ins 210 682 = some (.iaload, 1) := by decide +kernel
theorem w210_682 : ma_W d 210 Q 682 l (.int x :: .ref i :: st) H a b = ma_ial (H.1 i) x (ma_kV d 210 Q 683 l st H a b) := wp_iald f210_682
theorem f210_683 : ma_ins 210 683 = some (.invokevirtual 93, 3) := by decide +kernel
theorem w210_683 : ma_W d 210 Q 683 l (.int x0 :: .ref i :: st) H a b = (ma_cat st ≤ 8 ∧ a + 0 ≤ 600000 ∧ b + 0 ≤ 7302250 ∧ ma_cv (H.1 i) 7 d 97 [.ref i, .int x0] H (ma_kC d 210 Q 686 l st (a + 0) (b + 0))) := wc_V (ia := 97) (n := 2) (cn := 7) f210_683 (by decide +kernel) (fun _ => rfl) rfl rfl
theorem f210_686 : ma_ins 210 686 = some (.aload_n 2, 1) := by decide +kernel
theorem w210_686 : ma_W d 210 Q 686 (o0 :: o1 :: some (.ref i) :: l) st H a b = ma_W d 210 Q 687 (o0 :: o1 :: some (.ref i) :: l) (.ref i :: st) H a b := wp_aload_n (x := some i) f210_686 rfl
theorem f210_687 : ma_ins 210 687 = some (.aload_n 0, 1) := by decide +kernel
theorem w210_687 : ma_W d 210 Q 687 (some (.ref i) :: l) st H a b = ma_W d 210 Q 688 (some (.ref i) :: l) (.ref i :: st) H a b := wp_aload_n (x := some i) f210_687 rfl
theorem f210_688 : ma_ins 210 688 = some (.iload_n 3, 1) := by decide +kernel
theorem w210_688 : ma_W d 210 Q 688 (o0 :: o1 :: o2 :: some (.int x) :: l) st H a b = ma_W d 210 Q 689 (o0 :: o1 :: o2 :: some (.int x) :: l) (.int x :: st) H a b := wp_iload_n f210_688 rfl
theorem f210_689 : ma_ins 210 689 = some (.iconst 1, 1) := by decide +kernel
theorem w210_689 : ma_W d 210 Q 689 l st H a b = ma_W d 210 Q 690 l (.int 1 :: st) H a b := wp_iconst f210_689 (by decide)
theorem f210_690 : ma_ins 210 690 = some (.iadd, 1) := by decide +kernel
theorem w210_690 : ma_W d 210 Q 690 l (.int y :: .int x :: st) H a b = ma_W d 210 Q 691 l (.int (x + y) :: st) H a b := wp_iadd f210_690
theorem f210_691 : ma_ins 210 691 = some (.iaload, 1) := by decide +kernel
theorem w210_691 : ma_W d 210 Q 691 l (.int x :: .ref i :: st) H a b = ma_ial (H.1 i) x (ma_kV d 210 Q 692 l st H a b) := wp_iald f210_691
theorem f210_692 : ma_ins 210 692 = some (.invokevirtual 96, 3) := by decide +kernel
theorem w210_692 : ma_W d 210 Q 692 l (.int x0 :: .ref i :: st) H a b = (ma_cat st ≤ 8 ∧ a + 0 ≤ 600000 ∧ b + 0 ≤ 7302250 ∧ ma_cv (H.1 i) 8 d 174 [.ref i, .int x0] H (ma_kC d 210 Q 695 l st (a + 0) (b + 0))) := wc_V (ia := 174) (n := 2) (cn := 8) f210_692 (by decide +kernel) (fun _ => rfl) rfl rfl
theorem f210_695 : ma_ins 210 695 = some (.if_icmp .eq 296, 3) := by decide +kernel
theorem w210_695 : ma_W d 210 Q 695 l (.int y :: .int x :: st) H a b = ma_if (x = y) d 210 Q 991 698 l st H a b := wp_ic (id := 210) (pc := 695) (c := .eq) (off := 296) 991 f210_695 (by decide)
theorem f210_698 : ma_ins 210 698 = some (.iconst 0, 1) := by decide +kernel
theorem w210_698 : ma_W d 210 Q 698 l st H a b = ma_W d 210 Q 699 l (.int 0 :: st) H a b := wp_iconst f210_698 (by decide)
theorem f210_699 : ma_ins 210 699 = some (.ireturn, 1) := by decide +kernel
theorem w210_699 : ma_W d 210 Q 699 l [.int x] H a b = ((x = 0 ∨ x = 1) ∧ Q (some (.int x)) H) := wp_zret f210_699 rfl
theorem f210_700 : ma_ins 210 700 = some (.aload_n 1, 1) := by decide +kernel
theorem w210_700 : ma_W d 210 Q 700 (o0 :: some (.ref i) :: l) st H a b = ma_W d 210 Q 701 (o0 :: some (.ref i) :: l) (.ref i :: st) H a b := wp_aload_n (x := some i) f210_700 rfl
theorem f210_701 : ma_ins 210 701 = some (.invokevirtual 97, 3) := by decide +kernel
theorem w210_701 : ma_W d 210 Q 701 l (.ref i :: st) H a b = (ma_cat st ≤ 8 ∧ a + 0 ≤ 600000 ∧ b + 0 ≤ 7302250 ∧ ma_cv (H.1 i) 7 d 98 [.ref i] H (ma_kC d 210 Q 704 l st (a + 0) (b + 0))) := wc_V (ia := 98) (n := 1) (cn := 7) f210_701 (by decide +kernel) (fun _ => rfl) rfl rfl
theorem f210_704 : ma_ins 210 704 = some (.aload_n 2, 1) := by decide +kernel
theorem w210_704 : ma_W d 210 Q 704 (o0 :: o1 :: some (.ref i) :: l) st H a b = ma_W d 210 Q 705 (o0 :: o1 :: some (.ref i) :: l) (.ref i :: st) H a b := wp_aload_n (x := some i) f210_704 rfl
theorem f210_705 : ma_ins 210 705 = some (.invokevirtual 100, 3) := by decide +kernel
theorem w210_705 : ma_W d 210 Q 705 l (.ref i :: st) H a b = (ma_cat st ≤ 8 ∧ a + 0 ≤ 600000 ∧ b + 0 ≤ 7302250 ∧ ma_cv (H.1 i) 8 d 178 [.ref i] H (ma_kC d 210 Q 708 l st (a + 0) (b + 0))) := wc_V (ia := 178) (n := 1) (cn := 8) f210_705 (by decide +kernel) (fun _ => rfl) rfl rfl
theorem f210_708 : ma_ins 210 708 = some (.if_icmp .eq 283, 3) := by decide +kernel
theorem w210_708 : ma_W d 210 Q 708 l (.int y :: .int x :: st) H a b = ma_if (x = y) d 210 Q 991 711 l st H a b := wp_ic (id := 210) (pc := 708) (c := .eq) (off := 283) 991 f210_708 (by decide)
theorem f210_711 : ma_ins 210 711 = some (.iconst 0, 1) := by decide +kernel
theorem w210_711 : ma_W d 210 Q 711 l st H a b = ma_W d 210 Q 712 l (.int 0 :: st) H a b := wp_iconst f210_711 (by decide)
theorem f210_712 : ma_ins 210 712 = some (.ireturn, 1) := by decide +kernel
theorem w210_712 : ma_W d 210 Q 712 l [.int x] H a b = ((x = 0 ∨ x = 1) ∧ Q (some (.int x)) H) := wp_zret f210_712 rfl
theorem f210_713 : ma_ins 210 713 = some (.aload_n 1, 1) := by decide +kernel
theorem w210_713 : ma_W d 210 Q 713 (o0 :: some (.ref i) :: l) st H a b = ma_W d 210 Q 714 (o0 :: some (.ref i) :: l) (.ref i :: st) H a b := wp_aload_n (x := some i) f210_713 rfl
theorem f210_714 : ma_ins 210 714 = some (.invokevirtual 101, 3) := by decide +kernel
theorem w210_714 : ma_W d 210 Q 714 l (.ref i :: st) H a b = (ma_cat st ≤ 8 ∧ a + 0 ≤ 600000 ∧ b + 0 ≤ 7302250 ∧ ma_cv (H.1 i) 7 d 99 [.ref i] H (ma_kC d 210 Q 717 l st (a + 0) (b + 0))) := wc_V (ia := 99) (n := 1) (cn := 7) f210_714 (by decide +kernel) (fun _ => rfl) rfl rfl
theorem f210_717 : ma_ins 210 717 = some (.aload_n 2, 1) := by decide +kernel
theorem w210_717 : ma_W d 210 Q 717 (o0 :: o1 :: some (.ref i) :: l) st H a b = ma_W d 210 Q 718 (o0 :: o1 :: some (.ref i) :: l) (.ref i :: st) H a b := wp_aload_n (x := some i) f210_717 rfl
theorem f210_718 : ma_ins 210 718 = some (.invokevirtual 104, 3) := by decide +kernel
theorem w210_718 : ma_W d 210 Q 718 l (.ref i :: st) H a b = (ma_cat st ≤ 8 ∧ a + 0 ≤ 600000 ∧ b + 0 ≤ 7302250 ∧ ma_cv (H.1 i) 8 d 179 [.ref i] H (ma_kC d 210 Q 721 l st (a + 0) (b + 0))) := wc_V (ia := 179) (n := 1) (cn := 8) f210_718 (by decide +kernel) (fun _ => rfl) rfl rfl
theorem f210_721 : ma_ins 210 721 = some (.if_icmp .eq 270, 3) := by decide +kernel
theorem w210_721 : ma_W d 210 Q 721 l (.int y :: .int x :: st) H a b = ma_if (x = y) d 210 Q 991 724 l st H a b := wp_ic (id := 210) (pc := 721) (c := .eq) (off := 270) 991 f210_721 (by decide)
theorem f210_724 : ma_ins 210 724 = some (.iconst 0, 1) := by decide +kernel
theorem w210_724 : ma_W d 210 Q 724 l st H a b = ma_W d 210 Q 725 l (.int 0 :: st) H a b := wp_iconst f210_724 (by decide)
theorem f210_725 : ma_ins 210 725 = some (.ireturn, 1) := by decide +kernel
theorem w210_725 : ma_W d 210 Q 725 l [.int x] H a b = ((x = 0 ∨ x = 1) ∧ Q (some (.int x)) H) := wp_zret f210_725 rfl
theorem f210_726 : ma_ins 210 726 = some (.aload_n 1, 1) := by decide +kernel
theorem w210_726 : ma_W d 210 Q 726 (o0 :: some (.ref i) :: l) st H a b = ma_W d 210 Q 727 (o0 :: some (.ref i) :: l) (.ref i :: st) H a b := wp_aload_n (x := some i) f210_726 rfl
theorem f210_727 : ma_ins 210 727 = some (.aload_n 0, 1) := by decide +kernel
theorem w210_727 : ma_W d 210 Q 727 (some (.ref i) :: l) st H a b = ma_W d 210 Q 728 (some (.ref i) :: l) (.ref i :: st) H a b := wp_aload_n (x := some i) f210_727 rfl
theorem f210_728 : ma_ins 210 728 = some (.iload_n 3, 1) := by decide +kernel
theorem w210_728 : ma_W d 210 Q 728 (o0 :: o1 :: o2 :: some (.int x) :: l) st H a b = ma_W d 210 Q 729 (o0 :: o1 :: o2 :: some (.int x) :: l) (.int x :: st) H a b := wp_iload_n f210_728 rfl
theorem f210_729 : ma_ins 210 729 = some (.iconst 1, 1) := by decide +kernel
theorem w210_729 : ma_W d 210 Q 729 l st H a b = ma_W d 210 Q 730 l (.int 1 :: st) H a b := wp_iconst f210_729 (by decide)
theorem f210_730 : ma_ins 210 730 = some (.iadd, 1) := by decide +kernel
theorem w210_730 : ma_W d 210 Q 730 l (.int y :: .int x :: st) H a b = ma_W d 210 Q 731 l (.int (x + y) :: st) H a b := wp_iadd f210_730
theorem f210_731 : ma_ins 210 731 = some (.iaload, 1) := by decide +kernel
theorem w210_731 : ma_W d 210 Q 731 l (.int x :: .ref i :: st) H a b = ma_ial (H.1 i) x (ma_kV d 210 Q 732 l st H a b) := wp_iald f210_731
theorem f210_732 : ma_ins 210 732 = some (.invokevirtual 105, 3) := by decide +kernel
theorem w210_732 : ma_W d 210 Q 732 l (.int x0 :: .ref i :: st) H a b = (ma_cat st ≤ 8 ∧ a + 0 ≤ 600000 ∧ b + 0 ≤ 7302250 ∧ ma_cv (H.1 i) 7 d 100 [.ref i, .int x0] H (ma_kC d 210 Q 735 l st (a + 0) (b + 0))) := wc_V (ia := 100) (n := 2) (cn := 7) f210_732 (by decide +kernel) (fun _ => rfl) rfl rfl
theorem f210_735 : ma_ins 210 735 = some (.aload_n 2, 1) := by decide +kernel
theorem w210_735 : ma_W d 210 Q 735 (o0 :: o1 :: some (.ref i) :: l) st H a b = ma_W d 210 Q 736 (o0 :: o1 :: some (.ref i) :: l) (.ref i :: st) H a b := wp_aload_n (x := some i) f210_735 rfl
theorem f210_736 : ma_ins 210 736 = some (.aload_n 0, 1) := by decide +kernel
theorem w210_736 : ma_W d 210 Q 736 (some (.ref i) :: l) st H a b = ma_W d 210 Q 737 (some (.ref i) :: l) (.ref i :: st) H a b := wp_aload_n (x := some i) f210_736 rfl
theorem f210_737 : ma_ins 210 737 = some (.iload_n 3, 1) := by decide +kernel
theorem w210_737 : ma_W d 210 Q 737 (o0 :: o1 :: o2 :: some (.int x) :: l) st H a b = ma_W d 210 Q 738 (o0 :: o1 :: o2 :: some (.int x) :: l) (.int x :: st) H a b := wp_iload_n f210_737 rfl
theorem f210_738 : ma_ins 210 738 = some (.iconst 1, 1) := by decide +kernel
theorem w210_738 : ma_W d 210 Q 738 l st H a b = ma_W d 210 Q 739 l (.int 1 :: st) H a b := wp_iconst f210_738 (by decide)
theorem f210_739 : ma_ins 210 739 = some (.iadd, 1) := by decide +kernel
theorem w210_739 : ma_W d 210 Q 739 l (.int y :: .int x :: st) H a b = ma_W d 210 Q 740 l (.int (x + y) :: st) H a b := wp_iadd f210_739
theorem f210_740 : ma_ins 210 740 = some (.iaload, 1) := by decide +kernel
theorem w210_740 : ma_W d 210 Q 740 l (.int x :: .ref i :: st) H a b = ma_ial (H.1 i) x (ma_kV d 210 Q 741 l st H a b) := wp_iald f210_740
theorem f210_741 : ma_ins 210 741 = some (.invokevirtual 108, 3) := by decide +kernel
theorem w210_741 : ma_W d 210 Q 741 l (.int x0 :: .ref i :: st) H a b = (ma_cat st ≤ 8 ∧ a + 0 ≤ 600000 ∧ b + 0 ≤ 7302250 ∧ ma_cv (H.1 i) 8 d 180 [.ref i, .int x0] H (ma_kC d 210 Q 744 l st (a + 0) (b + 0))) := wc_V (ia := 180) (n := 2) (cn := 8) f210_741 (by decide +kernel) (fun _ => rfl) rfl rfl
theorem f210_744 : ma_ins 210 744 = some (.if_icmp .eq 247, 3) := by decide +kernel
theorem w210_744 : ma_W d 210 Q 744 l (.int y :: .int x :: st) H a b = ma_if (x = y) d 210 Q 991 747 l st H a b := wp_ic (id := 210) (pc := 744) (c := .eq) (off := 247) 991 f210_744 (by decide)
theorem f210_747 : ma_ins 210 747 = some (.iconst 0, 1) := by decide +kernel
theorem w210_747 : ma_W d 210 Q 747 l st H a b = ma_W d 210 Q 748 l (.int 0 :: st) H a b := wp_iconst f210_747 (by decide)
theorem f210_748 : ma_ins 210 748 = some (.ireturn, 1) := by decide +kernel
theorem w210_748 : ma_W d 210 Q 748 l [.int x] H a b = ((x = 0 ∨ x = 1) ∧ Q (some (.int x)) H) := wp_zret f210_748 rfl
theorem f210_749 : ma_ins 210 749 = some (.aload_n 1, 1) := by decide +kernel
theorem w210_749 : ma_W d 210 Q 749 (o0 :: some (.ref i) :: l) st H a b = ma_W d 210 Q 750 (o0 :: some (.ref i) :: l) (.ref i :: st) H a b := wp_aload_n (x := some i) f210_749 rfl
theorem f210_750 : ma_ins 210 750 = some (.aload_n 0, 1) := by decide +kernel
theorem w210_750 : ma_W d 210 Q 750 (some (.ref i) :: l) st H a b = ma_W d 210 Q 751 (some (.ref i) :: l) (.ref i :: st) H a b := wp_aload_n (x := some i) f210_750 rfl
theorem f210_751 : ma_ins 210 751 = some (.iload_n 3, 1) := by decide +kernel
theorem w210_751 : ma_W d 210 Q 751 (o0 :: o1 :: o2 :: some (.int x) :: l) st H a b = ma_W d 210 Q 752 (o0 :: o1 :: o2 :: some (.int x) :: l) (.int x :: st) H a b := wp_iload_n f210_751 rfl
theorem f210_752 : ma_ins 210 752 = some (.iconst 1, 1) := by decide +kernel
theorem w210_752 : ma_W d 210 Q 752 l st H a b = ma_W d 210 Q 753 l (.int 1 :: st) H a b := wp_iconst f210_752 (by decide)
theorem f210_753 : ma_ins 210 753 = some (.iadd, 1) := by decide +kernel
theorem w210_753 : ma_W d 210 Q 753 l (.int y :: .int x :: st) H a b = ma_W d 210 Q 754 l (.int (x + y) :: st) H a b := wp_iadd f210_753
theorem f210_754 : ma_ins 210 754 = some (.iaload, 1) := by decide +kernel
theorem w210_754 : ma_W d 210 Q 754 l (.int x :: .ref i :: st) H a b = ma_ial (H.1 i) x (ma_kV d 210 Q 755 l st H a b) := wp_iald f210_754
theorem f210_755 : ma_ins 210 755 = some (.invokevirtual 109, 3) := by decide +kernel
theorem w210_755 : ma_W d 210 Q 755 l (.int x0 :: .ref i :: st) H a b = (ma_cat st ≤ 8 ∧ a + 0 ≤ 600000 ∧ b + 0 ≤ 7302250 ∧ ma_cv (H.1 i) 7 d 101 [.ref i, .int x0] H (ma_kC d 210 Q 758 l st (a + 0) (b + 0))) := wc_V (ia := 101) (n := 2) (cn := 7) f210_755 (by decide +kernel) (fun _ => rfl) rfl rfl
theorem f210_758 : ma_ins 210 758 = some (.aload_n 2, 1) := by decide +kernel
theorem w210_758 : ma_W d 210 Q 758 (o0 :: o1 :: some (.ref i) :: l) st H a b = ma_W d 210 Q 759 (o0 :: o1 :: some (.ref i) :: l) (.ref i :: st) H a b := wp_aload_n (x := some i) f210_758 rfl
theorem f210_759 : ma_ins 210 759 = some (.aload_n 0, 1) := by decide +kernel
theorem w210_759 : ma_W d 210 Q 759 (some (.ref i) :: l) st H a b = ma_W d 210 Q 760 (some (.ref i) :: l) (.ref i :: st) H a b := wp_aload_n (x := some i) f210_759 rfl
theorem f210_760 : ma_ins 210 760 = some (.iload_n 3, 1) := by decide +kernel
theorem w210_760 : ma_W d 210 Q 760 (o0 :: o1 :: o2 :: some (.int x) :: l) st H a b = ma_W d 210 Q 761 (o0 :: o1 :: o2 :: some (.int x) :: l) (.int x :: st) H a b := wp_iload_n f210_760 rfl
theorem f210_761 : ma_ins 210 761 = some (.iconst 1, 1) := by decide +kernel
theorem w210_761 : ma_W d 210 Q 761 l st H a b = ma_W d 210 Q 762 l (.int 1 :: st) H a b := wp_iconst f210_761 (by decide)
theorem f210_762 : ma_ins 210 762 = some (.iadd, 1) := by decide +kernel
theorem w210_762 : ma_W d 210 Q 762 l (.int y :: .int x :: st) H a b = ma_W d 210 Q 763 l (.int (x + y) :: st) H a b := wp_iadd f210_762
theorem f210_763 : ma_ins 210 763 = some (.iaload, 1) := by decide +kernel
theorem w210_763 : ma_W d 210 Q 763 l (.int x :: .ref i :: st) H a b = ma_ial (H.1 i) x (ma_kV d 210 Q 764 l st H a b) := wp_iald f210_763
theorem f210_764 : ma_ins 210 764 = some (.invokevirtual 112, 3) := by decide +kernel
theorem w210_764 : ma_W d 210 Q 764 l (.int x0 :: .ref i :: st) H a b = (ma_cat st ≤ 8 ∧ a + 0 ≤ 600000 ∧ b + 0 ≤ 7302250 ∧ ma_cv (H.1 i) 8 d 181 [.ref i, .int x0] H (ma_kC d 210 Q 767 l st (a + 0) (b + 0))) := wc_V (ia := 181) (n := 2) (cn := 8) f210_764 (by decide +kernel) (fun _ => rfl) rfl rfl
theorem f210_767 : ma_ins 210 767 = some (.if_icmp .eq 224, 3) := by decide +kernel
theorem w210_767 : ma_W d 210 Q 767 l (.int y :: .int x :: st) H a b = ma_if (x = y) d 210 Q 991 770 l st H a b := wp_ic (id := 210) (pc := 767) (c := .eq) (off := 224) 991 f210_767 (by decide)
theorem f210_770 : ma_ins 210 770 = some (.iconst 0, 1) := by decide +kernel
theorem w210_770 : ma_W d 210 Q 770 l st H a b = ma_W d 210 Q 771 l (.int 0 :: st) H a b := wp_iconst f210_770 (by decide)
theorem f210_771 : ma_ins 210 771 = some (.ireturn, 1) := by decide +kernel
theorem w210_771 : ma_W d 210 Q 771 l [.int x] H a b = ((x = 0 ∨ x = 1) ∧ Q (some (.int x)) H) := wp_zret f210_771 rfl
theorem f210_772 : ma_ins 210 772 = some (.aload_n 1, 1) := by decide +kernel
theorem w210_772 : ma_W d 210 Q 772 (o0 :: some (.ref i) :: l) st H a b = ma_W d 210 Q 773 (o0 :: some (.ref i) :: l) (.ref i :: st) H a b := wp_aload_n (x := some i) f210_772 rfl
theorem f210_773 : ma_ins 210 773 = some (.aload_n 0, 1) := by decide +kernel
theorem w210_773 : ma_W d 210 Q 773 (some (.ref i) :: l) st H a b = ma_W d 210 Q 774 (some (.ref i) :: l) (.ref i :: st) H a b := wp_aload_n (x := some i) f210_773 rfl
theorem f210_774 : ma_ins 210 774 = some (.iload_n 3, 1) := by decide +kernel
theorem w210_774 : ma_W d 210 Q 774 (o0 :: o1 :: o2 :: some (.int x) :: l) st H a b = ma_W d 210 Q 775 (o0 :: o1 :: o2 :: some (.int x) :: l) (.int x :: st) H a b := wp_iload_n f210_774 rfl
theorem f210_775 : ma_ins 210 775 = some (.iconst 1, 1) := by decide +kernel
theorem w210_775 : ma_W d 210 Q 775 l st H a b = ma_W d 210 Q 776 l (.int 1 :: st) H a b := wp_iconst f210_775 (by decide)
theorem f210_776 : ma_ins 210 776 = some (.iadd, 1) := by decide +kernel
theorem w210_776 : ma_W d 210 Q 776 l (.int y :: .int x :: st) H a b = ma_W d 210 Q 777 l (.int (x + y) :: st) H a b := wp_iadd f210_776
theorem f210_777 : ma_ins 210 777 = some (.iaload, 1) := by decide +kernel
theorem w210_777 : ma_W d 210 Q 777 l (.int x :: .ref i :: st) H a b = ma_ial (H.1 i) x (ma_kV d 210 Q 778 l st H a b) := wp_iald f210_777
theorem f210_778 : ma_ins 210 778 = some (.invokevirtual 113, 3) := by decide +kernel
theorem w210_778 : ma_W d 210 Q 778 l (.int x0 :: .ref i :: st) H a b = (ma_cat st ≤ 8 ∧ a + 0 ≤ 600000 ∧ b + 0 ≤ 7302250 ∧ ma_cv (H.1 i) 7 d 102 [.ref i, .int x0] H (ma_kC d 210 Q 781 l st (a + 0) (b + 0))) := wc_V (ia := 102) (n := 2) (cn := 7) f210_778 (by decide +kernel) (fun _ => rfl) rfl rfl
theorem f210_781 : ma_ins 210 781 = some (.aload_n 2, 1) := by decide +kernel
theorem w210_781 : ma_W d 210 Q 781 (o0 :: o1 :: some (.ref i) :: l) st H a b = ma_W d 210 Q 782 (o0 :: o1 :: some (.ref i) :: l) (.ref i :: st) H a b := wp_aload_n (x := some i) f210_781 rfl
theorem f210_782 : ma_ins 210 782 = some (.aload_n 0, 1) := by decide +kernel
theorem w210_782 : ma_W d 210 Q 782 (some (.ref i) :: l) st H a b = ma_W d 210 Q 783 (some (.ref i) :: l) (.ref i :: st) H a b := wp_aload_n (x := some i) f210_782 rfl
theorem f210_783 : ma_ins 210 783 = some (.iload_n 3, 1) := by decide +kernel
theorem w210_783 : ma_W d 210 Q 783 (o0 :: o1 :: o2 :: some (.int x) :: l) st H a b = ma_W d 210 Q 784 (o0 :: o1 :: o2 :: some (.int x) :: l) (.int x :: st) H a b := wp_iload_n f210_783 rfl
theorem f210_784 : ma_ins 210 784 = some (.iconst 1, 1) := by decide +kernel
theorem w210_784 : ma_W d 210 Q 784 l st H a b = ma_W d 210 Q 785 l (.int 1 :: st) H a b := wp_iconst f210_784 (by decide)
theorem f210_785 : ma_ins 210 785 = some (.iadd, 1) := by decide +kernel
theorem w210_785 : ma_W d 210 Q 785 l (.int y :: .int x :: st) H a b = ma_W d 210 Q 786 l (.int (x + y) :: st) H a b := wp_iadd f210_785
theorem f210_786 : ma_ins 210 786 = some (.iaload, 1) := by decide +kernel
theorem w210_786 : ma_W d 210 Q 786 l (.int x :: .ref i :: st) H a b = ma_ial (H.1 i) x (ma_kV d 210 Q 787 l st H a b) := wp_iald f210_786
theorem f210_787 : ma_ins 210 787 = some (.invokevirtual 116, 3) := by decide +kernel
theorem w210_787 : ma_W d 210 Q 787 l (.int x0 :: .ref i :: st) H a b = (ma_cat st ≤ 8 ∧ a + 0 ≤ 600000 ∧ b + 0 ≤ 7302250 ∧ ma_cv (H.1 i) 8 d 183 [.ref i, .int x0] H (ma_kC d 210 Q 790 l st (a + 0) (b + 0))) := wc_V (ia := 183) (n := 2) (cn := 8) f210_787 (by decide +kernel) (fun _ => rfl) rfl rfl
theorem f210_790 : ma_ins 210 790 = some (.if_icmp .eq 201, 3) := by decide +kernel
theorem w210_790 : ma_W d 210 Q 790 l (.int y :: .int x :: st) H a b = ma_if (x = y) d 210 Q 991 793 l st H a b := wp_ic (id := 210) (pc := 790) (c := .eq) (off := 201) 991 f210_790 (by decide)
theorem f210_793 : ma_ins 210 793 = some (.iconst 0, 1) := by decide +kernel
theorem w210_793 : ma_W d 210 Q 793 l st H a b = ma_W d 210 Q 794 l (.int 0 :: st) H a b := wp_iconst f210_793 (by decide)
theorem f210_794 : ma_ins 210 794 = some (.ireturn, 1) := by decide +kernel
theorem w210_794 : ma_W d 210 Q 794 l [.int x] H a b = ((x = 0 ∨ x = 1) ∧ Q (some (.int x)) H) := wp_zret f210_794 rfl
theorem f210_795 : ma_ins 210 795 = some (.aload_n 1, 1) := by decide +kernel
theorem w210_795 : ma_W d 210 Q 795 (o0 :: some (.ref i) :: l) st H a b = ma_W d 210 Q 796 (o0 :: some (.ref i) :: l) (.ref i :: st) H a b := wp_aload_n (x := some i) f210_795 rfl
theorem f210_796 : ma_ins 210 796 = some (.aload_n 0, 1) := by decide +kernel
theorem w210_796 : ma_W d 210 Q 796 (some (.ref i) :: l) st H a b = ma_W d 210 Q 797 (some (.ref i) :: l) (.ref i :: st) H a b := wp_aload_n (x := some i) f210_796 rfl
theorem f210_797 : ma_ins 210 797 = some (.iload_n 3, 1) := by decide +kernel
theorem w210_797 : ma_W d 210 Q 797 (o0 :: o1 :: o2 :: some (.int x) :: l) st H a b = ma_W d 210 Q 798 (o0 :: o1 :: o2 :: some (.int x) :: l) (.int x :: st) H a b := wp_iload_n f210_797 rfl
theorem f210_798 : ma_ins 210 798 = some (.iconst 1, 1) := by decide +kernel
theorem w210_798 : ma_W d 210 Q 798 l st H a b = ma_W d 210 Q 799 l (.int 1 :: st) H a b := wp_iconst f210_798 (by decide)
theorem f210_799 : ma_ins 210 799 = some (.iadd, 1) := by decide +kernel
theorem w210_799 : ma_W d 210 Q 799 l (.int y :: .int x :: st) H a b = ma_W d 210 Q 800 l (.int (x + y) :: st) H a b := wp_iadd f210_799
theorem f210_800 : ma_ins 210 800 = some (.iaload, 1) := by decide +kernel
theorem w210_800 : ma_W d 210 Q 800 l (.int x :: .ref i :: st) H a b = ma_ial (H.1 i) x (ma_kV d 210 Q 801 l st H a b) := wp_iald f210_800
theorem f210_801 : ma_ins 210 801 = some (.aload_n 0, 1) := by decide +kernel
theorem w210_801 : ma_W d 210 Q 801 (some (.ref i) :: l) st H a b = ma_W d 210 Q 802 (some (.ref i) :: l) (.ref i :: st) H a b := wp_aload_n (x := some i) f210_801 rfl
theorem f210_802 : ma_ins 210 802 = some (.iload_n 3, 1) := by decide +kernel
theorem w210_802 : ma_W d 210 Q 802 (o0 :: o1 :: o2 :: some (.int x) :: l) st H a b = ma_W d 210 Q 803 (o0 :: o1 :: o2 :: some (.int x) :: l) (.int x :: st) H a b := wp_iload_n f210_802 rfl
theorem f210_803 : ma_ins 210 803 = some (.iconst 2, 1) := by decide +kernel
theorem w210_803 : ma_W d 210 Q 803 l st H a b = ma_W d 210 Q 804 l (.int 2 :: st) H a b := wp_iconst f210_803 (by decide)
theorem f210_804 : ma_ins 210 804 = some (.iadd, 1) := by decide +kernel
theorem w210_804 : ma_W d 210 Q 804 l (.int y :: .int x :: st) H a b = ma_W d 210 Q 805 l (.int (x + y) :: st) H a b := wp_iadd f210_804
theorem f210_805 : ma_ins 210 805 = some (.iaload, 1) := by decide +kernel
theorem w210_805 : ma_W d 210 Q 805 l (.int x :: .ref i :: st) H a b = ma_ial (H.1 i) x (ma_kV d 210 Q 806 l st H a b) := wp_iald f210_805
theorem f210_806 : ma_ins 210 806 = some (.invokevirtual 117, 3) := by decide +kernel
theorem w210_806 : ma_W d 210 Q 806 l (.int x1 :: .int x0 :: .ref i :: st) H a b = (ma_cat st ≤ 8 ∧ a + 0 ≤ 600000 ∧ b + 0 ≤ 7302250 ∧ ma_cv (H.1 i) 7 d 103 [.ref i, .int x0, .int x1] H (ma_kC d 210 Q 809 l st (a + 0) (b + 0))) := wc_V (ia := 103) (n := 3) (cn := 7) f210_806 (by decide +kernel) (fun _ => rfl) rfl rfl
theorem f210_809 : ma_ins 210 809 = some (.aload_n 2, 1) := by decide +kernel
theorem w210_809 : ma_W d 210 Q 809 (o0 :: o1 :: some (.ref i) :: l) st H a b = ma_W d 210 Q 810 (o0 :: o1 :: some (.ref i) :: l) (.ref i :: st) H a b := wp_aload_n (x := some i) f210_809 rfl
theorem f210_810 : ma_ins 210 810 = some (.aload_n 0, 1) := by decide +kernel
theorem w210_810 : ma_W d 210 Q 810 (some (.ref i) :: l) st H a b = ma_W d 210 Q 811 (some (.ref i) :: l) (.ref i :: st) H a b := wp_aload_n (x := some i) f210_810 rfl
theorem f210_811 : ma_ins 210 811 = some (.iload_n 3, 1) := by decide +kernel
theorem w210_811 : ma_W d 210 Q 811 (o0 :: o1 :: o2 :: some (.int x) :: l) st H a b = ma_W d 210 Q 812 (o0 :: o1 :: o2 :: some (.int x) :: l) (.int x :: st) H a b := wp_iload_n f210_811 rfl
theorem f210_812 : ma_ins 210 812 = some (.iconst 1, 1) := by decide +kernel
theorem w210_812 : ma_W d 210 Q 812 l st H a b = ma_W d 210 Q 813 l (.int 1 :: st) H a b := wp_iconst f210_812 (by decide)
theorem f210_813 : ma_ins 210 813 = some (.iadd, 1) := by decide +kernel
theorem w210_813 : ma_W d 210 Q 813 l (.int y :: .int x :: st) H a b = ma_W d 210 Q 814 l (.int (x + y) :: st) H a b := wp_iadd f210_813
theorem f210_814 : ma_ins 210 814 = some (.iaload, 1) := by decide +kernel
theorem w210_814 : ma_W d 210 Q 814 l (.int x :: .ref i :: st) H a b = ma_ial (H.1 i) x (ma_kV d 210 Q 815 l st H a b) := wp_iald f210_814
theorem f210_815 : ma_ins 210 815 = some (.aload_n 0, 1) := by decide +kernel
theorem w210_815 : ma_W d 210 Q 815 (some (.ref i) :: l) st H a b = ma_W d 210 Q 816 (some (.ref i) :: l) (.ref i :: st) H a b := wp_aload_n (x := some i) f210_815 rfl
theorem f210_816 : ma_ins 210 816 = some (.iload_n 3, 1) := by decide +kernel
theorem w210_816 : ma_W d 210 Q 816 (o0 :: o1 :: o2 :: some (.int x) :: l) st H a b = ma_W d 210 Q 817 (o0 :: o1 :: o2 :: some (.int x) :: l) (.int x :: st) H a b := wp_iload_n f210_816 rfl
theorem f210_817 : ma_ins 210 817 = some (.iconst 2, 1) := by decide +kernel
theorem w210_817 : ma_W d 210 Q 817 l st H a b = ma_W d 210 Q 818 l (.int 2 :: st) H a b := wp_iconst f210_817 (by decide)
theorem f210_818 : ma_ins 210 818 = some (.iadd, 1) := by decide +kernel
theorem w210_818 : ma_W d 210 Q 818 l (.int y :: .int x :: st) H a b = ma_W d 210 Q 819 l (.int (x + y) :: st) H a b := wp_iadd f210_818
theorem f210_819 : ma_ins 210 819 = some (.iaload, 1) := by decide +kernel
theorem w210_819 : ma_W d 210 Q 819 l (.int x :: .ref i :: st) H a b = ma_ial (H.1 i) x (ma_kV d 210 Q 820 l st H a b) := wp_iald f210_819
theorem f210_820 : ma_ins 210 820 = some (.invokevirtual 120, 3) := by decide +kernel
theorem w210_820 : ma_W d 210 Q 820 l (.int x1 :: .int x0 :: .ref i :: st) H a b = (ma_cat st ≤ 8 ∧ a + 0 ≤ 600000 ∧ b + 0 ≤ 7302250 ∧ ma_cv (H.1 i) 8 d 186 [.ref i, .int x0, .int x1] H (ma_kC d 210 Q 823 l st (a + 0) (b + 0))) := wc_V (ia := 186) (n := 3) (cn := 8) f210_820 (by decide +kernel) (fun _ => rfl) rfl rfl
theorem f210_823 : ma_ins 210 823 = some (.if_icmp .eq 168, 3) := by decide +kernel
theorem w210_823 : ma_W d 210 Q 823 l (.int y :: .int x :: st) H a b = ma_if (x = y) d 210 Q 991 826 l st H a b := wp_ic (id := 210) (pc := 823) (c := .eq) (off := 168) 991 f210_823 (by decide)
theorem f210_826 : ma_ins 210 826 = some (.iconst 0, 1) := by decide +kernel
theorem w210_826 : ma_W d 210 Q 826 l st H a b = ma_W d 210 Q 827 l (.int 0 :: st) H a b := wp_iconst f210_826 (by decide)
theorem f210_827 : ma_ins 210 827 = some (.ireturn, 1) := by decide +kernel
theorem w210_827 : ma_W d 210 Q 827 l [.int x] H a b = ((x = 0 ∨ x = 1) ∧ Q (some (.int x)) H) := wp_zret f210_827 rfl
theorem f210_828 : ma_ins 210 828 = some (.aload_n 1, 1) := by decide +kernel
theorem w210_828 : ma_W d 210 Q 828 (o0 :: some (.ref i) :: l) st H a b = ma_W d 210 Q 829 (o0 :: some (.ref i) :: l) (.ref i :: st) H a b := wp_aload_n (x := some i) f210_828 rfl
theorem f210_829 : ma_ins 210 829 = some (.aload_n 0, 1) := by decide +kernel
theorem w210_829 : ma_W d 210 Q 829 (some (.ref i) :: l) st H a b = ma_W d 210 Q 830 (some (.ref i) :: l) (.ref i :: st) H a b := wp_aload_n (x := some i) f210_829 rfl
theorem f210_830 : ma_ins 210 830 = some (.iload_n 3, 1) := by decide +kernel
theorem w210_830 : ma_W d 210 Q 830 (o0 :: o1 :: o2 :: some (.int x) :: l) st H a b = ma_W d 210 Q 831 (o0 :: o1 :: o2 :: some (.int x) :: l) (.int x :: st) H a b := wp_iload_n f210_830 rfl
theorem f210_831 : ma_ins 210 831 = some (.iconst 1, 1) := by decide +kernel
theorem w210_831 : ma_W d 210 Q 831 l st H a b = ma_W d 210 Q 832 l (.int 1 :: st) H a b := wp_iconst f210_831 (by decide)
theorem f210_832 : ma_ins 210 832 = some (.iadd, 1) := by decide +kernel
theorem w210_832 : ma_W d 210 Q 832 l (.int y :: .int x :: st) H a b = ma_W d 210 Q 833 l (.int (x + y) :: st) H a b := wp_iadd f210_832
theorem f210_833 : ma_ins 210 833 = some (.iaload, 1) := by decide +kernel
theorem w210_833 : ma_W d 210 Q 833 l (.int x :: .ref i :: st) H a b = ma_ial (H.1 i) x (ma_kV d 210 Q 834 l st H a b) := wp_iald f210_833
theorem f210_834 : ma_ins 210 834 = some (.aload_n 0, 1) := by decide +kernel
theorem w210_834 : ma_W d 210 Q 834 (some (.ref i) :: l) st H a b = ma_W d 210 Q 835 (some (.ref i) :: l) (.ref i :: st) H a b := wp_aload_n (x := some i) f210_834 rfl
theorem f210_835 : ma_ins 210 835 = some (.iload_n 3, 1) := by decide +kernel
theorem w210_835 : ma_W d 210 Q 835 (o0 :: o1 :: o2 :: some (.int x) :: l) st H a b = ma_W d 210 Q 836 (o0 :: o1 :: o2 :: some (.int x) :: l) (.int x :: st) H a b := wp_iload_n f210_835 rfl
theorem f210_836 : ma_ins 210 836 = some (.iconst 2, 1) := by decide +kernel
theorem w210_836 : ma_W d 210 Q 836 l st H a b = ma_W d 210 Q 837 l (.int 2 :: st) H a b := wp_iconst f210_836 (by decide)
theorem f210_837 : ma_ins 210 837 = some (.iadd, 1) := by decide +kernel
theorem w210_837 : ma_W d 210 Q 837 l (.int y :: .int x :: st) H a b = ma_W d 210 Q 838 l (.int (x + y) :: st) H a b := wp_iadd f210_837
theorem f210_838 : ma_ins 210 838 = some (.iaload, 1) := by decide +kernel
theorem w210_838 : ma_W d 210 Q 838 l (.int x :: .ref i :: st) H a b = ma_ial (H.1 i) x (ma_kV d 210 Q 839 l st H a b) := wp_iald f210_838
theorem f210_839 : ma_ins 210 839 = some (.invokevirtual 121, 3) := by decide +kernel
theorem w210_839 : ma_W d 210 Q 839 l (.int x1 :: .int x0 :: .ref i :: st) H a b = (ma_cat st ≤ 8 ∧ a + 0 ≤ 600000 ∧ b + 0 ≤ 7302250 ∧ ma_cv (H.1 i) 7 d 104 [.ref i, .int x0, .int x1] H (ma_kC d 210 Q 842 l st (a + 0) (b + 0))) := wc_V (ia := 104) (n := 3) (cn := 7) f210_839 (by decide +kernel) (fun _ => rfl) rfl rfl
theorem f210_842 : ma_ins 210 842 = some (.aload_n 2, 1) := by decide +kernel
theorem w210_842 : ma_W d 210 Q 842 (o0 :: o1 :: some (.ref i) :: l) st H a b = ma_W d 210 Q 843 (o0 :: o1 :: some (.ref i) :: l) (.ref i :: st) H a b := wp_aload_n (x := some i) f210_842 rfl
theorem f210_843 : ma_ins 210 843 = some (.aload_n 0, 1) := by decide +kernel
theorem w210_843 : ma_W d 210 Q 843 (some (.ref i) :: l) st H a b = ma_W d 210 Q 844 (some (.ref i) :: l) (.ref i :: st) H a b := wp_aload_n (x := some i) f210_843 rfl
theorem f210_844 : ma_ins 210 844 = some (.iload_n 3, 1) := by decide +kernel
theorem w210_844 : ma_W d 210 Q 844 (o0 :: o1 :: o2 :: some (.int x) :: l) st H a b = ma_W d 210 Q 845 (o0 :: o1 :: o2 :: some (.int x) :: l) (.int x :: st) H a b := wp_iload_n f210_844 rfl
theorem f210_845 : ma_ins 210 845 = some (.iconst 1, 1) := by decide +kernel
theorem w210_845 : ma_W d 210 Q 845 l st H a b = ma_W d 210 Q 846 l (.int 1 :: st) H a b := wp_iconst f210_845 (by decide)
theorem f210_846 : ma_ins 210 846 = some (.iadd, 1) := by decide +kernel
theorem w210_846 : ma_W d 210 Q 846 l (.int y :: .int x :: st) H a b = ma_W d 210 Q 847 l (.int (x + y) :: st) H a b := wp_iadd f210_846
theorem f210_847 : ma_ins 210 847 = some (.iaload, 1) := by decide +kernel
theorem w210_847 : ma_W d 210 Q 847 l (.int x :: .ref i :: st) H a b = ma_ial (H.1 i) x (ma_kV d 210 Q 848 l st H a b) := wp_iald f210_847
theorem f210_848 : ma_ins 210 848 = some (.aload_n 0, 1) := by decide +kernel
theorem w210_848 : ma_W d 210 Q 848 (some (.ref i) :: l) st H a b = ma_W d 210 Q 849 (some (.ref i) :: l) (.ref i :: st) H a b := wp_aload_n (x := some i) f210_848 rfl
theorem f210_849 : ma_ins 210 849 = some (.iload_n 3, 1) := by decide +kernel
theorem w210_849 : ma_W d 210 Q 849 (o0 :: o1 :: o2 :: some (.int x) :: l) st H a b = ma_W d 210 Q 850 (o0 :: o1 :: o2 :: some (.int x) :: l) (.int x :: st) H a b := wp_iload_n f210_849 rfl
theorem f210_850 : ma_ins 210 850 = some (.iconst 2, 1) := by decide +kernel
theorem w210_850 : ma_W d 210 Q 850 l st H a b = ma_W d 210 Q 851 l (.int 2 :: st) H a b := wp_iconst f210_850 (by decide)
theorem f210_851 : ma_ins 210 851 = some (.iadd, 1) := by decide +kernel
theorem w210_851 : ma_W d 210 Q 851 l (.int y :: .int x :: st) H a b = ma_W d 210 Q 852 l (.int (x + y) :: st) H a b := wp_iadd f210_851
theorem f210_852 : ma_ins 210 852 = some (.iaload, 1) := by decide +kernel
theorem w210_852 : ma_W d 210 Q 852 l (.int x :: .ref i :: st) H a b = ma_ial (H.1 i) x (ma_kV d 210 Q 853 l st H a b) := wp_iald f210_852
theorem f210_853 : ma_ins 210 853 = some (.invokevirtual 124, 3) := by decide +kernel
theorem w210_853 : ma_W d 210 Q 853 l (.int x1 :: .int x0 :: .ref i :: st) H a b = (ma_cat st ≤ 8 ∧ a + 0 ≤ 600000 ∧ b + 0 ≤ 7302250 ∧ ma_cv (H.1 i) 8 d 187 [.ref i, .int x0, .int x1] H (ma_kC d 210 Q 856 l st (a + 0) (b + 0))) := wc_V (ia := 187) (n := 3) (cn := 8) f210_853 (by decide +kernel) (fun _ => rfl) rfl rfl
theorem f210_856 : ma_ins 210 856 = some (.if_icmp .eq 135, 3) := by decide +kernel
theorem w210_856 : ma_W d 210 Q 856 l (.int y :: .int x :: st) H a b = ma_if (x = y) d 210 Q 991 859 l st H a b := wp_ic (id := 210) (pc := 856) (c := .eq) (off := 135) 991 f210_856 (by decide)
theorem f210_859 : ma_ins 210 859 = some (.iconst 0, 1) := by decide +kernel
theorem w210_859 : ma_W d 210 Q 859 l st H a b = ma_W d 210 Q 860 l (.int 0 :: st) H a b := wp_iconst f210_859 (by decide)
theorem f210_860 : ma_ins 210 860 = some (.ireturn, 1) := by decide +kernel
theorem w210_860 : ma_W d 210 Q 860 l [.int x] H a b = ((x = 0 ∨ x = 1) ∧ Q (some (.int x)) H) := wp_zret f210_860 rfl
theorem f210_861 : ma_ins 210 861 = some (.aload_n 1, 1) := by decide +kernel
theorem w210_861 : ma_W d 210 Q 861 (o0 :: some (.ref i) :: l) st H a b = ma_W d 210 Q 862 (o0 :: some (.ref i) :: l) (.ref i :: st) H a b := wp_aload_n (x := some i) f210_861 rfl
theorem f210_862 : ma_ins 210 862 = some (.aload_n 0, 1) := by decide +kernel
theorem w210_862 : ma_W d 210 Q 862 (some (.ref i) :: l) st H a b = ma_W d 210 Q 863 (some (.ref i) :: l) (.ref i :: st) H a b := wp_aload_n (x := some i) f210_862 rfl
theorem f210_863 : ma_ins 210 863 = some (.iload_n 3, 1) := by decide +kernel
theorem w210_863 : ma_W d 210 Q 863 (o0 :: o1 :: o2 :: some (.int x) :: l) st H a b = ma_W d 210 Q 864 (o0 :: o1 :: o2 :: some (.int x) :: l) (.int x :: st) H a b := wp_iload_n f210_863 rfl
theorem f210_864 : ma_ins 210 864 = some (.iconst 1, 1) := by decide +kernel
theorem w210_864 : ma_W d 210 Q 864 l st H a b = ma_W d 210 Q 865 l (.int 1 :: st) H a b := wp_iconst f210_864 (by decide)
theorem f210_865 : ma_ins 210 865 = some (.iadd, 1) := by decide +kernel
theorem w210_865 : ma_W d 210 Q 865 l (.int y :: .int x :: st) H a b = ma_W d 210 Q 866 l (.int (x + y) :: st) H a b := wp_iadd f210_865
theorem f210_866 : ma_ins 210 866 = some (.iaload, 1) := by decide +kernel
theorem w210_866 : ma_W d 210 Q 866 l (.int x :: .ref i :: st) H a b = ma_ial (H.1 i) x (ma_kV d 210 Q 867 l st H a b) := wp_iald f210_866
theorem f210_867 : ma_ins 210 867 = some (.invokevirtual 125, 3) := by decide +kernel
theorem w210_867 : ma_W d 210 Q 867 l (.int x0 :: .ref i :: st) H a b = (ma_cat st ≤ 8 ∧ a + 0 ≤ 600000 ∧ b + 0 ≤ 7302250 ∧ ma_cv (H.1 i) 7 d 105 [.ref i, .int x0] H (ma_kC d 210 Q 870 l st (a + 0) (b + 0))) := wc_V (ia := 105) (n := 2) (cn := 7) f210_867 (by decide +kernel) (fun _ => rfl) rfl rfl
theorem f210_870 : ma_ins 210 870 = some (.aload_n 2, 1) := by decide +kernel
theorem w210_870 : ma_W d 210 Q 870 (o0 :: o1 :: some (.ref i) :: l) st H a b = ma_W d 210 Q 871 (o0 :: o1 :: some (.ref i) :: l) (.ref i :: st) H a b := wp_aload_n (x := some i) f210_870 rfl
theorem f210_871 : ma_ins 210 871 = some (.aload_n 0, 1) := by decide +kernel
theorem w210_871 : ma_W d 210 Q 871 (some (.ref i) :: l) st H a b = ma_W d 210 Q 872 (some (.ref i) :: l) (.ref i :: st) H a b := wp_aload_n (x := some i) f210_871 rfl
theorem f210_872 : ma_ins 210 872 = some (.iload_n 3, 1) := by decide +kernel
theorem w210_872 : ma_W d 210 Q 872 (o0 :: o1 :: o2 :: some (.int x) :: l) st H a b = ma_W d 210 Q 873 (o0 :: o1 :: o2 :: some (.int x) :: l) (.int x :: st) H a b := wp_iload_n f210_872 rfl
theorem f210_873 : ma_ins 210 873 = some (.iconst 1, 1) := by decide +kernel
theorem w210_873 : ma_W d 210 Q 873 l st H a b = ma_W d 210 Q 874 l (.int 1 :: st) H a b := wp_iconst f210_873 (by decide)
theorem f210_874 : ma_ins 210 874 = some (.iadd, 1) := by decide +kernel
theorem w210_874 : ma_W d 210 Q 874 l (.int y :: .int x :: st) H a b = ma_W d 210 Q 875 l (.int (x + y) :: st) H a b := wp_iadd f210_874
theorem f210_875 : ma_ins 210 875 = some (.iaload, 1) := by decide +kernel
theorem w210_875 : ma_W d 210 Q 875 l (.int x :: .ref i :: st) H a b = ma_ial (H.1 i) x (ma_kV d 210 Q 876 l st H a b) := wp_iald f210_875
theorem f210_876 : ma_ins 210 876 = some (.invokevirtual 129, 3) := by decide +kernel
theorem w210_876 : ma_W d 210 Q 876 l (.int x0 :: .ref i :: st) H a b = (ma_cat st ≤ 8 ∧ a + 0 ≤ 600000 ∧ b + 0 ≤ 7302250 ∧ ma_cv (H.1 i) 8 d 188 [.ref i, .int x0] H (ma_kC d 210 Q 879 l st (a + 0) (b + 0))) := wc_V (ia := 188) (n := 2) (cn := 8) f210_876 (by decide +kernel) (fun _ => rfl) rfl rfl
theorem f210_879 : ma_ins 210 879 = some (.lcmp, 1) := by decide +kernel
theorem w210_879 : ma_W d 210 Q 879 l (.long v :: .long u :: st) H a b = ma_W d 210 Q 880 l (.int (lg_cmp u v) :: st) H a b := wp_lcmp f210_879
theorem f210_880 : ma_ins 210 880 = some (.ifCond .eq 111, 3) := by decide +kernel
theorem w210_880 : ma_W d 210 Q 880 l (.int x :: st) H a b = ma_if (x = 0) d 210 Q 991 883 l st H a b := wp_c0 (id := 210) (pc := 880) (c := .eq) (off := 111) 991 f210_880 (by decide)
theorem f210_883 : ma_ins 210 883 = some (.iconst 0, 1) := by decide +kernel
theorem w210_883 : ma_W d 210 Q 883 l st H a b = ma_W d 210 Q 884 l (.int 0 :: st) H a b := wp_iconst f210_883 (by decide)
theorem f210_884 : ma_ins 210 884 = some (.ireturn, 1) := by decide +kernel
theorem w210_884 : ma_W d 210 Q 884 l [.int x] H a b = ((x = 0 ∨ x = 1) ∧ Q (some (.int x)) H) := wp_zret f210_884 rfl
theorem f210_885 : ma_ins 210 885 = some (.aload_n 1, 1) := by decide +kernel
theorem w210_885 : ma_W d 210 Q 885 (o0 :: some (.ref i) :: l) st H a b = ma_W d 210 Q 886 (o0 :: some (.ref i) :: l) (.ref i :: st) H a b := wp_aload_n (x := some i) f210_885 rfl
theorem f210_886 : ma_ins 210 886 = some (.aload_n 0, 1) := by decide +kernel
theorem w210_886 : ma_W d 210 Q 886 (some (.ref i) :: l) st H a b = ma_W d 210 Q 887 (some (.ref i) :: l) (.ref i :: st) H a b := wp_aload_n (x := some i) f210_886 rfl
theorem f210_887 : ma_ins 210 887 = some (.iload_n 3, 1) := by decide +kernel
theorem w210_887 : ma_W d 210 Q 887 (o0 :: o1 :: o2 :: some (.int x) :: l) st H a b = ma_W d 210 Q 888 (o0 :: o1 :: o2 :: some (.int x) :: l) (.int x :: st) H a b := wp_iload_n f210_887 rfl
theorem f210_888 : ma_ins 210 888 = some (.iconst 1, 1) := by decide +kernel
theorem w210_888 : ma_W d 210 Q 888 l st H a b = ma_W d 210 Q 889 l (.int 1 :: st) H a b := wp_iconst f210_888 (by decide)
theorem f210_889 : ma_ins 210 889 = some (.iadd, 1) := by decide +kernel
theorem w210_889 : ma_W d 210 Q 889 l (.int y :: .int x :: st) H a b = ma_W d 210 Q 890 l (.int (x + y) :: st) H a b := wp_iadd f210_889
theorem f210_890 : ma_ins 210 890 = some (.iaload, 1) := by decide +kernel
theorem w210_890 : ma_W d 210 Q 890 l (.int x :: .ref i :: st) H a b = ma_ial (H.1 i) x (ma_kV d 210 Q 891 l st H a b) := wp_iald f210_890
theorem f210_891 : ma_ins 210 891 = some (.invokevirtual 130, 3) := by decide +kernel
theorem w210_891 : ma_W d 210 Q 891 l (.int x0 :: .ref i :: st) H a b = (ma_cat st ≤ 8 ∧ a + 22 ≤ 600000 ∧ b + 163 ≤ 7302250 ∧ ma_cv (H.1 i) 7 d 106 [.ref i, .int x0] H (ma_kC d 210 Q 894 l st (a + 22) (b + 163))) := wc_V (ia := 106) (n := 2) (cn := 7) f210_891 (by decide +kernel) (fun _ => rfl) rfl rfl
theorem f210_894 : ma_ins 210 894 = some (.aload_n 2, 1) := by decide +kernel
theorem w210_894 : ma_W d 210 Q 894 (o0 :: o1 :: some (.ref i) :: l) st H a b = ma_W d 210 Q 895 (o0 :: o1 :: some (.ref i) :: l) (.ref i :: st) H a b := wp_aload_n (x := some i) f210_894 rfl
theorem f210_895 : ma_ins 210 895 = some (.aload_n 0, 1) := by decide +kernel
theorem w210_895 : ma_W d 210 Q 895 (some (.ref i) :: l) st H a b = ma_W d 210 Q 896 (some (.ref i) :: l) (.ref i :: st) H a b := wp_aload_n (x := some i) f210_895 rfl
theorem f210_896 : ma_ins 210 896 = some (.iload_n 3, 1) := by decide +kernel
theorem w210_896 : ma_W d 210 Q 896 (o0 :: o1 :: o2 :: some (.int x) :: l) st H a b = ma_W d 210 Q 897 (o0 :: o1 :: o2 :: some (.int x) :: l) (.int x :: st) H a b := wp_iload_n f210_896 rfl
theorem f210_897 : ma_ins 210 897 = some (.iconst 1, 1) := by decide +kernel
theorem w210_897 : ma_W d 210 Q 897 l st H a b = ma_W d 210 Q 898 l (.int 1 :: st) H a b := wp_iconst f210_897 (by decide)
theorem f210_898 : ma_ins 210 898 = some (.iadd, 1) := by decide +kernel
theorem w210_898 : ma_W d 210 Q 898 l (.int y :: .int x :: st) H a b = ma_W d 210 Q 899 l (.int (x + y) :: st) H a b := wp_iadd f210_898
theorem f210_899 : ma_ins 210 899 = some (.iaload, 1) := by decide +kernel
theorem w210_899 : ma_W d 210 Q 899 l (.int x :: .ref i :: st) H a b = ma_ial (H.1 i) x (ma_kV d 210 Q 900 l st H a b) := wp_iald f210_899
theorem f210_900 : ma_ins 210 900 = some (.invokevirtual 133, 3) := by decide +kernel
theorem w210_900 : ma_W d 210 Q 900 l (.int x0 :: .ref i :: st) H a b = (ma_cat st ≤ 8 ∧ a + 0 ≤ 600000 ∧ b + 0 ≤ 7302250 ∧ ma_cv (H.1 i) 8 d 189 [.ref i, .int x0] H (ma_kC d 210 Q 903 l st (a + 0) (b + 0))) := wc_V (ia := 189) (n := 2) (cn := 8) f210_900 (by decide +kernel) (fun _ => rfl) rfl rfl
theorem f210_903 : ma_ins 210 903 = some (.if_icmp .eq 88, 3) := by decide +kernel
theorem w210_903 : ma_W d 210 Q 903 l (.int y :: .int x :: st) H a b = ma_if (x = y) d 210 Q 991 906 l st H a b := wp_ic (id := 210) (pc := 903) (c := .eq) (off := 88) 991 f210_903 (by decide)
theorem f210_906 : ma_ins 210 906 = some (.iconst 0, 1) := by decide +kernel
theorem w210_906 : ma_W d 210 Q 906 l st H a b = ma_W d 210 Q 907 l (.int 0 :: st) H a b := wp_iconst f210_906 (by decide)
theorem f210_907 : ma_ins 210 907 = some (.ireturn, 1) := by decide +kernel
theorem w210_907 : ma_W d 210 Q 907 l [.int x] H a b = ((x = 0 ∨ x = 1) ∧ Q (some (.int x)) H) := wp_zret f210_907 rfl
theorem f210_908 : ma_ins 210 908 = some (.aload_n 1, 1) := by decide +kernel
theorem w210_908 : ma_W d 210 Q 908 (o0 :: some (.ref i) :: l) st H a b = ma_W d 210 Q 909 (o0 :: some (.ref i) :: l) (.ref i :: st) H a b := wp_aload_n (x := some i) f210_908 rfl
theorem f210_909 : ma_ins 210 909 = some (.aload_n 0, 1) := by decide +kernel
theorem w210_909 : ma_W d 210 Q 909 (some (.ref i) :: l) st H a b = ma_W d 210 Q 910 (some (.ref i) :: l) (.ref i :: st) H a b := wp_aload_n (x := some i) f210_909 rfl
theorem f210_910 : ma_ins 210 910 = some (.iload_n 3, 1) := by decide +kernel
theorem w210_910 : ma_W d 210 Q 910 (o0 :: o1 :: o2 :: some (.int x) :: l) st H a b = ma_W d 210 Q 911 (o0 :: o1 :: o2 :: some (.int x) :: l) (.int x :: st) H a b := wp_iload_n f210_910 rfl
theorem f210_911 : ma_ins 210 911 = some (.iconst 1, 1) := by decide +kernel
theorem w210_911 : ma_W d 210 Q 911 l st H a b = ma_W d 210 Q 912 l (.int 1 :: st) H a b := wp_iconst f210_911 (by decide)
theorem f210_912 : ma_ins 210 912 = some (.iadd, 1) := by decide +kernel
theorem w210_912 : ma_W d 210 Q 912 l (.int y :: .int x :: st) H a b = ma_W d 210 Q 913 l (.int (x + y) :: st) H a b := wp_iadd f210_912
theorem f210_913 : ma_ins 210 913 = some (.iaload, 1) := by decide +kernel
theorem w210_913 : ma_W d 210 Q 913 l (.int x :: .ref i :: st) H a b = ma_ial (H.1 i) x (ma_kV d 210 Q 914 l st H a b) := wp_iald f210_913
theorem f210_914 : ma_ins 210 914 = some (.invokevirtual 134, 3) := by decide +kernel
theorem w210_914 : ma_W d 210 Q 914 l (.int x0 :: .ref i :: st) H a b = (ma_cat st ≤ 8 ∧ a + 0 ≤ 600000 ∧ b + 0 ≤ 7302250 ∧ ma_cv (H.1 i) 7 d 107 [.ref i, .int x0] H (ma_kC d 210 Q 917 l st (a + 0) (b + 0))) := wc_V (ia := 107) (n := 2) (cn := 7) f210_914 (by decide +kernel) (fun _ => rfl) rfl rfl
theorem f210_917 : ma_ins 210 917 = some (.aload_n 2, 1) := by decide +kernel
theorem w210_917 : ma_W d 210 Q 917 (o0 :: o1 :: some (.ref i) :: l) st H a b = ma_W d 210 Q 918 (o0 :: o1 :: some (.ref i) :: l) (.ref i :: st) H a b := wp_aload_n (x := some i) f210_917 rfl
theorem f210_918 : ma_ins 210 918 = some (.aload_n 0, 1) := by decide +kernel
theorem w210_918 : ma_W d 210 Q 918 (some (.ref i) :: l) st H a b = ma_W d 210 Q 919 (some (.ref i) :: l) (.ref i :: st) H a b := wp_aload_n (x := some i) f210_918 rfl
theorem f210_919 : ma_ins 210 919 = some (.iload_n 3, 1) := by decide +kernel
theorem w210_919 : ma_W d 210 Q 919 (o0 :: o1 :: o2 :: some (.int x) :: l) st H a b = ma_W d 210 Q 920 (o0 :: o1 :: o2 :: some (.int x) :: l) (.int x :: st) H a b := wp_iload_n f210_919 rfl
theorem f210_920 : ma_ins 210 920 = some (.iconst 1, 1) := by decide +kernel
theorem w210_920 : ma_W d 210 Q 920 l st H a b = ma_W d 210 Q 921 l (.int 1 :: st) H a b := wp_iconst f210_920 (by decide)
theorem f210_921 : ma_ins 210 921 = some (.iadd, 1) := by decide +kernel
theorem w210_921 : ma_W d 210 Q 921 l (.int y :: .int x :: st) H a b = ma_W d 210 Q 922 l (.int (x + y) :: st) H a b := wp_iadd f210_921
theorem f210_922 : ma_ins 210 922 = some (.iaload, 1) := by decide +kernel
theorem w210_922 : ma_W d 210 Q 922 l (.int x :: .ref i :: st) H a b = ma_ial (H.1 i) x (ma_kV d 210 Q 923 l st H a b) := wp_iald f210_922
theorem f210_923 : ma_ins 210 923 = some (.invokevirtual 137, 3) := by decide +kernel
theorem w210_923 : ma_W d 210 Q 923 l (.int x0 :: .ref i :: st) H a b = (ma_cat st ≤ 8 ∧ a + 0 ≤ 600000 ∧ b + 0 ≤ 7302250 ∧ ma_cv (H.1 i) 8 d 190 [.ref i, .int x0] H (ma_kC d 210 Q 926 l st (a + 0) (b + 0))) := wc_V (ia := 190) (n := 2) (cn := 8) f210_923 (by decide +kernel) (fun _ => rfl) rfl rfl
theorem f210_926 : ma_ins 210 926 = some (.if_icmp .eq 65, 3) := by decide +kernel
theorem w210_926 : ma_W d 210 Q 926 l (.int y :: .int x :: st) H a b = ma_if (x = y) d 210 Q 991 929 l st H a b := wp_ic (id := 210) (pc := 926) (c := .eq) (off := 65) 991 f210_926 (by decide)
theorem f210_929 : ma_ins 210 929 = some (.iconst 0, 1) := by decide +kernel
theorem w210_929 : ma_W d 210 Q 929 l st H a b = ma_W d 210 Q 930 l (.int 0 :: st) H a b := wp_iconst f210_929 (by decide)
theorem f210_930 : ma_ins 210 930 = some (.ireturn, 1) := by decide +kernel
theorem w210_930 : ma_W d 210 Q 930 l [.int x] H a b = ((x = 0 ∨ x = 1) ∧ Q (some (.int x)) H) := wp_zret f210_930 rfl
theorem f210_931 : ma_ins 210 931 = some (.aload_n 1, 1) := by decide +kernel
theorem w210_931 : ma_W d 210 Q 931 (o0 :: some (.ref i) :: l) st H a b = ma_W d 210 Q 932 (o0 :: some (.ref i) :: l) (.ref i :: st) H a b := wp_aload_n (x := some i) f210_931 rfl
theorem f210_932 : ma_ins 210 932 = some (.aload_n 0, 1) := by decide +kernel
theorem w210_932 : ma_W d 210 Q 932 (some (.ref i) :: l) st H a b = ma_W d 210 Q 933 (some (.ref i) :: l) (.ref i :: st) H a b := wp_aload_n (x := some i) f210_932 rfl
theorem f210_933 : ma_ins 210 933 = some (.iload_n 3, 1) := by decide +kernel
theorem w210_933 : ma_W d 210 Q 933 (o0 :: o1 :: o2 :: some (.int x) :: l) st H a b = ma_W d 210 Q 934 (o0 :: o1 :: o2 :: some (.int x) :: l) (.int x :: st) H a b := wp_iload_n f210_933 rfl
theorem f210_934 : ma_ins 210 934 = some (.iconst 1, 1) := by decide +kernel
theorem w210_934 : ma_W d 210 Q 934 l st H a b = ma_W d 210 Q 935 l (.int 1 :: st) H a b := wp_iconst f210_934 (by decide)
theorem f210_935 : ma_ins 210 935 = some (.iadd, 1) := by decide +kernel
theorem w210_935 : ma_W d 210 Q 935 l (.int y :: .int x :: st) H a b = ma_W d 210 Q 936 l (.int (x + y) :: st) H a b := wp_iadd f210_935
theorem f210_936 : ma_ins 210 936 = some (.iaload, 1) := by decide +kernel
theorem w210_936 : ma_W d 210 Q 936 l (.int x :: .ref i :: st) H a b = ma_ial (H.1 i) x (ma_kV d 210 Q 937 l st H a b) := wp_iald f210_936
theorem f210_937 : ma_ins 210 937 = some (.invokevirtual 138, 3) := by decide +kernel
theorem w210_937 : ma_W d 210 Q 937 l (.int x0 :: .ref i :: st) H a b = (ma_cat st ≤ 8 ∧ a + 0 ≤ 600000 ∧ b + 0 ≤ 7302250 ∧ ma_cv (H.1 i) 7 d 108 [.ref i, .int x0] H (ma_kC d 210 Q 940 l st (a + 0) (b + 0))) := wc_V (ia := 108) (n := 2) (cn := 7) f210_937 (by decide +kernel) (fun _ => rfl) rfl rfl
theorem f210_940 : ma_ins 210 940 = some (.aload_n 2, 1) := by decide +kernel
theorem w210_940 : ma_W d 210 Q 940 (o0 :: o1 :: some (.ref i) :: l) st H a b = ma_W d 210 Q 941 (o0 :: o1 :: some (.ref i) :: l) (.ref i :: st) H a b := wp_aload_n (x := some i) f210_940 rfl
theorem f210_941 : ma_ins 210 941 = some (.aload_n 0, 1) := by decide +kernel
theorem w210_941 : ma_W d 210 Q 941 (some (.ref i) :: l) st H a b = ma_W d 210 Q 942 (some (.ref i) :: l) (.ref i :: st) H a b := wp_aload_n (x := some i) f210_941 rfl
theorem f210_942 : ma_ins 210 942 = some (.iload_n 3, 1) := by decide +kernel
theorem w210_942 : ma_W d 210 Q 942 (o0 :: o1 :: o2 :: some (.int x) :: l) st H a b = ma_W d 210 Q 943 (o0 :: o1 :: o2 :: some (.int x) :: l) (.int x :: st) H a b := wp_iload_n f210_942 rfl
theorem f210_943 : ma_ins 210 943 = some (.iconst 1, 1) := by decide +kernel
theorem w210_943 : ma_W d 210 Q 943 l st H a b = ma_W d 210 Q 944 l (.int 1 :: st) H a b := wp_iconst f210_943 (by decide)
theorem f210_944 : ma_ins 210 944 = some (.iadd, 1) := by decide +kernel
theorem w210_944 : ma_W d 210 Q 944 l (.int y :: .int x :: st) H a b = ma_W d 210 Q 945 l (.int (x + y) :: st) H a b := wp_iadd f210_944
theorem f210_945 : ma_ins 210 945 = some (.iaload, 1) := by decide +kernel
theorem w210_945 : ma_W d 210 Q 945 l (.int x :: .ref i :: st) H a b = ma_ial (H.1 i) x (ma_kV d 210 Q 946 l st H a b) := wp_iald f210_945
theorem f210_946 : ma_ins 210 946 = some (.invokevirtual 141, 3) := by decide +kernel
theorem w210_946 : ma_W d 210 Q 946 l (.int x0 :: .ref i :: st) H a b = (ma_cat st ≤ 8 ∧ a + 0 ≤ 600000 ∧ b + 0 ≤ 7302250 ∧ ma_cv (H.1 i) 8 d 191 [.ref i, .int x0] H (ma_kC d 210 Q 949 l st (a + 0) (b + 0))) := wc_V (ia := 191) (n := 2) (cn := 8) f210_946 (by decide +kernel) (fun _ => rfl) rfl rfl
theorem f210_949 : ma_ins 210 949 = some (.if_icmp .eq 42, 3) := by decide +kernel
theorem w210_949 : ma_W d 210 Q 949 l (.int y :: .int x :: st) H a b = ma_if (x = y) d 210 Q 991 952 l st H a b := wp_ic (id := 210) (pc := 949) (c := .eq) (off := 42) 991 f210_949 (by decide)
theorem f210_952 : ma_ins 210 952 = some (.iconst 0, 1) := by decide +kernel
theorem w210_952 : ma_W d 210 Q 952 l st H a b = ma_W d 210 Q 953 l (.int 0 :: st) H a b := wp_iconst f210_952 (by decide)
theorem f210_953 : ma_ins 210 953 = some (.ireturn, 1) := by decide +kernel
theorem w210_953 : ma_W d 210 Q 953 l [.int x] H a b = ((x = 0 ∨ x = 1) ∧ Q (some (.int x)) H) := wp_zret f210_953 rfl
theorem f210_954 : ma_ins 210 954 = some (.aload_n 1, 1) := by decide +kernel
theorem w210_954 : ma_W d 210 Q 954 (o0 :: some (.ref i) :: l) st H a b = ma_W d 210 Q 955 (o0 :: some (.ref i) :: l) (.ref i :: st) H a b := wp_aload_n (x := some i) f210_954 rfl
theorem f210_955 : ma_ins 210 955 = some (.aload_n 0, 1) := by decide +kernel
theorem w210_955 : ma_W d 210 Q 955 (some (.ref i) :: l) st H a b = ma_W d 210 Q 956 (some (.ref i) :: l) (.ref i :: st) H a b := wp_aload_n (x := some i) f210_955 rfl
theorem f210_956 : ma_ins 210 956 = some (.iload_n 3, 1) := by decide +kernel
theorem w210_956 : ma_W d 210 Q 956 (o0 :: o1 :: o2 :: some (.int x) :: l) st H a b = ma_W d 210 Q 957 (o0 :: o1 :: o2 :: some (.int x) :: l) (.int x :: st) H a b := wp_iload_n f210_956 rfl
theorem f210_957 : ma_ins 210 957 = some (.iconst 1, 1) := by decide +kernel
theorem w210_957 : ma_W d 210 Q 957 l st H a b = ma_W d 210 Q 958 l (.int 1 :: st) H a b := wp_iconst f210_957 (by decide)
theorem f210_958 : ma_ins 210 958 = some (.iadd, 1) := by decide +kernel
theorem w210_958 : ma_W d 210 Q 958 l (.int y :: .int x :: st) H a b = ma_W d 210 Q 959 l (.int (x + y) :: st) H a b := wp_iadd f210_958
theorem f210_959 : ma_ins 210 959 = some (.iaload, 1) := by decide +kernel
theorem w210_959 : ma_W d 210 Q 959 l (.int x :: .ref i :: st) H a b = ma_ial (H.1 i) x (ma_kV d 210 Q 960 l st H a b) := wp_iald f210_959
theorem f210_960 : ma_ins 210 960 = some (.invokevirtual 142, 3) := by decide +kernel
theorem w210_960 : ma_W d 210 Q 960 l (.int x0 :: .ref i :: st) H a b = (ma_cat st ≤ 8 ∧ a + 0 ≤ 600000 ∧ b + 0 ≤ 7302250 ∧ ma_cv (H.1 i) 7 d 109 [.ref i, .int x0] H (ma_kC d 210 Q 963 l st (a + 0) (b + 0))) := wc_V (ia := 109) (n := 2) (cn := 7) f210_960 (by decide +kernel) (fun _ => rfl) rfl rfl
theorem f210_963 : ma_ins 210 963 = some (.aload_n 2, 1) := by decide +kernel
theorem w210_963 : ma_W d 210 Q 963 (o0 :: o1 :: some (.ref i) :: l) st H a b = ma_W d 210 Q 964 (o0 :: o1 :: some (.ref i) :: l) (.ref i :: st) H a b := wp_aload_n (x := some i) f210_963 rfl
theorem f210_964 : ma_ins 210 964 = some (.aload_n 0, 1) := by decide +kernel
theorem w210_964 : ma_W d 210 Q 964 (some (.ref i) :: l) st H a b = ma_W d 210 Q 965 (some (.ref i) :: l) (.ref i :: st) H a b := wp_aload_n (x := some i) f210_964 rfl
theorem f210_965 : ma_ins 210 965 = some (.iload_n 3, 1) := by decide +kernel
theorem w210_965 : ma_W d 210 Q 965 (o0 :: o1 :: o2 :: some (.int x) :: l) st H a b = ma_W d 210 Q 966 (o0 :: o1 :: o2 :: some (.int x) :: l) (.int x :: st) H a b := wp_iload_n f210_965 rfl
theorem f210_966 : ma_ins 210 966 = some (.iconst 1, 1) := by decide +kernel
theorem w210_966 : ma_W d 210 Q 966 l st H a b = ma_W d 210 Q 967 l (.int 1 :: st) H a b := wp_iconst f210_966 (by decide)
theorem f210_967 : ma_ins 210 967 = some (.iadd, 1) := by decide +kernel
theorem w210_967 : ma_W d 210 Q 967 l (.int y :: .int x :: st) H a b = ma_W d 210 Q 968 l (.int (x + y) :: st) H a b := wp_iadd f210_967
theorem f210_968 : ma_ins 210 968 = some (.iaload, 1) := by decide +kernel
theorem w210_968 : ma_W d 210 Q 968 l (.int x :: .ref i :: st) H a b = ma_ial (H.1 i) x (ma_kV d 210 Q 969 l st H a b) := wp_iald f210_968
theorem f210_969 : ma_ins 210 969 = some (.invokevirtual 145, 3) := by decide +kernel
theorem w210_969 : ma_W d 210 Q 969 l (.int x0 :: .ref i :: st) H a b = (ma_cat st ≤ 8 ∧ a + 0 ≤ 600000 ∧ b + 0 ≤ 7302250 ∧ ma_cv (H.1 i) 8 d 193 [.ref i, .int x0] H (ma_kC d 210 Q 972 l st (a + 0) (b + 0))) := wc_V (ia := 193) (n := 2) (cn := 8) f210_969 (by decide +kernel) (fun _ => rfl) rfl rfl
theorem f210_972 : ma_ins 210 972 = some (.if_icmp .eq 19, 3) := by decide +kernel
theorem w210_972 : ma_W d 210 Q 972 l (.int y :: .int x :: st) H a b = ma_if (x = y) d 210 Q 991 975 l st H a b := wp_ic (id := 210) (pc := 972) (c := .eq) (off := 19) 991 f210_972 (by decide)
theorem f210_975 : ma_ins 210 975 = some (.iconst 0, 1) := by decide +kernel
theorem w210_975 : ma_W d 210 Q 975 l st H a b = ma_W d 210 Q 976 l (.int 0 :: st) H a b := wp_iconst f210_975 (by decide)
theorem f210_976 : ma_ins 210 976 = some (.ireturn, 1) := by decide +kernel
theorem w210_976 : ma_W d 210 Q 976 l [.int x] H a b = ((x = 0 ∨ x = 1) ∧ Q (some (.int x)) H) := wp_zret f210_976 rfl
theorem f210_977 : ma_ins 210 977 = some (.aload_n 1, 1) := by decide +kernel
theorem w210_977 : ma_W d 210 Q 977 (o0 :: some (.ref i) :: l) st H a b = ma_W d 210 Q 978 (o0 :: some (.ref i) :: l) (.ref i :: st) H a b := wp_aload_n (x := some i) f210_977 rfl
theorem f210_978 : ma_ins 210 978 = some (.invokevirtual 146, 3) := by decide +kernel
theorem w210_978 : ma_W d 210 Q 978 l (.ref i :: st) H a b = (ma_cat st ≤ 8 ∧ a + 0 ≤ 600000 ∧ b + 0 ≤ 7302250 ∧ ma_cv (H.1 i) 7 d 110 [.ref i] H (ma_kC d 210 Q 981 l st (a + 0) (b + 0))) := wc_V (ia := 110) (n := 1) (cn := 7) f210_978 (by decide +kernel) (fun _ => rfl) rfl rfl
theorem f210_981 : ma_ins 210 981 = some (.aload_n 2, 1) := by decide +kernel
theorem w210_981 : ma_W d 210 Q 981 (o0 :: o1 :: some (.ref i) :: l) st H a b = ma_W d 210 Q 982 (o0 :: o1 :: some (.ref i) :: l) (.ref i :: st) H a b := wp_aload_n (x := some i) f210_981 rfl
theorem f210_982 : ma_ins 210 982 = some (.invokevirtual 150, 3) := by decide +kernel
theorem w210_982 : ma_W d 210 Q 982 l (.ref i :: st) H a b = (ma_cat st ≤ 8 ∧ a + 0 ≤ 600000 ∧ b + 0 ≤ 7302250 ∧ ma_cv (H.1 i) 8 d 194 [.ref i] H (ma_kC d 210 Q 985 l st (a + 0) (b + 0))) := wc_V (ia := 194) (n := 1) (cn := 8) f210_982 (by decide +kernel) (fun _ => rfl) rfl rfl
theorem f210_985 : ma_ins 210 985 = some (.lcmp, 1) := by decide +kernel
theorem w210_985 : ma_W d 210 Q 985 l (.long v :: .long u :: st) H a b = ma_W d 210 Q 986 l (.int (lg_cmp u v) :: st) H a b := wp_lcmp f210_985
theorem f210_986 : ma_ins 210 986 = some (.ifCond .eq 5, 3) := by decide +kernel
theorem w210_986 : ma_W d 210 Q 986 l (.int x :: st) H a b = ma_if (x = 0) d 210 Q 991 989 l st H a b := wp_c0 (id := 210) (pc := 986) (c := .eq) (off := 5) 991 f210_986 (by decide)
theorem f210_989 : ma_ins 210 989 = some (.iconst 0, 1) := by decide +kernel
theorem w210_989 : ma_W d 210 Q 989 l st H a b = ma_W d 210 Q 990 l (.int 0 :: st) H a b := wp_iconst f210_989 (by decide)
theorem f210_990 : ma_ins 210 990 = some (.ireturn, 1) := by decide +kernel
theorem w210_990 : ma_W d 210 Q 990 l [.int x] H a b = ((x = 0 ∨ x = 1) ∧ Q (some (.int x)) H) := wp_zret f210_990 rfl
theorem f210_991 : ma_ins 210 991 = some (.iinc 3 5, 3) := by decide +kernel
theorem w210_991 : ma_W d 210 Q 991 (o0 :: o1 :: o2 :: some (.int x) :: l) st H a b = ma_W d 210 Q 994 (o0 :: o1 :: ma_clr o2 :: some (.int (x + 5)) :: l) st H a b := wp_iinc (id := 210) (pc := 991) (k := 3) (n := 5) f210_991 (Nat.succ_lt_succ (Nat.succ_lt_succ (Nat.succ_lt_succ (Nat.zero_lt_succ _)))) rfl (by decide)
theorem f210_994 : ma_ins 210 994 = some (.goto (-976), 3) := by decide +kernel
theorem w210_994 : ma_W d 210 Q 994 l st H a b = ma_W d 210 Q 18 l st H a b := wp_goto 18 f210_994 (by decide)
theorem f210_997 : ma_ins 210 997 = some (.iconst 1, 1) := by decide +kernel
theorem w210_997 : ma_W d 210 Q 997 l st H a b = ma_W d 210 Q 998 l (.int 1 :: st) H a b := wp_iconst f210_997 (by decide)
theorem f210_998 : ma_ins 210 998 = some (.ireturn, 1) := by decide +kernel
theorem w210_998 : ma_W d 210 Q 998 l [.int x] H a b = ((x = 0 ∨ x = 1) ∧ Q (some (.int x)) H) := wp_zret f210_998 rfl
end

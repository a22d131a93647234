/-! one row an instruction (written by wip/whole/gen_rows.py) -/
section
variable {d : Nat} {Q : ma_P} {l : ma_L} {st : List Value} {H : ma_H} {a b : Nat} {x y x0 x1 x2 x3 x4 : Int32} {u v u0 u1 u2 : Int64} {i j i0 i1 i2 i3 i4 : Nat} {p q o0 o1 o2 o3 o4 o5 o6 o7 o8 o9 o10 : Option Value}
/-! 212 la_law -/
theorem f212_0 : ma_ins 212 0 = some (.new 7, 3) := by decide +kernel
theorem w212_0 : ma_W d 212 Q 0 l st H a b = (a + 1 ≤ 600000 ∧ b + 11 ≤ 7302250 ∧ ma_W d 212 Q 3 l (.ref H.2 :: st) (ma_new H (.inr (7, [.null, .null, .null, .null, .null, .null, .long 0, .long 0, .int 0, .int 0, .int 0]))) (a + 1) (b + 11)) := wp_new f212_0 (by decide +kernel) rfl rfl rfl rfl
theorem f212_3 : ma_ins 212 3 = some (.dup, 1) := by decide +kernel
theorem w212_3 : ma_W d 212 Q 3 l (.ref i :: st) H a b = ma_W d 212 Q 4 l (.ref i :: .ref i :: st) H a b := wp_dup f212_3 rfl
theorem w212_3i : ma_W d 212 Q 3 l (.int x :: st) H a b = ma_W d 212 Q 4 l (.int x :: .int x :: st) H a b := wp_dup f212_3 rfl
theorem f212_4 : ma_ins 212 4 = some (.invokespecial 9, 3) := by decide +kernel
theorem w212_4 : ma_W d 212 Q 4 l (.ref i :: st) H a b = (ma_cat st ≤ 8 ∧ a + 31 ≤ 600000 ∧ b + 393 ≤ 7302250 ∧ ma_MW d 77 [.ref i] H (ma_kC d 212 Q 7 l st (a + 31) (b + 393))) := wc_I (ia := 77) (n := 1) (cn := 7) (k := 2) f212_4 (by decide +kernel) (by decide) (fun _ => rfl) rfl rfl rfl
theorem f212_7 : ma_ins 212 7 = some (.astore_n 1, 1) := by decide +kernel
theorem w212_7 : ma_W d 212 Q 7 (o0 :: p :: l) (.ref i :: st) H a b = ma_W d 212 Q 8 (ma_clr o0 :: some (.ref i) :: l) st H a b := wp_astore_n (id := 212) (pc := 7) (k := 1) f212_7 (Nat.succ_lt_succ (Nat.zero_lt_succ _))
theorem f212_8 : ma_ins 212 8 = some (.new 10, 3) := by decide +kernel
theorem w212_8 : ma_W d 212 Q 8 l st H a b = (a + 1 ≤ 600000 ∧ b + 18 ≤ 7302250 ∧ ma_W d 212 Q 11 l (.ref H.2 :: st) (ma_new H (.inr (8, [.null, .null, .null, .null, .null, .long 0, .long 0, .int 0, .null, .int 0, .int 0, .int 0, .int 0, .long 0, .int 0, .null, .null, .null]))) (a + 1) (b + 18)) := wp_new f212_8 (by decide +kernel) rfl rfl rfl rfl
theorem f212_11 : ma_ins 212 11 = some (.dup, 1) := by decide +kernel
theorem w212_11 : ma_W d 212 Q 11 l (.ref i :: st) H a b = ma_W d 212 Q 12 l (.ref i :: .ref i :: st) H a b := wp_dup f212_11 rfl
theorem w212_11i : ma_W d 212 Q 11 l (.int x :: st) H a b = ma_W d 212 Q 12 l (.int x :: .int x :: st) H a b := wp_dup f212_11 rfl
theorem f212_12 : ma_ins 212 12 = some (.invokespecial 12, 3) := by decide +kernel
theorem w212_12 : ma_W d 212 Q 12 l (.ref i :: st) H a b = (ma_cat st ≤ 8 ∧ a + 9 ≤ 600000 ∧ b + 2445 ≤ 7302250 ∧ ma_MW d 124 [.ref i] H (ma_kC d 212 Q 15 l st (a + 9) (b + 2445))) := wc_I (ia := 124) (n := 1) (cn := 8) (k := 2) f212_12 (by decide +kernel) (by decide) (fun _ => rfl) rfl rfl rfl
theorem f212_15 : ma_ins 212 15 = some (.astore_n 2, 1) := by decide +kernel
theorem w212_15 : ma_W d 212 Q 15 (o0 :: o1 :: p :: l) (.ref i :: st) H a b = ma_W d 212 Q 16 (o0 :: ma_clr o1 :: some (.ref i) :: l) st H a b := wp_astore_n (id := 212) (pc := 15) (k := 2) f212_15 (Nat.succ_lt_succ (Nat.succ_lt_succ (Nat.zero_lt_succ _)))
theorem f212_16 : ma_ins 212 16 = some (.iconst 0, 1) := by decide +kernel
theorem w212_16 : ma_W d 212 Q 16 l st H a b = ma_W d 212 Q 17 l (.int 0 :: st) H a b := wp_iconst f212_16 (by decide)
theorem f212_17 : ma_ins 212 17 = some (.istore_n 3, 1) := by decide +kernel
theorem w212_17 : ma_W d 212 Q 17 (o0 :: o1 :: o2 :: p :: l) (.int x :: st) H a b = ma_W d 212 Q 18 (o0 :: o1 :: ma_clr o2 :: some (.int x) :: l) st H a b := wp_istore_n (id := 212) (pc := 17) (k := 3) f212_17 (Nat.succ_lt_succ (Nat.succ_lt_succ (Nat.succ_lt_succ (Nat.zero_lt_succ _))))
theorem f212_18 : ma_ins 212 18 = some (.iload_n 3, 1) := by decide +kernel
theorem w212_18 : ma_W d 212 Q 18 (o0 :: o1 :: o2 :: some (.int x) :: l) st H a b = ma_W d 212 Q 19 (o0 :: o1 :: o2 :: some (.int x) :: l) (.int x :: st) H a b := wp_iload_n f212_18 rfl
theorem f212_19 : ma_ins 212 19 = some (.aload_n 0, 1) := by decide +kernel
theorem w212_19 : ma_W d 212 Q 19 (some (.ref i) :: l) st H a b = ma_W d 212 Q 20 (some (.ref i) :: l) (.ref i :: st) H a b := wp_aload_n (x := some i) f212_19 rfl
theorem f212_20 : ma_ins 212 20 = some (.arraylength, 1) := by decide +kernel
theorem w212_20 : ma_W d 212 Q 20 l (.ref i :: st) H a b = ma_al1 (H.1 i) (ma_kV d 212 Q 21 l st H a b) := wp_alen f212_20
theorem f212_21 : ma_ins 212 21 = some (.iconst 5, 1) := by decide +kernel
theorem w212_21 : ma_W d 212 Q 21 l st H a b = ma_W d 212 Q 22 l (.int 5 :: st) H a b := wp_iconst f212_21 (by decide)
theorem f212_22 : ma_ins 212 22 = some (.isub, 1) := by decide +kernel
theorem w212_22 : ma_W d 212 Q 22 l (.int y :: .int x :: st) H a b = ma_W d 212 Q 23 l (.int (x - y) :: st) H a b := wp_isub f212_22
theorem f212_23 : ma_ins 212 23 = some (.if_icmp .gt 974, 3) := by decide +kernel
theorem w212_23 : ma_W d 212 Q 23 l (.int y :: .int x :: st) H a b = ma_if (y < x) d 212 Q 997 26 l st H a b := wp_ic (id := 212) (pc := 23) (c := .gt) (off := 974) 997 f212_23 (by decide)
theorem f212_26 : ma_ins 212 26 = some (.aload_n 0, 1) := by decide +kernel
theorem w212_26 : ma_W d 212 Q 26 (some (.ref i) :: l) st H a b = ma_W d 212 Q 27 (some (.ref i) :: l) (.ref i :: st) H a b := wp_aload_n (x := some i) f212_26 rfl
theorem f212_27 : ma_ins 212 27 = some (.iload_n 3, 1) := by decide +kernel
theorem w212_27 : ma_W d 212 Q 27 (o0 :: o1 :: o2 :: some (.int x) :: l) st H a b = ma_W d 212 Q 28 (o0 :: o1 :: o2 :: some (.int x) :: l) (.int x :: st) H a b := wp_iload_n f212_27 rfl
theorem f212_28 : ma_ins 212 28 = some (.iaload, 1) := by decide +kernel
theorem w212_28 : ma_W d 212 Q 28 l (.int x :: .ref i :: st) H a b = ma_ial (H.1 i) x (ma_kV d 212 Q 29 l st H a b) := wp_iald f212_28
theorem f212_29 : ma_ins 212 29 = some (.bipush 63, 2) := by decide +kernel
theorem w212_29 : ma_W d 212 Q 29 l st H a b = ma_W d 212 Q 31 l (.int 63 :: st) H a b := wp_bipush f212_29 (by decide)
theorem f212_31 : ma_ins 212 31 = some (.iand, 1) := by decide +kernel
theorem w212_31 : ma_W d 212 Q 31 l (.int y :: .int x :: st) H a b = ma_W d 212 Q 32 l (.int (x &&& y) :: st) H a b := wp_iand f212_31
theorem f212_32 : ma_ins 212 32 = some (.tableswitch 959 0 32 #[148, 181, 214, 247, 270, 283, 296, 319, 352, 365, 398, 431, 444, 457, 480, 493, 526, 559, 592, 645, 668, 681, 694, 717, 740, 763, 796, 829, 853, 876, 899, 922, 945], 148) := by decide +kernel
theorem w212_32 : ma_W d 212 Q 32 l (.int x :: st) H a b = ma_sw x 0 [180, 213, 246, 279, 302, 315, 328, 351, 384, 397, 430, 463, 476, 489, 512, 525, 558, 591, 624, 677, 700, 713, 726, 749, 772, 795, 828, 861, 885, 908, 931, 954, 977] 991 d 212 Q l st H a b := wp_switch _ _ f212_32 (by decide) (by decide +kernel) (by decide)
theorem f212_180 : ma_ins 212 180 = some (.aload_n 1, 1) := by decide +kernel
theorem w212_180 : ma_W d 212 Q 180 (o0 :: some (.ref i) :: l) st H a b = ma_W d 212 Q 181 (o0 :: some (.ref i) :: l) (.ref i :: st) H a b := wp_aload_n (x := some i) f212_180 rfl
theorem f212_181 : ma_ins 212 181 = some (.aload_n 0, 1) := by decide +kernel
theorem w212_181 : ma_W d 212 Q 181 (some (.ref i) :: l) st H a b = ma_W d 212 Q 182 (some (.ref i) :: l) (.ref i :: st) H a b := wp_aload_n (x := some i) f212_181 rfl
theorem f212_182 : ma_ins 212 182 = some (.iload_n 3, 1) := by decide +kernel
theorem w212_182 : ma_W d 212 Q 182 (o0 :: o1 :: o2 :: some (.int x) :: l) st H a b = ma_W d 212 Q 183 (o0 :: o1 :: o2 :: some (.int x) :: l) (.int x :: st) H a b := wp_iload_n f212_182 rfl
theorem f212_183 : ma_ins 212 183 = some (.iconst 1, 1) := by decide +kernel
theorem w212_183 : ma_W d 212 Q 183 l st H a b = ma_W d 212 Q 184 l (.int 1 :: st) H a b := wp_iconst f212_183 (by decide)
theorem f212_184 : ma_ins 212 184 = some (.iadd, 1) := by decide +kernel
theorem w212_184 : ma_W d 212 Q 184 l (.int y :: .int x :: st) H a b = ma_W d 212 Q 185 l (.int (x + y) :: st) H a b := wp_iadd f212_184
theorem f212_185 : ma_ins 212 185 = some (.iaload, 1) := by decide +kernel
theorem w212_185 : ma_W d 212 Q 185 l (.int x :: .ref i :: st) H a b = ma_ial (H.1 i) x (ma_kV d 212 Q 186 l st H a b) := wp_iald f212_185
theorem f212_186 : ma_ins 212 186 = some (.aload_n 0, 1) := by decide +kernel
theorem w212_186 : ma_W d 212 Q 186 (some (.ref i) :: l) st H a b = ma_W d 212 Q 187 (some (.ref i) :: l) (.ref i :: st) H a b := wp_aload_n (x := some i) f212_186 rfl
theorem f212_187 : ma_ins 212 187 = some (.iload_n 3, 1) := by decide +kernel
theorem w212_187 : ma_W d 212 Q 187 (o0 :: o1 :: o2 :: some (.int x) :: l) st H a b = ma_W d 212 Q 188 (o0 :: o1 :: o2 :: some (.int x) :: l) (.int x :: st) H a b := wp_iload_n f212_187 rfl
theorem f212_188 : ma_ins 212 188 = some (.iconst 2, 1) := by decide +kernel
theorem w212_188 : ma_W d 212 Q 188 l st H a b = ma_W d 212 Q 189 l (.int 2 :: st) H a b := wp_iconst f212_188 (by decide)
theorem f212_189 : ma_ins 212 189 = some (.iadd, 1) := by decide +kernel
theorem w212_189 : ma_W d 212 Q 189 l (.int y :: .int x :: st) H a b = ma_W d 212 Q 190 l (.int (x + y) :: st) H a b := wp_iadd f212_189
theorem f212_190 : ma_ins 212 190 = some (.iaload, 1) := by decide +kernel
theorem w212_190 : ma_W d 212 Q 190 l (.int x :: .ref i :: st) H a b = ma_ial (H.1 i) x (ma_kV d 212 Q 191 l st H a b) := wp_iald f212_190
theorem f212_191 : ma_ins 212 191 = some (.invokevirtual 13, 3) := by decide +kernel
theorem w212_191 : ma_W d 212 Q 191 l (.int x1 :: .int x0 :: .ref i :: st) H a b = (ma_cat st ≤ 8 ∧ a + 0 ≤ 600000 ∧ b + 0 ≤ 7302250 ∧ ma_cv (H.1 i) 7 d 78 [.ref i, .int x0, .int x1] H (ma_kC d 212 Q 194 l st (a + 0) (b + 0))) := wc_V (ia := 78) (n := 3) (cn := 7) f212_191 (by decide +kernel) (fun _ => rfl) rfl rfl
theorem f212_194 : ma_ins 212 194 = some (.aload_n 2, 1) := by decide +kernel
theorem w212_194 : ma_W d 212 Q 194 (o0 :: o1 :: some (.ref i) :: l) st H a b = ma_W d 212 Q 195 (o0 :: o1 :: some (.ref i) :: l) (.ref i :: st) H a b := wp_aload_n (x := some i) f212_194 rfl
theorem f212_195 : ma_ins 212 195 = some (.aload_n 0, 1) := by decide +kernel
theorem w212_195 : ma_W d 212 Q 195 (some (.ref i) :: l) st H a b = ma_W d 212 Q 196 (some (.ref i) :: l) (.ref i :: st) H a b := wp_aload_n (x := some i) f212_195 rfl
theorem f212_196 : ma_ins 212 196 = some (.iload_n 3, 1) := by decide +kernel
theorem w212_196 : ma_W d 212 Q 196 (o0 :: o1 :: o2 :: some (.int x) :: l) st H a b = ma_W d 212 Q 197 (o0 :: o1 :: o2 :: some (.int x) :: l) (.int x :: st) H a b := wp_iload_n f212_196 rfl
theorem f212_197 : ma_ins 212 197 = some (.iconst 1, 1) := by decide +kernel
theorem w212_197 : ma_W d 212 Q 197 l st H a b = ma_W d 212 Q 198 l (.int 1 :: st) H a b := wp_iconst f212_197 (by decide)
theorem f212_198 : ma_ins 212 198 = some (.iadd, 1) := by decide +kernel
theorem w212_198 : ma_W d 212 Q 198 l (.int y :: .int x :: st) H a b = ma_W d 212 Q 199 l (.int (x + y) :: st) H a b := wp_iadd f212_198
theorem f212_199 : ma_ins 212 199 = some (.iaload, 1) := by decide +kernel
theorem w212_199 : ma_W d 212 Q 199 l (.int x :: .ref i :: st) H a b = ma_ial (H.1 i) x (ma_kV d 212 Q 200 l st H a b) := wp_iald f212_199
theorem f212_200 : ma_ins 212 200 = some (.aload_n 0, 1) := by decide +kernel
theorem w212_200 : ma_W d 212 Q 200 (some (.ref i) :: l) st H a b = ma_W d 212 Q 201 (some (.ref i) :: l) (.ref i :: st) H a b := wp_aload_n (x := some i) f212_200 rfl
theorem f212_201 : ma_ins 212 201 = some (.iload_n 3, 1) := by decide +kernel
theorem w212_201 : ma_W d 212 Q 201 (o0 :: o1 :: o2 :: some (.int x) :: l) st H a b = ma_W d 212 Q 202 (o0 :: o1 :: o2 :: some (.int x) :: l) (.int x :: st) H a b := wp_iload_n f212_201 rfl
theorem f212_202 : ma_ins 212 202 = some (.iconst 2, 1) := by decide +kernel
theorem w212_202 : ma_W d 212 Q 202 l st H a b = ma_W d 212 Q 203 l (.int 2 :: st) H a b := wp_iconst f212_202 (by decide)
theorem f212_203 : ma_ins 212 203 = some (.iadd, 1) := by decide +kernel
theorem w212_203 : ma_W d 212 Q 203 l (.int y :: .int x :: st) H a b = ma_W d 212 Q 204 l (.int (x + y) :: st) H a b := wp_iadd f212_203
theorem f212_204 : ma_ins 212 204 = some (.iaload, 1) := by decide +kernel
theorem w212_204 : ma_W d 212 Q 204 l (.int x :: .ref i :: st) H a b = ma_ial (H.1 i) x (ma_kV d 212 Q 205 l st H a b) := wp_iald f212_204
theorem f212_205 : ma_ins 212 205 = some (.invokevirtual 17, 3) := by decide +kernel
theorem w212_205 : ma_W d 212 Q 205 l (.int x1 :: .int x0 :: .ref i :: st) H a b = (ma_cat st ≤ 8 ∧ a + 0 ≤ 600000 ∧ b + 0 ≤ 7302250 ∧ ma_cv (H.1 i) 8 d 134 [.ref i, .int x0, .int x1] H (ma_kC d 212 Q 208 l st (a + 0) (b + 0))) := wc_V (ia := 134) (n := 3) (cn := 8) f212_205 (by decide +kernel) (fun _ => rfl) rfl rfl
theorem f212_208 : ma_ins 212 208 = some (.if_icmp .eq 783, 3) := by decide +kernel
theorem w212_208 : ma_W d 212 Q 208 l (.int y :: .int x :: st) H a b = ma_if (x = y) d 212 Q 991 211 l st H a b := wp_ic (id := 212) (pc := 208) (c := .eq) (off := 783) 991 f212_208 (by decide)
theorem f212_211 : ma_ins 212 211 = some (.iconst 0, 1) := by decide +kernel
theorem w212_211 : ma_W d 212 Q 211 l st H a b = ma_W d 212 Q 212 l (.int 0 :: st) H a b := wp_iconst f212_211 (by decide)
theorem f212_212 : ma_ins 212 212 = some (.ireturn, 1) := by decide +kernel
theorem w212_212 : ma_W d 212 Q 212 l [.int x] H a b = ((x = 0 ∨ x = 1) ∧ Q (some (.int x)) H) := wp_zret f212_212 rfl
theorem f212_213 : ma_ins 212 213 = some (.aload_n 1, 1) := by decide +kernel
theorem w212_213 : ma_W d 212 Q 213 (o0 :: some (.ref i) :: l) st H a b = ma_W d 212 Q 214 (o0 :: some (.ref i) :: l) (.ref i :: st) H a b := wp_aload_n (x := some i) f212_213 rfl
theorem f212_214 : ma_ins 212 214 = some (.aload_n 0, 1) := by decide +kernel
theorem w212_214 : ma_W d 212 Q 214 (some (.ref i) :: l) st H a b = ma_W d 212 Q 215 (some (.ref i) :: l) (.ref i :: st) H a b := wp_aload_n (x := some i) f212_214 rfl
theorem f212_215 : ma_ins 212 215 = some (.iload_n 3, 1) := by decide +kernel
theorem w212_215 : ma_W d 212 Q 215 (o0 :: o1 :: o2 :: some (.int x) :: l) st H a b = ma_W d 212 Q 216 (o0 :: o1 :: o2 :: some (.int x) :: l) (.int x :: st) H a b := wp_iload_n f212_215 rfl
theorem f212_216 : ma_ins 212 216 = some (.iconst 1, 1) := by decide +kernel
theorem w212_216 : ma_W d 212 Q 216 l st H a b = ma_W d 212 Q 217 l (.int 1 :: st) H a b := wp_iconst f212_216 (by decide)
theorem f212_217 : ma_ins 212 217 = some (.iadd, 1) := by decide +kernel
theorem w212_217 : ma_W d 212 Q 217 l (.int y :: .int x :: st) H a b = ma_W d 212 Q 218 l (.int (x + y) :: st) H a b := wp_iadd f212_217
theorem f212_218 : ma_ins 212 218 = some (.iaload, 1) := by decide +kernel
theorem w212_218 : ma_W d 212 Q 218 l (.int x :: .ref i :: st) H a b = ma_ial (H.1 i) x (ma_kV d 212 Q 219 l st H a b) := wp_iald f212_218
theorem f212_219 : ma_ins 212 219 = some (.aload_n 0, 1) := by decide +kernel
theorem w212_219 : ma_W d 212 Q 219 (some (.ref i) :: l) st H a b = ma_W d 212 Q 220 (some (.ref i) :: l) (.ref i :: st) H a b := wp_aload_n (x := some i) f212_219 rfl
theorem f212_220 : ma_ins 212 220 = some (.iload_n 3, 1) := by decide +kernel
theorem w212_220 : ma_W d 212 Q 220 (o0 :: o1 :: o2 :: some (.int x) :: l) st H a b = ma_W d 212 Q 221 (o0 :: o1 :: o2 :: some (.int x) :: l) (.int x :: st) H a b := wp_iload_n f212_220 rfl
theorem f212_221 : ma_ins 212 221 = some (.iconst 2, 1) := by decide +kernel
theorem w212_221 : ma_W d 212 Q 221 l st H a b = ma_W d 212 Q 222 l (.int 2 :: st) H a b := wp_iconst f212_221 (by decide)
theorem f212_222 : ma_ins 212 222 = some (.iadd, 1) := by decide +kernel
theorem w212_222 : ma_W d 212 Q 222 l (.int y :: .int x :: st) H a b = ma_W d 212 Q 223 l (.int (x + y) :: st) H a b := wp_iadd f212_222
theorem f212_223 : ma_ins 212 223 = some (.iaload, 1) := by decide +kernel
theorem w212_223 : ma_W d 212 Q 223 l (.int x :: .ref i :: st) H a b = ma_ial (H.1 i) x (ma_kV d 212 Q 224 l st H a b) := wp_iald f212_223
theorem f212_224 : ma_ins 212 224 = some (.invokevirtual 18, 3) := by decide +kernel
theorem w212_224 : ma_W d 212 Q 224 l (.int x1 :: .int x0 :: .ref i :: st) H a b = (ma_cat st ≤ 8 ∧ a + 0 ≤ 600000 ∧ b + 0 ≤ 7302250 ∧ ma_cv (H.1 i) 7 d 79 [.ref i, .int x0, .int x1] H (ma_kC d 212 Q 227 l st (a + 0) (b + 0))) := wc_V (ia := 79) (n := 3) (cn := 7) f212_224 (by decide +kernel) (fun _ => rfl) rfl rfl
theorem f212_227 : ma_ins 212 227 = some (.aload_n 2, 1) := by decide +kernel
theorem w212_227 : ma_W d 212 Q 227 (o0 :: o1 :: some (.ref i) :: l) st H a b = ma_W d 212 Q 228 (o0 :: o1 :: some (.ref i) :: l) (.ref i :: st) H a b := wp_aload_n (x := some i) f212_227 rfl
theorem f212_228 : ma_ins 212 228 = some (.aload_n 0, 1) := by decide +kernel
theorem w212_228 : ma_W d 212 Q 228 (some (.ref i) :: l) st H a b = ma_W d 212 Q 229 (some (.ref i) :: l) (.ref i :: st) H a b := wp_aload_n (x := some i) f212_228 rfl
theorem f212_229 : ma_ins 212 229 = some (.iload_n 3, 1) := by decide +kernel
theorem w212_229 : ma_W d 212 Q 229 (o0 :: o1 :: o2 :: some (.int x) :: l) st H a b = ma_W d 212 Q 230 (o0 :: o1 :: o2 :: some (.int x) :: l) (.int x :: st) H a b := wp_iload_n f212_229 rfl
theorem f212_230 : ma_ins 212 230 = some (.iconst 1, 1) := by decide +kernel
theorem w212_230 : ma_W d 212 Q 230 l st H a b = ma_W d 212 Q 231 l (.int 1 :: st) H a b := wp_iconst f212_230 (by decide)
theorem f212_231 : ma_ins 212 231 = some (.iadd, 1) := by decide +kernel
theorem w212_231 : ma_W d 212 Q 231 l (.int y :: .int x :: st) H a b = ma_W d 212 Q 232 l (.int (x + y) :: st) H a b := wp_iadd f212_231
theorem f212_232 : ma_ins 212 232 = some (.iaload, 1) := by decide +kernel
theorem w212_232 : ma_W d 212 Q 232 l (.int x :: .ref i :: st) H a b = ma_ial (H.1 i) x (ma_kV d 212 Q 233 l st H a b) := wp_iald f212_232
theorem f212_233 : ma_ins 212 233 = some (.aload_n 0, 1) := by decide +kernel
theorem w212_233 : ma_W d 212 Q 233 (some (.ref i) :: l) st H a b = ma_W d 212 Q 234 (some (.ref i) :: l) (.ref i :: st) H a b := wp_aload_n (x := some i) f212_233 rfl
theorem f212_234 : ma_ins 212 234 = some (.iload_n 3, 1) := by decide +kernel
theorem w212_234 : ma_W d 212 Q 234 (o0 :: o1 :: o2 :: some (.int x) :: l) st H a b = ma_W d 212 Q 235 (o0 :: o1 :: o2 :: some (.int x) :: l) (.int x :: st) H a b := wp_iload_n f212_234 rfl
theorem f212_235 : ma_ins 212 235 = some (.iconst 2, 1) := by decide +kernel
theorem w212_235 : ma_W d 212 Q 235 l st H a b = ma_W d 212 Q 236 l (.int 2 :: st) H a b := wp_iconst f212_235 (by decide)
theorem f212_236 : ma_ins 212 236 = some (.iadd, 1) := by decide +kernel
theorem w212_236 : ma_W d 212 Q 236 l (.int y :: .int x :: st) H a b = ma_W d 212 Q 237 l (.int (x + y) :: st) H a b := wp_iadd f212_236
theorem f212_237 : ma_ins 212 237 = some (.iaload, 1) := by decide +kernel
theorem w212_237 : ma_W d 212 Q 237 l (.int x :: .ref i :: st) H a b = ma_ial (H.1 i) x (ma_kV d 212 Q 238 l st H a b) := wp_iald f212_237
theorem f212_238 : ma_ins 212 238 = some (.invokevirtual 21, 3) := by decide +kernel
theorem w212_238 : ma_W d 212 Q 238 l (.int x1 :: .int x0 :: .ref i :: st) H a b = (ma_cat st ≤ 8 ∧ a + 0 ≤ 600000 ∧ b + 0 ≤ 7302250 ∧ ma_cv (H.1 i) 8 d 135 [.ref i, .int x0, .int x1] H (ma_kC d 212 Q 241 l st (a + 0) (b + 0))) := wc_V (ia := 135) (n := 3) (cn := 8) f212_238 (by decide +kernel) (fun _ => rfl) rfl rfl
theorem f212_241 : ma_ins 212 241 = some (.if_icmp .eq 750, 3) := by decide +kernel
theorem w212_241 : ma_W d 212 Q 241 l (.int y :: .int x :: st) H a b = ma_if (x = y) d 212 Q 991 244 l st H a b := wp_ic (id := 212) (pc := 241) (c := .eq) (off := 750) 991 f212_241 (by decide)
theorem f212_244 : ma_ins 212 244 = some (.iconst 0, 1) := by decide +kernel
theorem w212_244 : ma_W d 212 Q 244 l st H a b = ma_W d 212 Q 245 l (.int 0 :: st) H a b := wp_iconst f212_244 (by decide)
theorem f212_245 : ma_ins 212 245 = some (.ireturn, 1) := by decide +kernel
theorem w212_245 : ma_W d 212 Q 245 l [.int x] H a b = ((x = 0 ∨ x = 1) ∧ Q (some (.int x)) H) := wp_zret f212_245 rfl
theorem f212_246 : ma_ins 212 246 = some (.aload_n 1, 1) := by decide +kernel
theorem w212_246 : ma_W d 212 Q 246 (o0 :: some (.ref i) :: l) st H a b = ma_W d 212 Q 247 (o0 :: some (.ref i) :: l) (.ref i :: st) H a b := wp_aload_n (x := some i) f212_246 rfl
theorem f212_247 : ma_ins 212 247 = some (.aload_n 0, 1) := by decide +kernel
theorem w212_247 : ma_W d 212 Q 247 (some (.ref i) :: l) st H a b = ma_W d 212 Q 248 (some (.ref i) :: l) (.ref i :: st) H a b := wp_aload_n (x := some i) f212_247 rfl
theorem f212_248 : ma_ins 212 248 = some (.iload_n 3, 1) := by decide +kernel
theorem w212_248 : ma_W d 212 Q 248 (o0 :: o1 :: o2 :: some (.int x) :: l) st H a b = ma_W d 212 Q 249 (o0 :: o1 :: o2 :: some (.int x) :: l) (.int x :: st) H a b := wp_iload_n f212_248 rfl
theorem f212_249 : ma_ins 212 249 = some (.iconst 1, 1) := by decide +kernel
theorem w212_249 : ma_W d 212 Q 249 l st H a b = ma_W d 212 Q 250 l (.int 1 :: st) H a b := wp_iconst f212_249 (by decide)
theorem f212_250 : ma_ins 212 250 = some (.iadd, 1) := by decide +kernel
theorem w212_250 : ma_W d 212 Q 250 l (.int y :: .int x :: st) H a b = ma_W d 212 Q 251 l (.int (x + y) :: st) H a b := wp_iadd f212_250
theorem f212_251 : ma_ins 212 251 = some (.iaload, 1) := by decide +kernel
theorem w212_251 : ma_W d 212 Q 251 l (.int x :: .ref i :: st) H a b = ma_ial (H.1 i) x (ma_kV d 212 Q 252 l st H a b) := wp_iald f212_251
theorem f212_252 : ma_ins 212 252 = some (.aload_n 0, 1) := by decide +kernel
theorem w212_252 : ma_W d 212 Q 252 (some (.ref i) :: l) st H a b = ma_W d 212 Q 253 (some (.ref i) :: l) (.ref i :: st) H a b := wp_aload_n (x := some i) f212_252 rfl
theorem f212_253 : ma_ins 212 253 = some (.iload_n 3, 1) := by decide +kernel
theorem w212_253 : ma_W d 212 Q 253 (o0 :: o1 :: o2 :: some (.int x) :: l) st H a b = ma_W d 212 Q 254 (o0 :: o1 :: o2 :: some (.int x) :: l) (.int x :: st) H a b := wp_iload_n f212_253 rfl
theorem f212_254 : ma_ins 212 254 = some (.iconst 2, 1) := by decide +kernel
theorem w212_254 : ma_W d 212 Q 254 l st H a b = ma_W d 212 Q 255 l (.int 2 :: st) H a b := wp_iconst f212_254 (by decide)
theorem f212_255 : ma_ins 212 255 = some (.iadd, 1) := by decide +kernel
theorem w212_255 : ma_W d 212 Q 255 l (.int y :: .int x :: st) H a b = ma_W d 212 Q 256 l (.int (x + y) :: st) H a b := wp_iadd f212_255
theorem f212_256 : ma_ins 212 256 = some (.iaload, 1) := by decide +kernel
theorem w212_256 : ma_W d 212 Q 256 l (.int x :: .ref i :: st) H a b = ma_ial (H.1 i) x (ma_kV d 212 Q 257 l st H a b) := wp_iald f212_256
theorem f212_257 : ma_ins 212 257 = some (.invokevirtual 22, 3) := by decide +kernel
theorem w212_257 : ma_W d 212 Q 257 l (.int x1 :: .int x0 :: .ref i :: st) H a b = (ma_cat st ≤ 8 ∧ a + 0 ≤ 600000 ∧ b + 0 ≤ 7302250 ∧ ma_cv (H.1 i) 7 d 80 [.ref i, .int x0, .int x1] H (ma_kC d 212 Q 260 l st (a + 0) (b + 0))) := wc_V (ia := 80) (n := 3) (cn := 7) f212_257 (by decide +kernel) (fun _ => rfl) rfl rfl
theorem f212_260 : ma_ins 212 260 = some (.aload_n 2, 1) := by decide +kernel
theorem w212_260 : ma_W d 212 Q 260 (o0 :: o1 :: some (.ref i) :: l) st H a b = ma_W d 212 Q 261 (o0 :: o1 :: some (.ref i) :: l) (.ref i :: st) H a b := wp_aload_n (x := some i) f212_260 rfl
theorem f212_261 : ma_ins 212 261 = some (.aload_n 0, 1) := by decide +kernel
theorem w212_261 : ma_W d 212 Q 261 (some (.ref i) :: l) st H a b = ma_W d 212 Q 262 (some (.ref i) :: l) (.ref i :: st) H a b := wp_aload_n (x := some i) f212_261 rfl
theorem f212_262 : ma_ins 212 262 = some (.iload_n 3, 1) := by decide +kernel
theorem w212_262 : ma_W d 212 Q 262 (o0 :: o1 :: o2 :: some (.int x) :: l) st H a b = ma_W d 212 Q 263 (o0 :: o1 :: o2 :: some (.int x) :: l) (.int x :: st) H a b := wp_iload_n f212_262 rfl
theorem f212_263 : ma_ins 212 263 = some (.iconst 1, 1) := by decide +kernel
theorem w212_263 : ma_W d 212 Q 263 l st H a b = ma_W d 212 Q 264 l (.int 1 :: st) H a b := wp_iconst f212_263 (by decide)
theorem f212_264 : ma_ins 212 264 = some (.iadd, 1) := by decide +kernel
theorem w212_264 : ma_W d 212 Q 264 l (.int y :: .int x :: st) H a b = ma_W d 212 Q 265 l (.int (x + y) :: st) H a b := wp_iadd f212_264
theorem f212_265 : ma_ins 212 265 = some (.iaload, 1) := by decide +kernel
theorem w212_265 : ma_W d 212 Q 265 l (.int x :: .ref i :: st) H a b = ma_ial (H.1 i) x (ma_kV d 212 Q 266 l st H a b) := wp_iald f212_265
theorem f212_266 : ma_ins 212 266 = some (.aload_n 0, 1) := by decide +kernel
theorem w212_266 : ma_W d 212 Q 266 (some (.ref i) :: l) st H a b = ma_W d 212 Q 267 (some (.ref i) :: l) (.ref i :: st) H a b := wp_aload_n (x := some i) f212_266 rfl
theorem f212_267 : ma_ins 212 267 = some (.iload_n 3, 1) := by decide +kernel
theorem w212_267 : ma_W d 212 Q 267 (o0 :: o1 :: o2 :: some (.int x) :: l) st H a b = ma_W d 212 Q 268 (o0 :: o1 :: o2 :: some (.int x) :: l) (.int x :: st) H a b := wp_iload_n f212_267 rfl
theorem f212_268 : ma_ins 212 268 = some (.iconst 2, 1) := by decide +kernel
theorem w212_268 : ma_W d 212 Q 268 l st H a b = ma_W d 212 Q 269 l (.int 2 :: st) H a b := wp_iconst f212_268 (by decide)
theorem f212_269 : ma_ins 212 269 = some (.iadd, 1) := by decide +kernel
theorem w212_269 : ma_W d 212 Q 269 l (.int y :: .int x :: st) H a b = ma_W d 212 Q 270 l (.int (x + y) :: st) H a b := wp_iadd f212_269
theorem f212_270 : ma_ins 212 270 = some (.iaload, 1) := by decide +kernel
theorem w212_270 : ma_W d 212 Q 270 l (.int x :: .ref i :: st) H a b = ma_ial (H.1 i) x (ma_kV d 212 Q 271 l st H a b) := wp_iald f212_270
theorem f212_271 : ma_ins 212 271 = some (.invokevirtual 25, 3) := by decide +kernel
theorem w212_271 : ma_W d 212 Q 271 l (.int x1 :: .int x0 :: .ref i :: st) H a b = (ma_cat st ≤ 8 ∧ a + 0 ≤ 600000 ∧ b + 0 ≤ 7302250 ∧ ma_cv (H.1 i) 8 d 137 [.ref i, .int x0, .int x1] H (ma_kC d 212 Q 274 l st (a + 0) (b + 0))) := wc_V (ia := 137) (n := 3) (cn := 8) f212_271 (by decide +kernel) (fun _ => rfl) rfl rfl
theorem f212_274 : ma_ins 212 274 = some (.if_icmp .eq 717, 3) := by decide +kernel
theorem w212_274 : ma_W d 212 Q 274 l (.int y :: .int x :: st) H a b = ma_if (x = y) d 212 Q 991 277 l st H a b := wp_ic (id := 212) (pc := 274) (c := .eq) (off := 717) 991 f212_274 (by decide)
theorem f212_277 : ma_ins 212 277 = some (.iconst 0, 1) := by decide +kernel
theorem w212_277 : ma_W d 212 Q 277 l st H a b = ma_W d 212 Q 278 l (.int 0 :: st) H a b := wp_iconst f212_277 (by decide)
theorem f212_278 : ma_ins 212 278 = some (.ireturn, 1) := by decide +kernel
theorem w212_278 : ma_W d 212 Q 278 l [.int x] H a b = ((x = 0 ∨ x = 1) ∧ Q (some (.int x)) H) := wp_zret f212_278 rfl
theorem f212_279 : ma_ins 212 279 = some (.aload_n 1, 1) := by decide +kernel
theorem w212_279 : ma_W d 212 Q 279 (o0 :: some (.ref i) :: l) st H a b = ma_W d 212 Q 280 (o0 :: some (.ref i) :: l) (.ref i :: st) H a b := wp_aload_n (x := some i) f212_279 rfl
theorem f212_280 : ma_ins 212 280 = some (.aload_n 0, 1) := by decide +kernel
theorem w212_280 : ma_W d 212 Q 280 (some (.ref i) :: l) st H a b = ma_W d 212 Q 281 (some (.ref i) :: l) (.ref i :: st) H a b := wp_aload_n (x := some i) f212_280 rfl
theorem f212_281 : ma_ins 212 281 = some (.iload_n 3, 1) := by decide +kernel
theorem w212_281 : ma_W d 212 Q 281 (o0 :: o1 :: o2 :: some (.int x) :: l) st H a b = ma_W d 212 Q 282 (o0 :: o1 :: o2 :: some (.int x) :: l) (.int x :: st) H a b := wp_iload_n f212_281 rfl
theorem f212_282 : ma_ins 212 282 = some (.iconst 1, 1) := by decide +kernel
theorem w212_282 : ma_W d 212 Q 282 l st H a b = ma_W d 212 Q 283 l (.int 1 :: st) H a b := wp_iconst f212_282 (by decide)
theorem f212_283 : ma_ins 212 283 = some (.iadd, 1) := by decide +kernel
theorem w212_283 : ma_W d 212 Q 283 l (.int y :: .int x :: st) H a b = ma_W d 212 Q 284 l (.int (x + y) :: st) H a b := wp_iadd f212_283
theorem f212_284 : ma_ins 212 284 = some (.iaload, 1) := by decide +kernel
theorem w212_284 : ma_W d 212 Q 284 l (.int x :: .ref i :: st) H a b = ma_ial (H.1 i) x (ma_kV d 212 Q 285 l st H a b) := wp_iald f212_284
theorem f212_285 : ma_ins 212 285 = some (.invokevirtual 26, 3) := by decide +kernel
theorem w212_285 : ma_W d 212 Q 285 l (.int x0 :: .ref i :: st) H a b = (ma_cat st ≤ 8 ∧ a + 0 ≤ 600000 ∧ b + 0 ≤ 7302250 ∧ ma_cv (H.1 i) 7 d 81 [.ref i, .int x0] H (ma_kC d 212 Q 288 l st (a + 0) (b + 0))) := wc_V (ia := 81) (n := 2) (cn := 7) f212_285 (by decide +kernel) (fun _ => rfl) rfl rfl
theorem f212_288 : ma_ins 212 288 = some (.aload_n 2, 1) := by decide +kernel
theorem w212_288 : ma_W d 212 Q 288 (o0 :: o1 :: some (.ref i) :: l) st H a b = ma_W d 212 Q 289 (o0 :: o1 :: some (.ref i) :: l) (.ref i :: st) H a b := wp_aload_n (x := some i) f212_288 rfl
theorem f212_289 : ma_ins 212 289 = some (.aload_n 0, 1) := by decide +kernel
theorem w212_289 : ma_W d 212 Q 289 (some (.ref i) :: l) st H a b = ma_W d 212 Q 290 (some (.ref i) :: l) (.ref i :: st) H a b := wp_aload_n (x := some i) f212_289 rfl
theorem f212_290 : ma_ins 212 290 = some (.iload_n 3, 1) := by decide +kernel
theorem w212_290 : ma_W d 212 Q 290 (o0 :: o1 :: o2 :: some (.int x) :: l) st H a b = ma_W d 212 Q 291 (o0 :: o1 :: o2 :: some (.int x) :: l) (.int x :: st) H a b := wp_iload_n f212_290 rfl
theorem f212_291 : ma_ins 212 291 = some (.iconst 1, 1) := by decide +kernel
theorem w212_291 : ma_W d 212 Q 291 l st H a b = ma_W d 212 Q 292 l (.int 1 :: st) H a b := wp_iconst f212_291 (by decide)
theorem f212_292 : ma_ins 212 292 = some (.iadd, 1) := by decide +kernel
theorem w212_292 : ma_W d 212 Q 292 l (.int y :: .int x :: st) H a b = ma_W d 212 Q 293 l (.int (x + y) :: st) H a b := wp_iadd f212_292
theorem f212_293 : ma_ins 212 293 = some (.iaload, 1) := by decide +kernel
theorem w212_293 : ma_W d 212 Q 293 l (.int x :: .ref i :: st) H a b = ma_ial (H.1 i) x (ma_kV d 212 Q 294 l st H a b) := wp_iald f212_293
theorem f212_294 : ma_ins 212 294 = some (.invokevirtual 30, 3) := by decide +kernel
theorem w212_294 : ma_W d 212 Q 294 l (.int x0 :: .ref i :: st) H a b = (ma_cat st ≤ 8 ∧ a + 0 ≤ 600000 ∧ b + 0 ≤ 7302250 ∧ ma_cv (H.1 i) 8 d 138 [.ref i, .int x0] H (ma_kC d 212 Q 297 l st (a + 0) (b + 0))) := wc_V (ia := 138) (n := 2) (cn := 8) f212_294 (by decide +kernel) (fun _ => rfl) rfl rfl
theorem f212_297 : ma_ins 212 297 = some (.if_icmp .eq 694, 3) := by decide +kernel
theorem w212_297 : ma_W d 212 Q 297 l (.int y :: .int x :: st) H a b = ma_if (x = y) d 212 Q 991 300 l st H a b := wp_ic (id := 212) (pc := 297) (c := .eq) (off := 694) 991 f212_297 (by decide)
theorem f212_300 : ma_ins 212 300 = some (.iconst 0, 1) := by decide +kernel
theorem w212_300 : ma_W d 212 Q 300 l st H a b = ma_W d 212 Q 301 l (.int 0 :: st) H a b := wp_iconst f212_300 (by decide)
theorem f212_301 : ma_ins 212 301 = some (.ireturn, 1) := by decide +kernel
theorem w212_301 : ma_W d 212 Q 301 l [.int x] H a b = ((x = 0 ∨ x = 1) ∧ Q (some (.int x)) H) := wp_zret f212_301 rfl
theorem f212_302 : ma_ins 212 302 = some (.aload_n 1, 1) := by decide +kernel
theorem w212_302 : ma_W d 212 Q 302 (o0 :: some (.ref i) :: l) st H a b = ma_W d 212 Q 303 (o0 :: some (.ref i) :: l) (.ref i :: st) H a b := wp_aload_n (x := some i) f212_302 rfl
theorem f212_303 : ma_ins 212 303 = some (.invokevirtual 31, 3) := by decide +kernel
theorem w212_303 : ma_W d 212 Q 303 l (.ref i :: st) H a b = (ma_cat st ≤ 8 ∧ a + 0 ≤ 600000 ∧ b + 0 ≤ 7302250 ∧ ma_cv (H.1 i) 7 d 82 [.ref i] H (ma_kC d 212 Q 306 l st (a + 0) (b + 0))) := wc_V (ia := 82) (n := 1) (cn := 7) f212_303 (by decide +kernel) (fun _ => rfl) rfl rfl
theorem f212_306 : ma_ins 212 306 = some (.aload_n 2, 1) := by decide +kernel
theorem w212_306 : ma_W d 212 Q 306 (o0 :: o1 :: some (.ref i) :: l) st H a b = ma_W d 212 Q 307 (o0 :: o1 :: some (.ref i) :: l) (.ref i :: st) H a b := wp_aload_n (x := some i) f212_306 rfl
theorem f212_307 : ma_ins 212 307 = some (.invokevirtual 35, 3) := by decide +kernel
theorem w212_307 : ma_W d 212 Q 307 l (.ref i :: st) H a b = (ma_cat st ≤ 8 ∧ a + 0 ≤ 600000 ∧ b + 0 ≤ 7302250 ∧ ma_cv (H.1 i) 8 d 139 [.ref i] H (ma_kC d 212 Q 310 l st (a + 0) (b + 0))) := wc_V (ia := 139) (n := 1) (cn := 8) f212_307 (by decide +kernel) (fun _ => rfl) rfl rfl
theorem f212_310 : ma_ins 212 310 = some (.if_icmp .eq 681, 3) := by decide +kernel
theorem w212_310 : ma_W d 212 Q 310 l (.int y :: .int x :: st) H a b = ma_if (x = y) d 212 Q 991 313 l st H a b := wp_ic (id := 212) (pc := 310) (c := .eq) (off := 681) 991 f212_310 (by decide)
theorem f212_313 : ma_ins 212 313 = some (.iconst 0, 1) := by decide +kernel
theorem w212_313 : ma_W d 212 Q 313 l st H a b = ma_W d 212 Q 314 l (.int 0 :: st) H a b := wp_iconst f212_313 (by decide)
theorem f212_314 : ma_ins 212 314 = some (.ireturn, 1) := by decide +kernel
theorem w212_314 : ma_W d 212 Q 314 l [.int x] H a b = ((x = 0 ∨ x = 1) ∧ Q (some (.int x)) H) := wp_zret f212_314 rfl
theorem f212_315 : ma_ins 212 315 = some (.aload_n 1, 1) := by decide +kernel
theorem w212_315 : ma_W d 212 Q 315 (o0 :: some (.ref i) :: l) st H a b = ma_W d 212 Q 316 (o0 :: some (.ref i) :: l) (.ref i :: st) H a b := wp_aload_n (x := some i) f212_315 rfl
theorem f212_316 : ma_ins 212 316 = some (.invokevirtual 36, 3) := by decide +kernel
theorem w212_316 : ma_W d 212 Q 316 l (.ref i :: st) H a b = (ma_cat st ≤ 8 ∧ a + 0 ≤ 600000 ∧ b + 0 ≤ 7302250 ∧ ma_cv (H.1 i) 7 d 83 [.ref i] H (ma_kC d 212 Q 319 l st (a + 0) (b + 0))) := wc_V (ia := 83) (n := 1) (cn := 7) f212_316 (by decide +kernel) (fun _ => rfl) rfl rfl
theorem f212_319 : ma_ins 212 319 = some (.aload_n 2, 1) := by decide +kernel
theorem w212_319 : ma_W d 212 Q 319 (o0 :: o1 :: some (.ref i) :: l) st H a b = ma_W d 212 Q 320 (o0 :: o1 :: some (.ref i) :: l) (.ref i :: st) H a b := wp_aload_n (x := some i) f212_319 rfl
theorem f212_320 : ma_ins 212 320 = some (.invokevirtual 39, 3) := by decide +kernel
theorem w212_320 : ma_W d 212 Q 320 l (.ref i :: st) H a b = (ma_cat st ≤ 8 ∧ a + 0 ≤ 600000 ∧ b + 0 ≤ 7302250 ∧ ma_cv (H.1 i) 8 d 148 [.ref i] H (ma_kC d 212 Q 323 l st (a + 0) (b + 0))) := wc_V (ia := 148) (n := 1) (cn := 8) f212_320 (by decide +kernel) (fun _ => rfl) rfl rfl
theorem f212_323 : ma_ins 212 323 = some (.if_icmp .eq 668, 3) := by decide +kernel
theorem w212_323 : ma_W d 212 Q 323 l (.int y :: .int x :: st) H a b = ma_if (x = y) d 212 Q 991 326 l st H a b := wp_ic (id := 212) (pc := 323) (c := .eq) (off := 668) 991 f212_323 (by decide)
theorem f212_326 : ma_ins 212 326 = some (.iconst 0, 1) := by decide +kernel
theorem w212_326 : ma_W d 212 Q 326 l st H a b = ma_W d 212 Q 327 l (.int 0 :: st) H a b := wp_iconst f212_326 (by decide)
theorem f212_327 : ma_ins 212 327 = some (.ireturn, 1) := by decide +kernel
theorem w212_327 : ma_W d 212 Q 327 l [.int x] H a b = ((x = 0 ∨ x = 1) ∧ Q (some (.int x)) H) := wp_zret f212_327 rfl
theorem f212_328 : ma_ins 212 328 = some (.aload_n 1, 1) := by decide +kernel
theorem w212_328 : ma_W d 212 Q 328 (o0 :: some (.ref i) :: l) st H a b = ma_W d 212 Q 329 (o0 :: some (.ref i) :: l) (.ref i :: st) H a b := wp_aload_n (x := some i) f212_328 rfl
theorem f212_329 : ma_ins 212 329 = some (.aload_n 0, 1) := by decide +kernel
theorem w212_329 : ma_W d 212 Q 329 (some (.ref i) :: l) st H a b = ma_W d 212 Q 330 (some (.ref i) :: l) (.ref i :: st) H a b := wp_aload_n (x := some i) f212_329 rfl
theorem f212_330 : ma_ins 212 330 = some (.iload_n 3, 1) := by decide +kernel
theorem w212_330 : ma_W d 212 Q 330 (o0 :: o1 :: o2 :: some (.int x) :: l) st H a b = ma_W d 212 Q 331 (o0 :: o1 :: o2 :: some (.int x) :: l) (.int x :: st) H a b := wp_iload_n f212_330 rfl
theorem f212_331 : ma_ins 212 331 = some (.iconst 1, 1) := by decide +kernel
theorem w212_331 : ma_W d 212 Q 331 l st H a b = ma_W d 212 Q 332 l (.int 1 :: st) H a b := wp_iconst f212_331 (by decide)
theorem f212_332 : ma_ins 212 332 = some (.iadd, 1) := by decide +kernel
theorem w212_332 : ma_W d 212 Q 332 l (.int y :: .int x :: st) H a b = ma_W d 212 Q 333 l (.int (x + y) :: st) H a b := wp_iadd f212_332
theorem f212_333 : ma_ins 212 333 = some (.iaload, 1) := by decide +kernel
theorem w212_333 : ma_W d 212 Q 333 l (.int x :: .ref i :: st) H a b = ma_ial (H.1 i) x (ma_kV d 212 Q 334 l st H a b) := wp_iald f212_333
theorem f212_334 : ma_ins 212 334 = some (.invokevirtual 40, 3) := by decide +kernel
theorem w212_334 : ma_W d 212 Q 334 l (.int x0 :: .ref i :: st) H a b = (ma_cat st ≤ 8 ∧ a + 0 ≤ 600000 ∧ b + 0 ≤ 7302250 ∧ ma_cv (H.1 i) 7 d 84 [.ref i, .int x0] H (ma_kC d 212 Q 337 l st (a + 0) (b + 0))) := wc_V (ia := 84) (n := 2) (cn := 7) f212_334 (by decide +kernel) (fun _ => rfl) rfl rfl
theorem f212_337 : ma_ins 212 337 = some (.aload_n 2, 1) := by decide +kernel
theorem w212_337 : ma_W d 212 Q 337 (o0 :: o1 :: some (.ref i) :: l) st H a b = ma_W d 212 Q 338 (o0 :: o1 :: some (.ref i) :: l) (.ref i :: st) H a b := wp_aload_n (x := some i) f212_337 rfl
theorem f212_338 : ma_ins 212 338 = some (.aload_n 0, 1) := by decide +kernel
theorem w212_338 : ma_W d 212 Q 338 (some (.ref i) :: l) st H a b = ma_W d 212 Q 339 (some (.ref i) :: l) (.ref i :: st) H a b := wp_aload_n (x := some i) f212_338 rfl
theorem f212_339 : ma_ins 212 339 = some (.iload_n 3, 1) := by decide +kernel
theorem w212_339 : ma_W d 212 Q 339 (o0 :: o1 :: o2 :: some (.int x) :: l) st H a b = ma_W d 212 Q 340 (o0 :: o1 :: o2 :: some (.int x) :: l) (.int x :: st) H a b := wp_iload_n f212_339 rfl
theorem f212_340 : ma_ins 212 340 = some (.iconst 1, 1) := by decide +kernel
theorem w212_340 : ma_W d 212 Q 340 l st H a b = ma_W d 212 Q 341 l (.int 1 :: st) H a b := wp_iconst f212_340 (by decide)
theorem f212_341 : ma_ins 212 341 = some (.iadd, 1) := by decide +kernel
theorem w212_341 : ma_W d 212 Q 341 l (.int y :: .int x :: st) H a b = ma_W d 212 Q 342 l (.int (x + y) :: st) H a b := wp_iadd f212_341
theorem f212_342 : ma_ins 212 342 = some (.iaload, 1) := by decide +kernel
theorem w212_342 : ma_W d 212 Q 342 l (.int x :: .ref i :: st) H a b = ma_ial (H.1 i) x (ma_kV d 212 Q 343 l st H a b) := wp_iald f212_342
theorem f212_343 : ma_ins 212 343 = some (.invokevirtual 43, 3) := by decide +kernel
theorem w212_343 : ma_W d 212 Q 343 l (.int x0 :: .ref i :: st) H a b = (ma_cat st ≤ 8 ∧ a + 0 ≤ 600000 ∧ b + 0 ≤ 7302250 ∧ ma_cv (H.1 i) 8 d 155 [.ref i, .int x0] H (ma_kC d 212 Q 346 l st (a + 0) (b + 0))) := wc_V (ia := 155) (n := 2) (cn := 8) f212_343 (by decide +kernel) (fun _ => rfl) rfl rfl
theorem f212_346 : ma_ins 212 346 = some (.if_icmp .eq 645, 3) := by decide +kernel
theorem w212_346 : ma_W d 212 Q 346 l (.int y :: .int x :: st) H a b = ma_if (x = y) d 212 Q 991 349 l st H a b := wp_ic (id := 212) (pc := 346) (c := .eq) (off := 645) 991 f212_346 (by decide)
theorem f212_349 : ma_ins 212 349 = some (.iconst 0, 1) := by decide +kernel
theorem w212_349 : ma_W d 212 Q 349 l st H a b = ma_W d 212 Q 350 l (.int 0 :: st) H a b := wp_iconst f212_349 (by decide)
theorem f212_350 : ma_ins 212 350 = some (.ireturn, 1) := by decide +kernel
theorem w212_350 : ma_W d 212 Q 350 l [.int x] H a b = ((x = 0 ∨ x = 1) ∧ Q (some (.int x)) H) := wp_zret f212_350 rfl
theorem f212_351 : ma_ins 212 351 = some (.aload_n 1, 1) := by decide +kernel
theorem w212_351 : ma_W d 212 Q 351 (o0 :: some (.ref i) :: l) st H a b = ma_W d 212 Q 352 (o0 :: some (.ref i) :: l) (.ref i :: st) H a b := wp_aload_n (x := some i) f212_351 rfl
theorem f212_352 : ma_ins 212 352 = some (.aload_n 0, 1) := by decide +kernel
theorem w212_352 : ma_W d 212 Q 352 (some (.ref i) :: l) st H a b = ma_W d 212 Q 353 (some (.ref i) :: l) (.ref i :: st) H a b := wp_aload_n (x := some i) f212_352 rfl
theorem f212_353 : ma_ins 212 353 = some (.iload_n 3, 1) := by decide +kernel
theorem w212_353 : ma_W d 212 Q 353 (o0 :: o1 :: o2 :: some (.int x) :: l) st H a b = ma_W d 212 Q 354 (o0 :: o1 :: o2 :: some (.int x) :: l) (.int x :: st) H a b := wp_iload_n f212_353 rfl
theorem f212_354 : ma_ins 212 354 = some (.iconst 1, 1) := by decide +kernel
theorem w212_354 : ma_W d 212 Q 354 l st H a b = ma_W d 212 Q 355 l (.int 1 :: st) H a b := wp_iconst f212_354 (by decide)
theorem f212_355 : ma_ins 212 355 = some (.iadd, 1) := by decide +kernel
theorem w212_355 : ma_W d 212 Q 355 l (.int y :: .int x :: st) H a b = ma_W d 212 Q 356 l (.int (x + y) :: st) H a b := wp_iadd f212_355
theorem f212_356 : ma_ins 212 356 = some (.iaload, 1) := by decide +kernel
theorem w212_356 : ma_W d 212 Q 356 l (.int x :: .ref i :: st) H a b = ma_ial (H.1 i) x (ma_kV d 212 Q 357 l st H a b) := wp_iald f212_356
theorem f212_357 : ma_ins 212 357 = some (.aload_n 0, 1) := by decide +kernel
theorem w212_357 : ma_W d 212 Q 357 (some (.ref i) :: l) st H a b = ma_W d 212 Q 358 (some (.ref i) :: l) (.ref i :: st) H a b := wp_aload_n (x := some i) f212_357 rfl
theorem f212_358 : ma_ins 212 358 = some (.iload_n 3, 1) := by decide +kernel
theorem w212_358 : ma_W d 212 Q 358 (o0 :: o1 :: o2 :: some (.int x) :: l) st H a b = ma_W d 212 Q 359 (o0 :: o1 :: o2 :: some (.int x) :: l) (.int x :: st) H a b := wp_iload_n f212_358 rfl
theorem f212_359 : ma_ins 212 359 = some (.iconst 2, 1) := by decide +kernel
theorem w212_359 : ma_W d 212 Q 359 l st H a b = ma_W d 212 Q 360 l (.int 2 :: st) H a b := wp_iconst f212_359 (by decide)
theorem f212_360 : ma_ins 212 360 = some (.iadd, 1) := by decide +kernel
theorem w212_360 : ma_W d 212 Q 360 l (.int y :: .int x :: st) H a b = ma_W d 212 Q 361 l (.int (x + y) :: st) H a b := wp_iadd f212_360
theorem f212_361 : ma_ins 212 361 = some (.iaload, 1) := by decide +kernel
theorem w212_361 : ma_W d 212 Q 361 l (.int x :: .ref i :: st) H a b = ma_ial (H.1 i) x (ma_kV d 212 Q 362 l st H a b) := wp_iald f212_361
theorem f212_362 : ma_ins 212 362 = some (.invokevirtual 44, 3) := by decide +kernel
theorem w212_362 : ma_W d 212 Q 362 l (.int x1 :: .int x0 :: .ref i :: st) H a b = (ma_cat st ≤ 8 ∧ a + 0 ≤ 600000 ∧ b + 0 ≤ 7302250 ∧ ma_cv (H.1 i) 7 d 85 [.ref i, .int x0, .int x1] H (ma_kC d 212 Q 365 l st (a + 0) (b + 0))) := wc_V (ia := 85) (n := 3) (cn := 7) f212_362 (by decide +kernel) (fun _ => rfl) rfl rfl
theorem f212_365 : ma_ins 212 365 = some (.aload_n 2, 1) := by decide +kernel
theorem w212_365 : ma_W d 212 Q 365 (o0 :: o1 :: some (.ref i) :: l) st H a b = ma_W d 212 Q 366 (o0 :: o1 :: some (.ref i) :: l) (.ref i :: st) H a b := wp_aload_n (x := some i) f212_365 rfl
theorem f212_366 : ma_ins 212 366 = some (.aload_n 0, 1) := by decide +kernel
theorem w212_366 : ma_W d 212 Q 366 (some (.ref i) :: l) st H a b = ma_W d 212 Q 367 (some (.ref i) :: l) (.ref i :: st) H a b := wp_aload_n (x := some i) f212_366 rfl
theorem f212_367 : ma_ins 212 367 = some (.iload_n 3, 1) := by decide +kernel
theorem w212_367 : ma_W d 212 Q 367 (o0 :: o1 :: o2 :: some (.int x) :: l) st H a b = ma_W d 212 Q 368 (o0 :: o1 :: o2 :: some (.int x) :: l) (.int x :: st) H a b := wp_iload_n f212_367 rfl
theorem f212_368 : ma_ins 212 368 = some (.iconst 1, 1) := by decide +kernel
theorem w212_368 : ma_W d 212 Q 368 l st H a b = ma_W d 212 Q 369 l (.int 1 :: st) H a b := wp_iconst f212_368 (by decide)
theorem f212_369 : ma_ins 212 369 = some (.iadd, 1) := by decide +kernel
theorem w212_369 : ma_W d 212 Q 369 l (.int y :: .int x :: st) H a b = ma_W d 212 Q 370 l (.int (x + y) :: st) H a b := wp_iadd f212_369
theorem f212_370 : ma_ins 212 370 = some (.iaload, 1) := by decide +kernel
theorem w212_370 : ma_W d 212 Q 370 l (.int x :: .ref i :: st) H a b = ma_ial (H.1 i) x (ma_kV d 212 Q 371 l st H a b) := wp_iald f212_370
theorem f212_371 : ma_ins 212 371 = some (.aload_n 0, 1) := by decide +kernel
theorem w212_371 : ma_W d 212 Q 371 (some (.ref i) :: l) st H a b = ma_W d 212 Q 372 (some (.ref i) :: l) (.ref i :: st) H a b := wp_aload_n (x := some i) f212_371 rfl
theorem f212_372 : ma_ins 212 372 = some (.iload_n 3, 1) := by decide +kernel
theorem w212_372 : ma_W d 212 Q 372 (o0 :: o1 :: o2 :: some (.int x) :: l) st H a b = ma_W d 212 Q 373 (o0 :: o1 :: o2 :: some (.int x) :: l) (.int x :: st) H a b := wp_iload_n f212_372 rfl
theorem f212_373 : ma_ins 212 373 = some (.iconst 2, 1) := by decide +kernel
theorem w212_373 : ma_W d 212 Q 373 l st H a b = ma_W d 212 Q 374 l (.int 2 :: st) H a b := wp_iconst f212_373 (by decide)
theorem f212_374 : ma_ins 212 374 = some (.iadd, 1) := by decide +kernel
theorem w212_374 : ma_W d 212 Q 374 l (.int y :: .int x :: st) H a b = ma_W d 212 Q 375 l (.int (x + y) :: st) H a b := wp_iadd f212_374
theorem f212_375 : ma_ins 212 375 = some (.iaload, 1) := by decide +kernel
theorem w212_375 : ma_W d 212 Q 375 l (.int x :: .ref i :: st) H a b = ma_ial (H.1 i) x (ma_kV d 212 Q 376 l st H a b) := wp_iald f212_375
theorem f212_376 : ma_ins 212 376 = some (.invokevirtual 47, 3) := by decide +kernel
theorem w212_376 : ma_W d 212 Q 376 l (.int x1 :: .int x0 :: .ref i :: st) H a b = (ma_cat st ≤ 8 ∧ a + 0 ≤ 600000 ∧ b + 0 ≤ 7302250 ∧ ma_cv (H.1 i) 8 d 157 [.ref i, .int x0, .int x1] H (ma_kC d 212 Q 379 l st (a + 0) (b + 0))) := wc_V (ia := 157) (n := 3) (cn := 8) f212_376 (by decide +kernel) (fun _ => rfl) rfl rfl
theorem f212_379 : ma_ins 212 379 = some (.if_icmp .eq 612, 3) := by decide +kernel
theorem w212_379 : ma_W d 212 Q 379 l (.int y :: .int x :: st) H a b = ma_if (x = y) d 212 Q 991 382 l st H a b := wp_ic (id := 212) (pc := 379) (c := .eq) (off := 612) 991 f212_379 (by decide)
theorem f212_382 : ma_ins 212 382 = some (.iconst 0, 1) := by decide +kernel
theorem w212_382 : ma_W d 212 Q 382 l st H a b = ma_W d 212 Q 383 l (.int 0 :: st) H a b := wp_iconst f212_382 (by decide)
theorem f212_383 : ma_ins 212 383 = some (.ireturn, 1) := by decide +kernel
theorem w212_383 : ma_W d 212 Q 383 l [.int x] H a b = ((x = 0 ∨ x = 1) ∧ Q (some (.int x)) H) := wp_zret f212_383 rfl
theorem f212_384 : ma_ins 212 384 = some (.aload_n 1, 1) := by decide +kernel
theorem w212_384 : ma_W d 212 Q 384 (o0 :: some (.ref i) :: l) st H a b = ma_W d 212 Q 385 (o0 :: some (.ref i) :: l) (.ref i :: st) H a b := wp_aload_n (x := some i) f212_384 rfl
theorem f212_385 : ma_ins 212 385 = some (.invokevirtual 48, 3) := by decide +kernel
theorem w212_385 : ma_W d 212 Q 385 l (.ref i :: st) H a b = (ma_cat st ≤ 8 ∧ a + 0 ≤ 600000 ∧ b + 0 ≤ 7302250 ∧ ma_cv (H.1 i) 7 d 86 [.ref i] H (ma_kC d 212 Q 388 l st (a + 0) (b + 0))) := wc_V (ia := 86) (n := 1) (cn := 7) f212_385 (by decide +kernel) (fun _ => rfl) rfl rfl
theorem f212_388 : ma_ins 212 388 = some (.aload_n 2, 1) := by decide +kernel
theorem w212_388 : ma_W d 212 Q 388 (o0 :: o1 :: some (.ref i) :: l) st H a b = ma_W d 212 Q 389 (o0 :: o1 :: some (.ref i) :: l) (.ref i :: st) H a b := wp_aload_n (x := some i) f212_388 rfl
theorem f212_389 : ma_ins 212 389 = some (.invokevirtual 51, 3) := by decide +kernel
theorem w212_389 : ma_W d 212 Q 389 l (.ref i :: st) H a b = (ma_cat st ≤ 8 ∧ a + 0 ≤ 600000 ∧ b + 0 ≤ 7302250 ∧ ma_cv (H.1 i) 8 d 158 [.ref i] H (ma_kC d 212 Q 392 l st (a + 0) (b + 0))) := wc_V (ia := 158) (n := 1) (cn := 8) f212_389 (by decide +kernel) (fun _ => rfl) rfl rfl
theorem f212_392 : ma_ins 212 392 = some (.if_icmp .eq 599, 3) := by decide +kernel
theorem w212_392 : ma_W d 212 Q 392 l (.int y :: .int x :: st) H a b = ma_if (x = y) d 212 Q 991 395 l st H a b := wp_ic (id := 212) (pc := 392) (c := .eq) (off := 599) 991 f212_392 (by decide)
theorem f212_395 : ma_ins 212 395 = some (.iconst 0, 1) := by decide +kernel
theorem w212_395 : ma_W d 212 Q 395 l st H a b = ma_W d 212 Q 396 l (.int 0 :: st) H a b := wp_iconst f212_395 (by decide)
theorem f212_396 : ma_ins 212 396 = some (.ireturn, 1) := by decide +kernel
theorem w212_396 : ma_W d 212 Q 396 l [.int x] H a b = ((x = 0 ∨ x = 1) ∧ Q (some (.int x)) H) := wp_zret f212_396 rfl
theorem f212_397 : ma_ins 212 397 = some (.aload_n 1, 1) := by decide +kernel
theorem w212_397 : ma_W d 212 Q 397 (o0 :: some (.ref i) :: l) st H a b = ma_W d 212 Q 398 (o0 :: some (.ref i) :: l) (.ref i :: st) H a b := wp_aload_n (x := some i) f212_397 rfl
theorem f212_398 : ma_ins 212 398 = some (.aload_n 0, 1) := by decide +kernel
theorem w212_398 : ma_W d 212 Q 398 (some (.ref i) :: l) st H a b = ma_W d 212 Q 399 (some (.ref i) :: l) (.ref i :: st) H a b := wp_aload_n (x := some i) f212_398 rfl
theorem f212_399 : ma_ins 212 399 = some (.iload_n 3, 1) := by decide +kernel
theorem w212_399 : ma_W d 212 Q 399 (o0 :: o1 :: o2 :: some (.int x) :: l) st H a b = ma_W d 212 Q 400 (o0 :: o1 :: o2 :: some (.int x) :: l) (.int x :: st) H a b := wp_iload_n f212_399 rfl
theorem f212_400 : ma_ins 212 400 = some (.iconst 1, 1) := by decide +kernel
theorem w212_400 : ma_W d 212 Q 400 l st H a b = ma_W d 212 Q 401 l (.int 1 :: st) H a b := wp_iconst f212_400 (by decide)
theorem f212_401 : ma_ins 212 401 = some (.iadd, 1) := by decide +kernel
theorem w212_401 : ma_W d 212 Q 401 l (.int y :: .int x :: st) H a b = ma_W d 212 Q 402 l (.int (x + y) :: st) H a b := wp_iadd f212_401
theorem f212_402 : ma_ins 212 402 = some (.iaload, 1) := by decide +kernel
theorem w212_402 : ma_W d 212 Q 402 l (.int x :: .ref i :: st) H a b = ma_ial (H.1 i) x (ma_kV d 212 Q 403 l st H a b) := wp_iald f212_402
theorem f212_403 : ma_ins 212 403 = some (.aload_n 0, 1) := by decide +kernel
theorem w212_403 : ma_W d 212 Q 403 (some (.ref i) :: l) st H a b = ma_W d 212 Q 404 (some (.ref i) :: l) (.ref i :: st) H a b := wp_aload_n (x := some i) f212_403 rfl
theorem f212_404 : ma_ins 212 404 = some (.iload_n 3, 1) := by decide +kernel
theorem w212_404 : ma_W d 212 Q 404 (o0 :: o1 :: o2 :: some (.int x) :: l) st H a b = ma_W d 212 Q 405 (o0 :: o1 :: o2 :: some (.int x) :: l) (.int x :: st) H a b := wp_iload_n f212_404 rfl
theorem f212_405 : ma_ins 212 405 = some (.iconst 2, 1) := by decide +kernel
theorem w212_405 : ma_W d 212 Q 405 l st H a b = ma_W d 212 Q 406 l (.int 2 :: st) H a b := wp_iconst f212_405 (by decide)
theorem f212_406 : ma_ins 212 406 = some (.iadd, 1) := by decide +kernel
theorem w212_406 : ma_W d 212 Q 406 l (.int y :: .int x :: st) H a b = ma_W d 212 Q 407 l (.int (x + y) :: st) H a b := wp_iadd f212_406
theorem f212_407 : ma_ins 212 407 = some (.iaload, 1) := by decide +kernel
theorem w212_407 : ma_W d 212 Q 407 l (.int x :: .ref i :: st) H a b = ma_ial (H.1 i) x (ma_kV d 212 Q 408 l st H a b) := wp_iald f212_407
theorem f212_408 : ma_ins 212 408 = some (.invokevirtual 52, 3) := by decide +kernel
theorem w212_408 : ma_W d 212 Q 408 l (.int x1 :: .int x0 :: .ref i :: st) H a b = (ma_cat st ≤ 8 ∧ a + 0 ≤ 600000 ∧ b + 0 ≤ 7302250 ∧ ma_cv (H.1 i) 7 d 87 [.ref i, .int x0, .int x1] H (ma_kC d 212 Q 411 l st (a + 0) (b + 0))) := wc_V (ia := 87) (n := 3) (cn := 7) f212_408 (by decide +kernel) (fun _ => rfl) rfl rfl
theorem f212_411 : ma_ins 212 411 = some (.aload_n 2, 1) := by decide +kernel
theorem w212_411 : ma_W d 212 Q 411 (o0 :: o1 :: some (.ref i) :: l) st H a b = ma_W d 212 Q 412 (o0 :: o1 :: some (.ref i) :: l) (.ref i :: st) H a b := wp_aload_n (x := some i) f212_411 rfl
theorem f212_412 : ma_ins 212 412 = some (.aload_n 0, 1) := by decide +kernel
theorem w212_412 : ma_W d 212 Q 412 (some (.ref i) :: l) st H a b = ma_W d 212 Q 413 (some (.ref i) :: l) (.ref i :: st) H a b := wp_aload_n (x := some i) f212_412 rfl
theorem f212_413 : ma_ins 212 413 = some (.iload_n 3, 1) := by decide +kernel
theorem w212_413 : ma_W d 212 Q 413 (o0 :: o1 :: o2 :: some (.int x) :: l) st H a b = ma_W d 212 Q 414 (o0 :: o1 :: o2 :: some (.int x) :: l) (.int x :: st) H a b := wp_iload_n f212_413 rfl
theorem f212_414 : ma_ins 212 414 = some (.iconst 1, 1) := by decide +kernel
theorem w212_414 : ma_W d 212 Q 414 l st H a b = ma_W d 212 Q 415 l (.int 1 :: st) H a b := wp_iconst f212_414 (by decide)
theorem f212_415 : ma_ins 212 415 = some (.iadd, 1) := by decide +kernel
theorem w212_415 : ma_W d 212 Q 415 l (.int y :: .int x :: st) H a b = ma_W d 212 Q 416 l (.int (x + y) :: st) H a b := wp_iadd f212_415
theorem f212_416 : ma_ins 212 416 = some (.iaload, 1) := by decide +kernel
theorem w212_416 : ma_W d 212 Q 416 l (.int x :: .ref i :: st) H a b = ma_ial (H.1 i) x (ma_kV d 212 Q 417 l st H a b) := wp_iald f212_416
theorem f212_417 : ma_ins 212 417 = some (.aload_n 0, 1) := by decide +kernel
theorem w212_417 : ma_W d 212 Q 417 (some (.ref i) :: l) st H a b = ma_W d 212 Q 418 (some (.ref i) :: l) (.ref i :: st) H a b := wp_aload_n (x := some i) f212_417 rfl
theorem f212_418 : ma_ins 212 418 = some (.iload_n 3, 1) := by decide +kernel
theorem w212_418 : ma_W d 212 Q 418 (o0 :: o1 :: o2 :: some (.int x) :: l) st H a b = ma_W d 212 Q 419 (o0 :: o1 :: o2 :: some (.int x) :: l) (.int x :: st) H a b := wp_iload_n f212_418 rfl
theorem f212_419 : ma_ins 212 419 = some (.iconst 2, 1) := by decide +kernel
theorem w212_419 : ma_W d 212 Q 419 l st H a b = ma_W d 212 Q 420 l (.int 2 :: st) H a b := wp_iconst f212_419 (by decide)
theorem f212_420 : ma_ins 212 420 = some (.iadd, 1) := by decide +kernel
theorem w212_420 : ma_W d 212 Q 420 l (.int y :: .int x :: st) H a b = ma_W d 212 Q 421 l (.int (x + y) :: st) H a b := wp_iadd f212_420
theorem f212_421 : ma_ins 212 421 = some (.iaload, 1) := by decide +kernel
theorem w212_421 : ma_W d 212 Q 421 l (.int x :: .ref i :: st) H a b = ma_ial (H.1 i) x (ma_kV d 212 Q 422 l st H a b) := wp_iald f212_421
theorem f212_422 : ma_ins 212 422 = some (.invokevirtual 55, 3) := by decide +kernel
theorem w212_422 : ma_W d 212 Q 422 l (.int x1 :: .int x0 :: .ref i :: st) H a b = (ma_cat st ≤ 8 ∧ a + 0 ≤ 600000 ∧ b + 0 ≤ 7302250 ∧ ma_cv (H.1 i) 8 d 159 [.ref i, .int x0, .int x1] H (ma_kC d 212 Q 425 l st (a + 0) (b + 0))) := wc_V (ia := 159) (n := 3) (cn := 8) f212_422 (by decide +kernel) (fun _ => rfl) rfl rfl
theorem f212_425 : ma_ins 212 425 = some (.if_icmp .eq 566, 3) := by decide +kernel
theorem w212_425 : ma_W d 212 Q 425 l (.int y :: .int x :: st) H a b = ma_if (x = y) d 212 Q 991 428 l st H a b := wp_ic (id := 212) (pc := 425) (c := .eq) (off := 566) 991 f212_425 (by decide)
theorem f212_428 : ma_ins 212 428 = some (.iconst 0, 1) := by decide +kernel
theorem w212_428 : ma_W d 212 Q 428 l st H a b = ma_W d 212 Q 429 l (.int 0 :: st) H a b := wp_iconst f212_428 (by decide)
theorem f212_429 : ma_ins 212 429 = some (.ireturn, 1) := by decide +kernel
theorem w212_429 : ma_W d 212 Q 429 l [.int x] H a b = ((x = 0 ∨ x = 1) ∧ Q (some (.int x)) H) := wp_zret f212_429 rfl
theorem f212_430 : ma_ins 212 430 = some (.aload_n 1, 1) := by decide +kernel
theorem w212_430 : ma_W d 212 Q 430 (o0 :: some (.ref i) :: l) st H a b = ma_W d 212 Q 431 (o0 :: some (.ref i) :: l) (.ref i :: st) H a b := wp_aload_n (x := some i) f212_430 rfl
theorem f212_431 : ma_ins 212 431 = some (.aload_n 0, 1) := by decide +kernel
theorem w212_431 : ma_W d 212 Q 431 (some (.ref i) :: l) st H a b = ma_W d 212 Q 432 (some (.ref i) :: l) (.ref i :: st) H a b := wp_aload_n (x := some i) f212_431 rfl
theorem f212_432 : ma_ins 212 432 = some (.iload_n 3, 1) := by decide +kernel
theorem w212_432 : ma_W d 212 Q 432 (o0 :: o1 :: o2 :: some (.int x) :: l) st H a b = ma_W d 212 Q 433 (o0 :: o1 :: o2 :: some (.int x) :: l) (.int x :: st) H a b := wp_iload_n f212_432 rfl
theorem f212_433 : ma_ins 212 433 = some (.iconst 1, 1) := by decide +kernel
theorem w212_433 : ma_W d 212 Q 433 l st H a b = ma_W d 212 Q 434 l (.int 1 :: st) H a b := wp_iconst f212_433 (by decide)
theorem f212_434 : ma_ins 212 434 = some (.iadd, 1) := by decide +kernel
theorem w212_434 : ma_W d 212 Q 434 l (.int y :: .int x :: st) H a b = ma_W d 212 Q 435 l (.int (x + y) :: st) H a b := wp_iadd f212_434
theorem f212_435 : ma_ins 212 435 = some (.iaload, 1) := by decide +kernel
theorem w212_435 : ma_W d 212 Q 435 l (.int x :: .ref i :: st) H a b = ma_ial (H.1 i) x (ma_kV d 212 Q 436 l st H a b) := wp_iald f212_435
theorem f212_436 : ma_ins 212 436 = some (.aload_n 0, 1) := by decide +kernel
theorem w212_436 : ma_W d 212 Q 436 (some (.ref i) :: l) st H a b = ma_W d 212 Q 437 (some (.ref i) :: l) (.ref i :: st) H a b := wp_aload_n (x := some i) f212_436 rfl
theorem f212_437 : ma_ins 212 437 = some (.iload_n 3, 1) := by decide +kernel
theorem w212_437 : ma_W d 212 Q 437 (o0 :: o1 :: o2 :: some (.int x) :: l) st H a b = ma_W d 212 Q 438 (o0 :: o1 :: o2 :: some (.int x) :: l) (.int x :: st) H a b := wp_iload_n f212_437 rfl
theorem f212_438 : ma_ins 212 438 = some (.iconst 2, 1) := by decide +kernel
theorem w212_438 : ma_W d 212 Q 438 l st H a b = ma_W d 212 Q 439 l (.int 2 :: st) H a b := wp_iconst f212_438 (by decide)
theorem f212_439 : ma_ins 212 439 = some (.iadd, 1) := by decide +kernel
theorem w212_439 : ma_W d 212 Q 439 l (.int y :: .int x :: st) H a b = ma_W d 212 Q 440 l (.int (x + y) :: st) H a b := wp_iadd f212_439
theorem f212_440 : ma_ins 212 440 = some (.iaload, 1) := by decide +kernel
theorem w212_440 : ma_W d 212 Q 440 l (.int x :: .ref i :: st) H a b = ma_ial (H.1 i) x (ma_kV d 212 Q 441 l st H a b) := wp_iald f212_440
theorem f212_441 : ma_ins 212 441 = some (.invokevirtual 56, 3) := by decide +kernel
theorem w212_441 : ma_W d 212 Q 441 l (.int x1 :: .int x0 :: .ref i :: st) H a b = (ma_cat st ≤ 8 ∧ a + 0 ≤ 600000 ∧ b + 0 ≤ 7302250 ∧ ma_cv (H.1 i) 7 d 88 [.ref i, .int x0, .int x1] H (ma_kC d 212 Q 444 l st (a + 0) (b + 0))) := wc_V (ia := 88) (n := 3) (cn := 7) f212_441 (by decide +kernel) (fun _ => rfl) rfl rfl
theorem f212_444 : ma_ins 212 444 = some (.aload_n 2, 1) := by decide +kernel
theorem w212_444 : ma_W d 212 Q 444 (o0 :: o1 :: some (.ref i) :: l) st H a b = ma_W d 212 Q 445 (o0 :: o1 :: some (.ref i) :: l) (.ref i :: st) H a b := wp_aload_n (x := some i) f212_444 rfl
theorem f212_445 : ma_ins 212 445 = some (.aload_n 0, 1) := by decide +kernel
theorem w212_445 : ma_W d 212 Q 445 (some (.ref i) :: l) st H a b = ma_W d 212 Q 446 (some (.ref i) :: l) (.ref i :: st) H a b := wp_aload_n (x := some i) f212_445 rfl
theorem f212_446 : ma_ins 212 446 = some (.iload_n 3, 1) := by decide +kernel
theorem w212_446 : ma_W d 212 Q 446 (o0 :: o1 :: o2 :: some (.int x) :: l) st H a b = ma_W d 212 Q 447 (o0 :: o1 :: o2 :: some (.int x) :: l) (.int x :: st) H a b := wp_iload_n f212_446 rfl
theorem f212_447 : ma_ins 212 447 = some (.iconst 1, 1) := by decide +kernel
theorem w212_447 : ma_W d 212 Q 447 l st H a b = ma_W d 212 Q 448 l (.int 1 :: st) H a b := wp_iconst f212_447 (by decide)
theorem f212_448 : ma_ins 212 448 = some (.iadd, 1) := by decide +kernel
theorem w212_448 : ma_W d 212 Q 448 l (.int y :: .int x :: st) H a b = ma_W d 212 Q 449 l (.int (x + y) :: st) H a b := wp_iadd f212_448
theorem f212_449 : ma_ins 212 449 = some (.iaload, 1) := by decide +kernel
theorem w212_449 : ma_W d 212 Q 449 l (.int x :: .ref i :: st) H a b = ma_ial (H.1 i) x (ma_kV d 212 Q 450 l st H a b) := wp_iald f212_449
theorem f212_450 : ma_ins 212 450 = some (.aload_n 0, 1) := by decide +kernel
theorem w212_450 : ma_W d 212 Q 450 (some (.ref i) :: l) st H a b = ma_W d 212 Q 451 (some (.ref i) :: l) (.ref i :: st) H a b := wp_aload_n (x := some i) f212_450 rfl
theorem f212_451 : ma_ins 212 451 = some (.iload_n 3, 1) := by decide +kernel
theorem w212_451 : ma_W d 212 Q 451 (o0 :: o1 :: o2 :: some (.int x) :: l) st H a b = ma_W d 212 Q 452 (o0 :: o1 :: o2 :: some (.int x) :: l) (.int x :: st) H a b := wp_iload_n f212_451 rfl
theorem f212_452 : ma_ins 212 452 = some (.iconst 2, 1) := by decide +kernel
theorem w212_452 : ma_W d 212 Q 452 l st H a b = ma_W d 212 Q 453 l (.int 2 :: st) H a b := wp_iconst f212_452 (by decide)
theorem f212_453 : ma_ins 212 453 = some (.iadd, 1) := by decide +kernel
theorem w212_453 : ma_W d 212 Q 453 l (.int y :: .int x :: st) H a b = ma_W d 212 Q 454 l (.int (x + y) :: st) H a b := wp_iadd f212_453
theorem f212_454 : ma_ins 212 454 = some (.iaload, 1) := by decide +kernel
theorem w212_454 : ma_W d 212 Q 454 l (.int x :: .ref i :: st) H a b = ma_ial (H.1 i) x (ma_kV d 212 Q 455 l st H a b) := wp_iald f212_454
theorem f212_455 : ma_ins 212 455 = some (.invokevirtual 59, 3) := by decide +kernel
theorem w212_455 : ma_W d 212 Q 455 l (.int x1 :: .int x0 :: .ref i :: st) H a b = (ma_cat st ≤ 8 ∧ a + 0 ≤ 600000 ∧ b + 0 ≤ 7302250 ∧ ma_cv (H.1 i) 8 d 161 [.ref i, .int x0, .int x1] H (ma_kC d 212 Q 458 l st (a + 0) (b + 0))) := wc_V (ia := 161) (n := 3) (cn := 8) f212_455 (by decide +kernel) (fun _ => rfl) rfl rfl
theorem f212_458 : ma_ins 212 458 = some (.if_icmp .eq 533, 3) := by decide +kernel
theorem w212_458 : ma_W d 212 Q 458 l (.int y :: .int x :: st) H a b = ma_if (x = y) d 212 Q 991 461 l st H a b := wp_ic (id := 212) (pc := 458) (c := .eq) (off := 533) 991 f212_458 (by decide)
theorem f212_461 : ma_ins 212 461 = some (.iconst 0, 1) := by decide +kernel
theorem w212_461 : ma_W d 212 Q 461 l st H a b = ma_W d 212 Q 462 l (.int 0 :: st) H a b := wp_iconst f212_461 (by decide)
theorem f212_462 : ma_ins 212 462 = some (.ireturn, 1) := by decide +kernel
theorem w212_462 : ma_W d 212 Q 462 l [.int x] H a b = ((x = 0 ∨ x = 1) ∧ Q (some (.int x)) H) := wp_zret f212_462 rfl
theorem f212_463 : ma_ins 212 463 = some (.aload_n 1, 1) := by decide +kernel
theorem w212_463 : ma_W d 212 Q 463 (o0 :: some (.ref i) :: l) st H a b = ma_W d 212 Q 464 (o0 :: some (.ref i) :: l) (.ref i :: st) H a b := wp_aload_n (x := some i) f212_463 rfl
theorem f212_464 : ma_ins 212 464 = some (.invokevirtual 60, 3) := by decide +kernel
theorem w212_464 : ma_W d 212 Q 464 l (.ref i :: st) H a b = (ma_cat st ≤ 8 ∧ a + 0 ≤ 600000 ∧ b + 0 ≤ 7302250 ∧ ma_cv (H.1 i) 7 d 89 [.ref i] H (ma_kC d 212 Q 467 l st (a + 0) (b + 0))) := wc_V (ia := 89) (n := 1) (cn := 7) f212_464 (by decide +kernel) (fun _ => rfl) rfl rfl
theorem f212_467 : ma_ins 212 467 = some (.aload_n 2, 1) := by decide +kernel
theorem w212_467 : ma_W d 212 Q 467 (o0 :: o1 :: some (.ref i) :: l) st H a b = ma_W d 212 Q 468 (o0 :: o1 :: some (.ref i) :: l) (.ref i :: st) H a b := wp_aload_n (x := some i) f212_467 rfl
theorem f212_468 : ma_ins 212 468 = some (.invokevirtual 63, 3) := by decide +kernel
theorem w212_468 : ma_W d 212 Q 468 l (.ref i :: st) H a b = (ma_cat st ≤ 8 ∧ a + 0 ≤ 600000 ∧ b + 0 ≤ 7302250 ∧ ma_cv (H.1 i) 8 d 164 [.ref i] H (ma_kC d 212 Q 471 l st (a + 0) (b + 0))) := wc_V (ia := 164) (n := 1) (cn := 8) f212_468 (by decide +kernel) (fun _ => rfl) rfl rfl
theorem f212_471 : ma_ins 212 471 = some (.if_icmp .eq 520, 3) := by decide +kernel
theorem w212_471 : ma_W d 212 Q 471 l (.int y :: .int x :: st) H a b = ma_if (x = y) d 212 Q 991 474 l st H a b := wp_ic (id := 212) (pc := 471) (c := .eq) (off := 520) 991 f212_471 (by decide)
theorem f212_474 : ma_ins 212 474 = some (.iconst 0, 1) := by decide +kernel
theorem w212_474 : ma_W d 212 Q 474 l st H a b = ma_W d 212 Q 475 l (.int 0 :: st) H a b := wp_iconst f212_474 (by decide)
theorem f212_475 : ma_ins 212 475 = some (.ireturn, 1) := by decide +kernel
theorem w212_475 : ma_W d 212 Q 475 l [.int x] H a b = ((x = 0 ∨ x = 1) ∧ Q (some (.int x)) H) := wp_zret f212_475 rfl
theorem f212_476 : ma_ins 212 476 = some (.aload_n 1, 1) := by decide +kernel
theorem w212_476 : ma_W d 212 Q 476 (o0 :: some (.ref i) :: l) st H a b = ma_W d 212 Q 477 (o0 :: some (.ref i) :: l) (.ref i :: st) H a b := wp_aload_n (x := some i) f212_476 rfl
theorem f212_477 : ma_ins 212 477 = some (.invokevirtual 64, 3) := by decide +kernel
theorem w212_477 : ma_W d 212 Q 477 l (.ref i :: st) H a b = (ma_cat st ≤ 8 ∧ a + 0 ≤ 600000 ∧ b + 0 ≤ 7302250 ∧ ma_cv (H.1 i) 7 d 90 [.ref i] H (ma_kC d 212 Q 480 l st (a + 0) (b + 0))) := wc_V (ia := 90) (n := 1) (cn := 7) f212_477 (by decide +kernel) (fun _ => rfl) rfl rfl
theorem f212_480 : ma_ins 212 480 = some (.aload_n 2, 1) := by decide +kernel
theorem w212_480 : ma_W d 212 Q 480 (o0 :: o1 :: some (.ref i) :: l) st H a b = ma_W d 212 Q 481 (o0 :: o1 :: some (.ref i) :: l) (.ref i :: st) H a b := wp_aload_n (x := some i) f212_480 rfl
theorem f212_481 : ma_ins 212 481 = some (.invokevirtual 67, 3) := by decide +kernel
theorem w212_481 : ma_W d 212 Q 481 l (.ref i :: st) H a b = (ma_cat st ≤ 8 ∧ a + 0 ≤ 600000 ∧ b + 0 ≤ 7302250 ∧ ma_cv (H.1 i) 8 d 165 [.ref i] H (ma_kC d 212 Q 484 l st (a + 0) (b + 0))) := wc_V (ia := 165) (n := 1) (cn := 8) f212_481 (by decide +kernel) (fun _ => rfl) rfl rfl
theorem f212_484 : ma_ins 212 484 = some (.if_icmp .eq 507, 3) := by decide +kernel
theorem w212_484 : ma_W d 212 Q 484 l (.int y :: .int x :: st) H a b = ma_if (x = y) d 212 Q 991 487 l st H a b := wp_ic (id := 212) (pc := 484) (c := .eq) (off := 507) 991 f212_484 (by decide)
theorem f212_487 : ma_ins 212 487 = some (.iconst 0, 1) := by decide +kernel
theorem w212_487 : ma_W d 212 Q 487 l st H a b = ma_W d 212 Q 488 l (.int 0 :: st) H a b := wp_iconst f212_487 (by decide)
theorem f212_488 : ma_ins 212 488 = some (.ireturn, 1) := by decide +kernel
theorem w212_488 : ma_W d 212 Q 488 l [.int x] H a b = ((x = 0 ∨ x = 1) ∧ Q (some (.int x)) H) := wp_zret f212_488 rfl
theorem f212_489 : ma_ins 212 489 = some (.aload_n 1, 1) := by decide +kernel
theorem w212_489 : ma_W d 212 Q 489 (o0 :: some (.ref i) :: l) st H a b = ma_W d 212 Q 490 (o0 :: some (.ref i) :: l) (.ref i :: st) H a b := wp_aload_n (x := some i) f212_489 rfl
theorem f212_490 : ma_ins 212 490 = some (.aload_n 0, 1) := by decide +kernel
theorem w212_490 : ma_W d 212 Q 490 (some (.ref i) :: l) st H a b = ma_W d 212 Q 491 (some (.ref i) :: l) (.ref i :: st) H a b := wp_aload_n (x := some i) f212_490 rfl
theorem f212_491 : ma_ins 212 491 = some (.iload_n 3, 1) := by decide +kernel
theorem w212_491 : ma_W d 212 Q 491 (o0 :: o1 :: o2 :: some (.int x) :: l) st H a b = ma_W d 212 Q 492 (o0 :: o1 :: o2 :: some (.int x) :: l) (.int x :: st) H a b := wp_iload_n f212_491 rfl
theorem f212_492 : ma_ins 212 492 = some (.iconst 1, 1) := by decide +kernel
theorem w212_492 : ma_W d 212 Q 492 l st H a b = ma_W d 212 Q 493 l (.int 1 :: st) H a b := wp_iconst f212_492 (by decide)
theorem f212_493 : ma_ins 212 493 = some (.iadd, 1) := by decide +kernel
theorem w212_493 : ma_W d 212 Q 493 l (.int y :: .int x :: st) H a b = ma_W d 212 Q 494 l (.int (x + y) :: st) H a b := wp_iadd f212_493
theorem f212_494 : ma_ins 212 494 = some (.iaload, 1) := by decide +kernel
theorem w212_494 : ma_W d 212 Q 494 l (.int x :: .ref i :: st) H a b = ma_ial (H.1 i) x (ma_kV d 212 Q 495 l st H a b) := wp_iald f212_494
theorem f212_495 : ma_ins 212 495 = some (.invokevirtual 68, 3) := by decide +kernel
theorem w212_495 : ma_W d 212 Q 495 l (.int x0 :: .ref i :: st) H a b = (ma_cat st ≤ 8 ∧ a + 0 ≤ 600000 ∧ b + 0 ≤ 7302250 ∧ ma_cv (H.1 i) 7 d 91 [.ref i, .int x0] H (ma_kC d 212 Q 498 l st (a + 0) (b + 0))) := wc_V (ia := 91) (n := 2) (cn := 7) f212_495 (by decide +kernel) (fun _ => rfl) rfl rfl
theorem f212_498 : ma_ins 212 498 = some (.aload_n 2, 1) := by decide +kernel
theorem w212_498 : ma_W d 212 Q 498 (o0 :: o1 :: some (.ref i) :: l) st H a b = ma_W d 212 Q 499 (o0 :: o1 :: some (.ref i) :: l) (.ref i :: st) H a b := wp_aload_n (x := some i) f212_498 rfl
theorem f212_499 : ma_ins 212 499 = some (.aload_n 0, 1) := by decide +kernel
theorem w212_499 : ma_W d 212 Q 499 (some (.ref i) :: l) st H a b = ma_W d 212 Q 500 (some (.ref i) :: l) (.ref i :: st) H a b := wp_aload_n (x := some i) f212_499 rfl
theorem f212_500 : ma_ins 212 500 = some (.iload_n 3, 1) := by decide +kernel
theorem w212_500 : ma_W d 212 Q 500 (o0 :: o1 :: o2 :: some (.int x) :: l) st H a b = ma_W d 212 Q 501 (o0 :: o1 :: o2 :: some (.int x) :: l) (.int x :: st) H a b := wp_iload_n f212_500 rfl
theorem f212_501 : ma_ins 212 501 = some (.iconst 1, 1) := by decide +kernel
theorem w212_501 : ma_W d 212 Q 501 l st H a b = ma_W d 212 Q 502 l (.int 1 :: st) H a b := wp_iconst f212_501 (by decide)
theorem f212_502 : ma_ins 212 502 = some (.iadd, 1) := by decide +kernel
theorem w212_502 : ma_W d 212 Q 502 l (.int y :: .int x :: st) H a b = ma_W d 212 Q 503 l (.int (x + y) :: st) H a b := wp_iadd f212_502
theorem f212_503 : ma_ins 212 503 = some (.iaload, 1) := by decide +kernel
theorem w212_503 : ma_W d 212 Q 503 l (.int x :: .ref i :: st) H a b = ma_ial (H.1 i) x (ma_kV d 212 Q 504 l st H a b) := wp_iald f212_503
theorem f212_504 : ma_ins 212 504 = some (.invokevirtual 71, 3) := by decide +kernel
theorem w212_504 : ma_W d 212 Q 504 l (.int x0 :: .ref i :: st) H a b = (ma_cat st ≤ 8 ∧ a + 0 ≤ 600000 ∧ b + 0 ≤ 7302250 ∧ ma_cv (H.1 i) 8 d 166 [.ref i, .int x0] H (ma_kC d 212 Q 507 l st (a + 0) (b + 0))) := wc_V (ia := 166) (n := 2) (cn := 8) f212_504 (by decide +kernel) (fun _ => rfl) rfl rfl
theorem f212_507 : ma_ins 212 507 = some (.if_icmp .eq 484, 3) := by decide +kernel
theorem w212_507 : ma_W d 212 Q 507 l (.int y :: .int x :: st) H a b = ma_if (x = y) d 212 Q 991 510 l st H a b := wp_ic (id := 212) (pc := 507) (c := .eq) (off := 484) 991 f212_507 (by decide)
theorem f212_510 : ma_ins 212 510 = some (.iconst 0, 1) := by decide +kernel
theorem w212_510 : ma_W d 212 Q 510 l st H a b = ma_W d 212 Q 511 l (.int 0 :: st) H a b := wp_iconst f212_510 (by decide)
theorem f212_511 : ma_ins 212 511 = some (.ireturn, 1) := by decide +kernel
theorem w212_511 : ma_W d 212 Q 511 l [.int x] H a b = ((x = 0 ∨ x = 1) ∧ Q (some (.int x)) H) := wp_zret f212_511 rfl
theorem f212_512 : ma_ins 212 512 = some (.aload_n 1, 1) := by decide +kernel
theorem w212_512 : ma_W d 212 Q 512 (o0 :: some (.ref i) :: l) st H a b = ma_W d 212 Q 513 (o0 :: some (.ref i) :: l) (.ref i :: st) H a b := wp_aload_n (x := some i) f212_512 rfl
theorem f212_513 : ma_ins 212 513 = some (.invokevirtual 72, 3) := by decide +kernel
theorem w212_513 : ma_W d 212 Q 513 l (.ref i :: st) H a b = (ma_cat st ≤ 8 ∧ a + 0 ≤ 600000 ∧ b + 0 ≤ 7302250 ∧ ma_cv (H.1 i) 7 d 92 [.ref i] H (ma_kC d 212 Q 516 l st (a + 0) (b + 0))) := wc_V (ia := 92) (n := 1) (cn := 7) f212_513 (by decide +kernel) (fun _ => rfl) rfl rfl
theorem f212_516 : ma_ins 212 516 = some (.aload_n 2, 1) := by decide +kernel
theorem w212_516 : ma_W d 212 Q 516 (o0 :: o1 :: some (.ref i) :: l) st H a b = ma_W d 212 Q 517 (o0 :: o1 :: some (.ref i) :: l) (.ref i :: st) H a b := wp_aload_n (x := some i) f212_516 rfl
theorem f212_517 : ma_ins 212 517 = some (.invokevirtual 75, 3) := by decide +kernel
theorem w212_517 : ma_W d 212 Q 517 l (.ref i :: st) H a b = (ma_cat st ≤ 8 ∧ a + 0 ≤ 600000 ∧ b + 0 ≤ 7302250 ∧ ma_cv (H.1 i) 8 d 168 [.ref i] H (ma_kC d 212 Q 520 l st (a + 0) (b + 0))) := wc_V (ia := 168) (n := 1) (cn := 8) f212_517 (by decide +kernel) (fun _ => rfl) rfl rfl
theorem f212_520 : ma_ins 212 520 = some (.if_icmp .eq 471, 3) := by decide +kernel
theorem w212_520 : ma_W d 212 Q 520 l (.int y :: .int x :: st) H a b = ma_if (x = y) d 212 Q 991 523 l st H a b := wp_ic (id := 212) (pc := 520) (c := .eq) (off := 471) 991 f212_520 (by decide)
theorem f212_523 : ma_ins 212 523 = some (.iconst 0, 1) := by decide +kernel
theorem w212_523 : ma_W d 212 Q 523 l st H a b = ma_W d 212 Q 524 l (.int 0 :: st) H a b := wp_iconst f212_523 (by decide)
theorem f212_524 : ma_ins 212 524 = some (.ireturn, 1) := by decide +kernel
theorem w212_524 : ma_W d 212 Q 524 l [.int x] H a b = ((x = 0 ∨ x = 1) ∧ Q (some (.int x)) H) := wp_zret f212_524 rfl
theorem f212_525 : ma_ins 212 525 = some (.aload_n 1, 1) := by decide +kernel
theorem w212_525 : ma_W d 212 Q 525 (o0 :: some (.ref i) :: l) st H a b = ma_W d 212 Q 526 (o0 :: some (.ref i) :: l) (.ref i :: st) H a b := wp_aload_n (x := some i) f212_525 rfl
theorem f212_526 : ma_ins 212 526 = some (.aload_n 0, 1) := by decide +kernel
theorem w212_526 : ma_W d 212 Q 526 (some (.ref i) :: l) st H a b = ma_W d 212 Q 527 (some (.ref i) :: l) (.ref i :: st) H a b := wp_aload_n (x := some i) f212_526 rfl
theorem f212_527 : ma_ins 212 527 = some (.iload_n 3, 1) := by decide +kernel
theorem w212_527 : ma_W d 212 Q 527 (o0 :: o1 :: o2 :: some (.int x) :: l) st H a b = ma_W d 212 Q 528 (o0 :: o1 :: o2 :: some (.int x) :: l) (.int x :: st) H a b := wp_iload_n f212_527 rfl
theorem f212_528 : ma_ins 212 528 = some (.iconst 1, 1) := by decide +kernel
theorem w212_528 : ma_W d 212 Q 528 l st H a b = ma_W d 212 Q 529 l (.int 1 :: st) H a b := wp_iconst f212_528 (by decide)
theorem f212_529 : ma_ins 212 529 = some (.iadd, 1) := by decide +kernel
theorem w212_529 : ma_W d 212 Q 529 l (.int y :: .int x :: st) H a b = ma_W d 212 Q 530 l (.int (x + y) :: st) H a b := wp_iadd f212_529
theorem f212_530 : ma_ins 212 530 = some (.iaload, 1) := by decide +kernel
theorem w212_530 : ma_W d 212 Q 530 l (.int x :: .ref i :: st) H a b = ma_ial (H.1 i) x (ma_kV d 212 Q 531 l st H a b) := wp_iald f212_530
theorem f212_531 : ma_ins 212 531 = some (.aload_n 0, 1) := by decide +kernel
theorem w212_531 : ma_W d 212 Q 531 (some (.ref i) :: l) st H a b = ma_W d 212 Q 532 (some (.ref i) :: l) (.ref i :: st) H a b := wp_aload_n (x := some i) f212_531 rfl
theorem f212_532 : ma_ins 212 532 = some (.iload_n 3, 1) := by decide +kernel
theorem w212_532 : ma_W d 212 Q 532 (o0 :: o1 :: o2 :: some (.int x) :: l) st H a b = ma_W d 212 Q 533 (o0 :: o1 :: o2 :: some (.int x) :: l) (.int x :: st) H a b := wp_iload_n f212_532 rfl
theorem f212_533 : ma_ins 212 533 = some (.iconst 2, 1) := by decide +kernel
theorem w212_533 : ma_W d 212 Q 533 l st H a b = ma_W d 212 Q 534 l (.int 2 :: st) H a b := wp_iconst f212_533 (by decide)
theorem f212_534 : ma_ins 212 534 = some (.iadd, 1) := by decide +kernel
theorem w212_534 : ma_W d 212 Q 534 l (.int y :: .int x :: st) H a b = ma_W d 212 Q 535 l (.int (x + y) :: st) H a b := wp_iadd f212_534
theorem f212_535 : ma_ins 212 535 = some (.iaload, 1) := by decide +kernel
theorem w212_535 : ma_W d 212 Q 535 l (.int x :: .ref i :: st) H a b = ma_ial (H.1 i) x (ma_kV d 212 Q 536 l st H a b) := wp_iald f212_535
theorem f212_536 : ma_ins 212 536 = some (.invokevirtual 76, 3) := by decide +kernel
theorem w212_536 : ma_W d 212 Q 536 l (.int x1 :: .int x0 :: .ref i :: st) H a b = (ma_cat st ≤ 8 ∧ a + 0 ≤ 600000 ∧ b + 0 ≤ 7302250 ∧ ma_cv (H.1 i) 7 d 93 [.ref i, .int x0, .int x1] H (ma_kC d 212 Q 539 l st (a + 0) (b + 0))) := wc_V (ia := 93) (n := 3) (cn := 7) f212_536 (by decide +kernel) (fun _ => rfl) rfl rfl
theorem f212_539 : ma_ins 212 539 = some (.aload_n 2, 1) := by decide +kernel
theorem w212_539 : ma_W d 212 Q 539 (o0 :: o1 :: some (.ref i) :: l) st H a b = ma_W d 212 Q 540 (o0 :: o1 :: some (.ref i) :: l) (.ref i :: st) H a b := wp_aload_n (x := some i) f212_539 rfl
theorem f212_540 : ma_ins 212 540 = some (.aload_n 0, 1) := by decide +kernel
theorem w212_540 : ma_W d 212 Q 540 (some (.ref i) :: l) st H a b = ma_W d 212 Q 541 (some (.ref i) :: l) (.ref i :: st) H a b := wp_aload_n (x := some i) f212_540 rfl
theorem f212_541 : ma_ins 212 541 = some (.iload_n 3, 1) := by decide +kernel
theorem w212_541 : ma_W d 212 Q 541 (o0 :: o1 :: o2 :: some (.int x) :: l) st H a b = ma_W d 212 Q 542 (o0 :: o1 :: o2 :: some (.int x) :: l) (.int x :: st) H a b := wp_iload_n f212_541 rfl
theorem f212_542 : ma_ins 212 542 = some (.iconst 1, 1) := by decide +kernel
theorem w212_542 : ma_W d 212 Q 542 l st H a b = ma_W d 212 Q 543 l (.int 1 :: st) H a b := wp_iconst f212_542 (by decide)
theorem f212_543 : ma_ins 212 543 = some (.iadd, 1) := by decide +kernel
theorem w212_543 : ma_W d 212 Q 543 l (.int y :: .int x :: st) H a b = ma_W d 212 Q 544 l (.int (x + y) :: st) H a b := wp_iadd f212_543
theorem f212_544 : ma_ins 212 544 = some (.iaload, 1) := by decide +kernel
theorem w212_544 : ma_W d 212 Q 544 l (.int x :: .ref i :: st) H a b = ma_ial (H.1 i) x (ma_kV d 212 Q 545 l st H a b) := wp_iald f212_544
theorem f212_545 : ma_ins 212 545 = some (.aload_n 0, 1) := by decide +kernel
theorem w212_545 : ma_W d 212 Q 545 (some (.ref i) :: l) st H a b = ma_W d 212 Q 546 (some (.ref i) :: l) (.ref i :: st) H a b := wp_aload_n (x := some i) f212_545 rfl
theorem f212_546 : ma_ins 212 546 = some (.iload_n 3, 1) := by decide +kernel
theorem w212_546 : ma_W d 212 Q 546 (o0 :: o1 :: o2 :: some (.int x) :: l) st H a b = ma_W d 212 Q 547 (o0 :: o1 :: o2 :: some (.int x) :: l) (.int x :: st) H a b := wp_iload_n f212_546 rfl
theorem f212_547 : ma_ins 212 547 = some (.iconst 2, 1) := by decide +kernel
theorem w212_547 : ma_W d 212 Q 547 l st H a b = ma_W d 212 Q 548 l (.int 2 :: st) H a b := wp_iconst f212_547 (by decide)
theorem f212_548 : ma_ins 212 548 = some (.iadd, 1) := by decide +kernel
theorem w212_548 : ma_W d 212 Q 548 l (.int y :: .int x :: st) H a b = ma_W d 212 Q 549 l (.int (x + y) :: st) H a b := wp_iadd f212_548
theorem f212_549 : ma_ins 212 549 = some (.iaload, 1) := by decide +kernel
theorem w212_549 : ma_W d 212 Q 549 l (.int x :: .ref i :: st) H a b = ma_ial (H.1 i) x (ma_kV d 212 Q 550 l st H a b) := wp_iald f212_549
theorem f212_550 : ma_ins 212 550 = some (.invokevirtual 79, 3) := by decide +kernel
theorem w212_550 : ma_W d 212 Q 550 l (.int x1 :: .int x0 :: .ref i :: st) H a b = (ma_cat st ≤ 8 ∧ a + 0 ≤ 600000 ∧ b + 0 ≤ 7302250 ∧ ma_cv (H.1 i) 8 d 169 [.ref i, .int x0, .int x1] H (ma_kC d 212 Q 553 l st (a + 0) (b + 0))) := wc_V (ia := 169) (n := 3) (cn := 8) f212_550 (by decide +kernel) (fun _ => rfl) rfl rfl
theorem f212_553 : ma_ins 212 553 = some (.if_icmp .eq 438, 3) := by decide +kernel
theorem w212_553 : ma_W d 212 Q 553 l (.int y :: .int x :: st) H a b = ma_if (x = y) d 212 Q 991 556 l st H a b := wp_ic (id := 212) (pc := 553) (c := .eq) (off := 438) 991 f212_553 (by decide)
theorem f212_556 : ma_ins 212 556 = some (.iconst 0, 1) := by decide +kernel
theorem w212_556 : ma_W d 212 Q 556 l st H a b = ma_W d 212 Q 557 l (.int 0 :: st) H a b := wp_iconst f212_556 (by decide)
theorem f212_557 : ma_ins 212 557 = some (.ireturn, 1) := by decide +kernel
theorem w212_557 : ma_W d 212 Q 557 l [.int x] H a b = ((x = 0 ∨ x = 1) ∧ Q (some (.int x)) H) := wp_zret f212_557 rfl
theorem f212_558 : ma_ins 212 558 = some (.aload_n 1, 1) := by decide +kernel
theorem w212_558 : ma_W d 212 Q 558 (o0 :: some (.ref i) :: l) st H a b = ma_W d 212 Q 559 (o0 :: some (.ref i) :: l) (.ref i :: st) H a b := wp_aload_n (x := some i) f212_558 rfl
theorem f212_559 : ma_ins 212 559 = some (.aload_n 0, 1) := by decide +kernel
theorem w212_559 : ma_W d 212 Q 559 (some (.ref i) :: l) st H a b = ma_W d 212 Q 560 (some (.ref i) :: l) (.ref i :: st) H a b := wp_aload_n (x := some i) f212_559 rfl
theorem f212_560 : ma_ins 212 560 = some (.iload_n 3, 1) := by decide +kernel
theorem w212_560 : ma_W d 212 Q 560 (o0 :: o1 :: o2 :: some (.int x) :: l) st H a b = ma_W d 212 Q 561 (o0 :: o1 :: o2 :: some (.int x) :: l) (.int x :: st) H a b := wp_iload_n f212_560 rfl
theorem f212_561 : ma_ins 212 561 = some (.iconst 1, 1) := by decide +kernel
theorem w212_561 : ma_W d 212 Q 561 l st H a b = ma_W d 212 Q 562 l (.int 1 :: st) H a b := wp_iconst f212_561 (by decide)
theorem f212_562 : ma_ins 212 562 = some (.iadd, 1) := by decide +kernel
theorem w212_562 : ma_W d 212 Q 562 l (.int y :: .int x :: st) H a b = ma_W d 212 Q 563 l (.int (x + y) :: st) H a b := wp_iadd f212_562
theorem f212_563 : ma_ins 212 563 = some (.iaload, 1) := by decide +kernel
theorem w212_563 : ma_W d 212 Q 563 l (.int x :: .ref i :: st) H a b = ma_ial (H.1 i) x (ma_kV d 212 Q 564 l st H a b) := wp_iald f212_563
theorem f212_564 : ma_ins 212 564 = some (.aload_n 0, 1) := by decide +kernel
theorem w212_564 : ma_W d 212 Q 564 (some (.ref i) :: l) st H a b = ma_W d 212 Q 565 (some (.ref i) :: l) (.ref i :: st) H a b := wp_aload_n (x := some i) f212_564 rfl
theorem f212_565 : ma_ins 212 565 = some (.iload_n 3, 1) := by decide +kernel
theorem w212_565 : ma_W d 212 Q 565 (o0 :: o1 :: o2 :: some (.int x) :: l) st H a b = ma_W d 212 Q 566 (o0 :: o1 :: o2 :: some (.int x) :: l) (.int x :: st) H a b := wp_iload_n f212_565 rfl
theorem f212_566 : ma_ins 212 566 = some (.iconst 2, 1) := by decide +kernel
theorem w212_566 : ma_W d 212 Q 566 l st H a b = ma_W d 212 Q 567 l (.int 2 :: st) H a b := wp_iconst f212_566 (by decide)
theorem f212_567 : ma_ins 212 567 = some (.iadd, 1) := by decide +kernel
theorem w212_567 : ma_W d 212 Q 567 l (.int y :: .int x :: st) H a b = ma_W d 212 Q 568 l (.int (x + y) :: st) H a b := wp_iadd f212_567
theorem f212_568 : ma_ins 212 568 = some (.iaload, 1) := by decide +kernel
theorem w212_568 : ma_W d 212 Q 568 l (.int x :: .ref i :: st) H a b = ma_ial (H.1 i) x (ma_kV d 212 Q 569 l st H a b) := wp_iald f212_568
theorem f212_569 : ma_ins 212 569 = some (.invokevirtual 80, 3) := by decide +kernel
theorem w212_569 : ma_W d 212 Q 569 l (.int x1 :: .int x0 :: .ref i :: st) H a b = (ma_cat st ≤ 8 ∧ a + 0 ≤ 600000 ∧ b + 0 ≤ 7302250 ∧ ma_cv (H.1 i) 7 d 94 [.ref i, .int x0, .int x1] H (ma_kC d 212 Q 572 l st (a + 0) (b + 0))) := wc_V (ia := 94) (n := 3) (cn := 7) f212_569 (by decide +kernel) (fun _ => rfl) rfl rfl
theorem f212_572 : ma_ins 212 572 = some (.aload_n 2, 1) := by decide +kernel
theorem w212_572 : ma_W d 212 Q 572 (o0 :: o1 :: some (.ref i) :: l) st H a b = ma_W d 212 Q 573 (o0 :: o1 :: some (.ref i) :: l) (.ref i :: st) H a b := wp_aload_n (x := some i) f212_572 rfl
theorem f212_573 : ma_ins 212 573 = some (.aload_n 0, 1) := by decide +kernel
theorem w212_573 : ma_W d 212 Q 573 (some (.ref i) :: l) st H a b = ma_W d 212 Q 574 (some (.ref i) :: l) (.ref i :: st) H a b := wp_aload_n (x := some i) f212_573 rfl
theorem f212_574 : ma_ins 212 574 = some (.iload_n 3, 1) := by decide +kernel
theorem w212_574 : ma_W d 212 Q 574 (o0 :: o1 :: o2 :: some (.int x) :: l) st H a b = ma_W d 212 Q 575 (o0 :: o1 :: o2 :: some (.int x) :: l) (.int x :: st) H a b := wp_iload_n f212_574 rfl
theorem f212_575 : ma_ins 212 575 = some (.iconst 1, 1) := by decide +kernel
theorem w212_575 : ma_W d 212 Q 575 l st H a b = ma_W d 212 Q 576 l (.int 1 :: st) H a b := wp_iconst f212_575 (by decide)
theorem f212_576 : ma_ins 212 576 = some (.iadd, 1) := by decide +kernel
theorem w212_576 : ma_W d 212 Q 576 l (.int y :: .int x :: st) H a b = ma_W d 212 Q 577 l (.int (x + y) :: st) H a b := wp_iadd f212_576
theorem f212_577 : ma_ins 212 577 = some (.iaload, 1) := by decide +kernel
theorem w212_577 : ma_W d 212 Q 577 l (.int x :: .ref i :: st) H a b = ma_ial (H.1 i) x (ma_kV d 212 Q 578 l st H a b) := wp_iald f212_577
theorem f212_578 : ma_ins 212 578 = some (.aload_n 0, 1) := by decide +kernel
theorem w212_578 : ma_W d 212 Q 578 (some (.ref i) :: l) st H a b = ma_W d 212 Q 579 (some (.ref i) :: l) (.ref i :: st) H a b := wp_aload_n (x := some i) f212_578 rfl
theorem f212_579 : ma_ins 212 579 = some (.iload_n 3, 1) := by decide +kernel
theorem w212_579 : ma_W d 212 Q 579 (o0 :: o1 :: o2 :: some (.int x) :: l) st H a b = ma_W d 212 Q 580 (o0 :: o1 :: o2 :: some (.int x) :: l) (.int x :: st) H a b := wp_iload_n f212_579 rfl
theorem f212_580 : ma_ins 212 580 = some (.iconst 2, 1) := by decide +kernel
theorem w212_580 : ma_W d 212 Q 580 l st H a b = ma_W d 212 Q 581 l (.int 2 :: st) H a b := wp_iconst f212_580 (by decide)
theorem f212_581 : ma_ins 212 581 = some (.iadd, 1) := by decide +kernel
theorem w212_581 : ma_W d 212 Q 581 l (.int y :: .int x :: st) H a b = ma_W d 212 Q 582 l (.int (x + y) :: st) H a b := wp_iadd f212_581
theorem f212_582 : ma_ins 212 582 = some (.iaload, 1) := by decide +kernel
theorem w212_582 : ma_W d 212 Q 582 l (.int x :: .ref i :: st) H a b = ma_ial (H.1 i) x (ma_kV d 212 Q 583 l st H a b) := wp_iald f212_582
theorem f212_583 : ma_ins 212 583 = some (.invokevirtual 83, 3) := by decide +kernel
theorem w212_583 : ma_W d 212 Q 583 l (.int x1 :: .int x0 :: .ref i :: st) H a b = (ma_cat st ≤ 8 ∧ a + 0 ≤ 600000 ∧ b + 0 ≤ 7302250 ∧ ma_cv (H.1 i) 8 d 171 [.ref i, .int x0, .int x1] H (ma_kC d 212 Q 586 l st (a + 0) (b + 0))) := wc_V (ia := 171) (n := 3) (cn := 8) f212_583 (by decide +kernel) (fun _ => rfl) rfl rfl
theorem f212_586 : ma_ins 212 586 = some (.if_icmp .eq 405, 3) := by decide +kernel
theorem w212_586 : ma_W d 212 Q 586 l (.int y :: .int x :: st) H a b = ma_if (x = y) d 212 Q 991 589 l st H a b := wp_ic (id := 212) (pc := 586) (c := .eq) (off := 405) 991 f212_586 (by decide)
theorem f212_589 : ma_ins 212 589 = some (.iconst 0, 1) := by decide +kernel
theorem w212_589 : ma_W d 212 Q 589 l st H a b = ma_W d 212 Q 590 l (.int 0 :: st) H a b := wp_iconst f212_589 (by decide)
theorem f212_590 : ma_ins 212 590 = some (.ireturn, 1) := by decide +kernel
theorem w212_590 : ma_W d 212 Q 590 l [.int x] H a b = ((x = 0 ∨ x = 1) ∧ Q (some (.int x)) H) := wp_zret f212_590 rfl
theorem f212_591 : ma_ins 212 591 = some (.aload_n 1, 1) := by decide +kernel
theorem w212_591 : ma_W d 212 Q 591 (o0 :: some (.ref i) :: l) st H a b = ma_W d 212 Q 592 (o0 :: some (.ref i) :: l) (.ref i :: st) H a b := wp_aload_n (x := some i) f212_591 rfl
theorem f212_592 : ma_ins 212 592 = some (.aload_n 0, 1) := by decide +kernel
theorem w212_592 : ma_W d 212 Q 592 (some (.ref i) :: l) st H a b = ma_W d 212 Q 593 (some (.ref i) :: l) (.ref i :: st) H a b := wp_aload_n (x := some i) f212_592 rfl
theorem f212_593 : ma_ins 212 593 = some (.iload_n 3, 1) := by decide +kernel
theorem w212_593 : ma_W d 212 Q 593 (o0 :: o1 :: o2 :: some (.int x) :: l) st H a b = ma_W d 212 Q 594 (o0 :: o1 :: o2 :: some (.int x) :: l) (.int x :: st) H a b := wp_iload_n f212_593 rfl
theorem f212_594 : ma_ins 212 594 = some (.iconst 1, 1) := by decide +kernel
theorem w212_594 : ma_W d 212 Q 594 l st H a b = ma_W d 212 Q 595 l (.int 1 :: st) H a b := wp_iconst f212_594 (by decide)
theorem f212_595 : ma_ins 212 595 = some (.iadd, 1) := by decide +kernel
theorem w212_595 : ma_W d 212 Q 595 l (.int y :: .int x :: st) H a b = ma_W d 212 Q 596 l (.int (x + y) :: st) H a b := wp_iadd f212_595
theorem f212_596 : ma_ins 212 596 = some (.iaload, 1) := by decide +kernel
theorem w212_596 : ma_W d 212 Q 596 l (.int x :: .ref i :: st) H a b = ma_ial (H.1 i) x (ma_kV d 212 Q 597 l st H a b) := wp_iald f212_596
theorem f212_597 : ma_ins 212 597 = some (.aload_n 0, 1) := by decide +kernel
theorem w212_597 : ma_W d 212 Q 597 (some (.ref i) :: l) st H a b = ma_W d 212 Q 598 (some (.ref i) :: l) (.ref i :: st) H a b := wp_aload_n (x := some i) f212_597 rfl
theorem f212_598 : ma_ins 212 598 = some (.iload_n 3, 1) := by decide +kernel
theorem w212_598 : ma_W d 212 Q 598 (o0 :: o1 :: o2 :: some (.int x) :: l) st H a b = ma_W d 212 Q 599 (o0 :: o1 :: o2 :: some (.int x) :: l) (.int x :: st) H a b := wp_iload_n f212_598 rfl
theorem f212_599 : ma_ins 212 599 = some (.iconst 2, 1) := by decide +kernel
theorem w212_599 : ma_W d 212 Q 599 l st H a b = ma_W d 212 Q 600 l (.int 2 :: st) H a b := wp_iconst f212_599 (by decide)
theorem f212_600 : ma_ins 212 600 = some (.iadd, 1) := by decide +kernel
theorem w212_600 : ma_W d 212 Q 600 l (.int y :: .int x :: st) H a b = ma_W d 212 Q 601 l (.int (x + y) :: st) H a b := wp_iadd f212_600
theorem f212_601 : ma_ins 212 601 = some (.iaload, 1) := by decide +kernel
theorem w212_601 : ma_W d 212 Q 601 l (.int x :: .ref i :: st) H a b = ma_ial (H.1 i) x (ma_kV d 212 Q 602 l st H a b) := wp_iald f212_601
theorem f212_602 : ma_ins 212 602 = some (.invokevirtual 84, 3) := by decide +kernel
theorem w212_602 : ma_W d 212 Q 602 l (.int x1 :: .int x0 :: .ref i :: st) H a b = (ma_cat st ≤ 8 ∧ a + 0 ≤ 600000 ∧ b + 0 ≤ 7302250 ∧ ma_cv (H.1 i) 7 d 95 [.ref i, .int x0, .int x1] H (ma_kC d 212 Q 605 l st (a + 0) (b + 0))) := wc_V (ia := 95) (n := 3) (cn := 7) f212_602 (by decide +kernel) (fun _ => rfl) rfl rfl
theorem f212_605 : ma_ins 212 605 = some (.aload_n 2, 1) := by decide +kernel
theorem w212_605 : ma_W d 212 Q 605 (o0 :: o1 :: some (.ref i) :: l) st H a b = ma_W d 212 Q 606 (o0 :: o1 :: some (.ref i) :: l) (.ref i :: st) H a b := wp_aload_n (x := some i) f212_605 rfl
theorem f212_606 : ma_ins 212 606 = some (.aload_n 0, 1) := by decide +kernel
theorem w212_606 : ma_W d 212 Q 606 (some (.ref i) :: l) st H a b = ma_W d 212 Q 607 (some (.ref i) :: l) (.ref i :: st) H a b := wp_aload_n (x := some i) f212_606 rfl
theorem f212_607 : ma_ins 212 607 = some (.iload_n 3, 1) := by decide +kernel
theorem w212_607 : ma_W d 212 Q 607 (o0 :: o1 :: o2 :: some (.int x) :: l) st H a b = ma_W d 212 Q 608 (o0 :: o1 :: o2 :: some (.int x) :: l) (.int x :: st) H a b := wp_iload_n f212_607 rfl
theorem f212_608 : ma_ins 212 608 = some (.iconst 1, 1) := by decide +kernel
theorem w212_608 : ma_W d 212 Q 608 l st H a b = ma_W d 212 Q 609 l (.int 1 :: st) H a b := wp_iconst f212_608 (by decide)
theorem f212_609 : ma_ins 212 609 = some (.iadd, 1) := by decide +kernel
theorem w212_609 : ma_W d 212 Q 609 l (.int y :: .int x :: st) H a b = ma_W d 212 Q 610 l (.int (x + y) :: st) H a b := wp_iadd f212_609
theorem f212_610 : ma_ins 212 610 = some (.iaload, 1) := by decide +kernel
theorem w212_610 : ma_W d 212 Q 610 l (.int x :: .ref i :: st) H a b = ma_ial (H.1 i) x (ma_kV d 212 Q 611 l st H a b) := wp_iald f212_610
theorem f212_611 : ma_ins 212 611 = some (.aload_n 0, 1) := by decide +kernel
theorem w212_611 : ma_W d 212 Q 611 (some (.ref i) :: l) st H a b = ma_W d 212 Q 612 (some (.ref i) :: l) (.ref i :: st) H a b := wp_aload_n (x := some i) f212_611 rfl
theorem f212_612 : ma_ins 212 612 = some (.iload_n 3, 1) := by decide +kernel
theorem w212_612 : ma_W d 212 Q 612 (o0 :: o1 :: o2 :: some (.int x) :: l) st H a b = ma_W d 212 Q 613 (o0 :: o1 :: o2 :: some (.int x) :: l) (.int x :: st) H a b := wp_iload_n f212_612 rfl
theorem f212_613 : ma_ins 212 613 = some (.iconst 2, 1) := by decide +kernel
theorem w212_613 : ma_W d 212 Q 613 l st H a b = ma_W d 212 Q 614 l (.int 2 :: st) H a b := wp_iconst f212_613 (by decide)
theorem f212_614 : ma_ins 212 614 = some (.iadd, 1) := by decide +kernel
theorem w212_614 : ma_W d 212 Q 614 l (.int y :: .int x :: st) H a b = ma_W d 212 Q 615 l (.int (x + y) :: st) H a b := wp_iadd f212_614
theorem f212_615 : ma_ins 212 615 = some (.iaload, 1) := by decide +kernel
theorem w212_615 : ma_W d 212 Q 615 l (.int x :: .ref i :: st) H a b = ma_ial (H.1 i) x (ma_kV d 212 Q 616 l st H a b) := wp_iald f212_615
theorem f212_616 : ma_ins 212 616 = some (.invokevirtual 87, 3) := by decide +kernel
theorem w212_616 : ma_W d 212 Q 616 l (.int x1 :: .int x0 :: .ref i :: st) H a b = (ma_cat st ≤ 8 ∧ a + 0 ≤ 600000 ∧ b + 0 ≤ 7302250 ∧ ma_cv (H.1 i) 8 d 172 [.ref i, .int x0, .int x1] H (ma_kC d 212 Q 619 l st (a + 0) (b + 0))) := wc_V (ia := 172) (n := 3) (cn := 8) f212_616 (by decide +kernel) (fun _ => rfl) rfl rfl
theorem f212_619 : ma_ins 212 619 = some (.if_icmp .eq 372, 3) := by decide +kernel
theorem w212_619 : ma_W d 212 Q 619 l (.int y :: .int x :: st) H a b = ma_if (x = y) d 212 Q 991 622 l st H a b := wp_ic (id := 212) (pc := 619) (c := .eq) (off := 372) 991 f212_619 (by decide)
theorem f212_622 : ma_ins 212 622 = some (.iconst 0, 1) := by decide +kernel
theorem w212_622 : ma_W d 212 Q 622 l st H a b = ma_W d 212 Q 623 l (.int 0 :: st) H a b := wp_iconst f212_622 (by decide)
theorem f212_623 : ma_ins 212 623 = some (.ireturn, 1) := by decide +kernel
theorem w212_623 : ma_W d 212 Q 623 l [.int x] H a b = ((x = 0 ∨ x = 1) ∧ Q (some (.int x)) H) := wp_zret f212_623 rfl
theorem f212_624 : ma_ins 212 624 = some (.aload_n 1, 1) := by decide +kernel
theorem w212_624 : ma_W d 212 Q 624 (o0 :: some (.ref i) :: l) st H a b = ma_W d 212 Q 625 (o0 :: some (.ref i) :: l) (.ref i :: st) H a b := wp_aload_n (x := some i) f212_624 rfl
theorem f212_625 : ma_ins 212 625 = some (.aload_n 0, 1) := by decide +kernel
theorem w212_625 : ma_W d 212 Q 625 (some (.ref i) :: l) st H a b = ma_W d 212 Q 626 (some (.ref i) :: l) (.ref i :: st) H a b := wp_aload_n (x := some i) f212_625 rfl
theorem f212_626 : ma_ins 212 626 = some (.iload_n 3, 1) := by decide +kernel
theorem w212_626 : ma_W d 212 Q 626 (o0 :: o1 :: o2 :: some (.int x) :: l) st H a b = ma_W d 212 Q 627 (o0 :: o1 :: o2 :: some (.int x) :: l) (.int x :: st) H a b := wp_iload_n f212_626 rfl
theorem f212_627 : ma_ins 212 627 = some (.iconst 1, 1) := by decide +kernel
theorem w212_627 : ma_W d 212 Q 627 l st H a b = ma_W d 212 Q 628 l (.int 1 :: st) H a b := wp_iconst f212_627 (by decide)
theorem f212_628 : ma_ins 212 628 = some (.iadd, 1) := by decide +kernel
theorem w212_628 : ma_W d 212 Q 628 l (.int y :: .int x :: st) H a b = ma_W d 212 Q 629 l (.int (x + y) :: st) H a b := wp_iadd f212_628
theorem f212_629 : ma_ins 212 629 = some (.iaload, 1) := by decide +kernel
theorem w212_629 : ma_W d 212 Q 629 l (.int x :: .ref i :: st) H a b = ma_ial (H.1 i) x (ma_kV d 212 Q 630 l st H a b) := wp_iald f212_629
theorem f212_630 : ma_ins 212 630 = some (.aload_n 0, 1) := by decide +kernel
theorem w212_630 : ma_W d 212 Q 630 (some (.ref i) :: l) st H a b = ma_W d 212 Q 631 (some (.ref i) :: l) (.ref i :: st) H a b := wp_aload_n (x := some i) f212_630 rfl
theorem f212_631 : ma_ins 212 631 = some (.iload_n 3, 1) := by decide +kernel
theorem w212_631 : ma_W d 212 Q 631 (o0 :: o1 :: o2 :: some (.int x) :: l) st H a b = ma_W d 212 Q 632 (o0 :: o1 :: o2 :: some (.int x) :: l) (.int x :: st) H a b := wp_iload_n f212_631 rfl
theorem f212_632 : ma_ins 212 632 = some (.iconst 2, 1) := by decide +kernel
theorem w212_632 : ma_W d 212 Q 632 l st H a b = ma_W d 212 Q 633 l (.int 2 :: st) H a b := wp_iconst f212_632 (by decide)
theorem f212_633 : ma_ins 212 633 = some (.iadd, 1) := by decide +kernel
theorem w212_633 : ma_W d 212 Q 633 l (.int y :: .int x :: st) H a b = ma_W d 212 Q 634 l (.int (x + y) :: st) H a b := wp_iadd f212_633
theorem f212_634 : ma_ins 212 634 = some (.iaload, 1) := by decide +kernel
theorem w212_634 : ma_W d 212 Q 634 l (.int x :: .ref i :: st) H a b = ma_ial (H.1 i) x (ma_kV d 212 Q 635 l st H a b) := wp_iald f212_634
theorem f212_635 : ma_ins 212 635 = some (.aload_n 0, 1) := by decide +kernel
theorem w212_635 : ma_W d 212 Q 635 (some (.ref i) :: l) st H a b = ma_W d 212 Q 636 (some (.ref i) :: l) (.ref i :: st) H a b := wp_aload_n (x := some i) f212_635 rfl
theorem f212_636 : ma_ins 212 636 = some (.iload_n 3, 1) := by decide +kernel
theorem w212_636 : ma_W d 212 Q 636 (o0 :: o1 :: o2 :: some (.int x) :: l) st H a b = ma_W d 212 Q 637 (o0 :: o1 :: o2 :: some (.int x) :: l) (.int x :: st) H a b := wp_iload_n f212_636 rfl
theorem f212_637 : ma_ins 212 637 = some (.iconst 3, 1) := by decide +kernel
theorem w212_637 : ma_W d 212 Q 637 l st H a b = ma_W d 212 Q 638 l (.int 3 :: st) H a b := wp_iconst f212_637 (by decide)
theorem f212_638 : ma_ins 212 638 = some (.iadd, 1) := by decide +kernel
theorem w212_638 : ma_W d 212 Q 638 l (.int y :: .int x :: st) H a b = ma_W d 212 Q 639 l (.int (x + y) :: st) H a b := wp_iadd f212_638
theorem f212_639 : ma_ins 212 639 = some (.iaload, 1) := by decide +kernel
theorem w212_639 : ma_W d 212 Q 639 l (.int x :: .ref i :: st) H a b = ma_ial (H.1 i) x (ma_kV d 212 Q 640 l st H a b) := wp_iald f212_639
theorem f212_640 : ma_ins 212 640 = some (.aload_n 0, 1) := by decide +kernel
theorem w212_640 : ma_W d 212 Q 640 (some (.ref i) :: l) st H a b = ma_W d 212 Q 641 (some (.ref i) :: l) (.ref i :: st) H a b := wp_aload_n (x := some i) f212_640 rfl
theorem f212_641 : ma_ins 212 641 = some (.iload_n 3, 1) := by decide +kernel
theorem w212_641 : ma_W d 212 Q 641 (o0 :: o1 :: o2 :: some (.int x) :: l) st H a b = ma_W d 212 Q 642 (o0 :: o1 :: o2 :: some (.int x) :: l) (.int x :: st) H a b := wp_iload_n f212_641 rfl
theorem f212_642 : ma_ins 212 642 = some (.iconst 4, 1) := by decide +kernel
theorem w212_642 : ma_W d 212 Q 642 l st H a b = ma_W d 212 Q 643 l (.int 4 :: st) H a b := wp_iconst f212_642 (by decide)
theorem f212_643 : ma_ins 212 643 = some (.iadd, 1) := by decide +kernel
theorem w212_643 : ma_W d 212 Q 643 l (.int y :: .int x :: st) H a b = ma_W d 212 Q 644 l (.int (x + y) :: st) H a b := wp_iadd f212_643
theorem f212_644 : ma_ins 212 644 = some (.iaload, 1) := by decide +kernel
theorem w212_644 : ma_W d 212 Q 644 l (.int x :: .ref i :: st) H a b = ma_ial (H.1 i) x (ma_kV d 212 Q 645 l st H a b) := wp_iald f212_644
theorem f212_645 : ma_ins 212 645 = some (.invokevirtual 88, 3) := by decide +kernel
theorem w212_645 : ma_W d 212 Q 645 l (.int x3 :: .int x2 :: .int x1 :: .int x0 :: .ref i :: st) H a b = (ma_cat st ≤ 8 ∧ a + 0 ≤ 600000 ∧ b + 0 ≤ 7302250 ∧ ma_cv (H.1 i) 7 d 96 [.ref i, .int x0, .int x1, .int x2, .int x3] H (ma_kC d 212 Q 648 l st (a + 0) (b + 0))) := wc_V (ia := 96) (n := 5) (cn := 7) f212_645 (by decide +kernel) (fun _ => rfl) rfl rfl
theorem f212_648 : ma_ins 212 648 = some (.aload_n 2, 1) := by decide +kernel
theorem w212_648 : ma_W d 212 Q 648 (o0 :: o1 :: some (.ref i) :: l) st H a b = ma_W d 212 Q 649 (o0 :: o1 :: some (.ref i) :: l) (.ref i :: st) H a b := wp_aload_n (x := some i) f212_648 rfl
theorem f212_649 : ma_ins 212 649 = some (.aload_n 0, 1) := by decide +kernel
theorem w212_649 : ma_W d 212 Q 649 (some (.ref i) :: l) st H a b = ma_W d 212 Q 650 (some (.ref i) :: l) (.ref i :: st) H a b := wp_aload_n (x := some i) f212_649 rfl
theorem f212_650 : ma_ins 212 650 = some (.iload_n 3, 1) := by decide +kernel
theorem w212_650 : ma_W d 212 Q 650 (o0 :: o1 :: o2 :: some (.int x) :: l) st H a b = ma_W d 212 Q 651 (o0 :: o1 :: o2 :: some (.int x) :: l) (.int x :: st) H a b := wp_iload_n f212_650 rfl
theorem f212_651 : ma_ins 212 651 = some (.iconst 1, 1) := by decide +kernel
theorem w212_651 : ma_W d 212 Q 651 l st H a b = ma_W d 212 Q 652 l (.int 1 :: st) H a b := wp_iconst f212_651 (by decide)
theorem f212_652 : ma_ins 212 652 = some (.iadd, 1) := by decide +kernel
theorem w212_652 : ma_W d 212 Q 652 l (.int y :: .int x :: st) H a b = ma_W d 212 Q 653 l (.int (x + y) :: st) H a b := wp_iadd f212_652
theorem f212_653 : ma_ins 212 653 = some (.iaload, 1) := by decide +kernel
theorem w212_653 : ma_W d 212 Q 653 l (.int x :: .ref i :: st) H a b = ma_ial (H.1 i) x (ma_kV d 212 Q 654 l st H a b) := wp_iald f212_653
theorem f212_654 : ma_ins 212 654 = some (.aload_n 0, 1) := by decide +kernel
theorem w212_654 : ma_W d 212 Q 654 (some (.ref i) :: l) st H a b = ma_W d 212 Q 655 (some (.ref i) :: l) (.ref i :: st) H a b := wp_aload_n (x := some i) f212_654 rfl
theorem f212_655 : ma_ins 212 655 = some (.iload_n 3, 1) := by decide +kernel
theorem w212_655 : ma_W d 212 Q 655 (o0 :: o1 :: o2 :: some (.int x) :: l) st H a b = ma_W d 212 Q 656 (o0 :: o1 :: o2 :: some (.int x) :: l) (.int x :: st) H a b := wp_iload_n f212_655 rfl
theorem f212_656 : ma_ins 212 656 = some (.iconst 2, 1) := by decide +kernel
theorem w212_656 : ma_W d 212 Q 656 l st H a b = ma_W d 212 Q 657 l (.int 2 :: st) H a b := wp_iconst f212_656 (by decide)
theorem f212_657 : ma_ins 212 657 = some (.iadd, 1) := by decide +kernel
theorem w212_657 : ma_W d 212 Q 657 l (.int y :: .int x :: st) H a b = ma_W d 212 Q 658 l (.int (x + y) :: st) H a b := wp_iadd f212_657
theorem f212_658 : ma_ins 212 658 = some (.iaload, 1) := by decide +kernel
theorem w212_658 : ma_W d 212 Q 658 l (.int x :: .ref i :: st) H a b = ma_ial (H.1 i) x (ma_kV d 212 Q 659 l st H a b) := wp_iald f212_658
theorem f212_659 : ma_ins 212 659 = some (.aload_n 0, 1) := by decide +kernel
theorem w212_659 : ma_W d 212 Q 659 (some (.ref i) :: l) st H a b = ma_W d 212 Q 660 (some (.ref i) :: l) (.ref i :: st) H a b := wp_aload_n (x := some i) f212_659 rfl
theorem f212_660 : ma_ins 212 660 = some (.iload_n 3, 1) := by decide +kernel
theorem w212_660 : ma_W d 212 Q 660 (o0 :: o1 :: o2 :: some (.int x) :: l) st H a b = ma_W d 212 Q 661 (o0 :: o1 :: o2 :: some (.int x) :: l) (.int x :: st) H a b := wp_iload_n f212_660 rfl
theorem f212_661 : ma_ins 212 661 = some (.iconst 3, 1) := by decide +kernel
theorem w212_661 : ma_W d 212 Q 661 l st H a b = ma_W d 212 Q 662 l (.int 3 :: st) H a b := wp_iconst f212_661 (by decide)
theorem f212_662 : ma_ins 212 662 = some (.iadd, 1) := by decide +kernel
theorem w212_662 : ma_W d 212 Q 662 l (.int y :: .int x :: st) H a b = ma_W d 212 Q 663 l (.int (x + y) :: st) H a b := wp_iadd f212_662
theorem f212_663 : ma_ins 212 663 = some (.iaload, 1) := by decide +kernel
theorem w212_663 : ma_W d 212 Q 663 l (.int x :: .ref i :: st) H a b = ma_ial (H.1 i) x (ma_kV d 212 Q 664 l st H a b) := wp_iald f212_663
theorem f212_664 : ma_ins 212 664 = some (.aload_n 0, 1) := by decide +kernel
theorem w212_664 : ma_W d 212 Q 664 (some (.ref i) :: l) st H a b = ma_W d 212 Q 665 (some (.ref i) :: l) (.ref i :: st) H a b := wp_aload_n (x := some i) f212_664 rfl
theorem f212_665 : ma_ins 212 665 = some (.iload_n 3, 1) := by decide +kernel
theorem w212_665 : ma_W d 212 Q 665 (o0 :: o1 :: o2 :: some (.int x) :: l) st H a b = ma_W d 212 Q 666 (o0 :: o1 :: o2 :: some (.int x) :: l) (.int x :: st) H a b := wp_iload_n f212_665 rfl
theorem f212_666 : ma_ins 212 666 = some (.iconst 4, 1) := by decide +kernel
theorem w212_666 : ma_W d 212 Q 666 l st H a b = ma_W d 212 Q 667 l (.int 4 :: st) H a b := wp_iconst f212_666 (by decide)
theorem f212_667 : ma_ins 212 667 = some (.iadd, 1) := by decide +kernel
theorem w212_667 : ma_W d 212 Q 667 l (.int y :: .int x :: st) H a b = ma_W d 212 Q 668 l (.int (x + y) :: st) H a b := wp_iadd f212_667
theorem f212_668 : ma_ins 212 668 = some (.iaload, 1) := by decide +kernel
theorem w212_668 : ma_W d 212 Q 668 l (.int x :: .ref i :: st) H a b = ma_ial (H.1 i) x (ma_kV d 212 Q 669 l st H a b) := wp_iald f212_668
theorem f212_669 : ma_ins 212 669 = some (.invokevirtual 92, 3) := by decide +kernel
theorem w212_669 : ma_W d 212 Q 669 l (.int x3 :: .int x2 :: .int x1 :: .int x0 :: .ref i :: st) H a b = (ma_cat st ≤ 8 ∧ a + 0 ≤ 600000 ∧ b + 0 ≤ 7302250 ∧ ma_cv (H.1 i) 8 d 173 [.ref i, .int x0, .int x1, .int x2, .int x3] H (ma_kC d 212 Q 672 l st (a + 0) (b + 0))) := wc_V (ia := 173) (n := 5) (cn := 8) f212_669 (by decide +kernel) (fun _ => rfl) rfl rfl
theorem f212_672 : ma_ins 212 672 = some (.if_icmp .eq 319, 3) := by decide +kernel
theorem w212_672 : ma_W d 212 Q 672 l (.int y :: .int x :: st) H a b = ma_if (x = y) d 212 Q 991 675 l st H a b := wp_ic (id := 212) (pc := 672) (c := .eq) (off := 319) 991 f212_672 (by decide)
theorem f212_675 : ma_ins 212 675 = some (.iconst 0, 1) := by decide +kernel
theorem w212_675 : ma_W d 212 Q 675 l st H a b = ma_W d 212 Q 676 l (.int 0 :: st) H a b := wp_iconst f212_675 (by decide)
theorem f212_676 : ma_ins 212 676 = some (.ireturn, 1) := by decide +kernel
theorem w212_676 : ma_W d 212 Q 676 l [.int x] H a b = ((x = 0 ∨ x = 1) ∧ Q (some (.int x)) H) := wp_zret f212_676 rfl
theorem f212_677 : ma_ins 212 677 = some (.aload_n 1, 1) := by decide +kernel
theorem w212_677 : ma_W d 212 Q 677 (o0 :: some (.ref i) :: l) st H a b = ma_W d 212 Q 678 (o0 :: some (.ref i) :: l) (.ref i :: st) H a b := wp_aload_n (x := some i) f212_677 rfl
theorem f212_678 : ma_ins 212 678 = some (.aload_n 0, 1) := by decide +kernel
theorem w212_678 : ma_W d 212 Q 678 (some (.ref i) :: l) st H a b = ma_W d 212 Q 679 (some (.ref i) :: l) (.ref i :: st) H a b := wp_aload_n (x := some i) f212_678 rfl
theorem f212_679 : ma_ins 212 679 = some (.iload_n 3, 1) := by decide +kernel
theorem w212_679 : ma_W d 212 Q 679 (o0 :: o1 :: o2 :: some (.int x) :: l) st H a b = ma_W d 212 Q 680 (o0 :: o1 :: o2 :: some (.int x) :: l) (.int x :: st) H a b := wp_iload_n f212_679 rfl
theorem f212_680 : ma_ins 212 680 = some (.iconst 1, 1) := by decide +kernel
theorem w212_680 : ma_W d 212 Q 680 l st H a b = ma_W d 212 Q 681 l (.int 1 :: st) H a b := wp_iconst f212_680 (by decide)
theorem f212_681 : ma_ins 212 681 = some (.iadd, 1) := by decide +kernel
theorem w212_681 : ma_W d 212 Q 681 l (.int y :: .int x :: st) H a b = ma_W d 212 Q 682 l (.int (x + y) :: st) H a b := wp_iadd f212_681
theorem f212_682 : ma_ins 212 682 = some (.iaload, 1) := by decide +kernel
theorem w212_682 : ma_W d 212 Q 682 l (.int x :: .ref i :: st) H a b = ma_ial (H.1 i) x (ma_kV d 212 Q 683 l st H a b) := wp_iald f212_682
theorem f212_683 : ma_ins 212 683 = some (.invokevirtual 93, 3) := by decide +kernel
theorem w212_683 : ma_W d 212 Q 683 l (.int x0 :: .ref i :: st) H a b = (ma_cat st ≤ 8 ∧ a + 0 ≤ 600000 ∧ b + 0 ≤ 7302250 ∧ ma_cv (H.1 i) 7 d 97 [.ref i, .int x0] H (ma_kC d 212 Q 686 l st (a + 0) (b + 0))) := wc_V (ia := 97) (n := 2) (cn := 7) f212_683 (by decide +kernel) (fun _ => rfl) rfl rfl
theorem f212_686 : ma_ins 212 686 = some (.aload_n 2, 1) := by decide +kernel
theorem w212_686 : ma_W d 212 Q 686 (o0 :: o1 :: some (.ref i) :: l) st H a b = ma_W d 212 Q 687 (o0 :: o1 :: some (.ref i) :: l) (.ref i :: st) H a b := wp_aload_n (x := some i) f212_686 rfl
theorem f212_687 : ma_ins 212 687 = some (.aload_n 0, 1) := by decide +kernel
theorem w212_687 : ma_W d 212 Q 687 (some (.ref i) :: l) st H a b = ma_W d 212 Q 688 (some (.ref i) :: l) (.ref i :: st) H a b := wp_aload_n (x := some i) f212_687 rfl
theorem f212_688 : ma_ins 212 688 = some (.iload_n 3, 1) := by decide +kernel
theorem w212_688 : ma_W d 212 Q 688 (o0 :: o1 :: o2 :: some (.int x) :: l) st H a b = ma_W d 212 Q 689 (o0 :: o1 :: o2 :: some (.int x) :: l) (.int x :: st) H a b := wp_iload_n f212_688 rfl
theorem f212_689 : ma_ins 212 689 = some (.iconst 1, 1) := by decide +kernel
theorem w212_689 : ma_W d 212 Q 689 l st H a b = ma_W d 212 Q 690 l (.int 1 :: st) H a b := wp_iconst f212_689 (by decide)
theorem f212_690 : ma_ins 212 690 = some (.iadd, 1) := by decide +kernel
theorem w212_690 : ma_W d 212 Q 690 l (.int y :: .int x :: st) H a b = ma_W d 212 Q 691 l (.int (x + y) :: st) H a b := wp_iadd f212_690
theorem f212_691 : ma_ins 212 691 = some (.iaload, 1) := by decide +kernel
theorem w212_691 : ma_W d 212 Q 691 l (.int x :: .ref i :: st) H a b = ma_ial (H.1 i) x (ma_kV d 212 Q 692 l st H a b) := wp_iald f212_691
theorem f212_692 : ma_ins 212 692 = some (.invokevirtual 96, 3) := by decide +kernel
theorem w212_692 : ma_W d 212 Q 692 l (.int x0 :: .ref i :: st) H a b = (ma_cat st ≤ 8 ∧ a + 0 ≤ 600000 ∧ b + 0 ≤ 7302250 ∧ ma_cv (H.1 i) 8 d 174 [.ref i, .int x0] H (ma_kC d 212 Q 695 l st (a + 0) (b + 0))) := wc_V (ia := 174) (n := 2) (cn := 8) f212_692 (by decide +kernel) (fun _ => rfl) rfl rfl
theorem f212_695 : ma_ins 212 695 = some (.if_icmp .eq 296, 3) := by decide +kernel
theorem w212_695 : ma_W d 212 Q 695 l (.int y :: .int x :: st) H a b = ma_if (x = y) d 212 Q 991 698 l st H a b := wp_ic (id := 212) (pc := 695) (c := .eq) (off := 296) 991 f212_695 (by decide)
theorem f212_698 : ma_ins 212 698 = some (.iconst 0, 1) := by decide +kernel
theorem w212_698 : ma_W d 212 Q 698 l st H a b = ma_W d 212 Q 699 l (.int 0 :: st) H a b := wp_iconst f212_698 (by decide)
theorem f212_699 : ma_ins 212 699 = some (.ireturn, 1) := by decide +kernel
theorem w212_699 : ma_W d 212 Q 699 l [.int x] H a b = ((x = 0 ∨ x = 1) ∧ Q (some (.int x)) H) := wp_zret f212_699 rfl
theorem f212_700 : ma_ins 212 700 = some (.aload_n 1, 1) := by decide +kernel
theorem w212_700 : ma_W d 212 Q 700 (o0 :: some (.ref i) :: l) st H a b = ma_W d 212 Q 701 (o0 :: some (.ref i) :: l) (.ref i :: st) H a b := wp_aload_n (x := some i) f212_700 rfl
theorem f212_701 : ma_ins 212 701 = some (.invokevirtual 97, 3) := by decide +kernel
theorem w212_701 : ma_W d 212 Q 701 l (.ref i :: st) H a b = (ma_cat st ≤ 8 ∧ a + 0 ≤ 600000 ∧ b + 0 ≤ 7302250 ∧ ma_cv (H.1 i) 7 d 98 [.ref i] H (ma_kC d 212 Q 704 l st (a + 0) (b + 0))) := wc_V (ia := 98) (n := 1) (cn := 7) f212_701 (by decide +kernel) (fun _ => rfl) rfl rfl
theorem f212_704 : ma_ins 212 704 = some (.aload_n 2, 1) := by decide +kernel
theorem w212_704 : ma_W d 212 Q 704 (o0 :: o1 :: some (.ref i) :: l) st H a b = ma_W d 212 Q 705 (o0 :: o1 :: some (.ref i) :: l) (.ref i :: st) H a b := wp_aload_n (x := some i) f212_704 rfl
theorem f212_705 : ma_ins 212 705 = some (.invokevirtual 100, 3) := by decide +kernel
theorem w212_705 : ma_W d 212 Q 705 l (.ref i :: st) H a b = (ma_cat st ≤ 8 ∧ a + 0 ≤ 600000 ∧ b + 0 ≤ 7302250 ∧ ma_cv (H.1 i) 8 d 178 [.ref i] H (ma_kC d 212 Q 708 l st (a + 0) (b + 0))) := wc_V (ia := 178) (n := 1) (cn := 8) f212_705 (by decide +kernel) (fun _ => rfl) rfl rfl
theorem f212_708 : ma_ins 212 708 = some (.if_icmp .eq 283, 3) := by decide +kernel
theorem w212_708 : ma_W d 212 Q 708 l (.int y :: .int x :: st) H a b = ma_if (x = y) d 212 Q 991 711 l st H a b := wp_ic (id := 212) (pc := 708) (c := .eq) (off := 283) 991 f212_708 (by decide)
theorem f212_711 : ma_ins 212 711 = some (.iconst 0, 1) := by decide +kernel
theorem w212_711 : ma_W d 212 Q 711 l st H a b = ma_W d 212 Q 712 l (.int 0 :: st) H a b := wp_iconst f212_711 (by decide)
theorem f212_712 : ma_ins 212 712 = some (.ireturn, 1) := by decide +kernel
theorem w212_712 : ma_W d 212 Q 712 l [.int x] H a b = ((x = 0 ∨ x = 1) ∧ Q (some (.int x)) H) := wp_zret f212_712 rfl
theorem f212_713 : ma_ins 212 713 = some (.aload_n 1, 1) := by decide +kernel
theorem w212_713 : ma_W d 212 Q 713 (o0 :: some (.ref i) :: l) st H a b = ma_W d 212 Q 714 (o0 :: some (.ref i) :: l) (.ref i :: st) H a b := wp_aload_n (x := some i) f212_713 rfl
theorem f212_714 : ma_ins 212 714 = some (.invokevirtual 101, 3) := by decide +kernel
theorem w212_714 : ma_W d 212 Q 714 l (.ref i :: st) H a b = (ma_cat st ≤ 8 ∧ a + 0 ≤ 600000 ∧ b + 0 ≤ 7302250 ∧ ma_cv (H.1 i) 7 d 99 [.ref i] H (ma_kC d 212 Q 717 l st (a + 0) (b + 0))) := wc_V (ia := 99) (n := 1) (cn := 7) f212_714 (by decide +kernel) (fun _ => rfl) rfl rfl
theorem f212_717 : ma_ins 212 717 = some (.aload_n 2, 1) := by decide +kernel
theorem w212_717 : ma_W d 212 Q 717 (o0 :: o1 :: some (.ref i) :: l) st H a b = ma_W d 212 Q 718 (o0 :: o1 :: some (.ref i) :: l) (.ref i :: st) H a b := wp_aload_n (x := some i) f212_717 rfl
theorem f212_718 : ma_ins 212 718 = some (.invokevirtual 104, 3) := by decide +kernel
theorem w212_718 : ma_W d 212 Q 718 l (.ref i :: st) H a b = (ma_cat st ≤ 8 ∧ a + 0 ≤ 600000 ∧ b + 0 ≤ 7302250 ∧ ma_cv (H.1 i) 8 d 179 [.ref i] H (ma_kC d 212 Q 721 l st (a + 0) (b + 0))) := wc_V (ia := 179) (n := 1) (cn := 8) f212_718 (by decide +kernel) (fun _ => rfl) rfl rfl
theorem f212_721 : ma_ins 212 721 = some (.if_icmp .eq 270, 3) := by decide +kernel
theorem w212_721 : ma_W d 212 Q 721 l (.int y :: .int x :: st) H a b = ma_if (x = y) d 212 Q 991 724 l st H a b := wp_ic (id := 212) (pc := 721) (c := .eq) (off := 270) 991 f212_721 (by decide)
theorem f212_724 : ma_ins 212 724 = some (.iconst 0, 1) := by decide +kernel
theorem w212_724 : ma_W d 212 Q 724 l st H a b = ma_W d 212 Q 725 l (.int 0 :: st) H a b := wp_iconst f212_724 (by decide)
theorem f212_725 : ma_ins 212 725 = some (.ireturn, 1) := by decide +kernel
theorem w212_725 : ma_W d 212 Q 725 l [.int x] H a b = ((x = 0 ∨ x = 1) ∧ Q (some (.int x)) H) := wp_zret f212_725 rfl
theorem f212_726 : ma_ins 212 726 = some (.aload_n 1, 1) := by decide +kernel
theorem w212_726 : ma_W d 212 Q 726 (o0 :: some (.ref i) :: l) st H a b = ma_W d 212 Q 727 (o0 :: some (.ref i) :: l) (.ref i :: st) H a b := wp_aload_n (x := some i) f212_726 rfl
theorem f212_727 : ma_ins 212 727 = some (.aload_n 0, 1) := by decide +kernel
theorem w212_727 : ma_W d 212 Q 727 (some (.ref i) :: l) st H a b = ma_W d 212 Q 728 (some (.ref i) :: l) (.ref i :: st) H a b := wp_aload_n (x := some i) f212_727 rfl
theorem f212_728 : ma_ins 212 728 = some (.iload_n 3, 1) := by decide +kernel
theorem w212_728 : ma_W d 212 Q 728 (o0 :: o1 :: o2 :: some (.int x) :: l) st H a b = ma_W d 212 Q 729 (o0 :: o1 :: o2 :: some (.int x) :: l) (.int x :: st) H a b := wp_iload_n f212_728 rfl
theorem f212_729 : ma_ins 212 729 = some (.iconst 1, 1) := by decide +kernel
theorem w212_729 : ma_W d 212 Q 729 l st H a b = ma_W d 212 Q 730 l (.int 1 :: st) H a b := wp_iconst f212_729 (by decide)
theorem f212_730 : ma_ins 212 730 = some (.iadd, 1) := by decide +kernel
theorem w212_730 : ma_W d 212 Q 730 l (.int y :: .int x :: st) H a b = ma_W d 212 Q 731 l (.int (x + y) :: st) H a b := wp_iadd f212_730
theorem f212_731 : ma_ins 212 731 = some (.iaload, 1) := by decide +kernel
theorem w212_731 : ma_W d 212 Q 731 l (.int x :: .ref i :: st) H a b = ma_ial (H.1 i) x (ma_kV d 212 Q 732 l st H a b) := wp_iald f212_731
theorem f212_732 : ma_ins 212 732 = some (.invokevirtual 105, 3) := by decide +kernel
theorem w212_732 : ma_W d 212 Q 732 l (.int x0 :: .ref i :: st) H a b = (ma_cat st ≤ 8 ∧ a + 0 ≤ 600000 ∧ b + 0 ≤ 7302250 ∧ ma_cv (H.1 i) 7 d 100 [.ref i, .int x0] H (ma_kC d 212 Q 735 l st (a + 0) (b + 0))) := wc_V (ia := 100) (n := 2) (cn := 7) f212_732 (by decide +kernel) (fun _ => rfl) rfl rfl
theorem f212_735 : ma_ins 212 735 = some (.aload_n 2, 1) := by decide +kernel
theorem w212_735 : ma_W d 212 Q 735 (o0 :: o1 :: some (.ref i) :: l) st H a b = ma_W d 212 Q 736 (o0 :: o1 :: some (.ref i) :: l) (.ref i :: st) H a b := wp_aload_n (x := some i) f212_735 rfl
theorem f212_736 : ma_ins 212 736 = some (.aload_n 0, 1) := by decide +kernel
theorem w212_736 : ma_W d 212 Q 736 (some (.ref i) :: l) st H a b = ma_W d 212 Q 737 (some (.ref i) :: l) (.ref i :: st) H a b := wp_aload_n (x := some i) f212_736 rfl
theorem f212_737 : ma_ins 212 737 = some (.iload_n 3, 1) := by decide +kernel
theorem w212_737 : ma_W d 212 Q 737 (o0 :: o1 :: o2 :: some (.int x) :: l) st H a b = ma_W d 212 Q 738 (o0 :: o1 :: o2 :: some (.int x) :: l) (.int x :: st) H a b := wp_iload_n f212_737 rfl
theorem f212_738 : ma_ins 212 738 = some (.iconst 1, 1) := by decide +kernel
theorem w212_738 : ma_W d 212 Q 738 l st H a b = ma_W d 212 Q 739 l (.int 1 :: st) H a b := wp_iconst f212_738 (by decide)
theorem f212_739 : ma_ins 212 739 = some (.iadd, 1) := by decide +kernel
theorem w212_739 : ma_W d 212 Q 739 l (.int y :: .int x :: st) H a b = ma_W d 212 Q 740 l (.int (x + y) :: st) H a b := wp_iadd f212_739
theorem f212_740 : ma_ins 212 740 = some (.iaload, 1) := by decide +kernel
theorem w212_740 : ma_W d 212 Q 740 l (.int x :: .ref i :: st) H a b = ma_ial (H.1 i) x (ma_kV d 212 Q 741 l st H a b) := wp_iald f212_740
theorem f212_741 : ma_ins 212 741 = some (.invokevirtual 108, 3) := by decide +kernel
theorem w212_741 : ma_W d 212 Q 741 l (.int x0 :: .ref i :: st) H a b = (ma_cat st ≤ 8 ∧ a + 0 ≤ 600000 ∧ b + 0 ≤ 7302250 ∧ ma_cv (H.1 i) 8 d 180 [.ref i, .int x0] H (ma_kC d 212 Q 744 l st (a + 0) (b + 0))) := wc_V (ia := 180) (n := 2) (cn := 8) f212_741 (by decide +kernel) (fun _ => rfl) rfl rfl
theorem f212_744 : ma_ins 212 744 = some (.if_icmp .eq 247, 3) := by decide +kernel
theorem w212_744 : ma_W d 212 Q 744 l (.int y :: .int x :: st) H a b = ma_if (x = y) d 212 Q 991 747 l st H a b := wp_ic (id := 212) (pc := 744) (c := .eq) (off := 247) 991 f212_744 (by decide)
theorem f212_747 : ma_ins 212 747 = some (.iconst 0, 1) := by decide +kernel
theorem w212_747 : ma_W d 212 Q 747 l st H a b = ma_W d 212 Q 748 l (.int 0 :: st) H a b := wp_iconst f212_747 (by decide)
theorem f212_748 : ma_ins 212 748 = some (.ireturn, 1) := by decide +kernel
theorem w212_748 : ma_W d 212 Q 748 l [.int x] H a b = ((x = 0 ∨ x = 1) ∧ Q (some (.int x)) H) := wp_zret f212_748 rfl
theorem f212_749 : ma_ins 212 749 = some (.aload_n 1, 1) := by decide +kernel
theorem w212_749 : ma_W d 212 Q 749 (o0 :: some (.ref i) :: l) st H a b = ma_W d 212 Q 750 (o0 :: some (.ref i) :: l) (.ref i :: st) H a b := wp_aload_n (x := some i) f212_749 rfl
theorem f212_750 : ma_ins 212 750 = some (.aload_n 0, 1) := by decide +kernel
theorem w212_750 : ma_W d 212 Q 750 (some (.ref i) :: l) st H a b = ma_W d 212 Q 751 (some (.ref i) :: l) (.ref i :: st) H a b := wp_aload_n (x := some i) f212_750 rfl
theorem f212_751 : ma_ins 212 751 = some (.iload_n 3, 1) := by decide +kernel
theorem w212_751 : ma_W d 212 Q 751 (o0 :: o1 :: o2 :: some (.int x) :: l) st H a b = ma_W d 212 Q 752 (o0 :: o1 :: o2 :: some (.int x) :: l) (.int x :: st) H a b := wp_iload_n f212_751 rfl
theorem f212_752 : ma_ins 212 752 = some (.iconst 1, 1) := by decide +kernel
theorem w212_752 : ma_W d 212 Q 752 l st H a b = ma_W d 212 Q 753 l (.int 1 :: st) H a b := wp_iconst f212_752 (by decide)
theorem f212_753 : ma_ins 212 753 = some (.iadd, 1) := by decide +kernel
theorem w212_753 : ma_W d 212 Q 753 l (.int y :: .int x :: st) H a b = ma_W d 212 Q 754 l (.int (x + y) :: st) H a b := wp_iadd f212_753
theorem f212_754 : ma_ins 212 754 = some (.iaload, 1) := by decide +kernel
theorem w212_754 : ma_W d 212 Q 754 l (.int x :: .ref i :: st) H a b = ma_ial (H.1 i) x (ma_kV d 212 Q 755 l st H a b) := wp_iald f212_754
theorem f212_755 : ma_ins 212 755 = some (.invokevirtual 109, 3) := by decide +kernel
theorem w212_755 : ma_W d 212 Q 755 l (.int x0 :: .ref i :: st) H a b = (ma_cat st ≤ 8 ∧ a + 0 ≤ 600000 ∧ b + 0 ≤ 7302250 ∧ ma_cv (H.1 i) 7 d 101 [.ref i, .int x0] H (ma_kC d 212 Q 758 l st (a + 0) (b + 0))) := wc_V (ia := 101) (n := 2) (cn := 7) f212_755 (by decide +kernel) (fun _ => rfl) rfl rfl
theorem f212_758 : ma_ins 212 758 = some (.aload_n 2, 1) := by decide +kernel
theorem w212_758 : ma_W d 212 Q 758 (o0 :: o1 :: some (.ref i) :: l) st H a b = ma_W d 212 Q 759 (o0 :: o1 :: some (.ref i) :: l) (.ref i :: st) H a b := wp_aload_n (x := some i) f212_758 rfl
theorem f212_759 : ma_ins 212 759 = some (.aload_n 0, 1) := by decide +kernel
theorem w212_759 : ma_W d 212 Q 759 (some (.ref i) :: l) st H a b = ma_W d 212 Q 760 (some (.ref i) :: l) (.ref i :: st) H a b := wp_aload_n (x := some i) f212_759 rfl
theorem f212_760 : ma_ins 212 760 = some (.iload_n 3, 1) := by decide +kernel
theorem w212_760 : ma_W d 212 Q 760 (o0 :: o1 :: o2 :: some (.int x) :: l) st H a b = ma_W d 212 Q 761 (o0 :: o1 :: o2 :: some (.int x) :: l) (.int x :: st) H a b := wp_iload_n f212_760 rfl
theorem f212_761 : ma_ins 212 761 = some (.iconst 1, 1) := by decide +kernel
theorem w212_761 : ma_W d 212 Q 761 l st H a b = ma_W d 212 Q 762 l (.int 1 :: st) H a b := wp_iconst f212_761 (by decide)
theorem f212_762 : ma_ins 212 762 = some (.iadd, 1) := by decide +kernel
theorem w212_762 : ma_W d 212 Q 762 l (.int y :: .int x :: st) H a b = ma_W d 212 Q 763 l (.int (x + y) :: st) H a b := wp_iadd f212_762
theorem f212_763 : ma_ins 212 763 = some (.iaload, 1) := by decide +kernel
theorem w212_763 : ma_W d 212 Q 763 l (.int x :: .ref i :: st) H a b = ma_ial (H.1 i) x (ma_kV d 212 Q 764 l st H a b) := wp_iald f212_763
theorem f212_764 : ma_ins 212 764 = some (.invokevirtual 112, 3) := by decide +kernel
theorem w212_764 : ma_W d 212 Q 764 l (.int x0 :: .ref i :: st) H a b = (ma_cat st ≤ 8 ∧ a + 0 ≤ 600000 ∧ b + 0 ≤ 7302250 ∧ ma_cv (H.1 i) 8 d 181 [.ref i, .int x0] H (ma_kC d 212 Q 767 l st (a + 0) (b + 0))) := wc_V (ia := 181) (n := 2) (cn := 8) f212_764 (by decide +kernel) (fun _ => rfl) rfl rfl
theorem f212_767 : ma_ins 212 767 = some (.if_icmp .eq 224, 3) := by decide +kernel
theorem w212_767 : ma_W d 212 Q 767 l (.int y :: .int x :: st) H a b = ma_if (x = y) d 212 Q 991 770 l st H a b := wp_ic (id := 212) (pc := 767) (c := .eq) (off := 224) 991 f212_767 (by decide)
theorem f212_770 : ma_ins 212 770 = some (.iconst 0, 1) := by decide +kernel
theorem w212_770 : ma_W d 212 Q 770 l st H a b = ma_W d 212 Q 771 l (.int 0 :: st) H a b := wp_iconst f212_770 (by decide)
theorem f212_771 : ma_ins 212 771 = some (.ireturn, 1) := by decide +kernel
theorem w212_771 : ma_W d 212 Q 771 l [.int x] H a b = ((x = 0 ∨ x = 1) ∧ Q (some (.int x)) H) := wp_zret f212_771 rfl
theorem f212_772 : ma_ins 212 772 = some (.aload_n 1, 1) := by decide +kernel
theorem w212_772 : ma_W d 212 Q 772 (o0 :: some (.ref i) :: l) st H a b = ma_W d 212 Q 773 (o0 :: some (.ref i) :: l) (.ref i :: st) H a b := wp_aload_n (x := some i) f212_772 rfl
theorem f212_773 : ma_ins 212 773 = some (.aload_n 0, 1) := by decide +kernel
theorem w212_773 : ma_W d 212 Q 773 (some (.ref i) :: l) st H a b = ma_W d 212 Q 774 (some (.ref i) :: l) (.ref i :: st) H a b := wp_aload_n (x := some i) f212_773 rfl
theorem f212_774 : ma_ins 212 774 = some (.iload_n 3, 1) := by decide +kernel
theorem w212_774 : ma_W d 212 Q 774 (o0 :: o1 :: o2 :: some (.int x) :: l) st H a b = ma_W d 212 Q 775 (o0 :: o1 :: o2 :: some (.int x) :: l) (.int x :: st) H a b := wp_iload_n f212_774 rfl
theorem f212_775 : ma_ins 212 775 = some (.iconst 1, 1) := by decide +kernel
theorem w212_775 : ma_W d 212 Q 775 l st H a b = ma_W d 212 Q 776 l (.int 1 :: st) H a b := wp_iconst f212_775 (by decide)
theorem f212_776 : ma_ins 212 776 = some (.iadd, 1) := by decide +kernel
theorem w212_776 : ma_W d 212 Q 776 l (.int y :: .int x :: st) H a b = ma_W d 212 Q 777 l (.int (x + y) :: st) H a b := wp_iadd f212_776
theorem f212_777 : ma_ins 212 777 = some (.iaload, 1) := by decide +kernel
theorem w212_777 : ma_W d 212 Q 777 l (.int x :: .ref i :: st) H a b = ma_ial (H.1 i) x (ma_kV d 212 Q 778 l st H a b) := wp_iald f212_777
theorem f212_778 : ma_ins 212 778 = some (.invokevirtual 113, 3) := by decide +kernel
theorem w212_778 : ma_W d 212 Q 778 l (.int x0 :: .ref i :: st) H a b = (ma_cat st ≤ 8 ∧ a + 0 ≤ 600000 ∧ b + 0 ≤ 7302250 ∧ ma_cv (H.1 i) 7 d 102 [.ref i, .int x0] H (ma_kC d 212 Q 781 l st (a + 0) (b + 0))) := wc_V (ia := 102) (n := 2) (cn := 7) f212_778 (by decide +kernel) (fun _ => rfl) rfl rfl
theorem f212_781 : ma_ins 212 781 = some (.aload_n 2, 1) := by decide +kernel
theorem w212_781 : ma_W d 212 Q 781 (o0 :: o1 :: some (.ref i) :: l) st H a b = ma_W d 212 Q 782 (o0 :: o1 :: some (.ref i) :: l) (.ref i :: st) H a b := wp_aload_n (x := some i) f212_781 rfl
theorem f212_782 : ma_ins 212 782 = some (.aload_n 0, 1) := by decide +kernel
theorem w212_782 : ma_W d 212 Q 782 (some (.ref i) :: l) st H a b = ma_W d 212 Q 783 (some (.ref i) :: l) (.ref i :: st) H a b := wp_aload_n (x := some i) f212_782 rfl
theorem f212_783 : ma_ins 212 783 = some (.iload_n 3, 1) := by decide +kernel
theorem w212_783 : ma_W d 212 Q 783 (o0 :: o1 :: o2 :: some (.int x) :: l) st H a b = ma_W d 212 Q 784 (o0 :: o1 :: o2 :: some (.int x) :: l) (.int x :: st) H a b := wp_iload_n f212_783 rfl
theorem f212_784 : ma_ins 212 784 = some (.iconst 1, 1) := by decide +kernel
theorem w212_784 : ma_W d 212 Q 784 l st H a b = ma_W d 212 Q 785 l (.int 1 :: st) H a b := wp_iconst f212_784 (by decide)
theorem f212_785 : ma_ins 212 785 = some (.iadd, 1) := by decide +kernel
theorem w212_785 : ma_W d 212 Q 785 l (.int y :: .int x :: st) H a b = ma_W d 212 Q 786 l (.int (x + y) :: st) H a b := wp_iadd f212_785
theorem f212_786 : ma_ins 212 786 = some (.iaload, 1) := by decide +kernel
theorem w212_786 : ma_W d 212 Q 786 l (.int x :: .ref i :: st) H a b = ma_ial (H.1 i) x (ma_kV d 212 Q 787 l st H a b) := wp_iald f212_786
theorem f212_787 : ma_ins 212 787 = some (.invokevirtual 116, 3) := by decide +kernel
theorem w212_787 : ma_W d 212 Q 787 l (.int x0 :: .ref i :: st) H a b = (ma_cat st ≤ 8 ∧ a + 0 ≤ 600000 ∧ b + 0 ≤ 7302250 ∧ ma_cv (H.1 i) 8 d 183 [.ref i, .int x0] H (ma_kC d 212 Q 790 l st (a + 0) (b + 0))) := wc_V (ia := 183) (n := 2) (cn := 8) f212_787 (by decide +kernel) (fun _ => rfl) rfl rfl
theorem f212_790 : ma_ins 212 790 = some (.if_icmp .eq 201, 3) := by decide +kernel
theorem w212_790 : ma_W d 212 Q 790 l (.int y :: .int x :: st) H a b = ma_if (x = y) d 212 Q 991 793 l st H a b := wp_ic (id := 212) (pc := 790) (c := .eq) (off := 201) 991 f212_790 (by decide)
theorem f212_793 : ma_ins 212 793 = some (.iconst 0, 1) := by decide +kernel
theorem w212_793 : ma_W d 212 Q 793 l st H a b = ma_W d 212 Q 794 l (.int 0 :: st) H a b := wp_iconst f212_793 (by decide)
theorem f212_794 : ma_ins 212 794 = some (.ireturn, 1) := by decide +kernel
theorem w212_794 : ma_W d 212 Q 794 l [.int x] H a b = ((x = 0 ∨ x = 1) ∧ Q (some (.int x)) H) := wp_zret f212_794 rfl
theorem f212_795 : ma_ins 212 795 = some (.aload_n 1, 1) := by decide +kernel
theorem w212_795 : ma_W d 212 Q 795 (o0 :: some (.ref i) :: l) st H a b = ma_W d 212 Q 796 (o0 :: some (.ref i) :: l) (.ref i :: st) H a b := wp_aload_n (x := some i) f212_795 rfl
theorem f212_796 : ma_ins 212 796 = some (.aload_n 0, 1) := by decide +kernel
theorem w212_796 : ma_W d 212 Q 796 (some (.ref i) :: l) st H a b = ma_W d 212 Q 797 (some (.ref i) :: l) (.ref i :: st) H a b := wp_aload_n (x := some i) f212_796 rfl
theorem f212_797 : ma_ins 212 797 = some (.iload_n 3, 1) := by decide +kernel
theorem w212_797 : ma_W d 212 Q 797 (o0 :: o1 :: o2 :: some (.int x) :: l) st H a b = ma_W d 212 Q 798 (o0 :: o1 :: o2 :: some (.int x) :: l) (.int x :: st) H a b := wp_iload_n f212_797 rfl
theorem f212_798 : ma_ins 212 798 = some (.iconst 1, 1) := by decide +kernel
theorem w212_798 : ma_W d 212 Q 798 l st H a b = ma_W d 212 Q 799 l (.int 1 :: st) H a b := wp_iconst f212_798 (by decide)
theorem f212_799 : ma_ins 212 799 = some (.iadd, 1) := by decide +kernel
theorem w212_799 : ma_W d 212 Q 799 l (.int y :: .int x :: st) H a b = ma_W d 212 Q 800 l (.int (x + y) :: st) H a b := wp_iadd f212_799
theorem f212_800 : ma_ins 212 800 = some (.iaload, 1) := by decide +kernel
theorem w212_800 : ma_W d 212 Q 800 l (.int x :: .ref i :: st) H a b = ma_ial (H.1 i) x (ma_kV d 212 Q 801 l st H a b) := wp_iald f212_800
theorem f212_801 : ma_ins 212 801 = some (.aload_n 0, 1) := by decide +kernel
theorem w212_801 : ma_W d 212 Q 801 (some (.ref i) :: l) st H a b = ma_W d 212 Q 802 (some (.ref i) :: l) (.ref i :: st) H a b := wp_aload_n (x := some i) f212_801 rfl
theorem f212_802 : ma_ins 212 802 = some (.iload_n 3, 1) := by decide +kernel
theorem w212_802 : ma_W d 212 Q 802 (o0 :: o1 :: o2 :: some (.int x) :: l) st H a b = ma_W d 212 Q 803 (o0 :: o1 :: o2 :: some (.int x) :: l) (.int x :: st) H a b := wp_iload_n f212_802 rfl
theorem f212_803 : ma_ins 212 803 = some (.iconst 2, 1) := by decide +kernel
theorem w212_803 : ma_W d 212 Q 803 l st H a b = ma_W d 212 Q 804 l (.int 2 :: st) H a b := wp_iconst f212_803 (by decide)
theorem f212_804 : ma_ins 212 804 = some (.iadd, 1) := by decide +kernel
theorem w212_804 : ma_W d 212 Q 804 l (.int y :: .int x :: st) H a b = ma_W d 212 Q 805 l (.int (x + y) :: st) H a b := wp_iadd f212_804
theorem f212_805 : ma_ins 212 805 = some (.iaload, 1) := by decide +kernel
theorem w212_805 : ma_W d 212 Q 805 l (.int x :: .ref i :: st) H a b = ma_ial (H.1 i) x (ma_kV d 212 Q 806 l st H a b) := wp_iald f212_805
theorem f212_806 : ma_ins 212 806 = some (.invokevirtual 117, 3) := by decide +kernel
theorem w212_806 : ma_W d 212 Q 806 l (.int x1 :: .int x0 :: .ref i :: st) H a b = (ma_cat st ≤ 8 ∧ a + 0 ≤ 600000 ∧ b + 0 ≤ 7302250 ∧ ma_cv (H.1 i) 7 d 103 [.ref i, .int x0, .int x1] H (ma_kC d 212 Q 809 l st (a + 0) (b + 0))) := wc_V (ia := 103) (n := 3) (cn := 7) f212_806 (by decide +kernel) (fun _ => rfl) rfl rfl
theorem f212_809 : ma_ins 212 809 = some (.aload_n 2, 1) := by decide +kernel
theorem w212_809 : ma_W d 212 Q 809 (o0 :: o1 :: some (.ref i) :: l) st H a b = ma_W d 212 Q 810 (o0 :: o1 :: some (.ref i) :: l) (.ref i :: st) H a b := wp_aload_n (x := some i) f212_809 rfl
theorem f212_810 : ma_ins 212 810 = some (.aload_n 0, 1) := by decide +kernel
theorem w212_810 : ma_W d 212 Q 810 (some (.ref i) :: l) st H a b = ma_W d 212 Q 811 (some (.ref i) :: l) (.ref i :: st) H a b := wp_aload_n (x := some i) f212_810 rfl
theorem f212_811 : ma_ins 212 811 = some (.iload_n 3, 1) := by decide +kernel
theorem w212_811 : ma_W d 212 Q 811 (o0 :: o1 :: o2 :: some (.int x) :: l) st H a b = ma_W d 212 Q 812 (o0 :: o1 :: o2 :: some (.int x) :: l) (.int x :: st) H a b := wp_iload_n f212_811 rfl
theorem f212_812 : ma_ins 212 812 = some (.iconst 1, 1) := by decide +kernel
theorem w212_812 : ma_W d 212 Q 812 l st H a b = ma_W d 212 Q 813 l (.int 1 :: st) H a b := wp_iconst f212_812 (by decide)
theorem f212_813 : ma_ins 212 813 = some (.iadd, 1) := by decide +kernel
theorem w212_813 : ma_W d 212 Q 813 l (.int y :: .int x :: st) H a b = ma_W d 212 Q 814 l (.int (x + y) :: st) H a b := wp_iadd f212_813
theorem f212_814 : ma_ins 212 814 = some (.iaload, 1) := by decide +kernel
theorem w212_814 : ma_W d 212 Q 814 l (.int x :: .ref i :: st) H a b = ma_ial (H.1 i) x (ma_kV d 212 Q 815 l st H a b) := wp_iald f212_814
theorem f212_815 : ma_ins 212 815 = some (.aload_n 0, 1) := by decide +kernel
theorem w212_815 : ma_W d 212 Q 815 (some (.ref i) :: l) st H a b = ma_W d 212 Q 816 (some (.ref i) :: l) (.ref i :: st) H a b := wp_aload_n (x := some i) f212_815 rfl
theorem f212_816 : ma_ins 212 816 = some (.iload_n 3, 1) := by decide +kernel
theorem w212_816 : ma_W d 212 Q 816 (o0 :: o1 :: o2 :: some (.int x) :: l) st H a b = ma_W d 212 Q 817 (o0 :: o1 :: o2 :: some (.int x) :: l) (.int x :: st) H a b := wp_iload_n f212_816 rfl
theorem f212_817 : ma_ins 212 817 = some (.iconst 2, 1) := by decide +kernel
theorem w212_817 : ma_W d 212 Q 817 l st H a b = ma_W d 212 Q 818 l (.int 2 :: st) H a b := wp_iconst f212_817 (by decide)
theorem f212_818 : ma_ins 212 818 = some (.iadd, 1) := by decide +kernel
theorem w212_818 : ma_W d 212 Q 818 l (.int y :: .int x :: st) H a b = ma_W d 212 Q 819 l (.int (x + y) :: st) H a b := wp_iadd f212_818
theorem f212_819 : ma_ins 212 819 = some (.iaload, 1) := by decide +kernel
theorem w212_819 : ma_W d 212 Q 819 l (.int x :: .ref i :: st) H a b = ma_ial (H.1 i) x (ma_kV d 212 Q 820 l st H a b) := wp_iald f212_819
theorem f212_820 : ma_ins 212 820 = some (.invokevirtual 120, 3) := by decide +kernel
theorem w212_820 : ma_W d 212 Q 820 l (.int x1 :: .int x0 :: .ref i :: st) H a b = (ma_cat st ≤ 8 ∧ a + 0 ≤ 600000 ∧ b + 0 ≤ 7302250 ∧ ma_cv (H.1 i) 8 d 186 [.ref i, .int x0, .int x1] H (ma_kC d 212 Q 823 l st (a + 0) (b + 0))) := wc_V (ia := 186) (n := 3) (cn := 8) f212_820 (by decide +kernel) (fun _ => rfl) rfl rfl
theorem f212_823 : ma_ins 212 823 = some (.if_icmp .eq 168, 3) := by decide +kernel
theorem w212_823 : ma_W d 212 Q 823 l (.int y :: .int x :: st) H a b = ma_if (x = y) d 212 Q 991 826 l st H a b := wp_ic (id := 212) (pc := 823) (c := .eq) (off := 168) 991 f212_823 (by decide)
theorem f212_826 : ma_ins 212 826 = some (.iconst 0, 1) := by decide +kernel
theorem w212_826 : ma_W d 212 Q 826 l st H a b = ma_W d 212 Q 827 l (.int 0 :: st) H a b := wp_iconst f212_826 (by decide)
theorem f212_827 : ma_ins 212 827 = some (.ireturn, 1) := by decide +kernel
theorem w212_827 : ma_W d 212 Q 827 l [.int x] H a b = ((x = 0 ∨ x = 1) ∧ Q (some (.int x)) H) := wp_zret f212_827 rfl
theorem f212_828 : ma_ins 212 828 = some (.aload_n 1, 1) := by decide +kernel
theorem w212_828 : ma_W d 212 Q 828 (o0 :: some (.ref i) :: l) st H a b = ma_W d 212 Q 829 (o0 :: some (.ref i) :: l) (.ref i :: st) H a b := wp_aload_n (x := some i) f212_828 rfl
theorem f212_829 : ma_ins 212 829 = some (.aload_n 0, 1) := by decide +kernel
theorem w212_829 : ma_W d 212 Q 829 (some (.ref i) :: l) st H a b = ma_W d 212 Q 830 (some (.ref i) :: l) (.ref i :: st) H a b := wp_aload_n (x := some i) f212_829 rfl
theorem f212_830 : ma_ins 212 830 = some (.iload_n 3, 1) := by decide +kernel
theorem w212_830 : ma_W d 212 Q 830 (o0 :: o1 :: o2 :: some (.int x) :: l) st H a b = ma_W d 212 Q 831 (o0 :: o1 :: o2 :: some (.int x) :: l) (.int x :: st) H a b := wp_iload_n f212_830 rfl
theorem f212_831 : ma_ins 212 831 = some (.iconst 1, 1) := by decide +kernel
theorem w212_831 : ma_W d 212 Q 831 l st H a b = ma_W d 212 Q 832 l (.int 1 :: st) H a b := wp_iconst f212_831 (by decide)
theorem f212_832 : ma_ins 212 832 = some (.iadd, 1) := by decide +kernel
theorem w212_832 : ma_W d 212 Q 832 l (.int y :: .int x :: st) H a b = ma_W d 212 Q 833 l (.int (x + y) :: st) H a b := wp_iadd f212_832
theorem f212_833 : ma_ins 212 833 = some (.iaload, 1) := by decide +kernel
theorem w212_833 : ma_W d 212 Q 833 l (.int x :: .ref i :: st) H a b = ma_ial (H.1 i) x (ma_kV d 212 Q 834 l st H a b) := wp_iald f212_833
theorem f212_834 : ma_ins 212 834 = some (.aload_n 0, 1) := by decide +kernel
theorem w212_834 : ma_W d 212 Q 834 (some (.ref i) :: l) st H a b = ma_W d 212 Q 835 (some (.ref i) :: l) (.ref i :: st) H a b := wp_aload_n (x := some i) f212_834 rfl
theorem f212_835 : ma_ins 212 835 = some (.iload_n 3, 1) := by decide +kernel
theorem w212_835 : ma_W d 212 Q 835 (o0 :: o1 :: o2 :: some (.int x) :: l) st H a b = ma_W d 212 Q 836 (o0 :: o1 :: o2 :: some (.int x) :: l) (.int x :: st) H a b := wp_iload_n f212_835 rfl
theorem f212_836 : ma_ins 212 836 = some (.iconst 2, 1) := by decide +kernel
theorem w212_836 : ma_W d 212 Q 836 l st H a b = ma_W d 212 Q 837 l (.int 2 :: st) H a b := wp_iconst f212_836 (by decide)
theorem f212_837 : ma_ins 212 837 = some (.iadd, 1) := by decide +kernel
theorem w212_837 : ma_W d 212 Q 837 l (.int y :: .int x :: st) H a b = ma_W d 212 Q 838 l (.int (x + y) :: st) H a b := wp_iadd f212_837
theorem f212_838 : ma_ins 212 838 = some (.iaload, 1) := by decide +kernel
theorem w212_838 : ma_W d 212 Q 838 l (.int x :: .ref i :: st) H a b = ma_ial (H.1 i) x (ma_kV d 212 Q 839 l st H a b) := wp_iald f212_838
theorem f212_839 : ma_ins 212 839 = some (.invokevirtual 121, 3) := by decide +kernel
theorem w212_839 : ma_W d 212 Q 839 l (.int x1 :: .int x0 :: .ref i :: st) H a b = (ma_cat st ≤ 8 ∧ a + 0 ≤ 600000 ∧ b + 0 ≤ 7302250 ∧ ma_cv (H.1 i) 7 d 104 [.ref i, .int x0, .int x1] H (ma_kC d 212 Q 842 l st (a + 0) (b + 0))) := wc_V (ia := 104) (n := 3) (cn := 7) f212_839 (by decide +kernel) (fun _ => rfl) rfl rfl
theorem f212_842 : ma_ins 212 842 = some (.aload_n 2, 1) := by decide +kernel
theorem w212_842 : ma_W d 212 Q 842 (o0 :: o1 :: some (.ref i) :: l) st H a b = ma_W d 212 Q 843 (o0 :: o1 :: some (.ref i) :: l) (.ref i :: st) H a b := wp_aload_n (x := some i) f212_842 rfl
theorem f212_843 : ma_ins 212 843 = some (.aload_n 0, 1) := by decide +kernel
theorem w212_843 : ma_W d 212 Q 843 (some (.ref i) :: l) st H a b = ma_W d 212 Q 844 (some (.ref i) :: l) (.ref i :: st) H a b := wp_aload_n (x := some i) f212_843 rfl
theorem f212_844 : ma_ins 212 844 = some (.iload_n 3, 1) := by decide +kernel
theorem w212_844 : ma_W d 212 Q 844 (o0 :: o1 :: o2 :: some (.int x) :: l) st H a b = ma_W d 212 Q 845 (o0 :: o1 :: o2 :: some (.int x) :: l) (.int x :: st) H a b := wp_iload_n f212_844 rfl
theorem f212_845 : ma_ins 212 845 = some (.iconst 1, 1) := by decide +kernel
theorem w212_845 : ma_W d 212 Q 845 l st H a b = ma_W d 212 Q 846 l (.int 1 :: st) H a b := wp_iconst f212_845 (by decide)
theorem f212_846 : ma_ins 212 846 = some (.iadd, 1) := by decide +kernel
theorem w212_846 : ma_W d 212 Q 846 l (.int y :: .int x :: st) H a b = ma_W d 212 Q 847 l (.int (x + y) :: st) H a b := wp_iadd f212_846
theorem f212_847 : ma_ins 212 847 = some (.iaload, 1) := by decide +kernel
theorem w212_847 : ma_W d 212 Q 847 l (.int x :: .ref i :: st) H a b = ma_ial (H.1 i) x (ma_kV d 212 Q 848 l st H a b) := wp_iald f212_847
theorem f212_848 : ma_ins 212 848 = some (.aload_n 0, 1) := by decide +kernel
theorem w212_848 : ma_W d 212 Q 848 (some (.ref i) :: l) st H a b = ma_W d 212 Q 849 (some (.ref i) :: l) (.ref i :: st) H a b := wp_aload_n (x := some i) f212_848 rfl
theorem f212_849 : ma_ins 212 849 = some (.iload_n 3, 1) := by decide +kernel
theorem w212_849 : ma_W d 212 Q 849 (o0 :: o1 :: o2 :: some (.int x) :: l) st H a b = ma_W d 212 Q 850 (o0 :: o1 :: o2 :: some (.int x) :: l) (.int x :: st) H a b := wp_iload_n f212_849 rfl
theorem f212_850 : ma_ins 212 850 = some (.iconst 2, 1) := by decide +kernel
theorem w212_850 : ma_W d 212 Q 850 l st H a b = ma_W d 212 Q 851 l (.int 2 :: st) H a b := wp_iconst f212_850 (by decide)
theorem f212_851 : ma_ins 212 851 = some (.iadd, 1) := by decide +kernel
theorem w212_851 : ma_W d 212 Q 851 l (.int y :: .int x :: st) H a b = ma_W d 212 Q 852 l (.int (x + y) :: st) H a b := wp_iadd f212_851
theorem f212_852 : ma_ins 212 852 = some (.iaload, 1) := by decide +kernel
theorem w212_852 : ma_W d 212 Q 852 l (.int x :: .ref i :: st) H a b = ma_ial (H.1 i) x (ma_kV d 212 Q 853 l st H a b) := wp_iald f212_852
theorem f212_853 : ma_ins 212 853 = some (.invokevirtual 124, 3) := by decide +kernel
theorem w212_853 : ma_W d 212 Q 853 l (.int x1 :: .int x0 :: .ref i :: st) H a b = (ma_cat st ≤ 8 ∧ a + 0 ≤ 600000 ∧ b + 0 ≤ 7302250 ∧ ma_cv (H.1 i) 8 d 187 [.ref i, .int x0, .int x1] H (ma_kC d 212 Q 856 l st (a + 0) (b + 0))) := wc_V (ia := 187) (n := 3) (cn := 8) f212_853 (by decide +kernel) (fun _ => rfl) rfl rfl
theorem f212_856 : ma_ins 212 856 = some (.if_icmp .eq 135, 3) := by decide +kernel
theorem w212_856 : ma_W d 212 Q 856 l (.int y :: .int x :: st) H a b = ma_if (x = y) d 212 Q 991 859 l st H a b := wp_ic (id := 212) (pc := 856) (c := .eq) (off := 135) 991 f212_856 (by decide)
theorem f212_859 : ma_ins 212 859 = some (.iconst 0, 1) := by decide +kernel
theorem w212_859 : ma_W d 212 Q 859 l st H a b = ma_W d 212 Q 860 l (.int 0 :: st) H a b := wp_iconst f212_859 (by decide)
theorem f212_860 : ma_ins 212 860 = some (.ireturn, 1) := by decide +kernel
theorem w212_860 : ma_W d 212 Q 860 l [.int x] H a b = ((x = 0 ∨ x = 1) ∧ Q (some (.int x)) H) := wp_zret f212_860 rfl
theorem f212_861 : ma_ins 212 861 = some (.aload_n 1, 1) := by decide +kernel
theorem w212_861 : ma_W d 212 Q 861 (o0 :: some (.ref i) :: l) st H a b = ma_W d 212 Q 862 (o0 :: some (.ref i) :: l) (.ref i :: st) H a b := wp_aload_n (x := some i) f212_861 rfl
theorem f212_862 : ma_ins 212 862 = some (.aload_n 0, 1) := by decide +kernel
theorem w212_862 : ma_W d 212 Q 862 (some (.ref i) :: l) st H a b = ma_W d 212 Q 863 (some (.ref i) :: l) (.ref i :: st) H a b := wp_aload_n (x := some i) f212_862 rfl
theorem f212_863 : ma_ins 212 863 = some (.iload_n 3, 1) := by decide +kernel
theorem w212_863 : ma_W d 212 Q 863 (o0 :: o1 :: o2 :: some (.int x) :: l) st H a b = ma_W d 212 Q 864 (o0 :: o1 :: o2 :: some (.int x) :: l) (.int x :: st) H a b := wp_iload_n f212_863 rfl
theorem f212_864 : ma_ins 212 864 = some (.iconst 1, 1) := by decide +kernel
theorem w212_864 : ma_W d 212 Q 864 l st H a b = ma_W d 212 Q 865 l (.int 1 :: st) H a b := wp_iconst f212_864 (by decide)
theorem f212_865 : ma_ins 212 865 = some (.iadd, 1) := by decide +kernel
theorem w212_865 : ma_W d 212 Q 865 l (.int y :: .int x :: st) H a b = ma_W d 212 Q 866 l (.int (x + y) :: st) H a b := wp_iadd f212_865
theorem f212_866 : ma_ins 212 866 = some (.iaload, 1) := by decide +kernel
theorem w212_866 : ma_W d 212 Q 866 l (.int x :: .ref i :: st) H a b = ma_ial (H.1 i) x (ma_kV d 212 Q 867 l st H a b) := wp_iald f212_866
theorem f212_867 : ma_ins 212 867 = some (.invokevirtual 125, 3) := by decide +kernel
theorem w212_867 : ma_W d 212 Q 867 l (.int x0 :: .ref i :: st) H a b = (ma_cat st ≤ 8 ∧ a + 0 ≤ 600000 ∧ b + 0 ≤ 7302250 ∧ ma_cv (H.1 i) 7 d 105 [.ref i, .int x0] H (ma_kC d 212 Q 870 l st (a + 0) (b + 0))) := wc_V (ia := 105) (n := 2) (cn := 7) f212_867 (by decide +kernel) (fun _ => rfl) rfl rfl
theorem f212_870 : ma_ins 212 870 = some (.aload_n 2, 1) := by decide +kernel
theorem w212_870 : ma_W d 212 Q 870 (o0 :: o1 :: some (.ref i) :: l) st H a b = ma_W d 212 Q 871 (o0 :: o1 :: some (.ref i) :: l) (.ref i :: st) H a b := wp_aload_n (x := some i) f212_870 rfl
theorem f212_871 : ma_ins 212 871 = some (.aload_n 0, 1) := by decide +kernel
theorem w212_871 : ma_W d 212 Q 871 (some (.ref i) :: l) st H a b = ma_W d 212 Q 872 (some (.ref i) :: l) (.ref i :: st) H a b := wp_aload_n (x := some i) f212_871 rfl
theorem f212_872 : ma_ins 212 872 = some (.iload_n 3, 1) := by decide +kernel
theorem w212_872 : ma_W d 212 Q 872 (o0 :: o1 :: o2 :: some (.int x) :: l) st H a b = ma_W d 212 Q 873 (o0 :: o1 :: o2 :: some (.int x) :: l) (.int x :: st) H a b := wp_iload_n f212_872 rfl
theorem f212_873 : ma_ins 212 873 = some (.iconst 1, 1) := by decide +kernel
theorem w212_873 : ma_W d 212 Q 873 l st H a b = ma_W d 212 Q 874 l (.int 1 :: st) H a b := wp_iconst f212_873 (by decide)
theorem f212_874 : ma_ins 212 874 = some (.iadd, 1) := by decide +kernel
theorem w212_874 : ma_W d 212 Q 874 l (.int y :: .int x :: st) H a b = ma_W d 212 Q 875 l (.int (x + y) :: st) H a b := wp_iadd f212_874
theorem f212_875 : ma_ins 212 875 = some (.iaload, 1) := by decide +kernel
theorem w212_875 : ma_W d 212 Q 875 l (.int x :: .ref i :: st) H a b = ma_ial (H.1 i) x (ma_kV d 212 Q 876 l st H a b) := wp_iald f212_875
theorem f212_876 : ma_ins 212 876 = some (.invokevirtual 129, 3) := by decide +kernel
theorem w212_876 : ma_W d 212 Q 876 l (.int x0 :: .ref i :: st) H a b = (ma_cat st ≤ 8 ∧ a + 0 ≤ 600000 ∧ b + 0 ≤ 7302250 ∧ ma_cv (H.1 i) 8 d 188 [.ref i, .int x0] H (ma_kC d 212 Q 879 l st (a + 0) (b + 0))) := wc_V (ia := 188) (n := 2) (cn := 8) f212_876 (by decide +kernel) (fun _ => rfl) rfl rfl
theorem f212_879 : ma_ins 212 879 = some (.lcmp, 1) := by decide +kernel
theorem w212_879 : ma_W d 212 Q 879 l (.long v :: .long u :: st) H a b = ma_W d 212 Q 880 l (.int (lg_cmp u v) :: st) H a b := wp_lcmp f212_879
theorem f212_880 : ma_ins 212 880 = some (.ifCond .eq 111, 3) := by decide +kernel
theorem w212_880 : ma_W d 212 Q 880 l (.int x :: st) H a b = ma_if (x = 0) d 212 Q 991 883 l st H a b := wp_c0 (id := 212) (pc := 880) (c := .eq) (off := 111) 991 f212_880 (by decide)
theorem f212_883 : ma_ins 212 883 = some (.iconst 0, 1) := by decide +kernel
theorem w212_883 : ma_W d 212 Q 883 l st H a b = ma_W d 212 Q 884 l (.int 0 :: st) H a b := wp_iconst f212_883 (by decide)
theorem f212_884 : ma_ins 212 884 = some (.ireturn, 1) := by decide +kernel
theorem w212_884 : ma_W d 212 Q 884 l [.int x] H a b = ((x = 0 ∨ x = 1) ∧ Q (some (.int x)) H) := wp_zret f212_884 rfl
theorem f212_885 : ma_ins 212 885 = some (.aload_n 1, 1) := by decide +kernel
theorem w212_885 : ma_W d 212 Q 885 (o0 :: some (.ref i) :: l) st H a b = ma_W d 212 Q 886 (o0 :: some (.ref i) :: l) (.ref i :: st) H a b := wp_aload_n (x := some i) f212_885 rfl
theorem f212_886 : ma_ins 212 886 = some (.aload_n 0, 1) := by decide +kernel
theorem w212_886 : ma_W d 212 Q 886 (some (.ref i) :: l) st H a b = ma_W d 212 Q 887 (some (.ref i) :: l) (.ref i :: st) H a b := wp_aload_n (x := some i) f212_886 rfl
theorem f212_887 : ma_ins 212 887 = some (.iload_n 3, 1) := by decide +kernel
theorem w212_887 : ma_W d 212 Q 887 (o0 :: o1 :: o2 :: some (.int x) :: l) st H a b = ma_W d 212 Q 888 (o0 :: o1 :: o2 :: some (.int x) :: l) (.int x :: st) H a b := wp_iload_n f212_887 rfl
theorem f212_888 : ma_ins 212 888 = some (.iconst 1, 1) := by decide +kernel
theorem w212_888 : ma_W d 212 Q 888 l st H a b = ma_W d 212 Q 889 l (.int 1 :: st) H a b := wp_iconst f212_888 (by decide)
theorem f212_889 : ma_ins 212 889 = some (.iadd, 1) := by decide +kernel
theorem w212_889 : ma_W d 212 Q 889 l (.int y :: .int x :: st) H a b = ma_W d 212 Q 890 l (.int (x + y) :: st) H a b := wp_iadd f212_889
theorem f212_890 : ma_ins 212 890 = some (.iaload, 1) := by decide +kernel
theorem w212_890 : ma_W d 212 Q 890 l (.int x :: .ref i :: st) H a b = ma_ial (H.1 i) x (ma_kV d 212 Q 891 l st H a b) := wp_iald f212_890
theorem f212_891 : ma_ins 212 891 = some (.invokevirtual 130, 3) := by decide +kernel
theorem w212_891 : ma_W d 212 Q 891 l (.int x0 :: .ref i :: st) H a b = (ma_cat st ≤ 8 ∧ a + 22 ≤ 600000 ∧ b + 163 ≤ 7302250 ∧ ma_cv (H.1 i) 7 d 106 [.ref i, .int x0] H (ma_kC d 212 Q 894 l st (a + 22) (b + 163))) := wc_V (ia := 106) (n := 2) (cn := 7) f212_891 (by decide +kernel) (fun _ => rfl) rfl rfl
theorem f212_894 : ma_ins 212 894 = some (.aload_n 2, 1) := by decide +kernel
theorem w212_894 : ma_W d 212 Q 894 (o0 :: o1 :: some (.ref i) :: l) st H a b = ma_W d 212 Q 895 (o0 :: o1 :: some (.ref i) :: l) (.ref i :: st) H a b := wp_aload_n (x := some i) f212_894 rfl
theorem f212_895 : ma_ins 212 895 = some (.aload_n 0, 1) := by decide +kernel
theorem w212_895 : ma_W d 212 Q 895 (some (.ref i) :: l) st H a b = ma_W d 212 Q 896 (some (.ref i) :: l) (.ref i :: st) H a b := wp_aload_n (x := some i) f212_895 rfl
theorem f212_896 : ma_ins 212 896 = some (.iload_n 3, 1) := by decide +kernel
theorem w212_896 : ma_W d 212 Q 896 (o0 :: o1 :: o2 :: some (.int x) :: l) st H a b = ma_W d 212 Q 897 (o0 :: o1 :: o2 :: some (.int x) :: l) (.int x :: st) H a b := wp_iload_n f212_896 rfl
theorem f212_897 : ma_ins 212 897 = some (.iconst 1, 1) := by decide +kernel
theorem w212_897 : ma_W d 212 Q 897 l st H a b = ma_W d 212 Q 898 l (.int 1 :: st) H a b := wp_iconst f212_897 (by decide)
theorem f212_898 : ma_ins 212 898 = some (.iadd, 1) := by decide +kernel
theorem w212_898 : ma_W d 212 Q 898 l (.int y :: .int x :: st) H a b = ma_W d 212 Q 899 l (.int (x + y) :: st) H a b := wp_iadd f212_898
theorem f212_899 : ma_ins 212 899 = some (.iaload, 1) := by decide +kernel
theorem w212_899 : ma_W d 212 Q 899 l (.int x :: .ref i :: st) H a b = ma_ial (H.1 i) x (ma_kV d 212 Q 900 l st H a b) := wp_iald f212_899
theorem f212_900 : ma_ins 212 900 = some (.invokevirtual 133, 3) := by decide +kernel
theorem w212_900 : ma_W d 212 Q 900 l (.int x0 :: .ref i :: st) H a b = (ma_cat st ≤ 8 ∧ a + 0 ≤ 600000 ∧ b + 0 ≤ 7302250 ∧ ma_cv (H.1 i) 8 d 189 [.ref i, .int x0] H (ma_kC d 212 Q 903 l st (a + 0) (b + 0))) := wc_V (ia := 189) (n := 2) (cn := 8) f212_900 (by decide +kernel) (fun _ => rfl) rfl rfl
theorem f212_903 : ma_ins 212 903 = some (.if_icmp .eq 88, 3) := by decide +kernel
theorem w212_903 : ma_W d 212 Q 903 l (.int y :: .int x :: st) H a b = ma_if (x = y) d 212 Q 991 906 l st H a b := wp_ic (id := 212) (pc := 903) (c := .eq) (off := 88) 991 f212_903 (by decide)
theorem f212_906 : ma_ins 212 906 = some (.iconst 0, 1) := by decide +kernel
theorem w212_906 : ma_W d 212 Q 906 l st H a b = ma_W d 212 Q 907 l (.int 0 :: st) H a b := wp_iconst f212_906 (by decide)
theorem f212_907 : ma_ins 212 907 = some (.ireturn, 1) := by decide +kernel
theorem w212_907 : ma_W d 212 Q 907 l [.int x] H a b = ((x = 0 ∨ x = 1) ∧ Q (some (.int x)) H) := wp_zret f212_907 rfl
theorem f212_908 : ma_ins 212 908 = some (.aload_n 1, 1) := by decide +kernel
theorem w212_908 : ma_W d 212 Q 908 (o0 :: some (.ref i) :: l) st H a b = ma_W d 212 Q 909 (o0 :: some (.ref i) :: l) (.ref i :: st) H a b := wp_aload_n (x := some i) f212_908 rfl
theorem f212_909 : ma_ins 212 909 = some (.aload_n 0, 1) := by decide +kernel
theorem w212_909 : ma_W d 212 Q 909 (some (.ref i) :: l) st H a b = ma_W d 212 Q 910 (some (.ref i) :: l) (.ref i :: st) H a b := wp_aload_n (x := some i) f212_909 rfl
theorem f212_910 : ma_ins 212 910 = some (.iload_n 3, 1) := by decide +kernel
theorem w212_910 : ma_W d 212 Q 910 (o0 :: o1 :: o2 :: some (.int x) :: l) st H a b = ma_W d 212 Q 911 (o0 :: o1 :: o2 :: some (.int x) :: l) (.int x :: st) H a b := wp_iload_n f212_910 rfl
theorem f212_911 : ma_ins 212 911 = some (.iconst 1, 1) := by decide +kernel
theorem w212_911 : ma_W d 212 Q 911 l st H a b = ma_W d 212 Q 912 l (.int 1 :: st) H a b := wp_iconst f212_911 (by decide)
theorem f212_912 : ma_ins 212 912 = some (.iadd, 1) := by decide +kernel
theorem w212_912 : ma_W d 212 Q 912 l (.int y :: .int x :: st) H a b = ma_W d 212 Q 913 l (.int (x + y) :: st) H a b := wp_iadd f212_912
theorem f212_913 : ma_ins 212 913 = some (.iaload, 1) := by decide +kernel
theorem w212_913 : ma_W d 212 Q 913 l (.int x :: .ref i :: st) H a b = ma_ial (H.1 i) x (ma_kV d 212 Q 914 l st H a b) := wp_iald f212_913
theorem f212_914 : ma_ins 212 914 = some (.invokevirtual 134, 3) := by decide +kernel
theorem w212_914 : ma_W d 212 Q 914 l (.int x0 :: .ref i :: st) H a b = (ma_cat st ≤ 8 ∧ a + 0 ≤ 600000 ∧ b + 0 ≤ 7302250 ∧ ma_cv (H.1 i) 7 d 107 [.ref i, .int x0] H (ma_kC d 212 Q 917 l st (a + 0) (b + 0))) := wc_V (ia := 107) (n := 2) (cn := 7) f212_914 (by decide +kernel) (fun _ => rfl) rfl rfl
theorem f212_917 : ma_ins 212 917 = some (.aload_n 2, 1) := by decide +kernel
theorem w212_917 : ma_W d 212 Q 917 (o0 :: o1 :: some (.ref i) :: l) st H a b = ma_W d 212 Q 918 (o0 :: o1 :: some (.ref i) :: l) (.ref i :: st) H a b := wp_aload_n (x := some i) f212_917 rfl
theorem f212_918 : ma_ins 212 918 = some (.aload_n 0, 1) := by decide +kernel
theorem w212_918 : ma_W d 212 Q 918 (some (.ref i) :: l) st H a b = ma_W d 212 Q 919 (some (.ref i) :: l) (.ref i :: st) H a b := wp_aload_n (x := some i) f212_918 rfl
theorem f212_919 : ma_ins 212 919 = some (.iload_n 3, 1) := by decide +kernel
theorem w212_919 : ma_W d 212 Q 919 (o0 :: o1 :: o2 :: some (.int x) :: l) st H a b = ma_W d 212 Q 920 (o0 :: o1 :: o2 :: some (.int x) :: l) (.int x :: st) H a b := wp_iload_n f212_919 rfl
theorem f212_920 : ma_ins 212 920 = some (.iconst 1, 1) := by decide +kernel
theorem w212_920 : ma_W d 212 Q 920 l st H a b = ma_W d 212 Q 921 l (.int 1 :: st) H a b := wp_iconst f212_920 (by decide)
theorem f212_921 : ma_ins 212 921 = some (.iadd, 1) := by decide +kernel
theorem w212_921 : ma_W d 212 Q 921 l (.int y :: .int x :: st) H a b = ma_W d 212 Q 922 l (.int (x + y) :: st) H a b := wp_iadd f212_921
theorem f212_922 : ma_ins 212 922 = some (.iaload, 1) := by decide +kernel
theorem w212_922 : ma_W d 212 Q 922 l (.int x :: .ref i :: st) H a b = ma_ial (H.1 i) x (ma_kV d 212 Q 923 l st H a b) := wp_iald f212_922
theorem f212_923 : ma_ins 212 923 = some (.invokevirtual 137, 3) := by decide +kernel
theorem w212_923 : ma_W d 212 Q 923 l (.int x0 :: .ref i :: st) H a b = (ma_cat st ≤ 8 ∧ a + 0 ≤ 600000 ∧ b + 0 ≤ 7302250 ∧ ma_cv (H.1 i) 8 d 190 [.ref i, .int x0] H (ma_kC d 212 Q 926 l st (a + 0) (b + 0))) := wc_V (ia := 190) (n := 2) (cn := 8) f212_923 (by decide +kernel) (fun _ => rfl) rfl rfl
theorem f212_926 : ma_ins 212 926 = some (.if_icmp .eq 65, 3) := by decide +kernel
theorem w212_926 : ma_W d 212 Q 926 l (.int y :: .int x :: st) H a b = ma_if (x = y) d 212 Q 991 929 l st H a b := wp_ic (id := 212) (pc := 926) (c := .eq) (off := 65) 991 f212_926 (by decide)
theorem f212_929 : ma_ins 212 929 = some (.iconst 0, 1) := by decide +kernel
theorem w212_929 : ma_W d 212 Q 929 l st H a b = ma_W d 212 Q 930 l (.int 0 :: st) H a b := wp_iconst f212_929 (by decide)
theorem f212_930 : ma_ins 212 930 = some (.ireturn, 1) := by decide +kernel
theorem w212_930 : ma_W d 212 Q 930 l [.int x] H a b = ((x = 0 ∨ x = 1) ∧ Q (some (.int x)) H) := wp_zret f212_930 rfl
theorem f212_931 : ma_ins 212 931 = some (.aload_n 1, 1) := by decide +kernel
theorem w212_931 : ma_W d 212 Q 931 (o0 :: some (.ref i) :: l) st H a b = ma_W d 212 Q 932 (o0 :: some (.ref i) :: l) (.ref i :: st) H a b := wp_aload_n (x := some i) f212_931 rfl
theorem f212_932 : ma_ins 212 932 = some (.aload_n 0, 1) := by decide +kernel
theorem w212_932 : ma_W d 212 Q 932 (some (.ref i) :: l) st H a b = ma_W d 212 Q 933 (some (.ref i) :: l) (.ref i :: st) H a b := wp_aload_n (x := some i) f212_932 rfl
theorem f212_933 : ma_ins 212 933 = some (.iload_n 3, 1) := by decide +kernel
theorem w212_933 : ma_W d 212 Q 933 (o0 :: o1 :: o2 :: some (.int x) :: l) st H a b = ma_W d 212 Q 934 (o0 :: o1 :: o2 :: some (.int x) :: l) (.int x :: st) H a b := wp_iload_n f212_933 rfl
theorem f212_934 : ma_ins 212 934 = some (.iconst 1, 1) := by decide +kernel
theorem w212_934 : ma_W d 212 Q 934 l st H a b = ma_W d 212 Q 935 l (.int 1 :: st) H a b := wp_iconst f212_934 (by decide)
theorem f212_935 : ma_ins 212 935 = some (.iadd, 1) := by decide +kernel
theorem w212_935 : ma_W d 212 Q 935 l (.int y :: .int x :: st) H a b = ma_W d 212 Q 936 l (.int (x + y) :: st) H a b := wp_iadd f212_935
theorem f212_936 : ma_ins 212 936 = some (.iaload, 1) := by decide +kernel
theorem w212_936 : ma_W d 212 Q 936 l (.int x :: .ref i :: st) H a b = ma_ial (H.1 i) x (ma_kV d 212 Q 937 l st H a b) := wp_iald f212_936
theorem f212_937 : ma_ins 212 937 = some (.invokevirtual 138, 3) := by decide +kernel
theorem w212_937 : ma_W d 212 Q 937 l (.int x0 :: .ref i :: st) H a b = (ma_cat st ≤ 8 ∧ a + 0 ≤ 600000 ∧ b + 0 ≤ 7302250 ∧ ma_cv (H.1 i) 7 d 108 [.ref i, .int x0] H (ma_kC d 212 Q 940 l st (a + 0) (b + 0))) := wc_V (ia := 108) (n := 2) (cn := 7) f212_937 (by decide +kernel) (fun _ => rfl) rfl rfl
theorem f212_940 : ma_ins 212 940 = some (.aload_n 2, 1) := by decide +kernel
theorem w212_940 : ma_W d 212 Q 940 (o0 :: o1 :: some (.ref i) :: l) st H a b = ma_W d 212 Q 941 (o0 :: o1 :: some (.ref i) :: l) (.ref i :: st) H a b := wp_aload_n (x := some i) f212_940 rfl
theorem f212_941 : ma_ins 212 941 = some (.aload_n 0, 1) := by decide +kernel
theorem w212_941 : ma_W d 212 Q 941 (some (.ref i) :: l) st H a b = ma_W d 212 Q 942 (some (.ref i) :: l) (.ref i :: st) H a b := wp_aload_n (x := some i) f212_941 rfl
theorem f212_942 : ma_ins 212 942 = some (.iload_n 3, 1) := by decide +kernel
theorem w212_942 : ma_W d 212 Q 942 (o0 :: o1 :: o2 :: some (.int x) :: l) st H a b = ma_W d 212 Q 943 (o0 :: o1 :: o2 :: some (.int x) :: l) (.int x :: st) H a b := wp_iload_n f212_942 rfl
theorem f212_943 : ma_ins 212 943 = some (.iconst 1, 1) := by decide +kernel
theorem w212_943 : ma_W d 212 Q 943 l st H a b = ma_W d 212 Q 944 l (.int 1 :: st) H a b := wp_iconst f212_943 (by decide)
theorem f212_944 : ma_ins 212 944 = some (.iadd, 1) := by decide +kernel
theorem w212_944 : ma_W d 212 Q 944 l (.int y :: .int x :: st) H a b = ma_W d 212 Q 945 l (.int (x + y) :: st) H a b := wp_iadd f212_944
theorem f212_945 : ma_ins 212 945 = some (.iaload, 1) := by decide +kernel
theorem w212_945 : ma_W d 212 Q 945 l (.int x :: .ref i :: st) H a b = ma_ial (H.1 i) x (ma_kV d 212 Q 946 l st H a b) := wp_iald f212_945
theorem f212_946 : ma_ins 212 946 = some (.invokevirtual 141, 3) := by decide +kernel
theorem w212_946 : ma_W d 212 Q 946 l (.int x0 :: .ref i :: st) H a b = (ma_cat st ≤ 8 ∧ a + 0 ≤ 600000 ∧ b + 0 ≤ 7302250 ∧ ma_cv (H.1 i) 8 d 191 [.ref i, .int x0] H (ma_kC d 212 Q 949 l st (a + 0) (b + 0))) := wc_V (ia := 191) (n := 2) (cn := 8) f212_946 (by decide +kernel) (fun _ => rfl) rfl rfl
theorem f212_949 : ma_ins 212 949 = some (.if_icmp .eq 42, 3) := by decide +kernel
theorem w212_949 : ma_W d 212 Q 949 l (.int y :: .int x :: st) H a b = ma_if (x = y) d 212 Q 991 952 l st H a b := wp_ic (id := 212) (pc := 949) (c := .eq) (off := 42) 991 f212_949 (by decide)
theorem f212_952 : ma_ins 212 952 = some (.iconst 0, 1) := by decide +kernel
theorem w212_952 : ma_W d 212 Q 952 l st H a b = ma_W d 212 Q 953 l (.int 0 :: st) H a b := wp_iconst f212_952 (by decide)
theorem f212_953 : ma_ins 212 953 = some (.ireturn, 1) := by decide +kernel
theorem w212_953 : ma_W d 212 Q 953 l [.int x] H a b = ((x = 0 ∨ x = 1) ∧ Q (some (.int x)) H) := wp_zret f212_953 rfl
theorem f212_954 : ma_ins 212 954 = some (.aload_n 1, 1) := by decide +kernel
theorem w212_954 : ma_W d 212 Q 954 (o0 :: some (.ref i) :: l) st H a b = ma_W d 212 Q 955 (o0 :: some (.ref i) :: l) (.ref i :: st) H a b := wp_aload_n (x := some i) f212_954 rfl
theorem f212_955 : ma_ins 212 955 = some (.aload_n 0, 1) := by decide +kernel
theorem w212_955 : ma_W d 212 Q 955 (some (.ref i) :: l) st H a b = ma_W d 212 Q 956 (some (.ref i) :: l) (.ref i :: st) H a b := wp_aload_n (x := some i) f212_955 rfl
theorem f212_956 : ma_ins 212 956 = some (.iload_n 3, 1) := by decide +kernel
theorem w212_956 : ma_W d 212 Q 956 (o0 :: o1 :: o2 :: some (.int x) :: l) st H a b = ma_W d 212 Q 957 (o0 :: o1 :: o2 :: some (.int x) :: l) (.int x :: st) H a b := wp_iload_n f212_956 rfl
theorem f212_957 : ma_ins 212 957 = some (.iconst 1, 1) := by decide +kernel
theorem w212_957 : ma_W d 212 Q 957 l st H a b = ma_W d 212 Q 958 l (.int 1 :: st) H a b := wp_iconst f212_957 (by decide)
theorem f212_958 : ma_ins 212 958 = some (.iadd, 1) := by decide +kernel
theorem w212_958 : ma_W d 212 Q 958 l (.int y :: .int x :: st) H a b = ma_W d 212 Q 959 l (.int (x + y) :: st) H a b := wp_iadd f212_958
theorem f212_959 : ma_ins 212 959 = some (.iaload, 1) := by decide +kernel
theorem w212_959 : ma_W d 212 Q 959 l (.int x :: .ref i :: st) H a b = ma_ial (H.1 i) x (ma_kV d 212 Q 960 l st H a b) := wp_iald f212_959
theorem f212_960 : ma_ins 212 960 = some (.invokevirtual 142, 3) := by decide +kernel
theorem w212_960 : ma_W d 212 Q 960 l (.int x0 :: .ref i :: st) H a b = (ma_cat st ≤ 8 ∧ a + 0 ≤ 600000 ∧ b + 0 ≤ 7302250 ∧ ma_cv (H.1 i) 7 d 109 [.ref i, .int x0] H (ma_kC d 212 Q 963 l st (a + 0) (b + 0))) := wc_V (ia := 109) (n := 2) (cn := 7) f212_960 (by decide +kernel) (fun _ => rfl) rfl rfl
theorem f212_963 : ma_ins 212 963 = some (.aload_n 2, 1) := by decide +kernel
theorem w212_963 : ma_W d 212 Q 963 (o0 :: o1 :: some (.ref i) :: l) st H a b = ma_W d 212 Q 964 (o0 :: o1 :: some (.ref i) :: l) (.ref i :: st) H a b := wp_aload_n (x := some i) f212_963 rfl
theorem f212_964 : ma_ins 212 964 = some (.aload_n 0, 1) := by decide +kernel
theorem w212_964 : ma_W d 212 Q 964 (some (.ref i) :: l) st H a b = ma_W d 212 Q 965 (some (.ref i) :: l) (.ref i :: st) H a b := wp_aload_n (x := some i) f212_964 rfl
theorem f212_965 : ma_ins 212 965 = some (.iload_n 3, 1) := by decide +kernel
theorem w212_965 : ma_W d 212 Q 965 (o0 :: o1 :: o2 :: some (.int x) :: l) st H a b = ma_W d 212 Q 966 (o0 :: o1 :: o2 :: some (.int x) :: l) (.int x :: st) H a b := wp_iload_n f212_965 rfl
theorem f212_966 : ma_ins 212 966 = some (.iconst 1, 1) := by decide +kernel
theorem w212_966 : ma_W d 212 Q 966 l st H a b = ma_W d 212 Q 967 l (.int 1 :: st) H a b := wp_iconst f212_966 (by decide)
theorem f212_967 : ma_ins 212 967 = some (.iadd, 1) := by decide +kernel
theorem w212_967 : ma_W d 212 Q 967 l (.int y :: .int x :: st) H a b = ma_W d 212 Q 968 l (.int (x + y) :: st) H a b := wp_iadd f212_967
theorem f212_968 : ma_ins 212 968 = some (.iaload, 1) := by decide +kernel
theorem w212_968 : ma_W d 212 Q 968 l (.int x :: .ref i :: st) H a b = ma_ial (H.1 i) x (ma_kV d 212 Q 969 l st H a b) := wp_iald f212_968
theorem f212_969 : ma_ins 212 969 = some (.invokevirtual 145, 3) := by decide +kernel
theorem w212_969 : ma_W d 212 Q 969 l (.int x0 :: .ref i :: st) H a b = (ma_cat st ≤ 8 ∧ a + 0 ≤ 600000 ∧ b + 0 ≤ 7302250 ∧ ma_cv (H.1 i) 8 d 193 [.ref i, .int x0] H (ma_kC d 212 Q 972 l st (a + 0) (b + 0))) := wc_V (ia := 193) (n := 2) (cn := 8) f212_969 (by decide +kernel) (fun _ => rfl) rfl rfl
theorem f212_972 : ma_ins 212 972 = some (.if_icmp .eq 19, 3) := by decide +kernel
theorem w212_972 : ma_W d 212 Q 972 l (.int y :: .int x :: st) H a b = ma_if (x = y) d 212 Q 991 975 l st H a b := wp_ic (id := 212) (pc := 972) (c := .eq) (off := 19) 991 f212_972 (by decide)
theorem f212_975 : ma_ins 212 975 = some (.iconst 0, 1) := by decide +kernel
theorem w212_975 : ma_W d 212 Q 975 l st H a b = ma_W d 212 Q 976 l (.int 0 :: st) H a b := wp_iconst f212_975 (by decide)
theorem f212_976 : ma_ins 212 976 = some (.ireturn, 1) := by decide +kernel
theorem w212_976 : ma_W d 212 Q 976 l [.int x] H a b = ((x = 0 ∨ x = 1) ∧ Q (some (.int x)) H) := wp_zret f212_976 rfl
theorem f212_977 : ma_ins 212 977 = some (.aload_n 1, 1) := by decide +kernel
theorem w212_977 : ma_W d 212 Q 977 (o0 :: some (.ref i) :: l) st H a b = ma_W d 212 Q 978 (o0 :: some (.ref i) :: l) (.ref i :: st) H a b := wp_aload_n (x := some i) f212_977 rfl
theorem f212_978 : ma_ins 212 978 = some (.invokevirtual 146, 3) := by decide +kernel
theorem w212_978 : ma_W d 212 Q 978 l (.ref i :: st) H a b = (ma_cat st ≤ 8 ∧ a + 0 ≤ 600000 ∧ b + 0 ≤ 7302250 ∧ ma_cv (H.1 i) 7 d 110 [.ref i] H (ma_kC d 212 Q 981 l st (a + 0) (b + 0))) := wc_V (ia := 110) (n := 1) (cn := 7) f212_978 (by decide +kernel) (fun _ => rfl) rfl rfl
theorem f212_981 : ma_ins 212 981 = some (.aload_n 2, 1) := by decide +kernel
theorem w212_981 : ma_W d 212 Q 981 (o0 :: o1 :: some (.ref i) :: l) st H a b = ma_W d 212 Q 982 (o0 :: o1 :: some (.ref i) :: l) (.ref i :: st) H a b := wp_aload_n (x := some i) f212_981 rfl
theorem f212_982 : ma_ins 212 982 = some (.invokevirtual 150, 3) := by decide +kernel
theorem w212_982 : ma_W d 212 Q 982 l (.ref i :: st) H a b = (ma_cat st ≤ 8 ∧ a + 0 ≤ 600000 ∧ b + 0 ≤ 7302250 ∧ ma_cv (H.1 i) 8 d 194 [.ref i] H (ma_kC d 212 Q 985 l st (a + 0) (b + 0))) := wc_V (ia := 194) (n := 1) (cn := 8) f212_982 (by decide +kernel) (fun _ => rfl) rfl rfl
theorem f212_985 : ma_ins 212 985 = some (.lcmp, 1) := by decide +kernel
theorem w212_985 : ma_W d 212 Q 985 l (.long v :: .long u :: st) H a b = ma_W d 212 Q 986 l (.int (lg_cmp u v) :: st) H a b := wp_lcmp f212_985
theorem f212_986 : ma_ins 212 986 = some (.ifCond .eq 5, 3) := by decide +kernel
theorem w212_986 : ma_W d 212 Q 986 l (.int x :: st) H a b = ma_if (x = 0) d 212 Q 991 989 l st H a b := wp_c0 (id := 212) (pc := 986) (c := .eq) (off := 5) 991 f212_986 (by decide)
theorem f212_989 : ma_ins 212 989 = some (.iconst 0, 1) := by decide +kernel
theorem w212_989 : ma_W d 212 Q 989 l st H a b = ma_W d 212 Q 990 l (.int 0 :: st) H a b := wp_iconst f212_989 (by decide)
theorem f212_990 : ma_ins 212 990 = some (.ireturn, 1) := by decide +kernel
theorem w212_990 : ma_W d 212 Q 990 l [.int x] H a b = ((x = 0 ∨ x = 1) ∧ Q (some (.int x)) H) := wp_zret f212_990 rfl
theorem f212_991 : ma_ins 212 991 = some (.iinc 3 5, 3) := by decide +kernel
theorem w212_991 : ma_W d 212 Q 991 (o0 :: o1 :: o2 :: some (.int x) :: l) st H a b = ma_W d 212 Q 994 (o0 :: o1 :: ma_clr o2 :: some (.int (x + 5)) :: l) st H a b := wp_iinc (id := 212) (pc := 991) (k := 3) (n := 5) f212_991 (Nat.succ_lt_succ (Nat.succ_lt_succ (Nat.succ_lt_succ (Nat.zero_lt_succ _)))) rfl (by decide)
theorem f212_994 : ma_ins 212 994 = some (.goto (-976), 3) := by decide +kernel
theorem w212_994 : ma_W d 212 Q 994 l st H a b = ma_W d 212 Q 18 l st H a b := wp_goto 18 f212_994 (by decide)
theorem f212_997 : ma_ins 212 997 = some (.iconst 1, 1) := by decide +kernel
theorem w212_997 : ma_W d 212 Q 997 l st H a b = ma_W d 212 Q 998 l (.int 1 :: st) H a b := wp_iconst f212_997 (by decide)
theorem f212_998 : ma_ins 212 998 = some (.ireturn, 1) := by decide +kernel
theorem w212_998 : ma_W d 212 Q 998 l [.int x] H a b = ((x = 0 ∨ x = 1) ∧ Q (some (.int x)) H) := wp_zret f212_998 rfl
end

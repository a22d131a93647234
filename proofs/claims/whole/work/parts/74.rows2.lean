/-! the class Rows: a card put elsewhere, a row turned, in order, mixed -/
theorem gv_set : ∀ (l : List Nat) (i k : Nat), i < l.length → gv (l.set i k) + 8 ^ i * l.getD i 0 = gv l + 8 ^ i * k
  | [], _, _, h => absurd h (by simp)
  | c :: l, 0, k, _ => by
    show k + 8 * gv l + 8 ^ 0 * c = c + 8 * gv l + 8 ^ 0 * k
    rw [Nat.pow_zero]; omega
  | c :: l, i + 1, k, h => by
    have ih := gv_set l i k (by simpa using h)
    show c + 8 * gv (l.set i k) + 8 ^ (i + 1) * l.getD i 0 = c + 8 * gv l + 8 ^ (i + 1) * k
    rw [Nat.pow_succ, Nat.mul_comm (8 ^ i) 8, Nat.mul_assoc, Nat.mul_assoc]
    omega
theorem put_bits {hi c k lo s : Nat} (hs : s + 3 ≤ 64) (hlo : lo < 2 ^ s) (hc : c < 8) (hk : k < 8) (hn : 2 ^ s * (8 * hi + c) + lo < 2 ^ 64) :
    ((2 ^ s * (8 * hi + c) + lo) &&& (7 * 2 ^ s ^^^ (2 ^ 64 - 1))) ||| k * 2 ^ s = 2 ^ s * (8 * hi + k) + lo := by
  apply Nat.eq_of_testBit_eq
  intro j
  have e8 : ∀ x, 8 * hi + x = 2 ^ 3 * hi + x := fun x => rfl
  rw [Nat.testBit_or, Nat.testBit_and, Nat.testBit_xor, Nat.testBit_two_pow_sub_one, Nat.testBit_two_pow_mul_add _ hlo, Nat.testBit_two_pow_mul_add _ hlo, Nat.mul_comm 7, Nat.mul_comm k]
  have z : ∀ x, (2 ^ s * x).testBit j = if j < s then false else x.testBit (j - s) := fun x => by
    have := Nat.testBit_two_pow_mul_add x (b := 0) (i := s) (Nat.two_pow_pos s) j
    rw [Nat.add_zero, Nat.zero_testBit] at this
    exact this
  rw [z, z]
  by_cases h : j < s
  · rw [if_pos h, if_pos h, if_pos h, if_pos h, decide_eq_true (show j < 64 by omega)]
    simp
  · rw [if_neg h, if_neg h, if_neg h, if_neg h, e8, e8, Nat.testBit_two_pow_mul_add _ (show c < 2 ^ 3 from hc), Nat.testBit_two_pow_mul_add _ (show k < 2 ^ 3 from hk)]
    by_cases g : j - s < 3
    · rw [if_pos g, if_pos g, decide_eq_true (show j < 64 by omega)]
      have : (7 : Nat).testBit (j - s) = true := by
        rw [show (7 : Nat) = 2 ^ 3 - 1 by rfl, Nat.testBit_two_pow_sub_one, decide_eq_true g]
      rw [this]; simp
    · rw [if_neg g, if_neg g]
      have h7 : (7 : Nat).testBit (j - s) = false := by
        rw [show (7 : Nat) = 2 ^ 3 - 1 by rfl, Nat.testBit_two_pow_sub_one, decide_eq_false g]
      have hk7 : k.testBit (j - s) = false := Nat.testBit_lt_two_pow (Nat.lt_of_lt_of_le (show k < 2 ^ 3 from hk) (Nat.pow_le_pow_right (by decide) (by omega)))
      rw [h7, hk7]
      by_cases h64 : j < 64
      · rw [decide_eq_true h64]; simp
      · rw [decide_eq_false h64]
        have hbig : hi.testBit (j - s - 3) = false := by
          apply Nat.testBit_lt_two_pow
          have h1 : 2 ^ (s + 3) * hi < 2 ^ 64 := by
            rw [Nat.pow_add]
            have : 2 ^ s * 2 ^ 3 * hi ≤ 2 ^ s * (8 * hi + c) := by
              rw [Nat.mul_assoc]; exact Nat.mul_le_mul_left _ (by omega)
            omega
          have h2 : 2 ^ 64 ≤ 2 ^ (s + 3) * 2 ^ (j - s - 3) := by
            rw [← Nat.pow_add]; exact Nat.pow_le_pow_right (by decide) (by omega)
          exact Nat.lt_of_mul_lt_mul_left (Nat.lt_of_lt_of_le h1 h2)
        rw [hbig]; simp
theorem gk_set {l : List Nat} {i k : Nat} (h : gk l) (hk : k < 6) : gk (l.set i k) := ⟨by rw [List.length_set]; exact h.1, fun c hc => by
  rcases List.mem_or_eq_of_mem_set hc with g | g
  · exact h.2 c g
  · rw [g]; exact hk⟩
theorem getD_at {l : List Nat} {i : Nat} (h : i < l.length) : l.getD i 0 = l[i] := by rw [List.getD_eq_getElem?_getD, List.getElem?_eq_getElem h]; rfl
theorem gn_set {l : List Nat} {i k : Nat} (h : gk l) (hi : i < l.length) (hk : k < 6) : (gn l &&& (7 * 2 ^ (3 * i) ^^^ (2 ^ 64 - 1))) ||| k * 2 ^ (3 * i) = gn (l.set i k) := by
  have h16 := h.1
  have hc6 : l[i] < 6 := h.2 _ (List.getElem_mem hi)
  have hd : gn l = 2 ^ (3 * i) * (8 * (gn l / 2 ^ (3 * i) / 8) + l[i]) + gn l % 2 ^ (3 * i) := by
    have h1 := gn_at h hi
    have h2 := Nat.div_add_mod (gn l) (2 ^ (3 * i))
    have h3 := Nat.div_add_mod (gn l / 2 ^ (3 * i)) 8
    rw [h1] at h3
    rw [h3]; exact h2.symm
  have hs := gv_set l i k hi
  rw [getD_at hi] at hs
  have e : gn (l.set i k) + 2 ^ (3 * i) * l[i] = gn l + 2 ^ (3 * i) * k := by
    unfold gn; rw [List.length_set, p8]; omega
  rw [hd, put_bits (by omega) (Nat.mod_lt _ (Nat.two_pow_pos _)) (by omega) (by omega) (by rw [← hd]; exact b53 (gn_lt h))]
  rw [Nat.mul_add]
  rw [Nat.mul_add] at hd
  omega
theorem r_put {d i k : Nat} {l : List Nat} {H : ma_H} {Q : ma_P} (hl : gk l) (hi : i < l.length) (hk : k < 6) (h : Q (some (.long (enc (l.set i k)))) H) : ma_MW (d + 1) 206 [.long (enc l), .int (nI i), .int (nI k)] H Q := by
  have h16 := hl.1
  rw [e206]
  simp (disch := omega) only [w206_0, w206_1, w206_4, w206_5, w206_6, w206_7, w206_8, w206_11, w206_12, w206_13, w206_14, w206_15, w206_16, w206_17, w206_18, w206_19, w206_20, ma_kV_ap, ma_kC_s, ma_kC_n, ma_kH_ap, ma_gf_ap, ma_pf_ap, ma_cv_ap, ma_nt_0, ma_nt_s, ma_if_t, ma_if_f, ma_set_s, ma_set_ss, ma_set_2, ma_cat_n, ma_cat_i, ma_cat_l, ma_cat_r, ma_clr_n, ma_clr_i, ma_clr_l, ma_clr_r, ma_clr_0, ma_rf_s, ma_rf_n, ma_ial_ap, ma_ias_ap, List.set_cons_zero, List.set_cons_succ, List.length_cons, List.length_nil, Nat.reduceAdd, Nat.reduceLT, Nat.reduceLeDiff, Nat.le_refl, true_and, and_true, Nat.lt_add_one]
  have e : (enc l &&& (((7 : Int64) <<< ((3 * nI i).toInt64 &&& 63)) ^^^ (-1))) ||| ((nI k).toInt64 <<< ((3 * nI i).toInt64 &&& 63)) = enc (l.set i k) := by
    rw [nx_31, nI_l (n := k) (by omega), wb_shl k (by omega), show (7 : Int64) = lN 7 from rfl, wb_shl 7 (by omega), show (-1 : Int64) = lN (2 ^ 64 - 1) by decide]
    unfold enc
    rw [fb_xorL, fb_andL, fb_orL, gn_set hl hi hk]
  rw [e]
  exact h
/-- a row with m of its first cards put behind it -/
def gturn (l : List Nat) (m : Nat) : List Nat := l.drop (m % l.length) ++ l.take (m % l.length)
theorem gturn_len (l : List Nat) (m : Nat) : (gturn l m).length = l.length := by
  unfold gturn
  rw [List.length_append, List.length_drop, List.length_take]
  omega
theorem gturn_gk {l : List Nat} (h : gk l) (m : Nat) : gk (gturn l m) := ⟨by rw [gturn_len]; exact h.1, fun c hc => by
  unfold gturn at hc
  rcases List.mem_append.mp hc with g | g
  · exact h.2 c (List.mem_of_mem_drop g)
  · exact h.2 c (List.mem_of_mem_take g)⟩
theorem r_turned {d m : Nat} {l : List Nat} {H : ma_H} {Q : ma_P} (hl : gk l) (hm : m < 2 ^ 63) (h : Q (some (.long (enc (gturn l m)))) H) : ma_MW (d + 2) 207 [.long (enc l), .long (lN m)] H Q := by
  have h16 := hl.1
  rw [e207]
  simp (disch := omega) only [w207_0, w207_1, w207_4, w207_6, w207_8, w207_11, w207_12, w207_15, w207_16, w207_18, w207_19, w207_20, w207_21, w207_23, w207_25, w207_28, w207_29, w207_30, w207_31, w207_34, w207_35, w207_37, w207_39, w207_40, w207_41, w207_43, w207_44, w207_45, w207_46, w207_47, w207_48, w207_50, w207_51, w207_54, w207_55, w207_57, w207_58, w207_60, w207_61, w207_62, w207_63, w207_65, w207_66, w207_68, w207_70, w207_71, w207_72, w207_73, w207_74, ma_kV_ap, ma_kC_s, ma_kC_n, ma_kH_ap, ma_gf_ap, ma_pf_ap, ma_cv_ap, ma_nt_0, ma_nt_s, ma_if_t, ma_if_f, ma_set_s, ma_set_ss, ma_set_2, ma_cat_n, ma_cat_i, ma_cat_l, ma_cat_r, ma_clr_n, ma_clr_i, ma_clr_l, ma_clr_r, ma_clr_0, ma_rf_s, ma_rf_n, ma_ial_ap, ma_ias_ap, List.set_cons_zero, List.set_cons_succ, List.length_cons, List.length_nil, Nat.reduceAdd, Nat.reduceLT, Nat.reduceLeDiff, Nat.le_refl, true_and, and_true, Nat.lt_add_one]
  refine r_size hl ?_
  simp (disch := omega) only [w207_0, w207_1, w207_4, w207_6, w207_8, w207_11, w207_12, w207_15, w207_16, w207_18, w207_19, w207_20, w207_21, w207_25, w207_28, w207_29, w207_30, w207_31, w207_34, w207_35, w207_37, w207_39, w207_40, w207_41, w207_43, w207_44, w207_45, w207_46, w207_47, w207_48, w207_50, w207_51, w207_54, w207_55, w207_57, w207_58, w207_60, w207_61, w207_62, w207_63, w207_65, w207_66, w207_68, w207_70, w207_71, w207_72, w207_73, w207_74, ma_kV_ap, ma_kC_s, ma_kC_n, ma_kH_ap, ma_gf_ap, ma_pf_ap, ma_cv_ap, ma_nt_0, ma_nt_s, ma_if_t, ma_if_f, ma_set_s, ma_set_ss, ma_set_2, ma_cat_n, ma_cat_i, ma_cat_l, ma_cat_r, ma_clr_n, ma_clr_i, ma_clr_l, ma_clr_r, ma_clr_0, ma_rf_s, ma_rf_n, ma_ial_ap, ma_ias_ap, List.set_cons_zero, List.set_cons_succ, List.length_cons, List.length_nil, Nat.reduceAdd, Nat.reduceLT, Nat.reduceLeDiff, Nat.le_refl, true_and, and_true, Nat.lt_add_one, fa_lit, nI_add, pk_mul, pk_sub, pk_div, ma_rem_n, nI_ltI, nI_leI, nI_eq, Nat.reduceEqDiff, Nat.reduceMul, Nat.reduceSub, not_false_eq_true, not_true_eq_false, or_true, true_or, or_false, false_or, eq_self, Nat.zero_add, Nat.add_zero]
  refine ⟨fun c => ?_, fun c => ?_⟩
  · have c' : l = [] := List.length_eq_zero_iff.mp c
    subst c'
    have e0 : gturn [] m = [] := by unfold gturn; simp
    rw [e0] at h
    simp (disch := omega) only [w207_0, w207_1, w207_4, w207_6, w207_8, w207_11, w207_12, w207_15, w207_16, w207_18, w207_19, w207_20, w207_21, w207_23, w207_25, w207_28, w207_29, w207_30, w207_31, w207_34, w207_35, w207_37, w207_39, w207_40, w207_41, w207_43, w207_44, w207_45, w207_46, w207_47, w207_48, w207_50, w207_51, w207_54, w207_55, w207_57, w207_58, w207_60, w207_61, w207_62, w207_63, w207_65, w207_66, w207_68, w207_70, w207_71, w207_72, w207_73, w207_74, ma_kV_ap, ma_kC_s, ma_kC_n, ma_kH_ap, ma_gf_ap, ma_pf_ap, ma_cv_ap, ma_nt_0, ma_nt_s, ma_if_t, ma_if_f, ma_set_s, ma_set_ss, ma_set_2, ma_cat_n, ma_cat_i, ma_cat_l, ma_cat_r, ma_clr_n, ma_clr_i, ma_clr_l, ma_clr_r, ma_clr_0, ma_rf_s, ma_rf_n, ma_ial_ap, ma_ias_ap, List.set_cons_zero, List.set_cons_succ, List.length_cons, List.length_nil, Nat.reduceAdd, Nat.reduceLT, Nat.reduceLeDiff, Nat.le_refl, true_and, and_true, Nat.lt_add_one, fa_lit, nI_add, pk_mul, pk_sub, pk_div, ma_rem_n, nI_ltI, nI_leI, nI_eq, Nat.reduceEqDiff, Nat.reduceMul, Nat.reduceSub, not_false_eq_true, not_true_eq_false, or_true, true_or, or_false, false_or, eq_self, Nat.zero_add, Nat.add_zero]
    exact h
  · have z : ¬ lN l.length = 0 := fun e => c ((pk_lEQ (b := 0) (by omega) (by omega)).mp e)
    have hlt : m % l.length < l.length := Nat.mod_lt _ (by omega)
    have e1 : (nI l.length).toInt64 = lN l.length := nI_l (by omega)
    have e2 : ma_rml (lN m) (lN l.length) = lN (m % l.length) := ma_rml_n hm (by omega) (by omega)
    simp (disch := omega) only [w207_0, w207_1, w207_4, w207_6, w207_8, w207_11, w207_12, w207_15, w207_16, w207_18, w207_19, w207_20, w207_21, w207_23, w207_25, w207_29, w207_31, w207_34, w207_35, w207_37, w207_39, w207_40, w207_41, w207_43, w207_44, w207_45, w207_46, w207_47, w207_48, w207_50, w207_51, w207_54, w207_55, w207_57, w207_58, w207_60, w207_61, w207_62, w207_63, w207_65, w207_66, w207_68, w207_70, w207_71, w207_72, w207_73, w207_74, ma_kV_ap, ma_kC_s, ma_kC_n, ma_kH_ap, ma_gf_ap, ma_pf_ap, ma_cv_ap, ma_nt_0, ma_nt_s, ma_if_t, ma_if_f, ma_set_s, ma_set_ss, ma_set_2, ma_cat_n, ma_cat_i, ma_cat_l, ma_cat_r, ma_clr_n, ma_clr_i, ma_clr_l, ma_clr_r, ma_clr_0, ma_rf_s, ma_rf_n, ma_ial_ap, ma_ias_ap, List.set_cons_zero, List.set_cons_succ, List.length_cons, List.length_nil, Nat.reduceAdd, Nat.reduceLT, Nat.reduceLeDiff, Nat.le_refl, true_and, and_true, Nat.lt_add_one, fa_lit, nI_add, pk_mul, pk_sub, pk_div, ma_rem_n, nI_ltI, nI_leI, nI_eq, Nat.reduceEqDiff, Nat.reduceMul, Nat.reduceSub, not_false_eq_true, not_true_eq_false, or_true, true_or, or_false, false_or, eq_self, Nat.zero_add, Nat.add_zero, e1, e2, z, lN_i]
    refine ⟨fun c2 => ?_, fun c2 => ?_⟩
    · simp (disch := omega) only [w207_0, w207_1, w207_4, w207_6, w207_8, w207_11, w207_12, w207_15, w207_16, w207_18, w207_19, w207_20, w207_21, w207_23, w207_25, w207_28, w207_29, w207_30, w207_31, w207_34, w207_35, w207_37, w207_39, w207_40, w207_41, w207_43, w207_44, w207_45, w207_46, w207_47, w207_48, w207_50, w207_51, w207_54, w207_55, w207_57, w207_58, w207_60, w207_61, w207_62, w207_63, w207_65, w207_66, w207_68, w207_70, w207_71, w207_72, w207_73, w207_74, ma_kV_ap, ma_kC_s, ma_kC_n, ma_kH_ap, ma_gf_ap, ma_pf_ap, ma_cv_ap, ma_nt_0, ma_nt_s, ma_if_t, ma_if_f, ma_set_s, ma_set_ss, ma_set_2, ma_cat_n, ma_cat_i, ma_cat_l, ma_cat_r, ma_clr_n, ma_clr_i, ma_clr_l, ma_clr_r, ma_clr_0, ma_rf_s, ma_rf_n, ma_ial_ap, ma_ias_ap, List.set_cons_zero, List.set_cons_succ, List.length_cons, List.length_nil, Nat.reduceAdd, Nat.reduceLT, Nat.reduceLeDiff, Nat.le_refl, true_and, and_true, Nat.lt_add_one]
      have e : ((enc l &&& (-281474976710656 : Int64)) ||| ma_ushr (enc l &&& 281474976710655) (3 * nI (m % l.length))) ||| ((enc l &&& 281474976710655 &&& (((1 : Int64) <<< ((3 * nI (m % l.length)).toInt64 &&& 63)) - 1)) <<< ((3 * (nI l.length - nI (m % l.length))).toInt64 &&& 63)) = enc (gturn l m) := by
        have hn := b53 (gn_lt hl)
        have g48 : gv l < 2 ^ 64 := Nat.lt_trans (gk_lt hl) (by decide)
        have gd : ∀ c ∈ l.drop (m % l.length), c < 6 := fun c hc => hl.2 c (List.mem_of_mem_drop hc)
        have l1 : gv (l.drop (m % l.length)) < 2 ^ (3 * (l.length - m % l.length)) := by
          rw [p8]; have := gv_lt gd; rw [List.length_drop] at this; exact this
        have gt := gk_lt (gturn_gk hl m)
        have ga : gv (gturn l m) = 2 ^ (3 * (l.length - m % l.length)) * gv (l.take (m % l.length)) + gv (l.drop (m % l.length)) := by
          unfold gturn; rw [gv_app, List.length_drop, p8]; omega
        rw [pk_sub (by omega), nx_31, nx_31, litC, litM, show (1 : Int64) = lN 1 from rfl, wb_shl 1 (by omega), Nat.one_mul, lN_sub (Nat.one_le_two_pow)]
        unfold enc
        rw [wb_mask hn (by decide), gn_mod hl, fb_andL, mask_hi hn, gn_div hl, nu_ushr g48 (by omega), wb_mask g48 (by omega), wb_shl _ (by omega), p8, gv_drop l _ hl.2, gv_take l _ hl.2, fb_orL, fb_orL, Nat.or_assoc, Nat.mul_comm (gv (l.take _)), Nat.or_comm (gv (l.drop _)), or2 l1, ← ga, or2 gt]
        refine congrArg lN ?_
        unfold gn
        rw [gturn_len]; omega
      rw [e]
      exact h
    · have e0 : m % l.length = 0 := by omega
      simp (disch := omega) only [w207_0, w207_1, w207_4, w207_6, w207_8, w207_11, w207_12, w207_15, w207_16, w207_18, w207_19, w207_20, w207_21, w207_23, w207_25, w207_28, w207_29, w207_30, w207_31, w207_34, w207_35, w207_37, w207_39, w207_40, w207_41, w207_43, w207_44, w207_45, w207_46, w207_47, w207_48, w207_50, w207_51, w207_54, w207_55, w207_57, w207_58, w207_60, w207_61, w207_62, w207_63, w207_65, w207_66, w207_68, w207_70, w207_71, w207_72, w207_73, w207_74, ma_kV_ap, ma_kC_s, ma_kC_n, ma_kH_ap, ma_gf_ap, ma_pf_ap, ma_cv_ap, ma_nt_0, ma_nt_s, ma_if_t, ma_if_f, ma_set_s, ma_set_ss, ma_set_2, ma_cat_n, ma_cat_i, ma_cat_l, ma_cat_r, ma_clr_n, ma_clr_i, ma_clr_l, ma_clr_r, ma_clr_0, ma_rf_s, ma_rf_n, ma_ial_ap, ma_ias_ap, List.set_cons_zero, List.set_cons_succ, List.length_cons, List.length_nil, Nat.reduceAdd, Nat.reduceLT, Nat.reduceLeDiff, Nat.le_refl, true_and, and_true, Nat.lt_add_one]
      have : gturn l m = l := by unfold gturn; rw [e0, List.drop_zero, List.take_zero, List.append_nil]
      rw [this] at h
      exact h

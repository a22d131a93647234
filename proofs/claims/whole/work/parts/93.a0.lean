/-! the class BeggarPile: part, status, count, digest -/
section D0
variable {d : Nat} {Q : ma_P} {H : ma_H} {g : gG} {i0 i1 : Option gG} {tx : List Nat} {ab bl : Int64} {c0 c1 c2 : Int32}
theorem i2l_m2 : (-nI 2).toInt64 = -lN 2 := by decide +kernel
theorem c_part {w : Int32} (hP : cP H g i0 i1 tx ab bl c0 c1 c2)
    (hb : ¬ inR w 0 1 → ∀ H', cP H' g i0 i1 tx ab bl (c0 + nI 1) c1 c2 → cF H H' → Q (some (.long (-lN 2))) H')
    (h1 : ∀ b, b < 2 → w = nI b → Q (some (.long (if b = 0 then ab else bl))) H) : ma_MW (d + 2) 105 [.ref 4, .int w] H Q := by
  have h4 := cP_4 hP
  rw [e105]
  simp (disch := omega) only [w105_0, w105_1, w105_2, w105_3, w105_6, w105_9, w105_10, w105_13, w105_14, w105_15, w105_16, w105_19, w105_20, w105_23, w105_26, w105_27, w105_30, ma_kV_ap, ma_kC_s, ma_kC_n, ma_kH_ap, ma_gf_ap, ma_pf_ap, ma_cv_ap, ma_nt_0, ma_nt_s, ma_if_t, ma_if_f, ma_set_s, ma_set_ss, ma_set_2, ma_cat_n, ma_cat_i, ma_cat_l, ma_cat_r, ma_clr_n, ma_clr_i, ma_clr_l, ma_clr_r, ma_clr_0, ma_rf_s, ma_rf_n, ma_ial_ap, ma_ias_ap, List.set_cons_zero, List.set_cons_succ, List.length_cons, List.length_nil, Nat.reduceAdd, Nat.reduceLT, Nat.reduceLeDiff, Nat.le_refl, true_and, and_true, Nat.lt_add_one, fa_lit]
  refine b_in (by decide) (by decide) (fun a _ a2 ea => ?_) (fun n => ?_)
  · subst ea
    have h1 := h1 a (by omega) rfl
    rcases (show a = 0 ∨ a = 1 by omega) with rfl | rfl
    · simp (disch := omega) only [w105_0, w105_1, w105_2, w105_3, w105_6, w105_9, w105_10, w105_13, w105_14, w105_15, w105_16, w105_19, w105_20, w105_23, w105_26, w105_27, w105_30, ma_kV_ap, ma_kC_s, ma_kC_n, ma_kH_ap, ma_gf_ap, ma_pf_ap, ma_cv_ap, ma_nt_0, ma_nt_s, ma_if_t, ma_if_f, ma_set_s, ma_set_ss, ma_set_2, ma_cat_n, ma_cat_i, ma_cat_l, ma_cat_r, ma_clr_n, ma_clr_i, ma_clr_l, ma_clr_r, ma_clr_0, ma_rf_s, ma_rf_n, ma_ial_ap, ma_ias_ap, List.set_cons_zero, List.set_cons_succ, List.length_cons, List.length_nil, Nat.reduceAdd, Nat.reduceLT, Nat.reduceLeDiff, Nat.le_refl, true_and, and_true, Nat.lt_add_one, fa_lit, nI_add, pk_mul, pk_sub, pk_div, ma_rem_n, nI_ltI, nI_leI, nI_eq, Nat.reduceEqDiff, Nat.reduceMul, Nat.reduceSub, not_false_eq_true, not_true_eq_false, or_true, true_or, or_false, false_or, eq_self, Nat.zero_add, Nat.add_zero, h4]
      exact h1
    · simp (disch := omega) only [w105_0, w105_1, w105_2, w105_3, w105_6, w105_9, w105_10, w105_13, w105_14, w105_15, w105_16, w105_19, w105_20, w105_23, w105_26, w105_27, w105_30, ma_kV_ap, ma_kC_s, ma_kC_n, ma_kH_ap, ma_gf_ap, ma_pf_ap, ma_cv_ap, ma_nt_0, ma_nt_s, ma_if_t, ma_if_f, ma_set_s, ma_set_ss, ma_set_2, ma_cat_n, ma_cat_i, ma_cat_l, ma_cat_r, ma_clr_n, ma_clr_i, ma_clr_l, ma_clr_r, ma_clr_0, ma_rf_s, ma_rf_n, ma_ial_ap, ma_ias_ap, List.set_cons_zero, List.set_cons_succ, List.length_cons, List.length_nil, Nat.reduceAdd, Nat.reduceLT, Nat.reduceLeDiff, Nat.le_refl, true_and, and_true, Nat.lt_add_one, fa_lit, nI_add, pk_mul, pk_sub, pk_div, ma_rem_n, nI_ltI, nI_leI, nI_eq, Nat.reduceEqDiff, Nat.reduceMul, Nat.reduceSub, not_false_eq_true, not_true_eq_false, or_true, true_or, or_false, false_or, eq_self, Nat.zero_add, Nat.add_zero, h4]
      exact h1
  · simp (disch := omega) only [w105_0, w105_1, w105_2, w105_3, w105_6, w105_9, w105_10, w105_13, w105_14, w105_15, w105_16, w105_19, w105_20, w105_23, w105_26, w105_27, w105_30, ma_kV_ap, ma_kC_s, ma_kC_n, ma_kH_ap, ma_gf_ap, ma_pf_ap, ma_cv_ap, ma_nt_0, ma_nt_s, ma_if_t, ma_if_f, ma_set_s, ma_set_ss, ma_set_2, ma_cat_n, ma_cat_i, ma_cat_l, ma_cat_r, ma_clr_n, ma_clr_i, ma_clr_l, ma_clr_r, ma_clr_0, ma_rf_s, ma_rf_n, ma_ial_ap, ma_ias_ap, List.set_cons_zero, List.set_cons_succ, List.length_cons, List.length_nil, Nat.reduceAdd, Nat.reduceLT, Nat.reduceLeDiff, Nat.le_refl, true_and, and_true, Nat.lt_add_one, fa_lit, nI_add, pk_mul, pk_sub, pk_div, ma_rem_n, nI_ltI, nI_leI, nI_eq, Nat.reduceEqDiff, Nat.reduceMul, Nat.reduceSub, not_false_eq_true, not_true_eq_false, or_true, true_or, or_false, false_or, eq_self, Nat.zero_add, Nat.add_zero, h4]
    refine b_bad hP (fun H' p f => ?_)
    simp (disch := omega) only [w105_0, w105_1, w105_2, w105_3, w105_6, w105_9, w105_10, w105_13, w105_14, w105_15, w105_16, w105_19, w105_20, w105_23, w105_26, w105_27, w105_30, ma_kV_ap, ma_kC_s, ma_kC_n, ma_kH_ap, ma_gf_ap, ma_pf_ap, ma_cv_ap, ma_nt_0, ma_nt_s, ma_if_t, ma_if_f, ma_set_s, ma_set_ss, ma_set_2, ma_cat_n, ma_cat_i, ma_cat_l, ma_cat_r, ma_clr_n, ma_clr_i, ma_clr_l, ma_clr_r, ma_clr_0, ma_rf_s, ma_rf_n, ma_ial_ap, ma_ias_ap, List.set_cons_zero, List.set_cons_succ, List.length_cons, List.length_nil, Nat.reduceAdd, Nat.reduceLT, Nat.reduceLeDiff, Nat.le_refl, true_and, and_true, Nat.lt_add_one, i2l_m2]
    exact hb n H' p f
theorem toInt_out {w : Int32} (h : ¬ inR w 0 2) : w.toInt < 0 ∨ 0 + (3 : Int) ≤ w.toInt := by
  by_cases h0 : w.toInt < 0
  · exact Or.inl h0
  · refine Or.inr ?_
    by_cases h1 : w.toInt < 3
    · exfalso
      refine h ⟨?_, ?_⟩
      · rw [Int32.le_iff_toInt_le]
        show (0 : Int) ≤ w.toInt
        omega
      · rw [Int32.le_iff_toInt_le]
        show w.toInt ≤ (2 : Int)
        omega
    · omega
theorem c_status {w : Int32} (hP : cP H g i0 i1 tx ab bl c0 c1 c2)
    (hb : ¬ inR w 0 2 → ∀ H', cP H' g i0 i1 tx ab bl (c0 + nI 1) c1 c2 → cF H H' → Q (some (.int (-nI 1))) H')
    (h1 : ∀ b, b < 3 → w = nI b → Q (some (.int (if b = 0 then c0 else if b = 1 then c1 else c2))) H) : ma_MW (d + 1) 108 [.ref 4, .int w] H Q := by
  have h4 := cP_4 hP
  rw [e108]
  simp only [w108_0, w108_1, w108_29, w108_32, w108_34, w108_37, w108_39, w108_42, w108_44, w108_44i, w108_45, w108_48, w108_49, w108_50, w108_53, w108_54, ma_kV_ap, ma_kC_s, ma_kC_n, ma_kH_ap, ma_gf_ap, ma_pf_ap, ma_cv_ap, ma_nt_0, ma_nt_s, ma_if_t, ma_if_f, ma_set_s, ma_set_ss, ma_set_2, ma_cat_n, ma_cat_i, ma_cat_l, ma_cat_r, ma_clr_n, ma_clr_i, ma_clr_l, ma_clr_r, ma_clr_0, ma_rf_s, ma_rf_n, ma_ial_ap, ma_ias_ap, List.set_cons_zero, List.set_cons_succ, List.length_cons, List.length_nil, Nat.reduceAdd, Nat.reduceLT, Nat.reduceLeDiff, Nat.le_refl, true_and, and_true, Nat.lt_add_one]
  by_cases hr : inR w 0 2
  · obtain ⟨q, _, q2, rfl⟩ := inR_of (by decide) hr (by decide)
    have h1 := h1 q (by omega) rfl
    rcases (show q = 0 ∨ q = 1 ∨ q = 2 by omega) with rfl | rfl | rfl
    · rw [ma_sw_at 0 28 rfl (by decide)]; simp only [w108_0, w108_1, w108_28, w108_29, w108_32, w108_33, w108_34, w108_37, w108_38, w108_39, w108_42, w108_43, w108_44, w108_44i, w108_45, w108_48, w108_49, w108_50, w108_53, w108_54, ma_kV_ap, ma_kC_s, ma_kC_n, ma_kH_ap, ma_gf_ap, ma_pf_ap, ma_cv_ap, ma_nt_0, ma_nt_s, ma_if_t, ma_if_f, ma_set_s, ma_set_ss, ma_set_2, ma_cat_n, ma_cat_i, ma_cat_l, ma_cat_r, ma_clr_n, ma_clr_i, ma_clr_l, ma_clr_r, ma_clr_0, ma_rf_s, ma_rf_n, ma_ial_ap, ma_ias_ap, List.set_cons_zero, List.set_cons_succ, List.length_cons, List.length_nil, Nat.reduceAdd, Nat.reduceLT, Nat.reduceLeDiff, Nat.le_refl, true_and, and_true, Nat.lt_add_one, h4]; exact h1
    · rw [ma_sw_at 1 33 rfl (by decide)]; simp only [w108_0, w108_1, w108_28, w108_29, w108_32, w108_33, w108_34, w108_37, w108_38, w108_39, w108_42, w108_43, w108_44, w108_44i, w108_45, w108_48, w108_49, w108_50, w108_53, w108_54, ma_kV_ap, ma_kC_s, ma_kC_n, ma_kH_ap, ma_gf_ap, ma_pf_ap, ma_cv_ap, ma_nt_0, ma_nt_s, ma_if_t, ma_if_f, ma_set_s, ma_set_ss, ma_set_2, ma_cat_n, ma_cat_i, ma_cat_l, ma_cat_r, ma_clr_n, ma_clr_i, ma_clr_l, ma_clr_r, ma_clr_0, ma_rf_s, ma_rf_n, ma_ial_ap, ma_ias_ap, List.set_cons_zero, List.set_cons_succ, List.length_cons, List.length_nil, Nat.reduceAdd, Nat.reduceLT, Nat.reduceLeDiff, Nat.le_refl, true_and, and_true, Nat.lt_add_one, h4]; exact h1
    · rw [ma_sw_at 2 38 rfl (by decide)]; simp only [w108_0, w108_1, w108_28, w108_29, w108_32, w108_33, w108_34, w108_37, w108_38, w108_39, w108_42, w108_43, w108_44, w108_44i, w108_45, w108_48, w108_49, w108_50, w108_53, w108_54, ma_kV_ap, ma_kC_s, ma_kC_n, ma_kH_ap, ma_gf_ap, ma_pf_ap, ma_cv_ap, ma_nt_0, ma_nt_s, ma_if_t, ma_if_f, ma_set_s, ma_set_ss, ma_set_2, ma_cat_n, ma_cat_i, ma_cat_l, ma_cat_r, ma_clr_n, ma_clr_i, ma_clr_l, ma_clr_r, ma_clr_0, ma_rf_s, ma_rf_n, ma_ial_ap, ma_ias_ap, List.set_cons_zero, List.set_cons_succ, List.length_cons, List.length_nil, Nat.reduceAdd, Nat.reduceLT, Nat.reduceLeDiff, Nat.le_refl, true_and, and_true, Nat.lt_add_one, h4]; exact h1
  · rw [ma_sw_out (toInt_out hr)]
    simp only [w108_0, w108_1, w108_28, w108_29, w108_32, w108_33, w108_34, w108_37, w108_38, w108_39, w108_42, w108_43, w108_44, w108_44i, w108_45, w108_48, w108_49, w108_50, w108_53, w108_54, ma_kV_ap, ma_kC_s, ma_kC_n, ma_kH_ap, ma_gf_ap, ma_pf_ap, ma_cv_ap, ma_nt_0, ma_nt_s, ma_if_t, ma_if_f, ma_set_s, ma_set_ss, ma_set_2, ma_cat_n, ma_cat_i, ma_cat_l, ma_cat_r, ma_clr_n, ma_clr_i, ma_clr_l, ma_clr_r, ma_clr_0, ma_rf_s, ma_rf_n, ma_ial_ap, ma_ias_ap, List.set_cons_zero, List.set_cons_succ, List.length_cons, List.length_nil, Nat.reduceAdd, Nat.reduceLT, Nat.reduceLeDiff, Nat.le_refl, true_and, and_true, Nat.lt_add_one, fa_lit, h4]
    exact hb hr _ (cP_be hP) cF_be
theorem b_numberOf {w : Nat} (hw : w < 14) (hO : sOK g i0 i1 tx) (hP : cP H g i0 i1 tx ab bl c0 c1 c2) (h : Q (some (.int (nI (gnumber g tx w)))) H) : ma_MW (d + 3) 111 [.ref 4, .int (nI w)] H Q := by
  have h4 := cP_4 hP
  have h5 := cP_5 hP
  have h6 := cP_6 hP
  obtain ⟨fs, h7⟩ := h_cl (cP_7 hP)
  have h17 := seP_cl (cP_17 hP)
  have h22 := seP_cl (cP_22 hP)
  have h33 := hP.2.2.2.2.2.1.1
  rw [e111]
  simp only [w111_0, w111_1, w111_33, w111_36, w111_39, w111_42, w111_44, w111_47, w111_50, w111_53, w111_55, w111_58, w111_61, w111_64, w111_66, w111_69, w111_72, w111_74, w111_77, w111_80, w111_81, w111_84, ma_kV_ap, ma_kC_s, ma_kC_n, ma_kH_ap, ma_gf_ap, ma_pf_ap, ma_cv_ap, ma_nt_0, ma_nt_s, ma_if_t, ma_if_f, ma_set_s, ma_set_ss, ma_set_2, ma_cat_n, ma_cat_i, ma_cat_l, ma_cat_r, ma_clr_n, ma_clr_i, ma_clr_l, ma_clr_r, ma_clr_0, ma_rf_s, ma_rf_n, ma_ial_ap, ma_ias_ap, List.set_cons_zero, List.set_cons_succ, List.length_cons, List.length_nil, Nat.reduceAdd, Nat.reduceLT, Nat.reduceLeDiff, Nat.le_refl, true_and, and_true, Nat.lt_add_one]
  rcases (show w < 10 ∨ w = 10 ∨ w = 11 ∨ w = 12 ∨ w = 13 by omega) with hw | rfl | rfl | rfl | rfl
  · have e : gnumber g tx w = gnum g.1 w := by
      unfold gnumber
      rw [if_neg (by omega), if_neg (by omega), if_neg (by omega), if_neg (by omega)]
    rw [e] at h
    rw [ma_sw_out (by left; rw [nI_toInt (by omega)]; omega)]
    simp only [w111_0, w111_1, w111_32, w111_33, w111_36, w111_39, w111_42, w111_43, w111_44, w111_47, w111_50, w111_53, w111_54, w111_55, w111_58, w111_61, w111_64, w111_65, w111_66, w111_69, w111_72, w111_73, w111_74, w111_77, w111_80, w111_81, w111_84, ma_kV_ap, ma_kC_s, ma_kC_n, ma_kH_ap, ma_gf_ap, ma_pf_ap, ma_cv_ap, ma_nt_0, ma_nt_s, ma_if_t, ma_if_f, ma_set_s, ma_set_ss, ma_set_2, ma_cat_n, ma_cat_i, ma_cat_l, ma_cat_r, ma_clr_n, ma_clr_i, ma_clr_l, ma_clr_r, ma_clr_0, ma_rf_s, ma_rf_n, ma_ial_ap, ma_ias_ap, List.set_cons_zero, List.set_cons_succ, List.length_cons, List.length_nil, Nat.reduceAdd, Nat.reduceLT, Nat.reduceLeDiff, Nat.le_refl, true_and, and_true, Nat.lt_add_one, tab_cv, tab_g0, tab_g2, trC, h4, h5, h6]
    refine t_number hw hO.1.1 h6 ?_
    simp only [w111_0, w111_1, w111_32, w111_33, w111_36, w111_39, w111_42, w111_43, w111_44, w111_47, w111_50, w111_53, w111_54, w111_55, w111_58, w111_61, w111_64, w111_65, w111_66, w111_69, w111_72, w111_73, w111_74, w111_77, w111_80, w111_81, w111_84, ma_kV_ap, ma_kC_s, ma_kC_n, ma_kH_ap, ma_gf_ap, ma_pf_ap, ma_cv_ap, ma_nt_0, ma_nt_s, ma_if_t, ma_if_f, ma_set_s, ma_set_ss, ma_set_2, ma_cat_n, ma_cat_i, ma_cat_l, ma_cat_r, ma_clr_n, ma_clr_i, ma_clr_l, ma_clr_r, ma_clr_0, ma_rf_s, ma_rf_n, ma_ial_ap, ma_ias_ap, List.set_cons_zero, List.set_cons_succ, List.length_cons, List.length_nil, Nat.reduceAdd, Nat.reduceLT, Nat.reduceLeDiff, Nat.le_refl, true_and, and_true, Nat.lt_add_one]
    exact h
  · rw [ma_sw_at 0 32 rfl (by decide)]; simp only [w111_0, w111_1, w111_32, w111_33, w111_36, w111_39, w111_42, w111_43, w111_44, w111_47, w111_50, w111_53, w111_54, w111_55, w111_58, w111_61, w111_64, w111_65, w111_66, w111_69, w111_72, w111_73, w111_74, w111_77, w111_80, w111_81, w111_84, ma_kV_ap, ma_kC_s, ma_kC_n, ma_kH_ap, ma_gf_ap, ma_pf_ap, ma_cv_ap, ma_nt_0, ma_nt_s, ma_if_t, ma_if_f, ma_set_s, ma_set_ss, ma_set_2, ma_cat_n, ma_cat_i, ma_cat_l, ma_cat_r, ma_clr_n, ma_clr_i, ma_clr_l, ma_clr_r, ma_clr_0, ma_rf_s, ma_rf_n, ma_ial_ap, ma_ias_ap, List.set_cons_zero, List.set_cons_succ, List.length_cons, List.length_nil, Nat.reduceAdd, Nat.reduceLT, Nat.reduceLeDiff, Nat.le_refl, true_and, and_true, Nat.lt_add_one, h4, h5, h17]
    refine s_size (cP_17 hP) ?_
    simp only [w111_0, w111_1, w111_32, w111_33, w111_36, w111_39, w111_42, w111_43, w111_44, w111_47, w111_50, w111_53, w111_54, w111_55, w111_58, w111_61, w111_64, w111_65, w111_66, w111_69, w111_72, w111_73, w111_74, w111_77, w111_80, w111_81, w111_84, ma_kV_ap, ma_kC_s, ma_kC_n, ma_kH_ap, ma_gf_ap, ma_pf_ap, ma_cv_ap, ma_nt_0, ma_nt_s, ma_if_t, ma_if_f, ma_set_s, ma_set_ss, ma_set_2, ma_cat_n, ma_cat_i, ma_cat_l, ma_cat_r, ma_clr_n, ma_clr_i, ma_clr_l, ma_clr_r, ma_clr_0, ma_rf_s, ma_rf_n, ma_ial_ap, ma_ias_ap, List.set_cons_zero, List.set_cons_succ, List.length_cons, List.length_nil, Nat.reduceAdd, Nat.reduceLT, Nat.reduceLeDiff, Nat.le_refl, true_and, and_true, Nat.lt_add_one]; exact h
  · rw [ma_sw_at 1 43 rfl (by decide)]; simp only [w111_0, w111_1, w111_32, w111_33, w111_36, w111_39, w111_42, w111_43, w111_44, w111_47, w111_50, w111_53, w111_54, w111_55, w111_58, w111_61, w111_64, w111_65, w111_66, w111_69, w111_72, w111_73, w111_74, w111_77, w111_80, w111_81, w111_84, ma_kV_ap, ma_kC_s, ma_kC_n, ma_kH_ap, ma_gf_ap, ma_pf_ap, ma_cv_ap, ma_nt_0, ma_nt_s, ma_if_t, ma_if_f, ma_set_s, ma_set_ss, ma_set_2, ma_cat_n, ma_cat_i, ma_cat_l, ma_cat_r, ma_clr_n, ma_clr_i, ma_clr_l, ma_clr_r, ma_clr_0, ma_rf_s, ma_rf_n, ma_ial_ap, ma_ias_ap, List.set_cons_zero, List.set_cons_succ, List.length_cons, List.length_nil, Nat.reduceAdd, Nat.reduceLT, Nat.reduceLeDiff, Nat.le_refl, true_and, and_true, Nat.lt_add_one, h4, h5, h22]
    refine s_size (cP_22 hP) ?_
    simp only [w111_0, w111_1, w111_32, w111_33, w111_36, w111_39, w111_42, w111_43, w111_44, w111_47, w111_50, w111_53, w111_54, w111_55, w111_58, w111_61, w111_64, w111_65, w111_66, w111_69, w111_72, w111_73, w111_74, w111_77, w111_80, w111_81, w111_84, ma_kV_ap, ma_kC_s, ma_kC_n, ma_kH_ap, ma_gf_ap, ma_pf_ap, ma_cv_ap, ma_nt_0, ma_nt_s, ma_if_t, ma_if_f, ma_set_s, ma_set_ss, ma_set_2, ma_cat_n, ma_cat_i, ma_cat_l, ma_cat_r, ma_clr_n, ma_clr_i, ma_clr_l, ma_clr_r, ma_clr_0, ma_rf_s, ma_rf_n, ma_ial_ap, ma_ias_ap, List.set_cons_zero, List.set_cons_succ, List.length_cons, List.length_nil, Nat.reduceAdd, Nat.reduceLT, Nat.reduceLeDiff, Nat.le_refl, true_and, and_true, Nat.lt_add_one]; exact h
  · rw [ma_sw_at 2 54 rfl (by decide)]; simp only [w111_0, w111_1, w111_32, w111_33, w111_36, w111_39, w111_42, w111_43, w111_44, w111_47, w111_50, w111_53, w111_54, w111_55, w111_58, w111_61, w111_64, w111_65, w111_66, w111_69, w111_72, w111_73, w111_74, w111_77, w111_80, w111_81, w111_84, ma_kV_ap, ma_kC_s, ma_kC_n, ma_kH_ap, ma_gf_ap, ma_pf_ap, ma_cv_ap, ma_nt_0, ma_nt_s, ma_if_t, ma_if_f, ma_set_s, ma_set_ss, ma_set_2, ma_cat_n, ma_cat_i, ma_cat_l, ma_cat_r, ma_clr_n, ma_clr_i, ma_clr_l, ma_clr_r, ma_clr_0, ma_rf_s, ma_rf_n, ma_ial_ap, ma_ias_ap, List.set_cons_zero, List.set_cons_succ, List.length_cons, List.length_nil, Nat.reduceAdd, Nat.reduceLT, Nat.reduceLeDiff, Nat.le_refl, true_and, and_true, Nat.lt_add_one, h4, h5, h7]
    refine h_size (cP_7 hP) ?_
    simp only [w111_0, w111_1, w111_32, w111_33, w111_36, w111_39, w111_42, w111_43, w111_44, w111_47, w111_50, w111_53, w111_54, w111_55, w111_58, w111_61, w111_64, w111_65, w111_66, w111_69, w111_72, w111_73, w111_74, w111_77, w111_80, w111_81, w111_84, ma_kV_ap, ma_kC_s, ma_kC_n, ma_kH_ap, ma_gf_ap, ma_pf_ap, ma_cv_ap, ma_nt_0, ma_nt_s, ma_if_t, ma_if_f, ma_set_s, ma_set_ss, ma_set_2, ma_cat_n, ma_cat_i, ma_cat_l, ma_cat_r, ma_clr_n, ma_clr_i, ma_clr_l, ma_clr_r, ma_clr_0, ma_rf_s, ma_rf_n, ma_ial_ap, ma_ias_ap, List.set_cons_zero, List.set_cons_succ, List.length_cons, List.length_nil, Nat.reduceAdd, Nat.reduceLT, Nat.reduceLeDiff, Nat.le_refl, true_and, and_true, Nat.lt_add_one]; exact h
  · rw [ma_sw_at 3 65 rfl (by decide)]; simp only [w111_0, w111_1, w111_32, w111_33, w111_36, w111_39, w111_42, w111_43, w111_44, w111_47, w111_50, w111_53, w111_54, w111_55, w111_58, w111_61, w111_64, w111_65, w111_66, w111_69, w111_72, w111_73, w111_74, w111_77, w111_80, w111_81, w111_84, ma_kV_ap, ma_kC_s, ma_kC_n, ma_kH_ap, ma_gf_ap, ma_pf_ap, ma_cv_ap, ma_nt_0, ma_nt_s, ma_if_t, ma_if_f, ma_set_s, ma_set_ss, ma_set_2, ma_cat_n, ma_cat_i, ma_cat_l, ma_cat_r, ma_clr_n, ma_clr_i, ma_clr_l, ma_clr_r, ma_clr_0, ma_rf_s, ma_rf_n, ma_ial_ap, ma_ias_ap, List.set_cons_zero, List.set_cons_succ, List.length_cons, List.length_nil, Nat.reduceAdd, Nat.reduceLT, Nat.reduceLeDiff, Nat.le_refl, true_and, and_true, Nat.lt_add_one, h4, h33]
    refine x_size hP.2.2.2.2.2.1 ?_
    simp only [w111_0, w111_1, w111_32, w111_33, w111_36, w111_39, w111_42, w111_43, w111_44, w111_47, w111_50, w111_53, w111_54, w111_55, w111_58, w111_61, w111_64, w111_65, w111_66, w111_69, w111_72, w111_73, w111_74, w111_77, w111_80, w111_81, w111_84, ma_kV_ap, ma_kC_s, ma_kC_n, ma_kH_ap, ma_gf_ap, ma_pf_ap, ma_cv_ap, ma_nt_0, ma_nt_s, ma_if_t, ma_if_f, ma_set_s, ma_set_ss, ma_set_2, ma_cat_n, ma_cat_i, ma_cat_l, ma_cat_r, ma_clr_n, ma_clr_i, ma_clr_l, ma_clr_r, ma_clr_0, ma_rf_s, ma_rf_n, ma_ial_ap, ma_ias_ap, List.set_cons_zero, List.set_cons_succ, List.length_cons, List.length_nil, Nat.reduceAdd, Nat.reduceLT, Nat.reduceLeDiff, Nat.le_refl, true_and, and_true, Nat.lt_add_one]; exact h
theorem c_count {w : Int32} (hO : sOK g i0 i1 tx) (hP : cP H g i0 i1 tx ab bl c0 c1 c2)
    (hb : ¬ inR w 0 13 → ∀ H', cP H' g i0 i1 tx ab bl (c0 + nI 1) c1 c2 → cF H H' → Q (some (.int (-nI 2))) H')
    (h1 : ∀ b, b < 14 → w = nI b → Q (some (.int (nI (gnumber g tx b)))) H) : ma_MW (d + 4) 109 [.ref 4, .int w] H Q := by
  have h4 := cP_4 hP
  rw [e109]
  simp (disch := omega) only [w109_0, w109_1, w109_2, w109_4, w109_7, w109_10, w109_11, w109_14, w109_15, w109_16, w109_17, w109_20, ma_kV_ap, ma_kC_s, ma_kC_n, ma_kH_ap, ma_gf_ap, ma_pf_ap, ma_cv_ap, ma_nt_0, ma_nt_s, ma_if_t, ma_if_f, ma_set_s, ma_set_ss, ma_set_2, ma_cat_n, ma_cat_i, ma_cat_l, ma_cat_r, ma_clr_n, ma_clr_i, ma_clr_l, ma_clr_r, ma_clr_0, ma_rf_s, ma_rf_n, ma_ial_ap, ma_ias_ap, List.set_cons_zero, List.set_cons_succ, List.length_cons, List.length_nil, Nat.reduceAdd, Nat.reduceLT, Nat.reduceLeDiff, Nat.le_refl, true_and, and_true, Nat.lt_add_one, fa_lit]
  refine b_in (by decide) (by decide) (fun a _ a2 ea => ?_) (fun n => ?_)
  · subst ea
    simp (disch := omega) only [w109_0, w109_1, w109_2, w109_4, w109_7, w109_10, w109_11, w109_14, w109_15, w109_16, w109_17, w109_20, ma_kV_ap, ma_kC_s, ma_kC_n, ma_kH_ap, ma_gf_ap, ma_pf_ap, ma_cv_ap, ma_nt_0, ma_nt_s, ma_if_t, ma_if_f, ma_set_s, ma_set_ss, ma_set_2, ma_cat_n, ma_cat_i, ma_cat_l, ma_cat_r, ma_clr_n, ma_clr_i, ma_clr_l, ma_clr_r, ma_clr_0, ma_rf_s, ma_rf_n, ma_ial_ap, ma_ias_ap, List.set_cons_zero, List.set_cons_succ, List.length_cons, List.length_nil, Nat.reduceAdd, Nat.reduceLT, Nat.reduceLeDiff, Nat.le_refl, true_and, and_true, Nat.lt_add_one, fa_lit, nI_add, pk_mul, pk_sub, pk_div, ma_rem_n, nI_ltI, nI_leI, nI_eq, Nat.reduceEqDiff, Nat.reduceMul, Nat.reduceSub, not_false_eq_true, not_true_eq_false, or_true, true_or, or_false, false_or, eq_self, Nat.zero_add, Nat.add_zero, h4]
    refine b_numberOf (by omega) hO hP ?_
    simp (disch := omega) only [w109_0, w109_1, w109_2, w109_4, w109_7, w109_10, w109_11, w109_14, w109_15, w109_16, w109_17, w109_20, ma_kV_ap, ma_kC_s, ma_kC_n, ma_kH_ap, ma_gf_ap, ma_pf_ap, ma_cv_ap, ma_nt_0, ma_nt_s, ma_if_t, ma_if_f, ma_set_s, ma_set_ss, ma_set_2, ma_cat_n, ma_cat_i, ma_cat_l, ma_cat_r, ma_clr_n, ma_clr_i, ma_clr_l, ma_clr_r, ma_clr_0, ma_rf_s, ma_rf_n, ma_ial_ap, ma_ias_ap, List.set_cons_zero, List.set_cons_succ, List.length_cons, List.length_nil, Nat.reduceAdd, Nat.reduceLT, Nat.reduceLeDiff, Nat.le_refl, true_and, and_true, Nat.lt_add_one]
    exact h1 a (by omega) rfl
  · simp (disch := omega) only [w109_0, w109_1, w109_2, w109_4, w109_7, w109_10, w109_11, w109_14, w109_15, w109_16, w109_17, w109_20, ma_kV_ap, ma_kC_s, ma_kC_n, ma_kH_ap, ma_gf_ap, ma_pf_ap, ma_cv_ap, ma_nt_0, ma_nt_s, ma_if_t, ma_if_f, ma_set_s, ma_set_ss, ma_set_2, ma_cat_n, ma_cat_i, ma_cat_l, ma_cat_r, ma_clr_n, ma_clr_i, ma_clr_l, ma_clr_r, ma_clr_0, ma_rf_s, ma_rf_n, ma_ial_ap, ma_ias_ap, List.set_cons_zero, List.set_cons_succ, List.length_cons, List.length_nil, Nat.reduceAdd, Nat.reduceLT, Nat.reduceLeDiff, Nat.le_refl, true_and, and_true, Nat.lt_add_one, fa_lit, nI_add, pk_mul, pk_sub, pk_div, ma_rem_n, nI_ltI, nI_leI, nI_eq, Nat.reduceEqDiff, Nat.reduceMul, Nat.reduceSub, not_false_eq_true, not_true_eq_false, or_true, true_or, or_false, false_or, eq_self, Nat.zero_add, Nat.add_zero, h4]
    refine b_bad hP (fun H' p f => ?_)
    simp (disch := omega) only [w109_0, w109_1, w109_2, w109_4, w109_7, w109_10, w109_11, w109_14, w109_15, w109_16, w109_17, w109_20, ma_kV_ap, ma_kC_s, ma_kC_n, ma_kH_ap, ma_gf_ap, ma_pf_ap, ma_cv_ap, ma_nt_0, ma_nt_s, ma_if_t, ma_if_f, ma_set_s, ma_set_ss, ma_set_2, ma_cat_n, ma_cat_i, ma_cat_l, ma_cat_r, ma_clr_n, ma_clr_i, ma_clr_l, ma_clr_r, ma_clr_0, ma_rf_s, ma_rf_n, ma_ial_ap, ma_ias_ap, List.set_cons_zero, List.set_cons_succ, List.length_cons, List.length_nil, Nat.reduceAdd, Nat.reduceLT, Nat.reduceLeDiff, Nat.le_refl, true_and, and_true, Nat.lt_add_one]
    exact hb n H' p f
theorem gmx_snoc (h : Int64) (l : List Nat) (c : Nat) : gmx h (l ++ [c]) = 31 * gmx h l + lN c := by
  unfold gmx; rw [List.foldl_append]; rfl
theorem gnumber_lt (hO : sOK g i0 i1 tx) {w : Nat} (hw : w < 14) : gnumber g tx w < 2 ^ 31 := by
  obtain ⟨⟨hok, hmv, hl, -, s1, s2⟩, -, -, ht⟩ := hO
  unfold gnumber
  have t1 := ht.1
  have u1 := s1.1
  have u2 := s2.1
  split
  · omega
  · split
    · omega
    · split
      · omega
      · split
        · omega
        · obtain ⟨⟨kz, ko, hz, ho, pl, tu, db, mv, tz, to⟩, r⟩ := g
          obtain ⟨a1, a2, a3, a4, a5, a6, a7, a8, a9, a10⟩ := hok
          have hmv : mv ≤ 9999 := hmv
          unfold gnum
          dsimp only
          split
          · omega
          · split
            · omega
            · split
              · omega
              · split
                · omega
                · split
                  · omega
                  · split
                    · omega
                    · split
                      · omega
                      · split
                        · omega
                        · split <;> omega
theorem lit31 : (31 : Int64) = lN 31 := rfl
theorem c_digest (hO : sOK g i0 i1 tx) (hP : cP H g i0 i1 tx ab bl c0 c1 c2) (h : Q (some (.long (vD g tx ab bl))) H) : ma_MW (d + 4) 110 [.ref 4] H Q := by
  have h4 := cP_4 hP
  have h5 := cP_5 hP
  have h6 := cP_6 hP
  have h17 := seP_cl (cP_17 hP)
  have h22 := seP_cl (cP_22 hP)
  unfold vD at h
  obtain ⟨B, hB⟩ : ∃ B, B = gmx (lN 1871) ((List.range 14).map (gnumber g tx)) := ⟨_, rfl⟩
  rw [← hB] at h
  have fin : ∀ hh : Int64, hh = gmx (gmx (gmx B (ghand g.1 0)) (ghand g.1 1)) (ghand g.1 2) → ma_W (d + 3) 110 Q 60 [some (.ref 4), some (.long hh), none, some (.int (nI 3))] [] H 0 0 := by
    intro hh e
    simp only [w110_0, w110_3, w110_4, w110_5, w110_6, w110_7, w110_9, w110_12, w110_15, w110_16, w110_17, w110_18, w110_19, w110_22, w110_23, w110_24, w110_25, w110_28, w110_31, w110_32, w110_33, w110_34, w110_35, w110_38, w110_39, w110_40, w110_43, w110_46, w110_47, w110_50, w110_53, w110_54, w110_57, w110_60, w110_61, w110_64, w110_67, w110_68, w110_69, w110_72, w110_73, w110_74, w110_77, w110_80, w110_81, w110_82, w110_85, w110_86, w110_89, w110_90, w110_91, w110_92, w110_95, w110_96, w110_97, w110_100, w110_101, w110_102, w110_103, w110_106, w110_107, ma_kV_ap, ma_kC_s, ma_kC_n, ma_kH_ap, ma_gf_ap, ma_pf_ap, ma_cv_ap, ma_nt_0, ma_nt_s, ma_if_t, ma_if_f, ma_set_s, ma_set_ss, ma_set_2, ma_cat_n, ma_cat_i, ma_cat_l, ma_cat_r, ma_clr_n, ma_clr_i, ma_clr_l, ma_clr_r, ma_clr_0, ma_rf_s, ma_rf_n, ma_ial_ap, ma_ias_ap, List.set_cons_zero, List.set_cons_succ, List.length_cons, List.length_nil, Nat.reduceAdd, Nat.reduceLT, Nat.reduceLeDiff, Nat.le_refl, true_and, and_true, Nat.lt_add_one, fa_lit, h4, h5, h17]
    refine s_mixInto (mk := false) hO.1.2.2.2.2.1 (cP_17 hP) ?_
    simp only [w110_0, w110_3, w110_4, w110_5, w110_6, w110_7, w110_9, w110_12, w110_15, w110_16, w110_17, w110_18, w110_19, w110_22, w110_23, w110_24, w110_25, w110_28, w110_31, w110_32, w110_33, w110_34, w110_35, w110_38, w110_39, w110_40, w110_43, w110_46, w110_47, w110_50, w110_53, w110_54, w110_57, w110_60, w110_61, w110_64, w110_67, w110_68, w110_69, w110_72, w110_73, w110_74, w110_77, w110_80, w110_81, w110_82, w110_85, w110_86, w110_89, w110_90, w110_91, w110_92, w110_95, w110_96, w110_97, w110_100, w110_101, w110_102, w110_103, w110_106, w110_107, ma_kV_ap, ma_kC_s, ma_kC_n, ma_kH_ap, ma_gf_ap, ma_pf_ap, ma_cv_ap, ma_nt_0, ma_nt_s, ma_if_t, ma_if_f, ma_set_s, ma_set_ss, ma_set_2, ma_cat_n, ma_cat_i, ma_cat_l, ma_cat_r, ma_clr_n, ma_clr_i, ma_clr_l, ma_clr_r, ma_clr_0, ma_rf_s, ma_rf_n, ma_ial_ap, ma_ias_ap, List.set_cons_zero, List.set_cons_succ, List.length_cons, List.length_nil, Nat.reduceAdd, Nat.reduceLT, Nat.reduceLeDiff, Nat.le_refl, true_and, and_true, Nat.lt_add_one, fa_lit, h4, h5, h22]
    refine s_mixInto (mk := true) hO.1.2.2.2.2.2 (cP_22 hP) ?_
    simp only [w110_0, w110_3, w110_4, w110_5, w110_6, w110_7, w110_9, w110_12, w110_15, w110_16, w110_17, w110_18, w110_19, w110_22, w110_23, w110_24, w110_25, w110_28, w110_31, w110_32, w110_33, w110_34, w110_35, w110_38, w110_39, w110_40, w110_43, w110_46, w110_47, w110_50, w110_53, w110_54, w110_57, w110_60, w110_61, w110_64, w110_67, w110_68, w110_69, w110_72, w110_73, w110_74, w110_77, w110_80, w110_81, w110_82, w110_85, w110_86, w110_89, w110_90, w110_91, w110_92, w110_95, w110_96, w110_97, w110_100, w110_101, w110_102, w110_103, w110_106, w110_107, ma_kV_ap, ma_kC_s, ma_kC_n, ma_kH_ap, ma_gf_ap, ma_pf_ap, ma_cv_ap, ma_nt_0, ma_nt_s, ma_if_t, ma_if_f, ma_set_s, ma_set_ss, ma_set_2, ma_cat_n, ma_cat_i, ma_cat_l, ma_cat_r, ma_clr_n, ma_clr_i, ma_clr_l, ma_clr_r, ma_clr_0, ma_rf_s, ma_rf_n, ma_ial_ap, ma_ias_ap, List.set_cons_zero, List.set_cons_succ, List.length_cons, List.length_nil, Nat.reduceAdd, Nat.reduceLT, Nat.reduceLeDiff, Nat.le_refl, true_and, and_true, Nat.lt_add_one, h4]
    rw [e]
    exact h
  have rows : ∀ m k hh, 3 - k = m → k ≤ 3 → hh = ((List.range k).map (fun p => ghand g.1 p)).foldl gmx B → ma_W (d + 3) 110 Q 33 [some (.ref 4), some (.long hh), none, some (.int (nI k))] [] H 0 0 := by
    intro m
    induction m with
    | zero =>
      intro k hh e1 e2 e
      have hk : k = 3 := by omega
      subst hk
      simp (disch := omega) only [w110_0, w110_3, w110_4, w110_5, w110_6, w110_7, w110_9, w110_12, w110_15, w110_16, w110_17, w110_18, w110_19, w110_22, w110_23, w110_24, w110_25, w110_28, w110_31, w110_32, w110_33, w110_34, w110_35, w110_38, w110_39, w110_40, w110_43, w110_46, w110_47, w110_50, w110_53, w110_54, w110_57, w110_61, w110_64, w110_67, w110_68, w110_69, w110_72, w110_73, w110_74, w110_77, w110_80, w110_81, w110_82, w110_85, w110_86, w110_89, w110_90, w110_91, w110_92, w110_95, w110_96, w110_97, w110_100, w110_101, w110_102, w110_103, w110_106, w110_107, ma_kV_ap, ma_kC_s, ma_kC_n, ma_kH_ap, ma_gf_ap, ma_pf_ap, ma_cv_ap, ma_nt_0, ma_nt_s, ma_if_t, ma_if_f, ma_set_s, ma_set_ss, ma_set_2, ma_cat_n, ma_cat_i, ma_cat_l, ma_cat_r, ma_clr_n, ma_clr_i, ma_clr_l, ma_clr_r, ma_clr_0, ma_rf_s, ma_rf_n, ma_ial_ap, ma_ias_ap, List.set_cons_zero, List.set_cons_succ, List.length_cons, List.length_nil, Nat.reduceAdd, Nat.reduceLT, Nat.reduceLeDiff, Nat.le_refl, true_and, and_true, Nat.lt_add_one, fa_lit, nI_add, pk_mul, pk_sub, pk_div, ma_rem_n, nI_ltI, nI_leI, nI_eq, Nat.reduceEqDiff, Nat.reduceMul, Nat.reduceSub, not_false_eq_true, not_true_eq_false, or_true, true_or, or_false, false_or, eq_self, Nat.zero_add, Nat.add_zero]
      exact fin hh e
    | succ m ih =>
      intro k hh e1 e2 e
      have hc : (2 < k) = False := eq_false (by omega)
      simp (disch := omega) only [w110_0, w110_3, w110_4, w110_5, w110_6, w110_7, w110_9, w110_12, w110_15, w110_16, w110_17, w110_18, w110_19, w110_22, w110_23, w110_24, w110_25, w110_28, w110_31, w110_32, w110_33, w110_34, w110_35, w110_38, w110_39, w110_40, w110_43, w110_46, w110_47, w110_50, w110_53, w110_54, w110_57, w110_61, w110_64, w110_67, w110_68, w110_69, w110_72, w110_73, w110_74, w110_77, w110_80, w110_81, w110_82, w110_85, w110_86, w110_89, w110_90, w110_91, w110_92, w110_95, w110_96, w110_97, w110_100, w110_101, w110_102, w110_103, w110_106, w110_107, ma_kV_ap, ma_kC_s, ma_kC_n, ma_kH_ap, ma_gf_ap, ma_pf_ap, ma_cv_ap, ma_nt_0, ma_nt_s, ma_if_t, ma_if_f, ma_set_s, ma_set_ss, ma_set_2, ma_cat_n, ma_cat_i, ma_cat_l, ma_cat_r, ma_clr_n, ma_clr_i, ma_clr_l, ma_clr_r, ma_clr_0, ma_rf_s, ma_rf_n, ma_ial_ap, ma_ias_ap, List.set_cons_zero, List.set_cons_succ, List.length_cons, List.length_nil, Nat.reduceAdd, Nat.reduceLT, Nat.reduceLeDiff, Nat.le_refl, true_and, and_true, Nat.lt_add_one, fa_lit, nI_add, pk_mul, pk_sub, pk_div, ma_rem_n, nI_ltI, nI_leI, nI_eq, Nat.reduceEqDiff, Nat.reduceMul, Nat.reduceSub, not_false_eq_true, not_true_eq_false, or_true, true_or, or_false, false_or, eq_self, Nat.zero_add, Nat.add_zero, tab_cv, tab_g0, tab_g2, trC, hc, h4, h5, h6]
      refine t_row' (by omega) h6 ?_
      simp (disch := omega) only [w110_0, w110_3, w110_4, w110_5, w110_6, w110_7, w110_9, w110_12, w110_15, w110_16, w110_17, w110_18, w110_19, w110_22, w110_23, w110_24, w110_25, w110_28, w110_31, w110_32, w110_33, w110_34, w110_35, w110_38, w110_39, w110_40, w110_43, w110_46, w110_47, w110_50, w110_53, w110_54, w110_57, w110_60, w110_61, w110_64, w110_67, w110_68, w110_69, w110_72, w110_73, w110_74, w110_77, w110_80, w110_81, w110_82, w110_85, w110_86, w110_89, w110_90, w110_91, w110_92, w110_95, w110_96, w110_97, w110_100, w110_101, w110_102, w110_103, w110_106, w110_107, ma_kV_ap, ma_kC_s, ma_kC_n, ma_kH_ap, ma_gf_ap, ma_pf_ap, ma_cv_ap, ma_nt_0, ma_nt_s, ma_if_t, ma_if_f, ma_set_s, ma_set_ss, ma_set_2, ma_cat_n, ma_cat_i, ma_cat_l, ma_cat_r, ma_clr_n, ma_clr_i, ma_clr_l, ma_clr_r, ma_clr_0, ma_rf_s, ma_rf_n, ma_ial_ap, ma_ias_ap, List.set_cons_zero, List.set_cons_succ, List.length_cons, List.length_nil, Nat.reduceAdd, Nat.reduceLT, Nat.reduceLeDiff, Nat.le_refl, true_and, and_true, Nat.lt_add_one]
      refine r_mixInto (ghand_gk hO.1.1 k) ?_
      simp (disch := omega) only [w110_0, w110_3, w110_4, w110_5, w110_6, w110_7, w110_9, w110_12, w110_15, w110_16, w110_17, w110_18, w110_19, w110_22, w110_23, w110_24, w110_25, w110_28, w110_31, w110_32, w110_34, w110_35, w110_38, w110_39, w110_40, w110_43, w110_46, w110_47, w110_50, w110_53, w110_54, w110_57, w110_60, w110_61, w110_64, w110_67, w110_68, w110_69, w110_72, w110_73, w110_74, w110_77, w110_80, w110_81, w110_82, w110_85, w110_86, w110_89, w110_90, w110_91, w110_92, w110_95, w110_96, w110_97, w110_100, w110_101, w110_102, w110_103, w110_106, w110_107, ma_kV_ap, ma_kC_s, ma_kC_n, ma_kH_ap, ma_gf_ap, ma_pf_ap, ma_cv_ap, ma_nt_0, ma_nt_s, ma_if_t, ma_if_f, ma_set_s, ma_set_ss, ma_set_2, ma_cat_n, ma_cat_i, ma_cat_l, ma_cat_r, ma_clr_n, ma_clr_i, ma_clr_l, ma_clr_r, ma_clr_0, ma_rf_s, ma_rf_n, ma_ial_ap, ma_ias_ap, List.set_cons_zero, List.set_cons_succ, List.length_cons, List.length_nil, Nat.reduceAdd, Nat.reduceLT, Nat.reduceLeDiff, Nat.le_refl, true_and, and_true, Nat.lt_add_one, fa_lit, nI_add, pk_mul, pk_sub, pk_div, ma_rem_n, nI_ltI, nI_leI, nI_eq, Nat.reduceEqDiff, Nat.reduceMul, Nat.reduceSub, not_false_eq_true, not_true_eq_false, or_true, true_or, or_false, false_or, eq_self, Nat.zero_add, Nat.add_zero]
      refine ih (k + 1) _ (by omega) (by omega) ?_
      rw [List.range_succ, List.map_append, List.foldl_append, ← e]
      rfl
  have cnt : ∀ m k hh, 14 - k = m → k ≤ 14 → hh = gmx (lN 1871) ((List.range k).map (gnumber g tx)) → ma_W (d + 3) 110 Q 6 [some (.ref 4), some (.long hh), none, some (.int (nI k))] [] H 0 0 := by
    intro m
    induction m with
    | zero =>
      intro k hh e1 e2 e
      have hk : k = 14 := by omega
      subst hk
      simp (disch := omega) only [w110_0, w110_3, w110_4, w110_5, w110_6, w110_7, w110_9, w110_12, w110_15, w110_16, w110_17, w110_18, w110_19, w110_22, w110_23, w110_24, w110_25, w110_28, w110_31, w110_32, w110_34, w110_35, w110_38, w110_39, w110_40, w110_43, w110_46, w110_47, w110_50, w110_53, w110_54, w110_57, w110_60, w110_61, w110_64, w110_67, w110_68, w110_69, w110_72, w110_73, w110_74, w110_77, w110_80, w110_81, w110_82, w110_85, w110_86, w110_89, w110_90, w110_91, w110_92, w110_95, w110_96, w110_97, w110_100, w110_101, w110_102, w110_103, w110_106, w110_107, ma_kV_ap, ma_kC_s, ma_kC_n, ma_kH_ap, ma_gf_ap, ma_pf_ap, ma_cv_ap, ma_nt_0, ma_nt_s, ma_if_t, ma_if_f, ma_set_s, ma_set_ss, ma_set_2, ma_cat_n, ma_cat_i, ma_cat_l, ma_cat_r, ma_clr_n, ma_clr_i, ma_clr_l, ma_clr_r, ma_clr_0, ma_rf_s, ma_rf_n, ma_ial_ap, ma_ias_ap, List.set_cons_zero, List.set_cons_succ, List.length_cons, List.length_nil, Nat.reduceAdd, Nat.reduceLT, Nat.reduceLeDiff, Nat.le_refl, true_and, and_true, Nat.lt_add_one, fa_lit, nI_add, pk_mul, pk_sub, pk_div, ma_rem_n, nI_ltI, nI_leI, nI_eq, Nat.reduceEqDiff, Nat.reduceMul, Nat.reduceSub, not_false_eq_true, not_true_eq_false, or_true, true_or, or_false, false_or, eq_self, Nat.zero_add, Nat.add_zero]
      exact rows 3 0 hh rfl (by omega) (e.trans hB.symm)
    | succ m ih =>
      intro k hh e1 e2 e
      have hc : (13 < k) = False := eq_false (by omega)
      simp (disch := omega) only [w110_0, w110_3, w110_4, w110_5, w110_6, w110_7, w110_9, w110_12, w110_15, w110_16, w110_17, w110_18, w110_19, w110_22, w110_23, w110_24, w110_25, w110_28, w110_31, w110_32, w110_34, w110_35, w110_38, w110_39, w110_40, w110_43, w110_46, w110_47, w110_50, w110_53, w110_54, w110_57, w110_60, w110_61, w110_64, w110_67, w110_68, w110_69, w110_72, w110_73, w110_74, w110_77, w110_80, w110_81, w110_82, w110_85, w110_86, w110_89, w110_90, w110_91, w110_92, w110_95, w110_96, w110_97, w110_100, w110_101, w110_102, w110_103, w110_106, w110_107, ma_kV_ap, ma_kC_s, ma_kC_n, ma_kH_ap, ma_gf_ap, ma_pf_ap, ma_cv_ap, ma_nt_0, ma_nt_s, ma_if_t, ma_if_f, ma_set_s, ma_set_ss, ma_set_2, ma_cat_n, ma_cat_i, ma_cat_l, ma_cat_r, ma_clr_n, ma_clr_i, ma_clr_l, ma_clr_r, ma_clr_0, ma_rf_s, ma_rf_n, ma_ial_ap, ma_ias_ap, List.set_cons_zero, List.set_cons_succ, List.length_cons, List.length_nil, Nat.reduceAdd, Nat.reduceLT, Nat.reduceLeDiff, Nat.le_refl, true_and, and_true, Nat.lt_add_one, fa_lit, nI_add, pk_mul, pk_sub, pk_div, ma_rem_n, nI_ltI, nI_leI, nI_eq, Nat.reduceEqDiff, Nat.reduceMul, Nat.reduceSub, not_false_eq_true, not_true_eq_false, or_true, true_or, or_false, false_or, eq_self, Nat.zero_add, Nat.add_zero, hc, h4]
      refine b_numberOf (by omega) hO hP ?_
      have hl := nI_l (gnumber_lt hO (w := k) (by omega))
      simp (disch := omega) only [w110_0, w110_3, w110_4, w110_5, w110_7, w110_9, w110_12, w110_15, w110_16, w110_17, w110_18, w110_19, w110_22, w110_23, w110_24, w110_25, w110_28, w110_31, w110_32, w110_33, w110_34, w110_35, w110_38, w110_39, w110_40, w110_43, w110_46, w110_47, w110_50, w110_53, w110_54, w110_57, w110_60, w110_61, w110_64, w110_67, w110_68, w110_69, w110_72, w110_73, w110_74, w110_77, w110_80, w110_81, w110_82, w110_85, w110_86, w110_89, w110_90, w110_91, w110_92, w110_95, w110_96, w110_97, w110_100, w110_101, w110_102, w110_103, w110_106, w110_107, ma_kV_ap, ma_kC_s, ma_kC_n, ma_kH_ap, ma_gf_ap, ma_pf_ap, ma_cv_ap, ma_nt_0, ma_nt_s, ma_if_t, ma_if_f, ma_set_s, ma_set_ss, ma_set_2, ma_cat_n, ma_cat_i, ma_cat_l, ma_cat_r, ma_clr_n, ma_clr_i, ma_clr_l, ma_clr_r, ma_clr_0, ma_rf_s, ma_rf_n, ma_ial_ap, ma_ias_ap, List.set_cons_zero, List.set_cons_succ, List.length_cons, List.length_nil, Nat.reduceAdd, Nat.reduceLT, Nat.reduceLeDiff, Nat.le_refl, true_and, and_true, Nat.lt_add_one, nI_add, fa_lit, hl]
      refine ih (k + 1) _ (by omega) (by omega) ?_
      rw [List.range_succ, List.map_append, List.map_singleton, gmx_snoc, ← e]
  rw [e110]
  simp (disch := omega) only [w110_0, w110_3, w110_4, w110_5, w110_7, w110_9, w110_12, w110_15, w110_16, w110_17, w110_18, w110_19, w110_22, w110_23, w110_24, w110_25, w110_28, w110_31, w110_32, w110_33, w110_34, w110_35, w110_38, w110_39, w110_40, w110_43, w110_46, w110_47, w110_50, w110_53, w110_54, w110_57, w110_60, w110_61, w110_64, w110_67, w110_68, w110_69, w110_72, w110_73, w110_74, w110_77, w110_80, w110_81, w110_82, w110_85, w110_86, w110_89, w110_90, w110_91, w110_92, w110_95, w110_96, w110_97, w110_100, w110_101, w110_102, w110_103, w110_106, w110_107, ma_kV_ap, ma_kC_s, ma_kC_n, ma_kH_ap, ma_gf_ap, ma_pf_ap, ma_cv_ap, ma_nt_0, ma_nt_s, ma_if_t, ma_if_f, ma_set_s, ma_set_ss, ma_set_2, ma_cat_n, ma_cat_i, ma_cat_l, ma_cat_r, ma_clr_n, ma_clr_i, ma_clr_l, ma_clr_r, ma_clr_0, ma_rf_s, ma_rf_n, ma_ial_ap, ma_ias_ap, List.set_cons_zero, List.set_cons_succ, List.length_cons, List.length_nil, Nat.reduceAdd, Nat.reduceLT, Nat.reduceLeDiff, Nat.le_refl, true_and, and_true, Nat.lt_add_one]
  exact cnt 14 0 _ rfl (by omega) rfl
end D0

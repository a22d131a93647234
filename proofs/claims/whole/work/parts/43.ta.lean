/-! the class Table -/
/-- kinds of the players, hands, pile, turn, debt, moves, taken -/
abbrev ga_T : Type := Nat × Nat × List Nat × List Nat × List Nat × Nat × Nat × Nat × Nat × Nat
def tabC (t : ga_T) : ma_C := match t with
  | (kz, ko, hz, ho, pl, tu, db, mv, tz, to) => .inr (4, [.int (nI tu), .int (nI db), .int (nI mv), .long (enc hz), .long (enc ho), .long (enc pl), .int (nI tz), .int (nI to), .int (nI kz), .int (nI ko)])
section TA
variable {d i : Nat} {H : ma_H} {Q : ma_P} {kz ko tu db mv tz to : Nat} {hz ho pl : List Nat}
theorem t_row0 (hT : H.1 i = tabC (kz, ko, hz, ho, pl, tu, db, mv, tz, to)) (h : Q (some (.long (enc hz))) H) : ma_MW (d + 1) 37 [.ref i, .int (nI 0)] H Q := by
  rw [e37]; unfold tabC at hT
  simp (disch := omega) only [w37_0, w37_1, w37_4, w37_5, w37_8, w37_11, w37_12, w37_13, w37_16, w37_17, w37_20, w37_23, w37_24, w37_27, ma_kV_ap, ma_kC_s, ma_kC_n, ma_kH_ap, ma_gf_ap, ma_pf_ap, ma_cv_ap, ma_nt_0, ma_nt_s, ma_if_t, ma_if_f, ma_set_s, ma_set_ss, ma_set_2, ma_cat_n, ma_cat_i, ma_cat_l, ma_cat_r, ma_clr_n, ma_clr_i, ma_clr_l, ma_clr_r, ma_clr_0, ma_rf_s, ma_rf_n, ma_ial_ap, ma_ias_ap, List.set_cons_zero, List.set_cons_succ, List.length_cons, List.length_nil, Nat.reduceAdd, Nat.reduceLT, Nat.reduceLeDiff, Nat.le_refl, true_and, and_true, Nat.lt_add_one, fa_lit, nI_add, pk_mul, pk_sub, pk_div, ma_rem_n, nI_ltI, nI_leI, nI_eq, Nat.reduceEqDiff, Nat.reduceMul, Nat.reduceSub, not_false_eq_true, not_true_eq_false, or_true, true_or, or_false, false_or, eq_self, Nat.zero_add, Nat.add_zero, hT]
  exact h
theorem t_row1 (hT : H.1 i = tabC (kz, ko, hz, ho, pl, tu, db, mv, tz, to)) (h : Q (some (.long (enc ho))) H) : ma_MW (d + 1) 37 [.ref i, .int (nI 1)] H Q := by
  rw [e37]; unfold tabC at hT
  simp (disch := omega) only [w37_0, w37_1, w37_4, w37_5, w37_8, w37_11, w37_12, w37_13, w37_16, w37_17, w37_20, w37_23, w37_24, w37_27, ma_kV_ap, ma_kC_s, ma_kC_n, ma_kH_ap, ma_gf_ap, ma_pf_ap, ma_cv_ap, ma_nt_0, ma_nt_s, ma_if_t, ma_if_f, ma_set_s, ma_set_ss, ma_set_2, ma_cat_n, ma_cat_i, ma_cat_l, ma_cat_r, ma_clr_n, ma_clr_i, ma_clr_l, ma_clr_r, ma_clr_0, ma_rf_s, ma_rf_n, ma_ial_ap, ma_ias_ap, List.set_cons_zero, List.set_cons_succ, List.length_cons, List.length_nil, Nat.reduceAdd, Nat.reduceLT, Nat.reduceLeDiff, Nat.le_refl, true_and, and_true, Nat.lt_add_one, fa_lit, nI_add, pk_mul, pk_sub, pk_div, ma_rem_n, nI_ltI, nI_leI, nI_eq, Nat.reduceEqDiff, Nat.reduceMul, Nat.reduceSub, not_false_eq_true, not_true_eq_false, or_true, true_or, or_false, false_or, eq_self, Nat.zero_add, Nat.add_zero, hT]
  exact h
theorem t_row2 (hT : H.1 i = tabC (kz, ko, hz, ho, pl, tu, db, mv, tz, to)) (h : Q (some (.long (enc pl))) H) : ma_MW (d + 1) 37 [.ref i, .int (nI 2)] H Q := by
  rw [e37]; unfold tabC at hT
  simp (disch := omega) only [w37_0, w37_1, w37_4, w37_5, w37_8, w37_11, w37_12, w37_13, w37_16, w37_17, w37_20, w37_23, w37_24, w37_27, ma_kV_ap, ma_kC_s, ma_kC_n, ma_kH_ap, ma_gf_ap, ma_pf_ap, ma_cv_ap, ma_nt_0, ma_nt_s, ma_if_t, ma_if_f, ma_set_s, ma_set_ss, ma_set_2, ma_cat_n, ma_cat_i, ma_cat_l, ma_cat_r, ma_clr_n, ma_clr_i, ma_clr_l, ma_clr_r, ma_clr_0, ma_rf_s, ma_rf_n, ma_ial_ap, ma_ias_ap, List.set_cons_zero, List.set_cons_succ, List.length_cons, List.length_nil, Nat.reduceAdd, Nat.reduceLT, Nat.reduceLeDiff, Nat.le_refl, true_and, and_true, Nat.lt_add_one, fa_lit, nI_add, pk_mul, pk_sub, pk_div, ma_rem_n, nI_ltI, nI_leI, nI_eq, Nat.reduceEqDiff, Nat.reduceMul, Nat.reduceSub, not_false_eq_true, not_true_eq_false, or_true, true_or, or_false, false_or, eq_self, Nat.zero_add, Nat.add_zero, hT]
  exact h
def grow (hz ho pl : List Nat) (p : Nat) : List Nat := if p = 0 then hz else if p = 1 then ho else pl
theorem t_row {p : Nat} (hp : p < 3) (hT : H.1 i = tabC (kz, ko, hz, ho, pl, tu, db, mv, tz, to)) (h : Q (some (.long (enc (grow hz ho pl p)))) H) : ma_MW (d + 1) 37 [.ref i, .int (nI p)] H Q := by
  rcases (show p = 0 ∨ p = 1 ∨ p = 2 by omega) with rfl | rfl | rfl
  · exact t_row0 hT h
  · exact t_row1 hT h
  · exact t_row2 hT h
theorem t_setHand0 {m : List Nat} (hT : H.1 i = tabC (kz, ko, hz, ho, pl, tu, db, mv, tz, to)) (h : Q none (ma_set H i (tabC (kz, ko, m, ho, pl, tu, db, mv, tz, to)))) : ma_MW (d + 1) 38 [.ref i, .int (nI 0), .long (enc m)] H Q := by
  rw [e38]; unfold tabC at hT
  simp (disch := omega) only [w38_0, w38_1, w38_4, w38_5, w38_6, w38_9, w38_12, w38_13, w38_14, w38_17, ma_kV_ap, ma_kC_s, ma_kC_n, ma_kH_ap, ma_gf_ap, ma_pf_ap, ma_cv_ap, ma_nt_0, ma_nt_s, ma_if_t, ma_if_f, ma_set_s, ma_set_ss, ma_set_2, ma_cat_n, ma_cat_i, ma_cat_l, ma_cat_r, ma_clr_n, ma_clr_i, ma_clr_l, ma_clr_r, ma_clr_0, ma_rf_s, ma_rf_n, ma_ial_ap, ma_ias_ap, List.set_cons_zero, List.set_cons_succ, List.length_cons, List.length_nil, Nat.reduceAdd, Nat.reduceLT, Nat.reduceLeDiff, Nat.le_refl, true_and, and_true, Nat.lt_add_one, fa_lit, nI_add, pk_mul, pk_sub, pk_div, ma_rem_n, nI_ltI, nI_leI, nI_eq, Nat.reduceEqDiff, Nat.reduceMul, Nat.reduceSub, not_false_eq_true, not_true_eq_false, or_true, true_or, or_false, false_or, eq_self, Nat.zero_add, Nat.add_zero, hT]
  exact h
theorem t_setHand1 {m : List Nat} (hT : H.1 i = tabC (kz, ko, hz, ho, pl, tu, db, mv, tz, to)) (h : Q none (ma_set H i (tabC (kz, ko, hz, m, pl, tu, db, mv, tz, to)))) : ma_MW (d + 1) 38 [.ref i, .int (nI 1), .long (enc m)] H Q := by
  rw [e38]; unfold tabC at hT
  simp (disch := omega) only [w38_0, w38_1, w38_4, w38_5, w38_6, w38_9, w38_12, w38_13, w38_14, w38_17, ma_kV_ap, ma_kC_s, ma_kC_n, ma_kH_ap, ma_gf_ap, ma_pf_ap, ma_cv_ap, ma_nt_0, ma_nt_s, ma_if_t, ma_if_f, ma_set_s, ma_set_ss, ma_set_2, ma_cat_n, ma_cat_i, ma_cat_l, ma_cat_r, ma_clr_n, ma_clr_i, ma_clr_l, ma_clr_r, ma_clr_0, ma_rf_s, ma_rf_n, ma_ial_ap, ma_ias_ap, List.set_cons_zero, List.set_cons_succ, List.length_cons, List.length_nil, Nat.reduceAdd, Nat.reduceLT, Nat.reduceLeDiff, Nat.le_refl, true_and, and_true, Nat.lt_add_one, fa_lit, nI_add, pk_mul, pk_sub, pk_div, ma_rem_n, nI_ltI, nI_leI, nI_eq, Nat.reduceEqDiff, Nat.reduceMul, Nat.reduceSub, not_false_eq_true, not_true_eq_false, or_true, true_or, or_false, false_or, eq_self, Nat.zero_add, Nat.add_zero, hT]
  exact h
theorem t_setHand {p : Nat} {m : List Nat} (hp : p < 2) (hT : H.1 i = tabC (kz, ko, hz, ho, pl, tu, db, mv, tz, to)) (h : Q none (ma_set H i (tabC (kz, ko, if p = 0 then m else hz, if p = 0 then ho else m, pl, tu, db, mv, tz, to)))) : ma_MW (d + 1) 38 [.ref i, .int (nI p), .long (enc m)] H Q := by
  rcases (show p = 0 ∨ p = 1 by omega) with rfl | rfl
  · exact t_setHand0 hT h
  · exact t_setHand1 hT h
theorem t_kindOf {p : Nat} (hp : p < 2) (hT : H.1 i = tabC (kz, ko, hz, ho, pl, tu, db, mv, tz, to)) (h : Q (some (.int (nI (if p = 0 then kz else ko)))) H) : ma_MW (d + 1) 39 [.ref i, .int (nI p)] H Q := by
  rw [e39]; unfold tabC at hT
  rcases (show p = 0 ∨ p = 1 by omega) with rfl | rfl
  · simp (disch := omega) only [w39_0, w39_1, w39_4, w39_5, w39_8, w39_11, w39_12, w39_15, ma_kV_ap, ma_kC_s, ma_kC_n, ma_kH_ap, ma_gf_ap, ma_pf_ap, ma_cv_ap, ma_nt_0, ma_nt_s, ma_if_t, ma_if_f, ma_set_s, ma_set_ss, ma_set_2, ma_cat_n, ma_cat_i, ma_cat_l, ma_cat_r, ma_clr_n, ma_clr_i, ma_clr_l, ma_clr_r, ma_clr_0, ma_rf_s, ma_rf_n, ma_ial_ap, ma_ias_ap, List.set_cons_zero, List.set_cons_succ, List.length_cons, List.length_nil, Nat.reduceAdd, Nat.reduceLT, Nat.reduceLeDiff, Nat.le_refl, true_and, and_true, Nat.lt_add_one, fa_lit, nI_add, pk_mul, pk_sub, pk_div, ma_rem_n, nI_ltI, nI_leI, nI_eq, Nat.reduceEqDiff, Nat.reduceMul, Nat.reduceSub, not_false_eq_true, not_true_eq_false, or_true, true_or, or_false, false_or, eq_self, Nat.zero_add, Nat.add_zero, hT]
    exact h
  · simp (disch := omega) only [w39_0, w39_1, w39_4, w39_5, w39_8, w39_11, w39_12, w39_15, ma_kV_ap, ma_kC_s, ma_kC_n, ma_kH_ap, ma_gf_ap, ma_pf_ap, ma_cv_ap, ma_nt_0, ma_nt_s, ma_if_t, ma_if_f, ma_set_s, ma_set_ss, ma_set_2, ma_cat_n, ma_cat_i, ma_cat_l, ma_cat_r, ma_clr_n, ma_clr_i, ma_clr_l, ma_clr_r, ma_clr_0, ma_rf_s, ma_rf_n, ma_ial_ap, ma_ias_ap, List.set_cons_zero, List.set_cons_succ, List.length_cons, List.length_nil, Nat.reduceAdd, Nat.reduceLT, Nat.reduceLeDiff, Nat.le_refl, true_and, and_true, Nat.lt_add_one, fa_lit, nI_add, pk_mul, pk_sub, pk_div, ma_rem_n, nI_ltI, nI_leI, nI_eq, Nat.reduceEqDiff, Nat.reduceMul, Nat.reduceSub, not_false_eq_true, not_true_eq_false, or_true, true_or, or_false, false_or, eq_self, Nat.zero_add, Nat.add_zero, hT]
    exact h
theorem t_setKind {p k : Nat} (hp : p < 2) (hT : H.1 i = tabC (kz, ko, hz, ho, pl, tu, db, mv, tz, to)) (h : Q none (ma_set H i (tabC (if p = 0 then k else kz, if p = 0 then ko else k, hz, ho, pl, tu, db, mv, tz, to)))) : ma_MW (d + 1) 40 [.ref i, .int (nI p), .int (nI k)] H Q := by
  rw [e40]; unfold tabC at hT
  rcases (show p = 0 ∨ p = 1 by omega) with rfl | rfl
  · simp (disch := omega) only [w40_0, w40_1, w40_4, w40_5, w40_6, w40_9, w40_12, w40_13, w40_14, w40_17, ma_kV_ap, ma_kC_s, ma_kC_n, ma_kH_ap, ma_gf_ap, ma_pf_ap, ma_cv_ap, ma_nt_0, ma_nt_s, ma_if_t, ma_if_f, ma_set_s, ma_set_ss, ma_set_2, ma_cat_n, ma_cat_i, ma_cat_l, ma_cat_r, ma_clr_n, ma_clr_i, ma_clr_l, ma_clr_r, ma_clr_0, ma_rf_s, ma_rf_n, ma_ial_ap, ma_ias_ap, List.set_cons_zero, List.set_cons_succ, List.length_cons, List.length_nil, Nat.reduceAdd, Nat.reduceLT, Nat.reduceLeDiff, Nat.le_refl, true_and, and_true, Nat.lt_add_one, fa_lit, nI_add, pk_mul, pk_sub, pk_div, ma_rem_n, nI_ltI, nI_leI, nI_eq, Nat.reduceEqDiff, Nat.reduceMul, Nat.reduceSub, not_false_eq_true, not_true_eq_false, or_true, true_or, or_false, false_or, eq_self, Nat.zero_add, Nat.add_zero, hT]
    exact h
  · simp (disch := omega) only [w40_0, w40_1, w40_4, w40_5, w40_6, w40_9, w40_12, w40_13, w40_14, w40_17, ma_kV_ap, ma_kC_s, ma_kC_n, ma_kH_ap, ma_gf_ap, ma_pf_ap, ma_cv_ap, ma_nt_0, ma_nt_s, ma_if_t, ma_if_f, ma_set_s, ma_set_ss, ma_set_2, ma_cat_n, ma_cat_i, ma_cat_l, ma_cat_r, ma_clr_n, ma_clr_i, ma_clr_l, ma_clr_r, ma_clr_0, ma_rf_s, ma_rf_n, ma_ial_ap, ma_ias_ap, List.set_cons_zero, List.set_cons_succ, List.length_cons, List.length_nil, Nat.reduceAdd, Nat.reduceLT, Nat.reduceLeDiff, Nat.le_refl, true_and, and_true, Nat.lt_add_one, fa_lit, nI_add, pk_mul, pk_sub, pk_div, ma_rem_n, nI_ltI, nI_leI, nI_eq, Nat.reduceEqDiff, Nat.reduceMul, Nat.reduceSub, not_false_eq_true, not_true_eq_false, or_true, true_or, or_false, false_or, eq_self, Nat.zero_add, Nat.add_zero, hT]
    exact h
theorem t_begin {a b : Nat} (hT : H.1 i = tabC (kz, ko, hz, ho, pl, tu, db, mv, tz, to)) (h : Q none (ma_set H i (tabC (a, b, [], [], [], 0, 0, 0, 0, 0)))) : ma_MW (d + 1) 34 [.ref i, .int (nI a), .int (nI b)] H Q := by
  rw [e34]; unfold tabC at hT
  simp (disch := omega) only [w34_0, w34_1, w34_2, w34_5, w34_6, w34_7, w34_10, w34_11, w34_12, w34_15, w34_16, w34_17, w34_20, w34_21, w34_22, w34_25, w34_26, w34_27, w34_30, w34_31, w34_32, w34_35, w34_36, w34_37, w34_40, w34_41, w34_42, w34_45, w34_46, w34_47, w34_50, ma_kV_ap, ma_kC_s, ma_kC_n, ma_kH_ap, ma_gf_ap, ma_pf_ap, ma_cv_ap, ma_nt_0, ma_nt_s, ma_if_t, ma_if_f, ma_set_s, ma_set_ss, ma_set_2, ma_cat_n, ma_cat_i, ma_cat_l, ma_cat_r, ma_clr_n, ma_clr_i, ma_clr_l, ma_clr_r, ma_clr_0, ma_rf_s, ma_rf_n, ma_ial_ap, ma_ias_ap, List.set_cons_zero, List.set_cons_succ, List.length_cons, List.length_nil, Nat.reduceAdd, Nat.reduceLT, Nat.reduceLeDiff, Nat.le_refl, true_and, and_true, Nat.lt_add_one, hT]
  exact h
theorem t_other (htu : tu < 2) (hT : H.1 i = tabC (kz, ko, hz, ho, pl, tu, db, mv, tz, to)) (h : Q (some (.int (nI (1 - tu)))) H) : ma_MW (d + 1) 48 [.ref i] H Q := by
  rw [e48]; unfold tabC at hT
  simp (disch := omega) only [w48_0, w48_1, w48_2, w48_5, w48_6, ma_kV_ap, ma_kC_s, ma_kC_n, ma_kH_ap, ma_gf_ap, ma_pf_ap, ma_cv_ap, ma_nt_0, ma_nt_s, ma_if_t, ma_if_f, ma_set_s, ma_set_ss, ma_set_2, ma_cat_n, ma_cat_i, ma_cat_l, ma_cat_r, ma_clr_n, ma_clr_i, ma_clr_l, ma_clr_r, ma_clr_0, ma_rf_s, ma_rf_n, ma_ial_ap, ma_ias_ap, List.set_cons_zero, List.set_cons_succ, List.length_cons, List.length_nil, Nat.reduceAdd, Nat.reduceLT, Nat.reduceLeDiff, Nat.le_refl, true_and, and_true, Nat.lt_add_one, fa_lit, nI_add, pk_mul, pk_sub, pk_div, ma_rem_n, nI_ltI, nI_leI, nI_eq, Nat.reduceEqDiff, Nat.reduceMul, Nat.reduceSub, not_false_eq_true, not_true_eq_false, or_true, true_or, or_false, false_or, eq_self, Nat.zero_add, Nat.add_zero, hT]
  exact h
theorem ghas_row (htu : tu < 2) : grow hz ho pl tu = if tu = 0 then hz else ho := by
  unfold grow
  rcases (show tu = 0 ∨ tu = 1 by omega) with rfl | rfl <;> rfl
theorem t_isDone (htu : tu < 2) (hg : gk (if tu = 0 then hz else ho)) (hT : H.1 i = tabC (kz, ko, hz, ho, pl, tu, db, mv, tz, to)) (h : Q (some (.int (nI (if (if tu = 0 then hz else ho) = [] then 1 else 0)))) H) : ma_MW (d + 2) 47 [.ref i] H Q := by
  rw [e47]
  have hT2 := hT
  unfold tabC at hT2
  simp (disch := omega) only [w47_0, w47_1, w47_2, w47_5, w47_8, w47_9, w47_10, w47_13, w47_14, w47_17, w47_18, ma_kV_ap, ma_kC_s, ma_kC_n, ma_kH_ap, ma_gf_ap, ma_pf_ap, ma_cv_ap, ma_nt_0, ma_nt_s, ma_if_t, ma_if_f, ma_set_s, ma_set_ss, ma_set_2, ma_cat_n, ma_cat_i, ma_cat_l, ma_cat_r, ma_clr_n, ma_clr_i, ma_clr_l, ma_clr_r, ma_clr_0, ma_rf_s, ma_rf_n, ma_ial_ap, ma_ias_ap, List.set_cons_zero, List.set_cons_succ, List.length_cons, List.length_nil, Nat.reduceAdd, Nat.reduceLT, Nat.reduceLeDiff, Nat.le_refl, true_and, and_true, Nat.lt_add_one, hT2]
  refine t_row (by omega) hT ?_
  rw [ghas_row htu]
  simp (disch := omega) only [w47_0, w47_1, w47_2, w47_5, w47_8, w47_9, w47_10, w47_13, w47_14, w47_17, w47_18, ma_kV_ap, ma_kC_s, ma_kC_n, ma_kH_ap, ma_gf_ap, ma_pf_ap, ma_cv_ap, ma_nt_0, ma_nt_s, ma_if_t, ma_if_f, ma_set_s, ma_set_ss, ma_set_2, ma_cat_n, ma_cat_i, ma_cat_l, ma_cat_r, ma_clr_n, ma_clr_i, ma_clr_l, ma_clr_r, ma_clr_0, ma_rf_s, ma_rf_n, ma_ial_ap, ma_ias_ap, List.set_cons_zero, List.set_cons_succ, List.length_cons, List.length_nil, Nat.reduceAdd, Nat.reduceLT, Nat.reduceLeDiff, Nat.le_refl, true_and, and_true, Nat.lt_add_one, lcmp_0 hg]
  refine ⟨fun c => ?_, fun c => ?_⟩
  · rw [if_pos c] at h
    simp (disch := omega) only [w47_0, w47_1, w47_2, w47_5, w47_8, w47_9, w47_10, w47_13, w47_14, w47_17, w47_18, ma_kV_ap, ma_kC_s, ma_kC_n, ma_kH_ap, ma_gf_ap, ma_pf_ap, ma_cv_ap, ma_nt_0, ma_nt_s, ma_if_t, ma_if_f, ma_set_s, ma_set_ss, ma_set_2, ma_cat_n, ma_cat_i, ma_cat_l, ma_cat_r, ma_clr_n, ma_clr_i, ma_clr_l, ma_clr_r, ma_clr_0, ma_rf_s, ma_rf_n, ma_ial_ap, ma_ias_ap, List.set_cons_zero, List.set_cons_succ, List.length_cons, List.length_nil, Nat.reduceAdd, Nat.reduceLT, Nat.reduceLeDiff, Nat.le_refl, true_and, and_true, Nat.lt_add_one, fa_lit, nI_add, pk_mul, pk_sub, pk_div, ma_rem_n, nI_ltI, nI_leI, nI_eq, Nat.reduceEqDiff, Nat.reduceMul, Nat.reduceSub, not_false_eq_true, not_true_eq_false, or_true, true_or, or_false, false_or, eq_self, Nat.zero_add, Nat.add_zero]
    exact h
  · rw [if_neg c] at h
    simp (disch := omega) only [w47_0, w47_1, w47_2, w47_5, w47_8, w47_9, w47_10, w47_13, w47_14, w47_17, w47_18, ma_kV_ap, ma_kC_s, ma_kC_n, ma_kH_ap, ma_gf_ap, ma_pf_ap, ma_cv_ap, ma_nt_0, ma_nt_s, ma_if_t, ma_if_f, ma_set_s, ma_set_ss, ma_set_2, ma_cat_n, ma_cat_i, ma_cat_l, ma_cat_r, ma_clr_n, ma_clr_i, ma_clr_l, ma_clr_r, ma_clr_0, ma_rf_s, ma_rf_n, ma_ial_ap, ma_ias_ap, List.set_cons_zero, List.set_cons_succ, List.length_cons, List.length_nil, Nat.reduceAdd, Nat.reduceLT, Nat.reduceLeDiff, Nat.le_refl, true_and, and_true, Nat.lt_add_one, fa_lit, nI_add, pk_mul, pk_sub, pk_div, ma_rem_n, nI_ltI, nI_leI, nI_eq, Nat.reduceEqDiff, Nat.reduceMul, Nat.reduceSub, not_false_eq_true, not_true_eq_false, or_true, true_or, or_false, false_or, eq_self, Nat.zero_add, Nat.add_zero]
    exact h
end TA

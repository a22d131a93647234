/-! playOut, and the class's questions on how it goes -/
section PQ
variable {d : Nat} {H : ma_H} {Q : ma_P} {bc bm : Int32}
theorem tab_cl (t : ga_T) : ∃ fs, tabC t = .inr (4, fs) := by obtain ⟨kz, ko, hz, ho, pl, tu, db, mv, tz, to⟩ := t; exact ⟨_, rfl⟩
theorem t_playOut {t y0 : ga_T} {lim : Nat} (hok : ga_ok t) (hlim : lim ≤ 2000) (hmv : gmv t < 90000) (hR : H.1 29 = trC bc bm) (hT : H.1 30 = tabC t) (hY : H.1 31 = tabC y0)
    (h1 : ∀ m x, m ≤ lim → gfirst t m → Q (some (.int (nI m))) (ma_set (ma_set H 31 (tabC x)) 30 (tabC (git m t)))) (h0 : (∀ m, m ≤ lim → ¬ gdone (git m t)) → ∀ x y, Q (some (.int (-nI 1))) (ma_set (ma_set H 31 (tabC x)) 30 (tabC y))) : ma_MW (d + 6) 76 [.ref 29, .int (nI lim)] H Q := by
  have hR2 := hR
  unfold trC at hR2
  obtain ⟨fs, hfs⟩ := tab_cl y0
  have hY' := hY.trans hfs
  rw [e76]
  simp (disch := omega) only [w76_0, w76_1, w76_2, w76_3, w76_6, w76_7, w76_10, w76_13, w76_14, w76_16, w76_17, w76_20, w76_21, w76_24, w76_27, w76_30, w76_31, w76_32, w76_33, w76_36, w76_37, w76_40, w76_41, w76_44, w76_47, w76_50, w76_51, w76_52, w76_53, w76_54, w76_57, w76_58, w76_61, w76_62, w76_65, w76_68, w76_69, w76_70, w76_71, w76_72, w76_73, w76_76, w76_79, w76_82, w76_85, w76_86, ma_kV_ap, ma_kC_s, ma_kC_n, ma_kH_ap, ma_gf_ap, ma_pf_ap, ma_cv_ap, ma_nt_0, ma_nt_s, ma_if_t, ma_if_f, ma_set_s, ma_set_ss, ma_set_2, ma_cat_n, ma_cat_i, ma_cat_l, ma_cat_r, ma_clr_n, ma_clr_i, ma_clr_l, ma_clr_r, ma_clr_0, ma_rf_s, ma_rf_n, ma_ial_ap, ma_ias_ap, List.set_cons_zero, List.set_cons_succ, List.length_cons, List.length_nil, Nat.reduceAdd, Nat.reduceLT, Nat.reduceLeDiff, Nat.le_refl, true_and, and_true, Nat.lt_add_one, fa_lit, nI_add, pk_mul, pk_sub, pk_div, ma_rem_n, nI_ltI, nI_leI, nI_eq, Nat.reduceEqDiff, Nat.reduceMul, Nat.reduceSub, not_false_eq_true, not_true_eq_false, or_true, true_or, or_false, false_or, eq_self, Nat.zero_add, Nat.add_zero, hR2, hY']
  refine t_copyFrom' (by decide) hY hT ?_
  simp (disch := omega) only [w76_0, w76_1, w76_2, w76_3, w76_6, w76_7, w76_10, w76_13, w76_14, w76_16, w76_17, w76_20, w76_21, w76_24, w76_27, w76_30, w76_31, w76_32, w76_33, w76_36, w76_37, w76_40, w76_41, w76_44, w76_47, w76_50, w76_51, w76_52, w76_53, w76_54, w76_57, w76_58, w76_61, w76_62, w76_65, w76_68, w76_69, w76_70, w76_71, w76_72, w76_73, w76_76, w76_79, w76_82, w76_85, w76_86, ma_kV_ap, ma_kC_s, ma_kC_n, ma_kH_ap, ma_gf_ap, ma_pf_ap, ma_cv_ap, ma_nt_0, ma_nt_s, ma_if_t, ma_if_f, ma_set_s, ma_set_ss, ma_set_2, ma_cat_n, ma_cat_i, ma_cat_l, ma_cat_r, ma_clr_n, ma_clr_i, ma_clr_l, ma_clr_r, ma_clr_0, ma_rf_s, ma_rf_n, ma_ial_ap, ma_ias_ap, List.set_cons_zero, List.set_cons_succ, List.length_cons, List.length_nil, Nat.reduceAdd, Nat.reduceLT, Nat.reduceLeDiff, Nat.le_refl, true_and, and_true, Nat.lt_add_one, fa_lit, nI_add, pk_mul, pk_sub, pk_div, ma_rem_n, nI_ltI, nI_leI, nI_eq, Nat.reduceEqDiff, Nat.reduceMul, Nat.reduceSub, not_false_eq_true, not_true_eq_false, or_true, true_or, or_false, false_or, eq_self, Nat.zero_add, Nat.add_zero]
  have := t_playLoop (d := d) (Q := Q) hok hlim hmv hR h1 h0 (lim + 1) 0 0 1 (by omega) (by omega) (fun j hj => by omega) (Or.inr ⟨rfl, rfl⟩) (by omega)
  have e : ma_set (ma_set H 31 (tabC (git 0 t))) 30 (tabC (git 0 t)) = ma_set H 31 (tabC t) := ma_set_id _ _ _ (by rw [ma_set_n _ _ (by decide)]; exact hT)
  rw [e] at this
  exact this
/-- who has won once it is done -/
def gwon (t : ga_T) : Nat := 1 - gtu t
theorem gtu_lt {t : ga_T} (h : ga_ok t) : gtu t < 2 := by
  obtain ⟨kz, ko, hz, ho, pl, tu, db, mv, tz, to⟩ := t
  exact h.2.2.2.2.2.2.1
theorem t_other' {i : Nat} {t : ga_T} (hok : ga_ok t) (hT : H.1 i = tabC t) (h : Q (some (.int (nI (gwon t)))) H) : ma_MW (d + 1) 48 [.ref i] H Q := by
  obtain ⟨kz, ko, hz, ho, pl, tu, db, mv, tz, to⟩ := t
  exact t_other hok.2.2.2.2.2.2.1 hT h
variable {i : Nat}
/-- the trial's tables are free, the start's table is another one -/
def trOK (H : ma_H) (bc bm : Int32) : Prop := H.1 29 = trC bc bm ∧ (∃ y, H.1 30 = tabC y) ∧ ∃ y, H.1 31 = tabC y
theorem t_winner {t : ga_T} (hok : ga_ok t) (hmv : gmv t < 90000) (hTr : trOK H bc bm) (hi0 : i ≠ 30) (hi1 : i ≠ 31) (hT : H.1 i = tabC t)
    (h1 : ∀ m x y, m ≤ 2000 → gfirst t m → Q (some (.int (nI (gwon (git m t))))) (ma_set (ma_set H 31 (tabC x)) 30 (tabC y))) (h0 : (∀ m, m ≤ 2000 → ¬ gdone (git m t)) → ∀ x y, Q (some (.int (-nI 1))) (ma_set (ma_set H 31 (tabC x)) 30 (tabC y))) : ma_MW (d + 7) 62 [.ref 29, .ref i] H Q := by
  obtain ⟨hR, ⟨y30, h30⟩, y31, h31⟩ := hTr
  have hR2 := hR
  unfold trC at hR2
  obtain ⟨fs, hfs⟩ := tab_cl y30
  have h30' := h30.trans hfs
  rw [e62]
  simp (disch := omega) only [w62_0, w62_1, w62_4, w62_5, w62_8, w62_9, w62_12, w62_15, w62_16, w62_19, w62_20, w62_23, w62_24, w62_27, w62_30, ma_kV_ap, ma_kC_s, ma_kC_n, ma_kH_ap, ma_gf_ap, ma_pf_ap, ma_cv_ap, ma_nt_0, ma_nt_s, ma_if_t, ma_if_f, ma_set_s, ma_set_ss, ma_set_2, ma_cat_n, ma_cat_i, ma_cat_l, ma_cat_r, ma_clr_n, ma_clr_i, ma_clr_l, ma_clr_r, ma_clr_0, ma_rf_s, ma_rf_n, ma_ial_ap, ma_ias_ap, List.set_cons_zero, List.set_cons_succ, List.length_cons, List.length_nil, Nat.reduceAdd, Nat.reduceLT, Nat.reduceLeDiff, Nat.le_refl, true_and, and_true, Nat.lt_add_one, fa_lit, nI_add, pk_mul, pk_sub, pk_div, ma_rem_n, nI_ltI, nI_leI, nI_eq, Nat.reduceEqDiff, Nat.reduceMul, Nat.reduceSub, not_false_eq_true, not_true_eq_false, or_true, true_or, or_false, false_or, eq_self, Nat.zero_add, Nat.add_zero, hR2, h30']
  refine t_copyFrom' hi0 h30 hT ?_
  have k29 : (ma_set H 30 (tabC t)).1 29 = .inr (6, [.int bc, .int bm, .ref 30, .ref 31, .ref 32]) := by rw [ma_set_n _ _ (by decide)]; exact hR2
  have hcm : ∀ x y, ma_set (ma_set (ma_set H 30 (tabC t)) 31 (tabC x)) 30 (tabC y) = ma_set (ma_set H 31 (tabC x)) 30 (tabC y) := fun x y => by rw [ma_set_cm H _ _ (by decide), ma_set_ss]
  simp (disch := omega) only [w62_0, w62_1, w62_4, w62_5, w62_8, w62_9, w62_12, w62_15, w62_16, w62_19, w62_20, w62_23, w62_24, w62_27, w62_30, ma_kV_ap, ma_kC_s, ma_kC_n, ma_kH_ap, ma_gf_ap, ma_pf_ap, ma_cv_ap, ma_nt_0, ma_nt_s, ma_if_t, ma_if_f, ma_set_s, ma_set_ss, ma_set_2, ma_cat_n, ma_cat_i, ma_cat_l, ma_cat_r, ma_clr_n, ma_clr_i, ma_clr_l, ma_clr_r, ma_clr_0, ma_rf_s, ma_rf_n, ma_ial_ap, ma_ias_ap, List.set_cons_zero, List.set_cons_succ, List.length_cons, List.length_nil, Nat.reduceAdd, Nat.reduceLT, Nat.reduceLeDiff, Nat.le_refl, true_and, and_true, Nat.lt_add_one, fa_lit, nI_add, pk_mul, pk_sub, pk_div, ma_rem_n, nI_ltI, nI_leI, nI_eq, Nat.reduceEqDiff, Nat.reduceMul, Nat.reduceSub, not_false_eq_true, not_true_eq_false, or_true, true_or, or_false, false_or, eq_self, Nat.zero_add, Nat.add_zero, k29]
  refine t_playOut (t := t) (y0 := y31) hok (by decide) hmv (by rw [ma_set_n _ _ (by decide)]; exact hR) (ma_set_s _ _ _) (by rw [ma_set_n _ _ (by decide)]; exact h31) (fun m x hm hf => ?_) (fun hn x y => ?_)
  · rw [hcm]
    obtain ⟨g29, g31, g30⟩ := two_sets (H := H) (x := tabC x) (y := tabC (git m t))
    have g29' := g29.trans hR2
    obtain ⟨fs2, hfs2⟩ := tab_cl (git m t)
    have g30' := g30.trans hfs2
    have hne : (nI m = -nI 1) = False := ng_ne (by omega)
    simp (disch := omega) only [w62_0, w62_1, w62_4, w62_5, w62_8, w62_9, w62_12, w62_15, w62_16, w62_19, w62_20, w62_23, w62_24, w62_27, w62_30, ma_kV_ap, ma_kC_s, ma_gf_ap, ma_cv_ap, ma_nt_0, ma_nt_s, ma_if_t, ma_if_f, ma_cat_n, ma_clr_i, ma_clr_r, Nat.reduceLeDiff, true_and, Nat.zero_le, fa_lit, nI_add, pk_mul, pk_sub, pk_div, ma_rem_n, nI_ltI, nI_leI, nI_eq, Nat.reduceEqDiff, Nat.reduceMul, Nat.reduceSub, not_false_eq_true, not_true_eq_false, or_true, true_or, or_false, false_or, eq_self, Nat.zero_add, Nat.add_zero, hne, g29', g30']
    refine t_other' (ok_git hok m) g30 ?_
    simp (disch := omega) only [w62_0, w62_1, w62_4, w62_5, w62_8, w62_9, w62_12, w62_15, w62_16, w62_19, w62_20, w62_23, w62_24, w62_27, w62_30, ma_kV_ap, ma_kC_s, ma_kC_n, ma_kH_ap, ma_gf_ap, ma_pf_ap, ma_cv_ap, ma_nt_0, ma_nt_s, ma_if_t, ma_if_f, ma_set_s, ma_set_ss, ma_set_2, ma_cat_n, ma_cat_i, ma_cat_l, ma_cat_r, ma_clr_n, ma_clr_i, ma_clr_l, ma_clr_r, ma_clr_0, ma_rf_s, ma_rf_n, ma_ial_ap, ma_ias_ap, List.set_cons_zero, List.set_cons_succ, List.length_cons, List.length_nil, Nat.reduceAdd, Nat.reduceLT, Nat.reduceLeDiff, Nat.le_refl, true_and, and_true, Nat.lt_add_one, fa_lit, nI_add, pk_mul, pk_sub, pk_div, ma_rem_n, nI_ltI, nI_leI, nI_eq, Nat.reduceEqDiff, Nat.reduceMul, Nat.reduceSub, not_false_eq_true, not_true_eq_false, or_true, true_or, or_false, false_or, eq_self, Nat.zero_add, Nat.add_zero]
    exact h1 m x _ hm hf
  · rw [hcm]
    simp (disch := omega) only [w62_0, w62_1, w62_4, w62_5, w62_8, w62_9, w62_12, w62_15, w62_16, w62_19, w62_20, w62_23, w62_24, w62_27, w62_30, ma_kV_ap, ma_kC_s, ma_kC_n, ma_kH_ap, ma_gf_ap, ma_pf_ap, ma_cv_ap, ma_nt_0, ma_nt_s, ma_if_t, ma_if_f, ma_set_s, ma_set_ss, ma_set_2, ma_cat_n, ma_cat_i, ma_cat_l, ma_cat_r, ma_clr_n, ma_clr_i, ma_clr_l, ma_clr_r, ma_clr_0, ma_rf_s, ma_rf_n, ma_ial_ap, ma_ias_ap, List.set_cons_zero, List.set_cons_succ, List.length_cons, List.length_nil, Nat.reduceAdd, Nat.reduceLT, Nat.reduceLeDiff, Nat.le_refl, true_and, and_true, Nat.lt_add_one, fa_lit, nI_add, pk_mul, pk_sub, pk_div, ma_rem_n, nI_ltI, nI_leI, nI_eq, Nat.reduceEqDiff, Nat.reduceMul, Nat.reduceSub, not_false_eq_true, not_true_eq_false, or_true, true_or, or_false, false_or, eq_self, Nat.zero_add, Nat.add_zero]
    exact h0 hn x y
theorem t_length {t : ga_T} (hok : ga_ok t) (hmv : gmv t < 90000) (hTr : trOK H bc bm) (hi0 : i ≠ 30) (hi1 : i ≠ 31) (hT : H.1 i = tabC t)
    (h1 : ∀ m x y, m ≤ 2000 → gfirst t m → Q (some (.int (nI m))) (ma_set (ma_set H 31 (tabC x)) 30 (tabC y))) (h0 : (∀ m, m ≤ 2000 → ¬ gdone (git m t)) → ∀ x y, Q (some (.int (-nI 1))) (ma_set (ma_set H 31 (tabC x)) 30 (tabC y))) : ma_MW (d + 7) 63 [.ref 29, .ref i] H Q := by
  obtain ⟨hR, ⟨y30, h30⟩, y31, h31⟩ := hTr
  have hR2 := hR
  unfold trC at hR2
  obtain ⟨fs, hfs⟩ := tab_cl y30
  have h30' := h30.trans hfs
  rw [e63]
  simp (disch := omega) only [w63_0, w63_1, w63_4, w63_5, w63_8, w63_9, w63_12, w63_15, ma_kV_ap, ma_kC_s, ma_kC_n, ma_kH_ap, ma_gf_ap, ma_pf_ap, ma_cv_ap, ma_nt_0, ma_nt_s, ma_if_t, ma_if_f, ma_set_s, ma_set_ss, ma_set_2, ma_cat_n, ma_cat_i, ma_cat_l, ma_cat_r, ma_clr_n, ma_clr_i, ma_clr_l, ma_clr_r, ma_clr_0, ma_rf_s, ma_rf_n, ma_ial_ap, ma_ias_ap, List.set_cons_zero, List.set_cons_succ, List.length_cons, List.length_nil, Nat.reduceAdd, Nat.reduceLT, Nat.reduceLeDiff, Nat.le_refl, true_and, and_true, Nat.lt_add_one, fa_lit, nI_add, pk_mul, pk_sub, pk_div, ma_rem_n, nI_ltI, nI_leI, nI_eq, Nat.reduceEqDiff, Nat.reduceMul, Nat.reduceSub, not_false_eq_true, not_true_eq_false, or_true, true_or, or_false, false_or, eq_self, Nat.zero_add, Nat.add_zero, hR2, h30']
  refine t_copyFrom' hi0 h30 hT ?_
  have k29 : (ma_set H 30 (tabC t)).1 29 = .inr (6, [.int bc, .int bm, .ref 30, .ref 31, .ref 32]) := by rw [ma_set_n _ _ (by decide)]; exact hR2
  have hcm : ∀ x y, ma_set (ma_set (ma_set H 30 (tabC t)) 31 (tabC x)) 30 (tabC y) = ma_set (ma_set H 31 (tabC x)) 30 (tabC y) := fun x y => by rw [ma_set_cm H _ _ (by decide), ma_set_ss]
  simp (disch := omega) only [w63_0, w63_1, w63_4, w63_5, w63_8, w63_9, w63_12, w63_15, ma_kV_ap, ma_kC_s, ma_kC_n, ma_kH_ap, ma_gf_ap, ma_pf_ap, ma_cv_ap, ma_nt_0, ma_nt_s, ma_if_t, ma_if_f, ma_set_s, ma_set_ss, ma_set_2, ma_cat_n, ma_cat_i, ma_cat_l, ma_cat_r, ma_clr_n, ma_clr_i, ma_clr_l, ma_clr_r, ma_clr_0, ma_rf_s, ma_rf_n, ma_ial_ap, ma_ias_ap, List.set_cons_zero, List.set_cons_succ, List.length_cons, List.length_nil, Nat.reduceAdd, Nat.reduceLT, Nat.reduceLeDiff, Nat.le_refl, true_and, and_true, Nat.lt_add_one, fa_lit, nI_add, pk_mul, pk_sub, pk_div, ma_rem_n, nI_ltI, nI_leI, nI_eq, Nat.reduceEqDiff, Nat.reduceMul, Nat.reduceSub, not_false_eq_true, not_true_eq_false, or_true, true_or, or_false, false_or, eq_self, Nat.zero_add, Nat.add_zero, k29]
  refine t_playOut (t := t) (y0 := y31) hok (by decide) hmv (by rw [ma_set_n _ _ (by decide)]; exact hR) (ma_set_s _ _ _) (by rw [ma_set_n _ _ (by decide)]; exact h31) (fun m x hm hf => ?_) (fun hn x y => ?_)
  · rw [hcm]
    simp (disch := omega) only [w63_0, w63_1, w63_4, w63_5, w63_8, w63_9, w63_12, w63_15, ma_kV_ap, ma_kC_s, ma_kC_n, ma_kH_ap, ma_gf_ap, ma_pf_ap, ma_cv_ap, ma_nt_0, ma_nt_s, ma_if_t, ma_if_f, ma_set_s, ma_set_ss, ma_set_2, ma_cat_n, ma_cat_i, ma_cat_l, ma_cat_r, ma_clr_n, ma_clr_i, ma_clr_l, ma_clr_r, ma_clr_0, ma_rf_s, ma_rf_n, ma_ial_ap, ma_ias_ap, List.set_cons_zero, List.set_cons_succ, List.length_cons, List.length_nil, Nat.reduceAdd, Nat.reduceLT, Nat.reduceLeDiff, Nat.le_refl, true_and, and_true, Nat.lt_add_one, fa_lit, nI_add, pk_mul, pk_sub, pk_div, ma_rem_n, nI_ltI, nI_leI, nI_eq, Nat.reduceEqDiff, Nat.reduceMul, Nat.reduceSub, not_false_eq_true, not_true_eq_false, or_true, true_or, or_false, false_or, eq_self, Nat.zero_add, Nat.add_zero]
    exact h1 m x _ hm hf
  · rw [hcm]
    simp (disch := omega) only [w63_0, w63_1, w63_4, w63_5, w63_8, w63_9, w63_12, w63_15, ma_kV_ap, ma_kC_s, ma_kC_n, ma_kH_ap, ma_gf_ap, ma_pf_ap, ma_cv_ap, ma_nt_0, ma_nt_s, ma_if_t, ma_if_f, ma_set_s, ma_set_ss, ma_set_2, ma_cat_n, ma_cat_i, ma_cat_l, ma_cat_r, ma_clr_n, ma_clr_i, ma_clr_l, ma_clr_r, ma_clr_0, ma_rf_s, ma_rf_n, ma_ial_ap, ma_ias_ap, List.set_cons_zero, List.set_cons_succ, List.length_cons, List.length_nil, Nat.reduceAdd, Nat.reduceLT, Nat.reduceLeDiff, Nat.le_refl, true_and, and_true, Nat.lt_add_one, fa_lit, nI_add, pk_mul, pk_sub, pk_div, ma_rem_n, nI_ltI, nI_leI, nI_eq, Nat.reduceEqDiff, Nat.reduceMul, Nat.reduceSub, not_false_eq_true, not_true_eq_false, or_true, true_or, or_false, false_or, eq_self, Nat.zero_add, Nat.add_zero]
    exact h0 hn x y
end PQ

/-! playing out: the class's with milestones, the reference's without -/
section PP
variable {d : Nat} {H : ma_H} {Q : ma_P} {bc bm : Int32}
theorem two_sets {x y : ma_C} : (ma_set (ma_set H 31 x) 30 y).1 29 = H.1 29 ∧ (ma_set (ma_set H 31 x) 30 y).1 31 = x ∧ (ma_set (ma_set H 31 x) 30 y).1 30 = y := by
  refine ⟨?_, ?_, ma_set_s _ _ _⟩
  · rw [ma_set_n _ _ (by decide), ma_set_n _ _ (by decide)]
  · rw [ma_set_n _ _ (by decide), ma_set_s]
theorem t_playLoop {t : ga_T} {lim : Nat} (hok : ga_ok t) (hlim : lim ≤ 2000) (hmv : gmv t < 90000) (hR : H.1 29 = trC bc bm)
    (h1 : ∀ m x, m ≤ lim → gfirst t m → Q (some (.int (nI m))) (ma_set (ma_set H 31 (tabC x)) 30 (tabC (git m t)))) (h0 : (∀ m, m ≤ lim → ¬ gdone (git m t)) → ∀ x y, Q (some (.int (-nI 1))) (ma_set (ma_set H 31 (tabC x)) 30 (tabC y))) :
    ∀ r m k w, lim + 1 - m = r → m ≤ lim + 1 → (∀ j, j < m → ¬ gdone (git j t)) → (k < m ∨ m = 0 ∧ k = 0) → w ≤ 2 * m + 1 → ma_W (d + 5) 76 Q 15 [some (.ref 29), some (.int (nI lim)), some (.int (nI w)), some (.int (nI m))] [] (ma_set (ma_set H 31 (tabC (git k t))) 30 (tabC (git m t))) 0 0 := by
  unfold trC at hR
  intro r
  induction r with
  | zero =>
    intro m k w e1 e2 hnd hkm hw
    have hm : m = lim + 1 := by omega
    subst hm
    have hc : (lim < lim + 1) = True := eq_true (Nat.lt_succ_self _)
    simp (disch := omega) only [w76_0, w76_1, w76_2, w76_3, w76_6, w76_7, w76_10, w76_13, w76_14, w76_15, w76_16, w76_17, w76_20, w76_21, w76_24, w76_27, w76_30, w76_31, w76_32, w76_33, w76_36, w76_37, w76_40, w76_41, w76_44, w76_47, w76_50, w76_51, w76_52, w76_53, w76_54, w76_57, w76_58, w76_61, w76_62, w76_65, w76_68, w76_69, w76_70, w76_71, w76_72, w76_73, w76_76, w76_79, w76_82, w76_85, w76_86, ma_kV_ap, ma_kC_s, ma_kC_n, ma_kH_ap, ma_gf_ap, ma_pf_ap, ma_cv_ap, ma_nt_0, ma_nt_s, ma_if_t, ma_if_f, ma_set_s, ma_set_ss, ma_set_2, ma_cat_n, ma_cat_i, ma_cat_l, ma_cat_r, ma_clr_n, ma_clr_i, ma_clr_l, ma_clr_r, ma_clr_0, ma_rf_s, ma_rf_n, ma_ial_ap, ma_ias_ap, List.set_cons_zero, List.set_cons_succ, List.length_cons, List.length_nil, Nat.reduceAdd, Nat.reduceLT, Nat.reduceLeDiff, Nat.le_refl, true_and, and_true, Nat.lt_add_one, fa_lit, nI_add, pk_mul, pk_sub, pk_div, ma_rem_n, nI_ltI, nI_leI, nI_eq, Nat.reduceEqDiff, Nat.reduceMul, Nat.reduceSub, not_false_eq_true, not_true_eq_false, or_true, true_or, or_false, false_or, eq_self, Nat.zero_add, Nat.add_zero, hc]
    exact h0 (fun j hj => hnd j (by omega)) _ _
  | succ r ih =>
    intro m k w e1 e2 hnd hkm hw
    have hc : (lim < m) = False := eq_false (by omega)
    have hmm := gmv_git t m
    obtain ⟨g29, g31, g30⟩ := two_sets (H := H) (x := tabC (git k t)) (y := tabC (git m t))
    have hR2 : (ma_set (ma_set H 31 (tabC (git k t))) 30 (tabC (git m t))).1 29 = .inr (6, [.int bc, .int bm, .ref 30, .ref 31, .ref 32]) := g29.trans hR
    have hcl : ∀ t' : ga_T, ∃ fs, tabC t' = .inr (4, fs) := fun t' => by obtain ⟨kz, ko, hz, ho, pl, tu, db, mv, tz, to⟩ := t'; exact ⟨_, rfl⟩
    obtain ⟨fsm, hfm⟩ := hcl (git m t)
    obtain ⟨fsk, hfk⟩ := hcl (git k t)
    have g30' := g30.trans hfm
    have g31' := g31.trans hfk
    simp (disch := omega) only [w76_0, w76_1, w76_2, w76_3, w76_6, w76_7, w76_10, w76_13, w76_14, w76_15, w76_16, w76_17, w76_20, w76_21, w76_24, w76_27, w76_30, w76_31, w76_32, w76_33, w76_36, w76_37, w76_40, w76_41, w76_44, w76_47, w76_50, w76_51, w76_52, w76_53, w76_54, w76_57, w76_58, w76_61, w76_62, w76_65, w76_68, w76_69, w76_70, w76_71, w76_72, w76_73, w76_76, w76_79, w76_82, w76_85, w76_86, ma_kV_ap, ma_kC_s, ma_gf_ap, ma_cv_ap, ma_nt_0, ma_nt_s, ma_if_t, ma_if_f, ma_cat_n, ma_clr_i, ma_clr_r, Nat.reduceLeDiff, true_and, Nat.zero_le, fa_lit, nI_add, pk_mul, pk_sub, pk_div, ma_rem_n, nI_ltI, nI_leI, nI_eq, Nat.reduceEqDiff, Nat.reduceMul, Nat.reduceSub, not_false_eq_true, not_true_eq_false, or_true, true_or, or_false, false_or, eq_self, Nat.zero_add, Nat.add_zero, hc, hR2, g30']
    refine t_isDone' (ok_git hok m) g30 (fun hd => ?_) (fun hd => ?_)
    · simp (disch := omega) only [w76_0, w76_1, w76_2, w76_3, w76_6, w76_7, w76_10, w76_13, w76_14, w76_15, w76_16, w76_17, w76_20, w76_21, w76_24, w76_27, w76_30, w76_31, w76_32, w76_33, w76_36, w76_37, w76_40, w76_41, w76_44, w76_47, w76_50, w76_51, w76_52, w76_53, w76_54, w76_57, w76_58, w76_61, w76_62, w76_65, w76_68, w76_69, w76_70, w76_71, w76_72, w76_73, w76_76, w76_79, w76_82, w76_85, w76_86, ma_kV_ap, ma_kC_s, ma_kC_n, ma_kH_ap, ma_gf_ap, ma_pf_ap, ma_cv_ap, ma_nt_0, ma_nt_s, ma_if_t, ma_if_f, ma_set_s, ma_set_ss, ma_set_2, ma_cat_n, ma_cat_i, ma_cat_l, ma_cat_r, ma_clr_n, ma_clr_i, ma_clr_l, ma_clr_r, ma_clr_0, ma_rf_s, ma_rf_n, ma_ial_ap, ma_ias_ap, List.set_cons_zero, List.set_cons_succ, List.length_cons, List.length_nil, Nat.reduceAdd, Nat.reduceLT, Nat.reduceLeDiff, Nat.le_refl, true_and, and_true, Nat.lt_add_one, fa_lit, nI_add, pk_mul, pk_sub, pk_div, ma_rem_n, nI_ltI, nI_leI, nI_eq, Nat.reduceEqDiff, Nat.reduceMul, Nat.reduceSub, not_false_eq_true, not_true_eq_false, or_true, true_or, or_false, false_or, eq_self, Nat.zero_add, Nat.add_zero]
      exact h1 m _ (by omega) ⟨hd, hnd⟩
    · have hnd' : ∀ j, j ≤ m → ¬ gdone (git j t) := fun j hj => by
        rcases Nat.lt_or_ge j m with g | g
        · exact hnd j g
        · rw [show j = m by omega]; exact hd
      have mv72 : ∀ k' w', (k' < m + 1) → w' ≤ 2 * (m + 1) + 1 → ma_W (d + 5) 76 Q 72 [some (.ref 29), some (.int (nI lim)), some (.int (nI w')), some (.int (nI m))] [] (ma_set (ma_set H 31 (tabC (git k' t))) 30 (tabC (git m t))) 0 0 := by
        intro k' w' hk' hw'
        obtain ⟨f29, f31, f30⟩ := two_sets (H := H) (x := tabC (git k' t)) (y := tabC (git m t))
        have hR3 : (ma_set (ma_set H 31 (tabC (git k' t))) 30 (tabC (git m t))).1 29 = .inr (6, [.int bc, .int bm, .ref 30, .ref 31, .ref 32]) := f29.trans hR
        have f30' := f30.trans hfm
        simp (disch := omega) only [w76_0, w76_1, w76_2, w76_3, w76_6, w76_7, w76_10, w76_13, w76_14, w76_15, w76_16, w76_17, w76_20, w76_21, w76_24, w76_27, w76_30, w76_31, w76_32, w76_33, w76_36, w76_37, w76_40, w76_41, w76_44, w76_47, w76_50, w76_51, w76_52, w76_53, w76_54, w76_57, w76_58, w76_61, w76_62, w76_65, w76_68, w76_69, w76_70, w76_71, w76_72, w76_73, w76_76, w76_79, w76_82, w76_85, w76_86, ma_kV_ap, ma_kC_s, ma_gf_ap, ma_cv_ap, ma_nt_0, ma_nt_s, ma_cat_n, ma_clr_i, ma_clr_r, Nat.reduceLeDiff, true_and, Nat.zero_le, hR3, f30']
        refine t_move' (ok_git hok m) (by omega) hd f30 ?_
        rw [ma_set_ss, ← git_s]
        simp (disch := omega) only [w76_0, w76_1, w76_2, w76_3, w76_6, w76_7, w76_10, w76_13, w76_14, w76_16, w76_17, w76_20, w76_21, w76_24, w76_27, w76_30, w76_31, w76_32, w76_33, w76_36, w76_37, w76_40, w76_41, w76_44, w76_47, w76_50, w76_51, w76_52, w76_53, w76_54, w76_57, w76_58, w76_61, w76_62, w76_65, w76_68, w76_69, w76_70, w76_71, w76_72, w76_73, w76_76, w76_79, w76_82, w76_85, w76_86, ma_kC_n, ma_clr_i, ma_clr_r, fa_lit, nI_add, pk_mul, pk_sub, pk_div, ma_rem_n, nI_ltI, nI_leI, nI_eq, Nat.reduceEqDiff, Nat.reduceMul, Nat.reduceSub, not_false_eq_true, not_true_eq_false, or_true, true_or, or_false, false_or, eq_self, Nat.zero_add, Nat.add_zero]
        exact ih (m + 1) k' w' (by omega) (by omega) (fun j hj => hnd' j (by omega)) (Or.inl hk') hw'
      have h52 : ma_W (d + 5) 76 Q 52 [some (.ref 29), some (.int (nI lim)), some (.int (nI w)), some (.int (nI m))] [] (ma_set (ma_set H 31 (tabC (git k t))) 30 (tabC (git m t))) 0 0 := by
        simp (disch := omega) only [w76_0, w76_1, w76_2, w76_3, w76_6, w76_7, w76_10, w76_13, w76_14, w76_15, w76_16, w76_17, w76_20, w76_21, w76_24, w76_27, w76_30, w76_31, w76_32, w76_33, w76_36, w76_37, w76_40, w76_41, w76_44, w76_47, w76_50, w76_51, w76_52, w76_53, w76_54, w76_58, w76_61, w76_62, w76_65, w76_68, w76_69, w76_70, w76_71, w76_73, w76_76, w76_79, w76_82, w76_85, w76_86, fa_lit, nI_add, pk_mul, pk_sub, pk_div, ma_rem_n, nI_ltI, nI_leI, nI_eq, Nat.reduceEqDiff, Nat.reduceMul, Nat.reduceSub, not_false_eq_true, not_true_eq_false, or_true, true_or, or_false, false_or, eq_self, Nat.zero_add, Nat.add_zero]
        refine ⟨fun c => ?_, fun c => ?_⟩
        · simp (disch := omega) only [w76_0, w76_1, w76_2, w76_3, w76_6, w76_7, w76_10, w76_13, w76_14, w76_15, w76_16, w76_17, w76_20, w76_21, w76_24, w76_27, w76_30, w76_31, w76_32, w76_33, w76_36, w76_37, w76_40, w76_41, w76_44, w76_47, w76_50, w76_51, w76_52, w76_53, w76_54, w76_57, w76_58, w76_61, w76_62, w76_65, w76_68, w76_69, w76_70, w76_71, w76_73, w76_76, w76_79, w76_82, w76_85, w76_86, ma_kV_ap, ma_kC_s, ma_gf_ap, ma_cv_ap, ma_nt_0, ma_nt_s, ma_cat_n, ma_clr_i, ma_clr_r, Nat.reduceLeDiff, true_and, Nat.zero_le, hR2, g31']
          refine t_copyFrom' (by decide) g31 g30 ?_
          have hcm : ma_set (ma_set (ma_set H 31 (tabC (git k t))) 30 (tabC (git m t))) 31 (tabC (git m t)) = ma_set (ma_set H 31 (tabC (git m t))) 30 (tabC (git m t)) := by
            rw [ma_set_cm _ _ _ (by decide), ma_set_ss]
          rw [hcm]
          simp (disch := omega) only [w76_0, w76_1, w76_2, w76_3, w76_6, w76_7, w76_10, w76_13, w76_14, w76_15, w76_16, w76_17, w76_20, w76_21, w76_24, w76_27, w76_30, w76_31, w76_32, w76_33, w76_36, w76_37, w76_40, w76_41, w76_44, w76_47, w76_50, w76_51, w76_52, w76_53, w76_54, w76_57, w76_58, w76_61, w76_62, w76_65, w76_68, w76_69, w76_70, w76_71, w76_73, w76_76, w76_79, w76_82, w76_85, w76_86, ma_kC_n, ma_clr_i, ma_clr_r, fa_lit, nI_add, pk_mul, pk_sub, pk_div, ma_rem_n, nI_ltI, nI_leI, nI_eq, Nat.reduceEqDiff, Nat.reduceMul, Nat.reduceSub, not_false_eq_true, not_true_eq_false, or_true, true_or, or_false, false_or, eq_self, Nat.zero_add, Nat.add_zero]
          exact mv72 m (2 * w) (by omega) (by omega)
        · exact mv72 k w (by omega) (by omega)
      simp (disch := omega) only [w76_0, w76_1, w76_2, w76_3, w76_6, w76_7, w76_10, w76_13, w76_14, w76_15, w76_16, w76_17, w76_20, w76_21, w76_24, w76_27, w76_30, w76_31, w76_32, w76_33, w76_37, w76_40, w76_41, w76_44, w76_47, w76_50, w76_51, w76_53, w76_54, w76_57, w76_58, w76_61, w76_62, w76_65, w76_68, w76_69, w76_70, w76_71, w76_72, w76_73, w76_76, w76_79, w76_82, w76_85, w76_86, ma_kV_ap, ma_kC_s, ma_kC_n, ma_kH_ap, ma_gf_ap, ma_pf_ap, ma_cv_ap, ma_nt_0, ma_nt_s, ma_if_t, ma_if_f, ma_set_s, ma_set_ss, ma_set_2, ma_cat_n, ma_cat_i, ma_cat_l, ma_cat_r, ma_clr_n, ma_clr_i, ma_clr_l, ma_clr_r, ma_clr_0, ma_rf_s, ma_rf_n, ma_ial_ap, ma_ias_ap, List.set_cons_zero, List.set_cons_succ, List.length_cons, List.length_nil, Nat.reduceAdd, Nat.reduceLT, Nat.reduceLeDiff, Nat.le_refl, true_and, and_true, Nat.lt_add_one, fa_lit, nI_add, pk_mul, pk_sub, pk_div, ma_rem_n, nI_ltI, nI_leI, nI_eq, Nat.reduceEqDiff, Nat.reduceMul, Nat.reduceSub, not_false_eq_true, not_true_eq_false, or_true, true_or, or_false, false_or, eq_self, Nat.zero_add, Nat.add_zero]
      refine ⟨fun c => h52, fun c => ?_⟩
      simp (disch := omega) only [w76_0, w76_1, w76_2, w76_3, w76_6, w76_7, w76_10, w76_13, w76_14, w76_15, w76_16, w76_17, w76_20, w76_21, w76_24, w76_27, w76_30, w76_31, w76_32, w76_33, w76_36, w76_37, w76_40, w76_41, w76_44, w76_47, w76_50, w76_51, w76_53, w76_54, w76_57, w76_58, w76_61, w76_62, w76_65, w76_68, w76_69, w76_70, w76_71, w76_72, w76_73, w76_76, w76_79, w76_82, w76_85, w76_86, ma_kV_ap, ma_kC_s, ma_gf_ap, ma_cv_ap, ma_nt_0, ma_nt_s, ma_cat_n, ma_clr_i, ma_clr_r, Nat.reduceLeDiff, true_and, Nat.zero_le, hR2, g30']
      refine t_liesAs' (ok_git hok m) (ok_git hok k) ⟨by rw [(gkind_git t m).1, (gkind_git t k).1], by rw [(gkind_git t m).2, (gkind_git t k).2]⟩ g30 g31 (fun e => ?_) (fun e => ?_)
      · simp (disch := omega) only [w76_0, w76_1, w76_2, w76_3, w76_6, w76_7, w76_10, w76_13, w76_14, w76_15, w76_16, w76_17, w76_20, w76_21, w76_24, w76_27, w76_30, w76_31, w76_32, w76_33, w76_36, w76_37, w76_40, w76_41, w76_44, w76_47, w76_50, w76_51, w76_52, w76_53, w76_54, w76_57, w76_58, w76_61, w76_62, w76_65, w76_68, w76_69, w76_70, w76_71, w76_72, w76_73, w76_76, w76_79, w76_82, w76_85, w76_86, ma_kV_ap, ma_kC_s, ma_kC_n, ma_kH_ap, ma_gf_ap, ma_pf_ap, ma_cv_ap, ma_nt_0, ma_nt_s, ma_if_t, ma_if_f, ma_set_s, ma_set_ss, ma_set_2, ma_cat_n, ma_cat_i, ma_cat_l, ma_cat_r, ma_clr_n, ma_clr_i, ma_clr_l, ma_clr_r, ma_clr_0, ma_rf_s, ma_rf_n, ma_ial_ap, ma_ias_ap, List.set_cons_zero, List.set_cons_succ, List.length_cons, List.length_nil, Nat.reduceAdd, Nat.reduceLT, Nat.reduceLeDiff, Nat.le_refl, true_and, and_true, Nat.lt_add_one, fa_lit, nI_add, pk_mul, pk_sub, pk_div, ma_rem_n, nI_ltI, nI_leI, nI_eq, Nat.reduceEqDiff, Nat.reduceMul, Nat.reduceSub, not_false_eq_true, not_true_eq_false, or_true, true_or, or_false, false_or, eq_self, Nat.zero_add, Nat.add_zero]
        exact h0 (fun j _ => ground (k := k) (m := m) (by omega) e hnd' j) _ _
      · simp (disch := omega) only [w76_0, w76_1, w76_2, w76_3, w76_6, w76_7, w76_10, w76_13, w76_14, w76_15, w76_16, w76_17, w76_20, w76_21, w76_24, w76_27, w76_30, w76_31, w76_32, w76_33, w76_36, w76_37, w76_40, w76_41, w76_44, w76_47, w76_50, w76_51, w76_53, w76_54, w76_57, w76_58, w76_61, w76_62, w76_65, w76_68, w76_69, w76_70, w76_71, w76_72, w76_73, w76_76, w76_79, w76_82, w76_85, w76_86, ma_kV_ap, ma_kC_s, ma_kC_n, ma_kH_ap, ma_gf_ap, ma_pf_ap, ma_cv_ap, ma_nt_0, ma_nt_s, ma_if_t, ma_if_f, ma_set_s, ma_set_ss, ma_set_2, ma_cat_n, ma_cat_i, ma_cat_l, ma_cat_r, ma_clr_n, ma_clr_i, ma_clr_l, ma_clr_r, ma_clr_0, ma_rf_s, ma_rf_n, ma_ial_ap, ma_ias_ap, List.set_cons_zero, List.set_cons_succ, List.length_cons, List.length_nil, Nat.reduceAdd, Nat.reduceLT, Nat.reduceLeDiff, Nat.le_refl, true_and, and_true, Nat.lt_add_one, fa_lit, nI_add, pk_mul, pk_sub, pk_div, ma_rem_n, nI_ltI, nI_leI, nI_eq, Nat.reduceEqDiff, Nat.reduceMul, Nat.reduceSub, not_false_eq_true, not_true_eq_false, or_true, true_or, or_false, false_or, eq_self, Nat.zero_add, Nat.add_zero]
        exact h52
end PP

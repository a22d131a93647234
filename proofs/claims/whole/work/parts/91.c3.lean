/-! the class BeggarPile: how it goes -/
section C3
variable {d : Nat} {Q : ma_P} {H : ma_H} {g : gG} {i0 i1 : Option gG} {tx : List Nat} {ab bl : Int64} {c0 c1 c2 : Int32}
theorem trA_30 {y : ga_T} (h : trA H) : trA (ma_set H 30 (tabC y)) := by
  obtain ⟨⟨bc, bm, a, ⟨z, b⟩, w, c⟩, f, e⟩ := h
  exact ⟨⟨bc, bm, by rw [ma_set_n _ _ (by decide)]; exact a, ⟨y, ma_set_s _ _ _⟩, w, by rw [ma_set_n _ _ (by decide)]; exact c⟩, f, by rw [ma_set_n _ _ (by decide)]; exact e⟩
theorem trA_31 {x y : ga_T} (h : trA H) : trA (ma_set (ma_set H 31 (tabC x)) 30 (tabC y)) := by
  obtain ⟨⟨bc, bm, a, ⟨z, b⟩, w, c⟩, f, e⟩ := h
  exact ⟨⟨bc, bm, by rw [ma_set_n _ _ (by decide), ma_set_n _ _ (by decide)]; exact a, ⟨y, ma_set_s _ _ _⟩, x, by rw [ma_set_n _ _ (by decide), ma_set_s]⟩, f, by rw [ma_set_n _ _ (by decide), ma_set_n _ _ (by decide)]; exact e⟩
theorem trA_T {H' : ma_H} {bc bm : Int32} {y : ga_T} (h : trA H) (ht : trT H' bc bm y) (hf : fr H H' 29 32) : trA H' := by
  obtain ⟨-, f, e⟩ := h
  exact ⟨⟨bc, bm, ht.1, ⟨y, ht.2.1⟩, ht.2.2⟩, f, (hf.2 32 (by omega)).trans e⟩
theorem c_behind {m w : Int32} (hO : sOK g i0 i1 tx) (hP : cP H g i0 i1 tx ab bl c0 c1 c2)
    (hb : ¬ (inR m 0 60 ∧ inR w 0 4) → ∀ H', cP H' g i0 i1 tx ab bl (c0 + nI 1) c1 c2 → cF H H' → Q (some (.int (-nI 2))) H')
    (h1 : ∀ a b, a ≤ 60 → b ≤ 4 → m = nI a → w = nI b → ∀ H', cP H' g i0 i1 tx ab bl c0 c1 c2 → cF H H' → Q (some (.int (nI (gnum (git a g.1) b)))) H') : ma_MW (d + 7) 88 [.ref 4, .int m, .int w] H Q := by
  have h4 := cP_4 hP
  have h5 := cP_5 hP
  have h6 := cP_6 hP
  have hmv := hO.1.2.1
  obtain ⟨⟨bc, bm, hTr⟩, f32, e32⟩ := hP.2.2.2.2.1
  have h29 := hTr.1
  have bad : ∀ P : Prop, ¬ (inR m 0 60 ∧ inR w 0 4) → ma_W (d + 6) 88 Q 19 [some (.ref 4), some (.int m), some (.int w)] [] H 0 0 := by
    intro _ hn
    simp (disch := omega) only [w88_0, w88_1, w88_2, w88_4, w88_7, w88_10, w88_11, w88_12, w88_13, w88_16, w88_19, w88_20, w88_23, w88_24, w88_25, w88_28, w88_29, w88_32, w88_35, w88_36, w88_37, w88_40, ma_kV_ap, ma_kC_s, ma_kC_n, ma_kH_ap, ma_gf_ap, ma_pf_ap, ma_cv_ap, ma_nt_0, ma_nt_s, ma_if_t, ma_if_f, ma_set_s, ma_set_ss, ma_set_2, ma_cat_n, ma_cat_i, ma_cat_l, ma_cat_r, ma_clr_n, ma_clr_i, ma_clr_l, ma_clr_r, ma_clr_0, ma_rf_s, ma_rf_n, ma_ial_ap, ma_ias_ap, List.set_cons_zero, List.set_cons_succ, List.length_cons, List.length_nil, Nat.reduceAdd, Nat.reduceLT, Nat.reduceLeDiff, Nat.le_refl, true_and, and_true, Nat.lt_add_one, h4]
    refine b_bad hP (fun H' p f => ?_)
    simp (disch := omega) only [w88_0, w88_1, w88_2, w88_4, w88_7, w88_10, w88_11, w88_12, w88_13, w88_16, w88_19, w88_20, w88_23, w88_24, w88_25, w88_28, w88_29, w88_32, w88_35, w88_36, w88_37, w88_40, ma_kV_ap, ma_kC_s, ma_kC_n, ma_kH_ap, ma_gf_ap, ma_pf_ap, ma_cv_ap, ma_nt_0, ma_nt_s, ma_if_t, ma_if_f, ma_set_s, ma_set_ss, ma_set_2, ma_cat_n, ma_cat_i, ma_cat_l, ma_cat_r, ma_clr_n, ma_clr_i, ma_clr_l, ma_clr_r, ma_clr_0, ma_rf_s, ma_rf_n, ma_ial_ap, ma_ias_ap, List.set_cons_zero, List.set_cons_succ, List.length_cons, List.length_nil, Nat.reduceAdd, Nat.reduceLT, Nat.reduceLeDiff, Nat.le_refl, true_and, and_true, Nat.lt_add_one]
    exact hb hn H' p f
  rw [e88]
  simp (disch := omega) only [w88_0, w88_1, w88_2, w88_4, w88_7, w88_10, w88_11, w88_12, w88_13, w88_16, w88_19, w88_20, w88_23, w88_24, w88_25, w88_28, w88_29, w88_32, w88_35, w88_36, w88_37, w88_40, ma_kV_ap, ma_kC_s, ma_kC_n, ma_kH_ap, ma_gf_ap, ma_pf_ap, ma_cv_ap, ma_nt_0, ma_nt_s, ma_if_t, ma_if_f, ma_set_s, ma_set_ss, ma_set_2, ma_cat_n, ma_cat_i, ma_cat_l, ma_cat_r, ma_clr_n, ma_clr_i, ma_clr_l, ma_clr_r, ma_clr_0, ma_rf_s, ma_rf_n, ma_ial_ap, ma_ias_ap, List.set_cons_zero, List.set_cons_succ, List.length_cons, List.length_nil, Nat.reduceAdd, Nat.reduceLT, Nat.reduceLeDiff, Nat.le_refl, true_and, and_true, Nat.lt_add_one, fa_lit]
  refine b_in (by decide) (by decide) (fun a _ a2 ea => ?_) (fun n => ?_)
  · simp (disch := omega) only [w88_0, w88_1, w88_2, w88_4, w88_7, w88_10, w88_11, w88_12, w88_13, w88_16, w88_19, w88_20, w88_23, w88_24, w88_25, w88_28, w88_29, w88_32, w88_35, w88_36, w88_37, w88_40, ma_kV_ap, ma_kC_s, ma_kC_n, ma_kH_ap, ma_gf_ap, ma_pf_ap, ma_cv_ap, ma_nt_0, ma_nt_s, ma_if_t, ma_if_f, ma_set_s, ma_set_ss, ma_set_2, ma_cat_n, ma_cat_i, ma_cat_l, ma_cat_r, ma_clr_n, ma_clr_i, ma_clr_l, ma_clr_r, ma_clr_0, ma_rf_s, ma_rf_n, ma_ial_ap, ma_ias_ap, List.set_cons_zero, List.set_cons_succ, List.length_cons, List.length_nil, Nat.reduceAdd, Nat.reduceLT, Nat.reduceLeDiff, Nat.le_refl, true_and, and_true, Nat.lt_add_one, fa_lit, nI_add, pk_mul, pk_sub, pk_div, ma_rem_n, nI_ltI, nI_leI, nI_eq, Nat.reduceEqDiff, Nat.reduceMul, Nat.reduceSub, not_false_eq_true, not_true_eq_false, or_true, true_or, or_false, false_or, eq_self, Nat.zero_add, Nat.add_zero]
    refine b_in (by decide) (by decide) (fun b _ b2 eb => ?_) (fun n => ?_)
    · subst ea eb
      simp (disch := omega) only [w88_0, w88_1, w88_2, w88_4, w88_7, w88_10, w88_11, w88_12, w88_13, w88_16, w88_19, w88_20, w88_23, w88_24, w88_25, w88_28, w88_29, w88_32, w88_35, w88_36, w88_37, w88_40, ma_kV_ap, ma_kC_s, ma_kC_n, ma_kH_ap, ma_gf_ap, ma_pf_ap, ma_cv_ap, ma_nt_0, ma_nt_s, ma_if_t, ma_if_f, ma_set_s, ma_set_ss, ma_set_2, ma_cat_n, ma_cat_i, ma_cat_l, ma_cat_r, ma_clr_n, ma_clr_i, ma_clr_l, ma_clr_r, ma_clr_0, ma_rf_s, ma_rf_n, ma_ial_ap, ma_ias_ap, List.set_cons_zero, List.set_cons_succ, List.length_cons, List.length_nil, Nat.reduceAdd, Nat.reduceLT, Nat.reduceLeDiff, Nat.le_refl, true_and, and_true, Nat.lt_add_one, fa_lit, nI_add, pk_mul, pk_sub, pk_div, ma_rem_n, nI_ltI, nI_leI, nI_eq, Nat.reduceEqDiff, Nat.reduceMul, Nat.reduceSub, not_false_eq_true, not_true_eq_false, or_true, true_or, or_false, false_or, eq_self, Nat.zero_add, Nat.add_zero, tab_cv, tab_g0, tab_g2, trC, h4, h5, h29]
      refine k_behind a2 (by omega) hO.1.1 (by omega) hTr (by omega) h6 (fun k y hk => ?_)
      simp (disch := omega) only [w88_0, w88_1, w88_2, w88_4, w88_7, w88_10, w88_11, w88_12, w88_13, w88_16, w88_19, w88_20, w88_23, w88_24, w88_25, w88_28, w88_29, w88_32, w88_35, w88_36, w88_37, w88_40, ma_kC_s]
      rw [← git_beh hk]
      exact h1 a b a2 b2 rfl rfl _ (cP_tr hP (trA_30 hP.2.2.2.2.1) (fr_set _ _ (by omega) (by omega))) (cF_fr (a := 30) (b := 31) (fr_set _ _ (by omega) (by omega)) (by omega) (by omega))
    · simp (disch := omega) only [w88_0, w88_1, w88_2, w88_4, w88_7, w88_10, w88_11, w88_12, w88_13, w88_16, w88_20, w88_23, w88_24, w88_25, w88_28, w88_29, w88_32, w88_35, w88_36, w88_37, w88_40, ma_kV_ap, ma_kC_s, ma_kC_n, ma_kH_ap, ma_gf_ap, ma_pf_ap, ma_cv_ap, ma_nt_0, ma_nt_s, ma_if_t, ma_if_f, ma_set_s, ma_set_ss, ma_set_2, ma_cat_n, ma_cat_i, ma_cat_l, ma_cat_r, ma_clr_n, ma_clr_i, ma_clr_l, ma_clr_r, ma_clr_0, ma_rf_s, ma_rf_n, ma_ial_ap, ma_ias_ap, List.set_cons_zero, List.set_cons_succ, List.length_cons, List.length_nil, Nat.reduceAdd, Nat.reduceLT, Nat.reduceLeDiff, Nat.le_refl, true_and, and_true, Nat.lt_add_one, fa_lit, nI_add, pk_mul, pk_sub, pk_div, ma_rem_n, nI_ltI, nI_leI, nI_eq, Nat.reduceEqDiff, Nat.reduceMul, Nat.reduceSub, not_false_eq_true, not_true_eq_false, or_true, true_or, or_false, false_or, eq_self, Nat.zero_add, Nat.add_zero]
      exact bad True (fun z => n z.2)
  · simp (disch := omega) only [w88_0, w88_1, w88_2, w88_4, w88_7, w88_10, w88_11, w88_12, w88_13, w88_16, w88_20, w88_23, w88_24, w88_25, w88_28, w88_29, w88_32, w88_35, w88_36, w88_37, w88_40, ma_kV_ap, ma_kC_s, ma_kC_n, ma_kH_ap, ma_gf_ap, ma_pf_ap, ma_cv_ap, ma_nt_0, ma_nt_s, ma_if_t, ma_if_f, ma_set_s, ma_set_ss, ma_set_2, ma_cat_n, ma_cat_i, ma_cat_l, ma_cat_r, ma_clr_n, ma_clr_i, ma_clr_l, ma_clr_r, ma_clr_0, ma_rf_s, ma_rf_n, ma_ial_ap, ma_ias_ap, List.set_cons_zero, List.set_cons_succ, List.length_cons, List.length_nil, Nat.reduceAdd, Nat.reduceLT, Nat.reduceLeDiff, Nat.le_refl, true_and, and_true, Nat.lt_add_one, fa_lit, nI_add, pk_mul, pk_sub, pk_div, ma_rem_n, nI_ltI, nI_leI, nI_eq, Nat.reduceEqDiff, Nat.reduceMul, Nat.reduceSub, not_false_eq_true, not_true_eq_false, or_true, true_or, or_false, false_or, eq_self, Nat.zero_add, Nat.add_zero]
    exact bad True (fun z => n z.1)
noncomputable def vW (t : ga_T) : Int32 := match gE t with | none => -nI 1 | some m => nI (gwon (git m t))
noncomputable def vL (t : ga_T) : Int32 := match gE t with | none => -nI 1 | some m => nI m
theorem c_won (hO : sOK g i0 i1 tx) (hP : cP H g i0 i1 tx ab bl c0 c1 c2)
    (h1 : ∀ H', cP H' g i0 i1 tx ab bl c0 c1 c2 → cF H H' → Q (some (.int (vW g.1))) H') : ma_MW (d + 8) 89 [.ref 4] H Q := by
  have h4 := cP_4 hP
  have h5 := cP_5 hP
  have h6 := cP_6 hP
  have hmv := hO.1.2.1
  obtain ⟨⟨bc, bm, hTr⟩, f32, e32⟩ := hP.2.2.2.2.1
  have h29 := hTr.1
  have fin : ∀ x y, cP (ma_set (ma_set H 31 (tabC x)) 30 (tabC y)) g i0 i1 tx ab bl c0 c1 c2 ∧ cF H (ma_set (ma_set H 31 (tabC x)) 30 (tabC y)) := fun x y => by
    have f : fr H (ma_set (ma_set H 31 (tabC x)) 30 (tabC y)) 29 33 := fr_set' (fr_set _ _ (by omega) (by omega)) (by omega) (by omega)
    exact ⟨cP_tr hP (trA_31 hP.2.2.2.2.1) f, cF_fr f (by omega) (by omega)⟩
  rw [e89]
  simp (disch := omega) only [w89_0, w89_1, w89_4, w89_5, w89_8, w89_11, w89_14, ma_kV_ap, ma_kC_s, ma_kC_n, ma_kH_ap, ma_gf_ap, ma_pf_ap, ma_cv_ap, ma_nt_0, ma_nt_s, ma_if_t, ma_if_f, ma_set_s, ma_set_ss, ma_set_2, ma_cat_n, ma_cat_i, ma_cat_l, ma_cat_r, ma_clr_n, ma_clr_i, ma_clr_l, ma_clr_r, ma_clr_0, ma_rf_s, ma_rf_n, ma_ial_ap, ma_ias_ap, List.set_cons_zero, List.set_cons_succ, List.length_cons, List.length_nil, Nat.reduceAdd, Nat.reduceLT, Nat.reduceLeDiff, Nat.le_refl, true_and, and_true, Nat.lt_add_one, tab_cv, tab_g0, tab_g2, trC, h4, h5, h29]
  refine t_winner hO.1.1 (by omega) hTr (by omega) (by omega) h6 (fun m x y hm hf => ?_) (fun hn x y => ?_)
  · have e : vW g.1 = nI (gwon (git m g.1)) := by unfold vW; rw [gE_some hm hf]
    rw [e] at h1
    simp (disch := omega) only [w89_0, w89_1, w89_4, w89_5, w89_8, w89_11, w89_14, ma_kC_s]
    exact h1 _ (fin x y).1 (fin x y).2
  · have e : vW g.1 = -nI 1 := by unfold vW; rw [gE_none hn]
    rw [e] at h1
    simp (disch := omega) only [w89_0, w89_1, w89_4, w89_5, w89_8, w89_11, w89_14, ma_kC_s]
    exact h1 _ (fin x y).1 (fin x y).2
theorem c_lasts (hO : sOK g i0 i1 tx) (hP : cP H g i0 i1 tx ab bl c0 c1 c2)
    (h1 : ∀ H', cP H' g i0 i1 tx ab bl c0 c1 c2 → cF H H' → Q (some (.int (vL g.1))) H') : ma_MW (d + 8) 90 [.ref 4] H Q := by
  have h4 := cP_4 hP
  have h5 := cP_5 hP
  have h6 := cP_6 hP
  have hmv := hO.1.2.1
  obtain ⟨⟨bc, bm, hTr⟩, f32, e32⟩ := hP.2.2.2.2.1
  have h29 := hTr.1
  have fin : ∀ x y, cP (ma_set (ma_set H 31 (tabC x)) 30 (tabC y)) g i0 i1 tx ab bl c0 c1 c2 ∧ cF H (ma_set (ma_set H 31 (tabC x)) 30 (tabC y)) := fun x y => by
    have f : fr H (ma_set (ma_set H 31 (tabC x)) 30 (tabC y)) 29 33 := fr_set' (fr_set _ _ (by omega) (by omega)) (by omega) (by omega)
    exact ⟨cP_tr hP (trA_31 hP.2.2.2.2.1) f, cF_fr f (by omega) (by omega)⟩
  rw [e90]
  simp (disch := omega) only [w90_0, w90_1, w90_4, w90_5, w90_8, w90_11, w90_14, ma_kV_ap, ma_kC_s, ma_kC_n, ma_kH_ap, ma_gf_ap, ma_pf_ap, ma_cv_ap, ma_nt_0, ma_nt_s, ma_if_t, ma_if_f, ma_set_s, ma_set_ss, ma_set_2, ma_cat_n, ma_cat_i, ma_cat_l, ma_cat_r, ma_clr_n, ma_clr_i, ma_clr_l, ma_clr_r, ma_clr_0, ma_rf_s, ma_rf_n, ma_ial_ap, ma_ias_ap, List.set_cons_zero, List.set_cons_succ, List.length_cons, List.length_nil, Nat.reduceAdd, Nat.reduceLT, Nat.reduceLeDiff, Nat.le_refl, true_and, and_true, Nat.lt_add_one, tab_cv, tab_g0, tab_g2, trC, h4, h5, h29]
  refine t_length hO.1.1 (by omega) hTr (by omega) (by omega) h6 (fun m x y hm hf => ?_) (fun hn x y => ?_)
  · have e : vL g.1 = nI m := by unfold vL; rw [gE_some hm hf]
    rw [e] at h1
    simp (disch := omega) only [w90_0, w90_1, w90_4, w90_5, w90_8, w90_11, w90_14, ma_kC_s]
    exact h1 _ (fin x y).1 (fin x y).2
  · have e : vL g.1 = -nI 1 := by unfold vL; rw [gE_none hn]
    rw [e] at h1
    simp (disch := omega) only [w90_0, w90_1, w90_4, w90_5, w90_8, w90_11, w90_14, ma_kC_s]
    exact h1 _ (fin x y).1 (fin x y).2
noncomputable def vF (t : ga_T) (w : Nat) : Int32 := by classical exact if h : ∃ m, m ≤ 200 ∧ gft t m then nI (if w = 1 then gtu (git h.choose t) else h.choose) else -nI 1
theorem vF_some {t : ga_T} {w m : Nat} (hm : m ≤ 200) (hf : gft t m) : vF t w = nI (if w = 1 then gtu (git m t) else m) := by
  unfold vF
  have h : ∃ m, m ≤ 200 ∧ gft t m := ⟨m, hm, hf⟩
  rw [dif_pos h, gft_uniq h.choose_spec.2 hf]
theorem vF_none {t : ga_T} {w : Nat} (h : ∀ m, m ≤ 200 → ¬ gft t m) : vF t w = -nI 1 := by
  unfold vF; rw [dif_neg (fun ⟨m, a, b⟩ => h m a b)]
theorem c_first {w : Int32} (hO : sOK g i0 i1 tx) (hP : cP H g i0 i1 tx ab bl c0 c1 c2)
    (hb : ¬ inR w 0 1 → ∀ H', cP H' g i0 i1 tx ab bl (c0 + nI 1) c1 c2 → cF H H' → Q (some (.int (-nI 2))) H')
    (h1 : ∀ b, b < 2 → w = nI b → ∀ H', cP H' g i0 i1 tx ab bl c0 c1 c2 → cF H H' → Q (some (.int (vF g.1 b))) H') : ma_MW (d + 8) 91 [.ref 4, .int w] H Q := by
  have h4 := cP_4 hP
  have h5 := cP_5 hP
  have h6 := cP_6 hP
  have hmv := hO.1.2.1
  obtain ⟨⟨bc, bm, hTr⟩, f32, e32⟩ := hP.2.2.2.2.1
  have h29 := hTr.1
  have fin : ∀ y, cP (ma_set H 30 (tabC y)) g i0 i1 tx ab bl c0 c1 c2 ∧ cF H (ma_set H 30 (tabC y)) := fun y => by
    have f : fr H (ma_set H 30 (tabC y)) 29 33 := fr_set _ _ (by omega) (by omega)
    exact ⟨cP_tr hP (trA_30 hP.2.2.2.2.1) f, cF_fr f (by omega) (by omega)⟩
  rw [e91]
  simp (disch := omega) only [w91_0, w91_1, w91_2, w91_3, w91_6, w91_9, w91_10, w91_13, w91_14, w91_15, w91_18, w91_19, w91_22, w91_25, w91_26, w91_27, w91_30, w91_31, w91_34, w91_35, w91_38, ma_kV_ap, ma_kC_s, ma_kC_n, ma_kH_ap, ma_gf_ap, ma_pf_ap, ma_cv_ap, ma_nt_0, ma_nt_s, ma_if_t, ma_if_f, ma_set_s, ma_set_ss, ma_set_2, ma_cat_n, ma_cat_i, ma_cat_l, ma_cat_r, ma_clr_n, ma_clr_i, ma_clr_l, ma_clr_r, ma_clr_0, ma_rf_s, ma_rf_n, ma_ial_ap, ma_ias_ap, List.set_cons_zero, List.set_cons_succ, List.length_cons, List.length_nil, Nat.reduceAdd, Nat.reduceLT, Nat.reduceLeDiff, Nat.le_refl, true_and, and_true, Nat.lt_add_one, fa_lit]
  refine b_in (by decide) (by decide) (fun b _ b2 eb => ?_) (fun n => ?_)
  · subst eb
    rcases (show b = 0 ∨ b = 1 by omega) with rfl | rfl
    · simp (disch := omega) only [w91_0, w91_1, w91_2, w91_3, w91_6, w91_9, w91_10, w91_13, w91_14, w91_15, w91_18, w91_19, w91_22, w91_25, w91_26, w91_27, w91_30, w91_31, w91_34, w91_35, w91_38, ma_kV_ap, ma_kC_s, ma_kC_n, ma_kH_ap, ma_gf_ap, ma_pf_ap, ma_cv_ap, ma_nt_0, ma_nt_s, ma_if_t, ma_if_f, ma_set_s, ma_set_ss, ma_set_2, ma_cat_n, ma_cat_i, ma_cat_l, ma_cat_r, ma_clr_n, ma_clr_i, ma_clr_l, ma_clr_r, ma_clr_0, ma_rf_s, ma_rf_n, ma_ial_ap, ma_ias_ap, List.set_cons_zero, List.set_cons_succ, List.length_cons, List.length_nil, Nat.reduceAdd, Nat.reduceLT, Nat.reduceLeDiff, Nat.le_refl, true_and, and_true, Nat.lt_add_one, fa_lit, nI_add, pk_mul, pk_sub, pk_div, ma_rem_n, nI_ltI, nI_leI, nI_eq, Nat.reduceEqDiff, Nat.reduceMul, Nat.reduceSub, not_false_eq_true, not_true_eq_false, or_true, true_or, or_false, false_or, eq_self, Nat.zero_add, Nat.add_zero, tab_cv, tab_g0, tab_g2, trC, h4, h5, h29]
      refine k_first (w := false) hO.1.1 (by omega) hTr (by omega) h6 (fun m y hm hf => ?_) (fun y hn => ?_)
      · have hq := h1 0 (by decide) rfl _ (fin y).1 (fin y).2
        rw [vF_some hm hf] at hq
        simp (disch := omega) only [w91_0, w91_1, w91_2, w91_3, w91_6, w91_9, w91_10, w91_13, w91_14, w91_15, w91_18, w91_19, w91_22, w91_25, w91_26, w91_27, w91_30, w91_31, w91_34, w91_35, w91_38, ma_kC_s]
        exact hq
      · have hq := h1 0 (by decide) rfl _ (fin y).1 (fin y).2
        rw [vF_none hn] at hq
        simp (disch := omega) only [w91_0, w91_1, w91_2, w91_3, w91_6, w91_9, w91_10, w91_13, w91_14, w91_15, w91_18, w91_19, w91_22, w91_25, w91_26, w91_27, w91_30, w91_31, w91_34, w91_35, w91_38, ma_kC_s]
        exact hq
    · simp (disch := omega) only [w91_0, w91_1, w91_2, w91_3, w91_6, w91_9, w91_10, w91_13, w91_14, w91_15, w91_18, w91_19, w91_22, w91_25, w91_26, w91_27, w91_30, w91_31, w91_34, w91_35, w91_38, ma_kV_ap, ma_kC_s, ma_kC_n, ma_kH_ap, ma_gf_ap, ma_pf_ap, ma_cv_ap, ma_nt_0, ma_nt_s, ma_if_t, ma_if_f, ma_set_s, ma_set_ss, ma_set_2, ma_cat_n, ma_cat_i, ma_cat_l, ma_cat_r, ma_clr_n, ma_clr_i, ma_clr_l, ma_clr_r, ma_clr_0, ma_rf_s, ma_rf_n, ma_ial_ap, ma_ias_ap, List.set_cons_zero, List.set_cons_succ, List.length_cons, List.length_nil, Nat.reduceAdd, Nat.reduceLT, Nat.reduceLeDiff, Nat.le_refl, true_and, and_true, Nat.lt_add_one, fa_lit, nI_add, pk_mul, pk_sub, pk_div, ma_rem_n, nI_ltI, nI_leI, nI_eq, Nat.reduceEqDiff, Nat.reduceMul, Nat.reduceSub, not_false_eq_true, not_true_eq_false, or_true, true_or, or_false, false_or, eq_self, Nat.zero_add, Nat.add_zero, tab_cv, tab_g0, tab_g2, trC, h4, h5, h29]
      refine k_first (w := true) hO.1.1 (by omega) hTr (by omega) h6 (fun m y hm hf => ?_) (fun y hn => ?_)
      · have hq := h1 1 (by decide) rfl _ (fin y).1 (fin y).2
        rw [vF_some hm hf] at hq
        simp (disch := omega) only [w91_0, w91_1, w91_2, w91_3, w91_6, w91_9, w91_10, w91_13, w91_14, w91_15, w91_18, w91_19, w91_22, w91_25, w91_26, w91_27, w91_30, w91_31, w91_34, w91_35, w91_38, ma_kC_s]
        exact hq
      · have hq := h1 1 (by decide) rfl _ (fin y).1 (fin y).2
        rw [vF_none hn] at hq
        simp (disch := omega) only [w91_0, w91_1, w91_2, w91_3, w91_6, w91_9, w91_10, w91_13, w91_14, w91_15, w91_18, w91_19, w91_22, w91_25, w91_26, w91_27, w91_30, w91_31, w91_34, w91_35, w91_38, ma_kC_s]
        exact hq
  · simp (disch := omega) only [w91_0, w91_1, w91_2, w91_3, w91_6, w91_9, w91_10, w91_13, w91_14, w91_15, w91_18, w91_19, w91_22, w91_25, w91_26, w91_27, w91_30, w91_31, w91_34, w91_35, w91_38, ma_kV_ap, ma_kC_s, ma_kC_n, ma_kH_ap, ma_gf_ap, ma_pf_ap, ma_cv_ap, ma_nt_0, ma_nt_s, ma_if_t, ma_if_f, ma_set_s, ma_set_ss, ma_set_2, ma_cat_n, ma_cat_i, ma_cat_l, ma_cat_r, ma_clr_n, ma_clr_i, ma_clr_l, ma_clr_r, ma_clr_0, ma_rf_s, ma_rf_n, ma_ial_ap, ma_ias_ap, List.set_cons_zero, List.set_cons_succ, List.length_cons, List.length_nil, Nat.reduceAdd, Nat.reduceLT, Nat.reduceLeDiff, Nat.le_refl, true_and, and_true, Nat.lt_add_one, fa_lit, nI_add, pk_mul, pk_sub, pk_div, ma_rem_n, nI_ltI, nI_leI, nI_eq, Nat.reduceEqDiff, Nat.reduceMul, Nat.reduceSub, not_false_eq_true, not_true_eq_false, or_true, true_or, or_false, false_or, eq_self, Nat.zero_add, Nat.add_zero, h4]
    refine b_bad hP (fun H' p f => ?_)
    simp (disch := omega) only [w91_0, w91_1, w91_2, w91_3, w91_6, w91_9, w91_10, w91_13, w91_14, w91_15, w91_18, w91_19, w91_22, w91_25, w91_26, w91_27, w91_30, w91_31, w91_34, w91_35, w91_38, ma_kV_ap, ma_kC_s, ma_kC_n, ma_kH_ap, ma_gf_ap, ma_pf_ap, ma_cv_ap, ma_nt_0, ma_nt_s, ma_if_t, ma_if_f, ma_set_s, ma_set_ss, ma_set_2, ma_cat_n, ma_cat_i, ma_cat_l, ma_cat_r, ma_clr_n, ma_clr_i, ma_clr_l, ma_clr_r, ma_clr_0, ma_rf_s, ma_rf_n, ma_ial_ap, ma_ias_ap, List.set_cons_zero, List.set_cons_succ, List.length_cons, List.length_nil, Nat.reduceAdd, Nat.reduceLT, Nat.reduceLeDiff, Nat.le_refl, true_and, and_true, Nat.lt_add_one]
    exact hb n H' p f
noncomputable def vA (t : ga_T) : Int32 := by classical exact if h : ∃ m, m ≤ 500 ∧ gag t m then nI h.choose else -nI 1
theorem vA_some {t : ga_T} {m : Nat} (hm : m ≤ 500) (hf : gag t m) : vA t = nI m := by
  unfold vA
  have h : ∃ m, m ≤ 500 ∧ gag t m := ⟨m, hm, hf⟩
  rw [dif_pos h, gag_uniq h.choose_spec.2 hf]
theorem vA_none {t : ga_T} (h : ∀ m, m ≤ 500 → ¬ gag t m) : vA t = -nI 1 := by
  unfold vA; rw [dif_neg (fun ⟨m, a, b⟩ => h m a b)]
theorem c_again (hO : sOK g i0 i1 tx) (hP : cP H g i0 i1 tx ab bl c0 c1 c2)
    (h1 : ∀ H', cP H' g i0 i1 tx ab bl c0 c1 c2 → cF H H' → Q (some (.int (vA g.1))) H') : ma_MW (d + 8) 92 [.ref 4] H Q := by
  have h4 := cP_4 hP
  have h5 := cP_5 hP
  have h6 := cP_6 hP
  have hmv := hO.1.2.1
  obtain ⟨⟨bc, bm, hTr⟩, f32, e32⟩ := hP.2.2.2.2.1
  have h29 := hTr.1
  have fin : ∀ y, cP (ma_set H 30 (tabC y)) g i0 i1 tx ab bl c0 c1 c2 ∧ cF H (ma_set H 30 (tabC y)) := fun y => by
    have f : fr H (ma_set H 30 (tabC y)) 29 33 := fr_set _ _ (by omega) (by omega)
    exact ⟨cP_tr hP (trA_30 hP.2.2.2.2.1) f, cF_fr f (by omega) (by omega)⟩
  rw [e92]
  simp (disch := omega) only [w92_0, w92_1, w92_4, w92_5, w92_8, w92_11, w92_14, ma_kV_ap, ma_kC_s, ma_kC_n, ma_kH_ap, ma_gf_ap, ma_pf_ap, ma_cv_ap, ma_nt_0, ma_nt_s, ma_if_t, ma_if_f, ma_set_s, ma_set_ss, ma_set_2, ma_cat_n, ma_cat_i, ma_cat_l, ma_cat_r, ma_clr_n, ma_clr_i, ma_clr_l, ma_clr_r, ma_clr_0, ma_rf_s, ma_rf_n, ma_ial_ap, ma_ias_ap, List.set_cons_zero, List.set_cons_succ, List.length_cons, List.length_nil, Nat.reduceAdd, Nat.reduceLT, Nat.reduceLeDiff, Nat.le_refl, true_and, and_true, Nat.lt_add_one, tab_cv, tab_g0, tab_g2, trC, h4, h5, h29]
  refine k_round hO.1.1 (by omega) hTr (by omega) h6 (fun m y hm hf => ?_) (fun y hn => ?_)
  · rw [vA_some hm hf] at h1
    simp (disch := omega) only [w92_0, w92_1, w92_4, w92_5, w92_8, w92_11, w92_14, ma_kC_s]
    exact h1 _ (fin y).1 (fin y).2
  · rw [vA_none hn] at h1
    simp (disch := omega) only [w92_0, w92_1, w92_4, w92_5, w92_8, w92_11, w92_14, ma_kC_s]
    exact h1 _ (fin y).1 (fin y).2
theorem c_exchange {p w : Int32} (hO : sOK g i0 i1 tx) (hP : cP H g i0 i1 tx ab bl c0 c1 c2)
    (hb : ¬ (inR p 0 1 ∧ inR w 0 1) → ∀ H', cP H' g i0 i1 tx ab bl (c0 + nI 1) c1 c2 → cF H H' → Q (some (.int (-nI 2))) H')
    (h1 : ∀ a b, a < 2 → b < 2 → p = nI a → w = nI b → ∀ H', cP H' g i0 i1 tx ab bl c0 c1 c2 → cF H H' → Q (some (.int (if b = 0 then vC (gxf a g.1 1600) else vM (gxf a g.1 1600)))) H') : ma_MW (d + 9) 93 [.ref 4, .int p, .int w] H Q := by
  have h4 := cP_4 hP
  have h5 := cP_5 hP
  have h6 := cP_6 hP
  have hmv := hO.1.2.1
  obtain ⟨⟨bc, bm, hTr⟩, f32, e32⟩ := hP.2.2.2.2.1
  have h29 := hTr.1
  have bad : ∀ P : Prop, ¬ (inR p 0 1 ∧ inR w 0 1) → ma_W (d + 8) 93 Q 16 [some (.ref 4), some (.int p), some (.int w)] [] H 0 0 := by
    intro _ hn
    simp (disch := omega) only [w93_0, w93_1, w93_4, w93_7, w93_8, w93_9, w93_10, w93_13, w93_16, w93_17, w93_20, w93_21, w93_22, w93_25, w93_26, w93_29, w93_32, w93_33, w93_36, w93_37, w93_40, w93_41, w93_44, w93_47, w93_50, w93_51, w93_54, w93_57, ma_kV_ap, ma_kC_s, ma_kC_n, ma_kH_ap, ma_gf_ap, ma_pf_ap, ma_cv_ap, ma_nt_0, ma_nt_s, ma_if_t, ma_if_f, ma_set_s, ma_set_ss, ma_set_2, ma_cat_n, ma_cat_i, ma_cat_l, ma_cat_r, ma_clr_n, ma_clr_i, ma_clr_l, ma_clr_r, ma_clr_0, ma_rf_s, ma_rf_n, ma_ial_ap, ma_ias_ap, List.set_cons_zero, List.set_cons_succ, List.length_cons, List.length_nil, Nat.reduceAdd, Nat.reduceLT, Nat.reduceLeDiff, Nat.le_refl, true_and, and_true, Nat.lt_add_one, h4]
    refine b_bad hP (fun H' p f => ?_)
    simp (disch := omega) only [w93_0, w93_1, w93_4, w93_7, w93_8, w93_9, w93_10, w93_13, w93_16, w93_17, w93_20, w93_21, w93_22, w93_25, w93_26, w93_29, w93_32, w93_33, w93_36, w93_37, w93_40, w93_41, w93_44, w93_47, w93_50, w93_51, w93_54, w93_57, ma_kV_ap, ma_kC_s, ma_kC_n, ma_kH_ap, ma_gf_ap, ma_pf_ap, ma_cv_ap, ma_nt_0, ma_nt_s, ma_if_t, ma_if_f, ma_set_s, ma_set_ss, ma_set_2, ma_cat_n, ma_cat_i, ma_cat_l, ma_cat_r, ma_clr_n, ma_clr_i, ma_clr_l, ma_clr_r, ma_clr_0, ma_rf_s, ma_rf_n, ma_ial_ap, ma_ias_ap, List.set_cons_zero, List.set_cons_succ, List.length_cons, List.length_nil, Nat.reduceAdd, Nat.reduceLT, Nat.reduceLeDiff, Nat.le_refl, true_and, and_true, Nat.lt_add_one]
    exact hb hn H' p f
  rw [e93]
  simp (disch := omega) only [w93_0, w93_1, w93_4, w93_7, w93_8, w93_9, w93_10, w93_13, w93_16, w93_17, w93_20, w93_21, w93_22, w93_25, w93_26, w93_29, w93_32, w93_33, w93_36, w93_37, w93_40, w93_41, w93_44, w93_47, w93_50, w93_51, w93_54, w93_57, ma_kV_ap, ma_kC_s, ma_kC_n, ma_kH_ap, ma_gf_ap, ma_pf_ap, ma_cv_ap, ma_nt_0, ma_nt_s, ma_if_t, ma_if_f, ma_set_s, ma_set_ss, ma_set_2, ma_cat_n, ma_cat_i, ma_cat_l, ma_cat_r, ma_clr_n, ma_clr_i, ma_clr_l, ma_clr_r, ma_clr_0, ma_rf_s, ma_rf_n, ma_ial_ap, ma_ias_ap, List.set_cons_zero, List.set_cons_succ, List.length_cons, List.length_nil, Nat.reduceAdd, Nat.reduceLT, Nat.reduceLeDiff, Nat.le_refl, true_and, and_true, Nat.lt_add_one]
  refine b_isPlayer (fun a a2 ea => ?_) (fun n => ?_)
  · simp (disch := omega) only [w93_0, w93_1, w93_4, w93_7, w93_8, w93_9, w93_10, w93_13, w93_16, w93_17, w93_20, w93_21, w93_22, w93_25, w93_26, w93_29, w93_32, w93_33, w93_36, w93_37, w93_40, w93_41, w93_44, w93_47, w93_50, w93_51, w93_54, w93_57, ma_kV_ap, ma_kC_s, ma_kC_n, ma_kH_ap, ma_gf_ap, ma_pf_ap, ma_cv_ap, ma_nt_0, ma_nt_s, ma_if_t, ma_if_f, ma_set_s, ma_set_ss, ma_set_2, ma_cat_n, ma_cat_i, ma_cat_l, ma_cat_r, ma_clr_n, ma_clr_i, ma_clr_l, ma_clr_r, ma_clr_0, ma_rf_s, ma_rf_n, ma_ial_ap, ma_ias_ap, List.set_cons_zero, List.set_cons_succ, List.length_cons, List.length_nil, Nat.reduceAdd, Nat.reduceLT, Nat.reduceLeDiff, Nat.le_refl, true_and, and_true, Nat.lt_add_one, fa_lit, nI_add, pk_mul, pk_sub, pk_div, ma_rem_n, nI_ltI, nI_leI, nI_eq, Nat.reduceEqDiff, Nat.reduceMul, Nat.reduceSub, not_false_eq_true, not_true_eq_false, or_true, true_or, or_false, false_or, eq_self, Nat.zero_add, Nat.add_zero]
    refine b_in (by decide) (by decide) (fun b _ b2 eb => ?_) (fun n => ?_)
    · subst ea eb
      simp (disch := omega) only [w93_0, w93_1, w93_4, w93_7, w93_8, w93_9, w93_10, w93_13, w93_16, w93_17, w93_20, w93_21, w93_22, w93_25, w93_26, w93_29, w93_32, w93_33, w93_36, w93_37, w93_40, w93_41, w93_44, w93_47, w93_50, w93_51, w93_54, w93_57, ma_kV_ap, ma_kC_s, ma_kC_n, ma_kH_ap, ma_gf_ap, ma_pf_ap, ma_cv_ap, ma_nt_0, ma_nt_s, ma_if_t, ma_if_f, ma_set_s, ma_set_ss, ma_set_2, ma_cat_n, ma_cat_i, ma_cat_l, ma_cat_r, ma_clr_n, ma_clr_i, ma_clr_l, ma_clr_r, ma_clr_0, ma_rf_s, ma_rf_n, ma_ial_ap, ma_ias_ap, List.set_cons_zero, List.set_cons_succ, List.length_cons, List.length_nil, Nat.reduceAdd, Nat.reduceLT, Nat.reduceLeDiff, Nat.le_refl, true_and, and_true, Nat.lt_add_one, fa_lit, nI_add, pk_mul, pk_sub, pk_div, ma_rem_n, nI_ltI, nI_leI, nI_eq, Nat.reduceEqDiff, Nat.reduceMul, Nat.reduceSub, not_false_eq_true, not_true_eq_false, or_true, true_or, or_false, false_or, eq_self, Nat.zero_add, Nat.add_zero, tab_cv, tab_g0, tab_g2, trC, h4, h5, h29]
      refine k_seekExchange a2 hO.1.1 (by omega) (by omega) h6 hTr (fun H' y q f => ?_)
      have P1 := cP_tr hP (trA_T hP.2.2.2.2.1 q f) (fr_mono f (by omega) (by omega))
      have hq := h1 a b a2 (by omega) rfl rfl H' P1 (cF_fr f (by omega) (by omega))
      have h4 := cP_4 P1
      have h29 := q.1
      rcases (show b = 0 ∨ b = 1 by omega) with rfl | rfl
      · simp (disch := omega) only [w93_0, w93_1, w93_4, w93_7, w93_8, w93_9, w93_10, w93_13, w93_16, w93_17, w93_20, w93_21, w93_22, w93_25, w93_26, w93_29, w93_32, w93_33, w93_36, w93_37, w93_40, w93_41, w93_44, w93_47, w93_50, w93_51, w93_54, w93_57, ma_kV_ap, ma_kC_s, ma_kC_n, ma_kH_ap, ma_gf_ap, ma_pf_ap, ma_cv_ap, ma_nt_0, ma_nt_s, ma_if_t, ma_if_f, ma_set_s, ma_set_ss, ma_set_2, ma_cat_n, ma_cat_i, ma_cat_l, ma_cat_r, ma_clr_n, ma_clr_i, ma_clr_l, ma_clr_r, ma_clr_0, ma_rf_s, ma_rf_n, ma_ial_ap, ma_ias_ap, List.set_cons_zero, List.set_cons_succ, List.length_cons, List.length_nil, Nat.reduceAdd, Nat.reduceLT, Nat.reduceLeDiff, Nat.le_refl, true_and, and_true, Nat.lt_add_one, fa_lit, nI_add, pk_mul, pk_sub, pk_div, ma_rem_n, nI_ltI, nI_leI, nI_eq, Nat.reduceEqDiff, Nat.reduceMul, Nat.reduceSub, not_false_eq_true, not_true_eq_false, or_true, true_or, or_false, false_or, eq_self, Nat.zero_add, Nat.add_zero, tab_cv, tab_g0, tab_g2, trC, h4, h29]
        exact hq
      · simp (disch := omega) only [w93_0, w93_1, w93_4, w93_7, w93_8, w93_9, w93_10, w93_13, w93_16, w93_17, w93_20, w93_21, w93_22, w93_25, w93_26, w93_29, w93_32, w93_33, w93_36, w93_37, w93_40, w93_41, w93_44, w93_47, w93_50, w93_51, w93_54, w93_57, ma_kV_ap, ma_kC_s, ma_kC_n, ma_kH_ap, ma_gf_ap, ma_pf_ap, ma_cv_ap, ma_nt_0, ma_nt_s, ma_if_t, ma_if_f, ma_set_s, ma_set_ss, ma_set_2, ma_cat_n, ma_cat_i, ma_cat_l, ma_cat_r, ma_clr_n, ma_clr_i, ma_clr_l, ma_clr_r, ma_clr_0, ma_rf_s, ma_rf_n, ma_ial_ap, ma_ias_ap, List.set_cons_zero, List.set_cons_succ, List.length_cons, List.length_nil, Nat.reduceAdd, Nat.reduceLT, Nat.reduceLeDiff, Nat.le_refl, true_and, and_true, Nat.lt_add_one, fa_lit, nI_add, pk_mul, pk_sub, pk_div, ma_rem_n, nI_ltI, nI_leI, nI_eq, Nat.reduceEqDiff, Nat.reduceMul, Nat.reduceSub, not_false_eq_true, not_true_eq_false, or_true, true_or, or_false, false_or, eq_self, Nat.zero_add, Nat.add_zero, tab_cv, tab_g0, tab_g2, trC, h4, h29]
        exact hq
    · simp (disch := omega) only [w93_0, w93_1, w93_4, w93_7, w93_8, w93_9, w93_10, w93_13, w93_17, w93_20, w93_21, w93_22, w93_25, w93_26, w93_29, w93_32, w93_33, w93_36, w93_37, w93_40, w93_41, w93_44, w93_47, w93_50, w93_51, w93_54, w93_57, ma_kV_ap, ma_kC_s, ma_kC_n, ma_kH_ap, ma_gf_ap, ma_pf_ap, ma_cv_ap, ma_nt_0, ma_nt_s, ma_if_t, ma_if_f, ma_set_s, ma_set_ss, ma_set_2, ma_cat_n, ma_cat_i, ma_cat_l, ma_cat_r, ma_clr_n, ma_clr_i, ma_clr_l, ma_clr_r, ma_clr_0, ma_rf_s, ma_rf_n, ma_ial_ap, ma_ias_ap, List.set_cons_zero, List.set_cons_succ, List.length_cons, List.length_nil, Nat.reduceAdd, Nat.reduceLT, Nat.reduceLeDiff, Nat.le_refl, true_and, and_true, Nat.lt_add_one, fa_lit, nI_add, pk_mul, pk_sub, pk_div, ma_rem_n, nI_ltI, nI_leI, nI_eq, Nat.reduceEqDiff, Nat.reduceMul, Nat.reduceSub, not_false_eq_true, not_true_eq_false, or_true, true_or, or_false, false_or, eq_self, Nat.zero_add, Nat.add_zero]
      exact bad True (fun z => n z.2)
  · simp (disch := omega) only [w93_0, w93_1, w93_4, w93_7, w93_8, w93_9, w93_10, w93_13, w93_17, w93_20, w93_21, w93_22, w93_25, w93_26, w93_29, w93_32, w93_33, w93_36, w93_37, w93_40, w93_41, w93_44, w93_47, w93_50, w93_51, w93_54, w93_57, ma_kV_ap, ma_kC_s, ma_kC_n, ma_kH_ap, ma_gf_ap, ma_pf_ap, ma_cv_ap, ma_nt_0, ma_nt_s, ma_if_t, ma_if_f, ma_set_s, ma_set_ss, ma_set_2, ma_cat_n, ma_cat_i, ma_cat_l, ma_cat_r, ma_clr_n, ma_clr_i, ma_clr_l, ma_clr_r, ma_clr_0, ma_rf_s, ma_rf_n, ma_ial_ap, ma_ias_ap, List.set_cons_zero, List.set_cons_succ, List.length_cons, List.length_nil, Nat.reduceAdd, Nat.reduceLT, Nat.reduceLeDiff, Nat.le_refl, true_and, and_true, Nat.lt_add_one, fa_lit, nI_add, pk_mul, pk_sub, pk_div, ma_rem_n, nI_ltI, nI_leI, nI_eq, Nat.reduceEqDiff, Nat.reduceMul, Nat.reduceSub, not_false_eq_true, not_true_eq_false, or_true, true_or, or_false, false_or, eq_self, Nat.zero_add, Nat.add_zero]
    exact bad True (fun z => n z.1)
theorem c_cut {p w : Int32} (hO : sOK g i0 i1 tx) (hP : cP H g i0 i1 tx ab bl c0 c1 c2)
    (hb : ¬ (inR p 0 1 ∧ inR w 0 1) → ∀ H', cP H' g i0 i1 tx ab bl (c0 + nI 1) c1 c2 → cF H H' → Q (some (.int (-nI 2))) H')
    (h1 : ∀ a b, a < 2 → b < 2 → p = nI a → w = nI b → ∀ H', cP H' g i0 i1 tx ab bl c0 c1 c2 → cF H H' → Q (some (.int (if b = 0 then vC (gcf a g.1 (ghand g.1 a).length) else vM (gcf a g.1 (ghand g.1 a).length)))) H') : ma_MW (d + 9) 94 [.ref 4, .int p, .int w] H Q := by
  have h4 := cP_4 hP
  have h5 := cP_5 hP
  have h6 := cP_6 hP
  have hmv := hO.1.2.1
  obtain ⟨⟨bc, bm, hTr⟩, f32, e32⟩ := hP.2.2.2.2.1
  have h29 := hTr.1
  have bad : ∀ P : Prop, ¬ (inR p 0 1 ∧ inR w 0 1) → ma_W (d + 8) 94 Q 16 [some (.ref 4), some (.int p), some (.int w)] [] H 0 0 := by
    intro _ hn
    simp (disch := omega) only [w94_0, w94_1, w94_4, w94_7, w94_8, w94_9, w94_10, w94_13, w94_16, w94_17, w94_20, w94_21, w94_22, w94_25, w94_26, w94_29, w94_32, w94_33, w94_36, w94_37, w94_40, w94_41, w94_44, w94_47, w94_50, w94_51, w94_54, w94_57, ma_kV_ap, ma_kC_s, ma_kC_n, ma_kH_ap, ma_gf_ap, ma_pf_ap, ma_cv_ap, ma_nt_0, ma_nt_s, ma_if_t, ma_if_f, ma_set_s, ma_set_ss, ma_set_2, ma_cat_n, ma_cat_i, ma_cat_l, ma_cat_r, ma_clr_n, ma_clr_i, ma_clr_l, ma_clr_r, ma_clr_0, ma_rf_s, ma_rf_n, ma_ial_ap, ma_ias_ap, List.set_cons_zero, List.set_cons_succ, List.length_cons, List.length_nil, Nat.reduceAdd, Nat.reduceLT, Nat.reduceLeDiff, Nat.le_refl, true_and, and_true, Nat.lt_add_one, h4]
    refine b_bad hP (fun H' p f => ?_)
    simp (disch := omega) only [w94_0, w94_1, w94_4, w94_7, w94_8, w94_9, w94_10, w94_13, w94_16, w94_17, w94_20, w94_21, w94_22, w94_25, w94_26, w94_29, w94_32, w94_33, w94_36, w94_37, w94_40, w94_41, w94_44, w94_47, w94_50, w94_51, w94_54, w94_57, ma_kV_ap, ma_kC_s, ma_kC_n, ma_kH_ap, ma_gf_ap, ma_pf_ap, ma_cv_ap, ma_nt_0, ma_nt_s, ma_if_t, ma_if_f, ma_set_s, ma_set_ss, ma_set_2, ma_cat_n, ma_cat_i, ma_cat_l, ma_cat_r, ma_clr_n, ma_clr_i, ma_clr_l, ma_clr_r, ma_clr_0, ma_rf_s, ma_rf_n, ma_ial_ap, ma_ias_ap, List.set_cons_zero, List.set_cons_succ, List.length_cons, List.length_nil, Nat.reduceAdd, Nat.reduceLT, Nat.reduceLeDiff, Nat.le_refl, true_and, and_true, Nat.lt_add_one]
    exact hb hn H' p f
  rw [e94]
  simp (disch := omega) only [w94_0, w94_1, w94_4, w94_7, w94_8, w94_9, w94_10, w94_13, w94_16, w94_17, w94_20, w94_21, w94_22, w94_25, w94_26, w94_29, w94_32, w94_33, w94_36, w94_37, w94_40, w94_41, w94_44, w94_47, w94_50, w94_51, w94_54, w94_57, ma_kV_ap, ma_kC_s, ma_kC_n, ma_kH_ap, ma_gf_ap, ma_pf_ap, ma_cv_ap, ma_nt_0, ma_nt_s, ma_if_t, ma_if_f, ma_set_s, ma_set_ss, ma_set_2, ma_cat_n, ma_cat_i, ma_cat_l, ma_cat_r, ma_clr_n, ma_clr_i, ma_clr_l, ma_clr_r, ma_clr_0, ma_rf_s, ma_rf_n, ma_ial_ap, ma_ias_ap, List.set_cons_zero, List.set_cons_succ, List.length_cons, List.length_nil, Nat.reduceAdd, Nat.reduceLT, Nat.reduceLeDiff, Nat.le_refl, true_and, and_true, Nat.lt_add_one]
  refine b_isPlayer (fun a a2 ea => ?_) (fun n => ?_)
  · simp (disch := omega) only [w94_0, w94_1, w94_4, w94_7, w94_8, w94_9, w94_10, w94_13, w94_16, w94_17, w94_20, w94_21, w94_22, w94_25, w94_26, w94_29, w94_32, w94_33, w94_36, w94_37, w94_40, w94_41, w94_44, w94_47, w94_50, w94_51, w94_54, w94_57, ma_kV_ap, ma_kC_s, ma_kC_n, ma_kH_ap, ma_gf_ap, ma_pf_ap, ma_cv_ap, ma_nt_0, ma_nt_s, ma_if_t, ma_if_f, ma_set_s, ma_set_ss, ma_set_2, ma_cat_n, ma_cat_i, ma_cat_l, ma_cat_r, ma_clr_n, ma_clr_i, ma_clr_l, ma_clr_r, ma_clr_0, ma_rf_s, ma_rf_n, ma_ial_ap, ma_ias_ap, List.set_cons_zero, List.set_cons_succ, List.length_cons, List.length_nil, Nat.reduceAdd, Nat.reduceLT, Nat.reduceLeDiff, Nat.le_refl, true_and, and_true, Nat.lt_add_one, fa_lit, nI_add, pk_mul, pk_sub, pk_div, ma_rem_n, nI_ltI, nI_leI, nI_eq, Nat.reduceEqDiff, Nat.reduceMul, Nat.reduceSub, not_false_eq_true, not_true_eq_false, or_true, true_or, or_false, false_or, eq_self, Nat.zero_add, Nat.add_zero]
    refine b_in (by decide) (by decide) (fun b _ b2 eb => ?_) (fun n => ?_)
    · subst ea eb
      simp (disch := omega) only [w94_0, w94_1, w94_4, w94_7, w94_8, w94_9, w94_10, w94_13, w94_16, w94_17, w94_20, w94_21, w94_22, w94_25, w94_26, w94_29, w94_32, w94_33, w94_36, w94_37, w94_40, w94_41, w94_44, w94_47, w94_50, w94_51, w94_54, w94_57, ma_kV_ap, ma_kC_s, ma_kC_n, ma_kH_ap, ma_gf_ap, ma_pf_ap, ma_cv_ap, ma_nt_0, ma_nt_s, ma_if_t, ma_if_f, ma_set_s, ma_set_ss, ma_set_2, ma_cat_n, ma_cat_i, ma_cat_l, ma_cat_r, ma_clr_n, ma_clr_i, ma_clr_l, ma_clr_r, ma_clr_0, ma_rf_s, ma_rf_n, ma_ial_ap, ma_ias_ap, List.set_cons_zero, List.set_cons_succ, List.length_cons, List.length_nil, Nat.reduceAdd, Nat.reduceLT, Nat.reduceLeDiff, Nat.le_refl, true_and, and_true, Nat.lt_add_one, fa_lit, nI_add, pk_mul, pk_sub, pk_div, ma_rem_n, nI_ltI, nI_leI, nI_eq, Nat.reduceEqDiff, Nat.reduceMul, Nat.reduceSub, not_false_eq_true, not_true_eq_false, or_true, true_or, or_false, false_or, eq_self, Nat.zero_add, Nat.add_zero, tab_cv, tab_g0, tab_g2, trC, h4, h5, h29]
      refine k_seekCut a2 hO.1.1 (by omega) (by omega) h6 hTr (fun H' y q f => ?_)
      have P1 := cP_tr hP (trA_T hP.2.2.2.2.1 q f) (fr_mono f (by omega) (by omega))
      have hq := h1 a b a2 (by omega) rfl rfl H' P1 (cF_fr f (by omega) (by omega))
      have h4 := cP_4 P1
      have h29 := q.1
      rcases (show b = 0 ∨ b = 1 by omega) with rfl | rfl
      · simp (disch := omega) only [w94_0, w94_1, w94_4, w94_7, w94_8, w94_9, w94_10, w94_13, w94_16, w94_17, w94_20, w94_21, w94_22, w94_25, w94_26, w94_29, w94_32, w94_33, w94_36, w94_37, w94_40, w94_41, w94_44, w94_47, w94_50, w94_51, w94_54, w94_57, ma_kV_ap, ma_kC_s, ma_kC_n, ma_kH_ap, ma_gf_ap, ma_pf_ap, ma_cv_ap, ma_nt_0, ma_nt_s, ma_if_t, ma_if_f, ma_set_s, ma_set_ss, ma_set_2, ma_cat_n, ma_cat_i, ma_cat_l, ma_cat_r, ma_clr_n, ma_clr_i, ma_clr_l, ma_clr_r, ma_clr_0, ma_rf_s, ma_rf_n, ma_ial_ap, ma_ias_ap, List.set_cons_zero, List.set_cons_succ, List.length_cons, List.length_nil, Nat.reduceAdd, Nat.reduceLT, Nat.reduceLeDiff, Nat.le_refl, true_and, and_true, Nat.lt_add_one, fa_lit, nI_add, pk_mul, pk_sub, pk_div, ma_rem_n, nI_ltI, nI_leI, nI_eq, Nat.reduceEqDiff, Nat.reduceMul, Nat.reduceSub, not_false_eq_true, not_true_eq_false, or_true, true_or, or_false, false_or, eq_self, Nat.zero_add, Nat.add_zero, tab_cv, tab_g0, tab_g2, trC, h4, h29]
        exact hq
      · simp (disch := omega) only [w94_0, w94_1, w94_4, w94_7, w94_8, w94_9, w94_10, w94_13, w94_16, w94_17, w94_20, w94_21, w94_22, w94_25, w94_26, w94_29, w94_32, w94_33, w94_36, w94_37, w94_40, w94_41, w94_44, w94_47, w94_50, w94_51, w94_54, w94_57, ma_kV_ap, ma_kC_s, ma_kC_n, ma_kH_ap, ma_gf_ap, ma_pf_ap, ma_cv_ap, ma_nt_0, ma_nt_s, ma_if_t, ma_if_f, ma_set_s, ma_set_ss, ma_set_2, ma_cat_n, ma_cat_i, ma_cat_l, ma_cat_r, ma_clr_n, ma_clr_i, ma_clr_l, ma_clr_r, ma_clr_0, ma_rf_s, ma_rf_n, ma_ial_ap, ma_ias_ap, List.set_cons_zero, List.set_cons_succ, List.length_cons, List.length_nil, Nat.reduceAdd, Nat.reduceLT, Nat.reduceLeDiff, Nat.le_refl, true_and, and_true, Nat.lt_add_one, fa_lit, nI_add, pk_mul, pk_sub, pk_div, ma_rem_n, nI_ltI, nI_leI, nI_eq, Nat.reduceEqDiff, Nat.reduceMul, Nat.reduceSub, not_false_eq_true, not_true_eq_false, or_true, true_or, or_false, false_or, eq_self, Nat.zero_add, Nat.add_zero, tab_cv, tab_g0, tab_g2, trC, h4, h29]
        exact hq
    · simp (disch := omega) only [w94_0, w94_1, w94_4, w94_7, w94_8, w94_9, w94_10, w94_13, w94_17, w94_20, w94_21, w94_22, w94_25, w94_26, w94_29, w94_32, w94_33, w94_36, w94_37, w94_40, w94_41, w94_44, w94_47, w94_50, w94_51, w94_54, w94_57, ma_kV_ap, ma_kC_s, ma_kC_n, ma_kH_ap, ma_gf_ap, ma_pf_ap, ma_cv_ap, ma_nt_0, ma_nt_s, ma_if_t, ma_if_f, ma_set_s, ma_set_ss, ma_set_2, ma_cat_n, ma_cat_i, ma_cat_l, ma_cat_r, ma_clr_n, ma_clr_i, ma_clr_l, ma_clr_r, ma_clr_0, ma_rf_s, ma_rf_n, ma_ial_ap, ma_ias_ap, List.set_cons_zero, List.set_cons_succ, List.length_cons, List.length_nil, Nat.reduceAdd, Nat.reduceLT, Nat.reduceLeDiff, Nat.le_refl, true_and, and_true, Nat.lt_add_one, fa_lit, nI_add, pk_mul, pk_sub, pk_div, ma_rem_n, nI_ltI, nI_leI, nI_eq, Nat.reduceEqDiff, Nat.reduceMul, Nat.reduceSub, not_false_eq_true, not_true_eq_false, or_true, true_or, or_false, false_or, eq_self, Nat.zero_add, Nat.add_zero]
      exact bad True (fun z => n z.2)
  · simp (disch := omega) only [w94_0, w94_1, w94_4, w94_7, w94_8, w94_9, w94_10, w94_13, w94_17, w94_20, w94_21, w94_22, w94_25, w94_26, w94_29, w94_32, w94_33, w94_36, w94_37, w94_40, w94_41, w94_44, w94_47, w94_50, w94_51, w94_54, w94_57, ma_kV_ap, ma_kC_s, ma_kC_n, ma_kH_ap, ma_gf_ap, ma_pf_ap, ma_cv_ap, ma_nt_0, ma_nt_s, ma_if_t, ma_if_f, ma_set_s, ma_set_ss, ma_set_2, ma_cat_n, ma_cat_i, ma_cat_l, ma_cat_r, ma_clr_n, ma_clr_i, ma_clr_l, ma_clr_r, ma_clr_0, ma_rf_s, ma_rf_n, ma_ial_ap, ma_ias_ap, List.set_cons_zero, List.set_cons_succ, List.length_cons, List.length_nil, Nat.reduceAdd, Nat.reduceLT, Nat.reduceLeDiff, Nat.le_refl, true_and, and_true, Nat.lt_add_one, fa_lit, nI_add, pk_mul, pk_sub, pk_div, ma_rem_n, nI_ltI, nI_leI, nI_eq, Nat.reduceEqDiff, Nat.reduceMul, Nat.reduceSub, not_false_eq_true, not_true_eq_false, or_true, true_or, or_false, false_or, eq_self, Nat.zero_add, Nat.add_zero]
    exact bad True (fun z => n z.1)
end C3

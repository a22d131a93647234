/-! the reference: trials -/
/-- what is tried holds the game t -/
def oT (H : ma_H) (t : ga_T) : Prop := (∃ f, H.1 43 = arI 58 f ∧ gM t f) ∧ unO H
theorem oT_tr {H : ma_H} {t : ga_T} (h : oT H t) : trO H := by obtain ⟨⟨f, a, b⟩, c⟩ := h; exact ⟨f, a⟩
section OT
variable {d : Nat} {Q : ma_P} {H : ma_H} {g : gG} {t : ga_T} {i0 i1 : Option gG} {tx : List Nat} {up lo : Int64} {c0 c1 c2 : Int32}
theorem oT_set {f : Nat → Int32} (hP : oP H g i0 i1 tx up lo c0 c1 c2) (hu : unO H) (hM : gM t f) : oP (ma_set H 43 (arI 58 f)) g i0 i1 tx up lo c0 c1 c2 ∧ oT (ma_set H 43 (arI 58 f)) t ∧ fr H (ma_set H 43 (arI 58 f)) 43 45 := by
  have hu' : unO (ma_set H 43 (arI 58 f)) := unO_c hu (ma_set_n _ _ (by decide))
  exact ⟨oP_tr hP ⟨f, ma_set_s _ _ _⟩ hu' (fr_set _ _ (by decide) (by decide)), ⟨⟨f, ma_set_s _ _ _, hM⟩, hu'⟩, fr_set _ _ (by decide) (by decide)⟩
theorem q_begins (hO : sOK g i0 i1 tx) (hP : oP H g i0 i1 tx up lo c0 c1 c2) (h : ∀ H', oP H' g i0 i1 tx up lo c0 c1 c2 → oT H' g.1 → fr H H' 43 45 → Q none H') : ma_MW (d + 2) 160 [.ref 36] H Q := by
  obtain ⟨po, ta, tk, nu, wo, it, h36⟩ := oP_cl hP
  obtain ⟨f, h37, gn⟩ := hP.2.1
  obtain ⟨f43, h43⟩ := hP.2.2.2.2.2.2.1
  rw [e160]
  simp (disch := omega) only [w160_0, w160_1, w160_4, w160_5, w160_6, w160_9, w160_10, w160_12, w160_15, ma_kV_ap, ma_kC_s, ma_kC_n, ma_kH_ap, ma_gf_ap, ma_pf_ap, ma_cv_ap, ma_nt_0, ma_nt_s, ma_if_t, ma_if_f, ma_set_s, ma_set_ss, ma_set_2, ma_cat_n, ma_cat_i, ma_cat_l, ma_cat_r, ma_clr_n, ma_clr_i, ma_clr_l, ma_clr_r, ma_clr_0, ma_rf_s, ma_rf_n, ma_ial_ap, ma_ias_ap, List.set_cons_zero, List.set_cons_succ, List.length_cons, List.length_nil, Nat.reduceAdd, Nat.reduceLT, Nat.reduceLeDiff, Nat.le_refl, true_and, and_true, Nat.lt_add_one, fa_lit, h36]
  refine o_bring (N := 545) (M := 58) (by decide) (by decide) (by decide) (by decide) (by decide) (by decide) h37 h43 ?_
  simp (disch := omega) only [w160_0, w160_1, w160_4, w160_5, w160_6, w160_9, w160_10, w160_12, w160_15, ma_kV_ap, ma_kC_s, ma_kC_n, ma_kH_ap, ma_gf_ap, ma_pf_ap, ma_cv_ap, ma_nt_0, ma_nt_s, ma_if_t, ma_if_f, ma_set_s, ma_set_ss, ma_set_2, ma_cat_n, ma_cat_i, ma_cat_l, ma_cat_r, ma_clr_n, ma_clr_i, ma_clr_l, ma_clr_r, ma_clr_0, ma_rf_s, ma_rf_n, ma_ial_ap, ma_ias_ap, List.set_cons_zero, List.set_cons_succ, List.length_cons, List.length_nil, Nat.reduceAdd, Nat.reduceLT, Nat.reduceLeDiff, Nat.le_refl, true_and, and_true, Nat.lt_add_one]
  obtain ⟨a, b, c⟩ := oT_set (f := va_cpy f f43 0 0 58) hP hP.2.2.2.2.2.2.2.1 (gM_cong hO.1.1 gn.1 (fun x hx => by rw [pk_cpy_in (by omega) (by omega)]; exact congrArg f (by omega)))
  exact h _ a b c
theorem q_isDone (hok : ga_ok t) (hT : oT H t) (h1 : gdone t → Q (some (.int (nI 1))) H) (h0 : ¬ gdone t → Q (some (.int (nI 0))) H) : ma_MW (d + 1) 151 [.ref 43] H Q := by
  obtain ⟨⟨f, h43, hM⟩, hu⟩ := hT
  exact o_isDone' hok (by decide) (by decide) h43 hM h1 h0
theorem q_lay (hok : ga_ok t) (hmv : gmv t < 100000) (hnd : ¬ gdone t) (hP : oP H g i0 i1 tx up lo c0 c1 c2) (hT : oT H t) (h : ∀ H', oP H' g i0 i1 tx up lo c0 c1 c2 → oT H' (gm t) → fr H H' 43 45 → Q none H') : ma_MW (d + 3) 153 [.ref 36, .ref 43] H Q := by
  obtain ⟨po, ta, tk, nu, wo, it, h36⟩ := oP_cl hP
  obtain ⟨⟨f, h43, hM⟩, u, h44⟩ := hT
  refine o_lay' hok hmv hnd (by decide) (by decide) (by decide) (by decide) (by decide) h36 h44 h43 hM (fun f' u' hM' hfr => ?_)
  have hu : unO (ma_set (ma_set H 44 (arI 16 u')) 43 (arI 58 f')) := ⟨u', by rw [ma_set_n _ _ (by decide), ma_set_s]⟩
  have hf : fr H (ma_set (ma_set H 44 (arI 16 u')) 43 (arI 58 f')) 43 45 := fr_set' (fr_set _ _ (by decide) (by decide)) (by decide) (by decide)
  exact h _ (oP_tr hP ⟨f', ma_set_s _ _ _⟩ hu hf) ⟨⟨f', ma_set_s _ _ _, hM'⟩, hu⟩ hf
theorem q_lastsOf (hok : ga_ok t) (hmv : gmv t < 90000) (hP : oP H g i0 i1 tx up lo c0 c1 c2) (hT : oT H t)
    (h1 : ∀ m, gE t = some m → m ≤ 2000 → ∀ H', oP H' g i0 i1 tx up lo c0 c1 c2 → oT H' (git m t) → fr H H' 43 45 → Q (some (.int (nI m))) H')
    (h0 : gE t = none → ∀ H' y, oP H' g i0 i1 tx up lo c0 c1 c2 → oT H' y → fr H H' 43 45 → Q (some (.int (-nI 1))) H') : ma_MW (d + 4) 162 [.ref 36] H Q := by
  have loop : ∀ j k H1 y, 2001 - k = j → k ≤ 2001 → (∀ i, i < k → ¬ gdone (git i t)) → oP H1 g i0 i1 tx up lo c0 c1 c2 → oT H1 y → (k ≤ 2000 → y = git k t) → fr H H1 43 45 → ma_W (d + 3) 162 Q 2 [some (.ref 36), some (.int (nI k))] [] H1 0 0 := by
    intro j
    induction j with
    | zero =>
      intro k H1 y e1 e2 hn p1 t1 ey f1
      have hk : k = 2001 := by omega
      subst hk
      simp (disch := omega) only [w162_0, w162_1, w162_2, w162_3, w162_6, w162_9, w162_10, w162_13, w162_16, w162_19, w162_20, w162_21, w162_22, w162_25, w162_28, w162_29, w162_30, w162_33, w162_36, w162_39, w162_42, w162_43, ma_kV_ap, ma_kC_s, ma_kC_n, ma_kH_ap, ma_gf_ap, ma_pf_ap, ma_cv_ap, ma_nt_0, ma_nt_s, ma_if_t, ma_if_f, ma_set_s, ma_set_ss, ma_set_2, ma_cat_n, ma_cat_i, ma_cat_l, ma_cat_r, ma_clr_n, ma_clr_i, ma_clr_l, ma_clr_r, ma_clr_0, ma_rf_s, ma_rf_n, ma_ial_ap, ma_ias_ap, List.set_cons_zero, List.set_cons_succ, List.length_cons, List.length_nil, Nat.reduceAdd, Nat.reduceLT, Nat.reduceLeDiff, Nat.le_refl, true_and, and_true, Nat.lt_add_one, fa_lit, nI_add, pk_mul, pk_sub, pk_div, ma_rem_n, nI_ltI, nI_leI, nI_eq, Nat.reduceEqDiff, Nat.reduceMul, Nat.reduceSub, not_false_eq_true, not_true_eq_false, or_true, true_or, or_false, false_or, eq_self, Nat.zero_add, Nat.add_zero]
      exact h0 (gE_none (fun m hm => hn m (by omega))) H1 y p1 t1 f1
    | succ j ih =>
      intro k H1 y e1 e2 hn p1 t1 ey f1
      have ey := ey (by omega)
      subst ey
      obtain ⟨po, ta, tk, nu, wo, it, h36⟩ := oP_cl p1
      have hc : (2000 < k) = False := eq_false (by omega)
      simp (disch := omega) only [w162_0, w162_1, w162_2, w162_3, w162_6, w162_9, w162_10, w162_13, w162_16, w162_19, w162_20, w162_21, w162_22, w162_25, w162_28, w162_29, w162_30, w162_33, w162_36, w162_39, w162_42, w162_43, ma_kV_ap, ma_kC_s, ma_kC_n, ma_kH_ap, ma_gf_ap, ma_pf_ap, ma_cv_ap, ma_nt_0, ma_nt_s, ma_if_t, ma_if_f, ma_set_s, ma_set_ss, ma_set_2, ma_cat_n, ma_cat_i, ma_cat_l, ma_cat_r, ma_clr_n, ma_clr_i, ma_clr_l, ma_clr_r, ma_clr_0, ma_rf_s, ma_rf_n, ma_ial_ap, ma_ias_ap, List.set_cons_zero, List.set_cons_succ, List.length_cons, List.length_nil, Nat.reduceAdd, Nat.reduceLT, Nat.reduceLeDiff, Nat.le_refl, true_and, and_true, Nat.lt_add_one, fa_lit, nI_add, pk_mul, pk_sub, pk_div, ma_rem_n, nI_ltI, nI_leI, nI_eq, Nat.reduceEqDiff, Nat.reduceMul, Nat.reduceSub, not_false_eq_true, not_true_eq_false, or_true, true_or, or_false, false_or, eq_self, Nat.zero_add, Nat.add_zero, hc, h36]
      refine q_isDone (ok_git hok k) t1 (fun hd => ?_) (fun hd => ?_)
      · simp (disch := omega) only [w162_0, w162_1, w162_2, w162_3, w162_6, w162_9, w162_10, w162_13, w162_16, w162_19, w162_20, w162_21, w162_22, w162_25, w162_28, w162_29, w162_30, w162_33, w162_36, w162_39, w162_42, w162_43, ma_kV_ap, ma_kC_s, ma_kC_n, ma_kH_ap, ma_gf_ap, ma_pf_ap, ma_cv_ap, ma_nt_0, ma_nt_s, ma_if_t, ma_if_f, ma_set_s, ma_set_ss, ma_set_2, ma_cat_n, ma_cat_i, ma_cat_l, ma_cat_r, ma_clr_n, ma_clr_i, ma_clr_l, ma_clr_r, ma_clr_0, ma_rf_s, ma_rf_n, ma_ial_ap, ma_ias_ap, List.set_cons_zero, List.set_cons_succ, List.length_cons, List.length_nil, Nat.reduceAdd, Nat.reduceLT, Nat.reduceLeDiff, Nat.le_refl, true_and, and_true, Nat.lt_add_one, fa_lit, nI_add, pk_mul, pk_sub, pk_div, ma_rem_n, nI_ltI, nI_leI, nI_eq, Nat.reduceEqDiff, Nat.reduceMul, Nat.reduceSub, not_false_eq_true, not_true_eq_false, or_true, true_or, or_false, false_or, eq_self, Nat.zero_add, Nat.add_zero]
        exact h1 k (gE_some (by omega) ⟨hd, hn⟩) (by omega) H1 p1 t1 f1
      · have hn' : ∀ i, i < k + 1 → ¬ gdone (git i t) := fun i hi => by
          rcases Nat.lt_or_ge i k with z | z
          · exact hn i z
          · have : i = k := by omega
            subst this; exact hd
        by_cases hk : k < 2000
        · have hc2 : (2000 ≤ k) = False := eq_false (by omega)
          have hmk := gmv_git t k
          simp (disch := omega) only [w162_0, w162_1, w162_2, w162_3, w162_6, w162_9, w162_10, w162_13, w162_16, w162_19, w162_20, w162_21, w162_22, w162_25, w162_28, w162_29, w162_30, w162_33, w162_36, w162_39, w162_42, w162_43, ma_kV_ap, ma_kC_s, ma_kC_n, ma_kH_ap, ma_gf_ap, ma_pf_ap, ma_cv_ap, ma_nt_0, ma_nt_s, ma_if_t, ma_if_f, ma_set_s, ma_set_ss, ma_set_2, ma_cat_n, ma_cat_i, ma_cat_l, ma_cat_r, ma_clr_n, ma_clr_i, ma_clr_l, ma_clr_r, ma_clr_0, ma_rf_s, ma_rf_n, ma_ial_ap, ma_ias_ap, List.set_cons_zero, List.set_cons_succ, List.length_cons, List.length_nil, Nat.reduceAdd, Nat.reduceLT, Nat.reduceLeDiff, Nat.le_refl, true_and, and_true, Nat.lt_add_one, fa_lit, nI_add, pk_mul, pk_sub, pk_div, ma_rem_n, nI_ltI, nI_leI, nI_eq, Nat.reduceEqDiff, Nat.reduceMul, Nat.reduceSub, not_false_eq_true, not_true_eq_false, or_true, true_or, or_false, false_or, eq_self, Nat.zero_add, Nat.add_zero, hc2, h36]
          refine q_lay (ok_git hok k) (by omega) hd p1 t1 (fun H2 p2 t2 f2 => ?_)
          simp (disch := omega) only [w162_0, w162_1, w162_3, w162_6, w162_9, w162_10, w162_13, w162_16, w162_19, w162_20, w162_21, w162_22, w162_25, w162_28, w162_29, w162_30, w162_33, w162_36, w162_39, w162_42, w162_43, ma_kV_ap, ma_kC_s, ma_kC_n, ma_kH_ap, ma_gf_ap, ma_pf_ap, ma_cv_ap, ma_nt_0, ma_nt_s, ma_if_t, ma_if_f, ma_set_s, ma_set_ss, ma_set_2, ma_cat_n, ma_cat_i, ma_cat_l, ma_cat_r, ma_clr_n, ma_clr_i, ma_clr_l, ma_clr_r, ma_clr_0, ma_rf_s, ma_rf_n, ma_ial_ap, ma_ias_ap, List.set_cons_zero, List.set_cons_succ, List.length_cons, List.length_nil, Nat.reduceAdd, Nat.reduceLT, Nat.reduceLeDiff, Nat.le_refl, true_and, and_true, Nat.lt_add_one, fa_lit, nI_add, pk_mul, pk_sub, pk_div, ma_rem_n, nI_ltI, nI_leI, nI_eq, Nat.reduceEqDiff, Nat.reduceMul, Nat.reduceSub, not_false_eq_true, not_true_eq_false, or_true, true_or, or_false, false_or, eq_self, Nat.zero_add, Nat.add_zero]
          exact ih (k + 1) H2 _ (by omega) (by omega) hn' p2 t2 (fun _ => (git_s k t).symm) (fr_trans f1 f2)
        · have hc2 : (2000 ≤ k) = True := eq_true (by omega)
          simp (disch := omega) only [w162_0, w162_1, w162_3, w162_6, w162_9, w162_10, w162_13, w162_16, w162_19, w162_20, w162_21, w162_22, w162_25, w162_28, w162_29, w162_30, w162_33, w162_36, w162_39, w162_42, w162_43, ma_kV_ap, ma_kC_s, ma_kC_n, ma_kH_ap, ma_gf_ap, ma_pf_ap, ma_cv_ap, ma_nt_0, ma_nt_s, ma_if_t, ma_if_f, ma_set_s, ma_set_ss, ma_set_2, ma_cat_n, ma_cat_i, ma_cat_l, ma_cat_r, ma_clr_n, ma_clr_i, ma_clr_l, ma_clr_r, ma_clr_0, ma_rf_s, ma_rf_n, ma_ial_ap, ma_ias_ap, List.set_cons_zero, List.set_cons_succ, List.length_cons, List.length_nil, Nat.reduceAdd, Nat.reduceLT, Nat.reduceLeDiff, Nat.le_refl, true_and, and_true, Nat.lt_add_one, fa_lit, nI_add, pk_mul, pk_sub, pk_div, ma_rem_n, nI_ltI, nI_leI, nI_eq, Nat.reduceEqDiff, Nat.reduceMul, Nat.reduceSub, not_false_eq_true, not_true_eq_false, or_true, true_or, or_false, false_or, eq_self, Nat.zero_add, Nat.add_zero, hc2]
          exact ih (k + 1) H1 _ (by omega) (by omega) hn' p1 t1 (fun z => by omega) f1
  rw [e162]
  simp (disch := omega) only [w162_0, w162_1, w162_3, w162_6, w162_9, w162_10, w162_13, w162_16, w162_19, w162_20, w162_21, w162_22, w162_25, w162_28, w162_29, w162_30, w162_33, w162_36, w162_39, w162_42, w162_43, ma_kV_ap, ma_kC_s, ma_kC_n, ma_kH_ap, ma_gf_ap, ma_pf_ap, ma_cv_ap, ma_nt_0, ma_nt_s, ma_if_t, ma_if_f, ma_set_s, ma_set_ss, ma_set_2, ma_cat_n, ma_cat_i, ma_cat_l, ma_cat_r, ma_clr_n, ma_clr_i, ma_clr_l, ma_clr_r, ma_clr_0, ma_rf_s, ma_rf_n, ma_ial_ap, ma_ias_ap, List.set_cons_zero, List.set_cons_succ, List.length_cons, List.length_nil, Nat.reduceAdd, Nat.reduceLT, Nat.reduceLeDiff, Nat.le_refl, true_and, and_true, Nat.lt_add_one, fa_lit]
  exact loop 2001 0 H t rfl (by omega) (fun i hi => by omega) hP hT (fun _ => rfl) (fr_refl _ _ _)
theorem q_winsOf {p : Nat} (hp : p < 2) (hok : ga_ok t) (hmv : gmv t < 90000) (hP : oP H g i0 i1 tx up lo c0 c1 c2) (hT : oT H t)
    (h1 : ∀ m, gW p t = some m → ∀ H' y, oP H' g i0 i1 tx up lo c0 c1 c2 → oT H' y → fr H H' 43 45 → Q (some (.int (nI m))) H')
    (h0 : gW p t = none → ∀ H' y, oP H' g i0 i1 tx up lo c0 c1 c2 → oT H' y → fr H H' 43 45 → Q (some (.int (-nI 1))) H') : ma_MW (d + 5) 163 [.ref 36, .int (nI p)] H Q := by
  obtain ⟨po, ta, tk, nu, wo, it, h36⟩ := oP_cl hP
  rw [e163]
  simp (disch := omega) only [w163_0, w163_1, w163_4, w163_5, w163_6, w163_7, w163_10, w163_11, w163_14, w163_15, w163_16, w163_17, w163_18, w163_19, w163_22, w163_23, w163_26, w163_27, ma_kV_ap, ma_kC_s, ma_kC_n, ma_kH_ap, ma_gf_ap, ma_pf_ap, ma_cv_ap, ma_nt_0, ma_nt_s, ma_if_t, ma_if_f, ma_set_s, ma_set_ss, ma_set_2, ma_cat_n, ma_cat_i, ma_cat_l, ma_cat_r, ma_clr_n, ma_clr_i, ma_clr_l, ma_clr_r, ma_clr_0, ma_rf_s, ma_rf_n, ma_ial_ap, ma_ias_ap, List.set_cons_zero, List.set_cons_succ, List.length_cons, List.length_nil, Nat.reduceAdd, Nat.reduceLT, Nat.reduceLeDiff, Nat.le_refl, true_and, and_true, Nat.lt_add_one, fa_lit, h36]
  refine q_lastsOf hok hmv hP hT (fun m e hm H1 p1 t1 f1 => ?_) (fun e H1 y p1 t1 f1 => ?_)
  · obtain ⟨po, ta, tk, nu, wo, it, h36⟩ := oP_cl p1
    have t1' := t1
    obtain ⟨⟨f, h43, hM⟩, hu⟩ := t1'
    have f2 := gM_tu hM
    have htu := gtu_lt (ok_git hok m)
    have hne : (nI m = -nI 1) = False := ng_ne (by omega)
    by_cases hw : gwon (git m t) = p
    · have e2 : (gtu (git m t) = 1 - p) = True := eq_true (by unfold gwon at hw; omega)
      simp (disch := omega) only [w163_0, w163_1, w163_4, w163_5, w163_6, w163_7, w163_10, w163_11, w163_14, w163_15, w163_16, w163_17, w163_18, w163_19, w163_22, w163_23, w163_26, w163_27, ma_kV_ap, ma_kC_s, ma_kC_n, ma_kH_ap, ma_gf_ap, ma_pf_ap, ma_cv_ap, ma_nt_0, ma_nt_s, ma_if_t, ma_if_f, ma_set_s, ma_set_ss, ma_set_2, ma_cat_n, ma_cat_i, ma_cat_l, ma_cat_r, ma_clr_n, ma_clr_i, ma_clr_l, ma_clr_r, ma_clr_0, ma_rf_s, ma_rf_n, ma_ial_ap, ma_ias_ap, List.set_cons_zero, List.set_cons_succ, List.length_cons, List.length_nil, Nat.reduceAdd, Nat.reduceLT, Nat.reduceLeDiff, Nat.le_refl, true_and, and_true, Nat.lt_add_one, fa_lit, nI_add, pk_mul, pk_sub, pk_div, ma_rem_n, nI_ltI, nI_leI, nI_eq, Nat.reduceEqDiff, Nat.reduceMul, Nat.reduceSub, not_false_eq_true, not_true_eq_false, or_true, true_or, or_false, false_or, eq_self, Nat.zero_add, Nat.add_zero, nu_in, nI_clamp, pk_us, pk_un, ma_set_n, h36, h43, f2, hne, e2]
      exact h1 m (gW_yes e hw) H1 _ p1 t1 f1
    · have e2 : (gtu (git m t) = 1 - p) = False := eq_false (fun z => hw (by unfold gwon; omega))
      simp (disch := omega) only [w163_0, w163_1, w163_4, w163_5, w163_6, w163_7, w163_10, w163_11, w163_14, w163_15, w163_16, w163_17, w163_18, w163_19, w163_22, w163_23, w163_26, w163_27, ma_kV_ap, ma_kC_s, ma_kC_n, ma_kH_ap, ma_gf_ap, ma_pf_ap, ma_cv_ap, ma_nt_0, ma_nt_s, ma_if_t, ma_if_f, ma_set_s, ma_set_ss, ma_set_2, ma_cat_n, ma_cat_i, ma_cat_l, ma_cat_r, ma_clr_n, ma_clr_i, ma_clr_l, ma_clr_r, ma_clr_0, ma_rf_s, ma_rf_n, ma_ial_ap, ma_ias_ap, List.set_cons_zero, List.set_cons_succ, List.length_cons, List.length_nil, Nat.reduceAdd, Nat.reduceLT, Nat.reduceLeDiff, Nat.le_refl, true_and, and_true, Nat.lt_add_one, fa_lit, nI_add, pk_mul, pk_sub, pk_div, ma_rem_n, nI_ltI, nI_leI, nI_eq, Nat.reduceEqDiff, Nat.reduceMul, Nat.reduceSub, not_false_eq_true, not_true_eq_false, or_true, true_or, or_false, false_or, eq_self, Nat.zero_add, Nat.add_zero, nu_in, nI_clamp, pk_us, pk_un, ma_set_n, h36, h43, f2, hne, e2]
      exact h0 (gW_no e hw) H1 _ p1 t1 f1
  · simp (disch := omega) only [w163_0, w163_1, w163_4, w163_5, w163_6, w163_7, w163_10, w163_11, w163_14, w163_15, w163_16, w163_17, w163_18, w163_19, w163_22, w163_23, w163_26, w163_27, ma_kV_ap, ma_kC_s, ma_kC_n, ma_kH_ap, ma_gf_ap, ma_pf_ap, ma_cv_ap, ma_nt_0, ma_nt_s, ma_if_t, ma_if_f, ma_set_s, ma_set_ss, ma_set_2, ma_cat_n, ma_cat_i, ma_cat_l, ma_cat_r, ma_clr_n, ma_clr_i, ma_clr_l, ma_clr_r, ma_clr_0, ma_rf_s, ma_rf_n, ma_ial_ap, ma_ias_ap, List.set_cons_zero, List.set_cons_succ, List.length_cons, List.length_nil, Nat.reduceAdd, Nat.reduceLT, Nat.reduceLeDiff, Nat.le_refl, true_and, and_true, Nat.lt_add_one, fa_lit, nI_add, pk_mul, pk_sub, pk_div, ma_rem_n, nI_ltI, nI_leI, nI_eq, Nat.reduceEqDiff, Nat.reduceMul, Nat.reduceSub, not_false_eq_true, not_true_eq_false, or_true, true_or, or_false, false_or, eq_self, Nat.zero_add, Nat.add_zero]
    exact h0 (gW_none e) H1 y p1 t1 f1
theorem fr_o {H' : ma_H} (h : fr H H' 43 45) : fr H H' 36 46 := fr_mono h (by decide) (by decide)
theorem m_won (hO : sOK g i0 i1 tx) (hP : oP H g i0 i1 tx up lo c0 c1 c2) (h : ∀ H', oP H' g i0 i1 tx up lo c0 c1 c2 → fr H H' 36 46 → Q (some (.int (vW g.1))) H') : ma_MW (d + 5) 164 [.ref 36] H Q := by
  have hmv := hO.1.2.1
  obtain ⟨po, ta, tk, nu, wo, it, h36⟩ := oP_cl hP
  unfold vW at h
  rw [e164]
  simp (disch := omega) only [w164_0, w164_1, w164_4, w164_5, w164_8, w164_9, w164_12, w164_13, w164_16, w164_17, w164_18, w164_21, w164_22, w164_23, w164_24, ma_kV_ap, ma_kC_s, ma_kC_n, ma_kH_ap, ma_gf_ap, ma_pf_ap, ma_cv_ap, ma_nt_0, ma_nt_s, ma_if_t, ma_if_f, ma_set_s, ma_set_ss, ma_set_2, ma_cat_n, ma_cat_i, ma_cat_l, ma_cat_r, ma_clr_n, ma_clr_i, ma_clr_l, ma_clr_r, ma_clr_0, ma_rf_s, ma_rf_n, ma_ial_ap, ma_ias_ap, List.set_cons_zero, List.set_cons_succ, List.length_cons, List.length_nil, Nat.reduceAdd, Nat.reduceLT, Nat.reduceLeDiff, Nat.le_refl, true_and, and_true, Nat.lt_add_one, h36]
  refine q_begins hO hP (fun H1 p1 t1 f1 => ?_)
  obtain ⟨po, ta, tk, nu, wo, it, h36⟩ := oP_cl p1
  simp (disch := omega) only [w164_0, w164_1, w164_4, w164_5, w164_8, w164_9, w164_12, w164_13, w164_16, w164_17, w164_18, w164_21, w164_22, w164_23, w164_24, ma_kV_ap, ma_kC_s, ma_kC_n, ma_kH_ap, ma_gf_ap, ma_pf_ap, ma_cv_ap, ma_nt_0, ma_nt_s, ma_if_t, ma_if_f, ma_set_s, ma_set_ss, ma_set_2, ma_cat_n, ma_cat_i, ma_cat_l, ma_cat_r, ma_clr_n, ma_clr_i, ma_clr_l, ma_clr_r, ma_clr_0, ma_rf_s, ma_rf_n, ma_ial_ap, ma_ias_ap, List.set_cons_zero, List.set_cons_succ, List.length_cons, List.length_nil, Nat.reduceAdd, Nat.reduceLT, Nat.reduceLeDiff, Nat.le_refl, true_and, and_true, Nat.lt_add_one, h36]
  refine q_lastsOf hO.1.1 (by omega) p1 t1 (fun m e hm H2 p2 t2 f2 => ?_) (fun e H2 y p2 t2 f2 => ?_)
  · rw [e] at h
    obtain ⟨po, ta, tk, nu, wo, it, h36⟩ := oP_cl p2
    obtain ⟨⟨f, h43, hM⟩, hu⟩ := t2
    have ft := gM_tu hM
    have htu := gtu_lt (ok_git hO.1.1 m)
    have hne : (nI m = -nI 1) = False := ng_ne (by omega)
    simp (disch := omega) only [w164_0, w164_1, w164_4, w164_5, w164_8, w164_9, w164_12, w164_13, w164_16, w164_17, w164_18, w164_21, w164_22, w164_23, w164_24, ma_kV_ap, ma_kC_s, ma_kC_n, ma_kH_ap, ma_gf_ap, ma_pf_ap, ma_cv_ap, ma_nt_0, ma_nt_s, ma_if_t, ma_if_f, ma_set_s, ma_set_ss, ma_set_2, ma_cat_n, ma_cat_i, ma_cat_l, ma_cat_r, ma_clr_n, ma_clr_i, ma_clr_l, ma_clr_r, ma_clr_0, ma_rf_s, ma_rf_n, ma_ial_ap, ma_ias_ap, List.set_cons_zero, List.set_cons_succ, List.length_cons, List.length_nil, Nat.reduceAdd, Nat.reduceLT, Nat.reduceLeDiff, Nat.le_refl, true_and, and_true, Nat.lt_add_one, fa_lit, nI_add, pk_mul, pk_sub, pk_div, ma_rem_n, nI_ltI, nI_leI, nI_eq, Nat.reduceEqDiff, Nat.reduceMul, Nat.reduceSub, not_false_eq_true, not_true_eq_false, or_true, true_or, or_false, false_or, eq_self, Nat.zero_add, Nat.add_zero, nu_in, nI_clamp, pk_us, pk_un, ma_set_n, h36, h43, ft, hne]
    exact h H2 p2 (fr_o (fr_trans f1 f2))
  · rw [e] at h
    simp (disch := omega) only [w164_0, w164_1, w164_4, w164_5, w164_8, w164_9, w164_12, w164_13, w164_16, w164_17, w164_18, w164_21, w164_22, w164_23, w164_24, ma_kV_ap, ma_kC_s, ma_kC_n, ma_kH_ap, ma_gf_ap, ma_pf_ap, ma_cv_ap, ma_nt_0, ma_nt_s, ma_if_t, ma_if_f, ma_set_s, ma_set_ss, ma_set_2, ma_cat_n, ma_cat_i, ma_cat_l, ma_cat_r, ma_clr_n, ma_clr_i, ma_clr_l, ma_clr_r, ma_clr_0, ma_rf_s, ma_rf_n, ma_ial_ap, ma_ias_ap, List.set_cons_zero, List.set_cons_succ, List.length_cons, List.length_nil, Nat.reduceAdd, Nat.reduceLT, Nat.reduceLeDiff, Nat.le_refl, true_and, and_true, Nat.lt_add_one, fa_lit, nI_add, pk_mul, pk_sub, pk_div, ma_rem_n, nI_ltI, nI_leI, nI_eq, Nat.reduceEqDiff, Nat.reduceMul, Nat.reduceSub, not_false_eq_true, not_true_eq_false, or_true, true_or, or_false, false_or, eq_self, Nat.zero_add, Nat.add_zero]
    exact h H2 p2 (fr_o (fr_trans f1 f2))
theorem m_lasts (hO : sOK g i0 i1 tx) (hP : oP H g i0 i1 tx up lo c0 c1 c2) (h : ∀ H', oP H' g i0 i1 tx up lo c0 c1 c2 → fr H H' 36 46 → Q (some (.int (vL g.1))) H') : ma_MW (d + 5) 165 [.ref 36] H Q := by
  have hmv := hO.1.2.1
  obtain ⟨po, ta, tk, nu, wo, it, h36⟩ := oP_cl hP
  unfold vL at h
  rw [e165]
  simp (disch := omega) only [w165_0, w165_1, w165_4, w165_5, w165_8, ma_kV_ap, ma_kC_s, ma_kC_n, ma_kH_ap, ma_gf_ap, ma_pf_ap, ma_cv_ap, ma_nt_0, ma_nt_s, ma_if_t, ma_if_f, ma_set_s, ma_set_ss, ma_set_2, ma_cat_n, ma_cat_i, ma_cat_l, ma_cat_r, ma_clr_n, ma_clr_i, ma_clr_l, ma_clr_r, ma_clr_0, ma_rf_s, ma_rf_n, ma_ial_ap, ma_ias_ap, List.set_cons_zero, List.set_cons_succ, List.length_cons, List.length_nil, Nat.reduceAdd, Nat.reduceLT, Nat.reduceLeDiff, Nat.le_refl, true_and, and_true, Nat.lt_add_one, h36]
  refine q_begins hO hP (fun H1 p1 t1 f1 => ?_)
  obtain ⟨po, ta, tk, nu, wo, it, h36⟩ := oP_cl p1
  simp (disch := omega) only [w165_0, w165_1, w165_4, w165_5, w165_8, ma_kV_ap, ma_kC_s, ma_kC_n, ma_kH_ap, ma_gf_ap, ma_pf_ap, ma_cv_ap, ma_nt_0, ma_nt_s, ma_if_t, ma_if_f, ma_set_s, ma_set_ss, ma_set_2, ma_cat_n, ma_cat_i, ma_cat_l, ma_cat_r, ma_clr_n, ma_clr_i, ma_clr_l, ma_clr_r, ma_clr_0, ma_rf_s, ma_rf_n, ma_ial_ap, ma_ias_ap, List.set_cons_zero, List.set_cons_succ, List.length_cons, List.length_nil, Nat.reduceAdd, Nat.reduceLT, Nat.reduceLeDiff, Nat.le_refl, true_and, and_true, Nat.lt_add_one, h36]
  refine q_lastsOf hO.1.1 (by omega) p1 t1 (fun m e hm H2 p2 t2 f2 => ?_) (fun e H2 y p2 t2 f2 => ?_)
  · rw [e] at h
    simp (disch := omega) only [w165_0, w165_1, w165_4, w165_5, w165_8, ma_kV_ap, ma_kC_s, ma_kC_n, ma_kH_ap, ma_gf_ap, ma_pf_ap, ma_cv_ap, ma_nt_0, ma_nt_s, ma_if_t, ma_if_f, ma_set_s, ma_set_ss, ma_set_2, ma_cat_n, ma_cat_i, ma_cat_l, ma_cat_r, ma_clr_n, ma_clr_i, ma_clr_l, ma_clr_r, ma_clr_0, ma_rf_s, ma_rf_n, ma_ial_ap, ma_ias_ap, List.set_cons_zero, List.set_cons_succ, List.length_cons, List.length_nil, Nat.reduceAdd, Nat.reduceLT, Nat.reduceLeDiff, Nat.le_refl, true_and, and_true, Nat.lt_add_one]
    exact h H2 p2 (fr_o (fr_trans f1 f2))
  · rw [e] at h
    simp (disch := omega) only [w165_0, w165_1, w165_4, w165_5, w165_8, ma_kV_ap, ma_kC_s, ma_kC_n, ma_kH_ap, ma_gf_ap, ma_pf_ap, ma_cv_ap, ma_nt_0, ma_nt_s, ma_if_t, ma_if_f, ma_set_s, ma_set_ss, ma_set_2, ma_cat_n, ma_cat_i, ma_cat_l, ma_cat_r, ma_clr_n, ma_clr_i, ma_clr_l, ma_clr_r, ma_clr_0, ma_rf_s, ma_rf_n, ma_ial_ap, ma_ias_ap, List.set_cons_zero, List.set_cons_succ, List.length_cons, List.length_nil, Nat.reduceAdd, Nat.reduceLT, Nat.reduceLeDiff, Nat.le_refl, true_and, and_true, Nat.lt_add_one]
    exact h H2 p2 (fr_o (fr_trans f1 f2))
theorem gM_num {f : Nat → Int32} {w : Nat} (h : gM t f) (hw : w < 5) : f (if w < 3 then 7 + w else w - 1) = nI (gnum t w) := by
  obtain ⟨kz, ko, hz, ho, pl, tu, db, mv, tz, to⟩ := t
  obtain ⟨m0, m1, m2, m3, m4, m5, m6, m7, m8, m9, k0, k1, k2⟩ := h
  rcases (show w = 0 ∨ w = 1 ∨ w = 2 ∨ w = 3 ∨ w = 4 by omega) with rfl | rfl | rfl | rfl | rfl
  · exact m7
  · exact m8
  · exact m9
  · exact m2
  · exact m3
theorem m_behind {a b : Nat} (ha : a ≤ 60) (hb : b ≤ 4) (hO : sOK g i0 i1 tx) (hP : oP H g i0 i1 tx up lo c0 c1 c2) (h : ∀ H', oP H' g i0 i1 tx up lo c0 c1 c2 → fr H H' 36 46 → Q (some (.int (nI (gnum (git a g.1) b)))) H') : ma_MW (d + 5) 161 [.ref 36, .int (nI a), .int (nI b)] H Q := by
  have hmv := hO.1.2.1
  have hok := hO.1.1
  have fin : ∀ H1 k, oP H1 g i0 i1 tx up lo c0 c1 c2 → oT H1 (git a g.1) → fr H H1 43 45 → ma_W (d + 4) 161 Q 59 [some (.ref 36), some (.int (nI a)), some (.int (nI b)), some (.int (nI k))] [] H1 0 0 := by
    intro H1 k p1 t1 f1
    obtain ⟨po, ta, tk, nu, wo, it, h36⟩ := oP_cl p1
    obtain ⟨⟨f, h43, hM⟩, hu⟩ := t1
    have v := gM_num hM (w := b) (by omega)
    rcases (show b < 3 ∨ b = 3 ∨ b = 4 by omega) with hb3 | rfl | rfl
    · rw [if_pos hb3] at v
      have hc : (3 ≤ b) = False := eq_false (by omega)
      simp (disch := omega) only [w161_0, w161_1, w161_2, w161_4, w161_7, w161_10, w161_11, w161_12, w161_13, w161_16, w161_19, w161_20, w161_23, w161_24, w161_25, w161_28, w161_29, w161_30, w161_31, w161_32, w161_35, w161_36, w161_39, w161_42, w161_45, w161_46, w161_47, w161_50, w161_53, w161_56, w161_59, w161_60, w161_61, w161_64, w161_65, w161_68, w161_70, w161_71, w161_72, w161_73, w161_76, w161_77, w161_78, w161_81, w161_82, w161_85, w161_86, w161_87, w161_90, w161_91, w161_94, w161_95, w161_96, ma_kV_ap, ma_kC_s, ma_kC_n, ma_kH_ap, ma_gf_ap, ma_pf_ap, ma_cv_ap, ma_nt_0, ma_nt_s, ma_if_t, ma_if_f, ma_set_s, ma_set_ss, ma_set_2, ma_cat_n, ma_cat_i, ma_cat_l, ma_cat_r, ma_clr_n, ma_clr_i, ma_clr_l, ma_clr_r, ma_clr_0, ma_rf_s, ma_rf_n, ma_ial_ap, ma_ias_ap, List.set_cons_zero, List.set_cons_succ, List.length_cons, List.length_nil, Nat.reduceAdd, Nat.reduceLT, Nat.reduceLeDiff, Nat.le_refl, true_and, and_true, Nat.lt_add_one, fa_lit, nI_add, pk_mul, pk_sub, pk_div, ma_rem_n, nI_ltI, nI_leI, nI_eq, Nat.reduceEqDiff, Nat.reduceMul, Nat.reduceSub, not_false_eq_true, not_true_eq_false, or_true, true_or, or_false, false_or, eq_self, Nat.zero_add, Nat.add_zero, nu_in, nI_clamp, pk_us, pk_un, ma_set_n, h36, h43, hc, v]
      exact h H1 p1 (fr_o f1)
    · have v : f 2 = nI (gnum (git a g.1) 3) := v
      simp (disch := omega) only [w161_0, w161_1, w161_2, w161_4, w161_7, w161_10, w161_11, w161_12, w161_13, w161_16, w161_19, w161_20, w161_23, w161_24, w161_25, w161_28, w161_29, w161_30, w161_31, w161_32, w161_35, w161_36, w161_39, w161_42, w161_45, w161_46, w161_47, w161_50, w161_53, w161_56, w161_59, w161_60, w161_61, w161_64, w161_65, w161_68, w161_70, w161_71, w161_72, w161_73, w161_76, w161_77, w161_78, w161_81, w161_82, w161_85, w161_86, w161_87, w161_90, w161_91, w161_94, w161_95, w161_96, ma_kV_ap, ma_kC_s, ma_kC_n, ma_kH_ap, ma_gf_ap, ma_pf_ap, ma_cv_ap, ma_nt_0, ma_nt_s, ma_if_t, ma_if_f, ma_set_s, ma_set_ss, ma_set_2, ma_cat_n, ma_cat_i, ma_cat_l, ma_cat_r, ma_clr_n, ma_clr_i, ma_clr_l, ma_clr_r, ma_clr_0, ma_rf_s, ma_rf_n, ma_ial_ap, ma_ias_ap, List.set_cons_zero, List.set_cons_succ, List.length_cons, List.length_nil, Nat.reduceAdd, Nat.reduceLT, Nat.reduceLeDiff, Nat.le_refl, true_and, and_true, Nat.lt_add_one, fa_lit, nI_add, pk_mul, pk_sub, pk_div, ma_rem_n, nI_ltI, nI_leI, nI_eq, Nat.reduceEqDiff, Nat.reduceMul, Nat.reduceSub, not_false_eq_true, not_true_eq_false, or_true, true_or, or_false, false_or, eq_self, Nat.zero_add, Nat.add_zero, nu_in, nI_clamp, pk_us, pk_un, ma_set_n, h36, h43, v]
      exact h H1 p1 (fr_o f1)
    · have v : f 3 = nI (gnum (git a g.1) 4) := v
      simp (disch := omega) only [w161_0, w161_1, w161_2, w161_4, w161_7, w161_10, w161_11, w161_12, w161_13, w161_16, w161_19, w161_20, w161_23, w161_24, w161_25, w161_28, w161_29, w161_30, w161_31, w161_32, w161_35, w161_36, w161_39, w161_42, w161_45, w161_46, w161_47, w161_50, w161_53, w161_56, w161_59, w161_60, w161_61, w161_64, w161_65, w161_68, w161_70, w161_71, w161_72, w161_73, w161_76, w161_77, w161_78, w161_81, w161_82, w161_85, w161_86, w161_87, w161_90, w161_91, w161_94, w161_95, w161_96, ma_kV_ap, ma_kC_s, ma_kC_n, ma_kH_ap, ma_gf_ap, ma_pf_ap, ma_cv_ap, ma_nt_0, ma_nt_s, ma_if_t, ma_if_f, ma_set_s, ma_set_ss, ma_set_2, ma_cat_n, ma_cat_i, ma_cat_l, ma_cat_r, ma_clr_n, ma_clr_i, ma_clr_l, ma_clr_r, ma_clr_0, ma_rf_s, ma_rf_n, ma_ial_ap, ma_ias_ap, List.set_cons_zero, List.set_cons_succ, List.length_cons, List.length_nil, Nat.reduceAdd, Nat.reduceLT, Nat.reduceLeDiff, Nat.le_refl, true_and, and_true, Nat.lt_add_one, fa_lit, nI_add, pk_mul, pk_sub, pk_div, ma_rem_n, nI_ltI, nI_leI, nI_eq, Nat.reduceEqDiff, Nat.reduceMul, Nat.reduceSub, not_false_eq_true, not_true_eq_false, or_true, true_or, or_false, false_or, eq_self, Nat.zero_add, Nat.add_zero, nu_in, nI_clamp, pk_us, pk_un, ma_set_n, h36, h43, v]
      exact h H1 p1 (fr_o f1)
  have loop : ∀ j k H1, a - k = j → k ≤ a → (∀ i, i < k → ¬ gdone (git i g.1)) → oP H1 g i0 i1 tx up lo c0 c1 c2 → oT H1 (git k g.1) → fr H H1 43 45 → ma_W (d + 4) 161 Q 30 [some (.ref 36), some (.int (nI a)), some (.int (nI b)), some (.int (nI k))] [] H1 0 0 := by
    intro j
    induction j with
    | zero =>
      intro k H1 e1 e2 hn p1 t1 f1
      have hk : k = a := by omega
      subst hk
      have hc : (k ≤ k) = True := eq_true (Nat.le_refl _)
      simp (disch := omega) only [w161_0, w161_1, w161_2, w161_4, w161_7, w161_10, w161_11, w161_12, w161_13, w161_16, w161_19, w161_20, w161_23, w161_24, w161_25, w161_28, w161_29, w161_30, w161_31, w161_32, w161_35, w161_36, w161_39, w161_42, w161_45, w161_46, w161_47, w161_50, w161_53, w161_56, w161_60, w161_61, w161_64, w161_65, w161_68, w161_70, w161_71, w161_72, w161_73, w161_76, w161_77, w161_78, w161_81, w161_82, w161_85, w161_86, w161_87, w161_90, w161_91, w161_94, w161_95, w161_96, ma_kV_ap, ma_kC_s, ma_kC_n, ma_kH_ap, ma_gf_ap, ma_pf_ap, ma_cv_ap, ma_nt_0, ma_nt_s, ma_if_t, ma_if_f, ma_set_s, ma_set_ss, ma_set_2, ma_cat_n, ma_cat_i, ma_cat_l, ma_cat_r, ma_clr_n, ma_clr_i, ma_clr_l, ma_clr_r, ma_clr_0, ma_rf_s, ma_rf_n, ma_ial_ap, ma_ias_ap, List.set_cons_zero, List.set_cons_succ, List.length_cons, List.length_nil, Nat.reduceAdd, Nat.reduceLT, Nat.reduceLeDiff, Nat.le_refl, true_and, and_true, Nat.lt_add_one, fa_lit, nI_add, pk_mul, pk_sub, pk_div, ma_rem_n, nI_ltI, nI_leI, nI_eq, Nat.reduceEqDiff, Nat.reduceMul, Nat.reduceSub, not_false_eq_true, not_true_eq_false, or_true, true_or, or_false, false_or, eq_self, Nat.zero_add, Nat.add_zero, hc]
      exact fin H1 k p1 t1 f1
    | succ j ih =>
      intro k H1 e1 e2 hn p1 t1 f1
      obtain ⟨po, ta, tk, nu, wo, it, h36⟩ := oP_cl p1
      have hc : (a ≤ k) = False := eq_false (by omega)
      simp (disch := omega) only [w161_0, w161_1, w161_2, w161_4, w161_7, w161_10, w161_11, w161_12, w161_13, w161_16, w161_19, w161_20, w161_23, w161_24, w161_25, w161_28, w161_29, w161_30, w161_31, w161_32, w161_35, w161_36, w161_39, w161_42, w161_45, w161_46, w161_47, w161_50, w161_53, w161_56, w161_60, w161_61, w161_64, w161_65, w161_68, w161_70, w161_71, w161_72, w161_73, w161_76, w161_77, w161_78, w161_81, w161_82, w161_85, w161_86, w161_87, w161_90, w161_91, w161_94, w161_95, w161_96, ma_kV_ap, ma_kC_s, ma_kC_n, ma_kH_ap, ma_gf_ap, ma_pf_ap, ma_cv_ap, ma_nt_0, ma_nt_s, ma_if_t, ma_if_f, ma_set_s, ma_set_ss, ma_set_2, ma_cat_n, ma_cat_i, ma_cat_l, ma_cat_r, ma_clr_n, ma_clr_i, ma_clr_l, ma_clr_r, ma_clr_0, ma_rf_s, ma_rf_n, ma_ial_ap, ma_ias_ap, List.set_cons_zero, List.set_cons_succ, List.length_cons, List.length_nil, Nat.reduceAdd, Nat.reduceLT, Nat.reduceLeDiff, Nat.le_refl, true_and, and_true, Nat.lt_add_one, fa_lit, nI_add, pk_mul, pk_sub, pk_div, ma_rem_n, nI_ltI, nI_leI, nI_eq, Nat.reduceEqDiff, Nat.reduceMul, Nat.reduceSub, not_false_eq_true, not_true_eq_false, or_true, true_or, or_false, false_or, eq_self, Nat.zero_add, Nat.add_zero, hc, h36]
      refine q_isDone (ok_git hok k) t1 (fun hd => ?_) (fun hd => ?_)
      · simp (disch := omega) only [w161_0, w161_1, w161_2, w161_4, w161_7, w161_10, w161_11, w161_12, w161_13, w161_16, w161_19, w161_20, w161_23, w161_24, w161_25, w161_28, w161_29, w161_30, w161_31, w161_32, w161_35, w161_36, w161_39, w161_42, w161_45, w161_46, w161_47, w161_50, w161_53, w161_56, w161_60, w161_61, w161_64, w161_65, w161_68, w161_70, w161_71, w161_72, w161_73, w161_76, w161_77, w161_78, w161_81, w161_82, w161_85, w161_86, w161_87, w161_90, w161_91, w161_94, w161_95, w161_96, ma_kV_ap, ma_kC_s, ma_kC_n, ma_kH_ap, ma_gf_ap, ma_pf_ap, ma_cv_ap, ma_nt_0, ma_nt_s, ma_if_t, ma_if_f, ma_set_s, ma_set_ss, ma_set_2, ma_cat_n, ma_cat_i, ma_cat_l, ma_cat_r, ma_clr_n, ma_clr_i, ma_clr_l, ma_clr_r, ma_clr_0, ma_rf_s, ma_rf_n, ma_ial_ap, ma_ias_ap, List.set_cons_zero, List.set_cons_succ, List.length_cons, List.length_nil, Nat.reduceAdd, Nat.reduceLT, Nat.reduceLeDiff, Nat.le_refl, true_and, and_true, Nat.lt_add_one, fa_lit, nI_add, pk_mul, pk_sub, pk_div, ma_rem_n, nI_ltI, nI_leI, nI_eq, Nat.reduceEqDiff, Nat.reduceMul, Nat.reduceSub, not_false_eq_true, not_true_eq_false, or_true, true_or, or_false, false_or, eq_self, Nat.zero_add, Nat.add_zero]
        refine fin H1 k p1 ?_ f1
        rw [git_beh (t := g.1) (n := a) (k := k) ⟨e2, hn, Or.inr hd⟩]
        exact t1
      · have hmk := gmv_git g.1 k
        simp (disch := omega) only [w161_0, w161_1, w161_2, w161_4, w161_7, w161_10, w161_11, w161_12, w161_13, w161_16, w161_19, w161_20, w161_23, w161_24, w161_25, w161_28, w161_29, w161_30, w161_31, w161_32, w161_35, w161_36, w161_39, w161_42, w161_45, w161_46, w161_47, w161_50, w161_53, w161_56, w161_60, w161_61, w161_64, w161_65, w161_68, w161_70, w161_71, w161_72, w161_73, w161_76, w161_77, w161_78, w161_81, w161_82, w161_85, w161_86, w161_87, w161_90, w161_91, w161_94, w161_95, w161_96, ma_kV_ap, ma_kC_s, ma_kC_n, ma_kH_ap, ma_gf_ap, ma_pf_ap, ma_cv_ap, ma_nt_0, ma_nt_s, ma_if_t, ma_if_f, ma_set_s, ma_set_ss, ma_set_2, ma_cat_n, ma_cat_i, ma_cat_l, ma_cat_r, ma_clr_n, ma_clr_i, ma_clr_l, ma_clr_r, ma_clr_0, ma_rf_s, ma_rf_n, ma_ial_ap, ma_ias_ap, List.set_cons_zero, List.set_cons_succ, List.length_cons, List.length_nil, Nat.reduceAdd, Nat.reduceLT, Nat.reduceLeDiff, Nat.le_refl, true_and, and_true, Nat.lt_add_one, fa_lit, nI_add, pk_mul, pk_sub, pk_div, ma_rem_n, nI_ltI, nI_leI, nI_eq, Nat.reduceEqDiff, Nat.reduceMul, Nat.reduceSub, not_false_eq_true, not_true_eq_false, or_true, true_or, or_false, false_or, eq_self, Nat.zero_add, Nat.add_zero, h36]
        refine q_lay (ok_git hok k) (by omega) hd p1 t1 (fun H2 p2 t2 f2 => ?_)
        simp (disch := omega) only [w161_0, w161_1, w161_2, w161_4, w161_7, w161_10, w161_11, w161_12, w161_13, w161_16, w161_19, w161_20, w161_23, w161_24, w161_25, w161_28, w161_29, w161_31, w161_32, w161_35, w161_36, w161_39, w161_42, w161_45, w161_46, w161_47, w161_50, w161_53, w161_56, w161_59, w161_60, w161_61, w161_64, w161_65, w161_68, w161_70, w161_71, w161_72, w161_73, w161_76, w161_77, w161_78, w161_81, w161_82, w161_85, w161_86, w161_87, w161_90, w161_91, w161_94, w161_95, w161_96, ma_kV_ap, ma_kC_s, ma_kC_n, ma_kH_ap, ma_gf_ap, ma_pf_ap, ma_cv_ap, ma_nt_0, ma_nt_s, ma_if_t, ma_if_f, ma_set_s, ma_set_ss, ma_set_2, ma_cat_n, ma_cat_i, ma_cat_l, ma_cat_r, ma_clr_n, ma_clr_i, ma_clr_l, ma_clr_r, ma_clr_0, ma_rf_s, ma_rf_n, ma_ial_ap, ma_ias_ap, List.set_cons_zero, List.set_cons_succ, List.length_cons, List.length_nil, Nat.reduceAdd, Nat.reduceLT, Nat.reduceLeDiff, Nat.le_refl, true_and, and_true, Nat.lt_add_one, fa_lit, nI_add, pk_mul, pk_sub, pk_div, ma_rem_n, nI_ltI, nI_leI, nI_eq, Nat.reduceEqDiff, Nat.reduceMul, Nat.reduceSub, not_false_eq_true, not_true_eq_false, or_true, true_or, or_false, false_or, eq_self, Nat.zero_add, Nat.add_zero]
        rw [← git_s] at t2
        refine ih (k + 1) H2 (by omega) (by omega) (fun i hi => ?_) p2 t2 (fr_trans f1 f2)
        rcases Nat.lt_or_ge i k with z | z
        · exact hn i z
        · have : i = k := by omega
          subst this; exact hd
  obtain ⟨po, ta, tk, nu, wo, it, h36⟩ := oP_cl hP
  rw [e161]
  simp (disch := omega) only [w161_0, w161_1, w161_2, w161_4, w161_7, w161_10, w161_11, w161_12, w161_13, w161_16, w161_19, w161_20, w161_23, w161_24, w161_25, w161_28, w161_29, w161_30, w161_31, w161_32, w161_35, w161_36, w161_39, w161_42, w161_45, w161_46, w161_47, w161_50, w161_53, w161_56, w161_59, w161_60, w161_61, w161_64, w161_65, w161_68, w161_70, w161_71, w161_72, w161_73, w161_76, w161_77, w161_78, w161_81, w161_82, w161_85, w161_86, w161_87, w161_90, w161_91, w161_94, w161_95, w161_96, ma_kV_ap, ma_kC_s, ma_kC_n, ma_kH_ap, ma_gf_ap, ma_pf_ap, ma_cv_ap, ma_nt_0, ma_nt_s, ma_if_t, ma_if_f, ma_set_s, ma_set_ss, ma_set_2, ma_cat_n, ma_cat_i, ma_cat_l, ma_cat_r, ma_clr_n, ma_clr_i, ma_clr_l, ma_clr_r, ma_clr_0, ma_rf_s, ma_rf_n, ma_ial_ap, ma_ias_ap, List.set_cons_zero, List.set_cons_succ, List.length_cons, List.length_nil, Nat.reduceAdd, Nat.reduceLT, Nat.reduceLeDiff, Nat.le_refl, true_and, and_true, Nat.lt_add_one, fa_lit]
  refine o_inT (by omega) (by decide) ?_
  simp (disch := omega) only [w161_0, w161_1, w161_2, w161_4, w161_7, w161_10, w161_11, w161_12, w161_13, w161_16, w161_19, w161_20, w161_23, w161_24, w161_25, w161_28, w161_29, w161_30, w161_31, w161_32, w161_35, w161_36, w161_39, w161_42, w161_45, w161_46, w161_47, w161_50, w161_53, w161_56, w161_59, w161_60, w161_61, w161_64, w161_65, w161_68, w161_70, w161_71, w161_72, w161_73, w161_76, w161_77, w161_78, w161_81, w161_82, w161_85, w161_86, w161_87, w161_90, w161_91, w161_94, w161_95, w161_96, ma_kV_ap, ma_kC_s, ma_kC_n, ma_kH_ap, ma_gf_ap, ma_pf_ap, ma_cv_ap, ma_nt_0, ma_nt_s, ma_if_t, ma_if_f, ma_set_s, ma_set_ss, ma_set_2, ma_cat_n, ma_cat_i, ma_cat_l, ma_cat_r, ma_clr_n, ma_clr_i, ma_clr_l, ma_clr_r, ma_clr_0, ma_rf_s, ma_rf_n, ma_ial_ap, ma_ias_ap, List.set_cons_zero, List.set_cons_succ, List.length_cons, List.length_nil, Nat.reduceAdd, Nat.reduceLT, Nat.reduceLeDiff, Nat.le_refl, true_and, and_true, Nat.lt_add_one, fa_lit, nI_add, pk_mul, pk_sub, pk_div, ma_rem_n, nI_ltI, nI_leI, nI_eq, Nat.reduceEqDiff, Nat.reduceMul, Nat.reduceSub, not_false_eq_true, not_true_eq_false, or_true, true_or, or_false, false_or, eq_self, Nat.zero_add, Nat.add_zero]
  refine o_inT (by omega) (by decide) ?_
  simp (disch := omega) only [w161_0, w161_1, w161_2, w161_4, w161_7, w161_10, w161_11, w161_12, w161_13, w161_16, w161_19, w161_20, w161_23, w161_24, w161_25, w161_28, w161_29, w161_30, w161_31, w161_32, w161_35, w161_36, w161_39, w161_42, w161_45, w161_46, w161_47, w161_50, w161_53, w161_56, w161_59, w161_60, w161_61, w161_64, w161_65, w161_68, w161_70, w161_71, w161_72, w161_73, w161_76, w161_77, w161_78, w161_81, w161_82, w161_85, w161_86, w161_87, w161_90, w161_91, w161_94, w161_95, w161_96, ma_kV_ap, ma_kC_s, ma_kC_n, ma_kH_ap, ma_gf_ap, ma_pf_ap, ma_cv_ap, ma_nt_0, ma_nt_s, ma_if_t, ma_if_f, ma_set_s, ma_set_ss, ma_set_2, ma_cat_n, ma_cat_i, ma_cat_l, ma_cat_r, ma_clr_n, ma_clr_i, ma_clr_l, ma_clr_r, ma_clr_0, ma_rf_s, ma_rf_n, ma_ial_ap, ma_ias_ap, List.set_cons_zero, List.set_cons_succ, List.length_cons, List.length_nil, Nat.reduceAdd, Nat.reduceLT, Nat.reduceLeDiff, Nat.le_refl, true_and, and_true, Nat.lt_add_one, fa_lit, nI_add, pk_mul, pk_sub, pk_div, ma_rem_n, nI_ltI, nI_leI, nI_eq, Nat.reduceEqDiff, Nat.reduceMul, Nat.reduceSub, not_false_eq_true, not_true_eq_false, or_true, true_or, or_false, false_or, eq_self, Nat.zero_add, Nat.add_zero, h36]
  refine q_begins hO hP (fun H1 p1 t1 f1 => ?_)
  simp (disch := omega) only [w161_0, w161_1, w161_2, w161_4, w161_7, w161_10, w161_11, w161_12, w161_13, w161_16, w161_19, w161_20, w161_23, w161_24, w161_25, w161_28, w161_29, w161_31, w161_32, w161_35, w161_36, w161_39, w161_42, w161_45, w161_46, w161_47, w161_50, w161_53, w161_56, w161_59, w161_60, w161_61, w161_64, w161_65, w161_68, w161_70, w161_71, w161_72, w161_73, w161_76, w161_77, w161_78, w161_81, w161_82, w161_85, w161_86, w161_87, w161_90, w161_91, w161_94, w161_95, w161_96, ma_kV_ap, ma_kC_s, ma_kC_n, ma_kH_ap, ma_gf_ap, ma_pf_ap, ma_cv_ap, ma_nt_0, ma_nt_s, ma_if_t, ma_if_f, ma_set_s, ma_set_ss, ma_set_2, ma_cat_n, ma_cat_i, ma_cat_l, ma_cat_r, ma_clr_n, ma_clr_i, ma_clr_l, ma_clr_r, ma_clr_0, ma_rf_s, ma_rf_n, ma_ial_ap, ma_ias_ap, List.set_cons_zero, List.set_cons_succ, List.length_cons, List.length_nil, Nat.reduceAdd, Nat.reduceLT, Nat.reduceLeDiff, Nat.le_refl, true_and, and_true, Nat.lt_add_one, fa_lit]
  exact loop a 0 H1 rfl (by omega) (fun i hi => by omega) p1 t1 f1
/-- how often the pile was taken by each -/
def gtz (t : ga_T) : Nat := t.2.2.2.2.2.2.2.2.1
def gto (t : ga_T) : Nat := t.2.2.2.2.2.2.2.2.2
theorem gm_taken (hnd : ¬ gdone t) : (gpile (gm t) = [] ∧ ((gtu (gm t) = 0 ∧ gtz (gm t) = gtz t + 1 ∧ gto (gm t) = gto t) ∨ (gtu (gm t) = 1 ∧ gtz (gm t) = gtz t ∧ gto (gm t) = gto t + 1))) ∨ (gpile (gm t) ≠ [] ∧ gtz (gm t) = gtz t ∧ gto (gm t) = gto t) := by
  obtain ⟨kz, ko, hz, ho, pl, tu, db, mv, tz, to⟩ := t
  have hnd : ¬ (if tu = 0 then hz else ho) = [] := hnd
  obtain ⟨c, r, e⟩ : ∃ c r, (if tu = 0 then hz else ho) = c :: r := by
    cases e : (if tu = 0 then hz else ho) with
    | nil => exact absurd e hnd
    | cons c r => exact ⟨c, r, rfl⟩
  rw [gm_cons e]
  have hne : pl ++ [c] ≠ [] := by simp
  unfold gm2
  split
  · exact Or.inr ⟨hne, rfl, rfl⟩
  · split
    · split
      · left
        unfold gtk
        refine ⟨rfl, ?_⟩
        by_cases hp : 1 - tu = 0
        · left
          refine ⟨hp, ?_, ?_⟩
          · show (if 1 - tu = 0 then tz + 1 else tz) = tz + 1
            rw [if_pos hp]
          · show (if 1 - tu = 0 then to else to + 1) = to
            rw [if_pos hp]
        · right
          refine ⟨?_, ?_, ?_⟩
          · show 1 - tu = 1
            omega
          · show (if 1 - tu = 0 then tz + 1 else tz) = tz
            rw [if_neg hp]
          · show (if 1 - tu = 0 then to else to + 1) = to + 1
            rw [if_neg hp]
      · exact Or.inr ⟨hne, rfl, rfl⟩
    · exact Or.inr ⟨hne, rfl, rfl⟩
theorem gM_56 {f : Nat → Int32} (h : gM t f) : f 5 = nI (gtz t) ∧ f 6 = nI (gto t) := by
  obtain ⟨kz, ko, hz, ho, pl, tu, db, mv, tz, to⟩ := t
  exact ⟨h.2.2.2.2.2.1, h.2.2.2.2.2.2.1⟩
theorem tz_le (hok : ga_ok t) : gtz t ≤ gmv t ∧ gto t ≤ gmv t := by
  obtain ⟨kz, ko, hz, ho, pl, tu, db, mv, tz, to⟩ := t
  exact ⟨hok.2.2.2.2.2.2.2.2.1, hok.2.2.2.2.2.2.2.2.2⟩
theorem m_first {b : Nat} (hb : b < 2) (hO : sOK g i0 i1 tx) (hP : oP H g i0 i1 tx up lo c0 c1 c2) (h : ∀ H', oP H' g i0 i1 tx up lo c0 c1 c2 → fr H H' 36 46 → Q (some (.int (vF g.1 b))) H') : ma_MW (d + 5) 166 [.ref 36, .int (nI b)] H Q := by
  have hmv := hO.1.2.1
  have hok := hO.1.1
  obtain ⟨z1, z2⟩ := tz_le hok
  have loop : ∀ j k H1, 201 - k = j → 1 ≤ k → k ≤ 201 → (∀ i, i < k - 1 → ¬ gdone (git i g.1)) → (∀ i, 1 ≤ i → i < k → gpile (git i g.1) ≠ []) → gtz (git (k - 1) g.1) = gtz g.1 → gto (git (k - 1) g.1) = gto g.1 → oP H1 g i0 i1 tx up lo c0 c1 c2 → oT H1 (git (k - 1) g.1) → fr H H1 43 45 → ma_W (d + 4) 166 Q 36 [some (.ref 36), some (.int (nI b)), some (.int (nI (gtz g.1))), some (.int (nI (gto g.1))), some (.int (nI k))] [] H1 0 0 := by
    intro j
    induction j with
    | zero =>
      intro k H1 e1 e0 e2 hn hp q1 q2 p1 t1 f1
      have hk : k = 201 := by omega
      subst hk
      simp (disch := omega) only [w166_0, w166_1, w166_2, w166_3, w166_6, w166_9, w166_10, w166_13, w166_14, w166_15, w166_18, w166_19, w166_22, w166_23, w166_24, w166_25, w166_26, w166_29, w166_31, w166_32, w166_33, w166_34, w166_36, w166_38, w166_41, w166_44, w166_45, w166_48, w166_51, w166_54, w166_55, w166_56, w166_59, w166_62, w166_63, w166_66, w166_67, w166_68, w166_69, w166_72, w166_73, w166_76, w166_78, w166_79, w166_80, w166_83, w166_84, w166_87, w166_89, w166_92, w166_93, w166_96, w166_97, w166_98, w166_99, w166_102, w166_103, w166_106, w166_107, w166_108, w166_111, w166_114, w166_115, ma_kV_ap, ma_kC_s, ma_kC_n, ma_kH_ap, ma_gf_ap, ma_pf_ap, ma_cv_ap, ma_nt_0, ma_nt_s, ma_if_t, ma_if_f, ma_set_s, ma_set_ss, ma_set_2, ma_cat_n, ma_cat_i, ma_cat_l, ma_cat_r, ma_clr_n, ma_clr_i, ma_clr_l, ma_clr_r, ma_clr_0, ma_rf_s, ma_rf_n, ma_ial_ap, ma_ias_ap, List.set_cons_zero, List.set_cons_succ, List.length_cons, List.length_nil, Nat.reduceAdd, Nat.reduceLT, Nat.reduceLeDiff, Nat.le_refl, true_and, and_true, Nat.lt_add_one, fa_lit, nI_add, pk_mul, pk_sub, pk_div, ma_rem_n, nI_ltI, nI_leI, nI_eq, Nat.reduceEqDiff, Nat.reduceMul, Nat.reduceSub, not_false_eq_true, not_true_eq_false, or_true, true_or, or_false, false_or, eq_self, Nat.zero_add, Nat.add_zero]
      rw [vF_none (fun m hm hf => hp m hf.1 (by omega) hf.2.2.1)] at h
      exact h H1 p1 (fr_o f1)
    | succ j ih =>
      intro k H1 e1 e0 e2 hn hp q1 q2 p1 t1 f1
      obtain ⟨po, ta, tk, nu, wo, it, h36⟩ := oP_cl p1
      have hc : (200 < k) = False := eq_false (by omega)
      simp (disch := omega) only [w166_0, w166_1, w166_2, w166_3, w166_6, w166_9, w166_10, w166_13, w166_14, w166_15, w166_18, w166_19, w166_22, w166_23, w166_24, w166_25, w166_26, w166_29, w166_31, w166_32, w166_33, w166_34, w166_36, w166_38, w166_41, w166_44, w166_45, w166_48, w166_51, w166_54, w166_55, w166_56, w166_59, w166_62, w166_63, w166_66, w166_67, w166_68, w166_69, w166_72, w166_73, w166_76, w166_78, w166_79, w166_80, w166_83, w166_84, w166_87, w166_89, w166_92, w166_93, w166_96, w166_97, w166_98, w166_99, w166_102, w166_103, w166_106, w166_107, w166_108, w166_111, w166_114, w166_115, ma_kV_ap, ma_kC_s, ma_kC_n, ma_kH_ap, ma_gf_ap, ma_pf_ap, ma_cv_ap, ma_nt_0, ma_nt_s, ma_if_t, ma_if_f, ma_set_s, ma_set_ss, ma_set_2, ma_cat_n, ma_cat_i, ma_cat_l, ma_cat_r, ma_clr_n, ma_clr_i, ma_clr_l, ma_clr_r, ma_clr_0, ma_rf_s, ma_rf_n, ma_ial_ap, ma_ias_ap, List.set_cons_zero, List.set_cons_succ, List.length_cons, List.length_nil, Nat.reduceAdd, Nat.reduceLT, Nat.reduceLeDiff, Nat.le_refl, true_and, and_true, Nat.lt_add_one, fa_lit, nI_add, pk_mul, pk_sub, pk_div, ma_rem_n, nI_ltI, nI_leI, nI_eq, Nat.reduceEqDiff, Nat.reduceMul, Nat.reduceSub, not_false_eq_true, not_true_eq_false, or_true, true_or, or_false, false_or, eq_self, Nat.zero_add, Nat.add_zero, hc, h36]
      refine q_isDone (ok_git hok (k - 1)) t1 (fun hd => ?_) (fun hd => ?_)
      · simp (disch := omega) only [w166_0, w166_1, w166_2, w166_3, w166_6, w166_9, w166_10, w166_13, w166_14, w166_15, w166_18, w166_19, w166_22, w166_23, w166_24, w166_25, w166_26, w166_29, w166_31, w166_32, w166_33, w166_34, w166_36, w166_38, w166_41, w166_44, w166_45, w166_48, w166_51, w166_54, w166_55, w166_56, w166_59, w166_62, w166_63, w166_66, w166_67, w166_68, w166_69, w166_72, w166_73, w166_76, w166_78, w166_79, w166_80, w166_83, w166_84, w166_87, w166_89, w166_92, w166_93, w166_96, w166_97, w166_98, w166_99, w166_102, w166_103, w166_106, w166_107, w166_108, w166_111, w166_114, w166_115, ma_kV_ap, ma_kC_s, ma_kC_n, ma_kH_ap, ma_gf_ap, ma_pf_ap, ma_cv_ap, ma_nt_0, ma_nt_s, ma_if_t, ma_if_f, ma_set_s, ma_set_ss, ma_set_2, ma_cat_n, ma_cat_i, ma_cat_l, ma_cat_r, ma_clr_n, ma_clr_i, ma_clr_l, ma_clr_r, ma_clr_0, ma_rf_s, ma_rf_n, ma_ial_ap, ma_ias_ap, List.set_cons_zero, List.set_cons_succ, List.length_cons, List.length_nil, Nat.reduceAdd, Nat.reduceLT, Nat.reduceLeDiff, Nat.le_refl, true_and, and_true, Nat.lt_add_one, fa_lit, nI_add, pk_mul, pk_sub, pk_div, ma_rem_n, nI_ltI, nI_leI, nI_eq, Nat.reduceEqDiff, Nat.reduceMul, Nat.reduceSub, not_false_eq_true, not_true_eq_false, or_true, true_or, or_false, false_or, eq_self, Nat.zero_add, Nat.add_zero]
        rw [vF_none (fun m hm hf => ?_)] at h
        · exact h H1 p1 (fr_o f1)
        · rcases Nat.lt_or_ge m k with z | z
          · exact hp m hf.1 z hf.2.2.1
          · exact hf.2.1 (k - 1) (by omega) hd
      · have hmk := gmv_git g.1 (k - 1)
        simp (disch := omega) only [w166_0, w166_1, w166_2, w166_3, w166_6, w166_9, w166_10, w166_13, w166_14, w166_15, w166_18, w166_19, w166_22, w166_23, w166_24, w166_25, w166_26, w166_29, w166_31, w166_32, w166_33, w166_34, w166_36, w166_38, w166_41, w166_44, w166_45, w166_48, w166_51, w166_54, w166_55, w166_56, w166_59, w166_62, w166_63, w166_66, w166_67, w166_68, w166_69, w166_72, w166_73, w166_76, w166_78, w166_79, w166_80, w166_83, w166_84, w166_87, w166_89, w166_92, w166_93, w166_96, w166_97, w166_98, w166_99, w166_102, w166_103, w166_106, w166_107, w166_108, w166_111, w166_114, w166_115, ma_kV_ap, ma_kC_s, ma_kC_n, ma_kH_ap, ma_gf_ap, ma_pf_ap, ma_cv_ap, ma_nt_0, ma_nt_s, ma_if_t, ma_if_f, ma_set_s, ma_set_ss, ma_set_2, ma_cat_n, ma_cat_i, ma_cat_l, ma_cat_r, ma_clr_n, ma_clr_i, ma_clr_l, ma_clr_r, ma_clr_0, ma_rf_s, ma_rf_n, ma_ial_ap, ma_ias_ap, List.set_cons_zero, List.set_cons_succ, List.length_cons, List.length_nil, Nat.reduceAdd, Nat.reduceLT, Nat.reduceLeDiff, Nat.le_refl, true_and, and_true, Nat.lt_add_one, fa_lit, nI_add, pk_mul, pk_sub, pk_div, ma_rem_n, nI_ltI, nI_leI, nI_eq, Nat.reduceEqDiff, Nat.reduceMul, Nat.reduceSub, not_false_eq_true, not_true_eq_false, or_true, true_or, or_false, false_or, eq_self, Nat.zero_add, Nat.add_zero, h36]
        refine q_lay (ok_git hok (k - 1)) (by omega) hd p1 t1 (fun H2 p2 t2 f2 => ?_)
        have tk' := gm_taken hd
        rw [← git_s, show k - 1 + 1 = k by omega] at t2 tk'
        have hn' : ∀ i, i < k → ¬ gdone (git i g.1) := fun i hi => by
          rcases Nat.lt_or_ge i (k - 1) with z | z
          · exact hn i z
          · have : i = k - 1 := by omega
            subst this; exact hd
        have hmk2 := gmv_git g.1 k
        obtain ⟨y1, y2⟩ := tz_le (ok_git hok k)
        obtain ⟨po, ta, tk, nu, wo, it, h36⟩ := oP_cl p2
        have t2' := t2
        obtain ⟨⟨f, h43, hM⟩, hu⟩ := t2'
        obtain ⟨v5, v6⟩ := gM_56 hM
        rw [q1, q2] at tk'
        rcases tk' with ⟨hpe, ⟨w1, w2, w3⟩ | ⟨w1, w2, w3⟩⟩ | ⟨hpe, w2, w3⟩
        · have hf : gft g.1 k := ⟨e0, hn', hpe, hp⟩
          rw [vF_some (by omega) hf, w1] at h
          have c5 : (gtz g.1 < gtz g.1 + 1) = True := eq_true (by omega)
          have c5' : (gtz g.1 + 1 ≤ gtz g.1) = False := eq_false (by omega)
          rcases (show b = 0 ∨ b = 1 by omega) with rfl | rfl
          · simp (disch := omega) only [w166_0, w166_1, w166_2, w166_3, w166_6, w166_9, w166_10, w166_13, w166_14, w166_15, w166_18, w166_19, w166_22, w166_23, w166_24, w166_25, w166_26, w166_29, w166_31, w166_32, w166_33, w166_34, w166_36, w166_38, w166_41, w166_44, w166_45, w166_48, w166_51, w166_54, w166_55, w166_56, w166_59, w166_62, w166_63, w166_66, w166_67, w166_68, w166_69, w166_72, w166_73, w166_76, w166_78, w166_79, w166_80, w166_83, w166_84, w166_87, w166_89, w166_92, w166_93, w166_96, w166_97, w166_98, w166_99, w166_102, w166_103, w166_106, w166_107, w166_108, w166_111, w166_114, w166_115, ma_kV_ap, ma_kC_s, ma_kC_n, ma_kH_ap, ma_gf_ap, ma_pf_ap, ma_cv_ap, ma_nt_0, ma_nt_s, ma_if_t, ma_if_f, ma_set_s, ma_set_ss, ma_set_2, ma_cat_n, ma_cat_i, ma_cat_l, ma_cat_r, ma_clr_n, ma_clr_i, ma_clr_l, ma_clr_r, ma_clr_0, ma_rf_s, ma_rf_n, ma_ial_ap, ma_ias_ap, List.set_cons_zero, List.set_cons_succ, List.length_cons, List.length_nil, Nat.reduceAdd, Nat.reduceLT, Nat.reduceLeDiff, Nat.le_refl, true_and, and_true, Nat.lt_add_one, fa_lit, nI_add, pk_mul, pk_sub, pk_div, ma_rem_n, nI_ltI, nI_leI, nI_eq, Nat.reduceEqDiff, Nat.reduceMul, Nat.reduceSub, not_false_eq_true, not_true_eq_false, or_true, true_or, or_false, false_or, eq_self, Nat.zero_add, Nat.add_zero, nu_in, nI_clamp, pk_us, pk_un, ma_set_n, h36, h43, v5, v6, w2, c5, c5']
            exact h H2 p2 (fr_o (fr_trans f1 f2))
          · simp (disch := omega) only [w166_0, w166_1, w166_2, w166_3, w166_6, w166_9, w166_10, w166_13, w166_14, w166_15, w166_18, w166_19, w166_22, w166_23, w166_24, w166_25, w166_26, w166_29, w166_31, w166_32, w166_33, w166_34, w166_36, w166_38, w166_41, w166_44, w166_45, w166_48, w166_51, w166_54, w166_55, w166_56, w166_59, w166_62, w166_63, w166_66, w166_67, w166_68, w166_69, w166_72, w166_73, w166_76, w166_78, w166_79, w166_80, w166_83, w166_84, w166_87, w166_89, w166_92, w166_93, w166_96, w166_97, w166_98, w166_99, w166_102, w166_103, w166_106, w166_107, w166_108, w166_111, w166_114, w166_115, ma_kV_ap, ma_kC_s, ma_kC_n, ma_kH_ap, ma_gf_ap, ma_pf_ap, ma_cv_ap, ma_nt_0, ma_nt_s, ma_if_t, ma_if_f, ma_set_s, ma_set_ss, ma_set_2, ma_cat_n, ma_cat_i, ma_cat_l, ma_cat_r, ma_clr_n, ma_clr_i, ma_clr_l, ma_clr_r, ma_clr_0, ma_rf_s, ma_rf_n, ma_ial_ap, ma_ias_ap, List.set_cons_zero, List.set_cons_succ, List.length_cons, List.length_nil, Nat.reduceAdd, Nat.reduceLT, Nat.reduceLeDiff, Nat.le_refl, true_and, and_true, Nat.lt_add_one, fa_lit, nI_add, pk_mul, pk_sub, pk_div, ma_rem_n, nI_ltI, nI_leI, nI_eq, Nat.reduceEqDiff, Nat.reduceMul, Nat.reduceSub, not_false_eq_true, not_true_eq_false, or_true, true_or, or_false, false_or, eq_self, Nat.zero_add, Nat.add_zero, nu_in, nI_clamp, pk_us, pk_un, ma_set_n, h36, h43, v5, v6, w2, c5, c5']
            exact h H2 p2 (fr_o (fr_trans f1 f2))
        · have hf : gft g.1 k := ⟨e0, hn', hpe, hp⟩
          rw [vF_some (by omega) hf, w1] at h
          have c5 : (gtz g.1 < gtz g.1) = False := eq_false (by omega)
          have c5' : (gtz g.1 ≤ gtz g.1) = True := eq_true (by omega)
          have c6 : (gto g.1 + 1 ≤ gto g.1) = False := eq_false (by omega)
          rcases (show b = 0 ∨ b = 1 by omega) with rfl | rfl
          · simp (disch := omega) only [w166_0, w166_1, w166_2, w166_3, w166_6, w166_9, w166_10, w166_13, w166_14, w166_15, w166_18, w166_19, w166_22, w166_23, w166_24, w166_25, w166_26, w166_29, w166_31, w166_32, w166_33, w166_34, w166_36, w166_38, w166_41, w166_44, w166_45, w166_48, w166_51, w166_54, w166_55, w166_56, w166_59, w166_62, w166_63, w166_66, w166_67, w166_68, w166_69, w166_72, w166_73, w166_76, w166_78, w166_79, w166_80, w166_83, w166_84, w166_87, w166_89, w166_92, w166_93, w166_96, w166_97, w166_98, w166_99, w166_102, w166_103, w166_106, w166_107, w166_108, w166_111, w166_114, w166_115, ma_kV_ap, ma_kC_s, ma_kC_n, ma_kH_ap, ma_gf_ap, ma_pf_ap, ma_cv_ap, ma_nt_0, ma_nt_s, ma_if_t, ma_if_f, ma_set_s, ma_set_ss, ma_set_2, ma_cat_n, ma_cat_i, ma_cat_l, ma_cat_r, ma_clr_n, ma_clr_i, ma_clr_l, ma_clr_r, ma_clr_0, ma_rf_s, ma_rf_n, ma_ial_ap, ma_ias_ap, List.set_cons_zero, List.set_cons_succ, List.length_cons, List.length_nil, Nat.reduceAdd, Nat.reduceLT, Nat.reduceLeDiff, Nat.le_refl, true_and, and_true, Nat.lt_add_one, fa_lit, nI_add, pk_mul, pk_sub, pk_div, ma_rem_n, nI_ltI, nI_leI, nI_eq, Nat.reduceEqDiff, Nat.reduceMul, Nat.reduceSub, not_false_eq_true, not_true_eq_false, or_true, true_or, or_false, false_or, eq_self, Nat.zero_add, Nat.add_zero, nu_in, nI_clamp, pk_us, pk_un, ma_set_n, h36, h43, v5, v6, w2, w3, c5, c5', c6]
            exact h H2 p2 (fr_o (fr_trans f1 f2))
          · simp (disch := omega) only [w166_0, w166_1, w166_2, w166_3, w166_6, w166_9, w166_10, w166_13, w166_14, w166_15, w166_18, w166_19, w166_22, w166_23, w166_24, w166_25, w166_26, w166_29, w166_31, w166_32, w166_33, w166_34, w166_36, w166_38, w166_41, w166_44, w166_45, w166_48, w166_51, w166_54, w166_55, w166_56, w166_59, w166_62, w166_63, w166_66, w166_67, w166_68, w166_69, w166_72, w166_73, w166_76, w166_78, w166_79, w166_80, w166_83, w166_84, w166_87, w166_89, w166_92, w166_93, w166_96, w166_97, w166_98, w166_99, w166_102, w166_103, w166_106, w166_107, w166_108, w166_111, w166_114, w166_115, ma_kV_ap, ma_kC_s, ma_kC_n, ma_kH_ap, ma_gf_ap, ma_pf_ap, ma_cv_ap, ma_nt_0, ma_nt_s, ma_if_t, ma_if_f, ma_set_s, ma_set_ss, ma_set_2, ma_cat_n, ma_cat_i, ma_cat_l, ma_cat_r, ma_clr_n, ma_clr_i, ma_clr_l, ma_clr_r, ma_clr_0, ma_rf_s, ma_rf_n, ma_ial_ap, ma_ias_ap, List.set_cons_zero, List.set_cons_succ, List.length_cons, List.length_nil, Nat.reduceAdd, Nat.reduceLT, Nat.reduceLeDiff, Nat.le_refl, true_and, and_true, Nat.lt_add_one, fa_lit, nI_add, pk_mul, pk_sub, pk_div, ma_rem_n, nI_ltI, nI_leI, nI_eq, Nat.reduceEqDiff, Nat.reduceMul, Nat.reduceSub, not_false_eq_true, not_true_eq_false, or_true, true_or, or_false, false_or, eq_self, Nat.zero_add, Nat.add_zero, nu_in, nI_clamp, pk_us, pk_un, ma_set_n, h36, h43, v5, v6, w2, w3, c5, c5', c6]
            exact h H2 p2 (fr_o (fr_trans f1 f2))
        · have c5 : (gtz g.1 < gtz g.1) = False := eq_false (by omega)
          have c6 : (gto g.1 ≤ gto g.1) = True := eq_true (by omega)
          simp (disch := omega) only [w166_0, w166_1, w166_2, w166_3, w166_6, w166_9, w166_10, w166_13, w166_14, w166_15, w166_18, w166_19, w166_22, w166_23, w166_24, w166_25, w166_26, w166_29, w166_31, w166_32, w166_33, w166_34, w166_38, w166_41, w166_44, w166_45, w166_48, w166_51, w166_54, w166_55, w166_56, w166_59, w166_62, w166_63, w166_66, w166_67, w166_68, w166_69, w166_72, w166_73, w166_76, w166_78, w166_79, w166_80, w166_83, w166_84, w166_87, w166_89, w166_92, w166_93, w166_96, w166_97, w166_98, w166_99, w166_102, w166_103, w166_106, w166_107, w166_108, w166_111, w166_114, w166_115, ma_kV_ap, ma_kC_s, ma_kC_n, ma_kH_ap, ma_gf_ap, ma_pf_ap, ma_cv_ap, ma_nt_0, ma_nt_s, ma_if_t, ma_if_f, ma_set_s, ma_set_ss, ma_set_2, ma_cat_n, ma_cat_i, ma_cat_l, ma_cat_r, ma_clr_n, ma_clr_i, ma_clr_l, ma_clr_r, ma_clr_0, ma_rf_s, ma_rf_n, ma_ial_ap, ma_ias_ap, List.set_cons_zero, List.set_cons_succ, List.length_cons, List.length_nil, Nat.reduceAdd, Nat.reduceLT, Nat.reduceLeDiff, Nat.le_refl, true_and, and_true, Nat.lt_add_one, fa_lit, nI_add, pk_mul, pk_sub, pk_div, ma_rem_n, nI_ltI, nI_leI, nI_eq, Nat.reduceEqDiff, Nat.reduceMul, Nat.reduceSub, not_false_eq_true, not_true_eq_false, or_true, true_or, or_false, false_or, eq_self, Nat.zero_add, Nat.add_zero, nu_in, nI_clamp, pk_us, pk_un, ma_set_n, h36, h43, v5, v6, w2, w3, c5, c6]
          refine ih (k + 1) H2 (by omega) (by omega) (by omega) hn' (fun i h1 h2 => ?_) w2 w3 p2 t2 (fr_trans f1 f2)
          rcases Nat.lt_or_ge i k with z | z
          · exact hp i h1 z
          · have : i = k := by omega
            subst this; exact hpe
  obtain ⟨po, ta, tk, nu, wo, it, h36⟩ := oP_cl hP
  rw [e166]
  simp (disch := omega) only [w166_0, w166_1, w166_2, w166_3, w166_6, w166_9, w166_10, w166_13, w166_14, w166_15, w166_18, w166_19, w166_22, w166_23, w166_24, w166_25, w166_26, w166_29, w166_31, w166_32, w166_33, w166_34, w166_36, w166_38, w166_41, w166_44, w166_45, w166_48, w166_51, w166_54, w166_55, w166_56, w166_59, w166_62, w166_63, w166_66, w166_67, w166_68, w166_69, w166_72, w166_73, w166_76, w166_78, w166_79, w166_80, w166_83, w166_84, w166_87, w166_89, w166_92, w166_93, w166_96, w166_97, w166_98, w166_99, w166_102, w166_103, w166_106, w166_107, w166_108, w166_111, w166_114, w166_115, ma_kV_ap, ma_kC_s, ma_kC_n, ma_kH_ap, ma_gf_ap, ma_pf_ap, ma_cv_ap, ma_nt_0, ma_nt_s, ma_if_t, ma_if_f, ma_set_s, ma_set_ss, ma_set_2, ma_cat_n, ma_cat_i, ma_cat_l, ma_cat_r, ma_clr_n, ma_clr_i, ma_clr_l, ma_clr_r, ma_clr_0, ma_rf_s, ma_rf_n, ma_ial_ap, ma_ias_ap, List.set_cons_zero, List.set_cons_succ, List.length_cons, List.length_nil, Nat.reduceAdd, Nat.reduceLT, Nat.reduceLeDiff, Nat.le_refl, true_and, and_true, Nat.lt_add_one, fa_lit]
  refine o_inT (by omega) (by decide) ?_
  simp (disch := omega) only [w166_0, w166_1, w166_2, w166_3, w166_6, w166_9, w166_10, w166_13, w166_14, w166_15, w166_18, w166_19, w166_22, w166_23, w166_24, w166_25, w166_26, w166_29, w166_31, w166_32, w166_33, w166_34, w166_36, w166_38, w166_41, w166_44, w166_45, w166_48, w166_51, w166_54, w166_55, w166_56, w166_59, w166_62, w166_63, w166_66, w166_67, w166_68, w166_69, w166_72, w166_73, w166_76, w166_78, w166_79, w166_80, w166_83, w166_84, w166_87, w166_89, w166_92, w166_93, w166_96, w166_97, w166_98, w166_99, w166_102, w166_103, w166_106, w166_107, w166_108, w166_111, w166_114, w166_115, ma_kV_ap, ma_kC_s, ma_kC_n, ma_kH_ap, ma_gf_ap, ma_pf_ap, ma_cv_ap, ma_nt_0, ma_nt_s, ma_if_t, ma_if_f, ma_set_s, ma_set_ss, ma_set_2, ma_cat_n, ma_cat_i, ma_cat_l, ma_cat_r, ma_clr_n, ma_clr_i, ma_clr_l, ma_clr_r, ma_clr_0, ma_rf_s, ma_rf_n, ma_ial_ap, ma_ias_ap, List.set_cons_zero, List.set_cons_succ, List.length_cons, List.length_nil, Nat.reduceAdd, Nat.reduceLT, Nat.reduceLeDiff, Nat.le_refl, true_and, and_true, Nat.lt_add_one, fa_lit, nI_add, pk_mul, pk_sub, pk_div, ma_rem_n, nI_ltI, nI_leI, nI_eq, Nat.reduceEqDiff, Nat.reduceMul, Nat.reduceSub, not_false_eq_true, not_true_eq_false, or_true, true_or, or_false, false_or, eq_self, Nat.zero_add, Nat.add_zero, h36]
  refine q_begins hO hP (fun H1 p1 t1 f1 => ?_)
  obtain ⟨po, ta, tk, nu, wo, it, h36⟩ := oP_cl p1
  have t1' := t1
  obtain ⟨⟨f, h43, hM⟩, hu⟩ := t1'
  obtain ⟨v5, v6⟩ := gM_56 hM
  simp (disch := omega) only [w166_0, w166_1, w166_2, w166_3, w166_6, w166_9, w166_10, w166_13, w166_14, w166_15, w166_18, w166_19, w166_22, w166_23, w166_24, w166_25, w166_26, w166_29, w166_31, w166_32, w166_33, w166_34, w166_38, w166_41, w166_44, w166_45, w166_48, w166_51, w166_54, w166_55, w166_56, w166_59, w166_62, w166_63, w166_66, w166_67, w166_68, w166_69, w166_72, w166_73, w166_76, w166_78, w166_79, w166_80, w166_83, w166_84, w166_87, w166_89, w166_92, w166_93, w166_96, w166_97, w166_98, w166_99, w166_102, w166_103, w166_106, w166_107, w166_108, w166_111, w166_114, w166_115, ma_kV_ap, ma_kC_s, ma_kC_n, ma_kH_ap, ma_gf_ap, ma_pf_ap, ma_cv_ap, ma_nt_0, ma_nt_s, ma_if_t, ma_if_f, ma_set_s, ma_set_ss, ma_set_2, ma_cat_n, ma_cat_i, ma_cat_l, ma_cat_r, ma_clr_n, ma_clr_i, ma_clr_l, ma_clr_r, ma_clr_0, ma_rf_s, ma_rf_n, ma_ial_ap, ma_ias_ap, List.set_cons_zero, List.set_cons_succ, List.length_cons, List.length_nil, Nat.reduceAdd, Nat.reduceLT, Nat.reduceLeDiff, Nat.le_refl, true_and, and_true, Nat.lt_add_one, fa_lit, nI_add, pk_mul, pk_sub, pk_div, ma_rem_n, nI_ltI, nI_leI, nI_eq, Nat.reduceEqDiff, Nat.reduceMul, Nat.reduceSub, not_false_eq_true, not_true_eq_false, or_true, true_or, or_false, false_or, eq_self, Nat.zero_add, Nat.add_zero, nu_in, nI_clamp, pk_us, pk_un, ma_set_n, h36, h43, v5, v6]
  exact loop 200 1 H1 rfl (by omega) (by omega) (fun i hi => by omega) (fun i h1 h2 => by omega) rfl rfl p1 t1 f1
end OT

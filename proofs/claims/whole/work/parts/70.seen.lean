/-! what a call leaves as it was; the class Seen -/
def fr (H H' : ma_H) (a b : Nat) : Prop := H'.2 = H.2 ∧ ∀ j, (j < a ∨ b ≤ j) → H'.1 j = H.1 j
theorem fr_refl (H : ma_H) (a b : Nat) : fr H H a b := ⟨rfl, fun _ _ => rfl⟩
theorem fr_trans {H H1 H2 : ma_H} {a b : Nat} (h1 : fr H H1 a b) (h2 : fr H1 H2 a b) : fr H H2 a b := ⟨h2.1.trans h1.1, fun j hj => (h2.2 j hj).trans (h1.2 j hj)⟩
theorem fr_mono {H H' : ma_H} {a b a' b' : Nat} (h : fr H H' a b) (ha : a' ≤ a) (hb : b ≤ b') : fr H H' a' b' := ⟨h.1, fun j hj => h.2 j (by omega)⟩
theorem fr_set (H : ma_H) {i a b : Nat} (c : ma_C) (h1 : a ≤ i) (h2 : i < b) : fr H (ma_set H i c) a b := ⟨rfl, fun j hj => ma_set_n _ _ (by omega)⟩
theorem fr_set' {H H1 : ma_H} {i a b : Nat} {c : ma_C} (h : fr H H1 a b) (h1 : a ≤ i) (h2 : i < b) : fr H (ma_set H1 i c) a b := fr_trans h (fr_set H1 c h1 h2)
/-- player, number, place, told -/
abbrev gSe : Type := Nat × Nat × Nat × Nat
def seF (l : List gSe) (f0 f1 f2 f3 : Nat → Int32) : Prop := ∀ (k : Nat) (e : gSe), l[k]? = some e → f0 k = nI e.1 ∧ f1 k = nI e.2.1 ∧ f2 k = nI e.2.2.1 ∧ f3 k = nI e.2.2.2
def seP (H : ma_H) (b : Nat) (l : List gSe) : Prop := ∃ f0 f1 f2 f3 : Nat → Int32, H.1 b = .inr (3, [.ref (b + 1), .ref (b + 2), .ref (b + 3), .ref (b + 4), .int (nI l.length)]) ∧ H.1 (b + 1) = arI 6 f0 ∧ H.1 (b + 2) = arI 6 f1 ∧ H.1 (b + 3) = arI 6 f2 ∧ H.1 (b + 4) = arI 6 f3 ∧ seF l f0 f1 f2 f3
theorem seP_cong {H H' : ma_H} {b : Nat} {l : List gSe} (h : seP H b l) (hc : ∀ j, b ≤ j → j < b + 5 → H'.1 j = H.1 j) : seP H' b l := by
  obtain ⟨f0, f1, f2, f3, h0, h1, h2, h3, h4, h5⟩ := h
  exact ⟨f0, f1, f2, f3, (hc b (by omega) (by omega)).trans h0, (hc _ (by omega) (by omega)).trans h1, (hc _ (by omega) (by omega)).trans h2, (hc _ (by omega) (by omega)).trans h3, (hc _ (by omega) (by omega)).trans h4, h5⟩
theorem seP_cl {H : ma_H} {b : Nat} {l : List gSe} (h : seP H b l) : H.1 b = .inr (3, [.ref (b + 1), .ref (b + 2), .ref (b + 3), .ref (b + 4), .int (nI l.length)]) := by
  obtain ⟨f0, f1, f2, f3, h0, -⟩ := h; exact h0
section SE
variable {d b : Nat} {H : ma_H} {Q : ma_P} {l : List gSe}
theorem s_size (hP : seP H b l) (h : Q (some (.int (nI l.length))) H) : ma_MW (d + 1) 25 [.ref b] H Q := by
  have h0 := seP_cl hP
  rw [e25]
  simp (disch := omega) only [w25_0, w25_1, w25_4, ma_kV_ap, ma_kC_s, ma_kC_n, ma_kH_ap, ma_gf_ap, ma_pf_ap, ma_cv_ap, ma_nt_0, ma_nt_s, ma_if_t, ma_if_f, ma_set_s, ma_set_ss, ma_set_2, ma_cat_n, ma_cat_i, ma_cat_l, ma_cat_r, ma_clr_n, ma_clr_i, ma_clr_l, ma_clr_r, ma_clr_0, ma_rf_s, ma_rf_n, ma_ial_ap, ma_ias_ap, List.set_cons_zero, List.set_cons_succ, List.length_cons, List.length_nil, Nat.reduceAdd, Nat.reduceLT, Nat.reduceLeDiff, Nat.le_refl, true_and, and_true, Nat.lt_add_one, h0]
  exact h
theorem s_isFull (hl : l.length ≤ 6) (hP : seP H b l) (h1 : l.length = 6 → Q (some (.int (nI 1))) H) (h2 : l.length < 6 → Q (some (.int (nI 0))) H) : ma_MW (d + 1) 26 [.ref b] H Q := by
  have h0 := seP_cl hP
  rw [e26]
  simp (disch := omega) only [w26_0, w26_1, w26_4, w26_6, w26_9, w26_10, w26_13, w26_14, ma_kV_ap, ma_kC_s, ma_kC_n, ma_kH_ap, ma_gf_ap, ma_pf_ap, ma_cv_ap, ma_nt_0, ma_nt_s, ma_if_t, ma_if_f, ma_set_s, ma_set_ss, ma_set_2, ma_cat_n, ma_cat_i, ma_cat_l, ma_cat_r, ma_clr_n, ma_clr_i, ma_clr_l, ma_clr_r, ma_clr_0, ma_rf_s, ma_rf_n, ma_ial_ap, ma_ias_ap, List.set_cons_zero, List.set_cons_succ, List.length_cons, List.length_nil, Nat.reduceAdd, Nat.reduceLT, Nat.reduceLeDiff, Nat.le_refl, true_and, and_true, Nat.lt_add_one, fa_lit, nI_add, pk_mul, pk_sub, pk_div, ma_rem_n, nI_ltI, nI_leI, nI_eq, Nat.reduceEqDiff, Nat.reduceMul, Nat.reduceSub, not_false_eq_true, not_true_eq_false, or_true, true_or, or_false, false_or, eq_self, Nat.zero_add, Nat.add_zero, h0]
  refine ⟨fun c => ?_, fun c => ?_⟩
  · simp (disch := omega) only [w26_0, w26_1, w26_4, w26_6, w26_9, w26_10, w26_13, w26_14, ma_kV_ap, ma_kC_s, ma_kC_n, ma_kH_ap, ma_gf_ap, ma_pf_ap, ma_cv_ap, ma_nt_0, ma_nt_s, ma_if_t, ma_if_f, ma_set_s, ma_set_ss, ma_set_2, ma_cat_n, ma_cat_i, ma_cat_l, ma_cat_r, ma_clr_n, ma_clr_i, ma_clr_l, ma_clr_r, ma_clr_0, ma_rf_s, ma_rf_n, ma_ial_ap, ma_ias_ap, List.set_cons_zero, List.set_cons_succ, List.length_cons, List.length_nil, Nat.reduceAdd, Nat.reduceLT, Nat.reduceLeDiff, Nat.le_refl, true_and, and_true, Nat.lt_add_one, fa_lit, nI_add, pk_mul, pk_sub, pk_div, ma_rem_n, nI_ltI, nI_leI, nI_eq, Nat.reduceEqDiff, Nat.reduceMul, Nat.reduceSub, not_false_eq_true, not_true_eq_false, or_true, true_or, or_false, false_or, eq_self, Nat.zero_add, Nat.add_zero]
    exact h2 (by omega)
  · simp (disch := omega) only [w26_0, w26_1, w26_4, w26_6, w26_9, w26_10, w26_13, w26_14, ma_kV_ap, ma_kC_s, ma_kC_n, ma_kH_ap, ma_gf_ap, ma_pf_ap, ma_cv_ap, ma_nt_0, ma_nt_s, ma_if_t, ma_if_f, ma_set_s, ma_set_ss, ma_set_2, ma_cat_n, ma_cat_i, ma_cat_l, ma_cat_r, ma_clr_n, ma_clr_i, ma_clr_l, ma_clr_r, ma_clr_0, ma_rf_s, ma_rf_n, ma_ial_ap, ma_ias_ap, List.set_cons_zero, List.set_cons_succ, List.length_cons, List.length_nil, Nat.reduceAdd, Nat.reduceLT, Nat.reduceLeDiff, Nat.le_refl, true_and, and_true, Nat.lt_add_one, fa_lit, nI_add, pk_mul, pk_sub, pk_div, ma_rem_n, nI_ltI, nI_leI, nI_eq, Nat.reduceEqDiff, Nat.reduceMul, Nat.reduceSub, not_false_eq_true, not_true_eq_false, or_true, true_or, or_false, false_or, eq_self, Nat.zero_add, Nat.add_zero]
    exact h1 (by omega)
theorem s_empty (hP : seP H b l) (h : ∀ H', seP H' b [] → fr H H' b (b + 5) → Q none H') : ma_MW (d + 1) 27 [.ref b] H Q := by
  obtain ⟨f0, f1, f2, f3, h0, h1, h2, h3, h4, h5⟩ := hP
  rw [e27]
  simp (disch := omega) only [w27_0, w27_1, w27_2, w27_5, ma_kV_ap, ma_kC_s, ma_kC_n, ma_kH_ap, ma_gf_ap, ma_pf_ap, ma_cv_ap, ma_nt_0, ma_nt_s, ma_if_t, ma_if_f, ma_set_s, ma_set_ss, ma_set_2, ma_cat_n, ma_cat_i, ma_cat_l, ma_cat_r, ma_clr_n, ma_clr_i, ma_clr_l, ma_clr_r, ma_clr_0, ma_rf_s, ma_rf_n, ma_ial_ap, ma_ias_ap, List.set_cons_zero, List.set_cons_succ, List.length_cons, List.length_nil, Nat.reduceAdd, Nat.reduceLT, Nat.reduceLeDiff, Nat.le_refl, true_and, and_true, Nat.lt_add_one, fa_lit, nI_add, pk_mul, pk_sub, pk_div, ma_rem_n, nI_ltI, nI_leI, nI_eq, Nat.reduceEqDiff, Nat.reduceMul, Nat.reduceSub, not_false_eq_true, not_true_eq_false, or_true, true_or, or_false, false_or, eq_self, Nat.zero_add, Nat.add_zero, h0]
  refine h _ ⟨f0, f1, f2, f3, ma_set_s _ _ _, ?_, ?_, ?_, ?_, fun k e hk => by simp at hk⟩ (fr_set _ _ (by omega) (by omega))
  · rw [ma_set_n _ _ (by omega)]; exact h1
  · rw [ma_set_n _ _ (by omega)]; exact h2
  · rw [ma_set_n _ _ (by omega)]; exact h3
  · rw [ma_set_n _ _ (by omega)]; exact h4
theorem s_add {p n k x : Nat} (hb : 4 ≤ b) (hl : l.length < 6) (hP : seP H b l) (h : ∀ H', seP H' b (l ++ [(p, n, k, x)]) → fr H H' b (b + 5) → Q none H') : ma_MW (d + 2) 28 [.ref b, .int (nI p), .int (nI n), .int (nI k), .int (nI x)] H Q := by
  have hP2 := hP
  obtain ⟨f0, f1, f2, f3, h0, h1, h2, h3, h4, h5⟩ := hP
  have g1 : (4 ≤ b + 1) = True := eq_true (by omega)
  have g2 : (4 ≤ b + 2) = True := eq_true (by omega)
  have g3 : (4 ≤ b + 3) = True := eq_true (by omega)
  have g4 : (4 ≤ b + 4) = True := eq_true (by omega)
  rw [e28]
  simp (disch := omega) only [w28_0, w28_1, w28_4, w28_7, w28_8, w28_11, w28_12, w28_15, w28_16, w28_17, w28_18, w28_21, w28_22, w28_25, w28_26, w28_27, w28_28, w28_31, w28_32, w28_35, w28_36, w28_37, w28_38, w28_41, w28_42, w28_45, w28_47, w28_48, w28_49, w28_49i, w28_50, w28_53, w28_54, w28_55, w28_58, ma_kV_ap, ma_kC_s, ma_kC_n, ma_kH_ap, ma_gf_ap, ma_pf_ap, ma_cv_ap, ma_nt_0, ma_nt_s, ma_if_t, ma_if_f, ma_set_s, ma_set_ss, ma_set_2, ma_cat_n, ma_cat_i, ma_cat_l, ma_cat_r, ma_clr_n, ma_clr_i, ma_clr_l, ma_clr_r, ma_clr_0, ma_rf_s, ma_rf_n, ma_ial_ap, ma_ias_ap, List.set_cons_zero, List.set_cons_succ, List.length_cons, List.length_nil, Nat.reduceAdd, Nat.reduceLT, Nat.reduceLeDiff, Nat.le_refl, true_and, and_true, Nat.lt_add_one, h0]
  refine s_isFull (by omega) hP2 (fun c => absurd c (by omega)) (fun _ => ?_)
  simp (disch := omega) only [w28_0, w28_1, w28_4, w28_7, w28_8, w28_11, w28_12, w28_15, w28_16, w28_17, w28_18, w28_21, w28_22, w28_25, w28_26, w28_27, w28_28, w28_31, w28_32, w28_35, w28_36, w28_37, w28_38, w28_41, w28_42, w28_45, w28_47, w28_48, w28_49, w28_49i, w28_50, w28_53, w28_54, w28_55, w28_58, ma_kV_ap, ma_kC_s, ma_kC_n, ma_kH_ap, ma_gf_ap, ma_pf_ap, ma_cv_ap, ma_nt_0, ma_nt_s, ma_if_t, ma_if_f, ma_set_s, ma_set_ss, ma_set_2, ma_cat_n, ma_cat_i, ma_cat_l, ma_cat_r, ma_clr_n, ma_clr_i, ma_clr_l, ma_clr_r, ma_clr_0, ma_rf_s, ma_rf_n, ma_ial_ap, ma_ias_ap, List.set_cons_zero, List.set_cons_succ, List.length_cons, List.length_nil, Nat.reduceAdd, Nat.reduceLT, Nat.reduceLeDiff, Nat.le_refl, true_and, and_true, Nat.lt_add_one, fa_lit, nI_add, pk_mul, pk_sub, pk_div, ma_rem_n, nI_ltI, nI_leI, nI_eq, Nat.reduceEqDiff, Nat.reduceMul, Nat.reduceSub, not_false_eq_true, not_true_eq_false, or_true, true_or, or_false, false_or, eq_self, Nat.zero_add, Nat.add_zero, nu_in, nI_clamp, pk_us, pk_un, ma_set_n, h0, h1, h2, h3, h4, g1, g2, g3, g4]
  refine h _ ⟨upd f0 l.length (nI p), upd f1 l.length (nI n), upd f2 l.length (nI k), upd f3 l.length (nI x), ?_, ?_, ?_, ?_, ?_, ?_⟩ ?_
  · rw [ma_set_s, List.length_append]; rfl
  · simp (disch := omega) only [ma_set_n, ma_set_s]
  · simp (disch := omega) only [ma_set_n, ma_set_s]
  · simp (disch := omega) only [ma_set_n, ma_set_s]
  · simp (disch := omega) only [ma_set_n, ma_set_s]
  · intro j e hj
    rcases Nat.lt_or_ge j l.length with g | g
    · rw [List.getElem?_append_left g] at hj
      rw [pk_un (by omega), pk_un (by omega), pk_un (by omega), pk_un (by omega)]
      exact h5 j e hj
    · rw [List.getElem?_append_right g] at hj
      have hz := (List.getElem?_eq_some_iff.mp hj).1
      have hk0 : j = l.length := by simp at hz; omega
      subst hk0
      rw [Nat.sub_self] at hj
      cases hj
      exact ⟨pk_us, pk_us, pk_us, pk_us⟩
  · exact fr_set' (fr_set' (fr_set' (fr_set' (fr_set' (fr_refl _ _ _) (by omega) (by omega)) (by omega) (by omega)) (by omega) (by omega)) (by omega) (by omega)) (by omega) (by omega)
end SE

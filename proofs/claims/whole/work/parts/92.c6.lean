/-! constructors of the class's parts -/
def ma_grow (H : ma_H) : ma_H := (H.1, H.2 + 1)
theorem ma_new_eq (H : ma_H) (c : ma_C) : ma_new H c = ma_set (ma_grow H) H.2 c := rfl
theorem ma_grow_set (H : ma_H) (i : Nat) (c : ma_C) : ma_grow (ma_set H i c) = ma_set (ma_grow H) i c := rfl
theorem ma_grow_2 (H : ma_H) : (ma_grow H).2 = H.2 + 1 := rfl
theorem ma_grow_1 (H : ma_H) : (ma_grow H).1 = H.1 := rfl
def t00 : ga_T := (0, 0, [], [], [], 0, 0, 0, 0, 0)
section NW
variable {d b : Nat} {H : ma_H} {Q : ma_P}
theorem n_table {fs : List Value} (hfs : fs = [.int 0, .int 0, .int 0, .long 0, .long 0, .long 0, .int 0, .int 0, .int 0, .int 0]) (h0 : H.1 b = .inr (4, fs)) (h : Q none (ma_set H b (tabC t00))) : ma_MW (d + 1) 33 [.ref b] H Q := by
  subst hfs
  rw [e33]
  simp (disch := omega) only [w33_0, w33_1, w33_4, w33_5, w33_6, w33_9, w33_10, w33_11, w33_14, w33_15, w33_16, w33_19, w33_20, w33_21, w33_24, w33_25, w33_26, w33_29, w33_30, w33_31, w33_34, w33_35, w33_36, w33_39, w33_40, w33_41, w33_44, w33_45, w33_46, w33_49, w33_50, w33_51, w33_54, ma_kV_ap, ma_kC_s, ma_kC_n, ma_kH_ap, ma_gf_ap, ma_pf_ap, ma_cv_ap, ma_nt_0, ma_nt_s, ma_if_t, ma_if_f, ma_set_s, ma_set_ss, ma_set_2, ma_cat_n, ma_cat_i, ma_cat_l, ma_cat_r, ma_clr_n, ma_clr_i, ma_clr_l, ma_clr_r, ma_clr_0, ma_rf_s, ma_rf_n, ma_ial_ap, ma_ias_ap, List.set_cons_zero, List.set_cons_succ, List.length_cons, List.length_nil, Nat.reduceAdd, Nat.reduceLT, Nat.reduceLeDiff, Nat.le_refl, true_and, and_true, Nat.lt_add_one, h0]
  exact h
theorem n_seen (h0 : H.1 b = .inr (3, [.null, .null, .null, .null, .int 0])) (h2 : H.2 = b + 1) (h : ∀ H', seP H' b [] → H'.2 = b + 5 → (∀ j, j < b → H'.1 j = H.1 j) → Q none H') : ma_MW (d + 1) 24 [.ref b] H Q := by
  rw [e24]
  simp (disch := omega) only [w24_0, w24_1, w24_4, w24_5, w24_7, w24_9, w24_12, w24_13, w24_15, w24_17, w24_20, w24_21, w24_23, w24_25, w24_28, w24_29, w24_31, w24_33, w24_36, w24_37, w24_38, w24_41, ma_kV_ap, ma_kC_s, ma_kC_n, ma_kH_ap, ma_gf_ap, ma_pf_ap, ma_cv_ap, ma_nt_0, ma_nt_s, ma_if_t, ma_if_f, ma_set_s, ma_set_ss, ma_set_2, ma_cat_n, ma_cat_i, ma_cat_l, ma_cat_r, ma_clr_n, ma_clr_i, ma_clr_l, ma_clr_r, ma_clr_0, ma_rf_s, ma_rf_n, ma_ial_ap, ma_ias_ap, List.set_cons_zero, List.set_cons_succ, List.length_cons, List.length_nil, Nat.reduceAdd, Nat.reduceLT, Nat.reduceLeDiff, Nat.le_refl, true_and, and_true, Nat.lt_add_one, ma_new_eq, ma_grow_set, ma_grow_2, ma_grow_1, Nat.add_assoc, ma_set_n, h0, h2]
  refine h _ ⟨fun _ => 0, fun _ => 0, fun _ => 0, fun _ => 0, ?_, ?_, ?_, ?_, ?_, fun k e hk => by simp at hk⟩ ?_ (fun j hj => ?_)
  · simp (disch := omega) only [ma_set_n, ma_set_s, ma_grow_1]; rfl
  · simp (disch := omega) only [ma_set_n, ma_set_s, ma_grow_1]
  · simp (disch := omega) only [ma_set_n, ma_set_s, ma_grow_1]
  · simp (disch := omega) only [ma_set_n, ma_set_s, ma_grow_1]
  · simp (disch := omega) only [ma_set_n, ma_set_s, ma_grow_1]
  · simp (disch := omega) only [ma_set_2, ma_grow_2, h2, Nat.add_assoc, Nat.reduceAdd]
  · simp (disch := omega) only [ma_set_n, ma_grow_1]
theorem n_hist (h0 : H.1 b = .inr (1, [.null, .int 0, .int 0])) (h2 : H.2 = b + 1) (h : ∀ H', hiP H' b [] → H'.2 = b + 10 → (∀ j, j < b → H'.1 j = H.1 j) → Q none H') : ma_MW (d + 2) 5 [.ref b] H Q := by
  have loop : ∀ c k, 8 - k = c → k ≤ 8 → ∀ (r : Nat → Option Nat) (H1 : ma_H), H1.2 = b + 2 + k → H1.1 b = .inr (1, [.ref (b + 1), .int 0, .int 0]) → H1.1 (b + 1) = arT 8 r → (∀ j, j < k → r j = some (b + 2 + j)) → (∀ j, j < k → H1.1 (b + 2 + j) = tabC t00) → (∀ j, j < b → H1.1 j = H.1 j) → ma_W (d + 1) 5 Q 25 [some (.ref b), some (.int (nI k))] [] H1 (1 + k) (8 + 10 * k) := by
    intro c
    induction c with
    | zero =>
      intro k e1 e2 r H1 q2 qb q1 qr qt ql
      have ek : k = 8 := by omega
      subst ek
      simp (disch := omega) only [w5_0, w5_1, w5_4, w5_5, w5_7, w5_10, w5_13, w5_14, w5_15, w5_18, w5_19, w5_20, w5_23, w5_24, w5_25, w5_26, w5_28, w5_31, w5_32, w5_35, w5_36, w5_39, w5_39i, w5_40, w5_43, w5_44, w5_47, w5_50, ma_kV_ap, ma_kC_s, ma_kC_n, ma_kH_ap, ma_gf_ap, ma_pf_ap, ma_cv_ap, ma_nt_0, ma_nt_s, ma_if_t, ma_if_f, ma_set_s, ma_set_ss, ma_set_2, ma_cat_n, ma_cat_i, ma_cat_l, ma_cat_r, ma_clr_n, ma_clr_i, ma_clr_l, ma_clr_r, ma_clr_0, ma_rf_s, ma_rf_n, ma_ial_ap, ma_ias_ap, List.set_cons_zero, List.set_cons_succ, List.length_cons, List.length_nil, Nat.reduceAdd, Nat.reduceLT, Nat.reduceLeDiff, Nat.le_refl, true_and, and_true, Nat.lt_add_one, fa_lit, nI_add, pk_mul, pk_sub, pk_div, ma_rem_n, nI_ltI, nI_leI, nI_eq, Nat.reduceEqDiff, Nat.reduceMul, Nat.reduceSub, not_false_eq_true, not_true_eq_false, or_true, true_or, or_false, false_or, eq_self, Nat.zero_add, Nat.add_zero]
      exact h H1 ⟨0, r, fun _ => t00, by decide, qb, q1, qr, qt, fun k hk => absurd hk (by simp)⟩ (by omega) ql
    | succ c ih =>
      intro k e1 e2 r H1 q2 qb q1 qr qt ql
      have hc : (8 ≤ k) = False := eq_false (by omega)
      have a1 : (1 + k + 1 ≤ 9) = True := eq_true (by omega)
      have a2 : (8 + 10 * k + 10 ≤ 88) = True := eq_true (by omega)
      have a3 : (1 + k + 1 + 0 ≤ 9) = True := eq_true (by omega)
      have a4 : (8 + 10 * k + 10 + 0 ≤ 88) = True := eq_true (by omega)
      rw [w5_25, w5_26, w5_28]
      have hif : (8 : Int32) ≤ nI k ↔ 8 ≤ k := nI_leI (a := 8) (by omega) (by omega)
      refine ⟨fun z => absurd (hif.mp z) (by omega), fun _ => ?_⟩
      simp (disch := omega) only [w5_0, w5_1, w5_4, w5_5, w5_7, w5_10, w5_13, w5_14, w5_15, w5_18, w5_19, w5_20, w5_23, w5_24, w5_25, w5_26, w5_28, w5_31, w5_32, w5_35, w5_36, w5_39, w5_39i, w5_40, w5_43, w5_44, w5_47, w5_50, ma_kV_ap, ma_gf_ap, ma_nt_0, ma_cat_r, ma_cat_i, ma_cat_n, Nat.reduceAdd, Nat.reduceLeDiff, true_and, a1, a2, qb]
      refine n_table rfl (by rw [ma_new_s]) ?_
      have eH : ma_set (ma_new H1 (.inr (4, [.int 0, .int 0, .int 0, .long 0, .long 0, .long 0, .int 0, .int 0, .int 0, .int 0]))) H1.2 (tabC t00) = ma_set (ma_grow H1) (b + 2 + k) (tabC t00) := by
        rw [ma_new_eq, ma_set_ss, q2]
      rw [eH, q2]
      have f1 : (ma_set (ma_grow H1) (b + 2 + k) (tabC t00)).1 (b + 1) = .inl (.object "BeggarPile$Table", 8, .inr (.inr (.inr (.inr r)))) := by rw [ma_set_n _ _ (by omega)]; exact q1
      have f2 : (ma_set (ma_grow H1) (b + 2 + k) (tabC t00)).1 (b + 2 + k) = .inr (4, [.int (nI 0), .int (nI 0), .int (nI 0), .long (enc []), .long (enc []), .long (enc []), .int (nI 0), .int (nI 0), .int (nI 0), .int (nI 0)]) := ma_set_s _ _ _
      simp (disch := omega) only [w5_0, w5_1, w5_4, w5_5, w5_7, w5_10, w5_13, w5_14, w5_15, w5_18, w5_19, w5_20, w5_23, w5_24, w5_25, w5_26, w5_28, w5_31, w5_32, w5_35, w5_36, w5_39, w5_39i, w5_40, w5_43, w5_47, w5_50, ma_kC_n, ma_kH_ap, ma_ras_t, nu_in, true_and, f1, f2]
      have e3 : 1 + k + 1 + 0 = 1 + (k + 1) := by omega
      have e4 : 8 + 10 * k + 10 + 0 = 8 + 10 * (k + 1) := by omega
      rw [e3, e4]
      simp (disch := omega) only [w5_0, w5_1, w5_4, w5_5, w5_7, w5_10, w5_13, w5_14, w5_15, w5_18, w5_19, w5_20, w5_23, w5_24, w5_26, w5_28, w5_31, w5_32, w5_35, w5_36, w5_39, w5_39i, w5_40, w5_43, w5_44, w5_47, w5_50, ma_kV_ap, ma_kC_s, ma_kC_n, ma_kH_ap, ma_gf_ap, ma_pf_ap, ma_cv_ap, ma_nt_0, ma_nt_s, ma_if_t, ma_if_f, ma_set_s, ma_set_ss, ma_set_2, ma_cat_n, ma_cat_i, ma_cat_l, ma_cat_r, ma_clr_n, ma_clr_i, ma_clr_l, ma_clr_r, ma_clr_0, ma_rf_s, ma_rf_n, ma_ial_ap, ma_ias_ap, List.set_cons_zero, List.set_cons_succ, List.length_cons, List.length_nil, Nat.reduceAdd, Nat.reduceLT, Nat.reduceLeDiff, Nat.le_refl, true_and, and_true, Nat.lt_add_one, fa_lit, nI_add, pk_mul, pk_sub, pk_div, ma_rem_n, nI_ltI, nI_leI, nI_eq, Nat.reduceEqDiff, Nat.reduceMul, Nat.reduceSub, not_false_eq_true, not_true_eq_false, or_true, true_or, or_false, false_or, eq_self, Nat.zero_add, Nat.add_zero, nI_clamp]
      refine ih (k + 1) (by omega) (by omega) _ _ ?_ ?_ (ma_set_s _ _ _) (fun j hj => ?_) (fun j hj => ?_) (fun j hj => ?_)
      · rw [ma_set_2, ma_set_2, ma_grow_2, q2]; omega
      · rw [ma_set_n _ _ (by omega), ma_set_n _ _ (by omega)]; exact qb
      · unfold va_up
        by_cases e : j = k
        · subst e; simp
        · rw [if_neg e]; exact qr j (by omega)
      · rw [ma_set_n _ _ (by omega)]
        by_cases e : j = k
        · subst e; rw [ma_set_s]
        · rw [ma_set_n _ _ (by omega)]; exact qt j (by omega)
      · rw [ma_set_n _ _ (by omega), ma_set_n _ _ (by omega)]; exact ql j hj
  rw [e5]
  simp (disch := omega) only [w5_0, w5_1, w5_4, w5_5, w5_7, w5_10, w5_13, w5_14, w5_15, w5_18, w5_19, w5_20, w5_23, w5_24, w5_26, w5_28, w5_31, w5_32, w5_35, w5_36, w5_39, w5_39i, w5_40, w5_43, w5_44, w5_47, w5_50, ma_kV_ap, ma_kC_s, ma_kC_n, ma_kH_ap, ma_gf_ap, ma_pf_ap, ma_cv_ap, ma_nt_0, ma_nt_s, ma_if_t, ma_if_f, ma_set_s, ma_set_ss, ma_set_2, ma_cat_n, ma_cat_i, ma_cat_l, ma_cat_r, ma_clr_n, ma_clr_i, ma_clr_l, ma_clr_r, ma_clr_0, ma_rf_s, ma_rf_n, ma_ial_ap, ma_ias_ap, List.set_cons_zero, List.set_cons_succ, List.length_cons, List.length_nil, Nat.reduceAdd, Nat.reduceLT, Nat.reduceLeDiff, Nat.le_refl, true_and, and_true, Nat.lt_add_one, ma_new_eq, ma_grow_set, ma_grow_2, ma_grow_1, Nat.add_assoc, ma_set_n, h0, h2]
  refine loop _ 0 rfl (Nat.zero_le _) (fun _ => none) _ ?_ ?_ ?_ (fun j hj => by omega) (fun j hj => by omega) (fun j hj => ?_)
  · simp (disch := omega) only [ma_set_2, ma_grow_2, h2, Nat.add_assoc, Nat.reduceAdd]
  · rw [ma_set_s]
  · simp (disch := omega) only [ma_set_n, ma_set_s, ma_grow_1]
  · simp (disch := omega) only [ma_set_n, ma_grow_1]
theorem n_game (h0 : H.1 b = .inr (0, [.null, .null, .null, .null])) (h2 : H.2 = b + 1) (h : ∀ H', gmP H' b (t00, [], [], []) → H'.2 = b + 22 → (∀ j, j < b → H'.1 j = H.1 j) → Q none H') : ma_MW (d + 3) 0 [.ref b] H Q := by
  rw [e0]
  simp (disch := omega) only [w0_0, w0_1, w0_4, w0_5, w0_8, w0_8i, w0_9, w0_12, w0_15, w0_16, w0_19, w0_19i, w0_20, w0_23, w0_26, w0_27, w0_30, w0_30i, w0_31, w0_34, w0_37, w0_38, w0_41, w0_41i, w0_42, w0_45, w0_48, ma_kV_ap, ma_kC_s, ma_kC_n, ma_kH_ap, ma_gf_ap, ma_pf_ap, ma_cv_ap, ma_nt_0, ma_nt_s, ma_if_t, ma_if_f, ma_set_s, ma_set_ss, ma_set_2, ma_cat_n, ma_cat_i, ma_cat_l, ma_cat_r, ma_clr_n, ma_clr_i, ma_clr_l, ma_clr_r, ma_clr_0, ma_rf_s, ma_rf_n, ma_ial_ap, ma_ias_ap, List.set_cons_zero, List.set_cons_succ, List.length_cons, List.length_nil, Nat.reduceAdd, Nat.reduceLT, Nat.reduceLeDiff, Nat.le_refl, true_and, and_true, Nat.lt_add_one, ma_new_eq, ma_grow_set, ma_grow_2, ma_grow_1, Nat.add_assoc, ma_set_n, h0, h2]
  refine n_table rfl (ma_set_s _ _ _) ?_
  simp (disch := omega) only [w0_0, w0_1, w0_4, w0_5, w0_8, w0_8i, w0_9, w0_12, w0_15, w0_16, w0_19, w0_19i, w0_20, w0_23, w0_26, w0_27, w0_30, w0_30i, w0_31, w0_34, w0_37, w0_38, w0_41, w0_41i, w0_42, w0_45, w0_48, ma_kV_ap, ma_kC_s, ma_kC_n, ma_kH_ap, ma_gf_ap, ma_pf_ap, ma_cv_ap, ma_nt_0, ma_nt_s, ma_if_t, ma_if_f, ma_set_s, ma_set_ss, ma_set_2, ma_cat_n, ma_cat_i, ma_cat_l, ma_cat_r, ma_clr_n, ma_clr_i, ma_clr_l, ma_clr_r, ma_clr_0, ma_rf_s, ma_rf_n, ma_ial_ap, ma_ias_ap, List.set_cons_zero, List.set_cons_succ, List.length_cons, List.length_nil, Nat.reduceAdd, Nat.reduceLT, Nat.reduceLeDiff, Nat.le_refl, true_and, and_true, Nat.lt_add_one, ma_new_eq, ma_grow_set, ma_grow_2, ma_grow_1, Nat.add_assoc, ma_set_n, h0, h2]
  generalize hA : ma_set (ma_set (ma_set (ma_grow (ma_grow H)) (b + 1) (tabC t00)) b (.inr (0, [.ref (b + 1), .null, .null, .null]))) (b + 2) (.inr (1, [.null, .int 0, .int 0])) = HA
  have A2 : HA.2 = b + 3 := by rw [← hA]; simp only [ma_set_2, ma_grow_2, h2, Nat.add_assoc, Nat.reduceAdd]
  have Ab : HA.1 b = .inr (0, [.ref (b + 1), .null, .null, .null]) := by rw [← hA]; simp (disch := omega) only [ma_set_n, ma_set_s]
  have A1 : HA.1 (b + 1) = tabC t00 := by rw [← hA]; simp (disch := omega) only [ma_set_n, ma_set_s]
  have Al : ∀ j, j < b → HA.1 j = H.1 j := fun j hj => by rw [← hA]; simp (disch := omega) only [ma_set_n, ma_grow_1]
  refine n_hist (b := b + 2) (by rw [← hA, ma_set_s]) A2 (fun HB pB B2 Bl => ?_)
  have Bb := (Bl b (by omega)).trans Ab
  have B1 := (Bl (b + 1) (by omega)).trans A1
  simp (disch := omega) only [w0_0, w0_1, w0_4, w0_5, w0_8, w0_8i, w0_9, w0_12, w0_15, w0_16, w0_19, w0_19i, w0_20, w0_23, w0_26, w0_27, w0_30, w0_30i, w0_31, w0_34, w0_37, w0_38, w0_41, w0_41i, w0_42, w0_45, w0_48, ma_kV_ap, ma_kC_s, ma_kC_n, ma_kH_ap, ma_gf_ap, ma_pf_ap, ma_cv_ap, ma_nt_0, ma_nt_s, ma_if_t, ma_if_f, ma_set_s, ma_set_ss, ma_set_2, ma_cat_n, ma_cat_i, ma_cat_l, ma_cat_r, ma_clr_n, ma_clr_i, ma_clr_l, ma_clr_r, ma_clr_0, ma_rf_s, ma_rf_n, ma_ial_ap, ma_ias_ap, List.set_cons_zero, List.set_cons_succ, List.length_cons, List.length_nil, Nat.reduceAdd, Nat.reduceLT, Nat.reduceLeDiff, Nat.le_refl, true_and, and_true, Nat.lt_add_one, ma_new_eq, ma_grow_set, ma_grow_2, ma_grow_1, Nat.add_assoc, ma_set_n, Bb, B2]
  generalize hC : ma_set (ma_set (ma_grow HB) b (.inr (0, [.ref (b + 1), .ref (b + 2), .null, .null]))) (b + 12) (.inr (3, [.null, .null, .null, .null, .int 0])) = HC
  have C2 : HC.2 = b + 12 + 1 := by rw [← hC]; simp only [ma_set_2, ma_grow_2, B2, Nat.add_assoc, Nat.reduceAdd]
  have Cb : HC.1 b = .inr (0, [.ref (b + 1), .ref (b + 2), .null, .null]) := by rw [← hC]; simp (disch := omega) only [ma_set_n, ma_set_s]
  have Cl : ∀ j, j < b + 12 → j ≠ b → HC.1 j = HB.1 j := fun j hj hj2 => by rw [← hC]; simp (disch := omega) only [ma_set_n, ma_grow_1]
  refine n_seen (b := b + 12) (by rw [← hC, ma_set_s]) C2 (fun HD pD D2 Dl => ?_)
  have Db := (Dl b (by omega)).trans Cb
  simp (disch := omega) only [w0_0, w0_1, w0_4, w0_5, w0_8, w0_8i, w0_9, w0_12, w0_15, w0_16, w0_19, w0_19i, w0_20, w0_23, w0_26, w0_27, w0_30, w0_30i, w0_31, w0_34, w0_37, w0_38, w0_41, w0_41i, w0_42, w0_45, w0_48, ma_kV_ap, ma_kC_s, ma_kC_n, ma_kH_ap, ma_gf_ap, ma_pf_ap, ma_cv_ap, ma_nt_0, ma_nt_s, ma_if_t, ma_if_f, ma_set_s, ma_set_ss, ma_set_2, ma_cat_n, ma_cat_i, ma_cat_l, ma_cat_r, ma_clr_n, ma_clr_i, ma_clr_l, ma_clr_r, ma_clr_0, ma_rf_s, ma_rf_n, ma_ial_ap, ma_ias_ap, List.set_cons_zero, List.set_cons_succ, List.length_cons, List.length_nil, Nat.reduceAdd, Nat.reduceLT, Nat.reduceLeDiff, Nat.le_refl, true_and, and_true, Nat.lt_add_one, ma_new_eq, ma_grow_set, ma_grow_2, ma_grow_1, Nat.add_assoc, ma_set_n, Db, D2]
  generalize hE : ma_set (ma_set (ma_grow HD) b (.inr (0, [.ref (b + 1), .ref (b + 2), .ref (b + 12), .null]))) (b + 17) (.inr (3, [.null, .null, .null, .null, .int 0])) = HE
  have E2 : HE.2 = b + 17 + 1 := by rw [← hE]; simp only [ma_set_2, ma_grow_2, D2, Nat.add_assoc, Nat.reduceAdd]
  have Eb : HE.1 b = .inr (0, [.ref (b + 1), .ref (b + 2), .ref (b + 12), .null]) := by rw [← hE]; simp (disch := omega) only [ma_set_n, ma_set_s]
  have El : ∀ j, j < b + 17 → j ≠ b → HE.1 j = HD.1 j := fun j hj hj2 => by rw [← hE]; simp (disch := omega) only [ma_set_n, ma_grow_1]
  refine n_seen (b := b + 17) (by rw [← hE, ma_set_s]) E2 (fun HF pF F2 Fl => ?_)
  have Fb := (Fl b (by omega)).trans Eb
  simp (disch := omega) only [w0_0, w0_1, w0_4, w0_5, w0_8, w0_8i, w0_9, w0_12, w0_15, w0_16, w0_19, w0_19i, w0_20, w0_23, w0_26, w0_27, w0_30, w0_30i, w0_31, w0_34, w0_37, w0_38, w0_41, w0_41i, w0_42, w0_45, w0_48, ma_kV_ap, ma_kC_s, ma_kC_n, ma_kH_ap, ma_gf_ap, ma_pf_ap, ma_cv_ap, ma_nt_0, ma_nt_s, ma_if_t, ma_if_f, ma_set_s, ma_set_ss, ma_set_2, ma_cat_n, ma_cat_i, ma_cat_l, ma_cat_r, ma_clr_n, ma_clr_i, ma_clr_l, ma_clr_r, ma_clr_0, ma_rf_s, ma_rf_n, ma_ial_ap, ma_ias_ap, List.set_cons_zero, List.set_cons_succ, List.length_cons, List.length_nil, Nat.reduceAdd, Nat.reduceLT, Nat.reduceLeDiff, Nat.le_refl, true_and, and_true, Nat.lt_add_one, ma_new_eq, ma_grow_set, ma_grow_2, ma_grow_1, Nat.add_assoc, ma_set_n, Fb]
  have keep : ∀ j, j < b + 17 → j ≠ b → HF.1 j = HD.1 j := fun j hj hj2 => (Fl j hj).trans (El j hj hj2)
  have keep2 : ∀ j, j < b + 12 → j ≠ b → HF.1 j = HB.1 j := fun j hj hj2 => (keep j (by omega) hj2).trans ((Dl j hj).trans (Cl j hj hj2))
  refine h _ ⟨ma_set_s _ _ _, ?_, hiP_cong pB (fun j a1 a2 => ?_), seP_cong pD (fun j a1 a2 => ?_), seP_cong pF (fun j a1 a2 => ma_set_n _ _ (by omega))⟩ ?_ (fun j hj => ?_)
  · rw [ma_set_n _ _ (by omega), keep2 _ (by omega) (by omega)]; exact B1
  · rw [ma_set_n _ _ (by omega), keep2 _ (by omega) (by omega)]
  · rw [ma_set_n _ _ (by omega), keep _ (by omega) (by omega)]
  · rw [ma_set_2, F2]
  · rw [ma_set_n _ _ (by omega), keep2 _ (by omega) (by omega), Bl _ (by omega), Al _ hj]
end NW

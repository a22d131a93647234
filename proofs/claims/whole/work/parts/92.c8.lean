/-! the class BeggarPile: images -/
section CI
variable {d : Nat} {Q : ma_P} {H H' : ma_H} {g : gG} {i0 i1 i0' i1' : Option gG} {tx : List Nat} {ab bl : Int64} {c0 c1 c2 : Int32}
theorem cP_img (h : cP H g i0 i1 tx ab bl c0 c1 c2) (hf : ∀ j, j < 46 → j ≠ 28 → H'.1 j = H.1 j) (h2 : H.2 ≤ H'.2) (hi : imP H' i0' i1') : cP H' g i0' i1' tx ab bl c0 c1 c2 := by
  obtain ⟨a1, a2, ⟨y, a3⟩, a4, a5, a6, a7, a8, a9⟩ := h
  exact ⟨(hf 4 (by omega) (by omega)).trans a1, gmP_cong a2 (fun j b1 b2 => hf j (by omega) (by omega)), ⟨y, (hf 27 (by omega) (by omega)).trans a3⟩, hi, trA_cong a5 (fun j b1 b2 => hf j (by omega) (by omega)), txP_cong a6 (hf 33 (by omega) (by omega)) (hf 34 (by omega) (by omega)), rdA_cong a7 (hf 35 (by omega) (by omega)), strP_cong a8 (fun j b1 => hf j (by omega) (by omega)), by omega⟩
theorem litG2 : Int32.ofNat 2 = nI 2 := rfl
def gput {α : Type} (a : Nat) (x0 x1 x : α) : α × α := (if a = 0 then x else x0, if a = 0 then x1 else x)
/-- what an image leaves: the new game at b, the other where it was -/
theorem im_new {r : Nat → Option Nat} {a b : Nat} (ha : a < 2) (h28 : H'.1 28 = arG 2 (va_up r a (some b))) (hb : 46 ≤ b) (hb2 : b + 22 ≤ H'.2) (hg : gmP H' b g) (ho : img H' (r (1 - a)) (if a = 0 then i1 else i0)) (hd : ∀ b', r (1 - a) = some b' → b' + 22 ≤ b ∨ b + 22 ≤ b') : imP H' (gput a i0 i1 (some g)).1 (gput a i0 i1 (some g)).2 := by
  rcases (show a = 0 ∨ a = 1 by omega) with rfl | rfl
  · refine ⟨_, h28, Or.inr ⟨b, g, rfl, rfl, hb, hb2, hg⟩, ho, fun x y e1 e2 => ?_⟩
    have e1 : some b = some x := e1
    cases e1
    have := hd y e2; omega
  · refine ⟨_, h28, ho, Or.inr ⟨b, g, rfl, rfl, hb, hb2, hg⟩, fun x y e1 e2 => ?_⟩
    have e2 : some b = some y := e2
    cases e2
    have := hd x e1; omega
theorem c_image {i : Int32} (hO : sOK g i0 i1 tx) (hP : cP H g i0 i1 tx ab bl c0 c1 c2)
    (hb : ¬ inR i 0 1 → ∀ H', cP H' g i0 i1 tx ab bl (c0 + nI 1) c1 c2 → cF H H' → Q (some (.int (-nI 2))) H')
    (h1 : ∀ a, a < 2 → i = nI a → ∀ H', cP H' g (gput a i0 i1 (some g)).1 (gput a i0 i1 (some g)).2 tx ab bl c0 c1 c2 → cF H H' → Q (some (.int (nI 1))) H') : ma_MW (d + 5) 106 [.ref 4, .int i] H Q := by
  have h4 := cP_4 hP
  have h5 := cP_5 hP
  have h46 := hP.2.2.2.2.2.2.2.2
  obtain ⟨r, h28, im0, im1, hdis⟩ := hP.2.2.2.1
  have hgo := hO.1
  rw [e106]
  simp (disch := omega) only [w106_0, w106_1, w106_2, w106_3, w106_6, w106_7, w106_8, w106_9, w106_12, w106_15, w106_16, w106_19, w106_20, w106_21, w106_24, w106_25, w106_26, w106_26n, w106_27, w106_27n, w106_28, w106_28n, w106_31, w106_34, w106_34i, w106_35, w106_38, w106_38n, w106_39, w106_40, w106_43, w106_44, w106_44n, w106_45, w106_46, w106_46n, w106_47, w106_48, w106_51, w106_54, w106_55, ma_kV_ap, ma_kC_s, ma_kC_n, ma_kH_ap, ma_gf_ap, ma_pf_ap, ma_cv_ap, ma_nt_0, ma_nt_s, ma_if_t, ma_if_f, ma_set_s, ma_set_ss, ma_set_2, ma_cat_n, ma_cat_i, ma_cat_l, ma_cat_r, ma_clr_n, ma_clr_i, ma_clr_l, ma_clr_r, ma_clr_0, ma_rf_s, ma_rf_n, ma_ial_ap, ma_ias_ap, List.set_cons_zero, List.set_cons_succ, List.length_cons, List.length_nil, Nat.reduceAdd, Nat.reduceLT, Nat.reduceLeDiff, Nat.le_refl, true_and, and_true, Nat.lt_add_one, fa_lit, nI_add, pk_mul, pk_sub, pk_div, ma_rem_n, nI_ltI, nI_leI, nI_eq, Nat.reduceEqDiff, Nat.reduceMul, Nat.reduceSub, not_false_eq_true, not_true_eq_false, or_true, true_or, or_false, false_or, eq_self, Nat.zero_add, Nat.add_zero, ma_al1_g, litG2, h4, h28]
  refine b_in (by decide) (by decide) (fun a _ a2 ea => ?_) (fun n => ?_)
  · subst ea
    have ima : img H (r a) (if a = 0 then i0 else i1) := by
      rcases (show a = 0 ∨ a = 1 by omega) with rfl | rfl
      · exact im0
      · exact im1
    have imo : img H (r (1 - a)) (if a = 0 then i1 else i0) := by
      rcases (show a = 0 ∨ a = 1 by omega) with rfl | rfl
      · exact im1
      · exact im0
    rcases ima with ⟨ra, -⟩ | ⟨b, gb, ra, -, e3, e4, e5⟩
    · simp (disch := omega) only [w106_0, w106_1, w106_2, w106_3, w106_6, w106_7, w106_8, w106_9, w106_12, w106_15, w106_16, w106_19, w106_20, w106_21, w106_24, w106_25, w106_26, w106_26n, w106_27, w106_27n, w106_28, w106_28n, w106_31, w106_34, w106_34i, w106_35, w106_38, w106_38n, w106_39, w106_40, w106_43, w106_44, w106_44n, w106_45, w106_46, w106_46n, w106_47, w106_48, w106_51, w106_54, w106_55, ma_kV_ap, ma_kC_s, ma_kC_n, ma_kH_ap, ma_gf_ap, ma_pf_ap, ma_cv_ap, ma_nt_0, ma_nt_s, ma_if_t, ma_if_f, ma_set_s, ma_set_ss, ma_set_2, ma_cat_n, ma_cat_i, ma_cat_l, ma_cat_r, ma_clr_n, ma_clr_i, ma_clr_l, ma_clr_r, ma_clr_0, ma_rf_s, ma_rf_n, ma_ial_ap, ma_ias_ap, List.set_cons_zero, List.set_cons_succ, List.length_cons, List.length_nil, Nat.reduceAdd, Nat.reduceLT, Nat.reduceLeDiff, Nat.le_refl, true_and, and_true, Nat.lt_add_one, fa_lit, nI_add, pk_mul, pk_sub, pk_div, ma_rem_n, nI_ltI, nI_leI, nI_eq, Nat.reduceEqDiff, Nat.reduceMul, Nat.reduceSub, not_false_eq_true, not_true_eq_false, or_true, true_or, or_false, false_or, eq_self, Nat.zero_add, Nat.add_zero, nu_in, nI_clamp, pk_us, pk_un, ma_set_n, ma_ral_g, ra, h4, h28]
      generalize hA : ma_new H (.inr (0, [.null, .null, .null, .null])) = HA
      have A2 : HA.2 = H.2 + 1 := by rw [← hA]; rfl
      have Al : ∀ j, j < H.2 → HA.1 j = H.1 j := fun j hj => by rw [← hA]; exact ma_new_n _ _ (by omega)
      refine n_game (b := H.2) (by rw [← hA, ma_new_s]) A2 (fun HB pB B2 Bl => ?_)
      have k1 : ∀ j, j < H.2 → HB.1 j = H.1 j := fun j hj => (Bl j hj).trans (Al j hj)
      have B4 := (k1 4 (by omega)).trans h4
      have B5 := (k1 5 (by omega)).trans h5
      have B28 := (k1 28 (by omega)).trans h28
      have Bb := pB.1
      have hg5 : gmP (ma_set HB 28 (arG 2 (va_up r a (some H.2)))) 5 g := gmP_cong hP.2.1 (fun j x1 x2 => by rw [ma_set_n _ _ (by omega)]; exact k1 j (by omega))
      have hgb : gmP (ma_set HB 28 (arG 2 (va_up r a (some H.2)))) H.2 (t00, [], [], []) := gmP_cong pB (fun j x1 x2 => ma_set_n _ _ (by omega))
      have hgc := hgb.1
      simp (disch := omega) only [w106_0, w106_1, w106_2, w106_3, w106_6, w106_7, w106_8, w106_9, w106_12, w106_15, w106_16, w106_19, w106_20, w106_21, w106_24, w106_25, w106_26, w106_26n, w106_27, w106_27n, w106_28, w106_28n, w106_31, w106_34, w106_34i, w106_35, w106_38, w106_38n, w106_39, w106_40, w106_43, w106_44, w106_44n, w106_45, w106_46, w106_46n, w106_47, w106_48, w106_51, w106_54, w106_55, ma_kV_ap, ma_kC_n, ma_kH_ap, ma_gf_ap, ma_cv_ap, ma_nt_0, ma_nt_s, ma_cat_n, ma_cat_i, ma_cat_r, ma_clr_n, ma_clr_i, ma_clr_r, Nat.reduceAdd, Nat.reduceLeDiff, Nat.zero_le, Nat.le_refl, true_and, Nat.add_zero, nu_in, nI_clamp, ma_ras_g, ma_set_n, B4, B5, B28, Bb, hgc]
      refine k_copyFrom (by omega) (by omega) hgo.2.2.1 hgo.2.2.2.2.1.1 hgo.2.2.2.2.2.1 hg5 hgb (fun H3 p3 f3 => ?_)
      have k3 : ∀ j, j < H.2 → j ≠ 28 → H3.1 j = H.1 j := fun j hj hj2 => by rw [f3.2 j (by omega), ma_set_n _ _ hj2]; exact k1 j hj
      have e2 : H3.2 = H.2 + 22 := by rw [f3.1, ma_set_2, B2]
      simp (disch := omega) only [w106_0, w106_1, w106_2, w106_3, w106_6, w106_7, w106_8, w106_9, w106_12, w106_15, w106_16, w106_19, w106_20, w106_21, w106_24, w106_25, w106_26, w106_26n, w106_27, w106_27n, w106_28, w106_28n, w106_31, w106_34, w106_34i, w106_35, w106_38, w106_38n, w106_39, w106_40, w106_43, w106_44, w106_44n, w106_45, w106_46, w106_46n, w106_47, w106_48, w106_51, w106_54, w106_55, ma_kV_ap, ma_kC_s, ma_kC_n, ma_kH_ap, ma_gf_ap, ma_pf_ap, ma_cv_ap, ma_nt_0, ma_nt_s, ma_if_t, ma_if_f, ma_set_s, ma_set_ss, ma_set_2, ma_cat_n, ma_cat_i, ma_cat_l, ma_cat_r, ma_clr_n, ma_clr_i, ma_clr_l, ma_clr_r, ma_clr_0, ma_rf_s, ma_rf_n, ma_ial_ap, ma_ias_ap, List.set_cons_zero, List.set_cons_succ, List.length_cons, List.length_nil, Nat.reduceAdd, Nat.reduceLT, Nat.reduceLeDiff, Nat.le_refl, true_and, and_true, Nat.lt_add_one, fa_lit]
      refine h1 a (by omega) rfl H3 (cP_img hP (fun j hj hj2 => k3 j (by omega) hj2) (by omega) (im_new (r := r) (b := H.2) (by omega) ?_ h46 (by omega) p3 ?_ (fun b' e => ?_))) ⟨by omega, fun j hj => k3 j (by omega) (by omega)⟩
      · rw [f3.2 28 (by omega), ma_set_s]
      · exact img_cong imo (by omega) (fun j x1 x2 => k3 j x2 (by omega))
      · rcases imo with ⟨z, -⟩ | ⟨b2, g2, z, -, y1, y2, -⟩
        · rw [z] at e; cases e
        · rw [z] at e; cases e; omega
    · have eb := e5.1
      simp (disch := omega) only [w106_0, w106_1, w106_2, w106_3, w106_6, w106_7, w106_8, w106_9, w106_12, w106_15, w106_16, w106_19, w106_20, w106_21, w106_24, w106_25, w106_26, w106_26n, w106_27, w106_27n, w106_28, w106_28n, w106_31, w106_34, w106_34i, w106_35, w106_38, w106_38n, w106_39, w106_40, w106_43, w106_44, w106_44n, w106_45, w106_46, w106_46n, w106_47, w106_48, w106_51, w106_54, w106_55, ma_kV_ap, ma_kC_s, ma_kC_n, ma_kH_ap, ma_gf_ap, ma_pf_ap, ma_cv_ap, ma_nt_0, ma_nt_s, ma_if_t, ma_if_f, ma_set_s, ma_set_ss, ma_set_2, ma_cat_n, ma_cat_i, ma_cat_l, ma_cat_r, ma_clr_n, ma_clr_i, ma_clr_l, ma_clr_r, ma_clr_0, ma_rf_s, ma_rf_n, ma_ial_ap, ma_ias_ap, List.set_cons_zero, List.set_cons_succ, List.length_cons, List.length_nil, Nat.reduceAdd, Nat.reduceLT, Nat.reduceLeDiff, Nat.le_refl, true_and, and_true, Nat.lt_add_one, fa_lit, nI_add, pk_mul, pk_sub, pk_div, ma_rem_n, nI_ltI, nI_leI, nI_eq, Nat.reduceEqDiff, Nat.reduceMul, Nat.reduceSub, not_false_eq_true, not_true_eq_false, or_true, true_or, or_false, false_or, eq_self, Nat.zero_add, Nat.add_zero, nu_in, nI_clamp, pk_us, pk_un, ma_set_n, ma_ral_g, ra, h4, h5, h28, eb]
      refine k_copyFrom (by omega) (by omega) hgo.2.2.1 hgo.2.2.2.2.1.1 hgo.2.2.2.2.2.1 hP.2.1 e5 (fun H3 p3 f3 => ?_)
      have hup : va_up r a (some b) = r := by
        funext x
        unfold va_up
        by_cases e : x = a
        · rw [if_pos e, e]; exact ra.symm
        · rw [if_neg e]
      simp (disch := omega) only [w106_0, w106_1, w106_2, w106_3, w106_6, w106_7, w106_8, w106_9, w106_12, w106_15, w106_16, w106_19, w106_20, w106_21, w106_24, w106_25, w106_26, w106_26n, w106_27, w106_27n, w106_28, w106_28n, w106_31, w106_34, w106_34i, w106_35, w106_38, w106_38n, w106_39, w106_40, w106_43, w106_44, w106_44n, w106_45, w106_46, w106_46n, w106_47, w106_48, w106_51, w106_54, w106_55, ma_kV_ap, ma_kC_s, ma_kC_n, ma_kH_ap, ma_gf_ap, ma_pf_ap, ma_cv_ap, ma_nt_0, ma_nt_s, ma_if_t, ma_if_f, ma_set_s, ma_set_ss, ma_set_2, ma_cat_n, ma_cat_i, ma_cat_l, ma_cat_r, ma_clr_n, ma_clr_i, ma_clr_l, ma_clr_r, ma_clr_0, ma_rf_s, ma_rf_n, ma_ial_ap, ma_ias_ap, List.set_cons_zero, List.set_cons_succ, List.length_cons, List.length_nil, Nat.reduceAdd, Nat.reduceLT, Nat.reduceLeDiff, Nat.le_refl, true_and, and_true, Nat.lt_add_one, fa_lit]
      refine h1 a (by omega) rfl H3 (cP_img hP (fun j hj hj2 => f3.2 j (by omega)) (Nat.le_of_eq f3.1.symm) (im_new (r := r) (b := b) (by omega) ?_ e3 (by rw [f3.1]; exact e4) p3 ?_ (fun b' e => ?_))) ⟨Nat.le_of_eq f3.1.symm, fun j hj => f3.2 j (by omega)⟩
      · rw [hup, f3.2 28 (by omega)]; exact h28
      · rcases imo with ⟨z, z2⟩ | ⟨b2, g2, z, z2, y1, y2, y3⟩
        · exact Or.inl ⟨z, z2⟩
        · refine Or.inr ⟨b2, g2, z, z2, y1, by rw [f3.1]; exact y2, gmP_cong y3 (fun j x1 x2 => f3.2 j ?_)⟩
          rcases (show a = 0 ∨ a = 1 by omega) with rfl | rfl
          · have := hdis b b2 ra z; omega
          · have := hdis b2 b z ra; omega
      · rcases (show a = 0 ∨ a = 1 by omega) with rfl | rfl
        · have := hdis b b' ra e; omega
        · have := hdis b' b e ra; omega
  · simp (disch := omega) only [w106_0, w106_1, w106_2, w106_3, w106_6, w106_7, w106_8, w106_9, w106_12, w106_15, w106_16, w106_19, w106_20, w106_21, w106_24, w106_25, w106_26, w106_26n, w106_27, w106_27n, w106_28, w106_28n, w106_31, w106_34, w106_34i, w106_35, w106_38, w106_38n, w106_39, w106_40, w106_43, w106_44, w106_44n, w106_45, w106_46, w106_46n, w106_47, w106_48, w106_51, w106_54, w106_55, ma_kV_ap, ma_kC_s, ma_kC_n, ma_kH_ap, ma_gf_ap, ma_pf_ap, ma_cv_ap, ma_nt_0, ma_nt_s, ma_if_t, ma_if_f, ma_set_s, ma_set_ss, ma_set_2, ma_cat_n, ma_cat_i, ma_cat_l, ma_cat_r, ma_clr_n, ma_clr_i, ma_clr_l, ma_clr_r, ma_clr_0, ma_rf_s, ma_rf_n, ma_ial_ap, ma_ias_ap, List.set_cons_zero, List.set_cons_succ, List.length_cons, List.length_nil, Nat.reduceAdd, Nat.reduceLT, Nat.reduceLeDiff, Nat.le_refl, true_and, and_true, Nat.lt_add_one, fa_lit, nI_add, pk_mul, pk_sub, pk_div, ma_rem_n, nI_ltI, nI_leI, nI_eq, Nat.reduceEqDiff, Nat.reduceMul, Nat.reduceSub, not_false_eq_true, not_true_eq_false, or_true, true_or, or_false, false_or, eq_self, Nat.zero_add, Nat.add_zero, h4]
    refine b_bad hP (fun H' p f => ?_)
    simp (disch := omega) only [w106_0, w106_1, w106_2, w106_3, w106_6, w106_7, w106_8, w106_9, w106_12, w106_15, w106_16, w106_19, w106_20, w106_21, w106_24, w106_25, w106_26, w106_26n, w106_27, w106_27n, w106_28, w106_28n, w106_31, w106_34, w106_34i, w106_35, w106_38, w106_38n, w106_39, w106_40, w106_43, w106_44, w106_44n, w106_45, w106_46, w106_46n, w106_47, w106_48, w106_51, w106_54, w106_55, ma_kV_ap, ma_kC_s, ma_kC_n, ma_kH_ap, ma_gf_ap, ma_pf_ap, ma_cv_ap, ma_nt_0, ma_nt_s, ma_if_t, ma_if_f, ma_set_s, ma_set_ss, ma_set_2, ma_cat_n, ma_cat_i, ma_cat_l, ma_cat_r, ma_clr_n, ma_clr_i, ma_clr_l, ma_clr_r, ma_clr_0, ma_rf_s, ma_rf_n, ma_ial_ap, ma_ias_ap, List.set_cons_zero, List.set_cons_succ, List.length_cons, List.length_nil, Nat.reduceAdd, Nat.reduceLT, Nat.reduceLeDiff, Nat.le_refl, true_and, and_true, Nat.lt_add_one]
    exact hb n H' p f
theorem c_from {i : Int32} (hO : sOK g i0 i1 tx) (hP : cP H g i0 i1 tx ab bl c0 c1 c2)
    (hb : ¬ inR i 0 1 → ∀ H', cP H' g i0 i1 tx ab bl (c0 + nI 1) c1 c2 → cF H H' → Q (some (.int (-nI 2))) H')
    (hn : ∀ a, a < 2 → i = nI a → (if a = 0 then i0 else i1) = none → ∀ H', cP H' g i0 i1 tx ab bl c0 (c1 + nI 1) c2 → cF H H' → Q (some (.int (-nI 3))) H')
    (h1 : ∀ a g', a < 2 → i = nI a → (if a = 0 then i0 else i1) = some g' → ∀ H', cP H' g' i0 i1 tx ab bl c0 c1 c2 → cF H H' → Q (some (.int (nI 1))) H') : ma_MW (d + 5) 107 [.ref 4, .int i] H Q := by
  have h4 := cP_4 hP
  have h5 := cP_5 hP
  have h46 := hP.2.2.2.2.2.2.2.2
  obtain ⟨r, h28, im0, im1, hdis⟩ := hP.2.2.2.1
  rw [e107]
  simp (disch := omega) only [w107_0, w107_1, w107_2, w107_3, w107_6, w107_7, w107_8, w107_9, w107_12, w107_15, w107_16, w107_19, w107_20, w107_21, w107_24, w107_25, w107_26, w107_26n, w107_27, w107_27n, w107_28, w107_28n, w107_31, w107_32, w107_35, w107_36, w107_37, w107_40, w107_40n, w107_41, w107_44, w107_45, ma_kV_ap, ma_kC_s, ma_kC_n, ma_kH_ap, ma_gf_ap, ma_pf_ap, ma_cv_ap, ma_nt_0, ma_nt_s, ma_if_t, ma_if_f, ma_set_s, ma_set_ss, ma_set_2, ma_cat_n, ma_cat_i, ma_cat_l, ma_cat_r, ma_clr_n, ma_clr_i, ma_clr_l, ma_clr_r, ma_clr_0, ma_rf_s, ma_rf_n, ma_ial_ap, ma_ias_ap, List.set_cons_zero, List.set_cons_succ, List.length_cons, List.length_nil, Nat.reduceAdd, Nat.reduceLT, Nat.reduceLeDiff, Nat.le_refl, true_and, and_true, Nat.lt_add_one, fa_lit, nI_add, pk_mul, pk_sub, pk_div, ma_rem_n, nI_ltI, nI_leI, nI_eq, Nat.reduceEqDiff, Nat.reduceMul, Nat.reduceSub, not_false_eq_true, not_true_eq_false, or_true, true_or, or_false, false_or, eq_self, Nat.zero_add, Nat.add_zero, ma_al1_g, litG2, h4, h28]
  refine b_in (by decide) (by decide) (fun a _ a2 ea => ?_) (fun n => ?_)
  · subst ea
    have ima : img H (r a) (if a = 0 then i0 else i1) := by
      rcases (show a = 0 ∨ a = 1 by omega) with rfl | rfl
      · exact im0
      · exact im1
    have hok : ∀ x, (if a = 0 then i0 else i1) = some x → gOK x := by
      rcases (show a = 0 ∨ a = 1 by omega) with rfl | rfl
      · exact hO.2.1
      · exact hO.2.2.1
    rcases ima with ⟨ra, ex⟩ | ⟨b, gb, ra, ex, e3, e4, e5⟩
    · simp (disch := omega) only [w107_0, w107_1, w107_2, w107_3, w107_6, w107_7, w107_8, w107_9, w107_12, w107_15, w107_16, w107_19, w107_20, w107_21, w107_24, w107_25, w107_26, w107_26n, w107_27, w107_27n, w107_28, w107_28n, w107_31, w107_32, w107_35, w107_36, w107_37, w107_40, w107_40n, w107_41, w107_44, w107_45, ma_kV_ap, ma_kC_s, ma_kC_n, ma_kH_ap, ma_gf_ap, ma_pf_ap, ma_cv_ap, ma_nt_0, ma_nt_s, ma_if_t, ma_if_f, ma_set_s, ma_set_ss, ma_set_2, ma_cat_n, ma_cat_i, ma_cat_l, ma_cat_r, ma_clr_n, ma_clr_i, ma_clr_l, ma_clr_r, ma_clr_0, ma_rf_s, ma_rf_n, ma_ial_ap, ma_ias_ap, List.set_cons_zero, List.set_cons_succ, List.length_cons, List.length_nil, Nat.reduceAdd, Nat.reduceLT, Nat.reduceLeDiff, Nat.le_refl, true_and, and_true, Nat.lt_add_one, fa_lit, nI_add, pk_mul, pk_sub, pk_div, ma_rem_n, nI_ltI, nI_leI, nI_eq, Nat.reduceEqDiff, Nat.reduceMul, Nat.reduceSub, not_false_eq_true, not_true_eq_false, or_true, true_or, or_false, false_or, eq_self, Nat.zero_add, Nat.add_zero, nu_in, nI_clamp, pk_us, pk_un, ma_set_n, ma_ral_g, ra, h4, h28]
      refine b_no hP (fun H' p f => ?_)
      simp (disch := omega) only [w107_0, w107_1, w107_2, w107_3, w107_6, w107_7, w107_8, w107_9, w107_12, w107_15, w107_16, w107_19, w107_20, w107_21, w107_24, w107_25, w107_26, w107_26n, w107_27, w107_27n, w107_28, w107_28n, w107_31, w107_32, w107_35, w107_36, w107_37, w107_40, w107_40n, w107_41, w107_44, w107_45, ma_kV_ap, ma_kC_s, ma_kC_n, ma_kH_ap, ma_gf_ap, ma_pf_ap, ma_cv_ap, ma_nt_0, ma_nt_s, ma_if_t, ma_if_f, ma_set_s, ma_set_ss, ma_set_2, ma_cat_n, ma_cat_i, ma_cat_l, ma_cat_r, ma_clr_n, ma_clr_i, ma_clr_l, ma_clr_r, ma_clr_0, ma_rf_s, ma_rf_n, ma_ial_ap, ma_ias_ap, List.set_cons_zero, List.set_cons_succ, List.length_cons, List.length_nil, Nat.reduceAdd, Nat.reduceLT, Nat.reduceLeDiff, Nat.le_refl, true_and, and_true, Nat.lt_add_one]
      exact hn a (by omega) rfl ex H' p f
    · have hgo := hok gb ex
      simp (disch := omega) only [w107_0, w107_1, w107_2, w107_3, w107_6, w107_7, w107_8, w107_9, w107_12, w107_15, w107_16, w107_19, w107_20, w107_21, w107_24, w107_25, w107_26, w107_26n, w107_27, w107_27n, w107_28, w107_28n, w107_31, w107_32, w107_35, w107_36, w107_37, w107_40, w107_40n, w107_41, w107_44, w107_45, ma_kV_ap, ma_kC_s, ma_kC_n, ma_kH_ap, ma_gf_ap, ma_pf_ap, ma_cv_ap, ma_nt_0, ma_nt_s, ma_if_t, ma_if_f, ma_set_s, ma_set_ss, ma_set_2, ma_cat_n, ma_cat_i, ma_cat_l, ma_cat_r, ma_clr_n, ma_clr_i, ma_clr_l, ma_clr_r, ma_clr_0, ma_rf_s, ma_rf_n, ma_ial_ap, ma_ias_ap, List.set_cons_zero, List.set_cons_succ, List.length_cons, List.length_nil, Nat.reduceAdd, Nat.reduceLT, Nat.reduceLeDiff, Nat.le_refl, true_and, and_true, Nat.lt_add_one, fa_lit, nI_add, pk_mul, pk_sub, pk_div, ma_rem_n, nI_ltI, nI_leI, nI_eq, Nat.reduceEqDiff, Nat.reduceMul, Nat.reduceSub, not_false_eq_true, not_true_eq_false, or_true, true_or, or_false, false_or, eq_self, Nat.zero_add, Nat.add_zero, nu_in, nI_clamp, pk_us, pk_un, ma_set_n, ma_ral_g, ra, h4, h5, h28]
      refine k_copyFrom (by omega) (by omega) hgo.2.2.1 hgo.2.2.2.2.1.1 hgo.2.2.2.2.2.1 e5 hP.2.1 (fun H3 p3 f3 => ?_)
      simp (disch := omega) only [w107_0, w107_1, w107_2, w107_3, w107_6, w107_7, w107_8, w107_9, w107_12, w107_15, w107_16, w107_19, w107_20, w107_21, w107_24, w107_25, w107_26, w107_26n, w107_27, w107_27n, w107_28, w107_28n, w107_31, w107_32, w107_35, w107_36, w107_37, w107_40, w107_40n, w107_41, w107_44, w107_45, ma_kV_ap, ma_kC_s, ma_kC_n, ma_kH_ap, ma_gf_ap, ma_pf_ap, ma_cv_ap, ma_nt_0, ma_nt_s, ma_if_t, ma_if_f, ma_set_s, ma_set_ss, ma_set_2, ma_cat_n, ma_cat_i, ma_cat_l, ma_cat_r, ma_clr_n, ma_clr_i, ma_clr_l, ma_clr_r, ma_clr_0, ma_rf_s, ma_rf_n, ma_ial_ap, ma_ias_ap, List.set_cons_zero, List.set_cons_succ, List.length_cons, List.length_nil, Nat.reduceAdd, Nat.reduceLT, Nat.reduceLeDiff, Nat.le_refl, true_and, and_true, Nat.lt_add_one, fa_lit]
      exact h1 a gb (by omega) rfl ex H3 (cP_now hP p3 f3) (cF_fr f3 (by omega) (by omega))
  · simp (disch := omega) only [w107_0, w107_1, w107_2, w107_3, w107_6, w107_7, w107_8, w107_9, w107_12, w107_15, w107_16, w107_19, w107_20, w107_21, w107_24, w107_25, w107_26, w107_26n, w107_27, w107_27n, w107_28, w107_28n, w107_31, w107_32, w107_35, w107_36, w107_37, w107_40, w107_40n, w107_41, w107_44, w107_45, ma_kV_ap, ma_kC_s, ma_kC_n, ma_kH_ap, ma_gf_ap, ma_pf_ap, ma_cv_ap, ma_nt_0, ma_nt_s, ma_if_t, ma_if_f, ma_set_s, ma_set_ss, ma_set_2, ma_cat_n, ma_cat_i, ma_cat_l, ma_cat_r, ma_clr_n, ma_clr_i, ma_clr_l, ma_clr_r, ma_clr_0, ma_rf_s, ma_rf_n, ma_ial_ap, ma_ias_ap, List.set_cons_zero, List.set_cons_succ, List.length_cons, List.length_nil, Nat.reduceAdd, Nat.reduceLT, Nat.reduceLeDiff, Nat.le_refl, true_and, and_true, Nat.lt_add_one, fa_lit, nI_add, pk_mul, pk_sub, pk_div, ma_rem_n, nI_ltI, nI_leI, nI_eq, Nat.reduceEqDiff, Nat.reduceMul, Nat.reduceSub, not_false_eq_true, not_true_eq_false, or_true, true_or, or_false, false_or, eq_self, Nat.zero_add, Nat.add_zero, h4]
    refine b_bad hP (fun H' p f => ?_)
    simp (disch := omega) only [w107_0, w107_1, w107_2, w107_3, w107_6, w107_7, w107_8, w107_9, w107_12, w107_15, w107_16, w107_19, w107_20, w107_21, w107_24, w107_25, w107_26, w107_26n, w107_27, w107_27n, w107_28, w107_28n, w107_31, w107_32, w107_35, w107_36, w107_37, w107_40, w107_40n, w107_41, w107_44, w107_45, ma_kV_ap, ma_kC_s, ma_kC_n, ma_kH_ap, ma_gf_ap, ma_pf_ap, ma_cv_ap, ma_nt_0, ma_nt_s, ma_if_t, ma_if_f, ma_set_s, ma_set_ss, ma_set_2, ma_cat_n, ma_cat_i, ma_cat_l, ma_cat_r, ma_clr_n, ma_clr_i, ma_clr_l, ma_clr_r, ma_clr_0, ma_rf_s, ma_rf_n, ma_ial_ap, ma_ias_ap, List.set_cons_zero, List.set_cons_succ, List.length_cons, List.length_nil, Nat.reduceAdd, Nat.reduceLT, Nat.reduceLeDiff, Nat.le_refl, true_and, and_true, Nat.lt_add_one]
    exact hb n H' p f
end CI

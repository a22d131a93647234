/-! the class BeggarPile: its picture -/
abbrev arG (n : Nat) (r : Nat → Option Nat) : ma_C := .inl (.object "BeggarPile$Game", n, .inr (.inr (.inr (.inr r))))
def beC (ab bl : Int64) (c0 c1 c2 : Int32) : ma_C := .inr (7, [.ref 5, .ref 27, .ref 28, .ref 29, .ref 33, .ref 35, .long ab, .long bl, .int c0, .int c1, .int c2])
def img (H : ma_H) (o : Option Nat) (x : Option gG) : Prop := (o = none ∧ x = none) ∨ ∃ b g, o = some b ∧ x = some g ∧ 46 ≤ b ∧ b + 22 ≤ H.2 ∧ gmP H b g
def imP (H : ma_H) (i0 i1 : Option gG) : Prop := ∃ r, H.1 28 = arG 2 r ∧ img H (r 0) i0 ∧ img H (r 1) i1 ∧ ∀ a b, r 0 = some a → r 1 = some b → a + 22 ≤ b ∨ b + 22 ≤ a
def trA (H : ma_H) : Prop := (∃ bc bm, trOK H bc bm) ∧ ∃ f, H.1 32 = arI 36 f
def rdA (H : ma_H) : Prop := ∃ a b c e, H.1 35 = rdC a b c e
def cP (H : ma_H) (g : gG) (i0 i1 : Option gG) (tx : List Nat) (ab bl : Int64) (c0 c1 c2 : Int32) : Prop :=
  H.1 4 = beC ab bl c0 c1 c2 ∧ gmP H 5 g ∧ (∃ y, H.1 27 = tabC y) ∧ imP H i0 i1 ∧ trA H ∧ txP H tx ∧ rdA H ∧ strP H ∧ 46 ≤ H.2
def cF (H H' : ma_H) : Prop := H.2 ≤ H'.2 ∧ ∀ j, (j < 4 ∨ 36 ≤ j ∧ j < 46) → H'.1 j = H.1 j
theorem cF_refl (H : ma_H) : cF H H := ⟨Nat.le_refl _, fun _ _ => rfl⟩
theorem cF_trans {H H1 H2 : ma_H} (h1 : cF H H1) (h2 : cF H1 H2) : cF H H2 := ⟨Nat.le_trans h1.1 h2.1, fun j hj => (h2.2 j hj).trans (h1.2 j hj)⟩
theorem cF_fr {H H' : ma_H} {a b : Nat} (h : fr H H' a b) (ha : 4 ≤ a) (hb : b ≤ 36) : cF H H' := ⟨Nat.le_of_eq h.1.symm, fun j hj => h.2 j (by omega)⟩
theorem img_cong {H H' : ma_H} {o : Option Nat} {x : Option gG} (h : img H o x) (h2 : H.2 ≤ H'.2) (hc : ∀ j, 46 ≤ j → j < H.2 → H'.1 j = H.1 j) : img H' o x := by
  rcases h with h | ⟨b, g, e1, e2, e3, e4, e5⟩
  · exact Or.inl h
  · exact Or.inr ⟨b, g, e1, e2, e3, by omega, gmP_cong e5 (fun j a1 a2 => hc j (by omega) (by omega))⟩
theorem imP_cong {H H' : ma_H} {i0 i1 : Option gG} (h : imP H i0 i1) (h28 : H'.1 28 = H.1 28) (h2 : H.2 ≤ H'.2) (hc : ∀ j, 46 ≤ j → j < H.2 → H'.1 j = H.1 j) : imP H' i0 i1 := by
  obtain ⟨r, a, b, c, d⟩ := h
  exact ⟨r, h28.trans a, img_cong b h2 hc, img_cong c h2 hc, d⟩
theorem trA_cong {H H' : ma_H} (h : trA H) (hc : ∀ j, 29 ≤ j → j < 33 → H'.1 j = H.1 j) : trA H' := by
  obtain ⟨⟨bc, bm, a, ⟨y, b⟩, z, c⟩, f, e⟩ := h
  exact ⟨⟨bc, bm, (hc 29 (by decide) (by decide)).trans a, ⟨y, (hc 30 (by decide) (by decide)).trans b⟩, z, (hc 31 (by decide) (by decide)).trans c⟩, f, (hc 32 (by decide) (by decide)).trans e⟩
theorem rdA_cong {H H' : ma_H} (h : rdA H) (hc : H'.1 35 = H.1 35) : rdA H' := by
  obtain ⟨a, b, c, e, f⟩ := h
  exact ⟨a, b, c, e, hc.trans f⟩
theorem strP_cong {H H' : ma_H} (h : strP H) (hc : ∀ j, j < 4 → H'.1 j = H.1 j) : strP H' := fun i hi => (hc _ (by omega)).trans (h i hi)
section CP
variable {H H' : ma_H} {g g' : gG} {i0 i1 : Option gG} {tx tx' : List Nat} {ab bl ab' bl' : Int64} {c0 c1 c2 c0' c1' c2' : Int32}
theorem cP_now (h : cP H g i0 i1 tx ab bl c0 c1 c2) (hg : gmP H' 5 g') (hf : fr H H' 5 27) : cP H' g' i0 i1 tx ab bl c0 c1 c2 := by
  obtain ⟨a1, a2, ⟨y, a3⟩, a4, a5, a6, a7, a8, a9⟩ := h
  exact ⟨(hf.2 4 (by omega)).trans a1, hg, ⟨y, (hf.2 27 (by omega)).trans a3⟩, imP_cong a4 (hf.2 28 (by omega)) (Nat.le_of_eq hf.1.symm) (fun j b1 b2 => hf.2 j (by omega)), trA_cong a5 (fun j b1 b2 => hf.2 j (by omega)), txP_cong a6 (hf.2 33 (by omega)) (hf.2 34 (by omega)), rdA_cong a7 (hf.2 35 (by omega)), strP_cong a8 (fun j b1 => hf.2 j (by omega)), by rw [hf.1]; exact a9⟩
theorem cP_be (h : cP H g i0 i1 tx ab bl c0 c1 c2) : cP (ma_set H 4 (beC ab' bl' c0' c1' c2')) g i0 i1 tx ab' bl' c0' c1' c2' := by
  obtain ⟨a1, a2, ⟨y, a3⟩, a4, a5, a6, a7, a8, a9⟩ := h
  have hf : ∀ j, j ≠ 4 → (ma_set H 4 (beC ab' bl' c0' c1' c2')).1 j = H.1 j := fun j hj => ma_set_n _ _ hj
  exact ⟨ma_set_s _ _ _, gmP_cong a2 (fun j b1 b2 => hf j (by omega)), ⟨y, (hf 27 (by omega)).trans a3⟩, imP_cong a4 (hf 28 (by omega)) (Nat.le_refl _) (fun j b1 b2 => hf j (by omega)), trA_cong a5 (fun j b1 b2 => hf j (by omega)), txP_cong a6 (hf 33 (by omega)) (hf 34 (by omega)), rdA_cong a7 (hf 35 (by omega)), strP_cong a8 (fun j b1 => hf j (by omega)), a9⟩
theorem cF_be {c : ma_C} : cF H (ma_set H 4 c) := ⟨Nat.le_refl _, fun j hj => ma_set_n _ _ (by omega)⟩
theorem cP_tr (h : cP H g i0 i1 tx ab bl c0 c1 c2) (ht : trA H') (hf : fr H H' 29 33) : cP H' g i0 i1 tx ab bl c0 c1 c2 := by
  obtain ⟨a1, a2, ⟨y, a3⟩, a4, a5, a6, a7, a8, a9⟩ := h
  exact ⟨(hf.2 4 (by omega)).trans a1, gmP_cong a2 (fun j b1 b2 => hf.2 j (by omega)), ⟨y, (hf.2 27 (by omega)).trans a3⟩, imP_cong a4 (hf.2 28 (by omega)) (Nat.le_of_eq hf.1.symm) (fun j b1 b2 => hf.2 j (by omega)), ht, txP_cong a6 (hf.2 33 (by omega)) (hf.2 34 (by omega)), rdA_cong a7 (hf.2 35 (by omega)), strP_cong a8 (fun j b1 => hf.2 j (by omega)), by rw [hf.1]; exact a9⟩
theorem cP_tx (h : cP H g i0 i1 tx ab bl c0 c1 c2) (ht : txP H' tx') (hf : fr H H' 33 35) : cP H' g i0 i1 tx' ab bl c0 c1 c2 := by
  obtain ⟨a1, a2, ⟨y, a3⟩, a4, a5, a6, a7, a8, a9⟩ := h
  exact ⟨(hf.2 4 (by omega)).trans a1, gmP_cong a2 (fun j b1 b2 => hf.2 j (by omega)), ⟨y, (hf.2 27 (by omega)).trans a3⟩, imP_cong a4 (hf.2 28 (by omega)) (Nat.le_of_eq hf.1.symm) (fun j b1 b2 => hf.2 j (by omega)), trA_cong a5 (fun j b1 b2 => hf.2 j (by omega)), ht, rdA_cong a7 (hf.2 35 (by omega)), strP_cong a8 (fun j b1 => hf.2 j (by omega)), by rw [hf.1]; exact a9⟩
theorem cP_rd {p : Nat} {t : ga_T} (h : cP H g i0 i1 tx ab bl c0 c1 c2) (ht : rS H' tx p t) (hf : frr H H') : cP H' g i0 i1 tx ab bl c0 c1 c2 := by
  obtain ⟨a1, a2, ⟨y, a3⟩, a4, a5, a6, a7, a8, a9⟩ := h
  obtain ⟨b1, b2, ⟨nu, b3, -⟩, b4⟩ := ht
  exact ⟨(hf.2 4 (by omega) (by omega)).trans a1, gmP_cong a2 (fun j b1 b2 => hf.2 j (by omega) (by omega)), ⟨t, b4⟩, imP_cong a4 (hf.2 28 (by omega) (by omega)) (Nat.le_of_eq hf.1.symm) (fun j b1 b2 => hf.2 j (by omega) (by omega)), trA_cong a5 (fun j b1 b2 => hf.2 j (by omega) (by omega)), b2, ⟨_, _, _, _, b3⟩, b1, by rw [hf.1]; exact a9⟩
theorem cF_rd (hf : frr H H') : cF H H' := ⟨Nat.le_of_eq hf.1.symm, fun j hj => hf.2 j (by omega) (by omega)⟩
/-- the cells that every walk reads -/
theorem cP_4 (h : cP H g i0 i1 tx ab bl c0 c1 c2) : H.1 4 = .inr (7, [.ref 5, .ref 27, .ref 28, .ref 29, .ref 33, .ref 35, .long ab, .long bl, .int c0, .int c1, .int c2]) := h.1
theorem cP_5 (h : cP H g i0 i1 tx ab bl c0 c1 c2) : H.1 5 = .inr (0, [.ref 6, .ref 7, .ref 17, .ref 22]) := h.2.1.1
theorem cP_6 (h : cP H g i0 i1 tx ab bl c0 c1 c2) : H.1 6 = tabC g.1 := h.2.1.2.1
theorem cP_7 (h : cP H g i0 i1 tx ab bl c0 c1 c2) : hiP H 7 g.2.1 := h.2.1.2.2.1
theorem cP_17 (h : cP H g i0 i1 tx ab bl c0 c1 c2) : seP H 17 g.2.2.1 := h.2.1.2.2.2.1
theorem cP_22 (h : cP H g i0 i1 tx ab bl c0 c1 c2) : seP H 22 g.2.2.2 := h.2.1.2.2.2.2
theorem gm_tab (h : gmP H 5 g) (h6 : H'.1 6 = tabC g'.1) (hg : g'.2 = g.2) (hf : ∀ j, j ≠ 6 → H'.1 j = H.1 j) : gmP H' 5 g' := by
  obtain ⟨a, b, c, d, e⟩ := h
  have e1 : g'.2.1 = g.2.1 := by rw [hg]
  have e2 : g'.2.2 = g.2.2 := by rw [hg]
  refine ⟨(hf 5 (by omega)).trans a, h6, ?_, ?_, ?_⟩
  · rw [e1]; exact hiP_cong c (fun j b1 b2 => hf j (by omega))
  · rw [e2]; exact seP_cong d (fun j b1 b2 => hf j (by omega))
  · rw [e2]; exact seP_cong e (fun j b1 b2 => hf j (by omega))
theorem cP_tab {t : ga_T} (h : cP H g i0 i1 tx ab bl c0 c1 c2) : cP (ma_set H 6 (tabC t)) (t, g.2) i0 i1 tx ab bl c0 c1 c2 :=
  cP_now h (gm_tab (g' := (t, g.2)) h.2.1 (ma_set_s _ _ _) rfl (fun j hj => ma_set_n _ _ hj)) (fr_set _ _ (by omega) (by omega))
theorem cP_hi {l : List ga_T} (h : cP H g i0 i1 tx ab bl c0 c1 c2) (hh : hiP H' 7 l) (hf : fr H H' 7 17) : cP H' (g.1, l, g.2.2) i0 i1 tx ab bl c0 c1 c2 := by
  obtain ⟨a, b, c, d, e⟩ := h.2.1
  exact cP_now h ⟨(hf.2 5 (by omega)).trans a, (hf.2 6 (by omega)).trans b, hh, seP_cong d (fun j b1 b2 => hf.2 j (by omega)), seP_cong e (fun j b1 b2 => hf.2 j (by omega))⟩ (fr_mono hf (by omega) (by omega))
theorem cP_no {l : List gSe} (h : cP H g i0 i1 tx ab bl c0 c1 c2) (hh : seP H' 17 l) (hf : fr H H' 17 22) : cP H' (g.1, g.2.1, l, g.2.2.2) i0 i1 tx ab bl c0 c1 c2 := by
  obtain ⟨a, b, c, d, e⟩ := h.2.1
  exact cP_now h ⟨(hf.2 5 (by omega)).trans a, (hf.2 6 (by omega)).trans b, hiP_cong c (fun j b1 b2 => hf.2 j (by omega)), hh, seP_cong e (fun j b1 b2 => hf.2 j (by omega))⟩ (fr_mono hf (by omega) (by omega))
theorem cP_ma {l : List gSe} (h : cP H g i0 i1 tx ab bl c0 c1 c2) (hh : seP H' 22 l) (hf : fr H H' 22 27) : cP H' (g.1, g.2.1, g.2.2.1, l) i0 i1 tx ab bl c0 c1 c2 := by
  obtain ⟨a, b, c, d, e⟩ := h.2.1
  exact cP_now h ⟨(hf.2 5 (by omega)).trans a, (hf.2 6 (by omega)).trans b, hiP_cong c (fun j b1 b2 => hf.2 j (by omega)), seP_cong d (fun j b1 b2 => hf.2 j (by omega)), hh⟩ (fr_mono hf (by omega) (by omega))
end CP
/-- what holds of every game that is kept -/
def gOK (g : gG) : Prop := ga_ok g.1 ∧ gmv g.1 ≤ 9999 ∧ g.2.1.length ≤ 8 ∧ (∀ t ∈ g.2.1, ga_ok t ∧ gmv t ≤ 9999 ∧ t.1 = g.1.1 ∧ t.2.1 = g.1.2.1) ∧ seOK g.2.2.1 ∧ seOK g.2.2.2
def sOK (g : gG) (i0 i1 : Option gG) (tx : List Nat) : Prop := gOK g ∧ (∀ x, i0 = some x → gOK x) ∧ (∀ x, i1 = some x → gOK x) ∧ txOK tx
section CB
variable {d : Nat} {Q : ma_P} {H : ma_H} {g : gG} {i0 i1 : Option gG} {tx : List Nat} {ab bl : Int64} {c0 c1 c2 : Int32}
theorem b_bad (hP : cP H g i0 i1 tx ab bl c0 c1 c2) (h : ∀ H', cP H' g i0 i1 tx ab bl (c0 + nI 1) c1 c2 → cF H H' → Q (some (.int (-nI 2))) H') : ma_MW (d + 1) 113 [.ref 4] H Q := by
  have h4 := cP_4 hP
  rw [e113]
  simp (disch := omega) only [w113_0, w113_1, w113_1i, w113_2, w113_5, w113_6, w113_7, w113_10, w113_12, ma_kV_ap, ma_kC_s, ma_kC_n, ma_kH_ap, ma_gf_ap, ma_pf_ap, ma_cv_ap, ma_nt_0, ma_nt_s, ma_if_t, ma_if_f, ma_set_s, ma_set_ss, ma_set_2, ma_cat_n, ma_cat_i, ma_cat_l, ma_cat_r, ma_clr_n, ma_clr_i, ma_clr_l, ma_clr_r, ma_clr_0, ma_rf_s, ma_rf_n, ma_ial_ap, ma_ias_ap, List.set_cons_zero, List.set_cons_succ, List.length_cons, List.length_nil, Nat.reduceAdd, Nat.reduceLT, Nat.reduceLeDiff, Nat.le_refl, true_and, and_true, Nat.lt_add_one, fa_lit, h4]
  exact h _ (cP_be hP) cF_be
theorem b_no (hP : cP H g i0 i1 tx ab bl c0 c1 c2) (h : ∀ H', cP H' g i0 i1 tx ab bl c0 (c1 + nI 1) c2 → cF H H' → Q (some (.int (-nI 3))) H') : ma_MW (d + 1) 114 [.ref 4] H Q := by
  have h4 := cP_4 hP
  rw [e114]
  simp (disch := omega) only [w114_0, w114_1, w114_1i, w114_2, w114_5, w114_6, w114_7, w114_10, w114_12, ma_kV_ap, ma_kC_s, ma_kC_n, ma_kH_ap, ma_gf_ap, ma_pf_ap, ma_cv_ap, ma_nt_0, ma_nt_s, ma_if_t, ma_if_f, ma_set_s, ma_set_ss, ma_set_2, ma_cat_n, ma_cat_i, ma_cat_l, ma_cat_r, ma_clr_n, ma_clr_i, ma_clr_l, ma_clr_r, ma_clr_0, ma_rf_s, ma_rf_n, ma_ial_ap, ma_ias_ap, List.set_cons_zero, List.set_cons_succ, List.length_cons, List.length_nil, Nat.reduceAdd, Nat.reduceLT, Nat.reduceLeDiff, Nat.le_refl, true_and, and_true, Nat.lt_add_one, fa_lit, h4]
  exact h _ (cP_be hP) cF_be
theorem b_full (hP : cP H g i0 i1 tx ab bl c0 c1 c2) (h : ∀ H', cP H' g i0 i1 tx ab bl c0 c1 (c2 + nI 1) → cF H H' → Q (some (.int (-nI 4))) H') : ma_MW (d + 1) 115 [.ref 4] H Q := by
  have h4 := cP_4 hP
  rw [e115]
  simp (disch := omega) only [w115_0, w115_1, w115_1i, w115_2, w115_5, w115_6, w115_7, w115_10, w115_12, ma_kV_ap, ma_kC_s, ma_kC_n, ma_kH_ap, ma_gf_ap, ma_pf_ap, ma_cv_ap, ma_nt_0, ma_nt_s, ma_if_t, ma_if_f, ma_set_s, ma_set_ss, ma_set_2, ma_cat_n, ma_cat_i, ma_cat_l, ma_cat_r, ma_clr_n, ma_clr_i, ma_clr_l, ma_clr_r, ma_clr_0, ma_rf_s, ma_rf_n, ma_ial_ap, ma_ias_ap, List.set_cons_zero, List.set_cons_succ, List.length_cons, List.length_nil, Nat.reduceAdd, Nat.reduceLT, Nat.reduceLeDiff, Nat.le_refl, true_and, and_true, Nat.lt_add_one, fa_lit, h4]
  exact h _ (cP_be hP) cF_be
/-- v is one of a .. b -/
def inR (v : Int32) (a b : Nat) : Prop := nI a ≤ v ∧ v ≤ nI b
theorem inR_of {v : Int32} {a b : Nat} (hb : b < 2 ^ 31) (h : inR v a b) (ha : a < 2 ^ 31) : ∃ q, a ≤ q ∧ q ≤ b ∧ v = nI q := by
  have h0 : ¬ v < 0 := fun z => by
    have h1 : (0 : Int32) ≤ nI a := nI_pos' ha
    have := Int32.lt_of_le_of_lt (Int32.le_trans h1 h.1) z
    exact absurd this (Int32.lt_irrefl)
  obtain ⟨q, hq, rfl⟩ := nI_of h0
  exact ⟨q, (nI_leI ha hq).mp h.1, (nI_leI hq hb).mp h.2, rfl⟩
theorem inR_nI {q a b : Nat} (hq : q < 2 ^ 31) (ha : a < 2 ^ 31) (hb : b < 2 ^ 31) (h : a ≤ q ∧ q ≤ b) : inR (nI q) a b := ⟨(nI_leI ha hq).mpr h.1, (nI_leI hq hb).mpr h.2⟩
theorem b_in {v : Int32} {a b : Nat} (ha : a < 2 ^ 31) (hb : b < 2 ^ 31) (h1 : ∀ q, a ≤ q → q ≤ b → v = nI q → Q (some (.int (nI 1))) H) (h0 : ¬ inR v a b → Q (some (.int (nI 0))) H) : ma_MW (d + 1) 116 [.int v, .int (nI a), .int (nI b)] H Q :=
  b_within (fun x y => by obtain ⟨q, e1, e2, e3⟩ := inR_of hb ⟨x, y⟩ ha; exact h1 q e1 e2 e3) (fun z => h0 z)
theorem b_isPlayer {v : Int32} (h1 : ∀ q, q < 2 → v = nI q → Q (some (.int (nI 1))) H) (h0 : ¬ inR v 0 1 → Q (some (.int (nI 0))) H) : ma_MW (d + 2) 117 [.int v] H Q := by
  rw [e117]
  simp (disch := omega) only [w117_0, w117_1, w117_2, w117_3, w117_6, ma_kV_ap, ma_kC_s, ma_kC_n, ma_kH_ap, ma_gf_ap, ma_pf_ap, ma_cv_ap, ma_nt_0, ma_nt_s, ma_if_t, ma_if_f, ma_set_s, ma_set_ss, ma_set_2, ma_cat_n, ma_cat_i, ma_cat_l, ma_cat_r, ma_clr_n, ma_clr_i, ma_clr_l, ma_clr_r, ma_clr_0, ma_rf_s, ma_rf_n, ma_ial_ap, ma_ias_ap, List.set_cons_zero, List.set_cons_succ, List.length_cons, List.length_nil, Nat.reduceAdd, Nat.reduceLT, Nat.reduceLeDiff, Nat.le_refl, true_and, and_true, Nat.lt_add_one, fa_lit]
  refine b_in (by decide) (by decide) (fun q e1 e2 e3 => ?_) (fun z => ?_)
  · simp (disch := omega) only [w117_0, w117_1, w117_2, w117_3, w117_6, ma_kV_ap, ma_kC_s, ma_kC_n, ma_kH_ap, ma_gf_ap, ma_pf_ap, ma_cv_ap, ma_nt_0, ma_nt_s, ma_if_t, ma_if_f, ma_set_s, ma_set_ss, ma_set_2, ma_cat_n, ma_cat_i, ma_cat_l, ma_cat_r, ma_clr_n, ma_clr_i, ma_clr_l, ma_clr_r, ma_clr_0, ma_rf_s, ma_rf_n, ma_ial_ap, ma_ias_ap, List.set_cons_zero, List.set_cons_succ, List.length_cons, List.length_nil, Nat.reduceAdd, Nat.reduceLT, Nat.reduceLeDiff, Nat.le_refl, true_and, and_true, Nat.lt_add_one, fa_lit, nI_add, pk_mul, pk_sub, pk_div, ma_rem_n, nI_ltI, nI_leI, nI_eq, Nat.reduceEqDiff, Nat.reduceMul, Nat.reduceSub, not_false_eq_true, not_true_eq_false, or_true, true_or, or_false, false_or, eq_self, Nat.zero_add, Nat.add_zero]
    exact h1 q (by omega) e3
  · simp (disch := omega) only [w117_0, w117_1, w117_2, w117_3, w117_6, ma_kV_ap, ma_kC_s, ma_kC_n, ma_kH_ap, ma_gf_ap, ma_pf_ap, ma_cv_ap, ma_nt_0, ma_nt_s, ma_if_t, ma_if_f, ma_set_s, ma_set_ss, ma_set_2, ma_cat_n, ma_cat_i, ma_cat_l, ma_cat_r, ma_clr_n, ma_clr_i, ma_clr_l, ma_clr_r, ma_clr_0, ma_rf_s, ma_rf_n, ma_ial_ap, ma_ias_ap, List.set_cons_zero, List.set_cons_succ, List.length_cons, List.length_nil, Nat.reduceAdd, Nat.reduceLT, Nat.reduceLeDiff, Nat.le_refl, true_and, and_true, Nat.lt_add_one, fa_lit, nI_add, pk_mul, pk_sub, pk_div, ma_rem_n, nI_ltI, nI_leI, nI_eq, Nat.reduceEqDiff, Nat.reduceMul, Nat.reduceSub, not_false_eq_true, not_true_eq_false, or_true, true_or, or_false, false_or, eq_self, Nat.zero_add, Nat.add_zero]
    exact h0 z
theorem b_isKind {v : Int32} (h1 : ∀ q, q < 6 → v = nI q → Q (some (.int (nI 1))) H) (h0 : ¬ inR v 0 5 → Q (some (.int (nI 0))) H) : ma_MW (d + 2) 118 [.int v] H Q := by
  rw [e118]
  simp (disch := omega) only [w118_0, w118_1, w118_2, w118_3, w118_6, ma_kV_ap, ma_kC_s, ma_kC_n, ma_kH_ap, ma_gf_ap, ma_pf_ap, ma_cv_ap, ma_nt_0, ma_nt_s, ma_if_t, ma_if_f, ma_set_s, ma_set_ss, ma_set_2, ma_cat_n, ma_cat_i, ma_cat_l, ma_cat_r, ma_clr_n, ma_clr_i, ma_clr_l, ma_clr_r, ma_clr_0, ma_rf_s, ma_rf_n, ma_ial_ap, ma_ias_ap, List.set_cons_zero, List.set_cons_succ, List.length_cons, List.length_nil, Nat.reduceAdd, Nat.reduceLT, Nat.reduceLeDiff, Nat.le_refl, true_and, and_true, Nat.lt_add_one, fa_lit]
  refine b_in (by decide) (by decide) (fun q e1 e2 e3 => ?_) (fun z => ?_)
  · simp (disch := omega) only [w118_0, w118_1, w118_2, w118_3, w118_6, ma_kV_ap, ma_kC_s, ma_kC_n, ma_kH_ap, ma_gf_ap, ma_pf_ap, ma_cv_ap, ma_nt_0, ma_nt_s, ma_if_t, ma_if_f, ma_set_s, ma_set_ss, ma_set_2, ma_cat_n, ma_cat_i, ma_cat_l, ma_cat_r, ma_clr_n, ma_clr_i, ma_clr_l, ma_clr_r, ma_clr_0, ma_rf_s, ma_rf_n, ma_ial_ap, ma_ias_ap, List.set_cons_zero, List.set_cons_succ, List.length_cons, List.length_nil, Nat.reduceAdd, Nat.reduceLT, Nat.reduceLeDiff, Nat.le_refl, true_and, and_true, Nat.lt_add_one, fa_lit, nI_add, pk_mul, pk_sub, pk_div, ma_rem_n, nI_ltI, nI_leI, nI_eq, Nat.reduceEqDiff, Nat.reduceMul, Nat.reduceSub, not_false_eq_true, not_true_eq_false, or_true, true_or, or_false, false_or, eq_self, Nat.zero_add, Nat.add_zero]
    exact h1 q (by omega) e3
  · simp (disch := omega) only [w118_0, w118_1, w118_2, w118_3, w118_6, ma_kV_ap, ma_kC_s, ma_kC_n, ma_kH_ap, ma_gf_ap, ma_pf_ap, ma_cv_ap, ma_nt_0, ma_nt_s, ma_if_t, ma_if_f, ma_set_s, ma_set_ss, ma_set_2, ma_cat_n, ma_cat_i, ma_cat_l, ma_cat_r, ma_clr_n, ma_clr_i, ma_clr_l, ma_clr_r, ma_clr_0, ma_rf_s, ma_rf_n, ma_ial_ap, ma_ias_ap, List.set_cons_zero, List.set_cons_succ, List.length_cons, List.length_nil, Nat.reduceAdd, Nat.reduceLT, Nat.reduceLeDiff, Nat.le_refl, true_and, and_true, Nat.lt_add_one, fa_lit, nI_add, pk_mul, pk_sub, pk_div, ma_rem_n, nI_ltI, nI_leI, nI_eq, Nat.reduceEqDiff, Nat.reduceMul, Nat.reduceSub, not_false_eq_true, not_true_eq_false, or_true, true_or, or_false, false_or, eq_self, Nat.zero_add, Nat.add_zero]
    exact h0 z
end CB

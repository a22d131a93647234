/-! the class Game -/
/-- table, what undo brings back, notes, marks -/
abbrev gG : Type := ga_T × List ga_T × List gSe × List gSe
def gmP (H : ma_H) (b : Nat) (g : gG) : Prop := H.1 b = .inr (0, [.ref (b + 1), .ref (b + 2), .ref (b + 12), .ref (b + 17)]) ∧ H.1 (b + 1) = tabC g.1 ∧ hiP H (b + 2) g.2.1 ∧ seP H (b + 12) g.2.2.1 ∧ seP H (b + 17) g.2.2.2
theorem gmP_cong {H H' : ma_H} {b : Nat} {g : gG} (h : gmP H b g) (hc : ∀ j, b ≤ j → j < b + 22 → H'.1 j = H.1 j) : gmP H' b g :=
  ⟨(hc b (by omega) (by omega)).trans h.1, (hc _ (by omega) (by omega)).trans h.2.1, hiP_cong h.2.2.1 (fun j h1 h2 => hc j (by omega) (by omega)), seP_cong h.2.2.2.1 (fun j h1 h2 => hc j (by omega) (by omega)), seP_cong h.2.2.2.2 (fun j h1 h2 => hc j (by omega) (by omega))⟩
section GM
variable {d b c : Nat} {H : ma_H} {Q : ma_P} {g g' : gG} {t : ga_T}
theorem t_begin' {i a b : Nat} (hT : H.1 i = tabC t) (h : Q none (ma_set H i (tabC (a, b, [], [], [], 0, 0, 0, 0, 0)))) : ma_MW (d + 1) 34 [.ref i, .int (nI a), .int (nI b)] H Q := by
  obtain ⟨kz, ko, hz, ho, pl, tu, db, mv, tz, to⟩ := t
  exact t_begin hT h
theorem k_forget (hP : gmP H b g) (h : ∀ H', gmP H' b (g.1, [], [], []) → fr H H' b (b + 22) → Q none H') : ma_MW (d + 2) 3 [.ref b] H Q := by
  obtain ⟨h0, h1, h2, h3, h4⟩ := hP
  obtain ⟨fs, c2⟩ := h_cl h2
  rw [e3]
  simp (disch := omega) only [w3_0, w3_1, w3_4, w3_7, w3_8, w3_11, w3_14, w3_15, w3_18, w3_21, ma_kV_ap, ma_kC_s, ma_kC_n, ma_kH_ap, ma_gf_ap, ma_pf_ap, ma_cv_ap, ma_nt_0, ma_nt_s, ma_if_t, ma_if_f, ma_set_s, ma_set_ss, ma_set_2, ma_cat_n, ma_cat_i, ma_cat_l, ma_cat_r, ma_clr_n, ma_clr_i, ma_clr_l, ma_clr_r, ma_clr_0, ma_rf_s, ma_rf_n, ma_ial_ap, ma_ias_ap, List.set_cons_zero, List.set_cons_succ, List.length_cons, List.length_nil, Nat.reduceAdd, Nat.reduceLT, Nat.reduceLeDiff, Nat.le_refl, true_and, and_true, Nat.lt_add_one, h0, c2]
  refine h_empty h2 (fun H1 p2 f1 => ?_)
  have q0 := (f1.2 b (by omega)).trans h0
  have p3 : seP H1 (b + 12) g.2.2.1 := seP_cong h3 (fun j a1 a2 => f1.2 j (by omega))
  have p4 : seP H1 (b + 17) g.2.2.2 := seP_cong h4 (fun j a1 a2 => f1.2 j (by omega))
  have c3 := seP_cl p3
  simp (disch := omega) only [w3_0, w3_1, w3_4, w3_7, w3_8, w3_11, w3_14, w3_15, w3_18, w3_21, ma_kV_ap, ma_kC_s, ma_kC_n, ma_kH_ap, ma_gf_ap, ma_pf_ap, ma_cv_ap, ma_nt_0, ma_nt_s, ma_if_t, ma_if_f, ma_set_s, ma_set_ss, ma_set_2, ma_cat_n, ma_cat_i, ma_cat_l, ma_cat_r, ma_clr_n, ma_clr_i, ma_clr_l, ma_clr_r, ma_clr_0, ma_rf_s, ma_rf_n, ma_ial_ap, ma_ias_ap, List.set_cons_zero, List.set_cons_succ, List.length_cons, List.length_nil, Nat.reduceAdd, Nat.reduceLT, Nat.reduceLeDiff, Nat.le_refl, true_and, and_true, Nat.lt_add_one, q0, c3]
  refine s_empty p3 (fun H2 p3 f2 => ?_)
  have q0 := (f2.2 b (by omega)).trans q0
  have p4 : seP H2 (b + 17) g.2.2.2 := seP_cong p4 (fun j a1 a2 => f2.2 j (by omega))
  have c4 := seP_cl p4
  simp (disch := omega) only [w3_0, w3_1, w3_4, w3_7, w3_8, w3_11, w3_14, w3_15, w3_18, w3_21, ma_kV_ap, ma_kC_s, ma_kC_n, ma_kH_ap, ma_gf_ap, ma_pf_ap, ma_cv_ap, ma_nt_0, ma_nt_s, ma_if_t, ma_if_f, ma_set_s, ma_set_ss, ma_set_2, ma_cat_n, ma_cat_i, ma_cat_l, ma_cat_r, ma_clr_n, ma_clr_i, ma_clr_l, ma_clr_r, ma_clr_0, ma_rf_s, ma_rf_n, ma_ial_ap, ma_ias_ap, List.set_cons_zero, List.set_cons_succ, List.length_cons, List.length_nil, Nat.reduceAdd, Nat.reduceLT, Nat.reduceLeDiff, Nat.le_refl, true_and, and_true, Nat.lt_add_one, q0, c4]
  refine s_empty p4 (fun H3 p4 f3 => ?_)
  simp (disch := omega) only [w3_0, w3_1, w3_4, w3_7, w3_8, w3_11, w3_14, w3_15, w3_18, w3_21, ma_kV_ap, ma_kC_s, ma_kC_n, ma_kH_ap, ma_gf_ap, ma_pf_ap, ma_cv_ap, ma_nt_0, ma_nt_s, ma_if_t, ma_if_f, ma_set_s, ma_set_ss, ma_set_2, ma_cat_n, ma_cat_i, ma_cat_l, ma_cat_r, ma_clr_n, ma_clr_i, ma_clr_l, ma_clr_r, ma_clr_0, ma_rf_s, ma_rf_n, ma_ial_ap, ma_ias_ap, List.set_cons_zero, List.set_cons_succ, List.length_cons, List.length_nil, Nat.reduceAdd, Nat.reduceLT, Nat.reduceLeDiff, Nat.le_refl, true_and, and_true, Nat.lt_add_one]
  refine h H3 ⟨(f3.2 b (by omega)).trans q0, ?_, hiP_cong p2 (fun j a1 a2 => (f3.2 j (by omega)).trans (f2.2 j (by omega))), seP_cong p3 (fun j a1 a2 => f3.2 j (by omega)), p4⟩ (fr_trans (fr_trans (fr_mono f1 (by omega) (by omega)) (fr_mono f2 (by omega) (by omega))) (fr_mono f3 (by omega) (by omega)))
  rw [f3.2 _ (by omega), f2.2 _ (by omega), f1.2 _ (by omega)]; exact h1
theorem k_begin {x y : Nat} (hP : gmP H b g) (h : ∀ H', gmP H' b ((x, y, [], [], [], 0, 0, 0, 0, 0), [], [], []) → fr H H' b (b + 22) → Q none H') : ma_MW (d + 3) 1 [.ref b, .int (nI x), .int (nI y)] H Q := by
  obtain ⟨h0, h1, h2, h3, h4⟩ := hP
  obtain ⟨fs, c1⟩ := tab_cl g.1
  have c1 := h1.trans c1
  rw [e1]
  simp (disch := omega) only [w1_0, w1_1, w1_4, w1_5, w1_6, w1_9, w1_10, w1_13, ma_kV_ap, ma_kC_s, ma_kC_n, ma_kH_ap, ma_gf_ap, ma_pf_ap, ma_cv_ap, ma_nt_0, ma_nt_s, ma_if_t, ma_if_f, ma_set_s, ma_set_ss, ma_set_2, ma_cat_n, ma_cat_i, ma_cat_l, ma_cat_r, ma_clr_n, ma_clr_i, ma_clr_l, ma_clr_r, ma_clr_0, ma_rf_s, ma_rf_n, ma_ial_ap, ma_ias_ap, List.set_cons_zero, List.set_cons_succ, List.length_cons, List.length_nil, Nat.reduceAdd, Nat.reduceLT, Nat.reduceLeDiff, Nat.le_refl, true_and, and_true, Nat.lt_add_one, h0, c1]
  refine t_begin' h1 ?_
  have q : gmP (ma_set H (b + 1) (tabC (x, y, [], [], [], 0, 0, 0, 0, 0))) b ((x, y, [], [], [], 0, 0, 0, 0, 0), g.2) := ⟨by rw [ma_set_n _ _ (by omega)]; exact h0, ma_set_s _ _ _, hiP_cong h2 (fun j a1 a2 => ma_set_n _ _ (by omega)), seP_cong h3 (fun j a1 a2 => ma_set_n _ _ (by omega)), seP_cong h4 (fun j a1 a2 => ma_set_n _ _ (by omega))⟩
  have q0 := q.1
  simp (disch := omega) only [w1_0, w1_1, w1_4, w1_5, w1_6, w1_9, w1_10, w1_13, ma_kC_n, ma_cat_n, ma_cv_ap, ma_clr_i, ma_clr_r, Nat.reduceLeDiff, Nat.zero_le, true_and, q0]
  refine k_forget q (fun H' p f => ?_)
  simp (disch := omega) only [w1_0, w1_1, w1_4, w1_5, w1_6, w1_9, w1_10, w1_13, ma_kV_ap, ma_kC_s, ma_kC_n, ma_kH_ap, ma_gf_ap, ma_pf_ap, ma_cv_ap, ma_nt_0, ma_nt_s, ma_if_t, ma_if_f, ma_set_s, ma_set_ss, ma_set_2, ma_cat_n, ma_cat_i, ma_cat_l, ma_cat_r, ma_clr_n, ma_clr_i, ma_clr_l, ma_clr_r, ma_clr_0, ma_rf_s, ma_rf_n, ma_ial_ap, ma_ias_ap, List.set_cons_zero, List.set_cons_succ, List.length_cons, List.length_nil, Nat.reduceAdd, Nat.reduceLT, Nat.reduceLeDiff, Nat.le_refl, true_and, and_true, Nat.lt_add_one]
  exact h H' p (fr_trans (fr_set _ _ (by omega) (by omega)) f)
theorem k_beginAt {i : Nat} (hi : i < b ∨ b + 22 ≤ i) (hT : H.1 i = tabC t) (hP : gmP H b g) (h : ∀ H', gmP H' b (t, [], [], []) → fr H H' b (b + 22) → Q none H') : ma_MW (d + 3) 2 [.ref b, .ref i] H Q := by
  obtain ⟨h0, h1, h2, h3, h4⟩ := hP
  obtain ⟨fs, c1⟩ := tab_cl g.1
  have c1 := h1.trans c1
  rw [e2]
  simp (disch := omega) only [w2_0, w2_1, w2_4, w2_5, w2_8, w2_9, w2_12, ma_kV_ap, ma_kC_s, ma_kC_n, ma_kH_ap, ma_gf_ap, ma_pf_ap, ma_cv_ap, ma_nt_0, ma_nt_s, ma_if_t, ma_if_f, ma_set_s, ma_set_ss, ma_set_2, ma_cat_n, ma_cat_i, ma_cat_l, ma_cat_r, ma_clr_n, ma_clr_i, ma_clr_l, ma_clr_r, ma_clr_0, ma_rf_s, ma_rf_n, ma_ial_ap, ma_ias_ap, List.set_cons_zero, List.set_cons_succ, List.length_cons, List.length_nil, Nat.reduceAdd, Nat.reduceLT, Nat.reduceLeDiff, Nat.le_refl, true_and, and_true, Nat.lt_add_one, h0, c1]
  refine t_copyFrom' (by omega) h1 hT ?_
  have q : gmP (ma_set H (b + 1) (tabC t)) b (t, g.2) := ⟨by rw [ma_set_n _ _ (by omega)]; exact h0, ma_set_s _ _ _, hiP_cong h2 (fun j a1 a2 => ma_set_n _ _ (by omega)), seP_cong h3 (fun j a1 a2 => ma_set_n _ _ (by omega)), seP_cong h4 (fun j a1 a2 => ma_set_n _ _ (by omega))⟩
  have q0 := q.1
  simp (disch := omega) only [w2_0, w2_1, w2_4, w2_5, w2_8, w2_9, w2_12, ma_kC_n, ma_cat_n, ma_cv_ap, ma_clr_i, ma_clr_r, Nat.reduceLeDiff, Nat.zero_le, true_and, q0]
  refine k_forget q (fun H' p f => ?_)
  simp (disch := omega) only [w2_0, w2_1, w2_4, w2_5, w2_8, w2_9, w2_12, ma_kV_ap, ma_kC_s, ma_kC_n, ma_kH_ap, ma_gf_ap, ma_pf_ap, ma_cv_ap, ma_nt_0, ma_nt_s, ma_if_t, ma_if_f, ma_set_s, ma_set_ss, ma_set_2, ma_cat_n, ma_cat_i, ma_cat_l, ma_cat_r, ma_clr_n, ma_clr_i, ma_clr_l, ma_clr_r, ma_clr_0, ma_rf_s, ma_rf_n, ma_ial_ap, ma_ias_ap, List.set_cons_zero, List.set_cons_succ, List.length_cons, List.length_nil, Nat.reduceAdd, Nat.reduceLT, Nat.reduceLeDiff, Nat.le_refl, true_and, and_true, Nat.lt_add_one]
  exact h H' p (fr_trans (fr_set _ _ (by omega) (by omega)) f)
theorem k_copyFrom (hb : 4 ≤ b) (hbc : b + 22 ≤ c ∨ c + 22 ≤ b) (l1 : g.2.1.length ≤ 8) (l2 : g.2.2.1.length ≤ 6) (l3 : g.2.2.2.length ≤ 6) (hP : gmP H c g) (hP' : gmP H b g') (h : ∀ H', gmP H' b g → fr H H' b (b + 22) → Q none H') : ma_MW (d + 4) 4 [.ref b, .ref c] H Q := by
  have hPP := hP
  obtain ⟨h0, h1, h2, h3, h4⟩ := hP
  obtain ⟨g0, g1, g2, g3, g4⟩ := hP'
  obtain ⟨fs, c1⟩ := tab_cl g'.1
  have c1 := g1.trans c1
  rw [e4]
  simp (disch := omega) only [w4_0, w4_1, w4_4, w4_5, w4_8, w4_11, w4_12, w4_15, w4_16, w4_19, w4_22, w4_23, w4_26, w4_27, w4_30, w4_33, w4_34, w4_37, w4_38, w4_41, w4_44, ma_kV_ap, ma_kC_s, ma_kC_n, ma_kH_ap, ma_gf_ap, ma_pf_ap, ma_cv_ap, ma_nt_0, ma_nt_s, ma_if_t, ma_if_f, ma_set_s, ma_set_ss, ma_set_2, ma_cat_n, ma_cat_i, ma_cat_l, ma_cat_r, ma_clr_n, ma_clr_i, ma_clr_l, ma_clr_r, ma_clr_0, ma_rf_s, ma_rf_n, ma_ial_ap, ma_ias_ap, List.set_cons_zero, List.set_cons_succ, List.length_cons, List.length_nil, Nat.reduceAdd, Nat.reduceLT, Nat.reduceLeDiff, Nat.le_refl, true_and, and_true, Nat.lt_add_one, h0, g0, c1]
  refine t_copyFrom' (by omega) g1 h1 ?_
  have f0 : fr H (ma_set H (b + 1) (tabC g.1)) b (b + 22) := fr_set _ _ (by omega) (by omega)
  have q1 : (ma_set H (b + 1) (tabC g.1)).1 (b + 1) = tabC g.1 := ma_set_s _ _ _
  have q2 : hiP (ma_set H (b + 1) (tabC g.1)) (b + 2) g'.2.1 := hiP_cong g2 (fun j a1 a2 => ma_set_n _ _ (by omega))
  have q3 : seP (ma_set H (b + 1) (tabC g.1)) (b + 12) g'.2.2.1 := seP_cong g3 (fun j a1 a2 => ma_set_n _ _ (by omega))
  have q4 : seP (ma_set H (b + 1) (tabC g.1)) (b + 17) g'.2.2.2 := seP_cong g4 (fun j a1 a2 => ma_set_n _ _ (by omega))
  have qb : (ma_set H (b + 1) (tabC g.1)).1 b = .inr (0, [.ref (b + 1), .ref (b + 2), .ref (b + 12), .ref (b + 17)]) := by rw [ma_set_n _ _ (by omega)]; exact g0
  generalize (ma_set H (b + 1) (tabC g.1)) = H1 at f0 q1 q2 q3 q4 qb ⊢
  have pp : ∀ H2, fr H H2 b (b + 22) → gmP H2 c g := fun H2 f => gmP_cong hPP (fun j a1 a2 => f.2 j (by omega))
  obtain ⟨r0, r1, r2, r3, r4⟩ := pp H1 f0
  obtain ⟨fs2, c2⟩ := h_cl q2
  simp (disch := omega) only [w4_0, w4_1, w4_4, w4_5, w4_8, w4_11, w4_12, w4_15, w4_16, w4_19, w4_22, w4_23, w4_26, w4_27, w4_30, w4_33, w4_34, w4_37, w4_38, w4_41, w4_44, ma_kV_ap, ma_kC_s, ma_kC_n, ma_kH_ap, ma_gf_ap, ma_pf_ap, ma_cv_ap, ma_nt_0, ma_nt_s, ma_if_t, ma_if_f, ma_set_s, ma_set_ss, ma_set_2, ma_cat_n, ma_cat_i, ma_cat_l, ma_cat_r, ma_clr_n, ma_clr_i, ma_clr_l, ma_clr_r, ma_clr_0, ma_rf_s, ma_rf_n, ma_ial_ap, ma_ias_ap, List.set_cons_zero, List.set_cons_succ, List.length_cons, List.length_nil, Nat.reduceAdd, Nat.reduceLT, Nat.reduceLeDiff, Nat.le_refl, true_and, and_true, Nat.lt_add_one, r0, qb, c2]
  refine h_copyFrom (by omega) l1 r2 q2 (fun H2 p2 f2 => ?_)
  have f0 := fr_trans f0 (fr_mono f2 (by omega) (by omega))
  obtain ⟨r0, r1, r2, r3, r4⟩ := pp H2 f0
  have qb := (f2.2 b (by omega)).trans qb
  have q1 := (f2.2 (b + 1) (by omega)).trans q1
  have q3 : seP H2 (b + 12) _ := seP_cong q3 (fun j a1 a2 => f2.2 j (by omega))
  have q4 : seP H2 (b + 17) _ := seP_cong q4 (fun j a1 a2 => f2.2 j (by omega))
  have c3 := seP_cl q3
  simp (disch := omega) only [w4_0, w4_1, w4_4, w4_5, w4_8, w4_11, w4_12, w4_15, w4_16, w4_19, w4_22, w4_23, w4_26, w4_27, w4_30, w4_33, w4_34, w4_37, w4_38, w4_41, w4_44, ma_kV_ap, ma_kC_s, ma_kC_n, ma_kH_ap, ma_gf_ap, ma_pf_ap, ma_cv_ap, ma_nt_0, ma_nt_s, ma_if_t, ma_if_f, ma_set_s, ma_set_ss, ma_set_2, ma_cat_n, ma_cat_i, ma_cat_l, ma_cat_r, ma_clr_n, ma_clr_i, ma_clr_l, ma_clr_r, ma_clr_0, ma_rf_s, ma_rf_n, ma_ial_ap, ma_ias_ap, List.set_cons_zero, List.set_cons_succ, List.length_cons, List.length_nil, Nat.reduceAdd, Nat.reduceLT, Nat.reduceLeDiff, Nat.le_refl, true_and, and_true, Nat.lt_add_one, r0, qb, c3]
  refine s_copyFrom (by omega) (by omega) l2 r3 q3 (fun H3 p3 f3 => ?_)
  have f0 := fr_trans f0 (fr_mono f3 (by omega) (by omega))
  obtain ⟨r0, r1, r2, r3, r4⟩ := pp H3 f0
  have qb := (f3.2 b (by omega)).trans qb
  have q1 := (f3.2 (b + 1) (by omega)).trans q1
  have p2 : hiP H3 (b + 2) _ := hiP_cong p2 (fun j a1 a2 => f3.2 j (by omega))
  have q4 : seP H3 (b + 17) _ := seP_cong q4 (fun j a1 a2 => f3.2 j (by omega))
  have c4 := seP_cl q4
  simp (disch := omega) only [w4_0, w4_1, w4_4, w4_5, w4_8, w4_11, w4_12, w4_15, w4_16, w4_19, w4_22, w4_23, w4_26, w4_27, w4_30, w4_33, w4_34, w4_37, w4_38, w4_41, w4_44, ma_kV_ap, ma_kC_s, ma_kC_n, ma_kH_ap, ma_gf_ap, ma_pf_ap, ma_cv_ap, ma_nt_0, ma_nt_s, ma_if_t, ma_if_f, ma_set_s, ma_set_ss, ma_set_2, ma_cat_n, ma_cat_i, ma_cat_l, ma_cat_r, ma_clr_n, ma_clr_i, ma_clr_l, ma_clr_r, ma_clr_0, ma_rf_s, ma_rf_n, ma_ial_ap, ma_ias_ap, List.set_cons_zero, List.set_cons_succ, List.length_cons, List.length_nil, Nat.reduceAdd, Nat.reduceLT, Nat.reduceLeDiff, Nat.le_refl, true_and, and_true, Nat.lt_add_one, r0, qb, c4]
  refine s_copyFrom (by omega) (by omega) l3 r4 q4 (fun H4 p4 f4 => ?_)
  simp (disch := omega) only [w4_0, w4_1, w4_4, w4_5, w4_8, w4_11, w4_12, w4_15, w4_16, w4_19, w4_22, w4_23, w4_26, w4_27, w4_30, w4_33, w4_34, w4_37, w4_38, w4_41, w4_44, ma_kV_ap, ma_kC_s, ma_kC_n, ma_kH_ap, ma_gf_ap, ma_pf_ap, ma_cv_ap, ma_nt_0, ma_nt_s, ma_if_t, ma_if_f, ma_set_s, ma_set_ss, ma_set_2, ma_cat_n, ma_cat_i, ma_cat_l, ma_cat_r, ma_clr_n, ma_clr_i, ma_clr_l, ma_clr_r, ma_clr_0, ma_rf_s, ma_rf_n, ma_ial_ap, ma_ias_ap, List.set_cons_zero, List.set_cons_succ, List.length_cons, List.length_nil, Nat.reduceAdd, Nat.reduceLT, Nat.reduceLeDiff, Nat.le_refl, true_and, and_true, Nat.lt_add_one]
  exact h H4 ⟨(f4.2 b (by omega)).trans qb, (f4.2 _ (by omega)).trans q1, hiP_cong p2 (fun j a1 a2 => f4.2 j (by omega)), seP_cong p3 (fun j a1 a2 => f4.2 j (by omega)), p4⟩ (fr_trans f0 (fr_mono f4 (by omega) (by omega)))
end GM

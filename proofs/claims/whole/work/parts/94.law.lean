/-! the law -/
theorem la_and (x : Int32) : ∃ j : Nat, j < 64 ∧ x &&& nI 63 = nI j := pk_andE x (m := nI 63) 6 (by decide)
theorem lt_len {L i : Nat} (hL : L ≤ 2560) (hi : i ≤ 2560) (h : ¬ i + 5 ≤ L) : (nI L - nI 5 < nI i) = True := by
  apply eq_true
  by_cases h5 : 5 ≤ L
  · rw [pk_sub h5, nI_ltI (by omega) (by omega)]; omega
  · exact Int32.lt_of_lt_of_le (pk_sneg (by decide) (by omega)) (nI_pos' (by omega))
section LZ
variable {L : Nat} {xs : Nat → Int32} {Q : ma_P}
theorem law_loop (hL : L ≤ 2560) (hQ : ∀ H, Q (some (.int (nI 1))) H) : ∀ m k H a b, 513 - k = m → k ≤ 512 → 5 * k ≤ L → a ≤ 42 + 22 * k → b ≤ 2867 + 163 * k → lS L xs H → ma_W 12 212 Q 18 [some (.ref 0), some (.ref 4), some (.ref 36), some (.int (nI (5 * k)))] [] H a b := by
  intro m
  induction m with
  | zero => intro k H a b e1 e2; omega
  | succ m ih =>
    intro k H a b e1 e2 e3 ha hb hl
    have h0 := lS_0 hl
    have hlen : Int32.ofNat L = nI L := rfl
    by_cases hk : 5 * k + 5 ≤ L
    · have hc : (L - 5 < 5 * k) = False := eq_false (by omega)
      obtain ⟨j, hj, ej⟩ := la_and (xs (5 * k))
      have nxt : ∀ H' a' b', a' ≤ a + 22 → b' ≤ b + 163 → lS L xs H' → ma_W 12 212 Q 991 [some (.ref 0), some (.ref 4), some (.ref 36), some (.int (nI (5 * k)))] [] H' a' b' := by
        intro H' a' b' qa qb hl'
        have := ih (k + 1) H' a' b' (by omega) (by omega) (by omega) (by omega) (by omega) hl'
        rw [show 5 * (k + 1) = 5 * k + 5 by omega] at this
        simp (disch := omega) only [w212_991, w212_994, ma_kV_ap, ma_kC_s, ma_kC_n, ma_kH_ap, ma_gf_ap, ma_pf_ap, ma_cv_ap, ma_nt_0, ma_nt_s, ma_if_t, ma_if_f, ma_set_s, ma_set_ss, ma_set_2, ma_cat_n, ma_cat_i, ma_cat_l, ma_cat_r, ma_clr_n, ma_clr_i, ma_clr_l, ma_clr_r, ma_clr_0, ma_rf_s, ma_rf_n, ma_ial_ap, ma_ias_ap, List.set_cons_zero, List.set_cons_succ, List.length_cons, List.length_nil, Nat.reduceAdd, Nat.reduceLT, Nat.reduceLeDiff, Nat.le_refl, true_and, and_true, Nat.lt_add_one, fa_lit, nI_add]
        exact this
      simp (disch := omega) only [w212_18, w212_19, w212_20, w212_21, w212_22, w212_23, w212_26, w212_27, w212_28, w212_29, w212_31, w212_32, ma_kV_ap, ma_kC_s, ma_kC_n, ma_kH_ap, ma_gf_ap, ma_pf_ap, ma_cv_ap, ma_nt_0, ma_nt_s, ma_if_t, ma_if_f, ma_set_s, ma_set_ss, ma_set_2, ma_cat_n, ma_cat_i, ma_cat_l, ma_cat_r, ma_clr_n, ma_clr_i, ma_clr_l, ma_clr_r, ma_clr_0, ma_rf_s, ma_rf_n, ma_ial_ap, ma_ias_ap, List.set_cons_zero, List.set_cons_succ, List.length_cons, List.length_nil, Nat.reduceAdd, Nat.reduceLT, Nat.reduceLeDiff, Nat.le_refl, true_and, and_true, Nat.lt_add_one, fa_lit, nI_add, pk_mul, pk_sub, pk_div, ma_rem_n, nI_ltI, nI_leI, nI_eq, Nat.reduceEqDiff, Nat.reduceMul, Nat.reduceSub, not_false_eq_true, not_true_eq_false, or_true, true_or, or_false, false_or, eq_self, Nat.zero_add, Nat.add_zero, nu_in, nI_clamp, ma_al1_i, hlen, h0, hc, ej]
      rcases (show j = 0 ∨ j = 1 ∨ j = 2 ∨ j = 3 ∨ j = 4 ∨ j = 5 ∨ j = 6 ∨ j = 7 ∨ j = 8 ∨ j = 9 ∨ j = 10 ∨ j = 11 ∨ j = 12 ∨ j = 13 ∨ j = 14 ∨ j = 15 ∨ j = 16 ∨ j = 17 ∨ j = 18 ∨ j = 19 ∨ j = 20 ∨ j = 21 ∨ j = 22 ∨ j = 23 ∨ j = 24 ∨ j = 25 ∨ j = 26 ∨ j = 27 ∨ j = 28 ∨ j = 29 ∨ j = 30 ∨ j = 31 ∨ j = 32 ∨ 33 ≤ j by omega) with rfl | rfl | rfl | rfl | rfl | rfl | rfl | rfl | rfl | rfl | rfl | rfl | rfl | rfl | rfl | rfl | rfl | rfl | rfl | rfl | rfl | rfl | rfl | rfl | rfl | rfl | rfl | rfl | rfl | rfl | rfl | rfl | rfl | hj33
      · rw [ma_sw_at 0 180 rfl (by decide)]; exact law_0 hk hL (by omega) (by omega) hl nxt
      · rw [ma_sw_at 1 213 rfl (by decide)]; exact law_1 hk hL (by omega) (by omega) hl nxt
      · rw [ma_sw_at 2 246 rfl (by decide)]; exact law_2 hk hL (by omega) (by omega) hl nxt
      · rw [ma_sw_at 3 279 rfl (by decide)]; exact law_3 hk hL (by omega) (by omega) hl nxt
      · rw [ma_sw_at 4 302 rfl (by decide)]; exact law_4 hk hL (by omega) (by omega) hl nxt
      · rw [ma_sw_at 5 315 rfl (by decide)]; exact law_5 hk hL (by omega) (by omega) hl nxt
      · rw [ma_sw_at 6 328 rfl (by decide)]; exact law_6 hk hL (by omega) (by omega) hl nxt
      · rw [ma_sw_at 7 351 rfl (by decide)]; exact law_7 hk hL (by omega) (by omega) hl nxt
      · rw [ma_sw_at 8 384 rfl (by decide)]; exact law_8 hk hL (by omega) (by omega) hl nxt
      · rw [ma_sw_at 9 397 rfl (by decide)]; exact law_9 hk hL (by omega) (by omega) hl nxt
      · rw [ma_sw_at 10 430 rfl (by decide)]; exact law_10 hk hL (by omega) (by omega) hl nxt
      · rw [ma_sw_at 11 463 rfl (by decide)]; exact law_11 hk hL (by omega) (by omega) hl nxt
      · rw [ma_sw_at 12 476 rfl (by decide)]; exact law_12 hk hL (by omega) (by omega) hl nxt
      · rw [ma_sw_at 13 489 rfl (by decide)]; exact law_13 hk hL (by omega) (by omega) hl nxt
      · rw [ma_sw_at 14 512 rfl (by decide)]; exact law_14 hk hL (by omega) (by omega) hl nxt
      · rw [ma_sw_at 15 525 rfl (by decide)]; exact law_15 hk hL (by omega) (by omega) hl nxt
      · rw [ma_sw_at 16 558 rfl (by decide)]; exact law_16 hk hL (by omega) (by omega) hl nxt
      · rw [ma_sw_at 17 591 rfl (by decide)]; exact law_17 hk hL (by omega) (by omega) hl nxt
      · rw [ma_sw_at 18 624 rfl (by decide)]; exact law_18 hk hL (by omega) (by omega) hl nxt
      · rw [ma_sw_at 19 677 rfl (by decide)]; exact law_19 hk hL (by omega) (by omega) hl nxt
      · rw [ma_sw_at 20 700 rfl (by decide)]; exact law_20 hk hL (by omega) (by omega) hl nxt
      · rw [ma_sw_at 21 713 rfl (by decide)]; exact law_21 hk hL (by omega) (by omega) hl nxt
      · rw [ma_sw_at 22 726 rfl (by decide)]; exact law_22 hk hL (by omega) (by omega) hl nxt
      · rw [ma_sw_at 23 749 rfl (by decide)]; exact law_23 hk hL (by omega) (by omega) hl nxt
      · rw [ma_sw_at 24 772 rfl (by decide)]; exact law_24 hk hL (by omega) (by omega) hl nxt
      · rw [ma_sw_at 25 795 rfl (by decide)]; exact law_25 hk hL (by omega) (by omega) hl nxt
      · rw [ma_sw_at 26 828 rfl (by decide)]; exact law_26 hk hL (by omega) (by omega) hl nxt
      · rw [ma_sw_at 27 861 rfl (by decide)]; exact law_27 hk hL (by omega) (by omega) hl nxt
      · rw [ma_sw_at 28 885 rfl (by decide)]; exact law_28 hk hL (by omega) (by omega) hl nxt
      · rw [ma_sw_at 29 908 rfl (by decide)]; exact law_29 hk hL (by omega) (by omega) hl nxt
      · rw [ma_sw_at 30 931 rfl (by decide)]; exact law_30 hk hL (by omega) (by omega) hl nxt
      · rw [ma_sw_at 31 954 rfl (by decide)]; exact law_31 hk hL (by omega) (by omega) hl nxt
      · rw [ma_sw_at 32 977 rfl (by decide)]; exact law_32 hk hL (by omega) (by omega) hl nxt
      · rw [ma_sw_out (by right; rw [nI_toInt (by omega)]; show (0 : Int) + 33 ≤ (j : Int); omega)]
        exact nxt H a b (by omega) (by omega) hl
    · have hc := lt_len (i := 5 * k) hL (by omega) hk
      have h5 : ∀ x : Int32, x - nI 5 = x - nI 5 := fun _ => rfl
      simp (disch := omega) only [w212_18, w212_19, w212_20, w212_21, w212_22, w212_23, w212_997, w212_998, ma_kV_ap, ma_kC_s, ma_kC_n, ma_kH_ap, ma_gf_ap, ma_pf_ap, ma_cv_ap, ma_nt_0, ma_nt_s, ma_if_t, ma_if_f, ma_set_s, ma_set_ss, ma_set_2, ma_cat_n, ma_cat_i, ma_cat_l, ma_cat_r, ma_clr_n, ma_clr_i, ma_clr_l, ma_clr_r, ma_clr_0, ma_rf_s, ma_rf_n, ma_ial_ap, ma_ias_ap, List.set_cons_zero, List.set_cons_succ, List.length_cons, List.length_nil, Nat.reduceAdd, Nat.reduceLT, Nat.reduceLeDiff, Nat.le_refl, true_and, and_true, Nat.lt_add_one, fa_lit, ma_al1_i, hlen, h0, hc]
      exact ⟨Or.inr trivial, hQ H⟩
theorem law_ok (L : Nat) (xs : Nat → Int32) (hL : L ≤ 2560) : ma_W 12 212 (fun r _ => r = some (.int 1)) 0 [some (.ref 0), none, none, none] [] (ma_h0 L xs) 0 0 := by
  have h2 : (ma_h0 L xs).2 = 4 := rfl
  simp (disch := omega) only [w212_0, w212_3, w212_3i, w212_4, w212_7, w212_8, w212_11, w212_11i, w212_12, w212_15, w212_16, w212_17, ma_kV_ap, ma_kC_s, ma_kC_n, ma_kH_ap, ma_gf_ap, ma_pf_ap, ma_cv_ap, ma_nt_0, ma_nt_s, ma_if_t, ma_if_f, ma_set_s, ma_set_ss, ma_set_2, ma_cat_n, ma_cat_i, ma_cat_l, ma_cat_r, ma_clr_n, ma_clr_i, ma_clr_l, ma_clr_r, ma_clr_0, ma_rf_s, ma_rf_n, ma_ial_ap, ma_ias_ap, List.set_cons_zero, List.set_cons_succ, List.length_cons, List.length_nil, Nat.reduceAdd, Nat.reduceLT, Nat.reduceLeDiff, Nat.le_refl, true_and, and_true, Nat.lt_add_one, ma_new_eq, ma_grow_set, ma_grow_2, ma_grow_1, Nat.add_assoc, ma_set_n, Nat.zero_add, h2]
  have hS : strP (ma_set (ma_grow (ma_h0 L xs)) 4 (.inr (7, [.null, .null, .null, .null, .null, .null, .long 0, .long 0, .int 0, .int 0, .int 0]))) := fun i hi => by
    rw [ma_set_n _ _ (by omega)]
    show (ma_h0 L xs).1 (i + 1) = _
    unfold ma_h0
    dsimp only
    rw [if_neg (by omega), if_pos (by omega)]
  refine n_be hS (ma_set_s _ _ _) (by simp only [ma_set_2, ma_grow_2, h2]) (fun H1 cc e2 el => ?_)
  simp (disch := omega) only [w212_0, w212_3, w212_3i, w212_4, w212_7, w212_8, w212_11, w212_11i, w212_12, w212_15, w212_16, w212_17, ma_kV_ap, ma_kC_s, ma_kC_n, ma_kH_ap, ma_gf_ap, ma_pf_ap, ma_cv_ap, ma_nt_0, ma_nt_s, ma_if_t, ma_if_f, ma_set_s, ma_set_ss, ma_set_2, ma_cat_n, ma_cat_i, ma_cat_l, ma_cat_r, ma_clr_n, ma_clr_i, ma_clr_l, ma_clr_r, ma_clr_0, ma_rf_s, ma_rf_n, ma_ial_ap, ma_ias_ap, List.set_cons_zero, List.set_cons_succ, List.length_cons, List.length_nil, Nat.reduceAdd, Nat.reduceLT, Nat.reduceLeDiff, Nat.le_refl, true_and, and_true, Nat.lt_add_one, ma_new_eq, ma_grow_set, ma_grow_2, ma_grow_1, Nat.add_assoc, ma_set_n, e2]
  refine n_mo (ma_set_s _ _ _) (by simp only [ma_set_2, ma_grow_2, e2]) (fun H2 oo e3 el2 => ?_)
  simp (disch := omega) only [w212_0, w212_3, w212_3i, w212_4, w212_7, w212_8, w212_11, w212_11i, w212_12, w212_15, w212_16, w212_17, ma_kV_ap, ma_kC_s, ma_kC_n, ma_kH_ap, ma_gf_ap, ma_pf_ap, ma_cv_ap, ma_nt_0, ma_nt_s, ma_if_t, ma_if_f, ma_set_s, ma_set_ss, ma_set_2, ma_cat_n, ma_cat_i, ma_cat_l, ma_cat_r, ma_clr_n, ma_clr_i, ma_clr_l, ma_clr_r, ma_clr_0, ma_rf_s, ma_rf_n, ma_ial_ap, ma_ias_ap, List.set_cons_zero, List.set_cons_succ, List.length_cons, List.length_nil, Nat.reduceAdd, Nat.reduceLT, Nat.reduceLeDiff, Nat.le_refl, true_and, and_true, Nat.lt_add_one, fa_lit]
  have k1 : ∀ j, j < 36 → H2.1 j = H1.1 j := fun j hj => by rw [el2 j hj, ma_set_n _ _ (by omega), ma_grow_1]
  have hc0 : H2.1 0 = arI L xs := by
    rw [k1 0 (by decide), el 0 (by decide), ma_set_n _ _ (by decide)]
    rfl
  have hO : sOK (t00, [], [], []) none none [] := ⟨gOK_new (ok_new (by decide) (by decide)) (Nat.zero_le _), (fun _ e => by cases e), (fun _ e => by cases e), ⟨Nat.zero_le _, (fun _ h => absurd h List.not_mem_nil)⟩⟩
  have hl : lS L xs H2 := ⟨(t00, [], [], []), none, none, [], 0, 1, nI 0, nI 0, nI 0, hO, cc H2 k1 (by omega), oo, hc0⟩
  exact law_loop (Q := fun r _ => r = some (.int (nI 1))) hL (fun _ => rfl) 513 0 H2 42 2867 rfl (by omega) (by omega) (by omega) (by omega) hl
end LZ

/-! the class History -/
abbrev arT (n : Nat) (r : Nat → Option Nat) : ma_C := .inl (.object "BeggarPile$Table", n, .inr (.inr (.inr (.inr r))))
def hiP (H : ma_H) (b : Nat) (l : List ga_T) : Prop := ∃ (ol : Nat) (r : Nat → Option Nat) (T : Nat → ga_T), ol < 8 ∧ H.1 b = .inr (1, [.ref (b + 1), .int (nI ol), .int (nI l.length)]) ∧ H.1 (b + 1) = arT 8 r ∧ (∀ k, k < 8 → r k = some (b + 2 + k)) ∧ (∀ k, k < 8 → H.1 (b + 2 + k) = tabC (T k)) ∧ ∀ k, k < l.length → l[k]? = some (T ((ol + k) % 8))
theorem hiP_cong {H H' : ma_H} {b : Nat} {l : List ga_T} (h : hiP H b l) (hc : ∀ j, b ≤ j → j < b + 10 → H'.1 j = H.1 j) : hiP H' b l := by
  obtain ⟨ol, r, T, h0, h1, h2, h3, h4, h5⟩ := h
  exact ⟨ol, r, T, h0, (hc b (by omega) (by omega)).trans h1, (hc _ (by omega) (by omega)).trans h2, h3, fun k hk => (hc _ (by omega) (by omega)).trans (h4 k hk), h5⟩
def gpush (l : List ga_T) (t : ga_T) : List ga_T := (if l.length = 8 then l.drop 1 else l) ++ [t]
section HI
variable {d b i : Nat} {H : ma_H} {Q : ma_P} {l : List ga_T} {t t' : ga_T}
theorem h_cl (h : hiP H b l) : ∃ fs, H.1 b = .inr (1, fs) := by obtain ⟨ol, r, T, h0, h1, -⟩ := h; exact ⟨_, h1⟩
theorem h_size (hP : hiP H b l) (h : Q (some (.int (nI l.length))) H) : ma_MW (d + 1) 6 [.ref b] H Q := by
  obtain ⟨ol, r, T, h0, h1, -⟩ := hP
  rw [e6]
  simp (disch := omega) only [w6_0, w6_1, w6_4, ma_kV_ap, ma_kC_s, ma_kC_n, ma_kH_ap, ma_gf_ap, ma_pf_ap, ma_cv_ap, ma_nt_0, ma_nt_s, ma_if_t, ma_if_f, ma_set_s, ma_set_ss, ma_set_2, ma_cat_n, ma_cat_i, ma_cat_l, ma_cat_r, ma_clr_n, ma_clr_i, ma_clr_l, ma_clr_r, ma_clr_0, ma_rf_s, ma_rf_n, ma_ial_ap, ma_ias_ap, List.set_cons_zero, List.set_cons_succ, List.length_cons, List.length_nil, Nat.reduceAdd, Nat.reduceLT, Nat.reduceLeDiff, Nat.le_refl, true_and, and_true, Nat.lt_add_one, h1]
  exact h
theorem h_empty (hP : hiP H b l) (h : ∀ H', hiP H' b [] → fr H H' b (b + 10) → Q none H') : ma_MW (d + 1) 7 [.ref b] H Q := by
  obtain ⟨ol, r, T, h0, h1, h2, h3, h4, h5⟩ := hP
  rw [e7]
  simp (disch := omega) only [w7_0, w7_1, w7_2, w7_5, w7_6, w7_7, w7_10, ma_kV_ap, ma_kC_s, ma_kC_n, ma_kH_ap, ma_gf_ap, ma_pf_ap, ma_cv_ap, ma_nt_0, ma_nt_s, ma_if_t, ma_if_f, ma_set_s, ma_set_ss, ma_set_2, ma_cat_n, ma_cat_i, ma_cat_l, ma_cat_r, ma_clr_n, ma_clr_i, ma_clr_l, ma_clr_r, ma_clr_0, ma_rf_s, ma_rf_n, ma_ial_ap, ma_ias_ap, List.set_cons_zero, List.set_cons_succ, List.length_cons, List.length_nil, Nat.reduceAdd, Nat.reduceLT, Nat.reduceLeDiff, Nat.le_refl, true_and, and_true, Nat.lt_add_one, fa_lit, nI_add, pk_mul, pk_sub, pk_div, ma_rem_n, nI_ltI, nI_leI, nI_eq, Nat.reduceEqDiff, Nat.reduceMul, Nat.reduceSub, not_false_eq_true, not_true_eq_false, or_true, true_or, or_false, false_or, eq_self, Nat.zero_add, Nat.add_zero, h1]
  refine h _ ⟨0, r, T, by decide, ma_set_s _ _ _, ?_, h3, fun k hk => ?_, fun k hk => absurd hk (by simp)⟩ (fr_set _ _ (by omega) (by omega))
  · rw [ma_set_n _ _ (by omega)]; exact h2
  · rw [ma_set_n _ _ (by omega)]; exact h4 k hk
theorem h_copyTable {j : Nat} (hij : j ≠ i) (hT : H.1 i = tabC t) (hT' : H.1 j = tabC t') (h : Q none (ma_set H i (tabC t'))) : ma_MW (d + 2) 11 [.ref i, .ref j] H Q := by
  obtain ⟨fs, hfs⟩ := tab_cl t
  have hT2 := hT.trans hfs
  rw [e11]
  simp (disch := omega) only [w11_0, w11_1, w11_4, w11_5, w11_8, w11_9, w11_10, w11_13, ma_kV_ap, ma_kC_s, ma_kC_n, ma_kH_ap, ma_gf_ap, ma_pf_ap, ma_cv_ap, ma_nt_0, ma_nt_s, ma_if_t, ma_if_f, ma_set_s, ma_set_ss, ma_set_2, ma_cat_n, ma_cat_i, ma_cat_l, ma_cat_r, ma_clr_n, ma_clr_i, ma_clr_l, ma_clr_r, ma_clr_0, ma_rf_s, ma_rf_n, ma_ial_ap, ma_ias_ap, List.set_cons_zero, List.set_cons_succ, List.length_cons, List.length_nil, Nat.reduceAdd, Nat.reduceLT, Nat.reduceLeDiff, Nat.le_refl, true_and, and_true, Nat.lt_add_one, hT2]
  refine t_copyFrom' hij hT hT' ?_
  simp (disch := omega) only [w11_0, w11_1, w11_4, w11_5, w11_8, w11_9, w11_10, w11_13, ma_kV_ap, ma_kC_s, ma_kC_n, ma_kH_ap, ma_gf_ap, ma_pf_ap, ma_cv_ap, ma_nt_0, ma_nt_s, ma_if_t, ma_if_f, ma_set_s, ma_set_ss, ma_set_2, ma_cat_n, ma_cat_i, ma_cat_l, ma_cat_r, ma_clr_n, ma_clr_i, ma_clr_l, ma_clr_r, ma_clr_0, ma_rf_s, ma_rf_n, ma_ial_ap, ma_ias_ap, List.set_cons_zero, List.set_cons_succ, List.length_cons, List.length_nil, Nat.reduceAdd, Nat.reduceLT, Nat.reduceLeDiff, Nat.le_refl, true_and, and_true, Nat.lt_add_one]
  exact h
theorem h_keep (hl : l.length ≤ 8) (hi : i < b ∨ b + 10 ≤ i) (hT : H.1 i = tabC t) (hP : hiP H b l) (h : ∀ H', hiP H' b (gpush l t) → fr H H' b (b + 10) → Q none H') : ma_MW (d + 3) 8 [.ref b, .ref i] H Q := by
  obtain ⟨ol, r, T, h0, h1, h2, h3, h4, h5⟩ := hP
  have fin : ∀ (ol n : Nat) (l' : List ga_T) (H1 : ma_H), fr H H1 b (b + 10) → ol < 8 → n < 8 → l'.length = n → (∀ k, k < n → l'[k]? = some (T ((ol + k) % 8))) → H1.1 b = .inr (1, [.ref (b + 1), .int (nI ol), .int (nI n)]) → H1.1 (b + 1) = arT 8 r → (∀ k, k < 8 → H1.1 (b + 2 + k) = tabC (T k)) → (∀ H', hiP H' b (l' ++ [t]) → fr H H' b (b + 10) → Q none H') → ma_W (d + 2) 8 Q 32 [some (.ref b), some (.ref i)] [] H1 0 0 := by
    intro ol n l' H1 hF ho hn hl' hk0 w1 w2 w4 hend
    have hlt : (ol + n) % 8 < 8 := Nat.mod_lt _ (by decide)
    have hr := h3 _ hlt
    simp (disch := omega) only [w8_0, w8_1, w8_4, w8_6, w8_9, w8_10, w8_11, w8_14, w8_15, w8_16, w8_18, w8_19, w8_22, w8_23, w8_23i, w8_24, w8_27, w8_28, w8_29, w8_32, w8_33, w8_36, w8_37, w8_40, w8_41, w8_44, w8_45, w8_47, w8_48, w8_49, w8_50, w8_53, w8_54, w8_54i, w8_55, w8_58, w8_59, w8_60, w8_63, ma_kV_ap, ma_kC_s, ma_kC_n, ma_kH_ap, ma_gf_ap, ma_pf_ap, ma_cv_ap, ma_nt_0, ma_nt_s, ma_if_t, ma_if_f, ma_set_s, ma_set_ss, ma_set_2, ma_cat_n, ma_cat_i, ma_cat_l, ma_cat_r, ma_clr_n, ma_clr_i, ma_clr_l, ma_clr_r, ma_clr_0, ma_rf_s, ma_rf_n, ma_ial_ap, ma_ias_ap, List.set_cons_zero, List.set_cons_succ, List.length_cons, List.length_nil, Nat.reduceAdd, Nat.reduceLT, Nat.reduceLeDiff, Nat.le_refl, true_and, and_true, Nat.lt_add_one, fa_lit, nI_add, pk_mul, pk_sub, pk_div, ma_rem_n, nI_ltI, nI_leI, nI_eq, Nat.reduceEqDiff, Nat.reduceMul, Nat.reduceSub, not_false_eq_true, not_true_eq_false, or_true, true_or, or_false, false_or, eq_self, Nat.zero_add, Nat.add_zero, nu_in, nI_clamp, pk_us, pk_un, ma_set_n, ma_ral_t, w1, w2, hr]
    refine h_copyTable (t' := t) (by omega) (w4 _ hlt) ((hF.2 i (by omega)).trans hT) ?_
    simp (disch := omega) only [w8_0, w8_1, w8_4, w8_6, w8_9, w8_10, w8_11, w8_14, w8_15, w8_16, w8_18, w8_19, w8_22, w8_23, w8_23i, w8_24, w8_27, w8_28, w8_29, w8_32, w8_33, w8_36, w8_37, w8_40, w8_41, w8_44, w8_45, w8_47, w8_48, w8_49, w8_50, w8_53, w8_54, w8_54i, w8_55, w8_58, w8_59, w8_60, w8_63, ma_kV_ap, ma_kC_s, ma_kC_n, ma_kH_ap, ma_gf_ap, ma_pf_ap, ma_cv_ap, ma_nt_0, ma_nt_s, ma_if_t, ma_if_f, ma_set_s, ma_set_ss, ma_set_2, ma_cat_n, ma_cat_i, ma_cat_l, ma_cat_r, ma_clr_n, ma_clr_i, ma_clr_l, ma_clr_r, ma_clr_0, ma_rf_s, ma_rf_n, ma_ial_ap, ma_ias_ap, List.set_cons_zero, List.set_cons_succ, List.length_cons, List.length_nil, Nat.reduceAdd, Nat.reduceLT, Nat.reduceLeDiff, Nat.le_refl, true_and, and_true, Nat.lt_add_one, fa_lit, nI_add, pk_mul, pk_sub, pk_div, ma_rem_n, nI_ltI, nI_leI, nI_eq, Nat.reduceEqDiff, Nat.reduceMul, Nat.reduceSub, not_false_eq_true, not_true_eq_false, or_true, true_or, or_false, false_or, eq_self, Nat.zero_add, Nat.add_zero, nu_in, nI_clamp, pk_us, pk_un, ma_set_n, w1]
    refine hend _ ⟨ol, r, fun k => if k = (ol + n) % 8 then t else T k, ho, ?_, ?_, h3, fun k hk => ?_, fun k hk => ?_⟩ ?_
    · rw [ma_set_s, List.length_append, hl']; rfl
    · rw [ma_set_n _ _ (by omega), ma_set_n _ _ (by omega)]; exact w2
    · rw [ma_set_n _ _ (by omega)]
      try dsimp only
      by_cases e : k = (ol + n) % 8
      · rw [if_pos e, e, ma_set_s]
      · rw [if_neg e, ma_set_n _ _ (by omega)]; exact w4 k hk
    · rw [List.length_append, hl'] at hk
      simp only [List.length_cons, List.length_nil] at hk
      rcases Nat.lt_or_ge k n with g | g
      · try dsimp only
        rw [List.getElem?_append_left (by omega), if_neg (by omega)]
        exact hk0 k g
      · have : k = n := by omega
        subst this
        try dsimp only
        rw [List.getElem?_append_right (by omega), if_pos rfl, hl', Nat.sub_self]; rfl
    · exact fr_set' (fr_set' hF (by omega) (by omega)) (by omega) (by omega)
  rw [e8]
  simp (disch := omega) only [w8_0, w8_1, w8_4, w8_6, w8_10, w8_11, w8_14, w8_15, w8_16, w8_18, w8_19, w8_22, w8_23, w8_23i, w8_24, w8_27, w8_28, w8_29, w8_33, w8_36, w8_37, w8_40, w8_41, w8_44, w8_45, w8_47, w8_48, w8_49, w8_50, w8_53, w8_54, w8_54i, w8_55, w8_58, w8_59, w8_60, w8_63, ma_kV_ap, ma_kC_s, ma_kC_n, ma_kH_ap, ma_gf_ap, ma_pf_ap, ma_cv_ap, ma_nt_0, ma_nt_s, ma_if_t, ma_if_f, ma_set_s, ma_set_ss, ma_set_2, ma_cat_n, ma_cat_i, ma_cat_l, ma_cat_r, ma_clr_n, ma_clr_i, ma_clr_l, ma_clr_r, ma_clr_0, ma_rf_s, ma_rf_n, ma_ial_ap, ma_ias_ap, List.set_cons_zero, List.set_cons_succ, List.length_cons, List.length_nil, Nat.reduceAdd, Nat.reduceLT, Nat.reduceLeDiff, Nat.le_refl, true_and, and_true, Nat.lt_add_one, fa_lit, nI_add, pk_mul, pk_sub, pk_div, ma_rem_n, nI_ltI, nI_leI, nI_eq, Nat.reduceEqDiff, Nat.reduceMul, Nat.reduceSub, not_false_eq_true, not_true_eq_false, or_true, true_or, or_false, false_or, eq_self, Nat.zero_add, Nat.add_zero, h1]
  unfold gpush at h
  refine ⟨fun c => ?_, fun c => ?_⟩
  · rw [if_pos c] at h
    have hne : ¬ (8 = 0) := by decide
    simp (disch := omega) only [w8_0, w8_1, w8_4, w8_6, w8_9, w8_10, w8_11, w8_14, w8_15, w8_16, w8_18, w8_19, w8_22, w8_23, w8_23i, w8_24, w8_27, w8_28, w8_29, w8_33, w8_36, w8_37, w8_40, w8_41, w8_44, w8_45, w8_47, w8_48, w8_49, w8_50, w8_53, w8_54, w8_54i, w8_55, w8_58, w8_59, w8_60, w8_63, ma_kV_ap, ma_kC_s, ma_kC_n, ma_kH_ap, ma_gf_ap, ma_pf_ap, ma_cv_ap, ma_nt_0, ma_nt_s, ma_if_t, ma_if_f, ma_set_s, ma_set_ss, ma_set_2, ma_cat_n, ma_cat_i, ma_cat_l, ma_cat_r, ma_clr_n, ma_clr_i, ma_clr_l, ma_clr_r, ma_clr_0, ma_rf_s, ma_rf_n, ma_ial_ap, ma_ias_ap, List.set_cons_zero, List.set_cons_succ, List.length_cons, List.length_nil, Nat.reduceAdd, Nat.reduceLT, Nat.reduceLeDiff, Nat.le_refl, true_and, and_true, Nat.lt_add_one, fa_lit, nI_add, pk_mul, pk_sub, pk_div, ma_rem_n, nI_ltI, nI_leI, nI_eq, Nat.reduceEqDiff, Nat.reduceMul, Nat.reduceSub, not_false_eq_true, not_true_eq_false, or_true, true_or, or_false, false_or, eq_self, Nat.zero_add, Nat.add_zero, nu_in, nI_clamp, pk_us, pk_un, ma_set_n, h1]
    refine fin ((ol + 1) % 8) (l.length - 1) (l.drop 1) _ (fr_set _ _ (by omega) (by omega)) (Nat.mod_lt _ (by decide)) (by omega) (by rw [List.length_drop]) (fun k hk => ?_) ?_ ?_ (fun k hk => ?_) h
    · rw [List.getElem?_drop, h5 (1 + k) (by omega)]
      congr 2
      omega
    · rw [ma_set_s]
    · rw [ma_set_n _ _ (by omega)]; exact h2
    · rw [ma_set_n _ _ (by omega)]; exact h4 k hk
  · rw [if_neg c] at h
    exact fin ol l.length l H (fr_refl _ _ _) h0 (by omega) rfl h5 h1 h2 h4 h
theorem h_bringBack (hl : l.length ≤ 8) (hne : l ≠ []) (hi : i < b ∨ b + 10 ≤ i) (hT : H.1 i = tabC t) (hP : hiP H b l) (h : ∀ H', H'.1 i = tabC (l.getLast hne) → hiP H' b l.dropLast → H'.2 = H.2 → (∀ j, j ≠ i → (j < b ∨ b + 10 ≤ j) → H'.1 j = H.1 j) → Q none H') : ma_MW (d + 3) 9 [.ref b, .ref i] H Q := by
  obtain ⟨ol, r, T, h0, h1, h2, h3, h4, h5⟩ := hP
  have hpos : 0 < l.length := List.length_pos_iff.mpr hne
  have hlt : (ol + (l.length - 1)) % 8 < 8 := Nat.mod_lt _ (by decide)
  have hr := h3 _ hlt
  have hc : (l.length ≤ 0) = False := eq_false (by omega)
  rw [e9]
  simp (disch := omega) only [w9_0, w9_1, w9_4, w9_7, w9_8, w9_8i, w9_9, w9_12, w9_13, w9_14, w9_17, w9_18, w9_19, w9_22, w9_23, w9_26, w9_27, w9_30, w9_31, w9_33, w9_34, w9_35, w9_38, ma_kV_ap, ma_kC_s, ma_kC_n, ma_kH_ap, ma_gf_ap, ma_pf_ap, ma_cv_ap, ma_nt_0, ma_nt_s, ma_if_t, ma_if_f, ma_set_s, ma_set_ss, ma_set_2, ma_cat_n, ma_cat_i, ma_cat_l, ma_cat_r, ma_clr_n, ma_clr_i, ma_clr_l, ma_clr_r, ma_clr_0, ma_rf_s, ma_rf_n, ma_ial_ap, ma_ias_ap, List.set_cons_zero, List.set_cons_succ, List.length_cons, List.length_nil, Nat.reduceAdd, Nat.reduceLT, Nat.reduceLeDiff, Nat.le_refl, true_and, and_true, Nat.lt_add_one, fa_lit, nI_add, pk_mul, pk_sub, pk_div, ma_rem_n, nI_ltI, nI_leI, nI_eq, Nat.reduceEqDiff, Nat.reduceMul, Nat.reduceSub, not_false_eq_true, not_true_eq_false, or_true, true_or, or_false, false_or, eq_self, Nat.zero_add, Nat.add_zero, nu_in, nI_clamp, pk_us, pk_un, ma_set_n, ma_ral_t, h1, h2, hr, hc]
  have hlast : T ((ol + (l.length - 1)) % 8) = l.getLast hne := by
    have := h5 (l.length - 1) (by omega)
    rw [List.getLast_eq_getElem]
    rw [List.getElem?_eq_getElem (by omega)] at this
    exact (Option.some.inj this).symm
  refine h_copyTable (t := t) (t' := T ((ol + (l.length - 1)) % 8)) (by omega) ?_ ?_ ?_
  · rw [ma_set_n _ _ (by omega)]; exact hT
  · rw [ma_set_n _ _ (by omega)]; exact h4 _ hlt
  · simp (disch := omega) only [w9_0, w9_1, w9_4, w9_7, w9_8, w9_8i, w9_9, w9_12, w9_13, w9_14, w9_17, w9_18, w9_19, w9_22, w9_23, w9_26, w9_27, w9_30, w9_31, w9_33, w9_34, w9_35, w9_38, ma_kV_ap, ma_kC_s, ma_kC_n, ma_kH_ap, ma_gf_ap, ma_pf_ap, ma_cv_ap, ma_nt_0, ma_nt_s, ma_if_t, ma_if_f, ma_set_s, ma_set_ss, ma_set_2, ma_cat_n, ma_cat_i, ma_cat_l, ma_cat_r, ma_clr_n, ma_clr_i, ma_clr_l, ma_clr_r, ma_clr_0, ma_rf_s, ma_rf_n, ma_ial_ap, ma_ias_ap, List.set_cons_zero, List.set_cons_succ, List.length_cons, List.length_nil, Nat.reduceAdd, Nat.reduceLT, Nat.reduceLeDiff, Nat.le_refl, true_and, and_true, Nat.lt_add_one]
    refine h _ (by rw [ma_set_s, hlast]) ⟨ol, r, T, h0, ?_, ?_, h3, fun k hk => ?_, fun k hk => ?_⟩ rfl (fun j hj hj2 => ?_)
    · rw [ma_set_n _ _ (by omega), ma_set_s, List.length_dropLast]
    · rw [ma_set_n _ _ (by omega), ma_set_n _ _ (by omega)]; exact h2
    · rw [ma_set_n _ _ (by omega), ma_set_n _ _ (by omega)]; exact h4 k hk
    · rw [List.length_dropLast] at hk
      rw [List.getElem?_dropLast, if_pos hk]
      exact h5 k (by omega)
    · rw [ma_set_n _ _ hj, ma_set_n _ _ (by omega)]
end HI
section HJ
variable {d b c : Nat} {H : ma_H} {Q : ma_P} {l l' : List ga_T}
theorem h_copyFrom (hbc : b + 10 ≤ c ∨ c + 10 ≤ b) (hl : l.length ≤ 8) (hP : hiP H c l) (hP' : hiP H b l') (h : ∀ H', hiP H' b l → fr H H' b (b + 10) → Q none H') : ma_MW (d + 3) 10 [.ref b, .ref c] H Q := by
  obtain ⟨ol, r, T, h0, h1, h2, h3, h4, h5⟩ := hP
  obtain ⟨ol', r', T', g0, g1, g2, g3, g4, g5⟩ := hP'
  have loop : ∀ m k, 8 - k = m → k ≤ 8 → ∀ (U : Nat → ga_T) (H1 : ma_H), fr H H1 b (b + 10) → H1.1 b = .inr (1, [.ref (b + 1), .int (nI ol), .int (nI l.length)]) → H1.1 (b + 1) = arT 8 r' → (∀ j, j < 8 → H1.1 (b + 2 + j) = tabC (U j)) → (∀ j, j < k → U j = T j) → ma_W (d + 2) 10 Q 18 [some (.ref b), some (.ref c), some (.int (nI k))] [] H1 0 0 := by
    intro m
    induction m with
    | zero =>
      intro k q1 q2 U H1 hF w1 w2 w3 w4
      have hc : (8 ≤ k) = True := eq_true (by omega)
      simp (disch := omega) only [w10_0, w10_1, w10_2, w10_5, w10_8, w10_9, w10_10, w10_13, w10_16, w10_17, w10_18, w10_19, w10_21, w10_24, w10_25, w10_28, w10_29, w10_30, w10_31, w10_34, w10_35, w10_36, w10_39, w10_42, w10_45, ma_kV_ap, ma_kC_s, ma_kC_n, ma_kH_ap, ma_gf_ap, ma_pf_ap, ma_cv_ap, ma_nt_0, ma_nt_s, ma_if_t, ma_if_f, ma_set_s, ma_set_ss, ma_set_2, ma_cat_n, ma_cat_i, ma_cat_l, ma_cat_r, ma_clr_n, ma_clr_i, ma_clr_l, ma_clr_r, ma_clr_0, ma_rf_s, ma_rf_n, ma_ial_ap, ma_ias_ap, List.set_cons_zero, List.set_cons_succ, List.length_cons, List.length_nil, Nat.reduceAdd, Nat.reduceLT, Nat.reduceLeDiff, Nat.le_refl, true_and, and_true, Nat.lt_add_one, fa_lit, nI_add, pk_mul, pk_sub, pk_div, ma_rem_n, nI_ltI, nI_leI, nI_eq, Nat.reduceEqDiff, Nat.reduceMul, Nat.reduceSub, not_false_eq_true, not_true_eq_false, or_true, true_or, or_false, false_or, eq_self, Nat.zero_add, Nat.add_zero, hc]
      refine h H1 ⟨ol, r', U, h0, w1, w2, g3, w3, fun j hj => ?_⟩ hF
      rw [w4 _ (by have := Nat.mod_lt (ol + j) (show 0 < 8 by decide); omega)]
      exact h5 j hj
    | succ m ih =>
      intro k q1 q2 U H1 hF w1 w2 w3 w4
      have hc : (8 ≤ k) = False := eq_false (by omega)
      have z1 := (hF.2 c (by omega)).trans h1
      have z2 := (hF.2 (c + 1) (by omega)).trans h2
      have a1 := h3 k (by omega)
      have a2 := g3 k (by omega)
      simp (disch := omega) only [w10_0, w10_1, w10_2, w10_5, w10_8, w10_9, w10_10, w10_13, w10_16, w10_17, w10_18, w10_19, w10_21, w10_24, w10_25, w10_28, w10_29, w10_30, w10_31, w10_34, w10_35, w10_36, w10_39, w10_42, w10_45, ma_kV_ap, ma_kC_s, ma_kC_n, ma_kH_ap, ma_gf_ap, ma_pf_ap, ma_cv_ap, ma_nt_0, ma_nt_s, ma_if_t, ma_if_f, ma_set_s, ma_set_ss, ma_set_2, ma_cat_n, ma_cat_i, ma_cat_l, ma_cat_r, ma_clr_n, ma_clr_i, ma_clr_l, ma_clr_r, ma_clr_0, ma_rf_s, ma_rf_n, ma_ial_ap, ma_ias_ap, List.set_cons_zero, List.set_cons_succ, List.length_cons, List.length_nil, Nat.reduceAdd, Nat.reduceLT, Nat.reduceLeDiff, Nat.le_refl, true_and, and_true, Nat.lt_add_one, fa_lit, nI_add, pk_mul, pk_sub, pk_div, ma_rem_n, nI_ltI, nI_leI, nI_eq, Nat.reduceEqDiff, Nat.reduceMul, Nat.reduceSub, not_false_eq_true, not_true_eq_false, or_true, true_or, or_false, false_or, eq_self, Nat.zero_add, Nat.add_zero, nu_in, nI_clamp, pk_us, pk_un, ma_set_n, ma_ral_t, hc, w1, w2, z1, z2, a1, a2]
      refine h_copyTable (t := U k) (t' := T k) (by omega) (w3 k (by omega)) ((hF.2 _ (by omega)).trans (h4 k (by omega))) ?_
      simp (disch := omega) only [w10_0, w10_1, w10_2, w10_5, w10_8, w10_9, w10_10, w10_13, w10_16, w10_17, w10_19, w10_21, w10_24, w10_25, w10_28, w10_29, w10_30, w10_31, w10_34, w10_35, w10_36, w10_39, w10_42, w10_45, ma_kV_ap, ma_kC_s, ma_kC_n, ma_kH_ap, ma_gf_ap, ma_pf_ap, ma_cv_ap, ma_nt_0, ma_nt_s, ma_if_t, ma_if_f, ma_set_s, ma_set_ss, ma_set_2, ma_cat_n, ma_cat_i, ma_cat_l, ma_cat_r, ma_clr_n, ma_clr_i, ma_clr_l, ma_clr_r, ma_clr_0, ma_rf_s, ma_rf_n, ma_ial_ap, ma_ias_ap, List.set_cons_zero, List.set_cons_succ, List.length_cons, List.length_nil, Nat.reduceAdd, Nat.reduceLT, Nat.reduceLeDiff, Nat.le_refl, true_and, and_true, Nat.lt_add_one, fa_lit, nI_add, pk_mul, pk_sub, pk_div, ma_rem_n, nI_ltI, nI_leI, nI_eq, Nat.reduceEqDiff, Nat.reduceMul, Nat.reduceSub, not_false_eq_true, not_true_eq_false, or_true, true_or, or_false, false_or, eq_self, Nat.zero_add, Nat.add_zero]
      refine ih (k + 1) (by omega) (by omega) (fun j => if j = k then T k else U j) _ (fr_set' hF (by omega) (by omega)) ?_ ?_ (fun j hj => ?_) (fun j hj => ?_)
      · rw [ma_set_n _ _ (by omega)]; exact w1
      · rw [ma_set_n _ _ (by omega)]; exact w2
      · try dsimp only
        by_cases e : j = k
        · rw [if_pos e, e, ma_set_s]
        · rw [if_neg e, ma_set_n _ _ (by omega)]; exact w3 j hj
      · try dsimp only
        by_cases e : j = k
        · rw [if_pos e, e]
        · rw [if_neg e]; exact w4 j (by omega)
  rw [e10]
  simp (disch := omega) only [w10_0, w10_1, w10_2, w10_5, w10_8, w10_9, w10_10, w10_13, w10_16, w10_17, w10_19, w10_21, w10_24, w10_25, w10_28, w10_29, w10_30, w10_31, w10_34, w10_35, w10_36, w10_39, w10_42, w10_45, ma_kV_ap, ma_kC_s, ma_kC_n, ma_kH_ap, ma_gf_ap, ma_pf_ap, ma_cv_ap, ma_nt_0, ma_nt_s, ma_if_t, ma_if_f, ma_set_s, ma_set_ss, ma_set_2, ma_cat_n, ma_cat_i, ma_cat_l, ma_cat_r, ma_clr_n, ma_clr_i, ma_clr_l, ma_clr_r, ma_clr_0, ma_rf_s, ma_rf_n, ma_ial_ap, ma_ias_ap, List.set_cons_zero, List.set_cons_succ, List.length_cons, List.length_nil, Nat.reduceAdd, Nat.reduceLT, Nat.reduceLeDiff, Nat.le_refl, true_and, and_true, Nat.lt_add_one, fa_lit, nI_add, pk_mul, pk_sub, pk_div, ma_rem_n, nI_ltI, nI_leI, nI_eq, Nat.reduceEqDiff, Nat.reduceMul, Nat.reduceSub, not_false_eq_true, not_true_eq_false, or_true, true_or, or_false, false_or, eq_self, Nat.zero_add, Nat.add_zero, nu_in, nI_clamp, pk_us, pk_un, ma_set_n, h1, g1]
  refine loop _ 0 rfl (Nat.zero_le _) T' _ (fr_set _ _ (by omega) (by omega)) (ma_set_s _ _ _) ?_ (fun j hj => ?_) (fun j hj => by omega)
  · rw [ma_set_n _ _ (by omega)]; exact g2
  · rw [ma_set_n _ _ (by omega)]; exact g4 j hj
end HJ

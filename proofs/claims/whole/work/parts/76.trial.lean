/-! the class Trial: behind, first, round -/
theorem tab_cv (t : ga_T) (d ia : Nat) (av : List Value) (H : ma_H) (P : ma_P) : ma_cv (tabC t) 4 d ia av H P = ma_MW d ia av H P := by
  obtain ⟨fs, h⟩ := tab_cl t
  rw [h, ma_cv_ap]
theorem tab_g0 (t : ga_T) (K : Value → Prop) : ma_gf (tabC t) 4 0 K = K (.int (nI (gtu t))) := by
  obtain ⟨kz, ko, hz, ho, pl, tu, db, mv, tz, to⟩ := t
  unfold tabC; dsimp only; rw [ma_gf_ap, ma_nt_0]; rfl
theorem tab_g2 (t : ga_T) (K : Value → Prop) : ma_gf (tabC t) 4 2 K = K (.int (nI (gmv t))) := by
  obtain ⟨kz, ko, hz, ho, pl, tu, db, mv, tz, to⟩ := t
  unfold tabC; dsimp only; rw [ma_gf_ap, ma_nt_s, ma_nt_s, ma_nt_0]; rfl
def ghand (t : ga_T) (p : Nat) : List Nat := match t with | (_, _, hz, ho, pl, _, _, _, _, _) => grow hz ho pl p
theorem ghand_gk {t : ga_T} (h : ga_ok t) (p : Nat) : gk (ghand t p) := by
  obtain ⟨kz, ko, hz, ho, pl, tu, db, mv, tz, to⟩ := t
  obtain ⟨a1, a2, a3, a4, a5, a6, a7, a8, a9, a10⟩ := h
  unfold ghand grow
  dsimp only
  split
  · exact ⟨by omega, a3⟩
  · split
    · exact ⟨by omega, a4⟩
    · exact ⟨by omega, a5⟩
section TU
variable {d i : Nat} {H : ma_H} {Q : ma_P} {bc bm : Int32} {t : ga_T}
theorem t_row' {p : Nat} (hp : p < 3) (hT : H.1 i = tabC t) (h : Q (some (.long (enc (ghand t p)))) H) : ma_MW (d + 1) 37 [.ref i, .int (nI p)] H Q := by
  obtain ⟨kz, ko, hz, ho, pl, tu, db, mv, tz, to⟩ := t
  exact t_row hp hT h
def gbeh (t : ga_T) (m k : Nat) : Prop := k ≤ m ∧ (∀ j, j < k → ¬ gdone (git j t)) ∧ (k = m ∨ gdone (git k t))
theorem gbeh_uniq {n a b : Nat} (ha : gbeh t n a) (hb : gbeh t n b) : a = b := by
  rcases Nat.lt_trichotomy a b with h | h | h
  · rcases ha.2.2 with e | e
    · have := hb.1; omega
    · exact absurd e (hb.2.1 a h)
  · exact h
  · rcases hb.2.2 with e | e
    · have := ha.1; omega
    · exact absurd e (ha.2.1 b h)
theorem k_behind {m w : Nat} (hm : m ≤ 60) (hw : w < 10) (hok : ga_ok t) (hmv : gmv t < 90000) (hTr : trOK H bc bm) (hi : i < 29 ∨ 33 ≤ i) (hT : H.1 i = tabC t) (h : ∀ k y, gbeh t m k → Q (some (.int (nI (gnum (git k t) w)))) (ma_set H 30 (tabC y))) : ma_MW (d + 6) 61 [.ref 29, .ref i, .int (nI m), .int (nI w)] H Q := by
  obtain ⟨h29, ⟨y30, h30⟩, -⟩ := hTr
  have loop : ∀ c k, m - k = c → k ≤ m → (∀ j, j < k → ¬ gdone (git j t)) → ma_W (d + 5) 61 Q 11 [some (.ref 29), some (.ref i), some (.int (nI m)), some (.int (nI w)), some (.int (nI k))] [] (ma_set H 30 (tabC (git k t))) 0 0 := by
    intro c
    induction c with
    | zero =>
      intro k g1 g2 g3
      have hc : (m ≤ k) = True := eq_true (by omega)
      simp (disch := omega) only [w61_0, w61_1, w61_4, w61_5, w61_8, w61_9, w61_11, w61_13, w61_14, w61_17, w61_18, w61_21, w61_24, w61_27, w61_28, w61_31, w61_34, w61_37, w61_40, w61_41, w61_44, w61_45, w61_48, ma_kV_ap, ma_kC_s, ma_kC_n, ma_kH_ap, ma_gf_ap, ma_pf_ap, ma_cv_ap, ma_nt_0, ma_nt_s, ma_if_t, ma_if_f, ma_set_s, ma_set_ss, ma_set_2, ma_cat_n, ma_cat_i, ma_cat_l, ma_cat_r, ma_clr_n, ma_clr_i, ma_clr_l, ma_clr_r, ma_clr_0, ma_rf_s, ma_rf_n, ma_ial_ap, ma_ias_ap, List.set_cons_zero, List.set_cons_succ, List.length_cons, List.length_nil, Nat.reduceAdd, Nat.reduceLT, Nat.reduceLeDiff, Nat.le_refl, true_and, and_true, Nat.lt_add_one, fa_lit, nI_add, pk_mul, pk_sub, pk_div, ma_rem_n, nI_ltI, nI_leI, nI_eq, Nat.reduceEqDiff, Nat.reduceMul, Nat.reduceSub, not_false_eq_true, not_true_eq_false, or_true, true_or, or_false, false_or, eq_self, Nat.zero_add, Nat.add_zero, nu_in, nI_clamp, pk_us, pk_un, ma_set_n, tab_cv, tab_g0, tab_g2, trC, hc, h29]
      refine t_number hw (ok_git hok k) (ma_set_s _ _ _) ?_
      simp (disch := omega) only [w61_0, w61_1, w61_4, w61_5, w61_8, w61_9, w61_11, w61_13, w61_14, w61_17, w61_18, w61_21, w61_24, w61_27, w61_28, w61_31, w61_34, w61_37, w61_40, w61_41, w61_44, w61_45, w61_48, ma_kV_ap, ma_kC_s, ma_kC_n, ma_kH_ap, ma_gf_ap, ma_pf_ap, ma_cv_ap, ma_nt_0, ma_nt_s, ma_if_t, ma_if_f, ma_set_s, ma_set_ss, ma_set_2, ma_cat_n, ma_cat_i, ma_cat_l, ma_cat_r, ma_clr_n, ma_clr_i, ma_clr_l, ma_clr_r, ma_clr_0, ma_rf_s, ma_rf_n, ma_ial_ap, ma_ias_ap, List.set_cons_zero, List.set_cons_succ, List.length_cons, List.length_nil, Nat.reduceAdd, Nat.reduceLT, Nat.reduceLeDiff, Nat.le_refl, true_and, and_true, Nat.lt_add_one]
      exact h k _ ⟨g2, g3, Or.inl (by omega)⟩
    | succ c ih =>
      intro k g1 g2 g3
      have hc : (m ≤ k) = False := eq_false (by omega)
      have := gmv_git t k
      simp (disch := omega) only [w61_0, w61_1, w61_4, w61_5, w61_8, w61_9, w61_11, w61_13, w61_14, w61_17, w61_18, w61_21, w61_24, w61_27, w61_28, w61_31, w61_34, w61_37, w61_40, w61_41, w61_44, w61_45, w61_48, ma_kV_ap, ma_kC_s, ma_kC_n, ma_kH_ap, ma_gf_ap, ma_pf_ap, ma_cv_ap, ma_nt_0, ma_nt_s, ma_if_t, ma_if_f, ma_set_s, ma_set_ss, ma_set_2, ma_cat_n, ma_cat_i, ma_cat_l, ma_cat_r, ma_clr_n, ma_clr_i, ma_clr_l, ma_clr_r, ma_clr_0, ma_rf_s, ma_rf_n, ma_ial_ap, ma_ias_ap, List.set_cons_zero, List.set_cons_succ, List.length_cons, List.length_nil, Nat.reduceAdd, Nat.reduceLT, Nat.reduceLeDiff, Nat.le_refl, true_and, and_true, Nat.lt_add_one, fa_lit, nI_add, pk_mul, pk_sub, pk_div, ma_rem_n, nI_ltI, nI_leI, nI_eq, Nat.reduceEqDiff, Nat.reduceMul, Nat.reduceSub, not_false_eq_true, not_true_eq_false, or_true, true_or, or_false, false_or, eq_self, Nat.zero_add, Nat.add_zero, nu_in, nI_clamp, pk_us, pk_un, ma_set_n, tab_cv, tab_g0, tab_g2, trC, hc, h29]
      refine t_isDone' (ok_git hok k) (ma_set_s _ _ _) (fun hd => ?_) (fun hd => ?_)
      · simp (disch := omega) only [w61_0, w61_1, w61_4, w61_5, w61_8, w61_9, w61_11, w61_13, w61_14, w61_17, w61_18, w61_21, w61_24, w61_27, w61_28, w61_31, w61_34, w61_37, w61_40, w61_41, w61_44, w61_45, w61_48, ma_kV_ap, ma_kC_s, ma_kC_n, ma_kH_ap, ma_gf_ap, ma_pf_ap, ma_cv_ap, ma_nt_0, ma_nt_s, ma_if_t, ma_if_f, ma_set_s, ma_set_ss, ma_set_2, ma_cat_n, ma_cat_i, ma_cat_l, ma_cat_r, ma_clr_n, ma_clr_i, ma_clr_l, ma_clr_r, ma_clr_0, ma_rf_s, ma_rf_n, ma_ial_ap, ma_ias_ap, List.set_cons_zero, List.set_cons_succ, List.length_cons, List.length_nil, Nat.reduceAdd, Nat.reduceLT, Nat.reduceLeDiff, Nat.le_refl, true_and, and_true, Nat.lt_add_one, fa_lit, nI_add, pk_mul, pk_sub, pk_div, ma_rem_n, nI_ltI, nI_leI, nI_eq, Nat.reduceEqDiff, Nat.reduceMul, Nat.reduceSub, not_false_eq_true, not_true_eq_false, or_true, true_or, or_false, false_or, eq_self, Nat.zero_add, Nat.add_zero, nu_in, nI_clamp, pk_us, pk_un, ma_set_n, tab_cv, tab_g0, tab_g2, trC, h29]
        refine t_number hw (ok_git hok k) (ma_set_s _ _ _) ?_
        simp (disch := omega) only [w61_0, w61_1, w61_4, w61_5, w61_8, w61_9, w61_11, w61_13, w61_14, w61_17, w61_18, w61_21, w61_24, w61_27, w61_28, w61_31, w61_34, w61_37, w61_40, w61_41, w61_44, w61_45, w61_48, ma_kV_ap, ma_kC_s, ma_kC_n, ma_kH_ap, ma_gf_ap, ma_pf_ap, ma_cv_ap, ma_nt_0, ma_nt_s, ma_if_t, ma_if_f, ma_set_s, ma_set_ss, ma_set_2, ma_cat_n, ma_cat_i, ma_cat_l, ma_cat_r, ma_clr_n, ma_clr_i, ma_clr_l, ma_clr_r, ma_clr_0, ma_rf_s, ma_rf_n, ma_ial_ap, ma_ias_ap, List.set_cons_zero, List.set_cons_succ, List.length_cons, List.length_nil, Nat.reduceAdd, Nat.reduceLT, Nat.reduceLeDiff, Nat.le_refl, true_and, and_true, Nat.lt_add_one]
        exact h k _ ⟨g2, g3, Or.inr hd⟩
      · simp (disch := omega) only [w61_0, w61_1, w61_4, w61_5, w61_8, w61_9, w61_11, w61_13, w61_14, w61_17, w61_18, w61_21, w61_24, w61_27, w61_28, w61_31, w61_34, w61_37, w61_40, w61_41, w61_44, w61_45, w61_48, ma_kV_ap, ma_kC_s, ma_kC_n, ma_kH_ap, ma_gf_ap, ma_pf_ap, ma_cv_ap, ma_nt_0, ma_nt_s, ma_if_t, ma_if_f, ma_set_s, ma_set_ss, ma_set_2, ma_cat_n, ma_cat_i, ma_cat_l, ma_cat_r, ma_clr_n, ma_clr_i, ma_clr_l, ma_clr_r, ma_clr_0, ma_rf_s, ma_rf_n, ma_ial_ap, ma_ias_ap, List.set_cons_zero, List.set_cons_succ, List.length_cons, List.length_nil, Nat.reduceAdd, Nat.reduceLT, Nat.reduceLeDiff, Nat.le_refl, true_and, and_true, Nat.lt_add_one, fa_lit, nI_add, pk_mul, pk_sub, pk_div, ma_rem_n, nI_ltI, nI_leI, nI_eq, Nat.reduceEqDiff, Nat.reduceMul, Nat.reduceSub, not_false_eq_true, not_true_eq_false, or_true, true_or, or_false, false_or, eq_self, Nat.zero_add, Nat.add_zero, nu_in, nI_clamp, pk_us, pk_un, ma_set_n, tab_cv, tab_g0, tab_g2, trC, h29]
        refine t_move' (ok_git hok k) (by omega) hd (ma_set_s _ _ _) ?_
        rw [ma_set_ss, ← git_s]
        simp (disch := omega) only [w61_0, w61_1, w61_4, w61_5, w61_8, w61_9, w61_13, w61_14, w61_17, w61_18, w61_21, w61_24, w61_27, w61_28, w61_31, w61_34, w61_37, w61_40, w61_41, w61_44, w61_45, w61_48, ma_kV_ap, ma_kC_s, ma_kC_n, ma_kH_ap, ma_gf_ap, ma_pf_ap, ma_cv_ap, ma_nt_0, ma_nt_s, ma_if_t, ma_if_f, ma_set_s, ma_set_ss, ma_set_2, ma_cat_n, ma_cat_i, ma_cat_l, ma_cat_r, ma_clr_n, ma_clr_i, ma_clr_l, ma_clr_r, ma_clr_0, ma_rf_s, ma_rf_n, ma_ial_ap, ma_ias_ap, List.set_cons_zero, List.set_cons_succ, List.length_cons, List.length_nil, Nat.reduceAdd, Nat.reduceLT, Nat.reduceLeDiff, Nat.le_refl, true_and, and_true, Nat.lt_add_one, fa_lit, nI_add, pk_mul, pk_sub, pk_div, ma_rem_n, nI_ltI, nI_leI, nI_eq, Nat.reduceEqDiff, Nat.reduceMul, Nat.reduceSub, not_false_eq_true, not_true_eq_false, or_true, true_or, or_false, false_or, eq_self, Nat.zero_add, Nat.add_zero]
        refine ih (k + 1) (by omega) (by omega) (fun j hj => ?_)
        rcases Nat.lt_or_ge j k with g | g
        · exact g3 j g
        · have : j = k := by omega
          subst this; exact hd
  rw [e61]
  simp (disch := omega) only [w61_0, w61_1, w61_4, w61_5, w61_8, w61_9, w61_13, w61_14, w61_17, w61_18, w61_21, w61_24, w61_27, w61_28, w61_31, w61_34, w61_37, w61_40, w61_41, w61_44, w61_45, w61_48, ma_kV_ap, ma_kC_s, ma_kC_n, ma_kH_ap, ma_gf_ap, ma_pf_ap, ma_cv_ap, ma_nt_0, ma_nt_s, ma_if_t, ma_if_f, ma_set_s, ma_set_ss, ma_set_2, ma_cat_n, ma_cat_i, ma_cat_l, ma_cat_r, ma_clr_n, ma_clr_i, ma_clr_l, ma_clr_r, ma_clr_0, ma_rf_s, ma_rf_n, ma_ial_ap, ma_ias_ap, List.set_cons_zero, List.set_cons_succ, List.length_cons, List.length_nil, Nat.reduceAdd, Nat.reduceLT, Nat.reduceLeDiff, Nat.le_refl, true_and, and_true, Nat.lt_add_one, fa_lit, nI_add, pk_mul, pk_sub, pk_div, ma_rem_n, nI_ltI, nI_leI, nI_eq, Nat.reduceEqDiff, Nat.reduceMul, Nat.reduceSub, not_false_eq_true, not_true_eq_false, or_true, true_or, or_false, false_or, eq_self, Nat.zero_add, Nat.add_zero, tab_cv, tab_g0, tab_g2, trC, h29, h30]
  refine t_copyFrom' (by omega) h30 hT ?_
  simp (disch := omega) only [w61_0, w61_1, w61_4, w61_5, w61_8, w61_9, w61_13, w61_14, w61_17, w61_18, w61_21, w61_24, w61_27, w61_28, w61_31, w61_34, w61_37, w61_40, w61_41, w61_44, w61_45, w61_48, ma_kV_ap, ma_kC_s, ma_kC_n, ma_kH_ap, ma_gf_ap, ma_pf_ap, ma_cv_ap, ma_nt_0, ma_nt_s, ma_if_t, ma_if_f, ma_set_s, ma_set_ss, ma_set_2, ma_cat_n, ma_cat_i, ma_cat_l, ma_cat_r, ma_clr_n, ma_clr_i, ma_clr_l, ma_clr_r, ma_clr_0, ma_rf_s, ma_rf_n, ma_ial_ap, ma_ias_ap, List.set_cons_zero, List.set_cons_succ, List.length_cons, List.length_nil, Nat.reduceAdd, Nat.reduceLT, Nat.reduceLeDiff, Nat.le_refl, true_and, and_true, Nat.lt_add_one, fa_lit, nI_add, pk_mul, pk_sub, pk_div, ma_rem_n, nI_ltI, nI_leI, nI_eq, Nat.reduceEqDiff, Nat.reduceMul, Nat.reduceSub, not_false_eq_true, not_true_eq_false, or_true, true_or, or_false, false_or, eq_self, Nat.zero_add, Nat.add_zero]
  exact loop m 0 rfl (Nat.zero_le _) (fun j hj => by omega)
def gpile (t : ga_T) : List Nat := ghand t 2
/-- the m-th move is the first that takes the pile -/
def gft (t : ga_T) (m : Nat) : Prop := 1 ≤ m ∧ (∀ j, j < m → ¬ gdone (git j t)) ∧ gpile (git m t) = [] ∧ ∀ j, 1 ≤ j → j < m → gpile (git j t) ≠ []
theorem gft_uniq {a b : Nat} (ha : gft t a) (hb : gft t b) : a = b := by
  rcases Nat.lt_trichotomy a b with h | h | h
  · exact absurd ha.2.2.1 (hb.2.2.2 a ha.1 h)
  · exact h
  · exact absurd hb.2.2.1 (ha.2.2.2 b hb.1 h)
theorem k_first {w : Bool} (hok : ga_ok t) (hmv : gmv t < 90000) (hTr : trOK H bc bm) (hi : i < 29 ∨ 33 ≤ i) (hT : H.1 i = tabC t) (h1 : ∀ m y, m ≤ 200 → gft t m → Q (some (.int (nI (if w then gtu (git m t) else m)))) (ma_set H 30 (tabC y))) (h0 : ∀ y, (∀ m, m ≤ 200 → ¬ gft t m) → Q (some (.int (-nI 1))) (ma_set H 30 (tabC y))) : ma_MW (d + 6) 64 [.ref 29, .ref i, .int (nI (if w then 1 else 0))] H Q := by
  obtain ⟨h29, ⟨y30, h30⟩, -⟩ := hTr
  have loop : ∀ c k, 200 - k = c → k ≤ 200 → (∀ j, j < k → ¬ gdone (git j t)) → (∀ j, 1 ≤ j → j < k + 1 → gpile (git j t) ≠ []) → ma_W (d + 5) 64 Q 10 [some (.ref 29), some (.ref i), some (.int (nI (if w then 1 else 0))), some (.int (nI (k + 1)))] [] (ma_set H 30 (tabC (git k t))) 0 0 := by
    intro c
    induction c with
    | zero =>
      intro k g1 g2 g3 g4
      have hc : (200 < k + 1) = True := eq_true (by omega)
      simp (disch := omega) only [w64_0, w64_1, w64_4, w64_5, w64_8, w64_9, w64_10, w64_11, w64_14, w64_17, w64_18, w64_21, w64_24, w64_27, w64_28, w64_31, w64_34, w64_35, w64_38, w64_39, w64_42, w64_43, w64_44, w64_47, w64_48, w64_51, w64_52, w64_55, w64_58, w64_61, w64_62, w64_63, w64_66, w64_69, w64_70, ma_kV_ap, ma_kC_s, ma_kC_n, ma_kH_ap, ma_gf_ap, ma_pf_ap, ma_cv_ap, ma_nt_0, ma_nt_s, ma_if_t, ma_if_f, ma_set_s, ma_set_ss, ma_set_2, ma_cat_n, ma_cat_i, ma_cat_l, ma_cat_r, ma_clr_n, ma_clr_i, ma_clr_l, ma_clr_r, ma_clr_0, ma_rf_s, ma_rf_n, ma_ial_ap, ma_ias_ap, List.set_cons_zero, List.set_cons_succ, List.length_cons, List.length_nil, Nat.reduceAdd, Nat.reduceLT, Nat.reduceLeDiff, Nat.le_refl, true_and, and_true, Nat.lt_add_one, fa_lit, nI_add, pk_mul, pk_sub, pk_div, ma_rem_n, nI_ltI, nI_leI, nI_eq, Nat.reduceEqDiff, Nat.reduceMul, Nat.reduceSub, not_false_eq_true, not_true_eq_false, or_true, true_or, or_false, false_or, eq_self, Nat.zero_add, Nat.add_zero, hc]
      exact h0 _ (fun m hm hf => g4 m hf.1 (by omega) hf.2.2.1)
    | succ c ih =>
      intro k g1 g2 g3 g4
      have hc : (200 < k + 1) = False := eq_false (by omega)
      have := gmv_git t k
      simp (disch := omega) only [w64_0, w64_1, w64_4, w64_5, w64_8, w64_9, w64_10, w64_11, w64_14, w64_17, w64_18, w64_21, w64_24, w64_27, w64_28, w64_31, w64_34, w64_35, w64_38, w64_39, w64_42, w64_43, w64_44, w64_47, w64_48, w64_51, w64_52, w64_55, w64_58, w64_61, w64_62, w64_63, w64_66, w64_69, w64_70, ma_kV_ap, ma_kC_s, ma_kC_n, ma_kH_ap, ma_gf_ap, ma_pf_ap, ma_cv_ap, ma_nt_0, ma_nt_s, ma_if_t, ma_if_f, ma_set_s, ma_set_ss, ma_set_2, ma_cat_n, ma_cat_i, ma_cat_l, ma_cat_r, ma_clr_n, ma_clr_i, ma_clr_l, ma_clr_r, ma_clr_0, ma_rf_s, ma_rf_n, ma_ial_ap, ma_ias_ap, List.set_cons_zero, List.set_cons_succ, List.length_cons, List.length_nil, Nat.reduceAdd, Nat.reduceLT, Nat.reduceLeDiff, Nat.le_refl, true_and, and_true, Nat.lt_add_one, fa_lit, nI_add, pk_mul, pk_sub, pk_div, ma_rem_n, nI_ltI, nI_leI, nI_eq, Nat.reduceEqDiff, Nat.reduceMul, Nat.reduceSub, not_false_eq_true, not_true_eq_false, or_true, true_or, or_false, false_or, eq_self, Nat.zero_add, Nat.add_zero, nu_in, nI_clamp, pk_us, pk_un, ma_set_n, tab_cv, tab_g0, tab_g2, trC, hc, h29]
      refine t_isDone' (ok_git hok k) (ma_set_s _ _ _) (fun hd => ?_) (fun hd => ?_)
      · simp (disch := omega) only [w64_0, w64_1, w64_4, w64_5, w64_8, w64_9, w64_10, w64_11, w64_14, w64_17, w64_18, w64_21, w64_24, w64_27, w64_28, w64_31, w64_34, w64_35, w64_38, w64_39, w64_42, w64_43, w64_44, w64_47, w64_48, w64_51, w64_52, w64_55, w64_58, w64_61, w64_62, w64_63, w64_66, w64_69, w64_70, ma_kV_ap, ma_kC_s, ma_kC_n, ma_kH_ap, ma_gf_ap, ma_pf_ap, ma_cv_ap, ma_nt_0, ma_nt_s, ma_if_t, ma_if_f, ma_set_s, ma_set_ss, ma_set_2, ma_cat_n, ma_cat_i, ma_cat_l, ma_cat_r, ma_clr_n, ma_clr_i, ma_clr_l, ma_clr_r, ma_clr_0, ma_rf_s, ma_rf_n, ma_ial_ap, ma_ias_ap, List.set_cons_zero, List.set_cons_succ, List.length_cons, List.length_nil, Nat.reduceAdd, Nat.reduceLT, Nat.reduceLeDiff, Nat.le_refl, true_and, and_true, Nat.lt_add_one, fa_lit, nI_add, pk_mul, pk_sub, pk_div, ma_rem_n, nI_ltI, nI_leI, nI_eq, Nat.reduceEqDiff, Nat.reduceMul, Nat.reduceSub, not_false_eq_true, not_true_eq_false, or_true, true_or, or_false, false_or, eq_self, Nat.zero_add, Nat.add_zero]
        refine h0 _ (fun m hm hf => ?_)
        rcases Nat.lt_or_ge k m with g | g
        · exact hf.2.1 k g hd
        · exact g4 m hf.1 (by omega) hf.2.2.1
      · simp (disch := omega) only [w64_0, w64_1, w64_4, w64_5, w64_8, w64_9, w64_10, w64_11, w64_14, w64_17, w64_18, w64_21, w64_24, w64_27, w64_28, w64_31, w64_34, w64_35, w64_38, w64_39, w64_42, w64_43, w64_44, w64_47, w64_48, w64_51, w64_52, w64_55, w64_58, w64_61, w64_62, w64_63, w64_66, w64_69, w64_70, ma_kV_ap, ma_kC_s, ma_kC_n, ma_kH_ap, ma_gf_ap, ma_pf_ap, ma_cv_ap, ma_nt_0, ma_nt_s, ma_if_t, ma_if_f, ma_set_s, ma_set_ss, ma_set_2, ma_cat_n, ma_cat_i, ma_cat_l, ma_cat_r, ma_clr_n, ma_clr_i, ma_clr_l, ma_clr_r, ma_clr_0, ma_rf_s, ma_rf_n, ma_ial_ap, ma_ias_ap, List.set_cons_zero, List.set_cons_succ, List.length_cons, List.length_nil, Nat.reduceAdd, Nat.reduceLT, Nat.reduceLeDiff, Nat.le_refl, true_and, and_true, Nat.lt_add_one, fa_lit, nI_add, pk_mul, pk_sub, pk_div, ma_rem_n, nI_ltI, nI_leI, nI_eq, Nat.reduceEqDiff, Nat.reduceMul, Nat.reduceSub, not_false_eq_true, not_true_eq_false, or_true, true_or, or_false, false_or, eq_self, Nat.zero_add, Nat.add_zero, nu_in, nI_clamp, pk_us, pk_un, ma_set_n, tab_cv, tab_g0, tab_g2, trC, h29]
        refine t_move' (ok_git hok k) (by omega) hd (ma_set_s _ _ _) ?_
        rw [ma_set_ss, ← git_s]
        have g3' : ∀ j, j < k + 1 → ¬ gdone (git j t) := fun j hj => by
          rcases Nat.lt_or_ge j k with g | g
          · exact g3 j g
          · have : j = k := by omega
            subst this; exact hd
        simp (disch := omega) only [w64_0, w64_1, w64_4, w64_5, w64_8, w64_9, w64_10, w64_11, w64_14, w64_17, w64_18, w64_21, w64_24, w64_27, w64_28, w64_31, w64_34, w64_35, w64_38, w64_39, w64_42, w64_43, w64_44, w64_47, w64_48, w64_51, w64_52, w64_55, w64_58, w64_61, w64_62, w64_63, w64_66, w64_69, w64_70, ma_kV_ap, ma_kC_s, ma_kC_n, ma_kH_ap, ma_gf_ap, ma_pf_ap, ma_cv_ap, ma_nt_0, ma_nt_s, ma_if_t, ma_if_f, ma_set_s, ma_set_ss, ma_set_2, ma_cat_n, ma_cat_i, ma_cat_l, ma_cat_r, ma_clr_n, ma_clr_i, ma_clr_l, ma_clr_r, ma_clr_0, ma_rf_s, ma_rf_n, ma_ial_ap, ma_ias_ap, List.set_cons_zero, List.set_cons_succ, List.length_cons, List.length_nil, Nat.reduceAdd, Nat.reduceLT, Nat.reduceLeDiff, Nat.le_refl, true_and, and_true, Nat.lt_add_one, fa_lit, nI_add, pk_mul, pk_sub, pk_div, ma_rem_n, nI_ltI, nI_leI, nI_eq, Nat.reduceEqDiff, Nat.reduceMul, Nat.reduceSub, not_false_eq_true, not_true_eq_false, or_true, true_or, or_false, false_or, eq_self, Nat.zero_add, Nat.add_zero, nu_in, nI_clamp, pk_us, pk_un, ma_set_n, tab_cv, tab_g0, tab_g2, trC, h29]
        refine t_row' (t := git (k + 1) t) (by decide) (ma_set_s _ _ _) ?_
        have hgp : gk (ghand (git (k + 1) t) 2) := ghand_gk (ok_git hok _) 2
        simp (disch := omega) only [w64_0, w64_1, w64_4, w64_5, w64_8, w64_9, w64_10, w64_11, w64_14, w64_17, w64_18, w64_21, w64_24, w64_27, w64_28, w64_31, w64_34, w64_35, w64_38, w64_39, w64_42, w64_43, w64_44, w64_48, w64_51, w64_52, w64_55, w64_58, w64_61, w64_62, w64_66, w64_69, w64_70, ma_kV_ap, ma_kC_s, ma_kC_n, ma_kH_ap, ma_gf_ap, ma_pf_ap, ma_cv_ap, ma_nt_0, ma_nt_s, ma_if_t, ma_if_f, ma_set_s, ma_set_ss, ma_set_2, ma_cat_n, ma_cat_i, ma_cat_l, ma_cat_r, ma_clr_n, ma_clr_i, ma_clr_l, ma_clr_r, ma_clr_0, ma_rf_s, ma_rf_n, ma_ial_ap, ma_ias_ap, List.set_cons_zero, List.set_cons_succ, List.length_cons, List.length_nil, Nat.reduceAdd, Nat.reduceLT, Nat.reduceLeDiff, Nat.le_refl, true_and, and_true, Nat.lt_add_one, lcmp_0 hgp]
        refine ⟨fun c => ?_, fun c => ?_⟩
        · have hf : gft t (k + 1) := ⟨by omega, g3', c, g4⟩
          have hq := h1 (k + 1) (git (k + 1) t) (by omega) hf
          cases w with
          | true =>
            simp (disch := omega) only [w64_0, w64_1, w64_4, w64_5, w64_8, w64_9, w64_10, w64_11, w64_14, w64_17, w64_18, w64_21, w64_24, w64_27, w64_28, w64_31, w64_34, w64_35, w64_38, w64_39, w64_42, w64_43, w64_44, w64_47, w64_48, w64_51, w64_52, w64_55, w64_58, w64_61, w64_62, w64_63, w64_66, w64_69, w64_70, ma_kV_ap, ma_kC_s, ma_kC_n, ma_kH_ap, ma_gf_ap, ma_pf_ap, ma_cv_ap, ma_nt_0, ma_nt_s, ma_if_t, ma_if_f, ma_set_s, ma_set_ss, ma_set_2, ma_cat_n, ma_cat_i, ma_cat_l, ma_cat_r, ma_clr_n, ma_clr_i, ma_clr_l, ma_clr_r, ma_clr_0, ma_rf_s, ma_rf_n, ma_ial_ap, ma_ias_ap, List.set_cons_zero, List.set_cons_succ, List.length_cons, List.length_nil, Nat.reduceAdd, Nat.reduceLT, Nat.reduceLeDiff, Nat.le_refl, true_and, and_true, Nat.lt_add_one, fa_lit, nI_add, pk_mul, pk_sub, pk_div, ma_rem_n, nI_ltI, nI_leI, nI_eq, Nat.reduceEqDiff, Nat.reduceMul, Nat.reduceSub, not_false_eq_true, not_true_eq_false, or_true, true_or, or_false, false_or, eq_self, Nat.zero_add, Nat.add_zero, nu_in, nI_clamp, pk_us, pk_un, ma_set_n, tab_cv, tab_g0, tab_g2, trC, h29, if_true]
            exact hq
          | false =>
            simp (disch := omega) only [w64_0, w64_1, w64_4, w64_5, w64_8, w64_9, w64_10, w64_11, w64_14, w64_17, w64_18, w64_21, w64_24, w64_27, w64_28, w64_31, w64_34, w64_35, w64_38, w64_39, w64_42, w64_43, w64_44, w64_47, w64_48, w64_51, w64_52, w64_55, w64_58, w64_61, w64_62, w64_63, w64_66, w64_69, w64_70, ma_kV_ap, ma_kC_s, ma_kC_n, ma_kH_ap, ma_gf_ap, ma_pf_ap, ma_cv_ap, ma_nt_0, ma_nt_s, ma_if_t, ma_if_f, ma_set_s, ma_set_ss, ma_set_2, ma_cat_n, ma_cat_i, ma_cat_l, ma_cat_r, ma_clr_n, ma_clr_i, ma_clr_l, ma_clr_r, ma_clr_0, ma_rf_s, ma_rf_n, ma_ial_ap, ma_ias_ap, List.set_cons_zero, List.set_cons_succ, List.length_cons, List.length_nil, Nat.reduceAdd, Nat.reduceLT, Nat.reduceLeDiff, Nat.le_refl, true_and, and_true, Nat.lt_add_one, fa_lit, nI_add, pk_mul, pk_sub, pk_div, ma_rem_n, nI_ltI, nI_leI, nI_eq, Nat.reduceEqDiff, Nat.reduceMul, Nat.reduceSub, not_false_eq_true, not_true_eq_false, or_true, true_or, or_false, false_or, eq_self, Nat.zero_add, Nat.add_zero, nu_in, nI_clamp, pk_us, pk_un, ma_set_n, tab_cv, tab_g0, tab_g2, trC, h29, if_false, Bool.false_eq_true]
            exact hq
        · simp (disch := omega) only [w64_0, w64_1, w64_4, w64_5, w64_8, w64_9, w64_11, w64_14, w64_17, w64_18, w64_21, w64_24, w64_27, w64_28, w64_31, w64_34, w64_35, w64_38, w64_39, w64_42, w64_43, w64_44, w64_47, w64_48, w64_51, w64_52, w64_55, w64_58, w64_61, w64_62, w64_63, w64_66, w64_69, w64_70, ma_kV_ap, ma_kC_s, ma_kC_n, ma_kH_ap, ma_gf_ap, ma_pf_ap, ma_cv_ap, ma_nt_0, ma_nt_s, ma_if_t, ma_if_f, ma_set_s, ma_set_ss, ma_set_2, ma_cat_n, ma_cat_i, ma_cat_l, ma_cat_r, ma_clr_n, ma_clr_i, ma_clr_l, ma_clr_r, ma_clr_0, ma_rf_s, ma_rf_n, ma_ial_ap, ma_ias_ap, List.set_cons_zero, List.set_cons_succ, List.length_cons, List.length_nil, Nat.reduceAdd, Nat.reduceLT, Nat.reduceLeDiff, Nat.le_refl, true_and, and_true, Nat.lt_add_one, fa_lit, nI_add, pk_mul, pk_sub, pk_div, ma_rem_n, nI_ltI, nI_leI, nI_eq, Nat.reduceEqDiff, Nat.reduceMul, Nat.reduceSub, not_false_eq_true, not_true_eq_false, or_true, true_or, or_false, false_or, eq_self, Nat.zero_add, Nat.add_zero]
          refine ih (k + 1) (by omega) (by omega) g3' (fun j hj1 hj2 => ?_)
          rcases Nat.lt_or_ge j (k + 1) with g | g
          · exact g4 j hj1 g
          · have : j = k + 1 := by omega
            subst this; exact c
  rw [e64]
  simp (disch := omega) only [w64_0, w64_1, w64_4, w64_5, w64_8, w64_9, w64_11, w64_14, w64_17, w64_18, w64_21, w64_24, w64_27, w64_28, w64_31, w64_34, w64_35, w64_38, w64_39, w64_42, w64_43, w64_44, w64_47, w64_48, w64_51, w64_52, w64_55, w64_58, w64_61, w64_62, w64_63, w64_66, w64_69, w64_70, ma_kV_ap, ma_kC_s, ma_kC_n, ma_kH_ap, ma_gf_ap, ma_pf_ap, ma_cv_ap, ma_nt_0, ma_nt_s, ma_if_t, ma_if_f, ma_set_s, ma_set_ss, ma_set_2, ma_cat_n, ma_cat_i, ma_cat_l, ma_cat_r, ma_clr_n, ma_clr_i, ma_clr_l, ma_clr_r, ma_clr_0, ma_rf_s, ma_rf_n, ma_ial_ap, ma_ias_ap, List.set_cons_zero, List.set_cons_succ, List.length_cons, List.length_nil, Nat.reduceAdd, Nat.reduceLT, Nat.reduceLeDiff, Nat.le_refl, true_and, and_true, Nat.lt_add_one, fa_lit, nI_add, pk_mul, pk_sub, pk_div, ma_rem_n, nI_ltI, nI_leI, nI_eq, Nat.reduceEqDiff, Nat.reduceMul, Nat.reduceSub, not_false_eq_true, not_true_eq_false, or_true, true_or, or_false, false_or, eq_self, Nat.zero_add, Nat.add_zero, tab_cv, tab_g0, tab_g2, trC, h29, h30]
  refine t_copyFrom' (by omega) h30 hT ?_
  simp (disch := omega) only [w64_0, w64_1, w64_4, w64_5, w64_8, w64_9, w64_11, w64_14, w64_17, w64_18, w64_21, w64_24, w64_27, w64_28, w64_31, w64_34, w64_35, w64_38, w64_39, w64_42, w64_43, w64_44, w64_47, w64_48, w64_51, w64_52, w64_55, w64_58, w64_61, w64_62, w64_63, w64_66, w64_69, w64_70, ma_kV_ap, ma_kC_s, ma_kC_n, ma_kH_ap, ma_gf_ap, ma_pf_ap, ma_cv_ap, ma_nt_0, ma_nt_s, ma_if_t, ma_if_f, ma_set_s, ma_set_ss, ma_set_2, ma_cat_n, ma_cat_i, ma_cat_l, ma_cat_r, ma_clr_n, ma_clr_i, ma_clr_l, ma_clr_r, ma_clr_0, ma_rf_s, ma_rf_n, ma_ial_ap, ma_ias_ap, List.set_cons_zero, List.set_cons_succ, List.length_cons, List.length_nil, Nat.reduceAdd, Nat.reduceLT, Nat.reduceLeDiff, Nat.le_refl, true_and, and_true, Nat.lt_add_one, fa_lit, nI_add, pk_mul, pk_sub, pk_div, ma_rem_n, nI_ltI, nI_leI, nI_eq, Nat.reduceEqDiff, Nat.reduceMul, Nat.reduceSub, not_false_eq_true, not_true_eq_false, or_true, true_or, or_false, false_or, eq_self, Nat.zero_add, Nat.add_zero]
  exact loop 200 0 rfl (by omega) (fun j hj => by omega) (fun j h1 h2 => by omega)
def gag (t : ga_T) (m : Nat) : Prop := 1 ≤ m ∧ (∀ j, j < m → ¬ gdone (git j t)) ∧ gcore (git m t) = gcore t ∧ ∀ j, 1 ≤ j → j < m → gcore (git j t) ≠ gcore t
theorem gag_uniq {a b : Nat} (ha : gag t a) (hb : gag t b) : a = b := by
  rcases Nat.lt_trichotomy a b with h | h | h
  · exact absurd ha.2.2.1 (hb.2.2.2 a ha.1 h)
  · exact h
  · exact absurd hb.2.2.1 (ha.2.2.2 b hb.1 h)
theorem k_round (hok : ga_ok t) (hmv : gmv t < 90000) (hTr : trOK H bc bm) (hi : i < 29 ∨ 33 ≤ i) (hT : H.1 i = tabC t) (h1 : ∀ m y, m ≤ 500 → gag t m → Q (some (.int (nI m))) (ma_set H 30 (tabC y))) (h0 : ∀ y, (∀ m, m ≤ 500 → ¬ gag t m) → Q (some (.int (-nI 1))) (ma_set H 30 (tabC y))) : ma_MW (d + 6) 65 [.ref 29, .ref i] H Q := by
  obtain ⟨h29, ⟨y30, h30⟩, -⟩ := hTr
  have loop : ∀ c k, 500 - k = c → k ≤ 500 → (∀ j, j < k → ¬ gdone (git j t)) → (∀ j, 1 ≤ j → j < k + 1 → gcore (git j t) ≠ gcore t) → ma_W (d + 5) 65 Q 10 [some (.ref 29), some (.ref i), some (.int (nI (k + 1)))] [] (ma_set H 30 (tabC (git k t))) 0 0 := by
    intro c
    induction c with
    | zero =>
      intro k g1 g2 g3 g4
      have hc : (500 < k + 1) = True := eq_true (by omega)
      simp (disch := omega) only [w65_0, w65_1, w65_4, w65_5, w65_8, w65_9, w65_10, w65_11, w65_14, w65_17, w65_18, w65_21, w65_24, w65_27, w65_28, w65_31, w65_34, w65_35, w65_38, w65_39, w65_42, w65_45, w65_46, w65_47, w65_50, w65_53, w65_54, ma_kV_ap, ma_kC_s, ma_kC_n, ma_kH_ap, ma_gf_ap, ma_pf_ap, ma_cv_ap, ma_nt_0, ma_nt_s, ma_if_t, ma_if_f, ma_set_s, ma_set_ss, ma_set_2, ma_cat_n, ma_cat_i, ma_cat_l, ma_cat_r, ma_clr_n, ma_clr_i, ma_clr_l, ma_clr_r, ma_clr_0, ma_rf_s, ma_rf_n, ma_ial_ap, ma_ias_ap, List.set_cons_zero, List.set_cons_succ, List.length_cons, List.length_nil, Nat.reduceAdd, Nat.reduceLT, Nat.reduceLeDiff, Nat.le_refl, true_and, and_true, Nat.lt_add_one, fa_lit, nI_add, pk_mul, pk_sub, pk_div, ma_rem_n, nI_ltI, nI_leI, nI_eq, Nat.reduceEqDiff, Nat.reduceMul, Nat.reduceSub, not_false_eq_true, not_true_eq_false, or_true, true_or, or_false, false_or, eq_self, Nat.zero_add, Nat.add_zero, hc]
      exact h0 _ (fun m hm hf => g4 m hf.1 (by omega) hf.2.2.1)
    | succ c ih =>
      intro k g1 g2 g3 g4
      have hc : (500 < k + 1) = False := eq_false (by omega)
      have := gmv_git t k
      simp (disch := omega) only [w65_0, w65_1, w65_4, w65_5, w65_8, w65_9, w65_10, w65_11, w65_14, w65_17, w65_18, w65_21, w65_24, w65_27, w65_28, w65_31, w65_34, w65_35, w65_38, w65_39, w65_42, w65_45, w65_46, w65_47, w65_50, w65_53, w65_54, ma_kV_ap, ma_kC_s, ma_kC_n, ma_kH_ap, ma_gf_ap, ma_pf_ap, ma_cv_ap, ma_nt_0, ma_nt_s, ma_if_t, ma_if_f, ma_set_s, ma_set_ss, ma_set_2, ma_cat_n, ma_cat_i, ma_cat_l, ma_cat_r, ma_clr_n, ma_clr_i, ma_clr_l, ma_clr_r, ma_clr_0, ma_rf_s, ma_rf_n, ma_ial_ap, ma_ias_ap, List.set_cons_zero, List.set_cons_succ, List.length_cons, List.length_nil, Nat.reduceAdd, Nat.reduceLT, Nat.reduceLeDiff, Nat.le_refl, true_and, and_true, Nat.lt_add_one, fa_lit, nI_add, pk_mul, pk_sub, pk_div, ma_rem_n, nI_ltI, nI_leI, nI_eq, Nat.reduceEqDiff, Nat.reduceMul, Nat.reduceSub, not_false_eq_true, not_true_eq_false, or_true, true_or, or_false, false_or, eq_self, Nat.zero_add, Nat.add_zero, nu_in, nI_clamp, pk_us, pk_un, ma_set_n, tab_cv, tab_g0, tab_g2, trC, hc, h29]
      refine t_isDone' (ok_git hok k) (ma_set_s _ _ _) (fun hd => ?_) (fun hd => ?_)
      · simp (disch := omega) only [w65_0, w65_1, w65_4, w65_5, w65_8, w65_9, w65_10, w65_11, w65_14, w65_17, w65_18, w65_21, w65_24, w65_27, w65_28, w65_31, w65_34, w65_35, w65_38, w65_39, w65_42, w65_45, w65_46, w65_47, w65_50, w65_53, w65_54, ma_kV_ap, ma_kC_s, ma_kC_n, ma_kH_ap, ma_gf_ap, ma_pf_ap, ma_cv_ap, ma_nt_0, ma_nt_s, ma_if_t, ma_if_f, ma_set_s, ma_set_ss, ma_set_2, ma_cat_n, ma_cat_i, ma_cat_l, ma_cat_r, ma_clr_n, ma_clr_i, ma_clr_l, ma_clr_r, ma_clr_0, ma_rf_s, ma_rf_n, ma_ial_ap, ma_ias_ap, List.set_cons_zero, List.set_cons_succ, List.length_cons, List.length_nil, Nat.reduceAdd, Nat.reduceLT, Nat.reduceLeDiff, Nat.le_refl, true_and, and_true, Nat.lt_add_one, fa_lit, nI_add, pk_mul, pk_sub, pk_div, ma_rem_n, nI_ltI, nI_leI, nI_eq, Nat.reduceEqDiff, Nat.reduceMul, Nat.reduceSub, not_false_eq_true, not_true_eq_false, or_true, true_or, or_false, false_or, eq_self, Nat.zero_add, Nat.add_zero]
        refine h0 _ (fun m hm hf => ?_)
        rcases Nat.lt_or_ge k m with g | g
        · exact hf.2.1 k g hd
        · exact g4 m hf.1 (by omega) hf.2.2.1
      · simp (disch := omega) only [w65_0, w65_1, w65_4, w65_5, w65_8, w65_9, w65_10, w65_11, w65_14, w65_17, w65_18, w65_21, w65_24, w65_27, w65_28, w65_31, w65_34, w65_35, w65_38, w65_39, w65_42, w65_45, w65_46, w65_47, w65_50, w65_53, w65_54, ma_kV_ap, ma_kC_s, ma_kC_n, ma_kH_ap, ma_gf_ap, ma_pf_ap, ma_cv_ap, ma_nt_0, ma_nt_s, ma_if_t, ma_if_f, ma_set_s, ma_set_ss, ma_set_2, ma_cat_n, ma_cat_i, ma_cat_l, ma_cat_r, ma_clr_n, ma_clr_i, ma_clr_l, ma_clr_r, ma_clr_0, ma_rf_s, ma_rf_n, ma_ial_ap, ma_ias_ap, List.set_cons_zero, List.set_cons_succ, List.length_cons, List.length_nil, Nat.reduceAdd, Nat.reduceLT, Nat.reduceLeDiff, Nat.le_refl, true_and, and_true, Nat.lt_add_one, fa_lit, nI_add, pk_mul, pk_sub, pk_div, ma_rem_n, nI_ltI, nI_leI, nI_eq, Nat.reduceEqDiff, Nat.reduceMul, Nat.reduceSub, not_false_eq_true, not_true_eq_false, or_true, true_or, or_false, false_or, eq_self, Nat.zero_add, Nat.add_zero, nu_in, nI_clamp, pk_us, pk_un, ma_set_n, tab_cv, tab_g0, tab_g2, trC, h29]
        refine t_move' (ok_git hok k) (by omega) hd (ma_set_s _ _ _) ?_
        rw [ma_set_ss, ← git_s]
        have g3' : ∀ j, j < k + 1 → ¬ gdone (git j t) := fun j hj => by
          rcases Nat.lt_or_ge j k with g | g
          · exact g3 j g
          · have : j = k := by omega
            subst this; exact hd
        simp (disch := omega) only [w65_0, w65_1, w65_4, w65_5, w65_8, w65_9, w65_10, w65_11, w65_14, w65_17, w65_18, w65_21, w65_24, w65_27, w65_28, w65_31, w65_34, w65_35, w65_38, w65_39, w65_42, w65_45, w65_46, w65_47, w65_50, w65_53, w65_54, ma_kV_ap, ma_kC_s, ma_kC_n, ma_kH_ap, ma_gf_ap, ma_pf_ap, ma_cv_ap, ma_nt_0, ma_nt_s, ma_if_t, ma_if_f, ma_set_s, ma_set_ss, ma_set_2, ma_cat_n, ma_cat_i, ma_cat_l, ma_cat_r, ma_clr_n, ma_clr_i, ma_clr_l, ma_clr_r, ma_clr_0, ma_rf_s, ma_rf_n, ma_ial_ap, ma_ias_ap, List.set_cons_zero, List.set_cons_succ, List.length_cons, List.length_nil, Nat.reduceAdd, Nat.reduceLT, Nat.reduceLeDiff, Nat.le_refl, true_and, and_true, Nat.lt_add_one, fa_lit, nI_add, pk_mul, pk_sub, pk_div, ma_rem_n, nI_ltI, nI_leI, nI_eq, Nat.reduceEqDiff, Nat.reduceMul, Nat.reduceSub, not_false_eq_true, not_true_eq_false, or_true, true_or, or_false, false_or, eq_self, Nat.zero_add, Nat.add_zero, nu_in, nI_clamp, pk_us, pk_un, ma_set_n, tab_cv, tab_g0, tab_g2, trC, h29]
        refine t_liesAs' (t := git (k + 1) t) (t' := t) (ok_git hok _) hok (gkind_git t _) (ma_set_s _ _ _) (by rw [ma_set_n _ _ (by omega)]; exact hT) (fun c => ?_) (fun c => ?_)
        · simp (disch := omega) only [w65_0, w65_1, w65_4, w65_5, w65_8, w65_9, w65_10, w65_11, w65_14, w65_17, w65_18, w65_21, w65_24, w65_27, w65_28, w65_31, w65_34, w65_35, w65_38, w65_39, w65_42, w65_45, w65_46, w65_47, w65_50, w65_53, w65_54, ma_kV_ap, ma_kC_s, ma_kC_n, ma_kH_ap, ma_gf_ap, ma_pf_ap, ma_cv_ap, ma_nt_0, ma_nt_s, ma_if_t, ma_if_f, ma_set_s, ma_set_ss, ma_set_2, ma_cat_n, ma_cat_i, ma_cat_l, ma_cat_r, ma_clr_n, ma_clr_i, ma_clr_l, ma_clr_r, ma_clr_0, ma_rf_s, ma_rf_n, ma_ial_ap, ma_ias_ap, List.set_cons_zero, List.set_cons_succ, List.length_cons, List.length_nil, Nat.reduceAdd, Nat.reduceLT, Nat.reduceLeDiff, Nat.le_refl, true_and, and_true, Nat.lt_add_one, fa_lit, nI_add, pk_mul, pk_sub, pk_div, ma_rem_n, nI_ltI, nI_leI, nI_eq, Nat.reduceEqDiff, Nat.reduceMul, Nat.reduceSub, not_false_eq_true, not_true_eq_false, or_true, true_or, or_false, false_or, eq_self, Nat.zero_add, Nat.add_zero]
          exact h1 (k + 1) _ (by omega) ⟨by omega, g3', c, g4⟩
        · simp (disch := omega) only [w65_0, w65_1, w65_4, w65_5, w65_8, w65_9, w65_11, w65_14, w65_17, w65_18, w65_21, w65_24, w65_27, w65_28, w65_31, w65_34, w65_35, w65_38, w65_39, w65_42, w65_45, w65_46, w65_47, w65_50, w65_53, w65_54, ma_kV_ap, ma_kC_s, ma_kC_n, ma_kH_ap, ma_gf_ap, ma_pf_ap, ma_cv_ap, ma_nt_0, ma_nt_s, ma_if_t, ma_if_f, ma_set_s, ma_set_ss, ma_set_2, ma_cat_n, ma_cat_i, ma_cat_l, ma_cat_r, ma_clr_n, ma_clr_i, ma_clr_l, ma_clr_r, ma_clr_0, ma_rf_s, ma_rf_n, ma_ial_ap, ma_ias_ap, List.set_cons_zero, List.set_cons_succ, List.length_cons, List.length_nil, Nat.reduceAdd, Nat.reduceLT, Nat.reduceLeDiff, Nat.le_refl, true_and, and_true, Nat.lt_add_one, fa_lit, nI_add, pk_mul, pk_sub, pk_div, ma_rem_n, nI_ltI, nI_leI, nI_eq, Nat.reduceEqDiff, Nat.reduceMul, Nat.reduceSub, not_false_eq_true, not_true_eq_false, or_true, true_or, or_false, false_or, eq_self, Nat.zero_add, Nat.add_zero]
          refine ih (k + 1) (by omega) (by omega) g3' (fun j hj1 hj2 => ?_)
          rcases Nat.lt_or_ge j (k + 1) with g | g
          · exact g4 j hj1 g
          · have : j = k + 1 := by omega
            subst this; exact c
  rw [e65]
  simp (disch := omega) only [w65_0, w65_1, w65_4, w65_5, w65_8, w65_9, w65_11, w65_14, w65_17, w65_18, w65_21, w65_24, w65_27, w65_28, w65_31, w65_34, w65_35, w65_38, w65_39, w65_42, w65_45, w65_46, w65_47, w65_50, w65_53, w65_54, ma_kV_ap, ma_kC_s, ma_kC_n, ma_kH_ap, ma_gf_ap, ma_pf_ap, ma_cv_ap, ma_nt_0, ma_nt_s, ma_if_t, ma_if_f, ma_set_s, ma_set_ss, ma_set_2, ma_cat_n, ma_cat_i, ma_cat_l, ma_cat_r, ma_clr_n, ma_clr_i, ma_clr_l, ma_clr_r, ma_clr_0, ma_rf_s, ma_rf_n, ma_ial_ap, ma_ias_ap, List.set_cons_zero, List.set_cons_succ, List.length_cons, List.length_nil, Nat.reduceAdd, Nat.reduceLT, Nat.reduceLeDiff, Nat.le_refl, true_and, and_true, Nat.lt_add_one, fa_lit, nI_add, pk_mul, pk_sub, pk_div, ma_rem_n, nI_ltI, nI_leI, nI_eq, Nat.reduceEqDiff, Nat.reduceMul, Nat.reduceSub, not_false_eq_true, not_true_eq_false, or_true, true_or, or_false, false_or, eq_self, Nat.zero_add, Nat.add_zero, tab_cv, tab_g0, tab_g2, trC, h29, h30]
  refine t_copyFrom' (by omega) h30 hT ?_
  simp (disch := omega) only [w65_0, w65_1, w65_4, w65_5, w65_8, w65_9, w65_11, w65_14, w65_17, w65_18, w65_21, w65_24, w65_27, w65_28, w65_31, w65_34, w65_35, w65_38, w65_39, w65_42, w65_45, w65_46, w65_47, w65_50, w65_53, w65_54, ma_kV_ap, ma_kC_s, ma_kC_n, ma_kH_ap, ma_gf_ap, ma_pf_ap, ma_cv_ap, ma_nt_0, ma_nt_s, ma_if_t, ma_if_f, ma_set_s, ma_set_ss, ma_set_2, ma_cat_n, ma_cat_i, ma_cat_l, ma_cat_r, ma_clr_n, ma_clr_i, ma_clr_l, ma_clr_r, ma_clr_0, ma_rf_s, ma_rf_n, ma_ial_ap, ma_ias_ap, List.set_cons_zero, List.set_cons_succ, List.length_cons, List.length_nil, Nat.reduceAdd, Nat.reduceLT, Nat.reduceLeDiff, Nat.le_refl, true_and, and_true, Nat.lt_add_one, fa_lit, nI_add, pk_mul, pk_sub, pk_div, ma_rem_n, nI_ltI, nI_leI, nI_eq, Nat.reduceEqDiff, Nat.reduceMul, Nat.reduceSub, not_false_eq_true, not_true_eq_false, or_true, true_or, or_false, false_or, eq_self, Nat.zero_add, Nat.add_zero]
  exact loop 500 0 rfl (by omega) (fun j hj => by omega) (fun j h1 h2 => by omega)
end TU

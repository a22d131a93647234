/-! how a game ends, and the soonest *win* of all tried -/
noncomputable def gE (t : ga_T) : Option Nat := by classical exact if h : ∃ m, m ≤ 2000 ∧ gfirst t m then some h.choose else none
theorem gE_some {t : ga_T} {m : Nat} (hm : m ≤ 2000) (hf : gfirst t m) : gE t = some m := by
  unfold gE
  have h : ∃ m, m ≤ 2000 ∧ gfirst t m := ⟨m, hm, hf⟩
  rw [dif_pos h]
  exact congrArg some (gfirst_uniq h.choose_spec.2 hf)
theorem gE_none {t : ga_T} (h : ∀ m, m ≤ 2000 → ¬ gdone (git m t)) : gE t = none := by
  unfold gE
  rw [dif_neg (fun ⟨m, h1, h2⟩ => h m h1 h2.1)]
theorem gE_inv {t : ga_T} {m : Nat} (h : gE t = some m) : m ≤ 2000 ∧ gfirst t m := by
  unfold gE at h
  split at h
  · rename_i g
    have e : g.choose = m := Option.some.inj h
    rw [← e]; exact g.choose_spec
  · cases h
/-- behind how many moves p has won -/
noncomputable def gW (p : Nat) (t : ga_T) : Option Nat := match gE t with | none => none | some m => if gwon (git m t) = p then some m else none
noncomputable def gbs (p : Nat) (b : Option (Nat × Nat)) (c : Nat) (t : ga_T) : Option (Nat × Nat) := match gW p t with
  | none => b
  | some m => match b with | none => some (c, m) | some (c0, m0) => if m < m0 then some (c, m) else some (c0, m0)
def vC (b : Option (Nat × Nat)) : Int32 := match b with | none => -nI 1 | some (c, _) => nI c
def vM (b : Option (Nat × Nat)) : Int32 := match b with | none => -nI 1 | some (_, m) => nI m
def bOK (b : Option (Nat × Nat)) : Prop := ∀ c m, b = some (c, m) → c < 2000 ∧ m ≤ 2000
theorem gW_le {p m : Nat} {t : ga_T} (h : gW p t = some m) : m ≤ 2000 := by
  unfold gW at h
  cases e : gE t with
  | none => rw [e] at h; cases h
  | some n =>
    rw [e] at h
    dsimp only at h
    split at h
    · have := Option.some.inj h; have := (gE_inv e).1; omega
    · cases h
theorem bOK_gbs {p c : Nat} {b : Option (Nat × Nat)} {t : ga_T} (hc : c < 2000) (hb : bOK b) : bOK (gbs p b c t) := by
  unfold gbs
  cases e : gW p t with
  | none => exact hb
  | some m =>
    have hm := gW_le e
    cases b with
    | none => intro c' m' h; cases h; exact ⟨hc, hm⟩
    | some q =>
      obtain ⟨c0, m0⟩ := q
      dsimp only
      split
      · intro c' m' h; cases h; exact ⟨hc, hm⟩
      · exact hb
section BE
variable {d i : Nat} {H : ma_H} {Q : ma_P} {bc bm : Int32} {t : ga_T}
/-- the trial with t on its table -/
def trT (H : ma_H) (bc bm : Int32) (t : ga_T) : Prop := H.1 29 = trC bc bm ∧ H.1 30 = tabC t ∧ ∃ y, H.1 31 = tabC y
theorem p_out {lim : Nat} (hok : ga_ok t) (hlim : lim ≤ 2000) (hmv : gmv t < 90000) (hT : trT H bc bm t)
    (h1 : ∀ m H', m ≤ lim → gfirst t m → trT H' bc bm (git m t) → fr H H' 29 32 → Q (some (.int (nI m))) H') (h0 : (∀ m, m ≤ lim → ¬ gdone (git m t)) → ∀ H' y, trT H' bc bm y → fr H H' 29 32 → Q (some (.int (-nI 1))) H') : ma_MW (d + 6) 76 [.ref 29, .int (nI lim)] H Q := by
  obtain ⟨a, b, y, c⟩ := hT
  refine t_playOut hok hlim hmv a b c (fun m x hm hf => ?_) (fun hn x z => ?_)
  · refine h1 m _ hm hf ⟨?_, ma_set_s _ _ _, x, ?_⟩ (fr_set' (fr_set _ _ (by omega) (by omega)) (by omega) (by omega))
    · rw [ma_set_n _ _ (by decide), ma_set_n _ _ (by decide)]; exact a
    · rw [ma_set_n _ _ (by decide), ma_set_s]
  · refine h0 hn _ z ⟨?_, ma_set_s _ _ _, x, ?_⟩ (fr_set' (fr_set _ _ (by omega) (by omega)) (by omega) (by omega))
    · rw [ma_set_n _ _ (by decide), ma_set_n _ _ (by decide)]; exact a
    · rw [ma_set_n _ _ (by decide), ma_set_s]
theorem p_out0 (hT : trT H bc bm t) (h0 : ∀ H' y, trT H' bc bm y → fr H H' 29 32 → Q (some (.int (-nI 1))) H') : ma_MW (d + 6) 76 [.ref 29, .int (-nI 1)] H Q := by
  obtain ⟨a, b, y, c⟩ := hT
  have a2 := a
  unfold trC at a2
  have hlt : (-nI 1 < nI 0) = True := eq_true (by decide)
  rw [e76]
  simp (disch := omega) only [w76_0, w76_1, w76_2, w76_3, w76_6, w76_7, w76_10, w76_13, w76_14, w76_16, w76_17, w76_20, w76_21, w76_24, w76_27, w76_30, w76_31, w76_32, w76_33, w76_36, w76_37, w76_40, w76_41, w76_44, w76_47, w76_50, w76_51, w76_52, w76_53, w76_54, w76_57, w76_58, w76_61, w76_62, w76_65, w76_68, w76_69, w76_70, w76_71, w76_72, w76_73, w76_76, w76_79, w76_82, w76_85, w76_86, ma_kV_ap, ma_kC_s, ma_kC_n, ma_kH_ap, ma_gf_ap, ma_pf_ap, ma_cv_ap, ma_nt_0, ma_nt_s, ma_if_t, ma_if_f, ma_set_s, ma_set_ss, ma_set_2, ma_cat_n, ma_cat_i, ma_cat_l, ma_cat_r, ma_clr_n, ma_clr_i, ma_clr_l, ma_clr_r, ma_clr_0, ma_rf_s, ma_rf_n, ma_ial_ap, ma_ias_ap, List.set_cons_zero, List.set_cons_succ, List.length_cons, List.length_nil, Nat.reduceAdd, Nat.reduceLT, Nat.reduceLeDiff, Nat.le_refl, true_and, and_true, Nat.lt_add_one, fa_lit, tab_cv, tab_g0, tab_g2, trC, a2, c]
  refine t_copyFrom' (by decide) c b ?_
  simp (disch := omega) only [w76_0, w76_1, w76_2, w76_3, w76_6, w76_7, w76_10, w76_13, w76_14, w76_15, w76_16, w76_17, w76_20, w76_21, w76_24, w76_27, w76_30, w76_31, w76_32, w76_33, w76_36, w76_37, w76_40, w76_41, w76_44, w76_47, w76_50, w76_51, w76_52, w76_53, w76_54, w76_57, w76_58, w76_61, w76_62, w76_65, w76_68, w76_69, w76_70, w76_71, w76_72, w76_73, w76_76, w76_79, w76_82, w76_85, w76_86, ma_kV_ap, ma_kC_s, ma_kC_n, ma_kH_ap, ma_gf_ap, ma_pf_ap, ma_cv_ap, ma_nt_0, ma_nt_s, ma_if_t, ma_if_f, ma_set_s, ma_set_ss, ma_set_2, ma_cat_n, ma_cat_i, ma_cat_l, ma_cat_r, ma_clr_n, ma_clr_i, ma_clr_l, ma_clr_r, ma_clr_0, ma_rf_s, ma_rf_n, ma_ial_ap, ma_ias_ap, List.set_cons_zero, List.set_cons_succ, List.length_cons, List.length_nil, Nat.reduceAdd, Nat.reduceLT, Nat.reduceLeDiff, Nat.le_refl, true_and, and_true, Nat.lt_add_one, fa_lit, hlt]
  refine h0 _ t ⟨?_, ?_, t, ma_set_s _ _ _⟩ (fr_set _ _ (by omega) (by omega))
  · rw [ma_set_n _ _ (by decide)]; exact a
  · rw [ma_set_n _ _ (by decide)]; exact b
/-- played to the end within 2000 -/
theorem p_outE (hok : ga_ok t) (hmv : gmv t < 90000) (hT : trT H bc bm t)
    (h1 : ∀ m H', gE t = some m → trT H' bc bm (git m t) → fr H H' 29 32 → Q (some (.int (nI m))) H') (h0 : gE t = none → ∀ H' y, trT H' bc bm y → fr H H' 29 32 → Q (some (.int (-nI 1))) H') : ma_MW (d + 6) 76 [.ref 29, .int (nI 2000)] H Q :=
  p_out hok (Nat.le_refl _) hmv hT (fun m H' hm hf => h1 m H' (gE_some hm hf)) (fun hn => h0 (gE_none hn))
theorem gbs_s0 {p c m : Nat} (h : gE t = some m) (hp : gwon (git m t) = p) : gbs p none c t = some (c, m) := by
  unfold gbs gW; rw [h]; dsimp only; rw [if_pos hp]
theorem gbs_n {p c : Nat} {b : Option (Nat × Nat)} (h : gW p t = none) : gbs p b c t = b := by unfold gbs; rw [h]
theorem gW_no {p m : Nat} (h : gE t = some m) (hp : ¬ gwon (git m t) = p) : gW p t = none := by
  unfold gW; rw [h]; dsimp only; rw [if_neg hp]
theorem gW_yes {p m : Nat} (h : gE t = some m) (hp : gwon (git m t) = p) : gW p t = some m := by
  unfold gW; rw [h]; dsimp only; rw [if_pos hp]
theorem gW_none {p : Nat} (h : gE t = none) : gW p t = none := by unfold gW; rw [h]
theorem gwon_lt {m : Nat} (hok : ga_ok t) : gwon (git m t) < 2 := by unfold gwon; omega
theorem k_keep {p c : Nat} {b : Option (Nat × Nat)} (hp : p < 2) (hc : c < 2000) (hb : bOK b) (hok : ga_ok t) (hmv : gmv t < 90000) (hT : trT H (vC b) (vM b) t) (h : ∀ H' y, trT H' (vC (gbs p b c t)) (vM (gbs p b c t)) y → fr H H' 29 32 → Q none H') : ma_MW (d + 7) 68 [.ref 29, .int (nI p), .int (nI c)] H Q := by
  have h29 := hT.1
  unfold trC at h29
  -- what follows playOut
  have no : ∀ H' y, trT H' (vC b) (vM b) y → fr H H' 29 32 → gbs p b c t = b → ma_W (d + 6) 68 Q 24 [some (.ref 29), some (.int (nI p)), some (.int (nI c)), none] [.int (-nI 1)] H' 0 0 := by
    intro H' y q f e
    simp (disch := omega) only [w68_0, w68_1, w68_2, w68_5, w68_6, w68_9, w68_12, w68_15, w68_16, w68_19, w68_20, w68_21, w68_24, w68_25, w68_26, w68_27, w68_30, w68_31, w68_34, w68_37, w68_38, w68_41, w68_42, w68_43, w68_46, w68_47, w68_48, w68_51, ma_kV_ap, ma_kC_s, ma_kC_n, ma_kH_ap, ma_gf_ap, ma_pf_ap, ma_cv_ap, ma_nt_0, ma_nt_s, ma_if_t, ma_if_f, ma_set_s, ma_set_ss, ma_set_2, ma_cat_n, ma_cat_i, ma_cat_l, ma_cat_r, ma_clr_n, ma_clr_i, ma_clr_l, ma_clr_r, ma_clr_0, ma_rf_s, ma_rf_n, ma_ial_ap, ma_ias_ap, List.set_cons_zero, List.set_cons_succ, List.length_cons, List.length_nil, Nat.reduceAdd, Nat.reduceLT, Nat.reduceLeDiff, Nat.le_refl, true_and, and_true, Nat.lt_add_one, fa_lit, nI_add, pk_mul, pk_sub, pk_div, ma_rem_n, nI_ltI, nI_leI, nI_eq, Nat.reduceEqDiff, Nat.reduceMul, Nat.reduceSub, not_false_eq_true, not_true_eq_false, or_true, true_or, or_false, false_or, eq_self, Nat.zero_add, Nat.add_zero]
    rw [e] at h
    exact h H' y q f
  have yes : ∀ m H', m ≤ 2000 → trT H' (vC b) (vM b) (git m t) → fr H H' 29 32 → (gwon (git m t) = p → gbs p b c t = some (c, m)) → (¬ gwon (git m t) = p → gbs p b c t = b) → ma_W (d + 6) 68 Q 24 [some (.ref 29), some (.int (nI p)), some (.int (nI c)), none] [.int (nI m)] H' 0 0 := by
    intro m H' hm q f e1 e2
    have q29 := q.1
    have q30 := q.2.1
    have hne : (nI m = -nI 1) = False := ng_ne (by omega)
    have hw := gwon_lt (m := m) hok
    simp (disch := omega) only [w68_0, w68_1, w68_2, w68_5, w68_6, w68_9, w68_12, w68_15, w68_16, w68_19, w68_20, w68_21, w68_24, w68_25, w68_26, w68_27, w68_30, w68_31, w68_34, w68_37, w68_38, w68_41, w68_42, w68_43, w68_46, w68_47, w68_48, w68_51, ma_kV_ap, ma_kC_s, ma_kC_n, ma_kH_ap, ma_gf_ap, ma_pf_ap, ma_cv_ap, ma_nt_0, ma_nt_s, ma_if_t, ma_if_f, ma_set_s, ma_set_ss, ma_set_2, ma_cat_n, ma_cat_i, ma_cat_l, ma_cat_r, ma_clr_n, ma_clr_i, ma_clr_l, ma_clr_r, ma_clr_0, ma_rf_s, ma_rf_n, ma_ial_ap, ma_ias_ap, List.set_cons_zero, List.set_cons_succ, List.length_cons, List.length_nil, Nat.reduceAdd, Nat.reduceLT, Nat.reduceLeDiff, Nat.le_refl, true_and, and_true, Nat.lt_add_one, fa_lit, nI_add, pk_mul, pk_sub, pk_div, ma_rem_n, nI_ltI, nI_leI, nI_eq, Nat.reduceEqDiff, Nat.reduceMul, Nat.reduceSub, not_false_eq_true, not_true_eq_false, or_true, true_or, or_false, false_or, eq_self, Nat.zero_add, Nat.add_zero, tab_cv, tab_g0, tab_g2, trC, hne, q29, q30]
    refine t_other' (ok_git hok m) q30 ?_
    simp (disch := omega) only [w68_0, w68_1, w68_2, w68_5, w68_6, w68_9, w68_12, w68_15, w68_16, w68_19, w68_20, w68_21, w68_24, w68_25, w68_26, w68_27, w68_30, w68_31, w68_34, w68_37, w68_38, w68_42, w68_43, w68_46, w68_47, w68_48, ma_kV_ap, ma_kC_s, ma_kC_n, ma_kH_ap, ma_gf_ap, ma_pf_ap, ma_cv_ap, ma_nt_0, ma_nt_s, ma_if_t, ma_if_f, ma_set_s, ma_set_ss, ma_set_2, ma_cat_n, ma_cat_i, ma_cat_l, ma_cat_r, ma_clr_n, ma_clr_i, ma_clr_l, ma_clr_r, ma_clr_0, ma_rf_s, ma_rf_n, ma_ial_ap, ma_ias_ap, List.set_cons_zero, List.set_cons_succ, List.length_cons, List.length_nil, Nat.reduceAdd, Nat.reduceLT, Nat.reduceLeDiff, Nat.le_refl, true_and, and_true, Nat.lt_add_one, fa_lit, nI_add, pk_mul, pk_sub, pk_div, ma_rem_n, nI_ltI, nI_leI, nI_eq, Nat.reduceEqDiff, Nat.reduceMul, Nat.reduceSub, not_false_eq_true, not_true_eq_false, or_true, true_or, or_false, false_or, eq_self, Nat.zero_add, Nat.add_zero]
    refine ⟨fun e => ?_, fun e => ?_⟩
    · simp (disch := omega) only [w68_0, w68_1, w68_2, w68_5, w68_6, w68_9, w68_12, w68_15, w68_16, w68_19, w68_20, w68_21, w68_24, w68_25, w68_26, w68_27, w68_30, w68_31, w68_34, w68_37, w68_38, w68_41, w68_42, w68_43, w68_46, w68_47, w68_48, w68_51, ma_kV_ap, ma_kC_s, ma_kC_n, ma_kH_ap, ma_gf_ap, ma_pf_ap, ma_cv_ap, ma_nt_0, ma_nt_s, ma_if_t, ma_if_f, ma_set_s, ma_set_ss, ma_set_2, ma_cat_n, ma_cat_i, ma_cat_l, ma_cat_r, ma_clr_n, ma_clr_i, ma_clr_l, ma_clr_r, ma_clr_0, ma_rf_s, ma_rf_n, ma_ial_ap, ma_ias_ap, List.set_cons_zero, List.set_cons_succ, List.length_cons, List.length_nil, Nat.reduceAdd, Nat.reduceLT, Nat.reduceLeDiff, Nat.le_refl, true_and, and_true, Nat.lt_add_one, fa_lit, nI_add, pk_mul, pk_sub, pk_div, ma_rem_n, nI_ltI, nI_leI, nI_eq, Nat.reduceEqDiff, Nat.reduceMul, Nat.reduceSub, not_false_eq_true, not_true_eq_false, or_true, true_or, or_false, false_or, eq_self, Nat.zero_add, Nat.add_zero, tab_cv, tab_g0, tab_g2, trC, q29]
      rw [e1 e] at h
      obtain ⟨y, q31⟩ := q.2.2
      refine h _ (git m t) ⟨ma_set_s _ _ _, ?_, y, ?_⟩ (fr_set' f (by omega) (by omega))
      · rw [ma_set_n _ _ (by decide)]; exact q30
      · rw [ma_set_n _ _ (by decide)]; exact q31
    · simp (disch := omega) only [w68_0, w68_1, w68_2, w68_5, w68_6, w68_9, w68_12, w68_15, w68_16, w68_19, w68_20, w68_21, w68_24, w68_25, w68_26, w68_27, w68_30, w68_31, w68_34, w68_37, w68_38, w68_41, w68_42, w68_43, w68_46, w68_47, w68_48, w68_51, ma_kV_ap, ma_kC_s, ma_kC_n, ma_kH_ap, ma_gf_ap, ma_pf_ap, ma_cv_ap, ma_nt_0, ma_nt_s, ma_if_t, ma_if_f, ma_set_s, ma_set_ss, ma_set_2, ma_cat_n, ma_cat_i, ma_cat_l, ma_cat_r, ma_clr_n, ma_clr_i, ma_clr_l, ma_clr_r, ma_clr_0, ma_rf_s, ma_rf_n, ma_ial_ap, ma_ias_ap, List.set_cons_zero, List.set_cons_succ, List.length_cons, List.length_nil, Nat.reduceAdd, Nat.reduceLT, Nat.reduceLeDiff, Nat.le_refl, true_and, and_true, Nat.lt_add_one, fa_lit, nI_add, pk_mul, pk_sub, pk_div, ma_rem_n, nI_ltI, nI_leI, nI_eq, Nat.reduceEqDiff, Nat.reduceMul, Nat.reduceSub, not_false_eq_true, not_true_eq_false, or_true, true_or, or_false, false_or, eq_self, Nat.zero_add, Nat.add_zero]
      rw [e2 e] at h
      exact h _ _ q f
  rw [e68]
  cases b with
  | none =>
    have e : vM none = -nI 1 := rfl
    rw [e] at h29
    simp (disch := omega) only [w68_0, w68_1, w68_2, w68_5, w68_6, w68_9, w68_12, w68_15, w68_16, w68_19, w68_20, w68_21, w68_25, w68_26, w68_27, w68_30, w68_31, w68_34, w68_37, w68_38, w68_41, w68_42, w68_43, w68_46, w68_47, w68_48, w68_51, ma_kV_ap, ma_kC_s, ma_kC_n, ma_kH_ap, ma_gf_ap, ma_pf_ap, ma_cv_ap, ma_nt_0, ma_nt_s, ma_if_t, ma_if_f, ma_set_s, ma_set_ss, ma_set_2, ma_cat_n, ma_cat_i, ma_cat_l, ma_cat_r, ma_clr_n, ma_clr_i, ma_clr_l, ma_clr_r, ma_clr_0, ma_rf_s, ma_rf_n, ma_ial_ap, ma_ias_ap, List.set_cons_zero, List.set_cons_succ, List.length_cons, List.length_nil, Nat.reduceAdd, Nat.reduceLT, Nat.reduceLeDiff, Nat.le_refl, true_and, and_true, Nat.lt_add_one, fa_lit, nI_add, pk_mul, pk_sub, pk_div, ma_rem_n, nI_ltI, nI_leI, nI_eq, Nat.reduceEqDiff, Nat.reduceMul, Nat.reduceSub, not_false_eq_true, not_true_eq_false, or_true, true_or, or_false, false_or, eq_self, Nat.zero_add, Nat.add_zero, h29]
    refine p_outE hok hmv hT (fun m H' he q f => ?_) (fun he H' y q f => ?_)
    · simp (disch := omega) only [w68_0, w68_1, w68_2, w68_5, w68_6, w68_9, w68_12, w68_15, w68_16, w68_19, w68_20, w68_21, w68_25, w68_26, w68_27, w68_30, w68_31, w68_34, w68_37, w68_38, w68_41, w68_42, w68_43, w68_46, w68_47, w68_48, w68_51, ma_kV_ap, ma_kC_s, ma_kC_n, ma_kH_ap, ma_gf_ap, ma_pf_ap, ma_cv_ap, ma_nt_0, ma_nt_s, ma_if_t, ma_if_f, ma_set_s, ma_set_ss, ma_set_2, ma_cat_n, ma_cat_i, ma_cat_l, ma_cat_r, ma_clr_n, ma_clr_i, ma_clr_l, ma_clr_r, ma_clr_0, ma_rf_s, ma_rf_n, ma_ial_ap, ma_ias_ap, List.set_cons_zero, List.set_cons_succ, List.length_cons, List.length_nil, Nat.reduceAdd, Nat.reduceLT, Nat.reduceLeDiff, Nat.le_refl, true_and, and_true, Nat.lt_add_one]
      refine yes m H' (gE_inv he).1 q f (fun hp => gbs_s0 he hp) (fun hp => gbs_n (gW_no he hp))
    · simp (disch := omega) only [w68_0, w68_1, w68_2, w68_5, w68_6, w68_9, w68_12, w68_15, w68_16, w68_19, w68_20, w68_21, w68_25, w68_26, w68_27, w68_30, w68_31, w68_34, w68_37, w68_38, w68_41, w68_42, w68_43, w68_46, w68_47, w68_48, w68_51, ma_kV_ap, ma_kC_s, ma_kC_n, ma_kH_ap, ma_gf_ap, ma_pf_ap, ma_cv_ap, ma_nt_0, ma_nt_s, ma_if_t, ma_if_f, ma_set_s, ma_set_ss, ma_set_2, ma_cat_n, ma_cat_i, ma_cat_l, ma_cat_r, ma_clr_n, ma_clr_i, ma_clr_l, ma_clr_r, ma_clr_0, ma_rf_s, ma_rf_n, ma_ial_ap, ma_ias_ap, List.set_cons_zero, List.set_cons_succ, List.length_cons, List.length_nil, Nat.reduceAdd, Nat.reduceLT, Nat.reduceLeDiff, Nat.le_refl, true_and, and_true, Nat.lt_add_one]
      exact no H' y q f (gbs_n (gW_none he))
  | some q0 =>
    obtain ⟨c0, m0⟩ := q0
    obtain ⟨hc0, hm0⟩ := hb c0 m0 rfl
    have e : vM (some (c0, m0)) = nI m0 := rfl
    rw [e] at h29
    have hne : (nI m0 = -nI 1) = False := ng_ne (by omega)
    have big : ∀ m, gE t = some m → m0 ≤ m → gbs p (some (c0, m0)) c t = some (c0, m0) := by
      intro m he hle
      unfold gbs
      by_cases hp : gwon (git m t) = p
      · rw [gW_yes he hp]; dsimp only; rw [if_neg (by omega)]
      · rw [gW_no he hp]
    have all : (∀ m, gE t = some m → m0 ≤ m) → gbs p (some (c0, m0)) c t = some (c0, m0) := by
      intro hall
      cases he : gE t with
      | none => exact gbs_n (gW_none he)
      | some m => exact big m he (hall m he)
    rcases Nat.eq_zero_or_pos m0 with z | z
    · subst z
      have e0 : nI 0 - nI 1 = -nI 1 := by decide
      simp (disch := omega) only [w68_0, w68_1, w68_2, w68_5, w68_6, w68_9, w68_12, w68_15, w68_16, w68_19, w68_20, w68_21, w68_25, w68_26, w68_27, w68_30, w68_31, w68_34, w68_37, w68_38, w68_41, w68_42, w68_43, w68_46, w68_47, w68_48, w68_51, ma_kV_ap, ma_kC_s, ma_kC_n, ma_kH_ap, ma_gf_ap, ma_pf_ap, ma_cv_ap, ma_nt_0, ma_nt_s, ma_if_t, ma_if_f, ma_set_s, ma_set_ss, ma_set_2, ma_cat_n, ma_cat_i, ma_cat_l, ma_cat_r, ma_clr_n, ma_clr_i, ma_clr_l, ma_clr_r, ma_clr_0, ma_rf_s, ma_rf_n, ma_ial_ap, ma_ias_ap, List.set_cons_zero, List.set_cons_succ, List.length_cons, List.length_nil, Nat.reduceAdd, Nat.reduceLT, Nat.reduceLeDiff, Nat.le_refl, true_and, and_true, Nat.lt_add_one, fa_lit, h29, hne, e0]
      refine p_out0 hT (fun H' y q f => ?_)
      simp (disch := omega) only [w68_0, w68_1, w68_2, w68_5, w68_6, w68_9, w68_12, w68_15, w68_16, w68_19, w68_20, w68_21, w68_25, w68_26, w68_27, w68_30, w68_31, w68_34, w68_37, w68_38, w68_41, w68_42, w68_43, w68_46, w68_47, w68_48, w68_51, ma_kV_ap, ma_kC_s, ma_kC_n, ma_kH_ap, ma_gf_ap, ma_pf_ap, ma_cv_ap, ma_nt_0, ma_nt_s, ma_if_t, ma_if_f, ma_set_s, ma_set_ss, ma_set_2, ma_cat_n, ma_cat_i, ma_cat_l, ma_cat_r, ma_clr_n, ma_clr_i, ma_clr_l, ma_clr_r, ma_clr_0, ma_rf_s, ma_rf_n, ma_ial_ap, ma_ias_ap, List.set_cons_zero, List.set_cons_succ, List.length_cons, List.length_nil, Nat.reduceAdd, Nat.reduceLT, Nat.reduceLeDiff, Nat.le_refl, true_and, and_true, Nat.lt_add_one]
      exact no H' y q f (all (fun m _ => Nat.zero_le m))
    · simp (disch := omega) only [w68_0, w68_1, w68_2, w68_5, w68_6, w68_9, w68_12, w68_15, w68_16, w68_19, w68_20, w68_21, w68_25, w68_26, w68_27, w68_30, w68_31, w68_34, w68_37, w68_38, w68_41, w68_42, w68_43, w68_46, w68_47, w68_48, w68_51, ma_kV_ap, ma_kC_s, ma_kC_n, ma_kH_ap, ma_gf_ap, ma_pf_ap, ma_cv_ap, ma_nt_0, ma_nt_s, ma_if_t, ma_if_f, ma_set_s, ma_set_ss, ma_set_2, ma_cat_n, ma_cat_i, ma_cat_l, ma_cat_r, ma_clr_n, ma_clr_i, ma_clr_l, ma_clr_r, ma_clr_0, ma_rf_s, ma_rf_n, ma_ial_ap, ma_ias_ap, List.set_cons_zero, List.set_cons_succ, List.length_cons, List.length_nil, Nat.reduceAdd, Nat.reduceLT, Nat.reduceLeDiff, Nat.le_refl, true_and, and_true, Nat.lt_add_one, fa_lit, nI_add, pk_mul, pk_sub, pk_div, ma_rem_n, nI_ltI, nI_leI, nI_eq, Nat.reduceEqDiff, Nat.reduceMul, Nat.reduceSub, not_false_eq_true, not_true_eq_false, or_true, true_or, or_false, false_or, eq_self, Nat.zero_add, Nat.add_zero, h29, hne]
      refine p_out hok (by omega) hmv hT (fun m H' hm hf q f => ?_) (fun hn H' y q f => ?_)
      · simp (disch := omega) only [w68_0, w68_1, w68_2, w68_5, w68_6, w68_9, w68_12, w68_15, w68_16, w68_19, w68_20, w68_21, w68_25, w68_26, w68_27, w68_30, w68_31, w68_34, w68_37, w68_38, w68_41, w68_42, w68_43, w68_46, w68_47, w68_48, w68_51, ma_kV_ap, ma_kC_s, ma_kC_n, ma_kH_ap, ma_gf_ap, ma_pf_ap, ma_cv_ap, ma_nt_0, ma_nt_s, ma_if_t, ma_if_f, ma_set_s, ma_set_ss, ma_set_2, ma_cat_n, ma_cat_i, ma_cat_l, ma_cat_r, ma_clr_n, ma_clr_i, ma_clr_l, ma_clr_r, ma_clr_0, ma_rf_s, ma_rf_n, ma_ial_ap, ma_ias_ap, List.set_cons_zero, List.set_cons_succ, List.length_cons, List.length_nil, Nat.reduceAdd, Nat.reduceLT, Nat.reduceLeDiff, Nat.le_refl, true_and, and_true, Nat.lt_add_one]
        have he := gE_some (show m ≤ 2000 by omega) hf
        refine yes m H' (by omega) q f (fun hp => ?_) (fun hp => gbs_n (gW_no he hp))
        unfold gbs
        rw [gW_yes he hp]; dsimp only; rw [if_pos (by omega)]
      · simp (disch := omega) only [w68_0, w68_1, w68_2, w68_5, w68_6, w68_9, w68_12, w68_15, w68_16, w68_19, w68_20, w68_21, w68_25, w68_26, w68_27, w68_30, w68_31, w68_34, w68_37, w68_38, w68_41, w68_42, w68_43, w68_46, w68_47, w68_48, w68_51, ma_kV_ap, ma_kC_s, ma_kC_n, ma_kH_ap, ma_gf_ap, ma_pf_ap, ma_cv_ap, ma_nt_0, ma_nt_s, ma_if_t, ma_if_f, ma_set_s, ma_set_ss, ma_set_2, ma_cat_n, ma_cat_i, ma_cat_l, ma_cat_r, ma_clr_n, ma_clr_i, ma_clr_l, ma_clr_r, ma_clr_0, ma_rf_s, ma_rf_n, ma_ial_ap, ma_ias_ap, List.set_cons_zero, List.set_cons_succ, List.length_cons, List.length_nil, Nat.reduceAdd, Nat.reduceLT, Nat.reduceLeDiff, Nat.le_refl, true_and, and_true, Nat.lt_add_one]
        refine no H' y q f (all (fun m he => ?_))
        rcases Nat.lt_or_ge m m0 with g | g
        · exact absurd (gE_inv he).2.1 (hn m (by omega))
        · exact g
end BE

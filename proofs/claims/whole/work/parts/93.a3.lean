/-! the reference: a game, the text -/
section OD
variable {d s N : Nat} {Q : ma_P} {H : ma_H} {f : Nat → Int32} {t : ga_T}
theorem o_all' (hN : N < 100000) (hN2 : 58 ≤ N) (hs : H.1 s = arI N f) (hM : gM t f) (h : Q (some (.int (nI (gall t)))) H) : ma_MW (d + 1) 133 [.ref s] H Q := by
  obtain ⟨kz, ko, hz, ho, pl, tu, db, mv, tz, to⟩ := t
  exact o_all hN hN2 hs hM h
theorem o_isDone' (hok : ga_ok t) (hN : N < 100000) (hN2 : 58 ≤ N) (hs : H.1 s = arI N f) (hM : gM t f) (h1 : gdone t → Q (some (.int (nI 1))) H) (h0 : ¬ gdone t → Q (some (.int (nI 0))) H) : ma_MW (d + 1) 151 [.ref s] H Q := by
  obtain ⟨l1, l2, l3⟩ := ok_len hok
  obtain ⟨kz, ko, hz, ho, pl, tu, db, mv, tz, to⟩ := t
  have l1 : hz.length ≤ 16 := l1
  have l2 : ho.length ≤ 16 := l2
  refine o_isDone (tu := tu) (gtu_lt hok) hN hN2 (by omega) (by omega) hs hM ?_
  by_cases hd : (if tu = 0 then hz else ho) = []
  · rw [if_pos hd]; exact h1 hd
  · rw [if_neg hd]; exact h0 hd
theorem o_lay' {u : Nat → Int32} {up lo wo : Int64} {le po ta tk nu it : Int32} (hok : ga_ok t) (hmv : gmv t < 100000) (hnd : ¬ gdone t) (hN : N < 100000) (hN2 : 58 ≤ N) (hs4 : 4 ≤ s) (hs36 : s ≠ 36) (hs44 : s ≠ 44) (hO : H.1 36 = moC up lo le po ta tk nu wo it) (hU : H.1 44 = arI 16 u) (hs : H.1 s = arI N f) (hM : gM t f)
    (h : ∀ f' u', gM (gm t) f' → (∀ x, 58 ≤ x → f' x = f x) → Q none (ma_set (ma_set H 44 (arI 16 u')) s (arI N f'))) : ma_MW (d + 3) 153 [.ref 36, .ref s] H Q := by
  obtain ⟨kz, ko, hz, ho, pl, tu, db, mv, tz, to⟩ := t
  exact o_lay hok hmv hnd hN hN2 hs4 hs36 hs44 hO hU hs hM h
theorem o_deal' {p c : Nat} (hp : p < 2) (hok : ga_ok t) (hr : gall t < 16) (hN : N < 100000) (hN2 : 58 ≤ N) (hs4 : 4 ≤ s) (hs : H.1 s = arI N f) (hM : gM t f)
    (h : ∀ f', gM (gdealT t p c) f' → (∀ x, 58 ≤ x → f' x = f x) → Q (some (.int (nI ((ghand t p).length + 1)))) (ma_set H s (arI N f'))) : ma_MW (d + 1) 136 [.ref s, .int (nI p), .int (nI c)] H Q := by
  obtain ⟨kz, ko, hz, ho, pl, tu, db, mv, tz, to⟩ := t
  have hr : hz.length + ho.length + pl.length < 16 := hr
  have e : ghand (kz, ko, hz, ho, pl, tu, db, mv, tz, to) p = if p = 0 then hz else ho := by
    rcases (show p = 0 ∨ p = 1 by omega) with rfl | rfl <;> rfl
  rw [e] at h
  exact o_deal hp (by omega) (by omega) (by omega) (by split <;> omega) hN hN2 hs4 hs hM h
theorem o_begin (hs4 : 4 ≤ s) (hs : H.1 s = arI 545 f) (h : ∀ f', (∀ x, x < 545 → f' x = nI 0) → Q none (ma_set H s (arI 545 f'))) : ma_MW (d + 1) 132 [.ref s] H Q := by
  have loop : ∀ m k f', 545 - k = m → k ≤ 545 → (∀ x, x < k → f' x = nI 0) → ma_W d 132 Q 2 [some (.ref s), some (.int (nI k))] [] (ma_set H s (arI 545 f')) 0 0 := by
    intro m
    induction m with
    | zero =>
      intro k f' e1 e2 e3
      have hk : k = 545 := by omega
      subst hk
      simp (disch := omega) only [w132_0, w132_1, w132_2, w132_3, w132_6, w132_9, w132_10, w132_11, w132_12, w132_13, w132_16, w132_19, ma_kV_ap, ma_kC_s, ma_kC_n, ma_kH_ap, ma_gf_ap, ma_pf_ap, ma_cv_ap, ma_nt_0, ma_nt_s, ma_if_t, ma_if_f, ma_set_s, ma_set_ss, ma_set_2, ma_cat_n, ma_cat_i, ma_cat_l, ma_cat_r, ma_clr_n, ma_clr_i, ma_clr_l, ma_clr_r, ma_clr_0, ma_rf_s, ma_rf_n, ma_ial_ap, ma_ias_ap, List.set_cons_zero, List.set_cons_succ, List.length_cons, List.length_nil, Nat.reduceAdd, Nat.reduceLT, Nat.reduceLeDiff, Nat.le_refl, true_and, and_true, Nat.lt_add_one, fa_lit, nI_add, pk_mul, pk_sub, pk_div, ma_rem_n, nI_ltI, nI_leI, nI_eq, Nat.reduceEqDiff, Nat.reduceMul, Nat.reduceSub, not_false_eq_true, not_true_eq_false, or_true, true_or, or_false, false_or, eq_self, Nat.zero_add, Nat.add_zero]
      exact h f' e3
    | succ m ih =>
      intro k f' e1 e2 e3
      have hc : (545 ≤ k) = False := eq_false (by omega)
      simp (disch := omega) only [w132_0, w132_1, w132_2, w132_3, w132_6, w132_9, w132_10, w132_11, w132_12, w132_13, w132_19, ma_kV_ap, ma_kC_s, ma_kC_n, ma_kH_ap, ma_gf_ap, ma_pf_ap, ma_cv_ap, ma_nt_0, ma_nt_s, ma_if_t, ma_if_f, ma_set_s, ma_set_ss, ma_set_2, ma_cat_n, ma_cat_i, ma_cat_l, ma_cat_r, ma_clr_n, ma_clr_i, ma_clr_l, ma_clr_r, ma_clr_0, ma_rf_s, ma_rf_n, ma_ial_ap, ma_ias_ap, List.set_cons_zero, List.set_cons_succ, List.length_cons, List.length_nil, Nat.reduceAdd, Nat.reduceLT, Nat.reduceLeDiff, Nat.le_refl, true_and, and_true, Nat.lt_add_one, fa_lit, nI_add, pk_mul, pk_sub, pk_div, ma_rem_n, nI_ltI, nI_leI, nI_eq, Nat.reduceEqDiff, Nat.reduceMul, Nat.reduceSub, not_false_eq_true, not_true_eq_false, or_true, true_or, or_false, false_or, eq_self, Nat.zero_add, Nat.add_zero, nu_in, nI_clamp, pk_us, pk_un, ma_set_n, hc, hs4]
      simp (disch := omega) only [w132_16]
      refine ih (k + 1) _ (by omega) (by omega) (fun x hx => ?_)
      by_cases hxk : x = k
      · subst hxk; exact pk_us
      · rw [pk_un hxk]; exact e3 x (by omega)
  rw [e132]
  simp (disch := omega) only [w132_0, w132_1, w132_3, w132_6, w132_9, w132_10, w132_11, w132_12, w132_13, w132_16, w132_19, ma_kV_ap, ma_kC_s, ma_kC_n, ma_kH_ap, ma_gf_ap, ma_pf_ap, ma_cv_ap, ma_nt_0, ma_nt_s, ma_if_t, ma_if_f, ma_set_s, ma_set_ss, ma_set_2, ma_cat_n, ma_cat_i, ma_cat_l, ma_cat_r, ma_clr_n, ma_clr_i, ma_clr_l, ma_clr_r, ma_clr_0, ma_rf_s, ma_rf_n, ma_ial_ap, ma_ias_ap, List.set_cons_zero, List.set_cons_succ, List.length_cons, List.length_nil, Nat.reduceAdd, Nat.reduceLT, Nat.reduceLeDiff, Nat.le_refl, true_and, and_true, Nat.lt_add_one, fa_lit]
  have := loop 545 0 f rfl (by omega) (fun x hx => by omega)
  rw [ma_set_id _ _ _ hs] at this
  exact this
end OD
section OE
variable {d : Nat} {Q : ma_P} {H : ma_H} {g : gG} {i0 i1 : Option gG} {tx : List Nat} {up lo : Int64} {c0 c1 c2 : Int32}
theorem gN_new {a b : Nat} {f : Nat → Int32} (h0 : f 0 = nI a) (h1 : f 1 = nI b) (hf : ∀ x, 2 ≤ x → x < 545 → f x = nI 0) : gN ((a, b, [], [], [], 0, 0, 0, 0, 0), [], [], []) f :=
  ⟨⟨h0, h1, hf 2 (by decide) (by decide), hf 3 (by decide) (by decide), hf 4 (by decide) (by decide), hf 5 (by decide) (by decide), hf 6 (by decide) (by decide), hf 7 (by decide) (by decide), hf 8 (by decide) (by decide), hf 9 (by decide) (by decide), gL_nil, gL_nil, gL_nil⟩, gNo_nil (hf 58 (by decide) (by decide)), gMa_nil (hf 71 (by decide) (by decide)), gHi_nil (hf 96 (by decide) (by decide))⟩
theorem m_game {a b : Nat} (ha : a < 6) (hb : b < 6) (hP : oP H g i0 i1 tx up lo c0 c1 c2) (h : ∀ H', oP H' ((a, b, [], [], [], 0, 0, 0, 0, 0), [], [], []) i0 i1 tx up lo c0 c1 c2 → fr H H' 36 46 → Q (some (.int (nI (gall g.1)))) H') : ma_MW (d + 3) 134 [.ref 36, .int (nI a), .int (nI b)] H Q := by
  obtain ⟨po, ta, tk, nu, wo, it, h36⟩ := oP_cl hP
  obtain ⟨f, h37, gn⟩ := hP.2.1
  rw [e134]
  simp (disch := omega) only [w134_0, w134_1, w134_2, w134_3, w134_6, w134_9, w134_10, w134_11, w134_12, w134_15, w134_18, w134_19, w134_22, w134_23, w134_24, w134_27, w134_30, w134_31, w134_32, w134_35, w134_38, w134_39, w134_42, w134_43, w134_44, w134_45, w134_46, w134_49, w134_50, w134_51, w134_52, w134_53, ma_kV_ap, ma_kC_s, ma_kC_n, ma_kH_ap, ma_gf_ap, ma_pf_ap, ma_cv_ap, ma_nt_0, ma_nt_s, ma_if_t, ma_if_f, ma_set_s, ma_set_ss, ma_set_2, ma_cat_n, ma_cat_i, ma_cat_l, ma_cat_r, ma_clr_n, ma_clr_i, ma_clr_l, ma_clr_r, ma_clr_0, ma_rf_s, ma_rf_n, ma_ial_ap, ma_ias_ap, List.set_cons_zero, List.set_cons_succ, List.length_cons, List.length_nil, Nat.reduceAdd, Nat.reduceLT, Nat.reduceLeDiff, Nat.le_refl, true_and, and_true, Nat.lt_add_one, fa_lit]
  refine o_inT (by omega) (by decide) ?_
  simp (disch := omega) only [w134_0, w134_1, w134_2, w134_3, w134_6, w134_9, w134_10, w134_11, w134_12, w134_15, w134_18, w134_19, w134_22, w134_23, w134_24, w134_27, w134_30, w134_31, w134_32, w134_35, w134_38, w134_39, w134_42, w134_43, w134_44, w134_45, w134_46, w134_49, w134_50, w134_51, w134_52, w134_53, ma_kV_ap, ma_kC_s, ma_kC_n, ma_kH_ap, ma_gf_ap, ma_pf_ap, ma_cv_ap, ma_nt_0, ma_nt_s, ma_if_t, ma_if_f, ma_set_s, ma_set_ss, ma_set_2, ma_cat_n, ma_cat_i, ma_cat_l, ma_cat_r, ma_clr_n, ma_clr_i, ma_clr_l, ma_clr_r, ma_clr_0, ma_rf_s, ma_rf_n, ma_ial_ap, ma_ias_ap, List.set_cons_zero, List.set_cons_succ, List.length_cons, List.length_nil, Nat.reduceAdd, Nat.reduceLT, Nat.reduceLeDiff, Nat.le_refl, true_and, and_true, Nat.lt_add_one, fa_lit, nI_add, pk_mul, pk_sub, pk_div, ma_rem_n, nI_ltI, nI_leI, nI_eq, Nat.reduceEqDiff, Nat.reduceMul, Nat.reduceSub, not_false_eq_true, not_true_eq_false, or_true, true_or, or_false, false_or, eq_self, Nat.zero_add, Nat.add_zero]
  refine o_inT (by omega) (by decide) ?_
  simp (disch := omega) only [w134_0, w134_1, w134_2, w134_3, w134_6, w134_9, w134_10, w134_11, w134_12, w134_15, w134_18, w134_19, w134_22, w134_23, w134_24, w134_27, w134_30, w134_31, w134_32, w134_35, w134_38, w134_39, w134_42, w134_43, w134_44, w134_45, w134_46, w134_49, w134_50, w134_51, w134_52, w134_53, ma_kV_ap, ma_kC_s, ma_kC_n, ma_kH_ap, ma_gf_ap, ma_pf_ap, ma_cv_ap, ma_nt_0, ma_nt_s, ma_if_t, ma_if_f, ma_set_s, ma_set_ss, ma_set_2, ma_cat_n, ma_cat_i, ma_cat_l, ma_cat_r, ma_clr_n, ma_clr_i, ma_clr_l, ma_clr_r, ma_clr_0, ma_rf_s, ma_rf_n, ma_ial_ap, ma_ias_ap, List.set_cons_zero, List.set_cons_succ, List.length_cons, List.length_nil, Nat.reduceAdd, Nat.reduceLT, Nat.reduceLeDiff, Nat.le_refl, true_and, and_true, Nat.lt_add_one, fa_lit, nI_add, pk_mul, pk_sub, pk_div, ma_rem_n, nI_ltI, nI_leI, nI_eq, Nat.reduceEqDiff, Nat.reduceMul, Nat.reduceSub, not_false_eq_true, not_true_eq_false, or_true, true_or, or_false, false_or, eq_self, Nat.zero_add, Nat.add_zero, h36]
  refine o_all' (by decide) (by decide) h37 gn.1 ?_
  simp (disch := omega) only [w134_0, w134_1, w134_2, w134_3, w134_6, w134_9, w134_10, w134_11, w134_12, w134_15, w134_18, w134_19, w134_22, w134_23, w134_24, w134_27, w134_30, w134_31, w134_32, w134_35, w134_38, w134_39, w134_42, w134_43, w134_44, w134_45, w134_46, w134_49, w134_50, w134_51, w134_52, w134_53, ma_kV_ap, ma_kC_s, ma_kC_n, ma_kH_ap, ma_gf_ap, ma_pf_ap, ma_cv_ap, ma_nt_0, ma_nt_s, ma_if_t, ma_if_f, ma_set_s, ma_set_ss, ma_set_2, ma_cat_n, ma_cat_i, ma_cat_l, ma_cat_r, ma_clr_n, ma_clr_i, ma_clr_l, ma_clr_r, ma_clr_0, ma_rf_s, ma_rf_n, ma_ial_ap, ma_ias_ap, List.set_cons_zero, List.set_cons_succ, List.length_cons, List.length_nil, Nat.reduceAdd, Nat.reduceLT, Nat.reduceLeDiff, Nat.le_refl, true_and, and_true, Nat.lt_add_one, fa_lit, nI_add, pk_mul, pk_sub, pk_div, ma_rem_n, nI_ltI, nI_leI, nI_eq, Nat.reduceEqDiff, Nat.reduceMul, Nat.reduceSub, not_false_eq_true, not_true_eq_false, or_true, true_or, or_false, false_or, eq_self, Nat.zero_add, Nat.add_zero, h36]
  refine o_begin (by decide) h37 (fun f' hz => ?_)
  simp (disch := omega) only [w134_0, w134_1, w134_2, w134_3, w134_6, w134_9, w134_10, w134_11, w134_12, w134_15, w134_18, w134_19, w134_22, w134_23, w134_24, w134_27, w134_30, w134_31, w134_32, w134_35, w134_38, w134_39, w134_42, w134_43, w134_44, w134_45, w134_46, w134_49, w134_50, w134_51, w134_52, w134_53, ma_kV_ap, ma_kC_s, ma_kC_n, ma_kH_ap, ma_gf_ap, ma_pf_ap, ma_cv_ap, ma_nt_0, ma_nt_s, ma_if_t, ma_if_f, ma_set_s, ma_set_ss, ma_set_2, ma_cat_n, ma_cat_i, ma_cat_l, ma_cat_r, ma_clr_n, ma_clr_i, ma_clr_l, ma_clr_r, ma_clr_0, ma_rf_s, ma_rf_n, ma_ial_ap, ma_ias_ap, List.set_cons_zero, List.set_cons_succ, List.length_cons, List.length_nil, Nat.reduceAdd, Nat.reduceLT, Nat.reduceLeDiff, Nat.le_refl, true_and, and_true, Nat.lt_add_one, fa_lit, nI_add, pk_mul, pk_sub, pk_div, ma_rem_n, nI_ltI, nI_leI, nI_eq, Nat.reduceEqDiff, Nat.reduceMul, Nat.reduceSub, not_false_eq_true, not_true_eq_false, or_true, true_or, or_false, false_or, eq_self, Nat.zero_add, Nat.add_zero, nu_in, nI_clamp, pk_us, pk_un, ma_set_n, h36]
  refine h _ (oP_now hP ⟨_, ma_set_s _ _ _, gN_new (by rw [pk_un (by decide)]; exact pk_us) pk_us (fun x h1 h2 => by rw [pk_un (by omega), pk_un (by omega)]; exact hz x h2)⟩ (fr_set _ _ (by decide) (by decide))) (fr_set _ _ (by decide) (by decide))
theorem gM_kind {t : ga_T} {f : Nat → Int32} {a b : Nat} (hok : ga_ok t) (ha : a < 2) (h : gM t f) : gM (gkinds t (if a = 0 then b else t.1) (if a = 0 then t.2.1 else b)) (upd f a (nI b)) := by
  obtain ⟨l1, l2, l3⟩ := ok_len hok
  obtain ⟨kz, ko, hz, ho, pl, tu, db, mv, tz, to⟩ := t
  obtain ⟨m0, m1, m2, m3, m4, m5, m6, m7, m8, m9, k0, k1, k2⟩ := h
  have e : ∀ x, 2 ≤ x → upd f a (nI b) x = f x := fun x hx => pk_un (by omega)
  refine ⟨?_, ?_, (e 2 (by decide)).trans m2, (e 3 (by decide)).trans m3, (e 4 (by decide)).trans m4, (e 5 (by decide)).trans m5, (e 6 (by decide)).trans m6, (e 7 (by decide)).trans m7, (e 8 (by decide)).trans m8, (e 9 (by decide)).trans m9, gL_cong k0 (fun x h1 h2 => e x (by omega)), gL_cong k1 (fun x h1 h2 => e x (by omega)), gL_cong k2 (fun x h1 h2 => e x (by omega))⟩
  · rcases (show a = 0 ∨ a = 1 by omega) with rfl | rfl
    · exact pk_us
    · rw [pk_un (by decide)]; exact m0
  · rcases (show a = 0 ∨ a = 1 by omega) with rfl | rfl
    · rw [pk_un (by decide)]; exact m1
    · exact pk_us
theorem m_player {a b : Nat} (ha : a < 2) (hb : b < 6) (hO : sOK g i0 i1 tx) (hP : oP H g i0 i1 tx up lo c0 c1 c2) (h : ∀ H', oP H' (gkinds g.1 (if a = 0 then b else g.1.1) (if a = 0 then g.1.2.1 else b), [], g.2.2) i0 i1 tx up lo c0 c1 c2 → fr H H' 36 46 → Q (some (.int (nI (if a = 0 then g.1.1 else g.1.2.1)))) H') : ma_MW (d + 3) 135 [.ref 36, .int (nI a), .int (nI b)] H Q := by
  obtain ⟨po, ta, tk, nu, wo, it, h36⟩ := oP_cl hP
  obtain ⟨f, h37, gn⟩ := hP.2.1
  have fa : f a = nI (if a = 0 then g.1.1 else g.1.2.1) := by
    have := gn.1
    obtain ⟨⟨kz, ko, hz, ho, pl, tu, db, mv, tz, to⟩, r⟩ := g
    rcases (show a = 0 ∨ a = 1 by omega) with rfl | rfl
    · exact this.1
    · exact this.2.1
  rw [e135]
  simp (disch := omega) only [w135_0, w135_1, w135_2, w135_3, w135_6, w135_9, w135_10, w135_11, w135_12, w135_15, w135_18, w135_19, w135_22, w135_23, w135_24, w135_27, w135_28, w135_29, w135_30, w135_31, w135_32, w135_33, w135_36, w135_37, w135_38, w135_39, w135_40, w135_41, w135_42, w135_45, w135_47, w135_48, w135_49, w135_50, ma_kV_ap, ma_kC_s, ma_kC_n, ma_kH_ap, ma_gf_ap, ma_pf_ap, ma_cv_ap, ma_nt_0, ma_nt_s, ma_if_t, ma_if_f, ma_set_s, ma_set_ss, ma_set_2, ma_cat_n, ma_cat_i, ma_cat_l, ma_cat_r, ma_clr_n, ma_clr_i, ma_clr_l, ma_clr_r, ma_clr_0, ma_rf_s, ma_rf_n, ma_ial_ap, ma_ias_ap, List.set_cons_zero, List.set_cons_succ, List.length_cons, List.length_nil, Nat.reduceAdd, Nat.reduceLT, Nat.reduceLeDiff, Nat.le_refl, true_and, and_true, Nat.lt_add_one, fa_lit]
  refine o_inT (by omega) (by decide) ?_
  simp (disch := omega) only [w135_0, w135_1, w135_2, w135_3, w135_6, w135_9, w135_10, w135_11, w135_12, w135_15, w135_18, w135_19, w135_22, w135_23, w135_24, w135_27, w135_28, w135_29, w135_30, w135_31, w135_32, w135_33, w135_36, w135_37, w135_38, w135_39, w135_40, w135_41, w135_42, w135_45, w135_47, w135_48, w135_49, w135_50, ma_kV_ap, ma_kC_s, ma_kC_n, ma_kH_ap, ma_gf_ap, ma_pf_ap, ma_cv_ap, ma_nt_0, ma_nt_s, ma_if_t, ma_if_f, ma_set_s, ma_set_ss, ma_set_2, ma_cat_n, ma_cat_i, ma_cat_l, ma_cat_r, ma_clr_n, ma_clr_i, ma_clr_l, ma_clr_r, ma_clr_0, ma_rf_s, ma_rf_n, ma_ial_ap, ma_ias_ap, List.set_cons_zero, List.set_cons_succ, List.length_cons, List.length_nil, Nat.reduceAdd, Nat.reduceLT, Nat.reduceLeDiff, Nat.le_refl, true_and, and_true, Nat.lt_add_one, fa_lit, nI_add, pk_mul, pk_sub, pk_div, ma_rem_n, nI_ltI, nI_leI, nI_eq, Nat.reduceEqDiff, Nat.reduceMul, Nat.reduceSub, not_false_eq_true, not_true_eq_false, or_true, true_or, or_false, false_or, eq_self, Nat.zero_add, Nat.add_zero]
  refine o_inT (by omega) (by decide) ?_
  simp (disch := omega) only [w135_0, w135_1, w135_2, w135_3, w135_6, w135_9, w135_10, w135_11, w135_12, w135_15, w135_18, w135_19, w135_22, w135_23, w135_24, w135_27, w135_28, w135_29, w135_30, w135_31, w135_32, w135_33, w135_36, w135_37, w135_38, w135_39, w135_40, w135_41, w135_42, w135_45, w135_47, w135_48, w135_49, w135_50, ma_kV_ap, ma_kC_s, ma_kC_n, ma_kH_ap, ma_gf_ap, ma_pf_ap, ma_cv_ap, ma_nt_0, ma_nt_s, ma_if_t, ma_if_f, ma_set_s, ma_set_ss, ma_set_2, ma_cat_n, ma_cat_i, ma_cat_l, ma_cat_r, ma_clr_n, ma_clr_i, ma_clr_l, ma_clr_r, ma_clr_0, ma_rf_s, ma_rf_n, ma_ial_ap, ma_ias_ap, List.set_cons_zero, List.set_cons_succ, List.length_cons, List.length_nil, Nat.reduceAdd, Nat.reduceLT, Nat.reduceLeDiff, Nat.le_refl, true_and, and_true, Nat.lt_add_one, fa_lit, nI_add, pk_mul, pk_sub, pk_div, ma_rem_n, nI_ltI, nI_leI, nI_eq, Nat.reduceEqDiff, Nat.reduceMul, Nat.reduceSub, not_false_eq_true, not_true_eq_false, or_true, true_or, or_false, false_or, eq_self, Nat.zero_add, Nat.add_zero, nu_in, nI_clamp, pk_us, pk_un, ma_set_n, h36, h37, fa]
  refine h _ (oP_now hP ⟨_, ma_set_s _ _ _, ⟨?_, ?_, ?_, ?_⟩⟩ (fr_set _ _ (by decide) (by decide))) (fr_set _ _ (by decide) (by decide))
  · refine gM_cong ?_ (gM_kind hO.1.1 ha gn.1) (fun x hx => pk_un (by omega))
    have hk : g.1.1 < 6 ∧ g.1.2.1 < 6 := by
      have := hO.1.1
      obtain ⟨⟨kz, ko, hz, ho, pl, tu, db, mv, tz, to⟩, r⟩ := g
      exact ⟨this.1, this.2.1⟩
    exact ok_kinds hO.1.1 (by split <;> omega) (by split <;> omega)
  · exact gNo_cong hO.1.2.2.2.2.1.1 gn.2.1 (fun x h1 h2 => by rw [pk_un (by omega), pk_un (by omega)])
  · exact gMa_cong hO.1.2.2.2.2.2.1 gn.2.2.1 (fun x h1 h2 => by rw [pk_un (by omega), pk_un (by omega)])
  · exact gHi_nil pk_us
theorem m_deals_f {a b : Nat} (ha : a < 2) (hb : b < 6) (hr : ¬ gall g.1 < 16) (hO : sOK g i0 i1 tx) (hP : oP H g i0 i1 tx up lo c0 c1 c2) (h : ∀ H', oP H' g i0 i1 tx up lo c0 c1 (c2 + nI 1) → fr H H' 36 46 → Q (some (.int (-nI 4))) H') : ma_MW (d + 3) 137 [.ref 36, .int (nI a), .int (nI b)] H Q := by
  obtain ⟨po, ta, tk, nu, wo, it, h36⟩ := oP_cl hP
  obtain ⟨f, h37, gn⟩ := hP.2.1
  have h16 : gall g.1 = 16 := by
    have := hO.1.1
    obtain ⟨⟨kz, ko, hz, ho, pl, tu, db, mv, tz, to⟩, r⟩ := g
    have h2 : hz.length + ho.length + pl.length ≤ 16 := this.2.2.2.2.2.1
    have hr : ¬ hz.length + ho.length + pl.length < 16 := hr
    show hz.length + ho.length + pl.length = 16
    omega
  rw [e137]
  simp (disch := omega) only [w137_0, w137_1, w137_2, w137_3, w137_6, w137_9, w137_10, w137_11, w137_12, w137_15, w137_18, w137_19, w137_22, w137_23, w137_24, w137_27, w137_30, w137_32, w137_35, w137_36, w137_39, w137_40, w137_41, w137_44, w137_46, w137_47, w137_48, w137_49, w137_52, w137_53, w137_54, w137_57, ma_kV_ap, ma_kC_s, ma_kC_n, ma_kH_ap, ma_gf_ap, ma_pf_ap, ma_cv_ap, ma_nt_0, ma_nt_s, ma_if_t, ma_if_f, ma_set_s, ma_set_ss, ma_set_2, ma_cat_n, ma_cat_i, ma_cat_l, ma_cat_r, ma_clr_n, ma_clr_i, ma_clr_l, ma_clr_r, ma_clr_0, ma_rf_s, ma_rf_n, ma_ial_ap, ma_ias_ap, List.set_cons_zero, List.set_cons_succ, List.length_cons, List.length_nil, Nat.reduceAdd, Nat.reduceLT, Nat.reduceLeDiff, Nat.le_refl, true_and, and_true, Nat.lt_add_one, fa_lit]
  refine o_inT (by omega) (by decide) ?_
  simp (disch := omega) only [w137_0, w137_1, w137_2, w137_3, w137_6, w137_9, w137_10, w137_11, w137_12, w137_15, w137_18, w137_19, w137_22, w137_23, w137_24, w137_27, w137_30, w137_32, w137_35, w137_36, w137_39, w137_40, w137_41, w137_44, w137_46, w137_47, w137_48, w137_49, w137_52, w137_53, w137_54, w137_57, ma_kV_ap, ma_kC_s, ma_kC_n, ma_kH_ap, ma_gf_ap, ma_pf_ap, ma_cv_ap, ma_nt_0, ma_nt_s, ma_if_t, ma_if_f, ma_set_s, ma_set_ss, ma_set_2, ma_cat_n, ma_cat_i, ma_cat_l, ma_cat_r, ma_clr_n, ma_clr_i, ma_clr_l, ma_clr_r, ma_clr_0, ma_rf_s, ma_rf_n, ma_ial_ap, ma_ias_ap, List.set_cons_zero, List.set_cons_succ, List.length_cons, List.length_nil, Nat.reduceAdd, Nat.reduceLT, Nat.reduceLeDiff, Nat.le_refl, true_and, and_true, Nat.lt_add_one, fa_lit, nI_add, pk_mul, pk_sub, pk_div, ma_rem_n, nI_ltI, nI_leI, nI_eq, Nat.reduceEqDiff, Nat.reduceMul, Nat.reduceSub, not_false_eq_true, not_true_eq_false, or_true, true_or, or_false, false_or, eq_self, Nat.zero_add, Nat.add_zero]
  refine o_inT (by omega) (by decide) ?_
  simp (disch := omega) only [w137_0, w137_1, w137_2, w137_3, w137_6, w137_9, w137_10, w137_11, w137_12, w137_15, w137_18, w137_19, w137_22, w137_23, w137_24, w137_27, w137_30, w137_32, w137_35, w137_36, w137_39, w137_40, w137_41, w137_44, w137_46, w137_47, w137_48, w137_49, w137_52, w137_53, w137_54, w137_57, ma_kV_ap, ma_kC_s, ma_kC_n, ma_kH_ap, ma_gf_ap, ma_pf_ap, ma_cv_ap, ma_nt_0, ma_nt_s, ma_if_t, ma_if_f, ma_set_s, ma_set_ss, ma_set_2, ma_cat_n, ma_cat_i, ma_cat_l, ma_cat_r, ma_clr_n, ma_clr_i, ma_clr_l, ma_clr_r, ma_clr_0, ma_rf_s, ma_rf_n, ma_ial_ap, ma_ias_ap, List.set_cons_zero, List.set_cons_succ, List.length_cons, List.length_nil, Nat.reduceAdd, Nat.reduceLT, Nat.reduceLeDiff, Nat.le_refl, true_and, and_true, Nat.lt_add_one, fa_lit, nI_add, pk_mul, pk_sub, pk_div, ma_rem_n, nI_ltI, nI_leI, nI_eq, Nat.reduceEqDiff, Nat.reduceMul, Nat.reduceSub, not_false_eq_true, not_true_eq_false, or_true, true_or, or_false, false_or, eq_self, Nat.zero_add, Nat.add_zero, h36]
  refine o_all' (by decide) (by decide) h37 gn.1 ?_
  simp (disch := omega) only [w137_0, w137_1, w137_2, w137_3, w137_6, w137_9, w137_10, w137_11, w137_12, w137_15, w137_18, w137_19, w137_22, w137_23, w137_24, w137_27, w137_30, w137_32, w137_35, w137_36, w137_39, w137_40, w137_41, w137_44, w137_46, w137_47, w137_48, w137_49, w137_52, w137_53, w137_54, w137_57, ma_kV_ap, ma_kC_s, ma_kC_n, ma_kH_ap, ma_gf_ap, ma_pf_ap, ma_cv_ap, ma_nt_0, ma_nt_s, ma_if_t, ma_if_f, ma_set_s, ma_set_ss, ma_set_2, ma_cat_n, ma_cat_i, ma_cat_l, ma_cat_r, ma_clr_n, ma_clr_i, ma_clr_l, ma_clr_r, ma_clr_0, ma_rf_s, ma_rf_n, ma_ial_ap, ma_ias_ap, List.set_cons_zero, List.set_cons_succ, List.length_cons, List.length_nil, Nat.reduceAdd, Nat.reduceLT, Nat.reduceLeDiff, Nat.le_refl, true_and, and_true, Nat.lt_add_one, fa_lit, nI_add, pk_mul, pk_sub, pk_div, ma_rem_n, nI_ltI, nI_leI, nI_eq, Nat.reduceEqDiff, Nat.reduceMul, Nat.reduceSub, not_false_eq_true, not_true_eq_false, or_true, true_or, or_false, false_or, eq_self, Nat.zero_add, Nat.add_zero, h36, h16]
  refine o_full hP (fun H' p f => ?_)
  simp (disch := omega) only [w137_0, w137_1, w137_2, w137_3, w137_6, w137_9, w137_10, w137_11, w137_12, w137_15, w137_18, w137_19, w137_22, w137_23, w137_24, w137_27, w137_30, w137_32, w137_35, w137_36, w137_39, w137_40, w137_41, w137_44, w137_46, w137_47, w137_48, w137_49, w137_52, w137_53, w137_54, w137_57, ma_kV_ap, ma_kC_s, ma_kC_n, ma_kH_ap, ma_gf_ap, ma_pf_ap, ma_cv_ap, ma_nt_0, ma_nt_s, ma_if_t, ma_if_f, ma_set_s, ma_set_ss, ma_set_2, ma_cat_n, ma_cat_i, ma_cat_l, ma_cat_r, ma_clr_n, ma_clr_i, ma_clr_l, ma_clr_r, ma_clr_0, ma_rf_s, ma_rf_n, ma_ial_ap, ma_ias_ap, List.set_cons_zero, List.set_cons_succ, List.length_cons, List.length_nil, Nat.reduceAdd, Nat.reduceLT, Nat.reduceLeDiff, Nat.le_refl, true_and, and_true, Nat.lt_add_one]
  exact h H' p f
theorem kinds_eq {t : ga_T} {f f' : Nat → Int32} (h : gM t f) (h' : gM t f') : f' 0 = f 0 ∧ f' 1 = f 1 := by
  obtain ⟨kz, ko, hz, ho, pl, tu, db, mv, tz, to⟩ := t
  exact ⟨h'.1.trans h.1.symm, h'.2.1.trans h.2.1.symm⟩
theorem m_deals {a b : Nat} (ha : a < 2) (hb : b < 6) (hr : gall g.1 < 16) (hO : sOK g i0 i1 tx) (hP : oP H g i0 i1 tx up lo c0 c1 c2) (h : ∀ H', oP H' (gdealT g.1 a b, [], g.2.2) i0 i1 tx up lo c0 c1 c2 → fr H H' 36 46 → Q (some (.int (nI ((ghand g.1 a).length + 1)))) H') : ma_MW (d + 3) 137 [.ref 36, .int (nI a), .int (nI b)] H Q := by
  obtain ⟨po, ta, tk, nu, wo, it, h36⟩ := oP_cl hP
  obtain ⟨f, h37, gn⟩ := hP.2.1
  have hne : (gall g.1 = 16) = False := eq_false (by omega)
  rw [e137]
  simp (disch := omega) only [w137_0, w137_1, w137_2, w137_3, w137_6, w137_9, w137_10, w137_11, w137_12, w137_15, w137_18, w137_19, w137_22, w137_23, w137_24, w137_27, w137_30, w137_32, w137_35, w137_36, w137_39, w137_40, w137_41, w137_44, w137_46, w137_47, w137_48, w137_49, w137_52, w137_53, w137_54, w137_57, ma_kV_ap, ma_kC_s, ma_kC_n, ma_kH_ap, ma_gf_ap, ma_pf_ap, ma_cv_ap, ma_nt_0, ma_nt_s, ma_if_t, ma_if_f, ma_set_s, ma_set_ss, ma_set_2, ma_cat_n, ma_cat_i, ma_cat_l, ma_cat_r, ma_clr_n, ma_clr_i, ma_clr_l, ma_clr_r, ma_clr_0, ma_rf_s, ma_rf_n, ma_ial_ap, ma_ias_ap, List.set_cons_zero, List.set_cons_succ, List.length_cons, List.length_nil, Nat.reduceAdd, Nat.reduceLT, Nat.reduceLeDiff, Nat.le_refl, true_and, and_true, Nat.lt_add_one, fa_lit]
  refine o_inT (by omega) (by decide) ?_
  simp (disch := omega) only [w137_0, w137_1, w137_2, w137_3, w137_6, w137_9, w137_10, w137_11, w137_12, w137_15, w137_18, w137_19, w137_22, w137_23, w137_24, w137_27, w137_30, w137_32, w137_35, w137_36, w137_39, w137_40, w137_41, w137_44, w137_46, w137_47, w137_48, w137_49, w137_52, w137_53, w137_54, w137_57, ma_kV_ap, ma_kC_s, ma_kC_n, ma_kH_ap, ma_gf_ap, ma_pf_ap, ma_cv_ap, ma_nt_0, ma_nt_s, ma_if_t, ma_if_f, ma_set_s, ma_set_ss, ma_set_2, ma_cat_n, ma_cat_i, ma_cat_l, ma_cat_r, ma_clr_n, ma_clr_i, ma_clr_l, ma_clr_r, ma_clr_0, ma_rf_s, ma_rf_n, ma_ial_ap, ma_ias_ap, List.set_cons_zero, List.set_cons_succ, List.length_cons, List.length_nil, Nat.reduceAdd, Nat.reduceLT, Nat.reduceLeDiff, Nat.le_refl, true_and, and_true, Nat.lt_add_one, fa_lit, nI_add, pk_mul, pk_sub, pk_div, ma_rem_n, nI_ltI, nI_leI, nI_eq, Nat.reduceEqDiff, Nat.reduceMul, Nat.reduceSub, not_false_eq_true, not_true_eq_false, or_true, true_or, or_false, false_or, eq_self, Nat.zero_add, Nat.add_zero]
  refine o_inT (by omega) (by decide) ?_
  simp (disch := omega) only [w137_0, w137_1, w137_2, w137_3, w137_6, w137_9, w137_10, w137_11, w137_12, w137_15, w137_18, w137_19, w137_22, w137_23, w137_24, w137_27, w137_30, w137_32, w137_35, w137_36, w137_39, w137_40, w137_41, w137_44, w137_46, w137_47, w137_48, w137_49, w137_52, w137_53, w137_54, w137_57, ma_kV_ap, ma_kC_s, ma_kC_n, ma_kH_ap, ma_gf_ap, ma_pf_ap, ma_cv_ap, ma_nt_0, ma_nt_s, ma_if_t, ma_if_f, ma_set_s, ma_set_ss, ma_set_2, ma_cat_n, ma_cat_i, ma_cat_l, ma_cat_r, ma_clr_n, ma_clr_i, ma_clr_l, ma_clr_r, ma_clr_0, ma_rf_s, ma_rf_n, ma_ial_ap, ma_ias_ap, List.set_cons_zero, List.set_cons_succ, List.length_cons, List.length_nil, Nat.reduceAdd, Nat.reduceLT, Nat.reduceLeDiff, Nat.le_refl, true_and, and_true, Nat.lt_add_one, fa_lit, nI_add, pk_mul, pk_sub, pk_div, ma_rem_n, nI_ltI, nI_leI, nI_eq, Nat.reduceEqDiff, Nat.reduceMul, Nat.reduceSub, not_false_eq_true, not_true_eq_false, or_true, true_or, or_false, false_or, eq_self, Nat.zero_add, Nat.add_zero, h36]
  refine o_all' (by decide) (by decide) h37 gn.1 ?_
  simp (disch := omega) only [w137_0, w137_1, w137_2, w137_3, w137_6, w137_9, w137_10, w137_11, w137_12, w137_15, w137_18, w137_19, w137_22, w137_23, w137_24, w137_27, w137_30, w137_32, w137_35, w137_36, w137_39, w137_40, w137_41, w137_44, w137_46, w137_47, w137_48, w137_49, w137_52, w137_53, w137_54, w137_57, ma_kV_ap, ma_kC_s, ma_kC_n, ma_kH_ap, ma_gf_ap, ma_pf_ap, ma_cv_ap, ma_nt_0, ma_nt_s, ma_if_t, ma_if_f, ma_set_s, ma_set_ss, ma_set_2, ma_cat_n, ma_cat_i, ma_cat_l, ma_cat_r, ma_clr_n, ma_clr_i, ma_clr_l, ma_clr_r, ma_clr_0, ma_rf_s, ma_rf_n, ma_ial_ap, ma_ias_ap, List.set_cons_zero, List.set_cons_succ, List.length_cons, List.length_nil, Nat.reduceAdd, Nat.reduceLT, Nat.reduceLeDiff, Nat.le_refl, true_and, and_true, Nat.lt_add_one, fa_lit, nI_add, pk_mul, pk_sub, pk_div, ma_rem_n, nI_ltI, nI_leI, nI_eq, Nat.reduceEqDiff, Nat.reduceMul, Nat.reduceSub, not_false_eq_true, not_true_eq_false, or_true, true_or, or_false, false_or, eq_self, Nat.zero_add, Nat.add_zero, nu_in, nI_clamp, pk_us, pk_un, ma_set_n, h36, h37, hne]
  refine o_deal' (t := g.1) (f := upd f 96 (nI 0)) ha hO.1.1 hr (by decide) (by decide) (by decide) (ma_set_s _ _ _) (gM_cong hO.1.1 gn.1 (fun x hx => pk_un (by omega))) (fun f' hM hfr => ?_)
  simp (disch := omega) only [w137_0, w137_1, w137_2, w137_3, w137_6, w137_9, w137_10, w137_11, w137_12, w137_15, w137_18, w137_19, w137_22, w137_23, w137_24, w137_27, w137_30, w137_32, w137_35, w137_36, w137_39, w137_40, w137_41, w137_44, w137_46, w137_47, w137_48, w137_49, w137_52, w137_53, w137_54, w137_57, ma_kV_ap, ma_kC_s, ma_kC_n, ma_kH_ap, ma_gf_ap, ma_pf_ap, ma_cv_ap, ma_nt_0, ma_nt_s, ma_if_t, ma_if_f, ma_set_s, ma_set_ss, ma_set_2, ma_cat_n, ma_cat_i, ma_cat_l, ma_cat_r, ma_clr_n, ma_clr_i, ma_clr_l, ma_clr_r, ma_clr_0, ma_rf_s, ma_rf_n, ma_ial_ap, ma_ias_ap, List.set_cons_zero, List.set_cons_succ, List.length_cons, List.length_nil, Nat.reduceAdd, Nat.reduceLT, Nat.reduceLeDiff, Nat.le_refl, true_and, and_true, Nat.lt_add_one]
  refine h _ (oP_now hP ⟨_, ma_set_s _ _ _, ⟨hM, ?_, ?_, ?_⟩⟩ (fr_set _ _ (by decide) (by decide))) (fr_set _ _ (by decide) (by decide))
  · exact gNo_cong hO.1.2.2.2.2.1.1 gn.2.1 (fun x h1 h2 => by rw [hfr x (by omega), pk_un (by omega)])
  · exact gMa_cong hO.1.2.2.2.2.2.1 gn.2.2.1 (fun x h1 h2 => by rw [hfr x (by omega), pk_un (by omega)])
  · exact gHi_nil (by rw [hfr 96 (by decide)]; exact pk_us)
theorem m_type_f {a : Nat} (ha : a < 128) (hl : tx.length = 150) (hP : oP H g i0 i1 tx up lo c0 c1 c2) (h : ∀ H', oP H' g i0 i1 tx up lo c0 c1 (c2 + nI 1) → fr H H' 36 46 → Q (some (.int (-nI 4))) H') : ma_MW (d + 3) 138 [.ref 36, .int (nI a)] H Q := by
  obtain ⟨po, ta, tk, nu, wo, it, h36⟩ := oP_cl hP
  rw [e138]
  simp (disch := omega) only [w138_0, w138_1, w138_2, w138_4, w138_7, w138_10, w138_11, w138_14, w138_15, w138_16, w138_19, w138_22, w138_25, w138_26, w138_29, w138_30, w138_31, w138_34, w138_35, w138_38, w138_39, w138_40, w138_41, w138_41i, w138_42, w138_45, w138_46, w138_47, w138_50, w138_51, w138_54, ma_kV_ap, ma_kC_s, ma_kC_n, ma_kH_ap, ma_gf_ap, ma_pf_ap, ma_cv_ap, ma_nt_0, ma_nt_s, ma_if_t, ma_if_f, ma_set_s, ma_set_ss, ma_set_2, ma_cat_n, ma_cat_i, ma_cat_l, ma_cat_r, ma_clr_n, ma_clr_i, ma_clr_l, ma_clr_r, ma_clr_0, ma_rf_s, ma_rf_n, ma_ial_ap, ma_ias_ap, List.set_cons_zero, List.set_cons_succ, List.length_cons, List.length_nil, Nat.reduceAdd, Nat.reduceLT, Nat.reduceLeDiff, Nat.le_refl, true_and, and_true, Nat.lt_add_one, fa_lit]
  refine o_inT (by omega) (by decide) ?_
  simp (disch := omega) only [w138_0, w138_1, w138_2, w138_4, w138_7, w138_10, w138_11, w138_14, w138_15, w138_16, w138_19, w138_22, w138_25, w138_26, w138_29, w138_30, w138_31, w138_34, w138_35, w138_38, w138_39, w138_40, w138_41, w138_41i, w138_42, w138_45, w138_46, w138_47, w138_50, w138_51, w138_54, ma_kV_ap, ma_kC_s, ma_kC_n, ma_kH_ap, ma_gf_ap, ma_pf_ap, ma_cv_ap, ma_nt_0, ma_nt_s, ma_if_t, ma_if_f, ma_set_s, ma_set_ss, ma_set_2, ma_cat_n, ma_cat_i, ma_cat_l, ma_cat_r, ma_clr_n, ma_clr_i, ma_clr_l, ma_clr_r, ma_clr_0, ma_rf_s, ma_rf_n, ma_ial_ap, ma_ias_ap, List.set_cons_zero, List.set_cons_succ, List.length_cons, List.length_nil, Nat.reduceAdd, Nat.reduceLT, Nat.reduceLeDiff, Nat.le_refl, true_and, and_true, Nat.lt_add_one, fa_lit, nI_add, pk_mul, pk_sub, pk_div, ma_rem_n, nI_ltI, nI_leI, nI_eq, Nat.reduceEqDiff, Nat.reduceMul, Nat.reduceSub, not_false_eq_true, not_true_eq_false, or_true, true_or, or_false, false_or, eq_self, Nat.zero_add, Nat.add_zero, h36, hl]
  refine o_full hP (fun H' p f => ?_)
  simp (disch := omega) only [w138_0, w138_1, w138_2, w138_4, w138_7, w138_10, w138_11, w138_14, w138_15, w138_16, w138_19, w138_22, w138_25, w138_26, w138_29, w138_30, w138_31, w138_34, w138_35, w138_38, w138_39, w138_40, w138_41, w138_41i, w138_42, w138_45, w138_46, w138_47, w138_50, w138_51, w138_54, ma_kV_ap, ma_kC_s, ma_kC_n, ma_kH_ap, ma_gf_ap, ma_pf_ap, ma_cv_ap, ma_nt_0, ma_nt_s, ma_if_t, ma_if_f, ma_set_s, ma_set_ss, ma_set_2, ma_cat_n, ma_cat_i, ma_cat_l, ma_cat_r, ma_clr_n, ma_clr_i, ma_clr_l, ma_clr_r, ma_clr_0, ma_rf_s, ma_rf_n, ma_ial_ap, ma_ias_ap, List.set_cons_zero, List.set_cons_succ, List.length_cons, List.length_nil, Nat.reduceAdd, Nat.reduceLT, Nat.reduceLeDiff, Nat.le_refl, true_and, and_true, Nat.lt_add_one]
  exact h H' p f
theorem m_type {a : Nat} (ha : a < 128) (hl : tx.length < 150) (hP : oP H g i0 i1 tx up lo c0 c1 c2) (h : ∀ H', oP H' g i0 i1 (tx ++ [a]) up lo c0 c1 c2 → fr H H' 36 46 → Q (some (.int (nI (tx.length + 1)))) H') : ma_MW (d + 3) 138 [.ref 36, .int (nI a)] H Q := by
  obtain ⟨po, ta, tk, nu, wo, it, h36⟩ := oP_cl hP
  obtain ⟨f, h42, hg⟩ := hP.2.2.2.2.2.1
  have hne : (tx.length = 150) = False := eq_false (by omega)
  rw [e138]
  simp (disch := omega) only [w138_0, w138_1, w138_2, w138_4, w138_7, w138_10, w138_11, w138_14, w138_15, w138_16, w138_19, w138_22, w138_25, w138_26, w138_29, w138_30, w138_31, w138_34, w138_35, w138_38, w138_39, w138_40, w138_41, w138_41i, w138_42, w138_45, w138_46, w138_47, w138_50, w138_51, w138_54, ma_kV_ap, ma_kC_s, ma_kC_n, ma_kH_ap, ma_gf_ap, ma_pf_ap, ma_cv_ap, ma_nt_0, ma_nt_s, ma_if_t, ma_if_f, ma_set_s, ma_set_ss, ma_set_2, ma_cat_n, ma_cat_i, ma_cat_l, ma_cat_r, ma_clr_n, ma_clr_i, ma_clr_l, ma_clr_r, ma_clr_0, ma_rf_s, ma_rf_n, ma_ial_ap, ma_ias_ap, List.set_cons_zero, List.set_cons_succ, List.length_cons, List.length_nil, Nat.reduceAdd, Nat.reduceLT, Nat.reduceLeDiff, Nat.le_refl, true_and, and_true, Nat.lt_add_one, fa_lit]
  refine o_inT (by omega) (by decide) ?_
  simp (disch := omega) only [w138_0, w138_1, w138_2, w138_4, w138_7, w138_10, w138_11, w138_14, w138_15, w138_16, w138_19, w138_22, w138_25, w138_26, w138_29, w138_30, w138_31, w138_34, w138_35, w138_38, w138_39, w138_40, w138_41, w138_41i, w138_42, w138_45, w138_46, w138_47, w138_50, w138_51, w138_54, ma_kV_ap, ma_kC_s, ma_kC_n, ma_kH_ap, ma_gf_ap, ma_pf_ap, ma_cv_ap, ma_nt_0, ma_nt_s, ma_if_t, ma_if_f, ma_set_s, ma_set_ss, ma_set_2, ma_cat_n, ma_cat_i, ma_cat_l, ma_cat_r, ma_clr_n, ma_clr_i, ma_clr_l, ma_clr_r, ma_clr_0, ma_rf_s, ma_rf_n, ma_ial_ap, ma_ias_ap, List.set_cons_zero, List.set_cons_succ, List.length_cons, List.length_nil, Nat.reduceAdd, Nat.reduceLT, Nat.reduceLeDiff, Nat.le_refl, true_and, and_true, Nat.lt_add_one, fa_lit, nI_add, pk_mul, pk_sub, pk_div, ma_rem_n, nI_ltI, nI_leI, nI_eq, Nat.reduceEqDiff, Nat.reduceMul, Nat.reduceSub, not_false_eq_true, not_true_eq_false, or_true, true_or, or_false, false_or, eq_self, Nat.zero_add, Nat.add_zero, nu_in, nI_clamp, pk_us, pk_un, ma_set_n, h36, h42, hne]
  refine h _ (oP_mo hP ⟨po, ta, tk, nu, wo, it, ?_⟩ ⟨upd f tx.length (nI a), ?_, ?_⟩ (fun j h1 h2 => ?_)) ?_
  · rw [ma_set_s, List.length_append]; rfl
  · rw [ma_set_n _ _ (by decide), ma_set_s]
  · exact gL_app (gL_upd hg (by omega)) (by rw [Nat.zero_add]; exact pk_us)
  · rw [ma_set_n _ _ h1, ma_set_n _ _ h2]
  · exact fr_set' (fr_set _ _ (by decide) (by decide)) (by decide) (by decide)
theorem m_clear (hP : oP H g i0 i1 tx up lo c0 c1 c2) (h : ∀ H', oP H' g i0 i1 [] up lo c0 c1 c2 → fr H H' 36 46 → Q (some (.int (nI tx.length))) H') : ma_MW (d + 3) 139 [.ref 36] H Q := by
  obtain ⟨po, ta, tk, nu, wo, it, h36⟩ := oP_cl hP
  obtain ⟨f, h42, hg⟩ := hP.2.2.2.2.2.1
  rw [e139]
  simp (disch := omega) only [w139_0, w139_1, w139_4, w139_5, w139_6, w139_7, w139_10, w139_11, ma_kV_ap, ma_kC_s, ma_kC_n, ma_kH_ap, ma_gf_ap, ma_pf_ap, ma_cv_ap, ma_nt_0, ma_nt_s, ma_if_t, ma_if_f, ma_set_s, ma_set_ss, ma_set_2, ma_cat_n, ma_cat_i, ma_cat_l, ma_cat_r, ma_clr_n, ma_clr_i, ma_clr_l, ma_clr_r, ma_clr_0, ma_rf_s, ma_rf_n, ma_ial_ap, ma_ias_ap, List.set_cons_zero, List.set_cons_succ, List.length_cons, List.length_nil, Nat.reduceAdd, Nat.reduceLT, Nat.reduceLeDiff, Nat.le_refl, true_and, and_true, Nat.lt_add_one, fa_lit, nI_add, pk_mul, pk_sub, pk_div, ma_rem_n, nI_ltI, nI_leI, nI_eq, Nat.reduceEqDiff, Nat.reduceMul, Nat.reduceSub, not_false_eq_true, not_true_eq_false, or_true, true_or, or_false, false_or, eq_self, Nat.zero_add, Nat.add_zero, h36]
  refine h _ (oP_mo hP ⟨po, ta, tk, nu, wo, it, ma_set_s _ _ _⟩ ⟨f, by rw [ma_set_n _ _ (by decide)]; exact h42, gL_nil⟩ (fun j h1 h2 => ma_set_n _ _ h1)) (fr_set _ _ (by decide) (by decide))
end OE

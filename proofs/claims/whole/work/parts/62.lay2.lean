/-! the reference: taking the pile, and a move -/
theorem gM_2 {f : Nat → Int32} {kz ko tu db mv tz to v : Nat} {hz ho pl : List Nat} (h : gM (kz, ko, hz, ho, pl, tu, db, mv, tz, to) f) (h0 : hz.length ≤ 16) (h1 : ho.length ≤ 16) (h2 : pl.length ≤ 16) : gM (kz, ko, hz, ho, pl, v, db, mv, tz, to) (upd f 2 (nI v)) := by
  obtain ⟨m0, m1, m2, m3, m4, m5, m6, m7, m8, m9, l0, l1, l2⟩ := h
  exact ⟨by rw [pk_un (by decide)]; exact m0, by rw [pk_un (by decide)]; exact m1, pk_us, by rw [pk_un (by decide)]; exact m3, by rw [pk_un (by decide)]; exact m4, by rw [pk_un (by decide)]; exact m5, by rw [pk_un (by decide)]; exact m6, by rw [pk_un (by decide)]; exact m7, by rw [pk_un (by decide)]; exact m8, by rw [pk_un (by decide)]; exact m9, gL_upd l0 (by omega), gL_upd l1 (by omega), gL_upd l2 (by omega)⟩
theorem gM_3 {f : Nat → Int32} {kz ko tu db mv tz to v : Nat} {hz ho pl : List Nat} (h : gM (kz, ko, hz, ho, pl, tu, db, mv, tz, to) f) : gM (kz, ko, hz, ho, pl, tu, v, mv, tz, to) (upd f 3 (nI v)) := by
  obtain ⟨m0, m1, m2, m3, m4, m5, m6, m7, m8, m9, l0, l1, l2⟩ := h
  exact ⟨by rw [pk_un (by decide)]; exact m0, by rw [pk_un (by decide)]; exact m1, by rw [pk_un (by decide)]; exact m2, pk_us, by rw [pk_un (by decide)]; exact m4, by rw [pk_un (by decide)]; exact m5, by rw [pk_un (by decide)]; exact m6, by rw [pk_un (by decide)]; exact m7, by rw [pk_un (by decide)]; exact m8, by rw [pk_un (by decide)]; exact m9, gL_upd l0 (by omega), gL_upd l1 (by omega), gL_upd l2 (by omega)⟩
section LB
variable {d s N : Nat} {H : ma_H} {Q : ma_P} {f u : Nat → Int32} {kz ko tu db mv tz to : Nat} {hz ho pl : List Nat} {up lo wo : Int64} {le po ta tk nu it : Int32}
/-- hands while the pile is taken: k cards of it have come -/
def ghk (p kz ko : Nat) (hz ho pl : List Nat) (k : Nat) : List Nat × List Nat := (if p = 0 then hz ++ (gpo kz pl).take k else hz, if p = 0 then ho else ho ++ (gpo ko pl).take k)
theorem o_takeLoop {p : Nat} (hp : p < 2) (h0 : kz < 6) (h1 : ko < 6) (hpl : ∀ c ∈ pl, c < 6) (hsum : hz.length + ho.length + pl.length ≤ 16) (hN : N < 100000) (hN2 : 58 ≤ N) (hs4 : 4 ≤ s) (hs36 : s ≠ 36) (hs44 : s ≠ 44) (hO : H.1 36 = moC up lo le po ta tk nu wo it) (hU : H.1 44 = arI 16 u) (hu : gL u 0 pl)
    (hend : ∀ f', gM (kz, ko, (ghk p kz ko hz ho pl pl.length).1, (ghk p kz ko hz ho pl pl.length).2, pl, tu, db, mv, tz, to) f' → (∀ x, 58 ≤ x → f' x = f x) → ma_W (d + 1) 152 Q 54 [some (.ref 36), some (.ref s), some (.int (nI p)), some (.int (nI pl.length)), some (.int (nI pl.length))] [] (ma_set H s (arI N f')) 0 0) :
    ∀ m k f', pl.length - k = m → k ≤ pl.length → gM (kz, ko, (ghk p kz ko hz ho pl k).1, (ghk p kz ko hz ho pl k).2, pl, tu, db, mv, tz, to) f' → (∀ x, 58 ≤ x → f' x = f x) → ma_W (d + 1) 152 Q 20 [some (.ref 36), some (.ref s), some (.int (nI p)), some (.int (nI pl.length)), some (.int (nI k))] [] (ma_set H s (arI N f')) 0 0 := by
  unfold moC at hO
  intro m
  induction m with
  | zero =>
    intro k f' e1 e2 hM hfr
    have hk : k = pl.length := by omega
    subst hk
    have hc : (pl.length ≤ pl.length) = True := eq_true (Nat.le_refl _)
    simp (disch := omega) only [w152_0, w152_1, w152_3, w152_4, w152_5, w152_6, w152_8, w152_9, w152_12, w152_13, w152_14, w152_17, w152_18, w152_20, w152_22, w152_23, w152_26, w152_27, w152_28, w152_29, w152_32, w152_33, w152_34, w152_35, w152_36, w152_37, w152_38, w152_40, w152_43, w152_44, w152_47, w152_48, w152_51, w152_55, w152_57, w152_58, w152_59, w152_60, w152_61, w152_62, w152_63, w152_64, w152_65, w152_66, w152_67, w152_68, w152_69, w152_70, w152_71, w152_72, ma_kV_ap, ma_kC_s, ma_kC_n, ma_kH_ap, ma_gf_ap, ma_pf_ap, ma_cv_ap, ma_nt_0, ma_nt_s, ma_if_t, ma_if_f, ma_set_s, ma_set_ss, ma_set_2, ma_cat_n, ma_cat_i, ma_cat_l, ma_cat_r, ma_clr_n, ma_clr_i, ma_clr_l, ma_clr_r, ma_clr_0, ma_rf_s, ma_rf_n, ma_ial_ap, ma_ias_ap, List.set_cons_zero, List.set_cons_succ, List.length_cons, List.length_nil, Nat.reduceAdd, Nat.reduceLT, Nat.reduceLeDiff, Nat.le_refl, true_and, and_true, Nat.lt_add_one, fa_lit, nI_add, pk_mul, pk_sub, pk_div, ma_rem_n, nI_ltI, nI_leI, nI_eq, Nat.reduceEqDiff, Nat.reduceMul, Nat.reduceSub, not_false_eq_true, not_true_eq_false, or_true, true_or, or_false, false_or, eq_self, Nat.zero_add, Nat.add_zero, hc]
    exact hend f' hM hfr
  | succ m ih =>
    intro k f' e1 e2 hM hfr
    have hk : k < pl.length := by omega
    have hc : (pl.length ≤ k) = False := eq_false (by omega)
    have hp0 : f' p = nI (if p = 0 then kz else ko) := by
      rcases (show p = 0 ∨ p = 1 by omega) with rfl | rfl
      · exact hM.1
      · exact hM.2.1
    have hO2 : (ma_set H s (arI N f')).1 36 = .inr (8, [.ref 37, .ref 38, .ref 39, .ref 40, .ref 41, .long up, .long lo, .int le, .ref 42, .int po, .int ta, .int tk, .int nu, .long wo, .int it, .ref 43, .ref 44, .ref 45]) := by rw [ma_set_n _ _ (by omega)]; exact hO
    have hU2 : (ma_set H s (arI N f')).1 44 = arI 16 u := by rw [ma_set_n _ _ (by omega)]; exact hU
    simp (disch := omega) only [w152_0, w152_1, w152_3, w152_4, w152_5, w152_6, w152_8, w152_9, w152_12, w152_13, w152_14, w152_17, w152_18, w152_20, w152_22, w152_23, w152_26, w152_27, w152_28, w152_29, w152_32, w152_33, w152_34, w152_35, w152_36, w152_37, w152_38, w152_40, w152_43, w152_44, w152_47, w152_48, w152_51, w152_55, w152_57, w152_58, w152_59, w152_60, w152_61, w152_62, w152_63, w152_64, w152_65, w152_66, w152_67, w152_68, w152_69, w152_70, w152_71, w152_72, ma_kV_ap, ma_kC_s, ma_kC_n, ma_kH_ap, ma_gf_ap, ma_pf_ap, ma_cv_ap, ma_nt_0, ma_nt_s, ma_if_t, ma_if_f, ma_set_s, ma_set_ss, ma_set_2, ma_cat_n, ma_cat_i, ma_cat_l, ma_cat_r, ma_clr_n, ma_clr_i, ma_clr_l, ma_clr_r, ma_clr_0, ma_rf_s, ma_rf_n, ma_ial_ap, ma_ias_ap, List.set_cons_zero, List.set_cons_succ, List.length_cons, List.length_nil, Nat.reduceAdd, Nat.reduceLT, Nat.reduceLeDiff, Nat.le_refl, true_and, and_true, Nat.lt_add_one, fa_lit, nI_add, pk_mul, pk_sub, pk_div, ma_rem_n, nI_ltI, nI_leI, nI_eq, Nat.reduceEqDiff, Nat.reduceMul, Nat.reduceSub, not_false_eq_true, not_true_eq_false, or_true, true_or, or_false, false_or, eq_self, Nat.zero_add, Nat.add_zero, nu_in, nI_clamp, hc, hO2, hp0]
    refine o_comesBy (by split <;> assumption) (by omega) hk ?_
    have hgc := gc_lt (t := if p = 0 then kz else ko) hk
    have hval : u (gc (if p = 0 then kz else ko) pl.length k) = nI (pl[gc (if p = 0 then kz else ko) pl.length k]'hgc) := by
      have := hu (gc (if p = 0 then kz else ko) pl.length k) _ (List.getElem?_eq_getElem hgc)
      rw [Nat.zero_add] at this
      exact this
    simp (disch := omega) only [w152_0, w152_1, w152_3, w152_4, w152_5, w152_6, w152_8, w152_9, w152_12, w152_13, w152_14, w152_17, w152_18, w152_20, w152_22, w152_23, w152_26, w152_27, w152_28, w152_29, w152_32, w152_33, w152_34, w152_35, w152_36, w152_37, w152_38, w152_40, w152_43, w152_44, w152_47, w152_48, w152_51, w152_55, w152_57, w152_58, w152_59, w152_60, w152_61, w152_62, w152_63, w152_64, w152_65, w152_66, w152_67, w152_68, w152_69, w152_70, w152_71, w152_72, ma_kV_ap, ma_kC_s, ma_kC_n, ma_kH_ap, ma_gf_ap, ma_pf_ap, ma_cv_ap, ma_nt_0, ma_nt_s, ma_if_t, ma_if_f, ma_set_s, ma_set_ss, ma_set_2, ma_cat_n, ma_cat_i, ma_cat_l, ma_cat_r, ma_clr_n, ma_clr_i, ma_clr_l, ma_clr_r, ma_clr_0, ma_rf_s, ma_rf_n, ma_ial_ap, ma_ias_ap, List.set_cons_zero, List.set_cons_succ, List.length_cons, List.length_nil, Nat.reduceAdd, Nat.reduceLT, Nat.reduceLeDiff, Nat.le_refl, true_and, and_true, Nat.lt_add_one, fa_lit, nI_add, pk_mul, pk_sub, pk_div, ma_rem_n, nI_ltI, nI_leI, nI_eq, Nat.reduceEqDiff, Nat.reduceMul, Nat.reduceSub, not_false_eq_true, not_true_eq_false, or_true, true_or, or_false, false_or, eq_self, Nat.zero_add, Nat.add_zero, nu_in, nI_clamp, hU2, hval]
    have l1 : ((gpo kz pl).take k).length = k := by rw [List.length_take, gpo_len]; omega
    have l2 : ((gpo ko pl).take k).length = k := by rw [List.length_take, gpo_len]; omega
    have hset : ∀ c, ma_set (ma_set H s (arI N f')) s c = ma_set H s c := fun c => ma_set_ss _ _ _ _
    rcases (show p = 0 ∨ p = 1 by omega) with rfl | rfl
    · have e : (gpo kz pl).take (k + 1) = (gpo kz pl).take k ++ [pl[gc kz pl.length k]'(gc_lt hk)] := by rw [List.take_succ, gpo_at hk]; rfl
      have hM' : gM (kz, ko, hz ++ (gpo kz pl).take k, ho, pl, tu, db, mv, tz, to) f' := hM
      refine o_deal (c := pl[gc kz pl.length k]'(gc_lt hk)) hp (by rw [List.length_append]; omega) (by omega) (by omega) (by show (hz ++ (gpo kz pl).take k).length < 16; rw [List.length_append]; omega) hN hN2 hs4 (ma_set_s _ _ _) hM' (fun f'' hM'' hfr'' => ?_)
      simp (disch := omega) only [w152_0, w152_1, w152_3, w152_4, w152_5, w152_6, w152_8, w152_9, w152_12, w152_13, w152_14, w152_17, w152_18, w152_22, w152_23, w152_26, w152_27, w152_28, w152_29, w152_32, w152_33, w152_34, w152_35, w152_36, w152_37, w152_38, w152_40, w152_43, w152_44, w152_47, w152_48, w152_51, w152_55, w152_57, w152_58, w152_59, w152_60, w152_61, w152_62, w152_63, w152_64, w152_65, w152_66, w152_67, w152_68, w152_69, w152_70, w152_71, w152_72, ma_kV_ap, ma_kC_s, ma_kC_n, ma_kH_ap, ma_gf_ap, ma_pf_ap, ma_cv_ap, ma_nt_0, ma_nt_s, ma_if_t, ma_if_f, ma_set_s, ma_set_ss, ma_set_2, ma_cat_n, ma_cat_i, ma_cat_l, ma_cat_r, ma_clr_n, ma_clr_i, ma_clr_l, ma_clr_r, ma_clr_0, ma_rf_s, ma_rf_n, ma_ial_ap, ma_ias_ap, List.set_cons_zero, List.set_cons_succ, List.length_cons, List.length_nil, Nat.reduceAdd, Nat.reduceLT, Nat.reduceLeDiff, Nat.le_refl, true_and, and_true, Nat.lt_add_one, fa_lit, nI_add, pk_mul, pk_sub, pk_div, ma_rem_n, nI_ltI, nI_leI, nI_eq, Nat.reduceEqDiff, Nat.reduceMul, Nat.reduceSub, not_false_eq_true, not_true_eq_false, or_true, true_or, or_false, false_or, eq_self, Nat.zero_add, Nat.add_zero]
      refine ih (k + 1) f'' (by omega) (by omega) ?_ (fun x hx => (hfr'' x hx).trans (hfr x hx))
      have e2 : (ghk 0 kz ko hz ho pl (k + 1)).1 = hz ++ (gpo kz pl).take k ++ [pl[gc kz pl.length k]'(gc_lt hk)] := by
        show hz ++ (gpo kz pl).take (k + 1) = _
        rw [e, List.append_assoc]
      rw [e2]
      exact hM''
    · have e : (gpo ko pl).take (k + 1) = (gpo ko pl).take k ++ [pl[gc ko pl.length k]'(gc_lt hk)] := by rw [List.take_succ, gpo_at hk]; rfl
      have hM' : gM (kz, ko, hz, ho ++ (gpo ko pl).take k, pl, tu, db, mv, tz, to) f' := hM
      refine o_deal (c := pl[gc ko pl.length k]'(gc_lt hk)) hp (by omega) (by rw [List.length_append]; omega) (by omega) (by show (ho ++ (gpo ko pl).take k).length < 16; rw [List.length_append]; omega) hN hN2 hs4 (ma_set_s _ _ _) hM' (fun f'' hM'' hfr'' => ?_)
      simp (disch := omega) only [w152_0, w152_1, w152_3, w152_4, w152_5, w152_6, w152_8, w152_9, w152_12, w152_13, w152_14, w152_17, w152_18, w152_22, w152_23, w152_26, w152_27, w152_28, w152_29, w152_32, w152_33, w152_34, w152_35, w152_36, w152_37, w152_38, w152_40, w152_43, w152_44, w152_47, w152_48, w152_51, w152_55, w152_57, w152_58, w152_59, w152_60, w152_61, w152_62, w152_63, w152_64, w152_65, w152_66, w152_67, w152_68, w152_69, w152_70, w152_71, w152_72, ma_kV_ap, ma_kC_s, ma_kC_n, ma_kH_ap, ma_gf_ap, ma_pf_ap, ma_cv_ap, ma_nt_0, ma_nt_s, ma_if_t, ma_if_f, ma_set_s, ma_set_ss, ma_set_2, ma_cat_n, ma_cat_i, ma_cat_l, ma_cat_r, ma_clr_n, ma_clr_i, ma_clr_l, ma_clr_r, ma_clr_0, ma_rf_s, ma_rf_n, ma_ial_ap, ma_ias_ap, List.set_cons_zero, List.set_cons_succ, List.length_cons, List.length_nil, Nat.reduceAdd, Nat.reduceLT, Nat.reduceLeDiff, Nat.le_refl, true_and, and_true, Nat.lt_add_one, fa_lit, nI_add, pk_mul, pk_sub, pk_div, ma_rem_n, nI_ltI, nI_leI, nI_eq, Nat.reduceEqDiff, Nat.reduceMul, Nat.reduceSub, not_false_eq_true, not_true_eq_false, or_true, true_or, or_false, false_or, eq_self, Nat.zero_add, Nat.add_zero]
      refine ih (k + 1) f'' (by omega) (by omega) ?_ (fun x hx => (hfr'' x hx).trans (hfr x hx))
      have e2 : (ghk 1 kz ko hz ho pl (k + 1)).2 = ho ++ (gpo ko pl).take k ++ [pl[gc ko pl.length k]'(gc_lt hk)] := by
        show ho ++ (gpo ko pl).take (k + 1) = _
        rw [e, List.append_assoc]
      rw [e2]
      exact hM''
theorem o_take {p : Nat} (hp : p < 2) (h0 : kz < 6) (h1 : ko < 6) (hpl : ∀ c ∈ pl, c < 6) (hsum : hz.length + ho.length + pl.length ≤ 16) (hN : N < 100000) (hN2 : 58 ≤ N) (hs4 : 4 ≤ s) (hs36 : s ≠ 36) (hs44 : s ≠ 44) (hO : H.1 36 = moC up lo le po ta tk nu wo it) (hU : H.1 44 = arI 16 u) (hs : H.1 s = arI N f) (hM : gM (kz, ko, hz, ho, pl, tu, db, mv, tz, to) f)
    (h : ∀ f' u', gM (gtk kz ko hz ho pl p db mv tz to) f' → (∀ x, 58 ≤ x → f' x = f x) → Q none (ma_set (ma_set H 44 (arI 16 u')) s (arI N f'))) : ma_MW (d + 2) 152 [.ref 36, .ref s, .int (nI p)] H Q := by
  have hO2 := hO
  unfold moC at hO2
  have m9 : f 9 = nI pl.length := hM.2.2.2.2.2.2.2.2.2.1
  have l2 : gL f 42 pl := hM.2.2.2.2.2.2.2.2.2.2.2.2
  rw [e152]
  simp (disch := omega) only [w152_0, w152_1, w152_3, w152_4, w152_5, w152_6, w152_8, w152_9, w152_12, w152_13, w152_14, w152_17, w152_18, w152_22, w152_23, w152_26, w152_27, w152_28, w152_29, w152_32, w152_33, w152_34, w152_35, w152_36, w152_37, w152_38, w152_40, w152_43, w152_44, w152_47, w152_48, w152_51, w152_54, w152_55, w152_57, w152_58, w152_59, w152_60, w152_61, w152_62, w152_63, w152_64, w152_65, w152_66, w152_67, w152_68, w152_69, w152_70, w152_71, w152_72, ma_kV_ap, ma_kC_s, ma_kC_n, ma_kH_ap, ma_gf_ap, ma_pf_ap, ma_cv_ap, ma_nt_0, ma_nt_s, ma_if_t, ma_if_f, ma_set_s, ma_set_ss, ma_set_2, ma_cat_n, ma_cat_i, ma_cat_l, ma_cat_r, ma_clr_n, ma_clr_i, ma_clr_l, ma_clr_r, ma_clr_0, ma_rf_s, ma_rf_n, ma_ial_ap, ma_ias_ap, List.set_cons_zero, List.set_cons_succ, List.length_cons, List.length_nil, Nat.reduceAdd, Nat.reduceLT, Nat.reduceLeDiff, Nat.le_refl, true_and, and_true, Nat.lt_add_one, fa_lit, nI_add, pk_mul, pk_sub, pk_div, ma_rem_n, nI_ltI, nI_leI, nI_eq, Nat.reduceEqDiff, Nat.reduceMul, Nat.reduceSub, not_false_eq_true, not_true_eq_false, or_true, true_or, or_false, false_or, eq_self, Nat.zero_add, Nat.add_zero, nu_in, nI_clamp, pk_us, pk_un, ma_set_n, hs, m9, hO2]
  refine o_bring (N := N) (M := 16) hs44 (by decide) hN (by decide) (by omega) (by omega) hs hU ?_
  simp (disch := omega) only [w152_0, w152_1, w152_3, w152_4, w152_5, w152_6, w152_8, w152_9, w152_12, w152_13, w152_14, w152_17, w152_18, w152_22, w152_23, w152_26, w152_27, w152_28, w152_29, w152_32, w152_33, w152_34, w152_35, w152_36, w152_37, w152_38, w152_40, w152_43, w152_44, w152_47, w152_48, w152_51, w152_54, w152_55, w152_57, w152_58, w152_59, w152_60, w152_61, w152_62, w152_63, w152_64, w152_65, w152_66, w152_67, w152_68, w152_69, w152_70, w152_71, w152_72, ma_kV_ap, ma_kC_s, ma_kC_n, ma_kH_ap, ma_gf_ap, ma_pf_ap, ma_cv_ap, ma_nt_0, ma_nt_s, ma_if_t, ma_if_f, ma_set_s, ma_set_ss, ma_set_2, ma_cat_n, ma_cat_i, ma_cat_l, ma_cat_r, ma_clr_n, ma_clr_i, ma_clr_l, ma_clr_r, ma_clr_0, ma_rf_s, ma_rf_n, ma_ial_ap, ma_ias_ap, List.set_cons_zero, List.set_cons_succ, List.length_cons, List.length_nil, Nat.reduceAdd, Nat.reduceLT, Nat.reduceLeDiff, Nat.le_refl, true_and, and_true, Nat.lt_add_one, fa_lit]
  have hgu : gL (va_cpy f u 42 0 pl.length) 0 pl := fun k c hk => by
    have hl := (List.getElem?_eq_some_iff.mp hk).1
    rw [pk_cpy_in (by omega) (by omega), show 42 + (0 + k - 0) = 42 + k by omega]
    exact l2 k c hk
  generalize va_cpy f u 42 0 pl.length = u1 at hgu ⊢
  have hloop := o_takeLoop (d := d) (Q := Q) (H := ma_set H 44 (arI 16 u1)) (f := f) (tu := tu) (db := db) (mv := mv) (tz := tz) (to := to) hp h0 h1 hpl hsum hN hN2 hs4 hs36 hs44 (by rw [ma_set_n _ _ (by decide)]; exact hO) (ma_set_s _ _ _) hgu ?_ pl.length 0 f rfl (Nat.zero_le _) ?_ (fun _ _ => rfl)
  · have hsi : ma_set (ma_set H 44 (arI 16 u1)) s (arI N f) = ma_set H 44 (arI 16 u1) := ma_set_id _ _ _ (by rw [ma_set_n _ _ (by omega)]; exact hs)
    rw [hsi] at hloop
    exact hloop
  · intro f' hM' hfr
    have t1 : (gpo kz pl).take pl.length = gpo kz pl := List.take_of_length_le (by rw [gpo_len]; exact Nat.le_refl _)
    have t2 : (gpo ko pl).take pl.length = gpo ko pl := List.take_of_length_le (by rw [gpo_len]; exact Nat.le_refl _)
    obtain ⟨n0, n1, n2, n3, n4, n5, n6, n7, n8, n9, k0, k1, k2⟩ := hM'
    have g1 := gpo_len kz pl
    have g2 := gpo_len ko pl
    rcases (show p = 0 ∨ p = 1 by omega) with rfl | rfl
    · simp (disch := omega) only [w152_0, w152_1, w152_3, w152_4, w152_5, w152_6, w152_8, w152_9, w152_12, w152_13, w152_14, w152_17, w152_18, w152_22, w152_23, w152_26, w152_27, w152_28, w152_29, w152_32, w152_33, w152_34, w152_35, w152_36, w152_37, w152_38, w152_40, w152_43, w152_44, w152_47, w152_48, w152_51, w152_54, w152_55, w152_57, w152_58, w152_59, w152_60, w152_61, w152_62, w152_63, w152_64, w152_65, w152_66, w152_67, w152_68, w152_69, w152_70, w152_71, w152_72, ma_kV_ap, ma_kC_s, ma_kC_n, ma_kH_ap, ma_gf_ap, ma_pf_ap, ma_cv_ap, ma_nt_0, ma_nt_s, ma_if_t, ma_if_f, ma_set_s, ma_set_ss, ma_set_2, ma_cat_n, ma_cat_i, ma_cat_l, ma_cat_r, ma_clr_n, ma_clr_i, ma_clr_l, ma_clr_r, ma_clr_0, ma_rf_s, ma_rf_n, ma_ial_ap, ma_ias_ap, List.set_cons_zero, List.set_cons_succ, List.length_cons, List.length_nil, Nat.reduceAdd, Nat.reduceLT, Nat.reduceLeDiff, Nat.le_refl, true_and, and_true, Nat.lt_add_one, fa_lit, nI_add, pk_mul, pk_sub, pk_div, ma_rem_n, nI_ltI, nI_leI, nI_eq, Nat.reduceEqDiff, Nat.reduceMul, Nat.reduceSub, not_false_eq_true, not_true_eq_false, or_true, true_or, or_false, false_or, eq_self, Nat.zero_add, Nat.add_zero, nu_in, nI_clamp, pk_us, pk_un, ma_set_n, n5, hs4]
      have k0' : gL f' 10 (hz ++ gpo kz pl) := by rw [← t1]; exact k0
      have n7' : f' 7 = nI (hz ++ gpo kz pl).length := by rw [← t1]; exact n7
      have la : (hz ++ gpo kz pl).length ≤ 16 := by rw [List.length_append]; omega
      refine h _ u1 ⟨?_, ?_, ?_, ?_, ?_, ?_, ?_, ?_, ?_, ?_, ?_, ?_, ?_⟩ (fun x hx => ?_)
      · rw [pk_un (by decide), pk_un (by decide), pk_un (by decide)]; exact n0
      · rw [pk_un (by decide), pk_un (by decide), pk_un (by decide)]; exact n1
      · exact pk_us
      · rw [pk_un (by decide), pk_un (by decide), pk_un (by decide)]; exact n3
      · rw [pk_un (by decide), pk_un (by decide), pk_un (by decide)]; exact n4
      · rw [pk_un (by decide)]; exact pk_us
      · rw [pk_un (by decide), pk_un (by decide), pk_un (by decide)]; exact n6
      · rw [pk_un (by decide), pk_un (by decide), pk_un (by decide)]; exact n7'
      · rw [pk_un (by decide), pk_un (by decide), pk_un (by decide)]; exact n8
      · rw [pk_un (by decide), pk_un (by decide)]; exact pk_us
      · exact gL_upd (gL_upd (gL_upd k0' (by omega)) (by omega)) (by omega)
      · exact gL_upd (gL_upd (gL_upd k1 (by omega)) (by omega)) (by omega)
      · exact gL_nil
      · rw [pk_un (by omega), pk_un (by omega), pk_un (by omega)]; exact hfr x hx
    · simp (disch := omega) only [w152_0, w152_1, w152_3, w152_4, w152_5, w152_6, w152_8, w152_9, w152_12, w152_13, w152_14, w152_17, w152_18, w152_22, w152_23, w152_26, w152_27, w152_28, w152_29, w152_32, w152_33, w152_34, w152_35, w152_36, w152_37, w152_38, w152_40, w152_43, w152_44, w152_47, w152_48, w152_51, w152_54, w152_55, w152_57, w152_58, w152_59, w152_60, w152_61, w152_62, w152_63, w152_64, w152_65, w152_66, w152_67, w152_68, w152_69, w152_70, w152_71, w152_72, ma_kV_ap, ma_kC_s, ma_kC_n, ma_kH_ap, ma_gf_ap, ma_pf_ap, ma_cv_ap, ma_nt_0, ma_nt_s, ma_if_t, ma_if_f, ma_set_s, ma_set_ss, ma_set_2, ma_cat_n, ma_cat_i, ma_cat_l, ma_cat_r, ma_clr_n, ma_clr_i, ma_clr_l, ma_clr_r, ma_clr_0, ma_rf_s, ma_rf_n, ma_ial_ap, ma_ias_ap, List.set_cons_zero, List.set_cons_succ, List.length_cons, List.length_nil, Nat.reduceAdd, Nat.reduceLT, Nat.reduceLeDiff, Nat.le_refl, true_and, and_true, Nat.lt_add_one, fa_lit, nI_add, pk_mul, pk_sub, pk_div, ma_rem_n, nI_ltI, nI_leI, nI_eq, Nat.reduceEqDiff, Nat.reduceMul, Nat.reduceSub, not_false_eq_true, not_true_eq_false, or_true, true_or, or_false, false_or, eq_self, Nat.zero_add, Nat.add_zero, nu_in, nI_clamp, pk_us, pk_un, ma_set_n, n6, hs4]
      have k1' : gL f' 26 (ho ++ gpo ko pl) := by rw [← t2]; exact k1
      have n8' : f' 8 = nI (ho ++ gpo ko pl).length := by rw [← t2]; exact n8
      have la : (ho ++ gpo ko pl).length ≤ 16 := by rw [List.length_append]; omega
      refine h _ u1 ⟨?_, ?_, ?_, ?_, ?_, ?_, ?_, ?_, ?_, ?_, ?_, ?_, ?_⟩ (fun x hx => ?_)
      · rw [pk_un (by decide), pk_un (by decide), pk_un (by decide)]; exact n0
      · rw [pk_un (by decide), pk_un (by decide), pk_un (by decide)]; exact n1
      · exact pk_us
      · rw [pk_un (by decide), pk_un (by decide), pk_un (by decide)]; exact n3
      · rw [pk_un (by decide), pk_un (by decide), pk_un (by decide)]; exact n4
      · rw [pk_un (by decide), pk_un (by decide), pk_un (by decide)]; exact n5
      · rw [pk_un (by decide)]; exact pk_us
      · rw [pk_un (by decide), pk_un (by decide), pk_un (by decide)]; exact n7
      · rw [pk_un (by decide), pk_un (by decide), pk_un (by decide)]; exact n8'
      · rw [pk_un (by decide), pk_un (by decide)]; exact pk_us
      · exact gL_upd (gL_upd (gL_upd k0 (by omega)) (by omega)) (by omega)
      · exact gL_upd (gL_upd (gL_upd k1' (by omega)) (by omega)) (by omega)
      · exact gL_nil
      · rw [pk_un (by omega), pk_un (by omega), pk_un (by omega)]; exact hfr x hx
  · have z1 : (ghk p kz ko hz ho pl 0).1 = hz := by unfold ghk; dsimp only; split <;> simp
    have z2 : (ghk p kz ko hz ho pl 0).2 = ho := by unfold ghk; dsimp only; split <;> simp
    rw [z1, z2]
    exact hM
end LB

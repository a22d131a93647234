/-! the reference: cards laid, exchanged, undone, shown -/
section OG
variable {t : ga_T} {f : Nat → Int32}
theorem gM_7 (h : gM t f) {p : Nat} (hp : p < 3) : f (7 + p) = nI (ghand t p).length := by
  obtain ⟨kz, ko, hz, ho, pl, tu, db, mv, tz, to⟩ := t
  obtain ⟨m0, m1, m2, m3, m4, m5, m6, m7, m8, m9, k0, k1, k2⟩ := h
  rcases (show p = 0 ∨ p = 1 ∨ p = 2 by omega) with rfl | rfl | rfl
  · exact m7
  · exact m8
  · exact m9
theorem gL_at {b k : Nat} {l : List Nat} (h : gL f b l) (hk : k < l.length) : f (b + k) = nI (l.getD k 0) := by
  rw [getD_at hk]; exact h k _ (List.getElem?_eq_getElem hk)
theorem gM_10 (h : gM t f) {p k : Nat} (hp : p < 3) (hk : k < (ghand t p).length) : f (10 + 16 * p + k) = nI ((ghand t p).getD k 0) := by
  obtain ⟨kz, ko, hz, ho, pl, tu, db, mv, tz, to⟩ := t
  obtain ⟨m0, m1, m2, m3, m4, m5, m6, m7, m8, m9, k0, k1, k2⟩ := h
  rcases (show p = 0 ∨ p = 1 ∨ p = 2 by omega) with rfl | rfl | rfl
  · exact gL_at k0 hk
  · exact gL_at k1 hk
  · exact gL_at k2 hk
theorem gM_tu (h : gM t f) : f 2 = nI (gtu t) := by
  obtain ⟨kz, ko, hz, ho, pl, tu, db, mv, tz, to⟩ := t; exact h.2.2.1
theorem gM_mv (h : gM t f) : f 4 = nI (gmv t) := by
  obtain ⟨kz, ko, hz, ho, pl, tu, db, mv, tz, to⟩ := t; exact h.2.2.2.2.1
theorem gL_set {b i c : Nat} {l : List Nat} (h : gL f b l) : gL (upd f (b + i) (nI c)) b (l.set i c) := fun k e hk => by
  by_cases hki : k = i
  · subst hki
    have hl := (List.getElem?_eq_some_iff.mp hk).1
    rw [List.length_set] at hl
    rw [List.getElem?_set_self hl] at hk
    cases hk
    exact pk_us
  · rw [List.getElem?_set_ne (fun z => hki z.symm)] at hk
    rw [pk_un (by omega)]
    exact h k e hk
theorem gM_exch {i j : Nat} (hok : ga_ok t) (h : gM t f) (hi : i < (ghand t 0).length) (hj : j < (ghand t 1).length) : gM (gexch t i j) (upd (upd f (10 + i) (nI ((ghand t 1).getD j 0))) (26 + j) (nI ((ghand t 0).getD i 0))) := by
  obtain ⟨l1, l2, l3⟩ := ok_len hok
  obtain ⟨kz, ko, hz, ho, pl, tu, db, mv, tz, to⟩ := t
  have l1 : hz.length ≤ 16 := l1
  have l2 : ho.length ≤ 16 := l2
  have l3 : pl.length ≤ 16 := l3
  have hi : i < hz.length := hi
  have hj : j < ho.length := hj
  obtain ⟨m0, m1, m2, m3, m4, m5, m6, m7, m8, m9, k0, k1, k2⟩ := h
  have e : ∀ x (v w : Int32), x < 10 → upd (upd f (10 + i) v) (26 + j) w x = f x := fun x v w hx => by rw [pk_un (by omega), pk_un (by omega)]
  refine ⟨(e 0 _ _ (by decide)).trans m0, (e 1 _ _ (by decide)).trans m1, (e 2 _ _ (by decide)).trans m2, (e 3 _ _ (by decide)).trans m3, (e 4 _ _ (by decide)).trans m4, (e 5 _ _ (by decide)).trans m5, (e 6 _ _ (by decide)).trans m6, ?_, ?_, (e 9 _ _ (by decide)).trans m9, ?_, ?_, ?_⟩
  · rw [List.length_set]; exact (e 7 _ _ (by decide)).trans m7
  · rw [List.length_set]; exact (e 8 _ _ (by decide)).trans m8
  · exact gL_upd (gL_set k0) (by rw [List.length_set]; omega)
  · exact gL_set (gL_upd k1 (by omega))
  · exact gL_upd (gL_upd k2 (by omega)) (by omega)
theorem gHi_drop {l : List ga_T} (hl : l.length = 8) (hok : ∀ t ∈ l, ga_ok t) (h : gHi f l) : gHi (upd (va_cpy f f 153 97 392) 96 (nI 7)) (l.drop 1) := by
  refine ⟨by rw [pk_us, List.length_drop, hl], fun k t hk => ?_⟩
  have hkl := (List.getElem?_eq_some_iff.mp hk).1
  rw [List.length_drop, hl] at hkl
  rw [List.getElem?_drop, Nat.add_comm] at hk
  refine gM_cong (hok t (List.mem_of_getElem? hk)) (h.2 (k + 1) t hk) (fun x hx => ?_)
  unfold shf
  by_cases h2 : x < 2
  · rw [if_pos h2, if_pos h2, pk_un (by omega), pk_cpy_out (by omega)]
  · rw [if_neg h2, if_neg h2, pk_un (by omega), pk_cpy_in (by omega) (by omega)]
    exact congrArg f (by omega)
theorem gHi_push {l : List ga_T} (hl : l.length ≤ 7) (hok : ∀ t ∈ l, ga_ok t) (hokt : ga_ok t) (h : gHi f l) (ht : gM t f) : gHi (upd (va_cpy f f 2 (97 + 56 * l.length) 56) 96 (nI (l.length + 1))) (l ++ [t]) := by
  refine ⟨by rw [pk_us, List.length_append]; rfl, fun k t' hk => ?_⟩
  rcases Nat.lt_or_ge k l.length with g | g
  · rw [List.getElem?_append_left g] at hk
    refine gM_cong (hok t' (List.mem_of_getElem? hk)) (h.2 k t' hk) (fun x hx => ?_)
    unfold shf
    by_cases h2 : x < 2
    · rw [if_pos h2, if_pos h2, pk_un (by omega), pk_cpy_out (by omega)]
    · rw [if_neg h2, if_neg h2, pk_un (by omega), pk_cpy_out (by omega)]
  · rw [List.getElem?_append_right g] at hk
    have hz := (List.getElem?_eq_some_iff.mp hk).1
    have hk0 : k = l.length := by simp at hz; omega
    subst hk0
    rw [Nat.sub_self] at hk
    cases hk
    refine gM_cong hokt ht (fun x hx => ?_)
    unfold shf
    by_cases h2 : x < 2
    · rw [if_pos h2, pk_un (by omega), pk_cpy_out (by omega)]
    · rw [if_neg h2, pk_un (by omega), pk_cpy_in (by omega) (by omega)]
      exact congrArg f (by omega)
theorem gHi_pop {l : List ga_T} (hl : l.length ≤ 8) (hne : l ≠ []) (hok : ∀ t ∈ l, ga_ok t) (h : gHi f l) : gHi (va_cpy (upd f 96 (nI (l.length - 1))) (upd f 96 (nI (l.length - 1))) (97 + 56 * (l.length - 1)) 2 56) l.dropLast ∧ gM (l.getLast hne) (va_cpy (upd f 96 (nI (l.length - 1))) (upd f 96 (nI (l.length - 1))) (97 + 56 * (l.length - 1)) 2 56) := by
  have h0 : 0 < l.length := List.length_pos_iff.mpr hne
  refine ⟨⟨by rw [pk_cpy_out (by omega), pk_us, List.length_dropLast], fun k t hk => ?_⟩, ?_⟩
  · have hkl := (List.getElem?_eq_some_iff.mp hk).1
    rw [List.length_dropLast] at hkl
    rw [List.getElem?_dropLast, if_pos hkl] at hk
    refine gM_cong (hok t (List.mem_of_getElem? hk)) (h.2 k t hk) (fun x hx => ?_)
    unfold shf
    by_cases h2 : x < 2
    · rw [if_pos h2, if_pos h2, pk_cpy_out (by omega), pk_un (by omega)]
    · rw [if_neg h2, if_neg h2, pk_cpy_out (by omega), pk_un (by omega)]
  · have hk : l[l.length - 1]? = some (l.getLast hne) := by rw [← List.getLast?_eq_getElem?, List.getLast?_eq_some_getLast hne]
    refine gM_cong (hok _ (List.mem_of_getElem? hk)) (h.2 _ _ hk) (fun x hx => ?_)
    unfold shf
    by_cases h2 : x < 2
    · rw [if_pos h2, pk_cpy_out (by omega), pk_un (by omega)]
    · rw [if_neg h2, pk_cpy_in (by omega) (by omega), pk_un (by omega)]
theorem gOK_push {g : gG} (h : gOK g) : gOK (g.1, gpush g.2.1 g.1, g.2.2) := by
  obtain ⟨a, b, c, d, e⟩ := h
  refine ⟨a, b, ?_, fun t ht => ?_, e⟩
  · show (gpush g.2.1 g.1).length ≤ 8
    unfold gpush
    rw [List.length_append]
    split
    · rw [List.length_drop]; simp only [List.length_cons, List.length_nil]; omega
    · simp only [List.length_cons, List.length_nil]; omega
  · have ht : t ∈ gpush g.2.1 g.1 := ht
    unfold gpush at ht
    rcases List.mem_append.mp ht with z | z
    · refine d t ?_
      split at z
      · exact List.mem_of_mem_drop z
      · exact z
    · rw [List.mem_singleton] at z
      subst z
      exact ⟨a, b, rfl, rfl⟩
theorem gOK_tab {g : gG} {t : ga_T} (h : gOK g) (hok : ga_ok t) (hm : gmv t ≤ 9999) (h0 : t.1 = g.1.1) (h1 : t.2.1 = g.1.2.1) : gOK (t, g.2) := by
  obtain ⟨a, b, c, d, e⟩ := h
  refine ⟨hok, hm, c, fun x hx => ?_, e⟩
  obtain ⟨y1, y2, y3, y4⟩ := d x hx
  exact ⟨y1, y2, y3.trans h0.symm, y4.trans h1.symm⟩
theorem gmv_upto {n m : Nat} (hu : gupto t n m) (h : gmv t ≤ 9999) : ∀ k, k ≤ m → gmv (git k t) ≤ 9999
  | 0, _ => h
  | k + 1, hk => by
    have h1 := (hu.2.1 k (by omega)).2
    have h2 := gmv_le (t := git k t)
    rw [git_s]
    omega
theorem in_len {v : Int32} {n : Nat} (hn : n < 1000) : (nI 0 ≤ v ∧ v ≤ nI n - nI 1) ↔ ∃ a, a < n ∧ v = nI a := by
  by_cases h0 : n = 0
  · subst h0
    constructor
    · rintro ⟨h1, h2⟩
      exact absurd (Int32.le_trans h1 h2) (by decide)
    · rintro ⟨a, ha, -⟩; omega
  · rw [pk_sub (by omega)]
    constructor
    · rintro ⟨h1, h2⟩
      obtain ⟨q, e1, e2, e3⟩ := inR_of (a := 0) (b := n - 1) (by omega) ⟨h1, h2⟩ (by decide)
      exact ⟨q, by omega, e3⟩
    · rintro ⟨a, ha, rfl⟩
      exact inR_nI (a := 0) (b := n - 1) (by omega) (by decide) (by omega) ⟨Nat.zero_le _, by omega⟩
end OG
section OH
variable {d s N : Nat} {Q : ma_P} {H : ma_H} {g : gG} {i0 i1 : Option gG} {tx : List Nat} {up lo : Int64} {c0 c1 c2 : Int32}
theorem o_inL {v : Int32} {n : Nat} (hn : n < 1000) (h1 : ∀ a, a < n → v = nI a → Q (some (.int (nI 1))) H) (h0 : (∀ a, a < n → v ≠ nI a) → Q (some (.int (nI 0))) H) : ma_MW (d + 1) 125 [.int v, .int (nI 0), .int (nI n - nI 1)] H Q :=
  o_in (fun x y => by obtain ⟨a, ha, e⟩ := (in_len hn).mp ⟨x, y⟩; exact h1 a ha e) (fun z => h0 (fun a ha e => z ((in_len hn).mpr ⟨a, ha, e⟩)))
theorem o_change {t : ga_T} {f : Nat → Int32} {i j : Nat} (hok : ga_ok t) (hi : i < (ghand t 0).length) (hj : j < (ghand t 1).length) (hN : N < 100000) (hN2 : 58 ≤ N) (hs4 : 4 ≤ s) (hs : H.1 s = arI N f) (hM : gM t f)
    (h : ∀ f', gM (gexch t i j) f' → (∀ x, 58 ≤ x → f' x = f x) → Q none (ma_set H s (arI N f'))) : ma_MW (d + 1) 156 [.ref s, .int (nI i), .int (nI j)] H Q := by
  have b0 := (ghand_gk hok 0).1
  have b1 := (ghand_gk hok 1).1
  have e0 := gM_10 hM (p := 0) (by decide) hi
  have e1 := gM_10 hM (p := 1) (by decide) hj
  rw [show 10 + 16 * 0 + i = 10 + i by omega] at e0
  rw [show 10 + 16 * 1 + j = 26 + j by omega] at e1
  have e2 : upd f (10 + i) (nI ((ghand t 1).getD j 0)) (26 + j) = f (26 + j) := pk_un (by omega)
  rw [e156]
  simp (disch := omega) only [w156_0, w156_1, w156_3, w156_4, w156_5, w156_6, w156_7, w156_8, w156_10, w156_11, w156_12, w156_13, w156_15, w156_16, w156_17, w156_18, w156_19, w156_20, w156_22, w156_23, w156_24, w156_25, w156_26, ma_kV_ap, ma_kC_s, ma_kC_n, ma_kH_ap, ma_gf_ap, ma_pf_ap, ma_cv_ap, ma_nt_0, ma_nt_s, ma_if_t, ma_if_f, ma_set_s, ma_set_ss, ma_set_2, ma_cat_n, ma_cat_i, ma_cat_l, ma_cat_r, ma_clr_n, ma_clr_i, ma_clr_l, ma_clr_r, ma_clr_0, ma_rf_s, ma_rf_n, ma_ial_ap, ma_ias_ap, List.set_cons_zero, List.set_cons_succ, List.length_cons, List.length_nil, Nat.reduceAdd, Nat.reduceLT, Nat.reduceLeDiff, Nat.le_refl, true_and, and_true, Nat.lt_add_one, fa_lit, nI_add, pk_mul, pk_sub, pk_div, ma_rem_n, nI_ltI, nI_leI, nI_eq, Nat.reduceEqDiff, Nat.reduceMul, Nat.reduceSub, not_false_eq_true, not_true_eq_false, or_true, true_or, or_false, false_or, eq_self, Nat.zero_add, Nat.add_zero, nu_in, nI_clamp, pk_us, pk_un, ma_set_n, hs, hs4, e0, e1]
  exact h _ (gM_exch hok hM hi hj) (fun x hx => by rw [pk_un (by omega), pk_un (by omega)])
theorem o_notes (hO : gOK g) (hP : oP H g i0 i1 tx up lo c0 c1 c2) (h : ∀ H', oP H' (g.1, gpush g.2.1 g.1, g.2.2) i0 i1 tx up lo c0 c1 c2 → fr H H' 36 46 → Q none H') : ma_MW (d + 2) 154 [.ref 36] H Q := by
  obtain ⟨po, ta, tk, nu, wo, it, h36⟩ := oP_cl hP
  obtain ⟨f, h37, gn⟩ := hP.2.1
  obtain ⟨o1, o2, o3, o4, o5, o6⟩ := hO
  have hokl : ∀ t ∈ g.2.1, ga_ok t := fun t ht => (o4 t ht).1
  have f96 := gn.2.2.2.1
  have tail : ∀ f1 l', l'.length ≤ 7 → (∀ t ∈ l', ga_ok t) → gHi f1 l' → gM g.1 f1 → gNo f1 g.2.2.1 → gMa f1 g.2.2.2 → l' ++ [g.1] = gpush g.2.1 g.1 → ma_W (d + 1) 154 Q 42 [some (.ref 36)] [] (ma_set H 37 (arI 545 f1)) 0 0 := by
    intro f1 l' hl ho hh hm hno hma e
    have h96 := hh.1
    simp (disch := omega) only [w154_0, w154_1, w154_4, w154_6, w154_7, w154_9, w154_12, w154_13, w154_16, w154_19, w154_20, w154_23, w154_25, w154_28, w154_31, w154_32, w154_35, w154_37, w154_38, w154_39, w154_40, w154_41, w154_42, w154_43, w154_46, w154_47, w154_48, w154_51, w154_53, w154_55, w154_56, w154_59, w154_61, w154_62, w154_63, w154_64, w154_66, w154_69, w154_70, w154_73, w154_75, w154_76, w154_77, w154_78, w154_79, w154_80, ma_kV_ap, ma_kC_s, ma_kC_n, ma_kH_ap, ma_gf_ap, ma_pf_ap, ma_cv_ap, ma_nt_0, ma_nt_s, ma_if_t, ma_if_f, ma_set_s, ma_set_ss, ma_set_2, ma_cat_n, ma_cat_i, ma_cat_l, ma_cat_r, ma_clr_n, ma_clr_i, ma_clr_l, ma_clr_r, ma_clr_0, ma_rf_s, ma_rf_n, ma_ial_ap, ma_ias_ap, List.set_cons_zero, List.set_cons_succ, List.length_cons, List.length_nil, Nat.reduceAdd, Nat.reduceLT, Nat.reduceLeDiff, Nat.le_refl, true_and, and_true, Nat.lt_add_one, fa_lit, nI_add, pk_mul, pk_sub, pk_div, ma_rem_n, nI_ltI, nI_leI, nI_eq, Nat.reduceEqDiff, Nat.reduceMul, Nat.reduceSub, not_false_eq_true, not_true_eq_false, or_true, true_or, or_false, false_or, eq_self, Nat.zero_add, Nat.add_zero, nu_in, nI_clamp, pk_us, pk_un, ma_set_n, h36, h96]
    refine o_bring1 (M := 545) (g := f1) (by decide) (by decide) (by omega) (by omega) (Or.inr (by omega)) (ma_set_s _ _ _) ?_
    have e96 : va_cpy f1 f1 2 (97 + 56 * l'.length) 56 96 = nI l'.length := by rw [pk_cpy_out (by omega)]; exact h96
    simp (disch := omega) only [w154_0, w154_1, w154_4, w154_6, w154_7, w154_9, w154_12, w154_13, w154_16, w154_19, w154_20, w154_23, w154_25, w154_28, w154_31, w154_32, w154_35, w154_37, w154_38, w154_39, w154_40, w154_41, w154_42, w154_43, w154_46, w154_47, w154_48, w154_51, w154_53, w154_55, w154_56, w154_59, w154_61, w154_62, w154_63, w154_64, w154_66, w154_69, w154_70, w154_73, w154_75, w154_76, w154_77, w154_78, w154_79, w154_80, ma_kV_ap, ma_kC_s, ma_kC_n, ma_kH_ap, ma_gf_ap, ma_pf_ap, ma_cv_ap, ma_nt_0, ma_nt_s, ma_if_t, ma_if_f, ma_set_s, ma_set_ss, ma_set_2, ma_cat_n, ma_cat_i, ma_cat_l, ma_cat_r, ma_clr_n, ma_clr_i, ma_clr_l, ma_clr_r, ma_clr_0, ma_rf_s, ma_rf_n, ma_ial_ap, ma_ias_ap, List.set_cons_zero, List.set_cons_succ, List.length_cons, List.length_nil, Nat.reduceAdd, Nat.reduceLT, Nat.reduceLeDiff, Nat.le_refl, true_and, and_true, Nat.lt_add_one, fa_lit, nI_add, pk_mul, pk_sub, pk_div, ma_rem_n, nI_ltI, nI_leI, nI_eq, Nat.reduceEqDiff, Nat.reduceMul, Nat.reduceSub, not_false_eq_true, not_true_eq_false, or_true, true_or, or_false, false_or, eq_self, Nat.zero_add, Nat.add_zero, nu_in, nI_clamp, pk_us, pk_un, ma_set_n, h36, e96]
    refine h _ (oP_now hP ⟨_, ma_set_s _ _ _, ⟨?_, ?_, ?_, ?_⟩⟩ (fr_set _ _ (by decide) (by decide))) (fr_set _ _ (by decide) (by decide))
    · exact gM_cong o1 hm (fun x hx => by rw [pk_un (by omega), pk_cpy_out (by omega)])
    · exact gNo_cong o5.1 hno (fun x hx _ => by rw [pk_un (by omega), pk_cpy_out (by omega)])
    · exact gMa_cong o6.1 hma (fun x hx _ => by rw [pk_un (by omega), pk_cpy_out (by omega)])
    · rw [← e]; exact gHi_push hl ho o1 hh hm
  rw [e154]
  by_cases hl : g.2.1.length = 8
  · simp (disch := omega) only [w154_0, w154_1, w154_4, w154_6, w154_7, w154_9, w154_12, w154_13, w154_16, w154_19, w154_20, w154_23, w154_25, w154_28, w154_31, w154_32, w154_35, w154_37, w154_38, w154_39, w154_40, w154_41, w154_43, w154_46, w154_47, w154_48, w154_51, w154_53, w154_55, w154_56, w154_59, w154_61, w154_62, w154_63, w154_64, w154_66, w154_69, w154_70, w154_73, w154_75, w154_76, w154_77, w154_78, w154_79, w154_80, ma_kV_ap, ma_kC_s, ma_kC_n, ma_kH_ap, ma_gf_ap, ma_pf_ap, ma_cv_ap, ma_nt_0, ma_nt_s, ma_if_t, ma_if_f, ma_set_s, ma_set_ss, ma_set_2, ma_cat_n, ma_cat_i, ma_cat_l, ma_cat_r, ma_clr_n, ma_clr_i, ma_clr_l, ma_clr_r, ma_clr_0, ma_rf_s, ma_rf_n, ma_ial_ap, ma_ias_ap, List.set_cons_zero, List.set_cons_succ, List.length_cons, List.length_nil, Nat.reduceAdd, Nat.reduceLT, Nat.reduceLeDiff, Nat.le_refl, true_and, and_true, Nat.lt_add_one, fa_lit, nI_add, pk_mul, pk_sub, pk_div, ma_rem_n, nI_ltI, nI_leI, nI_eq, Nat.reduceEqDiff, Nat.reduceMul, Nat.reduceSub, not_false_eq_true, not_true_eq_false, or_true, true_or, or_false, false_or, eq_self, Nat.zero_add, Nat.add_zero, nu_in, nI_clamp, pk_us, pk_un, ma_set_n, h36, h37, f96, hl]
    refine o_bring1 (M := 545) (g := f) (by decide) (by decide) (by omega) (by omega) (Or.inl (by omega)) h37 ?_
    have e96 : va_cpy f f 153 97 392 96 = nI 8 := by rw [pk_cpy_out (by omega), f96, hl]
    simp (disch := omega) only [w154_0, w154_1, w154_4, w154_6, w154_7, w154_9, w154_12, w154_13, w154_16, w154_19, w154_20, w154_23, w154_25, w154_28, w154_31, w154_32, w154_35, w154_37, w154_38, w154_39, w154_40, w154_41, w154_43, w154_46, w154_47, w154_48, w154_51, w154_53, w154_55, w154_56, w154_59, w154_61, w154_62, w154_63, w154_64, w154_66, w154_69, w154_70, w154_73, w154_75, w154_76, w154_77, w154_78, w154_79, w154_80, ma_kV_ap, ma_kC_s, ma_kC_n, ma_kH_ap, ma_gf_ap, ma_pf_ap, ma_cv_ap, ma_nt_0, ma_nt_s, ma_if_t, ma_if_f, ma_set_s, ma_set_ss, ma_set_2, ma_cat_n, ma_cat_i, ma_cat_l, ma_cat_r, ma_clr_n, ma_clr_i, ma_clr_l, ma_clr_r, ma_clr_0, ma_rf_s, ma_rf_n, ma_ial_ap, ma_ias_ap, List.set_cons_zero, List.set_cons_succ, List.length_cons, List.length_nil, Nat.reduceAdd, Nat.reduceLT, Nat.reduceLeDiff, Nat.le_refl, true_and, and_true, Nat.lt_add_one, fa_lit, nI_add, pk_mul, pk_sub, pk_div, ma_rem_n, nI_ltI, nI_leI, nI_eq, Nat.reduceEqDiff, Nat.reduceMul, Nat.reduceSub, not_false_eq_true, not_true_eq_false, or_true, true_or, or_false, false_or, eq_self, Nat.zero_add, Nat.add_zero, nu_in, nI_clamp, pk_us, pk_un, ma_set_n, h36, e96]
    refine tail _ (g.2.1.drop 1) (by rw [List.length_drop, hl]; decide) (fun t ht => hokl t (List.mem_of_mem_drop ht)) (gHi_drop hl hokl gn.2.2.2) ?_ ?_ ?_ ?_
    · exact gM_cong o1 gn.1 (fun x hx => by rw [pk_un (by omega), pk_cpy_out (by omega)])
    · exact gNo_cong o5.1 gn.2.1 (fun x hx _ => by rw [pk_un (by omega), pk_cpy_out (by omega)])
    · exact gMa_cong o6.1 gn.2.2.1 (fun x hx _ => by rw [pk_un (by omega), pk_cpy_out (by omega)])
    · unfold gpush; rw [if_pos hl]
  · have hc : (g.2.1.length = 8) = False := eq_false hl
    simp (disch := omega) only [w154_0, w154_1, w154_4, w154_6, w154_7, w154_9, w154_12, w154_13, w154_16, w154_19, w154_20, w154_23, w154_25, w154_28, w154_31, w154_32, w154_35, w154_37, w154_38, w154_39, w154_40, w154_41, w154_43, w154_46, w154_47, w154_48, w154_51, w154_53, w154_55, w154_56, w154_59, w154_61, w154_62, w154_63, w154_64, w154_66, w154_69, w154_70, w154_73, w154_75, w154_76, w154_77, w154_78, w154_79, w154_80, ma_kV_ap, ma_kC_s, ma_kC_n, ma_kH_ap, ma_gf_ap, ma_pf_ap, ma_cv_ap, ma_nt_0, ma_nt_s, ma_if_t, ma_if_f, ma_set_s, ma_set_ss, ma_set_2, ma_cat_n, ma_cat_i, ma_cat_l, ma_cat_r, ma_clr_n, ma_clr_i, ma_clr_l, ma_clr_r, ma_clr_0, ma_rf_s, ma_rf_n, ma_ial_ap, ma_ias_ap, List.set_cons_zero, List.set_cons_succ, List.length_cons, List.length_nil, Nat.reduceAdd, Nat.reduceLT, Nat.reduceLeDiff, Nat.le_refl, true_and, and_true, Nat.lt_add_one, fa_lit, nI_add, pk_mul, pk_sub, pk_div, ma_rem_n, nI_ltI, nI_leI, nI_eq, Nat.reduceEqDiff, Nat.reduceMul, Nat.reduceSub, not_false_eq_true, not_true_eq_false, or_true, true_or, or_false, false_or, eq_self, Nat.zero_add, Nat.add_zero, nu_in, nI_clamp, pk_us, pk_un, ma_set_n, h36, h37, f96, hc]
    have := tail f g.2.1 (by omega) hokl gn.2.2.2 gn.1 gn.2.1 gn.2.2.1 (by unfold gpush; rw [if_neg hl])
    rw [ma_set_id _ _ _ h37] at this
    exact this
theorem m_lays_n {a : Nat} (ha : 1 ≤ a) (ha2 : a ≤ 60) (hm : ¬ gmay g.1) (hO : sOK g i0 i1 tx) (hP : oP H g i0 i1 tx up lo c0 c1 c2) (h : ∀ H', oP H' g i0 i1 tx up lo c0 (c1 + nI 1) c2 → fr H H' 36 46 → Q (some (.int (-nI 3))) H') : ma_MW (d + 5) 155 [.ref 36, .int (nI a)] H Q := by
  obtain ⟨po, ta, tk, nu, wo, it, h36⟩ := oP_cl hP
  obtain ⟨f, h37, gn⟩ := hP.2.1
  have hmv := hO.1.2.1
  have no : ma_W (d + 4) 155 Q 37 [some (.ref 36), some (.int (nI a)), none] [] H 0 0 := by
    simp (disch := omega) only [w155_0, w155_1, w155_2, w155_4, w155_7, w155_10, w155_11, w155_14, w155_15, w155_16, w155_19, w155_22, w155_25, w155_26, w155_29, w155_30, w155_31, w155_34, w155_37, w155_38, w155_41, w155_42, w155_43, w155_46, w155_47, w155_48, w155_49, w155_50, w155_53, w155_54, w155_57, w155_60, w155_63, w155_64, w155_67, w155_68, w155_69, w155_72, w155_75, w155_76, w155_77, w155_80, w155_83, w155_86, w155_89, w155_90, ma_kV_ap, ma_kC_s, ma_kC_n, ma_kH_ap, ma_gf_ap, ma_pf_ap, ma_cv_ap, ma_nt_0, ma_nt_s, ma_if_t, ma_if_f, ma_set_s, ma_set_ss, ma_set_2, ma_cat_n, ma_cat_i, ma_cat_l, ma_cat_r, ma_clr_n, ma_clr_i, ma_clr_l, ma_clr_r, ma_clr_0, ma_rf_s, ma_rf_n, ma_ial_ap, ma_ias_ap, List.set_cons_zero, List.set_cons_succ, List.length_cons, List.length_nil, Nat.reduceAdd, Nat.reduceLT, Nat.reduceLeDiff, Nat.le_refl, true_and, and_true, Nat.lt_add_one, h36]
    refine o_no hP (fun H' p f => ?_)
    simp (disch := omega) only [w155_0, w155_1, w155_2, w155_4, w155_7, w155_10, w155_11, w155_14, w155_15, w155_16, w155_19, w155_22, w155_25, w155_26, w155_29, w155_30, w155_31, w155_34, w155_37, w155_38, w155_41, w155_42, w155_43, w155_46, w155_47, w155_48, w155_49, w155_50, w155_53, w155_54, w155_57, w155_60, w155_63, w155_64, w155_67, w155_68, w155_69, w155_72, w155_75, w155_76, w155_77, w155_80, w155_83, w155_86, w155_89, w155_90, ma_kV_ap, ma_kC_s, ma_kC_n, ma_kH_ap, ma_gf_ap, ma_pf_ap, ma_cv_ap, ma_nt_0, ma_nt_s, ma_if_t, ma_if_f, ma_set_s, ma_set_ss, ma_set_2, ma_cat_n, ma_cat_i, ma_cat_l, ma_cat_r, ma_clr_n, ma_clr_i, ma_clr_l, ma_clr_r, ma_clr_0, ma_rf_s, ma_rf_n, ma_ial_ap, ma_ias_ap, List.set_cons_zero, List.set_cons_succ, List.length_cons, List.length_nil, Nat.reduceAdd, Nat.reduceLT, Nat.reduceLeDiff, Nat.le_refl, true_and, and_true, Nat.lt_add_one]
    exact h H' p f
  have f4 := gM_mv gn.1
  rw [e155]
  simp (disch := omega) only [w155_0, w155_1, w155_2, w155_4, w155_7, w155_10, w155_11, w155_14, w155_15, w155_16, w155_19, w155_22, w155_25, w155_26, w155_29, w155_30, w155_31, w155_34, w155_37, w155_38, w155_41, w155_42, w155_43, w155_46, w155_47, w155_48, w155_49, w155_50, w155_53, w155_54, w155_57, w155_60, w155_63, w155_64, w155_67, w155_68, w155_69, w155_72, w155_75, w155_76, w155_77, w155_80, w155_83, w155_86, w155_89, w155_90, ma_kV_ap, ma_kC_s, ma_kC_n, ma_kH_ap, ma_gf_ap, ma_pf_ap, ma_cv_ap, ma_nt_0, ma_nt_s, ma_if_t, ma_if_f, ma_set_s, ma_set_ss, ma_set_2, ma_cat_n, ma_cat_i, ma_cat_l, ma_cat_r, ma_clr_n, ma_clr_i, ma_clr_l, ma_clr_r, ma_clr_0, ma_rf_s, ma_rf_n, ma_ial_ap, ma_ias_ap, List.set_cons_zero, List.set_cons_succ, List.length_cons, List.length_nil, Nat.reduceAdd, Nat.reduceLT, Nat.reduceLeDiff, Nat.le_refl, true_and, and_true, Nat.lt_add_one, fa_lit]
  refine o_inT (by omega) (by decide) ?_
  simp (disch := omega) only [w155_0, w155_1, w155_2, w155_4, w155_7, w155_10, w155_11, w155_14, w155_15, w155_16, w155_19, w155_22, w155_25, w155_26, w155_29, w155_30, w155_31, w155_34, w155_38, w155_41, w155_42, w155_43, w155_46, w155_47, w155_48, w155_49, w155_50, w155_53, w155_54, w155_57, w155_60, w155_63, w155_64, w155_67, w155_68, w155_69, w155_72, w155_75, w155_76, w155_77, w155_80, w155_83, w155_86, w155_89, w155_90, ma_kV_ap, ma_kC_s, ma_kC_n, ma_kH_ap, ma_gf_ap, ma_pf_ap, ma_cv_ap, ma_nt_0, ma_nt_s, ma_if_t, ma_if_f, ma_set_s, ma_set_ss, ma_set_2, ma_cat_n, ma_cat_i, ma_cat_l, ma_cat_r, ma_clr_n, ma_clr_i, ma_clr_l, ma_clr_r, ma_clr_0, ma_rf_s, ma_rf_n, ma_ial_ap, ma_ias_ap, List.set_cons_zero, List.set_cons_succ, List.length_cons, List.length_nil, Nat.reduceAdd, Nat.reduceLT, Nat.reduceLeDiff, Nat.le_refl, true_and, and_true, Nat.lt_add_one, fa_lit, nI_add, pk_mul, pk_sub, pk_div, ma_rem_n, nI_ltI, nI_leI, nI_eq, Nat.reduceEqDiff, Nat.reduceMul, Nat.reduceSub, not_false_eq_true, not_true_eq_false, or_true, true_or, or_false, false_or, eq_self, Nat.zero_add, Nat.add_zero, h36]
  refine o_isDone' hO.1.1 (by decide) (by decide) h37 gn.1 (fun hd => ?_) (fun hd => ?_)
  · simp (disch := omega) only [w155_0, w155_1, w155_2, w155_4, w155_7, w155_10, w155_11, w155_14, w155_15, w155_16, w155_19, w155_22, w155_25, w155_26, w155_29, w155_30, w155_31, w155_34, w155_38, w155_41, w155_42, w155_43, w155_46, w155_47, w155_48, w155_49, w155_50, w155_53, w155_54, w155_57, w155_60, w155_63, w155_64, w155_67, w155_68, w155_69, w155_72, w155_75, w155_76, w155_77, w155_80, w155_83, w155_86, w155_89, w155_90, ma_kV_ap, ma_kC_s, ma_kC_n, ma_kH_ap, ma_gf_ap, ma_pf_ap, ma_cv_ap, ma_nt_0, ma_nt_s, ma_if_t, ma_if_f, ma_set_s, ma_set_ss, ma_set_2, ma_cat_n, ma_cat_i, ma_cat_l, ma_cat_r, ma_clr_n, ma_clr_i, ma_clr_l, ma_clr_r, ma_clr_0, ma_rf_s, ma_rf_n, ma_ial_ap, ma_ias_ap, List.set_cons_zero, List.set_cons_succ, List.length_cons, List.length_nil, Nat.reduceAdd, Nat.reduceLT, Nat.reduceLeDiff, Nat.le_refl, true_and, and_true, Nat.lt_add_one, fa_lit, nI_add, pk_mul, pk_sub, pk_div, ma_rem_n, nI_ltI, nI_leI, nI_eq, Nat.reduceEqDiff, Nat.reduceMul, Nat.reduceSub, not_false_eq_true, not_true_eq_false, or_true, true_or, or_false, false_or, eq_self, Nat.zero_add, Nat.add_zero]
    exact no
  · have h9 : (gmv g.1 = 9999) = True := eq_true (by
      have : ¬ gmv g.1 < 9999 := fun z => hm ⟨hd, z⟩
      omega)
    simp (disch := omega) only [w155_0, w155_1, w155_2, w155_4, w155_7, w155_10, w155_11, w155_14, w155_15, w155_16, w155_19, w155_22, w155_25, w155_26, w155_29, w155_30, w155_31, w155_34, w155_38, w155_41, w155_42, w155_43, w155_46, w155_47, w155_48, w155_49, w155_50, w155_53, w155_54, w155_57, w155_60, w155_63, w155_64, w155_67, w155_68, w155_69, w155_72, w155_75, w155_76, w155_77, w155_80, w155_83, w155_86, w155_89, w155_90, ma_kV_ap, ma_kC_s, ma_kC_n, ma_kH_ap, ma_gf_ap, ma_pf_ap, ma_cv_ap, ma_nt_0, ma_nt_s, ma_if_t, ma_if_f, ma_set_s, ma_set_ss, ma_set_2, ma_cat_n, ma_cat_i, ma_cat_l, ma_cat_r, ma_clr_n, ma_clr_i, ma_clr_l, ma_clr_r, ma_clr_0, ma_rf_s, ma_rf_n, ma_ial_ap, ma_ias_ap, List.set_cons_zero, List.set_cons_succ, List.length_cons, List.length_nil, Nat.reduceAdd, Nat.reduceLT, Nat.reduceLeDiff, Nat.le_refl, true_and, and_true, Nat.lt_add_one, fa_lit, nI_add, pk_mul, pk_sub, pk_div, ma_rem_n, nI_ltI, nI_leI, nI_eq, Nat.reduceEqDiff, Nat.reduceMul, Nat.reduceSub, not_false_eq_true, not_true_eq_false, or_true, true_or, or_false, false_or, eq_self, Nat.zero_add, Nat.add_zero, nu_in, nI_clamp, pk_us, pk_un, ma_set_n, h36, h37, f4, h9]
    exact no
theorem m_lays {a m : Nat} (ha : 1 ≤ a) (ha2 : a ≤ 60) (hm : gmay g.1) (hu : gupto g.1 a m) (hO : sOK g i0 i1 tx) (hP : oP H g i0 i1 tx up lo c0 c1 c2) (h : ∀ H', oP H' (git m g.1, gpush g.2.1 g.1, g.2.2) i0 i1 tx up lo c0 c1 c2 → fr H H' 36 46 → Q (some (.int (nI m))) H') : ma_MW (d + 5) 155 [.ref 36, .int (nI a)] H Q := by
  have hmv := hO.1.2.1
  have hml := hu.1
  have hg2 := gOK_push hO.1
  have loop : ∀ j k H1, m - k = j → k ≤ m → oP H1 (git k g.1, gpush g.2.1 g.1, g.2.2) i0 i1 tx up lo c0 c1 c2 → fr H H1 36 46 → ma_W (d + 4) 155 Q 48 [some (.ref 36), some (.int (nI a)), some (.int (nI k))] [] H1 0 0 := by
    intro j
    induction j with
    | zero =>
      intro k H1 e1 e2 p1 fr1
      have hk : k = m := by omega
      subst hk
      obtain ⟨po, ta, tk, nu, wo, it, h36⟩ := oP_cl p1
      obtain ⟨f, h37, gn⟩ := p1.2.1
      have fin : ma_W (d + 4) 155 Q 89 [some (.ref 36), some (.int (nI a)), some (.int (nI k))] [] H1 0 0 := by
        simp (disch := omega) only [w155_0, w155_1, w155_2, w155_4, w155_7, w155_10, w155_11, w155_14, w155_15, w155_16, w155_19, w155_22, w155_25, w155_26, w155_29, w155_30, w155_31, w155_34, w155_37, w155_38, w155_41, w155_42, w155_43, w155_46, w155_47, w155_48, w155_49, w155_50, w155_53, w155_54, w155_57, w155_60, w155_63, w155_64, w155_67, w155_68, w155_69, w155_72, w155_75, w155_76, w155_77, w155_80, w155_83, w155_86, w155_89, w155_90, ma_kV_ap, ma_kC_s, ma_kC_n, ma_kH_ap, ma_gf_ap, ma_pf_ap, ma_cv_ap, ma_nt_0, ma_nt_s, ma_if_t, ma_if_f, ma_set_s, ma_set_ss, ma_set_2, ma_cat_n, ma_cat_i, ma_cat_l, ma_cat_r, ma_clr_n, ma_clr_i, ma_clr_l, ma_clr_r, ma_clr_0, ma_rf_s, ma_rf_n, ma_ial_ap, ma_ias_ap, List.set_cons_zero, List.set_cons_succ, List.length_cons, List.length_nil, Nat.reduceAdd, Nat.reduceLT, Nat.reduceLeDiff, Nat.le_refl, true_and, and_true, Nat.lt_add_one]
        exact h H1 p1 fr1
      simp (disch := omega) only [w155_0, w155_1, w155_2, w155_4, w155_7, w155_10, w155_11, w155_14, w155_15, w155_16, w155_19, w155_22, w155_25, w155_26, w155_29, w155_30, w155_31, w155_34, w155_37, w155_38, w155_41, w155_42, w155_43, w155_46, w155_47, w155_48, w155_49, w155_50, w155_54, w155_57, w155_60, w155_63, w155_64, w155_67, w155_68, w155_69, w155_72, w155_75, w155_76, w155_77, w155_80, w155_83, w155_86, w155_90, ma_kV_ap, ma_kC_s, ma_kC_n, ma_kH_ap, ma_gf_ap, ma_pf_ap, ma_cv_ap, ma_nt_0, ma_nt_s, ma_if_t, ma_if_f, ma_set_s, ma_set_ss, ma_set_2, ma_cat_n, ma_cat_i, ma_cat_l, ma_cat_r, ma_clr_n, ma_clr_i, ma_clr_l, ma_clr_r, ma_clr_0, ma_rf_s, ma_rf_n, ma_ial_ap, ma_ias_ap, List.set_cons_zero, List.set_cons_succ, List.length_cons, List.length_nil, Nat.reduceAdd, Nat.reduceLT, Nat.reduceLeDiff, Nat.le_refl, true_and, and_true, Nat.lt_add_one, fa_lit, nI_add, pk_mul, pk_sub, pk_div, ma_rem_n, nI_ltI, nI_leI, nI_eq, Nat.reduceEqDiff, Nat.reduceMul, Nat.reduceSub, not_false_eq_true, not_true_eq_false, or_true, true_or, or_false, false_or, eq_self, Nat.zero_add, Nat.add_zero]
      refine ⟨fun _ => fin, fun hk => ?_⟩
      simp (disch := omega) only [w155_0, w155_1, w155_2, w155_4, w155_7, w155_10, w155_11, w155_14, w155_15, w155_16, w155_19, w155_22, w155_25, w155_26, w155_29, w155_30, w155_31, w155_34, w155_37, w155_38, w155_41, w155_42, w155_43, w155_46, w155_47, w155_48, w155_49, w155_50, w155_53, w155_54, w155_57, w155_60, w155_63, w155_64, w155_67, w155_68, w155_69, w155_72, w155_75, w155_76, w155_77, w155_80, w155_83, w155_86, w155_90, ma_kV_ap, ma_kC_s, ma_kC_n, ma_kH_ap, ma_gf_ap, ma_pf_ap, ma_cv_ap, ma_nt_0, ma_nt_s, ma_if_t, ma_if_f, ma_set_s, ma_set_ss, ma_set_2, ma_cat_n, ma_cat_i, ma_cat_l, ma_cat_r, ma_clr_n, ma_clr_i, ma_clr_l, ma_clr_r, ma_clr_0, ma_rf_s, ma_rf_n, ma_ial_ap, ma_ias_ap, List.set_cons_zero, List.set_cons_succ, List.length_cons, List.length_nil, Nat.reduceAdd, Nat.reduceLT, Nat.reduceLeDiff, Nat.le_refl, true_and, and_true, Nat.lt_add_one, fa_lit, nI_add, pk_mul, pk_sub, pk_div, ma_rem_n, nI_ltI, nI_leI, nI_eq, Nat.reduceEqDiff, Nat.reduceMul, Nat.reduceSub, not_false_eq_true, not_true_eq_false, or_true, true_or, or_false, false_or, eq_self, Nat.zero_add, Nat.add_zero, h36]
      refine o_isDone' (t := git k g.1) (ok_git hO.1.1 k) (by decide) (by decide) h37 gn.1 (fun hd => ?_) (fun hd => ?_)
      · simp (disch := omega) only [w155_0, w155_1, w155_2, w155_4, w155_7, w155_10, w155_11, w155_14, w155_15, w155_16, w155_19, w155_22, w155_25, w155_26, w155_29, w155_30, w155_31, w155_34, w155_37, w155_38, w155_41, w155_42, w155_43, w155_46, w155_47, w155_48, w155_49, w155_50, w155_53, w155_54, w155_57, w155_60, w155_63, w155_64, w155_67, w155_68, w155_69, w155_72, w155_75, w155_76, w155_77, w155_80, w155_83, w155_86, w155_90, ma_kV_ap, ma_kC_s, ma_kC_n, ma_kH_ap, ma_gf_ap, ma_pf_ap, ma_cv_ap, ma_nt_0, ma_nt_s, ma_if_t, ma_if_f, ma_set_s, ma_set_ss, ma_set_2, ma_cat_n, ma_cat_i, ma_cat_l, ma_cat_r, ma_clr_n, ma_clr_i, ma_clr_l, ma_clr_r, ma_clr_0, ma_rf_s, ma_rf_n, ma_ial_ap, ma_ias_ap, List.set_cons_zero, List.set_cons_succ, List.length_cons, List.length_nil, Nat.reduceAdd, Nat.reduceLT, Nat.reduceLeDiff, Nat.le_refl, true_and, and_true, Nat.lt_add_one, fa_lit, nI_add, pk_mul, pk_sub, pk_div, ma_rem_n, nI_ltI, nI_leI, nI_eq, Nat.reduceEqDiff, Nat.reduceMul, Nat.reduceSub, not_false_eq_true, not_true_eq_false, or_true, true_or, or_false, false_or, eq_self, Nat.zero_add, Nat.add_zero]
        exact fin
      · have f4 := gM_mv gn.1
        dsimp only at f4
        have h9 := gmv_upto hu hmv k (Nat.le_refl _)
        have hge : (9999 ≤ gmv (git k g.1)) = True := eq_true (by
          have : ¬ gmay (git k g.1) := by
            rcases hu.2.2 with e | e
            · omega
            · exact e
          have : ¬ gmv (git k g.1) < 9999 := fun z => this ⟨hd, z⟩
          omega)
        simp (disch := omega) only [w155_0, w155_1, w155_2, w155_4, w155_7, w155_10, w155_11, w155_14, w155_15, w155_16, w155_19, w155_22, w155_25, w155_26, w155_29, w155_30, w155_31, w155_34, w155_37, w155_38, w155_41, w155_42, w155_43, w155_46, w155_47, w155_48, w155_49, w155_50, w155_53, w155_54, w155_57, w155_60, w155_63, w155_64, w155_67, w155_68, w155_69, w155_72, w155_75, w155_76, w155_77, w155_80, w155_83, w155_86, w155_90, ma_kV_ap, ma_kC_s, ma_kC_n, ma_kH_ap, ma_gf_ap, ma_pf_ap, ma_cv_ap, ma_nt_0, ma_nt_s, ma_if_t, ma_if_f, ma_set_s, ma_set_ss, ma_set_2, ma_cat_n, ma_cat_i, ma_cat_l, ma_cat_r, ma_clr_n, ma_clr_i, ma_clr_l, ma_clr_r, ma_clr_0, ma_rf_s, ma_rf_n, ma_ial_ap, ma_ias_ap, List.set_cons_zero, List.set_cons_succ, List.length_cons, List.length_nil, Nat.reduceAdd, Nat.reduceLT, Nat.reduceLeDiff, Nat.le_refl, true_and, and_true, Nat.lt_add_one, fa_lit, nI_add, pk_mul, pk_sub, pk_div, ma_rem_n, nI_ltI, nI_leI, nI_eq, Nat.reduceEqDiff, Nat.reduceMul, Nat.reduceSub, not_false_eq_true, not_true_eq_false, or_true, true_or, or_false, false_or, eq_self, Nat.zero_add, Nat.add_zero, nu_in, nI_clamp, pk_us, pk_un, ma_set_n, h36, h37, f4, hge]
        exact fin
    | succ j ih =>
      intro k H1 e1 e2 p1 fr1
      obtain ⟨po, ta, tk, nu, wo, it, h36⟩ := oP_cl p1
      obtain ⟨f, h37, gn⟩ := p1.2.1
      obtain ⟨u, h44⟩ := p1.2.2.2.2.2.2.2.1
      have hmk := hu.2.1 k (by omega)
      have hc : (a ≤ k) = False := eq_false (by omega)
      simp (disch := omega) only [w155_0, w155_1, w155_2, w155_4, w155_7, w155_10, w155_11, w155_14, w155_15, w155_16, w155_19, w155_22, w155_25, w155_26, w155_29, w155_30, w155_31, w155_34, w155_37, w155_38, w155_41, w155_42, w155_43, w155_46, w155_47, w155_48, w155_49, w155_50, w155_53, w155_54, w155_57, w155_60, w155_63, w155_64, w155_67, w155_68, w155_69, w155_72, w155_75, w155_76, w155_77, w155_80, w155_83, w155_86, w155_90, ma_kV_ap, ma_kC_s, ma_kC_n, ma_kH_ap, ma_gf_ap, ma_pf_ap, ma_cv_ap, ma_nt_0, ma_nt_s, ma_if_t, ma_if_f, ma_set_s, ma_set_ss, ma_set_2, ma_cat_n, ma_cat_i, ma_cat_l, ma_cat_r, ma_clr_n, ma_clr_i, ma_clr_l, ma_clr_r, ma_clr_0, ma_rf_s, ma_rf_n, ma_ial_ap, ma_ias_ap, List.set_cons_zero, List.set_cons_succ, List.length_cons, List.length_nil, Nat.reduceAdd, Nat.reduceLT, Nat.reduceLeDiff, Nat.le_refl, true_and, and_true, Nat.lt_add_one, fa_lit, nI_add, pk_mul, pk_sub, pk_div, ma_rem_n, nI_ltI, nI_leI, nI_eq, Nat.reduceEqDiff, Nat.reduceMul, Nat.reduceSub, not_false_eq_true, not_true_eq_false, or_true, true_or, or_false, false_or, eq_self, Nat.zero_add, Nat.add_zero, h36, hc]
      refine o_isDone' (t := git k g.1) (ok_git hO.1.1 k) (by decide) (by decide) h37 gn.1 (fun hd => absurd hd hmk.1) (fun hd => ?_)
      have f4 := gM_mv gn.1
      dsimp only at f4
      have h9 := hmk.2
      have hge : (9999 ≤ gmv (git k g.1)) = False := eq_false (by omega)
      simp (disch := omega) only [w155_0, w155_1, w155_2, w155_4, w155_7, w155_10, w155_11, w155_14, w155_15, w155_16, w155_19, w155_22, w155_25, w155_26, w155_29, w155_30, w155_31, w155_34, w155_37, w155_38, w155_41, w155_42, w155_43, w155_46, w155_47, w155_48, w155_49, w155_50, w155_53, w155_54, w155_57, w155_60, w155_63, w155_64, w155_67, w155_68, w155_69, w155_72, w155_75, w155_76, w155_77, w155_80, w155_83, w155_86, w155_90, ma_kV_ap, ma_kC_s, ma_kC_n, ma_kH_ap, ma_gf_ap, ma_pf_ap, ma_cv_ap, ma_nt_0, ma_nt_s, ma_if_t, ma_if_f, ma_set_s, ma_set_ss, ma_set_2, ma_cat_n, ma_cat_i, ma_cat_l, ma_cat_r, ma_clr_n, ma_clr_i, ma_clr_l, ma_clr_r, ma_clr_0, ma_rf_s, ma_rf_n, ma_ial_ap, ma_ias_ap, List.set_cons_zero, List.set_cons_succ, List.length_cons, List.length_nil, Nat.reduceAdd, Nat.reduceLT, Nat.reduceLeDiff, Nat.le_refl, true_and, and_true, Nat.lt_add_one, fa_lit, nI_add, pk_mul, pk_sub, pk_div, ma_rem_n, nI_ltI, nI_leI, nI_eq, Nat.reduceEqDiff, Nat.reduceMul, Nat.reduceSub, not_false_eq_true, not_true_eq_false, or_true, true_or, or_false, false_or, eq_self, Nat.zero_add, Nat.add_zero, nu_in, nI_clamp, pk_us, pk_un, ma_set_n, h36, h37, f4, hge]
      refine o_lay' (t := git k g.1) (ok_git hO.1.1 k) (by omega) hd (by decide) (by decide) (by decide) (by decide) (by decide) h36 h44 h37 gn.1 (fun f' u' hM hfr => ?_)
      simp (disch := omega) only [w155_0, w155_1, w155_2, w155_4, w155_7, w155_10, w155_11, w155_14, w155_15, w155_16, w155_19, w155_22, w155_25, w155_26, w155_29, w155_30, w155_31, w155_34, w155_37, w155_38, w155_41, w155_42, w155_43, w155_46, w155_47, w155_49, w155_50, w155_53, w155_54, w155_57, w155_60, w155_63, w155_64, w155_67, w155_68, w155_69, w155_72, w155_75, w155_76, w155_77, w155_80, w155_83, w155_86, w155_89, w155_90, ma_kV_ap, ma_kC_s, ma_kC_n, ma_kH_ap, ma_gf_ap, ma_pf_ap, ma_cv_ap, ma_nt_0, ma_nt_s, ma_if_t, ma_if_f, ma_set_s, ma_set_ss, ma_set_2, ma_cat_n, ma_cat_i, ma_cat_l, ma_cat_r, ma_clr_n, ma_clr_i, ma_clr_l, ma_clr_r, ma_clr_0, ma_rf_s, ma_rf_n, ma_ial_ap, ma_ias_ap, List.set_cons_zero, List.set_cons_succ, List.length_cons, List.length_nil, Nat.reduceAdd, Nat.reduceLT, Nat.reduceLeDiff, Nat.le_refl, true_and, and_true, Nat.lt_add_one, fa_lit, nI_add, pk_mul, pk_sub, pk_div, ma_rem_n, nI_ltI, nI_leI, nI_eq, Nat.reduceEqDiff, Nat.reduceMul, Nat.reduceSub, not_false_eq_true, not_true_eq_false, or_true, true_or, or_false, false_or, eq_self, Nat.zero_add, Nat.add_zero]
      have hke : (git (k + 1) g.1).1 = (git k g.1).1 ∧ (git (k + 1) g.1).2.1 = (git k g.1).2.1 := by rw [git_s]; exact gkind
      rw [← git_s] at hM
      refine ih (k + 1) _ (by omega) (by omega) ?_ (fr_set' (fr_set' fr1 (by decide) (by decide)) (by decide) (by decide))
      have hgk : gOK (git k g.1, gpush g.2.1 g.1, g.2.2) := gOK_tab (g := (g.1, gpush g.2.1 g.1, g.2.2)) hg2 (ok_git hO.1.1 k) (by omega) (gkind_git g.1 k).1 (gkind_git g.1 k).2
      have hk01 : f' 0 = f 0 ∧ f' 1 = f 1 := by
        have q1 := gn.1
        dsimp only at q1
        generalize git (k + 1) g.1 = t1 at hM hke
        generalize git k g.1 = t0 at q1 hke
        obtain ⟨kz, ko, hz, ho, pl, tu, db, mv, tz, to⟩ := t1
        obtain ⟨kz', ko', hz', ho', pl', tu', db', mv', tz', to'⟩ := t0
        obtain ⟨x1, x2⟩ := hke
        have x1 : kz = kz' := x1
        have x2 : ko = ko' := x2
        subst x1 x2
        exact ⟨hM.1.trans q1.1.symm, hM.2.1.trans q1.2.1.symm⟩
      exact oP_nu p1 ⟨f', ma_set_s _ _ _, gN_tab (g := (git k g.1, gpush g.2.1 g.1, g.2.2)) hgk gn hM hk01.1 hk01.2 hfr⟩ ⟨u', by rw [ma_set_n _ _ (by decide), ma_set_s]⟩ (fun j h1 h2 => by rw [ma_set_n _ _ h1, ma_set_n _ _ h2])
  obtain ⟨po, ta, tk, nu, wo, it, h36⟩ := oP_cl hP
  obtain ⟨f, h37, gn⟩ := hP.2.1
  have f4 := gM_mv gn.1
  have h9 := hm.2
  have hge : (gmv g.1 = 9999) = False := eq_false (by omega)
  rw [e155]
  simp (disch := omega) only [w155_0, w155_1, w155_2, w155_4, w155_7, w155_10, w155_11, w155_14, w155_15, w155_16, w155_19, w155_22, w155_25, w155_26, w155_29, w155_30, w155_31, w155_34, w155_37, w155_38, w155_41, w155_42, w155_43, w155_46, w155_47, w155_48, w155_49, w155_50, w155_53, w155_54, w155_57, w155_60, w155_63, w155_64, w155_67, w155_68, w155_69, w155_72, w155_75, w155_76, w155_77, w155_80, w155_83, w155_86, w155_89, w155_90, ma_kV_ap, ma_kC_s, ma_kC_n, ma_kH_ap, ma_gf_ap, ma_pf_ap, ma_cv_ap, ma_nt_0, ma_nt_s, ma_if_t, ma_if_f, ma_set_s, ma_set_ss, ma_set_2, ma_cat_n, ma_cat_i, ma_cat_l, ma_cat_r, ma_clr_n, ma_clr_i, ma_clr_l, ma_clr_r, ma_clr_0, ma_rf_s, ma_rf_n, ma_ial_ap, ma_ias_ap, List.set_cons_zero, List.set_cons_succ, List.length_cons, List.length_nil, Nat.reduceAdd, Nat.reduceLT, Nat.reduceLeDiff, Nat.le_refl, true_and, and_true, Nat.lt_add_one, fa_lit]
  refine o_inT (by omega) (by decide) ?_
  simp (disch := omega) only [w155_0, w155_1, w155_2, w155_4, w155_7, w155_10, w155_11, w155_14, w155_15, w155_16, w155_19, w155_22, w155_25, w155_26, w155_29, w155_30, w155_31, w155_34, w155_37, w155_38, w155_41, w155_42, w155_43, w155_46, w155_47, w155_48, w155_49, w155_50, w155_53, w155_54, w155_57, w155_60, w155_63, w155_64, w155_67, w155_68, w155_69, w155_72, w155_75, w155_76, w155_77, w155_80, w155_83, w155_86, w155_89, w155_90, ma_kV_ap, ma_kC_s, ma_kC_n, ma_kH_ap, ma_gf_ap, ma_pf_ap, ma_cv_ap, ma_nt_0, ma_nt_s, ma_if_t, ma_if_f, ma_set_s, ma_set_ss, ma_set_2, ma_cat_n, ma_cat_i, ma_cat_l, ma_cat_r, ma_clr_n, ma_clr_i, ma_clr_l, ma_clr_r, ma_clr_0, ma_rf_s, ma_rf_n, ma_ial_ap, ma_ias_ap, List.set_cons_zero, List.set_cons_succ, List.length_cons, List.length_nil, Nat.reduceAdd, Nat.reduceLT, Nat.reduceLeDiff, Nat.le_refl, true_and, and_true, Nat.lt_add_one, fa_lit, nI_add, pk_mul, pk_sub, pk_div, ma_rem_n, nI_ltI, nI_leI, nI_eq, Nat.reduceEqDiff, Nat.reduceMul, Nat.reduceSub, not_false_eq_true, not_true_eq_false, or_true, true_or, or_false, false_or, eq_self, Nat.zero_add, Nat.add_zero, h36]
  refine o_isDone' hO.1.1 (by decide) (by decide) h37 gn.1 (fun hd => absurd hd hm.1) (fun hd => ?_)
  simp (disch := omega) only [w155_0, w155_1, w155_2, w155_4, w155_7, w155_10, w155_11, w155_14, w155_15, w155_16, w155_19, w155_22, w155_25, w155_26, w155_29, w155_30, w155_31, w155_34, w155_37, w155_38, w155_41, w155_42, w155_43, w155_46, w155_47, w155_48, w155_49, w155_50, w155_53, w155_54, w155_57, w155_60, w155_63, w155_64, w155_67, w155_68, w155_69, w155_72, w155_75, w155_76, w155_77, w155_80, w155_83, w155_86, w155_89, w155_90, ma_kV_ap, ma_kC_s, ma_kC_n, ma_kH_ap, ma_gf_ap, ma_pf_ap, ma_cv_ap, ma_nt_0, ma_nt_s, ma_if_t, ma_if_f, ma_set_s, ma_set_ss, ma_set_2, ma_cat_n, ma_cat_i, ma_cat_l, ma_cat_r, ma_clr_n, ma_clr_i, ma_clr_l, ma_clr_r, ma_clr_0, ma_rf_s, ma_rf_n, ma_ial_ap, ma_ias_ap, List.set_cons_zero, List.set_cons_succ, List.length_cons, List.length_nil, Nat.reduceAdd, Nat.reduceLT, Nat.reduceLeDiff, Nat.le_refl, true_and, and_true, Nat.lt_add_one, fa_lit, nI_add, pk_mul, pk_sub, pk_div, ma_rem_n, nI_ltI, nI_leI, nI_eq, Nat.reduceEqDiff, Nat.reduceMul, Nat.reduceSub, not_false_eq_true, not_true_eq_false, or_true, true_or, or_false, false_or, eq_self, Nat.zero_add, Nat.add_zero, nu_in, nI_clamp, pk_us, pk_un, ma_set_n, h36, h37, f4, hge]
  refine o_notes hO.1 hP (fun H1 p1 f1 => ?_)
  simp (disch := omega) only [w155_0, w155_1, w155_2, w155_4, w155_7, w155_10, w155_11, w155_14, w155_15, w155_16, w155_19, w155_22, w155_25, w155_26, w155_29, w155_30, w155_31, w155_34, w155_37, w155_38, w155_41, w155_42, w155_43, w155_46, w155_47, w155_49, w155_50, w155_53, w155_54, w155_57, w155_60, w155_63, w155_64, w155_67, w155_68, w155_69, w155_72, w155_75, w155_76, w155_77, w155_80, w155_83, w155_86, w155_89, w155_90, ma_kV_ap, ma_kC_s, ma_kC_n, ma_kH_ap, ma_gf_ap, ma_pf_ap, ma_cv_ap, ma_nt_0, ma_nt_s, ma_if_t, ma_if_f, ma_set_s, ma_set_ss, ma_set_2, ma_cat_n, ma_cat_i, ma_cat_l, ma_cat_r, ma_clr_n, ma_clr_i, ma_clr_l, ma_clr_r, ma_clr_0, ma_rf_s, ma_rf_n, ma_ial_ap, ma_ias_ap, List.set_cons_zero, List.set_cons_succ, List.length_cons, List.length_nil, Nat.reduceAdd, Nat.reduceLT, Nat.reduceLeDiff, Nat.le_refl, true_and, and_true, Nat.lt_add_one, fa_lit]
  exact loop m 0 H1 rfl (Nat.zero_le _) p1 f1
theorem m_exchanges_b {i j : Int32} (hn : ¬ ((∃ a, a < (ghand g.1 0).length ∧ i = nI a) ∧ ∃ b, b < (ghand g.1 1).length ∧ j = nI b)) (hO : sOK g i0 i1 tx) (hP : oP H g i0 i1 tx up lo c0 c1 c2) (h : ∀ H', oP H' g i0 i1 tx up lo (c0 + nI 1) c1 c2 → fr H H' 36 46 → Q (some (.int (-nI 2))) H') : ma_MW (d + 3) 157 [.ref 36, .int i, .int j] H Q := by
  obtain ⟨po, ta, tk, nu, wo, it, h36⟩ := oP_cl hP
  obtain ⟨f, h37, gn⟩ := hP.2.1
  have b0 := (ghand_gk hO.1.1 0).1
  have b1 := (ghand_gk hO.1.1 1).1
  have f7 := gM_7 gn.1 (p := 0) (by decide)
  have f8 := gM_7 gn.1 (p := 1) (by decide)
  rw [show 7 + 0 = 7 from rfl] at f7
  rw [show 7 + 1 = 8 from rfl] at f8
  have bad : ma_W (d + 2) 157 Q 34 [some (.ref 36), some (.int i), some (.int j)] [] H 0 0 := by
    simp (disch := omega) only [w157_0, w157_1, w157_2, w157_3, w157_6, w157_8, w157_9, w157_10, w157_11, w157_14, w157_17, w157_18, w157_19, w157_20, w157_23, w157_25, w157_26, w157_27, w157_28, w157_31, w157_34, w157_35, w157_38, w157_39, w157_40, w157_43, w157_44, w157_47, w157_48, w157_49, w157_52, w157_54, w157_55, w157_58, w157_60, w157_61, w157_62, w157_63, w157_64, w157_65, w157_68, w157_70, w157_71, w157_72, w157_73, w157_74, ma_kV_ap, ma_kC_s, ma_kC_n, ma_kH_ap, ma_gf_ap, ma_pf_ap, ma_cv_ap, ma_nt_0, ma_nt_s, ma_if_t, ma_if_f, ma_set_s, ma_set_ss, ma_set_2, ma_cat_n, ma_cat_i, ma_cat_l, ma_cat_r, ma_clr_n, ma_clr_i, ma_clr_l, ma_clr_r, ma_clr_0, ma_rf_s, ma_rf_n, ma_ial_ap, ma_ias_ap, List.set_cons_zero, List.set_cons_succ, List.length_cons, List.length_nil, Nat.reduceAdd, Nat.reduceLT, Nat.reduceLeDiff, Nat.le_refl, true_and, and_true, Nat.lt_add_one, h36]
    refine o_bad hP (fun H' p f => ?_)
    simp (disch := omega) only [w157_0, w157_1, w157_2, w157_3, w157_6, w157_8, w157_9, w157_10, w157_11, w157_14, w157_17, w157_18, w157_19, w157_20, w157_23, w157_25, w157_26, w157_27, w157_28, w157_31, w157_34, w157_35, w157_38, w157_39, w157_40, w157_43, w157_44, w157_47, w157_48, w157_49, w157_52, w157_54, w157_55, w157_58, w157_60, w157_61, w157_62, w157_63, w157_64, w157_65, w157_68, w157_70, w157_71, w157_72, w157_73, w157_74, ma_kV_ap, ma_kC_s, ma_kC_n, ma_kH_ap, ma_gf_ap, ma_pf_ap, ma_cv_ap, ma_nt_0, ma_nt_s, ma_if_t, ma_if_f, ma_set_s, ma_set_ss, ma_set_2, ma_cat_n, ma_cat_i, ma_cat_l, ma_cat_r, ma_clr_n, ma_clr_i, ma_clr_l, ma_clr_r, ma_clr_0, ma_rf_s, ma_rf_n, ma_ial_ap, ma_ias_ap, List.set_cons_zero, List.set_cons_succ, List.length_cons, List.length_nil, Nat.reduceAdd, Nat.reduceLT, Nat.reduceLeDiff, Nat.le_refl, true_and, and_true, Nat.lt_add_one]
    exact h H' p f
  rw [e157]
  simp (disch := omega) only [w157_0, w157_1, w157_2, w157_3, w157_6, w157_8, w157_9, w157_10, w157_11, w157_14, w157_17, w157_18, w157_19, w157_20, w157_23, w157_25, w157_26, w157_27, w157_28, w157_31, w157_35, w157_38, w157_39, w157_40, w157_43, w157_44, w157_47, w157_48, w157_49, w157_52, w157_54, w157_55, w157_58, w157_60, w157_61, w157_62, w157_63, w157_64, w157_65, w157_68, w157_70, w157_71, w157_72, w157_73, w157_74, ma_kV_ap, ma_kC_s, ma_kC_n, ma_kH_ap, ma_gf_ap, ma_pf_ap, ma_cv_ap, ma_nt_0, ma_nt_s, ma_if_t, ma_if_f, ma_set_s, ma_set_ss, ma_set_2, ma_cat_n, ma_cat_i, ma_cat_l, ma_cat_r, ma_clr_n, ma_clr_i, ma_clr_l, ma_clr_r, ma_clr_0, ma_rf_s, ma_rf_n, ma_ial_ap, ma_ias_ap, List.set_cons_zero, List.set_cons_succ, List.length_cons, List.length_nil, Nat.reduceAdd, Nat.reduceLT, Nat.reduceLeDiff, Nat.le_refl, true_and, and_true, Nat.lt_add_one, fa_lit, nu_in, nI_clamp, pk_us, pk_un, ma_set_n, h36, h37, f7]
  refine o_inL (by omega) (fun a ha ea => ?_) (fun z => ?_)
  · simp (disch := omega) only [w157_0, w157_1, w157_2, w157_3, w157_6, w157_8, w157_9, w157_10, w157_11, w157_14, w157_17, w157_18, w157_19, w157_20, w157_23, w157_25, w157_26, w157_27, w157_28, w157_31, w157_35, w157_38, w157_39, w157_40, w157_43, w157_44, w157_47, w157_48, w157_49, w157_52, w157_54, w157_55, w157_58, w157_60, w157_61, w157_62, w157_63, w157_64, w157_65, w157_68, w157_70, w157_71, w157_72, w157_73, w157_74, ma_kV_ap, ma_kC_s, ma_kC_n, ma_kH_ap, ma_gf_ap, ma_pf_ap, ma_cv_ap, ma_nt_0, ma_nt_s, ma_if_t, ma_if_f, ma_set_s, ma_set_ss, ma_set_2, ma_cat_n, ma_cat_i, ma_cat_l, ma_cat_r, ma_clr_n, ma_clr_i, ma_clr_l, ma_clr_r, ma_clr_0, ma_rf_s, ma_rf_n, ma_ial_ap, ma_ias_ap, List.set_cons_zero, List.set_cons_succ, List.length_cons, List.length_nil, Nat.reduceAdd, Nat.reduceLT, Nat.reduceLeDiff, Nat.le_refl, true_and, and_true, Nat.lt_add_one, fa_lit, nI_eq, Nat.reduceEqDiff, nu_in, nI_clamp, pk_us, pk_un, ma_set_n, h36, h37, f8]
    refine o_inL (by omega) (fun b hb eb => absurd ⟨⟨a, ha, ea⟩, b, hb, eb⟩ hn) (fun z => ?_)
    simp (disch := omega) only [w157_0, w157_1, w157_2, w157_3, w157_6, w157_8, w157_9, w157_10, w157_11, w157_14, w157_17, w157_18, w157_19, w157_20, w157_23, w157_25, w157_26, w157_27, w157_28, w157_31, w157_35, w157_38, w157_39, w157_40, w157_43, w157_44, w157_47, w157_48, w157_49, w157_52, w157_54, w157_55, w157_58, w157_60, w157_61, w157_62, w157_63, w157_64, w157_65, w157_68, w157_70, w157_71, w157_72, w157_73, w157_74, ma_kV_ap, ma_kC_s, ma_kC_n, ma_kH_ap, ma_gf_ap, ma_pf_ap, ma_cv_ap, ma_nt_0, ma_nt_s, ma_if_t, ma_if_f, ma_set_s, ma_set_ss, ma_set_2, ma_cat_n, ma_cat_i, ma_cat_l, ma_cat_r, ma_clr_n, ma_clr_i, ma_clr_l, ma_clr_r, ma_clr_0, ma_rf_s, ma_rf_n, ma_ial_ap, ma_ias_ap, List.set_cons_zero, List.set_cons_succ, List.length_cons, List.length_nil, Nat.reduceAdd, Nat.reduceLT, Nat.reduceLeDiff, Nat.le_refl, true_and, and_true, Nat.lt_add_one, fa_lit, nI_add, pk_mul, pk_sub, pk_div, ma_rem_n, nI_ltI, nI_leI, nI_eq, Nat.reduceEqDiff, Nat.reduceMul, Nat.reduceSub, not_false_eq_true, not_true_eq_false, or_true, true_or, or_false, false_or, eq_self, Nat.zero_add, Nat.add_zero]
    exact bad
  · simp (disch := omega) only [w157_0, w157_1, w157_2, w157_3, w157_6, w157_8, w157_9, w157_10, w157_11, w157_14, w157_17, w157_18, w157_19, w157_20, w157_23, w157_25, w157_26, w157_27, w157_28, w157_31, w157_35, w157_38, w157_39, w157_40, w157_43, w157_44, w157_47, w157_48, w157_49, w157_52, w157_54, w157_55, w157_58, w157_60, w157_61, w157_62, w157_63, w157_64, w157_65, w157_68, w157_70, w157_71, w157_72, w157_73, w157_74, ma_kV_ap, ma_kC_s, ma_kC_n, ma_kH_ap, ma_gf_ap, ma_pf_ap, ma_cv_ap, ma_nt_0, ma_nt_s, ma_if_t, ma_if_f, ma_set_s, ma_set_ss, ma_set_2, ma_cat_n, ma_cat_i, ma_cat_l, ma_cat_r, ma_clr_n, ma_clr_i, ma_clr_l, ma_clr_r, ma_clr_0, ma_rf_s, ma_rf_n, ma_ial_ap, ma_ias_ap, List.set_cons_zero, List.set_cons_succ, List.length_cons, List.length_nil, Nat.reduceAdd, Nat.reduceLT, Nat.reduceLeDiff, Nat.le_refl, true_and, and_true, Nat.lt_add_one, fa_lit, nI_add, pk_mul, pk_sub, pk_div, ma_rem_n, nI_ltI, nI_leI, nI_eq, Nat.reduceEqDiff, Nat.reduceMul, Nat.reduceSub, not_false_eq_true, not_true_eq_false, or_true, true_or, or_false, false_or, eq_self, Nat.zero_add, Nat.add_zero]
    exact bad
theorem m_exchanges {a b : Nat} (ha : a < (ghand g.1 0).length) (hb : b < (ghand g.1 1).length) (hO : sOK g i0 i1 tx) (hP : oP H g i0 i1 tx up lo c0 c1 c2) (h : ∀ H', oP H' (gexch g.1 a b, gpush g.2.1 g.1, g.2.2) i0 i1 tx up lo c0 c1 c2 → fr H H' 36 46 → Q (some (.int (nI (10 * (ghand g.1 1).getD b 0 + (ghand g.1 0).getD a 0)))) H') : ma_MW (d + 3) 157 [.ref 36, .int (nI a), .int (nI b)] H Q := by
  obtain ⟨po, ta, tk, nu, wo, it, h36⟩ := oP_cl hP
  obtain ⟨f, h37, gn⟩ := hP.2.1
  have b0 := (ghand_gk hO.1.1 0).1
  have b1 := (ghand_gk hO.1.1 1).1
  have f7 := gM_7 gn.1 (p := 0) (by decide)
  have f8 := gM_7 gn.1 (p := 1) (by decide)
  rw [show 7 + 0 = 7 from rfl] at f7
  rw [show 7 + 1 = 8 from rfl] at f8
  rw [e157]
  simp (disch := omega) only [w157_0, w157_1, w157_2, w157_3, w157_6, w157_8, w157_9, w157_10, w157_11, w157_14, w157_17, w157_18, w157_19, w157_20, w157_23, w157_25, w157_26, w157_27, w157_28, w157_31, w157_34, w157_35, w157_38, w157_39, w157_40, w157_43, w157_44, w157_47, w157_48, w157_49, w157_52, w157_54, w157_55, w157_58, w157_60, w157_61, w157_62, w157_63, w157_64, w157_65, w157_68, w157_70, w157_71, w157_72, w157_73, w157_74, ma_kV_ap, ma_kC_s, ma_kC_n, ma_kH_ap, ma_gf_ap, ma_pf_ap, ma_cv_ap, ma_nt_0, ma_nt_s, ma_if_t, ma_if_f, ma_set_s, ma_set_ss, ma_set_2, ma_cat_n, ma_cat_i, ma_cat_l, ma_cat_r, ma_clr_n, ma_clr_i, ma_clr_l, ma_clr_r, ma_clr_0, ma_rf_s, ma_rf_n, ma_ial_ap, ma_ias_ap, List.set_cons_zero, List.set_cons_succ, List.length_cons, List.length_nil, Nat.reduceAdd, Nat.reduceLT, Nat.reduceLeDiff, Nat.le_refl, true_and, and_true, Nat.lt_add_one, fa_lit, nI_add, pk_mul, pk_sub, pk_div, ma_rem_n, nI_ltI, nI_leI, nI_eq, Nat.reduceEqDiff, Nat.reduceMul, Nat.reduceSub, not_false_eq_true, not_true_eq_false, or_true, true_or, or_false, false_or, eq_self, Nat.zero_add, Nat.add_zero, nu_in, nI_clamp, pk_us, pk_un, ma_set_n, h36, h37, f7]
  refine o_inT (by omega) (by omega) ?_
  simp (disch := omega) only [w157_0, w157_1, w157_2, w157_3, w157_6, w157_8, w157_9, w157_10, w157_11, w157_14, w157_17, w157_18, w157_19, w157_20, w157_23, w157_25, w157_26, w157_27, w157_28, w157_31, w157_34, w157_35, w157_38, w157_39, w157_40, w157_43, w157_44, w157_47, w157_48, w157_49, w157_52, w157_54, w157_55, w157_58, w157_60, w157_61, w157_62, w157_63, w157_64, w157_65, w157_68, w157_70, w157_71, w157_72, w157_73, w157_74, ma_kV_ap, ma_kC_s, ma_kC_n, ma_kH_ap, ma_gf_ap, ma_pf_ap, ma_cv_ap, ma_nt_0, ma_nt_s, ma_if_t, ma_if_f, ma_set_s, ma_set_ss, ma_set_2, ma_cat_n, ma_cat_i, ma_cat_l, ma_cat_r, ma_clr_n, ma_clr_i, ma_clr_l, ma_clr_r, ma_clr_0, ma_rf_s, ma_rf_n, ma_ial_ap, ma_ias_ap, List.set_cons_zero, List.set_cons_succ, List.length_cons, List.length_nil, Nat.reduceAdd, Nat.reduceLT, Nat.reduceLeDiff, Nat.le_refl, true_and, and_true, Nat.lt_add_one, fa_lit, nI_add, pk_mul, pk_sub, pk_div, ma_rem_n, nI_ltI, nI_leI, nI_eq, Nat.reduceEqDiff, Nat.reduceMul, Nat.reduceSub, not_false_eq_true, not_true_eq_false, or_true, true_or, or_false, false_or, eq_self, Nat.zero_add, Nat.add_zero, nu_in, nI_clamp, pk_us, pk_un, ma_set_n, h36, h37, f8]
  refine o_inT (by omega) (by omega) ?_
  simp (disch := omega) only [w157_0, w157_1, w157_2, w157_3, w157_6, w157_8, w157_9, w157_10, w157_11, w157_14, w157_17, w157_18, w157_19, w157_20, w157_23, w157_25, w157_26, w157_27, w157_28, w157_31, w157_34, w157_35, w157_38, w157_39, w157_40, w157_43, w157_44, w157_47, w157_48, w157_49, w157_52, w157_54, w157_55, w157_58, w157_60, w157_61, w157_62, w157_63, w157_64, w157_65, w157_68, w157_70, w157_71, w157_72, w157_73, w157_74, ma_kV_ap, ma_kC_s, ma_kC_n, ma_kH_ap, ma_gf_ap, ma_pf_ap, ma_cv_ap, ma_nt_0, ma_nt_s, ma_if_t, ma_if_f, ma_set_s, ma_set_ss, ma_set_2, ma_cat_n, ma_cat_i, ma_cat_l, ma_cat_r, ma_clr_n, ma_clr_i, ma_clr_l, ma_clr_r, ma_clr_0, ma_rf_s, ma_rf_n, ma_ial_ap, ma_ias_ap, List.set_cons_zero, List.set_cons_succ, List.length_cons, List.length_nil, Nat.reduceAdd, Nat.reduceLT, Nat.reduceLeDiff, Nat.le_refl, true_and, and_true, Nat.lt_add_one, fa_lit, nI_add, pk_mul, pk_sub, pk_div, ma_rem_n, nI_ltI, nI_leI, nI_eq, Nat.reduceEqDiff, Nat.reduceMul, Nat.reduceSub, not_false_eq_true, not_true_eq_false, or_true, true_or, or_false, false_or, eq_self, Nat.zero_add, Nat.add_zero, h36]
  refine o_notes hO.1 hP (fun H1 p1 f1 => ?_)
  obtain ⟨po, ta, tk, nu, wo, it, h36⟩ := oP_cl p1
  obtain ⟨f', h37, gn'⟩ := p1.2.1
  simp (disch := omega) only [w157_0, w157_1, w157_2, w157_3, w157_6, w157_8, w157_9, w157_10, w157_11, w157_14, w157_17, w157_18, w157_19, w157_20, w157_23, w157_25, w157_26, w157_27, w157_28, w157_31, w157_34, w157_35, w157_38, w157_39, w157_40, w157_43, w157_44, w157_47, w157_48, w157_49, w157_52, w157_54, w157_55, w157_58, w157_60, w157_61, w157_62, w157_63, w157_64, w157_65, w157_68, w157_70, w157_71, w157_72, w157_73, w157_74, ma_kV_ap, ma_kC_s, ma_kC_n, ma_kH_ap, ma_gf_ap, ma_pf_ap, ma_cv_ap, ma_nt_0, ma_nt_s, ma_if_t, ma_if_f, ma_set_s, ma_set_ss, ma_set_2, ma_cat_n, ma_cat_i, ma_cat_l, ma_cat_r, ma_clr_n, ma_clr_i, ma_clr_l, ma_clr_r, ma_clr_0, ma_rf_s, ma_rf_n, ma_ial_ap, ma_ias_ap, List.set_cons_zero, List.set_cons_succ, List.length_cons, List.length_nil, Nat.reduceAdd, Nat.reduceLT, Nat.reduceLeDiff, Nat.le_refl, true_and, and_true, Nat.lt_add_one, h36]
  refine o_change (t := g.1) hO.1.1 ha hb (by decide) (by decide) (by decide) h37 gn'.1 (fun f2 hM hfr => ?_)
  obtain ⟨e1, e2, e3, e4⟩ := exch_0 (t := g.1) ha hb
  have v0 := gM_10 hM (p := 0) (k := a) (by decide) (by omega)
  have v1 := gM_10 hM (p := 1) (k := b) (by decide) (by omega)
  rw [show 10 + 16 * 0 + a = 10 + a by omega, e2] at v0
  rw [show 10 + 16 * 1 + b = 26 + b by omega, e4] at v1
  simp (disch := omega) only [w157_0, w157_1, w157_2, w157_3, w157_6, w157_8, w157_9, w157_10, w157_11, w157_14, w157_17, w157_18, w157_19, w157_20, w157_23, w157_25, w157_26, w157_27, w157_28, w157_31, w157_34, w157_35, w157_38, w157_39, w157_40, w157_43, w157_44, w157_47, w157_48, w157_49, w157_52, w157_54, w157_55, w157_58, w157_60, w157_61, w157_62, w157_63, w157_64, w157_65, w157_68, w157_70, w157_71, w157_72, w157_73, w157_74, ma_kV_ap, ma_kC_s, ma_kC_n, ma_kH_ap, ma_gf_ap, ma_pf_ap, ma_cv_ap, ma_nt_0, ma_nt_s, ma_if_t, ma_if_f, ma_set_s, ma_set_ss, ma_set_2, ma_cat_n, ma_cat_i, ma_cat_l, ma_cat_r, ma_clr_n, ma_clr_i, ma_clr_l, ma_clr_r, ma_clr_0, ma_rf_s, ma_rf_n, ma_ial_ap, ma_ias_ap, List.set_cons_zero, List.set_cons_succ, List.length_cons, List.length_nil, Nat.reduceAdd, Nat.reduceLT, Nat.reduceLeDiff, Nat.le_refl, true_and, and_true, Nat.lt_add_one, fa_lit, nI_add, pk_mul, pk_sub, pk_div, ma_rem_n, nI_ltI, nI_leI, nI_eq, Nat.reduceEqDiff, Nat.reduceMul, Nat.reduceSub, not_false_eq_true, not_true_eq_false, or_true, true_or, or_false, false_or, eq_self, Nat.zero_add, Nat.add_zero, nu_in, nI_clamp, pk_us, pk_un, ma_set_n, h36, v0, v1]
  have hk01 : f2 0 = f' 0 ∧ f2 1 = f' 1 := by
    have q1 := gn'.1
    generalize g.1 = t0 at hM q1
    obtain ⟨kz, ko, hz, ho, pl, tu, db, mv, tz, to⟩ := t0
    exact ⟨hM.1.trans q1.1.symm, hM.2.1.trans q1.2.1.symm⟩
  exact h _ (oP_now p1 ⟨f2, ma_set_s _ _ _, gN_tab (g := (g.1, gpush g.2.1 g.1, g.2.2)) (gOK_push hO.1) gn' hM hk01.1 hk01.2 hfr⟩ (fr_set _ _ (by decide) (by decide))) (fr_set' f1 (by decide) (by decide))
theorem m_undo_n (hne : g.2.1 = []) (hP : oP H g i0 i1 tx up lo c0 c1 c2) (h : ∀ H', oP H' g i0 i1 tx up lo c0 (c1 + nI 1) c2 → fr H H' 36 46 → Q (some (.int (-nI 3))) H') : ma_MW (d + 3) 158 [.ref 36] H Q := by
  obtain ⟨po, ta, tk, nu, wo, it, h36⟩ := oP_cl hP
  obtain ⟨f, h37, gn⟩ := hP.2.1
  have f96 := gn.2.2.2.1
  rw [hne] at f96
  have f96 : f 96 = nI 0 := f96
  rw [e158]
  simp (disch := omega) only [w158_0, w158_1, w158_4, w158_6, w158_7, w158_10, w158_11, w158_14, w158_15, w158_16, w158_19, w158_21, w158_22, w158_23, w158_24, w158_25, w158_26, w158_27, w158_30, w158_32, w158_34, w158_35, w158_38, w158_40, w158_41, w158_42, w158_43, w158_44, w158_47, w158_48, w158_50, w158_53, w158_54, w158_57, w158_58, w158_59, ma_kV_ap, ma_kC_s, ma_kC_n, ma_kH_ap, ma_gf_ap, ma_pf_ap, ma_cv_ap, ma_nt_0, ma_nt_s, ma_if_t, ma_if_f, ma_set_s, ma_set_ss, ma_set_2, ma_cat_n, ma_cat_i, ma_cat_l, ma_cat_r, ma_clr_n, ma_clr_i, ma_clr_l, ma_clr_r, ma_clr_0, ma_rf_s, ma_rf_n, ma_ial_ap, ma_ias_ap, List.set_cons_zero, List.set_cons_succ, List.length_cons, List.length_nil, Nat.reduceAdd, Nat.reduceLT, Nat.reduceLeDiff, Nat.le_refl, true_and, and_true, Nat.lt_add_one, fa_lit, nI_add, pk_mul, pk_sub, pk_div, ma_rem_n, nI_ltI, nI_leI, nI_eq, Nat.reduceEqDiff, Nat.reduceMul, Nat.reduceSub, not_false_eq_true, not_true_eq_false, or_true, true_or, or_false, false_or, eq_self, Nat.zero_add, Nat.add_zero, nu_in, nI_clamp, pk_us, pk_un, ma_set_n, h36, h37, f96]
  refine o_no hP (fun H' p f => ?_)
  simp (disch := omega) only [w158_0, w158_1, w158_4, w158_6, w158_7, w158_10, w158_11, w158_14, w158_15, w158_16, w158_19, w158_21, w158_22, w158_23, w158_24, w158_25, w158_26, w158_27, w158_30, w158_32, w158_34, w158_35, w158_38, w158_40, w158_41, w158_42, w158_43, w158_44, w158_47, w158_48, w158_50, w158_53, w158_54, w158_57, w158_58, w158_59, ma_kV_ap, ma_kC_s, ma_kC_n, ma_kH_ap, ma_gf_ap, ma_pf_ap, ma_cv_ap, ma_nt_0, ma_nt_s, ma_if_t, ma_if_f, ma_set_s, ma_set_ss, ma_set_2, ma_cat_n, ma_cat_i, ma_cat_l, ma_cat_r, ma_clr_n, ma_clr_i, ma_clr_l, ma_clr_r, ma_clr_0, ma_rf_s, ma_rf_n, ma_ial_ap, ma_ias_ap, List.set_cons_zero, List.set_cons_succ, List.length_cons, List.length_nil, Nat.reduceAdd, Nat.reduceLT, Nat.reduceLeDiff, Nat.le_refl, true_and, and_true, Nat.lt_add_one]
  exact h H' p f
theorem m_undo (hne : g.2.1 ≠ []) (hO : sOK g i0 i1 tx) (hP : oP H g i0 i1 tx up lo c0 c1 c2) (h : ∀ H', oP H' (g.2.1.getLast hne, g.2.1.dropLast, g.2.2) i0 i1 tx up lo c0 c1 c2 → fr H H' 36 46 → Q (some (.int (nI (gmv (g.2.1.getLast hne))))) H') : ma_MW (d + 3) 158 [.ref 36] H Q := by
  obtain ⟨po, ta, tk, nu, wo, it, h36⟩ := oP_cl hP
  obtain ⟨f, h37, gn⟩ := hP.2.1
  obtain ⟨o1, o2, o3, o4, o5, o6⟩ := hO.1
  have h0 : 0 < g.2.1.length := List.length_pos_iff.mpr hne
  have f96 := gn.2.2.2.1
  have hz : (g.2.1.length = 0) = False := eq_false (by omega)
  rw [e158]
  simp (disch := omega) only [w158_0, w158_1, w158_4, w158_6, w158_7, w158_10, w158_11, w158_14, w158_15, w158_16, w158_19, w158_21, w158_22, w158_23, w158_24, w158_25, w158_26, w158_27, w158_30, w158_32, w158_34, w158_35, w158_38, w158_40, w158_41, w158_42, w158_43, w158_44, w158_47, w158_48, w158_50, w158_53, w158_54, w158_57, w158_58, w158_59, ma_kV_ap, ma_kC_s, ma_kC_n, ma_kH_ap, ma_gf_ap, ma_pf_ap, ma_cv_ap, ma_nt_0, ma_nt_s, ma_if_t, ma_if_f, ma_set_s, ma_set_ss, ma_set_2, ma_cat_n, ma_cat_i, ma_cat_l, ma_cat_r, ma_clr_n, ma_clr_i, ma_clr_l, ma_clr_r, ma_clr_0, ma_rf_s, ma_rf_n, ma_ial_ap, ma_ias_ap, List.set_cons_zero, List.set_cons_succ, List.length_cons, List.length_nil, Nat.reduceAdd, Nat.reduceLT, Nat.reduceLeDiff, Nat.le_refl, true_and, and_true, Nat.lt_add_one, fa_lit, nI_add, pk_mul, pk_sub, pk_div, ma_rem_n, nI_ltI, nI_leI, nI_eq, Nat.reduceEqDiff, Nat.reduceMul, Nat.reduceSub, not_false_eq_true, not_true_eq_false, or_true, true_or, or_false, false_or, eq_self, Nat.zero_add, Nat.add_zero, nu_in, nI_clamp, pk_us, pk_un, ma_set_n, h36, h37, f96, hz]
  refine o_bring1 (M := 545) (g := upd f 96 (nI (g.2.1.length - 1))) (by decide) (by decide) (by omega) (by omega) (Or.inl (by omega)) (ma_set_s _ _ _) ?_
  obtain ⟨p1, p2⟩ := gHi_pop o3 hne (fun t ht => (o4 t ht).1) gn.2.2.2
  have fo : ∀ x, 58 ≤ x → x < 96 → va_cpy (upd f 96 (nI (g.2.1.length - 1))) (upd f 96 (nI (g.2.1.length - 1))) (97 + 56 * (g.2.1.length - 1)) 2 56 x = f x := fun x h1 h2 => by rw [pk_cpy_out (by omega), pk_un (by omega)]
  generalize va_cpy (upd f 96 (nI (g.2.1.length - 1))) (upd f 96 (nI (g.2.1.length - 1))) (97 + 56 * (g.2.1.length - 1)) 2 56 = f2 at p1 p2 fo ⊢
  have f4 := gM_mv p2
  simp (disch := omega) only [w158_0, w158_1, w158_4, w158_6, w158_7, w158_10, w158_11, w158_14, w158_15, w158_16, w158_19, w158_21, w158_22, w158_23, w158_24, w158_25, w158_26, w158_27, w158_30, w158_32, w158_34, w158_35, w158_38, w158_40, w158_41, w158_42, w158_43, w158_44, w158_47, w158_48, w158_50, w158_53, w158_54, w158_57, w158_58, w158_59, ma_kV_ap, ma_kC_s, ma_kC_n, ma_kH_ap, ma_gf_ap, ma_pf_ap, ma_cv_ap, ma_nt_0, ma_nt_s, ma_if_t, ma_if_f, ma_set_s, ma_set_ss, ma_set_2, ma_cat_n, ma_cat_i, ma_cat_l, ma_cat_r, ma_clr_n, ma_clr_i, ma_clr_l, ma_clr_r, ma_clr_0, ma_rf_s, ma_rf_n, ma_ial_ap, ma_ias_ap, List.set_cons_zero, List.set_cons_succ, List.length_cons, List.length_nil, Nat.reduceAdd, Nat.reduceLT, Nat.reduceLeDiff, Nat.le_refl, true_and, and_true, Nat.lt_add_one, fa_lit, nI_add, pk_mul, pk_sub, pk_div, ma_rem_n, nI_ltI, nI_leI, nI_eq, Nat.reduceEqDiff, Nat.reduceMul, Nat.reduceSub, not_false_eq_true, not_true_eq_false, or_true, true_or, or_false, false_or, eq_self, Nat.zero_add, Nat.add_zero, nu_in, nI_clamp, pk_us, pk_un, ma_set_n, h36, f4]
  exact h _ (oP_now hP ⟨_, ma_set_s _ _ _, ⟨p2, gNo_cong o5.1 gn.2.1 (fun x h1 h2 => fo x h1 (by omega)), gMa_cong o6.1 gn.2.2.1 (fun x h1 h2 => fo x (by omega) h2), p1⟩⟩ (fr_set _ _ (by decide) (by decide))) (fr_set _ _ (by decide) (by decide))
theorem m_card_b {p x : Int32} (hn : ∀ a q, a < 3 → p = nI a → q < (ghand g.1 a).length → x ≠ nI q) (hO : sOK g i0 i1 tx) (hP : oP H g i0 i1 tx up lo c0 c1 c2) (h : ∀ H', oP H' g i0 i1 tx up lo (c0 + nI 1) c1 c2 → fr H H' 36 46 → Q (some (.int (-nI 2))) H') : ma_MW (d + 3) 159 [.ref 36, .int p, .int x] H Q := by
  obtain ⟨po, ta, tk, nu, wo, it, h36⟩ := oP_cl hP
  obtain ⟨f, h37, gn⟩ := hP.2.1
  have bad : ma_W (d + 2) 159 Q 45 [some (.ref 36), some (.int p), some (.int x)] [] H 0 0 := by
    simp (disch := omega) only [w159_0, w159_1, w159_2, w159_3, w159_6, w159_9, w159_10, w159_11, w159_12, w159_15, w159_17, w159_18, w159_19, w159_20, w159_21, w159_22, w159_25, w159_28, w159_29, w159_32, w159_34, w159_36, w159_37, w159_38, w159_39, w159_40, w159_41, w159_42, w159_45, w159_46, w159_49, ma_kV_ap, ma_kC_s, ma_kC_n, ma_kH_ap, ma_gf_ap, ma_pf_ap, ma_cv_ap, ma_nt_0, ma_nt_s, ma_if_t, ma_if_f, ma_set_s, ma_set_ss, ma_set_2, ma_cat_n, ma_cat_i, ma_cat_l, ma_cat_r, ma_clr_n, ma_clr_i, ma_clr_l, ma_clr_r, ma_clr_0, ma_rf_s, ma_rf_n, ma_ial_ap, ma_ias_ap, List.set_cons_zero, List.set_cons_succ, List.length_cons, List.length_nil, Nat.reduceAdd, Nat.reduceLT, Nat.reduceLeDiff, Nat.le_refl, true_and, and_true, Nat.lt_add_one, h36]
    refine o_bad hP (fun H' p f => ?_)
    simp (disch := omega) only [w159_0, w159_1, w159_2, w159_3, w159_6, w159_9, w159_10, w159_11, w159_12, w159_15, w159_17, w159_18, w159_19, w159_20, w159_21, w159_22, w159_25, w159_28, w159_29, w159_32, w159_34, w159_36, w159_37, w159_38, w159_39, w159_40, w159_41, w159_42, w159_45, w159_46, w159_49, ma_kV_ap, ma_kC_s, ma_kC_n, ma_kH_ap, ma_gf_ap, ma_pf_ap, ma_cv_ap, ma_nt_0, ma_nt_s, ma_if_t, ma_if_f, ma_set_s, ma_set_ss, ma_set_2, ma_cat_n, ma_cat_i, ma_cat_l, ma_cat_r, ma_clr_n, ma_clr_i, ma_clr_l, ma_clr_r, ma_clr_0, ma_rf_s, ma_rf_n, ma_ial_ap, ma_ias_ap, List.set_cons_zero, List.set_cons_succ, List.length_cons, List.length_nil, Nat.reduceAdd, Nat.reduceLT, Nat.reduceLeDiff, Nat.le_refl, true_and, and_true, Nat.lt_add_one]
    exact h H' p f
  rw [e159]
  simp (disch := omega) only [w159_0, w159_1, w159_2, w159_3, w159_6, w159_9, w159_10, w159_11, w159_12, w159_15, w159_17, w159_18, w159_19, w159_20, w159_21, w159_22, w159_25, w159_28, w159_29, w159_32, w159_34, w159_36, w159_37, w159_38, w159_39, w159_40, w159_41, w159_42, w159_46, w159_49, ma_kV_ap, ma_kC_s, ma_kC_n, ma_kH_ap, ma_gf_ap, ma_pf_ap, ma_cv_ap, ma_nt_0, ma_nt_s, ma_if_t, ma_if_f, ma_set_s, ma_set_ss, ma_set_2, ma_cat_n, ma_cat_i, ma_cat_l, ma_cat_r, ma_clr_n, ma_clr_i, ma_clr_l, ma_clr_r, ma_clr_0, ma_rf_s, ma_rf_n, ma_ial_ap, ma_ias_ap, List.set_cons_zero, List.set_cons_succ, List.length_cons, List.length_nil, Nat.reduceAdd, Nat.reduceLT, Nat.reduceLeDiff, Nat.le_refl, true_and, and_true, Nat.lt_add_one, fa_lit]
  refine o_inB (fun w => ?_) (fun w => ?_)
  · obtain ⟨a, _, a2, rfl⟩ := inR_of (by decide) w (by decide)
    have bl := (ghand_gk hO.1.1 a).1
    have f7 := gM_7 gn.1 (p := a) (by omega)
    simp (disch := omega) only [w159_0, w159_1, w159_2, w159_3, w159_6, w159_9, w159_10, w159_11, w159_12, w159_15, w159_17, w159_18, w159_19, w159_20, w159_21, w159_22, w159_25, w159_28, w159_29, w159_32, w159_34, w159_36, w159_37, w159_38, w159_39, w159_40, w159_41, w159_42, w159_46, w159_49, ma_kV_ap, ma_kC_s, ma_kC_n, ma_kH_ap, ma_gf_ap, ma_pf_ap, ma_cv_ap, ma_nt_0, ma_nt_s, ma_if_t, ma_if_f, ma_set_s, ma_set_ss, ma_set_2, ma_cat_n, ma_cat_i, ma_cat_l, ma_cat_r, ma_clr_n, ma_clr_i, ma_clr_l, ma_clr_r, ma_clr_0, ma_rf_s, ma_rf_n, ma_ial_ap, ma_ias_ap, List.set_cons_zero, List.set_cons_succ, List.length_cons, List.length_nil, Nat.reduceAdd, Nat.reduceLT, Nat.reduceLeDiff, Nat.le_refl, true_and, and_true, Nat.lt_add_one, fa_lit, nI_eq, Nat.reduceEqDiff, nI_add, nu_in, nI_clamp, pk_us, pk_un, ma_set_n, h36, h37, f7]
    refine o_inL (by omega) (fun q hq eq' => absurd eq' (hn a q (by omega) rfl hq)) (fun z => ?_)
    simp (disch := omega) only [w159_0, w159_1, w159_2, w159_3, w159_6, w159_9, w159_10, w159_11, w159_12, w159_15, w159_17, w159_18, w159_19, w159_20, w159_21, w159_22, w159_25, w159_28, w159_29, w159_32, w159_34, w159_36, w159_37, w159_38, w159_39, w159_40, w159_41, w159_42, w159_46, w159_49, ma_kV_ap, ma_kC_s, ma_kC_n, ma_kH_ap, ma_gf_ap, ma_pf_ap, ma_cv_ap, ma_nt_0, ma_nt_s, ma_if_t, ma_if_f, ma_set_s, ma_set_ss, ma_set_2, ma_cat_n, ma_cat_i, ma_cat_l, ma_cat_r, ma_clr_n, ma_clr_i, ma_clr_l, ma_clr_r, ma_clr_0, ma_rf_s, ma_rf_n, ma_ial_ap, ma_ias_ap, List.set_cons_zero, List.set_cons_succ, List.length_cons, List.length_nil, Nat.reduceAdd, Nat.reduceLT, Nat.reduceLeDiff, Nat.le_refl, true_and, and_true, Nat.lt_add_one, fa_lit, nI_add, pk_mul, pk_sub, pk_div, ma_rem_n, nI_ltI, nI_leI, nI_eq, Nat.reduceEqDiff, Nat.reduceMul, Nat.reduceSub, not_false_eq_true, not_true_eq_false, or_true, true_or, or_false, false_or, eq_self, Nat.zero_add, Nat.add_zero]
    exact bad
  · simp (disch := omega) only [w159_0, w159_1, w159_2, w159_3, w159_6, w159_9, w159_10, w159_11, w159_12, w159_15, w159_17, w159_18, w159_19, w159_20, w159_21, w159_22, w159_25, w159_28, w159_29, w159_32, w159_34, w159_36, w159_37, w159_38, w159_39, w159_40, w159_41, w159_42, w159_46, w159_49, ma_kV_ap, ma_kC_s, ma_kC_n, ma_kH_ap, ma_gf_ap, ma_pf_ap, ma_cv_ap, ma_nt_0, ma_nt_s, ma_if_t, ma_if_f, ma_set_s, ma_set_ss, ma_set_2, ma_cat_n, ma_cat_i, ma_cat_l, ma_cat_r, ma_clr_n, ma_clr_i, ma_clr_l, ma_clr_r, ma_clr_0, ma_rf_s, ma_rf_n, ma_ial_ap, ma_ias_ap, List.set_cons_zero, List.set_cons_succ, List.length_cons, List.length_nil, Nat.reduceAdd, Nat.reduceLT, Nat.reduceLeDiff, Nat.le_refl, true_and, and_true, Nat.lt_add_one, fa_lit, nI_add, pk_mul, pk_sub, pk_div, ma_rem_n, nI_ltI, nI_leI, nI_eq, Nat.reduceEqDiff, Nat.reduceMul, Nat.reduceSub, not_false_eq_true, not_true_eq_false, or_true, true_or, or_false, false_or, eq_self, Nat.zero_add, Nat.add_zero]
    exact bad
theorem m_card {a q : Nat} (ha : a < 3) (hq : q < (ghand g.1 a).length) (hO : sOK g i0 i1 tx) (hP : oP H g i0 i1 tx up lo c0 c1 c2) (h : Q (some (.int (nI ((ghand g.1 a).getD q 0)))) H) : ma_MW (d + 3) 159 [.ref 36, .int (nI a), .int (nI q)] H Q := by
  obtain ⟨po, ta, tk, nu, wo, it, h36⟩ := oP_cl hP
  obtain ⟨f, h37, gn⟩ := hP.2.1
  have bl := (ghand_gk hO.1.1 a).1
  have f7 := gM_7 gn.1 (p := a) ha
  have v := gM_10 gn.1 ha hq
  rw [e159]
  simp (disch := omega) only [w159_0, w159_1, w159_2, w159_3, w159_6, w159_9, w159_10, w159_11, w159_12, w159_15, w159_17, w159_18, w159_19, w159_20, w159_21, w159_22, w159_25, w159_28, w159_29, w159_32, w159_34, w159_36, w159_37, w159_38, w159_39, w159_40, w159_41, w159_42, w159_45, w159_46, w159_49, ma_kV_ap, ma_kC_s, ma_kC_n, ma_kH_ap, ma_gf_ap, ma_pf_ap, ma_cv_ap, ma_nt_0, ma_nt_s, ma_if_t, ma_if_f, ma_set_s, ma_set_ss, ma_set_2, ma_cat_n, ma_cat_i, ma_cat_l, ma_cat_r, ma_clr_n, ma_clr_i, ma_clr_l, ma_clr_r, ma_clr_0, ma_rf_s, ma_rf_n, ma_ial_ap, ma_ias_ap, List.set_cons_zero, List.set_cons_succ, List.length_cons, List.length_nil, Nat.reduceAdd, Nat.reduceLT, Nat.reduceLeDiff, Nat.le_refl, true_and, and_true, Nat.lt_add_one, fa_lit]
  refine o_inT (by omega) (by decide) ?_
  simp (disch := omega) only [w159_0, w159_1, w159_2, w159_3, w159_6, w159_9, w159_10, w159_11, w159_12, w159_15, w159_17, w159_18, w159_19, w159_20, w159_21, w159_22, w159_25, w159_28, w159_29, w159_32, w159_34, w159_36, w159_37, w159_38, w159_39, w159_40, w159_41, w159_42, w159_45, w159_46, w159_49, ma_kV_ap, ma_kC_s, ma_kC_n, ma_kH_ap, ma_gf_ap, ma_pf_ap, ma_cv_ap, ma_nt_0, ma_nt_s, ma_if_t, ma_if_f, ma_set_s, ma_set_ss, ma_set_2, ma_cat_n, ma_cat_i, ma_cat_l, ma_cat_r, ma_clr_n, ma_clr_i, ma_clr_l, ma_clr_r, ma_clr_0, ma_rf_s, ma_rf_n, ma_ial_ap, ma_ias_ap, List.set_cons_zero, List.set_cons_succ, List.length_cons, List.length_nil, Nat.reduceAdd, Nat.reduceLT, Nat.reduceLeDiff, Nat.le_refl, true_and, and_true, Nat.lt_add_one, fa_lit, nI_add, pk_mul, pk_sub, pk_div, ma_rem_n, nI_ltI, nI_leI, nI_eq, Nat.reduceEqDiff, Nat.reduceMul, Nat.reduceSub, not_false_eq_true, not_true_eq_false, or_true, true_or, or_false, false_or, eq_self, Nat.zero_add, Nat.add_zero, nu_in, nI_clamp, pk_us, pk_un, ma_set_n, h36, h37, f7]
  refine o_inT (by omega) (by omega) ?_
  simp (disch := omega) only [w159_0, w159_1, w159_2, w159_3, w159_6, w159_9, w159_10, w159_11, w159_12, w159_15, w159_17, w159_18, w159_19, w159_20, w159_21, w159_22, w159_25, w159_28, w159_29, w159_32, w159_34, w159_36, w159_37, w159_38, w159_39, w159_40, w159_41, w159_42, w159_45, w159_46, w159_49, ma_kV_ap, ma_kC_s, ma_kC_n, ma_kH_ap, ma_gf_ap, ma_pf_ap, ma_cv_ap, ma_nt_0, ma_nt_s, ma_if_t, ma_if_f, ma_set_s, ma_set_ss, ma_set_2, ma_cat_n, ma_cat_i, ma_cat_l, ma_cat_r, ma_clr_n, ma_clr_i, ma_clr_l, ma_clr_r, ma_clr_0, ma_rf_s, ma_rf_n, ma_ial_ap, ma_ias_ap, List.set_cons_zero, List.set_cons_succ, List.length_cons, List.length_nil, Nat.reduceAdd, Nat.reduceLT, Nat.reduceLeDiff, Nat.le_refl, true_and, and_true, Nat.lt_add_one, fa_lit, nI_add, pk_mul, pk_sub, pk_div, ma_rem_n, nI_ltI, nI_leI, nI_eq, Nat.reduceEqDiff, Nat.reduceMul, Nat.reduceSub, not_false_eq_true, not_true_eq_false, or_true, true_or, or_false, false_or, eq_self, Nat.zero_add, Nat.add_zero, nu_in, nI_clamp, pk_us, pk_un, ma_set_n, h36, h37, v]
  exact h
end OH

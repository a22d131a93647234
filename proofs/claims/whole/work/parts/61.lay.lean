/-! the reference: a game in a row of numbers -/
def gL (f : Nat → Int32) (b : Nat) (l : List Nat) : Prop := ∀ (k c : Nat), l[k]? = some c → f (b + k) = nI c
def gM (t : ga_T) (f : Nat → Int32) : Prop := match t with
  | (kz, ko, hz, ho, pl, tu, db, mv, tz, to) => f 0 = nI kz ∧ f 1 = nI ko ∧ f 2 = nI tu ∧ f 3 = nI db ∧ f 4 = nI mv ∧ f 5 = nI tz ∧ f 6 = nI to ∧ f 7 = nI hz.length ∧ f 8 = nI ho.length ∧ f 9 = nI pl.length ∧ gL f 10 hz ∧ gL f 26 ho ∧ gL f 42 pl
theorem gL_cong {f g : Nat → Int32} {b : Nat} {l : List Nat} (h : gL f b l) (hfg : ∀ x, b ≤ x → x < b + l.length → g x = f x) : gL g b l := fun k c hk => by
  have hl := (List.getElem?_eq_some_iff.mp hk).1
  rw [hfg _ (by omega) (by omega)]; exact h k c hk
theorem gL_upd {f : Nat → Int32} {b x : Nat} {v : Int32} {l : List Nat} (h : gL f b l) (hx : x < b ∨ b + l.length ≤ x) : gL (upd f x v) b l := gL_cong h (fun y h1 h2 => pk_un (by omega))
theorem gL_app {f : Nat → Int32} {b c : Nat} {l : List Nat} (h : gL f b l) (hc : f (b + l.length) = nI c) : gL f b (l ++ [c]) := fun k e hk => by
  rcases Nat.lt_or_ge k l.length with g | g
  · rw [List.getElem?_append_left g] at hk; exact h k e hk
  · rw [List.getElem?_append_right g] at hk
    have hz := (List.getElem?_eq_some_iff.mp hk).1
    have hk0 : k = l.length := by simp at hz; omega
    subst hk0
    rw [Nat.sub_self] at hk
    cases hk
    exact hc
theorem gL_nil {f : Nat → Int32} {b : Nat} : gL f b [] := fun k c hk => by simp at hk
def moC (up lo : Int64) (le po ta tk nu : Int32) (wo : Int64) (it : Int32) : ma_C := .inr (8, [.ref 37, .ref 38, .ref 39, .ref 40, .ref 41, .long up, .long lo, .int le, .ref 42, .int po, .int ta, .int tk, .int nu, .long wo, .int it, .ref 43, .ref 44, .ref 45])
section LA
variable {d s N : Nat} {H : ma_H} {Q : ma_P} {f u : Nat → Int32} {kz ko tu db mv tz to : Nat} {hz ho pl : List Nat} {up lo wo : Int64} {le po ta tk nu it : Int32}
theorem o_all (hN : N < 100000) (hN2 : 58 ≤ N) (hs : H.1 s = arI N f) (hM : gM (kz, ko, hz, ho, pl, tu, db, mv, tz, to) f) (h : Q (some (.int (nI (hz.length + ho.length + pl.length)))) H) : ma_MW (d + 1) 133 [.ref s] H Q := by
  obtain ⟨m0, m1, m2, m3, m4, m5, m6, m7, m8, m9, l0, l1, l2⟩ := hM
  rw [e133]
  simp (disch := omega) only [w133_0, w133_1, w133_3, w133_4, w133_5, w133_7, w133_8, w133_9, w133_10, w133_12, w133_13, w133_14, ma_kV_ap, ma_kC_s, ma_kC_n, ma_kH_ap, ma_gf_ap, ma_pf_ap, ma_cv_ap, ma_nt_0, ma_nt_s, ma_if_t, ma_if_f, ma_set_s, ma_set_ss, ma_set_2, ma_cat_n, ma_cat_i, ma_cat_l, ma_cat_r, ma_clr_n, ma_clr_i, ma_clr_l, ma_clr_r, ma_clr_0, ma_rf_s, ma_rf_n, ma_ial_ap, ma_ias_ap, List.set_cons_zero, List.set_cons_succ, List.length_cons, List.length_nil, Nat.reduceAdd, Nat.reduceLT, Nat.reduceLeDiff, Nat.le_refl, true_and, and_true, Nat.lt_add_one, fa_lit, nI_add, pk_mul, pk_sub, pk_div, ma_rem_n, nI_ltI, nI_leI, nI_eq, Nat.reduceEqDiff, Nat.reduceMul, Nat.reduceSub, not_false_eq_true, not_true_eq_false, or_true, true_or, or_false, false_or, eq_self, Nat.zero_add, Nat.add_zero, nu_in, nI_clamp, pk_us, pk_un, ma_set_n, hs, m7, m8, m9]
  exact h
theorem o_isDone (htu : tu < 2) (hN : N < 100000) (hN2 : 58 ≤ N) (h0 : hz.length < 100) (h1 : ho.length < 100) (hs : H.1 s = arI N f) (hM : gM (kz, ko, hz, ho, pl, tu, db, mv, tz, to) f) (h : Q (some (.int (nI (if (if tu = 0 then hz else ho) = [] then 1 else 0)))) H) : ma_MW (d + 1) 151 [.ref s] H Q := by
  obtain ⟨m0, m1, m2, m3, m4, m5, m6, m7, m8, m9, l0, l1, l2⟩ := hM
  rw [e151]
  have m78 : f (7 + tu) = nI (if tu = 0 then hz else ho).length := by
    rcases (show tu = 0 ∨ tu = 1 by omega) with rfl | rfl
    · exact m7
    · exact m8
  have hlen : (if tu = 0 then hz else ho).length < 100 := by split <;> assumption
  simp (disch := omega) only [w151_0, w151_1, w151_3, w151_4, w151_5, w151_6, w151_7, w151_8, w151_11, w151_12, w151_15, w151_16, ma_kV_ap, ma_kC_s, ma_kC_n, ma_kH_ap, ma_gf_ap, ma_pf_ap, ma_cv_ap, ma_nt_0, ma_nt_s, ma_if_t, ma_if_f, ma_set_s, ma_set_ss, ma_set_2, ma_cat_n, ma_cat_i, ma_cat_l, ma_cat_r, ma_clr_n, ma_clr_i, ma_clr_l, ma_clr_r, ma_clr_0, ma_rf_s, ma_rf_n, ma_ial_ap, ma_ias_ap, List.set_cons_zero, List.set_cons_succ, List.length_cons, List.length_nil, Nat.reduceAdd, Nat.reduceLT, Nat.reduceLeDiff, Nat.le_refl, true_and, and_true, Nat.lt_add_one, fa_lit, nI_add, pk_mul, pk_sub, pk_div, ma_rem_n, nI_ltI, nI_leI, nI_eq, Nat.reduceEqDiff, Nat.reduceMul, Nat.reduceSub, not_false_eq_true, not_true_eq_false, or_true, true_or, or_false, false_or, eq_self, Nat.zero_add, Nat.add_zero, nu_in, nI_clamp, pk_us, pk_un, ma_set_n, hs, m2, m78]
  refine ⟨fun c => ?_, fun c => ?_⟩
  · rw [if_pos (List.length_eq_zero_iff.mp c)] at h
    simp (disch := omega) only [w151_0, w151_1, w151_3, w151_4, w151_5, w151_6, w151_7, w151_8, w151_11, w151_12, w151_15, w151_16, ma_kV_ap, ma_kC_s, ma_kC_n, ma_kH_ap, ma_gf_ap, ma_pf_ap, ma_cv_ap, ma_nt_0, ma_nt_s, ma_if_t, ma_if_f, ma_set_s, ma_set_ss, ma_set_2, ma_cat_n, ma_cat_i, ma_cat_l, ma_cat_r, ma_clr_n, ma_clr_i, ma_clr_l, ma_clr_r, ma_clr_0, ma_rf_s, ma_rf_n, ma_ial_ap, ma_ias_ap, List.set_cons_zero, List.set_cons_succ, List.length_cons, List.length_nil, Nat.reduceAdd, Nat.reduceLT, Nat.reduceLeDiff, Nat.le_refl, true_and, and_true, Nat.lt_add_one, fa_lit, nI_add, pk_mul, pk_sub, pk_div, ma_rem_n, nI_ltI, nI_leI, nI_eq, Nat.reduceEqDiff, Nat.reduceMul, Nat.reduceSub, not_false_eq_true, not_true_eq_false, or_true, true_or, or_false, false_or, eq_self, Nat.zero_add, Nat.add_zero]
    exact h
  · rw [if_neg (fun e => c (by rw [e]; rfl))] at h
    simp (disch := omega) only [w151_0, w151_1, w151_3, w151_4, w151_5, w151_6, w151_7, w151_8, w151_11, w151_12, w151_15, w151_16, ma_kV_ap, ma_kC_s, ma_kC_n, ma_kH_ap, ma_gf_ap, ma_pf_ap, ma_cv_ap, ma_nt_0, ma_nt_s, ma_if_t, ma_if_f, ma_set_s, ma_set_ss, ma_set_2, ma_cat_n, ma_cat_i, ma_cat_l, ma_cat_r, ma_clr_n, ma_clr_i, ma_clr_l, ma_clr_r, ma_clr_0, ma_rf_s, ma_rf_n, ma_ial_ap, ma_ias_ap, List.set_cons_zero, List.set_cons_succ, List.length_cons, List.length_nil, Nat.reduceAdd, Nat.reduceLT, Nat.reduceLeDiff, Nat.le_refl, true_and, and_true, Nat.lt_add_one, fa_lit, nI_add, pk_mul, pk_sub, pk_div, ma_rem_n, nI_ltI, nI_leI, nI_eq, Nat.reduceEqDiff, Nat.reduceMul, Nat.reduceSub, not_false_eq_true, not_true_eq_false, or_true, true_or, or_false, false_or, eq_self, Nat.zero_add, Nat.add_zero]
    exact h
/-- a card comes behind hand p -/
theorem o_deal {p c : Nat} (hp : p < 2) (q0 : hz.length ≤ 16) (q1 : ho.length ≤ 16) (q2 : pl.length ≤ 16) (hlt : (if p = 0 then hz else ho).length < 16) (hN : N < 100000) (hN2 : 58 ≤ N) (hs4 : 4 ≤ s) (hs : H.1 s = arI N f) (hM : gM (kz, ko, hz, ho, pl, tu, db, mv, tz, to) f)
    (h : ∀ f', gM (kz, ko, if p = 0 then hz ++ [c] else hz, if p = 0 then ho else ho ++ [c], pl, tu, db, mv, tz, to) f' → (∀ x, 58 ≤ x → f' x = f x) → Q (some (.int (nI ((if p = 0 then hz else ho).length + 1)))) (ma_set H s (arI N f'))) : ma_MW (d + 1) 136 [.ref s, .int (nI p), .int (nI c)] H Q := by
  obtain ⟨m0, m1, m2, m3, m4, m5, m6, m7, m8, m9, l0, l1, l2⟩ := hM
  rw [e136]
  rcases (show p = 0 ∨ p = 1 by omega) with rfl | rfl
  · have hlt : hz.length < 16 := hlt
    simp (disch := omega) only [w136_0, w136_1, w136_3, w136_5, w136_6, w136_7, w136_8, w136_9, w136_11, w136_12, w136_13, w136_14, w136_15, w136_16, w136_17, w136_18, w136_20, w136_21, w136_22, w136_23, w136_24, w136_25, w136_26, w136_27, w136_28, w136_30, w136_31, w136_32, w136_33, ma_kV_ap, ma_kC_s, ma_kC_n, ma_kH_ap, ma_gf_ap, ma_pf_ap, ma_cv_ap, ma_nt_0, ma_nt_s, ma_if_t, ma_if_f, ma_set_s, ma_set_ss, ma_set_2, ma_cat_n, ma_cat_i, ma_cat_l, ma_cat_r, ma_clr_n, ma_clr_i, ma_clr_l, ma_clr_r, ma_clr_0, ma_rf_s, ma_rf_n, ma_ial_ap, ma_ias_ap, List.set_cons_zero, List.set_cons_succ, List.length_cons, List.length_nil, Nat.reduceAdd, Nat.reduceLT, Nat.reduceLeDiff, Nat.le_refl, true_and, and_true, Nat.lt_add_one, fa_lit, nI_add, pk_mul, pk_sub, pk_div, ma_rem_n, nI_ltI, nI_leI, nI_eq, Nat.reduceEqDiff, Nat.reduceMul, Nat.reduceSub, not_false_eq_true, not_true_eq_false, or_true, true_or, or_false, false_or, eq_self, Nat.zero_add, Nat.add_zero, nu_in, nI_clamp, pk_us, pk_un, ma_set_n, hs, m7, hs4]
    refine h _ ⟨?_, ?_, ?_, ?_, ?_, ?_, ?_, ?_, ?_, ?_, ?_, ?_, ?_⟩ (fun x hx => ?_)
    · rw [pk_un (by omega), pk_un (by omega)]; exact m0
    · rw [pk_un (by omega), pk_un (by omega)]; exact m1
    · rw [pk_un (by omega), pk_un (by omega)]; exact m2
    · rw [pk_un (by omega), pk_un (by omega)]; exact m3
    · rw [pk_un (by omega), pk_un (by omega)]; exact m4
    · rw [pk_un (by omega), pk_un (by omega)]; exact m5
    · rw [pk_un (by omega), pk_un (by omega)]; exact m6
    · rw [pk_us, if_pos rfl, List.length_append]; rfl
    · rw [pk_un (by omega), pk_un (by omega)]; exact m8
    · rw [pk_un (by omega), pk_un (by omega)]; exact m9
    · rw [if_pos rfl]
      refine gL_upd (gL_app (gL_upd l0 (by omega)) pk_us) (by omega)
    · exact gL_upd (gL_upd l1 (by omega)) (by omega)
    · exact gL_upd (gL_upd l2 (by omega)) (by omega)
    · rw [pk_un (by omega), pk_un (by omega)]
  · have hlt : ho.length < 16 := hlt
    simp (disch := omega) only [w136_0, w136_1, w136_3, w136_5, w136_6, w136_7, w136_8, w136_9, w136_11, w136_12, w136_13, w136_14, w136_15, w136_16, w136_17, w136_18, w136_20, w136_21, w136_22, w136_23, w136_24, w136_25, w136_26, w136_27, w136_28, w136_30, w136_31, w136_32, w136_33, ma_kV_ap, ma_kC_s, ma_kC_n, ma_kH_ap, ma_gf_ap, ma_pf_ap, ma_cv_ap, ma_nt_0, ma_nt_s, ma_if_t, ma_if_f, ma_set_s, ma_set_ss, ma_set_2, ma_cat_n, ma_cat_i, ma_cat_l, ma_cat_r, ma_clr_n, ma_clr_i, ma_clr_l, ma_clr_r, ma_clr_0, ma_rf_s, ma_rf_n, ma_ial_ap, ma_ias_ap, List.set_cons_zero, List.set_cons_succ, List.length_cons, List.length_nil, Nat.reduceAdd, Nat.reduceLT, Nat.reduceLeDiff, Nat.le_refl, true_and, and_true, Nat.lt_add_one, fa_lit, nI_add, pk_mul, pk_sub, pk_div, ma_rem_n, nI_ltI, nI_leI, nI_eq, Nat.reduceEqDiff, Nat.reduceMul, Nat.reduceSub, not_false_eq_true, not_true_eq_false, or_true, true_or, or_false, false_or, eq_self, Nat.zero_add, Nat.add_zero, nu_in, nI_clamp, pk_us, pk_un, ma_set_n, hs, m8, hs4]
    refine h _ ⟨?_, ?_, ?_, ?_, ?_, ?_, ?_, ?_, ?_, ?_, ?_, ?_, ?_⟩ (fun x hx => ?_)
    · rw [pk_un (by omega), pk_un (by omega)]; exact m0
    · rw [pk_un (by omega), pk_un (by omega)]; exact m1
    · rw [pk_un (by omega), pk_un (by omega)]; exact m2
    · rw [pk_un (by omega), pk_un (by omega)]; exact m3
    · rw [pk_un (by omega), pk_un (by omega)]; exact m4
    · rw [pk_un (by omega), pk_un (by omega)]; exact m5
    · rw [pk_un (by omega), pk_un (by omega)]; exact m6
    · rw [pk_un (by omega), pk_un (by omega)]; exact m7
    · rw [pk_us, if_neg (by decide), List.length_append]; rfl
    · rw [pk_un (by omega), pk_un (by omega)]; exact m9
    · rw [if_neg (by decide)]; exact gL_upd (gL_upd l0 (by omega)) (by omega)
    · rw [if_neg (by decide)]
      refine gL_upd (gL_app (gL_upd l1 (by omega)) pk_us) (by omega)
    · exact gL_upd (gL_upd l2 (by omega)) (by omega)
    · rw [pk_un (by omega), pk_un (by omega)]
end LA

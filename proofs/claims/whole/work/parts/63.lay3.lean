/-! the reference: its move is the game's -/
section LC
variable {d s N : Nat} {H : ma_H} {Q : ma_P} {f u : Nat → Int32} {kz ko tu db mv tz to : Nat} {hz ho pl : List Nat} {up lo wo : Int64} {le po ta tk nu it : Int32}
theorem gM_lay {f2 : Nat → Int32} {c : Nat} {r : List Nat} (htu : tu < 2) (hM : gM (kz, ko, hz, ho, pl, tu, db, mv, tz, to) f) (e : (if tu = 0 then hz else ho) = c :: r) (hsum : hz.length + ho.length + pl.length ≤ 16)
    (hf2 : ∀ x, f2 x = va_cpy (upd f (7 + tu) (nI r.length)) (upd f (7 + tu) (nI r.length)) (10 + 16 * tu + 1) (10 + 16 * tu) r.length x) :
    gM (kz, ko, if tu = 0 then r else hz, if tu = 0 then ho else r, pl ++ [c], tu, db, mv + 1, tz, to) (upd (upd (upd f2 (42 + pl.length) (nI c)) 9 (nI (pl.length + 1))) 4 (nI (mv + 1))) := by
  obtain ⟨m0, m1, m2, m3, m4, m5, m6, m7, m8, m9, l0, l1, l2⟩ := hM
  have lo' : ∀ x, x < 10 → x ≠ 7 + tu → f2 x = f x := fun x h1 h2 => by rw [hf2, pk_cpy_out (by omega), pk_un h2]
  rcases (show tu = 0 ∨ tu = 1 by omega) with rfl | rfl
  · have e' : hz = c :: r := e
    have hl : hz.length = r.length + 1 := by rw [e']; rfl
    refine ⟨?_, ?_, ?_, ?_, ?_, ?_, ?_, ?_, ?_, ?_, ?_, ?_, ?_⟩
    · rw [pk_un (by decide), pk_un (by decide), pk_un (by omega), lo' 0 (by decide) (by decide)]; exact m0
    · rw [pk_un (by decide), pk_un (by decide), pk_un (by omega), lo' 1 (by decide) (by decide)]; exact m1
    · rw [pk_un (by decide), pk_un (by decide), pk_un (by omega), lo' 2 (by decide) (by decide)]; exact m2
    · rw [pk_un (by decide), pk_un (by decide), pk_un (by omega), lo' 3 (by decide) (by decide)]; exact m3
    · exact pk_us
    · rw [pk_un (by decide), pk_un (by decide), pk_un (by omega), lo' 5 (by decide) (by decide)]; exact m5
    · rw [pk_un (by decide), pk_un (by decide), pk_un (by omega), lo' 6 (by decide) (by decide)]; exact m6
    · rw [pk_un (by decide), pk_un (by decide), pk_un (by omega), hf2, pk_cpy_out (by omega)]; exact pk_us
    · rw [pk_un (by decide), pk_un (by decide), pk_un (by omega), lo' 8 (by decide) (by decide)]; exact m8
    · rw [pk_un (by decide), pk_us, List.length_append]; rfl
    · show gL _ 10 r
      refine gL_upd (gL_upd (gL_upd ?_ (by omega)) (by omega)) (by omega)
      intro k x hk
      have hkl := (List.getElem?_eq_some_iff.mp hk).1
      rw [hf2, pk_cpy_in (by omega) (by omega), pk_un (by omega), show 10 + 16 * 0 + 1 + (10 + k - (10 + 16 * 0)) = 10 + (k + 1) by omega]
      exact l0 (k + 1) x (by rw [e']; exact hk)
    · show gL _ 26 ho
      refine gL_upd (gL_upd (gL_upd (gL_cong l1 (fun x h1 h2 => ?_)) (by omega)) (by omega)) (by omega)
      rw [hf2, pk_cpy_out (by omega), pk_un (by omega)]
    · refine gL_upd (gL_upd (gL_app (gL_upd (gL_cong l2 (fun x h1 h2 => ?_)) (by omega)) pk_us) (by omega)) (by omega)
      rw [hf2, pk_cpy_out (by omega), pk_un (by omega)]
  · have e' : ho = c :: r := e
    have hl : ho.length = r.length + 1 := by rw [e']; rfl
    refine ⟨?_, ?_, ?_, ?_, ?_, ?_, ?_, ?_, ?_, ?_, ?_, ?_, ?_⟩
    · rw [pk_un (by decide), pk_un (by decide), pk_un (by omega), lo' 0 (by decide) (by decide)]; exact m0
    · rw [pk_un (by decide), pk_un (by decide), pk_un (by omega), lo' 1 (by decide) (by decide)]; exact m1
    · rw [pk_un (by decide), pk_un (by decide), pk_un (by omega), lo' 2 (by decide) (by decide)]; exact m2
    · rw [pk_un (by decide), pk_un (by decide), pk_un (by omega), lo' 3 (by decide) (by decide)]; exact m3
    · exact pk_us
    · rw [pk_un (by decide), pk_un (by decide), pk_un (by omega), lo' 5 (by decide) (by decide)]; exact m5
    · rw [pk_un (by decide), pk_un (by decide), pk_un (by omega), lo' 6 (by decide) (by decide)]; exact m6
    · rw [pk_un (by decide), pk_un (by decide), pk_un (by omega), lo' 7 (by decide) (by decide)]; exact m7
    · rw [pk_un (by decide), pk_un (by decide), pk_un (by omega), hf2, pk_cpy_out (by omega)]; exact pk_us
    · rw [pk_un (by decide), pk_us, List.length_append]; rfl
    · show gL _ 10 hz
      refine gL_upd (gL_upd (gL_upd (gL_cong l0 (fun x h1 h2 => ?_)) (by omega)) (by omega)) (by omega)
      rw [hf2, pk_cpy_out (by omega), pk_un (by omega)]
    · show gL _ 26 r
      refine gL_upd (gL_upd (gL_upd ?_ (by omega)) (by omega)) (by omega)
      intro k x hk
      have hkl := (List.getElem?_eq_some_iff.mp hk).1
      rw [hf2, pk_cpy_in (by omega) (by omega), pk_un (by omega), show 10 + 16 * 1 + 1 + (26 + k - (10 + 16 * 1)) = 26 + (k + 1) by omega]
      exact l1 (k + 1) x (by rw [e']; exact hk)
    · refine gL_upd (gL_upd (gL_app (gL_upd (gL_cong l2 (fun x h1 h2 => ?_)) (by omega)) pk_us) (by omega)) (by omega)
      rw [hf2, pk_cpy_out (by omega), pk_un (by omega)]
theorem o_lay (hok : ga_ok (kz, ko, hz, ho, pl, tu, db, mv, tz, to)) (hmv : mv < 100000) (hnd : ¬ (if tu = 0 then hz else ho) = []) (hN : N < 100000) (hN2 : 58 ≤ N) (hs4 : 4 ≤ s) (hs36 : s ≠ 36) (hs44 : s ≠ 44) (hO : H.1 36 = moC up lo le po ta tk nu wo it) (hU : H.1 44 = arI 16 u) (hs : H.1 s = arI N f) (hM : gM (kz, ko, hz, ho, pl, tu, db, mv, tz, to) f)
    (h : ∀ f' u', gM (gm (kz, ko, hz, ho, pl, tu, db, mv, tz, to)) f' → (∀ x, 58 ≤ x → f' x = f x) → Q none (ma_set (ma_set H 44 (arI 16 u')) s (arI N f'))) : ma_MW (d + 3) 153 [.ref 36, .ref s] H Q := by
  obtain ⟨a1, a2, a3, a4, a5, a6, a7, a8, a9, a10⟩ := id hok
  obtain ⟨c, r, e⟩ : ∃ c r, (if tu = 0 then hz else ho) = c :: r := by
    cases e : (if tu = 0 then hz else ho) with
    | nil => exact absurd e hnd
    | cons c r => exact ⟨c, r, rfl⟩
  rw [gm_cons e] at h
  obtain ⟨hok1, hc6⟩ := ok_lay hok e
  obtain ⟨b1, b2, b3, b4, b5, b6, b7, b8, b9, b10⟩ := id hok1
  have hrl : r.length ≤ 15 ∧ pl.length ≤ 15 := by
    rcases (show tu = 0 ∨ tu = 1 by omega) with rfl | rfl
    · have e' : hz = c :: r := e
      have : hz.length = r.length + 1 := by rw [e']; rfl
      omega
    · have e' : ho = c :: r := e
      have : ho.length = r.length + 1 := by rw [e']; rfl
      omega
  have m2 : f 2 = nI tu := hM.2.2.1
  have m4 : f 4 = nI mv := hM.2.2.2.2.1
  have m9 : f 9 = nI pl.length := hM.2.2.2.2.2.2.2.2.2.1
  have mc : f (10 + 16 * tu) = nI c := by
    rcases (show tu = 0 ∨ tu = 1 by omega) with rfl | rfl
    · exact hM.2.2.2.2.2.2.2.2.2.2.1 0 c (by have e' : hz = c :: r := e; rw [e']; rfl)
    · exact hM.2.2.2.2.2.2.2.2.2.2.2.1 0 c (by have e' : ho = c :: r := e; rw [e']; rfl)
  have m7 : f (7 + tu) = nI (r.length + 1) := by
    rcases (show tu = 0 ∨ tu = 1 by omega) with rfl | rfl
    · have e' : hz = c :: r := e
      rw [e'] at hM; exact hM.2.2.2.2.2.2.2.1
    · have e' : ho = c :: r := e
      rw [e'] at hM; exact hM.2.2.2.2.2.2.2.2.1
  rw [e153]
  simp (disch := omega) only [w153_0, w153_1, w153_2, w153_3, w153_4, w153_6, w153_8, w153_9, w153_10, w153_11, w153_12, w153_13, w153_14, w153_15, w153_17, w153_18, w153_20, w153_21, w153_22, w153_23, w153_24, w153_25, w153_26, w153_27, w153_28, w153_29, w153_30, w153_31, w153_32, w153_33, w153_34, w153_36, w153_37, w153_38, w153_39, w153_42, w153_43, w153_45, w153_46, w153_48, w153_49, w153_50, w153_52, w153_53, w153_54, w153_56, w153_57, w153_58, w153_59, w153_60, w153_61, w153_62, w153_63, w153_64, w153_65, w153_66, w153_67, w153_68, w153_70, w153_71, w153_73, w153_74, w153_77, w153_79, w153_81, w153_84, w153_85, w153_86, w153_88, w153_89, w153_90, w153_91, w153_92, w153_93, w153_94, w153_95, w153_98, w153_99, w153_100, w153_101, w153_104, w153_105, w153_106, w153_107, w153_108, w153_109, w153_110, w153_111, w153_112, w153_113, w153_114, w153_117, w153_118, w153_119, w153_120, w153_121, w153_122, w153_125, w153_128, w153_129, w153_130, w153_131, w153_132, w153_133, w153_134, ma_kV_ap, ma_kC_s, ma_kC_n, ma_kH_ap, ma_gf_ap, ma_pf_ap, ma_cv_ap, ma_nt_0, ma_nt_s, ma_if_t, ma_if_f, ma_set_s, ma_set_ss, ma_set_2, ma_cat_n, ma_cat_i, ma_cat_l, ma_cat_r, ma_clr_n, ma_clr_i, ma_clr_l, ma_clr_r, ma_clr_0, ma_rf_s, ma_rf_n, ma_ial_ap, ma_ias_ap, List.set_cons_zero, List.set_cons_succ, List.length_cons, List.length_nil, Nat.reduceAdd, Nat.reduceLT, Nat.reduceLeDiff, Nat.le_refl, true_and, and_true, Nat.lt_add_one, fa_lit, nI_add, pk_mul, pk_sub, pk_div, ma_rem_n, nI_ltI, nI_leI, nI_eq, Nat.reduceEqDiff, Nat.reduceMul, Nat.reduceSub, not_false_eq_true, not_true_eq_false, or_true, true_or, or_false, false_or, eq_self, Nat.zero_add, Nat.add_zero, nu_in, nI_clamp, pk_us, pk_un, ma_set_n, hs, m2, mc, m7, hs4, Nat.add_sub_cancel]
  refine o_bring1 (M := N) (g := upd f (7 + tu) (nI r.length)) hs4 hN (by omega) (by omega) (Or.inl (by omega)) (ma_set_s _ _ _) ?_
  generalize hf2 : va_cpy (upd f (7 + tu) (nI r.length)) (upd f (7 + tu) (nI r.length)) (10 + 16 * tu + 1) (10 + 16 * tu) r.length = f2
  have hf2' : ∀ x, f2 x = va_cpy (upd f (7 + tu) (nI r.length)) (upd f (7 + tu) (nI r.length)) (10 + 16 * tu + 1) (10 + 16 * tu) r.length x := fun x => by rw [hf2]
  have n9 : f2 9 = nI pl.length := by rw [hf2', pk_cpy_out (by omega), pk_un (by omega)]; exact m9
  have n4 : f2 4 = nI mv := by rw [hf2', pk_cpy_out (by omega), pk_un (by omega)]; exact m4
  have hgm := gM_lay a7 hM e a6 hf2'
  have hfr2 : ∀ x, 58 ≤ x → (upd (upd (upd f2 (42 + pl.length) (nI c)) 9 (nI (pl.length + 1))) 4 (nI (mv + 1))) x = f x := fun x hx => by
    rw [pk_un (by omega), pk_un (by omega), pk_un (by omega), hf2', pk_cpy_out (by omega), pk_un (by omega)]
  simp (disch := omega) only [w153_0, w153_1, w153_2, w153_3, w153_4, w153_6, w153_8, w153_9, w153_10, w153_11, w153_12, w153_13, w153_14, w153_15, w153_17, w153_18, w153_20, w153_21, w153_22, w153_23, w153_24, w153_25, w153_26, w153_27, w153_28, w153_29, w153_30, w153_31, w153_32, w153_33, w153_34, w153_36, w153_37, w153_38, w153_39, w153_42, w153_43, w153_45, w153_46, w153_48, w153_49, w153_50, w153_52, w153_53, w153_54, w153_56, w153_57, w153_58, w153_59, w153_60, w153_61, w153_62, w153_63, w153_64, w153_65, w153_66, w153_67, w153_68, w153_70, w153_71, w153_73, w153_74, w153_77, w153_79, w153_81, w153_84, w153_85, w153_86, w153_88, w153_89, w153_90, w153_91, w153_92, w153_93, w153_94, w153_95, w153_98, w153_99, w153_100, w153_101, w153_104, w153_105, w153_106, w153_107, w153_108, w153_109, w153_110, w153_111, w153_112, w153_113, w153_114, w153_117, w153_118, w153_119, w153_120, w153_121, w153_122, w153_125, w153_128, w153_129, w153_130, w153_131, w153_132, w153_133, w153_134, ma_kV_ap, ma_kC_s, ma_kC_n, ma_kH_ap, ma_gf_ap, ma_pf_ap, ma_cv_ap, ma_nt_0, ma_nt_s, ma_if_t, ma_if_f, ma_set_s, ma_set_ss, ma_set_2, ma_cat_n, ma_cat_i, ma_cat_l, ma_cat_r, ma_clr_n, ma_clr_i, ma_clr_l, ma_clr_r, ma_clr_0, ma_rf_s, ma_rf_n, ma_ial_ap, ma_ias_ap, List.set_cons_zero, List.set_cons_succ, List.length_cons, List.length_nil, Nat.reduceAdd, Nat.reduceLT, Nat.reduceLeDiff, Nat.le_refl, true_and, and_true, Nat.lt_add_one, fa_lit, nI_add, pk_mul, pk_sub, pk_div, ma_rem_n, nI_ltI, nI_leI, nI_eq, Nat.reduceEqDiff, Nat.reduceMul, Nat.reduceSub, not_false_eq_true, not_true_eq_false, or_true, true_or, or_false, false_or, eq_self, Nat.zero_add, Nat.add_zero, nu_in, nI_clamp, pk_us, pk_un, ma_set_n, n9, n4, hs4]
  refine o_owedBy hc6 (by omega) ?_
  generalize upd (upd (upd f2 (42 + pl.length) (nI c)) 9 (nI (pl.length + 1))) 4 (nI (mv + 1)) = f5 at hgm hfr2 ⊢
  have k3 : f5 3 = nI db := hgm.2.2.2.1
  have hw := go_le c (pl.length + 1)
  generalize go c (pl.length + 1) = ow at h hw ⊢
  generalize (if tu = 0 then r else hz) = hz1 at *
  generalize (if tu = 0 then ho else r) = ho1 at *
  have hpl1 : (pl ++ [c]).length = pl.length + 1 := by rw [List.length_append]; rfl
  have hnoU : ∀ f', ma_set (ma_set H 44 (arI 16 u)) s (arI N f') = ma_set H s (arI N f') := fun f' => by rw [ma_set_id H 44 _ hU]
  simp (disch := omega) only [w153_0, w153_1, w153_2, w153_3, w153_4, w153_6, w153_8, w153_9, w153_10, w153_11, w153_12, w153_13, w153_14, w153_15, w153_17, w153_18, w153_20, w153_21, w153_22, w153_23, w153_24, w153_25, w153_26, w153_27, w153_28, w153_29, w153_30, w153_31, w153_32, w153_33, w153_34, w153_36, w153_37, w153_38, w153_39, w153_42, w153_43, w153_45, w153_46, w153_48, w153_49, w153_50, w153_52, w153_53, w153_54, w153_56, w153_57, w153_58, w153_59, w153_60, w153_61, w153_62, w153_63, w153_64, w153_65, w153_66, w153_67, w153_68, w153_70, w153_71, w153_73, w153_74, w153_77, w153_79, w153_81, w153_84, w153_85, w153_86, w153_88, w153_89, w153_90, w153_91, w153_92, w153_93, w153_94, w153_95, w153_98, w153_99, w153_100, w153_101, w153_104, w153_105, w153_106, w153_107, w153_108, w153_109, w153_110, w153_111, w153_112, w153_113, w153_114, w153_117, w153_118, w153_119, w153_120, w153_121, w153_122, w153_125, w153_128, w153_129, w153_130, w153_131, w153_132, w153_133, w153_134, ma_kV_ap, ma_kC_s, ma_kC_n, ma_kH_ap, ma_gf_ap, ma_pf_ap, ma_cv_ap, ma_nt_0, ma_nt_s, ma_if_t, ma_if_f, ma_set_s, ma_set_ss, ma_set_2, ma_cat_n, ma_cat_i, ma_cat_l, ma_cat_r, ma_clr_n, ma_clr_i, ma_clr_l, ma_clr_r, ma_clr_0, ma_rf_s, ma_rf_n, ma_ial_ap, ma_ias_ap, List.set_cons_zero, List.set_cons_succ, List.length_cons, List.length_nil, Nat.reduceAdd, Nat.reduceLT, Nat.reduceLeDiff, Nat.le_refl, true_and, and_true, Nat.lt_add_one, fa_lit, nI_add, pk_mul, pk_sub, pk_div, ma_rem_n, nI_ltI, nI_leI, nI_eq, Nat.reduceEqDiff, Nat.reduceMul, Nat.reduceSub, not_false_eq_true, not_true_eq_false, or_true, true_or, or_false, false_or, eq_self, Nat.zero_add, Nat.add_zero]
  unfold gm2 at h
  refine ⟨fun c0 => ?_, fun c0 => ?_⟩
  · rw [if_neg (by omega)] at h
    simp (disch := omega) only [w153_0, w153_1, w153_2, w153_3, w153_4, w153_6, w153_8, w153_9, w153_10, w153_11, w153_12, w153_13, w153_14, w153_15, w153_17, w153_18, w153_20, w153_21, w153_22, w153_23, w153_24, w153_25, w153_26, w153_27, w153_28, w153_29, w153_30, w153_31, w153_32, w153_33, w153_34, w153_36, w153_37, w153_38, w153_39, w153_42, w153_43, w153_45, w153_46, w153_48, w153_49, w153_50, w153_52, w153_53, w153_54, w153_56, w153_57, w153_58, w153_59, w153_60, w153_61, w153_62, w153_63, w153_64, w153_65, w153_66, w153_67, w153_68, w153_70, w153_71, w153_73, w153_74, w153_77, w153_79, w153_81, w153_84, w153_85, w153_86, w153_88, w153_89, w153_90, w153_91, w153_92, w153_93, w153_94, w153_95, w153_98, w153_99, w153_100, w153_101, w153_104, w153_105, w153_106, w153_107, w153_108, w153_109, w153_110, w153_111, w153_112, w153_113, w153_114, w153_117, w153_118, w153_119, w153_120, w153_121, w153_122, w153_125, w153_128, w153_129, w153_130, w153_131, w153_132, w153_133, w153_134, ma_kV_ap, ma_kC_s, ma_kC_n, ma_kH_ap, ma_gf_ap, ma_pf_ap, ma_cv_ap, ma_nt_0, ma_nt_s, ma_if_t, ma_if_f, ma_set_s, ma_set_ss, ma_set_2, ma_cat_n, ma_cat_i, ma_cat_l, ma_cat_r, ma_clr_n, ma_clr_i, ma_clr_l, ma_clr_r, ma_clr_0, ma_rf_s, ma_rf_n, ma_ial_ap, ma_ias_ap, List.set_cons_zero, List.set_cons_succ, List.length_cons, List.length_nil, Nat.reduceAdd, Nat.reduceLT, Nat.reduceLeDiff, Nat.le_refl, true_and, and_true, Nat.lt_add_one, fa_lit, nI_add, pk_mul, pk_sub, pk_div, ma_rem_n, nI_ltI, nI_leI, nI_eq, Nat.reduceEqDiff, Nat.reduceMul, Nat.reduceSub, not_false_eq_true, not_true_eq_false, or_true, true_or, or_false, false_or, eq_self, Nat.zero_add, Nat.add_zero, nu_in, nI_clamp, pk_us, pk_un, ma_set_n, k3, hs4]
    refine ⟨fun c1 => ?_, fun c1 => ?_⟩
    · rw [if_neg (by omega)] at h
      simp (disch := omega) only [w153_0, w153_1, w153_2, w153_3, w153_4, w153_6, w153_8, w153_9, w153_10, w153_11, w153_12, w153_13, w153_14, w153_15, w153_17, w153_18, w153_20, w153_21, w153_22, w153_23, w153_24, w153_25, w153_26, w153_27, w153_28, w153_29, w153_30, w153_31, w153_32, w153_33, w153_34, w153_36, w153_37, w153_38, w153_39, w153_42, w153_43, w153_45, w153_46, w153_48, w153_49, w153_50, w153_52, w153_53, w153_54, w153_56, w153_57, w153_58, w153_59, w153_60, w153_61, w153_62, w153_63, w153_64, w153_65, w153_66, w153_67, w153_68, w153_70, w153_71, w153_73, w153_74, w153_77, w153_79, w153_81, w153_84, w153_85, w153_86, w153_88, w153_89, w153_90, w153_91, w153_92, w153_93, w153_94, w153_95, w153_98, w153_99, w153_100, w153_101, w153_104, w153_105, w153_106, w153_107, w153_108, w153_109, w153_110, w153_111, w153_112, w153_113, w153_114, w153_117, w153_118, w153_119, w153_120, w153_121, w153_122, w153_125, w153_128, w153_129, w153_130, w153_131, w153_132, w153_133, w153_134, ma_kV_ap, ma_kC_s, ma_kC_n, ma_kH_ap, ma_gf_ap, ma_pf_ap, ma_cv_ap, ma_nt_0, ma_nt_s, ma_if_t, ma_if_f, ma_set_s, ma_set_ss, ma_set_2, ma_cat_n, ma_cat_i, ma_cat_l, ma_cat_r, ma_clr_n, ma_clr_i, ma_clr_l, ma_clr_r, ma_clr_0, ma_rf_s, ma_rf_n, ma_ial_ap, ma_ias_ap, List.set_cons_zero, List.set_cons_succ, List.length_cons, List.length_nil, Nat.reduceAdd, Nat.reduceLT, Nat.reduceLeDiff, Nat.le_refl, true_and, and_true, Nat.lt_add_one, fa_lit, nI_add, pk_mul, pk_sub, pk_div, ma_rem_n, nI_ltI, nI_leI, nI_eq, Nat.reduceEqDiff, Nat.reduceMul, Nat.reduceSub, not_false_eq_true, not_true_eq_false, or_true, true_or, or_false, false_or, eq_self, Nat.zero_add, Nat.add_zero, nu_in, nI_clamp, pk_us, pk_un, ma_set_n, hs4]
      rw [← hnoU]
      exact h _ u (gM_2 hgm (by omega) (by omega) (by omega)) (fun x hx => by rw [pk_un (by omega)]; exact hfr2 x hx)
    · rw [if_pos (by omega)] at h
      simp (disch := omega) only [w153_0, w153_1, w153_2, w153_3, w153_4, w153_6, w153_8, w153_9, w153_10, w153_11, w153_12, w153_13, w153_14, w153_15, w153_17, w153_18, w153_20, w153_21, w153_22, w153_23, w153_24, w153_25, w153_26, w153_27, w153_28, w153_29, w153_30, w153_31, w153_32, w153_33, w153_34, w153_36, w153_37, w153_38, w153_39, w153_42, w153_43, w153_45, w153_46, w153_48, w153_49, w153_50, w153_52, w153_53, w153_54, w153_56, w153_57, w153_58, w153_59, w153_60, w153_61, w153_62, w153_63, w153_64, w153_65, w153_66, w153_67, w153_68, w153_70, w153_71, w153_73, w153_74, w153_77, w153_79, w153_81, w153_84, w153_85, w153_86, w153_88, w153_89, w153_90, w153_91, w153_92, w153_93, w153_94, w153_95, w153_98, w153_99, w153_100, w153_101, w153_104, w153_105, w153_106, w153_107, w153_108, w153_109, w153_110, w153_111, w153_112, w153_113, w153_114, w153_117, w153_118, w153_119, w153_120, w153_121, w153_122, w153_125, w153_128, w153_129, w153_130, w153_131, w153_132, w153_133, w153_134, ma_kV_ap, ma_kC_s, ma_kC_n, ma_kH_ap, ma_gf_ap, ma_pf_ap, ma_cv_ap, ma_nt_0, ma_nt_s, ma_if_t, ma_if_f, ma_set_s, ma_set_ss, ma_set_2, ma_cat_n, ma_cat_i, ma_cat_l, ma_cat_r, ma_clr_n, ma_clr_i, ma_clr_l, ma_clr_r, ma_clr_0, ma_rf_s, ma_rf_n, ma_ial_ap, ma_ias_ap, List.set_cons_zero, List.set_cons_succ, List.length_cons, List.length_nil, Nat.reduceAdd, Nat.reduceLT, Nat.reduceLeDiff, Nat.le_refl, true_and, and_true, Nat.lt_add_one, fa_lit, nI_add, pk_mul, pk_sub, pk_div, ma_rem_n, nI_ltI, nI_leI, nI_eq, Nat.reduceEqDiff, Nat.reduceMul, Nat.reduceSub, not_false_eq_true, not_true_eq_false, or_true, true_or, or_false, false_or, eq_self, Nat.zero_add, Nat.add_zero, nu_in, nI_clamp, pk_us, pk_un, ma_set_n, k3, hs4]
      refine ⟨fun c2 => ?_, fun c2 => ?_⟩
      · rw [if_pos c2] at h
        have hO2 := hO
        unfold moC at hO2
        simp (disch := omega) only [w153_0, w153_1, w153_2, w153_3, w153_4, w153_6, w153_8, w153_9, w153_10, w153_11, w153_12, w153_13, w153_14, w153_15, w153_17, w153_18, w153_20, w153_21, w153_22, w153_23, w153_24, w153_25, w153_26, w153_27, w153_28, w153_29, w153_30, w153_31, w153_32, w153_33, w153_34, w153_36, w153_37, w153_38, w153_39, w153_42, w153_43, w153_45, w153_46, w153_48, w153_49, w153_50, w153_52, w153_53, w153_54, w153_56, w153_57, w153_58, w153_59, w153_60, w153_61, w153_62, w153_63, w153_64, w153_65, w153_66, w153_67, w153_68, w153_70, w153_71, w153_73, w153_74, w153_77, w153_79, w153_81, w153_84, w153_85, w153_86, w153_88, w153_89, w153_90, w153_91, w153_92, w153_93, w153_94, w153_95, w153_98, w153_99, w153_100, w153_101, w153_104, w153_105, w153_106, w153_107, w153_108, w153_109, w153_110, w153_111, w153_112, w153_113, w153_114, w153_117, w153_118, w153_119, w153_120, w153_121, w153_122, w153_125, w153_128, w153_129, w153_130, w153_131, w153_132, w153_133, w153_134, ma_kV_ap, ma_kC_s, ma_kC_n, ma_kH_ap, ma_gf_ap, ma_pf_ap, ma_cv_ap, ma_nt_0, ma_nt_s, ma_if_t, ma_if_f, ma_set_s, ma_set_ss, ma_set_2, ma_cat_n, ma_cat_i, ma_cat_l, ma_cat_r, ma_clr_n, ma_clr_i, ma_clr_l, ma_clr_r, ma_clr_0, ma_rf_s, ma_rf_n, ma_ial_ap, ma_ias_ap, List.set_cons_zero, List.set_cons_succ, List.length_cons, List.length_nil, Nat.reduceAdd, Nat.reduceLT, Nat.reduceLeDiff, Nat.le_refl, true_and, and_true, Nat.lt_add_one, fa_lit, nI_add, pk_mul, pk_sub, pk_div, ma_rem_n, nI_ltI, nI_leI, nI_eq, Nat.reduceEqDiff, Nat.reduceMul, Nat.reduceSub, not_false_eq_true, not_true_eq_false, or_true, true_or, or_false, false_or, eq_self, Nat.zero_add, Nat.add_zero, nu_in, nI_clamp, pk_us, pk_un, ma_set_n, hs4, hO2]
        refine o_take (kz := kz) (ko := ko) (hz := hz1) (ho := ho1) (pl := pl ++ [c]) (tu := tu) (db := db - 1) (mv := mv + 1) (tz := tz) (to := to) (u := u) (by omega) b1 b2 b5 b6 hN hN2 hs4 hs36 hs44 (by rw [ma_set_n _ _ (by omega)]; exact hO) (by rw [ma_set_n _ _ (by omega)]; exact hU) (ma_set_s _ _ _) (gM_3 hgm) (fun f' u' hM' hfr' => ?_)
        simp (disch := omega) only [w153_0, w153_1, w153_2, w153_3, w153_4, w153_6, w153_8, w153_9, w153_10, w153_11, w153_12, w153_13, w153_14, w153_15, w153_17, w153_18, w153_20, w153_21, w153_22, w153_23, w153_24, w153_25, w153_26, w153_27, w153_28, w153_29, w153_30, w153_31, w153_32, w153_33, w153_34, w153_36, w153_37, w153_38, w153_39, w153_42, w153_43, w153_45, w153_46, w153_48, w153_49, w153_50, w153_52, w153_53, w153_54, w153_56, w153_57, w153_58, w153_59, w153_60, w153_61, w153_62, w153_63, w153_64, w153_65, w153_66, w153_67, w153_68, w153_70, w153_71, w153_73, w153_74, w153_77, w153_79, w153_81, w153_84, w153_85, w153_86, w153_88, w153_89, w153_90, w153_91, w153_92, w153_93, w153_94, w153_95, w153_98, w153_99, w153_100, w153_101, w153_104, w153_105, w153_106, w153_107, w153_108, w153_109, w153_110, w153_111, w153_112, w153_113, w153_114, w153_117, w153_118, w153_119, w153_120, w153_121, w153_122, w153_125, w153_128, w153_129, w153_130, w153_131, w153_132, w153_133, w153_134, ma_kV_ap, ma_kC_s, ma_kC_n, ma_kH_ap, ma_gf_ap, ma_pf_ap, ma_cv_ap, ma_nt_0, ma_nt_s, ma_if_t, ma_if_f, ma_set_s, ma_set_ss, ma_set_2, ma_cat_n, ma_cat_i, ma_cat_l, ma_cat_r, ma_clr_n, ma_clr_i, ma_clr_l, ma_clr_r, ma_clr_0, ma_rf_s, ma_rf_n, ma_ial_ap, ma_ias_ap, List.set_cons_zero, List.set_cons_succ, List.length_cons, List.length_nil, Nat.reduceAdd, Nat.reduceLT, Nat.reduceLeDiff, Nat.le_refl, true_and, and_true, Nat.lt_add_one, fa_lit, nI_add, pk_mul, pk_sub, pk_div, ma_rem_n, nI_ltI, nI_leI, nI_eq, Nat.reduceEqDiff, Nat.reduceMul, Nat.reduceSub, not_false_eq_true, not_true_eq_false, or_true, true_or, or_false, false_or, eq_self, Nat.zero_add, Nat.add_zero, nu_in, nI_clamp, pk_us, pk_un, ma_set_n, hs4]
        rw [c2] at hM'
        rw [ma_set_cm _ _ _ hs44, ma_set_ss]
        exact h f' u' hM' (fun x hx => by rw [hfr' x hx, pk_un (by omega)]; exact hfr2 x hx)
      · rw [if_neg c2] at h
        simp (disch := omega) only [w153_0, w153_1, w153_2, w153_3, w153_4, w153_6, w153_8, w153_9, w153_10, w153_11, w153_12, w153_13, w153_14, w153_15, w153_17, w153_18, w153_20, w153_21, w153_22, w153_23, w153_24, w153_25, w153_26, w153_27, w153_28, w153_29, w153_30, w153_31, w153_32, w153_33, w153_34, w153_36, w153_37, w153_38, w153_39, w153_42, w153_43, w153_45, w153_46, w153_48, w153_49, w153_50, w153_52, w153_53, w153_54, w153_56, w153_57, w153_58, w153_59, w153_60, w153_61, w153_62, w153_63, w153_64, w153_65, w153_66, w153_67, w153_68, w153_70, w153_71, w153_73, w153_74, w153_77, w153_79, w153_81, w153_84, w153_85, w153_86, w153_88, w153_89, w153_90, w153_91, w153_92, w153_93, w153_94, w153_95, w153_98, w153_99, w153_100, w153_101, w153_104, w153_105, w153_106, w153_107, w153_108, w153_109, w153_110, w153_111, w153_112, w153_113, w153_114, w153_117, w153_118, w153_119, w153_120, w153_121, w153_122, w153_125, w153_128, w153_129, w153_130, w153_131, w153_132, w153_133, w153_134, ma_kV_ap, ma_kC_s, ma_kC_n, ma_kH_ap, ma_gf_ap, ma_pf_ap, ma_cv_ap, ma_nt_0, ma_nt_s, ma_if_t, ma_if_f, ma_set_s, ma_set_ss, ma_set_2, ma_cat_n, ma_cat_i, ma_cat_l, ma_cat_r, ma_clr_n, ma_clr_i, ma_clr_l, ma_clr_r, ma_clr_0, ma_rf_s, ma_rf_n, ma_ial_ap, ma_ias_ap, List.set_cons_zero, List.set_cons_succ, List.length_cons, List.length_nil, Nat.reduceAdd, Nat.reduceLT, Nat.reduceLeDiff, Nat.le_refl, true_and, and_true, Nat.lt_add_one, fa_lit, nI_add, pk_mul, pk_sub, pk_div, ma_rem_n, nI_ltI, nI_leI, nI_eq, Nat.reduceEqDiff, Nat.reduceMul, Nat.reduceSub, not_false_eq_true, not_true_eq_false, or_true, true_or, or_false, false_or, eq_self, Nat.zero_add, Nat.add_zero, nu_in, nI_clamp, pk_us, pk_un, ma_set_n, hs4]
        rw [← hnoU]
        exact h _ u (gM_3 hgm) (fun x hx => by rw [pk_un (by omega)]; exact hfr2 x hx)
  · rw [if_pos (by omega)] at h
    simp (disch := omega) only [w153_0, w153_1, w153_2, w153_3, w153_4, w153_6, w153_8, w153_9, w153_10, w153_11, w153_12, w153_13, w153_14, w153_15, w153_17, w153_18, w153_20, w153_21, w153_22, w153_23, w153_24, w153_25, w153_26, w153_27, w153_28, w153_29, w153_30, w153_31, w153_32, w153_33, w153_34, w153_36, w153_37, w153_38, w153_39, w153_42, w153_43, w153_45, w153_46, w153_48, w153_49, w153_50, w153_52, w153_53, w153_54, w153_56, w153_57, w153_58, w153_59, w153_60, w153_61, w153_62, w153_63, w153_64, w153_65, w153_66, w153_67, w153_68, w153_70, w153_71, w153_73, w153_74, w153_77, w153_79, w153_81, w153_84, w153_85, w153_86, w153_88, w153_89, w153_90, w153_91, w153_92, w153_93, w153_94, w153_95, w153_98, w153_99, w153_100, w153_101, w153_104, w153_105, w153_106, w153_107, w153_108, w153_109, w153_110, w153_111, w153_112, w153_113, w153_114, w153_117, w153_118, w153_119, w153_120, w153_121, w153_122, w153_125, w153_128, w153_129, w153_130, w153_131, w153_132, w153_133, w153_134, ma_kV_ap, ma_kC_s, ma_kC_n, ma_kH_ap, ma_gf_ap, ma_pf_ap, ma_cv_ap, ma_nt_0, ma_nt_s, ma_if_t, ma_if_f, ma_set_s, ma_set_ss, ma_set_2, ma_cat_n, ma_cat_i, ma_cat_l, ma_cat_r, ma_clr_n, ma_clr_i, ma_clr_l, ma_clr_r, ma_clr_0, ma_rf_s, ma_rf_n, ma_ial_ap, ma_ias_ap, List.set_cons_zero, List.set_cons_succ, List.length_cons, List.length_nil, Nat.reduceAdd, Nat.reduceLT, Nat.reduceLeDiff, Nat.le_refl, true_and, and_true, Nat.lt_add_one, fa_lit, nI_add, pk_mul, pk_sub, pk_div, ma_rem_n, nI_ltI, nI_leI, nI_eq, Nat.reduceEqDiff, Nat.reduceMul, Nat.reduceSub, not_false_eq_true, not_true_eq_false, or_true, true_or, or_false, false_or, eq_self, Nat.zero_add, Nat.add_zero, nu_in, nI_clamp, pk_us, pk_un, ma_set_n, hs4]
    rw [← hnoU]
    exact h _ u (gM_2 (gM_3 hgm) (by omega) (by omega) (by omega)) (fun x hx => by rw [pk_un (by omega), pk_un (by omega)]; exact hfr2 x hx)
end LC

/-! tokens, as mathematics; the class Reader's advance -/
def isSp (c : Nat) : Bool := decide (c = 32)
def isLe (c : Nat) : Bool := decide (97 ≤ c ∧ c ≤ 122)
def isFi (c : Nat) : Bool := decide (48 ≤ c ∧ c ≤ 57)
def gsp (P : Nat → Bool) (tx : List Nat) (p : Nat) : Nat := p + ((tx.drop p).takeWhile P).length
theorem gsp_y {P : Nat → Bool} {tx : List Nat} {p : Nat} (h : p < tx.length) (hP : P (gch tx p) = true) : gsp P tx p = gsp P tx (p + 1) := by
  unfold gsp
  rw [gch_at h] at hP
  rw [List.drop_eq_getElem_cons h, List.takeWhile_cons, if_pos hP, List.length_cons]
  omega
theorem gsp_n {P : Nat → Bool} {tx : List Nat} {p : Nat} (h : p < tx.length → P (gch tx p) = false) : gsp P tx p = p := by
  unfold gsp
  rcases Nat.lt_or_ge p tx.length with g | g
  · have hP := h g
    rw [gch_at g] at hP
    rw [List.drop_eq_getElem_cons g, List.takeWhile_cons, if_neg (by rw [hP]; decide)]
    rfl
  · rw [List.drop_eq_nil_of_le g]; rfl
theorem gsp_ge {P : Nat → Bool} {tx : List Nat} {p : Nat} : p ≤ gsp P tx p := by unfold gsp; omega
theorem gsp_le {P : Nat → Bool} {tx : List Nat} {p : Nat} (h : p ≤ tx.length) : gsp P tx p ≤ tx.length := by
  unfold gsp
  have h1 : ((tx.drop p).takeWhile P).length ≤ (tx.drop p).length := List.IsPrefix.length_le (List.takeWhile_prefix P)
  rw [List.length_drop] at h1
  omega
def gst (tx : List Nat) (p : Nat) : Nat := gsp isSp tx p
def gen (tx : List Nat) (p : Nat) : Nat := if tx.length ≤ gst tx p then gst tx p + 1 else if isLe (gch tx (gst tx p)) then gsp isLe tx (gst tx p + 1) else if isFi (gch tx (gst tx p)) then gsp isFi tx (gst tx p + 1) else gst tx p + 1
noncomputable def gwk (tx : List Nat) (s e : Nat) : Nat := by classical exact if gsl tx s e 0 then 3 else if gsl tx s e 1 then 4 else if gsl tx s e 2 then 5 else 6
/-- end, semicolon, figures, game, hand, lay, wrong -/
noncomputable def gkd (tx : List Nat) (p : Nat) : Nat := if tx.length ≤ gst tx p then 0 else if isLe (gch tx (gst tx p)) then gwk tx (gst tx p) (gen tx p) else if isFi (gch tx (gst tx p)) then (if gen tx p - gst tx p ≤ 2 then 2 else 6) else if gch tx (gst tx p) = 59 then 1 else 6
def gnm (tx : List Nat) (p : Nat) : Nat := if gen tx p - gst tx p = 1 then gch tx (gst tx p) - 48 else 10 * (gch tx (gst tx p) - 48) + (gch tx (gst tx p + 1) - 48)
theorem gwk_0 {tx : List Nat} {s e : Nat} (h : gsl tx s e 0) : gwk tx s e = 3 := by unfold gwk; exact if_pos h
theorem gwk_1 {tx : List Nat} {s e : Nat} (h0 : ¬ gsl tx s e 0) (h : gsl tx s e 1) : gwk tx s e = 4 := by unfold gwk; rw [if_neg h0, if_pos h]
theorem gwk_2 {tx : List Nat} {s e : Nat} (h0 : ¬ gsl tx s e 0) (h1 : ¬ gsl tx s e 1) (h : gsl tx s e 2) : gwk tx s e = 5 := by unfold gwk; rw [if_neg h0, if_neg h1, if_pos h]
theorem gwk_3 {tx : List Nat} {s e : Nat} (h0 : ¬ gsl tx s e 0) (h1 : ¬ gsl tx s e 1) (h : ¬ gsl tx s e 2) : gwk tx s e = 6 := by unfold gwk; rw [if_neg h0, if_neg h1, if_neg h]
theorem gwk_le (tx : List Nat) (s e : Nat) : gwk tx s e ≤ 6 := by
  unfold gwk
  split
  · decide
  · split
    · decide
    · split <;> decide
theorem gkd_le (tx : List Nat) (p : Nat) : gkd tx p ≤ 6 := by
  unfold gkd
  split
  · decide
  · split
    · exact gwk_le _ _ _
    · split
      · split <;> decide
      · split <;> decide
theorem gst_le {tx : List Nat} {p : Nat} (h : p ≤ tx.length) : gst tx p ≤ tx.length := gsp_le h
theorem gst_ge {tx : List Nat} {p : Nat} : p ≤ gst tx p := gsp_ge
theorem gen_le {tx : List Nat} {p : Nat} (h : p ≤ tx.length) : gen tx p ≤ tx.length + 1 := by
  have h1 := gst_le h
  unfold gen
  split
  · omega
  · split
    · have := gsp_le (P := isLe) (tx := tx) (p := gst tx p + 1) (by omega); omega
    · split
      · have := gsp_le (P := isFi) (tx := tx) (p := gst tx p + 1) (by omega); omega
      · omega
theorem gen_le' {tx : List Nat} {p : Nat} (h : p ≤ tx.length) (hk : gkd tx p ≠ 0) : gen tx p ≤ tx.length := by
  have h1 := gst_le h
  unfold gkd at hk
  unfold gen
  split
  · rename_i g; rw [if_pos g] at hk; exact absurd rfl hk
  · split
    · exact gsp_le (by omega)
    · split
      · exact gsp_le (by omega)
      · omega
theorem gen_gt {tx : List Nat} {p : Nat} : gst tx p + 1 ≤ gen tx p := by
  unfold gen
  split
  · omega
  · split
    · exact gsp_ge
    · split
      · exact gsp_ge
      · omega
theorem gnm_lt {tx : List Nat} (h : txOK tx) (p : Nat) : gnm tx p < 2000 := by
  have h1 := gch_lt h (gst tx p)
  have h2 := gch_lt h (gst tx p + 1)
  unfold gnm
  split <;> omega
def rdC (tk s nx nu : Int32) : ma_C := .inr (2, [.ref 33, .int tk, .int s, .int nx, .int nu])
def rdP (H : ma_H) (tx : List Nat) (p : Nat) : Prop := ∃ nu, H.1 35 = rdC (nI (gkd tx p)) (nI (gst tx p)) (nI (gen tx p)) nu ∧ (gkd tx p = 2 → nu = nI (gnm tx p))
section RD
variable {d : Nat} {H : ma_H} {Q : ma_P} {tx : List Nat}
theorem x_readWord {s : Nat} {tk nu : Int32} (ht : txOK tx) (hs : s < tx.length) (hS : strP H) (hP : txP H tx) (hR : H.1 35 = rdC tk (nI s) (nI (s + 1)) nu) (h : Q none (ma_set H 35 (rdC (nI (gwk tx s (gsp isLe tx (s + 1)))) (nI s) (nI (gsp isLe tx (s + 1))) nu))) : ma_MW (d + 5) 20 [.ref 35] H Q := by
  have hl := ht.1
  have h33 := hP.1
  have he : gsp isLe tx (s + 1) ≤ tx.length := gsp_le (by omega)
  have hge : s + 1 ≤ gsp isLe tx (s + 1) := gsp_ge
  -- the heap with next = q
  have facts : ∀ q, (ma_set H 35 (rdC tk (nI s) (nI q) nu)).1 35 = .inr (2, [.ref 33, .int tk, .int (nI s), .int (nI q), .int nu]) ∧ txP (ma_set H 35 (rdC tk (nI s) (nI q) nu)) tx ∧ (ma_set H 35 (rdC tk (nI s) (nI q) nu)).1 33 = .inr (5, [.ref 34, .int (nI tx.length)]) ∧ strP (ma_set H 35 (rdC tk (nI s) (nI q) nu)) := fun q =>
    ⟨ma_set_s _ _ _, txP_cong hP (ma_set_n _ _ (by decide)) (ma_set_n _ _ (by decide)), by rw [ma_set_n _ _ (by decide)]; exact h33, fun i hi => by rw [ma_set_n _ _ (by omega)]; exact hS i hi⟩
  have tail : ma_W (d + 4) 20 Q 44 [some (.ref 35)] [] (ma_set H 35 (rdC tk (nI s) (nI (gsp isLe tx (s + 1))) nu)) 0 0 := by
    obtain ⟨f35, fx, f33, fS⟩ := facts (gsp isLe tx (s + 1))
    have hss : ∀ c, ma_set (ma_set H 35 (rdC tk (nI s) (nI (gsp isLe tx (s + 1))) nu)) 35 c = ma_set H 35 c := fun c => ma_set_ss _ _ _ _
    generalize (ma_set H 35 (rdC tk (nI s) (nI (gsp isLe tx (s + 1))) nu)) = H1 at f35 fx f33 fS hss ⊢
    simp (disch := omega) only [w20_0, w20_1, w20_4, w20_5, w20_8, w20_11, w20_14, w20_15, w20_18, w20_19, w20_22, w20_25, w20_28, w20_31, w20_32, w20_32i, w20_33, w20_36, w20_37, w20_38, w20_41, w20_44, w20_45, w20_48, w20_49, w20_52, w20_53, w20_56, w20_58, w20_61, w20_64, w20_65, w20_66, w20_69, w20_72, w20_73, w20_76, w20_77, w20_80, w20_81, w20_84, w20_86, w20_89, w20_92, w20_93, w20_94, w20_97, w20_100, w20_101, w20_102, w20_105, w20_106, w20_109, w20_110, w20_113, w20_115, w20_118, w20_121, w20_122, w20_125, w20_127, w20_130, ma_kV_ap, ma_kC_s, ma_kC_n, ma_kH_ap, ma_gf_ap, ma_pf_ap, ma_cv_ap, ma_nt_0, ma_nt_s, ma_if_t, ma_if_f, ma_set_s, ma_set_ss, ma_set_2, ma_cat_n, ma_cat_i, ma_cat_l, ma_cat_r, ma_clr_n, ma_clr_i, ma_clr_l, ma_clr_r, ma_clr_0, ma_rf_s, ma_rf_n, ma_ial_ap, ma_ias_ap, List.set_cons_zero, List.set_cons_succ, List.length_cons, List.length_nil, Nat.reduceAdd, Nat.reduceLT, Nat.reduceLeDiff, Nat.le_refl, true_and, and_true, Nat.lt_add_one, f35, f33]
    refine x_spells (i := 0) (by decide) ht (by omega) he fS fx (fun y => ?_) (fun n0 => ?_)
    · rw [gwk_0 y] at h
      simp (disch := omega) only [w20_0, w20_1, w20_4, w20_5, w20_8, w20_11, w20_14, w20_15, w20_18, w20_19, w20_22, w20_25, w20_28, w20_31, w20_32, w20_32i, w20_33, w20_36, w20_37, w20_38, w20_41, w20_44, w20_45, w20_48, w20_49, w20_52, w20_53, w20_56, w20_58, w20_61, w20_64, w20_65, w20_66, w20_69, w20_72, w20_73, w20_76, w20_77, w20_80, w20_81, w20_84, w20_86, w20_89, w20_92, w20_93, w20_94, w20_97, w20_100, w20_101, w20_102, w20_105, w20_106, w20_109, w20_110, w20_113, w20_115, w20_118, w20_121, w20_122, w20_125, w20_127, w20_130, ma_kV_ap, ma_kC_s, ma_kC_n, ma_kH_ap, ma_gf_ap, ma_pf_ap, ma_cv_ap, ma_nt_0, ma_nt_s, ma_if_t, ma_if_f, ma_set_s, ma_set_ss, ma_set_2, ma_cat_n, ma_cat_i, ma_cat_l, ma_cat_r, ma_clr_n, ma_clr_i, ma_clr_l, ma_clr_r, ma_clr_0, ma_rf_s, ma_rf_n, ma_ial_ap, ma_ias_ap, List.set_cons_zero, List.set_cons_succ, List.length_cons, List.length_nil, Nat.reduceAdd, Nat.reduceLT, Nat.reduceLeDiff, Nat.le_refl, true_and, and_true, Nat.lt_add_one, fa_lit, nI_add, pk_mul, pk_sub, pk_div, ma_rem_n, nI_ltI, nI_leI, nI_eq, Nat.reduceEqDiff, Nat.reduceMul, Nat.reduceSub, not_false_eq_true, not_true_eq_false, or_true, true_or, or_false, false_or, eq_self, Nat.zero_add, Nat.add_zero, f35, hss]
      exact h
    · simp (disch := omega) only [w20_0, w20_1, w20_4, w20_5, w20_8, w20_11, w20_14, w20_15, w20_18, w20_19, w20_22, w20_25, w20_28, w20_31, w20_32, w20_32i, w20_33, w20_36, w20_37, w20_38, w20_41, w20_44, w20_45, w20_48, w20_49, w20_52, w20_53, w20_56, w20_58, w20_61, w20_64, w20_65, w20_66, w20_69, w20_72, w20_73, w20_76, w20_77, w20_80, w20_81, w20_84, w20_86, w20_89, w20_92, w20_93, w20_94, w20_97, w20_100, w20_101, w20_102, w20_105, w20_106, w20_109, w20_110, w20_113, w20_115, w20_118, w20_121, w20_122, w20_125, w20_127, w20_130, ma_kV_ap, ma_kC_s, ma_kC_n, ma_kH_ap, ma_gf_ap, ma_pf_ap, ma_cv_ap, ma_nt_0, ma_nt_s, ma_if_t, ma_if_f, ma_set_s, ma_set_ss, ma_set_2, ma_cat_n, ma_cat_i, ma_cat_l, ma_cat_r, ma_clr_n, ma_clr_i, ma_clr_l, ma_clr_r, ma_clr_0, ma_rf_s, ma_rf_n, ma_ial_ap, ma_ias_ap, List.set_cons_zero, List.set_cons_succ, List.length_cons, List.length_nil, Nat.reduceAdd, Nat.reduceLT, Nat.reduceLeDiff, Nat.le_refl, true_and, and_true, Nat.lt_add_one, fa_lit, nI_add, pk_mul, pk_sub, pk_div, ma_rem_n, nI_ltI, nI_leI, nI_eq, Nat.reduceEqDiff, Nat.reduceMul, Nat.reduceSub, not_false_eq_true, not_true_eq_false, or_true, true_or, or_false, false_or, eq_self, Nat.zero_add, Nat.add_zero, f35, f33]
      refine x_spells (i := 1) (by decide) ht (by omega) he fS fx (fun y => ?_) (fun n1 => ?_)
      · rw [gwk_1 n0 y] at h
        simp (disch := omega) only [w20_0, w20_1, w20_4, w20_5, w20_8, w20_11, w20_14, w20_15, w20_18, w20_19, w20_22, w20_25, w20_28, w20_31, w20_32, w20_32i, w20_33, w20_36, w20_37, w20_38, w20_41, w20_44, w20_45, w20_48, w20_49, w20_52, w20_53, w20_56, w20_58, w20_61, w20_64, w20_65, w20_66, w20_69, w20_72, w20_73, w20_76, w20_77, w20_80, w20_81, w20_84, w20_86, w20_89, w20_92, w20_93, w20_94, w20_97, w20_100, w20_101, w20_102, w20_105, w20_106, w20_109, w20_110, w20_113, w20_115, w20_118, w20_121, w20_122, w20_125, w20_127, w20_130, ma_kV_ap, ma_kC_s, ma_kC_n, ma_kH_ap, ma_gf_ap, ma_pf_ap, ma_cv_ap, ma_nt_0, ma_nt_s, ma_if_t, ma_if_f, ma_set_s, ma_set_ss, ma_set_2, ma_cat_n, ma_cat_i, ma_cat_l, ma_cat_r, ma_clr_n, ma_clr_i, ma_clr_l, ma_clr_r, ma_clr_0, ma_rf_s, ma_rf_n, ma_ial_ap, ma_ias_ap, List.set_cons_zero, List.set_cons_succ, List.length_cons, List.length_nil, Nat.reduceAdd, Nat.reduceLT, Nat.reduceLeDiff, Nat.le_refl, true_and, and_true, Nat.lt_add_one, fa_lit, nI_add, pk_mul, pk_sub, pk_div, ma_rem_n, nI_ltI, nI_leI, nI_eq, Nat.reduceEqDiff, Nat.reduceMul, Nat.reduceSub, not_false_eq_true, not_true_eq_false, or_true, true_or, or_false, false_or, eq_self, Nat.zero_add, Nat.add_zero, f35, hss]
        exact h
      · simp (disch := omega) only [w20_0, w20_1, w20_4, w20_5, w20_8, w20_11, w20_14, w20_15, w20_18, w20_19, w20_22, w20_25, w20_28, w20_31, w20_32, w20_32i, w20_33, w20_36, w20_37, w20_38, w20_41, w20_44, w20_45, w20_48, w20_49, w20_52, w20_53, w20_56, w20_58, w20_61, w20_64, w20_65, w20_66, w20_69, w20_72, w20_73, w20_76, w20_77, w20_80, w20_81, w20_84, w20_86, w20_89, w20_92, w20_93, w20_94, w20_97, w20_100, w20_101, w20_102, w20_105, w20_106, w20_109, w20_110, w20_113, w20_115, w20_118, w20_121, w20_122, w20_125, w20_127, w20_130, ma_kV_ap, ma_kC_s, ma_kC_n, ma_kH_ap, ma_gf_ap, ma_pf_ap, ma_cv_ap, ma_nt_0, ma_nt_s, ma_if_t, ma_if_f, ma_set_s, ma_set_ss, ma_set_2, ma_cat_n, ma_cat_i, ma_cat_l, ma_cat_r, ma_clr_n, ma_clr_i, ma_clr_l, ma_clr_r, ma_clr_0, ma_rf_s, ma_rf_n, ma_ial_ap, ma_ias_ap, List.set_cons_zero, List.set_cons_succ, List.length_cons, List.length_nil, Nat.reduceAdd, Nat.reduceLT, Nat.reduceLeDiff, Nat.le_refl, true_and, and_true, Nat.lt_add_one, fa_lit, nI_add, pk_mul, pk_sub, pk_div, ma_rem_n, nI_ltI, nI_leI, nI_eq, Nat.reduceEqDiff, Nat.reduceMul, Nat.reduceSub, not_false_eq_true, not_true_eq_false, or_true, true_or, or_false, false_or, eq_self, Nat.zero_add, Nat.add_zero, f35, f33]
        refine x_spells (i := 2) (by decide) ht (by omega) he fS fx (fun y => ?_) (fun n2 => ?_)
        · rw [gwk_2 n0 n1 y] at h
          simp (disch := omega) only [w20_0, w20_1, w20_4, w20_5, w20_8, w20_11, w20_14, w20_15, w20_18, w20_19, w20_22, w20_25, w20_28, w20_31, w20_32, w20_32i, w20_33, w20_36, w20_37, w20_38, w20_41, w20_44, w20_45, w20_48, w20_49, w20_52, w20_53, w20_56, w20_58, w20_61, w20_64, w20_65, w20_66, w20_69, w20_72, w20_73, w20_76, w20_77, w20_80, w20_81, w20_84, w20_86, w20_89, w20_92, w20_93, w20_94, w20_97, w20_100, w20_101, w20_102, w20_105, w20_106, w20_109, w20_110, w20_113, w20_115, w20_118, w20_121, w20_122, w20_125, w20_127, w20_130, ma_kV_ap, ma_kC_s, ma_kC_n, ma_kH_ap, ma_gf_ap, ma_pf_ap, ma_cv_ap, ma_nt_0, ma_nt_s, ma_if_t, ma_if_f, ma_set_s, ma_set_ss, ma_set_2, ma_cat_n, ma_cat_i, ma_cat_l, ma_cat_r, ma_clr_n, ma_clr_i, ma_clr_l, ma_clr_r, ma_clr_0, ma_rf_s, ma_rf_n, ma_ial_ap, ma_ias_ap, List.set_cons_zero, List.set_cons_succ, List.length_cons, List.length_nil, Nat.reduceAdd, Nat.reduceLT, Nat.reduceLeDiff, Nat.le_refl, true_and, and_true, Nat.lt_add_one, fa_lit, nI_add, pk_mul, pk_sub, pk_div, ma_rem_n, nI_ltI, nI_leI, nI_eq, Nat.reduceEqDiff, Nat.reduceMul, Nat.reduceSub, not_false_eq_true, not_true_eq_false, or_true, true_or, or_false, false_or, eq_self, Nat.zero_add, Nat.add_zero, f35, hss]
          exact h
        · rw [gwk_3 n0 n1 n2] at h
          simp (disch := omega) only [w20_0, w20_1, w20_4, w20_5, w20_8, w20_11, w20_14, w20_15, w20_18, w20_19, w20_22, w20_25, w20_28, w20_31, w20_32, w20_32i, w20_33, w20_36, w20_37, w20_38, w20_41, w20_44, w20_45, w20_48, w20_49, w20_52, w20_53, w20_56, w20_58, w20_61, w20_64, w20_65, w20_66, w20_69, w20_72, w20_73, w20_76, w20_77, w20_80, w20_81, w20_84, w20_86, w20_89, w20_92, w20_93, w20_94, w20_97, w20_100, w20_101, w20_102, w20_105, w20_106, w20_109, w20_110, w20_113, w20_115, w20_118, w20_121, w20_122, w20_125, w20_127, w20_130, ma_kV_ap, ma_kC_s, ma_kC_n, ma_kH_ap, ma_gf_ap, ma_pf_ap, ma_cv_ap, ma_nt_0, ma_nt_s, ma_if_t, ma_if_f, ma_set_s, ma_set_ss, ma_set_2, ma_cat_n, ma_cat_i, ma_cat_l, ma_cat_r, ma_clr_n, ma_clr_i, ma_clr_l, ma_clr_r, ma_clr_0, ma_rf_s, ma_rf_n, ma_ial_ap, ma_ias_ap, List.set_cons_zero, List.set_cons_succ, List.length_cons, List.length_nil, Nat.reduceAdd, Nat.reduceLT, Nat.reduceLeDiff, Nat.le_refl, true_and, and_true, Nat.lt_add_one, fa_lit, nI_add, pk_mul, pk_sub, pk_div, ma_rem_n, nI_ltI, nI_leI, nI_eq, Nat.reduceEqDiff, Nat.reduceMul, Nat.reduceSub, not_false_eq_true, not_true_eq_false, or_true, true_or, or_false, false_or, eq_self, Nat.zero_add, Nat.add_zero, f35, hss]
          exact h
  have loop : ∀ c q, tx.length - q = c → q ≤ tx.length → gsp isLe tx q = gsp isLe tx (s + 1) → ma_W (d + 4) 20 Q 0 [some (.ref 35)] [] (ma_set H 35 (rdC tk (nI s) (nI q) nu)) 0 0 := by
    intro c
    induction c with
    | zero =>
      intro q e1 e2 e3
      obtain ⟨f35, fx, f33, fS⟩ := facts q
      have hc : (tx.length ≤ q) = True := eq_true (by omega)
      have eq' : q = gsp isLe tx (s + 1) := by rw [← e3]; exact (gsp_n (fun g => by omega)).symm
      simp (disch := omega) only [w20_0, w20_1, w20_4, w20_5, w20_8, w20_11, w20_14, w20_15, w20_18, w20_19, w20_22, w20_25, w20_28, w20_31, w20_32, w20_32i, w20_33, w20_36, w20_37, w20_38, w20_41, w20_45, w20_48, w20_49, w20_52, w20_53, w20_56, w20_58, w20_61, w20_64, w20_65, w20_66, w20_69, w20_72, w20_73, w20_76, w20_77, w20_80, w20_81, w20_84, w20_86, w20_89, w20_92, w20_93, w20_94, w20_97, w20_100, w20_101, w20_102, w20_105, w20_106, w20_109, w20_110, w20_113, w20_115, w20_118, w20_121, w20_122, w20_125, w20_127, w20_130, ma_cv_ap, ma_gf_ap, ma_nt_0, ma_nt_s, ma_kV_ap, ma_cat_i, ma_cat_n, Nat.reduceAdd, Nat.reduceLeDiff, true_and, f35, f33]
      refine x_size fx ?_
      simp (disch := omega) only [w20_0, w20_1, w20_4, w20_5, w20_8, w20_11, w20_14, w20_15, w20_18, w20_19, w20_22, w20_25, w20_28, w20_31, w20_32, w20_32i, w20_33, w20_36, w20_37, w20_38, w20_41, w20_45, w20_48, w20_49, w20_52, w20_53, w20_56, w20_58, w20_61, w20_64, w20_65, w20_66, w20_69, w20_72, w20_73, w20_76, w20_77, w20_80, w20_81, w20_84, w20_86, w20_89, w20_92, w20_93, w20_94, w20_97, w20_100, w20_101, w20_102, w20_105, w20_106, w20_109, w20_110, w20_113, w20_115, w20_118, w20_121, w20_122, w20_125, w20_127, w20_130, ma_kC_s, ma_if_t, fa_lit, nI_add, pk_mul, pk_sub, pk_div, ma_rem_n, nI_ltI, nI_leI, nI_eq, Nat.reduceEqDiff, Nat.reduceMul, Nat.reduceSub, not_false_eq_true, not_true_eq_false, or_true, true_or, or_false, false_or, eq_self, Nat.zero_add, Nat.add_zero, hc]
      rw [eq']
      exact tail
    | succ c ih =>
      intro q e1 e2 e3
      obtain ⟨f35, fx, f33, fS⟩ := facts q
      have hc : (tx.length ≤ q) = False := eq_false (by omega)
      have hb := gch_lt ht q
      simp (disch := omega) only [w20_0, w20_1, w20_4, w20_5, w20_8, w20_11, w20_14, w20_15, w20_18, w20_19, w20_22, w20_25, w20_28, w20_31, w20_32, w20_32i, w20_33, w20_36, w20_37, w20_38, w20_41, w20_45, w20_48, w20_49, w20_52, w20_53, w20_56, w20_58, w20_61, w20_64, w20_65, w20_66, w20_69, w20_72, w20_73, w20_76, w20_77, w20_80, w20_81, w20_84, w20_86, w20_89, w20_92, w20_93, w20_94, w20_97, w20_100, w20_101, w20_102, w20_105, w20_106, w20_109, w20_110, w20_113, w20_115, w20_118, w20_121, w20_122, w20_125, w20_127, w20_130, ma_cv_ap, ma_gf_ap, ma_nt_0, ma_nt_s, ma_kV_ap, ma_cat_i, ma_cat_n, Nat.reduceAdd, Nat.reduceLeDiff, true_and, f35, f33]
      refine x_size fx ?_
      simp (disch := omega) only [w20_0, w20_1, w20_4, w20_5, w20_8, w20_11, w20_14, w20_15, w20_18, w20_19, w20_22, w20_25, w20_28, w20_31, w20_32, w20_32i, w20_33, w20_36, w20_37, w20_38, w20_41, w20_45, w20_48, w20_49, w20_52, w20_53, w20_56, w20_58, w20_61, w20_64, w20_65, w20_66, w20_69, w20_72, w20_73, w20_76, w20_77, w20_80, w20_81, w20_84, w20_86, w20_89, w20_92, w20_93, w20_94, w20_97, w20_100, w20_101, w20_102, w20_105, w20_106, w20_109, w20_110, w20_113, w20_115, w20_118, w20_121, w20_122, w20_125, w20_127, w20_130, ma_cv_ap, ma_gf_ap, ma_nt_0, ma_nt_s, ma_kV_ap, ma_cat_i, ma_cat_n, Nat.reduceAdd, Nat.reduceLeDiff, true_and, ma_kC_s, ma_if_f, fa_lit, nI_add, pk_mul, pk_sub, pk_div, ma_rem_n, nI_ltI, nI_leI, nI_eq, Nat.reduceEqDiff, Nat.reduceMul, Nat.reduceSub, not_false_eq_true, not_true_eq_false, or_true, true_or, or_false, false_or, eq_self, Nat.zero_add, Nat.add_zero, hc, f35, f33]
      refine x_at ht (by omega) fx (fun _ => ?_) (fun g => absurd g (by omega))
      simp (disch := omega) only [w20_0, w20_1, w20_4, w20_5, w20_8, w20_11, w20_14, w20_15, w20_18, w20_19, w20_22, w20_25, w20_28, w20_31, w20_32, w20_32i, w20_33, w20_36, w20_37, w20_38, w20_41, w20_45, w20_48, w20_49, w20_52, w20_53, w20_56, w20_58, w20_61, w20_64, w20_65, w20_66, w20_69, w20_72, w20_73, w20_76, w20_77, w20_80, w20_81, w20_84, w20_86, w20_89, w20_92, w20_93, w20_94, w20_97, w20_100, w20_101, w20_102, w20_105, w20_106, w20_109, w20_110, w20_113, w20_115, w20_118, w20_121, w20_122, w20_125, w20_127, w20_130, ma_kV_ap, ma_kC_s, ma_kC_n, ma_kH_ap, ma_gf_ap, ma_pf_ap, ma_cv_ap, ma_nt_0, ma_nt_s, ma_if_t, ma_if_f, ma_set_s, ma_set_ss, ma_set_2, ma_cat_n, ma_cat_i, ma_cat_l, ma_cat_r, ma_clr_n, ma_clr_i, ma_clr_l, ma_clr_r, ma_clr_0, ma_rf_s, ma_rf_n, ma_ial_ap, ma_ias_ap, List.set_cons_zero, List.set_cons_succ, List.length_cons, List.length_nil, Nat.reduceAdd, Nat.reduceLT, Nat.reduceLeDiff, Nat.le_refl, true_and, and_true, Nat.lt_add_one]
      refine x_isLetter (by omega) (fun y => ?_) (fun n => ?_)
      · have e4 := gsp_y (P := isLe) (tx := tx) (p := q) (by omega) (decide_eq_true y)
        simp (disch := omega) only [w20_1, w20_4, w20_5, w20_8, w20_11, w20_14, w20_15, w20_18, w20_19, w20_22, w20_25, w20_28, w20_31, w20_32, w20_32i, w20_33, w20_36, w20_37, w20_38, w20_41, w20_44, w20_45, w20_48, w20_49, w20_52, w20_53, w20_56, w20_58, w20_61, w20_64, w20_65, w20_66, w20_69, w20_72, w20_73, w20_76, w20_77, w20_80, w20_81, w20_84, w20_86, w20_89, w20_92, w20_93, w20_94, w20_97, w20_100, w20_101, w20_102, w20_105, w20_106, w20_109, w20_110, w20_113, w20_115, w20_118, w20_121, w20_122, w20_125, w20_127, w20_130, ma_kC_s, ma_if_f, ma_gf_ap, ma_pf_ap, ma_nt_0, ma_nt_s, ma_kV_ap, ma_kH_ap, List.set_cons_zero, List.set_cons_succ, List.length_cons, List.length_nil, Nat.reduceAdd, Nat.reduceLT, true_and, fa_lit, nI_add, pk_mul, pk_sub, pk_div, ma_rem_n, nI_ltI, nI_leI, nI_eq, Nat.reduceEqDiff, Nat.reduceMul, Nat.reduceSub, not_false_eq_true, not_true_eq_false, or_true, true_or, or_false, false_or, eq_self, Nat.zero_add, Nat.add_zero, f35]
        rw [ma_set_ss]
        exact ih (q + 1) (by omega) (by omega) (by rw [← e4]; exact e3)
      · have eq' : q = gsp isLe tx (s + 1) := by rw [← e3]; exact (gsp_n (fun g => decide_eq_false n)).symm
        simp (disch := omega) only [w20_0, w20_1, w20_4, w20_5, w20_8, w20_11, w20_14, w20_15, w20_18, w20_19, w20_22, w20_25, w20_28, w20_31, w20_32, w20_32i, w20_33, w20_36, w20_37, w20_38, w20_41, w20_45, w20_48, w20_49, w20_52, w20_53, w20_56, w20_58, w20_61, w20_64, w20_65, w20_66, w20_69, w20_72, w20_73, w20_76, w20_77, w20_80, w20_81, w20_84, w20_86, w20_89, w20_92, w20_93, w20_94, w20_97, w20_100, w20_101, w20_102, w20_105, w20_106, w20_109, w20_110, w20_113, w20_115, w20_118, w20_121, w20_122, w20_125, w20_127, w20_130, ma_kV_ap, ma_kC_s, ma_kC_n, ma_kH_ap, ma_gf_ap, ma_pf_ap, ma_cv_ap, ma_nt_0, ma_nt_s, ma_if_t, ma_if_f, ma_set_s, ma_set_ss, ma_set_2, ma_cat_n, ma_cat_i, ma_cat_l, ma_cat_r, ma_clr_n, ma_clr_i, ma_clr_l, ma_clr_r, ma_clr_0, ma_rf_s, ma_rf_n, ma_ial_ap, ma_ias_ap, List.set_cons_zero, List.set_cons_succ, List.length_cons, List.length_nil, Nat.reduceAdd, Nat.reduceLT, Nat.reduceLeDiff, Nat.le_refl, true_and, and_true, Nat.lt_add_one, fa_lit, nI_add, pk_mul, pk_sub, pk_div, ma_rem_n, nI_ltI, nI_leI, nI_eq, Nat.reduceEqDiff, Nat.reduceMul, Nat.reduceSub, not_false_eq_true, not_true_eq_false, or_true, true_or, or_false, false_or, eq_self, Nat.zero_add, Nat.add_zero]
        rw [eq']
        exact tail
  rw [e20]
  have := loop _ (s + 1) rfl (by omega) rfl
  rw [ma_set_id _ _ _ hR] at this
  exact this
end RD

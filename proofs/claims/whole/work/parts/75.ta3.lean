/-! the class Rows and the class Table: orders, mixing, numbers, exchange, moves up to -/
def gswap (l : List Nat) (a b : Nat) : List Nat := (l.set b (l.getD a 0)).set a (l.getD b 0)
def gord : Nat → Nat → Nat → List Nat → List Nat
  | 0, _, _, l => l
  | c + 1, p, r, l => gord c (p + 1) (r / (c + 1)) (gswap l p (p + r % (c + 1)))
theorem gswap_len (l : List Nat) (a b : Nat) : (gswap l a b).length = l.length := by unfold gswap; rw [List.length_set, List.length_set]
theorem gswap_gk {l : List Nat} {a b : Nat} (h : gk l) (ha : a < l.length) (hb : b < l.length) : gk (gswap l a b) := by
  unfold gswap
  rw [getD_at ha, getD_at hb]
  exact gk_set (gk_set h (h.2 _ (List.getElem_mem ha))) (h.2 _ (List.getElem_mem hb))
theorem gord_len : ∀ (c p r : Nat) (l : List Nat), (gord c p r l).length = l.length
  | 0, _, _, _ => rfl
  | c + 1, p, r, l => by unfold gord; rw [gord_len, gswap_len]
theorem gord_gk : ∀ (c p r : Nat) (l : List Nat), gk l → p + c ≤ l.length → gk (gord c p r l)
  | 0, _, _, _, h, _ => h
  | c + 1, p, r, l, h, hp => by
    unfold gord
    have := Nat.mod_lt r (show 0 < c + 1 by omega)
    exact gord_gk c _ _ _ (gswap_gk h (by omega) (by omega)) (by rw [gswap_len]; omega)
def gmx (h : Int64) (l : List Nat) : Int64 := l.foldl (fun h c => 31 * h + lN c) h
section RR
variable {d : Nat} {H : ma_H} {Q : ma_P}
theorem r_inOrder {l : List Nat} {n code : Nat} (hl : gk l) (hn : n ≤ l.length) (hc : code < 100000) (h : Q (some (.long (enc (gord n 0 code l)))) H) : ma_MW (d + 2) 208 [.long (enc l), .int (nI n), .int (nI code)] H Q := by
  have h16 := hl.1
  have loop : ∀ c p r m, n - p = c → p ≤ n → r < 100000 → gk m → m.length = l.length → gord c p r m = gord n 0 code l → ∀ o8 o9 o10, ma_W (d + 1) 208 Q 9 [some (.long (enc l)), none, some (.int (nI n)), some (.int (nI code)), some (.long (enc m)), none, some (.int (nI r)), some (.int (nI p)), o8, o9, o10] [] H 0 0 := by
    intro c
    induction c with
    | zero =>
      intro p r m h1 h2 h3 h4 h5 h6 o8 o9 o10
      have hc : (n ≤ p) = True := eq_true (by omega)
      simp (disch := omega) only [w208_0, w208_1, w208_3, w208_4, w208_6, w208_7, w208_9, w208_11, w208_12, w208_15, w208_16, w208_18, w208_19, w208_21, w208_23, w208_25, w208_27, w208_28, w208_29, w208_31, w208_33, w208_35, w208_38, w208_40, w208_42, w208_44, w208_46, w208_48, w208_51, w208_54, w208_56, w208_58, w208_60, w208_62, w208_65, w208_67, w208_69, w208_71, w208_72, w208_74, w208_77, w208_80, w208_82, ma_kV_ap, ma_kC_s, ma_kC_n, ma_kH_ap, ma_gf_ap, ma_pf_ap, ma_cv_ap, ma_nt_0, ma_nt_s, ma_if_t, ma_if_f, ma_set_s, ma_set_ss, ma_set_2, ma_cat_n, ma_cat_i, ma_cat_l, ma_cat_r, ma_clr_n, ma_clr_i, ma_clr_l, ma_clr_r, ma_clr_0, ma_rf_s, ma_rf_n, ma_ial_ap, ma_ias_ap, List.set_cons_zero, List.set_cons_succ, List.length_cons, List.length_nil, Nat.reduceAdd, Nat.reduceLT, Nat.reduceLeDiff, Nat.le_refl, true_and, and_true, Nat.lt_add_one, fa_lit, nI_add, pk_mul, pk_sub, pk_div, ma_rem_n, nI_ltI, nI_leI, nI_eq, Nat.reduceEqDiff, Nat.reduceMul, Nat.reduceSub, not_false_eq_true, not_true_eq_false, or_true, true_or, or_false, false_or, eq_self, Nat.zero_add, Nat.add_zero, hc]
      rw [← h6] at h
      exact h
    | succ c ih =>
      intro p r m h1 h2 h3 h4 h5 h6 o8 o9 o10
      have hc : (n ≤ p) = False := eq_false (by omega)
      have hne : (n - p = 0) = False := eq_false (by omega)
      have hmod : r % (n - p) < n - p := Nat.mod_lt _ (by omega)
      have hclr : ∀ (o : Option Value) (x : Int32), ma_clr (some (.int x)) = some (.int x) := fun _ _ => rfl
      simp (disch := omega) only [w208_0, w208_1, w208_3, w208_4, w208_6, w208_7, w208_9, w208_11, w208_12, w208_15, w208_16, w208_18, w208_19, w208_21, w208_23, w208_25, w208_27, w208_28, w208_29, w208_31, w208_33, w208_35, w208_38, w208_40, w208_42, w208_44, w208_46, w208_48, w208_51, w208_54, w208_56, w208_58, w208_60, w208_62, w208_65, w208_67, w208_69, w208_71, w208_72, w208_74, w208_77, w208_80, w208_82, ma_kV_ap, ma_kC_s, ma_kC_n, ma_kH_ap, ma_gf_ap, ma_pf_ap, ma_cv_ap, ma_nt_0, ma_nt_s, ma_if_t, ma_if_f, ma_set_s, ma_set_ss, ma_set_2, ma_cat_n, ma_cat_i, ma_cat_l, ma_cat_r, ma_clr_n, ma_clr_i, ma_clr_l, ma_clr_r, ma_clr_0, ma_rf_s, ma_rf_n, ma_ial_ap, ma_ias_ap, List.set_cons_zero, List.set_cons_succ, List.length_cons, List.length_nil, Nat.reduceAdd, Nat.reduceLT, Nat.reduceLeDiff, Nat.le_refl, true_and, and_true, Nat.lt_add_one, fa_lit, nI_add, pk_mul, pk_sub, pk_div, ma_rem_n, nI_ltI, nI_leI, nI_eq, Nat.reduceEqDiff, Nat.reduceMul, Nat.reduceSub, not_false_eq_true, not_true_eq_false, or_true, true_or, or_false, false_or, eq_self, Nat.zero_add, Nat.add_zero, hc, hne]
      refine r_at h4 (by omega) ?_
      simp (disch := omega) only [w208_0, w208_1, w208_3, w208_4, w208_6, w208_7, w208_9, w208_11, w208_12, w208_15, w208_16, w208_18, w208_19, w208_21, w208_23, w208_25, w208_27, w208_28, w208_29, w208_31, w208_33, w208_35, w208_38, w208_40, w208_42, w208_44, w208_46, w208_48, w208_51, w208_54, w208_56, w208_58, w208_60, w208_62, w208_65, w208_67, w208_69, w208_71, w208_72, w208_74, w208_77, w208_80, w208_82, ma_kV_ap, ma_kC_s, ma_kC_n, ma_kH_ap, ma_gf_ap, ma_pf_ap, ma_cv_ap, ma_nt_0, ma_nt_s, ma_if_t, ma_if_f, ma_set_s, ma_set_ss, ma_set_2, ma_cat_n, ma_cat_i, ma_cat_l, ma_cat_r, ma_clr_n, ma_clr_i, ma_clr_l, ma_clr_r, ma_clr_0, ma_rf_s, ma_rf_n, ma_ial_ap, ma_ias_ap, List.set_cons_zero, List.set_cons_succ, List.length_cons, List.length_nil, Nat.reduceAdd, Nat.reduceLT, Nat.reduceLeDiff, Nat.le_refl, true_and, and_true, Nat.lt_add_one, fa_lit, nI_add, pk_mul, pk_sub, pk_div, ma_rem_n, nI_ltI, nI_leI, nI_eq, Nat.reduceEqDiff, Nat.reduceMul, Nat.reduceSub, not_false_eq_true, not_true_eq_false, or_true, true_or, or_false, false_or, eq_self, Nat.zero_add, Nat.add_zero]
      refine r_at h4 (by omega) ?_
      simp (disch := omega) only [w208_0, w208_1, w208_3, w208_4, w208_6, w208_7, w208_9, w208_11, w208_12, w208_15, w208_16, w208_18, w208_19, w208_21, w208_23, w208_25, w208_27, w208_28, w208_29, w208_31, w208_33, w208_35, w208_38, w208_40, w208_42, w208_44, w208_46, w208_48, w208_51, w208_54, w208_56, w208_58, w208_60, w208_62, w208_65, w208_67, w208_69, w208_71, w208_72, w208_74, w208_77, w208_80, w208_82, ma_kV_ap, ma_kC_s, ma_kC_n, ma_kH_ap, ma_gf_ap, ma_pf_ap, ma_cv_ap, ma_nt_0, ma_nt_s, ma_if_t, ma_if_f, ma_set_s, ma_set_ss, ma_set_2, ma_cat_n, ma_cat_i, ma_cat_l, ma_cat_r, ma_clr_n, ma_clr_i, ma_clr_l, ma_clr_r, ma_clr_0, ma_rf_s, ma_rf_n, ma_ial_ap, ma_ias_ap, List.set_cons_zero, List.set_cons_succ, List.length_cons, List.length_nil, Nat.reduceAdd, Nat.reduceLT, Nat.reduceLeDiff, Nat.le_refl, true_and, and_true, Nat.lt_add_one, fa_lit, nI_add, pk_mul, pk_sub, pk_div, ma_rem_n, nI_ltI, nI_leI, nI_eq, Nat.reduceEqDiff, Nat.reduceMul, Nat.reduceSub, not_false_eq_true, not_true_eq_false, or_true, true_or, or_false, false_or, eq_self, Nat.zero_add, Nat.add_zero]
      have k1 : m[p] < 6 := h4.2 _ (List.getElem_mem (by omega))
      have k2 : m[p + r % (n - p)] < 6 := h4.2 _ (List.getElem_mem (by omega))
      refine r_put h4 (by omega) k1 ?_
      simp (disch := omega) only [w208_0, w208_1, w208_3, w208_4, w208_6, w208_7, w208_9, w208_11, w208_12, w208_15, w208_16, w208_18, w208_19, w208_21, w208_23, w208_25, w208_27, w208_28, w208_29, w208_31, w208_33, w208_35, w208_38, w208_40, w208_42, w208_44, w208_46, w208_48, w208_51, w208_54, w208_56, w208_58, w208_60, w208_62, w208_65, w208_67, w208_69, w208_71, w208_72, w208_74, w208_77, w208_80, w208_82, ma_kV_ap, ma_kC_s, ma_kC_n, ma_kH_ap, ma_gf_ap, ma_pf_ap, ma_cv_ap, ma_nt_0, ma_nt_s, ma_if_t, ma_if_f, ma_set_s, ma_set_ss, ma_set_2, ma_cat_n, ma_cat_i, ma_cat_l, ma_cat_r, ma_clr_n, ma_clr_i, ma_clr_l, ma_clr_r, ma_clr_0, ma_rf_s, ma_rf_n, ma_ial_ap, ma_ias_ap, List.set_cons_zero, List.set_cons_succ, List.length_cons, List.length_nil, Nat.reduceAdd, Nat.reduceLT, Nat.reduceLeDiff, Nat.le_refl, true_and, and_true, Nat.lt_add_one, fa_lit, nI_add, pk_mul, pk_sub, pk_div, ma_rem_n, nI_ltI, nI_leI, nI_eq, Nat.reduceEqDiff, Nat.reduceMul, Nat.reduceSub, not_false_eq_true, not_true_eq_false, or_true, true_or, or_false, false_or, eq_self, Nat.zero_add, Nat.add_zero]
      refine r_put (gk_set h4 k1) (by rw [List.length_set]; omega) k2 ?_
      have hne2 : (n - p = 0) = False := eq_false (by omega)
      simp (disch := omega) only [w208_0, w208_1, w208_3, w208_4, w208_6, w208_7, w208_11, w208_12, w208_15, w208_16, w208_18, w208_19, w208_21, w208_23, w208_25, w208_27, w208_28, w208_29, w208_31, w208_33, w208_35, w208_38, w208_40, w208_42, w208_44, w208_46, w208_48, w208_51, w208_54, w208_56, w208_58, w208_60, w208_62, w208_65, w208_67, w208_69, w208_71, w208_72, w208_74, w208_77, w208_80, w208_82, ma_kV_ap, ma_kC_s, ma_kC_n, ma_kH_ap, ma_gf_ap, ma_pf_ap, ma_cv_ap, ma_nt_0, ma_nt_s, ma_if_t, ma_if_f, ma_set_s, ma_set_ss, ma_set_2, ma_cat_n, ma_cat_i, ma_cat_l, ma_cat_r, ma_clr_n, ma_clr_i, ma_clr_l, ma_clr_r, ma_clr_0, ma_rf_s, ma_rf_n, ma_ial_ap, ma_ias_ap, List.set_cons_zero, List.set_cons_succ, List.length_cons, List.length_nil, Nat.reduceAdd, Nat.reduceLT, Nat.reduceLeDiff, Nat.le_refl, true_and, and_true, Nat.lt_add_one, fa_lit, nI_add, pk_mul, pk_sub, pk_div, ma_rem_n, nI_ltI, nI_leI, nI_eq, Nat.reduceEqDiff, Nat.reduceMul, Nat.reduceSub, not_false_eq_true, not_true_eq_false, or_true, true_or, or_false, false_or, eq_self, Nat.zero_add, Nat.add_zero, hne2]
      refine ih (p + 1) (r / (n - p)) _ (by omega) (by omega) (Nat.lt_of_le_of_lt (Nat.div_le_self _ _) h3) (gk_set (gk_set h4 k1) k2) (by rw [List.length_set, List.length_set]; exact h5) ?_ _ _ _
      have e : gord (c + 1) p r m = gord c (p + 1) (r / (c + 1)) (gswap m p (p + r % (c + 1))) := rfl
      rw [← h6, e, show c + 1 = n - p by omega]
      unfold gswap
      rw [getD_at (show p < m.length by omega), getD_at (show p + r % (n - p) < m.length by omega)]
  rw [e208]
  simp (disch := omega) only [w208_0, w208_1, w208_3, w208_4, w208_6, w208_7, w208_11, w208_12, w208_15, w208_16, w208_18, w208_19, w208_21, w208_23, w208_25, w208_27, w208_28, w208_29, w208_31, w208_33, w208_35, w208_38, w208_40, w208_42, w208_44, w208_46, w208_48, w208_51, w208_54, w208_56, w208_58, w208_60, w208_62, w208_65, w208_67, w208_69, w208_71, w208_72, w208_74, w208_77, w208_80, w208_82, ma_kV_ap, ma_kC_s, ma_kC_n, ma_kH_ap, ma_gf_ap, ma_pf_ap, ma_cv_ap, ma_nt_0, ma_nt_s, ma_if_t, ma_if_f, ma_set_s, ma_set_ss, ma_set_2, ma_cat_n, ma_cat_i, ma_cat_l, ma_cat_r, ma_clr_n, ma_clr_i, ma_clr_l, ma_clr_r, ma_clr_0, ma_rf_s, ma_rf_n, ma_ial_ap, ma_ias_ap, List.set_cons_zero, List.set_cons_succ, List.length_cons, List.length_nil, Nat.reduceAdd, Nat.reduceLT, Nat.reduceLeDiff, Nat.le_refl, true_and, and_true, Nat.lt_add_one, fa_lit, nI_add, pk_mul, pk_sub, pk_div, ma_rem_n, nI_ltI, nI_leI, nI_eq, Nat.reduceEqDiff, Nat.reduceMul, Nat.reduceSub, not_false_eq_true, not_true_eq_false, or_true, true_or, or_false, false_or, eq_self, Nat.zero_add, Nat.add_zero]
  exact loop n 0 code l rfl (Nat.zero_le _) hc hl rfl rfl _ _ _
theorem gmx_s {l : List Nat} {h : Int64} {k : Nat} (hk : k < l.length) : gmx h (l.take (k + 1)) = 31 * gmx h (l.take k) + lN l[k] := by
  unfold gmx
  rw [List.take_succ, List.getElem?_eq_getElem hk, List.foldl_append]
  rfl
theorem r_mixInto {l : List Nat} {h : Int64} (hl : gk l) (hq : Q (some (.long (gmx h l))) H) : ma_MW (d + 2) 209 [.long h, .long (enc l)] H Q := by
  have h16 := hl.1
  have loop : ∀ m k, l.length - k = m → k ≤ l.length → ma_W (d + 1) 209 Q 6 [some (.long h), none, some (.long (enc l)), none, some (.long (gmx h (l.take k))), none, some (.int (nI k))] [] H 0 0 := by
    intro m
    induction m with
    | zero =>
      intro k g1 g2
      have hc : (l.length ≤ k) = True := eq_true (by omega)
      simp (disch := omega) only [w209_0, w209_1, w209_3, w209_4, w209_6, w209_8, w209_9, w209_12, w209_15, w209_18, w209_20, w209_21, w209_22, w209_24, w209_27, w209_28, w209_29, w209_31, w209_34, w209_37, w209_39, ma_kV_ap, ma_kC_s, ma_kC_n, ma_kH_ap, ma_gf_ap, ma_pf_ap, ma_cv_ap, ma_nt_0, ma_nt_s, ma_if_t, ma_if_f, ma_set_s, ma_set_ss, ma_set_2, ma_cat_n, ma_cat_i, ma_cat_l, ma_cat_r, ma_clr_n, ma_clr_i, ma_clr_l, ma_clr_r, ma_clr_0, ma_rf_s, ma_rf_n, ma_ial_ap, ma_ias_ap, List.set_cons_zero, List.set_cons_succ, List.length_cons, List.length_nil, Nat.reduceAdd, Nat.reduceLT, Nat.reduceLeDiff, Nat.le_refl, true_and, and_true, Nat.lt_add_one]
      refine r_size hl ?_
      simp (disch := omega) only [w209_0, w209_1, w209_3, w209_4, w209_6, w209_8, w209_9, w209_12, w209_15, w209_18, w209_20, w209_21, w209_22, w209_24, w209_27, w209_28, w209_29, w209_31, w209_34, w209_37, w209_39, ma_kV_ap, ma_kC_s, ma_kC_n, ma_kH_ap, ma_gf_ap, ma_pf_ap, ma_cv_ap, ma_nt_0, ma_nt_s, ma_if_t, ma_if_f, ma_set_s, ma_set_ss, ma_set_2, ma_cat_n, ma_cat_i, ma_cat_l, ma_cat_r, ma_clr_n, ma_clr_i, ma_clr_l, ma_clr_r, ma_clr_0, ma_rf_s, ma_rf_n, ma_ial_ap, ma_ias_ap, List.set_cons_zero, List.set_cons_succ, List.length_cons, List.length_nil, Nat.reduceAdd, Nat.reduceLT, Nat.reduceLeDiff, Nat.le_refl, true_and, and_true, Nat.lt_add_one, fa_lit, nI_add, pk_mul, pk_sub, pk_div, ma_rem_n, nI_ltI, nI_leI, nI_eq, Nat.reduceEqDiff, Nat.reduceMul, Nat.reduceSub, not_false_eq_true, not_true_eq_false, or_true, true_or, or_false, false_or, eq_self, Nat.zero_add, Nat.add_zero, hc]
      rw [List.take_of_length_le (by omega)]
      exact hq
    | succ m ih =>
      intro k g1 g2
      have hlt : k < l.length := by omega
      have hc : (l.length ≤ k) = False := eq_false (by omega)
      simp (disch := omega) only [w209_0, w209_1, w209_3, w209_4, w209_6, w209_8, w209_9, w209_12, w209_15, w209_18, w209_20, w209_21, w209_22, w209_24, w209_27, w209_28, w209_29, w209_31, w209_34, w209_37, w209_39, ma_kV_ap, ma_kC_s, ma_kC_n, ma_kH_ap, ma_gf_ap, ma_pf_ap, ma_cv_ap, ma_nt_0, ma_nt_s, ma_if_t, ma_if_f, ma_set_s, ma_set_ss, ma_set_2, ma_cat_n, ma_cat_i, ma_cat_l, ma_cat_r, ma_clr_n, ma_clr_i, ma_clr_l, ma_clr_r, ma_clr_0, ma_rf_s, ma_rf_n, ma_ial_ap, ma_ias_ap, List.set_cons_zero, List.set_cons_succ, List.length_cons, List.length_nil, Nat.reduceAdd, Nat.reduceLT, Nat.reduceLeDiff, Nat.le_refl, true_and, and_true, Nat.lt_add_one]
      refine r_size hl ?_
      simp (disch := omega) only [w209_0, w209_1, w209_3, w209_4, w209_6, w209_8, w209_9, w209_12, w209_15, w209_18, w209_20, w209_21, w209_22, w209_24, w209_27, w209_28, w209_29, w209_31, w209_34, w209_37, w209_39, ma_kV_ap, ma_kC_s, ma_kC_n, ma_kH_ap, ma_gf_ap, ma_pf_ap, ma_cv_ap, ma_nt_0, ma_nt_s, ma_if_t, ma_if_f, ma_set_s, ma_set_ss, ma_set_2, ma_cat_n, ma_cat_i, ma_cat_l, ma_cat_r, ma_clr_n, ma_clr_i, ma_clr_l, ma_clr_r, ma_clr_0, ma_rf_s, ma_rf_n, ma_ial_ap, ma_ias_ap, List.set_cons_zero, List.set_cons_succ, List.length_cons, List.length_nil, Nat.reduceAdd, Nat.reduceLT, Nat.reduceLeDiff, Nat.le_refl, true_and, and_true, Nat.lt_add_one, fa_lit, nI_add, pk_mul, pk_sub, pk_div, ma_rem_n, nI_ltI, nI_leI, nI_eq, Nat.reduceEqDiff, Nat.reduceMul, Nat.reduceSub, not_false_eq_true, not_true_eq_false, or_true, true_or, or_false, false_or, eq_self, Nat.zero_add, Nat.add_zero, hc]
      refine r_at hl hlt ?_
      have hc6 := hl.2 _ (List.getElem_mem hlt)
      have i0 : (nI l[k]).toInt64 = lN l[k] := nI_l (by omega)
      simp (disch := omega) only [w209_0, w209_1, w209_3, w209_4, w209_8, w209_9, w209_12, w209_15, w209_18, w209_20, w209_21, w209_22, w209_24, w209_27, w209_28, w209_29, w209_31, w209_34, w209_37, w209_39, ma_kV_ap, ma_kC_s, ma_kC_n, ma_kH_ap, ma_gf_ap, ma_pf_ap, ma_cv_ap, ma_nt_0, ma_nt_s, ma_if_t, ma_if_f, ma_set_s, ma_set_ss, ma_set_2, ma_cat_n, ma_cat_i, ma_cat_l, ma_cat_r, ma_clr_n, ma_clr_i, ma_clr_l, ma_clr_r, ma_clr_0, ma_rf_s, ma_rf_n, ma_ial_ap, ma_ias_ap, List.set_cons_zero, List.set_cons_succ, List.length_cons, List.length_nil, Nat.reduceAdd, Nat.reduceLT, Nat.reduceLeDiff, Nat.le_refl, true_and, and_true, Nat.lt_add_one, fa_lit, nI_add, pk_mul, pk_sub, pk_div, ma_rem_n, nI_ltI, nI_leI, nI_eq, Nat.reduceEqDiff, Nat.reduceMul, Nat.reduceSub, not_false_eq_true, not_true_eq_false, or_true, true_or, or_false, false_or, eq_self, Nat.zero_add, Nat.add_zero, i0]
      have := ih (k + 1) (by omega) (by omega)
      rw [gmx_s hlt] at this
      exact this
  rw [e209]
  simp (disch := omega) only [w209_0, w209_1, w209_3, w209_4, w209_8, w209_9, w209_12, w209_15, w209_18, w209_20, w209_21, w209_22, w209_24, w209_27, w209_28, w209_29, w209_31, w209_34, w209_37, w209_39, ma_kV_ap, ma_kC_s, ma_kC_n, ma_kH_ap, ma_gf_ap, ma_pf_ap, ma_cv_ap, ma_nt_0, ma_nt_s, ma_if_t, ma_if_f, ma_set_s, ma_set_ss, ma_set_2, ma_cat_n, ma_cat_i, ma_cat_l, ma_cat_r, ma_clr_n, ma_clr_i, ma_clr_l, ma_clr_r, ma_clr_0, ma_rf_s, ma_rf_n, ma_ial_ap, ma_ias_ap, List.set_cons_zero, List.set_cons_succ, List.length_cons, List.length_nil, Nat.reduceAdd, Nat.reduceLT, Nat.reduceLeDiff, Nat.le_refl, true_and, and_true, Nat.lt_add_one, fa_lit, nI_add, pk_mul, pk_sub, pk_div, ma_rem_n, nI_ltI, nI_leI, nI_eq, Nat.reduceEqDiff, Nat.reduceMul, Nat.reduceSub, not_false_eq_true, not_true_eq_false, or_true, true_or, or_false, false_or, eq_self, Nat.zero_add, Nat.add_zero]
  exact loop _ 0 rfl (Nat.zero_le _)
variable {i : Nat} {t : ga_T}
/-- the numbers that count tells under 0 to 9 -/
def gnum (t : ga_T) (w : Nat) : Nat := match t with
  | (kz, ko, hz, ho, pl, tu, db, mv, tz, to) => if w = 0 then hz.length else if w = 1 then ho.length else if w = 2 then pl.length else if w = 3 then tu else if w = 4 then db else if w = 5 then mv else if w = 6 then tz else if w = 7 then to else if w = 8 then kz else ko
theorem t_number {w : Nat} (hw : w < 10) (hok : ga_ok t) (hT : H.1 i = tabC t) (h : Q (some (.int (nI (gnum t w)))) H) : ma_MW (d + 2) 44 [.ref i, .int (nI w)] H Q := by
  obtain ⟨kz, ko, hz, ho, pl, tu, db, mv, tz, to⟩ := t
  obtain ⟨a1, a2, a3, a4, a5, a6, a7, a8, a9, a10⟩ := hok
  have hT2 := hT
  unfold tabC at hT2
  rw [e44]
  simp only [w44_0, w44_1, w44_44, w44_45, w44_48, w44_49, w44_50, w44_53, w44_54, w44_55, w44_58, w44_59, w44_60, w44_63, w44_64, w44_65, w44_68, w44_69, w44_70, w44_73, w44_74, w44_75, w44_78, w44_79, w44_80, w44_81, w44_84, w44_87, ma_kV_ap, ma_kC_s, ma_kC_n, ma_kH_ap, ma_gf_ap, ma_pf_ap, ma_cv_ap, ma_nt_0, ma_nt_s, ma_if_t, ma_if_f, ma_set_s, ma_set_ss, ma_set_2, ma_cat_n, ma_cat_i, ma_cat_l, ma_cat_r, ma_clr_n, ma_clr_i, ma_clr_l, ma_clr_r, ma_clr_0, ma_rf_s, ma_rf_n, ma_ial_ap, ma_ias_ap, List.set_cons_zero, List.set_cons_succ, List.length_cons, List.length_nil, Nat.reduceAdd, Nat.reduceLT, Nat.reduceLeDiff, Nat.le_refl, true_and, and_true, Nat.lt_add_one]
  rcases (show w = 0 ∨ w = 1 ∨ w = 2 ∨ w = 3 ∨ w = 4 ∨ w = 5 ∨ w = 6 ∨ w = 7 ∨ w = 8 ∨ w = 9 by omega) with rfl | rfl | rfl | rfl | rfl | rfl | rfl | rfl | rfl | rfl
  · rw [ma_sw_out (by decide)]; simp (disch := omega) only [w44_0, w44_1, w44_44, w44_45, w44_48, w44_49, w44_50, w44_53, w44_54, w44_55, w44_58, w44_59, w44_60, w44_63, w44_64, w44_65, w44_68, w44_69, w44_70, w44_73, w44_74, w44_75, w44_78, w44_79, w44_80, w44_81, w44_84, w44_87, ma_kV_ap, ma_kC_s, ma_kC_n, ma_kH_ap, ma_gf_ap, ma_pf_ap, ma_cv_ap, ma_nt_0, ma_nt_s, ma_if_t, ma_if_f, ma_set_s, ma_set_ss, ma_set_2, ma_cat_n, ma_cat_i, ma_cat_l, ma_cat_r, ma_clr_n, ma_clr_i, ma_clr_l, ma_clr_r, ma_clr_0, ma_rf_s, ma_rf_n, ma_ial_ap, ma_ias_ap, List.set_cons_zero, List.set_cons_succ, List.length_cons, List.length_nil, Nat.reduceAdd, Nat.reduceLT, Nat.reduceLeDiff, Nat.le_refl, true_and, and_true, Nat.lt_add_one, hT2]
    refine t_row (by omega) hT ?_
    simp (disch := omega) only [w44_0, w44_1, w44_44, w44_45, w44_48, w44_49, w44_50, w44_53, w44_54, w44_55, w44_58, w44_59, w44_60, w44_63, w44_64, w44_65, w44_68, w44_69, w44_70, w44_73, w44_74, w44_75, w44_78, w44_79, w44_80, w44_81, w44_84, w44_87, ma_kV_ap, ma_kC_s, ma_kC_n, ma_kH_ap, ma_gf_ap, ma_pf_ap, ma_cv_ap, ma_nt_0, ma_nt_s, ma_if_t, ma_if_f, ma_set_s, ma_set_ss, ma_set_2, ma_cat_n, ma_cat_i, ma_cat_l, ma_cat_r, ma_clr_n, ma_clr_i, ma_clr_l, ma_clr_r, ma_clr_0, ma_rf_s, ma_rf_n, ma_ial_ap, ma_ias_ap, List.set_cons_zero, List.set_cons_succ, List.length_cons, List.length_nil, Nat.reduceAdd, Nat.reduceLT, Nat.reduceLeDiff, Nat.le_refl, true_and, and_true, Nat.lt_add_one]
    refine r_size (l := hz) ⟨by omega, a3⟩ ?_
    simp (disch := omega) only [w44_0, w44_1, w44_44, w44_45, w44_48, w44_49, w44_50, w44_53, w44_54, w44_55, w44_58, w44_59, w44_60, w44_63, w44_64, w44_65, w44_68, w44_69, w44_70, w44_73, w44_74, w44_75, w44_78, w44_79, w44_80, w44_81, w44_84, w44_87, ma_kV_ap, ma_kC_s, ma_kC_n, ma_kH_ap, ma_gf_ap, ma_pf_ap, ma_cv_ap, ma_nt_0, ma_nt_s, ma_if_t, ma_if_f, ma_set_s, ma_set_ss, ma_set_2, ma_cat_n, ma_cat_i, ma_cat_l, ma_cat_r, ma_clr_n, ma_clr_i, ma_clr_l, ma_clr_r, ma_clr_0, ma_rf_s, ma_rf_n, ma_ial_ap, ma_ias_ap, List.set_cons_zero, List.set_cons_succ, List.length_cons, List.length_nil, Nat.reduceAdd, Nat.reduceLT, Nat.reduceLeDiff, Nat.le_refl, true_and, and_true, Nat.lt_add_one]; exact h
  · rw [ma_sw_out (by decide)]; simp (disch := omega) only [w44_0, w44_1, w44_44, w44_45, w44_48, w44_49, w44_50, w44_53, w44_54, w44_55, w44_58, w44_59, w44_60, w44_63, w44_64, w44_65, w44_68, w44_69, w44_70, w44_73, w44_74, w44_75, w44_78, w44_79, w44_80, w44_81, w44_84, w44_87, ma_kV_ap, ma_kC_s, ma_kC_n, ma_kH_ap, ma_gf_ap, ma_pf_ap, ma_cv_ap, ma_nt_0, ma_nt_s, ma_if_t, ma_if_f, ma_set_s, ma_set_ss, ma_set_2, ma_cat_n, ma_cat_i, ma_cat_l, ma_cat_r, ma_clr_n, ma_clr_i, ma_clr_l, ma_clr_r, ma_clr_0, ma_rf_s, ma_rf_n, ma_ial_ap, ma_ias_ap, List.set_cons_zero, List.set_cons_succ, List.length_cons, List.length_nil, Nat.reduceAdd, Nat.reduceLT, Nat.reduceLeDiff, Nat.le_refl, true_and, and_true, Nat.lt_add_one, hT2]
    refine t_row (by omega) hT ?_
    simp (disch := omega) only [w44_0, w44_1, w44_44, w44_45, w44_48, w44_49, w44_50, w44_53, w44_54, w44_55, w44_58, w44_59, w44_60, w44_63, w44_64, w44_65, w44_68, w44_69, w44_70, w44_73, w44_74, w44_75, w44_78, w44_79, w44_80, w44_81, w44_84, w44_87, ma_kV_ap, ma_kC_s, ma_kC_n, ma_kH_ap, ma_gf_ap, ma_pf_ap, ma_cv_ap, ma_nt_0, ma_nt_s, ma_if_t, ma_if_f, ma_set_s, ma_set_ss, ma_set_2, ma_cat_n, ma_cat_i, ma_cat_l, ma_cat_r, ma_clr_n, ma_clr_i, ma_clr_l, ma_clr_r, ma_clr_0, ma_rf_s, ma_rf_n, ma_ial_ap, ma_ias_ap, List.set_cons_zero, List.set_cons_succ, List.length_cons, List.length_nil, Nat.reduceAdd, Nat.reduceLT, Nat.reduceLeDiff, Nat.le_refl, true_and, and_true, Nat.lt_add_one]
    refine r_size (l := ho) ⟨by omega, a4⟩ ?_
    simp (disch := omega) only [w44_0, w44_1, w44_44, w44_45, w44_48, w44_49, w44_50, w44_53, w44_54, w44_55, w44_58, w44_59, w44_60, w44_63, w44_64, w44_65, w44_68, w44_69, w44_70, w44_73, w44_74, w44_75, w44_78, w44_79, w44_80, w44_81, w44_84, w44_87, ma_kV_ap, ma_kC_s, ma_kC_n, ma_kH_ap, ma_gf_ap, ma_pf_ap, ma_cv_ap, ma_nt_0, ma_nt_s, ma_if_t, ma_if_f, ma_set_s, ma_set_ss, ma_set_2, ma_cat_n, ma_cat_i, ma_cat_l, ma_cat_r, ma_clr_n, ma_clr_i, ma_clr_l, ma_clr_r, ma_clr_0, ma_rf_s, ma_rf_n, ma_ial_ap, ma_ias_ap, List.set_cons_zero, List.set_cons_succ, List.length_cons, List.length_nil, Nat.reduceAdd, Nat.reduceLT, Nat.reduceLeDiff, Nat.le_refl, true_and, and_true, Nat.lt_add_one]; exact h
  · rw [ma_sw_out (by decide)]; simp (disch := omega) only [w44_0, w44_1, w44_44, w44_45, w44_48, w44_49, w44_50, w44_53, w44_54, w44_55, w44_58, w44_59, w44_60, w44_63, w44_64, w44_65, w44_68, w44_69, w44_70, w44_73, w44_74, w44_75, w44_78, w44_79, w44_80, w44_81, w44_84, w44_87, ma_kV_ap, ma_kC_s, ma_kC_n, ma_kH_ap, ma_gf_ap, ma_pf_ap, ma_cv_ap, ma_nt_0, ma_nt_s, ma_if_t, ma_if_f, ma_set_s, ma_set_ss, ma_set_2, ma_cat_n, ma_cat_i, ma_cat_l, ma_cat_r, ma_clr_n, ma_clr_i, ma_clr_l, ma_clr_r, ma_clr_0, ma_rf_s, ma_rf_n, ma_ial_ap, ma_ias_ap, List.set_cons_zero, List.set_cons_succ, List.length_cons, List.length_nil, Nat.reduceAdd, Nat.reduceLT, Nat.reduceLeDiff, Nat.le_refl, true_and, and_true, Nat.lt_add_one, hT2]
    refine t_row (by omega) hT ?_
    simp (disch := omega) only [w44_0, w44_1, w44_44, w44_45, w44_48, w44_49, w44_50, w44_53, w44_54, w44_55, w44_58, w44_59, w44_60, w44_63, w44_64, w44_65, w44_68, w44_69, w44_70, w44_73, w44_74, w44_75, w44_78, w44_79, w44_80, w44_81, w44_84, w44_87, ma_kV_ap, ma_kC_s, ma_kC_n, ma_kH_ap, ma_gf_ap, ma_pf_ap, ma_cv_ap, ma_nt_0, ma_nt_s, ma_if_t, ma_if_f, ma_set_s, ma_set_ss, ma_set_2, ma_cat_n, ma_cat_i, ma_cat_l, ma_cat_r, ma_clr_n, ma_clr_i, ma_clr_l, ma_clr_r, ma_clr_0, ma_rf_s, ma_rf_n, ma_ial_ap, ma_ias_ap, List.set_cons_zero, List.set_cons_succ, List.length_cons, List.length_nil, Nat.reduceAdd, Nat.reduceLT, Nat.reduceLeDiff, Nat.le_refl, true_and, and_true, Nat.lt_add_one]
    refine r_size (l := pl) ⟨by omega, a5⟩ ?_
    simp (disch := omega) only [w44_0, w44_1, w44_44, w44_45, w44_48, w44_49, w44_50, w44_53, w44_54, w44_55, w44_58, w44_59, w44_60, w44_63, w44_64, w44_65, w44_68, w44_69, w44_70, w44_73, w44_74, w44_75, w44_78, w44_79, w44_80, w44_81, w44_84, w44_87, ma_kV_ap, ma_kC_s, ma_kC_n, ma_kH_ap, ma_gf_ap, ma_pf_ap, ma_cv_ap, ma_nt_0, ma_nt_s, ma_if_t, ma_if_f, ma_set_s, ma_set_ss, ma_set_2, ma_cat_n, ma_cat_i, ma_cat_l, ma_cat_r, ma_clr_n, ma_clr_i, ma_clr_l, ma_clr_r, ma_clr_0, ma_rf_s, ma_rf_n, ma_ial_ap, ma_ias_ap, List.set_cons_zero, List.set_cons_succ, List.length_cons, List.length_nil, Nat.reduceAdd, Nat.reduceLT, Nat.reduceLeDiff, Nat.le_refl, true_and, and_true, Nat.lt_add_one]; exact h
  · rw [ma_sw_at 0 44 rfl (by decide)]; simp only [w44_0, w44_1, w44_44, w44_45, w44_48, w44_49, w44_50, w44_53, w44_54, w44_55, w44_58, w44_59, w44_60, w44_63, w44_64, w44_65, w44_68, w44_69, w44_70, w44_73, w44_74, w44_75, w44_78, w44_79, w44_80, w44_81, w44_84, w44_87, ma_kV_ap, ma_kC_s, ma_kC_n, ma_kH_ap, ma_gf_ap, ma_pf_ap, ma_cv_ap, ma_nt_0, ma_nt_s, ma_if_t, ma_if_f, ma_set_s, ma_set_ss, ma_set_2, ma_cat_n, ma_cat_i, ma_cat_l, ma_cat_r, ma_clr_n, ma_clr_i, ma_clr_l, ma_clr_r, ma_clr_0, ma_rf_s, ma_rf_n, ma_ial_ap, ma_ias_ap, List.set_cons_zero, List.set_cons_succ, List.length_cons, List.length_nil, Nat.reduceAdd, Nat.reduceLT, Nat.reduceLeDiff, Nat.le_refl, true_and, and_true, Nat.lt_add_one, hT2]; exact h
  · rw [ma_sw_at 1 49 rfl (by decide)]; simp only [w44_0, w44_1, w44_44, w44_45, w44_48, w44_49, w44_50, w44_53, w44_54, w44_55, w44_58, w44_59, w44_60, w44_63, w44_64, w44_65, w44_68, w44_69, w44_70, w44_73, w44_74, w44_75, w44_78, w44_79, w44_80, w44_81, w44_84, w44_87, ma_kV_ap, ma_kC_s, ma_kC_n, ma_kH_ap, ma_gf_ap, ma_pf_ap, ma_cv_ap, ma_nt_0, ma_nt_s, ma_if_t, ma_if_f, ma_set_s, ma_set_ss, ma_set_2, ma_cat_n, ma_cat_i, ma_cat_l, ma_cat_r, ma_clr_n, ma_clr_i, ma_clr_l, ma_clr_r, ma_clr_0, ma_rf_s, ma_rf_n, ma_ial_ap, ma_ias_ap, List.set_cons_zero, List.set_cons_succ, List.length_cons, List.length_nil, Nat.reduceAdd, Nat.reduceLT, Nat.reduceLeDiff, Nat.le_refl, true_and, and_true, Nat.lt_add_one, hT2]; exact h
  · rw [ma_sw_at 2 54 rfl (by decide)]; simp only [w44_0, w44_1, w44_44, w44_45, w44_48, w44_49, w44_50, w44_53, w44_54, w44_55, w44_58, w44_59, w44_60, w44_63, w44_64, w44_65, w44_68, w44_69, w44_70, w44_73, w44_74, w44_75, w44_78, w44_79, w44_80, w44_81, w44_84, w44_87, ma_kV_ap, ma_kC_s, ma_kC_n, ma_kH_ap, ma_gf_ap, ma_pf_ap, ma_cv_ap, ma_nt_0, ma_nt_s, ma_if_t, ma_if_f, ma_set_s, ma_set_ss, ma_set_2, ma_cat_n, ma_cat_i, ma_cat_l, ma_cat_r, ma_clr_n, ma_clr_i, ma_clr_l, ma_clr_r, ma_clr_0, ma_rf_s, ma_rf_n, ma_ial_ap, ma_ias_ap, List.set_cons_zero, List.set_cons_succ, List.length_cons, List.length_nil, Nat.reduceAdd, Nat.reduceLT, Nat.reduceLeDiff, Nat.le_refl, true_and, and_true, Nat.lt_add_one, hT2]; exact h
  · rw [ma_sw_at 3 59 rfl (by decide)]; simp only [w44_0, w44_1, w44_44, w44_45, w44_48, w44_49, w44_50, w44_53, w44_54, w44_55, w44_58, w44_59, w44_60, w44_63, w44_64, w44_65, w44_68, w44_69, w44_70, w44_73, w44_74, w44_75, w44_78, w44_79, w44_80, w44_81, w44_84, w44_87, ma_kV_ap, ma_kC_s, ma_kC_n, ma_kH_ap, ma_gf_ap, ma_pf_ap, ma_cv_ap, ma_nt_0, ma_nt_s, ma_if_t, ma_if_f, ma_set_s, ma_set_ss, ma_set_2, ma_cat_n, ma_cat_i, ma_cat_l, ma_cat_r, ma_clr_n, ma_clr_i, ma_clr_l, ma_clr_r, ma_clr_0, ma_rf_s, ma_rf_n, ma_ial_ap, ma_ias_ap, List.set_cons_zero, List.set_cons_succ, List.length_cons, List.length_nil, Nat.reduceAdd, Nat.reduceLT, Nat.reduceLeDiff, Nat.le_refl, true_and, and_true, Nat.lt_add_one, hT2]; exact h
  · rw [ma_sw_at 4 64 rfl (by decide)]; simp only [w44_0, w44_1, w44_44, w44_45, w44_48, w44_49, w44_50, w44_53, w44_54, w44_55, w44_58, w44_59, w44_60, w44_63, w44_64, w44_65, w44_68, w44_69, w44_70, w44_73, w44_74, w44_75, w44_78, w44_79, w44_80, w44_81, w44_84, w44_87, ma_kV_ap, ma_kC_s, ma_kC_n, ma_kH_ap, ma_gf_ap, ma_pf_ap, ma_cv_ap, ma_nt_0, ma_nt_s, ma_if_t, ma_if_f, ma_set_s, ma_set_ss, ma_set_2, ma_cat_n, ma_cat_i, ma_cat_l, ma_cat_r, ma_clr_n, ma_clr_i, ma_clr_l, ma_clr_r, ma_clr_0, ma_rf_s, ma_rf_n, ma_ial_ap, ma_ias_ap, List.set_cons_zero, List.set_cons_succ, List.length_cons, List.length_nil, Nat.reduceAdd, Nat.reduceLT, Nat.reduceLeDiff, Nat.le_refl, true_and, and_true, Nat.lt_add_one, hT2]; exact h
  · rw [ma_sw_at 5 69 rfl (by decide)]; simp only [w44_0, w44_1, w44_44, w44_45, w44_48, w44_49, w44_50, w44_53, w44_54, w44_55, w44_58, w44_59, w44_60, w44_63, w44_64, w44_65, w44_68, w44_69, w44_70, w44_73, w44_74, w44_75, w44_78, w44_79, w44_80, w44_81, w44_84, w44_87, ma_kV_ap, ma_kC_s, ma_kC_n, ma_kH_ap, ma_gf_ap, ma_pf_ap, ma_cv_ap, ma_nt_0, ma_nt_s, ma_if_t, ma_if_f, ma_set_s, ma_set_ss, ma_set_2, ma_cat_n, ma_cat_i, ma_cat_l, ma_cat_r, ma_clr_n, ma_clr_i, ma_clr_l, ma_clr_r, ma_clr_0, ma_rf_s, ma_rf_n, ma_ial_ap, ma_ias_ap, List.set_cons_zero, List.set_cons_succ, List.length_cons, List.length_nil, Nat.reduceAdd, Nat.reduceLT, Nat.reduceLeDiff, Nat.le_refl, true_and, and_true, Nat.lt_add_one, hT2]; exact h
  · rw [ma_sw_at 6 74 rfl (by decide)]; simp only [w44_0, w44_1, w44_44, w44_45, w44_48, w44_49, w44_50, w44_53, w44_54, w44_55, w44_58, w44_59, w44_60, w44_63, w44_64, w44_65, w44_68, w44_69, w44_70, w44_73, w44_74, w44_75, w44_78, w44_79, w44_80, w44_81, w44_84, w44_87, ma_kV_ap, ma_kC_s, ma_kC_n, ma_kH_ap, ma_gf_ap, ma_pf_ap, ma_cv_ap, ma_nt_0, ma_nt_s, ma_if_t, ma_if_f, ma_set_s, ma_set_ss, ma_set_2, ma_cat_n, ma_cat_i, ma_cat_l, ma_cat_r, ma_clr_n, ma_clr_i, ma_clr_l, ma_clr_r, ma_clr_0, ma_rf_s, ma_rf_n, ma_ial_ap, ma_ias_ap, List.set_cons_zero, List.set_cons_succ, List.length_cons, List.length_nil, Nat.reduceAdd, Nat.reduceLT, Nat.reduceLeDiff, Nat.le_refl, true_and, and_true, Nat.lt_add_one, hT2]; exact h
/-- card i of hand zero and card j of hand one change their places -/
def gexch (t : ga_T) (i j : Nat) : ga_T := match t with
  | (kz, ko, hz, ho, r) => (kz, ko, hz.set i (ho.getD j 0), ho.set j (hz.getD i 0), r)
theorem ok_exch {x y : Nat} (hok : ga_ok t) (hx : x < t.2.2.1.length) (hy : y < t.2.2.2.1.length) : ga_ok (gexch t x y) := by
  obtain ⟨kz, ko, hz, ho, pl, tu, db, mv, tz, to⟩ := t
  obtain ⟨a1, a2, a3, a4, a5, a6, a7, a8, a9, a10⟩ := hok
  have hx : x < hz.length := hx
  have hy : y < ho.length := hy
  refine ⟨a1, a2, fun c hc => ?_, fun c hc => ?_, a5, by rw [List.length_set, List.length_set]; exact a6, a7, a8, a9, a10⟩
  · rcases List.mem_or_eq_of_mem_set hc with g | g
    · exact a3 c g
    · rw [g, getD_at hy]; exact a4 _ (List.getElem_mem hy)
  · rcases List.mem_or_eq_of_mem_set hc with g | g
    · exact a4 c g
    · rw [g, getD_at hx]; exact a3 _ (List.getElem_mem hx)
theorem t_swapPlaces {x y : Nat} (hok : ga_ok t) (hx : x < t.2.2.1.length) (hy : y < t.2.2.2.1.length) (hT : H.1 i = tabC t) (h : Q none (ma_set H i (tabC (gexch t x y)))) : ma_MW (d + 2) 46 [.ref i, .int (nI x), .int (nI y)] H Q := by
  obtain ⟨kz, ko, hz, ho, pl, tu, db, mv, tz, to⟩ := t
  obtain ⟨a1, a2, a3, a4, a5, a6, a7, a8, a9, a10⟩ := hok
  have hx : x < hz.length := hx
  have hy : y < ho.length := hy
  have gz : gk hz := ⟨by omega, a3⟩
  have go' : gk ho := ⟨by omega, a4⟩
  unfold tabC at hT
  rw [e46]
  simp (disch := omega) only [w46_0, w46_1, w46_4, w46_5, w46_8, w46_9, w46_10, w46_13, w46_14, w46_17, w46_19, w46_20, w46_21, w46_24, w46_25, w46_27, w46_30, w46_33, w46_34, w46_35, w46_38, w46_39, w46_40, w46_43, w46_46, ma_kV_ap, ma_kC_s, ma_kC_n, ma_kH_ap, ma_gf_ap, ma_pf_ap, ma_cv_ap, ma_nt_0, ma_nt_s, ma_if_t, ma_if_f, ma_set_s, ma_set_ss, ma_set_2, ma_cat_n, ma_cat_i, ma_cat_l, ma_cat_r, ma_clr_n, ma_clr_i, ma_clr_l, ma_clr_r, ma_clr_0, ma_rf_s, ma_rf_n, ma_ial_ap, ma_ias_ap, List.set_cons_zero, List.set_cons_succ, List.length_cons, List.length_nil, Nat.reduceAdd, Nat.reduceLT, Nat.reduceLeDiff, Nat.le_refl, true_and, and_true, Nat.lt_add_one, hT]
  refine r_at gz hx ?_
  simp (disch := omega) only [w46_0, w46_1, w46_4, w46_5, w46_8, w46_9, w46_10, w46_13, w46_14, w46_17, w46_19, w46_20, w46_21, w46_24, w46_25, w46_27, w46_30, w46_33, w46_34, w46_35, w46_38, w46_39, w46_40, w46_43, w46_46, ma_kV_ap, ma_kC_s, ma_kC_n, ma_kH_ap, ma_gf_ap, ma_pf_ap, ma_cv_ap, ma_nt_0, ma_nt_s, ma_if_t, ma_if_f, ma_set_s, ma_set_ss, ma_set_2, ma_cat_n, ma_cat_i, ma_cat_l, ma_cat_r, ma_clr_n, ma_clr_i, ma_clr_l, ma_clr_r, ma_clr_0, ma_rf_s, ma_rf_n, ma_ial_ap, ma_ias_ap, List.set_cons_zero, List.set_cons_succ, List.length_cons, List.length_nil, Nat.reduceAdd, Nat.reduceLT, Nat.reduceLeDiff, Nat.le_refl, true_and, and_true, Nat.lt_add_one, hT]
  refine r_at go' hy ?_
  simp (disch := omega) only [w46_0, w46_1, w46_4, w46_5, w46_8, w46_9, w46_10, w46_13, w46_14, w46_17, w46_19, w46_20, w46_21, w46_24, w46_25, w46_27, w46_30, w46_33, w46_34, w46_35, w46_38, w46_39, w46_40, w46_43, w46_46, ma_kV_ap, ma_kC_s, ma_kC_n, ma_kH_ap, ma_gf_ap, ma_pf_ap, ma_cv_ap, ma_nt_0, ma_nt_s, ma_if_t, ma_if_f, ma_set_s, ma_set_ss, ma_set_2, ma_cat_n, ma_cat_i, ma_cat_l, ma_cat_r, ma_clr_n, ma_clr_i, ma_clr_l, ma_clr_r, ma_clr_0, ma_rf_s, ma_rf_n, ma_ial_ap, ma_ias_ap, List.set_cons_zero, List.set_cons_succ, List.length_cons, List.length_nil, Nat.reduceAdd, Nat.reduceLT, Nat.reduceLeDiff, Nat.le_refl, true_and, and_true, Nat.lt_add_one, hT]
  refine r_put gz hx (a4 _ (List.getElem_mem hy)) ?_
  simp (disch := omega) only [w46_0, w46_1, w46_4, w46_5, w46_8, w46_9, w46_10, w46_13, w46_14, w46_17, w46_19, w46_20, w46_21, w46_24, w46_25, w46_27, w46_30, w46_33, w46_34, w46_35, w46_38, w46_39, w46_40, w46_43, w46_46, ma_kV_ap, ma_kC_s, ma_kC_n, ma_kH_ap, ma_gf_ap, ma_pf_ap, ma_cv_ap, ma_nt_0, ma_nt_s, ma_if_t, ma_if_f, ma_set_s, ma_set_ss, ma_set_2, ma_cat_n, ma_cat_i, ma_cat_l, ma_cat_r, ma_clr_n, ma_clr_i, ma_clr_l, ma_clr_r, ma_clr_0, ma_rf_s, ma_rf_n, ma_ial_ap, ma_ias_ap, List.set_cons_zero, List.set_cons_succ, List.length_cons, List.length_nil, Nat.reduceAdd, Nat.reduceLT, Nat.reduceLeDiff, Nat.le_refl, true_and, and_true, Nat.lt_add_one, hT]
  refine r_put go' hy (a3 _ (List.getElem_mem hx)) ?_
  simp (disch := omega) only [w46_0, w46_1, w46_4, w46_5, w46_8, w46_9, w46_10, w46_13, w46_14, w46_17, w46_19, w46_20, w46_21, w46_24, w46_25, w46_27, w46_30, w46_33, w46_34, w46_35, w46_38, w46_39, w46_40, w46_43, w46_46, ma_kV_ap, ma_kC_s, ma_kC_n, ma_kH_ap, ma_gf_ap, ma_pf_ap, ma_cv_ap, ma_nt_0, ma_nt_s, ma_if_t, ma_if_f, ma_set_s, ma_set_ss, ma_set_2, ma_cat_n, ma_cat_i, ma_cat_l, ma_cat_r, ma_clr_n, ma_clr_i, ma_clr_l, ma_clr_r, ma_clr_0, ma_rf_s, ma_rf_n, ma_ial_ap, ma_ias_ap, List.set_cons_zero, List.set_cons_succ, List.length_cons, List.length_nil, Nat.reduceAdd, Nat.reduceLT, Nat.reduceLeDiff, Nat.le_refl, true_and, and_true, Nat.lt_add_one, hT]
  unfold gexch at h
  dsimp only at h
  rw [getD_at hx, getD_at hy] at h
  exact h
def gmay (t : ga_T) : Prop := ¬ gdone t ∧ gmv t < 9999
theorem t_mayMove' (hok : ga_ok t) (hmv : gmv t < 100000) (hT : H.1 i = tabC t) (h1 : gmay t → Q (some (.int (nI 1))) H) (h0 : ¬ gmay t → Q (some (.int (nI 0))) H) : ma_MW (d + 3) 49 [.ref i] H Q := by
  obtain ⟨kz, ko, hz, ho, pl, tu, db, mv, tz, to⟩ := t
  obtain ⟨a1, a2, a3, a4, a5, a6, a7, a8, a9, a10⟩ := hok
  have hmv : mv < 100000 := hmv
  refine t_mayMove a7 hmv ?_ hT ?_
  · rcases (show tu = 0 ∨ tu = 1 by omega) with rfl | rfl
    · exact ⟨by show hz.length ≤ 16; omega, a3⟩
    · exact ⟨by show ho.length ≤ 16; omega, a4⟩
  · by_cases c : gmay (kz, ko, hz, ho, pl, tu, db, mv, tz, to)
    · have c2 : (if tu = 0 then hz else ho) ≠ [] ∧ mv < 9999 := c
      rw [if_pos c2]; exact h1 c
    · have c2 : ¬ ((if tu = 0 then hz else ho) ≠ [] ∧ mv < 9999) := c
      rw [if_neg c2]; exact h0 c
/-- m of n moves are made: all, or no more may be -/
def gupto (t : ga_T) (n m : Nat) : Prop := m ≤ n ∧ (∀ k, k < m → gmay (git k t)) ∧ (m = n ∨ ¬ gmay (git m t))
theorem gupto_uniq {n a b : Nat} (ha : gupto t n a) (hb : gupto t n b) : a = b := by
  rcases Nat.lt_trichotomy a b with h | h | h
  · rcases ha.2.2 with e | e
    · have := hb.1; omega
    · exact absurd (hb.2.1 a h) e
  · exact h
  · rcases hb.2.2 with e | e
    · have := ha.1; omega
    · exact absurd (ha.2.1 b h) e
theorem t_moveUpTo {n : Nat} (hn : n < 1000) (hok : ga_ok t) (hmv : gmv t < 90000) (hT : H.1 i = tabC t) (h : ∀ m, gupto t n m → Q (some (.int (nI m))) (ma_set H i (tabC (git m t)))) : ma_MW (d + 6) 50 [.ref i, .int (nI n)] H Q := by
  have loop : ∀ c m, n - m = c → m ≤ n → (∀ k, k < m → gmay (git k t)) → ma_W (d + 5) 50 Q 2 [some (.ref i), some (.int (nI n)), some (.int (nI m))] [] (ma_set H i (tabC (git m t))) 0 0 := by
    intro c
    induction c with
    | zero =>
      intro m g1 g2 g3
      have hc : (n ≤ m) = True := eq_true (by omega)
      simp (disch := omega) only [w50_0, w50_1, w50_2, w50_3, w50_4, w50_7, w50_8, w50_11, w50_14, w50_15, w50_18, w50_21, w50_24, w50_25, ma_kV_ap, ma_kC_s, ma_kC_n, ma_kH_ap, ma_gf_ap, ma_pf_ap, ma_cv_ap, ma_nt_0, ma_nt_s, ma_if_t, ma_if_f, ma_set_s, ma_set_ss, ma_set_2, ma_cat_n, ma_cat_i, ma_cat_l, ma_cat_r, ma_clr_n, ma_clr_i, ma_clr_l, ma_clr_r, ma_clr_0, ma_rf_s, ma_rf_n, ma_ial_ap, ma_ias_ap, List.set_cons_zero, List.set_cons_succ, List.length_cons, List.length_nil, Nat.reduceAdd, Nat.reduceLT, Nat.reduceLeDiff, Nat.le_refl, true_and, and_true, Nat.lt_add_one, fa_lit, nI_add, pk_mul, pk_sub, pk_div, ma_rem_n, nI_ltI, nI_leI, nI_eq, Nat.reduceEqDiff, Nat.reduceMul, Nat.reduceSub, not_false_eq_true, not_true_eq_false, or_true, true_or, or_false, false_or, eq_self, Nat.zero_add, Nat.add_zero, hc]
      exact h m ⟨g2, g3, Or.inl (by omega)⟩
    | succ c ih =>
      intro m g1 g2 g3
      have hc : (n ≤ m) = False := eq_false (by omega)
      have hok' := ok_git hok m
      have hmv' := gmv_git t m
      have hs : (ma_set H i (tabC (git m t))).1 i = tabC (git m t) := ma_set_s _ _ _
      obtain ⟨fs, hfs⟩ := tab_cl (git m t)
      have hs' := hs.trans hfs
      simp (disch := omega) only [w50_0, w50_1, w50_2, w50_3, w50_4, w50_7, w50_8, w50_11, w50_14, w50_15, w50_18, w50_21, w50_24, w50_25, ma_cv_ap, ma_cat_n, Nat.zero_le, true_and, fa_lit, nI_add, pk_mul, pk_sub, pk_div, ma_rem_n, nI_ltI, nI_leI, nI_eq, Nat.reduceEqDiff, Nat.reduceMul, Nat.reduceSub, not_false_eq_true, not_true_eq_false, or_true, true_or, or_false, false_or, eq_self, Nat.zero_add, Nat.add_zero, hc, ma_if_f, hs']
      refine t_mayMove' hok' (by omega) hs (fun c1 => ?_) (fun c1 => ?_)
      · simp (disch := omega) only [w50_0, w50_1, w50_3, w50_4, w50_7, w50_8, w50_11, w50_14, w50_15, w50_18, w50_21, w50_24, w50_25, ma_kC_s, ma_cv_ap, ma_cat_n, Nat.zero_le, true_and, fa_lit, nI_add, pk_mul, pk_sub, pk_div, ma_rem_n, nI_ltI, nI_leI, nI_eq, Nat.reduceEqDiff, Nat.reduceMul, Nat.reduceSub, not_false_eq_true, not_true_eq_false, or_true, true_or, or_false, false_or, eq_self, Nat.zero_add, Nat.add_zero, ma_if_f, hs']
        refine t_move' hok' (by omega) c1.1 hs ?_
        rw [ma_set_ss, ← git_s]
        simp (disch := omega) only [w50_0, w50_1, w50_3, w50_4, w50_7, w50_8, w50_11, w50_14, w50_15, w50_18, w50_21, w50_24, w50_25, ma_kC_n, ma_clr_i, ma_clr_r, fa_lit, nI_add, pk_mul, pk_sub, pk_div, ma_rem_n, nI_ltI, nI_leI, nI_eq, Nat.reduceEqDiff, Nat.reduceMul, Nat.reduceSub, not_false_eq_true, not_true_eq_false, or_true, true_or, or_false, false_or, eq_self, Nat.zero_add, Nat.add_zero]
        refine ih (m + 1) (by omega) (by omega) (fun k hk => ?_)
        rcases Nat.lt_or_ge k m with g | g
        · exact g3 k g
        · have : k = m := by omega
          subst this; exact c1
      · simp (disch := omega) only [w50_0, w50_1, w50_2, w50_3, w50_4, w50_7, w50_8, w50_11, w50_14, w50_15, w50_18, w50_21, w50_24, w50_25, ma_kV_ap, ma_kC_s, ma_kC_n, ma_kH_ap, ma_gf_ap, ma_pf_ap, ma_cv_ap, ma_nt_0, ma_nt_s, ma_if_t, ma_if_f, ma_set_s, ma_set_ss, ma_set_2, ma_cat_n, ma_cat_i, ma_cat_l, ma_cat_r, ma_clr_n, ma_clr_i, ma_clr_l, ma_clr_r, ma_clr_0, ma_rf_s, ma_rf_n, ma_ial_ap, ma_ias_ap, List.set_cons_zero, List.set_cons_succ, List.length_cons, List.length_nil, Nat.reduceAdd, Nat.reduceLT, Nat.reduceLeDiff, Nat.le_refl, true_and, and_true, Nat.lt_add_one, fa_lit, nI_add, pk_mul, pk_sub, pk_div, ma_rem_n, nI_ltI, nI_leI, nI_eq, Nat.reduceEqDiff, Nat.reduceMul, Nat.reduceSub, not_false_eq_true, not_true_eq_false, or_true, true_or, or_false, false_or, eq_self, Nat.zero_add, Nat.add_zero]
        exact h m ⟨g2, g3, Or.inr c1⟩
  rw [e50]
  simp (disch := omega) only [w50_0, w50_1, w50_3, w50_4, w50_7, w50_8, w50_11, w50_14, w50_15, w50_18, w50_21, w50_24, w50_25, ma_kV_ap, ma_kC_s, ma_kC_n, ma_kH_ap, ma_gf_ap, ma_pf_ap, ma_cv_ap, ma_nt_0, ma_nt_s, ma_if_t, ma_if_f, ma_set_s, ma_set_ss, ma_set_2, ma_cat_n, ma_cat_i, ma_cat_l, ma_cat_r, ma_clr_n, ma_clr_i, ma_clr_l, ma_clr_r, ma_clr_0, ma_rf_s, ma_rf_n, ma_ial_ap, ma_ias_ap, List.set_cons_zero, List.set_cons_succ, List.length_cons, List.length_nil, Nat.reduceAdd, Nat.reduceLT, Nat.reduceLeDiff, Nat.le_refl, true_and, and_true, Nat.lt_add_one, fa_lit, nI_add, pk_mul, pk_sub, pk_div, ma_rem_n, nI_ltI, nI_leI, nI_eq, Nat.reduceEqDiff, Nat.reduceMul, Nat.reduceSub, not_false_eq_true, not_true_eq_false, or_true, true_or, or_false, false_or, eq_self, Nat.zero_add, Nat.add_zero]
  have := loop n 0 rfl (Nat.zero_le _) (fun k hk => by omega)
  rw [show git 0 t = t from rfl, ma_set_id _ _ _ hT] at this
  exact this
end RR

/-! the class Seen: what fits, what is mixed, copies -/
def seOK (l : List gSe) : Prop := l.length ≤ 6 ∧ ∀ e ∈ l, e.1 < 2 ∧ e.2.1 ≤ 16 ∧ e.2.2.1 < e.2.1 ∧ e.2.2.2 < 16
def gOwed (kind : Nat) (l : List gSe) : Prop := ∀ e ∈ l, go kind e.2.1 = e.2.2.2
def gCame (kind p : Nat) (l : List gSe) : Prop := ∀ e ∈ l, e.1 = p → gc kind e.2.1 e.2.2.1 = e.2.2.2
def gmix (mk : Bool) (h : Int64) (e : gSe) : Int64 := if mk then 31 * (31 * (31 * (31 * h + lN e.1) + lN e.2.1) + lN e.2.2.1) + lN e.2.2.2 else 31 * (31 * h + lN e.2.1) + lN e.2.2.2
def gmixs (mk : Bool) (h : Int64) (l : List gSe) : Int64 := l.foldl (gmix mk) h
theorem go_lt (k n : Nat) : go k n < 100 := Nat.lt_of_le_of_lt (go_le k n) (by decide)
theorem take_all {α : Type} (P : α → Prop) (l : List α) (k : Nat) (hk : l.length ≤ k) (h : ∀ e ∈ l.take k, P e) : ∀ e ∈ l, P e := by rw [List.take_of_length_le hk] at h; exact h
theorem take_s {α : Type} {P : α → Prop} {l : List α} {k : Nat} (hk : k < l.length) (h : ∀ e ∈ l.take k, P e) (h1 : P l[k]) : ∀ e ∈ l.take (k + 1), P e := by
  intro e he
  rw [List.take_succ, List.getElem?_eq_getElem hk] at he
  rcases List.mem_append.mp he with g | g
  · exact h e g
  · simp only [Option.toList_some, List.mem_singleton] at g; rw [g]; exact h1
section SF
variable {d b : Nat} {H : ma_H} {Q : ma_P} {l : List gSe}
theorem s_allOwed {kind : Nat} (hk : kind < 6) (hO : seOK l) (hP : seP H b l) (h1 : gOwed kind l → Q (some (.int (nI 1))) H) (h2 : ¬ gOwed kind l → Q (some (.int (nI 0))) H) : ma_MW (d + 2) 29 [.ref b, .int (nI kind)] H Q := by
  obtain ⟨f0, f1, f2, f3, e0, e1, e2, e3, e4, e5⟩ := hP
  obtain ⟨hl, hE⟩ := hO
  have loop : ∀ m k, l.length - k = m → k ≤ l.length → (∀ e ∈ l.take k, go kind e.2.1 = e.2.2.2) → ma_W (d + 1) 29 Q 2 [some (.ref b), some (.int (nI kind)), some (.int (nI k))] [] H 0 0 := by
    intro m
    induction m with
    | zero =>
      intro k g1 g2 g3
      have hc : (l.length ≤ k) = True := eq_true (by omega)
      simp (disch := omega) only [w29_0, w29_1, w29_2, w29_3, w29_4, w29_7, w29_10, w29_11, w29_12, w29_15, w29_16, w29_17, w29_20, w29_21, w29_24, w29_25, w29_26, w29_29, w29_30, w29_31, w29_34, w29_37, w29_38, ma_kV_ap, ma_kC_s, ma_kC_n, ma_kH_ap, ma_gf_ap, ma_pf_ap, ma_cv_ap, ma_nt_0, ma_nt_s, ma_if_t, ma_if_f, ma_set_s, ma_set_ss, ma_set_2, ma_cat_n, ma_cat_i, ma_cat_l, ma_cat_r, ma_clr_n, ma_clr_i, ma_clr_l, ma_clr_r, ma_clr_0, ma_rf_s, ma_rf_n, ma_ial_ap, ma_ias_ap, List.set_cons_zero, List.set_cons_succ, List.length_cons, List.length_nil, Nat.reduceAdd, Nat.reduceLT, Nat.reduceLeDiff, Nat.le_refl, true_and, and_true, Nat.lt_add_one, fa_lit, nI_add, pk_mul, pk_sub, pk_div, ma_rem_n, nI_ltI, nI_leI, nI_eq, Nat.reduceEqDiff, Nat.reduceMul, Nat.reduceSub, not_false_eq_true, not_true_eq_false, or_true, true_or, or_false, false_or, eq_self, Nat.zero_add, Nat.add_zero, e0, hc]
      exact h1 (take_all _ l k (by omega) g3)
    | succ m ih =>
      intro k g1 g2 g3
      have hlt : k < l.length := by omega
      have hc : (l.length ≤ k) = False := eq_false (by omega)
      have hm := hE _ (List.getElem_mem hlt)
      obtain ⟨x0, x1, x2, x3⟩ := e5 k _ (List.getElem?_eq_getElem hlt)
      simp (disch := omega) only [w29_0, w29_1, w29_2, w29_3, w29_4, w29_7, w29_10, w29_11, w29_12, w29_15, w29_16, w29_17, w29_20, w29_21, w29_24, w29_25, w29_26, w29_29, w29_30, w29_31, w29_34, w29_37, w29_38, ma_kV_ap, ma_kC_s, ma_kC_n, ma_kH_ap, ma_gf_ap, ma_pf_ap, ma_cv_ap, ma_nt_0, ma_nt_s, ma_if_t, ma_if_f, ma_set_s, ma_set_ss, ma_set_2, ma_cat_n, ma_cat_i, ma_cat_l, ma_cat_r, ma_clr_n, ma_clr_i, ma_clr_l, ma_clr_r, ma_clr_0, ma_rf_s, ma_rf_n, ma_ial_ap, ma_ias_ap, List.set_cons_zero, List.set_cons_succ, List.length_cons, List.length_nil, Nat.reduceAdd, Nat.reduceLT, Nat.reduceLeDiff, Nat.le_refl, true_and, and_true, Nat.lt_add_one, fa_lit, nI_add, pk_mul, pk_sub, pk_div, ma_rem_n, nI_ltI, nI_leI, nI_eq, Nat.reduceEqDiff, Nat.reduceMul, Nat.reduceSub, not_false_eq_true, not_true_eq_false, or_true, true_or, or_false, false_or, eq_self, Nat.zero_add, Nat.add_zero, nu_in, nI_clamp, pk_us, pk_un, ma_set_n, e0, e2, hc, x1]
      refine t_owedFor hk (by omega) ?_
      have := go_lt kind (l[k]).2.1
      simp (disch := omega) only [w29_0, w29_1, w29_3, w29_4, w29_7, w29_10, w29_11, w29_12, w29_15, w29_16, w29_17, w29_20, w29_21, w29_24, w29_25, w29_26, w29_29, w29_30, w29_34, w29_37, w29_38, ma_kV_ap, ma_kC_s, ma_kC_n, ma_kH_ap, ma_gf_ap, ma_pf_ap, ma_cv_ap, ma_nt_0, ma_nt_s, ma_if_t, ma_if_f, ma_set_s, ma_set_ss, ma_set_2, ma_cat_n, ma_cat_i, ma_cat_l, ma_cat_r, ma_clr_n, ma_clr_i, ma_clr_l, ma_clr_r, ma_clr_0, ma_rf_s, ma_rf_n, ma_ial_ap, ma_ias_ap, List.set_cons_zero, List.set_cons_succ, List.length_cons, List.length_nil, Nat.reduceAdd, Nat.reduceLT, Nat.reduceLeDiff, Nat.le_refl, true_and, and_true, Nat.lt_add_one, fa_lit, nI_add, pk_mul, pk_sub, pk_div, ma_rem_n, nI_ltI, nI_leI, nI_eq, Nat.reduceEqDiff, Nat.reduceMul, Nat.reduceSub, not_false_eq_true, not_true_eq_false, or_true, true_or, or_false, false_or, eq_self, Nat.zero_add, Nat.add_zero, nu_in, nI_clamp, pk_us, pk_un, ma_set_n, e0, e4, x3]
      refine ⟨fun c => ?_, fun c => ?_⟩
      · simp (disch := omega) only [w29_0, w29_1, w29_3, w29_4, w29_7, w29_10, w29_11, w29_12, w29_15, w29_16, w29_17, w29_20, w29_21, w29_24, w29_25, w29_26, w29_29, w29_30, w29_31, w29_34, w29_37, w29_38, ma_kV_ap, ma_kC_s, ma_kC_n, ma_kH_ap, ma_gf_ap, ma_pf_ap, ma_cv_ap, ma_nt_0, ma_nt_s, ma_if_t, ma_if_f, ma_set_s, ma_set_ss, ma_set_2, ma_cat_n, ma_cat_i, ma_cat_l, ma_cat_r, ma_clr_n, ma_clr_i, ma_clr_l, ma_clr_r, ma_clr_0, ma_rf_s, ma_rf_n, ma_ial_ap, ma_ias_ap, List.set_cons_zero, List.set_cons_succ, List.length_cons, List.length_nil, Nat.reduceAdd, Nat.reduceLT, Nat.reduceLeDiff, Nat.le_refl, true_and, and_true, Nat.lt_add_one, fa_lit, nI_add, pk_mul, pk_sub, pk_div, ma_rem_n, nI_ltI, nI_leI, nI_eq, Nat.reduceEqDiff, Nat.reduceMul, Nat.reduceSub, not_false_eq_true, not_true_eq_false, or_true, true_or, or_false, false_or, eq_self, Nat.zero_add, Nat.add_zero]
        exact ih (k + 1) (by omega) (by omega) (take_s hlt g3 c)
      · simp (disch := omega) only [w29_0, w29_1, w29_2, w29_3, w29_4, w29_7, w29_10, w29_11, w29_12, w29_15, w29_16, w29_17, w29_20, w29_21, w29_24, w29_25, w29_26, w29_29, w29_30, w29_31, w29_34, w29_37, w29_38, ma_kV_ap, ma_kC_s, ma_kC_n, ma_kH_ap, ma_gf_ap, ma_pf_ap, ma_cv_ap, ma_nt_0, ma_nt_s, ma_if_t, ma_if_f, ma_set_s, ma_set_ss, ma_set_2, ma_cat_n, ma_cat_i, ma_cat_l, ma_cat_r, ma_clr_n, ma_clr_i, ma_clr_l, ma_clr_r, ma_clr_0, ma_rf_s, ma_rf_n, ma_ial_ap, ma_ias_ap, List.set_cons_zero, List.set_cons_succ, List.length_cons, List.length_nil, Nat.reduceAdd, Nat.reduceLT, Nat.reduceLeDiff, Nat.le_refl, true_and, and_true, Nat.lt_add_one, fa_lit, nI_add, pk_mul, pk_sub, pk_div, ma_rem_n, nI_ltI, nI_leI, nI_eq, Nat.reduceEqDiff, Nat.reduceMul, Nat.reduceSub, not_false_eq_true, not_true_eq_false, or_true, true_or, or_false, false_or, eq_self, Nat.zero_add, Nat.add_zero]
        exact h2 (fun g => c (g _ (List.getElem_mem hlt)))
  rw [e29]
  simp (disch := omega) only [w29_0, w29_1, w29_3, w29_4, w29_7, w29_10, w29_11, w29_12, w29_15, w29_16, w29_17, w29_20, w29_21, w29_24, w29_25, w29_26, w29_29, w29_30, w29_31, w29_34, w29_37, w29_38, ma_kV_ap, ma_kC_s, ma_kC_n, ma_kH_ap, ma_gf_ap, ma_pf_ap, ma_cv_ap, ma_nt_0, ma_nt_s, ma_if_t, ma_if_f, ma_set_s, ma_set_ss, ma_set_2, ma_cat_n, ma_cat_i, ma_cat_l, ma_cat_r, ma_clr_n, ma_clr_i, ma_clr_l, ma_clr_r, ma_clr_0, ma_rf_s, ma_rf_n, ma_ial_ap, ma_ias_ap, List.set_cons_zero, List.set_cons_succ, List.length_cons, List.length_nil, Nat.reduceAdd, Nat.reduceLT, Nat.reduceLeDiff, Nat.le_refl, true_and, and_true, Nat.lt_add_one, fa_lit, nI_add, pk_mul, pk_sub, pk_div, ma_rem_n, nI_ltI, nI_leI, nI_eq, Nat.reduceEqDiff, Nat.reduceMul, Nat.reduceSub, not_false_eq_true, not_true_eq_false, or_true, true_or, or_false, false_or, eq_self, Nat.zero_add, Nat.add_zero]
  exact loop _ 0 rfl (Nat.zero_le _) (fun e he => by simp at he)
theorem s_allCame {kind p : Nat} (hk : kind < 6) (hp : p < 2) (hO : seOK l) (hP : seP H b l) (h1 : gCame kind p l → Q (some (.int (nI 1))) H) (h2 : ¬ gCame kind p l → Q (some (.int (nI 0))) H) : ma_MW (d + 3) 30 [.ref b, .int (nI kind), .int (nI p)] H Q := by
  obtain ⟨f0, f1, f2, f3, e0, e1, e2, e3, e4, e5⟩ := hP
  obtain ⟨hl, hE⟩ := hO
  have loop : ∀ m k, l.length - k = m → k ≤ l.length → (∀ e ∈ l.take k, e.1 = p → gc kind e.2.1 e.2.2.1 = e.2.2.2) → ma_W (d + 2) 30 Q 2 [some (.ref b), some (.int (nI kind)), some (.int (nI p)), some (.int (nI k))] [] H 0 0 := by
    intro m
    induction m with
    | zero =>
      intro k g1 g2 g3
      have hc : (l.length ≤ k) = True := eq_true (by omega)
      simp (disch := omega) only [w30_0, w30_1, w30_2, w30_3, w30_4, w30_7, w30_10, w30_11, w30_14, w30_15, w30_16, w30_17, w30_20, w30_21, w30_22, w30_25, w30_26, w30_27, w30_28, w30_31, w30_32, w30_33, w30_36, w30_37, w30_40, w30_41, w30_42, w30_45, w30_46, w30_47, w30_50, w30_53, w30_54, ma_kV_ap, ma_kC_s, ma_kC_n, ma_kH_ap, ma_gf_ap, ma_pf_ap, ma_cv_ap, ma_nt_0, ma_nt_s, ma_if_t, ma_if_f, ma_set_s, ma_set_ss, ma_set_2, ma_cat_n, ma_cat_i, ma_cat_l, ma_cat_r, ma_clr_n, ma_clr_i, ma_clr_l, ma_clr_r, ma_clr_0, ma_rf_s, ma_rf_n, ma_ial_ap, ma_ias_ap, List.set_cons_zero, List.set_cons_succ, List.length_cons, List.length_nil, Nat.reduceAdd, Nat.reduceLT, Nat.reduceLeDiff, Nat.le_refl, true_and, and_true, Nat.lt_add_one, fa_lit, nI_add, pk_mul, pk_sub, pk_div, ma_rem_n, nI_ltI, nI_leI, nI_eq, Nat.reduceEqDiff, Nat.reduceMul, Nat.reduceSub, not_false_eq_true, not_true_eq_false, or_true, true_or, or_false, false_or, eq_self, Nat.zero_add, Nat.add_zero, e0, hc]
      exact h1 (take_all _ l k (by omega) g3)
    | succ m ih =>
      intro k g1 g2 g3
      have hlt : k < l.length := by omega
      have hc : (l.length ≤ k) = False := eq_false (by omega)
      have hm := hE _ (List.getElem_mem hlt)
      obtain ⟨x0, x1, x2, x3⟩ := e5 k _ (List.getElem?_eq_getElem hlt)
      simp (disch := omega) only [w30_0, w30_1, w30_2, w30_3, w30_4, w30_7, w30_10, w30_11, w30_14, w30_15, w30_16, w30_17, w30_21, w30_22, w30_25, w30_26, w30_27, w30_28, w30_31, w30_32, w30_33, w30_36, w30_37, w30_40, w30_41, w30_42, w30_45, w30_46, w30_50, w30_53, w30_54, ma_kV_ap, ma_kC_s, ma_kC_n, ma_kH_ap, ma_gf_ap, ma_pf_ap, ma_cv_ap, ma_nt_0, ma_nt_s, ma_if_t, ma_if_f, ma_set_s, ma_set_ss, ma_set_2, ma_cat_n, ma_cat_i, ma_cat_l, ma_cat_r, ma_clr_n, ma_clr_i, ma_clr_l, ma_clr_r, ma_clr_0, ma_rf_s, ma_rf_n, ma_ial_ap, ma_ias_ap, List.set_cons_zero, List.set_cons_succ, List.length_cons, List.length_nil, Nat.reduceAdd, Nat.reduceLT, Nat.reduceLeDiff, Nat.le_refl, true_and, and_true, Nat.lt_add_one, fa_lit, nI_add, pk_mul, pk_sub, pk_div, ma_rem_n, nI_ltI, nI_leI, nI_eq, Nat.reduceEqDiff, Nat.reduceMul, Nat.reduceSub, not_false_eq_true, not_true_eq_false, or_true, true_or, or_false, false_or, eq_self, Nat.zero_add, Nat.add_zero, nu_in, nI_clamp, pk_us, pk_un, ma_set_n, e0, e1, hc, x0]
      refine ⟨fun c => ?_, fun c => ?_⟩
      · simp (disch := omega) only [w30_0, w30_1, w30_3, w30_4, w30_7, w30_10, w30_11, w30_14, w30_15, w30_16, w30_17, w30_20, w30_21, w30_22, w30_25, w30_26, w30_27, w30_28, w30_31, w30_32, w30_33, w30_36, w30_37, w30_40, w30_41, w30_42, w30_45, w30_46, w30_50, w30_53, w30_54, ma_kV_ap, ma_kC_s, ma_kC_n, ma_kH_ap, ma_gf_ap, ma_pf_ap, ma_cv_ap, ma_nt_0, ma_nt_s, ma_if_t, ma_if_f, ma_set_s, ma_set_ss, ma_set_2, ma_cat_n, ma_cat_i, ma_cat_l, ma_cat_r, ma_clr_n, ma_clr_i, ma_clr_l, ma_clr_r, ma_clr_0, ma_rf_s, ma_rf_n, ma_ial_ap, ma_ias_ap, List.set_cons_zero, List.set_cons_succ, List.length_cons, List.length_nil, Nat.reduceAdd, Nat.reduceLT, Nat.reduceLeDiff, Nat.le_refl, true_and, and_true, Nat.lt_add_one, fa_lit, nI_add, pk_mul, pk_sub, pk_div, ma_rem_n, nI_ltI, nI_leI, nI_eq, Nat.reduceEqDiff, Nat.reduceMul, Nat.reduceSub, not_false_eq_true, not_true_eq_false, or_true, true_or, or_false, false_or, eq_self, Nat.zero_add, Nat.add_zero, nu_in, nI_clamp, pk_us, pk_un, ma_set_n, e0, e2, e3, x1, x2]
        refine t_comesAt hk (by omega) hm.2.2.1 ?_
        have := gc_lt (t := kind) hm.2.2.1
        simp (disch := omega) only [w30_0, w30_1, w30_3, w30_4, w30_7, w30_10, w30_11, w30_14, w30_15, w30_16, w30_17, w30_20, w30_21, w30_22, w30_25, w30_26, w30_27, w30_28, w30_31, w30_32, w30_33, w30_36, w30_37, w30_40, w30_41, w30_42, w30_45, w30_46, w30_50, w30_53, w30_54, ma_kV_ap, ma_kC_s, ma_kC_n, ma_kH_ap, ma_gf_ap, ma_pf_ap, ma_cv_ap, ma_nt_0, ma_nt_s, ma_if_t, ma_if_f, ma_set_s, ma_set_ss, ma_set_2, ma_cat_n, ma_cat_i, ma_cat_l, ma_cat_r, ma_clr_n, ma_clr_i, ma_clr_l, ma_clr_r, ma_clr_0, ma_rf_s, ma_rf_n, ma_ial_ap, ma_ias_ap, List.set_cons_zero, List.set_cons_succ, List.length_cons, List.length_nil, Nat.reduceAdd, Nat.reduceLT, Nat.reduceLeDiff, Nat.le_refl, true_and, and_true, Nat.lt_add_one, fa_lit, nI_add, pk_mul, pk_sub, pk_div, ma_rem_n, nI_ltI, nI_leI, nI_eq, Nat.reduceEqDiff, Nat.reduceMul, Nat.reduceSub, not_false_eq_true, not_true_eq_false, or_true, true_or, or_false, false_or, eq_self, Nat.zero_add, Nat.add_zero, nu_in, nI_clamp, pk_us, pk_un, ma_set_n, e0, e4, x3]
        refine ⟨fun c2 => ?_, fun c2 => ?_⟩
        · simp (disch := omega) only [w30_0, w30_1, w30_3, w30_4, w30_7, w30_10, w30_11, w30_14, w30_15, w30_16, w30_17, w30_20, w30_21, w30_22, w30_25, w30_26, w30_27, w30_28, w30_31, w30_32, w30_33, w30_36, w30_37, w30_40, w30_41, w30_42, w30_45, w30_46, w30_47, w30_50, w30_53, w30_54, ma_kV_ap, ma_kC_s, ma_kC_n, ma_kH_ap, ma_gf_ap, ma_pf_ap, ma_cv_ap, ma_nt_0, ma_nt_s, ma_if_t, ma_if_f, ma_set_s, ma_set_ss, ma_set_2, ma_cat_n, ma_cat_i, ma_cat_l, ma_cat_r, ma_clr_n, ma_clr_i, ma_clr_l, ma_clr_r, ma_clr_0, ma_rf_s, ma_rf_n, ma_ial_ap, ma_ias_ap, List.set_cons_zero, List.set_cons_succ, List.length_cons, List.length_nil, Nat.reduceAdd, Nat.reduceLT, Nat.reduceLeDiff, Nat.le_refl, true_and, and_true, Nat.lt_add_one, fa_lit, nI_add, pk_mul, pk_sub, pk_div, ma_rem_n, nI_ltI, nI_leI, nI_eq, Nat.reduceEqDiff, Nat.reduceMul, Nat.reduceSub, not_false_eq_true, not_true_eq_false, or_true, true_or, or_false, false_or, eq_self, Nat.zero_add, Nat.add_zero]
          exact ih (k + 1) (by omega) (by omega) (take_s hlt g3 (fun _ => c2))
        · simp (disch := omega) only [w30_0, w30_1, w30_2, w30_3, w30_4, w30_7, w30_10, w30_11, w30_14, w30_15, w30_16, w30_17, w30_20, w30_21, w30_22, w30_25, w30_26, w30_27, w30_28, w30_31, w30_32, w30_33, w30_36, w30_37, w30_40, w30_41, w30_42, w30_45, w30_46, w30_47, w30_50, w30_53, w30_54, ma_kV_ap, ma_kC_s, ma_kC_n, ma_kH_ap, ma_gf_ap, ma_pf_ap, ma_cv_ap, ma_nt_0, ma_nt_s, ma_if_t, ma_if_f, ma_set_s, ma_set_ss, ma_set_2, ma_cat_n, ma_cat_i, ma_cat_l, ma_cat_r, ma_clr_n, ma_clr_i, ma_clr_l, ma_clr_r, ma_clr_0, ma_rf_s, ma_rf_n, ma_ial_ap, ma_ias_ap, List.set_cons_zero, List.set_cons_succ, List.length_cons, List.length_nil, Nat.reduceAdd, Nat.reduceLT, Nat.reduceLeDiff, Nat.le_refl, true_and, and_true, Nat.lt_add_one, fa_lit, nI_add, pk_mul, pk_sub, pk_div, ma_rem_n, nI_ltI, nI_leI, nI_eq, Nat.reduceEqDiff, Nat.reduceMul, Nat.reduceSub, not_false_eq_true, not_true_eq_false, or_true, true_or, or_false, false_or, eq_self, Nat.zero_add, Nat.add_zero]
          exact h2 (fun g => c2 (g _ (List.getElem_mem hlt) c))
      · simp (disch := omega) only [w30_0, w30_1, w30_3, w30_4, w30_7, w30_10, w30_11, w30_14, w30_15, w30_16, w30_17, w30_20, w30_21, w30_22, w30_25, w30_26, w30_27, w30_28, w30_31, w30_32, w30_33, w30_36, w30_37, w30_40, w30_41, w30_42, w30_45, w30_46, w30_47, w30_50, w30_53, w30_54, ma_kV_ap, ma_kC_s, ma_kC_n, ma_kH_ap, ma_gf_ap, ma_pf_ap, ma_cv_ap, ma_nt_0, ma_nt_s, ma_if_t, ma_if_f, ma_set_s, ma_set_ss, ma_set_2, ma_cat_n, ma_cat_i, ma_cat_l, ma_cat_r, ma_clr_n, ma_clr_i, ma_clr_l, ma_clr_r, ma_clr_0, ma_rf_s, ma_rf_n, ma_ial_ap, ma_ias_ap, List.set_cons_zero, List.set_cons_succ, List.length_cons, List.length_nil, Nat.reduceAdd, Nat.reduceLT, Nat.reduceLeDiff, Nat.le_refl, true_and, and_true, Nat.lt_add_one, fa_lit, nI_add, pk_mul, pk_sub, pk_div, ma_rem_n, nI_ltI, nI_leI, nI_eq, Nat.reduceEqDiff, Nat.reduceMul, Nat.reduceSub, not_false_eq_true, not_true_eq_false, or_true, true_or, or_false, false_or, eq_self, Nat.zero_add, Nat.add_zero]
        exact ih (k + 1) (by omega) (by omega) (take_s hlt g3 (fun z => absurd z c))
  rw [e30]
  simp (disch := omega) only [w30_0, w30_1, w30_3, w30_4, w30_7, w30_10, w30_11, w30_14, w30_15, w30_16, w30_17, w30_20, w30_21, w30_22, w30_25, w30_26, w30_27, w30_28, w30_31, w30_32, w30_33, w30_36, w30_37, w30_40, w30_41, w30_42, w30_45, w30_46, w30_47, w30_50, w30_53, w30_54, ma_kV_ap, ma_kC_s, ma_kC_n, ma_kH_ap, ma_gf_ap, ma_pf_ap, ma_cv_ap, ma_nt_0, ma_nt_s, ma_if_t, ma_if_f, ma_set_s, ma_set_ss, ma_set_2, ma_cat_n, ma_cat_i, ma_cat_l, ma_cat_r, ma_clr_n, ma_clr_i, ma_clr_l, ma_clr_r, ma_clr_0, ma_rf_s, ma_rf_n, ma_ial_ap, ma_ias_ap, List.set_cons_zero, List.set_cons_succ, List.length_cons, List.length_nil, Nat.reduceAdd, Nat.reduceLT, Nat.reduceLeDiff, Nat.le_refl, true_and, and_true, Nat.lt_add_one, fa_lit, nI_add, pk_mul, pk_sub, pk_div, ma_rem_n, nI_ltI, nI_leI, nI_eq, Nat.reduceEqDiff, Nat.reduceMul, Nat.reduceSub, not_false_eq_true, not_true_eq_false, or_true, true_or, or_false, false_or, eq_self, Nat.zero_add, Nat.add_zero]
  exact loop _ 0 rfl (Nat.zero_le _) (fun e he => by simp at he)
theorem mix_s {mk : Bool} {h : Int64} {k : Nat} (hk : k < l.length) : gmixs mk h (l.take (k + 1)) = gmix mk (gmixs mk h (l.take k)) l[k] := by
  unfold gmixs
  rw [List.take_succ, List.getElem?_eq_getElem hk, List.foldl_append]
  rfl
theorem s_mixInto {mk : Bool} {h : Int64} (hO : seOK l) (hP : seP H b l) (hq : Q (some (.long (gmixs mk h l))) H) : ma_MW (d + 1) 31 [.ref b, .long h, .int (nI (if mk then 1 else 0))] H Q := by
  obtain ⟨f0, f1, f2, f3, e0, e1, e2, e3, e4, e5⟩ := hP
  obtain ⟨hl, hE⟩ := hO
  have loop : ∀ m k, l.length - k = m → k ≤ l.length → ma_W d 31 Q 6 [some (.ref b), some (.long h), none, some (.int (nI (if mk then 1 else 0))), some (.long (gmixs mk h (l.take k))), none, some (.int (nI k))] [] H 0 0 := by
    intro m
    induction m with
    | zero =>
      intro k g1 g2
      have hc : (l.length ≤ k) = True := eq_true (by omega)
      simp (disch := omega) only [w31_0, w31_1, w31_3, w31_4, w31_6, w31_8, w31_9, w31_12, w31_15, w31_16, w31_19, w31_22, w31_24, w31_25, w31_26, w31_29, w31_31, w31_32, w31_33, w31_34, w31_37, w31_39, w31_41, w31_44, w31_46, w31_47, w31_48, w31_51, w31_53, w31_54, w31_55, w31_56, w31_58, w31_59, w31_62, w31_65, w31_67, w31_68, w31_69, w31_72, w31_74, w31_75, w31_76, w31_77, w31_80, w31_82, w31_84, w31_87, w31_89, w31_90, w31_91, w31_94, w31_96, w31_97, w31_98, w31_99, w31_101, w31_104, w31_107, w31_109, ma_kV_ap, ma_kC_s, ma_kC_n, ma_kH_ap, ma_gf_ap, ma_pf_ap, ma_cv_ap, ma_nt_0, ma_nt_s, ma_if_t, ma_if_f, ma_set_s, ma_set_ss, ma_set_2, ma_cat_n, ma_cat_i, ma_cat_l, ma_cat_r, ma_clr_n, ma_clr_i, ma_clr_l, ma_clr_r, ma_clr_0, ma_rf_s, ma_rf_n, ma_ial_ap, ma_ias_ap, List.set_cons_zero, List.set_cons_succ, List.length_cons, List.length_nil, Nat.reduceAdd, Nat.reduceLT, Nat.reduceLeDiff, Nat.le_refl, true_and, and_true, Nat.lt_add_one, fa_lit, nI_add, pk_mul, pk_sub, pk_div, ma_rem_n, nI_ltI, nI_leI, nI_eq, Nat.reduceEqDiff, Nat.reduceMul, Nat.reduceSub, not_false_eq_true, not_true_eq_false, or_true, true_or, or_false, false_or, eq_self, Nat.zero_add, Nat.add_zero, e0, hc]
      rw [List.take_of_length_le (by omega)]
      exact hq
    | succ m ih =>
      intro k g1 g2
      have hlt : k < l.length := by omega
      have hc : (l.length ≤ k) = False := eq_false (by omega)
      have hm := hE _ (List.getElem_mem hlt)
      obtain ⟨x0, x1, x2, x3⟩ := e5 k _ (List.getElem?_eq_getElem hlt)
      have i0 : (nI l[k].1).toInt64 = lN l[k].1 := nI_l (by omega)
      have i1 : (nI l[k].2.1).toInt64 = lN l[k].2.1 := nI_l (by omega)
      have i2 : (nI l[k].2.2.1).toInt64 = lN l[k].2.2.1 := nI_l (by omega)
      have i3 : (nI l[k].2.2.2).toInt64 = lN l[k].2.2.2 := nI_l (by omega)
      have hs := ih (k + 1) (by omega) (by omega)
      rw [mix_s hlt] at hs
      cases mk with
      | false =>
        simp (disch := omega) only [w31_0, w31_1, w31_3, w31_4, w31_6, w31_8, w31_9, w31_12, w31_15, w31_16, w31_19, w31_22, w31_24, w31_25, w31_26, w31_29, w31_31, w31_32, w31_33, w31_34, w31_37, w31_39, w31_41, w31_44, w31_46, w31_47, w31_48, w31_51, w31_53, w31_54, w31_55, w31_56, w31_58, w31_59, w31_62, w31_65, w31_67, w31_68, w31_69, w31_72, w31_74, w31_75, w31_76, w31_77, w31_80, w31_82, w31_84, w31_87, w31_89, w31_90, w31_91, w31_94, w31_96, w31_97, w31_98, w31_99, w31_104, w31_107, w31_109, ma_kV_ap, ma_kC_s, ma_kC_n, ma_kH_ap, ma_gf_ap, ma_pf_ap, ma_cv_ap, ma_nt_0, ma_nt_s, ma_if_t, ma_if_f, ma_set_s, ma_set_ss, ma_set_2, ma_cat_n, ma_cat_i, ma_cat_l, ma_cat_r, ma_clr_n, ma_clr_i, ma_clr_l, ma_clr_r, ma_clr_0, ma_rf_s, ma_rf_n, ma_ial_ap, ma_ias_ap, List.set_cons_zero, List.set_cons_succ, List.length_cons, List.length_nil, Nat.reduceAdd, Nat.reduceLT, Nat.reduceLeDiff, Nat.le_refl, true_and, and_true, Nat.lt_add_one, fa_lit, nI_add, pk_mul, pk_sub, pk_div, ma_rem_n, nI_ltI, nI_leI, nI_eq, Nat.reduceEqDiff, Nat.reduceMul, Nat.reduceSub, not_false_eq_true, not_true_eq_false, or_true, true_or, or_false, false_or, eq_self, Nat.zero_add, Nat.add_zero, nu_in, nI_clamp, pk_us, pk_un, ma_set_n, e0, e1, e2, e3, e4, hc, x0, x1, x2, x3, i0, i1, i2, i3, Bool.false_eq_true, if_false]
        simp (disch := omega) only [w31_0, w31_1, w31_3, w31_4, w31_8, w31_9, w31_12, w31_15, w31_16, w31_19, w31_22, w31_24, w31_25, w31_26, w31_29, w31_31, w31_32, w31_33, w31_34, w31_37, w31_39, w31_41, w31_44, w31_46, w31_47, w31_48, w31_51, w31_53, w31_54, w31_55, w31_56, w31_58, w31_59, w31_62, w31_65, w31_67, w31_68, w31_69, w31_72, w31_74, w31_75, w31_76, w31_77, w31_80, w31_82, w31_84, w31_87, w31_89, w31_90, w31_91, w31_94, w31_96, w31_97, w31_98, w31_99, w31_101, w31_104, w31_107, w31_109, ma_kV_ap, ma_kC_s, ma_kC_n, ma_kH_ap, ma_gf_ap, ma_pf_ap, ma_cv_ap, ma_nt_0, ma_nt_s, ma_if_t, ma_if_f, ma_set_s, ma_set_ss, ma_set_2, ma_cat_n, ma_cat_i, ma_cat_l, ma_cat_r, ma_clr_n, ma_clr_i, ma_clr_l, ma_clr_r, ma_clr_0, ma_rf_s, ma_rf_n, ma_ial_ap, ma_ias_ap, List.set_cons_zero, List.set_cons_succ, List.length_cons, List.length_nil, Nat.reduceAdd, Nat.reduceLT, Nat.reduceLeDiff, Nat.le_refl, true_and, and_true, Nat.lt_add_one, fa_lit, nI_add, pk_mul, pk_sub, pk_div, ma_rem_n, nI_ltI, nI_leI, nI_eq, Nat.reduceEqDiff, Nat.reduceMul, Nat.reduceSub, not_false_eq_true, not_true_eq_false, or_true, true_or, or_false, false_or, eq_self, Nat.zero_add, Nat.add_zero]
        exact hs
      | true =>
        simp (disch := omega) only [w31_0, w31_1, w31_3, w31_4, w31_6, w31_8, w31_9, w31_12, w31_15, w31_16, w31_19, w31_22, w31_24, w31_25, w31_26, w31_29, w31_31, w31_32, w31_33, w31_34, w31_37, w31_39, w31_41, w31_44, w31_46, w31_47, w31_48, w31_51, w31_53, w31_54, w31_55, w31_56, w31_58, w31_59, w31_62, w31_65, w31_67, w31_68, w31_69, w31_72, w31_74, w31_75, w31_76, w31_77, w31_80, w31_82, w31_84, w31_87, w31_89, w31_90, w31_91, w31_94, w31_96, w31_97, w31_98, w31_99, w31_104, w31_107, w31_109, ma_kV_ap, ma_kC_s, ma_kC_n, ma_kH_ap, ma_gf_ap, ma_pf_ap, ma_cv_ap, ma_nt_0, ma_nt_s, ma_if_t, ma_if_f, ma_set_s, ma_set_ss, ma_set_2, ma_cat_n, ma_cat_i, ma_cat_l, ma_cat_r, ma_clr_n, ma_clr_i, ma_clr_l, ma_clr_r, ma_clr_0, ma_rf_s, ma_rf_n, ma_ial_ap, ma_ias_ap, List.set_cons_zero, List.set_cons_succ, List.length_cons, List.length_nil, Nat.reduceAdd, Nat.reduceLT, Nat.reduceLeDiff, Nat.le_refl, true_and, and_true, Nat.lt_add_one, fa_lit, nI_add, pk_mul, pk_sub, pk_div, ma_rem_n, nI_ltI, nI_leI, nI_eq, Nat.reduceEqDiff, Nat.reduceMul, Nat.reduceSub, not_false_eq_true, not_true_eq_false, or_true, true_or, or_false, false_or, eq_self, Nat.zero_add, Nat.add_zero, nu_in, nI_clamp, pk_us, pk_un, ma_set_n, e0, e1, e2, e3, e4, hc, x0, x1, x2, x3, i0, i1, i2, i3, if_true]
        simp (disch := omega) only [w31_0, w31_1, w31_3, w31_4, w31_8, w31_9, w31_12, w31_15, w31_16, w31_19, w31_22, w31_24, w31_25, w31_26, w31_29, w31_31, w31_32, w31_33, w31_34, w31_37, w31_39, w31_41, w31_44, w31_46, w31_47, w31_48, w31_51, w31_53, w31_54, w31_55, w31_56, w31_58, w31_59, w31_62, w31_65, w31_67, w31_68, w31_69, w31_72, w31_74, w31_75, w31_76, w31_77, w31_80, w31_82, w31_84, w31_87, w31_89, w31_90, w31_91, w31_94, w31_96, w31_97, w31_98, w31_99, w31_101, w31_104, w31_107, w31_109, ma_kV_ap, ma_kC_s, ma_kC_n, ma_kH_ap, ma_gf_ap, ma_pf_ap, ma_cv_ap, ma_nt_0, ma_nt_s, ma_if_t, ma_if_f, ma_set_s, ma_set_ss, ma_set_2, ma_cat_n, ma_cat_i, ma_cat_l, ma_cat_r, ma_clr_n, ma_clr_i, ma_clr_l, ma_clr_r, ma_clr_0, ma_rf_s, ma_rf_n, ma_ial_ap, ma_ias_ap, List.set_cons_zero, List.set_cons_succ, List.length_cons, List.length_nil, Nat.reduceAdd, Nat.reduceLT, Nat.reduceLeDiff, Nat.le_refl, true_and, and_true, Nat.lt_add_one, fa_lit, nI_add, pk_mul, pk_sub, pk_div, ma_rem_n, nI_ltI, nI_leI, nI_eq, Nat.reduceEqDiff, Nat.reduceMul, Nat.reduceSub, not_false_eq_true, not_true_eq_false, or_true, true_or, or_false, false_or, eq_self, Nat.zero_add, Nat.add_zero]
        exact hs
  rw [e31]
  simp (disch := omega) only [w31_0, w31_1, w31_3, w31_4, w31_8, w31_9, w31_12, w31_15, w31_16, w31_19, w31_22, w31_24, w31_25, w31_26, w31_29, w31_31, w31_32, w31_33, w31_34, w31_37, w31_39, w31_41, w31_44, w31_46, w31_47, w31_48, w31_51, w31_53, w31_54, w31_55, w31_56, w31_58, w31_59, w31_62, w31_65, w31_67, w31_68, w31_69, w31_72, w31_74, w31_75, w31_76, w31_77, w31_80, w31_82, w31_84, w31_87, w31_89, w31_90, w31_91, w31_94, w31_96, w31_97, w31_98, w31_99, w31_101, w31_104, w31_107, w31_109, ma_kV_ap, ma_kC_s, ma_kC_n, ma_kH_ap, ma_gf_ap, ma_pf_ap, ma_cv_ap, ma_nt_0, ma_nt_s, ma_if_t, ma_if_f, ma_set_s, ma_set_ss, ma_set_2, ma_cat_n, ma_cat_i, ma_cat_l, ma_cat_r, ma_clr_n, ma_clr_i, ma_clr_l, ma_clr_r, ma_clr_0, ma_rf_s, ma_rf_n, ma_ial_ap, ma_ias_ap, List.set_cons_zero, List.set_cons_succ, List.length_cons, List.length_nil, Nat.reduceAdd, Nat.reduceLT, Nat.reduceLeDiff, Nat.le_refl, true_and, and_true, Nat.lt_add_one, fa_lit, nI_add, pk_mul, pk_sub, pk_div, ma_rem_n, nI_ltI, nI_leI, nI_eq, Nat.reduceEqDiff, Nat.reduceMul, Nat.reduceSub, not_false_eq_true, not_true_eq_false, or_true, true_or, or_false, false_or, eq_self, Nat.zero_add, Nat.add_zero]
  exact loop _ 0 rfl (Nat.zero_le _)
end SF
section SG
variable {d b c : Nat} {H : ma_H} {Q : ma_P} {l l' : List gSe}
theorem s_copyFrom (hb : 4 ≤ b) (hbc : b + 5 ≤ c ∨ c + 5 ≤ b) (hl : l.length ≤ 6) (hP : seP H c l) (hP' : seP H b l') (h : ∀ H', seP H' b l → fr H H' b (b + 5) → Q none H') : ma_MW (d + 1) 32 [.ref b, .ref c] H Q := by
  obtain ⟨f0, f1, f2, f3, e0, e1, e2, e3, e4, e5⟩ := hP
  obtain ⟨u0, u1, u2, u3, v0, v1, v2, v3, v4, v5⟩ := hP'
  have g1 : (4 ≤ b + 1) = True := eq_true (by omega)
  have g2 : (4 ≤ b + 2) = True := eq_true (by omega)
  have g3 : (4 ≤ b + 3) = True := eq_true (by omega)
  have g4 : (4 ≤ b + 4) = True := eq_true (by omega)
  have loop : ∀ m k, 6 - k = m → k ≤ 6 → ∀ (u0 u1 u2 u3 : Nat → Int32) (H1 : ma_H), fr H H1 b (b + 5) → H1.1 b = .inr (3, [.ref (b + 1), .ref (b + 2), .ref (b + 3), .ref (b + 4), .int (nI l.length)]) → H1.1 (b + 1) = arI 6 u0 → H1.1 (b + 2) = arI 6 u1 → H1.1 (b + 3) = arI 6 u2 → H1.1 (b + 4) = arI 6 u3 → (∀ j, j < k → u0 j = f0 j ∧ u1 j = f1 j ∧ u2 j = f2 j ∧ u3 j = f3 j) → ma_W d 32 Q 10 [some (.ref b), some (.ref c), some (.int (nI k))] [] H1 0 0 := by
    intro m
    induction m with
    | zero =>
      intro k g1 g2 u0 u1 u2 u3 H1 hF w0 w1 w2 w3 w4 w5
      have hc : (6 ≤ k) = True := eq_true (by omega)
      simp (disch := omega) only [w32_0, w32_1, w32_2, w32_5, w32_8, w32_9, w32_10, w32_11, w32_13, w32_16, w32_17, w32_20, w32_21, w32_22, w32_25, w32_26, w32_27, w32_28, w32_29, w32_32, w32_33, w32_34, w32_37, w32_38, w32_39, w32_40, w32_41, w32_44, w32_45, w32_46, w32_49, w32_50, w32_51, w32_52, w32_53, w32_56, w32_57, w32_58, w32_61, w32_62, w32_63, w32_64, w32_67, w32_70, ma_kV_ap, ma_kC_s, ma_kC_n, ma_kH_ap, ma_gf_ap, ma_pf_ap, ma_cv_ap, ma_nt_0, ma_nt_s, ma_if_t, ma_if_f, ma_set_s, ma_set_ss, ma_set_2, ma_cat_n, ma_cat_i, ma_cat_l, ma_cat_r, ma_clr_n, ma_clr_i, ma_clr_l, ma_clr_r, ma_clr_0, ma_rf_s, ma_rf_n, ma_ial_ap, ma_ias_ap, List.set_cons_zero, List.set_cons_succ, List.length_cons, List.length_nil, Nat.reduceAdd, Nat.reduceLT, Nat.reduceLeDiff, Nat.le_refl, true_and, and_true, Nat.lt_add_one, fa_lit, nI_add, pk_mul, pk_sub, pk_div, ma_rem_n, nI_ltI, nI_leI, nI_eq, Nat.reduceEqDiff, Nat.reduceMul, Nat.reduceSub, not_false_eq_true, not_true_eq_false, or_true, true_or, or_false, false_or, eq_self, Nat.zero_add, Nat.add_zero, hc]
      refine h H1 ⟨u0, u1, u2, u3, w0, w1, w2, w3, w4, fun j e hj => ?_⟩ hF
      have hjl := (List.getElem?_eq_some_iff.mp hj).1
      obtain ⟨y0, y1, y2, y3⟩ := w5 j (by omega)
      rw [y0, y1, y2, y3]
      exact e5 j e hj
    | succ m ih =>
      intro k g1' g2' u0 u1 u2 u3 H1 hF w0 w1 w2 w3 w4 w5
      have hc : (6 ≤ k) = False := eq_false (by omega)
      have z0 := (hF.2 c (by omega)).trans e0
      have z1 := (hF.2 (c + 1) (by omega)).trans e1
      have z2 := (hF.2 (c + 2) (by omega)).trans e2
      have z3 := (hF.2 (c + 3) (by omega)).trans e3
      have z4 := (hF.2 (c + 4) (by omega)).trans e4
      simp (disch := omega) only [w32_0, w32_1, w32_2, w32_5, w32_8, w32_9, w32_10, w32_11, w32_13, w32_16, w32_17, w32_20, w32_21, w32_22, w32_25, w32_26, w32_27, w32_28, w32_29, w32_32, w32_33, w32_34, w32_37, w32_38, w32_39, w32_40, w32_41, w32_44, w32_45, w32_46, w32_49, w32_50, w32_51, w32_52, w32_53, w32_56, w32_57, w32_58, w32_61, w32_62, w32_63, w32_67, w32_70, ma_kV_ap, ma_kC_s, ma_kC_n, ma_kH_ap, ma_gf_ap, ma_pf_ap, ma_cv_ap, ma_nt_0, ma_nt_s, ma_if_t, ma_if_f, ma_set_s, ma_set_ss, ma_set_2, ma_cat_n, ma_cat_i, ma_cat_l, ma_cat_r, ma_clr_n, ma_clr_i, ma_clr_l, ma_clr_r, ma_clr_0, ma_rf_s, ma_rf_n, ma_ial_ap, ma_ias_ap, List.set_cons_zero, List.set_cons_succ, List.length_cons, List.length_nil, Nat.reduceAdd, Nat.reduceLT, Nat.reduceLeDiff, Nat.le_refl, true_and, and_true, Nat.lt_add_one, fa_lit, nI_add, pk_mul, pk_sub, pk_div, ma_rem_n, nI_ltI, nI_leI, nI_eq, Nat.reduceEqDiff, Nat.reduceMul, Nat.reduceSub, not_false_eq_true, not_true_eq_false, or_true, true_or, or_false, false_or, eq_self, Nat.zero_add, Nat.add_zero, nu_in, nI_clamp, pk_us, pk_un, ma_set_n, hc, w0, w1, w2, w3, w4, z0, z1, z2, z3, z4, g1, g2, g3, g4]
      simp (disch := omega) only [w32_0, w32_1, w32_2, w32_5, w32_8, w32_9, w32_11, w32_13, w32_16, w32_17, w32_20, w32_21, w32_22, w32_25, w32_26, w32_27, w32_28, w32_29, w32_32, w32_33, w32_34, w32_37, w32_38, w32_39, w32_40, w32_41, w32_44, w32_45, w32_46, w32_49, w32_50, w32_51, w32_52, w32_53, w32_56, w32_57, w32_58, w32_61, w32_62, w32_63, w32_64, w32_67, w32_70, ma_kV_ap, ma_kC_s, ma_kC_n, ma_kH_ap, ma_gf_ap, ma_pf_ap, ma_cv_ap, ma_nt_0, ma_nt_s, ma_if_t, ma_if_f, ma_set_s, ma_set_ss, ma_set_2, ma_cat_n, ma_cat_i, ma_cat_l, ma_cat_r, ma_clr_n, ma_clr_i, ma_clr_l, ma_clr_r, ma_clr_0, ma_rf_s, ma_rf_n, ma_ial_ap, ma_ias_ap, List.set_cons_zero, List.set_cons_succ, List.length_cons, List.length_nil, Nat.reduceAdd, Nat.reduceLT, Nat.reduceLeDiff, Nat.le_refl, true_and, and_true, Nat.lt_add_one, fa_lit, nI_add, pk_mul, pk_sub, pk_div, ma_rem_n, nI_ltI, nI_leI, nI_eq, Nat.reduceEqDiff, Nat.reduceMul, Nat.reduceSub, not_false_eq_true, not_true_eq_false, or_true, true_or, or_false, false_or, eq_self, Nat.zero_add, Nat.add_zero]
      refine ih (k + 1) (by omega) (by omega) (upd u0 k (f0 k)) (upd u1 k (f1 k)) (upd u2 k (f2 k)) (upd u3 k (f3 k)) _ (fr_set' (fr_set' (fr_set' (fr_set' hF (by omega) (by omega)) (by omega) (by omega)) (by omega) (by omega)) (by omega) (by omega)) ?_ ?_ ?_ ?_ ?_ ?_
      · simp (disch := omega) only [ma_set_n, ma_set_s, w0]
      · simp (disch := omega) only [ma_set_n, ma_set_s]
      · simp (disch := omega) only [ma_set_n, ma_set_s]
      · simp (disch := omega) only [ma_set_n, ma_set_s]
      · simp (disch := omega) only [ma_set_n, ma_set_s]
      · intro j hj
        rcases Nat.lt_or_ge j k with g | g
        · rw [pk_un (by omega), pk_un (by omega), pk_un (by omega), pk_un (by omega)]
          exact w5 j g
        · have : j = k := by omega
          subst this
          exact ⟨pk_us, pk_us, pk_us, pk_us⟩
  rw [e32]
  simp (disch := omega) only [w32_0, w32_1, w32_2, w32_5, w32_8, w32_9, w32_11, w32_13, w32_16, w32_17, w32_20, w32_21, w32_22, w32_25, w32_26, w32_27, w32_28, w32_29, w32_32, w32_33, w32_34, w32_37, w32_38, w32_39, w32_40, w32_41, w32_44, w32_45, w32_46, w32_49, w32_50, w32_51, w32_52, w32_53, w32_56, w32_57, w32_58, w32_61, w32_62, w32_63, w32_64, w32_67, w32_70, ma_kV_ap, ma_kC_s, ma_kC_n, ma_kH_ap, ma_gf_ap, ma_pf_ap, ma_cv_ap, ma_nt_0, ma_nt_s, ma_if_t, ma_if_f, ma_set_s, ma_set_ss, ma_set_2, ma_cat_n, ma_cat_i, ma_cat_l, ma_cat_r, ma_clr_n, ma_clr_i, ma_clr_l, ma_clr_r, ma_clr_0, ma_rf_s, ma_rf_n, ma_ial_ap, ma_ias_ap, List.set_cons_zero, List.set_cons_succ, List.length_cons, List.length_nil, Nat.reduceAdd, Nat.reduceLT, Nat.reduceLeDiff, Nat.le_refl, true_and, and_true, Nat.lt_add_one, fa_lit, nI_add, pk_mul, pk_sub, pk_div, ma_rem_n, nI_ltI, nI_leI, nI_eq, Nat.reduceEqDiff, Nat.reduceMul, Nat.reduceSub, not_false_eq_true, not_true_eq_false, or_true, true_or, or_false, false_or, eq_self, Nat.zero_add, Nat.add_zero, e0, v0]
  refine loop _ 0 rfl (Nat.zero_le _) u0 u1 u2 u3 _ (fr_set _ _ (by omega) (by omega)) (ma_set_s _ _ _) ?_ ?_ ?_ ?_ (fun j hj => by omega)
  · rw [ma_set_n _ _ (by omega)]; exact v1
  · rw [ma_set_n _ _ (by omega)]; exact v2
  · rw [ma_set_n _ _ (by omega)]; exact v3
  · rw [ma_set_n _ _ (by omega)]; exact v4
end SG

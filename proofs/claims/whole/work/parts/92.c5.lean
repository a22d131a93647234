/-! the class BeggarPile: against, luck, evenings, part, status, count, digest -/
theorem gR_cong {f f' : Nat → Int32} (h : ∀ p, p < 36 → f p = f' p) {p : Nat} (hp : p < 36) : gRp f p ↔ gRp f' p := by
  unfold gRp gR
  have e : ∀ i j, i < 6 → j < 6 → f (6 * i + j) = f' (6 * i + j) := fun i j hi hj => h _ (by omega)
  constructor
  · intro z o ho
    have := z o ho
    rw [e o _ ho (by omega), e _ _ (by omega) (by omega), e _ o (by omega) ho] at this
    exact this
  · intro z o ho
    have := z o ho
    rw [← e o _ ho (by omega), ← e _ _ (by omega) (by omega), ← e _ o (by omega) ho] at this
    exact this
theorem gcnt_cong {f f' : Nat → Int32} (h : ∀ p, p < 36 → f p = f' p) : ∀ n, n ≤ 36 → gcnt f n = gcnt f' n
  | 0, _ => rfl
  | n + 1, hn => by
    have ih := gcnt_cong h n (by omega)
    by_cases c : gRp f n
    · rw [gcnt_y c, gcnt_y ((gR_cong h (by omega)).mp c), ih]
    · rw [gcnt_n c, gcnt_n (fun z => c ((gR_cong h (by omega)).mpr z)), ih]
noncomputable def vK (t : ga_T) (k : Int32) : Int32 := by classical exact if k = -nI 1 then nI (gcnt (gov t) 36) else if h : ∃ p, p < 36 ∧ gRp (gov t) p ∧ nI (gcnt (gov t) p) = k then nI (10 * (h.choose / 6) + h.choose % 6) else -nI 5
theorem vK_all {t : ga_T} : vK t (-nI 1) = nI (gcnt (gov t) 36) := by unfold vK; rw [if_pos rfl]
theorem vK_some {t : ga_T} {k : Int32} {p : Nat} (hk : k ≠ -nI 1) (hp : p < 36) (h1 : gRp (gov t) p) (h2 : nI (gcnt (gov t) p) = k) : vK t k = nI (10 * (p / 6) + p % 6) := by
  unfold vK
  have h : ∃ p, p < 36 ∧ gRp (gov t) p ∧ nI (gcnt (gov t) p) = k := ⟨p, hp, h1, h2⟩
  rw [if_neg hk, dif_pos h]
  obtain ⟨a, b, c⟩ := h.choose_spec
  have l1 := gcnt_le (f := gov t) h.choose
  have l2 := gcnt_le (f := gov t) p
  have e : h.choose = p := gcnt_uniq b h1 ((nI_eq (by omega) (by omega)).mp (c.trans h2.symm))
  rw [e]
theorem vK_none {t : ga_T} {k : Int32} (hk : k ≠ -nI 1) (h : ∀ p, p < 36 → gRp (gov t) p → nI (gcnt (gov t) p) ≠ k) : vK t k = -nI 5 := by
  unfold vK
  rw [if_neg hk, dif_neg (fun ⟨p, a, b, c⟩ => h p a b c)]
def gnumber (g : gG) (tx : List Nat) (w : Nat) : Nat := if w = 10 then g.2.2.1.length else if w = 11 then g.2.2.2.length else if w = 12 then g.2.1.length else if w = 13 then tx.length else gnum g.1 w
def vD (g : gG) (tx : List Nat) (ab bl : Int64) : Int64 := 31 * (31 * gmixs true (gmixs false (gmx (gmx (gmx (gmx (lN 1871) ((List.range 14).map (gnumber g tx))) (ghand g.1 0)) (ghand g.1 1)) (ghand g.1 2)) g.2.2.1) g.2.2.2 + ab) + bl
section C5
variable {d : Nat} {Q : ma_P} {H : ma_H} {g : gG} {i0 i1 : Option gG} {tx : List Nat} {ab bl : Int64} {c0 c1 c2 : Int32}
theorem c_against {k : Int32} (hO : sOK g i0 i1 tx) (hP : cP H g i0 i1 tx ab bl c0 c1 c2)
    (hb : k < -nI 1 → ∀ H', cP H' g i0 i1 tx ab bl (c0 + nI 1) c1 c2 → cF H H' → Q (some (.int (-nI 10))) H')
    (h : ¬ k < -nI 1 → ∀ H', cP H' g i0 i1 tx ab bl c0 c1 c2 → cF H H' → Q (some (.int (vK g.1 k))) H') : ma_MW (d + 8) 102 [.ref 4, .int k] H Q := by
  have h4 := cP_4 hP
  have h5 := cP_5 hP
  have h6 := cP_6 hP
  have hmv := hO.1.2.1
  obtain ⟨⟨bc, bm, hTr⟩, f32, e32⟩ := hP.2.2.2.2.1
  have h29 := hTr.1
  rw [e102]
  simp (disch := omega) only [w102_0, w102_1, w102_2, w102_6, w102_6i, w102_7, w102_10, w102_11, w102_12, w102_15, w102_17, w102_19, w102_22, w102_23, w102_26, w102_29, w102_32, w102_33, w102_34, w102_37, w102_38, w102_41, w102_44, w102_47, w102_48, w102_51, w102_52, w102_55, ma_kV_ap, ma_kC_s, ma_kC_n, ma_kH_ap, ma_gf_ap, ma_pf_ap, ma_cv_ap, ma_nt_0, ma_nt_s, ma_if_t, ma_if_f, ma_set_s, ma_set_ss, ma_set_2, ma_cat_n, ma_cat_i, ma_cat_l, ma_cat_r, ma_clr_n, ma_clr_i, ma_clr_l, ma_clr_r, ma_clr_0, ma_rf_s, ma_rf_n, ma_ial_ap, ma_ias_ap, List.set_cons_zero, List.set_cons_succ, List.length_cons, List.length_nil, Nat.reduceAdd, Nat.reduceLT, Nat.reduceLeDiff, Nat.le_refl, true_and, and_true, Nat.lt_add_one, fa_lit]
  refine ⟨fun z => ?_, fun z => ?_⟩
  · have h := h (Int32.not_lt.mpr z)
    simp (disch := omega) only [w102_0, w102_1, w102_2, w102_5, w102_6, w102_6i, w102_7, w102_10, w102_11, w102_12, w102_15, w102_17, w102_18, w102_19, w102_22, w102_23, w102_26, w102_29, w102_32, w102_33, w102_34, w102_37, w102_38, w102_41, w102_44, w102_47, w102_48, w102_51, w102_52, w102_55, ma_kV_ap, ma_kC_s, ma_kC_n, ma_kH_ap, ma_gf_ap, ma_pf_ap, ma_cv_ap, ma_nt_0, ma_nt_s, ma_if_t, ma_if_f, ma_set_s, ma_set_ss, ma_set_2, ma_cat_n, ma_cat_i, ma_cat_l, ma_cat_r, ma_clr_n, ma_clr_i, ma_clr_l, ma_clr_r, ma_clr_0, ma_rf_s, ma_rf_n, ma_ial_ap, ma_ias_ap, List.set_cons_zero, List.set_cons_succ, List.length_cons, List.length_nil, Nat.reduceAdd, Nat.reduceLT, Nat.reduceLeDiff, Nat.le_refl, true_and, and_true, Nat.lt_add_one, tab_cv, tab_g0, tab_g2, trC, h4, h5, h29]
    refine k_all hO.1.1 (by omega) (by omega) h6 hTr e32 (fun H1 y f q q32 qf fF => ?_)
    have P1 := cP_tr hP ⟨⟨bc, bm, q.1, ⟨y, q.2.1⟩, q.2.2⟩, f, q32⟩ fF
    have h := h H1 P1 (cF_fr fF (by omega) (by omega))
    have h4 := cP_4 P1
    have h29 := q.1
    simp (disch := omega) only [w102_0, w102_1, w102_2, w102_5, w102_6, w102_6i, w102_7, w102_10, w102_11, w102_12, w102_15, w102_17, w102_18, w102_19, w102_22, w102_23, w102_26, w102_29, w102_32, w102_33, w102_34, w102_38, w102_41, w102_44, w102_48, w102_51, w102_52, w102_55, ma_kV_ap, ma_kC_s, ma_kC_n, ma_kH_ap, ma_gf_ap, ma_pf_ap, ma_cv_ap, ma_nt_0, ma_nt_s, ma_if_t, ma_if_f, ma_set_s, ma_set_ss, ma_set_2, ma_cat_n, ma_cat_i, ma_cat_l, ma_cat_r, ma_clr_n, ma_clr_i, ma_clr_l, ma_clr_r, ma_clr_0, ma_rf_s, ma_rf_n, ma_ial_ap, ma_ias_ap, List.set_cons_zero, List.set_cons_succ, List.length_cons, List.length_nil, Nat.reduceAdd, Nat.reduceLT, Nat.reduceLeDiff, Nat.le_refl, true_and, and_true, Nat.lt_add_one, fa_lit]
    refine ⟨fun e => ?_, fun e => ?_⟩
    · rw [e, vK_all] at h
      simp (disch := omega) only [w102_0, w102_1, w102_2, w102_5, w102_6, w102_6i, w102_7, w102_10, w102_11, w102_12, w102_15, w102_17, w102_18, w102_19, w102_22, w102_23, w102_26, w102_29, w102_32, w102_33, w102_34, w102_37, w102_38, w102_41, w102_44, w102_47, w102_48, w102_51, w102_52, w102_55, ma_kV_ap, ma_kC_s, ma_kC_n, ma_kH_ap, ma_gf_ap, ma_pf_ap, ma_cv_ap, ma_nt_0, ma_nt_s, ma_if_t, ma_if_f, ma_set_s, ma_set_ss, ma_set_2, ma_cat_n, ma_cat_i, ma_cat_l, ma_cat_r, ma_clr_n, ma_clr_i, ma_clr_l, ma_clr_r, ma_clr_0, ma_rf_s, ma_rf_n, ma_ial_ap, ma_ias_ap, List.set_cons_zero, List.set_cons_succ, List.length_cons, List.length_nil, Nat.reduceAdd, Nat.reduceLT, Nat.reduceLeDiff, Nat.le_refl, true_and, and_true, Nat.lt_add_one, tab_cv, tab_g0, tab_g2, trC, h4, h29]
      refine k_howMany q.1 q32 ?_
      rw [gcnt_cong qf 36 (Nat.le_refl _)]
      simp (disch := omega) only [w102_0, w102_1, w102_2, w102_5, w102_6, w102_6i, w102_7, w102_10, w102_11, w102_12, w102_15, w102_17, w102_18, w102_19, w102_22, w102_23, w102_26, w102_29, w102_32, w102_33, w102_34, w102_37, w102_38, w102_41, w102_44, w102_47, w102_48, w102_51, w102_52, w102_55, ma_kV_ap, ma_kC_s, ma_kC_n, ma_kH_ap, ma_gf_ap, ma_pf_ap, ma_cv_ap, ma_nt_0, ma_nt_s, ma_if_t, ma_if_f, ma_set_s, ma_set_ss, ma_set_2, ma_cat_n, ma_cat_i, ma_cat_l, ma_cat_r, ma_clr_n, ma_clr_i, ma_clr_l, ma_clr_r, ma_clr_0, ma_rf_s, ma_rf_n, ma_ial_ap, ma_ias_ap, List.set_cons_zero, List.set_cons_succ, List.length_cons, List.length_nil, Nat.reduceAdd, Nat.reduceLT, Nat.reduceLeDiff, Nat.le_refl, true_and, and_true, Nat.lt_add_one]
      exact h
    · simp (disch := omega) only [w102_0, w102_1, w102_2, w102_5, w102_6, w102_6i, w102_7, w102_10, w102_11, w102_12, w102_15, w102_17, w102_18, w102_19, w102_22, w102_23, w102_26, w102_29, w102_32, w102_33, w102_34, w102_37, w102_38, w102_41, w102_44, w102_47, w102_48, w102_51, w102_52, w102_55, ma_kV_ap, ma_kC_s, ma_kC_n, ma_kH_ap, ma_gf_ap, ma_pf_ap, ma_cv_ap, ma_nt_0, ma_nt_s, ma_if_t, ma_if_f, ma_set_s, ma_set_ss, ma_set_2, ma_cat_n, ma_cat_i, ma_cat_l, ma_cat_r, ma_clr_n, ma_clr_i, ma_clr_l, ma_clr_r, ma_clr_0, ma_rf_s, ma_rf_n, ma_ial_ap, ma_ias_ap, List.set_cons_zero, List.set_cons_succ, List.length_cons, List.length_nil, Nat.reduceAdd, Nat.reduceLT, Nat.reduceLeDiff, Nat.le_refl, true_and, and_true, Nat.lt_add_one, tab_cv, tab_g0, tab_g2, trC, h4, h29]
      refine k_resting q.1 q32 (fun p hp hr he => ?_) (fun hn => ?_)
      · rw [vK_some e hp ((gR_cong qf hp).mp hr) (by rw [← gcnt_cong qf p (by omega)]; exact he)] at h
        simp (disch := omega) only [w102_0, w102_1, w102_2, w102_5, w102_6, w102_6i, w102_7, w102_10, w102_11, w102_12, w102_15, w102_17, w102_18, w102_19, w102_22, w102_23, w102_26, w102_29, w102_32, w102_33, w102_34, w102_37, w102_38, w102_41, w102_44, w102_47, w102_48, w102_51, w102_52, w102_55, ma_kV_ap, ma_kC_s, ma_kC_n, ma_kH_ap, ma_gf_ap, ma_pf_ap, ma_cv_ap, ma_nt_0, ma_nt_s, ma_if_t, ma_if_f, ma_set_s, ma_set_ss, ma_set_2, ma_cat_n, ma_cat_i, ma_cat_l, ma_cat_r, ma_clr_n, ma_clr_i, ma_clr_l, ma_clr_r, ma_clr_0, ma_rf_s, ma_rf_n, ma_ial_ap, ma_ias_ap, List.set_cons_zero, List.set_cons_succ, List.length_cons, List.length_nil, Nat.reduceAdd, Nat.reduceLT, Nat.reduceLeDiff, Nat.le_refl, true_and, and_true, Nat.lt_add_one]
        exact h
      · rw [vK_none e (fun p hp hr he => hn p hp ((gR_cong qf hp).mpr hr) (by rw [gcnt_cong qf p (by omega)]; exact he))] at h
        simp (disch := omega) only [w102_0, w102_1, w102_2, w102_5, w102_6, w102_6i, w102_7, w102_10, w102_11, w102_12, w102_15, w102_17, w102_18, w102_19, w102_22, w102_23, w102_26, w102_29, w102_32, w102_33, w102_34, w102_37, w102_38, w102_41, w102_44, w102_47, w102_48, w102_51, w102_52, w102_55, ma_kV_ap, ma_kC_s, ma_kC_n, ma_kH_ap, ma_gf_ap, ma_pf_ap, ma_cv_ap, ma_nt_0, ma_nt_s, ma_if_t, ma_if_f, ma_set_s, ma_set_ss, ma_set_2, ma_cat_n, ma_cat_i, ma_cat_l, ma_cat_r, ma_clr_n, ma_clr_i, ma_clr_l, ma_clr_r, ma_clr_0, ma_rf_s, ma_rf_n, ma_ial_ap, ma_ias_ap, List.set_cons_zero, List.set_cons_succ, List.length_cons, List.length_nil, Nat.reduceAdd, Nat.reduceLT, Nat.reduceLeDiff, Nat.le_refl, true_and, and_true, Nat.lt_add_one]
        exact h
  · have z' : k < -nI 1 := Int32.not_le.mp z
    simp (disch := omega) only [w102_0, w102_1, w102_2, w102_5, w102_6, w102_6i, w102_7, w102_10, w102_11, w102_12, w102_15, w102_17, w102_18, w102_19, w102_22, w102_23, w102_26, w102_29, w102_32, w102_33, w102_34, w102_37, w102_38, w102_41, w102_44, w102_47, w102_48, w102_51, w102_52, w102_55, ma_kV_ap, ma_kC_s, ma_kC_n, ma_kH_ap, ma_gf_ap, ma_pf_ap, ma_cv_ap, ma_nt_0, ma_nt_s, ma_if_t, ma_if_f, ma_set_s, ma_set_ss, ma_set_2, ma_cat_n, ma_cat_i, ma_cat_l, ma_cat_r, ma_clr_n, ma_clr_i, ma_clr_l, ma_clr_r, ma_clr_0, ma_rf_s, ma_rf_n, ma_ial_ap, ma_ias_ap, List.set_cons_zero, List.set_cons_succ, List.length_cons, List.length_nil, Nat.reduceAdd, Nat.reduceLT, Nat.reduceLeDiff, Nat.le_refl, true_and, and_true, Nat.lt_add_one, fa_lit, h4]
    exact hb z' _ (cP_be hP) cF_be
theorem b_setFraction {x y : Nat} (hx : x ≤ y) (hy0 : 0 < y) (hy : y < 1000) (hP : cP H g i0 i1 tx ab bl c0 c1 c2) (h : ∀ H', cP H' g i0 i1 tx (lN (x / Nat.gcd x y)) (lN (y / Nat.gcd x y)) c0 c1 c2 → cF H H' → Q none H') : ma_MW (d + 1) 112 [.ref 4, .int (nI x), .int (nI y)] H Q := by
  have h4 := cP_4 hP
  have gy : Nat.gcd x y ∣ y := Nat.gcd_dvd_right x y
  have gxd : Nat.gcd x y ∣ x := Nat.gcd_dvd_left x y
  have gp : 0 < Nat.gcd x y := Nat.gcd_pos_of_pos_right x hy0
  have gl : Nat.gcd x y ≤ y := Nat.le_of_dvd hy0 gy
  have tail : ma_W d 112 Q 25 [some (.ref 4), some (.int (nI x)), some (.int (nI y)), some (.int (nI (Nat.gcd x y)))] [] H 0 0 := by
    have hc : (Nat.gcd x y ≤ 0) = False := eq_false (by omega)
    have hz : (Nat.gcd x y = 0) = False := eq_false (by omega)
    have b1 : x / Nat.gcd x y ≤ x := Nat.div_le_self _ _
    have b2 : y / Nat.gcd x y ≤ y := Nat.div_le_self _ _
    have i1 : (nI (x / Nat.gcd x y)).toInt64 = lN (x / Nat.gcd x y) := nI_l (by omega)
    have i2 : (nI (y / Nat.gcd x y)).toInt64 = lN (y / Nat.gcd x y) := nI_l (by omega)
    simp (disch := omega) only [w112_0, w112_1, w112_2, w112_3, w112_4, w112_7, w112_8, w112_9, w112_10, w112_13, w112_14, w112_15, w112_16, w112_19, w112_22, w112_25, w112_26, w112_29, w112_30, w112_31, w112_32, w112_33, w112_34, w112_37, w112_38, w112_39, w112_40, w112_41, w112_42, w112_45, ma_kV_ap, ma_kC_s, ma_kC_n, ma_kH_ap, ma_gf_ap, ma_pf_ap, ma_cv_ap, ma_nt_0, ma_nt_s, ma_if_t, ma_if_f, ma_set_s, ma_set_ss, ma_set_2, ma_cat_n, ma_cat_i, ma_cat_l, ma_cat_r, ma_clr_n, ma_clr_i, ma_clr_l, ma_clr_r, ma_clr_0, ma_rf_s, ma_rf_n, ma_ial_ap, ma_ias_ap, List.set_cons_zero, List.set_cons_succ, List.length_cons, List.length_nil, Nat.reduceAdd, Nat.reduceLT, Nat.reduceLeDiff, Nat.le_refl, true_and, and_true, Nat.lt_add_one, fa_lit, nI_add, pk_mul, pk_sub, pk_div, ma_rem_n, nI_ltI, nI_leI, nI_eq, Nat.reduceEqDiff, Nat.reduceMul, Nat.reduceSub, not_false_eq_true, not_true_eq_false, or_true, true_or, or_false, false_or, eq_self, Nat.zero_add, Nat.add_zero, hc, hz, i1, i2, h4]
    exact h _ (cP_be hP) cF_be
  have loop : ∀ c k, k - Nat.gcd x y = c → Nat.gcd x y ≤ k → k ≤ y → ma_W d 112 Q 2 [some (.ref 4), some (.int (nI x)), some (.int (nI y)), some (.int (nI k))] [] H 0 0 := by
    intro c
    induction c with
    | zero =>
      intro k e1 e2 e3
      have ek : k = Nat.gcd x y := by omega
      subst ek
      have m1 : x % Nat.gcd x y = 0 := Nat.mod_eq_zero_of_dvd gxd
      have m2 : y % Nat.gcd x y = 0 := Nat.mod_eq_zero_of_dvd gy
      have hz : (Nat.gcd x y = 0) = False := eq_false (by omega)
      simp (disch := omega) only [w112_0, w112_1, w112_2, w112_3, w112_4, w112_8, w112_9, w112_10, w112_13, w112_14, w112_15, w112_16, w112_19, w112_22, w112_26, w112_29, w112_30, w112_31, w112_32, w112_33, w112_34, w112_37, w112_38, w112_39, w112_40, w112_41, w112_42, w112_45, ma_kV_ap, ma_kC_s, ma_kC_n, ma_kH_ap, ma_gf_ap, ma_pf_ap, ma_cv_ap, ma_nt_0, ma_nt_s, ma_if_t, ma_if_f, ma_set_s, ma_set_ss, ma_set_2, ma_cat_n, ma_cat_i, ma_cat_l, ma_cat_r, ma_clr_n, ma_clr_i, ma_clr_l, ma_clr_r, ma_clr_0, ma_rf_s, ma_rf_n, ma_ial_ap, ma_ias_ap, List.set_cons_zero, List.set_cons_succ, List.length_cons, List.length_nil, Nat.reduceAdd, Nat.reduceLT, Nat.reduceLeDiff, Nat.le_refl, true_and, and_true, Nat.lt_add_one, fa_lit, nI_add, pk_mul, pk_sub, pk_div, ma_rem_n, nI_ltI, nI_leI, nI_eq, Nat.reduceEqDiff, Nat.reduceMul, Nat.reduceSub, not_false_eq_true, not_true_eq_false, or_true, true_or, or_false, false_or, eq_self, Nat.zero_add, Nat.add_zero]
      refine ⟨fun _ => tail, fun _ => ?_⟩
      simp (disch := omega) only [w112_0, w112_1, w112_2, w112_3, w112_4, w112_7, w112_8, w112_9, w112_10, w112_13, w112_14, w112_15, w112_16, w112_19, w112_22, w112_26, w112_29, w112_30, w112_31, w112_32, w112_33, w112_34, w112_37, w112_38, w112_39, w112_40, w112_41, w112_42, w112_45, ma_kV_ap, ma_kC_s, ma_kC_n, ma_kH_ap, ma_gf_ap, ma_pf_ap, ma_cv_ap, ma_nt_0, ma_nt_s, ma_if_t, ma_if_f, ma_set_s, ma_set_ss, ma_set_2, ma_cat_n, ma_cat_i, ma_cat_l, ma_cat_r, ma_clr_n, ma_clr_i, ma_clr_l, ma_clr_r, ma_clr_0, ma_rf_s, ma_rf_n, ma_ial_ap, ma_ias_ap, List.set_cons_zero, List.set_cons_succ, List.length_cons, List.length_nil, Nat.reduceAdd, Nat.reduceLT, Nat.reduceLeDiff, Nat.le_refl, true_and, and_true, Nat.lt_add_one, fa_lit, nI_add, pk_mul, pk_sub, pk_div, ma_rem_n, nI_ltI, nI_leI, nI_eq, Nat.reduceEqDiff, Nat.reduceMul, Nat.reduceSub, not_false_eq_true, not_true_eq_false, or_true, true_or, or_false, false_or, eq_self, Nat.zero_add, Nat.add_zero, hz, m1, m2]
      exact tail
    | succ c ih =>
      intro k e1 e2 e3
      have hz : (k = 0) = False := eq_false (by omega)
      have h1 : (k ≤ 1) = False := eq_false (by omega)
      have nd : ¬ (x % k = 0 ∧ y % k = 0) := fun w => by
        have := Nat.le_of_dvd gp (Nat.dvd_gcd (Nat.dvd_of_mod_eq_zero w.1) (Nat.dvd_of_mod_eq_zero w.2))
        omega
      have b1 : x % k < k := Nat.mod_lt _ (by omega)
      have b2 : y % k < k := Nat.mod_lt _ (by omega)
      have em : nI k + -nI 1 = nI (k - 1) := by
        have := pk_m1 (k - 1)
        rw [show k - 1 + 1 = k by omega] at this
        exact this
      have nxt : ma_W d 112 Q 19 [some (.ref 4), some (.int (nI x)), some (.int (nI y)), some (.int (nI k))] [] H 0 0 := by
        simp (disch := omega) only [w112_0, w112_1, w112_3, w112_4, w112_7, w112_8, w112_9, w112_10, w112_13, w112_14, w112_15, w112_16, w112_19, w112_22, w112_25, w112_26, w112_29, w112_30, w112_31, w112_32, w112_33, w112_34, w112_37, w112_38, w112_39, w112_40, w112_41, w112_42, w112_45, ma_kV_ap, ma_kC_s, ma_kC_n, ma_kH_ap, ma_gf_ap, ma_pf_ap, ma_cv_ap, ma_nt_0, ma_nt_s, ma_if_t, ma_if_f, ma_set_s, ma_set_ss, ma_set_2, ma_cat_n, ma_cat_i, ma_cat_l, ma_cat_r, ma_clr_n, ma_clr_i, ma_clr_l, ma_clr_r, ma_clr_0, ma_rf_s, ma_rf_n, ma_ial_ap, ma_ias_ap, List.set_cons_zero, List.set_cons_succ, List.length_cons, List.length_nil, Nat.reduceAdd, Nat.reduceLT, Nat.reduceLeDiff, Nat.le_refl, true_and, and_true, Nat.lt_add_one, fa_lit, em]
        exact ih (k - 1) (by omega) (by omega) (by omega)
      simp (disch := omega) only [w112_0, w112_1, w112_2, w112_3, w112_4, w112_7, w112_8, w112_9, w112_10, w112_14, w112_15, w112_16, w112_22, w112_25, w112_26, w112_29, w112_30, w112_31, w112_32, w112_33, w112_34, w112_37, w112_38, w112_39, w112_40, w112_41, w112_42, w112_45, ma_kV_ap, ma_kC_s, ma_kC_n, ma_kH_ap, ma_gf_ap, ma_pf_ap, ma_cv_ap, ma_nt_0, ma_nt_s, ma_if_t, ma_if_f, ma_set_s, ma_set_ss, ma_set_2, ma_cat_n, ma_cat_i, ma_cat_l, ma_cat_r, ma_clr_n, ma_clr_i, ma_clr_l, ma_clr_r, ma_clr_0, ma_rf_s, ma_rf_n, ma_ial_ap, ma_ias_ap, List.set_cons_zero, List.set_cons_succ, List.length_cons, List.length_nil, Nat.reduceAdd, Nat.reduceLT, Nat.reduceLeDiff, Nat.le_refl, true_and, and_true, Nat.lt_add_one, fa_lit, nI_add, pk_mul, pk_sub, pk_div, ma_rem_n, nI_ltI, nI_leI, nI_eq, Nat.reduceEqDiff, Nat.reduceMul, Nat.reduceSub, not_false_eq_true, not_true_eq_false, or_true, true_or, or_false, false_or, eq_self, Nat.zero_add, Nat.add_zero, hz, h1]
      refine ⟨fun m1 => ?_, fun m1 => nxt⟩
      simp (disch := omega) only [w112_0, w112_1, w112_2, w112_3, w112_4, w112_7, w112_8, w112_9, w112_10, w112_13, w112_14, w112_15, w112_16, w112_22, w112_26, w112_29, w112_30, w112_31, w112_32, w112_33, w112_34, w112_37, w112_38, w112_39, w112_40, w112_41, w112_42, w112_45, ma_kV_ap, ma_kC_s, ma_kC_n, ma_kH_ap, ma_gf_ap, ma_pf_ap, ma_cv_ap, ma_nt_0, ma_nt_s, ma_if_t, ma_if_f, ma_set_s, ma_set_ss, ma_set_2, ma_cat_n, ma_cat_i, ma_cat_l, ma_cat_r, ma_clr_n, ma_clr_i, ma_clr_l, ma_clr_r, ma_clr_0, ma_rf_s, ma_rf_n, ma_ial_ap, ma_ias_ap, List.set_cons_zero, List.set_cons_succ, List.length_cons, List.length_nil, Nat.reduceAdd, Nat.reduceLT, Nat.reduceLeDiff, Nat.le_refl, true_and, and_true, Nat.lt_add_one, fa_lit, nI_add, pk_mul, pk_sub, pk_div, ma_rem_n, nI_ltI, nI_leI, nI_eq, Nat.reduceEqDiff, Nat.reduceMul, Nat.reduceSub, not_false_eq_true, not_true_eq_false, or_true, true_or, or_false, false_or, eq_self, Nat.zero_add, Nat.add_zero, hz]
      exact ⟨fun m2 => absurd ⟨m1, m2⟩ nd, fun _ => nxt⟩
  rw [e112]
  simp (disch := omega) only [w112_0, w112_1, w112_3, w112_4, w112_7, w112_8, w112_9, w112_10, w112_13, w112_14, w112_15, w112_16, w112_19, w112_22, w112_25, w112_26, w112_29, w112_30, w112_31, w112_32, w112_33, w112_34, w112_37, w112_38, w112_39, w112_40, w112_41, w112_42, w112_45, ma_kV_ap, ma_kC_s, ma_kC_n, ma_kH_ap, ma_gf_ap, ma_pf_ap, ma_cv_ap, ma_nt_0, ma_nt_s, ma_if_t, ma_if_f, ma_set_s, ma_set_ss, ma_set_2, ma_cat_n, ma_cat_i, ma_cat_l, ma_cat_r, ma_clr_n, ma_clr_i, ma_clr_l, ma_clr_r, ma_clr_0, ma_rf_s, ma_rf_n, ma_ial_ap, ma_ias_ap, List.set_cons_zero, List.set_cons_succ, List.length_cons, List.length_nil, Nat.reduceAdd, Nat.reduceLT, Nat.reduceLeDiff, Nat.le_refl, true_and, and_true, Nat.lt_add_one]
  exact loop _ y rfl gl (Nat.le_refl _)
theorem min_n {a b : Nat} (ha : a < 1000) (hb : b < 1000) : (if nI b < nI a then nI b else nI a) = nI (if b < a then b else a) := by
  by_cases h : b < a
  · rw [if_pos h, if_pos ((nI_ltI (by omega) (by omega)).mpr h)]
  · rw [if_neg h, if_neg (fun z => h ((nI_ltI (by omega) (by omega)).mp z))]
def gmin (n l : Nat) : Nat := if l < n then l else n
theorem c_luck {p n : Int32} (hO : sOK g i0 i1 tx) (hP : cP H g i0 i1 tx ab bl c0 c1 c2)
    (hb : ¬ (inR p 0 1 ∧ inR n 0 5) → ∀ H', cP H' g i0 i1 tx ab bl (c0 + nI 1) c1 c2 → cF H H' → Q (some (.int (-nI 2))) H')
    (h1 : ∀ a b m w, a < 2 → b ≤ 5 → p = nI a → n = nI b → m = gmin b (ghand g.1 a).length → w = goc a m g.1 (gfac m) → ∀ H', cP H' g i0 i1 tx (lN (w / Nat.gcd w (gfac m))) (lN (gfac m / Nat.gcd w (gfac m))) c0 c1 c2 → cF H H' → Q (some (.int (nI 1))) H') : ma_MW (d + 8) 103 [.ref 4, .int p, .int n] H Q := by
  have h4 := cP_4 hP
  have h5 := cP_5 hP
  have h6 := cP_6 hP
  have hmv := hO.1.2.1
  obtain ⟨⟨bc, bm, hTr⟩, f32, e32⟩ := hP.2.2.2.2.1
  have h29 := hTr.1
  have bad : ∀ P : Prop, ¬ (inR p 0 1 ∧ inR n 0 5) → ma_W (d + 7) 103 Q 16 [some (.ref 4), some (.int p), some (.int n), none] [] H 0 0 := by
    intro _ hn
    simp (disch := omega) only [w103_0, w103_1, w103_4, w103_7, w103_8, w103_9, w103_10, w103_13, w103_16, w103_17, w103_20, w103_21, w103_22, w103_23, w103_26, w103_29, w103_30, w103_33, w103_36, w103_39, w103_40, w103_41, w103_42, w103_45, w103_46, w103_49, w103_52, w103_53, w103_54, w103_57, w103_58, w103_61, w103_64, w103_65, ma_kV_ap, ma_kC_s, ma_kC_n, ma_kH_ap, ma_gf_ap, ma_pf_ap, ma_cv_ap, ma_nt_0, ma_nt_s, ma_if_t, ma_if_f, ma_set_s, ma_set_ss, ma_set_2, ma_cat_n, ma_cat_i, ma_cat_l, ma_cat_r, ma_clr_n, ma_clr_i, ma_clr_l, ma_clr_r, ma_clr_0, ma_rf_s, ma_rf_n, ma_ial_ap, ma_ias_ap, List.set_cons_zero, List.set_cons_succ, List.length_cons, List.length_nil, Nat.reduceAdd, Nat.reduceLT, Nat.reduceLeDiff, Nat.le_refl, true_and, and_true, Nat.lt_add_one, h4]
    refine b_bad hP (fun H' p f => ?_)
    simp (disch := omega) only [w103_0, w103_1, w103_4, w103_7, w103_8, w103_9, w103_10, w103_13, w103_16, w103_17, w103_20, w103_21, w103_22, w103_23, w103_26, w103_29, w103_30, w103_33, w103_36, w103_39, w103_40, w103_41, w103_42, w103_45, w103_46, w103_49, w103_52, w103_53, w103_54, w103_57, w103_58, w103_61, w103_64, w103_65, ma_kV_ap, ma_kC_s, ma_kC_n, ma_kH_ap, ma_gf_ap, ma_pf_ap, ma_cv_ap, ma_nt_0, ma_nt_s, ma_if_t, ma_if_f, ma_set_s, ma_set_ss, ma_set_2, ma_cat_n, ma_cat_i, ma_cat_l, ma_cat_r, ma_clr_n, ma_clr_i, ma_clr_l, ma_clr_r, ma_clr_0, ma_rf_s, ma_rf_n, ma_ial_ap, ma_ias_ap, List.set_cons_zero, List.set_cons_succ, List.length_cons, List.length_nil, Nat.reduceAdd, Nat.reduceLT, Nat.reduceLeDiff, Nat.le_refl, true_and, and_true, Nat.lt_add_one]
    exact hb hn H' p f
  rw [e103]
  simp (disch := omega) only [w103_0, w103_1, w103_4, w103_7, w103_8, w103_9, w103_10, w103_13, w103_16, w103_17, w103_20, w103_21, w103_22, w103_23, w103_26, w103_29, w103_30, w103_33, w103_36, w103_39, w103_40, w103_41, w103_42, w103_45, w103_46, w103_49, w103_52, w103_53, w103_54, w103_57, w103_58, w103_61, w103_64, w103_65, ma_kV_ap, ma_kC_s, ma_kC_n, ma_kH_ap, ma_gf_ap, ma_pf_ap, ma_cv_ap, ma_nt_0, ma_nt_s, ma_if_t, ma_if_f, ma_set_s, ma_set_ss, ma_set_2, ma_cat_n, ma_cat_i, ma_cat_l, ma_cat_r, ma_clr_n, ma_clr_i, ma_clr_l, ma_clr_r, ma_clr_0, ma_rf_s, ma_rf_n, ma_ial_ap, ma_ias_ap, List.set_cons_zero, List.set_cons_succ, List.length_cons, List.length_nil, Nat.reduceAdd, Nat.reduceLT, Nat.reduceLeDiff, Nat.le_refl, true_and, and_true, Nat.lt_add_one]
  refine b_isPlayer (fun a a2 ea => ?_) (fun n => ?_)
  · simp (disch := omega) only [w103_0, w103_1, w103_4, w103_7, w103_8, w103_9, w103_10, w103_13, w103_16, w103_17, w103_20, w103_21, w103_22, w103_23, w103_26, w103_29, w103_30, w103_33, w103_36, w103_39, w103_40, w103_41, w103_42, w103_45, w103_46, w103_49, w103_52, w103_53, w103_54, w103_57, w103_58, w103_61, w103_64, w103_65, ma_kV_ap, ma_kC_s, ma_kC_n, ma_kH_ap, ma_gf_ap, ma_pf_ap, ma_cv_ap, ma_nt_0, ma_nt_s, ma_if_t, ma_if_f, ma_set_s, ma_set_ss, ma_set_2, ma_cat_n, ma_cat_i, ma_cat_l, ma_cat_r, ma_clr_n, ma_clr_i, ma_clr_l, ma_clr_r, ma_clr_0, ma_rf_s, ma_rf_n, ma_ial_ap, ma_ias_ap, List.set_cons_zero, List.set_cons_succ, List.length_cons, List.length_nil, Nat.reduceAdd, Nat.reduceLT, Nat.reduceLeDiff, Nat.le_refl, true_and, and_true, Nat.lt_add_one, fa_lit, nI_add, pk_mul, pk_sub, pk_div, ma_rem_n, nI_ltI, nI_leI, nI_eq, Nat.reduceEqDiff, Nat.reduceMul, Nat.reduceSub, not_false_eq_true, not_true_eq_false, or_true, true_or, or_false, false_or, eq_self, Nat.zero_add, Nat.add_zero]
    refine b_in (by decide) (by decide) (fun b _ b2 eb => ?_) (fun n => ?_)
    · subst ea eb
      have gl := (ghand_gk hO.1.1 a).1
      simp (disch := omega) only [w103_0, w103_1, w103_4, w103_7, w103_8, w103_9, w103_10, w103_13, w103_16, w103_17, w103_20, w103_21, w103_22, w103_23, w103_26, w103_29, w103_30, w103_33, w103_36, w103_39, w103_40, w103_41, w103_42, w103_45, w103_46, w103_49, w103_52, w103_53, w103_54, w103_57, w103_58, w103_61, w103_64, w103_65, ma_kV_ap, ma_kC_s, ma_kC_n, ma_kH_ap, ma_gf_ap, ma_pf_ap, ma_cv_ap, ma_nt_0, ma_nt_s, ma_if_t, ma_if_f, ma_set_s, ma_set_ss, ma_set_2, ma_cat_n, ma_cat_i, ma_cat_l, ma_cat_r, ma_clr_n, ma_clr_i, ma_clr_l, ma_clr_r, ma_clr_0, ma_rf_s, ma_rf_n, ma_ial_ap, ma_ias_ap, List.set_cons_zero, List.set_cons_succ, List.length_cons, List.length_nil, Nat.reduceAdd, Nat.reduceLT, Nat.reduceLeDiff, Nat.le_refl, true_and, and_true, Nat.lt_add_one, fa_lit, nI_add, pk_mul, pk_sub, pk_div, ma_rem_n, nI_ltI, nI_leI, nI_eq, Nat.reduceEqDiff, Nat.reduceMul, Nat.reduceSub, not_false_eq_true, not_true_eq_false, or_true, true_or, or_false, false_or, eq_self, Nat.zero_add, Nat.add_zero, tab_cv, tab_g0, tab_g2, trC, h4, h5, h6]
      refine t_row' (by omega) h6 ?_
      simp (disch := omega) only [w103_0, w103_1, w103_4, w103_7, w103_8, w103_9, w103_10, w103_13, w103_16, w103_17, w103_20, w103_21, w103_22, w103_23, w103_26, w103_29, w103_30, w103_33, w103_36, w103_39, w103_40, w103_41, w103_42, w103_45, w103_46, w103_49, w103_52, w103_53, w103_54, w103_57, w103_58, w103_61, w103_64, w103_65, ma_kV_ap, ma_kC_s, ma_kC_n, ma_kH_ap, ma_gf_ap, ma_pf_ap, ma_cv_ap, ma_nt_0, ma_nt_s, ma_if_t, ma_if_f, ma_set_s, ma_set_ss, ma_set_2, ma_cat_n, ma_cat_i, ma_cat_l, ma_cat_r, ma_clr_n, ma_clr_i, ma_clr_l, ma_clr_r, ma_clr_0, ma_rf_s, ma_rf_n, ma_ial_ap, ma_ias_ap, List.set_cons_zero, List.set_cons_succ, List.length_cons, List.length_nil, Nat.reduceAdd, Nat.reduceLT, Nat.reduceLeDiff, Nat.le_refl, true_and, and_true, Nat.lt_add_one]
      refine r_size (ghand_gk hO.1.1 a) ?_
      have em := min_n (a := b) (b := (ghand g.1 a).length) (by omega) (by omega)
      have hm5 : gmin b (ghand g.1 a).length ≤ 5 := by unfold gmin; split <;> omega
      have hml : gmin b (ghand g.1 a).length ≤ (ghand g.1 a).length := by unfold gmin; split <;> omega
      have emm : (if (ghand g.1 a).length < b then (ghand g.1 a).length else b) = gmin b (ghand g.1 a).length := rfl
      rw [emm] at em
      have h1 := h1 a b _ _ a2 b2 rfl rfl rfl rfl
      generalize gmin b (ghand g.1 a).length = m at *
      simp (disch := omega) only [w103_0, w103_1, w103_4, w103_7, w103_8, w103_9, w103_10, w103_13, w103_16, w103_17, w103_20, w103_21, w103_22, w103_23, w103_26, w103_29, w103_30, w103_33, w103_36, w103_39, w103_40, w103_41, w103_42, w103_45, w103_46, w103_49, w103_52, w103_53, w103_54, w103_57, w103_58, w103_61, w103_64, w103_65, ma_kC_s, ma_kV_ap, ma_gf_ap, ma_cv_ap, ma_nt_0, ma_nt_s, ma_cat_n, ma_cat_i, ma_cat_l, ma_cat_r, ma_clr_n, ma_clr_i, ma_clr_r, Nat.reduceAdd, Nat.reduceLeDiff, Nat.zero_le, true_and, em, tab_cv, tab_g0, tab_g2, trC, h4, h5, h29]
      refine k_ordersWon a2 hm5 hml hO.1.1 (by omega) (by omega) h6 hTr (fun H1 y q f => ?_)
      have P1 := cP_tr hP (trA_T hP.2.2.2.2.1 q f) (fr_mono f (by omega) (by omega))
      have h4 := cP_4 P1
      simp (disch := omega) only [w103_0, w103_1, w103_4, w103_7, w103_8, w103_9, w103_10, w103_13, w103_16, w103_17, w103_20, w103_21, w103_22, w103_23, w103_26, w103_29, w103_30, w103_33, w103_36, w103_39, w103_40, w103_41, w103_42, w103_45, w103_46, w103_49, w103_52, w103_53, w103_54, w103_57, w103_58, w103_61, w103_64, w103_65, ma_kV_ap, ma_kC_s, ma_kC_n, ma_kH_ap, ma_gf_ap, ma_pf_ap, ma_cv_ap, ma_nt_0, ma_nt_s, ma_if_t, ma_if_f, ma_set_s, ma_set_ss, ma_set_2, ma_cat_n, ma_cat_i, ma_cat_l, ma_cat_r, ma_clr_n, ma_clr_i, ma_clr_l, ma_clr_r, ma_clr_0, ma_rf_s, ma_rf_n, ma_ial_ap, ma_ias_ap, List.set_cons_zero, List.set_cons_succ, List.length_cons, List.length_nil, Nat.reduceAdd, Nat.reduceLT, Nat.reduceLeDiff, Nat.le_refl, true_and, and_true, Nat.lt_add_one]
      refine k_ordersOf hm5 ?_
      simp (disch := omega) only [w103_0, w103_1, w103_4, w103_7, w103_8, w103_9, w103_10, w103_13, w103_16, w103_17, w103_20, w103_21, w103_22, w103_23, w103_26, w103_29, w103_30, w103_33, w103_36, w103_39, w103_40, w103_41, w103_42, w103_45, w103_46, w103_49, w103_52, w103_53, w103_54, w103_57, w103_58, w103_61, w103_64, w103_65, ma_kV_ap, ma_kC_s, ma_kC_n, ma_kH_ap, ma_gf_ap, ma_pf_ap, ma_cv_ap, ma_nt_0, ma_nt_s, ma_if_t, ma_if_f, ma_set_s, ma_set_ss, ma_set_2, ma_cat_n, ma_cat_i, ma_cat_l, ma_cat_r, ma_clr_n, ma_clr_i, ma_clr_l, ma_clr_r, ma_clr_0, ma_rf_s, ma_rf_n, ma_ial_ap, ma_ias_ap, List.set_cons_zero, List.set_cons_succ, List.length_cons, List.length_nil, Nat.reduceAdd, Nat.reduceLT, Nat.reduceLeDiff, Nat.le_refl, true_and, and_true, Nat.lt_add_one, h4]
      have hf := gfac_lt hm5
      refine b_setFraction (goc_le _) (gfac_pos hm5) (by omega) P1 (fun H2 P2 F2 => ?_)
      simp (disch := omega) only [w103_0, w103_1, w103_4, w103_7, w103_8, w103_9, w103_10, w103_13, w103_16, w103_17, w103_20, w103_21, w103_22, w103_23, w103_26, w103_29, w103_30, w103_33, w103_36, w103_39, w103_40, w103_41, w103_42, w103_45, w103_46, w103_49, w103_52, w103_53, w103_54, w103_57, w103_58, w103_61, w103_64, w103_65, ma_kV_ap, ma_kC_s, ma_kC_n, ma_kH_ap, ma_gf_ap, ma_pf_ap, ma_cv_ap, ma_nt_0, ma_nt_s, ma_if_t, ma_if_f, ma_set_s, ma_set_ss, ma_set_2, ma_cat_n, ma_cat_i, ma_cat_l, ma_cat_r, ma_clr_n, ma_clr_i, ma_clr_l, ma_clr_r, ma_clr_0, ma_rf_s, ma_rf_n, ma_ial_ap, ma_ias_ap, List.set_cons_zero, List.set_cons_succ, List.length_cons, List.length_nil, Nat.reduceAdd, Nat.reduceLT, Nat.reduceLeDiff, Nat.le_refl, true_and, and_true, Nat.lt_add_one, fa_lit]
      exact h1 H2 P2 (cF_trans (cF_fr f (by omega) (by omega)) F2)
    · simp (disch := omega) only [w103_0, w103_1, w103_4, w103_7, w103_8, w103_9, w103_10, w103_13, w103_17, w103_20, w103_21, w103_22, w103_23, w103_26, w103_29, w103_30, w103_33, w103_36, w103_39, w103_40, w103_41, w103_42, w103_45, w103_46, w103_49, w103_52, w103_53, w103_54, w103_57, w103_58, w103_61, w103_64, w103_65, ma_kV_ap, ma_kC_s, ma_kC_n, ma_kH_ap, ma_gf_ap, ma_pf_ap, ma_cv_ap, ma_nt_0, ma_nt_s, ma_if_t, ma_if_f, ma_set_s, ma_set_ss, ma_set_2, ma_cat_n, ma_cat_i, ma_cat_l, ma_cat_r, ma_clr_n, ma_clr_i, ma_clr_l, ma_clr_r, ma_clr_0, ma_rf_s, ma_rf_n, ma_ial_ap, ma_ias_ap, List.set_cons_zero, List.set_cons_succ, List.length_cons, List.length_nil, Nat.reduceAdd, Nat.reduceLT, Nat.reduceLeDiff, Nat.le_refl, true_and, and_true, Nat.lt_add_one, fa_lit, nI_add, pk_mul, pk_sub, pk_div, ma_rem_n, nI_ltI, nI_leI, nI_eq, Nat.reduceEqDiff, Nat.reduceMul, Nat.reduceSub, not_false_eq_true, not_true_eq_false, or_true, true_or, or_false, false_or, eq_self, Nat.zero_add, Nat.add_zero]
      exact bad True (fun z => n z.2)
  · simp (disch := omega) only [w103_0, w103_1, w103_4, w103_7, w103_8, w103_9, w103_10, w103_13, w103_17, w103_20, w103_21, w103_22, w103_23, w103_26, w103_29, w103_30, w103_33, w103_36, w103_39, w103_40, w103_41, w103_42, w103_45, w103_46, w103_49, w103_52, w103_53, w103_54, w103_57, w103_58, w103_61, w103_64, w103_65, ma_kV_ap, ma_kC_s, ma_kC_n, ma_kH_ap, ma_gf_ap, ma_pf_ap, ma_cv_ap, ma_nt_0, ma_nt_s, ma_if_t, ma_if_f, ma_set_s, ma_set_ss, ma_set_2, ma_cat_n, ma_cat_i, ma_cat_l, ma_cat_r, ma_clr_n, ma_clr_i, ma_clr_l, ma_clr_r, ma_clr_0, ma_rf_s, ma_rf_n, ma_ial_ap, ma_ias_ap, List.set_cons_zero, List.set_cons_succ, List.length_cons, List.length_nil, Nat.reduceAdd, Nat.reduceLT, Nat.reduceLeDiff, Nat.le_refl, true_and, and_true, Nat.lt_add_one, fa_lit, nI_add, pk_mul, pk_sub, pk_div, ma_rem_n, nI_ltI, nI_leI, nI_eq, Nat.reduceEqDiff, Nat.reduceMul, Nat.reduceSub, not_false_eq_true, not_true_eq_false, or_true, true_or, or_false, false_or, eq_self, Nat.zero_add, Nat.add_zero]
    exact bad True (fun z => n z.1)
theorem c_evenings {s n : Int32} (hO : sOK g i0 i1 tx) (hP : cP H g i0 i1 tx ab bl c0 c1 c2)
    (hb : ¬ (inR s 0 999999 ∧ inR n 0 30) → ∀ H', cP H' g i0 i1 tx ab bl (c0 + nI 1) c1 c2 → cF H H' → Q (some (.int (-nI 2))) H')
    (h1 : ∀ a b, a ≤ 999999 → b ≤ 30 → s = nI a → n = nI b → ∀ H', cP H' g i0 i1 tx ab bl c0 c1 c2 → cF H H' → Q (some (.int (nI (gev g.1 a b)))) H') : ma_MW (d + 8) 104 [.ref 4, .int s, .int n] H Q := by
  have h4 := cP_4 hP
  have h5 := cP_5 hP
  have h6 := cP_6 hP
  have hmv := hO.1.2.1
  obtain ⟨⟨bc, bm, hTr⟩, f32, e32⟩ := hP.2.2.2.2.1
  have h29 := hTr.1
  have bad : ∀ P : Prop, ¬ (inR s 0 999999 ∧ inR n 0 30) → ma_W (d + 7) 104 Q 21 [some (.ref 4), some (.int s), some (.int n)] [] H 0 0 := by
    intro _ hn
    simp (disch := omega) only [w104_0, w104_1, w104_2, w104_5, w104_8, w104_11, w104_12, w104_13, w104_15, w104_18, w104_21, w104_22, w104_25, w104_26, w104_27, w104_30, w104_31, w104_34, w104_37, w104_38, w104_39, w104_42, ma_kV_ap, ma_kC_s, ma_kC_n, ma_kH_ap, ma_gf_ap, ma_pf_ap, ma_cv_ap, ma_nt_0, ma_nt_s, ma_if_t, ma_if_f, ma_set_s, ma_set_ss, ma_set_2, ma_cat_n, ma_cat_i, ma_cat_l, ma_cat_r, ma_clr_n, ma_clr_i, ma_clr_l, ma_clr_r, ma_clr_0, ma_rf_s, ma_rf_n, ma_ial_ap, ma_ias_ap, List.set_cons_zero, List.set_cons_succ, List.length_cons, List.length_nil, Nat.reduceAdd, Nat.reduceLT, Nat.reduceLeDiff, Nat.le_refl, true_and, and_true, Nat.lt_add_one, h4]
    refine b_bad hP (fun H' p f => ?_)
    simp (disch := omega) only [w104_0, w104_1, w104_2, w104_5, w104_8, w104_11, w104_12, w104_13, w104_15, w104_18, w104_21, w104_22, w104_25, w104_26, w104_27, w104_30, w104_31, w104_34, w104_37, w104_38, w104_39, w104_42, ma_kV_ap, ma_kC_s, ma_kC_n, ma_kH_ap, ma_gf_ap, ma_pf_ap, ma_cv_ap, ma_nt_0, ma_nt_s, ma_if_t, ma_if_f, ma_set_s, ma_set_ss, ma_set_2, ma_cat_n, ma_cat_i, ma_cat_l, ma_cat_r, ma_clr_n, ma_clr_i, ma_clr_l, ma_clr_r, ma_clr_0, ma_rf_s, ma_rf_n, ma_ial_ap, ma_ias_ap, List.set_cons_zero, List.set_cons_succ, List.length_cons, List.length_nil, Nat.reduceAdd, Nat.reduceLT, Nat.reduceLeDiff, Nat.le_refl, true_and, and_true, Nat.lt_add_one]
    exact hb hn H' p f
  rw [e104]
  simp (disch := omega) only [w104_0, w104_1, w104_2, w104_5, w104_8, w104_11, w104_12, w104_13, w104_15, w104_18, w104_21, w104_22, w104_25, w104_26, w104_27, w104_30, w104_31, w104_34, w104_37, w104_38, w104_39, w104_42, ma_kV_ap, ma_kC_s, ma_kC_n, ma_kH_ap, ma_gf_ap, ma_pf_ap, ma_cv_ap, ma_nt_0, ma_nt_s, ma_if_t, ma_if_f, ma_set_s, ma_set_ss, ma_set_2, ma_cat_n, ma_cat_i, ma_cat_l, ma_cat_r, ma_clr_n, ma_clr_i, ma_clr_l, ma_clr_r, ma_clr_0, ma_rf_s, ma_rf_n, ma_ial_ap, ma_ias_ap, List.set_cons_zero, List.set_cons_succ, List.length_cons, List.length_nil, Nat.reduceAdd, Nat.reduceLT, Nat.reduceLeDiff, Nat.le_refl, true_and, and_true, Nat.lt_add_one, fa_lit]
  refine b_in (by decide) (by decide) (fun a _ a2 ea => ?_) (fun n => ?_)
  · simp (disch := omega) only [w104_0, w104_1, w104_2, w104_5, w104_8, w104_11, w104_12, w104_13, w104_15, w104_18, w104_21, w104_22, w104_25, w104_26, w104_27, w104_30, w104_31, w104_34, w104_37, w104_38, w104_39, w104_42, ma_kV_ap, ma_kC_s, ma_kC_n, ma_kH_ap, ma_gf_ap, ma_pf_ap, ma_cv_ap, ma_nt_0, ma_nt_s, ma_if_t, ma_if_f, ma_set_s, ma_set_ss, ma_set_2, ma_cat_n, ma_cat_i, ma_cat_l, ma_cat_r, ma_clr_n, ma_clr_i, ma_clr_l, ma_clr_r, ma_clr_0, ma_rf_s, ma_rf_n, ma_ial_ap, ma_ias_ap, List.set_cons_zero, List.set_cons_succ, List.length_cons, List.length_nil, Nat.reduceAdd, Nat.reduceLT, Nat.reduceLeDiff, Nat.le_refl, true_and, and_true, Nat.lt_add_one, fa_lit, nI_add, pk_mul, pk_sub, pk_div, ma_rem_n, nI_ltI, nI_leI, nI_eq, Nat.reduceEqDiff, Nat.reduceMul, Nat.reduceSub, not_false_eq_true, not_true_eq_false, or_true, true_or, or_false, false_or, eq_self, Nat.zero_add, Nat.add_zero]
    refine b_in (by decide) (by decide) (fun b _ b2 eb => ?_) (fun n => ?_)
    · subst ea eb
      simp (disch := omega) only [w104_0, w104_1, w104_2, w104_5, w104_8, w104_11, w104_12, w104_13, w104_15, w104_18, w104_21, w104_22, w104_25, w104_26, w104_27, w104_30, w104_31, w104_34, w104_37, w104_38, w104_39, w104_42, ma_kV_ap, ma_kC_s, ma_kC_n, ma_kH_ap, ma_gf_ap, ma_pf_ap, ma_cv_ap, ma_nt_0, ma_nt_s, ma_if_t, ma_if_f, ma_set_s, ma_set_ss, ma_set_2, ma_cat_n, ma_cat_i, ma_cat_l, ma_cat_r, ma_clr_n, ma_clr_i, ma_clr_l, ma_clr_r, ma_clr_0, ma_rf_s, ma_rf_n, ma_ial_ap, ma_ias_ap, List.set_cons_zero, List.set_cons_succ, List.length_cons, List.length_nil, Nat.reduceAdd, Nat.reduceLT, Nat.reduceLeDiff, Nat.le_refl, true_and, and_true, Nat.lt_add_one, fa_lit, nI_add, pk_mul, pk_sub, pk_div, ma_rem_n, nI_ltI, nI_leI, nI_eq, Nat.reduceEqDiff, Nat.reduceMul, Nat.reduceSub, not_false_eq_true, not_true_eq_false, or_true, true_or, or_false, false_or, eq_self, Nat.zero_add, Nat.add_zero, tab_cv, tab_g0, tab_g2, trC, h4, h5, h29]
      refine k_evenings a2 b2 hO.1.1 (by omega) (by omega) h6 hTr (fun H1 y q f => ?_)
      simp (disch := omega) only [w104_0, w104_1, w104_2, w104_5, w104_8, w104_11, w104_12, w104_13, w104_15, w104_18, w104_21, w104_22, w104_25, w104_26, w104_27, w104_30, w104_31, w104_34, w104_37, w104_38, w104_39, w104_42, ma_kV_ap, ma_kC_s, ma_kC_n, ma_kH_ap, ma_gf_ap, ma_pf_ap, ma_cv_ap, ma_nt_0, ma_nt_s, ma_if_t, ma_if_f, ma_set_s, ma_set_ss, ma_set_2, ma_cat_n, ma_cat_i, ma_cat_l, ma_cat_r, ma_clr_n, ma_clr_i, ma_clr_l, ma_clr_r, ma_clr_0, ma_rf_s, ma_rf_n, ma_ial_ap, ma_ias_ap, List.set_cons_zero, List.set_cons_succ, List.length_cons, List.length_nil, Nat.reduceAdd, Nat.reduceLT, Nat.reduceLeDiff, Nat.le_refl, true_and, and_true, Nat.lt_add_one]
      exact h1 a b a2 b2 rfl rfl H1 (cP_tr hP (trA_T hP.2.2.2.2.1 q f) (fr_mono f (by omega) (by omega))) (cF_fr f (by omega) (by omega))
    · simp (disch := omega) only [w104_0, w104_1, w104_2, w104_5, w104_8, w104_11, w104_12, w104_13, w104_15, w104_18, w104_22, w104_25, w104_26, w104_27, w104_30, w104_31, w104_34, w104_37, w104_38, w104_39, w104_42, ma_kV_ap, ma_kC_s, ma_kC_n, ma_kH_ap, ma_gf_ap, ma_pf_ap, ma_cv_ap, ma_nt_0, ma_nt_s, ma_if_t, ma_if_f, ma_set_s, ma_set_ss, ma_set_2, ma_cat_n, ma_cat_i, ma_cat_l, ma_cat_r, ma_clr_n, ma_clr_i, ma_clr_l, ma_clr_r, ma_clr_0, ma_rf_s, ma_rf_n, ma_ial_ap, ma_ias_ap, List.set_cons_zero, List.set_cons_succ, List.length_cons, List.length_nil, Nat.reduceAdd, Nat.reduceLT, Nat.reduceLeDiff, Nat.le_refl, true_and, and_true, Nat.lt_add_one, fa_lit, nI_add, pk_mul, pk_sub, pk_div, ma_rem_n, nI_ltI, nI_leI, nI_eq, Nat.reduceEqDiff, Nat.reduceMul, Nat.reduceSub, not_false_eq_true, not_true_eq_false, or_true, true_or, or_false, false_or, eq_self, Nat.zero_add, Nat.add_zero]
      exact bad True (fun z => n z.2)
  · simp (disch := omega) only [w104_0, w104_1, w104_2, w104_5, w104_8, w104_11, w104_12, w104_13, w104_15, w104_18, w104_22, w104_25, w104_26, w104_27, w104_30, w104_31, w104_34, w104_37, w104_38, w104_39, w104_42, ma_kV_ap, ma_kC_s, ma_kC_n, ma_kH_ap, ma_gf_ap, ma_pf_ap, ma_cv_ap, ma_nt_0, ma_nt_s, ma_if_t, ma_if_f, ma_set_s, ma_set_ss, ma_set_2, ma_cat_n, ma_cat_i, ma_cat_l, ma_cat_r, ma_clr_n, ma_clr_i, ma_clr_l, ma_clr_r, ma_clr_0, ma_rf_s, ma_rf_n, ma_ial_ap, ma_ias_ap, List.set_cons_zero, List.set_cons_succ, List.length_cons, List.length_nil, Nat.reduceAdd, Nat.reduceLT, Nat.reduceLeDiff, Nat.le_refl, true_and, and_true, Nat.lt_add_one, fa_lit, nI_add, pk_mul, pk_sub, pk_div, ma_rem_n, nI_ltI, nI_leI, nI_eq, Nat.reduceEqDiff, Nat.reduceMul, Nat.reduceSub, not_false_eq_true, not_true_eq_false, or_true, true_or, or_false, false_or, eq_self, Nat.zero_add, Nat.add_zero]
    exact bad True (fun z => n z.1)
end C5

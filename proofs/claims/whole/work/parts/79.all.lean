/-! the class Trial: all kinds against one another, orders, evenings -/
noncomputable def gout (t : ga_T) : Int32 := match gE t with | none => nI 0 | some m => if gwon (git m t) = 0 then nI 1 else -nI 1
def gkinds (t : ga_T) (i j : Nat) : ga_T := (i, j, t.2.2)
noncomputable def gov (t : ga_T) (pair : Nat) : Int32 := gout (gkinds t (pair / 6) (pair % 6))
def gR (f : Nat → Int32) (i j : Nat) : Prop := ∀ o, o < 6 → f (6 * o + j) ≤ f (6 * i + j) ∧ f (6 * i + j) ≤ f (6 * i + o)
def gRp (f : Nat → Int32) (p : Nat) : Prop := gR f (p / 6) (p % 6)
noncomputable def gcnt (f : Nat → Int32) : Nat → Nat
  | 0 => 0
  | n + 1 => by classical exact gcnt f n + if gRp f n then 1 else 0
theorem gcnt_y {f : Nat → Int32} {n : Nat} (h : gRp f n) : gcnt f (n + 1) = gcnt f n + 1 := by
  show gcnt f n + _ = _; rw [if_pos h]
theorem gcnt_n {f : Nat → Int32} {n : Nat} (h : ¬ gRp f n) : gcnt f (n + 1) = gcnt f n := by
  show gcnt f n + _ = _; rw [if_neg h]; rfl
theorem gcnt_le {f : Nat → Int32} : ∀ n, gcnt f n ≤ n
  | 0 => Nat.le_refl _
  | n + 1 => by
    have := gcnt_le (f := f) n
    by_cases h : gRp f n
    · rw [gcnt_y h]; omega
    · rw [gcnt_n h]; omega
theorem gcnt_mono {f : Nat → Int32} (a : Nat) : ∀ k, gcnt f a ≤ gcnt f (a + k)
  | 0 => Nat.le_refl _
  | k + 1 => by
    have := gcnt_mono (f := f) a k
    rw [← Nat.add_assoc]
    by_cases h : gRp f (a + k)
    · rw [gcnt_y h]; omega
    · rw [gcnt_n h]; exact this
theorem gcnt_uniq {f : Nat → Int32} {a b : Nat} (ha : gRp f a) (hb : gRp f b) (h : gcnt f a = gcnt f b) : a = b := by
  rcases Nat.lt_trichotomy a b with g | g | g
  · have h1 := gcnt_mono (f := f) (a + 1) (b - (a + 1))
    rw [show a + 1 + (b - (a + 1)) = b by omega, gcnt_y ha] at h1; omega
  · exact g
  · have h1 := gcnt_mono (f := f) (b + 1) (a - (b + 1))
    rw [show b + 1 + (a - (b + 1)) = a by omega, gcnt_y hb] at h1; omega
theorem ok_kinds {t : ga_T} {i j : Nat} (hok : ga_ok t) (hi : i < 6) (hj : j < 6) : ga_ok (gkinds t i j) := by
  obtain ⟨kz, ko, hz, ho, pl, tu, db, mv, tz, to⟩ := t
  exact ⟨hi, hj, hok.2.2⟩
section AL
variable {d i : Nat} {H : ma_H} {Q : ma_P} {bc bm : Int32} {t : ga_T}
theorem t_setKind' {p k : Nat} (hp : p < 2) (hT : H.1 i = tabC t) (h : Q none (ma_set H i (tabC (gkinds t (if p = 0 then k else t.1) (if p = 0 then t.2.1 else k))))) : ma_MW (d + 1) 40 [.ref i, .int (nI p), .int (nI k)] H Q := by
  obtain ⟨kz, ko, hz, ho, pl, tu, db, mv, tz, to⟩ := t
  exact t_setKind hp hT h
theorem k_all {f0 : Nat → Int32} (hok : ga_ok t) (hmv : gmv t < 90000) (hi : i < 29 ∨ 33 ≤ i) (hT : H.1 i = tabC t) (hTr : trOK H bc bm) (h32 : H.1 32 = arI 36 f0) (h : ∀ H' y f, trT H' bc bm y → H'.1 32 = arI 36 f → (∀ p, p < 36 → f p = gov t p) → fr H H' 29 33 → Q none H') : ma_MW (d + 7) 69 [.ref 29, .ref i] H Q := by
  obtain ⟨h29, ⟨y30, h30⟩, y31, h31⟩ := hTr
  have hin : ∀ (i0 : Nat), i0 < 6 →
      (∀ H1 y f, trT H1 bc bm y → H1.1 32 = arI 36 f → (∀ p, p < 6 * (i0 + 1) → f p = gov t p) → fr H H1 29 33 → ∀ o3 o4, ma_W (d + 6) 69 Q 2 [some (.ref 29), some (.ref i), some (.int (nI (i0 + 1))), o3, o4] [] H1 0 0) →
      ∀ c j, 6 - j = c → j ≤ 6 → ∀ H1 y f, trT H1 bc bm y → H1.1 32 = arI 36 f → (∀ p, p < 6 * i0 + j → f p = gov t p) → fr H H1 29 33 → ∀ o4, ma_W (d + 6) 69 Q 10 [some (.ref 29), some (.ref i), some (.int (nI i0)), some (.int (nI j)), o4] [] H1 0 0 := by
    intro i0 hi0 nxt c
    induction c with
    | zero =>
      intro j e1 e2 H1 y f q q32 qf fF o4
      have hc : (6 ≤ j) = True := eq_true (by omega)
      simp (disch := omega) only [w69_0, w69_1, w69_3, w69_5, w69_8, w69_9, w69_10, w69_11, w69_13, w69_16, w69_17, w69_20, w69_21, w69_24, w69_25, w69_28, w69_29, w69_30, w69_33, w69_34, w69_37, w69_38, w69_39, w69_42, w69_43, w69_46, w69_49, w69_50, w69_53, w69_54, w69_57, w69_58, w69_60, w69_61, w69_64, w69_66, w69_67, w69_68, w69_69, w69_70, w69_72, w69_75, w69_76, w69_79, w69_80, w69_83, w69_86, w69_89, w69_90, w69_93, w69_94, w69_95, w69_98, w69_101, w69_104, w69_107, ma_kV_ap, ma_kC_s, ma_kC_n, ma_kH_ap, ma_gf_ap, ma_pf_ap, ma_cv_ap, ma_nt_0, ma_nt_s, ma_if_t, ma_if_f, ma_set_s, ma_set_ss, ma_set_2, ma_cat_n, ma_cat_i, ma_cat_l, ma_cat_r, ma_clr_n, ma_clr_i, ma_clr_l, ma_clr_r, ma_clr_0, ma_rf_s, ma_rf_n, ma_ial_ap, ma_ias_ap, List.set_cons_zero, List.set_cons_succ, List.length_cons, List.length_nil, Nat.reduceAdd, Nat.reduceLT, Nat.reduceLeDiff, Nat.le_refl, true_and, and_true, Nat.lt_add_one, fa_lit, nI_add, pk_mul, pk_sub, pk_div, ma_rem_n, nI_ltI, nI_leI, nI_eq, Nat.reduceEqDiff, Nat.reduceMul, Nat.reduceSub, not_false_eq_true, not_true_eq_false, or_true, true_or, or_false, false_or, eq_self, Nat.zero_add, Nat.add_zero, hc]
      exact nxt H1 y f q q32 (fun p hp => qf p (by omega)) fF _ _
    | succ c ih =>
      intro j e1 e2 H1 y f q q32 qf fF o4
      have hc : (6 ≤ j) = False := eq_false (by omega)
      have q29 := q.1
      have q30 := q.2.1
      have qi := (fF.2 i (by omega)).trans hT
      have hk : ga_ok (gkinds t i0 j) := ok_kinds hok hi0 (by omega)
      have hmv' : gmv (gkinds t i0 j) < 90000 := hmv
      have hg4 : (4 ≤ 32) = True := eq_true (by decide)
      simp (disch := omega) only [w69_0, w69_1, w69_2, w69_3, w69_5, w69_8, w69_9, w69_10, w69_11, w69_13, w69_16, w69_17, w69_20, w69_21, w69_24, w69_25, w69_28, w69_29, w69_30, w69_33, w69_34, w69_37, w69_38, w69_39, w69_42, w69_43, w69_46, w69_49, w69_50, w69_53, w69_54, w69_57, w69_58, w69_60, w69_61, w69_64, w69_66, w69_67, w69_68, w69_69, w69_70, w69_72, w69_75, w69_76, w69_79, w69_80, w69_83, w69_86, w69_89, w69_90, w69_93, w69_94, w69_95, w69_98, w69_101, w69_104, w69_107, ma_kV_ap, ma_kC_s, ma_kC_n, ma_kH_ap, ma_gf_ap, ma_pf_ap, ma_cv_ap, ma_nt_0, ma_nt_s, ma_if_t, ma_if_f, ma_set_s, ma_set_ss, ma_set_2, ma_cat_n, ma_cat_i, ma_cat_l, ma_cat_r, ma_clr_n, ma_clr_i, ma_clr_l, ma_clr_r, ma_clr_0, ma_rf_s, ma_rf_n, ma_ial_ap, ma_ias_ap, List.set_cons_zero, List.set_cons_succ, List.length_cons, List.length_nil, Nat.reduceAdd, Nat.reduceLT, Nat.reduceLeDiff, Nat.le_refl, true_and, and_true, Nat.lt_add_one, fa_lit, nI_add, pk_mul, pk_sub, pk_div, ma_rem_n, nI_ltI, nI_leI, nI_eq, Nat.reduceEqDiff, Nat.reduceMul, Nat.reduceSub, not_false_eq_true, not_true_eq_false, or_true, true_or, or_false, false_or, eq_self, Nat.zero_add, Nat.add_zero, tab_cv, tab_g0, tab_g2, trC, hc, q29, q30]
      refine t_copyFrom' (by omega) q30 qi ?_
      simp (disch := omega) only [w69_0, w69_1, w69_2, w69_3, w69_5, w69_8, w69_9, w69_10, w69_11, w69_13, w69_16, w69_17, w69_20, w69_21, w69_24, w69_25, w69_28, w69_29, w69_30, w69_33, w69_34, w69_37, w69_38, w69_39, w69_42, w69_43, w69_46, w69_49, w69_50, w69_53, w69_54, w69_57, w69_58, w69_60, w69_61, w69_64, w69_66, w69_67, w69_68, w69_69, w69_70, w69_72, w69_75, w69_76, w69_79, w69_80, w69_83, w69_86, w69_89, w69_90, w69_93, w69_94, w69_95, w69_98, w69_101, w69_104, w69_107, ma_kV_ap, ma_kC_s, ma_kC_n, ma_kH_ap, ma_gf_ap, ma_pf_ap, ma_cv_ap, ma_nt_0, ma_nt_s, ma_if_t, ma_if_f, ma_set_s, ma_set_ss, ma_set_2, ma_cat_n, ma_cat_i, ma_cat_l, ma_cat_r, ma_clr_n, ma_clr_i, ma_clr_l, ma_clr_r, ma_clr_0, ma_rf_s, ma_rf_n, ma_ial_ap, ma_ias_ap, List.set_cons_zero, List.set_cons_succ, List.length_cons, List.length_nil, Nat.reduceAdd, Nat.reduceLT, Nat.reduceLeDiff, Nat.le_refl, true_and, and_true, Nat.lt_add_one, fa_lit, nI_add, pk_mul, pk_sub, pk_div, ma_rem_n, nI_ltI, nI_leI, nI_eq, Nat.reduceEqDiff, Nat.reduceMul, Nat.reduceSub, not_false_eq_true, not_true_eq_false, or_true, true_or, or_false, false_or, eq_self, Nat.zero_add, Nat.add_zero, nu_in, nI_clamp, pk_us, pk_un, ma_set_n, tab_cv, tab_g0, tab_g2, trC, q29]
      refine t_setKind' (t := t) (by decide) (ma_set_s _ _ _) ?_
      rw [ma_set_ss]
      simp (disch := omega) only [w69_0, w69_1, w69_2, w69_3, w69_5, w69_8, w69_9, w69_10, w69_11, w69_13, w69_16, w69_17, w69_20, w69_21, w69_24, w69_25, w69_28, w69_29, w69_30, w69_33, w69_34, w69_37, w69_38, w69_39, w69_42, w69_43, w69_46, w69_49, w69_50, w69_53, w69_54, w69_57, w69_58, w69_60, w69_61, w69_64, w69_66, w69_67, w69_68, w69_69, w69_70, w69_72, w69_75, w69_76, w69_79, w69_80, w69_83, w69_86, w69_89, w69_90, w69_93, w69_94, w69_95, w69_98, w69_101, w69_104, w69_107, ma_kV_ap, ma_kC_s, ma_kC_n, ma_kH_ap, ma_gf_ap, ma_pf_ap, ma_cv_ap, ma_nt_0, ma_nt_s, ma_if_t, ma_if_f, ma_set_s, ma_set_ss, ma_set_2, ma_cat_n, ma_cat_i, ma_cat_l, ma_cat_r, ma_clr_n, ma_clr_i, ma_clr_l, ma_clr_r, ma_clr_0, ma_rf_s, ma_rf_n, ma_ial_ap, ma_ias_ap, List.set_cons_zero, List.set_cons_succ, List.length_cons, List.length_nil, Nat.reduceAdd, Nat.reduceLT, Nat.reduceLeDiff, Nat.le_refl, true_and, and_true, Nat.lt_add_one, fa_lit, nI_add, pk_mul, pk_sub, pk_div, ma_rem_n, nI_ltI, nI_leI, nI_eq, Nat.reduceEqDiff, Nat.reduceMul, Nat.reduceSub, not_false_eq_true, not_true_eq_false, or_true, true_or, or_false, false_or, eq_self, Nat.zero_add, Nat.add_zero, nu_in, nI_clamp, pk_us, pk_un, ma_set_n, tab_cv, tab_g0, tab_g2, trC, q29]
      refine t_setKind' (by decide) (ma_set_s _ _ _) ?_
      rw [ma_set_ss]
      show ma_kC (d + 6) 69 Q 42 _ _ 0 0 none (ma_set H1 30 (tabC (gkinds t i0 j)))
      simp (disch := omega) only [w69_0, w69_1, w69_2, w69_3, w69_5, w69_8, w69_9, w69_10, w69_11, w69_13, w69_16, w69_17, w69_20, w69_21, w69_24, w69_25, w69_28, w69_29, w69_30, w69_33, w69_34, w69_37, w69_38, w69_39, w69_42, w69_43, w69_46, w69_49, w69_50, w69_53, w69_54, w69_57, w69_58, w69_60, w69_61, w69_64, w69_66, w69_67, w69_68, w69_69, w69_70, w69_72, w69_75, w69_76, w69_79, w69_80, w69_83, w69_86, w69_89, w69_90, w69_93, w69_94, w69_95, w69_98, w69_101, w69_104, w69_107, ma_kV_ap, ma_kC_s, ma_kC_n, ma_kH_ap, ma_gf_ap, ma_pf_ap, ma_cv_ap, ma_nt_0, ma_nt_s, ma_if_t, ma_if_f, ma_set_s, ma_set_ss, ma_set_2, ma_cat_n, ma_cat_i, ma_cat_l, ma_cat_r, ma_clr_n, ma_clr_i, ma_clr_l, ma_clr_r, ma_clr_0, ma_rf_s, ma_rf_n, ma_ial_ap, ma_ias_ap, List.set_cons_zero, List.set_cons_succ, List.length_cons, List.length_nil, Nat.reduceAdd, Nat.reduceLT, Nat.reduceLeDiff, Nat.le_refl, true_and, and_true, Nat.lt_add_one, fa_lit, nI_add, pk_mul, pk_sub, pk_div, ma_rem_n, nI_ltI, nI_leI, nI_eq, Nat.reduceEqDiff, Nat.reduceMul, Nat.reduceSub, not_false_eq_true, not_true_eq_false, or_true, true_or, or_false, false_or, eq_self, Nat.zero_add, Nat.add_zero, nu_in, nI_clamp, pk_us, pk_un, ma_set_n, tab_cv, tab_g0, tab_g2, trC, q29]
      have fin : ∀ H2 y2 v, trT H2 bc bm y2 → fr (ma_set H1 30 (tabC (gkinds t i0 j))) H2 29 32 → v = gov t (6 * i0 + j) → ∀ o, ma_W (d + 6) 69 Q 94 [some (.ref 29), some (.ref i), some (.int (nI i0)), some (.int (nI j)), o] [.int v, .int (nI (6 * i0 + j)), .ref 32] H2 0 0 := by
        intro H2 y2 v q2 f2 hv o
        have q32' : H2.1 32 = arI 36 f := by rw [f2.2 32 (by omega), ma_set_n _ _ (by decide)]; exact q32
        simp (disch := omega) only [w69_0, w69_1, w69_2, w69_3, w69_5, w69_8, w69_9, w69_11, w69_13, w69_16, w69_17, w69_20, w69_21, w69_24, w69_25, w69_28, w69_29, w69_30, w69_33, w69_34, w69_37, w69_38, w69_39, w69_42, w69_43, w69_46, w69_49, w69_50, w69_53, w69_54, w69_57, w69_58, w69_60, w69_61, w69_64, w69_66, w69_67, w69_68, w69_69, w69_70, w69_72, w69_75, w69_76, w69_79, w69_80, w69_83, w69_86, w69_89, w69_90, w69_93, w69_94, w69_95, w69_98, w69_101, w69_104, w69_107, ma_kV_ap, ma_kC_s, ma_kC_n, ma_kH_ap, ma_gf_ap, ma_pf_ap, ma_cv_ap, ma_nt_0, ma_nt_s, ma_if_t, ma_if_f, ma_set_s, ma_set_ss, ma_set_2, ma_cat_n, ma_cat_i, ma_cat_l, ma_cat_r, ma_clr_n, ma_clr_i, ma_clr_l, ma_clr_r, ma_clr_0, ma_rf_s, ma_rf_n, ma_ial_ap, ma_ias_ap, List.set_cons_zero, List.set_cons_succ, List.length_cons, List.length_nil, Nat.reduceAdd, Nat.reduceLT, Nat.reduceLeDiff, Nat.le_refl, true_and, and_true, Nat.lt_add_one, fa_lit, nI_add, pk_mul, pk_sub, pk_div, ma_rem_n, nI_ltI, nI_leI, nI_eq, Nat.reduceEqDiff, Nat.reduceMul, Nat.reduceSub, not_false_eq_true, not_true_eq_false, or_true, true_or, or_false, false_or, eq_self, Nat.zero_add, Nat.add_zero, nu_in, nI_clamp, pk_us, pk_un, ma_set_n, q32', hg4]
        refine ih (j + 1) (by omega) (by omega) _ y2 (upd f (6 * i0 + j) v) ⟨?_, ?_, ?_⟩ (ma_set_s _ _ _) (fun p hp => ?_) ?_ _
        · rw [ma_set_n _ _ (by decide)]; exact q2.1
        · rw [ma_set_n _ _ (by decide)]; exact q2.2.1
        · rw [ma_set_n _ _ (by decide)]; exact q2.2.2
        · by_cases e : p = 6 * i0 + j
          · rw [e, pk_us, hv]
          · rw [pk_un e]; exact qf p (by omega)
        · exact fr_set' (fr_trans (fr_set' fF (by omega) (by omega)) (fr_mono f2 (by omega) (by omega))) (by omega) (by omega)
      have eg : gov t (6 * i0 + j) = gout (gkinds t i0 j) := by
        unfold gov; rw [show (6 * i0 + j) / 6 = i0 by omega, show (6 * i0 + j) % 6 = j by omega]
      refine p_outE hk hmv' (trT_set q) (fun m H2 he q2 f2 => ?_) (fun he H2 y2 q2 f2 => ?_)
      · have r29 := q2.1
        have r30 := q2.2.1
        have hm := (gE_inv he).1
        have hne : (nI m = -nI 1) = False := ng_ne (by omega)
        have hw := gwon_lt (m := m) hk
        simp (disch := omega) only [w69_0, w69_1, w69_2, w69_3, w69_5, w69_8, w69_9, w69_10, w69_11, w69_13, w69_16, w69_17, w69_20, w69_21, w69_24, w69_25, w69_28, w69_29, w69_30, w69_33, w69_34, w69_37, w69_38, w69_39, w69_42, w69_43, w69_46, w69_49, w69_50, w69_53, w69_54, w69_57, w69_58, w69_60, w69_61, w69_64, w69_66, w69_67, w69_68, w69_69, w69_70, w69_72, w69_75, w69_76, w69_79, w69_80, w69_83, w69_86, w69_89, w69_90, w69_93, w69_95, w69_98, w69_101, w69_104, w69_107, ma_kV_ap, ma_kC_s, ma_kC_n, ma_kH_ap, ma_gf_ap, ma_pf_ap, ma_cv_ap, ma_nt_0, ma_nt_s, ma_if_t, ma_if_f, ma_set_s, ma_set_ss, ma_set_2, ma_cat_n, ma_cat_i, ma_cat_l, ma_cat_r, ma_clr_n, ma_clr_i, ma_clr_l, ma_clr_r, ma_clr_0, ma_rf_s, ma_rf_n, ma_ial_ap, ma_ias_ap, List.set_cons_zero, List.set_cons_succ, List.length_cons, List.length_nil, Nat.reduceAdd, Nat.reduceLT, Nat.reduceLeDiff, Nat.le_refl, true_and, and_true, Nat.lt_add_one, fa_lit, nI_add, pk_mul, pk_sub, pk_div, ma_rem_n, nI_ltI, nI_leI, nI_eq, Nat.reduceEqDiff, Nat.reduceMul, Nat.reduceSub, not_false_eq_true, not_true_eq_false, or_true, true_or, or_false, false_or, eq_self, Nat.zero_add, Nat.add_zero, nu_in, nI_clamp, pk_us, pk_un, ma_set_n, tab_cv, tab_g0, tab_g2, trC, hne, r29, r30]
        refine t_other' (ok_git hk m) r30 ?_
        simp (disch := omega) only [w69_0, w69_1, w69_2, w69_3, w69_5, w69_8, w69_9, w69_10, w69_11, w69_13, w69_16, w69_17, w69_20, w69_21, w69_24, w69_25, w69_28, w69_29, w69_30, w69_33, w69_34, w69_37, w69_38, w69_39, w69_42, w69_43, w69_46, w69_49, w69_50, w69_53, w69_54, w69_57, w69_58, w69_60, w69_61, w69_64, w69_66, w69_67, w69_68, w69_69, w69_70, w69_72, w69_75, w69_76, w69_79, w69_80, w69_83, w69_86, w69_90, w69_95, w69_98, w69_101, w69_104, w69_107, ma_kV_ap, ma_kC_s, ma_kC_n, ma_kH_ap, ma_gf_ap, ma_pf_ap, ma_cv_ap, ma_nt_0, ma_nt_s, ma_if_t, ma_if_f, ma_set_s, ma_set_ss, ma_set_2, ma_cat_n, ma_cat_i, ma_cat_l, ma_cat_r, ma_clr_n, ma_clr_i, ma_clr_l, ma_clr_r, ma_clr_0, ma_rf_s, ma_rf_n, ma_ial_ap, ma_ias_ap, List.set_cons_zero, List.set_cons_succ, List.length_cons, List.length_nil, Nat.reduceAdd, Nat.reduceLT, Nat.reduceLeDiff, Nat.le_refl, true_and, and_true, Nat.lt_add_one, fa_lit, nI_add, pk_mul, pk_sub, pk_div, ma_rem_n, nI_ltI, nI_leI, nI_eq, Nat.reduceEqDiff, Nat.reduceMul, Nat.reduceSub, not_false_eq_true, not_true_eq_false, or_true, true_or, or_false, false_or, eq_self, Nat.zero_add, Nat.add_zero]
        unfold gout at eg
        rw [he] at eg
        dsimp only at eg
        refine ⟨fun e => ?_, fun e => ?_⟩
        · simp (disch := omega) only [w69_0, w69_1, w69_2, w69_3, w69_5, w69_8, w69_9, w69_10, w69_11, w69_13, w69_16, w69_17, w69_20, w69_21, w69_24, w69_25, w69_28, w69_29, w69_30, w69_33, w69_34, w69_37, w69_38, w69_39, w69_42, w69_43, w69_46, w69_49, w69_50, w69_53, w69_54, w69_57, w69_58, w69_60, w69_61, w69_64, w69_66, w69_67, w69_68, w69_69, w69_70, w69_72, w69_75, w69_76, w69_79, w69_80, w69_83, w69_86, w69_89, w69_90, w69_93, w69_95, w69_98, w69_101, w69_104, w69_107, ma_kV_ap, ma_kC_s, ma_kC_n, ma_kH_ap, ma_gf_ap, ma_pf_ap, ma_cv_ap, ma_nt_0, ma_nt_s, ma_if_t, ma_if_f, ma_set_s, ma_set_ss, ma_set_2, ma_cat_n, ma_cat_i, ma_cat_l, ma_cat_r, ma_clr_n, ma_clr_i, ma_clr_l, ma_clr_r, ma_clr_0, ma_rf_s, ma_rf_n, ma_ial_ap, ma_ias_ap, List.set_cons_zero, List.set_cons_succ, List.length_cons, List.length_nil, Nat.reduceAdd, Nat.reduceLT, Nat.reduceLeDiff, Nat.le_refl, true_and, and_true, Nat.lt_add_one, fa_lit, nI_add, pk_mul, pk_sub, pk_div, ma_rem_n, nI_ltI, nI_leI, nI_eq, Nat.reduceEqDiff, Nat.reduceMul, Nat.reduceSub, not_false_eq_true, not_true_eq_false, or_true, true_or, or_false, false_or, eq_self, Nat.zero_add, Nat.add_zero]
          rw [if_pos e] at eg
          exact fin H2 _ _ q2 f2 eg.symm _
        · simp (disch := omega) only [w69_0, w69_1, w69_2, w69_3, w69_5, w69_8, w69_9, w69_10, w69_11, w69_13, w69_16, w69_17, w69_20, w69_21, w69_24, w69_25, w69_28, w69_29, w69_30, w69_33, w69_34, w69_37, w69_38, w69_39, w69_42, w69_43, w69_46, w69_49, w69_50, w69_53, w69_54, w69_57, w69_58, w69_60, w69_61, w69_64, w69_66, w69_67, w69_68, w69_69, w69_70, w69_72, w69_75, w69_76, w69_79, w69_80, w69_83, w69_86, w69_89, w69_90, w69_93, w69_95, w69_98, w69_101, w69_104, w69_107, ma_kV_ap, ma_kC_s, ma_kC_n, ma_kH_ap, ma_gf_ap, ma_pf_ap, ma_cv_ap, ma_nt_0, ma_nt_s, ma_if_t, ma_if_f, ma_set_s, ma_set_ss, ma_set_2, ma_cat_n, ma_cat_i, ma_cat_l, ma_cat_r, ma_clr_n, ma_clr_i, ma_clr_l, ma_clr_r, ma_clr_0, ma_rf_s, ma_rf_n, ma_ial_ap, ma_ias_ap, List.set_cons_zero, List.set_cons_succ, List.length_cons, List.length_nil, Nat.reduceAdd, Nat.reduceLT, Nat.reduceLeDiff, Nat.le_refl, true_and, and_true, Nat.lt_add_one, fa_lit, nI_add, pk_mul, pk_sub, pk_div, ma_rem_n, nI_ltI, nI_leI, nI_eq, Nat.reduceEqDiff, Nat.reduceMul, Nat.reduceSub, not_false_eq_true, not_true_eq_false, or_true, true_or, or_false, false_or, eq_self, Nat.zero_add, Nat.add_zero]
          rw [if_neg e] at eg
          exact fin H2 _ _ q2 f2 eg.symm _
      · have r29 := q2.1
        simp (disch := omega) only [w69_0, w69_1, w69_2, w69_3, w69_5, w69_8, w69_9, w69_10, w69_11, w69_13, w69_16, w69_17, w69_20, w69_21, w69_24, w69_25, w69_28, w69_29, w69_30, w69_33, w69_34, w69_37, w69_38, w69_39, w69_42, w69_43, w69_46, w69_49, w69_50, w69_53, w69_54, w69_57, w69_58, w69_60, w69_61, w69_64, w69_66, w69_67, w69_68, w69_69, w69_70, w69_72, w69_75, w69_76, w69_79, w69_80, w69_83, w69_86, w69_89, w69_90, w69_93, w69_95, w69_98, w69_101, w69_104, w69_107, ma_kV_ap, ma_kC_s, ma_kC_n, ma_kH_ap, ma_gf_ap, ma_pf_ap, ma_cv_ap, ma_nt_0, ma_nt_s, ma_if_t, ma_if_f, ma_set_s, ma_set_ss, ma_set_2, ma_cat_n, ma_cat_i, ma_cat_l, ma_cat_r, ma_clr_n, ma_clr_i, ma_clr_l, ma_clr_r, ma_clr_0, ma_rf_s, ma_rf_n, ma_ial_ap, ma_ias_ap, List.set_cons_zero, List.set_cons_succ, List.length_cons, List.length_nil, Nat.reduceAdd, Nat.reduceLT, Nat.reduceLeDiff, Nat.le_refl, true_and, and_true, Nat.lt_add_one, fa_lit, nI_add, pk_mul, pk_sub, pk_div, ma_rem_n, nI_ltI, nI_leI, nI_eq, Nat.reduceEqDiff, Nat.reduceMul, Nat.reduceSub, not_false_eq_true, not_true_eq_false, or_true, true_or, or_false, false_or, eq_self, Nat.zero_add, Nat.add_zero, nu_in, nI_clamp, pk_us, pk_un, ma_set_n, tab_cv, tab_g0, tab_g2, trC, r29]
        unfold gout at eg
        rw [he] at eg
        exact fin H2 _ _ q2 f2 eg.symm _
  have hout : ∀ c i0, 6 - i0 = c → i0 ≤ 6 → ∀ H1 y f, trT H1 bc bm y → H1.1 32 = arI 36 f → (∀ p, p < 6 * i0 → f p = gov t p) → fr H H1 29 33 → ∀ o3 o4, ma_W (d + 6) 69 Q 2 [some (.ref 29), some (.ref i), some (.int (nI i0)), o3, o4] [] H1 0 0 := by
    intro c
    induction c with
    | zero =>
      intro i0 e1 e2 H1 y f q q32 qf fF o3 o4
      have hc : (6 ≤ i0) = True := eq_true (by omega)
      simp (disch := omega) only [w69_0, w69_1, w69_2, w69_3, w69_5, w69_8, w69_9, w69_10, w69_11, w69_13, w69_16, w69_17, w69_20, w69_21, w69_24, w69_25, w69_28, w69_29, w69_30, w69_33, w69_34, w69_37, w69_38, w69_39, w69_42, w69_43, w69_46, w69_49, w69_50, w69_53, w69_54, w69_57, w69_58, w69_60, w69_61, w69_64, w69_66, w69_67, w69_68, w69_69, w69_70, w69_72, w69_75, w69_76, w69_79, w69_80, w69_83, w69_86, w69_89, w69_90, w69_93, w69_94, w69_95, w69_98, w69_101, w69_104, w69_107, ma_kV_ap, ma_kC_s, ma_kC_n, ma_kH_ap, ma_gf_ap, ma_pf_ap, ma_cv_ap, ma_nt_0, ma_nt_s, ma_if_t, ma_if_f, ma_set_s, ma_set_ss, ma_set_2, ma_cat_n, ma_cat_i, ma_cat_l, ma_cat_r, ma_clr_n, ma_clr_i, ma_clr_l, ma_clr_r, ma_clr_0, ma_rf_s, ma_rf_n, ma_ial_ap, ma_ias_ap, List.set_cons_zero, List.set_cons_succ, List.length_cons, List.length_nil, Nat.reduceAdd, Nat.reduceLT, Nat.reduceLeDiff, Nat.le_refl, true_and, and_true, Nat.lt_add_one, fa_lit, nI_add, pk_mul, pk_sub, pk_div, ma_rem_n, nI_ltI, nI_leI, nI_eq, Nat.reduceEqDiff, Nat.reduceMul, Nat.reduceSub, not_false_eq_true, not_true_eq_false, or_true, true_or, or_false, false_or, eq_self, Nat.zero_add, Nat.add_zero, hc]
      exact h H1 y f q q32 (fun p hp => qf p (by omega)) fF
    | succ c ih =>
      intro i0 e1 e2 H1 y f q q32 qf fF o3 o4
      have hc : (6 ≤ i0) = False := eq_false (by omega)
      simp (disch := omega) only [w69_0, w69_1, w69_2, w69_3, w69_5, w69_8, w69_9, w69_11, w69_13, w69_16, w69_17, w69_20, w69_21, w69_24, w69_25, w69_28, w69_29, w69_30, w69_33, w69_34, w69_37, w69_38, w69_39, w69_42, w69_43, w69_46, w69_49, w69_50, w69_53, w69_54, w69_57, w69_58, w69_60, w69_61, w69_64, w69_66, w69_67, w69_68, w69_69, w69_70, w69_72, w69_75, w69_76, w69_79, w69_80, w69_83, w69_86, w69_89, w69_90, w69_93, w69_94, w69_95, w69_98, w69_101, w69_104, w69_107, ma_kV_ap, ma_kC_s, ma_kC_n, ma_kH_ap, ma_gf_ap, ma_pf_ap, ma_cv_ap, ma_nt_0, ma_nt_s, ma_if_t, ma_if_f, ma_set_s, ma_set_ss, ma_set_2, ma_cat_n, ma_cat_i, ma_cat_l, ma_cat_r, ma_clr_n, ma_clr_i, ma_clr_l, ma_clr_r, ma_clr_0, ma_rf_s, ma_rf_n, ma_ial_ap, ma_ias_ap, List.set_cons_zero, List.set_cons_succ, List.length_cons, List.length_nil, Nat.reduceAdd, Nat.reduceLT, Nat.reduceLeDiff, Nat.le_refl, true_and, and_true, Nat.lt_add_one, fa_lit, nI_add, pk_mul, pk_sub, pk_div, ma_rem_n, nI_ltI, nI_leI, nI_eq, Nat.reduceEqDiff, Nat.reduceMul, Nat.reduceSub, not_false_eq_true, not_true_eq_false, or_true, true_or, or_false, false_or, eq_self, Nat.zero_add, Nat.add_zero, hc]
      exact hin i0 (by omega) (fun H2 y2 f2 q2 q32 qf2 fF2 o o' => ih (i0 + 1) (by omega) (by omega) H2 y2 f2 q2 q32 qf2 fF2 o o') _ 0 rfl (Nat.zero_le _) H1 y f q q32 qf fF _
  rw [e69]
  simp (disch := omega) only [w69_0, w69_1, w69_3, w69_5, w69_8, w69_9, w69_10, w69_11, w69_13, w69_16, w69_17, w69_20, w69_21, w69_24, w69_25, w69_28, w69_29, w69_30, w69_33, w69_34, w69_37, w69_38, w69_39, w69_42, w69_43, w69_46, w69_49, w69_50, w69_53, w69_54, w69_57, w69_58, w69_60, w69_61, w69_64, w69_66, w69_67, w69_68, w69_69, w69_70, w69_72, w69_75, w69_76, w69_79, w69_80, w69_83, w69_86, w69_89, w69_90, w69_93, w69_94, w69_95, w69_98, w69_101, w69_104, w69_107, ma_kV_ap, ma_kC_s, ma_kC_n, ma_kH_ap, ma_gf_ap, ma_pf_ap, ma_cv_ap, ma_nt_0, ma_nt_s, ma_if_t, ma_if_f, ma_set_s, ma_set_ss, ma_set_2, ma_cat_n, ma_cat_i, ma_cat_l, ma_cat_r, ma_clr_n, ma_clr_i, ma_clr_l, ma_clr_r, ma_clr_0, ma_rf_s, ma_rf_n, ma_ial_ap, ma_ias_ap, List.set_cons_zero, List.set_cons_succ, List.length_cons, List.length_nil, Nat.reduceAdd, Nat.reduceLT, Nat.reduceLeDiff, Nat.le_refl, true_and, and_true, Nat.lt_add_one, fa_lit, nI_add, pk_mul, pk_sub, pk_div, ma_rem_n, nI_ltI, nI_leI, nI_eq, Nat.reduceEqDiff, Nat.reduceMul, Nat.reduceSub, not_false_eq_true, not_true_eq_false, or_true, true_or, or_false, false_or, eq_self, Nat.zero_add, Nat.add_zero]
  exact hout _ 0 rfl (Nat.zero_le _) H y30 f0 ⟨h29, h30, y31, h31⟩ h32 (fun p hp => by omega) (fr_refl _ _ _) _ _
theorem k_rests {f : Nat → Int32} {x y : Nat} (hx : x < 6) (hy : y < 6) (h29 : H.1 29 = trC bc bm) (h32 : H.1 32 = arI 36 f) (h1 : gR f x y → Q (some (.int (nI 1))) H) (h0 : ¬ gR f x y → Q (some (.int (nI 0))) H) : ma_MW (d + 1) 72 [.ref 29, .int (nI x), .int (nI y)] H Q := by
  unfold trC at h29
  have loop : ∀ c o, 6 - o = c → o ≤ 6 → (∀ o', o' < o → f (6 * o' + y) ≤ f (6 * x + y) ∧ f (6 * x + y) ≤ f (6 * x + o')) → ma_W d 72 Q 15 [some (.ref 29), some (.int (nI x)), some (.int (nI y)), some (.int (f (6 * x + y))), some (.int (nI o))] [] H 0 0 := by
    intro c
    induction c with
    | zero =>
      intro o e1 e2 q
      have hc : (6 ≤ o) = True := eq_true (by omega)
      simp (disch := omega) only [w72_0, w72_1, w72_4, w72_6, w72_7, w72_8, w72_9, w72_10, w72_11, w72_12, w72_13, w72_15, w72_17, w72_19, w72_22, w72_23, w72_26, w72_28, w72_30, w72_31, w72_32, w72_33, w72_34, w72_35, w72_38, w72_39, w72_42, w72_44, w72_45, w72_46, w72_48, w72_49, w72_50, w72_51, w72_54, w72_55, w72_56, w72_59, w72_62, w72_63, ma_kV_ap, ma_kC_s, ma_kC_n, ma_kH_ap, ma_gf_ap, ma_pf_ap, ma_cv_ap, ma_nt_0, ma_nt_s, ma_if_t, ma_if_f, ma_set_s, ma_set_ss, ma_set_2, ma_cat_n, ma_cat_i, ma_cat_l, ma_cat_r, ma_clr_n, ma_clr_i, ma_clr_l, ma_clr_r, ma_clr_0, ma_rf_s, ma_rf_n, ma_ial_ap, ma_ias_ap, List.set_cons_zero, List.set_cons_succ, List.length_cons, List.length_nil, Nat.reduceAdd, Nat.reduceLT, Nat.reduceLeDiff, Nat.le_refl, true_and, and_true, Nat.lt_add_one, fa_lit, nI_add, pk_mul, pk_sub, pk_div, ma_rem_n, nI_ltI, nI_leI, nI_eq, Nat.reduceEqDiff, Nat.reduceMul, Nat.reduceSub, not_false_eq_true, not_true_eq_false, or_true, true_or, or_false, false_or, eq_self, Nat.zero_add, Nat.add_zero, hc]
      exact h1 (fun o' ho' => q o' (by omega))
    | succ c ih =>
      intro o e1 e2 q
      have hc : (6 ≤ o) = False := eq_false (by omega)
      simp (disch := omega) only [w72_0, w72_1, w72_4, w72_6, w72_7, w72_8, w72_9, w72_10, w72_11, w72_12, w72_13, w72_15, w72_17, w72_19, w72_22, w72_23, w72_26, w72_28, w72_30, w72_31, w72_32, w72_33, w72_34, w72_35, w72_39, w72_42, w72_44, w72_45, w72_46, w72_48, w72_49, w72_50, w72_51, w72_55, w72_56, w72_59, w72_62, w72_63, ma_kV_ap, ma_kC_s, ma_kC_n, ma_kH_ap, ma_gf_ap, ma_pf_ap, ma_cv_ap, ma_nt_0, ma_nt_s, ma_if_t, ma_if_f, ma_set_s, ma_set_ss, ma_set_2, ma_cat_n, ma_cat_i, ma_cat_l, ma_cat_r, ma_clr_n, ma_clr_i, ma_clr_l, ma_clr_r, ma_clr_0, ma_rf_s, ma_rf_n, ma_ial_ap, ma_ias_ap, List.set_cons_zero, List.set_cons_succ, List.length_cons, List.length_nil, Nat.reduceAdd, Nat.reduceLT, Nat.reduceLeDiff, Nat.le_refl, true_and, and_true, Nat.lt_add_one, fa_lit, nI_add, pk_mul, pk_sub, pk_div, ma_rem_n, nI_ltI, nI_leI, nI_eq, Nat.reduceEqDiff, Nat.reduceMul, Nat.reduceSub, not_false_eq_true, not_true_eq_false, or_true, true_or, or_false, false_or, eq_self, Nat.zero_add, Nat.add_zero, nu_in, nI_clamp, pk_us, pk_un, ma_set_n, hc, h29, h32]
      refine ⟨fun g => ?_, fun g => ?_⟩
      · simp (disch := omega) only [w72_0, w72_1, w72_4, w72_6, w72_7, w72_8, w72_9, w72_10, w72_11, w72_12, w72_13, w72_15, w72_17, w72_19, w72_22, w72_23, w72_26, w72_28, w72_30, w72_31, w72_32, w72_33, w72_34, w72_35, w72_38, w72_39, w72_42, w72_44, w72_45, w72_46, w72_48, w72_49, w72_50, w72_51, w72_54, w72_55, w72_56, w72_59, w72_62, w72_63, ma_kV_ap, ma_kC_s, ma_kC_n, ma_kH_ap, ma_gf_ap, ma_pf_ap, ma_cv_ap, ma_nt_0, ma_nt_s, ma_if_t, ma_if_f, ma_set_s, ma_set_ss, ma_set_2, ma_cat_n, ma_cat_i, ma_cat_l, ma_cat_r, ma_clr_n, ma_clr_i, ma_clr_l, ma_clr_r, ma_clr_0, ma_rf_s, ma_rf_n, ma_ial_ap, ma_ias_ap, List.set_cons_zero, List.set_cons_succ, List.length_cons, List.length_nil, Nat.reduceAdd, Nat.reduceLT, Nat.reduceLeDiff, Nat.le_refl, true_and, and_true, Nat.lt_add_one, fa_lit, nI_add, pk_mul, pk_sub, pk_div, ma_rem_n, nI_ltI, nI_leI, nI_eq, Nat.reduceEqDiff, Nat.reduceMul, Nat.reduceSub, not_false_eq_true, not_true_eq_false, or_true, true_or, or_false, false_or, eq_self, Nat.zero_add, Nat.add_zero]
        exact h0 (fun z => absurd (z o (by omega)).1 (by rw [Int32.not_le]; exact g))
      · simp (disch := omega) only [w72_0, w72_1, w72_4, w72_6, w72_7, w72_8, w72_9, w72_10, w72_11, w72_12, w72_13, w72_15, w72_17, w72_19, w72_22, w72_23, w72_26, w72_28, w72_30, w72_31, w72_32, w72_33, w72_34, w72_35, w72_38, w72_39, w72_42, w72_44, w72_45, w72_46, w72_48, w72_49, w72_50, w72_51, w72_55, w72_59, w72_62, w72_63, ma_kV_ap, ma_kC_s, ma_kC_n, ma_kH_ap, ma_gf_ap, ma_pf_ap, ma_cv_ap, ma_nt_0, ma_nt_s, ma_if_t, ma_if_f, ma_set_s, ma_set_ss, ma_set_2, ma_cat_n, ma_cat_i, ma_cat_l, ma_cat_r, ma_clr_n, ma_clr_i, ma_clr_l, ma_clr_r, ma_clr_0, ma_rf_s, ma_rf_n, ma_ial_ap, ma_ias_ap, List.set_cons_zero, List.set_cons_succ, List.length_cons, List.length_nil, Nat.reduceAdd, Nat.reduceLT, Nat.reduceLeDiff, Nat.le_refl, true_and, and_true, Nat.lt_add_one, fa_lit, nI_add, pk_mul, pk_sub, pk_div, ma_rem_n, nI_ltI, nI_leI, nI_eq, Nat.reduceEqDiff, Nat.reduceMul, Nat.reduceSub, not_false_eq_true, not_true_eq_false, or_true, true_or, or_false, false_or, eq_self, Nat.zero_add, Nat.add_zero, nu_in, nI_clamp, pk_us, pk_un, ma_set_n, h29, h32]
        refine ⟨fun g2 => ?_, fun g2 => ?_⟩
        · simp (disch := omega) only [w72_0, w72_1, w72_4, w72_6, w72_7, w72_8, w72_9, w72_10, w72_11, w72_12, w72_13, w72_17, w72_19, w72_22, w72_23, w72_26, w72_28, w72_30, w72_31, w72_32, w72_33, w72_34, w72_35, w72_38, w72_39, w72_42, w72_44, w72_45, w72_46, w72_48, w72_49, w72_50, w72_51, w72_54, w72_55, w72_56, w72_59, w72_62, w72_63, ma_kV_ap, ma_kC_s, ma_kC_n, ma_kH_ap, ma_gf_ap, ma_pf_ap, ma_cv_ap, ma_nt_0, ma_nt_s, ma_if_t, ma_if_f, ma_set_s, ma_set_ss, ma_set_2, ma_cat_n, ma_cat_i, ma_cat_l, ma_cat_r, ma_clr_n, ma_clr_i, ma_clr_l, ma_clr_r, ma_clr_0, ma_rf_s, ma_rf_n, ma_ial_ap, ma_ias_ap, List.set_cons_zero, List.set_cons_succ, List.length_cons, List.length_nil, Nat.reduceAdd, Nat.reduceLT, Nat.reduceLeDiff, Nat.le_refl, true_and, and_true, Nat.lt_add_one, fa_lit, nI_add, pk_mul, pk_sub, pk_div, ma_rem_n, nI_ltI, nI_leI, nI_eq, Nat.reduceEqDiff, Nat.reduceMul, Nat.reduceSub, not_false_eq_true, not_true_eq_false, or_true, true_or, or_false, false_or, eq_self, Nat.zero_add, Nat.add_zero]
          refine ih (o + 1) (by omega) (by omega) (fun o' ho' => ?_)
          rcases Nat.lt_or_ge o' o with z | z
          · exact q o' z
          · have : o' = o := by omega
            subst this; exact ⟨Int32.not_lt.mp g, g2⟩
        · simp (disch := omega) only [w72_0, w72_1, w72_4, w72_6, w72_7, w72_8, w72_9, w72_10, w72_11, w72_12, w72_13, w72_15, w72_17, w72_19, w72_22, w72_23, w72_26, w72_28, w72_30, w72_31, w72_32, w72_33, w72_34, w72_35, w72_38, w72_39, w72_42, w72_44, w72_45, w72_46, w72_48, w72_49, w72_50, w72_51, w72_54, w72_55, w72_56, w72_59, w72_62, w72_63, ma_kV_ap, ma_kC_s, ma_kC_n, ma_kH_ap, ma_gf_ap, ma_pf_ap, ma_cv_ap, ma_nt_0, ma_nt_s, ma_if_t, ma_if_f, ma_set_s, ma_set_ss, ma_set_2, ma_cat_n, ma_cat_i, ma_cat_l, ma_cat_r, ma_clr_n, ma_clr_i, ma_clr_l, ma_clr_r, ma_clr_0, ma_rf_s, ma_rf_n, ma_ial_ap, ma_ias_ap, List.set_cons_zero, List.set_cons_succ, List.length_cons, List.length_nil, Nat.reduceAdd, Nat.reduceLT, Nat.reduceLeDiff, Nat.le_refl, true_and, and_true, Nat.lt_add_one, fa_lit, nI_add, pk_mul, pk_sub, pk_div, ma_rem_n, nI_ltI, nI_leI, nI_eq, Nat.reduceEqDiff, Nat.reduceMul, Nat.reduceSub, not_false_eq_true, not_true_eq_false, or_true, true_or, or_false, false_or, eq_self, Nat.zero_add, Nat.add_zero]
          exact h0 (fun z => g2 (z o (by omega)).2)
  rw [e72]
  simp (disch := omega) only [w72_0, w72_1, w72_4, w72_6, w72_7, w72_8, w72_9, w72_10, w72_11, w72_12, w72_13, w72_17, w72_19, w72_22, w72_23, w72_26, w72_28, w72_30, w72_31, w72_32, w72_33, w72_34, w72_35, w72_38, w72_39, w72_42, w72_44, w72_45, w72_46, w72_48, w72_49, w72_50, w72_51, w72_54, w72_55, w72_56, w72_59, w72_62, w72_63, ma_kV_ap, ma_kC_s, ma_kC_n, ma_kH_ap, ma_gf_ap, ma_pf_ap, ma_cv_ap, ma_nt_0, ma_nt_s, ma_if_t, ma_if_f, ma_set_s, ma_set_ss, ma_set_2, ma_cat_n, ma_cat_i, ma_cat_l, ma_cat_r, ma_clr_n, ma_clr_i, ma_clr_l, ma_clr_r, ma_clr_0, ma_rf_s, ma_rf_n, ma_ial_ap, ma_ias_ap, List.set_cons_zero, List.set_cons_succ, List.length_cons, List.length_nil, Nat.reduceAdd, Nat.reduceLT, Nat.reduceLeDiff, Nat.le_refl, true_and, and_true, Nat.lt_add_one, fa_lit, nI_add, pk_mul, pk_sub, pk_div, ma_rem_n, nI_ltI, nI_leI, nI_eq, Nat.reduceEqDiff, Nat.reduceMul, Nat.reduceSub, not_false_eq_true, not_true_eq_false, or_true, true_or, or_false, false_or, eq_self, Nat.zero_add, Nat.add_zero, nu_in, nI_clamp, pk_us, pk_un, ma_set_n, h29, h32]
  exact loop _ 0 rfl (Nat.zero_le _) (fun o ho => by omega)
theorem lit36 : Int32.ofNat 36 = nI 36 := rfl
theorem k_howMany {f : Nat → Int32} (h29 : H.1 29 = trC bc bm) (h32 : H.1 32 = arI 36 f) (h : Q (some (.int (nI (gcnt f 36)))) H) : ma_MW (d + 2) 70 [.ref 29] H Q := by
  have h29' := h29
  unfold trC at h29
  have loop : ∀ c p, 36 - p = c → p ≤ 36 → ma_W (d + 1) 70 Q 4 [some (.ref 29), some (.int (nI (gcnt f p))), some (.int (nI p))] [] H 0 0 := by
    intro c
    induction c with
    | zero =>
      intro p e1 e2
      have hp : p = 36 := by omega
      subst hp
      simp (disch := omega) only [w70_0, w70_1, w70_2, w70_3, w70_4, w70_5, w70_6, w70_9, w70_10, w70_13, w70_14, w70_15, w70_17, w70_18, w70_19, w70_21, w70_22, w70_25, w70_28, w70_31, w70_34, w70_37, w70_38, ma_kV_ap, ma_kC_s, ma_kC_n, ma_kH_ap, ma_gf_ap, ma_pf_ap, ma_cv_ap, ma_nt_0, ma_nt_s, ma_if_t, ma_if_f, ma_set_s, ma_set_ss, ma_set_2, ma_cat_n, ma_cat_i, ma_cat_l, ma_cat_r, ma_clr_n, ma_clr_i, ma_clr_l, ma_clr_r, ma_clr_0, ma_rf_s, ma_rf_n, ma_ial_ap, ma_ias_ap, List.set_cons_zero, List.set_cons_succ, List.length_cons, List.length_nil, Nat.reduceAdd, Nat.reduceLT, Nat.reduceLeDiff, Nat.le_refl, true_and, and_true, Nat.lt_add_one, fa_lit, nI_add, pk_mul, pk_sub, pk_div, ma_rem_n, nI_ltI, nI_leI, nI_eq, Nat.reduceEqDiff, Nat.reduceMul, Nat.reduceSub, not_false_eq_true, not_true_eq_false, or_true, true_or, or_false, false_or, eq_self, Nat.zero_add, Nat.add_zero, ma_al1_i, lit36, h29, h32]
      exact h
    | succ c ih =>
      intro p e1 e2
      have hc : (36 ≤ p) = False := eq_false (by omega)
      have hn : (6 = 0) = False := eq_false (by decide)
      have hle := gcnt_le (f := f) p
      simp (disch := omega) only [w70_0, w70_1, w70_2, w70_3, w70_4, w70_5, w70_6, w70_9, w70_10, w70_13, w70_14, w70_15, w70_17, w70_18, w70_19, w70_21, w70_22, w70_25, w70_28, w70_31, w70_34, w70_37, w70_38, ma_kV_ap, ma_kC_s, ma_kC_n, ma_kH_ap, ma_gf_ap, ma_pf_ap, ma_cv_ap, ma_nt_0, ma_nt_s, ma_if_t, ma_if_f, ma_set_s, ma_set_ss, ma_set_2, ma_cat_n, ma_cat_i, ma_cat_l, ma_cat_r, ma_clr_n, ma_clr_i, ma_clr_l, ma_clr_r, ma_clr_0, ma_rf_s, ma_rf_n, ma_ial_ap, ma_ias_ap, List.set_cons_zero, List.set_cons_succ, List.length_cons, List.length_nil, Nat.reduceAdd, Nat.reduceLT, Nat.reduceLeDiff, Nat.le_refl, true_and, and_true, Nat.lt_add_one, fa_lit, nI_add, pk_mul, pk_sub, pk_div, ma_rem_n, nI_ltI, nI_leI, nI_eq, Nat.reduceEqDiff, Nat.reduceMul, Nat.reduceSub, not_false_eq_true, not_true_eq_false, or_true, true_or, or_false, false_or, eq_self, Nat.zero_add, Nat.add_zero, ma_al1_i, lit36, hc, hn, h29, h32]
      refine k_rests (by omega) (by omega) h29' h32 (fun g => ?_) (fun g => ?_)
      · simp (disch := omega) only [w70_0, w70_1, w70_2, w70_3, w70_5, w70_6, w70_9, w70_10, w70_13, w70_14, w70_15, w70_17, w70_18, w70_19, w70_21, w70_22, w70_25, w70_28, w70_31, w70_34, w70_37, w70_38, ma_kV_ap, ma_kC_s, ma_kC_n, ma_kH_ap, ma_gf_ap, ma_pf_ap, ma_cv_ap, ma_nt_0, ma_nt_s, ma_if_t, ma_if_f, ma_set_s, ma_set_ss, ma_set_2, ma_cat_n, ma_cat_i, ma_cat_l, ma_cat_r, ma_clr_n, ma_clr_i, ma_clr_l, ma_clr_r, ma_clr_0, ma_rf_s, ma_rf_n, ma_ial_ap, ma_ias_ap, List.set_cons_zero, List.set_cons_succ, List.length_cons, List.length_nil, Nat.reduceAdd, Nat.reduceLT, Nat.reduceLeDiff, Nat.le_refl, true_and, and_true, Nat.lt_add_one, fa_lit, nI_add, pk_mul, pk_sub, pk_div, ma_rem_n, nI_ltI, nI_leI, nI_eq, Nat.reduceEqDiff, Nat.reduceMul, Nat.reduceSub, not_false_eq_true, not_true_eq_false, or_true, true_or, or_false, false_or, eq_self, Nat.zero_add, Nat.add_zero]
        have := ih (p + 1) (by omega) (by omega)
        rw [gcnt_y g] at this
        exact this
      · simp (disch := omega) only [w70_0, w70_1, w70_2, w70_3, w70_5, w70_6, w70_9, w70_10, w70_13, w70_14, w70_15, w70_17, w70_18, w70_19, w70_21, w70_22, w70_25, w70_28, w70_31, w70_34, w70_37, w70_38, ma_kV_ap, ma_kC_s, ma_kC_n, ma_kH_ap, ma_gf_ap, ma_pf_ap, ma_cv_ap, ma_nt_0, ma_nt_s, ma_if_t, ma_if_f, ma_set_s, ma_set_ss, ma_set_2, ma_cat_n, ma_cat_i, ma_cat_l, ma_cat_r, ma_clr_n, ma_clr_i, ma_clr_l, ma_clr_r, ma_clr_0, ma_rf_s, ma_rf_n, ma_ial_ap, ma_ias_ap, List.set_cons_zero, List.set_cons_succ, List.length_cons, List.length_nil, Nat.reduceAdd, Nat.reduceLT, Nat.reduceLeDiff, Nat.le_refl, true_and, and_true, Nat.lt_add_one, fa_lit, nI_add, pk_mul, pk_sub, pk_div, ma_rem_n, nI_ltI, nI_leI, nI_eq, Nat.reduceEqDiff, Nat.reduceMul, Nat.reduceSub, not_false_eq_true, not_true_eq_false, or_true, true_or, or_false, false_or, eq_self, Nat.zero_add, Nat.add_zero]
        have := ih (p + 1) (by omega) (by omega)
        rw [gcnt_n g] at this
        exact this
  rw [e70]
  simp (disch := omega) only [w70_0, w70_1, w70_2, w70_3, w70_5, w70_6, w70_9, w70_10, w70_13, w70_14, w70_15, w70_17, w70_18, w70_19, w70_21, w70_22, w70_25, w70_28, w70_31, w70_34, w70_37, w70_38, ma_kV_ap, ma_kC_s, ma_kC_n, ma_kH_ap, ma_gf_ap, ma_pf_ap, ma_cv_ap, ma_nt_0, ma_nt_s, ma_if_t, ma_if_f, ma_set_s, ma_set_ss, ma_set_2, ma_cat_n, ma_cat_i, ma_cat_l, ma_cat_r, ma_clr_n, ma_clr_i, ma_clr_l, ma_clr_r, ma_clr_0, ma_rf_s, ma_rf_n, ma_ial_ap, ma_ias_ap, List.set_cons_zero, List.set_cons_succ, List.length_cons, List.length_nil, Nat.reduceAdd, Nat.reduceLT, Nat.reduceLeDiff, Nat.le_refl, true_and, and_true, Nat.lt_add_one, fa_lit, nI_add, pk_mul, pk_sub, pk_div, ma_rem_n, nI_ltI, nI_leI, nI_eq, Nat.reduceEqDiff, Nat.reduceMul, Nat.reduceSub, not_false_eq_true, not_true_eq_false, or_true, true_or, or_false, false_or, eq_self, Nat.zero_add, Nat.add_zero]
  exact loop _ 0 rfl (Nat.zero_le _)
theorem k_resting {f : Nat → Int32} {k : Int32} (h29 : H.1 29 = trC bc bm) (h32 : H.1 32 = arI 36 f) (h1 : ∀ p, p < 36 → gRp f p → nI (gcnt f p) = k → Q (some (.int (nI (10 * (p / 6) + p % 6)))) H) (h0 : (∀ p, p < 36 → gRp f p → nI (gcnt f p) ≠ k) → Q (some (.int (-nI 5))) H) : ma_MW (d + 2) 71 [.ref 29, .int k] H Q := by
  have h29' := h29
  unfold trC at h29
  have loop : ∀ c p, 36 - p = c → p ≤ 36 → (∀ p', p' < p → gRp f p' → nI (gcnt f p') ≠ k) → ma_W (d + 1) 71 Q 4 [some (.ref 29), some (.int k), some (.int (nI (gcnt f p))), some (.int (nI p))] [] H 0 0 := by
    intro c
    induction c with
    | zero =>
      intro p e1 e2 q
      have hp : p = 36 := by omega
      subst hp
      simp (disch := omega) only [w71_0, w71_1, w71_2, w71_3, w71_4, w71_5, w71_6, w71_9, w71_10, w71_13, w71_14, w71_15, w71_17, w71_18, w71_19, w71_21, w71_22, w71_25, w71_28, w71_29, w71_30, w71_33, w71_35, w71_36, w71_38, w71_39, w71_40, w71_41, w71_43, w71_44, w71_45, w71_46, w71_49, w71_52, w71_55, w71_57, ma_kV_ap, ma_kC_s, ma_kC_n, ma_kH_ap, ma_gf_ap, ma_pf_ap, ma_cv_ap, ma_nt_0, ma_nt_s, ma_if_t, ma_if_f, ma_set_s, ma_set_ss, ma_set_2, ma_cat_n, ma_cat_i, ma_cat_l, ma_cat_r, ma_clr_n, ma_clr_i, ma_clr_l, ma_clr_r, ma_clr_0, ma_rf_s, ma_rf_n, ma_ial_ap, ma_ias_ap, List.set_cons_zero, List.set_cons_succ, List.length_cons, List.length_nil, Nat.reduceAdd, Nat.reduceLT, Nat.reduceLeDiff, Nat.le_refl, true_and, and_true, Nat.lt_add_one, fa_lit, nI_add, pk_mul, pk_sub, pk_div, ma_rem_n, nI_ltI, nI_leI, nI_eq, Nat.reduceEqDiff, Nat.reduceMul, Nat.reduceSub, not_false_eq_true, not_true_eq_false, or_true, true_or, or_false, false_or, eq_self, Nat.zero_add, Nat.add_zero, ma_al1_i, lit36, h29, h32]
      exact h0 q
    | succ c ih =>
      intro p e1 e2 q
      have hc : (36 ≤ p) = False := eq_false (by omega)
      have hn : (6 = 0) = False := eq_false (by decide)
      have hle := gcnt_le (f := f) p
      simp (disch := omega) only [w71_0, w71_1, w71_2, w71_3, w71_4, w71_5, w71_6, w71_9, w71_10, w71_13, w71_14, w71_15, w71_17, w71_18, w71_19, w71_21, w71_22, w71_25, w71_28, w71_29, w71_30, w71_33, w71_35, w71_36, w71_38, w71_39, w71_40, w71_41, w71_43, w71_44, w71_45, w71_46, w71_49, w71_52, w71_55, w71_57, ma_kV_ap, ma_kC_s, ma_kC_n, ma_kH_ap, ma_gf_ap, ma_pf_ap, ma_cv_ap, ma_nt_0, ma_nt_s, ma_if_t, ma_if_f, ma_set_s, ma_set_ss, ma_set_2, ma_cat_n, ma_cat_i, ma_cat_l, ma_cat_r, ma_clr_n, ma_clr_i, ma_clr_l, ma_clr_r, ma_clr_0, ma_rf_s, ma_rf_n, ma_ial_ap, ma_ias_ap, List.set_cons_zero, List.set_cons_succ, List.length_cons, List.length_nil, Nat.reduceAdd, Nat.reduceLT, Nat.reduceLeDiff, Nat.le_refl, true_and, and_true, Nat.lt_add_one, fa_lit, nI_add, pk_mul, pk_sub, pk_div, ma_rem_n, nI_ltI, nI_leI, nI_eq, Nat.reduceEqDiff, Nat.reduceMul, Nat.reduceSub, not_false_eq_true, not_true_eq_false, or_true, true_or, or_false, false_or, eq_self, Nat.zero_add, Nat.add_zero, ma_al1_i, lit36, hc, hn, h29, h32]
      refine k_rests (by omega) (by omega) h29' h32 (fun g => ?_) (fun g => ?_)
      · simp (disch := omega) only [w71_0, w71_1, w71_2, w71_3, w71_4, w71_5, w71_6, w71_9, w71_10, w71_13, w71_14, w71_15, w71_17, w71_18, w71_19, w71_21, w71_22, w71_25, w71_28, w71_29, w71_30, w71_35, w71_36, w71_38, w71_39, w71_40, w71_41, w71_43, w71_44, w71_45, w71_49, w71_52, w71_55, w71_57, ma_kV_ap, ma_kC_s, ma_kC_n, ma_kH_ap, ma_gf_ap, ma_pf_ap, ma_cv_ap, ma_nt_0, ma_nt_s, ma_if_t, ma_if_f, ma_set_s, ma_set_ss, ma_set_2, ma_cat_n, ma_cat_i, ma_cat_l, ma_cat_r, ma_clr_n, ma_clr_i, ma_clr_l, ma_clr_r, ma_clr_0, ma_rf_s, ma_rf_n, ma_ial_ap, ma_ias_ap, List.set_cons_zero, List.set_cons_succ, List.length_cons, List.length_nil, Nat.reduceAdd, Nat.reduceLT, Nat.reduceLeDiff, Nat.le_refl, true_and, and_true, Nat.lt_add_one, fa_lit, nI_add, pk_mul, pk_sub, pk_div, ma_rem_n, nI_ltI, nI_leI, nI_eq, Nat.reduceEqDiff, Nat.reduceMul, Nat.reduceSub, not_false_eq_true, not_true_eq_false, or_true, true_or, or_false, false_or, eq_self, Nat.zero_add, Nat.add_zero]
        refine ⟨fun e => ?_, fun e => ?_⟩
        · simp (disch := omega) only [w71_0, w71_1, w71_2, w71_3, w71_4, w71_5, w71_6, w71_9, w71_10, w71_13, w71_14, w71_15, w71_17, w71_18, w71_19, w71_21, w71_22, w71_25, w71_28, w71_29, w71_30, w71_33, w71_35, w71_36, w71_38, w71_39, w71_40, w71_41, w71_43, w71_44, w71_45, w71_46, w71_49, w71_52, w71_55, w71_57, ma_kV_ap, ma_kC_s, ma_kC_n, ma_kH_ap, ma_gf_ap, ma_pf_ap, ma_cv_ap, ma_nt_0, ma_nt_s, ma_if_t, ma_if_f, ma_set_s, ma_set_ss, ma_set_2, ma_cat_n, ma_cat_i, ma_cat_l, ma_cat_r, ma_clr_n, ma_clr_i, ma_clr_l, ma_clr_r, ma_clr_0, ma_rf_s, ma_rf_n, ma_ial_ap, ma_ias_ap, List.set_cons_zero, List.set_cons_succ, List.length_cons, List.length_nil, Nat.reduceAdd, Nat.reduceLT, Nat.reduceLeDiff, Nat.le_refl, true_and, and_true, Nat.lt_add_one, fa_lit, nI_add, pk_mul, pk_sub, pk_div, ma_rem_n, nI_ltI, nI_leI, nI_eq, Nat.reduceEqDiff, Nat.reduceMul, Nat.reduceSub, not_false_eq_true, not_true_eq_false, or_true, true_or, or_false, false_or, eq_self, Nat.zero_add, Nat.add_zero, hn]
          exact h1 p (by omega) g e
        · simp (disch := omega) only [w71_0, w71_1, w71_2, w71_3, w71_5, w71_6, w71_9, w71_10, w71_13, w71_14, w71_15, w71_17, w71_18, w71_19, w71_21, w71_22, w71_25, w71_28, w71_29, w71_30, w71_33, w71_35, w71_36, w71_38, w71_39, w71_40, w71_41, w71_43, w71_44, w71_45, w71_46, w71_49, w71_52, w71_55, w71_57, ma_kV_ap, ma_kC_s, ma_kC_n, ma_kH_ap, ma_gf_ap, ma_pf_ap, ma_cv_ap, ma_nt_0, ma_nt_s, ma_if_t, ma_if_f, ma_set_s, ma_set_ss, ma_set_2, ma_cat_n, ma_cat_i, ma_cat_l, ma_cat_r, ma_clr_n, ma_clr_i, ma_clr_l, ma_clr_r, ma_clr_0, ma_rf_s, ma_rf_n, ma_ial_ap, ma_ias_ap, List.set_cons_zero, List.set_cons_succ, List.length_cons, List.length_nil, Nat.reduceAdd, Nat.reduceLT, Nat.reduceLeDiff, Nat.le_refl, true_and, and_true, Nat.lt_add_one, fa_lit, nI_add, pk_mul, pk_sub, pk_div, ma_rem_n, nI_ltI, nI_leI, nI_eq, Nat.reduceEqDiff, Nat.reduceMul, Nat.reduceSub, not_false_eq_true, not_true_eq_false, or_true, true_or, or_false, false_or, eq_self, Nat.zero_add, Nat.add_zero]
          have := ih (p + 1) (by omega) (by omega) (fun p' hp' hg => by
            rcases Nat.lt_or_ge p' p with z | z
            · exact q p' z hg
            · have : p' = p := by omega
              subst this; exact e)
          rw [gcnt_y g] at this
          exact this
      · simp (disch := omega) only [w71_0, w71_1, w71_2, w71_3, w71_5, w71_6, w71_9, w71_10, w71_13, w71_14, w71_15, w71_17, w71_18, w71_19, w71_21, w71_22, w71_25, w71_28, w71_29, w71_30, w71_33, w71_35, w71_36, w71_38, w71_39, w71_40, w71_41, w71_43, w71_44, w71_45, w71_46, w71_49, w71_52, w71_55, w71_57, ma_kV_ap, ma_kC_s, ma_kC_n, ma_kH_ap, ma_gf_ap, ma_pf_ap, ma_cv_ap, ma_nt_0, ma_nt_s, ma_if_t, ma_if_f, ma_set_s, ma_set_ss, ma_set_2, ma_cat_n, ma_cat_i, ma_cat_l, ma_cat_r, ma_clr_n, ma_clr_i, ma_clr_l, ma_clr_r, ma_clr_0, ma_rf_s, ma_rf_n, ma_ial_ap, ma_ias_ap, List.set_cons_zero, List.set_cons_succ, List.length_cons, List.length_nil, Nat.reduceAdd, Nat.reduceLT, Nat.reduceLeDiff, Nat.le_refl, true_and, and_true, Nat.lt_add_one, fa_lit, nI_add, pk_mul, pk_sub, pk_div, ma_rem_n, nI_ltI, nI_leI, nI_eq, Nat.reduceEqDiff, Nat.reduceMul, Nat.reduceSub, not_false_eq_true, not_true_eq_false, or_true, true_or, or_false, false_or, eq_self, Nat.zero_add, Nat.add_zero]
        have := ih (p + 1) (by omega) (by omega) (fun p' hp' hg => by
            rcases Nat.lt_or_ge p' p with z | z
            · exact q p' z hg
            · have : p' = p := by omega
              subst this; exact absurd hg g)
        rw [gcnt_n g] at this
        exact this
  rw [e71]
  simp (disch := omega) only [w71_0, w71_1, w71_2, w71_3, w71_5, w71_6, w71_9, w71_10, w71_13, w71_14, w71_15, w71_17, w71_18, w71_19, w71_21, w71_22, w71_25, w71_28, w71_29, w71_30, w71_33, w71_35, w71_36, w71_38, w71_39, w71_40, w71_41, w71_43, w71_44, w71_45, w71_46, w71_49, w71_52, w71_55, w71_57, ma_kV_ap, ma_kC_s, ma_kC_n, ma_kH_ap, ma_gf_ap, ma_pf_ap, ma_cv_ap, ma_nt_0, ma_nt_s, ma_if_t, ma_if_f, ma_set_s, ma_set_ss, ma_set_2, ma_cat_n, ma_cat_i, ma_cat_l, ma_cat_r, ma_clr_n, ma_clr_i, ma_clr_l, ma_clr_r, ma_clr_0, ma_rf_s, ma_rf_n, ma_ial_ap, ma_ias_ap, List.set_cons_zero, List.set_cons_succ, List.length_cons, List.length_nil, Nat.reduceAdd, Nat.reduceLT, Nat.reduceLeDiff, Nat.le_refl, true_and, and_true, Nat.lt_add_one, fa_lit, nI_add, pk_mul, pk_sub, pk_div, ma_rem_n, nI_ltI, nI_leI, nI_eq, Nat.reduceEqDiff, Nat.reduceMul, Nat.reduceSub, not_false_eq_true, not_true_eq_false, or_true, true_or, or_false, false_or, eq_self, Nat.zero_add, Nat.add_zero]
  exact loop _ 0 rfl (Nat.zero_le _) (fun p hp => by omega)
end AL

/-! which kinds fit, the next look: as mathematics, and the class Guess -/
theorem nI_or (a b : Nat) : nI a ||| nI b = nI (a ||| b) := by
  apply Int32.toBitVec_inj.1
  show BitVec.ofNat 32 a ||| BitVec.ofNat 32 b = BitVec.ofNat 32 (a ||| b)
  apply BitVec.eq_of_getLsbD_eq
  intro i hi
  simp [hi]
theorem shl1 : ∀ k, k < 6 → nI 1 <<< (nI k &&& nI 31) = nI (2 ^ k) := by decide +kernel
theorem shr1 : ∀ b, b < 64 → ∀ k, k < 6 → (nI b >>> (nI k &&& nI 31)) &&& nI 1 = nI (b / 2 ^ k % 2) := by decide +kernel
noncomputable def gset (P : Nat → Prop) : Nat → Nat
  | 0 => 0
  | k + 1 => by classical exact if P k then gset P k + 2 ^ k else gset P k
theorem gset_y {P : Nat → Prop} {k : Nat} (h : P k) : gset P (k + 1) = gset P k + 2 ^ k := if_pos h
theorem gset_n {P : Nat → Prop} {k : Nat} (h : ¬ P k) : gset P (k + 1) = gset P k := if_neg h
theorem gset_lt {P : Nat → Prop} : ∀ k, gset P k < 2 ^ k
  | 0 => by show 0 < 1; decide
  | k + 1 => by
    have := gset_lt (P := P) k
    rw [Nat.pow_succ]
    by_cases h : P k
    · rw [gset_y h]; omega
    · rw [gset_n h]; omega
theorem gset_or {P : Nat → Prop} {k : Nat} (h : P k) : nI (gset P k) ||| nI (2 ^ k) = nI (gset P (k + 1)) := by
  rw [nI_or, gset_y h, Nat.or_comm]
  refine congrArg nI ?_
  have := or2 (a := 1) (gset_lt (P := P) k)
  rw [Nat.mul_one] at this
  omega
theorem pow6 {k : Nat} (h : k ≤ 6) : 2 ^ k ≤ 64 := Nat.pow_le_pow_right (by decide) h
def ghas (b k : Nat) : Prop := b / 2 ^ k % 2 = 1
noncomputable def gin (b : Nat) (F : Nat → Nat) (a : Nat) : Nat → Nat
  | 0 => 0
  | o + 1 => by classical exact gin b F a o + if ghas b a ∧ ghas b o ∧ F a = F o then 1 else 0
noncomputable def gmo (b : Nat) (F : Nat → Nat) : Nat → Nat
  | 0 => 0
  | a + 1 => if gmo b F a < gin b F a 6 then gin b F a 6 else gmo b F a
theorem gin_y {b a o : Nat} {F : Nat → Nat} (h : ghas b a ∧ ghas b o ∧ F a = F o) : gin b F a (o + 1) = gin b F a o + 1 := by
  show gin b F a o + _ = _; rw [if_pos h]
theorem gin_n {b a o : Nat} {F : Nat → Nat} (h : ¬ (ghas b a ∧ ghas b o ∧ F a = F o)) : gin b F a (o + 1) = gin b F a o := by
  show gin b F a o + _ = _; rw [if_neg h]; rfl
theorem gin_le {b a : Nat} {F : Nat → Nat} : ∀ o, gin b F a o ≤ o
  | 0 => Nat.le_refl _
  | o + 1 => by
    have := gin_le (b := b) (a := a) (F := F) o
    by_cases h : ghas b a ∧ ghas b o ∧ F a = F o
    · rw [gin_y h]; omega
    · rw [gin_n h]; omega
theorem gmo_s {b a : Nat} {F : Nat → Nat} : gmo b F (a + 1) = if gmo b F a < gin b F a 6 then gin b F a 6 else gmo b F a := rfl
theorem gmo_le {b : Nat} {F : Nat → Nat} : ∀ a, gmo b F a ≤ 6
  | 0 => Nat.zero_le _
  | a + 1 => by
    have h1 := gmo_le (b := b) (F := F) a
    have h2 := gin_le (b := b) (a := a) (F := F) 6
    rw [gmo_s]
    split <;> omega
noncomputable def glk (A : Nat → Nat) (lo : Nat) : Nat → Option Nat × Nat
  | 0 => (none, 7)
  | c + 1 => if A (lo + c) < (glk A lo c).2 then (some (lo + c), A (lo + c)) else glk A lo c
theorem glk_s {A : Nat → Nat} {lo c : Nat} : glk A lo (c + 1) = if A (lo + c) < (glk A lo c).2 then (some (lo + c), A (lo + c)) else glk A lo c := rfl
theorem glk_le {A : Nat → Nat} {lo : Nat} : ∀ c, (glk A lo c).2 ≤ 7
  | 0 => Nat.le_refl _
  | c + 1 => by
    have := glk_le (A := A) (lo := lo) c
    rw [glk_s]
    split
    · show A (lo + c) ≤ 7; omega
    · exact this
theorem glk_skip {A : Nat → Nat} {lo c : Nat} : ∀ k, (∀ j, j < k → A (lo + c + j) = 7) → glk A lo (c + k) = glk A lo c
  | 0, _ => rfl
  | k + 1, h => by
    rw [← Nat.add_assoc, glk_s, if_neg]
    · exact glk_skip k (fun j hj => h j (by omega))
    · have := glk_le (A := A) (lo := lo) (c + k)
      have h2 := h k (by omega)
      rw [Nat.add_assoc] at h2
      omega
def vO (o : Option Nat) : Int32 := match o with | none => -nI 1 | some n => nI n
section GU
variable {d b : Nat} {H : ma_H} {Q : ma_P} {l : List gSe}
theorem u_cardKinds (hO : seOK l) (hP : seP H b l) (h : Q (some (.int (nI (gset (fun k => gOwed k l) 6)))) H) : ma_MW (d + 3) 195 [.ref b] H Q := by
  have h0 := seP_cl hP
  have loop : ∀ c k, 6 - k = c → k ≤ 6 → ma_W (d + 2) 195 Q 4 [some (.ref b), some (.int (nI (gset (fun k => gOwed k l) k))), some (.int (nI k))] [] H 0 0 := by
    intro c
    induction c with
    | zero =>
      intro k e1 e2
      have ek : k = 6 := by omega
      subst ek
      simp (disch := omega) only [w195_0, w195_1, w195_2, w195_3, w195_4, w195_5, w195_7, w195_10, w195_11, w195_12, w195_15, w195_18, w195_19, w195_20, w195_21, w195_22, w195_23, w195_24, w195_27, w195_30, w195_31, ma_kV_ap, ma_kC_s, ma_kC_n, ma_kH_ap, ma_gf_ap, ma_pf_ap, ma_cv_ap, ma_nt_0, ma_nt_s, ma_if_t, ma_if_f, ma_set_s, ma_set_ss, ma_set_2, ma_cat_n, ma_cat_i, ma_cat_l, ma_cat_r, ma_clr_n, ma_clr_i, ma_clr_l, ma_clr_r, ma_clr_0, ma_rf_s, ma_rf_n, ma_ial_ap, ma_ias_ap, List.set_cons_zero, List.set_cons_succ, List.length_cons, List.length_nil, Nat.reduceAdd, Nat.reduceLT, Nat.reduceLeDiff, Nat.le_refl, true_and, and_true, Nat.lt_add_one, fa_lit, nI_add, pk_mul, pk_sub, pk_div, ma_rem_n, nI_ltI, nI_leI, nI_eq, Nat.reduceEqDiff, Nat.reduceMul, Nat.reduceSub, not_false_eq_true, not_true_eq_false, or_true, true_or, or_false, false_or, eq_self, Nat.zero_add, Nat.add_zero]
      exact h
    | succ c ih =>
      intro k e1 e2
      have hc : (6 ≤ k) = False := eq_false (by omega)
      have es := shl1 k (by omega)
      simp (disch := omega) only [w195_0, w195_1, w195_2, w195_3, w195_4, w195_5, w195_7, w195_10, w195_11, w195_12, w195_15, w195_18, w195_19, w195_20, w195_21, w195_22, w195_23, w195_24, w195_27, w195_30, w195_31, ma_kV_ap, ma_kC_s, ma_kC_n, ma_kH_ap, ma_gf_ap, ma_pf_ap, ma_cv_ap, ma_nt_0, ma_nt_s, ma_if_t, ma_if_f, ma_set_s, ma_set_ss, ma_set_2, ma_cat_n, ma_cat_i, ma_cat_l, ma_cat_r, ma_clr_n, ma_clr_i, ma_clr_l, ma_clr_r, ma_clr_0, ma_rf_s, ma_rf_n, ma_ial_ap, ma_ias_ap, List.set_cons_zero, List.set_cons_succ, List.length_cons, List.length_nil, Nat.reduceAdd, Nat.reduceLT, Nat.reduceLeDiff, Nat.le_refl, true_and, and_true, Nat.lt_add_one, fa_lit, nI_add, pk_mul, pk_sub, pk_div, ma_rem_n, nI_ltI, nI_leI, nI_eq, Nat.reduceEqDiff, Nat.reduceMul, Nat.reduceSub, not_false_eq_true, not_true_eq_false, or_true, true_or, or_false, false_or, eq_self, Nat.zero_add, Nat.add_zero, hc, h0]
      refine s_allOwed (by omega) hO hP (fun g => ?_) (fun g => ?_)
      · have eo := gset_or (P := fun k => gOwed k l) (k := k) g
        simp (disch := omega) only [w195_0, w195_1, w195_2, w195_3, w195_5, w195_7, w195_10, w195_11, w195_12, w195_15, w195_18, w195_19, w195_20, w195_21, w195_22, w195_23, w195_24, w195_27, w195_30, w195_31, ma_kV_ap, ma_kC_s, ma_kC_n, ma_kH_ap, ma_gf_ap, ma_pf_ap, ma_cv_ap, ma_nt_0, ma_nt_s, ma_if_t, ma_if_f, ma_set_s, ma_set_ss, ma_set_2, ma_cat_n, ma_cat_i, ma_cat_l, ma_cat_r, ma_clr_n, ma_clr_i, ma_clr_l, ma_clr_r, ma_clr_0, ma_rf_s, ma_rf_n, ma_ial_ap, ma_ias_ap, List.set_cons_zero, List.set_cons_succ, List.length_cons, List.length_nil, Nat.reduceAdd, Nat.reduceLT, Nat.reduceLeDiff, Nat.le_refl, true_and, and_true, Nat.lt_add_one, fa_lit, nI_add, pk_mul, pk_sub, pk_div, ma_rem_n, nI_ltI, nI_leI, nI_eq, Nat.reduceEqDiff, Nat.reduceMul, Nat.reduceSub, not_false_eq_true, not_true_eq_false, or_true, true_or, or_false, false_or, eq_self, Nat.zero_add, Nat.add_zero, es, eo]
        exact ih (k + 1) (by omega) (by omega)
      · simp (disch := omega) only [w195_0, w195_1, w195_2, w195_3, w195_5, w195_7, w195_10, w195_11, w195_12, w195_15, w195_18, w195_19, w195_20, w195_21, w195_22, w195_23, w195_24, w195_27, w195_30, w195_31, ma_kV_ap, ma_kC_s, ma_kC_n, ma_kH_ap, ma_gf_ap, ma_pf_ap, ma_cv_ap, ma_nt_0, ma_nt_s, ma_if_t, ma_if_f, ma_set_s, ma_set_ss, ma_set_2, ma_cat_n, ma_cat_i, ma_cat_l, ma_cat_r, ma_clr_n, ma_clr_i, ma_clr_l, ma_clr_r, ma_clr_0, ma_rf_s, ma_rf_n, ma_ial_ap, ma_ias_ap, List.set_cons_zero, List.set_cons_succ, List.length_cons, List.length_nil, Nat.reduceAdd, Nat.reduceLT, Nat.reduceLeDiff, Nat.le_refl, true_and, and_true, Nat.lt_add_one, fa_lit, nI_add, pk_mul, pk_sub, pk_div, ma_rem_n, nI_ltI, nI_leI, nI_eq, Nat.reduceEqDiff, Nat.reduceMul, Nat.reduceSub, not_false_eq_true, not_true_eq_false, or_true, true_or, or_false, false_or, eq_self, Nat.zero_add, Nat.add_zero]
        have := ih (k + 1) (by omega) (by omega)
        rw [gset_n (P := fun k => gOwed k l) g] at this
        exact this
  rw [e195]
  simp (disch := omega) only [w195_0, w195_1, w195_2, w195_3, w195_5, w195_7, w195_10, w195_11, w195_12, w195_15, w195_18, w195_19, w195_20, w195_21, w195_22, w195_23, w195_24, w195_27, w195_30, w195_31, ma_kV_ap, ma_kC_s, ma_kC_n, ma_kH_ap, ma_gf_ap, ma_pf_ap, ma_cv_ap, ma_nt_0, ma_nt_s, ma_if_t, ma_if_f, ma_set_s, ma_set_ss, ma_set_2, ma_cat_n, ma_cat_i, ma_cat_l, ma_cat_r, ma_clr_n, ma_clr_i, ma_clr_l, ma_clr_r, ma_clr_0, ma_rf_s, ma_rf_n, ma_ial_ap, ma_ias_ap, List.set_cons_zero, List.set_cons_succ, List.length_cons, List.length_nil, Nat.reduceAdd, Nat.reduceLT, Nat.reduceLeDiff, Nat.le_refl, true_and, and_true, Nat.lt_add_one, fa_lit, nI_add, pk_mul, pk_sub, pk_div, ma_rem_n, nI_ltI, nI_leI, nI_eq, Nat.reduceEqDiff, Nat.reduceMul, Nat.reduceSub, not_false_eq_true, not_true_eq_false, or_true, true_or, or_false, false_or, eq_self, Nat.zero_add, Nat.add_zero]
  exact loop _ 0 rfl (Nat.zero_le _)
theorem u_playerKinds {p : Nat} (hp : p < 2) (hO : seOK l) (hP : seP H b l) (h : Q (some (.int (nI (gset (fun k => gCame k p l) 6)))) H) : ma_MW (d + 4) 196 [.ref b, .int (nI p)] H Q := by
  have h0 := seP_cl hP
  have loop : ∀ c k, 6 - k = c → k ≤ 6 → ma_W (d + 3) 196 Q 4 [some (.ref b), some (.int (nI p)), some (.int (nI (gset (fun k => gCame k p l) k))), some (.int (nI k))] [] H 0 0 := by
    intro c
    induction c with
    | zero =>
      intro k e1 e2
      have ek : k = 6 := by omega
      subst ek
      simp (disch := omega) only [w196_0, w196_1, w196_2, w196_3, w196_4, w196_5, w196_7, w196_10, w196_11, w196_12, w196_13, w196_16, w196_19, w196_20, w196_21, w196_22, w196_23, w196_24, w196_25, w196_28, w196_31, w196_32, ma_kV_ap, ma_kC_s, ma_kC_n, ma_kH_ap, ma_gf_ap, ma_pf_ap, ma_cv_ap, ma_nt_0, ma_nt_s, ma_if_t, ma_if_f, ma_set_s, ma_set_ss, ma_set_2, ma_cat_n, ma_cat_i, ma_cat_l, ma_cat_r, ma_clr_n, ma_clr_i, ma_clr_l, ma_clr_r, ma_clr_0, ma_rf_s, ma_rf_n, ma_ial_ap, ma_ias_ap, List.set_cons_zero, List.set_cons_succ, List.length_cons, List.length_nil, Nat.reduceAdd, Nat.reduceLT, Nat.reduceLeDiff, Nat.le_refl, true_and, and_true, Nat.lt_add_one, fa_lit, nI_add, pk_mul, pk_sub, pk_div, ma_rem_n, nI_ltI, nI_leI, nI_eq, Nat.reduceEqDiff, Nat.reduceMul, Nat.reduceSub, not_false_eq_true, not_true_eq_false, or_true, true_or, or_false, false_or, eq_self, Nat.zero_add, Nat.add_zero]
      exact h
    | succ c ih =>
      intro k e1 e2
      have hc : (6 ≤ k) = False := eq_false (by omega)
      have es := shl1 k (by omega)
      simp (disch := omega) only [w196_0, w196_1, w196_2, w196_3, w196_4, w196_5, w196_7, w196_10, w196_11, w196_12, w196_13, w196_16, w196_19, w196_20, w196_21, w196_22, w196_23, w196_24, w196_25, w196_28, w196_31, w196_32, ma_kV_ap, ma_kC_s, ma_kC_n, ma_kH_ap, ma_gf_ap, ma_pf_ap, ma_cv_ap, ma_nt_0, ma_nt_s, ma_if_t, ma_if_f, ma_set_s, ma_set_ss, ma_set_2, ma_cat_n, ma_cat_i, ma_cat_l, ma_cat_r, ma_clr_n, ma_clr_i, ma_clr_l, ma_clr_r, ma_clr_0, ma_rf_s, ma_rf_n, ma_ial_ap, ma_ias_ap, List.set_cons_zero, List.set_cons_succ, List.length_cons, List.length_nil, Nat.reduceAdd, Nat.reduceLT, Nat.reduceLeDiff, Nat.le_refl, true_and, and_true, Nat.lt_add_one, fa_lit, nI_add, pk_mul, pk_sub, pk_div, ma_rem_n, nI_ltI, nI_leI, nI_eq, Nat.reduceEqDiff, Nat.reduceMul, Nat.reduceSub, not_false_eq_true, not_true_eq_false, or_true, true_or, or_false, false_or, eq_self, Nat.zero_add, Nat.add_zero, hc, h0]
      refine s_allCame (by omega) hp hO hP (fun g => ?_) (fun g => ?_)
      · have eo := gset_or (P := fun k => gCame k p l) (k := k) g
        simp (disch := omega) only [w196_0, w196_1, w196_2, w196_3, w196_5, w196_7, w196_10, w196_11, w196_12, w196_13, w196_16, w196_19, w196_20, w196_21, w196_22, w196_23, w196_24, w196_25, w196_28, w196_31, w196_32, ma_kV_ap, ma_kC_s, ma_kC_n, ma_kH_ap, ma_gf_ap, ma_pf_ap, ma_cv_ap, ma_nt_0, ma_nt_s, ma_if_t, ma_if_f, ma_set_s, ma_set_ss, ma_set_2, ma_cat_n, ma_cat_i, ma_cat_l, ma_cat_r, ma_clr_n, ma_clr_i, ma_clr_l, ma_clr_r, ma_clr_0, ma_rf_s, ma_rf_n, ma_ial_ap, ma_ias_ap, List.set_cons_zero, List.set_cons_succ, List.length_cons, List.length_nil, Nat.reduceAdd, Nat.reduceLT, Nat.reduceLeDiff, Nat.le_refl, true_and, and_true, Nat.lt_add_one, fa_lit, nI_add, pk_mul, pk_sub, pk_div, ma_rem_n, nI_ltI, nI_leI, nI_eq, Nat.reduceEqDiff, Nat.reduceMul, Nat.reduceSub, not_false_eq_true, not_true_eq_false, or_true, true_or, or_false, false_or, eq_self, Nat.zero_add, Nat.add_zero, es, eo]
        exact ih (k + 1) (by omega) (by omega)
      · simp (disch := omega) only [w196_0, w196_1, w196_2, w196_3, w196_5, w196_7, w196_10, w196_11, w196_12, w196_13, w196_16, w196_19, w196_20, w196_21, w196_22, w196_23, w196_24, w196_25, w196_28, w196_31, w196_32, ma_kV_ap, ma_kC_s, ma_kC_n, ma_kH_ap, ma_gf_ap, ma_pf_ap, ma_cv_ap, ma_nt_0, ma_nt_s, ma_if_t, ma_if_f, ma_set_s, ma_set_ss, ma_set_2, ma_cat_n, ma_cat_i, ma_cat_l, ma_cat_r, ma_clr_n, ma_clr_i, ma_clr_l, ma_clr_r, ma_clr_0, ma_rf_s, ma_rf_n, ma_ial_ap, ma_ias_ap, List.set_cons_zero, List.set_cons_succ, List.length_cons, List.length_nil, Nat.reduceAdd, Nat.reduceLT, Nat.reduceLeDiff, Nat.le_refl, true_and, and_true, Nat.lt_add_one, fa_lit, nI_add, pk_mul, pk_sub, pk_div, ma_rem_n, nI_ltI, nI_leI, nI_eq, Nat.reduceEqDiff, Nat.reduceMul, Nat.reduceSub, not_false_eq_true, not_true_eq_false, or_true, true_or, or_false, false_or, eq_self, Nat.zero_add, Nat.add_zero]
        have := ih (k + 1) (by omega) (by omega)
        rw [gset_n (P := fun k => gCame k p l) g] at this
        exact this
  rw [e196]
  simp (disch := omega) only [w196_0, w196_1, w196_2, w196_3, w196_5, w196_7, w196_10, w196_11, w196_12, w196_13, w196_16, w196_19, w196_20, w196_21, w196_22, w196_23, w196_24, w196_25, w196_28, w196_31, w196_32, ma_kV_ap, ma_kC_s, ma_kC_n, ma_kH_ap, ma_gf_ap, ma_pf_ap, ma_cv_ap, ma_nt_0, ma_nt_s, ma_if_t, ma_if_f, ma_set_s, ma_set_ss, ma_set_2, ma_cat_n, ma_cat_i, ma_cat_l, ma_cat_r, ma_clr_n, ma_clr_i, ma_clr_l, ma_clr_r, ma_clr_0, ma_rf_s, ma_rf_n, ma_ial_ap, ma_ias_ap, List.set_cons_zero, List.set_cons_succ, List.length_cons, List.length_nil, Nat.reduceAdd, Nat.reduceLT, Nat.reduceLeDiff, Nat.le_refl, true_and, and_true, Nat.lt_add_one, fa_lit, nI_add, pk_mul, pk_sub, pk_div, ma_rem_n, nI_ltI, nI_leI, nI_eq, Nat.reduceEqDiff, Nat.reduceMul, Nat.reduceSub, not_false_eq_true, not_true_eq_false, or_true, true_or, or_false, false_or, eq_self, Nat.zero_add, Nat.add_zero]
  exact loop _ 0 rfl (Nat.zero_le _)
theorem u_holds {s k : Nat} (hs : s < 64) (hk : k < 6) (h1 : ghas s k → Q (some (.int (nI 1))) H) (h0 : ¬ ghas s k → Q (some (.int (nI 0))) H) : ma_MW (d + 1) 199 [.int (nI s), .int (nI k)] H Q := by
  have es := shr1 s hs k hk
  have hl : s / 2 ^ k % 2 < 2 := Nat.mod_lt _ (by decide)
  rw [e199]
  simp (disch := omega) only [w199_0, w199_1, w199_2, w199_3, w199_4, w199_5, w199_6, w199_10, w199_14, ma_kV_ap, ma_kC_s, ma_kC_n, ma_kH_ap, ma_gf_ap, ma_pf_ap, ma_cv_ap, ma_nt_0, ma_nt_s, ma_if_t, ma_if_f, ma_set_s, ma_set_ss, ma_set_2, ma_cat_n, ma_cat_i, ma_cat_l, ma_cat_r, ma_clr_n, ma_clr_i, ma_clr_l, ma_clr_r, ma_clr_0, ma_rf_s, ma_rf_n, ma_ial_ap, ma_ias_ap, List.set_cons_zero, List.set_cons_succ, List.length_cons, List.length_nil, Nat.reduceAdd, Nat.reduceLT, Nat.reduceLeDiff, Nat.le_refl, true_and, and_true, Nat.lt_add_one, fa_lit, nI_add, pk_mul, pk_sub, pk_div, ma_rem_n, nI_ltI, nI_leI, nI_eq, Nat.reduceEqDiff, Nat.reduceMul, Nat.reduceSub, not_false_eq_true, not_true_eq_false, or_true, true_or, or_false, false_or, eq_self, Nat.zero_add, Nat.add_zero, es]
  refine ⟨fun e => ?_, fun e => ?_⟩
  · simp (disch := omega) only [w199_0, w199_1, w199_2, w199_3, w199_4, w199_5, w199_6, w199_9, w199_10, w199_13, w199_14, ma_kV_ap, ma_kC_s, ma_kC_n, ma_kH_ap, ma_gf_ap, ma_pf_ap, ma_cv_ap, ma_nt_0, ma_nt_s, ma_if_t, ma_if_f, ma_set_s, ma_set_ss, ma_set_2, ma_cat_n, ma_cat_i, ma_cat_l, ma_cat_r, ma_clr_n, ma_clr_i, ma_clr_l, ma_clr_r, ma_clr_0, ma_rf_s, ma_rf_n, ma_ial_ap, ma_ias_ap, List.set_cons_zero, List.set_cons_succ, List.length_cons, List.length_nil, Nat.reduceAdd, Nat.reduceLT, Nat.reduceLeDiff, Nat.le_refl, true_and, and_true, Nat.lt_add_one, fa_lit, nI_add, pk_mul, pk_sub, pk_div, ma_rem_n, nI_ltI, nI_leI, nI_eq, Nat.reduceEqDiff, Nat.reduceMul, Nat.reduceSub, not_false_eq_true, not_true_eq_false, or_true, true_or, or_false, false_or, eq_self, Nat.zero_add, Nat.add_zero]
    exact h1 e
  · simp (disch := omega) only [w199_0, w199_1, w199_2, w199_3, w199_4, w199_5, w199_6, w199_9, w199_10, w199_13, w199_14, ma_kV_ap, ma_kC_s, ma_kC_n, ma_kH_ap, ma_gf_ap, ma_pf_ap, ma_cv_ap, ma_nt_0, ma_nt_s, ma_if_t, ma_if_f, ma_set_s, ma_set_ss, ma_set_2, ma_cat_n, ma_cat_i, ma_cat_l, ma_cat_r, ma_clr_n, ma_clr_i, ma_clr_l, ma_clr_r, ma_clr_0, ma_rf_s, ma_rf_n, ma_ial_ap, ma_ias_ap, List.set_cons_zero, List.set_cons_succ, List.length_cons, List.length_nil, Nat.reduceAdd, Nat.reduceLT, Nat.reduceLeDiff, Nat.le_refl, true_and, and_true, Nat.lt_add_one, fa_lit, nI_add, pk_mul, pk_sub, pk_div, ma_rem_n, nI_ltI, nI_leI, nI_eq, Nat.reduceEqDiff, Nat.reduceMul, Nat.reduceSub, not_false_eq_true, not_true_eq_false, or_true, true_or, or_false, false_or, eq_self, Nat.zero_add, Nat.add_zero]
    exact h0 e
theorem u_owed {s n : Nat} (hs : s < 64) (hn : n < 100) (h : Q (some (.int (nI (gmo s (fun k => go k n) 6)))) H) : ma_MW (d + 2) 200 [.int (nI s), .int (nI n)] H Q := by
  have hin : ∀ a, a < 6 → (∀ o4 o5, ma_W (d + 1) 200 Q 4 [some (.int (nI s)), some (.int (nI n)), some (.int (nI (gmo s (fun k => go k n) (a + 1)))), some (.int (nI (a + 1))), o4, o5] [] H 0 0) → ∀ c o, 6 - o = c → o ≤ 6 → ma_W (d + 1) 200 Q 16 [some (.int (nI s)), some (.int (nI n)), some (.int (nI (gmo s (fun k => go k n) a))), some (.int (nI a)), some (.int (nI (gin s (fun k => go k n) a o))), some (.int (nI o))] [] H 0 0 := by
    intro a ha nxt c
    have hm := gmo_le (b := s) (F := fun k => go k n) a
    induction c with
    | zero =>
      intro o e1 e2
      have eo : o = 6 := by omega
      subst eo
      have hi := gin_le (b := s) (a := a) (F := fun k => go k n) 6
      have ei : ∀ x y : Nat, (if x < y then nI y else nI x) = nI (if x < y then y else x) := fun x y => by split <;> rfl
      have nx := nxt (some (.int (nI (gin s (fun k => go k n) a 6)))) (some (.int (nI 6)))
      rw [gmo_s] at nx
      simp (disch := omega) only [w200_0, w200_1, w200_2, w200_3, w200_5, w200_7, w200_10, w200_11, w200_13, w200_14, w200_16, w200_18, w200_20, w200_23, w200_24, w200_25, w200_28, w200_31, w200_32, w200_34, w200_37, w200_40, w200_41, w200_42, w200_45, w200_47, w200_48, w200_51, w200_54, w200_57, w200_60, w200_63, w200_64, w200_66, w200_69, w200_70, w200_73, w200_76, w200_77, ma_kV_ap, ma_kC_s, ma_kC_n, ma_kH_ap, ma_gf_ap, ma_pf_ap, ma_cv_ap, ma_nt_0, ma_nt_s, ma_if_t, ma_if_f, ma_set_s, ma_set_ss, ma_set_2, ma_cat_n, ma_cat_i, ma_cat_l, ma_cat_r, ma_clr_n, ma_clr_i, ma_clr_l, ma_clr_r, ma_clr_0, ma_rf_s, ma_rf_n, ma_ial_ap, ma_ias_ap, List.set_cons_zero, List.set_cons_succ, List.length_cons, List.length_nil, Nat.reduceAdd, Nat.reduceLT, Nat.reduceLeDiff, Nat.le_refl, true_and, and_true, Nat.lt_add_one, fa_lit, nI_add, pk_mul, pk_sub, pk_div, ma_rem_n, nI_ltI, nI_leI, nI_eq, Nat.reduceEqDiff, Nat.reduceMul, Nat.reduceSub, not_false_eq_true, not_true_eq_false, or_true, true_or, or_false, false_or, eq_self, Nat.zero_add, Nat.add_zero, ei]
      exact nx
    | succ c ih =>
      intro o e1 e2
      have hc : (6 ≤ o) = False := eq_false (by omega)
      have hle := gin_le (b := s) (a := a) (F := fun k => go k n) o
      have nx := ih (o + 1) (by omega) (by omega)
      have g1 := go_lt a n
      have g2 := go_lt o n
      simp (disch := omega) only [w200_0, w200_1, w200_2, w200_3, w200_4, w200_5, w200_7, w200_10, w200_11, w200_13, w200_14, w200_16, w200_18, w200_20, w200_23, w200_24, w200_25, w200_28, w200_31, w200_32, w200_34, w200_37, w200_40, w200_41, w200_42, w200_45, w200_47, w200_48, w200_51, w200_54, w200_57, w200_60, w200_63, w200_64, w200_66, w200_69, w200_70, w200_73, w200_76, w200_77, ma_kV_ap, ma_kC_s, ma_kC_n, ma_kH_ap, ma_gf_ap, ma_pf_ap, ma_cv_ap, ma_nt_0, ma_nt_s, ma_if_t, ma_if_f, ma_set_s, ma_set_ss, ma_set_2, ma_cat_n, ma_cat_i, ma_cat_l, ma_cat_r, ma_clr_n, ma_clr_i, ma_clr_l, ma_clr_r, ma_clr_0, ma_rf_s, ma_rf_n, ma_ial_ap, ma_ias_ap, List.set_cons_zero, List.set_cons_succ, List.length_cons, List.length_nil, Nat.reduceAdd, Nat.reduceLT, Nat.reduceLeDiff, Nat.le_refl, true_and, and_true, Nat.lt_add_one, fa_lit, nI_add, pk_mul, pk_sub, pk_div, ma_rem_n, nI_ltI, nI_leI, nI_eq, Nat.reduceEqDiff, Nat.reduceMul, Nat.reduceSub, not_false_eq_true, not_true_eq_false, or_true, true_or, or_false, false_or, eq_self, Nat.zero_add, Nat.add_zero, hc]
      refine u_holds hs ha (fun ya => ?_) (fun na => ?_)
      · simp (disch := omega) only [w200_0, w200_1, w200_2, w200_3, w200_4, w200_5, w200_7, w200_10, w200_11, w200_13, w200_14, w200_16, w200_18, w200_20, w200_23, w200_24, w200_25, w200_28, w200_31, w200_32, w200_34, w200_37, w200_40, w200_41, w200_42, w200_45, w200_47, w200_48, w200_51, w200_54, w200_57, w200_60, w200_63, w200_64, w200_66, w200_69, w200_70, w200_73, w200_76, w200_77, ma_kV_ap, ma_kC_s, ma_kC_n, ma_kH_ap, ma_gf_ap, ma_pf_ap, ma_cv_ap, ma_nt_0, ma_nt_s, ma_if_t, ma_if_f, ma_set_s, ma_set_ss, ma_set_2, ma_cat_n, ma_cat_i, ma_cat_l, ma_cat_r, ma_clr_n, ma_clr_i, ma_clr_l, ma_clr_r, ma_clr_0, ma_rf_s, ma_rf_n, ma_ial_ap, ma_ias_ap, List.set_cons_zero, List.set_cons_succ, List.length_cons, List.length_nil, Nat.reduceAdd, Nat.reduceLT, Nat.reduceLeDiff, Nat.le_refl, true_and, and_true, Nat.lt_add_one, fa_lit, nI_add, pk_mul, pk_sub, pk_div, ma_rem_n, nI_ltI, nI_leI, nI_eq, Nat.reduceEqDiff, Nat.reduceMul, Nat.reduceSub, not_false_eq_true, not_true_eq_false, or_true, true_or, or_false, false_or, eq_self, Nat.zero_add, Nat.add_zero]
        refine u_holds hs (by omega) (fun yo => ?_) (fun no => ?_)
        · simp (disch := omega) only [w200_0, w200_1, w200_2, w200_3, w200_4, w200_5, w200_7, w200_10, w200_11, w200_13, w200_14, w200_16, w200_18, w200_20, w200_23, w200_24, w200_25, w200_28, w200_31, w200_32, w200_34, w200_37, w200_40, w200_41, w200_42, w200_45, w200_47, w200_48, w200_51, w200_54, w200_57, w200_60, w200_63, w200_64, w200_66, w200_69, w200_70, w200_73, w200_76, w200_77, ma_kV_ap, ma_kC_s, ma_kC_n, ma_kH_ap, ma_gf_ap, ma_pf_ap, ma_cv_ap, ma_nt_0, ma_nt_s, ma_if_t, ma_if_f, ma_set_s, ma_set_ss, ma_set_2, ma_cat_n, ma_cat_i, ma_cat_l, ma_cat_r, ma_clr_n, ma_clr_i, ma_clr_l, ma_clr_r, ma_clr_0, ma_rf_s, ma_rf_n, ma_ial_ap, ma_ias_ap, List.set_cons_zero, List.set_cons_succ, List.length_cons, List.length_nil, Nat.reduceAdd, Nat.reduceLT, Nat.reduceLeDiff, Nat.le_refl, true_and, and_true, Nat.lt_add_one, fa_lit, nI_add, pk_mul, pk_sub, pk_div, ma_rem_n, nI_ltI, nI_leI, nI_eq, Nat.reduceEqDiff, Nat.reduceMul, Nat.reduceSub, not_false_eq_true, not_true_eq_false, or_true, true_or, or_false, false_or, eq_self, Nat.zero_add, Nat.add_zero]
          refine t_owedFor ha (by omega) ?_
          simp (disch := omega) only [w200_0, w200_1, w200_2, w200_3, w200_4, w200_5, w200_7, w200_10, w200_11, w200_13, w200_14, w200_16, w200_18, w200_20, w200_23, w200_24, w200_25, w200_28, w200_31, w200_32, w200_34, w200_37, w200_40, w200_41, w200_42, w200_45, w200_47, w200_48, w200_51, w200_54, w200_57, w200_60, w200_63, w200_64, w200_66, w200_69, w200_70, w200_73, w200_76, w200_77, ma_kV_ap, ma_kC_s, ma_kC_n, ma_kH_ap, ma_gf_ap, ma_pf_ap, ma_cv_ap, ma_nt_0, ma_nt_s, ma_if_t, ma_if_f, ma_set_s, ma_set_ss, ma_set_2, ma_cat_n, ma_cat_i, ma_cat_l, ma_cat_r, ma_clr_n, ma_clr_i, ma_clr_l, ma_clr_r, ma_clr_0, ma_rf_s, ma_rf_n, ma_ial_ap, ma_ias_ap, List.set_cons_zero, List.set_cons_succ, List.length_cons, List.length_nil, Nat.reduceAdd, Nat.reduceLT, Nat.reduceLeDiff, Nat.le_refl, true_and, and_true, Nat.lt_add_one, fa_lit, nI_add, pk_mul, pk_sub, pk_div, ma_rem_n, nI_ltI, nI_leI, nI_eq, Nat.reduceEqDiff, Nat.reduceMul, Nat.reduceSub, not_false_eq_true, not_true_eq_false, or_true, true_or, or_false, false_or, eq_self, Nat.zero_add, Nat.add_zero]
          refine t_owedFor (by omega) (by omega) ?_
          simp (disch := omega) only [w200_0, w200_1, w200_2, w200_3, w200_4, w200_5, w200_7, w200_10, w200_11, w200_13, w200_14, w200_16, w200_18, w200_20, w200_23, w200_24, w200_25, w200_28, w200_31, w200_32, w200_34, w200_37, w200_40, w200_41, w200_42, w200_45, w200_47, w200_48, w200_51, w200_60, w200_63, w200_64, w200_66, w200_69, w200_70, w200_73, w200_76, w200_77, ma_kV_ap, ma_kC_s, ma_kC_n, ma_kH_ap, ma_gf_ap, ma_pf_ap, ma_cv_ap, ma_nt_0, ma_nt_s, ma_if_t, ma_if_f, ma_set_s, ma_set_ss, ma_set_2, ma_cat_n, ma_cat_i, ma_cat_l, ma_cat_r, ma_clr_n, ma_clr_i, ma_clr_l, ma_clr_r, ma_clr_0, ma_rf_s, ma_rf_n, ma_ial_ap, ma_ias_ap, List.set_cons_zero, List.set_cons_succ, List.length_cons, List.length_nil, Nat.reduceAdd, Nat.reduceLT, Nat.reduceLeDiff, Nat.le_refl, true_and, and_true, Nat.lt_add_one, fa_lit, nI_add, pk_mul, pk_sub, pk_div, ma_rem_n, nI_ltI, nI_leI, nI_eq, Nat.reduceEqDiff, Nat.reduceMul, Nat.reduceSub, not_false_eq_true, not_true_eq_false, or_true, true_or, or_false, false_or, eq_self, Nat.zero_add, Nat.add_zero]
          refine ⟨fun e => ?_, fun e => ?_⟩
          · rw [gin_y (F := fun k => go k n) ⟨ya, yo, e⟩] at nx
            simp (disch := omega) only [w200_0, w200_1, w200_2, w200_3, w200_4, w200_5, w200_7, w200_10, w200_11, w200_13, w200_14, w200_18, w200_20, w200_23, w200_24, w200_25, w200_28, w200_31, w200_32, w200_34, w200_37, w200_40, w200_41, w200_42, w200_45, w200_47, w200_48, w200_51, w200_54, w200_57, w200_60, w200_63, w200_64, w200_66, w200_69, w200_70, w200_73, w200_76, w200_77, ma_kV_ap, ma_kC_s, ma_kC_n, ma_kH_ap, ma_gf_ap, ma_pf_ap, ma_cv_ap, ma_nt_0, ma_nt_s, ma_if_t, ma_if_f, ma_set_s, ma_set_ss, ma_set_2, ma_cat_n, ma_cat_i, ma_cat_l, ma_cat_r, ma_clr_n, ma_clr_i, ma_clr_l, ma_clr_r, ma_clr_0, ma_rf_s, ma_rf_n, ma_ial_ap, ma_ias_ap, List.set_cons_zero, List.set_cons_succ, List.length_cons, List.length_nil, Nat.reduceAdd, Nat.reduceLT, Nat.reduceLeDiff, Nat.le_refl, true_and, and_true, Nat.lt_add_one, fa_lit, nI_add, pk_mul, pk_sub, pk_div, ma_rem_n, nI_ltI, nI_leI, nI_eq, Nat.reduceEqDiff, Nat.reduceMul, Nat.reduceSub, not_false_eq_true, not_true_eq_false, or_true, true_or, or_false, false_or, eq_self, Nat.zero_add, Nat.add_zero]
            exact nx
          · rw [gin_n (F := fun k => go k n) (fun z => e z.2.2)] at nx
            simp (disch := omega) only [w200_0, w200_1, w200_2, w200_3, w200_4, w200_5, w200_7, w200_10, w200_11, w200_13, w200_14, w200_18, w200_20, w200_23, w200_24, w200_25, w200_28, w200_31, w200_32, w200_34, w200_37, w200_40, w200_41, w200_42, w200_45, w200_47, w200_48, w200_51, w200_54, w200_57, w200_60, w200_63, w200_64, w200_66, w200_69, w200_70, w200_73, w200_76, w200_77, ma_kV_ap, ma_kC_s, ma_kC_n, ma_kH_ap, ma_gf_ap, ma_pf_ap, ma_cv_ap, ma_nt_0, ma_nt_s, ma_if_t, ma_if_f, ma_set_s, ma_set_ss, ma_set_2, ma_cat_n, ma_cat_i, ma_cat_l, ma_cat_r, ma_clr_n, ma_clr_i, ma_clr_l, ma_clr_r, ma_clr_0, ma_rf_s, ma_rf_n, ma_ial_ap, ma_ias_ap, List.set_cons_zero, List.set_cons_succ, List.length_cons, List.length_nil, Nat.reduceAdd, Nat.reduceLT, Nat.reduceLeDiff, Nat.le_refl, true_and, and_true, Nat.lt_add_one, fa_lit, nI_add, pk_mul, pk_sub, pk_div, ma_rem_n, nI_ltI, nI_leI, nI_eq, Nat.reduceEqDiff, Nat.reduceMul, Nat.reduceSub, not_false_eq_true, not_true_eq_false, or_true, true_or, or_false, false_or, eq_self, Nat.zero_add, Nat.add_zero]
            exact nx
        · rw [gin_n (F := fun k => go k n) (fun z => no z.2.1)] at nx
          simp (disch := omega) only [w200_0, w200_1, w200_2, w200_3, w200_4, w200_5, w200_7, w200_10, w200_11, w200_13, w200_14, w200_18, w200_20, w200_23, w200_24, w200_25, w200_28, w200_31, w200_32, w200_34, w200_37, w200_40, w200_41, w200_42, w200_45, w200_47, w200_48, w200_51, w200_54, w200_57, w200_60, w200_63, w200_64, w200_66, w200_69, w200_70, w200_73, w200_76, w200_77, ma_kV_ap, ma_kC_s, ma_kC_n, ma_kH_ap, ma_gf_ap, ma_pf_ap, ma_cv_ap, ma_nt_0, ma_nt_s, ma_if_t, ma_if_f, ma_set_s, ma_set_ss, ma_set_2, ma_cat_n, ma_cat_i, ma_cat_l, ma_cat_r, ma_clr_n, ma_clr_i, ma_clr_l, ma_clr_r, ma_clr_0, ma_rf_s, ma_rf_n, ma_ial_ap, ma_ias_ap, List.set_cons_zero, List.set_cons_succ, List.length_cons, List.length_nil, Nat.reduceAdd, Nat.reduceLT, Nat.reduceLeDiff, Nat.le_refl, true_and, and_true, Nat.lt_add_one, fa_lit, nI_add, pk_mul, pk_sub, pk_div, ma_rem_n, nI_ltI, nI_leI, nI_eq, Nat.reduceEqDiff, Nat.reduceMul, Nat.reduceSub, not_false_eq_true, not_true_eq_false, or_true, true_or, or_false, false_or, eq_self, Nat.zero_add, Nat.add_zero]
          exact nx
      · rw [gin_n (F := fun k => go k n) (fun z => na z.1)] at nx
        simp (disch := omega) only [w200_0, w200_1, w200_2, w200_3, w200_4, w200_5, w200_7, w200_10, w200_11, w200_13, w200_14, w200_18, w200_20, w200_23, w200_24, w200_25, w200_28, w200_31, w200_32, w200_34, w200_37, w200_40, w200_41, w200_42, w200_45, w200_47, w200_48, w200_51, w200_54, w200_57, w200_60, w200_63, w200_64, w200_66, w200_69, w200_70, w200_73, w200_76, w200_77, ma_kV_ap, ma_kC_s, ma_kC_n, ma_kH_ap, ma_gf_ap, ma_pf_ap, ma_cv_ap, ma_nt_0, ma_nt_s, ma_if_t, ma_if_f, ma_set_s, ma_set_ss, ma_set_2, ma_cat_n, ma_cat_i, ma_cat_l, ma_cat_r, ma_clr_n, ma_clr_i, ma_clr_l, ma_clr_r, ma_clr_0, ma_rf_s, ma_rf_n, ma_ial_ap, ma_ias_ap, List.set_cons_zero, List.set_cons_succ, List.length_cons, List.length_nil, Nat.reduceAdd, Nat.reduceLT, Nat.reduceLeDiff, Nat.le_refl, true_and, and_true, Nat.lt_add_one, fa_lit, nI_add, pk_mul, pk_sub, pk_div, ma_rem_n, nI_ltI, nI_leI, nI_eq, Nat.reduceEqDiff, Nat.reduceMul, Nat.reduceSub, not_false_eq_true, not_true_eq_false, or_true, true_or, or_false, false_or, eq_self, Nat.zero_add, Nat.add_zero]
        exact nx
  have hout : ∀ c a, 6 - a = c → a ≤ 6 → ∀ o4 o5, ma_W (d + 1) 200 Q 4 [some (.int (nI s)), some (.int (nI n)), some (.int (nI (gmo s (fun k => go k n) a))), some (.int (nI a)), o4, o5] [] H 0 0 := by
    intro c
    induction c with
    | zero =>
      intro a e1 e2 o4 o5
      have ea : a = 6 := by omega
      subst ea
      simp (disch := omega) only [w200_0, w200_1, w200_2, w200_3, w200_4, w200_5, w200_7, w200_10, w200_11, w200_13, w200_14, w200_16, w200_18, w200_20, w200_23, w200_24, w200_25, w200_28, w200_31, w200_32, w200_34, w200_37, w200_40, w200_41, w200_42, w200_45, w200_47, w200_48, w200_51, w200_54, w200_57, w200_60, w200_63, w200_64, w200_66, w200_69, w200_70, w200_73, w200_76, w200_77, ma_kV_ap, ma_kC_s, ma_kC_n, ma_kH_ap, ma_gf_ap, ma_pf_ap, ma_cv_ap, ma_nt_0, ma_nt_s, ma_if_t, ma_if_f, ma_set_s, ma_set_ss, ma_set_2, ma_cat_n, ma_cat_i, ma_cat_l, ma_cat_r, ma_clr_n, ma_clr_i, ma_clr_l, ma_clr_r, ma_clr_0, ma_rf_s, ma_rf_n, ma_ial_ap, ma_ias_ap, List.set_cons_zero, List.set_cons_succ, List.length_cons, List.length_nil, Nat.reduceAdd, Nat.reduceLT, Nat.reduceLeDiff, Nat.le_refl, true_and, and_true, Nat.lt_add_one, fa_lit, nI_add, pk_mul, pk_sub, pk_div, ma_rem_n, nI_ltI, nI_leI, nI_eq, Nat.reduceEqDiff, Nat.reduceMul, Nat.reduceSub, not_false_eq_true, not_true_eq_false, or_true, true_or, or_false, false_or, eq_self, Nat.zero_add, Nat.add_zero]
      exact h
    | succ c ih =>
      intro a e1 e2 o4 o5
      have hc : (6 ≤ a) = False := eq_false (by omega)
      simp (disch := omega) only [w200_0, w200_1, w200_2, w200_3, w200_4, w200_5, w200_7, w200_10, w200_11, w200_13, w200_14, w200_18, w200_20, w200_23, w200_24, w200_25, w200_28, w200_31, w200_32, w200_34, w200_37, w200_40, w200_41, w200_42, w200_45, w200_47, w200_48, w200_51, w200_54, w200_57, w200_60, w200_63, w200_64, w200_66, w200_69, w200_70, w200_73, w200_76, w200_77, ma_kV_ap, ma_kC_s, ma_kC_n, ma_kH_ap, ma_gf_ap, ma_pf_ap, ma_cv_ap, ma_nt_0, ma_nt_s, ma_if_t, ma_if_f, ma_set_s, ma_set_ss, ma_set_2, ma_cat_n, ma_cat_i, ma_cat_l, ma_cat_r, ma_clr_n, ma_clr_i, ma_clr_l, ma_clr_r, ma_clr_0, ma_rf_s, ma_rf_n, ma_ial_ap, ma_ias_ap, List.set_cons_zero, List.set_cons_succ, List.length_cons, List.length_nil, Nat.reduceAdd, Nat.reduceLT, Nat.reduceLeDiff, Nat.le_refl, true_and, and_true, Nat.lt_add_one, fa_lit, nI_add, pk_mul, pk_sub, pk_div, ma_rem_n, nI_ltI, nI_leI, nI_eq, Nat.reduceEqDiff, Nat.reduceMul, Nat.reduceSub, not_false_eq_true, not_true_eq_false, or_true, true_or, or_false, false_or, eq_self, Nat.zero_add, Nat.add_zero, hc]
      exact hin a (by omega) (fun o4 o5 => ih (a + 1) (by omega) (by omega) o4 o5) _ 0 rfl (Nat.zero_le _)
  rw [e200]
  simp (disch := omega) only [w200_0, w200_1, w200_2, w200_3, w200_5, w200_7, w200_10, w200_11, w200_13, w200_14, w200_16, w200_18, w200_20, w200_23, w200_24, w200_25, w200_28, w200_31, w200_32, w200_34, w200_37, w200_40, w200_41, w200_42, w200_45, w200_47, w200_48, w200_51, w200_54, w200_57, w200_60, w200_63, w200_64, w200_66, w200_69, w200_70, w200_73, w200_76, w200_77, ma_kV_ap, ma_kC_s, ma_kC_n, ma_kH_ap, ma_gf_ap, ma_pf_ap, ma_cv_ap, ma_nt_0, ma_nt_s, ma_if_t, ma_if_f, ma_set_s, ma_set_ss, ma_set_2, ma_cat_n, ma_cat_i, ma_cat_l, ma_cat_r, ma_clr_n, ma_clr_i, ma_clr_l, ma_clr_r, ma_clr_0, ma_rf_s, ma_rf_n, ma_ial_ap, ma_ias_ap, List.set_cons_zero, List.set_cons_succ, List.length_cons, List.length_nil, Nat.reduceAdd, Nat.reduceLT, Nat.reduceLeDiff, Nat.le_refl, true_and, and_true, Nat.lt_add_one, fa_lit, nI_add, pk_mul, pk_sub, pk_div, ma_rem_n, nI_ltI, nI_leI, nI_eq, Nat.reduceEqDiff, Nat.reduceMul, Nat.reduceSub, not_false_eq_true, not_true_eq_false, or_true, true_or, or_false, false_or, eq_self, Nat.zero_add, Nat.add_zero]
  exact hout _ 0 rfl (Nat.zero_le _) _ _
theorem u_come {s n q : Nat} (hs : s < 64) (hn : n < 100) (hq : q < n) (h : Q (some (.int (nI (gmo s (fun k => gc k n q) 6)))) H) : ma_MW (d + 3) 201 [.int (nI s), .int (nI n), .int (nI q)] H Q := by
  have hin : ∀ a, a < 6 → (∀ o4 o5, ma_W (d + 2) 201 Q 5 [some (.int (nI s)), some (.int (nI n)), some (.int (nI q)), some (.int (nI (gmo s (fun k => gc k n q) (a + 1)))), some (.int (nI (a + 1))), o4, o5] [] H 0 0) → ∀ c o, 6 - o = c → o ≤ 6 → ma_W (d + 2) 201 Q 18 [some (.int (nI s)), some (.int (nI n)), some (.int (nI q)), some (.int (nI (gmo s (fun k => gc k n q) a))), some (.int (nI a)), some (.int (nI (gin s (fun k => gc k n q) a o))), some (.int (nI o))] [] H 0 0 := by
    intro a ha nxt c
    have hm := gmo_le (b := s) (F := fun k => gc k n q) a
    induction c with
    | zero =>
      intro o e1 e2
      have eo : o = 6 := by omega
      subst eo
      have hi := gin_le (b := s) (a := a) (F := fun k => gc k n q) 6
      have ei : ∀ x y : Nat, (if x < y then nI y else nI x) = nI (if x < y then y else x) := fun x y => by split <;> rfl
      have nx := nxt (some (.int (nI (gin s (fun k => gc k n q) a 6)))) (some (.int (nI 6)))
      rw [gmo_s] at nx
      simp (disch := omega) only [w201_0, w201_1, w201_2, w201_3, w201_7, w201_9, w201_12, w201_13, w201_15, w201_16, w201_18, w201_20, w201_22, w201_25, w201_26, w201_28, w201_31, w201_34, w201_35, w201_37, w201_40, w201_43, w201_45, w201_46, w201_47, w201_50, w201_52, w201_53, w201_54, w201_57, w201_60, w201_63, w201_66, w201_69, w201_70, w201_72, w201_75, w201_76, w201_79, w201_82, w201_83, ma_kV_ap, ma_kC_s, ma_kC_n, ma_kH_ap, ma_gf_ap, ma_pf_ap, ma_cv_ap, ma_nt_0, ma_nt_s, ma_if_t, ma_if_f, ma_set_s, ma_set_ss, ma_set_2, ma_cat_n, ma_cat_i, ma_cat_l, ma_cat_r, ma_clr_n, ma_clr_i, ma_clr_l, ma_clr_r, ma_clr_0, ma_rf_s, ma_rf_n, ma_ial_ap, ma_ias_ap, List.set_cons_zero, List.set_cons_succ, List.length_cons, List.length_nil, Nat.reduceAdd, Nat.reduceLT, Nat.reduceLeDiff, Nat.le_refl, true_and, and_true, Nat.lt_add_one, fa_lit, nI_add, pk_mul, pk_sub, pk_div, ma_rem_n, nI_ltI, nI_leI, nI_eq, Nat.reduceEqDiff, Nat.reduceMul, Nat.reduceSub, not_false_eq_true, not_true_eq_false, or_true, true_or, or_false, false_or, eq_self, Nat.zero_add, Nat.add_zero, ei]
      exact nx
    | succ c ih =>
      intro o e1 e2
      have hc : (6 ≤ o) = False := eq_false (by omega)
      have hle := gin_le (b := s) (a := a) (F := fun k => gc k n q) o
      have nx := ih (o + 1) (by omega) (by omega)
      have g1 := gc_lt (t := a) hq
      have g2 := gc_lt (t := o) hq
      simp (disch := omega) only [w201_0, w201_1, w201_2, w201_3, w201_5, w201_7, w201_9, w201_12, w201_13, w201_15, w201_16, w201_18, w201_20, w201_22, w201_25, w201_26, w201_28, w201_31, w201_34, w201_35, w201_37, w201_40, w201_43, w201_45, w201_46, w201_47, w201_50, w201_52, w201_53, w201_54, w201_57, w201_60, w201_63, w201_66, w201_69, w201_70, w201_72, w201_75, w201_76, w201_79, w201_82, w201_83, ma_kV_ap, ma_kC_s, ma_kC_n, ma_kH_ap, ma_gf_ap, ma_pf_ap, ma_cv_ap, ma_nt_0, ma_nt_s, ma_if_t, ma_if_f, ma_set_s, ma_set_ss, ma_set_2, ma_cat_n, ma_cat_i, ma_cat_l, ma_cat_r, ma_clr_n, ma_clr_i, ma_clr_l, ma_clr_r, ma_clr_0, ma_rf_s, ma_rf_n, ma_ial_ap, ma_ias_ap, List.set_cons_zero, List.set_cons_succ, List.length_cons, List.length_nil, Nat.reduceAdd, Nat.reduceLT, Nat.reduceLeDiff, Nat.le_refl, true_and, and_true, Nat.lt_add_one, fa_lit, nI_add, pk_mul, pk_sub, pk_div, ma_rem_n, nI_ltI, nI_leI, nI_eq, Nat.reduceEqDiff, Nat.reduceMul, Nat.reduceSub, not_false_eq_true, not_true_eq_false, or_true, true_or, or_false, false_or, eq_self, Nat.zero_add, Nat.add_zero, hc]
      refine u_holds hs ha (fun ya => ?_) (fun na => ?_)
      · simp (disch := omega) only [w201_0, w201_1, w201_2, w201_3, w201_5, w201_7, w201_9, w201_12, w201_13, w201_15, w201_16, w201_18, w201_20, w201_22, w201_25, w201_26, w201_28, w201_31, w201_34, w201_35, w201_37, w201_40, w201_43, w201_45, w201_46, w201_47, w201_50, w201_52, w201_53, w201_54, w201_57, w201_60, w201_63, w201_66, w201_69, w201_70, w201_72, w201_75, w201_76, w201_79, w201_82, w201_83, ma_kV_ap, ma_kC_s, ma_kC_n, ma_kH_ap, ma_gf_ap, ma_pf_ap, ma_cv_ap, ma_nt_0, ma_nt_s, ma_if_t, ma_if_f, ma_set_s, ma_set_ss, ma_set_2, ma_cat_n, ma_cat_i, ma_cat_l, ma_cat_r, ma_clr_n, ma_clr_i, ma_clr_l, ma_clr_r, ma_clr_0, ma_rf_s, ma_rf_n, ma_ial_ap, ma_ias_ap, List.set_cons_zero, List.set_cons_succ, List.length_cons, List.length_nil, Nat.reduceAdd, Nat.reduceLT, Nat.reduceLeDiff, Nat.le_refl, true_and, and_true, Nat.lt_add_one, fa_lit, nI_add, pk_mul, pk_sub, pk_div, ma_rem_n, nI_ltI, nI_leI, nI_eq, Nat.reduceEqDiff, Nat.reduceMul, Nat.reduceSub, not_false_eq_true, not_true_eq_false, or_true, true_or, or_false, false_or, eq_self, Nat.zero_add, Nat.add_zero]
        refine u_holds hs (by omega) (fun yo => ?_) (fun no => ?_)
        · simp (disch := omega) only [w201_0, w201_1, w201_2, w201_3, w201_5, w201_7, w201_9, w201_12, w201_13, w201_15, w201_16, w201_18, w201_20, w201_22, w201_25, w201_26, w201_28, w201_31, w201_34, w201_35, w201_37, w201_40, w201_43, w201_45, w201_46, w201_47, w201_50, w201_52, w201_53, w201_54, w201_57, w201_60, w201_63, w201_66, w201_69, w201_70, w201_72, w201_75, w201_76, w201_79, w201_82, w201_83, ma_kV_ap, ma_kC_s, ma_kC_n, ma_kH_ap, ma_gf_ap, ma_pf_ap, ma_cv_ap, ma_nt_0, ma_nt_s, ma_if_t, ma_if_f, ma_set_s, ma_set_ss, ma_set_2, ma_cat_n, ma_cat_i, ma_cat_l, ma_cat_r, ma_clr_n, ma_clr_i, ma_clr_l, ma_clr_r, ma_clr_0, ma_rf_s, ma_rf_n, ma_ial_ap, ma_ias_ap, List.set_cons_zero, List.set_cons_succ, List.length_cons, List.length_nil, Nat.reduceAdd, Nat.reduceLT, Nat.reduceLeDiff, Nat.le_refl, true_and, and_true, Nat.lt_add_one, fa_lit, nI_add, pk_mul, pk_sub, pk_div, ma_rem_n, nI_ltI, nI_leI, nI_eq, Nat.reduceEqDiff, Nat.reduceMul, Nat.reduceSub, not_false_eq_true, not_true_eq_false, or_true, true_or, or_false, false_or, eq_self, Nat.zero_add, Nat.add_zero]
          refine t_comesAt ha (by omega) hq ?_
          simp (disch := omega) only [w201_0, w201_1, w201_2, w201_3, w201_5, w201_7, w201_9, w201_12, w201_13, w201_15, w201_16, w201_18, w201_20, w201_22, w201_25, w201_26, w201_28, w201_31, w201_34, w201_35, w201_37, w201_40, w201_43, w201_45, w201_46, w201_47, w201_50, w201_52, w201_53, w201_54, w201_57, w201_60, w201_63, w201_66, w201_69, w201_70, w201_72, w201_75, w201_76, w201_79, w201_82, w201_83, ma_kV_ap, ma_kC_s, ma_kC_n, ma_kH_ap, ma_gf_ap, ma_pf_ap, ma_cv_ap, ma_nt_0, ma_nt_s, ma_if_t, ma_if_f, ma_set_s, ma_set_ss, ma_set_2, ma_cat_n, ma_cat_i, ma_cat_l, ma_cat_r, ma_clr_n, ma_clr_i, ma_clr_l, ma_clr_r, ma_clr_0, ma_rf_s, ma_rf_n, ma_ial_ap, ma_ias_ap, List.set_cons_zero, List.set_cons_succ, List.length_cons, List.length_nil, Nat.reduceAdd, Nat.reduceLT, Nat.reduceLeDiff, Nat.le_refl, true_and, and_true, Nat.lt_add_one, fa_lit, nI_add, pk_mul, pk_sub, pk_div, ma_rem_n, nI_ltI, nI_leI, nI_eq, Nat.reduceEqDiff, Nat.reduceMul, Nat.reduceSub, not_false_eq_true, not_true_eq_false, or_true, true_or, or_false, false_or, eq_self, Nat.zero_add, Nat.add_zero]
          refine t_comesAt (by omega) (by omega) hq ?_
          simp (disch := omega) only [w201_0, w201_1, w201_2, w201_3, w201_5, w201_7, w201_9, w201_12, w201_13, w201_15, w201_16, w201_18, w201_20, w201_22, w201_25, w201_26, w201_28, w201_31, w201_34, w201_35, w201_37, w201_40, w201_43, w201_45, w201_46, w201_47, w201_50, w201_52, w201_53, w201_54, w201_57, w201_66, w201_69, w201_70, w201_72, w201_75, w201_76, w201_79, w201_82, w201_83, ma_kV_ap, ma_kC_s, ma_kC_n, ma_kH_ap, ma_gf_ap, ma_pf_ap, ma_cv_ap, ma_nt_0, ma_nt_s, ma_if_t, ma_if_f, ma_set_s, ma_set_ss, ma_set_2, ma_cat_n, ma_cat_i, ma_cat_l, ma_cat_r, ma_clr_n, ma_clr_i, ma_clr_l, ma_clr_r, ma_clr_0, ma_rf_s, ma_rf_n, ma_ial_ap, ma_ias_ap, List.set_cons_zero, List.set_cons_succ, List.length_cons, List.length_nil, Nat.reduceAdd, Nat.reduceLT, Nat.reduceLeDiff, Nat.le_refl, true_and, and_true, Nat.lt_add_one, fa_lit, nI_add, pk_mul, pk_sub, pk_div, ma_rem_n, nI_ltI, nI_leI, nI_eq, Nat.reduceEqDiff, Nat.reduceMul, Nat.reduceSub, not_false_eq_true, not_true_eq_false, or_true, true_or, or_false, false_or, eq_self, Nat.zero_add, Nat.add_zero]
          refine ⟨fun e => ?_, fun e => ?_⟩
          · rw [gin_y (F := fun k => gc k n q) ⟨ya, yo, e⟩] at nx
            simp (disch := omega) only [w201_0, w201_1, w201_2, w201_3, w201_5, w201_7, w201_9, w201_12, w201_13, w201_15, w201_16, w201_20, w201_22, w201_25, w201_26, w201_28, w201_31, w201_34, w201_35, w201_37, w201_40, w201_43, w201_45, w201_46, w201_47, w201_50, w201_52, w201_53, w201_54, w201_57, w201_60, w201_63, w201_66, w201_69, w201_70, w201_72, w201_75, w201_76, w201_79, w201_82, w201_83, ma_kV_ap, ma_kC_s, ma_kC_n, ma_kH_ap, ma_gf_ap, ma_pf_ap, ma_cv_ap, ma_nt_0, ma_nt_s, ma_if_t, ma_if_f, ma_set_s, ma_set_ss, ma_set_2, ma_cat_n, ma_cat_i, ma_cat_l, ma_cat_r, ma_clr_n, ma_clr_i, ma_clr_l, ma_clr_r, ma_clr_0, ma_rf_s, ma_rf_n, ma_ial_ap, ma_ias_ap, List.set_cons_zero, List.set_cons_succ, List.length_cons, List.length_nil, Nat.reduceAdd, Nat.reduceLT, Nat.reduceLeDiff, Nat.le_refl, true_and, and_true, Nat.lt_add_one, fa_lit, nI_add, pk_mul, pk_sub, pk_div, ma_rem_n, nI_ltI, nI_leI, nI_eq, Nat.reduceEqDiff, Nat.reduceMul, Nat.reduceSub, not_false_eq_true, not_true_eq_false, or_true, true_or, or_false, false_or, eq_self, Nat.zero_add, Nat.add_zero]
            exact nx
          · rw [gin_n (F := fun k => gc k n q) (fun z => e z.2.2)] at nx
            simp (disch := omega) only [w201_0, w201_1, w201_2, w201_3, w201_5, w201_7, w201_9, w201_12, w201_13, w201_15, w201_16, w201_20, w201_22, w201_25, w201_26, w201_28, w201_31, w201_34, w201_35, w201_37, w201_40, w201_43, w201_45, w201_46, w201_47, w201_50, w201_52, w201_53, w201_54, w201_57, w201_60, w201_63, w201_66, w201_69, w201_70, w201_72, w201_75, w201_76, w201_79, w201_82, w201_83, ma_kV_ap, ma_kC_s, ma_kC_n, ma_kH_ap, ma_gf_ap, ma_pf_ap, ma_cv_ap, ma_nt_0, ma_nt_s, ma_if_t, ma_if_f, ma_set_s, ma_set_ss, ma_set_2, ma_cat_n, ma_cat_i, ma_cat_l, ma_cat_r, ma_clr_n, ma_clr_i, ma_clr_l, ma_clr_r, ma_clr_0, ma_rf_s, ma_rf_n, ma_ial_ap, ma_ias_ap, List.set_cons_zero, List.set_cons_succ, List.length_cons, List.length_nil, Nat.reduceAdd, Nat.reduceLT, Nat.reduceLeDiff, Nat.le_refl, true_and, and_true, Nat.lt_add_one, fa_lit, nI_add, pk_mul, pk_sub, pk_div, ma_rem_n, nI_ltI, nI_leI, nI_eq, Nat.reduceEqDiff, Nat.reduceMul, Nat.reduceSub, not_false_eq_true, not_true_eq_false, or_true, true_or, or_false, false_or, eq_self, Nat.zero_add, Nat.add_zero]
            exact nx
        · rw [gin_n (F := fun k => gc k n q) (fun z => no z.2.1)] at nx
          simp (disch := omega) only [w201_0, w201_1, w201_2, w201_3, w201_5, w201_7, w201_9, w201_12, w201_13, w201_15, w201_16, w201_20, w201_22, w201_25, w201_26, w201_28, w201_31, w201_34, w201_35, w201_37, w201_40, w201_43, w201_45, w201_46, w201_47, w201_50, w201_52, w201_53, w201_54, w201_57, w201_60, w201_63, w201_66, w201_69, w201_70, w201_72, w201_75, w201_76, w201_79, w201_82, w201_83, ma_kV_ap, ma_kC_s, ma_kC_n, ma_kH_ap, ma_gf_ap, ma_pf_ap, ma_cv_ap, ma_nt_0, ma_nt_s, ma_if_t, ma_if_f, ma_set_s, ma_set_ss, ma_set_2, ma_cat_n, ma_cat_i, ma_cat_l, ma_cat_r, ma_clr_n, ma_clr_i, ma_clr_l, ma_clr_r, ma_clr_0, ma_rf_s, ma_rf_n, ma_ial_ap, ma_ias_ap, List.set_cons_zero, List.set_cons_succ, List.length_cons, List.length_nil, Nat.reduceAdd, Nat.reduceLT, Nat.reduceLeDiff, Nat.le_refl, true_and, and_true, Nat.lt_add_one, fa_lit, nI_add, pk_mul, pk_sub, pk_div, ma_rem_n, nI_ltI, nI_leI, nI_eq, Nat.reduceEqDiff, Nat.reduceMul, Nat.reduceSub, not_false_eq_true, not_true_eq_false, or_true, true_or, or_false, false_or, eq_self, Nat.zero_add, Nat.add_zero]
          exact nx
      · rw [gin_n (F := fun k => gc k n q) (fun z => na z.1)] at nx
        simp (disch := omega) only [w201_0, w201_1, w201_2, w201_3, w201_5, w201_7, w201_9, w201_12, w201_13, w201_15, w201_16, w201_20, w201_22, w201_25, w201_26, w201_28, w201_31, w201_34, w201_35, w201_37, w201_40, w201_43, w201_45, w201_46, w201_47, w201_50, w201_52, w201_53, w201_54, w201_57, w201_60, w201_63, w201_66, w201_69, w201_70, w201_72, w201_75, w201_76, w201_79, w201_82, w201_83, ma_kV_ap, ma_kC_s, ma_kC_n, ma_kH_ap, ma_gf_ap, ma_pf_ap, ma_cv_ap, ma_nt_0, ma_nt_s, ma_if_t, ma_if_f, ma_set_s, ma_set_ss, ma_set_2, ma_cat_n, ma_cat_i, ma_cat_l, ma_cat_r, ma_clr_n, ma_clr_i, ma_clr_l, ma_clr_r, ma_clr_0, ma_rf_s, ma_rf_n, ma_ial_ap, ma_ias_ap, List.set_cons_zero, List.set_cons_succ, List.length_cons, List.length_nil, Nat.reduceAdd, Nat.reduceLT, Nat.reduceLeDiff, Nat.le_refl, true_and, and_true, Nat.lt_add_one, fa_lit, nI_add, pk_mul, pk_sub, pk_div, ma_rem_n, nI_ltI, nI_leI, nI_eq, Nat.reduceEqDiff, Nat.reduceMul, Nat.reduceSub, not_false_eq_true, not_true_eq_false, or_true, true_or, or_false, false_or, eq_self, Nat.zero_add, Nat.add_zero]
        exact nx
  have hout : ∀ c a, 6 - a = c → a ≤ 6 → ∀ o4 o5, ma_W (d + 2) 201 Q 5 [some (.int (nI s)), some (.int (nI n)), some (.int (nI q)), some (.int (nI (gmo s (fun k => gc k n q) a))), some (.int (nI a)), o4, o5] [] H 0 0 := by
    intro c
    induction c with
    | zero =>
      intro a e1 e2 o4 o5
      have ea : a = 6 := by omega
      subst ea
      simp (disch := omega) only [w201_0, w201_1, w201_2, w201_3, w201_5, w201_7, w201_9, w201_12, w201_13, w201_15, w201_16, w201_18, w201_20, w201_22, w201_25, w201_26, w201_28, w201_31, w201_34, w201_35, w201_37, w201_40, w201_43, w201_45, w201_46, w201_47, w201_50, w201_52, w201_53, w201_54, w201_57, w201_60, w201_63, w201_66, w201_69, w201_70, w201_72, w201_75, w201_76, w201_79, w201_82, w201_83, ma_kV_ap, ma_kC_s, ma_kC_n, ma_kH_ap, ma_gf_ap, ma_pf_ap, ma_cv_ap, ma_nt_0, ma_nt_s, ma_if_t, ma_if_f, ma_set_s, ma_set_ss, ma_set_2, ma_cat_n, ma_cat_i, ma_cat_l, ma_cat_r, ma_clr_n, ma_clr_i, ma_clr_l, ma_clr_r, ma_clr_0, ma_rf_s, ma_rf_n, ma_ial_ap, ma_ias_ap, List.set_cons_zero, List.set_cons_succ, List.length_cons, List.length_nil, Nat.reduceAdd, Nat.reduceLT, Nat.reduceLeDiff, Nat.le_refl, true_and, and_true, Nat.lt_add_one, fa_lit, nI_add, pk_mul, pk_sub, pk_div, ma_rem_n, nI_ltI, nI_leI, nI_eq, Nat.reduceEqDiff, Nat.reduceMul, Nat.reduceSub, not_false_eq_true, not_true_eq_false, or_true, true_or, or_false, false_or, eq_self, Nat.zero_add, Nat.add_zero]
      exact h
    | succ c ih =>
      intro a e1 e2 o4 o5
      have hc : (6 ≤ a) = False := eq_false (by omega)
      simp (disch := omega) only [w201_0, w201_1, w201_2, w201_3, w201_5, w201_7, w201_9, w201_12, w201_13, w201_15, w201_16, w201_20, w201_22, w201_25, w201_26, w201_28, w201_31, w201_34, w201_35, w201_37, w201_40, w201_43, w201_45, w201_46, w201_47, w201_50, w201_52, w201_53, w201_54, w201_57, w201_60, w201_63, w201_66, w201_69, w201_70, w201_72, w201_75, w201_76, w201_79, w201_82, w201_83, ma_kV_ap, ma_kC_s, ma_kC_n, ma_kH_ap, ma_gf_ap, ma_pf_ap, ma_cv_ap, ma_nt_0, ma_nt_s, ma_if_t, ma_if_f, ma_set_s, ma_set_ss, ma_set_2, ma_cat_n, ma_cat_i, ma_cat_l, ma_cat_r, ma_clr_n, ma_clr_i, ma_clr_l, ma_clr_r, ma_clr_0, ma_rf_s, ma_rf_n, ma_ial_ap, ma_ias_ap, List.set_cons_zero, List.set_cons_succ, List.length_cons, List.length_nil, Nat.reduceAdd, Nat.reduceLT, Nat.reduceLeDiff, Nat.le_refl, true_and, and_true, Nat.lt_add_one, fa_lit, nI_add, pk_mul, pk_sub, pk_div, ma_rem_n, nI_ltI, nI_leI, nI_eq, Nat.reduceEqDiff, Nat.reduceMul, Nat.reduceSub, not_false_eq_true, not_true_eq_false, or_true, true_or, or_false, false_or, eq_self, Nat.zero_add, Nat.add_zero, hc]
      exact hin a (by omega) (fun o4 o5 => ih (a + 1) (by omega) (by omega) o4 o5) _ 0 rfl (Nat.zero_le _)
  rw [e201]
  simp (disch := omega) only [w201_0, w201_1, w201_2, w201_3, w201_7, w201_9, w201_12, w201_13, w201_15, w201_16, w201_18, w201_20, w201_22, w201_25, w201_26, w201_28, w201_31, w201_34, w201_35, w201_37, w201_40, w201_43, w201_45, w201_46, w201_47, w201_50, w201_52, w201_53, w201_54, w201_57, w201_60, w201_63, w201_66, w201_69, w201_70, w201_72, w201_75, w201_76, w201_79, w201_82, w201_83, ma_kV_ap, ma_kC_s, ma_kC_n, ma_kH_ap, ma_gf_ap, ma_pf_ap, ma_cv_ap, ma_nt_0, ma_nt_s, ma_if_t, ma_if_f, ma_set_s, ma_set_ss, ma_set_2, ma_cat_n, ma_cat_i, ma_cat_l, ma_cat_r, ma_clr_n, ma_clr_i, ma_clr_l, ma_clr_r, ma_clr_0, ma_rf_s, ma_rf_n, ma_ial_ap, ma_ias_ap, List.set_cons_zero, List.set_cons_succ, List.length_cons, List.length_nil, Nat.reduceAdd, Nat.reduceLT, Nat.reduceLeDiff, Nat.le_refl, true_and, and_true, Nat.lt_add_one, fa_lit, nI_add, pk_mul, pk_sub, pk_div, ma_rem_n, nI_ltI, nI_leI, nI_eq, Nat.reduceEqDiff, Nat.reduceMul, Nat.reduceSub, not_false_eq_true, not_true_eq_false, or_true, true_or, or_false, false_or, eq_self, Nat.zero_add, Nat.add_zero]
  exact hout _ 0 rfl (Nat.zero_le _) _ _
theorem u_look {s : Nat} (hs : s < 64) (h1 : s = 0 → Q (some (.int (-nI 1))) H) (h2 : s ≠ 0 → Q (some (.int (vO (glk (fun n => gmo s (fun k => go k n) 6) 1 16).1))) H) : ma_MW (d + 3) 197 [.int (nI s)] H Q := by
  rw [e197]
  by_cases hz : s = 0
  · subst hz
    simp (disch := omega) only [w197_0, w197_1, w197_2, w197_4, w197_5, w197_6, w197_7, w197_8, w197_11, w197_12, w197_14, w197_17, w197_18, w197_19, w197_22, w197_24, w197_26, w197_27, w197_30, w197_32, w197_33, w197_34, w197_35, w197_38, w197_41, w197_42, ma_kV_ap, ma_kC_s, ma_kC_n, ma_kH_ap, ma_gf_ap, ma_pf_ap, ma_cv_ap, ma_nt_0, ma_nt_s, ma_if_t, ma_if_f, ma_set_s, ma_set_ss, ma_set_2, ma_cat_n, ma_cat_i, ma_cat_l, ma_cat_r, ma_clr_n, ma_clr_i, ma_clr_l, ma_clr_r, ma_clr_0, ma_rf_s, ma_rf_n, ma_ial_ap, ma_ias_ap, List.set_cons_zero, List.set_cons_succ, List.length_cons, List.length_nil, Nat.reduceAdd, Nat.reduceLT, Nat.reduceLeDiff, Nat.le_refl, true_and, and_true, Nat.lt_add_one, fa_lit, nI_add, pk_mul, pk_sub, pk_div, ma_rem_n, nI_ltI, nI_leI, nI_eq, Nat.reduceEqDiff, Nat.reduceMul, Nat.reduceSub, not_false_eq_true, not_true_eq_false, or_true, true_or, or_false, false_or, eq_self, Nat.zero_add, Nat.add_zero]
    exact h1 rfl
  · have hz' : (s = 0) = False := eq_false hz
    have loop : ∀ c n, 16 - n = c → n ≤ 16 → ∀ o4, ma_W (d + 2) 197 Q 7 [some (.int (nI s)), some (.int (vO (glk (fun n => gmo s (fun k => go k n) 6) 1 n).1)), some (.int (nI (glk (fun n => gmo s (fun k => go k n) 6) 1 n).2)), some (.int (nI (n + 1))), o4] [] H 0 0 := by
      intro c
      induction c with
      | zero =>
        intro n e1 e2 o4
        have en : n = 16 := by omega
        subst en
        simp (disch := omega) only [w197_0, w197_1, w197_2, w197_4, w197_5, w197_6, w197_7, w197_8, w197_11, w197_12, w197_14, w197_17, w197_18, w197_19, w197_22, w197_24, w197_26, w197_27, w197_30, w197_32, w197_33, w197_34, w197_35, w197_38, w197_41, w197_42, ma_kV_ap, ma_kC_s, ma_kC_n, ma_kH_ap, ma_gf_ap, ma_pf_ap, ma_cv_ap, ma_nt_0, ma_nt_s, ma_if_t, ma_if_f, ma_set_s, ma_set_ss, ma_set_2, ma_cat_n, ma_cat_i, ma_cat_l, ma_cat_r, ma_clr_n, ma_clr_i, ma_clr_l, ma_clr_r, ma_clr_0, ma_rf_s, ma_rf_n, ma_ial_ap, ma_ias_ap, List.set_cons_zero, List.set_cons_succ, List.length_cons, List.length_nil, Nat.reduceAdd, Nat.reduceLT, Nat.reduceLeDiff, Nat.le_refl, true_and, and_true, Nat.lt_add_one, fa_lit, nI_add, pk_mul, pk_sub, pk_div, ma_rem_n, nI_ltI, nI_leI, nI_eq, Nat.reduceEqDiff, Nat.reduceMul, Nat.reduceSub, not_false_eq_true, not_true_eq_false, or_true, true_or, or_false, false_or, eq_self, Nat.zero_add, Nat.add_zero, hz']
        exact h2 hz
      | succ c ih =>
        intro n e1 e2 o4
        have hc : (16 < n + 1) = False := eq_false (by omega)
        simp (disch := omega) only [w197_0, w197_1, w197_2, w197_4, w197_5, w197_6, w197_7, w197_8, w197_11, w197_12, w197_14, w197_17, w197_18, w197_19, w197_22, w197_24, w197_26, w197_27, w197_30, w197_32, w197_33, w197_34, w197_35, w197_38, w197_41, w197_42, ma_kV_ap, ma_kC_s, ma_kC_n, ma_kH_ap, ma_gf_ap, ma_pf_ap, ma_cv_ap, ma_nt_0, ma_nt_s, ma_if_t, ma_if_f, ma_set_s, ma_set_ss, ma_set_2, ma_cat_n, ma_cat_i, ma_cat_l, ma_cat_r, ma_clr_n, ma_clr_i, ma_clr_l, ma_clr_r, ma_clr_0, ma_rf_s, ma_rf_n, ma_ial_ap, ma_ias_ap, List.set_cons_zero, List.set_cons_succ, List.length_cons, List.length_nil, Nat.reduceAdd, Nat.reduceLT, Nat.reduceLeDiff, Nat.le_refl, true_and, and_true, Nat.lt_add_one, fa_lit, nI_add, pk_mul, pk_sub, pk_div, ma_rem_n, nI_ltI, nI_leI, nI_eq, Nat.reduceEqDiff, Nat.reduceMul, Nat.reduceSub, not_false_eq_true, not_true_eq_false, or_true, true_or, or_false, false_or, eq_self, Nat.zero_add, Nat.add_zero, hz', hc]
        refine u_owed hs (by omega) ?_
        have hm := gmo_le (b := s) (F := fun k => go k (n + 1)) 6
        have hl := glk_le (A := fun n => gmo s (fun k => go k n) 6) (lo := 1) n
        have es := glk_s (A := fun n => gmo s (fun k => go k n) 6) (lo := 1) (c := n)
        rw [Nat.add_comm 1 n] at es
        simp (disch := omega) only [w197_0, w197_1, w197_2, w197_4, w197_5, w197_6, w197_7, w197_8, w197_11, w197_12, w197_14, w197_17, w197_18, w197_19, w197_22, w197_24, w197_26, w197_27, w197_32, w197_33, w197_34, w197_38, w197_41, w197_42, ma_kV_ap, ma_kC_s, ma_kC_n, ma_kH_ap, ma_gf_ap, ma_pf_ap, ma_cv_ap, ma_nt_0, ma_nt_s, ma_if_t, ma_if_f, ma_set_s, ma_set_ss, ma_set_2, ma_cat_n, ma_cat_i, ma_cat_l, ma_cat_r, ma_clr_n, ma_clr_i, ma_clr_l, ma_clr_r, ma_clr_0, ma_rf_s, ma_rf_n, ma_ial_ap, ma_ias_ap, List.set_cons_zero, List.set_cons_succ, List.length_cons, List.length_nil, Nat.reduceAdd, Nat.reduceLT, Nat.reduceLeDiff, Nat.le_refl, true_and, and_true, Nat.lt_add_one, fa_lit, nI_add, pk_mul, pk_sub, pk_div, ma_rem_n, nI_ltI, nI_leI, nI_eq, Nat.reduceEqDiff, Nat.reduceMul, Nat.reduceSub, not_false_eq_true, not_true_eq_false, or_true, true_or, or_false, false_or, eq_self, Nat.zero_add, Nat.add_zero]
        refine ⟨fun e => ?_, fun e => ?_⟩
        · rw [if_neg (by omega)] at es
          simp (disch := omega) only [w197_0, w197_1, w197_2, w197_4, w197_5, w197_6, w197_8, w197_11, w197_12, w197_14, w197_17, w197_18, w197_19, w197_22, w197_24, w197_26, w197_27, w197_30, w197_32, w197_33, w197_34, w197_35, w197_38, w197_41, w197_42, ma_kV_ap, ma_kC_s, ma_kC_n, ma_kH_ap, ma_gf_ap, ma_pf_ap, ma_cv_ap, ma_nt_0, ma_nt_s, ma_if_t, ma_if_f, ma_set_s, ma_set_ss, ma_set_2, ma_cat_n, ma_cat_i, ma_cat_l, ma_cat_r, ma_clr_n, ma_clr_i, ma_clr_l, ma_clr_r, ma_clr_0, ma_rf_s, ma_rf_n, ma_ial_ap, ma_ias_ap, List.set_cons_zero, List.set_cons_succ, List.length_cons, List.length_nil, Nat.reduceAdd, Nat.reduceLT, Nat.reduceLeDiff, Nat.le_refl, true_and, and_true, Nat.lt_add_one, fa_lit, nI_add, pk_mul, pk_sub, pk_div, ma_rem_n, nI_ltI, nI_leI, nI_eq, Nat.reduceEqDiff, Nat.reduceMul, Nat.reduceSub, not_false_eq_true, not_true_eq_false, or_true, true_or, or_false, false_or, eq_self, Nat.zero_add, Nat.add_zero]
          have := ih (n + 1) (by omega) (by omega) (some (.int (nI (gmo s (fun k => go k (n + 1)) 6))))
          rw [es] at this
          exact this
        · rw [if_pos (by omega)] at es
          simp (disch := omega) only [w197_0, w197_1, w197_2, w197_4, w197_5, w197_6, w197_8, w197_11, w197_12, w197_14, w197_17, w197_18, w197_19, w197_22, w197_24, w197_26, w197_27, w197_30, w197_32, w197_33, w197_34, w197_35, w197_38, w197_41, w197_42, ma_kV_ap, ma_kC_s, ma_kC_n, ma_kH_ap, ma_gf_ap, ma_pf_ap, ma_cv_ap, ma_nt_0, ma_nt_s, ma_if_t, ma_if_f, ma_set_s, ma_set_ss, ma_set_2, ma_cat_n, ma_cat_i, ma_cat_l, ma_cat_r, ma_clr_n, ma_clr_i, ma_clr_l, ma_clr_r, ma_clr_0, ma_rf_s, ma_rf_n, ma_ial_ap, ma_ias_ap, List.set_cons_zero, List.set_cons_succ, List.length_cons, List.length_nil, Nat.reduceAdd, Nat.reduceLT, Nat.reduceLeDiff, Nat.le_refl, true_and, and_true, Nat.lt_add_one, fa_lit, nI_add, pk_mul, pk_sub, pk_div, ma_rem_n, nI_ltI, nI_leI, nI_eq, Nat.reduceEqDiff, Nat.reduceMul, Nat.reduceSub, not_false_eq_true, not_true_eq_false, or_true, true_or, or_false, false_or, eq_self, Nat.zero_add, Nat.add_zero]
          have := ih (n + 1) (by omega) (by omega) (some (.int (nI (gmo s (fun k => go k (n + 1)) 6))))
          rw [es] at this
          exact this
    simp (disch := omega) only [w197_0, w197_1, w197_2, w197_4, w197_5, w197_6, w197_8, w197_11, w197_12, w197_14, w197_17, w197_18, w197_19, w197_22, w197_24, w197_26, w197_27, w197_30, w197_32, w197_33, w197_34, w197_35, w197_38, w197_41, w197_42, ma_kV_ap, ma_kC_s, ma_kC_n, ma_kH_ap, ma_gf_ap, ma_pf_ap, ma_cv_ap, ma_nt_0, ma_nt_s, ma_if_t, ma_if_f, ma_set_s, ma_set_ss, ma_set_2, ma_cat_n, ma_cat_i, ma_cat_l, ma_cat_r, ma_clr_n, ma_clr_i, ma_clr_l, ma_clr_r, ma_clr_0, ma_rf_s, ma_rf_n, ma_ial_ap, ma_ias_ap, List.set_cons_zero, List.set_cons_succ, List.length_cons, List.length_nil, Nat.reduceAdd, Nat.reduceLT, Nat.reduceLeDiff, Nat.le_refl, true_and, and_true, Nat.lt_add_one, fa_lit, nI_add, pk_mul, pk_sub, pk_div, ma_rem_n, nI_ltI, nI_leI, nI_eq, Nat.reduceEqDiff, Nat.reduceMul, Nat.reduceSub, not_false_eq_true, not_true_eq_false, or_true, true_or, or_false, false_or, eq_self, Nat.zero_add, Nat.add_zero]
    exact loop _ 0 rfl (by omega) _
/-- how many are alike under a code n * 100 + k -/
noncomputable def gA (s : Nat) (code : Nat) : Nat := if code % 100 < code / 100 then gmo s (fun k => gc k (code / 100) (code % 100)) 6 else 7
theorem u_ask {s : Nat} (hs : s < 64) (h1 : s = 0 → Q (some (.int (-nI 1))) H) (h2 : s ≠ 0 → Q (some (.int (vO (glk (gA s) 100 1516).1))) H) : ma_MW (d + 4) 198 [.int (nI s)] H Q := by
  rw [e198]
  by_cases hz : s = 0
  · subst hz
    simp (disch := omega) only [w198_0, w198_1, w198_2, w198_4, w198_5, w198_6, w198_7, w198_8, w198_11, w198_12, w198_14, w198_17, w198_18, w198_20, w198_22, w198_23, w198_26, w198_27, w198_28, w198_30, w198_33, w198_35, w198_37, w198_38, w198_41, w198_43, w198_44, w198_46, w198_47, w198_48, w198_50, w198_51, w198_52, w198_55, w198_58, w198_61, w198_64, w198_65, ma_kV_ap, ma_kC_s, ma_kC_n, ma_kH_ap, ma_gf_ap, ma_pf_ap, ma_cv_ap, ma_nt_0, ma_nt_s, ma_if_t, ma_if_f, ma_set_s, ma_set_ss, ma_set_2, ma_cat_n, ma_cat_i, ma_cat_l, ma_cat_r, ma_clr_n, ma_clr_i, ma_clr_l, ma_clr_r, ma_clr_0, ma_rf_s, ma_rf_n, ma_ial_ap, ma_ias_ap, List.set_cons_zero, List.set_cons_succ, List.length_cons, List.length_nil, Nat.reduceAdd, Nat.reduceLT, Nat.reduceLeDiff, Nat.le_refl, true_and, and_true, Nat.lt_add_one, fa_lit, nI_add, pk_mul, pk_sub, pk_div, ma_rem_n, nI_ltI, nI_leI, nI_eq, Nat.reduceEqDiff, Nat.reduceMul, Nat.reduceSub, not_false_eq_true, not_true_eq_false, or_true, true_or, or_false, false_or, eq_self, Nat.zero_add, Nat.add_zero]
    exact h1 rfl
  · have hz' : (s = 0) = False := eq_false hz
    have hin : ∀ n, 1 ≤ n → n ≤ 16 → (∀ o4 o5, ma_W (d + 3) 198 Q 7 [some (.int (nI s)), some (.int (vO (glk (gA s) 100 (100 * (n + 1) - 100)).1)), some (.int (nI (glk (gA s) 100 (100 * (n + 1) - 100)).2)), some (.int (nI (n + 1))), o4, o5] [] H 0 0) → ∀ c k, n - k = c → k ≤ n → ∀ o5, ma_W (d + 3) 198 Q 20 [some (.int (nI s)), some (.int (vO (glk (gA s) 100 (100 * n + k - 100)).1)), some (.int (nI (glk (gA s) 100 (100 * n + k - 100)).2)), some (.int (nI n)), some (.int (nI k)), o5] [] H 0 0 := by
      intro n hn1 hn2 nxt c
      induction c with
      | zero =>
        intro k e1 e2 o5
        have ek : k = n := by omega
        subst ek
        have sk := glk_skip (A := gA s) (lo := 100) (c := 100 * k + k - 100) (100 - k) (fun j hj => by
          unfold gA; rw [if_neg (by omega)])
        rw [show 100 * k + k - 100 + (100 - k) = 100 * (k + 1) - 100 by omega] at sk
        have nx := nxt (some (.int (nI k))) o5
        rw [sk] at nx
        simp (disch := omega) only [w198_0, w198_1, w198_2, w198_4, w198_5, w198_6, w198_8, w198_11, w198_12, w198_14, w198_17, w198_18, w198_20, w198_22, w198_23, w198_26, w198_27, w198_28, w198_30, w198_33, w198_35, w198_37, w198_38, w198_41, w198_43, w198_44, w198_46, w198_47, w198_48, w198_50, w198_51, w198_52, w198_55, w198_58, w198_61, w198_64, w198_65, ma_kV_ap, ma_kC_s, ma_kC_n, ma_kH_ap, ma_gf_ap, ma_pf_ap, ma_cv_ap, ma_nt_0, ma_nt_s, ma_if_t, ma_if_f, ma_set_s, ma_set_ss, ma_set_2, ma_cat_n, ma_cat_i, ma_cat_l, ma_cat_r, ma_clr_n, ma_clr_i, ma_clr_l, ma_clr_r, ma_clr_0, ma_rf_s, ma_rf_n, ma_ial_ap, ma_ias_ap, List.set_cons_zero, List.set_cons_succ, List.length_cons, List.length_nil, Nat.reduceAdd, Nat.reduceLT, Nat.reduceLeDiff, Nat.le_refl, true_and, and_true, Nat.lt_add_one, fa_lit, nI_add, pk_mul, pk_sub, pk_div, ma_rem_n, nI_ltI, nI_leI, nI_eq, Nat.reduceEqDiff, Nat.reduceMul, Nat.reduceSub, not_false_eq_true, not_true_eq_false, or_true, true_or, or_false, false_or, eq_self, Nat.zero_add, Nat.add_zero]
        exact nx
      | succ c ih =>
        intro k e1 e2 o5
        have hc : (n ≤ k) = False := eq_false (by omega)
        simp (disch := omega) only [w198_0, w198_1, w198_2, w198_4, w198_5, w198_6, w198_7, w198_8, w198_11, w198_12, w198_14, w198_17, w198_18, w198_20, w198_22, w198_23, w198_26, w198_27, w198_28, w198_30, w198_33, w198_35, w198_37, w198_38, w198_41, w198_43, w198_44, w198_46, w198_47, w198_48, w198_50, w198_51, w198_52, w198_55, w198_58, w198_61, w198_64, w198_65, ma_kV_ap, ma_kC_s, ma_kC_n, ma_kH_ap, ma_gf_ap, ma_pf_ap, ma_cv_ap, ma_nt_0, ma_nt_s, ma_if_t, ma_if_f, ma_set_s, ma_set_ss, ma_set_2, ma_cat_n, ma_cat_i, ma_cat_l, ma_cat_r, ma_clr_n, ma_clr_i, ma_clr_l, ma_clr_r, ma_clr_0, ma_rf_s, ma_rf_n, ma_ial_ap, ma_ias_ap, List.set_cons_zero, List.set_cons_succ, List.length_cons, List.length_nil, Nat.reduceAdd, Nat.reduceLT, Nat.reduceLeDiff, Nat.le_refl, true_and, and_true, Nat.lt_add_one, fa_lit, nI_add, pk_mul, pk_sub, pk_div, ma_rem_n, nI_ltI, nI_leI, nI_eq, Nat.reduceEqDiff, Nat.reduceMul, Nat.reduceSub, not_false_eq_true, not_true_eq_false, or_true, true_or, or_false, false_or, eq_self, Nat.zero_add, Nat.add_zero, hc]
        refine u_come hs (by omega) (by omega) ?_
        have hm := gmo_le (b := s) (F := fun x => gc x n k) 6
        have hl := glk_le (A := gA s) (lo := 100) (100 * n + k - 100)
        have es := glk_s (A := gA s) (lo := 100) (c := 100 * n + k - 100)
        have eA : gA s (100 * n + k) = gmo s (fun x => gc x n k) 6 := by
          unfold gA
          rw [show (100 * n + k) % 100 = k by omega, show (100 * n + k) / 100 = n by omega, if_pos (by omega)]
        rw [show 100 + (100 * n + k - 100) = 100 * n + k by omega, eA, show 100 * n + k - 100 + 1 = 100 * n + (k + 1) - 100 by omega] at es
        simp (disch := omega) only [w198_0, w198_1, w198_2, w198_4, w198_5, w198_6, w198_7, w198_8, w198_11, w198_12, w198_14, w198_17, w198_18, w198_20, w198_22, w198_23, w198_26, w198_27, w198_28, w198_30, w198_33, w198_35, w198_37, w198_38, w198_43, w198_44, w198_46, w198_47, w198_48, w198_50, w198_51, w198_55, w198_58, w198_61, w198_64, w198_65, ma_kV_ap, ma_kC_s, ma_kC_n, ma_kH_ap, ma_gf_ap, ma_pf_ap, ma_cv_ap, ma_nt_0, ma_nt_s, ma_if_t, ma_if_f, ma_set_s, ma_set_ss, ma_set_2, ma_cat_n, ma_cat_i, ma_cat_l, ma_cat_r, ma_clr_n, ma_clr_i, ma_clr_l, ma_clr_r, ma_clr_0, ma_rf_s, ma_rf_n, ma_ial_ap, ma_ias_ap, List.set_cons_zero, List.set_cons_succ, List.length_cons, List.length_nil, Nat.reduceAdd, Nat.reduceLT, Nat.reduceLeDiff, Nat.le_refl, true_and, and_true, Nat.lt_add_one, fa_lit, nI_add, pk_mul, pk_sub, pk_div, ma_rem_n, nI_ltI, nI_leI, nI_eq, Nat.reduceEqDiff, Nat.reduceMul, Nat.reduceSub, not_false_eq_true, not_true_eq_false, or_true, true_or, or_false, false_or, eq_self, Nat.zero_add, Nat.add_zero]
        refine ⟨fun e => ?_, fun e => ?_⟩
        · rw [if_neg (by omega)] at es
          simp (disch := omega) only [w198_0, w198_1, w198_2, w198_4, w198_5, w198_6, w198_7, w198_8, w198_11, w198_12, w198_14, w198_17, w198_18, w198_22, w198_23, w198_26, w198_27, w198_28, w198_30, w198_33, w198_35, w198_37, w198_38, w198_41, w198_43, w198_44, w198_46, w198_47, w198_48, w198_50, w198_51, w198_52, w198_55, w198_58, w198_61, w198_64, w198_65, ma_kV_ap, ma_kC_s, ma_kC_n, ma_kH_ap, ma_gf_ap, ma_pf_ap, ma_cv_ap, ma_nt_0, ma_nt_s, ma_if_t, ma_if_f, ma_set_s, ma_set_ss, ma_set_2, ma_cat_n, ma_cat_i, ma_cat_l, ma_cat_r, ma_clr_n, ma_clr_i, ma_clr_l, ma_clr_r, ma_clr_0, ma_rf_s, ma_rf_n, ma_ial_ap, ma_ias_ap, List.set_cons_zero, List.set_cons_succ, List.length_cons, List.length_nil, Nat.reduceAdd, Nat.reduceLT, Nat.reduceLeDiff, Nat.le_refl, true_and, and_true, Nat.lt_add_one, fa_lit, nI_add, pk_mul, pk_sub, pk_div, ma_rem_n, nI_ltI, nI_leI, nI_eq, Nat.reduceEqDiff, Nat.reduceMul, Nat.reduceSub, not_false_eq_true, not_true_eq_false, or_true, true_or, or_false, false_or, eq_self, Nat.zero_add, Nat.add_zero]
          have := ih (k + 1) (by omega) (by omega) (some (.int (nI (gmo s (fun x => gc x n k) 6))))
          rw [es] at this
          exact this
        · rw [if_pos (by omega)] at es
          simp (disch := omega) only [w198_0, w198_1, w198_2, w198_4, w198_5, w198_6, w198_7, w198_8, w198_11, w198_12, w198_14, w198_17, w198_18, w198_22, w198_23, w198_26, w198_27, w198_28, w198_30, w198_33, w198_35, w198_37, w198_38, w198_41, w198_43, w198_44, w198_46, w198_47, w198_48, w198_50, w198_51, w198_52, w198_55, w198_58, w198_61, w198_64, w198_65, ma_kV_ap, ma_kC_s, ma_kC_n, ma_kH_ap, ma_gf_ap, ma_pf_ap, ma_cv_ap, ma_nt_0, ma_nt_s, ma_if_t, ma_if_f, ma_set_s, ma_set_ss, ma_set_2, ma_cat_n, ma_cat_i, ma_cat_l, ma_cat_r, ma_clr_n, ma_clr_i, ma_clr_l, ma_clr_r, ma_clr_0, ma_rf_s, ma_rf_n, ma_ial_ap, ma_ias_ap, List.set_cons_zero, List.set_cons_succ, List.length_cons, List.length_nil, Nat.reduceAdd, Nat.reduceLT, Nat.reduceLeDiff, Nat.le_refl, true_and, and_true, Nat.lt_add_one, fa_lit, nI_add, pk_mul, pk_sub, pk_div, ma_rem_n, nI_ltI, nI_leI, nI_eq, Nat.reduceEqDiff, Nat.reduceMul, Nat.reduceSub, not_false_eq_true, not_true_eq_false, or_true, true_or, or_false, false_or, eq_self, Nat.zero_add, Nat.add_zero]
          have := ih (k + 1) (by omega) (by omega) (some (.int (nI (gmo s (fun x => gc x n k) 6))))
          rw [es] at this
          exact this
    have hout : ∀ c n, 17 - n = c → 1 ≤ n → n ≤ 17 → ∀ o4 o5, ma_W (d + 3) 198 Q 7 [some (.int (nI s)), some (.int (vO (glk (gA s) 100 (100 * n - 100)).1)), some (.int (nI (glk (gA s) 100 (100 * n - 100)).2)), some (.int (nI n)), o4, o5] [] H 0 0 := by
      intro c
      induction c with
      | zero =>
        intro n e1 e0 e2 o4 o5
        have en : n = 17 := by omega
        subst en
        have sk := glk_skip (A := gA s) (lo := 100) (c := 1516) 84 (fun j hj => by
          unfold gA; rw [if_neg (by omega)])
        rw [← sk] at h2
        simp (disch := omega) only [w198_0, w198_1, w198_2, w198_4, w198_5, w198_6, w198_7, w198_8, w198_11, w198_12, w198_14, w198_17, w198_18, w198_20, w198_22, w198_23, w198_26, w198_27, w198_28, w198_30, w198_33, w198_35, w198_37, w198_38, w198_41, w198_43, w198_44, w198_46, w198_47, w198_48, w198_50, w198_51, w198_52, w198_55, w198_58, w198_61, w198_64, w198_65, ma_kV_ap, ma_kC_s, ma_kC_n, ma_kH_ap, ma_gf_ap, ma_pf_ap, ma_cv_ap, ma_nt_0, ma_nt_s, ma_if_t, ma_if_f, ma_set_s, ma_set_ss, ma_set_2, ma_cat_n, ma_cat_i, ma_cat_l, ma_cat_r, ma_clr_n, ma_clr_i, ma_clr_l, ma_clr_r, ma_clr_0, ma_rf_s, ma_rf_n, ma_ial_ap, ma_ias_ap, List.set_cons_zero, List.set_cons_succ, List.length_cons, List.length_nil, Nat.reduceAdd, Nat.reduceLT, Nat.reduceLeDiff, Nat.le_refl, true_and, and_true, Nat.lt_add_one, fa_lit, nI_add, pk_mul, pk_sub, pk_div, ma_rem_n, nI_ltI, nI_leI, nI_eq, Nat.reduceEqDiff, Nat.reduceMul, Nat.reduceSub, not_false_eq_true, not_true_eq_false, or_true, true_or, or_false, false_or, eq_self, Nat.zero_add, Nat.add_zero, hz']
        exact h2 hz
      | succ c ih =>
        intro n e1 e0 e2 o4 o5
        have hc : (16 < n) = False := eq_false (by omega)
        simp (disch := omega) only [w198_0, w198_1, w198_2, w198_4, w198_5, w198_6, w198_7, w198_8, w198_11, w198_12, w198_14, w198_17, w198_18, w198_22, w198_23, w198_26, w198_27, w198_28, w198_30, w198_33, w198_35, w198_37, w198_38, w198_41, w198_43, w198_44, w198_46, w198_47, w198_48, w198_50, w198_51, w198_52, w198_55, w198_58, w198_61, w198_64, w198_65, ma_kV_ap, ma_kC_s, ma_kC_n, ma_kH_ap, ma_gf_ap, ma_pf_ap, ma_cv_ap, ma_nt_0, ma_nt_s, ma_if_t, ma_if_f, ma_set_s, ma_set_ss, ma_set_2, ma_cat_n, ma_cat_i, ma_cat_l, ma_cat_r, ma_clr_n, ma_clr_i, ma_clr_l, ma_clr_r, ma_clr_0, ma_rf_s, ma_rf_n, ma_ial_ap, ma_ias_ap, List.set_cons_zero, List.set_cons_succ, List.length_cons, List.length_nil, Nat.reduceAdd, Nat.reduceLT, Nat.reduceLeDiff, Nat.le_refl, true_and, and_true, Nat.lt_add_one, fa_lit, nI_add, pk_mul, pk_sub, pk_div, ma_rem_n, nI_ltI, nI_leI, nI_eq, Nat.reduceEqDiff, Nat.reduceMul, Nat.reduceSub, not_false_eq_true, not_true_eq_false, or_true, true_or, or_false, false_or, eq_self, Nat.zero_add, Nat.add_zero, hz', hc]
        exact hin n e0 (by omega) (fun o4 o5 => ih (n + 1) (by omega) (by omega) (by omega) o4 o5) _ 0 rfl (Nat.zero_le _) _
    simp (disch := omega) only [w198_0, w198_1, w198_2, w198_4, w198_5, w198_6, w198_8, w198_11, w198_12, w198_14, w198_17, w198_18, w198_20, w198_22, w198_23, w198_26, w198_27, w198_28, w198_30, w198_33, w198_35, w198_37, w198_38, w198_41, w198_43, w198_44, w198_46, w198_47, w198_48, w198_50, w198_51, w198_52, w198_55, w198_58, w198_61, w198_64, w198_65, ma_kV_ap, ma_kC_s, ma_kC_n, ma_kH_ap, ma_gf_ap, ma_pf_ap, ma_cv_ap, ma_nt_0, ma_nt_s, ma_if_t, ma_if_f, ma_set_s, ma_set_ss, ma_set_2, ma_cat_n, ma_cat_i, ma_cat_l, ma_cat_r, ma_clr_n, ma_clr_i, ma_clr_l, ma_clr_r, ma_clr_0, ma_rf_s, ma_rf_n, ma_ial_ap, ma_ias_ap, List.set_cons_zero, List.set_cons_succ, List.length_cons, List.length_nil, Nat.reduceAdd, Nat.reduceLT, Nat.reduceLeDiff, Nat.le_refl, true_and, and_true, Nat.lt_add_one, fa_lit, nI_add, pk_mul, pk_sub, pk_div, ma_rem_n, nI_ltI, nI_leI, nI_eq, Nat.reduceEqDiff, Nat.reduceMul, Nat.reduceSub, not_false_eq_true, not_true_eq_false, or_true, true_or, or_false, false_or, eq_self, Nat.zero_add, Nat.add_zero]
    exact hout _ 1 rfl (by omega) (by omega) _ _
end GU

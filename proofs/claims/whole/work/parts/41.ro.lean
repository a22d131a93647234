/-! the class Rows on rows of cards -/
theorem lit48 : (48 : Int32) = nI 48 := rfl
theorem nx_31 (i : Nat) : (3 : Int32) * nI i = nI (3 * i) := pk_mul 3 i
theorem b53 {n : Nat} (h : n < 2 ^ 53) : n < 2 ^ 64 := Nat.lt_trans h (by decide)
theorem gsize {l : List Nat} (h : gk l) : (ma_ushr (enc l) 48).toInt32 = nI l.length := by
  rw [lit48]; unfold enc
  rw [nu_ushr (b53 (gn_lt h)) (by decide), gn_div h, lN_i]
theorem gat {l : List Nat} (h : gk l) {i : Nat} (hi : i < l.length) : ((ma_ushr (enc l) (3 * nI i)) &&& 7).toInt32 = nI l[i] := by
  have h16 := h.1
  rw [nx_31]; unfold enc
  rw [nu_ushr (b53 (gn_lt h)) (by omega), show (7 : Int64) = lN (2 ^ 3 - 1) from rfl, wb_mask (Nat.lt_of_le_of_lt (Nat.div_le_self _ _) (b53 (gn_lt h))) (by decide), lN_i]
  exact congrArg nI (gn_at h hi)
theorem or2 {a b k : Nat} (h : b < 2 ^ k) : 2 ^ k * a ||| b = 2 ^ k * a + b := (Nat.two_pow_add_eq_or_of_lt h a).symm
theorem gk_add {l : List Nat} {c : Nat} (h : gk l) (h16 : l.length < 16) (hc : c < 6) : gk (l ++ [c]) := ⟨by rw [List.length_append]; exact h16, fun d hd => by
  rcases List.mem_append.mp hd with g | g
  · exact h.2 d g
  · rw [List.mem_singleton] at g; rw [g]; exact hc⟩
theorem gn_or {l : List Nat} (h : gk l) (h16 : l.length < 16) {c : Nat} (hc : c < 6) : gn l ||| c * 2 ^ (3 * l.length) = l.length * 2 ^ 48 + gv (l ++ [c]) := by
  have h1 : gv l < 2 ^ (3 * l.length) := by rw [p8]; exact gv_lt h.2
  have h2 : gv (l ++ [c]) < 2 ^ 48 := gk_lt (gk_add h h16 hc)
  have h3 : gv (l ++ [c]) = 2 ^ (3 * l.length) * c + gv l := by rw [gv_app, p8]; show gv l + 8 ^ l.length * (c + 8 * 0) = _; rw [Nat.mul_zero, Nat.add_zero, Nat.add_comm]
  have h4 : gn l = 2 ^ 48 * l.length ||| gv l := by rw [or2 (gk_lt h)]; unfold gn; omega
  rw [h4, Nat.or_assoc, Nat.or_comm (gv l), Nat.mul_comm c, or2 h1, ← h3, or2 h2, Nat.mul_comm]
theorem litO : (281474976710656 : Int64) = lN (2 ^ 48) := by decide
theorem gadd {l : List Nat} (h : gk l) (h16 : l.length < 16) {c : Nat} (hc : c < 6) : (enc l ||| ((nI c).toInt64 <<< ((3 * (ma_ushr (enc l) 48).toInt32).toInt64 &&& 63))) + 281474976710656 = enc (l ++ [c]) := by
  rw [gsize h, nx_31, nI_l (by omega), wb_shl c (by omega)]
  rw [litO]
  unfold enc
  rw [fb_orL, gn_or h h16 hc, lN_add]
  refine congrArg lN ?_
  unfold gn
  rw [List.length_append]
  show _ = (l.length + 1) * 2 ^ 48 + _
  omega
theorem r_size {d : Nat} {l : List Nat} {H : ma_H} {Q : ma_P} (hl : gk l) (h : Q (some (.int (nI l.length))) H) : ma_MW (d + 1) 202 [.long (enc l)] H Q := t_ro_size (by rw [gsize hl]; exact h)
theorem r_at {d : Nat} {l : List Nat} {i : Nat} {H : ma_H} {Q : ma_P} (hl : gk l) (hi : i < l.length) (h : Q (some (.int (nI l[i]))) H) : ma_MW (d + 1) 203 [.long (enc l), .int (nI i)] H Q := t_ro_at (by rw [gat hl hi]; exact h)
theorem r_added {d : Nat} {l : List Nat} {c : Nat} {H : ma_H} {Q : ma_P} (hl : gk l) (h16 : l.length < 16) (hc : c < 6) (h : Q (some (.long (enc (l ++ [c])))) H) : ma_MW (d + 2) 204 [.long (enc l), .int (nI c)] H Q := t_ro_added (by rw [gadd hl h16 hc]; exact h)
theorem lcmp_0 {l : List Nat} (hl : gk l) : (lg_cmp (enc l) 0 = 0) = (l = []) := by
  apply propext
  unfold lg_cmp
  by_cases h : l = []
  · subst h
    exact ⟨fun _ => rfl, fun _ => by decide⟩
  · have h0 : ¬ enc l = 0 := fun e => h ((enc_0 hl).mp e)
    constructor
    · intro e
      by_cases g : enc l > 0
      · rw [if_pos g] at e; exact absurd e (by decide)
      · rw [if_neg g, if_neg h0] at e; exact absurd e (by decide)
    · exact fun e => absurd e h
theorem mask_hi {n : Nat} (h : n < 2 ^ 64) : n &&& (2 ^ 64 - 2 ^ 48) = 2 ^ 48 * (n / 2 ^ 48) := by
  have e : (2 ^ 64 - 2 ^ 48 : Nat) = 2 ^ 48 * (2 ^ 16 - 1) := by decide
  have hn : n = 2 ^ 48 * (n / 2 ^ 48) + n % 2 ^ 48 := by omega
  have hlt : n / 2 ^ 48 < 2 ^ 16 := by omega
  have hm : n % 2 ^ 48 < 2 ^ 48 := Nat.mod_lt _ (by decide)
  apply Nat.eq_of_testBit_eq
  intro j
  rw [Nat.testBit_and, e]
  have t1 : (2 ^ 48 * (2 ^ 16 - 1)).testBit j = if j < 48 then false else (2 ^ 16 - 1).testBit (j - 48) := by
    have := Nat.testBit_two_pow_mul_add (2 ^ 16 - 1) (b := 0) (i := 48) (by decide) j
    rw [Nat.add_zero, Nat.zero_testBit] at this
    exact this
  have t2 : (2 ^ 48 * (n / 2 ^ 48)).testBit j = if j < 48 then false else (n / 2 ^ 48).testBit (j - 48) := by
    have := Nat.testBit_two_pow_mul_add (n / 2 ^ 48) (b := 0) (i := 48) (by decide) j
    rw [Nat.add_zero, Nat.zero_testBit] at this
    exact this
  have t3 : n.testBit j = if j < 48 then (n % 2 ^ 48).testBit j else (n / 2 ^ 48).testBit (j - 48) := by
    have := Nat.testBit_two_pow_mul_add (n / 2 ^ 48) hm j
    rw [← hn] at this
    exact this
  rw [t1, t2, t3]
  by_cases hj : j < 48
  · rw [if_pos hj, if_pos hj, if_pos hj, Bool.and_false]
  · rw [if_neg hj, if_neg hj, if_neg hj, Nat.testBit_two_pow_sub_one]
    by_cases hk : j - 48 < 16
    · rw [decide_eq_true hk, Bool.and_true]
    · rw [decide_eq_false hk, Bool.and_false, Nat.testBit_lt_two_pow (Nat.lt_of_lt_of_le hlt (Nat.pow_le_pow_right (by decide) (by omega)))]
theorem gk_tail {l : List Nat} {c : Nat} (h : gk (c :: l)) : gk l := ⟨Nat.le_of_succ_le h.1, fun d hd => h.2 d (List.mem_cons_of_mem _ hd)⟩
theorem litC : (281474976710655 : Int64) = lN (2 ^ 48 - 1) := by decide
theorem litM : (-281474976710656 : Int64) = lN (2 ^ 64 - 2 ^ 48) := by decide
theorem lt_3 : (3 : Int32) = nI 3 := rfl
theorem gwof {l : List Nat} {c : Nat} (h : gk (c :: l)) : ma_ushr (enc (c :: l) &&& 281474976710655) 3 ||| ((enc (c :: l) &&& (-281474976710656)) - 281474976710656) = enc l := by
  have ht := gk_tail h
  have hn := b53 (gn_lt h)
  have hc := h.2 c List.mem_cons_self
  rw [litC, litM, lt_3, litO]
  unfold enc
  rw [wb_mask hn (by decide), gn_mod h, fb_andL, mask_hi hn, gn_div h, nu_ushr (Nat.lt_trans (gk_lt h) (by decide)) (by decide)]
  show lN ((c + 8 * gv l) / 2 ^ 3) ||| (lN (2 ^ 48 * (l.length + 1)) - lN (2 ^ 48)) = lN (gn l)
  rw [lN_sub (by omega), show (c + 8 * gv l) / 2 ^ 3 = gv l by omega, show 2 ^ 48 * (l.length + 1) - 2 ^ 48 = 2 ^ 48 * l.length by omega, fb_orL, Nat.or_comm, or2 (gk_lt ht)]
  refine congrArg lN ?_
  unfold gn
  omega
theorem r_withoutFirst {d : Nat} {l : List Nat} {c : Nat} {H : ma_H} {Q : ma_P} (hl : gk (c :: l)) (h : Q (some (.long (enc l))) H) : ma_MW (d + 1) 205 [.long (enc (c :: l))] H Q := by
  rw [e205]
  have h0 : ¬ (c :: l = []) := fun e => by cases e
  simp only [w205_0, w205_1, w205_2, w205_3, w205_6, w205_7, w205_10, w205_11, w205_14, w205_15, w205_16, w205_17, w205_18, w205_21, w205_22, w205_25, w205_26, w205_27, ma_kV_ap, ma_kC_s, ma_kC_n, ma_kH_ap, ma_gf_ap, ma_pf_ap, ma_cv_ap, ma_nt_0, ma_nt_s, ma_if_t, ma_if_f, ma_set_s, ma_set_ss, ma_set_2, ma_cat_n, ma_cat_i, ma_cat_l, ma_cat_r, ma_clr_n, ma_clr_i, ma_clr_l, ma_clr_r, ma_clr_0, ma_rf_s, ma_rf_n, ma_ial_ap, ma_ias_ap, List.set_cons_zero, List.set_cons_succ, List.length_cons, List.length_nil, Nat.reduceAdd, Nat.reduceLT, Nat.reduceLeDiff, Nat.le_refl, true_and, and_true, Nat.lt_add_one, lcmp_0 hl, h0]
  rw [gwof hl]
  exact h

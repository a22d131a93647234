/-! Rows: a row of cards in one long -/
theorem t_ro_size {d : Nat} {u : Int64} {H : ma_H} {Q : ma_P} (h : Q (some (.int (ma_ushr u 48).toInt32)) H) : ma_MW (d + 1) 202 [.long u] H Q := by
  rw [e202]
  simp only [w202_0, w202_1, w202_3, w202_4, w202_5, ma_kV_ap, ma_kC_s, ma_kC_n, ma_kH_ap, ma_gf_ap, ma_pf_ap, ma_cv_ap, ma_nt_0, ma_nt_s, ma_if_t, ma_if_f, ma_set_s, ma_set_ss, ma_set_2, ma_cat_n, ma_cat_i, ma_cat_l, ma_cat_r, ma_clr_n, ma_clr_i, ma_clr_l, ma_clr_r, ma_clr_0, ma_rf_s, ma_rf_n, ma_ial_ap, ma_ias_ap, List.set_cons_zero, List.set_cons_succ, List.length_cons, List.length_nil, Nat.reduceAdd, Nat.reduceLT, Nat.reduceLeDiff, Nat.le_refl, true_and, and_true, Nat.lt_add_one]
  exact h
theorem t_ro_at {d : Nat} {u : Int64} {k : Int32} {H : ma_H} {Q : ma_P} (h : Q (some (.int ((ma_ushr u (3 * k)) &&& 7).toInt32)) H) : ma_MW (d + 1) 203 [.long u, .int k] H Q := by
  rw [e203]
  simp only [w203_0, w203_1, w203_2, w203_3, w203_4, w203_5, w203_8, w203_9, w203_10, ma_kV_ap, ma_kC_s, ma_kC_n, ma_kH_ap, ma_gf_ap, ma_pf_ap, ma_cv_ap, ma_nt_0, ma_nt_s, ma_if_t, ma_if_f, ma_set_s, ma_set_ss, ma_set_2, ma_cat_n, ma_cat_i, ma_cat_l, ma_cat_r, ma_clr_n, ma_clr_i, ma_clr_l, ma_clr_r, ma_clr_0, ma_rf_s, ma_rf_n, ma_ial_ap, ma_ias_ap, List.set_cons_zero, List.set_cons_succ, List.length_cons, List.length_nil, Nat.reduceAdd, Nat.reduceLT, Nat.reduceLeDiff, Nat.le_refl, true_and, and_true, Nat.lt_add_one]
  exact h
theorem t_ro_added {d : Nat} {u : Int64} {k : Int32} {H : ma_H} {Q : ma_P} (h : Q (some (.long ((u ||| (k.toInt64 <<< ((3 * (ma_ushr u 48).toInt32).toInt64 &&& 63))) + 281474976710656))) H) : ma_MW (d + 2) 204 [.long u, .int k] H Q := by
  rw [e204]
  simp only [w204_0, w204_1, w204_2, w204_3, w204_4, w204_5, w204_8, w204_9, w204_10, w204_11, w204_14, w204_15, ma_kV_ap, ma_kC_s, ma_kC_n, ma_kH_ap, ma_gf_ap, ma_pf_ap, ma_cv_ap, ma_nt_0, ma_nt_s, ma_if_t, ma_if_f, ma_set_s, ma_set_ss, ma_set_2, ma_cat_n, ma_cat_i, ma_cat_l, ma_cat_r, ma_clr_n, ma_clr_i, ma_clr_l, ma_clr_r, ma_clr_0, ma_rf_s, ma_rf_n, ma_ial_ap, ma_ias_ap, List.set_cons_zero, List.set_cons_succ, List.length_cons, List.length_nil, Nat.reduceAdd, Nat.reduceLT, Nat.reduceLeDiff, Nat.le_refl, true_and, and_true, Nat.lt_add_one]
  refine t_ro_size ?_
  simp only [w204_0, w204_1, w204_2, w204_3, w204_4, w204_5, w204_8, w204_9, w204_10, w204_11, w204_14, w204_15, ma_kV_ap, ma_kC_s, ma_kC_n, ma_kH_ap, ma_gf_ap, ma_pf_ap, ma_cv_ap, ma_nt_0, ma_nt_s, ma_if_t, ma_if_f, ma_set_s, ma_set_ss, ma_set_2, ma_cat_n, ma_cat_i, ma_cat_l, ma_cat_r, ma_clr_n, ma_clr_i, ma_clr_l, ma_clr_r, ma_clr_0, ma_rf_s, ma_rf_n, ma_ial_ap, ma_ias_ap, List.set_cons_zero, List.set_cons_succ, List.length_cons, List.length_nil, Nat.reduceAdd, Nat.reduceLT, Nat.reduceLeDiff, Nat.le_refl, true_and, and_true, Nat.lt_add_one]
  exact h

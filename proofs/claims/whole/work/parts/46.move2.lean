/-! the move of the class is the game's -/
def gtk (kz ko : Nat) (hz ho pl : List Nat) (p db mv tz to : Nat) : ga_T := (kz, ko, if p = 0 then hz ++ gpo kz pl else hz, if p = 0 then ho else ho ++ gpo ko pl, [], p, db, mv, if p = 0 then tz + 1 else tz, if p = 0 then to else to + 1)
def gm2 (kz ko : Nat) (hz ho pl : List Nat) (tu db mv tz to ow : Nat) : ga_T :=
  if 0 < ow then (kz, ko, hz, ho, pl, 1 - tu, ow, mv, tz, to)
  else if 0 < db then (if db - 1 = 0 then gtk kz ko hz ho pl (1 - tu) 0 mv tz to else (kz, ko, hz, ho, pl, tu, db - 1, mv, tz, to))
  else (kz, ko, hz, ho, pl, 1 - tu, db, mv, tz, to)
def gm (t : ga_T) : ga_T := match t with
  | (kz, ko, hz, ho, pl, tu, db, mv, tz, to) => match (if tu = 0 then hz else ho) with
    | [] => (kz, ko, hz, ho, pl, tu, db, mv, tz, to)
    | c :: r => gm2 kz ko (if tu = 0 then r else hz) (if tu = 0 then ho else r) (pl ++ [c]) tu db (mv + 1) tz to (go c (pl.length + 1))
def gdone (t : ga_T) : Prop := match t with | (_, _, hz, ho, _, tu, _, _, _, _) => (if tu = 0 then hz else ho) = []
def gmv (t : ga_T) : Nat := t.2.2.2.2.2.2.2.1
def gtu (t : ga_T) : Nat := t.2.2.2.2.2.1
def ga_ok (t : ga_T) : Prop := match t with
  | (kz, ko, hz, ho, pl, tu, db, mv, tz, to) => kz < 6 ∧ ko < 6 ∧ (∀ c ∈ hz, c < 6) ∧ (∀ c ∈ ho, c < 6) ∧ (∀ c ∈ pl, c < 6) ∧ hz.length + ho.length + pl.length ≤ 16 ∧ tu < 2 ∧ db ≤ 4 ∧ tz ≤ mv ∧ to ≤ mv
theorem ok_tk {kz ko tu mv tz to p : Nat} {hz ho pl : List Nat} (h : ga_ok (kz, ko, hz, ho, pl, tu, 0, mv, tz, to)) (hp : p < 2) (h1 : tz < mv) (h2 : to < mv) : ga_ok (gtk kz ko hz ho pl p 0 mv tz to) := by
  obtain ⟨a1, a2, a3, a4, a5, a6, a7, a8, a9, a10⟩ := h
  have hl : (gpo kz pl).length = pl.length := gpo_len _ _
  have hl2 : (gpo ko pl).length = pl.length := gpo_len _ _
  have hnil : ∀ c ∈ ([] : List Nat), c < 6 := fun c hc => by cases hc
  unfold gtk ga_ok
  rcases (show p = 0 ∨ p = 1 by omega) with rfl | rfl
  · refine ⟨a1, a2, (gk_app a3 (gpo_lt a5) (by omega)).2, a4, hnil, ?_, by omega, by omega, ?_, a10⟩
    · show (hz ++ gpo kz pl).length + ho.length + 0 ≤ 16; rw [List.length_append]; omega
    · show tz + 1 ≤ mv; omega
  · refine ⟨a1, a2, a3, (gk_app a4 (gpo_lt a5) (by omega)).2, hnil, ?_, by omega, by omega, a9, ?_⟩
    · show hz.length + (ho ++ gpo ko pl).length + 0 ≤ 16; rw [List.length_append]; omega
    · show to + 1 ≤ mv; omega
theorem ok_m2 {kz ko tu db mv tz to ow : Nat} {hz ho pl : List Nat} (h : ga_ok (kz, ko, hz, ho, pl, tu, db, mv, tz, to)) (hw : ow ≤ 4) (h1 : tz < mv) (h2 : to < mv) : ga_ok (gm2 kz ko hz ho pl tu db mv tz to ow) := by
  have hh := h
  obtain ⟨a1, a2, a3, a4, a5, a6, a7, a8, a9, a10⟩ := h
  unfold gm2
  split
  · exact ⟨a1, a2, a3, a4, a5, a6, by omega, hw, a9, a10⟩
  · split
    · split
      · exact ok_tk (tu := tu) ⟨a1, a2, a3, a4, a5, a6, a7, by omega, a9, a10⟩ (by omega) h1 h2
      · exact ⟨a1, a2, a3, a4, a5, a6, a7, by omega, a9, a10⟩
    · exact ⟨a1, a2, a3, a4, a5, a6, by omega, a8, a9, a10⟩
theorem gm_cons {kz ko tu db mv tz to c : Nat} {hz ho pl r : List Nat} (e : (if tu = 0 then hz else ho) = c :: r) : gm (kz, ko, hz, ho, pl, tu, db, mv, tz, to) = gm2 kz ko (if tu = 0 then r else hz) (if tu = 0 then ho else r) (pl ++ [c]) tu db (mv + 1) tz to (go c (pl.length + 1)) := by
  unfold gm
  dsimp only
  rw [e]
theorem ok_lay {kz ko tu db mv tz to c : Nat} {hz ho pl r : List Nat} (h : ga_ok (kz, ko, hz, ho, pl, tu, db, mv, tz, to)) (e : (if tu = 0 then hz else ho) = c :: r) : ga_ok (kz, ko, if tu = 0 then r else hz, if tu = 0 then ho else r, pl ++ [c], tu, db, mv + 1, tz, to) ∧ c < 6 := by
  obtain ⟨a1, a2, a3, a4, a5, a6, a7, a8, a9, a10⟩ := h
  rcases (show tu = 0 ∨ tu = 1 by omega) with rfl | rfl
  · have e' : hz = c :: r := e
    subst e'
    have hc := a3 c List.mem_cons_self
    refine ⟨⟨a1, a2, fun d hd => a3 d (List.mem_cons_of_mem _ hd), a4, fun d hd => ?_, ?_, a7, a8, by omega, by omega⟩, hc⟩
    · rcases List.mem_append.mp hd with g | g
      · exact a5 d g
      · rw [List.mem_singleton] at g; omega
    · show r.length + ho.length + (pl ++ [c]).length ≤ 16
      rw [List.length_append]; simp only [List.length_cons, List.length_nil] at a6 ⊢; omega
  · have e' : ho = c :: r := e
    subst e'
    have hc := a4 c List.mem_cons_self
    refine ⟨⟨a1, a2, a3, fun d hd => a4 d (List.mem_cons_of_mem _ hd), fun d hd => ?_, ?_, a7, a8, by omega, by omega⟩, hc⟩
    · rcases List.mem_append.mp hd with g | g
      · exact a5 d g
      · rw [List.mem_singleton] at g; omega
    · show hz.length + r.length + (pl ++ [c]).length ≤ 16
      rw [List.length_append]; simp only [List.length_cons, List.length_nil] at a6 ⊢; omega
theorem ok_gm {t : ga_T} (h : ga_ok t) : ga_ok (gm t) := by
  obtain ⟨kz, ko, hz, ho, pl, tu, db, mv, tz, to⟩ := t
  cases e : (if tu = 0 then hz else ho) with
  | nil => unfold gm; dsimp only; rw [e]; exact h
  | cons c r =>
    rw [gm_cons e]
    obtain ⟨a1, a2, a3, a4, a5, a6, a7, a8, a9, a10⟩ := h
    exact ok_m2 (ok_lay ⟨a1, a2, a3, a4, a5, a6, a7, a8, a9, a10⟩ e).1 (go_le _ _) (by omega) (by omega)
section MW
variable {d i : Nat} {H : ma_H} {Q : ma_P} {kz ko tu db mv tz to : Nat} {hz ho pl : List Nat}
theorem ok_gk {l : List Nat} (h : ∀ c ∈ l, c < 6) (h2 : l.length ≤ 16) : gk l := ⟨h2, h⟩
theorem t_move (hok : ga_ok (kz, ko, hz, ho, pl, tu, db, mv, tz, to)) (hmv : mv < 100000) (hnd : ¬ (if tu = 0 then hz else ho) = []) (hT : H.1 i = tabC (kz, ko, hz, ho, pl, tu, db, mv, tz, to)) (h : Q none (ma_set H i (tabC (gm (kz, ko, hz, ho, pl, tu, db, mv, tz, to))))) : ma_MW (d + 5) 51 [.ref i] H Q := by
  have hT2 := hT
  unfold tabC at hT2
  obtain ⟨a1, a2, a3, a4, a5, a6, a7, a8, a9, a10⟩ := id hok
  obtain ⟨c, r, e⟩ : ∃ c r, (if tu = 0 then hz else ho) = c :: r := by
    cases e : (if tu = 0 then hz else ho) with
    | nil => exact absurd e hnd
    | cons c r => exact ⟨c, r, rfl⟩
  rw [gm_cons e] at h
  obtain ⟨hok1, hc6⟩ := ok_lay hok e
  have hgk : gk (c :: r) := by
    rw [← e]; rcases (show tu = 0 ∨ tu = 1 by omega) with rfl | rfl
    · show gk hz; exact ok_gk a3 (by omega)
    · show gk ho; exact ok_gk a4 (by omega)
  have hpl15 : pl.length < 16 := by
    have h1 : 1 ≤ hz.length + ho.length := by
      rcases (show tu = 0 ∨ tu = 1 by omega) with rfl | rfl
      · have e' : hz = c :: r := e
        rw [e']; simp only [List.length_cons]; omega
      · have e' : ho = c :: r := e
        rw [e']; simp only [List.length_cons]; omega
    omega
  have gpl : gk pl := ok_gk a5 (by omega)
  obtain ⟨b1, b2, b3, b4, b5, b6, b7, b8, b9, b10⟩ := id hok1
  rw [e51]
  simp (disch := omega) only [w51_0, w51_1, w51_2, w51_5, w51_8, w51_9, w51_10, w51_11, w51_14, w51_15, w51_16, w51_17, w51_20, w51_21, w51_24, w51_27, w51_28, w51_29, w51_32, w51_33, w51_36, w51_39, w51_40, w51_40i, w51_41, w51_44, w51_45, w51_46, w51_49, w51_50, w51_51, w51_54, w51_57, w51_60, w51_62, w51_64, w51_67, w51_68, w51_70, w51_73, w51_74, w51_75, w51_78, w51_81, w51_84, w51_85, w51_88, w51_91, w51_92, w51_92i, w51_93, w51_96, w51_97, w51_98, w51_101, w51_102, w51_105, w51_108, w51_109, w51_110, w51_113, w51_116, w51_117, w51_120, w51_123, w51_124, w51_125, w51_128, w51_131, ma_kV_ap, ma_kC_s, ma_kC_n, ma_kH_ap, ma_gf_ap, ma_pf_ap, ma_cv_ap, ma_nt_0, ma_nt_s, ma_if_t, ma_if_f, ma_set_s, ma_set_ss, ma_set_2, ma_cat_n, ma_cat_i, ma_cat_l, ma_cat_r, ma_clr_n, ma_clr_i, ma_clr_l, ma_clr_r, ma_clr_0, ma_rf_s, ma_rf_n, ma_ial_ap, ma_ias_ap, List.set_cons_zero, List.set_cons_succ, List.length_cons, List.length_nil, Nat.reduceAdd, Nat.reduceLT, Nat.reduceLeDiff, Nat.le_refl, true_and, and_true, Nat.lt_add_one, hT2]
  refine t_row (by omega) hT ?_
  rw [ghas_row a7, e]
  simp (disch := omega) only [w51_0, w51_1, w51_2, w51_5, w51_8, w51_9, w51_10, w51_11, w51_14, w51_15, w51_16, w51_17, w51_20, w51_21, w51_24, w51_27, w51_28, w51_29, w51_32, w51_33, w51_36, w51_39, w51_40, w51_40i, w51_41, w51_44, w51_45, w51_46, w51_49, w51_50, w51_51, w51_54, w51_57, w51_60, w51_62, w51_64, w51_67, w51_68, w51_70, w51_73, w51_74, w51_75, w51_78, w51_81, w51_84, w51_85, w51_88, w51_91, w51_92, w51_92i, w51_93, w51_96, w51_97, w51_98, w51_101, w51_102, w51_105, w51_108, w51_109, w51_110, w51_113, w51_116, w51_117, w51_120, w51_123, w51_124, w51_125, w51_128, w51_131, ma_kV_ap, ma_kC_s, ma_kC_n, ma_kH_ap, ma_gf_ap, ma_pf_ap, ma_cv_ap, ma_nt_0, ma_nt_s, ma_if_t, ma_if_f, ma_set_s, ma_set_ss, ma_set_2, ma_cat_n, ma_cat_i, ma_cat_l, ma_cat_r, ma_clr_n, ma_clr_i, ma_clr_l, ma_clr_r, ma_clr_0, ma_rf_s, ma_rf_n, ma_ial_ap, ma_ias_ap, List.set_cons_zero, List.set_cons_succ, List.length_cons, List.length_nil, Nat.reduceAdd, Nat.reduceLT, Nat.reduceLeDiff, Nat.le_refl, true_and, and_true, Nat.lt_add_one, fa_lit]
  refine r_at hgk (by simp) ?_
  simp (disch := omega) only [w51_0, w51_1, w51_2, w51_5, w51_8, w51_9, w51_10, w51_11, w51_14, w51_15, w51_16, w51_17, w51_20, w51_21, w51_24, w51_27, w51_28, w51_29, w51_32, w51_33, w51_36, w51_39, w51_40, w51_40i, w51_41, w51_44, w51_45, w51_46, w51_49, w51_50, w51_51, w51_54, w51_57, w51_60, w51_62, w51_64, w51_67, w51_68, w51_70, w51_73, w51_74, w51_75, w51_78, w51_81, w51_84, w51_85, w51_88, w51_91, w51_92, w51_92i, w51_93, w51_96, w51_97, w51_98, w51_101, w51_102, w51_105, w51_108, w51_109, w51_110, w51_113, w51_116, w51_117, w51_120, w51_123, w51_124, w51_125, w51_128, w51_131, ma_kV_ap, ma_kC_s, ma_kC_n, ma_kH_ap, ma_gf_ap, ma_pf_ap, ma_cv_ap, ma_nt_0, ma_nt_s, ma_if_t, ma_if_f, ma_set_s, ma_set_ss, ma_set_2, ma_cat_n, ma_cat_i, ma_cat_l, ma_cat_r, ma_clr_n, ma_clr_i, ma_clr_l, ma_clr_r, ma_clr_0, ma_rf_s, ma_rf_n, ma_ial_ap, ma_ias_ap, List.set_cons_zero, List.set_cons_succ, List.length_cons, List.length_nil, Nat.reduceAdd, Nat.reduceLT, Nat.reduceLeDiff, Nat.le_refl, true_and, and_true, Nat.lt_add_one, hT2]
  refine r_withoutFirst hgk ?_
  simp (disch := omega) only [w51_0, w51_1, w51_2, w51_5, w51_8, w51_9, w51_10, w51_11, w51_14, w51_15, w51_16, w51_17, w51_20, w51_21, w51_24, w51_27, w51_28, w51_29, w51_32, w51_33, w51_36, w51_39, w51_40, w51_40i, w51_41, w51_44, w51_45, w51_46, w51_49, w51_50, w51_51, w51_54, w51_57, w51_60, w51_62, w51_64, w51_67, w51_68, w51_70, w51_73, w51_74, w51_75, w51_78, w51_81, w51_84, w51_85, w51_88, w51_91, w51_92, w51_92i, w51_93, w51_96, w51_97, w51_98, w51_101, w51_102, w51_105, w51_108, w51_109, w51_110, w51_113, w51_116, w51_117, w51_120, w51_123, w51_124, w51_125, w51_128, w51_131, ma_kV_ap, ma_kC_s, ma_kC_n, ma_kH_ap, ma_gf_ap, ma_pf_ap, ma_cv_ap, ma_nt_0, ma_nt_s, ma_if_t, ma_if_f, ma_set_s, ma_set_ss, ma_set_2, ma_cat_n, ma_cat_i, ma_cat_l, ma_cat_r, ma_clr_n, ma_clr_i, ma_clr_l, ma_clr_r, ma_clr_0, ma_rf_s, ma_rf_n, ma_ial_ap, ma_ias_ap, List.set_cons_zero, List.set_cons_succ, List.length_cons, List.length_nil, Nat.reduceAdd, Nat.reduceLT, Nat.reduceLeDiff, Nat.le_refl, true_and, and_true, Nat.lt_add_one, hT2]
  refine t_setHand a7 hT ?_
  simp (disch := omega) only [w51_0, w51_1, w51_2, w51_5, w51_8, w51_9, w51_10, w51_11, w51_14, w51_15, w51_16, w51_17, w51_20, w51_21, w51_24, w51_27, w51_28, w51_29, w51_32, w51_33, w51_36, w51_39, w51_40, w51_40i, w51_41, w51_44, w51_45, w51_46, w51_49, w51_50, w51_51, w51_54, w51_57, w51_60, w51_62, w51_64, w51_67, w51_68, w51_70, w51_73, w51_74, w51_75, w51_78, w51_81, w51_84, w51_85, w51_88, w51_91, w51_92, w51_92i, w51_93, w51_96, w51_97, w51_98, w51_101, w51_102, w51_105, w51_108, w51_109, w51_110, w51_113, w51_116, w51_117, w51_120, w51_123, w51_124, w51_125, w51_128, w51_131, ma_kV_ap, ma_kC_s, ma_kC_n, ma_kH_ap, ma_gf_ap, ma_pf_ap, ma_cv_ap, ma_nt_0, ma_nt_s, ma_if_t, ma_if_f, ma_set_s, ma_set_ss, ma_set_2, ma_cat_n, ma_cat_i, ma_cat_l, ma_cat_r, ma_clr_n, ma_clr_i, ma_clr_l, ma_clr_r, ma_clr_0, ma_rf_s, ma_rf_n, ma_ial_ap, ma_ias_ap, List.set_cons_zero, List.set_cons_succ, List.length_cons, List.length_nil, Nat.reduceAdd, Nat.reduceLT, Nat.reduceLeDiff, Nat.le_refl, true_and, and_true, Nat.lt_add_one, tabC]
  show ma_MW _ _ [.long (enc pl), .int (nI c)] _ _
  refine r_added gpl hpl15 hc6 ?_
  simp (disch := omega) only [w51_0, w51_1, w51_2, w51_5, w51_8, w51_9, w51_10, w51_11, w51_14, w51_15, w51_16, w51_17, w51_20, w51_21, w51_24, w51_27, w51_28, w51_29, w51_32, w51_33, w51_36, w51_39, w51_40, w51_40i, w51_41, w51_44, w51_45, w51_46, w51_49, w51_50, w51_51, w51_54, w51_57, w51_60, w51_62, w51_64, w51_67, w51_68, w51_70, w51_73, w51_74, w51_75, w51_78, w51_81, w51_84, w51_85, w51_88, w51_91, w51_92, w51_92i, w51_93, w51_96, w51_97, w51_98, w51_101, w51_102, w51_105, w51_108, w51_109, w51_110, w51_113, w51_116, w51_117, w51_120, w51_123, w51_124, w51_125, w51_128, w51_131, ma_kV_ap, ma_kC_s, ma_kC_n, ma_kH_ap, ma_gf_ap, ma_pf_ap, ma_cv_ap, ma_nt_0, ma_nt_s, ma_if_t, ma_if_f, ma_set_s, ma_set_ss, ma_set_2, ma_cat_n, ma_cat_i, ma_cat_l, ma_cat_r, ma_clr_n, ma_clr_i, ma_clr_l, ma_clr_r, ma_clr_0, ma_rf_s, ma_rf_n, ma_ial_ap, ma_ias_ap, List.set_cons_zero, List.set_cons_succ, List.length_cons, List.length_nil, Nat.reduceAdd, Nat.reduceLT, Nat.reduceLeDiff, Nat.le_refl, true_and, and_true, Nat.lt_add_one, tabC, fa_lit, nI_add, pk_mul, pk_sub, pk_div, ma_rem_n, nI_ltI, nI_leI, nI_eq, Nat.reduceEqDiff, Nat.reduceMul, Nat.reduceSub, not_false_eq_true, not_true_eq_false, or_true, true_or, or_false, false_or, eq_self, Nat.zero_add, Nat.add_zero]
  have gpl1 : gk (pl ++ [c]) := gk_add gpl hpl15 hc6
  refine r_size gpl1 ?_
  simp (disch := omega) only [w51_0, w51_1, w51_2, w51_5, w51_8, w51_9, w51_10, w51_11, w51_14, w51_15, w51_16, w51_17, w51_20, w51_21, w51_24, w51_27, w51_28, w51_29, w51_32, w51_33, w51_36, w51_39, w51_40, w51_40i, w51_41, w51_44, w51_45, w51_46, w51_49, w51_50, w51_51, w51_54, w51_57, w51_60, w51_62, w51_64, w51_67, w51_68, w51_70, w51_73, w51_74, w51_75, w51_78, w51_81, w51_84, w51_85, w51_88, w51_91, w51_92, w51_92i, w51_93, w51_96, w51_97, w51_98, w51_101, w51_102, w51_105, w51_108, w51_109, w51_110, w51_113, w51_116, w51_117, w51_120, w51_123, w51_124, w51_125, w51_128, w51_131, ma_kV_ap, ma_kC_s, ma_kC_n, ma_kH_ap, ma_gf_ap, ma_pf_ap, ma_cv_ap, ma_nt_0, ma_nt_s, ma_if_t, ma_if_f, ma_set_s, ma_set_ss, ma_set_2, ma_cat_n, ma_cat_i, ma_cat_l, ma_cat_r, ma_clr_n, ma_clr_i, ma_clr_l, ma_clr_r, ma_clr_0, ma_rf_s, ma_rf_n, ma_ial_ap, ma_ias_ap, List.set_cons_zero, List.set_cons_succ, List.length_cons, List.length_nil, Nat.reduceAdd, Nat.reduceLT, Nat.reduceLeDiff, Nat.le_refl, true_and, and_true, Nat.lt_add_one, tabC, fa_lit, nI_add, pk_mul, pk_sub, pk_div, ma_rem_n, nI_ltI, nI_leI, nI_eq, Nat.reduceEqDiff, Nat.reduceMul, Nat.reduceSub, not_false_eq_true, not_true_eq_false, or_true, true_or, or_false, false_or, eq_self, Nat.zero_add, Nat.add_zero]
  show ma_MW _ _ [.int (nI c), .int (nI (pl ++ [c]).length)] _ _
  refine t_owedFor hc6 (by rw [List.length_append]; simp only [List.length_cons, List.length_nil]; omega) ?_
  rw [show (pl ++ [c]).length = pl.length + 1 by rw [List.length_append]; rfl]
  generalize hH1 : ma_set H i (.inr (4, [.int (nI tu), .int (nI db), .int (nI (mv + 1)), .long (enc (if tu = 0 then r else hz)), .long (enc (if tu = 0 then ho else r)), .long (enc (pl ++ [c])), .int (nI tz), .int (nI to), .int (nI kz), .int (nI ko)])) = H1
  have hTn : H1.1 i = tabC (kz, ko, if tu = 0 then r else hz, if tu = 0 then ho else r, pl ++ [c], tu, db, mv + 1, tz, to) := by rw [← hH1, ma_set_s]; rfl
  have hTn2 := hTn
  unfold tabC at hTn2
  have hss : ∀ x, ma_set H1 i x = ma_set H i x := fun x => by rw [← hH1, ma_set_ss]
  have hw := go_le c (pl.length + 1)
  generalize go c (pl.length + 1) = ow at h hw ⊢
  generalize (if tu = 0 then r else hz) = hz1 at *
  generalize (if tu = 0 then ho else r) = ho1 at *
  simp (disch := omega) only [w51_0, w51_1, w51_2, w51_5, w51_8, w51_9, w51_10, w51_11, w51_14, w51_15, w51_16, w51_17, w51_20, w51_21, w51_24, w51_27, w51_28, w51_29, w51_32, w51_33, w51_36, w51_39, w51_40, w51_40i, w51_41, w51_44, w51_45, w51_46, w51_49, w51_50, w51_51, w51_54, w51_57, w51_60, w51_62, w51_64, w51_67, w51_68, w51_70, w51_73, w51_74, w51_75, w51_78, w51_81, w51_84, w51_85, w51_88, w51_91, w51_92, w51_92i, w51_93, w51_96, w51_97, w51_98, w51_101, w51_102, w51_105, w51_108, w51_109, w51_110, w51_113, w51_116, w51_117, w51_120, w51_123, w51_124, w51_125, w51_128, w51_131, ma_kV_ap, ma_kC_s, ma_kC_n, ma_kH_ap, ma_gf_ap, ma_pf_ap, ma_cv_ap, ma_nt_0, ma_nt_s, ma_if_t, ma_if_f, ma_set_s, ma_set_ss, ma_set_2, ma_cat_n, ma_cat_i, ma_cat_l, ma_cat_r, ma_clr_n, ma_clr_i, ma_clr_l, ma_clr_r, ma_clr_0, ma_rf_s, ma_rf_n, ma_ial_ap, ma_ias_ap, List.set_cons_zero, List.set_cons_succ, List.length_cons, List.length_nil, Nat.reduceAdd, Nat.reduceLT, Nat.reduceLeDiff, Nat.le_refl, true_and, and_true, Nat.lt_add_one, hTn2, fa_lit, nI_add, pk_mul, pk_sub, pk_div, ma_rem_n, nI_ltI, nI_leI, nI_eq, Nat.reduceEqDiff, Nat.reduceMul, Nat.reduceSub, not_false_eq_true, not_true_eq_false, or_true, true_or, or_false, false_or, eq_self, Nat.zero_add, Nat.add_zero]
  unfold gm2 at h
  refine ⟨fun c0 => ?_, fun c0 => ?_⟩
  · rw [if_neg (by omega)] at h
    simp (disch := omega) only [w51_0, w51_1, w51_2, w51_5, w51_8, w51_9, w51_10, w51_11, w51_14, w51_15, w51_16, w51_17, w51_20, w51_21, w51_24, w51_27, w51_28, w51_29, w51_32, w51_33, w51_36, w51_39, w51_40, w51_40i, w51_41, w51_44, w51_45, w51_46, w51_49, w51_50, w51_51, w51_54, w51_57, w51_60, w51_62, w51_64, w51_67, w51_68, w51_70, w51_73, w51_74, w51_75, w51_78, w51_81, w51_84, w51_85, w51_88, w51_91, w51_92, w51_92i, w51_93, w51_96, w51_97, w51_98, w51_101, w51_102, w51_105, w51_108, w51_109, w51_110, w51_113, w51_116, w51_117, w51_120, w51_123, w51_124, w51_125, w51_128, w51_131, ma_kV_ap, ma_kC_s, ma_kC_n, ma_kH_ap, ma_gf_ap, ma_pf_ap, ma_cv_ap, ma_nt_0, ma_nt_s, ma_if_t, ma_if_f, ma_set_s, ma_set_ss, ma_set_2, ma_cat_n, ma_cat_i, ma_cat_l, ma_cat_r, ma_clr_n, ma_clr_i, ma_clr_l, ma_clr_r, ma_clr_0, ma_rf_s, ma_rf_n, ma_ial_ap, ma_ias_ap, List.set_cons_zero, List.set_cons_succ, List.length_cons, List.length_nil, Nat.reduceAdd, Nat.reduceLT, Nat.reduceLeDiff, Nat.le_refl, true_and, and_true, Nat.lt_add_one, hTn2, fa_lit, nI_add, pk_mul, pk_sub, pk_div, ma_rem_n, nI_ltI, nI_leI, nI_eq, Nat.reduceEqDiff, Nat.reduceMul, Nat.reduceSub, not_false_eq_true, not_true_eq_false, or_true, true_or, or_false, false_or, eq_self, Nat.zero_add, Nat.add_zero]
    refine ⟨fun c1 => ?_, fun c1 => ?_⟩
    · rw [if_neg (by omega)] at h
      simp (disch := omega) only [w51_0, w51_1, w51_2, w51_5, w51_8, w51_9, w51_10, w51_11, w51_14, w51_15, w51_16, w51_17, w51_20, w51_21, w51_24, w51_27, w51_28, w51_29, w51_32, w51_33, w51_36, w51_39, w51_40, w51_40i, w51_41, w51_44, w51_45, w51_46, w51_49, w51_50, w51_51, w51_54, w51_57, w51_60, w51_62, w51_64, w51_67, w51_68, w51_70, w51_73, w51_74, w51_75, w51_78, w51_81, w51_84, w51_85, w51_88, w51_91, w51_92, w51_92i, w51_93, w51_96, w51_97, w51_98, w51_101, w51_102, w51_105, w51_108, w51_109, w51_110, w51_113, w51_116, w51_117, w51_120, w51_123, w51_124, w51_125, w51_128, w51_131, ma_kV_ap, ma_kC_s, ma_kC_n, ma_kH_ap, ma_gf_ap, ma_pf_ap, ma_cv_ap, ma_nt_0, ma_nt_s, ma_if_t, ma_if_f, ma_set_s, ma_set_ss, ma_set_2, ma_cat_n, ma_cat_i, ma_cat_l, ma_cat_r, ma_clr_n, ma_clr_i, ma_clr_l, ma_clr_r, ma_clr_0, ma_rf_s, ma_rf_n, ma_ial_ap, ma_ias_ap, List.set_cons_zero, List.set_cons_succ, List.length_cons, List.length_nil, Nat.reduceAdd, Nat.reduceLT, Nat.reduceLeDiff, Nat.le_refl, true_and, and_true, Nat.lt_add_one, hTn2, fa_lit, nI_add, pk_mul, pk_sub, pk_div, ma_rem_n, nI_ltI, nI_leI, nI_eq, Nat.reduceEqDiff, Nat.reduceMul, Nat.reduceSub, not_false_eq_true, not_true_eq_false, or_true, true_or, or_false, false_or, eq_self, Nat.zero_add, Nat.add_zero]
      refine t_other a7 hTn ?_
      simp (disch := omega) only [w51_0, w51_1, w51_2, w51_5, w51_8, w51_9, w51_10, w51_11, w51_14, w51_15, w51_16, w51_17, w51_20, w51_21, w51_24, w51_27, w51_28, w51_29, w51_32, w51_33, w51_36, w51_39, w51_40, w51_40i, w51_41, w51_44, w51_45, w51_46, w51_49, w51_50, w51_51, w51_54, w51_57, w51_60, w51_62, w51_64, w51_67, w51_68, w51_70, w51_73, w51_74, w51_75, w51_78, w51_81, w51_84, w51_85, w51_88, w51_91, w51_92, w51_92i, w51_93, w51_96, w51_97, w51_98, w51_101, w51_102, w51_105, w51_108, w51_109, w51_110, w51_113, w51_116, w51_117, w51_120, w51_123, w51_124, w51_125, w51_128, w51_131, ma_kV_ap, ma_kC_s, ma_kC_n, ma_kH_ap, ma_gf_ap, ma_pf_ap, ma_cv_ap, ma_nt_0, ma_nt_s, ma_if_t, ma_if_f, ma_set_s, ma_set_ss, ma_set_2, ma_cat_n, ma_cat_i, ma_cat_l, ma_cat_r, ma_clr_n, ma_clr_i, ma_clr_l, ma_clr_r, ma_clr_0, ma_rf_s, ma_rf_n, ma_ial_ap, ma_ias_ap, List.set_cons_zero, List.set_cons_succ, List.length_cons, List.length_nil, Nat.reduceAdd, Nat.reduceLT, Nat.reduceLeDiff, Nat.le_refl, true_and, and_true, Nat.lt_add_one, hTn2, fa_lit, nI_add, pk_mul, pk_sub, pk_div, ma_rem_n, nI_ltI, nI_leI, nI_eq, Nat.reduceEqDiff, Nat.reduceMul, Nat.reduceSub, not_false_eq_true, not_true_eq_false, or_true, true_or, or_false, false_or, eq_self, Nat.zero_add, Nat.add_zero, hss]
      exact h
    · rw [if_pos (by omega)] at h
      simp (disch := omega) only [w51_0, w51_1, w51_2, w51_5, w51_8, w51_9, w51_10, w51_11, w51_14, w51_15, w51_16, w51_17, w51_20, w51_21, w51_24, w51_27, w51_28, w51_29, w51_32, w51_33, w51_36, w51_39, w51_40, w51_40i, w51_41, w51_44, w51_45, w51_46, w51_49, w51_50, w51_51, w51_54, w51_57, w51_60, w51_62, w51_64, w51_67, w51_68, w51_70, w51_73, w51_74, w51_75, w51_78, w51_81, w51_84, w51_85, w51_88, w51_91, w51_92, w51_92i, w51_93, w51_96, w51_97, w51_98, w51_101, w51_102, w51_105, w51_108, w51_109, w51_110, w51_113, w51_116, w51_117, w51_120, w51_123, w51_124, w51_125, w51_128, w51_131, ma_kV_ap, ma_kC_s, ma_kC_n, ma_kH_ap, ma_gf_ap, ma_pf_ap, ma_cv_ap, ma_nt_0, ma_nt_s, ma_if_t, ma_if_f, ma_set_s, ma_set_ss, ma_set_2, ma_cat_n, ma_cat_i, ma_cat_l, ma_cat_r, ma_clr_n, ma_clr_i, ma_clr_l, ma_clr_r, ma_clr_0, ma_rf_s, ma_rf_n, ma_ial_ap, ma_ias_ap, List.set_cons_zero, List.set_cons_succ, List.length_cons, List.length_nil, Nat.reduceAdd, Nat.reduceLT, Nat.reduceLeDiff, Nat.le_refl, true_and, and_true, Nat.lt_add_one, hTn2, fa_lit, nI_add, pk_mul, pk_sub, pk_div, ma_rem_n, nI_ltI, nI_leI, nI_eq, Nat.reduceEqDiff, Nat.reduceMul, Nat.reduceSub, not_false_eq_true, not_true_eq_false, or_true, true_or, or_false, false_or, eq_self, Nat.zero_add, Nat.add_zero, hss]
      refine ⟨fun c2 => ?_, fun c2 => ?_⟩
      · rw [if_pos c2] at h
        simp (disch := omega) only [w51_0, w51_1, w51_2, w51_5, w51_8, w51_9, w51_10, w51_11, w51_14, w51_15, w51_16, w51_17, w51_20, w51_21, w51_24, w51_27, w51_28, w51_29, w51_32, w51_33, w51_36, w51_39, w51_40, w51_40i, w51_41, w51_44, w51_45, w51_46, w51_49, w51_50, w51_51, w51_54, w51_57, w51_60, w51_62, w51_64, w51_67, w51_68, w51_70, w51_73, w51_74, w51_75, w51_78, w51_81, w51_84, w51_85, w51_88, w51_91, w51_92, w51_92i, w51_93, w51_96, w51_97, w51_98, w51_101, w51_102, w51_105, w51_108, w51_109, w51_110, w51_113, w51_116, w51_117, w51_120, w51_123, w51_124, w51_125, w51_128, w51_131, ma_kV_ap, ma_kC_s, ma_kC_n, ma_kH_ap, ma_gf_ap, ma_pf_ap, ma_cv_ap, ma_nt_0, ma_nt_s, ma_if_t, ma_if_f, ma_set_s, ma_set_ss, ma_set_2, ma_cat_n, ma_cat_i, ma_cat_l, ma_cat_r, ma_clr_n, ma_clr_i, ma_clr_l, ma_clr_r, ma_clr_0, ma_rf_s, ma_rf_n, ma_ial_ap, ma_ias_ap, List.set_cons_zero, List.set_cons_succ, List.length_cons, List.length_nil, Nat.reduceAdd, Nat.reduceLT, Nat.reduceLeDiff, Nat.le_refl, true_and, and_true, Nat.lt_add_one, hTn2, fa_lit, nI_add, pk_mul, pk_sub, pk_div, ma_rem_n, nI_ltI, nI_leI, nI_eq, Nat.reduceEqDiff, Nat.reduceMul, Nat.reduceSub, not_false_eq_true, not_true_eq_false, or_true, true_or, or_false, false_or, eq_self, Nat.zero_add, Nat.add_zero, hss]
        refine t_other (kz := kz) (ko := ko) (hz := hz1) (ho := ho1) (pl := pl ++ [c]) (db := db - 1) (mv := mv + 1) (tz := tz) (to := to) a7 (by rw [ma_set_s]; rfl) ?_
        simp (disch := omega) only [w51_0, w51_1, w51_2, w51_5, w51_8, w51_9, w51_10, w51_11, w51_14, w51_15, w51_16, w51_17, w51_20, w51_21, w51_24, w51_27, w51_28, w51_29, w51_32, w51_33, w51_36, w51_39, w51_40, w51_40i, w51_41, w51_44, w51_45, w51_46, w51_49, w51_50, w51_51, w51_54, w51_57, w51_60, w51_62, w51_64, w51_67, w51_68, w51_70, w51_73, w51_74, w51_75, w51_78, w51_81, w51_84, w51_85, w51_88, w51_91, w51_92, w51_92i, w51_93, w51_96, w51_97, w51_98, w51_101, w51_102, w51_105, w51_108, w51_109, w51_110, w51_113, w51_116, w51_117, w51_120, w51_123, w51_124, w51_125, w51_128, w51_131, ma_kV_ap, ma_kC_s, ma_kC_n, ma_kH_ap, ma_gf_ap, ma_pf_ap, ma_cv_ap, ma_nt_0, ma_nt_s, ma_if_t, ma_if_f, ma_set_s, ma_set_ss, ma_set_2, ma_cat_n, ma_cat_i, ma_cat_l, ma_cat_r, ma_clr_n, ma_clr_i, ma_clr_l, ma_clr_r, ma_clr_0, ma_rf_s, ma_rf_n, ma_ial_ap, ma_ias_ap, List.set_cons_zero, List.set_cons_succ, List.length_cons, List.length_nil, Nat.reduceAdd, Nat.reduceLT, Nat.reduceLeDiff, Nat.le_refl, true_and, and_true, Nat.lt_add_one, hTn2, fa_lit, nI_add, pk_mul, pk_sub, pk_div, ma_rem_n, nI_ltI, nI_leI, nI_eq, Nat.reduceEqDiff, Nat.reduceMul, Nat.reduceSub, not_false_eq_true, not_true_eq_false, or_true, true_or, or_false, false_or, eq_self, Nat.zero_add, Nat.add_zero, hss]
        refine t_takePile (kz := kz) (ko := ko) (hz := hz1) (ho := ho1) (pl := pl ++ [c]) (tu := 1 - tu) (db := db - 1) (mv := mv + 1) (tz := tz) (to := to) (by omega) b1 b2 (by omega) (by omega) (ok_gk b3 (by omega)) (ok_gk b4 (by omega)) gpl1 b6 (by rw [ma_set_s]; rfl) ?_
        simp (disch := omega) only [w51_0, w51_1, w51_2, w51_5, w51_8, w51_9, w51_10, w51_11, w51_14, w51_15, w51_16, w51_17, w51_20, w51_21, w51_24, w51_27, w51_28, w51_29, w51_32, w51_33, w51_36, w51_39, w51_40, w51_40i, w51_41, w51_44, w51_45, w51_46, w51_49, w51_50, w51_51, w51_54, w51_57, w51_60, w51_62, w51_64, w51_67, w51_68, w51_70, w51_73, w51_74, w51_75, w51_78, w51_81, w51_84, w51_85, w51_88, w51_91, w51_92, w51_92i, w51_93, w51_96, w51_97, w51_98, w51_101, w51_102, w51_105, w51_108, w51_109, w51_110, w51_113, w51_116, w51_117, w51_120, w51_123, w51_124, w51_125, w51_128, w51_131, ma_kV_ap, ma_kC_s, ma_kC_n, ma_kH_ap, ma_gf_ap, ma_pf_ap, ma_cv_ap, ma_nt_0, ma_nt_s, ma_if_t, ma_if_f, ma_set_s, ma_set_ss, ma_set_2, ma_cat_n, ma_cat_i, ma_cat_l, ma_cat_r, ma_clr_n, ma_clr_i, ma_clr_l, ma_clr_r, ma_clr_0, ma_rf_s, ma_rf_n, ma_ial_ap, ma_ias_ap, List.set_cons_zero, List.set_cons_succ, List.length_cons, List.length_nil, Nat.reduceAdd, Nat.reduceLT, Nat.reduceLeDiff, Nat.le_refl, true_and, and_true, Nat.lt_add_one, hTn2, fa_lit, nI_add, pk_mul, pk_sub, pk_div, ma_rem_n, nI_ltI, nI_leI, nI_eq, Nat.reduceEqDiff, Nat.reduceMul, Nat.reduceSub, not_false_eq_true, not_true_eq_false, or_true, true_or, or_false, false_or, eq_self, Nat.zero_add, Nat.add_zero, hss]
        rw [c2]
        exact h
      · rw [if_neg c2] at h
        simp (disch := omega) only [w51_0, w51_1, w51_2, w51_5, w51_8, w51_9, w51_10, w51_11, w51_14, w51_15, w51_16, w51_17, w51_20, w51_21, w51_24, w51_27, w51_28, w51_29, w51_32, w51_33, w51_36, w51_39, w51_40, w51_40i, w51_41, w51_44, w51_45, w51_46, w51_49, w51_50, w51_51, w51_54, w51_57, w51_60, w51_62, w51_64, w51_67, w51_68, w51_70, w51_73, w51_74, w51_75, w51_78, w51_81, w51_84, w51_85, w51_88, w51_91, w51_92, w51_92i, w51_93, w51_96, w51_97, w51_98, w51_101, w51_102, w51_105, w51_108, w51_109, w51_110, w51_113, w51_116, w51_117, w51_120, w51_123, w51_124, w51_125, w51_128, w51_131, ma_kV_ap, ma_kC_s, ma_kC_n, ma_kH_ap, ma_gf_ap, ma_pf_ap, ma_cv_ap, ma_nt_0, ma_nt_s, ma_if_t, ma_if_f, ma_set_s, ma_set_ss, ma_set_2, ma_cat_n, ma_cat_i, ma_cat_l, ma_cat_r, ma_clr_n, ma_clr_i, ma_clr_l, ma_clr_r, ma_clr_0, ma_rf_s, ma_rf_n, ma_ial_ap, ma_ias_ap, List.set_cons_zero, List.set_cons_succ, List.length_cons, List.length_nil, Nat.reduceAdd, Nat.reduceLT, Nat.reduceLeDiff, Nat.le_refl, true_and, and_true, Nat.lt_add_one, hTn2, fa_lit, nI_add, pk_mul, pk_sub, pk_div, ma_rem_n, nI_ltI, nI_leI, nI_eq, Nat.reduceEqDiff, Nat.reduceMul, Nat.reduceSub, not_false_eq_true, not_true_eq_false, or_true, true_or, or_false, false_or, eq_self, Nat.zero_add, Nat.add_zero, hss]
        exact h
  · rw [if_pos (by omega)] at h
    simp (disch := omega) only [w51_0, w51_1, w51_2, w51_5, w51_8, w51_9, w51_10, w51_11, w51_14, w51_15, w51_16, w51_17, w51_20, w51_21, w51_24, w51_27, w51_28, w51_29, w51_32, w51_33, w51_36, w51_39, w51_40, w51_40i, w51_41, w51_44, w51_45, w51_46, w51_49, w51_50, w51_51, w51_54, w51_57, w51_60, w51_62, w51_64, w51_67, w51_68, w51_70, w51_73, w51_74, w51_75, w51_78, w51_81, w51_84, w51_85, w51_88, w51_91, w51_92, w51_92i, w51_93, w51_96, w51_97, w51_98, w51_101, w51_102, w51_105, w51_108, w51_109, w51_110, w51_113, w51_116, w51_117, w51_120, w51_123, w51_124, w51_125, w51_128, w51_131, ma_kV_ap, ma_kC_s, ma_kC_n, ma_kH_ap, ma_gf_ap, ma_pf_ap, ma_cv_ap, ma_nt_0, ma_nt_s, ma_if_t, ma_if_f, ma_set_s, ma_set_ss, ma_set_2, ma_cat_n, ma_cat_i, ma_cat_l, ma_cat_r, ma_clr_n, ma_clr_i, ma_clr_l, ma_clr_r, ma_clr_0, ma_rf_s, ma_rf_n, ma_ial_ap, ma_ias_ap, List.set_cons_zero, List.set_cons_succ, List.length_cons, List.length_nil, Nat.reduceAdd, Nat.reduceLT, Nat.reduceLeDiff, Nat.le_refl, true_and, and_true, Nat.lt_add_one, hTn2, fa_lit, nI_add, pk_mul, pk_sub, pk_div, ma_rem_n, nI_ltI, nI_leI, nI_eq, Nat.reduceEqDiff, Nat.reduceMul, Nat.reduceSub, not_false_eq_true, not_true_eq_false, or_true, true_or, or_false, false_or, eq_self, Nat.zero_add, Nat.add_zero, hss]
    refine t_other (kz := kz) (ko := ko) (hz := hz1) (ho := ho1) (pl := pl ++ [c]) (db := ow) (mv := mv + 1) (tz := tz) (to := to) a7 (by rw [ma_set_s]; rfl) ?_
    simp (disch := omega) only [w51_0, w51_1, w51_2, w51_5, w51_8, w51_9, w51_10, w51_11, w51_14, w51_15, w51_16, w51_17, w51_20, w51_21, w51_24, w51_27, w51_28, w51_29, w51_32, w51_33, w51_36, w51_39, w51_40, w51_40i, w51_41, w51_44, w51_45, w51_46, w51_49, w51_50, w51_51, w51_54, w51_57, w51_60, w51_62, w51_64, w51_67, w51_68, w51_70, w51_73, w51_74, w51_75, w51_78, w51_81, w51_84, w51_85, w51_88, w51_91, w51_92, w51_92i, w51_93, w51_96, w51_97, w51_98, w51_101, w51_102, w51_105, w51_108, w51_109, w51_110, w51_113, w51_116, w51_117, w51_120, w51_123, w51_124, w51_125, w51_128, w51_131, ma_kV_ap, ma_kC_s, ma_kC_n, ma_kH_ap, ma_gf_ap, ma_pf_ap, ma_cv_ap, ma_nt_0, ma_nt_s, ma_if_t, ma_if_f, ma_set_s, ma_set_ss, ma_set_2, ma_cat_n, ma_cat_i, ma_cat_l, ma_cat_r, ma_clr_n, ma_clr_i, ma_clr_l, ma_clr_r, ma_clr_0, ma_rf_s, ma_rf_n, ma_ial_ap, ma_ias_ap, List.set_cons_zero, List.set_cons_succ, List.length_cons, List.length_nil, Nat.reduceAdd, Nat.reduceLT, Nat.reduceLeDiff, Nat.le_refl, true_and, and_true, Nat.lt_add_one, hTn2, fa_lit, nI_add, pk_mul, pk_sub, pk_div, ma_rem_n, nI_ltI, nI_leI, nI_eq, Nat.reduceEqDiff, Nat.reduceMul, Nat.reduceSub, not_false_eq_true, not_true_eq_false, or_true, true_or, or_false, false_or, eq_self, Nat.zero_add, Nat.add_zero, hss]
    exact h
end MW

/-! how the machine's heap holds the abstract one -/
def ms_G : List Cond := lw_tbl.filter goodWord
theorem ms_g {w : Cond} (i : Nat) (h : lw_tbl[i]? = some w) (hg : goodWord w = true) : w ∈ ms_G := List.mem_filter.mpr ⟨List.mem_of_getElem? h, hg⟩
theorem ms_gsub {ws : List Cond} (ps : List Nat) (h : ws = ps.filterMap (fun i => lw_tbl[i]?)) (hg : ws.all goodWord = true) : ∀ w ∈ ws, w ∈ ms_G := by
  intro w hw
  have h1 := List.all_eq_true.mp hg w hw
  rw [h] at hw
  obtain ⟨i, -, hi⟩ := List.mem_filterMap.mp hw
  exact ms_g i hi h1
def ms_cls (ci : Nat) (C : String) (T : u_T) (N : Nat) : Prop := (∀ w ∈ u_ws C T N, w ∈ ms_G) ∧ (∀ k, k < N → parseFieldDescriptor (T k).2.2.1 = some (ma_ft ci k)) ∧ (∀ a, a < N → ∀ b, b < N → a ≠ b → (T a).2.1 ≠ (T b).2.1) ∧ Cond.instantiable C N ∈ ms_G ∧ Cond.initialized C ∈ ms_G
theorem ms_ini {k : Nat} {c : String} (h : mb_own[k]? = some c) : Cond.initialized c ∈ ms_G := by
  have h1 : (mb_own.map (fun c => some (Cond.initialized c)))[k]? = some (some (Cond.initialized c)) := by rw [List.getElem?_map, h]; rfl
  rw [mb_ini, List.getElem?_map] at h1
  cases hp : (([48, 50, 54, 51, 49, 53, 52, 47, 55, 61, 56, 46] : List Nat))[k]? with
  | none => rw [hp] at h1; cases h1
  | some i => rw [hp] at h1; exact ms_g i (Option.some.inj h1) rfl
theorem ms_cls_ok : ∀ (ci : Nat) (C : String) (T : u_T) (N : Nat), mb_cl[ci]? = some (C, T, N) → ms_cls ci C T N := by
  intro ci C T N h
  have hlt : ci < 9 := (List.getElem?_eq_some_iff.mp h).1
  have hi : ∀ c, mb_own[ci]? = some c → Cond.initialized c ∈ ms_G := fun c hc => ms_ini hc
  match ci, hlt with
  | 0, _ => cases h; exact ⟨ms_gsub _ mb_ws0 (by decide +kernel), mb_ty0, mb_nm0, ms_g _ mb_is0 rfl, hi _ rfl⟩
  | 1, _ => cases h; exact ⟨ms_gsub _ mb_ws1 (by decide +kernel), mb_ty1, mb_nm1, ms_g _ mb_is1 rfl, hi _ rfl⟩
  | 2, _ => cases h; exact ⟨ms_gsub _ mb_ws2 (by decide +kernel), mb_ty2, mb_nm2, ms_g _ mb_is2 rfl, hi _ rfl⟩
  | 3, _ => cases h; exact ⟨ms_gsub _ mb_ws3 (by decide +kernel), mb_ty3, mb_nm3, ms_g _ mb_is3 rfl, hi _ rfl⟩
  | 4, _ => cases h; exact ⟨ms_gsub _ mb_ws4 (by decide +kernel), mb_ty4, mb_nm4, ms_g _ mb_is4 rfl, hi _ rfl⟩
  | 5, _ => cases h; exact ⟨ms_gsub _ mb_ws5 (by decide +kernel), mb_ty5, mb_nm5, ms_g _ mb_is5 rfl, hi _ rfl⟩
  | 6, _ => cases h; exact ⟨ms_gsub _ mb_ws6 (by decide +kernel), mb_ty6, mb_nm6, ms_g _ mb_is6 rfl, hi _ rfl⟩
  | 7, _ => cases h; exact ⟨ms_gsub _ mb_ws7 (by decide +kernel), mb_ty7, mb_nm7, ms_g _ mb_is7 rfl, hi _ rfl⟩
  | 8, _ => cases h; exact ⟨ms_gsub _ mb_ws8 (by decide +kernel), mb_ty8, mb_nm8, ms_g _ mb_is8 rfl, hi _ rfl⟩
theorem ms_find {α : Type} {l : List (Nat × Nat × α)} {o ix : Nat} {q : Nat × Nat × α} (h : l.find? (fun q => q.1 == o && q.2.1 == ix) = some q) : q ∈ l ∧ q.1 = o ∧ q.2.1 = ix := by
  have h1 := List.find?_some h
  simp only [Bool.and_eq_true, beq_iff_eq] at h1
  exact ⟨List.mem_of_find?_eq_some h, h1.1, h1.2⟩
theorem mb_fl_own : ∀ q ∈ mb_fl, mb_own[q.1]?.isSome = true := by decide +kernel
theorem ms_on {id : Nat} {o : String} (h : mb_own[ma_ow id]? = some o) : ma_on id = o := by unfold ma_on; rw [h]; rfl
theorem ms_fd {id ix ci k : Nat} (h : ma_fd (ma_ow id) ix = some (ci, k)) : ∃ C T N, mb_cl[ci]? = some (C, T, N) ∧ k < N ∧ Cond.fieldLink (ma_on id) ix (T k).1 (T k).2.1 (T k).2.2.1 ∈ ms_G := by
  unfold ma_fd at h
  cases hf : mb_fl.find? (fun q => q.1 == ma_ow id && q.2.1 == ix) with
  | none => rw [hf] at h; cases h
  | some q =>
    rw [hf] at h
    obtain ⟨h1, h2, h3⟩ := ms_find hf
    obtain ⟨a, b, ci', k', pl⟩ := q
    simp only [Option.map_some, Option.some.injEq, Prod.mk.injEq] at h
    obtain ⟨rfl, rfl⟩ := h
    dsimp only at h2 h3
    subst h2; subst h3
    obtain ⟨c, hc, hk⟩ := mb_fl_lt _ h1
    have h4 := mb_fl_ok _ h1
    have h5 := mb_fl_own _ h1
    dsimp only at hc hk h4 h5
    obtain ⟨o, ho⟩ := Option.isSome_iff_exists.mp h5
    rw [ho, hc] at h4
    simp only [Option.bind_some, Option.map_some] at h4
    rw [ms_on ho]
    exact ⟨c.1, c.2.1, c.2.2, hc, hk, ms_g _ h4 rfl⟩
/-- the classes of arrays -/
def ms_tys (cA : FieldType → ClassId) : List (ClassId × FieldType) := [(cA .int, .int), (cA .byte, .byte), (cA .boolean, .boolean), (cA (.object "BeggarPile$Table"), .object "BeggarPile$Table"), (cA (.object "BeggarPile$Game"), .object "BeggarPile$Game")]
def ms_ad (x : Nat → Nat) (B i : Nat) : Nat := if i < 4 then x i else B + (i - 4)
def ms_v (ad : Nat → Nat) (v : Value) : Value := match v with | .ref i => .ref (ad i) | v => v
def ms_c (cA : FieldType → ClassId) (ad : Nat → Nat) (c : ma_C) : va_E := match c with
  | .inl (t, n, .inr (.inr (.inr (.inr f)))) => .inl (cA t, n, .inr (.inr (.inr (.inr fun j => (f j).map ad))))
  | .inl (t, n, .inl f) => .inl (cA t, n, .inl f)
  | .inl (t, a) => .inl (cA t, a)
  | .inr (ci, fs) => .inr (ci, fs.map (ms_v ad))
theorem ms_v_rf (ad : Nat → Nat) (o : Option Nat) : ms_v ad (va_rf o) = va_rf (o.map ad) := by cases o <;> rfl
theorem ms_v_cat (ad : Nat → Nat) (v : Value) : (ms_v ad v).category = v.category := by cases v <;> rfl
theorem ms_v_nar (ad : Nat → Nat) {ty : FieldType} {v : Value} (h : narrow ty v = v) : narrow ty (ms_v ad v) = ms_v ad v := by
  cases v <;> first | exact h | (cases ty <;> rfl)
theorem ms_v_fit (ad : Nat → Nat) {ty : FieldType} {v : Value} (h : fits ty v = true) : fits ty (ms_v ad v) = true := by
  cases v <;> first | exact h | (cases ty <;> first | exact h | rfl)
theorem ms_v_def (ad : Nat → Nat) (ty : FieldType) : ms_v ad (defaultValue ty) = defaultValue ty := by cases ty <;> rfl
/-- locals -/
def ms_L (ad : Nat → Nat) (n : Nat) (ls : ma_L) (lr : Array Slot) : Prop := ls.length = n ∧ lr.size = n ∧ lv_wf lr ∧ ∀ (i : Nat) (v : Value), ls[i]? = some (some v) → lr[i]? = some (.val (ms_v ad v))
def ms_ll (ad : Nat → Nat) (n : Nat) (ls : ma_L) : List (Nat × Value) := (List.range n).filterMap fun i => (ls[i]?).join.map fun v => (i, ms_v ad v)
theorem ms_ll_mem {ad : Nat → Nat} {n : Nat} {ls : ma_L} {i : Nat} {v : Value} (hi : i < n) (h : ls[i]? = some (some v)) : (i, ms_v ad v) ∈ ms_ll ad n ls := List.mem_filterMap.mpr ⟨i, List.mem_range.mpr hi, by rw [h]; rfl⟩
theorem ms_ll_has {ad : Nat → Nat} {n : Nat} {ls : ma_L} {lr : Array Slot} (h : ms_L ad n ls lr) : lv_has lr n (ms_ll ad n ls) := by
  refine ⟨h.2.1, h.2.2.1, fun q hq => ?_⟩
  obtain ⟨i, -, hi⟩ := List.mem_filterMap.mp hq
  cases hl : ls[i]? with
  | none => rw [hl] at hi; cases hi
  | some o =>
    rw [hl] at hi
    cases o with
    | none => cases hi
    | some v => cases hi; exact h.2.2.2 i v hl
theorem ms_st1_len : ∀ (ls : ma_L) (k : Nat) (v : Value), (ma_st1 ls k v).length = ls.length
  | [], _, _ => rfl
  | _ :: l, 0, v => rfl
  | o :: l, k + 1, v => by simp only [ma_st1, List.length_cons]; rw [ms_st1_len l k v]
theorem ms_st2_len : ∀ (ls : ma_L) (k : Nat) (v : Value), (ma_st2 ls k v).length = ls.length
  | [], _, _ => rfl
  | [_], 0, v => rfl
  | _ :: _ :: l, 0, v => rfl
  | o :: l, k + 1, v => by simp only [ma_st2, List.length_cons]; rw [ms_st2_len l k v]
theorem ms_clr {o : Option Value} {w : Value} (h : ma_clr o = some w) : o = some w ∧ ¬ w.category = 2 := by
  unfold ma_clr at h
  split at h
  · cases h
  · cases h
  · rename_i o h1 h2
    refine ⟨h, fun hc => ?_⟩
    subst h
    cases w <;> first | exact h1 _ rfl | exact h2 _ rfl | exact absurd hc (by simp [Value.category])
theorem ms_st1_at : ∀ (ls : ma_L) (k : Nat) (v w : Value) (i : Nat), (ma_st1 ls k v)[i]? = some (some w) → (i = k ∧ w = v) ∨ (i ≠ k ∧ ls[i]? = some (some w) ∧ ¬ (i + 1 = k ∧ w.category = 2))
  | [], _, _, _, i => fun h => by simp [ma_st1] at h
  | o :: l, 0, v, w, 0 => fun h => by
    simp only [ma_st1, List.getElem?_cons_zero, Option.some.injEq] at h
    exact Or.inl ⟨rfl, h.symm⟩
  | o :: l, 0, v, w, i + 1 => fun h => by
    simp only [ma_st1, List.getElem?_cons_succ] at h
    exact Or.inr ⟨by omega, by rw [List.getElem?_cons_succ]; exact h, by omega⟩
  | o :: l, k + 1, v, w, 0 => fun h => by
    simp only [ma_st1, List.getElem?_cons_zero, Option.some.injEq] at h
    by_cases hk : k = 0
    · rw [if_pos hk] at h
      obtain ⟨h1, h2⟩ := ms_clr h
      exact Or.inr ⟨by omega, by rw [List.getElem?_cons_zero, h1], fun q => h2 q.2⟩
    · rw [if_neg hk] at h
      exact Or.inr ⟨by omega, by rw [List.getElem?_cons_zero, h], by omega⟩
  | o :: l, k + 1, v, w, i + 1 => fun h => by
    simp only [ma_st1, List.getElem?_cons_succ] at h
    rcases ms_st1_at l k v w i h with ⟨h1, h2⟩ | ⟨h1, h2, h3⟩
    · exact Or.inl ⟨by omega, h2⟩
    · exact Or.inr ⟨by omega, by rw [List.getElem?_cons_succ]; exact h2, fun q => h3 ⟨by omega, q.2⟩⟩
theorem ms_st2_at : ∀ (ls : ma_L) (k : Nat) (v w : Value) (i : Nat), (ma_st2 ls k v)[i]? = some (some w) → (i = k ∧ w = v) ∨ (i ≠ k ∧ i ≠ k + 1 ∧ ls[i]? = some (some w) ∧ ¬ (i + 1 = k ∧ w.category = 2))
  | [], _, _, _, i => fun h => by simp [ma_st2] at h
  | o :: l, 0, v, w, 0 => fun h => by
    simp only [ma_st2, List.getElem?_cons_zero, Option.some.injEq] at h
    exact Or.inl ⟨rfl, h.symm⟩
  | [o], 0, v, w, i + 1 => fun h => by simp [ma_st2] at h
  | o :: o2 :: l, 0, v, w, 1 => fun h => by simp [ma_st2] at h
  | o :: o2 :: l, 0, v, w, i + 2 => fun h => by
    simp only [ma_st2, List.getElem?_cons_succ] at h
    exact Or.inr ⟨by omega, by omega, by rw [List.getElem?_cons_succ, List.getElem?_cons_succ]; exact h, by omega⟩
  | o :: l, k + 1, v, w, 0 => fun h => by
    simp only [ma_st2, List.getElem?_cons_zero, Option.some.injEq] at h
    by_cases hk : k = 0
    · rw [if_pos hk] at h
      obtain ⟨h1, h2⟩ := ms_clr h
      exact Or.inr ⟨by omega, by omega, by rw [List.getElem?_cons_zero, h1], fun q => h2 q.2⟩
    · rw [if_neg hk] at h
      exact Or.inr ⟨by omega, by omega, by rw [List.getElem?_cons_zero, h], by omega⟩
  | o :: l, k + 1, v, w, i + 1 => fun h => by
    simp only [ma_st2, List.getElem?_cons_succ] at h
    rcases ms_st2_at l k v w i h with ⟨h1, h2⟩ | ⟨h1, h2, h3, h4⟩
    · exact Or.inl ⟨by omega, h2⟩
    · exact Or.inr ⟨by omega, by omega, by rw [List.getElem?_cons_succ]; exact h3, fun q => h4 ⟨by omega, q.2⟩⟩
theorem ms_L_st1 {ad : Nat → Nat} {n : Nat} {ls : ma_L} {lr lr' : Array Slot} {k : Nat} {v : Value} (h : ms_L ad n ls lr) (h' : lv_has lr' n ((k, ms_v ad v) :: (ms_ll ad n ls).filter (fun q => !(q.1 == k) && !(q.1 + 1 == k && q.2.category == 2)))) : ms_L ad n (ma_st1 ls k v) lr' := by
  refine ⟨by rw [ms_st1_len]; exact h.1, h'.1, h'.2.1, fun i w hi => ?_⟩
  rcases ms_st1_at _ _ _ _ _ hi with ⟨rfl, rfl⟩ | ⟨h1, h2, h3⟩
  · exact h'.2.2 _ List.mem_cons_self
  · have hl : i < n := by rw [← h.1]; exact (List.getElem?_eq_some_iff.mp h2).1
    refine h'.2.2 (i, ms_v ad w) (List.mem_cons_of_mem _ (List.mem_filter.mpr ⟨ms_ll_mem hl h2, ?_⟩))
    simp only [ms_v_cat, Bool.and_eq_true, Bool.not_eq_true', beq_eq_false_iff_ne, ne_eq, Bool.and_eq_false_iff]
    exact ⟨h1, Classical.byContradiction fun hc => h3 ⟨Classical.byContradiction fun z => hc (Or.inl z), Classical.byContradiction fun z => hc (Or.inr z)⟩⟩
theorem ms_L_st2 {ad : Nat → Nat} {n : Nat} {ls : ma_L} {lr lr' : Array Slot} {k : Nat} {v : Value} (h : ms_L ad n ls lr) (h' : lv_has lr' n ((k, ms_v ad v) :: (ms_ll ad n ls).filter (fun q => !(q.1 == k) && (!(q.1 == k + 1) && !(q.1 + 1 == k && q.2.category == 2))))) : ms_L ad n (ma_st2 ls k v) lr' := by
  refine ⟨by rw [ms_st2_len]; exact h.1, h'.1, h'.2.1, fun i w hi => ?_⟩
  rcases ms_st2_at _ _ _ _ _ hi with ⟨rfl, rfl⟩ | ⟨h1, h0, h2, h3⟩
  · exact h'.2.2 _ List.mem_cons_self
  · have hl : i < n := by rw [← h.1]; exact (List.getElem?_eq_some_iff.mp h2).1
    refine h'.2.2 (i, ms_v ad w) (List.mem_cons_of_mem _ (List.mem_filter.mpr ⟨ms_ll_mem hl h2, ?_⟩))
    simp only [ms_v_cat, Bool.and_eq_true, Bool.not_eq_true', beq_eq_false_iff_ne, ne_eq, Bool.and_eq_false_iff]
    exact ⟨h1, h0, Classical.byContradiction fun hc => h3 ⟨Classical.byContradiction fun z => hc (Or.inl z), Classical.byContradiction fun z => hc (Or.inr z)⟩⟩
/-- the heap -/
def ms_I (D : va_G) (cA : FieldType → ClassId) (x : Nat → Nat) (B L : Nat) (xs : Nat → Int32) (H0 : Heap) (h : ma_H) (H : Heap) (locs : List Loc) : Prop :=
  4 ≤ h.2 ∧ H.size = B + (h.2 - 4) ∧ (∀ i, 4 ≤ i → i < h.2 → va_at D mb_cl (B + (i - 4), ms_c cA (ms_ad x B) (h.1 i)) H) ∧ h.1 0 = .inl (.int, L, .inl xs) ∧ (∀ i, 1 ≤ i → i < 4 → h.1 i = .inr (90, [])) ∧ (∀ i, h.2 ≤ i → h.1 i = .inr (99, [])) ∧ (∀ q : Nat, q < B → H[q]? = H0[q]?) ∧ ∀ z ∈ locs, B ≤ z.base
theorem ms_ad_ge {x : Nat → Nat} {B i : Nat} (h : 4 ≤ i) : ms_ad x B i = B + (i - 4) := by unfold ms_ad; rw [if_neg (by omega)]
section MI
variable {D : va_G} {cA : FieldType → ClassId} {x : Nat → Nat} {B L : Nat} {xs : Nat → Int32} {H0 : Heap} {h : ma_H} {H : Heap} {locs : List Loc}
theorem ms_I.obj (hI : ms_I D cA x B L xs H0 h H locs) {i ci : Nat} {fs : List Value} (hi : h.1 i = .inr (ci, fs)) (hc : ci < 9) : 4 ≤ i ∧ i < h.2 ∧ va_at D mb_cl (ms_ad x B i, .inr (ci, fs.map (ms_v (ms_ad x B)))) H := by
  obtain ⟨h4, hsz, hat, h0, h1, h2, -, -⟩ := hI
  have g1 : 4 ≤ i := by
    rcases Nat.lt_or_ge i 4 with g | g
    · rcases Nat.eq_zero_or_pos i with z | z
      · subst z; rw [h0] at hi; cases hi
      · rw [h1 i z g] at hi; cases hi; omega
    · exact g
  have g2 : i < h.2 := by
    rcases Nat.lt_or_ge i h.2 with g | g
    · exact g
    · rw [h2 i g] at hi; cases hi; omega
  refine ⟨g1, g2, ?_⟩
  have := hat i g1 g2
  rw [hi] at this
  rw [ms_ad_ge g1]
  exact this
theorem ms_I.arr (hI : ms_I D cA x B L xs H0 h H locs) {i : Nat} {t : FieldType} {a : vp_A} (h4 : 4 ≤ i) (hi : h.1 i = .inl (t, a)) : i < h.2 ∧ va_at D mb_cl (ms_ad x B i, ms_c cA (ms_ad x B) (.inl (t, a))) H := by
  obtain ⟨_, hsz, hat, h0, h1, h2, -, -⟩ := hI
  have g2 : i < h.2 := by
    rcases Nat.lt_or_ge i h.2 with g | g
    · exact g
    · rw [h2 i g] at hi; cases hi
  refine ⟨g2, ?_⟩
  have := hat i h4 g2
  rw [hi] at this
  rw [ms_ad_ge h4]
  exact this
theorem ms_I.arr4 (hI : ms_I D cA x B L xs H0 h H locs) {i : Nat} {t : FieldType} {n : Nat} {f : Nat → Option Nat} (hi : h.1 i = .inl (t, n, .inr (.inr (.inr (.inr f))))) : 4 ≤ i := by
  obtain ⟨_, hsz, hat, h0, h1, h2, -, -⟩ := hI
  rcases Nat.lt_or_ge i 4 with g | g
  · rcases Nat.eq_zero_or_pos i with z | z
    · subst z; rw [h0] at hi; cases hi
    · rw [h1 i z g] at hi; cases hi
  · exact g
/-- one cell is changed -/
theorem ms_I.set (hI : ms_I D cA x B L xs H0 h H locs) {i : Nat} {c : ma_C} {H1 : Heap} {locs1 : List Loc} (g1 : 4 ≤ i) (g2 : i < h.2) (he : va_at D mb_cl (ms_ad x B i, ms_c cA (ms_ad x B) c) H1) (hz : H1.size = H.size) (ho : ∀ q : Nat, q ≠ ms_ad x B i → H1[q]? = H[q]?) (hl : ∀ z ∈ locs1, z ∈ locs ∨ z.base = ms_ad x B i) : ms_I D cA x B L xs H0 (ma_set h i c) H1 locs1 := by
  obtain ⟨h4, hsz, hat, h0, h1, h2, hB, hlo⟩ := hI
  rw [ms_ad_ge g1] at he ho hl
  refine ⟨h4, hz.trans hsz, fun j j1 j2 => ?_, ?_, fun j j1 j2 => ?_, fun j j1 => ?_, fun q hq => ?_, fun z hz => ?_⟩
  · by_cases hj : j = i
    · subst hj; rw [ma_set_s]; exact he
    · rw [ma_set_n _ _ hj]
      exact (hat j j1 j2).kept (ho _ (by show B + (j - 4) ≠ B + (i - 4); omega))
  · rw [ma_set_n _ _ (by omega)]; exact h0
  · rw [ma_set_n _ _ (by omega)]; exact h1 j j1 j2
  · rw [ma_set_2] at j1; rw [ma_set_n _ _ (by omega)]; exact h2 j j1
  · rw [ho q (by omega)]; exact hB q hq
  · rcases hl z hz with g | g
    · exact hlo z g
    · rw [g]; exact Nat.le_add_right _ _
/-- a cell comes -/
theorem ms_I.new (hI : ms_I D cA x B L xs H0 h H locs) {c : ma_C} {H1 : Heap} (he : va_at D mb_cl (H.size, ms_c cA (ms_ad x B) c) H1) (hz : H1.size = H.size + 1) (ho : ∀ q : Nat, q < H.size → H1[q]? = H[q]?) : ms_I D cA x B L xs H0 (ma_new h c) H1 locs ∧ ms_ad x B h.2 = H.size := by
  obtain ⟨h4, hsz, hat, h0, h1, h2, hB, hlo⟩ := hI
  refine ⟨⟨by rw [ma_new_2]; omega, by rw [ma_new_2, hz]; omega, fun j j1 j2 => ?_, ?_, fun j j1 j2 => ?_, fun j j1 => ?_, fun q hq => ?_, hlo⟩, by rw [ms_ad_ge h4]; exact hsz.symm⟩
  · rw [ma_new_2] at j2
    by_cases hj : j = h.2
    · subst hj; rw [ma_new_s, ← hsz]; exact he
    · rw [ma_new_n _ _ hj]
      exact (hat j j1 (by omega)).kept (ho _ (by show B + (j - 4) < _; omega))
  · rw [ma_new_n _ _ (by omega)]; exact h0
  · rw [ma_new_n _ _ (by omega)]; exact h1 j j1 j2
  · rw [ma_new_2] at j1; rw [ma_new_n _ _ (by omega)]; exact h2 j (by omega)
  · rw [ho q (by omega)]; exact hB q hq
end MI

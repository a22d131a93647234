/-! games that go on -/
def git : Nat → ga_T → ga_T
  | 0, t => t
  | n + 1, t => git n (gm t)
theorem git_s : ∀ (n : Nat) (t : ga_T), git (n + 1) t = gm (git n t)
  | 0, _ => rfl
  | n + 1, t => git_s n (gm t)
theorem git_add : ∀ (a b : Nat) (t : ga_T), git (a + b) t = git a (git b t)
  | a, 0, t => rfl
  | a, b + 1, t => git_add a b (gm t)
theorem ok_git {t : ga_T} (h : ga_ok t) : ∀ n, ga_ok (git n t)
  | 0 => h
  | n + 1 => by rw [git_s]; exact ok_gm (ok_git h n)
/-- n is the first number of moves behind which it is done -/
def gfirst (t : ga_T) (n : Nat) : Prop := gdone (git n t) ∧ ∀ k, k < n → ¬ gdone (git k t)
theorem gfirst_uniq {t : ga_T} {a b : Nat} (ha : gfirst t a) (hb : gfirst t b) : a = b := by
  rcases Nat.lt_trichotomy a b with h | h | h
  · exact absurd ha.1 (hb.2 a h)
  · exact h
  · exact absurd hb.1 (ha.2 b h)
def gcore (t : ga_T) : Nat × Nat × List Nat × List Nat × List Nat × Nat × Nat := match t with | (kz, ko, hz, ho, pl, tu, db, _, _, _) => (kz, ko, hz, ho, pl, tu, db)
theorem gcore_done {a b : ga_T} (h : gcore a = gcore b) : gdone a ↔ gdone b := by
  obtain ⟨kz, ko, hz, ho, pl, tu, db, mv, tz, to⟩ := a
  obtain ⟨kz', ko', hz', ho', pl', tu', db', mv', tz', to'⟩ := b
  simp only [gcore, Prod.mk.injEq] at h
  obtain ⟨rfl, rfl, rfl, rfl, rfl, rfl, rfl⟩ := h
  exact Iff.rfl
theorem gcore_m2 {kz ko tu db mv tz to ow mv' tz' to' : Nat} {hz ho pl : List Nat} : gcore (gm2 kz ko hz ho pl tu db mv tz to ow) = gcore (gm2 kz ko hz ho pl tu db mv' tz' to' ow) := by
  unfold gm2
  split
  · rfl
  · split
    · split <;> rfl
    · rfl
theorem gcore_gm {a b : ga_T} (h : gcore a = gcore b) : gcore (gm a) = gcore (gm b) := by
  obtain ⟨kz, ko, hz, ho, pl, tu, db, mv, tz, to⟩ := a
  obtain ⟨kz', ko', hz', ho', pl', tu', db', mv', tz', to'⟩ := b
  simp only [gcore, Prod.mk.injEq] at h
  obtain ⟨rfl, rfl, rfl, rfl, rfl, rfl, rfl⟩ := h
  cases e : (if tu = 0 then hz else ho) with
  | nil => unfold gm; dsimp only; rw [e]; rfl
  | cons c r => rw [gm_cons e, gm_cons e]; exact gcore_m2
theorem gcore_git {a b : ga_T} (h : gcore a = gcore b) : ∀ n, gcore (git n a) = gcore (git n b)
  | 0 => h
  | n + 1 => by rw [git_s, git_s]; exact gcore_gm (gcore_git h n)
theorem gkind2 {kz ko tu db mv tz to ow : Nat} {hz ho pl : List Nat} : (gm2 kz ko hz ho pl tu db mv tz to ow).1 = kz ∧ (gm2 kz ko hz ho pl tu db mv tz to ow).2.1 = ko := by
  unfold gm2 gtk
  split
  · exact ⟨rfl, rfl⟩
  · split
    · split <;> exact ⟨rfl, rfl⟩
    · exact ⟨rfl, rfl⟩
theorem gkind {t : ga_T} : (gm t).1 = t.1 ∧ (gm t).2.1 = t.2.1 := by
  obtain ⟨kz, ko, hz, ho, pl, tu, db, mv, tz, to⟩ := t
  cases e : (if tu = 0 then hz else ho) with
  | nil => unfold gm; dsimp only; rw [e]; exact ⟨rfl, rfl⟩
  | cons c r => rw [gm_cons e]; exact gkind2
theorem gkind_git (t : ga_T) : ∀ n, (git n t).1 = t.1 ∧ (git n t).2.1 = t.2.1
  | 0 => ⟨rfl, rfl⟩
  | n + 1 => by rw [git_s, (gkind).1, (gkind).2]; exact gkind_git t n
/-- moves are counted while it is not done -/
theorem gmv2 {kz ko tu db mv tz to ow : Nat} {hz ho pl : List Nat} : gmv (gm2 kz ko hz ho pl tu db mv tz to ow) = mv := by
  unfold gm2 gtk gmv
  split
  · rfl
  · split
    · split <;> rfl
    · rfl
theorem gmv_gm {t : ga_T} (h : ¬ gdone t) : gmv (gm t) = gmv t + 1 := by
  obtain ⟨kz, ko, hz, ho, pl, tu, db, mv, tz, to⟩ := t
  cases e : (if tu = 0 then hz else ho) with
  | nil => exact absurd e h
  | cons c r => rw [gm_cons e, gmv2]; rfl
theorem gmv_le {t : ga_T} : gmv (gm t) ≤ gmv t + 1 := by
  obtain ⟨kz, ko, hz, ho, pl, tu, db, mv, tz, to⟩ := t
  cases e : (if tu = 0 then hz else ho) with
  | nil => unfold gm; dsimp only; rw [e]; exact Nat.le_succ _
  | cons c r => rw [gm_cons e, gmv2]; exact Nat.le_refl _
theorem gmv_git (t : ga_T) : ∀ n, gmv (git n t) ≤ gmv t + n
  | 0 => Nat.le_refl _
  | n + 1 => by rw [git_s]; have := gmv_git t n; have := gmv_le (t := git n t); omega
/-- what comes round never ends -/
theorem ground {t : ga_T} {k m : Nat} (hkm : k < m) (hc : gcore (git m t) = gcore (git k t)) (hnd : ∀ j, j ≤ m → ¬ gdone (git j t)) : ∀ j, ¬ gdone (git j t) := by
  intro j
  induction j using Nat.strongRecOn with
  | ind j ih =>
    rcases Nat.lt_or_ge m j with h | h
    · have e1 : git j t = git (j - m) (git m t) := by rw [← git_add]; congr 1; omega
      have e2 : git (k + (j - m)) t = git (j - m) (git k t) := by rw [← git_add]; congr 1; omega
      rw [e1]
      intro hd
      have := (gcore_done (gcore_git hc (j - m))).mp hd
      rw [← e2] at this
      exact ih (k + (j - m)) (by omega) this
    · exact hnd j h
theorem ng_ne {a : Nat} (h : a < 2 ^ 31) : (nI a = -nI 1) = False := eq_false (fun e => by
  have h1 := congrArg Int32.toInt e
  rw [nI_toInt h] at h1
  have h2 : (-nI 1).toInt = -1 := by decide
  omega)
def trC (bc bm : Int32) : ma_C := .inr (6, [.int bc, .int bm, .ref 30, .ref 31, .ref 32])
section PO
variable {d : Nat} {H : ma_H} {Q : ma_P} {bc bm : Int32}
theorem t_isDone' {i : Nat} {t : ga_T} (hok : ga_ok t) (hT : H.1 i = tabC t) (h1 : gdone t → Q (some (.int (nI 1))) H) (h0 : ¬ gdone t → Q (some (.int (nI 0))) H) : ma_MW (d + 2) 47 [.ref i] H Q := by
  obtain ⟨kz, ko, hz, ho, pl, tu, db, mv, tz, to⟩ := t
  obtain ⟨a1, a2, a3, a4, a5, a6, a7, a8, a9, a10⟩ := hok
  refine t_isDone a7 ?_ hT ?_
  · split
    · exact ok_gk a3 (by omega)
    · exact ok_gk a4 (by omega)
  · by_cases hd : (if tu = 0 then hz else ho) = []
    · rw [if_pos hd]; exact h1 hd
    · rw [if_neg hd]; exact h0 hd
theorem t_move' {i : Nat} {t : ga_T} (hok : ga_ok t) (hmv : gmv t < 100000) (hnd : ¬ gdone t) (hT : H.1 i = tabC t) (h : Q none (ma_set H i (tabC (gm t)))) : ma_MW (d + 5) 51 [.ref i] H Q := by
  obtain ⟨kz, ko, hz, ho, pl, tu, db, mv, tz, to⟩ := t
  exact t_move hok hmv hnd hT h
theorem t_copyFrom' {i j : Nat} {t t' : ga_T} (hij : j ≠ i) (hT : H.1 i = tabC t) (hT' : H.1 j = tabC t') (h : Q none (ma_set H i (tabC t'))) : ma_MW (d + 1) 35 [.ref i, .ref j] H Q := by
  obtain ⟨kz, ko, hz, ho, pl, tu, db, mv, tz, to⟩ := t
  obtain ⟨kz', ko', hz', ho', pl', tu', db', mv', tz', to'⟩ := t'
  exact t_copyFrom hT hij hT' h
theorem t_liesAs' {i j : Nat} {t t' : ga_T} (hok : ga_ok t) (hok' : ga_ok t') (hk : t.1 = t'.1 ∧ t.2.1 = t'.2.1) (hT : H.1 i = tabC t) (hT' : H.1 j = tabC t') (h1 : gcore t = gcore t' → Q (some (.int (nI 1))) H) (h0 : gcore t ≠ gcore t' → Q (some (.int (nI 0))) H) : ma_MW (d + 1) 36 [.ref i, .ref j] H Q := by
  obtain ⟨kz, ko, hz, ho, pl, tu, db, mv, tz, to⟩ := t
  obtain ⟨kz', ko', hz', ho', pl', tu', db', mv', tz', to'⟩ := t'
  obtain ⟨a1, a2, a3, a4, a5, a6, a7, a8, a9, a10⟩ := hok
  obtain ⟨b1, b2, b3, b4, b5, b6, b7, b8, b9, b10⟩ := hok'
  obtain ⟨e1, e2⟩ := hk
  dsimp only at e1 e2
  subst e1; subst e2
  refine t_liesAs (by omega) (by omega) (by omega) (by omega) (ok_gk a3 (by omega)) (ok_gk a4 (by omega)) (ok_gk a5 (by omega)) (ok_gk b3 (by omega)) (ok_gk b4 (by omega)) (ok_gk b5 (by omega)) hT hT' ?_
  by_cases hc : hz = hz' ∧ ho = ho' ∧ pl = pl' ∧ tu = tu' ∧ db = db'
  · rw [if_pos hc]
    obtain ⟨rfl, rfl, rfl, rfl, rfl⟩ := hc
    exact h1 rfl
  · rw [if_neg hc]
    refine h0 (fun e => hc ?_)
    simp only [gcore, Prod.mk.injEq] at e
    exact ⟨e.2.2.1, e.2.2.2.1, e.2.2.2.2.1, e.2.2.2.2.2.1, e.2.2.2.2.2.2⟩
end PO

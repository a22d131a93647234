/-! reading a game: as mathematics, and the class Reader -/
abbrev isN (tx : List Nat) (p a b : Nat) : Prop := gkd tx p = 2 ∧ a ≤ gnm tx p ∧ gnm tx p ≤ b
def gdealT (t : ga_T) (p c : Nat) : ga_T := match t with | (kz, ko, hz, ho, r) => (kz, ko, if p = 0 then hz ++ [c] else hz, if p = 0 then ho else ho ++ [c], r)
def gall (t : ga_T) : Nat := t.2.2.1.length + t.2.2.2.1.length + t.2.2.2.2.1.length
noncomputable def gdl (tx : List Nat) (q : Nat) : Nat → Nat → ga_T → Nat → Nat × ga_T × Nat
  | 0, p, t, n => (p, t, n)
  | r + 1, p, t, n => if gall t < 16 ∧ isN tx p 0 5 then gdl tx q r (gen tx p) (gdealT t q (gnm tx p)) (n + 1) else (p, t, n)
noncomputable def gGame (tx : List Nat) (p : Nat) : Nat ⊕ (Nat × ga_T) :=
  if gkd tx p = 3 then
    if isN tx (gen tx p) 0 5 then
      if isN tx (gen tx (gen tx p)) 0 5 then
        if gkd tx (gen tx (gen tx (gen tx p))) = 1 then .inr (gen tx (gen tx (gen tx (gen tx p))), (gnm tx (gen tx p), gnm tx (gen tx (gen tx p)), [], [], [], 0, 0, 0, 0, 0))
        else .inl (gst tx (gen tx (gen tx (gen tx p))))
      else .inl (gst tx (gen tx (gen tx p)))
    else .inl (gst tx (gen tx p))
  else .inl (gst tx p)
noncomputable def gHand (tx : List Nat) (p : Nat) (t : ga_T) : Nat ⊕ (Nat × ga_T) :=
  if gkd tx p = 4 then
    if isN tx (gen tx p) 0 1 then
      if 0 < (gdl tx (gnm tx (gen tx p)) 9 (gen tx (gen tx p)) t 0).2.2 ∧ gkd tx (gdl tx (gnm tx (gen tx p)) 9 (gen tx (gen tx p)) t 0).1 = 1 then .inr (gen tx (gdl tx (gnm tx (gen tx p)) 9 (gen tx (gen tx p)) t 0).1, (gdl tx (gnm tx (gen tx p)) 9 (gen tx (gen tx p)) t 0).2.1)
      else .inl (gst tx (gdl tx (gnm tx (gen tx p)) 9 (gen tx (gen tx p)) t 0).1)
    else .inl (gst tx (gen tx p))
  else .inl (gst tx p)
noncomputable def gLay (tx : List Nat) (p : Nat) (t : ga_T) : Nat ⊕ (Nat × ga_T) :=
  if gkd tx p = 5 then
    if isN tx (gen tx p) 1 99 then
      if gkd tx (gen tx (gen tx p)) = 1 then .inr (gen tx (gen tx (gen tx p)), git (gnm tx (gen tx p)) t)
      else .inl (gst tx (gen tx (gen tx p)))
    else .inl (gst tx (gen tx p))
  else .inl (gst tx p)
noncomputable def gItem (tx : List Nat) (p : Nat) (t : ga_T) : Nat ⊕ (Nat × ga_T) := if gkd tx p = 4 then gHand tx p t else gLay tx p t
noncomputable def gRun (tx : List Nat) : Nat → Nat → Nat → ga_T → Nat ⊕ (Nat × ga_T)
  | 0, _, _, _ => .inl 0
  | f + 1, p, n, t => if gkd tx p = 0 then .inr (n, t) else match gItem tx p t with | .inl s => .inl s | .inr (p', t') => gRun tx f p' (n + 1) t'
noncomputable def gRead (tx : List Nat) : Nat ⊕ (Nat × ga_T) := match gGame tx 0 with | .inl s => .inl s | .inr (p, t) => gRun tx 200 p 1 t
theorem gdl_y {tx : List Nat} {q r p n : Nat} {t : ga_T} (h : gall t < 16 ∧ isN tx p 0 5) : gdl tx q (r + 1) p t n = gdl tx q r (gen tx p) (gdealT t q (gnm tx p)) (n + 1) := if_pos h
theorem gdl_n {tx : List Nat} {q r p n : Nat} {t : ga_T} (h : ¬ (gall t < 16 ∧ isN tx p 0 5)) : gdl tx q (r + 1) p t n = (p, t, n) := if_neg h
theorem gm_done {t : ga_T} (h : gdone t) : gm t = t := by
  obtain ⟨kz, ko, hz, ho, pl, tu, db, mv, tz, to⟩ := t
  have h : (if tu = 0 then hz else ho) = [] := h
  unfold gm
  dsimp only
  rw [h]
theorem git_done {t : ga_T} {k : Nat} (h : gdone (git k t)) : ∀ n, git (k + n) t = git k t
  | 0 => rfl
  | n + 1 => by rw [← Nat.add_assoc, git_s, git_done h n, gm_done h]
theorem git_beh {t : ga_T} {n k : Nat} (h : gbeh t n k) : git n t = git k t := by
  rcases h.2.2 with e | e
  · rw [e]
  · have := git_done e (n - k)
    rw [show k + (n - k) = n by have := h.1; omega] at this
    exact this
theorem git_upto {t : ga_T} {n m : Nat} (h : gupto t n m) (hm : gmv t + n < 9999) : git n t = git m t := by
  rcases h.2.2 with e | e
  · rw [e]
  · have h1 := gmv_git t m
    have h2 := h.1
    have hd : gdone (git m t) := Classical.byContradiction (fun z => e ⟨z, by omega⟩)
    have := git_done hd (n - m)
    rw [show m + (n - m) = n by omega] at this
    exact this
theorem isN_gen {tx : List Nat} {p a b : Nat} (hp : p ≤ tx.length) (h : isN tx p a b) : gen tx p ≤ tx.length := gen_le' hp (by rw [h.1]; decide)
theorem gkd_gen {tx : List Nat} {p k : Nat} (hp : p ≤ tx.length) (h : gkd tx p = k + 1) : gen tx p ≤ tx.length := gen_le' hp (by rw [h]; omega)
theorem gen_p {tx : List Nat} {p : Nat} : p + 1 ≤ gen tx p := by
  have h1 := gen_gt (tx := tx) (p := p)
  have h2 := gst_ge (tx := tx) (p := p)
  omega
theorem ok_deal {t : ga_T} {p c : Nat} (hp : p < 2) (hc : c < 6) (hok : ga_ok t) (h16 : gall t < 16) : ga_ok (gdealT t p c) := by
  obtain ⟨kz, ko, hz, ho, pl, tu, db, mv, tz, to⟩ := t
  obtain ⟨a1, a2, a3, a4, a5, a6, a7, a8, a9, a10⟩ := hok
  have h16 : hz.length + ho.length + pl.length < 16 := h16
  rcases (show p = 0 ∨ p = 1 by omega) with rfl | rfl
  · refine ⟨a1, a2, fun d hd => ?_, a4, a5, ?_, a7, a8, a9, a10⟩
    · rcases List.mem_append.mp hd with g | g
      · exact a3 d g
      · rw [List.mem_singleton] at g; omega
    · show (hz ++ [c]).length + ho.length + pl.length ≤ 16
      rw [List.length_append]; simp only [List.length_cons, List.length_nil]; omega
  · refine ⟨a1, a2, a3, fun d hd => ?_, a5, ?_, a7, a8, a9, a10⟩
    · rcases List.mem_append.mp hd with g | g
      · exact a4 d g
      · rw [List.mem_singleton] at g; omega
    · show hz.length + (ho ++ [c]).length + pl.length ≤ 16
      rw [List.length_append]; simp only [List.length_cons, List.length_nil]; omega
theorem gmv_deal {t : ga_T} {p c : Nat} : gmv (gdealT t p c) = gmv t := by obtain ⟨kz, ko, hz, ho, pl, tu, db, mv, tz, to⟩ := t; rfl
theorem gdl_ok {tx : List Nat} {q : Nat} (hq : q < 2) : ∀ r p t n, p ≤ tx.length → ga_ok t → (gdl tx q r p t n).1 ≤ tx.length ∧ p ≤ (gdl tx q r p t n).1 ∧ ga_ok (gdl tx q r p t n).2.1 ∧ gmv (gdl tx q r p t n).2.1 = gmv t
  | 0, p, t, n, hp, hok => ⟨hp, Nat.le_refl _, hok, rfl⟩
  | r + 1, p, t, n, hp, hok => by
    by_cases h : gall t < 16 ∧ isN tx p 0 5
    · rw [gdl_y h]
      have hn := h.2.2.2
      obtain ⟨a, b, c, e⟩ := gdl_ok hq r (gen tx p) (gdealT t q (gnm tx p)) (n + 1) (isN_gen hp h.2) (ok_deal hq (by omega) hok h.1)
      have := gen_p (tx := tx) (p := p)
      exact ⟨a, by omega, c, by rw [e, gmv_deal]⟩
    · rw [gdl_n h]; exact ⟨hp, Nat.le_refl _, hok, rfl⟩
theorem gHand_ok {tx : List Nat} {p p' : Nat} {t t' : ga_T} (hp : p ≤ tx.length) (hok : ga_ok t) (h : gHand tx p t = .inr (p', t')) : p' ≤ tx.length ∧ p + 3 ≤ p' ∧ ga_ok t' ∧ gmv t' = gmv t := by
  unfold gHand at h
  split at h
  · rename_i h1
    split at h
    · rename_i h2
      split at h
      · rename_i h3
        have g1 := gkd_gen hp h1
        have g2 := isN_gen g1 h2
        have hn := h2.2.2
        obtain ⟨a, b, c, e⟩ := gdl_ok (q := gnm tx (gen tx p)) (by omega) 9 _ t 0 g2 hok
        have i1 := gen_p (tx := tx) (p := p)
        have i2 := gen_p (tx := tx) (p := gen tx p)
        have i3 := gen_p (tx := tx) (p := (gdl tx (gnm tx (gen tx p)) 9 (gen tx (gen tx p)) t 0).1)
        have i4 := gkd_gen a h3.2
        injection h with h
        injection h with e1 e2
        subst e1 e2
        exact ⟨i4, by omega, c, e⟩
      · cases h
    · cases h
  · cases h
theorem gLay_ok {tx : List Nat} {p p' : Nat} {t t' : ga_T} (hp : p ≤ tx.length) (hok : ga_ok t) (h : gLay tx p t = .inr (p', t')) : p' ≤ tx.length ∧ p + 3 ≤ p' ∧ ga_ok t' ∧ gmv t' ≤ gmv t + 99 := by
  unfold gLay at h
  split at h
  · rename_i h1
    split at h
    · rename_i h2
      split at h
      · rename_i h3
        have g1 := gkd_gen hp h1
        have g2 := isN_gen g1 h2
        have hn := h2.2.2
        have i1 := gen_p (tx := tx) (p := p)
        have i2 := gen_p (tx := tx) (p := gen tx p)
        have i3 := gen_p (tx := tx) (p := gen tx (gen tx p))
        have i4 := gkd_gen g2 h3
        have i5 := gmv_git t (gnm tx (gen tx p))
        injection h with h
        injection h with e1 e2
        subst e1 e2
        exact ⟨i4, by omega, ok_git hok _, by omega⟩
      · cases h
    · cases h
  · cases h
theorem gItem_ok {tx : List Nat} {p p' : Nat} {t t' : ga_T} (hp : p ≤ tx.length) (hok : ga_ok t) (h : gItem tx p t = .inr (p', t')) : p' ≤ tx.length ∧ p + 3 ≤ p' ∧ ga_ok t' ∧ gmv t' ≤ gmv t + 99 := by
  unfold gItem at h
  split at h
  · obtain ⟨a, b, c, e⟩ := gHand_ok hp hok h
    exact ⟨a, b, c, by omega⟩
  · exact gLay_ok hp hok h
theorem gGame_ok {tx : List Nat} {p p' : Nat} {t' : ga_T} (hp : p ≤ tx.length) (h : gGame tx p = .inr (p', t')) : p' ≤ tx.length ∧ p + 3 ≤ p' ∧ ga_ok t' ∧ gmv t' = 0 := by
  unfold gGame at h
  split at h
  · rename_i h1
    split at h
    · rename_i h2
      split at h
      · rename_i h3
        split at h
        · rename_i h4
          have g1 := gkd_gen hp h1
          have g2 := isN_gen g1 h2
          have g3 := isN_gen g2 h3
          have g4 := gkd_gen g3 h4
          have hn2 := h2.2.2
          have hn3 := h3.2.2
          have i1 := gen_p (tx := tx) (p := p)
          have i2 := gen_p (tx := tx) (p := gen tx p)
          have i3 := gen_p (tx := tx) (p := gen tx (gen tx p))
          have i4 := gen_p (tx := tx) (p := gen tx (gen tx (gen tx p)))
          injection h with h
          injection h with e1 e2
          subst e1 e2
          refine ⟨g4, by omega, ⟨by omega, by omega, (fun c hc => absurd hc List.not_mem_nil), (fun c hc => absurd hc List.not_mem_nil), (fun c hc => absurd hc List.not_mem_nil), by decide, by decide, by decide, by decide, by decide⟩, rfl⟩
        · cases h
      · cases h
    · cases h
  · cases h

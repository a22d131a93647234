/-! the reference: tokens -/
/-- end, word, figures, semicolon, wrong -/
def mtk (tx : List Nat) (p : Nat) : Nat := if tx.length ≤ gst tx p then 0 else if isLe (gch tx (gst tx p)) then 1 else if isFi (gch tx (gst tx p)) then (if gen tx p - gst tx p ≤ 2 then 2 else 4) else if gch tx (gst tx p) = 59 then 3 else 4
def mpos (tx : List Nat) (p : Nat) : Nat := if tx.length ≤ gst tx p then gst tx p else gen tx p
def TK (tx : List Nat) (p : Nat) (nu : Int32) (wo : Int64) : Prop := (mtk tx p = 2 → nu = nI (gnm tx p)) ∧ (mtk tx p = 1 → (wo = lN 1734438245 ↔ gkd tx p = 3) ∧ (wo = lN 1751215716 ↔ gkd tx p = 4) ∧ (wo = lN 7102841 ↔ gkd tx p = 5))
theorem gwk_ge (tx : List Nat) (s e : Nat) : 3 ≤ gwk tx s e := by
  unfold gwk
  split
  · exact Nat.le_refl _
  · split
    · decide
    · split <;> decide
theorem mtk_0 {tx : List Nat} {p : Nat} : gkd tx p = 0 ↔ mtk tx p = 0 := by
  unfold gkd mtk
  split
  · exact ⟨fun _ => rfl, fun _ => rfl⟩
  · split
    · have := gwk_ge tx (gst tx p) (gen tx p)
      exact ⟨fun h => by omega, fun h => by omega⟩
    · split
      · split <;> exact ⟨fun h => by omega, fun h => by omega⟩
      · split <;> exact ⟨fun h => by omega, fun h => by omega⟩
theorem mtk_3 {tx : List Nat} {p : Nat} : gkd tx p = 1 ↔ mtk tx p = 3 := by
  unfold gkd mtk
  split
  · exact ⟨fun h => by omega, fun h => by omega⟩
  · split
    · have := gwk_ge tx (gst tx p) (gen tx p)
      exact ⟨fun h => by omega, fun h => by omega⟩
    · split
      · split <;> exact ⟨fun h => by omega, fun h => by omega⟩
      · split
        · exact ⟨fun _ => rfl, fun _ => rfl⟩
        · exact ⟨fun h => by omega, fun h => by omega⟩
theorem mtk_2 {tx : List Nat} {p : Nat} : gkd tx p = 2 ↔ mtk tx p = 2 := by
  unfold gkd mtk
  split
  · exact ⟨fun h => by omega, fun h => by omega⟩
  · split
    · have := gwk_ge tx (gst tx p) (gen tx p)
      exact ⟨fun h => by omega, fun h => by omega⟩
    · split
      · split
        · exact ⟨fun _ => rfl, fun _ => rfl⟩
        · exact ⟨fun h => by omega, fun h => by omega⟩
      · split <;> exact ⟨fun h => by omega, fun h => by omega⟩
theorem mtk_1 {tx : List Nat} {p : Nat} (h3 : 3 ≤ gkd tx p) (h5 : gkd tx p ≤ 5) : mtk tx p = 1 := by
  unfold gkd at h3 h5
  unfold mtk
  split
  · rename_i h; rw [if_pos h] at h3; omega
  · rename_i h
    rw [if_neg h] at h3 h5
    split
    · rfl
    · rename_i h'
      rw [if_neg h'] at h3 h5
      split
      · rename_i h2
        rw [if_pos h2] at h3 h5
        split at h3
        · omega
        · rename_i h9
          rw [if_neg h9] at h5
          omega
      · rename_i h2
        rw [if_neg h2] at h3 h5
        split at h3
        · omega
        · rename_i h9
          rw [if_neg h9] at h5
          omega
theorem mtk_le (tx : List Nat) (p : Nat) : mtk tx p ≤ 4 := by
  unfold mtk
  split
  · omega
  · split
    · omega
    · split
      · split <;> omega
      · split <;> omega
theorem mpos_gen {tx : List Nat} {p : Nat} (h : gkd tx p ≠ 0) : mpos tx p = gen tx p := by
  unfold mpos
  rw [if_neg]
  intro h2
  exact h (by unfold gkd; rw [if_pos h2])
def wv (tx : List Nat) (s : Nat) : Nat → Nat
  | 0 => 0
  | n + 1 => 256 * wv tx s n + gch tx (s + n)
theorem wv_lt {tx : List Nat} {s : Nat} (ht : txOK tx) : ∀ n, wv tx s n < 256 ^ n
  | 0 => by show 0 < 1; decide
  | n + 1 => by
    have h1 := wv_lt (s := s) ht n
    have h2 := gch_lt ht (s + n)
    show 256 * wv tx s n + gch tx (s + n) < 256 ^ (n + 1)
    rw [Nat.pow_succ]
    omega
def wd (tx : List Nat) (s n : Nat) : Int64 := if n ≤ 7 then lN (wv tx s n) else -1
theorem pow7 {n : Nat} (h : n ≤ 7) : 256 ^ n ≤ 2 ^ 56 := by
  have : (256 : Nat) ^ n ≤ 256 ^ 7 := Nat.pow_le_pow_right (by decide) h
  exact Nat.le_trans this (by decide)
theorem wd_s {tx : List Nat} {s n : Nat} (h : n < 7) : 256 * wd tx s n + lN (gch tx (s + n)) = wd tx s (n + 1) := by
  unfold wd
  rw [if_pos (by omega), if_pos (by omega), fa_litL 256, lN_mul, lN_add]
  rfl
theorem wd_n {tx : List Nat} {s n : Nat} (h : 7 ≤ n) : wd tx s (n + 1) = -1 := by unfold wd; rw [if_neg (by omega)]
theorem gch_w0 : gch (gword 0) 0 = 103 ∧ gch (gword 0) 1 = 97 ∧ gch (gword 0) 2 = 109 ∧ gch (gword 0) 3 = 101 := by decide
theorem gch_w1 : gch (gword 1) 0 = 104 ∧ gch (gword 1) 1 = 97 ∧ gch (gword 1) 2 = 110 ∧ gch (gword 1) 3 = 100 := by decide
theorem gch_w2 : gch (gword 2) 0 = 108 ∧ gch (gword 2) 1 = 97 ∧ gch (gword 2) 2 = 121 := by decide
theorem gsl4 {tx : List Nat} {s e i : Nat} (hi : (gword i).length = 4) : gsl tx s e i ↔ e - s = 4 ∧ gch tx (s + 0) = gch (gword i) 0 ∧ gch tx (s + 1) = gch (gword i) 1 ∧ gch tx (s + 2) = gch (gword i) 2 ∧ gch tx (s + 3) = gch (gword i) 3 := by
  unfold gsl
  rw [hi]
  constructor
  · rintro ⟨a, b⟩
    exact ⟨a, b 0 (by decide), b 1 (by decide), b 2 (by decide), b 3 (by decide)⟩
  · rintro ⟨a, b0, b1, b2, b3⟩
    refine ⟨a, fun j hj => ?_⟩
    rcases (show j = 0 ∨ j = 1 ∨ j = 2 ∨ j = 3 by omega) with rfl | rfl | rfl | rfl
    · exact b0
    · exact b1
    · exact b2
    · exact b3
theorem gsl3 {tx : List Nat} {s e i : Nat} (hi : (gword i).length = 3) : gsl tx s e i ↔ e - s = 3 ∧ gch tx (s + 0) = gch (gword i) 0 ∧ gch tx (s + 1) = gch (gword i) 1 ∧ gch tx (s + 2) = gch (gword i) 2 := by
  unfold gsl
  rw [hi]
  constructor
  · rintro ⟨a, b⟩
    exact ⟨a, b 0 (by decide), b 1 (by decide), b 2 (by decide)⟩
  · rintro ⟨a, b0, b1, b2⟩
    refine ⟨a, fun j hj => ?_⟩
    rcases (show j = 0 ∨ j = 1 ∨ j = 2 by omega) with rfl | rfl | rfl
    · exact b0
    · exact b1
    · exact b2
theorem wd_iff {tx : List Nat} {s n V : Nat} (ht : txOK tx) (hV : V < 2 ^ 62) : wd tx s n = lN V ↔ n ≤ 7 ∧ wv tx s n = V := by
  unfold wd
  by_cases h : n ≤ 7
  · rw [if_pos h]
    have h1 := wv_lt (s := s) ht n
    have h2 := pow7 h
    rw [pk_lEQ (by omega) (by omega)]
    exact ⟨fun z => ⟨h, z⟩, fun z => z.2⟩
  · rw [if_neg h]
    constructor
    · intro z
      exfalso
      have z2 := congrArg Int64.toInt z
      rw [pk_lT (by omega)] at z2
      have e1 : (-1 : Int64).toInt = -1 := by decide
      rw [e1] at z2
      omega
    · intro z; exact absurd z.1 h
theorem word_iff {tx : List Nat} {s e : Nat} (ht : txOK tx) (hse : s < e) (hl : ∀ j, s ≤ j → j < e → 97 ≤ gch tx j ∧ gch tx j ≤ 122) :
    (wd tx s (e - s) = lN 1734438245 ↔ gsl tx s e 0) ∧ (wd tx s (e - s) = lN 1751215716 ↔ gsl tx s e 1) ∧ (wd tx s (e - s) = lN 7102841 ↔ gsl tx s e 2) := by
  obtain ⟨n, hn⟩ : ∃ n, n = e - s := ⟨_, rfl⟩
  have hl' : ∀ j, j < n → 97 ≤ gch tx (s + j) ∧ gch tx (s + j) ≤ 122 := fun j hj => hl (s + j) (by omega) (by omega)
  rw [← hn, wd_iff ht (by decide), wd_iff ht (by decide), wd_iff ht (by decide), gsl4 (i := 0) (by decide), gsl4 (i := 1) (by decide), gsl3 (i := 2) (by decide), gch_w0.1, gch_w0.2.1, gch_w0.2.2.1, gch_w0.2.2.2, gch_w1.1, gch_w1.2.1, gch_w1.2.2.1, gch_w1.2.2.2, gch_w2.1, gch_w2.2.1, gch_w2.2.2, ← hn]
  have h0 : 0 < n := by omega
  clear hl hse hn
  by_cases h7 : n ≤ 7
  · rcases (show n = 1 ∨ n = 2 ∨ n = 3 ∨ n = 4 ∨ n = 5 ∨ n = 6 ∨ n = 7 by omega) with rfl | rfl | rfl | rfl | rfl | rfl | rfl
    · have a0 := hl' 0 (by decide)
      unfold wv wv
      refine ⟨⟨fun z => ?_, fun z => ?_⟩, ⟨fun z => ?_, fun z => ?_⟩, ⟨fun z => ?_, fun z => ?_⟩⟩ <;> omega
    · have a0 := hl' 0 (by decide)
      have a1 := hl' 1 (by decide)
      unfold wv wv wv
      refine ⟨⟨fun z => ?_, fun z => ?_⟩, ⟨fun z => ?_, fun z => ?_⟩, ⟨fun z => ?_, fun z => ?_⟩⟩ <;> omega
    · have a0 := hl' 0 (by decide)
      have a1 := hl' 1 (by decide)
      have a2 := hl' 2 (by decide)
      unfold wv wv wv wv
      refine ⟨⟨fun z => ?_, fun z => ?_⟩, ⟨fun z => ?_, fun z => ?_⟩, ⟨fun z => ?_, fun z => ?_⟩⟩ <;> omega
    · have a0 := hl' 0 (by decide)
      have a1 := hl' 1 (by decide)
      have a2 := hl' 2 (by decide)
      have a3 := hl' 3 (by decide)
      unfold wv wv wv wv wv
      refine ⟨⟨fun z => ?_, fun z => ?_⟩, ⟨fun z => ?_, fun z => ?_⟩, ⟨fun z => ?_, fun z => ?_⟩⟩ <;> omega
    · have a0 := hl' 0 (by decide)
      unfold wv wv wv wv wv wv
      refine ⟨⟨fun z => ?_, fun z => ?_⟩, ⟨fun z => ?_, fun z => ?_⟩, ⟨fun z => ?_, fun z => ?_⟩⟩ <;> omega
    · have a0 := hl' 0 (by decide)
      unfold wv wv wv wv wv wv wv
      refine ⟨⟨fun z => ?_, fun z => ?_⟩, ⟨fun z => ?_, fun z => ?_⟩, ⟨fun z => ?_, fun z => ?_⟩⟩ <;> omega
    · have a0 := hl' 0 (by decide)
      unfold wv wv wv wv wv wv wv wv
      refine ⟨⟨fun z => ?_, fun z => ?_⟩, ⟨fun z => ?_, fun z => ?_⟩, ⟨fun z => ?_, fun z => ?_⟩⟩ <;> omega
  · refine ⟨⟨fun z => ?_, fun z => ?_⟩, ⟨fun z => ?_, fun z => ?_⟩, ⟨fun z => ?_, fun z => ?_⟩⟩ <;> omega
theorem wk_iff {tx : List Nat} {s e : Nat} (ht : txOK tx) (hse : s < e) (hl : ∀ j, s ≤ j → j < e → 97 ≤ gch tx j ∧ gch tx j ≤ 122) :
    (wd tx s (e - s) = lN 1734438245 ↔ gwk tx s e = 3) ∧ (wd tx s (e - s) = lN 1751215716 ↔ gwk tx s e = 4) ∧ (wd tx s (e - s) = lN 7102841 ↔ gwk tx s e = 5) := by
  obtain ⟨h0, h1, h2⟩ := word_iff ht hse hl
  have d01 : ¬ (lN 1734438245 = lN 1751215716) := by decide
  have d02 : ¬ (lN 1734438245 = lN 7102841) := by decide
  have d12 : ¬ (lN 1751215716 = lN 7102841) := by decide
  by_cases g0 : gsl tx s e 0
  · have w0 := h0.mpr g0
    rw [gwk_0 g0, w0]
    exact ⟨⟨fun _ => rfl, fun _ => rfl⟩, ⟨fun z => absurd z d01, fun z => absurd z (by decide)⟩, ⟨fun z => absurd z d02, fun z => absurd z (by decide)⟩⟩
  · by_cases g1 : gsl tx s e 1
    · have w1 := h1.mpr g1
      rw [gwk_1 g0 g1, w1]
      exact ⟨⟨fun z => absurd z.symm d01, fun z => absurd z (by decide)⟩, ⟨fun _ => rfl, fun _ => rfl⟩, ⟨fun z => absurd z d12, fun z => absurd z (by decide)⟩⟩
    · by_cases g2 : gsl tx s e 2
      · have w2 := h2.mpr g2
        rw [gwk_2 g0 g1 g2, w2]
        exact ⟨⟨fun z => absurd z.symm d02, fun z => absurd z (by decide)⟩, ⟨fun z => absurd z.symm d12, fun z => absurd z (by decide)⟩, ⟨fun _ => rfl, fun _ => rfl⟩⟩
      · rw [gwk_3 g0 g1 g2]
        exact ⟨⟨fun z => absurd (h0.mp z) g0, fun z => absurd z (by decide)⟩, ⟨fun z => absurd (h1.mp z) g1, fun z => absurd z (by decide)⟩, ⟨fun z => absurd (h2.mp z) g2, fun z => absurd z (by decide)⟩⟩

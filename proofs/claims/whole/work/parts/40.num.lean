/-! numbers: longs as natural numbers (the wb_ and fb_ rows are pasted from kit/laws) -/
theorem wb_tb (n : Nat) : (lN n).toBitVec = BitVec.ofNat 64 n := rfl
theorem wb_inj {a b : Int64} (h : a.toBitVec = b.toBitVec) : a = b := Int64.toBitVec_inj.mp h
theorem wb_tn {n : Nat} (h : n < 2 ^ 64) : (lN n).toBitVec.toNat = n := by rw [wb_tb, BitVec.toNat_ofNat, Nat.mod_eq_of_lt h]
theorem wb_of (x : Int64) : ∃ n, n < 2 ^ 64 ∧ x = lN n := ⟨x.toBitVec.toNat, x.toBitVec.isLt, wb_inj (by rw [wb_tb]; simp)⟩
theorem wb_of32 (x : Int32) : ∃ n, n < 2 ^ 32 ∧ x = nI n := ⟨x.toBitVec.toNat, x.toBitVec.isLt, Int32.toBitVec_inj.mp (by show _ = BitVec.ofNat 32 _; simp)⟩
theorem wb_c : ∀ k, k < 64 → ((nI k).toInt64 &&& 63) = lN k := by decide +kernel
theorem wb_cu : ∀ k, k < 64 → ((nI k).toInt64.toUInt64 &&& Int64.toUInt64 63) = UInt64.ofNat k := by decide +kernel
theorem wb_sm : ∀ k, k < 64 → (BitVec.ofNat 64 k).smod 64 = BitVec.ofNat 64 k := by decide +kernel
theorem wb_pw {a b : Nat} (h : a ≤ b) : 2 ^ b = 2 ^ a * 2 ^ (b - a) := by rw [← Nat.pow_add]; congr 1; omega
theorem wb_lt2 {a b : Nat} (h : a < b) : 2 ^ a < 2 ^ b := Nat.pow_lt_pow_right (by decide) h
theorem wb_mod (n : Nat) : lN n = lN (n % 2 ^ 64) := wb_inj (by rw [wb_tb, wb_tb]; apply BitVec.eq_of_toNat_eq; rw [BitVec.toNat_ofNat, BitVec.toNat_ofNat, Nat.mod_mod])
theorem wb_shr {n k : Nat} (hn : n < 2 ^ 64) (hk : k < 64) : ((lN n).toUInt64 >>> ((nI k).toInt64.toUInt64 &&& Int64.toUInt64 63)).toInt64 = lN (n / 2 ^ k) := by
  rw [wb_cu k hk]
  apply wb_inj
  apply BitVec.eq_of_toNat_eq
  show ((lN n).toUInt64 >>> UInt64.ofNat k).toNat = (BitVec.ofNat 64 _).toNat
  have h1 : (UInt64.ofNat k).toNat = k := by
    show (BitVec.ofNat 64 k).toNat = k
    rw [BitVec.toNat_ofNat, Nat.mod_eq_of_lt (by omega)]
  have h2 : (lN n).toUInt64.toNat = n := wb_tn hn
  rw [UInt64.toNat_shiftRight, h1, h2, Nat.mod_eq_of_lt hk, Nat.shiftRight_eq_div_pow, BitVec.toNat_ofNat, Nat.mod_eq_of_lt (Nat.lt_of_le_of_lt (Nat.div_le_self _ _) hn)]
theorem wb_shl (n : Nat) {k : Nat} (hk : k < 64) : lN n <<< ((nI k).toInt64 &&& 63) = lN (n * 2 ^ k) := by
  rw [wb_c k hk]
  apply wb_inj
  rw [Int64.toBitVec_shiftLeft, wb_tb, wb_tb, wb_tb, wb_sm k hk]
  apply BitVec.eq_of_toNat_eq
  rw [BitVec.shiftLeft_eq', BitVec.toNat_shiftLeft, BitVec.toNat_ofNat, BitVec.toNat_ofNat, BitVec.toNat_ofNat, Nat.mod_eq_of_lt (show k < 2 ^ 64 by omega), Nat.shiftLeft_eq, Nat.mul_mod, Nat.mod_mod, ← Nat.mul_mod]
theorem wb_and {a b : Nat} (ha : a < 2 ^ 64) (hb : b < 2 ^ 64) : lN a &&& lN b = lN (a &&& b) := by
  apply wb_inj
  rw [Int64.toBitVec_and, wb_tb, wb_tb, wb_tb]
  apply BitVec.eq_of_toNat_eq
  rw [BitVec.toNat_and, BitVec.toNat_ofNat, BitVec.toNat_ofNat, BitVec.toNat_ofNat, Nat.mod_eq_of_lt ha, Nat.mod_eq_of_lt hb, Nat.mod_eq_of_lt (Nat.and_lt_two_pow _ hb)]
theorem wb_or {a b : Nat} (ha : a < 2 ^ 64) (hb : b < 2 ^ 64) : lN a ||| lN b = lN (a ||| b) := by
  apply wb_inj
  rw [Int64.toBitVec_or, wb_tb, wb_tb, wb_tb]
  apply BitVec.eq_of_toNat_eq
  rw [BitVec.toNat_or, BitVec.toNat_ofNat, BitVec.toNat_ofNat, BitVec.toNat_ofNat, Nat.mod_eq_of_lt ha, Nat.mod_eq_of_lt hb, Nat.mod_eq_of_lt (Nat.or_lt_two_pow ha hb)]
theorem wb_mask {n k : Nat} (hn : n < 2 ^ 64) (hk : k < 64) : lN n &&& lN (2 ^ k - 1) = lN (n % 2 ^ k) := by
  rw [wb_and hn (by have := wb_lt2 hk; omega), Nat.and_two_pow_sub_one_eq_mod]
theorem wb_a1 {n : Nat} (hn : n < 2 ^ 64) : lN n &&& 1 = lN (n % 2) := wb_mask (k := 1) hn (by decide)
theorem fb_andL (a b : Nat) : lN a &&& lN b = lN (a &&& b) := by
  apply Int64.toBitVec_inj.1
  show BitVec.ofNat 64 a &&& BitVec.ofNat 64 b = BitVec.ofNat 64 (a &&& b)
  apply BitVec.eq_of_getLsbD_eq
  intro i hi
  simp [hi]
theorem fb_orL (a b : Nat) : lN a ||| lN b = lN (a ||| b) := by
  apply Int64.toBitVec_inj.1
  show BitVec.ofNat 64 a ||| BitVec.ofNat 64 b = BitVec.ofNat 64 (a ||| b)
  apply BitVec.eq_of_getLsbD_eq
  intro i hi
  simp [hi]
theorem fb_xorL (a b : Nat) : lN a ^^^ lN b = lN (a ^^^ b) := by
  apply Int64.toBitVec_inj.1
  show BitVec.ofNat 64 a ^^^ BitVec.ofNat 64 b = BitVec.ofNat 64 (a ^^^ b)
  apply BitVec.eq_of_getLsbD_eq
  intro i hi
  simp [hi]
theorem nu_ushr {n k : Nat} (hn : n < 2 ^ 64) (hk : k < 64) : ma_ushr (lN n) (nI k) = lN (n / 2 ^ k) := wb_shr hn hk
/-- a row of cards as a number -/
def gv : List Nat → Nat
  | [] => 0
  | c :: l => c + 8 * gv l
def gn (l : List Nat) : Nat := l.length * 2 ^ 48 + gv l
def enc (l : List Nat) : Int64 := lN (gn l)
def gk (l : List Nat) : Prop := l.length ≤ 16 ∧ ∀ c ∈ l, c < 6
theorem p8 (i : Nat) : 2 ^ (3 * i) = 8 ^ i := by rw [Nat.pow_mul]
theorem gv_lt : ∀ {l : List Nat}, (∀ c ∈ l, c < 6) → gv l < 8 ^ l.length
  | [], _ => by decide
  | c :: l, h => by
    have ih := gv_lt (l := l) (fun d hd => h d (List.mem_cons_of_mem _ hd))
    have hc := h c List.mem_cons_self
    show c + 8 * gv l < 8 ^ (l.length + 1)
    rw [Nat.pow_succ]
    omega
theorem gv_app : ∀ (l m : List Nat), gv (l ++ m) = gv l + 8 ^ l.length * gv m
  | [], m => by show gv m = 0 + 8 ^ 0 * gv m; omega
  | c :: l, m => by
    show c + 8 * gv (l ++ m) = c + 8 * gv l + 8 ^ (l.length + 1) * gv m
    rw [gv_app l m, Nat.pow_succ, Nat.mul_add]
    have : 8 * (8 ^ l.length * gv m) = 8 ^ l.length * 8 * gv m := by rw [Nat.mul_comm (8 ^ l.length) 8, Nat.mul_assoc]
    omega
theorem p48 {i : Nat} (h : i ≤ 16) : 8 ^ i ≤ 2 ^ 48 := by
  rw [← p8]; exact Nat.pow_le_pow_right (by decide) (by omega)
theorem gk_lt {l : List Nat} (h : gk l) : gv l < 2 ^ 48 := Nat.lt_of_lt_of_le (gv_lt h.2) (p48 h.1)
theorem gn_lt {l : List Nat} (h : gk l) : gn l < 2 ^ 53 := by
  have h1 := gk_lt h
  have h2 := h.1
  unfold gn
  omega
theorem gn_div {l : List Nat} (h : gk l) : gn l / 2 ^ 48 = l.length := by
  have h1 := gk_lt h
  unfold gn
  omega
theorem gn_mod {l : List Nat} (h : gk l) : gn l % 2 ^ 48 = gv l := by
  have h1 := gk_lt h
  unfold gn
  omega
theorem gv_drop : ∀ (l : List Nat) (i : Nat), (∀ c ∈ l, c < 6) → gv l / 8 ^ i = gv (l.drop i)
  | l, 0, _ => by rw [Nat.pow_zero, Nat.div_one, List.drop_zero]
  | [], i + 1, _ => by rw [List.drop_nil]; exact Nat.zero_div _
  | c :: l, i + 1, h => by
    have hc := h c List.mem_cons_self
    rw [Nat.pow_succ, Nat.mul_comm, ← Nat.div_div_eq_div_mul, List.drop_succ_cons]
    show (c + 8 * gv l) / 8 / 8 ^ i = _
    rw [show (c + 8 * gv l) / 8 = gv l by omega]
    exact gv_drop l i (fun d hd => h d (List.mem_cons_of_mem _ hd))
theorem gv_take : ∀ (l : List Nat) (i : Nat), (∀ c ∈ l, c < 6) → gv l % 8 ^ i = gv (l.take i)
  | l, 0, _ => by rw [Nat.pow_zero, Nat.mod_one, List.take_zero]; rfl
  | [], i + 1, _ => by rw [List.take_nil]; exact Nat.zero_mod _
  | c :: l, i + 1, h => by
    have hc := h c List.mem_cons_self
    have ih := gv_take l i (fun d hd => h d (List.mem_cons_of_mem _ hd))
    rw [List.take_succ_cons]
    show (c + 8 * gv l) % 8 ^ (i + 1) = c + 8 * gv (l.take i)
    rw [← ih, Nat.pow_succ, Nat.mul_comm (8 ^ i) 8, Nat.mod_mul, show (c + 8 * gv l) % 8 = c by omega, show (c + 8 * gv l) / 8 = gv l by omega]
theorem gv_at {l : List Nat} {i : Nat} (h : ∀ c ∈ l, c < 6) (hi : i < l.length) : gv (l.drop i) % 8 = l[i] := by
  have h1 : l[i] < 6 := h _ (List.getElem_mem hi)
  rw [List.drop_eq_getElem_cons hi]
  show (l[i] + 8 * gv (l.drop (i + 1))) % 8 = l[i]
  omega
theorem gn_at {l : List Nat} (h : gk l) {i : Nat} (hi : i < l.length) : gn l / 2 ^ (3 * i) % 8 = l[i] := by
  have h16 := h.1
  have hp : 2 ^ 48 = 8 ^ i * (8 * 8 ^ (15 - i)) := by rw [← Nat.pow_succ', ← Nat.pow_add, ← p8]; congr 1; omega
  have e : gn l = 8 ^ i * (8 * (8 ^ (15 - i) * l.length)) + gv l := by
    unfold gn
    rw [hp, Nat.mul_comm l.length, Nat.mul_assoc, Nat.mul_assoc]
  rw [p8, e, Nat.mul_add_div (Nat.pow_pos (by decide)), gv_drop l i h.2, Nat.mul_add_mod, gv_at h.2 hi]
theorem enc_inj {l m : List Nat} (hl : gk l) (hm : gk m) (h : enc l = enc m) : l = m := by
  have h1 : gn l = gn m := (pk_lEQ (Nat.lt_trans (gn_lt hl) (by decide)) (Nat.lt_trans (gn_lt hm) (by decide))).mp h
  have hlen : l.length = m.length := by rw [← gn_div hl, ← gn_div hm, h1]
  apply List.ext_getElem hlen
  intro i h2 h3
  rw [← gn_at hl h2, ← gn_at hm h3, h1]
theorem enc_0 {l : List Nat} (hl : gk l) : enc l = 0 ↔ l = [] := by
  refine ⟨fun h => enc_inj hl ⟨by decide, fun _ h => by cases h⟩ h, fun h => by subst h; rfl⟩

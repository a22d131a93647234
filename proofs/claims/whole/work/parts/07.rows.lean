/-! rewriting rows: one an instruction -/
def ma_if (c : Prop) (d id : Nat) (Q : ma_P) (p1 p2 : Nat) (ls : ma_L) (st : List Value) (H : ma_H) (a b : Nat) : Prop := (c → ma_W d id Q p1 ls st H a b) ∧ (¬ c → ma_W d id Q p2 ls st H a b)
def ma_kV (d id : Nat) (Q : ma_P) (pc : Nat) (ls : ma_L) (st : List Value) (H : ma_H) (a b : Nat) : Value → Prop := fun v => ma_W d id Q pc ls (v :: st) H a b
def ma_kC (d id : Nat) (Q : ma_P) (pc : Nat) (ls : ma_L) (st : List Value) (a b : Nat) : ma_P := fun r H => ma_W d id Q pc ls (r.toList ++ st) H a b
def ma_kH (d id : Nat) (Q : ma_P) (pc : Nat) (ls : ma_L) (st : List Value) (H : ma_H) (i : Nat) (a b : Nat) : ma_C → Prop := fun c => ma_W d id Q pc ls st (ma_set H i c) a b
theorem ma_if_t (d id : Nat) (Q : ma_P) (p1 p2 : Nat) (ls : ma_L) (st : List Value) (H : ma_H) (a b : Nat) : ma_if True d id Q p1 p2 ls st H a b = ma_W d id Q p1 ls st H a b := propext ⟨fun h => h.1 trivial, fun h => ⟨fun _ => h, fun n => (n trivial).elim⟩⟩
theorem ma_if_f (d id : Nat) (Q : ma_P) (p1 p2 : Nat) (ls : ma_L) (st : List Value) (H : ma_H) (a b : Nat) : ma_if False d id Q p1 p2 ls st H a b = ma_W d id Q p2 ls st H a b := propext ⟨fun h => h.2 (fun h => h), fun h => ⟨fun n => n.elim, fun _ => h⟩⟩
theorem ma_kV_ap (d id : Nat) (Q : ma_P) (pc : Nat) (ls : ma_L) (st : List Value) (H : ma_H) (a b : Nat) (v : Value) : ma_kV d id Q pc ls st H a b v = ma_W d id Q pc ls (v :: st) H a b := rfl
theorem ma_kC_s (d id : Nat) (Q : ma_P) (pc : Nat) (ls : ma_L) (st : List Value) (H : ma_H) (a b : Nat) (v : Value) : ma_kC d id Q pc ls st a b (some v) H = ma_W d id Q pc ls (v :: st) H a b := rfl
theorem ma_kC_n (d id : Nat) (Q : ma_P) (pc : Nat) (ls : ma_L) (st : List Value) (H : ma_H) (a b : Nat) : ma_kC d id Q pc ls st a b none H = ma_W d id Q pc ls st H a b := rfl
theorem ma_kH_ap (d id : Nat) (Q : ma_P) (pc : Nat) (ls : ma_L) (st : List Value) (H : ma_H) (i a b : Nat) (c : ma_C) : ma_kH d id Q pc ls st H i a b c = ma_W d id Q pc ls st (ma_set H i c) a b := rfl
def ma_nt : List Value → Nat → (Value → Prop) → Prop
  | [], _, _ => False
  | v :: _, 0, K => K v
  | _ :: l, k + 1, K => ma_nt l k K
theorem ma_nt_eq (K : Value → Prop) : ∀ (l : List Value) (k : Nat), ma_nt l k K = ma_o (l[k]?) K
  | [], _ => by simp [ma_nt, ma_o]
  | v :: l, 0 => rfl
  | v :: l, k + 1 => by rw [List.getElem?_cons_succ]; exact ma_nt_eq K l k
def ma_gf (c : ma_C) (ci k : Nat) (K : Value → Prop) : Prop := ma_ob c ci fun fs => ma_nt fs k K
def ma_pf (c : ma_C) (ci k : Nat) (v : Value) (K : ma_C → Prop) : Prop := ma_ob c ci fun fs => k < fs.length ∧ K (.inr (ci, fs.set k v))
theorem ma_gf_ap (ci k : Nat) (fs : List Value) (K : Value → Prop) : ma_gf (.inr (ci, fs)) ci k K = ma_nt fs k K := propext ⟨fun h => h.2, fun h => ⟨rfl, h⟩⟩
theorem ma_pf_ap (ci k : Nat) (fs : List Value) (v : Value) (K : ma_C → Prop) : ma_pf (.inr (ci, fs)) ci k v K = (k < fs.length ∧ K (.inr (ci, fs.set k v))) := propext ⟨fun h => h.2, fun h => ⟨rfl, h⟩⟩
def ma_al1 (c : ma_C) (K : Value → Prop) : Prop := ma_al c fun n => K (.int (Int32.ofNat n))
theorem ma_al1_i (n : Nat) (f : Nat → Int32) (K : Value → Prop) : ma_al1 (.inl (.int, n, .inl f)) K = K (.int (Int32.ofNat n)) := propext ⟨fun h => h.2, fun h => ⟨Or.inl rfl, h⟩⟩
theorem ma_al1_g (n : Nat) (f : Nat → Option Nat) (K : Value → Prop) : ma_al1 (.inl (.object "BeggarPile$Game", n, .inr (.inr (.inr (.inr f))))) K = K (.int (Int32.ofNat n)) := propext ⟨fun h => h.2, fun h => ⟨Or.inr rfl, h⟩⟩
def ma_ial (c : ma_C) (j : Int32) (K : Value → Prop) : Prop := ma_ia c .int fun n f => vp_in j n ∧ K (.int (f j.toNatClampNeg))
theorem ma_ial_ap (n : Nat) (f : Nat → Int32) (j : Int32) (K : Value → Prop) : ma_ial (.inl (.int, n, .inl f)) j K = (vp_in j n ∧ K (.int (f j.toNatClampNeg))) := propext ⟨fun h => h.2, fun h => ⟨rfl, h⟩⟩
def ma_bal (c : ma_C) (j : Int32) (K : Value → Prop) : Prop := ma_ia c .byte (fun n f => vp_in j n ∧ K (.int (f j.toNatClampNeg))) ∨ ma_ia c .boolean (fun n f => vp_in j n ∧ K (.int (f j.toNatClampNeg)))
theorem ma_bal_b (n : Nat) (f : Nat → Int32) (j : Int32) (K : Value → Prop) : ma_bal (.inl (.byte, n, .inl f)) j K = (vp_in j n ∧ K (.int (f j.toNatClampNeg))) := propext ⟨fun h => h.elim (fun h => h.2) (fun h => h.2), fun h => Or.inl ⟨rfl, h⟩⟩
theorem ma_bal_z (n : Nat) (f : Nat → Int32) (j : Int32) (K : Value → Prop) : ma_bal (.inl (.boolean, n, .inl f)) j K = (vp_in j n ∧ K (.int (f j.toNatClampNeg))) := propext ⟨fun h => h.elim (fun h => h.2) (fun h => h.2), fun h => Or.inr ⟨rfl, h⟩⟩
def ma_ral (c : ma_C) (j : Int32) (K : Value → Prop) : Prop := ma_ra c fun t n f => (t = .object "BeggarPile$Table" ∨ t = .object "BeggarPile$Game") ∧ vp_in j n ∧ K (va_rf (f j.toNatClampNeg))
theorem ma_ral_t (n : Nat) (f : Nat → Option Nat) (j : Int32) (K : Value → Prop) : ma_ral (.inl (.object "BeggarPile$Table", n, .inr (.inr (.inr (.inr f))))) j K = (vp_in j n ∧ K (va_rf (f j.toNatClampNeg))) := propext ⟨fun h => h.2, fun h => ⟨Or.inl rfl, h⟩⟩
theorem ma_ral_g (n : Nat) (f : Nat → Option Nat) (j : Int32) (K : Value → Prop) : ma_ral (.inl (.object "BeggarPile$Game", n, .inr (.inr (.inr (.inr f))))) j K = (vp_in j n ∧ K (va_rf (f j.toNatClampNeg))) := propext ⟨fun h => h.2, fun h => ⟨Or.inr rfl, h⟩⟩
def ma_ias (c : ma_C) (j x : Int32) (K : ma_C → Prop) : Prop := ma_ia c .int fun n f => vp_in j n ∧ K (.inl (.int, n, .inl (upd f j.toNatClampNeg x)))
theorem ma_ias_ap (n : Nat) (f : Nat → Int32) (j x : Int32) (K : ma_C → Prop) : ma_ias (.inl (.int, n, .inl f)) j x K = (vp_in j n ∧ K (.inl (.int, n, .inl (upd f j.toNatClampNeg x)))) := propext ⟨fun h => h.2, fun h => ⟨rfl, h⟩⟩
def ma_bas (c : ma_C) (j x : Int32) (K : ma_C → Prop) : Prop := ma_ia c .byte (fun n f => vp_in j n ∧ K (.inl (.byte, n, .inl (upd f j.toNatClampNeg (vp_nar .byte x))))) ∨ ma_ia c .boolean (fun n f => vp_in j n ∧ K (.inl (.boolean, n, .inl (upd f j.toNatClampNeg (vp_nar .boolean x)))))
theorem ma_bas_b (n : Nat) (f : Nat → Int32) (j x : Int32) (K : ma_C → Prop) : ma_bas (.inl (.byte, n, .inl f)) j x K = (vp_in j n ∧ K (.inl (.byte, n, .inl (upd f j.toNatClampNeg (vp_nar .byte x))))) := propext ⟨fun h => h.elim (fun h => h.2) (fun h => absurd h.1 (by decide)), fun h => Or.inl ⟨rfl, h⟩⟩
theorem ma_bas_z (n : Nat) (f : Nat → Int32) (j x : Int32) (K : ma_C → Prop) : ma_bas (.inl (.boolean, n, .inl f)) j x K = (vp_in j n ∧ K (.inl (.boolean, n, .inl (upd f j.toNatClampNeg (vp_nar .boolean x))))) := propext ⟨fun h => h.elim (fun h => absurd h.1 (by decide)) (fun h => h.2), fun h => Or.inr ⟨rfl, h⟩⟩
def ma_ras (c cv : ma_C) (j : Int32) (v : Nat) (K : ma_C → Prop) : Prop := ma_ra c fun t n f => vp_in j n ∧ (t = .object "BeggarPile$Table" ∧ ma_ob cv 4 (fun _ => True) ∨ t = .object "BeggarPile$Game" ∧ ma_ob cv 0 (fun _ => True)) ∧ K (.inl (t, n, .inr (.inr (.inr (.inr (va_up f j.toNatClampNeg (some v)))))))
theorem ma_ras_t (n : Nat) (f : Nat → Option Nat) (fs : List Value) (j : Int32) (v : Nat) (K : ma_C → Prop) : ma_ras (.inl (.object "BeggarPile$Table", n, .inr (.inr (.inr (.inr f))))) (.inr (4, fs)) j v K = (vp_in j n ∧ K (.inl (.object "BeggarPile$Table", n, .inr (.inr (.inr (.inr (va_up f j.toNatClampNeg (some v)))))))) := propext ⟨fun h => ⟨h.1, h.2.2⟩, fun h => ⟨h.1, Or.inl ⟨rfl, rfl, trivial⟩, h.2⟩⟩
theorem ma_ras_g (n : Nat) (f : Nat → Option Nat) (fs : List Value) (j : Int32) (v : Nat) (K : ma_C → Prop) : ma_ras (.inl (.object "BeggarPile$Game", n, .inr (.inr (.inr (.inr f))))) (.inr (0, fs)) j v K = (vp_in j n ∧ K (.inl (.object "BeggarPile$Game", n, .inr (.inr (.inr (.inr (va_up f j.toNatClampNeg (some v)))))))) := propext ⟨fun h => ⟨h.1, h.2.2⟩, fun h => ⟨h.1, Or.inr ⟨rfl, rfl, trivial⟩, h.2⟩⟩
theorem ma_set_s (H : ma_H) (i : Nat) (c : ma_C) : (ma_set H i c).1 i = c := by simp [ma_set]
theorem ma_set_n (H : ma_H) {i j : Nat} (c : ma_C) (h : j ≠ i) : (ma_set H i c).1 j = H.1 j := by simp [ma_set, h]
theorem ma_set_ss (H : ma_H) (i : Nat) (c c' : ma_C) : ma_set (ma_set H i c) i c' = ma_set H i c' := by
  unfold ma_set; refine Prod.ext (funext fun j => ?_) rfl; by_cases h : j = i <;> simp [h]
theorem ma_set_2 (H : ma_H) (i : Nat) (c : ma_C) : (ma_set H i c).2 = H.2 := rfl
theorem ma_set_id (H : ma_H) (i : Nat) (c : ma_C) (h : H.1 i = c) : ma_set H i c = H := by
  unfold ma_set; refine Prod.ext (funext fun j => ?_) rfl; by_cases h2 : j = i
  · subst h2; simp [h]
  · simp [h2]
theorem ma_set_cm (H : ma_H) {i j : Nat} (c c' : ma_C) (h : i ≠ j) : ma_set (ma_set H i c) j c' = ma_set (ma_set H j c') i c := by
  unfold ma_set; refine Prod.ext (funext fun k => ?_) rfl; dsimp only; by_cases h1 : k = i
  · subst h1; simp [h]
  · simp [h1]
theorem ma_new_s (H : ma_H) (c : ma_C) : (ma_new H c).1 H.2 = c := by simp [ma_new]
theorem ma_new_n (H : ma_H) {j : Nat} (c : ma_C) (h : j ≠ H.2) : (ma_new H c).1 j = H.1 j := by simp [ma_new, h]
theorem ma_new_2 (H : ma_H) (c : ma_C) : (ma_new H c).2 = H.2 + 1 := rfl
def ma_rem (x y : Int32) : Int32 := x - x / y * y
def ma_rml (x y : Int64) : Int64 := x - x / y * y
theorem ma_rem_n {a b : Nat} (ha : a < 2 ^ 31) (h0 : 0 < b) (hb : b < 2 ^ 31) : ma_rem (nI a) (nI b) = nI (a % b) := pk_rem ha h0 hb
theorem ma_rml_n {a b : Nat} (ha : a < 2 ^ 63) (h0 : 0 < b) (hb : b < 2 ^ 63) : ma_rml (lN a) (lN b) = lN (a % b) := pk_lRem ha h0 hb
section WR
variable {d id pc : Nat} {Q : ma_P} {ls : ma_L} {st : List Value} {H : ma_H} {a b : Nat}
theorem wp_iconst {n : Int} {v : Int32} (h : ma_ins id pc = some (.iconst n, 1)) (hv : Int32.ofInt n = v) : ma_W d id Q pc ls st H a b = ma_W d id Q (pc + 1) ls (.int v :: st) H a b := by rw [ma_W_eq h]; subst hv; exact propext ⟨fun h => h.2, fun h => ⟨rfl, h⟩⟩
theorem wp_bipush {n : Int} {v : Int32} (h : ma_ins id pc = some (.bipush n, 2)) (hv : (Int8.ofInt n).toInt32 = v) : ma_W d id Q pc ls st H a b = ma_W d id Q (pc + 2) ls (.int v :: st) H a b := by rw [ma_W_eq h]; subst hv; exact propext ⟨fun h => h.2, fun h => ⟨rfl, h⟩⟩
theorem wp_sipush {n : Int} {v : Int32} (h : ma_ins id pc = some (.sipush n, 3)) (hv : (Int16.ofInt n).toInt32 = v) : ma_W d id Q pc ls st H a b = ma_W d id Q (pc + 3) ls (.int v :: st) H a b := by rw [ma_W_eq h]; subst hv; exact propext ⟨fun h => h.2, fun h => ⟨rfl, h⟩⟩
theorem wp_lconst {n : Fin 2} {v : Int64} (h : ma_ins id pc = some (.lconst n, 1)) (hv : Int64.ofNat (n : Nat) = v) : ma_W d id Q pc ls st H a b = ma_W d id Q (pc + 1) ls (.long v :: st) H a b := by rw [ma_W_eq h]; subst hv; exact propext ⟨fun h => h.2, fun h => ⟨rfl, h⟩⟩
theorem wp_ldci {ix : Nat} {v : Int32} (h : ma_ins id pc = some (.ldc ix, 2)) (hv : ma_co (ma_ow id) ix = some v) (hn : ma_tx (ma_ow id) ix = none) : ma_W d id Q pc ls st H a b = ma_W d id Q (pc + 2) ls (.int v :: st) H a b := by
  rw [ma_W_eq h]; refine propext ⟨fun h => ?_, fun h => ⟨rfl, Or.inl ⟨v, hv, h⟩⟩⟩
  rcases h.2 with ⟨w, h1, h2⟩ | ⟨w, h1, h2⟩
  · rw [hv] at h1; cases h1; exact h2
  · rw [hn] at h1; cases h1
theorem wp_ldcs {ix v : Nat} (h : ma_ins id pc = some (.ldc ix, 2)) (hv : ma_tx (ma_ow id) ix = some v) (hn : ma_co (ma_ow id) ix = none) : ma_W d id Q pc ls st H a b = ma_W d id Q (pc + 2) ls (.ref v :: st) H a b := by
  rw [ma_W_eq h]; refine propext ⟨fun h => ?_, fun h => ⟨rfl, Or.inr ⟨v, hv, h⟩⟩⟩
  rcases h.2 with ⟨w, h1, h2⟩ | ⟨w, h1, h2⟩
  · rw [hn] at h1; cases h1
  · rw [hv] at h1; cases h1; exact h2
theorem ma_o_some {α : Type} {x : α} {o : Option α} {k : α → Prop} (h : o = some x) : ma_o o k = k x := by subst h; rfl
theorem wp_ldcw {ix : Nat} {v : Int32} (h : ma_ins id pc = some (.ldc_w ix, 3)) (hv : ma_co (ma_ow id) ix = some v) : ma_W d id Q pc ls st H a b = ma_W d id Q (pc + 3) ls (.int v :: st) H a b := by rw [ma_W_eq h]; show (3 = 3 ∧ ma_o _ _) = _; rw [ma_o_some hv]; exact propext ⟨fun h => h.2, fun h => ⟨rfl, h⟩⟩
theorem wp_ldc2 {ix : Nat} {v : Int64} (h : ma_ins id pc = some (.ldc2_w ix, 3)) (hv : ma_c2 (ma_ow id) ix = some v) : ma_W d id Q pc ls st H a b = ma_W d id Q (pc + 3) ls (.long v :: st) H a b := by rw [ma_W_eq h]; show (3 = 3 ∧ ma_o _ _) = _; rw [ma_o_some hv]; exact propext ⟨fun h => h.2, fun h => ⟨rfl, h⟩⟩
theorem wp_iload {k : Nat} {x : Int32} (h : ma_ins id pc = some (.iload k, 2)) (hv : ma_gi ls k = some x) : ma_W d id Q pc ls st H a b = ma_W d id Q (pc + 2) ls (.int x :: st) H a b := by rw [ma_W_eq h]; show (2 = 2 ∧ ma_o _ _) = _; rw [ma_o_some hv]; exact propext ⟨fun h => h.2, fun h => ⟨rfl, h⟩⟩
theorem wp_iload_n {k : Fin 4} {x : Int32} (h : ma_ins id pc = some (.iload_n k, 1)) (hv : ma_gi ls k = some x) : ma_W d id Q pc ls st H a b = ma_W d id Q (pc + 1) ls (.int x :: st) H a b := by rw [ma_W_eq h]; show (1 = 1 ∧ ma_o _ _) = _; rw [ma_o_some hv]; exact propext ⟨fun h => h.2, fun h => ⟨rfl, h⟩⟩
theorem wp_lload {k : Nat} {x : Int64} (h : ma_ins id pc = some (.lload k, 2)) (hv : ma_gl ls k = some x) : ma_W d id Q pc ls st H a b = ma_W d id Q (pc + 2) ls (.long x :: st) H a b := by rw [ma_W_eq h]; show (2 = 2 ∧ ma_o _ _) = _; rw [ma_o_some hv]; exact propext ⟨fun h => h.2, fun h => ⟨rfl, h⟩⟩
theorem wp_lload_n {k : Fin 4} {x : Int64} (h : ma_ins id pc = some (.lload_n k, 1)) (hv : ma_gl ls k = some x) : ma_W d id Q pc ls st H a b = ma_W d id Q (pc + 1) ls (.long x :: st) H a b := by rw [ma_W_eq h]; show (1 = 1 ∧ ma_o _ _) = _; rw [ma_o_some hv]; exact propext ⟨fun h => h.2, fun h => ⟨rfl, h⟩⟩
theorem wp_aload {k : Nat} {x : Option Nat} (h : ma_ins id pc = some (.aload k, 2)) (hv : ma_ga ls k = some x) : ma_W d id Q pc ls st H a b = ma_W d id Q (pc + 2) ls (va_rf x :: st) H a b := by rw [ma_W_eq h]; show (2 = 2 ∧ ma_o _ _) = _; rw [ma_o_some hv]; exact propext ⟨fun h => h.2, fun h => ⟨rfl, h⟩⟩
theorem wp_aload_n {k : Fin 4} {x : Option Nat} (h : ma_ins id pc = some (.aload_n k, 1)) (hv : ma_ga ls k = some x) : ma_W d id Q pc ls st H a b = ma_W d id Q (pc + 1) ls (va_rf x :: st) H a b := by rw [ma_W_eq h]; show (1 = 1 ∧ ma_o _ _) = _; rw [ma_o_some hv]; exact propext ⟨fun h => h.2, fun h => ⟨rfl, h⟩⟩
theorem wp_istore {k : Nat} {x : Int32} (h : ma_ins id pc = some (.istore k, 2)) (hk : k < ls.length) : ma_W d id Q pc ls (.int x :: st) H a b = ma_W d id Q (pc + 2) (ma_st1 ls k (.int x)) st H a b := by rw [ma_W_eq h]; exact propext ⟨fun h => h.2.2, fun h => ⟨rfl, hk, h⟩⟩
theorem wp_istore_n {k : Fin 4} {x : Int32} (h : ma_ins id pc = some (.istore_n k, 1)) (hk : (k : Nat) < ls.length) : ma_W d id Q pc ls (.int x :: st) H a b = ma_W d id Q (pc + 1) (ma_st1 ls k (.int x)) st H a b := by rw [ma_W_eq h]; exact propext ⟨fun h => h.2.2, fun h => ⟨rfl, hk, h⟩⟩
theorem wp_lstore {k : Nat} {x : Int64} (h : ma_ins id pc = some (.lstore k, 2)) (hk : k + 1 < ls.length) : ma_W d id Q pc ls (.long x :: st) H a b = ma_W d id Q (pc + 2) (ma_st2 ls k (.long x)) st H a b := by rw [ma_W_eq h]; exact propext ⟨fun h => h.2.2, fun h => ⟨rfl, hk, h⟩⟩
theorem wp_lstore_n {k : Fin 4} {x : Int64} (h : ma_ins id pc = some (.lstore_n k, 1)) (hk : (k : Nat) + 1 < ls.length) : ma_W d id Q pc ls (.long x :: st) H a b = ma_W d id Q (pc + 1) (ma_st2 ls k (.long x)) st H a b := by rw [ma_W_eq h]; exact propext ⟨fun h => h.2.2, fun h => ⟨rfl, hk, h⟩⟩
theorem wp_astore_n {k : Fin 4} {x : Nat} (h : ma_ins id pc = some (.astore_n k, 1)) (hk : (k : Nat) < ls.length) : ma_W d id Q pc ls (.ref x :: st) H a b = ma_W d id Q (pc + 1) (ma_st1 ls k (.ref x)) st H a b := by rw [ma_W_eq h]; exact propext ⟨fun h => h.2.2, fun h => ⟨rfl, hk, h⟩⟩
theorem wp_astore_nN {k : Fin 4} (h : ma_ins id pc = some (.astore_n k, 1)) (hk : (k : Nat) < ls.length) : ma_W d id Q pc ls (.null :: st) H a b = ma_W d id Q (pc + 1) (ma_st1 ls k .null) st H a b := by rw [ma_W_eq h]; exact propext ⟨fun h => h.2.2, fun h => ⟨rfl, hk, h⟩⟩
theorem wp_iinc {k : Nat} {n : Int} {x v : Int32} (h : ma_ins id pc = some (.iinc k n, 3)) (hk : k < ls.length) (hv : ma_gi ls k = some x) (hn : Int32.ofInt n = v) : ma_W d id Q pc ls st H a b = ma_W d id Q (pc + 3) (ma_st1 ls k (.int (x + v))) st H a b := by rw [ma_W_eq h]; subst hn; show (3 = 3 ∧ _ ∧ ma_o _ _) = _; rw [ma_o_some hv]; exact propext ⟨fun h => h.2.2, fun h => ⟨rfl, hk, h⟩⟩
theorem wp_dup {v : Value} (h : ma_ins id pc = some (.dup, 1)) (hv : v.category = 1) : ma_W d id Q pc ls (v :: st) H a b = ma_W d id Q (pc + 1) ls (v :: v :: st) H a b := by rw [ma_W_eq h]; exact propext ⟨fun h => h.2.2, fun h => ⟨rfl, hv, h⟩⟩
theorem wp_dup2 {v w : Value} (h : ma_ins id pc = some (.dup2, 1)) (hv : v.category = 1) (hw : w.category = 1) : ma_W d id Q pc ls (v :: w :: st) H a b = ma_W d id Q (pc + 1) ls (v :: w :: v :: w :: st) H a b := by rw [ma_W_eq h]; exact propext ⟨fun h => h.2.2.2, fun h => ⟨rfl, hv, hw, h⟩⟩
theorem wp_pop {v : Value} (h : ma_ins id pc = some (.pop, 1)) (hv : v.category = 1) : ma_W d id Q pc ls (v :: st) H a b = ma_W d id Q (pc + 1) ls st H a b := by rw [ma_W_eq h]; exact propext ⟨fun h => h.2.2, fun h => ⟨rfl, hv, h⟩⟩
theorem ma_tgt {pc t : Nat} {off : Int} {P : Nat → Prop} (ht : (pc : Int) + off = (t : Int)) : (∃ t : Nat, (pc : Int) + off = (t : Int) ∧ P t) = P t := propext ⟨fun ⟨t', h1, h2⟩ => by rw [ht] at h1; rw [show t = t' by omega]; exact h2, fun h => ⟨t, ht, h⟩⟩
theorem wp_goto {off : Int} (t : Nat) (h : ma_ins id pc = some (.goto off, 3)) (ht : (pc : Int) + off = (t : Int)) : ma_W d id Q pc ls st H a b = ma_W d id Q t ls st H a b := by rw [ma_W_eq h]; show (3 = 3 ∧ ∃ t : Nat, _ ∧ _) = _; rw [ma_tgt (P := fun t => ma_W d id Q t ls st H a b) ht]; exact propext ⟨fun h => h.2, fun h => ⟨rfl, h⟩⟩
theorem wp_ic {c : ClassFile.Cond} {off : Int} {x y : Int32} (t : Nat) (h : ma_ins id pc = some (.if_icmp c off, 3)) (ht : (pc : Int) + off = (t : Int)) : ma_W d id Q pc ls (.int y :: .int x :: st) H a b = ma_cmp c x y (ma_W d id Q t ls st H a b) (ma_W d id Q (pc + 3) ls st H a b) := by
  rw [ma_W_eq h]; show (3 = 3 ∧ ∃ t : Nat, _ ∧ _) = _; rw [ma_tgt (P := fun t => ma_cmp c x y (ma_W d id Q t ls st H a b) (ma_W d id Q (pc + 3) ls st H a b)) ht]; exact propext ⟨fun h => h.2, fun h => ⟨rfl, h⟩⟩
theorem wp_c0 {c : ClassFile.Cond} {off : Int} {x : Int32} (t : Nat) (h : ma_ins id pc = some (.ifCond c off, 3)) (ht : (pc : Int) + off = (t : Int)) : ma_W d id Q pc ls (.int x :: st) H a b = ma_cmp c x 0 (ma_W d id Q t ls st H a b) (ma_W d id Q (pc + 3) ls st H a b) := by
  rw [ma_W_eq h]; show (3 = 3 ∧ ∃ t : Nat, _ ∧ _) = _; rw [ma_tgt (P := fun t => ma_cmp c x 0 (ma_W d id Q t ls st H a b) (ma_W d id Q (pc + 3) ls st H a b)) ht]; exact propext ⟨fun h => h.2, fun h => ⟨rfl, h⟩⟩
theorem wp_nullR {off : Int} {i : Nat} (t : Nat) (h : ma_ins id pc = some (.ifnull off, 3)) (ht : (pc : Int) + off = (t : Int)) : ma_W d id Q pc ls (.ref i :: st) H a b = ma_W d id Q (pc + 3) ls st H a b := by rw [ma_W_eq h]; show (3 = 3 ∧ ∃ t : Nat, _ ∧ _) = _; exact propext ⟨fun h => h.2.choose_spec.2, fun h => ⟨rfl, t, ht, h⟩⟩
theorem wp_nonnullR {off : Int} {i : Nat} (t : Nat) (h : ma_ins id pc = some (.ifnonnull off, 3)) (ht : (pc : Int) + off = (t : Int)) : ma_W d id Q pc ls (.ref i :: st) H a b = ma_W d id Q t ls st H a b := by rw [ma_W_eq h]; show (3 = 3 ∧ ∃ t : Nat, _ ∧ _) = _; exact propext ⟨fun h => by obtain ⟨t', h1, h2⟩ := h.2; rw [ht] at h1; rw [show t = t' by omega]; exact h2, fun h => ⟨rfl, t, ht, h⟩⟩
theorem wp_nonnullN {off : Int} (t : Nat) (h : ma_ins id pc = some (.ifnonnull off, 3)) (ht : (pc : Int) + off = (t : Int)) : ma_W d id Q pc ls (.null :: st) H a b = ma_W d id Q (pc + 3) ls st H a b := by rw [ma_W_eq h]; show (3 = 3 ∧ ∃ t : Nat, _ ∧ _) = _; exact propext ⟨fun h => h.2.choose_spec.2, fun h => ⟨rfl, t, ht, h⟩⟩
theorem wp_sw {dflt lo hi : Int} {offs : Array Int} {len : Nat} {x : Int32} (h : ma_ins id pc = some (.tableswitch dflt lo hi offs, len)) : ma_W d id Q pc ls (.int x :: st) H a b = ((x.toInt < lo ∨ hi < x.toInt → ∃ t : Nat, (pc : Int) + dflt = (t : Int) ∧ ma_W d id Q t ls st H a b) ∧ (¬ x.toInt < lo → ¬ hi < x.toInt → ∃ (off : Int) (t : Nat), offs[(x.toInt - lo).toNat]? = some off ∧ (pc : Int) + off = (t : Int) ∧ ma_W d id Q t ls st H a b)) := by rw [ma_W_eq h]; rfl
def ma_sw (x : Int32) (lo : Int) (ts : List Nat) (td d id : Nat) (Q : ma_P) (ls : ma_L) (st : List Value) (H : ma_H) (a b : Nat) : Prop := (∀ (k : Nat) (t : Nat), ts[k]? = some t → x.toInt = lo + (k : Int) → ma_W d id Q t ls st H a b) ∧ (x.toInt < lo ∨ lo + (ts.length : Int) ≤ x.toInt → ma_W d id Q td ls st H a b)
theorem wp_switch {dflt lo hi : Int} {offs : Array Int} {len : Nat} {x : Int32} (ts : List Nat) (td : Nat) (h : ma_ins id pc = some (.tableswitch dflt lo hi offs, len)) (h1 : (pc : Int) + dflt = (td : Int)) (h2 : offs.toList = ts.map (fun t : Nat => (t : Int) - (pc : Int))) (h3 : hi + 1 = lo + (ts.length : Int)) : ma_W d id Q pc ls (.int x :: st) H a b = ma_sw x lo ts td d id Q ls st H a b := by
  rw [wp_sw h]
  have ho : ∀ k : Nat, offs[k]? = (ts[k]?).map (fun t : Nat => (t : Int) - (pc : Int)) := fun k => by rw [← Array.getElem?_toList, h2, List.getElem?_map]
  refine propext ⟨fun hw => ⟨fun k t hk hx => ?_, fun hx => ?_⟩, fun hw => ⟨fun hx => ⟨td, h1, hw.2 (by omega)⟩, fun g1 g2 => ?_⟩⟩
  · have hl : k < ts.length := (List.getElem?_eq_some_iff.mp hk).1
    obtain ⟨off, t', e1, e2, e3⟩ := hw.2 (by omega) (by omega)
    rw [show (x.toInt - lo).toNat = k by omega, ho, hk] at e1
    simp only [Option.map_some, Option.some.injEq] at e1
    rw [show t = t' by omega]
    exact e3
  · obtain ⟨t', e1, e2⟩ := hw.1 (by omega)
    rw [show td = t' by omega]
    exact e2
  · have hl : (x.toInt - lo).toNat < ts.length := by omega
    exact ⟨(ts[(x.toInt - lo).toNat] : Int) - (pc : Int), ts[(x.toInt - lo).toNat], by rw [ho, List.getElem?_eq_getElem hl]; rfl, by omega, hw.1 _ _ (List.getElem?_eq_getElem hl) (by omega)⟩
theorem ma_sw_at {x : Int32} {lo : Int} {ts : List Nat} {td d id : Nat} {Q : ma_P} {ls : ma_L} {st : List Value} {H : ma_H} {a b : Nat} (k t : Nat) (hk : ts[k]? = some t) (hx : x.toInt = lo + (k : Int)) : ma_sw x lo ts td d id Q ls st H a b = ma_W d id Q t ls st H a b := by
  have hl : k < ts.length := (List.getElem?_eq_some_iff.mp hk).1
  refine propext ⟨fun h => h.1 k t hk hx, fun h => ⟨fun k' t' hk' hx' => ?_, fun hx' => ?_⟩⟩
  · have : k' = k := by omega
    subst this
    rw [hk] at hk'; cases hk'; exact h
  · omega
theorem ma_sw_out {x : Int32} {lo : Int} {ts : List Nat} {td d id : Nat} {Q : ma_P} {ls : ma_L} {st : List Value} {H : ma_H} {a b : Nat} (hx : x.toInt < lo ∨ lo + (ts.length : Int) ≤ x.toInt) : ma_sw x lo ts td d id Q ls st H a b = ma_W d id Q td ls st H a b := by
  refine propext ⟨fun h => h.2 hx, fun h => ⟨fun k' t' hk' hx' => ?_, fun _ => h⟩⟩
  have hl : k' < ts.length := (List.getElem?_eq_some_iff.mp hk').1
  omega
theorem wp_iadd {x y : Int32} (h : ma_ins id pc = some (.iadd, 1)) : ma_W d id Q pc ls (.int y :: .int x :: st) H a b = ma_W d id Q (pc + 1) ls (.int (x + y) :: st) H a b := by rw [ma_W_eq h]; exact propext ⟨fun h => h.2, fun h => ⟨rfl, h⟩⟩
theorem wp_isub {x y : Int32} (h : ma_ins id pc = some (.isub, 1)) : ma_W d id Q pc ls (.int y :: .int x :: st) H a b = ma_W d id Q (pc + 1) ls (.int (x - y) :: st) H a b := by rw [ma_W_eq h]; exact propext ⟨fun h => h.2, fun h => ⟨rfl, h⟩⟩
theorem wp_imul {x y : Int32} (h : ma_ins id pc = some (.imul, 1)) : ma_W d id Q pc ls (.int y :: .int x :: st) H a b = ma_W d id Q (pc + 1) ls (.int (x * y) :: st) H a b := by rw [ma_W_eq h]; exact propext ⟨fun h => h.2, fun h => ⟨rfl, h⟩⟩
theorem wp_iand {x y : Int32} (h : ma_ins id pc = some (.iand, 1)) : ma_W d id Q pc ls (.int y :: .int x :: st) H a b = ma_W d id Q (pc + 1) ls (.int (x &&& y) :: st) H a b := by rw [ma_W_eq h]; exact propext ⟨fun h => h.2, fun h => ⟨rfl, h⟩⟩
theorem wp_ior {x y : Int32} (h : ma_ins id pc = some (.ior, 1)) : ma_W d id Q pc ls (.int y :: .int x :: st) H a b = ma_W d id Q (pc + 1) ls (.int (x ||| y) :: st) H a b := by rw [ma_W_eq h]; exact propext ⟨fun h => h.2, fun h => ⟨rfl, h⟩⟩
theorem wp_ishl {x y : Int32} (h : ma_ins id pc = some (.ishl, 1)) : ma_W d id Q pc ls (.int y :: .int x :: st) H a b = ma_W d id Q (pc + 1) ls (.int (x <<< (y &&& 31)) :: st) H a b := by rw [ma_W_eq h]; exact propext ⟨fun h => h.2, fun h => ⟨rfl, h⟩⟩
theorem wp_ishr {x y : Int32} (h : ma_ins id pc = some (.ishr, 1)) : ma_W d id Q pc ls (.int y :: .int x :: st) H a b = ma_W d id Q (pc + 1) ls (.int (x >>> (y &&& 31)) :: st) H a b := by rw [ma_W_eq h]; exact propext ⟨fun h => h.2, fun h => ⟨rfl, h⟩⟩
theorem wp_idiv {x y : Int32} (h : ma_ins id pc = some (.idiv, 1)) : ma_W d id Q pc ls (.int y :: .int x :: st) H a b = (¬ y = 0 ∧ ma_W d id Q (pc + 1) ls (.int (x / y) :: st) H a b) := by rw [ma_W_eq h]; exact propext ⟨fun h => h.2, fun h => ⟨rfl, h⟩⟩
theorem wp_irem {x y : Int32} (h : ma_ins id pc = some (.irem, 1)) : ma_W d id Q pc ls (.int y :: .int x :: st) H a b = (¬ y = 0 ∧ ma_W d id Q (pc + 1) ls (.int (ma_rem x y) :: st) H a b) := by rw [ma_W_eq h]; exact propext ⟨fun h => h.2, fun h => ⟨rfl, h⟩⟩
theorem wp_ladd {x y : Int64} (h : ma_ins id pc = some (.ladd, 1)) : ma_W d id Q pc ls (.long y :: .long x :: st) H a b = ma_W d id Q (pc + 1) ls (.long (x + y) :: st) H a b := by rw [ma_W_eq h]; exact propext ⟨fun h => h.2, fun h => ⟨rfl, h⟩⟩
theorem wp_lsub {x y : Int64} (h : ma_ins id pc = some (.lsub, 1)) : ma_W d id Q pc ls (.long y :: .long x :: st) H a b = ma_W d id Q (pc + 1) ls (.long (x - y) :: st) H a b := by rw [ma_W_eq h]; exact propext ⟨fun h => h.2, fun h => ⟨rfl, h⟩⟩
theorem wp_lmul {x y : Int64} (h : ma_ins id pc = some (.lmul, 1)) : ma_W d id Q pc ls (.long y :: .long x :: st) H a b = ma_W d id Q (pc + 1) ls (.long (x * y) :: st) H a b := by rw [ma_W_eq h]; exact propext ⟨fun h => h.2, fun h => ⟨rfl, h⟩⟩
theorem wp_land {x y : Int64} (h : ma_ins id pc = some (.land, 1)) : ma_W d id Q pc ls (.long y :: .long x :: st) H a b = ma_W d id Q (pc + 1) ls (.long (x &&& y) :: st) H a b := by rw [ma_W_eq h]; exact propext ⟨fun h => h.2, fun h => ⟨rfl, h⟩⟩
theorem wp_lor {x y : Int64} (h : ma_ins id pc = some (.lor, 1)) : ma_W d id Q pc ls (.long y :: .long x :: st) H a b = ma_W d id Q (pc + 1) ls (.long (x ||| y) :: st) H a b := by rw [ma_W_eq h]; exact propext ⟨fun h => h.2, fun h => ⟨rfl, h⟩⟩
theorem wp_lxor {x y : Int64} (h : ma_ins id pc = some (.lxor, 1)) : ma_W d id Q pc ls (.long y :: .long x :: st) H a b = ma_W d id Q (pc + 1) ls (.long (x ^^^ y) :: st) H a b := by rw [ma_W_eq h]; exact propext ⟨fun h => h.2, fun h => ⟨rfl, h⟩⟩
theorem wp_ldiv {x y : Int64} (h : ma_ins id pc = some (.ldiv, 1)) : ma_W d id Q pc ls (.long y :: .long x :: st) H a b = (¬ y = 0 ∧ ma_W d id Q (pc + 1) ls (.long (x / y) :: st) H a b) := by rw [ma_W_eq h]; exact propext ⟨fun h => h.2, fun h => ⟨rfl, h⟩⟩
theorem wp_lrem {x y : Int64} (h : ma_ins id pc = some (.lrem, 1)) : ma_W d id Q pc ls (.long y :: .long x :: st) H a b = (¬ y = 0 ∧ ma_W d id Q (pc + 1) ls (.long (ma_rml x y) :: st) H a b) := by rw [ma_W_eq h]; exact propext ⟨fun h => h.2, fun h => ⟨rfl, h⟩⟩
theorem wp_lcmp {x y : Int64} (h : ma_ins id pc = some (.lcmp, 1)) : ma_W d id Q pc ls (.long y :: .long x :: st) H a b = ma_W d id Q (pc + 1) ls (.int (lg_cmp x y) :: st) H a b := by rw [ma_W_eq h]; exact propext ⟨fun h => h.2, fun h => ⟨rfl, h⟩⟩
theorem wp_lshl {x : Int64} {y : Int32} (h : ma_ins id pc = some (.lshl, 1)) : ma_W d id Q pc ls (.int y :: .long x :: st) H a b = ma_W d id Q (pc + 1) ls (.long (x <<< (y.toInt64 &&& 63)) :: st) H a b := by rw [ma_W_eq h]; exact propext ⟨fun h => h.2, fun h => ⟨rfl, h⟩⟩
def ma_ushr (x : Int64) (y : Int32) : Int64 := (x.toUInt64 >>> (y.toInt64.toUInt64 &&& Int64.toUInt64 63)).toInt64
theorem wp_lushr {x : Int64} {y : Int32} (h : ma_ins id pc = some (.lushr, 1)) : ma_W d id Q pc ls (.int y :: .long x :: st) H a b = ma_W d id Q (pc + 1) ls (.long (ma_ushr x y) :: st) H a b := by rw [ma_W_eq h]; exact propext ⟨fun h => h.2, fun h => ⟨rfl, h⟩⟩
theorem wp_i2l {x : Int32} (h : ma_ins id pc = some (.i2l, 1)) : ma_W d id Q pc ls (.int x :: st) H a b = ma_W d id Q (pc + 1) ls (.long x.toInt64 :: st) H a b := by rw [ma_W_eq h]; exact propext ⟨fun h => h.2, fun h => ⟨rfl, h⟩⟩
theorem wp_l2i {x : Int64} (h : ma_ins id pc = some (.l2i, 1)) : ma_W d id Q pc ls (.long x :: st) H a b = ma_W d id Q (pc + 1) ls (.int x.toInt32 :: st) H a b := by rw [ma_W_eq h]; exact propext ⟨fun h => h.2, fun h => ⟨rfl, h⟩⟩
theorem wp_i2b {x : Int32} (h : ma_ins id pc = some (.i2b, 1)) : ma_W d id Q pc ls (.int x :: st) H a b = ma_W d id Q (pc + 1) ls (.int x.toInt8.toInt32 :: st) H a b := by rw [ma_W_eq h]; exact propext ⟨fun h => h.2, fun h => ⟨rfl, h⟩⟩
theorem wp_get {ix ci k i : Nat} (h : ma_ins id pc = some (.getfield ix, 3)) (hf : ma_fd (ma_ow id) ix = some (ci, k)) : ma_W d id Q pc ls (.ref i :: st) H a b = ma_gf (H.1 i) ci k (ma_kV d id Q (pc + 3) ls st H a b) := by
  rw [ma_W_eq h]; show (3 = 3 ∧ ma_o _ _) = _; rw [ma_o_some hf]; unfold ma_gf; exact propext ⟨fun h => mo_ob (fun fs h => by rw [ma_nt_eq]; exact h) h.2, fun h => ⟨rfl, mo_ob (fun fs h => by rw [ma_nt_eq] at h; exact h) h⟩⟩
theorem wp_put {ix ci k i : Nat} {v : Value} (h : ma_ins id pc = some (.putfield ix, 3)) (hf : ma_fd (ma_ow id) ix = some (ci, k)) (hi : ma_fi id ci k = true) (hn : narrow (ma_ft ci k) v = v) (ht : fits (ma_ft ci k) v = true) : ma_W d id Q pc ls (v :: .ref i :: st) H a b = ma_pf (H.1 i) ci k v (ma_kH d id Q (pc + 3) ls st H i a b) := by
  rw [ma_W_eq h]; show (3 = 3 ∧ ma_o _ _) = _; rw [ma_o_some hf]; exact propext ⟨fun h => h.2.2.2.2, fun h => ⟨rfl, hi, hn, ht, h⟩⟩
theorem wp_alen {i : Nat} (h : ma_ins id pc = some (.arraylength, 1)) : ma_W d id Q pc ls (.ref i :: st) H a b = ma_al1 (H.1 i) (ma_kV d id Q (pc + 1) ls st H a b) := by rw [ma_W_eq h]; exact propext ⟨fun h => h.2, fun h => ⟨rfl, h⟩⟩
theorem wp_iald {i : Nat} {j : Int32} (h : ma_ins id pc = some (.iaload, 1)) : ma_W d id Q pc ls (.int j :: .ref i :: st) H a b = ma_ial (H.1 i) j (ma_kV d id Q (pc + 1) ls st H a b) := by rw [ma_W_eq h]; exact propext ⟨fun h => h.2, fun h => ⟨rfl, h⟩⟩
theorem wp_bald {i : Nat} {j : Int32} (h : ma_ins id pc = some (.baload, 1)) : ma_W d id Q pc ls (.int j :: .ref i :: st) H a b = (4 ≤ i ∧ ma_bal (H.1 i) j (ma_kV d id Q (pc + 1) ls st H a b)) := by rw [ma_W_eq h]; exact propext ⟨fun h => h.2, fun h => ⟨rfl, h⟩⟩
theorem wp_aald {i : Nat} {j : Int32} (h : ma_ins id pc = some (.aaload, 1)) : ma_W d id Q pc ls (.int j :: .ref i :: st) H a b = ma_ral (H.1 i) j (ma_kV d id Q (pc + 1) ls st H a b) := by rw [ma_W_eq h]; exact propext ⟨fun h => h.2, fun h => ⟨rfl, h⟩⟩
theorem wp_iast {i : Nat} {j x : Int32} (h : ma_ins id pc = some (.iastore, 1)) : ma_W d id Q pc ls (.int x :: .int j :: .ref i :: st) H a b = (4 ≤ i ∧ ma_ias (H.1 i) j x (ma_kH d id Q (pc + 1) ls st H i a b)) := by rw [ma_W_eq h]; exact propext ⟨fun h => h.2, fun h => ⟨rfl, h⟩⟩
theorem wp_bast {i : Nat} {j x : Int32} (h : ma_ins id pc = some (.bastore, 1)) : ma_W d id Q pc ls (.int x :: .int j :: .ref i :: st) H a b = (4 ≤ i ∧ ma_bas (H.1 i) j x (ma_kH d id Q (pc + 1) ls st H i a b)) := by rw [ma_W_eq h]; exact propext ⟨fun h => h.2, fun h => ⟨rfl, h⟩⟩
theorem wp_aast {i v : Nat} {j : Int32} (h : ma_ins id pc = some (.aastore, 1)) : ma_W d id Q pc ls (.ref v :: .int j :: .ref i :: st) H a b = ma_ras (H.1 i) (H.1 v) j v (ma_kH d id Q (pc + 1) ls st H i a b) := by rw [ma_W_eq h]; exact propext ⟨fun h => h.2, fun h => ⟨rfl, h⟩⟩
theorem wp_new {ix ci N mc ms : Nat} {df : List Value} (h : ma_ins id pc = some (.new ix, 3)) (hf : ma_cs (ma_ow id) ix = some ci) (hN : (ma_F ci).2.2 = N) (hd : ma_df ci = df) (hc : ma_mc id = mc) (hs : ma_ms id = ms) : ma_W d id Q pc ls st H a b = (a + 1 ≤ mc ∧ b + N ≤ ms ∧ ma_W d id Q (pc + 3) ls (.ref H.2 :: st) (ma_new H (.inr (ci, df))) (a + 1) (b + N)) := by
  rw [ma_W_eq h]; show (3 = 3 ∧ ma_o _ _) = _; rw [ma_o_some hf]; subst hN; subst hd; subst hc; subst hs; exact propext ⟨fun h => h.2, fun h => ⟨rfl, h⟩⟩
theorem wp_newi {n : Int32} {N mc ms : Nat} (h : ma_ins id pc = some (.newarray .int, 2)) (hn : ¬ n < 0) (hN : n.toNatClampNeg = N) (hN2 : N ≤ 65536) (hc : ma_mc id = mc) (hs : ma_ms id = ms) : ma_W d id Q pc ls (.int n :: st) H a b = (a + 1 ≤ mc ∧ b + N ≤ ms ∧ ma_W d id Q (pc + 2) ls (.ref H.2 :: st) (ma_new H (.inl (.int, N, .inl fun _ => 0))) (a + 1) (b + N)) := by
  rw [ma_W_eq h]; subst hN; subst hc; subst hs; refine propext ⟨fun h => ⟨h.2.2.2.1, h.2.2.2.2.1, ?_⟩, fun h => ⟨rfl, hn, hN2, h.1, h.2.1, Or.inl ⟨rfl, h.2.2⟩⟩⟩
  rcases h.2.2.2.2.2 with h | h | h
  · exact h.2
  · exact absurd h.1 (by decide)
  · exact absurd h.1 (by decide)
theorem wp_newb {n : Int32} {N mc ms : Nat} (h : ma_ins id pc = some (.newarray .byte, 2)) (hn : ¬ n < 0) (hN : n.toNatClampNeg = N) (hN2 : N ≤ 65536) (hc : ma_mc id = mc) (hs : ma_ms id = ms) : ma_W d id Q pc ls (.int n :: st) H a b = (a + 1 ≤ mc ∧ b + N ≤ ms ∧ ma_W d id Q (pc + 2) ls (.ref H.2 :: st) (ma_new H (.inl (.byte, N, .inl fun _ => 0))) (a + 1) (b + N)) := by
  rw [ma_W_eq h]; subst hN; subst hc; subst hs; refine propext ⟨fun h => ⟨h.2.2.2.1, h.2.2.2.2.1, ?_⟩, fun h => ⟨rfl, hn, hN2, h.1, h.2.1, Or.inr (Or.inl ⟨rfl, h.2.2⟩)⟩⟩
  rcases h.2.2.2.2.2 with h | h | h
  · exact absurd h.1 (by decide)
  · exact h.2
  · exact absurd h.1 (by decide)
theorem wp_newz {n : Int32} {N mc ms : Nat} (h : ma_ins id pc = some (.newarray .boolean, 2)) (hn : ¬ n < 0) (hN : n.toNatClampNeg = N) (hN2 : N ≤ 65536) (hc : ma_mc id = mc) (hs : ma_ms id = ms) : ma_W d id Q pc ls (.int n :: st) H a b = (a + 1 ≤ mc ∧ b + N ≤ ms ∧ ma_W d id Q (pc + 2) ls (.ref H.2 :: st) (ma_new H (.inl (.boolean, N, .inl fun _ => 0))) (a + 1) (b + N)) := by
  rw [ma_W_eq h]; subst hN; subst hc; subst hs; refine propext ⟨fun h => ⟨h.2.2.2.1, h.2.2.2.2.1, ?_⟩, fun h => ⟨rfl, hn, hN2, h.1, h.2.1, Or.inr (Or.inr ⟨rfl, h.2.2⟩)⟩⟩
  rcases h.2.2.2.2.2 with h | h | h
  · exact absurd h.1 (by decide)
  · exact absurd h.1 (by decide)
  · exact h.2
theorem wp_newr {ix ci : Nat} {n : Int32} {N mc ms : Nat} {C : String} (h : ma_ins id pc = some (.anewarray ix, 3)) (hf : ma_cs (ma_ow id) ix = some ci) (h4 : ci = 0 ∨ ci = 4) (hC : (ma_F ci).1 = C) (hn : ¬ n < 0) (hN : n.toNatClampNeg = N) (hN2 : N ≤ 65536) (hc : ma_mc id = mc) (hs : ma_ms id = ms) : ma_W d id Q pc ls (.int n :: st) H a b = (a + 1 ≤ mc ∧ b + N ≤ ms ∧ ma_W d id Q (pc + 3) ls (.ref H.2 :: st) (ma_new H (.inl (.object C, N, .inr (.inr (.inr (.inr fun _ => none)))))) (a + 1) (b + N)) := by
  rw [ma_W_eq h]; show (3 = 3 ∧ ma_o _ _) = _; rw [ma_o_some hf]; subst hN; subst hc; subst hs; subst hC; exact propext ⟨fun h => h.2.2.2.2, fun h => ⟨rfl, h4, hn, hN2, h⟩⟩
theorem wp_callS {ix k ia n cn mc ms : Nat} {av r : List Value} (h : ma_ins id pc = some (.invokestatic ix, 3)) (hf : ma_cl (ma_ow id) ix = some (k, ia, n, cn)) (hk : k = 1 ∨ k = 3) (hs : ∀ P, ma_ar n [] st P = P av r) (hr : ma_cat r ≤ 8) (hc : ma_mc ia = mc) (hm : ma_ms ia = ms) : ma_W d id Q pc ls st H a b = (a + mc ≤ ma_mc id ∧ b + ms ≤ ma_ms id ∧ ma_MW d ia av H (ma_kC d id Q (pc + 3) ls r (a + mc) (b + ms))) := by
  rw [ma_W_eq h]; show (3 = 3 ∧ ma_o _ _) = _; rw [ma_o_some hf]; subst hc; subst hm; dsimp only; rw [hs]
  refine propext ⟨fun h => ?_, fun h => ⟨rfl, Or.inl ⟨hk, hr, h⟩⟩⟩
  rcases h.2 with h | h | h
  · exact h.2.2
  · rcases hk with e | e <;> exact absurd (e.symm.trans h.1) (by decide)
  · rcases hk with e | e <;> exact absurd (e.symm.trans h.1) (by decide)
theorem wp_callS0 {ix k ia n cn : Nat} {av r : List Value} (h : ma_ins id pc = some (.invokestatic ix, 3)) (hf : ma_cl (ma_ow id) ix = some (k, ia, n, cn)) (hk : k = 1 ∨ k = 3) (hs : ∀ P, ma_ar n [] st P = P av r) (hr : ma_cat r ≤ 8) (hc : ma_mc ia = 0) (hm : ma_ms ia = 0) : ma_W d id Q pc ls st H 0 0 = ma_MW d ia av H (ma_kC d id Q (pc + 3) ls r 0 0) := by
  rw [wp_callS h hf hk hs hr hc hm]; exact propext ⟨fun h => h.2.2, fun h => ⟨Nat.zero_le _, Nat.zero_le _, h⟩⟩
theorem wp_callI {ix k ia n cn mc ms q : Nat} {av r : List Value} (h : ma_ins id pc = some (.invokespecial ix, 3)) (hf : ma_cl (ma_ow id) ix = some (k, ia, n, cn)) (hk : k = 2 ∨ k = 4) (hs : ∀ P, ma_ar n [] st P = P av r) (hq : av.head? = some (.ref q)) (hr : ma_cat r ≤ 8) (hc : ma_mc ia = mc) (hm : ma_ms ia = ms) : ma_W d id Q pc ls st H a b = (a + mc ≤ ma_mc id ∧ b + ms ≤ ma_ms id ∧ ma_MW d ia av H (ma_kC d id Q (pc + 3) ls r (a + mc) (b + ms))) := by
  rw [ma_W_eq h]; show (3 = 3 ∧ ma_o _ _) = _; rw [ma_o_some hf]; subst hc; subst hm; dsimp only; rw [hs]
  refine propext ⟨fun h => ?_, fun h => ⟨rfl, Or.inl ⟨hk, ⟨q, hq⟩, hr, h.1, h.2.1, h.2.2⟩⟩⟩
  rcases h.2 with h | h
  · exact h.2.2.2
  · rcases hk with e | e <;> exact absurd (e.symm.trans h.1) (by decide)
theorem wp_obj {ix ia n cn q : Nat} (h : ma_ins id pc = some (.invokespecial ix, 3)) (hf : ma_cl (ma_ow id) ix = some (5, ia, n, cn)) (hr : ma_cat st ≤ 8) : ma_W d id Q pc ls (.ref q :: st) H a b = ma_W d id Q (pc + 3) ls st H a b := by
  rw [ma_W_eq h]; show (3 = 3 ∧ ma_o _ _) = _; rw [ma_o_some hf]; dsimp only
  refine propext ⟨fun h => ?_, fun h => ⟨rfl, Or.inr ⟨rfl, hr, h⟩⟩⟩
  rcases h.2 with h | h
  · exact absurd h.1 (by decide)
  · exact h.2.2
theorem wp_max {ix ia n cn : Nat} {x y : Int32} (h : ma_ins id pc = some (.invokestatic ix, 3)) (hf : ma_cl (ma_ow id) ix = some (6, ia, n, cn)) (hr : ma_cat st ≤ 8) : ma_W d id Q pc ls (.int y :: .int x :: st) H a b = ma_W d id Q (pc + 3) ls (.int (if x < y then y else x) :: st) H a b := by
  rw [ma_W_eq h]; show (3 = 3 ∧ ma_o _ _) = _; rw [ma_o_some hf]; dsimp only
  refine propext ⟨fun h => ?_, fun h => ⟨rfl, Or.inr (Or.inl ⟨rfl, hr, h⟩)⟩⟩
  rcases h.2 with h | h | h
  · exact absurd h.1 (by decide)
  · exact h.2.2
  · exact absurd h.1 (by decide)
theorem wp_min {ix ia n cn : Nat} {x y : Int32} (h : ma_ins id pc = some (.invokestatic ix, 3)) (hf : ma_cl (ma_ow id) ix = some (7, ia, n, cn)) (hr : ma_cat st ≤ 8) : ma_W d id Q pc ls (.int y :: .int x :: st) H a b = ma_W d id Q (pc + 3) ls (.int (if y < x then y else x) :: st) H a b := by
  rw [ma_W_eq h]; show (3 = 3 ∧ ma_o _ _) = _; rw [ma_o_some hf]; dsimp only
  refine propext ⟨fun h => ?_, fun h => ⟨rfl, Or.inr (Or.inr ⟨rfl, hr, h⟩)⟩⟩
  rcases h.2 with h | h | h
  · exact absurd h.1 (by decide)
  · exact absurd h.1 (by decide)
  · exact h.2.2
/-- a call of a method: the receiver's cell is of its class -/
def ma_cv (c : ma_C) (cn d ia : Nat) (av : List Value) (H : ma_H) (P : ma_P) : Prop := ma_ob c cn (fun _ => True) ∧ ma_MW d ia av H P
theorem ma_cv_ap (cn d ia : Nat) (fs : List Value) (av : List Value) (H : ma_H) (P : ma_P) : ma_cv (.inr (cn, fs)) cn d ia av H P = ma_MW d ia av H P := propext ⟨fun h => h.2, fun h => ⟨⟨rfl, trivial⟩, h⟩⟩
theorem wp_callV {ix ia n cn mc ms q : Nat} {av r : List Value} (h : ma_ins id pc = some (.invokevirtual ix, 3)) (hf : ma_cl (ma_ow id) ix = some (0, ia, n, cn)) (hs : ∀ P, ma_ar n [] st P = P (.ref q :: av) r) (hr : ma_cat r ≤ 8) (hc : ma_mc ia = mc) (hm : ma_ms ia = ms) : ma_W d id Q pc ls st H a b = (a + mc ≤ ma_mc id ∧ b + ms ≤ ma_ms id ∧ ma_cv (H.1 q) cn d ia (.ref q :: av) H (ma_kC d id Q (pc + 3) ls r (a + mc) (b + ms))) := by
  rw [ma_W_eq h]; show (3 = 3 ∧ ma_o _ _) = _; rw [ma_o_some hf]; subst hc; subst hm; dsimp only; rw [hs]
  exact propext ⟨fun h => ⟨h.2.2.2.2.1, h.2.2.2.2.2.1, h.2.2.1, h.2.2.2.2.2.2⟩, fun h => ⟨rfl, rfl, h.2.2.1, hr, h.1, h.2.1, h.2.2.2⟩⟩
theorem wp_callV0 {ix ia n cn q : Nat} {av r : List Value} (h : ma_ins id pc = some (.invokevirtual ix, 3)) (hf : ma_cl (ma_ow id) ix = some (0, ia, n, cn)) (hs : ∀ P, ma_ar n [] st P = P (.ref q :: av) r) (hr : ma_cat r ≤ 8) (hc : ma_mc ia = 0) (hm : ma_ms ia = 0) : ma_W d id Q pc ls st H 0 0 = ma_cv (H.1 q) cn d ia (.ref q :: av) H (ma_kC d id Q (pc + 3) ls r 0 0) := by
  rw [wp_callV h hf hs hr hc hm]; exact propext ⟨fun h => h.2.2, fun h => ⟨Nat.zero_le _, Nat.zero_le _, h⟩⟩
theorem wp_iret {x : Int32} (h : ma_ins id pc = some (.ireturn, 1)) (hr : ma_rt id = some .int) : ma_W d id Q pc ls [.int x] H a b = Q (some (.int x)) H := by rw [ma_W_eq h]; exact propext ⟨fun h => h.2.2.2, fun h => ⟨rfl, rfl, Or.inl hr, h⟩⟩
theorem wp_zret {x : Int32} (h : ma_ins id pc = some (.ireturn, 1)) (hr : ma_rt id = some .boolean) : ma_W d id Q pc ls [.int x] H a b = ((x = 0 ∨ x = 1) ∧ Q (some (.int x)) H) := by
  rw [ma_W_eq h]; refine propext ⟨fun h => ⟨?_, h.2.2.2⟩, fun h => ⟨rfl, rfl, Or.inr ⟨hr, h.1⟩, h.2⟩⟩
  rcases h.2.2.1 with e | e
  · rw [hr] at e; exact absurd e (by decide)
  · exact e.2
theorem wp_lret {x : Int64} (h : ma_ins id pc = some (.lreturn, 1)) (hr : ma_rt id = some .long) : ma_W d id Q pc ls [.long x] H a b = Q (some (.long x)) H := by rw [ma_W_eq h]; exact propext ⟨fun h => h.2.2.2, fun h => ⟨rfl, rfl, hr, h⟩⟩
theorem wp_vret (h : ma_ins id pc = some (.return_, 1)) (hr : ma_rt id = none) : ma_W d id Q pc ls [] H a b = Q none H := by rw [ma_W_eq h]; exact propext ⟨fun h => h.2.2.2, fun h => ⟨rfl, rfl, hr, h⟩⟩
theorem wp_enter {av : List Value} {P : ma_P} {ls' : ma_L} (h : id < 212) (hl : (ma_sl av).length ≤ ma_ml id) (he : ma_en (ma_ml id) av = ls') : ma_MW (d + 1) id av H P = ma_W d id P 0 ls' [] H 0 0 := by
  subst he
  refine propext ⟨fun hw => ?_, fun hw => Or.inl ⟨h, hl, hw⟩⟩
  rcases hw with h | ⟨-, h | h⟩
  · exact h.2.2
  · omega
  · omega
theorem ma_cat_n : ma_cat [] = 0 := rfl
theorem ma_cat_i (x : Int32) (r : List Value) : ma_cat (.int x :: r) = 1 + ma_cat r := rfl
theorem ma_cat_l (x : Int64) (r : List Value) : ma_cat (.long x :: r) = 2 + ma_cat r := rfl
theorem ma_cat_r (x : Nat) (r : List Value) : ma_cat (.ref x :: r) = 1 + ma_cat r := rfl
theorem ma_clr_n : ma_clr none = none := rfl
theorem ma_clr_i (x : Int32) : ma_clr (some (.int x)) = some (.int x) := rfl
theorem ma_clr_l (x : Int64) : ma_clr (some (.long x)) = none := rfl
theorem ma_clr_r (x : Nat) : ma_clr (some (.ref x)) = some (.ref x) := rfl
theorem ma_clr_0 : ma_clr (some .null) = some .null := rfl
theorem ma_nt_0 (v : Value) (l : List Value) (K : Value → Prop) : ma_nt (v :: l) 0 K = K v := rfl
theorem ma_nt_s (v : Value) (l : List Value) (k : Nat) (K : Value → Prop) : ma_nt (v :: l) (k + 1) K = ma_nt l k K := rfl
theorem ma_rf_s (i : Nat) : va_rf (some i) = .ref i := rfl
theorem ma_rf_n : va_rf none = .null := rfl
theorem ma_cj {A : Prop} {c : Prop} {B : Prop} (h : c → A = B) (h2 : A → c) : A = (c ∧ B) := propext ⟨fun a => ⟨h2 a, (h (h2 a)) ▸ a⟩, fun b => (h b.1).symm ▸ b.2⟩
theorem wc_S {ix k ia n cn mc ms : Nat} {av r : List Value} (h : ma_ins id pc = some (.invokestatic ix, 3)) (hf : ma_cl (ma_ow id) ix = some (k, ia, n, cn)) (hk : k = 1 ∨ k = 3) (hs : ∀ P, ma_ar n [] st P = P av r) (hc : ma_mc ia = mc) (hm : ma_ms ia = ms) : ma_W d id Q pc ls st H a b = (ma_cat r ≤ 8 ∧ a + mc ≤ ma_mc id ∧ b + ms ≤ ma_ms id ∧ ma_MW d ia av H (ma_kC d id Q (pc + 3) ls r (a + mc) (b + ms))) := by
  refine ma_cj (fun hr => wp_callS h hf hk hs hr hc hm) ?_
  rw [ma_W_eq h]; show (3 = 3 ∧ ma_o _ _) → _; rw [ma_o_some hf]; dsimp only; rw [hs]
  intro h
  rcases h.2 with h | h | h
  · exact h.2.1
  · rcases hk with e | e <;> exact absurd (e.symm.trans h.1) (by decide)
  · rcases hk with e | e <;> exact absurd (e.symm.trans h.1) (by decide)
theorem wc_S0 {ix k ia n cn : Nat} {av r : List Value} (h : ma_ins id pc = some (.invokestatic ix, 3)) (hf : ma_cl (ma_ow id) ix = some (k, ia, n, cn)) (hk : k = 1 ∨ k = 3) (hs : ∀ P, ma_ar n [] st P = P av r) (hc : ma_mc ia = 0) (hm : ma_ms ia = 0) : ma_W d id Q pc ls st H 0 0 = (ma_cat r ≤ 8 ∧ ma_MW d ia av H (ma_kC d id Q (pc + 3) ls r 0 0)) := by
  rw [wc_S h hf hk hs hc hm]; exact propext ⟨fun h => ⟨h.1, h.2.2.2⟩, fun h => ⟨h.1, Nat.zero_le _, Nat.zero_le _, h.2⟩⟩
theorem wc_I {ix k ia n cn mc ms q : Nat} {av r : List Value} (h : ma_ins id pc = some (.invokespecial ix, 3)) (hf : ma_cl (ma_ow id) ix = some (k, ia, n, cn)) (hk : k = 2 ∨ k = 4) (hs : ∀ P, ma_ar n [] st P = P av r) (hq : av.head? = some (.ref q)) (hc : ma_mc ia = mc) (hm : ma_ms ia = ms) : ma_W d id Q pc ls st H a b = (ma_cat r ≤ 8 ∧ a + mc ≤ ma_mc id ∧ b + ms ≤ ma_ms id ∧ ma_MW d ia av H (ma_kC d id Q (pc + 3) ls r (a + mc) (b + ms))) := by
  refine ma_cj (fun hr => wp_callI h hf hk hs hq hr hc hm) ?_
  rw [ma_W_eq h]; show (3 = 3 ∧ ma_o _ _) → _; rw [ma_o_some hf]; dsimp only; rw [hs]
  intro h
  rcases h.2 with h | h
  · exact h.2.2.1
  · rcases hk with e | e <;> exact absurd (e.symm.trans h.1) (by decide)
theorem wc_obj {ix ia n cn q : Nat} (h : ma_ins id pc = some (.invokespecial ix, 3)) (hf : ma_cl (ma_ow id) ix = some (5, ia, n, cn)) : ma_W d id Q pc ls (.ref q :: st) H a b = (ma_cat st ≤ 8 ∧ ma_W d id Q (pc + 3) ls st H a b) := by
  refine ma_cj (fun hr => wp_obj h hf hr) ?_
  rw [ma_W_eq h]; show (3 = 3 ∧ ma_o _ _) → _; rw [ma_o_some hf]; dsimp only
  intro h
  rcases h.2 with h | h
  · exact absurd h.1 (by decide)
  · exact h.2.1
theorem wc_max {ix ia n cn : Nat} {x y : Int32} (h : ma_ins id pc = some (.invokestatic ix, 3)) (hf : ma_cl (ma_ow id) ix = some (6, ia, n, cn)) : ma_W d id Q pc ls (.int y :: .int x :: st) H a b = (ma_cat st ≤ 8 ∧ ma_W d id Q (pc + 3) ls (.int (if x < y then y else x) :: st) H a b) := by
  refine ma_cj (fun hr => wp_max h hf hr) ?_
  rw [ma_W_eq h]; show (3 = 3 ∧ ma_o _ _) → _; rw [ma_o_some hf]; dsimp only
  intro h
  rcases h.2 with h | h | h
  · exact absurd h.1 (by decide)
  · exact h.2.1
  · exact absurd h.1 (by decide)
theorem wc_min {ix ia n cn : Nat} {x y : Int32} (h : ma_ins id pc = some (.invokestatic ix, 3)) (hf : ma_cl (ma_ow id) ix = some (7, ia, n, cn)) : ma_W d id Q pc ls (.int y :: .int x :: st) H a b = (ma_cat st ≤ 8 ∧ ma_W d id Q (pc + 3) ls (.int (if y < x then y else x) :: st) H a b) := by
  refine ma_cj (fun hr => wp_min h hf hr) ?_
  rw [ma_W_eq h]; show (3 = 3 ∧ ma_o _ _) → _; rw [ma_o_some hf]; dsimp only
  intro h
  rcases h.2 with h | h | h
  · exact absurd h.1 (by decide)
  · exact absurd h.1 (by decide)
  · exact h.2.1
theorem wc_V {ix ia n cn mc ms q : Nat} {av r : List Value} (h : ma_ins id pc = some (.invokevirtual ix, 3)) (hf : ma_cl (ma_ow id) ix = some (0, ia, n, cn)) (hs : ∀ P, ma_ar n [] st P = P (.ref q :: av) r) (hc : ma_mc ia = mc) (hm : ma_ms ia = ms) : ma_W d id Q pc ls st H a b = (ma_cat r ≤ 8 ∧ a + mc ≤ ma_mc id ∧ b + ms ≤ ma_ms id ∧ ma_cv (H.1 q) cn d ia (.ref q :: av) H (ma_kC d id Q (pc + 3) ls r (a + mc) (b + ms))) := by
  refine ma_cj (fun hr => wp_callV h hf hs hr hc hm) ?_
  rw [ma_W_eq h]; show (3 = 3 ∧ ma_o _ _) → _; rw [ma_o_some hf]; dsimp only; rw [hs]
  exact fun h => h.2.2.2.1
theorem wc_V0 {ix ia n cn q : Nat} {av r : List Value} (h : ma_ins id pc = some (.invokevirtual ix, 3)) (hf : ma_cl (ma_ow id) ix = some (0, ia, n, cn)) (hs : ∀ P, ma_ar n [] st P = P (.ref q :: av) r) (hc : ma_mc ia = 0) (hm : ma_ms ia = 0) : ma_W d id Q pc ls st H 0 0 = (ma_cat r ≤ 8 ∧ ma_cv (H.1 q) cn d ia (.ref q :: av) H (ma_kC d id Q (pc + 3) ls r 0 0)) := by
  rw [wc_V h hf hs hc hm]; exact propext ⟨fun h => ⟨h.1, h.2.2.2⟩, fun h => ⟨h.1, Nat.zero_le _, Nat.zero_le _, h.2⟩⟩
end WR

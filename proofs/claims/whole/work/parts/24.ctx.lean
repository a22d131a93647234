/-! the context of a method, and what carries over into a call -/
def ms_X (D : va_G) (cA : FieldType → ClassId) (x : Nat → Nat) (U : State) : Prop :=
  va_K D mb_cl (ms_tys cA) U ∧ (∀ q ∈ mb_ca, q.2.2.1 = 3 ∨ q.2.2.1 = 4 → va_Nw (.methodLinkNest ((mb_own[q.1]?).getD "") q.2.1 (ma_y q.2.2.2.1) "BeggarPile") U) ∧ (va_AO "BeggarPile$Table" U ∧ va_AO "BeggarPile$Game" U) ∧ (vk_R "BeggarPile$Reader" 91 "game" (x 1) U ∧ vk_R "BeggarPile$Reader" 97 "hand" (x 2) U ∧ vk_R "BeggarPile$Reader" 99 "lay" (x 3) U)
def mb_byt : List (List Int32) := [[103, 97, 109, 101], [104, 97, 110, 100], [108, 97, 121]]
def ms_E (x adV : Nat → Nat) (B L : Nat) (xs : Nat → Int32) (U : State) (H : Heap) : Prop := vk_S 3 [4, 4, 3] mb_byt (fun i => x (i + 1)) adV (fun q => B ≤ q) U H ∧ va_X (x 0) L xs U H ∧ x 0 < B ∧ B ≤ H.size ∧ va_Z "java/lang/String" "COMPACT_STRINGS" "Z" (.int 1) (fun q => B ≤ q) U H ∧ va_Zq "jdk/internal/util/Preconditions" "SIOOBE_FORMATTER" "Ljava/util/function/BiFunction;" (fun q => B ≤ q) U H
def ms_Pc (D : va_G) (cA : FieldType → ClassId) (x adV : Nat → Nat) (B L : Nat) (xs : Nat → Int32) (av : List Value) (h : ma_H) : Array Value → State → Prop := fun v U => v = (av.map (ms_v (ms_ad x B))).toArray ∧ ms_X D cA x U ∧ ms_E x adV B L xs U U.heap ∧ ms_I D cA x B L xs U.heap h U.heap []
def ms_Qc (D : va_G) (cA : FieldType → ClassId) (x : Nat → Nat) (B L : Nat) (xs : Nat → Int32) (P : ma_P) : Array Value → State → Outcome → State → Prop := fun _ st oc t => ∃ (r : Option Value) (h' : ma_H), oc = .returned (r.map (ms_v (ms_ad x B))) ∧ P r h' ∧ ms_I D cA x B L xs st.heap h' t.heap []
def ms_rm (d id : Nat) : Room := { frames := d, cells := ma_mc id, slots := ma_ms id, locals := 40 * d }
def ms_met (l : Launch) (D : va_G) (cA : FieldType → ClassId) (x adV : Nat → Nat) (B L : Nat) (xs : Nat → Int32) (d ia : Nat) (av : List Value) (h : ma_H) (P : ma_P) : Prop := Met l (ma_y ia) (ms_ws ia) (ms_rm d ia) (ms_Pc D cA x adV B L xs av h) (ms_Qc D cA x B L xs P) (ma_mc ia) (ma_ms ia) (fun q => B ≤ q)
theorem ms_X.warm {D : va_G} {cA : FieldType → ClassId} {x : Nat → Nat} {s U : State} (hW : s.WarmedH U.vm) (h : ms_X D cA x s) : ms_X D cA x U :=
  ⟨va_K.moved hW.alike h.1, fun q hq hk => va_Nw.warmM hW (h.2.1 q hq hk), ⟨va_AO.moved hW.alike h.2.2.1.1, va_AO.moved hW.alike h.2.2.1.2⟩, vk_R.warm hW h.2.2.2.1, vk_R.warm hW h.2.2.2.2.1, vk_R.warm hW h.2.2.2.2.2⟩
theorem ms_X.same {D : va_G} {cA : FieldType → ClassId} {x : Nat → Nat} {u U : State} (hv : U.vm = u.vm) (h : ms_X D cA x u) : ms_X D cA x U := by
  have ha : u.vm.Alike U.vm := by rw [hv]; exact Vm.Alike.refl u.vm
  exact ⟨va_K.moved ha h.1, fun q hq hk => va_Nw.same rfl hv.symm (h.2.1 q hq hk), ⟨va_AO.moved ha h.2.2.1.1, va_AO.moved ha h.2.2.1.2⟩, vk_R.same hv h.2.2.2.1, vk_R.same hv h.2.2.2.2.1, vk_R.same hv h.2.2.2.2.2⟩
theorem ms_E.moved {x adV : Nat → Nat} {B L : Nat} {xs : Nat → Int32} {u U : State} {H H1 : Heap} (ha : u.vm.Alike U.vm) (hq : ∀ q : Nat, q < B → H1[q]? = H[q]?) (hz : B ≤ H1.size) (h : ms_E x adV B L xs u H) : ms_E x adV B L xs U H1 :=
  ⟨(h.1.kept (fun a _ hn => hq a (Nat.lt_of_not_le hn))).moved ha, (h.2.1.kept (hq _ h.2.2.1)).moved ha, h.2.2.1, hz, (h.2.2.2.2.1.kept (fun a _ hn => hq a (Nat.lt_of_not_le hn))).moved ha, (h.2.2.2.2.2.kept (fun a _ hn => hq a (Nat.lt_of_not_le hn))).moved ha⟩
theorem ms_blind {D : va_G} {cA : FieldType → ClassId} {x adV : Nat → Nat} {B L : Nat} {xs : Nat → Int32} {av : List Value} {h : ma_H} : FrameBlind (ms_Pc D cA x adV B L xs av h) := by
  intro a U g mk hp
  exact ⟨hp.1, hp.2.1.same rfl, hp.2.2.1.moved (Vm.Alike.refl U.vm) (fun _ _ => rfl) hp.2.2.1.2.2.2.1, hp.2.2.2⟩
section CX
variable {p : Program} {l : Launch} {e : Env} {R : Room} {s : State} {m : MethodId} {args : Array Value} {below : List Frame} {meth : Method} {c : Code} {Qf : State → Prop} {D : va_G} {cA : FieldType → ClassId} {x adV : Nat → Nat} {B L : Nat} {xs : Nat → Int32} {id d : Nat}
def ms_Cx (p : Program) (R : Room) (s : State) (m : MethodId) (args : Array Value) (meth : Method) (c : Code) (D : va_G) (cA : FieldType → ClassId) (x adV : Nat → Nat) (B L : Nat) (xs : Nat → Int32) (id d : Nat) : Prop :=
  p.tables.exec = Jvm.exec ∧ c.code = ma_by id ∧ c.maxLocals = ma_ml id ∧ s.vm.findClass (ma_on id) = some m.cls ∧ (∀ w ∈ ms_G, w.before args s = true) ∧ ms_X D cA x s ∧ ms_E x adV B L xs s s.heap ∧ ((ma_y id).name = "<init>" → meth.name = "<init>") ∧ R.cells = ma_mc id ∧ R.slots = ma_ms id ∧ d + 1 ≤ R.frames ∧ 40 * d + 40 ≤ R.locals
def ms_R (p : Program) (l : Launch) (e : Env) (R : Room) (s : State) (m : MethodId) (args : Array Value) (below : List Frame) (meth : Method) (c : Code) (Qf : State → Prop) (D : va_G) (cA : FieldType → ClassId) (x : Nat → Nat) (B L : Nat) (xs : Nat → Int32) (id : Nat) : ma_K := fun pc ls st h kc ks =>
  ∀ (H : Heap) (locs : List Loc) (lr : Array Slot), ms_L (ms_ad x B) (ma_ml id) ls lr → ms_I D cA x B L xs s.heap h H locs → kc ≤ ma_mc id → ks ≤ ma_ms id → W p l e R s m args below meth c H locs kc ks Qf (F0 m pc lr (st.map (ms_v (ms_ad x B))))
theorem ms_pre (hX : ms_X D cA x s) (hE : ms_E x adV B L xs s s.heap) {h : ma_H} {H : Heap} {locs : List Loc} (hI : ms_I D cA x B L xs s.heap h H locs) (av : List Value) : ∀ U : State, U.heap = H → s.WarmedH U.vm → ms_Pc D cA x adV B L xs av h (av.map (ms_v (ms_ad x B))).toArray U := by
  intro U hU hW
  have hz : B ≤ H.size := by have := hI.2.1; omega
  refine ⟨rfl, hX.warm hW, ?_, ?_⟩
  · rw [hU]; exact hE.moved hW.alike hI.2.2.2.2.2.2.1 hz
  · rw [hU]; exact ⟨hI.1, hI.2.1, hI.2.2.1, hI.2.2.2.1, hI.2.2.2.2.1, hI.2.2.2.2.2.1, fun _ _ => rfl, fun _ h => by cases h⟩
theorem ms_cat_eq (ad : Nat → Nat) : ∀ r : List Value, ((r.map (ms_v ad)).map fun v => v.category).sum = ma_cat r
  | [] => rfl
  | v :: r => by
    show (ms_v ad v).category + _ = v.category + ma_cat r
    rw [ms_v_cat]
    exact congrArg _ (ms_cat_eq ad r)
/-- behind a call -/
theorem ms_call {K : ma_K} (hK : ∀ pc ls st h kc ks, K pc ls st h kc ks → ms_R p l e R s m args below meth c Qf D cA x B L xs id pc ls st h kc ks) {H : Heap} {locs : List Loc} {lr : Array Slot} {kc ks mc ms pc : Nat} {ls : ma_L} {st0 : List Value} {r : List Value} {a : Array Value} {h : ma_H} {P : ma_P}
    (hrun : va_Run p l e R s m args below meth c H locs kc ks mc ms (F0 m pc lr st0) (r.map (ms_v (ms_ad x B))) (ms_Qc D cA x B L xs P a) (fun q => B ≤ q)) (hL : ms_L (ms_ad x B) (ma_ml id) ls lr) (hI : ms_I D cA x B L xs s.heap h H locs) (h1 : kc + mc ≤ ma_mc id) (h2 : ks + ms ≤ ma_ms id) (hP : ∀ v h', P v h' → K (pc + 3) ls (v.toList ++ r) h' (kc + mc) (ks + ms)) : W p l e R s m args below meth c H locs kc ks Qf (F0 m pc lr st0) := by
  intro T hT X
  obtain ⟨v, st₀, t, T', L', h0, X', hL', e1, e2, ⟨rv, h', hv, hp, hI'⟩, stp⟩ := hrun T hT X
  cases hv
  have hI2 : ms_I D cA x B L xs s.heap h' T'.heap (locs ++ L') := by
    rw [e1]
    refine ⟨hI'.1, hI'.2.1, hI'.2.2.1, hI'.2.2.2.1, hI'.2.2.2.2.1, hI'.2.2.2.2.2.1, fun q hq => ?_, fun z hz => ?_⟩
    · rw [hI'.2.2.2.2.2.2.1 q hq, h0]; exact hI.2.2.2.2.2.2.1 q hq
    · rcases List.mem_append.mp hz with g | g
      · exact hI.2.2.2.2.2.2.2 z g
      · exact hL' z g
  obtain ⟨t2, a1, b1⟩ := hK _ _ _ _ _ _ (hP _ _ hp) T'.heap _ lr hL hI2 h1 h2 T' rfl X'
  refine ⟨t2, stp t2 ?_, b1⟩
  have e : (rv.toList ++ r).map (ms_v (ms_ad x B)) = (rv.map (ms_v (ms_ad x B))).toList ++ r.map (ms_v (ms_ad x B)) := by
    cases rv <;> simp
  rw [e] at a1
  exact a1
theorem iv_o {α : Type} {o : Option α} {k : α → Prop} (h : ma_o o k) : ∃ a, o = some a ∧ k a := by cases o with | none => exact h.elim | some a => exact ⟨a, rfl, h⟩
theorem iv_i1 {st : List Value} {k : Int32 → List Value → Prop} (h : ma_i1 st k) : ∃ y r, st = .int y :: r ∧ k y r := by unfold ma_i1 at h; split at h <;> first | exact ⟨_, _, rfl, h⟩ | exact h.elim
theorem iv_i2 {st : List Value} {k : Int32 → Int32 → List Value → Prop} (h : ma_i2 st k) : ∃ y z r, st = .int z :: .int y :: r ∧ k y z r := by unfold ma_i2 at h; split at h <;> first | exact ⟨_, _, _, rfl, h⟩ | exact h.elim
theorem iv_l1 {st : List Value} {k : Int64 → List Value → Prop} (h : ma_l1 st k) : ∃ y r, st = .long y :: r ∧ k y r := by unfold ma_l1 at h; split at h <;> first | exact ⟨_, _, rfl, h⟩ | exact h.elim
theorem iv_l2 {st : List Value} {k : Int64 → Int64 → List Value → Prop} (h : ma_l2 st k) : ∃ y z r, st = .long z :: .long y :: r ∧ k y z r := by unfold ma_l2 at h; split at h <;> first | exact ⟨_, _, _, rfl, h⟩ | exact h.elim
theorem iv_li {st : List Value} {k : Int64 → Int32 → List Value → Prop} (h : ma_li st k) : ∃ y z r, st = .int z :: .long y :: r ∧ k y z r := by unfold ma_li at h; split at h <;> first | exact ⟨_, _, _, rfl, h⟩ | exact h.elim
theorem iv_v1 {st : List Value} {k : Value → List Value → Prop} (h : ma_v1 st k) : ∃ v r, st = v :: r ∧ k v r := by unfold ma_v1 at h; split at h <;> first | exact ⟨_, _, rfl, h⟩ | exact h.elim
theorem iv_v2 {st : List Value} {k : Value → Value → List Value → Prop} (h : ma_v2 st k) : ∃ v w r, st = v :: w :: r ∧ k v w r := by unfold ma_v2 at h; split at h <;> first | exact ⟨_, _, _, rfl, h⟩ | exact h.elim
theorem iv_r1 {st : List Value} {k : Nat → List Value → Prop} (h : ma_r1 st k) : ∃ i r, st = .ref i :: r ∧ k i r := by unfold ma_r1 at h; split at h <;> first | exact ⟨_, _, rfl, h⟩ | exact h.elim
theorem iv_ir {st : List Value} {k : Int32 → Nat → List Value → Prop} (h : ma_ir st k) : ∃ j i r, st = .int j :: .ref i :: r ∧ k j i r := by unfold ma_ir at h; split at h <;> first | exact ⟨_, _, _, rfl, h⟩ | exact h.elim
theorem iv_iir {st : List Value} {k : Int32 → Int32 → Nat → List Value → Prop} (h : ma_iir st k) : ∃ y j i r, st = .int y :: .int j :: .ref i :: r ∧ k y j i r := by unfold ma_iir at h; split at h <;> first | exact ⟨_, _, _, _, rfl, h⟩ | exact h.elim
theorem iv_rir {st : List Value} {k : Nat → Int32 → Nat → List Value → Prop} (h : ma_rir st k) : ∃ y j i r, st = .ref y :: .int j :: .ref i :: r ∧ k y j i r := by unfold ma_rir at h; split at h <;> first | exact ⟨_, _, _, _, rfl, h⟩ | exact h.elim
theorem iv_vr {st : List Value} {k : Value → Nat → List Value → Prop} (h : ma_vr st k) : ∃ v i r, st = v :: .ref i :: r ∧ k v i r := by unfold ma_vr at h; split at h <;> first | exact ⟨_, _, _, rfl, h⟩ | exact h.elim
theorem iv_nl {st : List Value} {a b : List Value → Prop} (h : ma_nl st a b) : (∃ r, st = .null :: r ∧ a r) ∨ ∃ i r, st = .ref i :: r ∧ b r := by unfold ma_nl at h; split at h <;> first | exact Or.inl ⟨_, rfl, h⟩ | exact Or.inr ⟨_, _, rfl, h⟩ | exact h.elim
theorem iv_gi {ls : ma_L} {k : Nat} {y : Int32} (h : ma_gi ls k = some y) : ls[k]? = some (some (.int y)) := by unfold ma_gi at h; split at h <;> first | (cases h; assumption) | (cases h)
theorem iv_gl {ls : ma_L} {k : Nat} {y : Int64} (h : ma_gl ls k = some y) : ls[k]? = some (some (.long y)) := by unfold ma_gl at h; split at h <;> first | (cases h; assumption) | (cases h)
theorem iv_ga {ls : ma_L} {k : Nat} {y : Option Nat} (h : ma_ga ls k = some y) : ls[k]? = some (some (va_rf y)) := by unfold ma_ga at h; split at h <;> first | (cases h; assumption) | (cases h; assumption) | (cases h)
theorem iv_ob {c : ma_C} {ci : Nat} {k : List Value → Prop} (h : ma_ob c ci k) : ∃ fs, c = .inr (ci, fs) ∧ k fs := by unfold ma_ob at h; split at h <;> first | exact ⟨_, by rw [h.1], h.2⟩ | exact h.elim
theorem iv_ia {c : ma_C} {t : FieldType} {k : Nat → (Nat → Int32) → Prop} (h : ma_ia c t k) : ∃ n f, c = .inl (t, n, .inl f) ∧ k n f := by unfold ma_ia at h; split at h <;> first | exact ⟨_, _, by rw [h.1], h.2⟩ | exact h.elim
theorem iv_ra {c : ma_C} {k : FieldType → Nat → (Nat → Option Nat) → Prop} (h : ma_ra c k) : ∃ t n f, c = .inl (t, n, .inr (.inr (.inr (.inr f)))) ∧ k t n f := by unfold ma_ra at h; split at h <;> first | exact ⟨_, _, _, rfl, h⟩ | exact h.elim
theorem iv_al {c : ma_C} {k : Nat → Prop} (h : ma_al c k) : (∃ t n f, c = .inl (t, n, .inl f) ∧ (t = .int ∨ t = .byte ∨ t = .boolean) ∧ k n) ∨ ∃ t n f, c = .inl (t, n, .inr (.inr (.inr (.inr f)))) ∧ (t = .object "BeggarPile$Table" ∨ t = .object "BeggarPile$Game") ∧ k n := by
  unfold ma_al at h; split at h <;> first | exact Or.inl ⟨_, _, _, rfl, h⟩ | exact Or.inr ⟨_, _, _, rfl, h⟩ | exact h.elim
theorem iv_ar {k : List Value → List Value → Prop} : ∀ (n : Nat) (acc st : List Value), ma_ar n acc st k → ∃ av r, k (av ++ acc) r ∧ st = av.reverse ++ r ∧ av.length = n
  | 0, acc, st => fun h => ⟨[], st, h, rfl, rfl⟩
  | n + 1, acc, v :: st => fun h => by
    obtain ⟨av, r, h1, h2, h3⟩ := iv_ar n (v :: acc) st h
    exact ⟨av ++ [v], r, by rw [List.append_assoc]; exact h1, by rw [List.reverse_append, h2]; rfl, by rw [List.length_append, h3]; rfl⟩
  | n + 1, acc, [] => fun h => h.elim
end CX

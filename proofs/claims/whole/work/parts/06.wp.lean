/-! monotone, least fixed point, rewriting rows -/
theorem mo_o {α : Type} {o : Option α} {k k' : α → Prop} (h : ∀ a, k a → k' a) : ma_o o k → ma_o o k' := by cases o <;> first | exact fun h => h | exact h _
theorem mo_i1 {st : List Value} {k k' : Int32 → List Value → Prop} (h : ∀ x r, k x r → k' x r) : ma_i1 st k → ma_i1 st k' := by unfold ma_i1; split <;> first | exact fun h => h | exact h _ _
theorem mo_i2 {st : List Value} {k k' : Int32 → Int32 → List Value → Prop} (h : ∀ x y r, k x y r → k' x y r) : ma_i2 st k → ma_i2 st k' := by unfold ma_i2; split <;> first | exact fun h => h | exact h _ _ _
theorem mo_l1 {st : List Value} {k k' : Int64 → List Value → Prop} (h : ∀ x r, k x r → k' x r) : ma_l1 st k → ma_l1 st k' := by unfold ma_l1; split <;> first | exact fun h => h | exact h _ _
theorem mo_l2 {st : List Value} {k k' : Int64 → Int64 → List Value → Prop} (h : ∀ x y r, k x y r → k' x y r) : ma_l2 st k → ma_l2 st k' := by unfold ma_l2; split <;> first | exact fun h => h | exact h _ _ _
theorem mo_li {st : List Value} {k k' : Int64 → Int32 → List Value → Prop} (h : ∀ x y r, k x y r → k' x y r) : ma_li st k → ma_li st k' := by unfold ma_li; split <;> first | exact fun h => h | exact h _ _ _
theorem mo_v1 {st : List Value} {k k' : Value → List Value → Prop} (h : ∀ x r, k x r → k' x r) : ma_v1 st k → ma_v1 st k' := by unfold ma_v1; split <;> first | exact fun h => h | exact h _ _
theorem mo_v2 {st : List Value} {k k' : Value → Value → List Value → Prop} (h : ∀ x y r, k x y r → k' x y r) : ma_v2 st k → ma_v2 st k' := by unfold ma_v2; split <;> first | exact fun h => h | exact h _ _ _
theorem mo_r1 {st : List Value} {k k' : Nat → List Value → Prop} (h : ∀ x r, k x r → k' x r) : ma_r1 st k → ma_r1 st k' := by unfold ma_r1; split <;> first | exact fun h => h | exact h _ _
theorem mo_ir {st : List Value} {k k' : Int32 → Nat → List Value → Prop} (h : ∀ x y r, k x y r → k' x y r) : ma_ir st k → ma_ir st k' := by unfold ma_ir; split <;> first | exact fun h => h | exact h _ _ _
theorem mo_iir {st : List Value} {k k' : Int32 → Int32 → Nat → List Value → Prop} (h : ∀ x y i r, k x y i r → k' x y i r) : ma_iir st k → ma_iir st k' := by unfold ma_iir; split <;> first | exact fun h => h | exact h _ _ _ _
theorem mo_rir {st : List Value} {k k' : Nat → Int32 → Nat → List Value → Prop} (h : ∀ x y i r, k x y i r → k' x y i r) : ma_rir st k → ma_rir st k' := by unfold ma_rir; split <;> first | exact fun h => h | exact h _ _ _ _
theorem mo_vr {st : List Value} {k k' : Value → Nat → List Value → Prop} (h : ∀ x y r, k x y r → k' x y r) : ma_vr st k → ma_vr st k' := by unfold ma_vr; split <;> first | exact fun h => h | exact h _ _ _
theorem mo_nl {st : List Value} {a a' b b' : List Value → Prop} (ha : ∀ r, a r → a' r) (hb : ∀ r, b r → b' r) : ma_nl st a b → ma_nl st a' b' := by unfold ma_nl; split <;> first | exact fun h => h | exact ha _ | exact hb _
theorem mo_br {c A B A' B' : Prop} (ha : A → A') (hb : B → B') : ma_br c A B → ma_br c A' B' := fun h => ⟨fun c => ha (h.1 c), fun c => hb (h.2 c)⟩
theorem mo_cmp {c : ClassFile.Cond} {x y : Int32} {A B A' B' : Prop} (ha : A → A') (hb : B → B') : ma_cmp c x y A B → ma_cmp c x y A' B' := by cases c <;> first | exact mo_br ha hb | exact mo_br hb ha
theorem mo_ob {c : ma_C} {ci : Nat} {k k' : List Value → Prop} (h : ∀ r, k r → k' r) : ma_ob c ci k → ma_ob c ci k' := by unfold ma_ob; split <;> first | exact fun h => h | exact And.imp (fun h => h) (h _)
theorem mo_ia {c : ma_C} {t : FieldType} {k k' : Nat → (Nat → Int32) → Prop} (h : ∀ n f, k n f → k' n f) : ma_ia c t k → ma_ia c t k' := by unfold ma_ia; split <;> first | exact fun h => h | exact And.imp (fun h => h) (h _ _)
theorem mo_ra {c : ma_C} {k k' : FieldType → Nat → (Nat → Option Nat) → Prop} (h : ∀ t n f, k t n f → k' t n f) : ma_ra c k → ma_ra c k' := by unfold ma_ra; split <;> first | exact fun h => h | exact h _ _ _
theorem mo_al {c : ma_C} {k k' : Nat → Prop} (h : ∀ n, k n → k' n) : ma_al c k → ma_al c k' := by unfold ma_al; split <;> first | exact fun h => h | exact And.imp (fun h => h) (h _)
theorem mo_ar {k k' : List Value → List Value → Prop} (h : ∀ a r, k a r → k' a r) : ∀ (n : Nat) (acc st : List Value), ma_ar n acc st k → ma_ar n acc st k'
  | 0, _, _ => h _ _
  | n + 1, acc, v :: st => mo_ar h n (v :: acc) st
  | _ + 1, _, [] => fun h => h
theorem mo_im {A B B' : Prop} (h : B → B') : (A → B) → (A → B') := fun f a => h (f a)
abbrev ma_Cm (C : Nat → List Value → ma_H → ma_P → Prop) : Prop := ∀ (ia : Nat) (av : List Value) (H : ma_H) (P P' : ma_P), (∀ r H', P r H' → P' r H') → C ia av H P → C ia av H P'
theorem mo_call {C : Nat → List Value → ma_H → ma_P → Prop} (hC : ma_Cm C) {id : Nat} {K K' : ma_K} (hK : ∀ pc ls st H kc ks, K pc ls st H kc ks → K' pc ls st H kc ks) {pc : Nat} {ls : ma_L} {H : ma_H} {kc ks ia : Nat} {av r : List Value} : ma_call C id K pc ls H kc ks ia av r → ma_call C id K' pc ls H kc ks ia av r :=
  fun h => ⟨h.1, h.2.1, h.2.2.1, hC _ _ _ _ _ (fun _ _ => hK _ _ _ _ _ _) h.2.2.2⟩
set_option maxHeartbeats 4000000 in
theorem mo_do {C : Nat → List Value → ma_H → ma_P → Prop} (hC : ma_Cm C) {id : Nat} {Q Q' : ma_P} (hQ : ∀ r H, Q r H → Q' r H) {K K' : ma_K} (hK : ∀ pc ls st H kc ks, K pc ls st H kc ks → K' pc ls st H kc ks) (i : Instr) (len pc : Nat) (ls : ma_L) (st : List Value) (H : ma_H) (kc ks : Nat) :
    ma_do C id Q K i len pc ls st H kc ks → ma_do C id Q' K' i len pc ls st H kc ks := by
  unfold ma_do
  split
  all_goals repeat' first
    | exact fun h => h
    | exact hK _ _ _ _ _ _
    | exact hQ _ _
    | exact mo_call hC hK
    | refine And.imp ?_ ?_
    | refine Or.imp ?_ ?_
    | refine mo_o (fun _ => ?_)
    | refine mo_i1 (fun _ _ => ?_)
    | refine mo_i2 (fun _ _ _ => ?_)
    | refine mo_l1 (fun _ _ => ?_)
    | refine mo_l2 (fun _ _ _ => ?_)
    | refine mo_li (fun _ _ _ => ?_)
    | refine mo_v1 (fun _ _ => ?_)
    | refine mo_v2 (fun _ _ _ => ?_)
    | refine mo_r1 (fun _ _ => ?_)
    | refine mo_ir (fun _ _ _ => ?_)
    | refine mo_iir (fun _ _ _ _ => ?_)
    | refine mo_rir (fun _ _ _ _ => ?_)
    | refine mo_vr (fun _ _ _ => ?_)
    | refine mo_nl (fun _ => ?_) (fun _ => ?_)
    | refine mo_cmp ?_ ?_
    | refine mo_ob (fun _ => ?_)
    | refine mo_ia (fun _ _ => ?_)
    | refine mo_ra (fun _ _ _ => ?_)
    | refine mo_al (fun _ => ?_)
    | refine mo_ar (fun _ _ => ?_) _ _ _
    | refine Exists.imp (fun _ => ?_)
    | refine mo_im ?_
def ma_WP (C : Nat → List Value → ma_H → ma_P → Prop) (id : Nat) (Q : ma_P) : ma_K := fun pc ls st H kc ks =>
  ∀ P : ma_K, (∀ pc ls st H kc ks, (∃ i len, ma_ins id pc = some (i, len) ∧ ma_do C id Q P i len pc ls st H kc ks) → P pc ls st H kc ks) → P pc ls st H kc ks
theorem mo_WP {C : Nat → List Value → ma_H → ma_P → Prop} (hC : ma_Cm C) {id : Nat} {Q Q' : ma_P} (hQ : ∀ r H, Q r H → Q' r H) {pc : Nat} {ls : ma_L} {st : List Value} {H : ma_H} {kc ks : Nat} (h : ma_WP C id Q pc ls st H kc ks) : ma_WP C id Q' pc ls st H kc ks := by
  intro P hP
  exact h P fun pc ls st H kc ks ⟨i, len, h1, h2⟩ => hP _ _ _ _ _ _ ⟨i, len, h1, mo_do hC hQ (fun _ _ _ _ _ _ h => h) _ _ _ _ _ _ _ _ h2⟩
theorem ma_WP_in {C : Nat → List Value → ma_H → ma_P → Prop} (hC : ma_Cm C) {id : Nat} {Q : ma_P} {pc : Nat} {ls : ma_L} {st : List Value} {H : ma_H} {kc ks : Nat} {i : Instr} {len : Nat} (h : ma_ins id pc = some (i, len)) (hd : ma_do C id Q (ma_WP C id Q) i len pc ls st H kc ks) : ma_WP C id Q pc ls st H kc ks := by
  intro P hP
  exact hP _ _ _ _ _ _ ⟨i, len, h, mo_do hC (fun _ _ h => h) (fun _ _ _ _ _ _ h => h P hP) _ _ _ _ _ _ _ _ hd⟩
theorem ma_WP_out {C : Nat → List Value → ma_H → ma_P → Prop} (hC : ma_Cm C) {id : Nat} {Q : ma_P} {pc : Nat} {ls : ma_L} {st : List Value} {H : ma_H} {kc ks : Nat} {i : Instr} {len : Nat} (h : ma_ins id pc = some (i, len)) (hw : ma_WP C id Q pc ls st H kc ks) : ma_do C id Q (ma_WP C id Q) i len pc ls st H kc ks := by
  have key : ∃ i len, ma_ins id pc = some (i, len) ∧ ma_do C id Q (ma_WP C id Q) i len pc ls st H kc ks := by
    refine hw (fun pc ls st H kc ks => ∃ i len, ma_ins id pc = some (i, len) ∧ ma_do C id Q (ma_WP C id Q) i len pc ls st H kc ks) ?_
    rintro pc ls st H kc ks ⟨i, len, h1, h2⟩
    exact ⟨i, len, h1, mo_do hC (fun _ _ h => h) (fun _ _ _ _ _ _ ⟨i, len, h1, h2⟩ => ma_WP_in hC h1 h2) _ _ _ _ _ _ _ _ h2⟩
  obtain ⟨i', len', h1, h2⟩ := key
  rw [h] at h1
  cases h1
  exact h2
def ma_sl : List Value → ma_L
  | [] => []
  | v :: r => if v.category = 2 then some v :: none :: ma_sl r else some v :: ma_sl r
def ma_en (n : Nat) (av : List Value) : ma_L := ma_sl av ++ List.replicate (n - (ma_sl av).length) none
def mb_len (i : Nat) : Nat := if i = 2 then 3 else 4
def mb_chr (i j : Nat) : Int32 := ((([[103, 97, 109, 101], [104, 97, 110, 100], [108, 97, 121]] : List (List Int32))[i]?).getD [])[j]?.getD 0
def ma_bi (d id : Nat) (av : List Value) (H : ma_H) (Q : ma_P) : Prop := 2 ≤ d ∧ ((id = 213 ∧ ∃ i, i < 3 ∧ av = [.ref (i + 1)] ∧ Q (some (.int (nI (mb_len i)))) H) ∨ (id = 214 ∧ ∃ i j, i < 3 ∧ j < mb_len i ∧ av = [.ref (i + 1), .int (nI j)] ∧ Q (some (.int (mb_chr i j))) H))
def ma_MW : Nat → Nat → List Value → ma_H → ma_P → Prop
  | 0, _, _, _, _ => False
  | d + 1, id, av, H, Q => (id < 212 ∧ (ma_sl av).length ≤ ma_ml id ∧ ma_WP (ma_MW d) id Q 0 (ma_en (ma_ml id) av) [] H 0 0) ∨ ma_bi d id av H Q
theorem mo_MW : ∀ d, ma_Cm (ma_MW d)
  | 0 => fun _ _ _ _ _ _ h => h
  | d + 1 => by
    intro ia av H P P' hP h
    rcases h with ⟨h1, h0, h2⟩ | ⟨h1, ⟨h2, i, h3, h4, h5⟩ | ⟨h2, i, j, h3, h4, h5, h6⟩⟩
    · exact Or.inl ⟨h1, h0, mo_WP (mo_MW d) hP h2⟩
    · exact Or.inr ⟨h1, Or.inl ⟨h2, i, h3, h4, hP _ _ h5⟩⟩
    · exact Or.inr ⟨h1, Or.inr ⟨h2, i, j, h3, h4, h5, hP _ _ h6⟩⟩
def ma_W (d id : Nat) (Q : ma_P) : ma_K := ma_WP (ma_MW d) id Q
theorem ma_W_eq {d id pc : Nat} {Q : ma_P} {ls : ma_L} {st : List Value} {H : ma_H} {kc ks : Nat} {i : Instr} {len : Nat} (h : ma_ins id pc = some (i, len)) : ma_W d id Q pc ls st H kc ks = ma_do (ma_MW d) id Q (ma_W d id Q) i len pc ls st H kc ks :=
  propext ⟨ma_WP_out (mo_MW d) h, ma_WP_in (mo_MW d) h⟩

/-! THE ABSTRACT MACHINE: references are numbers of cells; the step as a transformer of predicates -/
abbrev ma_C : Type := (FieldType × vp_A) ⊕ (Nat × List Value)
abbrev ma_H : Type := (Nat → ma_C) × Nat
abbrev ma_L : Type := List (Option Value)
abbrev ma_P : Type := Option Value → ma_H → Prop
abbrev ma_K : Type := Nat → ma_L → List Value → ma_H → Nat → Nat → Prop
def ma_set (H : ma_H) (i : Nat) (c : ma_C) : ma_H := (fun j => if j = i then c else H.1 j, H.2)
def ma_new (H : ma_H) (c : ma_C) : ma_H := (fun j => if j = H.2 then c else H.1 j, H.2 + 1)
def ma_q (id : Nat) : mb_I := (mb_tab[id]?).getD mb_m0
def ma_y (id : Nat) : MethodName := (ma_q id).1
def ma_by (id : Nat) : ByteArray := (ma_q id).2.1
def ma_ml (id : Nat) : Nat := (ma_q id).2.2.1
def ma_rt (id : Nat) : Option FieldType := (ma_q id).2.2.2.1
def ma_ow (id : Nat) : Nat := (ma_q id).2.2.2.2.1
def ma_il (id : Nat) : List (Nat × Instr × Nat) := (ma_q id).2.2.2.2.2.1
def ma_mc (id : Nat) : Nat := (ma_q id).2.2.2.2.2.2.1
def ma_ms (id : Nat) : Nat := (ma_q id).2.2.2.2.2.2.2.1
def ma_cw (id : Nat) : Nat := (ma_q id).2.2.2.2.2.2.2.2
def ma_on (id : Nat) : String := (mb_own[ma_ow id]?).getD ""
def ma_ins (id pc : Nat) : Option (Instr × Nat) := (ma_il id).lookup pc
def ma_fd (o ix : Nat) : Option (Nat × Nat) := (mb_fl.find? (fun q => q.1 == o && q.2.1 == ix)).map fun q => (q.2.2.1, q.2.2.2.1)
/-- kind, method, how many arguments, class -/
def ma_cl (o ix : Nat) : Option (Nat × Nat × Nat × Nat) := (mb_ca.find? (fun q => q.1 == o && q.2.1 == ix)).map fun q => (q.2.2.1, q.2.2.2.1, q.2.2.2.2.1, q.2.2.2.2.2.1)
def ma_cs (o ix : Nat) : Option Nat := (mb_cs.find? (fun q => q.1 == o && q.2.1 == ix)).map fun q => q.2.2.1
def ma_co (o ix : Nat) : Option Int32 := (mb_co.find? (fun q => q.1 == o && q.2.1 == ix)).map fun q => q.2.2.1
def ma_c2 (o ix : Nat) : Option Int64 := (mb_c2.find? (fun q => q.1 == o && q.2.1 == ix)).map fun q => q.2.2.1
/-- a text of Reader, by its pool index: its cell is 1, 2 or 3 -/
def ma_tx (o ix : Nat) : Option Nat := if o = 2 then (if ix = 91 then some 1 else if ix = 97 then some 2 else if ix = 99 then some 3 else none) else none
def ma_F (ci : Nat) : vw_C := (mb_cl[ci]?).getD ("", mb_F0, 0)
def ma_ft (ci k : Nat) : FieldType := ((mb_ty[ci]?).getD mb_t0) k
def ma_df (ci : Nat) : List Value := (List.range (ma_F ci).2.2).map fun k => defaultValue (ma_ft ci k)
def ma_o {α : Type} (o : Option α) (k : α → Prop) : Prop := match o with | some a => k a | none => False
def ma_i1 (st : List Value) (k : Int32 → List Value → Prop) : Prop := match st with | .int x :: r => k x r | _ => False
def ma_i2 (st : List Value) (k : Int32 → Int32 → List Value → Prop) : Prop := match st with | .int y :: .int x :: r => k x y r | _ => False
def ma_l1 (st : List Value) (k : Int64 → List Value → Prop) : Prop := match st with | .long x :: r => k x r | _ => False
def ma_l2 (st : List Value) (k : Int64 → Int64 → List Value → Prop) : Prop := match st with | .long y :: .long x :: r => k x y r | _ => False
def ma_li (st : List Value) (k : Int64 → Int32 → List Value → Prop) : Prop := match st with | .int y :: .long x :: r => k x y r | _ => False
def ma_v1 (st : List Value) (k : Value → List Value → Prop) : Prop := match st with | v :: r => k v r | _ => False
def ma_v2 (st : List Value) (k : Value → Value → List Value → Prop) : Prop := match st with | v :: w :: r => k v w r | _ => False
def ma_r1 (st : List Value) (k : Nat → List Value → Prop) : Prop := match st with | .ref i :: r => k i r | _ => False
def ma_ir (st : List Value) (k : Int32 → Nat → List Value → Prop) : Prop := match st with | .int j :: .ref i :: r => k j i r | _ => False
def ma_iir (st : List Value) (k : Int32 → Int32 → Nat → List Value → Prop) : Prop := match st with | .int x :: .int j :: .ref i :: r => k x j i r | _ => False
def ma_rir (st : List Value) (k : Nat → Int32 → Nat → List Value → Prop) : Prop := match st with | .ref v :: .int j :: .ref i :: r => k v j i r | _ => False
def ma_vr (st : List Value) (k : Value → Nat → List Value → Prop) : Prop := match st with | v :: .ref i :: r => k v i r | _ => False
def ma_nl (st : List Value) (a : List Value → Prop) (b : List Value → Prop) : Prop := match st with | .null :: r => a r | .ref _ :: r => b r | _ => False
def ma_gi (ls : ma_L) (k : Nat) : Option Int32 := match ls[k]? with | some (some (.int x)) => some x | _ => none
def ma_gl (ls : ma_L) (k : Nat) : Option Int64 := match ls[k]? with | some (some (.long x)) => some x | _ => none
def ma_ga (ls : ma_L) (k : Nat) : Option (Option Nat) := match ls[k]? with | some (some (.ref i)) => some (some i) | some (some .null) => some none | _ => none
def ma_clr (o : Option Value) : Option Value := match o with | some (.long _) => none | some (.double _) => none | o => o
def ma_st1 : ma_L → Nat → Value → ma_L
  | [], _, _ => []
  | _ :: l, 0, v => some v :: l
  | o :: l, k + 1, v => (if k = 0 then ma_clr o else o) :: ma_st1 l k v
def ma_st2 : ma_L → Nat → Value → ma_L
  | [], _, _ => []
  | _ :: l, 0, v => some v :: (match l with | [] => [] | _ :: l => none :: l)
  | o :: l, k + 1, v => (if k = 0 then ma_clr o else o) :: ma_st2 l k v
def ma_br (c A B : Prop) : Prop := (c → A) ∧ (¬ c → B)
def ma_cmp (c : ClassFile.Cond) (x y : Int32) (A B : Prop) : Prop := match c with
  | .eq => ma_br (x = y) A B
  | .ne => ma_br (x = y) B A
  | .lt => ma_br (x < y) A B
  | .ge => ma_br (y ≤ x) A B
  | .gt => ma_br (y < x) A B
  | .le => ma_br (x ≤ y) A B
def ma_ob (c : ma_C) (ci : Nat) (k : List Value → Prop) : Prop := match c with | .inr (cj, fs) => cj = ci ∧ k fs | _ => False
def ma_ia (c : ma_C) (ty : FieldType) (k : Nat → (Nat → Int32) → Prop) : Prop := match c with | .inl (t, n, .inl f) => t = ty ∧ k n f | _ => False
def ma_ra (c : ma_C) (k : FieldType → Nat → (Nat → Option Nat) → Prop) : Prop := match c with | .inl (t, n, .inr (.inr (.inr (.inr f)))) => k t n f | _ => False
def ma_al (c : ma_C) (k : Nat → Prop) : Prop := match c with | .inl (t, n, .inl _) => (t = .int ∨ t = .byte ∨ t = .boolean) ∧ k n | .inl (t, n, .inr (.inr (.inr (.inr _)))) => (t = .object "BeggarPile$Table" ∨ t = .object "BeggarPile$Game") ∧ k n | _ => False
def ma_ar : Nat → List Value → List Value → (List Value → List Value → Prop) → Prop
  | 0, acc, st, k => k acc st
  | n + 1, acc, v :: st, k => ma_ar n (v :: acc) st k
  | _ + 1, _, [], _ => False
def ma_cat : List Value → Nat
  | [] => 0
  | v :: r => v.category + ma_cat r
def ma_rc (H : ma_H) (cn : Nat) (av : List Value) : Prop := match av with | .ref b :: _ => ma_ob (H.1 b) cn (fun _ => True) | _ => False
def ma_fi (id ci k : Nat) : Bool := !((ma_F ci).2.1 k).2.2.2 || ((ma_y id).name == "<init>" && ma_on id == ((ma_F ci).2.1 k).1)
def ma_call (C : Nat → List Value → ma_H → ma_P → Prop) (id : Nat) (K : ma_K) (pc : Nat) (ls : ma_L) (H : ma_H) (kc ks : Nat) (ia : Nat) (av r : List Value) : Prop :=
  ma_cat r ≤ 8 ∧ kc + ma_mc ia ≤ ma_mc id ∧ ks + ma_ms ia ≤ ma_ms id ∧ C ia av H (fun v H' => K (pc + 3) ls (v.toList ++ r) H' (kc + ma_mc ia) (ks + ma_ms ia))
def ma_do (C : Nat → List Value → ma_H → ma_P → Prop) (id : Nat) (Q : ma_P) (K : ma_K) (i : Instr) (len pc : Nat) (ls : ma_L) (st : List Value) (H : ma_H) (kc ks : Nat) : Prop :=
  match i with
  | .iconst n => len = 1 ∧ K (pc + 1) ls (.int (Int32.ofInt n) :: st) H kc ks
  | .bipush n => len = 2 ∧ K (pc + 2) ls (.int (Int8.ofInt n).toInt32 :: st) H kc ks
  | .sipush n => len = 3 ∧ K (pc + 3) ls (.int (Int16.ofInt n).toInt32 :: st) H kc ks
  | .lconst n => len = 1 ∧ K (pc + 1) ls (.long (Int64.ofNat (n : Nat)) :: st) H kc ks
  | .ldc ix => len = 2 ∧ ((∃ v, ma_co (ma_ow id) ix = some v ∧ K (pc + 2) ls (.int v :: st) H kc ks) ∨ (∃ i, ma_tx (ma_ow id) ix = some i ∧ K (pc + 2) ls (.ref i :: st) H kc ks))
  | .ldc_w ix => len = 3 ∧ ma_o (ma_co (ma_ow id) ix) fun v => K (pc + 3) ls (.int v :: st) H kc ks
  | .ldc2_w ix => len = 3 ∧ ma_o (ma_c2 (ma_ow id) ix) fun v => K (pc + 3) ls (.long v :: st) H kc ks
  | .iload k => len = 2 ∧ ma_o (ma_gi ls k) fun x => K (pc + 2) ls (.int x :: st) H kc ks
  | .iload_n k => len = 1 ∧ ma_o (ma_gi ls k) fun x => K (pc + 1) ls (.int x :: st) H kc ks
  | .lload k => len = 2 ∧ ma_o (ma_gl ls k) fun x => K (pc + 2) ls (.long x :: st) H kc ks
  | .lload_n k => len = 1 ∧ ma_o (ma_gl ls k) fun x => K (pc + 1) ls (.long x :: st) H kc ks
  | .aload k => len = 2 ∧ ma_o (ma_ga ls k) fun x => K (pc + 2) ls (va_rf x :: st) H kc ks
  | .aload_n k => len = 1 ∧ ma_o (ma_ga ls k) fun x => K (pc + 1) ls (va_rf x :: st) H kc ks
  | .istore k => len = 2 ∧ k < ls.length ∧ ma_i1 st fun x r => K (pc + 2) (ma_st1 ls k (.int x)) r H kc ks
  | .istore_n k => len = 1 ∧ (k : Nat) < ls.length ∧ ma_i1 st fun x r => K (pc + 1) (ma_st1 ls k (.int x)) r H kc ks
  | .lstore k => len = 2 ∧ k + 1 < ls.length ∧ ma_l1 st fun x r => K (pc + 2) (ma_st2 ls k (.long x)) r H kc ks
  | .lstore_n k => len = 1 ∧ (k : Nat) + 1 < ls.length ∧ ma_l1 st fun x r => K (pc + 1) (ma_st2 ls k (.long x)) r H kc ks
  | .astore k => len = 2 ∧ k < ls.length ∧ ma_nl st (fun _ => False) (fun _ => True) ∧ ma_r1 st fun x r => K (pc + 2) (ma_st1 ls k (.ref x)) r H kc ks
  | .astore_n k => len = 1 ∧ (k : Nat) < ls.length ∧ ma_nl st (fun r => K (pc + 1) (ma_st1 ls k .null) r H kc ks) (fun _ => ma_r1 st fun x r => K (pc + 1) (ma_st1 ls k (.ref x)) r H kc ks)
  | .iinc k n => len = 3 ∧ k < ls.length ∧ ma_o (ma_gi ls k) fun x => K (pc + 3) (ma_st1 ls k (.int (x + Int32.ofInt n))) st H kc ks
  | .dup => len = 1 ∧ ma_v1 st fun v r => v.category = 1 ∧ K (pc + 1) ls (v :: v :: r) H kc ks
  | .dup2 => len = 1 ∧ ma_v2 st fun v w r => v.category = 1 ∧ w.category = 1 ∧ K (pc + 1) ls (v :: w :: v :: w :: r) H kc ks
  | .pop => len = 1 ∧ ma_v1 st fun v r => v.category = 1 ∧ K (pc + 1) ls r H kc ks
  | .goto off => len = 3 ∧ ∃ t : Nat, (pc : Int) + off = (t : Int) ∧ K t ls st H kc ks
  | .if_icmp c off => len = 3 ∧ ma_i2 st fun x y r => ∃ t : Nat, (pc : Int) + off = (t : Int) ∧ ma_cmp c x y (K t ls r H kc ks) (K (pc + 3) ls r H kc ks)
  | .ifCond c off => len = 3 ∧ ma_i1 st fun x r => ∃ t : Nat, (pc : Int) + off = (t : Int) ∧ ma_cmp c x 0 (K t ls r H kc ks) (K (pc + 3) ls r H kc ks)
  | .ifnull off => len = 3 ∧ ∃ t : Nat, (pc : Int) + off = (t : Int) ∧ ma_nl st (fun r => K t ls r H kc ks) (fun r => K (pc + 3) ls r H kc ks)
  | .ifnonnull off => len = 3 ∧ ∃ t : Nat, (pc : Int) + off = (t : Int) ∧ ma_nl st (fun r => K (pc + 3) ls r H kc ks) (fun r => K t ls r H kc ks)
  | .tableswitch dflt lo hi offs => ma_i1 st fun x r => (x.toInt < lo ∨ hi < x.toInt → ∃ t : Nat, (pc : Int) + dflt = (t : Int) ∧ K t ls r H kc ks) ∧ (¬ x.toInt < lo → ¬ hi < x.toInt → ∃ (off : Int) (t : Nat), offs[(x.toInt - lo).toNat]? = some off ∧ (pc : Int) + off = (t : Int) ∧ K t ls r H kc ks)
  | .iadd => len = 1 ∧ ma_i2 st fun x y r => K (pc + 1) ls (.int (x + y) :: r) H kc ks
  | .isub => len = 1 ∧ ma_i2 st fun x y r => K (pc + 1) ls (.int (x - y) :: r) H kc ks
  | .imul => len = 1 ∧ ma_i2 st fun x y r => K (pc + 1) ls (.int (x * y) :: r) H kc ks
  | .iand => len = 1 ∧ ma_i2 st fun x y r => K (pc + 1) ls (.int (x &&& y) :: r) H kc ks
  | .ior => len = 1 ∧ ma_i2 st fun x y r => K (pc + 1) ls (.int (x ||| y) :: r) H kc ks
  | .ishl => len = 1 ∧ ma_i2 st fun x y r => K (pc + 1) ls (.int (x <<< (y &&& 31)) :: r) H kc ks
  | .ishr => len = 1 ∧ ma_i2 st fun x y r => K (pc + 1) ls (.int (x >>> (y &&& 31)) :: r) H kc ks
  | .idiv => len = 1 ∧ ma_i2 st fun x y r => ¬ y = 0 ∧ K (pc + 1) ls (.int (x / y) :: r) H kc ks
  | .irem => len = 1 ∧ ma_i2 st fun x y r => ¬ y = 0 ∧ K (pc + 1) ls (.int (x - x / y * y) :: r) H kc ks
  | .ladd => len = 1 ∧ ma_l2 st fun x y r => K (pc + 1) ls (.long (x + y) :: r) H kc ks
  | .lsub => len = 1 ∧ ma_l2 st fun x y r => K (pc + 1) ls (.long (x - y) :: r) H kc ks
  | .lmul => len = 1 ∧ ma_l2 st fun x y r => K (pc + 1) ls (.long (x * y) :: r) H kc ks
  | .land => len = 1 ∧ ma_l2 st fun x y r => K (pc + 1) ls (.long (x &&& y) :: r) H kc ks
  | .lor => len = 1 ∧ ma_l2 st fun x y r => K (pc + 1) ls (.long (x ||| y) :: r) H kc ks
  | .lxor => len = 1 ∧ ma_l2 st fun x y r => K (pc + 1) ls (.long (x ^^^ y) :: r) H kc ks
  | .ldiv => len = 1 ∧ ma_l2 st fun x y r => ¬ y = 0 ∧ K (pc + 1) ls (.long (x / y) :: r) H kc ks
  | .lrem => len = 1 ∧ ma_l2 st fun x y r => ¬ y = 0 ∧ K (pc + 1) ls (.long (x - x / y * y) :: r) H kc ks
  | .lcmp => len = 1 ∧ ma_l2 st fun x y r => K (pc + 1) ls (.int (lg_cmp x y) :: r) H kc ks
  | .lshl => len = 1 ∧ ma_li st fun x y r => K (pc + 1) ls (.long (x <<< (y.toInt64 &&& 63)) :: r) H kc ks
  | .lushr => len = 1 ∧ ma_li st fun x y r => K (pc + 1) ls (.long (x.toUInt64 >>> (y.toInt64.toUInt64 &&& Int64.toUInt64 63)).toInt64 :: r) H kc ks
  | .i2l => len = 1 ∧ ma_i1 st fun x r => K (pc + 1) ls (.long x.toInt64 :: r) H kc ks
  | .l2i => len = 1 ∧ ma_l1 st fun x r => K (pc + 1) ls (.int x.toInt32 :: r) H kc ks
  | .i2b => len = 1 ∧ ma_i1 st fun x r => K (pc + 1) ls (.int x.toInt8.toInt32 :: r) H kc ks
  | .getfield ix => len = 3 ∧ ma_o (ma_fd (ma_ow id) ix) fun fk => ma_r1 st fun i r => ma_ob (H.1 i) fk.1 fun fs => ma_o (fs[fk.2]?) fun v => K (pc + 3) ls (v :: r) H kc ks
  | .putfield ix => len = 3 ∧ ma_o (ma_fd (ma_ow id) ix) fun fk => ma_vr st fun v i r => ma_fi id fk.1 fk.2 = true ∧ narrow (ma_ft fk.1 fk.2) v = v ∧ fits (ma_ft fk.1 fk.2) v = true ∧ ma_ob (H.1 i) fk.1 fun fs => fk.2 < fs.length ∧ K (pc + 3) ls r (ma_set H i (.inr (fk.1, fs.set fk.2 v))) kc ks
  | .arraylength => len = 1 ∧ ma_r1 st fun i r => ma_al (H.1 i) fun n => K (pc + 1) ls (.int (Int32.ofNat n) :: r) H kc ks
  | .iaload => len = 1 ∧ ma_ir st fun j i r => ma_ia (H.1 i) .int fun n f => vp_in j n ∧ K (pc + 1) ls (.int (f j.toNatClampNeg) :: r) H kc ks
  | .baload => len = 1 ∧ ma_ir st fun j i r => 4 ≤ i ∧ (ma_ia (H.1 i) .byte (fun n f => vp_in j n ∧ K (pc + 1) ls (.int (f j.toNatClampNeg) :: r) H kc ks) ∨ ma_ia (H.1 i) .boolean (fun n f => vp_in j n ∧ K (pc + 1) ls (.int (f j.toNatClampNeg) :: r) H kc ks))
  | .aaload => len = 1 ∧ ma_ir st fun j i r => ma_ra (H.1 i) fun t n f => (t = .object "BeggarPile$Table" ∨ t = .object "BeggarPile$Game") ∧ vp_in j n ∧ K (pc + 1) ls (va_rf (f j.toNatClampNeg) :: r) H kc ks
  | .iastore => len = 1 ∧ ma_iir st fun x j i r => 4 ≤ i ∧ ma_ia (H.1 i) .int fun n f => vp_in j n ∧ K (pc + 1) ls r (ma_set H i (.inl (.int, n, .inl (upd f j.toNatClampNeg x)))) kc ks
  | .bastore => len = 1 ∧ ma_iir st fun x j i r => 4 ≤ i ∧ (ma_ia (H.1 i) .byte (fun n f => vp_in j n ∧ K (pc + 1) ls r (ma_set H i (.inl (.byte, n, .inl (upd f j.toNatClampNeg (vp_nar .byte x))))) kc ks) ∨ ma_ia (H.1 i) .boolean (fun n f => vp_in j n ∧ K (pc + 1) ls r (ma_set H i (.inl (.boolean, n, .inl (upd f j.toNatClampNeg (vp_nar .boolean x))))) kc ks))
  | .aastore => len = 1 ∧ ma_rir st fun v j i r => ma_ra (H.1 i) fun t n f => vp_in j n ∧ (t = .object "BeggarPile$Table" ∧ ma_ob (H.1 v) 4 (fun _ => True) ∨ t = .object "BeggarPile$Game" ∧ ma_ob (H.1 v) 0 (fun _ => True)) ∧ K (pc + 1) ls r (ma_set H i (.inl (t, n, .inr (.inr (.inr (.inr (va_up f j.toNatClampNeg (some v)))))))) kc ks
  | .new ix => len = 3 ∧ ma_o (ma_cs (ma_ow id) ix) fun ci => kc + 1 ≤ ma_mc id ∧ ks + (ma_F ci).2.2 ≤ ma_ms id ∧ K (pc + 3) ls (.ref H.2 :: st) (ma_new H (.inr (ci, ma_df ci))) (kc + 1) (ks + (ma_F ci).2.2)
  | .newarray a => len = 2 ∧ ma_i1 st fun n r => ¬ n < 0 ∧ n.toNatClampNeg ≤ 65536 ∧ kc + 1 ≤ ma_mc id ∧ ks + n.toNatClampNeg ≤ ma_ms id ∧ (a = .int ∧ K (pc + 2) ls (.ref H.2 :: r) (ma_new H (.inl (.int, n.toNatClampNeg, .inl fun _ => 0))) (kc + 1) (ks + n.toNatClampNeg) ∨ a = .byte ∧ K (pc + 2) ls (.ref H.2 :: r) (ma_new H (.inl (.byte, n.toNatClampNeg, .inl fun _ => 0))) (kc + 1) (ks + n.toNatClampNeg) ∨ a = .boolean ∧ K (pc + 2) ls (.ref H.2 :: r) (ma_new H (.inl (.boolean, n.toNatClampNeg, .inl fun _ => 0))) (kc + 1) (ks + n.toNatClampNeg))
  | .anewarray ix => len = 3 ∧ ma_i1 st fun n r => ma_o (ma_cs (ma_ow id) ix) fun ci => (ci = 0 ∨ ci = 4) ∧ ¬ n < 0 ∧ n.toNatClampNeg ≤ 65536 ∧ kc + 1 ≤ ma_mc id ∧ ks + n.toNatClampNeg ≤ ma_ms id ∧ K (pc + 3) ls (.ref H.2 :: r) (ma_new H (.inl (.object (ma_F ci).1, n.toNatClampNeg, .inr (.inr (.inr (.inr fun _ => none)))))) (kc + 1) (ks + n.toNatClampNeg)
  | .invokevirtual ix => len = 3 ∧ ma_o (ma_cl (ma_ow id) ix) fun q => q.1 = 0 ∧ ma_ar q.2.2.1 [] st fun av r => ma_rc H q.2.2.2 av ∧ ma_call C id K pc ls H kc ks q.2.1 av r
  | .invokestatic ix => len = 3 ∧ ma_o (ma_cl (ma_ow id) ix) fun q => (q.1 = 1 ∨ q.1 = 3) ∧ ma_ar q.2.2.1 [] st (fun av r => ma_call C id K pc ls H kc ks q.2.1 av r) ∨ q.1 = 6 ∧ ma_i2 st (fun x y r => ma_cat r ≤ 8 ∧ K (pc + 3) ls (.int (if x < y then y else x) :: r) H kc ks) ∨ q.1 = 7 ∧ ma_i2 st (fun x y r => ma_cat r ≤ 8 ∧ K (pc + 3) ls (.int (if y < x then y else x) :: r) H kc ks)
  | .invokespecial ix => len = 3 ∧ ma_o (ma_cl (ma_ow id) ix) fun q => (q.1 = 2 ∨ q.1 = 4) ∧ ma_ar q.2.2.1 [] st (fun av r => (∃ b, av.head? = some (.ref b)) ∧ ma_call C id K pc ls H kc ks q.2.1 av r) ∨ q.1 = 5 ∧ ma_r1 st (fun _ r => ma_cat r ≤ 8 ∧ K (pc + 3) ls r H kc ks)
  | .ireturn => len = 1 ∧ ma_i1 st fun x r => r = [] ∧ (ma_rt id = some .int ∨ ma_rt id = some .boolean ∧ (x = 0 ∨ x = 1)) ∧ Q (some (.int x)) H
  | .lreturn => len = 1 ∧ ma_l1 st fun x r => r = [] ∧ ma_rt id = some .long ∧ Q (some (.long x)) H
  | .return_ => len = 1 ∧ st = [] ∧ ma_rt id = none ∧ Q none H
  | _ => False

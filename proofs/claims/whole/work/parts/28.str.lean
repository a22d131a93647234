/-! String.length and String.charAt of the three texts -/
theorem mj_w : lw_tbl[422]? = some (Cond.methodLink "java/lang/String" 335 ⟨"java/lang/String", "coder", "()B"⟩) ∧ lw_tbl[423]? = some (Cond.instanceMethod ⟨"java/lang/String", "coder", "()B"⟩) ∧ lw_tbl[424]? = some (Cond.selects "java/lang/String" ⟨"java/lang/String", "coder", "()B"⟩ ⟨"java/lang/String", "coder", "()B"⟩) ∧ lw_tbl[426]? = some (Cond.fieldLink "java/lang/String" 38 "java/lang/String" "COMPACT_STRINGS" "Z") ∧ lw_tbl[432]? = some (Cond.methodLink "java/lang/String" 492 ⟨"java/lang/String", "isLatin1", "()Z"⟩) ∧ lw_tbl[433]? = some (Cond.instanceMethod ⟨"java/lang/String", "isLatin1", "()Z"⟩) ∧ lw_tbl[434]? = some (Cond.selects "java/lang/String" ⟨"java/lang/String", "isLatin1", "()Z"⟩ ⟨"java/lang/String", "isLatin1", "()Z"⟩) ∧ lw_tbl[436]? = some (Cond.methodLink "java/lang/String" 495 ⟨"java/lang/StringLatin1", "charAt", "([BI)C"⟩) ∧ lw_tbl[437]? = some (Cond.static ⟨"java/lang/StringLatin1", "charAt", "([BI)C"⟩) ∧ lw_tbl[439]? = some (Cond.methodLink "java/lang/StringLatin1" 9 ⟨"java/lang/String", "checkIndex", "(II)V"⟩) ∧ lw_tbl[440]? = some (Cond.static ⟨"java/lang/String", "checkIndex", "(II)V"⟩) := by decide +kernel
theorem mj_w2 : lw_tbl[442]? = some (Cond.fieldLink "java/lang/String" 1053 "jdk/internal/util/Preconditions" "SIOOBE_FORMATTER" "Ljava/util/function/BiFunction;") ∧ lw_tbl[444]? = some (Cond.methodLink "java/lang/String" 1059 ⟨"jdk/internal/util/Preconditions", "checkIndex", "(IILjava/util/function/BiFunction;)I"⟩) ∧ lw_tbl[445]? = some (Cond.static ⟨"jdk/internal/util/Preconditions", "checkIndex", "(IILjava/util/function/BiFunction;)I"⟩) ∧ lw_tbl[1231]? = some (Cond.fieldLink "java/lang/String" 9 "java/lang/String" "value" "[B") ∧ lw_tbl[1232]? = some (Cond.fieldLink "java/lang/String" 15 "java/lang/String" "coder" "B") ∧ lw_tbl[57]? = some (Cond.initialized "java/lang/String") ∧ lw_tbl[58]? = some (Cond.initialized "java/lang/StringLatin1") ∧ lw_tbl[59]? = some (Cond.initialized "jdk/internal/util/Preconditions") := by decide +kernel
set_option maxRecDepth 100000 in
theorem mj_c1 : lw_tbl[425]? = some (Cond.code ⟨"java/lang/String", "coder", "()B"⟩ prog_14_method_152_code 1 (some .byte)) := rfl
set_option maxRecDepth 100000 in
theorem mj_c2 : lw_tbl[435]? = some (Cond.code ⟨"java/lang/String", "isLatin1", "()Z"⟩ prog_14_method_154_code 1 (some .boolean)) := rfl
set_option maxRecDepth 100000 in
theorem mj_c3 : lw_tbl[438]? = some (Cond.code ⟨"java/lang/StringLatin1", "charAt", "([BI)C"⟩ prog_15_method_2_code 2 (some .char)) := rfl
set_option maxRecDepth 100000 in
theorem mj_c4 : lw_tbl[441]? = some (Cond.code ⟨"java/lang/String", "checkIndex", "(II)V"⟩ prog_14_method_155_code 2 none) := rfl
set_option maxRecDepth 100000 in
theorem mj_c5 : lw_tbl[446]? = some (Cond.code ⟨"jdk/internal/util/Preconditions", "checkIndex", "(IILjava/util/function/BiFunction;)I"⟩ prog_17_method_11_code 3 (some .int)) := rfl
theorem mj_d1 : ∀ q ∈ ([(0, .getstatic 38, 3), (3, .ifCond .eq 10, 3), (6, .aload_n 0, 1), (7, .getfield 15, 3), (10, .goto 4, 3), (13, .iconst 1, 1), (14, .ireturn, 1)] : List (Nat × Instr × Nat)), decode prog_14_method_152_code q.1 = .ok (q.2.1, q.2.2) := by decide +kernel
theorem mj_d2 : ∀ q ∈ ([(0, .getstatic 38, 3), (3, .ifCond .eq 14, 3), (6, .aload_n 0, 1), (7, .getfield 15, 3), (10, .ifCond .ne 7, 3), (13, .iconst 1, 1), (14, .goto 4, 3), (17, .iconst 0, 1), (18, .ireturn, 1)] : List (Nat × Instr × Nat)), decode prog_14_method_154_code q.1 = .ok (q.2.1, q.2.2) := by decide +kernel
theorem mj_d3 : ∀ q ∈ ([(0, .iload_n 1, 1), (1, .aload_n 0, 1), (2, .arraylength, 1), (3, .invokestatic 9, 3), (6, .aload_n 0, 1), (7, .iload_n 1, 1), (8, .baload, 1), (9, .sipush 255, 3), (12, .iand, 1), (13, .i2c, 1), (14, .ireturn, 1)] : List (Nat × Instr × Nat)), decode prog_15_method_2_code q.1 = .ok (q.2.1, q.2.2) := by decide +kernel
theorem mj_d4 : ∀ q ∈ ([(0, .iload_n 0, 1), (1, .iload_n 1, 1), (2, .getstatic 1053, 3), (5, .invokestatic 1059, 3), (8, .pop, 1), (9, .return_, 1)] : List (Nat × Instr × Nat)), decode prog_14_method_155_code q.1 = .ok (q.2.1, q.2.2) := by decide +kernel
theorem mj_d5 : ∀ q ∈ ([(0, .iload_n 0, 1), (1, .ifCond .lt 8, 3), (4, .iload_n 0, 1), (5, .iload_n 1, 1), (6, .if_icmp .lt 10, 3), (16, .iload_n 0, 1), (17, .ireturn, 1)] : List (Nat × Instr × Nat)), decode prog_17_method_11_code q.1 = .ok (q.2.1, q.2.2) := by decide +kernel
theorem mj_d6 : ∀ q ∈ ([(0, .aload_n 0, 1), (1, .getfield 9, 3), (4, .arraylength, 1), (5, .aload_n 0, 1), (6, .invokevirtual 335, 3), (9, .ishr, 1), (10, .ireturn, 1)] : List (Nat × Instr × Nat)), decode prog_14_method_54_code q.1 = .ok (q.2.1, q.2.2) := by decide +kernel
theorem mj_d7 : ∀ q ∈ ([(0, .aload_n 0, 1), (1, .invokevirtual 492, 3), (4, .ifCond .eq 12, 3), (7, .aload_n 0, 1), (8, .getfield 9, 3), (11, .iload_n 1, 1), (12, .invokestatic 495, 3), (15, .ireturn, 1)] : List (Nat × Instr × Nat)), decode prog_14_method_56_code q.1 = .ok (q.2.1, q.2.2) := by decide +kernel
def mj_rm (f : Nat) : Room := { frames := f, cells := 0, slots := 0, locals := 40 * f }
def mj_Q (v : Option Value) : Array Value → State → Outcome → State → Prop := fun _ st o t => o = .returned v ∧ t.heap = st.heap
def mj_ws (y : MethodName) (b : ByteArray) (n : Nat) (r : Option FieldType) : List Cond := Cond.code y b n r :: ms_G
theorem mj_good {y : MethodName} {b : ByteArray} {n : Nat} {r : Option FieldType} (h : Cond.code y b n r ∈ ms_G) : GoodIn ms_G (mj_ws y b n r) := by
  intro w hw
  have hm : w ∈ ms_G := by
    rcases List.mem_cons.mp hw with e | e
    · rw [e]; exact h
    · exact e
  exact ⟨hm, good_of_word (List.mem_filter.mp hm).2⟩
section MJ
variable {p : Program} {l : Launch} {e : Env} {R : Room} {s : State} {m : MethodId} {args : Array Value} {below : List Frame} {meth : Method} {c : Code} {H : Heap} {locs : List Loc} {cells slots : Nat} {Qf : State → Prop}
theorem mj_call {g : JFrame} {v : Option Value} {rest : List Value} {a : Array Value} (hrun : va_Run p l e R s m args below meth c H [] cells slots 0 0 g rest (mj_Q v a) (fun _ => False)) (kk : W p l e R s m args below meth c H [] cells slots Qf { g with pc := g.pc + 3, stack := v.toList ++ rest }) : W p l e R s m args below meth c H [] cells slots Qf g := by
  intro T hT X
  obtain ⟨v', st₀, t, T', L', h0, X', hL', e1, e2, ⟨hv, hh⟩, stp⟩ := hrun T hT X
  cases hv
  have hL0 : L' = [] := by
    cases L' with
    | nil => rfl
    | cons q _ => exact (hL' q List.mem_cons_self).elim
  subst hL0
  obtain ⟨t2, a1, b1⟩ := kk T' (by rw [e1, hh, h0]) X'
  exact ⟨t2, stp t2 a1, b1⟩
end MJ
section MK
variable {l : Launch} {x adV : Nat → Nat} {B L : Nat} {xs : Nat → Int32}
def mj_P (x adV : Nat → Nat) (B L : Nat) (xs : Nat → Int32) (av : List Value) : Array Value → State → Prop := va_Pc av (fun U => ms_E x adV B L xs U U.heap)
theorem mj_blind {av : List Value} : FrameBlind (mj_P x adV B L xs av) := by
  intro a U g mk hp
  exact ⟨hp.1, hp.2.moved (Vm.Alike.refl U.vm) (fun _ _ => rfl) hp.2.2.2.2.1⟩
theorem mj_pre {s : State} (hE : ms_E x adV B L xs s s.heap) (av : List Value) : ∀ U : State, U.heap = s.heap → s.WarmedH U.vm → mj_P x adV B L xs av av.toArray U := by
  intro U hU hW
  exact ⟨rfl, by show ms_E x adV B L xs U U.heap; rw [hU]; exact hE.moved hW.alike (fun _ _ => rfl) hE.2.2.2.1⟩
set_option maxHeartbeats 4000000 in
theorem mj_check (f : Nat) (i j : Int32) (v : Value) (hv : v = .null ∨ ∃ t, v = .ref t) (h0 : ¬ i < 0) (h1 : i < j) : Met l ⟨"jdk/internal/util/Preconditions", "checkIndex", "(IILjava/util/function/BiFunction;)I"⟩ (mj_ws ⟨"jdk/internal/util/Preconditions", "checkIndex", "(IILjava/util/function/BiFunction;)I"⟩ prog_17_method_11_code 3 (some .int)) (mj_rm f) (mj_P x adV B L xs [.int i, .int j, v]) (mj_Q (some (.int i))) 0 0 (fun _ => False) := by
  refine Met.ofW (cc := prog_17_method_11_code) (maxL := 3) (ret := some .int) (by decide) rfl ?_
  intro p e s m args below meth c s₁ BB hml hp
  obtain ⟨rfl, hE⟩ := hp
  have hx := BB.exec
  have hb := BB.bytes
  have hr := BB.returns
  have hlocks := BB.notSynchronized
  have hcat : v.category = 1 := by rcases hv with rfl | ⟨t, rfl⟩ <;> rfl
  have hsl : lg_sl [.int i, .int j, v] = [.val (.int i), .val (.int j), .val v] := by
    unfold lg_sl
    simp only [List.flatMap_cons, List.flatMap_nil, hcat]
    rfl
  have hl := lv_entry [.int i, .int j, v] (n := 3) (by rw [hsl]; exact Nat.le_refl _)
  rw [lg_entry_eq]
  generalize (lg_sl [.int i, .int j, v] ++ List.replicate (3 - (lg_sl [.int i, .int j, v]).length) Slot.unset).toArray = ls at hl ⊢
  have g0 : ls[0]? = some (.val (.int i)) := hl.2.2 (0, .int i) List.mem_cons_self
  have g1 : ls[1]? = some (.val (.int j)) := hl.2.2 (1, .int j) (List.mem_cons_of_mem _ List.mem_cons_self)
  refine lv_iload_n hx hb (mj_d5 (0, .iload_n 0, 1) (by simp)) rfl g0 ?_
  refine lv_if_lt (tgt := 9) hx hb (mj_d5 (1, .ifCond .lt 8, 3) (by simp)) (by decide) (fun h => absurd h h0) (fun _ => ?_)
  refine lv_iload_n hx hb (mj_d5 (4, .iload_n 0, 1) (by simp)) rfl g0 ?_
  refine lv_iload_n hx hb (mj_d5 (5, .iload_n 1, 1) (by simp)) rfl g1 ?_
  refine lv_icmp_lt (tgt := 16) hx hb (mj_d5 (6, .if_icmp .lt 10, 3) (by simp)) (by decide) (fun _ => ?_) (fun h => absurd h1 h)
  refine lv_iload_n hx hb (mj_d5 (16, .iload_n 0, 1) (by simp)) rfl g0 ?_
  exact W.iret (v := i) hx hb hr (fun t ht hW => ⟨rfl, ht⟩) (fun _ h => by cases h) (mj_d5 (17, .ireturn, 1) (by simp)) hlocks
set_option maxHeartbeats 4000000 in
theorem mj_sci (f : Nat) (i j : Int32) (h0 : ¬ i < 0) (h1 : i < j) : Met l ⟨"java/lang/String", "checkIndex", "(II)V"⟩ (mj_ws ⟨"java/lang/String", "checkIndex", "(II)V"⟩ prog_14_method_155_code 2 none) (mj_rm (f + 1)) (mj_P x adV B L xs [.int i, .int j]) (mj_Q none) 0 0 (fun _ => False) := by
  refine Met.ofW (cc := prog_14_method_155_code) (maxL := 2) (ret := none) (by decide) rfl ?_
  intro p e s m args below meth c s₁ BB hml hp
  obtain ⟨rfl, hE⟩ := hp
  have hx := BB.exec
  have hb := BB.bytes
  have hr := BB.returns
  have hlocks := BB.notSynchronized
  have hts0 := atoms_spec (ws := mj_ws ⟨"java/lang/String", "checkIndex", "(II)V"⟩ prog_14_method_155_code 2 none) BB.pre
  have hts : ∀ w ∈ ms_G, w.before ([Value.int i, .int j] : List Value).toArray s = true := fun w hw => hts0 w (List.mem_cons_of_mem _ hw)
  have hown : s.vm.findClass "java/lang/String" = some m.cls := findClass_of_methodNamed BB.named
  have hl := lv_entry ([.int i, .int j]) (n := 2) (Nat.le_of_ble_eq_true rfl)
  rw [lg_entry_eq]
  generalize (lg_sl ([.int i, .int j]) ++ List.replicate (2 - (lg_sl ([.int i, .int j])).length) Slot.unset).toArray = ls at hl ⊢
  have g0 : ls[0]? = some (.val (.int i)) := hl.2.2 (0, .int i) List.mem_cons_self
  have g1 : ls[1]? = some (.val (.int j)) := hl.2.2 (1, .int j) (List.mem_cons_of_mem _ List.mem_cons_self)
  refine lv_iload_n hx hb (mj_d4 (0, .iload_n 0, 1) (by simp)) rfl g0 ?_
  refine lv_iload_n hx hb (mj_d4 (1, .iload_n 1, 1) (by simp)) rfl g1 ?_
  have tail : ∀ v : Value, (v = .null ∨ ∃ t, v = .ref t) → W p l e (headSpec (mj_ws ⟨"java/lang/String", "checkIndex", "(II)V"⟩ prog_14_method_155_code 2 none) (mj_rm (f + 1))).room s m ([Value.int i, .int j] : List Value).toArray below meth c s.heap [] 0 0 (MQ below (mj_Q none) ([Value.int i, .int j] : List Value).toArray s 0 0 (fun _ => False)) (F0 m 5 ls (v :: .int j :: .int i :: [])) := by
    intro v hv
    refine mj_call (v := some (.int i)) (va_runS (As := [.int i, .int j, v]) (rest := []) (n := 3) ⟨hx, hb, hml, hown, hts⟩ (mj_check f i j v hv h0 h1) ⟨callB_of 3 hts (mj_good (ms_g _ mj_c5 rfl)) rfl rfl rfl (hts _ (ms_g _ mj_w2.2.2.2.2.2.2.2 rfl)) (hts _ (ms_g _ mj_w2.2.1 rfl)) (by decide +kernel) ⟨Nat.le_refl _, by show 8 + (3 + 11) + 40 * f ≤ 40 * (f + 1); omega⟩, hts _ (ms_g _ mj_w2.2.2.1 rfl)⟩ ⟨mj_blind, mj_pre hE _⟩ rfl rfl hl.1 rfl (lv_room (Nat.le_of_ble_eq_true rfl)) (mj_d4 (5, .invokestatic 1059, 3) (by simp)) ⟨Nat.le_refl _, Nat.le_refl _⟩) ?_
    refine W.eq (g2 := F0 m 8 ls [.int i]) rfl ?_
    refine lv_pop hx hb (mj_d4 (8, .pop, 1) (by simp)) rfl ?_
    exact W.vret hx hb hr (fun t ht hW => ⟨rfl, ht⟩) (fun _ h => by cases h) (mj_d4 (9, .return_, 1) (by simp)) hlocks
  rcases hE.2.2.2.2.2 with hz | ⟨t, hz⟩
  · exact va_gets hx hb hz va_S.rf hown (hts _ (ms_g _ mj_w2.1 rfl)) (fun _ h => h) (mj_d4 (2, .getstatic 1053, 3) (by simp)) (tail _ (Or.inl rfl))
  · exact va_gets hx hb hz va_S.rf hown (hts _ (ms_g _ mj_w2.1 rfl)) (fun _ h => h) (mj_d4 (2, .getstatic 1053, 3) (by simp)) (tail _ (Or.inr ⟨t, rfl⟩))
set_option maxHeartbeats 4000000 in
theorem mj_coder (f k : Nat) (hk : k < 3) : Met l ⟨"java/lang/String", "coder", "()B"⟩ (mj_ws ⟨"java/lang/String", "coder", "()B"⟩ prog_14_method_152_code 1 (some .byte)) (mj_rm f) (mj_P x adV B L xs [.ref (x (k + 1))]) (mj_Q (some (.int 0))) 0 0 (fun _ => False) := by
  refine Met.ofW (cc := prog_14_method_152_code) (maxL := 1) (ret := some .byte) (by decide) rfl ?_
  intro p e s m args below meth c s₁ BB hml hp
  obtain ⟨rfl, hE⟩ := hp
  have hx := BB.exec
  have hb := BB.bytes
  have hr := BB.returns
  have hlocks := BB.notSynchronized
  have hts0 := atoms_spec (ws := mj_ws ⟨"java/lang/String", "coder", "()B"⟩ prog_14_method_152_code 1 (some .byte)) BB.pre
  have hts : ∀ w ∈ ms_G, w.before ([Value.ref (x (k + 1))] : List Value).toArray s = true := fun w hw => hts0 w (List.mem_cons_of_mem _ hw)
  have hown : s.vm.findClass "java/lang/String" = some m.cls := findClass_of_methodNamed BB.named
  have hl := lv_entry ([.ref (x (k + 1))]) (n := 1) (Nat.le_of_ble_eq_true rfl)
  rw [lg_entry_eq]
  generalize (lg_sl ([.ref (x (k + 1))]) ++ List.replicate (1 - (lg_sl ([.ref (x (k + 1))])).length) Slot.unset).toArray = ls at hl ⊢
  have g0 : ls[0]? = some (.val (.ref (x (k + 1)))) := hl.2.2 (0, .ref (x (k + 1))) List.mem_cons_self
  refine va_gets hx hb hE.2.2.2.2.1 va_S.rf hown (hts _ (ms_g _ mj_w.2.2.2.1 rfl)) (fun _ h => h) (mj_d1 (0, .getstatic 38, 3) (by simp)) ?_
  refine lv_if_eq (tgt := 13) hx hb (mj_d1 (3, .ifCond .eq 10, 3) (by simp)) (by decide) (fun h => absurd h (by decide)) (fun _ => ?_)
  refine lv_aload_n hx hb (mj_d1 (6, .aload_n 0, 1) (by simp)) rfl g0 ?_
  refine vk_getf hx hb (hE.1.1 k hk).2.1 va_S.rf hown (hts _ (ms_g _ mj_w2.2.2.2.2.1 rfl)) (fun _ h => h) (mj_d1 (7, .getfield 15, 3) (by simp)) ?_
  refine lv_goto (tgt := 14) hx hb (mj_d1 (10, .goto 4, 3) (by simp)) (by decide) ?_
  exact W.zret (v := 0) (ty := .byte) hx hb hr (by decide) (fun t ht hW => ⟨rfl, ht⟩) (fun _ h => by cases h) (mj_d1 (14, .ireturn, 1) (by simp)) hlocks
set_option maxHeartbeats 4000000 in
theorem mj_latin (f k : Nat) (hk : k < 3) : Met l ⟨"java/lang/String", "isLatin1", "()Z"⟩ (mj_ws ⟨"java/lang/String", "isLatin1", "()Z"⟩ prog_14_method_154_code 1 (some .boolean)) (mj_rm f) (mj_P x adV B L xs [.ref (x (k + 1))]) (mj_Q (some (.int 1))) 0 0 (fun _ => False) := by
  refine Met.ofW (cc := prog_14_method_154_code) (maxL := 1) (ret := some .boolean) (by decide) rfl ?_
  intro p e s m args below meth c s₁ BB hml hp
  obtain ⟨rfl, hE⟩ := hp
  have hx := BB.exec
  have hb := BB.bytes
  have hr := BB.returns
  have hlocks := BB.notSynchronized
  have hts0 := atoms_spec (ws := mj_ws ⟨"java/lang/String", "isLatin1", "()Z"⟩ prog_14_method_154_code 1 (some .boolean)) BB.pre
  have hts : ∀ w ∈ ms_G, w.before ([Value.ref (x (k + 1))] : List Value).toArray s = true := fun w hw => hts0 w (List.mem_cons_of_mem _ hw)
  have hown : s.vm.findClass "java/lang/String" = some m.cls := findClass_of_methodNamed BB.named
  have hl := lv_entry ([.ref (x (k + 1))]) (n := 1) (Nat.le_of_ble_eq_true rfl)
  rw [lg_entry_eq]
  generalize (lg_sl ([.ref (x (k + 1))]) ++ List.replicate (1 - (lg_sl ([.ref (x (k + 1))])).length) Slot.unset).toArray = ls at hl ⊢
  have g0 : ls[0]? = some (.val (.ref (x (k + 1)))) := hl.2.2 (0, .ref (x (k + 1))) List.mem_cons_self
  refine va_gets hx hb hE.2.2.2.2.1 va_S.rf hown (hts _ (ms_g _ mj_w.2.2.2.1 rfl)) (fun _ h => h) (mj_d2 (0, .getstatic 38, 3) (by simp)) ?_
  refine lv_if_eq (tgt := 17) hx hb (mj_d2 (3, .ifCond .eq 14, 3) (by simp)) (by decide) (fun h => absurd h (by decide)) (fun _ => ?_)
  refine lv_aload_n hx hb (mj_d2 (6, .aload_n 0, 1) (by simp)) rfl g0 ?_
  refine vk_getf hx hb (hE.1.1 k hk).2.1 va_S.rf hown (hts _ (ms_g _ mj_w2.2.2.2.2.1 rfl)) (fun _ h => h) (mj_d2 (7, .getfield 15, 3) (by simp)) ?_
  refine lv_if_ne (tgt := 17) hx hb (mj_d2 (10, .ifCond .ne 7, 3) (by simp)) (by decide) (fun h => absurd rfl h) (fun _ => ?_)
  refine lv_iconst (v := 1) hx hb (mj_d2 (13, .iconst 1, 1) (by simp)) (by decide) ?_
  refine lv_goto (tgt := 18) hx hb (mj_d2 (14, .goto 4, 3) (by simp)) (by decide) ?_
  exact W.zret (v := 1) (ty := .boolean) hx hb hr (by decide) (fun t ht hW => ⟨rfl, ht⟩) (fun _ h => by cases h) (mj_d2 (18, .ireturn, 1) (by simp)) hlocks
end MK

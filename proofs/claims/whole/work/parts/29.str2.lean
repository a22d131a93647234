/-! String.length, StringLatin1.charAt, String.charAt -/
theorem mj_len : ∀ k, k < 3 → ([4, 4, 3] : List Nat).getD k 0 = mb_len k := by decide
theorem mj_chr : ∀ k, k < 3 → ∀ j, j < mb_len k → (mb_byt.getD k []).getD j 0 = mb_chr k j ∧ (((mb_chr k j &&& 255).toUInt32 % 65536).toInt32) = mb_chr k j ∧ narrow .char (.int (mb_chr k j)) = .int (mb_chr k j) := by decide +kernel
section MN
variable {l : Launch} {x adV : Nat → Nat} {B L : Nat} {xs : Nat → Int32}
set_option maxHeartbeats 4000000 in
theorem mj_lch (f k j : Nat) (hk : k < 3) (hj : j < mb_len k) : Met l ⟨"java/lang/StringLatin1", "charAt", "([BI)C"⟩ (mj_ws ⟨"java/lang/StringLatin1", "charAt", "([BI)C"⟩ prog_15_method_2_code 2 (some .char)) (mj_rm (f + 2)) (mj_P x adV B L xs [.ref (adV k), .int (nI j)]) (mj_Q (some (.int (mb_chr k j)))) 0 0 (fun _ => False) := by
  refine Met.ofW (cc := prog_15_method_2_code) (maxL := 2) (ret := some .char) (by decide) rfl ?_
  intro p e s m args below meth c s₁ BB hml hp
  obtain ⟨rfl, hE⟩ := hp
  have hx := BB.exec
  have hb := BB.bytes
  have hr := BB.returns
  have hlocks := BB.notSynchronized
  have hts0 := atoms_spec (ws := mj_ws ⟨"java/lang/StringLatin1", "charAt", "([BI)C"⟩ prog_15_method_2_code 2 (some .char)) BB.pre
  have hts : ∀ w ∈ ms_G, w.before ([Value.ref (adV k), .int (nI j)] : List Value).toArray s = true := fun w hw => hts0 w (List.mem_cons_of_mem _ hw)
  have hown : s.vm.findClass "java/lang/StringLatin1" = some m.cls := findClass_of_methodNamed BB.named
  have hl := lv_entry ([.ref (adV k), .int (nI j)]) (n := 2) (Nat.le_of_ble_eq_true rfl)
  rw [lg_entry_eq]
  generalize (lg_sl ([.ref (adV k), .int (nI j)]) ++ List.replicate (2 - (lg_sl ([.ref (adV k), .int (nI j)])).length) Slot.unset).toArray = ls at hl ⊢
  have g0 : ls[0]? = some (.val (.ref (adV k))) := hl.2.2 (0, .ref (adV k)) List.mem_cons_self
  have g1 : ls[1]? = some (.val (.int (nI j))) := hl.2.2 (1, .int (nI j)) (List.mem_cons_of_mem _ List.mem_cons_self)
  obtain ⟨cell, t1, t2, t3, t4, t5, t6, t7⟩ := (hE.1.1 k hk).2.2.2
  rw [mj_len k hk] at t4 t5 t6
  have hlen4 : mb_len k ≤ 4 := by unfold mb_len; split <;> omega
  have hj31 : j < 2 ^ 31 := by omega
  refine lv_iload_n hx hb (mj_d3 (0, .iload_n 1, 1) (by simp)) rfl g1 ?_
  refine lv_aload_n hx hb (mj_d3 (1, .aload_n 0, 1) (by simp)) rfl g0 ?_
  refine W.alen (n := nI (mb_len k)) hx hb t1 t2 t5 rfl rfl (mj_d3 (2, .arraylength, 1) (by simp)) ?_
  refine mj_call (v := none) (va_runS (As := [.int (nI j), .int (nI (mb_len k))]) (rest := []) (n := 2) ⟨hx, hb, hml, hown, hts⟩ (mj_sci f (nI j) (nI (mb_len k)) (nI_pos hj31) (nI_lt hj (by omega))) ⟨callB_of 2 hts (mj_good (ms_g _ mj_c4 rfl)) rfl rfl rfl (hts _ (ms_g _ mj_w2.2.2.2.2.2.1 rfl)) (hts _ (ms_g _ mj_w.2.2.2.2.2.2.2.2.2.1 rfl)) (by decide +kernel) ⟨Nat.le_refl _, by show 8 + (2 + 11) + 40 * (f + 1) ≤ 40 * (f + 2); omega⟩, hts _ (ms_g _ mj_w.2.2.2.2.2.2.2.2.2.2 rfl)⟩ ⟨mj_blind, mj_pre hE _⟩ rfl rfl hl.1 rfl (lv_room (Nat.le_of_ble_eq_true rfl)) (mj_d3 (3, .invokestatic 9, 3) (by simp)) ⟨Nat.le_refl _, Nat.le_refl _⟩) ?_
  refine W.eq (g2 := F0 m 6 ls []) rfl ?_
  refine lv_aload_n hx hb (mj_d3 (6, .aload_n 0, 1) (by simp)) rfl g0 ?_
  refine lv_iload_n hx hb (mj_d3 (7, .iload_n 1, 1) (by simp)) rfl g1 ?_
  have hcl : (nI j).toNatClampNeg = j := nI_clamp hj31
  refine W.bald (v := .int (mb_chr k j)) hx hb t1 t2 t3 (by rw [hcl]; exact fun h => h.elim (fun h => nI_pos hj31 h) (fun h => by omega)) (by rw [hcl, t6 j hj]; exact congrArg (fun z => some (Value.int z)) (mj_chr k hk j hj).1) rfl rfl (mj_d3 (8, .baload, 1) (by simp)) ?_
  refine lv_sipush (v := 255) hx hb (mj_d3 (9, .sipush 255, 3) (by simp)) (by decide) ?_
  refine lv_iand hx hb (mj_d3 (12, .iand, 1) (by simp)) ?_
  refine lv_i2c (v := mb_chr k j) hx hb (mj_d3 (13, .i2c, 1) (by simp)) (mj_chr k hk j hj).2.1 ?_
  exact W.zret (v := mb_chr k j) (ty := .char) hx hb hr (mj_chr k hk j hj).2.2 (fun t ht hW => ⟨rfl, ht⟩) (fun _ h => by cases h) (mj_d3 (14, .ireturn, 1) (by simp)) hlocks
end MN
section MO
variable {l : Launch} {D : va_G} {cA : FieldType → ClassId} {x adV : Nat → Nat} {B L : Nat} {xs : Nat → Int32}
theorem ms_adk {k : Nat} (hk : k < 3) : ms_ad x B (k + 1) = x (k + 1) := by unfold ms_ad; rw [if_pos (by omega)]
theorem mj_recv {s : State} (hE : ms_E x adV B L xs s s.heap) {k : Nat} (hk : k < 3) : ∃ cellB : Cell, s.heap[x (k + 1)]? = some cellB ∧ cellB.vm.isStatics = false ∧ s.vm.findClass "java/lang/String" = some cellB.cls := by
  obtain ⟨cell, h1, h2, h3, -⟩ := (hE.1.1 k hk).1
  exact ⟨cell, h1, h2, h3⟩
theorem mj_ishr (k : Nat) (hk : k < 3) : nI (mb_len k) >>> ((0 : Int32) &&& 31) = nI (mb_len k) := by
  rcases (show k = 0 ∨ k = 1 ∨ k = 2 by omega) with rfl | rfl | rfl <;> decide
set_option maxHeartbeats 4000000 in
theorem ms_str : ms_Str l D cA x adV B L xs := by
  intro d hd h P k hk
  obtain ⟨f, rfl⟩ : ∃ f, d = f + 2 := ⟨d - 2, by omega⟩
  refine ⟨fun hP => ?_, fun j hj hP => ?_⟩
  · refine Met.ofW (cc := prog_14_method_54_code) (maxL := 1) (ret := some .int) (by decide +kernel) rfl ?_
    intro p e s m args below meth c s₁ BB hml hp
    obtain ⟨rfl, hX, hE, hI⟩ := hp
    have hx := BB.exec
    have hb : c.code = prog_14_method_54_code := BB.bytes
    have hr := BB.returns
    have hlocks := BB.notSynchronized
    have hts0 := atoms_spec (ws := ms_ws 213) BB.pre
    have hts : ∀ w ∈ ms_G, w.before (List.map (ms_v (ms_ad x B)) [Value.ref (k + 1)]).toArray s = true := fun w hw => hts0 w (List.mem_cons_of_mem _ hw)
    have hown : s.vm.findClass "java/lang/String" = some m.cls := findClass_of_methodNamed BB.named
    have hav : List.map (ms_v (ms_ad x B)) [Value.ref (k + 1)] = [Value.ref (x (k + 1))] := by show [Value.ref (ms_ad x B (k + 1))] = _; rw [ms_adk hk]
    rw [hav] at hts ⊢
    have hl := lv_entry ([.ref (x (k + 1))]) (n := 1) (Nat.le_of_ble_eq_true rfl)
    rw [lg_entry_eq]
    generalize (lg_sl ([.ref (x (k + 1))]) ++ List.replicate (1 - (lg_sl ([.ref (x (k + 1))])).length) Slot.unset).toArray = ls at hl ⊢
    have g0 : ls[0]? = some (.val (.ref (x (k + 1)))) := hl.2.2 (0, .ref (x (k + 1))) List.mem_cons_self
    obtain ⟨cell, t1, t2, t3, t4, t5, t6, t7⟩ := (hE.1.1 k hk).2.2.2
    rw [mj_len k hk] at t4 t5 t6
    refine lv_aload_n hx hb (mj_d6 (0, .aload_n 0, 1) (by simp)) rfl g0 ?_
    refine vk_getf hx hb (hE.1.1 k hk).2.2.1 va_S.rf hown (hts _ (ms_g _ mj_w2.2.2.2.1 rfl)) (fun _ h => h) (mj_d6 (1, .getfield 9, 3) (by simp)) ?_
    refine W.alen (n := nI (mb_len k)) hx hb t1 t2 t5 rfl rfl (mj_d6 (4, .arraylength, 1) (by simp)) ?_
    refine lv_aload_n hx hb (mj_d6 (5, .aload_n 0, 1) (by simp)) rfl g0 ?_
    refine mj_call (v := some (.int 0)) (va_runV (C := "java/lang/String") (As := []) (rest := [.int (nI (mb_len k))]) (n := 0) ⟨hx, hb, hml, hown, hts⟩ (mj_coder f k hk) ⟨callB_of 0 hts (mj_good (ms_g _ mj_c1 rfl)) rfl rfl rfl (hts _ (ms_g _ mj_w2.2.2.2.2.2.1 rfl)) (hts _ (ms_g _ mj_w.1 rfl)) (by decide +kernel) ⟨by show f + 1 ≤ f + 2 + 1; omega, by show 8 + (1 + 11) + 40 * f ≤ 40 * (f + 2 + 1); omega⟩, hts _ (ms_g _ mj_w.2.1 rfl), hts _ (ms_g _ mj_w.2.2.1 rfl)⟩ ⟨mj_blind, mj_recv hE hk, mj_pre hE _⟩ rfl rfl hl.1 rfl (lv_room (Nat.le_of_ble_eq_true rfl)) (mj_d6 (6, .invokevirtual 335, 3) (by simp)) ⟨Nat.zero_le _, Nat.zero_le _⟩) ?_
    refine W.eq (g2 := F0 m 9 ls [.int 0, .int (nI (mb_len k))]) rfl ?_
    refine lv_ishr hx hb (mj_d6 (9, .ishr, 1) (by simp)) ?_
    rw [mj_ishr k hk]
    exact W.iret (v := nI (mb_len k)) hx hb hr (fun t ht hW => ⟨some (.int (nI (mb_len k))), h, rfl, hP, by rw [ht]; exact hI⟩) (fun _ h => by cases h) (mj_d6 (10, .ireturn, 1) (by simp)) hlocks
  · refine Met.ofW (cc := prog_14_method_56_code) (maxL := 2) (ret := some .char) (by decide +kernel) rfl ?_
    intro p e s m args below meth c s₁ BB hml hp
    obtain ⟨rfl, hX, hE, hI⟩ := hp
    have hx := BB.exec
    have hb : c.code = prog_14_method_56_code := BB.bytes
    have hr := BB.returns
    have hlocks := BB.notSynchronized
    have hts0 := atoms_spec (ws := ms_ws 214) BB.pre
    have hts : ∀ w ∈ ms_G, w.before (List.map (ms_v (ms_ad x B)) [Value.ref (k + 1), .int (nI j)]).toArray s = true := fun w hw => hts0 w (List.mem_cons_of_mem _ hw)
    have hown : s.vm.findClass "java/lang/String" = some m.cls := findClass_of_methodNamed BB.named
    have hav : List.map (ms_v (ms_ad x B)) [Value.ref (k + 1), .int (nI j)] = [Value.ref (x (k + 1)), .int (nI j)] := by show [Value.ref (ms_ad x B (k + 1)), .int (nI j)] = _; rw [ms_adk hk]
    rw [hav] at hts ⊢
    have hl := lv_entry ([.ref (x (k + 1)), .int (nI j)]) (n := 2) (Nat.le_of_ble_eq_true rfl)
    rw [lg_entry_eq]
    generalize (lg_sl ([.ref (x (k + 1)), .int (nI j)]) ++ List.replicate (2 - (lg_sl ([.ref (x (k + 1)), .int (nI j)])).length) Slot.unset).toArray = ls at hl ⊢
    have g0 : ls[0]? = some (.val (.ref (x (k + 1)))) := hl.2.2 (0, .ref (x (k + 1))) List.mem_cons_self
    have g1 : ls[1]? = some (.val (.int (nI j))) := hl.2.2 (1, .int (nI j)) (List.mem_cons_of_mem _ List.mem_cons_self)
    refine lv_aload_n hx hb (mj_d7 (0, .aload_n 0, 1) (by simp)) rfl g0 ?_
    refine mj_call (v := some (.int 1)) (va_runV (C := "java/lang/String") (As := []) (rest := []) (n := 0) ⟨hx, hb, hml, hown, hts⟩ (mj_latin f k hk) ⟨callB_of 0 hts (mj_good (ms_g _ mj_c2 rfl)) rfl rfl rfl (hts _ (ms_g _ mj_w2.2.2.2.2.2.1 rfl)) (hts _ (ms_g _ mj_w.2.2.2.2.1 rfl)) (by decide +kernel) ⟨by show f + 1 ≤ f + 2 + 1; omega, by show 8 + (1 + 11) + 40 * f ≤ 40 * (f + 2 + 1); omega⟩, hts _ (ms_g _ mj_w.2.2.2.2.2.1 rfl), hts _ (ms_g _ mj_w.2.2.2.2.2.2.1 rfl)⟩ ⟨mj_blind, mj_recv hE hk, mj_pre hE _⟩ rfl rfl hl.1 rfl (lv_room (Nat.le_of_ble_eq_true rfl)) (mj_d7 (1, .invokevirtual 492, 3) (by simp)) ⟨Nat.zero_le _, Nat.zero_le _⟩) ?_
    refine W.eq (g2 := F0 m 4 ls [.int 1]) rfl ?_
    refine lv_if_eq (tgt := 16) hx hb (mj_d7 (4, .ifCond .eq 12, 3) (by simp)) (by decide) (fun h => absurd h (by decide)) (fun _ => ?_)
    refine lv_aload_n hx hb (mj_d7 (7, .aload_n 0, 1) (by simp)) rfl g0 ?_
    refine vk_getf hx hb (hE.1.1 k hk).2.2.1 va_S.rf hown (hts _ (ms_g _ mj_w2.2.2.2.1 rfl)) (fun _ h => h) (mj_d7 (8, .getfield 9, 3) (by simp)) ?_
    refine lv_iload_n hx hb (mj_d7 (11, .iload_n 1, 1) (by simp)) rfl g1 ?_
    refine mj_call (v := some (.int (mb_chr k j))) (va_runS (As := [.ref (adV k), .int (nI j)]) (rest := []) (n := 2) ⟨hx, hb, hml, hown, hts⟩ (mj_lch f k j hk hj) ⟨callB_of 2 hts (mj_good (ms_g _ mj_c3 rfl)) rfl rfl rfl (hts _ (ms_g _ mj_w2.2.2.2.2.2.2.1 rfl)) (hts _ (ms_g _ mj_w.2.2.2.2.2.2.2.1 rfl)) (by decide +kernel) ⟨by show f + 2 + 1 ≤ f + 2 + 1; omega, by show 8 + (2 + 11) + 40 * (f + 2) ≤ 40 * (f + 2 + 1); omega⟩, hts _ (ms_g _ mj_w.2.2.2.2.2.2.2.2.1 rfl)⟩ ⟨mj_blind, mj_pre hE _⟩ rfl rfl hl.1 rfl (lv_room (Nat.le_of_ble_eq_true rfl)) (mj_d7 (12, .invokestatic 495, 3) (by simp)) ⟨Nat.zero_le _, Nat.zero_le _⟩) ?_
    refine W.eq (g2 := F0 m 15 ls [.int (mb_chr k j)]) rfl ?_
    exact W.zret (v := mb_chr k j) (ty := .char) hx hb hr (mj_chr k hk j hj).2.2 (fun t ht hW => ⟨some (.int (mb_chr k j)), h, rfl, hP, by rw [ht]; exact hI⟩) (fun _ h => by cases h) (mj_d7 (15, .ireturn, 1) (by simp)) hlocks
end MO

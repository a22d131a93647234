/-! from the law's entry into the abstract machine -/
def ma_h0 (L : Nat) (xs : Nat → Int32) : ma_H := (fun i => if i = 0 then .inl (.int, L, .inl xs) else if i < 4 then .inr (90, []) else .inr (99, []), 4)
theorem mz_st : lw_tbl[413]? = some (Cond.stringRef "BeggarPile$Reader" 91 "game") ∧ lw_tbl[466]? = some (Cond.stringRef "BeggarPile$Reader" 97 "hand") ∧ lw_tbl[467]? = some (Cond.stringRef "BeggarPile$Reader" 99 "lay") ∧ lw_tbl[123]? = some (Cond.arrayOver (.object "BeggarPile$Table")) ∧ lw_tbl[177]? = some (Cond.arrayOver (.object "BeggarPile$Game")) ∧ lw_tbl[427]? = some (Cond.laysStatic "java/lang/String" "COMPACT_STRINGS" "Z") ∧ lw_tbl[443]? = some (Cond.laysStatic "jdk/internal/util/Preconditions" "SIOOBE_FORMATTER" "Ljava/util/function/BiFunction;") := by decide +kernel
def mz_ix (i : Nat) : Nat := ([91, 97, 99] : List Nat).getD i 0
def mz_tm (i : Nat) : Term := .string "BeggarPile$Reader" (mz_ix i)
theorem mz_lt3 {P : Nat → Prop} (h0 : P 0) (h1 : P 1) (h2 : P 2) : ∀ i, i < 3 → P i := by
  intro i hi
  rcases (show i = 0 ∨ i = 1 ∨ i = 2 by omega) with rfl | rfl | rfl
  · exact h0
  · exact h1
  · exact h2
set_option maxRecDepth 100000 in
set_option maxHeartbeats 4000000 in
theorem mz_strings {s : State} {a : Array Value} {B : Nat} (hB : B = s.heap.size) (hgv : (Jvm.Cond.and given_1 narrow_1).before a s = true) : ∃ adK adV : Nat → Nat, vk_S 3 [4, 4, 3] mb_byt adK adV (fun q => B ≤ q) s s.heap ∧ ∀ i : Nat, i < 3 → (mz_tm i).eval a s none [] s = some (.ref (adK i)) := by
  have hs := flat_of_before _ hgv
  refine vk_Sof (tm := mz_tm) ?_ ?_ ?_ ?_ ?_ ?_ ?_ ?_
  · exact mz_lt3 (by decide) (by decide) (by decide)
  · exact mz_lt3 (hs _ (by decide +kernel)) (hs _ (by decide +kernel)) (hs _ (by decide +kernel))
  · exact mz_lt3 (hs _ (by decide +kernel)) (hs _ (by decide +kernel)) (hs _ (by decide +kernel))
  · exact mz_lt3 (hs _ (by decide +kernel)) (hs _ (by decide +kernel)) (hs _ (by decide +kernel))
  · exact mz_lt3 (hs _ (by decide +kernel)) (hs _ (by decide +kernel)) (hs _ (by decide +kernel))
  · refine mz_lt3 ?_ ?_ ?_
    · intro j hj
      have hj4 : j < 4 := hj
      rcases (show j = 0 ∨ j = 1 ∨ j = 2 ∨ j = 3 by omega) with rfl | rfl | rfl | rfl <;> exact hs _ (by decide +kernel)
    · intro j hj
      have hj4 : j < 4 := hj
      rcases (show j = 0 ∨ j = 1 ∨ j = 2 ∨ j = 3 by omega) with rfl | rfl | rfl | rfl <;> exact hs _ (by decide +kernel)
    · intro j hj
      have hj4 : j < 3 := hj
      rcases (show j = 0 ∨ j = 1 ∨ j = 2 by omega) with rfl | rfl | rfl <;> exact hs _ (by decide +kernel)
  · intro i j hi hj hne
    have h01 : (Cond.not (Cond.eq (mz_tm 0) (mz_tm 1))).before a s = true := hs _ (by decide +kernel)
    have h02 : (Cond.not (Cond.eq (mz_tm 0) (mz_tm 2))).before a s = true := hs _ (by decide +kernel)
    have h12 : (Cond.not (Cond.eq (mz_tm 1) (mz_tm 2))).before a s = true := hs _ (by decide +kernel)
    rcases (show i = 0 ∨ i = 1 ∨ i = 2 by omega) with rfl | rfl | rfl <;> rcases (show j = 0 ∨ j = 1 ∨ j = 2 by omega) with rfl | rfl | rfl
    · exact absurd rfl hne
    · exact Or.inl h01
    · exact Or.inl h02
    · exact Or.inr h01
    · exact absurd rfl hne
    · exact Or.inl h12
    · exact Or.inr h02
    · exact Or.inr h12
    · exact absurd rfl hne
  · intro q hq; omega
set_option maxHeartbeats 4000000 in
theorem ms_start {p : Program} {e : Env} {s : State} {m : MethodId} {below : List Frame} {meth : Method} {c : Code} (l : Launch) {b L : Nat} {xs : Nat → Int32} (C0 : lw_At p s m meth c b L xs) (hlaw : ma_W 12 212 (fun r _ => r = some (.int 1)) 0 [some (.ref 0), none, none, none] [] (ma_h0 L xs) 0 0) : W p l e room_1 s m #[Value.ref b] below meth c s.heap [] 0 0 (lw_Z below #[Value.ref b] s) (entryFrame m ([Value.ref b] : List Value).toArray 4) := by
  obtain ⟨hx, hb, hr, hml, hown, hts, hX0, hbl, hlocks, hgv⟩ := C0
  have hs := flat_of_before _ hgv
  have htG : ∀ w ∈ ms_G, w.before #[Value.ref b] s = true := fun w hw => hts w (List.mem_filter.mp hw).1
  have htP : ∀ (i : Nat) (w : Cond), lw_tbl[i]? = some w → w.before #[Value.ref b] s = true := fun i w h => hts w (List.mem_of_getElem? h)
  obtain ⟨adK, adV, hvS, hev⟩ := mz_strings (B := s.heap.size) rfl hgv
  obtain ⟨DD, hDD⟩ : ∃ D : Nat → ClassId × (Nat → Nat), ∀ (k : Nat) (r : vw_C), mb_cl[k]? = some r → u_Kn s r.1 r.2.1 r.2.2 (D k).1 (D k).2 := by
    have h : ∀ k : Nat, ∃ q : ClassId × (Nat → Nat), ∀ r : vw_C, mb_cl[k]? = some r → u_Kn s r.1 r.2.1 r.2.2 q.1 q.2 := by
      intro k
      cases hk : mb_cl[k]? with
      | none => exact ⟨(0, fun _ => 0), fun r h => by cases h⟩
      | some r =>
        obtain ⟨c1, c2, c3, c4, c5⟩ := ms_cls_ok k r.1 r.2.1 r.2.2 hk
        obtain ⟨cC, iS, h⟩ := u_known htG c1 (htG _ c4)
        exact ⟨(cC, iS), fun r' h' => by cases h'; exact h⟩
    obtain ⟨D, hD⟩ := Classical.axiomOfChoice h
    exact ⟨D, hD⟩
  have harr : ∀ ty : FieldType, (Cond.arrayClass ty).before #[Value.ref b] s = true → ∃ cA, s.vm.findClass ("[" ++ ty.toString) = some cA ∧ ArrOfT s cA ty := by
    intro ty h
    obtain ⟨cA, k, comp, h1, h2, h3⟩ := Cond.arrayClass_spec h
    exact ⟨cA, h1, fun n z => ⟨fun k h => (by cases h), k, h2, comp, h3⟩⟩
  have hobj : ∀ C : String, (Cond.arrayOver (.object C)).before #[Value.ref b] s = true → ∃ cA, s.vm.findClass ("[" ++ (FieldType.object C).toString) = some cA ∧ ArrOfT s cA (.object C) ∧ va_RA s cA (.object C) := by
    intro C h
    obtain ⟨comp, cA, k, h1, h2, h3, h4, h5⟩ := Cond.arrayOver_spec h
    exact ⟨cA, h5, fun n z => ⟨fun k h => (by cases h), k, h3, comp, h4⟩, k, comp, h3, h4, h1, h5⟩
  obtain ⟨cI, i1, i2⟩ := harr .int (htG _ ms_ac.1)
  obtain ⟨cB, b1, b2⟩ := harr .byte (htG _ ms_ac.2.1)
  obtain ⟨cZ, z1, z2⟩ := harr .boolean (htG _ ms_ac.2.2)
  obtain ⟨cT, t1, t2, t3⟩ := hobj "BeggarPile$Table" (htP _ _ mz_st.2.2.2.1)
  obtain ⟨cG, g1, g2, g3⟩ := hobj "BeggarPile$Game" (htP _ _ mz_st.2.2.2.2.1)
  obtain ⟨cA, hcA⟩ : ∃ cA : FieldType → ClassId, cA = fun ty => (s.vm.findClass ("[" ++ ty.toString)).getD 0 := ⟨_, rfl⟩
  have eI : cA .int = cI := by rw [hcA]; dsimp only; rw [i1]; rfl
  have eB : cA .byte = cB := by rw [hcA]; dsimp only; rw [b1]; rfl
  have eZ : cA .boolean = cZ := by rw [hcA]; dsimp only; rw [z1]; rfl
  have eT : cA (.object "BeggarPile$Table") = cT := by rw [hcA]; dsimp only; rw [t1]; rfl
  have eG : cA (.object "BeggarPile$Game") = cG := by rw [hcA]; dsimp only; rw [g1]; rfl
  have hK : va_K (fun k => (DD k).1, fun k => (DD k).2) mb_cl (ms_tys cA) s := by
    refine ⟨fun k r hk => hDD k r hk, fun k q hq => ?_⟩
    have hk5 : k < 5 := (List.getElem?_eq_some_iff.mp hq).1
    unfold ms_tys at hq
    rw [eI, eB, eZ, eT, eG] at hq
    rcases (show k = 0 ∨ k = 1 ∨ k = 2 ∨ k = 3 ∨ k = 4 by omega) with rfl | rfl | rfl | rfl | rfl
    · cases hq; exact ⟨i2, i1⟩
    · cases hq; exact ⟨b2, b1⟩
    · cases hq; exact ⟨z2, z1⟩
    · cases hq; exact ⟨t2, t3⟩
    · cases hq; exact ⟨g2, g3⟩
  obtain ⟨x, hxd⟩ : ∃ x : Nat → Nat, x = fun i => if i = 0 then b else adK (i - 1) := ⟨_, rfl⟩
  have hx0 : x 0 = b := by rw [hxd]; rfl
  have hxk : (fun i => x (i + 1)) = adK := by rw [hxd]; funext i; rfl
  have hMX : ms_X (fun k => (DD k).1, fun k => (DD k).2) cA x s := by
    refine ⟨hK, fun q hq hk => ?_, ⟨va_AO.of (htP _ _ mz_st.2.2.2.1), va_AO.of (htP _ _ mz_st.2.2.2.2.1)⟩, ?_, ?_, ?_⟩
    · rcases hk with hk | hk
      · have h9 := mb_k3 q hq hk
        simp only [ms_k3, Bool.and_eq_true, decide_eq_true_eq] at h9
        exact va_Nw.of rfl (htP _ _ h9.1.1)
      · have h9 := mb_k4 q hq hk
        simp only [ms_k4, Bool.and_eq_true, decide_eq_true_eq] at h9
        exact va_Nw.of rfl (htP _ _ h9.1.1.1.1.1)
    · have := hev 0 (by decide); rw [← hxk] at this; exact vk_R.of (htP _ _ mz_st.1) this
    · have := hev 1 (by decide); rw [← hxk] at this; exact vk_R.of (htP _ _ mz_st.2.1) this
    · have := hev 2 (by decide); rw [← hxk] at this; exact vk_R.of (htP _ _ mz_st.2.2.1) this
  have hA0 : ∀ a : Nat, a < s.heap.size → ¬ (fun q => s.heap.size ≤ q) a := fun a h g => Nat.not_le.mpr h g
  have hME : ms_E x adV s.heap.size L xs s s.heap := by
    refine ⟨by rw [hxk]; exact hvS, by rw [hx0]; exact hX0, by rw [hx0]; exact hbl, Nat.le_refl _, ?_, ?_⟩
    · exact va_Zof (htP _ _ mz_st.2.2.2.2.2.1) (htG _ (ms_g _ mj_w2.2.2.2.2.2.1 rfl)) (va_eqt (hs _ (by decide +kernel))) hA0
    · exact va_Zqof (htP _ _ mz_st.2.2.2.2.2.2) (htG _ (ms_g _ mj_w2.2.2.2.2.2.2.2 rfl)) (hs _ (by decide +kernel)) hA0
  have hC : ms_Cx p room_1 s m #[Value.ref b] meth c (fun k => (DD k).1, fun k => (DD k).2) cA x adV s.heap.size L xs 212 12 :=
    ⟨hx, hb, hml, hown, htG, hMX, hME, fun h => absurd h (by decide), rfl, rfl, Nat.le_of_ble_eq_true rfl, Nat.le_of_ble_eq_true rfl⟩
  have hQ : ms_Ret p l e room_1 s m #[Value.ref b] below meth c (lw_Z below #[Value.ref b] s) (fun k => (DD k).1, fun k => (DD k).2) cA x s.heap.size L xs 212 (fun r _ => r = some (.int 1)) := by
    intro v h H locs lr pc kc ks hv hI hkc hks hz
    subst hv
    refine va_forget hI.2.2.2.2.2.2.2 ?_
    refine W.widen (k := 600000) (n := 7302250) hkc hks ?_
    rcases hz with ⟨y, hy, -, hin⟩ | ⟨y, hy, -⟩ | ⟨hy, -⟩
    · cases hy; exact lw_ret hx hb hr hlocks hin
    · cases hy
    · cases hy
  have hrun := ms_run hC (ms_all ms_str 12) hQ hlaw
  rw [lg_entry_eq]
  have hav : [Value.ref b] = List.map (ms_v (ms_ad x s.heap.size)) [Value.ref 0] := by show _ = [Value.ref (ms_ad x s.heap.size 0)]; unfold ms_ad; rw [if_pos (by decide), hx0]
  have hL : ms_L (ms_ad x s.heap.size) 4 [some (.ref 0), none, none, none] (lg_sl [Value.ref b] ++ List.replicate (4 - (lg_sl [Value.ref b]).length) Slot.unset).toArray := by
    rw [hav]
    exact ms_L_entry (ms_ad x s.heap.size) (n := 4) (av := [Value.ref 0]) (Nat.le_of_ble_eq_true rfl)
  refine hrun s.heap [] _ hL ?_ (Nat.zero_le _) (Nat.zero_le _)
  refine ⟨Nat.le_refl _, rfl, fun i h1 h2 => absurd h2 (Nat.not_lt.mpr h1), rfl, fun i h1 h2 => ?_, fun i h1 => ?_, fun _ _ => rfl, fun _ h => by cases h⟩
  · show (if i = 0 then _ else if i < 4 then _ else _) = _
    rw [if_neg (by omega), if_pos h2]
  · have h4 : 4 ≤ i := h1
    show (if i = 0 then _ else if i < 4 then _ else _) = _
    rw [if_neg (by omega), if_neg (by omega)]

/-! every method's contract out of the abstract machine -/
section AL
variable {l : Launch} {D : va_G} {cA : FieldType → ClassId} {x adV : Nat → Nat} {B L : Nat} {xs : Nat → Int32}
def ms_Str (l : Launch) (D : va_G) (cA : FieldType → ClassId) (x adV : Nat → Nat) (B L : Nat) (xs : Nat → Int32) : Prop := ∀ (d : Nat), 2 ≤ d → ∀ (h : ma_H) (P : ma_P) (i : Nat), i < 3 → (P (some (.int (nI (mb_len i)))) h → ms_met l D cA x adV B L xs (d + 1) 213 [.ref (i + 1)] h P) ∧ ∀ j, j < mb_len i → P (some (.int (mb_chr i j))) h → ms_met l D cA x adV B L xs (d + 1) 214 [.ref (i + 1), .int (nI j)] h P
theorem ms_sl_map (ad : Nat → Nat) : ∀ av : List Value, (lg_sl (av.map (ms_v ad))).length = (ma_sl av).length
  | [] => rfl
  | v :: r => by
    have ih := ms_sl_map ad r
    unfold lg_sl at ih ⊢
    rw [List.map_cons, List.flatMap_cons, List.length_append, ms_v_cat, ih]
    show _ = (if v.category = 2 then some v :: none :: ma_sl r else some v :: ma_sl r).length
    by_cases h : v.category = 2
    · rw [if_pos h, if_pos h]; simp only [List.length_cons, List.length_nil]; omega
    · rw [if_neg h, if_neg h]; simp only [List.length_cons, List.length_nil]; omega
theorem ms_sl_at (ad : Nat → Nat) : ∀ (av : List Value) (k i : Nat) (v : Value), (ma_sl av)[i]? = some (some v) → (k + i, ms_v ad v) ∈ lv_args k (av.map (ms_v ad))
  | [], k, i, v => fun h => by simp [ma_sl] at h
  | w :: r, k, i, v => fun h => by
    unfold ma_sl at h
    rw [List.map_cons]
    unfold lv_args
    rw [ms_v_cat]
    by_cases hc : w.category = 2
    · rw [if_pos hc] at h ⊢
      match i, h with
      | 0, h => simp only [List.getElem?_cons_zero, Option.some.injEq] at h; subst h; exact List.mem_cons_self
      | 1, h => simp at h
      | i + 2, h =>
        simp only [List.getElem?_cons_succ] at h
        have := ms_sl_at ad r (k + 2) i v h
        rw [show k + (i + 2) = k + 2 + i by omega]
        exact List.mem_cons_of_mem _ this
    · rw [if_neg hc] at h ⊢
      match i, h with
      | 0, h => simp only [List.getElem?_cons_zero, Option.some.injEq] at h; subst h; exact List.mem_cons_self
      | i + 1, h =>
        simp only [List.getElem?_cons_succ] at h
        have := ms_sl_at ad r (k + 1) i v h
        rw [show k + (i + 1) = k + 1 + i by omega]
        exact List.mem_cons_of_mem _ this
theorem ms_L_entry (ad : Nat → Nat) {n : Nat} {av : List Value} (hl : (ma_sl av).length ≤ n) : ms_L ad n (ma_en n av) (lg_sl (av.map (ms_v ad)) ++ List.replicate (n - (lg_sl (av.map (ms_v ad))).length) Slot.unset).toArray := by
  have h1 : (lg_sl (av.map (ms_v ad))).length ≤ n := by rw [ms_sl_map]; exact hl
  obtain ⟨g1, g2, g3⟩ := lv_entry (av.map (ms_v ad)) (n := n) h1
  refine ⟨?_, g1, g2, fun i v hi => ?_⟩
  · unfold ma_en; rw [List.length_append, List.length_replicate]; omega
  · unfold ma_en at hi
    by_cases hlt : i < (ma_sl av).length
    · rw [List.getElem?_append_left hlt] at hi
      have := ms_sl_at ad av 0 i v hi
      rw [Nat.zero_add] at this
      exact g3 _ this
    · rw [List.getElem?_append_right (by omega)] at hi
      have := List.eq_of_mem_replicate (List.mem_of_getElem? hi)
      cases this
theorem ms_rt_narrow {y : Int32} (h : y = 0 ∨ y = 1) : narrow .boolean (.int y) = .int y := by rcases h with rfl | rfl <;> rfl
/-- the return of a method that is called -/
theorem ms_ret {p : Program} {e : Env} {s : State} {m : MethodId} {args : Array Value} {below : List Frame} {meth : Method} {c : Code} {id : Nat} {R : Room} {Q : ma_P} (hx : p.tables.exec = Jvm.exec) (hb : c.code = ma_by id) (hr : meth.sig.returnType = ma_rt id) (hlocks : meth.locks = false) :
    ms_Ret p l e R s m args below meth c (MQ below (ms_Qc D cA x B L xs Q) args s (ma_mc id) (ma_ms id) (fun q => B ≤ q)) D cA x B L xs id Q := by
  intro v h H locs lr pc kc ks hQ hI hkc hks hv
  refine W.widen hkc hks ?_
  have hq : ∀ t : State, t.heap = H → ms_I D cA x B L xs s.heap h t.heap [] := fun t ht => by
    rw [ht]; exact ⟨hI.1, hI.2.1, hI.2.2.1, hI.2.2.2.1, hI.2.2.2.2.1, hI.2.2.2.2.2.1, hI.2.2.2.2.2.2.1, fun _ h => by cases h⟩
  rcases hv with ⟨y, rfl, hy, hin⟩ | ⟨y, rfl, hy, hin⟩ | ⟨rfl, hy, hin⟩
  · rcases hy with hy | ⟨hy, hz⟩
    · exact W.iret (v := y) hx hb (by rw [hr, hy]) (fun t ht hW => ⟨some (.int y), h, rfl, hQ, hq t ht⟩) hI.2.2.2.2.2.2.2 hin hlocks
    · exact W.zret (v := y) (ty := .boolean) hx hb (by rw [hr, hy]) (ms_rt_narrow hz) (fun t ht hW => ⟨some (.int y), h, rfl, hQ, hq t ht⟩) hI.2.2.2.2.2.2.2 hin hlocks
  · exact W.lret (v := y) hx hb (by rw [hr, hy]) (fun t ht hW => ⟨some (.long y), h, rfl, hQ, hq t ht⟩) hI.2.2.2.2.2.2.2 hin hlocks
  · exact W.vret hx hb (by rw [hr, hy]) (fun t ht hW => ⟨none, h, rfl, hQ, hq t ht⟩) hI.2.2.2.2.2.2.2 hin hlocks
theorem ms_run {p : Program} {e : Env} {R : Room} {s : State} {m : MethodId} {args : Array Value} {below : List Frame} {meth : Method} {c : Code} {Qf : State → Prop} {id d : Nat} (hC : ms_Cx p R s m args meth c D cA x adV B L xs id d) {C : Nat → List Value → ma_H → ma_P → Prop} (hCal : ms_Cal l D cA x adV B L xs d C) {Q : ma_P} (hQ : ms_Ret p l e R s m args below meth c Qf D cA x B L xs id Q) {pc : Nat} {ls : ma_L} {st : List Value} {h : ma_H} {kc ks : Nat} (hw : ma_WP C id Q pc ls st h kc ks) : ms_R p l e R s m args below meth c Qf D cA x B L xs id pc ls st h kc ks :=
  hw (ms_R p l e R s m args below meth c Qf D cA x B L xs id) (fun _ _ _ _ _ _ ⟨_, _, h1, h2⟩ => ms_step hC hCal hQ (fun _ _ _ _ _ _ h => h) (ms_dec h1) h2)
theorem ms_all (hS : ms_Str l D cA x adV B L xs) : ∀ d, ms_Cal l D cA x adV B L xs d (ma_MW d)
  | 0 => fun _ _ _ _ h => h.elim
  | d + 1 => by
    intro ia av h P hw
    rcases hw with ⟨hid, hlen, hw⟩ | ⟨hd, ⟨rfl, i, hi, rfl, hP⟩ | ⟨rfl, i, j, hi, hj, rfl, hP⟩⟩
    · refine ⟨by omega, by omega, ?_⟩
      refine Met.ofW (cc := ma_by ia) (maxL := ma_ml ia) (ret := ma_rt ia) (mb_meth2 _ (ms_qmem ia)).1 rfl ?_
      intro p e s m args below meth c s₁ BB hml hv
      obtain ⟨rfl, hX, hE, hI⟩ := hv
      have hts := atoms_spec (ws := ms_ws ia) BB.pre
      have hC : ms_Cx p (headSpec (ms_ws ia) (ms_rm (d + 1) ia)).room s m (av.map (ms_v (ms_ad x B))).toArray meth c D cA x adV B L xs ia d := by
        refine ⟨BB.exec, BB.bytes, hml, ?_, fun w hw => hts w (List.mem_cons_of_mem _ hw), hX, hE, fun hn => ?_, rfl, rfl, Nat.le_refl _, ?_⟩
        · have := findClass_of_methodNamed BB.named
          rw [ms_on (mb_onm ia (by omega))]
          exact this
        · rw [(name_of_methodNamed BB.named BB.method).1]; exact hn
        · show 40 * d + 40 ≤ 40 * (d + 1); omega
      have hr := ms_run (e := e) (below := below) hC (ms_all hS d) (ms_ret (e := e) (below := below) BB.exec BB.bytes BB.returns BB.notSynchronized) hw
      rw [lg_entry_eq]
      exact hr s.heap [] _ (ms_L_entry _ hlen) hI (Nat.zero_le _) (Nat.zero_le _)
    · exact ⟨by omega, by omega, (hS d hd h P i hi).1 hP⟩
    · exact ⟨by omega, by omega, (hS d hd h P i hi).2 j hj hP⟩
end AL

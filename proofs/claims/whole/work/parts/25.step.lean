/-! each instruction of the machine is the abstract one -/
section SP
variable {p : Program} {l : Launch} {e : Env} {R : Room} {s : State} {m : MethodId} {args : Array Value} {below : List Frame} {meth : Method} {c : Code} {Qf : State → Prop} {D : va_G} {cA : FieldType → ClassId} {x adV : Nat → Nat} {B L : Nat} {xs : Nat → Int32} {id d : Nat}
def ms_Ret (p : Program) (l : Launch) (e : Env) (R : Room) (s : State) (m : MethodId) (args : Array Value) (below : List Frame) (meth : Method) (c : Code) (Qf : State → Prop) (D : va_G) (cA : FieldType → ClassId) (x : Nat → Nat) (B L : Nat) (xs : Nat → Int32) (id : Nat) (Q : ma_P) : Prop :=
  ∀ (v : Option Value) (h : ma_H) (H : Heap) (locs : List Loc) (lr : Array Slot) (pc kc ks : Nat), Q v h → ms_I D cA x B L xs s.heap h H locs → kc ≤ ma_mc id → ks ≤ ma_ms id →
    ((∃ y, v = some (.int y) ∧ (ma_rt id = some .int ∨ ma_rt id = some .boolean ∧ (y = 0 ∨ y = 1)) ∧ decode (ma_by id) pc = .ok (.ireturn, 1)) ∨ (∃ y, v = some (.long y) ∧ ma_rt id = some .long ∧ decode (ma_by id) pc = .ok (.lreturn, 1)) ∨ (v = none ∧ ma_rt id = none ∧ decode (ma_by id) pc = .ok (.return_, 1))) →
    W p l e R s m args below meth c H locs kc ks Qf (F0 m pc lr v.toList)
def ms_Cal (l : Launch) (D : va_G) (cA : FieldType → ClassId) (x adV : Nat → Nat) (B L : Nat) (xs : Nat → Int32) (d : Nat) (C : Nat → List Value → ma_H → ma_P → Prop) : Prop := ∀ (ia : Nat) (av : List Value) (h : ma_H) (P : ma_P), C ia av h P → ia < 215 ∧ ia ≠ 212 ∧ ms_met l D cA x adV B L xs d ia av h P
theorem ms_arrK (hX : ms_X D cA x s) {t : FieldType} (ht : t = .int ∨ t = .byte ∨ t = .boolean ∨ t = .object "BeggarPile$Table" ∨ t = .object "BeggarPile$Game") : ArrOfT s (cA t) t ∧ va_RA s (cA t) t := by
  rcases ht with rfl | rfl | rfl | rfl | rfl
  · exact hX.1.2 0 _ rfl
  · exact hX.1.2 1 _ rfl
  · exact hX.1.2 2 _ rfl
  · exact hX.1.2 3 _ rfl
  · exact hX.1.2 4 _ rfl
theorem ms_F {ci : Nat} (h : ci < 9) : mb_cl[ci]? = some ((ma_F ci).1, (ma_F ci).2.1, (ma_F ci).2.2) := by
  unfold ma_F
  rw [List.getElem?_eq_getElem (show ci < mb_cl.length from h)]
  rfl
theorem ms_Fe {ci : Nat} {q : vw_C} (h : mb_cl[ci]? = some q) : ma_F ci = q := by unfold ma_F; rw [h]; rfl
theorem ms_own (hC : ms_Cx p R s m args meth c D cA x adV B L xs id d) {w : Cond} (h : w ∈ ms_G) : w.before args s = true := hC.2.2.2.2.1 w h
/-- a call into a method: static -/
theorem ms_stat (hC : ms_Cx p R s m args meth c D cA x adV B L xs id d) {ix ia n p1 p2 p3 cn k : Nat} (hq : (ma_ow id, ix, k, ia, n, cn, p1, p2, p3) ∈ mb_ca) (hk : k = 1 ∨ k = 3) (hia : ia < 215) (hia2 : ia ≠ 212) {av r : List Value} (hn : av.length = n) {h : ma_H} {P : ma_P} (hM : ms_met l D cA x adV B L xs d ia av h P)
    {H : Heap} {locs : List Loc} {lr : Array Slot} {kc ks pc : Nat} {ls : ma_L} (hL : ms_L (ms_ad x B) (ma_ml id) ls lr) (hI : ms_I D cA x B L xs s.heap h H locs) (hr : ma_cat r ≤ 8) (h1 : kc + ma_mc ia ≤ ma_mc id) (h2 : ks + ma_ms ia ≤ ma_ms id) (hin : decode (ma_by id) pc = .ok (.invokestatic ix, 3)) :
    va_Run p l e R s m args below meth c H locs kc ks (ma_mc ia) (ma_ms ia) (F0 m pc lr ((av.reverse ++ r).map (ms_v (ms_ad x B)))) (r.map (ms_v (ms_ad x B))) (ms_Qc D cA x B L xs P (av.map (ms_v (ms_ad x B))).toArray) (fun q => B ≤ q) := by
  obtain ⟨hx, hb, hml, hown, hts, hX, hE, -, hRc, hRs, hRf, hRl⟩ := hC
  have hm2 := mb_meth2 _ (ms_qmem ia)
  have hRR : (ms_rm d ia).frames + 1 ≤ R.frames ∧ 8 + (ma_ml ia + 11) + (ms_rm d ia).locals ≤ R.locals := by
    have h21 : ma_ml ia ≤ 21 := hm2.2.2.2.1
    exact ⟨hRf, by show 8 + (ma_ml ia + 11) + 40 * d ≤ R.locals; omega⟩
  have hlenA : (av.map (ms_v (ms_ad x B))).length = n := by rw [List.length_map]; exact hn
  have hst : (F0 m pc lr ((av.reverse ++ r).map (ms_v (ms_ad x B)))).stack = (av.map (ms_v (ms_ad x B))).reverse ++ r.map (ms_v (ms_ad x B)) := by
    show (av.reverse ++ r).map _ = _
    rw [List.map_append, List.map_reverse]
  have hfit : kc + ma_mc ia ≤ R.cells ∧ ks + ma_ms ia ≤ R.slots := ⟨by rw [hRc]; exact h1, by rw [hRs]; exact h2⟩
  have hroom : 2 * (F0 m pc lr ((av.reverse ++ r).map (ms_v (ms_ad x B)))).monitorRoom + ((r.map (ms_v (ms_ad x B))).map fun v => v.category).sum ≤ 8 := lv_room (by rw [ms_cat_eq]; exact hr)
  rcases hk with rfl | rfl
  · have hq1 := mb_k1 _ hq rfl
    simp only [ms_k1, Bool.and_eq_true, decide_eq_true_eq] at hq1
    obtain ⟨⟨w1, w2⟩, w3⟩ := hq1
    exact va_runS ⟨hx, hb, hml, hown, hts⟩ hM ⟨callB_of n hts (ms_good hia hia2) rfl rfl rfl (hts _ (ms_inid hia)) (hts _ (ms_g _ w1 rfl)) ⟨hm2.2.1, hm2.2.2.1, w3⟩ hRR, hts _ (ms_g _ w2 rfl)⟩ ⟨ms_blind, ms_pre hX hE hI av⟩ rfl hlenA hL.2.1 hst hroom hin hfit
  · have hq1 := mb_k3 _ hq rfl
    simp only [ms_k3, Bool.and_eq_true, decide_eq_true_eq] at hq1
    obtain ⟨⟨w1, w2⟩, w3⟩ := hq1
    have hn9 : va_Nw (.methodLinkNest (ma_on id) ix (ma_y ia) "BeggarPile") s := hX.2.1 (ma_ow id, ix, 3, ia, n, cn, p1, p2, p3) hq (Or.inl rfl)
    exact va_runSN (host := "BeggarPile") (own := ma_on id) (bytes := ma_by ia) (maxL := ma_ml ia) (ret := ma_rt ia) ⟨hx, hb, hml, hown, hts⟩ hM ⟨va_cnB n hts (ms_good hia hia2) rfl rfl rfl hn9 (hts _ (ms_inid hia)) ⟨hm2.2.1, hm2.2.2.1, w3⟩ hRR, hts _ (ms_g _ w2 rfl), trivial⟩ ⟨ms_blind, ms_pre hX hE hI av⟩ rfl hlenA hL.2.1 hst hroom hin hfit
theorem ms_split {av : List Value} {b : Nat} (h : av.head? = some (.ref b)) : ∃ av', av = .ref b :: av' := by
  cases av with
  | nil => cases h
  | cons v av' => cases h; exact ⟨av', rfl⟩
theorem ms_inst (hC : ms_Cx p R s m args meth c D cA x adV B L xs id d) {ix ia n p1 p2 p3 cn k : Nat} (hq : (ma_ow id, ix, k, ia, n, cn, p1, p2, p3) ∈ mb_ca) (hk : k = 2 ∨ k = 4) (hia : ia < 215) (hia2 : ia ≠ 212) {b : Nat} {av r : List Value} (hn : (Value.ref b :: av).length = n) {h : ma_H} {P : ma_P} (hM : ms_met l D cA x adV B L xs d ia (.ref b :: av) h P)
    {H : Heap} {locs : List Loc} {lr : Array Slot} {kc ks pc : Nat} {ls : ma_L} (hL : ms_L (ms_ad x B) (ma_ml id) ls lr) (hI : ms_I D cA x B L xs s.heap h H locs) (hr : ma_cat r ≤ 8) (h1 : kc + ma_mc ia ≤ ma_mc id) (h2 : ks + ma_ms ia ≤ ma_ms id) (hin : decode (ma_by id) pc = .ok (.invokespecial ix, 3)) :
    va_Run p l e R s m args below meth c H locs kc ks (ma_mc ia) (ma_ms ia) (F0 m pc lr (((Value.ref b :: av).reverse ++ r).map (ms_v (ms_ad x B)))) (r.map (ms_v (ms_ad x B))) (ms_Qc D cA x B L xs P ((Value.ref b :: av).map (ms_v (ms_ad x B))).toArray) (fun q => B ≤ q) := by
  obtain ⟨hx, hb, hml, hown, hts, hX, hE, -, hRc, hRs, hRf, hRl⟩ := hC
  have hm2 := mb_meth2 _ (ms_qmem ia)
  have hRR : (ms_rm d ia).frames + 1 ≤ R.frames ∧ 8 + (ma_ml ia + 11) + (ms_rm d ia).locals ≤ R.locals := by
    have h21 : ma_ml ia ≤ 21 := hm2.2.2.2.1
    exact ⟨hRf, by show 8 + (ma_ml ia + 11) + 40 * d ≤ R.locals; omega⟩
  have hlenA : (av.map (ms_v (ms_ad x B))).length = n - 1 := by rw [List.length_map, ← hn]; rfl
  have hst : (F0 m pc lr (((Value.ref b :: av).reverse ++ r).map (ms_v (ms_ad x B)))).stack = (av.map (ms_v (ms_ad x B))).reverse ++ .ref (ms_ad x B b) :: r.map (ms_v (ms_ad x B)) := by
    show ((Value.ref b :: av).reverse ++ r).map _ = _
    rw [List.reverse_cons, List.append_assoc, List.map_append, List.map_reverse]
    rfl
  have hfit : kc + ma_mc ia ≤ R.cells ∧ ks + ma_ms ia ≤ R.slots := ⟨by rw [hRc]; exact h1, by rw [hRs]; exact h2⟩
  have hroom : 2 * (F0 m pc lr (((Value.ref b :: av).reverse ++ r).map (ms_v (ms_ad x B)))).monitorRoom + ((r.map (ms_v (ms_ad x B))).map fun v => v.category).sum ≤ 8 := lv_room (by rw [ms_cat_eq]; exact hr)
  rcases hk with rfl | rfl
  · have hq1 := mb_k2 _ hq rfl
    simp only [ms_k2, Bool.and_eq_true, decide_eq_true_eq] at hq1
    obtain ⟨⟨⟨⟨⟨w1, w2⟩, w3⟩, w4⟩, w5⟩, w6⟩ := hq1
    exact va_runI ⟨hx, hb, hml, hown, hts⟩ hM ⟨callB_of (n - 1) hts (ms_good hia hia2) (by unfold ms_ws; rw [w6]) rfl rfl (hts _ (ms_inid hia)) (hts _ (ms_g _ w1 rfl)) ⟨hm2.2.1, hm2.2.2.1, w3⟩ hRR, w5, hts _ (ms_g _ w2 rfl)⟩ ⟨ms_blind, ms_pre hX hE hI (.ref b :: av)⟩ rfl hlenA hL.2.1 hst hroom hin hfit
  · have hq1 := mb_k4 _ hq rfl
    simp only [ms_k4, Bool.and_eq_true, decide_eq_true_eq] at hq1
    obtain ⟨⟨⟨⟨⟨w1, w2⟩, w3⟩, w4⟩, w5⟩, w6⟩ := hq1
    have hn9 : va_Nw (.methodLinkNest (ma_on id) ix (ma_y ia) "BeggarPile") s := hX.2.1 (ma_ow id, ix, 4, ia, n, cn, p1, p2, p3) hq (Or.inr rfl)
    exact va_runIN (host := "BeggarPile") (own := ma_on id) (bytes := ma_by ia) (maxL := ma_ml ia) ⟨hx, hb, hml, hown, hts⟩ hM ⟨va_cnB (n - 1) hts (ms_good hia hia2) (by unfold ms_ws; rw [w6]) rfl rfl hn9 (hts _ (ms_inid hia)) ⟨hm2.2.1, hm2.2.2.1, w3⟩ hRR, w5, hts _ (ms_g _ w2 rfl)⟩ ⟨ms_blind, ms_pre hX hE hI (.ref b :: av)⟩ rfl hlenA hL.2.1 hst hroom hin hfit
theorem ms_virt (hC : ms_Cx p R s m args meth c D cA x adV B L xs id d) {ix ia n p1 p2 p3 cn : Nat} (hq : (ma_ow id, ix, 0, ia, n, cn, p1, p2, p3) ∈ mb_ca) (hia : ia < 215) (hia2 : ia ≠ 212) {b : Nat} {av r : List Value} (hn : (Value.ref b :: av).length = n) {h : ma_H} {P : ma_P} (hM : ms_met l D cA x adV B L xs d ia (.ref b :: av) h P) {fs : List Value} (hb0 : h.1 b = .inr (cn, fs))
    {H : Heap} {locs : List Loc} {lr : Array Slot} {kc ks pc : Nat} {ls : ma_L} (hL : ms_L (ms_ad x B) (ma_ml id) ls lr) (hI : ms_I D cA x B L xs s.heap h H locs) (hr : ma_cat r ≤ 8) (h1 : kc + ma_mc ia ≤ ma_mc id) (h2 : ks + ma_ms ia ≤ ma_ms id) (hin : decode (ma_by id) pc = .ok (.invokevirtual ix, 3)) :
    va_Run p l e R s m args below meth c H locs kc ks (ma_mc ia) (ma_ms ia) (F0 m pc lr (((Value.ref b :: av).reverse ++ r).map (ms_v (ms_ad x B)))) (r.map (ms_v (ms_ad x B))) (ms_Qc D cA x B L xs P ((Value.ref b :: av).map (ms_v (ms_ad x B))).toArray) (fun q => B ≤ q) := by
  obtain ⟨hx, hb, hml, hown, hts, hX, hE, -, hRc, hRs, hRf, hRl⟩ := hC
  have hm2 := mb_meth2 _ (ms_qmem ia)
  have hRR : (ms_rm d ia).frames + 1 ≤ R.frames ∧ 8 + (ma_ml ia + 11) + (ms_rm d ia).locals ≤ R.locals := by
    have h21 : ma_ml ia ≤ 21 := hm2.2.2.2.1
    exact ⟨hRf, by show 8 + (ma_ml ia + 11) + 40 * d ≤ R.locals; omega⟩
  have hlenA : (av.map (ms_v (ms_ad x B))).length = n - 1 := by rw [List.length_map, ← hn]; rfl
  have hst : (F0 m pc lr (((Value.ref b :: av).reverse ++ r).map (ms_v (ms_ad x B)))).stack = (av.map (ms_v (ms_ad x B))).reverse ++ .ref (ms_ad x B b) :: r.map (ms_v (ms_ad x B)) := by
    show ((Value.ref b :: av).reverse ++ r).map _ = _
    rw [List.reverse_cons, List.append_assoc, List.map_append, List.map_reverse]
    rfl
  have hfit : kc + ma_mc ia ≤ R.cells ∧ ks + ma_ms ia ≤ R.slots := ⟨by rw [hRc]; exact h1, by rw [hRs]; exact h2⟩
  have hroom : 2 * (F0 m pc lr (((Value.ref b :: av).reverse ++ r).map (ms_v (ms_ad x B)))).monitorRoom + ((r.map (ms_v (ms_ad x B))).map fun v => v.category).sum ≤ 8 := lv_room (by rw [ms_cat_eq]; exact hr)
  have hq1 := mb_k0 _ hq rfl
  simp only [ms_k0, Bool.and_eq_true, Bool.or_eq_true, decide_eq_true_eq] at hq1
  obtain ⟨⟨⟨⟨⟨w1, w2⟩, w3⟩, w4⟩, w5⟩, w6⟩ := hq1
  have hrecv : ∃ cellB : Cell, H[ms_ad x B b]? = some cellB ∧ cellB.vm.isStatics = false ∧ s.vm.findClass (ma_y ia).cls = some cellB.cls := by
    rcases w6 with ⟨w6, w7⟩ | ⟨w6, w7⟩
    · subst w6
      have hb4 : 1 ≤ b ∧ b < 4 := by
        obtain ⟨h4, hsz, hat, g0, g1, g2, -, -⟩ := hI
        refine ⟨?_, ?_⟩
        · rcases Nat.eq_zero_or_pos b with z | z
          · subst z; rw [g0] at hb0; cases hb0
          · exact z
        · rcases Nat.lt_or_ge b 4 with z | z
          · exact z
          · rcases Nat.lt_or_ge b h.2 with z2 | z2
            · have := hat b z z2
              rw [hb0] at this
              obtain ⟨r, hr, -⟩ := this
              simp [mb_cl] at hr
            · rw [g2 b z2] at hb0; cases hb0
      obtain ⟨cell, g1, g2, g3, g4⟩ := (hE.1.1 (b - 1) (by omega)).1
      have hbx : ms_ad x B b = x (b - 1 + 1) := by unfold ms_ad; rw [if_pos hb4.2, show b - 1 + 1 = b by omega]
      refine ⟨cell, ?_, g2, by rw [w7]; exact g3⟩
      rw [hbx, hI.2.2.2.2.2.2.1 _ (Nat.lt_of_not_le g4)]
      exact g1
    · obtain ⟨g1, g2, g3⟩ := hI.obj hb0 w6
      have hcl := ms_F w6
      rw [hcl] at w7
      simp only [Option.map_some, Option.some.injEq] at w7
      have := va_recv (ws := [(ms_ad x B b, .inr (cn, fs.map (ms_v (ms_ad x B))))]) (q0 := 0) hX.1 (fun k q hq => by
        have hz : k < 1 := (List.getElem?_eq_some_iff.mp hq).1
        rw [show k = 0 by omega] at hq
        cases hq
        exact g3) hcl rfl
      rw [← w7]
      exact this
  exact va_runV ⟨hx, hb, hml, hown, hts⟩ hM ⟨callB_of (n - 1) hts (ms_good hia hia2) rfl rfl rfl (hts _ (ms_inid hia)) (hts _ (ms_g _ w1 rfl)) ⟨hm2.2.1, hm2.2.2.1, w4⟩ hRR, hts _ (ms_g _ w2 rfl), hts _ (ms_g _ w3 rfl)⟩ ⟨ms_blind, hrecv, ms_pre hX hE hI (.ref b :: av)⟩ rfl hlenA hL.2.1 hst hroom hin hfit
end SP

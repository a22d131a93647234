/-! both together: each call answers alike, and both pictures are of one state -/
def lS (L : Nat) (xs : Nat → Int32) (H : ma_H) : Prop := ∃ g i0 i1 tx ab bl c0 c1 c2, sOK g i0 i1 tx ∧ cP H g i0 i1 tx ab bl c0 c1 c2 ∧ oP H g i0 i1 tx ab bl c0 c1 c2 ∧ H.1 0 = arI L xs
def zI (L : Nat) (xs : Nat → Int32) (id : Nat) (av : List Value) : ma_P := fun r H1 => ∃ v : Int32, r = some (.int v) ∧ H1.1 0 = arI L xs ∧ (∃ fs, H1.1 36 = .inr (8, fs)) ∧ ma_MW 12 id av H1 (fun r' H2 => r' = some (.int v) ∧ lS L xs H2)
def zL (L : Nat) (xs : Nat → Int32) (id : Nat) (av : List Value) : ma_P := fun r H1 => ∃ v : Int64, r = some (.long v) ∧ H1.1 0 = arI L xs ∧ (∃ fs, H1.1 36 = .inr (8, fs)) ∧ ma_MW 12 id av H1 (fun r' H2 => r' = some (.long v) ∧ lS L xs H2)
theorem gOK_new {t : ga_T} (hok : ga_ok t) (hm : gmv t ≤ 9999) : gOK (t, [], [], []) := ⟨hok, hm, Nat.zero_le _, (fun _ h => absurd h List.not_mem_nil), ⟨Nat.zero_le _, (fun _ h => absurd h List.not_mem_nil)⟩, ⟨Nat.zero_le _, (fun _ h => absurd h List.not_mem_nil)⟩⟩
section ZA
variable {L : Nat} {xs : Nat → Int32} {H H1 H2 : ma_H} {g g' : gG} {i0 i1 i0' i1' : Option gG} {tx tx' : List Nat} {ab bl ab' bl' : Int64} {c0 c1 c2 c0' c1' c2' : Int32}
theorem zI_mk {v : Int32} {id : Nat} {av : List Value} (hM : oP H g i0 i1 tx ab bl c0 c1 c2) (h0 : H.1 0 = arI L xs) (f1 : cF H H1) (hm : ma_MW 12 id av H1 (fun r' H2 => r' = some (.int v) ∧ lS L xs H2)) : zI L xs id av (some (.int v)) H1 := by
  obtain ⟨po, ta, tk, nu, wo, it, h36⟩ := oP_cl (oP_cF hM f1)
  exact ⟨v, rfl, (f1.2 0 (by omega)).trans h0, ⟨_, h36⟩, hm⟩
theorem zL_mk {v : Int64} {id : Nat} {av : List Value} (hM : oP H g i0 i1 tx ab bl c0 c1 c2) (h0 : H.1 0 = arI L xs) (f1 : cF H H1) (hm : ma_MW 12 id av H1 (fun r' H2 => r' = some (.long v) ∧ lS L xs H2)) : zL L xs id av (some (.long v)) H1 := by
  obtain ⟨po, ta, tk, nu, wo, it, h36⟩ := oP_cl (oP_cF hM f1)
  exact ⟨v, rfl, (f1.2 0 (by omega)).trans h0, ⟨_, h36⟩, hm⟩
theorem zE {w : Value} (hO : sOK g' i0' i1' tx') (p1 : cP H1 g' i0' i1' tx' ab' bl' c0' c1' c2') (q2 : oP H2 g' i0' i1' tx' ab' bl' c0' c1' c2') (f2 : fr H1 H2 36 46) (h0 : H.1 0 = arI L xs) (f1 : cF H H1) : some w = some w ∧ lS L xs H2 :=
  ⟨rfl, _, _, _, _, _, _, _, _, _, hO, cP_fr p1 f2, q2, (f2.2 0 (by omega)).trans ((f1.2 0 (by omega)).trans h0)⟩
theorem sOK_g (hO : sOK g i0 i1 tx) (h : gOK g') : sOK g' i0 i1 tx := ⟨h, hO.2⟩
theorem sOK_t (hO : sOK g i0 i1 tx) (h : txOK tx') : sOK g i0 i1 tx' := ⟨hO.1, hO.2.1, hO.2.2.1, h⟩
theorem kd6 (h : gOK g) : g.1.1 < 6 ∧ g.1.2.1 < 6 := by
  have := h.1
  obtain ⟨⟨kz, ko, hz, ho, pl, tu, db, mv, tz, to⟩, r⟩ := g
  exact ⟨this.1, this.2.1⟩
theorem z_game {x y : Int32} (hl : lS L xs H) : ma_MW 12 78 [.ref 4, .int x, .int y] H (zI L xs 134 [.ref 36, .int x, .int y]) := by
  obtain ⟨g, i0, i1, tx, ab, bl, c0, c1, c2, hO, hP, hM, h0⟩ := hl
  refine c_game hO hP (fun hn H1 p1 f1 => zI_mk hM h0 f1 (m_game_b hn (oP_cF hM f1) (fun H2 q2 f2 => zE hO p1 q2 f2 h0 f1))) (fun a b ha hb ea eb H1 p1 f1 => ?_)
  subst ea eb
  exact zI_mk hM h0 f1 (m_game ha hb (oP_cF hM f1) (fun H2 q2 f2 => zE (sOK_g hO (gOK_new (ok_new ha hb) (Nat.zero_le _))) p1 q2 f2 h0 f1))
theorem gOK_noh {t : ga_T} (h : gOK g) (hok : ga_ok t) (hm : gmv t ≤ 9999) : gOK (t, [], g.2.2) := ⟨hok, hm, Nat.zero_le _, (fun _ h => absurd h List.not_mem_nil), h.2.2.2.2⟩
theorem z_player {x y : Int32} (hl : lS L xs H) : ma_MW 12 79 [.ref 4, .int x, .int y] H (zI L xs 135 [.ref 36, .int x, .int y]) := by
  obtain ⟨g, i0, i1, tx, ab, bl, c0, c1, c2, hO, hP, hM, h0⟩ := hl
  refine c_player hP (fun hn H1 p1 f1 => zI_mk hM h0 f1 (m_player_b hn (oP_cF hM f1) (fun H2 q2 f2 => zE hO p1 q2 f2 h0 f1))) (fun a b ha hb ea eb H1 p1 f1 => ?_)
  subst ea eb
  have k6 := kd6 hO.1
  have hg : gOK (gkinds g.1 (if a = 0 then b else g.1.1) (if a = 0 then g.1.2.1 else b), [], g.2.2) := gOK_noh hO.1 (ok_kinds hO.1.1 (by split <;> omega) (by split <;> omega)) hO.1.2.1
  exact zI_mk hM h0 f1 (m_player ha hb hO (oP_cF hM f1) (fun H2 q2 f2 => zE (sOK_g hO hg) p1 q2 f2 h0 f1))
theorem z_deals {x y : Int32} (hl : lS L xs H) : ma_MW 12 80 [.ref 4, .int x, .int y] H (zI L xs 137 [.ref 36, .int x, .int y]) := by
  obtain ⟨g, i0, i1, tx, ab, bl, c0, c1, c2, hO, hP, hM, h0⟩ := hl
  refine c_deals hO hP (fun hn H1 p1 f1 => zI_mk hM h0 f1 (m_deals_b hn (oP_cF hM f1) (fun H2 q2 f2 => zE hO p1 q2 f2 h0 f1))) (fun a b ha hb ea eb hr H1 p1 f1 => ?_) (fun a b ha hb ea eb hr H1 p1 f1 => ?_)
  · subst ea eb
    exact zI_mk hM h0 f1 (m_deals_f ha hb hr hO (oP_cF hM f1) (fun H2 q2 f2 => zE hO p1 q2 f2 h0 f1))
  · subst ea eb
    exact zI_mk hM h0 f1 (m_deals ha hb hr hO (oP_cF hM f1) (fun H2 q2 f2 => zE (sOK_g hO (gOK_noh hO.1 (ok_deal ha hb hO.1.1 hr) (by rw [gmv_deal]; exact hO.1.2.1))) p1 q2 f2 h0 f1))
theorem z_type {x : Int32} (hl : lS L xs H) : ma_MW 12 81 [.ref 4, .int x] H (zI L xs 138 [.ref 36, .int x]) := by
  obtain ⟨g, i0, i1, tx, ab, bl, c0, c1, c2, hO, hP, hM, h0⟩ := hl
  refine c_type hO hP (fun hn H1 p1 f1 => zI_mk hM h0 f1 (m_type_b hn (oP_cF hM f1) (fun H2 q2 f2 => zE hO p1 q2 f2 h0 f1))) (fun a ha ea hr H1 p1 f1 => ?_) (fun a ha ea hr H1 p1 f1 => ?_)
  · subst ea
    exact zI_mk hM h0 f1 (m_type_f ha hr (oP_cF hM f1) (fun H2 q2 f2 => zE hO p1 q2 f2 h0 f1))
  · subst ea
    have htx : txOK (tx ++ [a]) := ⟨by rw [List.length_append]; exact hr, fun c hc => by
      rcases List.mem_append.mp hc with z | z
      · exact hO.2.2.2.2 c z
      · rw [List.mem_singleton] at z; rw [z]; exact ha⟩
    exact zI_mk hM h0 f1 (m_type ha hr (oP_cF hM f1) (fun H2 q2 f2 => zE (sOK_t hO htx) p1 q2 f2 h0 f1))
theorem z_clear (hl : lS L xs H) : ma_MW 12 82 [.ref 4] H (zI L xs 139 [.ref 36]) := by
  obtain ⟨g, i0, i1, tx, ab, bl, c0, c1, c2, hO, hP, hM, h0⟩ := hl
  exact c_clear hP (fun H1 p1 f1 => zI_mk hM h0 f1 (m_clear (oP_cF hM f1) (fun H2 q2 f2 => zE (sOK_t hO ⟨Nat.zero_le _, (fun _ h => absurd h List.not_mem_nil)⟩) p1 q2 f2 h0 f1)))
theorem z_read (hl : lS L xs H) : ma_MW 12 83 [.ref 4] H (zI L xs 148 [.ref 36]) := by
  obtain ⟨g, i0, i1, tx, ab, bl, c0, c1, c2, hO, hP, hM, h0⟩ := hl
  refine c_read hO hP (fun s hs e H1 p1 f1 => zI_mk hM h0 f1 (m_read_f e hO.2.2.2 (oP_cF hM f1) (fun H2 q2 f2 => zE hO p1 q2 f2 h0 f1))) (fun n t hn e hok hmv H1 p1 f1 => zI_mk hM h0 f1 (m_read e hO.2.2.2 hok (oP_cF hM f1) (fun H2 q2 f2 => zE (sOK_g hO (gOK_new hok hmv)) p1 q2 f2 h0 f1)))
theorem z_lays {x : Int32} (hl : lS L xs H) : ma_MW 12 84 [.ref 4, .int x] H (zI L xs 155 [.ref 36, .int x]) := by
  obtain ⟨g, i0, i1, tx, ab, bl, c0, c1, c2, hO, hP, hM, h0⟩ := hl
  refine c_lays hO hP (fun hn H1 p1 f1 => zI_mk hM h0 f1 (m_lays_b hn (oP_cF hM f1) (fun H2 q2 f2 => zE hO p1 q2 f2 h0 f1))) (fun a a1 a2 ea hm H1 p1 f1 => ?_) (fun a m a1 a2 ea hm hu H1 p1 f1 => ?_)
  · subst ea
    exact zI_mk hM h0 f1 (m_lays_n a1 a2 hm hO (oP_cF hM f1) (fun H2 q2 f2 => zE hO p1 q2 f2 h0 f1))
  · subst ea
    have hg : gOK (git m g.1, gpush g.2.1 g.1, g.2.2) := gOK_tab (g := (g.1, gpush g.2.1 g.1, g.2.2)) (gOK_push hO.1) (ok_git hO.1.1 m) (gmv_upto hu hO.1.2.1 m (Nat.le_refl _)) (gkind_git g.1 m).1 (gkind_git g.1 m).2
    exact zI_mk hM h0 f1 (m_lays a1 a2 hm hu hO (oP_cF hM f1) (fun H2 q2 f2 => zE (sOK_g hO hg) p1 q2 f2 h0 f1))
theorem gexch_k {t : ga_T} {x y : Nat} : (gexch t x y).1 = t.1 ∧ (gexch t x y).2.1 = t.2.1 := by
  obtain ⟨kz, ko, hz, ho, pl, tu, db, mv, tz, to⟩ := t; exact ⟨rfl, rfl⟩
theorem z_exchanges {x y : Int32} (hl : lS L xs H) : ma_MW 12 85 [.ref 4, .int x, .int y] H (zI L xs 157 [.ref 36, .int x, .int y]) := by
  obtain ⟨g, i0, i1, tx, ab, bl, c0, c1, c2, hO, hP, hM, h0⟩ := hl
  refine c_exchanges hO hP (fun hn H1 p1 f1 => zI_mk hM h0 f1 (m_exchanges_b hn hO (oP_cF hM f1) (fun H2 q2 f2 => zE hO p1 q2 f2 h0 f1))) (fun a b ha hb ea eb H1 p1 f1 => ?_)
  subst ea eb
  have hx := ha
  have hy := hb
  rw [ghand_0] at hx
  rw [ghand_1] at hy
  have hg : gOK (gexch g.1 a b, gpush g.2.1 g.1, g.2.2) := gOK_tab (g := (g.1, gpush g.2.1 g.1, g.2.2)) (gOK_push hO.1) (ok_exch hO.1.1 hx hy) (by rw [gmv_exch]; exact hO.1.2.1) gexch_k.1 gexch_k.2
  exact zI_mk hM h0 f1 (m_exchanges ha hb hO (oP_cF hM f1) (fun H2 q2 f2 => zE (sOK_g hO hg) p1 q2 f2 h0 f1))
theorem z_undo (hl : lS L xs H) : ma_MW 12 86 [.ref 4] H (zI L xs 158 [.ref 36]) := by
  obtain ⟨g, i0, i1, tx, ab, bl, c0, c1, c2, hO, hP, hM, h0⟩ := hl
  refine c_undo hO hP (fun hn H1 p1 f1 => zI_mk hM h0 f1 (m_undo_n hn (oP_cF hM f1) (fun H2 q2 f2 => zE hO p1 q2 f2 h0 f1))) (fun hne H1 p1 f1 => ?_)
  obtain ⟨o1, o2, o3, o4, o5⟩ := hO.1
  have hlast := o4 _ (List.getLast_mem hne)
  have hg : gOK (g.2.1.getLast hne, g.2.1.dropLast, g.2.2) := by
    refine ⟨hlast.1, hlast.2.1, by show g.2.1.dropLast.length ≤ 8; rw [List.length_dropLast]; omega, fun t ht => ?_, o5⟩
    have hq := o4 t (List.dropLast_subset _ ht)
    exact ⟨hq.1, hq.2.1, hq.2.2.1.trans hlast.2.2.1.symm, hq.2.2.2.trans hlast.2.2.2.symm⟩
  exact zI_mk hM h0 f1 (m_undo hne hO (oP_cF hM f1) (fun H2 q2 f2 => zE (sOK_g hO hg) p1 q2 f2 h0 f1))
theorem z_card {x y : Int32} (hl : lS L xs H) : ma_MW 12 87 [.ref 4, .int x, .int y] H (zI L xs 159 [.ref 36, .int x, .int y]) := by
  obtain ⟨g, i0, i1, tx, ab, bl, c0, c1, c2, hO, hP, hM, h0⟩ := hl
  refine c_card hO hP (fun hn H1 p1 f1 => zI_mk hM h0 f1 (m_card_b hn hO (oP_cF hM f1) (fun H2 q2 f2 => zE hO p1 q2 f2 h0 f1))) (fun a q ha ea hq eq' => ?_)
  subst ea eq'
  exact zI_mk hM h0 (cF_refl _) (m_card ha hq hO hM (zE hO hP hM (fr_refl _ _ _) h0 (cF_refl _)))
theorem z_behind {x y : Int32} (hl : lS L xs H) : ma_MW 12 88 [.ref 4, .int x, .int y] H (zI L xs 161 [.ref 36, .int x, .int y]) := by
  obtain ⟨g, i0, i1, tx, ab, bl, c0, c1, c2, hO, hP, hM, h0⟩ := hl
  refine c_behind hO hP (fun hn H1 p1 f1 => zI_mk hM h0 f1 (m_behind_b hn (oP_cF hM f1) (fun H2 q2 f2 => zE hO p1 q2 f2 h0 f1))) (fun a b ha hb ea eb H1 p1 f1 => ?_)
  subst ea eb
  exact zI_mk hM h0 f1 (m_behind ha hb hO (oP_cF hM f1) (fun H2 q2 f2 => zE hO p1 q2 f2 h0 f1))
theorem z_won (hl : lS L xs H) : ma_MW 12 89 [.ref 4] H (zI L xs 164 [.ref 36]) := by
  obtain ⟨g, i0, i1, tx, ab, bl, c0, c1, c2, hO, hP, hM, h0⟩ := hl
  exact c_won hO hP (fun H1 p1 f1 => zI_mk hM h0 f1 (m_won hO (oP_cF hM f1) (fun H2 q2 f2 => zE hO p1 q2 f2 h0 f1)))
theorem z_lasts (hl : lS L xs H) : ma_MW 12 90 [.ref 4] H (zI L xs 165 [.ref 36]) := by
  obtain ⟨g, i0, i1, tx, ab, bl, c0, c1, c2, hO, hP, hM, h0⟩ := hl
  exact c_lasts hO hP (fun H1 p1 f1 => zI_mk hM h0 f1 (m_lasts hO (oP_cF hM f1) (fun H2 q2 f2 => zE hO p1 q2 f2 h0 f1)))
theorem z_first {x : Int32} (hl : lS L xs H) : ma_MW 12 91 [.ref 4, .int x] H (zI L xs 166 [.ref 36, .int x]) := by
  obtain ⟨g, i0, i1, tx, ab, bl, c0, c1, c2, hO, hP, hM, h0⟩ := hl
  refine c_first hO hP (fun hn H1 p1 f1 => zI_mk hM h0 f1 (m_first_b hn (oP_cF hM f1) (fun H2 q2 f2 => zE hO p1 q2 f2 h0 f1))) (fun b hb eb H1 p1 f1 => ?_)
  subst eb
  exact zI_mk hM h0 f1 (m_first hb hO (oP_cF hM f1) (fun H2 q2 f2 => zE hO p1 q2 f2 h0 f1))
theorem z_again (hl : lS L xs H) : ma_MW 12 92 [.ref 4] H (zI L xs 168 [.ref 36]) := by
  obtain ⟨g, i0, i1, tx, ab, bl, c0, c1, c2, hO, hP, hM, h0⟩ := hl
  exact c_again hO hP (fun H1 p1 f1 => zI_mk hM h0 f1 (m_again hO (oP_cF hM f1) (fun H2 q2 f2 => zE hO p1 q2 f2 h0 f1)))
theorem z_exchange {x y : Int32} (hl : lS L xs H) : ma_MW 12 93 [.ref 4, .int x, .int y] H (zI L xs 169 [.ref 36, .int x, .int y]) := by
  obtain ⟨g, i0, i1, tx, ab, bl, c0, c1, c2, hO, hP, hM, h0⟩ := hl
  refine c_exchange hO hP (fun hn H1 p1 f1 => zI_mk hM h0 f1 (m_exchange_b hn (oP_cF hM f1) (fun H2 q2 f2 => zE hO p1 q2 f2 h0 f1))) (fun a b ha hb ea eb H1 p1 f1 => ?_)
  subst ea eb
  exact zI_mk hM h0 f1 (m_exchange ha hb hO (oP_cF hM f1) (fun H2 q2 f2 => zE hO p1 q2 f2 h0 f1))
theorem z_cut {x y : Int32} (hl : lS L xs H) : ma_MW 12 94 [.ref 4, .int x, .int y] H (zI L xs 171 [.ref 36, .int x, .int y]) := by
  obtain ⟨g, i0, i1, tx, ab, bl, c0, c1, c2, hO, hP, hM, h0⟩ := hl
  refine c_cut hO hP (fun hn H1 p1 f1 => zI_mk hM h0 f1 (m_cut_b hn (oP_cF hM f1) (fun H2 q2 f2 => zE hO p1 q2 f2 h0 f1))) (fun a b ha hb ea eb H1 p1 f1 => ?_)
  subst ea eb
  exact zI_mk hM h0 f1 (m_cut ha hb hO (oP_cF hM f1) (fun H2 q2 f2 => zE hO p1 q2 f2 h0 f1))
theorem seOK_push {l : List gSe} {e : gSe} (h : seOK l) (hl : l.length < 6) (he : e.1 < 2 ∧ e.2.1 ≤ 16 ∧ e.2.2.1 < e.2.1 ∧ e.2.2.2 < 16) : seOK (l ++ [e]) := ⟨by rw [List.length_append]; exact hl, fun x hx => by
  rcases List.mem_append.mp hx with z | z
  · exact h.2 x z
  · rw [List.mem_singleton] at z; rw [z]; exact he⟩
theorem z_note {x y : Int32} (hl : lS L xs H) : ma_MW 12 95 [.ref 4, .int x, .int y] H (zI L xs 172 [.ref 36, .int x, .int y]) := by
  obtain ⟨g, i0, i1, tx, ab, bl, c0, c1, c2, hO, hP, hM, h0⟩ := hl
  refine c_note hO hP (fun hn H1 p1 f1 => zI_mk hM h0 f1 (m_note_b hn (oP_cF hM f1) (fun H2 q2 f2 => zE hO p1 q2 f2 h0 f1))) (fun a b a1 a2 hb ea eb hl H1 p1 f1 => ?_) (fun a b a1 a2 hb ea eb hl H1 p1 f1 => ?_)
  · subst ea eb
    exact zI_mk hM h0 f1 (m_note_f a1 a2 hb hl (oP_cF hM f1) (fun H2 q2 f2 => zE hO p1 q2 f2 h0 f1))
  · subst ea eb
    have hg : gOK (g.1, g.2.1, g.2.2.1 ++ [(0, a, 0, b)], g.2.2.2) := by
      obtain ⟨o1, o2, o3, o4, o5, o6⟩ := hO.1
      exact ⟨o1, o2, o3, o4, seOK_push o5 hl ⟨(show (0 : Nat) < 2 by decide), a2, by show 0 < a; omega, by show b < 16; omega⟩, o6⟩
    exact zI_mk hM h0 f1 (m_note a1 a2 hb hl hO (oP_cF hM f1) (fun H2 q2 f2 => zE (sOK_g hO hg) p1 q2 f2 h0 f1))
theorem z_mark {x y z w : Int32} (hl : lS L xs H) : ma_MW 12 96 [.ref 4, .int x, .int y, .int z, .int w] H (zI L xs 173 [.ref 36, .int x, .int y, .int z, .int w]) := by
  obtain ⟨g, i0, i1, tx, ab, bl, c0, c1, c2, hO, hP, hM, h0⟩ := hl
  refine c_mark hO hP (fun hn H1 p1 f1 => zI_mk hM h0 f1 (m_mark_b hn (oP_cF hM f1) (fun H2 q2 f2 => zE hO p1 q2 f2 h0 f1))) (fun a b c e ha b1 b2 hc he ea eb ec ee hl H1 p1 f1 => ?_) (fun a b c e ha b1 b2 hc he ea eb ec ee hl H1 p1 f1 => ?_)
  · subst ea eb ec ee
    exact zI_mk hM h0 f1 (m_mark_f ha b1 b2 hc he hl (oP_cF hM f1) (fun H2 q2 f2 => zE hO p1 q2 f2 h0 f1))
  · subst ea eb ec ee
    have hg : gOK (g.1, g.2.1, g.2.2.1, g.2.2.2 ++ [(a, b, c, e)]) := by
      obtain ⟨o1, o2, o3, o4, o5, o6⟩ := hO.1
      exact ⟨o1, o2, o3, o4, o5, seOK_push o6 hl ⟨ha, b2, hc, he⟩⟩
    exact zI_mk hM h0 f1 (m_mark ha b1 b2 hc he hl hO (oP_cF hM f1) (fun H2 q2 f2 => zE (sOK_g hO hg) p1 q2 f2 h0 f1))
theorem z_forget {x : Int32} (hl : lS L xs H) : ma_MW 12 97 [.ref 4, .int x] H (zI L xs 174 [.ref 36, .int x]) := by
  obtain ⟨g, i0, i1, tx, ab, bl, c0, c1, c2, hO, hP, hM, h0⟩ := hl
  obtain ⟨o1, o2, o3, o4, o5, o6⟩ := hO.1
  refine c_forget hO hP (fun hn H1 p1 f1 => zI_mk hM h0 f1 (m_forget_b hn (oP_cF hM f1) (fun H2 q2 f2 => zE hO p1 q2 f2 h0 f1))) (fun e H1 p1 f1 => ?_) (fun e H1 p1 f1 => ?_)
  · subst e
    have hg : gOK (g.1, g.2.1, [], g.2.2.2) := ⟨o1, o2, o3, o4, ⟨Nat.zero_le _, (fun _ h => absurd h List.not_mem_nil)⟩, o6⟩
    exact zI_mk hM h0 f1 (m_forget_0 hO (oP_cF hM f1) (fun H2 q2 f2 => zE (sOK_g hO hg) p1 q2 f2 h0 f1))
  · subst e
    have hg : gOK (g.1, g.2.1, g.2.2.1, []) := ⟨o1, o2, o3, o4, o5, ⟨Nat.zero_le _, (fun _ h => absurd h List.not_mem_nil)⟩⟩
    exact zI_mk hM h0 f1 (m_forget_1 hO (oP_cF hM f1) (fun H2 q2 f2 => zE (sOK_g hO hg) p1 q2 f2 h0 f1))
theorem z_is (hl : lS L xs H) : ma_MW 12 98 [.ref 4] H (zI L xs 178 [.ref 36]) := by
  obtain ⟨g, i0, i1, tx, ab, bl, c0, c1, c2, hO, hP, hM, h0⟩ := hl
  exact c_is hO hP (zI_mk hM h0 (cF_refl _) (m_is hO hM (zE hO hP hM (fr_refl _ _ _) h0 (cF_refl _))))
theorem z_look (hl : lS L xs H) : ma_MW 12 99 [.ref 4] H (zI L xs 179 [.ref 36]) := by
  obtain ⟨g, i0, i1, tx, ab, bl, c0, c1, c2, hO, hP, hM, h0⟩ := hl
  exact c_look hO hP (zI_mk hM h0 (cF_refl _) (m_look hO hM (zE hO hP hM (fr_refl _ _ _) h0 (cF_refl _))))
theorem z_kinds {x : Int32} (hl : lS L xs H) : ma_MW 12 100 [.ref 4, .int x] H (zI L xs 180 [.ref 36, .int x]) := by
  obtain ⟨g, i0, i1, tx, ab, bl, c0, c1, c2, hO, hP, hM, h0⟩ := hl
  refine c_kinds hO hP (fun hn H1 p1 f1 => zI_mk hM h0 f1 (m_kinds_b hn (oP_cF hM f1) (fun H2 q2 f2 => zE hO p1 q2 f2 h0 f1))) (fun a ha ea => ?_)
  subst ea
  exact zI_mk hM h0 (cF_refl _) (m_kinds ha hO hM (zE hO hP hM (fr_refl _ _ _) h0 (cF_refl _)))
theorem z_ask {x : Int32} (hl : lS L xs H) : ma_MW 12 101 [.ref 4, .int x] H (zI L xs 181 [.ref 36, .int x]) := by
  obtain ⟨g, i0, i1, tx, ab, bl, c0, c1, c2, hO, hP, hM, h0⟩ := hl
  refine c_ask hO hP (fun hn H1 p1 f1 => zI_mk hM h0 f1 (m_ask_b hn (oP_cF hM f1) (fun H2 q2 f2 => zE hO p1 q2 f2 h0 f1))) (fun a ha ea => ?_)
  subst ea
  exact zI_mk hM h0 (cF_refl _) (m_ask ha hO hM (zE hO hP hM (fr_refl _ _ _) h0 (cF_refl _)))
theorem z_against {x : Int32} (hl : lS L xs H) : ma_MW 12 102 [.ref 4, .int x] H (zI L xs 183 [.ref 36, .int x]) := by
  obtain ⟨g, i0, i1, tx, ab, bl, c0, c1, c2, hO, hP, hM, h0⟩ := hl
  exact c_against hO hP (fun hn H1 p1 f1 => zI_mk hM h0 f1 (m_against_b hn (oP_cF hM f1) (fun H2 q2 f2 => zE hO p1 q2 f2 h0 f1))) (fun hn H1 p1 f1 => zI_mk hM h0 f1 (m_against hn hO (oP_cF hM f1) (fun H2 q2 f2 => zE hO p1 q2 f2 h0 f1)))
theorem z_luck {x y : Int32} (hl : lS L xs H) : ma_MW 12 103 [.ref 4, .int x, .int y] H (zI L xs 186 [.ref 36, .int x, .int y]) := by
  obtain ⟨g, i0, i1, tx, ab, bl, c0, c1, c2, hO, hP, hM, h0⟩ := hl
  refine c_luck hO hP (fun hn H1 p1 f1 => zI_mk hM h0 f1 (m_luck_b hn (oP_cF hM f1) (fun H2 q2 f2 => zE hO p1 q2 f2 h0 f1))) (fun a b m w ha hb ea eb em ew H1 p1 f1 => ?_)
  subst ea eb
  exact zI_mk hM h0 f1 (m_luck ha hb em ew hO (oP_cF hM f1) (fun H2 q2 f2 => zE hO p1 q2 f2 h0 f1))
theorem z_evenings {x y : Int32} (hl : lS L xs H) : ma_MW 12 104 [.ref 4, .int x, .int y] H (zI L xs 187 [.ref 36, .int x, .int y]) := by
  obtain ⟨g, i0, i1, tx, ab, bl, c0, c1, c2, hO, hP, hM, h0⟩ := hl
  refine c_evenings hO hP (fun hn H1 p1 f1 => zI_mk hM h0 f1 (m_evenings_b hn (oP_cF hM f1) (fun H2 q2 f2 => zE hO p1 q2 f2 h0 f1))) (fun a b ha hb ea eb H1 p1 f1 => ?_)
  subst ea eb
  exact zI_mk hM h0 f1 (m_evenings ha hb hO (oP_cF hM f1) (fun H2 q2 f2 => zE hO p1 q2 f2 h0 f1))
theorem z_part {x : Int32} (hl : lS L xs H) : ma_MW 12 105 [.ref 4, .int x] H (zL L xs 188 [.ref 36, .int x]) := by
  obtain ⟨g, i0, i1, tx, ab, bl, c0, c1, c2, hO, hP, hM, h0⟩ := hl
  refine c_part hP (fun hn H1 p1 f1 => zL_mk hM h0 f1 (m_part_b hn (oP_cF hM f1) (fun H2 q2 f2 => zE hO p1 q2 f2 h0 f1))) (fun b hb eb => ?_)
  subst eb
  exact zL_mk hM h0 (cF_refl _) (m_part hb hM (zE hO hP hM (fr_refl _ _ _) h0 (cF_refl _)))
theorem z_image {x : Int32} (hl : lS L xs H) : ma_MW 12 106 [.ref 4, .int x] H (zI L xs 189 [.ref 36, .int x]) := by
  obtain ⟨g, i0, i1, tx, ab, bl, c0, c1, c2, hO, hP, hM, h0⟩ := hl
  refine c_image hO hP (fun hn H1 p1 f1 => zI_mk hM h0 f1 (m_image_b hn (oP_cF hM f1) (fun H2 q2 f2 => zE hO p1 q2 f2 h0 f1))) (fun a ha ea H1 p1 f1 => ?_)
  subst ea
  have hs : sOK g (gput a i0 i1 (some g)).1 (gput a i0 i1 (some g)).2 tx := by
    rcases (show a = 0 ∨ a = 1 by omega) with rfl | rfl
    · exact ⟨hO.1, fun x e => by have e : some g = some x := e; cases e; exact hO.1, hO.2.2.1, hO.2.2.2⟩
    · exact ⟨hO.1, hO.2.1, fun x e => by have e : some g = some x := e; cases e; exact hO.1, hO.2.2.2⟩
  exact zI_mk hM h0 f1 (m_image ha hO (oP_cF hM f1) (fun H2 q2 f2 => zE hs p1 q2 f2 h0 f1))
theorem z_from {x : Int32} (hl : lS L xs H) : ma_MW 12 107 [.ref 4, .int x] H (zI L xs 190 [.ref 36, .int x]) := by
  obtain ⟨g, i0, i1, tx, ab, bl, c0, c1, c2, hO, hP, hM, h0⟩ := hl
  refine c_from hO hP (fun hn H1 p1 f1 => zI_mk hM h0 f1 (m_from_b hn (oP_cF hM f1) (fun H2 q2 f2 => zE hO p1 q2 f2 h0 f1))) (fun a ha ea en H1 p1 f1 => ?_) (fun a g' ha ea es H1 p1 f1 => ?_)
  · subst ea
    exact zI_mk hM h0 f1 (m_from_n ha en (oP_cF hM f1) (fun H2 q2 f2 => zE hO p1 q2 f2 h0 f1))
  · subst ea
    have hg : gOK g' := by
      rcases (show a = 0 ∨ a = 1 by omega) with rfl | rfl
      · exact hO.2.1 g' es
      · exact hO.2.2.1 g' es
    exact zI_mk hM h0 f1 (m_from ha es hO (oP_cF hM f1) (fun H2 q2 f2 => zE (sOK_g hO hg) p1 q2 f2 h0 f1))
theorem z_status {x : Int32} (hl : lS L xs H) : ma_MW 12 108 [.ref 4, .int x] H (zI L xs 191 [.ref 36, .int x]) := by
  obtain ⟨g, i0, i1, tx, ab, bl, c0, c1, c2, hO, hP, hM, h0⟩ := hl
  refine c_status hP (fun hn H1 p1 f1 => zI_mk hM h0 f1 (m_status_b hn (oP_cF hM f1) (fun H2 q2 f2 => zE hO p1 q2 f2 h0 f1))) (fun b hb eb => ?_)
  subst eb
  exact zI_mk hM h0 (cF_refl _) (m_status hb hM (zE hO hP hM (fr_refl _ _ _) h0 (cF_refl _)))
theorem z_count {x : Int32} (hl : lS L xs H) : ma_MW 12 109 [.ref 4, .int x] H (zI L xs 193 [.ref 36, .int x]) := by
  obtain ⟨g, i0, i1, tx, ab, bl, c0, c1, c2, hO, hP, hM, h0⟩ := hl
  refine c_count hO hP (fun hn H1 p1 f1 => zI_mk hM h0 f1 (m_count_b hn (oP_cF hM f1) (fun H2 q2 f2 => zE hO p1 q2 f2 h0 f1))) (fun b hb eb => ?_)
  subst eb
  exact zI_mk hM h0 (cF_refl _) (m_count hb hM (zE hO hP hM (fr_refl _ _ _) h0 (cF_refl _)))
theorem z_digest (hl : lS L xs H) : ma_MW 12 110 [.ref 4] H (zL L xs 194 [.ref 36]) := by
  obtain ⟨g, i0, i1, tx, ab, bl, c0, c1, c2, hO, hP, hM, h0⟩ := hl
  exact c_digest hO hP (zL_mk hM h0 (cF_refl _) (m_digest hO hM (zE hO hP hM (fr_refl _ _ _) h0 (cF_refl _))))
end ZA

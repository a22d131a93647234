/-! the reference: its picture -/
abbrev arZ (n : Nat) (f : Nat → Int32) : ma_C := .inl (.boolean, n, .inl f)
/-- the row as it stands in a kept part: kinds of now, the rest from b on -/
def shf (f : Nat → Int32) (b : Nat) : Nat → Int32 := fun x => if x < 2 then f x else f (b + (x - 2))
def gNo (f : Nat → Int32) (l : List gSe) : Prop := f 58 = nI l.length ∧ ∀ (k : Nat) (e : gSe), l[k]? = some e → f (59 + 2 * k) = nI e.2.1 ∧ f (59 + 2 * k + 1) = nI e.2.2.2
def gMa (f : Nat → Int32) (l : List gSe) : Prop := f 71 = nI l.length ∧ ∀ (k : Nat) (e : gSe), l[k]? = some e → f (72 + 4 * k) = nI e.1 ∧ f (72 + 4 * k + 1) = nI e.2.1 ∧ f (72 + 4 * k + 2) = nI e.2.2.1 ∧ f (72 + 4 * k + 3) = nI e.2.2.2
def gHi (f : Nat → Int32) (l : List ga_T) : Prop := f 96 = nI l.length ∧ ∀ (k : Nat) (t : ga_T), l[k]? = some t → gM t (shf f (97 + 56 * k))
def gN (g : gG) (f : Nat → Int32) : Prop := gM g.1 f ∧ gNo f g.2.2.1 ∧ gMa f g.2.2.2 ∧ gHi f g.2.1
theorem ok_len {t : ga_T} (h : ga_ok t) : t.2.2.1.length ≤ 16 ∧ t.2.2.2.1.length ≤ 16 ∧ t.2.2.2.2.1.length ≤ 16 := by
  obtain ⟨kz, ko, hz, ho, pl, tu, db, mv, tz, to⟩ := t
  obtain ⟨a1, a2, a3, a4, a5, a6, a7, a8, a9, a10⟩ := h
  exact ⟨by show hz.length ≤ 16; omega, by show ho.length ≤ 16; omega, by show pl.length ≤ 16; omega⟩
theorem gM_cong {t : ga_T} {f f' : Nat → Int32} (hok : ga_ok t) (h : gM t f) (hf : ∀ x, x < 58 → f' x = f x) : gM t f' := by
  obtain ⟨kz, ko, hz, ho, pl, tu, db, mv, tz, to⟩ := t
  obtain ⟨l1, l2, l3⟩ := ok_len hok
  have l1 : hz.length ≤ 16 := l1
  have l2 : ho.length ≤ 16 := l2
  have l3 : pl.length ≤ 16 := l3
  obtain ⟨m0, m1, m2, m3, m4, m5, m6, m7, m8, m9, k0, k1, k2⟩ := h
  exact ⟨(hf 0 (by decide)).trans m0, (hf 1 (by decide)).trans m1, (hf 2 (by decide)).trans m2, (hf 3 (by decide)).trans m3, (hf 4 (by decide)).trans m4, (hf 5 (by decide)).trans m5, (hf 6 (by decide)).trans m6, (hf 7 (by decide)).trans m7, (hf 8 (by decide)).trans m8, (hf 9 (by decide)).trans m9, gL_cong k0 (fun x h1 h2 => hf x (by omega)), gL_cong k1 (fun x h1 h2 => hf x (by omega)), gL_cong k2 (fun x h1 h2 => hf x (by omega))⟩
theorem gNo_cong {f f' : Nat → Int32} {l : List gSe} (hl : l.length ≤ 6) (h : gNo f l) (hf : ∀ x, 58 ≤ x → x < 71 → f' x = f x) : gNo f' l :=
  ⟨(hf 58 (by decide) (by decide)).trans h.1, fun k e hk => by
    have hl2 := (List.getElem?_eq_some_iff.mp hk).1
    obtain ⟨a, b⟩ := h.2 k e hk
    exact ⟨(hf _ (by omega) (by omega)).trans a, (hf _ (by omega) (by omega)).trans b⟩⟩
theorem gMa_cong {f f' : Nat → Int32} {l : List gSe} (hl : l.length ≤ 6) (h : gMa f l) (hf : ∀ x, 71 ≤ x → x < 96 → f' x = f x) : gMa f' l :=
  ⟨(hf 71 (by decide) (by decide)).trans h.1, fun k e hk => by
    have hl2 := (List.getElem?_eq_some_iff.mp hk).1
    obtain ⟨a, b, c, d⟩ := h.2 k e hk
    exact ⟨(hf _ (by omega) (by omega)).trans a, (hf _ (by omega) (by omega)).trans b, (hf _ (by omega) (by omega)).trans c, (hf _ (by omega) (by omega)).trans d⟩⟩
theorem gHi_cong {f f' : Nat → Int32} {l : List ga_T} (hl : l.length ≤ 8) (hok : ∀ t ∈ l, ga_ok t) (h : gHi f l) (h0 : f' 0 = f 0) (h1 : f' 1 = f 1) (hf : ∀ x, 96 ≤ x → x < 545 → f' x = f x) : gHi f' l :=
  ⟨(hf 96 (by decide) (by decide)).trans h.1, fun k t hk => by
    have hl2 := (List.getElem?_eq_some_iff.mp hk).1
    refine gM_cong (hok t (List.mem_of_getElem? hk)) (h.2 k t hk) (fun x hx => ?_)
    unfold shf
    by_cases h2 : x < 2
    · rw [if_pos h2, if_pos h2]
      rcases (show x = 0 ∨ x = 1 by omega) with rfl | rfl
      · exact h0
      · exact h1
    · rw [if_neg h2, if_neg h2]
      exact hf _ (by omega) (by omega)⟩
theorem gHi_nil {f : Nat → Int32} (h : f 96 = nI 0) : gHi f [] := ⟨h, fun k t hk => by simp at hk⟩
theorem gNo_nil {f : Nat → Int32} (h : f 58 = nI 0) : gNo f [] := ⟨h, fun k t hk => by simp at hk⟩
theorem gMa_nil {f : Nat → Int32} (h : f 71 = nI 0) : gMa f [] := ⟨h, fun k t hk => by simp at hk⟩
theorem gN_cong {g : gG} {f f' : Nat → Int32} (hO : gOK g) (h : gN g f) (hf : ∀ x, x < 545 → f' x = f x) : gN g f' :=
  ⟨gM_cong hO.1 h.1 (fun x hx => hf x (by omega)), gNo_cong hO.2.2.2.2.1.1 h.2.1 (fun x _ hx => hf x (by omega)), gMa_cong hO.2.2.2.2.2.1 h.2.2.1 (fun x _ hx => hf x (by omega)), gHi_cong hO.2.2.1 (fun t ht => (hO.2.2.2.1 t ht).1) h.2.2.2 (hf 0 (by decide)) (hf 1 (by decide)) (fun x _ hx => hf x hx)⟩
/-- only the table has changed, its kinds have not -/
theorem gN_tab {g : gG} {t : ga_T} {f f' : Nat → Int32} (hO : gOK g) (h : gN g f) (ht : gM t f') (h0 : f' 0 = f 0) (h1 : f' 1 = f 1) (hf : ∀ x, 58 ≤ x → f' x = f x) : gN (t, g.2) f' :=
  ⟨ht, gNo_cong hO.2.2.2.2.1.1 h.2.1 (fun x hx _ => hf x hx), gMa_cong hO.2.2.2.2.2.1 h.2.2.1 (fun x hx _ => hf x (by omega)), gHi_cong hO.2.2.1 (fun t ht => (hO.2.2.2.1 t ht).1) h.2.2.2 h0 h1 (fun x hx _ => hf x (by omega))⟩
def moP (H : ma_H) (up lo : Int64) (n : Nat) : Prop := ∃ po ta tk nu wo it, H.1 36 = moC up lo (nI n) po ta tk nu wo it
def nwP (H : ma_H) (g : gG) : Prop := ∃ f, H.1 37 = arI 545 f ∧ gN g f
def rdO (H : ma_H) : Prop := ∃ f, H.1 38 = arI 545 f
def imO (H : ma_H) (i0 i1 : Option gG) : Prop := ∃ f z, H.1 39 = arI 1090 f ∧ H.1 40 = arZ 2 z ∧ z 0 = nI (if i0 = none then 0 else 1) ∧ z 1 = nI (if i1 = none then 0 else 1) ∧ (∀ g, i0 = some g → gN g f) ∧ ∀ g, i1 = some g → gN g (fun x => f (545 + x))
def rfP (H : ma_H) (c0 c1 c2 : Int32) : Prop := ∃ f, H.1 41 = arI 3 f ∧ f 0 = c0 ∧ f 1 = c1 ∧ f 2 = c2
def txO (H : ma_H) (tx : List Nat) : Prop := ∃ f, H.1 42 = arI 150 f ∧ gL f 0 tx
def trO (H : ma_H) : Prop := ∃ f, H.1 43 = arI 58 f
def unO (H : ma_H) : Prop := ∃ f, H.1 44 = arI 16 f
def gaO (H : ma_H) : Prop := ∃ f, H.1 45 = arI 36 f
def oP (H : ma_H) (g : gG) (i0 i1 : Option gG) (tx : List Nat) (up lo : Int64) (c0 c1 c2 : Int32) : Prop :=
  moP H up lo tx.length ∧ nwP H g ∧ rdO H ∧ imO H i0 i1 ∧ rfP H c0 c1 c2 ∧ txO H tx ∧ trO H ∧ unO H ∧ gaO H
section OP
variable {H H' : ma_H} {g g' : gG} {i0 i1 i0' i1' : Option gG} {tx tx' : List Nat} {up lo up' lo' : Int64} {c0 c1 c2 c0' c1' c2' : Int32}
theorem moP_c {n : Nat} (h : moP H up lo n) (e : H'.1 36 = H.1 36) : moP H' up lo n := by obtain ⟨a, b, c, d, x, y, z⟩ := h; exact ⟨a, b, c, d, x, y, e.trans z⟩
theorem nwP_c (h : nwP H g) (e : H'.1 37 = H.1 37) : nwP H' g := by obtain ⟨f, a, b⟩ := h; exact ⟨f, e.trans a, b⟩
theorem rdO_c (h : rdO H) (e : H'.1 38 = H.1 38) : rdO H' := by obtain ⟨f, a⟩ := h; exact ⟨f, e.trans a⟩
theorem imO_c (h : imO H i0 i1) (e : H'.1 39 = H.1 39) (e2 : H'.1 40 = H.1 40) : imO H' i0 i1 := by obtain ⟨f, z, a, b, c⟩ := h; exact ⟨f, z, e.trans a, e2.trans b, c⟩
theorem rfP_c (h : rfP H c0 c1 c2) (e : H'.1 41 = H.1 41) : rfP H' c0 c1 c2 := by obtain ⟨f, a, b⟩ := h; exact ⟨f, e.trans a, b⟩
theorem txO_c (h : txO H tx) (e : H'.1 42 = H.1 42) : txO H' tx := by obtain ⟨f, a, b⟩ := h; exact ⟨f, e.trans a, b⟩
theorem trO_c (h : trO H) (e : H'.1 43 = H.1 43) : trO H' := by obtain ⟨f, a⟩ := h; exact ⟨f, e.trans a⟩
theorem unO_c (h : unO H) (e : H'.1 44 = H.1 44) : unO H' := by obtain ⟨f, a⟩ := h; exact ⟨f, e.trans a⟩
theorem gaO_c (h : gaO H) (e : H'.1 45 = H.1 45) : gaO H' := by obtain ⟨f, a⟩ := h; exact ⟨f, e.trans a⟩
theorem oP_cong (h : oP H g i0 i1 tx up lo c0 c1 c2) (e : ∀ j, 36 ≤ j → j < 46 → H'.1 j = H.1 j) : oP H' g i0 i1 tx up lo c0 c1 c2 := by
  obtain ⟨a1, a2, a3, a4, a5, a6, a7, a8, a9⟩ := h
  exact ⟨moP_c a1 (e 36 (by decide) (by decide)), nwP_c a2 (e 37 (by decide) (by decide)), rdO_c a3 (e 38 (by decide) (by decide)), imO_c a4 (e 39 (by decide) (by decide)) (e 40 (by decide) (by decide)), rfP_c a5 (e 41 (by decide) (by decide)), txO_c a6 (e 42 (by decide) (by decide)), trO_c a7 (e 43 (by decide) (by decide)), unO_c a8 (e 44 (by decide) (by decide)), gaO_c a9 (e 45 (by decide) (by decide))⟩
theorem oP_cF (h : oP H g i0 i1 tx up lo c0 c1 c2) (hf : cF H H') : oP H' g i0 i1 tx up lo c0 c1 c2 := oP_cong h (fun j h1 h2 => hf.2 j (Or.inr ⟨h1, h2⟩))
theorem oP_now (h : oP H g i0 i1 tx up lo c0 c1 c2) (hn : nwP H' g') (hf : fr H H' 37 38) : oP H' g' i0 i1 tx up lo c0 c1 c2 := by
  obtain ⟨a1, a2, a3, a4, a5, a6, a7, a8, a9⟩ := h
  have e : ∀ j, j ≠ 37 → H'.1 j = H.1 j := fun j hj => hf.2 j (by omega)
  exact ⟨moP_c a1 (e 36 (by decide)), hn, rdO_c a3 (e 38 (by decide)), imO_c a4 (e 39 (by decide)) (e 40 (by decide)), rfP_c a5 (e 41 (by decide)), txO_c a6 (e 42 (by decide)), trO_c a7 (e 43 (by decide)), unO_c a8 (e 44 (by decide)), gaO_c a9 (e 45 (by decide))⟩
/-- now and under have changed -/
theorem oP_nu (h : oP H g i0 i1 tx up lo c0 c1 c2) (hn : nwP H' g') (hu : unO H') (hf : ∀ j, j ≠ 37 → j ≠ 44 → H'.1 j = H.1 j) : oP H' g' i0 i1 tx up lo c0 c1 c2 := by
  obtain ⟨a1, a2, a3, a4, a5, a6, a7, a8, a9⟩ := h
  exact ⟨moP_c a1 (hf 36 (by decide) (by decide)), hn, rdO_c a3 (hf 38 (by decide) (by decide)), imO_c a4 (hf 39 (by decide) (by decide)) (hf 40 (by decide) (by decide)), rfP_c a5 (hf 41 (by decide) (by decide)), txO_c a6 (hf 42 (by decide) (by decide)), trO_c a7 (hf 43 (by decide) (by decide)), hu, gaO_c a9 (hf 45 (by decide) (by decide))⟩
theorem oP_rf (h : oP H g i0 i1 tx up lo c0 c1 c2) (hn : rfP H' c0' c1' c2') (hf : fr H H' 41 42) : oP H' g i0 i1 tx up lo c0' c1' c2' := by
  obtain ⟨a1, a2, a3, a4, a5, a6, a7, a8, a9⟩ := h
  have e : ∀ j, j ≠ 41 → H'.1 j = H.1 j := fun j hj => hf.2 j (by omega)
  exact ⟨moP_c a1 (e 36 (by decide)), nwP_c a2 (e 37 (by decide)), rdO_c a3 (e 38 (by decide)), imO_c a4 (e 39 (by decide)) (e 40 (by decide)), hn, txO_c a6 (e 42 (by decide)), trO_c a7 (e 43 (by decide)), unO_c a8 (e 44 (by decide)), gaO_c a9 (e 45 (by decide))⟩
/-- the trial's cells have changed -/
theorem oP_tr (h : oP H g i0 i1 tx up lo c0 c1 c2) (ht : trO H') (hu : unO H') (hf : fr H H' 43 45) : oP H' g i0 i1 tx up lo c0 c1 c2 := by
  obtain ⟨a1, a2, a3, a4, a5, a6, a7, a8, a9⟩ := h
  have e : ∀ j, j < 43 ∨ 45 ≤ j → H'.1 j = H.1 j := hf.2
  exact ⟨moP_c a1 (e 36 (by decide)), nwP_c a2 (e 37 (by decide)), rdO_c a3 (e 38 (by decide)), imO_c a4 (e 39 (by decide)) (e 40 (by decide)), rfP_c a5 (e 41 (by decide)), txO_c a6 (e 42 (by decide)), ht, hu, gaO_c a9 (e 45 (by decide))⟩
theorem oP_tg (h : oP H g i0 i1 tx up lo c0 c1 c2) (ht : trO H') (hu : unO H') (hg : gaO H') (hf : fr H H' 43 46) : oP H' g i0 i1 tx up lo c0 c1 c2 := by
  obtain ⟨a1, a2, a3, a4, a5, a6, a7, a8, a9⟩ := h
  have e : ∀ j, j < 43 ∨ 46 ≤ j → H'.1 j = H.1 j := hf.2
  exact ⟨moP_c a1 (e 36 (by decide)), nwP_c a2 (e 37 (by decide)), rdO_c a3 (e 38 (by decide)), imO_c a4 (e 39 (by decide)) (e 40 (by decide)), rfP_c a5 (e 41 (by decide)), txO_c a6 (e 42 (by decide)), ht, hu, hg⟩
/-- its own fields, and the text, have changed -/
theorem oP_mo (h : oP H g i0 i1 tx up lo c0 c1 c2) (hm : moP H' up' lo' tx'.length) (ht : txO H' tx') (hf : ∀ j, j ≠ 36 → j ≠ 42 → H'.1 j = H.1 j) : oP H' g i0 i1 tx' up' lo' c0 c1 c2 := by
  obtain ⟨a1, a2, a3, a4, a5, a6, a7, a8, a9⟩ := h
  exact ⟨hm, nwP_c a2 (hf 37 (by decide) (by decide)), rdO_c a3 (hf 38 (by decide) (by decide)), imO_c a4 (hf 39 (by decide) (by decide)) (hf 40 (by decide) (by decide)), rfP_c a5 (hf 41 (by decide) (by decide)), ht, trO_c a7 (hf 43 (by decide) (by decide)), unO_c a8 (hf 44 (by decide) (by decide)), gaO_c a9 (hf 45 (by decide) (by decide))⟩
theorem oP_im (h : oP H g i0 i1 tx up lo c0 c1 c2) (hi : imO H' i0' i1') (hf : fr H H' 39 41) : oP H' g i0' i1' tx up lo c0 c1 c2 := by
  obtain ⟨a1, a2, a3, a4, a5, a6, a7, a8, a9⟩ := h
  have e : ∀ j, j < 39 ∨ 41 ≤ j → H'.1 j = H.1 j := hf.2
  exact ⟨moP_c a1 (e 36 (by decide)), nwP_c a2 (e 37 (by decide)), rdO_c a3 (e 38 (by decide)), hi, rfP_c a5 (e 41 (by decide)), txO_c a6 (e 42 (by decide)), trO_c a7 (e 43 (by decide)), unO_c a8 (e 44 (by decide)), gaO_c a9 (e 45 (by decide))⟩
/-- the class's picture stays over what the reference does -/
theorem cP_fr {ab bl : Int64} (h : cP H g i0 i1 tx ab bl c0 c1 c2) (hf : fr H H' 36 46) : cP H' g i0 i1 tx ab bl c0 c1 c2 := by
  obtain ⟨a1, a2, ⟨y, a3⟩, a4, a5, a6, a7, a8, a9⟩ := h
  exact ⟨(hf.2 4 (by omega)).trans a1, gmP_cong a2 (fun j b1 b2 => hf.2 j (by omega)), ⟨y, (hf.2 27 (by omega)).trans a3⟩, imP_cong a4 (hf.2 28 (by omega)) (Nat.le_of_eq hf.1.symm) (fun j b1 b2 => hf.2 j (by omega)), trA_cong a5 (fun j b1 b2 => hf.2 j (by omega)), txP_cong a6 (hf.2 33 (by omega)) (hf.2 34 (by omega)), rdA_cong a7 (hf.2 35 (by omega)), strP_cong a8 (fun j b1 => hf.2 j (by omega)), by rw [hf.1]; exact a9⟩
end OP
section OB
variable {d : Nat} {Q : ma_P} {H : ma_H} {g : gG} {i0 i1 : Option gG} {tx : List Nat} {up lo : Int64} {c0 c1 c2 : Int32}
theorem oP_cl (h : oP H g i0 i1 tx up lo c0 c1 c2) : ∃ po ta tk nu wo it, H.1 36 = .inr (8, [.ref 37, .ref 38, .ref 39, .ref 40, .ref 41, .long up, .long lo, .int (nI tx.length), .ref 42, .int po, .int ta, .int tk, .int nu, .long wo, .int it, .ref 43, .ref 44, .ref 45]) := h.1
theorem o_inT {q a b : Nat} (hq : a ≤ q ∧ q ≤ b) (hb : b < 2 ^ 31) (h : Q (some (.int (nI 1))) H) : ma_MW (d + 1) 125 [.int (nI q), .int (nI a), .int (nI b)] H Q :=
  o_in (fun _ _ => h) (fun z => absurd (inR_nI (by omega) (by omega) hb hq) z)
theorem o_inB {v : Int32} {a b : Nat} (h1 : inR v a b → Q (some (.int (nI 1))) H) (h0 : ¬ inR v a b → Q (some (.int (nI 0))) H) : ma_MW (d + 1) 125 [.int v, .int (nI a), .int (nI b)] H Q :=
  o_in (fun x y => h1 ⟨x, y⟩) (fun z => h0 z)
theorem o_badBy {v : Int32} (hP : oP H g i0 i1 tx up lo c0 c1 c2) (h : ∀ H', oP H' g i0 i1 tx up lo (c0 + nI 1) c1 c2 → fr H H' 36 46 → Q (some (.int v)) H') : ma_MW (d + 1) 127 [.ref 36, .int v] H Q := by
  obtain ⟨po, ta, tk, nu, wo, it, h36⟩ := oP_cl hP
  obtain ⟨f, h41, e0, e1, e2⟩ := hP.2.2.2.2.1
  rw [e127]
  simp (disch := omega) only [w127_0, w127_1, w127_4, w127_5, w127_6, w127_7, w127_8, w127_9, w127_10, w127_11, ma_kV_ap, ma_kC_s, ma_kC_n, ma_kH_ap, ma_gf_ap, ma_pf_ap, ma_cv_ap, ma_nt_0, ma_nt_s, ma_if_t, ma_if_f, ma_set_s, ma_set_ss, ma_set_2, ma_cat_n, ma_cat_i, ma_cat_l, ma_cat_r, ma_clr_n, ma_clr_i, ma_clr_l, ma_clr_r, ma_clr_0, ma_rf_s, ma_rf_n, ma_ial_ap, ma_ias_ap, List.set_cons_zero, List.set_cons_succ, List.length_cons, List.length_nil, Nat.reduceAdd, Nat.reduceLT, Nat.reduceLeDiff, Nat.le_refl, true_and, and_true, Nat.lt_add_one, fa_lit, nI_add, pk_mul, pk_sub, pk_div, ma_rem_n, nI_ltI, nI_leI, nI_eq, Nat.reduceEqDiff, Nat.reduceMul, Nat.reduceSub, not_false_eq_true, not_true_eq_false, or_true, true_or, or_false, false_or, eq_self, Nat.zero_add, Nat.add_zero, nu_in, nI_clamp, pk_us, pk_un, ma_set_n, h36, h41, e0]
  refine h _ (oP_rf hP ⟨_, ma_set_s _ _ _, pk_us, by rw [pk_un (by decide)]; exact e1, by rw [pk_un (by decide)]; exact e2⟩ (fr_set _ _ (by decide) (by decide))) (fr_set _ _ (by decide) (by decide))
theorem o_bad (hP : oP H g i0 i1 tx up lo c0 c1 c2) (h : ∀ H', oP H' g i0 i1 tx up lo (c0 + nI 1) c1 c2 → fr H H' 36 46 → Q (some (.int (-nI 2))) H') : ma_MW (d + 2) 128 [.ref 36] H Q := by
  obtain ⟨po, ta, tk, nu, wo, it, h36⟩ := oP_cl hP
  rw [e128]
  simp (disch := omega) only [w128_0, w128_1, w128_3, w128_6, ma_kV_ap, ma_kC_s, ma_kC_n, ma_kH_ap, ma_gf_ap, ma_pf_ap, ma_cv_ap, ma_nt_0, ma_nt_s, ma_if_t, ma_if_f, ma_set_s, ma_set_ss, ma_set_2, ma_cat_n, ma_cat_i, ma_cat_l, ma_cat_r, ma_clr_n, ma_clr_i, ma_clr_l, ma_clr_r, ma_clr_0, ma_rf_s, ma_rf_n, ma_ial_ap, ma_ias_ap, List.set_cons_zero, List.set_cons_succ, List.length_cons, List.length_nil, Nat.reduceAdd, Nat.reduceLT, Nat.reduceLeDiff, Nat.le_refl, true_and, and_true, Nat.lt_add_one, fa_lit, h36]
  refine o_badBy hP (fun H' p f => ?_)
  simp (disch := omega) only [w128_0, w128_1, w128_3, w128_6, ma_kV_ap, ma_kC_s, ma_kC_n, ma_kH_ap, ma_gf_ap, ma_pf_ap, ma_cv_ap, ma_nt_0, ma_nt_s, ma_if_t, ma_if_f, ma_set_s, ma_set_ss, ma_set_2, ma_cat_n, ma_cat_i, ma_cat_l, ma_cat_r, ma_clr_n, ma_clr_i, ma_clr_l, ma_clr_r, ma_clr_0, ma_rf_s, ma_rf_n, ma_ial_ap, ma_ias_ap, List.set_cons_zero, List.set_cons_succ, List.length_cons, List.length_nil, Nat.reduceAdd, Nat.reduceLT, Nat.reduceLeDiff, Nat.le_refl, true_and, and_true, Nat.lt_add_one]
  exact h H' p f
theorem o_no (hP : oP H g i0 i1 tx up lo c0 c1 c2) (h : ∀ H', oP H' g i0 i1 tx up lo c0 (c1 + nI 1) c2 → fr H H' 36 46 → Q (some (.int (-nI 3))) H') : ma_MW (d + 1) 129 [.ref 36] H Q := by
  obtain ⟨po, ta, tk, nu, wo, it, h36⟩ := oP_cl hP
  obtain ⟨f, h41, e0, e1, e2⟩ := hP.2.2.2.2.1
  rw [e129]
  simp (disch := omega) only [w129_0, w129_1, w129_4, w129_5, w129_6, w129_7, w129_8, w129_9, w129_10, w129_12, ma_kV_ap, ma_kC_s, ma_kC_n, ma_kH_ap, ma_gf_ap, ma_pf_ap, ma_cv_ap, ma_nt_0, ma_nt_s, ma_if_t, ma_if_f, ma_set_s, ma_set_ss, ma_set_2, ma_cat_n, ma_cat_i, ma_cat_l, ma_cat_r, ma_clr_n, ma_clr_i, ma_clr_l, ma_clr_r, ma_clr_0, ma_rf_s, ma_rf_n, ma_ial_ap, ma_ias_ap, List.set_cons_zero, List.set_cons_succ, List.length_cons, List.length_nil, Nat.reduceAdd, Nat.reduceLT, Nat.reduceLeDiff, Nat.le_refl, true_and, and_true, Nat.lt_add_one, fa_lit, nI_add, pk_mul, pk_sub, pk_div, ma_rem_n, nI_ltI, nI_leI, nI_eq, Nat.reduceEqDiff, Nat.reduceMul, Nat.reduceSub, not_false_eq_true, not_true_eq_false, or_true, true_or, or_false, false_or, eq_self, Nat.zero_add, Nat.add_zero, nu_in, nI_clamp, pk_us, pk_un, ma_set_n, h36, h41, e1]
  refine h _ (oP_rf hP ⟨_, ma_set_s _ _ _, by rw [pk_un (by decide)]; exact e0, pk_us, by rw [pk_un (by decide)]; exact e2⟩ (fr_set _ _ (by decide) (by decide))) (fr_set _ _ (by decide) (by decide))
theorem o_full (hP : oP H g i0 i1 tx up lo c0 c1 c2) (h : ∀ H', oP H' g i0 i1 tx up lo c0 c1 (c2 + nI 1) → fr H H' 36 46 → Q (some (.int (-nI 4))) H') : ma_MW (d + 1) 130 [.ref 36] H Q := by
  obtain ⟨po, ta, tk, nu, wo, it, h36⟩ := oP_cl hP
  obtain ⟨f, h41, e0, e1, e2⟩ := hP.2.2.2.2.1
  rw [e130]
  simp (disch := omega) only [w130_0, w130_1, w130_4, w130_5, w130_6, w130_7, w130_8, w130_9, w130_10, w130_12, ma_kV_ap, ma_kC_s, ma_kC_n, ma_kH_ap, ma_gf_ap, ma_pf_ap, ma_cv_ap, ma_nt_0, ma_nt_s, ma_if_t, ma_if_f, ma_set_s, ma_set_ss, ma_set_2, ma_cat_n, ma_cat_i, ma_cat_l, ma_cat_r, ma_clr_n, ma_clr_i, ma_clr_l, ma_clr_r, ma_clr_0, ma_rf_s, ma_rf_n, ma_ial_ap, ma_ias_ap, List.set_cons_zero, List.set_cons_succ, List.length_cons, List.length_nil, Nat.reduceAdd, Nat.reduceLT, Nat.reduceLeDiff, Nat.le_refl, true_and, and_true, Nat.lt_add_one, fa_lit, nI_add, pk_mul, pk_sub, pk_div, ma_rem_n, nI_ltI, nI_leI, nI_eq, Nat.reduceEqDiff, Nat.reduceMul, Nat.reduceSub, not_false_eq_true, not_true_eq_false, or_true, true_or, or_false, false_or, eq_self, Nat.zero_add, Nat.add_zero, nu_in, nI_clamp, pk_us, pk_un, ma_set_n, h36, h41, e2]
  refine h _ (oP_rf hP ⟨_, ma_set_s _ _ _, by rw [pk_un (by decide)]; exact e0, by rw [pk_un (by decide)]; exact e1, pk_us⟩ (fr_set _ _ (by decide) (by decide))) (fr_set _ _ (by decide) (by decide))
end OB

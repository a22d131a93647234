/-! each instruction of the machine is the abstract one: all of them -/
section SO
variable {p : Program} {l : Launch} {e : Env} {R : Room} {s : State} {m : MethodId} {args : Array Value} {below : List Frame} {meth : Method} {c : Code} {Qf : State → Prop} {D : va_G} {cA : FieldType → ClassId} {x adV : Nat → Nat} {B L : Nat} {xs : Nat → Int32} {id d : Nat}
theorem ms_df {ci : Nat} : ∀ j, j < (ma_F ci).2.2 → defaultValue (ma_ft ci j) = vp_V ((ma_df ci).map (ms_v (ms_ad x B))) j := by
  intro j hj
  unfold vp_V ma_df
  rw [List.getD_eq_getElem?_getD, List.getElem?_map, List.getElem?_map, List.getElem?_range hj]
  exact (ms_v_def _ _).symm
theorem ms_set_map (fs : List Value) (k : Nat) (v : Value) (ad : Nat → Nat) : (fs.map (ms_v ad)).set k (ms_v ad v) = (fs.set k v).map (ms_v ad) := by rw [List.map_set]
theorem ms_up_map (f : Nat → Option Nat) (k v : Nat) (ad : Nat → Nat) : va_up (fun j => (f j).map ad) k (some (ad v)) = fun j => (va_up f k (some v) j).map ad := by
  funext j; unfold va_up; by_cases h : j = k <;> simp [h]
set_option maxHeartbeats 8000000 in
theorem ms_step (hC : ms_Cx p R s m args meth c D cA x adV B L xs id d) {C : Nat → List Value → ma_H → ma_P → Prop} (hCal : ms_Cal l D cA x adV B L xs d C) {Q : ma_P} (hQ : ms_Ret p l e R s m args below meth c Qf D cA x B L xs id Q) {K : ma_K} (hK : ∀ pc ls st h kc ks, K pc ls st h kc ks → ms_R p l e R s m args below meth c Qf D cA x B L xs id pc ls st h kc ks)
    {i : Instr} {len pc : Nat} {ls : ma_L} {st : List Value} {h : ma_H} {kc ks : Nat} (hin : decode (ma_by id) pc = .ok (i, len)) (hd : ma_do C id Q K i len pc ls st h kc ks) : ms_R p l e R s m args below meth c Qf D cA x B L xs id pc ls st h kc ks := by
  have hC' := hC
  obtain ⟨hx, hb, hml, hown, hts, hX, hE, hnm, hRc, hRs, hRf, hRl⟩ := hC
  intro H locs lr hL hI hkc hks
  cases i
  case iconst n => obtain ⟨rfl, hd⟩ := hd; exact lv_iconst hx hb hin rfl (hK _ _ _ _ _ _ hd H locs lr hL hI hkc hks)
  case bipush n => obtain ⟨rfl, hd⟩ := hd; exact lv_bipush hx hb hin rfl (hK _ _ _ _ _ _ hd H locs lr hL hI hkc hks)
  case sipush n => obtain ⟨rfl, hd⟩ := hd; exact lv_sipush hx hb hin rfl (hK _ _ _ _ _ _ hd H locs lr hL hI hkc hks)
  case lconst n => obtain ⟨rfl, hd⟩ := hd; exact lv_lconst hx hb hin rfl (hK _ _ _ _ _ _ hd H locs lr hL hI hkc hks)
  case ldc ix =>
    obtain ⟨rfl, ⟨v, h1, h2⟩ | ⟨v, h1, h2⟩⟩ := hd
    · exact lv_ldc hx hb hown (hts _ (ms_co h1)) hin (hK _ _ _ _ _ _ h2 H locs lr hL hI hkc hks)
    · unfold ma_tx at h1
      split at h1
      · rename_i ho
        have hon : ma_on id = "BeggarPile$Reader" := by unfold ma_on; rw [ho]; rfl
        rw [hon] at hown
        split at h1
        · rename_i hix; subst hix; cases h1
          exact va_ldcS hx hb hown hX.2.2.2.1 hin (hK _ _ _ _ _ _ h2 H locs lr hL hI hkc hks)
        · split at h1
          · rename_i hix; subst hix; cases h1
            exact va_ldcS hx hb hown hX.2.2.2.2.1 hin (hK _ _ _ _ _ _ h2 H locs lr hL hI hkc hks)
          · split at h1
            · rename_i hix; subst hix; cases h1
              exact va_ldcS hx hb hown hX.2.2.2.2.2 hin (hK _ _ _ _ _ _ h2 H locs lr hL hI hkc hks)
            · cases h1
      · cases h1
  case ldc_w ix => obtain ⟨rfl, hd⟩ := hd; obtain ⟨v, h1, h2⟩ := iv_o hd; exact lv_ldcw hx hb hown (hts _ (ms_co h1)) hin (hK _ _ _ _ _ _ h2 H locs lr hL hI hkc hks)
  case ldc2_w ix => obtain ⟨rfl, hd⟩ := hd; obtain ⟨v, h1, h2⟩ := iv_o hd; exact lv_ldc2 hx hb hown (hts _ (ms_c2 h1)) hin (hK _ _ _ _ _ _ h2 H locs lr hL hI hkc hks)
  case iload k => obtain ⟨rfl, hd⟩ := hd; obtain ⟨v, h1, h2⟩ := iv_o hd; exact lv_iload hx hb hin (hL.2.2.2 _ _ (iv_gi h1)) (hK _ _ _ _ _ _ h2 H locs lr hL hI hkc hks)
  case iload_n k => obtain ⟨rfl, hd⟩ := hd; obtain ⟨v, h1, h2⟩ := iv_o hd; exact lv_iload_n hx hb hin rfl (hL.2.2.2 _ _ (iv_gi h1)) (hK _ _ _ _ _ _ h2 H locs lr hL hI hkc hks)
  case lload k => obtain ⟨rfl, hd⟩ := hd; obtain ⟨v, h1, h2⟩ := iv_o hd; exact lv_lload hx hb hin (hL.2.2.2 _ _ (iv_gl h1)) (hK _ _ _ _ _ _ h2 H locs lr hL hI hkc hks)
  case lload_n k => obtain ⟨rfl, hd⟩ := hd; obtain ⟨v, h1, h2⟩ := iv_o hd; exact lv_lload_n hx hb hin rfl (hL.2.2.2 _ _ (iv_gl h1)) (hK _ _ _ _ _ _ h2 H locs lr hL hI hkc hks)
  case aload k =>
    obtain ⟨rfl, hd⟩ := hd; obtain ⟨v, h1, h2⟩ := iv_o hd
    have h3 := hL.2.2.2 _ _ (iv_ga h1)
    cases v with
    | none => exact lv_aloadN hx hb hin h3 (hK _ _ _ _ _ _ h2 H locs lr hL hI hkc hks)
    | some i => exact lv_aload hx hb hin h3 (hK _ _ _ _ _ _ h2 H locs lr hL hI hkc hks)
  case aload_n k =>
    obtain ⟨rfl, hd⟩ := hd; obtain ⟨v, h1, h2⟩ := iv_o hd
    have h3 := hL.2.2.2 _ _ (iv_ga h1)
    cases v with
    | none => exact lv_aload_nN hx hb hin rfl h3 (hK _ _ _ _ _ _ h2 H locs lr hL hI hkc hks)
    | some i => exact lv_aload_n hx hb hin rfl h3 (hK _ _ _ _ _ _ h2 H locs lr hL hI hkc hks)
  case istore k => obtain ⟨rfl, hk, hd⟩ := hd; obtain ⟨v, r, rfl, h2⟩ := iv_i1 hd; exact lv_istore hx hb hin (ms_ll_has hL) (by rw [← hL.1]; exact hk) rfl (fun lr' h' => hK _ _ _ _ _ _ h2 H locs lr' (ms_L_st1 hL h') hI hkc hks)
  case istore_n k => obtain ⟨rfl, hk, hd⟩ := hd; obtain ⟨v, r, rfl, h2⟩ := iv_i1 hd; exact lv_istore_n hx hb hin rfl (ms_ll_has hL) (by rw [← hL.1]; exact hk) rfl (fun lr' h' => hK _ _ _ _ _ _ h2 H locs lr' (ms_L_st1 hL h') hI hkc hks)
  case lstore k => obtain ⟨rfl, hk, hd⟩ := hd; obtain ⟨v, r, rfl, h2⟩ := iv_l1 hd; exact lv_lstore hx hb hin (ms_ll_has hL) (by rw [← hL.1]; exact hk) rfl (fun lr' h' => hK _ _ _ _ _ _ h2 H locs lr' (ms_L_st2 hL h') hI hkc hks)
  case lstore_n k => obtain ⟨rfl, hk, hd⟩ := hd; obtain ⟨v, r, rfl, h2⟩ := iv_l1 hd; exact lv_lstore_n hx hb hin rfl (ms_ll_has hL) (by rw [← hL.1]; exact hk) rfl (fun lr' h' => hK _ _ _ _ _ _ h2 H locs lr' (ms_L_st2 hL h') hI hkc hks)
  case astore k => obtain ⟨rfl, hk, -, hd⟩ := hd; obtain ⟨v, r, rfl, h2⟩ := iv_r1 hd; exact lv_astore hx hb hin (ms_ll_has hL) (by rw [← hL.1]; exact hk) rfl (fun lr' h' => hK _ _ _ _ _ _ h2 H locs lr' (ms_L_st1 (v := .ref v) hL h') hI hkc hks)
  case astore_n k =>
    obtain ⟨rfl, hk, hd⟩ := hd
    rcases iv_nl hd with ⟨r, rfl, h2⟩ | ⟨v, r, rfl, h2⟩
    · exact lv_astore_nN hx hb hin rfl (ms_ll_has hL) (by rw [← hL.1]; exact hk) rfl (fun lr' h' => hK _ _ _ _ _ _ h2 H locs lr' (ms_L_st1 (v := .null) hL h') hI hkc hks)
    · exact lv_astore_n hx hb hin rfl (ms_ll_has hL) (by rw [← hL.1]; exact hk) rfl (fun lr' h' => hK _ _ _ _ _ _ h2 H locs lr' (ms_L_st1 (v := .ref v) hL h') hI hkc hks)
  case iinc k n =>
    obtain ⟨rfl, hk, hd⟩ := hd; obtain ⟨v, h1, h2⟩ := iv_o hd
    have hk' : k < ma_ml id := by rw [← hL.1]; exact hk
    obtain ⟨q, hq⟩ := List.getElem?_of_mem (ms_ll_mem (ad := ms_ad x B) hk' (iv_gi h1))
    exact lv_iinc hx hb hin (ms_ll_has hL) hq rfl hk' rfl (fun lr' h' => hK _ _ _ _ _ _ h2 H locs lr' (ms_L_st1 (v := .int (v + Int32.ofInt n)) hL h') hI hkc hks)
  case dup => obtain ⟨rfl, hd⟩ := hd; obtain ⟨v, r, rfl, h1, h2⟩ := iv_v1 hd; exact lv_dup (va := ms_v (ms_ad x B) v) hx hb hin (by rw [ms_v_cat]; exact h1) (hK _ _ _ _ _ _ h2 H locs lr hL hI hkc hks)
  case dup2 => obtain ⟨rfl, hd⟩ := hd; obtain ⟨v, w, r, rfl, h1, h2, h3⟩ := iv_v2 hd; exact lv_dup2_11 (va := ms_v (ms_ad x B) v) (vb := ms_v (ms_ad x B) w) hx hb hin (by rw [ms_v_cat]; exact h1) (by rw [ms_v_cat]; exact h2) (hK _ _ _ _ _ _ h3 H locs lr hL hI hkc hks)
  case pop => obtain ⟨rfl, hd⟩ := hd; obtain ⟨v, r, rfl, h1, h2⟩ := iv_v1 hd; exact lv_pop (va := ms_v (ms_ad x B) v) hx hb hin (by rw [ms_v_cat]; exact h1) (hK _ _ _ _ _ _ h2 H locs lr hL hI hkc hks)
  case goto off => obtain ⟨rfl, t, ht, hd⟩ := hd; exact lv_goto hx hb hin ht (hK _ _ _ _ _ _ hd H locs lr hL hI hkc hks)
  case if_icmp cc off =>
    obtain ⟨rfl, hd⟩ := hd; obtain ⟨y, z, r, rfl, t, ht, hd⟩ := iv_i2 hd
    cases cc
    · exact lv_icmp_eq hx hb hin ht (fun g => hK _ _ _ _ _ _ (hd.1 g) H locs lr hL hI hkc hks) (fun g => hK _ _ _ _ _ _ (hd.2 g) H locs lr hL hI hkc hks)
    · exact lv_icmp_ne hx hb hin ht (fun g => hK _ _ _ _ _ _ (hd.2 g) H locs lr hL hI hkc hks) (fun g => hK _ _ _ _ _ _ (hd.1 g) H locs lr hL hI hkc hks)
    · exact lv_icmp_lt hx hb hin ht (fun g => hK _ _ _ _ _ _ (hd.1 g) H locs lr hL hI hkc hks) (fun g => hK _ _ _ _ _ _ (hd.2 g) H locs lr hL hI hkc hks)
    · exact lv_icmp_ge hx hb hin ht (fun g => hK _ _ _ _ _ _ (hd.1 g) H locs lr hL hI hkc hks) (fun g => hK _ _ _ _ _ _ (hd.2 g) H locs lr hL hI hkc hks)
    · exact lv_icmp_gt hx hb hin ht (fun g => hK _ _ _ _ _ _ (hd.1 g) H locs lr hL hI hkc hks) (fun g => hK _ _ _ _ _ _ (hd.2 g) H locs lr hL hI hkc hks)
    · exact lv_icmp_le hx hb hin ht (fun g => hK _ _ _ _ _ _ (hd.1 g) H locs lr hL hI hkc hks) (fun g => hK _ _ _ _ _ _ (hd.2 g) H locs lr hL hI hkc hks)
  case ifCond cc off =>
    obtain ⟨rfl, hd⟩ := hd; obtain ⟨y, r, rfl, t, ht, hd⟩ := iv_i1 hd
    cases cc
    · exact lv_if_eq hx hb hin ht (fun g => hK _ _ _ _ _ _ (hd.1 g) H locs lr hL hI hkc hks) (fun g => hK _ _ _ _ _ _ (hd.2 g) H locs lr hL hI hkc hks)
    · exact lv_if_ne hx hb hin ht (fun g => hK _ _ _ _ _ _ (hd.2 g) H locs lr hL hI hkc hks) (fun g => hK _ _ _ _ _ _ (hd.1 g) H locs lr hL hI hkc hks)
    · exact lv_if_lt hx hb hin ht (fun g => hK _ _ _ _ _ _ (hd.1 g) H locs lr hL hI hkc hks) (fun g => hK _ _ _ _ _ _ (hd.2 g) H locs lr hL hI hkc hks)
    · exact lv_if_ge hx hb hin ht (fun g => hK _ _ _ _ _ _ (hd.1 g) H locs lr hL hI hkc hks) (fun g => hK _ _ _ _ _ _ (hd.2 g) H locs lr hL hI hkc hks)
    · exact lv_if_gt hx hb hin ht (fun g => hK _ _ _ _ _ _ (hd.1 g) H locs lr hL hI hkc hks) (fun g => hK _ _ _ _ _ _ (hd.2 g) H locs lr hL hI hkc hks)
    · exact lv_if_le hx hb hin ht (fun g => hK _ _ _ _ _ _ (hd.1 g) H locs lr hL hI hkc hks) (fun g => hK _ _ _ _ _ _ (hd.2 g) H locs lr hL hI hkc hks)
  case ifnull off =>
    obtain ⟨rfl, t, ht, hd⟩ := hd
    rcases iv_nl hd with ⟨r, rfl, h2⟩ | ⟨v, r, rfl, h2⟩
    · exact lv_ifnullN hx hb hin ht (hK _ _ _ _ _ _ h2 H locs lr hL hI hkc hks)
    · exact lv_ifnull hx hb hin (hK _ _ _ _ _ _ h2 H locs lr hL hI hkc hks)
  case ifnonnull off =>
    obtain ⟨rfl, t, ht, hd⟩ := hd
    rcases iv_nl hd with ⟨r, rfl, h2⟩ | ⟨v, r, rfl, h2⟩
    · exact lv_ifnonnullN hx hb hin (hK _ _ _ _ _ _ h2 H locs lr hL hI hkc hks)
    · exact lv_ifnonnull hx hb hin ht (hK _ _ _ _ _ _ h2 H locs lr hL hI hkc hks)
  case tableswitch dflt lo hi offs =>
    obtain ⟨y, r, rfl, h1, h2⟩ := iv_i1 hd
    by_cases g : y.toInt < lo ∨ hi < y.toInt
    · obtain ⟨t, ht, h3⟩ := h1 g
      exact lv_tableOut hx hb hin g ht (hK _ _ _ _ _ _ h3 H locs lr hL hI hkc hks)
    · obtain ⟨off, t, ho, ht, h3⟩ := h2 (fun z => g (Or.inl z)) (fun z => g (Or.inr z))
      exact lv_tableIn hx hb hin (fun z => g (Or.inl z)) (fun z => g (Or.inr z)) ho ht (hK _ _ _ _ _ _ h3 H locs lr hL hI hkc hks)
  case iadd => obtain ⟨rfl, hd⟩ := hd; obtain ⟨y, z, r, rfl, hd⟩ := iv_i2 hd; exact lv_iadd hx hb hin (hK _ _ _ _ _ _ hd H locs lr hL hI hkc hks)
  case isub => obtain ⟨rfl, hd⟩ := hd; obtain ⟨y, z, r, rfl, hd⟩ := iv_i2 hd; exact lv_isub hx hb hin (hK _ _ _ _ _ _ hd H locs lr hL hI hkc hks)
  case imul => obtain ⟨rfl, hd⟩ := hd; obtain ⟨y, z, r, rfl, hd⟩ := iv_i2 hd; exact lv_imul hx hb hin (hK _ _ _ _ _ _ hd H locs lr hL hI hkc hks)
  case iand => obtain ⟨rfl, hd⟩ := hd; obtain ⟨y, z, r, rfl, hd⟩ := iv_i2 hd; exact lv_iand hx hb hin (hK _ _ _ _ _ _ hd H locs lr hL hI hkc hks)
  case ior => obtain ⟨rfl, hd⟩ := hd; obtain ⟨y, z, r, rfl, hd⟩ := iv_i2 hd; exact lv_ior hx hb hin (hK _ _ _ _ _ _ hd H locs lr hL hI hkc hks)
  case ishl => obtain ⟨rfl, hd⟩ := hd; obtain ⟨y, z, r, rfl, hd⟩ := iv_i2 hd; exact lv_ishl hx hb hin (hK _ _ _ _ _ _ hd H locs lr hL hI hkc hks)
  case ishr => obtain ⟨rfl, hd⟩ := hd; obtain ⟨y, z, r, rfl, hd⟩ := iv_i2 hd; exact lv_ishr hx hb hin (hK _ _ _ _ _ _ hd H locs lr hL hI hkc hks)
  case idiv => obtain ⟨rfl, hd⟩ := hd; obtain ⟨y, z, r, rfl, hz, hd⟩ := iv_i2 hd; exact lv_idiv hx hb hin hz (hK _ _ _ _ _ _ hd H locs lr hL hI hkc hks)
  case irem => obtain ⟨rfl, hd⟩ := hd; obtain ⟨y, z, r, rfl, hz, hd⟩ := iv_i2 hd; exact lv_irem hx hb hin hz (hK _ _ _ _ _ _ hd H locs lr hL hI hkc hks)
  case ladd => obtain ⟨rfl, hd⟩ := hd; obtain ⟨y, z, r, rfl, hd⟩ := iv_l2 hd; exact lv_ladd hx hb hin (hK _ _ _ _ _ _ hd H locs lr hL hI hkc hks)
  case lsub => obtain ⟨rfl, hd⟩ := hd; obtain ⟨y, z, r, rfl, hd⟩ := iv_l2 hd; exact lv_lsub hx hb hin (hK _ _ _ _ _ _ hd H locs lr hL hI hkc hks)
  case lmul => obtain ⟨rfl, hd⟩ := hd; obtain ⟨y, z, r, rfl, hd⟩ := iv_l2 hd; exact lv_lmul hx hb hin (hK _ _ _ _ _ _ hd H locs lr hL hI hkc hks)
  case land => obtain ⟨rfl, hd⟩ := hd; obtain ⟨y, z, r, rfl, hd⟩ := iv_l2 hd; exact lv_land hx hb hin (hK _ _ _ _ _ _ hd H locs lr hL hI hkc hks)
  case lor => obtain ⟨rfl, hd⟩ := hd; obtain ⟨y, z, r, rfl, hd⟩ := iv_l2 hd; exact lv_lor hx hb hin (hK _ _ _ _ _ _ hd H locs lr hL hI hkc hks)
  case lxor => obtain ⟨rfl, hd⟩ := hd; obtain ⟨y, z, r, rfl, hd⟩ := iv_l2 hd; exact lv_lxor hx hb hin (hK _ _ _ _ _ _ hd H locs lr hL hI hkc hks)
  case ldiv => obtain ⟨rfl, hd⟩ := hd; obtain ⟨y, z, r, rfl, hz, hd⟩ := iv_l2 hd; exact lv_ldiv hx hb hin hz (hK _ _ _ _ _ _ hd H locs lr hL hI hkc hks)
  case lrem => obtain ⟨rfl, hd⟩ := hd; obtain ⟨y, z, r, rfl, hz, hd⟩ := iv_l2 hd; exact lv_lrem hx hb hin hz (hK _ _ _ _ _ _ hd H locs lr hL hI hkc hks)
  case lcmp => obtain ⟨rfl, hd⟩ := hd; obtain ⟨y, z, r, rfl, hd⟩ := iv_l2 hd; exact W.lcmp hx hb hin (hK _ _ _ _ _ _ hd H locs lr hL hI hkc hks)
  case lshl => obtain ⟨rfl, hd⟩ := hd; obtain ⟨y, z, r, rfl, hd⟩ := iv_li hd; exact lv_lshl hx hb hin rfl (hK _ _ _ _ _ _ hd H locs lr hL hI hkc hks)
  case lushr => obtain ⟨rfl, hd⟩ := hd; obtain ⟨y, z, r, rfl, hd⟩ := iv_li hd; exact lv_lushr hx hb hin rfl (hK _ _ _ _ _ _ hd H locs lr hL hI hkc hks)
  case i2l => obtain ⟨rfl, hd⟩ := hd; obtain ⟨y, r, rfl, hd⟩ := iv_i1 hd; exact lv_i2l hx hb hin rfl (hK _ _ _ _ _ _ hd H locs lr hL hI hkc hks)
  case l2i => obtain ⟨rfl, hd⟩ := hd; obtain ⟨y, r, rfl, hd⟩ := iv_l1 hd; exact lv_l2i hx hb hin rfl (hK _ _ _ _ _ _ hd H locs lr hL hI hkc hks)
  case i2b => obtain ⟨rfl, hd⟩ := hd; obtain ⟨y, r, rfl, hd⟩ := iv_i1 hd; exact lv_i2b hx hb hin rfl (hK _ _ _ _ _ _ hd H locs lr hL hI hkc hks)
  case getfield ix =>
    obtain ⟨rfl, hd⟩ := hd; obtain ⟨⟨ci, k⟩, hf, hd⟩ := iv_o hd; obtain ⟨i, r, rfl, hd⟩ := iv_r1 hd; obtain ⟨fs, hfs, hd⟩ := iv_ob hd; obtain ⟨v, hv, hd⟩ := iv_o hd
    dsimp only at hfs hv
    obtain ⟨C, T, N, hc, hk, hw⟩ := ms_fd hf
    obtain ⟨g1, g2, g3⟩ := hI.obj hfs (List.getElem?_eq_some_iff.mp hc).1
    exact ms_get hx hb hts (ms_cls_ok _ _ _ _ hc).1 hown hX.1 g3 hc k hk (hts _ hw) (v := ms_v (ms_ad x B) v) (by rw [List.getElem?_map, hv]; rfl) hin (hK _ _ _ _ _ _ hd H locs lr hL hI hkc hks)
  case putfield ix =>
    obtain ⟨rfl, hd⟩ := hd; obtain ⟨⟨ci, k⟩, hf, hd⟩ := iv_o hd; obtain ⟨v, i, r, rfl, hfi, hna, hft, hd⟩ := iv_vr hd; obtain ⟨fs, hfs, hkl, hd⟩ := iv_ob hd
    dsimp only at hfs hfi hna hft hkl hd
    obtain ⟨C, T, N, hc, hk, hw⟩ := ms_fd hf
    obtain ⟨g1, g2, g3⟩ := hI.obj hfs (List.getElem?_eq_some_iff.mp hc).1
    obtain ⟨c1, c2, c3, -, -⟩ := ms_cls_ok _ _ _ _ hc
    have hfin : (T k).2.2.2 = false ∨ (T k).2.2.2 = true ∧ meth.name = "<init>" ∧ (T k).1 = ma_on id := by
      unfold ma_fi at hfi
      rw [ms_Fe hc] at hfi
      cases hz : (T k).2.2.2 with
      | false => exact Or.inl rfl
      | true =>
        rw [hz] at hfi
        simp only [Bool.not_true, Bool.false_or, Bool.and_eq_true, beq_iff_eq] at hfi
        exact Or.inr ⟨rfl, hnm hfi.1, hfi.2.symm⟩
    refine ms_put hx hb hts c1 (ma_ft ci) c2 c3 hown hX.1 g3 hc k hk (hts _ hw) hfin (v := ms_v (ms_ad x B) v) (ms_v_nar _ hna) (ms_v_fit _ hft) (by rw [List.length_map]; exact hkl) hin (fun H1 locs1 e1 e2 e3 e4 => ?_)
    rw [ms_set_map] at e1
    exact hK _ _ _ _ _ _ hd H1 locs1 lr hL (hI.set g1 g2 (c := .inr (ci, fs.set k v)) e1 e2 e3 e4) hkc hks
  case arraylength =>
    obtain ⟨rfl, hd⟩ := hd; obtain ⟨i, r, rfl, hd⟩ := iv_r1 hd
    rcases iv_al hd with ⟨t, n, f, hf, ht, hd⟩ | ⟨t, n, f, hf, ht, hd⟩
    · by_cases h4 : 4 ≤ i
      · obtain ⟨g2, g3⟩ := hI.arr h4 hf
        obtain ⟨A1, -⟩ := ms_arrK hX (t := t) (by rcases ht with h | h | h <;> simp [h])
        exact W.alen (n := Int32.ofNat n) hx hb g3 (A1 n (fun j => .int (f j))) (by show (vp_cell _ _).slots.size.toInt32 = _; rw [vp_cell_i, arrV_size] <;> rfl) rfl rfl hin (hK _ _ _ _ _ _ hd H locs lr hL hI hkc hks)
      · have hi0 : i = 0 := by
          rcases Nat.eq_zero_or_pos i with z | z
          · exact z
          · have := hI.2.2.2.2.1 i z (Nat.lt_of_not_le h4); rw [this] at hf; cases hf
        subst hi0
        have h0 := hI.2.2.2.1
        rw [h0] at hf
        cases hf
        obtain ⟨scr, b1, b2, b3, b4, b5⟩ := hE.2.1
        exact W.alen (n := Int32.ofNat L) hx hb (a := x 0) (by rw [hI.2.2.2.2.2.2.1 _ hE.2.2.1]; exact b1) b2 (by rw [b4] <;> rfl) rfl rfl hin (hK _ _ _ _ _ _ hd H locs lr hL hI hkc hks)
    · have h4 := hI.arr4 hf
      obtain ⟨g2, g3⟩ := hI.arr h4 hf
      obtain ⟨A1, -⟩ := ms_arrK hX (t := t) (by rcases ht with h | h <;> simp [h])
      exact W.alen (n := Int32.ofNat n) hx hb g3 (A1 n (fun j => va_rf ((f j).map (ms_ad x B)))) (by show (vp_cell _ _).slots.size.toInt32 = _; rw [vp_cell_q, arrV_size] <;> rfl) rfl rfl hin (hK _ _ _ _ _ _ hd H locs lr hL hI hkc hks)
  case iaload =>
    obtain ⟨rfl, hd⟩ := hd; obtain ⟨j, i, r, rfl, hd⟩ := iv_ir hd; obtain ⟨n, f, hf, hj, hd⟩ := iv_ia hd
    have hlt : j.toNatClampNeg < n := Nat.not_le.mp fun q => hj (Or.inr q)
    by_cases h4 : 4 ≤ i
    · obtain ⟨g2, g3⟩ := hI.arr h4 hf
      obtain ⟨A1, -⟩ := ms_arrK hX (t := .int) (Or.inl rfl)
      exact W.iald (v := .int (f j.toNatClampNeg)) hx hb g3 (A1 n (fun j => .int (f j))) (fun q => by cases q) (by show ¬ (j < 0 ∨ (arrV _ _ _).slots.size ≤ _); rw [arrV_size]; exact hj) (by show (arrV _ _ _).slots[_]? = _; rw [arrV_read _ _ hlt]) rfl rfl hin (hK _ _ _ _ _ _ hd H locs lr hL hI hkc hks)
    · have hi0 : i = 0 := by
        rcases Nat.eq_zero_or_pos i with z | z
        · exact z
        · have := hI.2.2.2.2.1 i z (Nat.lt_of_not_le h4); rw [this] at hf; cases hf
      subst hi0
      have h0 := hI.2.2.2.1
      rw [h0] at hf
      cases hf
      obtain ⟨scr, b1, b2, b3, b4, b5⟩ := hE.2.1
      exact W.iald (v := .int (xs j.toNatClampNeg)) hx hb (a := x 0) (by rw [hI.2.2.2.2.2.2.1 _ hE.2.2.1]; exact b1) b2 b3 (by rw [b4]; exact hj) (b5 _ hlt) rfl rfl hin (hK _ _ _ _ _ _ hd H locs lr hL hI hkc hks)
  case baload =>
    obtain ⟨rfl, hd⟩ := hd; obtain ⟨j, i, r, rfl, h4, hd⟩ := iv_ir hd
    rcases hd with hd | hd
    · obtain ⟨n, f, hf, hj, hd⟩ := iv_ia hd
      have hlt : j.toNatClampNeg < n := Nat.not_le.mp fun q => hj (Or.inr q)
      obtain ⟨g2, g3⟩ := hI.arr h4 hf
      obtain ⟨A1, -⟩ := ms_arrK hX (t := .byte) (Or.inr (Or.inl rfl))
      exact W.bald (v := .int (f j.toNatClampNeg)) hx hb g3 (A1 n (fun j => .int (f j))) (fun q => by cases q) (by show ¬ (j < 0 ∨ (arrV _ _ _).slots.size ≤ _); rw [arrV_size]; exact hj) (by show (arrV _ _ _).slots[_]? = _; rw [arrV_read _ _ hlt]) rfl rfl hin (hK _ _ _ _ _ _ hd H locs lr hL hI hkc hks)
    · obtain ⟨n, f, hf, hj, hd⟩ := iv_ia hd
      have hlt : j.toNatClampNeg < n := Nat.not_le.mp fun q => hj (Or.inr q)
      obtain ⟨g2, g3⟩ := hI.arr h4 hf
      obtain ⟨A1, -⟩ := ms_arrK hX (t := .boolean) (Or.inr (Or.inr (Or.inl rfl)))
      exact W.zald (v := .int (f j.toNatClampNeg)) hx hb g3 (A1 n (fun j => .int (f j))) (fun q => by cases q) (by show ¬ (j < 0 ∨ (arrV _ _ _).slots.size ≤ _); rw [arrV_size]; exact hj) (by show (arrV _ _ _).slots[_]? = _; rw [arrV_read _ _ hlt]) rfl rfl hin (hK _ _ _ _ _ _ hd H locs lr hL hI hkc hks)
  case aaload =>
    obtain ⟨rfl, hd⟩ := hd; obtain ⟨j, i, r, rfl, hd⟩ := iv_ir hd; obtain ⟨t, n, f, hf, ht, hj, hd⟩ := iv_ra hd
    have hlt : j.toNatClampNeg < n := Nat.not_le.mp fun q => hj (Or.inr q)
    have h4 := hI.arr4 hf
    obtain ⟨g2, g3⟩ := hI.arr h4 hf
    obtain ⟨A1, -⟩ := ms_arrK hX (t := t) (by rcases ht with h | h <;> simp [h])
    have hd2 := hK _ _ _ _ _ _ hd H locs lr hL hI hkc hks
    rw [List.map_cons, ms_v_rf] at hd2
    have hob : t.isReference = true := by rcases ht with h | h <;> rw [h] <;> rfl
    exact W.aald (v := va_rf ((f j.toNatClampNeg).map (ms_ad x B))) (ty := t) hx hb g3 (A1 n (fun j => va_rf ((f j).map (ms_ad x B)))) hob (fun q => by cases q) (by show ¬ (j < 0 ∨ (arrV _ _ _).slots.size ≤ _); rw [arrV_size]; exact hj) (by show (arrV _ _ _).slots[_]? = _; rw [arrV_read _ _ hlt]) rfl rfl hin hd2
  case iastore =>
    obtain ⟨rfl, hd⟩ := hd; obtain ⟨y, j, i, r, rfl, h4, hd⟩ := iv_iir hd; obtain ⟨n, f, hf, hj, hd⟩ := iv_ia hd
    obtain ⟨g2, g3⟩ := hI.arr h4 hf
    obtain ⟨A1, -⟩ := ms_arrK hX (t := .int) (Or.inl rfl)
    exact ms_iast hx hb A1 g3 hj hin (fun H1 locs1 e1 e2 e3 e4 => hK _ _ _ _ _ _ hd H1 locs1 lr hL (hI.set h4 g2 e1 e2 e3 e4) hkc hks)
  case bastore =>
    obtain ⟨rfl, hd⟩ := hd; obtain ⟨y, j, i, r, rfl, h4, hd⟩ := iv_iir hd
    rcases hd with hd | hd
    · obtain ⟨n, f, hf, hj, hd⟩ := iv_ia hd
      obtain ⟨g2, g3⟩ := hI.arr h4 hf
      obtain ⟨A1, -⟩ := ms_arrK hX (t := .byte) (Or.inr (Or.inl rfl))
      exact ms_bast hx hb A1 g3 hj hin (fun H1 locs1 e1 e2 e3 e4 => hK _ _ _ _ _ _ hd H1 locs1 lr hL (hI.set h4 g2 e1 e2 e3 e4) hkc hks)
    · obtain ⟨n, f, hf, hj, hd⟩ := iv_ia hd
      obtain ⟨g2, g3⟩ := hI.arr h4 hf
      obtain ⟨A1, -⟩ := ms_arrK hX (t := .boolean) (Or.inr (Or.inr (Or.inl rfl)))
      exact ms_zast hx hb A1 g3 hj hin (fun H1 locs1 e1 e2 e3 e4 => hK _ _ _ _ _ _ hd H1 locs1 lr hL (hI.set h4 g2 e1 e2 e3 e4) hkc hks)
  case aastore =>
    obtain ⟨rfl, hd⟩ := hd; obtain ⟨v, j, i, r, rfl, hd⟩ := iv_rir hd; obtain ⟨t, n, f, hf, hj, ho, hd⟩ := iv_ra hd
    have h4 := hI.arr4 hf
    obtain ⟨g2, g3⟩ := hI.arr h4 hf
    have fin : ∀ (H1 : Heap) (locs1 : List Loc), H1[ms_ad x B i]? = some (vp_cell (cA t) (n, .inr (.inr (.inr (.inr (va_up (fun j => (f j).map (ms_ad x B)) j.toNatClampNeg (some (ms_ad x B v)))))))) → H1.size = H.size → (∀ q : Nat, q ≠ ms_ad x B i → H1[q]? = H[q]?) → (∀ z ∈ locs1, z ∈ locs ∨ z.base = ms_ad x B i) → W p l e R s m args below meth c H1 locs1 kc ks Qf (F0 m (pc + 1) lr (r.map (ms_v (ms_ad x B)))) := by
      intro H1 locs1 e1 e2 e3 e4
      rw [ms_up_map] at e1
      exact hK _ _ _ _ _ _ hd H1 locs1 lr hL (hI.set h4 g2 e1 e2 e3 e4) hkc hks
    rcases ho with ⟨rfl, hv⟩ | ⟨rfl, hv⟩
    · obtain ⟨fs, hfs, -⟩ := iv_ob hv
      obtain ⟨v1, v2, v3⟩ := hI.obj hfs (by decide)
      obtain ⟨-, A2⟩ := ms_arrK hX (t := .object "BeggarPile$Table") (by simp)
      exact ms_aast hx hb hX.1 (r := ("BeggarPile$Table", mb_F4, 10)) A2 g3 v3 rfl hj hin fin
    · obtain ⟨fs, hfs, -⟩ := iv_ob hv
      obtain ⟨v1, v2, v3⟩ := hI.obj hfs (by decide)
      obtain ⟨-, A2⟩ := ms_arrK hX (t := .object "BeggarPile$Game") (by simp)
      exact ms_aast hx hb hX.1 (r := ("BeggarPile$Game", mb_F0, 4)) A2 g3 v3 rfl hj hin fin
  case new ix =>
    obtain ⟨rfl, hd⟩ := hd; obtain ⟨ci, hci, k1, k2, hd⟩ := iv_o hd
    obtain ⟨hw, hc9⟩ := ms_cs hci
    have hc := ms_F hc9
    obtain ⟨c1, c2, c3, c4, c5⟩ := ms_cls_ok _ _ _ _ hc
    refine ms_new hx hb hts c1 (ma_ft ci) c2 hown (hts _ hw) (hts _ c4) (hts _ c5) hX.1 hc (fs := (ma_df ci).map (ms_v (ms_ad x B))) ms_df (by rw [hRc]; exact k1) (by rw [hRs]; exact k2) hin (fun H1 e1 e2 e3 => ?_)
    obtain ⟨hI', had⟩ := hI.new (c := .inr (ci, ma_df ci)) e1 e2 e3
    have := hK _ _ _ _ _ _ hd H1 locs lr hL hI' k1 k2
    rw [List.map_cons] at this
    rw [← had]
    exact this
  case newarray a =>
    obtain ⟨rfl, hd⟩ := hd; obtain ⟨n, r, rfl, hn, hn2, k1, k2, hd⟩ := iv_i1 hd
    have k1' : kc + 1 ≤ R.cells := by rw [hRc]; exact k1
    have k2' : ks + n.toNatClampNeg ≤ R.slots := by rw [hRs]; exact k2
    rcases hd with ⟨rfl, hz⟩ | ⟨rfl, hz⟩ | ⟨rfl, hz⟩
    · obtain ⟨-, A2⟩ := ms_arrK hX (t := .int) (by simp)
      refine ms_newa (atype := .int) hx hb (hts _ ms_ac.1) (ty := .int) rfl rfl (cA := cA .int) A2 hn (by show n.toNatClampNeg * 4 ≤ _; omega) k1' k2' hin (fun H1 e1 e2 e3 => ?_)
      obtain ⟨hI', had⟩ := hI.new (c := .inl (.int, n.toNatClampNeg, .inl fun _ => 0)) e1 e2 e3
      have := hK _ _ _ _ _ _ hz H1 locs lr hL hI' k1 k2
      rw [List.map_cons] at this
      rw [← had]
      exact this
    · obtain ⟨-, A2⟩ := ms_arrK hX (t := .byte) (by simp)
      refine ms_newa (atype := .byte) hx hb (hts _ ms_ac.2.1) (ty := .byte) rfl rfl (cA := cA .byte) A2 hn (by show n.toNatClampNeg * 1 ≤ _; omega) k1' k2' hin (fun H1 e1 e2 e3 => ?_)
      obtain ⟨hI', had⟩ := hI.new (c := .inl (.byte, n.toNatClampNeg, .inl fun _ => 0)) e1 e2 e3
      have := hK _ _ _ _ _ _ hz H1 locs lr hL hI' k1 k2
      rw [List.map_cons] at this
      rw [← had]
      exact this
    · obtain ⟨-, A2⟩ := ms_arrK hX (t := .boolean) (by simp)
      refine ms_newa (atype := .boolean) hx hb (hts _ ms_ac.2.2) (ty := .boolean) rfl rfl (cA := cA .boolean) A2 hn (by show n.toNatClampNeg * 1 ≤ _; omega) k1' k2' hin (fun H1 e1 e2 e3 => ?_)
      obtain ⟨hI', had⟩ := hI.new (c := .inl (.boolean, n.toNatClampNeg, .inl fun _ => 0)) e1 e2 e3
      have := hK _ _ _ _ _ _ hz H1 locs lr hL hI' k1 k2
      rw [List.map_cons] at this
      rw [← had]
      exact this
  case anewarray ix =>
    obtain ⟨rfl, hd⟩ := hd; obtain ⟨n, r, rfl, hd⟩ := iv_i1 hd; obtain ⟨ci, hci, h04, hn, hn2, k1, k2, hd⟩ := iv_o hd
    have k1' : kc + 1 ≤ R.cells := by rw [hRc]; exact k1
    have k2' : ks + n.toNatClampNeg ≤ R.slots := by rw [hRs]; exact k2
    obtain ⟨hw, hc9⟩ := ms_cs hci
    rcases h04 with rfl | rfl
    · obtain ⟨-, A2⟩ := ms_arrK hX (t := .object "BeggarPile$Game") (by simp)
      obtain ⟨kA, comp, q1, q2, q3, q4⟩ := A2
      refine ms_newr hx hb hown (hts _ hw) hX.2.2.1.2 (cA := cA (.object "BeggarPile$Game")) q4 hn (by omega) k1' k2' hin (fun H1 e1 e2 e3 => ?_)
      obtain ⟨hI', had⟩ := hI.new (c := .inl (.object "BeggarPile$Game", n.toNatClampNeg, .inr (.inr (.inr (.inr fun _ => none))))) e1 e2 e3
      have := hK _ _ _ _ _ _ hd H1 locs lr hL hI' k1 k2
      rw [List.map_cons] at this
      rw [← had]
      exact this
    · obtain ⟨-, A2⟩ := ms_arrK hX (t := .object "BeggarPile$Table") (by simp)
      obtain ⟨kA, comp, q1, q2, q3, q4⟩ := A2
      refine ms_newr hx hb hown (hts _ hw) hX.2.2.1.1 (cA := cA (.object "BeggarPile$Table")) q4 hn (by omega) k1' k2' hin (fun H1 e1 e2 e3 => ?_)
      obtain ⟨hI', had⟩ := hI.new (c := .inl (.object "BeggarPile$Table", n.toNatClampNeg, .inr (.inr (.inr (.inr fun _ => none))))) e1 e2 e3
      have := hK _ _ _ _ _ _ hd H1 locs lr hL hI' k1 k2
      rw [List.map_cons] at this
      rw [← had]
      exact this
  case invokevirtual ix =>
    obtain ⟨rfl, hd⟩ := hd; obtain ⟨⟨k, ia, n, cn⟩, hq, hk0, hd⟩ := iv_o hd
    dsimp only at hk0 hd
    subst hk0
    obtain ⟨p1, p2, p3, hmem⟩ := ms_cl hq
    obtain ⟨av, r, ⟨hrc, hr, k1, k2, hca⟩, rfl, hn⟩ := iv_ar n [] st hd
    rw [List.append_nil] at hrc hca
    unfold ma_rc at hrc
    split at hrc
    · rename_i b av'
      obtain ⟨fs, hfs, -⟩ := iv_ob hrc
      obtain ⟨i1, i2, hM⟩ := hCal _ _ _ _ hca
      exact ms_call hK (ms_virt hC' hmem i1 i2 hn hM hfs hL hI hr k1 k2 hin) hL hI k1 k2 (fun v h' hv => hv)
    · exact hrc.elim
  case invokestatic ix =>
    obtain ⟨rfl, hd⟩ := hd; obtain ⟨⟨k, ia, n, cn⟩, hq, hd⟩ := iv_o hd
    obtain ⟨p1, p2, p3, hmem⟩ := ms_cl hq
    rcases hd with ⟨hk, hd⟩ | ⟨hk, hd⟩ | ⟨hk, hd⟩
    · dsimp only at hk hd
      obtain ⟨av, r, ⟨hr, k1, k2, hca⟩, rfl, hn⟩ := iv_ar n [] st hd
      rw [List.append_nil] at hca
      obtain ⟨i1, i2, hM⟩ := hCal _ _ _ _ hca
      exact ms_call hK (ms_stat hC' hmem hk i1 i2 hn hM hL hI hr k1 k2 hin) hL hI k1 k2 (fun v h' hv => hv)
    · dsimp only at hk
      subst hk
      obtain ⟨y, z, r, rfl, hr, hd⟩ := iv_i2 hd
      exact va_mmax hx hb (hml.trans hL.2.1.symm) hown (hts _ (ms_g _ (mb_k6 _ hmem rfl) rfl)) (hts _ (ms_g _ mb_mx.1 rfl)) (hts _ (ms_g _ mb_mx.2.2.2.2 rfl)) (hts _ (ms_g _ mb_mx.2.1 rfl)) (by omega) (by rw [ms_cat_eq]; omega) (by rw [hRc]; exact hkc) (by rw [hRs]; exact hks) hin (hK _ _ _ _ _ _ hd H locs lr hL hI hkc hks)
    · dsimp only at hk
      subst hk
      obtain ⟨y, z, r, rfl, hr, hd⟩ := iv_i2 hd
      exact va_mmin hx hb (hml.trans hL.2.1.symm) hown (hts _ (ms_g _ (mb_k7 _ hmem rfl) rfl)) (hts _ (ms_g _ mb_mx.2.2.1 rfl)) (hts _ (ms_g _ mb_mx.2.2.2.2 rfl)) (hts _ (ms_g _ mb_mx.2.2.2.1 rfl)) (by omega) (by rw [ms_cat_eq]; omega) (by rw [hRc]; exact hkc) (by rw [hRs]; exact hks) hin (hK _ _ _ _ _ _ hd H locs lr hL hI hkc hks)
  case invokespecial ix =>
    obtain ⟨rfl, hd⟩ := hd; obtain ⟨⟨k, ia, n, cn⟩, hq, hd⟩ := iv_o hd
    obtain ⟨p1, p2, p3, hmem⟩ := ms_cl hq
    rcases hd with ⟨hk, hd⟩ | ⟨hk, hd⟩
    · dsimp only at hk hd
      obtain ⟨av, r, ⟨⟨b, hb0⟩, hr, k1, k2, hca⟩, rfl, hn⟩ := iv_ar n [] st hd
      rw [List.append_nil] at hca hb0
      obtain ⟨av', rfl⟩ := ms_split hb0
      obtain ⟨i1, i2, hM⟩ := hCal _ _ _ _ hca
      exact ms_call hK (ms_inst hC' hmem hk i1 i2 hn hM hL hI hr k1 k2 hin) hL hI k1 k2 (fun v h' hv => hv)
    · dsimp only at hk
      subst hk
      obtain ⟨b, r, rfl, hr, hd⟩ := iv_r1 hd
      exact W.objInit hx hb hown (hts _ (ms_g _ (mb_k5 _ hmem rfl) rfl)) (hts _ (ms_g _ mb_obj.1 rfl)) (hts _ (ms_g _ mb_obj.2 rfl)) rfl (by rw [hml]; exact hL.2.1) rfl hin (by omega) (by
        have := lv_room (m := m) (pc := pc) (ls := lr) (rest := (Value.ref b :: r).map (ms_v (ms_ad x B))) (st := r.map (ms_v (ms_ad x B))) (by rw [ms_cat_eq]; exact hr)
        omega) (hK _ _ _ _ _ _ hd H locs lr hL hI hkc hks)
  case ireturn => obtain ⟨rfl, hd⟩ := hd; obtain ⟨y, r, rfl, rfl, h1, h2⟩ := iv_i1 hd; exact hQ _ _ H locs lr pc kc ks h2 hI hkc hks (Or.inl ⟨y, rfl, h1, hin⟩)
  case lreturn => obtain ⟨rfl, hd⟩ := hd; obtain ⟨y, r, rfl, rfl, h1, h2⟩ := iv_l1 hd; exact hQ _ _ H locs lr pc kc ks h2 hI hkc hks (Or.inr (Or.inl ⟨y, rfl, h1, hin⟩))
  case return_ => obtain ⟨rfl, rfl, h1, h2⟩ := hd; exact hQ _ _ H locs lr pc kc ks h2 hI hkc hks (Or.inr (Or.inr ⟨rfl, h1, hin⟩))
  all_goals exact False.elim hd
end SO

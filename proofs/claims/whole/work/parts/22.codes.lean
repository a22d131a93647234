/-! the tables' words, method by method and call by call -/
set_option maxRecDepth 100000 in
theorem mb_dec : ∀ q ∈ mb_tab, ∀ r ∈ q.2.2.2.2.2.1, decode q.2.1 r.1 = .ok (r.2.1, r.2.2) := (List.forall_mem_cons.mpr ⟨mb_d0, (List.forall_mem_cons.mpr ⟨mb_d1, (List.forall_mem_cons.mpr ⟨mb_d2, (List.forall_mem_cons.mpr ⟨mb_d3, (List.forall_mem_cons.mpr ⟨mb_d4, (List.forall_mem_cons.mpr ⟨mb_d5, (List.forall_mem_cons.mpr ⟨mb_d6, (List.forall_mem_cons.mpr ⟨mb_d7, (List.forall_mem_cons.mpr ⟨mb_d8, (List.forall_mem_cons.mpr ⟨mb_d9, (List.forall_mem_cons.mpr ⟨mb_d10, (List.forall_mem_cons.mpr ⟨mb_d11, (List.forall_mem_cons.mpr ⟨mb_d12, (List.forall_mem_cons.mpr ⟨mb_d13, (List.forall_mem_cons.mpr ⟨mb_d14, (List.forall_mem_cons.mpr ⟨mb_d15, (List.forall_mem_cons.mpr ⟨mb_d16, (List.forall_mem_cons.mpr ⟨mb_d17, (List.forall_mem_cons.mpr ⟨mb_d18, (List.forall_mem_cons.mpr ⟨mb_d19, (List.forall_mem_cons.mpr ⟨mb_d20, (List.forall_mem_cons.mpr ⟨mb_d21, (List.forall_mem_cons.mpr ⟨mb_d22, (List.forall_mem_cons.mpr ⟨mb_d23, (List.forall_mem_cons.mpr ⟨mb_d24, (List.forall_mem_cons.mpr ⟨mb_d25, (List.forall_mem_cons.mpr ⟨mb_d26, (List.forall_mem_cons.mpr ⟨mb_d27, (List.forall_mem_cons.mpr ⟨mb_d28, (List.forall_mem_cons.mpr ⟨mb_d29, (List.forall_mem_cons.mpr ⟨mb_d30, (List.forall_mem_cons.mpr ⟨mb_d31, (List.forall_mem_cons.mpr ⟨mb_d32, (List.forall_mem_cons.mpr ⟨mb_d33, (List.forall_mem_cons.mpr ⟨mb_d34, (List.forall_mem_cons.mpr ⟨mb_d35, (List.forall_mem_cons.mpr ⟨mb_d36, (List.forall_mem_cons.mpr ⟨mb_d37, (List.forall_mem_cons.mpr ⟨mb_d38, (List.forall_mem_cons.mpr ⟨mb_d39, (List.forall_mem_cons.mpr ⟨mb_d40, (List.forall_mem_cons.mpr ⟨mb_d41, (List.forall_mem_cons.mpr ⟨mb_d42, (List.forall_mem_cons.mpr ⟨mb_d43, (List.forall_mem_cons.mpr ⟨mb_d44, (List.forall_mem_cons.mpr ⟨mb_d45, (List.forall_mem_cons.mpr ⟨mb_d46, (List.forall_mem_cons.mpr ⟨mb_d47, (List.forall_mem_cons.mpr ⟨mb_d48, (List.forall_mem_cons.mpr ⟨mb_d49, (List.forall_mem_cons.mpr ⟨mb_d50, (List.forall_mem_cons.mpr ⟨mb_d51, (List.forall_mem_cons.mpr ⟨mb_d52, (List.forall_mem_cons.mpr ⟨mb_d53, (List.forall_mem_cons.mpr ⟨mb_d54, (List.forall_mem_cons.mpr ⟨mb_d55, (List.forall_mem_cons.mpr ⟨mb_d56, (List.forall_mem_cons.mpr ⟨mb_d57, (List.forall_mem_cons.mpr ⟨mb_d58, (List.forall_mem_cons.mpr ⟨mb_d59, (List.forall_mem_cons.mpr ⟨mb_d60, (List.forall_mem_cons.mpr ⟨mb_d61, (List.forall_mem_cons.mpr ⟨mb_d62, (List.forall_mem_cons.mpr ⟨mb_d63, (List.forall_mem_cons.mpr ⟨mb_d64, (List.forall_mem_cons.mpr ⟨mb_d65, (List.forall_mem_cons.mpr ⟨mb_d66, (List.forall_mem_cons.mpr ⟨mb_d67, (List.forall_mem_cons.mpr ⟨mb_d68, (List.forall_mem_cons.mpr ⟨mb_d69, (List.forall_mem_cons.mpr ⟨mb_d70, (List.forall_mem_cons.mpr ⟨mb_d71, (List.forall_mem_cons.mpr ⟨mb_d72, (List.forall_mem_cons.mpr ⟨mb_d73, (List.forall_mem_cons.mpr ⟨mb_d74, (List.forall_mem_cons.mpr ⟨mb_d75, (List.forall_mem_cons.mpr ⟨mb_d76, (List.forall_mem_cons.mpr ⟨mb_d77, (List.forall_mem_cons.mpr ⟨mb_d78, (List.forall_mem_cons.mpr ⟨mb_d79, (List.forall_mem_cons.mpr ⟨mb_d80, (List.forall_mem_cons.mpr ⟨mb_d81, (List.forall_mem_cons.mpr ⟨mb_d82, (List.forall_mem_cons.mpr ⟨mb_d83, (List.forall_mem_cons.mpr ⟨mb_d84, (List.forall_mem_cons.mpr ⟨mb_d85, (List.forall_mem_cons.mpr ⟨mb_d86, (List.forall_mem_cons.mpr ⟨mb_d87, (List.forall_mem_cons.mpr ⟨mb_d88, (List.forall_mem_cons.mpr ⟨mb_d89, (List.forall_mem_cons.mpr ⟨mb_d90, (List.forall_mem_cons.mpr ⟨mb_d91, (List.forall_mem_cons.mpr ⟨mb_d92, (List.forall_mem_cons.mpr ⟨mb_d93, (List.forall_mem_cons.mpr ⟨mb_d94, (List.forall_mem_cons.mpr ⟨mb_d95, (List.forall_mem_cons.mpr ⟨mb_d96, (List.forall_mem_cons.mpr ⟨mb_d97, (List.forall_mem_cons.mpr ⟨mb_d98, (List.forall_mem_cons.mpr ⟨mb_d99, (List.forall_mem_cons.mpr ⟨mb_d100, (List.forall_mem_cons.mpr ⟨mb_d101, (List.forall_mem_cons.mpr ⟨mb_d102, (List.forall_mem_cons.mpr ⟨mb_d103, (List.forall_mem_cons.mpr ⟨mb_d104, (List.forall_mem_cons.mpr ⟨mb_d105, (List.forall_mem_cons.mpr ⟨mb_d106, (List.forall_mem_cons.mpr ⟨mb_d107, (List.forall_mem_cons.mpr ⟨mb_d108, (List.forall_mem_cons.mpr ⟨mb_d109, (List.forall_mem_cons.mpr ⟨mb_d110, (List.forall_mem_cons.mpr ⟨mb_d111, (List.forall_mem_cons.mpr ⟨mb_d112, (List.forall_mem_cons.mpr ⟨mb_d113, (List.forall_mem_cons.mpr ⟨mb_d114, (List.forall_mem_cons.mpr ⟨mb_d115, (List.forall_mem_cons.mpr ⟨mb_d116, (List.forall_mem_cons.mpr ⟨mb_d117, (List.forall_mem_cons.mpr ⟨mb_d118, (List.forall_mem_cons.mpr ⟨mb_d119, (List.forall_mem_cons.mpr ⟨mb_d120, (List.forall_mem_cons.mpr ⟨mb_d121, (List.forall_mem_cons.mpr ⟨mb_d122, (List.forall_mem_cons.mpr ⟨mb_d123, (List.forall_mem_cons.mpr ⟨mb_d124, (List.forall_mem_cons.mpr ⟨mb_d125, (List.forall_mem_cons.mpr ⟨mb_d126, (List.forall_mem_cons.mpr ⟨mb_d127, (List.forall_mem_cons.mpr ⟨mb_d128, (List.forall_mem_cons.mpr ⟨mb_d129, (List.forall_mem_cons.mpr ⟨mb_d130, (List.forall_mem_cons.mpr ⟨mb_d131, (List.forall_mem_cons.mpr ⟨mb_d132, (List.forall_mem_cons.mpr ⟨mb_d133, (List.forall_mem_cons.mpr ⟨mb_d134, (List.forall_mem_cons.mpr ⟨mb_d135, (List.forall_mem_cons.mpr ⟨mb_d136, (List.forall_mem_cons.mpr ⟨mb_d137, (List.forall_mem_cons.mpr ⟨mb_d138, (List.forall_mem_cons.mpr ⟨mb_d139, (List.forall_mem_cons.mpr ⟨mb_d140, (List.forall_mem_cons.mpr ⟨mb_d141, (List.forall_mem_cons.mpr ⟨mb_d142, (List.forall_mem_cons.mpr ⟨mb_d143, (List.forall_mem_cons.mpr ⟨mb_d144, (List.forall_mem_cons.mpr ⟨mb_d145, (List.forall_mem_cons.mpr ⟨mb_d146, (List.forall_mem_cons.mpr ⟨mb_d147, (List.forall_mem_cons.mpr ⟨mb_d148, (List.forall_mem_cons.mpr ⟨mb_d149, (List.forall_mem_cons.mpr ⟨mb_d150, (List.forall_mem_cons.mpr ⟨mb_d151, (List.forall_mem_cons.mpr ⟨mb_d152, (List.forall_mem_cons.mpr ⟨mb_d153, (List.forall_mem_cons.mpr ⟨mb_d154, (List.forall_mem_cons.mpr ⟨mb_d155, (List.forall_mem_cons.mpr ⟨mb_d156, (List.forall_mem_cons.mpr ⟨mb_d157, (List.forall_mem_cons.mpr ⟨mb_d158, (List.forall_mem_cons.mpr ⟨mb_d159, (List.forall_mem_cons.mpr ⟨mb_d160, (List.forall_mem_cons.mpr ⟨mb_d161, (List.forall_mem_cons.mpr ⟨mb_d162, (List.forall_mem_cons.mpr ⟨mb_d163, (List.forall_mem_cons.mpr ⟨mb_d164, (List.forall_mem_cons.mpr ⟨mb_d165, (List.forall_mem_cons.mpr ⟨mb_d166, (List.forall_mem_cons.mpr ⟨mb_d167, (List.forall_mem_cons.mpr ⟨mb_d168, (List.forall_mem_cons.mpr ⟨mb_d169, (List.forall_mem_cons.mpr ⟨mb_d170, (List.forall_mem_cons.mpr ⟨mb_d171, (List.forall_mem_cons.mpr ⟨mb_d172, (List.forall_mem_cons.mpr ⟨mb_d173, (List.forall_mem_cons.mpr ⟨mb_d174, (List.forall_mem_cons.mpr ⟨mb_d175, (List.forall_mem_cons.mpr ⟨mb_d176, (List.forall_mem_cons.mpr ⟨mb_d177, (List.forall_mem_cons.mpr ⟨mb_d178, (List.forall_mem_cons.mpr ⟨mb_d179, (List.forall_mem_cons.mpr ⟨mb_d180, (List.forall_mem_cons.mpr ⟨mb_d181, (List.forall_mem_cons.mpr ⟨mb_d182, (List.forall_mem_cons.mpr ⟨mb_d183, (List.forall_mem_cons.mpr ⟨mb_d184, (List.forall_mem_cons.mpr ⟨mb_d185, (List.forall_mem_cons.mpr ⟨mb_d186, (List.forall_mem_cons.mpr ⟨mb_d187, (List.forall_mem_cons.mpr ⟨mb_d188, (List.forall_mem_cons.mpr ⟨mb_d189, (List.forall_mem_cons.mpr ⟨mb_d190, (List.forall_mem_cons.mpr ⟨mb_d191, (List.forall_mem_cons.mpr ⟨mb_d192, (List.forall_mem_cons.mpr ⟨mb_d193, (List.forall_mem_cons.mpr ⟨mb_d194, (List.forall_mem_cons.mpr ⟨mb_d195, (List.forall_mem_cons.mpr ⟨mb_d196, (List.forall_mem_cons.mpr ⟨mb_d197, (List.forall_mem_cons.mpr ⟨mb_d198, (List.forall_mem_cons.mpr ⟨mb_d199, (List.forall_mem_cons.mpr ⟨mb_d200, (List.forall_mem_cons.mpr ⟨mb_d201, (List.forall_mem_cons.mpr ⟨mb_d202, (List.forall_mem_cons.mpr ⟨mb_d203, (List.forall_mem_cons.mpr ⟨mb_d204, (List.forall_mem_cons.mpr ⟨mb_d205, (List.forall_mem_cons.mpr ⟨mb_d206, (List.forall_mem_cons.mpr ⟨mb_d207, (List.forall_mem_cons.mpr ⟨mb_d208, (List.forall_mem_cons.mpr ⟨mb_d209, (List.forall_mem_cons.mpr ⟨mb_d210, (List.forall_mem_cons.mpr ⟨mb_d211, (List.forall_mem_cons.mpr ⟨mb_d212, (List.forall_mem_cons.mpr ⟨(fun _ h => absurd h List.not_mem_nil), (List.forall_mem_cons.mpr ⟨(fun _ h => absurd h List.not_mem_nil), (fun q hq => absurd hq List.not_mem_nil)⟩)⟩)⟩)⟩)⟩)⟩)⟩)⟩)⟩)⟩)⟩)⟩)⟩)⟩)⟩)⟩)⟩)⟩)⟩)⟩)⟩)⟩)⟩)⟩)⟩)⟩)⟩)⟩)⟩)⟩)⟩)⟩)⟩)⟩)⟩)⟩)⟩)⟩)⟩)⟩)⟩)⟩)⟩)⟩)⟩)⟩)⟩)⟩)⟩)⟩)⟩)⟩)⟩)⟩)⟩)⟩)⟩)⟩)⟩)⟩)⟩)⟩)⟩)⟩)⟩)⟩)⟩)⟩)⟩)⟩)⟩)⟩)⟩)⟩)⟩)⟩)⟩)⟩)⟩)⟩)⟩)⟩)⟩)⟩)⟩)⟩)⟩)⟩)⟩)⟩)⟩)⟩)⟩)⟩)⟩)⟩)⟩)⟩)⟩)⟩)⟩)⟩)⟩)⟩)⟩)⟩)⟩)⟩)⟩)⟩)⟩)⟩)⟩)⟩)⟩)⟩)⟩)⟩)⟩)⟩)⟩)⟩)⟩)⟩)⟩)⟩)⟩)⟩)⟩)⟩)⟩)⟩)⟩)⟩)⟩)⟩)⟩)⟩)⟩)⟩)⟩)⟩)⟩)⟩)⟩)⟩)⟩)⟩)⟩)⟩)⟩)⟩)⟩)⟩)⟩)⟩)⟩)⟩)⟩)⟩)⟩)⟩)⟩)⟩)⟩)⟩)⟩)⟩)⟩)⟩)⟩)⟩)⟩)⟩)⟩)⟩)⟩)⟩)⟩)⟩)⟩)⟩)⟩)⟩)⟩)⟩)⟩)⟩)⟩)⟩)⟩)⟩)⟩)⟩)⟩)⟩)⟩)⟩)⟩)⟩)⟩)⟩)⟩)⟩)⟩)⟩)⟩)⟩)⟩)⟩)⟩)⟩)⟩)⟩)⟩)
theorem ms_qmem (id : Nat) : ma_q id ∈ mb_tab := by
  unfold ma_q
  cases h : mb_tab[id]? with
  | none => exact List.mem_of_getElem? (i := 0) rfl
  | some q => exact List.mem_of_getElem? h
theorem ms_dec {id pc : Nat} {i : Instr} {len : Nat} (h : ma_ins id pc = some (i, len)) : decode (ma_by id) pc = .ok (i, len) := by
  have key : ∀ (l : List (Nat × Instr × Nat)), l.lookup pc = some (i, len) → (pc, i, len) ∈ l := by
    intro l
    induction l with
    | nil => intro h; cases h
    | cons q l ih =>
      obtain ⟨a, b⟩ := q
      intro h
      rw [List.lookup_cons] at h
      by_cases hq : pc == a
      · rw [hq] at h
        have e : pc = a := by simpa using hq
        subst e
        cases h
        exact List.mem_cons_self
      · have hf : (pc == a) = false := by simpa using hq
        rw [hf] at h
        exact List.mem_cons_of_mem _ (ih h)
  have h9 := mb_dec (ma_q id) (ms_qmem id) (pc, i, len) (key (ma_il id) h)
  exact h9
set_option maxRecDepth 100000 in
theorem mb_c_0 : lw_tbl[75]? = some (Cond.code ⟨"BeggarPile$Game", "<init>", "()V"⟩ prog_2_method_1_code 1 none) := rfl
set_option maxRecDepth 100000 in
theorem mb_c_1 : lw_tbl[298]? = some (Cond.code ⟨"BeggarPile$Game", "begin", "(II)V"⟩ prog_2_method_2_code 3 none) := rfl
set_option maxRecDepth 100000 in
theorem mb_c_2 : lw_tbl[551]? = some (Cond.code ⟨"BeggarPile$Game", "beginAt", "(LBeggarPile$Table;)V"⟩ prog_2_method_3_code 2 none) := rfl
set_option maxRecDepth 100000 in
theorem mb_c_3 : lw_tbl[306]? = some (Cond.code ⟨"BeggarPile$Game", "forgetAllElse", "()V"⟩ prog_2_method_4_code 1 none) := rfl
set_option maxRecDepth 100000 in
theorem mb_c_4 : lw_tbl[846]? = some (Cond.code ⟨"BeggarPile$Game", "copyFrom", "(LBeggarPile$Game;)V"⟩ prog_2_method_5_code 2 none) := rfl
set_option maxRecDepth 100000 in
theorem mb_c_5 : lw_tbl[120]? = some (Cond.code ⟨"BeggarPile$History", "<init>", "()V"⟩ prog_4_method_1_code 2 none) := rfl
set_option maxRecDepth 100000 in
theorem mb_c_6 : lw_tbl[598]? = some (Cond.code ⟨"BeggarPile$History", "size", "()I"⟩ prog_4_method_2_code 1 (some .int)) := rfl
set_option maxRecDepth 100000 in
theorem mb_c_7 : lw_tbl[310]? = some (Cond.code ⟨"BeggarPile$History", "empty", "()V"⟩ prog_4_method_3_code 1 none) := rfl
set_option maxRecDepth 100000 in
theorem mb_c_8 : lw_tbl[568]? = some (Cond.code ⟨"BeggarPile$History", "keep", "(LBeggarPile$Table;)V"⟩ prog_4_method_4_code 2 none) := rfl
set_option maxRecDepth 100000 in
theorem mb_c_9 : lw_tbl[602]? = some (Cond.code ⟨"BeggarPile$History", "bringBack", "(LBeggarPile$Table;)V"⟩ prog_4_method_5_code 2 none) := rfl
set_option maxRecDepth 100000 in
theorem mb_c_10 : lw_tbl[850]? = some (Cond.code ⟨"BeggarPile$History", "copyFrom", "(LBeggarPile$History;)V"⟩ prog_4_method_6_code 3 none) := rfl
set_option maxRecDepth 100000 in
theorem mb_c_11 : lw_tbl[571]? = some (Cond.code ⟨"BeggarPile$History", "copyTable", "(LBeggarPile$Table;LBeggarPile$Table;)V"⟩ prog_4_method_7_code 2 none) := rfl
set_option maxRecDepth 100000 in
theorem mb_c_12 : lw_tbl[222]? = some (Cond.code ⟨"BeggarPile$Reader", "<init>", "(LBeggarPile$Text;)V"⟩ prog_5_method_1_code 2 none) := rfl
set_option maxRecDepth 100000 in
theorem mb_c_13 : lw_tbl[396]? = some (Cond.code ⟨"BeggarPile$Reader", "readInto", "(LBeggarPile$Table;)I"⟩ prog_5_method_2_code 4 (some .int)) := rfl
set_option maxRecDepth 100000 in
theorem mb_c_14 : lw_tbl[478]? = some (Cond.code ⟨"BeggarPile$Reader", "readGame", "(LBeggarPile$Table;)Z"⟩ prog_5_method_3_code 4 (some .boolean)) := rfl
set_option maxRecDepth 100000 in
theorem mb_c_15 : lw_tbl[492]? = some (Cond.code ⟨"BeggarPile$Reader", "readHand", "(LBeggarPile$Table;)Z"⟩ prog_5_method_4_code 5 (some .boolean)) := rfl
set_option maxRecDepth 100000 in
theorem mb_c_16 : lw_tbl[498]? = some (Cond.code ⟨"BeggarPile$Reader", "readLay", "(LBeggarPile$Table;)Z"⟩ prog_5_method_5_code 3 (some .boolean)) := rfl
set_option maxRecDepth 100000 in
theorem mb_c_17 : lw_tbl[482]? = some (Cond.code ⟨"BeggarPile$Reader", "passes", "(I)Z"⟩ prog_5_method_6_code 2 (some .boolean)) := rfl
set_option maxRecDepth 100000 in
theorem mb_c_18 : lw_tbl[486]? = some (Cond.code ⟨"BeggarPile$Reader", "passNumber", "(II)I"⟩ prog_5_method_7_code 4 (some .int)) := rfl
set_option maxRecDepth 100000 in
theorem mb_c_19 : lw_tbl[400]? = some (Cond.code ⟨"BeggarPile$Reader", "advance", "()V"⟩ prog_5_method_8_code 2 none) := rfl
set_option maxRecDepth 100000 in
theorem mb_c_20 : lw_tbl[412]? = some (Cond.code ⟨"BeggarPile$Reader", "readWord", "()V"⟩ prog_5_method_9_code 1 none) := rfl
set_option maxRecDepth 100000 in
theorem mb_c_21 : lw_tbl[474]? = some (Cond.code ⟨"BeggarPile$Reader", "readFigures", "()V"⟩ prog_5_method_10_code 1 none) := rfl
set_option maxRecDepth 100000 in
theorem mb_c_22 : lw_tbl[408]? = some (Cond.code ⟨"BeggarPile$Reader", "isLetter", "(I)Z"⟩ prog_5_method_11_code 1 (some .boolean)) := rfl
set_option maxRecDepth 100000 in
theorem mb_c_23 : lw_tbl[470]? = some (Cond.code ⟨"BeggarPile$Reader", "isFigure", "(I)Z"⟩ prog_5_method_12_code 1 (some .boolean)) := rfl
set_option maxRecDepth 100000 in
theorem mb_c_24 : lw_tbl[139]? = some (Cond.code ⟨"BeggarPile$Seen", "<init>", "()V"⟩ prog_7_method_1_code 1 none) := rfl
set_option maxRecDepth 100000 in
theorem mb_c_25 : lw_tbl[714]? = some (Cond.code ⟨"BeggarPile$Seen", "size", "()I"⟩ prog_7_method_2_code 1 (some .int)) := rfl
set_option maxRecDepth 100000 in
theorem mb_c_26 : lw_tbl[705]? = some (Cond.code ⟨"BeggarPile$Seen", "isFull", "()Z"⟩ prog_7_method_3_code 1 (some .boolean)) := rfl
set_option maxRecDepth 100000 in
theorem mb_c_27 : lw_tbl[314]? = some (Cond.code ⟨"BeggarPile$Seen", "empty", "()V"⟩ prog_7_method_4_code 1 none) := rfl
set_option maxRecDepth 100000 in
theorem mb_c_28 : lw_tbl[709]? = some (Cond.code ⟨"BeggarPile$Seen", "add", "(IIII)V"⟩ prog_7_method_5_code 5 none) := rfl
set_option maxRecDepth 100000 in
theorem mb_c_29 : lw_tbl[734]? = some (Cond.code ⟨"BeggarPile$Seen", "allOwed", "(I)Z"⟩ prog_7_method_6_code 3 (some .boolean)) := rfl
set_option maxRecDepth 100000 in
theorem mb_c_30 : lw_tbl[763]? = some (Cond.code ⟨"BeggarPile$Seen", "allCame", "(II)Z"⟩ prog_7_method_7_code 4 (some .boolean)) := rfl
set_option maxRecDepth 100000 in
theorem mb_c_31 : lw_tbl[885]? = some (Cond.code ⟨"BeggarPile$Seen", "mixInto", "(JZ)J"⟩ prog_7_method_8_code 7 (some .long)) := rfl
set_option maxRecDepth 100000 in
theorem mb_c_32 : lw_tbl[854]? = some (Cond.code ⟨"BeggarPile$Seen", "copyFrom", "(LBeggarPile$Seen;)V"⟩ prog_7_method_9_code 3 none) := rfl
set_option maxRecDepth 100000 in
theorem mb_c_33 : lw_tbl[81]? = some (Cond.code ⟨"BeggarPile$Table", "<init>", "()V"⟩ prog_8_method_1_code 1 none) := rfl
set_option maxRecDepth 100000 in
theorem mb_c_34 : lw_tbl[302]? = some (Cond.code ⟨"BeggarPile$Table", "begin", "(II)V"⟩ prog_8_method_2_code 3 none) := rfl
set_option maxRecDepth 100000 in
theorem mb_c_35 : lw_tbl[555]? = some (Cond.code ⟨"BeggarPile$Table", "copyFrom", "(LBeggarPile$Table;)V"⟩ prog_8_method_3_code 2 none) := rfl
set_option maxRecDepth 100000 in
theorem mb_c_36 : lw_tbl[637]? = some (Cond.code ⟨"BeggarPile$Table", "liesAs", "(LBeggarPile$Table;)Z"⟩ prog_8_method_4_code 2 (some .boolean)) := rfl
set_option maxRecDepth 100000 in
theorem mb_c_37 : lw_tbl[352]? = some (Cond.code ⟨"BeggarPile$Table", "row", "(I)J"⟩ prog_8_method_5_code 2 (some .long)) := rfl
set_option maxRecDepth 100000 in
theorem mb_c_38 : lw_tbl[361]? = some (Cond.code ⟨"BeggarPile$Table", "setHand", "(IJ)V"⟩ prog_8_method_6_code 4 none) := rfl
set_option maxRecDepth 100000 in
theorem mb_c_39 : lw_tbl[325]? = some (Cond.code ⟨"BeggarPile$Table", "kindOf", "(I)I"⟩ prog_8_method_7_code 2 (some .int)) := rfl
set_option maxRecDepth 100000 in
theorem mb_c_40 : lw_tbl[329]? = some (Cond.code ⟨"BeggarPile$Table", "setKind", "(II)V"⟩ prog_8_method_8_code 3 none) := rfl
set_option maxRecDepth 100000 in
theorem mb_c_41 : lw_tbl[291]? = some (Cond.code ⟨"BeggarPile$Table", "cards", "()I"⟩ prog_8_method_9_code 1 (some .int)) := rfl
set_option maxRecDepth 100000 in
theorem mb_c_42 : lw_tbl[338]? = some (Cond.code ⟨"BeggarPile$Table", "hasRoom", "()Z"⟩ prog_8_method_10_code 1 (some .boolean)) := rfl
set_option maxRecDepth 100000 in
theorem mb_c_43 : lw_tbl[581]? = some (Cond.code ⟨"BeggarPile$Table", "hasPlace", "(II)Z"⟩ prog_8_method_11_code 3 (some .boolean)) := rfl
set_option maxRecDepth 100000 in
theorem mb_c_44 : lw_tbl[621]? = some (Cond.code ⟨"BeggarPile$Table", "number", "(I)I"⟩ prog_8_method_12_code 2 (some .int)) := rfl
set_option maxRecDepth 100000 in
theorem mb_c_45 : lw_tbl[347]? = some (Cond.code ⟨"BeggarPile$Table", "deal", "(II)V"⟩ prog_8_method_13_code 3 none) := rfl
set_option maxRecDepth 100000 in
theorem mb_c_46 : lw_tbl[585]? = some (Cond.code ⟨"BeggarPile$Table", "swapPlaces", "(II)V"⟩ prog_8_method_14_code 5 none) := rfl
set_option maxRecDepth 100000 in
theorem mb_c_47 : lw_tbl[510]? = some (Cond.code ⟨"BeggarPile$Table", "isDone", "()Z"⟩ prog_8_method_15_code 1 (some .boolean)) := rfl
set_option maxRecDepth 100000 in
theorem mb_c_48 : lw_tbl[530]? = some (Cond.code ⟨"BeggarPile$Table", "other", "()I"⟩ prog_8_method_16_code 1 (some .int)) := rfl
set_option maxRecDepth 100000 in
theorem mb_c_49 : lw_tbl[506]? = some (Cond.code ⟨"BeggarPile$Table", "mayMove", "()Z"⟩ prog_8_method_17_code 1 (some .boolean)) := rfl
set_option maxRecDepth 100000 in
theorem mb_c_50 : lw_tbl[502]? = some (Cond.code ⟨"BeggarPile$Table", "moveUpTo", "(I)I"⟩ prog_8_method_18_code 3 (some .int)) := rfl
set_option maxRecDepth 100000 in
theorem mb_c_51 : lw_tbl[514]? = some (Cond.code ⟨"BeggarPile$Table", "move", "()V"⟩ prog_8_method_19_code 5 none) := rfl
set_option maxRecDepth 100000 in
theorem mb_c_52 : lw_tbl[534]? = some (Cond.code ⟨"BeggarPile$Table", "takePile", "()V"⟩ prog_8_method_20_code 6 none) := rfl
set_option maxRecDepth 100000 in
theorem mb_c_53 : lw_tbl[208]? = some (Cond.code ⟨"BeggarPile$Text", "<init>", "()V"⟩ prog_9_method_1_code 1 none) := rfl
set_option maxRecDepth 100000 in
theorem mb_c_54 : lw_tbl[380]? = some (Cond.code ⟨"BeggarPile$Text", "size", "()I"⟩ prog_9_method_2_code 1 (some .int)) := rfl
set_option maxRecDepth 100000 in
theorem mb_c_55 : lw_tbl[371]? = some (Cond.code ⟨"BeggarPile$Text", "isFull", "()Z"⟩ prog_9_method_3_code 1 (some .boolean)) := rfl
set_option maxRecDepth 100000 in
theorem mb_c_56 : lw_tbl[375]? = some (Cond.code ⟨"BeggarPile$Text", "add", "(I)V"⟩ prog_9_method_4_code 2 none) := rfl
set_option maxRecDepth 100000 in
theorem mb_c_57 : lw_tbl[388]? = some (Cond.code ⟨"BeggarPile$Text", "empty", "()V"⟩ prog_9_method_5_code 1 none) := rfl
set_option maxRecDepth 100000 in
theorem mb_c_58 : lw_tbl[405]? = some (Cond.code ⟨"BeggarPile$Text", "at", "(I)I"⟩ prog_9_method_6_code 2 (some .int)) := rfl
set_option maxRecDepth 100000 in
theorem mb_c_59 : lw_tbl[417]? = some (Cond.code ⟨"BeggarPile$Text", "spells", "(IILjava/lang/String;)Z"⟩ prog_9_method_7_code 5 (some .boolean)) := rfl
set_option maxRecDepth 100000 in
theorem mb_c_60 : lw_tbl[182]? = some (Cond.code ⟨"BeggarPile$Trial", "<init>", "()V"⟩ prog_10_method_1_code 1 none) := rfl
set_option maxRecDepth 100000 in
theorem mb_c_61 : lw_tbl[614]? = some (Cond.code ⟨"BeggarPile$Trial", "numberBehind", "(LBeggarPile$Table;II)I"⟩ prog_10_method_2_code 5 (some .int)) := rfl
set_option maxRecDepth 100000 in
theorem mb_c_62 : lw_tbl[629]? = some (Cond.code ⟨"BeggarPile$Trial", "winner", "(LBeggarPile$Table;)I"⟩ prog_10_method_3_code 2 (some .int)) := rfl
set_option maxRecDepth 100000 in
theorem mb_c_63 : lw_tbl[646]? = some (Cond.code ⟨"BeggarPile$Trial", "length", "(LBeggarPile$Table;)I"⟩ prog_10_method_4_code 2 (some .int)) := rfl
set_option maxRecDepth 100000 in
theorem mb_c_64 : lw_tbl[654]? = some (Cond.code ⟨"BeggarPile$Trial", "firstTaken", "(LBeggarPile$Table;Z)I"⟩ prog_10_method_5_code 3 (some .int)) := rfl
set_option maxRecDepth 100000 in
theorem mb_c_65 : lw_tbl[667]? = some (Cond.code ⟨"BeggarPile$Trial", "comesRound", "(LBeggarPile$Table;)I"⟩ prog_10_method_7_code 2 (some .int)) := rfl
set_option maxRecDepth 100000 in
theorem mb_c_66 : lw_tbl[679]? = some (Cond.code ⟨"BeggarPile$Trial", "seekExchange", "(LBeggarPile$Table;I)V"⟩ prog_10_method_9_code 7 none) := rfl
set_option maxRecDepth 100000 in
theorem mb_c_67 : lw_tbl[693]? = some (Cond.code ⟨"BeggarPile$Trial", "seekCut", "(LBeggarPile$Table;I)V"⟩ prog_10_method_10_code 5 none) := rfl
set_option maxRecDepth 100000 in
theorem mb_c_68 : lw_tbl[685]? = some (Cond.code ⟨"BeggarPile$Trial", "keepIfSooner", "(II)V"⟩ prog_10_method_11_code 4 none) := rfl
set_option maxRecDepth 100000 in
theorem mb_c_69 : lw_tbl[783]? = some (Cond.code ⟨"BeggarPile$Trial", "playAllKinds", "(LBeggarPile$Table;)V"⟩ prog_10_method_12_code 5 none) := rfl
set_option maxRecDepth 100000 in
theorem mb_c_70 : lw_tbl[788]? = some (Cond.code ⟨"BeggarPile$Trial", "howManyRest", "()I"⟩ prog_10_method_13_code 3 (some .int)) := rfl
set_option maxRecDepth 100000 in
theorem mb_c_71 : lw_tbl[796]? = some (Cond.code ⟨"BeggarPile$Trial", "restingPair", "(I)I"⟩ prog_10_method_14_code 4 (some .int)) := rfl
set_option maxRecDepth 100000 in
theorem mb_c_72 : lw_tbl[792]? = some (Cond.code ⟨"BeggarPile$Trial", "rests", "(II)Z"⟩ prog_10_method_15_code 5 (some .boolean)) := rfl
set_option maxRecDepth 100000 in
theorem mb_c_73 : lw_tbl[810]? = some (Cond.code ⟨"BeggarPile$Trial", "ordersOf", "(I)I"⟩ prog_10_method_16_code 3 (some .int)) := rfl
set_option maxRecDepth 100000 in
theorem mb_c_74 : lw_tbl[807]? = some (Cond.code ⟨"BeggarPile$Trial", "ordersWon", "(LBeggarPile$Table;II)I"⟩ prog_10_method_17_code 7 (some .int)) := rfl
set_option maxRecDepth 100000 in
theorem mb_c_75 : lw_tbl[829]? = some (Cond.code ⟨"BeggarPile$Trial", "eveningsWon", "(LBeggarPile$Table;II)I"⟩ prog_10_method_18_code 8 (some .int)) := rfl
set_option maxRecDepth 100000 in
theorem mb_c_76 : lw_tbl[633]? = some (Cond.code ⟨"BeggarPile$Trial", "playOut", "(I)I"⟩ prog_10_method_19_code 4 (some .int)) := rfl
set_option maxRecDepth 100000 in
theorem mb_c_77 : lw_tbl[67]? = some (Cond.code ⟨"BeggarPile", "<init>", "()V"⟩ prog_1_method_1_code 1 none) := rfl
set_option maxRecDepth 100000 in
theorem mb_c_78 : lw_tbl[277]? = some (Cond.code ⟨"BeggarPile", "game", "(II)I"⟩ prog_1_method_2_code 4 (some .int)) := rfl
set_option maxRecDepth 100000 in
theorem mb_c_79 : lw_tbl[318]? = some (Cond.code ⟨"BeggarPile", "player", "(II)I"⟩ prog_1_method_3_code 4 (some .int)) := rfl
set_option maxRecDepth 100000 in
theorem mb_c_80 : lw_tbl[334]? = some (Cond.code ⟨"BeggarPile", "deals", "(II)I"⟩ prog_1_method_4_code 3 (some .int)) := rfl
set_option maxRecDepth 100000 in
theorem mb_c_81 : lw_tbl[367]? = some (Cond.code ⟨"BeggarPile", "type", "(I)I"⟩ prog_1_method_5_code 2 (some .int)) := rfl
set_option maxRecDepth 100000 in
theorem mb_c_82 : lw_tbl[384]? = some (Cond.code ⟨"BeggarPile", "clear", "()I"⟩ prog_1_method_6_code 2 (some .int)) := rfl
set_option maxRecDepth 100000 in
theorem mb_c_83 : lw_tbl[392]? = some (Cond.code ⟨"BeggarPile", "read", "()I"⟩ prog_1_method_7_code 2 (some .int)) := rfl
set_option maxRecDepth 100000 in
theorem mb_c_84 : lw_tbl[559]? = some (Cond.code ⟨"BeggarPile", "lays", "(I)I"⟩ prog_1_method_8_code 2 (some .int)) := rfl
set_option maxRecDepth 100000 in
theorem mb_c_85 : lw_tbl[577]? = some (Cond.code ⟨"BeggarPile", "exchanges", "(II)I"⟩ prog_1_method_9_code 3 (some .int)) := rfl
set_option maxRecDepth 100000 in
theorem mb_c_86 : lw_tbl[594]? = some (Cond.code ⟨"BeggarPile", "undo", "()I"⟩ prog_1_method_10_code 1 (some .int)) := rfl
set_option maxRecDepth 100000 in
theorem mb_c_87 : lw_tbl[606]? = some (Cond.code ⟨"BeggarPile", "card", "(II)I"⟩ prog_1_method_11_code 3 (some .int)) := rfl
set_option maxRecDepth 100000 in
theorem mb_c_88 : lw_tbl[610]? = some (Cond.code ⟨"BeggarPile", "behind", "(II)I"⟩ prog_1_method_12_code 3 (some .int)) := rfl
set_option maxRecDepth 100000 in
theorem mb_c_89 : lw_tbl[625]? = some (Cond.code ⟨"BeggarPile", "won", "()I"⟩ prog_1_method_13_code 1 (some .int)) := rfl
set_option maxRecDepth 100000 in
theorem mb_c_90 : lw_tbl[642]? = some (Cond.code ⟨"BeggarPile", "lasts", "()I"⟩ prog_1_method_14_code 1 (some .int)) := rfl
set_option maxRecDepth 100000 in
theorem mb_c_91 : lw_tbl[650]? = some (Cond.code ⟨"BeggarPile", "first", "(I)I"⟩ prog_1_method_15_code 2 (some .int)) := rfl
set_option maxRecDepth 100000 in
theorem mb_c_92 : lw_tbl[663]? = some (Cond.code ⟨"BeggarPile", "again", "()I"⟩ prog_1_method_16_code 1 (some .int)) := rfl
set_option maxRecDepth 100000 in
theorem mb_c_93 : lw_tbl[675]? = some (Cond.code ⟨"BeggarPile", "exchange", "(II)I"⟩ prog_1_method_17_code 3 (some .int)) := rfl
set_option maxRecDepth 100000 in
theorem mb_c_94 : lw_tbl[689]? = some (Cond.code ⟨"BeggarPile", "cut", "(II)I"⟩ prog_1_method_18_code 3 (some .int)) := rfl
set_option maxRecDepth 100000 in
theorem mb_c_95 : lw_tbl[701]? = some (Cond.code ⟨"BeggarPile", "note", "(II)I"⟩ prog_1_method_19_code 3 (some .int)) := rfl
set_option maxRecDepth 100000 in
theorem mb_c_96 : lw_tbl[718]? = some (Cond.code ⟨"BeggarPile", "mark", "(IIII)I"⟩ prog_1_method_20_code 5 (some .int)) := rfl
set_option maxRecDepth 100000 in
theorem mb_c_97 : lw_tbl[722]? = some (Cond.code ⟨"BeggarPile", "forget", "(I)I"⟩ prog_1_method_21_code 4 (some .int)) := rfl
set_option maxRecDepth 100000 in
theorem mb_c_98 : lw_tbl[727]? = some (Cond.code ⟨"BeggarPile", "is", "()I"⟩ prog_1_method_22_code 1 (some .int)) := rfl
set_option maxRecDepth 100000 in
theorem mb_c_99 : lw_tbl[739]? = some (Cond.code ⟨"BeggarPile", "look", "()I"⟩ prog_1_method_23_code 1 (some .int)) := rfl
set_option maxRecDepth 100000 in
theorem mb_c_100 : lw_tbl[756]? = some (Cond.code ⟨"BeggarPile", "kinds", "(I)I"⟩ prog_1_method_24_code 2 (some .int)) := rfl
set_option maxRecDepth 100000 in
theorem mb_c_101 : lw_tbl[768]? = some (Cond.code ⟨"BeggarPile", "ask", "(I)I"⟩ prog_1_method_25_code 2 (some .int)) := rfl
set_option maxRecDepth 100000 in
theorem mb_c_102 : lw_tbl[779]? = some (Cond.code ⟨"BeggarPile", "against", "(I)I"⟩ prog_1_method_26_code 2 (some .int)) := rfl
set_option maxRecDepth 100000 in
theorem mb_c_103 : lw_tbl[800]? = some (Cond.code ⟨"BeggarPile", "luck", "(II)I"⟩ prog_1_method_27_code 4 (some .int)) := rfl
set_option maxRecDepth 100000 in
theorem mb_c_104 : lw_tbl[824]? = some (Cond.code ⟨"BeggarPile", "evenings", "(II)I"⟩ prog_1_method_28_code 3 (some .int)) := rfl
set_option maxRecDepth 100000 in
theorem mb_c_105 : lw_tbl[838]? = some (Cond.code ⟨"BeggarPile", "part", "(I)J"⟩ prog_1_method_29_code 2 (some .long)) := rfl
set_option maxRecDepth 100000 in
theorem mb_c_106 : lw_tbl[842]? = some (Cond.code ⟨"BeggarPile", "image", "(I)I"⟩ prog_1_method_30_code 3 (some .int)) := rfl
set_option maxRecDepth 100000 in
theorem mb_c_107 : lw_tbl[858]? = some (Cond.code ⟨"BeggarPile", "from", "(I)I"⟩ prog_1_method_31_code 3 (some .int)) := rfl
set_option maxRecDepth 100000 in
theorem mb_c_108 : lw_tbl[862]? = some (Cond.code ⟨"BeggarPile", "status", "(I)I"⟩ prog_1_method_32_code 2 (some .int)) := rfl
set_option maxRecDepth 100000 in
theorem mb_c_109 : lw_tbl[866]? = some (Cond.code ⟨"BeggarPile", "count", "(I)I"⟩ prog_1_method_33_code 2 (some .int)) := rfl
set_option maxRecDepth 100000 in
theorem mb_c_110 : lw_tbl[875]? = some (Cond.code ⟨"BeggarPile", "digest", "()J"⟩ prog_1_method_34_code 4 (some .long)) := rfl
set_option maxRecDepth 100000 in
theorem mb_c_111 : lw_tbl[870]? = some (Cond.code ⟨"BeggarPile", "numberOf", "(I)I"⟩ prog_1_method_35_code 2 (some .int)) := rfl
set_option maxRecDepth 100000 in
theorem mb_c_112 : lw_tbl[820]? = some (Cond.code ⟨"BeggarPile", "setFraction", "(II)V"⟩ prog_1_method_36_code 4 none) := rfl
set_option maxRecDepth 100000 in
theorem mb_c_113 : lw_tbl[287]? = some (Cond.code ⟨"BeggarPile", "refusedBad", "()I"⟩ prog_1_method_37_code 1 (some .int)) := rfl
set_option maxRecDepth 100000 in
theorem mb_c_114 : lw_tbl[564]? = some (Cond.code ⟨"BeggarPile", "refusedNo", "()I"⟩ prog_1_method_38_code 1 (some .int)) := rfl
set_option maxRecDepth 100000 in
theorem mb_c_115 : lw_tbl[343]? = some (Cond.code ⟨"BeggarPile", "refusedFull", "()I"⟩ prog_1_method_39_code 1 (some .int)) := rfl
set_option maxRecDepth 100000 in
theorem mb_c_116 : lw_tbl[283]? = some (Cond.code ⟨"BeggarPile", "within", "(III)Z"⟩ prog_1_method_40_code 3 (some .boolean)) := rfl
set_option maxRecDepth 100000 in
theorem mb_c_117 : lw_tbl[321]? = some (Cond.code ⟨"BeggarPile", "isPlayer", "(I)Z"⟩ prog_1_method_41_code 1 (some .boolean)) := rfl
set_option maxRecDepth 100000 in
theorem mb_c_118 : lw_tbl[280]? = some (Cond.code ⟨"BeggarPile", "isKind", "(I)Z"⟩ prog_1_method_42_code 1 (some .boolean)) := rfl
set_option maxRecDepth 100000 in
theorem mb_c_119 : lw_tbl[526]? = some (Cond.code ⟨"BeggarPile", "owedFor", "(II)I"⟩ prog_1_method_43_code 2 (some .int)) := rfl
set_option maxRecDepth 100000 in
theorem mb_c_120 : lw_tbl[538]? = some (Cond.code ⟨"BeggarPile", "comesAt", "(III)I"⟩ prog_1_method_44_code 3 (some .int)) := rfl
set_option maxRecDepth 100000 in
theorem mb_c_121 : lw_tbl[541]? = some (Cond.code ⟨"BeggarPile", "halfOn", "(II)I"⟩ prog_1_method_45_code 2 (some .int)) := rfl
set_option maxRecDepth 100000 in
theorem mb_c_122 : lw_tbl[544]? = some (Cond.code ⟨"BeggarPile", "stepped", "(II)I"⟩ prog_1_method_46_code 2 (some .int)) := rfl
set_option maxRecDepth 100000 in
theorem mb_c_123 : lw_tbl[547]? = some (Cond.code ⟨"BeggarPile", "paired", "(II)I"⟩ prog_1_method_47_code 2 (some .int)) := rfl
set_option maxRecDepth 100000 in
theorem mb_c_124 : lw_tbl[891]? = some (Cond.code ⟨"BeggarPileModel", "<init>", "()V"⟩ prog_12_method_1_code 1 none) := rfl
set_option maxRecDepth 100000 in
theorem mb_c_125 : lw_tbl[955]? = some (Cond.code ⟨"BeggarPileModel", "in", "(III)Z"⟩ prog_12_method_2_code 3 (some .boolean)) := rfl
set_option maxRecDepth 100000 in
theorem mb_c_126 : lw_tbl[1158]? = some (Cond.code ⟨"BeggarPileModel", "has", "(II)Z"⟩ prog_12_method_3_code 2 (some .boolean)) := rfl
set_option maxRecDepth 100000 in
theorem mb_c_127 : lw_tbl[963]? = some (Cond.code ⟨"BeggarPileModel", "badBy", "(I)I"⟩ prog_12_method_4_code 2 (some .int)) := rfl
set_option maxRecDepth 100000 in
theorem mb_c_128 : lw_tbl[959]? = some (Cond.code ⟨"BeggarPileModel", "bad", "()I"⟩ prog_12_method_5_code 1 (some .int)) := rfl
set_option maxRecDepth 100000 in
theorem mb_c_129 : lw_tbl[1061]? = some (Cond.code ⟨"BeggarPileModel", "no", "()I"⟩ prog_12_method_6_code 1 (some .int)) := rfl
set_option maxRecDepth 100000 in
theorem mb_c_130 : lw_tbl[981]? = some (Cond.code ⟨"BeggarPileModel", "full", "()I"⟩ prog_12_method_7_code 1 (some .int)) := rfl
set_option maxRecDepth 100000 in
theorem mb_c_131 : lw_tbl[1043]? = some (Cond.code ⟨"BeggarPileModel", "bring", "([II[III)V"⟩ prog_12_method_8_code 6 none) := rfl
set_option maxRecDepth 100000 in
theorem mb_c_132 : lw_tbl[969]? = some (Cond.code ⟨"BeggarPileModel", "begin", "([I)V"⟩ prog_12_method_9_code 2 none) := rfl
set_option maxRecDepth 100000 in
theorem mb_c_133 : lw_tbl[966]? = some (Cond.code ⟨"BeggarPileModel", "all", "([I)I"⟩ prog_12_method_10_code 1 (some .int)) := rfl
set_option maxRecDepth 100000 in
theorem mb_c_134 : lw_tbl[952]? = some (Cond.code ⟨"BeggarPileModel", "game", "(II)I"⟩ prog_12_method_11_code 4 (some .int)) := rfl
set_option maxRecDepth 100000 in
theorem mb_c_135 : lw_tbl[973]? = some (Cond.code ⟨"BeggarPileModel", "player", "(II)I"⟩ prog_12_method_12_code 4 (some .int)) := rfl
set_option maxRecDepth 100000 in
theorem mb_c_136 : lw_tbl[984]? = some (Cond.code ⟨"BeggarPileModel", "deal", "([III)I"⟩ prog_12_method_13_code 3 (some .int)) := rfl
set_option maxRecDepth 100000 in
theorem mb_c_137 : lw_tbl[977]? = some (Cond.code ⟨"BeggarPileModel", "deals", "(II)I"⟩ prog_12_method_14_code 3 (some .int)) := rfl
set_option maxRecDepth 100000 in
theorem mb_c_138 : lw_tbl[988]? = some (Cond.code ⟨"BeggarPileModel", "type", "(I)I"⟩ prog_12_method_15_code 2 (some .int)) := rfl
set_option maxRecDepth 100000 in
theorem mb_c_139 : lw_tbl[992]? = some (Cond.code ⟨"BeggarPileModel", "clear", "()I"⟩ prog_12_method_16_code 2 (some .int)) := rfl
set_option maxRecDepth 100000 in
theorem mb_c_140 : lw_tbl[1008]? = some (Cond.code ⟨"BeggarPileModel", "kindAt", "(I)I"⟩ prog_12_method_17_code 3 (some .int)) := rfl
set_option maxRecDepth 100000 in
theorem mb_c_141 : lw_tbl[1004]? = some (Cond.code ⟨"BeggarPileModel", "nextToken", "()V"⟩ prog_12_method_18_code 2 none) := rfl
set_option maxRecDepth 100000 in
theorem mb_c_142 : lw_tbl[1023]? = some (Cond.code ⟨"BeggarPileModel", "isNumber", "(II)Z"⟩ prog_12_method_19_code 3 (some .boolean)) := rfl
set_option maxRecDepth 100000 in
theorem mb_c_143 : lw_tbl[1019]? = some (Cond.code ⟨"BeggarPileModel", "isGameItem", "()Z"⟩ prog_12_method_20_code 1 (some .boolean)) := rfl
set_option maxRecDepth 100000 in
theorem mb_c_144 : lw_tbl[1028]? = some (Cond.code ⟨"BeggarPileModel", "isHandItem", "()Z"⟩ prog_12_method_21_code 3 (some .boolean)) := rfl
set_option maxRecDepth 100000 in
theorem mb_c_145 : lw_tbl[1033]? = some (Cond.code ⟨"BeggarPileModel", "isLayItem", "()Z"⟩ prog_12_method_22_code 3 (some .boolean)) := rfl
set_option maxRecDepth 100000 in
theorem mb_c_146 : lw_tbl[1014]? = some (Cond.code ⟨"BeggarPileModel", "isItem", "()Z"⟩ prog_12_method_23_code 2 (some .boolean)) := rfl
set_option maxRecDepth 100000 in
theorem mb_c_147 : lw_tbl[1000]? = some (Cond.code ⟨"BeggarPileModel", "isRead", "()Z"⟩ prog_12_method_24_code 1 (some .boolean)) := rfl
set_option maxRecDepth 100000 in
theorem mb_c_148 : lw_tbl[996]? = some (Cond.code ⟨"BeggarPileModel", "read", "()I"⟩ prog_12_method_25_code 1 (some .int)) := rfl
set_option maxRecDepth 100000 in
theorem mb_c_149 : lw_tbl[1046]? = some (Cond.code ⟨"BeggarPileModel", "owedBy", "(II)I"⟩ prog_12_method_26_code 2 (some .int)) := rfl
set_option maxRecDepth 100000 in
theorem mb_c_150 : lw_tbl[1053]? = some (Cond.code ⟨"BeggarPileModel", "comesBy", "(III)I"⟩ prog_12_method_27_code 3 (some .int)) := rfl
set_option maxRecDepth 100000 in
theorem mb_c_151 : lw_tbl[1036]? = some (Cond.code ⟨"BeggarPileModel", "isDone", "([I)Z"⟩ prog_12_method_28_code 1 (some .boolean)) := rfl
set_option maxRecDepth 100000 in
theorem mb_c_152 : lw_tbl[1050]? = some (Cond.code ⟨"BeggarPileModel", "take", "([II)V"⟩ prog_12_method_29_code 5 none) := rfl
set_option maxRecDepth 100000 in
theorem mb_c_153 : lw_tbl[1040]? = some (Cond.code ⟨"BeggarPileModel", "lay", "([I)V"⟩ prog_12_method_30_code 6 none) := rfl
set_option maxRecDepth 100000 in
theorem mb_c_154 : lw_tbl[1065]? = some (Cond.code ⟨"BeggarPileModel", "notes", "()V"⟩ prog_12_method_31_code 1 none) := rfl
set_option maxRecDepth 100000 in
theorem mb_c_155 : lw_tbl[1057]? = some (Cond.code ⟨"BeggarPileModel", "lays", "(I)I"⟩ prog_12_method_32_code 3 (some .int)) := rfl
set_option maxRecDepth 100000 in
theorem mb_c_156 : lw_tbl[1072]? = some (Cond.code ⟨"BeggarPileModel", "change", "([III)V"⟩ prog_12_method_33_code 4 none) := rfl
set_option maxRecDepth 100000 in
theorem mb_c_157 : lw_tbl[1069]? = some (Cond.code ⟨"BeggarPileModel", "exchanges", "(II)I"⟩ prog_12_method_34_code 3 (some .int)) := rfl
set_option maxRecDepth 100000 in
theorem mb_c_158 : lw_tbl[1076]? = some (Cond.code ⟨"BeggarPileModel", "undo", "()I"⟩ prog_12_method_35_code 1 (some .int)) := rfl
set_option maxRecDepth 100000 in
theorem mb_c_159 : lw_tbl[1080]? = some (Cond.code ⟨"BeggarPileModel", "card", "(II)I"⟩ prog_12_method_36_code 3 (some .int)) := rfl
set_option maxRecDepth 100000 in
theorem mb_c_160 : lw_tbl[1088]? = some (Cond.code ⟨"BeggarPileModel", "begins", "()V"⟩ prog_12_method_37_code 1 none) := rfl
set_option maxRecDepth 100000 in
theorem mb_c_161 : lw_tbl[1084]? = some (Cond.code ⟨"BeggarPileModel", "behind", "(II)I"⟩ prog_12_method_38_code 4 (some .int)) := rfl
set_option maxRecDepth 100000 in
theorem mb_c_162 : lw_tbl[1096]? = some (Cond.code ⟨"BeggarPileModel", "lastsOf", "()I"⟩ prog_12_method_39_code 2 (some .int)) := rfl
set_option maxRecDepth 100000 in
theorem mb_c_163 : lw_tbl[1120]? = some (Cond.code ⟨"BeggarPileModel", "winsOf", "(I)I"⟩ prog_12_method_40_code 3 (some .int)) := rfl
set_option maxRecDepth 100000 in
theorem mb_c_164 : lw_tbl[1092]? = some (Cond.code ⟨"BeggarPileModel", "won", "()I"⟩ prog_12_method_41_code 1 (some .int)) := rfl
set_option maxRecDepth 100000 in
theorem mb_c_165 : lw_tbl[1100]? = some (Cond.code ⟨"BeggarPileModel", "lasts", "()I"⟩ prog_12_method_42_code 1 (some .int)) := rfl
set_option maxRecDepth 100000 in
theorem mb_c_166 : lw_tbl[1104]? = some (Cond.code ⟨"BeggarPileModel", "first", "(I)I"⟩ prog_12_method_43_code 5 (some .int)) := rfl
set_option maxRecDepth 100000 in
theorem mb_c_167 : lw_tbl[1112]? = some (Cond.code ⟨"BeggarPileModel", "isAsNow", "()Z"⟩ prog_12_method_44_code 4 (some .boolean)) := rfl
set_option maxRecDepth 100000 in
theorem mb_c_168 : lw_tbl[1108]? = some (Cond.code ⟨"BeggarPileModel", "again", "()I"⟩ prog_12_method_45_code 2 (some .int)) := rfl
set_option maxRecDepth 100000 in
theorem mb_c_169 : lw_tbl[1116]? = some (Cond.code ⟨"BeggarPileModel", "exchange", "(II)I"⟩ prog_12_method_46_code 10 (some .int)) := rfl
set_option maxRecDepth 100000 in
theorem mb_c_170 : lw_tbl[1128]? = some (Cond.code ⟨"BeggarPileModel", "turnOn", "(II)V"⟩ prog_12_method_47_code 6 none) := rfl
set_option maxRecDepth 100000 in
theorem mb_c_171 : lw_tbl[1124]? = some (Cond.code ⟨"BeggarPileModel", "cut", "(II)I"⟩ prog_12_method_48_code 8 (some .int)) := rfl
set_option maxRecDepth 100000 in
theorem mb_c_172 : lw_tbl[1132]? = some (Cond.code ⟨"BeggarPileModel", "note", "(II)I"⟩ prog_12_method_49_code 3 (some .int)) := rfl
set_option maxRecDepth 100000 in
theorem mb_c_173 : lw_tbl[1136]? = some (Cond.code ⟨"BeggarPileModel", "mark", "(IIII)I"⟩ prog_12_method_50_code 6 (some .int)) := rfl
set_option maxRecDepth 100000 in
theorem mb_c_174 : lw_tbl[1140]? = some (Cond.code ⟨"BeggarPileModel", "forget", "(I)I"⟩ prog_12_method_51_code 4 (some .int)) := rfl
set_option maxRecDepth 100000 in
theorem mb_c_175 : lw_tbl[1148]? = some (Cond.code ⟨"BeggarPileModel", "cardsSeen", "()I"⟩ prog_12_method_52_code 5 (some .int)) := rfl
set_option maxRecDepth 100000 in
theorem mb_c_176 : lw_tbl[1166]? = some (Cond.code ⟨"BeggarPileModel", "playersSeen", "(I)I"⟩ prog_12_method_53_code 7 (some .int)) := rfl
set_option maxRecDepth 100000 in
theorem mb_c_177 : lw_tbl[1155]? = some (Cond.code ⟨"BeggarPileModel", "alike", "(III)I"⟩ prog_12_method_54_code 9 (some .int)) := rfl
set_option maxRecDepth 100000 in
theorem mb_c_178 : lw_tbl[1144]? = some (Cond.code ⟨"BeggarPileModel", "is", "()I"⟩ prog_12_method_55_code 1 (some .int)) := rfl
set_option maxRecDepth 100000 in
theorem mb_c_179 : lw_tbl[1152]? = some (Cond.code ⟨"BeggarPileModel", "look", "()I"⟩ prog_12_method_56_code 6 (some .int)) := rfl
set_option maxRecDepth 100000 in
theorem mb_c_180 : lw_tbl[1162]? = some (Cond.code ⟨"BeggarPileModel", "kinds", "(I)I"⟩ prog_12_method_57_code 2 (some .int)) := rfl
set_option maxRecDepth 100000 in
theorem mb_c_181 : lw_tbl[1170]? = some (Cond.code ⟨"BeggarPileModel", "ask", "(I)I"⟩ prog_12_method_58_code 9 (some .int)) := rfl
set_option maxRecDepth 100000 in
theorem mb_c_182 : lw_tbl[1178]? = some (Cond.code ⟨"BeggarPileModel", "isRest", "(II)Z"⟩ prog_12_method_59_code 5 (some .boolean)) := rfl
set_option maxRecDepth 100000 in
theorem mb_c_183 : lw_tbl[1174]? = some (Cond.code ⟨"BeggarPileModel", "against", "(I)I"⟩ prog_12_method_60_code 4 (some .int)) := rfl
set_option maxRecDepth 100000 in
theorem mb_c_184 : lw_tbl[1190]? = some (Cond.code ⟨"BeggarPileModel", "tells", "(JJ)I"⟩ prog_12_method_61_code 11 (some .int)) := rfl
set_option maxRecDepth 100000 in
theorem mb_c_185 : lw_tbl[1186]? = some (Cond.code ⟨"BeggarPileModel", "order", "(III)V"⟩ prog_12_method_62_code 9 none) := rfl
set_option maxRecDepth 100000 in
theorem mb_c_186 : lw_tbl[1182]? = some (Cond.code ⟨"BeggarPileModel", "luck", "(II)I"⟩ prog_12_method_63_code 7 (some .int)) := rfl
set_option maxRecDepth 100000 in
theorem mb_c_187 : lw_tbl[1194]? = some (Cond.code ⟨"BeggarPileModel", "evenings", "(II)I"⟩ prog_12_method_64_code 7 (some .int)) := rfl
set_option maxRecDepth 100000 in
theorem mb_c_188 : lw_tbl[1204]? = some (Cond.code ⟨"BeggarPileModel", "part", "(I)J"⟩ prog_12_method_65_code 2 (some .long)) := rfl
set_option maxRecDepth 100000 in
theorem mb_c_189 : lw_tbl[1208]? = some (Cond.code ⟨"BeggarPileModel", "image", "(I)I"⟩ prog_12_method_66_code 2 (some .int)) := rfl
set_option maxRecDepth 100000 in
theorem mb_c_190 : lw_tbl[1212]? = some (Cond.code ⟨"BeggarPileModel", "from", "(I)I"⟩ prog_12_method_67_code 2 (some .int)) := rfl
set_option maxRecDepth 100000 in
theorem mb_c_191 : lw_tbl[1216]? = some (Cond.code ⟨"BeggarPileModel", "status", "(I)I"⟩ prog_12_method_68_code 2 (some .int)) := rfl
set_option maxRecDepth 100000 in
theorem mb_c_192 : lw_tbl[1224]? = some (Cond.code ⟨"BeggarPileModel", "counted", "(I)I"⟩ prog_12_method_69_code 2 (some .int)) := rfl
set_option maxRecDepth 100000 in
theorem mb_c_193 : lw_tbl[1220]? = some (Cond.code ⟨"BeggarPileModel", "count", "(I)I"⟩ prog_12_method_70_code 2 (some .int)) := rfl
set_option maxRecDepth 100000 in
theorem mb_c_194 : lw_tbl[1228]? = some (Cond.code ⟨"BeggarPileModel", "digest", "()J"⟩ prog_12_method_71_code 5 (some .long)) := rfl
set_option maxRecDepth 100000 in
theorem mb_c_195 : lw_tbl[730]? = some (Cond.code ⟨"BeggarPile$Guess", "cardKinds", "(LBeggarPile$Seen;)I"⟩ prog_3_method_2_code 3 (some .int)) := rfl
set_option maxRecDepth 100000 in
theorem mb_c_196 : lw_tbl[759]? = some (Cond.code ⟨"BeggarPile$Guess", "playerKinds", "(LBeggarPile$Seen;I)I"⟩ prog_3_method_3_code 4 (some .int)) := rfl
set_option maxRecDepth 100000 in
theorem mb_c_197 : lw_tbl[742]? = some (Cond.code ⟨"BeggarPile$Guess", "bestLook", "(I)I"⟩ prog_3_method_4_code 5 (some .int)) := rfl
set_option maxRecDepth 100000 in
theorem mb_c_198 : lw_tbl[771]? = some (Cond.code ⟨"BeggarPile$Guess", "bestAsk", "(I)I"⟩ prog_3_method_5_code 6 (some .int)) := rfl
set_option maxRecDepth 100000 in
theorem mb_c_199 : lw_tbl[748]? = some (Cond.code ⟨"BeggarPile$Guess", "holds", "(II)Z"⟩ prog_3_method_6_code 2 (some .boolean)) := rfl
set_option maxRecDepth 100000 in
theorem mb_c_200 : lw_tbl[745]? = some (Cond.code ⟨"BeggarPile$Guess", "mostOwedAlike", "(II)I"⟩ prog_3_method_7_code 6 (some .int)) := rfl
set_option maxRecDepth 100000 in
theorem mb_c_201 : lw_tbl[774]? = some (Cond.code ⟨"BeggarPile$Guess", "mostComingAlike", "(III)I"⟩ prog_3_method_8_code 7 (some .int)) := rfl
set_option maxRecDepth 100000 in
theorem mb_c_202 : lw_tbl[294]? = some (Cond.code ⟨"BeggarPile$Rows", "size", "(J)I"⟩ prog_6_method_2_code 2 (some .int)) := rfl
set_option maxRecDepth 100000 in
theorem mb_c_203 : lw_tbl[517]? = some (Cond.code ⟨"BeggarPile$Rows", "at", "(JI)I"⟩ prog_6_method_3_code 3 (some .int)) := rfl
set_option maxRecDepth 100000 in
theorem mb_c_204 : lw_tbl[355]? = some (Cond.code ⟨"BeggarPile$Rows", "added", "(JI)J"⟩ prog_6_method_4_code 3 (some .long)) := rfl
set_option maxRecDepth 100000 in
theorem mb_c_205 : lw_tbl[521]? = some (Cond.code ⟨"BeggarPile$Rows", "withoutFirst", "(J)J"⟩ prog_6_method_5_code 2 (some .long)) := rfl
set_option maxRecDepth 100000 in
theorem mb_c_206 : lw_tbl[588]? = some (Cond.code ⟨"BeggarPile$Rows", "put", "(JII)J"⟩ prog_6_method_6_code 4 (some .long)) := rfl
set_option maxRecDepth 100000 in
theorem mb_c_207 : lw_tbl[696]? = some (Cond.code ⟨"BeggarPile$Rows", "turned", "(JJ)J"⟩ prog_6_method_7_code 10 (some .long)) := rfl
set_option maxRecDepth 100000 in
theorem mb_c_208 : lw_tbl[813]? = some (Cond.code ⟨"BeggarPile$Rows", "inOrder", "(JII)J"⟩ prog_6_method_8_code 11 (some .long)) := rfl
set_option maxRecDepth 100000 in
theorem mb_c_209 : lw_tbl[880]? = some (Cond.code ⟨"BeggarPile$Rows", "mixInto", "(JJ)J"⟩ prog_6_method_9_code 7 (some .long)) := rfl
set_option maxRecDepth 100000 in
theorem mb_c_210 : lw_tbl[658]? = some (Cond.code ⟨"BeggarPile$Trial", "takenWithin", "(LBeggarPile$Table;IZ)I"⟩ prog_10_method_6_code 5 (some .int)) := rfl
set_option maxRecDepth 100000 in
theorem mb_c_211 : lw_tbl[671]? = some (Cond.code ⟨"BeggarPile$Trial", "roundWithin", "(LBeggarPile$Table;I)I"⟩ prog_10_method_8_code 4 (some .int)) := rfl
set_option maxRecDepth 100000 in
theorem mb_c_213 : lw_tbl[421]? = some (Cond.code ⟨"java/lang/String", "length", "()I"⟩ prog_14_method_54_code 1 (some .int)) := rfl
set_option maxRecDepth 100000 in
theorem mb_c_214 : lw_tbl[431]? = some (Cond.code ⟨"java/lang/String", "charAt", "(I)C"⟩ prog_14_method_56_code 2 (some .char)) := rfl

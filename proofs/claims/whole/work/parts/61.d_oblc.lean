/-! ===== pure: obligations of an event, on the class's side ===== -/
theorem so_divide (e s x y : Int32) : sX2_divide e s x y := by
  unfold sX2_divide
  simp only [implies_true, forall_eq, and_self, and_true, not_false_eq_true]
  exact ⟨trivial, fun h => h⟩
theorem so_udiv (s x y : Int32) : sX2_divideUnsigned s x y := by
  unfold sX2_divideUnsigned
  simp only [implies_true, forall_eq, and_self, and_true]
  refine ⟨trivial, fun h q => h ?_⟩
  have := u_long y
  rw [q] at this
  apply u_ext
  have z : (0 : Int64).toInt = 0 := rfl
  rw [z] at this
  have z2 : uw 0 = 0 := rfl
  omega
theorem so_calc (op u i e s x y : Int32) : sX2_calculate op u i e s x y := by
  unfold sX2_calculate
  simp only [implies_true, forall_eq, and_self, and_true, so_divide, so_udiv]
theorem so_compare {T d a b i s : Int32} {rg : Nat → Int32} (ha : vp_in a 32) (hb : vp_in b 32) : sX2_compare T d a b i s rg := by
  unfold sX2_compare
  simp only [implies_true, forall_eq, and_self, and_true, ha, hb]
theorem so_branch {op b s : Int32} (hb : vp_in b 32) : sX2_branch op b s := by
  unfold sX2_branch
  simp only [implies_true, forall_eq, and_self, and_true, hb, true_and]
  have k10 : isB (1 : Int32) := Or.inr rfl
  split
  · exact isB_ite _
  · split
    · exact isB_ite' _
    · exact k10
theorem so_single {sr epc esr eea held count timer mask ret latch sets passed size op u : Int32} {sum : Int64} {wo co va : Nat → Int32} (h : LinesOk size passed co ret) : sX2_single sr epc esr eea held sum count timer mask ret latch sets passed size op u wo co va := by
  unfold sX2_single
  have hr := s_read (held := held) (latch := latch) (sets := sets) (wo := wo) (va := va) h u
  simp only [implies_true, forall_eq, and_self, and_true, hr]
theorem so_access {mem : Nat → Int32} {sets T op d a i s : Int32} {rg wo : Nat → Int32} (hs : sets = 16 ∨ sets = 32 ∨ sets = 64 ∨ sets = 128) (ha : vp_in a 32) (hd : vp_in d 32) : sX2_access mem sets T op d a i s rg wo := by
  unfold sX2_access
  simp only [implies_true, forall_eq, and_self, and_true, ha, hd, s_data hs]
theorem so_workOut {mem : Nat → Int32} {pc slot sr epc esr eea held count timer mask ret latch sets passed size T op d a b u i j e1 e2 e3 e4 e5 e6 e7 e8 : Int32} {sum e9 : Int64} {rg wo co va : Nat → Int32} (hs : sets = 16 ∨ sets = 32 ∨ sets = 64 ∨ sets = 128) (h : LinesOk size passed co ret) (ha : vp_in a 32) (hb : vp_in b 32) (hd : vp_in d 32) : sX2_workOut mem pc slot sr epc esr eea held sum count timer mask ret latch sets passed size T op d a b u i j e1 e2 e3 e4 e5 e6 e7 e8 e9 rg wo co va := by
  unfold sX2_workOut
  simp only [implies_true, forall_eq, and_self, and_true, ha, hb, so_calc, so_compare ha hb, so_single h, so_access hs ha hd, so_branch hb]
theorem so_line {sr held mask ret latch passed size : Int32} {co va : Nat → Int32} (h : LinesOk size passed co ret) : sX8_lineIsDue sr held mask ret latch passed size co va := by
  unfold sX8_lineIsDue
  simp only [implies_true, forall_eq, and_self, and_true, s_status h]
theorem in31 (x : Int32) : vp_in (x &&& 31) 32 := by
  obtain ⟨k, hk⟩ := w_31n x
  rw [hk]
  exact vp_in_nI k.isLt (by decide)
theorem so_comeTo {cs : CSt} {qs : MSt} (h : RS cs qs) : sX2_comeTo (c_mem cs) (c_st_pc cs) (c_st_inSlot cs) (c_sp_sr cs) (c_sp_epc cs) (c_sp_esr cs) (c_sp_eea cs) (c_sp_held cs) (c_sp_sum cs) (c_sp_count cs) (c_sp_timer cs) (c_sp_mask cs) (c_sp_retired cs) (c_sp_latch cs) (c_mp_sets cs) (c_li_passed cs) (c_li_size cs) (c_ins_op cs) (c_ins_d cs) (c_ins_a cs) (c_ins_b cs) (c_ins_u cs) (c_ins_i cs) (c_ins_j cs) (c_ef_address cs) (c_ef_place cs) (c_ef_stored cs) (c_ef_target cs) (c_rg cs) (c_wo cs) (c_co cs) (c_va cs) := by
  unfold sX2_comeTo
  intro z1 _
  refine ⟨s_code h.setsv _ _ _, fun z2 _ => ⟨⟨fun _ _ _ _ _ => trivial, fun _ _ _ => trivial⟩, fun j3 hj3 z4 _ => ⟨fun _ => ⟨so_line h.lin, fun z5 hz5 => ⟨fun _ => ⟨fun h0 => ⟨?_, fun _ _ => trivial⟩, fun _ _ _ => trivial⟩, fun _ => trivial⟩⟩, fun _ => trivial⟩⟩⟩
  rw [if_pos h0] at hj3
  have hl := (ln_due (sr := c_sp_sr cs) (mask := c_sp_mask cs) h.lin h.lco h.lva h.sr h.msk h.held h.lat).2
  rw [← hz5] at hl
  obtain ⟨n, d, en, ed, edec⟩ := dec_all (fX6_get (c_mem cs) z2.1)
  dsimp only at hj3
  rw [edec] at hj3
  rw [hj3]
  exact so_workOut h.setsv hl (in31 _) (in31 _) (in31 _)
theorem so_ready {T d a b : Int32} {rdy : Nat → Int32} (ha : ¬ fX3_is T 1 = 0 → vp_in a 36) (hb : ¬ fX3_is T 2 = 0 → vp_in b 36) (hd : ¬ fX3_is T 4 = 0 → vp_in d 36) : sX7_readyToRead T d a b rdy := by
  unfold sX7_readyToRead
  simp only [implies_true, forall_eq, and_self, and_true, true_and]
  exact ⟨ha, hb, hd⟩
theorem so_issue {T d a b F i e o t : Int32} {iss rdy : Nat → Int32} (h : sX7_readyToRead T d a b rdy) : sX7_issue T d a b F i e o t iss rdy := by
  unfold sX7_issue
  simp only [implies_true, forall_eq, and_self, and_true, h]
theorem so_note {T d I : Int32} {rdy : Nat → Int32} (h : ∃ k : Fin 32, fX3_writtenRegister T d = nI k.val) : sX7_noteWrites T d I rdy := by
  obtain ⟨k, hk⟩ := h
  have hv : vp_in (fX3_writtenRegister T d) 36 := by rw [hk]; exact vp_in_nI (by omega) (by decide)
  unfold sX7_noteWrites
  simp only [implies_true, forall_eq, and_self, and_true, hv]
theorem so_take {pc slot T op d a b j x g p1 p2 p3 p4 p5 p6 p7 p8 p9 p10 p11 p12 fault w : Int32} {iss rdy : Nat → Int32} (hI : InsOk T d a b fault w) : sX7_take pc slot T op d a b j x g p1 p2 p3 p4 p5 p6 p7 p8 p9 p10 p11 p12 iss rdy := by
  have hr : sX7_readyToRead T d a b rdy := by
    rcases hI with ⟨hf, n, e, en, ee, eT, ed, ea, eb⟩ | ⟨hf, hf', eT⟩
    · have i36 : ∀ x : Int32, vp_in (x &&& 31) 36 := fun x => by
        obtain ⟨k, hk⟩ := w_31n x
        rw [hk]
        exact vp_in_nI (by omega) (by decide)
      rw [ed, ea, eb]
      exact so_ready (fun _ => i36 _) (fun _ => i36 _) (fun _ => i36 _)
    · rw [eT]
      exact so_ready (fun q => absurd (is0 _) q) (fun q => absurd (is0 _) q) (fun q => absurd (is0 _) q)
  unfold sX7_take
  simp only [implies_true, forall_eq, and_self, and_true, so_issue hr, so_note (wr_T hI)]
theorem so_keep {T d x v s p pl : Int32} (h2 : vp_in (p + 2) 2816) (h3 : vp_in (p + 3) 2816) (h4 : vp_in (p + 4) 2816) (h9 : vp_in ((p + 8) + 1) 2816) (h10 : vp_in ((p + 8) + 2) 2816) : sX1_keepWrites T d x v s pl p := by
  unfold sX1_keepWrites
  simp only [implies_true, forall_eq, and_self, and_true, h2, h3, h4, h9, h10]
theorem so_add {pc slot T d x v s pl st F I E cnt ex db lg lc : Int32} {fi : Nat → Int32} {ev : Nat} (hc : cnt = nI ev) (hev : ev ≤ 120000) : sX1_add pc slot T d x v s pl st F I E cnt ex db lg lc fi := by
  have cc : ∀ k : Nat, k ≤ 10 → vp_in ((nI ev &&& 255) * 11 + nI k) 2816 := by
    intro k hk
    rw [show nI ev &&& 255 = nI (ev % 256) from pk_andN (by omega) 8 (by decide), show nI (ev % 256) * 11 = nI (ev % 256 * 11) from pk_mul _ 11, nI_add]
    exact vp_in_nI (by omega) (by decide)
  have c0 : vp_in ((nI ev &&& 255) * 11) 2816 := by
    rw [show nI ev &&& 255 = nI (ev % 256) from pk_andN (by omega) 8 (by decide), show nI (ev % 256) * 11 = nI (ev % 256 * 11) from pk_mul _ 11]
    exact vp_in_nI (by omega) (by decide)
  have c1 : vp_in ((nI ev &&& 255) * 11 + 1) 2816 := cc 1 (by omega)
  have c2 : vp_in ((nI ev &&& 255) * 11 + 2) 2816 := cc 2 (by omega)
  have c3 : vp_in ((nI ev &&& 255) * 11 + 3) 2816 := cc 3 (by omega)
  have c4 : vp_in ((nI ev &&& 255) * 11 + 4) 2816 := cc 4 (by omega)
  have c5 : vp_in ((nI ev &&& 255) * 11 + 5) 2816 := cc 5 (by omega)
  have c6 : vp_in ((nI ev &&& 255) * 11 + 6) 2816 := cc 6 (by omega)
  have c7 : vp_in ((nI ev &&& 255) * 11 + 7) 2816 := cc 7 (by omega)
  have c8 : vp_in ((nI ev &&& 255) * 11 + 8) 2816 := cc 8 (by omega)
  have c9 : vp_in (((nI ev &&& 255) * 11 + 8) + 1) 2816 := by rw [Int32.add_assoc]; exact cc 9 (by omega)
  have c10 : vp_in (((nI ev &&& 255) * 11 + 8) + 2) 2816 := by rw [Int32.add_assoc]; exact cc 10 (by omega)
  unfold sX1_add
  rw [hc]
  simp only [implies_true, forall_eq, and_self, and_true, c0, c1, c5, c6, c7, c8, so_keep c2 c3 c4 c9 c10]
theorem so_put {sets p : Int32} : sX5_put sets p := by
  intro z hz
  subst hz
  refine ⟨fun _ => trivial, fun h => ⟨?_, trivial⟩⟩
  obtain ⟨k, hk, e⟩ := one_in h
  rw [e]
  exact vp_in_nI hk (by decide)
theorem so_write {sets p v : Int32} {wo : Nat → Int32} : sX8_write sets wo p v := by
  unfold sX8_write
  simp only [implies_true, forall_eq, and_self, and_true, so_put]

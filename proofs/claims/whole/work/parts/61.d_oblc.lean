/-! ===== pure: obligations of an event, on the class's side ===== -/
theorem so_divide (e s x y : Int32) : sX2_divide e s x y := by
  unfold sX2_divide
  simp only [implies_true, forall_eq, and_self, and_true, not_false_eq_true]
  exact ⟨trivial, fun h => h⟩
theorem so_udiv (s x y : Int32) : sX2_divideUnsigned s x y := by
  unfold sX2_divideUnsigned
  simp only [implies_true, forall_eq, and_self, and_true]
  refine ⟨trivial, fun h q => h ?_⟩
  have := u_long y
  rw [q] at this
  apply u_ext
  have z : (0 : Int64).toInt = 0 := rfl
  rw [z] at this
  have z2 : uw 0 = 0 := rfl
  omega
theorem so_calc (op u i e s x y : Int32) : sX2_calculate op u i e s x y := by
  unfold sX2_calculate
  simp only [implies_true, forall_eq, and_self, and_true, so_divide, so_udiv]
theorem so_compare {T d a b i s : Int32} {rg : Nat → Int32} (ha : vp_in a 32) (hb : vp_in b 32) : sX2_compare T d a b i s rg := by
  unfold sX2_compare
  simp only [implies_true, forall_eq, and_self, and_true, ha, hb]
theorem so_branch {op b s : Int32} (hb : vp_in b 32) : sX2_branch op b s := by
  unfold sX2_branch
  simp only [implies_true, forall_eq, and_self, and_true, hb, true_and]
  have k10 : isB (1 : Int32) := Or.inr rfl
  split
  · exact isB_ite _
  · split
    · exact isB_ite' _
    · exact k10
theorem so_single {sr epc esr eea held count timer mask ret latch sets passed size op u : Int32} {sum : Int64} {wo co va : Nat → Int32} (h : LinesOk size passed co ret) : sX2_single sr epc esr eea held sum count timer mask ret latch sets passed size op u wo co va := by
  unfold sX2_single
  have hr := s_read (held := held) (latch := latch) (sets := sets) (wo := wo) (va := va) h u
  simp only [implies_true, forall_eq, and_self, and_true, hr]
theorem so_access {mem : Nat → Int32} {sets T op d a i s : Int32} {rg wo : Nat → Int32} (hs : sets = 16 ∨ sets = 32 ∨ sets = 64 ∨ sets = 128) (ha : vp_in a 32) (hd : vp_in d 32) : sX2_access mem sets T op d a i s rg wo := by
  unfold sX2_access
  simp only [implies_true, forall_eq, and_self, and_true, ha, hd, s_data hs]
theorem so_workOut {mem : Nat → Int32} {pc slot sr epc esr eea held count timer mask ret latch sets passed size T op d a b u i j e1 e2 e3 e4 e5 e6 e7 e8 : Int32} {sum e9 : Int64} {rg wo co va : Nat → Int32} (hs : sets = 16 ∨ sets = 32 ∨ sets = 64 ∨ sets = 128) (h : LinesOk size passed co ret) (ha : vp_in a 32) (hb : vp_in b 32) (hd : vp_in d 32) : sX2_workOut mem pc slot sr epc esr eea held sum count timer mask ret latch sets passed size T op d a b u i j e1 e2 e3 e4 e5 e6 e7 e8 e9 rg wo co va := by
  unfold sX2_workOut
  simp only [implies_true, forall_eq, and_self, and_true, ha, hb, so_calc, so_compare ha hb, so_single h, so_access hs ha hd, so_branch hb]
theorem so_line {sr held mask ret latch passed size : Int32} {co va : Nat → Int32} (h : LinesOk size passed co ret) : sX8_lineIsDue sr held mask ret latch passed size co va := by
  unfold sX8_lineIsDue
  simp only [implies_true, forall_eq, and_self, and_true, s_status h]
theorem in31 (x : Int32) : vp_in (x &&& 31) 32 := by
  obtain ⟨k, hk⟩ := w_31n x
  rw [hk]
  exact vp_in_nI k.isLt (by decide)
theorem so_comeTo {cs : CSt} {qs : MSt} (h : RS cs qs) : sX2_comeTo (c_mem cs) (c_st_pc cs) (c_st_inSlot cs) (c_sp_sr cs) (c_sp_epc cs) (c_sp_esr cs) (c_sp_eea cs) (c_sp_held cs) (c_sp_sum cs) (c_sp_count cs) (c_sp_timer cs) (c_sp_mask cs) (c_sp_retired cs) (c_sp_latch cs) (c_mp_sets cs) (c_li_passed cs) (c_li_size cs) (c_ins_op cs) (c_ins_d cs) (c_ins_a cs) (c_ins_b cs) (c_ins_u cs) (c_ins_i cs) (c_ins_j cs) (c_ef_address cs) (c_ef_place cs) (c_ef_stored cs) (c_ef_target cs) (c_rg cs) (c_wo cs) (c_co cs) (c_va cs) := by
  unfold sX2_comeTo
  intro z1 _
  refine ⟨s_code h.setsv _ _ _, fun z2 _ => ⟨⟨fun _ _ _ _ _ => trivial, fun _ _ _ => trivial⟩, fun j3 hj3 z4 _ => ⟨fun _ => ⟨so_line h.lin, fun z5 hz5 => ⟨fun _ => ⟨fun h0 => ⟨?_, fun _ _ => trivial⟩, fun _ _ _ => trivial⟩, fun _ => trivial⟩⟩, fun _ => trivial⟩⟩⟩
  rw [if_pos h0] at hj3
  have hl := (ln_due (sr := c_sp_sr cs) (mask := c_sp_mask cs) h.lin h.lco h.lva h.sr h.msk h.held h.lat).2
  rw [← hz5] at hl
  obtain ⟨n, d, en, ed, edec⟩ := dec_all (fX6_get (c_mem cs) z2.1)
  dsimp only at hj3
  rw [edec] at hj3
  rw [hj3]
  exact so_workOut h.setsv hl (in31 _) (in31 _) (in31 _)
theorem so_ready {T d a b : Int32} {rdy : Nat → Int32} (ha : ¬ fX3_is T 1 = 0 → vp_in a 36) (hb : ¬ fX3_is T 2 = 0 → vp_in b 36) (hd : ¬ fX3_is T 4 = 0 → vp_in d 36) : sX7_readyToRead T d a b rdy := by
  unfold sX7_readyToRead
  simp only [implies_true, forall_eq, and_self, and_true, true_and]
  exact ⟨ha, hb, hd⟩
theorem so_issue {T d a b F i e o t : Int32} {iss rdy : Nat → Int32} (h : sX7_readyToRead T d a b rdy) : sX7_issue T d a b F i e o t iss rdy := by
  unfold sX7_issue
  simp only [implies_true, forall_eq, and_self, and_true, h]
theorem so_note {T d I : Int32} {rdy : Nat → Int32} (h : ∃ k : Fin 32, fX3_writtenRegister T d = nI k.val) : sX7_noteWrites T d I rdy := by
  obtain ⟨k, hk⟩ := h
  have hv : vp_in (fX3_writtenRegister T d) 36 := by rw [hk]; exact vp_in_nI (by omega) (by decide)
  unfold sX7_noteWrites
  simp only [implies_true, forall_eq, and_self, and_true, hv]
theorem so_take {pc slot T op d a b j x g p1 p2 p3 p4 p5 p6 p7 p8 p9 p10 p11 p12 fault w : Int32} {iss rdy : Nat → Int32} (hI : InsOk T d a b fault w) : sX7_take pc slot T op d a b j x g p1 p2 p3 p4 p5 p6 p7 p8 p9 p10 p11 p12 iss rdy := by
  have hr : sX7_readyToRead T d a b rdy := by
    rcases hI with ⟨hf, n, e, en, ee, eT, ed, ea, eb⟩ | ⟨hf, hf', eT⟩
    · have i36 : ∀ x : Int32, vp_in (x &&& 31) 36 := fun x => by
        obtain ⟨k, hk⟩ := w_31n x
        rw [hk]
        exact vp_in_nI (by omega) (by decide)
      rw [ed, ea, eb]
      exact so_ready (fun _ => i36 _) (fun _ => i36 _) (fun _ => i36 _)
    · rw [eT]
      exact so_ready (fun q => absurd (is0 _) q) (fun q => absurd (is0 _) q) (fun q => absurd (is0 _) q)
  unfold sX7_take
  simp only [implies_true, forall_eq, and_self, and_true, so_issue hr, so_note (wr_T hI)]
theorem so_keep {T d x v s p pl : Int32} (h2 : vp_in (p + 2) 2816) (h3 : vp_in (p + 3) 2816) (h4 : vp_in (p + 4) 2816) (h9 : vp_in ((p + 8) + 1) 2816) (h10 : vp_in ((p + 8) + 2) 2816) : sX1_keepWrites T d x v s pl p := by
  unfold sX1_keepWrites
  simp only [implies_true, forall_eq, and_self, and_true, h2, h3, h4, h9, h10]
theorem so_add {pc slot T d x v s pl st F I E cnt ex db lg lc : Int32} {fi : Nat → Int32} {ev : Nat} (hc : cnt = nI ev) (hev : ev ≤ 120000) : sX1_add pc slot T d x v s pl st F I E cnt ex db lg lc fi := by
  have cc : ∀ k : Nat, k ≤ 10 → vp_in ((nI ev &&& 255) * 11 + nI k) 2816 := by
    intro k hk
    rw [show nI ev &&& 255 = nI (ev % 256) from pk_andN (by omega) 8 (by decide), show nI (ev % 256) * 11 = nI (ev % 256 * 11) from pk_mul _ 11, nI_add]
    exact vp_in_nI (by omega) (by decide)
  have c0 : vp_in ((nI ev &&& 255) * 11) 2816 := by
    rw [show nI ev &&& 255 = nI (ev % 256) from pk_andN (by omega) 8 (by decide), show nI (ev % 256) * 11 = nI (ev % 256 * 11) from pk_mul _ 11]
    exact vp_in_nI (by omega) (by decide)
  have c1 : vp_in ((nI ev &&& 255) * 11 + 1) 2816 := cc 1 (by omega)
  have c2 : vp_in ((nI ev &&& 255) * 11 + 2) 2816 := cc 2 (by omega)
  have c3 : vp_in ((nI ev &&& 255) * 11 + 3) 2816 := cc 3 (by omega)
  have c4 : vp_in ((nI ev &&& 255) * 11 + 4) 2816 := cc 4 (by omega)
  have c5 : vp_in ((nI ev &&& 255) * 11 + 5) 2816 := cc 5 (by omega)
  have c6 : vp_in ((nI ev &&& 255) * 11 + 6) 2816 := cc 6 (by omega)
  have c7 : vp_in ((nI ev &&& 255) * 11 + 7) 2816 := cc 7 (by omega)
  have c8 : vp_in ((nI ev &&& 255) * 11 + 8) 2816 := cc 8 (by omega)
  have c9 : vp_in (((nI ev &&& 255) * 11 + 8) + 1) 2816 := by rw [Int32.add_assoc]; exact cc 9 (by omega)
  have c10 : vp_in (((nI ev &&& 255) * 11 + 8) + 2) 2816 := by rw [Int32.add_assoc]; exact cc 10 (by omega)
  unfold sX1_add
  rw [hc]
  simp only [implies_true, forall_eq, and_self, and_true, c0, c1, c5, c6, c7, c8, so_keep c2 c3 c4 c9 c10]
theorem so_put {sets p : Int32} : sX5_put sets p := by
  intro z hz
  subst hz
  refine ⟨fun _ => trivial, fun h => ⟨?_, trivial⟩⟩
  obtain ⟨k, hk, e⟩ := one_in h
  rw [e]
  exact vp_in_nI hk (by decide)
theorem so_write {sets p v : Int32} {wo : Nat → Int32} : sX8_write sets wo p v := by
  unfold sX8_write
  simp only [implies_true, forall_eq, and_self, and_true, so_put]
/-- the class's finish: a page may be made, and it is counted -/
theorem so_store {mem : Nat → Int32} {pg : Nat → Bool} {a n : Nat} {v : Int32} (hl : a < 65536) (mc : Nat) (hmc : pgc (fX6_store mem pg (nI a) (nI n) v).2 - pgc pg ≤ mc) : sX6_store mem pg mc (nI a) (nI n) v := by
  intro z1 hz1 z2 hz2 z3 hz3
  subst hz1; subst hz2; subst hz3
  refine ⟨?_, fun _ _ => trivial⟩
  have hr := put_room mem pg (nI a) (((fX6_get mem (nI a), ()).1 &&& ((fX6_maskOf (nI n) <<< (fX6_shiftOf (nI a) (nI n) &&& 31)) ^^^ (-1))) ||| ((v <<< (fX6_shiftOf (nI a) (nI n) &&& 31)) &&& (fX6_maskOf (nI n) <<< (fX6_shiftOf (nI a) (nI n) &&& 31)))) (by rw [mpage_nI hl]; omega)
  intro h1 h2
  exact Nat.le_trans (hr h1 h2) hmc
set_option maxHeartbeats 1000000 in
theorem so_finish {cs : CSt} {qs : MSt} (h : RS cs qs) {C : CCome} {L : MLook} (hL : LR (c_st_inSlot cs) (c_st_pc cs) (c_sp_sr cs) (c_sp_sum cs) (q_m_went qs) C L) (hLin : LinesOk (c_li_size cs) C.1 (c_co cs) (c_sp_retired cs)) {r : Nat} (hr : c_sp_retired cs = nI r) (hrn : r < 200000) (mc : Nat) (hmc : pgc (fX2_finish (c_mem cs) (c_pg cs) (c_st_pc cs) (c_st_inSlot cs) (c_st_branchAt cs) (c_st_target cs) (c_sp_sr cs) (c_sp_epc cs) (c_sp_esr cs) (c_sp_eea cs) (c_sp_held cs) (c_sp_sum cs) (c_sp_count cs) (c_sp_timer cs) (c_sp_mask cs) (c_sp_retired cs) (c_sp_latch cs) (c_mp_sets cs) C.1 (c_li_size cs) C.2.1 C.2.2.1 C.2.2.2.1 C.2.2.2.2.1 C.2.2.2.2.2.2.1 C.2.2.2.2.2.2.2.2.2.1 C.2.2.2.2.2.2.2.2.2.2.1 C.2.2.2.2.2.2.2.2.2.2.2.1 C.2.2.2.2.2.2.2.2.2.2.2.2.1 C.2.2.2.2.2.2.2.2.2.2.2.2.2.1 C.2.2.2.2.2.2.2.2.2.2.2.2.2.2.1 C.2.2.2.2.2.2.2.2.2.2.2.2.2.2.2.1 C.2.2.2.2.2.2.2.2.2.2.2.2.2.2.2.2.1 C.2.2.2.2.2.2.2.2.2.2.2.2.2.2.2.2.2.1 C.2.2.2.2.2.2.2.2.2.2.2.2.2.2.2.2.2.2.2 (c_rg cs) (c_wo cs) (c_co cs) (c_va cs)).2.1 - pgc (c_pg cs) ≤ mc) :
    sX2_finish (c_mem cs) (c_pg cs) mc (c_st_pc cs) (c_st_inSlot cs) (c_st_branchAt cs) (c_st_target cs) (c_sp_sr cs) (c_sp_epc cs) (c_sp_esr cs) (c_sp_eea cs) (c_sp_held cs) (c_sp_count cs) (c_sp_timer cs) (c_sp_mask cs) (c_sp_retired cs) (c_sp_latch cs) (c_mp_sets cs) C.1 (c_li_size cs) C.2.1 C.2.2.1 C.2.2.2.1 C.2.2.2.2.1 C.2.2.2.2.2.2.1 C.2.2.2.2.2.2.2.2.2.1 C.2.2.2.2.2.2.2.2.2.2.1 C.2.2.2.2.2.2.2.2.2.2.2.1 C.2.2.2.2.2.2.2.2.2.2.2.2.1 C.2.2.2.2.2.2.2.2.2.2.2.2.2.1 C.2.2.2.2.2.2.2.2.2.2.2.2.2.2.1 C.2.2.2.2.2.2.2.2.2.2.2.2.2.2.2.1 C.2.2.2.2.2.2.2.2.2.2.2.2.2.2.2.2.1 C.2.2.2.2.2.2.2.2.2.2.2.2.2.2.2.2.2.1 C.2.2.2.2.2.2.2.2.2.2.2.2.2.2.2.2.2.2.2 (c_rg cs) (c_wo cs) (c_co cs) (c_va cs) := by
  have hI := ins_ok hL
  obtain ⟨l1, l2, l3⟩ := hL
  refine ⟨fun hx => ⟨?_, fun _ _ => trivial⟩, fun _ => fun _ _ => trivial⟩
  have v4 := l3.2.2.2.1 hx
  obtain ⟨_, _, r3, _⟩ := v4
  have hstore : ¬ C.2.2.2.2.2.2.2.2.2.2.2.2.2.1 = 0 → sX6_store (c_mem cs) (c_pg cs) mc C.2.2.2.2.2.2.2.2.2.2.2.2.2.2.1 C.2.2.2.2.2.2.2.2.2.2.2.2.2.1 C.2.2.2.2.2.2.2.2.2.2.2.2.2.2.2.1 := by
    intro hs
    rcases r3 with ⟨q1, _⟩ | ⟨p, k, hk, hpk, hp, q1, q2, q3, q4, q5⟩
    · exact absurd q1 hs
    · unfold fX2_finish fX2_retire at hmc
      rw [if_pos hx] at hmc
      dsimp only at hmc
      rw [if_neg hs] at hmc
      rw [q1, q3] at hmc ⊢
      exact so_store hp mc hmc
  obtain ⟨k, hk⟩ := wr_T hI
  have hv : vp_in (fX3_writtenRegister C.2.1 C.2.2.2.1) 32 := by rw [hk]; exact vp_in_nI k.isLt (by decide)
  have ha : vp_in C.2.2.2.2.1 32 := by
    rcases hI with ⟨_, n, e, en, ee, eT, ed, ea, eb⟩ | ⟨hf, _⟩
    · rw [ea]; exact in31 _
    · rcases l1 with ⟨f1, _⟩ | ⟨_, _, _, f4⟩
      · exact absurd f1 hf
      · exact absurd hx f4
  have hr1 : c_sp_retired cs + 1 = nI (r + 1) := by rw [hr, nI_1]
  have hret : ∀ c t : Int32, sX8_retire c t (c_sp_retired cs) C.1 (c_li_size cs) (c_co cs) (c_va cs) := by
    intro c t z1 _
    exact ⟨s_lines (lines_mono hLin (by rw [hr1, hr]; exact nI_le (by omega) (by omega))), fun _ _ => trivial⟩
  unfold sX2_retire
  intro z1 hz1
  subst hz1
  refine ⟨⟨fun _ => trivial, fun _ => ⟨hv, trivial⟩⟩, fun j2 _ => ⟨⟨fun _ => trivial, fun hs => ⟨hstore hs, fun _ _ => trivial⟩⟩, fun j3 _ => ⟨⟨fun _ => ⟨ha, so_write, fun _ _ => trivial⟩, fun _ => trivial⟩, fun j4 _ => ⟨⟨fun _ _ _ => trivial, fun _ _ _ => ⟨fun _ _ _ => trivial, fun _ _ _ => trivial⟩⟩, fun j5 _ => ⟨hret _ _, fun _ _ => trivial⟩⟩⟩⟩⟩
set_option maxHeartbeats 2000000 in
theorem s_loop0 {tw p0 i : Int32} {n mc : Nat} {pg0 : Nat → Bool} {cs : CSt} (hk : c_tw_nextIsKnown cs = 0) (h1 : pgc (c_pg cs) - pgc pg0 ≤ mc) (h2 : sX2_comeTo (c_mem cs) (c_st_pc cs) (c_st_inSlot cs) (c_sp_sr cs) (c_sp_epc cs) (c_sp_esr cs) (c_sp_eea cs) (c_sp_held cs) (c_sp_sum cs) (c_sp_count cs) (c_sp_timer cs) (c_sp_mask cs) (c_sp_retired cs) (c_sp_latch cs) (c_mp_sets cs) (c_li_passed cs) (c_li_size cs) (c_ins_op cs) (c_ins_d cs) (c_ins_a cs) (c_ins_b cs) (c_ins_u cs) (c_ins_i cs) (c_ins_j cs) (c_ef_address cs) (c_ef_place cs) (c_ef_stored cs) (c_ef_target cs) (c_rg cs) (c_wo cs) (c_co cs) (c_va cs)) (h2b : ∀ C : CCome, C = C_ cs → sX7_take (c_st_pc cs) (c_st_inSlot cs) (C.2.1) (C.2.2.1) (C.2.2.2.1) (C.2.2.2.2.1) (C.2.2.2.2.2.1) (C.2.2.2.2.2.2.2.2.1) (C.2.2.2.2.2.2.2.2.2.1) (C.2.2.2.2.2.2.2.2.2.2.2.2.2.2.2.2.2.2.1) (c_pi_fetched cs) (c_pi_issued cs) (c_pi_ended cs) (c_pi_order cs) (c_pi_endedBefore cs) (c_pi_traits cs) (c_pi_pc cs) (c_pi_beganGroup cs) (c_pi_breaksGroup cs) (c_pi_redirectedFetch cs) (c_pi_branchForeseenToGo cs) (c_pi_branchRedirects cs) (c_iss cs) (c_rdy cs)) (h3 : ∀ (C : CCome) (T : Int32 × Int32 × Int32 × Int32 × Int32 × Int32 × Int32 × Int32 × Int32 × Int32 × Int32 × Int32 × (Nat → Int32) × (Nat → Int32)), C = C_ cs → T = TG C cs → T.2.2.1 ≤ tw + p0 → (sX1_add (c_st_pc cs) (c_st_inSlot cs) (C.2.1) (C.2.2.2.1) (C.2.2.2.2.2.2.2.2.2.1) (C.2.2.2.2.2.2.2.2.2.2.2.2.1) (C.2.2.2.2.2.2.2.2.2.2.2.2.2.1) (C.2.2.2.2.2.2.2.2.2.2.2.2.2.2.1) (C.2.2.2.2.2.2.2.2.2.2.2.2.2.2.2.1) (T.1) (T.2.1) (T.2.2.1) (c_ev_count cs) (c_ev_exceptions cs) (c_ev_doubleCycles cs) (c_ev_longestWay cs) (c_ev_lastCycle cs) (c_fi cs)) ∧ (sX2_finish (c_mem cs) (c_pg cs) (pgc ((F_ (cLookG C T cs)).2.1) - pgc (c_pg cs)) (c_st_pc cs) (c_st_inSlot cs) (c_st_branchAt cs) (c_st_target cs) (c_sp_sr cs) (c_sp_epc cs) (c_sp_esr cs) (c_sp_eea cs) (c_sp_held cs) (c_sp_count cs) (c_sp_timer cs) (c_sp_mask cs) (c_sp_retired cs) (c_sp_latch cs) (c_mp_sets cs) (C.1) (c_li_size cs) (C.2.1) (C.2.2.1) (C.2.2.2.1) (C.2.2.2.2.1) (C.2.2.2.2.2.2.1) (C.2.2.2.2.2.2.2.2.2.1) (C.2.2.2.2.2.2.2.2.2.2.1) (C.2.2.2.2.2.2.2.2.2.2.2.1) (C.2.2.2.2.2.2.2.2.2.2.2.2.1) (C.2.2.2.2.2.2.2.2.2.2.2.2.2.1) (C.2.2.2.2.2.2.2.2.2.2.2.2.2.2.1) (C.2.2.2.2.2.2.2.2.2.2.2.2.2.2.2.1) (C.2.2.2.2.2.2.2.2.2.2.2.2.2.2.2.2.1) (C.2.2.2.2.2.2.2.2.2.2.2.2.2.2.2.2.2.1) (C.2.2.2.2.2.2.2.2.2.2.2.2.2.2.2.2.2.2.2) (c_rg cs) (c_wo cs) (c_co cs) (c_va cs)) ∧ (pgc (c_pg cs) - pgc pg0 + (pgc ((F_ (cLookG C T cs)).2.1) - pgc (c_pg cs)) ≤ mc) ∧ (pgc (c_pg cs) - pgc pg0 + (pgc ((F_ (cLookG C T cs)).2.1) - pgc (c_pg cs)) ≤ pgc ((F_ (cLookG C T cs)).2.1) - pgc pg0) ∧ sgX10_runCycles_45 tw pg0 mc (c_mp_sets cs) (c_li_size cs) (c_co cs) (c_va cs) p0 n (ctup (i + 1) (cDone (cLookG C T cs)))) : sgX10_runCycles_45 tw pg0 mc (c_mp_sets cs) (c_li_size cs) (c_co cs) (c_va cs) p0 (n + 1) (ctup i cs) := by
  unfold sgX10_runCycles_45
  refine ⟨fun _ => ⟨h1, trivial⟩, fun _ => ⟨⟨fun _ => ⟨h2, h1, fun z5 hz5 => ⟨?_, fun _ _ => trivial⟩⟩, fun _ => trivial⟩, fun j2 hj2 => ?_⟩⟩
  · rw [cC_eq] at hz5
    exact h2b z5 hz5
  · rw [if_pos (show (ctup i cs).2.1 = 0 from hk), cC_eq] at hj2
    have hC : ∃ C, C = C_ cs := ⟨_, rfl⟩
    obtain ⟨C, hC⟩ := hC
    rw [← hC] at hj2
    have h3' := h3 C
    dsimp only [ctup] at hj2
    rw [cT_eq] at hj2
    have hT : ∃ T, T = TG C cs := ⟨_, rfl⟩
    obtain ⟨T, hT⟩ := hT
    rw [← hT] at hj2
    have h3'' := h3' T hC hT
    subst hj2
    refine ⟨fun hE => ?_, fun _ => ⟨h1, trivial⟩⟩
    obtain ⟨q1, q2, q3, q4, q5⟩ := h3'' hE
    dsimp only [ctup]
    rw [cA_eqG C T cs, cF_eqG C T cs]
    unfold cDone at q5
    generalize A_ (cLookG C T cs) = A at q5 ⊢
    generalize F_ (cLookG C T cs) = F at q2 q3 q4 q5 ⊢
    refine ⟨q1, h1, fun z3 hz3 => ⟨q2, q3, q4, fun z4 hz4 => ?_⟩⟩
    subst hz3; subst hz4
    exact q5
set_option maxHeartbeats 2000000 in
theorem s_loopK {tw p0 i : Int32} {n mc : Nat} {pg0 : Nat → Bool} {cs : CSt} (hk : ¬ c_tw_nextIsKnown cs = 0) (h1 : pgc (c_pg cs) - pgc pg0 ≤ mc) (h3 : c_pi_ended cs ≤ tw + p0 → (sX1_add (c_st_pc cs) (c_st_inSlot cs) (c_ins_traits cs) (c_ins_d cs) (c_ef_exception cs) (c_ef_value cs) (c_ef_size cs) (c_ef_place cs) (c_ef_stored cs) (c_pi_fetched cs) (c_pi_issued cs) (c_pi_ended cs) (c_ev_count cs) (c_ev_exceptions cs) (c_ev_doubleCycles cs) (c_ev_longestWay cs) (c_ev_lastCycle cs) (c_fi cs)) ∧ (sX2_finish (c_mem cs) (c_pg cs) (pgc ((F_ cs).2.1) - pgc (c_pg cs)) (c_st_pc cs) (c_st_inSlot cs) (c_st_branchAt cs) (c_st_target cs) (c_sp_sr cs) (c_sp_epc cs) (c_sp_esr cs) (c_sp_eea cs) (c_sp_held cs) (c_sp_count cs) (c_sp_timer cs) (c_sp_mask cs) (c_sp_retired cs) (c_sp_latch cs) (c_mp_sets cs) (c_li_passed cs) (c_li_size cs) (c_ins_traits cs) (c_ins_op cs) (c_ins_d cs) (c_ins_a cs) (c_ins_u cs) (c_ef_exception cs) (c_ef_hasAddress cs) (c_ef_address cs) (c_ef_value cs) (c_ef_size cs) (c_ef_place cs) (c_ef_stored cs) (c_ef_sr cs) (c_ef_sum cs) (c_ef_target cs) (c_rg cs) (c_wo cs) (c_co cs) (c_va cs)) ∧ (pgc (c_pg cs) - pgc pg0 + (pgc ((F_ cs).2.1) - pgc (c_pg cs)) ≤ mc) ∧ (pgc (c_pg cs) - pgc pg0 + (pgc ((F_ cs).2.1) - pgc (c_pg cs)) ≤ pgc ((F_ cs).2.1) - pgc pg0) ∧ sgX10_runCycles_45 tw pg0 mc (c_mp_sets cs) (c_li_size cs) (c_co cs) (c_va cs) p0 n (ctup (i + 1) (cDone cs))) : sgX10_runCycles_45 tw pg0 mc (c_mp_sets cs) (c_li_size cs) (c_co cs) (c_va cs) p0 (n + 1) (ctup i cs) := by
  unfold sgX10_runCycles_45
  refine ⟨fun _ => ⟨h1, trivial⟩, fun _ => ⟨⟨fun q => absurd q hk, fun _ => trivial⟩, fun j2 hj2 => ?_⟩⟩
  rw [if_neg (show ¬ (ctup i cs).2.1 = 0 from hk)] at hj2
  dsimp only [ctup] at hj2
  subst hj2
  refine ⟨fun hE => ?_, fun _ => ⟨h1, trivial⟩⟩
  obtain ⟨q1, q2, q3, q4, q5⟩ := h3 hE
  dsimp only [ctup]
  rw [cA_eq, cF_eq]
  unfold cDone at q5
  generalize A_ cs = A at q5 ⊢
  generalize F_ cs = F at q2 q3 q4 q5 ⊢
  refine ⟨q1, h1, fun z3 hz3 => ⟨q2, q3, q4, fun z4 hz4 => ?_⟩⟩
  subst hz3; subst hz4
  exact q5
theorem kD_pg (cs : CSt) : c_pg (cDone cs) = (F_ cs).2.1 := rfl
theorem cout_pg (r cy : Int32) (cs : CSt) : (cout r cy cs).2.2.2.2.1 = c_pg cs := rfl
theorem kLk_pg (cs : CSt) : c_pg (cLook cs) = c_pg cs := by unfold cLook; exact kL_pg _ _ _
theorem base_ret {cs : CSt} {qs : MSt} (hB : Base cs qs) : ∃ ev r : Nat, c_ev_count cs = nI ev ∧ ev ≤ 120000 ∧ c_sp_retired cs = nI r ∧ r < 200000 := by
  obtain ⟨hS, ⟨ev, ⟨ho, he, hev⟩, _, _, _, _, _, _, _, _, _, _, _, _, _, _, _, _, _, ⟨r, hr, hre⟩⟩, hn⟩ := hB
  exact ⟨ev, r, by rw [hS.evc]; exact he, hev, hr, by omega⟩
set_option maxHeartbeats 2000000 in
theorem so_loop {p old : Nat} (hp : p ≤ 2000) (hold : old + p ≤ 60000) (ev0 : Int32) (pg0 : Nat → Bool) (mc : Nat) : ∀ (n i : Nat) (cs : CSt) (qs : MSt), Base cs qs → i ≤ 2 * p → 2 * p + 2 ≤ i + n → (i = 0 → (old : Int) < (T_ cs).2.2.1.toInt) → (1 ≤ i → (i : Int) ≤ 2 * ((c_pi_ended cs).toInt - old)) → (2 ≤ i → (i : Int) ≤ 2 * ((c_pi_endedBefore cs).toInt - old) + 1) → pgc pg0 ≤ pgc (c_pg cs) → pgc ((gX10_runCycles_45 (nI old) (c_mp_sets cs) (c_li_size cs) ev0 (c_co cs) (c_va cs) (nI p) n (ctup (nI i) cs)).2.2.2.2.1) - pgc pg0 ≤ mc →
    sgX10_runCycles_45 (nI old) pg0 mc (c_mp_sets cs) (c_li_size cs) (c_co cs) (c_va cs) (nI p) n (ctup (nI i) cs)
  | 0, i, cs, qs, hB, h1, h2, j0, j1, j2, hg, hmc => absurd h2 (by omega)
  | n + 1, i, cs, qs, hB, h1, h2, j0, j1, j2, hg, hmc => by
    obtain ⟨l1, l2, l3, l4, l5⟩ := look_due hB
    obtain ⟨hLR, hLin⟩ := look_LR hB.1
    have e2 : ¬ (2 * nI p) < nI i := by
      rw [show (2 : Int32) * nI p = nI (2 * p) from pk_mul 2 p]
      exact nI_nlt (by omega) (by omega)
    have eop : nI old + nI p = nI (old + p) := nI_add old p
    have iop : (nI (old + p)).toInt = (old + p : Nat) := nI_toInt (by omega)
    have hran := e_loop hp hold ev0 (n + 1) i 130000 cs qs hB h1 h2 (by omega) j0 j1 j2
    obtain ⟨c0, q0, r1, r2, r3, r4, r5, r6, r7⟩ := hran
    have hfin : pgc (c_pg cs) ≤ pgc ((gX10_runCycles_45 (nI old) (c_mp_sets cs) (c_li_size cs) ev0 (c_co cs) (c_va cs) (nI p) (n + 1) (ctup (nI i) cs)).2.2.2.2.1) := by
      rw [r3, cout_pg, kLk_pg]
      exact pgc_mono r5
    refine s_loop0 hB.2.2 (by omega) (so_comeTo hB.1) (fun C hC => ?_) (fun C T hC hT hE => ?_)
    · subst hC
      exact so_take (ins_ok hLR)
    · have hTT : T = T_ cs := by rw [hT, hC]; rfl
      have hlk : cLookG C T cs = cLook cs := by rw [hTT, hC]; rfl
      rw [eop] at hE
      rw [hTT] at hE
      have hb' := hE
      rw [ile, iop] at hb'
      obtain ⟨s1, s2, s3, s4⟩ := e_step hB (C_ cs).1 (base_lin hB) (by omega)
      rw [← cLook_P] at s1 s2 s3 s4
      have hi1 : ((i + 1 : Nat) : Int) ≤ 2 * ((T_ cs).2.2.1.toInt - old) := by
        by_cases q0 : i = 0
        · have := j0 q0; omega
        · by_cases q1 : i = 1
          · have := j1 (by omega); omega
          · have := j2 (by omega); omega
      have hstep : gX10_runCycles_45 (nI old) (c_mp_sets cs) (c_li_size cs) ev0 (c_co cs) (c_va cs) (nI p) (n + 1) (ctup (nI i) cs) = gX10_runCycles_45 (nI old) (c_mp_sets cs) (c_li_size cs) ev0 (c_co cs) (c_va cs) (nI p) n (ctup (nI (i + 1)) (cDone (cLook cs))) := by
        rw [c_loop1, if_neg e2, eop]
        dsimp only
        rw [if_pos hB.2.2]
        have hce : c_pi_ended (cLook cs) = (T_ cs).2.2.1 := rfl
        rw [hce, if_pos hE, nI_1]
      rw [hstep] at hmc
      have hran2 := e_loop hp hold ev0 n (i + 1) 130000 (cDone (cLook cs)) (mDone (mLook qs)) s1 (by omega) (by omega) (by omega) (fun q => absurd q (by omega)) (fun _ => by rw [s3]; exact hi1) (fun _ => by rw [s4]; have := j1 (by omega); omega)
      rw [kd_sets, kd_size, kd_co, kd_va] at hran2
      obtain ⟨c1, q1, t1, t2, t3, t4, t5, t6, t7⟩ := hran2
      have hfin2 : pgc (c_pg (cDone (cLook cs))) ≤ pgc ((gX10_runCycles_45 (nI old) (c_mp_sets cs) (c_li_size cs) ev0 (c_co cs) (c_va cs) (nI p) n (ctup (nI (i + 1)) (cDone (cLook cs)))).2.2.2.2.1) := by
        rw [t3, cout_pg, kLk_pg]
        exact pgc_mono t5
      have hle1 : pgc (c_pg cs) ≤ pgc (c_pg (cDone (cLook cs))) := pgc_mono s2
      have hF : (F_ (cLookG C T cs)).2.1 = c_pg (cDone (cLook cs)) := by rw [hlk]; exact (kD_pg _).symm
      obtain ⟨ev, r, ec, hev, er, hr⟩ := base_ret hB
      refine ⟨so_add ec hev, ?_, ?_, ?_, ?_⟩
      · subst hC
        refine so_finish hB.1 hLR hLin er hr _ ?_
        rw [cF_eqG _ T cs]
        exact Nat.le_refl _
      · rw [hF]; omega
      · rw [hF]; omega
      · rw [hlk, nI_1]
        have ih := so_loop hp hold ev0 pg0 mc n (i + 1) (cDone (cLook cs)) (mDone (mLook qs)) s1 (by omega) (by omega) (fun q => absurd q (by omega)) (fun _ => by rw [s3]; exact hi1) (fun _ => by rw [s4]; have := j1 (by omega); omega) (by omega)
        rw [kd_sets, kd_size, kd_co, kd_va] at ih
        exact ih hmc
set_option maxHeartbeats 2000000 in
theorem so_known {p old : Nat} (hp1 : 1 ≤ p) (hp : p ≤ 2000) (hold : old + p ≤ 60000) (ev0 : Int32) (mc : Nat) {cs : CSt} {qs : MSt} (hB : Base cs qs) (pp : Int32) (hl : LinesOk (c_li_size cs) pp (c_co cs) (c_sp_retired cs)) (hE0 : (old : Int) < (T_ cs).2.2.1.toInt) (hmc : pgc ((gX10_runCycles_45 (nI old) (c_mp_sets cs) (c_li_size cs) ev0 (c_co cs) (c_va cs) (nI p) 4002 (ctup 0 (cLookP pp cs))).2.2.2.2.1) - pgc (c_pg cs) ≤ mc) :
    sgX10_runCycles_45 (nI old) (c_pg cs) mc (c_mp_sets cs) (c_li_size cs) (c_co cs) (c_va cs) (nI p) 4002 (ctup 0 (cLookP pp cs)) := by
  have hk1 : ¬ c_tw_nextIsKnown (cLookP pp cs) = 0 := by show ¬ (1 : Int32) = 0; decide
  have hLR := (look_LR hB.1).1
  have e2 : ¬ (2 * nI p) < 0 := by
    rw [show (2 : Int32) * nI p = nI (2 * p) from pk_mul 2 p]
    exact nI_pos (by omega)
  have eop : nI old + nI p = nI (old + p) := nI_add old p
  have iop : (nI (old + p)).toInt = (old + p : Nat) := nI_toInt (by omega)
  have hpg : c_pg (cLookP pp cs) = c_pg cs := by unfold cLookP; exact kL_pg _ _ _
  have hsl := s_loopK (tw := nI old) (p0 := nI p) (i := 0) (n := 4001) (mc := mc) (pg0 := c_pg cs) (cs := cLookP pp cs) hk1 (by rw [hpg]; omega) (fun hE => by
    have hce : c_pi_ended (cLookP pp cs) = (T_ cs).2.2.1 := rfl
    rw [hce, eop] at hE
    have hb' := hE
    rw [ile, iop] at hb'
    obtain ⟨s1, s2, s3, s4⟩ := e_step hB pp hl (by omega)
    have hstep : gX10_runCycles_45 (nI old) (c_mp_sets cs) (c_li_size cs) ev0 (c_co cs) (c_va cs) (nI p) 4002 (ctup 0 (cLookP pp cs)) = gX10_runCycles_45 (nI old) (c_mp_sets cs) (c_li_size cs) ev0 (c_co cs) (c_va cs) (nI p) 4001 (ctup (nI 1) (cDone (cLookP pp cs))) := by
      rw [show (4002 : Nat) = 4001 + 1 from rfl, loop_known pp hB.2.2 trivial, if_neg e2, eop, if_pos hE]
      rfl
    rw [hstep] at hmc
    have hran2 := e_loop hp hold ev0 4001 1 130000 (cDone (cLookP pp cs)) (mDone (mLook qs)) s1 (by omega) (by omega) (by omega) (fun q => absurd q (by omega)) (fun _ => by rw [s3]; omega) (fun q => absurd q (by omega))
    rw [kp_sets, kp_size, kp_co, kp_va] at hran2
    obtain ⟨c1, q1, t1, t2, t3, t4, t5, t6, t7⟩ := hran2
    have hfin2 : pgc (c_pg (cDone (cLookP pp cs))) ≤ pgc ((gX10_runCycles_45 (nI old) (c_mp_sets cs) (c_li_size cs) ev0 (c_co cs) (c_va cs) (nI p) 4001 (ctup (nI 1) (cDone (cLookP pp cs)))).2.2.2.2.1) := by
      rw [t3, cout_pg, kLk_pg]
      exact pgc_mono t5
    have hle1 : pgc (c_pg cs) ≤ pgc (c_pg (cDone (cLookP pp cs))) := pgc_mono s2
    have hF : (F_ (cLookP pp cs)).2.1 = c_pg (cDone (cLookP pp cs)) := (kD_pg _).symm
    obtain ⟨ev, r, ec, hev, er, hr⟩ := base_ret hB
    refine ⟨so_add (show c_ev_count (cLookP pp cs) = nI ev from ec) hev, ?_, ?_, ?_, ?_⟩
    · have hLR' : LR (c_st_inSlot cs) (c_st_pc cs) (c_sp_sr cs) (c_sp_sum cs) (q_m_went qs) (pp, (C_ cs).2) (L_ qs) := hLR
      have hLin' : LinesOk (c_li_size cs) (pp, (C_ cs).2).1 (c_co cs) (c_sp_retired cs) := hl
      have hsf := so_finish hB.1 hLR' hLin' er hr (pgc ((F_ (cLookG (pp, (C_ cs).2) (T_ cs) cs)).2.1) - pgc (c_pg cs)) (by rw [cF_eqG (pp, (C_ cs).2) (T_ cs) cs]; exact Nat.le_refl _)
      unfold cLookP
      generalize (pp, (C_ cs).2) = C at hsf ⊢
      generalize T_ cs = T at hsf ⊢
      generalize F_ (cLookG C T cs) = F at hsf ⊢
      exact hsf
    · rw [hF, hpg]; omega
    · rw [hF, hpg]; omega
    · have ih := so_loop hp hold ev0 (c_pg cs) mc 4001 1 (cDone (cLookP pp cs)) (mDone (mLook qs)) s1 (by omega) (by omega) (fun q => absurd q (by omega)) (fun _ => by rw [s3]; omega) (fun q => absurd q (by omega)) (by omega)
      rw [kp_sets, kp_size, kp_co, kp_va] at ih
      have g1 : c_mp_sets (cLookP pp cs) = c_mp_sets cs := by unfold cLookP; rw [kG2_sets]
      have g2 : c_li_size (cLookP pp cs) = c_li_size cs := by unfold cLookP; rw [kG2_size]
      have g3 : c_co (cLookP pp cs) = c_co cs := by unfold cLookP; rw [kG2_co]
      have g4 : c_va (cLookP pp cs) = c_va cs := by unfold cLookP; rw [kG2_va]
      rw [g1, g2, g3, g4]
      exact ih hmc)
  have g1 : c_mp_sets (cLookP pp cs) = c_mp_sets cs := by unfold cLookP; rw [kG2_sets]
  have g2 : c_li_size (cLookP pp cs) = c_li_size cs := by unfold cLookP; rw [kG2_size]
  have g3 : c_co (cLookP pp cs) = c_co cs := by unfold cLookP; rw [kG2_co]
  have g4 : c_va (cLookP pp cs) = c_va cs := by unfold cLookP; rw [kG2_va]
  rw [g1, g2, g3, g4] at hsl
  exact hsl
theorem crun_pg (cs : CSt) (p0 : Int32) : c_pg (c_runCycles cs p0).2 = (fX10_runCycles (c_tw_cycles cs) (c_tw_nextIsKnown cs) (c_mem cs) (c_pg cs) (c_st_pc cs) (c_st_inSlot cs) (c_st_branchAt cs) (c_st_target cs) (c_sp_sr cs) (c_sp_epc cs) (c_sp_esr cs) (c_sp_eea cs) (c_sp_held cs) (c_sp_sum cs) (c_sp_count cs) (c_sp_timer cs) (c_sp_mask cs) (c_sp_retired cs) (c_sp_latch cs) (c_mp_sets cs) (c_li_passed cs) (c_li_size cs) (c_ins_traits cs) (c_ins_op cs) (c_ins_d cs) (c_ins_a cs) (c_ins_b cs) (c_ins_u cs) (c_ins_i cs) (c_ins_j cs) (c_ef_exception cs) (c_ef_hasAddress cs) (c_ef_address cs) (c_ef_value cs) (c_ef_size cs) (c_ef_place cs) (c_ef_stored cs) (c_ef_sr cs) (c_ef_sum cs) (c_ef_goes cs) (c_ef_target cs) (c_pi_fetched cs) (c_pi_issued cs) (c_pi_ended cs) (c_pi_order cs) (c_pi_endedBefore cs) (c_pi_traits cs) (c_pi_pc cs) (c_pi_beganGroup cs) (c_pi_breaksGroup cs) (c_pi_redirectedFetch cs) (c_pi_branchForeseenToGo cs) (c_pi_branchRedirects cs) (c_ev_count cs) (c_ev_exceptions cs) (c_ev_doubleCycles cs) (c_ev_longestWay cs) (c_ev_lastCycle cs) (c_rg cs) (c_wo cs) (c_co cs) (c_va cs) (c_iss cs) (c_rdy cs) (c_fi cs) p0).2.2.2.2.1 := by
  unfold c_runCycles
  generalize fX10_runCycles (c_tw_cycles cs) (c_tw_nextIsKnown cs) (c_mem cs) (c_pg cs) (c_st_pc cs) (c_st_inSlot cs) (c_st_branchAt cs) (c_st_target cs) (c_sp_sr cs) (c_sp_epc cs) (c_sp_esr cs) (c_sp_eea cs) (c_sp_held cs) (c_sp_sum cs) (c_sp_count cs) (c_sp_timer cs) (c_sp_mask cs) (c_sp_retired cs) (c_sp_latch cs) (c_mp_sets cs) (c_li_passed cs) (c_li_size cs) (c_ins_traits cs) (c_ins_op cs) (c_ins_d cs) (c_ins_a cs) (c_ins_b cs) (c_ins_u cs) (c_ins_i cs) (c_ins_j cs) (c_ef_exception cs) (c_ef_hasAddress cs) (c_ef_address cs) (c_ef_value cs) (c_ef_size cs) (c_ef_place cs) (c_ef_stored cs) (c_ef_sr cs) (c_ef_sum cs) (c_ef_goes cs) (c_ef_target cs) (c_pi_fetched cs) (c_pi_issued cs) (c_pi_ended cs) (c_pi_order cs) (c_pi_endedBefore cs) (c_pi_traits cs) (c_pi_pc cs) (c_pi_beganGroup cs) (c_pi_breaksGroup cs) (c_pi_redirectedFetch cs) (c_pi_branchForeseenToGo cs) (c_pi_branchRedirects cs) (c_ev_count cs) (c_ev_exceptions cs) (c_ev_doubleCycles cs) (c_ev_longestWay cs) (c_ev_lastCycle cs) (c_rg cs) (c_wo cs) (c_co cs) (c_va cs) (c_iss cs) (c_rdy cs) (c_fi cs) p0 = z
  rfl
set_option maxHeartbeats 2000000 in
theorem okX10_runCycles {cs : CSt} {qs : MSt} (h : Rel cs qs) (p0 : Int32) : sX10_runCycles (c_tw_cycles cs) (c_tw_nextIsKnown cs) (c_mem cs) (c_pg cs) (pgc (c_pg (c_runCycles cs p0).2) - pgc (c_pg cs)) (c_st_pc cs) (c_st_inSlot cs) (c_st_branchAt cs) (c_st_target cs) (c_sp_sr cs) (c_sp_epc cs) (c_sp_esr cs) (c_sp_eea cs) (c_sp_held cs) (c_sp_sum cs) (c_sp_count cs) (c_sp_timer cs) (c_sp_mask cs) (c_sp_retired cs) (c_sp_latch cs) (c_mp_sets cs) (c_li_passed cs) (c_li_size cs) (c_ins_traits cs) (c_ins_op cs) (c_ins_d cs) (c_ins_a cs) (c_ins_b cs) (c_ins_u cs) (c_ins_i cs) (c_ins_j cs) (c_ef_exception cs) (c_ef_hasAddress cs) (c_ef_address cs) (c_ef_value cs) (c_ef_size cs) (c_ef_place cs) (c_ef_stored cs) (c_ef_sr cs) (c_ef_sum cs) (c_ef_goes cs) (c_ef_target cs) (c_pi_fetched cs) (c_pi_issued cs) (c_pi_ended cs) (c_pi_order cs) (c_pi_endedBefore cs) (c_pi_traits cs) (c_pi_pc cs) (c_pi_beganGroup cs) (c_pi_breaksGroup cs) (c_pi_redirectedFetch cs) (c_pi_branchForeseenToGo cs) (c_pi_branchRedirects cs) (c_ev_count cs) (c_ev_exceptions cs) (c_ev_doubleCycles cs) (c_ev_longestWay cs) (c_ev_lastCycle cs) (c_rg cs) (c_wo cs) (c_co cs) (c_va cs) (c_iss cs) (c_rdy cs) (c_fi cs) p0 := by
  have hS := h.rs
  have hpgm := crun_pg cs p0
  unfold sX10_runCycles
  refine ⟨fun _ => trivial, fun h1 => ⟨fun _ => trivial, fun h2 => ⟨fun h3 => ?_, fun _ => trivial⟩⟩⟩
  obtain ⟨old, hn, hcy⟩ := hS.cycn
  obtain ⟨p, ep, hp1, hp2, hop⟩ := run_in hn hcy h1 h2 h3
  have fc := frun_c cs p0 h1 h2 h3
  rw [hpgm, fc, hcy, ep]
  rcases h with ⟨hB, g1, g2⟩ | ⟨csb, pp, hB, hl, ec, g1, g2⟩
  · have hold : old = 0 := by
      rw [g1] at hcy
      exact ((nI_eq (a := 0) (by omega) (by omega)).mp hcy).symm
    obtain ⟨_, _, _, l4, _⟩ := look_due hB
    exact so_loop hp2 hop (c_ev_count cs) (c_pg cs) _ 4002 0 cs qs hB (by omega) (by omega) (fun _ => by omega) (fun q => absurd q (by omega)) (fun q => absurd q (by omega)) (Nat.le_refl _) (Nat.le_refl _)
  · have hcy' : (c_tw_cycles csb).toInt = old := by
      have : c_tw_cycles csb = nI old := by rw [← hcy, ec]; rfl
      rw [this]; exact nI_toInt (by omega)
    have z1 : c_mp_sets csb = c_mp_sets cs := by rw [ec]; exact (kG2_sets _ _ _).symm
    have z2 : c_li_size csb = c_li_size cs := by rw [ec]; exact (kG2_size _ _ _).symm
    have z3 : c_co csb = c_co cs := by rw [ec]; exact (kG2_co _ _ _).symm
    have z4 : c_va csb = c_va cs := by rw [ec]; exact (kG2_va _ _ _).symm
    have z5 : c_pg csb = c_pg cs := by rw [ec]; exact (kL_pg _ _ _).symm
    have hk := so_known hp1 hp2 hop (c_ev_count cs) (pgc ((gX10_runCycles_45 (nI old) (c_mp_sets cs) (c_li_size cs) (c_ev_count cs) (c_co cs) (c_va cs) (nI p) 4002 (ctup 0 cs)).2.2.2.2.1) - pgc (c_pg cs)) hB pp hl (by omega) (by rw [z1, z2, z3, z4, z5, ← ec]; exact Nat.le_refl _)
    rw [z1, z2, z3, z4, z5, ← ec] at hk
    exact hk

def RS (cs : CSt) (qs : MSt) : Prop :=
  (c_tw_cycles cs = q_m_cycles qs) ∧
  (∃ n : Nat, n ≤ 60000 ∧ c_tw_cycles cs = nI n) ∧
  (c_mp_sets cs = q_m_sets qs) ∧
  (c_mp_sets cs = 16 ∨ c_mp_sets cs = 32 ∨ c_mp_sets cs = 64 ∨ c_mp_sets cs = 128) ∧
  (∀ k, k < 16384 → c_mem cs k = wd (q_mm qs) (4 * k)) ∧
  (∀ k, k < 16384 → c_pg cs (k / 256) = false → c_mem cs k = 0) ∧
  (∀ j, j < 32 → c_rg cs j = q_mr qs j) ∧
  (c_rg cs 0 = 0) ∧
  (c_sp_sr cs = q_ms qs 0) ∧
  (c_sp_epc cs = q_ms qs 1) ∧
  (c_sp_esr cs = q_ms qs 2) ∧
  (c_sp_eea cs = q_ms qs 3) ∧
  (c_sp_count cs = q_ms qs 4) ∧
  (c_sp_timer cs = q_ms qs 5) ∧
  (c_sp_mask cs = q_ms qs 6) ∧
  (c_sp_held cs = q_ms qs 7) ∧
  (c_sp_latch cs = q_ms qs 9) ∧
  (c_sp_retired cs = q_m_retired qs) ∧
  (∃ n : Nat, n ≤ 200000 ∧ c_sp_retired cs = nI n) ∧
  (c_sp_sum cs = q_m_sum qs) ∧
  (c_sp_sr cs &&& 1023 = c_sp_sr cs) ∧
  (c_sp_esr cs &&& 1023 = c_sp_esr cs) ∧
  (¬ c_sp_timer cs < 0) ∧
  (∀ j, j < 512 → c_wo cs j = q_mw qs j) ∧
  (c_st_pc cs = q_m_pc qs) ∧
  (c_st_inSlot cs = q_m_slot qs) ∧
  (isB (c_st_inSlot cs)) ∧
  (q_m_branch qs = if c_st_inSlot cs = 0 then 0 else c_st_branchAt cs) ∧
  (q_m_target qs = if c_st_inSlot cs = 0 then 0 else c_st_target cs) ∧
  (c_li_size cs = q_m_lines qs) ∧
  (∀ j, j < 32 → c_co cs j = q_mlc qs j) ∧
  (∀ j, j < 32 → c_va cs j = q_mlv qs j) ∧
  (LinesOk (c_li_size cs) (c_li_passed cs) (c_co cs) (c_sp_retired cs)) ∧
  (∀ j, j < 2816 → c_fi cs j = q_mf qs j) ∧
  (c_ev_count cs = q_m_events qs) ∧
  (∃ n : Nat, n ≤ 120000 ∧ c_ev_count cs = nI n) ∧
  (c_ev_exceptions cs = q_m_exceptions qs) ∧
  (c_ev_doubleCycles cs = q_m_doubles qs) ∧
  (c_ev_longestWay cs = q_m_longest qs) ∧
  (isB (c_tw_nextIsKnown cs))
theorem RS.cyc {cs : CSt} {qs : MSt} (h : RS cs qs) : c_tw_cycles cs = q_m_cycles qs := h.1
theorem RS.cycn {cs : CSt} {qs : MSt} (h : RS cs qs) : ∃ n : Nat, n ≤ 60000 ∧ c_tw_cycles cs = nI n := h.2.1
theorem RS.sets {cs : CSt} {qs : MSt} (h : RS cs qs) : c_mp_sets cs = q_m_sets qs := h.2.2.1
theorem RS.setsv {cs : CSt} {qs : MSt} (h : RS cs qs) : c_mp_sets cs = 16 ∨ c_mp_sets cs = 32 ∨ c_mp_sets cs = 64 ∨ c_mp_sets cs = 128 := h.2.2.2.1
theorem RS.mem {cs : CSt} {qs : MSt} (h : RS cs qs) : ∀ k, k < 16384 → c_mem cs k = wd (q_mm qs) (4 * k) := h.2.2.2.2.1
theorem RS.mem0 {cs : CSt} {qs : MSt} (h : RS cs qs) : ∀ k, k < 16384 → c_pg cs (k / 256) = false → c_mem cs k = 0 := h.2.2.2.2.2.1
theorem RS.reg {cs : CSt} {qs : MSt} (h : RS cs qs) : ∀ j, j < 32 → c_rg cs j = q_mr qs j := h.2.2.2.2.2.2.1
theorem RS.reg0 {cs : CSt} {qs : MSt} (h : RS cs qs) : c_rg cs 0 = 0 := h.2.2.2.2.2.2.2.1
theorem RS.sr {cs : CSt} {qs : MSt} (h : RS cs qs) : c_sp_sr cs = q_ms qs 0 := h.2.2.2.2.2.2.2.2.1
theorem RS.epc {cs : CSt} {qs : MSt} (h : RS cs qs) : c_sp_epc cs = q_ms qs 1 := h.2.2.2.2.2.2.2.2.2.1
theorem RS.esr {cs : CSt} {qs : MSt} (h : RS cs qs) : c_sp_esr cs = q_ms qs 2 := h.2.2.2.2.2.2.2.2.2.2.1
theorem RS.eea {cs : CSt} {qs : MSt} (h : RS cs qs) : c_sp_eea cs = q_ms qs 3 := h.2.2.2.2.2.2.2.2.2.2.2.1
theorem RS.cnt {cs : CSt} {qs : MSt} (h : RS cs qs) : c_sp_count cs = q_ms qs 4 := h.2.2.2.2.2.2.2.2.2.2.2.2.1
theorem RS.tim {cs : CSt} {qs : MSt} (h : RS cs qs) : c_sp_timer cs = q_ms qs 5 := h.2.2.2.2.2.2.2.2.2.2.2.2.2.1
theorem RS.msk {cs : CSt} {qs : MSt} (h : RS cs qs) : c_sp_mask cs = q_ms qs 6 := h.2.2.2.2.2.2.2.2.2.2.2.2.2.2.1
theorem RS.held {cs : CSt} {qs : MSt} (h : RS cs qs) : c_sp_held cs = q_ms qs 7 := h.2.2.2.2.2.2.2.2.2.2.2.2.2.2.2.1
theorem RS.lat {cs : CSt} {qs : MSt} (h : RS cs qs) : c_sp_latch cs = q_ms qs 9 := h.2.2.2.2.2.2.2.2.2.2.2.2.2.2.2.2.1
theorem RS.ret {cs : CSt} {qs : MSt} (h : RS cs qs) : c_sp_retired cs = q_m_retired qs := h.2.2.2.2.2.2.2.2.2.2.2.2.2.2.2.2.2.1
theorem RS.retn {cs : CSt} {qs : MSt} (h : RS cs qs) : ∃ n : Nat, n ≤ 200000 ∧ c_sp_retired cs = nI n := h.2.2.2.2.2.2.2.2.2.2.2.2.2.2.2.2.2.2.1
theorem RS.sum {cs : CSt} {qs : MSt} (h : RS cs qs) : c_sp_sum cs = q_m_sum qs := h.2.2.2.2.2.2.2.2.2.2.2.2.2.2.2.2.2.2.2.1
theorem RS.srb {cs : CSt} {qs : MSt} (h : RS cs qs) : c_sp_sr cs &&& 1023 = c_sp_sr cs := h.2.2.2.2.2.2.2.2.2.2.2.2.2.2.2.2.2.2.2.2.1
theorem RS.esrb {cs : CSt} {qs : MSt} (h : RS cs qs) : c_sp_esr cs &&& 1023 = c_sp_esr cs := h.2.2.2.2.2.2.2.2.2.2.2.2.2.2.2.2.2.2.2.2.2.1
theorem RS.timb {cs : CSt} {qs : MSt} (h : RS cs qs) : ¬ c_sp_timer cs < 0 := h.2.2.2.2.2.2.2.2.2.2.2.2.2.2.2.2.2.2.2.2.2.2.1
theorem RS.maps {cs : CSt} {qs : MSt} (h : RS cs qs) : ∀ j, j < 512 → c_wo cs j = q_mw qs j := h.2.2.2.2.2.2.2.2.2.2.2.2.2.2.2.2.2.2.2.2.2.2.2.1
theorem RS.pc {cs : CSt} {qs : MSt} (h : RS cs qs) : c_st_pc cs = q_m_pc qs := h.2.2.2.2.2.2.2.2.2.2.2.2.2.2.2.2.2.2.2.2.2.2.2.2.1
theorem RS.slot {cs : CSt} {qs : MSt} (h : RS cs qs) : c_st_inSlot cs = q_m_slot qs := h.2.2.2.2.2.2.2.2.2.2.2.2.2.2.2.2.2.2.2.2.2.2.2.2.2.1
theorem RS.slotb {cs : CSt} {qs : MSt} (h : RS cs qs) : isB (c_st_inSlot cs) := h.2.2.2.2.2.2.2.2.2.2.2.2.2.2.2.2.2.2.2.2.2.2.2.2.2.2.1
theorem RS.br {cs : CSt} {qs : MSt} (h : RS cs qs) : q_m_branch qs = if c_st_inSlot cs = 0 then 0 else c_st_branchAt cs := h.2.2.2.2.2.2.2.2.2.2.2.2.2.2.2.2.2.2.2.2.2.2.2.2.2.2.2.1
theorem RS.tg {cs : CSt} {qs : MSt} (h : RS cs qs) : q_m_target qs = if c_st_inSlot cs = 0 then 0 else c_st_target cs := h.2.2.2.2.2.2.2.2.2.2.2.2.2.2.2.2.2.2.2.2.2.2.2.2.2.2.2.2.1
theorem RS.lsz {cs : CSt} {qs : MSt} (h : RS cs qs) : c_li_size cs = q_m_lines qs := h.2.2.2.2.2.2.2.2.2.2.2.2.2.2.2.2.2.2.2.2.2.2.2.2.2.2.2.2.2.1
theorem RS.lco {cs : CSt} {qs : MSt} (h : RS cs qs) : ∀ j, j < 32 → c_co cs j = q_mlc qs j := h.2.2.2.2.2.2.2.2.2.2.2.2.2.2.2.2.2.2.2.2.2.2.2.2.2.2.2.2.2.2.1
theorem RS.lva {cs : CSt} {qs : MSt} (h : RS cs qs) : ∀ j, j < 32 → c_va cs j = q_mlv qs j := h.2.2.2.2.2.2.2.2.2.2.2.2.2.2.2.2.2.2.2.2.2.2.2.2.2.2.2.2.2.2.2.1
theorem RS.lin {cs : CSt} {qs : MSt} (h : RS cs qs) : LinesOk (c_li_size cs) (c_li_passed cs) (c_co cs) (c_sp_retired cs) := h.2.2.2.2.2.2.2.2.2.2.2.2.2.2.2.2.2.2.2.2.2.2.2.2.2.2.2.2.2.2.2.2.1
theorem RS.rec {cs : CSt} {qs : MSt} (h : RS cs qs) : ∀ j, j < 2816 → c_fi cs j = q_mf qs j := h.2.2.2.2.2.2.2.2.2.2.2.2.2.2.2.2.2.2.2.2.2.2.2.2.2.2.2.2.2.2.2.2.2.1
theorem RS.evc {cs : CSt} {qs : MSt} (h : RS cs qs) : c_ev_count cs = q_m_events qs := h.2.2.2.2.2.2.2.2.2.2.2.2.2.2.2.2.2.2.2.2.2.2.2.2.2.2.2.2.2.2.2.2.2.2.1
theorem RS.evn {cs : CSt} {qs : MSt} (h : RS cs qs) : ∃ n : Nat, n ≤ 120000 ∧ c_ev_count cs = nI n := h.2.2.2.2.2.2.2.2.2.2.2.2.2.2.2.2.2.2.2.2.2.2.2.2.2.2.2.2.2.2.2.2.2.2.2.1
theorem RS.exc {cs : CSt} {qs : MSt} (h : RS cs qs) : c_ev_exceptions cs = q_m_exceptions qs := h.2.2.2.2.2.2.2.2.2.2.2.2.2.2.2.2.2.2.2.2.2.2.2.2.2.2.2.2.2.2.2.2.2.2.2.2.1
theorem RS.dbl {cs : CSt} {qs : MSt} (h : RS cs qs) : c_ev_doubleCycles cs = q_m_doubles qs := h.2.2.2.2.2.2.2.2.2.2.2.2.2.2.2.2.2.2.2.2.2.2.2.2.2.2.2.2.2.2.2.2.2.2.2.2.2.1
theorem RS.lng {cs : CSt} {qs : MSt} (h : RS cs qs) : c_ev_longestWay cs = q_m_longest qs := h.2.2.2.2.2.2.2.2.2.2.2.2.2.2.2.2.2.2.2.2.2.2.2.2.2.2.2.2.2.2.2.2.2.2.2.2.2.2.1
theorem RS.nk {cs : CSt} {qs : MSt} (h : RS cs qs) : isB (c_tw_nextIsKnown cs) := h.2.2.2.2.2.2.2.2.2.2.2.2.2.2.2.2.2.2.2.2.2.2.2.2.2.2.2.2.2.2.2.2.2.2.2.2.2.2.2

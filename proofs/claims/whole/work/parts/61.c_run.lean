theorem sbg51 {w1 : Int32 × (Nat → Int32) × (Nat → Int32)} {w2 : Int32 × (Nat → Int32)} : ∀ (f k : Nat) (a : Nat → Int32), k ≤ 512 → 512 < k + f → sgX11_begin_51 w1 w2 f (nI k, a)
  | 0, k, a, h1, h2 => absurd h2 (by omega)
  | f + 1, k, a, h1, h2 => by
    refine ⟨fun _ => trivial, fun h3 => ⟨?_, ?_⟩⟩
    · exact vp_in_nI (Nat.not_le.mp fun q => h3 (nI_le (a := 512) q (by omega))) (by decide)
    · show sgX11_begin_51 w1 w2 f (nI k + 1, _)
      rw [nI_1]
      have : k < 512 := Nat.not_le.mp fun q => h3 (nI_le (a := 512) q (by omega))
      exact sbg51 f (k + 1) _ (by omega) (by omega)
theorem sbg30 {mw : Nat → Int32} {w1 : Int32 × (Nat → Int32) × (Nat → Int32)} : ∀ (f k : Nat) (a : Nat → Int32), k ≤ 10 → 10 < k + f → sgX11_begin_30 mw w1 f (nI k, a)
  | 0, k, a, h1, h2 => absurd h2 (by omega)
  | f + 1, k, a, h1, h2 => by
    refine ⟨fun _ => sbg51 513 0 mw (by omega) (by omega), fun h3 => ⟨?_, ?_⟩⟩
    · exact vp_in_nI (Nat.not_le.mp fun q => h3 (nI_le (a := 10) q (by omega))) (by decide)
    · show sgX11_begin_30 mw w1 f (nI k + 1, _)
      rw [nI_1]
      have : k < 10 := Nat.not_le.mp fun q => h3 (nI_le (a := 10) q (by omega))
      exact sbg30 f (k + 1) _ (by omega) (by omega)
theorem sbg2 {ms mw : Nat → Int32} : ∀ (f k : Nat) (a d : Nat → Int32), k ≤ 32 → 32 < k + f → sgX11_begin_2 ms mw f (nI k, a, d)
  | 0, k, a, d, h1, h2 => absurd h2 (by omega)
  | f + 1, k, a, d, h1, h2 => by
    refine ⟨fun _ => sbg30 11 0 ms (by omega) (by omega), fun h3 => ?_⟩
    have hk : k < 32 := Nat.not_le.mp fun q => h3 (nI_le (a := 32) q (by omega))
    refine ⟨vp_in_nI hk (by decide), vp_in_nI hk (by decide), ?_⟩
    show sgX11_begin_2 ms mw f (nI k + 1, _, _)
    rw [nI_1]
    exact sbg2 f (k + 1) _ _ (by omega) (by omega)
theorem okX11_restart {cs : CSt} {qs : MSt} (h : Rel cs qs) : sX11_restart (q_mr qs) (q_ms qs) (q_mw qs) (q_mrd qs) := ⟨sbg2 33 0 _ _ (by omega) (by omega), fun _ _ => trivial⟩
/-! runCycles -/
def cStp (cy : Int32) (cs : CSt) : CSt := (cy, cs.2)
theorem frun_c (cs : CSt) (p0 : Int32) (h1 : ¬ p0 < 1) (h2 : ¬ 2000 < p0) (h3 : c_tw_cycles cs + p0 ≤ 60000) : fX10_runCycles (c_tw_cycles cs) (c_tw_nextIsKnown cs) (c_mem cs) (c_pg cs) (c_st_pc cs) (c_st_inSlot cs) (c_st_branchAt cs) (c_st_target cs) (c_sp_sr cs) (c_sp_epc cs) (c_sp_esr cs) (c_sp_eea cs) (c_sp_held cs) (c_sp_sum cs) (c_sp_count cs) (c_sp_timer cs) (c_sp_mask cs) (c_sp_retired cs) (c_sp_latch cs) (c_mp_sets cs) (c_li_passed cs) (c_li_size cs) (c_ins_traits cs) (c_ins_op cs) (c_ins_d cs) (c_ins_a cs) (c_ins_b cs) (c_ins_u cs) (c_ins_i cs) (c_ins_j cs) (c_ef_exception cs) (c_ef_hasAddress cs) (c_ef_address cs) (c_ef_value cs) (c_ef_size cs) (c_ef_place cs) (c_ef_stored cs) (c_ef_sr cs) (c_ef_sum cs) (c_ef_goes cs) (c_ef_target cs) (c_pi_fetched cs) (c_pi_issued cs) (c_pi_ended cs) (c_pi_order cs) (c_pi_endedBefore cs) (c_pi_traits cs) (c_pi_pc cs) (c_pi_beganGroup cs) (c_pi_breaksGroup cs) (c_pi_redirectedFetch cs) (c_pi_branchForeseenToGo cs) (c_pi_branchRedirects cs) (c_ev_count cs) (c_ev_exceptions cs) (c_ev_doubleCycles cs) (c_ev_longestWay cs) (c_ev_lastCycle cs) (c_rg cs) (c_wo cs) (c_co cs) (c_va cs) (c_iss cs) (c_rdy cs) (c_fi cs) p0 = gX10_runCycles_45 (c_tw_cycles cs) (c_mp_sets cs) (c_li_size cs) (c_ev_count cs) (c_co cs) (c_va cs) p0 4002 (ctup 0 cs) := by
  unfold fX10_runCycles
  rw [if_neg h1, if_neg h2, if_pos h3]
  rfl
theorem frun_m (qs : MSt) (p0 : Int32) (h1 : ¬ p0 < 1) (h2 : ¬ 2000 < p0) (h3 : q_m_cycles qs + p0 ≤ 60000) : fX11_runCycles (q_m_sets qs) (q_m_sum qs) (q_m_pc qs) (q_m_slot qs) (q_m_branch qs) (q_m_target qs) (q_m_retired qs) (q_m_lines qs) (q_m_cycles qs) (q_m_events qs) (q_m_exceptions qs) (q_m_doubles qs) (q_m_longest qs) (q_m_word qs) (q_m_codeFault qs) (q_m_fetched qs) (q_m_issued qs) (q_m_due qs) (q_m_starts qs) (q_m_exception qs) (q_m_eea qs) (q_m_register qs) (q_m_value qs) (q_m_flag qs) (q_m_carry qs) (q_m_overflow qs) (q_m_sums qs) (q_m_newSum qs) (q_m_store qs) (q_m_bytes qs) (q_m_stored qs) (q_m_next qs) (q_m_goal qs) (q_m_returns qs) (q_m_lastWord qs) (q_m_lastReadable qs) (q_m_lastPc qs) (q_m_lastFetched qs) (q_m_lastStarts qs) (q_m_lastApart qs) (q_m_redirected qs) (q_m_behind qs) (q_m_flagReady qs) (q_m_carryReady qs) (q_m_sumReady qs) (q_m_divided qs) (q_m_foreseen qs) (q_m_expected qs) (q_m_went qs) (q_mm qs) (q_mr qs) (q_ms qs) (q_mw qs) (q_mlc qs) (q_mlv qs) (q_mf qs) (q_mis qs) (q_mdu qs) (q_mrd qs) p0 = gX11_runCycles_48 (q_m_sets qs) (q_m_lines qs) (q_m_cycles qs) (q_m_events qs) (q_mlc qs) (q_mlv qs) p0 130000 (mtup 1 qs) := by
  unfold fX11_runCycles
  rw [if_neg h1, if_neg h2, if_pos h3]
  rfl
theorem crun_eq (cs : CSt) (p0 r cy : Int32) (X : CSt) (h : fX10_runCycles (c_tw_cycles cs) (c_tw_nextIsKnown cs) (c_mem cs) (c_pg cs) (c_st_pc cs) (c_st_inSlot cs) (c_st_branchAt cs) (c_st_target cs) (c_sp_sr cs) (c_sp_epc cs) (c_sp_esr cs) (c_sp_eea cs) (c_sp_held cs) (c_sp_sum cs) (c_sp_count cs) (c_sp_timer cs) (c_sp_mask cs) (c_sp_retired cs) (c_sp_latch cs) (c_mp_sets cs) (c_li_passed cs) (c_li_size cs) (c_ins_traits cs) (c_ins_op cs) (c_ins_d cs) (c_ins_a cs) (c_ins_b cs) (c_ins_u cs) (c_ins_i cs) (c_ins_j cs) (c_ef_exception cs) (c_ef_hasAddress cs) (c_ef_address cs) (c_ef_value cs) (c_ef_size cs) (c_ef_place cs) (c_ef_stored cs) (c_ef_sr cs) (c_ef_sum cs) (c_ef_goes cs) (c_ef_target cs) (c_pi_fetched cs) (c_pi_issued cs) (c_pi_ended cs) (c_pi_order cs) (c_pi_endedBefore cs) (c_pi_traits cs) (c_pi_pc cs) (c_pi_beganGroup cs) (c_pi_breaksGroup cs) (c_pi_redirectedFetch cs) (c_pi_branchForeseenToGo cs) (c_pi_branchRedirects cs) (c_ev_count cs) (c_ev_exceptions cs) (c_ev_doubleCycles cs) (c_ev_longestWay cs) (c_ev_lastCycle cs) (c_rg cs) (c_wo cs) (c_co cs) (c_va cs) (c_iss cs) (c_rdy cs) (c_fi cs) p0 = cout r cy X) (e1 : c_mp_sets X = c_mp_sets cs) (e2 : c_li_size X = c_li_size cs) (e3 : c_co X = c_co cs) (e4 : c_va X = c_va cs) : c_runCycles cs p0 = (r, cStp cy X) := by
  unfold c_runCycles
  rw [h, ← e1, ← e2, ← e3, ← e4]
  rfl
theorem mrun_eq (qs : MSt) (p0 r cy : Int32) (X : MSt) (h : fX11_runCycles (q_m_sets qs) (q_m_sum qs) (q_m_pc qs) (q_m_slot qs) (q_m_branch qs) (q_m_target qs) (q_m_retired qs) (q_m_lines qs) (q_m_cycles qs) (q_m_events qs) (q_m_exceptions qs) (q_m_doubles qs) (q_m_longest qs) (q_m_word qs) (q_m_codeFault qs) (q_m_fetched qs) (q_m_issued qs) (q_m_due qs) (q_m_starts qs) (q_m_exception qs) (q_m_eea qs) (q_m_register qs) (q_m_value qs) (q_m_flag qs) (q_m_carry qs) (q_m_overflow qs) (q_m_sums qs) (q_m_newSum qs) (q_m_store qs) (q_m_bytes qs) (q_m_stored qs) (q_m_next qs) (q_m_goal qs) (q_m_returns qs) (q_m_lastWord qs) (q_m_lastReadable qs) (q_m_lastPc qs) (q_m_lastFetched qs) (q_m_lastStarts qs) (q_m_lastApart qs) (q_m_redirected qs) (q_m_behind qs) (q_m_flagReady qs) (q_m_carryReady qs) (q_m_sumReady qs) (q_m_divided qs) (q_m_foreseen qs) (q_m_expected qs) (q_m_went qs) (q_mm qs) (q_mr qs) (q_ms qs) (q_mw qs) (q_mlc qs) (q_mlv qs) (q_mf qs) (q_mis qs) (q_mdu qs) (q_mrd qs) p0 = mout r cy X) (e1 : q_m_sets X = q_m_sets qs) (e2 : q_m_lines X = q_m_lines qs) (e3 : q_mlc X = q_mlc qs) (e4 : q_mlv X = q_mlv qs) : m_runCycles qs p0 = (r, mStop cy X) := by
  unfold m_runCycles
  rw [h, ← e1, ← e2, ← e3, ← e4]
  rfl
theorem crun_no (cs : CSt) (p0 : Int32) (h : p0 < 1 ∨ 2000 < p0 ∨ ¬ c_tw_cycles cs + p0 ≤ 60000) : c_runCycles cs p0 = (-1, cs) := by
  unfold c_runCycles fX10_runCycles
  by_cases h1 : p0 < 1
  · rw [if_pos h1]
  · rw [if_neg h1]
    by_cases h2 : 2000 < p0
    · rw [if_pos h2]
    · rw [if_neg h2]
      have h3 : ¬ c_tw_cycles cs + p0 ≤ 60000 := by
        rcases h with q | q | q
        · exact absurd q h1
        · exact absurd q h2
        · exact q
      rw [if_neg h3]
theorem mrun_no (qs : MSt) (p0 : Int32) (h : p0 < 1 ∨ 2000 < p0 ∨ ¬ q_m_cycles qs + p0 ≤ 60000) : m_runCycles qs p0 = (-1, (0, qs.2)) := by
  unfold m_runCycles fX11_runCycles
  by_cases h1 : p0 < 1
  · rw [if_pos h1]
  · rw [if_neg h1]
    by_cases h2 : 2000 < p0
    · rw [if_pos h2]
    · rw [if_neg h2]
      have h3 : ¬ q_m_cycles qs + p0 ≤ 60000 := by
        rcases h with q | q | q
        · exact absurd q h1
        · exact absurd q h2
        · exact q
      rw [if_neg h3]
/-- what a run leaves -/
def RanK (ev0 : Int32) (e : Nat) (cs : CSt) (qs : MSt) (Rc : Int32 × Int32 × Int32 × (Nat → Int32) × (Nat → Bool) × Int32 × Int32 × Int32 × Int32 × Int32 × Int32 × Int32 × Int32 × Int32 × Int64 × Int32 × Int32 × Int32 × Int32 × Int32 × Int32 × Int32 × Int32 × Int32 × Int32 × Int32 × Int32 × Int32 × Int32 × Int32 × Int32 × Int32 × Int32 × Int32 × Int32 × Int32 × Int32 × Int64 × Int32 × Int32 × Int32 × Int32 × Int32 × Int32 × Int32 × Int32 × Int32 × Int32 × Int32 × Int32 × Int32 × Int32 × Int32 × Int32 × Int32 × Int32 × Int32 × (Nat → Int32) × (Nat → Int32) × (Nat → Int32) × (Nat → Int32) × (Nat → Int32)) (Rm : Int32 × Int32 × Int64 × Int32 × Int32 × Int32 × Int32 × Int32 × Int32 × Int32 × Int32 × Int32 × Int32 × Int32 × Int32 × Int32 × Int32 × Int32 × Int32 × Int32 × Int32 × Int32 × Int32 × Int32 × Int32 × Int32 × Int32 × Int64 × Int32 × Int32 × Int32 × Int32 × Int32 × Int32 × Int32 × Int32 × Int32 × Int32 × Int32 × Int32 × Int32 × Int32 × Int32 × Int32 × Int32 × Int32 × Int32 × Int32 × Int32 × (Nat → Int32) × (Nat → Int32) × (Nat → Int32) × (Nat → Int32) × (Nat → Int32) × (Nat → Int32) × (Nat → Int32) × (Nat → Int32)) : Prop :=
  ∃ (cs0 : CSt) (pp : Int32) (qs' : MSt), Base cs0 qs' ∧ LinesOk (c_li_size cs0) pp (c_co cs0) (c_sp_retired cs0) ∧ (e : Int) < (T_ cs0).2.2.1.toInt ∧ Rc = cout (c_ev_count cs0 - ev0) (nI e) (cLookP pp cs0) ∧ Rm = mout (q_m_events qs' - ev0) (nI e) qs' ∧ PgLe (c_pg cs) (c_pg cs0) ∧ (c_mp_sets cs0 = c_mp_sets cs ∧ c_li_size cs0 = c_li_size cs ∧ c_co cs0 = c_co cs ∧ c_va cs0 = c_va cs) ∧ (q_m_sets qs' = q_m_sets qs ∧ q_m_lines qs' = q_m_lines qs ∧ q_mlc qs' = q_mlc qs ∧ q_mlv qs' = q_mlv qs)
theorem ran_K {ev0 : Int32} {e : Nat} {cs : CSt} {qs : MSt} {Rc Rm} (h : Ran ev0 e cs qs Rc Rm) : RanK ev0 e cs qs Rc Rm := by
  obtain ⟨cs0, qs', r1, r2, r3, r4, r5, r6, r7⟩ := h
  exact ⟨cs0, (C_ cs0).1, qs', r1, base_lin r1, r2, r3, r4, r5, r6, r7⟩
theorem kp_sets (p : Int32) (cs : CSt) : c_mp_sets (cDone (cLookP p cs)) = c_mp_sets cs := by unfold cDone cLookP; rw [kG1_sets, kG2_sets]
theorem kp_size (p : Int32) (cs : CSt) : c_li_size (cDone (cLookP p cs)) = c_li_size cs := by unfold cDone cLookP; rw [kG1_size, kG2_size]
theorem kp_co (p : Int32) (cs : CSt) : c_co (cDone (cLookP p cs)) = c_co cs := by unfold cDone cLookP; rw [kG1_co, kG2_co]
theorem kp_va (p : Int32) (cs : CSt) : c_va (cDone (cLookP p cs)) = c_va cs := by unfold cDone cLookP; rw [kG1_va, kG2_va]
set_option maxHeartbeats 1000000 in
theorem run_known {p old : Nat} (hp1 : 1 ≤ p) (hp : p ≤ 2000) (hold : old + p ≤ 60000) (ev0 : Int32) {cs : CSt} {qs : MSt} (hB : Base cs qs) (pp : Int32) (hl : LinesOk (c_li_size cs) pp (c_co cs) (c_sp_retired cs)) (hE : (old : Int) < (T_ cs).2.2.1.toInt) :
    RanK ev0 (old + p) cs qs (gX10_runCycles_45 (nI old) (c_mp_sets cs) (c_li_size cs) ev0 (c_co cs) (c_va cs) (nI p) 4002 (ctup 0 (cLookP pp cs))) (gX11_runCycles_48 (q_m_sets qs) (q_m_lines qs) (nI old) ev0 (q_mlc qs) (q_mlv qs) (nI p) 130000 (mtup 1 qs)) := by
  obtain ⟨l1, l2, l3, l4, l5⟩ := look_due hB
  have e2 : ¬ (2 * nI p) < 0 := by
    rw [show (2 : Int32) * nI p = nI (2 * p) from pk_mul 2 p]
    exact nI_pos (by omega)
  have eop : nI old + nI p = nI (old + p) := nI_add old p
  have iop : (nI (old + p)).toInt = (old + p : Nat) := nI_toInt (by omega)
  rw [show (4002 : Nat) = 4001 + 1 from rfl, show (130000 : Nat) = 129999 + 1 from rfl, loop_known pp hB.2.2 trivial, if_neg e2, m_loop1, eop, ← l1]
  by_cases hb : (T_ cs).2.2.1 ≤ nI (old + p)
  · have hb' := hb
    rw [ile, iop] at hb'
    obtain ⟨s1, s2, s3, s4⟩ := e_step hB pp hl (by omega)
    rw [if_pos hb, if_neg (show ¬ nI (old + p) < (T_ cs).2.2.1 from fun q => by rw [ilt, iop] at q; omega)]
    have ih := e_loop hp hold ev0 4001 1 129999 (cDone (cLookP pp cs)) (mDone (mLook qs)) s1 (by omega) (by omega) (by omega) (fun q => absurd q (by omega)) (fun _ => by rw [s3]; omega) (fun q => absurd q (by omega))
    rw [kp_sets, kp_size, kp_co, kp_va, kq_sets, kq_lines, kq_mlc, kq_mlv] at ih
    obtain ⟨cs0, qs', r1, r2, r3, r4, r5, ⟨r6, r7, r8, r9⟩, ⟨r10, r11, r12, r13⟩⟩ := ih
    exact ⟨cs0, (C_ cs0).1, qs', r1, base_lin r1, r2, r3, r4, fun k hk => r5 k (s2 k hk), ⟨r6.trans (kp_sets pp cs), r7.trans (kp_size pp cs), r8.trans (kp_co pp cs), r9.trans (kp_va pp cs)⟩, ⟨r10.trans (kq_sets qs), r11.trans (kq_lines qs), r12.trans (kq_mlc qs), r13.trans (kq_mlv qs)⟩⟩
  · have hb' := hb
    rw [ile, iop] at hb'
    rw [if_neg hb, if_pos (show nI (old + p) < (T_ cs).2.2.1 by rw [ilt, iop]; omega)]
    have hm0 := m_loop0 (nI old) ev0 (nI p) 129998 (mLook qs)
    rw [eop] at hm0
    have q1 : q_m_sets (mLook qs) = q_m_sets qs := by unfold mLook; rw [kH2_sets]
    have q2 : q_m_lines (mLook qs) = q_m_lines qs := by unfold mLook; rw [kH2_lines]
    have q3 : q_mlc (mLook qs) = q_mlc qs := by unfold mLook; rw [kH2_mlc]
    have q4 : q_mlv (mLook qs) = q_mlv qs := by unfold mLook; rw [kH2_mlv]
    rw [q1, q2, q3, q4] at hm0
    exact ⟨cs, pp, mLook qs, base_look hB, hl, by omega, rfl, hm0, fun k hk => hk, ⟨rfl, rfl, rfl, rfl⟩, ⟨q1, q2, q3, q4⟩⟩
set_option maxHeartbeats 4000000 in
theorem base_stop {cs : CSt} {qs : MSt} (hB : Base cs qs) (e : Nat) (he : e ≤ 60000) : Base (cStp (nI e) cs) (mStop (nI e) qs) := by
  obtain ⟨h, hP, hn⟩ := hB
  exact ⟨⟨rfl, ⟨e, he, rfl⟩, h.sets, h.setsv, h.mem, h.mem0, h.reg, h.reg0, h.sr, h.epc, h.esr, h.eea, h.cnt, h.tim, h.msk, h.held, h.lat, h.ret, h.retn, h.sum, h.srb, h.esrb, h.timb, h.maps, h.pc, h.slot, h.slotb, h.br, h.tg, h.lsz, h.lco, h.lva, h.lin, h.rec, h.evc, h.evn, h.exc, h.dbl, h.lng, h.nk⟩, hP, hn⟩
theorem stop_G (C : CCome) (T : Int32 × Int32 × Int32 × Int32 × Int32 × Int32 × Int32 × Int32 × Int32 × Int32 × Int32 × Int32 × (Nat → Int32) × (Nat → Int32)) (cs : CSt) (cy : Int32) : cStp cy (cLookG C T cs) = cLookG C T (cStp cy cs) := rfl
theorem stop_C (cs : CSt) (cy : Int32) : C_ (cStp cy cs) = C_ cs := rfl
theorem stop_TG (C : CCome) (cs : CSt) (cy : Int32) : TG C (cStp cy cs) = TG C cs := rfl
theorem stop_T (cs : CSt) (cy : Int32) : T_ (cStp cy cs) = T_ cs := by unfold T_; rw [stop_C, stop_TG]
theorem stop_P (p : Int32) (cs : CSt) (cy : Int32) : cStp cy (cLookP p cs) = cLookP p (cStp cy cs) := by
  unfold cLookP
  rw [stop_G, stop_C, stop_T]
theorem kL_pg (C : CCome) (T : Int32 × Int32 × Int32 × Int32 × Int32 × Int32 × Int32 × Int32 × Int32 × Int32 × Int32 × Int32 × (Nat → Int32) × (Nat → Int32)) (cs : CSt) : c_pg (cLookG C T cs) = c_pg cs := rfl
theorem run_in {p0 cy : Int32} {n : Nat} (hn : n ≤ 60000) (hcy : cy = nI n) (h1 : ¬ p0 < 1) (h2 : ¬ 2000 < p0) (h3 : cy + p0 ≤ 60000) : ∃ p : Nat, p0 = nI p ∧ 1 ≤ p ∧ p ≤ 2000 ∧ n + p ≤ 60000 := by
  have h0 : ¬ p0 < 0 := fun q => h1 (by rw [ilt] at q ⊢; rw [i32_0] at q; rw [t1']; omega)
  obtain ⟨p, hp, e⟩ := nI_of h0
  subst e
  have hp2 : p ≤ 2000 := Nat.not_lt.mp fun q => h2 (nI_lt (a := 2000) q hp)
  have hp1 : 1 ≤ p := Nat.not_lt.mp fun q => h1 (nI_lt (b := 1) q (by omega))
  refine ⟨p, rfl, hp1, hp2, ?_⟩
  rw [hcy, nI_add] at h3
  exact (nI_leI (b := 60000) (by omega) (by omega)).mp h3
theorem run_all {cs : CSt} {qs : MSt} (h : Rel cs qs) (p0 : Int32) (h1 : ¬ p0 < 1) (h2 : ¬ 2000 < p0) (h3 : c_tw_cycles cs + p0 ≤ 60000) : ∃ (e : Nat) (cs0 : CSt) (pp : Int32) (qs' : MSt), 0 < e ∧ e ≤ 60000 ∧ Base cs0 qs' ∧ LinesOk (c_li_size cs0) pp (c_co cs0) (c_sp_retired cs0) ∧ (e : Int) < (T_ cs0).2.2.1.toInt ∧ c_runCycles cs p0 = (c_ev_count cs0 - c_ev_count cs, cStp (nI e) (cLookP pp cs0)) ∧ m_runCycles qs p0 = (q_m_events qs' - q_m_events qs, mStop (nI e) qs') ∧ PgLe (c_pg cs) (c_pg cs0) := by
  have hS := h.rs
  obtain ⟨old, hn, hcy⟩ := hS.cycn
  obtain ⟨p, ep, hp1, hp2, hop⟩ := run_in hn hcy h1 h2 h3
  have hq3 : q_m_cycles qs + p0 ≤ 60000 := by rw [← hS.cyc]; exact h3
  have hq : q_m_cycles qs = nI old := by rw [← hS.cyc]; exact hcy
  have fc := frun_c cs p0 h1 h2 h3
  have fm := frun_m qs p0 h1 h2 hq3
  rw [hcy, ep] at fc
  rw [hq, ep, ← hS.evc] at fm
  have hran : ∃ csb : CSt, RanK (c_ev_count cs) (old + p) csb qs (gX10_runCycles_45 (nI old) (c_mp_sets cs) (c_li_size cs) (c_ev_count cs) (c_co cs) (c_va cs) (nI p) 4002 (ctup 0 cs)) (gX11_runCycles_48 (q_m_sets qs) (q_m_lines qs) (nI old) (c_ev_count cs) (q_mlc qs) (q_mlv qs) (nI p) 130000 (mtup 1 qs)) ∧ c_pg csb = c_pg cs ∧ (c_mp_sets csb = c_mp_sets cs ∧ c_li_size csb = c_li_size cs ∧ c_co csb = c_co cs ∧ c_va csb = c_va cs) := by
    rcases h with ⟨hB, g1, g2⟩ | ⟨csb, pp, hB, hl, ec, g1, g2⟩
    · refine ⟨cs, ran_K (e_loop hp2 hop _ 4002 0 130000 cs qs hB (by omega) (by omega) (by omega) (fun _ => ?_) (fun q => absurd q (by omega)) (fun q => absurd q (by omega))), rfl, rfl, rfl, rfl, rfl⟩
      obtain ⟨_, _, _, l4, _⟩ := look_due hB
      have : old = 0 := by
        rw [g1] at hcy
        exact ((nI_eq (a := 0) (by omega) (by omega)).mp hcy).symm
      omega
    · have hcy' : (c_tw_cycles csb).toInt = old := by
        have : c_tw_cycles csb = nI old := by rw [← hcy, ec]; rfl
        rw [this]; exact nI_toInt (by omega)
      have hk := run_known hp1 hp2 hop (c_ev_count cs) hB pp hl (by omega)
      have z1 : c_mp_sets csb = c_mp_sets cs := by rw [ec]; exact (kG2_sets _ _ _).symm
      have z2 : c_li_size csb = c_li_size cs := by rw [ec]; exact (kG2_size _ _ _).symm
      have z3 : c_co csb = c_co cs := by rw [ec]; exact (kG2_co _ _ _).symm
      have z4 : c_va csb = c_va cs := by rw [ec]; exact (kG2_va _ _ _).symm
      have z5 : c_pg csb = c_pg cs := by rw [ec]; exact (kL_pg _ _ _).symm
      rw [z1, z2, z3, z4, ← ec] at hk
      exact ⟨csb, hk, z5, z1, z2, z3, z4⟩
  obtain ⟨csb, ⟨cs0, pp, qs', r1, r2, r3, r4, r5, r6, ⟨r7, r8, r9, r10⟩, ⟨r11, r12, r13, r14⟩⟩, b1, ⟨b2, b3, b4, b5⟩⟩ := hran
  rw [r4] at fc
  rw [r5, hS.evc] at fm
  rw [← hcy, ← ep] at fc
  rw [← hq, ← ep] at fm
  refine ⟨old + p, cs0, pp, qs', by omega, hop, r1, r2, r3, crun_eq cs p0 _ _ _ fc ?_ ?_ ?_ ?_, mrun_eq qs p0 _ _ _ fm r11 r12 r13 r14, ?_⟩
  · exact (kG2_sets _ _ _).trans (r7.trans b2)
  · exact (kG2_size _ _ _).trans (r8.trans b3)
  · exact (kG2_co _ _ _).trans (r9.trans b4)
  · exact (kG2_va _ _ _).trans (r10.trans b5)
  · rw [← b1]; exact r6
theorem st_runCycles {cs : CSt} {qs : MSt} (h : Rel cs qs) (p0 : Int32) : (c_runCycles cs p0).1 = (m_runCycles qs p0).1 ∧ Rel (c_runCycles cs p0).2 (m_runCycles qs p0).2 ∧ pgc (c_pg cs) ≤ pgc (c_pg (c_runCycles cs p0).2) := by
  by_cases hno : p0 < 1 ∨ 2000 < p0 ∨ ¬ c_tw_cycles cs + p0 ≤ 60000
  · have hno' : p0 < 1 ∨ 2000 < p0 ∨ ¬ q_m_cycles qs + p0 ≤ 60000 := by rw [← h.rs.cyc]; exact hno
    rw [crun_no cs p0 hno, mrun_no qs p0 hno']
    exact ⟨rfl, rel_thr h 0, Nat.le_refl _⟩
  · have h1 : ¬ p0 < 1 := fun q => hno (Or.inl q)
    have h2 : ¬ 2000 < p0 := fun q => hno (Or.inr (Or.inl q))
    have h3 : c_tw_cycles cs + p0 ≤ 60000 := Classical.not_not.mp fun q => hno (Or.inr (Or.inr q))
    obtain ⟨e, cs0, pp, qs', e0, he, hB, hl, hE, rc, rm, hle⟩ := run_all h p0 h1 h2 h3
    rw [rc, rm]
    refine ⟨?_, Or.inr ⟨cStp (nI e) cs0, pp, base_stop hB e he, hl, stop_P pp cs0 (nI e), ?_, ?_⟩, ?_⟩
    · show c_ev_count cs0 - c_ev_count cs = q_m_events qs' - q_m_events qs
      rw [hB.1.evc, h.rs.evc]
    · have : (c_tw_cycles (cStp (nI e) cs0)).toInt = e := nI_toInt (by omega)
      rw [this]; omega
    · have : (c_tw_cycles (cStp (nI e) cs0)).toInt = e := nI_toInt (by omega)
      rw [this, stop_T]; exact hE
    · exact pgc_mono hle

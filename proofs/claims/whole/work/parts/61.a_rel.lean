/-! ===== the relation, and the calls ===== -/
def Rel (cs : CSt) (qs : MSt) : Prop := (Base cs qs ∧ c_tw_cycles cs = 0 ∧ q_m_events qs = 0) ∨ (∃ (cs0 : CSt) (p : Int32), Base cs0 qs ∧ LinesOk (c_li_size cs0) p (c_co cs0) (c_sp_retired cs0) ∧ cs = cLookP p cs0 ∧ 0 < (c_tw_cycles cs0).toInt ∧ (c_tw_cycles cs0).toInt < (T_ cs0).2.2.1.toInt)
theorem rs_lookG {cs : CSt} {qs : MSt} (h : RS cs qs) (C : CCome) (T : Int32 × Int32 × Int32 × Int32 × Int32 × Int32 × Int32 × Int32 × Int32 × Int32 × Int32 × Int32 × (Nat → Int32) × (Nat → Int32)) (hl : LinesOk (c_li_size cs) C.1 (c_co cs) (c_sp_retired cs)) : RS (cLookG C T cs) qs := ⟨h.cyc, h.cycn, h.sets, h.setsv, h.mem, h.mem0, h.reg, h.reg0, h.sr, h.epc, h.esr, h.eea, h.cnt, h.tim, h.msk, h.held, h.lat, h.ret, h.retn, h.sum, h.srb, h.esrb, h.timb, h.maps, h.pc, h.slot, h.slotb, h.br, h.tg, h.lsz, h.lco, h.lva, hl, h.rec, h.evc, h.evn, h.exc, h.dbl, h.lng, Or.inr rfl⟩
theorem Rel.rs {cs : CSt} {qs : MSt} (h : Rel cs qs) : RS cs qs := by
  rcases h with ⟨hB, _⟩ | ⟨cs0, p, hB, hl, e, _⟩
  · exact hB.1
  · rw [e]; exact rs_lookG hB.1 _ _ hl
theorem pgc_mono {pg pg' : Nat → Bool} (h : PgLe pg pg') : pgc pg ≤ pgc pg' := by
  unfold pgc
  have : ∀ l : List Nat, (l.filter (fun i => pg i)).length ≤ (l.filter (fun i => pg' i)).length := by
    intro l
    induction l with
    | nil => exact Nat.le_refl _
    | cons a l ih =>
      rw [List.filter_cons, List.filter_cons]
      by_cases ha : pg a = true
      · rw [if_pos ha, if_pos (h a ha)]
        exact Nat.succ_le_succ ih
      · rw [if_neg ha]
        split
        · exact Nat.le_succ_of_le ih
        · exact ih
  exact this _
/-- a call of the reference that changes 'thrown' alone -/
theorem base_thr {cs : CSt} {qs : MSt} (h : Base cs qs) (z : Int32) : Base cs (z, qs.2) := ⟨h.1, h.2.1, h.2.2⟩
theorem rel_thr {cs : CSt} {qs : MSt} (h : Rel cs qs) (z : Int32) : Rel cs (z, qs.2) := by
  rcases h with ⟨hB, h1, h2⟩ | ⟨cs0, p, hB, hl, e, h1, h2⟩
  · exact Or.inl ⟨base_thr hB z, h1, h2⟩
  · exact Or.inr ⟨cs0, p, base_thr hB z, hl, e, h1, h2⟩
theorem okX10_registerOf {cs : CSt} {qs : MSt} (h : Rel cs qs) (p0 : Int32) : sX10_registerOf p0 := s_registerOf p0
theorem okX11_registerOf {cs : CSt} {qs : MSt} (h : Rel cs qs) (p0 : Int32) : sX11_registerOf p0 := sm_registerOf p0
theorem st_registerOf {cs : CSt} {qs : MSt} (h : Rel cs qs) (p0 : Int32) : (c_registerOf cs p0) = (m_registerOf qs p0).1 ∧ Rel cs (m_registerOf qs p0).2 ∧ pgc (c_pg cs) ≤ pgc (c_pg cs) := ⟨e_registerOf h.rs.reg p0, rel_thr h _, Nat.le_refl _⟩
theorem st_placeOf {cs : CSt} {qs : MSt} (h : Rel cs qs) (p0 : Int32) : (c_placeOf cs p0) = (m_placeOf qs p0).1 ∧ Rel cs (m_placeOf qs p0).2 ∧ pgc (c_pg cs) ≤ pgc (c_pg cs) := ⟨e_placeOf h.rs.pc h.rs.br h.rs.tg p0, rel_thr h _, Nat.le_refl _⟩
theorem okX10_eventOf {cs : CSt} {qs : MSt} (h : Rel cs qs) (p0 : Int32) (p1 : Int32) : sX10_eventOf (c_ev_count cs) (c_fi cs) p0 p1 := s_eventOf _ _ p0 p1
theorem okX11_eventOf {cs : CSt} {qs : MSt} (h : Rel cs qs) (p0 : Int32) (p1 : Int32) : sX11_eventOf (q_m_events qs) p0 p1 := sm_eventOf _ p0 p1
theorem st_eventOf {cs : CSt} {qs : MSt} (h : Rel cs qs) (p0 : Int32) (p1 : Int32) : (c_eventOf cs p0 p1) = (m_eventOf qs p0 p1).1 ∧ Rel cs (m_eventOf qs p0 p1).2 ∧ pgc (c_pg cs) ≤ pgc (c_pg cs) := by
  refine ⟨?_, rel_thr h _, Nat.le_refl _⟩
  have e := e_eventOf (e := c_ev_count cs) h.rs.rec p0 p1
  show fX10_eventOf (c_ev_count cs) (c_fi cs) p0 p1 = (fX11_eventOf (q_m_events qs) (q_mf qs) p0 p1).1
  rw [e, h.rs.evc]
theorem okX10_valueOf {cs : CSt} {qs : MSt} (h : Rel cs qs) (p0 : Int32) (p1 : Int32) : sX10_valueOf (c_ev_count cs) (c_fi cs) p0 p1 := s_valueOf _ _ p0 p1
theorem okX11_valueOf {cs : CSt} {qs : MSt} (h : Rel cs qs) (p0 : Int32) (p1 : Int32) : sX11_valueOf (q_m_events qs) p0 p1 := sm_valueOf _ p0 p1
theorem st_valueOf {cs : CSt} {qs : MSt} (h : Rel cs qs) (p0 : Int32) (p1 : Int32) : (c_valueOf cs p0 p1) = (m_valueOf qs p0 p1).1 ∧ Rel cs (m_valueOf qs p0 p1).2 ∧ pgc (c_pg cs) ≤ pgc (c_pg cs) := by
  refine ⟨?_, rel_thr h _, Nat.le_refl _⟩
  have e := e_valueOf (e := c_ev_count cs) h.rs.rec p0 p1
  show fX10_valueOf (c_ev_count cs) (c_fi cs) p0 p1 = (fX11_valueOf (q_m_events qs) (q_mf qs) p0 p1).1
  rw [e, h.rs.evc]
theorem st_lookAt {cs : CSt} {qs : MSt} (h : Rel cs qs) (p0 : Int32) : (c_lookAt cs p0) = (m_lookAt qs p0).1 ∧ Rel cs (m_lookAt qs p0).2 ∧ pgc (c_pg cs) ≤ pgc (c_pg cs) := by
  refine ⟨?_, rel_thr h _, Nat.le_refl _⟩
  obtain ⟨n, hn, en⟩ := h.rs.evn
  have e := e_lookAt (cy := c_tw_cycles cs) (st := c_mp_sets cs) (ls := c_li_size cs) (ex := c_ev_exceptions cs) (db := c_ev_doubleCycles cs) (lw := c_ev_longestWay cs) hn en h.rs.held p0
  show fX10_lookAt (c_tw_cycles cs) (c_sp_held cs) (c_mp_sets cs) (c_li_size cs) (c_ev_count cs) (c_ev_exceptions cs) (c_ev_doubleCycles cs) (c_ev_longestWay cs) p0 = (fX11_lookAt (q_m_sets qs) (q_m_lines qs) (q_m_cycles qs) (q_m_events qs) (q_m_exceptions qs) (q_m_doubles qs) (q_m_longest qs) (q_ms qs) p0).1
  rw [e, h.rs.sets, h.rs.lsz, h.rs.cyc, h.rs.evc, h.rs.exc, h.rs.dbl, h.rs.lng]
theorem okX11_wordAt {cs : CSt} {qs : MSt} (h : Rel cs qs) (p0 : Int32) : sX11_wordAt (q_mm qs) p0 := by
  refine ⟨fun _ => trivial, fun a => ⟨fun _ => trivial, fun b => ⟨fun c => ⟨?_, fun _ _ => trivial⟩, fun _ => trivial⟩⟩⟩
  rcases e_addr p0 with ⟨_, q, hq, e⟩ | ⟨_, d⟩
  · rw [e]; exact s_word (by omega) 5 0 0 (by omega) (by omega)
  · rcases d with d | d | d
    · exact absurd d a
    · exact absurd d b
    · exact absurd c d
theorem st_wordAt {cs : CSt} {qs : MSt} (h : Rel cs qs) (p0 : Int32) : (c_wordAt cs p0) = (m_wordAt qs p0).1 ∧ Rel cs (m_wordAt qs p0).2 ∧ pgc (c_pg cs) ≤ pgc (c_pg cs) := ⟨e_wordAt h.rs.mem p0, rel_thr h _, Nat.le_refl _⟩
/-! specialOf -/
def setP (p : Int32) (cs : CSt) : CSt := ((c_tw_cycles cs), (c_tw_nextIsKnown cs), (c_mem cs), (c_pg cs), (c_st_pc cs), (c_st_inSlot cs), (c_st_branchAt cs), (c_st_target cs), (c_sp_sr cs), (c_sp_epc cs), (c_sp_esr cs), (c_sp_eea cs), (c_sp_held cs), (c_sp_sum cs), (c_sp_count cs), (c_sp_timer cs), (c_sp_mask cs), (c_sp_retired cs), (c_sp_latch cs), (c_mp_sets cs), p, (c_li_size cs), (c_ins_traits cs), (c_ins_op cs), (c_ins_d cs), (c_ins_a cs), (c_ins_b cs), (c_ins_u cs), (c_ins_i cs), (c_ins_j cs), (c_ef_exception cs), (c_ef_hasAddress cs), (c_ef_address cs), (c_ef_value cs), (c_ef_size cs), (c_ef_place cs), (c_ef_stored cs), (c_ef_sr cs), (c_ef_sum cs), (c_ef_goes cs), (c_ef_target cs), (c_pi_fetched cs), (c_pi_issued cs), (c_pi_ended cs), (c_pi_order cs), (c_pi_endedBefore cs), (c_pi_traits cs), (c_pi_pc cs), (c_pi_beganGroup cs), (c_pi_breaksGroup cs), (c_pi_redirectedFetch cs), (c_pi_branchForeseenToGo cs), (c_pi_branchRedirects cs), (c_ev_count cs), (c_ev_exceptions cs), (c_ev_doubleCycles cs), (c_ev_longestWay cs), (c_ev_lastCycle cs), (c_rg cs), (c_wo cs), (c_co cs), (c_va cs), (c_iss cs), (c_rdy cs), (c_fi cs))
set_option maxHeartbeats 4000000 in
theorem base_setP {cs : CSt} {qs : MSt} (h : Base cs qs) (p : Int32) (hl : LinesOk (c_li_size cs) p (c_co cs) (c_sp_retired cs)) : Base (setP p cs) qs := by
  obtain ⟨h, hP, hn⟩ := h
  exact ⟨⟨h.cyc, h.cycn, h.sets, h.setsv, h.mem, h.mem0, h.reg, h.reg0, h.sr, h.epc, h.esr, h.eea, h.cnt, h.tim, h.msk, h.held, h.lat, h.ret, h.retn, h.sum, h.srb, h.esrb, h.timb, h.maps, h.pc, h.slot, h.slotb, h.br, h.tg, h.lsz, h.lco, h.lva, hl, h.rec, h.evc, h.evn, h.exc, h.dbl, h.lng, h.nk⟩, hP, hn⟩
theorem setP_G (C : CCome) (T : Int32 × Int32 × Int32 × Int32 × Int32 × Int32 × Int32 × Int32 × Int32 × Int32 × Int32 × Int32 × (Nat → Int32) × (Nat → Int32)) (cs : CSt) (p : Int32) : setP p (cLookG C T cs) = cLookG (p, C.2) T cs := rfl
theorem sm_special {size passed ret sets : Int32} {ms co mlc mlv : Nat → Int32} (h : LinesOk size passed co ret) (p : Int32) : sX11_special sets ret size ms mlc mlv p := by
  unfold sX11_special
  refine ⟨fun _ => ⟨sm_status h, fun _ _ => trivial⟩, fun _ => ⟨fun _ => trivial, fun _ => ⟨fun _ => ⟨fun _ => trivial, fun _ => trivial⟩, fun _ => ⟨fun _ => ⟨fun _ => trivial, fun _ => trivial⟩, fun _ => fun z1 hz => ⟨fun _ => ⟨fun _ => trivial, fun h0 => ⟨fun _ => trivial, fun h10 => ⟨⟨fun _ => trivial, fun _ => trivial⟩, fun j2 hj => ⟨?_, trivial⟩⟩⟩⟩, fun hm => ⟨?_, trivial⟩⟩⟩⟩⟩⟩
  · rw [if_neg h10] at hj
    subst hj
    obtain ⟨a, ha, e⟩ := nI_of h0
    rw [e]
    exact vp_in_nI (Nat.not_le.mp fun q => h10 (by rw [e]; exact nI_le (a := 10) q ha)) (by decide)
  · subst hz
    have hm' : ¬ fX5_isOne sets p = 0 := by rw [e_isOne]; exact hm
    obtain ⟨k, hk, e⟩ := one_in hm'
    rw [e]
    exact vp_in_nI hk (by decide)
theorem okX10_specialOf {cs : CSt} {qs : MSt} (h : Rel cs qs) (p0 : Int32) : sX10_specialOf (c_sp_sr cs) (c_sp_epc cs) (c_sp_esr cs) (c_sp_eea cs) (c_sp_held cs) (c_sp_sum cs) (c_sp_count cs) (c_sp_timer cs) (c_sp_mask cs) (c_sp_retired cs) (c_sp_latch cs) (c_mp_sets cs) (c_li_passed cs) (c_li_size cs) (c_wo cs) (c_co cs) (c_va cs) p0 := by
  unfold sX10_specialOf
  exact ⟨s_read h.rs.lin p0, fun _ _ => trivial⟩
theorem okX11_specialOf {cs : CSt} {qs : MSt} (h : Rel cs qs) (p0 : Int32) : sX11_specialOf (q_m_sets qs) (q_m_sum qs) (q_m_retired qs) (q_m_lines qs) (q_ms qs) (q_mw qs) (q_mlc qs) (q_mlv qs) p0 := by
  refine ⟨fun _ => ⟨?_, fun _ _ => trivial⟩, fun _ => trivial⟩
  have := h.rs.lin
  rw [h.rs.lsz, h.rs.ret] at this
  exact sm_special this p0
set_option maxHeartbeats 4000000 in
theorem st_specialOf {cs : CSt} {qs : MSt} (h : Rel cs qs) (p0 : Int32) : (c_specialOf cs p0).1 = (m_specialOf qs p0).1 ∧ Rel (c_specialOf cs p0).2 (m_specialOf qs p0).2 ∧ pgc (c_pg cs) ≤ pgc (c_pg (c_specialOf cs p0).2) := by
  have e := e_special (sum := c_sp_sum cs) (sets := c_mp_sets cs) h.rs.lin h.rs.lco h.rs.lva h.rs.maps h.rs.sr h.rs.epc h.rs.esr h.rs.eea h.rs.cnt h.rs.tim h.rs.msk h.rs.held h.rs.lat p0
  have e1 : (c_specialOf cs p0) = ((fX8_read (c_sp_sr cs) (c_sp_epc cs) (c_sp_esr cs) (c_sp_eea cs) (c_sp_held cs) (c_sp_sum cs) (c_sp_count cs) (c_sp_timer cs) (c_sp_mask cs) (c_sp_retired cs) (c_sp_latch cs) (c_mp_sets cs) (c_li_passed cs) (c_li_size cs) (c_wo cs) (c_co cs) (c_va cs) p0).1, setP (fX8_read (c_sp_sr cs) (c_sp_epc cs) (c_sp_esr cs) (c_sp_eea cs) (c_sp_held cs) (c_sp_sum cs) (c_sp_count cs) (c_sp_timer cs) (c_sp_mask cs) (c_sp_retired cs) (c_sp_latch cs) (c_mp_sets cs) (c_li_passed cs) (c_li_size cs) (c_wo cs) (c_co cs) (c_va cs) p0).2 cs) := by
    unfold c_specialOf fX10_specialOf
    generalize fX8_read (c_sp_sr cs) (c_sp_epc cs) (c_sp_esr cs) (c_sp_eea cs) (c_sp_held cs) (c_sp_sum cs) (c_sp_count cs) (c_sp_timer cs) (c_sp_mask cs) (c_sp_retired cs) (c_sp_latch cs) (c_mp_sets cs) (c_li_passed cs) (c_li_size cs) (c_wo cs) (c_co cs) (c_va cs) p0 = R
    rfl
  rw [e1]
  generalize fX8_read (c_sp_sr cs) (c_sp_epc cs) (c_sp_esr cs) (c_sp_eea cs) (c_sp_held cs) (c_sp_sum cs) (c_sp_count cs) (c_sp_timer cs) (c_sp_mask cs) (c_sp_retired cs) (c_sp_latch cs) (c_mp_sets cs) (c_li_passed cs) (c_li_size cs) (c_wo cs) (c_co cs) (c_va cs) p0 = R at e ⊢
  refine ⟨?_, ?_, Nat.le_refl _⟩
  · rw [e.1, h.rs.sets, h.rs.sum, h.rs.ret, h.rs.lsz]
    rfl
  · have h3 : Rel (setP R.2 cs) qs := by
      rcases h with ⟨hB, h1, h2⟩ | ⟨cs0, p, hB, hl, ec, h1, h2⟩
      · exact Or.inl ⟨base_setP hB _ e.2, h1, h2⟩
      · subst ec
        exact Or.inr ⟨cs0, R.2, hB, e.2, rfl, h1, h2⟩
    exact rel_thr h3 _
/-! calls that act only before the first cycle -/
theorem known_cy {cs0 : CSt} {qs : MSt} (hB : Base cs0 qs) (h : 0 < (c_tw_cycles cs0).toInt) : (0 : Int32) < c_tw_cycles cs0 ∧ ¬ c_tw_cycles cs0 = 0 := by
  refine ⟨by rw [ilt, i32_0]; exact h, fun q => ?_⟩
  rw [q, i32_0] at h
  omega
theorem okX10_setRegister {cs : CSt} {qs : MSt} (h : Rel cs qs) (p0 : Int32) (p1 : Int32) : sX10_setRegister (c_tw_cycles cs) p0 := s_setRegister _ p0
theorem okX11_setRegister {cs : CSt} {qs : MSt} (h : Rel cs qs) (p0 : Int32) (p1 : Int32) : sX11_setRegister (q_m_cycles qs) p0 := sm_setRegister _ p0
set_option maxHeartbeats 4000000 in
theorem st_setRegister {cs : CSt} {qs : MSt} (h : Rel cs qs) (p0 : Int32) (p1 : Int32) : (c_setRegister cs p0 p1).1 = (m_setRegister qs p0 p1).1 ∧ Rel (c_setRegister cs p0 p1).2 (m_setRegister qs p0 p1).2 ∧ pgc (c_pg cs) ≤ pgc (c_pg (c_setRegister cs p0 p1).2) := by
  have e := e_setRegister (cy := c_tw_cycles cs) h.rs.reg p0 p1
  have hcyc := h.rs.cyc
  unfold c_setRegister m_setRegister
  have hQ : fX11_setRegister (q_m_cycles qs) (q_mr qs) p0 p1 = fX11_setRegister (c_tw_cycles cs) (q_mr qs) p0 p1 := by rw [hcyc]
  rw [hQ]
  rcases h with ⟨hB, h1, h2⟩ | ⟨cs0, p, hB, hl, ec, h1, h2⟩
  · generalize fX10_setRegister (c_tw_cycles cs) (c_rg cs) p0 p1 = R at e ⊢
    generalize fX11_setRegister (c_tw_cycles cs) (q_mr qs) p0 p1 = Q at e ⊢
    obtain ⟨h, hP, hn⟩ := hB
    exact ⟨e.1, Or.inl ⟨⟨⟨h.cyc, h.cycn, h.sets, h.setsv, h.mem, h.mem0, e.2.1, e.2.2.trans h.reg0, h.sr, h.epc, h.esr, h.eea, h.cnt, h.tim, h.msk, h.held, h.lat, h.ret, h.retn, h.sum, h.srb, h.esrb, h.timb, h.maps, h.pc, h.slot, h.slotb, h.br, h.tg, h.lsz, h.lco, h.lva, h.lin, h.rec, h.evc, h.evn, h.exc, h.dbl, h.lng, h.nk⟩, hP, hn⟩, h1, h2⟩, Nat.le_refl _⟩
  · have hc := known_cy hB h1
    have hcc : (0 : Int32) < c_tw_cycles cs := by rw [ec]; exact hc.1
    have e1 : fX10_setRegister (c_tw_cycles cs) (c_rg cs) p0 p1 = (0, c_rg cs) := by unfold fX10_setRegister; rw [if_pos hcc]
    have e2 : fX11_setRegister (c_tw_cycles cs) (q_mr qs) p0 p1 = (0, 0, q_mr qs) := by unfold fX11_setRegister; rw [if_pos hcc]
    rw [e1, e2]
    exact ⟨rfl, rel_thr (Or.inr ⟨cs0, p, hB, hl, ec, h1, h2⟩) 0, Nat.le_refl _⟩
/-- a page that is made counts -/
theorem put_room (mem : Nat → Int32) (pg : Nat → Bool) (p v : Int32) (hp : mpage p < 64) : sX6_put pg (pgc (fX6_put mem pg p v).2 - pgc pg) p v := by
  intro h1 h2
  have e : (fX6_put mem pg p v).2 = fun i => if i = mpage p then true else pg i := by
    unfold fX6_put
    rw [if_neg (fun q => h2 q.2)]
  rw [e]
  have : pgc pg + 1 ≤ pgc (fun i => if i = mpage p then true else pg i) := by
    unfold pgc
    have key : ∀ n, mpage p < n → ((List.range n).filter (fun i => pg i)).length + 1 ≤ ((List.range n).filter (fun i => if i = mpage p then true else pg i)).length := by
      intro n
      induction n with
      | zero => intro hn; exact absurd hn (by omega)
      | succ n ih =>
        intro hn
        rw [List.range_succ, List.filter_append, List.filter_append, List.length_append, List.length_append]
        by_cases hq : mpage p = n
        · have e1 : ((List.range n).filter (fun i => if i = mpage p then true else pg i)) = ((List.range n).filter (fun i => pg i)) := by
            apply List.filter_congr
            intro a ha
            rw [List.mem_range] at ha
            rw [if_neg (by omega)]
          rw [e1]
          have e2 : ([n].filter (fun i => pg i)).length = 0 := by rw [← hq]; simp [h1]
          have e3 : ([n].filter (fun i => if i = mpage p then true else pg i)).length = 1 := by rw [← hq]; simp
          rw [e2, e3]; omega
        · have := ih (by omega)
          have e2 : ([n].filter (fun i => pg i)).length = ([n].filter (fun i => if i = mpage p then true else pg i)).length := by
            have hf : ¬ n = mpage p := fun q => hq q.symm
            congr 1
            apply List.filter_congr
            intro a ha
            rw [List.mem_singleton] at ha
            rw [ha, if_neg hf]
          rw [e2]; omega
    exact key 64 hp
  omega
theorem okX10_giveWord {cs : CSt} {qs : MSt} (h : Rel cs qs) (p0 : Int32) (p1 : Int32) : sX10_giveWord (c_tw_cycles cs) (c_mem cs) (c_pg cs) (pgc (c_pg (c_giveWord cs p0 p1).2) - pgc (c_pg cs)) p0 p1 := by
  refine ⟨fun _ => trivial, fun h0 => fun z1 hz => ⟨fun _ => trivial, fun h1 => ⟨?_, fun _ _ => trivial⟩⟩⟩
  subst hz
  have e : c_pg (c_giveWord cs p0 p1).2 = (fX6_put (c_mem cs) (c_pg cs) p0 p1).2 := by
    show (fX10_giveWord (c_tw_cycles cs) (c_mem cs) (c_pg cs) p0 p1).2.2 = _
    unfold fX10_giveWord
    rw [if_neg h0]
    dsimp only
    rw [if_neg h1]
  rw [e]
  exact put_room _ _ _ _ (by
    rcases e_addr p0 with ⟨_, q, hq, eq⟩ | ⟨d, _⟩
    · rw [eq, mpage_nI (by omega)]; omega
    · exact absurd d h1)
theorem okX11_giveWord {cs : CSt} {qs : MSt} (h : Rel cs qs) (p0 : Int32) (p1 : Int32) : sX11_giveWord (q_m_cycles qs) (q_mm qs) p0 p1 := by
  refine ⟨fun _ => trivial, fun _ => ⟨fun _ => trivial, fun a => ⟨fun _ => trivial, fun b => ⟨fun c => ⟨?_, fun _ _ => trivial⟩, fun _ => trivial⟩⟩⟩⟩
  rcases e_addr p0 with ⟨_, q, hq, e⟩ | ⟨_, d⟩
  · rw [e]; exact s_put (n := 4) (by omega) (by omega) 5 0 _ (by omega) (by omega)
  · rcases d with d | d | d
    · exact absurd d a
    · exact absurd d b
    · exact absurd c d
set_option maxHeartbeats 4000000 in
theorem st_giveWord {cs : CSt} {qs : MSt} (h : Rel cs qs) (p0 : Int32) (p1 : Int32) : (c_giveWord cs p0 p1).1 = (m_giveWord qs p0 p1).1 ∧ Rel (c_giveWord cs p0 p1).2 (m_giveWord qs p0 p1).2 ∧ pgc (c_pg cs) ≤ pgc (c_pg (c_giveWord cs p0 p1).2) := by
  have e := e_giveWord (cy := c_tw_cycles cs) h.rs.mem h.rs.mem0 p0 p1
  have hle : PgLe (c_pg cs) (fX10_giveWord (c_tw_cycles cs) (c_mem cs) (c_pg cs) p0 p1).2.2 := by
    unfold fX10_giveWord
    split
    · exact fun i hi => hi
    · dsimp only
      split
      · exact fun i hi => hi
      · exact put_le _ _ _ _
  have hcyc := h.rs.cyc
  unfold c_giveWord m_giveWord
  have hQ : fX11_giveWord (q_m_cycles qs) (q_mm qs) p0 p1 = fX11_giveWord (c_tw_cycles cs) (q_mm qs) p0 p1 := by rw [hcyc]
  rw [hQ]
  rcases h with ⟨hB, h1, h2⟩ | ⟨cs0, p, hB, hl, ec, h1, h2⟩
  · generalize fX10_giveWord (c_tw_cycles cs) (c_mem cs) (c_pg cs) p0 p1 = R at e hle ⊢
    generalize fX11_giveWord (c_tw_cycles cs) (q_mm qs) p0 p1 = Q at e ⊢
    obtain ⟨h, hP, hn⟩ := hB
    exact ⟨e.1, Or.inl ⟨⟨⟨h.cyc, h.cycn, h.sets, h.setsv, e.2.1, e.2.2, h.reg, h.reg0, h.sr, h.epc, h.esr, h.eea, h.cnt, h.tim, h.msk, h.held, h.lat, h.ret, h.retn, h.sum, h.srb, h.esrb, h.timb, h.maps, h.pc, h.slot, h.slotb, h.br, h.tg, h.lsz, h.lco, h.lva, h.lin, h.rec, h.evc, h.evn, h.exc, h.dbl, h.lng, h.nk⟩, hP, hn⟩, h1, h2⟩, pgc_mono hle⟩
  · have hc := known_cy hB h1
    have hcc : (0 : Int32) < c_tw_cycles cs := by rw [ec]; exact hc.1
    have e1 : fX10_giveWord (c_tw_cycles cs) (c_mem cs) (c_pg cs) p0 p1 = (0, c_mem cs, c_pg cs) := by unfold fX10_giveWord; rw [if_pos hcc]
    have e2 : fX11_giveWord (c_tw_cycles cs) (q_mm qs) p0 p1 = (0, 0, q_mm qs) := by unfold fX11_giveWord; rw [if_pos hcc]
    rw [e1, e2]
    exact ⟨rfl, rel_thr (Or.inr ⟨cs0, p, hB, hl, ec, h1, h2⟩) 0, Nat.le_refl _⟩
theorem okX10_linesFrom {cs : CSt} {qs : MSt} (h : Rel cs qs) (p0 : Int32) (p1 : Int32) : sX10_linesFrom (c_tw_cycles cs) (c_li_size cs) (c_co cs) (c_va cs) p0 p1 := by
  obtain ⟨n, k, e1, hn, e2, hk, _⟩ := h.rs.lin
  refine ⟨fun _ => ⟨⟨fun _ => trivial, fun _ => ⟨fun _ => trivial, fun h32 => ?_⟩⟩, fun _ _ => ⟨fun _ => trivial, fun _ => trivial⟩⟩, fun _ => trivial⟩
  rw [e1] at h32 ⊢
  have hn2 : n < 32 := Nat.not_le.mp fun q => h32 (nI_le (a := 32) q (by omega))
  have hv : vp_in (nI n) 32 := vp_in_nI hn2 (by decide)
  refine ⟨fun _ => ⟨hv, hv, trivial⟩, fun h0 => ⟨?_, fun _ => ⟨hv, hv, trivial⟩, fun _ => trivial⟩⟩
  have hpos : 1 ≤ n := Nat.not_lt.mp fun q => h0 (by rw [show n = 0 by omega]; decide)
  rw [show nI n - 1 = nI (n - 1) from pk_sub (b := 1) hpos]
  exact vp_in_nI (by omega) (by decide)
theorem okX11_linesFrom {cs : CSt} {qs : MSt} (h : Rel cs qs) (p0 : Int32) (p1 : Int32) : sX11_linesFrom (q_m_lines qs) (q_m_cycles qs) (q_mlc qs) p0 := by
  obtain ⟨n, k, e1, hn, e2, hk, _⟩ := h.rs.lin
  rw [h.rs.lsz] at e1
  refine ⟨fun _ => trivial, fun _ => ⟨fun _ => trivial, fun _ => ⟨fun _ => trivial, fun h32 => ?_⟩⟩⟩
  rw [e1] at h32 ⊢
  have hn2 : n < 32 := by
    rcases Nat.lt_or_ge n 32 with q | q
    · exact q
    · exact absurd (show nI n = 32 by rw [show n = 32 by omega]; rfl) h32
  have hv : vp_in (nI n) 32 := vp_in_nI hn2 (by decide)
  refine ⟨fun _ => ⟨hv, hv, trivial⟩, fun h0 => ⟨⟨fun _ => trivial, fun _ => trivial⟩, fun j1 hj => ⟨?_, fun _ => ⟨hv, hv, trivial⟩, fun _ => trivial⟩⟩⟩
  rw [hj, if_neg h0]
  have hpos : 1 ≤ n := Nat.not_lt.mp fun q => h0 (by rw [show n = 0 by omega]; decide)
  rw [show nI n - 1 = nI (n - 1) from pk_sub (b := 1) hpos]
  exact vp_in_nI (by omega) (by decide)
set_option maxHeartbeats 4000000 in
theorem st_linesFrom {cs : CSt} {qs : MSt} (h : Rel cs qs) (p0 : Int32) (p1 : Int32) : (c_linesFrom cs p0 p1).1 = (m_linesFrom qs p0 p1).1 ∧ Rel (c_linesFrom cs p0 p1).2 (m_linesFrom qs p0 p1).2 ∧ pgc (c_pg cs) ≤ pgc (c_pg (c_linesFrom cs p0 p1).2) := by
  obtain ⟨m, hm, hcy⟩ := h.rs.cycn
  have e := e_linesFrom hm hcy h.rs.lin h.rs.lco h.rs.lva p0 p1
  have hcyc := h.rs.cyc
  have hlsz := h.rs.lsz
  unfold c_linesFrom m_linesFrom
  have hQ : fX11_linesFrom (q_m_lines qs) (q_m_cycles qs) (q_mlc qs) (q_mlv qs) p0 p1 = fX11_linesFrom (c_li_size cs) (c_tw_cycles cs) (q_mlc qs) (q_mlv qs) p0 p1 := by rw [hcyc, hlsz]
  rw [hQ]
  rcases h with ⟨hB, h1, h2⟩ | ⟨cs0, p, hB, hl, ec, h1, h2⟩
  · generalize fX10_linesFrom (c_tw_cycles cs) (c_li_size cs) (c_co cs) (c_va cs) p0 p1 = R at e ⊢
    generalize fX11_linesFrom (c_li_size cs) (c_tw_cycles cs) (q_mlc qs) (q_mlv qs) p0 p1 = Q at e ⊢
    obtain ⟨h, hP, hn⟩ := hB
    exact ⟨e.1, Or.inl ⟨⟨⟨h.cyc, h.cycn, h.sets, h.setsv, h.mem, h.mem0, h.reg, h.reg0, h.sr, h.epc, h.esr, h.eea, h.cnt, h.tim, h.msk, h.held, h.lat, h.ret, h.retn, h.sum, h.srb, h.esrb, h.timb, h.maps, h.pc, h.slot, h.slotb, h.br, h.tg, e.2.1, e.2.2.1, e.2.2.2.1, e.2.2.2.2, h.rec, h.evc, h.evn, h.exc, h.dbl, h.lng, h.nk⟩, hP, hn⟩, h1, h2⟩, Nat.le_refl _⟩
  · have hc := known_cy hB h1
    have hcc : (0 : Int32) < c_tw_cycles cs := by rw [ec]; exact hc.1
    have hc0 : ¬ c_tw_cycles cs = 0 := by rw [ec]; exact hc.2
    have hsz : c_li_size cs = q_m_lines qs := by rw [ec]; exact hB.1.lsz
    have e1 : fX10_linesFrom (c_tw_cycles cs) (c_li_size cs) (c_co cs) (c_va cs) p0 p1 = (0, c_li_size cs, c_co cs, c_va cs) := by unfold fX10_linesFrom; rw [if_neg hc0]
    have e2 : fX11_linesFrom (c_li_size cs) (c_tw_cycles cs) (q_mlc qs) (q_mlv qs) p0 p1 = (0, 0, q_m_lines qs, q_mlc qs, q_mlv qs) := by unfold fX11_linesFrom; rw [if_pos hcc, hsz]
    rw [e1, e2]
    exact ⟨rfl, rel_thr (Or.inr ⟨cs0, p, hB, hl, ec, h1, h2⟩) 0, Nat.le_refl _⟩

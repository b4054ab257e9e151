/-! ===== pure: one event on the two sides ===== -/
def Base (cs : CSt) (qs : MSt) : Prop := RS cs qs ∧ RP cs qs ∧ c_tw_nextIsKnown cs = 0
theorem RS.sp {cs : CSt} {qs : MSt} (h : RS cs qs) : SpOk (c_sp_sr cs) (c_sp_epc cs) (c_sp_esr cs) (c_sp_eea cs) (c_sp_count cs) (c_sp_timer cs) (c_sp_mask cs) (c_sp_held cs) (c_sp_latch cs) (q_ms qs) := ⟨h.sr, h.epc, h.esr, h.eea, h.cnt, h.tim, h.msk, h.held, h.lat, h.srb, h.esrb, h.timb⟩
theorem look_LR {cs : CSt} {qs : MSt} (h : RS cs qs) : LR (c_st_inSlot cs) (c_st_pc cs) (c_sp_sr cs) (c_sp_sum cs) (q_m_went qs) (C_ cs) (L_ qs) ∧ LinesOk (c_li_size cs) (C_ cs).1 (c_co cs) (c_sp_retired cs) := by
  have e := e_comeTo (pc := c_st_pc cs) (slot := c_st_inSlot cs) (sum := c_sp_sum cs) (mv := q_m_value qs) (ns := q_m_newSum qs) (yb := q_m_bytes qs) (st := q_m_stored qs) (went := q_m_went qs) (ad := c_ef_address cs) (pl := c_ef_place cs) (st' := c_ef_stored cs) (tg := c_ef_target cs) (o0 := c_ins_op cs) (d0 := c_ins_d cs) (a0 := c_ins_a cs) (b0 := c_ins_b cs) (u0 := c_ins_u cs) (i0 := c_ins_i cs) (j0 := c_ins_j cs) h.mem h.setsv h.reg h.lin h.lco h.lva h.maps h.sr h.epc h.esr h.eea h.cnt h.tim h.msk h.held h.lat
  have hl : L_ qs = fX11_look (c_mp_sets cs) (c_sp_sum cs) (c_st_pc cs) (c_st_inSlot cs) (c_sp_retired cs) (c_li_size cs) (q_m_value qs) (q_m_newSum qs) (q_m_bytes qs) (q_m_stored qs) (q_m_went qs) (q_mm qs) (q_mr qs) (q_ms qs) (q_mw qs) (q_mlc qs) (q_mlv qs) := by
    unfold L_
    rw [h.sets, h.sum, h.pc, h.slot, h.ret, h.lsz]
  rw [hl]
  exact e
theorem ins_ok {slot pc sr : Int32} {sum : Int64} {went : Int32} {C : CCome} {L : MLook} (h : LR slot pc sr sum went C L) : InsOk C.2.1 C.2.2.2.1 C.2.2.2.2.1 C.2.2.2.2.2.1 L.2.1 L.1 := by
  rcases h.1 with ⟨h1, h2⟩ | ⟨h1, h2, h3, _⟩
  · obtain ⟨n, d, en, ed, edec⟩ := dec_all L.1
    rw [edec] at h2
    refine Or.inl ⟨h1, n, d, en, ed, ?_, ?_, ?_, ?_⟩
    · exact congrArg (fun z => z.1) h2
    · exact congrArg (fun z => z.2.2.1) h2
    · exact congrArg (fun z => z.2.2.2.1) h2
    · exact congrArg (fun z => z.2.2.2.2.1) h2
  · exact Or.inr ⟨h1, h2, h3⟩
/-- what an event leaves of the state on the two sides -/
def StOk (cs : CSt) (C : CCome) (w : Int32) (r : Nat) (F : (Nat → Int32) × (Nat → Bool) × Int32 × Int32 × Int32 × Int32 × Int32 × Int32 × Int32 × Int32 × Int32 × Int64 × Int32 × Int32 × Int32 × Int32 × Int32 × Int32 × (Nat → Int32) × (Nat → Int32)) (sum' : Int64) (pc' slot' mbr' mtg' ret' fsn' exp' : Int32) (mm' mr' ms' mw' : Nat → Int32) : Prop :=
  (MemOk F.1 mm' ∧ PgOk F.1 F.2.1 ∧ PgLe (c_pg cs) F.2.1) ∧ (F.2.2.1 = pc' ∧ F.2.2.2.1 = slot' ∧ isB F.2.2.2.1 ∧ (mbr' = if F.2.2.2.1 = 0 then 0 else F.2.2.2.2.1) ∧ (mtg' = if F.2.2.2.1 = 0 then 0 else F.2.2.2.2.2.1)) ∧
  SpOk F.2.2.2.2.2.2.1 F.2.2.2.2.2.2.2.1 F.2.2.2.2.2.2.2.2.1 F.2.2.2.2.2.2.2.2.2.1 F.2.2.2.2.2.2.2.2.2.2.2.2.1 F.2.2.2.2.2.2.2.2.2.2.2.2.2.1 F.2.2.2.2.2.2.2.2.2.2.2.2.2.2.1 F.2.2.2.2.2.2.2.2.2.2.1 F.2.2.2.2.2.2.2.2.2.2.2.2.2.2.2.2.1 ms' ∧
  (F.2.2.2.2.2.2.2.2.2.2.2.1 = sum' ∧ F.2.2.2.2.2.2.2.2.2.2.2.2.2.2.2.1 = ret' ∧ ∃ r' : Nat, r' ≤ r + 1 ∧ ret' = nI r') ∧ LinesOk (c_li_size cs) F.2.2.2.2.2.2.2.2.2.2.2.2.2.2.2.2.2.1 (c_co cs) ret' ∧
  ((∀ j, j < 32 → F.2.2.2.2.2.2.2.2.2.2.2.2.2.2.2.2.2.2.1 j = mr' j) ∧ F.2.2.2.2.2.2.2.2.2.2.2.2.2.2.2.2.2.2.1 0 = 0) ∧ (∀ j, j < 512 → F.2.2.2.2.2.2.2.2.2.2.2.2.2.2.2.2.2.2.2 j = mw' j) ∧
  (¬ F.2.2.2.1 = 0 → C.2.2.2.2.2.2.2.2.2.1 = 0 ∧ ¬ fX3_is C.2.1 8192 = 0 ∧ fsn' = (if 24 ≤ fX11_op w then (0 : Int32) else 1) ∧ exp' = (if fX11_op w < 22 then (1 : Int32) else (if 24 ≤ fX11_op w then (0) else (if (0 : Int32) ≤ (w <<< ((6 : Int32) &&& 31)) then (0) else (1)))))
set_option maxHeartbeats 1000000 in
theorem e_finish {cs : CSt} {qs : MSt} (h : RS cs qs) {C : CCome} {L : MLook} (hL : LR (c_st_inSlot cs) (c_st_pc cs) (c_sp_sr cs) (c_sp_sum cs) (q_m_went qs) C L) (hLin : LinesOk (c_li_size cs) C.1 (c_co cs) (c_sp_retired cs)) {r : Nat} (hr : c_sp_retired cs = nI r) (hrn : r < 200000)
    (F : (Nat → Int32) × (Nat → Bool) × Int32 × Int32 × Int32 × Int32 × Int32 × Int32 × Int32 × Int32 × Int32 × Int64 × Int32 × Int32 × Int32 × Int32 × Int32 × Int32 × (Nat → Int32) × (Nat → Int32)) (hF : F = fX2_finish (c_mem cs) (c_pg cs) (c_st_pc cs) (c_st_inSlot cs) (c_st_branchAt cs) (c_st_target cs) (c_sp_sr cs) (c_sp_epc cs) (c_sp_esr cs) (c_sp_eea cs) (c_sp_held cs) (c_sp_sum cs) (c_sp_count cs) (c_sp_timer cs) (c_sp_mask cs) (c_sp_retired cs) (c_sp_latch cs) (c_mp_sets cs) C.1 (c_li_size cs) C.2.1 C.2.2.1 C.2.2.2.1 C.2.2.2.2.1 C.2.2.2.2.2.2.1 C.2.2.2.2.2.2.2.2.2.1 C.2.2.2.2.2.2.2.2.2.2.1 C.2.2.2.2.2.2.2.2.2.2.2.1 C.2.2.2.2.2.2.2.2.2.2.2.2.1 C.2.2.2.2.2.2.2.2.2.2.2.2.2.1 C.2.2.2.2.2.2.2.2.2.2.2.2.2.2.1 C.2.2.2.2.2.2.2.2.2.2.2.2.2.2.2.1 C.2.2.2.2.2.2.2.2.2.2.2.2.2.2.2.2.1 C.2.2.2.2.2.2.2.2.2.2.2.2.2.2.2.2.2.1 C.2.2.2.2.2.2.2.2.2.2.2.2.2.2.2.2.2.2.2 (c_rg cs) (c_wo cs) (c_co cs) (c_va cs))
    (Y : Int64 × Int32 × Int32 × Int32 × Int32 × Int32 × Int32 × Int32 × (Nat → Int32) × (Nat → Int32) × (Nat → Int32) × (Nat → Int32)) (hY : Y = fX11_retire (q_m_sets qs) (q_m_sum qs) (q_m_pc qs) (q_m_slot qs) (q_m_branch qs) (q_m_target qs) (q_m_retired qs) (q_m_lines qs) L.1 L.2.2.2.2.1 L.2.2.2.2.2.1 L.2.2.2.2.2.2.1 L.2.2.2.2.2.2.2.1 L.2.2.2.2.2.2.2.2.1 L.2.2.2.2.2.2.2.2.2.1 L.2.2.2.2.2.2.2.2.2.2.1 L.2.2.2.2.2.2.2.2.2.2.2.1 L.2.2.2.2.2.2.2.2.2.2.2.2.1 L.2.2.2.2.2.2.2.2.2.2.2.2.2.1 L.2.2.2.2.2.2.2.2.2.2.2.2.2.2.1 L.2.2.2.2.2.2.2.2.2.2.2.2.2.2.2.1 L.2.2.2.2.2.2.2.2.2.2.2.2.2.2.2.2.1 (q_m_foreseen qs) (q_m_expected qs) (q_mm qs) (q_mr qs) (q_ms qs) (q_mw qs) (q_mlc qs) (q_mlv qs))
    (X : Int32 × Int32 × Int32 × Int32 × (Nat → Int32)) (hX : X = fX11_except (q_m_pc qs) (q_m_slot qs) (q_m_branch qs) L.2.2.1 L.2.2.2.1 L.2.2.2.2.2.1 (q_ms qs)) :
    (C.2.2.2.2.2.2.2.2.2.1 = 0 → StOk cs C L.1 r F Y.1 Y.2.1 Y.2.2.1 Y.2.2.2.1 Y.2.2.2.2.1 Y.2.2.2.2.2.1 Y.2.2.2.2.2.2.1 Y.2.2.2.2.2.2.2.1 Y.2.2.2.2.2.2.2.2.1 Y.2.2.2.2.2.2.2.2.2.1 Y.2.2.2.2.2.2.2.2.2.2.1 Y.2.2.2.2.2.2.2.2.2.2.2) ∧
    (¬ C.2.2.2.2.2.2.2.2.2.1 = 0 → StOk cs C L.1 r F (q_m_sum qs) X.1 X.2.1 X.2.2.1 X.2.2.2.1 (q_m_retired qs) (q_m_foreseen qs) (q_m_expected qs) (q_mm qs) (q_mr qs) X.2.2.2.2 (q_mw qs)) := by
  rw [← h.sets, ← h.sum, ← h.pc, ← h.slot, ← h.ret, ← h.lsz] at hY
  rw [← h.pc, ← h.slot] at hX
  obtain ⟨l1, l2, l3⟩ := hL
  constructor
  · intro hx
    rw [hx] at l2 l3 hF
    rcases l1 with ⟨f1, f2⟩ | ⟨_, _, _, f4⟩
    · obtain ⟨n, d, en, ed, edec⟩ := dec_all L.1
      rw [edec] at f2
      have c1 : C.2.1 = TT n.val d.val := congrArg (fun z => z.1) f2
      have c2 : C.2.2.1 = nI n.val := congrArg (fun z => z.2.1) f2
      have c3 : C.2.2.2.1 = fD L.1 := congrArg (fun z => z.2.2.1) f2
      have c4 : C.2.2.2.2.1 = fA L.1 := congrArg (fun z => z.2.2.2.1) f2
      have c6 : C.2.2.2.2.2.2.1 = L.1 &&& 65535 := congrArg (fun z => z.2.2.2.2.2.1) f2
      rw [c1, c2, c3, c4, c6] at hF
      rw [c1, c2, c3] at l3
      rw [c1, c2] at l2
      unfold fX2_finish at hF
      rw [if_pos rfl] at hF
      have e := e_retire (pg := c_pg cs) (br := c_st_branchAt cs) (tg := c_st_target cs) (fsn := q_m_foreseen qs) (exp' := q_m_expected qs) h.mem h.mem0 h.reg h.reg0 hLin h.lco h.lva h.maps h.sp h.slotb h.br h.tg hr hrn n d en ed l3 (l2 rfl) _ rfl Y hY
      dsimp only at hF
      subst hF
      obtain ⟨e1, e2, e3, ⟨e4, e5, e6⟩, e7, e8, e9, e10⟩ := e
      refine ⟨e1, e2, e3, ⟨e4, e5, ⟨r + 1, by omega, e6⟩⟩, ?_, e8, e9, fun q => ?_⟩
      · rw [e6]; exact e7
      · obtain ⟨q1, q2, q3⟩ := e10 q
        rw [c1, en]
        exact ⟨hx, q1, q2, q3⟩
    · exact absurd hx f4
  · intro hx
    obtain ⟨v1, v2, v3, v4, v5⟩ := l3
    unfold fX2_finish at hF
    rw [if_neg hx] at hF
    have e := e_except (pc := c_st_pc cs) (exc := C.2.2.2.2.2.2.2.2.2.1) (br := c_st_branchAt cs) (mbr := q_m_branch qs) (mval := L.2.2.2.2.2.1) h.sp h.slotb (fun q => by rw [h.br, if_neg q]) (v3 hx) _ rfl X (by rw [v1]; exact hX)
    dsimp only at hF
    subst hF
    obtain ⟨e1, e2, e3, e4, e5, e6⟩ := e
    refine ⟨⟨h.mem, h.mem0, fun i hi => hi⟩, ⟨e1, e2.trans e3.symm, Or.inl e2, ?_, ?_⟩, e6, ⟨h.sum, h.ret, ⟨r, by omega, by rw [← h.ret]; exact hr⟩⟩, ?_, ⟨h.reg, h.reg0⟩, h.maps, fun q => absurd e2 q⟩
    · rw [if_pos e2]; exact e4
    · rw [if_pos e2]; exact e5
    · rw [← h.ret]; exact hLin
/-- the class has looked at what comes next; p: how many entries of lines are passed -/
def cLookP (p : Int32) (cs : CSt) : CSt := cLookG (p, (C_ cs).2) (T_ cs) cs
theorem cLook_P (cs : CSt) : cLook cs = cLookP (C_ cs).1 cs := rfl
set_option maxHeartbeats 2000000 in
theorem e_step {cs : CSt} {qs : MSt} (hB : Base cs qs) (p : Int32) (hLin : LinesOk (c_li_size cs) p (c_co cs) (c_sp_retired cs)) (hE : (T_ cs).2.2.1.toInt ≤ 60000) : Base (cDone (cLookP p cs)) (mDone (mLook qs)) ∧ PgLe (c_pg cs) (c_pg (cDone (cLookP p cs))) ∧ c_pi_ended (cDone (cLookP p cs)) = (T_ cs).2.2.1 ∧ c_pi_endedBefore (cDone (cLookP p cs)) = c_pi_ended cs := by
  obtain ⟨hS, hP, hn⟩ := hB
  have hLR : LR (c_st_inSlot cs) (c_st_pc cs) (c_sp_sr cs) (c_sp_sum cs) (q_m_went qs) (p, (C_ cs).2) (L_ qs) := (look_LR hS).1
  have hLin : LinesOk (c_li_size cs) (p, (C_ cs).2).1 (c_co cs) (c_sp_retired cs) := hLin
  unfold cLookP mLook K_
  have hTT : T_ cs = TG (p, (C_ cs).2) cs := rfl
  rw [hTT] at hE ⊢
  generalize (p, (C_ cs).2) = C at hE hLR hLin ⊢
  generalize L_ qs = L at hLR ⊢
  have hI := ins_ok hLR
  have hV := hLR.2.2
  have hx : (C.2.2.2.2.2.2.2.2.2.1) = (L.2.2.1) := hV.1
  have hxn := hV.2.1
  have hfe : ¬ (L.2.1) = 0 → ¬ (C.2.2.2.2.2.2.2.2.2.1) = 0 := fun q => by
    rcases hLR.1 with ⟨a, _⟩ | ⟨_, _, _, a⟩
    · exact absurd a q
    · exact a
  obtain ⟨⟨t1, t2, t3, t4⟩, hTO, u1, u2, u3, u4, u5, u6, u7⟩ := e_take hP hS.pc L hI hx hxn (TG C cs) rfl
  have hA := (cA_eqG C (TG C cs) cs).symm
  have hF := (cF_eqG C (TG C cs) cs).symm
  have hH := (mH_eqG L (KG L qs) qs).symm
  have hst : isB (KG L qs).2.2.2 := by rw [reckon_eq]; exact isB_ite' _
  unfold cDone mDone
  generalize TG C cs = T at hE t1 t2 t3 t4 hTO u1 u2 u3 u4 u5 u6 u7 hA hF ⊢
  generalize KG L qs = K at t1 t2 t3 t4 hH hst ⊢
  generalize A_ (cLookG C T cs) = A at hA ⊢
  generalize F_ (cLookG C T cs) = F at hF ⊢
  generalize H_ (mLookG L K qs) = H at hH ⊢
  obtain ⟨ev, ⟨ho, he, hev⟩, ⟨bF, bI', bE, bB, bR, bi, br, bdv⟩, h0, h1, h2, h2', hi, hbrk, hr0, hr1, ⟨g1, g0, g32, g33, g34⟩, hdv, hdep, hslot, hls, hgr, hlc, ⟨hor1, hor2, hor3, hor4⟩, ⟨r, hr, hrev⟩⟩ := hP
  obtain ⟨⟨o1, o2, o3⟩, ⟨o4, o5, o6⟩, ⟨o7, o8, o9, o10⟩, o11⟩ := hTO
  have hevc : c_ev_count cs = nI ev := by rw [hS.evc]; exact he
  obtain ⟨Y, hY⟩ : ∃ Y, Y = fX11_retire (q_m_sets qs) (q_m_sum qs) (q_m_pc qs) (q_m_slot qs) (q_m_branch qs) (q_m_target qs) (q_m_retired qs) (q_m_lines qs) (L.1) (L.2.2.2.2.1) (L.2.2.2.2.2.1) (L.2.2.2.2.2.2.1) (L.2.2.2.2.2.2.2.1) (L.2.2.2.2.2.2.2.2.1) (L.2.2.2.2.2.2.2.2.2.1) (L.2.2.2.2.2.2.2.2.2.2.1) (L.2.2.2.2.2.2.2.2.2.2.2.1) (L.2.2.2.2.2.2.2.2.2.2.2.2.1) (L.2.2.2.2.2.2.2.2.2.2.2.2.2.1) (L.2.2.2.2.2.2.2.2.2.2.2.2.2.2.1) (L.2.2.2.2.2.2.2.2.2.2.2.2.2.2.2.1) (L.2.2.2.2.2.2.2.2.2.2.2.2.2.2.2.2.1) (q_m_foreseen qs) (q_m_expected qs) (q_mm qs) (q_mr qs) (q_ms qs) (q_mw qs) (q_mlc qs) (q_mlv qs) := ⟨_, rfl⟩
  obtain ⟨X, hX⟩ : ∃ X, X = fX11_except (q_m_pc qs) (q_m_slot qs) (q_m_branch qs) (L.2.2.1) (L.2.2.2.1) (L.2.2.2.2.2.1) (q_ms qs) := ⟨_, rfl⟩
  obtain ⟨st0, st1⟩ := e_finish hS hLR hLin hr (by omega) F hF Y hY X hX
  rw [hap_eq _ _ _ _ _ _ _ _ _ _ _ _ _ _ _ _ _ _ _ _ _ _ _ _ _ _ _ _ _ _ _ _ _ _ _ _ _ _ _ _ _ _ _ _ _ _ _ _ _ _ Y hY X hX] at hH
  have hxle : (L.2.2.1) ≤ 0 ↔ (L.2.2.1) = 0 := by
    rw [← hx]
    obtain ⟨k, hk, ek⟩ := hxn
    rw [ek]
    have a1 : nI k ≤ 0 ↔ k ≤ 0 := nI_leI (b := 0) (by omega) (by omega)
    have a2 : nI k = 0 ↔ k = 0 := nI_eq (b := 0) (by omega) (by omega)
    rw [a1, a2]; omega
  -- what both ways share
  have hcom : StOk cs C (L.1) r F (H.1) (H.2.1) (H.2.2.1) (H.2.2.2.1) (H.2.2.2.2.1) (H.2.2.2.2.2.1) (H.2.2.2.2.2.2.2.2.2.2.2.2.2.2.2.2.2.2.2.2.2.2.1) (H.2.2.2.2.2.2.2.2.2.2.2.2.2.2.2.2.2.2.2.2.2.2.2.1) (H.2.2.2.2.2.2.2.2.2.2.2.2.2.2.2.2.2.2.2.2.2.2.2.2.1) (H.2.2.2.2.2.2.2.2.2.2.2.2.2.2.2.2.2.2.2.2.2.2.2.2.2.1) (H.2.2.2.2.2.2.2.2.2.2.2.2.2.2.2.2.2.2.2.2.2.2.2.2.2.2.1) (H.2.2.2.2.2.2.2.2.2.2.2.2.2.2.2.2.2.2.2.2.2.2.2.2.2.2.2.1) ∧ (H.2.2.2.2.2.2.2.1) = (if (C.2.2.2.2.2.2.2.2.2.1) = 0 then q_m_exceptions qs else q_m_exceptions qs + 1) ∧ (H.2.2.2.2.2.2.1) = q_m_events qs + 1 ∧ (H.2.2.2.2.2.2.2.2.1) = q_m_doubles qs + (if q_m_events qs ≤ 0 then (0) else (if (K.2.2.1) = hPrev (q_m_events qs) (q_mdu qs) then (1) else (0))) ∧ (H.2.2.2.2.2.2.2.2.2.1) = (if ((K.2.2.1) - hPrev (q_m_events qs) (q_mdu qs)) ≤ q_m_longest qs then q_m_longest qs else ((K.2.2.1) - hPrev (q_m_events qs) (q_mdu qs))) ∧ (H.2.2.2.2.2.2.2.2.2.2.1) = (L.1) ∧ (H.2.2.2.2.2.2.2.2.2.2.2.1) = hJ1 (L.2.1) ∧ (H.2.2.2.2.2.2.2.2.2.2.2.2.1) = q_m_pc qs ∧ (H.2.2.2.2.2.2.2.2.2.2.2.2.2.1) = (K.1) ∧ (H.2.2.2.2.2.2.2.2.2.2.2.2.2.2.1) = (K.2.2.2) ∧ (H.2.2.2.2.2.2.2.2.2.2.2.2.2.2.2.1) = hApart (q_m_slot qs) (q_m_foreseen qs) (q_m_expected qs) ∧ (H.2.2.2.2.2.2.2.2.2.2.2.2.2.2.2.2.1) = hRed (L.2.2.1) (L.2.1) (L.1) (q_m_slot qs) (q_m_foreseen qs) (q_m_expected qs) (L.2.2.2.2.2.2.2.2.2.2.2.2.2.2.2.2.2) ∧ (H.2.2.2.2.2.2.2.2.2.2.2.2.2.2.2.2.2.1) = hBeh (L.2.2.1) (L.2.1) (L.1) (q_m_slot qs) (q_m_foreseen qs) (q_m_expected qs) (L.2.2.2.2.2.2.2.2.2.2.2.2.2.2.2.2.2) (K.2.2.1) (q_m_events qs) (K.2.1) (q_mis qs) ∧ ((H.2.2.2.2.2.2.2.2.2.2.2.2.2.2.2.2.2.2.1), (H.2.2.2.2.2.2.2.2.2.2.2.2.2.2.2.2.2.2.2.1), (H.2.2.2.2.2.2.2.2.2.2.2.2.2.2.2.2.2.2.2.2.1), (H.2.2.2.2.2.2.2.2.2.2.2.2.2.2.2.2.2.2.2.2.2.2.2.2.2.2.2.2.2.2.2)) = hRdy (L.2.2.1) (L.2.1) (L.1) (K.2.1) (q_m_flagReady qs) (q_m_carryReady qs) (q_m_sumReady qs) (q_mrd qs) ∧ (H.2.2.2.2.2.2.2.2.2.2.2.2.2.2.2.2.2.2.2.2.2.1) = hDiv (L.2.1) (L.1) (K.2.1) (q_m_divided qs) ∧ (H.2.2.2.2.2.2.2.2.2.2.2.2.2.2.2.2.2.2.2.2.2.2.2.2.2.2.2.2.1) = hRec (q_m_events qs) (K.2.2.1) (L.2.2.1) (L.2.2.2.2.1) (L.2.2.2.2.2.1) (L.2.2.2.2.2.2.1) (L.2.2.2.2.2.2.2.2.2.2.2.1) (L.2.2.2.2.2.2.2.2.2.2.2.2.2.1) (q_m_slot qs) (K.1) (K.2.1) (q_m_pc qs) (q_mf qs) ∧ (H.2.2.2.2.2.2.2.2.2.2.2.2.2.2.2.2.2.2.2.2.2.2.2.2.2.2.2.2.2.1) = upd (q_mis qs) (q_m_events qs &&& 7).toNatClampNeg (K.2.1) ∧ (H.2.2.2.2.2.2.2.2.2.2.2.2.2.2.2.2.2.2.2.2.2.2.2.2.2.2.2.2.2.2.1) = upd (q_mdu qs) (q_m_events qs &&& 7).toNatClampNeg (K.2.2.1) := by
    by_cases hz : (C.2.2.2.2.2.2.2.2.2.1) = 0
    · rw [if_pos (hxle.mpr (by rw [← hx]; exact hz))] at hH
      subst hH
      exact ⟨st0 hz, by rw [if_pos hz], rfl, rfl, rfl, rfl, rfl, rfl, rfl, rfl, rfl, rfl, rfl, rfl, rfl, rfl, rfl, rfl⟩
    · rw [if_neg (fun q => hz (by rw [hx]; exact hxle.mp q))] at hH
      subst hH
      exact ⟨st1 hz, by rw [if_neg hz], rfl, rfl, rfl, rfl, rfl, rfl, rfl, rfl, rfl, rfl, rfl, rfl, rfl, rfl, rfl, rfl⟩
  clear hH st0 st1 hF hY hX
  obtain ⟨⟨⟨s1, s2, s3⟩, ⟨s4, s5, s6, s7, s8⟩, s9, ⟨s10, s11, s12⟩, s13, ⟨s14, s15⟩, s16, s17⟩, y7, y6, y8, y9, y10, y11, y12, y13, y14, y15, y16, y17, y18, y21, y28, y29, y30⟩ := hcom
  obtain ⟨r', hr', er'⟩ := s12
  -- the times
  have hEi : (T.2.2.1).toInt ≤ 60000 := hE
  have bT0 : bd 60000 (T.1) := ⟨by omega, by omega⟩
  have bT1 : bd 60000 (T.2.1) := ⟨by omega, by omega⟩
  have bT2 : bd 60000 (T.2.2.1) := ⟨by omega, by omega⟩
  have hix : (q_m_events qs &&& 7).toNatClampNeg = ev % 8 := by rw [he]; exact ix_0 hev
  have hixo : (c_pi_order cs &&& 7).toNatClampNeg = ev % 8 := by rw [ho]; exact ix_0 hev
  rw [hix] at y29 y30
  rw [hixo] at u5 u7
  have hev1 : (ev : Int) + 1 ≤ 2 * (T.2.2.1).toInt := by
    rcases hgr.2 with q | q
    · omega
    · omega
  have hev2 : (ev : Int) + 1 ≤ 2 * (c_pi_ended cs).toInt + 1 := by omega
  have hevn : ev + 1 ≤ 120000 := by omega
  have eev : q_m_events qs + 1 = nI (ev + 1) := by rw [he, nI_1]
  -- ready
  obtain ⟨d1, d2, d3, d4, d5, d6, d7, d8⟩ := e_ready (I := (T.2.1)) (fr := q_m_flagReady qs) (cr := q_m_carryReady qs) (sm := q_m_sumReady qs) hI hx bT1 g1 g0 g32 g33 g34 br hfe (T.2.2.2.2.2.2.2.2.2.2.2.2.2) u6 (hRdy (L.2.2.1) (L.2.1) (L.1) (K.2.1) (q_m_flagReady qs) (q_m_carryReady qs) (q_m_sumReady qs) (q_mrd qs)) (by rw [t2])
  rw [← y18] at d1 d3 d4 d5 d8
  dsimp only at d1 d3 d4 d5 d8
  -- the way on
  have hslot' : ¬ c_st_inSlot cs = 0 → 0 < ev ∧ c_pi_branchForeseenToGo cs = (if q_m_foreseen qs = 0 then 0 else (if q_m_expected qs = 0 then 0 else 1)) ∧ c_pi_branchRedirects cs = (if q_m_foreseen qs = 0 then 1 else (if q_m_expected qs = (L.2.2.2.2.2.2.2.2.2.2.2.2.2.2.2.2.2) then 0 else 1)) := by
    intro q
    obtain ⟨a, b, c⟩ := hslot q
    have hw : (C.2.2.2.2.2.2.2.2.2.1) = 0 → (L.2.2.2.2.2.2.2.2.2.2.2.2.2.2.2.2.2) = q_m_went qs := fun k => hV.2.2.2.2 (Or.inl (hLR.2.1 k q).1)
    have hw2 : (L.2.2.2.2.2.2.2.2.2.2.2.2.2.2.2.2.2) = q_m_went qs := by
      by_cases k : (C.2.2.2.2.2.2.2.2.2.1) = 0
      · exact hw k
      · exact hV.2.2.2.2 (Or.inr k)
    rw [hw2]
    exact ⟨a, b, c⟩
  have hix2 : (nI ev &&& 7).toNatClampNeg = ev % 8 := ix_0 hev
  obtain ⟨e1, e2, e3, e4, e5, e6⟩ := e_way (I := (T.2.1)) (went := (L.2.2.2.2.2.2.2.2.2.2.2.2.2.2.2.2.2)) (fsn := q_m_foreseen qs) (exp' := q_m_expected qs) hI hx hxn he hev hi bi bT2 hslot' ((T.2.2.2.2.2.2.2.2.1), (T.2.2.2.2.2.2.2.2.2.1), (T.2.2.2.2.2.2.2.2.2.2.1), (T.2.2.2.2.2.2.2.2.2.2.2.1)) (by rw [u7, hix2, ho])
  rw [t2, t3] at e3
  rw [hS.slot] at e1 e2 e3 e5
  rw [← y16, ← y15] at e1
  rw [← y16] at e2
  rw [← y16, ← y17] at e3
  rw [← y16] at e5
  dsimp only at e1 e2 e3 e4 e5 e6
  have hdiv := div_0 (I := (K.2.1)) (dv := q_m_divided qs) hI
  rw [← y21, ← t2] at hdiv
  have hT118 : ((T.2.1) + 18).toInt = (T.2.1).toInt + 18 := by rw [add_i (by omega) (by decide), t18']
  refine ⟨⟨?_, ?_, rfl⟩, s3, rfl, u2⟩
  · -- RS
    unfold fX1_add at hA
    dsimp only at hA
    have hprev : c_ev_lastCycle cs = if nI ev ≤ 0 then 0 else fX11_dueOf (nI ev) (q_mdu qs) 1 := by
      rw [hlc, ← he]
      have ee0 : q_m_events qs ≤ 0 ↔ ev ≤ 0 := ev_le he hev 0 (by omega)
      by_cases hp : 0 < ev
      · rw [if_neg (fun q => by have := ee0.mp q; omega), mdu_1 he hev hp]; exact (h1 hp).2.2.2.2.1
      · rw [if_pos (ee0.mpr (by omega))]; exact (h0 (by omega)).2.2.1
    have hcc := e_cnt hev (dbl := c_ev_doubleCycles cs) (lng := c_ev_longestWay cs) (E := (T.2.2.1)) hprev
    rw [← hevc] at hcc
    rw [hcc] at hA
    have hrec := e_rec (E := (T.2.2.1)) (F := (T.1)) (I := (T.2.1)) hS.rec hev hS.slot hI hV
    rw [← hevc] at hrec
    have ha0 : (A.1) = c_ev_count cs + 1 := by rw [hA]
    have ha1 : (A.2.1) = if fX2_retires (C.2.2.2.2.2.2.2.2.2.1) = 0 then c_ev_exceptions cs + 1 else c_ev_exceptions cs := by rw [hA]
    have ha2 : (A.2.2.1) = c_ev_doubleCycles cs + (if c_ev_count cs ≤ 0 then (0) else (if (T.2.2.1) = (if c_ev_count cs ≤ 0 then (0) else fX11_dueOf (c_ev_count cs) (q_mdu qs) 1) then (1) else (0))) := by rw [hA]
    have ha3 : (A.2.2.2.1) = (if ((T.2.2.1) - (if c_ev_count cs ≤ 0 then (0) else fX11_dueOf (c_ev_count cs) (q_mdu qs) 1)) ≤ c_ev_longestWay cs then c_ev_longestWay cs else ((T.2.2.1) - (if c_ev_count cs ≤ 0 then (0) else fX11_dueOf (c_ev_count cs) (q_mdu qs) 1))) := by rw [hA]
    have ha5 : ∀ j, j < 2816 → (A.2.2.2.2.2) j = (H.2.2.2.2.2.2.2.2.2.2.2.2.2.2.2.2.2.2.2.2.2.2.2.2.2.2.2.2.1) j := by
      intro j hj
      rw [y28, hA]
      unfold hRec
      rw [← t1, ← t2, ← t3, ← hS.pc, ← hS.evc]
      exact hrec j hj
    refine ⟨hS.cyc, hS.cycn, hS.sets, hS.setsv, s1, s2, s14, s15, s9.1, s9.2.1, s9.2.2.1, s9.2.2.2.1, s9.2.2.2.2.1, s9.2.2.2.2.2.1, s9.2.2.2.2.2.2.1, s9.2.2.2.2.2.2.2.1, s9.2.2.2.2.2.2.2.2.1, s11, ⟨r', by omega, s11.trans er'⟩, s10, s9.2.2.2.2.2.2.2.2.2.1, s9.2.2.2.2.2.2.2.2.2.2.1, s9.2.2.2.2.2.2.2.2.2.2.2, s16, s4, s5, s6, s7, s8, hS.lsz, hS.lco, hS.lva, ?_, ha5, ?_, ⟨ev + 1, hevn, ?_⟩, ?_, ?_, ?_, Or.inl rfl⟩
    · show LinesOk (c_li_size cs) (F.2.2.2.2.2.2.2.2.2.2.2.2.2.2.2.2.2.1) (c_co cs) (F.2.2.2.2.2.2.2.2.2.2.2.2.2.2.2.1)
      rw [s11]; exact s13
    · show (A.1) = (H.2.2.2.2.2.2.1)
      rw [ha0, y6, hS.evc]
    · show (A.1) = nI (ev + 1)
      rw [ha0, hevc, nI_1]
    · show (A.2.1) = (H.2.2.2.2.2.2.2.1)
      rw [ha1, y7, hS.exc]
      unfold fX2_retires
      by_cases k : (C.2.2.2.2.2.2.2.2.2.1) = 0
      · rw [if_pos k, if_pos k, if_neg (by decide)]
      · rw [if_neg k, if_neg k, if_pos rfl]
    · show (A.2.2.1) = (H.2.2.2.2.2.2.2.2.1)
      rw [ha2, y8, hS.dbl, hS.evc, t3]
      rfl
    · show (A.2.2.2.1) = (H.2.2.2.2.2.2.2.2.2.1)
      rw [ha3, y9, hS.lng, hS.evc, t3]
      rfl
  · -- RP
    refine ⟨ev + 1, ⟨?_, ?_, hevn⟩, ⟨bT0, bT1, bT2, ?_, e4, fun j hj => ?_, d6, ?_⟩, fun q => absurd q (by omega), fun _ => ⟨?_, ?_, fun _ => ?_, ?_, ?_, ?_⟩, fun q => ?_, fun q => ?_, fun j hj => ?_, fun _ => e1, e2, e3, ⟨d1, d2, d3, d4, d5⟩, ?_, fun _ hrd => ?_, fun q => ?_, ?_, ⟨?_, Or.inr ?_⟩, ?_, ⟨?_, ?_, ?_, fun _ => ?_⟩, ⟨r', s11.trans er', by omega⟩⟩
    · show (T.2.2.2.1) = nI (ev + 1)
      rw [u1, ho, nI_1]
    · show (H.2.2.2.2.2.2.1) = nI (ev + 1)
      rw [y6, eev]
    · show bd 60000 (T.2.2.2.2.1)
      rw [u2]; exact bE
    · show bd 60000 ((T.2.2.2.2.2.2.2.2.2.2.2.2.1) j)
      rw [u5, upd_at]
      split
      · exact bT1
      · exact bi j hj
    · show -100 ≤ (H.2.2.2.2.2.2.2.2.2.2.2.2.2.2.2.2.2.2.2.2.2.1).toInt ∧ (H.2.2.2.2.2.2.2.2.2.2.2.2.2.2.2.2.2.2.2.2.2.1).toInt ≤ 60000
      rw [hdiv]
      split
      · exact bdv
      · omega
    · show (T.1) = (H.2.2.2.2.2.2.2.2.2.2.2.2.2.1)
      rw [y13, t1]
    · show (T.2.2.2.2.2.2.2.1) = (H.2.2.2.2.2.2.2.2.2.2.2.2.2.2.1)
      rw [y14, t4]
    · show (T.2.2.2.2.2.2.1) = (H.2.2.2.2.2.2.2.2.2.2.2.2.1)
      rw [u4, y12, hS.pc]
    · show (T.2.1) = (H.2.2.2.2.2.2.2.2.2.2.2.2.2.2.2.2.2.2.2.2.2.2.2.2.2.2.2.2.2.1) ((ev + 1 - 1) % 8)
      rw [y29, upd_at, if_pos (by omega), t2]
    · show (T.2.2.1) = (H.2.2.2.2.2.2.2.2.2.2.2.2.2.2.2.2.2.2.2.2.2.2.2.2.2.2.2.2.2.2.1) ((ev + 1 - 1) % 8)
      rw [y30, upd_at, if_pos (by omega), t3]
    · show (T.2.2.2.2.2.1) = if (H.2.2.2.2.2.2.2.2.2.2.2.1) = 0 then 0 else (fX3_decode (H.2.2.2.2.2.2.2.2.2.2.1)).1
      rw [u3, y11, y10]
      unfold hJ1
      rcases hI with ⟨k1, n, e, en, ee, eT, _⟩ | ⟨k1, _, k3⟩
      · rw [if_pos k1, if_neg (by decide), eT]
        obtain ⟨n', d', en', ed', edec⟩ := dec_all (L.1)
        have hn' : n = n' := by
          have := en.symm.trans en'
          rw [nI_eq (by omega) (by omega)] at this
          exact Fin.ext this
        have hd' : e = d' := by
          have := ee.symm.trans ed'
          rw [nI_eq (by omega) (by omega)] at this
          exact Fin.ext this
        rw [edec, hn', hd']
      · rw [if_neg k1, if_pos rfl, k3]
    · show (T.2.2.2.2.1) = (H.2.2.2.2.2.2.2.2.2.2.2.2.2.2.2.2.2.2.2.2.2.2.2.2.2.2.2.2.2.2.1) ((ev + 1 - 2) % 8)
      have hp : 0 < ev := by omega
      rw [u2, y30, upd_at, if_neg (by omega), (h1 hp).2.2.2.2.1, show (ev + 1 - 2) % 8 = (ev - 1) % 8 by omega]
    · show (T.2.2.2.2.1) = 0
      rw [u2]
      exact (h0 (by omega)).2.2.1
    · show (T.2.2.2.2.2.2.2.2.2.2.2.2.1) j = if j < ev + 1 then (H.2.2.2.2.2.2.2.2.2.2.2.2.2.2.2.2.2.2.2.2.2.2.2.2.2.2.2.2.2.1) j else 0
      rw [u5, y29, upd_at, upd_at, hi j hj]
      by_cases q : j = ev % 8
      · rw [if_pos q, if_pos (show j < ev + 1 by omega), if_pos q, t2]
      · rw [if_neg q]
        by_cases q2 : j < ev
        · rw [if_pos q2, if_pos (show j < ev + 1 by omega), if_neg q]
        · rw [if_neg q2, if_neg (show ¬ j < ev + 1 by omega)]
    · show ((T.2.2.2.2.2.2.2.2.2.2.2.2.2) 35).toInt = (H.2.2.2.2.2.2.2.2.2.2.2.2.2.2.2.2.2.2.2.2.2.1).toInt + 18 ∨ (((T.2.2.2.2.2.2.2.2.2.2.2.2.2) 35).toInt ≤ (T.1).toInt + 2 ∧ (H.2.2.2.2.2.2.2.2.2.2.2.2.2.2.2.2.2.2.2.2.2.1).toInt + 18 ≤ (T.1).toInt + 2) ∨ (¬ (H.2.2.2.2.2.2.2.2.2.2.2.2.2.2.2.2.1) = 0 ∧ ((T.2.2.2.2.2.2.2.2.2.2.2.2.2) 35).toInt ≤ (T.2.2.2.2.2.2.2.2.2.1).toInt + 2 ∧ (H.2.2.2.2.2.2.2.2.2.2.2.2.2.2.2.2.2.2.2.2.2.1).toInt + 18 ≤ (T.2.2.2.2.2.2.2.2.2.1).toInt + 2)
      rw [d7, hdiv]
      have hold : (c_rdy cs 35).toInt = (q_m_divided qs).toInt + 18 ∨ ((c_rdy cs 35).toInt ≤ (T.1).toInt + 2 ∧ (q_m_divided qs).toInt + 18 ≤ (T.1).toInt + 2) := by
        rcases hdv with q | ⟨q1, q2⟩ | ⟨q0, q1, q2⟩
        · exact Or.inl q
        · exact Or.inr ⟨by omega, by omega⟩
        · have := o3 q0
          exact Or.inr ⟨by omega, by omega⟩
      by_cases hd : fX3_is (C.2.1) 4096 = 0
      · rw [if_pos hd, if_neg (fun q => q.2 hd)]
        rcases hold with q | q
        · exact Or.inl q
        · exact Or.inr (Or.inl q)
      · rw [if_neg hd]
        by_cases hx0 : (C.2.2.2.2.2.2.2.2.2.1) = 0
        · rw [if_pos ⟨hx0, hd⟩]
          exact Or.inl hT118
        · rw [if_neg (fun q => hx0 q.1)]
          obtain ⟨a1, a2⟩ := e5 hx0
          obtain ⟨b1, b2⟩ := o11 hd
          exact Or.inr (Or.inr ⟨a1, by omega, by omega⟩)
    · show (¬ (H.2.2.2.2.2.2.2.2.2.2.2.2.2.2.2.2.1) = 0 ∧ (T.2.1).toInt ≤ (T.2.2.2.2.2.2.2.2.2.1).toInt) ∨ ((¬ fX11_writes (H.2.2.2.2.2.2.2.2.2.2.1) = 0 → (T.2.1).toInt + 1 ≤ ((H.2.2.2.2.2.2.2.2.2.2.2.2.2.2.2.2.2.2.2.2.2.2.2.2.2.2.2.2.2.2.2) (fX11_writes (H.2.2.2.2.2.2.2.2.2.2.1)).toNatClampNeg).toInt) ∧ (¬ fX11_writesFlag (H.2.2.2.2.2.2.2.2.2.2.1) = 0 → (T.2.1).toInt + 1 ≤ (H.2.2.2.2.2.2.2.2.2.2.2.2.2.2.2.2.2.2.1).toInt) ∧ (¬ fX11_writesCarry (H.2.2.2.2.2.2.2.2.2.2.1) = 0 → (T.2.1).toInt + 1 ≤ (H.2.2.2.2.2.2.2.2.2.2.2.2.2.2.2.2.2.2.2.1).toInt) ∧ (¬ fX11_isSum (H.2.2.2.2.2.2.2.2.2.2.1) = 0 → (T.2.1).toInt + 1 ≤ (H.2.2.2.2.2.2.2.2.2.2.2.2.2.2.2.2.2.2.2.2.1).toInt))
      by_cases hx0 : (C.2.2.2.2.2.2.2.2.2.1) = 0
      · rw [y10]; exact Or.inr (d8 hx0)
      · obtain ⟨a1, a2⟩ := e5 hx0
        exact Or.inl ⟨a1, by omega⟩
    · have q' : ¬ (F.2.2.2.1) = 0 := q
      obtain ⟨k1, k2, k3, k4⟩ := s17 q'
      obtain ⟨w3, w4⟩ := e6 k2
      show 0 < ev + 1 ∧ (T.2.2.2.2.2.2.2.2.2.2.1) = (if (H.2.2.2.2.2.2.2.2.2.2.2.2.2.2.2.2.2.2.2.2.2.2.1) = 0 then 0 else (if (H.2.2.2.2.2.2.2.2.2.2.2.2.2.2.2.2.2.2.2.2.2.2.2.1) = 0 then 0 else 1)) ∧ (T.2.2.2.2.2.2.2.2.2.2.2.1) = (if (H.2.2.2.2.2.2.2.2.2.2.2.2.2.2.2.2.2.2.2.2.2.2.1) = 0 then 1 else (if (H.2.2.2.2.2.2.2.2.2.2.2.2.2.2.2.2.2.2.2.2.2.2.2.1) = (L.2.2.2.2.2.2.2.2.2.2.2.2.2.2.2.2.2) then 0 else 1))
      refine ⟨by omega, ?_⟩
      rw [k3, k4, w3, w4]
      have hV4 := hV.2.2.2.1 k1
      obtain ⟨_, _, _, _, _, _, _, v8, _⟩ := hV4
      obtain ⟨_, v10, v11, v12⟩ := v8 k2
      rcases hLR.1 with ⟨f1, f2⟩ | ⟨_, _, _, f4⟩
      · obtain ⟨n, d, en, ed, edec⟩ := dec_all (L.1)
        rw [edec] at f2
        have c1 : (C.2.1) = TT n.val d.val := congrArg (fun z => z.1) f2
        have c2 : (C.2.2.1) = nI n.val := congrArg (fun z => z.2.1) f2
        have c8 : (C.2.2.2.2.2.2.2.2.1) = ((L.1) <<< ((6 : Int32) &&& 31)) >>> ((6 : Int32) &&& 31) := congrArg (fun z => z.2.2.2.2.2.2.2) f2
        have hnb : 20 ≤ n.val ∧ n.val ≤ 25 := by
          have hx : ∀ (n : Fin 64) (e : Fin 32), ¬ fX3_is (TT n.val e.val) 8192 = 0 → (20 ≤ n.val ∧ n.val ≤ 25) := by decide +kernel
          exact hx n d (by rw [← c1]; exact k2)
        rw [c2, c8, foreseen_eq hnb, en]
        refine ⟨rfl, ?_⟩
        rw [c2] at v12
        rw [v10]
        have e3' : (24 : Int32) ≤ nI n.val ↔ 24 ≤ n.val := n_ge 24 (by omega)
        have e4' : nI n.val < 22 ↔ n.val < 22 := n_lt 22 (by omega)
        have k10 : ¬ (1 : Int32) = 0 := by decide
        by_cases h24 : 24 ≤ n.val
        · have hw1 : (L.2.2.2.2.2.2.2.2.2.2.2.2.2.2.2.2.2) = 1 := v12 (fun q => by have := (n_eq 22 (by omega)).mp q; omega) (fun q => by have := (n_eq 23 (by omega)).mp q; omega)
          rw [if_pos (show (24 : Int32) ≤ nI n.val from e3'.mpr h24), if_pos rfl, if_pos rfl, hw1, if_neg (by decide)]
        · rw [if_neg (show ¬ (24 : Int32) ≤ nI n.val from fun q => h24 (e3'.mp q)), if_neg k10, if_neg k10, if_neg (show ¬ (24 : Int32) ≤ nI n.val from fun q => h24 (e3'.mp q))]
          have hb01 : isB (if nI n.val < 22 then (1 : Int32) else (if (0 : Int32) ≤ ((L.1) <<< ((6 : Int32) &&& 31)) then (0) else (1))) := by
            split
            · exact Or.inr rfl
            · exact isB_ite _
          generalize (if nI n.val < 22 then (1 : Int32) else (if (0 : Int32) ≤ ((L.1) <<< ((6 : Int32) &&& 31)) then (0) else (1))) = G at hb01 ⊢
          have hG : (if G = 0 then (0 : Int32) else 1) = G := by rcases hb01 with rfl | rfl <;> rfl
          rw [hG]
      · exact absurd k1 f4
    · show isB (H.2.2.2.2.2.2.2.2.2.2.2.2.2.2.1)
      rw [y14]; exact hst
    · show ((ev + 1 : Nat) : Int) ≤ 2 * (T.2.2.1).toInt
      omega
    · show ((ev + 1 : Nat) : Int) ≤ 2 * (T.2.2.2.2.1).toInt + 1
      rw [u2]; omega
    · show (A.2.2.2.2.1) = (T.2.2.1)
      unfold fX1_add at hA
      dsimp only at hA
      rw [hA]
      rfl
    · show (T.1).toInt ≤ (T.2.1).toInt
      omega
    · show (T.2.1).toInt ≤ (T.2.2.1).toInt
      omega
    · show (T.2.2.2.2.1).toInt ≤ (T.2.2.1).toInt
      rw [u2]; omega
    · show 1 ≤ (T.2.1).toInt
      omega

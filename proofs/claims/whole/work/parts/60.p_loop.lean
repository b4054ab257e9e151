/-! ===== pure: many events ===== -/
theorem look_due {cs : CSt} {qs : MSt} (hB : Base cs qs) : (T_ cs).2.2.1 = q_m_due (mLook qs) ∧ (c_pi_ended cs).toInt ≤ (T_ cs).2.2.1.toInt ∧ (c_pi_endedBefore cs).toInt + 1 ≤ (T_ cs).2.2.1.toInt ∧ 5 ≤ (T_ cs).2.2.1.toInt ∧ (T_ cs).2.2.1.toInt ≤ 60200 := by
  obtain ⟨hS, hP, hn⟩ := hB
  obtain ⟨hLR, hLin⟩ := look_LR hS
  obtain ⟨⟨t1, t2, t3, t4⟩, hTO, _⟩ := e_take hP hS.pc (L_ qs) (ins_ok hLR) hLR.2.2.1 hLR.2.2.2.1 (T_ cs) rfl
  obtain ⟨⟨o1, o2, o3⟩, ⟨o4, o5, o6⟩, ⟨o7, o8, o9, o10⟩, o11⟩ := hTO
  refine ⟨t3, o8, o9, ?_, o10⟩
  have := o1.1
  omega
theorem base_look {cs : CSt} {qs : MSt} (hB : Base cs qs) : Base cs (mLook qs) := by
  obtain ⟨hS, hP, hn⟩ := hB
  obtain ⟨hLR, hLin⟩ := look_LR hS
  unfold mLook
  generalize K_ qs = K
  generalize L_ qs = L at hLR ⊢
  refine ⟨hS, ?_, hn⟩
  obtain ⟨ev, a1, a2, a3, a4, a5, a6, a7, a8, a9, a10, a11, a12, a13, a14, a15, a16, a17, a18, a19⟩ := hP
  refine ⟨ev, a1, a2, a3, a4, a5, a6, a7, a8, a9, a10, a11, a12, a13, fun q => ?_, a15, a16, a17, a18, a19⟩
  have hV := hLR.2.2
  have hw2 : L.2.2.2.2.2.2.2.2.2.2.2.2.2.2.2.2.2 = q_m_went qs := by
    by_cases k : (C_ cs).2.2.2.2.2.2.2.2.2.1 = 0
    · exact hV.2.2.2.2 (Or.inl (hLR.2.1 k q).1)
    · exact hV.2.2.2.2 (Or.inr k)
  obtain ⟨b1, b2, b3⟩ := a14 q
  refine ⟨b1, b2, ?_⟩
  show c_pi_branchRedirects cs = (if q_m_foreseen qs = 0 then 1 else (if q_m_expected qs = L.2.2.2.2.2.2.2.2.2.2.2.2.2.2.2.2.2 then 0 else 1))
  rw [hw2]
  exact b3
theorem base_lin {cs : CSt} {qs : MSt} (hB : Base cs qs) : LinesOk (c_li_size cs) (C_ cs).1 (c_co cs) (c_sp_retired cs) := (look_LR hB.1).2
/-- what one run of the loops leaves -/
def Ran (ev0 : Int32) (e : Nat) (cs : CSt) (qs : MSt) (Rc : Int32 × Int32 × Int32 × (Nat → Int32) × (Nat → Bool) × Int32 × Int32 × Int32 × Int32 × Int32 × Int32 × Int32 × Int32 × Int32 × Int64 × Int32 × Int32 × Int32 × Int32 × Int32 × Int32 × Int32 × Int32 × Int32 × Int32 × Int32 × Int32 × Int32 × Int32 × Int32 × Int32 × Int32 × Int32 × Int32 × Int32 × Int32 × Int32 × Int64 × Int32 × Int32 × Int32 × Int32 × Int32 × Int32 × Int32 × Int32 × Int32 × Int32 × Int32 × Int32 × Int32 × Int32 × Int32 × Int32 × Int32 × Int32 × Int32 × (Nat → Int32) × (Nat → Int32) × (Nat → Int32) × (Nat → Int32) × (Nat → Int32)) (Rm : Int32 × Int32 × Int64 × Int32 × Int32 × Int32 × Int32 × Int32 × Int32 × Int32 × Int32 × Int32 × Int32 × Int32 × Int32 × Int32 × Int32 × Int32 × Int32 × Int32 × Int32 × Int32 × Int32 × Int32 × Int32 × Int32 × Int32 × Int64 × Int32 × Int32 × Int32 × Int32 × Int32 × Int32 × Int32 × Int32 × Int32 × Int32 × Int32 × Int32 × Int32 × Int32 × Int32 × Int32 × Int32 × Int32 × Int32 × Int32 × Int32 × (Nat → Int32) × (Nat → Int32) × (Nat → Int32) × (Nat → Int32) × (Nat → Int32) × (Nat → Int32) × (Nat → Int32) × (Nat → Int32)) : Prop :=
  ∃ (cs0 : CSt) (qs' : MSt), Base cs0 qs' ∧ (e : Int) < (T_ cs0).2.2.1.toInt ∧ Rc = cout (c_ev_count cs0 - ev0) (nI e) (cLook cs0) ∧ Rm = mout (q_m_events qs' - ev0) (nI e) qs' ∧ PgLe (c_pg cs) (c_pg cs0) ∧ (c_mp_sets cs0 = c_mp_sets cs ∧ c_li_size cs0 = c_li_size cs ∧ c_co cs0 = c_co cs ∧ c_va cs0 = c_va cs) ∧ (q_m_sets qs' = q_m_sets qs ∧ q_m_lines qs' = q_m_lines qs ∧ q_mlc qs' = q_mlc qs ∧ q_mlv qs' = q_mlv qs)
theorem kG1_sets (A : Int32 × Int32 × Int32 × Int32 × Int32 × (Nat → Int32)) (F : (Nat → Int32) × (Nat → Bool) × Int32 × Int32 × Int32 × Int32 × Int32 × Int32 × Int32 × Int32 × Int32 × Int64 × Int32 × Int32 × Int32 × Int32 × Int32 × Int32 × (Nat → Int32) × (Nat → Int32)) (cs : CSt) : c_mp_sets (cDoneG A F cs) = c_mp_sets cs := rfl
theorem kG2_sets (C : CCome) (T : Int32 × Int32 × Int32 × Int32 × Int32 × Int32 × Int32 × Int32 × Int32 × Int32 × Int32 × Int32 × (Nat → Int32) × (Nat → Int32)) (cs : CSt) : c_mp_sets (cLookG C T cs) = c_mp_sets cs := rfl
theorem kd_sets (cs : CSt) : c_mp_sets (cDone (cLook cs)) = c_mp_sets cs := by
  unfold cDone cLook
  rw [kG1_sets, kG2_sets]
theorem kG1_size (A : Int32 × Int32 × Int32 × Int32 × Int32 × (Nat → Int32)) (F : (Nat → Int32) × (Nat → Bool) × Int32 × Int32 × Int32 × Int32 × Int32 × Int32 × Int32 × Int32 × Int32 × Int64 × Int32 × Int32 × Int32 × Int32 × Int32 × Int32 × (Nat → Int32) × (Nat → Int32)) (cs : CSt) : c_li_size (cDoneG A F cs) = c_li_size cs := rfl
theorem kG2_size (C : CCome) (T : Int32 × Int32 × Int32 × Int32 × Int32 × Int32 × Int32 × Int32 × Int32 × Int32 × Int32 × Int32 × (Nat → Int32) × (Nat → Int32)) (cs : CSt) : c_li_size (cLookG C T cs) = c_li_size cs := rfl
theorem kd_size (cs : CSt) : c_li_size (cDone (cLook cs)) = c_li_size cs := by
  unfold cDone cLook
  rw [kG1_size, kG2_size]
theorem kG1_co (A : Int32 × Int32 × Int32 × Int32 × Int32 × (Nat → Int32)) (F : (Nat → Int32) × (Nat → Bool) × Int32 × Int32 × Int32 × Int32 × Int32 × Int32 × Int32 × Int32 × Int32 × Int64 × Int32 × Int32 × Int32 × Int32 × Int32 × Int32 × (Nat → Int32) × (Nat → Int32)) (cs : CSt) : c_co (cDoneG A F cs) = c_co cs := rfl
theorem kG2_co (C : CCome) (T : Int32 × Int32 × Int32 × Int32 × Int32 × Int32 × Int32 × Int32 × Int32 × Int32 × Int32 × Int32 × (Nat → Int32) × (Nat → Int32)) (cs : CSt) : c_co (cLookG C T cs) = c_co cs := rfl
theorem kd_co (cs : CSt) : c_co (cDone (cLook cs)) = c_co cs := by
  unfold cDone cLook
  rw [kG1_co, kG2_co]
theorem kG1_va (A : Int32 × Int32 × Int32 × Int32 × Int32 × (Nat → Int32)) (F : (Nat → Int32) × (Nat → Bool) × Int32 × Int32 × Int32 × Int32 × Int32 × Int32 × Int32 × Int32 × Int32 × Int64 × Int32 × Int32 × Int32 × Int32 × Int32 × Int32 × (Nat → Int32) × (Nat → Int32)) (cs : CSt) : c_va (cDoneG A F cs) = c_va cs := rfl
theorem kG2_va (C : CCome) (T : Int32 × Int32 × Int32 × Int32 × Int32 × Int32 × Int32 × Int32 × Int32 × Int32 × Int32 × Int32 × (Nat → Int32) × (Nat → Int32)) (cs : CSt) : c_va (cLookG C T cs) = c_va cs := rfl
theorem kd_va (cs : CSt) : c_va (cDone (cLook cs)) = c_va cs := by
  unfold cDone cLook
  rw [kG1_va, kG2_va]
theorem kH1_sets (H : Int64 × Int32 × Int32 × Int32 × Int32 × Int32 × Int32 × Int32 × Int32 × Int32 × Int32 × Int32 × Int32 × Int32 × Int32 × Int32 × Int32 × Int32 × Int32 × Int32 × Int32 × Int32 × Int32 × Int32 × (Nat → Int32) × (Nat → Int32) × (Nat → Int32) × (Nat → Int32) × (Nat → Int32) × (Nat → Int32) × (Nat → Int32) × (Nat → Int32)) (qs : MSt) : q_m_sets (mDoneG H qs) = q_m_sets qs := rfl
theorem kH2_sets (L : MLook) (K : Int32 × Int32 × Int32 × Int32) (qs : MSt) : q_m_sets (mLookG L K qs) = q_m_sets qs := rfl
theorem kq_sets (qs : MSt) : q_m_sets (mDone (mLook qs)) = q_m_sets qs := by
  unfold mDone mLook
  rw [kH1_sets, kH2_sets]
theorem kH1_lines (H : Int64 × Int32 × Int32 × Int32 × Int32 × Int32 × Int32 × Int32 × Int32 × Int32 × Int32 × Int32 × Int32 × Int32 × Int32 × Int32 × Int32 × Int32 × Int32 × Int32 × Int32 × Int32 × Int32 × Int32 × (Nat → Int32) × (Nat → Int32) × (Nat → Int32) × (Nat → Int32) × (Nat → Int32) × (Nat → Int32) × (Nat → Int32) × (Nat → Int32)) (qs : MSt) : q_m_lines (mDoneG H qs) = q_m_lines qs := rfl
theorem kH2_lines (L : MLook) (K : Int32 × Int32 × Int32 × Int32) (qs : MSt) : q_m_lines (mLookG L K qs) = q_m_lines qs := rfl
theorem kq_lines (qs : MSt) : q_m_lines (mDone (mLook qs)) = q_m_lines qs := by
  unfold mDone mLook
  rw [kH1_lines, kH2_lines]
theorem kH1_mlc (H : Int64 × Int32 × Int32 × Int32 × Int32 × Int32 × Int32 × Int32 × Int32 × Int32 × Int32 × Int32 × Int32 × Int32 × Int32 × Int32 × Int32 × Int32 × Int32 × Int32 × Int32 × Int32 × Int32 × Int32 × (Nat → Int32) × (Nat → Int32) × (Nat → Int32) × (Nat → Int32) × (Nat → Int32) × (Nat → Int32) × (Nat → Int32) × (Nat → Int32)) (qs : MSt) : q_mlc (mDoneG H qs) = q_mlc qs := rfl
theorem kH2_mlc (L : MLook) (K : Int32 × Int32 × Int32 × Int32) (qs : MSt) : q_mlc (mLookG L K qs) = q_mlc qs := rfl
theorem kq_mlc (qs : MSt) : q_mlc (mDone (mLook qs)) = q_mlc qs := by
  unfold mDone mLook
  rw [kH1_mlc, kH2_mlc]
theorem kH1_mlv (H : Int64 × Int32 × Int32 × Int32 × Int32 × Int32 × Int32 × Int32 × Int32 × Int32 × Int32 × Int32 × Int32 × Int32 × Int32 × Int32 × Int32 × Int32 × Int32 × Int32 × Int32 × Int32 × Int32 × Int32 × (Nat → Int32) × (Nat → Int32) × (Nat → Int32) × (Nat → Int32) × (Nat → Int32) × (Nat → Int32) × (Nat → Int32) × (Nat → Int32)) (qs : MSt) : q_mlv (mDoneG H qs) = q_mlv qs := rfl
theorem kH2_mlv (L : MLook) (K : Int32 × Int32 × Int32 × Int32) (qs : MSt) : q_mlv (mLookG L K qs) = q_mlv qs := rfl
theorem kq_mlv (qs : MSt) : q_mlv (mDone (mLook qs)) = q_mlv qs := by
  unfold mDone mLook
  rw [kH1_mlv, kH2_mlv]
set_option maxHeartbeats 1000000 in
theorem e_loop {p old : Nat} (hp : p ≤ 2000) (hold : old + p ≤ 60000) (ev0 : Int32) : ∀ (n i m : Nat) (cs : CSt) (qs : MSt), Base cs qs → i ≤ 2 * p → 2 * p + 2 ≤ i + n → 2 * p + 3 ≤ i + m → (i = 0 → (old : Int) < (T_ cs).2.2.1.toInt) → (1 ≤ i → (i : Int) ≤ 2 * ((c_pi_ended cs).toInt - old)) → (2 ≤ i → (i : Int) ≤ 2 * ((c_pi_endedBefore cs).toInt - old) + 1) →
    Ran ev0 (old + p) cs qs (gX10_runCycles_45 (nI old) (c_mp_sets cs) (c_li_size cs) ev0 (c_co cs) (c_va cs) (nI p) n (ctup (nI i) cs)) (gX11_runCycles_48 (q_m_sets qs) (q_m_lines qs) (nI old) ev0 (q_mlc qs) (q_mlv qs) (nI p) m (mtup 1 qs))
  | 0, i, m, cs, qs, hB, h1, h2, h3, j0, j1, j2 => absurd h2 (by omega)
  | n + 1, i, 0, cs, qs, hB, h1, h2, h3, j0, j1, j2 => absurd h3 (by omega)
  | n + 1, i, m + 1, cs, qs, hB, h1, h2, h3, j0, j1, j2 => by
    obtain ⟨l1, l2, l3, l4, l5⟩ := look_due hB
    have e2 : ¬ (2 * nI p) < nI i := by
      rw [show (2 : Int32) * nI p = nI (2 * p) from pk_mul 2 p]
      exact nI_nlt (by omega) (by omega)
    have eop : nI old + nI p = nI (old + p) := nI_add old p
    have iop : (nI (old + p)).toInt = (old + p : Nat) := nI_toInt (by omega)
    rw [c_loop1, if_neg e2, m_loop1, eop]
    dsimp only
    rw [if_pos hB.2.2]
    have hce : c_pi_ended (cLook cs) = (T_ cs).2.2.1 := rfl
    rw [hce, ← l1]
    by_cases hb : (T_ cs).2.2.1 ≤ nI (old + p)
    · have hb' := hb
      rw [ile, iop] at hb'
      have hE : (T_ cs).2.2.1.toInt ≤ 60000 := by omega
      obtain ⟨s1, s2, s3, s4⟩ := e_step hB (C_ cs).1 (base_lin hB) hE
      rw [← cLook_P] at s1 s2 s3 s4
      rw [if_pos hb, if_neg (show ¬ nI (old + p) < (T_ cs).2.2.1 from fun q => by rw [ilt, iop] at q; omega), nI_1]
      have hi1 : ((i + 1 : Nat) : Int) ≤ 2 * ((T_ cs).2.2.1.toInt - old) := by
        by_cases q0 : i = 0
        · have := j0 q0; omega
        · by_cases q1 : i = 1
          · have := j1 (by omega); omega
          · have := j2 (by omega); omega
      have ih := e_loop hp hold ev0 n (i + 1) m (cDone (cLook cs)) (mDone (mLook qs)) s1 (by omega) (by omega) (by omega) (fun q => absurd q (by omega)) (fun _ => by rw [s3]; exact hi1) (fun _ => by rw [s4]; have := j1 (by omega); omega)
      rw [kd_sets, kd_size, kd_co, kd_va, kq_sets, kq_lines, kq_mlc, kq_mlv] at ih
      obtain ⟨cs0, qs', r1, r2, r3, r4, r5, ⟨r6, r7, r8, r9⟩, ⟨r10, r11, r12, r13⟩⟩ := ih
      exact ⟨cs0, qs', r1, r2, r3, r4, fun k hk => r5 k (s2 k hk), ⟨r6.trans (kd_sets cs), r7.trans (kd_size cs), r8.trans (kd_co cs), r9.trans (kd_va cs)⟩, ⟨r10.trans (kq_sets qs), r11.trans (kq_lines qs), r12.trans (kq_mlc qs), r13.trans (kq_mlv qs)⟩⟩
    · have hb' := hb
      rw [ile, iop] at hb'
      rw [if_neg hb, if_pos (show nI (old + p) < (T_ cs).2.2.1 by rw [ilt, iop]; omega)]
      obtain ⟨m', rfl⟩ : ∃ m', m = m' + 1 := ⟨m - 1, by omega⟩
      have hm0 := m_loop0 (nI old) ev0 (nI p) m' (mLook qs)
      rw [eop] at hm0
      have q1 : q_m_sets (mLook qs) = q_m_sets qs := by unfold mLook; rw [kH2_sets]
      have q2 : q_m_lines (mLook qs) = q_m_lines qs := by unfold mLook; rw [kH2_lines]
      have q3 : q_mlc (mLook qs) = q_mlc qs := by unfold mLook; rw [kH2_mlc]
      have q4 : q_mlv (mLook qs) = q_mlv qs := by unfold mLook; rw [kH2_mlv]
      rw [q1, q2, q3, q4] at hm0
      exact ⟨cs, mLook qs, base_look hB, by omega, rfl, hm0, fun k hk => hk, ⟨rfl, rfl, rfl, rfl⟩, ⟨q1, q2, q3, q4⟩⟩
theorem loop_known {tw ev p0 i : Int32} {n : Nat} {cs : CSt} (p : Int32) (hk : c_tw_nextIsKnown cs = 0) (hp : True) : gX10_runCycles_45 tw (c_mp_sets cs) (c_li_size cs) ev (c_co cs) (c_va cs) p0 (n + 1) (ctup i (cLookP p cs)) = if (2 * p0) < i then cout (c_ev_count cs - ev) (tw + p0) (cLookP p cs) else (if (T_ cs).2.2.1 ≤ (tw + p0) then gX10_runCycles_45 tw (c_mp_sets cs) (c_li_size cs) ev (c_co cs) (c_va cs) p0 n (ctup (i + 1) (cDone (cLookP p cs))) else cout (c_ev_count cs - ev) (tw + p0) (cLookP p cs)) := by
  have h := c_loop1 tw ev p0 i n (cLookP p cs)
  have hk1 : ¬ c_tw_nextIsKnown (cLookP p cs) = 0 := by show ¬ (1 : Int32) = 0; decide
  rw [if_neg hk1] at h
  exact h

/-! ===== pure: the pipeline's times against the reference's last.. ===== -/
def RP (cs : CSt) (qs : MSt) : Prop := ∃ ev : Nat,
  (c_pi_order cs = nI ev ∧ q_m_events qs = nI ev ∧ ev ≤ 120000) ∧
  (bd 60000 (c_pi_fetched cs) ∧ bd 60000 (c_pi_issued cs) ∧ bd 60000 (c_pi_ended cs) ∧ bd 60000 (c_pi_endedBefore cs) ∧ bd 60002 (c_pi_redirectedFetch cs) ∧ (∀ j, j < 8 → bd 60000 (c_iss cs j)) ∧ (∀ j, j < 36 → bd 60018 (c_rdy cs j)) ∧ (-100 ≤ (q_m_divided qs).toInt ∧ (q_m_divided qs).toInt ≤ 60000)) ∧
  (ev = 0 → c_pi_fetched cs = 0 ∧ c_pi_issued cs = 0 ∧ c_pi_ended cs = 0 ∧ c_pi_traits cs = 0 ∧ c_pi_beganGroup cs = 0 ∧ c_pi_redirectedFetch cs = 0 ∧ q_m_redirected qs = 0) ∧
  (0 < ev → c_pi_fetched cs = q_m_lastFetched qs ∧ c_pi_beganGroup cs = q_m_lastStarts qs ∧ (¬ q_m_lastStarts qs = 0 → c_pi_pc cs = q_m_lastPc qs) ∧ c_pi_issued cs = q_mis qs ((ev - 1) % 8) ∧ c_pi_ended cs = q_mdu qs ((ev - 1) % 8) ∧ (c_pi_traits cs = if q_m_lastReadable qs = 0 then 0 else (fX3_decode (q_m_lastWord qs)).1)) ∧
  (1 < ev → c_pi_endedBefore cs = q_mdu qs ((ev - 2) % 8)) ∧ (ev ≤ 1 → c_pi_endedBefore cs = 0) ∧
  (∀ j, j < 8 → c_iss cs j = if j < ev then q_mis qs j else 0) ∧
  (0 < ev → ((¬ c_pi_breaksGroup cs = 0) ↔ (¬ q_m_redirected qs = 0 ∨ ¬ q_m_lastApart qs = 0))) ∧
  (q_m_redirected qs = 0 → c_pi_redirectedFetch cs = 0) ∧ (¬ q_m_redirected qs = 0 → c_pi_redirectedFetch cs = q_m_behind qs + 1) ∧
  ((∀ r, 1 ≤ r → r < 32 → c_rdy cs r = q_mrd qs r) ∧ c_rdy cs 0 = 0 ∧ c_rdy cs 32 = q_m_flagReady qs ∧ c_rdy cs 33 = q_m_carryReady qs ∧ c_rdy cs 34 = q_m_sumReady qs) ∧
  ((c_rdy cs 35).toInt = (q_m_divided qs).toInt + 18 ∨ ((c_rdy cs 35).toInt ≤ (c_pi_fetched cs).toInt + 2 ∧ (q_m_divided qs).toInt + 18 ≤ (c_pi_fetched cs).toInt + 2) ∨ (¬ q_m_redirected qs = 0 ∧ (c_rdy cs 35).toInt ≤ (c_pi_redirectedFetch cs).toInt + 2 ∧ (q_m_divided qs).toInt + 18 ≤ (c_pi_redirectedFetch cs).toInt + 2)) ∧
  (0 < ev → ¬ q_m_lastReadable qs = 0 → (¬ q_m_redirected qs = 0 ∧ (c_pi_issued cs).toInt ≤ (c_pi_redirectedFetch cs).toInt) ∨ ((¬ fX11_writes (q_m_lastWord qs) = 0 → (c_pi_issued cs).toInt + 1 ≤ (q_mrd qs (fX11_writes (q_m_lastWord qs)).toNatClampNeg).toInt) ∧ (¬ fX11_writesFlag (q_m_lastWord qs) = 0 → (c_pi_issued cs).toInt + 1 ≤ (q_m_flagReady qs).toInt) ∧ (¬ fX11_writesCarry (q_m_lastWord qs) = 0 → (c_pi_issued cs).toInt + 1 ≤ (q_m_carryReady qs).toInt) ∧ (¬ fX11_isSum (q_m_lastWord qs) = 0 → (c_pi_issued cs).toInt + 1 ≤ (q_m_sumReady qs).toInt))) ∧
  (¬ c_st_inSlot cs = 0 → 0 < ev ∧ c_pi_branchForeseenToGo cs = (if q_m_foreseen qs = 0 then 0 else (if q_m_expected qs = 0 then 0 else 1)) ∧ c_pi_branchRedirects cs = (if q_m_foreseen qs = 0 then 1 else (if q_m_expected qs = q_m_went qs then 0 else 1))) ∧
  (isB (q_m_lastStarts qs)) ∧
  ((ev : Int) ≤ 2 * (c_pi_ended cs).toInt ∧ (ev ≤ 1 ∨ (ev : Int) ≤ 2 * (c_pi_endedBefore cs).toInt + 1)) ∧
  (c_ev_lastCycle cs = c_pi_ended cs) ∧
  ((c_pi_fetched cs).toInt ≤ (c_pi_issued cs).toInt ∧ (c_pi_issued cs).toInt ≤ (c_pi_ended cs).toInt ∧ (c_pi_endedBefore cs).toInt ≤ (c_pi_ended cs).toInt ∧ (0 < ev → 1 ≤ (c_pi_issued cs).toInt)) ∧
  (∃ r : Nat, c_sp_retired cs = nI r ∧ r ≤ ev)
/-! the class's issue -/
theorem rtr_le (T d a b : Int32) (rdy : Nat → Int32) (z : Int) (hz : 0 ≤ z) : (fX7_readyToRead T d a b rdy).toInt ≤ z ↔ (¬ fX3_is T 1 = 0 → (rdy a.toNatClampNeg).toInt ≤ z) ∧ (¬ fX3_is T 2 = 0 → (rdy b.toNatClampNeg).toInt ≤ z) ∧ (¬ fX3_is T 4 = 0 → (rdy d.toNatClampNeg).toInt ≤ z) ∧ (¬ fX3_is T 8 = 0 → (rdy 32).toInt ≤ z) ∧ (¬ fX3_is T 16 = 0 → (rdy 33).toInt ≤ z) ∧ (¬ fX3_is T 65536 = 0 → (rdy 34).toInt ≤ z) := by
  unfold fX7_readyToRead
  dsimp only
  generalize fX3_is T 1 = A
  generalize fX3_is T 2 = B
  generalize fX3_is T 4 = D
  generalize fX3_is T 8 = E
  generalize fX3_is T 16 = F
  generalize fX3_is T 65536 = G
  have s1 : ∀ (P a b : Int32), (if P = 0 then a else jmax a b).toInt ≤ z ↔ a.toInt ≤ z ∧ (¬ P = 0 → b.toInt ≤ z) := by
    intro P a b
    by_cases h : P = 0
    · rw [if_pos h]; exact ⟨fun q => ⟨q, fun k => absurd h k⟩, fun q => q.1⟩
    · rw [if_neg h, jm_le]; exact ⟨fun q => ⟨q.1, fun _ => q.2⟩, fun q => ⟨q.1, q.2 h⟩⟩
  have s0 : (if A = 0 then (0 : Int32) else rdy a.toNatClampNeg).toInt ≤ z ↔ (¬ A = 0 → (rdy a.toNatClampNeg).toInt ≤ z) := by
    by_cases h : A = 0
    · rw [if_pos h]; exact ⟨fun _ k => absurd h k, fun _ => hz⟩
    · rw [if_neg h]; exact ⟨fun q _ => q, fun q => q h⟩
  rw [s1, s1, s1, s1, s1, s0]
  constructor
  · rintro ⟨⟨⟨⟨⟨a, b⟩, c⟩, d⟩, e⟩, f⟩; exact ⟨a, b, c, d, e, f⟩
  · rintro ⟨a, b, c, d, e, f⟩; exact ⟨⟨⟨⟨⟨a, b⟩, c⟩, d⟩, e⟩, f⟩
theorem iss_le (T d a b F iss0 ended order tr : Int32) (iss rdy : Nat → Int32) (z : Int) (hF : 0 ≤ (F + 2).toInt) : (fX7_issue T d a b F iss0 ended order tr iss rdy).1.toInt ≤ z ↔ (F + 2).toInt ≤ z ∧ (if fX7_mayPairWith T iss0 order tr iss = 0 then iss0 + 1 else iss0).toInt ≤ z ∧ (¬ fX3_is T 16384 = 0 → (ended + 1).toInt ≤ z) ∧ (¬ fX3_is T 4096 = 0 → (rdy 35).toInt ≤ z) ∧ (fX7_readyToRead T d a b rdy).toInt ≤ z := by
  unfold fX7_issue
  dsimp only
  generalize fX7_mayPairWith T iss0 order tr iss = M
  generalize fX7_readyToRead T d a b rdy = R
  generalize fX3_is T 16384 = S
  generalize fX3_is T 4096 = D
  rw [jm_le]
  by_cases hS : S = 0 <;> by_cases hD : D = 0 <;> simp only [hS, hD, if_true, if_false, jm_le, not_true_eq_false, not_false_eq_true, true_implies, false_implies, true_and, and_assoc]
theorem ix_sub {ev k : Nat} (hk : k ≤ 8) (he : ev ≤ 120000) : ((nI ev - nI k) &&& 7).toNatClampNeg = (ev + 8 - k) % 8 := by
  have e : (nI ev - nI k) &&& 7 = nI ((ev + 8 - k) % 8) := by
    apply u_ext
    rw [u_and 3 (by decide), u_sub, u_nI (by omega), u_nI (by omega), u_nI (by omega)]
    omega
  rw [e, nI_clamp (by omega)]
theorem ix_0 {ev : Nat} (he : ev ≤ 120000) : ((nI ev) &&& 7).toNatClampNeg = ev % 8 := by
  have e : (nI ev) &&& 7 = nI (ev % 8) := pk_andN (by omega) 3 (by decide)
  rw [e, nI_clamp (by omega)]
theorem is_0 (t m : Int32) : fX3_is t m = 0 ↔ t &&& m = 0 := by
  unfold fX3_is; by_cases h : t &&& m = 0
  · rw [if_pos h]; exact ⟨fun _ => h, fun _ => rfl⟩
  · rw [if_neg h]; exact ⟨fun q => absurd q (by decide), fun q => absurd q h⟩
theorem mp_iff (T iss0 order tr : Int32) (iss : Nat → Int32) : ¬ fX7_mayPairWith T iss0 order tr iss = 0 ↔ (fX3_is tr 24576 = 0 ∧ fX3_is T 16384 = 0 ∧ (fX3_is tr 1536 = 0 ∨ fX3_is T 1536 = 0) ∧ (fX3_is tr 6144 = 0 ∨ fX3_is T 6144 = 0) ∧ ¬ iss0 ≤ iss ((order - 2) &&& 7).toNatClampNeg) := by
  unfold fX7_mayPairWith fX7_issueOf
  dsimp only
  rw [is_0 tr 24576, is_0 tr 1536, is_0 tr 6144]
  generalize tr &&& 24576 = A
  generalize fX3_is T 16384 = B
  generalize tr &&& 1536 = D
  generalize fX3_is T 1536 = E
  generalize tr &&& 6144 = F
  generalize fX3_is T 6144 = G
  generalize iss ((order - 2) &&& 7).toNatClampNeg = I
  by_cases hA : A = 0 <;> by_cases hB : B = 0 <;> by_cases hD : D = 0 <;> by_cases hE : E = 0 <;> by_cases hF : F = 0 <;> by_cases hG : G = 0 <;> by_cases hI : iss0 ≤ I <;> simp [hA, hB, hD, hE, hF, hG, hI]
theorem dep_iff (R F r C c S : Int32) (O : Prop) [Decidable O] : ¬ (if R = 0 then (if F = 0 then (if C = 0 then (if S = 0 then (1 : Int32) else (if O then (0) else (1))) else (if c = 0 then (if S = 0 then (1) else (if O then (0) else (1))) else (0))) else (if r = 0 then (if C = 0 then (if S = 0 then (1) else (if O then (0) else (1))) else (if c = 0 then (if S = 0 then (1) else (if O then (0) else (1))) else (0))) else (0))) else (0)) = 0 ↔ (R = 0 ∧ (F = 0 ∨ r = 0) ∧ (C = 0 ∨ c = 0) ∧ (S = 0 ∨ ¬ O)) := by
  by_cases hR : R = 0 <;> by_cases hF : F = 0 <;> by_cases hr : r = 0 <;> by_cases hC : C = 0 <;> by_cases hc : c = 0 <;> by_cases hS : S = 0 <;> by_cases hO : O <;> simp [hR, hF, hr, hC, hc, hS, hO]
theorem pairs_A (w fault lw : Int32) : ¬ fX11_pairs w fault lw 0 = 0 ↔ ¬ (fault = 0 ∧ ¬ fX11_isSingle w = 0) := by
  unfold fX11_pairs
  rw [if_pos rfl]
  generalize fX11_isSingle w = S
  by_cases hf : fault = 0 <;> by_cases hS : S = 0 <;> simp [hf, hS]
theorem pairs_B (w fault lw lr : Int32) (hr : ¬ lr = 0) (hf : ¬ fault ≤ 0) (hf0 : ¬ fault = 0) : ¬ fX11_pairs w fault lw lr = 0 ↔ (fX11_isSingle lw = 0 ∧ fX11_isBranch lw = 0) := by
  unfold fX11_pairs
  rw [if_neg hr, if_neg hf]
  generalize fX11_isSingle lw = S
  generalize fX11_isBranch lw = B
  generalize fX11_isSingle w = S2
  by_cases hS : S = 0 <;> by_cases hB : B = 0 <;> simp [hf0, hS, hB, hr]
theorem pairs_C (w fault lw lr : Int32) (hr : ¬ lr = 0) (hf : fault ≤ 0) : ¬ fX11_pairs w fault lw lr = 0 ↔ (fX11_isSingle lw = 0 ∧ fX11_isSingle w = 0 ∧ fX11_isBranch lw = 0 ∧ (fX11_isMemory lw = 0 ∨ fX11_isMemory w = 0) ∧ (fX11_isSlow lw = 0 ∨ fX11_isSlow w = 0) ∧ (fX11_reads w (fX11_writes lw) = 0 ∧ (fX11_writesFlag lw = 0 ∨ fX11_readsFlag w = 0) ∧ (fX11_writesCarry lw = 0 ∨ fX11_readsCarry w = 0) ∧ (fX11_isSum lw = 0 ∨ ¬ fX11_op w = 41))) := by
  unfold fX11_pairs
  rw [if_neg hr, if_pos hf]
  dsimp only
  rw [← dep_iff]
  generalize (if fX11_reads w (fX11_writes lw) = 0 then (if fX11_writesFlag lw = 0 then (if fX11_writesCarry lw = 0 then (if fX11_isSum lw = 0 then (1 : Int32) else (if fX11_op w = 41 then (0) else (1))) else (if fX11_readsCarry w = 0 then (if fX11_isSum lw = 0 then (1) else (if fX11_op w = 41 then (0) else (1))) else (0))) else (if fX11_readsFlag w = 0 then (if fX11_writesCarry lw = 0 then (if fX11_isSum lw = 0 then (1) else (if fX11_op w = 41 then (0) else (1))) else (if fX11_readsCarry w = 0 then (if fX11_isSum lw = 0 then (1) else (if fX11_op w = 41 then (0) else (1))) else (0))) else (0))) else (0)) = D
  generalize fX11_isSingle lw = S
  generalize fX11_isBranch lw = B
  generalize fX11_isSingle w = S2
  generalize fX11_isMemory lw = M
  generalize fX11_isMemory w = M2
  generalize fX11_isSlow lw = Z
  generalize fX11_isSlow w = Z2
  by_cases hS : S = 0 <;> by_cases hS2 : S2 = 0 <;> by_cases hB : B = 0 <;> by_cases hM : M = 0 <;> by_cases hM2 : M2 = 0 <;> by_cases hZ : Z = 0 <;> by_cases hZ2 : Z2 = 0 <;> simp [hS, hS2, hB, hM, hM2, hZ, hZ2]
theorem none_no {w : Int32} (n : Fin 64) (d : Fin 32) (e : fX11_op w = nI n.val) (ed : fD w = nI d.val) : ¬ fX11_isNone w = 0 → fX11_readsFlag w = 0 ∧ fX11_readsCarry w = 0 ∧ ¬ fX11_op w = 41 ∧ fX11_isDivide w = 0 := by
  have h : ∀ (n : Fin 64) (d : Fin 32), ¬ fX3_is (TT n.val d.val) 131072 = 0 → fX3_is (TT n.val d.val) 8 = 0 ∧ fX3_is (TT n.val d.val) 16 = 0 ∧ ¬ nI n.val = 41 ∧ fX3_is (TT n.val d.val) 4096 = 0 := by decide +kernel
  intro q
  rw [← t_none n d e ed] at q
  have := h n d q
  have a := t_rflag n d e
  have b := t_rcarry n d e
  have c := t_divide n d e
  rw [← a, ← b, ← c, e]
  exact this
/-- how the instruction that comes next is known on the two sides -/
def InsOk (T d a b fault w : Int32) : Prop := (fault = 0 ∧ ∃ (n : Fin 64) (e : Fin 32), fX11_op w = nI n.val ∧ fD w = nI e.val ∧ T = TT n.val e.val ∧ d = fD w ∧ a = fA w ∧ b = fB w) ∨ (¬ fault = 0 ∧ ¬ fault ≤ 0 ∧ T = 0)
theorem rd_iff {w : Int32} (n : Fin 64) (e : Fin 32) (en : fX11_op w = nI n.val) (ee : fD w = nI e.val) {rdy mrd : Nat → Int32} (hr : ∀ r, 1 ≤ r → r < 32 → rdy r = mrd r) (h0 : rdy 0 = 0) (z : Int) (hz : 0 ≤ z) : (∀ r, 1 ≤ r → r < 1 + 31 → ¬ fX11_reads w (nI r) = 0 → (mrd r).toInt ≤ z) ↔ ((¬ fX3_is (TT n.val e.val) 1 = 0 → (rdy (fA w).toNatClampNeg).toInt ≤ z) ∧ (¬ fX3_is (TT n.val e.val) 2 = 0 → (rdy (fB w).toNatClampNeg).toInt ≤ z) ∧ (¬ fX3_is (TT n.val e.val) 4 = 0 → (rdy (fD w).toNatClampNeg).toInt ≤ z)) := by
  obtain ⟨ka, hka⟩ := w_31n (jushr w 16)
  obtain ⟨kb, hkb⟩ := w_31n (jushr w 11)
  have ea : fA w = nI ka.val := hka
  have eb : fB w = nI kb.val := hkb
  have hc : ∀ k : Fin 32, (nI k.val).toNatClampNeg = k.val := fun k => nI_clamp (by omega)
  have hne : ∀ k : Fin 32, ¬ k.val = 0 → ¬ nI k.val = 0 := fun k h => nI_ne0 (by omega) (by omega)
  constructor
  · intro h
    have one : ∀ (k : Fin 32), ¬ fX11_reads w (nI k.val) = 0 ∨ k.val = 0 → (rdy (nI k.val).toNatClampNeg).toInt ≤ z := by
      intro k hk
      rw [hc]
      by_cases hk0 : k.val = 0
      · rw [hk0, h0]; exact hz
      · rcases hk with hk | hk
        · rw [hr k.val (by omega) k.isLt]; exact h k.val (by omega) (by omega) hk
        · exact absurd hk hk0
    refine ⟨fun q => ?_, fun q => ?_, fun q => ?_⟩
    · rw [ea]
      refine one ka ?_
      by_cases hk0 : ka.val = 0
      · exact Or.inr hk0
      · refine Or.inl fun qq => ?_
        rcases (t_reads n e en ee (nI ka.val)).mp qq with x | x
        · exact hne ka hk0 x
        · exact x (Or.inl ⟨q, ea⟩)
    · rw [eb]
      refine one kb ?_
      by_cases hk0 : kb.val = 0
      · exact Or.inr hk0
      · refine Or.inl fun qq => ?_
        rcases (t_reads n e en ee (nI kb.val)).mp qq with x | x
        · exact hne kb hk0 x
        · exact x (Or.inr (Or.inl ⟨q, eb⟩))
    · rw [ee]
      refine one e ?_
      by_cases hk0 : e.val = 0
      · exact Or.inr hk0
      · refine Or.inl fun qq => ?_
        rcases (t_reads n e en ee (nI e.val)).mp qq with x | x
        · exact hne e hk0 x
        · exact x (Or.inr (Or.inr ⟨q, ee⟩))
  · rintro ⟨qa, qb, qd⟩ r h1 h2 h3
    have hx : ¬ (nI r = 0 ∨ ¬ ((¬ fX3_is (TT n.val e.val) 1 = 0 ∧ fA w = nI r) ∨ (¬ fX3_is (TT n.val e.val) 2 = 0 ∧ fB w = nI r) ∨ (¬ fX3_is (TT n.val e.val) 4 = 0 ∧ fD w = nI r))) := fun q => h3 ((t_reads n e en ee (nI r)).mpr q)
    have hy := Classical.not_not.mp (fun q => hx (Or.inr q))
    rw [← hr r h1 (by omega)]
    rcases hy with ⟨p, q⟩ | ⟨p, q⟩ | ⟨p, q⟩
    · have := qa p; rw [q, nI_clamp (by omega)] at this; exact this
    · have := qb p; rw [q, nI_clamp (by omega)] at this; exact this
    · have := qd p; rw [q, nI_clamp (by omega)] at this; exact this
/-- the reference's issue before the registers are looked at -/
def mJ5 (qs : MSt) (w fault F : Int32) : Int32 := if q_m_events qs ≤ 0 then (F + 2) else (fX11_later (F + 2) (fX11_issue (q_m_events qs) (q_mis qs) 1 + (if (if fX11_pairs w fault (q_m_lastWord qs) (q_m_lastReadable qs) = 0 then (0 : Int32) else (if q_m_events qs = 1 then (1) else (if fX11_issue (q_m_events qs) (q_mis qs) 1 ≤ fX11_issue (q_m_events qs) (q_mis qs) 2 then (0) else (1)))) = 0 then (1) else (0))))
def mI (qs : MSt) (w fault F : Int32) : Int32 := if fault = 0 then rkI w (q_m_events qs) (q_m_flagReady qs) (q_m_carryReady qs) (q_m_sumReady qs) (q_m_divided qs) (rkV w (q_mrd qs) 1 (mJ5 qs w fault F) 31) (q_mdu qs) else mJ5 qs w fault F
theorem tr_bits : ∀ (n : Fin 64) (d : Fin 32), (fX3_is (TT n.val d.val) 24576 = 0 ↔ fX3_is (TT n.val d.val) 8192 = 0 ∧ fX3_is (TT n.val d.val) 16384 = 0) := by decide +kernel
theorem is0 (m : Int32) : fX3_is 0 m = 0 := by
  rw [is_0]
  refine b_ext (fun i hi => ?_)
  rw [b_and, b_0, Bool.false_and]
theorem wr_lt {w : Int32} (n : Fin 64) (d : Fin 32) (e : fX11_op w = nI n.val) (ed : fD w = nI d.val) : ∃ k : Fin 32, fX11_writes w = nI k.val := by
  rw [← t_writes n d e ed, ed]
  have h : ∀ (n : Fin 64) (d : Fin 32), ∃ k : Fin 32, fX3_writtenRegister (TT n.val d.val) (nI d.val) = nI k.val := by
    intro n d
    unfold fX3_writtenRegister
    dsimp only
    split
    · split
      · exact ⟨0, rfl⟩
      · exact ⟨d, rfl⟩
    · exact ⟨31, rfl⟩
  exact h n d
theorem lw_ex (w : Int32) : ∃ (n : Fin 64) (e : Fin 32), fX11_op w = nI n.val ∧ fD w = nI e.val ∧ (fX3_decode w).1 = TT n.val e.val := by
  obtain ⟨n, d, a, b, c⟩ := dec_all w
  exact ⟨n, d, a, b, by rw [c]⟩
theorem mis_1 {qs : MSt} {ev : Nat} (he : q_m_events qs = nI ev) (hev : ev ≤ 120000) (h0 : 0 < ev) : fX11_issue (q_m_events qs) (q_mis qs) 1 = q_mis qs ((ev - 1) % 8) := by
  unfold fX11_issue
  rw [he, show (nI ev - 1) = nI ev - nI 1 from rfl, ix_sub (by omega) hev, show (ev + 8 - 1) % 8 = (ev - 1) % 8 by omega]
theorem mis_2 {qs : MSt} {ev : Nat} (he : q_m_events qs = nI ev) (hev : ev ≤ 120000) (h0 : 1 < ev) : fX11_issue (q_m_events qs) (q_mis qs) 2 = q_mis qs ((ev - 2) % 8) := by
  unfold fX11_issue
  rw [he, show (nI ev - 2) = nI ev - nI 2 from rfl, ix_sub (by omega) hev, show (ev + 8 - 2) % 8 = (ev - 2) % 8 by omega]
theorem mdu_1 {qs : MSt} {ev : Nat} (he : q_m_events qs = nI ev) (hev : ev ≤ 120000) (h0 : 0 < ev) : fX11_dueOf (q_m_events qs) (q_mdu qs) 1 = q_mdu qs ((ev - 1) % 8) := by
  unfold fX11_dueOf
  rw [he, show (nI ev - 1) = nI ev - nI 1 from rfl, ix_sub (by omega) hev, show (ev + 8 - 1) % 8 = (ev - 1) % 8 by omega]
theorem mdu_2 {qs : MSt} {ev : Nat} (he : q_m_events qs = nI ev) (hev : ev ≤ 120000) (h0 : 1 < ev) : fX11_dueOf (q_m_events qs) (q_mdu qs) 2 = q_mdu qs ((ev - 2) % 8) := by
  unfold fX11_dueOf
  rw [he, show (nI ev - 2) = nI ev - nI 2 from rfl, ix_sub (by omega) hev, show (ev + 8 - 2) % 8 = (ev - 2) % 8 by omega]
theorem ev_le {qs : MSt} {ev : Nat} (he : q_m_events qs = nI ev) (hev : ev ≤ 120000) (k : Nat) (hk : k ≤ 8) : q_m_events qs ≤ nI k ↔ ev ≤ k := by rw [he, nI_leI (by omega) (by omega)]
theorem e_issue {cs : CSt} {qs : MSt} (hP : RP cs qs) {T d a b fault w F : Int32} (hI : InsOk T d a b fault w) (hF : bd 60002 F) (hF1 : (c_pi_fetched cs).toInt ≤ F.toInt) (hF2 : ¬ q_m_redirected qs = 0 → (c_pi_redirectedFetch cs).toInt ≤ F.toInt) :
    (fX7_issue T d a b F (c_pi_issued cs) (c_pi_ended cs) (c_pi_order cs) (c_pi_traits cs) (c_iss cs) (c_rdy cs)).1 = mI qs w fault F := by
  obtain ⟨ev, ⟨ho, he, hev⟩, ⟨bF, bI', bE, bB, bR, bi, br, bdv⟩, h0, h1, h2, h2', hi, hbrk, hr0, hr1, ⟨g1, g0, g32, g33, g34⟩, hdv, hdep, hslot, hls, hgr, hlc, ⟨hor1, hor2, hor3, hor4⟩, hret⟩ := hP
  have hF2' : (F + 2).toInt = F.toInt + 2 := by rw [add_i (by omega) (by decide), t2']
  have hi1 : (c_pi_issued cs + 1).toInt = (c_pi_issued cs).toInt + 1 := by rw [add_i (by omega) (by decide), t1']
  have hi0 : (c_pi_issued cs + 0).toInt = (c_pi_issued cs).toInt := by rw [Int32.add_zero]
  have he1 : (c_pi_ended cs + 1).toInt = (c_pi_ended cs).toInt + 1 := by rw [add_i (by omega) (by decide), t1']
  have hdv18 : (q_m_divided qs + 18).toInt = (q_m_divided qs).toInt + 18 := by rw [add_i (by omega) (by decide), t18']
  have ee0 : q_m_events qs ≤ 0 ↔ ev ≤ 0 := ev_le he hev 0 (by omega)
  have ee1 : q_m_events qs = 1 ↔ ev = 1 := by rw [he]; exact nI_eq (b := 1) (by omega) (by omega)
  -- what the two sides wait for behind the last issue
  have hj5 : ∀ z : Int, (mJ5 qs w fault F).toInt ≤ z ↔ F.toInt + 2 ≤ z ∧ (0 < ev → (c_pi_issued cs).toInt + (if (¬ fX11_pairs w fault (q_m_lastWord qs) (q_m_lastReadable qs) = 0 ∧ (ev = 1 ∨ ¬ c_pi_issued cs ≤ c_iss cs ((ev + 8 - 2) % 8))) then 0 else 1) ≤ z) := by
    intro z
    unfold mJ5
    by_cases hz : ev = 0
    · rw [if_pos (ee0.mpr (by omega)), hF2']
      exact ⟨fun q => ⟨q, fun k => absurd k (by omega)⟩, fun q => q.1⟩
    · have hp : 0 < ev := by omega
      rw [if_neg (fun q => hz (by have := ee0.mp q; omega)), lt_le, hF2', mis_1 he hev hp, ← (h1 hp).2.2.2.1]
      have hcond : (if (if fX11_pairs w fault (q_m_lastWord qs) (q_m_lastReadable qs) = 0 then (0 : Int32) else (if q_m_events qs = 1 then (1) else (if c_pi_issued cs ≤ fX11_issue (q_m_events qs) (q_mis qs) 2 then (0) else (1)))) = 0 then (1 : Int32) else (0)) = if (¬ fX11_pairs w fault (q_m_lastWord qs) (q_m_lastReadable qs) = 0 ∧ (ev = 1 ∨ ¬ c_pi_issued cs ≤ c_iss cs ((ev + 8 - 2) % 8))) then 0 else 1 := by
        by_cases a : fX11_pairs w fault (q_m_lastWord qs) (q_m_lastReadable qs) = 0
        · rw [if_pos a, if_pos rfl, if_neg (fun q => q.1 a)]
        · rw [if_neg a]
          by_cases b : ev = 1
          · rw [if_pos (ee1.mpr b), if_neg (by decide), if_pos ⟨a, Or.inl b⟩]
          · have hm2 : fX11_issue (q_m_events qs) (q_mis qs) 2 = c_iss cs ((ev + 8 - 2) % 8) := by
              rw [mis_2 he hev (by omega), show (ev + 8 - 2) % 8 = (ev - 2) % 8 by omega, hi ((ev - 2) % 8) (by omega), if_pos (by omega)]
            rw [if_neg (fun q => b (ee1.mp q)), hm2]
            by_cases c : c_pi_issued cs ≤ c_iss cs ((ev + 8 - 2) % 8)
            · rw [if_pos c, if_pos rfl, if_neg (fun q => q.2.elim b (fun k => k c))]
            · rw [if_neg c, if_neg (by decide), if_pos ⟨a, Or.inr c⟩]
      rw [hcond]
      by_cases c : (¬ fX11_pairs w fault (q_m_lastWord qs) (q_m_lastReadable qs) = 0 ∧ (ev = 1 ∨ ¬ c_pi_issued cs ≤ c_iss cs ((ev + 8 - 2) % 8)))
      · rw [if_pos c, if_pos c, hi0]
        exact ⟨fun q => ⟨q.1, fun _ => by omega⟩, fun q => ⟨q.1, by have := q.2 hp; omega⟩⟩
      · rw [if_neg c, if_neg c, hi1]
        exact ⟨fun q => ⟨q.1, fun _ => by omega⟩, fun q => ⟨q.1, by have := q.2 hp; omega⟩⟩
  have hj2 : ∀ z : Int, F.toInt + 2 ≤ z → ((if fX7_mayPairWith T (c_pi_issued cs) (c_pi_order cs) (c_pi_traits cs) (c_iss cs) = 0 then c_pi_issued cs + 1 else c_pi_issued cs).toInt ≤ z ↔ (0 < ev → (c_pi_issued cs).toInt + (if ((fX3_is (c_pi_traits cs) 24576 = 0 ∧ fX3_is T 16384 = 0 ∧ (fX3_is (c_pi_traits cs) 1536 = 0 ∨ fX3_is T 1536 = 0) ∧ (fX3_is (c_pi_traits cs) 6144 = 0 ∨ fX3_is T 6144 = 0)) ∧ (ev = 1 ∨ ¬ c_pi_issued cs ≤ c_iss cs ((ev + 8 - 2) % 8))) then 0 else 1) ≤ z)) := by
    intro z hz
    have hm := mp_iff T (c_pi_issued cs) (c_pi_order cs) (c_pi_traits cs) (c_iss cs)
    rw [ho, show (nI ev - 2) = nI ev - nI 2 from rfl, ix_sub (by omega) hev, ← ho] at hm
    by_cases hp : 0 < ev
    · have h12 : (ev = 1 ∨ ¬ c_pi_issued cs ≤ c_iss cs ((ev + 8 - 2) % 8)) ↔ ¬ c_pi_issued cs ≤ c_iss cs ((ev + 8 - 2) % 8) := by
        refine ⟨fun q => q.elim (fun k => ?_) id, Or.inr⟩
        subst k
        rw [hi _ (by omega), if_neg (by omega), ile, i32_0]
        have := hor4 hp
        omega
      by_cases c : fX7_mayPairWith T (c_pi_issued cs) (c_pi_order cs) (c_pi_traits cs) (c_iss cs) = 0
      · rw [if_pos c, if_neg (fun q => hm.mpr ⟨q.1.1, q.1.2.1, q.1.2.2.1, q.1.2.2.2, h12.mp q.2⟩ c), hi1]
        exact ⟨fun q _ => q, fun q => q hp⟩
      · obtain ⟨x1, x2, x3, x4, x5⟩ := hm.mp c
        rw [if_neg c, if_pos ⟨⟨x1, x2, x3, x4⟩, h12.mpr x5⟩]
        exact ⟨fun q _ => by omega, fun q => by have := q hp; omega⟩
    · have hz0 : c_pi_issued cs = 0 := (h0 (by omega)).2.1
      have : (if fX7_mayPairWith T (c_pi_issued cs) (c_pi_order cs) (c_pi_traits cs) (c_iss cs) = 0 then c_pi_issued cs + 1 else c_pi_issued cs).toInt ≤ 1 := by
        rw [hz0]; split
        · decide
        · decide
      exact ⟨fun _ k => absurd k hp, fun _ => by omega⟩
  refine eq_le (fun z => ?_)
  rw [iss_le T d a b F _ _ _ _ _ _ z (by rw [hF2']; omega), hF2']
  unfold mI
  rcases hI with ⟨hf, n, e, en, ee, eT, ed, ea, eb⟩ | ⟨hf, hf', eT⟩
  · rw [if_pos hf]
    subst eT ed ea eb
    rw [rkI_le w _ _ _ _ _ _ _ z (none_no n e en ee), rkV_le, hj5, hdv18]
    have tN := t_single n e en ee
    have tD := t_divide n e en
    have tF := t_rflag n e en
    have tC := t_rcarry n e en
    have tS := t_rsum n e en
    have tM := t_memory n e en
    have tZ := t_slow n e en
    by_cases hz : F.toInt + 2 ≤ z
    · rw [hj2 z hz, rtr_le _ _ _ _ _ z (by omega)]
      have hrd := rd_iff n e en ee g1 g0 z (by omega)
      rw [g32, g33, g34, he1]
      rw [tN, tD, tF, tC, tS, tM, tZ]
      have hs41 : (¬ (if fX11_op w = 41 then (1 : Int32) else 0) = 0) ↔ fX11_op w = 41 := by
        by_cases k : fX11_op w = 41
        · rw [if_pos k]; exact ⟨fun _ => k, fun _ => by decide⟩
        · rw [if_neg k]; exact ⟨fun q => absurd rfl q, fun q => absurd q k⟩
      rw [hs41]
      -- single
      have hsg : (¬ fX11_isSingle w = 0 → (c_pi_ended cs).toInt + 1 ≤ z) ↔ (¬ fX11_isSingle w = 0 → ¬ q_m_events qs ≤ 0 → (fX11_dueOf (q_m_events qs) (q_mdu qs) 1 + 1).toInt ≤ z) := by
        by_cases hp : 0 < ev
        · rw [mdu_1 he hev hp, ← (h1 hp).2.2.2.2.1, he1]
          exact ⟨fun q k _ => q k, fun q k => q k (fun y => by have := ee0.mp y; omega)⟩
        · have : c_pi_ended cs = 0 := (h0 (by omega)).2.2.1
          exact ⟨fun _ _ k => absurd (ee0.mpr (by omega)) k, fun _ _ => by rw [this, i32_0]; omega⟩
      rw [hsg]
      have hdd : (¬ fX11_isDivide w = 0 → (c_rdy cs 35).toInt ≤ z) ↔ (¬ fX11_isDivide w = 0 → (q_m_divided qs).toInt + 18 ≤ z) := by
        rcases hdv with q | ⟨q1, q2⟩ | ⟨q0, q1, q2⟩
        · rw [q]
        · exact ⟨fun _ _ => by omega, fun _ _ => by omega⟩
        · have := hF2 q0
          exact ⟨fun _ _ => by omega, fun _ _ => by omega⟩
      rw [hdd]
      have hpair : ∀ (hreads : ∀ r, 1 ≤ r → r < 1 + 31 → ¬ fX11_reads w (nI r) = 0 → (q_mrd qs r).toInt ≤ z) (hfl : ¬ fX11_readsFlag w = 0 → (q_m_flagReady qs).toInt ≤ z) (hca : ¬ fX11_readsCarry w = 0 → (q_m_carryReady qs).toInt ≤ z) (hsu : fX11_op w = 41 → (q_m_sumReady qs).toInt ≤ z), (0 < ev → (c_pi_issued cs).toInt + (if ((fX3_is (c_pi_traits cs) 24576 = 0 ∧ fX11_isSingle w = 0 ∧ (fX3_is (c_pi_traits cs) 1536 = 0 ∨ fX11_isMemory w = 0) ∧ (fX3_is (c_pi_traits cs) 6144 = 0 ∨ fX11_isSlow w = 0)) ∧ (ev = 1 ∨ ¬ c_pi_issued cs ≤ c_iss cs ((ev + 8 - 2) % 8))) then 0 else 1) ≤ z) ↔ (0 < ev → (c_pi_issued cs).toInt + (if (¬ fX11_pairs w fault (q_m_lastWord qs) (q_m_lastReadable qs) = 0 ∧ (ev = 1 ∨ ¬ c_pi_issued cs ≤ c_iss cs ((ev + 8 - 2) % 8))) then 0 else 1) ≤ z) := by
        intro hreads hfl hca hsu
        by_cases hp : 0 < ev
        · have htr := (h1 hp).2.2.2.2.2
          by_cases hlr : q_m_lastReadable qs = 0
          · rw [hlr, if_pos rfl] at htr
            rw [htr, hlr]
            have hA := pairs_A w fault (q_m_lastWord qs)
            have hq : ((fX3_is 0 24576 = 0 ∧ fX11_isSingle w = 0 ∧ (fX3_is 0 1536 = 0 ∨ fX11_isMemory w = 0) ∧ (fX3_is 0 6144 = 0 ∨ fX11_isSlow w = 0)) ∧ (ev = 1 ∨ ¬ c_pi_issued cs ≤ c_iss cs ((ev + 8 - 2) % 8))) ↔ (¬ fX11_pairs w fault (q_m_lastWord qs) 0 = 0 ∧ (ev = 1 ∨ ¬ c_pi_issued cs ≤ c_iss cs ((ev + 8 - 2) % 8))) := by
              rw [hA, is0, is0, is0]
              constructor
              · rintro ⟨⟨_, x, _⟩, y⟩; exact ⟨fun q => q.2 x, y⟩
              · rintro ⟨x, y⟩; exact ⟨⟨rfl, Classical.not_not.mp (fun q => x ⟨hf, q⟩), Or.inl rfl, Or.inl rfl⟩, y⟩
            by_cases hc : (fX3_is 0 24576 = 0 ∧ fX11_isSingle w = 0 ∧ (fX3_is 0 1536 = 0 ∨ fX11_isMemory w = 0) ∧ (fX3_is 0 6144 = 0 ∨ fX11_isSlow w = 0)) ∧ (ev = 1 ∨ ¬ c_pi_issued cs ≤ c_iss cs ((ev + 8 - 2) % 8))
            · rw [if_pos hc, if_pos (hq.mp hc)]
            · rw [if_neg hc, if_neg (fun q => hc (hq.mpr q))]
          · rw [if_neg hlr] at htr
            obtain ⟨ln, le, len, lee, leT⟩ := lw_ex (q_m_lastWord qs)
            rw [leT] at htr
            have hC := pairs_C w fault (q_m_lastWord qs) (q_m_lastReadable qs) hlr (by rw [hf]; decide)
            have l1 := t_branch ln le len
            have l2 := t_single ln le len lee
            have l3 := t_memory ln le len
            have l4 := t_slow ln le len
            have l5 := tr_bits ln le
            rw [l1, l2] at l5
            rw [htr, l3, l4]
            by_cases hm : ¬ fX11_pairs w fault (q_m_lastWord qs) (q_m_lastReadable qs) = 0 ∧ (ev = 1 ∨ ¬ c_pi_issued cs ≤ c_iss cs ((ev + 8 - 2) % 8))
            · obtain ⟨x1, x2, x3, x4, x5, _⟩ := hC.mp hm.1
              rw [if_pos hm, if_pos ⟨⟨l5.mpr ⟨x3, x1⟩, x2, x4, x5⟩, hm.2⟩]
            · rw [if_neg hm]
              by_cases hc : (fX3_is (TT ln.val le.val) 24576 = 0 ∧ fX11_isSingle w = 0 ∧ (fX11_isMemory (q_m_lastWord qs) = 0 ∨ fX11_isMemory w = 0) ∧ (fX11_isSlow (q_m_lastWord qs) = 0 ∨ fX11_isSlow w = 0)) ∧ (ev = 1 ∨ ¬ c_pi_issued cs ≤ c_iss cs ((ev + 8 - 2) % 8))
              · have hz1 : (c_pi_issued cs).toInt + 1 ≤ z := by
                  rcases hdep hp hlr with ⟨q0, q1⟩ | ⟨p1, p2, p3, p4⟩
                  · have := hF2 q0; omega
                  · have hnot : ¬ (fX11_reads w (fX11_writes (q_m_lastWord qs)) = 0 ∧ (fX11_writesFlag (q_m_lastWord qs) = 0 ∨ fX11_readsFlag w = 0) ∧ (fX11_writesCarry (q_m_lastWord qs) = 0 ∨ fX11_readsCarry w = 0) ∧ (fX11_isSum (q_m_lastWord qs) = 0 ∨ ¬ fX11_op w = 41)) := fun k => hm ⟨hC.mpr ⟨(l5.mp hc.1.1).2, hc.1.2.1, (l5.mp hc.1.1).1, hc.1.2.2.1, hc.1.2.2.2, k⟩, hc.2⟩
                    by_cases d1 : fX11_reads w (fX11_writes (q_m_lastWord qs)) = 0
                    · by_cases d2 : fX11_writesFlag (q_m_lastWord qs) = 0 ∨ fX11_readsFlag w = 0
                      · by_cases d3 : fX11_writesCarry (q_m_lastWord qs) = 0 ∨ fX11_readsCarry w = 0
                        · by_cases d4 : fX11_isSum (q_m_lastWord qs) = 0 ∨ ¬ fX11_op w = 41
                          · exact absurd ⟨d1, d2, d3, d4⟩ hnot
                          · have a1 := p4 (fun k => d4 (Or.inl k))
                            have a2 := hsu (Classical.not_not.mp (fun k => d4 (Or.inr k)))
                            omega
                        · have a1 := p3 (fun k => d3 (Or.inl k))
                          have a2 := hca (fun k => d3 (Or.inr k))
                          omega
                      · have a1 := p2 (fun k => d2 (Or.inl k))
                        have a2 := hfl (fun k => d2 (Or.inr k))
                        omega
                    · obtain ⟨k, hk⟩ := wr_lt ln le len lee
                      rw [hk] at d1 p1
                      have hk0 : ¬ k.val = 0 := by
                        intro q
                        rw [q] at d1
                        exact d1 ((t_reads n e en ee 0).mpr (Or.inl rfl))
                      have a1 := p1 (nI_ne0 (by omega) (by omega))
                      rw [nI_clamp (by omega)] at a1
                      have a2 := hreads k.val (by omega) (by omega) d1
                      omega
                rw [if_pos hc]
                exact ⟨fun _ _ => hz1, fun _ _ => by omega⟩
              · rw [if_neg hc]
        · exact ⟨fun _ k => absurd k hp, fun _ k => absurd k hp⟩
      constructor
      · rintro ⟨c1, c2, c3, c4, c5, c6, c7, c8, c9, c10⟩
        have hreads := hrd.mpr ⟨c5, c6, c7⟩
        exact ⟨⟨⟨c1, (hpair hreads c8 c9 c10).mp c2⟩, hreads⟩, c8, c9, c10, c4, c3⟩
      · rintro ⟨⟨⟨c1, c2⟩, hreads⟩, c8, c9, c10, c4, c3⟩
        obtain ⟨c5, c6, c7⟩ := hrd.mp hreads
        exact ⟨c1, (hpair hreads c8 c9 c10).mpr c2, c3, c4, c5, c6, c7, c8, c9, c10⟩
    · exact ⟨fun q => absurd q.1 hz, fun q => absurd q.1.1.1 hz⟩
  · rw [if_neg hf]
    subst eT
    rw [hj5]
    by_cases hz : F.toInt + 2 ≤ z
    · rw [hj2 z hz, rtr_le _ _ _ _ _ z (by omega), is0, is0, is0, is0, is0, is0, is0, is0, is0, is0]
      have hq : (0 < ev → (c_pi_issued cs).toInt + (if ((fX3_is (c_pi_traits cs) 24576 = 0 ∧ (0 : Int32) = 0 ∧ (fX3_is (c_pi_traits cs) 1536 = 0 ∨ (0 : Int32) = 0) ∧ (fX3_is (c_pi_traits cs) 6144 = 0 ∨ (0 : Int32) = 0)) ∧ (ev = 1 ∨ ¬ c_pi_issued cs ≤ c_iss cs ((ev + 8 - 2) % 8))) then 0 else 1) ≤ z) ↔ (0 < ev → (c_pi_issued cs).toInt + (if (¬ fX11_pairs w fault (q_m_lastWord qs) (q_m_lastReadable qs) = 0 ∧ (ev = 1 ∨ ¬ c_pi_issued cs ≤ c_iss cs ((ev + 8 - 2) % 8))) then 0 else 1) ≤ z) := by
        by_cases hp : 0 < ev
        · have htr := (h1 hp).2.2.2.2.2
          have hqq : ((fX3_is (c_pi_traits cs) 24576 = 0 ∧ (0 : Int32) = 0 ∧ (fX3_is (c_pi_traits cs) 1536 = 0 ∨ (0 : Int32) = 0) ∧ (fX3_is (c_pi_traits cs) 6144 = 0 ∨ (0 : Int32) = 0)) ∧ (ev = 1 ∨ ¬ c_pi_issued cs ≤ c_iss cs ((ev + 8 - 2) % 8))) ↔ (¬ fX11_pairs w fault (q_m_lastWord qs) (q_m_lastReadable qs) = 0 ∧ (ev = 1 ∨ ¬ c_pi_issued cs ≤ c_iss cs ((ev + 8 - 2) % 8))) := by
            by_cases hlr : q_m_lastReadable qs = 0
            · rw [hlr, if_pos rfl] at htr
              rw [htr, hlr, pairs_A, is0]
              exact ⟨fun q => ⟨fun k => hf k.1, q.2⟩, fun q => ⟨⟨rfl, rfl, Or.inr rfl, Or.inr rfl⟩, q.2⟩⟩
            · rw [if_neg hlr] at htr
              obtain ⟨ln, le, len, lee, leT⟩ := lw_ex (q_m_lastWord qs)
              rw [leT] at htr
              have l1 := t_branch ln le len
              have l2 := t_single ln le len lee
              have l5 := tr_bits ln le
              rw [l1, l2] at l5
              rw [htr, l5, pairs_B w fault _ _ hlr hf' hf]
              exact ⟨fun q => ⟨⟨q.1.1.2, q.1.1.1⟩, q.2⟩, fun q => ⟨⟨⟨q.1.2, q.1.1⟩, rfl, Or.inr rfl, Or.inr rfl⟩, q.2⟩⟩
          by_cases hc : ((fX3_is (c_pi_traits cs) 24576 = 0 ∧ (0 : Int32) = 0 ∧ (fX3_is (c_pi_traits cs) 1536 = 0 ∨ (0 : Int32) = 0) ∧ (fX3_is (c_pi_traits cs) 6144 = 0 ∨ (0 : Int32) = 0)) ∧ (ev = 1 ∨ ¬ c_pi_issued cs ≤ c_iss cs ((ev + 8 - 2) % 8)))
          · rw [if_pos hc, if_pos (hqq.mp hc)]
          · rw [if_neg hc, if_neg (fun q => hc (hqq.mpr q))]
        · exact ⟨fun _ k => absurd k hp, fun _ k => absurd k hp⟩
      constructor
      · rintro ⟨c1, c2, _⟩; exact ⟨c1, hq.mp c2⟩
      · rintro ⟨c1, c2⟩; exact ⟨c1, hq.mpr c2, fun k => absurd rfl k, fun k => absurd rfl k, fun k => absurd rfl k, fun k => absurd rfl k, fun k => absurd rfl k, fun k => absurd rfl k, fun k => absurd rfl k, fun k => absurd rfl k⟩
    · exact ⟨fun q => absurd q.1 hz, fun q => absurd q.1 hz⟩
def mJ2 (qs : MSt) : Int32 := if q_m_events qs ≤ 0 then (0) else (if q_m_lastStarts qs = 0 then (0) else (if q_m_pc qs = (q_m_lastPc qs + 4) then (if q_m_redirected qs = 0 then (if q_m_lastApart qs = 0 then (1) else (0)) else (0)) else (0)))
def mF (qs : MSt) : Int32 := if mJ2 qs = 0 then (let j4 : Int32 := if q_m_events qs ≤ 0 then (1) else (q_m_lastFetched qs + 1); (let j5 : Int32 := if q_m_events qs ≤ 4 then (j4) else (fX11_later j4 (fX11_issue (q_m_events qs) (q_mis qs) 5 + 1)); if q_m_redirected qs = 0 then (j5) else (fX11_later j5 (q_m_behind qs + 1)))) else (q_m_lastFetched qs)
theorem reckon_eq (L : MLook) (qs : MSt) : KG L qs = (mF qs, mI qs L.1 L.2.1 (mF qs), rkE (q_m_events qs) L.2.2.1 (mI qs L.1 L.2.1 (mF qs)) (if L.2.1 = 0 then rkL L.1 else 3) (q_mdu qs), if mJ2 qs = 0 then 1 else 0) := by
  unfold KG fX11_reckon mI
  by_cases hf : L.2.1 = 0
  · rw [if_pos hf, if_pos hf, if_pos hf]
    have h := rk_loop (q_m_events qs) L.1 L.2.2.1 (q_m_flagReady qs) (q_m_carryReady qs) (q_m_sumReady qs) (q_m_divided qs) (q_mdu qs) (q_mrd qs) (if mJ2 qs = 0 then 1 else 0) (mF qs) 31 1 (mJ5 qs L.1 L.2.1 (mF qs)) 1 (by omega) (by omega)
    have h2 := rk_end (q_m_events qs) L.1 L.2.2.1 (q_m_flagReady qs) (q_m_carryReady qs) (q_m_sumReady qs) (q_m_divided qs) (q_mdu qs) (q_mrd qs) (if mJ2 qs = 0 then 1 else 0) (mF qs) (rkV L.1 (q_mrd qs) 1 (mJ5 qs L.1 L.2.1 (mF qs)) 31) 1
    exact h.trans h2
  · rw [if_neg hf, if_neg hf, if_neg hf]
    exact rk_0 (q_m_events qs) L.1 L.2.2.1 (q_m_flagReady qs) (q_m_carryReady qs) (q_m_sumReady qs) (q_m_divided qs) (q_mdu qs) (q_mrd qs) (if mJ2 qs = 0 then 1 else 0) (mF qs) (mJ5 qs L.1 L.2.1 (mF qs)) 32 1 (by decide)
theorem e_fetch {cs : CSt} {qs : MSt} (hP : RP cs qs) (hpc : c_st_pc cs = q_m_pc qs) : fX7_fetch (c_pi_fetched cs) (c_pi_order cs) (c_pi_pc cs) (c_pi_beganGroup cs) (c_pi_breaksGroup cs) (c_pi_redirectedFetch cs) (c_iss cs) (c_st_pc cs) = (mF qs, c_st_pc cs, if mJ2 qs = 0 then 1 else 0) ∧ bd 60002 (mF qs) ∧ (c_pi_fetched cs).toInt ≤ (mF qs).toInt ∧ (¬ q_m_redirected qs = 0 → (c_pi_redirectedFetch cs).toInt ≤ (mF qs).toInt) := by
  obtain ⟨ev, ⟨ho, he, hev⟩, ⟨bF, bI', bE, bB, bR, bi, br, bdv⟩, h0, h1, h2, h2', hi, hbrk, hr0, hr1, ⟨g1, g0, g32, g33, g34⟩, hdv, hdep, hslot, hls, hgr, hlc, ⟨hor1, hor2, hor3, hor4⟩, hret⟩ := hP
  have ee0 : q_m_events qs ≤ 0 ↔ ev ≤ 0 := ev_le he hev 0 (by omega)
  have ee4 : q_m_events qs ≤ 4 ↔ ev ≤ 4 := ev_le he hev 4 (by omega)
  have hj : (if c_pi_beganGroup cs = 0 then (0 : Int32) else (if c_pi_breaksGroup cs = 0 then (if c_st_pc cs = (c_pi_pc cs + 4) then (1) else (0)) else (0))) = mJ2 qs := by
    unfold mJ2
    by_cases hp : 0 < ev
    · obtain ⟨a1, a2, a3, _⟩ := h1 hp
      rw [if_neg (show ¬ q_m_events qs ≤ 0 from fun q => by have := ee0.mp q; omega), a2, hpc]
      by_cases hs : q_m_lastStarts qs = 0
      · rw [if_pos hs, if_pos hs]
      · rw [if_neg hs, if_neg hs, a3 hs]
        by_cases hb : c_pi_breaksGroup cs = 0
        · have hn : ¬ (¬ q_m_redirected qs = 0 ∨ ¬ q_m_lastApart qs = 0) := fun q => ((hbrk hp).mpr q) hb
          have e1 : q_m_redirected qs = 0 := Classical.not_not.mp (fun q => hn (Or.inl q))
          have e2 : q_m_lastApart qs = 0 := Classical.not_not.mp (fun q => hn (Or.inr q))
          rw [if_pos hb, if_pos e1, if_pos e2]
        · rw [if_neg hb]
          rcases (hbrk hp).mp hb with q | q
          · rw [if_neg q]; split <;> rfl
          · rw [if_neg q]
            have e5 : (if q_m_redirected qs = 0 then (0 : Int32) else 0) = 0 := by split <;> rfl
            rw [e5]; split <;> rfl
    · rw [if_pos (h0 (by omega)).2.2.2.2.1, if_pos (ee0.mpr (by omega))]
  have hi5 : ev ≤ 4 → fX7_issueOf (c_iss cs) (c_pi_order cs - 5) = 0 := by
    intro h
    unfold fX7_issueOf
    rw [ho, show (nI ev - 5) = nI ev - nI 5 from rfl, ix_sub (by omega) hev, hi _ (by omega), if_neg (by omega)]
  have hi5' : ¬ ev ≤ 4 → fX7_issueOf (c_iss cs) (c_pi_order cs - 5) = fX11_issue (q_m_events qs) (q_mis qs) 5 := by
    intro h
    unfold fX7_issueOf fX11_issue
    rw [ho, he, show (nI ev - 5) = nI ev - nI 5 from rfl, ix_sub (by omega) hev, hi _ (by omega), if_pos (by omega)]
  have bi5 : bd 60000 (fX7_issueOf (c_iss cs) (c_pi_order cs - 5)) := by
    unfold fX7_issueOf
    rw [ho, show (nI ev - 5) = nI ev - nI 5 from rfl, ix_sub (by omega) hev]
    exact bi _ (by omega)
  have hf1 : (c_pi_fetched cs + 1).toInt = (c_pi_fetched cs).toInt + 1 := by rw [add_i (by omega) (by decide), t1']
  have hi51 : (fX7_issueOf (c_iss cs) (c_pi_order cs - 5) + 1).toInt = (fX7_issueOf (c_iss cs) (c_pi_order cs - 5)).toInt + 1 := by rw [add_i (by omega) (by decide), t1']
  -- what the time is when a group begins
  have hcls : ∀ z : Int, (jmax ((jmax (c_pi_fetched cs) (fX7_issueOf (c_iss cs) (c_pi_order cs - 5))) + 1) (c_pi_redirectedFetch cs)).toInt ≤ z ↔ (c_pi_fetched cs).toInt + 1 ≤ z ∧ (fX7_issueOf (c_iss cs) (c_pi_order cs - 5)).toInt + 1 ≤ z ∧ (c_pi_redirectedFetch cs).toInt ≤ z := by
    intro z
    have hm : ((jmax (c_pi_fetched cs) (fX7_issueOf (c_iss cs) (c_pi_order cs - 5))) + 1).toInt ≤ z ↔ (c_pi_fetched cs).toInt + 1 ≤ z ∧ (fX7_issueOf (c_iss cs) (c_pi_order cs - 5)).toInt + 1 ≤ z := by
      show ((if c_pi_fetched cs < fX7_issueOf (c_iss cs) (c_pi_order cs - 5) then fX7_issueOf (c_iss cs) (c_pi_order cs - 5) else c_pi_fetched cs) + 1).toInt ≤ z ↔ _
      by_cases q : c_pi_fetched cs < fX7_issueOf (c_iss cs) (c_pi_order cs - 5)
      · rw [if_pos q, hi51]; rw [ilt] at q; omega
      · rw [if_neg q, hf1]; rw [ilt] at q; omega
    rw [jm_le, hm, and_assoc]
  have hmF : mJ2 qs = 0 → jmax ((jmax (c_pi_fetched cs) (fX7_issueOf (c_iss cs) (c_pi_order cs - 5))) + 1) (c_pi_redirectedFetch cs) = mF qs := by
    intro hz
    unfold mF
    rw [if_pos hz]
    dsimp only
    refine eq_le (fun z => ?_)
    rw [hcls z]
    have hA : ∀ z : Int, (if q_m_events qs ≤ 0 then (1 : Int32) else (q_m_lastFetched qs + 1)).toInt ≤ z ↔ (c_pi_fetched cs).toInt + 1 ≤ z := by
      intro z
      by_cases hp : 0 < ev
      · rw [if_neg (show ¬ q_m_events qs ≤ 0 from fun q => by have := ee0.mp q; omega), ← (h1 hp).1, hf1]
      · rw [if_pos (ee0.mpr (by omega)), (h0 (by omega)).1, t1', i32_0]; exact Iff.rfl
    have hB : ∀ z : Int, (if q_m_events qs ≤ 4 then (if q_m_events qs ≤ 0 then (1 : Int32) else (q_m_lastFetched qs + 1)) else (fX11_later (if q_m_events qs ≤ 0 then (1 : Int32) else (q_m_lastFetched qs + 1)) (fX11_issue (q_m_events qs) (q_mis qs) 5 + 1))).toInt ≤ z ↔ (c_pi_fetched cs).toInt + 1 ≤ z ∧ (fX7_issueOf (c_iss cs) (c_pi_order cs - 5)).toInt + 1 ≤ z := by
      intro z
      by_cases h4 : ev ≤ 4
      · rw [if_pos (ee4.mpr h4), hA, hi5 h4, i32_0]
        omega
      · rw [if_neg (fun q => h4 (ee4.mp q)), lt_le, hA, ← hi5' h4, hi51]
    by_cases hr : q_m_redirected qs = 0
    · rw [if_pos hr, hB, hr0 hr, i32_0]
      omega
    · rw [if_neg hr, lt_le, hB, hr1 hr, and_assoc]
  have hmF1 : ¬ mJ2 qs = 0 → mF qs = c_pi_fetched cs ∧ 0 < ev ∧ q_m_redirected qs = 0 := by
    intro hz
    have hp : 0 < ev := by
      refine Nat.pos_of_ne_zero fun q => hz ?_
      unfold mJ2
      rw [if_pos (ee0.mpr (by omega))]
    refine ⟨?_, hp, ?_⟩
    · unfold mF
      rw [if_neg hz, (h1 hp).1]
    · refine Classical.not_not.mp fun q => hz ?_
      unfold mJ2
      rw [if_neg q]
      repeat' split
      all_goals rfl
  have hval : fX7_fetch (c_pi_fetched cs) (c_pi_order cs) (c_pi_pc cs) (c_pi_beganGroup cs) (c_pi_breaksGroup cs) (c_pi_redirectedFetch cs) (c_iss cs) (c_st_pc cs) = (mF qs, c_st_pc cs, if mJ2 qs = 0 then 1 else 0) := by
    unfold fX7_fetch
    rw [hj]
    dsimp only
    by_cases hz : mJ2 qs = 0
    · rw [if_pos hz, if_pos hz, hmF hz]
    · rw [if_neg hz, if_neg hz, (hmF1 hz).1]
  refine ⟨hval, ?_⟩
  by_cases hz : mJ2 qs = 0
  · have e1 := (hcls (mF qs).toInt).mp (by rw [hmF hz]; exact Int.le_refl _)
    have e2 := (hcls 60002).mpr ⟨by omega, by omega, by omega⟩
    rw [hmF hz] at e2
    exact ⟨⟨by omega, e2⟩, by omega, fun _ => e1.2.2⟩
  · obtain ⟨q1, q2, q3⟩ := hmF1 hz
    rw [q1]
    exact ⟨⟨by omega, by omega⟩, Int.le_refl _, fun k => absurd q3 k⟩
theorem end_le (T I ended eb ret : Int32) (z : Int) (bI' : bd 61000 I) (bE : bd 60000 ended) (bB : bd 60000 eb) : (fX7_end T I ended eb ret).1.toInt ≤ z ↔ I.toInt + (if ¬ fX3_is T 4096 = 0 then 20 else (if ¬ fX3_is T 2048 = 0 then 5 else 3)) ≤ z ∧ ended.toInt + (if ret = 0 then 1 else 0) ≤ z ∧ eb.toInt + 1 ≤ z := by
  unfold fX7_end
  dsimp only
  have h3 : (I + 3).toInt = I.toInt + 3 := by rw [add_i (by omega) (by decide), t3']
  have h5 : (I + 5).toInt = I.toInt + 5 := by rw [add_i (by omega) (by decide), t5']
  have h20 : (I + 20).toInt = I.toInt + 20 := by rw [add_i (by omega) (by decide), t20']
  have he1 : (ended + 1).toInt = ended.toInt + 1 := by rw [add_i (by omega) (by decide), t1']
  have hb1 : (eb + 1).toInt = eb.toInt + 1 := by rw [add_i (by omega) (by decide), t1']
  rw [jm_le, jm_le, hb1]
  generalize fX3_is T 2048 = M
  generalize fX3_is T 4096 = D
  by_cases hD : D = 0 <;> by_cases hM : M = 0 <;> by_cases hr : ret = 0 <;> simp only [hD, hM, hr, if_true, if_false, not_true_eq_false, not_false_eq_true, h3, h5, h20, he1, Int.add_zero, and_assoc]
theorem len_eq {w : Int32} (n : Fin 64) (e : Fin 32) (en : fX11_op w = nI n.val) (ee : fD w = nI e.val) : (rkL w).toInt = (if ¬ fX3_is (TT n.val e.val) 4096 = 0 then 20 else (if ¬ fX3_is (TT n.val e.val) 2048 = 0 then 5 else 3)) := by
  unfold rkL
  rw [m_none n e en ee, m_multiply n en, m_divide n en]
  have h : ∀ (n : Fin 64) (e : Fin 32), (if (if bI (NN n.val e.val) = 0 then (1 : Int32) else (0)) = 0 then (3 : Int32) else (if bI (decide (n.val = 8) || decide (n.val = 36) || decide (n.val = 57) || (decide (38 ≤ n.val) && decide (n.val ≤ 40))) = 0 then (if bI (decide (n.val = 9) || decide (n.val = 37)) = 0 then 3 else 20) else 5)).toInt = (if ¬ fX3_is (TT n.val e.val) 4096 = 0 then 20 else (if ¬ fX3_is (TT n.val e.val) 2048 = 0 then 5 else 3)) := by decide +kernel
  exact h n e
/-- what the times keep -/
def TimesOk (cs : CSt) (qs : MSt) (T exc F I E : Int32) : Prop :=
  (bd 60002 F ∧ (c_pi_fetched cs).toInt ≤ F.toInt ∧ (¬ q_m_redirected qs = 0 → (c_pi_redirectedFetch cs).toInt ≤ F.toInt)) ∧ (F.toInt + 2 ≤ I.toInt ∧ (c_pi_issued cs).toInt ≤ I.toInt ∧ I.toInt ≤ 60100) ∧ (I.toInt + 3 ≤ E.toInt ∧ (c_pi_ended cs).toInt ≤ E.toInt ∧ (c_pi_endedBefore cs).toInt + 1 ≤ E.toInt ∧ E.toInt ≤ 60200) ∧ (¬ fX3_is T 4096 = 0 → (c_rdy cs 35).toInt ≤ I.toInt ∧ I.toInt + 20 ≤ E.toInt)
theorem e_take {cs : CSt} {qs : MSt} (hP : RP cs qs) (hpc : c_st_pc cs = q_m_pc qs) {T op d a b j exc goes : Int32} (L : MLook) (hI : InsOk T d a b L.2.1 L.1) (hx : exc = L.2.2.1) (hxn : ∃ n : Nat, n ≤ 14 ∧ exc = nI n) (R : Int32 × Int32 × Int32 × Int32 × Int32 × Int32 × Int32 × Int32 × Int32 × Int32 × Int32 × Int32 × (Nat → Int32) × (Nat → Int32)) (hR : R = fX7_take (c_st_pc cs) (c_st_inSlot cs) T op d a b j exc goes (c_pi_fetched cs) (c_pi_issued cs) (c_pi_ended cs) (c_pi_order cs) (c_pi_endedBefore cs) (c_pi_traits cs) (c_pi_pc cs) (c_pi_beganGroup cs) (c_pi_breaksGroup cs) (c_pi_redirectedFetch cs) (c_pi_branchForeseenToGo cs) (c_pi_branchRedirects cs) (c_iss cs) (c_rdy cs)) :
    (R.1 = (KG L qs).1 ∧ R.2.1 = (KG L qs).2.1 ∧ R.2.2.1 = (KG L qs).2.2.1 ∧ R.2.2.2.2.2.2.2.1 = (KG L qs).2.2.2) ∧ TimesOk cs qs T exc R.1 R.2.1 R.2.2.1 ∧
    R.2.2.2.1 = c_pi_order cs + 1 ∧ R.2.2.2.2.1 = c_pi_ended cs ∧ R.2.2.2.2.2.1 = T ∧ R.2.2.2.2.2.2.1 = c_st_pc cs ∧
    R.2.2.2.2.2.2.2.2.2.2.2.2.1 = upd (c_iss cs) (c_pi_order cs &&& 7).toNatClampNeg R.2.1 ∧
    R.2.2.2.2.2.2.2.2.2.2.2.2.2 = (if exc = 0 then fX7_noteWrites T d R.2.1 (c_rdy cs) else c_rdy cs) ∧
    (R.2.2.2.2.2.2.2.2.1, R.2.2.2.2.2.2.2.2.2.1, R.2.2.2.2.2.2.2.2.2.2.1, R.2.2.2.2.2.2.2.2.2.2.2.1) = fX7_noteWayOn (c_st_inSlot cs) T op j exc goes R.2.2.1 (c_pi_order cs) (c_pi_branchForeseenToGo cs) (c_pi_branchRedirects cs) (upd (c_iss cs) (c_pi_order cs &&& 7).toNatClampNeg R.2.1) := by
  obtain ⟨f1, f2, f3, f4⟩ := e_fetch hP hpc
  have hi := e_issue hP hI f2 f3 f4
  have hiss : (fX7_issue T d a b (mF qs) (c_pi_issued cs) (c_pi_ended cs) (c_pi_order cs) (c_pi_traits cs) (c_iss cs) (c_rdy cs)).2 = upd (c_iss cs) (c_pi_order cs &&& 7).toNatClampNeg (mI qs L.1 L.2.1 (mF qs)) := by
    rw [← hi]; rfl
  rw [reckon_eq]
  unfold fX7_take at hR
  rw [f1] at hR
  dsimp only at hR
  rw [hi, hiss] at hR
  have hret : fX2_retires exc = 0 ↔ ¬ exc = 0 := by
    unfold fX2_retires
    by_cases h : exc = 0
    · rw [if_pos h]; exact ⟨fun q => absurd q (by decide), fun q => absurd h q⟩
    · rw [if_neg h]; exact ⟨fun _ => h, fun _ => rfl⟩
  obtain ⟨ev, ⟨ho, he, hev⟩, ⟨bF, bI', bE, bB, bR, bi, br, bdv⟩, h0, h1, h2, h2', hi', hbrk, hr0, hr1, ⟨g1, g0, g32, g33, g34⟩, hdv, hdep, hslot, hls, hgr, hlc, ⟨hor1, hor2, hor3, hor4⟩, hret'⟩ := hP
  have hF2' : (mF qs + 2).toInt = (mF qs).toInt + 2 := by rw [add_i (by omega) (by decide), t2']
  have hil := fun z => iss_le T d a b (mF qs) (c_pi_issued cs) (c_pi_ended cs) (c_pi_order cs) (c_pi_traits cs) (c_iss cs) (c_rdy cs) z (by rw [hF2']; omega)
  rw [hi] at hil
  have hi1 : (c_pi_issued cs + 1).toInt = (c_pi_issued cs).toInt + 1 := by rw [add_i (by omega) (by decide), t1']
  have he1 : (c_pi_ended cs + 1).toInt = (c_pi_ended cs).toInt + 1 := by rw [add_i (by omega) (by decide), t1']
  have hlow := (hil _).mp (Int.le_refl _)
  rw [hF2'] at hlow
  have hidx : ∀ x : Int32, (∃ k : Fin 32, x = nI k.val) → (c_rdy cs x.toNatClampNeg).toInt ≤ 60018 := by
    rintro x ⟨k, rfl⟩
    rw [nI_clamp (by omega)]
    exact (br _ (by omega)).2
  have hup := (hil 60100).mpr ⟨by omega, by split <;> omega, fun _ => by omega, fun _ => by have := br 35 (by omega); omega, by
    rw [rtr_le _ _ _ _ _ _ (by omega)]
    rcases hI with ⟨hf, n, e, en, ee, eT, ed, ea, eb⟩ | ⟨hf, hf', eT⟩
    · refine ⟨fun _ => ?_, fun _ => ?_, fun _ => ?_, fun _ => ?_, fun _ => ?_, fun _ => ?_⟩
      · have := hidx a (by rw [ea]; exact w_31n _); omega
      · have := hidx b (by rw [eb]; exact w_31n _); omega
      · have := hidx d (by rw [ed]; exact w_31n _); omega
      · have := br 32 (by omega); omega
      · have := br 33 (by omega); omega
      · have := br 34 (by omega); omega
    · rw [eT, is0, is0, is0, is0, is0, is0]
      exact ⟨fun k => absurd rfl k, fun k => absurd rfl k, fun k => absurd rfl k, fun k => absurd rfl k, fun k => absurd rfl k, fun k => absurd rfl k⟩⟩
  have hIge : (c_pi_issued cs).toInt ≤ (mI qs L.1 L.2.1 (mF qs)).toInt := by
    have := hlow.2.1
    by_cases c : fX7_mayPairWith T (c_pi_issued cs) (c_pi_order cs) (c_pi_traits cs) (c_iss cs) = 0
    · rw [if_pos c] at this; omega
    · rw [if_neg c] at this; exact this
  have hel := fun z => end_le T (mI qs L.1 L.2.1 (mF qs)) (c_pi_ended cs) (c_pi_endedBefore cs) (fX2_retires exc) z ⟨by omega, by omega⟩ bE bB
  have hEeq : (fX7_end T (mI qs L.1 L.2.1 (mF qs)) (c_pi_ended cs) (c_pi_endedBefore cs) (fX2_retires exc)).1 = rkE (q_m_events qs) L.2.2.1 (mI qs L.1 L.2.1 (mF qs)) (if L.2.1 = 0 then rkL L.1 else 3) (q_mdu qs) := by
    refine eq_le (fun z => ?_)
    rw [hel z]
    have hlen : ((if L.2.1 = 0 then rkL L.1 else 3) : Int32).toInt = (if ¬ fX3_is T 4096 = 0 then 20 else (if ¬ fX3_is T 2048 = 0 then 5 else 3)) := by
      rcases hI with ⟨hf, n, e, en, ee, eT, ed, ea, eb⟩ | ⟨hf, hf', eT⟩
      · rw [if_pos hf, eT]; exact len_eq n e en ee
      · rw [if_neg hf, eT, is0, is0]; decide
    have hlb : (if ¬ fX3_is T 4096 = 0 then (20 : Int) else (if ¬ fX3_is T 2048 = 0 then 5 else 3)) ≤ 20 ∧ 3 ≤ (if ¬ fX3_is T 4096 = 0 then (20 : Int) else (if ¬ fX3_is T 2048 = 0 then 5 else 3)) := by
      split
      · omega
      · split <;> omega
    rw [← hlen] at hlb ⊢
    have hsum : (mI qs L.1 L.2.1 (mF qs) + (if L.2.1 = 0 then rkL L.1 else 3)).toInt = (mI qs L.1 L.2.1 (mF qs)).toInt + ((if L.2.1 = 0 then rkL L.1 else 3) : Int32).toInt := add_i (by omega) (by omega)
    generalize ((if L.2.1 = 0 then rkL L.1 else 3) : Int32) = ln at hlb hsum ⊢
    have ee0 : q_m_events qs ≤ 0 ↔ ev ≤ 0 := ev_le he hev 0 (by omega)
    have ee1 : q_m_events qs ≤ 1 ↔ ev ≤ 1 := ev_le he hev 1 (by omega)
    have hb1 : (c_pi_endedBefore cs + 1).toInt = (c_pi_endedBefore cs).toInt + 1 := by rw [add_i (by omega) (by decide), t1']
    have hexc : (if L.2.2.1 ≤ 0 then (0 : Int32) else 1).toInt = if fX2_retires exc = 0 then 1 else 0 := by
      rw [← hx]
      obtain ⟨k, hk, ek⟩ := hxn
      have hq : exc ≤ 0 ↔ exc = 0 := by
        rw [ek]
        have a1 : nI k ≤ 0 ↔ k ≤ 0 := nI_leI (b := 0) (by omega) (by omega)
        have a2 : nI k = 0 ↔ k = 0 := nI_eq (b := 0) (by omega) (by omega)
        rw [a1, a2]; omega
      by_cases h : exc = 0
      · rw [if_pos (hq.mpr h), if_neg (fun q => hret.mp q h)]; rfl
      · rw [if_neg (fun q => h (hq.mp q)), if_pos (hret.mpr h)]; rfl
    have hee : (c_pi_ended cs + (if L.2.2.1 ≤ 0 then (0 : Int32) else 1)).toInt = (c_pi_ended cs).toInt + if fX2_retires exc = 0 then 1 else 0 := by
      rw [← hexc]
      refine add_i (by omega) ?_
      split <;> decide
    generalize (if fX2_retires exc = 0 then (1 : Int) else 0) = xx at hexc hee ⊢
    have hxx : xx = 0 ∨ xx = 1 := by
      rw [← hexc]; split
      · exact Or.inl rfl
      · exact Or.inr rfl
    unfold rkE
    dsimp only
    by_cases hp : 0 < ev
    · rw [if_neg (show ¬ q_m_events qs ≤ 0 from fun q => by have := ee0.mp q; omega), mdu_1 he hev hp, ← (h1 hp).2.2.2.2.1]
      by_cases hp2 : 1 < ev
      · rw [if_neg (show ¬ q_m_events qs ≤ 1 from fun q => by have := ee1.mp q; omega), mdu_2 he hev hp2, ← h2 hp2, lt_le, lt_le, hsum, hb1, hee, and_assoc]
      · rw [if_pos (ee1.mpr (by omega)), lt_le, hsum, hee, h2' (by omega), i32_0]
        constructor
        · rintro ⟨q1, q2, q3⟩; exact ⟨q1, q2⟩
        · rintro ⟨q1, q2⟩; exact ⟨q1, q2, by omega⟩
    · rw [if_pos (ee1.mpr (by omega)), if_pos (ee0.mpr (by omega)), hsum, h2' (by omega), (h0 (by omega)).2.2.1, i32_0]
      constructor
      · rintro ⟨q1, q2, q3⟩; exact q1
      · intro q1; exact ⟨q1, by rcases hxx with q | q <;> omega, by omega⟩
  have hEl := (hel _).mp (Int.le_refl _)
  have hEu := (hel 60200).mpr ⟨by split; omega; split <;> omega, by split <;> omega, by omega⟩
  rw [hEeq] at hEl hEu hR
  have hend2 : (fX7_end T (mI qs L.1 L.2.1 (mF qs)) (c_pi_ended cs) (c_pi_endedBefore cs) (fX2_retires exc)).2 = c_pi_ended cs := rfl
  rw [hend2] at hR
  subst hR
  refine ⟨⟨rfl, rfl, rfl, rfl⟩, ⟨⟨f2, f3, f4⟩, ⟨hlow.1, hIge, hup⟩, ⟨?_, ?_, hEl.2.2, hEu⟩, fun q => ⟨hlow.2.2.2.1 q, ?_⟩⟩, rfl, rfl, rfl, rfl, rfl, ?_, rfl⟩
  · dsimp only
    have := hEl.1
    have h3 : (3 : Int) ≤ (if ¬ fX3_is T 4096 = 0 then (20 : Int) else (if ¬ fX3_is T 2048 = 0 then 5 else 3)) := by split; omega; split <;> omega
    omega
  · dsimp only
    have := hEl.2.1
    have h3 : (0 : Int) ≤ (if fX2_retires exc = 0 then (1 : Int) else 0) := by split <;> omega
    omega
  · dsimp only
    have := hEl.1
    rw [if_pos q] at this
    exact this
  · show (if fX2_retires exc = 0 then c_rdy cs else fX7_noteWrites T d (mI qs L.1 L.2.1 (mF qs)) (c_rdy cs)) = (if exc = 0 then fX7_noteWrites T d (mI qs L.1 L.2.1 (mF qs)) (c_rdy cs) else c_rdy cs)
    by_cases h : exc = 0
    · rw [if_pos h, if_neg (fun q => hret.mp q h)]
    · rw [if_neg h, if_pos (hret.mpr h)]

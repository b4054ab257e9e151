/-! ===== pure: kinds of instructions: the class's traits against the reference's tests ===== -/
def TT (n d : Nat) : Int32 := if fX3_is (trI n) 128 = 0 then trI n else (if nI d ≤ 9 then trI n else 147456)
abbrev fD (w : Int32) : Int32 := (jushr w 21) &&& 31
abbrev fA (w : Int32) : Int32 := (jushr w 16) &&& 31
abbrev fB (w : Int32) : Int32 := (jushr w 11) &&& 31
theorem mD (w : Int32) : (w >>> ((21 : Int32) &&& 31)) &&& 31 = fD w := w_field 21 (by omega) w
theorem mA (w : Int32) : (w >>> ((16 : Int32) &&& 31)) &&& 31 = fA w := w_field 16 (by omega) w
theorem mB (w : Int32) : (w >>> ((11 : Int32) &&& 31)) &&& 31 = fB w := w_field 11 (by omega) w
theorem op_eq (w : Int32) : fX11_op w = jushr w 26 := rfl
theorem dec_all (w : Int32) : ∃ (n : Fin 64) (d : Fin 32), fX11_op w = nI n.val ∧ fD w = nI d.val ∧ fX3_decode w = (TT n.val d.val, nI n.val, fD w, fA w, fB w, w &&& 65535, w.toInt16.toInt32, (w <<< ((6 : Int32) &&& 31)) >>> ((6 : Int32) &&& 31)) := by
  obtain ⟨n, hn⟩ := op_of w
  obtain ⟨d, hd⟩ := w_31n (jushr w 21)
  refine ⟨n, d, hn, hd, ?_⟩
  unfold fX3_decode TT
  dsimp only
  rw [hn, nI_clamp (by omega)]
  unfold fD fA fB
  rw [hd]
  by_cases h : fX3_is (trI n.val) 128 = 0
  · rw [if_pos h, if_pos h]
  · rw [if_neg h, if_neg h]
    by_cases h2 : nI d.val ≤ 9
    · rw [if_pos h2, if_pos h2]
    · rw [if_neg h2, if_neg h2]
abbrev NN (n d : Nat) : Bool := decide (57 < n) || ((decide (n = 18) || decide (n = 19)) && decide (9 < d))
theorem m_none {w : Int32} (n : Fin 64) (d : Fin 32) (e : fX11_op w = nI n.val) (ed : fD w = nI d.val) : fX11_isNone w = bI (NN n.val d.val) := by
  unfold fX11_isNone
  dsimp only
  rw [mD, ed, e]
  clear e ed
  revert n d
  decide +kernel
theorem t_none {w : Int32} (n : Fin 64) (d : Fin 32) (e : fX11_op w = nI n.val) (ed : fD w = nI d.val) : fX3_is (TT n.val d.val) 131072 = fX11_isNone w := by
  rw [m_none n d e ed]; clear e ed; revert n d; decide +kernel
abbrev SS (n d : Nat) : Bool := NN n d || (decide (30 ≤ n) && decide (n ≤ 33)) || decide (n = 56)
theorem m_single {w : Int32} (n : Fin 64) (d : Fin 32) (e : fX11_op w = nI n.val) (ed : fD w = nI d.val) : fX11_isSingle w = bI (SS n.val d.val) := by
  unfold fX11_isSingle
  dsimp only
  rw [m_none n d e ed, e]
  clear e ed
  revert n d
  decide +kernel
theorem t_single {w : Int32} (n : Fin 64) (d : Fin 32) (e : fX11_op w = nI n.val) (ed : fD w = nI d.val) : fX3_is (TT n.val d.val) 16384 = fX11_isSingle w := by
  rw [m_single n d e ed]; clear e ed; revert n d; decide +kernel
theorem m_slow {w : Int32} (n : Fin 64) (e : fX11_op w = nI n.val) : fX11_isSlow w = bI ((decide (n.val = 8) || decide (n.val = 36) || decide (n.val = 57) || (decide (38 ≤ n.val) && decide (n.val ≤ 40))) || (decide (n.val = 9) || decide (n.val = 37))) := by
  unfold fX11_isSlow
  dsimp only
  rw [m_multiply n e, m_divide n e]
  clear e
  revert n
  decide +kernel
theorem t_branch {w : Int32} (n : Fin 64) (d : Fin 32) (e : fX11_op w = nI n.val) : fX3_is (TT n.val d.val) 8192 = fX11_isBranch w := by
  rw [m_branch n e]; clear e; revert n d; decide +kernel
theorem t_memory {w : Int32} (n : Fin 64) (d : Fin 32) (e : fX11_op w = nI n.val) : fX3_is (TT n.val d.val) 1536 = fX11_isMemory w := by
  rw [m_memory n e]; clear e; revert n d; decide +kernel
theorem t_store {w : Int32} (n : Fin 64) (d : Fin 32) (e : fX11_op w = nI n.val) : fX3_is (TT n.val d.val) 1024 = fX11_isStore w := by
  rw [m_store n e]; clear e; revert n d; decide +kernel
theorem t_slow {w : Int32} (n : Fin 64) (d : Fin 32) (e : fX11_op w = nI n.val) : fX3_is (TT n.val d.val) 6144 = fX11_isSlow w := by
  rw [m_slow n e]; clear e; revert n d; decide +kernel
theorem t_multiply {w : Int32} (n : Fin 64) (d : Fin 32) (e : fX11_op w = nI n.val) : fX3_is (TT n.val d.val) 2048 = fX11_isMultiply w := by
  rw [m_multiply n e]; clear e; revert n d; decide +kernel
theorem t_divide {w : Int32} (n : Fin 64) (d : Fin 32) (e : fX11_op w = nI n.val) : fX3_is (TT n.val d.val) 4096 = fX11_isDivide w := by
  rw [m_divide n e]; clear e; revert n d; decide +kernel
theorem t_sum {w : Int32} (n : Fin 64) (d : Fin 32) (e : fX11_op w = nI n.val) : fX3_is (TT n.val d.val) 32768 = fX11_isSum w := by
  rw [m_sum n e]; clear e; revert n d; decide +kernel
theorem t_wflag {w : Int32} (n : Fin 64) (d : Fin 32) (e : fX11_op w = nI n.val) (ed : fD w = nI d.val) : fX3_is (TT n.val d.val) 128 = fX11_writesFlag w := by
  unfold fX11_writesFlag; dsimp only; rw [m_none n d e ed, e]; clear e ed; revert n d; decide +kernel
theorem t_wcarry {w : Int32} (n : Fin 64) (d : Fin 32) (e : fX11_op w = nI n.val) : fX3_is (TT n.val d.val) 256 = fX11_writesCarry w := by
  unfold fX11_writesCarry; dsimp only; rw [e]; clear e; revert n d; decide +kernel
theorem t_rcarry {w : Int32} (n : Fin 64) (d : Fin 32) (e : fX11_op w = nI n.val) : fX3_is (TT n.val d.val) 16 = fX11_readsCarry w := by
  unfold fX11_readsCarry; dsimp only; rw [e]; clear e; revert n d; decide +kernel
theorem t_rflag {w : Int32} (n : Fin 64) (d : Fin 32) (e : fX11_op w = nI n.val) : fX3_is (TT n.val d.val) 8 = fX11_readsFlag w := by
  unfold fX11_readsFlag; dsimp only; rw [e]; clear e; revert n d; decide +kernel
theorem t_rsum {w : Int32} (n : Fin 64) (d : Fin 32) (e : fX11_op w = nI n.val) : fX3_is (TT n.val d.val) 65536 = if fX11_op w = 41 then 1 else 0 := by
  rw [e]; clear e; revert n d; decide +kernel
theorem t_writes {w : Int32} (n : Fin 64) (d : Fin 32) (e : fX11_op w = nI n.val) (ed : fD w = nI d.val) : fX3_writtenRegister (TT n.val d.val) (fD w) = fX11_writes w := by
  have hm : (w >>> ((21 : Int32) &&& 31)) &&& 31 = nI d.val := (mD w).trans ed
  rw [ed]
  unfold fX11_writes
  rw [hm]
  dsimp only
  rw [m_none n d e ed, m_memory n e, m_store n e, m_sum n e, e]
  clear e ed hm
  revert n d
  decide +kernel
def RA (n d : Nat) : Int32 := if bI (NN n d) = 0 then (if nI n < 14 then (1) else (if nI n ≤ 14 then (if bI ((decide (26 ≤ n) && decide (n ≤ 29)) || (decide (51 ≤ n) && decide (n ≤ 54))) = 0 then (if nI n = 31 then (1) else (if nI n ≤ 33 then (if nI n = 57 then (1) else (0)) else (if 51 ≤ nI n then (if nI n = 57 then (1) else (0)) else (if nI n = 41 then (if nI n = 57 then (1) else (0)) else (1))))) else (1)) else (if nI n < 20 then (1) else (if bI ((decide (26 ≤ n) && decide (n ≤ 29)) || (decide (51 ≤ n) && decide (n ≤ 54))) = 0 then (if nI n = 31 then (1) else (if nI n ≤ 33 then (if nI n = 57 then (1) else (0)) else (if 51 ≤ nI n then (if nI n = 57 then (1) else (0)) else (if nI n = 41 then (if nI n = 57 then (1) else (0)) else (1))))) else (1))))) else 0
theorem rd_fold (z j3 j4 z5 : Int32) (A B D : Prop) [Decidable A] [Decidable B] [Decidable D] : (if z = 0 then (if j3 = 0 then (if j4 = 0 then (if z5 = 0 then (0 : Int32) else (if D then (1) else (0))) else (if B then (1) else (if z5 = 0 then (0) else (if D then (1) else (0))))) else (if A then (1) else (if j4 = 0 then (if z5 = 0 then (0) else (if D then (1) else (0))) else (if B then (1) else (if z5 = 0 then (0) else (if D then (1) else (0))))))) else 0) = 0 ↔ ¬ ((¬ (if z = 0 then j3 else 0) = 0 ∧ A) ∨ (¬ (if z = 0 then j4 else 0) = 0 ∧ B) ∨ (¬ (if z = 0 then z5 else 0) = 0 ∧ D)) := by
  have h1 : ¬ (1 : Int32) = 0 := by decide
  by_cases hz : z = 0
  · simp only [hz, if_true]
    by_cases h3 : j3 = 0 <;> by_cases h4 : j4 = 0 <;> by_cases h5 : z5 = 0 <;> by_cases hA : A <;> by_cases hB : B <;> by_cases hD : D <;> simp [h3, h4, h5, hA, hB, hD, h1]
  · simp [hz]
theorem t_reads {w : Int32} (n : Fin 64) (d : Fin 32) (e : fX11_op w = nI n.val) (ed : fD w = nI d.val) (r : Int32) : fX11_reads w r = 0 ↔ (r = 0 ∨ ¬ ((¬ fX3_is (TT n.val d.val) 1 = 0 ∧ fA w = r) ∨ (¬ fX3_is (TT n.val d.val) 2 = 0 ∧ fB w = r) ∨ (¬ fX3_is (TT n.val d.val) 4 = 0 ∧ fD w = r))) := by
  unfold fX11_reads
  dsimp only
  by_cases h0 : r = 0
  · rw [if_pos h0]; exact ⟨fun _ => Or.inl h0, fun _ => rfl⟩
  · rw [if_neg h0, mA, mB, mD, rd_fold, m_none n d e ed, m_memory n e, m_store n e, e]
    have e1 : ∀ (n : Fin 64) (d : Fin 32), fX3_is (TT n.val d.val) 1 = RA n.val d.val := by decide +kernel
    have e2 : ∀ (n : Fin 64) (d : Fin 32), fX3_is (TT n.val d.val) 2 = (if bI (NN n.val d.val) = 0 then (if nI n.val < 10 then (1) else (if nI n.val = 18 then (1) else (if nI n.val = 24 then (1) else (if nI n.val = 25 then (1) else (if nI n.val = 34 then (1) else (if nI n.val ≤ 35 then (if nI n.val = 40 then (1) else (if nI n.val = 46 then (1) else (if nI n.val = 49 then (1) else (0)))) else (if nI n.val < 39 then (1) else (if nI n.val = 40 then (1) else (if nI n.val = 46 then (1) else (if nI n.val = 49 then (1) else (0)))))))))) : Int32) else 0) := by decide +kernel
    have e3 : ∀ (n : Fin 64) (d : Fin 32), fX3_is (TT n.val d.val) 4 = (if bI (NN n.val d.val) = 0 then bI (decide (n.val = 28) || decide (n.val = 29) || decide (n.val = 54)) else 0) := by decide +kernel
    rw [e1 n d, e2 n d, e3 n d]
    unfold RA
    exact ⟨fun q => Or.inr q, fun q => q.elim (fun a => absurd a h0) id⟩

/-! ===== pure: kinds of instructions: TRAITS against the reference's tests, by the number of the operation ===== -/
theorem op_of (w : Int32) : ∃ n : Fin 64, jushr w 26 = nI n.val := by
  obtain ⟨k, hk, e⟩ := vp_in_of (vp_u26 w) (by decide)
  exact ⟨⟨k, hk⟩, e⟩
abbrev bI (c : Bool) : Int32 := if c then 1 else 0
theorem m_branch {w : Int32} (n : Fin 64) (e : fX11_op w = nI n.val) : fX11_isBranch w = bI (decide (20 ≤ n.val) && decide (n.val ≤ 25)) := by
  unfold fX11_isBranch
  dsimp only
  rw [e]
  clear e
  revert n
  decide +kernel
theorem m_memory {w : Int32} (n : Fin 64) (e : fX11_op w = nI n.val) : fX11_isMemory w = bI ((decide (26 ≤ n.val) && decide (n.val ≤ 29)) || (decide (51 ≤ n.val) && decide (n.val ≤ 54))) := by
  unfold fX11_isMemory
  dsimp only
  rw [e]
  clear e
  revert n
  decide +kernel
theorem m_store {w : Int32} (n : Fin 64) (e : fX11_op w = nI n.val) : fX11_isStore w = bI (decide (n.val = 28) || decide (n.val = 29) || decide (n.val = 54)) := by
  unfold fX11_isStore
  dsimp only
  rw [e]
  clear e
  revert n
  decide +kernel
theorem m_divide {w : Int32} (n : Fin 64) (e : fX11_op w = nI n.val) : fX11_isDivide w = bI (decide (n.val = 9) || decide (n.val = 37)) := by
  unfold fX11_isDivide
  dsimp only
  rw [e]
  clear e
  revert n
  decide +kernel
theorem m_sum {w : Int32} (n : Fin 64) (e : fX11_op w = nI n.val) : fX11_isSum w = bI (decide (38 ≤ n.val) && decide (n.val ≤ 40)) := by
  unfold fX11_isSum
  dsimp only
  rw [e]
  clear e
  revert n
  decide +kernel
theorem m_multiply {w : Int32} (n : Fin 64) (e : fX11_op w = nI n.val) : fX11_isMultiply w = bI (decide (n.val = 8) || decide (n.val = 36) || decide (n.val = 57) || (decide (38 ≤ n.val) && decide (n.val ≤ 40))) := by
  unfold fX11_isMultiply
  dsimp only
  rw [m_sum n e, e]
  clear e
  revert n
  decide +kernel

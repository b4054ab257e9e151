/-! ===== pure: what happens: the times ===== -/
def hJ1 (fault : Int32) : Int32 := if fault = 0 then (1) else (0)
def hJ2 (fault w : Int32) : Int32 := if hJ1 fault = 0 then (0) else (if fX11_isNone w = 0 then (1) else (0))
def hD (w : Int32) : Int32 := if fX11_isMemory w = 0 then (if fX11_isMultiply w = 0 then (if fX11_isDivide w = 0 then (1) else (18)) else (3)) else (2)
def hRdy (x fault w I fr cr sm : Int32) (mrd : Nat → Int32) : Int32 × Int32 × Int32 × (Nat → Int32) := if x = 0 then (if hJ2 fault w = 0 then ((fr, cr, sm, mrd)) else (if fX11_writesFlag w = 0 then fr else I + 1, if fX11_writesCarry w = 0 then cr else I + hD w, if fX11_isSum w = 0 then sm else I + 3, if fX11_writes w ≤ 0 then mrd else upd mrd (fX11_writes w).toNatClampNeg (I + hD w))) else (fr, cr, sm, mrd)
def hDiv (fault w I dv : Int32) : Int32 := if hJ2 fault w = 0 then (dv) else (if fX11_isDivide w = 0 then (dv) else (I))
def hSing (fault w : Int32) : Int32 := if hJ1 fault = 0 then (0) else (if fX11_isSingle w = 0 then (0) else (1))
def hMis (x slot fsn exp' went : Int32) : Int32 := if x = 0 then (if slot = 0 then (0) else (if fsn = 0 then (1) else (if exp' = went then (0) else (1)))) else (0)
def hApart (slot fsn exp' : Int32) : Int32 := if slot = 0 then (0) else (if fsn = 0 then (0) else (if exp' = 0 then (0) else (1)))
def hRed (x fault w slot fsn exp' went : Int32) : Int32 := if 0 < x then (1) else (if hSing fault w = 0 then (if hMis x slot fsn exp' went = 0 then (0) else (1)) else (1))
def hBeh (x fault w slot fsn exp' went due events I : Int32) (mis : Nat → Int32) : Int32 := if 0 < x then (due) else (if hSing fault w = 0 then (if hMis x slot fsn exp' went = 0 then (0) else (if events ≤ 0 then (0) else (fX11_issue events (upd mis (events &&& 7).toNatClampNeg I) 1 + 1))) else (due))
def hPrev (events : Int32) (mdu : Nat → Int32) : Int32 := if events ≤ 0 then (0) else fX11_dueOf events mdu 1
def hRec (events due x reg mval flag store mst slot F I pc : Int32) (mf : Nat → Int32) : Nat → Int32 := upd (upd (upd (upd (upd (upd (upd (upd (upd (upd (upd mf (11 * (jrem events 256)).toNatClampNeg due) ((11 * (jrem events 256)) + 1).toNatClampNeg x) ((11 * (jrem events 256)) + 2).toNatClampNeg (if x = 0 then (if reg ≤ 0 then ((-1)) else (reg)) else ((-1)))) ((11 * (jrem events 256)) + 3).toNatClampNeg (if x = 0 then (if flag < 0 then (0) else (1)) else (0))) ((11 * (jrem events 256)) + 4).toNatClampNeg (if x = 0 then (store) else ((-1)))) ((11 * (jrem events 256)) + 5).toNatClampNeg (if slot = 0 then (0) else (1))) ((11 * (jrem events 256)) + 6).toNatClampNeg F) ((11 * (jrem events 256)) + 7).toNatClampNeg I) ((11 * (jrem events 256)) + 8).toNatClampNeg pc) ((11 * (jrem events 256)) + 9).toNatClampNeg (if x = 0 then (if reg ≤ 0 then (0) else (mval)) else (0))) ((11 * (jrem events 256)) + 10).toNatClampNeg (if x = 0 then (if store < 0 then (0) else (mst)) else (0))
theorem hap_eq (sets : Int32) (sum : Int64) (pc slot mbr mtg ret lines events exn dbl lng w fault F I due starts x meea reg mval flag carry ovf sums : Int32) (newSum : Int64) (store bytes mst next goal returns fr cr sm dv fsn exp' went : Int32) (mm mr ms mw mlc mlv mf mis mdu mrd : Nat → Int32) (Y : Int64 × Int32 × Int32 × Int32 × Int32 × Int32 × Int32 × Int32 × (Nat → Int32) × (Nat → Int32) × (Nat → Int32) × (Nat → Int32)) (hY : Y = fX11_retire sets sum pc slot mbr mtg ret lines w reg mval flag carry ovf sums newSum store bytes mst next goal returns fsn exp' mm mr ms mw mlc mlv) (X : Int32 × Int32 × Int32 × Int32 × (Nat → Int32)) (hX : X = fX11_except pc slot mbr x meea mval ms) :
    fX11_happen sets sum pc slot mbr mtg ret lines events exn dbl lng w fault F I due starts x meea reg mval flag carry ovf sums newSum store bytes mst next goal returns fr cr sm dv fsn exp' went mm mr ms mw mlc mlv mf mis mdu mrd =
    if x ≤ 0 then (Y.1, Y.2.1, Y.2.2.1, Y.2.2.2.1, Y.2.2.2.2.1, Y.2.2.2.2.2.1, events + 1, exn, dbl + (if events ≤ 0 then (0) else (if due = hPrev events mdu then (1) else (0))), (if (due - hPrev events mdu) ≤ lng then lng else (due - hPrev events mdu)), w, hJ1 fault, pc, F, starts, hApart slot fsn exp', hRed x fault w slot fsn exp' went, hBeh x fault w slot fsn exp' went due events I mis, (hRdy x fault w I fr cr sm mrd).1, (hRdy x fault w I fr cr sm mrd).2.1, (hRdy x fault w I fr cr sm mrd).2.2.1, hDiv fault w I dv, Y.2.2.2.2.2.2.1, Y.2.2.2.2.2.2.2.1, Y.2.2.2.2.2.2.2.2.1, Y.2.2.2.2.2.2.2.2.2.1, Y.2.2.2.2.2.2.2.2.2.2.1, Y.2.2.2.2.2.2.2.2.2.2.2, hRec events due x reg mval flag store mst slot F I pc mf, upd mis (events &&& 7).toNatClampNeg I, upd mdu (events &&& 7).toNatClampNeg due, (hRdy x fault w I fr cr sm mrd).2.2.2)
    else (sum, X.1, X.2.1, X.2.2.1, X.2.2.2.1, ret, events + 1, exn + 1, dbl + (if events ≤ 0 then (0) else (if due = hPrev events mdu then (1) else (0))), (if (due - hPrev events mdu) ≤ lng then lng else (due - hPrev events mdu)), w, hJ1 fault, pc, F, starts, hApart slot fsn exp', hRed x fault w slot fsn exp' went, hBeh x fault w slot fsn exp' went due events I mis, (hRdy x fault w I fr cr sm mrd).1, (hRdy x fault w I fr cr sm mrd).2.1, (hRdy x fault w I fr cr sm mrd).2.2.1, hDiv fault w I dv, fsn, exp', mm, mr, X.2.2.2.2, mw, hRec events due x reg mval flag store mst slot F I pc mf, upd mis (events &&& 7).toNatClampNeg I, upd mdu (events &&& 7).toNatClampNeg due, (hRdy x fault w I fr cr sm mrd).2.2.2) := by
  subst hY; subst hX
  unfold fX11_happen
  rfl
theorem upd_at (f : Nat → Int32) (k : Nat) (x : Int32) (j : Nat) : upd f k x j = if j = k then x else f j := rfl
theorem note_lo (T d I : Int32) (rdy : Nat → Int32) (k : Fin 32) (hk : fX3_writtenRegister T d = nI k.val) (r : Nat) (hr : r < 32) : fX7_noteWrites T d I rdy r = if ¬ k.val = 0 ∧ r = k.val then I + fX7_delayOf T else rdy r := by
  unfold fX7_noteWrites
  dsimp only
  rw [hk]
  have hk0 : nI k.val = 0 ↔ k.val = 0 := nI_eq (b := 0) (by omega) (by omega)
  generalize fX3_is T 128 = A
  generalize fX3_is T 256 = B
  generalize fX3_is T 32768 = C
  generalize fX3_is T 4096 = D
  generalize fX7_delayOf T = E
  rw [nI_clamp (by omega)]
  have n32 : ¬ r = 32 := by omega
  have n33 : ¬ r = 33 := by omega
  have n34 : ¬ r = 34 := by omega
  have n35 : ¬ r = 35 := by omega
  have base : (if nI k.val = 0 then rdy else upd rdy k.val (I + E)) r = if ¬ k.val = 0 ∧ r = k.val then I + E else rdy r := by
    by_cases h : k.val = 0
    · rw [if_pos (hk0.mpr h), if_neg (fun q => q.1 h)]
    · rw [if_neg (fun q => h (hk0.mp q)), upd_at]
      by_cases h2 : r = k.val
      · rw [if_pos h2, if_pos ⟨h, h2⟩]
      · rw [if_neg h2, if_neg (fun q => h2 q.2)]
  rw [← base]
  by_cases hA : A = 0 <;> by_cases hB : B = 0 <;> by_cases hC : C = 0 <;> by_cases hD : D = 0 <;> simp only [hA, hB, hC, hD, if_true, if_false, upd_at, n32, n33, n34, n35]
theorem note_hi (T d I : Int32) (rdy : Nat → Int32) (k : Fin 32) (hk : fX3_writtenRegister T d = nI k.val) : fX7_noteWrites T d I rdy 32 = (if fX3_is T 128 = 0 then rdy 32 else I + fX7_delayOf T) ∧ fX7_noteWrites T d I rdy 33 = (if fX3_is T 256 = 0 then rdy 33 else I + fX7_delayOf T) ∧ fX7_noteWrites T d I rdy 34 = (if fX3_is T 32768 = 0 then rdy 34 else I + fX7_delayOf T) ∧ fX7_noteWrites T d I rdy 35 = (if fX3_is T 4096 = 0 then rdy 35 else I + fX7_delayOf T) := by
  unfold fX7_noteWrites
  dsimp only
  rw [hk]
  generalize fX3_is T 128 = A
  generalize fX3_is T 256 = B
  generalize fX3_is T 32768 = C
  generalize fX3_is T 4096 = D
  generalize fX7_delayOf T = E
  rw [nI_clamp (by omega)]
  have base : ∀ r, 32 ≤ r → (if nI k.val = 0 then rdy else upd rdy k.val (I + E)) r = rdy r := by
    intro r hr
    split
    · rfl
    · rw [upd_at, if_neg (by omega)]
  have b32 := base 32 (by omega)
  have b33 := base 33 (by omega)
  have b34 := base 34 (by omega)
  have b35 := base 35 (by omega)
  generalize (if nI k.val = 0 then rdy else upd rdy k.val (I + E)) = R at b32 b33 b34 b35 ⊢
  rw [← b32, ← b33, ← b34, ← b35]
  by_cases hA : A = 0 <;> by_cases hB : B = 0 <;> by_cases hC : C = 0 <;> by_cases hD : D = 0 <;> simp [hA, hB, hC, hD, upd_at]
abbrev dly (n : Nat) : Int32 := if isM n then 2 else (if (decide (n = 8) || decide (n = 36) || decide (n = 57) || (decide (38 ≤ n) && decide (n ≤ 40))) then 3 else (if (decide (n = 9) || decide (n = 37)) then 18 else 1))
theorem dly_eq {w : Int32} (n : Fin 64) (en : fX11_op w = nI n.val) : hD w = dly n.val := by
  unfold hD
  rw [m_memory n en, m_multiply n en, m_divide n en]
  clear en
  revert n
  decide +kernel
theorem dly_bits : ∀ (n : Fin 64) (e : Fin 32), (¬ fX3_writtenRegister (TT n.val e.val) (nI e.val) = 0 → fX7_delayOf (TT n.val e.val) = dly n.val) ∧ (¬ fX3_is (TT n.val e.val) 128 = 0 → fX7_delayOf (TT n.val e.val) = 1) ∧ (¬ fX3_is (TT n.val e.val) 256 = 0 → fX7_delayOf (TT n.val e.val) = dly n.val) ∧ (¬ fX3_is (TT n.val e.val) 32768 = 0 → fX7_delayOf (TT n.val e.val) = 3) ∧ (¬ fX3_is (TT n.val e.val) 4096 = 0 → fX7_delayOf (TT n.val e.val) = 18) := by decide +kernel
theorem none_bits : ∀ (n : Fin 64) (e : Fin 32), NN n.val e.val = true → fX3_writtenRegister (TT n.val e.val) (nI e.val) = 0 ∧ fX3_is (TT n.val e.val) 128 = 0 ∧ fX3_is (TT n.val e.val) 256 = 0 ∧ fX3_is (TT n.val e.val) 32768 = 0 ∧ fX3_is (TT n.val e.val) 4096 = 0 := by decide +kernel
theorem dly_le (T : Int32) : 1 ≤ (fX7_delayOf T).toInt ∧ (fX7_delayOf T).toInt ≤ 18 := by
  unfold fX7_delayOf
  dsimp only
  split
  · split
    · split
      · decide
      · decide
    · decide
  · decide
/-- the times at which values are there, after an instruction -/
theorem e_ready {T d a b fault w I exc x fr cr sm : Int32} {rdy mrd : Nat → Int32} (hI : InsOk T d a b fault w) (hx : exc = x) (bI' : bd 60000 I) (g1 : ∀ r, 1 ≤ r → r < 32 → rdy r = mrd r) (g0 : rdy 0 = 0) (g32 : rdy 32 = fr) (g33 : rdy 33 = cr) (g34 : rdy 34 = sm) (hb : ∀ j, j < 36 → bd 60018 (rdy j)) (hfe : ¬ fault = 0 → ¬ exc = 0) (R : Nat → Int32) (hR : R = if exc = 0 then fX7_noteWrites T d I rdy else rdy) (M : Int32 × Int32 × Int32 × (Nat → Int32)) (hM : M = hRdy x fault w I fr cr sm mrd) :
    (∀ r, 1 ≤ r → r < 32 → R r = M.2.2.2 r) ∧ R 0 = 0 ∧ R 32 = M.1 ∧ R 33 = M.2.1 ∧ R 34 = M.2.2.1 ∧ (∀ j, j < 36 → bd 60018 (R j)) ∧
    (R 35 = if exc = 0 ∧ ¬ fX3_is T 4096 = 0 then I + 18 else rdy 35) ∧
    (exc = 0 → (¬ fX11_writes w = 0 → I.toInt + 1 ≤ (M.2.2.2 (fX11_writes w).toNatClampNeg).toInt) ∧ (¬ fX11_writesFlag w = 0 → I.toInt + 1 ≤ M.1.toInt) ∧ (¬ fX11_writesCarry w = 0 → I.toInt + 1 ≤ M.2.1.toInt) ∧ (¬ fX11_isSum w = 0 → I.toInt + 1 ≤ M.2.2.1.toInt)) := by
  subst hx
  by_cases he : exc = 0
  · have hf0 : fault = 0 := Classical.not_not.mp (fun q => hfe q he)
    rcases hI with ⟨hf, n, e, en, ee, eT, ed, ea, eb⟩ | ⟨hf, hf', eT⟩
    · obtain ⟨k, hk⟩ := wr_lt n e en ee
      have tw := t_writes n e en ee
      have hk' : fX3_writtenRegister T d = nI k.val := by rw [eT, ed, tw, hk]
      have nlo := note_lo T d I rdy k hk'
      obtain ⟨n32, n33, n34, n35⟩ := note_hi T d I rdy k hk'
      rw [if_pos he] at hR
      have hdl := dly_le T
      have hID : (I + fX7_delayOf T).toInt = I.toInt + (fX7_delayOf T).toInt := add_i (by omega) (by omega)
      have hk0 : nI k.val = 0 ↔ k.val = 0 := nI_eq (b := 0) (by omega) (by omega)
      have hkle : nI k.val ≤ 0 ↔ k.val = 0 := by
        have a1 : nI k.val ≤ 0 ↔ k.val ≤ 0 := nI_leI (b := 0) (by omega) (by omega)
        rw [a1]; omega
      obtain ⟨d1, d2, d3, d4, d5⟩ := dly_bits n e
      rw [← ee, tw, hk] at d1
      have c128 := t_wflag n e en ee
      have c256 := t_wcarry n e en
      have cS := t_sum n e en
      rw [← eT] at d1 d2 d3 d4 d5 c128 c256 cS
      have hdw := dly_eq n en
      -- what the reference notes
      have hM' : M = (if fX11_writesFlag w = 0 then fr else I + 1, if fX11_writesCarry w = 0 then cr else I + hD w, if fX11_isSum w = 0 then sm else I + 3, if fX11_writes w ≤ 0 then mrd else upd mrd (fX11_writes w).toNatClampNeg (I + hD w)) := by
        rw [hM]
        unfold hRdy
        rw [if_pos he]
        by_cases hj : hJ2 fault w = 0
        · rw [if_pos hj]
          have hnn : NN n.val e.val = true := by
            unfold hJ2 hJ1 at hj
            rw [if_pos hf, if_neg (by decide), m_none n e en ee] at hj
            cases hq : NN n.val e.val
            · rw [hq] at hj; exact absurd hj (by decide)
            · rfl
          obtain ⟨q1, q2, q3, q4, q5⟩ := none_bits n e hnn
          rw [← ee, tw] at q1
          rw [← eT] at q2 q3 q4
          rw [c128] at q2; rw [c256] at q3; rw [cS] at q4
          rw [if_pos q2, if_pos q3, if_pos q4, if_pos (by rw [q1]; decide)]
        · rw [if_neg hj]
      rw [hk, nI_clamp (by omega), hdw] at hM'
      subst hR; subst hM'
      rw [← c128, ← c256, ← cS]
      refine ⟨fun r h1 h2 => ?_, ?_, ?_, ?_, ?_, fun j hj => ?_, ?_, fun _ => ⟨?_, ?_, ?_, ?_⟩⟩
      · rw [nlo r h2]
        dsimp only
        by_cases q : k.val = 0
        · rw [if_pos (hkle.mpr q), if_neg (fun y => y.1 q)]; exact g1 r h1 h2
        · rw [if_neg (fun y => q (hkle.mp y)), upd_at]
          by_cases q2 : r = k.val
          · rw [if_pos ⟨q, q2⟩, if_pos q2, d1 (fun y => q (hk0.mp y))]
          · rw [if_neg (fun y => q2 y.2), if_neg q2]; exact g1 r h1 h2
      · rw [nlo 0 (by omega), if_neg (fun y => y.1 y.2.symm)]; exact g0
      · rw [n32]
        by_cases q : fX3_is T 128 = 0
        · rw [if_pos q]; dsimp only; rw [if_pos q]; exact g32
        · rw [if_neg q]; dsimp only; rw [if_neg q, d2 q]
      · rw [n33]
        by_cases q : fX3_is T 256 = 0
        · rw [if_pos q]; dsimp only; rw [if_pos q]; exact g33
        · rw [if_neg q]; dsimp only; rw [if_neg q, d3 q]
      · rw [n34]
        by_cases q : fX3_is T 32768 = 0
        · rw [if_pos q]; dsimp only; rw [if_pos q]; exact g34
        · rw [if_neg q]; dsimp only; rw [if_neg q, d4 q]
      · have hv : bd 60018 (I + fX7_delayOf T) := ⟨by omega, by omega⟩
        rcases (show j < 32 ∨ j = 32 ∨ j = 33 ∨ j = 34 ∨ j = 35 by omega) with q | rfl | rfl | rfl | rfl
        · rw [nlo j q]; split
          · exact hv
          · exact hb j hj
        · rw [n32]; split
          · exact hb 32 (by omega)
          · exact hv
        · rw [n33]; split
          · exact hb 33 (by omega)
          · exact hv
        · rw [n34]; split
          · exact hb 34 (by omega)
          · exact hv
        · rw [n35]; split
          · exact hb 35 (by omega)
          · exact hv
      · rw [n35]
        by_cases q : fX3_is T 4096 = 0
        · rw [if_pos q, if_neg (fun y => y.2 q)]
        · rw [if_neg q, if_pos ⟨he, q⟩, d5 q]
      · intro q
        rw [hk] at q ⊢
        rw [nI_clamp (by omega)]
        dsimp only
        rw [if_neg (fun y => q (by rw [hkle] at y; exact hk0.mpr y)), upd_at, if_pos rfl, ← d1 q]
        omega
      · intro q
        dsimp only
        rw [if_neg q, ← d2 q]; omega
      · intro q
        dsimp only
        rw [if_neg q, ← d3 q]; omega
      · intro q
        dsimp only
        rw [if_neg q, ← d4 q]; omega
    · exact absurd hf0 hf
  · rw [if_neg he] at hR
    have hM' : M = (fr, cr, sm, mrd) := by rw [hM]; unfold hRdy; rw [if_neg he]
    subst hR; subst hM'
    refine ⟨g1, g0, g32, g33, g34, hb, ?_, fun q => absurd q he⟩
    rw [if_neg (fun q => he q.1)]
theorem sing_0 {T d a b fault w : Int32} (hI : InsOk T d a b fault w) : hSing fault w = 0 ↔ fX3_is T 16384 = 0 := by
  unfold hSing hJ1
  rcases hI with ⟨hf, n, e, en, ee, eT, ed, ea, eb⟩ | ⟨hf, hf', eT⟩
  · rw [if_pos hf, if_neg (by decide), eT, t_single n e en ee]
    by_cases h : fX11_isSingle w = 0
    · rw [if_pos h]; exact ⟨fun _ => h, fun _ => rfl⟩
    · rw [if_neg h]; exact ⟨fun q => absurd q (by decide), fun q => absurd q h⟩
  · rw [if_neg hf, if_pos rfl, eT, is0]
theorem div_0 {T d a b fault w I dv : Int32} (hI : InsOk T d a b fault w) : hDiv fault w I dv = if fX3_is T 4096 = 0 then dv else I := by
  unfold hDiv hJ2 hJ1
  rcases hI with ⟨hf, n, e, en, ee, eT, ed, ea, eb⟩ | ⟨hf, hf', eT⟩
  · have hb := none_bits n e
    rw [if_pos hf, if_neg (show ¬ (1 : Int32) = 0 by decide), eT, t_divide n e en, m_none n e en ee]
    have td := t_divide n e en
    cases hq : NN n.val e.val
    · rw [if_pos (show bI false = 0 from rfl), if_neg (by decide)]
    · have := (hb hq).2.2.2.2
      rw [td] at this
      rw [if_neg (show ¬ bI true = 0 by decide), if_pos rfl, if_pos this]
  · rw [if_neg hf, if_pos rfl, if_pos rfl, eT, is0, if_pos rfl]
theorem e_way {T op d a b j fault w goes E I slot fsg rdr exc x fsn exp' went events : Int32} {iss mis : Nat → Int32} {ev : Nat} (hI : InsOk T d a b fault w) (hx : exc = x) (hxn : ∃ n : Nat, n ≤ 14 ∧ exc = nI n) (he : events = nI ev) (hev : ev ≤ 120000) (hiss : ∀ j, j < 8 → iss j = if j < ev then mis j else 0) (bi : ∀ j, j < 8 → bd 60000 (iss j)) (bE : bd 60000 E) (hsl : ¬ slot = 0 → 0 < ev ∧ fsg = (if fsn = 0 then 0 else (if exp' = 0 then 0 else 1)) ∧ rdr = (if fsn = 0 then 1 else (if exp' = went then 0 else 1))) (W : Int32 × Int32 × Int32 × Int32) (hW : W = fX7_noteWayOn slot T op j exc goes E (nI ev) fsg rdr (upd iss (nI ev &&& 7).toNatClampNeg I)) :
    (¬ W.1 = 0 ↔ (¬ hRed x fault w slot fsn exp' went = 0 ∨ ¬ hApart slot fsn exp' = 0)) ∧ (hRed x fault w slot fsn exp' went = 0 → W.2.1 = 0) ∧ (¬ hRed x fault w slot fsn exp' went = 0 → W.2.1 = hBeh x fault w slot fsn exp' went E events I mis + 1) ∧ bd 60002 W.2.1 ∧ (¬ exc = 0 → ¬ hRed x fault w slot fsn exp' went = 0 ∧ W.2.1.toInt = E.toInt + 1) ∧
    (¬ fX3_is T 8192 = 0 → W.2.2.1 = fX3_isForeseenToGo op j ∧ W.2.2.2 = if fX3_isForeseenToGo op j = goes then 0 else 1) := by
  subst hx
  have hsg := sing_0 hI
  have hpos : 0 < exc ↔ ¬ exc = 0 := by
    obtain ⟨k, hk, ek⟩ := hxn
    rw [ek]
    have a1 : 0 < nI k ↔ 0 < k := by rw [show (0 : Int32) = nI 0 from rfl, nI_ltI (by omega) (by omega)]
    have a2 : nI k = 0 ↔ k = 0 := nI_eq (b := 0) (by omega) (by omega)
    rw [a1, a2]; omega
  have k10 : ¬ (1 : Int32) = 0 := by decide
  have hE1 : (E + 1).toInt = E.toInt + 1 := by rw [add_i (by omega) (by decide), t1']
  have hW4 : ∃ w3 w4 : Int32, (¬ fX3_is T 8192 = 0 → w3 = fX3_isForeseenToGo op j ∧ w4 = if fX3_isForeseenToGo op j = goes then 0 else 1) ∧ W = ((if fX3_is T 16384 = 0 ∧ exc = 0 then (if slot = 0 then (0) else (if fsg = 0 then (if rdr = 0 then (0) else (1)) else (1))) else 1), (if fX3_is T 16384 = 0 ∧ exc = 0 then (if slot = 0 then (0) else (if rdr = 0 then (0) else ((upd iss (nI ev &&& 7).toNatClampNeg I) ((nI ev - 1) &&& 7).toNatClampNeg + 2))) else E + 1), w3, w4) := by
    rw [hW]
    unfold fX7_noteWayOn fX2_retires fX7_issueOf
    dsimp only
    by_cases hs : fX3_is T 16384 = 0
    · by_cases hx0 : exc = 0
      · simp only [hs, hx0, if_true, k10, if_false, and_self]
        by_cases h8 : fX3_is T 8192 = 0
        · simp only [h8, if_true]
          exact ⟨fsg, rdr, fun q => absurd trivial q, rfl⟩
        · simp only [h8, if_false]
          by_cases hg : fX3_isForeseenToGo op j = goes
          · simp only [hg, if_true]; exact ⟨_, _, fun _ => ⟨rfl, rfl⟩, rfl⟩
          · simp only [hg, if_false]; exact ⟨_, _, fun _ => ⟨rfl, rfl⟩, rfl⟩
      · simp only [hs, hx0, if_true, if_false, and_false]
        by_cases h8 : fX3_is T 8192 = 0
        · simp only [h8, if_true]
          exact ⟨fsg, rdr, fun q => absurd trivial q, rfl⟩
        · simp only [h8, if_false]
          by_cases hg : fX3_isForeseenToGo op j = goes
          · simp only [hg, if_true]; exact ⟨_, _, fun _ => ⟨rfl, rfl⟩, rfl⟩
          · simp only [hg, if_false]; exact ⟨_, _, fun _ => ⟨rfl, rfl⟩, rfl⟩
    · simp only [hs, if_false, false_and]
      by_cases h8 : fX3_is T 8192 = 0
      · simp only [h8, if_true]
        exact ⟨fsg, rdr, fun q => absurd trivial q, rfl⟩
      · simp only [h8, if_false]
        by_cases hg : fX3_isForeseenToGo op j = goes
        · simp only [hg, if_true]; exact ⟨_, _, fun _ => ⟨rfl, rfl⟩, rfl⟩
        · simp only [hg, if_false]; exact ⟨_, _, fun _ => ⟨rfl, rfl⟩, rfl⟩
  obtain ⟨w3, w4, h34, hW'⟩ := hW4
  rw [hW']
  clear hW hW'
  dsimp only
  by_cases hcx : fX3_is T 16384 = 0 ∧ exc = 0
  · have hnp : ¬ 0 < exc := fun q => hpos.mp q hcx.2
    have hs0 : hSing fault w = 0 := hsg.mpr hcx.1
    have hred : hRed exc fault w slot fsn exp' went = (if hMis exc slot fsn exp' went = 0 then 0 else 1) := by
      unfold hRed; rw [if_neg hnp, if_pos hs0]
    have hbeh : hBeh exc fault w slot fsn exp' went E events I mis = (if hMis exc slot fsn exp' went = 0 then (0) else (if events ≤ 0 then (0) else (fX11_issue events (upd mis (events &&& 7).toNatClampNeg I) 1 + 1))) := by
      unfold hBeh; rw [if_neg hnp, if_pos hs0]
    rw [if_pos hcx, if_pos hcx, hred, hbeh]
    unfold hMis hApart
    rw [if_pos hcx.2]
    by_cases hsl0 : slot = 0
    · simp only [hsl0, if_true]
      refine ⟨by simp, fun _ => trivial, fun q => absurd trivial q, ⟨by decide, by decide⟩, fun q => absurd hcx.2 q, h34⟩
    · obtain ⟨hp, e1, e2⟩ := hsl hsl0
      have hi1 : (upd iss (nI ev &&& 7).toNatClampNeg I) ((nI ev - 1) &&& 7).toNatClampNeg = mis ((ev - 1) % 8) := by
        rw [show (nI ev - 1) = nI ev - nI 1 from rfl, ix_sub (by omega) hev, ix_0 hev, upd_at, if_neg (by omega), show (ev + 8 - 1) % 8 = (ev - 1) % 8 by omega, hiss _ (by omega), if_pos (by omega)]
      have hm1 : fX11_issue events (upd mis (events &&& 7).toNatClampNeg I) 1 = mis ((ev - 1) % 8) := by
        unfold fX11_issue
        rw [he, show (nI ev - 1) = nI ev - nI 1 from rfl, ix_sub (by omega) hev, ix_0 hev, upd_at, if_neg (by omega), show (ev + 8 - 1) % 8 = (ev - 1) % 8 by omega]
      have hee : ¬ events ≤ 0 := by
        rw [he]
        have a1 : nI ev ≤ 0 ↔ ev ≤ 0 := nI_leI (b := 0) (by omega) (by omega)
        rw [a1]; omega
      have hbm : bd 60000 (mis ((ev - 1) % 8)) := by
        have := bi ((ev - 1) % 8) (by omega)
        rw [hiss _ (by omega), if_pos (by omega)] at this
        exact this
      have h2' : mis ((ev - 1) % 8) + 2 = mis ((ev - 1) % 8) + 1 + 1 := by rw [Int32.add_assoc]; rfl
      have hb2 : (mis ((ev - 1) % 8) + 2).toInt = (mis ((ev - 1) % 8)).toInt + 2 := by rw [add_i (by omega) (by decide), t2']
      rw [hi1, hm1, e1, e2]
      have hbd : bd 60002 (mis ((ev - 1) % 8) + 2) := ⟨by omega, by omega⟩
      have hb0 : bd 60002 0 := ⟨by decide, by decide⟩
      rcases (Classical.em (fsn = 0)).imp eq_true eq_false with f0 | f0 <;> rcases (Classical.em (exp' = 0)).imp eq_true eq_false with g0 | g0 <;> rcases (Classical.em (exp' = went)).imp eq_true eq_false with g1 | g1 <;> simp only [hsl0, f0, g0, g1, hee, if_true, if_false, k10, not_true_eq_false, not_false_eq_true, true_or, or_true, or_false, false_or, iff_self, true_implies, false_implies, and_true, true_and, h2'] <;> first | exact ⟨h2' ▸ hbd, fun q => absurd hcx.2 q, h34⟩ | exact ⟨hb0, fun q => absurd hcx.2 q, h34⟩
  · have hr1 : hRed exc fault w slot fsn exp' went = 1 := by
      unfold hRed
      by_cases hq : 0 < exc
      · rw [if_pos hq]
      · rw [if_neg hq, if_neg (fun y => hcx ⟨hsg.mp y, Classical.not_not.mp (fun z => hq (hpos.mpr z))⟩)]
    have hb1 : hBeh exc fault w slot fsn exp' went E events I mis = E := by
      unfold hBeh
      by_cases hq : 0 < exc
      · rw [if_pos hq]
      · rw [if_neg hq, if_neg (fun y => hcx ⟨hsg.mp y, Classical.not_not.mp (fun z => hq (hpos.mpr z))⟩)]
    rw [if_neg hcx, if_neg hcx, hr1, hb1]
    exact ⟨⟨fun _ => Or.inl k10, fun _ => k10⟩, fun q => absurd q k10, fun _ => rfl, ⟨by omega, by omega⟩, fun _ => ⟨k10, hE1⟩, h34⟩

/-! ===== pure: what happens: the record ===== -/
theorem ix_cls {ev k : Nat} (he : ev ≤ 120000) (hk : k ≤ 11) : ((nI ev &&& 255) * 11 + nI k).toNatClampNeg = 11 * (ev % 256) + k := by
  rw [show nI ev &&& 255 = nI (ev % 256) from pk_andN (by omega) 8 (by decide), show nI (ev % 256) * 11 = nI (ev % 256 * 11) from pk_mul _ 11, nI_add, nI_clamp (by omega)]
  omega
theorem ix_cls0 {ev : Nat} (he : ev ≤ 120000) : ((nI ev &&& 255) * 11).toNatClampNeg = 11 * (ev % 256) := by
  rw [show nI ev &&& 255 = nI (ev % 256) from pk_andN (by omega) 8 (by decide), show nI (ev % 256) * 11 = nI (ev % 256 * 11) from pk_mul _ 11, nI_clamp (by omega)]
  omega
theorem ix_mod {ev k : Nat} (he : ev ≤ 120000) (hk : k ≤ 11) : (11 * (jrem (nI ev) 256) + nI k).toNatClampNeg = 11 * (ev % 256) + k := by
  rw [show jrem (nI ev) 256 = nI (ev % 256) from pk_rem (d := 256) (by omega) (by omega) (by omega), show 11 * nI (ev % 256) = nI (11 * (ev % 256)) from pk_mul 11 _, nI_add, nI_clamp (by omega)]
theorem ix_mod0 {ev : Nat} (he : ev ≤ 120000) : (11 * (jrem (nI ev) 256)).toNatClampNeg = 11 * (ev % 256) := by
  rw [show jrem (nI ev) 256 = nI (ev % 256) from pk_rem (d := 256) (by omega) (by omega) (by omega), show 11 * nI (ev % 256) = nI (11 * (ev % 256)) from pk_mul 11 _, nI_clamp (by omega)]
theorem rec_eq {f g : Nat → Int32} (B : Nat) (h : ∀ j, j < 2816 → f j = g j) (v0 v1 v2 v3 v4 v5 v6 v7 v8 v9 v10 : Int32) : ∀ j, j < 2816 → (upd (upd (upd (upd (upd (upd (upd (upd (upd (upd (upd f B v0) (B + 1) v1) (B + 5) v5) (B + 6) v6) (B + 7) v7) (B + 8) v8) (B + 2) v2) (B + 3) v3) (B + 4) v4) (B + 9) v9) (B + 10) v10) j = (upd (upd (upd (upd (upd (upd (upd (upd (upd (upd (upd g B v0) (B + 1) v1) (B + 2) v2) (B + 3) v3) (B + 4) v4) (B + 5) v5) (B + 6) v6) (B + 7) v7) (B + 8) v8) (B + 9) v9) (B + 10) v10) j := by
  intro j hj
  unfold upd
  have hfg := h j hj
  by_cases h0 : B ≤ j ∧ j ≤ B + 10
  · obtain ⟨k, rfl⟩ := Nat.le.dest h0.1
    have hk : k ≤ 10 := by omega
    rcases (show k = 0 ∨ k = 1 ∨ k = 2 ∨ k = 3 ∨ k = 4 ∨ k = 5 ∨ k = 6 ∨ k = 7 ∨ k = 8 ∨ k = 9 ∨ k = 10 by omega) with rfl | rfl | rfl | rfl | rfl | rfl | rfl | rfl | rfl | rfl | rfl <;> simp
  · simp only [show ¬ j = B by omega, show ¬ j = B + 1 by omega, show ¬ j = B + 2 by omega, show ¬ j = B + 3 by omega, show ¬ j = B + 4 by omega, show ¬ j = B + 5 by omega, show ¬ j = B + 6 by omega, show ¬ j = B + 7 by omega, show ¬ j = B + 8 by omega, show ¬ j = B + 9 by omega, show ¬ j = B + 10 by omega, if_false]
    exact hfg
theorem keep_eq {T d exc val size place stored : Int32} (fi : Nat → Int32) (p : Int32) : fX1_keepWrites T d exc val size place stored fi p = upd (upd (upd (upd (upd fi (p + 2).toNatClampNeg (if exc = 0 then (if fX3_writtenRegister T d = 0 then -1 else fX3_writtenRegister T d) else -1)) (p + 3).toNatClampNeg (if exc = 0 then (if fX3_is T 128 = 0 then 0 else 1) else 0)) (p + 4).toNatClampNeg (if exc = 0 then (if size = 0 then -1 else place) else -1)) ((p + 8) + 1).toNatClampNeg (if exc = 0 then (if fX3_writtenRegister T d = 0 then 0 else val) else 0)) ((p + 8) + 2).toNatClampNeg (if exc = 0 then (if size = 0 then 0 else stored) else 0) := by
  unfold fX1_keepWrites fX2_retires
  dsimp only
  have k10 : ¬ (1 : Int32) = 0 := by decide
  generalize fX3_writtenRegister T d = W
  generalize fX3_is T 128 = G
  by_cases h : exc = 0 <;> by_cases hw : W = 0 <;> by_cases hs : size = 0 <;> by_cases hg : G = 0 <;> simp only [h, hw, hs, hg, k10, if_true, if_false]
/-- a register's number -/
theorem wr_T {T d a b fault w : Int32} (hI : InsOk T d a b fault w) : ∃ k : Fin 32, fX3_writtenRegister T d = nI k.val := by
  rcases hI with ⟨hf, n, e, en, ee, eT, ed, ea, eb⟩ | ⟨hf, hf', eT⟩
  · rw [eT, ed, t_writes n e en ee]; exact wr_lt n e en ee
  · rw [eT]
    refine ⟨0, ?_⟩
    unfold fX3_writtenRegister
    dsimp only
    rw [is0, is0]
    rfl
theorem e_rec {fi mf : Nat → Int32} (hfi : ∀ j, j < 2816 → fi j = mf j) {ev : Nat} (hev : ev ≤ 120000) {pc slot mslot T op d a b fault w F I E : Int32} (hsl : slot = mslot) {sr : Int32} {sum : Int64} {went0 exc has addr val size place stored esr : Int32} {esum : Int64} {goes target x eea reg mval flag carry ovf sums : Int32} {newSum : Int64} {store bytes mst next goal returns went : Int32} (hI : InsOk T d a b fault w) (hV : LV T op d pc sr sum went0 exc has addr val size place stored esr esum goes target x eea reg mval flag carry ovf sums newSum store bytes mst next goal returns went) :
    ∀ j, j < 2816 → fX1_keepWrites T d exc val size place stored (upd (upd (upd (upd (upd (upd fi ((nI ev &&& 255) * 11).toNatClampNeg E) (((nI ev &&& 255) * 11) + 1).toNatClampNeg exc) (((nI ev &&& 255) * 11) + 5).toNatClampNeg (if slot = 0 then 0 else 1)) (((nI ev &&& 255) * 11) + 6).toNatClampNeg F) (((nI ev &&& 255) * 11) + 7).toNatClampNeg I) (((nI ev &&& 255) * 11) + 8).toNatClampNeg pc) ((nI ev &&& 255) * 11) j = (upd (upd (upd (upd (upd (upd (upd (upd (upd (upd (upd mf (11 * (jrem (nI ev) 256)).toNatClampNeg E) ((11 * (jrem (nI ev) 256)) + 1).toNatClampNeg x) ((11 * (jrem (nI ev) 256)) + 2).toNatClampNeg (if x = 0 then (if reg ≤ 0 then ((-1)) else (reg)) else ((-1)))) ((11 * (jrem (nI ev) 256)) + 3).toNatClampNeg (if x = 0 then (if flag < 0 then (0) else (1)) else (0))) ((11 * (jrem (nI ev) 256)) + 4).toNatClampNeg (if x = 0 then store else ((-1)))) ((11 * (jrem (nI ev) 256)) + 5).toNatClampNeg (if mslot = 0 then (0) else (1))) ((11 * (jrem (nI ev) 256)) + 6).toNatClampNeg F) ((11 * (jrem (nI ev) 256)) + 7).toNatClampNeg I) ((11 * (jrem (nI ev) 256)) + 8).toNatClampNeg pc) ((11 * (jrem (nI ev) 256)) + 9).toNatClampNeg (if x = 0 then (if reg ≤ 0 then (0) else (mval)) else (0))) ((11 * (jrem (nI ev) 256)) + 10).toNatClampNeg (if x = 0 then (if store < 0 then (0) else (mst)) else (0))) j := by
  intro j hj
  have c0 := ix_cls0 hev
  have m0 := ix_mod0 hev
  have cc : ∀ k : Nat, k ≤ 11 → ((nI ev &&& 255) * 11 + nI k).toNatClampNeg = 11 * (ev % 256) + k := fun k hk => ix_cls hev hk
  have mc : ∀ k : Nat, k ≤ 11 → (11 * (jrem (nI ev) 256) + nI k).toNatClampNeg = 11 * (ev % 256) + k := fun k hk => ix_mod hev hk
  have c81 : (((nI ev &&& 255) * 11 + 8) + 1).toNatClampNeg = 11 * (ev % 256) + 9 := by rw [Int32.add_assoc]; exact cc 9 (by omega)
  have c82 : (((nI ev &&& 255) * 11 + 8) + 2).toNatClampNeg = 11 * (ev % 256) + 10 := by rw [Int32.add_assoc]; exact cc 10 (by omega)
  have c1 : ((nI ev &&& 255) * 11 + 1).toNatClampNeg = 11 * (ev % 256) + 1 := cc 1 (by omega)
  have c2 : ((nI ev &&& 255) * 11 + 2).toNatClampNeg = 11 * (ev % 256) + 2 := cc 2 (by omega)
  have c3 : ((nI ev &&& 255) * 11 + 3).toNatClampNeg = 11 * (ev % 256) + 3 := cc 3 (by omega)
  have c4 : ((nI ev &&& 255) * 11 + 4).toNatClampNeg = 11 * (ev % 256) + 4 := cc 4 (by omega)
  have c5 : ((nI ev &&& 255) * 11 + 5).toNatClampNeg = 11 * (ev % 256) + 5 := cc 5 (by omega)
  have c6 : ((nI ev &&& 255) * 11 + 6).toNatClampNeg = 11 * (ev % 256) + 6 := cc 6 (by omega)
  have c7 : ((nI ev &&& 255) * 11 + 7).toNatClampNeg = 11 * (ev % 256) + 7 := cc 7 (by omega)
  have c8 : ((nI ev &&& 255) * 11 + 8).toNatClampNeg = 11 * (ev % 256) + 8 := cc 8 (by omega)
  have m1 : (11 * (jrem (nI ev) 256) + 1).toNatClampNeg = 11 * (ev % 256) + 1 := mc 1 (by omega)
  have m2 : (11 * (jrem (nI ev) 256) + 2).toNatClampNeg = 11 * (ev % 256) + 2 := mc 2 (by omega)
  have m3 : (11 * (jrem (nI ev) 256) + 3).toNatClampNeg = 11 * (ev % 256) + 3 := mc 3 (by omega)
  have m4 : (11 * (jrem (nI ev) 256) + 4).toNatClampNeg = 11 * (ev % 256) + 4 := mc 4 (by omega)
  have m5 : (11 * (jrem (nI ev) 256) + 5).toNatClampNeg = 11 * (ev % 256) + 5 := mc 5 (by omega)
  have m6 : (11 * (jrem (nI ev) 256) + 6).toNatClampNeg = 11 * (ev % 256) + 6 := mc 6 (by omega)
  have m7 : (11 * (jrem (nI ev) 256) + 7).toNatClampNeg = 11 * (ev % 256) + 7 := mc 7 (by omega)
  have m8 : (11 * (jrem (nI ev) 256) + 8).toNatClampNeg = 11 * (ev % 256) + 8 := mc 8 (by omega)
  have m9 : (11 * (jrem (nI ev) 256) + 9).toNatClampNeg = 11 * (ev % 256) + 9 := mc 9 (by omega)
  have m10 : (11 * (jrem (nI ev) 256) + 10).toNatClampNeg = 11 * (ev % 256) + 10 := mc 10 (by omega)
  rw [keep_eq, c0, c1, c2, c3, c4, c5, c6, c7, c8, c81, c82, m0, m1, m2, m3, m4, m5, m6, m7, m8, m9, m10]
  obtain ⟨v1, v2, v3, v4, v5⟩ := hV
  subst v1
  have w2 : (if exc = 0 then (if fX3_writtenRegister T d = 0 then (-1 : Int32) else fX3_writtenRegister T d) else -1) = (if exc = 0 then (if reg ≤ 0 then ((-1)) else (reg)) else ((-1))) ∧ (if exc = 0 then (if fX3_is T 128 = 0 then (0 : Int32) else 1) else 0) = (if exc = 0 then (if flag < 0 then (0) else (1)) else (0)) ∧ (if exc = 0 then (if size = 0 then (-1 : Int32) else place) else -1) = (if exc = 0 then store else ((-1))) ∧ (if exc = 0 then (if fX3_writtenRegister T d = 0 then (0 : Int32) else val) else 0) = (if exc = 0 then (if reg ≤ 0 then (0) else (mval)) else (0)) ∧ (if exc = 0 then (if size = 0 then (0 : Int32) else stored) else 0) = (if exc = 0 then (if store < 0 then (0) else (mst)) else (0)) := by
    by_cases h : exc = 0
    · obtain ⟨r1, r2, r3, r4, r5, r6, r7, r8, r9⟩ := v4 h
      obtain ⟨k, hk⟩ := wr_T hI
      have hreg : reg ≤ 0 ↔ fX3_writtenRegister T d = 0 := by
        rw [r1, hk]
        have a1 : nI k.val ≤ 0 ↔ k.val ≤ 0 := nI_leI (b := 0) (by omega) (by omega)
        have a2 : nI k.val = 0 ↔ k.val = 0 := nI_eq (b := 0) (by omega) (by omega)
        rw [a1, a2]; omega
      simp only [h, if_true]
      refine ⟨?_, ?_, ?_, ?_, ?_⟩
      · by_cases q : fX3_writtenRegister T d = 0
        · rw [if_pos q, if_pos (hreg.mpr q)]
        · rw [if_neg q, if_neg (fun y => q (hreg.mp y)), r1]
      · by_cases q : fX3_is T 128 = 0
        · rw [if_pos q, if_pos (r9.mpr q)]
        · rw [if_neg q, if_neg (fun y => q (r9.mp y))]
      · rcases r3 with ⟨q1, q2⟩ | ⟨p, n, hn, _, hp, q1, q2, q3, q4, q5⟩
        · rw [if_pos q1, q2]
        · rw [if_neg (by rw [q1]; exact nI_ne0 (by omega) (by omega)), q3, q4]
      · by_cases q : fX3_writtenRegister T d = 0
        · rw [if_pos q, if_pos (hreg.mpr q)]
        · rw [if_neg q, if_neg (fun y => q (hreg.mp y)), r2 (by rw [r1]; exact q)]
      · rcases r3 with ⟨q1, q2⟩ | ⟨p, n, hn, _, hp, q1, q2, q3, q4, q5⟩
        · rw [if_pos q1, q2, if_pos neg1]
        · rw [if_neg (by rw [q1]; exact nI_ne0 (by omega) (by omega)), q4, if_neg (nI_pos (by omega)), q5]
    · simp only [h, if_false, true_and]
  obtain ⟨w2, w3, w4, w9, w10⟩ := w2
  rw [w2, w3, w4, w9, w10, hsl]
  exact rec_eq (11 * (ev % 256)) hfi _ _ _ _ _ _ _ _ _ _ _ j hj
theorem e_cnt {ev : Nat} (hev : ev ≤ 120000) {dbl lng last E : Int32} {mdu : Nat → Int32} (hl : last = if nI ev ≤ 0 then 0 else fX11_dueOf (nI ev) mdu 1) : fX1_countCycle (nI ev) dbl lng last E = (dbl + (if nI ev ≤ 0 then (0) else (if E = (if nI ev ≤ 0 then (0) else fX11_dueOf (nI ev) mdu 1) then (1) else (0))), (if (E - (if nI ev ≤ 0 then (0) else fX11_dueOf (nI ev) mdu 1)) ≤ lng then lng else (E - (if nI ev ≤ 0 then (0) else fX11_dueOf (nI ev) mdu 1))), E) := by
  rw [← hl]
  unfold fX1_countCycle
  dsimp only
  have e1 : jmax lng (E - last) = (if (E - last) ≤ lng then lng else (E - last)) := by
    show (if lng < E - last then E - last else lng) = _
    by_cases h : lng < E - last
    · rw [if_pos h, if_neg (by rw [ilt] at h; rw [ile]; omega)]
    · rw [if_neg h, if_pos (by rw [ilt] at h; rw [ile]; omega)]
  rw [e1]
  by_cases h0 : nI ev ≤ 0
  · rw [if_pos h0, if_pos h0, Int32.add_zero]
  · rw [if_neg h0, if_neg h0]
    by_cases h1 : E = last
    · rw [if_pos h1, if_pos h1]
    · rw [if_neg h1, if_neg h1, Int32.add_zero]

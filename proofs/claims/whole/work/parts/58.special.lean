/-! ===== pure: specialOf ===== -/
theorem map_ix {p : Int32} (h1 : ¬ (p - 1024) < 0) (h2 : ¬ (512 : Int32) ≤ (p - 1024)) : ∃ k : Nat, k < 512 ∧ p - 1024 = nI k ∧ p = nI (k + 1024) := by
  obtain ⟨k, hk, e⟩ := nI_of h1
  have hk2 : k < 512 := Nat.not_le.mp fun q => h2 (by rw [e]; exact nI_le (a := 512) q hk)
  refine ⟨k, hk2, e, ?_⟩
  have e2 : p = (p - 1024) + 1024 := by rw [Int32.sub_add_cancel]
  rw [e2, e]
  exact nI_add k 1024
theorem e_isOne (sets p : Int32) : fX5_isOne sets p = fX11_isMap sets p := by
  unfold fX5_isOne fX11_isMap
  by_cases h1 : (p - 1024) < 0
  · rw [if_pos h1]
    by_cases b1 : p < 1024
    · rw [if_pos b1]
    · rw [if_neg b1]
      by_cases b2 : (1536 : Int32) ≤ p
      · rw [if_pos b2]
      · exfalso
        have b0 : ¬ p < 0 := fun q => b1 (by rw [li] at q ⊢; have : p.toInt < 0 := q; show p.toInt < 1024; omega)
        obtain ⟨a, ha, rfl⟩ := nI_of b0
        have c1 : 1024 ≤ a := Nat.not_lt.mp fun q => b1 (nI_lt (b := 1024) q (by decide))
        rw [show nI a - 1024 = nI (a - 1024) from pk_sub (b := 1024) c1] at h1
        exact nI_pos (by omega) h1
  · rw [if_neg h1]
    by_cases h2 : (512 : Int32) ≤ (p - 1024)
    · rw [if_pos h2]
      by_cases b1 : p < 1024
      · rw [if_pos b1]
      · rw [if_neg b1]
        by_cases b2 : (1536 : Int32) ≤ p
        · rw [if_pos b2]
        · exfalso
          have b0 : ¬ p < 0 := fun q => b1 (by rw [li] at q ⊢; have : p.toInt < 0 := q; show p.toInt < 1024; omega)
          obtain ⟨a, ha, rfl⟩ := nI_of b0
          have c1 : 1024 ≤ a := Nat.not_lt.mp fun q => b1 (nI_lt (b := 1024) q (by decide))
          have c2 : a < 1536 := Nat.not_le.mp fun q => b2 (nI_le (a := 1536) q ha)
          rw [show nI a - 1024 = nI (a - 1024) from pk_sub (b := 1024) c1] at h2
          exact nI_ge (b := 512) (by omega) (by decide) h2
    · rw [if_neg h2]
      obtain ⟨k, hk, e1, e2⟩ := map_ix h1 h2
      have r1 : jrem (p - 1024) 128 = nI (k % 128) := by rw [e1]; exact pk_rem (d := 128) (by omega) (by decide) (by decide)
      have r2 : jrem p 128 = nI (k % 128) := by
        rw [e2, show jrem (nI (k + 1024)) 128 = nI ((k + 1024) % 128) from pk_rem (d := 128) (by omega) (by decide) (by decide), show (k + 1024) % 128 = k % 128 by omega]
      have b1 : ¬ p < 1024 := by rw [e2]; exact nI_nlt (b := 1024) (by omega) (by omega)
      have b2 : ¬ (1536 : Int32) ≤ p := by rw [e2]; exact nI_ge (b := 1536) (by omega) (by decide)
      rw [r1, if_neg b1, if_neg b2, r2]
theorem one_in {sets p : Int32} (h : ¬ fX5_isOne sets p = 0) : ∃ k : Nat, k < 512 ∧ p - 1024 = nI k := by
  unfold fX5_isOne at h
  by_cases h1 : (p - 1024) < 0
  · rw [if_pos h1] at h; exact absurd rfl h
  · rw [if_neg h1] at h
    by_cases h2 : (512 : Int32) ≤ (p - 1024)
    · rw [if_pos h2] at h; exact absurd rfl h
    · obtain ⟨k, hk, e, -⟩ := map_ix h1 h2
      exact ⟨k, hk, e⟩
theorem s_get (sets p : Int32) : sX5_get sets p := by
  intro z hz
  subst hz
  refine ⟨fun _ => trivial, fun h => ⟨?_, trivial⟩⟩
  obtain ⟨k, hk, e⟩ := one_in h
  rw [e]
  exact vp_in_nI hk (by decide)
theorem hi_word (s : Int64) : (jlushr s 32).toInt32 = (jlshr s 32).toInt32 := by
  apply Int32.toBitVec_inj.mp
  have e1 : ((32 : Int32).toInt64.toUInt64 &&& Int64.toUInt64 63).toBitVec % 64 = 32#64 := by decide
  have e2 : ((32 : Int32).toInt64 &&& 63).toBitVec.smod 64 = 32#64 := by decide
  show BitVec.signExtend 32 (jlushr s 32).toBitVec = BitVec.signExtend 32 (jlshr s 32).toBitVec
  have a1 : (jlushr s 32).toBitVec = s.toBitVec >>> 32 := by
    show s.toBitVec >>> (((32 : Int32).toInt64.toUInt64 &&& Int64.toUInt64 63).toBitVec % 64) = _
    rw [e1]
    rfl
  have a2 : (jlshr s 32).toBitVec = s.toBitVec.sshiftRight 32 := by
    show BitVec.sshiftRight' s.toBitVec (((32 : Int32).toInt64 &&& 63).toBitVec.smod 64) = _
    rw [e2]
    rfl
  rw [a1, a2]
  apply BitVec.eq_of_getLsbD_eq
  intro i hi
  simp only [BitVec.getLsbD_signExtend, BitVec.getLsbD_ushiftRight, BitVec.getLsbD_sshiftRight]
  have h1 : ¬ 64 ≤ i := by omega
  have h3 : i < 64 := by omega
  have h2 : 32 + i < 64 := by omega
  simp [hi, h1, h2, h3]
theorem e_get {sets : Int32} {wo mw : Nat → Int32} (h : ∀ j, j < 512 → wo j = mw j) (p : Int32) : fX5_get sets wo p = if fX11_isMap sets p = 0 then 0 else mw (p - 1024).toNatClampNeg := by
  unfold fX5_get
  dsimp only
  rw [← e_isOne]
  by_cases h0 : fX5_isOne sets p = 0
  · rw [if_pos h0, if_pos h0]
  · rw [if_neg h0, if_neg h0]
    obtain ⟨k, hk, e⟩ := one_in h0
    rw [e, nI_clamp (by omega)]
    exact h k hk
theorem e_status {held latch size passed ret : Int32} {co va mlc mlv ms : Nat → Int32} (h : LinesOk size passed co ret) (h1 : ∀ j, j < 32 → co j = mlc j) (h2 : ∀ j, j < 32 → va j = mlv j) (e7 : held = ms 7) (e9 : latch = ms 9) : (fX8_status held ret latch passed size co va).1 = fX11_status ret size ms mlc mlv ∧ LinesOk size (fX8_status held ret latch passed size co va).2 co ret := by
  obtain ⟨a, b⟩ := e_lines (va := va) (mlv := mlv) h h1 h2
  refine ⟨?_, b⟩
  show ((fX4_at passed size co va ret).1 &&& (latch ^^^ (-1))) ||| (held &&& latch) = (fX11_linesNow ret size mlc mlv &&& (ms 9 ^^^ (-1))) ||| (ms 7 &&& ms 9)
  rw [a, e7, e9]
theorem s_status {size passed ret : Int32} {co va : Nat → Int32} (h : LinesOk size passed co ret) : sX8_status ret passed size co va := ⟨s_lines h, fun _ _ => trivial⟩
theorem sm_status {size passed ret : Int32} {co mlc mlv : Nat → Int32} (h : LinesOk size passed co ret) : sX11_status ret size mlc mlv := ⟨sm_lines h, fun _ _ => trivial⟩
set_option maxRecDepth 20000 in
theorem e_special {sr epc esr eea held count timer mask ret latch sets passed size : Int32} {sum : Int64} {wo co va ms mw mlc mlv : Nat → Int32} (h : LinesOk size passed co ret) (h1 : ∀ j, j < 32 → co j = mlc j) (h2 : ∀ j, j < 32 → va j = mlv j) (hw : ∀ j, j < 512 → wo j = mw j) (e0 : sr = ms 0) (e1 : epc = ms 1) (e2 : esr = ms 2) (e3 : eea = ms 3) (e4 : count = ms 4) (e5 : timer = ms 5) (e6 : mask = ms 6) (e7 : held = ms 7) (e9 : latch = ms 9) (p : Int32) :
    (fX8_read sr epc esr eea held sum count timer mask ret latch sets passed size wo co va p).1 = (fX11_specialOf sets sum ret size ms mw mlc mlv p).1 ∧ LinesOk size (fX8_read sr epc esr eea held sum count timer mask ret latch sets passed size wo co va p).2 co ret := by
  by_cases q0 : p = 0
  · subst q0; exact ⟨e0, h⟩
  by_cases q1 : p = 1
  · subst q1; exact ⟨e1, h⟩
  by_cases q2 : p = 2
  · subst q2; exact ⟨e2, h⟩
  by_cases q3 : p = 3
  · subst q3; exact ⟨e3, h⟩
  by_cases q4 : p = 4
  · subst q4; exact ⟨e4, h⟩
  by_cases q5 : p = 5
  · subst q5; exact ⟨e5, h⟩
  by_cases q6 : p = 6
  · subst q6; exact ⟨e6, h⟩
  by_cases q7 : p = 7
  · subst q7; exact e_status h h1 h2 e7 e9
  by_cases q8 : p = 8
  · subst q8; exact ⟨rfl, h⟩
  by_cases q9 : p = 9
  · subst q9; exact ⟨e9, h⟩
  by_cases q10 : p = 10
  · subst q10; exact ⟨hi_word sum, h⟩
  by_cases q11 : p = 11
  · subst q11; exact ⟨rfl, h⟩
  have er : fX8_read sr epc esr eea held sum count timer mask ret latch sets passed size wo co va p = (fX5_get sets wo p, passed) := by
    unfold fX8_read
    rw [if_neg q0, if_neg q1, if_neg q2, if_neg q3, if_neg q4, if_neg q5, if_neg q6, if_neg q7, if_neg q8, if_neg q9, if_neg q10, if_neg q11]
  rw [er]
  refine ⟨?_, h⟩
  show fX5_get sets wo p = _
  rw [e_get hw p]
  unfold fX11_specialOf fX11_special
  dsimp only
  rw [if_neg q7, if_neg q8, if_neg q10, if_neg q11]
  by_cases hp : 0 ≤ p
  · rw [if_pos hp]
    by_cases hz : fX11_isMap sets p = 0
    · rw [if_pos hz, if_pos hz]
      by_cases hn : p < 0
      · rw [if_pos hn]
      · rw [if_neg hn]
        by_cases ht : (10 : Int32) ≤ p
        · rw [if_pos ht]
        · exfalso
          obtain ⟨a, ha, rfl⟩ := nI_of hn
          have ha10 : a < 10 := Nat.not_le.mp fun q => ht (nI_le (a := 10) q ha)
          rcases (show a = 0 ∨ a = 1 ∨ a = 2 ∨ a = 3 ∨ a = 4 ∨ a = 5 ∨ a = 6 ∨ a = 7 ∨ a = 8 ∨ a = 9 by omega) with rfl | rfl | rfl | rfl | rfl | rfl | rfl | rfl | rfl | rfl
          · exact q0 rfl
          · exact q1 rfl
          · exact q2 rfl
          · exact q3 rfl
          · exact q4 rfl
          · exact q5 rfl
          · exact q6 rfl
          · exact q7 rfl
          · exact q8 rfl
          · exact q9 rfl
    · rw [if_neg hz, if_neg hz]
  · rw [if_neg hp]
    have hlt : p < 1024 := by
      rw [le_i] at hp
      rw [li]
      have h0 : ¬ (0 : Int) ≤ p.toInt := hp
      show p.toInt < 1024
      omega
    rw [if_pos (show fX11_isMap sets p = 0 from if_pos hlt)]
theorem s_read {held latch size passed ret sets : Int32} {wo co va : Nat → Int32} (h : LinesOk size passed co ret) (p : Int32) : sX8_read held ret latch sets passed size wo co va p :=
  ⟨fun _ => trivial, fun _ => ⟨fun _ => trivial, fun _ => ⟨fun _ => trivial, fun _ => ⟨fun _ => trivial, fun _ => ⟨fun _ => trivial, fun _ => ⟨fun _ => trivial, fun _ => ⟨fun _ => trivial, fun _ => ⟨fun _ => ⟨s_status h, fun _ _ => trivial⟩, fun _ => ⟨fun _ => trivial, fun _ => ⟨fun _ => trivial, fun _ => ⟨fun _ => trivial, fun _ => ⟨fun _ => trivial, fun _ => ⟨s_get sets p, fun _ _ => trivial⟩⟩⟩⟩⟩⟩⟩⟩⟩⟩⟩⟩⟩

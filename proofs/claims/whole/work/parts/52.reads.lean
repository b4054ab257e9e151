/-! ===== pure: the calls that only read, and setRegister ===== -/
theorem li {a b : Int32} : a < b ↔ a.toInt < b.toInt := Int32.lt_iff_toInt_lt
theorem le_i {a b : Int32} : a ≤ b ↔ a.toInt ≤ b.toInt := Int32.le_iff_toInt_le
theorem lt32 (p : Int32) : p < 32 ↔ p ≤ 31 := by
  rw [li, le_i]
  show p.toInt < 32 ↔ p.toInt ≤ 31
  omega
theorem vp_32 {p : Int32} (h0 : ¬ p < 0) (h1 : p < 32) : vp_in p 32 := by
  rw [vp_in_iff]
  rw [li] at h0 h1
  have h2 : ¬ p.toInt < 0 := h0
  have h3 : p.toInt < 32 := h1
  omega
theorem vp_32a {p : Int32} (h0 : ¬ p < 1) (h1 : p < 32) : vp_in p 32 := by
  rw [vp_in_iff]
  rw [li] at h0 h1
  have h2 : ¬ p.toInt < 1 := h0
  have h3 : p.toInt < 32 := h1
  omega
theorem vp_cl {p : Int32} {n : Nat} (h : vp_in p n) : p.toNatClampNeg < n := Nat.not_le.mp fun q => h (Or.inr q)
theorem e_registerOf {rg mr : Nat → Int32} (h : ∀ j, j < 32 → rg j = mr j) (p : Int32) : fX10_registerOf rg p = (fX11_registerOf mr p).1 := by
  unfold fX10_registerOf fX11_registerOf
  by_cases h0 : p < 0
  · rw [if_pos h0, if_pos h0]
  · rw [if_neg h0, if_neg h0]
    by_cases h1 : p < 32
    · rw [if_pos h1, if_pos ((lt32 p).mp h1)]
      exact h _ (vp_cl (vp_32 h0 h1))
    · rw [if_neg h1, if_neg (fun q => h1 ((lt32 p).mpr q))]
theorem s_registerOf (p : Int32) : sX10_registerOf p := ⟨fun _ => trivial, fun h0 => ⟨fun h1 => ⟨vp_32 h0 h1, trivial⟩, fun _ => trivial⟩⟩
theorem sm_registerOf (p : Int32) : sX11_registerOf p := ⟨fun _ => trivial, fun h0 => ⟨fun h1 => ⟨vp_32 h0 ((lt32 p).mpr h1), trivial⟩, fun _ => trivial⟩⟩
theorem e_placeOf {pc sl ba tg mpc mb mt : Int32} (h1 : pc = mpc) (h2 : mb = if sl = 0 then 0 else ba) (h3 : mt = if sl = 0 then 0 else tg) (p : Int32) : fX10_placeOf pc sl ba tg p = (fX11_placeOf mpc mb mt p).1 := by
  subst h1 h2 h3
  unfold fX10_placeOf fX11_placeOf
  split
  · rfl
  · split
    · rfl
    · split <;> rfl
theorem ix_rec {p0 p1 : Int32} (h0 : ¬ p0 < 0) (h1 : ¬ p1 < 0) (h2 : p1 ≤ 10) : ∃ k : Nat, k < 2816 ∧ ((p0 &&& 255) * 11) + p1 = nI k ∧ (11 * (jrem p0 256)) + p1 = nI k := by
  obtain ⟨a, ha, rfl⟩ := nI_of h0
  obtain ⟨b, hb, rfl⟩ := nI_of h1
  have hb10 : b ≤ 10 := (nI_leI hb (by decide : (10 : Nat) < 2 ^ 31)).mp h2
  have e1 : nI a &&& 255 = nI (a % 256) := pk_andN (Nat.lt_of_lt_of_le ha (by decide)) 8 (by decide)
  have e2 : jrem (nI a) 256 = nI (a % 256) := pk_rem (d := 256) ha (by decide) (by decide)
  refine ⟨11 * (a % 256) + b, by omega, ?_, ?_⟩
  · rw [e1]
    show nI (a % 256) * nI 11 + nI b = _
    rw [pk_mul, nI_add, Nat.mul_comm]
  · rw [e2]
    show nI 11 * nI (a % 256) + nI b = _
    rw [pk_mul, nI_add]
theorem kept_same (e p : Int32) : fX1_keeps e p = fX11_isKept e p := rfl
theorem kept_pos {e p : Int32} (h : ¬ fX1_keeps e p = 0) : ¬ p < 0 := fun q => h (if_pos q)
theorem le7_10 {p : Int32} (h : ¬ 7 < p) : p ≤ 10 := by
  rw [le_i]
  rw [li] at h
  have h2 : ¬ (7 : Int) < p.toInt := h
  show p.toInt ≤ 10
  omega
theorem lt7_8 (p : Int32) : 7 < p ↔ 8 ≤ p := by
  rw [li, le_i]
  show 7 < p.toInt ↔ 8 ≤ p.toInt
  omega
theorem e_eventOf {e : Int32} {fi mf : Nat → Int32} (h : ∀ j, j < 2816 → fi j = mf j) (p0 p1 : Int32) : fX10_eventOf e fi p0 p1 = (fX11_eventOf e mf p0 p1).1 := by
  unfold fX10_eventOf fX11_eventOf
  dsimp only
  rw [← kept_same]
  by_cases h0 : fX1_keeps e p0 = 0
  · rw [if_pos h0, if_pos h0]
  · rw [if_neg h0, if_neg h0]
    by_cases h1 : p1 < 0
    · rw [if_pos h1, if_pos h1]
    · rw [if_neg h1, if_neg h1]
      by_cases h2 : 7 < p1
      · rw [if_pos h2, if_pos ((lt7_8 p1).mp h2)]
      · rw [if_neg h2, if_neg (fun q => h2 ((lt7_8 p1).mpr q))]
        obtain ⟨k, hk, e1, e2⟩ := ix_rec (kept_pos h0) h1 (le7_10 h2)
        show fi (((p0 &&& 255) * 11) + p1).toNatClampNeg = mf ((11 * (jrem p0 256)) + p1).toNatClampNeg
        rw [e1, e2, nI_clamp (by omega)]
        exact h k hk
theorem s_field {p0 p1 : Int32} (h0 : ¬ p0 < 0) (h1 : ¬ p1 < 0) (h2 : p1 ≤ 10) : sX1_field p0 p1 := by
  obtain ⟨k, hk, e1, e2⟩ := ix_rec h0 h1 h2
  refine ⟨?_, trivial⟩
  show vp_in (((p0 &&& 255) * 11) + p1) 2816
  rw [e1]
  exact vp_in_nI hk (by decide)
theorem s_eventOf (e : Int32) (fi : Nat → Int32) (p0 p1 : Int32) : sX10_eventOf e fi p0 p1 := by
  intro z1 hz
  subst hz
  exact ⟨fun _ => trivial, fun h0 => ⟨fun _ => trivial, fun h1 => ⟨fun _ => trivial, fun h2 => ⟨s_field (kept_pos h0) h1 (le7_10 h2), fun _ _ => trivial⟩⟩⟩⟩
theorem sm_eventOf (e p0 p1 : Int32) : sX11_eventOf e p0 p1 := by
  intro z1 hz
  subst hz
  refine ⟨fun _ => trivial, fun h0 => ⟨fun _ => trivial, fun h1 => ⟨fun _ => trivial, fun h2 => ⟨?_, trivial⟩⟩⟩⟩
  obtain ⟨k, hk, e1, e2⟩ := ix_rec (kept_pos h0) h1 (le7_10 (fun q => h2 ((lt7_8 p1).mp q)))
  rw [e2]
  exact vp_in_nI hk (by decide)
theorem lt2_3 (p : Int32) : 2 < p ↔ 3 ≤ p := by
  rw [li, le_i]
  show 2 < p.toInt ↔ 3 ≤ p.toInt
  omega
theorem add8 {p : Int32} (h1 : ¬ p < 0) (h2 : ¬ 2 < p) : ¬ 8 + p < 0 ∧ 8 + p ≤ 10 := by
  obtain ⟨b, hb, rfl⟩ := nI_of h1
  have hb2 : b ≤ 2 := Nat.not_lt.mp fun q => h2 ((nI_ltI (a := 2) (by decide) hb).mpr q)
  have e : (8 : Int32) + nI b = nI (8 + b) := nI_add 8 b
  rw [e]
  exact ⟨nI_pos (by omega), nI_le (b := 10) (by omega) (by decide)⟩
theorem e_valueOf {e : Int32} {fi mf : Nat → Int32} (h : ∀ j, j < 2816 → fi j = mf j) (p0 p1 : Int32) : fX10_valueOf e fi p0 p1 = (fX11_valueOf e mf p0 p1).1 := by
  unfold fX10_valueOf fX11_valueOf
  dsimp only
  rw [← kept_same]
  by_cases h0 : fX1_keeps e p0 = 0
  · simp [h0]
  · by_cases h1 : p1 < 0
    · simp [h0, h1]
    · by_cases h2 : 2 < p1
      · simp [h0, h1, h2, (lt2_3 p1).mp h2]
      · have h3 : ¬ 3 ≤ p1 := fun q => h2 ((lt2_3 p1).mpr q)
        rw [if_neg h0, if_neg h1, if_neg h2, if_neg h0, if_neg h1, if_neg h3, if_neg (by decide)]
        obtain ⟨k, hk, e1, e2⟩ := ix_rec (kept_pos h0) (add8 h1 h2).1 (add8 h1 h2).2
        show fi (((p0 &&& 255) * 11) + (8 + p1)).toNatClampNeg = mf (((11 * (jrem p0 256)) + 8) + p1).toNatClampNeg
        rw [Int32.add_assoc (11 * jrem p0 256) 8 p1, e1, e2, nI_clamp (by omega)]
        exact h k hk
theorem s_valueOf (e : Int32) (fi : Nat → Int32) (p0 p1 : Int32) : sX10_valueOf e fi p0 p1 := by
  intro z1 hz
  subst hz
  refine ⟨⟨fun _ => trivial, fun h0 => ⟨fun _ => trivial, fun h1 => ⟨fun _ => trivial, fun h2 => trivial⟩⟩⟩, fun j hj => ⟨fun _ => trivial, fun h3 => ?_⟩⟩
  dsimp only at hj
  by_cases h0 : fX1_keeps e p0 = 0
  · rw [if_pos h0] at hj; exact absurd hj h3
  · rw [if_neg h0] at hj
    by_cases h1 : p1 < 0
    · rw [if_pos h1] at hj; exact absurd hj h3
    · rw [if_neg h1] at hj
      by_cases h2 : 2 < p1
      · rw [if_pos h2] at hj; exact absurd hj h3
      · exact ⟨s_field (kept_pos h0) (add8 h1 h2).1 (add8 h1 h2).2, fun _ _ => trivial⟩
theorem sm_valueOf (e p0 p1 : Int32) : sX11_valueOf e p0 p1 := by
  intro z1 hz
  subst hz
  refine ⟨fun _ => trivial, fun h0 => ⟨fun _ => trivial, fun h1 => ⟨fun _ => trivial, fun h2 => ⟨?_, trivial⟩⟩⟩⟩
  have h2' : ¬ 2 < p1 := fun q => h2 ((lt2_3 p1).mp q)
  obtain ⟨k, hk, e1, e2⟩ := ix_rec (kept_pos h0) (add8 h1 h2').1 (add8 h1 h2').2
  rw [Int32.add_assoc, e2]
  exact vp_in_nI hk (by decide)
theorem first_kept {n : Nat} (hn : n ≤ 120000) : fX1_firstKept (nI n) = if nI n = 0 then -1 else if nI n ≤ 256 then 0 else nI n - 256 := by
  unfold fX1_firstKept
  by_cases h0 : nI n = 0
  · rw [if_pos h0, if_pos h0]
  · rw [if_neg h0, if_neg h0]
    have h1 : (nI n - nI 256).toInt = (n : Int) - 256 := pk_sub_toInt (by omega) (by decide)
    by_cases h2 : nI n ≤ 256
    · rw [if_pos h2]
      have h3 : n ≤ 256 := (nI_leI (a := n) (b := 256) (by omega) (by decide)).mp h2
      refine if_neg (fun q => ?_)
      have q' : (0 : Int) < (nI n - nI 256).toInt := li.mp q
      omega
    · rw [if_neg h2]
      have h3 : ¬ n ≤ 256 := fun q => h2 ((nI_leI (a := n) (b := 256) (by omega) (by decide)).mpr q)
      refine if_pos (li.mpr ?_)
      show (0 : Int) < (nI n - nI 256).toInt
      omega
theorem e_lookAt {cy hd st ls ec ex db lw : Int32} {sp : Nat → Int32} {n : Nat} (hn : n ≤ 120000) (hec : ec = nI n) (hh : hd = sp 7) (p : Int32) : fX10_lookAt cy hd st ls ec ex db lw p = (fX11_lookAt st ls cy ec ex db lw sp p).1 := by
  subst hec hh
  unfold fX10_lookAt fX11_lookAt
  dsimp only
  rw [first_kept hn]
  repeat' split
  all_goals first | rfl | (exfalso; contradiction)
theorem e_setRegister {cy : Int32} {rg mr : Nat → Int32} (h : ∀ j, j < 32 → rg j = mr j) (p0 p1 : Int32) : (fX10_setRegister cy rg p0 p1).1 = (fX11_setRegister cy mr p0 p1).1 ∧ (∀ j, j < 32 → (fX10_setRegister cy rg p0 p1).2 j = (fX11_setRegister cy mr p0 p1).2.2 j) ∧ (fX10_setRegister cy rg p0 p1).2 0 = rg 0 := by
  unfold fX10_setRegister fX11_setRegister
  by_cases h0 : 0 < cy
  · simp only [if_pos h0]; exact ⟨trivial, h, trivial⟩
  · simp only [if_neg h0]
    by_cases h1 : p0 < 1
    · simp only [if_pos h1]; exact ⟨trivial, h, trivial⟩
    · simp only [if_neg h1]
      by_cases h2 : p0 < 32
      · simp only [if_pos h2, if_pos ((lt32 p0).mp h2)]
        refine ⟨trivial, fun j hj => ?_, ?_⟩
        · by_cases hj' : j = p0.toNatClampNeg
          · subst hj'; rw [pk_us, pk_us]
          · rw [pk_un hj', pk_un hj']; exact h j hj
        · refine pk_un (fun q => ?_)
          obtain ⟨a, ha, e⟩ := vp_in_of (vp_32a h1 h2) (by decide)
          rw [e, nI_clamp (by omega)] at q
          rw [e, ← q] at h1
          exact h1 (by decide)
      · simp only [if_neg h2, if_neg (fun q => h2 ((lt32 p0).mpr q))]; exact ⟨trivial, h, trivial⟩
theorem s_setRegister (cy p0 : Int32) : sX10_setRegister cy p0 := ⟨fun _ => trivial, fun _ => ⟨fun _ => trivial, fun h1 => ⟨fun h2 => ⟨vp_32a h1 h2, trivial⟩, fun _ => trivial⟩⟩⟩
theorem sm_setRegister (cy p0 : Int32) : sX11_setRegister cy p0 := ⟨fun _ => trivial, fun _ => ⟨fun _ => trivial, fun h1 => ⟨fun h2 => ⟨vp_32a h1 ((lt32 p0).mpr h2), trivial⟩, fun _ => trivial⟩⟩⟩

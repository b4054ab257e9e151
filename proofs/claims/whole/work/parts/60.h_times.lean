/-! ===== pure: times: take against reckon ===== -/
theorem eq_le {x y : Int32} (h : ∀ z : Int, x.toInt ≤ z ↔ y.toInt ≤ z) : x = y := by
  rw [ieq]
  have a := (h y.toInt).mpr (Int.le_refl _)
  have b := (h x.toInt).mp (Int.le_refl _)
  omega
theorem jm_le (x y : Int32) (z : Int) : (jmax x y).toInt ≤ z ↔ x.toInt ≤ z ∧ y.toInt ≤ z := by
  show (if x < y then y else x).toInt ≤ z ↔ _
  by_cases h : x < y
  · rw [if_pos h]; rw [ilt] at h; omega
  · rw [if_neg h]; rw [ilt] at h; omega
theorem lt_le (x y : Int32) (z : Int) : (fX11_later x y).toInt ≤ z ↔ x.toInt ≤ z ∧ y.toInt ≤ z := by
  unfold fX11_later
  by_cases h : x ≤ y
  · rw [if_pos h]; rw [ile] at h; omega
  · rw [if_neg h]; rw [ile] at h; omega
theorem add_i {x c : Int32} (h : -1000000 ≤ x.toInt ∧ x.toInt ≤ 1000000) (hc : -1000000 ≤ c.toInt ∧ c.toInt ≤ 1000000) : (x + c).toInt = x.toInt + c.toInt := by
  rw [Int32.toInt_add, Int.bmod_eq_of_le (by omega) (by omega)]
theorem sub_i {x c : Int32} (h : -1000000 ≤ x.toInt ∧ x.toInt ≤ 1000000) (hc : -1000000 ≤ c.toInt ∧ c.toInt ≤ 1000000) : (x - c).toInt = x.toInt - c.toInt := by
  rw [Int32.toInt_sub, Int.bmod_eq_of_le (by omega) (by omega)]
theorem t1' : (1 : Int32).toInt = 1 := rfl
theorem t2' : (2 : Int32).toInt = 2 := rfl
theorem t3' : (3 : Int32).toInt = 3 := rfl
theorem t5' : (5 : Int32).toInt = 5 := rfl
theorem t18' : (18 : Int32).toInt = 18 := rfl
theorem t20' : (20 : Int32).toInt = 20 := rfl
/-- 0 .. m -/
abbrev bd (m : Int) (x : Int32) : Prop := 0 ≤ x.toInt ∧ x.toInt ≤ m
/-! the loop over the registers -/
/-- the rest of reckon, behind the registers, for a word that could be read -/
def rkI (w : Int32) (events fr cr sm dv v : Int32) (mdu : Nat → Int32) : Int32 :=
  (let j7 : Int32 := if fX11_isNone w = 0 then (1) else (0); (let j8 : Int32 := if j7 = 0 then (v) else (if fX11_readsFlag w = 0 then (v) else fX11_later v fr); (let j9 : Int32 := if j7 = 0 then (j8) else (if fX11_readsCarry w = 0 then (j8) else fX11_later j8 cr); (let j10 : Int32 := if j7 = 0 then (j9) else (if fX11_op w = 41 then fX11_later j9 sm else (j9)); (let j11 : Int32 := if j7 = 0 then (j10) else (if fX11_isDivide w = 0 then (j10) else fX11_later j10 (dv + 18)); (if fX11_isSingle w = 0 then (j11) else (if events ≤ 0 then (j11) else fX11_later j11 (fX11_dueOf events mdu 1 + 1))))))))
def rkL (w : Int32) : Int32 := if (if fX11_isNone w = 0 then (1 : Int32) else (0)) = 0 then 3 else (if fX11_isMultiply w = 0 then (if fX11_isDivide w = 0 then 3 else 20) else 5)
def rkE (events exc I len : Int32) (mdu : Nat → Int32) : Int32 :=
  (let j14 : Int32 := if events ≤ 0 then (I + len) else (fX11_later (I + len) (fX11_dueOf events mdu 1 + (if exc ≤ 0 then (0) else (1)))); if events ≤ 1 then (j14) else (fX11_later j14 (fX11_dueOf events mdu 2 + 1)))
theorem rk_end (events w exc fr cr sm dv : Int32) (mdu mrd : Nat → Int32) (j3 j4 v : Int32) (m : Nat) : gX11_reckon_246 events w exc fr cr sm dv mdu mrd 1 j3 j4 (m + 1) (32, v) = (j4, rkI w events fr cr sm dv v mdu, rkE events exc (rkI w events fr cr sm dv v mdu) (rkL w) mdu, j3) := by
  unfold gX11_reckon_246
  rw [if_pos (show (32 : Int32) ≤ ((32 : Int32), v).1 from (by decide : (32 : Int32) ≤ 32))]
  unfold rkE rkI rkL
  dsimp only
  have k10 : ¬ (1 : Int32) = 0 := by decide
  by_cases hn : fX11_isNone w = 0
  · simp only [hn, if_true, k10, if_false]
  · simp only [hn, if_true, k10, if_false]
theorem rk_0 (events w exc fr cr sm dv : Int32) (mdu mrd : Nat → Int32) (j3 j4 v : Int32) (m : Nat) (k : Int32) (hk : ¬ (32 : Int32) ≤ k) : gX11_reckon_246 events w exc fr cr sm dv mdu mrd 0 j3 j4 (m + 1) (k, v) = (j4, v, rkE events exc v 3 mdu, j3) := by
  unfold gX11_reckon_246
  rw [if_neg (show ¬ (32 : Int32) ≤ (k, v).1 from hk)]
  rw [if_pos (show (0 : Int32) = 0 from rfl), if_pos (show (0 : Int32) = 0 from rfl)]
  unfold rkE
  simp only [if_true]
/-- the times of the registers read -/
def rkV (w : Int32) (mrd : Nat → Int32) : Nat → Int32 → Nat → Int32
  | k, v, 0 => v
  | k, v, m + 1 => rkV w mrd (k + 1) (if fX11_reads w (nI k) = 0 then v else fX11_later v (mrd k)) m
theorem rk_loop (events w exc fr cr sm dv : Int32) (mdu mrd : Nat → Int32) (j3 j4 : Int32) : ∀ (m k : Nat) (v : Int32) (f : Nat), k + m = 32 → 1 ≤ k → gX11_reckon_246 events w exc fr cr sm dv mdu mrd 1 j3 j4 (m + f + 1) (nI k, v) = gX11_reckon_246 events w exc fr cr sm dv mdu mrd 1 j3 j4 (f + 1) (32, rkV w mrd k v m)
  | 0, k, v, f, h, hk => by
    have : k = 32 := by omega
    subst this
    rw [Nat.zero_add]
    rfl
  | m + 1, k, v, f, h, hk => by
    rw [show m + 1 + f + 1 = (m + f + 1) + 1 by omega]
    conv => lhs; unfold gX11_reckon_246
    rw [if_neg (show ¬ (32 : Int32) ≤ (nI k, v).1 from nI_ge (b := 32) (by omega) (by decide)), if_neg (show ¬ (1 : Int32) = 0 by decide)]
    dsimp only
    rw [nI_clamp (by omega), nI_1]
    exact rk_loop events w exc fr cr sm dv mdu mrd j3 j4 m (k + 1) _ f (by omega) (by omega)
theorem rkV_le (w : Int32) (mrd : Nat → Int32) (z : Int) : ∀ (m k : Nat) (v : Int32), (rkV w mrd k v m).toInt ≤ z ↔ v.toInt ≤ z ∧ ∀ r, k ≤ r → r < k + m → ¬ fX11_reads w (nI r) = 0 → (mrd r).toInt ≤ z
  | 0, k, v => ⟨fun h => ⟨h, fun r a b => absurd b (by omega)⟩, fun h => h.1⟩
  | m + 1, k, v => by
    show (rkV w mrd (k + 1) (if fX11_reads w (nI k) = 0 then v else fX11_later v (mrd k)) m).toInt ≤ z ↔ _
    rw [rkV_le w mrd z m (k + 1)]
    have e : (if fX11_reads w (nI k) = 0 then v else fX11_later v (mrd k)).toInt ≤ z ↔ v.toInt ≤ z ∧ (¬ fX11_reads w (nI k) = 0 → (mrd k).toInt ≤ z) := by
      by_cases h : fX11_reads w (nI k) = 0
      · rw [if_pos h]; exact ⟨fun a => ⟨a, fun q => absurd h q⟩, fun a => a.1⟩
      · rw [if_neg h, lt_le]; exact ⟨fun a => ⟨a.1, fun _ => a.2⟩, fun a => ⟨a.1, a.2 h⟩⟩
    rw [e]
    constructor
    · rintro ⟨⟨a, b⟩, c⟩
      refine ⟨a, fun r h1 h2 h3 => ?_⟩
      by_cases hr : r = k
      · subst hr; exact b h3
      · exact c r (by omega) (by omega) h3
    · rintro ⟨a, b⟩
      exact ⟨⟨a, b k (by omega) (by omega)⟩, fun r h1 h2 h3 => b r (by omega) (by omega) h3⟩
theorem rkI_le (w events fr cr sm dv v : Int32) (mdu : Nat → Int32) (z : Int) (hN : ¬ fX11_isNone w = 0 → fX11_readsFlag w = 0 ∧ fX11_readsCarry w = 0 ∧ ¬ fX11_op w = 41 ∧ fX11_isDivide w = 0) : (rkI w events fr cr sm dv v mdu).toInt ≤ z ↔ v.toInt ≤ z ∧ (¬ fX11_readsFlag w = 0 → fr.toInt ≤ z) ∧ (¬ fX11_readsCarry w = 0 → cr.toInt ≤ z) ∧ (fX11_op w = 41 → sm.toInt ≤ z) ∧ (¬ fX11_isDivide w = 0 → (dv + 18).toInt ≤ z) ∧ (¬ fX11_isSingle w = 0 → ¬ events ≤ 0 → (fX11_dueOf events mdu 1 + 1).toInt ≤ z) := by
  unfold rkI
  dsimp only
  have s1 : ∀ (P : Prop) [Decidable P] (a b : Int32), (if P then a else fX11_later a b).toInt ≤ z ↔ a.toInt ≤ z ∧ (¬ P → b.toInt ≤ z) := by
    intro P _ a b
    by_cases h : P
    · rw [if_pos h]; exact ⟨fun q => ⟨q, fun k => absurd h k⟩, fun q => q.1⟩
    · rw [if_neg h, lt_le]; exact ⟨fun q => ⟨q.1, fun _ => q.2⟩, fun q => ⟨q.1, q.2 h⟩⟩
  have s2 : ∀ (P : Prop) [Decidable P] (a b : Int32), (if P then fX11_later a b else a).toInt ≤ z ↔ a.toInt ≤ z ∧ (P → b.toInt ≤ z) := by
    intro P _ a b
    by_cases h : P
    · rw [if_pos h, lt_le]; exact ⟨fun q => ⟨q.1, fun _ => q.2⟩, fun q => ⟨q.1, q.2 h⟩⟩
    · rw [if_neg h]; exact ⟨fun q => ⟨q, fun k => absurd k h⟩, fun q => q.1⟩
  have s3 : ∀ (P Q : Prop) [Decidable P] [Decidable Q] (a b : Int32), (if P then a else (if Q then a else fX11_later a b)).toInt ≤ z ↔ a.toInt ≤ z ∧ (¬ P → ¬ Q → b.toInt ≤ z) := by
    intro P Q _ _ a b
    by_cases h : P
    · rw [if_pos h]; exact ⟨fun q => ⟨q, fun k => absurd h k⟩, fun q => q.1⟩
    · rw [if_neg h, s1]; exact ⟨fun q => ⟨q.1, fun _ => q.2⟩, fun q => ⟨q.1, q.2 h⟩⟩
  rw [s3]
  by_cases hn : fX11_isNone w = 0
  · simp only [hn, if_true, show ¬ (1 : Int32) = 0 by decide, if_false]
    rw [s1, s2, s1, s1]
    constructor
    · rintro ⟨⟨⟨⟨⟨a, b⟩, c⟩, d⟩, e⟩, f⟩; exact ⟨a, b, c, d, e, f⟩
    · rintro ⟨a, b, c, d, e, f⟩; exact ⟨⟨⟨⟨⟨a, b⟩, c⟩, d⟩, e⟩, f⟩
  · obtain ⟨h1, h2, h3, h4⟩ := hN hn
    simp only [hn, if_true, if_false]
    constructor
    · rintro ⟨a, f⟩; exact ⟨a, fun q => absurd h1 q, fun q => absurd h2 q, fun q => absurd q h3, fun q => absurd h4 q, f⟩
    · rintro ⟨a, b, c, d, e, f⟩; exact ⟨a, f⟩

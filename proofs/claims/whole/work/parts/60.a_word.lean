/-! ===== pure: words: shifts, signs, unsigned values, longs, counts of zeros, turns ===== -/
theorem w_31 (i : Nat) : bt 31 i = decide (i < 5) := by
  rcases Nat.lt_or_ge i 32 with h | h
  · exact (by decide +kernel : ∀ i, i < 32 → bt 31 i = decide (i < 5)) i h
  · rw [b_big h, decide_eq_false (by omega)]
theorem w_field (n : Nat) (hn : n ≤ 27) (x : Int32) : (x >>> (nI n &&& 31)) &&& 31 = jushr x (nI n) &&& 31 := by
  refine b_ext (fun i hi => ?_)
  rw [b_and, b_and, w_31, b_sshr n (by omega) x hi]
  have e : bt (jushr x (nI n)) i = bt x (n + i) := b_ushr n (by omega) x i
  rw [e]
  by_cases h : i < 5
  · rw [if_pos (by omega)]
  · rw [decide_eq_false h]; simp
theorem w_s16 (x : Int32) : (x <<< ((16 : Int32) &&& 31)) >>> ((16 : Int32) &&& 31) = x.toInt16.toInt32 := by
  refine b_ext (fun i hi => ?_)
  rw [show ((x <<< ((16 : Int32) &&& 31)) >>> ((16 : Int32) &&& 31)) = ((x <<< (nI 16 &&& 31)) >>> (nI 16 &&& 31)) from rfl, b_sshr 16 (by omega) _ hi]
  have e : bt x.toInt16.toInt32 i = if i < 16 then bt x i else bt x 15 := by
    unfold bt
    rw [Int16.toBitVec_toInt32, Int32.toBitVec_toInt16, BitVec.getLsbD_signExtend, BitVec.getLsbD_signExtend, if_pos hi, BitVec.msb_eq_getLsbD_last (BitVec.signExtend _ _), BitVec.getLsbD_signExtend]
    by_cases h : i < 16
    · simp [h, hi]
    · simp [h, hi]
  rw [e]
  by_cases h : i < 16
  · rw [if_pos (by omega), if_pos h, b_shl 16 (by omega) x (by omega), show 16 + i - 16 = i by omega]; simp
  · rw [if_neg (by omega), if_neg h, b_shl 16 (by omega) x (by omega)]; rfl
theorem w_s8 (x : Int32) : (x <<< ((24 : Int32) &&& 31)) >>> ((24 : Int32) &&& 31) = x.toInt8.toInt32 := by
  refine b_ext (fun i hi => ?_)
  rw [show ((x <<< ((24 : Int32) &&& 31)) >>> ((24 : Int32) &&& 31)) = ((x <<< (nI 24 &&& 31)) >>> (nI 24 &&& 31)) from rfl, b_sshr 24 (by omega) _ hi]
  have e : bt x.toInt8.toInt32 i = if i < 8 then bt x i else bt x 7 := by
    unfold bt
    rw [Int8.toBitVec_toInt32, Int32.toBitVec_toInt8, BitVec.getLsbD_signExtend, BitVec.getLsbD_signExtend, if_pos hi, BitVec.msb_eq_getLsbD_last (BitVec.signExtend _ _), BitVec.getLsbD_signExtend]
    by_cases h : i < 8
    · simp [h, hi]
    · simp [h, hi]
  rw [e]
  by_cases h : i < 8
  · rw [if_pos (by omega), if_pos h, b_shl 24 (by omega) x (by omega), show 24 + i - 24 = i by omega]; simp
  · rw [if_neg (by omega), if_neg h, b_shl 24 (by omega) x (by omega)]; rfl
theorem w_m1 (x : Int32) : (x &&& 1 = 0) ↔ x.toInt % 2 = 0 := by
  have e : (x &&& 1).toBitVec.toNat = x.toBitVec.toNat % 2 := by
    rw [Int32.toBitVec_and, BitVec.toNat_and]
    exact Nat.and_one_is_mod _
  have e2 : x.toInt = if 2 * x.toBitVec.toNat < 2^32 then (x.toBitVec.toNat : Int) else (x.toBitVec.toNat : Int) - (2^32 : Nat) := BitVec.toInt_eq_toNat_cond _
  constructor
  · intro h
    rw [h] at e
    have : (0 : Int32).toBitVec.toNat = 0 := rfl
    rw [this] at e
    rw [e2]; split <;> omega
  · intro h
    apply Int32.toBitVec_inj.mp
    apply BitVec.eq_of_toNat_eq
    rw [e]
    show _ = 0
    rw [e2] at h
    split at h <;> omega
/-! unsigned -/
def uw (x : Int32) : Nat := x.toBitVec.toNat
theorem u_lt (x : Int32) : uw x < 4294967296 := x.toBitVec.isLt
theorem u_int (x : Int32) : x.toInt = if uw x < 2147483648 then (uw x : Int) else (uw x : Int) - 4294967296 := by
  have e2 : x.toInt = if 2 * x.toBitVec.toNat < 2^32 then (x.toBitVec.toNat : Int) else (x.toBitVec.toNat : Int) - (2^32 : Nat) := BitVec.toInt_eq_toNat_cond _
  unfold uw
  rw [e2]
  split <;> rename_i h <;> split <;> omega
theorem u_ext {x y : Int32} (h : uw x = uw y) : x = y := Int32.toBitVec_inj.mp (BitVec.eq_of_toNat_eq h)
theorem u_long (x : Int32) : (x.toInt64 &&& 4294967295).toInt = (uw x : Int) := by
  have e : (x.toInt64 &&& 4294967295).toBitVec.toNat = uw x := by
    rw [Int64.toBitVec_and, BitVec.toNat_and, Int32.toBitVec_toInt64, BitVec.toNat_signExtend]
    have : (4294967295 : Int64).toBitVec.toNat = 2^32 - 1 := rfl
    rw [this, Nat.and_two_pow_sub_one_eq_mod, BitVec.toNat_setWidth]
    have := u_lt x
    unfold uw at *
    split <;> omega
  have e2 : (x.toInt64 &&& 4294967295).toInt = if 2 * (x.toInt64 &&& 4294967295).toBitVec.toNat < 2^64 then ((x.toInt64 &&& 4294967295).toBitVec.toNat : Int) else ((x.toInt64 &&& 4294967295).toBitVec.toNat : Int) - (2^64 : Nat) := BitVec.toInt_eq_toNat_cond _
  rw [e2, e, if_pos (by have := u_lt x; omega)]
theorem lg_i (x y : Int64) : lg_cmp x y = if x.toInt > y.toInt then 1 else if x.toInt = y.toInt then 0 else -1 := by
  unfold lg_cmp
  have h1 : x > y ↔ x.toInt > y.toInt := Int64.lt_iff_toInt_lt
  have h2 : x = y ↔ x.toInt = y.toInt := Int64.toInt_inj.symm
  simp only [h1, h2]
theorem lg_0 (x y : Int64) : (lg_cmp x y = 0) ↔ x.toInt = y.toInt := by
  rw [lg_i]; by_cases h : x.toInt > y.toInt
  · rw [if_pos h]; exact ⟨fun q => absurd q (by decide), fun q => by omega⟩
  · rw [if_neg h]; by_cases h2 : x.toInt = y.toInt
    · rw [if_pos h2]; exact ⟨fun _ => h2, fun _ => rfl⟩
    · rw [if_neg h2]; exact ⟨fun q => absurd q (by decide), fun q => absurd q h2⟩
theorem lg_lt (x y : Int64) : (lg_cmp x y < 0) ↔ x.toInt < y.toInt := by
  rw [lg_i]; by_cases h : x.toInt > y.toInt
  · rw [if_pos h]; exact ⟨fun q => absurd q (by decide), fun q => by omega⟩
  · rw [if_neg h]; by_cases h2 : x.toInt = y.toInt
    · rw [if_pos h2]; exact ⟨fun q => absurd q (by decide), fun q => by omega⟩
    · rw [if_neg h2]; exact ⟨fun _ => by omega, fun _ => by decide⟩
theorem lg_le (x y : Int64) : (lg_cmp x y ≤ 0) ↔ x.toInt ≤ y.toInt := by
  rw [lg_i]; by_cases h : x.toInt > y.toInt
  · rw [if_pos h]; exact ⟨fun q => absurd q (by decide), fun q => by omega⟩
  · rw [if_neg h]; by_cases h2 : x.toInt = y.toInt
    · rw [if_pos h2]; exact ⟨fun q => by omega, fun q => by decide⟩
    · rw [if_neg h2]; exact ⟨fun _ => by omega, fun _ => by decide⟩
theorem lg_ge (x y : Int64) : (0 ≤ lg_cmp x y) ↔ y.toInt ≤ x.toInt := by
  rw [lg_i]; by_cases h : x.toInt > y.toInt
  · rw [if_pos h]; exact ⟨fun q => by omega, fun q => by decide⟩
  · rw [if_neg h]; by_cases h2 : x.toInt = y.toInt
    · rw [if_pos h2]; exact ⟨fun q => by omega, fun q => by decide⟩
    · rw [if_neg h2]; exact ⟨fun q => absurd q (by decide), fun _ => by omega⟩
theorem lg_gt (x y : Int64) : (0 < lg_cmp x y) ↔ y.toInt < x.toInt := by
  rw [lg_i]; by_cases h : x.toInt > y.toInt
  · rw [if_pos h]; exact ⟨fun q => by omega, fun q => by decide⟩
  · rw [if_neg h]; by_cases h2 : x.toInt = y.toInt
    · rw [if_pos h2]; exact ⟨fun q => absurd q (by decide), fun q => by omega⟩
    · rw [if_neg h2]; exact ⟨fun q => absurd q (by decide), fun _ => by omega⟩

theorem u_add (x y : Int32) : uw (x + y) = (uw x + uw y) % 4294967296 := by unfold uw; rw [Int32.toBitVec_add, BitVec.toNat_add]
theorem u_sub (x y : Int32) : uw (x - y) = (uw x + (4294967296 - uw y)) % 4294967296 := by unfold uw; rw [Int32.toBitVec_sub, BitVec.toNat_sub]; omega
theorem i_long (x : Int32) : x.toInt64.toInt = x.toInt := Int32.toInt_toInt64 x
theorem w_cmp (x y : Int32) : fJ6_compare_7cf53 x y = lg_cmp x.toInt64 y.toInt64 := by
  rw [lg_i, i_long, i_long]
  unfold fJ6_compare_7cf53
  have h1 : y ≤ x ↔ y.toInt ≤ x.toInt := Int32.le_iff_toInt_le
  have h2 : x = y ↔ x.toInt = y.toInt := Int32.toInt_inj.symm
  simp only [h1, h2]
  by_cases a : x.toInt = y.toInt
  · rw [if_pos (by omega), if_pos a, if_neg (by omega), if_pos a]
  · by_cases b : x.toInt > y.toInt
    · rw [if_pos (by omega), if_neg a, if_pos b]
    · rw [if_neg (by omega), if_neg b, if_neg a]
theorem u_flip (x : Int32) : (x + (-2147483648)).toInt = (uw x : Int) - 2147483648 := by
  rw [u_int, u_add, show uw (-2147483648) = 2147483648 from by decide]
  have := u_lt x
  split <;> omega
theorem w_ucmp (x y : Int32) : fJ6_compareUnsigned_7cf53 x y = lg_cmp (x.toInt64 &&& 4294967295) (y.toInt64 &&& 4294967295) := by
  show fJ6_compare_7cf53 (x + (-2147483648)) (y + (-2147483648)) = _
  rw [w_cmp, lg_i, lg_i, i_long, i_long, u_flip, u_flip, u_long, u_long]
  by_cases a : (uw x : Int) > uw y
  · rw [if_pos (by omega), if_pos a]
  · rw [if_neg (by omega), if_neg a]
    by_cases b : (uw x : Int) = uw y
    · rw [if_pos (by omega), if_pos b]
    · rw [if_neg (by omega), if_neg b]
theorem w_mul32 (x y : Int32) : (x.toInt64 * y.toInt64).toInt32 = x * y := by rw [Int64.toInt32_mul, Int32.toInt32_toInt64, Int32.toInt32_toInt64]
theorem w_add32 (x y : Int32) (c : Int64) : (x.toInt64 + y.toInt64 + c).toInt32 = x + y + c.toInt32 := by rw [Int64.toInt32_add, Int64.toInt32_add, Int32.toInt32_toInt64, Int32.toInt32_toInt64]
theorem w_sub32 (x y : Int32) : (x.toInt64 - y.toInt64).toInt32 = x - y := by rw [Int64.toInt32_sub, Int32.toInt32_toInt64, Int32.toInt32_toInt64]
theorem u_long32 (x : Int32) : (x.toInt64 &&& 4294967295).toInt32 = x := by
  apply Int32.toBitVec_inj.mp
  rw [Int64.toBitVec_toInt32, Int64.toBitVec_and, Int32.toBitVec_toInt64]
  apply BitVec.eq_of_getLsbD_eq
  intro i hi
  have hm : ∀ i, i < 32 → (4294967295 : Int64).toBitVec.getLsbD i = true := by decide +kernel
  rw [BitVec.getLsbD_signExtend, if_pos (by omega), BitVec.getLsbD_and, hm i hi, BitVec.getLsbD_signExtend, if_pos hi, decide_eq_true hi, decide_eq_true (show i < 64 by omega)]
  simp
theorem w_umul32 (x y : Int32) : ((x.toInt64 &&& 4294967295) * (y.toInt64 &&& 4294967295)).toInt32 = x * y := by rw [Int64.toInt32_mul, u_long32, u_long32]
theorem w_high (P : Int64) : (lg_cmp (jlushr P 32) 0 = 0) ↔ (¬ lg_cmp P 0 < 0 ∧ lg_cmp P 4294967295 ≤ 0) := by
  rw [lg_0, lg_lt, lg_le]
  have e1 : ((32 : Int32).toInt64.toUInt64 &&& Int64.toUInt64 63).toBitVec % 64 = 32#64 := by decide
  have a1 : (jlushr P 32).toBitVec = P.toBitVec >>> 32 := by
    show P.toBitVec >>> (((32 : Int32).toInt64.toUInt64 &&& Int64.toUInt64 63).toBitVec % 64) = _
    rw [e1]
    rfl
  have a2 : (jlushr P 32).toBitVec.toNat = P.toBitVec.toNat / 4294967296 := by rw [a1, BitVec.toNat_ushiftRight, Nat.shiftRight_eq_div_pow]
  have c1 : (jlushr P 32).toInt = if 2 * (jlushr P 32).toBitVec.toNat < 2^64 then ((jlushr P 32).toBitVec.toNat : Int) else ((jlushr P 32).toBitVec.toNat : Int) - (2^64 : Nat) := BitVec.toInt_eq_toNat_cond _
  have c2 : P.toInt = if 2 * P.toBitVec.toNat < 2^64 then (P.toBitVec.toNat : Int) else (P.toBitVec.toNat : Int) - (2^64 : Nat) := BitVec.toInt_eq_toNat_cond _
  have hl := P.toBitVec.isLt
  rw [a2] at c1
  rw [if_pos (by omega)] at c1
  have z0 : (0 : Int64).toInt = 0 := rfl
  have z1 : (4294967295 : Int64).toInt = 4294967295 := rfl
  rw [c1, c2, z0, z1]
  constructor
  · intro h; split <;> omega
  · intro h; split at h <;> omega
theorem w_divm1 (x : Int32) : x / (-1) = -x := by
  apply Int32.toInt_inj.mp
  rw [Int32.toInt_div, show (-1 : Int32).toInt = -1 from rfl, Int32.toInt_neg, Int.tdiv_neg, Int.tdiv_one]
theorem w_31n (x : Int32) : ∃ k : Fin 32, x &&& 31 = nI k.val := by
  refine ⟨⟨uw x % 32, by omega⟩, ?_⟩
  apply u_ext
  have : uw (x &&& 31) = uw x % 32 := by
    unfold uw
    rw [Int32.toBitVec_and, BitVec.toNat_and, show (31 : Int32).toBitVec.toNat = 2^5 - 1 from rfl, Nat.and_two_pow_sub_one_eq_mod]
  rw [this]
  show _ = (Int32.ofNat (uw x % 32)).toBitVec.toNat
  rw [Int32.toBitVec_ofNat', BitVec.toNat_ofNat]
  omega
theorem w_rot (x y : Int32) : fJ6_rotateRight_7cf53 x (y &&& 31) = fX11_rotated x y := by
  unfold fJ6_rotateRight_7cf53 fX11_rotated
  obtain ⟨k, hk⟩ := w_31n y
  rw [hk]
  by_cases h : k.val = 0
  · rw [h, if_pos (by decide)]
    refine b_ext (fun i hi => ?_)
    rw [b_or]
    have e1 : bt (jushr x (nI 0)) i = bt x (0 + i) := b_ushr 0 (by omega) x i
    have e2 : bt (x <<< ((-(nI 0)) &&& 31)) i = (decide (0 ≤ i) && bt x (i - 0)) := b_shl 0 (by omega) x hi
    rw [e1, e2]; simp
  · have e3 : ∀ k : Fin 32, (-(nI k.val)) &&& 31 = (32 - nI k.val) &&& 31 := by decide +kernel
    have e4 : ∀ k : Fin 32, k.val ≠ 0 → ¬ nI k.val = 0 := by decide +kernel
    rw [if_neg (e4 k h), e3 k]

theorem w_bit (x : Int32) (n : Nat) (hn : n < 32) : ((jushr x (nI n)) &&& 1 = 1) ↔ bt x n = true := by
  have e : bt ((jushr x (nI n)) &&& 1) 0 = bt x n := by
    rw [b_and]
    have e1 : bt (jushr x (nI n)) 0 = bt x (n + 0) := b_ushr n hn x 0
    rw [e1, show bt 1 0 = true from by decide]; simp
  constructor
  · intro h; rw [← e, h]; decide
  · intro h
    rw [h] at e
    refine b_ext (fun i hi => ?_)
    by_cases h0 : i = 0
    · subst h0; rw [e]; decide
    · have hb : ∀ i, i < 32 → i ≠ 0 → bt 1 i = false := by decide +kernel
      rw [b_and, hb i hi h0]; simp
/-- the number of the highest bit that is 1, from 1 on, below n -/
def hiBit (x : Int32) : Nat → Nat
  | 0 => 0
  | n + 1 => if bt x n = true then n + 1 else hiBit x n
/-- the number of the lowest bit that is 1, from i on, with n places to look at -/
def loBit (x : Int32) (i : Nat) : Nat → Nat
  | 0 => 0
  | n + 1 => if bt x i = true then i + 1 else loBit x (i + 1) n
theorem hi_le (x : Int32) : ∀ n, hiBit x n ≤ n
  | 0 => Nat.le_refl 0
  | n + 1 => by unfold hiBit; have := hi_le x n; split <;> omega
theorem k33 : ∀ n : Fin 33, ¬ (33 : Int32) ≤ nI n.val := by decide +kernel
theorem k_1 : ∀ n : Fin 33, n.val ≠ 0 → nI n.val - 1 = nI (n.val - 1) := by decide +kernel
theorem k_p : ∀ n : Fin 33, nI n.val + 1 = nI (n.val + 1) := by decide +kernel
theorem g_hi (x : Int32) : ∀ (m n : Nat), n + m = 32 → gX11_bitOf_4 x 0 (m + 1) (nI (n + 1), nI (hiBit x n)) = nI (hiBit x 32)
  | 0, n, h => by
    have : n = 32 := by omega
    subst this
    show (if (33 : Int32) ≤ nI 33 then nI (hiBit x 32) else _) = _
    rw [if_pos (by decide)]
  | m + 1, n, h => by
    show (if (33 : Int32) ≤ nI (n + 1) then nI (hiBit x n) else gX11_bitOf_4 x 0 (m + 1) (nI (n + 1) + 1, if ((jushr x (nI (n + 1) - 1)) &&& 1) = 1 then (if nI (hiBit x n) = 0 then nI (n + 1) else (if (0 : Int32) = 0 then nI (n + 1) else nI (hiBit x n))) else nI (hiBit x n))) = _
    rw [if_neg (k33 ⟨n + 1, by omega⟩), show nI (n + 1) - 1 = nI n from k_1 ⟨n + 1, by omega⟩ (by simp), show nI (n + 1) + 1 = nI (n + 1 + 1) from k_p ⟨n + 1, by omega⟩]
    have e : (if ((jushr x (nI n)) &&& 1) = 1 then (if nI (hiBit x n) = 0 then nI (n + 1) else (if (0 : Int32) = 0 then nI (n + 1) else nI (hiBit x n))) else nI (hiBit x n)) = nI (hiBit x (n + 1)) := by
      rw [if_pos (show (0 : Int32) = 0 from rfl)]
      by_cases hb : bt x n = true
      · rw [if_pos ((w_bit x n (by omega)).mpr hb), show hiBit x (n + 1) = n + 1 from if_pos hb]
        split <;> rfl
      · rw [if_neg (fun q => hb ((w_bit x n (by omega)).mp q)), show hiBit x (n + 1) = hiBit x n from if_neg hb]
    rw [e]
    exact g_hi x m (n + 1) (by omega)
theorem k_n0 : ∀ n : Fin 33, n.val ≠ 0 → ¬ nI n.val = 0 := by decide +kernel
theorem g_lo1 (x : Int32) (r : Int32) (hr : ¬ r = 0) : ∀ (m n : Nat), n + m = 32 → gX11_bitOf_4 x 1 (m + 1) (nI (n + 1), r) = r
  | 0, n, h => by
    have : n = 32 := by omega
    subst this
    show (if (33 : Int32) ≤ nI 33 then r else _) = _
    rw [if_pos (by decide)]
  | m + 1, n, h => by
    show (if (33 : Int32) ≤ nI (n + 1) then r else gX11_bitOf_4 x 1 (m + 1) (nI (n + 1) + 1, if ((jushr x (nI (n + 1) - 1)) &&& 1) = 1 then (if r = 0 then nI (n + 1) else (if (1 : Int32) = 0 then nI (n + 1) else r)) else r)) = _
    rw [if_neg (k33 ⟨n + 1, by omega⟩), show nI (n + 1) + 1 = nI (n + 1 + 1) from k_p ⟨n + 1, by omega⟩, if_neg hr, if_neg (show ¬ (1 : Int32) = 0 by decide), show (if ((jushr x (nI (n + 1) - 1)) &&& 1) = 1 then r else r) = r by split <;> rfl]
    exact g_lo1 x r hr m (n + 1) (by omega)
theorem g_lo (x : Int32) : ∀ (m n : Nat), n + m = 32 → gX11_bitOf_4 x 1 (m + 1) (nI (n + 1), 0) = nI (loBit x n m)
  | 0, n, h => by
    have : n = 32 := by omega
    subst this
    show (if (33 : Int32) ≤ nI 33 then 0 else _) = _
    rw [if_pos (by decide)]
    rfl
  | m + 1, n, h => by
    show (if (33 : Int32) ≤ nI (n + 1) then 0 else gX11_bitOf_4 x 1 (m + 1) (nI (n + 1) + 1, if ((jushr x (nI (n + 1) - 1)) &&& 1) = 1 then (if (0 : Int32) = 0 then nI (n + 1) else (if (1 : Int32) = 0 then nI (n + 1) else 0)) else 0)) = _
    rw [if_neg (k33 ⟨n + 1, by omega⟩), show nI (n + 1) - 1 = nI n from k_1 ⟨n + 1, by omega⟩ (by simp), show nI (n + 1) + 1 = nI (n + 1 + 1) from k_p ⟨n + 1, by omega⟩, if_pos (show (0 : Int32) = 0 from rfl)]
    by_cases hb : bt x n = true
    · rw [if_pos ((w_bit x n (by omega)).mpr hb), show loBit x n (m + 1) = n + 1 from if_pos hb]
      exact g_lo1 x _ (k_n0 ⟨n + 1, by omega⟩ (by simp)) m (n + 1) (by omega)
    · rw [if_neg (fun q => hb ((w_bit x n (by omega)).mp q)), show loBit x n (m + 1) = loBit x (n + 1) m from if_neg hb]
      exact g_lo x m (n + 1) (by omega)
theorem bt_n (x : Int32) (i : Nat) : bt x i = (uw x).testBit i := rfl
/-- the highest bit by size -/
theorem hi_size (x : Int32) : ∀ n, uw x < 2 ^ n → (hiBit x n = 0 ∧ uw x = 0) ∨ (∃ k, hiBit x n = k + 1 ∧ k < n ∧ 2 ^ k ≤ uw x ∧ uw x < 2 ^ (k + 1))
  | 0, h => Or.inl ⟨rfl, by simpa using h⟩
  | n + 1, h => by
    unfold hiBit
    rw [bt_n]
    by_cases hb : (uw x).testBit n = true
    · rw [if_pos hb]
      exact Or.inr ⟨n, rfl, by omega, Nat.ge_two_pow_of_testBit hb, h⟩
    · rw [if_neg hb]
      have hl : uw x < 2 ^ n := by
        refine Nat.lt_of_not_le fun q => hb ?_
        exact Nat.testBit_of_two_pow_le_and_two_pow_add_one_gt q h
      rcases hi_size x n hl with a | ⟨k, a, b, c⟩
      · exact Or.inl a
      · exact Or.inr ⟨k, a, by omega, c⟩
theorem lo_size (x : Int32) : ∀ m i, (∀ j, j < i → bt x j = false) → (loBit x i m = 0 ∧ ∀ j, j < i + m → bt x j = false) ∨ (∃ k, loBit x i m = k + 1 ∧ k < i + m ∧ bt x k = true ∧ ∀ j, j < k → bt x j = false)
  | 0, i, h => Or.inl ⟨rfl, h⟩
  | m + 1, i, h => by
    unfold loBit
    by_cases hb : bt x i = true
    · rw [if_pos hb]; exact Or.inr ⟨i, rfl, by omega, hb, h⟩
    · rw [if_neg hb]
      rcases lo_size x m (i + 1) (fun j hj => by
        by_cases q : j = i
        · subst q; simpa using hb
        · exact h j (by omega)) with ⟨a, b⟩ | ⟨k, a, b, c⟩
      · exact Or.inl ⟨a, fun j hj => b j (by omega)⟩
      · exact Or.inr ⟨k, a, by omega, c⟩

theorem u_nI {a : Nat} (h : a < 4294967296) : uw (nI a) = a := by
  show (Int32.ofNat a).toBitVec.toNat = a
  rw [Int32.toBitVec_ofNat', BitVec.toNat_ofNat]
  omega
theorem u_self (x : Int32) : x = nI (uw x) := u_ext (u_nI (u_lt x)).symm
theorem u_ushr (x : Int32) (n : Nat) (hn : n < 32) : uw (jushr x (nI n)) = uw x / 2 ^ n := by
  show (x.toUInt32 >>> ((nI n).toUInt32 &&& Int32.toUInt32 31)).toBitVec.toNat = _
  rw [UInt32.toBitVec_shiftRight]
  show (x.toUInt32.toBitVec >>> (((nI n).toUInt32 &&& Int32.toUInt32 31).toBitVec % 32).toNat).toNat = _
  rw [s_u n hn, BitVec.toNat_ushiftRight, Nat.shiftRight_eq_div_pow]
  rfl
theorem u_lti {x y : Int32} (hx : uw x < 2147483648) (hy : uw y < 2147483648) : x < y ↔ uw x < uw y := by
  rw [Int32.lt_iff_toInt_lt, u_int x, u_int y, if_pos hx, if_pos hy]; omega
theorem pow_div {a k s : Nat} (h1 : 2 ^ k ≤ a) (h2 : a < 2 ^ (k + 1)) (hs : s ≤ k) : 2 ^ (k - s) ≤ a / 2 ^ s ∧ a / 2 ^ s < 2 ^ (k - s + 1) := by
  constructor
  · rw [Nat.le_div_iff_mul_le (Nat.two_pow_pos s), ← Nat.pow_add, Nat.sub_add_cancel hs]; exact h1
  · rw [Nat.div_lt_iff_lt_mul (Nat.two_pow_pos s), ← Nat.pow_add, show k - s + 1 + s = k + 1 by omega]; exact h2
theorem k_sub : ∀ n : Fin 32, ∀ s : Fin 32, s.val ≤ n.val → nI n.val - nI s.val = nI (n.val - s.val) := by decide +kernel
theorem nlz_step {s k n a : Nat} (h1 : 2 ^ k ≤ a) (h2 : a < 2 ^ (k + 1)) (hk : k < 2 * s) (hk2 : k < 31) (hs : s ≤ 16) (hn : n < 32) (hns : s ≤ n) : ∃ k' a' n', (if nI a < nI (2 ^ s) then (nI n, nI a) else (nI n - nI s, jushr (nI a) (nI s))) = (nI n', nI a') ∧ 2 ^ k' ≤ a' ∧ a' < 2 ^ (k' + 1) ∧ k' < s ∧ n' + k = n + k' ∧ n' ≤ n ∧ n ≤ n' + s ∧ k' ≤ k := by
  have ha : a < 2 ^ 31 := Nat.lt_of_lt_of_le h2 (Nat.pow_le_pow_right (by decide) (by omega))
  have hs2 : 2 ^ s ≤ 2 ^ 16 := Nat.pow_le_pow_right (by decide) hs
  have hlt : nI a < nI (2 ^ s) ↔ a < 2 ^ s := by
    rw [u_lti (by rw [u_nI (by omega)]; omega) (by rw [u_nI (by omega)]; omega), u_nI (by omega), u_nI (by omega)]
  by_cases h : k < s
  · have h3 : a < 2 ^ s := Nat.lt_of_lt_of_le h2 (Nat.pow_le_pow_right (by decide) (by omega))
    exact ⟨k, a, n, if_pos (hlt.mpr h3), h1, h2, h, by omega, by omega, by omega, by omega⟩
  · have h3 : ¬ a < 2 ^ s := Nat.not_lt.mpr (Nat.le_trans (Nat.pow_le_pow_right (by decide) (by omega)) h1)
    obtain ⟨p1, p2⟩ := pow_div h1 h2 (show s ≤ k by omega)
    refine ⟨k - s, a / 2 ^ s, n - s, ?_, p1, p2, by omega, by omega, by omega, by omega, by omega⟩
    rw [if_neg (fun q => h3 (hlt.mp q)), k_sub ⟨n, hn⟩ ⟨s, by omega⟩ hns]
    have e : jushr (nI a) (nI s) = nI (a / 2 ^ s) := by
      apply u_ext
      rw [u_ushr _ _ (by omega), u_nI (by omega), u_nI (by have := Nat.div_le_self a (2 ^ s); omega)]
    rw [e]
theorem nlz_k {a k : Nat} (h1 : 2 ^ k ≤ a) (h2 : a < 2 ^ (k + 1)) (hk : k < 31) : fJ6_numberOfLeadingZeros_0f7a4 (nI a) = nI (31 - k) := by
  have ha : a < 2 ^ 31 := Nat.lt_of_lt_of_le h2 (Nat.pow_le_pow_right (by decide) (by omega))
  have ha0 : 0 < a := Nat.lt_of_lt_of_le (Nat.two_pow_pos k) h1
  have hp : (0 : Int32) < nI a := by
    have := u_lti (x := nI 0) (y := nI a) (by rw [u_nI (by omega)]; omega) (by rw [u_nI (by omega)]; omega)
    rw [u_nI (by omega), u_nI (by omega)] at this
    exact this.mpr ha0
  unfold fJ6_numberOfLeadingZeros_0f7a4
  rw [if_pos hp]
  obtain ⟨k1, a1, n1, e1, b1, c1, d1, f1, g1, i1, i1'⟩ := nlz_step (s := 16) (n := 31) h1 h2 (by omega) hk (by omega) (by omega) (by omega)
  have e1' : (if nI a < 65536 then ((31 : Int32), nI a) else ((31 : Int32) + (-16), jushr (nI a) 16)) = (nI n1, nI a1) := e1
  rw [e1']
  dsimp only
  obtain ⟨k2, a2, n2, e2, b2, c2, d2, f2, g2, i2, i2'⟩ := nlz_step (s := 8) (n := n1) b1 c1 (by omega) (by omega) (by omega) (by omega) (by omega)
  have e2' : (if nI a1 < 256 then (nI n1, nI a1) else (nI n1 + (-8), jushr (nI a1) 8)) = (nI n2, nI a2) := by rw [← e2, Int32.sub_eq_add_neg]; rfl
  rw [e2']
  dsimp only
  obtain ⟨k3, a3, n3, e3, b3, c3, d3, f3, g3, i3, i3'⟩ := nlz_step (s := 4) (n := n2) b2 c2 (by omega) (by omega) (by omega) (by omega) (by omega)
  have e3' : (if nI a2 < 16 then (nI n2, nI a2) else (nI n2 + (-4), jushr (nI a2) 4)) = (nI n3, nI a3) := by rw [← e3, Int32.sub_eq_add_neg]; rfl
  rw [e3']
  dsimp only
  obtain ⟨k4, a4, n4, e4, b4, c4, d4, f4, g4, i4, i4'⟩ := nlz_step (s := 2) (n := n3) b3 c3 (by omega) (by omega) (by omega) (by omega) (by omega)
  have e4' : (if nI a3 < 4 then (nI n3, nI a3) else (nI n3 + (-2), jushr (nI a3) 2)) = (nI n4, nI a4) := by rw [← e4, Int32.sub_eq_add_neg]; rfl
  rw [e4']
  dsimp only
  have hu : jushr (nI a4) 1 = nI k4 := by
    apply u_ext
    rw [show jushr (nI a4) 1 = jushr (nI a4) (nI 1) from rfl, u_ushr _ _ (by omega)]
    rcases (show k4 = 0 ∨ k4 = 1 by omega) with rfl | rfl
    · have : a4 = 1 := by omega
      subst this; decide
    · have h4 : a4 < 4 := c4
      have h5 : 2 ≤ a4 := b4
      rw [u_nI (by omega), u_nI (by omega)]; omega
  rw [hu, k_sub ⟨n4, by omega⟩ ⟨k4, by omega⟩ (by show k4 ≤ n4; omega)]
  exact congrArg nI (show n4 - k4 = 31 - k by omega)
theorem k32 : ∀ n : Fin 32, (32 : Int32) - nI n.val = nI (32 - n.val) := by decide +kernel
theorem w_hi (x : Int32) : 32 - fJ6_numberOfLeadingZeros_0f7a4 x = fX11_bitOf x 0 := by
  have e : fX11_bitOf x 0 = nI (hiBit x 32) := g_hi x 32 0 rfl
  rw [e]
  rcases hi_size x 32 (u_lt x) with ⟨a, b⟩ | ⟨k, a, b, c, d⟩
  · have hx : x = 0 := u_ext b
    rw [a, hx]; rfl
  · rw [a]
    by_cases hk : k < 31
    · rw [u_self x, nlz_k c d hk, k32 ⟨31 - k, by omega⟩]
      exact congrArg nI (show 32 - (31 - k) = k + 1 by omega)
    · have : k = 31 := by omega
      subst this
      have hn : fJ6_numberOfLeadingZeros_0f7a4 x = 0 := by
        unfold fJ6_numberOfLeadingZeros_0f7a4
        have c' : 2147483648 ≤ uw x := c
        have h1 : x.toInt < 0 := by
          rw [u_int, if_neg (by omega)]; have := u_lt x; omega
        rw [if_neg, if_neg]
        · intro q; rw [q] at h1; exact absurd h1 (by decide)
        · rw [Int32.lt_iff_toInt_lt]; show ¬ (0 : Int) < _; omega
      rw [hn]; rfl
def ntzc (y : Int32) : Int32 :=
  if 0 < y then ((let j1 : Int32 × Int32 := if y ≤ 65536 then ((1, y)) else ((1 + 16, jushr y 16)); (let j2 : Int32 × Int32 := if j1.2 ≤ 256 then ((j1.1, j1.2)) else ((j1.1 + 8, jushr j1.2 8)); (let j3 : Int32 × Int32 := if j2.2 ≤ 16 then ((j2.1, j2.2)) else ((j2.1 + 4, jushr j2.2 4)); (let j4 : Int32 × Int32 := if j3.2 ≤ 4 then ((j3.1, j3.2)) else ((j3.1 + 2, jushr j3.2 2)); j4.1 + (jushr j4.2 1)))))) else (y &&& 32)
theorem ntzc_k : ∀ t : Fin 32, ntzc (nI (2 ^ t.val - 1)) + 1 = nI (t.val + 1) := by decide +kernel
theorem bt_pow {t i : Nat} (ht : t < 32) (hi : i < 32) : bt (nI (2 ^ t - 1)) i = decide (i < t) := by
  rw [bt_n, u_nI (by have : 2 ^ t ≤ 2 ^ 31 := Nat.pow_le_pow_right (by decide) (by omega); omega), Nat.testBit_two_pow_sub_one]
theorem low_form (x : Nat) : ∀ t, (∀ j, j < t → x.testBit j = false) → x.testBit t = true → ∃ m, x = 2 ^ (t + 1) * m + 2 ^ t := by
  intro t h ht
  refine ⟨x / 2 ^ (t + 1), ?_⟩
  have e : x % 2 ^ (t + 1) = 2 ^ t := by
    apply Nat.eq_of_testBit_eq
    intro i
    rw [Nat.testBit_mod_two_pow, Nat.testBit_two_pow]
    by_cases h1 : i < t
    · rw [h i h1]; simp; omega
    · by_cases h2 : t = i
      · subst h2; rw [ht]; simp
      · rw [decide_eq_false (show ¬ i < t + 1 by omega), decide_eq_false h2]; rfl
  have := Nat.div_add_mod x (2 ^ (t + 1))
  omega
theorem w_lo (x : Int32) (hx : ¬ x = 0) : fJ6_numberOfTrailingZeros_0f7a4 x + 1 = fX11_bitOf x 1 := by
  have e : fX11_bitOf x 1 = nI (loBit x 0 32) := g_lo x 32 0 rfl
  rw [e]
  rcases lo_size x 32 0 (fun j hj => absurd hj (by omega)) with ⟨a, b⟩ | ⟨t, a, b, c, d⟩
  · exact absurd (b_ext (fun i hi => by rw [b i (by omega), b_0])) hx
  · rw [a]
    have ht : t < 32 := by omega
    have hf : (x ^^^ (-1)) &&& (x - 1) = nI (2 ^ t - 1) := by
      obtain ⟨m, hm⟩ := low_form (uw x) t (fun j hj => d j hj) c
      have hpos := Nat.two_pow_pos t
      have hs : uw (x - 1) = 2 ^ (t + 1) * m + (2 ^ t - 1) := by
        rw [u_sub, show uw 1 = 1 from rfl]
        have := u_lt x
        omega
      refine b_ext (fun i hi => ?_)
      rw [bt_pow ht hi, b_and, b_xor, b_m1 i hi, bt_n (x - 1), hs]
      by_cases h1 : i < t
      · rw [d i h1, Nat.testBit_two_pow_mul_add _ (by rw [Nat.pow_succ]; omega), if_pos (by omega), Nat.testBit_two_pow_sub_one]
        simp
      · by_cases h2 : i = t
        · subst h2; rw [c, decide_eq_false h1]; simp
        · rw [bt_n x, hm, Nat.testBit_two_pow_mul_add _ (by rw [Nat.pow_succ]; omega), Nat.testBit_two_pow_mul_add _ (by rw [Nat.pow_succ]; omega), if_neg (by omega), if_neg (by omega), decide_eq_false h1]
          cases (m.testBit (i - (t + 1))) <;> rfl
    show ntzc ((x ^^^ (-1)) &&& (x - 1)) + 1 = _
    rw [hf]
    exact ntzc_k ⟨t, ht⟩


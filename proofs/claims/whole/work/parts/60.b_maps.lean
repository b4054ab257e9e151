/-! ===== pure: maps of pages ===== -/
theorem i32_0 : ((0 : Int32)).toInt = 0 := rfl
theorem ile (x y : Int32) : x ≤ y ↔ x.toInt ≤ y.toInt := Int32.le_iff_toInt_le
theorem ilt (x y : Int32) : x < y ↔ x.toInt < y.toInt := Int32.lt_iff_toInt_lt
theorem ieq (x y : Int32) : x = y ↔ x.toInt = y.toInt := Int32.toInt_inj.symm
theorem u_and {x m : Int32} (k : Nat) (hm : uw m = 2 ^ k - 1) : uw (x &&& m) = uw x % 2 ^ k := by
  unfold uw at *
  rw [Int32.toBitVec_and, BitVec.toNat_and, hm, Nat.and_two_pow_sub_one_eq_mod]
theorem setOf_rem {sets : Int32} (hs : sets = 16 ∨ sets = 32 ∨ sets = 64 ∨ sets = 128) (p : Int32) : ∃ k : Nat, k < 128 ∧ fX5_setOf sets p = nI k ∧ jrem (jushr p 10) sets = nI k := by
  have e : uw (jushr p 10) = uw p / 1024 := u_ushr p 10 (by omega)
  have hl : uw p / 1024 < 4194304 := by have := u_lt p; omega
  have e2 : jushr p 10 = nI (uw p / 1024) := by rw [u_self (jushr p 10), e]
  unfold fX5_setOf
  rw [e2]
  rcases hs with rfl | rfl | rfl | rfl
  · exact ⟨uw p / 1024 % 16, by omega, pk_andN (by omega) 4 (by decide), pk_rem (d := 16) (by omega) (by omega) (by omega)⟩
  · exact ⟨uw p / 1024 % 32, by omega, pk_andN (by omega) 5 (by decide), pk_rem (d := 32) (by omega) (by omega) (by omega)⟩
  · exact ⟨uw p / 1024 % 64, by omega, pk_andN (by omega) 6 (by decide), pk_rem (d := 64) (by omega) (by omega) (by omega)⟩
  · exact ⟨uw p / 1024 % 128, by omega, pk_andN (by omega) 7 (by decide), pk_rem (d := 128) (by omega) (by omega) (by omega)⟩
theorem sets_n0 {sets : Int32} (hs : sets = 16 ∨ sets = 32 ∨ sets = 64 ∨ sets = 128) : ¬ sets = 0 := by rcases hs with rfl | rfl | rfl | rfl <;> decide
theorem rem2 (m : Int32) : (jrem m 2 = 0) ↔ (m &&& 1 = 0) := by
  rw [w_m1, ieq]
  have e : (jrem m 2).toInt = m.toInt.tmod 2 := by
    show (m - m / 2 * 2).toInt = _
    have h1 := Int32.toInt_lt m
    have h2 := Int32.le_toInt m
    have hd : (m / 2).toInt = m.toInt.tdiv 2 := Int32.toInt_div_of_ne_right m 2 (by decide)
    have ht : m.toInt.tdiv 2 * 2 = m.toInt - m.toInt.tmod 2 := by have := Int.mul_tdiv_add_tmod m.toInt 2; omega
    have hb1 := Int.tmod_lt_of_pos m.toInt (show (0 : Int) < 2 by decide)
    have hb2 := Int.lt_tmod_of_pos m.toInt (show (0 : Int) < 2 by decide)
    rw [Int32.toInt_sub, Int32.toInt_mul, hd, show (2 : Int32).toInt = 2 from rfl, ht, Int.sub_bmod_bmod, Int.sub_sub_self, Int.bmod_eq_of_le (by omega) (by omega)]
  rw [e, i32_0]
  rw [Int.tmod_eq_emod]
  split <;> omega
theorem u_join (e x : Int32) : uw (fX5_join e x) = uw e / 1024 * 1024 + uw x % 1024 := by
  unfold fX5_join
  apply Nat.eq_of_testBit_eq
  intro i
  rw [show uw e / 1024 * 1024 + uw x % 1024 = 2 ^ 10 * (uw e / 1024) + uw x % 1024 by omega, Nat.testBit_two_pow_mul_add _ (by omega), ← bt_n]
  by_cases hi : i < 32
  · have h1 : ∀ i, i < 32 → bt (-1024) i = decide (¬ i < 10) := by decide +kernel
    have h2 : ∀ i, i < 32 → bt 1023 i = decide (i < 10) := by decide +kernel
    rw [b_or, b_and, b_and, h1 i hi, h2 i hi]
    by_cases h : i < 10
    · rw [if_pos h, show uw x % 1024 = uw x % 2 ^ 10 from rfl, Nat.testBit_mod_two_pow, bt_n]; simp [h, bt_n]
    · rw [if_neg h, show uw e / 1024 = uw e / 2 ^ 10 from rfl, Nat.testBit_div_two_pow, bt_n]
      simp [h, bt_n, show i - 10 + 10 = i by omega]
  · rw [b_big (by omega), if_neg (by omega)]
    refine (Nat.testBit_lt_two_pow ?_).symm
    have := u_lt e
    have : 2 ^ 22 ≤ 2 ^ (i - 10) := Nat.pow_le_pow_right (by decide) (by omega)
    omega
theorem l_nn {x : Int32} (h : uw x < 2147483648) : x.toInt64.toInt = uw x := by rw [i_long, u_int, if_pos h]
theorem join_long (e x : Int32) : ((jushr e 10).toInt64 * 1024) + (x &&& 1023).toInt64 = (fX5_join e x).toInt64 &&& 4294967295 := by
  apply Int64.toInt_inj.mp
  have a1 : uw (jushr e 10) = uw e / 1024 := u_ushr e 10 (by omega)
  have a2 : uw (x &&& 1023) = uw x % 1024 := u_and 10 (by decide)
  have := u_lt e
  rw [u_long, u_join, Int64.toInt_add, Int64.toInt_mul, l_nn (by omega), l_nn (by omega), a1, a2, show (1024 : Int64).toInt = 1024 from rfl, Int.bmod_add_bmod, Int.bmod_eq_of_le (by omega) (by omega)]
  omega
theorem k_lt0 (J : Int32) : J < 0 ↔ ¬ uw J < 2147483648 := by
  rw [ilt, i32_0, u_int]
  have := u_lt J
  by_cases h : uw J < 2147483648
  · rw [if_pos h]; omega
  · rw [if_neg h]; omega
theorem k_lt (J : Int32) (c : Nat) (hc : c < 2147483648) (h : uw J < 2147483648) : J < nI c ↔ uw J < c := by
  rw [u_lti h (by rw [u_nI (by omega)]; exact hc), u_nI (by omega)]
theorem c_fin (J : Int32) : (if J < 0 then (-2 : Int32) else (if J < 32768 then J else (-2))) = if uw J < 32768 then J else (-2) := by
  by_cases h : uw J < 2147483648
  · rw [if_neg (by rw [k_lt0]; omega)]
    have e : J < 32768 ↔ uw J < 32768 := k_lt J 32768 (by omega) h
    by_cases h2 : uw J < 32768
    · rw [if_pos h2, if_pos (e.mpr h2)]
    · rw [if_neg h2, if_neg (fun q => h2 (e.mp q))]
  · rw [if_pos ((k_lt0 J).mpr h), if_neg (by omega)]
theorem d_fin (J : Int32) (lo : Nat) (hlo : lo ≤ 32768) : (if J < nI lo then (-2 : Int32) else (if J < 65536 then J else (-2))) = if lo ≤ uw J ∧ uw J < 65536 then J else (-2) := by
  by_cases h : uw J < 2147483648
  · have e1 := k_lt J lo (by omega) h
    have e : J < 65536 ↔ uw J < 65536 := k_lt J 65536 (by omega) h
    by_cases h1 : uw J < lo
    · rw [if_pos (e1.mpr h1), if_neg (by omega)]
    · rw [if_neg (fun q => h1 (e1.mp q))]
      by_cases h2 : uw J < 65536
      · rw [if_pos (e.mpr h2), if_pos (by omega)]
      · rw [if_neg (fun q => h2 (e.mp q)), if_neg (by omega)]
  · have hn : J < nI lo := by
      have h0 := (k_lt0 J).mpr h
      rw [ilt] at h0 ⊢
      have : (nI lo).toInt = lo := by rw [u_int, u_nI (by omega), if_pos (by omega)]
      rw [i32_0] at h0
      omega
    rw [if_pos hn, if_neg (by omega)]
theorem u_longp (J : Int32) : 0 ≤ (J.toInt64 &&& 4294967295).toInt := by rw [u_long]; omega
theorem m_fin (J : Int32) (j2 : Int64) (hj : j2 = J.toInt64 &&& 4294967295) : (let j3 : Int32 := if (lg_cmp j2 (-1)) = 0 then (10) else (if (lg_cmp j2 (-2)) = 0 then (4) else (if (lg_cmp j2 32767) ≤ 0 then (0) else (2))); if j3 ≤ 0 then ((j2.toInt32, j3)) else ((0, j3))) = if uw J < 32768 then (J, 0) else (0, 2) := by
  subst hj
  have h0 := u_longp J
  have e1 : ¬ (lg_cmp (J.toInt64 &&& 4294967295) (-1)) = 0 := by rw [lg_0, show (-1 : Int64).toInt = -1 from rfl]; omega
  have e2 : ¬ (lg_cmp (J.toInt64 &&& 4294967295) (-2)) = 0 := by rw [lg_0, show (-2 : Int64).toInt = -2 from rfl]; omega
  have e3 : (lg_cmp (J.toInt64 &&& 4294967295) 32767) ≤ 0 ↔ uw J < 32768 := by rw [lg_le, u_long, show (32767 : Int64).toInt = 32767 from rfl]; omega
  rw [if_neg e1, if_neg e2, u_long32]
  by_cases h : uw J < 32768
  · rw [if_pos (e3.mpr h), if_pos h]; rfl
  · rw [if_neg (fun q => h (e3.mp q)), if_neg h]; rfl
theorem n_fin (J : Int32) (j3 : Int64) (hj : j3 = J.toInt64 &&& 4294967295) (p2 : Int32) : (if 0 ≤ (lg_cmp j3 0) then (if 0 < (lg_cmp j3 65535) then ((-2)) else (if p2 = 0 then (j3.toInt32) else (if 0 ≤ (lg_cmp j3 32768) then (j3.toInt32) else ((-2))))) else (if (lg_cmp j3 (-1)) = 0 then ((-9)) else ((-3)))) = if (if p2 = 0 then 0 else 32768) ≤ uw J ∧ uw J < 65536 then J else (-2) := by
  subst hj
  have h0 := u_longp J
  have e1 : 0 ≤ (lg_cmp (J.toInt64 &&& 4294967295) 0) := by rw [lg_ge]; exact h0
  have e2 : 0 < (lg_cmp (J.toInt64 &&& 4294967295) 65535) ↔ ¬ uw J < 65536 := by rw [lg_gt, u_long, show (65535 : Int64).toInt = 65535 from rfl]; omega
  have e3 : 0 ≤ (lg_cmp (J.toInt64 &&& 4294967295) 32768) ↔ 32768 ≤ uw J := by rw [lg_ge, u_long, show (32768 : Int64).toInt = 32768 from rfl]; omega
  rw [if_pos e1, u_long32]
  by_cases h : uw J < 65536
  · rw [if_neg (fun q => e2.mp q h)]
    by_cases hp : p2 = 0
    · rw [if_pos hp, if_pos hp, if_pos (by omega)]
    · rw [if_neg hp, if_neg hp]
      by_cases h3 : 32768 ≤ uw J
      · rw [if_pos (e3.mpr h3), if_pos (by omega)]
      · rw [if_neg (fun q => h3 (e3.mp q)), if_neg (by omega)]
  · rw [if_pos (e2.mpr h), if_neg (by omega)]
/-- what a place is: found, or the number of the exception -/
def codeR (J : Int32) : Int32 := if uw J < 32768 then J else (-2)
def dataR (J : Int32) (p2 : Int32) : Int32 := if (if p2 = 0 then 0 else 32768) ≤ uw J ∧ uw J < 65536 then J else (-2)
theorem has_b (ms : Nat → Int32) (c : Int32) : fX11_has ms c = if (ms 0 &&& c) = 0 then 0 else 1 := rfl
theorem ix_add {b k : Nat} (hb : b ≤ 384) (hk : k < 128) : (nI b + nI k).toNatClampNeg = b + k := by rw [nI_add, nI_clamp (by omega)]
theorem matches_m (m p : Int32) : fX5_matches m p = 0 ↔ ((jrem m 2 = 0) ∨ ¬ jushr m 10 = jushr p 10) := by
  unfold fX5_matches
  rw [rem2]
  by_cases h : m &&& 1 = 0
  · rw [if_pos h]; exact ⟨fun _ => Or.inl h, fun _ => rfl⟩
  · rw [if_neg h]
    by_cases h2 : jushr m 10 = jushr p 10
    · rw [if_pos h2]; exact ⟨fun q => absurd q (by decide), fun q => q.elim (fun a => absurd a h) (fun a => absurd h2 a)⟩
    · rw [if_neg h2]; exact ⟨fun _ => Or.inr h2, fun _ => rfl⟩
theorem e_mapped {sets : Int32} (hs : sets = 16 ∨ sets = 32 ∨ sets = 64 ∨ sets = 128) {wo mw : Nat → Int32} (hw : ∀ j, j < 512 → wo j = mw j) (p : Int32) (b : Nat) (hb : b ≤ 256) (bit : Int32) :
    (fX5_matches (wo (nI b + fX5_setOf sets p).toNatClampNeg) p = 0 ∧ fX11_mapped sets mw p (nI b) bit = -1) ∨
    (¬ fX5_matches (wo (nI b + fX5_setOf sets p).toNatClampNeg) p = 0 ∧ (((wo (nI (b + 128) + fX5_setOf sets p).toNatClampNeg) &&& bit = 0 ∧ fX11_mapped sets mw p (nI b) bit = -2) ∨ (¬ (wo (nI (b + 128) + fX5_setOf sets p).toNatClampNeg) &&& bit = 0 ∧ fX11_mapped sets mw p (nI b) bit = (fX5_join (wo (nI (b + 128) + fX5_setOf sets p).toNatClampNeg) p).toInt64 &&& 4294967295))) := by
  obtain ⟨k, hk, e1, e2⟩ := setOf_rem hs p
  unfold fX11_mapped
  rw [e1, e2, show nI b + 128 = nI (b + 128) from nI_add b 128, ix_add (by omega) hk, ix_add (by omega) hk, hw _ (by omega), hw _ (by omega), matches_m, ← join_long]
  by_cases h1 : jrem (mw (b + k)) 2 = 0
  · exact Or.inl ⟨Or.inl h1, if_pos h1⟩
  · rw [if_neg h1]
    by_cases h2 : jushr (mw (b + k)) 10 = jushr p 10
    · rw [if_pos h2]
      refine Or.inr ⟨fun q => q.elim h1 (fun a => a h2), ?_⟩
      by_cases h3 : mw (b + 128 + k) &&& bit = 0
      · exact Or.inl ⟨h3, if_pos h3⟩
      · exact Or.inr ⟨h3, if_neg h3⟩
    · exact Or.inl ⟨Or.inr h2, if_neg h2⟩
theorem e_code {sets sr : Int32} (hs : sets = 16 ∨ sets = 32 ∨ sets = 64 ∨ sets = 128) {wo mw ms : Nat → Int32} (hw : ∀ j, j < 512 → wo j = mw j) (h0 : sr = ms 0) (p : Int32) :
    ∃ c : Int32, fX5_codePlace sets wo p sr = c ∧ ((∃ a : Nat, a < 32768 ∧ a % 4 = 0 ∧ c = nI a ∧ fX11_codeAt sets ms mw p = (nI a, 0)) ∨ (∃ n : Nat, 0 < n ∧ n ≤ 14 ∧ c = -nI n ∧ fX11_codeAt sets ms mw p = (0, nI n))) := by
  refine ⟨_, rfl, ?_⟩
  have hc : ∀ n : Fin 15, n.val ≠ 0 → True := fun _ _ => trivial
  have fin : ∀ J : Int32, uw J % 4 = 0 → (∃ a : Nat, a < 32768 ∧ a % 4 = 0 ∧ (if uw J < 32768 then J else (-2 : Int32)) = nI a ∧ (if uw J < 32768 then (J, (0 : Int32)) else ((0 : Int32), (2 : Int32))) = (nI a, 0)) ∨ (∃ n : Nat, 0 < n ∧ n ≤ 14 ∧ (if uw J < 32768 then J else (-2 : Int32)) = -nI n ∧ (if uw J < 32768 then (J, (0 : Int32)) else ((0 : Int32), (2 : Int32))) = (0, nI n)) := by
    intro J hJ
    by_cases h : uw J < 32768
    · refine Or.inl ⟨uw J, h, hJ, ?_, ?_⟩
      · rw [if_pos h]; exact u_self J
      · rw [if_pos h, ← u_self J]
    · refine Or.inr ⟨2, by omega, by omega, ?_, ?_⟩
      · rw [if_neg h]; rfl
      · rw [if_neg h]; rfl
  unfold fX5_codePlace fX11_codeAt
  by_cases hp : (p &&& 3) = 0
  · rw [if_pos hp, if_pos hp]
    have hp4 : uw p % 4 = 0 := by
      have := u_and (x := p) (m := 3) 2 (by decide)
      rw [hp] at this
      have z : uw 0 = 0 := rfl
      omega
    dsimp only
    rw [has_b, has_b, ← h0]
    by_cases h16 : sr &&& 16 = 0
    · rw [if_pos h16, if_pos h16, if_pos rfl]
      have := m_fin p _ rfl
      dsimp only at this
      rw [this, c_fin]
      exact fin p hp4
    · rw [if_neg h16, if_neg h16, if_neg (show ¬ (1 : Int32) = 0 by decide)]
      have e1 : (if (if (sr &&& 1) = 0 then (0 : Int32) else 1) = 0 then (1 : Int32) else 4) = if (sr &&& 1) = 0 then 1 else 4 := by
        by_cases h : sr &&& 1 = 0
        · rw [if_pos h, if_pos h, if_pos rfl]
        · rw [if_neg h, if_neg h, if_neg (by decide)]
      rw [e1]
      rcases e_mapped hs hw p 0 (by omega) (if (sr &&& 1) = 0 then 1 else 4) with ⟨a, b⟩ | ⟨a, ⟨b, c⟩ | ⟨b, c⟩⟩
      · have a' : fX5_matches (wo (0 + fX5_setOf sets p).toNatClampNeg) p = 0 := a
        have b' : fX11_mapped sets mw p 0 (if (sr &&& 1) = 0 then 1 else 4) = -1 := b
        rw [if_pos a', b']
        exact Or.inr ⟨10, by omega, by omega, rfl, rfl⟩
      · have a' : ¬ fX5_matches (wo (0 + fX5_setOf sets p).toNatClampNeg) p = 0 := a
        have b' : (wo (128 + fX5_setOf sets p).toNatClampNeg) &&& (if (sr &&& 1) = 0 then 1 else 4) = 0 := b
        have c' : fX11_mapped sets mw p 0 (if (sr &&& 1) = 0 then 1 else 4) = -2 := c
        rw [if_neg a', if_pos b', c']
        exact Or.inr ⟨4, by omega, by omega, rfl, rfl⟩
      · have a' : ¬ fX5_matches (wo (0 + fX5_setOf sets p).toNatClampNeg) p = 0 := a
        have b' : ¬ (wo (128 + fX5_setOf sets p).toNatClampNeg) &&& (if (sr &&& 1) = 0 then 1 else 4) = 0 := b
        have c' : fX11_mapped sets mw p 0 (if (sr &&& 1) = 0 then 1 else 4) = (fX5_join (wo (128 + fX5_setOf sets p).toNatClampNeg) p).toInt64 &&& 4294967295 := c
        rw [if_neg a', if_neg b']
        have := m_fin _ _ c'
        dsimp only at this
        rw [this, c_fin]
        exact fin _ (by rw [u_join]; omega)
  · rw [if_neg hp, if_neg hp]
    exact Or.inr ⟨6, by omega, by omega, rfl, rfl⟩

theorem d_fin' (J p2 : Int32) : (let j1 : Int32 := if p2 = 0 then (0) else (32768); if J < j1 then ((-2 : Int32)) else (if J < 65536 then J else (-2))) = dataR J p2 := by
  unfold dataR
  dsimp only
  by_cases h : p2 = 0
  · rw [if_pos h, if_pos h]; exact d_fin J 0 (by omega)
  · rw [if_neg h, if_neg h]; exact d_fin J 32768 (by omega)
theorem e_data {sets sr : Int32} (hs : sets = 16 ∨ sets = 32 ∨ sets = 64 ∨ sets = 128) {wo mw ms : Nat → Int32} (hw : ∀ j, j < 512 → wo j = mw j) (h0 : sr = ms 0) (p sz p2 : Int32) (hp : p &&& (sz - 1) = 0) :
    fX11_dataAt sets ms mw p sz p2 = fX5_dataPlace sets wo p sr p2 ∧ ((∃ J : Int32, fX5_dataPlace sets wo p sr p2 = dataR J p2 ∧ uw J % 1024 = uw p % 1024) ∨ fX5_dataPlace sets wo p sr p2 = -9 ∨ fX5_dataPlace sets wo p sr p2 = -3) := by
  unfold fX5_dataPlace fX11_dataAt
  rw [if_pos hp]
  dsimp only
  rw [has_b, has_b, ← h0]
  by_cases h8 : sr &&& 8 = 0
  · rw [if_pos h8, if_pos h8, if_pos rfl, n_fin p _ rfl p2]
    have := d_fin' p p2
    dsimp only at this
    rw [this]
    exact ⟨rfl, Or.inl ⟨p, rfl, rfl⟩⟩
  · rw [if_neg h8, if_neg h8, if_neg (show ¬ (1 : Int32) = 0 by decide)]
    have e1 : (if p2 = 0 then (if (if (sr &&& 1) = 0 then (0 : Int32) else 1) = 0 then (1 : Int32) else 4) else (if (if (sr &&& 1) = 0 then (0 : Int32) else 1) = 0 then (2 : Int32) else 8)) = if (sr &&& 1) = 0 then (if p2 = 0 then 1 else 2) else 4 * (if p2 = 0 then 1 else 2) := by
      by_cases h : sr &&& 1 = 0
      · by_cases h2 : p2 = 0
        · simp only [h, h2, if_true]
        · simp only [h, h2, if_true, if_false]
      · by_cases h2 : p2 = 0
        · simp only [h, h2, if_true, if_false, show ¬ (1 : Int32) = 0 by decide]; rfl
        · simp only [h, h2, if_false, show ¬ (1 : Int32) = 0 by decide]; rfl
    rw [e1]
    rcases e_mapped hs hw p 256 (by omega) (if (sr &&& 1) = 0 then (if p2 = 0 then 1 else 2) else 4 * (if p2 = 0 then 1 else 2)) with ⟨a, b⟩ | ⟨a, ⟨b, c⟩ | ⟨b, c⟩⟩
    · have a' : fX5_matches (wo (256 + fX5_setOf sets p).toNatClampNeg) p = 0 := a
      have b' : fX11_mapped sets mw p 256 (if (sr &&& 1) = 0 then (if p2 = 0 then 1 else 2) else 4 * (if p2 = 0 then 1 else 2)) = -1 := b
      rw [if_pos a', b']
      exact ⟨rfl, Or.inr (Or.inl rfl)⟩
    · have a' : ¬ fX5_matches (wo (256 + fX5_setOf sets p).toNatClampNeg) p = 0 := a
      have b' : (wo (384 + fX5_setOf sets p).toNatClampNeg) &&& (if (sr &&& 1) = 0 then (if p2 = 0 then 1 else 2) else 4 * (if p2 = 0 then 1 else 2)) = 0 := b
      have c' : fX11_mapped sets mw p 256 (if (sr &&& 1) = 0 then (if p2 = 0 then 1 else 2) else 4 * (if p2 = 0 then 1 else 2)) = -2 := c
      rw [if_neg a', if_pos b', c']
      exact ⟨rfl, Or.inr (Or.inr rfl)⟩
    · have a' : ¬ fX5_matches (wo (256 + fX5_setOf sets p).toNatClampNeg) p = 0 := a
      have b' : ¬ (wo (384 + fX5_setOf sets p).toNatClampNeg) &&& (if (sr &&& 1) = 0 then (if p2 = 0 then 1 else 2) else 4 * (if p2 = 0 then 1 else 2)) = 0 := b
      have c' : fX11_mapped sets mw p 256 (if (sr &&& 1) = 0 then (if p2 = 0 then 1 else 2) else 4 * (if p2 = 0 then 1 else 2)) = (fX5_join (wo (384 + fX5_setOf sets p).toNatClampNeg) p).toInt64 &&& 4294967295 := c
      rw [if_neg a', if_neg b', n_fin _ _ c' p2]
      have := d_fin' (fX5_join (wo (384 + fX5_setOf sets p).toNatClampNeg) p) p2
      dsimp only at this
      rw [this]
      exact ⟨rfl, Or.inl ⟨_, rfl, by rw [u_join]; omega⟩⟩
theorem s_mapped {sets : Int32} (hs : sets = 16 ∨ sets = 32 ∨ sets = 64 ∨ sets = 128) {mw : Nat → Int32} (p bit : Int32) (b : Nat) (hb : b ≤ 256) : sX11_mapped sets mw p (nI b) bit := by
  obtain ⟨k, hk, e1, e2⟩ := setOf_rem hs p
  unfold sX11_mapped
  rw [e2, show nI b + 128 = nI (b + 128) from nI_add b 128, nI_add, nI_add]
  exact ⟨sets_n0 hs, vp_in_nI (by omega) (by decide), sets_n0 hs, vp_in_nI (by omega) (by decide), fun _ => trivial, fun _ => ⟨fun _ => ⟨fun _ => trivial, fun _ => trivial⟩, fun _ => trivial⟩⟩
theorem s_set {sets : Int32} (hs : sets = 16 ∨ sets = 32 ∨ sets = 64 ∨ sets = 128) (p : Int32) (b : Nat) (hb : b ≤ 384) : vp_in (nI b + fX5_setOf sets p) 512 := by
  obtain ⟨k, hk, e1, e2⟩ := setOf_rem hs p
  rw [e1, nI_add]
  exact vp_in_nI (by omega) (by decide)
theorem s_code {sets : Int32} (hs : sets = 16 ∨ sets = 32 ∨ sets = 64 ∨ sets = 128) (wo : Nat → Int32) (p sr : Int32) : sX5_codePlace sets wo p sr := by
  unfold sX5_codePlace
  have h1 := s_set hs p 128 (by omega)
  have h2 := s_set hs p 0 (by omega)
  refine ⟨fun _ => ⟨fun _ => ⟨fun _ => trivial, fun _ => ⟨fun _ => trivial, fun _ => trivial⟩⟩, fun _ => ?_⟩, fun _ => trivial⟩
  intro z hz
  subst hz
  refine ⟨h1, h2, fun _ _ => ⟨fun _ => trivial, fun _ => ⟨⟨fun _ => trivial, fun _ => trivial⟩, fun _ _ => ⟨fun _ => trivial, fun _ => fun _ _ => ⟨fun _ => trivial, fun _ => ⟨fun _ => trivial, fun _ => trivial⟩⟩⟩⟩⟩⟩
theorem s_data {sets : Int32} (hs : sets = 16 ∨ sets = 32 ∨ sets = 64 ∨ sets = 128) (wo : Nat → Int32) (p sr p2 : Int32) : sX5_dataPlace sets wo p sr p2 := by
  unfold sX5_dataPlace
  have h1 := s_set hs p 384 (by omega)
  have h2 := s_set hs p 256 (by omega)
  refine ⟨fun _ => ⟨⟨fun _ => trivial, fun _ => trivial⟩, fun _ _ => ⟨fun _ => trivial, fun _ => ⟨fun _ => trivial, fun _ => trivial⟩⟩⟩, fun _ => ?_⟩
  intro z hz
  subst hz
  refine ⟨h1, ⟨fun _ => trivial, fun _ => trivial⟩, fun _ _ => ⟨h2, fun _ _ => ⟨fun _ => trivial, fun _ => ⟨⟨fun _ => trivial, fun _ => trivial⟩, fun _ _ => ⟨fun _ => trivial, fun _ => fun _ _ => ⟨⟨fun _ => trivial, fun _ => trivial⟩, fun _ _ => ⟨fun _ => trivial, fun _ => ⟨fun _ => trivial, fun _ => trivial⟩⟩⟩⟩⟩⟩⟩⟩
theorem sm_code {sets : Int32} (hs : sets = 16 ∨ sets = 32 ∨ sets = 64 ∨ sets = 128) (ms mw : Nat → Int32) (p : Int32) : sX11_codeAt sets ms mw p := by
  unfold sX11_codeAt
  refine ⟨fun _ => fun _ _ => ⟨⟨fun _ => trivial, fun _ => fun _ _ => ⟨⟨fun _ => trivial, fun _ => trivial⟩, fun _ _ => ⟨s_mapped hs p _ 0 (by omega), fun _ _ => trivial⟩⟩⟩, fun _ _ => ⟨⟨fun _ => trivial, fun _ => ⟨fun _ => trivial, fun _ => ⟨fun _ => trivial, fun _ => trivial⟩⟩⟩, fun _ _ => ⟨fun _ => trivial, fun _ => trivial⟩⟩⟩, fun _ => trivial⟩
theorem sm_data {sets : Int32} (hs : sets = 16 ∨ sets = 32 ∨ sets = 64 ∨ sets = 128) (ms mw : Nat → Int32) (p p1 p2 : Int32) : sX11_dataAt sets ms mw p p1 p2 := by
  unfold sX11_dataAt
  refine ⟨fun _ => ⟨⟨fun _ => fun _ _ => ⟨fun _ => trivial, fun _ => trivial⟩, fun _ => fun _ _ => ⟨fun _ => trivial, fun _ => trivial⟩⟩, fun _ _ => fun _ _ => ⟨⟨fun _ => trivial, fun _ => ⟨s_mapped hs p _ 256 (by omega), fun _ _ => trivial⟩⟩, fun _ _ => ⟨fun _ => ⟨fun _ => trivial, fun _ => ⟨fun _ => trivial, fun _ => ⟨fun _ => trivial, fun _ => trivial⟩⟩⟩, fun _ => ⟨fun _ => trivial, fun _ => trivial⟩⟩⟩⟩, fun _ => trivial⟩

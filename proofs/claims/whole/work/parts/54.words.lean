/-! ===== pure: memory. Words on the class's side, bytes on the reference's ===== -/
theorem bt_step (f : Nat → Int32) (a n : Nat) {j : Nat} (hj : j < 32) : bt (wdn f a (n + 1)) j = if j < 8 then bt (f (a + n)) j else bt (wdn f a n) (j - 8) := by
  show bt ((wdn f a n <<< ((8 : Int32) &&& 31)) ||| (f (a + n) &&& 255)) j = _
  rw [b_or, b_shl8 _ hj, b_and, b_255]
  by_cases h : j < 8
  · have h2 : ¬ 8 ≤ j := by omega
    simp [h, h2]
  · have h2 : 8 ≤ j := by omega
    simp [h, h2]
theorem bt_wd (f : Nat → Int32) (a : Nat) {i : Nat} (hi : i < 32) : bt (wd f a) i = bt (f (a + (3 - i / 8))) (i % 8) := by
  unfold wd
  rw [bt_step f a 3 hi]
  by_cases h1 : i < 8
  · rw [if_pos h1, show i / 8 = 0 by omega, show i % 8 = i by omega]
  · rw [if_neg h1, bt_step f a 2 (by omega)]
    by_cases h2 : i - 8 < 8
    · rw [if_pos h2, show i / 8 = 1 by omega, show i % 8 = i - 8 by omega]
    · rw [if_neg h2, bt_step f a 1 (by omega)]
      by_cases h3 : i - 8 - 8 < 8
      · rw [if_pos h3, show i / 8 = 2 by omega, show i % 8 = i - 8 - 8 by omega]
      · rw [if_neg h3, bt_step f a 0 (by omega), if_pos (by omega), show i / 8 = 3 by omega, show i % 8 = i - 8 - 8 - 8 by omega]
theorem wd_congr {f g : Nat → Int32} {a : Nat} (h : ∀ k, k < 4 → f (a + k) = g (a + k)) : wd f a = wd g a := by
  refine b_ext (fun i hi => ?_)
  rw [bt_wd f a hi, bt_wd g a hi, h (3 - i / 8) (by omega)]
/-- one byte of what put() writes -/
def pb (v : Int32) (n k : Nat) : Int32 := (v >>> ((8 * ((nI n - 1) - nI k)) &&& 31)).toInt8.toInt32
theorem b_low8 (x : Int32) {i : Nat} (hi : i < 8) : bt (x.toInt8.toInt32) i = bt x i := by
  have h := congrArg (fun z => bt z i) (bp_b x)
  simp only [b_and, b_255, hi, decide_true, Bool.and_true] at h
  exact h
theorem pb_sh {n k : Nat} (hn : n ≤ 4) (hk : k < n) : (8 : Int32) * ((nI n - 1) - nI k) = nI (8 * (n - 1 - k)) := by
  have e1 : nI n - 1 = nI (n - 1) := pk_sub (b := 1) (by omega)
  rw [e1, pk_sub (by omega)]
  exact pk_mul 8 (n - 1 - k)
theorem bt_pb (v : Int32) {n k i : Nat} (hn : n ≤ 4) (hk : k < n) (hi : i < 8) : bt (pb v n k) i = bt v (8 * (n - 1 - k) + i) := by
  unfold pb
  rw [b_low8 _ hi, pb_sh hn hk, b_sshr _ (by omega) v (by omega), if_pos (by omega)]
theorem g_put {a n : Nat} {v : Int32} (hn : n ≤ 4) (ha : a + n ≤ 65536) : ∀ (f k : Nat) (m : Nat → Int32) (j : Nat), k ≤ n → n < k + f → gX11_put_3 (nI a) v (nI n) f (nI k, m) j = if a + k ≤ j ∧ j < a + n then pb v n (j - a) else m j
  | 0, k, m, j, h1, h2 => absurd h2 (by omega)
  | f + 1, k, m, j, h1, h2 => by
    show (if nI n ≤ nI k then m else gX11_put_3 (nI a) v (nI n) f (nI k + 1, upd m (nI a + nI k).toNatClampNeg (vp_nar .byte (pb v n k)))) j = _
    by_cases h3 : n ≤ k
    · rw [if_pos (nI_le h3 (by omega)), if_neg (by omega)]
    · rw [if_neg (nI_ge (by omega) (by omega)), nI_1, nI_add, nI_clamp (by omega), g_put hn ha f (k + 1) _ j (by omega) (by omega)]
      have hnar : vp_nar .byte (pb v n k) = pb v n k := pk_vb _
      rw [hnar]
      by_cases h4 : a + (k + 1) ≤ j ∧ j < a + n
      · rw [if_pos h4, if_pos (by omega)]
      · rw [if_neg h4]
        by_cases h5 : j = a + k
        · subst h5
          rw [pk_us, if_pos (by omega), show a + k - a = k by omega]
        · rw [pk_un h5, if_neg (by omega)]
theorem s_put {a n : Nat} {v : Int32} (hn : n ≤ 4) (ha : a + n ≤ 65536) : ∀ (f k : Nat) (m : Nat → Int32), k ≤ n → n < k + f → sgX11_put_3 (nI a) v (nI n) f (nI k, m)
  | 0, k, m, h1, h2 => absurd h2 (by omega)
  | f + 1, k, m, h1, h2 => by
    refine ⟨fun _ => trivial, fun h3 => ?_⟩
    have h3' : ¬ n ≤ k := fun q => h3 (nI_le q (by omega))
    refine ⟨?_, ?_⟩
    · show vp_in (nI a + nI k) 65536
      rw [nI_add]
      exact vp_in_nI (by omega) (by decide)
    · show sgX11_put_3 (nI a) v (nI n) f (nI k + 1, _)
      rw [nI_1]
      exact s_put hn ha f (k + 1) _ (by omega) (by omega)
theorem f_put {a n : Nat} {v : Int32} {m : Nat → Int32} (hn : n ≤ 4) (ha : a + n ≤ 65536) (j : Nat) : fX11_put m (nI a) v (nI n) j = if a ≤ j ∧ j < a + n then pb v n (j - a) else m j := g_put hn ha 5 0 m j (by omega) (by omega)
theorem g_word {a : Nat} {m : Nat → Int32} (ha : a + 4 ≤ 65536) : ∀ (f k : Nat), k ≤ 4 → 4 < k + f → gX11_wordIn_4 m (nI a) f (nI k, wdn m a k) = wd m a
  | 0, k, h1, h2 => absurd h2 (by omega)
  | f + 1, k, h1, h2 => by
    show (if 4 ≤ nI k then wdn m a k else gX11_wordIn_4 m (nI a) f (nI k + 1, (wdn m a k <<< ((8 : Int32) &&& 31)) ||| (m (nI a + nI k).toNatClampNeg &&& 255))) = _
    by_cases h3 : 4 ≤ k
    · have h4 : k = 4 := by omega
      subst h4
      rw [if_pos (by decide)]
      rfl
    · rw [if_neg (show ¬ (4 : Int32) ≤ nI k from nI_ge (b := 4) (by omega) (by decide)), nI_1, nI_add, nI_clamp (by omega)]
      exact g_word ha f (k + 1) (by omega) (by omega)
theorem s_word {a : Nat} {m : Nat → Int32} (ha : a + 4 ≤ 65536) : ∀ (f k : Nat) (v : Int32), k ≤ 4 → 4 < k + f → sgX11_wordIn_4 m (nI a) f (nI k, v)
  | 0, k, v, h1, h2 => absurd h2 (by omega)
  | f + 1, k, v, h1, h2 => by
    refine ⟨fun _ => trivial, fun h3 => ?_⟩
    have h3' : ¬ 4 ≤ k := fun q => h3 (nI_le (a := 4) q (by omega))
    refine ⟨?_, ?_⟩
    · show vp_in (nI a + nI k) 65536
      rw [nI_add]
      exact vp_in_nI (by omega) (by decide)
    · show sgX11_wordIn_4 m (nI a) f (nI k + 1, _)
      rw [nI_1]
      exact s_word ha f (k + 1) _ (by omega) (by omega)
theorem f_word {a : Nat} {m : Nat → Int32} (ha : a + 4 ≤ 65536) : fX11_wordIn m (nI a) = wd m a := g_word ha 5 0 (by omega) (by omega)
theorem mix_nI {a : Nat} (ha : a < 65536) : mix (nI a) = a / 4 := by
  have e1 : fX6_pageOf (nI a) = nI (a / 1024 % 64) := by
    show jushr (nI a) 10 &&& 63 = _
    rw [show jushr (nI a) 10 = nI (a / 1024) from pk_ushrN (by omega) 10 10 (by decide)]
    exact pk_andN (by omega) 6 (by decide)
  have e2 : fX6_wordOf (nI a) = nI (a / 4 % 256) := by
    show jushr (nI a) 2 &&& 255 = _
    rw [show jushr (nI a) 2 = nI (a / 4) from pk_ushrN (by omega) 2 2 (by decide)]
    exact pk_andN (by omega) 8 (by decide)
  unfold mix mpage mword
  rw [e1, e2, nI_clamp (by omega), nI_clamp (by omega)]
  omega
theorem mpage_nI {a : Nat} (ha : a < 65536) : mpage (nI a) = a / 4 / 256 := by
  have e1 : fX6_pageOf (nI a) = nI (a / 1024 % 64) := by
    show jushr (nI a) 10 &&& 63 = _
    rw [show jushr (nI a) 10 = nI (a / 1024) from pk_ushrN (by omega) 10 10 (by decide)]
    exact pk_andN (by omega) 6 (by decide)
  unfold mpage
  rw [e1, nI_clamp (by omega)]
  omega

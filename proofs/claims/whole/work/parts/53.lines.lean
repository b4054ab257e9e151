/-! ===== pure: lines. The class goes on from 'passed', the reference looks at all entries ===== -/
/-- how many entries have a count of at most ret: the first c of them -/
def Upto (n : Nat) (co : Nat → Int32) (ret : Int32) (c : Nat) : Prop := c ≤ n ∧ (∀ j, j < c → co j ≤ ret) ∧ ∀ j, c ≤ j → j < n → ret < co j
theorem upto_ex {n : Nat} {co : Nat → Int32} (ret : Int32) (hinc : ∀ i j, i < j → j < n → co i < co j) : ∃ c, Upto n co ret c := by
  obtain ⟨c, hc, hl⟩ := pk_least (fun k => n ≤ k ∨ ret < co k) ⟨n, Or.inl (Nat.le_refl _)⟩
  have hcn : c ≤ n := Nat.not_lt.mp fun q => hl n q (Or.inl (Nat.le_refl _))
  refine ⟨c, hcn, fun j hj => ?_, fun j h1 h2 => ?_⟩
  · have h := hl j hj
    rw [le_i]
    have h3 : ¬ ret < co j := fun q => h (Or.inr q)
    rw [li] at h3
    omega
  · rcases hc with h | h
    · omega
    · rcases Nat.lt_or_eq_of_le h1 with h3 | h3
      · have := hinc c j h3 h2
        rw [li] at this h ⊢
        omega
      · subst h3; exact h
def lineV (va : Nat → Int32) (c : Nat) : Int32 := if c = 0 then 0 else va (c - 1)
theorem g_at {n c : Nat} {co va : Nat → Int32} {ret : Int32} (hn : n ≤ 32) (hc : Upto n co ret c) : ∀ (f k : Nat), k ≤ c → c < k + f → gX4_at_0 (nI n) co va ret f (nI k) = (lineV va c, nI c)
  | 0, k, h1, h2 => absurd h2 (by omega)
  | f + 1, k, h1, h2 => by
    have hcn := hc.1
    show (if nI n ≤ nI k then (if nI k = 0 then ((0 : Int32), nI k) else (va (nI k - 1).toNatClampNeg, nI k)) else (if ret < co (nI k).toNatClampNeg then (if nI k = 0 then (0, nI k) else (va (nI k - 1).toNatClampNeg, nI k)) else gX4_at_0 (nI n) co va ret f (nI k + 1))) = _
    have hfin : k = c → (if nI k = 0 then ((0 : Int32), nI k) else (va (nI k - 1).toNatClampNeg, nI k)) = (lineV va c, nI c) := by
      intro e
      subst e
      unfold lineV
      by_cases h0 : k = 0
      · subst h0
        rw [if_pos (by decide), if_pos rfl]
      · rw [if_neg (nI_ne0 (by omega) (by omega)), if_neg h0]
        obtain ⟨k', rfl⟩ : ∃ k', k = k' + 1 := ⟨k - 1, by omega⟩
        rw [nI_pred, nI_clamp (by omega)]
        rfl
    by_cases h3 : n ≤ k
    · rw [if_pos (nI_le h3 (by omega))]
      exact hfin (by omega)
    · rw [if_neg (nI_ge (by omega) (by omega)), nI_clamp (by omega)]
      by_cases h4 : ret < co k
      · rw [if_pos h4]
        refine hfin (Nat.le_antisymm h1 (Nat.not_lt.mp fun q => ?_))
        have := hc.2.1 k q
        rw [le_i] at this
        rw [li] at h4
        omega
      · rw [if_neg h4, nI_1]
        have h5 : k ≠ c := fun e => h4 (hc.2.2 k (by omega) (by omega))
        exact g_at hn hc f (k + 1) (by omega) (by omega)
theorem s_at {n c : Nat} {co va : Nat → Int32} {ret : Int32} (hn : n ≤ 32) (hc : Upto n co ret c) : ∀ (f k : Nat), k ≤ c → c < k + f → sgX4_at_0 (nI n) co va ret f (nI k)
  | 0, k, h1, h2 => absurd h2 (by omega)
  | f + 1, k, h1, h2 => by
    have hcn := hc.1
    have hlast : (nI k = 0 → True) ∧ (¬ (nI k = 0) → ((vp_in (nI k - 1) 32) ∧ True)) := by
      refine ⟨fun _ => trivial, fun h => ⟨?_, trivial⟩⟩
      obtain ⟨k', rfl⟩ : ∃ k', k = k' + 1 := ⟨k - 1, by
        have : k ≠ 0 := fun e => h (by rw [e]; rfl)
        omega⟩
      rw [nI_pred]
      exact vp_in_nI (by omega) (by decide)
    refine ⟨fun _ => hlast, fun h3 => ⟨?_, fun _ => hlast, fun h4 => ?_⟩⟩
    · have : ¬ n ≤ k := fun q => h3 (nI_le q (by omega))
      exact vp_in_nI (by omega) (by decide)
    · have h3' : ¬ n ≤ k := fun q => h3 (nI_le q (by omega))
      have h4 : ¬ ret < co (nI k).toNatClampNeg := h4
      rw [nI_clamp (by omega)] at h4
      have h5 : k ≠ c := fun e => h4 (hc.2.2 k (by omega) (by omega))
      show sgX4_at_0 (nI n) co va ret f (nI k + 1)
      rw [nI_1]
      exact s_at hn hc f (k + 1) (by omega) (by omega)
theorem g_now {n c : Nat} {co va : Nat → Int32} {ret : Int32} (hn : n ≤ 32) (hc : Upto n co ret c) : ∀ (f k : Nat) (v : Int32), k ≤ n → n < k + f → gX11_linesNow_4 ret (nI n) co va f (nI k, v) = if c ≤ k then v else va (c - 1)
  | 0, k, v, h1, h2 => absurd h2 (by omega)
  | f + 1, k, v, h1, h2 => by
    have hcn := hc.1
    show (if nI n ≤ nI k then v else gX11_linesNow_4 ret (nI n) co va f (nI k + 1, (if ret < co (nI k).toNatClampNeg then v else va (nI k).toNatClampNeg))) = _
    by_cases h3 : n ≤ k
    · rw [if_pos (nI_le h3 (by omega)), if_pos (by omega)]
    · rw [if_neg (nI_ge (by omega) (by omega)), nI_clamp (by omega), nI_1, g_now hn hc f (k + 1) _ (by omega) (by omega)]
      by_cases h4 : c ≤ k
      · rw [if_pos (by omega), if_pos h4, if_pos (hc.2.2 k h4 (by omega))]
      · rw [if_neg h4]
        have h5 : ¬ ret < co k := fun q => by
          have := hc.2.1 k (by omega)
          rw [le_i] at this
          rw [li] at q
          omega
        by_cases h6 : c ≤ k + 1
        · rw [if_pos h6, if_neg h5]
          have : k = c - 1 := by omega
          rw [← this]
        · rw [if_neg h6]
theorem s_now {n : Nat} {co va : Nat → Int32} {ret : Int32} (hn : n ≤ 32) : ∀ (f k : Nat) (v : Int32), k ≤ n → n < k + f → sgX11_linesNow_4 ret (nI n) co va f (nI k, v)
  | 0, k, v, h1, h2 => absurd h2 (by omega)
  | f + 1, k, v, h1, h2 => by
    refine ⟨fun _ => trivial, fun h3 => ?_⟩
    have h3' : ¬ n ≤ k := fun q => h3 (nI_le q (by omega))
    have hin : vp_in (nI k) 32 := vp_in_nI (by omega) (by decide)
    refine ⟨hin, ⟨fun _ => trivial, fun _ => ⟨hin, trivial⟩⟩, fun j hj => ?_⟩
    show sgX11_linesNow_4 ret (nI n) co va f (nI k + 1, j)
    rw [nI_1]
    exact s_now hn f (k + 1) j (by omega) (by omega)
/-- the same entry on both sides; the class's 'passed' goes on, and stays right -/
theorem e_lines {size passed ret : Int32} {co va mlc mlv : Nat → Int32} (h : LinesOk size passed co ret) (h1 : ∀ j, j < 32 → co j = mlc j) (h2 : ∀ j, j < 32 → va j = mlv j) : (fX4_at passed size co va ret).1 = fX11_linesNow ret size mlc mlv ∧ LinesOk size (fX4_at passed size co va ret).2 co ret := by
  obtain ⟨n, k, rfl, hn, rfl, hk, hinc, hpos, hpas⟩ := h
  obtain ⟨c, hc⟩ := upto_ex ret hinc
  have hkc : k ≤ c := Nat.not_lt.mp fun q => by
    have a1 := hpas c q
    have a2 := hc.2.2 c (Nat.le_refl _) (by omega)
    rw [le_i] at a1
    rw [li] at a2
    omega
  have hcn := hc.1
  have hcm : Upto n mlc ret c := ⟨hc.1, fun j hj => by rw [← h1 j (by omega)]; exact hc.2.1 j hj, fun j a b => by rw [← h1 j (by omega)]; exact hc.2.2 j a b⟩
  have e1 : fX4_at (nI k) (nI n) co va ret = (lineV va c, nI c) := g_at hn hc 33 k hkc (by omega)
  have e2 : fX11_linesNow ret (nI n) mlc mlv = if c ≤ 0 then 0 else mlv (c - 1) := g_now hn hcm 33 0 0 (by omega) (by omega)
  rw [e1, e2]
  refine ⟨?_, n, c, rfl, hn, rfl, hcn, hinc, hpos, hc.2.1⟩
  unfold lineV
  by_cases h0 : c = 0
  · rw [if_pos h0, if_pos (by omega)]
  · rw [if_neg h0, if_neg (by omega)]
    exact h2 (c - 1) (by omega)
theorem s_lines {size passed ret : Int32} {co va : Nat → Int32} (h : LinesOk size passed co ret) : sX4_at passed size co va ret := by
  obtain ⟨n, k, rfl, hn, rfl, hk, hinc, hpos, hpas⟩ := h
  obtain ⟨c, hc⟩ := upto_ex ret hinc
  have hkc : k ≤ c := Nat.not_lt.mp fun q => by
    have a1 := hpas c q
    have a2 := hc.2.2 c (Nat.le_refl _) (by omega)
    rw [le_i] at a1
    rw [li] at a2
    omega
  have hcn := hc.1
  exact s_at hn hc 33 k hkc (by omega)
theorem sm_lines {size passed ret : Int32} {co mlc mlv : Nat → Int32} (h : LinesOk size passed co ret) : sX11_linesNow ret size mlc mlv := by
  obtain ⟨n, k, rfl, hn, rfl, hk, hinc, hpos, hpas⟩ := h
  exact s_now hn 33 0 0 (by omega) (by omega)
/-- RETIRED grows: what is passed stays passed -/
theorem lines_mono {size passed ret ret' : Int32} {co : Nat → Int32} (h : LinesOk size passed co ret) (hr : ret ≤ ret') : LinesOk size passed co ret' := by
  obtain ⟨n, k, e1, hn, e2, hk, hinc, hpos, hpas⟩ := h
  refine ⟨n, k, e1, hn, e2, hk, hinc, hpos, fun j hj => ?_⟩
  have := hpas j hj
  rw [le_i] at this hr ⊢
  omega

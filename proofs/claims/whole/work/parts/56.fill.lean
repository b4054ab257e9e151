/-! ===== pure: Arrays.fill, and what begin() leaves ===== -/
theorem g_fill {n : Nat} (hn : n < 2 ^ 31) {v : Int32} : ∀ (f k : Nat) (a : Nat → Int32) (j : Nat), k ≤ n → n < k + f → gJ7_fill_53178_5 n v f (nI k, a) j = if k ≤ j ∧ j < n then v else a j
  | 0, k, a, j, h1, h2 => absurd h2 (by omega)
  | f + 1, k, a, j, h1, h2 => by
    show (if nI n ≤ nI k then a else gJ7_fill_53178_5 n v f (nI k + 1, upd a (nI k).toNatClampNeg v)) j = _
    by_cases h3 : n ≤ k
    · rw [if_pos (nI_le h3 (by omega)), if_neg (by omega)]
    · rw [if_neg (nI_ge (by omega) hn), nI_1, nI_clamp (by omega), g_fill hn f (k + 1) _ j (by omega) (by omega)]
      by_cases h4 : k + 1 ≤ j ∧ j < n
      · rw [if_pos h4, if_pos (by omega)]
      · rw [if_neg h4]
        by_cases h5 : j = k
        · subst h5; rw [pk_us, if_pos (by omega)]
        · rw [pk_un h5, if_neg (by omega)]
theorem s_fill {n : Nat} (hn : n < 2 ^ 31) {v : Int32} : ∀ (f k : Nat) (a : Nat → Int32), k ≤ n → n < k + f → sgJ7_fill_53178_5 n v f (nI k, a)
  | 0, k, a, h1, h2 => absurd h2 (by omega)
  | f + 1, k, a, h1, h2 => by
    refine ⟨fun _ => trivial, fun h3 => ?_⟩
    have h3' : ¬ n ≤ k := fun q => h3 (nI_le q (by omega))
    refine ⟨vp_in_nI (by omega) hn, ?_⟩
    show sgJ7_fill_53178_5 n v f (nI k + 1, _)
    rw [nI_1]
    exact s_fill hn f (k + 1) _ (by omega) (by omega)
theorem f_fill {n : Nat} (hn : n < 2 ^ 31) (a : Nat → Int32) (v : Int32) {j : Nat} (hj : j < n) : fJ7_fill_53178 a n v j = v := by
  have h := g_fill hn (v := v) (n + 1) 0 a j (by omega) (by omega)
  rw [if_pos (by omega)] at h
  exact h
theorem sf_fill {n : Nat} (hn : n < 2 ^ 31) (a : Nat → Int32) (v : Int32) : sJ7_fill_53178 a n v := s_fill hn (n + 1) 0 a (by omega) (by omega)
theorem s_restart (rg wo iss rdy : Nat → Int32) : sX10_restart rg wo iss rdy := by
  refine ⟨⟨sf_fill (by decide) _ _, fun z1 _ => ⟨⟨⟨sf_fill (by decide) _ _, fun _ _ => trivial⟩, ?_⟩, fun _ _ => trivial⟩⟩, fun z1 _ => ⟨⟨sf_fill (by decide) _ _, fun _ _ => ⟨sf_fill (by decide) _ _, fun _ _ => trivial⟩⟩, fun _ _ => fun _ _ => trivial⟩⟩
  intro z hz
  first | trivial | exact fun _ _ => trivial
/-- begin(): all numbers as at first, the arrays 0 in their places but specials 0 -/
def BeginOk (z : Int64 × Int32 × Int32 × Int32 × Int32 × Int32 × Int32 × Int32 × Int32 × Int32 × Int32 × Int32 × Int32 × Int32 × Int32 × Int32 × Int32 × Int32 × (Nat → Int32) × (Nat → Int32) × (Nat → Int32) × (Nat → Int32)) : Prop :=
  ∃ a b c d : Nat → Int32, z = (0, 256, 0, 0, 0, 0, 0, 0, 0, 0, 0, 0, 0, 0, 0, 0, 0, -100, a, b, c, d) ∧ (∀ j, j < 32 → a j = 0) ∧ (∀ j, j < 10 → b j = if j = 0 then 1 else 0) ∧ (∀ j, j < 512 → c j = 0) ∧ ∀ j, j < 32 → d j = 0
theorem gb51 {w1 : Int32 × (Nat → Int32) × (Nat → Int32)} {w2 : Int32 × (Nat → Int32)} (ha : ∀ j, j < 32 → w1.2.1 j = 0) (hd : ∀ j, j < 32 → w1.2.2 j = 0) (hb : ∀ j, j < 10 → w2.2 j = 0) : ∀ (f k : Nat) (a : Nat → Int32), k ≤ 512 → 512 < k + f → (∀ j, j < k → a j = 0) → BeginOk (gX11_begin_51 w1 w2 f (nI k, a))
  | 0, k, a, h1, h2, _ => absurd h2 (by omega)
  | f + 1, k, a, h1, h2, h => by
    show BeginOk (if 512 ≤ nI k then (0, 256, 0, 0, 0, 0, 0, 0, 0, 0, 0, 0, 0, 0, 0, 0, 0, (-100), w1.2.1, upd w2.2 0 1, a, w1.2.2) else gX11_begin_51 w1 w2 f (nI k + 1, upd a (nI k).toNatClampNeg 0))
    by_cases h3 : 512 ≤ k
    · rw [if_pos (show (512 : Int32) ≤ nI k from nI_le (a := 512) h3 (by omega))]
      refine ⟨_, _, _, _, rfl, ha, fun j hj => ?_, fun j hj => h j (by omega), hd⟩
      by_cases e : j = 0
      · subst e; rw [pk_us, if_pos rfl]
      · rw [pk_un e, if_neg e]; exact hb j hj
    · rw [if_neg (show ¬ (512 : Int32) ≤ nI k from nI_ge (b := 512) (by omega) (by decide)), nI_1, nI_clamp (by omega)]
      refine gb51 ha hd hb f (k + 1) _ (by omega) (by omega) (fun j hj => ?_)
      by_cases e : j = k
      · subst e; exact pk_us
      · rw [pk_un e]; exact h j (by omega)
theorem gb30 {mw : Nat → Int32} {w1 : Int32 × (Nat → Int32) × (Nat → Int32)} (ha : ∀ j, j < 32 → w1.2.1 j = 0) (hd : ∀ j, j < 32 → w1.2.2 j = 0) : ∀ (f k : Nat) (a : Nat → Int32), k ≤ 10 → 10 < k + f → (∀ j, j < k → a j = 0) → BeginOk (gX11_begin_30 mw w1 f (nI k, a))
  | 0, k, a, h1, h2, _ => absurd h2 (by omega)
  | f + 1, k, a, h1, h2, h => by
    show BeginOk (if 10 ≤ nI k then gX11_begin_51 w1 (nI k, a) 513 (0, mw) else gX11_begin_30 mw w1 f (nI k + 1, upd a (nI k).toNatClampNeg 0))
    by_cases h3 : 10 ≤ k
    · rw [if_pos (show (10 : Int32) ≤ nI k from nI_le (a := 10) h3 (by omega))]
      exact gb51 ha hd (fun j hj => h j (by omega)) 513 0 mw (by omega) (by omega) (fun j hj => absurd hj (by omega))
    · rw [if_neg (show ¬ (10 : Int32) ≤ nI k from nI_ge (b := 10) (by omega) (by decide)), nI_1, nI_clamp (by omega)]
      refine gb30 ha hd f (k + 1) _ (by omega) (by omega) (fun j hj => ?_)
      by_cases e : j = k
      · subst e; exact pk_us
      · rw [pk_un e]; exact h j (by omega)
theorem gb2 {ms mw : Nat → Int32} : ∀ (f k : Nat) (a d : Nat → Int32), k ≤ 32 → 32 < k + f → (∀ j, j < k → a j = 0) → (∀ j, j < k → d j = 0) → BeginOk (gX11_begin_2 ms mw f (nI k, a, d))
  | 0, k, a, d, h1, h2, _, _ => absurd h2 (by omega)
  | f + 1, k, a, d, h1, h2, h, h' => by
    show BeginOk (if 32 ≤ nI k then gX11_begin_30 mw (nI k, a, d) 11 (0, ms) else gX11_begin_2 ms mw f (nI k + 1, upd a (nI k).toNatClampNeg 0, upd d (nI k).toNatClampNeg 0))
    by_cases h3 : 32 ≤ k
    · rw [if_pos (show (32 : Int32) ≤ nI k from nI_le (a := 32) h3 (by omega))]
      exact gb30 (w1 := (nI k, a, d)) (fun j hj => h j (by omega)) (fun j hj => h' j (by omega)) 11 0 ms (by omega) (by omega) (fun j hj => absurd hj (by omega))
    · rw [if_neg (show ¬ (32 : Int32) ≤ nI k from nI_ge (b := 32) (by omega) (by decide)), nI_1, nI_clamp (by omega)]
      refine gb2 f (k + 1) _ _ (by omega) (by omega) (fun j hj => ?_) (fun j hj => ?_)
      · by_cases e : j = k
        · subst e; exact pk_us
        · rw [pk_un e]; exact h j (by omega)
      · by_cases e : j = k
        · subst e; exact pk_us
        · rw [pk_un e]; exact h' j (by omega)
theorem f_begin (mr ms mw mrd : Nat → Int32) : BeginOk (fX11_begin mr ms mw mrd) := gb2 33 0 mr mrd (by omega) (by omega) (fun j hj => absurd hj (by omega)) (fun j hj => absurd hj (by omega))

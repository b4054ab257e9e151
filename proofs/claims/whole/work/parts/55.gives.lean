/-! ===== pure: linesFrom, giveWord, wordAt ===== -/
theorem cy_0 {cy : Int32} {n : Nat} (hn : n ≤ 60000) (e : cy = nI n) : (0 < cy ↔ ¬ cy = 0) := by
  subst e
  have h1 : (nI n).toInt = n := nI_toInt (by omega)
  rw [li, h1]
  show (0 : Int) < n ↔ _
  constructor
  · intro h q
    have := congrArg Int32.toInt q
    rw [h1] at this
    have h0 : (0 : Int32).toInt = 0 := rfl
    omega
  · intro h
    have : n ≠ 0 := fun q => h (by rw [q]; rfl)
    omega
theorem e_linesFrom {cy size passed ret : Int32} {co va mlc mlv : Nat → Int32} {m : Nat} (hm : m ≤ 60000) (hcy : cy = nI m) (h : LinesOk size passed co ret) (h1 : ∀ j, j < 32 → co j = mlc j) (h2 : ∀ j, j < 32 → va j = mlv j) (p0 p1 : Int32) :
    (fX10_linesFrom cy size co va p0 p1).1 = (fX11_linesFrom size cy mlc mlv p0 p1).1 ∧ (fX10_linesFrom cy size co va p0 p1).2.1 = (fX11_linesFrom size cy mlc mlv p0 p1).2.2.1 ∧ (∀ j, j < 32 → (fX10_linesFrom cy size co va p0 p1).2.2.1 j = (fX11_linesFrom size cy mlc mlv p0 p1).2.2.2.1 j) ∧ (∀ j, j < 32 → (fX10_linesFrom cy size co va p0 p1).2.2.2 j = (fX11_linesFrom size cy mlc mlv p0 p1).2.2.2.2 j) ∧ LinesOk (fX10_linesFrom cy size co va p0 p1).2.1 passed (fX10_linesFrom cy size co va p0 p1).2.2.1 ret := by
  have hL := h
  obtain ⟨n, k, rfl, hn, rfl, hk, hinc, hpos, hpas⟩ := h
  have keep : ∀ (a b : Nat → Int32) (v : Int32), (∀ j, j < 32 → a j = b j) → ∀ j, j < 32 → upd a n v j = upd b n v j := by
    intro a b v hab j hj
    by_cases e : j = n
    · subst e; rw [pk_us, pk_us]
    · rw [pk_un e, pk_un e]; exact hab j hj
  unfold fX10_linesFrom fX11_linesFrom fX4_add
  by_cases hc : cy = 0
  · have hc' : ¬ 0 < cy := fun q => (cy_0 hm hcy).mp q hc
    simp only [if_pos hc, if_neg hc']
    by_cases h0 : p0 < 0
    · simp only [if_pos h0]
      exact ⟨by first | trivial | rfl | simp, by first | trivial | rfl | simp, h1, h2, hL⟩
    · simp only [if_neg h0]
      by_cases h32 : n = 32
      · subst h32
        have a1 : (32 : Int32) ≤ nI 32 := by decide
        have a2 : nI 32 = (32 : Int32) := by decide
        simp only [if_pos a1, if_pos a2]
        exact ⟨by first | trivial | rfl | simp, by first | trivial | rfl | simp, h1, h2, hL⟩
      · have a1 : ¬ (32 : Int32) ≤ nI n := nI_ge (b := 32) (by omega) (by decide)
        have a2 : ¬ nI n = (32 : Int32) := fun q => h32 ((nI_eq (b := 32) (by omega) (by decide)).mp q)
        simp only [if_neg a1, if_neg a2, nI_clamp (show n < 2 ^ 31 by omega)]
        -- the new entry
        have new : (0 < n → co (n - 1) < p0) → LinesOk (nI n + 1) (nI k) (upd co n p0) ret := by
          intro hlast
          refine ⟨n + 1, k, nI_1 n, by omega, rfl, by omega, fun i j hij hj => ?_, fun j hj => ?_, fun j hj => ?_⟩
          · by_cases e : j = n
            · subst e
              rw [pk_us, pk_un (by omega)]
              have a3 := hlast (by omega)
              by_cases e2 : i = j - 1
              · rw [e2]; exact a3
              · have a4 := hinc i (j - 1) (by omega) (by omega)
                rw [li] at a3 a4 ⊢
                omega
            · rw [pk_un e, pk_un (by omega)]
              exact hinc i j hij (by omega)
          · by_cases e : j = n
            · subst e; rw [pk_us]; exact h0
            · rw [pk_un e]; exact hpos j (by omega)
          · rw [pk_un (by omega)]; exact hpas j hj
        by_cases hz : n = 0
        · have a3 : nI n ≤ 0 := by rw [hz]; decide
          simp only [if_pos a3]
          rw [if_neg (by decide)]
          exact ⟨by first | trivial | rfl | simp, by first | trivial | rfl | simp, keep co mlc p0 h1, keep va mlv p1 h2, new (fun q => absurd q (by omega))⟩
        · have a3 : ¬ nI n ≤ 0 := nI_nle (by omega) (by omega)
          have a4 : (nI n - 1).toNatClampNeg = n - 1 := by
            obtain ⟨n', rfl⟩ : ∃ n', n = n' + 1 := ⟨n - 1, by omega⟩
            rw [nI_pred, nI_clamp (by omega)]
            rfl
          simp only [if_neg a3, a4]
          rw [← h1 (n - 1) (by omega)]
          by_cases h5 : co (n - 1) < p0
          · simp only [if_pos h5]
            rw [if_neg (by decide)]
            exact ⟨by first | trivial | rfl | simp, by first | trivial | rfl | simp, keep co mlc p0 h1, keep va mlv p1 h2, new (fun _ => h5)⟩
          · simp only [if_neg h5]
            exact ⟨by first | trivial | rfl | simp, by first | trivial | rfl | simp, h1, h2, hL⟩
  · have hc' : 0 < cy := (cy_0 hm hcy).mpr hc
    simp only [if_neg hc, if_pos hc']
    exact ⟨by first | trivial | rfl | simp, by first | trivial | rfl | simp, h1, h2, hL⟩
/-- what giveWord and wordAt take for an address -/
theorem e_addr (p : Int32) : (fX10_isWordAddress p = 1 ∧ ∃ q : Nat, q < 16384 ∧ p = nI (4 * q)) ∨ (fX10_isWordAddress p = 0 ∧ (p < 0 ∨ 65532 < p ∨ ¬ jrem p 4 = 0)) := by
  unfold fX10_isWordAddress
  by_cases h0 : p < 0
  · rw [if_pos h0]
    exact Or.inr ⟨rfl, Or.inl h0⟩
  · rw [if_neg h0]
    obtain ⟨a, ha, rfl⟩ := nI_of h0
    have e1 : jrem (nI a) 4 = nI (a % 4) := pk_rem (d := 4) ha (by decide) (by decide)
    have e2 : nI a &&& 3 = nI (a % 4) := pk_andN (by omega) 2 (by decide)
    by_cases h1 : (65536 : Int32) ≤ nI a
    · rw [if_pos h1]
      refine Or.inr ⟨rfl, Or.inr (Or.inl ?_)⟩
      have := (nI_leI (a := 65536) (by decide) ha).mp h1
      exact nI_lt (a := 65532) (by omega) ha
    · rw [if_neg h1]
      have ha2 : a < 65536 := Nat.not_le.mp fun q => h1 (nI_le (a := 65536) q ha)
      rw [e2, e1]
      by_cases h2 : a % 4 = 0
      · rw [h2, if_pos (by decide)]
        exact Or.inl ⟨rfl, a / 4, by omega, by rw [show 4 * (a / 4) = a by omega]⟩
      · have h3 : ¬ nI (a % 4) = 0 := nI_ne0 (by omega) (by omega)
        rw [if_neg h3]
        exact Or.inr ⟨rfl, Or.inr (Or.inr h3)⟩
theorem a_ok {q : Nat} (hq : q < 16384) : ¬ nI (4 * q) < 0 ∧ ¬ (65532 : Int32) < nI (4 * q) ∧ jrem (nI (4 * q)) 4 = 0 := by
  refine ⟨nI_pos (by omega), nI_nlt (b := 4 * q) (a := 65532) (by omega) (by omega), ?_⟩
  rw [show jrem (nI (4 * q)) 4 = nI (4 * q % 4) from pk_rem (d := 4) (by omega) (by decide) (by decide), show 4 * q % 4 = 0 by omega]
  rfl
def MemOk (mem : Nat → Int32) (mm : Nat → Int32) : Prop := ∀ k, k < 16384 → mem k = wd mm (4 * k)
def PgOk (mem : Nat → Int32) (pg : Nat → Bool) : Prop := ∀ k, k < 16384 → pg (k / 256) = false → mem k = 0
/-- a word is written on both sides -/
theorem put_word {mem mm : Nat → Int32} {pg : Nat → Bool} (h : MemOk mem mm) (hp : PgOk mem pg) {q : Nat} (hq : q < 16384) (v : Int32) : MemOk (fX6_put mem pg (nI (4 * q)) v).1 (fX11_put mm (nI (4 * q)) v 4) ∧ PgOk (fX6_put mem pg (nI (4 * q)) v).1 (fX6_put mem pg (nI (4 * q)) v).2 := by
  have e4 : (4 : Int32) = nI 4 := rfl
  have hnew : ∀ k, k < 16384 → wd (fX11_put mm (nI (4 * q)) v 4) (4 * k) = if k = q then v else wd mm (4 * k) := by
    intro k hk
    by_cases e : k = q
    · subst e
      rw [if_pos rfl]
      refine b_ext (fun i hi => ?_)
      rw [bt_wd _ _ hi, e4, f_put (by omega) (by omega), if_pos (by omega), show 4 * k + (3 - i / 8) - 4 * k = 3 - i / 8 by omega, bt_pb v (by omega) (by omega) (by omega)]
      congr 1
      omega
    · rw [if_neg e]
      refine wd_congr (fun j hj => ?_)
      rw [e4, f_put (by omega) (by omega), if_neg (by omega)]
  have hmix : mix (nI (4 * q)) = q := by rw [mix_nI (by omega)]; omega
  have hmp : mpage (nI (4 * q)) = q / 256 := by rw [mpage_nI (by omega), show 4 * q / 4 = q by omega]
  unfold fX6_put
  rw [hmix, hmp]
  by_cases hc : pg (q / 256) = false ∧ v = 0
  · rw [if_pos hc]
    refine ⟨fun k hk => ?_, hp⟩
    rw [hnew k hk]
    by_cases e : k = q
    · rw [if_pos e, e, hc.2]
      exact hp q hq hc.1
    · rw [if_neg e]
      exact h k hk
  · rw [if_neg hc]
    refine ⟨fun k hk => ?_, fun k hk hpk => ?_⟩
    · rw [hnew k hk]
      by_cases e : k = q
      · rw [if_pos e]
        show upd mem q v k = v
        rw [e, pk_us]
      · rw [if_neg e]
        show upd mem q v k = _
        rw [pk_un e]
        exact h k hk
    · have hpk : (if k / 256 = q / 256 then true else pg (k / 256)) = false := hpk
      by_cases e : k / 256 = q / 256
      · rw [if_pos e] at hpk; cases hpk
      · rw [if_neg e] at hpk
        show upd mem q v k = 0
        rw [pk_un (fun e2 => e (by rw [e2]))]
        exact hp k hk hpk

/-! ===== pure: what happens: the state ===== -/
/-- the specials on the two sides -/
def SpOk (sr epc esr eea count timer mask held latch : Int32) (ms : Nat → Int32) : Prop := sr = ms 0 ∧ epc = ms 1 ∧ esr = ms 2 ∧ eea = ms 3 ∧ count = ms 4 ∧ timer = ms 5 ∧ mask = ms 6 ∧ held = ms 7 ∧ latch = ms 9 ∧ sr &&& 1023 = sr ∧ esr &&& 1023 = esr ∧ ¬ timer < 0
theorem sp_0 {sr epc esr eea count timer mask held latch : Int32} {ms : Nat → Int32} (h : SpOk sr epc esr eea count timer mask held latch ms) {x : Int32} (hx : x &&& 1023 = x) : SpOk x epc esr eea count timer mask held latch (upd ms 0 x) := by
  obtain ⟨a0, a1, a2, a3, a4, a5, a6, a7, a9, b0, b2, b5⟩ := h
  exact ⟨rfl, a1, a2, a3, a4, a5, a6, a7, a9, hx, b2, b5⟩
theorem a1023 (x : Int32) : (x &&& 1023) &&& 1023 = x &&& 1023 := by
  refine b_ext (fun i hi => ?_)
  simp only [b_and]
  cases bt x i <;> cases bt 1023 i <;> rfl
theorem or1023 {x b : Int32} (h : x &&& 1023 = x) (hb : b &&& 1023 = b) : (x ||| b) &&& 1023 = x ||| b := by
  refine b_ext (fun i hi => ?_)
  have h1 := congrArg (fun z => bt z i) h
  have h2 := congrArg (fun z => bt z i) hb
  simp only [b_and] at h1 h2
  simp only [b_and, b_or]
  revert h1 h2
  cases bt x i <;> cases bt 1023 i <;> cases bt b i <;> simp
theorem and1023 {x b : Int32} (h : x &&& 1023 = x) : (x &&& b) &&& 1023 = x &&& b := by
  refine b_ext (fun i hi => ?_)
  have h1 := congrArg (fun z => bt z i) h
  simp only [b_and] at h1
  simp only [b_and]
  revert h1
  cases bt x i <;> cases bt 1023 i <;> cases bt b i <;> simp
theorem srB_1023 {s b n f : Int32} (h : s &&& 1023 = s) (hb : b &&& 1023 = b) : srB s b n f &&& 1023 = srB s b n f := by
  unfold srB
  split
  · exact h
  · split
    · exact or1023 h hb
    · exact and1023 h
theorem srF_1023 {s f c o : Int32} (h : s &&& 1023 = s) : srF s f c o &&& 1023 = srF s f c o := srB_1023 (srB_1023 (srB_1023 h (by decide)) (by decide)) (by decide)
theorem upd_upd (f : Nat → Int32) (k : Nat) (a b : Int32) : upd (upd f k a) k b = upd f k b := by
  funext j
  unfold upd
  by_cases h : j = k
  · rw [if_pos h, if_pos h]
  · rw [if_neg h, if_neg h, if_neg h]
theorem upd_same (f : Nat → Int32) (k : Nat) : upd f k (f k) = f := by
  funext j
  unfold upd
  by_cases h : j = k
  · rw [if_pos h, h]
  · rw [if_neg h]
/-- the three marks that retire() writes one by one -/
theorem marks_eq (ms : Nat → Int32) (f c o : Int32) : (let j2 : (Nat → Int32) := if f < 0 then (ms) else ((let j2 : Int32 := if f = 1 then ((ms 0) ||| 32) else ((ms 0) &&& (-33)); upd ms 0 j2)); (let j3 : (Nat → Int32) := if c < 0 then (j2) else ((let j3 : Int32 := if c = 1 then ((j2 0) ||| 128) else ((j2 0) &&& (-129)); upd j2 0 j3)); (if o < 0 then (j3) else ((let j4 : Int32 := if o = 1 then ((j3 0) ||| 256) else ((j3 0) &&& (-257)); upd j3 0 j4))))) = upd ms 0 (srF (ms 0) f c o) := by
  have one : ∀ (g : Nat → Int32) (b n q : Int32), (if q < 0 then g else ((let j2 : Int32 := if q = 1 then ((g 0) ||| b) else ((g 0) &&& n); upd g 0 j2))) = upd g 0 (srB (g 0) b n q) := by
    intro g b n q
    unfold srB
    by_cases h : q < 0
    · rw [if_pos h, if_pos h, upd_same]
    · rw [if_neg h, if_neg h]
  dsimp only
  dsimp only at one
  rw [one, one, one]
  rw [upd_upd, upd_upd]
  rfl
theorem e_put {sets : Int32} {wo mw : Nat → Int32} (hw : ∀ j, j < 512 → wo j = mw j) (p v : Int32) : ∀ j, j < 512 → fX5_put sets wo p v j = (if fX11_isMap sets p = 0 then mw else upd mw (p - 1024).toNatClampNeg v) j := by
  intro j hj
  unfold fX5_put
  dsimp only
  rw [← e_isOne]
  by_cases h0 : fX5_isOne sets p = 0
  · rw [if_pos h0, if_pos h0]; exact hw j hj
  · rw [if_neg h0, if_neg h0]
    unfold upd
    by_cases h : j = (p - 1024).toNatClampNeg
    · rw [if_pos h, if_pos h]
    · rw [if_neg h, if_neg h]; exact hw j hj
theorem t31 (x : Int32) : ¬ (x &&& 2147483647) < 0 := by
  rw [k_lt0, u_and 31 (by decide)]
  omega
theorem map_lo {sets : Int32} {k : Nat} (hk : k < 1024) : fX11_isMap sets (nI k) = 0 := by
  unfold fX11_isMap
  rw [if_pos (show nI k < 1024 from nI_lt (b := 1024) hk (by decide))]
set_option maxRecDepth 4000 in
theorem e_write {sr epc esr eea count timer mask held latch sets : Int32} {sum : Int64} {ms wo mw : Nat → Int32} (h : SpOk sr epc esr eea count timer mask held latch ms) (hw : ∀ j, j < 512 → wo j = mw j) (p : Nat) (hp : p < 65536) (v : Int32) (z : Int32 × Int32 × Int32 × Int32 × Int32 × Int64 × Int32 × Int32 × Int32 × Int32 × (Nat → Int32)) (hz : z = fX8_write sr epc esr eea held sum count timer mask latch sets wo (nI p) v) :
    SpOk z.1 z.2.1 z.2.2.1 z.2.2.2.1 z.2.2.2.2.2.2.1 z.2.2.2.2.2.2.2.1 z.2.2.2.2.2.2.2.2.1 z.2.2.2.2.1 z.2.2.2.2.2.2.2.2.2.1 (fX11_writeSpecial sets sum ms mw (nI p) v).2.1 ∧ z.2.2.2.2.2.1 = (fX11_writeSpecial sets sum ms mw (nI p) v).1 ∧ ∀ j, j < 512 → z.2.2.2.2.2.2.2.2.2.2 j = (fX11_writeSpecial sets sum ms mw (nI p) v).2.2 j := by
  obtain ⟨a0, a1, a2, a3, a4, a5, a6, a7, a9, b0, b2, b5⟩ := h
  have hlo : ∀ k : Nat, k < 10 → k ≠ 7 → k ≠ 8 → ∀ q : Int32, (k = 0 ∨ k = 2 → q = v &&& 1023) → (k = 4 → q = v &&& 268435455) → (k = 5 → q = v &&& 2147483647) → (k = 1 ∨ k = 3 ∨ k = 6 ∨ k = 9 → q = v) → fX11_writeSpecial sets sum ms mw (nI k) v = (sum, upd ms k q, mw) := by
    intro k hk h7 h8 q q1 q2 q3 q4
    unfold fX11_writeSpecial
    dsimp only
    rw [map_lo (show k < 1024 by omega)]
    rcases (show k = 0 ∨ k = 1 ∨ k = 2 ∨ k = 3 ∨ k = 4 ∨ k = 5 ∨ k = 6 ∨ k = 9 by omega) with rfl | rfl | rfl | rfl | rfl | rfl | rfl | rfl
    · rw [q1 (Or.inl rfl)]; rfl
    · rw [q4 (Or.inl rfl)]; rfl
    · rw [q1 (Or.inr rfl)]; rfl
    · rw [q4 (Or.inr (Or.inl rfl))]; rfl
    · rw [q2 rfl]; rfl
    · rw [q3 rfl]; rfl
    · rw [q4 (Or.inr (Or.inr (Or.inl rfl)))]; rfl
    · rw [q4 (Or.inr (Or.inr (Or.inr rfl)))]; rfl
  by_cases p0 : p = 0
  · subst p0; subst hz
    rw [hlo 0 (by omega) (by omega) (by omega) (v &&& 1023) (fun _ => rfl) (fun k => absurd k (by omega)) (fun k => absurd k (by omega)) (fun k => absurd k (by omega))]
    exact ⟨⟨rfl, a1, a2, a3, a4, a5, a6, a7, a9, a1023 v, b2, b5⟩, rfl, hw⟩
  by_cases p1 : p = 1
  · subst p1; subst hz
    rw [hlo 1 (by omega) (by omega) (by omega) v (fun k => absurd k (by omega)) (fun k => absurd k (by omega)) (fun k => absurd k (by omega)) (fun _ => rfl)]
    exact ⟨⟨a0, rfl, a2, a3, a4, a5, a6, a7, a9, b0, b2, b5⟩, rfl, hw⟩
  by_cases p2 : p = 2
  · subst p2; subst hz
    rw [hlo 2 (by omega) (by omega) (by omega) (v &&& 1023) (fun _ => rfl) (fun k => absurd k (by omega)) (fun k => absurd k (by omega)) (fun k => absurd k (by omega))]
    exact ⟨⟨a0, a1, rfl, a3, a4, a5, a6, a7, a9, b0, a1023 v, b5⟩, rfl, hw⟩
  by_cases p3 : p = 3
  · subst p3; subst hz
    rw [hlo 3 (by omega) (by omega) (by omega) v (fun k => absurd k (by omega)) (fun k => absurd k (by omega)) (fun k => absurd k (by omega)) (fun _ => rfl)]
    exact ⟨⟨a0, a1, a2, rfl, a4, a5, a6, a7, a9, b0, b2, b5⟩, rfl, hw⟩
  by_cases p4 : p = 4
  · subst p4; subst hz
    rw [hlo 4 (by omega) (by omega) (by omega) (v &&& 268435455) (fun k => absurd k (by omega)) (fun _ => rfl) (fun k => absurd k (by omega)) (fun k => absurd k (by omega))]
    exact ⟨⟨a0, a1, a2, a3, rfl, a5, a6, a7, a9, b0, b2, b5⟩, rfl, hw⟩
  by_cases p5 : p = 5
  · subst p5; subst hz
    rw [hlo 5 (by omega) (by omega) (by omega) (v &&& 2147483647) (fun k => absurd k (by omega)) (fun k => absurd k (by omega)) (fun _ => rfl) (fun k => absurd k (by omega))]
    exact ⟨⟨a0, a1, a2, a3, a4, rfl, a6, a7, a9, b0, b2, t31 v⟩, rfl, hw⟩
  by_cases p6 : p = 6
  · subst p6; subst hz
    rw [hlo 6 (by omega) (by omega) (by omega) v (fun k => absurd k (by omega)) (fun k => absurd k (by omega)) (fun k => absurd k (by omega)) (fun _ => rfl)]
    exact ⟨⟨a0, a1, a2, a3, a4, a5, rfl, a7, a9, b0, b2, b5⟩, rfl, hw⟩
  by_cases p7 : p = 7
  · subst p7; subst hz
    have e : fX11_writeSpecial sets sum ms mw (nI 7) v = (sum, upd ms 7 ((ms 7) &&& (v ^^^ (-1))), mw) := rfl
    rw [e]
    refine ⟨⟨a0, a1, a2, a3, a4, a5, a6, ?_, a9, b0, b2, b5⟩, rfl, hw⟩
    show held &&& (v ^^^ (-1)) = (ms 7) &&& (v ^^^ (-1))
    rw [a7]
  by_cases p9 : p = 9
  · subst p9; subst hz
    rw [hlo 9 (by omega) (by omega) (by omega) v (fun k => absurd k (by omega)) (fun k => absurd k (by omega)) (fun k => absurd k (by omega)) (fun _ => rfl)]
    exact ⟨⟨a0, a1, a2, a3, a4, a5, a6, a7, rfl, b0, b2, b5⟩, rfl, hw⟩
  by_cases p10 : p = 10
  · subst p10; subst hz
    have e : fX11_writeSpecial sets sum ms mw (nI 10) v = ((jlshl v.toInt64 32) ||| (sum &&& 4294967295), ms, mw) := rfl
    rw [e]
    refine ⟨⟨a0, a1, a2, a3, a4, a5, a6, a7, a9, b0, b2, b5⟩, ?_, hw⟩
    show (sum &&& 4294967295) ||| (jlshl v.toInt64 32) = (jlshl v.toInt64 32) ||| (sum &&& 4294967295)
    exact Int64.or_comm _ _
  by_cases p11 : p = 11
  · subst p11; subst hz
    have e : fX11_writeSpecial sets sum ms mw (nI 11) v = ((sum &&& (-4294967296)) ||| (v.toInt64 &&& 4294967295), ms, mw) := rfl
    rw [e]
    exact ⟨⟨a0, a1, a2, a3, a4, a5, a6, a7, a9, b0, b2, b5⟩, rfl, hw⟩
  have ne : ∀ k : Nat, k < 12 → p ≠ k → ¬ nI p = nI k := fun k hk hpk q => hpk ((nI_eq (by omega) (by omega)).mp q)
  have n0 : ¬ nI p = 0 := ne 0 (by omega) p0
  have n1 : ¬ nI p = 1 := ne 1 (by omega) p1
  have n2 : ¬ nI p = 2 := ne 2 (by omega) p2
  have n3 : ¬ nI p = 3 := ne 3 (by omega) p3
  have n4 : ¬ nI p = 4 := ne 4 (by omega) p4
  have n5 : ¬ nI p = 5 := ne 5 (by omega) p5
  have n6 : ¬ nI p = 6 := ne 6 (by omega) p6
  have n7 : ¬ nI p = 7 := ne 7 (by omega) p7
  have n9 : ¬ nI p = 9 := ne 9 (by omega) p9
  have n10 : ¬ nI p = 10 := ne 10 (by omega) p10
  have n11 : ¬ nI p = 11 := ne 11 (by omega) p11
  have ek : fX8_write sr epc esr eea held sum count timer mask latch sets wo (nI p) v = (sr, epc, esr, eea, held, sum, count, timer, mask, latch, fX5_put sets wo (nI p) v) := by
    unfold fX8_write
    rw [if_neg n0, if_neg n1, if_neg n2, if_neg n3, if_neg n4, if_neg n5, if_neg n6, if_neg n7, if_neg n9, if_neg n10, if_neg n11]
  have em : fX11_writeSpecial sets sum ms mw (nI p) v = (sum, ms, if fX11_isMap sets (nI p) = 0 then mw else upd mw (nI p - 1024).toNatClampNeg v) := by
    unfold fX11_writeSpecial
    rw [if_neg n7, if_neg n10, if_neg n11]
    dsimp only
    by_cases hz0 : fX11_isMap sets (nI p) = 0
    · rw [if_pos hz0, if_pos hz0]
      by_cases h10 : (10 : Int32) ≤ nI p
      · rw [if_pos h10]
      · have hp8 : p = 8 := by
          have : p < 10 := Nat.not_le.mp fun q => h10 (nI_le (a := 10) q (by omega))
          omega
        rw [if_neg h10, if_pos (show nI p = 8 by rw [hp8]; rfl)]
    · rw [if_neg hz0, if_neg hz0]
  rw [em, hz, ek]
  exact ⟨⟨a0, a1, a2, a3, a4, a5, a6, a7, a9, b0, b2, b5⟩, rfl, e_put hw (nI p) v⟩
theorem neg_bit (x : Int32) : x < 0 ↔ bt x 31 = true := by
  rw [k_lt0, bt_n, Nat.testBit_eq_decide_div_mod_eq, decide_eq_true_eq]
  have := u_lt x
  omega
theorem md_eq {t : Int32} (h : ¬ t < 0) : (t >>> ((29 : Int32) &&& 31)) &&& 3 = jushr t 29 := by
  rw [neg_bit] at h
  have h31 : bt t 31 = false := by simpa using h
  have k3 : ∀ i, i < 32 → bt 3 i = decide (i < 2) := by decide +kernel
  refine b_ext (fun i hi => ?_)
  have e1 : bt (t >>> ((29 : Int32) &&& 31)) i = if 29 + i < 32 then bt t (29 + i) else bt t 31 := b_sshr 29 (by omega) t hi
  have e2 : bt (jushr t 29) i = bt t (29 + i) := b_ushr 29 (by omega) t i
  rw [b_and, e1, e2, k3 i hi]
  by_cases h2 : i < 2
  · rw [if_pos (by omega), decide_eq_true h2, Bool.and_true]
  · rw [decide_eq_false h2, Bool.and_false]
    by_cases h3 : i = 2
    · subst h3; exact h31.symm
    · exact (b_big (by omega)).symm
theorem md_le {t : Int32} (h : ¬ t < 0) : ((t >>> ((29 : Int32) &&& 31)) &&& 3 ≤ (0 : Int32)) ↔ jushr t 29 = 0 := by
  rw [md_eq h]
  have e : uw (jushr t 29) = uw t / 2 ^ 29 := u_ushr t 29 (by omega)
  have : uw t / 2 ^ 29 < 8 := by have := u_lt t; omega
  have e2 : jushr t 29 = nI (uw t / 2 ^ 29) := by rw [u_self (jushr t 29), e]
  rw [e2]
  have a1 : nI (uw t / 2 ^ 29) ≤ 0 ↔ uw t / 2 ^ 29 ≤ 0 := nI_leI (b := 0) (by omega) (by omega)
  have a2 : nI (uw t / 2 ^ 29) = 0 ↔ uw t / 2 ^ 29 = 0 := nI_eq (b := 0) (by omega) (by omega)
  rw [a1, a2]; omega
theorem or_nn {t : Int32} (h : ¬ t < 0) : ¬ (t ||| 268435456) < 0 := by
  rw [neg_bit] at h ⊢
  rw [b_or, show bt 268435456 31 = false from by decide]
  simpa using h
theorem and_nn {t : Int32} (h : ¬ t < 0) (c : Int32) : ¬ (t &&& c) < 0 := by
  rw [neg_bit] at h ⊢
  rw [b_and]
  have h31 : bt t 31 = false := by simpa using h
  rw [h31]; simp
theorem or_and (t : Int32) : (t ||| 268435456) &&& 536870911 = (t &&& 536870911) ||| 268435456 := by
  refine b_ext (fun i hi => ?_)
  have k : ∀ i, i < 32 → bt 268435456 i = true → bt 536870911 i = true := by decide +kernel
  have ki := k i hi
  rw [b_and, b_or, b_or, b_and]
  revert ki
  cases bt t i <;> cases bt 268435456 i <;> cases bt 536870911 i <;> simp
/-- the reference's count -/
def mCount (g : Nat → Int32) : Nat → Int32 := if (((g 5) >>> ((29 : Int32) &&& 31)) &&& 3) ≤ (0 : Int32) then (g) else (if ((upd g 4 (((g 4) + 1) &&& 268435455)) 4) = (((upd g 4 (((g 4) + 1) &&& 268435455)) 5) &&& 268435455) then ((let j10 : Int32 := if (((g 5) >>> ((29 : Int32) &&& 31)) &&& 3) = (1 : Int32) then (0) else ((upd g 4 (((g 4) + 1) &&& 268435455)) 4); (let j11 : Int32 := if (((g 5) >>> ((29 : Int32) &&& 31)) &&& 3) = (2 : Int32) then (((upd (upd g 4 (((g 4) + 1) &&& 268435455)) 4 j10) 5) &&& 536870911) else ((upd (upd g 4 (((g 4) + 1) &&& 268435455)) 4 j10) 5); upd (upd (upd g 4 (((g 4) + 1) &&& 268435455)) 4 j10) 5 (j11 ||| 268435456)))) else (upd g 4 (((g 4) + 1) &&& 268435455)))
theorem e_count {sr epc esr eea count timer mask held latch : Int32} {ms : Nat → Int32} (h : SpOk sr epc esr eea count timer mask held latch ms) : SpOk sr epc esr eea (fX8_countOne count timer).1 (fX8_countOne count timer).2 mask held latch (mCount ms) := by
  obtain ⟨a0, a1, a2, a3, a4, a5, a6, a7, a9, b0, b2, b5⟩ := h
  unfold mCount fX8_countOne
  rw [← a5]
  have hle := md_le b5
  have heq := md_eq b5
  have u44 : ∀ (f : Nat → Int32) (x : Int32), upd f 4 x 4 = x := fun f x => rfl
  have u45 : ∀ (f : Nat → Int32) (x : Int32), upd f 4 x 5 = f 5 := fun f x => rfl
  rw [u44, u45, ← a5, ← a4]
  by_cases hm : jushr timer 29 = 0
  · rw [if_pos hm, if_pos (hle.mpr hm)]
    exact ⟨a0, a1, a2, a3, a4, a5, a6, a7, a9, b0, b2, b5⟩
  · rw [if_neg hm, if_neg (fun q => hm (hle.mp q)), heq]
    by_cases hc : (count + 1) &&& 268435455 = timer &&& 268435455
    · rw [if_pos hc, if_pos hc]
      dsimp only
      by_cases h2 : jushr timer 29 = 2
      · rw [if_pos h2, if_pos h2, or_and]
        refine ⟨a0, a1, a2, a3, rfl, ?_, a6, a7, a9, b0, b2, or_nn (and_nn b5 _)⟩
        show (timer &&& 536870911) ||| 268435456 = (ms 5 &&& 536870911) ||| 268435456
        rw [a5]
      · rw [if_neg h2, if_neg h2]
        refine ⟨a0, a1, a2, a3, rfl, ?_, a6, a7, a9, b0, b2, or_nn b5⟩
        show timer ||| 268435456 = ms 5 ||| 268435456
        rw [a5]
    · rw [if_neg hc, if_neg hc]
      exact ⟨a0, a1, a2, a3, rfl, a5, a6, a7, a9, b0, b2, b5⟩
theorem e_hold {sr epc esr eea count timer mask held latch : Int32} {ms : Nat → Int32} (h : SpOk sr epc esr eea count timer mask held latch ms) (x : Int32) : SpOk sr epc esr eea count timer mask (held ||| (x &&& latch)) latch (upd ms 7 ((ms 7) ||| (x &&& (ms 9)))) := by
  obtain ⟨a0, a1, a2, a3, a4, a5, a6, a7, a9, b0, b2, b5⟩ := h
  refine ⟨a0, a1, a2, a3, a4, a5, a6, ?_, a9, b0, b2, b5⟩
  show held ||| (x &&& latch) = (ms 7) ||| (x &&& (ms 9))
  rw [a7, a9]
/-! an exception -/
theorem e_except {pc slot br sr epc esr eea exc has addr : Int32} {count timer mask held latch : Int32} {ms : Nat → Int32} (h : SpOk sr epc esr eea count timer mask held latch ms) (hs : isB slot) {mbr mval : Int32} (hbr : ¬ slot = 0 → mbr = br) {meea : Int32} (he : has = meea ∧ isB has ∧ (¬ meea = 0 → addr = mval)) (z : Int32 × Int32 × Int32 × Int32 × Int32 × Int32) (hz : z = fX2_except pc slot br sr eea exc has addr) (y : Int32 × Int32 × Int32 × Int32 × (Nat → Int32)) (hy : y = fX11_except pc slot mbr exc meea mval ms) :
    z.1 = y.1 ∧ z.2.1 = 0 ∧ y.2.1 = 0 ∧ y.2.2.1 = 0 ∧ y.2.2.2.1 = 0 ∧ SpOk z.2.2.1 z.2.2.2.1 z.2.2.2.2.1 z.2.2.2.2.2 count timer mask held latch y.2.2.2.2 := by
  subst hz; subst hy
  obtain ⟨a0, a1, a2, a3, a4, a5, a6, a7, a9, b0, b2, b5⟩ := h
  obtain ⟨h1, h2, h3⟩ := he
  subst h1
  have k : ∀ x : Int32, ((x &&& 416) ||| 1) &&& 1023 = (x &&& 416) ||| 1 := by
    intro x
    refine or1023 ?_ (by decide)
    refine b_ext (fun i hi => ?_)
    have kk : ∀ i, i < 32 → bt 416 i = true → bt 1023 i = true := by decide +kernel
    have ki := kk i hi
    simp only [b_and]
    revert ki
    cases bt x i <;> cases bt 416 i <;> cases bt 1023 i <;> simp
  have ex : ∀ f : Nat → Int32, f 0 = ms 0 → f 4 = ms 4 → f 5 = ms 5 → f 6 = ms 6 → f 7 = ms 7 → f 9 = ms 9 → ∀ ea : Int32, ea = f 3 → SpOk (if slot = 0 then (sr &&& 416) ||| 1 else ((sr &&& 416) ||| 1) ||| 64) (if slot = 0 then (if exc = 12 then pc + 4 else pc) else br) sr ea count timer mask held latch (upd (upd (upd f 2 (f 0)) 1 (if slot = 0 then (if exc = 12 then (pc + 4) else (pc)) else mbr)) 0 (((((upd (upd f 2 (f 0)) 1 (if slot = 0 then (if exc = 12 then (pc + 4) else (pc)) else mbr)) 0) &&& 416) ||| 1) ||| (if slot = 0 then (0) else (64)))) := by
    intro f f0 f4 f5 f6 f7 f9 ea hea
    have g0 : (upd (upd f 2 (f 0)) 1 (if slot = 0 then (if exc = 12 then (pc + 4) else (pc)) else mbr)) 0 = sr := by
      show f 0 = sr
      rw [f0, a0]
    rw [g0]
    refine ⟨?_, ?_, ?_, hea, a4.trans f4.symm, a5.trans f5.symm, a6.trans f6.symm, a7.trans f7.symm, a9.trans f9.symm, ?_, b0, b5⟩
    · show (if slot = 0 then (sr &&& 416) ||| 1 else ((sr &&& 416) ||| 1) ||| 64) = ((sr &&& 416) ||| 1) ||| (if slot = 0 then (0) else (64))
      by_cases q : slot = 0
      · rw [if_pos q, if_pos q, Int32.or_zero]
      · rw [if_neg q, if_neg q]
    · show (if slot = 0 then (if exc = 12 then pc + 4 else pc) else br) = (if slot = 0 then (if exc = 12 then (pc + 4) else (pc)) else mbr)
      by_cases q : slot = 0
      · rw [if_pos q, if_pos q]
      · rw [if_neg q, if_neg q, hbr q]
    · show sr = f 0
      rw [f0, a0]
    · by_cases q : slot = 0
      · rw [if_pos q]; exact k sr
      · rw [if_neg q]; exact or1023 (k sr) (by decide)
  unfold fX2_except fX11_except fX9_goTo fX11_leave
  dsimp only
  refine ⟨rfl, rfl, rfl, rfl, rfl, ?_⟩
  have hle : has ≤ 0 ↔ has = 0 := by rcases h2 with rfl | rfl <;> decide
  by_cases hh : has = 0
  · rw [if_pos hh, if_pos (hle.mpr hh)]
    have := ex ms rfl rfl rfl rfl rfl rfl eea a3
    by_cases q : slot = 0
    · simp only [q, if_true] at this ⊢
      exact this
    · simp only [q, if_false] at this ⊢
      exact this
  · rw [if_neg hh, if_neg (fun q => hh (hle.mp q))]
    have := ex (upd ms 3 mval) rfl rfl rfl rfl rfl rfl addr (h3 hh)
    by_cases q : slot = 0
    · simp only [q, if_true] at this ⊢
      exact this
    · simp only [q, if_false] at this ⊢
      exact this

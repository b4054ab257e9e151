/-! ===== pure: loads and stores of 1, 2 and 4 bytes ===== -/
theorem bt_wdn (f : Nat → Int32) (a : Nat) : ∀ n, n ≤ 4 → ∀ i, i < 32 → bt (wdn f a n) i = if i < 8 * n then bt (f (a + (n - 1 - i / 8))) (i % 8) else false
  | 0, hn, i, hi => by rw [if_neg (by omega)]; exact b_0 i
  | n + 1, hn, i, hi => by
    rw [bt_step f a n hi]
    by_cases h : i < 8
    · rw [if_pos h, if_pos (by omega), show n + 1 - 1 - i / 8 = n by omega, show i % 8 = i by omega]
    · rw [if_neg h, bt_wdn f a n (by omega) (i - 8) (by omega)]
      by_cases h2 : i - 8 < 8 * n
      · rw [if_pos h2, if_pos (by omega), show n - 1 - (i - 8) / 8 = n + 1 - 1 - i / 8 by omega, show (i - 8) % 8 = i % 8 by omega]
      · rw [if_neg h2, if_neg (by omega)]
theorem e_shift {a n : Nat} (hn : n = 1 ∨ n = 2 ∨ n = 4) (ha : a % n = 0) (hl : a < 65536) : fX6_shiftOf (nI a) (nI n) = nI (8 * (4 - n - a % 4)) := by
  unfold fX6_shiftOf
  rw [show nI a &&& 3 = nI (a % 4) from pk_andN (by omega) 2 (by decide), show (4 : Int32) - nI n = nI (4 - n) from pk_sub (a := 4) (by omega)]
  rw [pk_sub (by rcases hn with rfl | rfl | rfl <;> omega)]
  exact pk_mul 8 _
theorem bt_mask {n : Nat} (hn : n = 1 ∨ n = 2 ∨ n = 4) : ∀ i, i < 32 → bt (fX6_maskOf (nI n)) i = decide (i < 8 * n) := by
  rcases hn with rfl | rfl | rfl <;> decide +kernel
theorem sz_in {a n : Nat} (hn : n = 1 ∨ n = 2 ∨ n = 4) (ha : a % n = 0) (hl : a < 65536) : a + n ≤ 65536 ∧ n + a % 4 ≤ 4 ∧ 0 < n ∧ n ≤ 4 := by
  rcases hn with rfl | rfl | rfl <;> omega
theorem e_load {mem mm : Nat → Int32} (h : MemOk mem mm) {a n : Nat} (hn : n = 1 ∨ n = 2 ∨ n = 4) (ha : a % n = 0) (hl : a < 65536) : fX6_load mem (nI a) (nI n) = wdn mm a n := by
  obtain ⟨q1, q2, q3, q4⟩ := sz_in hn ha hl
  unfold fX6_load fX6_get
  dsimp only
  rw [e_shift hn ha hl, mix_nI hl, h (a / 4) (by omega)]
  refine b_ext (fun i hi => ?_)
  have e : bt (jushr (wd mm (4 * (a / 4))) (nI (8 * (4 - n - a % 4)))) i = bt (wd mm (4 * (a / 4))) (8 * (4 - n - a % 4) + i) := b_ushr _ (by omega) _ i
  rw [b_and, bt_mask hn i hi, e, bt_wdn mm a n q4 i hi]
  by_cases hb : i < 8 * n
  · rw [if_pos hb, decide_eq_true hb, Bool.and_true, bt_wd mm _ (by omega)]
    rw [show 4 * (a / 4) + (3 - (8 * (4 - n - a % 4) + i) / 8) = a + (n - 1 - i / 8) by omega, show (8 * (4 - n - a % 4) + i) % 8 = i % 8 by omega]
  · rw [if_neg hb, decide_eq_false hb, Bool.and_false]
/-- how a load stretches what it read -/
def ext (op v : Int32) : Int32 := if op = 51 then v.toInt8.toInt32 else (if op = 53 then v.toInt16.toInt32 else v)
theorem g_acc {mm : Nat → Int32} {x e s b st op d : Int32} {u : Unit} {a n : Nat} (hn : n ≤ 4) (ha : a + n ≤ 65536) : ∀ (f k : Nat), k ≤ n → n < k + f → gX11_access_148 x e s b st mm op d (nI n) (nI a, u) f (nI k, wdn mm a k) = (x, e, d, ext op (wdn mm a n), s, b, st)
  | 0, k, h1, h2 => absurd h2 (by omega)
  | f + 1, k, h1, h2 => by
    unfold gX11_access_148
    dsimp only
    by_cases h3 : n ≤ k
    · have h4 : k = n := by omega
      subst h4
      rw [if_pos (nI_le (Nat.le_refl _) (by omega)), w_s8, w_s16]
      rfl
    · rw [if_neg (nI_ge (by omega) (by omega)), nI_1, nI_add, nI_clamp (by omega)]
      exact g_acc hn ha f (k + 1) (by omega) (by omega)
theorem sg_acc {mm : Nat → Int32} {x e s b st op d : Int32} {u : Unit} {a n : Nat} (hn : n ≤ 4) (ha : a + n ≤ 65536) : ∀ (f k : Nat) (v : Int32), k ≤ n → n < k + f → sgX11_access_148 x e s b st mm op d (nI n) (nI a, u) f (nI k, v)
  | 0, k, v, h1, h2 => absurd h2 (by omega)
  | f + 1, k, v, h1, h2 => by
    unfold sgX11_access_148
    refine ⟨fun _ => ⟨⟨fun _ => trivial, fun _ => ⟨fun _ => trivial, fun _ => trivial⟩⟩, fun _ _ => fun _ _ => trivial⟩, fun h3 => ?_⟩
    have h3' : ¬ n ≤ k := fun q => h3 (nI_le q (by omega))
    refine ⟨?_, ?_⟩
    · show vp_in (nI a + nI k) 65536
      rw [nI_add]
      exact vp_in_nI (by omega) (by decide)
    · show sgX11_access_148 x e s b st mm op d (nI n) (nI a, u) f (nI k + 1, _)
      rw [nI_1]
      exact sg_acc hn ha f (k + 1) _ (by omega) (by omega)
theorem put_al {mem : Nat → Int32} {pg : Nat → Bool} {a : Nat} (hl : a < 65536) (v : Int32) : fX6_put mem pg (nI a) v = fX6_put mem pg (nI (4 * (a / 4))) v := by
  unfold fX6_put
  rw [mix_nI hl, mpage_nI hl, mix_nI (show 4 * (a / 4) < 65536 by omega), mpage_nI (show 4 * (a / 4) < 65536 by omega), show 4 * (a / 4) / 4 = a / 4 by omega]
theorem e_store {mem mm : Nat → Int32} {pg : Nat → Bool} (h : MemOk mem mm) (hp : PgOk mem pg) {a n : Nat} (hn : n = 1 ∨ n = 2 ∨ n = 4) (ha : a % n = 0) (hl : a < 65536) (v : Int32) : MemOk (fX6_store mem pg (nI a) (nI n) v).1 (fX11_put mm (nI a) v (nI n)) ∧ PgOk (fX6_store mem pg (nI a) (nI n) v).1 (fX6_store mem pg (nI a) (nI n) v).2 := by
  obtain ⟨q1, q2, q3, q4⟩ := sz_in hn ha hl
  unfold fX6_store
  dsimp only
  rw [put_al hl, e_shift hn ha hl]
  have hw : ∀ W : Int32, W = fX6_get mem (nI a) → ∀ i, i < 32 → bt ((W &&& ((fX6_maskOf (nI n) <<< (nI (8 * (4 - n - a % 4)) &&& 31)) ^^^ (-1))) ||| ((v <<< (nI (8 * (4 - n - a % 4)) &&& 31)) &&& (fX6_maskOf (nI n) <<< (nI (8 * (4 - n - a % 4)) &&& 31)))) i = if 8 * (4 - n - a % 4) ≤ i ∧ i < 8 * (4 - n - a % 4) + 8 * n then bt v (i - 8 * (4 - n - a % 4)) else bt W i := by
    intro W hW i hi
    rw [b_or, b_and, b_and, b_xor, b_m1 i hi, b_shl _ (by omega) _ hi, b_shl _ (by omega) _ hi, bt_mask hn _ (by omega)]
    by_cases h1 : 8 * (4 - n - a % 4) ≤ i
    · by_cases h2 : i < 8 * (4 - n - a % 4) + 8 * n
      · rw [if_pos ⟨h1, h2⟩, decide_eq_true h1, decide_eq_true (show i - 8 * (4 - n - a % 4) < 8 * n by omega)]; simp
      · rw [if_neg (by omega), decide_eq_true h1, decide_eq_false (show ¬ i - 8 * (4 - n - a % 4) < 8 * n by omega)]; simp
    · rw [if_neg (by omega), decide_eq_false h1]; simp
  have hw' := hw _ rfl
  generalize hV : (fX6_get mem (nI a) &&& ((fX6_maskOf (nI n) <<< (nI (8 * (4 - n - a % 4)) &&& 31)) ^^^ (-1))) ||| ((v <<< (nI (8 * (4 - n - a % 4)) &&& 31)) &&& (fX6_maskOf (nI n) <<< (nI (8 * (4 - n - a % 4)) &&& 31))) = V at hw' ⊢
  obtain ⟨r1, r2⟩ := put_word h hp (show a / 4 < 16384 by omega) V
  refine ⟨fun k hk => ?_, r2⟩
  rw [r1 k hk]
  have hg : fX6_get mem (nI a) = wd mm (4 * (a / 4)) := by unfold fX6_get; rw [mix_nI hl, h (a / 4) (by omega)]
  rw [hg] at hw'
  have f4 : ∀ j, fX11_put mm (nI (4 * (a / 4))) V 4 j = if 4 * (a / 4) ≤ j ∧ j < 4 * (a / 4) + 4 then pb V 4 (j - 4 * (a / 4)) else mm j := fun j => f_put (n := 4) (by omega) (by omega) j
  have fn : ∀ j, fX11_put mm (nI a) v (nI n) j = if a ≤ j ∧ j < a + n then pb v n (j - a) else mm j := fun j => f_put q4 (by omega) j
  by_cases hq : k = a / 4
  · subst hq
    refine b_ext (fun i hi => ?_)
    rw [bt_wd _ _ hi, bt_wd _ _ hi, f4, fn, if_pos (by omega), bt_pb V (by omega) (by omega) (by omega), show 8 * (4 - 1 - (4 * (a / 4) + (3 - i / 8) - 4 * (a / 4))) + i % 8 = i by omega, hw' i hi]
    by_cases hc : 8 * (4 - n - a % 4) ≤ i ∧ i < 8 * (4 - n - a % 4) + 8 * n
    · rw [if_pos hc, if_pos (by omega), bt_pb v q4 (by omega) (by omega), show 8 * (n - 1 - (4 * (a / 4) + (3 - i / 8) - a)) + i % 8 = i - 8 * (4 - n - a % 4) by omega]
    · rw [if_neg hc, if_neg (by omega), bt_wd _ _ hi]
  · refine wd_congr (fun j hj => ?_)
    rw [f4, fn, if_neg (by omega), if_neg (by omega)]

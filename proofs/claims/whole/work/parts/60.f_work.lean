/-! ===== pure: what an instruction would do: the class's effect against the reference's ===== -/
def StoreOk (size place stored store bytes mst : Int32) : Prop := (size = 0 ∧ store = -1) ∨ (∃ p n : Nat, (n = 1 ∨ n = 2 ∨ n = 4) ∧ p % n = 0 ∧ p < 65536 ∧ size = nI n ∧ bytes = nI n ∧ place = nI p ∧ store = nI p ∧ stored = mst)
def LV (traits op d pc sr : Int32) (sum : Int64) (went0 : Int32) (exc has addr val size place stored esr : Int32) (esum : Int64) (goes target : Int32) (x eea reg mval flag carry ovf sums : Int32) (newSum : Int64) (store bytes mst next goal returns went : Int32) : Prop :=
  exc = x ∧ (∃ n : Nat, n ≤ 14 ∧ exc = nI n) ∧ (¬ exc = 0 → has = eea ∧ isB has ∧ (¬ eea = 0 → addr = mval)) ∧
  (exc = 0 → reg = fX3_writtenRegister traits d ∧ (¬ reg = 0 → val = mval) ∧ StoreOk size place stored store bytes mst ∧ esr = srF sr flag carry ovf ∧ (esum = if sums = 0 then sum else newSum) ∧ (returns = if op = 33 then 1 else 0) ∧ next = pc + 4 ∧ (¬ fX3_is traits 8192 = 0 → target = goal ∧ goes = went ∧ isB went ∧ (¬ op = 22 → ¬ op = 23 → went = 1)) ∧ (flag < 0 ↔ fX3_is traits 128 = 0)) ∧
  ((fX3_is traits 8192 = 0 ∨ ¬ exc = 0) → went = went0)
abbrev PF (sets : Int32) (sum : Int64) (pc ret lines w mv : Int32) (ns : Int64) (yb st went : Int32) (mm mr ms mw mlc mlv : Nat → Int32) : Int32 × Int32 × Int32 × Int32 × Int32 × Int32 × Int32 × Int32 × Int64 × Int32 × Int32 × Int32 × Int32 × Int32 × Int32 × Int32 := fX11_perform sets sum pc ret lines w 0 0 0 mv (-1) (-1) (-1) 0 ns (-1) yb st (pc + 4) 0 0 went mm mr ms mw mlc mlv
/-- which operations work out a value -/
abbrev isW (n : Nat) : Bool := decide (n < 18) || (decide (34 ≤ n) && decide (n ≤ 50)) || decide (n = 57)
theorem w_bits : ∀ (n : Fin 64) (d : Fin 32), isW n.val = true → fX3_is (TT n.val d.val) 8192 = 0 ∧ fX3_is (TT n.val d.val) 1536 = 0 ∧ fX3_is (TT n.val d.val) 16384 = 0 ∧ fX3_is (TT n.val d.val) 128 = 0 := by decide +kernel
theorem n_lt {n : Fin 64} (k : Nat) (hk : k < 64) : nI n.val < nI k ↔ n.val < k := by rw [nI_ltI (by omega) (by omega)]
theorem n_le {n : Fin 64} (k : Nat) (hk : k < 64) : nI n.val ≤ nI k ↔ n.val ≤ k := by rw [nI_leI (by omega) (by omega)]
theorem n_ge {n : Fin 64} (k : Nat) (hk : k < 64) : nI k ≤ nI n.val ↔ k ≤ n.val := by rw [nI_leI (by omega) (by omega)]
theorem n_eq {n : Fin 64} (k : Nat) (hk : k < 64) : nI n.val = nI k ↔ n.val = k := by rw [nI_eq (by omega) (by omega)]
theorem perf_work {sets : Int32} {sum : Int64} {pc ret lines w mv : Int32} {ns : Int64} {yb st went : Int32} {mm mr ms mw mlc mlv : Nat → Int32} (n : Fin 64) (e : fX11_op w = nI n.val) (hW : isW n.val = true) (z2 : Int32 × Int32 × Int32 × Int32 × Int32 × Int32 × Int64) (hz : z2 = fX11_work sum w 0 0 mv (-1) (-1) 0 ns ms (nI n.val) (fD w) (mr (fA w).toNatClampNeg) (mr (fB w).toNatClampNeg) (w &&& 65535) w.toInt16.toInt32) :
    PF sets sum pc ret lines w mv ns yb st went mm mr ms mw mlc mlv = (z2.1, 0, z2.2.1, z2.2.2.1, -1, z2.2.2.2.1, z2.2.2.2.2.1, z2.2.2.2.2.2.1, z2.2.2.2.2.2.2, -1, yb, st, pc + 4, 0, 0, went) := by
  subst hz
  unfold PF fX11_perform
  rw [mD, mA, mB, w_s16, e]
  dsimp only
  by_cases h1 : n.val < 18
  · rw [if_pos (show nI n.val < 18 from (n_lt 18 (by omega)).mpr h1)]
  · rw [if_neg (show ¬ nI n.val < 18 from fun q => h1 ((n_lt 18 (by omega)).mp q))]
    have h2 : ¬ n.val ≤ 33 := fun q => by
      have hh := hW
      simp only [Bool.or_eq_true, Bool.and_eq_true, decide_eq_true_eq] at hh
      omega
    rw [if_neg (show ¬ nI n.val ≤ 33 from fun q => h2 ((n_le 33 (by omega)).mp q))]
    by_cases h3 : n.val < 51
    · rw [if_pos (show nI n.val < 51 from (n_lt 51 (by omega)).mpr h3)]
    · rw [if_neg (show ¬ nI n.val < 51 from fun q => h3 ((n_lt 51 (by omega)).mp q))]
      have h4 : n.val = 57 := by
        simp only [Bool.or_eq_true, Bool.and_eq_true, decide_eq_true_eq] at hW
        omega
      rw [if_pos (show nI n.val = 57 from (n_eq 57 (by omega)).mpr h4)]
theorem cr_all {d sr u i x y mv w : Int32} {sum ns : Int64} {ms : Nat → Int32} (h0 : sr = ms 0) (n : Fin 64) (e : fX11_op w = nI n.val) (hW : isW n.val = true) : CRel d sr sum (fX2_calculate (nI n.val) u i 0 0 sr sum x y) (fX11_work sum w 0 0 mv (-1) (-1) 0 ns ms (nI n.val) d x y u i) (decide (38 ≤ n.val) && decide (n.val ≤ 40)) := by
  have hS := m_sum n e
  have hC : fX11_readsCarry w = bI (decide (n.val = 34) || decide (n.val = 35)) := by
    unfold fX11_readsCarry; dsimp only; rw [e]; clear hS hW e; revert n; decide +kernel
  obtain ⟨n, hn⟩ := n
  dsimp only at *
  have hh := hW
  simp only [Bool.or_eq_true, Bool.and_eq_true, decide_eq_true_eq] at hh
  rcases (show n = 0 ∨ n = 1 ∨ n = 2 ∨ n = 3 ∨ n = 4 ∨ n = 5 ∨ n = 6 ∨ n = 7 ∨ n = 8 ∨ n = 9 ∨ n = 10 ∨ n = 11 ∨ n = 12 ∨ n = 13 ∨ n = 14 ∨ n = 15 ∨ n = 16 ∨ n = 17 ∨ n = 34 ∨ n = 35 ∨ n = 36 ∨ n = 37 ∨ n = 38 ∨ n = 39 ∨ n = 40 ∨ n = 41 ∨ n = 42 ∨ n = 43 ∨ n = 44 ∨ n = 45 ∨ n = 46 ∨ n = 47 ∨ n = 48 ∨ n = 49 ∨ n = 50 ∨ n = 57 by omega) with rfl | rfl | rfl | rfl | rfl | rfl | rfl | rfl | rfl | rfl | rfl | rfl | rfl | rfl | rfl | rfl | rfl | rfl | rfl | rfl | rfl | rfl | rfl | rfl | rfl | rfl | rfl | rfl | rfl | rfl | rfl | rfl | rfl | rfl | rfl | rfl
  · exact calc_0 h0 hS hC
  · exact calc_1 h0 hS hC
  · exact calc_2 h0 hS hC
  · exact calc_3 h0 hS hC
  · exact calc_4 h0 hS hC
  · exact calc_5 h0 hS hC
  · exact calc_6 h0 hS hC
  · exact calc_7 h0 hS hC
  · exact calc_8 h0 hS hC
  · exact calc_9 h0 hS hC
  · exact calc_10 h0 hS hC
  · exact calc_11 h0 hS hC
  · exact calc_12 h0 hS hC
  · exact calc_13 h0 hS hC
  · exact calc_14 h0 hS hC
  · exact calc_15 h0 hS hC
  · exact calc_16 h0 hS hC
  · exact calc_17 h0 hS hC
  · exact calc_34 h0 hS hC
  · exact calc_35 h0 hS hC
  · exact calc_36 h0 hS hC
  · exact calc_37 h0 hS hC
  · exact calc_38 h0 hS hC
  · exact calc_39 h0 hS hC
  · exact calc_40 h0 hS hC
  · exact calc_41 h0 hS hC
  · exact calc_42 h0 hS hC
  · exact calc_43 h0 hS hC
  · exact calc_44 h0 hS hC
  · exact calc_45 h0 hS hC
  · exact calc_46 h0 hS hC
  · exact calc_47 h0 hS hC
  · exact calc_48 h0 hS hC
  · exact calc_49 h0 hS hC
  · exact calc_50 h0 hS hC
  · exact calc_57 h0 hS hC
theorem neg1 : (-1 : Int32) < 0 := by decide
theorem srF_m (s c o : Int32) : srF s (-1) c o = srB (srB s 128 (-129) c) 256 (-257) o := rfl
theorem srF_f (s f : Int32) : srF s f (-1) (-1) = srB s 32 (-33) f := rfl
theorem srF_0 (s : Int32) : srF s (-1) (-1) (-1) = s := rfl
theorem wr_w : ∀ (n : Fin 64) (d : Fin 32), isW n.val = true → fX3_writtenRegister (TT n.val d.val) (nI d.val) = if (decide (38 ≤ n.val) && decide (n.val ≤ 40)) then 0 else nI d.val := by decide +kernel
theorem op33 (n : Fin 64) (h : ¬ n.val = 33) : ¬ nI n.val = 33 := fun q => h ((n_eq 33 (by omega)).mp q)
/-- the projections of workOut and perform in LV -/
abbrev LVt (traits op d pc sr : Int32) (sum : Int64) (went0 : Int32) (k : Int32 × Int32 × Int32 × Int32 × Int32 × Int32 × Int32 × Int32 × Int64 × Int32 × Int32) (m : Int32 × Int32 × Int32 × Int32 × Int32 × Int32 × Int32 × Int32 × Int64 × Int32 × Int32 × Int32 × Int32 × Int32 × Int32 × Int32) : Prop :=
  LV traits op d pc sr sum went0 k.1 k.2.1 k.2.2.1 k.2.2.2.1 k.2.2.2.2.1 k.2.2.2.2.2.1 k.2.2.2.2.2.2.1 k.2.2.2.2.2.2.2.1 k.2.2.2.2.2.2.2.2.1 k.2.2.2.2.2.2.2.2.2.1 k.2.2.2.2.2.2.2.2.2.2 m.1 m.2.1 m.2.2.1 m.2.2.2.1 m.2.2.2.2.1 m.2.2.2.2.2.1 m.2.2.2.2.2.2.1 m.2.2.2.2.2.2.2.1 m.2.2.2.2.2.2.2.2.1 m.2.2.2.2.2.2.2.2.2.1 m.2.2.2.2.2.2.2.2.2.2.1 m.2.2.2.2.2.2.2.2.2.2.2.1 m.2.2.2.2.2.2.2.2.2.2.2.2.1 m.2.2.2.2.2.2.2.2.2.2.2.2.2.1 m.2.2.2.2.2.2.2.2.2.2.2.2.2.2.1 m.2.2.2.2.2.2.2.2.2.2.2.2.2.2.2
theorem lv_work {pc sr mv w ad pl st' tg : Int32} {sum ns : Int64} {sets ret lines yb st went : Int32} {rg mm mr ms mw mlc mlv : Nat → Int32} (h0 : sr = ms 0) (hr : ∀ j, j < 32 → rg j = mr j) (n : Fin 64) (d : Fin 32) (e : fX11_op w = nI n.val) (ed : fD w = nI d.val) (hW : isW n.val = true) (z : Int32 × Int32 × Int32 × Int64) (hz : z = fX2_calculate (nI n.val) (w &&& 65535) w.toInt16.toInt32 0 0 sr sum (rg (fA w).toNatClampNeg) (rg (fB w).toNatClampNeg)) :
    LVt (TT n.val d.val) (nI n.val) (fD w) pc sr sum went (z.1, 0, ad, z.2.1, 0, pl, st', z.2.2.1, z.2.2.2, 0, tg) (PF sets sum pc ret lines w mv ns yb st went mm mr ms mw mlc mlv) := by
  have hA : rg (fA w).toNatClampNeg = mr (fA w).toNatClampNeg := by
    obtain ⟨k, hk⟩ := w_31n (jushr w 16)
    rw [show fA w = nI k.val from hk, nI_clamp (by omega)]
    exact hr _ k.isLt
  have hB : rg (fB w).toNatClampNeg = mr (fB w).toNatClampNeg := by
    obtain ⟨k, hk⟩ := w_31n (jushr w 11)
    rw [show fB w = nI k.val from hk, nI_clamp (by omega)]
    exact hr _ k.isLt
  rw [hA, hB] at hz
  rw [perf_work n e hW _ rfl]
  have hc := cr_all (d := fD w) (u := w &&& 65535) (i := w.toInt16.toInt32) (x := mr (fA w).toNatClampNeg) (y := mr (fB w).toNatClampNeg) (mv := mv) (sum := sum) (ns := ns) h0 n e hW
  rw [← hz] at hc
  clear hz
  generalize fX11_work sum w 0 0 mv (-1) (-1) 0 ns ms (nI n.val) (fD w) (mr (fA w).toNatClampNeg) (mr (fB w).toNatClampNeg) (w &&& 65535) w.toInt16.toInt32 = m at hc ⊢
  obtain ⟨c1, c2, c3⟩ := hc
  obtain ⟨b1, b2, b3, b4⟩ := w_bits n d hW
  refine ⟨c1, ?_, fun _ => ⟨rfl, Or.inl rfl, fun q => absurd rfl q⟩, fun h => ?_, fun _ => rfl⟩
  · rcases c2 with c2 | c2
    · exact ⟨0, by omega, c2⟩
    · exact ⟨11, by omega, c2⟩
  · obtain ⟨r1, r2, r3, r4⟩ := c3 h
    have hw := wr_w n d hW
    rw [← ed] at hw
    refine ⟨r1.trans hw.symm, fun q => ?_, Or.inl ⟨rfl, rfl⟩, r3, r4, ?_, rfl, fun q => absurd b1 q, ⟨fun _ => b4, fun _ => neg1⟩⟩
    · refine r2 ?_
      cases hs : (decide (38 ≤ n.val) && decide (n.val ≤ 40))
      · rfl
      · rw [hs] at r1
        exact absurd r1 q
    · rw [if_neg (op33 n (fun q => by
        simp only [Bool.or_eq_true, Bool.and_eq_true, decide_eq_true_eq] at hW
        omega))]
/-! branches -/
theorem br_bits : ∀ (n : Fin 64) (d : Fin 32), (20 ≤ n.val ∧ n.val ≤ 25) → ¬ fX3_is (TT n.val d.val) 8192 = 0 ∧ fX3_is (TT n.val d.val) 128 = 0 ∧ fX3_writtenRegister (TT n.val d.val) (nI d.val) = if n.val = 21 ∨ n.val = 25 then 31 else 0 := by decide +kernel
theorem perf_branch {sets : Int32} {sum : Int64} {pc ret lines w mv : Int32} {ns : Int64} {yb st went : Int32} {mm mr ms mw mlc mlv : Nat → Int32} (n : Fin 64) (e : fX11_op w = nI n.val) (hn : 20 ≤ n.val ∧ n.val ≤ 25) :
    PF sets sum pc ret lines w mv ns yb st went mm mr ms mw mlc mlv = (let j6 : Int32 := if nI n.val = 22 then fX11_has ms 32 else (if nI n.val = 23 then (if fX11_has ms 32 = 0 then (1) else (0)) else (1)); let j8 : Int32 × Int32 := if nI n.val = 21 then (31, pc + 8) else (if nI n.val = 25 then (31, pc + 8) else (0, mv)); (0, 0, j8.1, j8.2, -1, -1, -1, 0, ns, -1, yb, st, pc + 4, if j6 = 0 then (pc + 8) else (if nI n.val ≤ 23 then (pc + ((4 : Int32) * ((w <<< ((6 : Int32) &&& 31)) >>> ((6 : Int32) &&& 31)))) else (mr (fB w).toNatClampNeg)), 0, j6)) := by
  unfold PF fX11_perform
  rw [mD, mA, mB, w_s16, m_memory n e, e]
  dsimp only
  rw [if_neg (show ¬ nI n.val < 18 from fun q => by have := (n_lt 18 (by omega)).mp q; omega), if_pos (show nI n.val ≤ 33 from (n_le 33 (by omega)).mpr (by omega)), if_neg (show ¬ nI n.val = 57 from fun q => by have := (n_eq 57 (by omega)).mp q; omega), if_neg (show ¬ nI n.val = 55 from fun q => by have := (n_eq 55 (by omega)).mp q; omega), if_neg (show ¬ nI n.val = 56 from fun q => by have := (n_eq 56 (by omega)).mp q; omega)]
  have hm : bI ((decide (26 ≤ n.val) && decide (n.val ≤ 29)) || (decide (51 ≤ n.val) && decide (n.val ≤ 54))) = 0 := by
    rw [decide_eq_false (show ¬ 26 ≤ n.val by omega), decide_eq_false (show ¬ 51 ≤ n.val by omega)]; rfl
  rw [hm, if_pos rfl, if_pos (show 20 ≤ nI n.val from (n_ge 20 (by omega)).mpr hn.1), if_neg (show ¬ 26 ≤ nI n.val from fun q => by have := (n_ge 26 (by omega)).mp q; omega)]
  rfl
theorem lv_branch {pc sr mv w ad pl st' tg : Int32} {sum ns : Int64} {sets ret lines yb st went : Int32} {rg mm mr ms mw mlc mlv : Nat → Int32} (h0 : sr = ms 0) (hr : ∀ j, j < 32 → rg j = mr j) (n : Fin 64) (d : Fin 32) (e : fX11_op w = nI n.val) (ed : fD w = nI d.val) (hn : 20 ≤ n.val ∧ n.val ≤ 25) (z : Int32 × Int32 × Int32) (hz : z = fX2_branch pc (nI n.val) (fB w) ((w <<< ((6 : Int32) &&& 31)) >>> ((6 : Int32) &&& 31)) sr rg) :
    LVt (TT n.val d.val) (nI n.val) (fD w) pc sr sum went (0, 0, ad, z.1, 0, pl, st', sr, sum, z.2.1, z.2.2) (PF sets sum pc ret lines w mv ns yb st went mm mr ms mw mlc mlv) := by
  subst hz
  have hB : rg (fB w).toNatClampNeg = mr (fB w).toNatClampNeg := by
    obtain ⟨k, hk⟩ := w_31n (jushr w 11)
    rw [show fB w = nI k.val from hk, nI_clamp (by omega)]
    exact hr _ k.isLt
  rw [perf_branch n e hn]
  obtain ⟨b1, b2, b3⟩ := br_bits n d hn
  dsimp only
  have hg : ∀ x : Int32, (if x = 22 then fX11_has ms 32 else (if x = 23 then (if fX11_has ms 32 = 0 then (1 : Int32) else (0)) else (1))) = (if x = 22 then (if (sr &&& 32) = 0 then (0 : Int32) else (1)) else (if x = 23 then (if (if (sr &&& 32) = 0 then (0 : Int32) else (1)) = 0 then (1) else (0)) else (1))) := by
    intro x; rw [has_b, h0]
  rw [hg]
  have hj : isB (if nI n.val = 22 then (if (sr &&& 32) = 0 then (0 : Int32) else (1)) else (if nI n.val = 23 then (if (if (sr &&& 32) = 0 then (0 : Int32) else (1)) = 0 then (1) else (0)) else (1))) := by
    split
    · exact isB_ite _
    · split
      · exact isB_ite' _
      · exact Or.inr rfl
  unfold fX2_branch
  dsimp only
  rw [hB]
  have hj2 : ¬ nI n.val = 22 → ¬ nI n.val = 23 → (if nI n.val = 22 then (if (sr &&& 32) = 0 then (0 : Int32) else (1)) else (if nI n.val = 23 then (if (if (sr &&& 32) = 0 then (0 : Int32) else (1)) = 0 then (1) else (0)) else (1))) = 1 := fun q1 q2 => by rw [if_neg q1, if_neg q2]
  generalize (if nI n.val = 22 then (if (sr &&& 32) = 0 then (0 : Int32) else (1)) else (if nI n.val = 23 then (if (if (sr &&& 32) = 0 then (0 : Int32) else (1)) = 0 then (1) else (0)) else (1))) = G at hj hj2 ⊢
  have hlt : (nI n.val < 24) ↔ (nI n.val ≤ 23) := by
    have a : nI n.val < 24 ↔ n.val < 24 := n_lt 24 (by omega)
    have b : nI n.val ≤ 23 ↔ n.val ≤ 23 := n_le 23 (by omega)
    rw [a, b]; omega
  have e21 : (nI n.val = 21) ↔ n.val = 21 := n_eq 21 (by omega)
  have e25 : (nI n.val = 25) ↔ n.val = 25 := n_eq 25 (by omega)
  rw [← ed] at b3
  have hreg : (if nI n.val = 21 then ((31 : Int32), pc + 8) else (if nI n.val = 25 then (31, pc + 8) else (0, mv))) = if n.val = 21 ∨ n.val = 25 then (31, pc + 8) else (0, mv) := by
    by_cases a : n.val = 21
    · rw [if_pos (e21.mpr a), if_pos (Or.inl a)]
    · rw [if_neg (fun q => a (e21.mp q))]
      by_cases b : n.val = 25
      · rw [if_pos (e25.mpr b), if_pos (Or.inr b)]
      · rw [if_neg (fun q => b (e25.mp q)), if_neg (fun q => q.elim a b)]
  rw [hreg]
  have hz : (if G = 0 then ((pc + 8, G, pc + 8)) else (if nI n.val < 24 then ((pc + 8, G, pc + (4 * ((w <<< ((6 : Int32) &&& 31)) >>> ((6 : Int32) &&& 31))))) else ((pc + 8, G, mr (fB w).toNatClampNeg)))) = (pc + 8, G, if G = 0 then (pc + 8) else (if nI n.val ≤ 23 then (pc + ((4 : Int32) * ((w <<< ((6 : Int32) &&& 31)) >>> ((6 : Int32) &&& 31)))) else (mr (fB w).toNatClampNeg))) := by
    by_cases a : G = 0
    · rw [if_pos a, if_pos a]
    · rw [if_neg a, if_neg a]
      by_cases b : nI n.val < 24
      · rw [if_pos b, if_pos (hlt.mp b)]
      · rw [if_neg b, if_neg (fun q => b (hlt.mpr q))]
  rw [hz]
  dsimp only
  refine ⟨rfl, ⟨0, by omega, rfl⟩, fun q => absurd rfl q, fun _ => ⟨?_, ?_, Or.inl ⟨rfl, rfl⟩, rfl, rfl, ?_, rfl, fun _ => ⟨rfl, rfl, hj, hj2⟩, ⟨fun _ => b2, fun _ => neg1⟩⟩, fun q => q.elim (fun k => absurd k b1) (fun k => absurd rfl k)⟩
  · rw [b3]; split <;> rfl
  · by_cases a : n.val = 21 ∨ n.val = 25
    · rw [if_pos a]; exact fun _ => rfl
    · rw [if_neg a]; exact fun q => absurd rfl q
  · rw [if_neg (op33 n (by omega))]
/-! comparisons -/
theorem cmp_bits : ∀ (n : Fin 64) (d : Fin 32), (n.val = 18 ∨ n.val = 19) → d.val ≤ 9 → fX3_is (TT n.val d.val) 8192 = 0 ∧ fX3_is (TT n.val d.val) 1536 = 0 ∧ fX3_is (TT n.val d.val) 16384 = 0 ∧ ¬ fX3_is (TT n.val d.val) 128 = 0 ∧ fX3_writtenRegister (TT n.val d.val) (nI d.val) = 0 ∧ (fX3_is (TT n.val d.val) 2 = 0 ↔ n.val = 19) := by decide +kernel
theorem holds_b : ∀ d : Fin 10, ∀ q : Int32, isB (fX2_holds (if (5 : Int32) < nI d.val then nI d.val - 4 else nI d.val) q) := by
  intro d q
  unfold fX2_holds
  repeat' split
  all_goals first | exact Or.inl rfl | exact Or.inr rfl
theorem cmp_pos : ∀ d : Fin 10, ((6 : Int32) ≤ nI d.val ↔ (5 : Int32) < nI d.val) := by decide +kernel
theorem lg_three (a b : Int64) : lg_cmp a b = 0 ∨ lg_cmp a b = 1 ∨ lg_cmp a b = -1 := by
  unfold lg_cmp
  split
  · exact Or.inr (Or.inl rfl)
  · split
    · exact Or.inl rfl
    · exact Or.inr (Or.inr rfl)
theorem e_cmp (d : Fin 10) (x y : Int32) : (if fX11_compare (nI d.val) x y = 0 then (0 : Int32) else 1) = fX2_holds (if (5 : Int32) < nI d.val then nI d.val - 4 else nI d.val) (if (5 : Int32) < nI d.val then fJ6_compare_7cf53 x y else fJ6_compareUnsigned_7cf53 x y) := by
  have h : ∀ d : Fin 10, ∀ q : Int32, (q = 0 ∨ q = 1 ∨ q = -1) → (if (if nI d.val = 0 then (if q = 0 then (1 : Int32) else (0)) else (if nI d.val = 1 then (if q = 0 then (0) else (1)) else (if nI d.val = 2 then (if q ≤ 0 then (0) else (1)) else (if nI d.val = 3 then (if q < 0 then (0) else (1)) else (if nI d.val = 4 then (if 0 ≤ q then (0) else (1)) else (if nI d.val = 6 then (if q ≤ 0 then (0) else (1)) else (if nI d.val = 7 then (if q < 0 then (0) else (1)) else (if nI d.val = 8 then (if 0 ≤ q then (0) else (1)) else (if 0 < q then (0) else (1)))))))))) = 0 then (0 : Int32) else 1) = fX2_holds (if (5 : Int32) < nI d.val then nI d.val - 4 else nI d.val) q := by
    intro d q hq
    rcases hq with rfl | rfl | rfl
    · revert d; decide +kernel
    · revert d; decide +kernel
    · revert d; decide +kernel
  rw [w_cmp, w_ucmp]
  have hp := cmp_pos d
  unfold fX11_compare
  dsimp only
  by_cases h5 : (5 : Int32) < nI d.val
  · rw [if_pos (hp.mpr h5), if_pos (hp.mpr h5), h d _ (lg_three _ _)]
    simp only [h5, if_true]
  · rw [if_neg (fun q => h5 (hp.mp q)), if_neg (fun q => h5 (hp.mp q)), h d _ (lg_three _ _)]
    simp only [h5, if_false]
theorem perf_cmp {sets : Int32} {sum : Int64} {pc ret lines w mv : Int32} {ns : Int64} {yb st went : Int32} {mm mr ms mw mlc mlv : Nat → Int32} (n : Fin 64) (e : fX11_op w = nI n.val) (hn : n.val = 18 ∨ n.val = 19) :
    PF sets sum pc ret lines w mv ns yb st went mm mr ms mw mlc mlv = (0, 0, 0, mv, if fX11_compare (fD w) (mr (fA w).toNatClampNeg) (if nI n.val = 18 then (mr (fB w).toNatClampNeg) else w.toInt16.toInt32) = 0 then 0 else 1, -1, -1, 0, ns, -1, yb, st, pc + 4, 0, 0, went) := by
  unfold PF fX11_perform
  rw [mD, mA, mB, w_s16, m_memory n e, e]
  dsimp only
  rw [if_neg (show ¬ nI n.val < 18 from fun q => by have := (n_lt 18 (by omega)).mp q; omega), if_pos (show nI n.val ≤ 33 from (n_le 33 (by omega)).mpr (by omega)), if_neg (show ¬ nI n.val = 57 from fun q => by have := (n_eq 57 (by omega)).mp q; omega), if_neg (show ¬ nI n.val = 55 from fun q => by have := (n_eq 55 (by omega)).mp q; omega), if_neg (show ¬ nI n.val = 56 from fun q => by have := (n_eq 56 (by omega)).mp q; omega)]
  have hm : bI ((decide (26 ≤ n.val) && decide (n.val ≤ 29)) || (decide (51 ≤ n.val) && decide (n.val ≤ 54))) = 0 := by
    rw [decide_eq_false (show ¬ 26 ≤ n.val by omega), decide_eq_false (show ¬ 51 ≤ n.val by omega)]; rfl
  rw [hm, if_pos rfl, if_neg (show ¬ 20 ≤ nI n.val from fun q => by have := (n_ge 20 (by omega)).mp q; omega)]
theorem lv_cmp {pc sr mv w ad pl st' tg : Int32} {sum ns : Int64} {sets ret lines yb st went : Int32} {rg mm mr ms mw mlc mlv : Nat → Int32} (hr : ∀ j, j < 32 → rg j = mr j) (n : Fin 64) (d : Fin 32) (e : fX11_op w = nI n.val) (ed : fD w = nI d.val) (hn : n.val = 18 ∨ n.val = 19) (hd : d.val ≤ 9) (z : Int32) (hz : z = fX2_compare (TT n.val d.val) (fD w) (fA w) (fB w) w.toInt16.toInt32 sr rg) :
    LVt (TT n.val d.val) (nI n.val) (fD w) pc sr sum went (0, 0, ad, 0, 0, pl, st', z, sum, 0, tg) (PF sets sum pc ret lines w mv ns yb st went mm mr ms mw mlc mlv) := by
  have hA : rg (fA w).toNatClampNeg = mr (fA w).toNatClampNeg := by
    obtain ⟨k, hk⟩ := w_31n (jushr w 16)
    rw [show fA w = nI k.val from hk, nI_clamp (by omega)]
    exact hr _ k.isLt
  have hB : rg (fB w).toNatClampNeg = mr (fB w).toNatClampNeg := by
    obtain ⟨k, hk⟩ := w_31n (jushr w 11)
    rw [show fB w = nI k.val from hk, nI_clamp (by omega)]
    exact hr _ k.isLt
  obtain ⟨b1, b2, b3, b4, b5, b6⟩ := cmp_bits n d hn hd
  have e18 : (nI n.val = 18) ↔ n.val = 18 := n_eq 18 (by omega)
  have hz2 : z = srB sr 32 (-33) (if fX11_compare (fD w) (mr (fA w).toNatClampNeg) (if nI n.val = 18 then (mr (fB w).toNatClampNeg) else w.toInt16.toInt32) = 0 then 0 else 1) := by
    rw [hz]
    unfold fX2_compare
    dsimp only
    have e2 : (if fX3_is (TT n.val d.val) 2 = 0 then w.toInt16.toInt32 else rg (fB w).toNatClampNeg) = (if nI n.val = 18 then (mr (fB w).toNatClampNeg) else w.toInt16.toInt32) := by
      by_cases a : n.val = 18
      · rw [if_pos (e18.mpr a), if_neg (fun q => by have := b6.mp q; omega), hB]
      · rw [if_neg (fun q => a (e18.mp q)), if_pos (b6.mpr (by omega))]
    rw [e2, hA, ed]
    have := e_cmp ⟨d.val, by omega⟩ (mr (fA w).toNatClampNeg) (if nI n.val = 18 then (mr (fB w).toNatClampNeg) else w.toInt16.toInt32)
    dsimp only at this
    rw [this, set32 _ _ (holds_b ⟨d.val, by omega⟩ _)]
  rw [perf_cmp n e hn]
  rw [hz2]
  generalize fX11_compare (fD w) (mr (fA w).toNatClampNeg) (if nI n.val = 18 then (mr (fB w).toNatClampNeg) else w.toInt16.toInt32) = G
  rw [← ed] at b5
  refine ⟨rfl, ⟨0, by omega, rfl⟩, fun q => absurd rfl q, fun _ => ⟨b5.symm, fun q => absurd rfl q, Or.inl ⟨rfl, rfl⟩, rfl, rfl, ?_, rfl, fun q => absurd b1 q, ⟨fun q => absurd q ?_, fun q => absurd q b4⟩⟩, fun _ => rfl⟩
  · rw [if_neg (op33 n (by omega))]
  · show ¬ (if G = 0 then (0 : Int32) else 1) < 0
    by_cases a : G = 0
    · rw [if_pos a]; decide
    · rw [if_neg a]; decide
/-! the others: 55, 30, 31, 32, 33, 56 -/
abbrev isO (n : Nat) : Bool := decide (n = 55) || decide (n = 30) || decide (n = 31) || decide (n = 32) || decide (n = 33) || decide (n = 56)
theorem o_bits : ∀ (n : Fin 64) (d : Fin 32), isO n.val = true → fX3_is (TT n.val d.val) 8192 = 0 ∧ fX3_is (TT n.val d.val) 1536 = 0 ∧ fX3_is (TT n.val d.val) 128 = 0 ∧ fX3_writtenRegister (TT n.val d.val) (nI d.val) = (if n.val = 30 then nI d.val else 0) ∧ (fX3_is (TT n.val d.val) 16384 = 0 ↔ n.val = 55) := by decide +kernel
theorem perf_other {sets : Int32} {sum : Int64} {pc ret lines w mv : Int32} {ns : Int64} {yb st went : Int32} {mm mr ms mw mlc mlv : Nat → Int32} (n : Fin 64) (e : fX11_op w = nI n.val) (hn : isO n.val = true) :
    PF sets sum pc ret lines w mv ns yb st went mm mr ms mw mlc mlv = (if n.val = 32 then 12 else (if n.val = 56 then 14 else 0), 0, if n.val = 30 then fD w else 0, if n.val = 30 then fX11_special sets sum ret lines ms mw mlc mlv (w &&& 65535) else mv, -1, -1, -1, 0, ns, -1, yb, st, pc + 4, 0, if n.val = 33 then 1 else 0, went) := by
  unfold PF fX11_perform
  rw [mD, mA, mB, w_s16, m_memory n e, e]
  dsimp only
  have hm : bI ((decide (26 ≤ n.val) && decide (n.val ≤ 29)) || (decide (51 ≤ n.val) && decide (n.val ≤ 54))) = 0 := by
    simp only [Bool.or_eq_true, decide_eq_true_eq] at hn
    have h1 : (decide (26 ≤ n.val) && decide (n.val ≤ 29)) = false := by
      rw [Bool.and_eq_false_iff, decide_eq_false_iff_not, decide_eq_false_iff_not]; omega
    have h2 : (decide (51 ≤ n.val) && decide (n.val ≤ 54)) = false := by
      rw [Bool.and_eq_false_iff, decide_eq_false_iff_not, decide_eq_false_iff_not]; omega
    rw [h1, h2]; rfl
  rw [hm]
  obtain ⟨n, hl⟩ := n
  dsimp only at *
  simp only [Bool.or_eq_true, decide_eq_true_eq] at hn
  rcases (show n = 55 ∨ n = 30 ∨ n = 31 ∨ n = 32 ∨ n = 33 ∨ n = 56 by omega) with rfl | rfl | rfl | rfl | rfl | rfl <;> rfl
/-! loads and stores -/
abbrev isM (n : Nat) : Bool := (decide (26 ≤ n) && decide (n ≤ 29)) || (decide (51 ≤ n) && decide (n ≤ 54))
abbrev isSt (n : Nat) : Bool := decide (n = 28) || decide (n = 29) || decide (n = 54)
def szOf (n : Nat) : Nat := if n = 26 ∨ n = 28 then 4 else (if n = 27 ∨ n = 29 ∨ n = 51 then 1 else 2)
theorem mem_bits : ∀ (n : Fin 64) (d : Fin 32), isM n.val = true → fX3_is (TT n.val d.val) 8192 = 0 ∧ ¬ fX3_is (TT n.val d.val) 1536 = 0 ∧ fX3_is (TT n.val d.val) 128 = 0 ∧ fX3_writtenRegister (TT n.val d.val) (nI d.val) = (if isSt n.val then 0 else nI d.val) ∧ fX3_is (TT n.val d.val) 1024 = bI (isSt n.val) ∧ fX2_sizeOf (nI n.val) = nI (szOf n.val) ∧ (if nI n.val = 26 then (4 : Int32) else (if nI n.val = 28 then (4) else (if nI n.val ≤ 51 then (1) else (2)))) = nI (szOf n.val) ∧ (szOf n.val = 1 ∨ szOf n.val = 2 ∨ szOf n.val = 4) := by decide +kernel
theorem perf_mem {sets : Int32} {sum : Int64} {pc ret lines w mv : Int32} {ns : Int64} {yb st went : Int32} {mm mr ms mw mlc mlv : Nat → Int32} (n : Fin 64) (e : fX11_op w = nI n.val) (hn : isM n.val = true) (z : Int32 × Int32 × Int32 × Int32 × Int32 × Int32 × Int32) (hz : z = fX11_access sets w 0 0 0 mv (-1) yb st mm mr ms mw (nI n.val) (fD w) ((mr (fA w).toNatClampNeg) + w.toInt16.toInt32)) :
    PF sets sum pc ret lines w mv ns yb st went mm mr ms mw mlc mlv = (z.1, z.2.1, z.2.2.1, z.2.2.2.1, -1, -1, -1, 0, ns, z.2.2.2.2.1, z.2.2.2.2.2.1, z.2.2.2.2.2.2, pc + 4, 0, 0, went) := by
  subst hz
  unfold PF fX11_perform
  rw [mD, mA, mB, w_s16, m_memory n e, e]
  dsimp only
  have hn' := hn
  simp only [Bool.or_eq_true, Bool.and_eq_true, decide_eq_true_eq] at hn'
  rw [show ((decide (26 ≤ n.val) && decide (n.val ≤ 29)) || (decide (51 ≤ n.val) && decide (n.val ≤ 54))) = true from hn]
  rw [if_neg (show ¬ nI n.val < 18 from fun q => by have := (n_lt 18 (by omega)).mp q; omega), if_neg (show ¬ nI n.val = 57 from fun q => by have := (n_eq 57 (by omega)).mp q; omega), if_neg (show ¬ nI n.val = 55 from fun q => by have := (n_eq 55 (by omega)).mp q; omega), if_neg (show ¬ nI n.val = 56 from fun q => by have := (n_eq 56 (by omega)).mp q; omega), if_neg (show ¬ bI true = 0 by decide)]
  by_cases h : n.val ≤ 33
  · rw [if_pos (show nI n.val ≤ 33 from (n_le 33 (by omega)).mpr h)]
  · rw [if_neg (show ¬ nI n.val ≤ 33 from fun q => h ((n_le 33 (by omega)).mp q)), if_neg (show ¬ nI n.val < 51 from fun q => by have := (n_lt 51 (by omega)).mp q; omega)]
theorem and_m1 (x : Int32) : x &&& -1 = x := by
  refine b_ext (fun i hi => ?_)
  rw [b_and, b_m1 i hi, Bool.and_true]
theorem al_of {p : Int32} {s : Nat} (hs : s = 1 ∨ s = 2 ∨ s = 4) (h : p &&& (nI s - 1) = 0) : uw p % s = 0 := by
  rcases hs with rfl | rfl | rfl
  · omega
  · have := u_and (x := p) (m := nI 2 - 1) 1 (by decide)
    rw [h] at this
    have z : uw 0 = 0 := rfl
    omega
  · have := u_and (x := p) (m := nI 4 - 1) 2 (by decide)
    rw [h] at this
    have z : uw 0 = 0 := rfl
    omega
theorem lv_mem {mem rg wo mm mr ms mw mlc mlv : Nat → Int32} {pc sr mv w ad pl st' tg : Int32} {sum ns : Int64} {sets ret lines yb st went : Int32} (hm : MemOk mem mm) (hs : sets = 16 ∨ sets = 32 ∨ sets = 64 ∨ sets = 128) (hw : ∀ j, j < 512 → wo j = mw j) (h0 : sr = ms 0) (hr : ∀ j, j < 32 → rg j = mr j) (n : Fin 64) (d : Fin 32) (e : fX11_op w = nI n.val) (ed : fD w = nI d.val) (hn : isM n.val = true) (z : Int32 × Int32 × Int32 × Int32 × Int32 × Int32 × Int32) (hz : z = fX2_access mem sets (TT n.val d.val) (nI n.val) (fD w) (fA w) w.toInt16.toInt32 0 0 ad 0 0 pl st' sr rg wo) :
    LVt (TT n.val d.val) (nI n.val) (fD w) pc sr sum went (z.1, z.2.1, z.2.2.1, z.2.2.2.1, z.2.2.2.2.1, z.2.2.2.2.2.1, z.2.2.2.2.2.2, sr, sum, 0, tg) (PF sets sum pc ret lines w mv ns yb st went mm mr ms mw mlc mlv) := by
  have hA : rg (fA w).toNatClampNeg = mr (fA w).toNatClampNeg := by
    obtain ⟨k, hk⟩ := w_31n (jushr w 16)
    rw [show fA w = nI k.val from hk, nI_clamp (by omega)]
    exact hr _ k.isLt
  have hD : rg (fD w).toNatClampNeg = mr (fD w).toNatClampNeg := by
    rw [ed, nI_clamp (by omega)]
    exact hr _ d.isLt
  obtain ⟨b1, b2, b3, b4, b5, b6, b7, b8⟩ := mem_bits n d hn
  have h33 : ¬ n.val = 33 := fun q => by
    simp only [Bool.or_eq_true, Bool.and_eq_true, decide_eq_true_eq] at hn
    omega
  rw [perf_mem n e hn _ rfl]
  unfold fX2_access at hz
  unfold fX11_access
  dsimp only at hz ⊢
  rw [b6, b5, hA, hD] at hz
  rw [b7, show fX11_isStore w = bI (isSt n.val) from m_store n e]
  rw [← ed] at b4
  have hfail : ∀ c : Int32, (∃ k : Nat, k ≤ 14 ∧ -c = nI k ∧ 0 < k) → z = (-c, 1, (mr (fA w).toNatClampNeg) + w.toInt16.toInt32, 0, 0, pl, st') → LVt (TT n.val d.val) (nI n.val) (fD w) pc sr sum went (z.1, z.2.1, z.2.2.1, z.2.2.2.1, z.2.2.2.2.1, z.2.2.2.2.2.1, z.2.2.2.2.2.2, sr, sum, 0, tg) (-c, 1, 0, (mr (fA w).toNatClampNeg) + w.toInt16.toInt32, -1, -1, -1, 0, ns, -1, yb, st, pc + 4, 0, 0, went) := by
    intro c ⟨k, hk, ek, k0⟩ hz'
    rw [hz']
    refine ⟨rfl, ⟨k, hk, ek⟩, fun _ => ⟨rfl, Or.inr rfl, fun _ => rfl⟩, fun q => ?_, fun _ => rfl⟩
    have q' : -c = 0 := q
    rw [ek] at q'
    exact absurd q' (nI_ne0 k0 (by omega))
  by_cases hal : ((mr (fA w).toNatClampNeg) + w.toInt16.toInt32) &&& (nI (szOf n.val) - 1) = 0
  · rw [if_pos hal] at hz
    obtain ⟨d1, d2⟩ := e_data hs hw h0 ((mr (fA w).toNatClampNeg) + w.toInt16.toInt32) (nI (szOf n.val)) (bI (isSt n.val)) hal
    rw [d1]
    have hcase : (∃ a : Nat, a < 65536 ∧ a % szOf n.val = 0 ∧ fX5_dataPlace sets wo ((mr (fA w).toNatClampNeg) + w.toInt16.toInt32) sr (bI (isSt n.val)) = nI a) ∨ (∃ k : Nat, k ≤ 14 ∧ 0 < k ∧ fX5_dataPlace sets wo ((mr (fA w).toNatClampNeg) + w.toInt16.toInt32) sr (bI (isSt n.val)) = - nI k) := by
      rcases d2 with ⟨J, q1, q2⟩ | q | q
      · rw [q1]
        unfold dataR
        by_cases hc : (if bI (isSt n.val) = 0 then 0 else 32768) ≤ uw J ∧ uw J < 65536
        · rw [if_pos hc]
          refine Or.inl ⟨uw J, hc.2, ?_, u_self J⟩
          have := al_of b8 hal
          rcases b8 with b8 | b8 | b8 <;> rw [b8] at this ⊢ <;> omega
        · rw [if_neg hc]; exact Or.inr ⟨2, by omega, by omega, rfl⟩
      · rw [q]; exact Or.inr ⟨9, by omega, by omega, rfl⟩
      · rw [q]; exact Or.inr ⟨3, by omega, by omega, rfl⟩
    rcases hcase with ⟨a, ha, ham, ea⟩ | ⟨k, hk, k0, ek⟩
    · rw [ea] at hz ⊢
      have hp : (0 : Int32) ≤ nI a := nI_le (a := 0) (by omega) (by omega)
      obtain ⟨q1, q2, q3, q4⟩ := sz_in b8 ham ha
      rw [if_pos hp] at hz ⊢
      cases hst : isSt n.val
      · rw [hst] at hz b4
        rw [show bI false = 0 from rfl] at hz ⊢
        rw [if_pos rfl] at hz ⊢
        rw [e_load hm b8 ham ha] at hz
        have hg := g_acc (mm := mm) (x := 0) (e := 0) (s := -1) (b := yb) (st := st) (op := nI n.val) (d := fD w) (u := ()) (a := a) (n := szOf n.val) q4 q1 5 0 (by omega) (by omega)
        rw [show gX11_access_148 0 0 (-1) yb st mm (nI n.val) (fD w) (nI (szOf n.val)) (nI a, ()) 5 (0, 0) = _ from hg]
        rw [hz]
        refine ⟨rfl, ⟨0, by omega, rfl⟩, fun q => absurd rfl q, fun _ => ⟨b4.symm, fun _ => rfl, Or.inl ⟨rfl, rfl⟩, rfl, rfl, ?_, rfl, fun q => absurd b1 q, ⟨fun _ => b3, fun _ => neg1⟩⟩, fun _ => rfl⟩
        rw [if_neg (op33 n h33)]
      · rw [hst] at hz b4
        rw [if_neg (show ¬ bI true = 0 by decide)] at hz ⊢
        rw [hz]
        refine ⟨rfl, ⟨0, by omega, rfl⟩, fun q => absurd rfl q, fun _ => ⟨b4.symm, fun q => absurd rfl q, Or.inr ⟨a, szOf n.val, b8, ham, ha, rfl, rfl, rfl, rfl, ?_⟩, rfl, rfl, ?_, rfl, fun q => absurd b1 q, ⟨fun _ => b3, fun _ => neg1⟩⟩, fun _ => rfl⟩
        · rcases b8 with b8 | b8 | b8 <;> rw [b8]
          · rfl
          · rfl
          · exact and_m1 _
        · rw [if_neg (op33 n h33)]
    · rw [ek] at hz ⊢
      have hp : ¬ (0 : Int32) ≤ - nI k := by
        have hb : ∀ k : Fin 15, k.val ≠ 0 → ¬ (0 : Int32) ≤ - nI k.val := by decide +kernel
        exact hb ⟨k, by omega⟩ (by show k ≠ 0; omega)
      rw [if_neg hp] at hz ⊢
      refine hfail (- nI k) ⟨k, hk, ?_, k0⟩ hz
      rw [Int32.neg_neg]
  · rw [if_neg hal] at hz
    have hd6 : fX11_dataAt sets ms mw ((mr (fA w).toNatClampNeg) + w.toInt16.toInt32) (nI (szOf n.val)) (bI (isSt n.val)) = -6 := by
      unfold fX11_dataAt
      rw [if_neg hal]
    rw [hd6, if_neg (show ¬ (0 : Int32) ≤ -6 by decide)]
    exact hfail (-6) ⟨6, by omega, rfl, by omega⟩ hz
theorem lv_other {sr epc esr eea held sum' count timer mask ret latch sets passed size : Int32} {pc mv w ad pl st' tg : Int32} {sum ns : Int64} {yb st went : Int32} {wo co va mm mr ms mw mlc mlv : Nat → Int32} (hL : LinesOk size passed co ret) (h1 : ∀ j, j < 32 → co j = mlc j) (h2 : ∀ j, j < 32 → va j = mlv j) (hw : ∀ j, j < 512 → wo j = mw j) (e0 : sr = ms 0) (e1 : epc = ms 1) (e2 : esr = ms 2) (e3 : eea = ms 3) (e4 : count = ms 4) (e5 : timer = ms 5) (e6 : mask = ms 6) (e7 : held = ms 7) (e9 : latch = ms 9) (n : Fin 64) (d : Fin 32) (e : fX11_op w = nI n.val) (ed : fD w = nI d.val) (hn : isO n.val = true) (z : Int32 × Int32 × Int32) (hz : z = (if n.val = 55 then (passed, 0, 0) else fX2_single sr epc esr eea held sum count timer mask ret latch sets passed size (nI n.val) (w &&& 65535) 0 0 wo co va)) :
    LVt (TT n.val d.val) (nI n.val) (fD w) pc sr sum went (z.2.1, 0, ad, z.2.2, 0, pl, st', sr, sum, 0, tg) (PF sets sum pc ret size w mv ns yb st went mm mr ms mw mlc mlv) ∧ LinesOk size z.1 co ret := by
  obtain ⟨b1, b2, b3, b4, b5⟩ := o_bits n d hn
  rw [perf_other n e hn]
  rw [← ed] at b4
  have hu : ¬ (w &&& 65535) < 0 := by
    rw [k_lt0, u_and 16 (by decide)]; omega
  have hsp := e_special (sum := sum) (sets := sets) hL h1 h2 hw e0 e1 e2 e3 e4 e5 e6 e7 e9 (w &&& 65535)
  obtain ⟨n, hl⟩ := n
  dsimp only at *
  simp only [Bool.or_eq_true, decide_eq_true_eq] at hn
  have sp : (fX8_read sr epc esr eea held sum count timer mask ret latch sets passed size wo co va (w &&& 65535)).1 = fX11_special sets sum ret size ms mw mlc mlv (w &&& 65535) := by
    rw [hsp.1]
    unfold fX11_specialOf
    have h9 : (0 : Int32) ≤ (w &&& 65535) := by
      rw [ile, i32_0]
      rw [ilt, i32_0] at hu
      omega
    rw [if_pos h9]
  rcases (show n = 55 ∨ n = 30 ∨ n = 31 ∨ n = 32 ∨ n = 33 ∨ n = 56 by omega) with rfl | rfl | rfl | rfl | rfl | rfl
  · rw [if_pos rfl] at hz
    subst hz
    exact ⟨⟨rfl, ⟨0, by omega, rfl⟩, fun q => absurd rfl q, fun _ => ⟨b4.symm, fun q => absurd rfl q, Or.inl ⟨rfl, rfl⟩, rfl, rfl, rfl, rfl, fun q => absurd b1 q, ⟨fun _ => b3, fun _ => neg1⟩⟩, fun _ => rfl⟩, hL⟩
  · rw [if_neg (by decide)] at hz
    have hz' : z = ((fX8_read sr epc esr eea held sum count timer mask ret latch sets passed size wo co va (w &&& 65535)).2, 0, (fX8_read sr epc esr eea held sum count timer mask ret latch sets passed size wo co va (w &&& 65535)).1) := hz
    rw [sp] at hz'
    subst hz'
    exact ⟨⟨rfl, ⟨0, by omega, rfl⟩, fun q => absurd rfl q, fun _ => ⟨b4.symm, fun _ => rfl, Or.inl ⟨rfl, rfl⟩, rfl, rfl, rfl, rfl, fun q => absurd b1 q, ⟨fun _ => b3, fun _ => neg1⟩⟩, fun _ => rfl⟩, hsp.2⟩
  · rw [if_neg (by decide)] at hz
    have hz' : z = (passed, 0, 0) := hz
    subst hz'
    exact ⟨⟨rfl, ⟨0, by omega, rfl⟩, fun q => absurd rfl q, fun _ => ⟨b4.symm, fun q => absurd rfl q, Or.inl ⟨rfl, rfl⟩, rfl, rfl, rfl, rfl, fun q => absurd b1 q, ⟨fun _ => b3, fun _ => neg1⟩⟩, fun _ => rfl⟩, hL⟩
  · rw [if_neg (by decide)] at hz
    have hz' : z = (passed, 12, 0) := hz
    subst hz'
    exact ⟨⟨rfl, ⟨12, by omega, rfl⟩, fun _ => ⟨rfl, Or.inl rfl, fun q => absurd rfl q⟩, fun q => absurd (show (12 : Int32) = 0 from q) (by decide), fun _ => rfl⟩, hL⟩
  · rw [if_neg (by decide)] at hz
    have hz' : z = (passed, 0, 0) := hz
    subst hz'
    exact ⟨⟨rfl, ⟨0, by omega, rfl⟩, fun q => absurd rfl q, fun _ => ⟨b4.symm, fun q => absurd rfl q, Or.inl ⟨rfl, rfl⟩, rfl, rfl, rfl, rfl, fun q => absurd b1 q, ⟨fun _ => b3, fun _ => neg1⟩⟩, fun _ => rfl⟩, hL⟩
  · rw [if_neg (by decide)] at hz
    have hz' : z = (passed, 14, 0) := hz
    subst hz'
    exact ⟨⟨rfl, ⟨14, by omega, rfl⟩, fun _ => ⟨rfl, Or.inl rfl, fun q => absurd rfl q⟩, fun q => absurd (show (14 : Int32) = 0 from q) (by decide), fun _ => rfl⟩, hL⟩
abbrev cWork (mem : Nat → Int32) (pc slot sr epc esr eea held : Int32) (sum : Int64) (count timer mask ret latch sets passed size traits op w ad pl st' tg : Int32) (rg wo co va : Nat → Int32) := fX2_workOut mem pc slot sr epc esr eea held sum count timer mask ret latch sets passed size traits op (fD w) (fA w) (fB w) (w &&& 65535) w.toInt16.toInt32 ((w <<< ((6 : Int32) &&& 31)) >>> ((6 : Int32) &&& 31)) 0 0 ad 0 0 pl st' sr sum 0 tg rg wo co va
theorem none_ill (slot traits op sr : Int32) (h : fX2_isIllegal slot traits op sr = 0) : fX3_is traits 131072 = 0 := by
  unfold fX2_isIllegal at h
  dsimp only at h
  by_cases hz : fX3_is traits 131072 = 0
  · exact hz
  · rw [if_neg hz] at h; exact absurd h (by decide)
theorem e_workOut {mem rg : Nat → Int32} {slot sr epc esr eea held count timer mask ret latch sets passed size : Int32} {pc mv w ad pl st' tg : Int32} {sum ns : Int64} {yb st went : Int32} {wo co va mm mr ms mw mlc mlv : Nat → Int32} (hm : MemOk mem mm) (hs : sets = 16 ∨ sets = 32 ∨ sets = 64 ∨ sets = 128) (hr : ∀ j, j < 32 → rg j = mr j) (hL : LinesOk size passed co ret) (h1 : ∀ j, j < 32 → co j = mlc j) (h2 : ∀ j, j < 32 → va j = mlv j) (hw : ∀ j, j < 512 → wo j = mw j) (e0 : sr = ms 0) (e1 : epc = ms 1) (e2 : esr = ms 2) (e3 : eea = ms 3) (e4 : count = ms 4) (e5 : timer = ms 5) (e6 : mask = ms 6) (e7 : held = ms 7) (e9 : latch = ms 9) (n : Fin 64) (d : Fin 32) (e : fX11_op w = nI n.val) (ed : fD w = nI d.val) (hI : fX2_isIllegal slot (TT n.val d.val) (nI n.val) sr = 0) (K : Int32 × Int32 × Int32 × Int32 × Int32 × Int32 × Int32 × Int32 × Int32 × Int64 × Int32 × Int32) (hK : K = cWork mem pc slot sr epc esr eea held sum count timer mask ret latch sets passed size (TT n.val d.val) (nI n.val) w ad pl st' tg rg wo co va) :
    LVt (TT n.val d.val) (nI n.val) (fD w) pc sr sum went K.2 (PF sets sum pc ret size w mv ns yb st went mm mr ms mw mlc mlv) ∧ LinesOk size K.1 co ret := by
  have hN := none_ill _ _ _ _ hI
  unfold cWork fX2_workOut at hK
  dsimp only at hK
  rw [if_pos hI] at hK
  have hcl : isW n.val = true ∨ (20 ≤ n.val ∧ n.val ≤ 25) ∨ ((n.val = 18 ∨ n.val = 19) ∧ d.val ≤ 9) ∨ isM n.val = true ∨ isO n.val = true := by
    have h : ∀ (n : Fin 64) (d : Fin 32), fX3_is (TT n.val d.val) 131072 = 0 → isW n.val = true ∨ (20 ≤ n.val ∧ n.val ≤ 25) ∨ ((n.val = 18 ∨ n.val = 19) ∧ d.val ≤ 9) ∨ isM n.val = true ∨ isO n.val = true := by decide +kernel
    exact h n d hN
  rcases hcl with hc | hc | ⟨hc, hd⟩ | hc | hc
  · obtain ⟨b1, b2, b3, b4⟩ := w_bits n d hc
    rw [if_pos b1, if_pos b2, if_pos b3, if_pos b4] at hK
    subst hK
    exact ⟨lv_work e0 hr n d e ed hc _ rfl, hL⟩
  · obtain ⟨b1, b2, b3⟩ := br_bits n d hc
    rw [if_neg b1] at hK
    subst hK
    exact ⟨lv_branch (tg := tg) e0 hr n d e ed hc _ rfl, hL⟩
  · obtain ⟨b1, b2, b3, b4, b5, b6⟩ := cmp_bits n d hc hd
    rw [if_pos b1, if_pos b2, if_pos b3, if_neg b4] at hK
    subst hK
    exact ⟨lv_cmp hr n d e ed hc hd _ rfl, hL⟩
  · obtain ⟨b1, b2, b3, b4, b5, b6, b7, b8⟩ := mem_bits n d hc
    rw [if_pos b1, if_neg b2] at hK
    subst hK
    exact ⟨lv_mem hm hs hw e0 hr n d e ed hc _ rfl, hL⟩
  · obtain ⟨b1, b2, b3, b4, b5⟩ := o_bits n d hc
    rw [if_pos b1, if_pos b2] at hK
    have hh := lv_other (pc := pc) (mv := mv) (ad := ad) (pl := pl) (st' := st') (tg := tg) (ns := ns) (yb := yb) (st := st) (went := went) (mm := mm) (mr := mr) (sum := sum) (sum' := 0) (sets := sets) hL h1 h2 hw e0 e1 e2 e3 e4 e5 e6 e7 e9 n d e ed hc _ rfl
    by_cases h55 : n.val = 55
    · rw [if_pos (b5.mpr h55), if_pos b3] at hK
      rw [if_pos h55] at hh
      have hcal : fX2_calculate (nI n.val) (w &&& 65535) w.toInt16.toInt32 0 0 sr sum (rg (fA w).toNatClampNeg) (rg (fB w).toNatClampNeg) = (0, 0, sr, sum) := by rw [h55]; rfl
      rw [hcal] at hK
      subst hK
      exact hh
    · rw [if_neg (fun q => h55 (b5.mp q))] at hK
      rw [if_neg h55] at hh
      subst hK
      exact hh

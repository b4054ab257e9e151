/-! ===== MEMORY: pages that are made when they are first written ===== -/
abbrev kPg (cI : ClassId) (pr : Nat → Nat → Int32) : Nat → va_E := fun a => .inl (cI, 256, .inl (pr a))
/-- the page table g, the pages LP with their rows pr hold the words mem; pg: which pages are made -/
def mrep (g : Nat → Option Nat) (LP : List Nat) (pr : Nat → Nat → Int32) (mem : Nat → Int32) (pg : Nat → Bool) : Prop :=
  (∀ i, i < 64 → (g i = none ∧ pg i = false ∧ ∀ j, j < 256 → mem (256 * i + j) = 0) ∨ ∃ y, g i = some y ∧ y ∈ LP ∧ pg i = true ∧ ∀ j, j < 256 → pr y j = mem (256 * i + j)) ∧ ∀ i k y, i < 64 → k < 64 → g i = some y → g k = some y → i = k
def mpage (p : Int32) : Nat := (fX6_pageOf p).toNatClampNeg
def mword (p : Int32) : Nat := (fX6_wordOf p).toNatClampNeg
def mix (p : Int32) : Nat := 256 * mpage p + mword p
def fX6_get (mem : Nat → Int32) (p0 : Int32) : Int32 := mem (mix p0)
def fX6_put (mem : Nat → Int32) (pg : Nat → Bool) (p0 p1 : Int32) : (Nat → Int32) × (Nat → Bool) :=
  if pg (mpage p0) = false ∧ p1 = 0 then (mem, pg) else (upd mem (mix p0) p1, fun i => if i = mpage p0 then true else pg i)
def sX6_put (pg : Nat → Bool) (mc : Nat) (p0 p1 : Int32) : Prop := pg (mpage p0) = false → ¬ p1 = 0 → 1 ≤ mc
theorem mpage_in (p : Int32) : vp_in (fX6_pageOf p) 64 := vp_mask _ 6 63 (by decide) (by decide) (by decide)
theorem mword_in (p : Int32) : vp_in (fX6_wordOf p) 256 := vp_mask _ 8 255 (by decide) (by decide) (by decide)
theorem mpage_lt (p : Int32) : mpage p < 64 := Nat.not_le.mp fun q => mpage_in p (Or.inr q)
theorem mword_lt (p : Int32) : mword p < 256 := Nat.not_le.mp fun q => mword_in p (Or.inr q)
section KP
variable {G : va_G} {X X' cx wr pl : va_W} {A : Nat → Prop} {H : Heap} {s : State} {locs : List Loc}
theorem k_partP (hP : va_P G vwCl (X ++ pl) H) (is : List Nat) (hs : is.map (fun i => X[i]?) = X'.map some) : va_P G vwCl (X' ++ pl) H :=
  hP.by (fun k => if k < X'.length then (is[k]?).getD 0 else X.length + (k - X'.length)) (va_part is hs)
theorem k_partD (hD : va_D A (X ++ pl)) (is : List Nat) (hn : va_nd is = true) (hs : is.map (fun i => X[i]?) = X'.map some) : va_D A (X' ++ pl) := by
  have hlen : is.length = X'.length := by simpa using congrArg List.length hs
  have hat : ∀ k, k < X'.length → ∃ i, is[k]? = some i ∧ i < X.length := by
    intro k hk
    have h1 : (is.map (fun i => X[i]?))[k]? = (X'.map some)[k]? := by rw [hs]
    rw [List.getElem?_map, List.getElem?_map, List.getElem?_eq_getElem hk] at h1
    cases hi : is[k]? with
    | none => rw [hi] at h1; simp at h1
    | some i =>
      rw [hi] at h1
      simp only [Option.map_some, Option.some.injEq] at h1
      exact ⟨i, rfl, (List.getElem?_eq_some_iff.mp h1).1⟩
  refine hD.by (fun k => if k < X'.length then (is[k]?).getD 0 else X.length + (k - X'.length)) (va_part is hs) ?_
  intro i j hi hj hij
  replace hij : (if i < X'.length then (is[i]?).getD 0 else X.length + (i - X'.length)) = (if j < X'.length then (is[j]?).getD 0 else X.length + (j - X'.length)) := hij
  by_cases h1 : i < X'.length
  · obtain ⟨a, ha, hal⟩ := hat i h1
    rw [if_pos h1, ha] at hij
    by_cases h2 : j < X'.length
    · obtain ⟨b, hb, hbl⟩ := hat j h2
      rw [if_pos h2, hb] at hij
      simp only [Option.getD_some] at hij
      subst hij
      exact va_nd_inj is hn i j a ha hb
    · rw [if_neg h2] at hij
      simp only [Option.getD_some] at hij
      omega
  · rw [if_neg h1] at hij
    by_cases h2 : j < X'.length
    · obtain ⟨b, hb, hbl⟩ := hat j h2
      rw [if_pos h2, hb] at hij
      simp only [Option.getD_some] at hij
      omega
    · rw [if_neg h2] at hij
      omega
theorem k_partF (hD : va_D A (X ++ pl)) (hS : va_S A s.heap H locs) (hA : ∀ q : Nat, s.heap.size ≤ q → A q) (is : List Nat) (hs : is.map (fun i => X[i]?) = cx.map some) : ∀ q, va_A (cx ++ pl) H.size q → A q := fun q h => by
  rcases h with ⟨k, e, h⟩ | h
  · exact hD.2 _ _ (va_part is hs k _ h)
  · exact hA q (Nat.le_trans hS.1 h)
theorem k_headP (hP : va_P G vwCl (X ++ pl) H) : va_P G vwCl X H := fun k q hk => hP k q (by
  rw [List.getElem?_append_left (List.getElem?_eq_some_iff.mp hk).1]; exact hk)
theorem k_headD (hD : va_D A (X ++ pl)) : va_D A X := ⟨fun i j p q hp hq h => hD.1 i j p q (by rw [List.getElem?_append_left (List.getElem?_eq_some_iff.mp hp).1]; exact hp) (by rw [List.getElem?_append_left (List.getElem?_eq_some_iff.mp hq).1]; exact hq) h, fun k q hk => hD.2 k q (by rw [List.getElem?_append_left (List.getElem?_eq_some_iff.mp hk).1]; exact hk)⟩
end KP
section KC
variable {p : Program} {l : Launch} {e : Env} {R : Room} {s : State} {m : MethodId} {args : Array Value} {below : List Frame} {meth : Method} {c : Code} {H : Heap} {locs : List Loc} {cells slots : Nat} {Q : State → Prop} {G : va_G} {TY : List (ClassId × FieldType)} {ws wc wr : va_W} {A : Nat → Prop} {S : Type} {Ts wsy : List Cond} {cc bytes : ByteArray} {nL maxL index n pc : Nat} {own C : String} {y : MethodName} {ret : Option FieldType} {rm : Room} {As rest : List Value} {b : Nat} {ls : Array Slot}
theorem k_iVt {pl : va_W} {F : Int32 × S} {E : Int32 → S → Prop} {W1 : S → va_W} (Sx : CallFix p m c cc nL s args Ts own) (hK : va_K G vwCl TY s) (hP : va_P G vwCl (ws ++ pl) H) (hD : va_D A (ws ++ pl)) (hS : va_S A s.heap H locs) (hA : kA TY A s) (isC isR : List Nat) (hC : isC.map (fun i => ws[i]?) = wc.map some) (hR : isR.map (fun i => ws[i]?) = wr.map some) (hnd : va_nd isC = true) (hn : va_nd isR = true) (hdis : ∀ i ∈ isR, i ∉ isC)
    (hM : kMi l y wsy rm (.ref b :: As) G TY H.size wc F E W1) (cw : CallW R s args own C index y bytes maxL ret wsy rm rm.cells rm.slots n) (q0 ci : Nat) {cq : vw_C} {fs : List Value} (hc : vwCl[ci]? = some cq) (he : ws[q0]? = some (b, .inr (ci, fs))) (hCn : cq.1 = C) (hlen : As.length = n) (hsz : ls.size = nL) {st0 : List Value} (hst : st0 = As.reverse ++ .ref b :: rest) (hroom : (rest.map fun v => v.category).sum ≤ 8) (hdg : decode cc pc = .ok (.invokevirtual index, 3)) (hf : cells + rm.cells ≤ R.cells ∧ slots + rm.slots ≤ R.slots)
    (kk : ∀ (z : Int32 × S) (H1 : Heap) (locs1 : List Loc), z = F → E z.1 z.2 → va_P G vwCl ((wr ++ W1 z.2) ++ pl) H1 → va_D A ((wr ++ W1 z.2) ++ pl) → va_S A s.heap H1 locs1 → W p l e R s m args below meth c H1 locs1 (cells + rm.cells) (slots + rm.slots) Q (F0 m (pc + 3) ls (.int z.1 :: rest))) :
    W p l e R s m args below meth c H locs cells slots Q (F0 m pc ls st0) := by
  have hcut := k_cut (k_headP hP) (k_headD hD) isC hC hnd
  have hFc := va_free (wc := wc) (k_headD hD) hS hA.1 isC hC
  subst hst
  refine va_calli (va_runV (As := As) (rest := rest) Sx hM cw ⟨k_blind, hCn ▸ va_recv hK (k_headP hP) hc he, fun U hU hW => ⟨rfl, by rw [hU], by rw [hU]; exact hcut.1, va_K.moved hW.alike hK, hcut.2, hA.2.moved hW.alike⟩⟩ rfl hlen hsz rfl (lv_room hroom) hdg hf) hS (fun q _ h => hFc q h) hFc (fun r u t H1 locs1 ht hvm hw hB hz1 hk1 hS1 => ?_)
  obtain ⟨hP1, hD1⟩ := hB
  rw [ht] at hP1
  obtain ⟨hP2, hD2⟩ := va_joinQ (wr := wr) (w1 := W1 u) hP hD isC isR hC hR hn hdis hk1 hFc hP1 hD1
  exact kk (r, u) H1 locs1 hw.1 hw.2 hP2 hD2 hS1
theorem k_lVt {pl : va_W} {F : Int64 × S} {E : Int64 → S → Prop} {W1 : S → va_W} (Sx : CallFix p m c cc nL s args Ts own) (hK : va_K G vwCl TY s) (hP : va_P G vwCl (ws ++ pl) H) (hD : va_D A (ws ++ pl)) (hS : va_S A s.heap H locs) (hA : kA TY A s) (isC isR : List Nat) (hC : isC.map (fun i => ws[i]?) = wc.map some) (hR : isR.map (fun i => ws[i]?) = wr.map some) (hnd : va_nd isC = true) (hn : va_nd isR = true) (hdis : ∀ i ∈ isR, i ∉ isC)
    (hM : kMl l y wsy rm (.ref b :: As) G TY H.size wc F E W1) (cw : CallW R s args own C index y bytes maxL ret wsy rm rm.cells rm.slots n) (q0 ci : Nat) {cq : vw_C} {fs : List Value} (hc : vwCl[ci]? = some cq) (he : ws[q0]? = some (b, .inr (ci, fs))) (hCn : cq.1 = C) (hlen : As.length = n) (hsz : ls.size = nL) {st0 : List Value} (hst : st0 = As.reverse ++ .ref b :: rest) (hroom : (rest.map fun v => v.category).sum ≤ 8) (hdg : decode cc pc = .ok (.invokevirtual index, 3)) (hf : cells + rm.cells ≤ R.cells ∧ slots + rm.slots ≤ R.slots)
    (kk : ∀ (z : Int64 × S) (H1 : Heap) (locs1 : List Loc), z = F → E z.1 z.2 → va_P G vwCl ((wr ++ W1 z.2) ++ pl) H1 → va_D A ((wr ++ W1 z.2) ++ pl) → va_S A s.heap H1 locs1 → W p l e R s m args below meth c H1 locs1 (cells + rm.cells) (slots + rm.slots) Q (F0 m (pc + 3) ls (.long z.1 :: rest))) :
    W p l e R s m args below meth c H locs cells slots Q (F0 m pc ls st0) := by
  have hcut := k_cut (k_headP hP) (k_headD hD) isC hC hnd
  have hFc := va_free (wc := wc) (k_headD hD) hS hA.1 isC hC
  subst hst
  refine va_calll (va_runV (As := As) (rest := rest) Sx hM cw ⟨k_blind, hCn ▸ va_recv hK (k_headP hP) hc he, fun U hU hW => ⟨rfl, by rw [hU], by rw [hU]; exact hcut.1, va_K.moved hW.alike hK, hcut.2, hA.2.moved hW.alike⟩⟩ rfl hlen hsz rfl (lv_room hroom) hdg hf) hS (fun q _ h => hFc q h) hFc (fun r u t H1 locs1 ht hvm hw hB hz1 hk1 hS1 => ?_)
  obtain ⟨hP1, hD1⟩ := hB
  rw [ht] at hP1
  obtain ⟨hP2, hD2⟩ := va_joinQ (wr := wr) (w1 := W1 u) hP hD isC isR hC hR hn hdis hk1 hFc hP1 hD1
  exact kk (r, u) H1 locs1 hw.1 hw.2 hP2 hD2 hS1
theorem k_vVt {pl : va_W} {F : S} {E : S → Prop} {W1 : S → va_W} (Sx : CallFix p m c cc nL s args Ts own) (hK : va_K G vwCl TY s) (hP : va_P G vwCl (ws ++ pl) H) (hD : va_D A (ws ++ pl)) (hS : va_S A s.heap H locs) (hA : kA TY A s) (isC isR : List Nat) (hC : isC.map (fun i => ws[i]?) = wc.map some) (hR : isR.map (fun i => ws[i]?) = wr.map some) (hnd : va_nd isC = true) (hn : va_nd isR = true) (hdis : ∀ i ∈ isR, i ∉ isC)
    (hM : kMv l y wsy rm (.ref b :: As) G TY H.size wc F E W1) (cw : CallW R s args own C index y bytes maxL ret wsy rm rm.cells rm.slots n) (q0 ci : Nat) {cq : vw_C} {fs : List Value} (hc : vwCl[ci]? = some cq) (he : ws[q0]? = some (b, .inr (ci, fs))) (hCn : cq.1 = C) (hlen : As.length = n) (hsz : ls.size = nL) {st0 : List Value} (hst : st0 = As.reverse ++ .ref b :: rest) (hroom : (rest.map fun v => v.category).sum ≤ 8) (hdg : decode cc pc = .ok (.invokevirtual index, 3)) (hf : cells + rm.cells ≤ R.cells ∧ slots + rm.slots ≤ R.slots)
    (kk : ∀ (z : S) (H1 : Heap) (locs1 : List Loc), z = F → E z → va_P G vwCl ((wr ++ W1 z) ++ pl) H1 → va_D A ((wr ++ W1 z) ++ pl) → va_S A s.heap H1 locs1 → W p l e R s m args below meth c H1 locs1 (cells + rm.cells) (slots + rm.slots) Q (F0 m (pc + 3) ls rest)) :
    W p l e R s m args below meth c H locs cells slots Q (F0 m pc ls st0) := by
  have hcut := k_cut (k_headP hP) (k_headD hD) isC hC hnd
  have hFc := va_free (wc := wc) (k_headD hD) hS hA.1 isC hC
  subst hst
  refine va_callv (va_runV (As := As) (rest := rest) Sx hM cw ⟨k_blind, hCn ▸ va_recv hK (k_headP hP) hc he, fun U hU hW => ⟨rfl, by rw [hU], by rw [hU]; exact hcut.1, va_K.moved hW.alike hK, hcut.2, hA.2.moved hW.alike⟩⟩ rfl hlen hsz rfl (lv_room hroom) hdg hf) hS (fun q _ h => hFc q h) hFc (fun u t H1 locs1 ht hvm hw hB hz1 hk1 hS1 => ?_)
  obtain ⟨hP1, hD1⟩ := hB
  rw [ht] at hP1
  obtain ⟨hP2, hD2⟩ := va_joinQ (wr := wr) (w1 := W1 u) hP hD isC isR hC hR hn hdis hk1 hFc hP1 hD1
  exact kk u H1 locs1 hw.1 hw.2 hP2 hD2 hS1
theorem k_iVr {pl : va_W} {F : Int32 × S} {E : Int32 → S → Prop} {W1 : S → va_W} (Sx : CallFix p m c cc nL s args Ts own) (hK : va_K G vwCl TY s) (hP : va_P G vwCl (ws ++ pl) H) (hD : va_D A (ws ++ pl)) (hS : va_S A s.heap H locs) (hA : kA TY A s) (isC isR : List Nat) (hC : isC.map (fun i => ws[i]?) = wc.map some) (hR : isR.map (fun i => ws[i]?) = wr.map some) (hnd : va_nd isC = true) (hn : va_nd isR = true) (hdis : ∀ i ∈ isR, i ∉ isC)
    (hM : kMi l y wsy rm (.ref b :: As) G TY H.size (wc ++ pl) F E (fun u => W1 u ++ pl)) (cw : CallW R s args own C index y bytes maxL ret wsy rm rm.cells rm.slots n) (q0 ci : Nat) {cq : vw_C} {fs : List Value} (hc : vwCl[ci]? = some cq) (he : ws[q0]? = some (b, .inr (ci, fs))) (hCn : cq.1 = C) (hlen : As.length = n) (hsz : ls.size = nL) {st0 : List Value} (hst : st0 = As.reverse ++ .ref b :: rest) (hroom : (rest.map fun v => v.category).sum ≤ 8) (hdg : decode cc pc = .ok (.invokevirtual index, 3)) (hf : cells + rm.cells ≤ R.cells ∧ slots + rm.slots ≤ R.slots)
    (kk : ∀ (z : Int32 × S) (H1 : Heap) (locs1 : List Loc), z = F → E z.1 z.2 → va_P G vwCl ((wr ++ W1 z.2) ++ pl) H1 → va_D A ((wr ++ W1 z.2) ++ pl) → va_S A s.heap H1 locs1 → W p l e R s m args below meth c H1 locs1 (cells + rm.cells) (slots + rm.slots) Q (F0 m (pc + 3) ls (.int z.1 :: rest))) :
    W p l e R s m args below meth c H locs cells slots Q (F0 m pc ls st0) := by
  have hcut : va_P G vwCl (wc ++ pl) H ∧ va_D (fun _ => True) (wc ++ pl) := ⟨k_partP hP isC hC, (k_partD hD isC hnd hC).weaken (fun _ _ _ _ => trivial)⟩
  have hFc := k_partF hD hS hA.1 isC hC
  subst hst
  refine va_calli (va_runV (As := As) (rest := rest) Sx hM cw ⟨k_blind, hCn ▸ va_recv hK (k_headP hP) hc he, fun U hU hW => ⟨rfl, by rw [hU], by rw [hU]; exact hcut.1, va_K.moved hW.alike hK, hcut.2, hA.2.moved hW.alike⟩⟩ rfl hlen hsz rfl (lv_room hroom) hdg hf) hS (fun q _ h => hFc q h) hFc (fun r u t H1 locs1 ht hvm hw hB hz1 hk1 hS1 => ?_)
  obtain ⟨hP1, hD1⟩ := hB
  rw [ht] at hP1
  obtain ⟨hP2, hD2⟩ := va_joinP (wr := wr) (rx := W1 u) (pl1 := pl) hP hD isC isR hC hR hn hdis hk1 hFc hP1 hD1
  exact kk (r, u) H1 locs1 hw.1 hw.2 hP2 hD2 hS1
theorem k_vVr {pl : va_W} {F : S} {E : S → Prop} {W1 : S → va_W} (Sx : CallFix p m c cc nL s args Ts own) (hK : va_K G vwCl TY s) (hP : va_P G vwCl (ws ++ pl) H) (hD : va_D A (ws ++ pl)) (hS : va_S A s.heap H locs) (hA : kA TY A s) (isC isR : List Nat) (hC : isC.map (fun i => ws[i]?) = wc.map some) (hR : isR.map (fun i => ws[i]?) = wr.map some) (hnd : va_nd isC = true) (hn : va_nd isR = true) (hdis : ∀ i ∈ isR, i ∉ isC)
    (hM : kMv l y wsy rm (.ref b :: As) G TY H.size (wc ++ pl) F E (fun u => W1 u ++ pl)) (cw : CallW R s args own C index y bytes maxL ret wsy rm rm.cells rm.slots n) (q0 ci : Nat) {cq : vw_C} {fs : List Value} (hc : vwCl[ci]? = some cq) (he : ws[q0]? = some (b, .inr (ci, fs))) (hCn : cq.1 = C) (hlen : As.length = n) (hsz : ls.size = nL) {st0 : List Value} (hst : st0 = As.reverse ++ .ref b :: rest) (hroom : (rest.map fun v => v.category).sum ≤ 8) (hdg : decode cc pc = .ok (.invokevirtual index, 3)) (hf : cells + rm.cells ≤ R.cells ∧ slots + rm.slots ≤ R.slots)
    (kk : ∀ (z : S) (H1 : Heap) (locs1 : List Loc), z = F → E z → va_P G vwCl ((wr ++ W1 z) ++ pl) H1 → va_D A ((wr ++ W1 z) ++ pl) → va_S A s.heap H1 locs1 → W p l e R s m args below meth c H1 locs1 (cells + rm.cells) (slots + rm.slots) Q (F0 m (pc + 3) ls rest)) :
    W p l e R s m args below meth c H locs cells slots Q (F0 m pc ls st0) := by
  have hcut : va_P G vwCl (wc ++ pl) H ∧ va_D (fun _ => True) (wc ++ pl) := ⟨k_partP hP isC hC, (k_partD hD isC hnd hC).weaken (fun _ _ _ _ => trivial)⟩
  have hFc := k_partF hD hS hA.1 isC hC
  subst hst
  refine va_callv (va_runV (As := As) (rest := rest) Sx hM cw ⟨k_blind, hCn ▸ va_recv hK (k_headP hP) hc he, fun U hU hW => ⟨rfl, by rw [hU], by rw [hU]; exact hcut.1, va_K.moved hW.alike hK, hcut.2, hA.2.moved hW.alike⟩⟩ rfl hlen hsz rfl (lv_room hroom) hdg hf) hS (fun q _ h => hFc q h) hFc (fun u t H1 locs1 ht hvm hw hB hz1 hk1 hS1 => ?_)
  obtain ⟨hP1, hD1⟩ := hB
  rw [ht] at hP1
  obtain ⟨hP2, hD2⟩ := va_joinP (wr := wr) (rx := W1 u) (pl1 := pl) hP hD isC isR hC hR hn hdis hk1 hFc hP1 hD1
  exact kk u H1 locs1 hw.1 hw.2 hP2 hD2 hS1
end KC
/-! contracts that change MEMORY: the pages behind them are there, which ones is not said -/
abbrev kQiM {S : Type} (G : va_G) (cI : ClassId) (A : Nat → Prop) (F : Int32 × S) (E : Int32 → S → Prop) (W1 : S → (Nat → Option Nat) → va_W) (mm : S → Nat → Int32) (pp : S → Nat → Bool) : Array Value → State → Outcome → State → Prop := va_Qi (fun r u => (r, u) = F ∧ E r u) (fun u t => ∃ (g : Nat → Option Nat) (LP : List Nat) (pr : Nat → Nat → Int32), mrep g LP pr (mm u) (pp u) ∧ kPost G A (W1 u g ++ va_pl LP (kPg cI pr)) t) A
abbrev kQvM {S : Type} (G : va_G) (cI : ClassId) (A : Nat → Prop) (F : S) (E : S → Prop) (W1 : S → (Nat → Option Nat) → va_W) (mm : S → Nat → Int32) (pp : S → Nat → Bool) : Array Value → State → Outcome → State → Prop := va_Qv (fun u => u = F ∧ E u) (fun u t => ∃ (g : Nat → Option Nat) (LP : List Nat) (pr : Nat → Nat → Int32), mrep g LP pr (mm u) (pp u) ∧ kPost G A (W1 u g ++ va_pl LP (kPg cI pr)) t) A
abbrev kMiM {S : Type} (l : Launch) (y : MethodName) (ws : List Cond) (rm : Room) (av : List Value) (G : va_G) (cI : ClassId) (TY : List (ClassId × FieldType)) (sz : Nat) (WS : va_W) (F : Int32 × S) (E : Int32 → S → Prop) (W1 : S → (Nat → Option Nat) → va_W) (mm : S → Nat → Int32) (pp : S → Nat → Bool) : Prop :=
  Met l y ws rm (va_Pc av (kPre G TY sz WS)) (kQiM G cI (va_A WS sz) F E W1 mm pp) rm.cells rm.slots (va_A WS sz)
abbrev kMvM {S : Type} (l : Launch) (y : MethodName) (ws : List Cond) (rm : Room) (av : List Value) (G : va_G) (cI : ClassId) (TY : List (ClassId × FieldType)) (sz : Nat) (WS : va_W) (F : S) (E : S → Prop) (W1 : S → (Nat → Option Nat) → va_W) (mm : S → Nat → Int32) (pp : S → Nat → Bool) : Prop :=
  Met l y ws rm (va_Pc av (kPre G TY sz WS)) (kQvM G cI (va_A WS sz) F E W1 mm pp) rm.cells rm.slots (va_A WS sz)
theorem k_ofiM {l : Launch} {y : MethodName} {ws ws' : List Cond} {rm : Room} {av : List Value} {G : va_G} {cI : ClassId} {TY : List (ClassId × FieldType)} {sz : Nat} {WS : va_W} {S : Type} {F : Int32 × S} {E : Int32 → S → Prop} {W1 : S → (Nat → Option Nat) → va_W} {mm : S → Nat → Int32} {pp : S → Nat → Bool} {cc : ByteArray} {maxL : Nat} {ty : FieldType}
    (hy : plainName y.cls = true) (hw : ws = Cond.code y cc maxL (some ty) :: ws') (hav : (lg_sl av).length ≤ maxL)
    (walk : ∀ (p : Program) (e : Env) (s : State) (m : MethodId) (args : Array Value) (below : List Frame) (meth : Method) (c : Code) (A : Nat → Prop) (ls : Array Slot) (Q : State → Prop) (H : Heap) (locs : List Loc), p.tables.exec = Jvm.exec → c.code = cc → c.maxLocals = maxL → s.vm.findClass y.cls = some m.cls → (∀ w ∈ ws, w.before args s = true) → meth.name = y.name → va_K G vwCl TY s → va_P G vwCl WS H → va_D A WS → kA TY A s → va_S A s.heap H locs → lv_has ls maxL (lv_args 0 av) →
      (∀ (H : Heap) (locs : List Loc) (pc : Nat) (ls : Array Slot) (r : Int32) (u : S) (g : Nat → Option Nat) (LP : List Nat) (pr : Nat → Nat → Int32), decode cc pc = .ok (.ireturn, 1) → (r, u) = F → narrow ty (.int r) = .int r → E r u → mrep g LP pr (mm u) (pp u) → va_P G vwCl (W1 u g ++ va_pl LP (kPg cI pr)) H → va_D A (W1 u g ++ va_pl LP (kPg cI pr)) → va_S A s.heap H locs → W p l e rm s m args below meth c H locs rm.cells rm.slots Q (F0 m pc ls [.int r])) → W p l e rm s m args below meth c H locs 0 0 Q (F0 m 0 ls [])) : kMiM l y ws rm av G cI TY sz WS F E W1 mm pp := by
  refine k_of (Qc := fun A => kQiM G cI A F E W1 mm pp) hy hw hav ?_
  intro p e s m below meth c A ls hx hb hr hml hown hts hlocks hin hK hP hD hA hS hl hAe hsz
  refine walk p e s m _ below meth c A ls _ s.heap [] hx hb hml hown hts hin hK hP hD hA hS hl (fun H locs pc ls r u g LP pr hdg hw hty hE hm hP hD hS => ?_)
  exact W.zret (v := r) hx hb hr hty (fun t ht hW => ⟨⟨r, u, rfl, ⟨hw, hE⟩, g, LP, pr, hm, by rw [ht]; exact hP, hD⟩, hS.F ht⟩) hS.2.2 hdg
theorem k_ofvM {l : Launch} {y : MethodName} {ws ws' : List Cond} {rm : Room} {av : List Value} {G : va_G} {cI : ClassId} {TY : List (ClassId × FieldType)} {sz : Nat} {WS : va_W} {S : Type} {F : S} {E : S → Prop} {W1 : S → (Nat → Option Nat) → va_W} {mm : S → Nat → Int32} {pp : S → Nat → Bool} {cc : ByteArray} {maxL : Nat}
    (hy : plainName y.cls = true) (hw : ws = Cond.code y cc maxL none :: ws') (hav : (lg_sl av).length ≤ maxL)
    (walk : ∀ (p : Program) (e : Env) (s : State) (m : MethodId) (args : Array Value) (below : List Frame) (meth : Method) (c : Code) (A : Nat → Prop) (ls : Array Slot) (Q : State → Prop) (H : Heap) (locs : List Loc), p.tables.exec = Jvm.exec → c.code = cc → c.maxLocals = maxL → s.vm.findClass y.cls = some m.cls → (∀ w ∈ ws, w.before args s = true) → meth.name = y.name → va_K G vwCl TY s → va_P G vwCl WS H → va_D A WS → kA TY A s → va_S A s.heap H locs → lv_has ls maxL (lv_args 0 av) →
      (∀ (H : Heap) (locs : List Loc) (pc : Nat) (ls : Array Slot) (u : S) (g : Nat → Option Nat) (LP : List Nat) (pr : Nat → Nat → Int32), decode cc pc = .ok (.return_, 1) → u = F → E u → mrep g LP pr (mm u) (pp u) → va_P G vwCl (W1 u g ++ va_pl LP (kPg cI pr)) H → va_D A (W1 u g ++ va_pl LP (kPg cI pr)) → va_S A s.heap H locs → W p l e rm s m args below meth c H locs rm.cells rm.slots Q (F0 m pc ls [])) → W p l e rm s m args below meth c H locs 0 0 Q (F0 m 0 ls [])) : kMvM l y ws rm av G cI TY sz WS F E W1 mm pp := by
  refine k_of (Qc := fun A => kQvM G cI A F E W1 mm pp) hy hw hav ?_
  intro p e s m below meth c A ls hx hb hr hml hown hts hlocks hin hK hP hD hA hS hl hAe hsz
  refine walk p e s m _ below meth c A ls _ s.heap [] hx hb hml hown hts hin hK hP hD hA hS hl (fun H locs pc ls u g LP pr hdg hw hE hm hP hD hS => ?_)
  exact W.vret hx hb hr (fun t ht hW => ⟨⟨u, rfl, ⟨hw, hE⟩, g, LP, pr, hm, by rw [ht]; exact hP, hD⟩, hS.F ht⟩) hS.2.2 hdg
theorem mrep_old {g : Nat → Option Nat} {LP : List Nat} {pr : Nat → Nat → Int32} {mem : Nat → Int32} {pg : Nat → Bool} (hm : mrep g LP pr mem pg) {i y j : Nat} (hi : i < 64) (hj : j < 256) (hy : g i = some y) (v : Int32) :
    mrep g LP (va_up pr y (upd (pr y) j v)) (upd mem (256 * i + j) v) (fun k => if k = i then true else pg k) := by
  refine ⟨fun k hk => ?_, hm.2⟩
  rcases hm.1 k hk with ⟨h1, h2, h3⟩ | ⟨y', h1, h2, h3, h4⟩
  · have hne : k ≠ i := fun e => by rw [e, hy] at h1; cases h1
    refine Or.inl ⟨h1, by simp only [if_neg hne]; exact h2, fun j' hj' => ?_⟩
    rw [pk_un (by omega)]
    exact h3 j' hj'
  · refine Or.inr ⟨y', h1, h2, by show (if k = i then true else pg k) = true; split <;> first | rfl | exact h3, fun j' hj' => ?_⟩
    by_cases hk' : k = i
    · subst hk'
      have hyy : y' = y := Option.some.inj (h1.symm.trans hy)
      subst hyy
      simp only [va_up, if_pos]
      by_cases hjj : j' = j
      · subst hjj
        rw [pk_us, pk_us]
      · rw [pk_un hjj, pk_un (by omega)]
        exact h4 j' hj'
    · have hyy : y' ≠ y := fun e => hk' (hm.2 k i y hk hi (e ▸ h1) hy)
      simp only [va_up, if_neg hyy]
      rw [pk_un (by omega)]
      exact h4 j' hj'
theorem mrep_new {g : Nat → Option Nat} {LP : List Nat} {pr : Nat → Nat → Int32} {mem : Nat → Int32} {pg : Nat → Bool} (hm : mrep g LP pr mem pg) {i q : Nat} (hi : i < 64) (hy : g i = none) (hq : q ∉ LP) :
    mrep (va_up g i (some q)) (LP ++ [q]) (va_up pr q (fun _ => 0)) mem (fun k => if k = i then true else pg k) := by
  have hin : ∀ k y, k < 64 → g k = some y → y ∈ LP := fun k y hk h => by
    rcases hm.1 k hk with ⟨h1, -, -⟩ | ⟨y', h1, h2, -, -⟩
    · rw [h] at h1; cases h1
    · rw [h] at h1; cases h1; exact h2
  refine ⟨fun k hk => ?_, fun a b y ha hb h1 h2 => ?_⟩
  · by_cases hk' : k = i
    · subst hk'
      rcases hm.1 k hk with ⟨h1, h2, h3⟩ | ⟨y', h1, -, -, -⟩
      · refine Or.inr ⟨q, by simp only [va_up, if_pos], List.mem_append_right _ (List.mem_singleton.mpr rfl), by simp, fun j hj => ?_⟩
        simp only [va_up, if_pos]
        exact (h3 j hj).symm
      · rw [hy] at h1; cases h1
    · rcases hm.1 k hk with ⟨h1, h2, h3⟩ | ⟨y', h1, h2, h3, h4⟩
      · exact Or.inl ⟨by simp only [va_up, if_neg hk']; exact h1, by simp only [if_neg hk']; exact h2, h3⟩
      · refine Or.inr ⟨y', by simp only [va_up, if_neg hk']; exact h1, List.mem_append_left _ h2, by simp only [if_neg hk']; exact h3, fun j hj => ?_⟩
        have hne : y' ≠ q := fun e => hq (e ▸ h2)
        simp only [va_up, if_neg hne]
        exact h4 j hj
  · by_cases hai : a = i
    · subst hai
      by_cases hbi : b = a
      · exact hbi.symm
      · simp only [va_up, if_pos, if_neg hbi] at h1 h2
        exact absurd (hin b y hb h2) (Option.some.inj h1 ▸ hq)
    · by_cases hbi : b = i
      · subst hbi
        simp only [va_up, if_pos, if_neg hai] at h1 h2
        exact absurd (hin a y ha h1) (Option.some.inj h2 ▸ hq)
      · simp only [va_up, if_neg hai, if_neg hbi] at h1 h2
        exact hm.2 a b y ha hb h1 h2
theorem kPg_up (cI : ClassId) (pr : Nat → Nat → Int32) (q : Nat) (f : Nat → Int32) (a : Nat) : va_up (kPg cI pr) q (.inl (cI, 256, .inl f)) a = kPg cI (va_up pr q f) a := by
  unfold va_up
  simp only [kPg]
  split <;> rfl
section KR
variable {p : Program} {l : Launch} {e : Env} {R : Room} {s : State} {m : MethodId} {args : Array Value} {below : List Frame} {meth : Method} {c : Code} {H : Heap} {locs : List Loc} {cells slots : Nat} {Q : State → Prop} {cc : ByteArray} {pc : Nat} {ls : Array Slot} {rest : List Value} {D : va_G} {cl : List vw_C} {A : Nat → Prop} {a : Nat} {tys : List (ClassId × FieldType)} {ws : va_W} {H0 : Heap}
theorem va_aldA (hexec : p.tables.exec = Jvm.exec) (hb : c.code = cc) (hK : va_K D cl tys s) (hP : va_P D cl ws H) (q0 t0 : Nat) {cA : ClassId} {T : FieldType} {n : Nat} {f : Nat → Option Nat} (ha : ws[q0]? = some (a, .inl (cA, n, .inr (.inr (.inr (.inr f)))))) (ht : tys[t0]? = some (cA, .array T)) {i : Int32} (hin : vp_in i n) (hdg : decode cc pc = .ok (.aaload, 1))
    (kk : W p l e R s m args below meth c H locs cells slots Q (F0 m (pc + 1) ls (va_rf (f i.toNatClampNeg) :: rest))) : W p l e R s m args below meth c H locs cells slots Q (F0 m pc ls (.int i :: .ref a :: rest)) := by
  have hlt : i.toNatClampNeg < n := Nat.not_le.mp fun q => hin (Or.inr q)
  exact W.aald (v := va_rf (f i.toNatClampNeg)) (ty := .array T) hexec hb (hP q0 _ ha) ((hK.2 t0 _ ht).1 n (fun j => va_rf (f j))) rfl (fun q => by cases q) (by show ¬ (i < 0 ∨ (arrV _ _ _).slots.size ≤ _); rw [arrV_size]; exact hin) (by show (arrV _ _ _).slots[_]? = _; rw [arrV_read _ _ hlt]) rfl rfl hdg kk
theorem va_astA (hexec : p.tables.exec = Jvm.exec) (hb : c.code = cc) (hP : va_P D cl ws H) (hD : va_D A ws) (hS : va_S A H0 H locs) (q0 : Nat) {cA cI : ClassId} {n v nv : Nat} {f : Nat → Option Nat} {fv : Nat → Int32} (ha : ws[q0]? = some (a, .inl (cA, n, .inr (.inr (.inr (.inr f)))))) (hAA : ∃ kA : Class, s.vm.classes[cA]? = some kA ∧ kA.kind = .array cI (.array .int)) (hI : s.vm.findClass "[I" = some cI) (hv : H[v]? = some (vp_cell cI (nv, .inl fv))) {i : Int32} (hin : vp_in i n) (hdg : decode cc pc = .ok (.aastore, 1))
    (kk : ∀ (H1 : Heap) (locs1 : List Loc), va_P D cl (ws.set q0 (a, .inl (cA, n, .inr (.inr (.inr (.inr (va_up f i.toNatClampNeg (some v)))))))) H1 → va_D A (ws.set q0 (a, .inl (cA, n, .inr (.inr (.inr (.inr (va_up f i.toNatClampNeg (some v)))))))) → va_S A H0 H1 locs1 → W p l e R s m args below meth c H1 locs1 cells slots Q (F0 m (pc + 1) ls rest)) : W p l e R s m args below meth c H locs cells slots Q (F0 m pc ls (.ref v :: .int i :: .ref a :: rest)) := by
  have hlt : i.toNatClampNeg < n := Nat.not_le.mp fun q => hin (Or.inr q)
  have h0 : ¬ i < 0 := fun q => hin (Or.inl q)
  obtain ⟨kC, k1, k2⟩ := hAA
  obtain ⟨kE, hkE, -⟩ := Vm.findClass_spec hI
  refine W.aast hexec hb (hP q0 _ ha) (fun q h => by cases h) (fun h => by cases h) k1 k2 rfl hkE ⟨h0, by show _ < (arrV _ _ _).slots.size; rw [arrV_size]; exact hlt⟩ hv (fun q h => by cases h) hkE (va_asg _ _) rfl rfl hdg fun H1 e z oq => ?_
  refine kk H1 _ (hP.set hD ha ?_ oq) (hD.set ha) (hS.put z oq (hD.2 q0 _ ha))
  show H1[a]? = some (vp_cell _ _)
  rw [e]
  rw [vp_cell_q, vp_cell_q, arrV_store]
  congr 2
  funext q
  by_cases hq : q = i.toNatClampNeg
  · subst hq
    simp [updV, va_up, va_rf]
  · simp [updV, va_up, hq]
end KR
theorem lkX6_get_11 : Cond.fieldLink RX6 11 "TwinIssue$Memory" "pages" "[[I" ∈ wsX6_get := by decide +kernel
theorem iwX6_get_X6 : ∀ w ∈ wsX60, w ∈ wsX6_get := fun _ h => List.mem_cons_of_mem _ (List.mem_append_right _ h)
set_option maxHeartbeats 4000000 in
set_option maxRecDepth 100000 in
theorem mX6_get (l : Launch) (G : va_G) (cI cB cP : ClassId) (aMe aPg : Nat) (g : Nat → Option Nat) (LP : List Nat) (pr : Nat → Nat → Int32) (mem : Nat → Int32) (pg : Nat → Bool) (sz : Nat) (p0 : Int32) (hm : mrep g LP pr mem pg) : kMi (S := Unit) l yX6_get wsX6_get ({ frames := 1, cells := 0, slots := 0, locals := 20 }) [.ref aMe, .int p0] G (kTY cI cB cP) sz ([(aMe, .inr (6, [.ref aPg])), (aPg, .inl (cP, 64, .inr (.inr (.inr (.inr g)))))] ++ va_pl LP (kPg cI pr)) (fX6_get mem p0, ()) (fun _ _ => True) (fun _ => [(aMe, .inr (6, [.ref aPg])), (aPg, .inl (cP, 64, .inr (.inr (.inr (.inr g)))))] ++ va_pl LP (kPg cI pr)) := by
  refine k_ofi (cc := cX6_get) (maxL := 3) (by decide) rfl (Nat.le_of_ble_eq_true rfl) ?_
  intro p e s m args below meth c A ls Q H locs hx hb hml hown hts hin hK hP hD hA hS hl hret
  have hown : s.vm.findClass RX6 = some m.cls := hown
  have hl : lv_has ls 3 [(0, .ref aMe), (1, .int p0)] := hl
  refine lv_aload_n hx hb dX6_get_0 rfl (lv_at hl 0 rfl) ?_
  refine va_get (D := G) (ci := 6) (v := .ref aPg) (C := RX6) (T := TX6) (N := 1) hx hb hts iwX6_get_X6 hown hK hP 0 rfl rfl 0 (by decide) (hts _ lkX6_get_11) (fun _ h9 => h9) rfl dX6_get_1 ?_
  refine lv_iload_n hx hb dX6_get_4 rfl (lv_at hl 1 rfl) ?_
  refine k_iS (As := [.int p0]) (rest := [.ref aPg]) ⟨hx, hb, hml, hown, hts⟩ hK hP hD hS hA (mX6_pageOf l G cI cB cP H.size p0) (va_cwS 1 hts gX6_get_X6_pageOf rfl rfl rfl (by decide +kernel) ⟨Nat.le_of_ble_eq_true rfl, Nat.le_of_ble_eq_true rfl⟩) rfl hl.1 rfl (Nat.le_of_ble_eq_true rfl) dX6_get_5 ⟨Nat.le_of_ble_eq_true rfl, Nat.le_of_ble_eq_true rfl⟩ (fun z1 H locs hz1 hEz1 hP hS => ?_)
  refine va_aldA hx hb hK hP 1 2 rfl rfl (by rw [hz1]; exact mpage_in p0) dX6_get_8 ?_
  have hpg : z1.toNatClampNeg = mpage p0 := by rw [hz1]; rfl
  rw [hpg]
  rcases hm.1 (mpage p0) (mpage_lt p0) with ⟨h1, -, h3⟩ | ⟨y, h1, h2, -, h4⟩
  · rw [h1]
    refine lv_astore_nN (lv' := [(2, .null), (0, .ref aMe), (1, .int p0)]) hx hb dX6_get_9 rfl hl (by decide) rfl (fun ls hl => ?_)
    refine lv_aload_nN hx hb dX6_get_10 rfl (lv_at hl 0 rfl) ?_
    refine lv_ifnonnullN hx hb dX6_get_11 ?_
    refine lv_iconst (v := 0) hx hb dX6_get_14 (by decide) ?_
    refine lv_goto (tgt := 24) hx hb dX6_get_15 (by decide) ?_
    exact hret H locs _ ls 0 () dX6_get_24 (congrArg (fun x => (x, ())) (h3 (mword p0) (mword_lt p0)).symm) trivial hP hD hS
  · rw [h1]
    refine lv_astore_n (x := y) (lv' := [(2, .ref y), (0, .ref aMe), (1, .int p0)]) hx hb dX6_get_9 rfl hl (by decide) rfl (fun ls hl => ?_)
    refine lv_aload_n hx hb dX6_get_10 rfl (lv_at hl 0 rfl) ?_
    refine lv_ifnonnull (tgt := 18) hx hb dX6_get_11 (by decide) ?_
    refine lv_aload_n hx hb dX6_get_18 rfl (lv_at hl 0 rfl) ?_
    refine lv_iload_n hx hb dX6_get_19 rfl (lv_at hl 2 rfl) ?_
    refine k_iS (As := [.int p0]) (rest := [.ref y]) ⟨hx, hb, hml, hown, hts⟩ hK hP hD hS hA (mX6_wordOf l G cI cB cP H.size p0) (va_cwS 1 hts gX6_get_X6_wordOf rfl rfl rfl (by decide +kernel) ⟨Nat.le_of_ble_eq_true rfl, Nat.le_of_ble_eq_true rfl⟩) rfl hl.1 rfl (Nat.le_of_ble_eq_true rfl) dX6_get_20 ⟨Nat.le_of_ble_eq_true rfl, Nat.le_of_ble_eq_true rfl⟩ (fun z2 H locs hz2 hEz2 hP hS => ?_)
    obtain ⟨k, hk⟩ := va_pl_get (X := [(aMe, .inr (6, [.ref aPg])), (aPg, .inl (cP, 64, .inr (.inr (.inr (.inr g)))))]) (f := kPg cI pr) h2
    refine va_iald hx hb hK hP k 0 hk rfl (by rw [hz2]; exact mword_in p0) dX6_get_23 ?_
    refine k_top (y := mem (mix p0)) (by rw [hz2]; exact h4 (mword p0) (mword_lt p0)) ?_
    exact hret H locs _ ls (mem (mix p0)) () dX6_get_24 rfl trivial hP hD hS
theorem lkX6_put_11 : Cond.fieldLink RX6 11 "TwinIssue$Memory" "pages" "[[I" ∈ wsX6_put := by decide +kernel
theorem lkX6_put_arr : Cond.arrayClass .int ∈ wsX6_put := by decide +kernel
theorem iwX6_put_X6 : ∀ w ∈ wsX60, w ∈ wsX6_put := fun _ h => List.mem_cons_of_mem _ (List.mem_append_right _ h)
set_option maxHeartbeats 4000000 in
set_option maxRecDepth 100000 in
theorem mX6_put (l : Launch) (G : va_G) (cI cB cP : ClassId) (aMe aPg : Nat) (g : Nat → Option Nat) (LP : List Nat) (pr : Nat → Nat → Int32) (mem : Nat → Int32) (pg : Nat → Bool) (mc : Nat) (sz : Nat) (p0 p1 : Int32) (hs : sX6_put pg mc p0 p1) (hm : mrep g LP pr mem pg) : kMvM (S := (Nat → Int32) × (Nat → Bool)) l yX6_put wsX6_put ({ frames := 1, cells := mc, slots := 256 * mc, locals := 20 }) [.ref aMe, .int p0, .int p1] G cI (kTY cI cB cP) sz ([(aMe, .inr (6, [.ref aPg])), (aPg, .inl (cP, 64, .inr (.inr (.inr (.inr g)))))] ++ va_pl LP (kPg cI pr)) (fX6_put mem pg p0 p1) (fun _ => True) (fun _ g => [(aMe, .inr (6, [.ref aPg])), (aPg, .inl (cP, 64, .inr (.inr (.inr (.inr g)))))]) (fun u => u.1) (fun u => u.2) := by
  refine k_ofvM (cc := cX6_put) (maxL := 4) (by decide) rfl (Nat.le_of_ble_eq_true rfl) ?_
  intro p e s m args below meth c A ls Q H locs hx hb hml hown hts hin hK hP hD hA hS hl hret
  have hown : s.vm.findClass RX6 = some m.cls := hown
  have hl : lv_has ls 4 [(0, .ref aMe), (1, .int p0), (2, .int p1)] := hl
  refine lv_iload_n hx hb dX6_put_0 rfl (lv_at hl 1 rfl) ?_
  refine k_iS (As := [.int p0]) (rest := []) ⟨hx, hb, hml, hown, hts⟩ hK hP hD hS hA (mX6_pageOf l G cI cB cP H.size p0) (va_cwS 1 hts gX6_put_X6_pageOf rfl rfl rfl (by decide +kernel) ⟨Nat.le_of_ble_eq_true rfl, Nat.le_of_ble_eq_true rfl⟩) rfl hl.1 rfl (Nat.le_of_ble_eq_true rfl) dX6_put_1 ⟨Nat.zero_le _, Nat.zero_le _⟩ (fun z1 H locs hz1 hEz1 hP hS => ?_)
  refine lv_istore_n (lv' := [(3, .int z1), (0, .ref aMe), (1, .int p0), (2, .int p1)]) hx hb dX6_put_4 rfl hl (by decide) rfl (fun ls hl => ?_)
  have hpg : z1.toNatClampNeg = mpage p0 := by rw [hz1]; rfl
  have hzin : vp_in z1 64 := by rw [hz1]; exact mpage_in p0
  -- from the page on
  have K30 : ∀ (g : Nat → Option Nat) (LP : List Nat) (pr : Nat → Nat → Int32) (pg' : Nat → Bool) (y : Nat) (H : Heap) (locs : List Loc), g (mpage p0) = some y → y ∈ LP → mrep g LP pr mem pg' → (fun i => if i = mpage p0 then true else pg' i) = (fun i => if i = mpage p0 then true else pg i) → ¬ (pg (mpage p0) = false ∧ p1 = 0) → va_P G vwCl ([(aMe, .inr (6, [.ref aPg])), (aPg, .inl (cP, 64, .inr (.inr (.inr (.inr g)))))] ++ va_pl LP (kPg cI pr)) H → va_D A ([(aMe, .inr (6, [.ref aPg])), (aPg, .inl (cP, 64, .inr (.inr (.inr (.inr g)))))] ++ va_pl LP (kPg cI pr)) → va_S A s.heap H locs → W p l e ({ frames := 1, cells := mc, slots := 256 * mc, locals := 20 }) s m args below meth c H locs mc (256 * mc) Q (F0 m 30 ls []) := by
    intro g LP pr pg' y H locs hy hyL hm hpp hcase hP hD hS
    refine lv_aload_n hx hb dX6_put_30 rfl (lv_at hl 1 rfl) ?_
    refine va_get (D := G) (ci := 6) (v := .ref aPg) (C := RX6) (T := TX6) (N := 1) hx hb hts iwX6_put_X6 hown hK hP 0 rfl rfl 0 (by decide) (hts _ lkX6_put_11) (fun _ h9 => h9) rfl dX6_put_31 ?_
    refine lv_iload_n hx hb dX6_put_34 rfl (lv_at hl 0 rfl) ?_
    refine va_aldA hx hb hK hP 1 2 rfl rfl hzin dX6_put_35 ?_
    rw [hpg, hy]
    refine lv_iload_n hx hb dX6_put_36 rfl (lv_at hl 2 rfl) ?_
    refine k_iS (As := [.int p0]) (rest := [.ref y]) ⟨hx, hb, hml, hown, hts⟩ hK hP hD hS hA (mX6_wordOf l G cI cB cP H.size p0) (va_cwS 1 hts gX6_put_X6_wordOf rfl rfl rfl (by decide +kernel) ⟨Nat.le_of_ble_eq_true rfl, Nat.le_of_ble_eq_true rfl⟩) rfl hl.1 rfl (Nat.le_of_ble_eq_true rfl) dX6_put_37 ⟨Nat.le_refl _, Nat.le_refl _⟩ (fun z2 H locs hz2 hEz2 hP hS => ?_)
    refine lv_iload_n hx hb dX6_put_40 rfl (lv_at hl 3 rfl) ?_
    obtain ⟨k, hk⟩ := va_pl_get (X := [(aMe, .inr (6, [.ref aPg])), (aPg, .inl (cP, 64, .inr (.inr (.inr (.inr g)))))]) (f := kPg cI pr) hyL
    refine va_iast hx hb hK hP hD hS k 0 hk rfl (by rw [hz2]; exact mword_in p0) dX6_put_41 (fun H locs hP hD hS => ?_)
    have hw2 : z2.toNatClampNeg = mword p0 := by rw [hz2]; rfl
    have hDo := hD
    rw [hw2, va_pl_set (by assumption) hyL hk, va_pl_congr (kPg_up cI pr y (upd (pr y) (mword p0) p1))] at hP hD
    refine hret H locs _ ls (upd mem (mix p0) p1, fun i => if i = mpage p0 then true else pg i) g LP _ dX6_put_42 (if_neg hcase).symm trivial ?_ hP hD hS
    have h5 := mrep_old hm (mpage_lt p0) (mword_lt p0) hy p1
    rw [hpp] at h5
    exact h5
  refine lv_aload_n hx hb dX6_put_5 rfl (lv_at hl 1 rfl) ?_
  refine va_get (D := G) (ci := 6) (v := .ref aPg) (C := RX6) (T := TX6) (N := 1) hx hb hts iwX6_put_X6 hown hK hP 0 rfl rfl 0 (by decide) (hts _ lkX6_put_11) (fun _ h9 => h9) rfl dX6_put_6 ?_
  refine lv_iload_n hx hb dX6_put_9 rfl (lv_at hl 0 rfl) ?_
  refine va_aldA hx hb hK hP 1 2 rfl rfl hzin dX6_put_10 ?_
  rw [hpg]
  rcases hm.1 (mpage p0) (mpage_lt p0) with ⟨h1, h2, h3⟩ | ⟨y, h1, h2, h3, h4⟩
  · rw [h1]
    refine lv_ifnonnullN hx hb dX6_put_11 ?_
    refine lv_iload_n hx hb dX6_put_14 rfl (lv_at hl 3 rfl) ?_
    refine lv_if_ne (tgt := 19) hx hb dX6_put_15 (by decide) (fun c1 => ?_) (fun c1 => ?_)
    · have hmc : 1 ≤ mc := hs h2 c1
      refine lv_aload_n hx hb dX6_put_19 rfl (lv_at hl 1 rfl) ?_
      refine va_get (D := G) (ci := 6) (v := .ref aPg) (C := RX6) (T := TX6) (N := 1) hx hb hts iwX6_put_X6 hown hK hP 0 rfl rfl 0 (by decide) (hts _ lkX6_put_11) (fun _ h9 => h9) rfl dX6_put_20 ?_
      refine lv_iload_n hx hb dX6_put_23 rfl (lv_at hl 0 rfl) ?_
      refine lv_sipush (v := 256) hx hb dX6_put_24 (by decide) ?_
      refine va_newa (atype := .int) (ty := .int) (a0 := (256, .inl (fun _ => 0))) (N' := 256) hx hb (hts _ lkX6_put_arr) rfl hK hP hD hS hA.1 (fun cA => rfl) (by decide) (by decide) (by decide) (by show 0 + 1 ≤ mc; omega) (by show 0 + 256 ≤ 256 * mc; omega) dX6_put_27 (fun q cA H hK1 hP hD hS => ?_)
      have hcc : cA = cI := Option.some.inj ((va_nm_int (hK1.2 3 (cA, .int) rfl).2).symm.trans (va_nm_int (hK.2 0 (cI, .int) rfl).2))
      subst hcc
      have hqL : q ∉ LP := va_pl_fresh2 hD
      have hcell : H[q]? = some (vp_cell cA (256, .inl (fun _ => 0))) := by
        have h9 := hP ((([(aMe, .inr (6, [.ref aPg])), (aPg, .inl (cP, 64, .inr (.inr (.inr (.inr g)))))] : va_W) ++ va_pl LP (kPg cA pr)).length) (q, .inl (cA, 256, .inl (fun _ => 0))) (by rw [List.getElem?_append_right (Nat.le_refl _), Nat.sub_self]; rfl)
        exact h9
      refine va_astA (cI := cA) hx hb hP hD hS 1 rfl (hA.2 cA cP .int (.array .int) rfl rfl) (va_nm_int (hK.2 0 (cA, .int) rfl).2) hcell hzin dX6_put_29 (fun H locs hP hD hS => ?_)
      rw [hpg] at hP hD
      have e1 : va_pl LP (kPg cA pr) ++ [(q, .inl (cA, 256, .inl (fun _ => 0)))] = va_pl (LP ++ [q]) (kPg cA (va_up pr q (fun _ => 0))) := by
        rw [va_pl_push hqL]
        exact va_pl_congr (kPg_up cA pr q (fun _ => 0))
      have hP : va_P G vwCl ([(aMe, .inr (6, [.ref aPg])), (aPg, .inl (cP, 64, .inr (.inr (.inr (.inr (va_up g (mpage p0) (some q)))))))] ++ (va_pl LP (kPg cA pr) ++ [(q, .inl (cA, 256, .inl (fun _ => 0)))])) H := hP
      have hD : va_D A ([(aMe, .inr (6, [.ref aPg])), (aPg, .inl (cP, 64, .inr (.inr (.inr (.inr (va_up g (mpage p0) (some q)))))))] ++ (va_pl LP (kPg cA pr) ++ [(q, .inl (cA, 256, .inl (fun _ => 0)))])) := hD
      rw [e1] at hP hD
      refine W.widen (k := mc) (n := 256 * mc) (by show 0 + 0 + 1 ≤ mc; omega) (by show 0 + 0 + 256 ≤ 256 * mc; omega) ?_
      refine K30 _ _ _ (fun i => if i = mpage p0 then true else pg i) q H locs (by simp only [va_up, if_pos]) (List.mem_append_right _ (List.mem_singleton.mpr rfl)) (mrep_new hm (mpage_lt p0) h1 hqL) ?_ (fun h => c1 h.2) hP hD hS
      funext i
      by_cases hi : i = mpage p0
      · simp only [if_pos hi]
      · simp only [if_neg hi]
    · refine W.widen (k := mc) (n := 256 * mc) (Nat.zero_le _) (Nat.zero_le _) ?_
      exact hret H locs _ ls (mem, pg) g LP pr dX6_put_18 (if_pos ⟨h2, c1⟩).symm trivial hm hP hD hS
  · rw [h1]
    refine lv_ifnonnull (tgt := 30) hx hb dX6_put_11 (by decide) ?_
    refine W.widen (k := mc) (n := 256 * mc) (Nat.zero_le _) (Nat.zero_le _) ?_
    exact K30 g LP pr pg y H locs h1 h2 hm rfl (fun h => by rw [h3] at h; cases h.1) hP hD hS

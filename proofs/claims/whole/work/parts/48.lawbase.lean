/-! THE CLAIM OUT OF ONE WALK OF THE LAW'S BODY. Your part is whole_start (and what it stands on); all else here is the same for every law, but numbers. -/
def R_law : String := "TwinIssueLaw"
def lw_P (b : Addr) (xs : List Int32) (args : Array Value) (s : State) : Prop := args = #[.ref b] ∧ s.IntsAt b xs ∧ xs.length ≤ 1537 ∧ (Jvm.Cond.and given_1 narrow_1).before args s = true
def lw_Q (_ : Array Value) (s : State) (o : Outcome) (t : State) : Prop := o = .returned (some (.int 1)) ∧ Framed s o t [] 600000 7302250
def lw_Z (below : List Frame) (a : Array Value) (s : State) : State → Prop := fun t => ∃ o, t.status = .running ∧ Ended t below o ∧ lw_Q a s o t
/-- the law's own end, with 1 on the stack, nothing written that was there before, its room as the claim has it -/
theorem lw_ret {p : Program} {l : Launch} {e : Env} {s : State} {m : MethodId} {below : List Frame} {meth : Method} {c : Code} {b : Nat} (hx : p.tables.exec = Jvm.exec) (hb : c.code = code) (hr : meth.sig.returnType = ret) (hlocks : meth.locks = false) {pc : Nat} {H : Heap} {ls : Array Slot} (hdg : decode code pc = .ok (.ireturn, 1)) : W p l e room_1 s m #[Value.ref b] below meth c H [] 600000 7302250 (lw_Z below #[Value.ref b] s) (F0 m pc ls [.int 1]) := by
  intro T hT X
  obtain ⟨fs, hret, hrun, hended, hW, hframe⟩ := X.leave (v := some (.int 1)) (hlocks := hlocks) (fun h => by rw [hr] at h; cases h)
  have hmeth' : T.vm.method? m = some meth := X.method'
  refine ⟨T.setFrames fs, ?_, .returned (some (.int 1)), hrun, hended, rfl, ⟨_, rfl⟩, hW, hframe⟩
  jvm_step X.here [X.here.top, hx, hb, hdg, hmeth', hr, ret, narrow_b1]
  (try refine ⟨rfl, ?_⟩); (try refine ⟨rfl, ?_⟩)
  first | (intro acts; rw [hret _ acts rfl rfl rfl]) | rw [hret _ _ rfl rfl rfl]
  exact Steps.refl _
/-- what holds at the law's entry: the machine, the code, the tables' words (any of lw_tbl by 'hts w (by decide +kernel)'), the script of L ints xs at the cell b, what the Statement gives of the start (any of its parts by flat_of_before) -/
def lw_At (p : Program) (s : State) (m : MethodId) (meth : Method) (c : Code) (b L : Nat) (xs : Nat → Int32) : Prop :=
  p.tables.exec = Jvm.exec ∧ c.code = code ∧ meth.sig.returnType = ret ∧ c.maxLocals = 4 ∧ s.vm.findClass R_law = some m.cls ∧ (∀ w ∈ lw_tbl, w.before #[Value.ref b] s = true) ∧ va_X b L xs s s.heap ∧ b < s.heap.size ∧ meth.locks = false ∧ (Jvm.Cond.and given_1 narrow_1).before #[Value.ref b] s = true
/-! ===== the law's base ===== -/
theorem pgc_le (pg : Nat → Bool) : pgc pg ≤ 64 := by
  unfold pgc
  exact Nat.le_trans (List.length_filter_le _ _) (by simp)
theorem lw_2 (i : Nat) : nI i + 2 = nI (i + 2) := nI_add i 2
theorem lw_3 (i : Nat) : nI i + 3 = nI (i + 3) := nI_add i 3
theorem lw_i {L i : Nat} {x3 : Int32} (hL : L ≤ 1537) (hi : i ≤ 1600) (e : x3 = nI i) (h : ¬ nI L - 3 < x3) : i + 3 ≤ L := by
  subst e
  have h1 : (nI L - nI 3).toInt = (L : Int) - 3 := pk_sub_toInt (by omega) (by omega)
  have h2 : (nI i).toInt = (i : Int) := nI_toInt (by omega)
  have h3 : ¬ (nI L - nI 3).toInt < (nI i).toInt := fun q => h (Int32.lt_iff_toInt_lt.mpr q)
  omega
theorem lw_r0 (P : Nat → Bool) : 30 + pgc P + 0 ≤ room_1.cells ∧ 72684 + 256 * pgc P + 0 ≤ room_1.slots := by
  have h := pgc_le P
  have e1 : room_1.cells = 600000 := rfl
  have e2 : room_1.slots = 7302250 := rfl
  rw [e1, e2]
  omega
theorem lw_rm (P Pf : Nat → Bool) : 30 + pgc P + (pgc Pf - pgc P) ≤ room_1.cells ∧ 72684 + 256 * pgc P + 256 * (pgc Pf - pgc P) ≤ room_1.slots := by
  have h := pgc_le P
  have h2 := pgc_le Pf
  have e1 : room_1.cells = 600000 := rfl
  have e2 : room_1.slots = 7302250 := rfl
  rw [e1, e2]
  omega
theorem lw_w1 {a b : Nat} (h : a ≤ b) : 30 + a + (b - a) ≤ 30 + b := by omega
theorem lw_w2 {a b : Nat} (h : a ≤ b) : 72684 + 256 * a + 256 * (b - a) ≤ 72684 + 256 * b := by omega
section KC
variable {p : Program} {l : Launch} {e : Env} {R : Room} {s : State} {m : MethodId} {args : Array Value} {below : List Frame} {meth : Method} {c : Code} {H : Heap} {locs : List Loc} {cells slots : Nat} {Q : State → Prop} {G : va_G} {TY : List (ClassId × FieldType)} {ws wc wr : va_W} {A : Nat → Prop} {S : Type} {Ts wsy : List Cond} {cc bytes : ByteArray} {nL maxL index n pc : Nat} {own C : String} {y : MethodName} {ret : Option FieldType} {rm : Room} {As rest : List Value} {b : Nat} {ls : Array Slot}
theorem k_iVm {pl : va_W} {cI : ClassId} {F : Int32 × S} {E : Int32 → S → Prop} {W1 : S → (Nat → Option Nat) → va_W} {mm : S → Nat → Int32} {pp : S → Nat → Bool} (Sx : CallFix p m c cc nL s args Ts own) (hK : va_K G vwCl TY s) (hP : va_P G vwCl (ws ++ pl) H) (hD : va_D A (ws ++ pl)) (hS : va_S A s.heap H locs) (hA : kA TY A s) (isC isR : List Nat) (hC : isC.map (fun i => ws[i]?) = wc.map some) (hR : isR.map (fun i => ws[i]?) = wr.map some) (hnd : va_nd isC = true) (hn : va_nd isR = true) (hdis : ∀ i ∈ isR, i ∉ isC)
    (hM : kMiM l y wsy rm (.ref b :: As) G cI TY H.size (wc ++ pl) F E W1 mm pp) (cw : CallW R s args own C index y bytes maxL ret wsy rm rm.cells rm.slots n) (q0 ci : Nat) {cq : vw_C} {fs : List Value} (hc : vwCl[ci]? = some cq) (he : ws[q0]? = some (b, .inr (ci, fs))) (hCn : cq.1 = C) (hlen : As.length = n) (hsz : ls.size = nL) {st0 : List Value} (hst : st0 = As.reverse ++ .ref b :: rest) (hroom : (rest.map fun v => v.category).sum ≤ 8) (hdg : decode cc pc = .ok (.invokevirtual index, 3)) (hf : cells + rm.cells ≤ R.cells ∧ slots + rm.slots ≤ R.slots)
    (kk : ∀ (z : Int32 × S) (g : Nat → Option Nat) (LP : List Nat) (pr : Nat → Nat → Int32) (H1 : Heap) (locs1 : List Loc), z = F → E z.1 z.2 → mrep g LP pr (mm z.2) (pp z.2) → va_P G vwCl ((wr ++ W1 z.2 g) ++ va_pl LP (kPg cI pr)) H1 → va_D A ((wr ++ W1 z.2 g) ++ va_pl LP (kPg cI pr)) → va_S A s.heap H1 locs1 → W p l e R s m args below meth c H1 locs1 (cells + rm.cells) (slots + rm.slots) Q (F0 m (pc + 3) ls (.int z.1 :: rest))) :
    W p l e R s m args below meth c H locs cells slots Q (F0 m pc ls st0) := by
  have hcut : va_P G vwCl (wc ++ pl) H ∧ va_D (fun _ => True) (wc ++ pl) := ⟨k_partP hP isC hC, (k_partD hD isC hnd hC).weaken (fun _ _ _ _ => trivial)⟩
  have hFc := k_partF hD hS hA.1 isC hC
  subst hst
  refine va_calli (va_runV (As := As) (rest := rest) Sx hM cw ⟨k_blind, hCn ▸ va_recv hK (k_headP hP) hc he, fun U hU hW => ⟨rfl, by rw [hU], by rw [hU]; exact hcut.1, va_K.moved hW.alike hK, hcut.2, hA.2.moved hW.alike⟩⟩ rfl hlen hsz rfl (lv_room hroom) hdg hf) hS (fun q _ h => hFc q h) hFc (fun r u t H1 locs1 ht hvm hw hB hz1 hk1 hS1 => ?_)
  obtain ⟨g, LP, pr, hm, hP1, hD1⟩ := hB
  rw [ht] at hP1
  obtain ⟨hP2, hD2⟩ := va_joinP (wr := wr) (rx := W1 u g) (pl1 := va_pl LP (kPg cI pr)) hP hD isC isR hC hR hn hdis hk1 hFc hP1 hD1
  exact kk (r, u) g LP pr H1 locs1 hw.1 hw.2 hm hP2 hD2 hS1
theorem k_iVmZ {t : Nat} {pl : va_W} {cI : ClassId} {F : Int32 × S} {E : Int32 → S → Prop} {W1 : S → (Nat → Option Nat) → va_W} {mm : S → Nat → Int32} {pp : S → Nat → Bool} (Sx : CallFix p m c cc nL s args Ts own) (hK : va_K G vwCl TY s) (hP : va_P G vwCl (ws ++ pl) H) (hD : va_D A (ws ++ pl)) (hS : va_S A s.heap H locs) (hA : kA TY A s) (isC isR : List Nat) (hC : isC.map (fun i => ws[i]?) = wc.map some) (hR : isR.map (fun i => ws[i]?) = wr.map some) (hnd : va_nd isC = true) (hn : va_nd isR = true) (hdis : ∀ i ∈ isR, i ∉ isC)
    (hZ : zTr t A s s.heap) (hM : kMiMZ t l y wsy rm (.ref b :: As) G cI TY H.size (wc ++ pl) F E W1 mm pp) (cw : CallW R s args own C index y bytes maxL ret wsy rm rm.cells rm.slots n) (q0 ci : Nat) {cq : vw_C} {fs : List Value} (hc : vwCl[ci]? = some cq) (he : ws[q0]? = some (b, .inr (ci, fs))) (hCn : cq.1 = C) (hlen : As.length = n) (hsz : ls.size = nL) {st0 : List Value} (hst : st0 = As.reverse ++ .ref b :: rest) (hroom : (rest.map fun v => v.category).sum ≤ 8) (hdg : decode cc pc = .ok (.invokevirtual index, 3)) (hf : cells + rm.cells ≤ R.cells ∧ slots + rm.slots ≤ R.slots)
    (kk : ∀ (z : Int32 × S) (g : Nat → Option Nat) (LP : List Nat) (pr : Nat → Nat → Int32) (H1 : Heap) (locs1 : List Loc), z = F → E z.1 z.2 → mrep g LP pr (mm z.2) (pp z.2) → va_P G vwCl ((wr ++ W1 z.2 g) ++ va_pl LP (kPg cI pr)) H1 → va_D A ((wr ++ W1 z.2 g) ++ va_pl LP (kPg cI pr)) → va_S A s.heap H1 locs1 → W p l e R s m args below meth c H1 locs1 (cells + rm.cells) (slots + rm.slots) Q (F0 m (pc + 3) ls (.int z.1 :: rest))) :
    W p l e R s m args below meth c H locs cells slots Q (F0 m pc ls st0) := by
  have hcut : va_P G vwCl (wc ++ pl) H ∧ va_D (fun _ => True) (wc ++ pl) := ⟨k_partP hP isC hC, (k_partD hD isC hnd hC).weaken (fun _ _ _ _ => trivial)⟩
  have hFc := k_partF hD hS hA.1 isC hC
  subst hst
  refine va_calli (va_runV (As := As) (rest := rest) Sx hM cw ⟨k_blindZ, hCn ▸ va_recv hK (k_headP hP) hc he, fun U hU hW => ⟨rfl, ⟨by rw [hU], by rw [hU]; exact hcut.1, va_K.moved hW.alike hK, hcut.2, hA.2.moved hW.alike⟩, zTr_call hZ hS hFc hU hW⟩⟩ rfl hlen hsz rfl (lv_room hroom) hdg hf) hS (fun q _ h => hFc q h) hFc (fun r u t H1 locs1 ht hvm hw hB hz1 hk1 hS1 => ?_)
  obtain ⟨g, LP, pr, hm, hP1, hD1⟩ := hB
  rw [ht] at hP1
  obtain ⟨hP2, hD2⟩ := va_joinP (wr := wr) (rx := W1 u g) (pl1 := va_pl LP (kPg cI pr)) hP hD isC isR hC hR hn hdis hk1 hFc hP1 hD1
  exact kk (r, u) g LP pr H1 locs1 hw.1 hw.2 hm hP2 hD2 hS1
end KC

/-- cell(script, 0) -/
def cell0 (L : Nat) (xs : Nat → Int32) : Int32 := if nI L ≤ 0 then 0 else xs 0
abbrev kPreX (b L : Nat) (xs : Nat → Int32) (G : va_G) (TY : List (ClassId × FieldType)) (sz : Nat) (U : State) : Prop := kPre G TY sz [] U ∧ va_X b L xs U U.heap ∧ b < U.heap.size
set_option maxHeartbeats 4000000 in
theorem mL_cell (l : Launch) (G : va_G) (cI cB cP : ClassId) (b L : Nat) (xs : Nat → Int32) (hL : L ≤ 1537) (sz : Nat) : Met l yL_cell wsL_cell ({ frames := 0, cells := 0, slots := 0, locals := 0 }) (va_Pc [.ref b, .int 0] (kPreX b L xs G (kTY cI cB cP) sz)) (kQi (S := Unit) G (va_A [] sz) (cell0 L xs, ()) (fun _ _ => True) (fun _ => [])) 0 0 (va_A [] sz) := by
  refine Met.ofW (cc := cL_cell) (maxL := 2) (ret := some .int) (by decide) rfl ?_
  intro p e s m args below meth c s₁ B hml hv
  obtain ⟨rfl, ⟨hsz, hP, hK, hD0, hAA⟩, hX, hbl⟩ := hv
  subst hsz
  have hx := B.exec
  have hb := B.bytes
  have hr := B.returns
  have hlocks := B.notSynchronized
  have hbA : ¬ va_A [] s.heap.size b := fun h => by
    rcases h with ⟨k, e', h⟩ | h
    · simp at h
    · exact Nat.not_le.mpr hbl h
  have hS : va_S (va_A [] s.heap.size) s.heap s.heap [] := va_S.rf
  have hD := hD0.self (sz := s.heap.size)
  rw [lg_entry_eq]
  have hl := lv_entry ([.ref b, .int 0]) (n := 2) (Nat.le_of_ble_eq_true rfl)
  generalize (lg_sl ([.ref b, .int 0]) ++ List.replicate (2 - (lg_sl ([.ref b, .int 0])).length) Slot.unset).toArray = ls at hl ⊢
  have hl : lv_has ls 2 [(0, .ref b), (1, .int 0)] := hl
  refine lv_iload_n hx hb dL_cell_0 rfl (lv_at hl 1 rfl) ?_
  refine lv_aload_n hx hb dL_cell_1 rfl (lv_at hl 0 rfl) ?_
  refine va_slen hx hb hX hbl hbA hS dL_cell_2 ?_
  refine lv_icmp_ge (tgt := 12) hx hb dL_cell_3 (by decide) (fun c1 => ?_) (fun c1 => ?_)
  · refine lv_iconst (v := 0) hx hb dL_cell_12 (by decide) ?_
    exact W.iret (v := 0) hx hb hr (fun t ht hW => ⟨⟨0, (), rfl, ⟨congrArg (fun x => (x, ())) (if_pos c1).symm, trivial⟩, by rw [ht]; exact hP, hD⟩, hS.F ht⟩) hS.2.2 dL_cell_13
  · refine lv_aload_n hx hb dL_cell_6 rfl (lv_at hl 0 rfl) ?_
    refine lv_iload_n hx hb dL_cell_7 rfl (lv_at hl 1 rfl) ?_
    have hpos : 0 < L := Nat.pos_of_ne_zero fun h => c1 (by rw [h]; exact Int32.le_refl _)
    refine va_sld hx hb hX hbl hbA hS (i := 0) (vp_in_nI (n := 0) hpos (by omega)) dL_cell_8 ?_
    refine lv_goto (tgt := 13) hx hb dL_cell_9 (by decide) ?_
    exact W.iret (v := xs 0) hx hb hr (fun t ht hW => ⟨⟨xs 0, (), rfl, ⟨congrArg (fun x => (x, ())) (if_neg c1).symm, trivial⟩, by rw [ht]; exact hP, hD⟩, hS.F ht⟩) hS.2.2 dL_cell_13
section LC
variable {p : Program} {l : Launch} {e : Env} {R : Room} {s : State} {m : MethodId} {args : Array Value} {below : List Frame} {meth : Method} {c : Code} {H : Heap} {locs : List Loc} {cells slots : Nat} {Q : State → Prop} {G : va_G} {cI cB cP : ClassId} {ws : va_W} {A : Nat → Prop} {Ts : List Cond} {cc : ByteArray} {nL pc index : Nat} {rest : List Value} {ls : Array Slot}
theorem k_cell {b L : Nat} {xs : Nat → Int32} (hL : L ≤ 1537) (Sx : CallFix p m c cc nL s args Ts RL) (hK : va_K G vwCl (kTY cI cB cP) s) (hP : va_P G vwCl ws H) (hS : va_S A s.heap H locs) (hA : kA (kTY cI cB cP) A s) (hX : va_X b L xs s s.heap) (hbl : b < s.heap.size) (hbA : ¬ A b) (cw : CallB R s args RL index yL_cell cL_cell 2 (some .int) wsL_cell ({ frames := 0, cells := 0, slots := 0, locals := 0 }) 0 0 2 ∧ (Cond.static yL_cell).before args s = true) (hsz : ls.size = nL) (hroom : (rest.map fun v => v.category).sum ≤ 8) (hdg : decode cc pc = .ok (.invokestatic index, 3)) (hf : cells + 0 ≤ R.cells ∧ slots + 0 ≤ R.slots)
    (kk : ∀ (H1 : Heap) (locs1 : List Loc), va_P G vwCl ws H1 → va_S A s.heap H1 locs1 → W p l e R s m args below meth c H1 locs1 (cells + 0) (slots + 0) Q (F0 m (pc + 3) ls (.int (cell0 L xs) :: rest))) :
    W p l e R s m args below meth c H locs cells slots Q (F0 m pc ls (.int 0 :: .ref b :: rest)) := by
  have hP0 : va_P G vwCl [] H := fun k q h => by simp at h
  have hD0 : va_D (fun _ => True) [] := ⟨fun i j p q h => by simp at h, fun k q h => by simp at h⟩
  have hFc : ∀ q, va_A [] H.size q → A q := fun q h => by
    rcases h with ⟨k, e', h⟩ | h
    · simp at h
    · exact hA.1 q (Nat.le_trans hS.1 h)
  have hXH : va_X b L xs s H := hX.kept (hS.2.1 b hbl hbA)
  refine va_calli (va_runS (As := [.ref b, .int 0]) (rest := rest) Sx (mL_cell l G cI cB cP b L xs hL H.size) cw ⟨fun a U g mk q => ?_, fun U hU hW => ⟨rfl, ⟨by rw [hU], by rw [hU]; exact hP0, va_K.moved hW.alike hK, hD0, hA.2.moved hW.alike⟩, by rw [hU]; exact hXH.moved hW.alike, by rw [hU]; exact Nat.lt_of_lt_of_le hbl hS.1⟩⟩ rfl rfl hsz rfl (lv_room hroom) hdg hf) hS (fun q _ h => hFc q h) hFc (fun r u t H1 locs1 ht hvm hw hB hz1 hk1 hS1 => ?_)
  · obtain ⟨q0, ⟨q1, qP, qK, qD, qA⟩, qX, qb⟩ := q
    exact ⟨q0, ⟨q1, qP, va_K.moved (u := U) (U := U.calling g mk a) (Vm.Alike.refl U.vm) qK, qD, kAA.moved (u := U) (U := U.calling g mk a) (Vm.Alike.refl U.vm) qA⟩, va_X.moved (u := U) (U := U.calling g mk a) (Vm.Alike.refl U.vm) qX, qb⟩
  have e1 : r = cell0 L xs := congrArg Prod.fst hw.1
  subst e1
  refine kk H1 locs1 (fun k q hq => ?_) hS1
  have hlt : q.1 < H.size := by
    have h1 := hP k q hq
    unfold va_at at h1
    split at h1
    · exact (Array.getElem?_eq_some_iff.mp h1).1
    · obtain ⟨r1, -, cell, g1, -⟩ := h1
      exact (Array.getElem?_eq_some_iff.mp g1).1
  have hsame : H1[q.1]? = H[q.1]? := hk1 q.1 hlt (fun h => by
    rcases h with ⟨k', e', h⟩ | h
    · simp at h
    · exact Nat.not_le.mpr hlt h)
  have h1 := hP k q hq
  unfold va_at at h1 ⊢
  split at h1
  · exact hsame.trans h1
  · obtain ⟨r1, a1, a2⟩ := h1
    exact ⟨r1, a1, a2.kept hsame⟩
end LC

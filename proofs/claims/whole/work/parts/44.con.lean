/-! ===== constructors: what they make ===== -/
def kAO (U : State) : Prop := (Cond.arrayOver (.array .int)).before #[] U = true
theorem kAO.moved {u U : State} (hvm : u.vm.Alike U.vm) (h : kAO u) : kAO U := by
  obtain ⟨comp, c, k, h1, h2, h3, h4, h5⟩ := arrayOverA_spec h
  obtain ⟨k', hk', he⟩ := hvm.2.2 _ _ h3
  have hi : (U.vm.classes.findIdx? fun (x : Class) => match x.kind with | .array component _ => component == comp | _ => false) = some c := by
    have e1 := va_idx_bare U.vm comp
    have e2 := va_idx_bare u.vm comp
    have e3 : U.vm.bare = u.vm.bare := by first | exact hvm.bare_eq | exact hvm.bare_eq.symm
    rw [e3] at e1
    exact (e1.symm.trans e2).trans h2
  have hkind : k'.kind = .array comp (.array .int) := by rw [he]; exact h4
  have f1 : U.vm.findClass (FieldType.array .int).toString = some comp := by rw [hvm.findClass]; exact h1
  have f2 : U.vm.findClass ("[" ++ (FieldType.array .int).toString) = some c := by rw [hvm.findClass]; exact h5
  unfold kAO Cond.before Cond.holds
  simp only [Cond.value]
  rw [f1, Option.bind_some]
  refine (congrArg (fun o : Option Nat => (o.bind (fun c => (U.vm.classes[c]?).map fun (k : Class) => match k.kind with | .array _ ty => decide (ty = FieldType.array .int) && decide (U.vm.findClass ("[" ++ (FieldType.array .int).toString) = some c) | _ => false) == some true)) hi).trans ?_
  simp [hk', hkind, f2]
def kN0 (U : State) : Prop := va_Nw (.methodLinkNest RX10 11 yX7_init "TwinIssue") U ∧ va_Nw (.methodLinkNest RX10 18 yX1_init "TwinIssue") U ∧ va_Nw (.methodLinkNest RX2 11 yX6_init "TwinIssue") U ∧ va_Nw (.methodLinkNest RX2 20 yX3_init "TwinIssue") U ∧ va_Nw (.methodLinkNest RX2 27 yX0_init "TwinIssue") U ∧ va_Nw (.methodLinkNest RX8 11 yX4_init "TwinIssue") U
def kNw (U : State) : Prop := kAO U ∧ kN0 U
theorem kNw.warm {s U : State} (hW : s.WarmedH U.vm) (h : kNw s) : kNw U := ⟨h.1.moved hW.alike, va_Nw.warmM hW h.2.1, va_Nw.warmM hW h.2.2.1, va_Nw.warmM hW h.2.2.2.1, va_Nw.warmM hW h.2.2.2.2.1, va_Nw.warmM hW h.2.2.2.2.2.1, va_Nw.warmM hW h.2.2.2.2.2.2⟩
theorem kNw.same {u U : State} (e : u.vm = U.vm) (h : kNw u) : kNw U := ⟨h.1.moved (by rw [e]; exact Vm.Alike.refl _), va_Nw.same rfl e h.2.1, va_Nw.same rfl e h.2.2.1, va_Nw.same rfl e h.2.2.2.1, va_Nw.same rfl e h.2.2.2.2.1, va_Nw.same rfl e h.2.2.2.2.2.1, va_Nw.same rfl e h.2.2.2.2.2.2⟩
abbrev kPreN (G : va_G) (TY : List (ClassId × FieldType)) (sz : Nat) (WS : va_W) (U : State) : Prop := kPre G TY sz WS U ∧ kNw U
abbrev kMc {S : Type} (l : Launch) (y : MethodName) (ws : List Cond) (rm : Room) (av : List Value) (G : va_G) (TY : List (ClassId × FieldType)) (sz : Nat) (WS : va_W) (E : S → Prop) (W1 : S → va_W) : Prop :=
  Met l y ws rm (va_Pc av (kPreN G TY sz WS)) (va_Qv E (fun u t => kPost G (va_A WS sz) (W1 u) t) (va_A WS sz)) rm.cells rm.slots (va_A WS sz)
theorem k_blindN {av : List Value} {G : va_G} {TY : List (ClassId × FieldType)} {sz : Nat} {WS : va_W} : FrameBlind (va_Pc av (kPreN G TY sz WS)) := fun a U g mk q => by
  obtain ⟨q0, ⟨q1, qP, qK, qD, qA⟩, qN⟩ := q
  exact ⟨q0, ⟨q1, qP, va_K.moved (u := U) (U := U.calling g mk a) (Vm.Alike.refl U.vm) qK, qD, kAA.moved (u := U) (U := U.calling g mk a) (Vm.Alike.refl U.vm) qA⟩, kNw.same (u := U) rfl qN⟩
theorem k_ofc {l : Launch} {y : MethodName} {ws ws' : List Cond} {rm : Room} {av : List Value} {G : va_G} {TY : List (ClassId × FieldType)} {sz : Nat} {WS : va_W} {S : Type} {E : S → Prop} {W1 : S → va_W} {cc : ByteArray} {maxL : Nat}
    (hy : plainName y.cls = true) (hw : ws = Cond.code y cc maxL none :: ws') (hav : (lg_sl av).length ≤ maxL)
    (walk : ∀ (p : Program) (e : Env) (s : State) (m : MethodId) (args : Array Value) (below : List Frame) (meth : Method) (c : Code) (A : Nat → Prop) (ls : Array Slot) (Q : State → Prop) (H : Heap) (locs : List Loc), p.tables.exec = Jvm.exec → c.code = cc → c.maxLocals = maxL → s.vm.findClass y.cls = some m.cls → (∀ w ∈ ws, w.before args s = true) → meth.name = y.name → va_K G vwCl TY s → va_P G vwCl WS H → va_D A WS → kA TY A s → va_S A s.heap H locs → lv_has ls maxL (lv_args 0 av) → kNw s →
      (∀ (H : Heap) (locs : List Loc) (pc : Nat) (ls : Array Slot) (u : S), decode cc pc = .ok (.return_, 1) → E u → va_P G vwCl (W1 u) H → va_D A (W1 u) → va_S A s.heap H locs → W p l e rm s m args below meth c H locs rm.cells rm.slots Q (F0 m pc ls [])) → W p l e rm s m args below meth c H locs 0 0 Q (F0 m 0 ls [])) : kMc l y ws rm av G TY sz WS E W1 := by
  refine Met.ofW (cc := cc) (maxL := maxL) (ret := none) hy hw ?_
  intro p e s m args below meth c s₁ B hml hv
  obtain ⟨rfl, ⟨hsz, hP, hK, hD0, hAA⟩, hN⟩ := hv
  subst hsz
  have hD := hD0.self (sz := s.heap.size)
  rw [lg_entry_eq]
  refine walk p e s m _ below meth c (va_A WS s.heap.size) _ _ s.heap [] B.exec B.bytes hml (findClass_of_methodNamed B.named) (atoms_spec (ws := ws) B.pre) (name_of_methodNamed B.named B.method).1 hK hP hD ⟨fun q h => Or.inr h, hAA⟩ va_S.rf (lv_entry av hav) hN (fun H locs pc ls u hdg hE hP hD hS => ?_)
  have hlocks := B.notSynchronized
  exact W.vret B.exec B.bytes B.returns (fun t ht hW => ⟨⟨u, rfl, hE, by rw [ht]; exact hP, hD⟩, hS.F ht⟩) hS.2.2 hdg
section KN
variable {p : Program} {l : Launch} {e : Env} {R : Room} {s : State} {m : MethodId} {args : Array Value} {below : List Frame} {meth : Method} {c : Code} {H : Heap} {locs : List Loc} {cells slots : Nat} {Q : State → Prop} {G : va_G} {TY : List (ClassId × FieldType)} {ws wc wr : va_W} {A : Nat → Prop} {S : Type} {Ts wsy : List Cond} {cc bytes : ByteArray} {nL maxL index n pc : Nat} {own host : String} {y : MethodName} {rm : Room} {As rest : List Value} {b : Nat} {ls : Array Slot}
theorem k_cI {E : S → Prop} {W1 : S → va_W} (Sx : CallFix p m c cc nL s args Ts own) (hK : va_K G vwCl TY s) (hP : va_P G vwCl ws H) (hD : va_D A ws) (hS : va_S A s.heap H locs) (hA : kA TY A s) (hNw : kNw s) (isC isR : List Nat) (hC : isC.map (fun i => ws[i]?) = wc.map some) (hR : isR.map (fun i => ws[i]?) = wr.map some) (hnd : va_nd isC = true) (hn : va_nd isR = true) (hdis : ∀ i ∈ isR, i ∉ isC)
    (hM : kMc l y wsy rm (.ref b :: As) G TY H.size wc E W1) (cw : CallB R s args own index y bytes maxL none wsy rm rm.cells rm.slots n ∧ y.name = "<init>" ∧ (Cond.instanceMethod y).before args s = true) (hlen : As.length = n) (hsz : ls.size = nL) {st0 : List Value} (hst : st0 = As.reverse ++ .ref b :: rest) (hroom : (rest.map fun v => v.category).sum ≤ 8) (hdg : decode cc pc = .ok (.invokespecial index, 3)) (hf : cells + rm.cells ≤ R.cells ∧ slots + rm.slots ≤ R.slots)
    (kk : ∀ (z : S) (H1 : Heap) (locs1 : List Loc), E z → va_P G vwCl (wr ++ W1 z) H1 → va_D A (wr ++ W1 z) → va_S A s.heap H1 locs1 → W p l e R s m args below meth c H1 locs1 (cells + rm.cells) (slots + rm.slots) Q (F0 m (pc + 3) ls rest)) :
    W p l e R s m args below meth c H locs cells slots Q (F0 m pc ls st0) := by
  have hcut := k_cut hP hD isC hC hnd
  have hFc := va_free (wc := wc) hD hS hA.1 isC hC
  subst hst
  refine va_callv (va_runI (As := As) (rest := rest) Sx hM cw ⟨k_blindN, fun U hU hW => ⟨rfl, ⟨by rw [hU], by rw [hU]; exact hcut.1, va_K.moved hW.alike hK, hcut.2, hA.2.moved hW.alike⟩, hNw.warm hW⟩⟩ rfl hlen hsz rfl (lv_room hroom) hdg hf) hS (fun q _ h => hFc q h) hFc (fun u t H1 locs1 ht hvm hw hB hz1 hk1 hS1 => ?_)
  obtain ⟨hP1, hD1⟩ := hB
  rw [ht] at hP1
  obtain ⟨hP2, hD2⟩ := va_join (wr := wr) (w1 := W1 u) hP hD isC isR hC hR hn hdis hk1 hFc hP1 hD1
  exact kk u H1 locs1 hw hP2 hD2 hS1
theorem k_cIN {E : S → Prop} {W1 : S → va_W} (Sx : CallFix p m c cc nL s args Ts own) (hK : va_K G vwCl TY s) (hP : va_P G vwCl ws H) (hD : va_D A ws) (hS : va_S A s.heap H locs) (hA : kA TY A s) (hNw : kNw s) (isC isR : List Nat) (hC : isC.map (fun i => ws[i]?) = wc.map some) (hR : isR.map (fun i => ws[i]?) = wr.map some) (hnd : va_nd isC = true) (hn : va_nd isR = true) (hdis : ∀ i ∈ isR, i ∉ isC)
    (hM : kMc l y wsy rm (.ref b :: As) G TY H.size wc E W1) (cw : va_CN R s args own index y host bytes maxL none wsy rm rm.cells rm.slots n ∧ y.name = "<init>" ∧ (Cond.instanceMethod y).before args s = true) (hlen : As.length = n) (hsz : ls.size = nL) {st0 : List Value} (hst : st0 = As.reverse ++ .ref b :: rest) (hroom : (rest.map fun v => v.category).sum ≤ 8) (hdg : decode cc pc = .ok (.invokespecial index, 3)) (hf : cells + rm.cells ≤ R.cells ∧ slots + rm.slots ≤ R.slots)
    (kk : ∀ (z : S) (H1 : Heap) (locs1 : List Loc), E z → va_P G vwCl (wr ++ W1 z) H1 → va_D A (wr ++ W1 z) → va_S A s.heap H1 locs1 → W p l e R s m args below meth c H1 locs1 (cells + rm.cells) (slots + rm.slots) Q (F0 m (pc + 3) ls rest)) :
    W p l e R s m args below meth c H locs cells slots Q (F0 m pc ls st0) := by
  have hcut := k_cut hP hD isC hC hnd
  have hFc := va_free (wc := wc) hD hS hA.1 isC hC
  subst hst
  refine va_callv (va_runIN (As := As) (rest := rest) Sx hM cw ⟨k_blindN, fun U hU hW => ⟨rfl, ⟨by rw [hU], by rw [hU]; exact hcut.1, va_K.moved hW.alike hK, hcut.2, hA.2.moved hW.alike⟩, hNw.warm hW⟩⟩ rfl hlen hsz rfl (lv_room hroom) hdg hf) hS (fun q _ h => hFc q h) hFc (fun u t H1 locs1 ht hvm hw hB hz1 hk1 hS1 => ?_)
  obtain ⟨hP1, hD1⟩ := hB
  rw [ht] at hP1
  obtain ⟨hP2, hD2⟩ := va_join (wr := wr) (w1 := W1 u) hP hD isC isR hC hR hn hdis hk1 hFc hP1 hD1
  exact kk u H1 locs1 hw hP2 hD2 hS1

theorem va_newA (hexec : p.tables.exec = Jvm.exec) (hb : c.code = cc) {own : String} {cP : ClassId} (hown : s.vm.findClass own = some m.cls) (hclink : (Cond.classLink own index "[I").before args s = true) (hover : kAO s) (hRP : va_RA s cP (.array .int)) (hP : va_P G vwCl ws H) (hD : va_D A ws) (hS : va_S A s.heap H locs) (hA : kA TY A s) {n : Int32} {N' : Nat} (hn : ¬ n < 0) (hN : n.toNatClampNeg = N') (hbytes : N' * 4 ≤ 536870912) (hcells : cells + 1 ≤ R.cells) (hslots : slots + N' ≤ R.slots) (hdg : decode cc pc = .ok (.anewarray index, 3))
    (kk : ∀ (q : Nat) (H1 : Heap), va_P G vwCl (ws ++ [(q, .inl (cP, N', .inr (.inr (.inr (.inr (fun _ => none))))))]) H1 → va_D A (ws ++ [(q, .inl (cP, N', .inr (.inr (.inr (.inr (fun _ => none))))))]) → va_S A s.heap H1 locs → W p l e R s m args below meth c H1 locs (cells + 1) (slots + N') Q (F0 m (pc + 3) ls (.ref q :: rest))) : W p l e R s m args below meth c H locs cells slots Q (F0 m pc ls (.int n :: rest)) := by
  subst hN
  refine W.anewA (t := .int) hexec hb hown hclink hover rfl hdg rfl hn hbytes hcells hslots fun cA kA' comp f1 f2 f3 f4 => ?_
  have hcc : cA = cP := Option.some.inj (f1.symm.trans hRP)
  subst hcc
  generalize hH1 : H.push ({ cls := cA, slots := Array.replicate n.toNatClampNeg .null, vm := .none } : Cell) = H1
  have z1 : H1.size = H.size + 1 := by rw [← hH1, Array.size_push]
  have e1 : H1[H.size]? = some (arrV cA n.toNatClampNeg (fun _ => .null)) := by rw [← hH1, Array.getElem?_push_size, ← arrV_new]
  have o1 : ∀ q : Nat, q < H.size → H1[q]? = H[q]? := fun q hq => by rw [← hH1, Array.getElem?_push, if_neg (Nat.ne_of_lt hq)]
  have hk : ∀ (k : Nat) (x : Nat × va_E), ws[k]? = some x → H1[x.1]? = H[x.1]? := fun k x hx => o1 x.1 ((hP k x hx).lt)
  refine kk H.size H1 ((hP.kept hk).app (fun k x hx => ?_)) (hD.push hP rfl (hA.1 _ hS.1)) ⟨Nat.le_trans hS.1 (by omega), fun x h1 h2 => (o1 x (Nat.lt_of_lt_of_le h1 hS.1)).trans (hS.2.1 x h1 h2), hS.2.2⟩
  have hz : k < 1 := (List.getElem?_eq_some_iff.mp hx).1
  rw [show k = 0 by omega] at hx
  cases hx
  show H1[H.size]? = some (vp_cell _ _)
  rw [vp_cell_q]
  exact e1
end KN
theorem lwX0_init_0 : Cond.methodLink RX0 3 objectInit ∈ wsX0_init := by decide +kernel
theorem lwX0_init_1 : Cond.instanceMethod objectInit ∈ wsX0_init := by decide +kernel
theorem lwX0_init_2 : Cond.code objectInit ⟨#[0xb1]⟩ 1 none ∈ wsX0_init := by decide +kernel
set_option maxHeartbeats 4000000 in
set_option maxRecDepth 100000 in
theorem kX0_init (l : Launch) (G : va_G) (cI cB cP : ClassId) (aEf : Nat) (sz : Nat) : kMc (S := Unit) l yX0_init wsX0_init ({ frames := 1, cells := 0, slots := 0, locals := 12 }) [.ref aEf] G (kTY cI cB cP) sz [(aEf, .inr (0, [.int 0, .int 0, .int 0, .int 0, .int 0, .int 0, .int 0, .int 0, .long 0, .int 0, .int 0]))] (fun _ => True) (fun u => [(aEf, .inr (0, [.int 0, .int 0, .int 0, .int 0, .int 0, .int 0, .int 0, .int 0, .long 0, .int 0, .int 0]))]) := by
  refine k_ofc (cc := cX0_init) (maxL := 1) (by decide) rfl (Nat.le_of_ble_eq_true rfl) ?_
  intro p e s m args below meth c A ls Q H locs hx hb hml hown hts hin hK hP hD hA hS hl hNw hret
  have hown : s.vm.findClass RX0 = some m.cls := hown
  have hin : meth.name = "<init>" := hin
  have hl : lv_has ls 1 [(0, .ref aEf)] := hl
  refine lv_aload_n hx hb dX0_init_0 rfl (lv_at hl 0 rfl) ?_
  refine W.objInit hx hb hown (hts _ lwX0_init_0) (hts _ lwX0_init_1) (hts _ lwX0_init_2) rfl (by rw [hml]; exact hl.1) rfl dX0_init_1 (Nat.le_of_ble_eq_true rfl) (Nat.le_of_ble_eq_true rfl) ?_
  refine W.eq (g2 := F0 m 4 ls []) rfl ?_
  exact hret H locs _ ls () dX0_init_4 trivial hP hD hS
theorem lwX3_init_0 : Cond.methodLink RX3 3 objectInit ∈ wsX3_init := by decide +kernel
theorem lwX3_init_1 : Cond.instanceMethod objectInit ∈ wsX3_init := by decide +kernel
theorem lwX3_init_2 : Cond.code objectInit ⟨#[0xb1]⟩ 1 none ∈ wsX3_init := by decide +kernel
set_option maxHeartbeats 4000000 in
set_option maxRecDepth 100000 in
theorem kX3_init (l : Launch) (G : va_G) (cI cB cP : ClassId) (aIn : Nat) (sz : Nat) : kMc (S := Unit) l yX3_init wsX3_init ({ frames := 1, cells := 0, slots := 0, locals := 12 }) [.ref aIn] G (kTY cI cB cP) sz [(aIn, .inr (3, [.int 0, .int 0, .int 0, .int 0, .int 0, .int 0, .int 0, .int 0]))] (fun _ => True) (fun u => [(aIn, .inr (3, [.int 0, .int 0, .int 0, .int 0, .int 0, .int 0, .int 0, .int 0]))]) := by
  refine k_ofc (cc := cX3_init) (maxL := 1) (by decide) rfl (Nat.le_of_ble_eq_true rfl) ?_
  intro p e s m args below meth c A ls Q H locs hx hb hml hown hts hin hK hP hD hA hS hl hNw hret
  have hown : s.vm.findClass RX3 = some m.cls := hown
  have hin : meth.name = "<init>" := hin
  have hl : lv_has ls 1 [(0, .ref aIn)] := hl
  refine lv_aload_n hx hb dX3_init_0 rfl (lv_at hl 0 rfl) ?_
  refine W.objInit hx hb hown (hts _ lwX3_init_0) (hts _ lwX3_init_1) (hts _ lwX3_init_2) rfl (by rw [hml]; exact hl.1) rfl dX3_init_1 (Nat.le_of_ble_eq_true rfl) (Nat.le_of_ble_eq_true rfl) ?_
  refine W.eq (g2 := F0 m 4 ls []) rfl ?_
  exact hret H locs _ ls () dX3_init_4 trivial hP hD hS
theorem lwX6_init_0 : Cond.methodLink RX6 1 objectInit ∈ wsX6_init := by decide +kernel
theorem lwX6_init_1 : Cond.instanceMethod objectInit ∈ wsX6_init := by decide +kernel
theorem lwX6_init_2 : Cond.code objectInit ⟨#[0xb1]⟩ 1 none ∈ wsX6_init := by decide +kernel
theorem lwX6_init_3 : Cond.classLink RX6 9 "[I" ∈ wsX6_init := by decide +kernel
theorem lwX6_init_4 : Cond.fieldLink RX6 11 "TwinIssue$Memory" "pages" "[[I" ∈ wsX6_init := by decide +kernel
theorem iwX6_init_X6 : ∀ w ∈ wsX60, w ∈ wsX6_init := fun _ h => List.mem_cons_of_mem _ (List.mem_append_right _ h)
set_option maxHeartbeats 4000000 in
set_option maxRecDepth 100000 in
theorem kX6_init (l : Launch) (G : va_G) (cI cB cP : ClassId) (aMe : Nat) (sz : Nat) : kMc (S := Nat) l yX6_init wsX6_init ({ frames := 1, cells := 1, slots := 64, locals := 12 }) [.ref aMe] G (kTY cI cB cP) sz [(aMe, .inr (6, [.null]))] (fun _ => True) (fun u => [(aMe, .inr (6, [.ref u])), (u, .inl (cP, 64, .inr (.inr (.inr (.inr (fun _ => none))))))]) := by
  refine k_ofc (cc := cX6_init) (maxL := 1) (by decide) rfl (Nat.le_of_ble_eq_true rfl) ?_
  intro p e s m args below meth c A ls Q H locs hx hb hml hown hts hin hK hP hD hA hS hl hNw hret
  have hown : s.vm.findClass RX6 = some m.cls := hown
  have hin : meth.name = "<init>" := hin
  have hl : lv_has ls 1 [(0, .ref aMe)] := hl
  refine lv_aload_n hx hb dX6_init_0 rfl (lv_at hl 0 rfl) ?_
  refine W.objInit hx hb hown (hts _ lwX6_init_0) (hts _ lwX6_init_1) (hts _ lwX6_init_2) rfl (by rw [hml]; exact hl.1) rfl dX6_init_1 (Nat.le_of_ble_eq_true rfl) (Nat.le_of_ble_eq_true rfl) ?_
  refine W.eq (g2 := F0 m 4 ls []) rfl ?_
  refine lv_aload_n hx hb dX6_init_4 rfl (lv_at hl 0 rfl) ?_
  refine lv_bipush (v := 64) hx hb dX6_init_5 (by decide) ?_
  refine va_newA (cP := cP) (N' := 64) hx hb hown (hts _ lwX6_init_3) hNw.1 (hK.2 2 (cP, .array .int) rfl).2 hP hD hS hA (by decide) (by decide) (by decide) (Nat.le_of_ble_eq_true rfl) (Nat.le_of_ble_eq_true rfl) dX6_init_7 (fun aPg H hP hD hS => ?_)
  have hP : va_P G vwCl [(aMe, .inr (6, [.null])), (aPg, .inl (cP, 64, .inr (.inr (.inr (.inr (fun _ => none))))))] H := hP
  have hD : va_D A [(aMe, .inr (6, [.null])), (aPg, .inl (cP, 64, .inr (.inr (.inr (.inr (fun _ => none))))))] := hD
  refine W.widen (k := 1) (n := 64) (Nat.le_of_ble_eq_true rfl) (Nat.le_of_ble_eq_true rfl) ?_
  refine va_putF (D := G) (ci := 6) (v := .ref aPg) (ty := .array (.array .int)) (C := RX6) (T := TX6) (N := 1) hx hb hts iwX6_init_X6 tyX6 tyX6_ok nmX6 hown hK hP hD hS 0 rfl rfl 0 (by decide) (hts _ lwX6_init_4) (fun _ h9 => h9) rfl hin rfl (by decide +kernel) rfl rfl (Nat.le_of_ble_eq_true rfl) dX6_init_10 (fun H locs hP hD hS => ?_)
  have hP : va_P G vwCl [(aMe, .inr (6, [.ref aPg])), (aPg, .inl (cP, 64, .inr (.inr (.inr (.inr (fun _ => none))))))] H := hP
  have hD : va_D A [(aMe, .inr (6, [.ref aPg])), (aPg, .inl (cP, 64, .inr (.inr (.inr (.inr (fun _ => none))))))] := hD
  exact hret H locs _ ls aPg dX6_init_13 trivial hP hD hS
theorem lwX4_init_0 : Cond.methodLink RX4 1 objectInit ∈ wsX4_init := by decide +kernel
theorem lwX4_init_1 : Cond.instanceMethod objectInit ∈ wsX4_init := by decide +kernel
theorem lwX4_init_2 : Cond.code objectInit ⟨#[0xb1]⟩ 1 none ∈ wsX4_init := by decide +kernel
theorem lwX4_init_3 : Cond.arrayClass .int ∈ wsX4_init := by decide +kernel
theorem lwX4_init_4 : Cond.fieldLink RX4 9 "TwinIssue$Lines" "counts" "[I" ∈ wsX4_init := by decide +kernel
theorem lwX4_init_5 : Cond.fieldLink RX4 13 "TwinIssue$Lines" "values" "[I" ∈ wsX4_init := by decide +kernel
theorem iwX4_init_X4 : ∀ w ∈ wsX40, w ∈ wsX4_init := fun _ h => List.mem_cons_of_mem _ (List.mem_append_right _ h)
set_option maxHeartbeats 4000000 in
set_option maxRecDepth 100000 in
theorem kX4_init (l : Launch) (G : va_G) (cI cB cP : ClassId) (aLi : Nat) (sz : Nat) : kMc (S := Nat × Nat) l yX4_init wsX4_init ({ frames := 1, cells := 2, slots := 64, locals := 12 }) [.ref aLi] G (kTY cI cB cP) sz [(aLi, .inr (4, [.null, .null, .int 0, .int 0]))] (fun _ => True) (fun u => [(aLi, .inr (4, [.ref u.1, .ref u.2, .int 0, .int 0])), (u.1, .inl (cI, 32, .inl (fun _ => 0))), (u.2, .inl (cI, 32, .inl (fun _ => 0)))]) := by
  refine k_ofc (cc := cX4_init) (maxL := 1) (by decide) rfl (Nat.le_of_ble_eq_true rfl) ?_
  intro p e s m args below meth c A ls Q H locs hx hb hml hown hts hin hK hP hD hA hS hl hNw hret
  have hown : s.vm.findClass RX4 = some m.cls := hown
  have hin : meth.name = "<init>" := hin
  have hl : lv_has ls 1 [(0, .ref aLi)] := hl
  refine lv_aload_n hx hb dX4_init_0 rfl (lv_at hl 0 rfl) ?_
  refine W.objInit hx hb hown (hts _ lwX4_init_0) (hts _ lwX4_init_1) (hts _ lwX4_init_2) rfl (by rw [hml]; exact hl.1) rfl dX4_init_1 (Nat.le_of_ble_eq_true rfl) (Nat.le_of_ble_eq_true rfl) ?_
  refine W.eq (g2 := F0 m 4 ls []) rfl ?_
  refine lv_aload_n hx hb dX4_init_4 rfl (lv_at hl 0 rfl) ?_
  refine lv_bipush (v := 32) hx hb dX4_init_5 (by decide) ?_
  refine va_newa (atype := .int) (ty := .int) (a0 := (32, .inl (fun _ => 0))) (N' := 32) hx hb (hts _ lwX4_init_3) rfl hK hP hD hS hA.1 (fun cA => rfl) (by decide) (by decide) (by decide) (Nat.le_of_ble_eq_true rfl) (Nat.le_of_ble_eq_true rfl) dX4_init_7 (fun aCo cA H hK1 hP hD hS => ?_)
  have hcc : cA = cI := Option.some.inj ((va_nm_int (hK1.2 3 (cA, .int) rfl).2).symm.trans (va_nm_int (hK.2 0 (cI, .int) rfl).2))
  rw [hcc] at hP hD
  clear hK1 hcc
  have hP : va_P G vwCl [(aLi, .inr (4, [.null, .null, .int 0, .int 0])), (aCo, .inl (cI, 32, .inl (fun _ => 0)))] H := hP
  have hD : va_D A [(aLi, .inr (4, [.null, .null, .int 0, .int 0])), (aCo, .inl (cI, 32, .inl (fun _ => 0)))] := hD
  refine W.widen (k := 1) (n := 32) (Nat.le_of_ble_eq_true rfl) (Nat.le_of_ble_eq_true rfl) ?_
  refine va_putF (D := G) (ci := 4) (v := .ref aCo) (ty := .array .int) (C := RX4) (T := TX4) (N := 4) hx hb hts iwX4_init_X4 tyX4 tyX4_ok nmX4 hown hK hP hD hS 0 rfl rfl 0 (by decide) (hts _ lwX4_init_4) (fun _ h9 => h9) rfl hin rfl (by decide +kernel) rfl rfl (Nat.le_of_ble_eq_true rfl) dX4_init_9 (fun H locs hP hD hS => ?_)
  have hP : va_P G vwCl [(aLi, .inr (4, [.ref aCo, .null, .int 0, .int 0])), (aCo, .inl (cI, 32, .inl (fun _ => 0)))] H := hP
  have hD : va_D A [(aLi, .inr (4, [.ref aCo, .null, .int 0, .int 0])), (aCo, .inl (cI, 32, .inl (fun _ => 0)))] := hD
  refine lv_aload_n hx hb dX4_init_12 rfl (lv_at hl 0 rfl) ?_
  refine lv_bipush (v := 32) hx hb dX4_init_13 (by decide) ?_
  refine va_newa (atype := .int) (ty := .int) (a0 := (32, .inl (fun _ => 0))) (N' := 32) hx hb (hts _ lwX4_init_3) rfl hK hP hD hS hA.1 (fun cA => rfl) (by decide) (by decide) (by decide) (Nat.le_of_ble_eq_true rfl) (Nat.le_of_ble_eq_true rfl) dX4_init_15 (fun aVa cA H hK1 hP hD hS => ?_)
  have hcc : cA = cI := Option.some.inj ((va_nm_int (hK1.2 3 (cA, .int) rfl).2).symm.trans (va_nm_int (hK.2 0 (cI, .int) rfl).2))
  rw [hcc] at hP hD
  clear hK1 hcc
  have hP : va_P G vwCl [(aLi, .inr (4, [.ref aCo, .null, .int 0, .int 0])), (aCo, .inl (cI, 32, .inl (fun _ => 0))), (aVa, .inl (cI, 32, .inl (fun _ => 0)))] H := hP
  have hD : va_D A [(aLi, .inr (4, [.ref aCo, .null, .int 0, .int 0])), (aCo, .inl (cI, 32, .inl (fun _ => 0))), (aVa, .inl (cI, 32, .inl (fun _ => 0)))] := hD
  refine W.widen (k := 2) (n := 64) (Nat.le_of_ble_eq_true rfl) (Nat.le_of_ble_eq_true rfl) ?_
  refine va_putF (D := G) (ci := 4) (v := .ref aVa) (ty := .array .int) (C := RX4) (T := TX4) (N := 4) hx hb hts iwX4_init_X4 tyX4 tyX4_ok nmX4 hown hK hP hD hS 0 rfl rfl 1 (by decide) (hts _ lwX4_init_5) (fun _ h9 => h9) rfl hin rfl (by decide +kernel) rfl rfl (Nat.le_of_ble_eq_true rfl) dX4_init_17 (fun H locs hP hD hS => ?_)
  have hP : va_P G vwCl [(aLi, .inr (4, [.ref aCo, .ref aVa, .int 0, .int 0])), (aCo, .inl (cI, 32, .inl (fun _ => 0))), (aVa, .inl (cI, 32, .inl (fun _ => 0)))] H := hP
  have hD : va_D A [(aLi, .inr (4, [.ref aCo, .ref aVa, .int 0, .int 0])), (aCo, .inl (cI, 32, .inl (fun _ => 0))), (aVa, .inl (cI, 32, .inl (fun _ => 0)))] := hD
  exact hret H locs _ ls (aCo, aVa) dX4_init_20 trivial hP hD hS
theorem lwX5_init_0 : Cond.methodLink RX5 5 objectInit ∈ wsX5_init := by decide +kernel
theorem lwX5_init_1 : Cond.instanceMethod objectInit ∈ wsX5_init := by decide +kernel
theorem lwX5_init_2 : Cond.code objectInit ⟨#[0xb1]⟩ 1 none ∈ wsX5_init := by decide +kernel
theorem lwX5_init_3 : Cond.arrayClass .int ∈ wsX5_init := by decide +kernel
theorem lwX5_init_4 : Cond.fieldLink RX5 11 "TwinIssue$Maps" "words" "[I" ∈ wsX5_init := by decide +kernel
theorem lwX5_init_5 : Cond.fieldLink RX5 15 "TwinIssue$Maps" "sets" "I" ∈ wsX5_init := by decide +kernel
theorem iwX5_init_X5 : ∀ w ∈ wsX50, w ∈ wsX5_init := fun _ h => List.mem_cons_of_mem _ (List.mem_append_right _ h)
set_option maxHeartbeats 4000000 in
set_option maxRecDepth 100000 in
theorem kX5_init (l : Launch) (G : va_G) (cI cB cP : ClassId) (aMp : Nat) (sz : Nat) (p0 : Int32) : kMc (S := Nat) l yX5_init wsX5_init ({ frames := 1, cells := 1, slots := 512, locals := 12 }) [.ref aMp, .int p0] G (kTY cI cB cP) sz [(aMp, .inr (5, [.null, .int 0]))] (fun _ => True) (fun u => [(aMp, .inr (5, [.ref u, .int p0])), (u, .inl (cI, 512, .inl (fun _ => 0)))]) := by
  refine k_ofc (cc := cX5_init) (maxL := 2) (by decide) rfl (Nat.le_of_ble_eq_true rfl) ?_
  intro p e s m args below meth c A ls Q H locs hx hb hml hown hts hin hK hP hD hA hS hl hNw hret
  have hown : s.vm.findClass RX5 = some m.cls := hown
  have hin : meth.name = "<init>" := hin
  have hl : lv_has ls 2 [(0, .ref aMp), (1, .int p0)] := hl
  refine lv_aload_n hx hb dX5_init_0 rfl (lv_at hl 0 rfl) ?_
  refine W.objInit hx hb hown (hts _ lwX5_init_0) (hts _ lwX5_init_1) (hts _ lwX5_init_2) rfl (by rw [hml]; exact hl.1) rfl dX5_init_1 (Nat.le_of_ble_eq_true rfl) (Nat.le_of_ble_eq_true rfl) ?_
  refine W.eq (g2 := F0 m 4 ls []) rfl ?_
  refine lv_aload_n hx hb dX5_init_4 rfl (lv_at hl 0 rfl) ?_
  refine lv_sipush (v := 512) hx hb dX5_init_5 (by decide) ?_
  refine va_newa (atype := .int) (ty := .int) (a0 := (512, .inl (fun _ => 0))) (N' := 512) hx hb (hts _ lwX5_init_3) rfl hK hP hD hS hA.1 (fun cA => rfl) (by decide) (by decide) (by decide) (Nat.le_of_ble_eq_true rfl) (Nat.le_of_ble_eq_true rfl) dX5_init_8 (fun aWo cA H hK1 hP hD hS => ?_)
  have hcc : cA = cI := Option.some.inj ((va_nm_int (hK1.2 3 (cA, .int) rfl).2).symm.trans (va_nm_int (hK.2 0 (cI, .int) rfl).2))
  rw [hcc] at hP hD
  clear hK1 hcc
  have hP : va_P G vwCl [(aMp, .inr (5, [.null, .int 0])), (aWo, .inl (cI, 512, .inl (fun _ => 0)))] H := hP
  have hD : va_D A [(aMp, .inr (5, [.null, .int 0])), (aWo, .inl (cI, 512, .inl (fun _ => 0)))] := hD
  refine W.widen (k := 1) (n := 512) (Nat.le_of_ble_eq_true rfl) (Nat.le_of_ble_eq_true rfl) ?_
  refine va_putF (D := G) (ci := 5) (v := .ref aWo) (ty := .array .int) (C := RX5) (T := TX5) (N := 2) hx hb hts iwX5_init_X5 tyX5 tyX5_ok nmX5 hown hK hP hD hS 0 rfl rfl 0 (by decide) (hts _ lwX5_init_4) (fun _ h9 => h9) rfl hin rfl (by decide +kernel) rfl rfl (Nat.le_of_ble_eq_true rfl) dX5_init_10 (fun H locs hP hD hS => ?_)
  have hP : va_P G vwCl [(aMp, .inr (5, [.ref aWo, .int 0])), (aWo, .inl (cI, 512, .inl (fun _ => 0)))] H := hP
  have hD : va_D A [(aMp, .inr (5, [.ref aWo, .int 0])), (aWo, .inl (cI, 512, .inl (fun _ => 0)))] := hD
  refine lv_aload_n hx hb dX5_init_13 rfl (lv_at hl 0 rfl) ?_
  refine lv_iload_n hx hb dX5_init_14 rfl (lv_at hl 1 rfl) ?_
  refine va_putF (D := G) (ci := 5) (v := .int p0) (ty := .int) (C := RX5) (T := TX5) (N := 2) hx hb hts iwX5_init_X5 tyX5 tyX5_ok nmX5 hown hK hP hD hS 0 rfl rfl 1 (by decide) (hts _ lwX5_init_5) (fun _ h9 => h9) rfl hin rfl (by decide +kernel) rfl rfl (Nat.le_of_ble_eq_true rfl) dX5_init_15 (fun H locs hP hD hS => ?_)
  have hP : va_P G vwCl [(aMp, .inr (5, [.ref aWo, .int p0])), (aWo, .inl (cI, 512, .inl (fun _ => 0)))] H := hP
  have hD : va_D A [(aMp, .inr (5, [.ref aWo, .int p0])), (aWo, .inl (cI, 512, .inl (fun _ => 0)))] := hD
  exact hret H locs _ ls aWo dX5_init_18 trivial hP hD hS
theorem lwX8_init_0 : Cond.methodLink RX8 3 objectInit ∈ wsX8_init := by decide +kernel
theorem lwX8_init_1 : Cond.instanceMethod objectInit ∈ wsX8_init := by decide +kernel
theorem lwX8_init_2 : Cond.code objectInit ⟨#[0xb1]⟩ 1 none ∈ wsX8_init := by decide +kernel
theorem lwX8_init_3 : Cond.classLink RX8 9 RX4 ∈ wsX8_init := by decide +kernel
theorem lwX8_init_4 : Cond.instantiable RX4 4 ∈ wsX8_init := by decide +kernel
theorem lwX8_init_5 : Cond.initialized RX4 ∈ wsX8_init := by decide +kernel
theorem lwX8_init_6 : Cond.instanceMethod yX4_init ∈ wsX8_init := by decide +kernel
theorem lwX8_init_7 : Cond.fieldLink RX8 12 "TwinIssue$Specials" "lines" "LTwinIssue$Lines;" ∈ wsX8_init := by decide +kernel
theorem lwX8_init_8 : Cond.fieldLink RX8 18 "TwinIssue$Specials" "sr" "I" ∈ wsX8_init := by decide +kernel
theorem lwX8_init_9 : Cond.classLink RX8 22 RX5 ∈ wsX8_init := by decide +kernel
theorem lwX8_init_10 : Cond.instantiable RX5 2 ∈ wsX8_init := by decide +kernel
theorem lwX8_init_11 : Cond.initialized RX5 ∈ wsX8_init := by decide +kernel
theorem lwX8_init_12 : Cond.methodLink RX8 24 yX5_init ∈ wsX8_init := by decide +kernel
theorem lwX8_init_13 : Cond.instanceMethod yX5_init ∈ wsX8_init := by decide +kernel
theorem lwX8_init_14 : Cond.fieldLink RX8 27 "TwinIssue$Specials" "maps" "LTwinIssue$Maps;" ∈ wsX8_init := by decide +kernel
theorem iwX8_init_X4 : ∀ w ∈ wsX40, w ∈ wsX8_init := fun _ h => List.mem_cons_of_mem _ (List.mem_append_left _ (List.mem_append_left _ (List.mem_append_right _ h)))
theorem iwX8_init_X5 : ∀ w ∈ wsX50, w ∈ wsX8_init := fun _ h => List.mem_cons_of_mem _ (List.mem_append_right _ h)
theorem iwX8_init_X8 : ∀ w ∈ wsX80, w ∈ wsX8_init := fun _ h => List.mem_cons_of_mem _ (List.mem_append_left _ (List.mem_append_right _ h))
set_option maxHeartbeats 4000000 in
set_option maxRecDepth 100000 in
theorem kX8_init (l : Launch) (G : va_G) (cI cB cP : ClassId) (aSp : Nat) (sz : Nat) (p0 : Int32) : kMc (S := Nat × Nat × Nat × Nat × Nat) l yX8_init wsX8_init ({ frames := 2, cells := 5, slots := 582, locals := 33 }) [.ref aSp, .int p0] G (kTY cI cB cP) sz [(aSp, .inr (8, [.null, .null, .int 0, .int 0, .int 0, .int 0, .int 0, .long 0, .int 0, .int 0, .int 0, .int 0, .int 0]))] (fun _ => True) (fun u => [(aSp, .inr (8, [.ref u.2.2.2.1, .ref u.1, .int 1, .int 0, .int 0, .int 0, .int 0, .long 0, .int 0, .int 0, .int 0, .int 0, .int 0])), (u.2.2.2.1, .inr (5, [.ref u.2.2.2.2, .int p0])), (u.1, .inr (4, [.ref u.2.1, .ref u.2.2.1, .int 0, .int 0])), (u.2.2.2.2, .inl (cI, 512, .inl (fun _ => 0))), (u.2.1, .inl (cI, 32, .inl (fun _ => 0))), (u.2.2.1, .inl (cI, 32, .inl (fun _ => 0)))]) := by
  refine k_ofc (cc := cX8_init) (maxL := 2) (by decide) rfl (Nat.le_of_ble_eq_true rfl) ?_
  intro p e s m args below meth c A ls Q H locs hx hb hml hown hts hin hK hP hD hA hS hl hNw hret
  have hown : s.vm.findClass RX8 = some m.cls := hown
  have hin : meth.name = "<init>" := hin
  have hl : lv_has ls 2 [(0, .ref aSp), (1, .int p0)] := hl
  refine lv_aload_n hx hb dX8_init_0 rfl (lv_at hl 0 rfl) ?_
  refine W.objInit hx hb hown (hts _ lwX8_init_0) (hts _ lwX8_init_1) (hts _ lwX8_init_2) rfl (by rw [hml]; exact hl.1) rfl dX8_init_1 (Nat.le_of_ble_eq_true rfl) (Nat.le_of_ble_eq_true rfl) ?_
  refine W.eq (g2 := F0 m 4 ls []) rfl ?_
  refine lv_aload_n hx hb dX8_init_4 rfl (lv_at hl 0 rfl) ?_
  refine va_new (ci := 4) (fs := [.null, .null, .int 0, .int 0]) (C := RX4) (T := TX4) (N := 4) hx hb hts iwX8_init_X4 tyX4 tyX4_ok hown (hts _ lwX8_init_3) (hts _ lwX8_init_4) (hts _ lwX8_init_5) hK hP hD hS hA.1 rfl (fun j hj => by rcases (show j = 0 ∨ j = 1 ∨ j = 2 ∨ j = 3 by omega) with rfl | rfl | rfl | rfl <;> rfl) (Nat.le_of_ble_eq_true rfl) (Nat.le_of_ble_eq_true rfl) dX8_init_5 (fun aLi H hP hD hS => ?_)
  have hP : va_P G vwCl [(aSp, .inr (8, [.null, .null, .int 0, .int 0, .int 0, .int 0, .int 0, .long 0, .int 0, .int 0, .int 0, .int 0, .int 0])), (aLi, .inr (4, [.null, .null, .int 0, .int 0]))] H := hP
  have hD : va_D A [(aSp, .inr (8, [.null, .null, .int 0, .int 0, .int 0, .int 0, .int 0, .long 0, .int 0, .int 0, .int 0, .int 0, .int 0])), (aLi, .inr (4, [.null, .null, .int 0, .int 0]))] := hD
  refine W.widen (k := 1) (n := 4) (Nat.le_of_ble_eq_true rfl) (Nat.le_of_ble_eq_true rfl) ?_
  refine lv_dup hx hb dX8_init_8 rfl ?_
  refine k_cIN (As := []) (rest := [.ref aLi, .ref aSp]) (wc := [(aLi, .inr (4, [.null, .null, .int 0, .int 0]))]) (wr := [(aSp, .inr (8, [.null, .null, .int 0, .int 0, .int 0, .int 0, .int 0, .long 0, .int 0, .int 0, .int 0, .int 0, .int 0]))]) ⟨hx, hb, hml, hown, hts⟩ hK hP hD hS hA hNw [1] [0] rfl rfl rfl rfl (by decide) (kX4_init l G cI cB cP aLi H.size) ⟨va_cnB 0 hts gX8_init_X4_init_n11 rfl rfl rfl hNw.2.2.2.2.2.2 (hts _ lwX8_init_5) (by decide +kernel) ⟨Nat.le_of_ble_eq_true rfl, Nat.le_of_ble_eq_true rfl⟩, rfl, (hts _ lwX8_init_6)⟩ rfl hl.1 rfl (Nat.le_of_ble_eq_true rfl) dX8_init_9 ⟨Nat.le_of_ble_eq_true rfl, Nat.le_of_ble_eq_true rfl⟩ (fun u9 H locs hEu9 hP hD hS => ?_)
  obtain ⟨aCo, aVa⟩ := u9
  have hP : va_P G vwCl [(aSp, .inr (8, [.null, .null, .int 0, .int 0, .int 0, .int 0, .int 0, .long 0, .int 0, .int 0, .int 0, .int 0, .int 0])), (aLi, .inr (4, [.ref aCo, .ref aVa, .int 0, .int 0])), (aCo, .inl (cI, 32, .inl (fun _ => 0))), (aVa, .inl (cI, 32, .inl (fun _ => 0)))] H := hP
  have hD : va_D A [(aSp, .inr (8, [.null, .null, .int 0, .int 0, .int 0, .int 0, .int 0, .long 0, .int 0, .int 0, .int 0, .int 0, .int 0])), (aLi, .inr (4, [.ref aCo, .ref aVa, .int 0, .int 0])), (aCo, .inl (cI, 32, .inl (fun _ => 0))), (aVa, .inl (cI, 32, .inl (fun _ => 0)))] := hD
  refine W.widen (k := 3) (n := 68) (Nat.le_of_ble_eq_true rfl) (Nat.le_of_ble_eq_true rfl) ?_
  refine va_putF (D := G) (ci := 8) (v := .ref aLi) (ty := .object "TwinIssue$Lines") (C := RX8) (T := TX8) (N := 13) hx hb hts iwX8_init_X8 tyX8 tyX8_ok nmX8 hown hK hP hD hS 0 rfl rfl 1 (by decide) (hts _ lwX8_init_7) (fun _ h9 => h9) rfl hin rfl (by decide +kernel) rfl rfl (Nat.le_of_ble_eq_true rfl) dX8_init_12 (fun H locs hP hD hS => ?_)
  have hP : va_P G vwCl [(aSp, .inr (8, [.null, .ref aLi, .int 0, .int 0, .int 0, .int 0, .int 0, .long 0, .int 0, .int 0, .int 0, .int 0, .int 0])), (aLi, .inr (4, [.ref aCo, .ref aVa, .int 0, .int 0])), (aCo, .inl (cI, 32, .inl (fun _ => 0))), (aVa, .inl (cI, 32, .inl (fun _ => 0)))] H := hP
  have hD : va_D A [(aSp, .inr (8, [.null, .ref aLi, .int 0, .int 0, .int 0, .int 0, .int 0, .long 0, .int 0, .int 0, .int 0, .int 0, .int 0])), (aLi, .inr (4, [.ref aCo, .ref aVa, .int 0, .int 0])), (aCo, .inl (cI, 32, .inl (fun _ => 0))), (aVa, .inl (cI, 32, .inl (fun _ => 0)))] := hD
  refine lv_aload_n hx hb dX8_init_15 rfl (lv_at hl 0 rfl) ?_
  refine lv_iconst (v := 1) hx hb dX8_init_16 (by decide) ?_
  refine va_put (D := G) (ci := 8) (v := .int 1) (ty := .int) (C := RX8) (T := TX8) (N := 13) hx hb hts iwX8_init_X8 tyX8 tyX8_ok nmX8 hown hK hP hD hS 0 rfl rfl 2 (by decide) (hts _ lwX8_init_8) (fun _ h9 => h9) rfl (by decide +kernel) rfl rfl (Nat.le_of_ble_eq_true rfl) dX8_init_17 (fun H locs hP hD hS => ?_)
  have hP : va_P G vwCl [(aSp, .inr (8, [.null, .ref aLi, .int 1, .int 0, .int 0, .int 0, .int 0, .long 0, .int 0, .int 0, .int 0, .int 0, .int 0])), (aLi, .inr (4, [.ref aCo, .ref aVa, .int 0, .int 0])), (aCo, .inl (cI, 32, .inl (fun _ => 0))), (aVa, .inl (cI, 32, .inl (fun _ => 0)))] H := hP
  have hD : va_D A [(aSp, .inr (8, [.null, .ref aLi, .int 1, .int 0, .int 0, .int 0, .int 0, .long 0, .int 0, .int 0, .int 0, .int 0, .int 0])), (aLi, .inr (4, [.ref aCo, .ref aVa, .int 0, .int 0])), (aCo, .inl (cI, 32, .inl (fun _ => 0))), (aVa, .inl (cI, 32, .inl (fun _ => 0)))] := hD
  refine lv_aload_n hx hb dX8_init_20 rfl (lv_at hl 0 rfl) ?_
  refine va_new (ci := 5) (fs := [.null, .int 0]) (C := RX5) (T := TX5) (N := 2) hx hb hts iwX8_init_X5 tyX5 tyX5_ok hown (hts _ lwX8_init_9) (hts _ lwX8_init_10) (hts _ lwX8_init_11) hK hP hD hS hA.1 rfl (fun j hj => by rcases (show j = 0 ∨ j = 1 by omega) with rfl | rfl <;> rfl) (Nat.le_of_ble_eq_true rfl) (Nat.le_of_ble_eq_true rfl) dX8_init_21 (fun aMp H hP hD hS => ?_)
  have hP : va_P G vwCl [(aSp, .inr (8, [.null, .ref aLi, .int 1, .int 0, .int 0, .int 0, .int 0, .long 0, .int 0, .int 0, .int 0, .int 0, .int 0])), (aLi, .inr (4, [.ref aCo, .ref aVa, .int 0, .int 0])), (aCo, .inl (cI, 32, .inl (fun _ => 0))), (aVa, .inl (cI, 32, .inl (fun _ => 0))), (aMp, .inr (5, [.null, .int 0]))] H := hP
  have hD : va_D A [(aSp, .inr (8, [.null, .ref aLi, .int 1, .int 0, .int 0, .int 0, .int 0, .long 0, .int 0, .int 0, .int 0, .int 0, .int 0])), (aLi, .inr (4, [.ref aCo, .ref aVa, .int 0, .int 0])), (aCo, .inl (cI, 32, .inl (fun _ => 0))), (aVa, .inl (cI, 32, .inl (fun _ => 0))), (aMp, .inr (5, [.null, .int 0]))] := hD
  refine W.widen (k := 4) (n := 70) (Nat.le_of_ble_eq_true rfl) (Nat.le_of_ble_eq_true rfl) ?_
  refine lv_dup hx hb dX8_init_24 rfl ?_
  refine lv_iload_n hx hb dX8_init_25 rfl (lv_at hl 1 rfl) ?_
  refine k_cI (As := [.int p0]) (rest := [.ref aMp, .ref aSp]) (wc := [(aMp, .inr (5, [.null, .int 0]))]) (wr := [(aSp, .inr (8, [.null, .ref aLi, .int 1, .int 0, .int 0, .int 0, .int 0, .long 0, .int 0, .int 0, .int 0, .int 0, .int 0])), (aLi, .inr (4, [.ref aCo, .ref aVa, .int 0, .int 0])), (aCo, .inl (cI, 32, .inl (fun _ => 0))), (aVa, .inl (cI, 32, .inl (fun _ => 0)))]) ⟨hx, hb, hml, hown, hts⟩ hK hP hD hS hA hNw [4] [0, 1, 2, 3] rfl rfl rfl rfl (by decide) (kX5_init l G cI cB cP aMp H.size p0) (cwI 1 hts gX8_init_X5_init rfl rfl rfl (hts _ lwX8_init_11) (hts _ lwX8_init_12) (hts _ lwX8_init_13) rfl (by decide +kernel) ⟨Nat.le_of_ble_eq_true rfl, Nat.le_of_ble_eq_true rfl⟩) rfl hl.1 rfl (Nat.le_of_ble_eq_true rfl) dX8_init_26 ⟨Nat.le_of_ble_eq_true rfl, Nat.le_of_ble_eq_true rfl⟩ (fun u26 H locs hEu26 hP hD hS => ?_)
  obtain ⟨aWo, hu26⟩ : ∃ v, v = u26 := ⟨_, rfl⟩
  subst hu26
  have hP : va_P G vwCl [(aSp, .inr (8, [.null, .ref aLi, .int 1, .int 0, .int 0, .int 0, .int 0, .long 0, .int 0, .int 0, .int 0, .int 0, .int 0])), (aLi, .inr (4, [.ref aCo, .ref aVa, .int 0, .int 0])), (aCo, .inl (cI, 32, .inl (fun _ => 0))), (aVa, .inl (cI, 32, .inl (fun _ => 0))), (aMp, .inr (5, [.ref aWo, .int p0])), (aWo, .inl (cI, 512, .inl (fun _ => 0)))] H := hP
  have hD : va_D A [(aSp, .inr (8, [.null, .ref aLi, .int 1, .int 0, .int 0, .int 0, .int 0, .long 0, .int 0, .int 0, .int 0, .int 0, .int 0])), (aLi, .inr (4, [.ref aCo, .ref aVa, .int 0, .int 0])), (aCo, .inl (cI, 32, .inl (fun _ => 0))), (aVa, .inl (cI, 32, .inl (fun _ => 0))), (aMp, .inr (5, [.ref aWo, .int p0])), (aWo, .inl (cI, 512, .inl (fun _ => 0)))] := hD
  refine W.widen (k := 5) (n := 582) (Nat.le_of_ble_eq_true rfl) (Nat.le_of_ble_eq_true rfl) ?_
  refine va_putF (D := G) (ci := 8) (v := .ref aMp) (ty := .object "TwinIssue$Maps") (C := RX8) (T := TX8) (N := 13) hx hb hts iwX8_init_X8 tyX8 tyX8_ok nmX8 hown hK hP hD hS 0 rfl rfl 0 (by decide) (hts _ lwX8_init_14) (fun _ h9 => h9) rfl hin rfl (by decide +kernel) rfl rfl (Nat.le_of_ble_eq_true rfl) dX8_init_29 (fun H locs hP hD hS => ?_)
  have hP : va_P G vwCl [(aSp, .inr (8, [.ref aMp, .ref aLi, .int 1, .int 0, .int 0, .int 0, .int 0, .long 0, .int 0, .int 0, .int 0, .int 0, .int 0])), (aLi, .inr (4, [.ref aCo, .ref aVa, .int 0, .int 0])), (aCo, .inl (cI, 32, .inl (fun _ => 0))), (aVa, .inl (cI, 32, .inl (fun _ => 0))), (aMp, .inr (5, [.ref aWo, .int p0])), (aWo, .inl (cI, 512, .inl (fun _ => 0)))] H := hP
  have hD : va_D A [(aSp, .inr (8, [.ref aMp, .ref aLi, .int 1, .int 0, .int 0, .int 0, .int 0, .long 0, .int 0, .int 0, .int 0, .int 0, .int 0])), (aLi, .inr (4, [.ref aCo, .ref aVa, .int 0, .int 0])), (aCo, .inl (cI, 32, .inl (fun _ => 0))), (aVa, .inl (cI, 32, .inl (fun _ => 0))), (aMp, .inr (5, [.ref aWo, .int p0])), (aWo, .inl (cI, 512, .inl (fun _ => 0)))] := hD
  have hP := hP.sub (ws' := [(aSp, .inr (8, [.ref aMp, .ref aLi, .int 1, .int 0, .int 0, .int 0, .int 0, .long 0, .int 0, .int 0, .int 0, .int 0, .int 0])), (aMp, .inr (5, [.ref aWo, .int p0])), (aLi, .inr (4, [.ref aCo, .ref aVa, .int 0, .int 0])), (aWo, .inl (cI, 512, .inl (fun _ => 0))), (aCo, .inl (cI, 32, .inl (fun _ => 0))), (aVa, .inl (cI, 32, .inl (fun _ => 0)))]) [0, 4, 1, 5, 2, 3] rfl
  have hD := hD.sub (ws' := [(aSp, .inr (8, [.ref aMp, .ref aLi, .int 1, .int 0, .int 0, .int 0, .int 0, .long 0, .int 0, .int 0, .int 0, .int 0, .int 0])), (aMp, .inr (5, [.ref aWo, .int p0])), (aLi, .inr (4, [.ref aCo, .ref aVa, .int 0, .int 0])), (aWo, .inl (cI, 512, .inl (fun _ => 0))), (aCo, .inl (cI, 32, .inl (fun _ => 0))), (aVa, .inl (cI, 32, .inl (fun _ => 0)))]) [0, 4, 1, 5, 2, 3] (by decide) rfl
  exact hret H locs _ ls (aLi, aCo, aVa, aMp, aWo) dX8_init_32 trivial hP hD hS
theorem lwX9_init_0 : Cond.methodLink RX9 3 objectInit ∈ wsX9_init := by decide +kernel
theorem lwX9_init_1 : Cond.instanceMethod objectInit ∈ wsX9_init := by decide +kernel
theorem lwX9_init_2 : Cond.code objectInit ⟨#[0xb1]⟩ 1 none ∈ wsX9_init := by decide +kernel
theorem lwX9_init_3 : Cond.arrayClass .int ∈ wsX9_init := by decide +kernel
theorem lwX9_init_4 : Cond.fieldLink RX9 9 "TwinIssue$State" "registers" "[I" ∈ wsX9_init := by decide +kernel
theorem lwX9_init_5 : Cond.fieldLink RX9 15 "TwinIssue$State" "pc" "I" ∈ wsX9_init := by decide +kernel
theorem lwX9_init_6 : Cond.classLink RX9 19 RX8 ∈ wsX9_init := by decide +kernel
theorem lwX9_init_7 : Cond.instantiable RX8 13 ∈ wsX9_init := by decide +kernel
theorem lwX9_init_8 : Cond.initialized RX8 ∈ wsX9_init := by decide +kernel
theorem lwX9_init_9 : Cond.methodLink RX9 21 yX8_init ∈ wsX9_init := by decide +kernel
theorem lwX9_init_10 : Cond.instanceMethod yX8_init ∈ wsX9_init := by decide +kernel
theorem lwX9_init_11 : Cond.fieldLink RX9 24 "TwinIssue$State" "specials" "LTwinIssue$Specials;" ∈ wsX9_init := by decide +kernel
theorem iwX9_init_X8 : ∀ w ∈ wsX80, w ∈ wsX9_init := fun _ h => List.mem_cons_of_mem _ (List.mem_append_left _ (List.mem_append_left _ (List.mem_append_right _ h)))
theorem iwX9_init_X9 : ∀ w ∈ wsX90, w ∈ wsX9_init := fun _ h => List.mem_cons_of_mem _ (List.mem_append_left _ (List.mem_append_left _ (List.mem_append_left _ (List.mem_append_right _ h))))
set_option maxHeartbeats 4000000 in
set_option maxRecDepth 100000 in
theorem kX9_init (l : Launch) (G : va_G) (cI cB cP : ClassId) (aSt : Nat) (sz : Nat) (p0 : Int32) : kMc (S := Nat × Nat × Nat × Nat × Nat × Nat × Nat) l yX9_init wsX9_init ({ frames := 3, cells := 7, slots := 627, locals := 54 }) [.ref aSt, .int p0] G (kTY cI cB cP) sz [(aSt, .inr (9, [.null, .null, .int 0, .int 0, .int 0, .int 0]))] (fun _ => True) (fun u => [(aSt, .inr (9, [.ref u.1, .ref u.2.1, .int 256, .int 0, .int 0, .int 0])), (u.2.1, .inr (8, [.ref u.2.2.2.2.2.1, .ref u.2.2.1, .int 1, .int 0, .int 0, .int 0, .int 0, .long 0, .int 0, .int 0, .int 0, .int 0, .int 0])), (u.2.2.2.2.2.1, .inr (5, [.ref u.2.2.2.2.2.2, .int p0])), (u.2.2.1, .inr (4, [.ref u.2.2.2.1, .ref u.2.2.2.2.1, .int 0, .int 0])), (u.1, .inl (cI, 32, .inl (fun _ => 0))), (u.2.2.2.2.2.2, .inl (cI, 512, .inl (fun _ => 0))), (u.2.2.2.1, .inl (cI, 32, .inl (fun _ => 0))), (u.2.2.2.2.1, .inl (cI, 32, .inl (fun _ => 0)))]) := by
  refine k_ofc (cc := cX9_init) (maxL := 2) (by decide) rfl (Nat.le_of_ble_eq_true rfl) ?_
  intro p e s m args below meth c A ls Q H locs hx hb hml hown hts hin hK hP hD hA hS hl hNw hret
  have hown : s.vm.findClass RX9 = some m.cls := hown
  have hin : meth.name = "<init>" := hin
  have hl : lv_has ls 2 [(0, .ref aSt), (1, .int p0)] := hl
  refine lv_aload_n hx hb dX9_init_0 rfl (lv_at hl 0 rfl) ?_
  refine W.objInit hx hb hown (hts _ lwX9_init_0) (hts _ lwX9_init_1) (hts _ lwX9_init_2) rfl (by rw [hml]; exact hl.1) rfl dX9_init_1 (Nat.le_of_ble_eq_true rfl) (Nat.le_of_ble_eq_true rfl) ?_
  refine W.eq (g2 := F0 m 4 ls []) rfl ?_
  refine lv_aload_n hx hb dX9_init_4 rfl (lv_at hl 0 rfl) ?_
  refine lv_bipush (v := 32) hx hb dX9_init_5 (by decide) ?_
  refine va_newa (atype := .int) (ty := .int) (a0 := (32, .inl (fun _ => 0))) (N' := 32) hx hb (hts _ lwX9_init_3) rfl hK hP hD hS hA.1 (fun cA => rfl) (by decide) (by decide) (by decide) (Nat.le_of_ble_eq_true rfl) (Nat.le_of_ble_eq_true rfl) dX9_init_7 (fun aRg cA H hK1 hP hD hS => ?_)
  have hcc : cA = cI := Option.some.inj ((va_nm_int (hK1.2 3 (cA, .int) rfl).2).symm.trans (va_nm_int (hK.2 0 (cI, .int) rfl).2))
  rw [hcc] at hP hD
  clear hK1 hcc
  have hP : va_P G vwCl [(aSt, .inr (9, [.null, .null, .int 0, .int 0, .int 0, .int 0])), (aRg, .inl (cI, 32, .inl (fun _ => 0)))] H := hP
  have hD : va_D A [(aSt, .inr (9, [.null, .null, .int 0, .int 0, .int 0, .int 0])), (aRg, .inl (cI, 32, .inl (fun _ => 0)))] := hD
  refine W.widen (k := 1) (n := 32) (Nat.le_of_ble_eq_true rfl) (Nat.le_of_ble_eq_true rfl) ?_
  refine va_putF (D := G) (ci := 9) (v := .ref aRg) (ty := .array .int) (C := RX9) (T := TX9) (N := 6) hx hb hts iwX9_init_X9 tyX9 tyX9_ok nmX9 hown hK hP hD hS 0 rfl rfl 0 (by decide) (hts _ lwX9_init_4) (fun _ h9 => h9) rfl hin rfl (by decide +kernel) rfl rfl (Nat.le_of_ble_eq_true rfl) dX9_init_9 (fun H locs hP hD hS => ?_)
  have hP : va_P G vwCl [(aSt, .inr (9, [.ref aRg, .null, .int 0, .int 0, .int 0, .int 0])), (aRg, .inl (cI, 32, .inl (fun _ => 0)))] H := hP
  have hD : va_D A [(aSt, .inr (9, [.ref aRg, .null, .int 0, .int 0, .int 0, .int 0])), (aRg, .inl (cI, 32, .inl (fun _ => 0)))] := hD
  refine lv_aload_n hx hb dX9_init_12 rfl (lv_at hl 0 rfl) ?_
  refine lv_sipush (v := 256) hx hb dX9_init_13 (by decide) ?_
  refine va_put (D := G) (ci := 9) (v := .int 256) (ty := .int) (C := RX9) (T := TX9) (N := 6) hx hb hts iwX9_init_X9 tyX9 tyX9_ok nmX9 hown hK hP hD hS 0 rfl rfl 2 (by decide) (hts _ lwX9_init_5) (fun _ h9 => h9) rfl (by decide +kernel) rfl rfl (Nat.le_of_ble_eq_true rfl) dX9_init_16 (fun H locs hP hD hS => ?_)
  have hP : va_P G vwCl [(aSt, .inr (9, [.ref aRg, .null, .int 256, .int 0, .int 0, .int 0])), (aRg, .inl (cI, 32, .inl (fun _ => 0)))] H := hP
  have hD : va_D A [(aSt, .inr (9, [.ref aRg, .null, .int 256, .int 0, .int 0, .int 0])), (aRg, .inl (cI, 32, .inl (fun _ => 0)))] := hD
  refine lv_aload_n hx hb dX9_init_19 rfl (lv_at hl 0 rfl) ?_
  refine va_new (ci := 8) (fs := [.null, .null, .int 0, .int 0, .int 0, .int 0, .int 0, .long 0, .int 0, .int 0, .int 0, .int 0, .int 0]) (C := RX8) (T := TX8) (N := 13) hx hb hts iwX9_init_X8 tyX8 tyX8_ok hown (hts _ lwX9_init_6) (hts _ lwX9_init_7) (hts _ lwX9_init_8) hK hP hD hS hA.1 rfl (fun j hj => by rcases (show j = 0 ∨ j = 1 ∨ j = 2 ∨ j = 3 ∨ j = 4 ∨ j = 5 ∨ j = 6 ∨ j = 7 ∨ j = 8 ∨ j = 9 ∨ j = 10 ∨ j = 11 ∨ j = 12 by omega) with rfl | rfl | rfl | rfl | rfl | rfl | rfl | rfl | rfl | rfl | rfl | rfl | rfl <;> rfl) (Nat.le_of_ble_eq_true rfl) (Nat.le_of_ble_eq_true rfl) dX9_init_20 (fun aSp H hP hD hS => ?_)
  have hP : va_P G vwCl [(aSt, .inr (9, [.ref aRg, .null, .int 256, .int 0, .int 0, .int 0])), (aRg, .inl (cI, 32, .inl (fun _ => 0))), (aSp, .inr (8, [.null, .null, .int 0, .int 0, .int 0, .int 0, .int 0, .long 0, .int 0, .int 0, .int 0, .int 0, .int 0]))] H := hP
  have hD : va_D A [(aSt, .inr (9, [.ref aRg, .null, .int 256, .int 0, .int 0, .int 0])), (aRg, .inl (cI, 32, .inl (fun _ => 0))), (aSp, .inr (8, [.null, .null, .int 0, .int 0, .int 0, .int 0, .int 0, .long 0, .int 0, .int 0, .int 0, .int 0, .int 0]))] := hD
  refine W.widen (k := 2) (n := 45) (Nat.le_of_ble_eq_true rfl) (Nat.le_of_ble_eq_true rfl) ?_
  refine lv_dup hx hb dX9_init_23 rfl ?_
  refine lv_iload_n hx hb dX9_init_24 rfl (lv_at hl 1 rfl) ?_
  refine k_cI (As := [.int p0]) (rest := [.ref aSp, .ref aSt]) (wc := [(aSp, .inr (8, [.null, .null, .int 0, .int 0, .int 0, .int 0, .int 0, .long 0, .int 0, .int 0, .int 0, .int 0, .int 0]))]) (wr := [(aSt, .inr (9, [.ref aRg, .null, .int 256, .int 0, .int 0, .int 0])), (aRg, .inl (cI, 32, .inl (fun _ => 0)))]) ⟨hx, hb, hml, hown, hts⟩ hK hP hD hS hA hNw [2] [0, 1] rfl rfl rfl rfl (by decide) (kX8_init l G cI cB cP aSp H.size p0) (cwI 1 hts gX9_init_X8_init rfl rfl rfl (hts _ lwX9_init_8) (hts _ lwX9_init_9) (hts _ lwX9_init_10) rfl (by decide +kernel) ⟨Nat.le_of_ble_eq_true rfl, Nat.le_of_ble_eq_true rfl⟩) rfl hl.1 rfl (Nat.le_of_ble_eq_true rfl) dX9_init_25 ⟨Nat.le_of_ble_eq_true rfl, Nat.le_of_ble_eq_true rfl⟩ (fun u25 H locs hEu25 hP hD hS => ?_)
  obtain ⟨aLi, aCo, aVa, aMp, aWo⟩ := u25
  have hP : va_P G vwCl [(aSt, .inr (9, [.ref aRg, .null, .int 256, .int 0, .int 0, .int 0])), (aRg, .inl (cI, 32, .inl (fun _ => 0))), (aSp, .inr (8, [.ref aMp, .ref aLi, .int 1, .int 0, .int 0, .int 0, .int 0, .long 0, .int 0, .int 0, .int 0, .int 0, .int 0])), (aMp, .inr (5, [.ref aWo, .int p0])), (aLi, .inr (4, [.ref aCo, .ref aVa, .int 0, .int 0])), (aWo, .inl (cI, 512, .inl (fun _ => 0))), (aCo, .inl (cI, 32, .inl (fun _ => 0))), (aVa, .inl (cI, 32, .inl (fun _ => 0)))] H := hP
  have hD : va_D A [(aSt, .inr (9, [.ref aRg, .null, .int 256, .int 0, .int 0, .int 0])), (aRg, .inl (cI, 32, .inl (fun _ => 0))), (aSp, .inr (8, [.ref aMp, .ref aLi, .int 1, .int 0, .int 0, .int 0, .int 0, .long 0, .int 0, .int 0, .int 0, .int 0, .int 0])), (aMp, .inr (5, [.ref aWo, .int p0])), (aLi, .inr (4, [.ref aCo, .ref aVa, .int 0, .int 0])), (aWo, .inl (cI, 512, .inl (fun _ => 0))), (aCo, .inl (cI, 32, .inl (fun _ => 0))), (aVa, .inl (cI, 32, .inl (fun _ => 0)))] := hD
  refine W.widen (k := 7) (n := 627) (Nat.le_of_ble_eq_true rfl) (Nat.le_of_ble_eq_true rfl) ?_
  refine va_putF (D := G) (ci := 9) (v := .ref aSp) (ty := .object "TwinIssue$Specials") (C := RX9) (T := TX9) (N := 6) hx hb hts iwX9_init_X9 tyX9 tyX9_ok nmX9 hown hK hP hD hS 0 rfl rfl 1 (by decide) (hts _ lwX9_init_11) (fun _ h9 => h9) rfl hin rfl (by decide +kernel) rfl rfl (Nat.le_of_ble_eq_true rfl) dX9_init_28 (fun H locs hP hD hS => ?_)
  have hP : va_P G vwCl [(aSt, .inr (9, [.ref aRg, .ref aSp, .int 256, .int 0, .int 0, .int 0])), (aRg, .inl (cI, 32, .inl (fun _ => 0))), (aSp, .inr (8, [.ref aMp, .ref aLi, .int 1, .int 0, .int 0, .int 0, .int 0, .long 0, .int 0, .int 0, .int 0, .int 0, .int 0])), (aMp, .inr (5, [.ref aWo, .int p0])), (aLi, .inr (4, [.ref aCo, .ref aVa, .int 0, .int 0])), (aWo, .inl (cI, 512, .inl (fun _ => 0))), (aCo, .inl (cI, 32, .inl (fun _ => 0))), (aVa, .inl (cI, 32, .inl (fun _ => 0)))] H := hP
  have hD : va_D A [(aSt, .inr (9, [.ref aRg, .ref aSp, .int 256, .int 0, .int 0, .int 0])), (aRg, .inl (cI, 32, .inl (fun _ => 0))), (aSp, .inr (8, [.ref aMp, .ref aLi, .int 1, .int 0, .int 0, .int 0, .int 0, .long 0, .int 0, .int 0, .int 0, .int 0, .int 0])), (aMp, .inr (5, [.ref aWo, .int p0])), (aLi, .inr (4, [.ref aCo, .ref aVa, .int 0, .int 0])), (aWo, .inl (cI, 512, .inl (fun _ => 0))), (aCo, .inl (cI, 32, .inl (fun _ => 0))), (aVa, .inl (cI, 32, .inl (fun _ => 0)))] := hD
  have hP := hP.sub (ws' := [(aSt, .inr (9, [.ref aRg, .ref aSp, .int 256, .int 0, .int 0, .int 0])), (aSp, .inr (8, [.ref aMp, .ref aLi, .int 1, .int 0, .int 0, .int 0, .int 0, .long 0, .int 0, .int 0, .int 0, .int 0, .int 0])), (aMp, .inr (5, [.ref aWo, .int p0])), (aLi, .inr (4, [.ref aCo, .ref aVa, .int 0, .int 0])), (aRg, .inl (cI, 32, .inl (fun _ => 0))), (aWo, .inl (cI, 512, .inl (fun _ => 0))), (aCo, .inl (cI, 32, .inl (fun _ => 0))), (aVa, .inl (cI, 32, .inl (fun _ => 0)))]) [0, 2, 3, 4, 1, 5, 6, 7] rfl
  have hD := hD.sub (ws' := [(aSt, .inr (9, [.ref aRg, .ref aSp, .int 256, .int 0, .int 0, .int 0])), (aSp, .inr (8, [.ref aMp, .ref aLi, .int 1, .int 0, .int 0, .int 0, .int 0, .long 0, .int 0, .int 0, .int 0, .int 0, .int 0])), (aMp, .inr (5, [.ref aWo, .int p0])), (aLi, .inr (4, [.ref aCo, .ref aVa, .int 0, .int 0])), (aRg, .inl (cI, 32, .inl (fun _ => 0))), (aWo, .inl (cI, 512, .inl (fun _ => 0))), (aCo, .inl (cI, 32, .inl (fun _ => 0))), (aVa, .inl (cI, 32, .inl (fun _ => 0)))]) [0, 2, 3, 4, 1, 5, 6, 7] (by decide) rfl
  exact hret H locs _ ls (aRg, aSp, aLi, aCo, aVa, aMp, aWo) dX9_init_31 trivial hP hD hS
theorem lwX2_init_0 : Cond.methodLink RX2 3 objectInit ∈ wsX2_init := by decide +kernel
theorem lwX2_init_1 : Cond.instanceMethod objectInit ∈ wsX2_init := by decide +kernel
theorem lwX2_init_2 : Cond.code objectInit ⟨#[0xb1]⟩ 1 none ∈ wsX2_init := by decide +kernel
theorem lwX2_init_3 : Cond.classLink RX2 9 RX6 ∈ wsX2_init := by decide +kernel
theorem lwX2_init_4 : Cond.instantiable RX6 1 ∈ wsX2_init := by decide +kernel
theorem lwX2_init_5 : Cond.initialized RX6 ∈ wsX2_init := by decide +kernel
theorem lwX2_init_6 : Cond.instanceMethod yX6_init ∈ wsX2_init := by decide +kernel
theorem lwX2_init_7 : Cond.fieldLink RX2 12 "TwinIssue$Executor" "memory" "LTwinIssue$Memory;" ∈ wsX2_init := by decide +kernel
theorem lwX2_init_8 : Cond.classLink RX2 18 RX3 ∈ wsX2_init := by decide +kernel
theorem lwX2_init_9 : Cond.instantiable RX3 8 ∈ wsX2_init := by decide +kernel
theorem lwX2_init_10 : Cond.initialized RX3 ∈ wsX2_init := by decide +kernel
theorem lwX2_init_11 : Cond.instanceMethod yX3_init ∈ wsX2_init := by decide +kernel
theorem lwX2_init_12 : Cond.fieldLink RX2 21 "TwinIssue$Executor" "instruction" "LTwinIssue$Instruction;" ∈ wsX2_init := by decide +kernel
theorem lwX2_init_13 : Cond.classLink RX2 25 RX0 ∈ wsX2_init := by decide +kernel
theorem lwX2_init_14 : Cond.instantiable RX0 11 ∈ wsX2_init := by decide +kernel
theorem lwX2_init_15 : Cond.initialized RX0 ∈ wsX2_init := by decide +kernel
theorem lwX2_init_16 : Cond.instanceMethod yX0_init ∈ wsX2_init := by decide +kernel
theorem lwX2_init_17 : Cond.fieldLink RX2 28 "TwinIssue$Executor" "effect" "LTwinIssue$Effect;" ∈ wsX2_init := by decide +kernel
theorem lwX2_init_18 : Cond.classLink RX2 32 RX9 ∈ wsX2_init := by decide +kernel
theorem lwX2_init_19 : Cond.instantiable RX9 6 ∈ wsX2_init := by decide +kernel
theorem lwX2_init_20 : Cond.initialized RX9 ∈ wsX2_init := by decide +kernel
theorem lwX2_init_21 : Cond.methodLink RX2 34 yX9_init ∈ wsX2_init := by decide +kernel
theorem lwX2_init_22 : Cond.instanceMethod yX9_init ∈ wsX2_init := by decide +kernel
theorem lwX2_init_23 : Cond.fieldLink RX2 37 "TwinIssue$Executor" "state" "LTwinIssue$State;" ∈ wsX2_init := by decide +kernel
theorem iwX2_init_X0 : ∀ w ∈ wsX00, w ∈ wsX2_init := fun _ h => List.mem_cons_of_mem _ (List.mem_append_left _ (List.mem_append_left _ (List.mem_append_left _ (List.mem_append_left _ (List.mem_append_right _ h)))))
theorem iwX2_init_X2 : ∀ w ∈ wsX20, w ∈ wsX2_init := fun _ h => List.mem_cons_of_mem _ (List.mem_append_left _ (List.mem_append_left _ (List.mem_append_left _ (List.mem_append_left _ (List.mem_append_left _ (List.mem_append_left _ (List.mem_append_right _ h)))))))
theorem iwX2_init_X3 : ∀ w ∈ wsX30, w ∈ wsX2_init := fun _ h => List.mem_cons_of_mem _ (List.mem_append_left _ (List.mem_append_left _ (List.mem_append_left _ (List.mem_append_left _ (List.mem_append_left _ (List.mem_append_right _ h))))))
theorem iwX2_init_X6 : ∀ w ∈ wsX60, w ∈ wsX2_init := fun _ h => List.mem_cons_of_mem _ (List.mem_append_left _ (List.mem_append_left _ (List.mem_append_left _ (List.mem_append_left _ (List.mem_append_left _ (List.mem_append_left _ (List.mem_append_left _ (List.mem_append_right _ h))))))))
theorem iwX2_init_X9 : ∀ w ∈ wsX90, w ∈ wsX2_init := fun _ h => List.mem_cons_of_mem _ (List.mem_append_left _ (List.mem_append_left _ (List.mem_append_left _ (List.mem_append_right _ h))))
set_option maxHeartbeats 4000000 in
set_option maxRecDepth 100000 in
theorem kX2_init (l : Launch) (G : va_G) (cI cB cP : ClassId) (aEx : Nat) (sz : Nat) (p0 : Int32) : kMc (S := Nat × Nat × Nat × Nat × Nat × Nat × Nat × Nat × Nat × Nat × Nat × Nat) l yX2_init wsX2_init ({ frames := 4, cells := 12, slots := 717, locals := 75 }) [.ref aEx, .int p0] G (kTY cI cB cP) sz [(aEx, .inr (2, [.null, .null, .null, .null]))] (fun _ => True) (fun u => [(aEx, .inr (2, [.ref u.1, .ref u.2.2.2.2.1, .ref u.2.2.1, .ref u.2.2.2.1])), (u.1, .inr (6, [.ref u.2.1])), (u.2.1, .inl (cP, 64, .inr (.inr (.inr (.inr (fun _ => none)))))), (u.2.2.2.2.1, .inr (9, [.ref u.2.2.2.2.2.1, .ref u.2.2.2.2.2.2.1, .int 256, .int 0, .int 0, .int 0])), (u.2.2.2.2.2.2.1, .inr (8, [.ref u.2.2.2.2.2.2.2.2.2.2.1, .ref u.2.2.2.2.2.2.2.1, .int 1, .int 0, .int 0, .int 0, .int 0, .long 0, .int 0, .int 0, .int 0, .int 0, .int 0])), (u.2.2.2.2.2.2.2.2.2.2.1, .inr (5, [.ref u.2.2.2.2.2.2.2.2.2.2.2, .int p0])), (u.2.2.2.2.2.2.2.1, .inr (4, [.ref u.2.2.2.2.2.2.2.2.1, .ref u.2.2.2.2.2.2.2.2.2.1, .int 0, .int 0])), (u.2.2.1, .inr (3, [.int 0, .int 0, .int 0, .int 0, .int 0, .int 0, .int 0, .int 0])), (u.2.2.2.1, .inr (0, [.int 0, .int 0, .int 0, .int 0, .int 0, .int 0, .int 0, .int 0, .long 0, .int 0, .int 0])), (u.2.2.2.2.2.1, .inl (cI, 32, .inl (fun _ => 0))), (u.2.2.2.2.2.2.2.2.2.2.2, .inl (cI, 512, .inl (fun _ => 0))), (u.2.2.2.2.2.2.2.2.1, .inl (cI, 32, .inl (fun _ => 0))), (u.2.2.2.2.2.2.2.2.2.1, .inl (cI, 32, .inl (fun _ => 0)))]) := by
  refine k_ofc (cc := cX2_init) (maxL := 2) (by decide) rfl (Nat.le_of_ble_eq_true rfl) ?_
  intro p e s m args below meth c A ls Q H locs hx hb hml hown hts hin hK hP hD hA hS hl hNw hret
  have hown : s.vm.findClass RX2 = some m.cls := hown
  have hin : meth.name = "<init>" := hin
  have hl : lv_has ls 2 [(0, .ref aEx), (1, .int p0)] := hl
  refine lv_aload_n hx hb dX2_init_0 rfl (lv_at hl 0 rfl) ?_
  refine W.objInit hx hb hown (hts _ lwX2_init_0) (hts _ lwX2_init_1) (hts _ lwX2_init_2) rfl (by rw [hml]; exact hl.1) rfl dX2_init_1 (Nat.le_of_ble_eq_true rfl) (Nat.le_of_ble_eq_true rfl) ?_
  refine W.eq (g2 := F0 m 4 ls []) rfl ?_
  refine lv_aload_n hx hb dX2_init_4 rfl (lv_at hl 0 rfl) ?_
  refine va_new (ci := 6) (fs := [.null]) (C := RX6) (T := TX6) (N := 1) hx hb hts iwX2_init_X6 tyX6 tyX6_ok hown (hts _ lwX2_init_3) (hts _ lwX2_init_4) (hts _ lwX2_init_5) hK hP hD hS hA.1 rfl (fun j hj => by rcases (show j = 0 by omega) with rfl <;> rfl) (Nat.le_of_ble_eq_true rfl) (Nat.le_of_ble_eq_true rfl) dX2_init_5 (fun aMe H hP hD hS => ?_)
  have hP : va_P G vwCl [(aEx, .inr (2, [.null, .null, .null, .null])), (aMe, .inr (6, [.null]))] H := hP
  have hD : va_D A [(aEx, .inr (2, [.null, .null, .null, .null])), (aMe, .inr (6, [.null]))] := hD
  refine W.widen (k := 1) (n := 1) (Nat.le_of_ble_eq_true rfl) (Nat.le_of_ble_eq_true rfl) ?_
  refine lv_dup hx hb dX2_init_8 rfl ?_
  refine k_cIN (As := []) (rest := [.ref aMe, .ref aEx]) (wc := [(aMe, .inr (6, [.null]))]) (wr := [(aEx, .inr (2, [.null, .null, .null, .null]))]) ⟨hx, hb, hml, hown, hts⟩ hK hP hD hS hA hNw [1] [0] rfl rfl rfl rfl (by decide) (kX6_init l G cI cB cP aMe H.size) ⟨va_cnB 0 hts gX2_init_X6_init_n11 rfl rfl rfl hNw.2.2.2.1 (hts _ lwX2_init_5) (by decide +kernel) ⟨Nat.le_of_ble_eq_true rfl, Nat.le_of_ble_eq_true rfl⟩, rfl, (hts _ lwX2_init_6)⟩ rfl hl.1 rfl (Nat.le_of_ble_eq_true rfl) dX2_init_9 ⟨Nat.le_of_ble_eq_true rfl, Nat.le_of_ble_eq_true rfl⟩ (fun u9 H locs hEu9 hP hD hS => ?_)
  obtain ⟨aPg, hu9⟩ : ∃ v, v = u9 := ⟨_, rfl⟩
  subst hu9
  have hP : va_P G vwCl [(aEx, .inr (2, [.null, .null, .null, .null])), (aMe, .inr (6, [.ref aPg])), (aPg, .inl (cP, 64, .inr (.inr (.inr (.inr (fun _ => none))))))] H := hP
  have hD : va_D A [(aEx, .inr (2, [.null, .null, .null, .null])), (aMe, .inr (6, [.ref aPg])), (aPg, .inl (cP, 64, .inr (.inr (.inr (.inr (fun _ => none))))))] := hD
  refine W.widen (k := 2) (n := 65) (Nat.le_of_ble_eq_true rfl) (Nat.le_of_ble_eq_true rfl) ?_
  refine va_putF (D := G) (ci := 2) (v := .ref aMe) (ty := .object "TwinIssue$Memory") (C := RX2) (T := TX2) (N := 4) hx hb hts iwX2_init_X2 tyX2 tyX2_ok nmX2 hown hK hP hD hS 0 rfl rfl 0 (by decide) (hts _ lwX2_init_7) (fun _ h9 => h9) rfl hin rfl (by decide +kernel) rfl rfl (Nat.le_of_ble_eq_true rfl) dX2_init_12 (fun H locs hP hD hS => ?_)
  have hP : va_P G vwCl [(aEx, .inr (2, [.ref aMe, .null, .null, .null])), (aMe, .inr (6, [.ref aPg])), (aPg, .inl (cP, 64, .inr (.inr (.inr (.inr (fun _ => none))))))] H := hP
  have hD : va_D A [(aEx, .inr (2, [.ref aMe, .null, .null, .null])), (aMe, .inr (6, [.ref aPg])), (aPg, .inl (cP, 64, .inr (.inr (.inr (.inr (fun _ => none))))))] := hD
  refine lv_aload_n hx hb dX2_init_15 rfl (lv_at hl 0 rfl) ?_
  refine va_new (ci := 3) (fs := [.int 0, .int 0, .int 0, .int 0, .int 0, .int 0, .int 0, .int 0]) (C := RX3) (T := TX3) (N := 8) hx hb hts iwX2_init_X3 tyX3 tyX3_ok hown (hts _ lwX2_init_8) (hts _ lwX2_init_9) (hts _ lwX2_init_10) hK hP hD hS hA.1 rfl (fun j hj => by rcases (show j = 0 ∨ j = 1 ∨ j = 2 ∨ j = 3 ∨ j = 4 ∨ j = 5 ∨ j = 6 ∨ j = 7 by omega) with rfl | rfl | rfl | rfl | rfl | rfl | rfl | rfl <;> rfl) (Nat.le_of_ble_eq_true rfl) (Nat.le_of_ble_eq_true rfl) dX2_init_16 (fun aIn H hP hD hS => ?_)
  have hP : va_P G vwCl [(aEx, .inr (2, [.ref aMe, .null, .null, .null])), (aMe, .inr (6, [.ref aPg])), (aPg, .inl (cP, 64, .inr (.inr (.inr (.inr (fun _ => none)))))), (aIn, .inr (3, [.int 0, .int 0, .int 0, .int 0, .int 0, .int 0, .int 0, .int 0]))] H := hP
  have hD : va_D A [(aEx, .inr (2, [.ref aMe, .null, .null, .null])), (aMe, .inr (6, [.ref aPg])), (aPg, .inl (cP, 64, .inr (.inr (.inr (.inr (fun _ => none)))))), (aIn, .inr (3, [.int 0, .int 0, .int 0, .int 0, .int 0, .int 0, .int 0, .int 0]))] := hD
  refine W.widen (k := 3) (n := 73) (Nat.le_of_ble_eq_true rfl) (Nat.le_of_ble_eq_true rfl) ?_
  refine lv_dup hx hb dX2_init_19 rfl ?_
  refine k_cIN (As := []) (rest := [.ref aIn, .ref aEx]) (wc := [(aIn, .inr (3, [.int 0, .int 0, .int 0, .int 0, .int 0, .int 0, .int 0, .int 0]))]) (wr := [(aEx, .inr (2, [.ref aMe, .null, .null, .null])), (aMe, .inr (6, [.ref aPg])), (aPg, .inl (cP, 64, .inr (.inr (.inr (.inr (fun _ => none))))))]) ⟨hx, hb, hml, hown, hts⟩ hK hP hD hS hA hNw [3] [0, 1, 2] rfl rfl rfl rfl (by decide) (kX3_init l G cI cB cP aIn H.size) ⟨va_cnB 0 hts gX2_init_X3_init_n20 rfl rfl rfl hNw.2.2.2.2.1 (hts _ lwX2_init_10) (by decide +kernel) ⟨Nat.le_of_ble_eq_true rfl, Nat.le_of_ble_eq_true rfl⟩, rfl, (hts _ lwX2_init_11)⟩ rfl hl.1 rfl (Nat.le_of_ble_eq_true rfl) dX2_init_20 ⟨Nat.le_of_ble_eq_true rfl, Nat.le_of_ble_eq_true rfl⟩ (fun u20 H locs hEu20 hP hD hS => ?_)
  have hP : va_P G vwCl [(aEx, .inr (2, [.ref aMe, .null, .null, .null])), (aMe, .inr (6, [.ref aPg])), (aPg, .inl (cP, 64, .inr (.inr (.inr (.inr (fun _ => none)))))), (aIn, .inr (3, [.int 0, .int 0, .int 0, .int 0, .int 0, .int 0, .int 0, .int 0]))] H := hP
  have hD : va_D A [(aEx, .inr (2, [.ref aMe, .null, .null, .null])), (aMe, .inr (6, [.ref aPg])), (aPg, .inl (cP, 64, .inr (.inr (.inr (.inr (fun _ => none)))))), (aIn, .inr (3, [.int 0, .int 0, .int 0, .int 0, .int 0, .int 0, .int 0, .int 0]))] := hD
  refine W.widen (k := 3) (n := 73) (Nat.le_of_ble_eq_true rfl) (Nat.le_of_ble_eq_true rfl) ?_
  refine va_putF (D := G) (ci := 2) (v := .ref aIn) (ty := .object "TwinIssue$Instruction") (C := RX2) (T := TX2) (N := 4) hx hb hts iwX2_init_X2 tyX2 tyX2_ok nmX2 hown hK hP hD hS 0 rfl rfl 2 (by decide) (hts _ lwX2_init_12) (fun _ h9 => h9) rfl hin rfl (by decide +kernel) rfl rfl (Nat.le_of_ble_eq_true rfl) dX2_init_23 (fun H locs hP hD hS => ?_)
  have hP : va_P G vwCl [(aEx, .inr (2, [.ref aMe, .null, .ref aIn, .null])), (aMe, .inr (6, [.ref aPg])), (aPg, .inl (cP, 64, .inr (.inr (.inr (.inr (fun _ => none)))))), (aIn, .inr (3, [.int 0, .int 0, .int 0, .int 0, .int 0, .int 0, .int 0, .int 0]))] H := hP
  have hD : va_D A [(aEx, .inr (2, [.ref aMe, .null, .ref aIn, .null])), (aMe, .inr (6, [.ref aPg])), (aPg, .inl (cP, 64, .inr (.inr (.inr (.inr (fun _ => none)))))), (aIn, .inr (3, [.int 0, .int 0, .int 0, .int 0, .int 0, .int 0, .int 0, .int 0]))] := hD
  refine lv_aload_n hx hb dX2_init_26 rfl (lv_at hl 0 rfl) ?_
  refine va_new (ci := 0) (fs := [.int 0, .int 0, .int 0, .int 0, .int 0, .int 0, .int 0, .int 0, .long 0, .int 0, .int 0]) (C := RX0) (T := TX0) (N := 11) hx hb hts iwX2_init_X0 tyX0 tyX0_ok hown (hts _ lwX2_init_13) (hts _ lwX2_init_14) (hts _ lwX2_init_15) hK hP hD hS hA.1 rfl (fun j hj => by rcases (show j = 0 ∨ j = 1 ∨ j = 2 ∨ j = 3 ∨ j = 4 ∨ j = 5 ∨ j = 6 ∨ j = 7 ∨ j = 8 ∨ j = 9 ∨ j = 10 by omega) with rfl | rfl | rfl | rfl | rfl | rfl | rfl | rfl | rfl | rfl | rfl <;> rfl) (Nat.le_of_ble_eq_true rfl) (Nat.le_of_ble_eq_true rfl) dX2_init_27 (fun aEf H hP hD hS => ?_)
  have hP : va_P G vwCl [(aEx, .inr (2, [.ref aMe, .null, .ref aIn, .null])), (aMe, .inr (6, [.ref aPg])), (aPg, .inl (cP, 64, .inr (.inr (.inr (.inr (fun _ => none)))))), (aIn, .inr (3, [.int 0, .int 0, .int 0, .int 0, .int 0, .int 0, .int 0, .int 0])), (aEf, .inr (0, [.int 0, .int 0, .int 0, .int 0, .int 0, .int 0, .int 0, .int 0, .long 0, .int 0, .int 0]))] H := hP
  have hD : va_D A [(aEx, .inr (2, [.ref aMe, .null, .ref aIn, .null])), (aMe, .inr (6, [.ref aPg])), (aPg, .inl (cP, 64, .inr (.inr (.inr (.inr (fun _ => none)))))), (aIn, .inr (3, [.int 0, .int 0, .int 0, .int 0, .int 0, .int 0, .int 0, .int 0])), (aEf, .inr (0, [.int 0, .int 0, .int 0, .int 0, .int 0, .int 0, .int 0, .int 0, .long 0, .int 0, .int 0]))] := hD
  refine W.widen (k := 4) (n := 84) (Nat.le_of_ble_eq_true rfl) (Nat.le_of_ble_eq_true rfl) ?_
  refine lv_dup hx hb dX2_init_30 rfl ?_
  refine k_cIN (As := []) (rest := [.ref aEf, .ref aEx]) (wc := [(aEf, .inr (0, [.int 0, .int 0, .int 0, .int 0, .int 0, .int 0, .int 0, .int 0, .long 0, .int 0, .int 0]))]) (wr := [(aEx, .inr (2, [.ref aMe, .null, .ref aIn, .null])), (aMe, .inr (6, [.ref aPg])), (aPg, .inl (cP, 64, .inr (.inr (.inr (.inr (fun _ => none)))))), (aIn, .inr (3, [.int 0, .int 0, .int 0, .int 0, .int 0, .int 0, .int 0, .int 0]))]) ⟨hx, hb, hml, hown, hts⟩ hK hP hD hS hA hNw [4] [0, 1, 2, 3] rfl rfl rfl rfl (by decide) (kX0_init l G cI cB cP aEf H.size) ⟨va_cnB 0 hts gX2_init_X0_init_n27 rfl rfl rfl hNw.2.2.2.2.2.1 (hts _ lwX2_init_15) (by decide +kernel) ⟨Nat.le_of_ble_eq_true rfl, Nat.le_of_ble_eq_true rfl⟩, rfl, (hts _ lwX2_init_16)⟩ rfl hl.1 rfl (Nat.le_of_ble_eq_true rfl) dX2_init_31 ⟨Nat.le_of_ble_eq_true rfl, Nat.le_of_ble_eq_true rfl⟩ (fun u31 H locs hEu31 hP hD hS => ?_)
  have hP : va_P G vwCl [(aEx, .inr (2, [.ref aMe, .null, .ref aIn, .null])), (aMe, .inr (6, [.ref aPg])), (aPg, .inl (cP, 64, .inr (.inr (.inr (.inr (fun _ => none)))))), (aIn, .inr (3, [.int 0, .int 0, .int 0, .int 0, .int 0, .int 0, .int 0, .int 0])), (aEf, .inr (0, [.int 0, .int 0, .int 0, .int 0, .int 0, .int 0, .int 0, .int 0, .long 0, .int 0, .int 0]))] H := hP
  have hD : va_D A [(aEx, .inr (2, [.ref aMe, .null, .ref aIn, .null])), (aMe, .inr (6, [.ref aPg])), (aPg, .inl (cP, 64, .inr (.inr (.inr (.inr (fun _ => none)))))), (aIn, .inr (3, [.int 0, .int 0, .int 0, .int 0, .int 0, .int 0, .int 0, .int 0])), (aEf, .inr (0, [.int 0, .int 0, .int 0, .int 0, .int 0, .int 0, .int 0, .int 0, .long 0, .int 0, .int 0]))] := hD
  refine W.widen (k := 4) (n := 84) (Nat.le_of_ble_eq_true rfl) (Nat.le_of_ble_eq_true rfl) ?_
  refine va_putF (D := G) (ci := 2) (v := .ref aEf) (ty := .object "TwinIssue$Effect") (C := RX2) (T := TX2) (N := 4) hx hb hts iwX2_init_X2 tyX2 tyX2_ok nmX2 hown hK hP hD hS 0 rfl rfl 3 (by decide) (hts _ lwX2_init_17) (fun _ h9 => h9) rfl hin rfl (by decide +kernel) rfl rfl (Nat.le_of_ble_eq_true rfl) dX2_init_34 (fun H locs hP hD hS => ?_)
  have hP : va_P G vwCl [(aEx, .inr (2, [.ref aMe, .null, .ref aIn, .ref aEf])), (aMe, .inr (6, [.ref aPg])), (aPg, .inl (cP, 64, .inr (.inr (.inr (.inr (fun _ => none)))))), (aIn, .inr (3, [.int 0, .int 0, .int 0, .int 0, .int 0, .int 0, .int 0, .int 0])), (aEf, .inr (0, [.int 0, .int 0, .int 0, .int 0, .int 0, .int 0, .int 0, .int 0, .long 0, .int 0, .int 0]))] H := hP
  have hD : va_D A [(aEx, .inr (2, [.ref aMe, .null, .ref aIn, .ref aEf])), (aMe, .inr (6, [.ref aPg])), (aPg, .inl (cP, 64, .inr (.inr (.inr (.inr (fun _ => none)))))), (aIn, .inr (3, [.int 0, .int 0, .int 0, .int 0, .int 0, .int 0, .int 0, .int 0])), (aEf, .inr (0, [.int 0, .int 0, .int 0, .int 0, .int 0, .int 0, .int 0, .int 0, .long 0, .int 0, .int 0]))] := hD
  refine lv_aload_n hx hb dX2_init_37 rfl (lv_at hl 0 rfl) ?_
  refine va_new (ci := 9) (fs := [.null, .null, .int 0, .int 0, .int 0, .int 0]) (C := RX9) (T := TX9) (N := 6) hx hb hts iwX2_init_X9 tyX9 tyX9_ok hown (hts _ lwX2_init_18) (hts _ lwX2_init_19) (hts _ lwX2_init_20) hK hP hD hS hA.1 rfl (fun j hj => by rcases (show j = 0 ∨ j = 1 ∨ j = 2 ∨ j = 3 ∨ j = 4 ∨ j = 5 by omega) with rfl | rfl | rfl | rfl | rfl | rfl <;> rfl) (Nat.le_of_ble_eq_true rfl) (Nat.le_of_ble_eq_true rfl) dX2_init_38 (fun aSt H hP hD hS => ?_)
  have hP : va_P G vwCl [(aEx, .inr (2, [.ref aMe, .null, .ref aIn, .ref aEf])), (aMe, .inr (6, [.ref aPg])), (aPg, .inl (cP, 64, .inr (.inr (.inr (.inr (fun _ => none)))))), (aIn, .inr (3, [.int 0, .int 0, .int 0, .int 0, .int 0, .int 0, .int 0, .int 0])), (aEf, .inr (0, [.int 0, .int 0, .int 0, .int 0, .int 0, .int 0, .int 0, .int 0, .long 0, .int 0, .int 0])), (aSt, .inr (9, [.null, .null, .int 0, .int 0, .int 0, .int 0]))] H := hP
  have hD : va_D A [(aEx, .inr (2, [.ref aMe, .null, .ref aIn, .ref aEf])), (aMe, .inr (6, [.ref aPg])), (aPg, .inl (cP, 64, .inr (.inr (.inr (.inr (fun _ => none)))))), (aIn, .inr (3, [.int 0, .int 0, .int 0, .int 0, .int 0, .int 0, .int 0, .int 0])), (aEf, .inr (0, [.int 0, .int 0, .int 0, .int 0, .int 0, .int 0, .int 0, .int 0, .long 0, .int 0, .int 0])), (aSt, .inr (9, [.null, .null, .int 0, .int 0, .int 0, .int 0]))] := hD
  refine W.widen (k := 5) (n := 90) (Nat.le_of_ble_eq_true rfl) (Nat.le_of_ble_eq_true rfl) ?_
  refine lv_dup hx hb dX2_init_41 rfl ?_
  refine lv_iload_n hx hb dX2_init_42 rfl (lv_at hl 1 rfl) ?_
  refine k_cI (As := [.int p0]) (rest := [.ref aSt, .ref aEx]) (wc := [(aSt, .inr (9, [.null, .null, .int 0, .int 0, .int 0, .int 0]))]) (wr := [(aEx, .inr (2, [.ref aMe, .null, .ref aIn, .ref aEf])), (aMe, .inr (6, [.ref aPg])), (aPg, .inl (cP, 64, .inr (.inr (.inr (.inr (fun _ => none)))))), (aIn, .inr (3, [.int 0, .int 0, .int 0, .int 0, .int 0, .int 0, .int 0, .int 0])), (aEf, .inr (0, [.int 0, .int 0, .int 0, .int 0, .int 0, .int 0, .int 0, .int 0, .long 0, .int 0, .int 0]))]) ⟨hx, hb, hml, hown, hts⟩ hK hP hD hS hA hNw [5] [0, 1, 2, 3, 4] rfl rfl rfl rfl (by decide) (kX9_init l G cI cB cP aSt H.size p0) (cwI 1 hts gX2_init_X9_init rfl rfl rfl (hts _ lwX2_init_20) (hts _ lwX2_init_21) (hts _ lwX2_init_22) rfl (by decide +kernel) ⟨Nat.le_of_ble_eq_true rfl, Nat.le_of_ble_eq_true rfl⟩) rfl hl.1 rfl (Nat.le_of_ble_eq_true rfl) dX2_init_43 ⟨Nat.le_of_ble_eq_true rfl, Nat.le_of_ble_eq_true rfl⟩ (fun u43 H locs hEu43 hP hD hS => ?_)
  obtain ⟨aRg, aSp, aLi, aCo, aVa, aMp, aWo⟩ := u43
  have hP : va_P G vwCl [(aEx, .inr (2, [.ref aMe, .null, .ref aIn, .ref aEf])), (aMe, .inr (6, [.ref aPg])), (aPg, .inl (cP, 64, .inr (.inr (.inr (.inr (fun _ => none)))))), (aIn, .inr (3, [.int 0, .int 0, .int 0, .int 0, .int 0, .int 0, .int 0, .int 0])), (aEf, .inr (0, [.int 0, .int 0, .int 0, .int 0, .int 0, .int 0, .int 0, .int 0, .long 0, .int 0, .int 0])), (aSt, .inr (9, [.ref aRg, .ref aSp, .int 256, .int 0, .int 0, .int 0])), (aSp, .inr (8, [.ref aMp, .ref aLi, .int 1, .int 0, .int 0, .int 0, .int 0, .long 0, .int 0, .int 0, .int 0, .int 0, .int 0])), (aMp, .inr (5, [.ref aWo, .int p0])), (aLi, .inr (4, [.ref aCo, .ref aVa, .int 0, .int 0])), (aRg, .inl (cI, 32, .inl (fun _ => 0))), (aWo, .inl (cI, 512, .inl (fun _ => 0))), (aCo, .inl (cI, 32, .inl (fun _ => 0))), (aVa, .inl (cI, 32, .inl (fun _ => 0)))] H := hP
  have hD : va_D A [(aEx, .inr (2, [.ref aMe, .null, .ref aIn, .ref aEf])), (aMe, .inr (6, [.ref aPg])), (aPg, .inl (cP, 64, .inr (.inr (.inr (.inr (fun _ => none)))))), (aIn, .inr (3, [.int 0, .int 0, .int 0, .int 0, .int 0, .int 0, .int 0, .int 0])), (aEf, .inr (0, [.int 0, .int 0, .int 0, .int 0, .int 0, .int 0, .int 0, .int 0, .long 0, .int 0, .int 0])), (aSt, .inr (9, [.ref aRg, .ref aSp, .int 256, .int 0, .int 0, .int 0])), (aSp, .inr (8, [.ref aMp, .ref aLi, .int 1, .int 0, .int 0, .int 0, .int 0, .long 0, .int 0, .int 0, .int 0, .int 0, .int 0])), (aMp, .inr (5, [.ref aWo, .int p0])), (aLi, .inr (4, [.ref aCo, .ref aVa, .int 0, .int 0])), (aRg, .inl (cI, 32, .inl (fun _ => 0))), (aWo, .inl (cI, 512, .inl (fun _ => 0))), (aCo, .inl (cI, 32, .inl (fun _ => 0))), (aVa, .inl (cI, 32, .inl (fun _ => 0)))] := hD
  refine W.widen (k := 12) (n := 717) (Nat.le_of_ble_eq_true rfl) (Nat.le_of_ble_eq_true rfl) ?_
  refine va_putF (D := G) (ci := 2) (v := .ref aSt) (ty := .object "TwinIssue$State") (C := RX2) (T := TX2) (N := 4) hx hb hts iwX2_init_X2 tyX2 tyX2_ok nmX2 hown hK hP hD hS 0 rfl rfl 1 (by decide) (hts _ lwX2_init_23) (fun _ h9 => h9) rfl hin rfl (by decide +kernel) rfl rfl (Nat.le_of_ble_eq_true rfl) dX2_init_46 (fun H locs hP hD hS => ?_)
  have hP : va_P G vwCl [(aEx, .inr (2, [.ref aMe, .ref aSt, .ref aIn, .ref aEf])), (aMe, .inr (6, [.ref aPg])), (aPg, .inl (cP, 64, .inr (.inr (.inr (.inr (fun _ => none)))))), (aIn, .inr (3, [.int 0, .int 0, .int 0, .int 0, .int 0, .int 0, .int 0, .int 0])), (aEf, .inr (0, [.int 0, .int 0, .int 0, .int 0, .int 0, .int 0, .int 0, .int 0, .long 0, .int 0, .int 0])), (aSt, .inr (9, [.ref aRg, .ref aSp, .int 256, .int 0, .int 0, .int 0])), (aSp, .inr (8, [.ref aMp, .ref aLi, .int 1, .int 0, .int 0, .int 0, .int 0, .long 0, .int 0, .int 0, .int 0, .int 0, .int 0])), (aMp, .inr (5, [.ref aWo, .int p0])), (aLi, .inr (4, [.ref aCo, .ref aVa, .int 0, .int 0])), (aRg, .inl (cI, 32, .inl (fun _ => 0))), (aWo, .inl (cI, 512, .inl (fun _ => 0))), (aCo, .inl (cI, 32, .inl (fun _ => 0))), (aVa, .inl (cI, 32, .inl (fun _ => 0)))] H := hP
  have hD : va_D A [(aEx, .inr (2, [.ref aMe, .ref aSt, .ref aIn, .ref aEf])), (aMe, .inr (6, [.ref aPg])), (aPg, .inl (cP, 64, .inr (.inr (.inr (.inr (fun _ => none)))))), (aIn, .inr (3, [.int 0, .int 0, .int 0, .int 0, .int 0, .int 0, .int 0, .int 0])), (aEf, .inr (0, [.int 0, .int 0, .int 0, .int 0, .int 0, .int 0, .int 0, .int 0, .long 0, .int 0, .int 0])), (aSt, .inr (9, [.ref aRg, .ref aSp, .int 256, .int 0, .int 0, .int 0])), (aSp, .inr (8, [.ref aMp, .ref aLi, .int 1, .int 0, .int 0, .int 0, .int 0, .long 0, .int 0, .int 0, .int 0, .int 0, .int 0])), (aMp, .inr (5, [.ref aWo, .int p0])), (aLi, .inr (4, [.ref aCo, .ref aVa, .int 0, .int 0])), (aRg, .inl (cI, 32, .inl (fun _ => 0))), (aWo, .inl (cI, 512, .inl (fun _ => 0))), (aCo, .inl (cI, 32, .inl (fun _ => 0))), (aVa, .inl (cI, 32, .inl (fun _ => 0)))] := hD
  have hP := hP.sub (ws' := [(aEx, .inr (2, [.ref aMe, .ref aSt, .ref aIn, .ref aEf])), (aMe, .inr (6, [.ref aPg])), (aPg, .inl (cP, 64, .inr (.inr (.inr (.inr (fun _ => none)))))), (aSt, .inr (9, [.ref aRg, .ref aSp, .int 256, .int 0, .int 0, .int 0])), (aSp, .inr (8, [.ref aMp, .ref aLi, .int 1, .int 0, .int 0, .int 0, .int 0, .long 0, .int 0, .int 0, .int 0, .int 0, .int 0])), (aMp, .inr (5, [.ref aWo, .int p0])), (aLi, .inr (4, [.ref aCo, .ref aVa, .int 0, .int 0])), (aIn, .inr (3, [.int 0, .int 0, .int 0, .int 0, .int 0, .int 0, .int 0, .int 0])), (aEf, .inr (0, [.int 0, .int 0, .int 0, .int 0, .int 0, .int 0, .int 0, .int 0, .long 0, .int 0, .int 0])), (aRg, .inl (cI, 32, .inl (fun _ => 0))), (aWo, .inl (cI, 512, .inl (fun _ => 0))), (aCo, .inl (cI, 32, .inl (fun _ => 0))), (aVa, .inl (cI, 32, .inl (fun _ => 0)))]) [0, 1, 2, 5, 6, 7, 8, 3, 4, 9, 10, 11, 12] rfl
  have hD := hD.sub (ws' := [(aEx, .inr (2, [.ref aMe, .ref aSt, .ref aIn, .ref aEf])), (aMe, .inr (6, [.ref aPg])), (aPg, .inl (cP, 64, .inr (.inr (.inr (.inr (fun _ => none)))))), (aSt, .inr (9, [.ref aRg, .ref aSp, .int 256, .int 0, .int 0, .int 0])), (aSp, .inr (8, [.ref aMp, .ref aLi, .int 1, .int 0, .int 0, .int 0, .int 0, .long 0, .int 0, .int 0, .int 0, .int 0, .int 0])), (aMp, .inr (5, [.ref aWo, .int p0])), (aLi, .inr (4, [.ref aCo, .ref aVa, .int 0, .int 0])), (aIn, .inr (3, [.int 0, .int 0, .int 0, .int 0, .int 0, .int 0, .int 0, .int 0])), (aEf, .inr (0, [.int 0, .int 0, .int 0, .int 0, .int 0, .int 0, .int 0, .int 0, .long 0, .int 0, .int 0])), (aRg, .inl (cI, 32, .inl (fun _ => 0))), (aWo, .inl (cI, 512, .inl (fun _ => 0))), (aCo, .inl (cI, 32, .inl (fun _ => 0))), (aVa, .inl (cI, 32, .inl (fun _ => 0)))]) [0, 1, 2, 5, 6, 7, 8, 3, 4, 9, 10, 11, 12] (by decide) rfl
  exact hret H locs _ ls (aMe, aPg, aIn, aEf, aSt, aRg, aSp, aLi, aCo, aVa, aMp, aWo) dX2_init_49 trivial hP hD hS
theorem lwX7_init_0 : Cond.methodLink RX7 3 objectInit ∈ wsX7_init := by decide +kernel
theorem lwX7_init_1 : Cond.instanceMethod objectInit ∈ wsX7_init := by decide +kernel
theorem lwX7_init_2 : Cond.code objectInit ⟨#[0xb1]⟩ 1 none ∈ wsX7_init := by decide +kernel
theorem lwX7_init_3 : Cond.arrayClass .int ∈ wsX7_init := by decide +kernel
theorem lwX7_init_4 : Cond.fieldLink RX7 11 "TwinIssue$Pipeline" "issues" "[I" ∈ wsX7_init := by decide +kernel
theorem lwX7_init_5 : Cond.fieldLink RX7 15 "TwinIssue$Pipeline" "ready" "[I" ∈ wsX7_init := by decide +kernel
theorem iwX7_init_X7 : ∀ w ∈ wsX70, w ∈ wsX7_init := fun _ h => List.mem_cons_of_mem _ (List.mem_append_right _ h)
set_option maxHeartbeats 4000000 in
set_option maxRecDepth 100000 in
theorem kX7_init (l : Launch) (G : va_G) (cI cB cP : ClassId) (aPi : Nat) (sz : Nat) : kMc (S := Nat × Nat) l yX7_init wsX7_init ({ frames := 1, cells := 2, slots := 44, locals := 12 }) [.ref aPi] G (kTY cI cB cP) sz [(aPi, .inr (7, [.int 0, .int 0, .int 0, .null, .null, .int 0, .int 0, .int 0, .int 0, .int 0, .int 0, .int 0, .int 0, .int 0]))] (fun _ => True) (fun u => [(aPi, .inr (7, [.int 0, .int 0, .int 0, .ref u.1, .ref u.2, .int 0, .int 0, .int 0, .int 0, .int 0, .int 0, .int 0, .int 0, .int 0])), (u.1, .inl (cI, 8, .inl (fun _ => 0))), (u.2, .inl (cI, 36, .inl (fun _ => 0)))]) := by
  refine k_ofc (cc := cX7_init) (maxL := 1) (by decide) rfl (Nat.le_of_ble_eq_true rfl) ?_
  intro p e s m args below meth c A ls Q H locs hx hb hml hown hts hin hK hP hD hA hS hl hNw hret
  have hown : s.vm.findClass RX7 = some m.cls := hown
  have hin : meth.name = "<init>" := hin
  have hl : lv_has ls 1 [(0, .ref aPi)] := hl
  refine lv_aload_n hx hb dX7_init_0 rfl (lv_at hl 0 rfl) ?_
  refine W.objInit hx hb hown (hts _ lwX7_init_0) (hts _ lwX7_init_1) (hts _ lwX7_init_2) rfl (by rw [hml]; exact hl.1) rfl dX7_init_1 (Nat.le_of_ble_eq_true rfl) (Nat.le_of_ble_eq_true rfl) ?_
  refine W.eq (g2 := F0 m 4 ls []) rfl ?_
  refine lv_aload_n hx hb dX7_init_4 rfl (lv_at hl 0 rfl) ?_
  refine lv_bipush (v := 8) hx hb dX7_init_5 (by decide) ?_
  refine va_newa (atype := .int) (ty := .int) (a0 := (8, .inl (fun _ => 0))) (N' := 8) hx hb (hts _ lwX7_init_3) rfl hK hP hD hS hA.1 (fun cA => rfl) (by decide) (by decide) (by decide) (Nat.le_of_ble_eq_true rfl) (Nat.le_of_ble_eq_true rfl) dX7_init_7 (fun aIs cA H hK1 hP hD hS => ?_)
  have hcc : cA = cI := Option.some.inj ((va_nm_int (hK1.2 3 (cA, .int) rfl).2).symm.trans (va_nm_int (hK.2 0 (cI, .int) rfl).2))
  rw [hcc] at hP hD
  clear hK1 hcc
  have hP : va_P G vwCl [(aPi, .inr (7, [.int 0, .int 0, .int 0, .null, .null, .int 0, .int 0, .int 0, .int 0, .int 0, .int 0, .int 0, .int 0, .int 0])), (aIs, .inl (cI, 8, .inl (fun _ => 0)))] H := hP
  have hD : va_D A [(aPi, .inr (7, [.int 0, .int 0, .int 0, .null, .null, .int 0, .int 0, .int 0, .int 0, .int 0, .int 0, .int 0, .int 0, .int 0])), (aIs, .inl (cI, 8, .inl (fun _ => 0)))] := hD
  refine W.widen (k := 1) (n := 8) (Nat.le_of_ble_eq_true rfl) (Nat.le_of_ble_eq_true rfl) ?_
  refine va_putF (D := G) (ci := 7) (v := .ref aIs) (ty := .array .int) (C := RX7) (T := TX7) (N := 14) hx hb hts iwX7_init_X7 tyX7 tyX7_ok nmX7 hown hK hP hD hS 0 rfl rfl 3 (by decide) (hts _ lwX7_init_4) (fun _ h9 => h9) rfl hin rfl (by decide +kernel) rfl rfl (Nat.le_of_ble_eq_true rfl) dX7_init_9 (fun H locs hP hD hS => ?_)
  have hP : va_P G vwCl [(aPi, .inr (7, [.int 0, .int 0, .int 0, .ref aIs, .null, .int 0, .int 0, .int 0, .int 0, .int 0, .int 0, .int 0, .int 0, .int 0])), (aIs, .inl (cI, 8, .inl (fun _ => 0)))] H := hP
  have hD : va_D A [(aPi, .inr (7, [.int 0, .int 0, .int 0, .ref aIs, .null, .int 0, .int 0, .int 0, .int 0, .int 0, .int 0, .int 0, .int 0, .int 0])), (aIs, .inl (cI, 8, .inl (fun _ => 0)))] := hD
  refine lv_aload_n hx hb dX7_init_12 rfl (lv_at hl 0 rfl) ?_
  refine lv_bipush (v := 36) hx hb dX7_init_13 (by decide) ?_
  refine va_newa (atype := .int) (ty := .int) (a0 := (36, .inl (fun _ => 0))) (N' := 36) hx hb (hts _ lwX7_init_3) rfl hK hP hD hS hA.1 (fun cA => rfl) (by decide) (by decide) (by decide) (Nat.le_of_ble_eq_true rfl) (Nat.le_of_ble_eq_true rfl) dX7_init_15 (fun aRd cA H hK1 hP hD hS => ?_)
  have hcc : cA = cI := Option.some.inj ((va_nm_int (hK1.2 3 (cA, .int) rfl).2).symm.trans (va_nm_int (hK.2 0 (cI, .int) rfl).2))
  rw [hcc] at hP hD
  clear hK1 hcc
  have hP : va_P G vwCl [(aPi, .inr (7, [.int 0, .int 0, .int 0, .ref aIs, .null, .int 0, .int 0, .int 0, .int 0, .int 0, .int 0, .int 0, .int 0, .int 0])), (aIs, .inl (cI, 8, .inl (fun _ => 0))), (aRd, .inl (cI, 36, .inl (fun _ => 0)))] H := hP
  have hD : va_D A [(aPi, .inr (7, [.int 0, .int 0, .int 0, .ref aIs, .null, .int 0, .int 0, .int 0, .int 0, .int 0, .int 0, .int 0, .int 0, .int 0])), (aIs, .inl (cI, 8, .inl (fun _ => 0))), (aRd, .inl (cI, 36, .inl (fun _ => 0)))] := hD
  refine W.widen (k := 2) (n := 44) (Nat.le_of_ble_eq_true rfl) (Nat.le_of_ble_eq_true rfl) ?_
  refine va_putF (D := G) (ci := 7) (v := .ref aRd) (ty := .array .int) (C := RX7) (T := TX7) (N := 14) hx hb hts iwX7_init_X7 tyX7 tyX7_ok nmX7 hown hK hP hD hS 0 rfl rfl 4 (by decide) (hts _ lwX7_init_5) (fun _ h9 => h9) rfl hin rfl (by decide +kernel) rfl rfl (Nat.le_of_ble_eq_true rfl) dX7_init_17 (fun H locs hP hD hS => ?_)
  have hP : va_P G vwCl [(aPi, .inr (7, [.int 0, .int 0, .int 0, .ref aIs, .ref aRd, .int 0, .int 0, .int 0, .int 0, .int 0, .int 0, .int 0, .int 0, .int 0])), (aIs, .inl (cI, 8, .inl (fun _ => 0))), (aRd, .inl (cI, 36, .inl (fun _ => 0)))] H := hP
  have hD : va_D A [(aPi, .inr (7, [.int 0, .int 0, .int 0, .ref aIs, .ref aRd, .int 0, .int 0, .int 0, .int 0, .int 0, .int 0, .int 0, .int 0, .int 0])), (aIs, .inl (cI, 8, .inl (fun _ => 0))), (aRd, .inl (cI, 36, .inl (fun _ => 0)))] := hD
  exact hret H locs _ ls (aIs, aRd) dX7_init_20 trivial hP hD hS
theorem lwX1_init_0 : Cond.methodLink RX1 3 objectInit ∈ wsX1_init := by decide +kernel
theorem lwX1_init_1 : Cond.instanceMethod objectInit ∈ wsX1_init := by decide +kernel
theorem lwX1_init_2 : Cond.code objectInit ⟨#[0xb1]⟩ 1 none ∈ wsX1_init := by decide +kernel
theorem lwX1_init_3 : Cond.arrayClass .int ∈ wsX1_init := by decide +kernel
theorem lwX1_init_4 : Cond.fieldLink RX1 11 "TwinIssue$EventRecord" "fields" "[I" ∈ wsX1_init := by decide +kernel
theorem iwX1_init_X1 : ∀ w ∈ wsX10, w ∈ wsX1_init := fun _ h => List.mem_cons_of_mem _ (List.mem_append_right _ h)
set_option maxHeartbeats 4000000 in
set_option maxRecDepth 100000 in
theorem kX1_init (l : Launch) (G : va_G) (cI cB cP : ClassId) (aEv : Nat) (sz : Nat) : kMc (S := Nat) l yX1_init wsX1_init ({ frames := 1, cells := 1, slots := 2816, locals := 12 }) [.ref aEv] G (kTY cI cB cP) sz [(aEv, .inr (1, [.null, .int 0, .int 0, .int 0, .int 0, .int 0]))] (fun _ => True) (fun u => [(aEv, .inr (1, [.ref u, .int 0, .int 0, .int 0, .int 0, .int 0])), (u, .inl (cI, 2816, .inl (fun _ => 0)))]) := by
  refine k_ofc (cc := cX1_init) (maxL := 1) (by decide) rfl (Nat.le_of_ble_eq_true rfl) ?_
  intro p e s m args below meth c A ls Q H locs hx hb hml hown hts hin hK hP hD hA hS hl hNw hret
  have hown : s.vm.findClass RX1 = some m.cls := hown
  have hin : meth.name = "<init>" := hin
  have hl : lv_has ls 1 [(0, .ref aEv)] := hl
  refine lv_aload_n hx hb dX1_init_0 rfl (lv_at hl 0 rfl) ?_
  refine W.objInit hx hb hown (hts _ lwX1_init_0) (hts _ lwX1_init_1) (hts _ lwX1_init_2) rfl (by rw [hml]; exact hl.1) rfl dX1_init_1 (Nat.le_of_ble_eq_true rfl) (Nat.le_of_ble_eq_true rfl) ?_
  refine W.eq (g2 := F0 m 4 ls []) rfl ?_
  refine lv_aload_n hx hb dX1_init_4 rfl (lv_at hl 0 rfl) ?_
  refine lv_sipush (v := 2816) hx hb dX1_init_5 (by decide) ?_
  refine va_newa (atype := .int) (ty := .int) (a0 := (2816, .inl (fun _ => 0))) (N' := 2816) hx hb (hts _ lwX1_init_3) rfl hK hP hD hS hA.1 (fun cA => rfl) (by decide) (by decide) (by decide) (Nat.le_of_ble_eq_true rfl) (Nat.le_of_ble_eq_true rfl) dX1_init_8 (fun aFi cA H hK1 hP hD hS => ?_)
  have hcc : cA = cI := Option.some.inj ((va_nm_int (hK1.2 3 (cA, .int) rfl).2).symm.trans (va_nm_int (hK.2 0 (cI, .int) rfl).2))
  rw [hcc] at hP hD
  clear hK1 hcc
  have hP : va_P G vwCl [(aEv, .inr (1, [.null, .int 0, .int 0, .int 0, .int 0, .int 0])), (aFi, .inl (cI, 2816, .inl (fun _ => 0)))] H := hP
  have hD : va_D A [(aEv, .inr (1, [.null, .int 0, .int 0, .int 0, .int 0, .int 0])), (aFi, .inl (cI, 2816, .inl (fun _ => 0)))] := hD
  refine W.widen (k := 1) (n := 2816) (Nat.le_of_ble_eq_true rfl) (Nat.le_of_ble_eq_true rfl) ?_
  refine va_putF (D := G) (ci := 1) (v := .ref aFi) (ty := .array .int) (C := RX1) (T := TX1) (N := 6) hx hb hts iwX1_init_X1 tyX1 tyX1_ok nmX1 hown hK hP hD hS 0 rfl rfl 0 (by decide) (hts _ lwX1_init_4) (fun _ h9 => h9) rfl hin rfl (by decide +kernel) rfl rfl (Nat.le_of_ble_eq_true rfl) dX1_init_10 (fun H locs hP hD hS => ?_)
  have hP : va_P G vwCl [(aEv, .inr (1, [.ref aFi, .int 0, .int 0, .int 0, .int 0, .int 0])), (aFi, .inl (cI, 2816, .inl (fun _ => 0)))] H := hP
  have hD : va_D A [(aEv, .inr (1, [.ref aFi, .int 0, .int 0, .int 0, .int 0, .int 0])), (aFi, .inl (cI, 2816, .inl (fun _ => 0)))] := hD
  exact hret H locs _ ls aFi dX1_init_13 trivial hP hD hS
theorem lwX10_init_0 : Cond.methodLink RX10 3 objectInit ∈ wsX10_init := by decide +kernel
theorem lwX10_init_1 : Cond.instanceMethod objectInit ∈ wsX10_init := by decide +kernel
theorem lwX10_init_2 : Cond.code objectInit ⟨#[0xb1]⟩ 1 none ∈ wsX10_init := by decide +kernel
theorem lwX10_init_3 : Cond.classLink RX10 9 RX7 ∈ wsX10_init := by decide +kernel
theorem lwX10_init_4 : Cond.instantiable RX7 14 ∈ wsX10_init := by decide +kernel
theorem lwX10_init_5 : Cond.initialized RX7 ∈ wsX10_init := by decide +kernel
theorem lwX10_init_6 : Cond.instanceMethod yX7_init ∈ wsX10_init := by decide +kernel
theorem lwX10_init_7 : Cond.fieldLink RX10 12 "TwinIssue" "pipeline" "LTwinIssue$Pipeline;" ∈ wsX10_init := by decide +kernel
theorem lwX10_init_8 : Cond.classLink RX10 16 RX1 ∈ wsX10_init := by decide +kernel
theorem lwX10_init_9 : Cond.instantiable RX1 6 ∈ wsX10_init := by decide +kernel
theorem lwX10_init_10 : Cond.initialized RX1 ∈ wsX10_init := by decide +kernel
theorem lwX10_init_11 : Cond.instanceMethod yX1_init ∈ wsX10_init := by decide +kernel
theorem lwX10_init_12 : Cond.fieldLink RX10 19 "TwinIssue" "events" "LTwinIssue$EventRecord;" ∈ wsX10_init := by decide +kernel
theorem lwX10_init_13 : Cond.classLink RX10 23 RX2 ∈ wsX10_init := by decide +kernel
theorem lwX10_init_14 : Cond.instantiable RX2 4 ∈ wsX10_init := by decide +kernel
theorem lwX10_init_15 : Cond.initialized RX2 ∈ wsX10_init := by decide +kernel
theorem lwX10_init_16 : Cond.methodLink RX10 29 yX2_init ∈ wsX10_init := by decide +kernel
theorem lwX10_init_17 : Cond.instanceMethod yX2_init ∈ wsX10_init := by decide +kernel
theorem lwX10_init_18 : Cond.fieldLink RX10 32 "TwinIssue" "executor" "LTwinIssue$Executor;" ∈ wsX10_init := by decide +kernel
theorem iwX10_init_X1 : ∀ w ∈ wsX10, w ∈ wsX10_init := fun _ h => List.mem_cons_of_mem _ (List.mem_append_left _ (List.mem_append_left _ (List.mem_append_left _ (List.mem_append_left _ (List.mem_append_left _ (List.mem_append_left _ (List.mem_append_left _ (List.mem_append_left _ (List.mem_append_right _ h)))))))))
theorem iwX10_init_X10 : ∀ w ∈ wsX100, w ∈ wsX10_init := fun _ h => List.mem_cons_of_mem _ (List.mem_append_left _ (List.mem_append_left _ (List.mem_append_left _ (List.mem_append_left _ (List.mem_append_left _ (List.mem_append_left _ (List.mem_append_left _ (List.mem_append_left _ (List.mem_append_left _ (List.mem_append_right _ h))))))))))
theorem iwX10_init_X2 : ∀ w ∈ wsX20, w ∈ wsX10_init := fun _ h => List.mem_cons_of_mem _ (List.mem_append_left _ (List.mem_append_left _ (List.mem_append_left _ (List.mem_append_left _ (List.mem_append_left _ (List.mem_append_left _ (List.mem_append_left _ (List.mem_append_right _ h))))))))
theorem iwX10_init_X7 : ∀ w ∈ wsX70, w ∈ wsX10_init := fun _ h => List.mem_cons_of_mem _ (List.mem_append_left _ (List.mem_append_left _ (List.mem_append_left _ (List.mem_append_left _ (List.mem_append_left _ (List.mem_append_left _ (List.mem_append_left _ (List.mem_append_left _ (List.mem_append_left _ (List.mem_append_left _ (List.mem_append_right _ h)))))))))))
set_option maxHeartbeats 4000000 in
set_option maxRecDepth 100000 in
theorem kX10_init (l : Launch) (G : va_G) (cI cB cP : ClassId) (aT : Nat) (sz : Nat) (p0 : Int32) : kMc (S := Nat × Nat × Nat × Nat × Nat × Nat × Nat × Nat × Nat × Nat × Nat × Nat × Nat × Nat × Nat × Nat × Nat × Nat) l yX10_init wsX10_init ({ frames := 5, cells := 18, slots := 3601, locals := 96 }) [.ref aT, .int p0] G (kTY cI cB cP) sz [(aT, .inr (10, [.null, .null, .null, .int 0, .int 0]))] (fun _ => True) (fun u => [(aT, .inr (10, [.ref u.2.2.2.2.2.1, .ref u.1, .ref u.2.2.2.1, .int 0, .int 0])), (u.2.2.2.2.2.1, .inr (2, [.ref u.2.2.2.2.2.2.1, .ref u.2.2.2.2.2.2.2.2.2.2.1, .ref u.2.2.2.2.2.2.2.2.1, .ref u.2.2.2.2.2.2.2.2.2.1])), (u.2.2.2.2.2.2.1, .inr (6, [.ref u.2.2.2.2.2.2.2.1])), (u.2.2.2.2.2.2.2.1, .inl (cP, 64, .inr (.inr (.inr (.inr (fun _ => none)))))), (u.2.2.2.2.2.2.2.2.2.2.1, .inr (9, [.ref u.2.2.2.2.2.2.2.2.2.2.2.1, .ref u.2.2.2.2.2.2.2.2.2.2.2.2.1, .int 256, .int 0, .int 0, .int 0])), (u.2.2.2.2.2.2.2.2.2.2.2.2.1, .inr (8, [.ref u.2.2.2.2.2.2.2.2.2.2.2.2.2.2.2.2.1, .ref u.2.2.2.2.2.2.2.2.2.2.2.2.2.1, .int 1, .int 0, .int 0, .int 0, .int 0, .long 0, .int 0, .int 0, .int 0, .int 0, .int 0])), (u.2.2.2.2.2.2.2.2.2.2.2.2.2.2.2.2.1, .inr (5, [.ref u.2.2.2.2.2.2.2.2.2.2.2.2.2.2.2.2.2, .int (fX10_setsFor p0)])), (u.2.2.2.2.2.2.2.2.2.2.2.2.2.1, .inr (4, [.ref u.2.2.2.2.2.2.2.2.2.2.2.2.2.2.1, .ref u.2.2.2.2.2.2.2.2.2.2.2.2.2.2.2.1, .int 0, .int 0])), (u.2.2.2.2.2.2.2.2.1, .inr (3, [.int 0, .int 0, .int 0, .int 0, .int 0, .int 0, .int 0, .int 0])), (u.2.2.2.2.2.2.2.2.2.1, .inr (0, [.int 0, .int 0, .int 0, .int 0, .int 0, .int 0, .int 0, .int 0, .long 0, .int 0, .int 0])), (u.1, .inr (7, [.int 0, .int 0, .int 0, .ref u.2.1, .ref u.2.2.1, .int 0, .int 0, .int 0, .int 0, .int 0, .int 0, .int 0, .int 0, .int 0])), (u.2.2.2.1, .inr (1, [.ref u.2.2.2.2.1, .int 0, .int 0, .int 0, .int 0, .int 0])), (u.2.2.2.2.2.2.2.2.2.2.2.1, .inl (cI, 32, .inl (fun _ => 0))), (u.2.2.2.2.2.2.2.2.2.2.2.2.2.2.2.2.2, .inl (cI, 512, .inl (fun _ => 0))), (u.2.2.2.2.2.2.2.2.2.2.2.2.2.2.1, .inl (cI, 32, .inl (fun _ => 0))), (u.2.2.2.2.2.2.2.2.2.2.2.2.2.2.2.1, .inl (cI, 32, .inl (fun _ => 0))), (u.2.1, .inl (cI, 8, .inl (fun _ => 0))), (u.2.2.1, .inl (cI, 36, .inl (fun _ => 0))), (u.2.2.2.2.1, .inl (cI, 2816, .inl (fun _ => 0)))]) := by
  refine k_ofc (cc := cX10_init) (maxL := 2) (by decide) rfl (Nat.le_of_ble_eq_true rfl) ?_
  intro p e s m args below meth c A ls Q H locs hx hb hml hown hts hin hK hP hD hA hS hl hNw hret
  have hown : s.vm.findClass RX10 = some m.cls := hown
  have hin : meth.name = "<init>" := hin
  have hl : lv_has ls 2 [(0, .ref aT), (1, .int p0)] := hl
  refine lv_aload_n hx hb dX10_init_0 rfl (lv_at hl 0 rfl) ?_
  refine W.objInit hx hb hown (hts _ lwX10_init_0) (hts _ lwX10_init_1) (hts _ lwX10_init_2) rfl (by rw [hml]; exact hl.1) rfl dX10_init_1 (Nat.le_of_ble_eq_true rfl) (Nat.le_of_ble_eq_true rfl) ?_
  refine W.eq (g2 := F0 m 4 ls []) rfl ?_
  refine lv_aload_n hx hb dX10_init_4 rfl (lv_at hl 0 rfl) ?_
  refine va_new (ci := 7) (fs := [.int 0, .int 0, .int 0, .null, .null, .int 0, .int 0, .int 0, .int 0, .int 0, .int 0, .int 0, .int 0, .int 0]) (C := RX7) (T := TX7) (N := 14) hx hb hts iwX10_init_X7 tyX7 tyX7_ok hown (hts _ lwX10_init_3) (hts _ lwX10_init_4) (hts _ lwX10_init_5) hK hP hD hS hA.1 rfl (fun j hj => by rcases (show j = 0 ∨ j = 1 ∨ j = 2 ∨ j = 3 ∨ j = 4 ∨ j = 5 ∨ j = 6 ∨ j = 7 ∨ j = 8 ∨ j = 9 ∨ j = 10 ∨ j = 11 ∨ j = 12 ∨ j = 13 by omega) with rfl | rfl | rfl | rfl | rfl | rfl | rfl | rfl | rfl | rfl | rfl | rfl | rfl | rfl <;> rfl) (Nat.le_of_ble_eq_true rfl) (Nat.le_of_ble_eq_true rfl) dX10_init_5 (fun aPi H hP hD hS => ?_)
  have hP : va_P G vwCl [(aT, .inr (10, [.null, .null, .null, .int 0, .int 0])), (aPi, .inr (7, [.int 0, .int 0, .int 0, .null, .null, .int 0, .int 0, .int 0, .int 0, .int 0, .int 0, .int 0, .int 0, .int 0]))] H := hP
  have hD : va_D A [(aT, .inr (10, [.null, .null, .null, .int 0, .int 0])), (aPi, .inr (7, [.int 0, .int 0, .int 0, .null, .null, .int 0, .int 0, .int 0, .int 0, .int 0, .int 0, .int 0, .int 0, .int 0]))] := hD
  refine W.widen (k := 1) (n := 14) (Nat.le_of_ble_eq_true rfl) (Nat.le_of_ble_eq_true rfl) ?_
  refine lv_dup hx hb dX10_init_8 rfl ?_
  refine k_cIN (As := []) (rest := [.ref aPi, .ref aT]) (wc := [(aPi, .inr (7, [.int 0, .int 0, .int 0, .null, .null, .int 0, .int 0, .int 0, .int 0, .int 0, .int 0, .int 0, .int 0, .int 0]))]) (wr := [(aT, .inr (10, [.null, .null, .null, .int 0, .int 0]))]) ⟨hx, hb, hml, hown, hts⟩ hK hP hD hS hA hNw [1] [0] rfl rfl rfl rfl (by decide) (kX7_init l G cI cB cP aPi H.size) ⟨va_cnB 0 hts gX10_init_X7_init_n11 rfl rfl rfl hNw.2.1 (hts _ lwX10_init_5) (by decide +kernel) ⟨Nat.le_of_ble_eq_true rfl, Nat.le_of_ble_eq_true rfl⟩, rfl, (hts _ lwX10_init_6)⟩ rfl hl.1 rfl (Nat.le_of_ble_eq_true rfl) dX10_init_9 ⟨Nat.le_of_ble_eq_true rfl, Nat.le_of_ble_eq_true rfl⟩ (fun u9 H locs hEu9 hP hD hS => ?_)
  obtain ⟨aIs, aRd⟩ := u9
  have hP : va_P G vwCl [(aT, .inr (10, [.null, .null, .null, .int 0, .int 0])), (aPi, .inr (7, [.int 0, .int 0, .int 0, .ref aIs, .ref aRd, .int 0, .int 0, .int 0, .int 0, .int 0, .int 0, .int 0, .int 0, .int 0])), (aIs, .inl (cI, 8, .inl (fun _ => 0))), (aRd, .inl (cI, 36, .inl (fun _ => 0)))] H := hP
  have hD : va_D A [(aT, .inr (10, [.null, .null, .null, .int 0, .int 0])), (aPi, .inr (7, [.int 0, .int 0, .int 0, .ref aIs, .ref aRd, .int 0, .int 0, .int 0, .int 0, .int 0, .int 0, .int 0, .int 0, .int 0])), (aIs, .inl (cI, 8, .inl (fun _ => 0))), (aRd, .inl (cI, 36, .inl (fun _ => 0)))] := hD
  refine W.widen (k := 3) (n := 58) (Nat.le_of_ble_eq_true rfl) (Nat.le_of_ble_eq_true rfl) ?_
  refine va_putF (D := G) (ci := 10) (v := .ref aPi) (ty := .object "TwinIssue$Pipeline") (C := RX10) (T := TX10) (N := 5) hx hb hts iwX10_init_X10 tyX10 tyX10_ok nmX10 hown hK hP hD hS 0 rfl rfl 1 (by decide) (hts _ lwX10_init_7) (fun _ h9 => h9) rfl hin rfl (by decide +kernel) rfl rfl (Nat.le_of_ble_eq_true rfl) dX10_init_12 (fun H locs hP hD hS => ?_)
  have hP : va_P G vwCl [(aT, .inr (10, [.null, .ref aPi, .null, .int 0, .int 0])), (aPi, .inr (7, [.int 0, .int 0, .int 0, .ref aIs, .ref aRd, .int 0, .int 0, .int 0, .int 0, .int 0, .int 0, .int 0, .int 0, .int 0])), (aIs, .inl (cI, 8, .inl (fun _ => 0))), (aRd, .inl (cI, 36, .inl (fun _ => 0)))] H := hP
  have hD : va_D A [(aT, .inr (10, [.null, .ref aPi, .null, .int 0, .int 0])), (aPi, .inr (7, [.int 0, .int 0, .int 0, .ref aIs, .ref aRd, .int 0, .int 0, .int 0, .int 0, .int 0, .int 0, .int 0, .int 0, .int 0])), (aIs, .inl (cI, 8, .inl (fun _ => 0))), (aRd, .inl (cI, 36, .inl (fun _ => 0)))] := hD
  refine lv_aload_n hx hb dX10_init_15 rfl (lv_at hl 0 rfl) ?_
  refine va_new (ci := 1) (fs := [.null, .int 0, .int 0, .int 0, .int 0, .int 0]) (C := RX1) (T := TX1) (N := 6) hx hb hts iwX10_init_X1 tyX1 tyX1_ok hown (hts _ lwX10_init_8) (hts _ lwX10_init_9) (hts _ lwX10_init_10) hK hP hD hS hA.1 rfl (fun j hj => by rcases (show j = 0 ∨ j = 1 ∨ j = 2 ∨ j = 3 ∨ j = 4 ∨ j = 5 by omega) with rfl | rfl | rfl | rfl | rfl | rfl <;> rfl) (Nat.le_of_ble_eq_true rfl) (Nat.le_of_ble_eq_true rfl) dX10_init_16 (fun aEv H hP hD hS => ?_)
  have hP : va_P G vwCl [(aT, .inr (10, [.null, .ref aPi, .null, .int 0, .int 0])), (aPi, .inr (7, [.int 0, .int 0, .int 0, .ref aIs, .ref aRd, .int 0, .int 0, .int 0, .int 0, .int 0, .int 0, .int 0, .int 0, .int 0])), (aIs, .inl (cI, 8, .inl (fun _ => 0))), (aRd, .inl (cI, 36, .inl (fun _ => 0))), (aEv, .inr (1, [.null, .int 0, .int 0, .int 0, .int 0, .int 0]))] H := hP
  have hD : va_D A [(aT, .inr (10, [.null, .ref aPi, .null, .int 0, .int 0])), (aPi, .inr (7, [.int 0, .int 0, .int 0, .ref aIs, .ref aRd, .int 0, .int 0, .int 0, .int 0, .int 0, .int 0, .int 0, .int 0, .int 0])), (aIs, .inl (cI, 8, .inl (fun _ => 0))), (aRd, .inl (cI, 36, .inl (fun _ => 0))), (aEv, .inr (1, [.null, .int 0, .int 0, .int 0, .int 0, .int 0]))] := hD
  refine W.widen (k := 4) (n := 64) (Nat.le_of_ble_eq_true rfl) (Nat.le_of_ble_eq_true rfl) ?_
  refine lv_dup hx hb dX10_init_19 rfl ?_
  refine k_cIN (As := []) (rest := [.ref aEv, .ref aT]) (wc := [(aEv, .inr (1, [.null, .int 0, .int 0, .int 0, .int 0, .int 0]))]) (wr := [(aT, .inr (10, [.null, .ref aPi, .null, .int 0, .int 0])), (aPi, .inr (7, [.int 0, .int 0, .int 0, .ref aIs, .ref aRd, .int 0, .int 0, .int 0, .int 0, .int 0, .int 0, .int 0, .int 0, .int 0])), (aIs, .inl (cI, 8, .inl (fun _ => 0))), (aRd, .inl (cI, 36, .inl (fun _ => 0)))]) ⟨hx, hb, hml, hown, hts⟩ hK hP hD hS hA hNw [4] [0, 1, 2, 3] rfl rfl rfl rfl (by decide) (kX1_init l G cI cB cP aEv H.size) ⟨va_cnB 0 hts gX10_init_X1_init_n18 rfl rfl rfl hNw.2.2.1 (hts _ lwX10_init_10) (by decide +kernel) ⟨Nat.le_of_ble_eq_true rfl, Nat.le_of_ble_eq_true rfl⟩, rfl, (hts _ lwX10_init_11)⟩ rfl hl.1 rfl (Nat.le_of_ble_eq_true rfl) dX10_init_20 ⟨Nat.le_of_ble_eq_true rfl, Nat.le_of_ble_eq_true rfl⟩ (fun u20 H locs hEu20 hP hD hS => ?_)
  obtain ⟨aFi, hu20⟩ : ∃ v, v = u20 := ⟨_, rfl⟩
  subst hu20
  have hP : va_P G vwCl [(aT, .inr (10, [.null, .ref aPi, .null, .int 0, .int 0])), (aPi, .inr (7, [.int 0, .int 0, .int 0, .ref aIs, .ref aRd, .int 0, .int 0, .int 0, .int 0, .int 0, .int 0, .int 0, .int 0, .int 0])), (aIs, .inl (cI, 8, .inl (fun _ => 0))), (aRd, .inl (cI, 36, .inl (fun _ => 0))), (aEv, .inr (1, [.ref aFi, .int 0, .int 0, .int 0, .int 0, .int 0])), (aFi, .inl (cI, 2816, .inl (fun _ => 0)))] H := hP
  have hD : va_D A [(aT, .inr (10, [.null, .ref aPi, .null, .int 0, .int 0])), (aPi, .inr (7, [.int 0, .int 0, .int 0, .ref aIs, .ref aRd, .int 0, .int 0, .int 0, .int 0, .int 0, .int 0, .int 0, .int 0, .int 0])), (aIs, .inl (cI, 8, .inl (fun _ => 0))), (aRd, .inl (cI, 36, .inl (fun _ => 0))), (aEv, .inr (1, [.ref aFi, .int 0, .int 0, .int 0, .int 0, .int 0])), (aFi, .inl (cI, 2816, .inl (fun _ => 0)))] := hD
  refine W.widen (k := 5) (n := 2880) (Nat.le_of_ble_eq_true rfl) (Nat.le_of_ble_eq_true rfl) ?_
  refine va_putF (D := G) (ci := 10) (v := .ref aEv) (ty := .object "TwinIssue$EventRecord") (C := RX10) (T := TX10) (N := 5) hx hb hts iwX10_init_X10 tyX10 tyX10_ok nmX10 hown hK hP hD hS 0 rfl rfl 2 (by decide) (hts _ lwX10_init_12) (fun _ h9 => h9) rfl hin rfl (by decide +kernel) rfl rfl (Nat.le_of_ble_eq_true rfl) dX10_init_23 (fun H locs hP hD hS => ?_)
  have hP : va_P G vwCl [(aT, .inr (10, [.null, .ref aPi, .ref aEv, .int 0, .int 0])), (aPi, .inr (7, [.int 0, .int 0, .int 0, .ref aIs, .ref aRd, .int 0, .int 0, .int 0, .int 0, .int 0, .int 0, .int 0, .int 0, .int 0])), (aIs, .inl (cI, 8, .inl (fun _ => 0))), (aRd, .inl (cI, 36, .inl (fun _ => 0))), (aEv, .inr (1, [.ref aFi, .int 0, .int 0, .int 0, .int 0, .int 0])), (aFi, .inl (cI, 2816, .inl (fun _ => 0)))] H := hP
  have hD : va_D A [(aT, .inr (10, [.null, .ref aPi, .ref aEv, .int 0, .int 0])), (aPi, .inr (7, [.int 0, .int 0, .int 0, .ref aIs, .ref aRd, .int 0, .int 0, .int 0, .int 0, .int 0, .int 0, .int 0, .int 0, .int 0])), (aIs, .inl (cI, 8, .inl (fun _ => 0))), (aRd, .inl (cI, 36, .inl (fun _ => 0))), (aEv, .inr (1, [.ref aFi, .int 0, .int 0, .int 0, .int 0, .int 0])), (aFi, .inl (cI, 2816, .inl (fun _ => 0)))] := hD
  refine lv_aload_n hx hb dX10_init_26 rfl (lv_at hl 0 rfl) ?_
  refine va_new (ci := 2) (fs := [.null, .null, .null, .null]) (C := RX2) (T := TX2) (N := 4) hx hb hts iwX10_init_X2 tyX2 tyX2_ok hown (hts _ lwX10_init_13) (hts _ lwX10_init_14) (hts _ lwX10_init_15) hK hP hD hS hA.1 rfl (fun j hj => by rcases (show j = 0 ∨ j = 1 ∨ j = 2 ∨ j = 3 by omega) with rfl | rfl | rfl | rfl <;> rfl) (Nat.le_of_ble_eq_true rfl) (Nat.le_of_ble_eq_true rfl) dX10_init_27 (fun aEx H hP hD hS => ?_)
  have hP : va_P G vwCl [(aT, .inr (10, [.null, .ref aPi, .ref aEv, .int 0, .int 0])), (aPi, .inr (7, [.int 0, .int 0, .int 0, .ref aIs, .ref aRd, .int 0, .int 0, .int 0, .int 0, .int 0, .int 0, .int 0, .int 0, .int 0])), (aIs, .inl (cI, 8, .inl (fun _ => 0))), (aRd, .inl (cI, 36, .inl (fun _ => 0))), (aEv, .inr (1, [.ref aFi, .int 0, .int 0, .int 0, .int 0, .int 0])), (aFi, .inl (cI, 2816, .inl (fun _ => 0))), (aEx, .inr (2, [.null, .null, .null, .null]))] H := hP
  have hD : va_D A [(aT, .inr (10, [.null, .ref aPi, .ref aEv, .int 0, .int 0])), (aPi, .inr (7, [.int 0, .int 0, .int 0, .ref aIs, .ref aRd, .int 0, .int 0, .int 0, .int 0, .int 0, .int 0, .int 0, .int 0, .int 0])), (aIs, .inl (cI, 8, .inl (fun _ => 0))), (aRd, .inl (cI, 36, .inl (fun _ => 0))), (aEv, .inr (1, [.ref aFi, .int 0, .int 0, .int 0, .int 0, .int 0])), (aFi, .inl (cI, 2816, .inl (fun _ => 0))), (aEx, .inr (2, [.null, .null, .null, .null]))] := hD
  refine W.widen (k := 6) (n := 2884) (Nat.le_of_ble_eq_true rfl) (Nat.le_of_ble_eq_true rfl) ?_
  refine lv_dup hx hb dX10_init_30 rfl ?_
  refine lv_iload_n hx hb dX10_init_31 rfl (lv_at hl 1 rfl) ?_
  refine k_iS (As := [.int p0]) (rest := [.ref aEx, .ref aEx, .ref aT]) ⟨hx, hb, hml, hown, hts⟩ hK hP hD hS hA (mX10_setsFor l G cI cB cP H.size p0) (va_cwS 1 hts gX10_init_X10_setsFor rfl rfl rfl (by decide +kernel) ⟨Nat.le_of_ble_eq_true rfl, Nat.le_of_ble_eq_true rfl⟩) rfl hl.1 rfl (Nat.le_of_ble_eq_true rfl) dX10_init_32 ⟨Nat.le_of_ble_eq_true rfl, Nat.le_of_ble_eq_true rfl⟩ (fun z1 H locs hz1 hEz1 hP hS => ?_)
  subst hz1
  refine k_cI (As := [.int (fX10_setsFor p0)]) (rest := [.ref aEx, .ref aT]) (wc := [(aEx, .inr (2, [.null, .null, .null, .null]))]) (wr := [(aT, .inr (10, [.null, .ref aPi, .ref aEv, .int 0, .int 0])), (aPi, .inr (7, [.int 0, .int 0, .int 0, .ref aIs, .ref aRd, .int 0, .int 0, .int 0, .int 0, .int 0, .int 0, .int 0, .int 0, .int 0])), (aIs, .inl (cI, 8, .inl (fun _ => 0))), (aRd, .inl (cI, 36, .inl (fun _ => 0))), (aEv, .inr (1, [.ref aFi, .int 0, .int 0, .int 0, .int 0, .int 0])), (aFi, .inl (cI, 2816, .inl (fun _ => 0)))]) ⟨hx, hb, hml, hown, hts⟩ hK hP hD hS hA hNw [6] [0, 1, 2, 3, 4, 5] rfl rfl rfl rfl (by decide) (kX2_init l G cI cB cP aEx H.size (fX10_setsFor p0)) (cwI 1 hts gX10_init_X2_init rfl rfl rfl (hts _ lwX10_init_15) (hts _ lwX10_init_16) (hts _ lwX10_init_17) rfl (by decide +kernel) ⟨Nat.le_of_ble_eq_true rfl, Nat.le_of_ble_eq_true rfl⟩) rfl hl.1 rfl (Nat.le_of_ble_eq_true rfl) dX10_init_35 ⟨Nat.le_of_ble_eq_true rfl, Nat.le_of_ble_eq_true rfl⟩ (fun u35 H locs hEu35 hP hD hS => ?_)
  obtain ⟨aMe, aPg, aIn, aEf, aSt, aRg, aSp, aLi, aCo, aVa, aMp, aWo⟩ := u35
  have hP : va_P G vwCl [(aT, .inr (10, [.null, .ref aPi, .ref aEv, .int 0, .int 0])), (aPi, .inr (7, [.int 0, .int 0, .int 0, .ref aIs, .ref aRd, .int 0, .int 0, .int 0, .int 0, .int 0, .int 0, .int 0, .int 0, .int 0])), (aIs, .inl (cI, 8, .inl (fun _ => 0))), (aRd, .inl (cI, 36, .inl (fun _ => 0))), (aEv, .inr (1, [.ref aFi, .int 0, .int 0, .int 0, .int 0, .int 0])), (aFi, .inl (cI, 2816, .inl (fun _ => 0))), (aEx, .inr (2, [.ref aMe, .ref aSt, .ref aIn, .ref aEf])), (aMe, .inr (6, [.ref aPg])), (aPg, .inl (cP, 64, .inr (.inr (.inr (.inr (fun _ => none)))))), (aSt, .inr (9, [.ref aRg, .ref aSp, .int 256, .int 0, .int 0, .int 0])), (aSp, .inr (8, [.ref aMp, .ref aLi, .int 1, .int 0, .int 0, .int 0, .int 0, .long 0, .int 0, .int 0, .int 0, .int 0, .int 0])), (aMp, .inr (5, [.ref aWo, .int (fX10_setsFor p0)])), (aLi, .inr (4, [.ref aCo, .ref aVa, .int 0, .int 0])), (aIn, .inr (3, [.int 0, .int 0, .int 0, .int 0, .int 0, .int 0, .int 0, .int 0])), (aEf, .inr (0, [.int 0, .int 0, .int 0, .int 0, .int 0, .int 0, .int 0, .int 0, .long 0, .int 0, .int 0])), (aRg, .inl (cI, 32, .inl (fun _ => 0))), (aWo, .inl (cI, 512, .inl (fun _ => 0))), (aCo, .inl (cI, 32, .inl (fun _ => 0))), (aVa, .inl (cI, 32, .inl (fun _ => 0)))] H := hP
  have hD : va_D A [(aT, .inr (10, [.null, .ref aPi, .ref aEv, .int 0, .int 0])), (aPi, .inr (7, [.int 0, .int 0, .int 0, .ref aIs, .ref aRd, .int 0, .int 0, .int 0, .int 0, .int 0, .int 0, .int 0, .int 0, .int 0])), (aIs, .inl (cI, 8, .inl (fun _ => 0))), (aRd, .inl (cI, 36, .inl (fun _ => 0))), (aEv, .inr (1, [.ref aFi, .int 0, .int 0, .int 0, .int 0, .int 0])), (aFi, .inl (cI, 2816, .inl (fun _ => 0))), (aEx, .inr (2, [.ref aMe, .ref aSt, .ref aIn, .ref aEf])), (aMe, .inr (6, [.ref aPg])), (aPg, .inl (cP, 64, .inr (.inr (.inr (.inr (fun _ => none)))))), (aSt, .inr (9, [.ref aRg, .ref aSp, .int 256, .int 0, .int 0, .int 0])), (aSp, .inr (8, [.ref aMp, .ref aLi, .int 1, .int 0, .int 0, .int 0, .int 0, .long 0, .int 0, .int 0, .int 0, .int 0, .int 0])), (aMp, .inr (5, [.ref aWo, .int (fX10_setsFor p0)])), (aLi, .inr (4, [.ref aCo, .ref aVa, .int 0, .int 0])), (aIn, .inr (3, [.int 0, .int 0, .int 0, .int 0, .int 0, .int 0, .int 0, .int 0])), (aEf, .inr (0, [.int 0, .int 0, .int 0, .int 0, .int 0, .int 0, .int 0, .int 0, .long 0, .int 0, .int 0])), (aRg, .inl (cI, 32, .inl (fun _ => 0))), (aWo, .inl (cI, 512, .inl (fun _ => 0))), (aCo, .inl (cI, 32, .inl (fun _ => 0))), (aVa, .inl (cI, 32, .inl (fun _ => 0)))] := hD
  refine W.widen (k := 18) (n := 3601) (Nat.le_of_ble_eq_true rfl) (Nat.le_of_ble_eq_true rfl) ?_
  refine va_putF (D := G) (ci := 10) (v := .ref aEx) (ty := .object "TwinIssue$Executor") (C := RX10) (T := TX10) (N := 5) hx hb hts iwX10_init_X10 tyX10 tyX10_ok nmX10 hown hK hP hD hS 0 rfl rfl 0 (by decide) (hts _ lwX10_init_18) (fun _ h9 => h9) rfl hin rfl (by decide +kernel) rfl rfl (Nat.le_of_ble_eq_true rfl) dX10_init_38 (fun H locs hP hD hS => ?_)
  have hP : va_P G vwCl [(aT, .inr (10, [.ref aEx, .ref aPi, .ref aEv, .int 0, .int 0])), (aPi, .inr (7, [.int 0, .int 0, .int 0, .ref aIs, .ref aRd, .int 0, .int 0, .int 0, .int 0, .int 0, .int 0, .int 0, .int 0, .int 0])), (aIs, .inl (cI, 8, .inl (fun _ => 0))), (aRd, .inl (cI, 36, .inl (fun _ => 0))), (aEv, .inr (1, [.ref aFi, .int 0, .int 0, .int 0, .int 0, .int 0])), (aFi, .inl (cI, 2816, .inl (fun _ => 0))), (aEx, .inr (2, [.ref aMe, .ref aSt, .ref aIn, .ref aEf])), (aMe, .inr (6, [.ref aPg])), (aPg, .inl (cP, 64, .inr (.inr (.inr (.inr (fun _ => none)))))), (aSt, .inr (9, [.ref aRg, .ref aSp, .int 256, .int 0, .int 0, .int 0])), (aSp, .inr (8, [.ref aMp, .ref aLi, .int 1, .int 0, .int 0, .int 0, .int 0, .long 0, .int 0, .int 0, .int 0, .int 0, .int 0])), (aMp, .inr (5, [.ref aWo, .int (fX10_setsFor p0)])), (aLi, .inr (4, [.ref aCo, .ref aVa, .int 0, .int 0])), (aIn, .inr (3, [.int 0, .int 0, .int 0, .int 0, .int 0, .int 0, .int 0, .int 0])), (aEf, .inr (0, [.int 0, .int 0, .int 0, .int 0, .int 0, .int 0, .int 0, .int 0, .long 0, .int 0, .int 0])), (aRg, .inl (cI, 32, .inl (fun _ => 0))), (aWo, .inl (cI, 512, .inl (fun _ => 0))), (aCo, .inl (cI, 32, .inl (fun _ => 0))), (aVa, .inl (cI, 32, .inl (fun _ => 0)))] H := hP
  have hD : va_D A [(aT, .inr (10, [.ref aEx, .ref aPi, .ref aEv, .int 0, .int 0])), (aPi, .inr (7, [.int 0, .int 0, .int 0, .ref aIs, .ref aRd, .int 0, .int 0, .int 0, .int 0, .int 0, .int 0, .int 0, .int 0, .int 0])), (aIs, .inl (cI, 8, .inl (fun _ => 0))), (aRd, .inl (cI, 36, .inl (fun _ => 0))), (aEv, .inr (1, [.ref aFi, .int 0, .int 0, .int 0, .int 0, .int 0])), (aFi, .inl (cI, 2816, .inl (fun _ => 0))), (aEx, .inr (2, [.ref aMe, .ref aSt, .ref aIn, .ref aEf])), (aMe, .inr (6, [.ref aPg])), (aPg, .inl (cP, 64, .inr (.inr (.inr (.inr (fun _ => none)))))), (aSt, .inr (9, [.ref aRg, .ref aSp, .int 256, .int 0, .int 0, .int 0])), (aSp, .inr (8, [.ref aMp, .ref aLi, .int 1, .int 0, .int 0, .int 0, .int 0, .long 0, .int 0, .int 0, .int 0, .int 0, .int 0])), (aMp, .inr (5, [.ref aWo, .int (fX10_setsFor p0)])), (aLi, .inr (4, [.ref aCo, .ref aVa, .int 0, .int 0])), (aIn, .inr (3, [.int 0, .int 0, .int 0, .int 0, .int 0, .int 0, .int 0, .int 0])), (aEf, .inr (0, [.int 0, .int 0, .int 0, .int 0, .int 0, .int 0, .int 0, .int 0, .long 0, .int 0, .int 0])), (aRg, .inl (cI, 32, .inl (fun _ => 0))), (aWo, .inl (cI, 512, .inl (fun _ => 0))), (aCo, .inl (cI, 32, .inl (fun _ => 0))), (aVa, .inl (cI, 32, .inl (fun _ => 0)))] := hD
  have hP := hP.sub (ws' := [(aT, .inr (10, [.ref aEx, .ref aPi, .ref aEv, .int 0, .int 0])), (aEx, .inr (2, [.ref aMe, .ref aSt, .ref aIn, .ref aEf])), (aMe, .inr (6, [.ref aPg])), (aPg, .inl (cP, 64, .inr (.inr (.inr (.inr (fun _ => none)))))), (aSt, .inr (9, [.ref aRg, .ref aSp, .int 256, .int 0, .int 0, .int 0])), (aSp, .inr (8, [.ref aMp, .ref aLi, .int 1, .int 0, .int 0, .int 0, .int 0, .long 0, .int 0, .int 0, .int 0, .int 0, .int 0])), (aMp, .inr (5, [.ref aWo, .int (fX10_setsFor p0)])), (aLi, .inr (4, [.ref aCo, .ref aVa, .int 0, .int 0])), (aIn, .inr (3, [.int 0, .int 0, .int 0, .int 0, .int 0, .int 0, .int 0, .int 0])), (aEf, .inr (0, [.int 0, .int 0, .int 0, .int 0, .int 0, .int 0, .int 0, .int 0, .long 0, .int 0, .int 0])), (aPi, .inr (7, [.int 0, .int 0, .int 0, .ref aIs, .ref aRd, .int 0, .int 0, .int 0, .int 0, .int 0, .int 0, .int 0, .int 0, .int 0])), (aEv, .inr (1, [.ref aFi, .int 0, .int 0, .int 0, .int 0, .int 0])), (aRg, .inl (cI, 32, .inl (fun _ => 0))), (aWo, .inl (cI, 512, .inl (fun _ => 0))), (aCo, .inl (cI, 32, .inl (fun _ => 0))), (aVa, .inl (cI, 32, .inl (fun _ => 0))), (aIs, .inl (cI, 8, .inl (fun _ => 0))), (aRd, .inl (cI, 36, .inl (fun _ => 0))), (aFi, .inl (cI, 2816, .inl (fun _ => 0)))]) [0, 6, 7, 8, 9, 10, 11, 12, 13, 14, 1, 4, 15, 16, 17, 18, 2, 3, 5] rfl
  have hD := hD.sub (ws' := [(aT, .inr (10, [.ref aEx, .ref aPi, .ref aEv, .int 0, .int 0])), (aEx, .inr (2, [.ref aMe, .ref aSt, .ref aIn, .ref aEf])), (aMe, .inr (6, [.ref aPg])), (aPg, .inl (cP, 64, .inr (.inr (.inr (.inr (fun _ => none)))))), (aSt, .inr (9, [.ref aRg, .ref aSp, .int 256, .int 0, .int 0, .int 0])), (aSp, .inr (8, [.ref aMp, .ref aLi, .int 1, .int 0, .int 0, .int 0, .int 0, .long 0, .int 0, .int 0, .int 0, .int 0, .int 0])), (aMp, .inr (5, [.ref aWo, .int (fX10_setsFor p0)])), (aLi, .inr (4, [.ref aCo, .ref aVa, .int 0, .int 0])), (aIn, .inr (3, [.int 0, .int 0, .int 0, .int 0, .int 0, .int 0, .int 0, .int 0])), (aEf, .inr (0, [.int 0, .int 0, .int 0, .int 0, .int 0, .int 0, .int 0, .int 0, .long 0, .int 0, .int 0])), (aPi, .inr (7, [.int 0, .int 0, .int 0, .ref aIs, .ref aRd, .int 0, .int 0, .int 0, .int 0, .int 0, .int 0, .int 0, .int 0, .int 0])), (aEv, .inr (1, [.ref aFi, .int 0, .int 0, .int 0, .int 0, .int 0])), (aRg, .inl (cI, 32, .inl (fun _ => 0))), (aWo, .inl (cI, 512, .inl (fun _ => 0))), (aCo, .inl (cI, 32, .inl (fun _ => 0))), (aVa, .inl (cI, 32, .inl (fun _ => 0))), (aIs, .inl (cI, 8, .inl (fun _ => 0))), (aRd, .inl (cI, 36, .inl (fun _ => 0))), (aFi, .inl (cI, 2816, .inl (fun _ => 0)))]) [0, 6, 7, 8, 9, 10, 11, 12, 13, 14, 1, 4, 15, 16, 17, 18, 2, 3, 5] (by decide) rfl
  exact hret H locs _ ls (aPi, aIs, aRd, aEv, aFi, aEx, aMe, aPg, aIn, aEf, aSt, aRg, aSp, aLi, aCo, aVa, aMp, aWo) dX10_init_41 trivial hP hD hS

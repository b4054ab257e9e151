/-! ===== own wrappers: contracts in one form, calls, returns, switches ===== -/
abbrev isB (r : Int32) : Prop := r = 0 ∨ r = 1
theorem nar_b {x : Int32} (h : isB x) : narrow .boolean (.int x) = .int x := by rcases h with rfl | rfl <;> rfl
theorem fit_b {x : Int32} (h : isB x) : fits .boolean (.int x) = true := by rcases h with rfl | rfl <;> rfl
abbrev kTY (cI cB cP : ClassId) : List (ClassId × FieldType) := [(cI, .int), (cB, .byte), (cP, .array .int)]
/-- the class of int[][]: its parts are int[] -/
def kAA (TY : List (ClassId × FieldType)) (U : State) : Prop := ∀ (cI cP : ClassId) (a b : FieldType), TY[0]? = some (cI, a) → TY[2]? = some (cP, b) → ∃ kA : Class, U.vm.classes[cP]? = some kA ∧ kA.kind = .array cI (.array .int)
theorem kAA.moved {TY : List (ClassId × FieldType)} {u U : State} (hvm : u.vm.Alike U.vm) (h : kAA TY u) : kAA TY U := fun cI cP a b h1 h2 => by
  obtain ⟨kA, h3, h4⟩ := h cI cP a b h1 h2
  obtain ⟨k', hk', he⟩ := hvm.2.2 _ _ h3
  exact ⟨k', hk', by rw [he]; exact h4⟩
def kA (TY : List (ClassId × FieldType)) (A : Nat → Prop) (s : State) : Prop := (∀ q : Nat, s.heap.size ≤ q → A q) ∧ kAA TY s
abbrev kPre (G : va_G) (TY : List (ClassId × FieldType)) (sz : Nat) (WS : va_W) (U : State) : Prop := U.heap.size = sz ∧ va_P G vwCl WS U.heap ∧ va_K G vwCl TY U ∧ va_D (fun _ => True) WS ∧ kAA TY U
abbrev kPost (G : va_G) (A : Nat → Prop) (WS : va_W) (t : State) : Prop := va_P G vwCl WS t.heap ∧ va_D A WS
abbrev kQi {S : Type} (G : va_G) (A : Nat → Prop) (F : Int32 × S) (E : Int32 → S → Prop) (W1 : S → va_W) : Array Value → State → Outcome → State → Prop := va_Qi (fun r u => (r, u) = F ∧ E r u) (fun u t => kPost G A (W1 u) t) A
abbrev kQl {S : Type} (G : va_G) (A : Nat → Prop) (F : Int64 × S) (E : Int64 → S → Prop) (W1 : S → va_W) : Array Value → State → Outcome → State → Prop := va_Ql (fun r u => (r, u) = F ∧ E r u) (fun u t => kPost G A (W1 u) t) A
abbrev kQv {S : Type} (G : va_G) (A : Nat → Prop) (F : S) (E : S → Prop) (W1 : S → va_W) : Array Value → State → Outcome → State → Prop := va_Qv (fun u => u = F ∧ E u) (fun u t => kPost G A (W1 u) t) A
/-- contracts: from the cells WS to the cells W1 u; answer and u are F -/
abbrev kMi {S : Type} (l : Launch) (y : MethodName) (ws : List Cond) (rm : Room) (av : List Value) (G : va_G) (TY : List (ClassId × FieldType)) (sz : Nat) (WS : va_W) (F : Int32 × S) (E : Int32 → S → Prop) (W1 : S → va_W) : Prop :=
  Met l y ws rm (va_Pc av (kPre G TY sz WS)) (kQi G (va_A WS sz) F E W1) rm.cells rm.slots (va_A WS sz)
abbrev kMl {S : Type} (l : Launch) (y : MethodName) (ws : List Cond) (rm : Room) (av : List Value) (G : va_G) (TY : List (ClassId × FieldType)) (sz : Nat) (WS : va_W) (F : Int64 × S) (E : Int64 → S → Prop) (W1 : S → va_W) : Prop :=
  Met l y ws rm (va_Pc av (kPre G TY sz WS)) (kQl G (va_A WS sz) F E W1) rm.cells rm.slots (va_A WS sz)
abbrev kMv {S : Type} (l : Launch) (y : MethodName) (ws : List Cond) (rm : Room) (av : List Value) (G : va_G) (TY : List (ClassId × FieldType)) (sz : Nat) (WS : va_W) (F : S) (E : S → Prop) (W1 : S → va_W) : Prop :=
  Met l y ws rm (va_Pc av (kPre G TY sz WS)) (kQv G (va_A WS sz) F E W1) rm.cells rm.slots (va_A WS sz)
theorem k_blind {av : List Value} {G : va_G} {TY : List (ClassId × FieldType)} {sz : Nat} {WS : va_W} : FrameBlind (va_Pc av (kPre G TY sz WS)) := fun a U g mk q => by
  obtain ⟨q0, q1, qP, qK, qD, qA⟩ := q
  exact ⟨q0, q1, qP, va_K.moved (u := U) (U := U.calling g mk a) (Vm.Alike.refl U.vm) qK, qD, kAA.moved (u := U) (U := U.calling g mk a) (Vm.Alike.refl U.vm) qA⟩
theorem k_fm {α β : Type} {f : α → Option β} {is : List α} {wc : List β} (h : is.map f = wc.map some) : is.filterMap f = wc := by
  have e : is.filterMap f = (is.map f).filterMap id := by rw [List.filterMap_map]; rfl
  rw [e, h, List.filterMap_map]
  simp
/-- the head of a contract's proof -/
theorem k_of {l : Launch} {y : MethodName} {ws ws' : List Cond} {rm : Room} {av : List Value} {G : va_G} {TY : List (ClassId × FieldType)} {sz : Nat} {WS : va_W} {Qc : (Nat → Prop) → Array Value → State → Outcome → State → Prop} {cc : ByteArray} {maxL : Nat} {ret : Option FieldType}
    (hy : plainName y.cls = true) (hw : ws = Cond.code y cc maxL ret :: ws') (hav : (lg_sl av).length ≤ maxL)
    (walk : ∀ (p : Program) (e : Env) (s : State) (m : MethodId) (below : List Frame) (meth : Method) (c : Code) (A : Nat → Prop) (ls : Array Slot), p.tables.exec = Jvm.exec → c.code = cc → meth.sig.returnType = ret → c.maxLocals = maxL → s.vm.findClass y.cls = some m.cls → (∀ w ∈ ws, w.before av.toArray s = true) → meth.locks = false → meth.name = y.name → va_K G vwCl TY s → va_P G vwCl WS s.heap → va_D A WS → kA TY A s → va_S A s.heap s.heap [] → lv_has ls maxL (lv_args 0 av) → A = va_A WS s.heap.size → s.heap.size = sz →
      W p l e rm s m av.toArray below meth c s.heap [] 0 0 (MQ below (Qc A) av.toArray s rm.cells rm.slots A) (F0 m 0 ls [])) :
    Met l y ws rm (va_Pc av (kPre G TY sz WS)) (Qc (va_A WS sz)) rm.cells rm.slots (va_A WS sz) := by
  refine Met.ofW (cc := cc) (maxL := maxL) (ret := ret) hy hw ?_
  intro p e s m args below meth c s₁ B hml hv
  obtain ⟨rfl, hsz, hP, hK, hD0, hAA⟩ := hv
  subst hsz
  have hD := hD0.self (sz := s.heap.size)
  rw [lg_entry_eq]
  exact walk p e s m below meth c (va_A WS s.heap.size) _ B.exec B.bytes B.returns hml (findClass_of_methodNamed B.named) (atoms_spec (ws := ws) B.pre) B.notSynchronized (name_of_methodNamed B.named B.method).1 hK hP hD ⟨fun q h => Or.inr h, hAA⟩ va_S.rf (lv_entry av hav) rfl rfl
abbrev jushr (x y : Int32) : Int32 := (x.toUInt32 >>> (y.toUInt32 &&& Int32.toUInt32 31)).toInt32
abbrev jlushr (x : Int64) (y : Int32) : Int64 := (x.toUInt64 >>> (y.toInt64.toUInt64 &&& Int64.toUInt64 63)).toInt64
abbrev jlshl (x : Int64) (y : Int32) : Int64 := x <<< (y.toInt64 &&& 63)
abbrev jlshr (x : Int64) (y : Int32) : Int64 := x >>> (y.toInt64 &&& 63)
abbrev jrem (x y : Int32) : Int32 := x - x / y * y
abbrev jmax (x y : Int32) : Int32 := if x < y then y else x
theorem k_ofi {l : Launch} {y : MethodName} {ws ws' : List Cond} {rm : Room} {av : List Value} {G : va_G} {TY : List (ClassId × FieldType)} {sz : Nat} {WS : va_W} {S : Type} {F : Int32 × S} {E : Int32 → S → Prop} {W1 : S → va_W} {cc : ByteArray} {maxL : Nat}
    (hy : plainName y.cls = true) (hw : ws = Cond.code y cc maxL (some .int) :: ws') (hav : (lg_sl av).length ≤ maxL)
    (walk : ∀ (p : Program) (e : Env) (s : State) (m : MethodId) (args : Array Value) (below : List Frame) (meth : Method) (c : Code) (A : Nat → Prop) (ls : Array Slot) (Q : State → Prop) (H : Heap) (locs : List Loc), p.tables.exec = Jvm.exec → c.code = cc → c.maxLocals = maxL → s.vm.findClass y.cls = some m.cls → (∀ w ∈ ws, w.before args s = true) → meth.name = y.name → va_K G vwCl TY s → va_P G vwCl WS H → va_D A WS → kA TY A s → va_S A s.heap H locs → lv_has ls maxL (lv_args 0 av) →
      (∀ (H : Heap) (locs : List Loc) (pc : Nat) (ls : Array Slot) (r : Int32) (u : S), decode cc pc = .ok (.ireturn, 1) → (r, u) = F → E r u → va_P G vwCl (W1 u) H → va_D A (W1 u) → va_S A s.heap H locs → W p l e rm s m args below meth c H locs rm.cells rm.slots Q (F0 m pc ls [.int r])) → W p l e rm s m args below meth c H locs 0 0 Q (F0 m 0 ls [])) : kMi l y ws rm av G TY sz WS F E W1 := by
  refine k_of (Qc := fun A => kQi G A F E W1) hy hw hav ?_
  intro p e s m below meth c A ls hx hb hr hml hown hts hlocks hin hK hP hD hA hS hl hAe hsz
  refine walk p e s m _ below meth c A ls _ s.heap [] hx hb hml hown hts hin hK hP hD hA hS hl (fun H locs pc ls r u hdg hw hE hP hD hS => ?_)
  exact W.iret (v := r) hx hb hr (fun t ht hW => ⟨⟨r, u, rfl, ⟨hw, hE⟩, by rw [ht]; exact hP, hD⟩, hS.F ht⟩) hS.2.2 hdg
theorem k_ofz {l : Launch} {y : MethodName} {ws ws' : List Cond} {rm : Room} {av : List Value} {G : va_G} {TY : List (ClassId × FieldType)} {sz : Nat} {WS : va_W} {S : Type} {F : Int32 × S} {E : Int32 → S → Prop} {W1 : S → va_W} {cc : ByteArray} {maxL : Nat}
    (hy : plainName y.cls = true) (hw : ws = Cond.code y cc maxL (some .boolean) :: ws') (hav : (lg_sl av).length ≤ maxL)
    (walk : ∀ (p : Program) (e : Env) (s : State) (m : MethodId) (args : Array Value) (below : List Frame) (meth : Method) (c : Code) (A : Nat → Prop) (ls : Array Slot) (Q : State → Prop) (H : Heap) (locs : List Loc), p.tables.exec = Jvm.exec → c.code = cc → c.maxLocals = maxL → s.vm.findClass y.cls = some m.cls → (∀ w ∈ ws, w.before args s = true) → meth.name = y.name → va_K G vwCl TY s → va_P G vwCl WS H → va_D A WS → kA TY A s → va_S A s.heap H locs → lv_has ls maxL (lv_args 0 av) →
      (∀ (H : Heap) (locs : List Loc) (pc : Nat) (ls : Array Slot) (r : Int32) (u : S), decode cc pc = .ok (.ireturn, 1) → (r, u) = F → isB r → E r u → va_P G vwCl (W1 u) H → va_D A (W1 u) → va_S A s.heap H locs → W p l e rm s m args below meth c H locs rm.cells rm.slots Q (F0 m pc ls [.int r])) → W p l e rm s m args below meth c H locs 0 0 Q (F0 m 0 ls [])) : kMi l y ws rm av G TY sz WS F E W1 := by
  refine k_of (Qc := fun A => kQi G A F E W1) hy hw hav ?_
  intro p e s m below meth c A ls hx hb hr hml hown hts hlocks hin hK hP hD hA hS hl hAe hsz
  refine walk p e s m _ below meth c A ls _ s.heap [] hx hb hml hown hts hin hK hP hD hA hS hl (fun H locs pc ls r u hdg hw hz hE hP hD hS => ?_)
  exact W.zret (v := r) hx hb hr (nar_b hz) (fun t ht hW => ⟨⟨r, u, rfl, ⟨hw, hE⟩, by rw [ht]; exact hP, hD⟩, hS.F ht⟩) hS.2.2 hdg
theorem k_ofl {l : Launch} {y : MethodName} {ws ws' : List Cond} {rm : Room} {av : List Value} {G : va_G} {TY : List (ClassId × FieldType)} {sz : Nat} {WS : va_W} {S : Type} {F : Int64 × S} {E : Int64 → S → Prop} {W1 : S → va_W} {cc : ByteArray} {maxL : Nat}
    (hy : plainName y.cls = true) (hw : ws = Cond.code y cc maxL (some .long) :: ws') (hav : (lg_sl av).length ≤ maxL)
    (walk : ∀ (p : Program) (e : Env) (s : State) (m : MethodId) (args : Array Value) (below : List Frame) (meth : Method) (c : Code) (A : Nat → Prop) (ls : Array Slot) (Q : State → Prop) (H : Heap) (locs : List Loc), p.tables.exec = Jvm.exec → c.code = cc → c.maxLocals = maxL → s.vm.findClass y.cls = some m.cls → (∀ w ∈ ws, w.before args s = true) → meth.name = y.name → va_K G vwCl TY s → va_P G vwCl WS H → va_D A WS → kA TY A s → va_S A s.heap H locs → lv_has ls maxL (lv_args 0 av) →
      (∀ (H : Heap) (locs : List Loc) (pc : Nat) (ls : Array Slot) (r : Int64) (u : S), decode cc pc = .ok (.lreturn, 1) → (r, u) = F → E r u → va_P G vwCl (W1 u) H → va_D A (W1 u) → va_S A s.heap H locs → W p l e rm s m args below meth c H locs rm.cells rm.slots Q (F0 m pc ls [.long r])) → W p l e rm s m args below meth c H locs 0 0 Q (F0 m 0 ls [])) : kMl l y ws rm av G TY sz WS F E W1 := by
  refine k_of (Qc := fun A => kQl G A F E W1) hy hw hav ?_
  intro p e s m below meth c A ls hx hb hr hml hown hts hlocks hin hK hP hD hA hS hl hAe hsz
  refine walk p e s m _ below meth c A ls _ s.heap [] hx hb hml hown hts hin hK hP hD hA hS hl (fun H locs pc ls r u hdg hw hE hP hD hS => ?_)
  exact W.lret (v := r) hx hb hr (fun t ht hW => ⟨⟨r, u, rfl, ⟨hw, hE⟩, by rw [ht]; exact hP, hD⟩, hS.F ht⟩) hS.2.2 hdg
theorem k_ofv {l : Launch} {y : MethodName} {ws ws' : List Cond} {rm : Room} {av : List Value} {G : va_G} {TY : List (ClassId × FieldType)} {sz : Nat} {WS : va_W} {S : Type} {F : S} {E : S → Prop} {W1 : S → va_W} {cc : ByteArray} {maxL : Nat}
    (hy : plainName y.cls = true) (hw : ws = Cond.code y cc maxL none :: ws') (hav : (lg_sl av).length ≤ maxL)
    (walk : ∀ (p : Program) (e : Env) (s : State) (m : MethodId) (args : Array Value) (below : List Frame) (meth : Method) (c : Code) (A : Nat → Prop) (ls : Array Slot) (Q : State → Prop) (H : Heap) (locs : List Loc), p.tables.exec = Jvm.exec → c.code = cc → c.maxLocals = maxL → s.vm.findClass y.cls = some m.cls → (∀ w ∈ ws, w.before args s = true) → meth.name = y.name → va_K G vwCl TY s → va_P G vwCl WS H → va_D A WS → kA TY A s → va_S A s.heap H locs → lv_has ls maxL (lv_args 0 av) →
      (∀ (H : Heap) (locs : List Loc) (pc : Nat) (ls : Array Slot) (u : S), decode cc pc = .ok (.return_, 1) → u = F → E u → va_P G vwCl (W1 u) H → va_D A (W1 u) → va_S A s.heap H locs → W p l e rm s m args below meth c H locs rm.cells rm.slots Q (F0 m pc ls [])) → W p l e rm s m args below meth c H locs 0 0 Q (F0 m 0 ls [])) : kMv l y ws rm av G TY sz WS F E W1 := by
  refine k_of (Qc := fun A => kQv G A F E W1) hy hw hav ?_
  intro p e s m below meth c A ls hx hb hr hml hown hts hlocks hin hK hP hD hA hS hl hAe hsz
  refine walk p e s m _ below meth c A ls _ s.heap [] hx hb hml hown hts hin hK hP hD hA hS hl (fun H locs pc ls u hdg hw hE hP hD hS => ?_)
  exact W.vret hx hb hr (fun t ht hW => ⟨⟨u, rfl, ⟨hw, hE⟩, by rw [ht]; exact hP, hD⟩, hS.F ht⟩) hS.2.2 hdg
theorem look_dflt (ps : List (Int × Int)) (dflt k : Int) (h : ∀ q ∈ ps, q.1 ≠ k) : Op.lookupswitch.offset ps dflt k = dflt := by
  induction ps with
  | nil => rfl
  | cons q r ih =>
    obtain ⟨a, o⟩ := q
    rw [Op.lookupswitch.offset_cons, if_neg (h (a, o) List.mem_cons_self)]
    exact ih (fun q hq => h q (List.mem_cons_of_mem _ hq))
theorem vp_mask (x : Int32) (k : Nat) (m : Int32) {n : Nat} (hm : m.toBitVec.toNat = 2 ^ k - 1) (hk : k ≤ 30) (hn : 2 ^ k ≤ n) : vp_in (x &&& m) n := by
  have h := pk_andIn x k hm hk
  rw [vp_in_iff] at h ⊢
  exact ⟨h.1, Int.lt_of_lt_of_le h.2 (Int.ofNat_le.mpr hn)⟩
section KC
variable {p : Program} {l : Launch} {e : Env} {R : Room} {s : State} {m : MethodId} {args : Array Value} {below : List Frame} {meth : Method} {c : Code} {H : Heap} {locs : List Loc} {cells slots : Nat} {Q : State → Prop} {G : va_G} {TY : List (ClassId × FieldType)} {ws wc wr : va_W} {A : Nat → Prop} {S : Type} {Ts wsy : List Cond} {cc bytes : ByteArray} {nL maxL index n pc : Nat} {own C : String} {y : MethodName} {ret : Option FieldType} {rm : Room} {As rest : List Value} {b : Nat} {ls : Array Slot}
/-- the cells of a call: cut out, and put back -/
theorem k_cut (hP : va_P G vwCl ws H) (hD : va_D A ws) (isC : List Nat) (hC : isC.map (fun i => ws[i]?) = wc.map some) (hnd : va_nd isC = true) : va_P G vwCl wc H ∧ va_D (fun _ => True) wc :=
  ⟨hP.sub (ws' := wc) isC (k_fm hC), (hD.sub (ws' := wc) isC hnd hC).weaken (fun _ _ _ _ => trivial)⟩
theorem k_iV {F : Int32 × S} {E : Int32 → S → Prop} {W1 : S → va_W} (Sx : CallFix p m c cc nL s args Ts own) (hK : va_K G vwCl TY s) (hP : va_P G vwCl ws H) (hD : va_D A ws) (hS : va_S A s.heap H locs) (hA : kA TY A s) (isC isR : List Nat) (hC : isC.map (fun i => ws[i]?) = wc.map some) (hR : isR.map (fun i => ws[i]?) = wr.map some) (hnd : va_nd isC = true) (hn : va_nd isR = true) (hdis : ∀ i ∈ isR, i ∉ isC)
    (hM : kMi l y wsy rm (.ref b :: As) G TY H.size wc F E W1) (cw : CallW R s args own C index y bytes maxL ret wsy rm rm.cells rm.slots n) (q0 ci : Nat) {cq : vw_C} {fs : List Value} (hc : vwCl[ci]? = some cq) (he : ws[q0]? = some (b, .inr (ci, fs))) (hCn : cq.1 = C) (hlen : As.length = n) (hsz : ls.size = nL) {st0 : List Value} (hst : st0 = As.reverse ++ .ref b :: rest) (hroom : (rest.map fun v => v.category).sum ≤ 8) (hdg : decode cc pc = .ok (.invokevirtual index, 3)) (hf : cells + rm.cells ≤ R.cells ∧ slots + rm.slots ≤ R.slots)
    (kk : ∀ (z : Int32 × S) (H1 : Heap) (locs1 : List Loc), z = F → E z.1 z.2 → va_P G vwCl (wr ++ W1 z.2) H1 → va_D A (wr ++ W1 z.2) → va_S A s.heap H1 locs1 → W p l e R s m args below meth c H1 locs1 (cells + rm.cells) (slots + rm.slots) Q (F0 m (pc + 3) ls (.int z.1 :: rest))) :
    W p l e R s m args below meth c H locs cells slots Q (F0 m pc ls st0) := by
  have hcut := k_cut hP hD isC hC hnd
  have hFc := va_free (wc := wc) hD hS hA.1 isC hC
  subst hst
  refine va_calli (va_runV (As := As) (rest := rest) Sx hM cw ⟨k_blind, hCn ▸ va_recv hK hP hc he, fun U hU hW => ⟨rfl, by rw [hU], by rw [hU]; exact hcut.1, va_K.moved hW.alike hK, hcut.2, hA.2.moved hW.alike⟩⟩ rfl hlen hsz rfl (lv_room hroom) hdg hf) hS (fun q _ h => hFc q h) hFc (fun r u t H1 locs1 ht hvm hw hB hz1 hk1 hS1 => ?_)
  obtain ⟨hP1, hD1⟩ := hB
  rw [ht] at hP1
  obtain ⟨hP2, hD2⟩ := va_join (wr := wr) (w1 := W1 u) hP hD isC isR hC hR hn hdis hk1 hFc hP1 hD1
  exact kk (r, u) H1 locs1 hw.1 hw.2 hP2 hD2 hS1
theorem k_lV {F : Int64 × S} {E : Int64 → S → Prop} {W1 : S → va_W} (Sx : CallFix p m c cc nL s args Ts own) (hK : va_K G vwCl TY s) (hP : va_P G vwCl ws H) (hD : va_D A ws) (hS : va_S A s.heap H locs) (hA : kA TY A s) (isC isR : List Nat) (hC : isC.map (fun i => ws[i]?) = wc.map some) (hR : isR.map (fun i => ws[i]?) = wr.map some) (hnd : va_nd isC = true) (hn : va_nd isR = true) (hdis : ∀ i ∈ isR, i ∉ isC)
    (hM : kMl l y wsy rm (.ref b :: As) G TY H.size wc F E W1) (cw : CallW R s args own C index y bytes maxL ret wsy rm rm.cells rm.slots n) (q0 ci : Nat) {cq : vw_C} {fs : List Value} (hc : vwCl[ci]? = some cq) (he : ws[q0]? = some (b, .inr (ci, fs))) (hCn : cq.1 = C) (hlen : As.length = n) (hsz : ls.size = nL) {st0 : List Value} (hst : st0 = As.reverse ++ .ref b :: rest) (hroom : (rest.map fun v => v.category).sum ≤ 8) (hdg : decode cc pc = .ok (.invokevirtual index, 3)) (hf : cells + rm.cells ≤ R.cells ∧ slots + rm.slots ≤ R.slots)
    (kk : ∀ (z : Int64 × S) (H1 : Heap) (locs1 : List Loc), z = F → E z.1 z.2 → va_P G vwCl (wr ++ W1 z.2) H1 → va_D A (wr ++ W1 z.2) → va_S A s.heap H1 locs1 → W p l e R s m args below meth c H1 locs1 (cells + rm.cells) (slots + rm.slots) Q (F0 m (pc + 3) ls (.long z.1 :: rest))) :
    W p l e R s m args below meth c H locs cells slots Q (F0 m pc ls st0) := by
  have hcut := k_cut hP hD isC hC hnd
  have hFc := va_free (wc := wc) hD hS hA.1 isC hC
  subst hst
  refine va_calll (va_runV (As := As) (rest := rest) Sx hM cw ⟨k_blind, hCn ▸ va_recv hK hP hc he, fun U hU hW => ⟨rfl, by rw [hU], by rw [hU]; exact hcut.1, va_K.moved hW.alike hK, hcut.2, hA.2.moved hW.alike⟩⟩ rfl hlen hsz rfl (lv_room hroom) hdg hf) hS (fun q _ h => hFc q h) hFc (fun r u t H1 locs1 ht hvm hw hB hz1 hk1 hS1 => ?_)
  obtain ⟨hP1, hD1⟩ := hB
  rw [ht] at hP1
  obtain ⟨hP2, hD2⟩ := va_join (wr := wr) (w1 := W1 u) hP hD isC isR hC hR hn hdis hk1 hFc hP1 hD1
  exact kk (r, u) H1 locs1 hw.1 hw.2 hP2 hD2 hS1
theorem k_vV {F : S} {E : S → Prop} {W1 : S → va_W} (Sx : CallFix p m c cc nL s args Ts own) (hK : va_K G vwCl TY s) (hP : va_P G vwCl ws H) (hD : va_D A ws) (hS : va_S A s.heap H locs) (hA : kA TY A s) (isC isR : List Nat) (hC : isC.map (fun i => ws[i]?) = wc.map some) (hR : isR.map (fun i => ws[i]?) = wr.map some) (hnd : va_nd isC = true) (hn : va_nd isR = true) (hdis : ∀ i ∈ isR, i ∉ isC)
    (hM : kMv l y wsy rm (.ref b :: As) G TY H.size wc F E W1) (cw : CallW R s args own C index y bytes maxL ret wsy rm rm.cells rm.slots n) (q0 ci : Nat) {cq : vw_C} {fs : List Value} (hc : vwCl[ci]? = some cq) (he : ws[q0]? = some (b, .inr (ci, fs))) (hCn : cq.1 = C) (hlen : As.length = n) (hsz : ls.size = nL) {st0 : List Value} (hst : st0 = As.reverse ++ .ref b :: rest) (hroom : (rest.map fun v => v.category).sum ≤ 8) (hdg : decode cc pc = .ok (.invokevirtual index, 3)) (hf : cells + rm.cells ≤ R.cells ∧ slots + rm.slots ≤ R.slots)
    (kk : ∀ (z : S) (H1 : Heap) (locs1 : List Loc), z = F → E z → va_P G vwCl (wr ++ W1 z) H1 → va_D A (wr ++ W1 z) → va_S A s.heap H1 locs1 → W p l e R s m args below meth c H1 locs1 (cells + rm.cells) (slots + rm.slots) Q (F0 m (pc + 3) ls rest)) :
    W p l e R s m args below meth c H locs cells slots Q (F0 m pc ls st0) := by
  have hcut := k_cut hP hD isC hC hnd
  have hFc := va_free (wc := wc) hD hS hA.1 isC hC
  subst hst
  refine va_callv (va_runV (As := As) (rest := rest) Sx hM cw ⟨k_blind, hCn ▸ va_recv hK hP hc he, fun U hU hW => ⟨rfl, by rw [hU], by rw [hU]; exact hcut.1, va_K.moved hW.alike hK, hcut.2, hA.2.moved hW.alike⟩⟩ rfl hlen hsz rfl (lv_room hroom) hdg hf) hS (fun q _ h => hFc q h) hFc (fun u t H1 locs1 ht hvm hw hB hz1 hk1 hS1 => ?_)
  obtain ⟨hP1, hD1⟩ := hB
  rw [ht] at hP1
  obtain ⟨hP2, hD2⟩ := va_join (wr := wr) (w1 := W1 u) hP hD isC isR hC hR hn hdis hk1 hFc hP1 hD1
  exact kk u H1 locs1 hw.1 hw.2 hP2 hD2 hS1
theorem k_iSC {F : Int32 × S} {E : Int32 → S → Prop} {W1 : S → va_W} (Sx : CallFix p m c cc nL s args Ts own) (hK : va_K G vwCl TY s) (hP : va_P G vwCl ws H) (hD : va_D A ws) (hS : va_S A s.heap H locs) (hA : kA TY A s) (isC isR : List Nat) (hC : isC.map (fun i => ws[i]?) = wc.map some) (hR : isR.map (fun i => ws[i]?) = wr.map some) (hnd : va_nd isC = true) (hn : va_nd isR = true) (hdis : ∀ i ∈ isR, i ∉ isC)
    (hM : kMi l y wsy rm As G TY H.size wc F E W1) (cw : CallB R s args own index y bytes maxL ret wsy rm rm.cells rm.slots n ∧ (Cond.static y).before args s = true) (hlen : As.length = n) (hsz : ls.size = nL) {st0 : List Value} (hst : st0 = As.reverse ++ rest) (hroom : (rest.map fun v => v.category).sum ≤ 8) (hdg : decode cc pc = .ok (.invokestatic index, 3)) (hf : cells + rm.cells ≤ R.cells ∧ slots + rm.slots ≤ R.slots)
    (kk : ∀ (z : Int32 × S) (H1 : Heap) (locs1 : List Loc), z = F → E z.1 z.2 → va_P G vwCl (wr ++ W1 z.2) H1 → va_D A (wr ++ W1 z.2) → va_S A s.heap H1 locs1 → W p l e R s m args below meth c H1 locs1 (cells + rm.cells) (slots + rm.slots) Q (F0 m (pc + 3) ls (.int z.1 :: rest))) :
    W p l e R s m args below meth c H locs cells slots Q (F0 m pc ls st0) := by
  have hcut := k_cut hP hD isC hC hnd
  have hFc := va_free (wc := wc) hD hS hA.1 isC hC
  subst hst
  refine va_calli (va_runS (As := As) (rest := rest) Sx hM cw ⟨k_blind, fun U hU hW => ⟨rfl, by rw [hU], by rw [hU]; exact hcut.1, va_K.moved hW.alike hK, hcut.2, hA.2.moved hW.alike⟩⟩ rfl hlen hsz rfl (lv_room hroom) hdg hf) hS (fun q _ h => hFc q h) hFc (fun r u t H1 locs1 ht hvm hw hB hz1 hk1 hS1 => ?_)
  obtain ⟨hP1, hD1⟩ := hB
  rw [ht] at hP1
  obtain ⟨hP2, hD2⟩ := va_join (wr := wr) (w1 := W1 u) hP hD isC isR hC hR hn hdis hk1 hFc hP1 hD1
  exact kk (r, u) H1 locs1 hw.1 hw.2 hP2 hD2 hS1
theorem k_vSC {F : S} {E : S → Prop} {W1 : S → va_W} (Sx : CallFix p m c cc nL s args Ts own) (hK : va_K G vwCl TY s) (hP : va_P G vwCl ws H) (hD : va_D A ws) (hS : va_S A s.heap H locs) (hA : kA TY A s) (isC isR : List Nat) (hC : isC.map (fun i => ws[i]?) = wc.map some) (hR : isR.map (fun i => ws[i]?) = wr.map some) (hnd : va_nd isC = true) (hn : va_nd isR = true) (hdis : ∀ i ∈ isR, i ∉ isC)
    (hM : kMv l y wsy rm As G TY H.size wc F E W1) (cw : CallB R s args own index y bytes maxL ret wsy rm rm.cells rm.slots n ∧ (Cond.static y).before args s = true) (hlen : As.length = n) (hsz : ls.size = nL) {st0 : List Value} (hst : st0 = As.reverse ++ rest) (hroom : (rest.map fun v => v.category).sum ≤ 8) (hdg : decode cc pc = .ok (.invokestatic index, 3)) (hf : cells + rm.cells ≤ R.cells ∧ slots + rm.slots ≤ R.slots)
    (kk : ∀ (z : S) (H1 : Heap) (locs1 : List Loc), z = F → E z → va_P G vwCl (wr ++ W1 z) H1 → va_D A (wr ++ W1 z) → va_S A s.heap H1 locs1 → W p l e R s m args below meth c H1 locs1 (cells + rm.cells) (slots + rm.slots) Q (F0 m (pc + 3) ls rest)) :
    W p l e R s m args below meth c H locs cells slots Q (F0 m pc ls st0) := by
  have hcut := k_cut hP hD isC hC hnd
  have hFc := va_free (wc := wc) hD hS hA.1 isC hC
  subst hst
  refine va_callv (va_runS (As := As) (rest := rest) Sx hM cw ⟨k_blind, fun U hU hW => ⟨rfl, by rw [hU], by rw [hU]; exact hcut.1, va_K.moved hW.alike hK, hcut.2, hA.2.moved hW.alike⟩⟩ rfl hlen hsz rfl (lv_room hroom) hdg hf) hS (fun q _ h => hFc q h) hFc (fun u t H1 locs1 ht hvm hw hB hz1 hk1 hS1 => ?_)
  obtain ⟨hP1, hD1⟩ := hB
  rw [ht] at hP1
  obtain ⟨hP2, hD2⟩ := va_join (wr := wr) (w1 := W1 u) hP hD isC isR hC hR hn hdis hk1 hFc hP1 hD1
  exact kk u H1 locs1 hw.1 hw.2 hP2 hD2 hS1
/-- a static method that has no cells -/
theorem k_iS {F : Int32} {E : Int32 → Prop} (Sx : CallFix p m c cc nL s args Ts own) (hK : va_K G vwCl TY s) (hP : va_P G vwCl ws H) (hD : va_D A ws) (hS : va_S A s.heap H locs) (hA : kA TY A s)
    (hM : kMi l y wsy rm As G TY H.size [] (F, ()) (fun r _ => E r) (fun _ => [])) (cw : CallB R s args own index y bytes maxL ret wsy rm rm.cells rm.slots n ∧ (Cond.static y).before args s = true) (hlen : As.length = n) (hsz : ls.size = nL) {st0 : List Value} (hst : st0 = As.reverse ++ rest) (hroom : (rest.map fun v => v.category).sum ≤ 8) (hdg : decode cc pc = .ok (.invokestatic index, 3)) (hf : cells + rm.cells ≤ R.cells ∧ slots + rm.slots ≤ R.slots)
    (kk : ∀ (z : Int32) (H1 : Heap) (locs1 : List Loc), z = F → E z → va_P G vwCl ws H1 → va_S A s.heap H1 locs1 → W p l e R s m args below meth c H1 locs1 (cells + rm.cells) (slots + rm.slots) Q (F0 m (pc + 3) ls (.int z :: rest))) :
    W p l e R s m args below meth c H locs cells slots Q (F0 m pc ls st0) := by
  have hP0 : va_P G vwCl [] H := fun k q h => by simp at h
  have hD0 : va_D (fun _ => True) [] := ⟨fun i j p q h => by simp at h, fun k q h => by simp at h⟩
  have hFc : ∀ q, va_A [] H.size q → A q := fun q h => by
    rcases h with ⟨k, e', h⟩ | h
    · simp at h
    · exact hA.1 q (Nat.le_trans hS.1 h)
  subst hst
  refine va_calli (va_runS (As := As) (rest := rest) Sx hM cw ⟨k_blind, fun U hU hW => ⟨rfl, by rw [hU], by rw [hU]; exact hP0, va_K.moved hW.alike hK, hD0, hA.2.moved hW.alike⟩⟩ rfl hlen hsz rfl (lv_room hroom) hdg hf) hS (fun q _ h => hFc q h) hFc (fun r u t H1 locs1 ht hvm hw hB hz1 hk1 hS1 => ?_)
  refine kk r H1 locs1 (congrArg Prod.fst hw.1) hw.2 (fun k q hq => ?_) hS1
  have hlt : q.1 < H.size := by
    have h1 := hP k q hq
    unfold va_at at h1
    split at h1
    · exact (Array.getElem?_eq_some_iff.mp h1).1
    · obtain ⟨r1, -, cell, g1, -⟩ := h1
      exact (Array.getElem?_eq_some_iff.mp g1).1
  have hsame : H1[q.1]? = H[q.1]? := hk1 q.1 hlt (fun h => by
    rcases h with ⟨k', e', h⟩ | h
    · simp at h
    · exact Nat.not_le.mpr hlt h)
  have h1 := hP k q hq
  unfold va_at at h1 ⊢
  split at h1
  · exact hsame.trans h1
  · obtain ⟨r1, a1, a2⟩ := h1
    exact ⟨r1, a1, a2.kept hsame⟩
/-- a table's place by its value; what is left goes to the default -/
theorem k_tab (hexec : p.tables.exec = Jvm.exec) (hb : c.code = cc) {dflt lo hi : Int} {offs : Array Int} {len : Nat} {x : Int32} {off : Int} {tgt : Nat} (hdg : decode cc pc = .ok (.tableswitch dflt lo hi offs, len)) {k : Int32} (hk : x = k) (h1 : ¬ k.toInt < lo) (h2 : ¬ hi < k.toInt) (ho : offs[(k.toInt - lo).toNat]? = some off) (ht : (pc : Int) + off = (tgt : Int))
    (kk : W p l e R s m args below meth c H locs cells slots Q (F0 m tgt ls rest)) : W p l e R s m args below meth c H locs cells slots Q (F0 m pc ls (.int x :: rest)) := by
  subst hk
  exact lv_tableIn hexec hb hdg h1 h2 ho ht kk
theorem k_tabD (hexec : p.tables.exec = Jvm.exec) (hb : c.code = cc) {dflt lo hi : Int} {offs : Array Int} {len : Nat} {x : Int32} {tgt : Nat} (hdg : decode cc pc = .ok (.tableswitch dflt lo hi offs, len)) (ks : List Int32) (hk : ∀ k ∈ ks, x ≠ k) (hsz : lo + offs.size = hi + 1) (hd : ∀ i : Fin offs.size, (∃ k ∈ ks, k.toInt = lo + (i.val : Int)) ∨ offs[i.val]? = some dflt) (ht : (pc : Int) + dflt = (tgt : Int))
    (kk : W p l e R s m args below meth c H locs cells slots Q (F0 m tgt ls rest)) : W p l e R s m args below meth c H locs cells slots Q (F0 m pc ls (.int x :: rest)) := by
  by_cases h1 : x.toInt < lo ∨ hi < x.toInt
  · exact lv_tableOut hexec hb hdg h1 ht kk
  · have h2 : ¬ x.toInt < lo := fun h => h1 (Or.inl h)
    have h3 : ¬ hi < x.toInt := fun h => h1 (Or.inr h)
    have hlt : (x.toInt - lo).toNat < offs.size := by omega
    rcases hd ⟨(x.toInt - lo).toNat, hlt⟩ with ⟨k, hk1, hk2⟩ | hoff
    · exact absurd (Int32.toInt_inj.mp (by rw [hk2]; show x.toInt = lo + (((x.toInt - lo).toNat : Nat) : Int); omega)) (hk k hk1)
    · exact lv_tableIn hexec hb hdg h2 h3 hoff ht kk
theorem k_look (hexec : p.tables.exec = Jvm.exec) (hb : c.code = cc) {dflt : Int} {ps : Array (Int × Int)} {len : Nat} {x : Int32} {off : Int} {tgt : Nat} (hdg : decode cc pc = .ok (.lookupswitch dflt ps, len)) {k : Int32} (hk : x = k) (hp : (ps.toList.zip (ps.toList.drop 1)).all (fun (a, next) => a.1 < next.1) = true) (ho : Op.lookupswitch.offset ps.toList dflt k.toInt = off) (ht : (pc : Int) + off = (tgt : Int))
    (kk : W p l e R s m args below meth c H locs cells slots Q (F0 m tgt ls rest)) : W p l e R s m args below meth c H locs cells slots Q (F0 m pc ls (.int x :: rest)) := by
  subst hk
  exact lv_lookup hexec hb hdg hp ho ht kk
theorem k_lookD (hexec : p.tables.exec = Jvm.exec) (hb : c.code = cc) {dflt : Int} {ps : Array (Int × Int)} {len : Nat} {x : Int32} {tgt : Nat} (hdg : decode cc pc = .ok (.lookupswitch dflt ps, len)) (ks : List Int32) (hk : ∀ k ∈ ks, x ≠ k) (hp : (ps.toList.zip (ps.toList.drop 1)).all (fun (a, next) => a.1 < next.1) = true) (hd : ∀ q ∈ ps.toList, ∃ k ∈ ks, k.toInt = q.1) (ht : (pc : Int) + dflt = (tgt : Int))
    (kk : W p l e R s m args below meth c H locs cells slots Q (F0 m tgt ls rest)) : W p l e R s m args below meth c H locs cells slots Q (F0 m pc ls (.int x :: rest)) := by
  refine lv_lookup hexec hb hdg hp (look_dflt _ _ _ (fun q hq e => ?_)) ht kk
  obtain ⟨k, hk1, hk2⟩ := hd q hq
  exact hk k hk1 (Int32.toInt_inj.mp (by rw [hk2, e]))
theorem k_top {x y : Int32} (h : x = y) (kk : W p l e R s m args below meth c H locs cells slots Q (F0 m pc ls (.int y :: rest))) : W p l e R s m args below meth c H locs cells slots Q (F0 m pc ls (.int x :: rest)) := by
  subst h
  exact kk
end KC

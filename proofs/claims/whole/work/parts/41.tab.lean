/-! ===== the table TRAITS, and calls that carry it; calls that change MEMORY ===== -/
def trL : List Int32 := [291, 291, 35, 35, 35, 35, 35, 35, 2083, 4131, 289, 33, 33, 33, 32, 33, 33, 33, 131, 129, 8192, 8256, 8200, 8200, 8194, 8258, 545, 545, 1029, 1029, 278560, 278529, 16384, 278528, 307, 305, 2339, 4387, 34819, 34817, 34819, 65568, 33, 33, 33, 33, 43, 33, 33, 35, 33, 545, 545, 545, 1029, 0, 16384, 2081, 147456, 147456, 147456, 147456, 147456, 147456]
theorem vp_u26 (p : Int32) : vp_in (jushr p 26) 64 := by
  rw [vp_in_iff]
  have h := pk_ushr p 26 26 (by decide)
  have hlt : p.toBitVec.toNat < 2 ^ 32 := p.toBitVec.isLt
  have h2 : (jushr p 26).toBitVec.toNat < 64 := by rw [h]; omega
  have h3 : (jushr p 26).toInt = ((jushr p 26).toBitVec.toNat : Int) := by
    show (jushr p 26).toBitVec.toInt = _
    rw [BitVec.toInt_eq_toNat_cond, if_pos (by omega)]
  rw [h3]
  omega
def trI (j : Nat) : Int32 := trL.getD j 0
abbrev trV : Nat → Value := fun j => .int (trI j)
def zTr (t : Nat) (A : Nat → Prop) (U : State) (H : Heap) : Prop := va_Z "TwinIssue" "TRAITS" "[I" (.ref t) A U H ∧ va_T .int t 64 trV A U H ∧ va_Nw (.fieldLinkNest "TwinIssue$Instruction" 34 "TwinIssue" "TRAITS" "[I" "TwinIssue") U
theorem zTr_call {t : Nat} {A B : Nat → Prop} {s U : State} {H : Heap} {locs : List Loc} (hZ : zTr t A s s.heap) (hS : va_S A s.heap H locs) (hF : ∀ q, B q → A q) (hU : U.heap = H) (hW : s.WarmedH U.vm) : zTr t B U U.heap := by
  rw [hU]
  exact ⟨((hZ.1.kept hS.2.1).moved hW.alike).narrow hF, ((hZ.2.1.kept hS.2.1).moved hW.alike).narrow hF, va_Nw.warmF hW hZ.2.2⟩
abbrev kPreZ (t : Nat) (G : va_G) (TY : List (ClassId × FieldType)) (sz : Nat) (WS : va_W) (U : State) : Prop := kPre G TY sz WS U ∧ zTr t (va_A WS sz) U U.heap
theorem k_blindZ {t : Nat} {av : List Value} {G : va_G} {TY : List (ClassId × FieldType)} {sz : Nat} {WS : va_W} : FrameBlind (va_Pc av (kPreZ t G TY sz WS)) := fun a U g mk q => by
  obtain ⟨q0, ⟨q1, qP, qK, qD, qA⟩, z1, z2, z3⟩ := q
  exact ⟨q0, ⟨q1, qP, va_K.moved (u := U) (U := U.calling g mk a) (Vm.Alike.refl U.vm) qK, qD, kAA.moved (u := U) (U := U.calling g mk a) (Vm.Alike.refl U.vm) qA⟩, z1.moved (Vm.Alike.refl U.vm), z2.moved (Vm.Alike.refl U.vm), va_Nw.same rfl rfl z3⟩
abbrev kMvZ {S : Type} (t : Nat) (l : Launch) (y : MethodName) (ws : List Cond) (rm : Room) (av : List Value) (G : va_G) (TY : List (ClassId × FieldType)) (sz : Nat) (WS : va_W) (F : S) (E : S → Prop) (W1 : S → va_W) : Prop :=
  Met l y ws rm (va_Pc av (kPreZ t G TY sz WS)) (kQv G (va_A WS sz) F E W1) rm.cells rm.slots (va_A WS sz)
abbrev kMiMZ {S : Type} (t : Nat) (l : Launch) (y : MethodName) (ws : List Cond) (rm : Room) (av : List Value) (G : va_G) (cI : ClassId) (TY : List (ClassId × FieldType)) (sz : Nat) (WS : va_W) (F : Int32 × S) (E : Int32 → S → Prop) (W1 : S → (Nat → Option Nat) → va_W) (mm : S → Nat → Int32) (pp : S → Nat → Bool) : Prop :=
  Met l y ws rm (va_Pc av (kPreZ t G TY sz WS)) (kQiM G cI (va_A WS sz) F E W1 mm pp) rm.cells rm.slots (va_A WS sz)
theorem k_ofZ {t : Nat} {l : Launch} {y : MethodName} {ws ws' : List Cond} {rm : Room} {av : List Value} {G : va_G} {TY : List (ClassId × FieldType)} {sz : Nat} {WS : va_W} {Qc : (Nat → Prop) → Array Value → State → Outcome → State → Prop} {cc : ByteArray} {maxL : Nat} {ret : Option FieldType}
    (hy : plainName y.cls = true) (hw : ws = Cond.code y cc maxL ret :: ws') (hav : (lg_sl av).length ≤ maxL)
    (walk : ∀ (p : Program) (e : Env) (s : State) (m : MethodId) (below : List Frame) (meth : Method) (c : Code) (A : Nat → Prop) (ls : Array Slot), p.tables.exec = Jvm.exec → c.code = cc → meth.sig.returnType = ret → c.maxLocals = maxL → s.vm.findClass y.cls = some m.cls → (∀ w ∈ ws, w.before av.toArray s = true) → meth.locks = false → meth.name = y.name → va_K G vwCl TY s → va_P G vwCl WS s.heap → va_D A WS → kA TY A s → va_S A s.heap s.heap [] → lv_has ls maxL (lv_args 0 av) → zTr t A s s.heap →
      W p l e rm s m av.toArray below meth c s.heap [] 0 0 (MQ below (Qc A) av.toArray s rm.cells rm.slots A) (F0 m 0 ls [])) :
    Met l y ws rm (va_Pc av (kPreZ t G TY sz WS)) (Qc (va_A WS sz)) rm.cells rm.slots (va_A WS sz) := by
  refine Met.ofW (cc := cc) (maxL := maxL) (ret := ret) hy hw ?_
  intro p e s m args below meth c s₁ B hml hv
  obtain ⟨rfl, ⟨hsz, hP, hK, hD0, hAA⟩, hZ⟩ := hv
  subst hsz
  have hD := hD0.self (sz := s.heap.size)
  rw [lg_entry_eq]
  exact walk p e s m below meth c (va_A WS s.heap.size) _ B.exec B.bytes B.returns hml (findClass_of_methodNamed B.named) (atoms_spec (ws := ws) B.pre) B.notSynchronized (name_of_methodNamed B.named B.method).1 hK hP hD ⟨fun q h => Or.inr h, hAA⟩ va_S.rf (lv_entry av hav) hZ
theorem k_ofvZ {t : Nat} {l : Launch} {y : MethodName} {ws ws' : List Cond} {rm : Room} {av : List Value} {G : va_G} {TY : List (ClassId × FieldType)} {sz : Nat} {WS : va_W} {S : Type} {F : S} {E : S → Prop} {W1 : S → va_W} {cc : ByteArray} {maxL : Nat}
    (hy : plainName y.cls = true) (hw : ws = Cond.code y cc maxL none :: ws') (hav : (lg_sl av).length ≤ maxL)
    (walk : ∀ (p : Program) (e : Env) (s : State) (m : MethodId) (args : Array Value) (below : List Frame) (meth : Method) (c : Code) (A : Nat → Prop) (ls : Array Slot) (Q : State → Prop) (H : Heap) (locs : List Loc), p.tables.exec = Jvm.exec → c.code = cc → c.maxLocals = maxL → s.vm.findClass y.cls = some m.cls → (∀ w ∈ ws, w.before args s = true) → meth.name = y.name → va_K G vwCl TY s → va_P G vwCl WS H → va_D A WS → kA TY A s → va_S A s.heap H locs → lv_has ls maxL (lv_args 0 av) → zTr t A s s.heap →
      (∀ (H : Heap) (locs : List Loc) (pc : Nat) (ls : Array Slot) (u : S), decode cc pc = .ok (.return_, 1) → u = F → E u → va_P G vwCl (W1 u) H → va_D A (W1 u) → va_S A s.heap H locs → W p l e rm s m args below meth c H locs rm.cells rm.slots Q (F0 m pc ls [])) → W p l e rm s m args below meth c H locs 0 0 Q (F0 m 0 ls []))   : kMvZ t l y ws rm av G TY sz WS F E W1 := by
  refine k_ofZ (Qc := fun A => kQv G A F E W1) hy hw hav ?_
  intro p e s m below meth c A ls hx hb hr hml hown hts hlocks hin hK hP hD hA hS hl hZ
  refine walk p e s m _ below meth c A ls _ s.heap [] hx hb hml hown hts hin hK hP hD hA hS hl hZ (fun H locs pc ls u hdg hw hE hP hD hS => ?_)
  exact W.vret hx hb hr (fun t ht hW => ⟨⟨u, rfl, ⟨hw, hE⟩, by rw [ht]; exact hP, hD⟩, hS.F ht⟩) hS.2.2 hdg
theorem k_ofiMZ {t : Nat} {l : Launch} {y : MethodName} {ws ws' : List Cond} {rm : Room} {av : List Value} {G : va_G} {cI : ClassId} {TY : List (ClassId × FieldType)} {sz : Nat} {WS : va_W} {S : Type} {F : Int32 × S} {E : Int32 → S → Prop} {W1 : S → (Nat → Option Nat) → va_W} {mm : S → Nat → Int32} {pp : S → Nat → Bool} {cc : ByteArray} {maxL : Nat} {ty : FieldType}
    (hy : plainName y.cls = true) (hw : ws = Cond.code y cc maxL (some ty) :: ws') (hav : (lg_sl av).length ≤ maxL)
    (walk : ∀ (p : Program) (e : Env) (s : State) (m : MethodId) (args : Array Value) (below : List Frame) (meth : Method) (c : Code) (A : Nat → Prop) (ls : Array Slot) (Q : State → Prop) (H : Heap) (locs : List Loc), p.tables.exec = Jvm.exec → c.code = cc → c.maxLocals = maxL → s.vm.findClass y.cls = some m.cls → (∀ w ∈ ws, w.before args s = true) → meth.name = y.name → va_K G vwCl TY s → va_P G vwCl WS H → va_D A WS → kA TY A s → va_S A s.heap H locs → lv_has ls maxL (lv_args 0 av) → zTr t A s s.heap →
      (∀ (H : Heap) (locs : List Loc) (pc : Nat) (ls : Array Slot) (r : Int32) (u : S) (g : Nat → Option Nat) (LP : List Nat) (pr : Nat → Nat → Int32), decode cc pc = .ok (.ireturn, 1) → (r, u) = F → narrow ty (.int r) = .int r → E r u → mrep g LP pr (mm u) (pp u) → va_P G vwCl (W1 u g ++ va_pl LP (kPg cI pr)) H → va_D A (W1 u g ++ va_pl LP (kPg cI pr)) → va_S A s.heap H locs → W p l e rm s m args below meth c H locs rm.cells rm.slots Q (F0 m pc ls [.int r])) → W p l e rm s m args below meth c H locs 0 0 Q (F0 m 0 ls [])) : kMiMZ t l y ws rm av G cI TY sz WS F E W1 mm pp := by
  refine k_ofZ (Qc := fun A => kQiM G cI A F E W1 mm pp) hy hw hav ?_
  intro p e s m below meth c A ls hx hb hr hml hown hts hlocks hin hK hP hD hA hS hl hZ
  refine walk p e s m _ below meth c A ls _ s.heap [] hx hb hml hown hts hin hK hP hD hA hS hl hZ (fun H locs pc ls r u g LP pr hdg hw hty hE hm hP hD hS => ?_)
  exact W.zret (v := r) hx hb hr hty (fun t ht hW => ⟨⟨r, u, rfl, ⟨hw, hE⟩, g, LP, pr, hm, by rw [ht]; exact hP, hD⟩, hS.F ht⟩) hS.2.2 hdg
section KC
variable {p : Program} {l : Launch} {e : Env} {R : Room} {s : State} {m : MethodId} {args : Array Value} {below : List Frame} {meth : Method} {c : Code} {H : Heap} {locs : List Loc} {cells slots : Nat} {Q : State → Prop} {G : va_G} {TY : List (ClassId × FieldType)} {ws wc wr : va_W} {A : Nat → Prop} {S : Type} {Ts wsy : List Cond} {cc bytes : ByteArray} {nL maxL index n pc : Nat} {own C : String} {y : MethodName} {ret : Option FieldType} {rm : Room} {As rest : List Value} {b : Nat} {ls : Array Slot}
theorem k_vVtZ {t : Nat} {pl : va_W} {F : S} {E : S → Prop} {W1 : S → va_W} (Sx : CallFix p m c cc nL s args Ts own) (hK : va_K G vwCl TY s) (hP : va_P G vwCl (ws ++ pl) H) (hD : va_D A (ws ++ pl)) (hS : va_S A s.heap H locs) (hA : kA TY A s) (isC isR : List Nat) (hC : isC.map (fun i => ws[i]?) = wc.map some) (hR : isR.map (fun i => ws[i]?) = wr.map some) (hnd : va_nd isC = true) (hn : va_nd isR = true) (hdis : ∀ i ∈ isR, i ∉ isC)
    (hZ : zTr t A s s.heap) (hM : kMvZ t l y wsy rm (.ref b :: As) G TY H.size wc F E W1) (cw : CallW R s args own C index y bytes maxL ret wsy rm rm.cells rm.slots n) (q0 ci : Nat) {cq : vw_C} {fs : List Value} (hc : vwCl[ci]? = some cq) (he : ws[q0]? = some (b, .inr (ci, fs))) (hCn : cq.1 = C) (hlen : As.length = n) (hsz : ls.size = nL) {st0 : List Value} (hst : st0 = As.reverse ++ .ref b :: rest) (hroom : (rest.map fun v => v.category).sum ≤ 8) (hdg : decode cc pc = .ok (.invokevirtual index, 3)) (hf : cells + rm.cells ≤ R.cells ∧ slots + rm.slots ≤ R.slots)
    (kk : ∀ (z : S) (H1 : Heap) (locs1 : List Loc), z = F → E z → va_P G vwCl ((wr ++ W1 z) ++ pl) H1 → va_D A ((wr ++ W1 z) ++ pl) → va_S A s.heap H1 locs1 → W p l e R s m args below meth c H1 locs1 (cells + rm.cells) (slots + rm.slots) Q (F0 m (pc + 3) ls rest)) :
    W p l e R s m args below meth c H locs cells slots Q (F0 m pc ls st0) := by
  have hcut := k_cut (k_headP hP) (k_headD hD) isC hC hnd
  have hFc := va_free (wc := wc) (k_headD hD) hS hA.1 isC hC
  subst hst
  refine va_callv (va_runV (As := As) (rest := rest) Sx hM cw ⟨k_blindZ, hCn ▸ va_recv hK (k_headP hP) hc he, fun U hU hW => ⟨rfl, ⟨by rw [hU], by rw [hU]; exact hcut.1, va_K.moved hW.alike hK, hcut.2, hA.2.moved hW.alike⟩, zTr_call hZ hS hFc hU hW⟩⟩ rfl hlen hsz rfl (lv_room hroom) hdg hf) hS (fun q _ h => hFc q h) hFc (fun u t H1 locs1 ht hvm hw hB hz1 hk1 hS1 => ?_)
  obtain ⟨hP1, hD1⟩ := hB
  rw [ht] at hP1
  obtain ⟨hP2, hD2⟩ := va_joinQ (wr := wr) (w1 := W1 u) hP hD isC isR hC hR hn hdis hk1 hFc hP1 hD1
  exact kk u H1 locs1 hw.1 hw.2 hP2 hD2 hS1
theorem k_vVrZ {t : Nat} {pl : va_W} {F : S} {E : S → Prop} {W1 : S → va_W} (Sx : CallFix p m c cc nL s args Ts own) (hK : va_K G vwCl TY s) (hP : va_P G vwCl (ws ++ pl) H) (hD : va_D A (ws ++ pl)) (hS : va_S A s.heap H locs) (hA : kA TY A s) (isC isR : List Nat) (hC : isC.map (fun i => ws[i]?) = wc.map some) (hR : isR.map (fun i => ws[i]?) = wr.map some) (hnd : va_nd isC = true) (hn : va_nd isR = true) (hdis : ∀ i ∈ isR, i ∉ isC)
    (hZ : zTr t A s s.heap) (hM : kMvZ t l y wsy rm (.ref b :: As) G TY H.size (wc ++ pl) F E (fun u => W1 u ++ pl)) (cw : CallW R s args own C index y bytes maxL ret wsy rm rm.cells rm.slots n) (q0 ci : Nat) {cq : vw_C} {fs : List Value} (hc : vwCl[ci]? = some cq) (he : ws[q0]? = some (b, .inr (ci, fs))) (hCn : cq.1 = C) (hlen : As.length = n) (hsz : ls.size = nL) {st0 : List Value} (hst : st0 = As.reverse ++ .ref b :: rest) (hroom : (rest.map fun v => v.category).sum ≤ 8) (hdg : decode cc pc = .ok (.invokevirtual index, 3)) (hf : cells + rm.cells ≤ R.cells ∧ slots + rm.slots ≤ R.slots)
    (kk : ∀ (z : S) (H1 : Heap) (locs1 : List Loc), z = F → E z → va_P G vwCl ((wr ++ W1 z) ++ pl) H1 → va_D A ((wr ++ W1 z) ++ pl) → va_S A s.heap H1 locs1 → W p l e R s m args below meth c H1 locs1 (cells + rm.cells) (slots + rm.slots) Q (F0 m (pc + 3) ls rest)) :
    W p l e R s m args below meth c H locs cells slots Q (F0 m pc ls st0) := by
  have hcut : va_P G vwCl (wc ++ pl) H ∧ va_D (fun _ => True) (wc ++ pl) := ⟨k_partP hP isC hC, (k_partD hD isC hnd hC).weaken (fun _ _ _ _ => trivial)⟩
  have hFc := k_partF hD hS hA.1 isC hC
  subst hst
  refine va_callv (va_runV (As := As) (rest := rest) Sx hM cw ⟨k_blindZ, hCn ▸ va_recv hK (k_headP hP) hc he, fun U hU hW => ⟨rfl, ⟨by rw [hU], by rw [hU]; exact hcut.1, va_K.moved hW.alike hK, hcut.2, hA.2.moved hW.alike⟩, zTr_call hZ hS hFc hU hW⟩⟩ rfl hlen hsz rfl (lv_room hroom) hdg hf) hS (fun q _ h => hFc q h) hFc (fun u t H1 locs1 ht hvm hw hB hz1 hk1 hS1 => ?_)
  obtain ⟨hP1, hD1⟩ := hB
  rw [ht] at hP1
  obtain ⟨hP2, hD2⟩ := va_joinP (wr := wr) (rx := W1 u) (pl1 := pl) hP hD isC isR hC hR hn hdis hk1 hFc hP1 hD1
  exact kk u H1 locs1 hw.1 hw.2 hP2 hD2 hS1
theorem k_vVm {pl : va_W} {cI : ClassId} {F : S} {E : S → Prop} {W1 : S → (Nat → Option Nat) → va_W} {mm : S → Nat → Int32} {pp : S → Nat → Bool} (Sx : CallFix p m c cc nL s args Ts own) (hK : va_K G vwCl TY s) (hP : va_P G vwCl (ws ++ pl) H) (hD : va_D A (ws ++ pl)) (hS : va_S A s.heap H locs) (hA : kA TY A s) (isC isR : List Nat) (hC : isC.map (fun i => ws[i]?) = wc.map some) (hR : isR.map (fun i => ws[i]?) = wr.map some) (hnd : va_nd isC = true) (hn : va_nd isR = true) (hdis : ∀ i ∈ isR, i ∉ isC)
    (hM : kMvM l y wsy rm (.ref b :: As) G cI TY H.size (wc ++ pl) F E W1 mm pp) (cw : CallW R s args own C index y bytes maxL ret wsy rm rm.cells rm.slots n) (q0 ci : Nat) {cq : vw_C} {fs : List Value} (hc : vwCl[ci]? = some cq) (he : ws[q0]? = some (b, .inr (ci, fs))) (hCn : cq.1 = C) (hlen : As.length = n) (hsz : ls.size = nL) {st0 : List Value} (hst : st0 = As.reverse ++ .ref b :: rest) (hroom : (rest.map fun v => v.category).sum ≤ 8) (hdg : decode cc pc = .ok (.invokevirtual index, 3)) (hf : cells + rm.cells ≤ R.cells ∧ slots + rm.slots ≤ R.slots)
    (kk : ∀ (z : S) (g : Nat → Option Nat) (LP : List Nat) (pr : Nat → Nat → Int32) (H1 : Heap) (locs1 : List Loc), z = F → E z → mrep g LP pr (mm z) (pp z) → va_P G vwCl ((wr ++ W1 z g) ++ va_pl LP (kPg cI pr)) H1 → va_D A ((wr ++ W1 z g) ++ va_pl LP (kPg cI pr)) → va_S A s.heap H1 locs1 → W p l e R s m args below meth c H1 locs1 (cells + rm.cells) (slots + rm.slots) Q (F0 m (pc + 3) ls rest)) :
    W p l e R s m args below meth c H locs cells slots Q (F0 m pc ls st0) := by
  have hcut : va_P G vwCl (wc ++ pl) H ∧ va_D (fun _ => True) (wc ++ pl) := ⟨k_partP hP isC hC, (k_partD hD isC hnd hC).weaken (fun _ _ _ _ => trivial)⟩
  have hFc := k_partF hD hS hA.1 isC hC
  subst hst
  refine va_callv (va_runV (As := As) (rest := rest) Sx hM cw ⟨k_blind, hCn ▸ va_recv hK (k_headP hP) hc he, fun U hU hW => ⟨rfl, by rw [hU], by rw [hU]; exact hcut.1, va_K.moved hW.alike hK, hcut.2, hA.2.moved hW.alike⟩⟩ rfl hlen hsz rfl (lv_room hroom) hdg hf) hS (fun q _ h => hFc q h) hFc (fun u t H1 locs1 ht hvm hw hB hz1 hk1 hS1 => ?_)
  obtain ⟨g, LP, pr, hm, hP1, hD1⟩ := hB
  rw [ht] at hP1
  obtain ⟨hP2, hD2⟩ := va_joinP (wr := wr) (rx := W1 u g) (pl1 := va_pl LP (kPg cI pr)) hP hD isC isR hC hR hn hdis hk1 hFc hP1 hD1
  exact kk u g LP pr H1 locs1 hw.1 hw.2 hm hP2 hD2 hS1
end KC

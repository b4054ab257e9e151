def fX10_eventOf (ev_count : Int32) (fi : Nat → Int32) (p0 : Int32) (p1 : Int32) : Int32 :=
  (let z1 := (fX1_keeps ev_count p0, ()); if z1.1 = 0 then ((-1)) else (if p1 < 0 then ((-1)) else (if 7 < p1 then ((-1)) else ((let z2 := (fX1_field fi p0 p1, ()); z2.1)))))
theorem lkX10_eventOf_19 : Cond.fieldLink RX10 19 "TwinIssue" "events" "LTwinIssue$EventRecord;" ∈ wsX10_eventOf := by decide +kernel
theorem iwX10_eventOf_X10 : ∀ w ∈ wsX100, w ∈ wsX10_eventOf := fun _ h => List.mem_cons_of_mem _ (List.mem_append_left _ (List.mem_append_right _ h))
def sX10_eventOf (ev_count : Int32) (fi : Nat → Int32) (p0 : Int32) (p1 : Int32) : Prop :=
  (∀ z1, z1 = (fX1_keeps ev_count p0, ()) → ((z1.1 = 0 → True) ∧ (¬ (z1.1 = 0) → ((p1 < 0 → True) ∧ (¬ (p1 < 0) → ((7 < p1 → True) ∧ (¬ (7 < p1) → ((sX1_field p0 p1) ∧ ((∀ z2, z2 = (fX1_field fi p0 p1, ()) → True))))))))))
set_option maxHeartbeats 4000000 in
set_option maxRecDepth 100000 in
theorem mX10_eventOf (l : Launch) (G : va_G) (cI cB cP : ClassId) (aT aEx aPi aEv aFi : Nat) (tw_cycles : Int32) (tw_nextIsKnown : Int32) (ev_count : Int32) (ev_exceptions : Int32) (ev_doubleCycles : Int32) (ev_longestWay : Int32) (ev_lastCycle : Int32) (fi : Nat → Int32) (sz : Nat) (p0 : Int32) (p1 : Int32) (hs : sX10_eventOf ev_count fi p0 p1) : kMi (S := Unit) l yX10_eventOf wsX10_eventOf ({ frames := 1, cells := 0, slots := 0, locals := 22 }) [.ref aT, .int p0, .int p1] G (kTY cI cB cP) sz [(aT, .inr (10, [.ref aEx, .ref aPi, .ref aEv, .int tw_cycles, .int tw_nextIsKnown])), (aEv, .inr (1, [.ref aFi, .int ev_count, .int ev_exceptions, .int ev_doubleCycles, .int ev_longestWay, .int ev_lastCycle])), (aFi, .inl (cI, 2816, .inl fi))] (fX10_eventOf ev_count fi p0 p1, ()) (fun _ _ => True) (fun _ => [(aT, .inr (10, [.ref aEx, .ref aPi, .ref aEv, .int tw_cycles, .int tw_nextIsKnown])), (aEv, .inr (1, [.ref aFi, .int ev_count, .int ev_exceptions, .int ev_doubleCycles, .int ev_longestWay, .int ev_lastCycle])), (aFi, .inl (cI, 2816, .inl fi))]) := by
  refine k_ofi (cc := cX10_eventOf) (maxL := 3) (by decide) rfl (Nat.le_of_ble_eq_true rfl) ?_
  intro p e s m args below meth c A ls Q H locs hx hb hml hown hts hin hK hP hD hA hS hl hret
  have hown : s.vm.findClass RX10 = some m.cls := hown
  have hl : lv_has ls 3 [(0, .ref aT), (1, .int p0), (2, .int p1)] := hl
  unfold sX10_eventOf at hs
  refine lv_aload_n hx hb dX10_eventOf_0 rfl (lv_at hl 0 rfl) ?_
  refine va_get (D := G) (ci := 10) (v := .ref aEv) (C := RX10) (T := TX10) (N := 5) hx hb hts iwX10_eventOf_X10 hown hK hP 0 rfl rfl 2 (by decide) (hts _ lkX10_eventOf_19) (fun _ h9 => h9) rfl dX10_eventOf_1 ?_
  refine lv_iload_n hx hb dX10_eventOf_4 rfl (lv_at hl 1 rfl) ?_
  refine k_iV (As := [.int p0]) (rest := []) (wc := [(aEv, .inr (1, [.ref aFi, .int ev_count, .int ev_exceptions, .int ev_doubleCycles, .int ev_longestWay, .int ev_lastCycle]))]) (wr := [(aT, .inr (10, [.ref aEx, .ref aPi, .ref aEv, .int tw_cycles, .int tw_nextIsKnown])), (aFi, .inl (cI, 2816, .inl fi))]) ⟨hx, hb, hml, hown, hts⟩ hK hP hD hS hA [1] [0, 2] rfl rfl rfl rfl (by decide) (mX1_keeps l G cI cB cP aEv aFi ev_count ev_exceptions ev_doubleCycles ev_longestWay ev_lastCycle H.size p0 ) (cwV 1 hts gX10_eventOf_X1_keeps rfl rfl rfl (by decide +kernel) ⟨Nat.le_of_ble_eq_true rfl, Nat.le_of_ble_eq_true rfl⟩) 1 1 rfl rfl rfl rfl hl.1 rfl (Nat.le_of_ble_eq_true rfl) dX10_eventOf_5 ⟨Nat.le_of_ble_eq_true rfl, Nat.le_of_ble_eq_true rfl⟩ (fun z1 H locs hz1 hEz1 hP hD hS => ?_)
  have hs := hs z1 hz1
  have hP : va_P G vwCl [(aT, .inr (10, [.ref aEx, .ref aPi, .ref aEv, .int tw_cycles, .int tw_nextIsKnown])), (aFi, .inl (cI, 2816, .inl fi)), (aEv, .inr (1, [.ref aFi, .int ev_count, .int ev_exceptions, .int ev_doubleCycles, .int ev_longestWay, .int ev_lastCycle]))] H := hP
  have hD : va_D A [(aT, .inr (10, [.ref aEx, .ref aPi, .ref aEv, .int tw_cycles, .int tw_nextIsKnown])), (aFi, .inl (cI, 2816, .inl fi)), (aEv, .inr (1, [.ref aFi, .int ev_count, .int ev_exceptions, .int ev_doubleCycles, .int ev_longestWay, .int ev_lastCycle]))] := hD
  refine lv_if_eq (tgt := 33) hx hb dX10_eventOf_8 (by decide) (fun c1 => ?_) (fun c1 => ?_)
  · have hs := hs.1 c1
    refine lv_iconst (v := (-1)) hx hb dX10_eventOf_33 (by decide) ?_
    have hP := hP.sub (ws' := [(aT, .inr (10, [.ref aEx, .ref aPi, .ref aEv, .int tw_cycles, .int tw_nextIsKnown])), (aEv, .inr (1, [.ref aFi, .int ev_count, .int ev_exceptions, .int ev_doubleCycles, .int ev_longestWay, .int ev_lastCycle])), (aFi, .inl (cI, 2816, .inl fi))]) [0, 2, 1] rfl
    have hD := hD.sub (ws' := [(aT, .inr (10, [.ref aEx, .ref aPi, .ref aEv, .int tw_cycles, .int tw_nextIsKnown])), (aEv, .inr (1, [.ref aFi, .int ev_count, .int ev_exceptions, .int ev_doubleCycles, .int ev_longestWay, .int ev_lastCycle])), (aFi, .inl (cI, 2816, .inl fi))]) [0, 2, 1] (by decide) rfl
    exact hret H locs _ ls (-1) () dX10_eventOf_34 (by clear hP hD hS hl; replace hz1 := hz1.symm; subst hz1; exact congrArg (fun x => (x, ())) (((if_pos c1).trans (rfl))).symm) trivial hP hD hS
  · have hs := hs.2 c1
    refine lv_iload_n hx hb dX10_eventOf_11 rfl (lv_at hl 2 rfl) ?_
    refine lv_if_lt (tgt := 33) hx hb dX10_eventOf_12 (by decide) (fun c2 => ?_) (fun c2 => ?_)
    · have hs := hs.1 c2
      refine lv_iconst (v := (-1)) hx hb dX10_eventOf_33 (by decide) ?_
      have hP := hP.sub (ws' := [(aT, .inr (10, [.ref aEx, .ref aPi, .ref aEv, .int tw_cycles, .int tw_nextIsKnown])), (aEv, .inr (1, [.ref aFi, .int ev_count, .int ev_exceptions, .int ev_doubleCycles, .int ev_longestWay, .int ev_lastCycle])), (aFi, .inl (cI, 2816, .inl fi))]) [0, 2, 1] rfl
      have hD := hD.sub (ws' := [(aT, .inr (10, [.ref aEx, .ref aPi, .ref aEv, .int tw_cycles, .int tw_nextIsKnown])), (aEv, .inr (1, [.ref aFi, .int ev_count, .int ev_exceptions, .int ev_doubleCycles, .int ev_longestWay, .int ev_lastCycle])), (aFi, .inl (cI, 2816, .inl fi))]) [0, 2, 1] (by decide) rfl
      exact hret H locs _ ls (-1) () dX10_eventOf_34 (by clear hP hD hS hl; replace hz1 := hz1.symm; subst hz1; exact congrArg (fun x => (x, ())) (((if_neg c1).trans ((if_pos c2).trans (rfl)))).symm) trivial hP hD hS
    · have hs := hs.2 c2
      refine lv_iload_n hx hb dX10_eventOf_15 rfl (lv_at hl 2 rfl) ?_
      refine lv_bipush (v := 7) hx hb dX10_eventOf_16 (by decide) ?_
      refine lv_icmp_gt (tgt := 33) hx hb dX10_eventOf_18 (by decide) (fun c3 => ?_) (fun c3 => ?_)
      · have hs := hs.1 c3
        refine lv_iconst (v := (-1)) hx hb dX10_eventOf_33 (by decide) ?_
        have hP := hP.sub (ws' := [(aT, .inr (10, [.ref aEx, .ref aPi, .ref aEv, .int tw_cycles, .int tw_nextIsKnown])), (aEv, .inr (1, [.ref aFi, .int ev_count, .int ev_exceptions, .int ev_doubleCycles, .int ev_longestWay, .int ev_lastCycle])), (aFi, .inl (cI, 2816, .inl fi))]) [0, 2, 1] rfl
        have hD := hD.sub (ws' := [(aT, .inr (10, [.ref aEx, .ref aPi, .ref aEv, .int tw_cycles, .int tw_nextIsKnown])), (aEv, .inr (1, [.ref aFi, .int ev_count, .int ev_exceptions, .int ev_doubleCycles, .int ev_longestWay, .int ev_lastCycle])), (aFi, .inl (cI, 2816, .inl fi))]) [0, 2, 1] (by decide) rfl
        exact hret H locs _ ls (-1) () dX10_eventOf_34 (by clear hP hD hS hl; replace hz1 := hz1.symm; subst hz1; exact congrArg (fun x => (x, ())) (((if_neg c1).trans ((if_neg c2).trans ((if_pos c3).trans (rfl))))).symm) trivial hP hD hS
      · have hs := hs.2 c3
        refine lv_aload_n hx hb dX10_eventOf_21 rfl (lv_at hl 0 rfl) ?_
        refine va_get (D := G) (ci := 10) (v := .ref aEv) (C := RX10) (T := TX10) (N := 5) hx hb hts iwX10_eventOf_X10 hown hK hP 0 rfl rfl 2 (by decide) (hts _ lkX10_eventOf_19) (fun _ h9 => h9) rfl dX10_eventOf_22 ?_
        refine lv_iload_n hx hb dX10_eventOf_25 rfl (lv_at hl 1 rfl) ?_
        refine lv_iload_n hx hb dX10_eventOf_26 rfl (lv_at hl 2 rfl) ?_
        obtain ⟨o1, hs⟩ := hs
        refine k_iV (As := [.int p0, .int p1]) (rest := []) (wc := [(aEv, .inr (1, [.ref aFi, .int ev_count, .int ev_exceptions, .int ev_doubleCycles, .int ev_longestWay, .int ev_lastCycle])), (aFi, .inl (cI, 2816, .inl fi))]) (wr := [(aT, .inr (10, [.ref aEx, .ref aPi, .ref aEv, .int tw_cycles, .int tw_nextIsKnown]))]) ⟨hx, hb, hml, hown, hts⟩ hK hP hD hS hA [2, 1] [0] rfl rfl rfl rfl (by decide) (mX1_field l G cI cB cP aEv aFi ev_count ev_exceptions ev_doubleCycles ev_longestWay ev_lastCycle fi H.size p0 p1 o1) (cwV 2 hts gX10_eventOf_X1_field rfl rfl rfl (by decide +kernel) ⟨Nat.le_of_ble_eq_true rfl, Nat.le_of_ble_eq_true rfl⟩) 2 1 rfl rfl rfl rfl hl.1 rfl (Nat.le_of_ble_eq_true rfl) dX10_eventOf_27 ⟨Nat.le_of_ble_eq_true rfl, Nat.le_of_ble_eq_true rfl⟩ (fun z2 H locs hz2 hEz2 hP hD hS => ?_)
        have hs := hs z2 hz2
        have hP : va_P G vwCl [(aT, .inr (10, [.ref aEx, .ref aPi, .ref aEv, .int tw_cycles, .int tw_nextIsKnown])), (aEv, .inr (1, [.ref aFi, .int ev_count, .int ev_exceptions, .int ev_doubleCycles, .int ev_longestWay, .int ev_lastCycle])), (aFi, .inl (cI, 2816, .inl fi))] H := hP
        have hD : va_D A [(aT, .inr (10, [.ref aEx, .ref aPi, .ref aEv, .int tw_cycles, .int tw_nextIsKnown])), (aEv, .inr (1, [.ref aFi, .int ev_count, .int ev_exceptions, .int ev_doubleCycles, .int ev_longestWay, .int ev_lastCycle])), (aFi, .inl (cI, 2816, .inl fi))] := hD
        refine lv_goto (tgt := 34) hx hb dX10_eventOf_30 (by decide) ?_
        exact hret H locs _ ls z2.1 () dX10_eventOf_34 (by clear hP hD hS hl; replace hz2 := hz2.symm; subst hz2; replace hz1 := hz1.symm; subst hz1; exact congrArg (fun x => (x, ())) (((if_neg c1).trans ((if_neg c2).trans ((if_neg c3).trans (rfl))))).symm) trivial hP hD hS
def fX10_isWordAddress (p0 : Int32) : Int32 :=
  if p0 < 0 then (0) else (if 65536 ≤ p0 then (0) else (if (p0 &&& 3) = 0 then (1) else (0)))
theorem lkX10_isWordAddress_162 : Cond.constant RX10 162 (65536) ∈ wsX10_isWordAddress := by decide +kernel
set_option maxHeartbeats 4000000 in
set_option maxRecDepth 100000 in
theorem mX10_isWordAddress (l : Launch) (G : va_G) (cI cB cP : ClassId) (sz : Nat) (p0 : Int32) : kMi (S := Unit) l yX10_isWordAddress wsX10_isWordAddress ({ frames := 0, cells := 0, slots := 0, locals := 0 }) [.int p0] G (kTY cI cB cP) sz [] (fX10_isWordAddress p0, ()) (fun r _ => isB r) (fun _ => []) := by
  refine k_ofz (cc := cX10_isWordAddress) (maxL := 1) (by decide) rfl (Nat.le_of_ble_eq_true rfl) ?_
  intro p e s m args below meth c A ls Q H locs hx hb hml hown hts hin hK hP hD hA hS hl hret
  have hown : s.vm.findClass RX10 = some m.cls := hown
  have hl : lv_has ls 1 [(0, .int p0)] := hl
  refine lv_iload_n hx hb dX10_isWordAddress_0 rfl (lv_at hl 0 rfl) ?_
  refine lv_if_lt (tgt := 20) hx hb dX10_isWordAddress_1 (by decide) (fun c1 => ?_) (fun c1 => ?_)
  · skip
    refine lv_iconst (v := 0) hx hb dX10_isWordAddress_20 (by decide) ?_
    exact hret H locs _ ls 0 () dX10_isWordAddress_21 (by exact congrArg (fun x => (x, ())) (((if_pos c1).trans (rfl))).symm) (Or.inl rfl) (Or.inl rfl) hP hD hS
  · skip
    refine lv_iload_n hx hb dX10_isWordAddress_4 rfl (lv_at hl 0 rfl) ?_
    refine lv_ldc (v := 65536) hx hb hown (hts _ lkX10_isWordAddress_162) dX10_isWordAddress_5 ?_
    refine lv_icmp_ge (tgt := 20) hx hb dX10_isWordAddress_7 (by decide) (fun c2 => ?_) (fun c2 => ?_)
    · skip
      refine lv_iconst (v := 0) hx hb dX10_isWordAddress_20 (by decide) ?_
      exact hret H locs _ ls 0 () dX10_isWordAddress_21 (by exact congrArg (fun x => (x, ())) (((if_neg c1).trans ((if_pos c2).trans (rfl)))).symm) (Or.inl rfl) (Or.inl rfl) hP hD hS
    · skip
      refine lv_iload_n hx hb dX10_isWordAddress_10 rfl (lv_at hl 0 rfl) ?_
      refine lv_iconst (v := 3) hx hb dX10_isWordAddress_11 (by decide) ?_
      refine lv_iand hx hb dX10_isWordAddress_12 ?_
      refine lv_if_ne (tgt := 20) hx hb dX10_isWordAddress_13 (by decide) (fun c3 => ?_) (fun c3 => ?_)
      · skip
        refine lv_iconst (v := 0) hx hb dX10_isWordAddress_20 (by decide) ?_
        exact hret H locs _ ls 0 () dX10_isWordAddress_21 (by exact congrArg (fun x => (x, ())) (((if_neg c1).trans ((if_neg c2).trans ((if_neg c3).trans (rfl))))).symm) (Or.inl rfl) (Or.inl rfl) hP hD hS
      · skip
        refine lv_iconst (v := 1) hx hb dX10_isWordAddress_16 (by decide) ?_
        refine lv_goto (tgt := 21) hx hb dX10_isWordAddress_17 (by decide) ?_
        exact hret H locs _ ls 1 () dX10_isWordAddress_21 (by exact congrArg (fun x => (x, ())) (((if_neg c1).trans ((if_neg c2).trans ((if_pos c3).trans (rfl))))).symm) (Or.inr rfl) (Or.inr rfl) hP hD hS
def fX10_setsFor (p0 : Int32) : Int32 :=
  if p0 < 128 then (if p0 < 64 then (if p0 < 32 then (16) else (32)) else (64)) else (128)
set_option maxHeartbeats 4000000 in
set_option maxRecDepth 100000 in
theorem mX10_setsFor (l : Launch) (G : va_G) (cI cB cP : ClassId) (sz : Nat) (p0 : Int32) : kMi (S := Unit) l yX10_setsFor wsX10_setsFor ({ frames := 0, cells := 0, slots := 0, locals := 0 }) [.int p0] G (kTY cI cB cP) sz [] (fX10_setsFor p0, ()) (fun _ _ => True) (fun _ => []) := by
  refine k_ofi (cc := cX10_setsFor) (maxL := 1) (by decide) rfl (Nat.le_of_ble_eq_true rfl) ?_
  intro p e s m args below meth c A ls Q H locs hx hb hml hown hts hin hK hP hD hA hS hl hret
  have hown : s.vm.findClass RX10 = some m.cls := hown
  have hl : lv_has ls 1 [(0, .int p0)] := hl
  refine lv_iload_n hx hb dX10_setsFor_0 rfl (lv_at hl 0 rfl) ?_
  refine lv_sipush (v := 128) hx hb dX10_setsFor_1 (by decide) ?_
  refine lv_icmp_lt (tgt := 11) hx hb dX10_setsFor_4 (by decide) (fun c1 => ?_) (fun c1 => ?_)
  · skip
    refine lv_iload_n hx hb dX10_setsFor_11 rfl (lv_at hl 0 rfl) ?_
    refine lv_bipush (v := 64) hx hb dX10_setsFor_12 (by decide) ?_
    refine lv_icmp_lt (tgt := 20) hx hb dX10_setsFor_14 (by decide) (fun c2 => ?_) (fun c2 => ?_)
    · skip
      refine lv_iload_n hx hb dX10_setsFor_20 rfl (lv_at hl 0 rfl) ?_
      refine lv_bipush (v := 32) hx hb dX10_setsFor_21 (by decide) ?_
      refine lv_icmp_lt (tgt := 31) hx hb dX10_setsFor_23 (by decide) (fun c3 => ?_) (fun c3 => ?_)
      · skip
        refine lv_bipush (v := 16) hx hb dX10_setsFor_31 (by decide) ?_
        exact hret H locs _ ls 16 () dX10_setsFor_33 (by exact congrArg (fun x => (x, ())) (((if_pos c1).trans ((if_pos c2).trans ((if_pos c3).trans (rfl))))).symm) trivial hP hD hS
      · skip
        refine lv_bipush (v := 32) hx hb dX10_setsFor_26 (by decide) ?_
        refine lv_goto (tgt := 33) hx hb dX10_setsFor_28 (by decide) ?_
        exact hret H locs _ ls 32 () dX10_setsFor_33 (by exact congrArg (fun x => (x, ())) (((if_pos c1).trans ((if_pos c2).trans ((if_neg c3).trans (rfl))))).symm) trivial hP hD hS
    · skip
      refine lv_bipush (v := 64) hx hb dX10_setsFor_17 (by decide) ?_
      exact hret H locs _ ls 64 () dX10_setsFor_19 (by exact congrArg (fun x => (x, ())) (((if_pos c1).trans ((if_neg c2).trans (rfl)))).symm) trivial hP hD hS
  · skip
    refine lv_sipush (v := 128) hx hb dX10_setsFor_7 (by decide) ?_
    exact hret H locs _ ls 128 () dX10_setsFor_10 (by exact congrArg (fun x => (x, ())) (((if_neg c1).trans (rfl))).symm) trivial hP hD hS
def fX10_linesFrom (tw_cycles : Int32) (li_size : Int32) (co : Nat → Int32) (va : Nat → Int32) (p0 : Int32) (p1 : Int32) : Int32 × Int32 × (Nat → Int32) × (Nat → Int32) :=
  if tw_cycles = 0 then ((let z1 := fX4_add li_size co va p0 p1; if z1.1 = 0 then ((0, z1.2.1, z1.2.2.1, z1.2.2.2)) else ((1, z1.2.1, z1.2.2.1, z1.2.2.2)))) else ((0, li_size, co, va))
theorem lkX10_linesFrom_32 : Cond.fieldLink RX10 32 "TwinIssue" "executor" "LTwinIssue$Executor;" ∈ wsX10_linesFrom := by decide +kernel
theorem lkX10_linesFrom_36 : Cond.fieldLink RX10 36 "TwinIssue" "cycles" "I" ∈ wsX10_linesFrom := by decide +kernel
theorem lkX10_linesFrom_54 : Cond.fieldLink RX10 54 "TwinIssue$Executor" "state" "LTwinIssue$State;" ∈ wsX10_linesFrom := by decide +kernel
theorem lkX10_linesFrom_64 : Cond.fieldLink RX10 64 "TwinIssue$State" "specials" "LTwinIssue$Specials;" ∈ wsX10_linesFrom := by decide +kernel
theorem lkX10_linesFrom_68 : Cond.fieldLink RX10 68 "TwinIssue$Specials" "lines" "LTwinIssue$Lines;" ∈ wsX10_linesFrom := by decide +kernel
theorem iwX10_linesFrom_X10 : ∀ w ∈ wsX100, w ∈ wsX10_linesFrom := fun _ h => List.mem_cons_of_mem _ (List.mem_append_left _ (List.mem_append_left _ (List.mem_append_left _ (List.mem_append_left _ (List.mem_append_right _ h)))))
theorem iwX10_linesFrom_X2 : ∀ w ∈ wsX20, w ∈ wsX10_linesFrom := fun _ h => List.mem_cons_of_mem _ (List.mem_append_left _ (List.mem_append_left _ (List.mem_append_left _ (List.mem_append_right _ h))))
theorem iwX10_linesFrom_X8 : ∀ w ∈ wsX80, w ∈ wsX10_linesFrom := fun _ h => List.mem_cons_of_mem _ (List.mem_append_left _ (List.mem_append_right _ h))
theorem iwX10_linesFrom_X9 : ∀ w ∈ wsX90, w ∈ wsX10_linesFrom := fun _ h => List.mem_cons_of_mem _ (List.mem_append_left _ (List.mem_append_left _ (List.mem_append_right _ h)))
def sX10_linesFrom (tw_cycles : Int32) (li_size : Int32) (co : Nat → Int32) (va : Nat → Int32) (p0 : Int32) (p1 : Int32) : Prop :=
  (tw_cycles = 0 → ((sX4_add li_size co p0) ∧ ((∀ z1, z1 = fX4_add li_size co va p0 p1 → ((z1.1 = 0 → True) ∧ (¬ (z1.1 = 0) → True)))))) ∧ (¬ (tw_cycles = 0) → True)
set_option maxHeartbeats 4000000 in
set_option maxRecDepth 100000 in
theorem mX10_linesFrom (l : Launch) (G : va_G) (cI cB cP : ClassId) (aT aEx aMe aSt aSp aMp aLi aIn aEf aPi aEv aRg aCo aVa : Nat) (tw_cycles : Int32) (tw_nextIsKnown : Int32) (st_pc : Int32) (st_inSlot : Int32) (st_branchAt : Int32) (st_target : Int32) (sp_sr : Int32) (sp_epc : Int32) (sp_esr : Int32) (sp_eea : Int32) (sp_held : Int32) (sp_sum : Int64) (sp_count : Int32) (sp_timer : Int32) (sp_mask : Int32) (sp_retired : Int32) (sp_latch : Int32) (li_passed : Int32) (li_size : Int32) (co : Nat → Int32) (va : Nat → Int32) (sz : Nat) (p0 : Int32) (p1 : Int32) (hs : sX10_linesFrom tw_cycles li_size co va p0 p1) : kMi (S := Int32 × (Nat → Int32) × (Nat → Int32)) l yX10_linesFrom wsX10_linesFrom ({ frames := 1, cells := 0, slots := 0, locals := 22 }) [.ref aT, .int p0, .int p1] G (kTY cI cB cP) sz [(aT, .inr (10, [.ref aEx, .ref aPi, .ref aEv, .int tw_cycles, .int tw_nextIsKnown])), (aEx, .inr (2, [.ref aMe, .ref aSt, .ref aIn, .ref aEf])), (aSt, .inr (9, [.ref aRg, .ref aSp, .int st_pc, .int st_inSlot, .int st_branchAt, .int st_target])), (aSp, .inr (8, [.ref aMp, .ref aLi, .int sp_sr, .int sp_epc, .int sp_esr, .int sp_eea, .int sp_held, .long sp_sum, .int sp_count, .int sp_timer, .int sp_mask, .int sp_retired, .int sp_latch])), (aLi, .inr (4, [.ref aCo, .ref aVa, .int li_passed, .int li_size])), (aCo, .inl (cI, 32, .inl co)), (aVa, .inl (cI, 32, .inl va))] (fX10_linesFrom tw_cycles li_size co va p0 p1) (fun r _ => isB r) (fun u => [(aT, .inr (10, [.ref aEx, .ref aPi, .ref aEv, .int tw_cycles, .int tw_nextIsKnown])), (aEx, .inr (2, [.ref aMe, .ref aSt, .ref aIn, .ref aEf])), (aSt, .inr (9, [.ref aRg, .ref aSp, .int st_pc, .int st_inSlot, .int st_branchAt, .int st_target])), (aSp, .inr (8, [.ref aMp, .ref aLi, .int sp_sr, .int sp_epc, .int sp_esr, .int sp_eea, .int sp_held, .long sp_sum, .int sp_count, .int sp_timer, .int sp_mask, .int sp_retired, .int sp_latch])), (aLi, .inr (4, [.ref aCo, .ref aVa, .int li_passed, .int u.1])), (aCo, .inl (cI, 32, .inl u.2.1)), (aVa, .inl (cI, 32, .inl u.2.2))]) := by
  refine k_ofz (cc := cX10_linesFrom) (maxL := 3) (by decide) rfl (Nat.le_of_ble_eq_true rfl) ?_
  intro p e s m args below meth c A ls Q H locs hx hb hml hown hts hin hK hP hD hA hS hl hret
  have hown : s.vm.findClass RX10 = some m.cls := hown
  have hl : lv_has ls 3 [(0, .ref aT), (1, .int p0), (2, .int p1)] := hl
  unfold sX10_linesFrom at hs
  refine lv_aload_n hx hb dX10_linesFrom_0 rfl (lv_at hl 0 rfl) ?_
  refine va_get (D := G) (ci := 10) (v := .int tw_cycles) (C := RX10) (T := TX10) (N := 5) hx hb hts iwX10_linesFrom_X10 hown hK hP 0 rfl rfl 3 (by decide) (hts _ lkX10_linesFrom_36) (fun _ h9 => h9) rfl dX10_linesFrom_1 ?_
  refine lv_if_ne (tgt := 32) hx hb dX10_linesFrom_4 (by decide) (fun c1 => ?_) (fun c1 => ?_)
  · have hs := hs.2 c1
    refine lv_iconst (v := 0) hx hb dX10_linesFrom_32 (by decide) ?_
    exact hret H locs _ ls 0 (li_size, co, va) dX10_linesFrom_33 ((if_neg c1).trans (rfl)).symm (Or.inl rfl) (Or.inl rfl) hP hD hS
  · have hs := hs.1 c1
    refine lv_aload_n hx hb dX10_linesFrom_7 rfl (lv_at hl 0 rfl) ?_
    refine va_get (D := G) (ci := 10) (v := .ref aEx) (C := RX10) (T := TX10) (N := 5) hx hb hts iwX10_linesFrom_X10 hown hK hP 0 rfl rfl 0 (by decide) (hts _ lkX10_linesFrom_32) (fun _ h9 => h9) rfl dX10_linesFrom_8 ?_
    refine va_get (D := G) (ci := 2) (v := .ref aSt) (C := RX2) (T := TX2) (N := 4) hx hb hts iwX10_linesFrom_X2 hown hK hP 1 rfl rfl 1 (by decide) (hts _ lkX10_linesFrom_54) (fun _ h9 => h9) rfl dX10_linesFrom_11 ?_
    refine va_get (D := G) (ci := 9) (v := .ref aSp) (C := RX9) (T := TX9) (N := 6) hx hb hts iwX10_linesFrom_X9 hown hK hP 2 rfl rfl 1 (by decide) (hts _ lkX10_linesFrom_64) (fun _ h9 => h9) rfl dX10_linesFrom_14 ?_
    refine va_get (D := G) (ci := 8) (v := .ref aLi) (C := RX8) (T := TX8) (N := 13) hx hb hts iwX10_linesFrom_X8 hown hK hP 3 rfl rfl 1 (by decide) (hts _ lkX10_linesFrom_68) (fun _ h9 => h9) rfl dX10_linesFrom_17 ?_
    refine lv_iload_n hx hb dX10_linesFrom_20 rfl (lv_at hl 1 rfl) ?_
    refine lv_iload_n hx hb dX10_linesFrom_21 rfl (lv_at hl 2 rfl) ?_
    obtain ⟨o1, hs⟩ := hs
    refine k_iV (As := [.int p0, .int p1]) (rest := []) (wc := [(aLi, .inr (4, [.ref aCo, .ref aVa, .int li_passed, .int li_size])), (aCo, .inl (cI, 32, .inl co)), (aVa, .inl (cI, 32, .inl va))]) (wr := [(aT, .inr (10, [.ref aEx, .ref aPi, .ref aEv, .int tw_cycles, .int tw_nextIsKnown])), (aEx, .inr (2, [.ref aMe, .ref aSt, .ref aIn, .ref aEf])), (aSt, .inr (9, [.ref aRg, .ref aSp, .int st_pc, .int st_inSlot, .int st_branchAt, .int st_target])), (aSp, .inr (8, [.ref aMp, .ref aLi, .int sp_sr, .int sp_epc, .int sp_esr, .int sp_eea, .int sp_held, .long sp_sum, .int sp_count, .int sp_timer, .int sp_mask, .int sp_retired, .int sp_latch]))]) ⟨hx, hb, hml, hown, hts⟩ hK hP hD hS hA [4, 5, 6] [0, 1, 2, 3] rfl rfl rfl rfl (by decide) (mX4_add l G cI cB cP aLi aCo aVa li_passed li_size co va H.size p0 p1 o1) (cwV 2 hts gX10_linesFrom_X4_add rfl rfl rfl (by decide +kernel) ⟨Nat.le_of_ble_eq_true rfl, Nat.le_of_ble_eq_true rfl⟩) 4 4 rfl rfl rfl rfl hl.1 rfl (Nat.le_of_ble_eq_true rfl) dX10_linesFrom_22 ⟨Nat.le_of_ble_eq_true rfl, Nat.le_of_ble_eq_true rfl⟩ (fun z1 H locs hz1 hEz1 hP hD hS => ?_)
    have hs := hs z1 hz1
    have hP : va_P G vwCl [(aT, .inr (10, [.ref aEx, .ref aPi, .ref aEv, .int tw_cycles, .int tw_nextIsKnown])), (aEx, .inr (2, [.ref aMe, .ref aSt, .ref aIn, .ref aEf])), (aSt, .inr (9, [.ref aRg, .ref aSp, .int st_pc, .int st_inSlot, .int st_branchAt, .int st_target])), (aSp, .inr (8, [.ref aMp, .ref aLi, .int sp_sr, .int sp_epc, .int sp_esr, .int sp_eea, .int sp_held, .long sp_sum, .int sp_count, .int sp_timer, .int sp_mask, .int sp_retired, .int sp_latch])), (aLi, .inr (4, [.ref aCo, .ref aVa, .int li_passed, .int z1.2.1])), (aCo, .inl (cI, 32, .inl z1.2.2.1)), (aVa, .inl (cI, 32, .inl z1.2.2.2))] H := hP
    have hD : va_D A [(aT, .inr (10, [.ref aEx, .ref aPi, .ref aEv, .int tw_cycles, .int tw_nextIsKnown])), (aEx, .inr (2, [.ref aMe, .ref aSt, .ref aIn, .ref aEf])), (aSt, .inr (9, [.ref aRg, .ref aSp, .int st_pc, .int st_inSlot, .int st_branchAt, .int st_target])), (aSp, .inr (8, [.ref aMp, .ref aLi, .int sp_sr, .int sp_epc, .int sp_esr, .int sp_eea, .int sp_held, .long sp_sum, .int sp_count, .int sp_timer, .int sp_mask, .int sp_retired, .int sp_latch])), (aLi, .inr (4, [.ref aCo, .ref aVa, .int li_passed, .int z1.2.1])), (aCo, .inl (cI, 32, .inl z1.2.2.1)), (aVa, .inl (cI, 32, .inl z1.2.2.2))] := hD
    refine lv_if_eq (tgt := 32) hx hb dX10_linesFrom_25 (by decide) (fun c2 => ?_) (fun c2 => ?_)
    · have hs := hs.1 c2
      refine lv_iconst (v := 0) hx hb dX10_linesFrom_32 (by decide) ?_
      exact hret H locs _ ls 0 (z1.2.1, z1.2.2.1, z1.2.2.2) dX10_linesFrom_33 (by clear hP hD hS hl; replace hz1 := hz1.symm; subst hz1; exact (((if_pos c1).trans ((if_pos c2).trans (rfl)))).symm) (Or.inl rfl) (Or.inl rfl) hP hD hS
    · have hs := hs.2 c2
      refine lv_iconst (v := 1) hx hb dX10_linesFrom_28 (by decide) ?_
      refine lv_goto (tgt := 33) hx hb dX10_linesFrom_29 (by decide) ?_
      exact hret H locs _ ls 1 (z1.2.1, z1.2.2.1, z1.2.2.2) dX10_linesFrom_33 (by clear hP hD hS hl; replace hz1 := hz1.symm; subst hz1; exact (((if_pos c1).trans ((if_neg c2).trans (rfl)))).symm) (Or.inr rfl) (Or.inr rfl) hP hD hS
def fX10_lookAt (tw_cycles : Int32) (sp_held : Int32) (mp_sets : Int32) (li_size : Int32) (ev_count : Int32) (ev_exceptions : Int32) (ev_doubleCycles : Int32) (ev_longestWay : Int32) (p0 : Int32) : Int32 :=
  if p0 = 0 then (tw_cycles) else (if p0 = 1 then (ev_count) else (if p0 = 2 then (ev_exceptions) else (if p0 = 3 then (ev_doubleCycles) else (if p0 = 4 then ((let z1 := (fX1_firstKept ev_count, ()); z1.1)) else (if p0 = 5 then (li_size) else (if p0 = 6 then (ev_longestWay) else (if p0 = 7 then (mp_sets) else (if p0 = 8 then (sp_held) else ((-1))))))))))
theorem lkX10_lookAt_19 : Cond.fieldLink RX10 19 "TwinIssue" "events" "LTwinIssue$EventRecord;" ∈ wsX10_lookAt := by decide +kernel
theorem lkX10_lookAt_32 : Cond.fieldLink RX10 32 "TwinIssue" "executor" "LTwinIssue$Executor;" ∈ wsX10_lookAt := by decide +kernel
theorem lkX10_lookAt_36 : Cond.fieldLink RX10 36 "TwinIssue" "cycles" "I" ∈ wsX10_lookAt := by decide +kernel
theorem lkX10_lookAt_54 : Cond.fieldLink RX10 54 "TwinIssue$Executor" "state" "LTwinIssue$State;" ∈ wsX10_lookAt := by decide +kernel
theorem lkX10_lookAt_64 : Cond.fieldLink RX10 64 "TwinIssue$State" "specials" "LTwinIssue$Specials;" ∈ wsX10_lookAt := by decide +kernel
theorem lkX10_lookAt_68 : Cond.fieldLink RX10 68 "TwinIssue$Specials" "lines" "LTwinIssue$Lines;" ∈ wsX10_lookAt := by decide +kernel
theorem lkX10_lookAt_90 : Cond.fieldLink RX10 90 "TwinIssue$EventRecord" "count" "I" ∈ wsX10_lookAt := by decide +kernel
theorem lkX10_lookAt_134 : Cond.fieldLink RX10 134 "TwinIssue$EventRecord" "exceptions" "I" ∈ wsX10_lookAt := by decide +kernel
theorem lkX10_lookAt_137 : Cond.fieldLink RX10 137 "TwinIssue$EventRecord" "doubleCycles" "I" ∈ wsX10_lookAt := by decide +kernel
theorem lkX10_lookAt_144 : Cond.fieldLink RX10 144 "TwinIssue$Lines" "size" "I" ∈ wsX10_lookAt := by decide +kernel
theorem lkX10_lookAt_147 : Cond.fieldLink RX10 147 "TwinIssue$EventRecord" "longestWay" "I" ∈ wsX10_lookAt := by decide +kernel
theorem lkX10_lookAt_150 : Cond.fieldLink RX10 150 "TwinIssue$Specials" "maps" "LTwinIssue$Maps;" ∈ wsX10_lookAt := by decide +kernel
theorem lkX10_lookAt_154 : Cond.fieldLink RX10 154 "TwinIssue$Maps" "sets" "I" ∈ wsX10_lookAt := by decide +kernel
theorem lkX10_lookAt_159 : Cond.fieldLink RX10 159 "TwinIssue$Specials" "held" "I" ∈ wsX10_lookAt := by decide +kernel
theorem iwX10_lookAt_X1 : ∀ w ∈ wsX10, w ∈ wsX10_lookAt := fun _ h => List.mem_cons_of_mem _ (List.mem_append_left _ (List.mem_append_left _ (List.mem_append_left _ (List.mem_append_left _ (List.mem_append_left _ (List.mem_append_right _ h))))))
theorem iwX10_lookAt_X10 : ∀ w ∈ wsX100, w ∈ wsX10_lookAt := fun _ h => List.mem_cons_of_mem _ (List.mem_append_left _ (List.mem_append_left _ (List.mem_append_left _ (List.mem_append_left _ (List.mem_append_left _ (List.mem_append_left _ (List.mem_append_right _ h)))))))
theorem iwX10_lookAt_X2 : ∀ w ∈ wsX20, w ∈ wsX10_lookAt := fun _ h => List.mem_cons_of_mem _ (List.mem_append_left _ (List.mem_append_left _ (List.mem_append_left _ (List.mem_append_left _ (List.mem_append_right _ h)))))
theorem iwX10_lookAt_X4 : ∀ w ∈ wsX40, w ∈ wsX10_lookAt := fun _ h => List.mem_cons_of_mem _ (List.mem_append_left _ (List.mem_append_right _ h))
theorem iwX10_lookAt_X5 : ∀ w ∈ wsX50, w ∈ wsX10_lookAt := fun _ h => List.mem_cons_of_mem _ (List.mem_append_right _ h)
theorem iwX10_lookAt_X8 : ∀ w ∈ wsX80, w ∈ wsX10_lookAt := fun _ h => List.mem_cons_of_mem _ (List.mem_append_left _ (List.mem_append_left _ (List.mem_append_right _ h)))
theorem iwX10_lookAt_X9 : ∀ w ∈ wsX90, w ∈ wsX10_lookAt := fun _ h => List.mem_cons_of_mem _ (List.mem_append_left _ (List.mem_append_left _ (List.mem_append_left _ (List.mem_append_right _ h))))
set_option maxHeartbeats 4000000 in
set_option maxRecDepth 100000 in
theorem mX10_lookAt (l : Launch) (G : va_G) (cI cB cP : ClassId) (aT aEx aMe aSt aSp aMp aLi aIn aEf aPi aEv aRg aWo aCo aVa aFi : Nat) (tw_cycles : Int32) (tw_nextIsKnown : Int32) (st_pc : Int32) (st_inSlot : Int32) (st_branchAt : Int32) (st_target : Int32) (sp_sr : Int32) (sp_epc : Int32) (sp_esr : Int32) (sp_eea : Int32) (sp_held : Int32) (sp_sum : Int64) (sp_count : Int32) (sp_timer : Int32) (sp_mask : Int32) (sp_retired : Int32) (sp_latch : Int32) (mp_sets : Int32) (li_passed : Int32) (li_size : Int32) (ev_count : Int32) (ev_exceptions : Int32) (ev_doubleCycles : Int32) (ev_longestWay : Int32) (ev_lastCycle : Int32) (sz : Nat) (p0 : Int32) : kMi (S := Unit) l yX10_lookAt wsX10_lookAt ({ frames := 2, cells := 0, slots := 0, locals := 33 }) [.ref aT, .int p0] G (kTY cI cB cP) sz [(aT, .inr (10, [.ref aEx, .ref aPi, .ref aEv, .int tw_cycles, .int tw_nextIsKnown])), (aEx, .inr (2, [.ref aMe, .ref aSt, .ref aIn, .ref aEf])), (aSt, .inr (9, [.ref aRg, .ref aSp, .int st_pc, .int st_inSlot, .int st_branchAt, .int st_target])), (aSp, .inr (8, [.ref aMp, .ref aLi, .int sp_sr, .int sp_epc, .int sp_esr, .int sp_eea, .int sp_held, .long sp_sum, .int sp_count, .int sp_timer, .int sp_mask, .int sp_retired, .int sp_latch])), (aMp, .inr (5, [.ref aWo, .int mp_sets])), (aLi, .inr (4, [.ref aCo, .ref aVa, .int li_passed, .int li_size])), (aEv, .inr (1, [.ref aFi, .int ev_count, .int ev_exceptions, .int ev_doubleCycles, .int ev_longestWay, .int ev_lastCycle]))] (fX10_lookAt tw_cycles sp_held mp_sets li_size ev_count ev_exceptions ev_doubleCycles ev_longestWay p0, ()) (fun _ _ => True) (fun _ => [(aT, .inr (10, [.ref aEx, .ref aPi, .ref aEv, .int tw_cycles, .int tw_nextIsKnown])), (aEx, .inr (2, [.ref aMe, .ref aSt, .ref aIn, .ref aEf])), (aSt, .inr (9, [.ref aRg, .ref aSp, .int st_pc, .int st_inSlot, .int st_branchAt, .int st_target])), (aSp, .inr (8, [.ref aMp, .ref aLi, .int sp_sr, .int sp_epc, .int sp_esr, .int sp_eea, .int sp_held, .long sp_sum, .int sp_count, .int sp_timer, .int sp_mask, .int sp_retired, .int sp_latch])), (aMp, .inr (5, [.ref aWo, .int mp_sets])), (aLi, .inr (4, [.ref aCo, .ref aVa, .int li_passed, .int li_size])), (aEv, .inr (1, [.ref aFi, .int ev_count, .int ev_exceptions, .int ev_doubleCycles, .int ev_longestWay, .int ev_lastCycle]))]) := by
  refine k_ofi (cc := cX10_lookAt) (maxL := 2) (by decide) rfl (Nat.le_of_ble_eq_true rfl) ?_
  intro p e s m args below meth c A ls Q H locs hx hb hml hown hts hin hK hP hD hA hS hl hret
  have hown : s.vm.findClass RX10 = some m.cls := hown
  have hl : lv_has ls 2 [(0, .ref aT), (1, .int p0)] := hl
  refine lv_iload_n hx hb dX10_lookAt_0 rfl (lv_at hl 1 rfl) ?_
  by_cases c1 : p0 = 0
  · skip
    refine k_tab (tgt := 52) hx hb dX10_lookAt_1 c1 (by decide) (by decide) rfl (by decide) ?_
    refine lv_aload_n hx hb dX10_lookAt_52 rfl (lv_at hl 0 rfl) ?_
    refine va_get (D := G) (ci := 10) (v := .int tw_cycles) (C := RX10) (T := TX10) (N := 5) hx hb hts iwX10_lookAt_X10 hown hK hP 0 rfl rfl 3 (by decide) (hts _ lkX10_lookAt_36) (fun _ h9 => h9) rfl dX10_lookAt_53 ?_
    exact hret H locs _ ls tw_cycles () dX10_lookAt_56 (by exact congrArg (fun x => (x, ())) (((if_pos c1).trans (rfl))).symm) trivial hP hD hS
  by_cases c2 : p0 = 1
  · skip
    refine k_tab (tgt := 57) hx hb dX10_lookAt_1 c2 (by decide) (by decide) rfl (by decide) ?_
    refine lv_aload_n hx hb dX10_lookAt_57 rfl (lv_at hl 0 rfl) ?_
    refine va_get (D := G) (ci := 10) (v := .ref aEv) (C := RX10) (T := TX10) (N := 5) hx hb hts iwX10_lookAt_X10 hown hK hP 0 rfl rfl 2 (by decide) (hts _ lkX10_lookAt_19) (fun _ h9 => h9) rfl dX10_lookAt_58 ?_
    refine va_get (D := G) (ci := 1) (v := .int ev_count) (C := RX1) (T := TX1) (N := 6) hx hb hts iwX10_lookAt_X1 hown hK hP 6 rfl rfl 1 (by decide) (hts _ lkX10_lookAt_90) (fun _ h9 => h9) rfl dX10_lookAt_61 ?_
    exact hret H locs _ ls ev_count () dX10_lookAt_64 (by exact congrArg (fun x => (x, ())) (((if_neg c1).trans ((if_pos c2).trans (rfl)))).symm) trivial hP hD hS
  by_cases c3 : p0 = 2
  · skip
    refine k_tab (tgt := 65) hx hb dX10_lookAt_1 c3 (by decide) (by decide) rfl (by decide) ?_
    refine lv_aload_n hx hb dX10_lookAt_65 rfl (lv_at hl 0 rfl) ?_
    refine va_get (D := G) (ci := 10) (v := .ref aEv) (C := RX10) (T := TX10) (N := 5) hx hb hts iwX10_lookAt_X10 hown hK hP 0 rfl rfl 2 (by decide) (hts _ lkX10_lookAt_19) (fun _ h9 => h9) rfl dX10_lookAt_66 ?_
    refine va_get (D := G) (ci := 1) (v := .int ev_exceptions) (C := RX1) (T := TX1) (N := 6) hx hb hts iwX10_lookAt_X1 hown hK hP 6 rfl rfl 2 (by decide) (hts _ lkX10_lookAt_134) (fun _ h9 => h9) rfl dX10_lookAt_69 ?_
    exact hret H locs _ ls ev_exceptions () dX10_lookAt_72 (by exact congrArg (fun x => (x, ())) (((if_neg c1).trans ((if_neg c2).trans ((if_pos c3).trans (rfl))))).symm) trivial hP hD hS
  by_cases c4 : p0 = 3
  · skip
    refine k_tab (tgt := 73) hx hb dX10_lookAt_1 c4 (by decide) (by decide) rfl (by decide) ?_
    refine lv_aload_n hx hb dX10_lookAt_73 rfl (lv_at hl 0 rfl) ?_
    refine va_get (D := G) (ci := 10) (v := .ref aEv) (C := RX10) (T := TX10) (N := 5) hx hb hts iwX10_lookAt_X10 hown hK hP 0 rfl rfl 2 (by decide) (hts _ lkX10_lookAt_19) (fun _ h9 => h9) rfl dX10_lookAt_74 ?_
    refine va_get (D := G) (ci := 1) (v := .int ev_doubleCycles) (C := RX1) (T := TX1) (N := 6) hx hb hts iwX10_lookAt_X1 hown hK hP 6 rfl rfl 3 (by decide) (hts _ lkX10_lookAt_137) (fun _ h9 => h9) rfl dX10_lookAt_77 ?_
    exact hret H locs _ ls ev_doubleCycles () dX10_lookAt_80 (by exact congrArg (fun x => (x, ())) (((if_neg c1).trans ((if_neg c2).trans ((if_neg c3).trans ((if_pos c4).trans (rfl)))))).symm) trivial hP hD hS
  by_cases c5 : p0 = 4
  · skip
    refine k_tab (tgt := 81) hx hb dX10_lookAt_1 c5 (by decide) (by decide) rfl (by decide) ?_
    refine lv_aload_n hx hb dX10_lookAt_81 rfl (lv_at hl 0 rfl) ?_
    refine va_get (D := G) (ci := 10) (v := .ref aEv) (C := RX10) (T := TX10) (N := 5) hx hb hts iwX10_lookAt_X10 hown hK hP 0 rfl rfl 2 (by decide) (hts _ lkX10_lookAt_19) (fun _ h9 => h9) rfl dX10_lookAt_82 ?_
    refine k_iV (As := []) (rest := []) (wc := [(aEv, .inr (1, [.ref aFi, .int ev_count, .int ev_exceptions, .int ev_doubleCycles, .int ev_longestWay, .int ev_lastCycle]))]) (wr := [(aT, .inr (10, [.ref aEx, .ref aPi, .ref aEv, .int tw_cycles, .int tw_nextIsKnown])), (aEx, .inr (2, [.ref aMe, .ref aSt, .ref aIn, .ref aEf])), (aSt, .inr (9, [.ref aRg, .ref aSp, .int st_pc, .int st_inSlot, .int st_branchAt, .int st_target])), (aSp, .inr (8, [.ref aMp, .ref aLi, .int sp_sr, .int sp_epc, .int sp_esr, .int sp_eea, .int sp_held, .long sp_sum, .int sp_count, .int sp_timer, .int sp_mask, .int sp_retired, .int sp_latch])), (aMp, .inr (5, [.ref aWo, .int mp_sets])), (aLi, .inr (4, [.ref aCo, .ref aVa, .int li_passed, .int li_size]))]) ⟨hx, hb, hml, hown, hts⟩ hK hP hD hS hA [6] [0, 1, 2, 3, 4, 5] rfl rfl rfl rfl (by decide) (mX1_firstKept l G cI cB cP aEv aFi ev_count ev_exceptions ev_doubleCycles ev_longestWay ev_lastCycle H.size  ) (cwV 0 hts gX10_lookAt_X1_firstKept rfl rfl rfl (by decide +kernel) ⟨Nat.le_of_ble_eq_true rfl, Nat.le_of_ble_eq_true rfl⟩) 6 1 rfl rfl rfl rfl hl.1 rfl (Nat.le_of_ble_eq_true rfl) dX10_lookAt_85 ⟨Nat.le_of_ble_eq_true rfl, Nat.le_of_ble_eq_true rfl⟩ (fun z1 H locs hz1 hEz1 hP hD hS => ?_)
    have hP : va_P G vwCl [(aT, .inr (10, [.ref aEx, .ref aPi, .ref aEv, .int tw_cycles, .int tw_nextIsKnown])), (aEx, .inr (2, [.ref aMe, .ref aSt, .ref aIn, .ref aEf])), (aSt, .inr (9, [.ref aRg, .ref aSp, .int st_pc, .int st_inSlot, .int st_branchAt, .int st_target])), (aSp, .inr (8, [.ref aMp, .ref aLi, .int sp_sr, .int sp_epc, .int sp_esr, .int sp_eea, .int sp_held, .long sp_sum, .int sp_count, .int sp_timer, .int sp_mask, .int sp_retired, .int sp_latch])), (aMp, .inr (5, [.ref aWo, .int mp_sets])), (aLi, .inr (4, [.ref aCo, .ref aVa, .int li_passed, .int li_size])), (aEv, .inr (1, [.ref aFi, .int ev_count, .int ev_exceptions, .int ev_doubleCycles, .int ev_longestWay, .int ev_lastCycle]))] H := hP
    have hD : va_D A [(aT, .inr (10, [.ref aEx, .ref aPi, .ref aEv, .int tw_cycles, .int tw_nextIsKnown])), (aEx, .inr (2, [.ref aMe, .ref aSt, .ref aIn, .ref aEf])), (aSt, .inr (9, [.ref aRg, .ref aSp, .int st_pc, .int st_inSlot, .int st_branchAt, .int st_target])), (aSp, .inr (8, [.ref aMp, .ref aLi, .int sp_sr, .int sp_epc, .int sp_esr, .int sp_eea, .int sp_held, .long sp_sum, .int sp_count, .int sp_timer, .int sp_mask, .int sp_retired, .int sp_latch])), (aMp, .inr (5, [.ref aWo, .int mp_sets])), (aLi, .inr (4, [.ref aCo, .ref aVa, .int li_passed, .int li_size])), (aEv, .inr (1, [.ref aFi, .int ev_count, .int ev_exceptions, .int ev_doubleCycles, .int ev_longestWay, .int ev_lastCycle]))] := hD
    exact hret H locs _ ls z1.1 () dX10_lookAt_88 (by clear hP hD hS hl; replace hz1 := hz1.symm; subst hz1; exact congrArg (fun x => (x, ())) (((if_neg c1).trans ((if_neg c2).trans ((if_neg c3).trans ((if_neg c4).trans ((if_pos c5).trans (rfl))))))).symm) trivial hP hD hS
  by_cases c6 : p0 = 5
  · skip
    refine k_tab (tgt := 89) hx hb dX10_lookAt_1 c6 (by decide) (by decide) rfl (by decide) ?_
    refine lv_aload_n hx hb dX10_lookAt_89 rfl (lv_at hl 0 rfl) ?_
    refine va_get (D := G) (ci := 10) (v := .ref aEx) (C := RX10) (T := TX10) (N := 5) hx hb hts iwX10_lookAt_X10 hown hK hP 0 rfl rfl 0 (by decide) (hts _ lkX10_lookAt_32) (fun _ h9 => h9) rfl dX10_lookAt_90 ?_
    refine va_get (D := G) (ci := 2) (v := .ref aSt) (C := RX2) (T := TX2) (N := 4) hx hb hts iwX10_lookAt_X2 hown hK hP 1 rfl rfl 1 (by decide) (hts _ lkX10_lookAt_54) (fun _ h9 => h9) rfl dX10_lookAt_93 ?_
    refine va_get (D := G) (ci := 9) (v := .ref aSp) (C := RX9) (T := TX9) (N := 6) hx hb hts iwX10_lookAt_X9 hown hK hP 2 rfl rfl 1 (by decide) (hts _ lkX10_lookAt_64) (fun _ h9 => h9) rfl dX10_lookAt_96 ?_
    refine va_get (D := G) (ci := 8) (v := .ref aLi) (C := RX8) (T := TX8) (N := 13) hx hb hts iwX10_lookAt_X8 hown hK hP 3 rfl rfl 1 (by decide) (hts _ lkX10_lookAt_68) (fun _ h9 => h9) rfl dX10_lookAt_99 ?_
    refine va_get (D := G) (ci := 4) (v := .int li_size) (C := RX4) (T := TX4) (N := 4) hx hb hts iwX10_lookAt_X4 hown hK hP 5 rfl rfl 3 (by decide) (hts _ lkX10_lookAt_144) (fun _ h9 => h9) rfl dX10_lookAt_102 ?_
    exact hret H locs _ ls li_size () dX10_lookAt_105 (by exact congrArg (fun x => (x, ())) (((if_neg c1).trans ((if_neg c2).trans ((if_neg c3).trans ((if_neg c4).trans ((if_neg c5).trans ((if_pos c6).trans (rfl)))))))).symm) trivial hP hD hS
  by_cases c7 : p0 = 6
  · skip
    refine k_tab (tgt := 106) hx hb dX10_lookAt_1 c7 (by decide) (by decide) rfl (by decide) ?_
    refine lv_aload_n hx hb dX10_lookAt_106 rfl (lv_at hl 0 rfl) ?_
    refine va_get (D := G) (ci := 10) (v := .ref aEv) (C := RX10) (T := TX10) (N := 5) hx hb hts iwX10_lookAt_X10 hown hK hP 0 rfl rfl 2 (by decide) (hts _ lkX10_lookAt_19) (fun _ h9 => h9) rfl dX10_lookAt_107 ?_
    refine va_get (D := G) (ci := 1) (v := .int ev_longestWay) (C := RX1) (T := TX1) (N := 6) hx hb hts iwX10_lookAt_X1 hown hK hP 6 rfl rfl 4 (by decide) (hts _ lkX10_lookAt_147) (fun _ h9 => h9) rfl dX10_lookAt_110 ?_
    exact hret H locs _ ls ev_longestWay () dX10_lookAt_113 (by exact congrArg (fun x => (x, ())) (((if_neg c1).trans ((if_neg c2).trans ((if_neg c3).trans ((if_neg c4).trans ((if_neg c5).trans ((if_neg c6).trans ((if_pos c7).trans (rfl))))))))).symm) trivial hP hD hS
  by_cases c8 : p0 = 7
  · skip
    refine k_tab (tgt := 114) hx hb dX10_lookAt_1 c8 (by decide) (by decide) rfl (by decide) ?_
    refine lv_aload_n hx hb dX10_lookAt_114 rfl (lv_at hl 0 rfl) ?_
    refine va_get (D := G) (ci := 10) (v := .ref aEx) (C := RX10) (T := TX10) (N := 5) hx hb hts iwX10_lookAt_X10 hown hK hP 0 rfl rfl 0 (by decide) (hts _ lkX10_lookAt_32) (fun _ h9 => h9) rfl dX10_lookAt_115 ?_
    refine va_get (D := G) (ci := 2) (v := .ref aSt) (C := RX2) (T := TX2) (N := 4) hx hb hts iwX10_lookAt_X2 hown hK hP 1 rfl rfl 1 (by decide) (hts _ lkX10_lookAt_54) (fun _ h9 => h9) rfl dX10_lookAt_118 ?_
    refine va_get (D := G) (ci := 9) (v := .ref aSp) (C := RX9) (T := TX9) (N := 6) hx hb hts iwX10_lookAt_X9 hown hK hP 2 rfl rfl 1 (by decide) (hts _ lkX10_lookAt_64) (fun _ h9 => h9) rfl dX10_lookAt_121 ?_
    refine va_get (D := G) (ci := 8) (v := .ref aMp) (C := RX8) (T := TX8) (N := 13) hx hb hts iwX10_lookAt_X8 hown hK hP 3 rfl rfl 0 (by decide) (hts _ lkX10_lookAt_150) (fun _ h9 => h9) rfl dX10_lookAt_124 ?_
    refine va_get (D := G) (ci := 5) (v := .int mp_sets) (C := RX5) (T := TX5) (N := 2) hx hb hts iwX10_lookAt_X5 hown hK hP 4 rfl rfl 1 (by decide) (hts _ lkX10_lookAt_154) (fun _ h9 => h9) rfl dX10_lookAt_127 ?_
    exact hret H locs _ ls mp_sets () dX10_lookAt_130 (by exact congrArg (fun x => (x, ())) (((if_neg c1).trans ((if_neg c2).trans ((if_neg c3).trans ((if_neg c4).trans ((if_neg c5).trans ((if_neg c6).trans ((if_neg c7).trans ((if_pos c8).trans (rfl)))))))))).symm) trivial hP hD hS
  by_cases c9 : p0 = 8
  · skip
    refine k_tab (tgt := 131) hx hb dX10_lookAt_1 c9 (by decide) (by decide) rfl (by decide) ?_
    refine lv_aload_n hx hb dX10_lookAt_131 rfl (lv_at hl 0 rfl) ?_
    refine va_get (D := G) (ci := 10) (v := .ref aEx) (C := RX10) (T := TX10) (N := 5) hx hb hts iwX10_lookAt_X10 hown hK hP 0 rfl rfl 0 (by decide) (hts _ lkX10_lookAt_32) (fun _ h9 => h9) rfl dX10_lookAt_132 ?_
    refine va_get (D := G) (ci := 2) (v := .ref aSt) (C := RX2) (T := TX2) (N := 4) hx hb hts iwX10_lookAt_X2 hown hK hP 1 rfl rfl 1 (by decide) (hts _ lkX10_lookAt_54) (fun _ h9 => h9) rfl dX10_lookAt_135 ?_
    refine va_get (D := G) (ci := 9) (v := .ref aSp) (C := RX9) (T := TX9) (N := 6) hx hb hts iwX10_lookAt_X9 hown hK hP 2 rfl rfl 1 (by decide) (hts _ lkX10_lookAt_64) (fun _ h9 => h9) rfl dX10_lookAt_138 ?_
    refine va_get (D := G) (ci := 8) (v := .int sp_held) (C := RX8) (T := TX8) (N := 13) hx hb hts iwX10_lookAt_X8 hown hK hP 3 rfl rfl 6 (by decide) (hts _ lkX10_lookAt_159) (fun _ h9 => h9) rfl dX10_lookAt_141 ?_
    exact hret H locs _ ls sp_held () dX10_lookAt_144 (by exact congrArg (fun x => (x, ())) (((if_neg c1).trans ((if_neg c2).trans ((if_neg c3).trans ((if_neg c4).trans ((if_neg c5).trans ((if_neg c6).trans ((if_neg c7).trans ((if_neg c8).trans ((if_pos c9).trans (rfl))))))))))).symm) trivial hP hD hS
  refine k_tabD (tgt := 145) hx hb dX10_lookAt_1 [0, 1, 2, 3, 4, 5, 6, 7, 8] (List.forall_mem_cons.mpr ⟨c1, List.forall_mem_cons.mpr ⟨c2, List.forall_mem_cons.mpr ⟨c3, List.forall_mem_cons.mpr ⟨c4, List.forall_mem_cons.mpr ⟨c5, List.forall_mem_cons.mpr ⟨c6, List.forall_mem_cons.mpr ⟨c7, List.forall_mem_cons.mpr ⟨c8, List.forall_mem_cons.mpr ⟨c9, fun _ h => absurd h List.not_mem_nil⟩⟩⟩⟩⟩⟩⟩⟩⟩) (by decide) (by decide) (by decide) ?_
  refine lv_iconst (v := (-1)) hx hb dX10_lookAt_145 (by decide) ?_
  exact hret H locs _ ls (-1) () dX10_lookAt_146 (by exact congrArg (fun x => (x, ())) (((if_neg c1).trans ((if_neg c2).trans ((if_neg c3).trans ((if_neg c4).trans ((if_neg c5).trans ((if_neg c6).trans ((if_neg c7).trans ((if_neg c8).trans ((if_neg c9).trans (rfl))))))))))).symm) trivial hP hD hS
def fX10_placeOf (st_pc : Int32) (st_inSlot : Int32) (st_branchAt : Int32) (st_target : Int32) (p0 : Int32) : Int32 :=
  if p0 = 0 then (st_pc) else (if p0 = 1 then (if st_inSlot = 0 then (0) else (st_branchAt)) else (if p0 = 2 then (if st_inSlot = 0 then (0) else (st_target)) else (0)))
theorem lkX10_placeOf_32 : Cond.fieldLink RX10 32 "TwinIssue" "executor" "LTwinIssue$Executor;" ∈ wsX10_placeOf := by decide +kernel
theorem lkX10_placeOf_54 : Cond.fieldLink RX10 54 "TwinIssue$Executor" "state" "LTwinIssue$State;" ∈ wsX10_placeOf := by decide +kernel
theorem lkX10_placeOf_115 : Cond.fieldLink RX10 115 "TwinIssue$State" "pc" "I" ∈ wsX10_placeOf := by decide +kernel
theorem lkX10_placeOf_118 : Cond.fieldLink RX10 118 "TwinIssue$State" "inSlot" "Z" ∈ wsX10_placeOf := by decide +kernel
theorem lkX10_placeOf_121 : Cond.fieldLink RX10 121 "TwinIssue$State" "branchAt" "I" ∈ wsX10_placeOf := by decide +kernel
theorem lkX10_placeOf_124 : Cond.fieldLink RX10 124 "TwinIssue$State" "target" "I" ∈ wsX10_placeOf := by decide +kernel
theorem iwX10_placeOf_X10 : ∀ w ∈ wsX100, w ∈ wsX10_placeOf := fun _ h => List.mem_cons_of_mem _ (List.mem_append_left _ (List.mem_append_left _ (List.mem_append_right _ h)))
theorem iwX10_placeOf_X2 : ∀ w ∈ wsX20, w ∈ wsX10_placeOf := fun _ h => List.mem_cons_of_mem _ (List.mem_append_left _ (List.mem_append_right _ h))
theorem iwX10_placeOf_X9 : ∀ w ∈ wsX90, w ∈ wsX10_placeOf := fun _ h => List.mem_cons_of_mem _ (List.mem_append_right _ h)
set_option maxHeartbeats 4000000 in
set_option maxRecDepth 100000 in
theorem mX10_placeOf (l : Launch) (G : va_G) (cI cB cP : ClassId) (aT aEx aMe aSt aSp aIn aEf aPi aEv aRg : Nat) (tw_cycles : Int32) (tw_nextIsKnown : Int32) (st_pc : Int32) (st_inSlot : Int32) (st_branchAt : Int32) (st_target : Int32) (sz : Nat) (p0 : Int32) : kMi (S := Unit) l yX10_placeOf wsX10_placeOf ({ frames := 0, cells := 0, slots := 0, locals := 0 }) [.ref aT, .int p0] G (kTY cI cB cP) sz [(aT, .inr (10, [.ref aEx, .ref aPi, .ref aEv, .int tw_cycles, .int tw_nextIsKnown])), (aEx, .inr (2, [.ref aMe, .ref aSt, .ref aIn, .ref aEf])), (aSt, .inr (9, [.ref aRg, .ref aSp, .int st_pc, .int st_inSlot, .int st_branchAt, .int st_target]))] (fX10_placeOf st_pc st_inSlot st_branchAt st_target p0, ()) (fun _ _ => True) (fun _ => [(aT, .inr (10, [.ref aEx, .ref aPi, .ref aEv, .int tw_cycles, .int tw_nextIsKnown])), (aEx, .inr (2, [.ref aMe, .ref aSt, .ref aIn, .ref aEf])), (aSt, .inr (9, [.ref aRg, .ref aSp, .int st_pc, .int st_inSlot, .int st_branchAt, .int st_target]))]) := by
  refine k_ofi (cc := cX10_placeOf) (maxL := 3) (by decide) rfl (Nat.le_of_ble_eq_true rfl) ?_
  intro p e s m args below meth c A ls Q H locs hx hb hml hown hts hin hK hP hD hA hS hl hret
  have hown : s.vm.findClass RX10 = some m.cls := hown
  have hl : lv_has ls 3 [(0, .ref aT), (1, .int p0)] := hl
  refine lv_aload_n hx hb dX10_placeOf_0 rfl (lv_at hl 0 rfl) ?_
  refine va_get (D := G) (ci := 10) (v := .ref aEx) (C := RX10) (T := TX10) (N := 5) hx hb hts iwX10_placeOf_X10 hown hK hP 0 rfl rfl 0 (by decide) (hts _ lkX10_placeOf_32) (fun _ h9 => h9) rfl dX10_placeOf_1 ?_
  refine va_get (D := G) (ci := 2) (v := .ref aSt) (C := RX2) (T := TX2) (N := 4) hx hb hts iwX10_placeOf_X2 hown hK hP 1 rfl rfl 1 (by decide) (hts _ lkX10_placeOf_54) (fun _ h9 => h9) rfl dX10_placeOf_4 ?_
  refine lv_astore_n (lv' := [(2, .ref aSt), (0, .ref aT), (1, .int p0)]) hx hb dX10_placeOf_7 rfl hl (by decide) rfl (fun ls hl => ?_)
  refine lv_iload_n hx hb dX10_placeOf_8 rfl (lv_at hl 2 rfl) ?_
  by_cases c1 : p0 = 0
  · skip
    refine k_tab (tgt := 36) hx hb dX10_placeOf_9 c1 (by decide) (by decide) rfl (by decide) ?_
    refine lv_aload_n hx hb dX10_placeOf_36 rfl (lv_at hl 0 rfl) ?_
    refine va_get (D := G) (ci := 9) (v := .int st_pc) (C := RX9) (T := TX9) (N := 6) hx hb hts iwX10_placeOf_X9 hown hK hP 2 rfl rfl 2 (by decide) (hts _ lkX10_placeOf_115) (fun _ h9 => h9) rfl dX10_placeOf_37 ?_
    exact hret H locs _ ls st_pc () dX10_placeOf_40 (by exact congrArg (fun x => (x, ())) (((if_pos c1).trans (rfl))).symm) trivial hP hD hS
  by_cases c2 : p0 = 1
  · skip
    refine k_tab (tgt := 41) hx hb dX10_placeOf_9 c2 (by decide) (by decide) rfl (by decide) ?_
    refine lv_aload_n hx hb dX10_placeOf_41 rfl (lv_at hl 0 rfl) ?_
    refine va_get (D := G) (ci := 9) (v := .int st_inSlot) (C := RX9) (T := TX9) (N := 6) hx hb hts iwX10_placeOf_X9 hown hK hP 2 rfl rfl 3 (by decide) (hts _ lkX10_placeOf_118) (fun _ h9 => h9) rfl dX10_placeOf_42 ?_
    refine lv_if_eq (tgt := 55) hx hb dX10_placeOf_45 (by decide) (fun c3 => ?_) (fun c3 => ?_)
    · skip
      refine lv_iconst (v := 0) hx hb dX10_placeOf_55 (by decide) ?_
      exact hret H locs _ ls 0 () dX10_placeOf_56 (by exact congrArg (fun x => (x, ())) (((if_neg c1).trans ((if_pos c2).trans ((if_pos c3).trans (rfl))))).symm) trivial hP hD hS
    · skip
      refine lv_aload_n hx hb dX10_placeOf_48 rfl (lv_at hl 0 rfl) ?_
      refine va_get (D := G) (ci := 9) (v := .int st_branchAt) (C := RX9) (T := TX9) (N := 6) hx hb hts iwX10_placeOf_X9 hown hK hP 2 rfl rfl 4 (by decide) (hts _ lkX10_placeOf_121) (fun _ h9 => h9) rfl dX10_placeOf_49 ?_
      refine lv_goto (tgt := 56) hx hb dX10_placeOf_52 (by decide) ?_
      exact hret H locs _ ls st_branchAt () dX10_placeOf_56 (by exact congrArg (fun x => (x, ())) (((if_neg c1).trans ((if_pos c2).trans ((if_neg c3).trans (rfl))))).symm) trivial hP hD hS
  by_cases c4 : p0 = 2
  · skip
    refine k_tab (tgt := 57) hx hb dX10_placeOf_9 c4 (by decide) (by decide) rfl (by decide) ?_
    refine lv_aload_n hx hb dX10_placeOf_57 rfl (lv_at hl 0 rfl) ?_
    refine va_get (D := G) (ci := 9) (v := .int st_inSlot) (C := RX9) (T := TX9) (N := 6) hx hb hts iwX10_placeOf_X9 hown hK hP 2 rfl rfl 3 (by decide) (hts _ lkX10_placeOf_118) (fun _ h9 => h9) rfl dX10_placeOf_58 ?_
    refine lv_if_eq (tgt := 71) hx hb dX10_placeOf_61 (by decide) (fun c5 => ?_) (fun c5 => ?_)
    · skip
      refine lv_iconst (v := 0) hx hb dX10_placeOf_71 (by decide) ?_
      exact hret H locs _ ls 0 () dX10_placeOf_72 (by exact congrArg (fun x => (x, ())) (((if_neg c1).trans ((if_neg c2).trans ((if_pos c4).trans ((if_pos c5).trans (rfl)))))).symm) trivial hP hD hS
    · skip
      refine lv_aload_n hx hb dX10_placeOf_64 rfl (lv_at hl 0 rfl) ?_
      refine va_get (D := G) (ci := 9) (v := .int st_target) (C := RX9) (T := TX9) (N := 6) hx hb hts iwX10_placeOf_X9 hown hK hP 2 rfl rfl 5 (by decide) (hts _ lkX10_placeOf_124) (fun _ h9 => h9) rfl dX10_placeOf_65 ?_
      refine lv_goto (tgt := 72) hx hb dX10_placeOf_68 (by decide) ?_
      exact hret H locs _ ls st_target () dX10_placeOf_72 (by exact congrArg (fun x => (x, ())) (((if_neg c1).trans ((if_neg c2).trans ((if_pos c4).trans ((if_neg c5).trans (rfl)))))).symm) trivial hP hD hS
  refine k_tabD (tgt := 73) hx hb dX10_placeOf_9 [0, 1, 2] (List.forall_mem_cons.mpr ⟨c1, List.forall_mem_cons.mpr ⟨c2, List.forall_mem_cons.mpr ⟨c4, fun _ h => absurd h List.not_mem_nil⟩⟩⟩) (by decide) (by decide) (by decide) ?_
  refine lv_iconst (v := 0) hx hb dX10_placeOf_73 (by decide) ?_
  exact hret H locs _ ls 0 () dX10_placeOf_74 (by exact congrArg (fun x => (x, ())) (((if_neg c1).trans ((if_neg c2).trans ((if_neg c4).trans (rfl))))).symm) trivial hP hD hS
def fX10_registerOf (rg : Nat → Int32) (p0 : Int32) : Int32 :=
  if p0 < 0 then (0) else (if p0 < 32 then (rg p0.toNatClampNeg) else (0))
theorem lkX10_registerOf_32 : Cond.fieldLink RX10 32 "TwinIssue" "executor" "LTwinIssue$Executor;" ∈ wsX10_registerOf := by decide +kernel
theorem lkX10_registerOf_54 : Cond.fieldLink RX10 54 "TwinIssue$Executor" "state" "LTwinIssue$State;" ∈ wsX10_registerOf := by decide +kernel
theorem lkX10_registerOf_58 : Cond.fieldLink RX10 58 "TwinIssue$State" "registers" "[I" ∈ wsX10_registerOf := by decide +kernel
theorem iwX10_registerOf_X10 : ∀ w ∈ wsX100, w ∈ wsX10_registerOf := fun _ h => List.mem_cons_of_mem _ (List.mem_append_left _ (List.mem_append_left _ (List.mem_append_right _ h)))
theorem iwX10_registerOf_X2 : ∀ w ∈ wsX20, w ∈ wsX10_registerOf := fun _ h => List.mem_cons_of_mem _ (List.mem_append_left _ (List.mem_append_right _ h))
theorem iwX10_registerOf_X9 : ∀ w ∈ wsX90, w ∈ wsX10_registerOf := fun _ h => List.mem_cons_of_mem _ (List.mem_append_right _ h)
def sX10_registerOf (p0 : Int32) : Prop :=
  (p0 < 0 → True) ∧ (¬ (p0 < 0) → ((p0 < 32 → ((vp_in p0 32) ∧ True)) ∧ (¬ (p0 < 32) → True)))
set_option maxHeartbeats 4000000 in
set_option maxRecDepth 100000 in
theorem mX10_registerOf (l : Launch) (G : va_G) (cI cB cP : ClassId) (aT aEx aMe aSt aSp aIn aEf aPi aEv aRg : Nat) (tw_cycles : Int32) (tw_nextIsKnown : Int32) (st_pc : Int32) (st_inSlot : Int32) (st_branchAt : Int32) (st_target : Int32) (rg : Nat → Int32) (sz : Nat) (p0 : Int32) (hs : sX10_registerOf p0) : kMi (S := Unit) l yX10_registerOf wsX10_registerOf ({ frames := 0, cells := 0, slots := 0, locals := 0 }) [.ref aT, .int p0] G (kTY cI cB cP) sz [(aT, .inr (10, [.ref aEx, .ref aPi, .ref aEv, .int tw_cycles, .int tw_nextIsKnown])), (aEx, .inr (2, [.ref aMe, .ref aSt, .ref aIn, .ref aEf])), (aSt, .inr (9, [.ref aRg, .ref aSp, .int st_pc, .int st_inSlot, .int st_branchAt, .int st_target])), (aRg, .inl (cI, 32, .inl rg))] (fX10_registerOf rg p0, ()) (fun _ _ => True) (fun _ => [(aT, .inr (10, [.ref aEx, .ref aPi, .ref aEv, .int tw_cycles, .int tw_nextIsKnown])), (aEx, .inr (2, [.ref aMe, .ref aSt, .ref aIn, .ref aEf])), (aSt, .inr (9, [.ref aRg, .ref aSp, .int st_pc, .int st_inSlot, .int st_branchAt, .int st_target])), (aRg, .inl (cI, 32, .inl rg))]) := by
  refine k_ofi (cc := cX10_registerOf) (maxL := 2) (by decide) rfl (Nat.le_of_ble_eq_true rfl) ?_
  intro p e s m args below meth c A ls Q H locs hx hb hml hown hts hin hK hP hD hA hS hl hret
  have hown : s.vm.findClass RX10 = some m.cls := hown
  have hl : lv_has ls 2 [(0, .ref aT), (1, .int p0)] := hl
  unfold sX10_registerOf at hs
  refine lv_iload_n hx hb dX10_registerOf_0 rfl (lv_at hl 1 rfl) ?_
  refine lv_if_lt (tgt := 10) hx hb dX10_registerOf_1 (by decide) (fun c1 => ?_) (fun c1 => ?_)
  · have hs := hs.1 c1
    refine lv_iconst (v := 0) hx hb dX10_registerOf_10 (by decide) ?_
    refine lv_goto (tgt := 26) hx hb dX10_registerOf_11 (by decide) ?_
    exact hret H locs _ ls 0 () dX10_registerOf_26 (by exact congrArg (fun x => (x, ())) (((if_pos c1).trans (rfl))).symm) trivial hP hD hS
  · have hs := hs.2 c1
    refine lv_iload_n hx hb dX10_registerOf_4 rfl (lv_at hl 1 rfl) ?_
    refine lv_bipush (v := 32) hx hb dX10_registerOf_5 (by decide) ?_
    refine lv_icmp_lt (tgt := 14) hx hb dX10_registerOf_7 (by decide) (fun c2 => ?_) (fun c2 => ?_)
    · have hs := hs.1 c2
      refine lv_aload_n hx hb dX10_registerOf_14 rfl (lv_at hl 0 rfl) ?_
      refine va_get (D := G) (ci := 10) (v := .ref aEx) (C := RX10) (T := TX10) (N := 5) hx hb hts iwX10_registerOf_X10 hown hK hP 0 rfl rfl 0 (by decide) (hts _ lkX10_registerOf_32) (fun _ h9 => h9) rfl dX10_registerOf_15 ?_
      refine va_get (D := G) (ci := 2) (v := .ref aSt) (C := RX2) (T := TX2) (N := 4) hx hb hts iwX10_registerOf_X2 hown hK hP 1 rfl rfl 1 (by decide) (hts _ lkX10_registerOf_54) (fun _ h9 => h9) rfl dX10_registerOf_18 ?_
      refine va_get (D := G) (ci := 9) (v := .ref aRg) (C := RX9) (T := TX9) (N := 6) hx hb hts iwX10_registerOf_X9 hown hK hP 2 rfl rfl 0 (by decide) (hts _ lkX10_registerOf_58) (fun _ h9 => h9) rfl dX10_registerOf_21 ?_
      refine lv_iload_n hx hb dX10_registerOf_24 rfl (lv_at hl 1 rfl) ?_
      obtain ⟨o1, hs⟩ := hs
      refine va_iald hx hb hK hP 3 0 rfl rfl o1 dX10_registerOf_25 ?_
      exact hret H locs _ ls (rg p0.toNatClampNeg) () dX10_registerOf_26 (by exact congrArg (fun x => (x, ())) (((if_neg c1).trans ((if_pos c2).trans (rfl)))).symm) trivial hP hD hS
    · have hs := hs.2 c2
      refine lv_iconst (v := 0) hx hb dX10_registerOf_10 (by decide) ?_
      refine lv_goto (tgt := 26) hx hb dX10_registerOf_11 (by decide) ?_
      exact hret H locs _ ls 0 () dX10_registerOf_26 (by exact congrArg (fun x => (x, ())) (((if_neg c1).trans ((if_neg c2).trans (rfl)))).symm) trivial hP hD hS
def fX10_restart (rg : Nat → Int32) (wo : Nat → Int32) (iss : Nat → Int32) (rdy : Nat → Int32) : Int32 × Int32 × Int32 × Int32 × Int32 × Int32 × Int32 × Int32 × Int32 × Int64 × Int32 × Int32 × Int32 × Int32 × Int32 × Int32 × Int32 × Int32 × Int32 × Int32 × Int32 × Int32 × Int32 × Int32 × Int32 × Int32 × Int32 × Int32 × Int32 × Int32 × Int32 × Int32 × (Nat → Int32) × (Nat → Int32) × (Nat → Int32) × (Nat → Int32) :=
  (let z1 := fX9_reset rg wo; (let z2 := fX7_reset iss rdy; (let z3 := fX1_reset; (0, 0, z1.1, z1.2.1, z1.2.2.1, z1.2.2.2.1, z1.2.2.2.2.1, z1.2.2.2.2.2.1, z1.2.2.2.2.2.2.1, z1.2.2.2.2.2.2.2.1, z1.2.2.2.2.2.2.2.2.1, z1.2.2.2.2.2.2.2.2.2.1, z1.2.2.2.2.2.2.2.2.2.2.1, z1.2.2.2.2.2.2.2.2.2.2.2.1, z1.2.2.2.2.2.2.2.2.2.2.2.2.1, z1.2.2.2.2.2.2.2.2.2.2.2.2.2.1, z1.2.2.2.2.2.2.2.2.2.2.2.2.2.2.1, z2.1, z2.2.1, z2.2.2.1, z2.2.2.2.1, z2.2.2.2.2.1, z2.2.2.2.2.2.1, z2.2.2.2.2.2.2.1, z2.2.2.2.2.2.2.2.1, z2.2.2.2.2.2.2.2.2.1, z2.2.2.2.2.2.2.2.2.2.1, z3.1, z3.2.1, z3.2.2.1, z3.2.2.2.1, z3.2.2.2.2, z1.2.2.2.2.2.2.2.2.2.2.2.2.2.2.2.1, z1.2.2.2.2.2.2.2.2.2.2.2.2.2.2.2.2, z2.2.2.2.2.2.2.2.2.2.2.1, z2.2.2.2.2.2.2.2.2.2.2.2))))
theorem lkX10_restart_12 : Cond.fieldLink RX10 12 "TwinIssue" "pipeline" "LTwinIssue$Pipeline;" ∈ wsX10_restart := by decide +kernel
theorem lkX10_restart_19 : Cond.fieldLink RX10 19 "TwinIssue" "events" "LTwinIssue$EventRecord;" ∈ wsX10_restart := by decide +kernel
theorem lkX10_restart_32 : Cond.fieldLink RX10 32 "TwinIssue" "executor" "LTwinIssue$Executor;" ∈ wsX10_restart := by decide +kernel
theorem lkX10_restart_36 : Cond.fieldLink RX10 36 "TwinIssue" "cycles" "I" ∈ wsX10_restart := by decide +kernel
theorem lkX10_restart_54 : Cond.fieldLink RX10 54 "TwinIssue$Executor" "state" "LTwinIssue$State;" ∈ wsX10_restart := by decide +kernel
theorem lkX10_restart_85 : Cond.fieldLink RX10 85 "TwinIssue" "nextIsKnown" "Z" ∈ wsX10_restart := by decide +kernel
theorem iwX10_restart_X10 : ∀ w ∈ wsX100, w ∈ wsX10_restart := fun _ h => List.mem_cons_of_mem _ (List.mem_append_left _ (List.mem_append_left _ (List.mem_append_left _ (List.mem_append_left _ (List.mem_append_left _ (List.mem_append_left _ (List.mem_append_left _ (List.mem_append_right _ h))))))))
theorem iwX10_restart_X2 : ∀ w ∈ wsX20, w ∈ wsX10_restart := fun _ h => List.mem_cons_of_mem _ (List.mem_append_left _ (List.mem_append_left _ (List.mem_append_left _ (List.mem_append_left _ (List.mem_append_left _ (List.mem_append_left _ (List.mem_append_right _ h)))))))
def sX10_restart (rg : Nat → Int32) (wo : Nat → Int32) (iss : Nat → Int32) (rdy : Nat → Int32) : Prop :=
  (sX9_reset rg wo) ∧ ((∀ z1, z1 = fX9_reset rg wo → ((sX7_reset iss rdy) ∧ ((∀ z2, z2 = fX7_reset iss rdy → ((∀ z3, z3 = fX1_reset → True)))))))
set_option maxHeartbeats 4000000 in
set_option maxRecDepth 100000 in
theorem mX10_restart (l : Launch) (G : va_G) (cI cB cP : ClassId) (aT aEx aMe aSt aSp aMp aLi aIn aEf aPi aEv aRg aWo aCo aVa aIs aRd aFi : Nat) (tw_cycles : Int32) (tw_nextIsKnown : Int32) (st_pc : Int32) (st_inSlot : Int32) (st_branchAt : Int32) (st_target : Int32) (sp_sr : Int32) (sp_epc : Int32) (sp_esr : Int32) (sp_eea : Int32) (sp_held : Int32) (sp_sum : Int64) (sp_count : Int32) (sp_timer : Int32) (sp_mask : Int32) (sp_retired : Int32) (sp_latch : Int32) (mp_sets : Int32) (li_passed : Int32) (li_size : Int32) (pi_fetched : Int32) (pi_issued : Int32) (pi_ended : Int32) (pi_order : Int32) (pi_endedBefore : Int32) (pi_traits : Int32) (pi_pc : Int32) (pi_beganGroup : Int32) (pi_breaksGroup : Int32) (pi_redirectedFetch : Int32) (pi_branchForeseenToGo : Int32) (pi_branchRedirects : Int32) (ev_count : Int32) (ev_exceptions : Int32) (ev_doubleCycles : Int32) (ev_longestWay : Int32) (ev_lastCycle : Int32) (rg : Nat → Int32) (wo : Nat → Int32) (iss : Nat → Int32) (rdy : Nat → Int32) (sz : Nat) (hs : sX10_restart rg wo iss rdy) : kMv (S := Int32 × Int32 × Int32 × Int32 × Int32 × Int32 × Int32 × Int32 × Int32 × Int64 × Int32 × Int32 × Int32 × Int32 × Int32 × Int32 × Int32 × Int32 × Int32 × Int32 × Int32 × Int32 × Int32 × Int32 × Int32 × Int32 × Int32 × Int32 × Int32 × Int32 × Int32 × Int32 × (Nat → Int32) × (Nat → Int32) × (Nat → Int32) × (Nat → Int32)) l yX10_restart wsX10_restart ({ frames := 4, cells := 0, slots := 0, locals := 83 }) [.ref aT] G (kTY cI cB cP) sz [(aT, .inr (10, [.ref aEx, .ref aPi, .ref aEv, .int tw_cycles, .int tw_nextIsKnown])), (aEx, .inr (2, [.ref aMe, .ref aSt, .ref aIn, .ref aEf])), (aSt, .inr (9, [.ref aRg, .ref aSp, .int st_pc, .int st_inSlot, .int st_branchAt, .int st_target])), (aSp, .inr (8, [.ref aMp, .ref aLi, .int sp_sr, .int sp_epc, .int sp_esr, .int sp_eea, .int sp_held, .long sp_sum, .int sp_count, .int sp_timer, .int sp_mask, .int sp_retired, .int sp_latch])), (aMp, .inr (5, [.ref aWo, .int mp_sets])), (aLi, .inr (4, [.ref aCo, .ref aVa, .int li_passed, .int li_size])), (aPi, .inr (7, [.int pi_fetched, .int pi_issued, .int pi_ended, .ref aIs, .ref aRd, .int pi_order, .int pi_endedBefore, .int pi_traits, .int pi_pc, .int pi_beganGroup, .int pi_breaksGroup, .int pi_redirectedFetch, .int pi_branchForeseenToGo, .int pi_branchRedirects])), (aEv, .inr (1, [.ref aFi, .int ev_count, .int ev_exceptions, .int ev_doubleCycles, .int ev_longestWay, .int ev_lastCycle])), (aRg, .inl (cI, 32, .inl rg)), (aWo, .inl (cI, 512, .inl wo)), (aIs, .inl (cI, 8, .inl iss)), (aRd, .inl (cI, 36, .inl rdy))] (fX10_restart rg wo iss rdy) (fun _ => True) (fun u => [(aT, .inr (10, [.ref aEx, .ref aPi, .ref aEv, .int u.1, .int u.2.1])), (aEx, .inr (2, [.ref aMe, .ref aSt, .ref aIn, .ref aEf])), (aSt, .inr (9, [.ref aRg, .ref aSp, .int u.2.2.1, .int u.2.2.2.1, .int st_branchAt, .int st_target])), (aSp, .inr (8, [.ref aMp, .ref aLi, .int u.2.2.2.2.1, .int u.2.2.2.2.2.1, .int u.2.2.2.2.2.2.1, .int u.2.2.2.2.2.2.2.1, .int u.2.2.2.2.2.2.2.2.1, .long u.2.2.2.2.2.2.2.2.2.1, .int u.2.2.2.2.2.2.2.2.2.2.1, .int u.2.2.2.2.2.2.2.2.2.2.2.1, .int u.2.2.2.2.2.2.2.2.2.2.2.2.1, .int u.2.2.2.2.2.2.2.2.2.2.2.2.2.1, .int u.2.2.2.2.2.2.2.2.2.2.2.2.2.2.1])), (aMp, .inr (5, [.ref aWo, .int mp_sets])), (aLi, .inr (4, [.ref aCo, .ref aVa, .int u.2.2.2.2.2.2.2.2.2.2.2.2.2.2.2.1, .int u.2.2.2.2.2.2.2.2.2.2.2.2.2.2.2.2.1])), (aPi, .inr (7, [.int u.2.2.2.2.2.2.2.2.2.2.2.2.2.2.2.2.2.1, .int u.2.2.2.2.2.2.2.2.2.2.2.2.2.2.2.2.2.2.1, .int u.2.2.2.2.2.2.2.2.2.2.2.2.2.2.2.2.2.2.2.1, .ref aIs, .ref aRd, .int u.2.2.2.2.2.2.2.2.2.2.2.2.2.2.2.2.2.2.2.2.1, .int u.2.2.2.2.2.2.2.2.2.2.2.2.2.2.2.2.2.2.2.2.2.1, .int u.2.2.2.2.2.2.2.2.2.2.2.2.2.2.2.2.2.2.2.2.2.2.1, .int u.2.2.2.2.2.2.2.2.2.2.2.2.2.2.2.2.2.2.2.2.2.2.2.1, .int u.2.2.2.2.2.2.2.2.2.2.2.2.2.2.2.2.2.2.2.2.2.2.2.2.1, .int u.2.2.2.2.2.2.2.2.2.2.2.2.2.2.2.2.2.2.2.2.2.2.2.2.2.1, .int u.2.2.2.2.2.2.2.2.2.2.2.2.2.2.2.2.2.2.2.2.2.2.2.2.2.2.1, .int pi_branchForeseenToGo, .int pi_branchRedirects])), (aEv, .inr (1, [.ref aFi, .int u.2.2.2.2.2.2.2.2.2.2.2.2.2.2.2.2.2.2.2.2.2.2.2.2.2.2.2.1, .int u.2.2.2.2.2.2.2.2.2.2.2.2.2.2.2.2.2.2.2.2.2.2.2.2.2.2.2.2.1, .int u.2.2.2.2.2.2.2.2.2.2.2.2.2.2.2.2.2.2.2.2.2.2.2.2.2.2.2.2.2.1, .int u.2.2.2.2.2.2.2.2.2.2.2.2.2.2.2.2.2.2.2.2.2.2.2.2.2.2.2.2.2.2.1, .int u.2.2.2.2.2.2.2.2.2.2.2.2.2.2.2.2.2.2.2.2.2.2.2.2.2.2.2.2.2.2.2.1])), (aRg, .inl (cI, 32, .inl u.2.2.2.2.2.2.2.2.2.2.2.2.2.2.2.2.2.2.2.2.2.2.2.2.2.2.2.2.2.2.2.2.1)), (aWo, .inl (cI, 512, .inl u.2.2.2.2.2.2.2.2.2.2.2.2.2.2.2.2.2.2.2.2.2.2.2.2.2.2.2.2.2.2.2.2.2.1)), (aIs, .inl (cI, 8, .inl u.2.2.2.2.2.2.2.2.2.2.2.2.2.2.2.2.2.2.2.2.2.2.2.2.2.2.2.2.2.2.2.2.2.2.1)), (aRd, .inl (cI, 36, .inl u.2.2.2.2.2.2.2.2.2.2.2.2.2.2.2.2.2.2.2.2.2.2.2.2.2.2.2.2.2.2.2.2.2.2.2))]) := by
  refine k_ofv (cc := cX10_restart) (maxL := 1) (by decide) rfl (Nat.le_of_ble_eq_true rfl) ?_
  intro p e s m args below meth c A ls Q H locs hx hb hml hown hts hin hK hP hD hA hS hl hret
  have hown : s.vm.findClass RX10 = some m.cls := hown
  have hl : lv_has ls 1 [(0, .ref aT)] := hl
  unfold sX10_restart at hs
  refine lv_aload_n hx hb dX10_restart_0 rfl (lv_at hl 0 rfl) ?_
  refine va_get (D := G) (ci := 10) (v := .ref aEx) (C := RX10) (T := TX10) (N := 5) hx hb hts iwX10_restart_X10 hown hK hP 0 rfl rfl 0 (by decide) (hts _ lkX10_restart_32) (fun _ h9 => h9) rfl dX10_restart_1 ?_
  refine va_get (D := G) (ci := 2) (v := .ref aSt) (C := RX2) (T := TX2) (N := 4) hx hb hts iwX10_restart_X2 hown hK hP 1 rfl rfl 1 (by decide) (hts _ lkX10_restart_54) (fun _ h9 => h9) rfl dX10_restart_4 ?_
  obtain ⟨o1, hs⟩ := hs
  refine k_vV (As := []) (rest := []) (wc := [(aSt, .inr (9, [.ref aRg, .ref aSp, .int st_pc, .int st_inSlot, .int st_branchAt, .int st_target])), (aSp, .inr (8, [.ref aMp, .ref aLi, .int sp_sr, .int sp_epc, .int sp_esr, .int sp_eea, .int sp_held, .long sp_sum, .int sp_count, .int sp_timer, .int sp_mask, .int sp_retired, .int sp_latch])), (aMp, .inr (5, [.ref aWo, .int mp_sets])), (aLi, .inr (4, [.ref aCo, .ref aVa, .int li_passed, .int li_size])), (aRg, .inl (cI, 32, .inl rg)), (aWo, .inl (cI, 512, .inl wo))]) (wr := [(aT, .inr (10, [.ref aEx, .ref aPi, .ref aEv, .int tw_cycles, .int tw_nextIsKnown])), (aEx, .inr (2, [.ref aMe, .ref aSt, .ref aIn, .ref aEf])), (aPi, .inr (7, [.int pi_fetched, .int pi_issued, .int pi_ended, .ref aIs, .ref aRd, .int pi_order, .int pi_endedBefore, .int pi_traits, .int pi_pc, .int pi_beganGroup, .int pi_breaksGroup, .int pi_redirectedFetch, .int pi_branchForeseenToGo, .int pi_branchRedirects])), (aEv, .inr (1, [.ref aFi, .int ev_count, .int ev_exceptions, .int ev_doubleCycles, .int ev_longestWay, .int ev_lastCycle])), (aIs, .inl (cI, 8, .inl iss)), (aRd, .inl (cI, 36, .inl rdy))]) ⟨hx, hb, hml, hown, hts⟩ hK hP hD hS hA [2, 3, 4, 5, 8, 9] [0, 1, 6, 7, 10, 11] rfl rfl rfl rfl (by decide) (mX9_reset l G cI cB cP aSt aSp aMp aLi aRg aWo aCo aVa st_pc st_inSlot st_branchAt st_target sp_sr sp_epc sp_esr sp_eea sp_held sp_sum sp_count sp_timer sp_mask sp_retired sp_latch mp_sets li_passed li_size rg wo H.size  o1) (cwV 0 hts gX10_restart_X9_reset rfl rfl rfl (by decide +kernel) ⟨Nat.le_of_ble_eq_true rfl, Nat.le_of_ble_eq_true rfl⟩) 2 9 rfl rfl rfl rfl hl.1 rfl (Nat.le_of_ble_eq_true rfl) dX10_restart_7 ⟨Nat.le_of_ble_eq_true rfl, Nat.le_of_ble_eq_true rfl⟩ (fun z1 H locs hz1 hEz1 hP hD hS => ?_)
  have hs := hs z1 hz1
  have hP : va_P G vwCl [(aT, .inr (10, [.ref aEx, .ref aPi, .ref aEv, .int tw_cycles, .int tw_nextIsKnown])), (aEx, .inr (2, [.ref aMe, .ref aSt, .ref aIn, .ref aEf])), (aPi, .inr (7, [.int pi_fetched, .int pi_issued, .int pi_ended, .ref aIs, .ref aRd, .int pi_order, .int pi_endedBefore, .int pi_traits, .int pi_pc, .int pi_beganGroup, .int pi_breaksGroup, .int pi_redirectedFetch, .int pi_branchForeseenToGo, .int pi_branchRedirects])), (aEv, .inr (1, [.ref aFi, .int ev_count, .int ev_exceptions, .int ev_doubleCycles, .int ev_longestWay, .int ev_lastCycle])), (aIs, .inl (cI, 8, .inl iss)), (aRd, .inl (cI, 36, .inl rdy)), (aSt, .inr (9, [.ref aRg, .ref aSp, .int z1.1, .int z1.2.1, .int st_branchAt, .int st_target])), (aSp, .inr (8, [.ref aMp, .ref aLi, .int z1.2.2.1, .int z1.2.2.2.1, .int z1.2.2.2.2.1, .int z1.2.2.2.2.2.1, .int z1.2.2.2.2.2.2.1, .long z1.2.2.2.2.2.2.2.1, .int z1.2.2.2.2.2.2.2.2.1, .int z1.2.2.2.2.2.2.2.2.2.1, .int z1.2.2.2.2.2.2.2.2.2.2.1, .int z1.2.2.2.2.2.2.2.2.2.2.2.1, .int z1.2.2.2.2.2.2.2.2.2.2.2.2.1])), (aMp, .inr (5, [.ref aWo, .int mp_sets])), (aLi, .inr (4, [.ref aCo, .ref aVa, .int z1.2.2.2.2.2.2.2.2.2.2.2.2.2.1, .int z1.2.2.2.2.2.2.2.2.2.2.2.2.2.2.1])), (aRg, .inl (cI, 32, .inl z1.2.2.2.2.2.2.2.2.2.2.2.2.2.2.2.1)), (aWo, .inl (cI, 512, .inl z1.2.2.2.2.2.2.2.2.2.2.2.2.2.2.2.2))] H := hP
  have hD : va_D A [(aT, .inr (10, [.ref aEx, .ref aPi, .ref aEv, .int tw_cycles, .int tw_nextIsKnown])), (aEx, .inr (2, [.ref aMe, .ref aSt, .ref aIn, .ref aEf])), (aPi, .inr (7, [.int pi_fetched, .int pi_issued, .int pi_ended, .ref aIs, .ref aRd, .int pi_order, .int pi_endedBefore, .int pi_traits, .int pi_pc, .int pi_beganGroup, .int pi_breaksGroup, .int pi_redirectedFetch, .int pi_branchForeseenToGo, .int pi_branchRedirects])), (aEv, .inr (1, [.ref aFi, .int ev_count, .int ev_exceptions, .int ev_doubleCycles, .int ev_longestWay, .int ev_lastCycle])), (aIs, .inl (cI, 8, .inl iss)), (aRd, .inl (cI, 36, .inl rdy)), (aSt, .inr (9, [.ref aRg, .ref aSp, .int z1.1, .int z1.2.1, .int st_branchAt, .int st_target])), (aSp, .inr (8, [.ref aMp, .ref aLi, .int z1.2.2.1, .int z1.2.2.2.1, .int z1.2.2.2.2.1, .int z1.2.2.2.2.2.1, .int z1.2.2.2.2.2.2.1, .long z1.2.2.2.2.2.2.2.1, .int z1.2.2.2.2.2.2.2.2.1, .int z1.2.2.2.2.2.2.2.2.2.1, .int z1.2.2.2.2.2.2.2.2.2.2.1, .int z1.2.2.2.2.2.2.2.2.2.2.2.1, .int z1.2.2.2.2.2.2.2.2.2.2.2.2.1])), (aMp, .inr (5, [.ref aWo, .int mp_sets])), (aLi, .inr (4, [.ref aCo, .ref aVa, .int z1.2.2.2.2.2.2.2.2.2.2.2.2.2.1, .int z1.2.2.2.2.2.2.2.2.2.2.2.2.2.2.1])), (aRg, .inl (cI, 32, .inl z1.2.2.2.2.2.2.2.2.2.2.2.2.2.2.2.1)), (aWo, .inl (cI, 512, .inl z1.2.2.2.2.2.2.2.2.2.2.2.2.2.2.2.2))] := hD
  refine lv_aload_n hx hb dX10_restart_10 rfl (lv_at hl 0 rfl) ?_
  refine va_get (D := G) (ci := 10) (v := .ref aPi) (C := RX10) (T := TX10) (N := 5) hx hb hts iwX10_restart_X10 hown hK hP 0 rfl rfl 1 (by decide) (hts _ lkX10_restart_12) (fun _ h9 => h9) rfl dX10_restart_11 ?_
  obtain ⟨o2, hs⟩ := hs
  refine k_vV (As := []) (rest := []) (wc := [(aPi, .inr (7, [.int pi_fetched, .int pi_issued, .int pi_ended, .ref aIs, .ref aRd, .int pi_order, .int pi_endedBefore, .int pi_traits, .int pi_pc, .int pi_beganGroup, .int pi_breaksGroup, .int pi_redirectedFetch, .int pi_branchForeseenToGo, .int pi_branchRedirects])), (aIs, .inl (cI, 8, .inl iss)), (aRd, .inl (cI, 36, .inl rdy))]) (wr := [(aT, .inr (10, [.ref aEx, .ref aPi, .ref aEv, .int tw_cycles, .int tw_nextIsKnown])), (aEx, .inr (2, [.ref aMe, .ref aSt, .ref aIn, .ref aEf])), (aEv, .inr (1, [.ref aFi, .int ev_count, .int ev_exceptions, .int ev_doubleCycles, .int ev_longestWay, .int ev_lastCycle])), (aSt, .inr (9, [.ref aRg, .ref aSp, .int z1.1, .int z1.2.1, .int st_branchAt, .int st_target])), (aSp, .inr (8, [.ref aMp, .ref aLi, .int z1.2.2.1, .int z1.2.2.2.1, .int z1.2.2.2.2.1, .int z1.2.2.2.2.2.1, .int z1.2.2.2.2.2.2.1, .long z1.2.2.2.2.2.2.2.1, .int z1.2.2.2.2.2.2.2.2.1, .int z1.2.2.2.2.2.2.2.2.2.1, .int z1.2.2.2.2.2.2.2.2.2.2.1, .int z1.2.2.2.2.2.2.2.2.2.2.2.1, .int z1.2.2.2.2.2.2.2.2.2.2.2.2.1])), (aMp, .inr (5, [.ref aWo, .int mp_sets])), (aLi, .inr (4, [.ref aCo, .ref aVa, .int z1.2.2.2.2.2.2.2.2.2.2.2.2.2.1, .int z1.2.2.2.2.2.2.2.2.2.2.2.2.2.2.1])), (aRg, .inl (cI, 32, .inl z1.2.2.2.2.2.2.2.2.2.2.2.2.2.2.2.1)), (aWo, .inl (cI, 512, .inl z1.2.2.2.2.2.2.2.2.2.2.2.2.2.2.2.2))]) ⟨hx, hb, hml, hown, hts⟩ hK hP hD hS hA [2, 4, 5] [0, 1, 3, 6, 7, 8, 9, 10, 11] rfl rfl rfl rfl (by decide) (mX7_reset l G cI cB cP aPi aIs aRd pi_fetched pi_issued pi_ended pi_order pi_endedBefore pi_traits pi_pc pi_beganGroup pi_breaksGroup pi_redirectedFetch pi_branchForeseenToGo pi_branchRedirects iss rdy H.size  o2) (cwV 0 hts gX10_restart_X7_reset rfl rfl rfl (by decide +kernel) ⟨Nat.le_of_ble_eq_true rfl, Nat.le_of_ble_eq_true rfl⟩) 2 7 rfl rfl rfl rfl hl.1 rfl (Nat.le_of_ble_eq_true rfl) dX10_restart_14 ⟨Nat.le_of_ble_eq_true rfl, Nat.le_of_ble_eq_true rfl⟩ (fun z2 H locs hz2 hEz2 hP hD hS => ?_)
  have hs := hs z2 hz2
  have hP : va_P G vwCl [(aT, .inr (10, [.ref aEx, .ref aPi, .ref aEv, .int tw_cycles, .int tw_nextIsKnown])), (aEx, .inr (2, [.ref aMe, .ref aSt, .ref aIn, .ref aEf])), (aEv, .inr (1, [.ref aFi, .int ev_count, .int ev_exceptions, .int ev_doubleCycles, .int ev_longestWay, .int ev_lastCycle])), (aSt, .inr (9, [.ref aRg, .ref aSp, .int z1.1, .int z1.2.1, .int st_branchAt, .int st_target])), (aSp, .inr (8, [.ref aMp, .ref aLi, .int z1.2.2.1, .int z1.2.2.2.1, .int z1.2.2.2.2.1, .int z1.2.2.2.2.2.1, .int z1.2.2.2.2.2.2.1, .long z1.2.2.2.2.2.2.2.1, .int z1.2.2.2.2.2.2.2.2.1, .int z1.2.2.2.2.2.2.2.2.2.1, .int z1.2.2.2.2.2.2.2.2.2.2.1, .int z1.2.2.2.2.2.2.2.2.2.2.2.1, .int z1.2.2.2.2.2.2.2.2.2.2.2.2.1])), (aMp, .inr (5, [.ref aWo, .int mp_sets])), (aLi, .inr (4, [.ref aCo, .ref aVa, .int z1.2.2.2.2.2.2.2.2.2.2.2.2.2.1, .int z1.2.2.2.2.2.2.2.2.2.2.2.2.2.2.1])), (aRg, .inl (cI, 32, .inl z1.2.2.2.2.2.2.2.2.2.2.2.2.2.2.2.1)), (aWo, .inl (cI, 512, .inl z1.2.2.2.2.2.2.2.2.2.2.2.2.2.2.2.2)), (aPi, .inr (7, [.int z2.1, .int z2.2.1, .int z2.2.2.1, .ref aIs, .ref aRd, .int z2.2.2.2.1, .int z2.2.2.2.2.1, .int z2.2.2.2.2.2.1, .int z2.2.2.2.2.2.2.1, .int z2.2.2.2.2.2.2.2.1, .int z2.2.2.2.2.2.2.2.2.1, .int z2.2.2.2.2.2.2.2.2.2.1, .int pi_branchForeseenToGo, .int pi_branchRedirects])), (aIs, .inl (cI, 8, .inl z2.2.2.2.2.2.2.2.2.2.2.1)), (aRd, .inl (cI, 36, .inl z2.2.2.2.2.2.2.2.2.2.2.2))] H := hP
  have hD : va_D A [(aT, .inr (10, [.ref aEx, .ref aPi, .ref aEv, .int tw_cycles, .int tw_nextIsKnown])), (aEx, .inr (2, [.ref aMe, .ref aSt, .ref aIn, .ref aEf])), (aEv, .inr (1, [.ref aFi, .int ev_count, .int ev_exceptions, .int ev_doubleCycles, .int ev_longestWay, .int ev_lastCycle])), (aSt, .inr (9, [.ref aRg, .ref aSp, .int z1.1, .int z1.2.1, .int st_branchAt, .int st_target])), (aSp, .inr (8, [.ref aMp, .ref aLi, .int z1.2.2.1, .int z1.2.2.2.1, .int z1.2.2.2.2.1, .int z1.2.2.2.2.2.1, .int z1.2.2.2.2.2.2.1, .long z1.2.2.2.2.2.2.2.1, .int z1.2.2.2.2.2.2.2.2.1, .int z1.2.2.2.2.2.2.2.2.2.1, .int z1.2.2.2.2.2.2.2.2.2.2.1, .int z1.2.2.2.2.2.2.2.2.2.2.2.1, .int z1.2.2.2.2.2.2.2.2.2.2.2.2.1])), (aMp, .inr (5, [.ref aWo, .int mp_sets])), (aLi, .inr (4, [.ref aCo, .ref aVa, .int z1.2.2.2.2.2.2.2.2.2.2.2.2.2.1, .int z1.2.2.2.2.2.2.2.2.2.2.2.2.2.2.1])), (aRg, .inl (cI, 32, .inl z1.2.2.2.2.2.2.2.2.2.2.2.2.2.2.2.1)), (aWo, .inl (cI, 512, .inl z1.2.2.2.2.2.2.2.2.2.2.2.2.2.2.2.2)), (aPi, .inr (7, [.int z2.1, .int z2.2.1, .int z2.2.2.1, .ref aIs, .ref aRd, .int z2.2.2.2.1, .int z2.2.2.2.2.1, .int z2.2.2.2.2.2.1, .int z2.2.2.2.2.2.2.1, .int z2.2.2.2.2.2.2.2.1, .int z2.2.2.2.2.2.2.2.2.1, .int z2.2.2.2.2.2.2.2.2.2.1, .int pi_branchForeseenToGo, .int pi_branchRedirects])), (aIs, .inl (cI, 8, .inl z2.2.2.2.2.2.2.2.2.2.2.1)), (aRd, .inl (cI, 36, .inl z2.2.2.2.2.2.2.2.2.2.2.2))] := hD
  refine lv_aload_n hx hb dX10_restart_17 rfl (lv_at hl 0 rfl) ?_
  refine va_get (D := G) (ci := 10) (v := .ref aEv) (C := RX10) (T := TX10) (N := 5) hx hb hts iwX10_restart_X10 hown hK hP 0 rfl rfl 2 (by decide) (hts _ lkX10_restart_19) (fun _ h9 => h9) rfl dX10_restart_18 ?_
  refine k_vV (As := []) (rest := []) (wc := [(aEv, .inr (1, [.ref aFi, .int ev_count, .int ev_exceptions, .int ev_doubleCycles, .int ev_longestWay, .int ev_lastCycle]))]) (wr := [(aT, .inr (10, [.ref aEx, .ref aPi, .ref aEv, .int tw_cycles, .int tw_nextIsKnown])), (aEx, .inr (2, [.ref aMe, .ref aSt, .ref aIn, .ref aEf])), (aSt, .inr (9, [.ref aRg, .ref aSp, .int z1.1, .int z1.2.1, .int st_branchAt, .int st_target])), (aSp, .inr (8, [.ref aMp, .ref aLi, .int z1.2.2.1, .int z1.2.2.2.1, .int z1.2.2.2.2.1, .int z1.2.2.2.2.2.1, .int z1.2.2.2.2.2.2.1, .long z1.2.2.2.2.2.2.2.1, .int z1.2.2.2.2.2.2.2.2.1, .int z1.2.2.2.2.2.2.2.2.2.1, .int z1.2.2.2.2.2.2.2.2.2.2.1, .int z1.2.2.2.2.2.2.2.2.2.2.2.1, .int z1.2.2.2.2.2.2.2.2.2.2.2.2.1])), (aMp, .inr (5, [.ref aWo, .int mp_sets])), (aLi, .inr (4, [.ref aCo, .ref aVa, .int z1.2.2.2.2.2.2.2.2.2.2.2.2.2.1, .int z1.2.2.2.2.2.2.2.2.2.2.2.2.2.2.1])), (aRg, .inl (cI, 32, .inl z1.2.2.2.2.2.2.2.2.2.2.2.2.2.2.2.1)), (aWo, .inl (cI, 512, .inl z1.2.2.2.2.2.2.2.2.2.2.2.2.2.2.2.2)), (aPi, .inr (7, [.int z2.1, .int z2.2.1, .int z2.2.2.1, .ref aIs, .ref aRd, .int z2.2.2.2.1, .int z2.2.2.2.2.1, .int z2.2.2.2.2.2.1, .int z2.2.2.2.2.2.2.1, .int z2.2.2.2.2.2.2.2.1, .int z2.2.2.2.2.2.2.2.2.1, .int z2.2.2.2.2.2.2.2.2.2.1, .int pi_branchForeseenToGo, .int pi_branchRedirects])), (aIs, .inl (cI, 8, .inl z2.2.2.2.2.2.2.2.2.2.2.1)), (aRd, .inl (cI, 36, .inl z2.2.2.2.2.2.2.2.2.2.2.2))]) ⟨hx, hb, hml, hown, hts⟩ hK hP hD hS hA [2] [0, 1, 3, 4, 5, 6, 7, 8, 9, 10, 11] rfl rfl rfl rfl (by decide) (mX1_reset l G cI cB cP aEv aFi ev_count ev_exceptions ev_doubleCycles ev_longestWay ev_lastCycle H.size  ) (cwV 0 hts gX10_restart_X1_reset rfl rfl rfl (by decide +kernel) ⟨Nat.le_of_ble_eq_true rfl, Nat.le_of_ble_eq_true rfl⟩) 2 1 rfl rfl rfl rfl hl.1 rfl (Nat.le_of_ble_eq_true rfl) dX10_restart_21 ⟨Nat.le_of_ble_eq_true rfl, Nat.le_of_ble_eq_true rfl⟩ (fun z3 H locs hz3 hEz3 hP hD hS => ?_)
  have hs := hs z3 hz3
  have hP : va_P G vwCl [(aT, .inr (10, [.ref aEx, .ref aPi, .ref aEv, .int tw_cycles, .int tw_nextIsKnown])), (aEx, .inr (2, [.ref aMe, .ref aSt, .ref aIn, .ref aEf])), (aSt, .inr (9, [.ref aRg, .ref aSp, .int z1.1, .int z1.2.1, .int st_branchAt, .int st_target])), (aSp, .inr (8, [.ref aMp, .ref aLi, .int z1.2.2.1, .int z1.2.2.2.1, .int z1.2.2.2.2.1, .int z1.2.2.2.2.2.1, .int z1.2.2.2.2.2.2.1, .long z1.2.2.2.2.2.2.2.1, .int z1.2.2.2.2.2.2.2.2.1, .int z1.2.2.2.2.2.2.2.2.2.1, .int z1.2.2.2.2.2.2.2.2.2.2.1, .int z1.2.2.2.2.2.2.2.2.2.2.2.1, .int z1.2.2.2.2.2.2.2.2.2.2.2.2.1])), (aMp, .inr (5, [.ref aWo, .int mp_sets])), (aLi, .inr (4, [.ref aCo, .ref aVa, .int z1.2.2.2.2.2.2.2.2.2.2.2.2.2.1, .int z1.2.2.2.2.2.2.2.2.2.2.2.2.2.2.1])), (aRg, .inl (cI, 32, .inl z1.2.2.2.2.2.2.2.2.2.2.2.2.2.2.2.1)), (aWo, .inl (cI, 512, .inl z1.2.2.2.2.2.2.2.2.2.2.2.2.2.2.2.2)), (aPi, .inr (7, [.int z2.1, .int z2.2.1, .int z2.2.2.1, .ref aIs, .ref aRd, .int z2.2.2.2.1, .int z2.2.2.2.2.1, .int z2.2.2.2.2.2.1, .int z2.2.2.2.2.2.2.1, .int z2.2.2.2.2.2.2.2.1, .int z2.2.2.2.2.2.2.2.2.1, .int z2.2.2.2.2.2.2.2.2.2.1, .int pi_branchForeseenToGo, .int pi_branchRedirects])), (aIs, .inl (cI, 8, .inl z2.2.2.2.2.2.2.2.2.2.2.1)), (aRd, .inl (cI, 36, .inl z2.2.2.2.2.2.2.2.2.2.2.2)), (aEv, .inr (1, [.ref aFi, .int z3.1, .int z3.2.1, .int z3.2.2.1, .int z3.2.2.2.1, .int z3.2.2.2.2]))] H := hP
  have hD : va_D A [(aT, .inr (10, [.ref aEx, .ref aPi, .ref aEv, .int tw_cycles, .int tw_nextIsKnown])), (aEx, .inr (2, [.ref aMe, .ref aSt, .ref aIn, .ref aEf])), (aSt, .inr (9, [.ref aRg, .ref aSp, .int z1.1, .int z1.2.1, .int st_branchAt, .int st_target])), (aSp, .inr (8, [.ref aMp, .ref aLi, .int z1.2.2.1, .int z1.2.2.2.1, .int z1.2.2.2.2.1, .int z1.2.2.2.2.2.1, .int z1.2.2.2.2.2.2.1, .long z1.2.2.2.2.2.2.2.1, .int z1.2.2.2.2.2.2.2.2.1, .int z1.2.2.2.2.2.2.2.2.2.1, .int z1.2.2.2.2.2.2.2.2.2.2.1, .int z1.2.2.2.2.2.2.2.2.2.2.2.1, .int z1.2.2.2.2.2.2.2.2.2.2.2.2.1])), (aMp, .inr (5, [.ref aWo, .int mp_sets])), (aLi, .inr (4, [.ref aCo, .ref aVa, .int z1.2.2.2.2.2.2.2.2.2.2.2.2.2.1, .int z1.2.2.2.2.2.2.2.2.2.2.2.2.2.2.1])), (aRg, .inl (cI, 32, .inl z1.2.2.2.2.2.2.2.2.2.2.2.2.2.2.2.1)), (aWo, .inl (cI, 512, .inl z1.2.2.2.2.2.2.2.2.2.2.2.2.2.2.2.2)), (aPi, .inr (7, [.int z2.1, .int z2.2.1, .int z2.2.2.1, .ref aIs, .ref aRd, .int z2.2.2.2.1, .int z2.2.2.2.2.1, .int z2.2.2.2.2.2.1, .int z2.2.2.2.2.2.2.1, .int z2.2.2.2.2.2.2.2.1, .int z2.2.2.2.2.2.2.2.2.1, .int z2.2.2.2.2.2.2.2.2.2.1, .int pi_branchForeseenToGo, .int pi_branchRedirects])), (aIs, .inl (cI, 8, .inl z2.2.2.2.2.2.2.2.2.2.2.1)), (aRd, .inl (cI, 36, .inl z2.2.2.2.2.2.2.2.2.2.2.2)), (aEv, .inr (1, [.ref aFi, .int z3.1, .int z3.2.1, .int z3.2.2.1, .int z3.2.2.2.1, .int z3.2.2.2.2]))] := hD
  refine lv_aload_n hx hb dX10_restart_24 rfl (lv_at hl 0 rfl) ?_
  refine lv_iconst (v := 0) hx hb dX10_restart_25 (by decide) ?_
  refine va_put (D := G) (ci := 10) (v := .int 0) (ty := .int) (C := RX10) (T := TX10) (N := 5) hx hb hts iwX10_restart_X10 tyX10 tyX10_ok nmX10 hown hK hP hD hS 0 rfl rfl 3 (by decide) (hts _ lkX10_restart_36) (fun _ h9 => h9) rfl (by decide +kernel) rfl rfl (Nat.le_of_ble_eq_true rfl) dX10_restart_26 (fun H locs hP hD hS => ?_)
  have hP : va_P G vwCl [(aT, .inr (10, [.ref aEx, .ref aPi, .ref aEv, .int 0, .int tw_nextIsKnown])), (aEx, .inr (2, [.ref aMe, .ref aSt, .ref aIn, .ref aEf])), (aSt, .inr (9, [.ref aRg, .ref aSp, .int z1.1, .int z1.2.1, .int st_branchAt, .int st_target])), (aSp, .inr (8, [.ref aMp, .ref aLi, .int z1.2.2.1, .int z1.2.2.2.1, .int z1.2.2.2.2.1, .int z1.2.2.2.2.2.1, .int z1.2.2.2.2.2.2.1, .long z1.2.2.2.2.2.2.2.1, .int z1.2.2.2.2.2.2.2.2.1, .int z1.2.2.2.2.2.2.2.2.2.1, .int z1.2.2.2.2.2.2.2.2.2.2.1, .int z1.2.2.2.2.2.2.2.2.2.2.2.1, .int z1.2.2.2.2.2.2.2.2.2.2.2.2.1])), (aMp, .inr (5, [.ref aWo, .int mp_sets])), (aLi, .inr (4, [.ref aCo, .ref aVa, .int z1.2.2.2.2.2.2.2.2.2.2.2.2.2.1, .int z1.2.2.2.2.2.2.2.2.2.2.2.2.2.2.1])), (aRg, .inl (cI, 32, .inl z1.2.2.2.2.2.2.2.2.2.2.2.2.2.2.2.1)), (aWo, .inl (cI, 512, .inl z1.2.2.2.2.2.2.2.2.2.2.2.2.2.2.2.2)), (aPi, .inr (7, [.int z2.1, .int z2.2.1, .int z2.2.2.1, .ref aIs, .ref aRd, .int z2.2.2.2.1, .int z2.2.2.2.2.1, .int z2.2.2.2.2.2.1, .int z2.2.2.2.2.2.2.1, .int z2.2.2.2.2.2.2.2.1, .int z2.2.2.2.2.2.2.2.2.1, .int z2.2.2.2.2.2.2.2.2.2.1, .int pi_branchForeseenToGo, .int pi_branchRedirects])), (aIs, .inl (cI, 8, .inl z2.2.2.2.2.2.2.2.2.2.2.1)), (aRd, .inl (cI, 36, .inl z2.2.2.2.2.2.2.2.2.2.2.2)), (aEv, .inr (1, [.ref aFi, .int z3.1, .int z3.2.1, .int z3.2.2.1, .int z3.2.2.2.1, .int z3.2.2.2.2]))] H := hP
  have hD : va_D A [(aT, .inr (10, [.ref aEx, .ref aPi, .ref aEv, .int 0, .int tw_nextIsKnown])), (aEx, .inr (2, [.ref aMe, .ref aSt, .ref aIn, .ref aEf])), (aSt, .inr (9, [.ref aRg, .ref aSp, .int z1.1, .int z1.2.1, .int st_branchAt, .int st_target])), (aSp, .inr (8, [.ref aMp, .ref aLi, .int z1.2.2.1, .int z1.2.2.2.1, .int z1.2.2.2.2.1, .int z1.2.2.2.2.2.1, .int z1.2.2.2.2.2.2.1, .long z1.2.2.2.2.2.2.2.1, .int z1.2.2.2.2.2.2.2.2.1, .int z1.2.2.2.2.2.2.2.2.2.1, .int z1.2.2.2.2.2.2.2.2.2.2.1, .int z1.2.2.2.2.2.2.2.2.2.2.2.1, .int z1.2.2.2.2.2.2.2.2.2.2.2.2.1])), (aMp, .inr (5, [.ref aWo, .int mp_sets])), (aLi, .inr (4, [.ref aCo, .ref aVa, .int z1.2.2.2.2.2.2.2.2.2.2.2.2.2.1, .int z1.2.2.2.2.2.2.2.2.2.2.2.2.2.2.1])), (aRg, .inl (cI, 32, .inl z1.2.2.2.2.2.2.2.2.2.2.2.2.2.2.2.1)), (aWo, .inl (cI, 512, .inl z1.2.2.2.2.2.2.2.2.2.2.2.2.2.2.2.2)), (aPi, .inr (7, [.int z2.1, .int z2.2.1, .int z2.2.2.1, .ref aIs, .ref aRd, .int z2.2.2.2.1, .int z2.2.2.2.2.1, .int z2.2.2.2.2.2.1, .int z2.2.2.2.2.2.2.1, .int z2.2.2.2.2.2.2.2.1, .int z2.2.2.2.2.2.2.2.2.1, .int z2.2.2.2.2.2.2.2.2.2.1, .int pi_branchForeseenToGo, .int pi_branchRedirects])), (aIs, .inl (cI, 8, .inl z2.2.2.2.2.2.2.2.2.2.2.1)), (aRd, .inl (cI, 36, .inl z2.2.2.2.2.2.2.2.2.2.2.2)), (aEv, .inr (1, [.ref aFi, .int z3.1, .int z3.2.1, .int z3.2.2.1, .int z3.2.2.2.1, .int z3.2.2.2.2]))] := hD
  refine lv_aload_n hx hb dX10_restart_29 rfl (lv_at hl 0 rfl) ?_
  refine lv_iconst (v := 0) hx hb dX10_restart_30 (by decide) ?_
  refine va_put (D := G) (ci := 10) (v := .int 0) (ty := .boolean) (C := RX10) (T := TX10) (N := 5) hx hb hts iwX10_restart_X10 tyX10 tyX10_ok nmX10 hown hK hP hD hS 0 rfl rfl 4 (by decide) (hts _ lkX10_restart_85) (fun _ h9 => h9) rfl (by decide +kernel) (nar_b (Or.inl rfl)) (fit_b (Or.inl rfl)) (Nat.le_of_ble_eq_true rfl) dX10_restart_31 (fun H locs hP hD hS => ?_)
  have hP : va_P G vwCl [(aT, .inr (10, [.ref aEx, .ref aPi, .ref aEv, .int 0, .int 0])), (aEx, .inr (2, [.ref aMe, .ref aSt, .ref aIn, .ref aEf])), (aSt, .inr (9, [.ref aRg, .ref aSp, .int z1.1, .int z1.2.1, .int st_branchAt, .int st_target])), (aSp, .inr (8, [.ref aMp, .ref aLi, .int z1.2.2.1, .int z1.2.2.2.1, .int z1.2.2.2.2.1, .int z1.2.2.2.2.2.1, .int z1.2.2.2.2.2.2.1, .long z1.2.2.2.2.2.2.2.1, .int z1.2.2.2.2.2.2.2.2.1, .int z1.2.2.2.2.2.2.2.2.2.1, .int z1.2.2.2.2.2.2.2.2.2.2.1, .int z1.2.2.2.2.2.2.2.2.2.2.2.1, .int z1.2.2.2.2.2.2.2.2.2.2.2.2.1])), (aMp, .inr (5, [.ref aWo, .int mp_sets])), (aLi, .inr (4, [.ref aCo, .ref aVa, .int z1.2.2.2.2.2.2.2.2.2.2.2.2.2.1, .int z1.2.2.2.2.2.2.2.2.2.2.2.2.2.2.1])), (aRg, .inl (cI, 32, .inl z1.2.2.2.2.2.2.2.2.2.2.2.2.2.2.2.1)), (aWo, .inl (cI, 512, .inl z1.2.2.2.2.2.2.2.2.2.2.2.2.2.2.2.2)), (aPi, .inr (7, [.int z2.1, .int z2.2.1, .int z2.2.2.1, .ref aIs, .ref aRd, .int z2.2.2.2.1, .int z2.2.2.2.2.1, .int z2.2.2.2.2.2.1, .int z2.2.2.2.2.2.2.1, .int z2.2.2.2.2.2.2.2.1, .int z2.2.2.2.2.2.2.2.2.1, .int z2.2.2.2.2.2.2.2.2.2.1, .int pi_branchForeseenToGo, .int pi_branchRedirects])), (aIs, .inl (cI, 8, .inl z2.2.2.2.2.2.2.2.2.2.2.1)), (aRd, .inl (cI, 36, .inl z2.2.2.2.2.2.2.2.2.2.2.2)), (aEv, .inr (1, [.ref aFi, .int z3.1, .int z3.2.1, .int z3.2.2.1, .int z3.2.2.2.1, .int z3.2.2.2.2]))] H := hP
  have hD : va_D A [(aT, .inr (10, [.ref aEx, .ref aPi, .ref aEv, .int 0, .int 0])), (aEx, .inr (2, [.ref aMe, .ref aSt, .ref aIn, .ref aEf])), (aSt, .inr (9, [.ref aRg, .ref aSp, .int z1.1, .int z1.2.1, .int st_branchAt, .int st_target])), (aSp, .inr (8, [.ref aMp, .ref aLi, .int z1.2.2.1, .int z1.2.2.2.1, .int z1.2.2.2.2.1, .int z1.2.2.2.2.2.1, .int z1.2.2.2.2.2.2.1, .long z1.2.2.2.2.2.2.2.1, .int z1.2.2.2.2.2.2.2.2.1, .int z1.2.2.2.2.2.2.2.2.2.1, .int z1.2.2.2.2.2.2.2.2.2.2.1, .int z1.2.2.2.2.2.2.2.2.2.2.2.1, .int z1.2.2.2.2.2.2.2.2.2.2.2.2.1])), (aMp, .inr (5, [.ref aWo, .int mp_sets])), (aLi, .inr (4, [.ref aCo, .ref aVa, .int z1.2.2.2.2.2.2.2.2.2.2.2.2.2.1, .int z1.2.2.2.2.2.2.2.2.2.2.2.2.2.2.1])), (aRg, .inl (cI, 32, .inl z1.2.2.2.2.2.2.2.2.2.2.2.2.2.2.2.1)), (aWo, .inl (cI, 512, .inl z1.2.2.2.2.2.2.2.2.2.2.2.2.2.2.2.2)), (aPi, .inr (7, [.int z2.1, .int z2.2.1, .int z2.2.2.1, .ref aIs, .ref aRd, .int z2.2.2.2.1, .int z2.2.2.2.2.1, .int z2.2.2.2.2.2.1, .int z2.2.2.2.2.2.2.1, .int z2.2.2.2.2.2.2.2.1, .int z2.2.2.2.2.2.2.2.2.1, .int z2.2.2.2.2.2.2.2.2.2.1, .int pi_branchForeseenToGo, .int pi_branchRedirects])), (aIs, .inl (cI, 8, .inl z2.2.2.2.2.2.2.2.2.2.2.1)), (aRd, .inl (cI, 36, .inl z2.2.2.2.2.2.2.2.2.2.2.2)), (aEv, .inr (1, [.ref aFi, .int z3.1, .int z3.2.1, .int z3.2.2.1, .int z3.2.2.2.1, .int z3.2.2.2.2]))] := hD
  have hP := hP.sub (ws' := [(aT, .inr (10, [.ref aEx, .ref aPi, .ref aEv, .int 0, .int 0])), (aEx, .inr (2, [.ref aMe, .ref aSt, .ref aIn, .ref aEf])), (aSt, .inr (9, [.ref aRg, .ref aSp, .int z1.1, .int z1.2.1, .int st_branchAt, .int st_target])), (aSp, .inr (8, [.ref aMp, .ref aLi, .int z1.2.2.1, .int z1.2.2.2.1, .int z1.2.2.2.2.1, .int z1.2.2.2.2.2.1, .int z1.2.2.2.2.2.2.1, .long z1.2.2.2.2.2.2.2.1, .int z1.2.2.2.2.2.2.2.2.1, .int z1.2.2.2.2.2.2.2.2.2.1, .int z1.2.2.2.2.2.2.2.2.2.2.1, .int z1.2.2.2.2.2.2.2.2.2.2.2.1, .int z1.2.2.2.2.2.2.2.2.2.2.2.2.1])), (aMp, .inr (5, [.ref aWo, .int mp_sets])), (aLi, .inr (4, [.ref aCo, .ref aVa, .int z1.2.2.2.2.2.2.2.2.2.2.2.2.2.1, .int z1.2.2.2.2.2.2.2.2.2.2.2.2.2.2.1])), (aPi, .inr (7, [.int z2.1, .int z2.2.1, .int z2.2.2.1, .ref aIs, .ref aRd, .int z2.2.2.2.1, .int z2.2.2.2.2.1, .int z2.2.2.2.2.2.1, .int z2.2.2.2.2.2.2.1, .int z2.2.2.2.2.2.2.2.1, .int z2.2.2.2.2.2.2.2.2.1, .int z2.2.2.2.2.2.2.2.2.2.1, .int pi_branchForeseenToGo, .int pi_branchRedirects])), (aEv, .inr (1, [.ref aFi, .int z3.1, .int z3.2.1, .int z3.2.2.1, .int z3.2.2.2.1, .int z3.2.2.2.2])), (aRg, .inl (cI, 32, .inl z1.2.2.2.2.2.2.2.2.2.2.2.2.2.2.2.1)), (aWo, .inl (cI, 512, .inl z1.2.2.2.2.2.2.2.2.2.2.2.2.2.2.2.2)), (aIs, .inl (cI, 8, .inl z2.2.2.2.2.2.2.2.2.2.2.1)), (aRd, .inl (cI, 36, .inl z2.2.2.2.2.2.2.2.2.2.2.2))]) [0, 1, 2, 3, 4, 5, 8, 11, 6, 7, 9, 10] rfl
  have hD := hD.sub (ws' := [(aT, .inr (10, [.ref aEx, .ref aPi, .ref aEv, .int 0, .int 0])), (aEx, .inr (2, [.ref aMe, .ref aSt, .ref aIn, .ref aEf])), (aSt, .inr (9, [.ref aRg, .ref aSp, .int z1.1, .int z1.2.1, .int st_branchAt, .int st_target])), (aSp, .inr (8, [.ref aMp, .ref aLi, .int z1.2.2.1, .int z1.2.2.2.1, .int z1.2.2.2.2.1, .int z1.2.2.2.2.2.1, .int z1.2.2.2.2.2.2.1, .long z1.2.2.2.2.2.2.2.1, .int z1.2.2.2.2.2.2.2.2.1, .int z1.2.2.2.2.2.2.2.2.2.1, .int z1.2.2.2.2.2.2.2.2.2.2.1, .int z1.2.2.2.2.2.2.2.2.2.2.2.1, .int z1.2.2.2.2.2.2.2.2.2.2.2.2.1])), (aMp, .inr (5, [.ref aWo, .int mp_sets])), (aLi, .inr (4, [.ref aCo, .ref aVa, .int z1.2.2.2.2.2.2.2.2.2.2.2.2.2.1, .int z1.2.2.2.2.2.2.2.2.2.2.2.2.2.2.1])), (aPi, .inr (7, [.int z2.1, .int z2.2.1, .int z2.2.2.1, .ref aIs, .ref aRd, .int z2.2.2.2.1, .int z2.2.2.2.2.1, .int z2.2.2.2.2.2.1, .int z2.2.2.2.2.2.2.1, .int z2.2.2.2.2.2.2.2.1, .int z2.2.2.2.2.2.2.2.2.1, .int z2.2.2.2.2.2.2.2.2.2.1, .int pi_branchForeseenToGo, .int pi_branchRedirects])), (aEv, .inr (1, [.ref aFi, .int z3.1, .int z3.2.1, .int z3.2.2.1, .int z3.2.2.2.1, .int z3.2.2.2.2])), (aRg, .inl (cI, 32, .inl z1.2.2.2.2.2.2.2.2.2.2.2.2.2.2.2.1)), (aWo, .inl (cI, 512, .inl z1.2.2.2.2.2.2.2.2.2.2.2.2.2.2.2.2)), (aIs, .inl (cI, 8, .inl z2.2.2.2.2.2.2.2.2.2.2.1)), (aRd, .inl (cI, 36, .inl z2.2.2.2.2.2.2.2.2.2.2.2))]) [0, 1, 2, 3, 4, 5, 8, 11, 6, 7, 9, 10] (by decide) rfl
  exact hret H locs _ ls (0, 0, z1.1, z1.2.1, z1.2.2.1, z1.2.2.2.1, z1.2.2.2.2.1, z1.2.2.2.2.2.1, z1.2.2.2.2.2.2.1, z1.2.2.2.2.2.2.2.1, z1.2.2.2.2.2.2.2.2.1, z1.2.2.2.2.2.2.2.2.2.1, z1.2.2.2.2.2.2.2.2.2.2.1, z1.2.2.2.2.2.2.2.2.2.2.2.1, z1.2.2.2.2.2.2.2.2.2.2.2.2.1, z1.2.2.2.2.2.2.2.2.2.2.2.2.2.1, z1.2.2.2.2.2.2.2.2.2.2.2.2.2.2.1, z2.1, z2.2.1, z2.2.2.1, z2.2.2.2.1, z2.2.2.2.2.1, z2.2.2.2.2.2.1, z2.2.2.2.2.2.2.1, z2.2.2.2.2.2.2.2.1, z2.2.2.2.2.2.2.2.2.1, z2.2.2.2.2.2.2.2.2.2.1, z3.1, z3.2.1, z3.2.2.1, z3.2.2.2.1, z3.2.2.2.2, z1.2.2.2.2.2.2.2.2.2.2.2.2.2.2.2.1, z1.2.2.2.2.2.2.2.2.2.2.2.2.2.2.2.2, z2.2.2.2.2.2.2.2.2.2.2.1, z2.2.2.2.2.2.2.2.2.2.2.2) dX10_restart_34 (by clear hP hD hS hl; replace hz3 := hz3.symm; subst hz3; replace hz2 := hz2.symm; subst hz2; replace hz1 := hz1.symm; subst hz1; (first | exact rfl | (delta fX10_restart; exact rfl) | (unfold fX10_restart; dsimp only) | (unfold fX10_restart; simp only []))) trivial hP hD hS
def fX10_setRegister (tw_cycles : Int32) (rg : Nat → Int32) (p0 : Int32) (p1 : Int32) : Int32 × (Nat → Int32) :=
  if 0 < tw_cycles then ((0, rg)) else (if p0 < 1 then ((0, rg)) else (if p0 < 32 then ((1, upd rg p0.toNatClampNeg p1)) else ((0, rg))))
theorem lkX10_setRegister_32 : Cond.fieldLink RX10 32 "TwinIssue" "executor" "LTwinIssue$Executor;" ∈ wsX10_setRegister := by decide +kernel
theorem lkX10_setRegister_36 : Cond.fieldLink RX10 36 "TwinIssue" "cycles" "I" ∈ wsX10_setRegister := by decide +kernel
theorem lkX10_setRegister_54 : Cond.fieldLink RX10 54 "TwinIssue$Executor" "state" "LTwinIssue$State;" ∈ wsX10_setRegister := by decide +kernel
theorem lkX10_setRegister_58 : Cond.fieldLink RX10 58 "TwinIssue$State" "registers" "[I" ∈ wsX10_setRegister := by decide +kernel
theorem iwX10_setRegister_X10 : ∀ w ∈ wsX100, w ∈ wsX10_setRegister := fun _ h => List.mem_cons_of_mem _ (List.mem_append_left _ (List.mem_append_left _ (List.mem_append_right _ h)))
theorem iwX10_setRegister_X2 : ∀ w ∈ wsX20, w ∈ wsX10_setRegister := fun _ h => List.mem_cons_of_mem _ (List.mem_append_left _ (List.mem_append_right _ h))
theorem iwX10_setRegister_X9 : ∀ w ∈ wsX90, w ∈ wsX10_setRegister := fun _ h => List.mem_cons_of_mem _ (List.mem_append_right _ h)
def sX10_setRegister (tw_cycles : Int32) (p0 : Int32) : Prop :=
  (0 < tw_cycles → True) ∧ (¬ (0 < tw_cycles) → ((p0 < 1 → True) ∧ (¬ (p0 < 1) → ((p0 < 32 → ((vp_in p0 32) ∧ True)) ∧ (¬ (p0 < 32) → True)))))
set_option maxHeartbeats 4000000 in
set_option maxRecDepth 100000 in
theorem mX10_setRegister (l : Launch) (G : va_G) (cI cB cP : ClassId) (aT aEx aMe aSt aSp aIn aEf aPi aEv aRg : Nat) (tw_cycles : Int32) (tw_nextIsKnown : Int32) (st_pc : Int32) (st_inSlot : Int32) (st_branchAt : Int32) (st_target : Int32) (rg : Nat → Int32) (sz : Nat) (p0 : Int32) (p1 : Int32) (hs : sX10_setRegister tw_cycles p0) : kMi (S := (Nat → Int32)) l yX10_setRegister wsX10_setRegister ({ frames := 0, cells := 0, slots := 0, locals := 0 }) [.ref aT, .int p0, .int p1] G (kTY cI cB cP) sz [(aT, .inr (10, [.ref aEx, .ref aPi, .ref aEv, .int tw_cycles, .int tw_nextIsKnown])), (aEx, .inr (2, [.ref aMe, .ref aSt, .ref aIn, .ref aEf])), (aSt, .inr (9, [.ref aRg, .ref aSp, .int st_pc, .int st_inSlot, .int st_branchAt, .int st_target])), (aRg, .inl (cI, 32, .inl rg))] (fX10_setRegister tw_cycles rg p0 p1) (fun r _ => isB r) (fun u => [(aT, .inr (10, [.ref aEx, .ref aPi, .ref aEv, .int tw_cycles, .int tw_nextIsKnown])), (aEx, .inr (2, [.ref aMe, .ref aSt, .ref aIn, .ref aEf])), (aSt, .inr (9, [.ref aRg, .ref aSp, .int st_pc, .int st_inSlot, .int st_branchAt, .int st_target])), (aRg, .inl (cI, 32, .inl u))]) := by
  refine k_ofz (cc := cX10_setRegister) (maxL := 3) (by decide) rfl (Nat.le_of_ble_eq_true rfl) ?_
  intro p e s m args below meth c A ls Q H locs hx hb hml hown hts hin hK hP hD hA hS hl hret
  have hown : s.vm.findClass RX10 = some m.cls := hown
  have hl : lv_has ls 3 [(0, .ref aT), (1, .int p0), (2, .int p1)] := hl
  unfold sX10_setRegister at hs
  refine lv_aload_n hx hb dX10_setRegister_0 rfl (lv_at hl 0 rfl) ?_
  refine va_get (D := G) (ci := 10) (v := .int tw_cycles) (C := RX10) (T := TX10) (N := 5) hx hb hts iwX10_setRegister_X10 hown hK hP 0 rfl rfl 3 (by decide) (hts _ lkX10_setRegister_36) (fun _ h9 => h9) rfl dX10_setRegister_1 ?_
  refine lv_if_gt (tgt := 18) hx hb dX10_setRegister_4 (by decide) (fun c1 => ?_) (fun c1 => ?_)
  · have hs := hs.1 c1
    refine lv_iconst (v := 0) hx hb dX10_setRegister_18 (by decide) ?_
    exact hret H locs _ ls 0 rg dX10_setRegister_19 ((if_pos c1).trans (rfl)).symm (Or.inl rfl) (Or.inl rfl) hP hD hS
  · have hs := hs.2 c1
    refine lv_iload_n hx hb dX10_setRegister_7 rfl (lv_at hl 1 rfl) ?_
    refine lv_iconst (v := 1) hx hb dX10_setRegister_8 (by decide) ?_
    refine lv_icmp_lt (tgt := 18) hx hb dX10_setRegister_9 (by decide) (fun c2 => ?_) (fun c2 => ?_)
    · have hs := hs.1 c2
      refine lv_iconst (v := 0) hx hb dX10_setRegister_18 (by decide) ?_
      exact hret H locs _ ls 0 rg dX10_setRegister_19 ((if_neg c1).trans ((if_pos c2).trans (rfl))).symm (Or.inl rfl) (Or.inl rfl) hP hD hS
    · have hs := hs.2 c2
      refine lv_iload_n hx hb dX10_setRegister_12 rfl (lv_at hl 1 rfl) ?_
      refine lv_bipush (v := 32) hx hb dX10_setRegister_13 (by decide) ?_
      refine lv_icmp_lt (tgt := 20) hx hb dX10_setRegister_15 (by decide) (fun c3 => ?_) (fun c3 => ?_)
      · have hs := hs.1 c3
        refine lv_aload_n hx hb dX10_setRegister_20 rfl (lv_at hl 0 rfl) ?_
        refine va_get (D := G) (ci := 10) (v := .ref aEx) (C := RX10) (T := TX10) (N := 5) hx hb hts iwX10_setRegister_X10 hown hK hP 0 rfl rfl 0 (by decide) (hts _ lkX10_setRegister_32) (fun _ h9 => h9) rfl dX10_setRegister_21 ?_
        refine va_get (D := G) (ci := 2) (v := .ref aSt) (C := RX2) (T := TX2) (N := 4) hx hb hts iwX10_setRegister_X2 hown hK hP 1 rfl rfl 1 (by decide) (hts _ lkX10_setRegister_54) (fun _ h9 => h9) rfl dX10_setRegister_24 ?_
        refine va_get (D := G) (ci := 9) (v := .ref aRg) (C := RX9) (T := TX9) (N := 6) hx hb hts iwX10_setRegister_X9 hown hK hP 2 rfl rfl 0 (by decide) (hts _ lkX10_setRegister_58) (fun _ h9 => h9) rfl dX10_setRegister_27 ?_
        refine lv_iload_n hx hb dX10_setRegister_30 rfl (lv_at hl 1 rfl) ?_
        refine lv_iload_n hx hb dX10_setRegister_31 rfl (lv_at hl 2 rfl) ?_
        obtain ⟨o1, hs⟩ := hs
        refine va_iast hx hb hK hP hD hS 3 0 rfl rfl o1 dX10_setRegister_32 (fun H locs hP hD hS => ?_)
        have hP : va_P G vwCl [(aT, .inr (10, [.ref aEx, .ref aPi, .ref aEv, .int tw_cycles, .int tw_nextIsKnown])), (aEx, .inr (2, [.ref aMe, .ref aSt, .ref aIn, .ref aEf])), (aSt, .inr (9, [.ref aRg, .ref aSp, .int st_pc, .int st_inSlot, .int st_branchAt, .int st_target])), (aRg, .inl (cI, 32, .inl (upd rg p0.toNatClampNeg p1)))] H := hP
        have hD : va_D A [(aT, .inr (10, [.ref aEx, .ref aPi, .ref aEv, .int tw_cycles, .int tw_nextIsKnown])), (aEx, .inr (2, [.ref aMe, .ref aSt, .ref aIn, .ref aEf])), (aSt, .inr (9, [.ref aRg, .ref aSp, .int st_pc, .int st_inSlot, .int st_branchAt, .int st_target])), (aRg, .inl (cI, 32, .inl (upd rg p0.toNatClampNeg p1)))] := hD
        refine lv_iconst (v := 1) hx hb dX10_setRegister_33 (by decide) ?_
        exact hret H locs _ ls 1 (upd rg p0.toNatClampNeg p1) dX10_setRegister_34 ((if_neg c1).trans ((if_neg c2).trans ((if_pos c3).trans (rfl)))).symm (Or.inr rfl) (Or.inr rfl) hP hD hS
      · have hs := hs.2 c3
        refine lv_iconst (v := 0) hx hb dX10_setRegister_18 (by decide) ?_
        exact hret H locs _ ls 0 rg dX10_setRegister_19 ((if_neg c1).trans ((if_neg c2).trans ((if_neg c3).trans (rfl)))).symm (Or.inl rfl) (Or.inl rfl) hP hD hS
def fX10_specialOf (sp_sr : Int32) (sp_epc : Int32) (sp_esr : Int32) (sp_eea : Int32) (sp_held : Int32) (sp_sum : Int64) (sp_count : Int32) (sp_timer : Int32) (sp_mask : Int32) (sp_retired : Int32) (sp_latch : Int32) (mp_sets : Int32) (li_passed : Int32) (li_size : Int32) (wo : Nat → Int32) (co : Nat → Int32) (va : Nat → Int32) (p0 : Int32) : Int32 × Int32 :=
  (let z1 := fX8_read sp_sr sp_epc sp_esr sp_eea sp_held sp_sum sp_count sp_timer sp_mask sp_retired sp_latch mp_sets li_passed li_size wo co va p0; (z1.1, z1.2))
theorem lkX10_specialOf_32 : Cond.fieldLink RX10 32 "TwinIssue" "executor" "LTwinIssue$Executor;" ∈ wsX10_specialOf := by decide +kernel
theorem lkX10_specialOf_54 : Cond.fieldLink RX10 54 "TwinIssue$Executor" "state" "LTwinIssue$State;" ∈ wsX10_specialOf := by decide +kernel
theorem lkX10_specialOf_64 : Cond.fieldLink RX10 64 "TwinIssue$State" "specials" "LTwinIssue$Specials;" ∈ wsX10_specialOf := by decide +kernel
theorem iwX10_specialOf_X10 : ∀ w ∈ wsX100, w ∈ wsX10_specialOf := fun _ h => List.mem_cons_of_mem _ (List.mem_append_left _ (List.mem_append_left _ (List.mem_append_left _ (List.mem_append_left _ (List.mem_append_left _ (List.mem_append_right _ h))))))
theorem iwX10_specialOf_X2 : ∀ w ∈ wsX20, w ∈ wsX10_specialOf := fun _ h => List.mem_cons_of_mem _ (List.mem_append_left _ (List.mem_append_left _ (List.mem_append_left _ (List.mem_append_left _ (List.mem_append_right _ h)))))
theorem iwX10_specialOf_X9 : ∀ w ∈ wsX90, w ∈ wsX10_specialOf := fun _ h => List.mem_cons_of_mem _ (List.mem_append_left _ (List.mem_append_left _ (List.mem_append_left _ (List.mem_append_right _ h))))
def sX10_specialOf (sp_sr : Int32) (sp_epc : Int32) (sp_esr : Int32) (sp_eea : Int32) (sp_held : Int32) (sp_sum : Int64) (sp_count : Int32) (sp_timer : Int32) (sp_mask : Int32) (sp_retired : Int32) (sp_latch : Int32) (mp_sets : Int32) (li_passed : Int32) (li_size : Int32) (wo : Nat → Int32) (co : Nat → Int32) (va : Nat → Int32) (p0 : Int32) : Prop :=
  (sX8_read sp_held sp_retired sp_latch mp_sets li_passed li_size wo co va p0) ∧ ((∀ z1, z1 = fX8_read sp_sr sp_epc sp_esr sp_eea sp_held sp_sum sp_count sp_timer sp_mask sp_retired sp_latch mp_sets li_passed li_size wo co va p0 → True))
set_option maxHeartbeats 4000000 in
set_option maxRecDepth 100000 in
theorem mX10_specialOf (l : Launch) (G : va_G) (cI cB cP : ClassId) (aT aEx aMe aSt aSp aMp aLi aIn aEf aPi aEv aRg aWo aCo aVa : Nat) (tw_cycles : Int32) (tw_nextIsKnown : Int32) (st_pc : Int32) (st_inSlot : Int32) (st_branchAt : Int32) (st_target : Int32) (sp_sr : Int32) (sp_epc : Int32) (sp_esr : Int32) (sp_eea : Int32) (sp_held : Int32) (sp_sum : Int64) (sp_count : Int32) (sp_timer : Int32) (sp_mask : Int32) (sp_retired : Int32) (sp_latch : Int32) (mp_sets : Int32) (li_passed : Int32) (li_size : Int32) (wo : Nat → Int32) (co : Nat → Int32) (va : Nat → Int32) (sz : Nat) (p0 : Int32) (hs : sX10_specialOf sp_sr sp_epc sp_esr sp_eea sp_held sp_sum sp_count sp_timer sp_mask sp_retired sp_latch mp_sets li_passed li_size wo co va p0) : kMi (S := Int32) l yX10_specialOf wsX10_specialOf ({ frames := 3, cells := 0, slots := 0, locals := 64 }) [.ref aT, .int p0] G (kTY cI cB cP) sz [(aT, .inr (10, [.ref aEx, .ref aPi, .ref aEv, .int tw_cycles, .int tw_nextIsKnown])), (aEx, .inr (2, [.ref aMe, .ref aSt, .ref aIn, .ref aEf])), (aSt, .inr (9, [.ref aRg, .ref aSp, .int st_pc, .int st_inSlot, .int st_branchAt, .int st_target])), (aSp, .inr (8, [.ref aMp, .ref aLi, .int sp_sr, .int sp_epc, .int sp_esr, .int sp_eea, .int sp_held, .long sp_sum, .int sp_count, .int sp_timer, .int sp_mask, .int sp_retired, .int sp_latch])), (aMp, .inr (5, [.ref aWo, .int mp_sets])), (aLi, .inr (4, [.ref aCo, .ref aVa, .int li_passed, .int li_size])), (aWo, .inl (cI, 512, .inl wo)), (aCo, .inl (cI, 32, .inl co)), (aVa, .inl (cI, 32, .inl va))] (fX10_specialOf sp_sr sp_epc sp_esr sp_eea sp_held sp_sum sp_count sp_timer sp_mask sp_retired sp_latch mp_sets li_passed li_size wo co va p0) (fun _ _ => True) (fun u => [(aT, .inr (10, [.ref aEx, .ref aPi, .ref aEv, .int tw_cycles, .int tw_nextIsKnown])), (aEx, .inr (2, [.ref aMe, .ref aSt, .ref aIn, .ref aEf])), (aSt, .inr (9, [.ref aRg, .ref aSp, .int st_pc, .int st_inSlot, .int st_branchAt, .int st_target])), (aSp, .inr (8, [.ref aMp, .ref aLi, .int sp_sr, .int sp_epc, .int sp_esr, .int sp_eea, .int sp_held, .long sp_sum, .int sp_count, .int sp_timer, .int sp_mask, .int sp_retired, .int sp_latch])), (aMp, .inr (5, [.ref aWo, .int mp_sets])), (aLi, .inr (4, [.ref aCo, .ref aVa, .int u, .int li_size])), (aWo, .inl (cI, 512, .inl wo)), (aCo, .inl (cI, 32, .inl co)), (aVa, .inl (cI, 32, .inl va))]) := by
  refine k_ofi (cc := cX10_specialOf) (maxL := 2) (by decide) rfl (Nat.le_of_ble_eq_true rfl) ?_
  intro p e s m args below meth c A ls Q H locs hx hb hml hown hts hin hK hP hD hA hS hl hret
  have hown : s.vm.findClass RX10 = some m.cls := hown
  have hl : lv_has ls 2 [(0, .ref aT), (1, .int p0)] := hl
  unfold sX10_specialOf at hs
  refine lv_aload_n hx hb dX10_specialOf_0 rfl (lv_at hl 0 rfl) ?_
  refine va_get (D := G) (ci := 10) (v := .ref aEx) (C := RX10) (T := TX10) (N := 5) hx hb hts iwX10_specialOf_X10 hown hK hP 0 rfl rfl 0 (by decide) (hts _ lkX10_specialOf_32) (fun _ h9 => h9) rfl dX10_specialOf_1 ?_
  refine va_get (D := G) (ci := 2) (v := .ref aSt) (C := RX2) (T := TX2) (N := 4) hx hb hts iwX10_specialOf_X2 hown hK hP 1 rfl rfl 1 (by decide) (hts _ lkX10_specialOf_54) (fun _ h9 => h9) rfl dX10_specialOf_4 ?_
  refine va_get (D := G) (ci := 9) (v := .ref aSp) (C := RX9) (T := TX9) (N := 6) hx hb hts iwX10_specialOf_X9 hown hK hP 2 rfl rfl 1 (by decide) (hts _ lkX10_specialOf_64) (fun _ h9 => h9) rfl dX10_specialOf_7 ?_
  refine lv_iload_n hx hb dX10_specialOf_10 rfl (lv_at hl 1 rfl) ?_
  obtain ⟨o1, hs⟩ := hs
  refine k_iV (As := [.int p0]) (rest := []) (wc := [(aSp, .inr (8, [.ref aMp, .ref aLi, .int sp_sr, .int sp_epc, .int sp_esr, .int sp_eea, .int sp_held, .long sp_sum, .int sp_count, .int sp_timer, .int sp_mask, .int sp_retired, .int sp_latch])), (aMp, .inr (5, [.ref aWo, .int mp_sets])), (aLi, .inr (4, [.ref aCo, .ref aVa, .int li_passed, .int li_size])), (aWo, .inl (cI, 512, .inl wo)), (aCo, .inl (cI, 32, .inl co)), (aVa, .inl (cI, 32, .inl va))]) (wr := [(aT, .inr (10, [.ref aEx, .ref aPi, .ref aEv, .int tw_cycles, .int tw_nextIsKnown])), (aEx, .inr (2, [.ref aMe, .ref aSt, .ref aIn, .ref aEf])), (aSt, .inr (9, [.ref aRg, .ref aSp, .int st_pc, .int st_inSlot, .int st_branchAt, .int st_target]))]) ⟨hx, hb, hml, hown, hts⟩ hK hP hD hS hA [3, 4, 5, 6, 7, 8] [0, 1, 2] rfl rfl rfl rfl (by decide) (mX8_read l G cI cB cP aSp aMp aLi aWo aCo aVa sp_sr sp_epc sp_esr sp_eea sp_held sp_sum sp_count sp_timer sp_mask sp_retired sp_latch mp_sets li_passed li_size wo co va H.size p0 o1) (cwV 1 hts gX10_specialOf_X8_read rfl rfl rfl (by decide +kernel) ⟨Nat.le_of_ble_eq_true rfl, Nat.le_of_ble_eq_true rfl⟩) 3 8 rfl rfl rfl rfl hl.1 rfl (Nat.le_of_ble_eq_true rfl) dX10_specialOf_11 ⟨Nat.le_of_ble_eq_true rfl, Nat.le_of_ble_eq_true rfl⟩ (fun z1 H locs hz1 hEz1 hP hD hS => ?_)
  have hs := hs z1 hz1
  have hP : va_P G vwCl [(aT, .inr (10, [.ref aEx, .ref aPi, .ref aEv, .int tw_cycles, .int tw_nextIsKnown])), (aEx, .inr (2, [.ref aMe, .ref aSt, .ref aIn, .ref aEf])), (aSt, .inr (9, [.ref aRg, .ref aSp, .int st_pc, .int st_inSlot, .int st_branchAt, .int st_target])), (aSp, .inr (8, [.ref aMp, .ref aLi, .int sp_sr, .int sp_epc, .int sp_esr, .int sp_eea, .int sp_held, .long sp_sum, .int sp_count, .int sp_timer, .int sp_mask, .int sp_retired, .int sp_latch])), (aMp, .inr (5, [.ref aWo, .int mp_sets])), (aLi, .inr (4, [.ref aCo, .ref aVa, .int z1.2, .int li_size])), (aWo, .inl (cI, 512, .inl wo)), (aCo, .inl (cI, 32, .inl co)), (aVa, .inl (cI, 32, .inl va))] H := hP
  have hD : va_D A [(aT, .inr (10, [.ref aEx, .ref aPi, .ref aEv, .int tw_cycles, .int tw_nextIsKnown])), (aEx, .inr (2, [.ref aMe, .ref aSt, .ref aIn, .ref aEf])), (aSt, .inr (9, [.ref aRg, .ref aSp, .int st_pc, .int st_inSlot, .int st_branchAt, .int st_target])), (aSp, .inr (8, [.ref aMp, .ref aLi, .int sp_sr, .int sp_epc, .int sp_esr, .int sp_eea, .int sp_held, .long sp_sum, .int sp_count, .int sp_timer, .int sp_mask, .int sp_retired, .int sp_latch])), (aMp, .inr (5, [.ref aWo, .int mp_sets])), (aLi, .inr (4, [.ref aCo, .ref aVa, .int z1.2, .int li_size])), (aWo, .inl (cI, 512, .inl wo)), (aCo, .inl (cI, 32, .inl co)), (aVa, .inl (cI, 32, .inl va))] := hD
  exact hret H locs _ ls z1.1 z1.2 dX10_specialOf_14 (by clear hP hD hS hl; replace hz1 := hz1.symm; subst hz1; (first | exact rfl | (delta fX10_specialOf; exact rfl) | (unfold fX10_specialOf; dsimp only) | (unfold fX10_specialOf; simp only []))) trivial hP hD hS
def fX10_valueOf (ev_count : Int32) (fi : Nat → Int32) (p0 : Int32) (p1 : Int32) : Int32 :=
  (let z1 := (fX1_keeps ev_count p0, ()); (let j2 : Int32 := if z1.1 = 0 then (0) else (if p1 < 0 then (0) else (if 2 < p1 then (0) else (1))); if j2 = 0 then (0) else ((let z3 := (fX1_field fi p0 (8 + p1), ()); z3.1))))
theorem lkX10_valueOf_19 : Cond.fieldLink RX10 19 "TwinIssue" "events" "LTwinIssue$EventRecord;" ∈ wsX10_valueOf := by decide +kernel
theorem iwX10_valueOf_X10 : ∀ w ∈ wsX100, w ∈ wsX10_valueOf := fun _ h => List.mem_cons_of_mem _ (List.mem_append_left _ (List.mem_append_right _ h))
def sX10_valueOf (ev_count : Int32) (fi : Nat → Int32) (p0 : Int32) (p1 : Int32) : Prop :=
  (∀ z1, z1 = (fX1_keeps ev_count p0, ()) → (((z1.1 = 0 → True) ∧ (¬ (z1.1 = 0) → ((p1 < 0 → True) ∧ (¬ (p1 < 0) → ((2 < p1 → True) ∧ (¬ (2 < p1) → True)))))) ∧ (∀ j2 : Int32, j2 = (if z1.1 = 0 then (0) else (if p1 < 0 then (0) else (if 2 < p1 then (0) else (1)))) → ((j2 = 0 → True) ∧ (¬ (j2 = 0) → ((sX1_field p0 (8 + p1)) ∧ ((∀ z3, z3 = (fX1_field fi p0 (8 + p1), ()) → True))))))))
set_option maxHeartbeats 4000000 in
set_option maxRecDepth 100000 in
theorem mX10_valueOf (l : Launch) (G : va_G) (cI cB cP : ClassId) (aT aEx aPi aEv aFi : Nat) (tw_cycles : Int32) (tw_nextIsKnown : Int32) (ev_count : Int32) (ev_exceptions : Int32) (ev_doubleCycles : Int32) (ev_longestWay : Int32) (ev_lastCycle : Int32) (fi : Nat → Int32) (sz : Nat) (p0 : Int32) (p1 : Int32) (hs : sX10_valueOf ev_count fi p0 p1) : kMi (S := Unit) l yX10_valueOf wsX10_valueOf ({ frames := 1, cells := 0, slots := 0, locals := 22 }) [.ref aT, .int p0, .int p1] G (kTY cI cB cP) sz [(aT, .inr (10, [.ref aEx, .ref aPi, .ref aEv, .int tw_cycles, .int tw_nextIsKnown])), (aEv, .inr (1, [.ref aFi, .int ev_count, .int ev_exceptions, .int ev_doubleCycles, .int ev_longestWay, .int ev_lastCycle])), (aFi, .inl (cI, 2816, .inl fi))] (fX10_valueOf ev_count fi p0 p1, ()) (fun _ _ => True) (fun _ => [(aT, .inr (10, [.ref aEx, .ref aPi, .ref aEv, .int tw_cycles, .int tw_nextIsKnown])), (aEv, .inr (1, [.ref aFi, .int ev_count, .int ev_exceptions, .int ev_doubleCycles, .int ev_longestWay, .int ev_lastCycle])), (aFi, .inl (cI, 2816, .inl fi))]) := by
  refine k_ofi (cc := cX10_valueOf) (maxL := 4) (by decide) rfl (Nat.le_of_ble_eq_true rfl) ?_
  intro p e s m args below meth c A ls Q H locs hx hb hml hown hts hin hK hP hD hA hS hl hret
  have hown : s.vm.findClass RX10 = some m.cls := hown
  have hl : lv_has ls 4 [(0, .ref aT), (1, .int p0), (2, .int p1)] := hl
  unfold sX10_valueOf at hs
  refine lv_aload_n hx hb dX10_valueOf_0 rfl (lv_at hl 0 rfl) ?_
  refine va_get (D := G) (ci := 10) (v := .ref aEv) (C := RX10) (T := TX10) (N := 5) hx hb hts iwX10_valueOf_X10 hown hK hP 0 rfl rfl 2 (by decide) (hts _ lkX10_valueOf_19) (fun _ h9 => h9) rfl dX10_valueOf_1 ?_
  refine lv_iload_n hx hb dX10_valueOf_4 rfl (lv_at hl 1 rfl) ?_
  refine k_iV (As := [.int p0]) (rest := []) (wc := [(aEv, .inr (1, [.ref aFi, .int ev_count, .int ev_exceptions, .int ev_doubleCycles, .int ev_longestWay, .int ev_lastCycle]))]) (wr := [(aT, .inr (10, [.ref aEx, .ref aPi, .ref aEv, .int tw_cycles, .int tw_nextIsKnown])), (aFi, .inl (cI, 2816, .inl fi))]) ⟨hx, hb, hml, hown, hts⟩ hK hP hD hS hA [1] [0, 2] rfl rfl rfl rfl (by decide) (mX1_keeps l G cI cB cP aEv aFi ev_count ev_exceptions ev_doubleCycles ev_longestWay ev_lastCycle H.size p0 ) (cwV 1 hts gX10_valueOf_X1_keeps rfl rfl rfl (by decide +kernel) ⟨Nat.le_of_ble_eq_true rfl, Nat.le_of_ble_eq_true rfl⟩) 1 1 rfl rfl rfl rfl hl.1 rfl (Nat.le_of_ble_eq_true rfl) dX10_valueOf_5 ⟨Nat.le_of_ble_eq_true rfl, Nat.le_of_ble_eq_true rfl⟩ (fun z1 H locs hz1 hEz1 hP hD hS => ?_)
  have hs := hs z1 hz1
  have hP : va_P G vwCl [(aT, .inr (10, [.ref aEx, .ref aPi, .ref aEv, .int tw_cycles, .int tw_nextIsKnown])), (aFi, .inl (cI, 2816, .inl fi)), (aEv, .inr (1, [.ref aFi, .int ev_count, .int ev_exceptions, .int ev_doubleCycles, .int ev_longestWay, .int ev_lastCycle]))] H := hP
  have hD : va_D A [(aT, .inr (10, [.ref aEx, .ref aPi, .ref aEv, .int tw_cycles, .int tw_nextIsKnown])), (aFi, .inl (cI, 2816, .inl fi)), (aEv, .inr (1, [.ref aFi, .int ev_count, .int ev_exceptions, .int ev_doubleCycles, .int ev_longestWay, .int ev_lastCycle]))] := hD
  have Kj2 : ∀ (j2 : Int32) (H : Heap) (locs : List Loc) (ls : Array Slot), j2 = (if z1.1 = 0 then (0) else (if p1 < 0 then (0) else (if 2 < p1 then (0) else (1)))) → isB j2 → va_P G vwCl [(aT, .inr (10, [.ref aEx, .ref aPi, .ref aEv, .int tw_cycles, .int tw_nextIsKnown])), (aFi, .inl (cI, 2816, .inl fi)), (aEv, .inr (1, [.ref aFi, .int ev_count, .int ev_exceptions, .int ev_doubleCycles, .int ev_longestWay, .int ev_lastCycle]))] H → va_D A [(aT, .inr (10, [.ref aEx, .ref aPi, .ref aEv, .int tw_cycles, .int tw_nextIsKnown])), (aFi, .inl (cI, 2816, .inl fi)), (aEv, .inr (1, [.ref aFi, .int ev_count, .int ev_exceptions, .int ev_doubleCycles, .int ev_longestWay, .int ev_lastCycle]))] → va_S A s.heap H locs → lv_has ls 4 [(0, .ref aT), (1, .int p0), (2, .int p1)] → W p l e ({ frames := 1, cells := 0, slots := 0, locals := 22 }) s m args below meth c H locs 0 0 Q (F0 m 25 ls [.int j2]) := by
    intro j2 H locs ls hj2 hbj2_0 hP hD hS hl
    have hs := hs.2 j2 hj2
    refine lv_istore_n (lv' := [(3, .int j2), (0, .ref aT), (1, .int p0), (2, .int p1)]) hx hb dX10_valueOf_25 rfl hl (by decide) rfl (fun ls hl => ?_)
    refine lv_iload_n hx hb dX10_valueOf_26 rfl (lv_at hl 0 rfl) ?_
    refine lv_if_eq (tgt := 45) hx hb dX10_valueOf_27 (by decide) (fun c7 => ?_) (fun c7 => ?_)
    · have hs := hs.1 c7
      refine lv_iconst (v := 0) hx hb dX10_valueOf_45 (by decide) ?_
      have hP := hP.sub (ws' := [(aT, .inr (10, [.ref aEx, .ref aPi, .ref aEv, .int tw_cycles, .int tw_nextIsKnown])), (aEv, .inr (1, [.ref aFi, .int ev_count, .int ev_exceptions, .int ev_doubleCycles, .int ev_longestWay, .int ev_lastCycle])), (aFi, .inl (cI, 2816, .inl fi))]) [0, 2, 1] rfl
      have hD := hD.sub (ws' := [(aT, .inr (10, [.ref aEx, .ref aPi, .ref aEv, .int tw_cycles, .int tw_nextIsKnown])), (aEv, .inr (1, [.ref aFi, .int ev_count, .int ev_exceptions, .int ev_doubleCycles, .int ev_longestWay, .int ev_lastCycle])), (aFi, .inl (cI, 2816, .inl fi))]) [0, 2, 1] (by decide) rfl
      exact hret H locs _ ls 0 () dX10_valueOf_46 (by clear hP hD hS hl; replace hj2 := hj2.symm; subst hj2; replace hz1 := hz1.symm; subst hz1; exact congrArg (fun x => (x, ())) (((if_pos c7).trans (rfl))).symm) trivial hP hD hS
    · have hs := hs.2 c7
      refine lv_aload_n hx hb dX10_valueOf_30 rfl (lv_at hl 1 rfl) ?_
      refine va_get (D := G) (ci := 10) (v := .ref aEv) (C := RX10) (T := TX10) (N := 5) hx hb hts iwX10_valueOf_X10 hown hK hP 0 rfl rfl 2 (by decide) (hts _ lkX10_valueOf_19) (fun _ h9 => h9) rfl dX10_valueOf_31 ?_
      refine lv_iload_n hx hb dX10_valueOf_34 rfl (lv_at hl 2 rfl) ?_
      refine lv_bipush (v := 8) hx hb dX10_valueOf_35 (by decide) ?_
      refine lv_iload_n hx hb dX10_valueOf_37 rfl (lv_at hl 3 rfl) ?_
      refine lv_iadd hx hb dX10_valueOf_38 ?_
      obtain ⟨o1, hs⟩ := hs
      refine k_iV (As := [.int p0, .int (8 + p1)]) (rest := []) (wc := [(aEv, .inr (1, [.ref aFi, .int ev_count, .int ev_exceptions, .int ev_doubleCycles, .int ev_longestWay, .int ev_lastCycle])), (aFi, .inl (cI, 2816, .inl fi))]) (wr := [(aT, .inr (10, [.ref aEx, .ref aPi, .ref aEv, .int tw_cycles, .int tw_nextIsKnown]))]) ⟨hx, hb, hml, hown, hts⟩ hK hP hD hS hA [2, 1] [0] rfl rfl rfl rfl (by decide) (mX1_field l G cI cB cP aEv aFi ev_count ev_exceptions ev_doubleCycles ev_longestWay ev_lastCycle fi H.size p0 (8 + p1) o1) (cwV 2 hts gX10_valueOf_X1_field rfl rfl rfl (by decide +kernel) ⟨Nat.le_of_ble_eq_true rfl, Nat.le_of_ble_eq_true rfl⟩) 2 1 rfl rfl rfl rfl hl.1 rfl (Nat.le_of_ble_eq_true rfl) dX10_valueOf_39 ⟨Nat.le_of_ble_eq_true rfl, Nat.le_of_ble_eq_true rfl⟩ (fun z3 H locs hz3 hEz3 hP hD hS => ?_)
      have hs := hs z3 hz3
      have hP : va_P G vwCl [(aT, .inr (10, [.ref aEx, .ref aPi, .ref aEv, .int tw_cycles, .int tw_nextIsKnown])), (aEv, .inr (1, [.ref aFi, .int ev_count, .int ev_exceptions, .int ev_doubleCycles, .int ev_longestWay, .int ev_lastCycle])), (aFi, .inl (cI, 2816, .inl fi))] H := hP
      have hD : va_D A [(aT, .inr (10, [.ref aEx, .ref aPi, .ref aEv, .int tw_cycles, .int tw_nextIsKnown])), (aEv, .inr (1, [.ref aFi, .int ev_count, .int ev_exceptions, .int ev_doubleCycles, .int ev_longestWay, .int ev_lastCycle])), (aFi, .inl (cI, 2816, .inl fi))] := hD
      refine lv_goto (tgt := 46) hx hb dX10_valueOf_42 (by decide) ?_
      exact hret H locs _ ls z3.1 () dX10_valueOf_46 (by clear hP hD hS hl; replace hz3 := hz3.symm; subst hz3; replace hj2 := hj2.symm; subst hj2; replace hz1 := hz1.symm; subst hz1; exact congrArg (fun x => (x, ())) (((if_neg c7).trans (rfl))).symm) trivial hP hD hS
  have hs := hs.1
  refine lv_if_eq (tgt := 24) hx hb dX10_valueOf_8 (by decide) (fun c8 => ?_) (fun c8 => ?_)
  · have hs := hs.1 c8
    refine lv_iconst (v := 0) hx hb dX10_valueOf_24 (by decide) ?_
    exact Kj2 0 H locs ls ((if_pos c8).trans (rfl)).symm (Or.inl rfl) hP hD hS (lv_sub hl [0, 1, 2] rfl)
  · have hs := hs.2 c8
    refine lv_iload_n hx hb dX10_valueOf_11 rfl (lv_at hl 2 rfl) ?_
    refine lv_if_lt (tgt := 24) hx hb dX10_valueOf_12 (by decide) (fun c9 => ?_) (fun c9 => ?_)
    · have hs := hs.1 c9
      refine lv_iconst (v := 0) hx hb dX10_valueOf_24 (by decide) ?_
      exact Kj2 0 H locs ls ((if_neg c8).trans ((if_pos c9).trans (rfl))).symm (Or.inl rfl) hP hD hS (lv_sub hl [0, 1, 2] rfl)
    · have hs := hs.2 c9
      refine lv_iload_n hx hb dX10_valueOf_15 rfl (lv_at hl 2 rfl) ?_
      refine lv_iconst (v := 2) hx hb dX10_valueOf_16 (by decide) ?_
      refine lv_icmp_gt (tgt := 24) hx hb dX10_valueOf_17 (by decide) (fun c10 => ?_) (fun c10 => ?_)
      · have hs := hs.1 c10
        refine lv_iconst (v := 0) hx hb dX10_valueOf_24 (by decide) ?_
        exact Kj2 0 H locs ls ((if_neg c8).trans ((if_neg c9).trans ((if_pos c10).trans (rfl)))).symm (Or.inl rfl) hP hD hS (lv_sub hl [0, 1, 2] rfl)
      · have hs := hs.2 c10
        refine lv_iconst (v := 1) hx hb dX10_valueOf_20 (by decide) ?_
        refine lv_goto (tgt := 25) hx hb dX10_valueOf_21 (by decide) ?_
        exact Kj2 1 H locs ls ((if_neg c8).trans ((if_neg c9).trans ((if_neg c10).trans (rfl)))).symm (Or.inr rfl) hP hD hS (lv_sub hl [0, 1, 2] rfl)

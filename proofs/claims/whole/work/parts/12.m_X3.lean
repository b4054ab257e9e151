def fX3_setUnreadable  : Int32 :=
  0
theorem lkX3_setUnreadable_38 : Cond.fieldLink RX3 38 "TwinIssue$Instruction" "traits" "I" ∈ wsX3_setUnreadable := by decide +kernel
theorem iwX3_setUnreadable_X3 : ∀ w ∈ wsX30, w ∈ wsX3_setUnreadable := fun _ h => List.mem_cons_of_mem _ (List.mem_append_right _ h)
set_option maxHeartbeats 4000000 in
set_option maxRecDepth 100000 in
theorem mX3_setUnreadable (l : Launch) (G : va_G) (cI cB cP : ClassId) (aIn : Nat) (ins_traits : Int32) (ins_op : Int32) (ins_d : Int32) (ins_a : Int32) (ins_b : Int32) (ins_u : Int32) (ins_i : Int32) (ins_j : Int32) (sz : Nat) : kMv (S := Int32) l yX3_setUnreadable wsX3_setUnreadable ({ frames := 0, cells := 0, slots := 0, locals := 0 }) [.ref aIn] G (kTY cI cB cP) sz [(aIn, .inr (3, [.int ins_traits, .int ins_op, .int ins_d, .int ins_a, .int ins_b, .int ins_u, .int ins_i, .int ins_j]))] (fX3_setUnreadable) (fun _ => True) (fun u => [(aIn, .inr (3, [.int u, .int ins_op, .int ins_d, .int ins_a, .int ins_b, .int ins_u, .int ins_i, .int ins_j]))]) := by
  refine k_ofv (cc := cX3_setUnreadable) (maxL := 1) (by decide) rfl (Nat.le_of_ble_eq_true rfl) ?_
  intro p e s m args below meth c A ls Q H locs hx hb hml hown hts hin hK hP hD hA hS hl hret
  have hown : s.vm.findClass RX3 = some m.cls := hown
  have hl : lv_has ls 1 [(0, .ref aIn)] := hl
  refine lv_aload_n hx hb dX3_setUnreadable_0 rfl (lv_at hl 0 rfl) ?_
  refine lv_iconst (v := 0) hx hb dX3_setUnreadable_1 (by decide) ?_
  refine va_put (D := G) (ci := 3) (v := .int 0) (ty := .int) (C := RX3) (T := TX3) (N := 8) hx hb hts iwX3_setUnreadable_X3 tyX3 tyX3_ok nmX3 hown hK hP hD hS 0 rfl rfl 0 (by decide) (hts _ lkX3_setUnreadable_38) (fun _ h9 => h9) rfl (by decide +kernel) rfl rfl (Nat.le_of_ble_eq_true rfl) dX3_setUnreadable_2 (fun H locs hP hD hS => ?_)
  have hP : va_P G vwCl [(aIn, .inr (3, [.int 0, .int ins_op, .int ins_d, .int ins_a, .int ins_b, .int ins_u, .int ins_i, .int ins_j]))] H := hP
  have hD : va_D A [(aIn, .inr (3, [.int 0, .int ins_op, .int ins_d, .int ins_a, .int ins_b, .int ins_u, .int ins_i, .int ins_j]))] := hD
  exact hret H locs _ ls 0 dX3_setUnreadable_5 (by (first | exact rfl | (delta fX3_setUnreadable; exact rfl) | (unfold fX3_setUnreadable; dsimp only) | (unfold fX3_setUnreadable; simp only []))) trivial hP hD hS
def fX3_is (ins_traits : Int32) (p0 : Int32) : Int32 :=
  if (ins_traits &&& p0) = 0 then (0) else (1)
theorem lkX3_is_38 : Cond.fieldLink RX3 38 "TwinIssue$Instruction" "traits" "I" ∈ wsX3_is := by decide +kernel
theorem iwX3_is_X3 : ∀ w ∈ wsX30, w ∈ wsX3_is := fun _ h => List.mem_cons_of_mem _ (List.mem_append_right _ h)
set_option maxHeartbeats 4000000 in
set_option maxRecDepth 100000 in
theorem mX3_is (l : Launch) (G : va_G) (cI cB cP : ClassId) (aIn : Nat) (ins_traits : Int32) (ins_op : Int32) (ins_d : Int32) (ins_a : Int32) (ins_b : Int32) (ins_u : Int32) (ins_i : Int32) (ins_j : Int32) (sz : Nat) (p0 : Int32) : kMi (S := Unit) l yX3_is wsX3_is ({ frames := 0, cells := 0, slots := 0, locals := 0 }) [.ref aIn, .int p0] G (kTY cI cB cP) sz [(aIn, .inr (3, [.int ins_traits, .int ins_op, .int ins_d, .int ins_a, .int ins_b, .int ins_u, .int ins_i, .int ins_j]))] (fX3_is ins_traits p0, ()) (fun r _ => isB r) (fun _ => [(aIn, .inr (3, [.int ins_traits, .int ins_op, .int ins_d, .int ins_a, .int ins_b, .int ins_u, .int ins_i, .int ins_j]))]) := by
  refine k_ofz (cc := cX3_is) (maxL := 2) (by decide) rfl (Nat.le_of_ble_eq_true rfl) ?_
  intro p e s m args below meth c A ls Q H locs hx hb hml hown hts hin hK hP hD hA hS hl hret
  have hown : s.vm.findClass RX3 = some m.cls := hown
  have hl : lv_has ls 2 [(0, .ref aIn), (1, .int p0)] := hl
  refine lv_aload_n hx hb dX3_is_0 rfl (lv_at hl 0 rfl) ?_
  refine va_get (D := G) (ci := 3) (v := .int ins_traits) (C := RX3) (T := TX3) (N := 8) hx hb hts iwX3_is_X3 hown hK hP 0 rfl rfl 0 (by decide) (hts _ lkX3_is_38) (fun _ h9 => h9) rfl dX3_is_1 ?_
  refine lv_iload_n hx hb dX3_is_4 rfl (lv_at hl 1 rfl) ?_
  refine lv_iand hx hb dX3_is_5 ?_
  refine lv_if_eq (tgt := 13) hx hb dX3_is_6 (by decide) (fun c1 => ?_) (fun c1 => ?_)
  · skip
    refine lv_iconst (v := 0) hx hb dX3_is_13 (by decide) ?_
    exact hret H locs _ ls 0 () dX3_is_14 (by exact congrArg (fun x => (x, ())) (((if_pos c1).trans (rfl))).symm) (Or.inl rfl) (Or.inl rfl) hP hD hS
  · skip
    refine lv_iconst (v := 1) hx hb dX3_is_9 (by decide) ?_
    refine lv_goto (tgt := 14) hx hb dX3_is_10 (by decide) ?_
    exact hret H locs _ ls 1 () dX3_is_14 (by exact congrArg (fun x => (x, ())) (((if_neg c1).trans (rfl))).symm) (Or.inr rfl) (Or.inr rfl) hP hD hS
def fX3_writtenRegister (ins_traits : Int32) (ins_d : Int32) : Int32 :=
  (let z1 := (fX3_is ins_traits 64, ()); if z1.1 = 0 then ((let z2 := (fX3_is ins_traits 32, ()); if z2.1 = 0 then (0) else (ins_d))) else (31))
theorem lkX3_writtenRegister_15 : Cond.fieldLink RX3 15 "TwinIssue$Instruction" "d" "I" ∈ wsX3_writtenRegister := by decide +kernel
theorem iwX3_writtenRegister_X3 : ∀ w ∈ wsX30, w ∈ wsX3_writtenRegister := fun _ h => List.mem_cons_of_mem _ (List.mem_append_right _ h)
set_option maxHeartbeats 4000000 in
set_option maxRecDepth 100000 in
theorem mX3_writtenRegister (l : Launch) (G : va_G) (cI cB cP : ClassId) (aIn : Nat) (ins_traits : Int32) (ins_op : Int32) (ins_d : Int32) (ins_a : Int32) (ins_b : Int32) (ins_u : Int32) (ins_i : Int32) (ins_j : Int32) (sz : Nat) : kMi (S := Unit) l yX3_writtenRegister wsX3_writtenRegister ({ frames := 1, cells := 0, slots := 0, locals := 21 }) [.ref aIn] G (kTY cI cB cP) sz [(aIn, .inr (3, [.int ins_traits, .int ins_op, .int ins_d, .int ins_a, .int ins_b, .int ins_u, .int ins_i, .int ins_j]))] (fX3_writtenRegister ins_traits ins_d, ()) (fun _ _ => True) (fun _ => [(aIn, .inr (3, [.int ins_traits, .int ins_op, .int ins_d, .int ins_a, .int ins_b, .int ins_u, .int ins_i, .int ins_j]))]) := by
  refine k_ofi (cc := cX3_writtenRegister) (maxL := 1) (by decide) rfl (Nat.le_of_ble_eq_true rfl) ?_
  intro p e s m args below meth c A ls Q H locs hx hb hml hown hts hin hK hP hD hA hS hl hret
  have hown : s.vm.findClass RX3 = some m.cls := hown
  have hl : lv_has ls 1 [(0, .ref aIn)] := hl
  refine lv_aload_n hx hb dX3_writtenRegister_0 rfl (lv_at hl 0 rfl) ?_
  refine lv_bipush (v := 64) hx hb dX3_writtenRegister_1 (by decide) ?_
  refine k_iV (As := [.int 64]) (rest := []) (wc := [(aIn, .inr (3, [.int ins_traits, .int ins_op, .int ins_d, .int ins_a, .int ins_b, .int ins_u, .int ins_i, .int ins_j]))]) (wr := []) ⟨hx, hb, hml, hown, hts⟩ hK hP hD hS hA [0] [] rfl rfl rfl rfl (by decide) (mX3_is l G cI cB cP aIn ins_traits ins_op ins_d ins_a ins_b ins_u ins_i ins_j H.size 64 ) (cwV 1 hts gX3_writtenRegister_X3_is rfl rfl rfl (by decide +kernel) ⟨Nat.le_of_ble_eq_true rfl, Nat.le_of_ble_eq_true rfl⟩) 0 3 rfl rfl rfl rfl hl.1 rfl (Nat.le_of_ble_eq_true rfl) dX3_writtenRegister_3 ⟨Nat.le_of_ble_eq_true rfl, Nat.le_of_ble_eq_true rfl⟩ (fun z1 H locs hz1 hEz1 hP hD hS => ?_)
  have hP : va_P G vwCl [(aIn, .inr (3, [.int ins_traits, .int ins_op, .int ins_d, .int ins_a, .int ins_b, .int ins_u, .int ins_i, .int ins_j]))] H := hP
  have hD : va_D A [(aIn, .inr (3, [.int ins_traits, .int ins_op, .int ins_d, .int ins_a, .int ins_b, .int ins_u, .int ins_i, .int ins_j]))] := hD
  refine lv_if_eq (tgt := 12) hx hb dX3_writtenRegister_6 (by decide) (fun c1 => ?_) (fun c1 => ?_)
  · skip
    refine lv_aload_n hx hb dX3_writtenRegister_12 rfl (lv_at hl 0 rfl) ?_
    refine lv_bipush (v := 32) hx hb dX3_writtenRegister_13 (by decide) ?_
    refine k_iV (As := [.int 32]) (rest := []) (wc := [(aIn, .inr (3, [.int ins_traits, .int ins_op, .int ins_d, .int ins_a, .int ins_b, .int ins_u, .int ins_i, .int ins_j]))]) (wr := []) ⟨hx, hb, hml, hown, hts⟩ hK hP hD hS hA [0] [] rfl rfl rfl rfl (by decide) (mX3_is l G cI cB cP aIn ins_traits ins_op ins_d ins_a ins_b ins_u ins_i ins_j H.size 32 ) (cwV 1 hts gX3_writtenRegister_X3_is rfl rfl rfl (by decide +kernel) ⟨Nat.le_of_ble_eq_true rfl, Nat.le_of_ble_eq_true rfl⟩) 0 3 rfl rfl rfl rfl hl.1 rfl (Nat.le_of_ble_eq_true rfl) dX3_writtenRegister_15 ⟨Nat.le_of_ble_eq_true rfl, Nat.le_of_ble_eq_true rfl⟩ (fun z2 H locs hz2 hEz2 hP hD hS => ?_)
    have hP : va_P G vwCl [(aIn, .inr (3, [.int ins_traits, .int ins_op, .int ins_d, .int ins_a, .int ins_b, .int ins_u, .int ins_i, .int ins_j]))] H := hP
    have hD : va_D A [(aIn, .inr (3, [.int ins_traits, .int ins_op, .int ins_d, .int ins_a, .int ins_b, .int ins_u, .int ins_i, .int ins_j]))] := hD
    refine lv_if_eq (tgt := 28) hx hb dX3_writtenRegister_18 (by decide) (fun c2 => ?_) (fun c2 => ?_)
    · skip
      refine lv_iconst (v := 0) hx hb dX3_writtenRegister_28 (by decide) ?_
      exact hret H locs _ ls 0 () dX3_writtenRegister_29 (by clear hP hD hS hl; replace hz2 := hz2.symm; subst hz2; replace hz1 := hz1.symm; subst hz1; exact congrArg (fun x => (x, ())) (((if_pos c1).trans ((if_pos c2).trans (rfl)))).symm) trivial hP hD hS
    · skip
      refine lv_aload_n hx hb dX3_writtenRegister_21 rfl (lv_at hl 0 rfl) ?_
      refine va_get (D := G) (ci := 3) (v := .int ins_d) (C := RX3) (T := TX3) (N := 8) hx hb hts iwX3_writtenRegister_X3 hown hK hP 0 rfl rfl 2 (by decide) (hts _ lkX3_writtenRegister_15) (fun _ h9 => h9) rfl dX3_writtenRegister_22 ?_
      refine lv_goto (tgt := 29) hx hb dX3_writtenRegister_25 (by decide) ?_
      exact hret H locs _ ls ins_d () dX3_writtenRegister_29 (by clear hP hD hS hl; replace hz2 := hz2.symm; subst hz2; replace hz1 := hz1.symm; subst hz1; exact congrArg (fun x => (x, ())) (((if_pos c1).trans ((if_neg c2).trans (rfl)))).symm) trivial hP hD hS
  · skip
    refine lv_bipush (v := 31) hx hb dX3_writtenRegister_9 (by decide) ?_
    exact hret H locs _ ls 31 () dX3_writtenRegister_11 (by clear hP hD hS hl; replace hz1 := hz1.symm; subst hz1; exact congrArg (fun x => (x, ())) (((if_neg c1).trans (rfl))).symm) trivial hP hD hS
def fX3_isForeseenToGo (ins_op : Int32) (ins_j : Int32) : Int32 :=
  if ins_op ≤ 21 then (1) else (if 23 < ins_op then (0) else (if 0 ≤ ins_j then (0) else (1)))
theorem lkX3_isForeseenToGo_9 : Cond.fieldLink RX3 9 "TwinIssue$Instruction" "op" "I" ∈ wsX3_isForeseenToGo := by decide +kernel
theorem lkX3_isForeseenToGo_31 : Cond.fieldLink RX3 31 "TwinIssue$Instruction" "j" "I" ∈ wsX3_isForeseenToGo := by decide +kernel
theorem iwX3_isForeseenToGo_X3 : ∀ w ∈ wsX30, w ∈ wsX3_isForeseenToGo := fun _ h => List.mem_cons_of_mem _ (List.mem_append_right _ h)
set_option maxHeartbeats 4000000 in
set_option maxRecDepth 100000 in
theorem mX3_isForeseenToGo (l : Launch) (G : va_G) (cI cB cP : ClassId) (aIn : Nat) (ins_traits : Int32) (ins_op : Int32) (ins_d : Int32) (ins_a : Int32) (ins_b : Int32) (ins_u : Int32) (ins_i : Int32) (ins_j : Int32) (sz : Nat) : kMi (S := Unit) l yX3_isForeseenToGo wsX3_isForeseenToGo ({ frames := 0, cells := 0, slots := 0, locals := 0 }) [.ref aIn] G (kTY cI cB cP) sz [(aIn, .inr (3, [.int ins_traits, .int ins_op, .int ins_d, .int ins_a, .int ins_b, .int ins_u, .int ins_i, .int ins_j]))] (fX3_isForeseenToGo ins_op ins_j, ()) (fun r _ => isB r) (fun _ => [(aIn, .inr (3, [.int ins_traits, .int ins_op, .int ins_d, .int ins_a, .int ins_b, .int ins_u, .int ins_i, .int ins_j]))]) := by
  refine k_ofz (cc := cX3_isForeseenToGo) (maxL := 1) (by decide) rfl (Nat.le_of_ble_eq_true rfl) ?_
  intro p e s m args below meth c A ls Q H locs hx hb hml hown hts hin hK hP hD hA hS hl hret
  have hown : s.vm.findClass RX3 = some m.cls := hown
  have hl : lv_has ls 1 [(0, .ref aIn)] := hl
  refine lv_aload_n hx hb dX3_isForeseenToGo_0 rfl (lv_at hl 0 rfl) ?_
  refine va_get (D := G) (ci := 3) (v := .int ins_op) (C := RX3) (T := TX3) (N := 8) hx hb hts iwX3_isForeseenToGo_X3 hown hK hP 0 rfl rfl 1 (by decide) (hts _ lkX3_isForeseenToGo_9) (fun _ h9 => h9) rfl dX3_isForeseenToGo_1 ?_
  refine lv_bipush (v := 21) hx hb dX3_isForeseenToGo_4 (by decide) ?_
  refine lv_icmp_le (tgt := 25) hx hb dX3_isForeseenToGo_6 (by decide) (fun c1 => ?_) (fun c1 => ?_)
  · skip
    refine lv_iconst (v := 1) hx hb dX3_isForeseenToGo_25 (by decide) ?_
    refine lv_goto (tgt := 30) hx hb dX3_isForeseenToGo_26 (by decide) ?_
    exact hret H locs _ ls 1 () dX3_isForeseenToGo_30 (by exact congrArg (fun x => (x, ())) (((if_pos c1).trans (rfl))).symm) (Or.inr rfl) (Or.inr rfl) hP hD hS
  · skip
    refine lv_aload_n hx hb dX3_isForeseenToGo_9 rfl (lv_at hl 0 rfl) ?_
    refine va_get (D := G) (ci := 3) (v := .int ins_op) (C := RX3) (T := TX3) (N := 8) hx hb hts iwX3_isForeseenToGo_X3 hown hK hP 0 rfl rfl 1 (by decide) (hts _ lkX3_isForeseenToGo_9) (fun _ h9 => h9) rfl dX3_isForeseenToGo_10 ?_
    refine lv_bipush (v := 23) hx hb dX3_isForeseenToGo_13 (by decide) ?_
    refine lv_icmp_gt (tgt := 29) hx hb dX3_isForeseenToGo_15 (by decide) (fun c2 => ?_) (fun c2 => ?_)
    · skip
      refine lv_iconst (v := 0) hx hb dX3_isForeseenToGo_29 (by decide) ?_
      exact hret H locs _ ls 0 () dX3_isForeseenToGo_30 (by exact congrArg (fun x => (x, ())) (((if_neg c1).trans ((if_pos c2).trans (rfl)))).symm) (Or.inl rfl) (Or.inl rfl) hP hD hS
    · skip
      refine lv_aload_n hx hb dX3_isForeseenToGo_18 rfl (lv_at hl 0 rfl) ?_
      refine va_get (D := G) (ci := 3) (v := .int ins_j) (C := RX3) (T := TX3) (N := 8) hx hb hts iwX3_isForeseenToGo_X3 hown hK hP 0 rfl rfl 7 (by decide) (hts _ lkX3_isForeseenToGo_31) (fun _ h9 => h9) rfl dX3_isForeseenToGo_19 ?_
      refine lv_if_ge (tgt := 29) hx hb dX3_isForeseenToGo_22 (by decide) (fun c3 => ?_) (fun c3 => ?_)
      · skip
        refine lv_iconst (v := 0) hx hb dX3_isForeseenToGo_29 (by decide) ?_
        exact hret H locs _ ls 0 () dX3_isForeseenToGo_30 (by exact congrArg (fun x => (x, ())) (((if_neg c1).trans ((if_neg c2).trans ((if_pos c3).trans (rfl))))).symm) (Or.inl rfl) (Or.inl rfl) hP hD hS
      · skip
        refine lv_iconst (v := 1) hx hb dX3_isForeseenToGo_25 (by decide) ?_
        refine lv_goto (tgt := 30) hx hb dX3_isForeseenToGo_26 (by decide) ?_
        exact hret H locs _ ls 1 () dX3_isForeseenToGo_30 (by exact congrArg (fun x => (x, ())) (((if_neg c1).trans ((if_neg c2).trans ((if_neg c3).trans (rfl))))).symm) (Or.inr rfl) (Or.inr rfl) hP hD hS

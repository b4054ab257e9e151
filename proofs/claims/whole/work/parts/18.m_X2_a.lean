def fX2_isIllegal (st_inSlot : Int32) (ins_traits : Int32) (ins_op : Int32) (ef_sr : Int32) : Int32 :=
  (let z1 := (fX3_is ins_traits 131072, ()); if z1.1 = 0 then ((let z2 := (fX3_is ins_traits 262144, ()); if z2.1 = 0 then (if st_inSlot = 0 then (0) else ((let z3 := (fX3_is ins_traits 8192, ()); if z3.1 = 0 then (if ins_op = 33 then (1) else (0)) else (1)))) else (if (ef_sr &&& 1) = 0 then (1) else (if st_inSlot = 0 then (0) else ((let z4 := (fX3_is ins_traits 8192, ()); if z4.1 = 0 then (if ins_op = 33 then (1) else (0)) else (1))))))) else (1))
theorem lkX2_isIllegal_21 : Cond.fieldLink RX2 21 "TwinIssue$Executor" "instruction" "LTwinIssue$Instruction;" ∈ wsX2_isIllegal := by decide +kernel
theorem lkX2_isIllegal_28 : Cond.fieldLink RX2 28 "TwinIssue$Executor" "effect" "LTwinIssue$Effect;" ∈ wsX2_isIllegal := by decide +kernel
theorem lkX2_isIllegal_37 : Cond.fieldLink RX2 37 "TwinIssue$Executor" "state" "LTwinIssue$State;" ∈ wsX2_isIllegal := by decide +kernel
theorem lkX2_isIllegal_137 : Cond.constant RX2 137 (131072) ∈ wsX2_isIllegal := by decide +kernel
theorem lkX2_isIllegal_138 : Cond.constant RX2 138 (262144) ∈ wsX2_isIllegal := by decide +kernel
theorem lkX2_isIllegal_139 : Cond.fieldLink RX2 139 "TwinIssue$Effect" "sr" "I" ∈ wsX2_isIllegal := by decide +kernel
theorem lkX2_isIllegal_140 : Cond.fieldLink RX2 140 "TwinIssue$State" "inSlot" "Z" ∈ wsX2_isIllegal := by decide +kernel
theorem lkX2_isIllegal_144 : Cond.fieldLink RX2 144 "TwinIssue$Instruction" "op" "I" ∈ wsX2_isIllegal := by decide +kernel
theorem iwX2_isIllegal_X0 : ∀ w ∈ wsX00, w ∈ wsX2_isIllegal := fun _ h => List.mem_cons_of_mem _ (List.mem_append_left _ (List.mem_append_left _ (List.mem_append_right _ h)))
theorem iwX2_isIllegal_X2 : ∀ w ∈ wsX20, w ∈ wsX2_isIllegal := fun _ h => List.mem_cons_of_mem _ (List.mem_append_left _ (List.mem_append_left _ (List.mem_append_left _ (List.mem_append_right _ h))))
theorem iwX2_isIllegal_X3 : ∀ w ∈ wsX30, w ∈ wsX2_isIllegal := fun _ h => List.mem_cons_of_mem _ (List.mem_append_right _ h)
theorem iwX2_isIllegal_X9 : ∀ w ∈ wsX90, w ∈ wsX2_isIllegal := fun _ h => List.mem_cons_of_mem _ (List.mem_append_left _ (List.mem_append_right _ h))
set_option maxHeartbeats 4000000 in
set_option maxRecDepth 100000 in
theorem mX2_isIllegal (l : Launch) (G : va_G) (cI cB cP : ClassId) (aEx aMe aSt aSp aIn aEf aRg : Nat) (st_pc : Int32) (st_inSlot : Int32) (st_branchAt : Int32) (st_target : Int32) (ins_traits : Int32) (ins_op : Int32) (ins_d : Int32) (ins_a : Int32) (ins_b : Int32) (ins_u : Int32) (ins_i : Int32) (ins_j : Int32) (ef_exception : Int32) (ef_hasAddress : Int32) (ef_address : Int32) (ef_value : Int32) (ef_size : Int32) (ef_place : Int32) (ef_stored : Int32) (ef_sr : Int32) (ef_sum : Int64) (ef_goes : Int32) (ef_target : Int32) (sz : Nat) : kMi (S := Unit) l yX2_isIllegal wsX2_isIllegal ({ frames := 1, cells := 0, slots := 0, locals := 21 }) [.ref aEx] G (kTY cI cB cP) sz [(aEx, .inr (2, [.ref aMe, .ref aSt, .ref aIn, .ref aEf])), (aSt, .inr (9, [.ref aRg, .ref aSp, .int st_pc, .int st_inSlot, .int st_branchAt, .int st_target])), (aIn, .inr (3, [.int ins_traits, .int ins_op, .int ins_d, .int ins_a, .int ins_b, .int ins_u, .int ins_i, .int ins_j])), (aEf, .inr (0, [.int ef_exception, .int ef_hasAddress, .int ef_address, .int ef_value, .int ef_size, .int ef_place, .int ef_stored, .int ef_sr, .long ef_sum, .int ef_goes, .int ef_target]))] (fX2_isIllegal st_inSlot ins_traits ins_op ef_sr, ()) (fun r _ => isB r) (fun _ => [(aEx, .inr (2, [.ref aMe, .ref aSt, .ref aIn, .ref aEf])), (aSt, .inr (9, [.ref aRg, .ref aSp, .int st_pc, .int st_inSlot, .int st_branchAt, .int st_target])), (aIn, .inr (3, [.int ins_traits, .int ins_op, .int ins_d, .int ins_a, .int ins_b, .int ins_u, .int ins_i, .int ins_j])), (aEf, .inr (0, [.int ef_exception, .int ef_hasAddress, .int ef_address, .int ef_value, .int ef_size, .int ef_place, .int ef_stored, .int ef_sr, .long ef_sum, .int ef_goes, .int ef_target]))]) := by
  refine k_ofz (cc := cX2_isIllegal) (maxL := 1) (by decide) rfl (Nat.le_of_ble_eq_true rfl) ?_
  intro p e s m args below meth c A ls Q H locs hx hb hml hown hts hin hK hP hD hA hS hl hret
  have hown : s.vm.findClass RX2 = some m.cls := hown
  have hl : lv_has ls 1 [(0, .ref aEx)] := hl
  refine lv_aload_n hx hb dX2_isIllegal_0 rfl (lv_at hl 0 rfl) ?_
  refine va_get (D := G) (ci := 2) (v := .ref aIn) (C := RX2) (T := TX2) (N := 4) hx hb hts iwX2_isIllegal_X2 hown hK hP 0 rfl rfl 2 (by decide) (hts _ lkX2_isIllegal_21) (fun _ h9 => h9) rfl dX2_isIllegal_1 ?_
  refine lv_ldc (v := 131072) hx hb hown (hts _ lkX2_isIllegal_137) dX2_isIllegal_4 ?_
  refine k_iV (As := [.int 131072]) (rest := []) (wc := [(aIn, .inr (3, [.int ins_traits, .int ins_op, .int ins_d, .int ins_a, .int ins_b, .int ins_u, .int ins_i, .int ins_j]))]) (wr := [(aEx, .inr (2, [.ref aMe, .ref aSt, .ref aIn, .ref aEf])), (aSt, .inr (9, [.ref aRg, .ref aSp, .int st_pc, .int st_inSlot, .int st_branchAt, .int st_target])), (aEf, .inr (0, [.int ef_exception, .int ef_hasAddress, .int ef_address, .int ef_value, .int ef_size, .int ef_place, .int ef_stored, .int ef_sr, .long ef_sum, .int ef_goes, .int ef_target]))]) ⟨hx, hb, hml, hown, hts⟩ hK hP hD hS hA [2] [0, 1, 3] rfl rfl rfl rfl (by decide) (mX3_is l G cI cB cP aIn ins_traits ins_op ins_d ins_a ins_b ins_u ins_i ins_j H.size 131072 ) (cwV 1 hts gX2_isIllegal_X3_is rfl rfl rfl (by decide +kernel) ⟨Nat.le_of_ble_eq_true rfl, Nat.le_of_ble_eq_true rfl⟩) 2 3 rfl rfl rfl rfl hl.1 rfl (Nat.le_of_ble_eq_true rfl) dX2_isIllegal_6 ⟨Nat.le_of_ble_eq_true rfl, Nat.le_of_ble_eq_true rfl⟩ (fun z1 H locs hz1 hEz1 hP hD hS => ?_)
  have hP : va_P G vwCl [(aEx, .inr (2, [.ref aMe, .ref aSt, .ref aIn, .ref aEf])), (aSt, .inr (9, [.ref aRg, .ref aSp, .int st_pc, .int st_inSlot, .int st_branchAt, .int st_target])), (aEf, .inr (0, [.int ef_exception, .int ef_hasAddress, .int ef_address, .int ef_value, .int ef_size, .int ef_place, .int ef_stored, .int ef_sr, .long ef_sum, .int ef_goes, .int ef_target])), (aIn, .inr (3, [.int ins_traits, .int ins_op, .int ins_d, .int ins_a, .int ins_b, .int ins_u, .int ins_i, .int ins_j]))] H := hP
  have hD : va_D A [(aEx, .inr (2, [.ref aMe, .ref aSt, .ref aIn, .ref aEf])), (aSt, .inr (9, [.ref aRg, .ref aSp, .int st_pc, .int st_inSlot, .int st_branchAt, .int st_target])), (aEf, .inr (0, [.int ef_exception, .int ef_hasAddress, .int ef_address, .int ef_value, .int ef_size, .int ef_place, .int ef_stored, .int ef_sr, .long ef_sum, .int ef_goes, .int ef_target])), (aIn, .inr (3, [.int ins_traits, .int ins_op, .int ins_d, .int ins_a, .int ins_b, .int ins_u, .int ins_i, .int ins_j]))] := hD
  refine lv_if_eq (tgt := 14) hx hb dX2_isIllegal_9 (by decide) (fun c1 => ?_) (fun c1 => ?_)
  · skip
    refine lv_aload_n hx hb dX2_isIllegal_14 rfl (lv_at hl 0 rfl) ?_
    refine va_get (D := G) (ci := 2) (v := .ref aIn) (C := RX2) (T := TX2) (N := 4) hx hb hts iwX2_isIllegal_X2 hown hK hP 0 rfl rfl 2 (by decide) (hts _ lkX2_isIllegal_21) (fun _ h9 => h9) rfl dX2_isIllegal_15 ?_
    refine lv_ldc (v := 262144) hx hb hown (hts _ lkX2_isIllegal_138) dX2_isIllegal_18 ?_
    refine k_iV (As := [.int 262144]) (rest := []) (wc := [(aIn, .inr (3, [.int ins_traits, .int ins_op, .int ins_d, .int ins_a, .int ins_b, .int ins_u, .int ins_i, .int ins_j]))]) (wr := [(aEx, .inr (2, [.ref aMe, .ref aSt, .ref aIn, .ref aEf])), (aSt, .inr (9, [.ref aRg, .ref aSp, .int st_pc, .int st_inSlot, .int st_branchAt, .int st_target])), (aEf, .inr (0, [.int ef_exception, .int ef_hasAddress, .int ef_address, .int ef_value, .int ef_size, .int ef_place, .int ef_stored, .int ef_sr, .long ef_sum, .int ef_goes, .int ef_target]))]) ⟨hx, hb, hml, hown, hts⟩ hK hP hD hS hA [3] [0, 1, 2] rfl rfl rfl rfl (by decide) (mX3_is l G cI cB cP aIn ins_traits ins_op ins_d ins_a ins_b ins_u ins_i ins_j H.size 262144 ) (cwV 1 hts gX2_isIllegal_X3_is rfl rfl rfl (by decide +kernel) ⟨Nat.le_of_ble_eq_true rfl, Nat.le_of_ble_eq_true rfl⟩) 3 3 rfl rfl rfl rfl hl.1 rfl (Nat.le_of_ble_eq_true rfl) dX2_isIllegal_20 ⟨Nat.le_of_ble_eq_true rfl, Nat.le_of_ble_eq_true rfl⟩ (fun z2 H locs hz2 hEz2 hP hD hS => ?_)
    have hP : va_P G vwCl [(aEx, .inr (2, [.ref aMe, .ref aSt, .ref aIn, .ref aEf])), (aSt, .inr (9, [.ref aRg, .ref aSp, .int st_pc, .int st_inSlot, .int st_branchAt, .int st_target])), (aEf, .inr (0, [.int ef_exception, .int ef_hasAddress, .int ef_address, .int ef_value, .int ef_size, .int ef_place, .int ef_stored, .int ef_sr, .long ef_sum, .int ef_goes, .int ef_target])), (aIn, .inr (3, [.int ins_traits, .int ins_op, .int ins_d, .int ins_a, .int ins_b, .int ins_u, .int ins_i, .int ins_j]))] H := hP
    have hD : va_D A [(aEx, .inr (2, [.ref aMe, .ref aSt, .ref aIn, .ref aEf])), (aSt, .inr (9, [.ref aRg, .ref aSp, .int st_pc, .int st_inSlot, .int st_branchAt, .int st_target])), (aEf, .inr (0, [.int ef_exception, .int ef_hasAddress, .int ef_address, .int ef_value, .int ef_size, .int ef_place, .int ef_stored, .int ef_sr, .long ef_sum, .int ef_goes, .int ef_target])), (aIn, .inr (3, [.int ins_traits, .int ins_op, .int ins_d, .int ins_a, .int ins_b, .int ins_u, .int ins_i, .int ins_j]))] := hD
    refine lv_if_eq (tgt := 40) hx hb dX2_isIllegal_23 (by decide) (fun c2 => ?_) (fun c2 => ?_)
    · skip
      refine lv_aload_n hx hb dX2_isIllegal_40 rfl (lv_at hl 0 rfl) ?_
      refine va_get (D := G) (ci := 2) (v := .ref aSt) (C := RX2) (T := TX2) (N := 4) hx hb hts iwX2_isIllegal_X2 hown hK hP 0 rfl rfl 1 (by decide) (hts _ lkX2_isIllegal_37) (fun _ h9 => h9) rfl dX2_isIllegal_41 ?_
      refine va_get (D := G) (ci := 9) (v := .int st_inSlot) (C := RX9) (T := TX9) (N := 6) hx hb hts iwX2_isIllegal_X9 hown hK hP 1 rfl rfl 3 (by decide) (hts _ lkX2_isIllegal_140) (fun _ h9 => h9) rfl dX2_isIllegal_44 ?_
      refine lv_if_eq (tgt := 79) hx hb dX2_isIllegal_47 (by decide) (fun c3 => ?_) (fun c3 => ?_)
      · skip
        refine lv_iconst (v := 0) hx hb dX2_isIllegal_79 (by decide) ?_
        have hP := hP.sub (ws' := [(aEx, .inr (2, [.ref aMe, .ref aSt, .ref aIn, .ref aEf])), (aSt, .inr (9, [.ref aRg, .ref aSp, .int st_pc, .int st_inSlot, .int st_branchAt, .int st_target])), (aIn, .inr (3, [.int ins_traits, .int ins_op, .int ins_d, .int ins_a, .int ins_b, .int ins_u, .int ins_i, .int ins_j])), (aEf, .inr (0, [.int ef_exception, .int ef_hasAddress, .int ef_address, .int ef_value, .int ef_size, .int ef_place, .int ef_stored, .int ef_sr, .long ef_sum, .int ef_goes, .int ef_target]))]) [0, 1, 3, 2] rfl
        have hD := hD.sub (ws' := [(aEx, .inr (2, [.ref aMe, .ref aSt, .ref aIn, .ref aEf])), (aSt, .inr (9, [.ref aRg, .ref aSp, .int st_pc, .int st_inSlot, .int st_branchAt, .int st_target])), (aIn, .inr (3, [.int ins_traits, .int ins_op, .int ins_d, .int ins_a, .int ins_b, .int ins_u, .int ins_i, .int ins_j])), (aEf, .inr (0, [.int ef_exception, .int ef_hasAddress, .int ef_address, .int ef_value, .int ef_size, .int ef_place, .int ef_stored, .int ef_sr, .long ef_sum, .int ef_goes, .int ef_target]))]) [0, 1, 3, 2] (by decide) rfl
        exact hret H locs _ ls 0 () dX2_isIllegal_80 (by clear hP hD hS hl; replace hz2 := hz2.symm; subst hz2; replace hz1 := hz1.symm; subst hz1; exact congrArg (fun x => (x, ())) (((if_pos c1).trans ((if_pos c2).trans ((if_pos c3).trans (rfl))))).symm) (Or.inl rfl) (Or.inl rfl) hP hD hS
      · skip
        refine lv_aload_n hx hb dX2_isIllegal_50 rfl (lv_at hl 0 rfl) ?_
        refine va_get (D := G) (ci := 2) (v := .ref aIn) (C := RX2) (T := TX2) (N := 4) hx hb hts iwX2_isIllegal_X2 hown hK hP 0 rfl rfl 2 (by decide) (hts _ lkX2_isIllegal_21) (fun _ h9 => h9) rfl dX2_isIllegal_51 ?_
        refine lv_sipush (v := 8192) hx hb dX2_isIllegal_54 (by decide) ?_
        refine k_iV (As := [.int 8192]) (rest := []) (wc := [(aIn, .inr (3, [.int ins_traits, .int ins_op, .int ins_d, .int ins_a, .int ins_b, .int ins_u, .int ins_i, .int ins_j]))]) (wr := [(aEx, .inr (2, [.ref aMe, .ref aSt, .ref aIn, .ref aEf])), (aSt, .inr (9, [.ref aRg, .ref aSp, .int st_pc, .int st_inSlot, .int st_branchAt, .int st_target])), (aEf, .inr (0, [.int ef_exception, .int ef_hasAddress, .int ef_address, .int ef_value, .int ef_size, .int ef_place, .int ef_stored, .int ef_sr, .long ef_sum, .int ef_goes, .int ef_target]))]) ⟨hx, hb, hml, hown, hts⟩ hK hP hD hS hA [3] [0, 1, 2] rfl rfl rfl rfl (by decide) (mX3_is l G cI cB cP aIn ins_traits ins_op ins_d ins_a ins_b ins_u ins_i ins_j H.size 8192 ) (cwV 1 hts gX2_isIllegal_X3_is rfl rfl rfl (by decide +kernel) ⟨Nat.le_of_ble_eq_true rfl, Nat.le_of_ble_eq_true rfl⟩) 3 3 rfl rfl rfl rfl hl.1 rfl (Nat.le_of_ble_eq_true rfl) dX2_isIllegal_57 ⟨Nat.le_of_ble_eq_true rfl, Nat.le_of_ble_eq_true rfl⟩ (fun z3 H locs hz3 hEz3 hP hD hS => ?_)
        have hP : va_P G vwCl [(aEx, .inr (2, [.ref aMe, .ref aSt, .ref aIn, .ref aEf])), (aSt, .inr (9, [.ref aRg, .ref aSp, .int st_pc, .int st_inSlot, .int st_branchAt, .int st_target])), (aEf, .inr (0, [.int ef_exception, .int ef_hasAddress, .int ef_address, .int ef_value, .int ef_size, .int ef_place, .int ef_stored, .int ef_sr, .long ef_sum, .int ef_goes, .int ef_target])), (aIn, .inr (3, [.int ins_traits, .int ins_op, .int ins_d, .int ins_a, .int ins_b, .int ins_u, .int ins_i, .int ins_j]))] H := hP
        have hD : va_D A [(aEx, .inr (2, [.ref aMe, .ref aSt, .ref aIn, .ref aEf])), (aSt, .inr (9, [.ref aRg, .ref aSp, .int st_pc, .int st_inSlot, .int st_branchAt, .int st_target])), (aEf, .inr (0, [.int ef_exception, .int ef_hasAddress, .int ef_address, .int ef_value, .int ef_size, .int ef_place, .int ef_stored, .int ef_sr, .long ef_sum, .int ef_goes, .int ef_target])), (aIn, .inr (3, [.int ins_traits, .int ins_op, .int ins_d, .int ins_a, .int ins_b, .int ins_u, .int ins_i, .int ins_j]))] := hD
        refine lv_if_ne (tgt := 75) hx hb dX2_isIllegal_60 (by decide) (fun c4 => ?_) (fun c4 => ?_)
        · skip
          refine lv_iconst (v := 1) hx hb dX2_isIllegal_75 (by decide) ?_
          refine lv_goto (tgt := 80) hx hb dX2_isIllegal_76 (by decide) ?_
          have hP := hP.sub (ws' := [(aEx, .inr (2, [.ref aMe, .ref aSt, .ref aIn, .ref aEf])), (aSt, .inr (9, [.ref aRg, .ref aSp, .int st_pc, .int st_inSlot, .int st_branchAt, .int st_target])), (aIn, .inr (3, [.int ins_traits, .int ins_op, .int ins_d, .int ins_a, .int ins_b, .int ins_u, .int ins_i, .int ins_j])), (aEf, .inr (0, [.int ef_exception, .int ef_hasAddress, .int ef_address, .int ef_value, .int ef_size, .int ef_place, .int ef_stored, .int ef_sr, .long ef_sum, .int ef_goes, .int ef_target]))]) [0, 1, 3, 2] rfl
          have hD := hD.sub (ws' := [(aEx, .inr (2, [.ref aMe, .ref aSt, .ref aIn, .ref aEf])), (aSt, .inr (9, [.ref aRg, .ref aSp, .int st_pc, .int st_inSlot, .int st_branchAt, .int st_target])), (aIn, .inr (3, [.int ins_traits, .int ins_op, .int ins_d, .int ins_a, .int ins_b, .int ins_u, .int ins_i, .int ins_j])), (aEf, .inr (0, [.int ef_exception, .int ef_hasAddress, .int ef_address, .int ef_value, .int ef_size, .int ef_place, .int ef_stored, .int ef_sr, .long ef_sum, .int ef_goes, .int ef_target]))]) [0, 1, 3, 2] (by decide) rfl
          exact hret H locs _ ls 1 () dX2_isIllegal_80 (by clear hP hD hS hl; replace hz3 := hz3.symm; subst hz3; replace hz2 := hz2.symm; subst hz2; replace hz1 := hz1.symm; subst hz1; exact congrArg (fun x => (x, ())) (((if_pos c1).trans ((if_pos c2).trans ((if_neg c3).trans ((if_neg c4).trans (rfl)))))).symm) (Or.inr rfl) (Or.inr rfl) hP hD hS
        · skip
          refine lv_aload_n hx hb dX2_isIllegal_63 rfl (lv_at hl 0 rfl) ?_
          refine va_get (D := G) (ci := 2) (v := .ref aIn) (C := RX2) (T := TX2) (N := 4) hx hb hts iwX2_isIllegal_X2 hown hK hP 0 rfl rfl 2 (by decide) (hts _ lkX2_isIllegal_21) (fun _ h9 => h9) rfl dX2_isIllegal_64 ?_
          refine va_get (D := G) (ci := 3) (v := .int ins_op) (C := RX3) (T := TX3) (N := 8) hx hb hts iwX2_isIllegal_X3 hown hK hP 3 rfl rfl 1 (by decide) (hts _ lkX2_isIllegal_144) (fun _ h9 => h9) rfl dX2_isIllegal_67 ?_
          refine lv_bipush (v := 33) hx hb dX2_isIllegal_70 (by decide) ?_
          refine lv_icmp_ne (tgt := 79) hx hb dX2_isIllegal_72 (by decide) (fun c5 => ?_) (fun c5 => ?_)
          · skip
            refine lv_iconst (v := 0) hx hb dX2_isIllegal_79 (by decide) ?_
            have hP := hP.sub (ws' := [(aEx, .inr (2, [.ref aMe, .ref aSt, .ref aIn, .ref aEf])), (aSt, .inr (9, [.ref aRg, .ref aSp, .int st_pc, .int st_inSlot, .int st_branchAt, .int st_target])), (aIn, .inr (3, [.int ins_traits, .int ins_op, .int ins_d, .int ins_a, .int ins_b, .int ins_u, .int ins_i, .int ins_j])), (aEf, .inr (0, [.int ef_exception, .int ef_hasAddress, .int ef_address, .int ef_value, .int ef_size, .int ef_place, .int ef_stored, .int ef_sr, .long ef_sum, .int ef_goes, .int ef_target]))]) [0, 1, 3, 2] rfl
            have hD := hD.sub (ws' := [(aEx, .inr (2, [.ref aMe, .ref aSt, .ref aIn, .ref aEf])), (aSt, .inr (9, [.ref aRg, .ref aSp, .int st_pc, .int st_inSlot, .int st_branchAt, .int st_target])), (aIn, .inr (3, [.int ins_traits, .int ins_op, .int ins_d, .int ins_a, .int ins_b, .int ins_u, .int ins_i, .int ins_j])), (aEf, .inr (0, [.int ef_exception, .int ef_hasAddress, .int ef_address, .int ef_value, .int ef_size, .int ef_place, .int ef_stored, .int ef_sr, .long ef_sum, .int ef_goes, .int ef_target]))]) [0, 1, 3, 2] (by decide) rfl
            exact hret H locs _ ls 0 () dX2_isIllegal_80 (by clear hP hD hS hl; replace hz3 := hz3.symm; subst hz3; replace hz2 := hz2.symm; subst hz2; replace hz1 := hz1.symm; subst hz1; exact congrArg (fun x => (x, ())) (((if_pos c1).trans ((if_pos c2).trans ((if_neg c3).trans ((if_pos c4).trans ((if_neg c5).trans (rfl))))))).symm) (Or.inl rfl) (Or.inl rfl) hP hD hS
          · skip
            refine lv_iconst (v := 1) hx hb dX2_isIllegal_75 (by decide) ?_
            refine lv_goto (tgt := 80) hx hb dX2_isIllegal_76 (by decide) ?_
            have hP := hP.sub (ws' := [(aEx, .inr (2, [.ref aMe, .ref aSt, .ref aIn, .ref aEf])), (aSt, .inr (9, [.ref aRg, .ref aSp, .int st_pc, .int st_inSlot, .int st_branchAt, .int st_target])), (aIn, .inr (3, [.int ins_traits, .int ins_op, .int ins_d, .int ins_a, .int ins_b, .int ins_u, .int ins_i, .int ins_j])), (aEf, .inr (0, [.int ef_exception, .int ef_hasAddress, .int ef_address, .int ef_value, .int ef_size, .int ef_place, .int ef_stored, .int ef_sr, .long ef_sum, .int ef_goes, .int ef_target]))]) [0, 1, 3, 2] rfl
            have hD := hD.sub (ws' := [(aEx, .inr (2, [.ref aMe, .ref aSt, .ref aIn, .ref aEf])), (aSt, .inr (9, [.ref aRg, .ref aSp, .int st_pc, .int st_inSlot, .int st_branchAt, .int st_target])), (aIn, .inr (3, [.int ins_traits, .int ins_op, .int ins_d, .int ins_a, .int ins_b, .int ins_u, .int ins_i, .int ins_j])), (aEf, .inr (0, [.int ef_exception, .int ef_hasAddress, .int ef_address, .int ef_value, .int ef_size, .int ef_place, .int ef_stored, .int ef_sr, .long ef_sum, .int ef_goes, .int ef_target]))]) [0, 1, 3, 2] (by decide) rfl
            exact hret H locs _ ls 1 () dX2_isIllegal_80 (by clear hP hD hS hl; replace hz3 := hz3.symm; subst hz3; replace hz2 := hz2.symm; subst hz2; replace hz1 := hz1.symm; subst hz1; exact congrArg (fun x => (x, ())) (((if_pos c1).trans ((if_pos c2).trans ((if_neg c3).trans ((if_pos c4).trans ((if_pos c5).trans (rfl))))))).symm) (Or.inr rfl) (Or.inr rfl) hP hD hS
    · skip
      refine lv_aload_n hx hb dX2_isIllegal_26 rfl (lv_at hl 0 rfl) ?_
      refine va_get (D := G) (ci := 2) (v := .ref aEf) (C := RX2) (T := TX2) (N := 4) hx hb hts iwX2_isIllegal_X2 hown hK hP 0 rfl rfl 3 (by decide) (hts _ lkX2_isIllegal_28) (fun _ h9 => h9) rfl dX2_isIllegal_27 ?_
      refine va_get (D := G) (ci := 0) (v := .int ef_sr) (C := RX0) (T := TX0) (N := 11) hx hb hts iwX2_isIllegal_X0 hown hK hP 2 rfl rfl 7 (by decide) (hts _ lkX2_isIllegal_139) (fun _ h9 => h9) rfl dX2_isIllegal_30 ?_
      refine lv_iconst (v := 1) hx hb dX2_isIllegal_33 (by decide) ?_
      refine lv_iand hx hb dX2_isIllegal_34 ?_
      refine lv_if_ne (tgt := 40) hx hb dX2_isIllegal_35 (by decide) (fun c6 => ?_) (fun c6 => ?_)
      · skip
        refine lv_aload_n hx hb dX2_isIllegal_40 rfl (lv_at hl 0 rfl) ?_
        refine va_get (D := G) (ci := 2) (v := .ref aSt) (C := RX2) (T := TX2) (N := 4) hx hb hts iwX2_isIllegal_X2 hown hK hP 0 rfl rfl 1 (by decide) (hts _ lkX2_isIllegal_37) (fun _ h9 => h9) rfl dX2_isIllegal_41 ?_
        refine va_get (D := G) (ci := 9) (v := .int st_inSlot) (C := RX9) (T := TX9) (N := 6) hx hb hts iwX2_isIllegal_X9 hown hK hP 1 rfl rfl 3 (by decide) (hts _ lkX2_isIllegal_140) (fun _ h9 => h9) rfl dX2_isIllegal_44 ?_
        refine lv_if_eq (tgt := 79) hx hb dX2_isIllegal_47 (by decide) (fun c7 => ?_) (fun c7 => ?_)
        · skip
          refine lv_iconst (v := 0) hx hb dX2_isIllegal_79 (by decide) ?_
          have hP := hP.sub (ws' := [(aEx, .inr (2, [.ref aMe, .ref aSt, .ref aIn, .ref aEf])), (aSt, .inr (9, [.ref aRg, .ref aSp, .int st_pc, .int st_inSlot, .int st_branchAt, .int st_target])), (aIn, .inr (3, [.int ins_traits, .int ins_op, .int ins_d, .int ins_a, .int ins_b, .int ins_u, .int ins_i, .int ins_j])), (aEf, .inr (0, [.int ef_exception, .int ef_hasAddress, .int ef_address, .int ef_value, .int ef_size, .int ef_place, .int ef_stored, .int ef_sr, .long ef_sum, .int ef_goes, .int ef_target]))]) [0, 1, 3, 2] rfl
          have hD := hD.sub (ws' := [(aEx, .inr (2, [.ref aMe, .ref aSt, .ref aIn, .ref aEf])), (aSt, .inr (9, [.ref aRg, .ref aSp, .int st_pc, .int st_inSlot, .int st_branchAt, .int st_target])), (aIn, .inr (3, [.int ins_traits, .int ins_op, .int ins_d, .int ins_a, .int ins_b, .int ins_u, .int ins_i, .int ins_j])), (aEf, .inr (0, [.int ef_exception, .int ef_hasAddress, .int ef_address, .int ef_value, .int ef_size, .int ef_place, .int ef_stored, .int ef_sr, .long ef_sum, .int ef_goes, .int ef_target]))]) [0, 1, 3, 2] (by decide) rfl
          exact hret H locs _ ls 0 () dX2_isIllegal_80 (by clear hP hD hS hl; replace hz2 := hz2.symm; subst hz2; replace hz1 := hz1.symm; subst hz1; exact congrArg (fun x => (x, ())) (((if_pos c1).trans ((if_neg c2).trans ((if_neg c6).trans ((if_pos c7).trans (rfl)))))).symm) (Or.inl rfl) (Or.inl rfl) hP hD hS
        · skip
          refine lv_aload_n hx hb dX2_isIllegal_50 rfl (lv_at hl 0 rfl) ?_
          refine va_get (D := G) (ci := 2) (v := .ref aIn) (C := RX2) (T := TX2) (N := 4) hx hb hts iwX2_isIllegal_X2 hown hK hP 0 rfl rfl 2 (by decide) (hts _ lkX2_isIllegal_21) (fun _ h9 => h9) rfl dX2_isIllegal_51 ?_
          refine lv_sipush (v := 8192) hx hb dX2_isIllegal_54 (by decide) ?_
          refine k_iV (As := [.int 8192]) (rest := []) (wc := [(aIn, .inr (3, [.int ins_traits, .int ins_op, .int ins_d, .int ins_a, .int ins_b, .int ins_u, .int ins_i, .int ins_j]))]) (wr := [(aEx, .inr (2, [.ref aMe, .ref aSt, .ref aIn, .ref aEf])), (aSt, .inr (9, [.ref aRg, .ref aSp, .int st_pc, .int st_inSlot, .int st_branchAt, .int st_target])), (aEf, .inr (0, [.int ef_exception, .int ef_hasAddress, .int ef_address, .int ef_value, .int ef_size, .int ef_place, .int ef_stored, .int ef_sr, .long ef_sum, .int ef_goes, .int ef_target]))]) ⟨hx, hb, hml, hown, hts⟩ hK hP hD hS hA [3] [0, 1, 2] rfl rfl rfl rfl (by decide) (mX3_is l G cI cB cP aIn ins_traits ins_op ins_d ins_a ins_b ins_u ins_i ins_j H.size 8192 ) (cwV 1 hts gX2_isIllegal_X3_is rfl rfl rfl (by decide +kernel) ⟨Nat.le_of_ble_eq_true rfl, Nat.le_of_ble_eq_true rfl⟩) 3 3 rfl rfl rfl rfl hl.1 rfl (Nat.le_of_ble_eq_true rfl) dX2_isIllegal_57 ⟨Nat.le_of_ble_eq_true rfl, Nat.le_of_ble_eq_true rfl⟩ (fun z4 H locs hz4 hEz4 hP hD hS => ?_)
          have hP : va_P G vwCl [(aEx, .inr (2, [.ref aMe, .ref aSt, .ref aIn, .ref aEf])), (aSt, .inr (9, [.ref aRg, .ref aSp, .int st_pc, .int st_inSlot, .int st_branchAt, .int st_target])), (aEf, .inr (0, [.int ef_exception, .int ef_hasAddress, .int ef_address, .int ef_value, .int ef_size, .int ef_place, .int ef_stored, .int ef_sr, .long ef_sum, .int ef_goes, .int ef_target])), (aIn, .inr (3, [.int ins_traits, .int ins_op, .int ins_d, .int ins_a, .int ins_b, .int ins_u, .int ins_i, .int ins_j]))] H := hP
          have hD : va_D A [(aEx, .inr (2, [.ref aMe, .ref aSt, .ref aIn, .ref aEf])), (aSt, .inr (9, [.ref aRg, .ref aSp, .int st_pc, .int st_inSlot, .int st_branchAt, .int st_target])), (aEf, .inr (0, [.int ef_exception, .int ef_hasAddress, .int ef_address, .int ef_value, .int ef_size, .int ef_place, .int ef_stored, .int ef_sr, .long ef_sum, .int ef_goes, .int ef_target])), (aIn, .inr (3, [.int ins_traits, .int ins_op, .int ins_d, .int ins_a, .int ins_b, .int ins_u, .int ins_i, .int ins_j]))] := hD
          refine lv_if_ne (tgt := 75) hx hb dX2_isIllegal_60 (by decide) (fun c8 => ?_) (fun c8 => ?_)
          · skip
            refine lv_iconst (v := 1) hx hb dX2_isIllegal_75 (by decide) ?_
            refine lv_goto (tgt := 80) hx hb dX2_isIllegal_76 (by decide) ?_
            have hP := hP.sub (ws' := [(aEx, .inr (2, [.ref aMe, .ref aSt, .ref aIn, .ref aEf])), (aSt, .inr (9, [.ref aRg, .ref aSp, .int st_pc, .int st_inSlot, .int st_branchAt, .int st_target])), (aIn, .inr (3, [.int ins_traits, .int ins_op, .int ins_d, .int ins_a, .int ins_b, .int ins_u, .int ins_i, .int ins_j])), (aEf, .inr (0, [.int ef_exception, .int ef_hasAddress, .int ef_address, .int ef_value, .int ef_size, .int ef_place, .int ef_stored, .int ef_sr, .long ef_sum, .int ef_goes, .int ef_target]))]) [0, 1, 3, 2] rfl
            have hD := hD.sub (ws' := [(aEx, .inr (2, [.ref aMe, .ref aSt, .ref aIn, .ref aEf])), (aSt, .inr (9, [.ref aRg, .ref aSp, .int st_pc, .int st_inSlot, .int st_branchAt, .int st_target])), (aIn, .inr (3, [.int ins_traits, .int ins_op, .int ins_d, .int ins_a, .int ins_b, .int ins_u, .int ins_i, .int ins_j])), (aEf, .inr (0, [.int ef_exception, .int ef_hasAddress, .int ef_address, .int ef_value, .int ef_size, .int ef_place, .int ef_stored, .int ef_sr, .long ef_sum, .int ef_goes, .int ef_target]))]) [0, 1, 3, 2] (by decide) rfl
            exact hret H locs _ ls 1 () dX2_isIllegal_80 (by clear hP hD hS hl; replace hz4 := hz4.symm; subst hz4; replace hz2 := hz2.symm; subst hz2; replace hz1 := hz1.symm; subst hz1; exact congrArg (fun x => (x, ())) (((if_pos c1).trans ((if_neg c2).trans ((if_neg c6).trans ((if_neg c7).trans ((if_neg c8).trans (rfl))))))).symm) (Or.inr rfl) (Or.inr rfl) hP hD hS
          · skip
            refine lv_aload_n hx hb dX2_isIllegal_63 rfl (lv_at hl 0 rfl) ?_
            refine va_get (D := G) (ci := 2) (v := .ref aIn) (C := RX2) (T := TX2) (N := 4) hx hb hts iwX2_isIllegal_X2 hown hK hP 0 rfl rfl 2 (by decide) (hts _ lkX2_isIllegal_21) (fun _ h9 => h9) rfl dX2_isIllegal_64 ?_
            refine va_get (D := G) (ci := 3) (v := .int ins_op) (C := RX3) (T := TX3) (N := 8) hx hb hts iwX2_isIllegal_X3 hown hK hP 3 rfl rfl 1 (by decide) (hts _ lkX2_isIllegal_144) (fun _ h9 => h9) rfl dX2_isIllegal_67 ?_
            refine lv_bipush (v := 33) hx hb dX2_isIllegal_70 (by decide) ?_
            refine lv_icmp_ne (tgt := 79) hx hb dX2_isIllegal_72 (by decide) (fun c9 => ?_) (fun c9 => ?_)
            · skip
              refine lv_iconst (v := 0) hx hb dX2_isIllegal_79 (by decide) ?_
              have hP := hP.sub (ws' := [(aEx, .inr (2, [.ref aMe, .ref aSt, .ref aIn, .ref aEf])), (aSt, .inr (9, [.ref aRg, .ref aSp, .int st_pc, .int st_inSlot, .int st_branchAt, .int st_target])), (aIn, .inr (3, [.int ins_traits, .int ins_op, .int ins_d, .int ins_a, .int ins_b, .int ins_u, .int ins_i, .int ins_j])), (aEf, .inr (0, [.int ef_exception, .int ef_hasAddress, .int ef_address, .int ef_value, .int ef_size, .int ef_place, .int ef_stored, .int ef_sr, .long ef_sum, .int ef_goes, .int ef_target]))]) [0, 1, 3, 2] rfl
              have hD := hD.sub (ws' := [(aEx, .inr (2, [.ref aMe, .ref aSt, .ref aIn, .ref aEf])), (aSt, .inr (9, [.ref aRg, .ref aSp, .int st_pc, .int st_inSlot, .int st_branchAt, .int st_target])), (aIn, .inr (3, [.int ins_traits, .int ins_op, .int ins_d, .int ins_a, .int ins_b, .int ins_u, .int ins_i, .int ins_j])), (aEf, .inr (0, [.int ef_exception, .int ef_hasAddress, .int ef_address, .int ef_value, .int ef_size, .int ef_place, .int ef_stored, .int ef_sr, .long ef_sum, .int ef_goes, .int ef_target]))]) [0, 1, 3, 2] (by decide) rfl
              exact hret H locs _ ls 0 () dX2_isIllegal_80 (by clear hP hD hS hl; replace hz4 := hz4.symm; subst hz4; replace hz2 := hz2.symm; subst hz2; replace hz1 := hz1.symm; subst hz1; exact congrArg (fun x => (x, ())) (((if_pos c1).trans ((if_neg c2).trans ((if_neg c6).trans ((if_neg c7).trans ((if_pos c8).trans ((if_neg c9).trans (rfl)))))))).symm) (Or.inl rfl) (Or.inl rfl) hP hD hS
            · skip
              refine lv_iconst (v := 1) hx hb dX2_isIllegal_75 (by decide) ?_
              refine lv_goto (tgt := 80) hx hb dX2_isIllegal_76 (by decide) ?_
              have hP := hP.sub (ws' := [(aEx, .inr (2, [.ref aMe, .ref aSt, .ref aIn, .ref aEf])), (aSt, .inr (9, [.ref aRg, .ref aSp, .int st_pc, .int st_inSlot, .int st_branchAt, .int st_target])), (aIn, .inr (3, [.int ins_traits, .int ins_op, .int ins_d, .int ins_a, .int ins_b, .int ins_u, .int ins_i, .int ins_j])), (aEf, .inr (0, [.int ef_exception, .int ef_hasAddress, .int ef_address, .int ef_value, .int ef_size, .int ef_place, .int ef_stored, .int ef_sr, .long ef_sum, .int ef_goes, .int ef_target]))]) [0, 1, 3, 2] rfl
              have hD := hD.sub (ws' := [(aEx, .inr (2, [.ref aMe, .ref aSt, .ref aIn, .ref aEf])), (aSt, .inr (9, [.ref aRg, .ref aSp, .int st_pc, .int st_inSlot, .int st_branchAt, .int st_target])), (aIn, .inr (3, [.int ins_traits, .int ins_op, .int ins_d, .int ins_a, .int ins_b, .int ins_u, .int ins_i, .int ins_j])), (aEf, .inr (0, [.int ef_exception, .int ef_hasAddress, .int ef_address, .int ef_value, .int ef_size, .int ef_place, .int ef_stored, .int ef_sr, .long ef_sum, .int ef_goes, .int ef_target]))]) [0, 1, 3, 2] (by decide) rfl
              exact hret H locs _ ls 1 () dX2_isIllegal_80 (by clear hP hD hS hl; replace hz4 := hz4.symm; subst hz4; replace hz2 := hz2.symm; subst hz2; replace hz1 := hz1.symm; subst hz1; exact congrArg (fun x => (x, ())) (((if_pos c1).trans ((if_neg c2).trans ((if_neg c6).trans ((if_neg c7).trans ((if_pos c8).trans ((if_pos c9).trans (rfl)))))))).symm) (Or.inr rfl) (Or.inr rfl) hP hD hS
      · skip
        refine lv_iconst (v := 1) hx hb dX2_isIllegal_38 (by decide) ?_
        have hP := hP.sub (ws' := [(aEx, .inr (2, [.ref aMe, .ref aSt, .ref aIn, .ref aEf])), (aSt, .inr (9, [.ref aRg, .ref aSp, .int st_pc, .int st_inSlot, .int st_branchAt, .int st_target])), (aIn, .inr (3, [.int ins_traits, .int ins_op, .int ins_d, .int ins_a, .int ins_b, .int ins_u, .int ins_i, .int ins_j])), (aEf, .inr (0, [.int ef_exception, .int ef_hasAddress, .int ef_address, .int ef_value, .int ef_size, .int ef_place, .int ef_stored, .int ef_sr, .long ef_sum, .int ef_goes, .int ef_target]))]) [0, 1, 3, 2] rfl
        have hD := hD.sub (ws' := [(aEx, .inr (2, [.ref aMe, .ref aSt, .ref aIn, .ref aEf])), (aSt, .inr (9, [.ref aRg, .ref aSp, .int st_pc, .int st_inSlot, .int st_branchAt, .int st_target])), (aIn, .inr (3, [.int ins_traits, .int ins_op, .int ins_d, .int ins_a, .int ins_b, .int ins_u, .int ins_i, .int ins_j])), (aEf, .inr (0, [.int ef_exception, .int ef_hasAddress, .int ef_address, .int ef_value, .int ef_size, .int ef_place, .int ef_stored, .int ef_sr, .long ef_sum, .int ef_goes, .int ef_target]))]) [0, 1, 3, 2] (by decide) rfl
        exact hret H locs _ ls 1 () dX2_isIllegal_39 (by clear hP hD hS hl; replace hz2 := hz2.symm; subst hz2; replace hz1 := hz1.symm; subst hz1; exact congrArg (fun x => (x, ())) (((if_pos c1).trans ((if_neg c2).trans ((if_pos c6).trans (rfl))))).symm) (Or.inr rfl) (Or.inr rfl) hP hD hS
  · skip
    refine lv_iconst (v := 1) hx hb dX2_isIllegal_12 (by decide) ?_
    have hP := hP.sub (ws' := [(aEx, .inr (2, [.ref aMe, .ref aSt, .ref aIn, .ref aEf])), (aSt, .inr (9, [.ref aRg, .ref aSp, .int st_pc, .int st_inSlot, .int st_branchAt, .int st_target])), (aIn, .inr (3, [.int ins_traits, .int ins_op, .int ins_d, .int ins_a, .int ins_b, .int ins_u, .int ins_i, .int ins_j])), (aEf, .inr (0, [.int ef_exception, .int ef_hasAddress, .int ef_address, .int ef_value, .int ef_size, .int ef_place, .int ef_stored, .int ef_sr, .long ef_sum, .int ef_goes, .int ef_target]))]) [0, 1, 3, 2] rfl
    have hD := hD.sub (ws' := [(aEx, .inr (2, [.ref aMe, .ref aSt, .ref aIn, .ref aEf])), (aSt, .inr (9, [.ref aRg, .ref aSp, .int st_pc, .int st_inSlot, .int st_branchAt, .int st_target])), (aIn, .inr (3, [.int ins_traits, .int ins_op, .int ins_d, .int ins_a, .int ins_b, .int ins_u, .int ins_i, .int ins_j])), (aEf, .inr (0, [.int ef_exception, .int ef_hasAddress, .int ef_address, .int ef_value, .int ef_size, .int ef_place, .int ef_stored, .int ef_sr, .long ef_sum, .int ef_goes, .int ef_target]))]) [0, 1, 3, 2] (by decide) rfl
    exact hret H locs _ ls 1 () dX2_isIllegal_13 (by clear hP hD hS hl; replace hz1 := hz1.symm; subst hz1; exact congrArg (fun x => (x, ())) (((if_neg c1).trans (rfl))).symm) (Or.inr rfl) (Or.inr rfl) hP hD hS
def fX2_branch (st_pc : Int32) (ins_op : Int32) (ins_b : Int32) (ins_j : Int32) (ef_sr : Int32) (rg : Nat → Int32) : Int32 × Int32 × Int32 :=
  (let j1 : Int32 := if (ef_sr &&& 32) = 0 then (0) else (1); (let j2 : Int32 := if ins_op = 22 then (j1) else (if ins_op = 23 then (if j1 = 0 then (1) else (0)) else (1)); if j2 = 0 then ((st_pc + 8, j2, st_pc + 8)) else (if ins_op < 24 then ((st_pc + 8, j2, st_pc + (4 * ins_j))) else ((st_pc + 8, j2, rg ins_b.toNatClampNeg)))))
theorem lkX2_branch_21 : Cond.fieldLink RX2 21 "TwinIssue$Executor" "instruction" "LTwinIssue$Instruction;" ∈ wsX2_branch := by decide +kernel
theorem lkX2_branch_28 : Cond.fieldLink RX2 28 "TwinIssue$Executor" "effect" "LTwinIssue$Effect;" ∈ wsX2_branch := by decide +kernel
theorem lkX2_branch_37 : Cond.fieldLink RX2 37 "TwinIssue$Executor" "state" "LTwinIssue$State;" ∈ wsX2_branch := by decide +kernel
theorem lkX2_branch_63 : Cond.fieldLink RX2 63 "TwinIssue$State" "pc" "I" ∈ wsX2_branch := by decide +kernel
theorem lkX2_branch_124 : Cond.fieldLink RX2 124 "TwinIssue$State" "registers" "[I" ∈ wsX2_branch := by decide +kernel
theorem lkX2_branch_131 : Cond.fieldLink RX2 131 "TwinIssue$Instruction" "b" "I" ∈ wsX2_branch := by decide +kernel
theorem lkX2_branch_139 : Cond.fieldLink RX2 139 "TwinIssue$Effect" "sr" "I" ∈ wsX2_branch := by decide +kernel
theorem lkX2_branch_144 : Cond.fieldLink RX2 144 "TwinIssue$Instruction" "op" "I" ∈ wsX2_branch := by decide +kernel
theorem lkX2_branch_147 : Cond.fieldLink RX2 147 "TwinIssue$Effect" "goes" "Z" ∈ wsX2_branch := by decide +kernel
theorem lkX2_branch_150 : Cond.fieldLink RX2 150 "TwinIssue$Effect" "value" "I" ∈ wsX2_branch := by decide +kernel
theorem lkX2_branch_153 : Cond.fieldLink RX2 153 "TwinIssue$Effect" "target" "I" ∈ wsX2_branch := by decide +kernel
theorem lkX2_branch_156 : Cond.fieldLink RX2 156 "TwinIssue$Instruction" "j" "I" ∈ wsX2_branch := by decide +kernel
theorem iwX2_branch_X0 : ∀ w ∈ wsX00, w ∈ wsX2_branch := fun _ h => List.mem_cons_of_mem _ (List.mem_append_left _ (List.mem_append_left _ (List.mem_append_right _ h)))
theorem iwX2_branch_X2 : ∀ w ∈ wsX20, w ∈ wsX2_branch := fun _ h => List.mem_cons_of_mem _ (List.mem_append_left _ (List.mem_append_left _ (List.mem_append_left _ (List.mem_append_right _ h))))
theorem iwX2_branch_X3 : ∀ w ∈ wsX30, w ∈ wsX2_branch := fun _ h => List.mem_cons_of_mem _ (List.mem_append_left _ (List.mem_append_right _ h))
theorem iwX2_branch_X9 : ∀ w ∈ wsX90, w ∈ wsX2_branch := fun _ h => List.mem_cons_of_mem _ (List.mem_append_right _ h)
def sX2_branch (ins_op : Int32) (ins_b : Int32) (ef_sr : Int32) : Prop :=
  (((ef_sr &&& 32) = 0 → True) ∧ (¬ ((ef_sr &&& 32) = 0) → True)) ∧ (∀ j1 : Int32, j1 = (if (ef_sr &&& 32) = 0 then (0) else (1)) → (((ins_op = 22 → True) ∧ (¬ (ins_op = 22) → ((ins_op = 23 → ((j1 = 0 → True) ∧ (¬ (j1 = 0) → True))) ∧ (¬ (ins_op = 23) → True)))) ∧ (∀ j2 : Int32, j2 = (if ins_op = 22 then (j1) else (if ins_op = 23 then (if j1 = 0 then (1) else (0)) else (1))) → ((isB j2) ∧ ((j2 = 0 → True) ∧ (¬ (j2 = 0) → ((ins_op < 24 → True) ∧ (¬ (ins_op < 24) → ((vp_in ins_b 32) ∧ True)))))))))
set_option maxHeartbeats 4000000 in
set_option maxRecDepth 100000 in
theorem mX2_branch (l : Launch) (G : va_G) (cI cB cP : ClassId) (aEx aMe aSt aSp aIn aEf aRg : Nat) (st_pc : Int32) (st_inSlot : Int32) (st_branchAt : Int32) (st_target : Int32) (ins_traits : Int32) (ins_op : Int32) (ins_d : Int32) (ins_a : Int32) (ins_b : Int32) (ins_u : Int32) (ins_i : Int32) (ins_j : Int32) (ef_exception : Int32) (ef_hasAddress : Int32) (ef_address : Int32) (ef_value : Int32) (ef_size : Int32) (ef_place : Int32) (ef_stored : Int32) (ef_sr : Int32) (ef_sum : Int64) (ef_goes : Int32) (ef_target : Int32) (rg : Nat → Int32) (sz : Nat) (hs : sX2_branch ins_op ins_b ef_sr) : kMv (S := Int32 × Int32 × Int32) l yX2_branch wsX2_branch ({ frames := 0, cells := 0, slots := 0, locals := 0 }) [.ref aEx] G (kTY cI cB cP) sz [(aEx, .inr (2, [.ref aMe, .ref aSt, .ref aIn, .ref aEf])), (aSt, .inr (9, [.ref aRg, .ref aSp, .int st_pc, .int st_inSlot, .int st_branchAt, .int st_target])), (aIn, .inr (3, [.int ins_traits, .int ins_op, .int ins_d, .int ins_a, .int ins_b, .int ins_u, .int ins_i, .int ins_j])), (aEf, .inr (0, [.int ef_exception, .int ef_hasAddress, .int ef_address, .int ef_value, .int ef_size, .int ef_place, .int ef_stored, .int ef_sr, .long ef_sum, .int ef_goes, .int ef_target])), (aRg, .inl (cI, 32, .inl rg))] (fX2_branch st_pc ins_op ins_b ins_j ef_sr rg) (fun _ => True) (fun u => [(aEx, .inr (2, [.ref aMe, .ref aSt, .ref aIn, .ref aEf])), (aSt, .inr (9, [.ref aRg, .ref aSp, .int st_pc, .int st_inSlot, .int st_branchAt, .int st_target])), (aIn, .inr (3, [.int ins_traits, .int ins_op, .int ins_d, .int ins_a, .int ins_b, .int ins_u, .int ins_i, .int ins_j])), (aEf, .inr (0, [.int ef_exception, .int ef_hasAddress, .int ef_address, .int u.1, .int ef_size, .int ef_place, .int ef_stored, .int ef_sr, .long ef_sum, .int u.2.1, .int u.2.2])), (aRg, .inl (cI, 32, .inl rg))]) := by
  refine k_ofv (cc := cX2_branch) (maxL := 3) (by decide) rfl (Nat.le_of_ble_eq_true rfl) ?_
  intro p e s m args below meth c A ls Q H locs hx hb hml hown hts hin hK hP hD hA hS hl hret
  have hown : s.vm.findClass RX2 = some m.cls := hown
  have hl : lv_has ls 3 [(0, .ref aEx)] := hl
  unfold sX2_branch at hs
  refine lv_aload_n hx hb dX2_branch_0 rfl (lv_at hl 0 rfl) ?_
  refine va_get (D := G) (ci := 2) (v := .ref aEf) (C := RX2) (T := TX2) (N := 4) hx hb hts iwX2_branch_X2 hown hK hP 0 rfl rfl 3 (by decide) (hts _ lkX2_branch_28) (fun _ h9 => h9) rfl dX2_branch_1 ?_
  refine va_get (D := G) (ci := 0) (v := .int ef_sr) (C := RX0) (T := TX0) (N := 11) hx hb hts iwX2_branch_X0 hown hK hP 3 rfl rfl 7 (by decide) (hts _ lkX2_branch_139) (fun _ h9 => h9) rfl dX2_branch_4 ?_
  refine lv_bipush (v := 32) hx hb dX2_branch_7 (by decide) ?_
  refine lv_iand hx hb dX2_branch_9 ?_
  have Kj1 : ∀ (j1 : Int32) (H : Heap) (locs : List Loc) (ls : Array Slot), j1 = (if (ef_sr &&& 32) = 0 then (0) else (1)) → isB j1 → va_P G vwCl [(aEx, .inr (2, [.ref aMe, .ref aSt, .ref aIn, .ref aEf])), (aSt, .inr (9, [.ref aRg, .ref aSp, .int st_pc, .int st_inSlot, .int st_branchAt, .int st_target])), (aIn, .inr (3, [.int ins_traits, .int ins_op, .int ins_d, .int ins_a, .int ins_b, .int ins_u, .int ins_i, .int ins_j])), (aEf, .inr (0, [.int ef_exception, .int ef_hasAddress, .int ef_address, .int ef_value, .int ef_size, .int ef_place, .int ef_stored, .int ef_sr, .long ef_sum, .int ef_goes, .int ef_target])), (aRg, .inl (cI, 32, .inl rg))] H → va_D A [(aEx, .inr (2, [.ref aMe, .ref aSt, .ref aIn, .ref aEf])), (aSt, .inr (9, [.ref aRg, .ref aSp, .int st_pc, .int st_inSlot, .int st_branchAt, .int st_target])), (aIn, .inr (3, [.int ins_traits, .int ins_op, .int ins_d, .int ins_a, .int ins_b, .int ins_u, .int ins_i, .int ins_j])), (aEf, .inr (0, [.int ef_exception, .int ef_hasAddress, .int ef_address, .int ef_value, .int ef_size, .int ef_place, .int ef_stored, .int ef_sr, .long ef_sum, .int ef_goes, .int ef_target])), (aRg, .inl (cI, 32, .inl rg))] → va_S A s.heap H locs → lv_has ls 3 [(0, .ref aEx)] → W p l e ({ frames := 0, cells := 0, slots := 0, locals := 0 }) s m args below meth c H locs 0 0 Q (F0 m 18 ls [.int j1]) := by
    intro j1 H locs ls hj1 hbj1_0 hP hD hS hl
    have hs := hs.2 j1 hj1
    refine lv_istore_n (lv' := [(1, .int j1), (0, .ref aEx)]) hx hb dX2_branch_18 rfl hl (by decide) rfl (fun ls hl => ?_)
    refine lv_aload_n hx hb dX2_branch_19 rfl (lv_at hl 1 rfl) ?_
    refine va_get (D := G) (ci := 2) (v := .ref aIn) (C := RX2) (T := TX2) (N := 4) hx hb hts iwX2_branch_X2 hown hK hP 0 rfl rfl 2 (by decide) (hts _ lkX2_branch_21) (fun _ h9 => h9) rfl dX2_branch_20 ?_
    refine va_get (D := G) (ci := 3) (v := .int ins_op) (C := RX3) (T := TX3) (N := 8) hx hb hts iwX2_branch_X3 hown hK hP 2 rfl rfl 1 (by decide) (hts _ lkX2_branch_144) (fun _ h9 => h9) rfl dX2_branch_23 ?_
    refine lv_istore_n (lv' := [(2, .int ins_op), (1, .int j1), (0, .ref aEx)]) hx hb dX2_branch_26 rfl hl (by decide) rfl (fun ls hl => ?_)
    refine lv_aload_n hx hb dX2_branch_27 rfl (lv_at hl 2 rfl) ?_
    refine va_get (D := G) (ci := 2) (v := .ref aEf) (C := RX2) (T := TX2) (N := 4) hx hb hts iwX2_branch_X2 hown hK hP 0 rfl rfl 3 (by decide) (hts _ lkX2_branch_28) (fun _ h9 => h9) rfl dX2_branch_28 ?_
    refine lv_iload_n hx hb dX2_branch_31 rfl (lv_at hl 0 rfl) ?_
    refine lv_bipush (v := 22) hx hb dX2_branch_32 (by decide) ?_
    have Kj2 : ∀ (j2 : Int32) (H : Heap) (locs : List Loc) (ls : Array Slot), j2 = (if ins_op = 22 then (j1) else (if ins_op = 23 then (if j1 = 0 then (1) else (0)) else (1))) → va_P G vwCl [(aEx, .inr (2, [.ref aMe, .ref aSt, .ref aIn, .ref aEf])), (aSt, .inr (9, [.ref aRg, .ref aSp, .int st_pc, .int st_inSlot, .int st_branchAt, .int st_target])), (aIn, .inr (3, [.int ins_traits, .int ins_op, .int ins_d, .int ins_a, .int ins_b, .int ins_u, .int ins_i, .int ins_j])), (aEf, .inr (0, [.int ef_exception, .int ef_hasAddress, .int ef_address, .int ef_value, .int ef_size, .int ef_place, .int ef_stored, .int ef_sr, .long ef_sum, .int ef_goes, .int ef_target])), (aRg, .inl (cI, 32, .inl rg))] H → va_D A [(aEx, .inr (2, [.ref aMe, .ref aSt, .ref aIn, .ref aEf])), (aSt, .inr (9, [.ref aRg, .ref aSp, .int st_pc, .int st_inSlot, .int st_branchAt, .int st_target])), (aIn, .inr (3, [.int ins_traits, .int ins_op, .int ins_d, .int ins_a, .int ins_b, .int ins_u, .int ins_i, .int ins_j])), (aEf, .inr (0, [.int ef_exception, .int ef_hasAddress, .int ef_address, .int ef_value, .int ef_size, .int ef_place, .int ef_stored, .int ef_sr, .long ef_sum, .int ef_goes, .int ef_target])), (aRg, .inl (cI, 32, .inl rg))] → va_S A s.heap H locs → lv_has ls 3 [(2, .int ins_op), (1, .int j1), (0, .ref aEx)] → W p l e ({ frames := 0, cells := 0, slots := 0, locals := 0 }) s m args below meth c H locs 0 0 Q (F0 m 56 ls [.int j2, .ref aEf]) := by
      intro j2 H locs ls hj2 hP hD hS hl
      have hs := hs.2 j2 hj2
      obtain ⟨o1, hs⟩ := hs
      refine va_put (D := G) (ci := 0) (v := .int j2) (ty := .boolean) (C := RX0) (T := TX0) (N := 11) hx hb hts iwX2_branch_X0 tyX0 tyX0_ok nmX0 hown hK hP hD hS 3 rfl rfl 9 (by decide) (hts _ lkX2_branch_147) (fun _ h9 => h9) rfl (by decide +kernel) (nar_b o1) (fit_b o1) (Nat.le_of_ble_eq_true rfl) dX2_branch_56 (fun H locs hP hD hS => ?_)
      have hP : va_P G vwCl [(aEx, .inr (2, [.ref aMe, .ref aSt, .ref aIn, .ref aEf])), (aSt, .inr (9, [.ref aRg, .ref aSp, .int st_pc, .int st_inSlot, .int st_branchAt, .int st_target])), (aIn, .inr (3, [.int ins_traits, .int ins_op, .int ins_d, .int ins_a, .int ins_b, .int ins_u, .int ins_i, .int ins_j])), (aEf, .inr (0, [.int ef_exception, .int ef_hasAddress, .int ef_address, .int ef_value, .int ef_size, .int ef_place, .int ef_stored, .int ef_sr, .long ef_sum, .int j2, .int ef_target])), (aRg, .inl (cI, 32, .inl rg))] H := hP
      have hD : va_D A [(aEx, .inr (2, [.ref aMe, .ref aSt, .ref aIn, .ref aEf])), (aSt, .inr (9, [.ref aRg, .ref aSp, .int st_pc, .int st_inSlot, .int st_branchAt, .int st_target])), (aIn, .inr (3, [.int ins_traits, .int ins_op, .int ins_d, .int ins_a, .int ins_b, .int ins_u, .int ins_i, .int ins_j])), (aEf, .inr (0, [.int ef_exception, .int ef_hasAddress, .int ef_address, .int ef_value, .int ef_size, .int ef_place, .int ef_stored, .int ef_sr, .long ef_sum, .int j2, .int ef_target])), (aRg, .inl (cI, 32, .inl rg))] := hD
      refine lv_aload_n hx hb dX2_branch_59 rfl (lv_at hl 2 rfl) ?_
      refine va_get (D := G) (ci := 2) (v := .ref aEf) (C := RX2) (T := TX2) (N := 4) hx hb hts iwX2_branch_X2 hown hK hP 0 rfl rfl 3 (by decide) (hts _ lkX2_branch_28) (fun _ h9 => h9) rfl dX2_branch_60 ?_
      refine lv_aload_n hx hb dX2_branch_63 rfl (lv_at hl 2 rfl) ?_
      refine va_get (D := G) (ci := 2) (v := .ref aSt) (C := RX2) (T := TX2) (N := 4) hx hb hts iwX2_branch_X2 hown hK hP 0 rfl rfl 1 (by decide) (hts _ lkX2_branch_37) (fun _ h9 => h9) rfl dX2_branch_64 ?_
      refine va_get (D := G) (ci := 9) (v := .int st_pc) (C := RX9) (T := TX9) (N := 6) hx hb hts iwX2_branch_X9 hown hK hP 1 rfl rfl 2 (by decide) (hts _ lkX2_branch_63) (fun _ h9 => h9) rfl dX2_branch_67 ?_
      refine lv_bipush (v := 8) hx hb dX2_branch_70 (by decide) ?_
      refine lv_iadd hx hb dX2_branch_72 ?_
      refine va_put (D := G) (ci := 0) (v := .int (st_pc + 8)) (ty := .int) (C := RX0) (T := TX0) (N := 11) hx hb hts iwX2_branch_X0 tyX0 tyX0_ok nmX0 hown hK hP hD hS 3 rfl rfl 3 (by decide) (hts _ lkX2_branch_150) (fun _ h9 => h9) rfl (by decide +kernel) rfl rfl (Nat.le_of_ble_eq_true rfl) dX2_branch_73 (fun H locs hP hD hS => ?_)
      have hP : va_P G vwCl [(aEx, .inr (2, [.ref aMe, .ref aSt, .ref aIn, .ref aEf])), (aSt, .inr (9, [.ref aRg, .ref aSp, .int st_pc, .int st_inSlot, .int st_branchAt, .int st_target])), (aIn, .inr (3, [.int ins_traits, .int ins_op, .int ins_d, .int ins_a, .int ins_b, .int ins_u, .int ins_i, .int ins_j])), (aEf, .inr (0, [.int ef_exception, .int ef_hasAddress, .int ef_address, .int (st_pc + 8), .int ef_size, .int ef_place, .int ef_stored, .int ef_sr, .long ef_sum, .int j2, .int ef_target])), (aRg, .inl (cI, 32, .inl rg))] H := hP
      have hD : va_D A [(aEx, .inr (2, [.ref aMe, .ref aSt, .ref aIn, .ref aEf])), (aSt, .inr (9, [.ref aRg, .ref aSp, .int st_pc, .int st_inSlot, .int st_branchAt, .int st_target])), (aIn, .inr (3, [.int ins_traits, .int ins_op, .int ins_d, .int ins_a, .int ins_b, .int ins_u, .int ins_i, .int ins_j])), (aEf, .inr (0, [.int ef_exception, .int ef_hasAddress, .int ef_address, .int (st_pc + 8), .int ef_size, .int ef_place, .int ef_stored, .int ef_sr, .long ef_sum, .int j2, .int ef_target])), (aRg, .inl (cI, 32, .inl rg))] := hD
      refine lv_aload_n hx hb dX2_branch_76 rfl (lv_at hl 2 rfl) ?_
      refine va_get (D := G) (ci := 2) (v := .ref aEf) (C := RX2) (T := TX2) (N := 4) hx hb hts iwX2_branch_X2 hown hK hP 0 rfl rfl 3 (by decide) (hts _ lkX2_branch_28) (fun _ h9 => h9) rfl dX2_branch_77 ?_
      refine va_get (D := G) (ci := 0) (v := .int j2) (C := RX0) (T := TX0) (N := 11) hx hb hts iwX2_branch_X0 hown hK hP 3 rfl rfl 9 (by decide) (hts _ lkX2_branch_147) (fun _ h9 => h9) rfl dX2_branch_80 ?_
      refine lv_if_ne (tgt := 106) hx hb dX2_branch_83 (by decide) (fun c9 => ?_) (fun c9 => ?_)
      · have hs := hs.2 c9
        refine lv_iload_n hx hb dX2_branch_106 rfl (lv_at hl 0 rfl) ?_
        refine lv_bipush (v := 24) hx hb dX2_branch_107 (by decide) ?_
        refine lv_icmp_lt (tgt := 137) hx hb dX2_branch_109 (by decide) (fun c10 => ?_) (fun c10 => ?_)
        · have hs := hs.1 c10
          refine lv_aload_n hx hb dX2_branch_137 rfl (lv_at hl 2 rfl) ?_
          refine va_get (D := G) (ci := 2) (v := .ref aEf) (C := RX2) (T := TX2) (N := 4) hx hb hts iwX2_branch_X2 hown hK hP 0 rfl rfl 3 (by decide) (hts _ lkX2_branch_28) (fun _ h9 => h9) rfl dX2_branch_138 ?_
          refine lv_aload_n hx hb dX2_branch_141 rfl (lv_at hl 2 rfl) ?_
          refine va_get (D := G) (ci := 2) (v := .ref aSt) (C := RX2) (T := TX2) (N := 4) hx hb hts iwX2_branch_X2 hown hK hP 0 rfl rfl 1 (by decide) (hts _ lkX2_branch_37) (fun _ h9 => h9) rfl dX2_branch_142 ?_
          refine va_get (D := G) (ci := 9) (v := .int st_pc) (C := RX9) (T := TX9) (N := 6) hx hb hts iwX2_branch_X9 hown hK hP 1 rfl rfl 2 (by decide) (hts _ lkX2_branch_63) (fun _ h9 => h9) rfl dX2_branch_145 ?_
          refine lv_iconst (v := 4) hx hb dX2_branch_148 (by decide) ?_
          refine lv_aload_n hx hb dX2_branch_149 rfl (lv_at hl 2 rfl) ?_
          refine va_get (D := G) (ci := 2) (v := .ref aIn) (C := RX2) (T := TX2) (N := 4) hx hb hts iwX2_branch_X2 hown hK hP 0 rfl rfl 2 (by decide) (hts _ lkX2_branch_21) (fun _ h9 => h9) rfl dX2_branch_150 ?_
          refine va_get (D := G) (ci := 3) (v := .int ins_j) (C := RX3) (T := TX3) (N := 8) hx hb hts iwX2_branch_X3 hown hK hP 2 rfl rfl 7 (by decide) (hts _ lkX2_branch_156) (fun _ h9 => h9) rfl dX2_branch_153 ?_
          refine lv_imul hx hb dX2_branch_156 ?_
          refine lv_iadd hx hb dX2_branch_157 ?_
          refine va_put (D := G) (ci := 0) (v := .int (st_pc + (4 * ins_j))) (ty := .int) (C := RX0) (T := TX0) (N := 11) hx hb hts iwX2_branch_X0 tyX0 tyX0_ok nmX0 hown hK hP hD hS 3 rfl rfl 10 (by decide) (hts _ lkX2_branch_153) (fun _ h9 => h9) rfl (by decide +kernel) rfl rfl (Nat.le_of_ble_eq_true rfl) dX2_branch_158 (fun H locs hP hD hS => ?_)
          have hP : va_P G vwCl [(aEx, .inr (2, [.ref aMe, .ref aSt, .ref aIn, .ref aEf])), (aSt, .inr (9, [.ref aRg, .ref aSp, .int st_pc, .int st_inSlot, .int st_branchAt, .int st_target])), (aIn, .inr (3, [.int ins_traits, .int ins_op, .int ins_d, .int ins_a, .int ins_b, .int ins_u, .int ins_i, .int ins_j])), (aEf, .inr (0, [.int ef_exception, .int ef_hasAddress, .int ef_address, .int (st_pc + 8), .int ef_size, .int ef_place, .int ef_stored, .int ef_sr, .long ef_sum, .int j2, .int (st_pc + (4 * ins_j))])), (aRg, .inl (cI, 32, .inl rg))] H := hP
          have hD : va_D A [(aEx, .inr (2, [.ref aMe, .ref aSt, .ref aIn, .ref aEf])), (aSt, .inr (9, [.ref aRg, .ref aSp, .int st_pc, .int st_inSlot, .int st_branchAt, .int st_target])), (aIn, .inr (3, [.int ins_traits, .int ins_op, .int ins_d, .int ins_a, .int ins_b, .int ins_u, .int ins_i, .int ins_j])), (aEf, .inr (0, [.int ef_exception, .int ef_hasAddress, .int ef_address, .int (st_pc + 8), .int ef_size, .int ef_place, .int ef_stored, .int ef_sr, .long ef_sum, .int j2, .int (st_pc + (4 * ins_j))])), (aRg, .inl (cI, 32, .inl rg))] := hD
          exact hret H locs _ ls (st_pc + 8, j2, st_pc + (4 * ins_j)) dX2_branch_161 (by clear hP hD hS hl; replace hj2 := hj2.symm; subst hj2; replace hj1 := hj1.symm; subst hj1; exact (((if_neg c9).trans ((if_pos c10).trans (rfl)))).symm) trivial hP hD hS
        · have hs := hs.2 c10
          refine lv_aload_n hx hb dX2_branch_112 rfl (lv_at hl 2 rfl) ?_
          refine va_get (D := G) (ci := 2) (v := .ref aEf) (C := RX2) (T := TX2) (N := 4) hx hb hts iwX2_branch_X2 hown hK hP 0 rfl rfl 3 (by decide) (hts _ lkX2_branch_28) (fun _ h9 => h9) rfl dX2_branch_113 ?_
          refine lv_aload_n hx hb dX2_branch_116 rfl (lv_at hl 2 rfl) ?_
          refine va_get (D := G) (ci := 2) (v := .ref aSt) (C := RX2) (T := TX2) (N := 4) hx hb hts iwX2_branch_X2 hown hK hP 0 rfl rfl 1 (by decide) (hts _ lkX2_branch_37) (fun _ h9 => h9) rfl dX2_branch_117 ?_
          refine va_get (D := G) (ci := 9) (v := .ref aRg) (C := RX9) (T := TX9) (N := 6) hx hb hts iwX2_branch_X9 hown hK hP 1 rfl rfl 0 (by decide) (hts _ lkX2_branch_124) (fun _ h9 => h9) rfl dX2_branch_120 ?_
          refine lv_aload_n hx hb dX2_branch_123 rfl (lv_at hl 2 rfl) ?_
          refine va_get (D := G) (ci := 2) (v := .ref aIn) (C := RX2) (T := TX2) (N := 4) hx hb hts iwX2_branch_X2 hown hK hP 0 rfl rfl 2 (by decide) (hts _ lkX2_branch_21) (fun _ h9 => h9) rfl dX2_branch_124 ?_
          refine va_get (D := G) (ci := 3) (v := .int ins_b) (C := RX3) (T := TX3) (N := 8) hx hb hts iwX2_branch_X3 hown hK hP 2 rfl rfl 4 (by decide) (hts _ lkX2_branch_131) (fun _ h9 => h9) rfl dX2_branch_127 ?_
          obtain ⟨o2, hs⟩ := hs
          refine va_iald hx hb hK hP 4 0 rfl rfl o2 dX2_branch_130 ?_
          refine va_put (D := G) (ci := 0) (v := .int (rg ins_b.toNatClampNeg)) (ty := .int) (C := RX0) (T := TX0) (N := 11) hx hb hts iwX2_branch_X0 tyX0 tyX0_ok nmX0 hown hK hP hD hS 3 rfl rfl 10 (by decide) (hts _ lkX2_branch_153) (fun _ h9 => h9) rfl (by decide +kernel) rfl rfl (Nat.le_of_ble_eq_true rfl) dX2_branch_131 (fun H locs hP hD hS => ?_)
          have hP : va_P G vwCl [(aEx, .inr (2, [.ref aMe, .ref aSt, .ref aIn, .ref aEf])), (aSt, .inr (9, [.ref aRg, .ref aSp, .int st_pc, .int st_inSlot, .int st_branchAt, .int st_target])), (aIn, .inr (3, [.int ins_traits, .int ins_op, .int ins_d, .int ins_a, .int ins_b, .int ins_u, .int ins_i, .int ins_j])), (aEf, .inr (0, [.int ef_exception, .int ef_hasAddress, .int ef_address, .int (st_pc + 8), .int ef_size, .int ef_place, .int ef_stored, .int ef_sr, .long ef_sum, .int j2, .int (rg ins_b.toNatClampNeg)])), (aRg, .inl (cI, 32, .inl rg))] H := hP
          have hD : va_D A [(aEx, .inr (2, [.ref aMe, .ref aSt, .ref aIn, .ref aEf])), (aSt, .inr (9, [.ref aRg, .ref aSp, .int st_pc, .int st_inSlot, .int st_branchAt, .int st_target])), (aIn, .inr (3, [.int ins_traits, .int ins_op, .int ins_d, .int ins_a, .int ins_b, .int ins_u, .int ins_i, .int ins_j])), (aEf, .inr (0, [.int ef_exception, .int ef_hasAddress, .int ef_address, .int (st_pc + 8), .int ef_size, .int ef_place, .int ef_stored, .int ef_sr, .long ef_sum, .int j2, .int (rg ins_b.toNatClampNeg)])), (aRg, .inl (cI, 32, .inl rg))] := hD
          refine lv_goto (tgt := 161) hx hb dX2_branch_134 (by decide) ?_
          exact hret H locs _ ls (st_pc + 8, j2, rg ins_b.toNatClampNeg) dX2_branch_161 (by clear hP hD hS hl; replace hj2 := hj2.symm; subst hj2; replace hj1 := hj1.symm; subst hj1; exact (((if_neg c9).trans ((if_neg c10).trans (rfl)))).symm) trivial hP hD hS
      · have hs := hs.1 c9
        refine lv_aload_n hx hb dX2_branch_86 rfl (lv_at hl 2 rfl) ?_
        refine va_get (D := G) (ci := 2) (v := .ref aEf) (C := RX2) (T := TX2) (N := 4) hx hb hts iwX2_branch_X2 hown hK hP 0 rfl rfl 3 (by decide) (hts _ lkX2_branch_28) (fun _ h9 => h9) rfl dX2_branch_87 ?_
        refine lv_aload_n hx hb dX2_branch_90 rfl (lv_at hl 2 rfl) ?_
        refine va_get (D := G) (ci := 2) (v := .ref aSt) (C := RX2) (T := TX2) (N := 4) hx hb hts iwX2_branch_X2 hown hK hP 0 rfl rfl 1 (by decide) (hts _ lkX2_branch_37) (fun _ h9 => h9) rfl dX2_branch_91 ?_
        refine va_get (D := G) (ci := 9) (v := .int st_pc) (C := RX9) (T := TX9) (N := 6) hx hb hts iwX2_branch_X9 hown hK hP 1 rfl rfl 2 (by decide) (hts _ lkX2_branch_63) (fun _ h9 => h9) rfl dX2_branch_94 ?_
        refine lv_bipush (v := 8) hx hb dX2_branch_97 (by decide) ?_
        refine lv_iadd hx hb dX2_branch_99 ?_
        refine va_put (D := G) (ci := 0) (v := .int (st_pc + 8)) (ty := .int) (C := RX0) (T := TX0) (N := 11) hx hb hts iwX2_branch_X0 tyX0 tyX0_ok nmX0 hown hK hP hD hS 3 rfl rfl 10 (by decide) (hts _ lkX2_branch_153) (fun _ h9 => h9) rfl (by decide +kernel) rfl rfl (Nat.le_of_ble_eq_true rfl) dX2_branch_100 (fun H locs hP hD hS => ?_)
        have hP : va_P G vwCl [(aEx, .inr (2, [.ref aMe, .ref aSt, .ref aIn, .ref aEf])), (aSt, .inr (9, [.ref aRg, .ref aSp, .int st_pc, .int st_inSlot, .int st_branchAt, .int st_target])), (aIn, .inr (3, [.int ins_traits, .int ins_op, .int ins_d, .int ins_a, .int ins_b, .int ins_u, .int ins_i, .int ins_j])), (aEf, .inr (0, [.int ef_exception, .int ef_hasAddress, .int ef_address, .int (st_pc + 8), .int ef_size, .int ef_place, .int ef_stored, .int ef_sr, .long ef_sum, .int j2, .int (st_pc + 8)])), (aRg, .inl (cI, 32, .inl rg))] H := hP
        have hD : va_D A [(aEx, .inr (2, [.ref aMe, .ref aSt, .ref aIn, .ref aEf])), (aSt, .inr (9, [.ref aRg, .ref aSp, .int st_pc, .int st_inSlot, .int st_branchAt, .int st_target])), (aIn, .inr (3, [.int ins_traits, .int ins_op, .int ins_d, .int ins_a, .int ins_b, .int ins_u, .int ins_i, .int ins_j])), (aEf, .inr (0, [.int ef_exception, .int ef_hasAddress, .int ef_address, .int (st_pc + 8), .int ef_size, .int ef_place, .int ef_stored, .int ef_sr, .long ef_sum, .int j2, .int (st_pc + 8)])), (aRg, .inl (cI, 32, .inl rg))] := hD
        refine lv_goto (tgt := 161) hx hb dX2_branch_103 (by decide) ?_
        exact hret H locs _ ls (st_pc + 8, j2, st_pc + 8) dX2_branch_161 (by clear hP hD hS hl; replace hj2 := hj2.symm; subst hj2; replace hj1 := hj1.symm; subst hj1; exact (((if_pos c9).trans (rfl))).symm) trivial hP hD hS
    have hs := hs.1
    refine lv_icmp_ne (tgt := 41) hx hb dX2_branch_34 (by decide) (fun c11 => ?_) (fun c11 => ?_)
    · have hs := hs.2 c11
      refine lv_iload_n hx hb dX2_branch_41 rfl (lv_at hl 0 rfl) ?_
      refine lv_bipush (v := 23) hx hb dX2_branch_42 (by decide) ?_
      refine lv_icmp_ne (tgt := 51) hx hb dX2_branch_44 (by decide) (fun c12 => ?_) (fun c12 => ?_)
      · have hs := hs.2 c12
        refine lv_iconst (v := 1) hx hb dX2_branch_51 (by decide) ?_
        refine lv_goto (tgt := 56) hx hb dX2_branch_52 (by decide) ?_
        exact Kj2 1 H locs ls ((if_neg c11).trans ((if_neg c12).trans (rfl))).symm  hP hD hS (lv_sub hl [0, 1, 2] rfl)
      · have hs := hs.1 c12
        refine lv_iload_n hx hb dX2_branch_47 rfl (lv_at hl 1 rfl) ?_
        refine lv_if_ne (tgt := 55) hx hb dX2_branch_48 (by decide) (fun c13 => ?_) (fun c13 => ?_)
        · have hs := hs.2 c13
          refine lv_iconst (v := 0) hx hb dX2_branch_55 (by decide) ?_
          exact Kj2 0 H locs ls ((if_neg c11).trans ((if_pos c12).trans ((if_neg c13).trans (rfl)))).symm  hP hD hS (lv_sub hl [0, 1, 2] rfl)
        · have hs := hs.1 c13
          refine lv_iconst (v := 1) hx hb dX2_branch_51 (by decide) ?_
          refine lv_goto (tgt := 56) hx hb dX2_branch_52 (by decide) ?_
          exact Kj2 1 H locs ls ((if_neg c11).trans ((if_pos c12).trans ((if_pos c13).trans (rfl)))).symm  hP hD hS (lv_sub hl [0, 1, 2] rfl)
    · have hs := hs.1 c11
      refine lv_iload_n hx hb dX2_branch_37 rfl (lv_at hl 1 rfl) ?_
      refine lv_goto (tgt := 56) hx hb dX2_branch_38 (by decide) ?_
      exact Kj2 j1 H locs ls ((if_pos c11).trans (rfl)).symm  hP hD hS (lv_sub hl [0, 1, 2] rfl)
  have hs := hs.1
  refine lv_if_eq (tgt := 17) hx hb dX2_branch_10 (by decide) (fun c14 => ?_) (fun c14 => ?_)
  · have hs := hs.1 c14
    refine lv_iconst (v := 0) hx hb dX2_branch_17 (by decide) ?_
    exact Kj1 0 H locs ls ((if_pos c14).trans (rfl)).symm (Or.inl rfl) hP hD hS (lv_sub hl [0] rfl)
  · have hs := hs.2 c14
    refine lv_iconst (v := 1) hx hb dX2_branch_13 (by decide) ?_
    refine lv_goto (tgt := 18) hx hb dX2_branch_14 (by decide) ?_
    exact Kj1 1 H locs ls ((if_neg c14).trans (rfl)).symm (Or.inr rfl) hP hD hS (lv_sub hl [0] rfl)
def fX2_sizeOf (p0 : Int32) : Int32 :=
  if p0 = 27 then (1) else (if p0 = 29 then (1) else (if p0 = 51 then (1) else (if p0 = 52 then (2) else (if p0 = 53 then (2) else (if p0 = 54 then (2) else (4))))))
set_option maxHeartbeats 4000000 in
set_option maxRecDepth 100000 in
theorem mX2_sizeOf (l : Launch) (G : va_G) (cI cB cP : ClassId) (sz : Nat) (p0 : Int32) : kMi (S := Unit) l yX2_sizeOf wsX2_sizeOf ({ frames := 0, cells := 0, slots := 0, locals := 0 }) [.int p0] G (kTY cI cB cP) sz [] (fX2_sizeOf p0, ()) (fun _ _ => True) (fun _ => []) := by
  refine k_ofi (cc := cX2_sizeOf) (maxL := 1) (by decide) rfl (Nat.le_of_ble_eq_true rfl) ?_
  intro p e s m args below meth c A ls Q H locs hx hb hml hown hts hin hK hP hD hA hS hl hret
  have hown : s.vm.findClass RX2 = some m.cls := hown
  have hl : lv_has ls 1 [(0, .int p0)] := hl
  refine lv_iload_n hx hb dX2_sizeOf_0 rfl (lv_at hl 0 rfl) ?_
  by_cases c1 : p0 = 27
  · skip
    refine k_look (tgt := 60) (off := 59) hx hb dX2_sizeOf_1 c1 (by decide) (by decide) (by decide) ?_
    refine lv_iconst (v := 1) hx hb dX2_sizeOf_60 (by decide) ?_
    exact hret H locs _ ls 1 () dX2_sizeOf_61 (by exact congrArg (fun x => (x, ())) (((if_pos c1).trans (rfl))).symm) trivial hP hD hS
  by_cases c2 : p0 = 29
  · skip
    refine k_look (tgt := 60) (off := 59) hx hb dX2_sizeOf_1 c2 (by decide) (by decide) (by decide) ?_
    refine lv_iconst (v := 1) hx hb dX2_sizeOf_60 (by decide) ?_
    exact hret H locs _ ls 1 () dX2_sizeOf_61 (by exact congrArg (fun x => (x, ())) (((if_neg c1).trans ((if_pos c2).trans (rfl)))).symm) trivial hP hD hS
  by_cases c3 : p0 = 51
  · skip
    refine k_look (tgt := 60) (off := 59) hx hb dX2_sizeOf_1 c3 (by decide) (by decide) (by decide) ?_
    refine lv_iconst (v := 1) hx hb dX2_sizeOf_60 (by decide) ?_
    exact hret H locs _ ls 1 () dX2_sizeOf_61 (by exact congrArg (fun x => (x, ())) (((if_neg c1).trans ((if_neg c2).trans ((if_pos c3).trans (rfl))))).symm) trivial hP hD hS
  by_cases c4 : p0 = 52
  · skip
    refine k_look (tgt := 62) (off := 61) hx hb dX2_sizeOf_1 c4 (by decide) (by decide) (by decide) ?_
    refine lv_iconst (v := 2) hx hb dX2_sizeOf_62 (by decide) ?_
    exact hret H locs _ ls 2 () dX2_sizeOf_63 (by exact congrArg (fun x => (x, ())) (((if_neg c1).trans ((if_neg c2).trans ((if_neg c3).trans ((if_pos c4).trans (rfl)))))).symm) trivial hP hD hS
  by_cases c5 : p0 = 53
  · skip
    refine k_look (tgt := 62) (off := 61) hx hb dX2_sizeOf_1 c5 (by decide) (by decide) (by decide) ?_
    refine lv_iconst (v := 2) hx hb dX2_sizeOf_62 (by decide) ?_
    exact hret H locs _ ls 2 () dX2_sizeOf_63 (by exact congrArg (fun x => (x, ())) (((if_neg c1).trans ((if_neg c2).trans ((if_neg c3).trans ((if_neg c4).trans ((if_pos c5).trans (rfl))))))).symm) trivial hP hD hS
  by_cases c6 : p0 = 54
  · skip
    refine k_look (tgt := 62) (off := 61) hx hb dX2_sizeOf_1 c6 (by decide) (by decide) (by decide) ?_
    refine lv_iconst (v := 2) hx hb dX2_sizeOf_62 (by decide) ?_
    exact hret H locs _ ls 2 () dX2_sizeOf_63 (by exact congrArg (fun x => (x, ())) (((if_neg c1).trans ((if_neg c2).trans ((if_neg c3).trans ((if_neg c4).trans ((if_neg c5).trans ((if_pos c6).trans (rfl)))))))).symm) trivial hP hD hS
  refine k_lookD (tgt := 64) hx hb dX2_sizeOf_1 [27, 29, 51, 52, 53, 54] (List.forall_mem_cons.mpr ⟨c1, List.forall_mem_cons.mpr ⟨c2, List.forall_mem_cons.mpr ⟨c3, List.forall_mem_cons.mpr ⟨c4, List.forall_mem_cons.mpr ⟨c5, List.forall_mem_cons.mpr ⟨c6, fun _ h => absurd h List.not_mem_nil⟩⟩⟩⟩⟩⟩) (by decide) (by decide) (by decide) ?_
  refine lv_iconst (v := 4) hx hb dX2_sizeOf_64 (by decide) ?_
  exact hret H locs _ ls 4 () dX2_sizeOf_65 (by exact congrArg (fun x => (x, ())) (((if_neg c1).trans ((if_neg c2).trans ((if_neg c3).trans ((if_neg c4).trans ((if_neg c5).trans ((if_neg c6).trans (rfl)))))))).symm) trivial hP hD hS
def fX2_extend (ins_op : Int32) (p0 : Int32) : Int32 :=
  if ins_op = 51 then (p0.toInt8.toInt32) else (if ins_op = 53 then (p0.toInt16.toInt32) else (p0))
theorem lkX2_extend_21 : Cond.fieldLink RX2 21 "TwinIssue$Executor" "instruction" "LTwinIssue$Instruction;" ∈ wsX2_extend := by decide +kernel
theorem lkX2_extend_144 : Cond.fieldLink RX2 144 "TwinIssue$Instruction" "op" "I" ∈ wsX2_extend := by decide +kernel
theorem iwX2_extend_X2 : ∀ w ∈ wsX20, w ∈ wsX2_extend := fun _ h => List.mem_cons_of_mem _ (List.mem_append_left _ (List.mem_append_right _ h))
theorem iwX2_extend_X3 : ∀ w ∈ wsX30, w ∈ wsX2_extend := fun _ h => List.mem_cons_of_mem _ (List.mem_append_right _ h)
set_option maxHeartbeats 4000000 in
set_option maxRecDepth 100000 in
theorem mX2_extend (l : Launch) (G : va_G) (cI cB cP : ClassId) (aEx aMe aSt aIn aEf : Nat) (ins_traits : Int32) (ins_op : Int32) (ins_d : Int32) (ins_a : Int32) (ins_b : Int32) (ins_u : Int32) (ins_i : Int32) (ins_j : Int32) (sz : Nat) (p0 : Int32) : kMi (S := Unit) l yX2_extend wsX2_extend ({ frames := 0, cells := 0, slots := 0, locals := 0 }) [.ref aEx, .int p0] G (kTY cI cB cP) sz [(aEx, .inr (2, [.ref aMe, .ref aSt, .ref aIn, .ref aEf])), (aIn, .inr (3, [.int ins_traits, .int ins_op, .int ins_d, .int ins_a, .int ins_b, .int ins_u, .int ins_i, .int ins_j]))] (fX2_extend ins_op p0, ()) (fun _ _ => True) (fun _ => [(aEx, .inr (2, [.ref aMe, .ref aSt, .ref aIn, .ref aEf])), (aIn, .inr (3, [.int ins_traits, .int ins_op, .int ins_d, .int ins_a, .int ins_b, .int ins_u, .int ins_i, .int ins_j]))]) := by
  refine k_ofi (cc := cX2_extend) (maxL := 2) (by decide) rfl (Nat.le_of_ble_eq_true rfl) ?_
  intro p e s m args below meth c A ls Q H locs hx hb hml hown hts hin hK hP hD hA hS hl hret
  have hown : s.vm.findClass RX2 = some m.cls := hown
  have hl : lv_has ls 2 [(0, .ref aEx), (1, .int p0)] := hl
  refine lv_aload_n hx hb dX2_extend_0 rfl (lv_at hl 0 rfl) ?_
  refine va_get (D := G) (ci := 2) (v := .ref aIn) (C := RX2) (T := TX2) (N := 4) hx hb hts iwX2_extend_X2 hown hK hP 0 rfl rfl 2 (by decide) (hts _ lkX2_extend_21) (fun _ h9 => h9) rfl dX2_extend_1 ?_
  refine va_get (D := G) (ci := 3) (v := .int ins_op) (C := RX3) (T := TX3) (N := 8) hx hb hts iwX2_extend_X3 hown hK hP 1 rfl rfl 1 (by decide) (hts _ lkX2_extend_144) (fun _ h9 => h9) rfl dX2_extend_4 ?_
  by_cases c1 : ins_op = 51
  · skip
    refine k_look (tgt := 32) (off := 25) hx hb dX2_extend_7 c1 (by decide) (by decide) (by decide) ?_
    refine lv_iload_n hx hb dX2_extend_32 rfl (lv_at hl 1 rfl) ?_
    refine lv_i2b (v := p0.toInt8.toInt32) hx hb dX2_extend_33 rfl ?_
    exact hret H locs _ ls p0.toInt8.toInt32 () dX2_extend_34 (by exact congrArg (fun x => (x, ())) (((if_pos c1).trans (rfl))).symm) trivial hP hD hS
  by_cases c2 : ins_op = 53
  · skip
    refine k_look (tgt := 35) (off := 28) hx hb dX2_extend_7 c2 (by decide) (by decide) (by decide) ?_
    refine lv_iload_n hx hb dX2_extend_35 rfl (lv_at hl 1 rfl) ?_
    refine lv_i2s (v := p0.toInt16.toInt32) hx hb dX2_extend_36 rfl ?_
    exact hret H locs _ ls p0.toInt16.toInt32 () dX2_extend_37 (by exact congrArg (fun x => (x, ())) (((if_neg c1).trans ((if_pos c2).trans (rfl)))).symm) trivial hP hD hS
  refine k_lookD (tgt := 38) hx hb dX2_extend_7 [51, 53] (List.forall_mem_cons.mpr ⟨c1, List.forall_mem_cons.mpr ⟨c2, fun _ h => absurd h List.not_mem_nil⟩⟩) (by decide) (by decide) (by decide) ?_
  refine lv_iload_n hx hb dX2_extend_38 rfl (lv_at hl 1 rfl) ?_
  exact hret H locs _ ls p0 () dX2_extend_39 (by exact congrArg (fun x => (x, ())) (((if_neg c1).trans ((if_neg c2).trans (rfl)))).symm) trivial hP hD hS
def fX2_single (sp_sr : Int32) (sp_epc : Int32) (sp_esr : Int32) (sp_eea : Int32) (sp_held : Int32) (sp_sum : Int64) (sp_count : Int32) (sp_timer : Int32) (sp_mask : Int32) (sp_retired : Int32) (sp_latch : Int32) (mp_sets : Int32) (li_passed : Int32) (li_size : Int32) (ins_op : Int32) (ins_u : Int32) (ef_exception : Int32) (ef_value : Int32) (wo : Nat → Int32) (co : Nat → Int32) (va : Nat → Int32) : Int32 × Int32 × Int32 :=
  if ins_op = 30 then ((let z1 := fX8_read sp_sr sp_epc sp_esr sp_eea sp_held sp_sum sp_count sp_timer sp_mask sp_retired sp_latch mp_sets li_passed li_size wo co va ins_u; (z1.2, ef_exception, z1.1))) else (if ins_op = 32 then ((li_passed, 12, ef_value)) else (if ins_op = 56 then ((li_passed, 14, ef_value)) else ((li_passed, ef_exception, ef_value))))
theorem lkX2_single_21 : Cond.fieldLink RX2 21 "TwinIssue$Executor" "instruction" "LTwinIssue$Instruction;" ∈ wsX2_single := by decide +kernel
theorem lkX2_single_28 : Cond.fieldLink RX2 28 "TwinIssue$Executor" "effect" "LTwinIssue$Effect;" ∈ wsX2_single := by decide +kernel
theorem lkX2_single_37 : Cond.fieldLink RX2 37 "TwinIssue$Executor" "state" "LTwinIssue$State;" ∈ wsX2_single := by decide +kernel
theorem lkX2_single_41 : Cond.fieldLink RX2 41 "TwinIssue$State" "specials" "LTwinIssue$Specials;" ∈ wsX2_single := by decide +kernel
theorem lkX2_single_86 : Cond.fieldLink RX2 86 "TwinIssue$Effect" "exception" "I" ∈ wsX2_single := by decide +kernel
theorem lkX2_single_144 : Cond.fieldLink RX2 144 "TwinIssue$Instruction" "op" "I" ∈ wsX2_single := by decide +kernel
theorem lkX2_single_150 : Cond.fieldLink RX2 150 "TwinIssue$Effect" "value" "I" ∈ wsX2_single := by decide +kernel
theorem lkX2_single_190 : Cond.fieldLink RX2 190 "TwinIssue$Instruction" "u" "I" ∈ wsX2_single := by decide +kernel
theorem iwX2_single_X0 : ∀ w ∈ wsX00, w ∈ wsX2_single := fun _ h => List.mem_cons_of_mem _ (List.mem_append_left _ (List.mem_append_left _ (List.mem_append_left _ (List.mem_append_right _ h))))
theorem iwX2_single_X2 : ∀ w ∈ wsX20, w ∈ wsX2_single := fun _ h => List.mem_cons_of_mem _ (List.mem_append_left _ (List.mem_append_left _ (List.mem_append_left _ (List.mem_append_left _ (List.mem_append_left _ (List.mem_append_left _ (List.mem_append_right _ h)))))))
theorem iwX2_single_X3 : ∀ w ∈ wsX30, w ∈ wsX2_single := fun _ h => List.mem_cons_of_mem _ (List.mem_append_left _ (List.mem_append_left _ (List.mem_append_left _ (List.mem_append_left _ (List.mem_append_left _ (List.mem_append_right _ h))))))
theorem iwX2_single_X9 : ∀ w ∈ wsX90, w ∈ wsX2_single := fun _ h => List.mem_cons_of_mem _ (List.mem_append_left _ (List.mem_append_left _ (List.mem_append_left _ (List.mem_append_left _ (List.mem_append_right _ h)))))
def sX2_single (sp_sr : Int32) (sp_epc : Int32) (sp_esr : Int32) (sp_eea : Int32) (sp_held : Int32) (sp_sum : Int64) (sp_count : Int32) (sp_timer : Int32) (sp_mask : Int32) (sp_retired : Int32) (sp_latch : Int32) (mp_sets : Int32) (li_passed : Int32) (li_size : Int32) (ins_op : Int32) (ins_u : Int32) (wo : Nat → Int32) (co : Nat → Int32) (va : Nat → Int32) : Prop :=
  (ins_op = 30 → ((sX8_read sp_held sp_retired sp_latch mp_sets li_passed li_size wo co va ins_u) ∧ ((∀ z1, z1 = fX8_read sp_sr sp_epc sp_esr sp_eea sp_held sp_sum sp_count sp_timer sp_mask sp_retired sp_latch mp_sets li_passed li_size wo co va ins_u → True)))) ∧ (¬ (ins_op = 30) → ((ins_op = 32 → True) ∧ (¬ (ins_op = 32) → ((ins_op = 56 → True) ∧ (¬ (ins_op = 56) → True)))))
set_option maxHeartbeats 4000000 in
set_option maxRecDepth 100000 in
theorem mX2_single (l : Launch) (G : va_G) (cI cB cP : ClassId) (aEx aMe aSt aSp aMp aLi aIn aEf aRg aWo aCo aVa : Nat) (st_pc : Int32) (st_inSlot : Int32) (st_branchAt : Int32) (st_target : Int32) (sp_sr : Int32) (sp_epc : Int32) (sp_esr : Int32) (sp_eea : Int32) (sp_held : Int32) (sp_sum : Int64) (sp_count : Int32) (sp_timer : Int32) (sp_mask : Int32) (sp_retired : Int32) (sp_latch : Int32) (mp_sets : Int32) (li_passed : Int32) (li_size : Int32) (ins_traits : Int32) (ins_op : Int32) (ins_d : Int32) (ins_a : Int32) (ins_b : Int32) (ins_u : Int32) (ins_i : Int32) (ins_j : Int32) (ef_exception : Int32) (ef_hasAddress : Int32) (ef_address : Int32) (ef_value : Int32) (ef_size : Int32) (ef_place : Int32) (ef_stored : Int32) (ef_sr : Int32) (ef_sum : Int64) (ef_goes : Int32) (ef_target : Int32) (wo : Nat → Int32) (co : Nat → Int32) (va : Nat → Int32) (sz : Nat) (hs : sX2_single sp_sr sp_epc sp_esr sp_eea sp_held sp_sum sp_count sp_timer sp_mask sp_retired sp_latch mp_sets li_passed li_size ins_op ins_u wo co va) : kMv (S := Int32 × Int32 × Int32) l yX2_single wsX2_single ({ frames := 3, cells := 0, slots := 0, locals := 64 }) [.ref aEx] G (kTY cI cB cP) sz [(aEx, .inr (2, [.ref aMe, .ref aSt, .ref aIn, .ref aEf])), (aSt, .inr (9, [.ref aRg, .ref aSp, .int st_pc, .int st_inSlot, .int st_branchAt, .int st_target])), (aSp, .inr (8, [.ref aMp, .ref aLi, .int sp_sr, .int sp_epc, .int sp_esr, .int sp_eea, .int sp_held, .long sp_sum, .int sp_count, .int sp_timer, .int sp_mask, .int sp_retired, .int sp_latch])), (aMp, .inr (5, [.ref aWo, .int mp_sets])), (aLi, .inr (4, [.ref aCo, .ref aVa, .int li_passed, .int li_size])), (aIn, .inr (3, [.int ins_traits, .int ins_op, .int ins_d, .int ins_a, .int ins_b, .int ins_u, .int ins_i, .int ins_j])), (aEf, .inr (0, [.int ef_exception, .int ef_hasAddress, .int ef_address, .int ef_value, .int ef_size, .int ef_place, .int ef_stored, .int ef_sr, .long ef_sum, .int ef_goes, .int ef_target])), (aWo, .inl (cI, 512, .inl wo)), (aCo, .inl (cI, 32, .inl co)), (aVa, .inl (cI, 32, .inl va))] (fX2_single sp_sr sp_epc sp_esr sp_eea sp_held sp_sum sp_count sp_timer sp_mask sp_retired sp_latch mp_sets li_passed li_size ins_op ins_u ef_exception ef_value wo co va) (fun _ => True) (fun u => [(aEx, .inr (2, [.ref aMe, .ref aSt, .ref aIn, .ref aEf])), (aSt, .inr (9, [.ref aRg, .ref aSp, .int st_pc, .int st_inSlot, .int st_branchAt, .int st_target])), (aSp, .inr (8, [.ref aMp, .ref aLi, .int sp_sr, .int sp_epc, .int sp_esr, .int sp_eea, .int sp_held, .long sp_sum, .int sp_count, .int sp_timer, .int sp_mask, .int sp_retired, .int sp_latch])), (aMp, .inr (5, [.ref aWo, .int mp_sets])), (aLi, .inr (4, [.ref aCo, .ref aVa, .int u.1, .int li_size])), (aIn, .inr (3, [.int ins_traits, .int ins_op, .int ins_d, .int ins_a, .int ins_b, .int ins_u, .int ins_i, .int ins_j])), (aEf, .inr (0, [.int u.2.1, .int ef_hasAddress, .int ef_address, .int u.2.2, .int ef_size, .int ef_place, .int ef_stored, .int ef_sr, .long ef_sum, .int ef_goes, .int ef_target])), (aWo, .inl (cI, 512, .inl wo)), (aCo, .inl (cI, 32, .inl co)), (aVa, .inl (cI, 32, .inl va))]) := by
  refine k_ofv (cc := cX2_single) (maxL := 1) (by decide) rfl (Nat.le_of_ble_eq_true rfl) ?_
  intro p e s m args below meth c A ls Q H locs hx hb hml hown hts hin hK hP hD hA hS hl hret
  have hown : s.vm.findClass RX2 = some m.cls := hown
  have hl : lv_has ls 1 [(0, .ref aEx)] := hl
  unfold sX2_single at hs
  refine lv_aload_n hx hb dX2_single_0 rfl (lv_at hl 0 rfl) ?_
  refine va_get (D := G) (ci := 2) (v := .ref aIn) (C := RX2) (T := TX2) (N := 4) hx hb hts iwX2_single_X2 hown hK hP 0 rfl rfl 2 (by decide) (hts _ lkX2_single_21) (fun _ h9 => h9) rfl dX2_single_1 ?_
  refine va_get (D := G) (ci := 3) (v := .int ins_op) (C := RX3) (T := TX3) (N := 8) hx hb hts iwX2_single_X3 hown hK hP 5 rfl rfl 1 (by decide) (hts _ lkX2_single_144) (fun _ h9 => h9) rfl dX2_single_4 ?_
  by_cases c1 : ins_op = 30
  · have hs := hs.1 c1
    refine k_look (tgt := 40) (off := 33) hx hb dX2_single_7 c1 (by decide) (by decide) (by decide) ?_
    refine lv_aload_n hx hb dX2_single_40 rfl (lv_at hl 0 rfl) ?_
    refine va_get (D := G) (ci := 2) (v := .ref aEf) (C := RX2) (T := TX2) (N := 4) hx hb hts iwX2_single_X2 hown hK hP 0 rfl rfl 3 (by decide) (hts _ lkX2_single_28) (fun _ h9 => h9) rfl dX2_single_41 ?_
    refine lv_aload_n hx hb dX2_single_44 rfl (lv_at hl 0 rfl) ?_
    refine va_get (D := G) (ci := 2) (v := .ref aSt) (C := RX2) (T := TX2) (N := 4) hx hb hts iwX2_single_X2 hown hK hP 0 rfl rfl 1 (by decide) (hts _ lkX2_single_37) (fun _ h9 => h9) rfl dX2_single_45 ?_
    refine va_get (D := G) (ci := 9) (v := .ref aSp) (C := RX9) (T := TX9) (N := 6) hx hb hts iwX2_single_X9 hown hK hP 1 rfl rfl 1 (by decide) (hts _ lkX2_single_41) (fun _ h9 => h9) rfl dX2_single_48 ?_
    refine lv_aload_n hx hb dX2_single_51 rfl (lv_at hl 0 rfl) ?_
    refine va_get (D := G) (ci := 2) (v := .ref aIn) (C := RX2) (T := TX2) (N := 4) hx hb hts iwX2_single_X2 hown hK hP 0 rfl rfl 2 (by decide) (hts _ lkX2_single_21) (fun _ h9 => h9) rfl dX2_single_52 ?_
    refine va_get (D := G) (ci := 3) (v := .int ins_u) (C := RX3) (T := TX3) (N := 8) hx hb hts iwX2_single_X3 hown hK hP 5 rfl rfl 5 (by decide) (hts _ lkX2_single_190) (fun _ h9 => h9) rfl dX2_single_55 ?_
    obtain ⟨o1, hs⟩ := hs
    refine k_iV (As := [.int ins_u]) (rest := [.ref aEf]) (wc := [(aSp, .inr (8, [.ref aMp, .ref aLi, .int sp_sr, .int sp_epc, .int sp_esr, .int sp_eea, .int sp_held, .long sp_sum, .int sp_count, .int sp_timer, .int sp_mask, .int sp_retired, .int sp_latch])), (aMp, .inr (5, [.ref aWo, .int mp_sets])), (aLi, .inr (4, [.ref aCo, .ref aVa, .int li_passed, .int li_size])), (aWo, .inl (cI, 512, .inl wo)), (aCo, .inl (cI, 32, .inl co)), (aVa, .inl (cI, 32, .inl va))]) (wr := [(aEx, .inr (2, [.ref aMe, .ref aSt, .ref aIn, .ref aEf])), (aSt, .inr (9, [.ref aRg, .ref aSp, .int st_pc, .int st_inSlot, .int st_branchAt, .int st_target])), (aIn, .inr (3, [.int ins_traits, .int ins_op, .int ins_d, .int ins_a, .int ins_b, .int ins_u, .int ins_i, .int ins_j])), (aEf, .inr (0, [.int ef_exception, .int ef_hasAddress, .int ef_address, .int ef_value, .int ef_size, .int ef_place, .int ef_stored, .int ef_sr, .long ef_sum, .int ef_goes, .int ef_target]))]) ⟨hx, hb, hml, hown, hts⟩ hK hP hD hS hA [2, 3, 4, 7, 8, 9] [0, 1, 5, 6] rfl rfl rfl rfl (by decide) (mX8_read l G cI cB cP aSp aMp aLi aWo aCo aVa sp_sr sp_epc sp_esr sp_eea sp_held sp_sum sp_count sp_timer sp_mask sp_retired sp_latch mp_sets li_passed li_size wo co va H.size ins_u o1) (cwV 1 hts gX2_single_X8_read rfl rfl rfl (by decide +kernel) ⟨Nat.le_of_ble_eq_true rfl, Nat.le_of_ble_eq_true rfl⟩) 2 8 rfl rfl rfl rfl hl.1 rfl (Nat.le_of_ble_eq_true rfl) dX2_single_58 ⟨Nat.le_of_ble_eq_true rfl, Nat.le_of_ble_eq_true rfl⟩ (fun z1 H locs hz1 hEz1 hP hD hS => ?_)
    have hs := hs z1 hz1
    have hP : va_P G vwCl [(aEx, .inr (2, [.ref aMe, .ref aSt, .ref aIn, .ref aEf])), (aSt, .inr (9, [.ref aRg, .ref aSp, .int st_pc, .int st_inSlot, .int st_branchAt, .int st_target])), (aIn, .inr (3, [.int ins_traits, .int ins_op, .int ins_d, .int ins_a, .int ins_b, .int ins_u, .int ins_i, .int ins_j])), (aEf, .inr (0, [.int ef_exception, .int ef_hasAddress, .int ef_address, .int ef_value, .int ef_size, .int ef_place, .int ef_stored, .int ef_sr, .long ef_sum, .int ef_goes, .int ef_target])), (aSp, .inr (8, [.ref aMp, .ref aLi, .int sp_sr, .int sp_epc, .int sp_esr, .int sp_eea, .int sp_held, .long sp_sum, .int sp_count, .int sp_timer, .int sp_mask, .int sp_retired, .int sp_latch])), (aMp, .inr (5, [.ref aWo, .int mp_sets])), (aLi, .inr (4, [.ref aCo, .ref aVa, .int z1.2, .int li_size])), (aWo, .inl (cI, 512, .inl wo)), (aCo, .inl (cI, 32, .inl co)), (aVa, .inl (cI, 32, .inl va))] H := hP
    have hD : va_D A [(aEx, .inr (2, [.ref aMe, .ref aSt, .ref aIn, .ref aEf])), (aSt, .inr (9, [.ref aRg, .ref aSp, .int st_pc, .int st_inSlot, .int st_branchAt, .int st_target])), (aIn, .inr (3, [.int ins_traits, .int ins_op, .int ins_d, .int ins_a, .int ins_b, .int ins_u, .int ins_i, .int ins_j])), (aEf, .inr (0, [.int ef_exception, .int ef_hasAddress, .int ef_address, .int ef_value, .int ef_size, .int ef_place, .int ef_stored, .int ef_sr, .long ef_sum, .int ef_goes, .int ef_target])), (aSp, .inr (8, [.ref aMp, .ref aLi, .int sp_sr, .int sp_epc, .int sp_esr, .int sp_eea, .int sp_held, .long sp_sum, .int sp_count, .int sp_timer, .int sp_mask, .int sp_retired, .int sp_latch])), (aMp, .inr (5, [.ref aWo, .int mp_sets])), (aLi, .inr (4, [.ref aCo, .ref aVa, .int z1.2, .int li_size])), (aWo, .inl (cI, 512, .inl wo)), (aCo, .inl (cI, 32, .inl co)), (aVa, .inl (cI, 32, .inl va))] := hD
    refine va_put (D := G) (ci := 0) (v := .int z1.1) (ty := .int) (C := RX0) (T := TX0) (N := 11) hx hb hts iwX2_single_X0 tyX0 tyX0_ok nmX0 hown hK hP hD hS 3 rfl rfl 3 (by decide) (hts _ lkX2_single_150) (fun _ h9 => h9) rfl (by decide +kernel) rfl rfl (Nat.le_of_ble_eq_true rfl) dX2_single_61 (fun H locs hP hD hS => ?_)
    have hP : va_P G vwCl [(aEx, .inr (2, [.ref aMe, .ref aSt, .ref aIn, .ref aEf])), (aSt, .inr (9, [.ref aRg, .ref aSp, .int st_pc, .int st_inSlot, .int st_branchAt, .int st_target])), (aIn, .inr (3, [.int ins_traits, .int ins_op, .int ins_d, .int ins_a, .int ins_b, .int ins_u, .int ins_i, .int ins_j])), (aEf, .inr (0, [.int ef_exception, .int ef_hasAddress, .int ef_address, .int z1.1, .int ef_size, .int ef_place, .int ef_stored, .int ef_sr, .long ef_sum, .int ef_goes, .int ef_target])), (aSp, .inr (8, [.ref aMp, .ref aLi, .int sp_sr, .int sp_epc, .int sp_esr, .int sp_eea, .int sp_held, .long sp_sum, .int sp_count, .int sp_timer, .int sp_mask, .int sp_retired, .int sp_latch])), (aMp, .inr (5, [.ref aWo, .int mp_sets])), (aLi, .inr (4, [.ref aCo, .ref aVa, .int z1.2, .int li_size])), (aWo, .inl (cI, 512, .inl wo)), (aCo, .inl (cI, 32, .inl co)), (aVa, .inl (cI, 32, .inl va))] H := hP
    have hD : va_D A [(aEx, .inr (2, [.ref aMe, .ref aSt, .ref aIn, .ref aEf])), (aSt, .inr (9, [.ref aRg, .ref aSp, .int st_pc, .int st_inSlot, .int st_branchAt, .int st_target])), (aIn, .inr (3, [.int ins_traits, .int ins_op, .int ins_d, .int ins_a, .int ins_b, .int ins_u, .int ins_i, .int ins_j])), (aEf, .inr (0, [.int ef_exception, .int ef_hasAddress, .int ef_address, .int z1.1, .int ef_size, .int ef_place, .int ef_stored, .int ef_sr, .long ef_sum, .int ef_goes, .int ef_target])), (aSp, .inr (8, [.ref aMp, .ref aLi, .int sp_sr, .int sp_epc, .int sp_esr, .int sp_eea, .int sp_held, .long sp_sum, .int sp_count, .int sp_timer, .int sp_mask, .int sp_retired, .int sp_latch])), (aMp, .inr (5, [.ref aWo, .int mp_sets])), (aLi, .inr (4, [.ref aCo, .ref aVa, .int z1.2, .int li_size])), (aWo, .inl (cI, 512, .inl wo)), (aCo, .inl (cI, 32, .inl co)), (aVa, .inl (cI, 32, .inl va))] := hD
    refine lv_goto (tgt := 91) hx hb dX2_single_64 (by decide) ?_
    have hP := hP.sub (ws' := [(aEx, .inr (2, [.ref aMe, .ref aSt, .ref aIn, .ref aEf])), (aSt, .inr (9, [.ref aRg, .ref aSp, .int st_pc, .int st_inSlot, .int st_branchAt, .int st_target])), (aSp, .inr (8, [.ref aMp, .ref aLi, .int sp_sr, .int sp_epc, .int sp_esr, .int sp_eea, .int sp_held, .long sp_sum, .int sp_count, .int sp_timer, .int sp_mask, .int sp_retired, .int sp_latch])), (aMp, .inr (5, [.ref aWo, .int mp_sets])), (aLi, .inr (4, [.ref aCo, .ref aVa, .int z1.2, .int li_size])), (aIn, .inr (3, [.int ins_traits, .int ins_op, .int ins_d, .int ins_a, .int ins_b, .int ins_u, .int ins_i, .int ins_j])), (aEf, .inr (0, [.int ef_exception, .int ef_hasAddress, .int ef_address, .int z1.1, .int ef_size, .int ef_place, .int ef_stored, .int ef_sr, .long ef_sum, .int ef_goes, .int ef_target])), (aWo, .inl (cI, 512, .inl wo)), (aCo, .inl (cI, 32, .inl co)), (aVa, .inl (cI, 32, .inl va))]) [0, 1, 4, 5, 6, 2, 3, 7, 8, 9] rfl
    have hD := hD.sub (ws' := [(aEx, .inr (2, [.ref aMe, .ref aSt, .ref aIn, .ref aEf])), (aSt, .inr (9, [.ref aRg, .ref aSp, .int st_pc, .int st_inSlot, .int st_branchAt, .int st_target])), (aSp, .inr (8, [.ref aMp, .ref aLi, .int sp_sr, .int sp_epc, .int sp_esr, .int sp_eea, .int sp_held, .long sp_sum, .int sp_count, .int sp_timer, .int sp_mask, .int sp_retired, .int sp_latch])), (aMp, .inr (5, [.ref aWo, .int mp_sets])), (aLi, .inr (4, [.ref aCo, .ref aVa, .int z1.2, .int li_size])), (aIn, .inr (3, [.int ins_traits, .int ins_op, .int ins_d, .int ins_a, .int ins_b, .int ins_u, .int ins_i, .int ins_j])), (aEf, .inr (0, [.int ef_exception, .int ef_hasAddress, .int ef_address, .int z1.1, .int ef_size, .int ef_place, .int ef_stored, .int ef_sr, .long ef_sum, .int ef_goes, .int ef_target])), (aWo, .inl (cI, 512, .inl wo)), (aCo, .inl (cI, 32, .inl co)), (aVa, .inl (cI, 32, .inl va))]) [0, 1, 4, 5, 6, 2, 3, 7, 8, 9] (by decide) rfl
    exact hret H locs _ ls (z1.2, ef_exception, z1.1) dX2_single_91 (by clear hP hD hS hl; replace hz1 := hz1.symm; subst hz1; exact (((if_pos c1).trans (rfl))).symm) trivial hP hD hS
  have hs := hs.2 c1
  by_cases c2 : ins_op = 32
  · have hs := hs.1 c2
    refine k_look (tgt := 67) (off := 60) hx hb dX2_single_7 c2 (by decide) (by decide) (by decide) ?_
    refine lv_aload_n hx hb dX2_single_67 rfl (lv_at hl 0 rfl) ?_
    refine va_get (D := G) (ci := 2) (v := .ref aEf) (C := RX2) (T := TX2) (N := 4) hx hb hts iwX2_single_X2 hown hK hP 0 rfl rfl 3 (by decide) (hts _ lkX2_single_28) (fun _ h9 => h9) rfl dX2_single_68 ?_
    refine lv_bipush (v := 12) hx hb dX2_single_71 (by decide) ?_
    refine va_put (D := G) (ci := 0) (v := .int 12) (ty := .int) (C := RX0) (T := TX0) (N := 11) hx hb hts iwX2_single_X0 tyX0 tyX0_ok nmX0 hown hK hP hD hS 6 rfl rfl 0 (by decide) (hts _ lkX2_single_86) (fun _ h9 => h9) rfl (by decide +kernel) rfl rfl (Nat.le_of_ble_eq_true rfl) dX2_single_73 (fun H locs hP hD hS => ?_)
    have hP : va_P G vwCl [(aEx, .inr (2, [.ref aMe, .ref aSt, .ref aIn, .ref aEf])), (aSt, .inr (9, [.ref aRg, .ref aSp, .int st_pc, .int st_inSlot, .int st_branchAt, .int st_target])), (aSp, .inr (8, [.ref aMp, .ref aLi, .int sp_sr, .int sp_epc, .int sp_esr, .int sp_eea, .int sp_held, .long sp_sum, .int sp_count, .int sp_timer, .int sp_mask, .int sp_retired, .int sp_latch])), (aMp, .inr (5, [.ref aWo, .int mp_sets])), (aLi, .inr (4, [.ref aCo, .ref aVa, .int li_passed, .int li_size])), (aIn, .inr (3, [.int ins_traits, .int ins_op, .int ins_d, .int ins_a, .int ins_b, .int ins_u, .int ins_i, .int ins_j])), (aEf, .inr (0, [.int 12, .int ef_hasAddress, .int ef_address, .int ef_value, .int ef_size, .int ef_place, .int ef_stored, .int ef_sr, .long ef_sum, .int ef_goes, .int ef_target])), (aWo, .inl (cI, 512, .inl wo)), (aCo, .inl (cI, 32, .inl co)), (aVa, .inl (cI, 32, .inl va))] H := hP
    have hD : va_D A [(aEx, .inr (2, [.ref aMe, .ref aSt, .ref aIn, .ref aEf])), (aSt, .inr (9, [.ref aRg, .ref aSp, .int st_pc, .int st_inSlot, .int st_branchAt, .int st_target])), (aSp, .inr (8, [.ref aMp, .ref aLi, .int sp_sr, .int sp_epc, .int sp_esr, .int sp_eea, .int sp_held, .long sp_sum, .int sp_count, .int sp_timer, .int sp_mask, .int sp_retired, .int sp_latch])), (aMp, .inr (5, [.ref aWo, .int mp_sets])), (aLi, .inr (4, [.ref aCo, .ref aVa, .int li_passed, .int li_size])), (aIn, .inr (3, [.int ins_traits, .int ins_op, .int ins_d, .int ins_a, .int ins_b, .int ins_u, .int ins_i, .int ins_j])), (aEf, .inr (0, [.int 12, .int ef_hasAddress, .int ef_address, .int ef_value, .int ef_size, .int ef_place, .int ef_stored, .int ef_sr, .long ef_sum, .int ef_goes, .int ef_target])), (aWo, .inl (cI, 512, .inl wo)), (aCo, .inl (cI, 32, .inl co)), (aVa, .inl (cI, 32, .inl va))] := hD
    refine lv_goto (tgt := 91) hx hb dX2_single_76 (by decide) ?_
    exact hret H locs _ ls (li_passed, 12, ef_value) dX2_single_91 ((if_neg c1).trans ((if_pos c2).trans (rfl))).symm trivial hP hD hS
  have hs := hs.2 c2
  by_cases c3 : ins_op = 56
  · have hs := hs.1 c3
    refine k_look (tgt := 79) (off := 72) hx hb dX2_single_7 c3 (by decide) (by decide) (by decide) ?_
    refine lv_aload_n hx hb dX2_single_79 rfl (lv_at hl 0 rfl) ?_
    refine va_get (D := G) (ci := 2) (v := .ref aEf) (C := RX2) (T := TX2) (N := 4) hx hb hts iwX2_single_X2 hown hK hP 0 rfl rfl 3 (by decide) (hts _ lkX2_single_28) (fun _ h9 => h9) rfl dX2_single_80 ?_
    refine lv_bipush (v := 14) hx hb dX2_single_83 (by decide) ?_
    refine va_put (D := G) (ci := 0) (v := .int 14) (ty := .int) (C := RX0) (T := TX0) (N := 11) hx hb hts iwX2_single_X0 tyX0 tyX0_ok nmX0 hown hK hP hD hS 6 rfl rfl 0 (by decide) (hts _ lkX2_single_86) (fun _ h9 => h9) rfl (by decide +kernel) rfl rfl (Nat.le_of_ble_eq_true rfl) dX2_single_85 (fun H locs hP hD hS => ?_)
    have hP : va_P G vwCl [(aEx, .inr (2, [.ref aMe, .ref aSt, .ref aIn, .ref aEf])), (aSt, .inr (9, [.ref aRg, .ref aSp, .int st_pc, .int st_inSlot, .int st_branchAt, .int st_target])), (aSp, .inr (8, [.ref aMp, .ref aLi, .int sp_sr, .int sp_epc, .int sp_esr, .int sp_eea, .int sp_held, .long sp_sum, .int sp_count, .int sp_timer, .int sp_mask, .int sp_retired, .int sp_latch])), (aMp, .inr (5, [.ref aWo, .int mp_sets])), (aLi, .inr (4, [.ref aCo, .ref aVa, .int li_passed, .int li_size])), (aIn, .inr (3, [.int ins_traits, .int ins_op, .int ins_d, .int ins_a, .int ins_b, .int ins_u, .int ins_i, .int ins_j])), (aEf, .inr (0, [.int 14, .int ef_hasAddress, .int ef_address, .int ef_value, .int ef_size, .int ef_place, .int ef_stored, .int ef_sr, .long ef_sum, .int ef_goes, .int ef_target])), (aWo, .inl (cI, 512, .inl wo)), (aCo, .inl (cI, 32, .inl co)), (aVa, .inl (cI, 32, .inl va))] H := hP
    have hD : va_D A [(aEx, .inr (2, [.ref aMe, .ref aSt, .ref aIn, .ref aEf])), (aSt, .inr (9, [.ref aRg, .ref aSp, .int st_pc, .int st_inSlot, .int st_branchAt, .int st_target])), (aSp, .inr (8, [.ref aMp, .ref aLi, .int sp_sr, .int sp_epc, .int sp_esr, .int sp_eea, .int sp_held, .long sp_sum, .int sp_count, .int sp_timer, .int sp_mask, .int sp_retired, .int sp_latch])), (aMp, .inr (5, [.ref aWo, .int mp_sets])), (aLi, .inr (4, [.ref aCo, .ref aVa, .int li_passed, .int li_size])), (aIn, .inr (3, [.int ins_traits, .int ins_op, .int ins_d, .int ins_a, .int ins_b, .int ins_u, .int ins_i, .int ins_j])), (aEf, .inr (0, [.int 14, .int ef_hasAddress, .int ef_address, .int ef_value, .int ef_size, .int ef_place, .int ef_stored, .int ef_sr, .long ef_sum, .int ef_goes, .int ef_target])), (aWo, .inl (cI, 512, .inl wo)), (aCo, .inl (cI, 32, .inl co)), (aVa, .inl (cI, 32, .inl va))] := hD
    refine lv_goto (tgt := 91) hx hb dX2_single_88 (by decide) ?_
    exact hret H locs _ ls (li_passed, 14, ef_value) dX2_single_91 ((if_neg c1).trans ((if_neg c2).trans ((if_pos c3).trans (rfl)))).symm trivial hP hD hS
  have hs := hs.2 c3
  refine k_lookD (tgt := 91) hx hb dX2_single_7 [30, 32, 56] (List.forall_mem_cons.mpr ⟨c1, List.forall_mem_cons.mpr ⟨c2, List.forall_mem_cons.mpr ⟨c3, fun _ h => absurd h List.not_mem_nil⟩⟩⟩) (by decide) (by decide) (by decide) ?_
  exact hret H locs _ ls (li_passed, ef_exception, ef_value) dX2_single_91 ((if_neg c1).trans ((if_neg c2).trans ((if_neg c3).trans (rfl)))).symm trivial hP hD hS
def fX2_holds (p0 : Int32) (p1 : Int32) : Int32 :=
  if p0 = 0 then (if p1 = 0 then (1) else (0)) else (if p0 = 1 then (if p1 = 0 then (0) else (1)) else (if p0 = 2 then (if p1 ≤ 0 then (0) else (1)) else (if p0 = 3 then (if p1 < 0 then (0) else (1)) else (if p0 = 4 then (if 0 ≤ p1 then (0) else (1)) else (if 0 < p1 then (0) else (1))))))
set_option maxHeartbeats 4000000 in
set_option maxRecDepth 100000 in
theorem mX2_holds (l : Launch) (G : va_G) (cI cB cP : ClassId) (sz : Nat) (p0 : Int32) (p1 : Int32) : kMi (S := Unit) l yX2_holds wsX2_holds ({ frames := 0, cells := 0, slots := 0, locals := 0 }) [.int p0, .int p1] G (kTY cI cB cP) sz [] (fX2_holds p0 p1, ()) (fun r _ => isB r) (fun _ => []) := by
  refine k_ofz (cc := cX2_holds) (maxL := 2) (by decide) rfl (Nat.le_of_ble_eq_true rfl) ?_
  intro p e s m args below meth c A ls Q H locs hx hb hml hown hts hin hK hP hD hA hS hl hret
  have hown : s.vm.findClass RX2 = some m.cls := hown
  have hl : lv_has ls 2 [(0, .int p0), (1, .int p1)] := hl
  refine lv_iload_n hx hb dX2_holds_0 rfl (lv_at hl 0 rfl) ?_
  by_cases c1 : p0 = 0
  · skip
    refine k_tab (tgt := 36) hx hb dX2_holds_1 c1 (by decide) (by decide) rfl (by decide) ?_
    refine lv_iload_n hx hb dX2_holds_36 rfl (lv_at hl 1 rfl) ?_
    refine lv_if_ne (tgt := 44) hx hb dX2_holds_37 (by decide) (fun c2 => ?_) (fun c2 => ?_)
    · skip
      refine lv_iconst (v := 0) hx hb dX2_holds_44 (by decide) ?_
      exact hret H locs _ ls 0 () dX2_holds_45 (by exact congrArg (fun x => (x, ())) (((if_pos c1).trans ((if_neg c2).trans (rfl)))).symm) (Or.inl rfl) (Or.inl rfl) hP hD hS
    · skip
      refine lv_iconst (v := 1) hx hb dX2_holds_40 (by decide) ?_
      refine lv_goto (tgt := 45) hx hb dX2_holds_41 (by decide) ?_
      exact hret H locs _ ls 1 () dX2_holds_45 (by exact congrArg (fun x => (x, ())) (((if_pos c1).trans ((if_pos c2).trans (rfl)))).symm) (Or.inr rfl) (Or.inr rfl) hP hD hS
  by_cases c3 : p0 = 1
  · skip
    refine k_tab (tgt := 46) hx hb dX2_holds_1 c3 (by decide) (by decide) rfl (by decide) ?_
    refine lv_iload_n hx hb dX2_holds_46 rfl (lv_at hl 1 rfl) ?_
    refine lv_if_eq (tgt := 54) hx hb dX2_holds_47 (by decide) (fun c4 => ?_) (fun c4 => ?_)
    · skip
      refine lv_iconst (v := 0) hx hb dX2_holds_54 (by decide) ?_
      exact hret H locs _ ls 0 () dX2_holds_55 (by exact congrArg (fun x => (x, ())) (((if_neg c1).trans ((if_pos c3).trans ((if_pos c4).trans (rfl))))).symm) (Or.inl rfl) (Or.inl rfl) hP hD hS
    · skip
      refine lv_iconst (v := 1) hx hb dX2_holds_50 (by decide) ?_
      refine lv_goto (tgt := 55) hx hb dX2_holds_51 (by decide) ?_
      exact hret H locs _ ls 1 () dX2_holds_55 (by exact congrArg (fun x => (x, ())) (((if_neg c1).trans ((if_pos c3).trans ((if_neg c4).trans (rfl))))).symm) (Or.inr rfl) (Or.inr rfl) hP hD hS
  by_cases c5 : p0 = 2
  · skip
    refine k_tab (tgt := 56) hx hb dX2_holds_1 c5 (by decide) (by decide) rfl (by decide) ?_
    refine lv_iload_n hx hb dX2_holds_56 rfl (lv_at hl 1 rfl) ?_
    refine lv_if_le (tgt := 64) hx hb dX2_holds_57 (by decide) (fun c6 => ?_) (fun c6 => ?_)
    · skip
      refine lv_iconst (v := 0) hx hb dX2_holds_64 (by decide) ?_
      exact hret H locs _ ls 0 () dX2_holds_65 (by exact congrArg (fun x => (x, ())) (((if_neg c1).trans ((if_neg c3).trans ((if_pos c5).trans ((if_pos c6).trans (rfl)))))).symm) (Or.inl rfl) (Or.inl rfl) hP hD hS
    · skip
      refine lv_iconst (v := 1) hx hb dX2_holds_60 (by decide) ?_
      refine lv_goto (tgt := 65) hx hb dX2_holds_61 (by decide) ?_
      exact hret H locs _ ls 1 () dX2_holds_65 (by exact congrArg (fun x => (x, ())) (((if_neg c1).trans ((if_neg c3).trans ((if_pos c5).trans ((if_neg c6).trans (rfl)))))).symm) (Or.inr rfl) (Or.inr rfl) hP hD hS
  by_cases c7 : p0 = 3
  · skip
    refine k_tab (tgt := 66) hx hb dX2_holds_1 c7 (by decide) (by decide) rfl (by decide) ?_
    refine lv_iload_n hx hb dX2_holds_66 rfl (lv_at hl 1 rfl) ?_
    refine lv_if_lt (tgt := 74) hx hb dX2_holds_67 (by decide) (fun c8 => ?_) (fun c8 => ?_)
    · skip
      refine lv_iconst (v := 0) hx hb dX2_holds_74 (by decide) ?_
      exact hret H locs _ ls 0 () dX2_holds_75 (by exact congrArg (fun x => (x, ())) (((if_neg c1).trans ((if_neg c3).trans ((if_neg c5).trans ((if_pos c7).trans ((if_pos c8).trans (rfl))))))).symm) (Or.inl rfl) (Or.inl rfl) hP hD hS
    · skip
      refine lv_iconst (v := 1) hx hb dX2_holds_70 (by decide) ?_
      refine lv_goto (tgt := 75) hx hb dX2_holds_71 (by decide) ?_
      exact hret H locs _ ls 1 () dX2_holds_75 (by exact congrArg (fun x => (x, ())) (((if_neg c1).trans ((if_neg c3).trans ((if_neg c5).trans ((if_pos c7).trans ((if_neg c8).trans (rfl))))))).symm) (Or.inr rfl) (Or.inr rfl) hP hD hS
  by_cases c9 : p0 = 4
  · skip
    refine k_tab (tgt := 76) hx hb dX2_holds_1 c9 (by decide) (by decide) rfl (by decide) ?_
    refine lv_iload_n hx hb dX2_holds_76 rfl (lv_at hl 1 rfl) ?_
    refine lv_if_ge (tgt := 84) hx hb dX2_holds_77 (by decide) (fun c10 => ?_) (fun c10 => ?_)
    · skip
      refine lv_iconst (v := 0) hx hb dX2_holds_84 (by decide) ?_
      exact hret H locs _ ls 0 () dX2_holds_85 (by exact congrArg (fun x => (x, ())) (((if_neg c1).trans ((if_neg c3).trans ((if_neg c5).trans ((if_neg c7).trans ((if_pos c9).trans ((if_pos c10).trans (rfl)))))))).symm) (Or.inl rfl) (Or.inl rfl) hP hD hS
    · skip
      refine lv_iconst (v := 1) hx hb dX2_holds_80 (by decide) ?_
      refine lv_goto (tgt := 85) hx hb dX2_holds_81 (by decide) ?_
      exact hret H locs _ ls 1 () dX2_holds_85 (by exact congrArg (fun x => (x, ())) (((if_neg c1).trans ((if_neg c3).trans ((if_neg c5).trans ((if_neg c7).trans ((if_pos c9).trans ((if_neg c10).trans (rfl)))))))).symm) (Or.inr rfl) (Or.inr rfl) hP hD hS
  refine k_tabD (tgt := 86) hx hb dX2_holds_1 [0, 1, 2, 3, 4] (List.forall_mem_cons.mpr ⟨c1, List.forall_mem_cons.mpr ⟨c3, List.forall_mem_cons.mpr ⟨c5, List.forall_mem_cons.mpr ⟨c7, List.forall_mem_cons.mpr ⟨c9, fun _ h => absurd h List.not_mem_nil⟩⟩⟩⟩⟩) (by decide) (by decide) (by decide) ?_
  refine lv_iload_n hx hb dX2_holds_86 rfl (lv_at hl 1 rfl) ?_
  refine lv_if_gt (tgt := 94) hx hb dX2_holds_87 (by decide) (fun c11 => ?_) (fun c11 => ?_)
  · skip
    refine lv_iconst (v := 0) hx hb dX2_holds_94 (by decide) ?_
    exact hret H locs _ ls 0 () dX2_holds_95 (by exact congrArg (fun x => (x, ())) (((if_neg c1).trans ((if_neg c3).trans ((if_neg c5).trans ((if_neg c7).trans ((if_neg c9).trans ((if_pos c11).trans (rfl)))))))).symm) (Or.inl rfl) (Or.inl rfl) hP hD hS
  · skip
    refine lv_iconst (v := 1) hx hb dX2_holds_90 (by decide) ?_
    refine lv_goto (tgt := 95) hx hb dX2_holds_91 (by decide) ?_
    exact hret H locs _ ls 1 () dX2_holds_95 (by exact congrArg (fun x => (x, ())) (((if_neg c1).trans ((if_neg c3).trans ((if_neg c5).trans ((if_neg c7).trans ((if_neg c9).trans ((if_neg c11).trans (rfl)))))))).symm) (Or.inr rfl) (Or.inr rfl) hP hD hS
def fX2_compare (ins_traits : Int32) (ins_d : Int32) (ins_a : Int32) (ins_b : Int32) (ins_i : Int32) (ef_sr : Int32) (rg : Nat → Int32) : Int32 :=
  (let z1 := (fX3_is ins_traits 2, ()); (let j2 : Int32 := if z1.1 = 0 then (ins_i) else (rg ins_b.toNatClampNeg); (let j3 : Int32 := if 5 < ins_d then ((let z3 := fJ6_compare_7cf53 (rg ins_a.toNatClampNeg) j2; z3)) else ((let z4 := fJ6_compareUnsigned_7cf53 (rg ins_a.toNatClampNeg) j2; z4)); (let j4 : Int32 := if 5 < ins_d then (ins_d - 4) else (ins_d); (let z5 := fX2_holds j4 j3; (let z6 := fX0_setBit ef_sr 32 z5; z6))))))
theorem lkX2_compare_21 : Cond.fieldLink RX2 21 "TwinIssue$Executor" "instruction" "LTwinIssue$Instruction;" ∈ wsX2_compare := by decide +kernel
theorem lkX2_compare_28 : Cond.fieldLink RX2 28 "TwinIssue$Executor" "effect" "LTwinIssue$Effect;" ∈ wsX2_compare := by decide +kernel
theorem lkX2_compare_37 : Cond.fieldLink RX2 37 "TwinIssue$Executor" "state" "LTwinIssue$State;" ∈ wsX2_compare := by decide +kernel
theorem lkX2_compare_124 : Cond.fieldLink RX2 124 "TwinIssue$State" "registers" "[I" ∈ wsX2_compare := by decide +kernel
theorem lkX2_compare_128 : Cond.fieldLink RX2 128 "TwinIssue$Instruction" "a" "I" ∈ wsX2_compare := by decide +kernel
theorem lkX2_compare_131 : Cond.fieldLink RX2 131 "TwinIssue$Instruction" "b" "I" ∈ wsX2_compare := by decide +kernel
theorem lkX2_compare_159 : Cond.fieldLink RX2 159 "TwinIssue$Instruction" "i" "I" ∈ wsX2_compare := by decide +kernel
theorem lkX2_compare_175 : Cond.fieldLink RX2 175 "TwinIssue$Instruction" "d" "I" ∈ wsX2_compare := by decide +kernel
theorem iwX2_compare_X2 : ∀ w ∈ wsX20, w ∈ wsX2_compare := fun _ h => List.mem_cons_of_mem _ (List.mem_append_left _ (List.mem_append_left _ (List.mem_append_left _ (List.mem_append_right _ h))))
theorem iwX2_compare_X3 : ∀ w ∈ wsX30, w ∈ wsX2_compare := fun _ h => List.mem_cons_of_mem _ (List.mem_append_left _ (List.mem_append_right _ h))
theorem iwX2_compare_X9 : ∀ w ∈ wsX90, w ∈ wsX2_compare := fun _ h => List.mem_cons_of_mem _ (List.mem_append_left _ (List.mem_append_left _ (List.mem_append_right _ h)))
def sX2_compare (ins_traits : Int32) (ins_d : Int32) (ins_a : Int32) (ins_b : Int32) (ins_i : Int32) (ef_sr : Int32) (rg : Nat → Int32) : Prop :=
  (vp_in ins_a 32) ∧ ((∀ z1, z1 = (fX3_is ins_traits 2, ()) → (((z1.1 = 0 → True) ∧ (¬ (z1.1 = 0) → ((vp_in ins_b 32) ∧ True))) ∧ (∀ j2 : Int32, j2 = (if z1.1 = 0 then (ins_i) else (rg ins_b.toNatClampNeg)) → (((5 < ins_d → ((∀ z7, z7 = fJ6_compare_7cf53 (rg ins_a.toNatClampNeg) j2 → True))) ∧ (¬ (5 < ins_d) → ((∀ z8, z8 = fJ6_compareUnsigned_7cf53 (rg ins_a.toNatClampNeg) j2 → True)))) ∧ (∀ j3 : Int32, j3 = (if 5 < ins_d then ((let z3 := fJ6_compare_7cf53 (rg ins_a.toNatClampNeg) j2; z3)) else ((let z4 := fJ6_compareUnsigned_7cf53 (rg ins_a.toNatClampNeg) j2; z4))) → (((5 < ins_d → True) ∧ (¬ (5 < ins_d) → True)) ∧ (∀ j4 : Int32, j4 = (if 5 < ins_d then (ins_d - 4) else (ins_d)) → ((∀ z5, z5 = fX2_holds j4 j3 → ((∀ z6, z6 = fX0_setBit ef_sr 32 z5 → True))))))))))))
set_option maxHeartbeats 4000000 in
set_option maxRecDepth 100000 in
theorem mX2_compare (l : Launch) (G : va_G) (cI cB cP : ClassId) (aEx aMe aSt aSp aIn aEf aRg : Nat) (st_pc : Int32) (st_inSlot : Int32) (st_branchAt : Int32) (st_target : Int32) (ins_traits : Int32) (ins_op : Int32) (ins_d : Int32) (ins_a : Int32) (ins_b : Int32) (ins_u : Int32) (ins_i : Int32) (ins_j : Int32) (ef_exception : Int32) (ef_hasAddress : Int32) (ef_address : Int32) (ef_value : Int32) (ef_size : Int32) (ef_place : Int32) (ef_stored : Int32) (ef_sr : Int32) (ef_sum : Int64) (ef_goes : Int32) (ef_target : Int32) (rg : Nat → Int32) (sz : Nat) (hs : sX2_compare ins_traits ins_d ins_a ins_b ins_i ef_sr rg) : kMv (S := Int32) l yX2_compare wsX2_compare ({ frames := 2, cells := 0, slots := 0, locals := 42 }) [.ref aEx] G (kTY cI cB cP) sz [(aEx, .inr (2, [.ref aMe, .ref aSt, .ref aIn, .ref aEf])), (aSt, .inr (9, [.ref aRg, .ref aSp, .int st_pc, .int st_inSlot, .int st_branchAt, .int st_target])), (aIn, .inr (3, [.int ins_traits, .int ins_op, .int ins_d, .int ins_a, .int ins_b, .int ins_u, .int ins_i, .int ins_j])), (aEf, .inr (0, [.int ef_exception, .int ef_hasAddress, .int ef_address, .int ef_value, .int ef_size, .int ef_place, .int ef_stored, .int ef_sr, .long ef_sum, .int ef_goes, .int ef_target])), (aRg, .inl (cI, 32, .inl rg))] (fX2_compare ins_traits ins_d ins_a ins_b ins_i ef_sr rg) (fun _ => True) (fun u => [(aEx, .inr (2, [.ref aMe, .ref aSt, .ref aIn, .ref aEf])), (aSt, .inr (9, [.ref aRg, .ref aSp, .int st_pc, .int st_inSlot, .int st_branchAt, .int st_target])), (aIn, .inr (3, [.int ins_traits, .int ins_op, .int ins_d, .int ins_a, .int ins_b, .int ins_u, .int ins_i, .int ins_j])), (aEf, .inr (0, [.int ef_exception, .int ef_hasAddress, .int ef_address, .int ef_value, .int ef_size, .int ef_place, .int ef_stored, .int u, .long ef_sum, .int ef_goes, .int ef_target])), (aRg, .inl (cI, 32, .inl rg))]) := by
  refine k_ofv (cc := cX2_compare) (maxL := 5) (by decide) rfl (Nat.le_of_ble_eq_true rfl) ?_
  intro p e s m args below meth c A ls Q H locs hx hb hml hown hts hin hK hP hD hA hS hl hret
  have hown : s.vm.findClass RX2 = some m.cls := hown
  have hl : lv_has ls 5 [(0, .ref aEx)] := hl
  unfold sX2_compare at hs
  refine lv_aload_n hx hb dX2_compare_0 rfl (lv_at hl 0 rfl) ?_
  refine va_get (D := G) (ci := 2) (v := .ref aSt) (C := RX2) (T := TX2) (N := 4) hx hb hts iwX2_compare_X2 hown hK hP 0 rfl rfl 1 (by decide) (hts _ lkX2_compare_37) (fun _ h9 => h9) rfl dX2_compare_1 ?_
  refine va_get (D := G) (ci := 9) (v := .ref aRg) (C := RX9) (T := TX9) (N := 6) hx hb hts iwX2_compare_X9 hown hK hP 1 rfl rfl 0 (by decide) (hts _ lkX2_compare_124) (fun _ h9 => h9) rfl dX2_compare_4 ?_
  refine lv_aload_n hx hb dX2_compare_7 rfl (lv_at hl 0 rfl) ?_
  refine va_get (D := G) (ci := 2) (v := .ref aIn) (C := RX2) (T := TX2) (N := 4) hx hb hts iwX2_compare_X2 hown hK hP 0 rfl rfl 2 (by decide) (hts _ lkX2_compare_21) (fun _ h9 => h9) rfl dX2_compare_8 ?_
  refine va_get (D := G) (ci := 3) (v := .int ins_a) (C := RX3) (T := TX3) (N := 8) hx hb hts iwX2_compare_X3 hown hK hP 2 rfl rfl 3 (by decide) (hts _ lkX2_compare_128) (fun _ h9 => h9) rfl dX2_compare_11 ?_
  obtain ⟨o1, hs⟩ := hs
  refine va_iald hx hb hK hP 4 0 rfl rfl o1 dX2_compare_14 ?_
  refine lv_istore_n (lv' := [(1, .int (rg ins_a.toNatClampNeg)), (0, .ref aEx)]) hx hb dX2_compare_15 rfl hl (by decide) rfl (fun ls hl => ?_)
  refine lv_aload_n hx hb dX2_compare_16 rfl (lv_at hl 1 rfl) ?_
  refine va_get (D := G) (ci := 2) (v := .ref aIn) (C := RX2) (T := TX2) (N := 4) hx hb hts iwX2_compare_X2 hown hK hP 0 rfl rfl 2 (by decide) (hts _ lkX2_compare_21) (fun _ h9 => h9) rfl dX2_compare_17 ?_
  refine lv_iconst (v := 2) hx hb dX2_compare_20 (by decide) ?_
  refine k_iV (As := [.int 2]) (rest := []) (wc := [(aIn, .inr (3, [.int ins_traits, .int ins_op, .int ins_d, .int ins_a, .int ins_b, .int ins_u, .int ins_i, .int ins_j]))]) (wr := [(aEx, .inr (2, [.ref aMe, .ref aSt, .ref aIn, .ref aEf])), (aSt, .inr (9, [.ref aRg, .ref aSp, .int st_pc, .int st_inSlot, .int st_branchAt, .int st_target])), (aEf, .inr (0, [.int ef_exception, .int ef_hasAddress, .int ef_address, .int ef_value, .int ef_size, .int ef_place, .int ef_stored, .int ef_sr, .long ef_sum, .int ef_goes, .int ef_target])), (aRg, .inl (cI, 32, .inl rg))]) ⟨hx, hb, hml, hown, hts⟩ hK hP hD hS hA [2] [0, 1, 3, 4] rfl rfl rfl rfl (by decide) (mX3_is l G cI cB cP aIn ins_traits ins_op ins_d ins_a ins_b ins_u ins_i ins_j H.size 2 ) (cwV 1 hts gX2_compare_X3_is rfl rfl rfl (by decide +kernel) ⟨Nat.le_of_ble_eq_true rfl, Nat.le_of_ble_eq_true rfl⟩) 2 3 rfl rfl rfl rfl hl.1 rfl (Nat.le_of_ble_eq_true rfl) dX2_compare_21 ⟨Nat.le_of_ble_eq_true rfl, Nat.le_of_ble_eq_true rfl⟩ (fun z1 H locs hz1 hEz1 hP hD hS => ?_)
  have hs := hs z1 hz1
  have hP : va_P G vwCl [(aEx, .inr (2, [.ref aMe, .ref aSt, .ref aIn, .ref aEf])), (aSt, .inr (9, [.ref aRg, .ref aSp, .int st_pc, .int st_inSlot, .int st_branchAt, .int st_target])), (aEf, .inr (0, [.int ef_exception, .int ef_hasAddress, .int ef_address, .int ef_value, .int ef_size, .int ef_place, .int ef_stored, .int ef_sr, .long ef_sum, .int ef_goes, .int ef_target])), (aRg, .inl (cI, 32, .inl rg)), (aIn, .inr (3, [.int ins_traits, .int ins_op, .int ins_d, .int ins_a, .int ins_b, .int ins_u, .int ins_i, .int ins_j]))] H := hP
  have hD : va_D A [(aEx, .inr (2, [.ref aMe, .ref aSt, .ref aIn, .ref aEf])), (aSt, .inr (9, [.ref aRg, .ref aSp, .int st_pc, .int st_inSlot, .int st_branchAt, .int st_target])), (aEf, .inr (0, [.int ef_exception, .int ef_hasAddress, .int ef_address, .int ef_value, .int ef_size, .int ef_place, .int ef_stored, .int ef_sr, .long ef_sum, .int ef_goes, .int ef_target])), (aRg, .inl (cI, 32, .inl rg)), (aIn, .inr (3, [.int ins_traits, .int ins_op, .int ins_d, .int ins_a, .int ins_b, .int ins_u, .int ins_i, .int ins_j]))] := hD
  have Kj2 : ∀ (j2 : Int32) (H : Heap) (locs : List Loc) (ls : Array Slot), j2 = (if z1.1 = 0 then (ins_i) else (rg ins_b.toNatClampNeg)) → va_P G vwCl [(aEx, .inr (2, [.ref aMe, .ref aSt, .ref aIn, .ref aEf])), (aSt, .inr (9, [.ref aRg, .ref aSp, .int st_pc, .int st_inSlot, .int st_branchAt, .int st_target])), (aEf, .inr (0, [.int ef_exception, .int ef_hasAddress, .int ef_address, .int ef_value, .int ef_size, .int ef_place, .int ef_stored, .int ef_sr, .long ef_sum, .int ef_goes, .int ef_target])), (aRg, .inl (cI, 32, .inl rg)), (aIn, .inr (3, [.int ins_traits, .int ins_op, .int ins_d, .int ins_a, .int ins_b, .int ins_u, .int ins_i, .int ins_j]))] H → va_D A [(aEx, .inr (2, [.ref aMe, .ref aSt, .ref aIn, .ref aEf])), (aSt, .inr (9, [.ref aRg, .ref aSp, .int st_pc, .int st_inSlot, .int st_branchAt, .int st_target])), (aEf, .inr (0, [.int ef_exception, .int ef_hasAddress, .int ef_address, .int ef_value, .int ef_size, .int ef_place, .int ef_stored, .int ef_sr, .long ef_sum, .int ef_goes, .int ef_target])), (aRg, .inl (cI, 32, .inl rg)), (aIn, .inr (3, [.int ins_traits, .int ins_op, .int ins_d, .int ins_a, .int ins_b, .int ins_u, .int ins_i, .int ins_j]))] → va_S A s.heap H locs → lv_has ls 5 [(1, .int (rg ins_a.toNatClampNeg)), (0, .ref aEx)] → W p l e ({ frames := 2, cells := 0, slots := 0, locals := 42 }) s m args below meth c H locs 0 0 Q (F0 m 52 ls [.int j2]) := by
    intro j2 H locs ls hj2 hP hD hS hl
    have hs := hs.2 j2 hj2
    refine lv_istore_n (lv' := [(2, .int j2), (1, .int (rg ins_a.toNatClampNeg)), (0, .ref aEx)]) hx hb dX2_compare_52 rfl hl (by decide) rfl (fun ls hl => ?_)
    refine lv_aload_n hx hb dX2_compare_53 rfl (lv_at hl 2 rfl) ?_
    refine va_get (D := G) (ci := 2) (v := .ref aIn) (C := RX2) (T := TX2) (N := 4) hx hb hts iwX2_compare_X2 hown hK hP 0 rfl rfl 2 (by decide) (hts _ lkX2_compare_21) (fun _ h9 => h9) rfl dX2_compare_54 ?_
    refine va_get (D := G) (ci := 3) (v := .int ins_d) (C := RX3) (T := TX3) (N := 8) hx hb hts iwX2_compare_X3 hown hK hP 4 rfl rfl 2 (by decide) (hts _ lkX2_compare_175) (fun _ h9 => h9) rfl dX2_compare_57 ?_
    refine lv_istore_n (lv' := [(3, .int ins_d), (2, .int j2), (1, .int (rg ins_a.toNatClampNeg)), (0, .ref aEx)]) hx hb dX2_compare_60 rfl hl (by decide) rfl (fun ls hl => ?_)
    refine lv_iload_n hx hb dX2_compare_61 rfl (lv_at hl 0 rfl) ?_
    refine lv_iconst (v := 5) hx hb dX2_compare_62 (by decide) ?_
    have Kj3 : ∀ (j3 : Int32) (H : Heap) (locs : List Loc) (ls : Array Slot), j3 = (if 5 < ins_d then ((let z3 := fJ6_compare_7cf53 (rg ins_a.toNatClampNeg) j2; z3)) else ((let z4 := fJ6_compareUnsigned_7cf53 (rg ins_a.toNatClampNeg) j2; z4))) → va_P G vwCl [(aEx, .inr (2, [.ref aMe, .ref aSt, .ref aIn, .ref aEf])), (aSt, .inr (9, [.ref aRg, .ref aSp, .int st_pc, .int st_inSlot, .int st_branchAt, .int st_target])), (aEf, .inr (0, [.int ef_exception, .int ef_hasAddress, .int ef_address, .int ef_value, .int ef_size, .int ef_place, .int ef_stored, .int ef_sr, .long ef_sum, .int ef_goes, .int ef_target])), (aRg, .inl (cI, 32, .inl rg)), (aIn, .inr (3, [.int ins_traits, .int ins_op, .int ins_d, .int ins_a, .int ins_b, .int ins_u, .int ins_i, .int ins_j]))] H → va_D A [(aEx, .inr (2, [.ref aMe, .ref aSt, .ref aIn, .ref aEf])), (aSt, .inr (9, [.ref aRg, .ref aSp, .int st_pc, .int st_inSlot, .int st_branchAt, .int st_target])), (aEf, .inr (0, [.int ef_exception, .int ef_hasAddress, .int ef_address, .int ef_value, .int ef_size, .int ef_place, .int ef_stored, .int ef_sr, .long ef_sum, .int ef_goes, .int ef_target])), (aRg, .inl (cI, 32, .inl rg)), (aIn, .inr (3, [.int ins_traits, .int ins_op, .int ins_d, .int ins_a, .int ins_b, .int ins_u, .int ins_i, .int ins_j]))] → va_S A s.heap H locs → lv_has ls 5 [(3, .int ins_d), (2, .int j2), (1, .int (rg ins_a.toNatClampNeg)), (0, .ref aEx)] → W p l e ({ frames := 2, cells := 0, slots := 0, locals := 42 }) s m args below meth c H locs 0 0 Q (F0 m 79 ls [.int j3]) := by
      intro j3 H locs ls hj3 hP hD hS hl
      have hs := hs.2 j3 hj3
      refine lv_istore (lv' := [(4, .int j3), (3, .int ins_d), (2, .int j2), (1, .int (rg ins_a.toNatClampNeg)), (0, .ref aEx)]) hx hb dX2_compare_79 hl (by decide) rfl (fun ls hl => ?_)
      refine lv_aload_n hx hb dX2_compare_81 rfl (lv_at hl 4 rfl) ?_
      refine va_get (D := G) (ci := 2) (v := .ref aEf) (C := RX2) (T := TX2) (N := 4) hx hb hts iwX2_compare_X2 hown hK hP 0 rfl rfl 3 (by decide) (hts _ lkX2_compare_28) (fun _ h9 => h9) rfl dX2_compare_82 ?_
      refine lv_bipush (v := 32) hx hb dX2_compare_85 (by decide) ?_
      refine lv_iload_n hx hb dX2_compare_87 rfl (lv_at hl 1 rfl) ?_
      refine lv_iconst (v := 5) hx hb dX2_compare_88 (by decide) ?_
      have Kj4 : ∀ (j4 : Int32) (H : Heap) (locs : List Loc) (ls : Array Slot), j4 = (if 5 < ins_d then (ins_d - 4) else (ins_d)) → va_P G vwCl [(aEx, .inr (2, [.ref aMe, .ref aSt, .ref aIn, .ref aEf])), (aSt, .inr (9, [.ref aRg, .ref aSp, .int st_pc, .int st_inSlot, .int st_branchAt, .int st_target])), (aEf, .inr (0, [.int ef_exception, .int ef_hasAddress, .int ef_address, .int ef_value, .int ef_size, .int ef_place, .int ef_stored, .int ef_sr, .long ef_sum, .int ef_goes, .int ef_target])), (aRg, .inl (cI, 32, .inl rg)), (aIn, .inr (3, [.int ins_traits, .int ins_op, .int ins_d, .int ins_a, .int ins_b, .int ins_u, .int ins_i, .int ins_j]))] H → va_D A [(aEx, .inr (2, [.ref aMe, .ref aSt, .ref aIn, .ref aEf])), (aSt, .inr (9, [.ref aRg, .ref aSp, .int st_pc, .int st_inSlot, .int st_branchAt, .int st_target])), (aEf, .inr (0, [.int ef_exception, .int ef_hasAddress, .int ef_address, .int ef_value, .int ef_size, .int ef_place, .int ef_stored, .int ef_sr, .long ef_sum, .int ef_goes, .int ef_target])), (aRg, .inl (cI, 32, .inl rg)), (aIn, .inr (3, [.int ins_traits, .int ins_op, .int ins_d, .int ins_a, .int ins_b, .int ins_u, .int ins_i, .int ins_j]))] → va_S A s.heap H locs → lv_has ls 5 [(4, .int j3), (3, .int ins_d), (2, .int j2), (1, .int (rg ins_a.toNatClampNeg)), (0, .ref aEx)] → W p l e ({ frames := 2, cells := 0, slots := 0, locals := 42 }) s m args below meth c H locs 0 0 Q (F0 m 99 ls [.int j4, .int 32, .ref aEf]) := by
        intro j4 H locs ls hj4 hP hD hS hl
        have hs := hs.2 j4 hj4
        refine lv_iload hx hb dX2_compare_99 (lv_at hl 0 rfl) ?_
        refine k_iS (As := [.int j4, .int j3]) (rest := [.int 32, .ref aEf]) ⟨hx, hb, hml, hown, hts⟩ hK hP hD hS hA (mX2_holds l G cI cB cP   H.size j4 j3 ) (va_cwS 2 hts gX2_compare_X2_holds rfl rfl rfl (by decide +kernel) ⟨Nat.le_of_ble_eq_true rfl, Nat.le_of_ble_eq_true rfl⟩) rfl hl.1 rfl (Nat.le_of_ble_eq_true rfl) dX2_compare_101 ⟨Nat.le_of_ble_eq_true rfl, Nat.le_of_ble_eq_true rfl⟩ (fun z5 H locs hz5 hEz5 hP hS => ?_)
        have hs := hs z5 hz5
        refine k_vV (As := [.int 32, .int z5]) (rest := []) (wc := [(aEf, .inr (0, [.int ef_exception, .int ef_hasAddress, .int ef_address, .int ef_value, .int ef_size, .int ef_place, .int ef_stored, .int ef_sr, .long ef_sum, .int ef_goes, .int ef_target]))]) (wr := [(aEx, .inr (2, [.ref aMe, .ref aSt, .ref aIn, .ref aEf])), (aSt, .inr (9, [.ref aRg, .ref aSp, .int st_pc, .int st_inSlot, .int st_branchAt, .int st_target])), (aRg, .inl (cI, 32, .inl rg)), (aIn, .inr (3, [.int ins_traits, .int ins_op, .int ins_d, .int ins_a, .int ins_b, .int ins_u, .int ins_i, .int ins_j]))]) ⟨hx, hb, hml, hown, hts⟩ hK hP hD hS hA [2] [0, 1, 3, 4] rfl rfl rfl rfl (by decide) (mX0_setBit l G cI cB cP aEf ef_exception ef_hasAddress ef_address ef_value ef_size ef_place ef_stored ef_sr ef_sum ef_goes ef_target H.size 32 z5 ) (cwV 2 hts gX2_compare_X0_setBit rfl rfl rfl (by decide +kernel) ⟨Nat.le_of_ble_eq_true rfl, Nat.le_of_ble_eq_true rfl⟩) 2 0 rfl rfl rfl rfl hl.1 rfl (Nat.le_of_ble_eq_true rfl) dX2_compare_104 ⟨Nat.le_of_ble_eq_true rfl, Nat.le_of_ble_eq_true rfl⟩ (fun z6 H locs hz6 hEz6 hP hD hS => ?_)
        have hs := hs z6 hz6
        have hP : va_P G vwCl [(aEx, .inr (2, [.ref aMe, .ref aSt, .ref aIn, .ref aEf])), (aSt, .inr (9, [.ref aRg, .ref aSp, .int st_pc, .int st_inSlot, .int st_branchAt, .int st_target])), (aRg, .inl (cI, 32, .inl rg)), (aIn, .inr (3, [.int ins_traits, .int ins_op, .int ins_d, .int ins_a, .int ins_b, .int ins_u, .int ins_i, .int ins_j])), (aEf, .inr (0, [.int ef_exception, .int ef_hasAddress, .int ef_address, .int ef_value, .int ef_size, .int ef_place, .int ef_stored, .int z6, .long ef_sum, .int ef_goes, .int ef_target]))] H := hP
        have hD : va_D A [(aEx, .inr (2, [.ref aMe, .ref aSt, .ref aIn, .ref aEf])), (aSt, .inr (9, [.ref aRg, .ref aSp, .int st_pc, .int st_inSlot, .int st_branchAt, .int st_target])), (aRg, .inl (cI, 32, .inl rg)), (aIn, .inr (3, [.int ins_traits, .int ins_op, .int ins_d, .int ins_a, .int ins_b, .int ins_u, .int ins_i, .int ins_j])), (aEf, .inr (0, [.int ef_exception, .int ef_hasAddress, .int ef_address, .int ef_value, .int ef_size, .int ef_place, .int ef_stored, .int z6, .long ef_sum, .int ef_goes, .int ef_target]))] := hD
        have hP := hP.sub (ws' := [(aEx, .inr (2, [.ref aMe, .ref aSt, .ref aIn, .ref aEf])), (aSt, .inr (9, [.ref aRg, .ref aSp, .int st_pc, .int st_inSlot, .int st_branchAt, .int st_target])), (aIn, .inr (3, [.int ins_traits, .int ins_op, .int ins_d, .int ins_a, .int ins_b, .int ins_u, .int ins_i, .int ins_j])), (aEf, .inr (0, [.int ef_exception, .int ef_hasAddress, .int ef_address, .int ef_value, .int ef_size, .int ef_place, .int ef_stored, .int z6, .long ef_sum, .int ef_goes, .int ef_target])), (aRg, .inl (cI, 32, .inl rg))]) [0, 1, 3, 4, 2] rfl
        have hD := hD.sub (ws' := [(aEx, .inr (2, [.ref aMe, .ref aSt, .ref aIn, .ref aEf])), (aSt, .inr (9, [.ref aRg, .ref aSp, .int st_pc, .int st_inSlot, .int st_branchAt, .int st_target])), (aIn, .inr (3, [.int ins_traits, .int ins_op, .int ins_d, .int ins_a, .int ins_b, .int ins_u, .int ins_i, .int ins_j])), (aEf, .inr (0, [.int ef_exception, .int ef_hasAddress, .int ef_address, .int ef_value, .int ef_size, .int ef_place, .int ef_stored, .int z6, .long ef_sum, .int ef_goes, .int ef_target])), (aRg, .inl (cI, 32, .inl rg))]) [0, 1, 3, 4, 2] (by decide) rfl
        exact hret H locs _ ls z6 dX2_compare_107 (by clear hP hD hS hl; replace hz6 := hz6.symm; subst hz6; replace hz5 := hz5.symm; subst hz5; replace hj4 := hj4.symm; subst hj4; replace hj3 := hj3.symm; subst hj3; replace hj2 := hj2.symm; subst hj2; replace hz1 := hz1.symm; subst hz1; (first | exact rfl | (delta fX2_compare; exact rfl) | (unfold fX2_compare; dsimp only) | (unfold fX2_compare; simp only []))) trivial hP hD hS
      have hs := hs.1
      refine lv_icmp_gt (tgt := 96) hx hb dX2_compare_89 (by decide) (fun c7 => ?_) (fun c7 => ?_)
      · have hs := hs.1 c7
        refine lv_iload_n hx hb dX2_compare_96 rfl (lv_at hl 1 rfl) ?_
        refine lv_iconst (v := 4) hx hb dX2_compare_97 (by decide) ?_
        refine lv_isub hx hb dX2_compare_98 ?_
        exact Kj4 (ins_d - 4) H locs ls ((if_pos c7).trans (rfl)).symm  hP hD hS (lv_sub hl [0, 1, 2, 3, 4] rfl)
      · have hs := hs.2 c7
        refine lv_iload_n hx hb dX2_compare_92 rfl (lv_at hl 1 rfl) ?_
        refine lv_goto (tgt := 99) hx hb dX2_compare_93 (by decide) ?_
        exact Kj4 ins_d H locs ls ((if_neg c7).trans (rfl)).symm  hP hD hS (lv_sub hl [0, 1, 2, 3, 4] rfl)
    have hs := hs.1
    refine lv_icmp_gt (tgt := 74) hx hb dX2_compare_63 (by decide) (fun c8 => ?_) (fun c8 => ?_)
    · have hs := hs.1 c8
      refine lv_iload_n hx hb dX2_compare_74 rfl (lv_at hl 2 rfl) ?_
      refine lv_iload_n hx hb dX2_compare_75 rfl (lv_at hl 1 rfl) ?_
      refine k_iS (As := [.int (rg ins_a.toNatClampNeg), .int j2]) (rest := []) ⟨hx, hb, hml, hown, hts⟩ hK hP hD hS hA (mJ6_compare_7cf53 l G cI cB cP   H.size (rg ins_a.toNatClampNeg) j2 ) (va_cwS 2 hts gX2_compare_J6_compare_7cf53 rfl rfl rfl (by decide +kernel) ⟨Nat.le_of_ble_eq_true rfl, Nat.le_of_ble_eq_true rfl⟩) rfl hl.1 rfl (Nat.le_of_ble_eq_true rfl) dX2_compare_76 ⟨Nat.le_of_ble_eq_true rfl, Nat.le_of_ble_eq_true rfl⟩ (fun z7 H locs hz7 hEz7 hP hS => ?_)
      have hs := hs z7 hz7
      exact Kj3 z7 H locs ls (by clear hP hD hS hl; replace hz7 := hz7.symm; subst hz7; exact (((if_pos c8).trans (rfl))).symm)  hP hD hS (lv_sub hl [0, 1, 2, 3] rfl)
    · have hs := hs.2 c8
      refine lv_iload_n hx hb dX2_compare_66 rfl (lv_at hl 2 rfl) ?_
      refine lv_iload_n hx hb dX2_compare_67 rfl (lv_at hl 1 rfl) ?_
      refine k_iS (As := [.int (rg ins_a.toNatClampNeg), .int j2]) (rest := []) ⟨hx, hb, hml, hown, hts⟩ hK hP hD hS hA (mJ6_compareUnsigned_7cf53 l G cI cB cP   H.size (rg ins_a.toNatClampNeg) j2 ) (va_cwS 2 hts gX2_compare_J6_compareUnsigned_7cf53 rfl rfl rfl (by decide +kernel) ⟨Nat.le_of_ble_eq_true rfl, Nat.le_of_ble_eq_true rfl⟩) rfl hl.1 rfl (Nat.le_of_ble_eq_true rfl) dX2_compare_68 ⟨Nat.le_of_ble_eq_true rfl, Nat.le_of_ble_eq_true rfl⟩ (fun z8 H locs hz8 hEz8 hP hS => ?_)
      have hs := hs z8 hz8
      refine lv_goto (tgt := 79) hx hb dX2_compare_71 (by decide) ?_
      exact Kj3 z8 H locs ls (by clear hP hD hS hl; replace hz8 := hz8.symm; subst hz8; exact (((if_neg c8).trans (rfl))).symm)  hP hD hS (lv_sub hl [0, 1, 2, 3] rfl)
  have hs := hs.1
  refine lv_if_eq (tgt := 45) hx hb dX2_compare_24 (by decide) (fun c9 => ?_) (fun c9 => ?_)
  · have hs := hs.1 c9
    refine lv_aload_n hx hb dX2_compare_45 rfl (lv_at hl 1 rfl) ?_
    refine va_get (D := G) (ci := 2) (v := .ref aIn) (C := RX2) (T := TX2) (N := 4) hx hb hts iwX2_compare_X2 hown hK hP 0 rfl rfl 2 (by decide) (hts _ lkX2_compare_21) (fun _ h9 => h9) rfl dX2_compare_46 ?_
    refine va_get (D := G) (ci := 3) (v := .int ins_i) (C := RX3) (T := TX3) (N := 8) hx hb hts iwX2_compare_X3 hown hK hP 4 rfl rfl 6 (by decide) (hts _ lkX2_compare_159) (fun _ h9 => h9) rfl dX2_compare_49 ?_
    exact Kj2 ins_i H locs ls ((if_pos c9).trans (rfl)).symm  hP hD hS (lv_sub hl [0, 1] rfl)
  · have hs := hs.2 c9
    refine lv_aload_n hx hb dX2_compare_27 rfl (lv_at hl 1 rfl) ?_
    refine va_get (D := G) (ci := 2) (v := .ref aSt) (C := RX2) (T := TX2) (N := 4) hx hb hts iwX2_compare_X2 hown hK hP 0 rfl rfl 1 (by decide) (hts _ lkX2_compare_37) (fun _ h9 => h9) rfl dX2_compare_28 ?_
    refine va_get (D := G) (ci := 9) (v := .ref aRg) (C := RX9) (T := TX9) (N := 6) hx hb hts iwX2_compare_X9 hown hK hP 1 rfl rfl 0 (by decide) (hts _ lkX2_compare_124) (fun _ h9 => h9) rfl dX2_compare_31 ?_
    refine lv_aload_n hx hb dX2_compare_34 rfl (lv_at hl 1 rfl) ?_
    refine va_get (D := G) (ci := 2) (v := .ref aIn) (C := RX2) (T := TX2) (N := 4) hx hb hts iwX2_compare_X2 hown hK hP 0 rfl rfl 2 (by decide) (hts _ lkX2_compare_21) (fun _ h9 => h9) rfl dX2_compare_35 ?_
    refine va_get (D := G) (ci := 3) (v := .int ins_b) (C := RX3) (T := TX3) (N := 8) hx hb hts iwX2_compare_X3 hown hK hP 4 rfl rfl 4 (by decide) (hts _ lkX2_compare_131) (fun _ h9 => h9) rfl dX2_compare_38 ?_
    obtain ⟨o4, hs⟩ := hs
    refine va_iald hx hb hK hP 3 0 rfl rfl o4 dX2_compare_41 ?_
    refine lv_goto (tgt := 52) hx hb dX2_compare_42 (by decide) ?_
    exact Kj2 (rg ins_b.toNatClampNeg) H locs ls ((if_neg c9).trans (rfl)).symm  hP hD hS (lv_sub hl [0, 1] rfl)
def fX2_add (ef_exception : Int32) (ef_sr : Int32) (p0 : Int32) (p1 : Int32) (p2 : Int32) : Int32 × Int32 × Int32 :=
  (let j1 : Int32 := if (lg_cmp (((p0.toInt64 &&& 4294967295) + (p1.toInt64 &&& 4294967295)) + p2.toInt64) 4294967295) ≤ 0 then (0) else (1); (let z2 := fX0_setBit ef_sr 128 j1; (let j3 : Int32 := if (lg_cmp ((p0.toInt64 + p1.toInt64) + p2.toInt64) (((p0 + p1) + p2).toInt64)) = 0 then (0) else (1); (let z4 := fX0_setOverflow ef_exception z2 j3; (z4.1, (p0 + p1) + p2, z4.2)))))
theorem lkX2_add_28 : Cond.fieldLink RX2 28 "TwinIssue$Executor" "effect" "LTwinIssue$Effect;" ∈ wsX2_add := by decide +kernel
theorem lkX2_add_150 : Cond.fieldLink RX2 150 "TwinIssue$Effect" "value" "I" ∈ wsX2_add := by decide +kernel
theorem lkX2_add_235 : Cond.constantLong RX2 235 (4294967295) ∈ wsX2_add := by decide +kernel
theorem iwX2_add_X0 : ∀ w ∈ wsX00, w ∈ wsX2_add := fun _ h => List.mem_cons_of_mem _ (List.mem_append_right _ h)
theorem iwX2_add_X2 : ∀ w ∈ wsX20, w ∈ wsX2_add := fun _ h => List.mem_cons_of_mem _ (List.mem_append_left _ (List.mem_append_right _ h))
set_option maxHeartbeats 4000000 in
set_option maxRecDepth 100000 in
theorem mX2_add (l : Launch) (G : va_G) (cI cB cP : ClassId) (aEx aMe aSt aIn aEf : Nat) (ef_exception : Int32) (ef_hasAddress : Int32) (ef_address : Int32) (ef_value : Int32) (ef_size : Int32) (ef_place : Int32) (ef_stored : Int32) (ef_sr : Int32) (ef_sum : Int64) (ef_goes : Int32) (ef_target : Int32) (sz : Nat) (p0 : Int32) (p1 : Int32) (p2 : Int32) : kMv (S := Int32 × Int32 × Int32) l yX2_add wsX2_add ({ frames := 2, cells := 0, slots := 0, locals := 43 }) [.ref aEx, .int p0, .int p1, .int p2] G (kTY cI cB cP) sz [(aEx, .inr (2, [.ref aMe, .ref aSt, .ref aIn, .ref aEf])), (aEf, .inr (0, [.int ef_exception, .int ef_hasAddress, .int ef_address, .int ef_value, .int ef_size, .int ef_place, .int ef_stored, .int ef_sr, .long ef_sum, .int ef_goes, .int ef_target]))] (fX2_add ef_exception ef_sr p0 p1 p2) (fun _ => True) (fun u => [(aEx, .inr (2, [.ref aMe, .ref aSt, .ref aIn, .ref aEf])), (aEf, .inr (0, [.int u.1, .int ef_hasAddress, .int ef_address, .int u.2.1, .int ef_size, .int ef_place, .int ef_stored, .int u.2.2, .long ef_sum, .int ef_goes, .int ef_target]))]) := by
  refine k_ofv (cc := cX2_add) (maxL := 4) (by decide) rfl (Nat.le_of_ble_eq_true rfl) ?_
  intro p e s m args below meth c A ls Q H locs hx hb hml hown hts hin hK hP hD hA hS hl hret
  have hown : s.vm.findClass RX2 = some m.cls := hown
  have hl : lv_has ls 4 [(0, .ref aEx), (1, .int p0), (2, .int p1), (3, .int p2)] := hl
  refine lv_aload_n hx hb dX2_add_0 rfl (lv_at hl 0 rfl) ?_
  refine va_get (D := G) (ci := 2) (v := .ref aEf) (C := RX2) (T := TX2) (N := 4) hx hb hts iwX2_add_X2 hown hK hP 0 rfl rfl 3 (by decide) (hts _ lkX2_add_28) (fun _ h9 => h9) rfl dX2_add_1 ?_
  refine lv_iload_n hx hb dX2_add_4 rfl (lv_at hl 1 rfl) ?_
  refine lv_iload_n hx hb dX2_add_5 rfl (lv_at hl 2 rfl) ?_
  refine lv_iadd hx hb dX2_add_6 ?_
  refine lv_iload_n hx hb dX2_add_7 rfl (lv_at hl 3 rfl) ?_
  refine lv_iadd hx hb dX2_add_8 ?_
  refine va_put (D := G) (ci := 0) (v := .int ((p0 + p1) + p2)) (ty := .int) (C := RX0) (T := TX0) (N := 11) hx hb hts iwX2_add_X0 tyX0 tyX0_ok nmX0 hown hK hP hD hS 1 rfl rfl 3 (by decide) (hts _ lkX2_add_150) (fun _ h9 => h9) rfl (by decide +kernel) rfl rfl (Nat.le_of_ble_eq_true rfl) dX2_add_9 (fun H locs hP hD hS => ?_)
  have hP : va_P G vwCl [(aEx, .inr (2, [.ref aMe, .ref aSt, .ref aIn, .ref aEf])), (aEf, .inr (0, [.int ef_exception, .int ef_hasAddress, .int ef_address, .int ((p0 + p1) + p2), .int ef_size, .int ef_place, .int ef_stored, .int ef_sr, .long ef_sum, .int ef_goes, .int ef_target]))] H := hP
  have hD : va_D A [(aEx, .inr (2, [.ref aMe, .ref aSt, .ref aIn, .ref aEf])), (aEf, .inr (0, [.int ef_exception, .int ef_hasAddress, .int ef_address, .int ((p0 + p1) + p2), .int ef_size, .int ef_place, .int ef_stored, .int ef_sr, .long ef_sum, .int ef_goes, .int ef_target]))] := hD
  refine lv_aload_n hx hb dX2_add_12 rfl (lv_at hl 0 rfl) ?_
  refine va_get (D := G) (ci := 2) (v := .ref aEf) (C := RX2) (T := TX2) (N := 4) hx hb hts iwX2_add_X2 hown hK hP 0 rfl rfl 3 (by decide) (hts _ lkX2_add_28) (fun _ h9 => h9) rfl dX2_add_13 ?_
  refine lv_sipush (v := 128) hx hb dX2_add_16 (by decide) ?_
  refine lv_iload_n hx hb dX2_add_19 rfl (lv_at hl 1 rfl) ?_
  refine lv_i2l (v := p0.toInt64) hx hb dX2_add_20 rfl ?_
  refine lv_ldc2 (v := 4294967295) hx hb hown (hts _ lkX2_add_235) dX2_add_21 ?_
  refine lv_land hx hb dX2_add_24 ?_
  refine lv_iload_n hx hb dX2_add_25 rfl (lv_at hl 2 rfl) ?_
  refine lv_i2l (v := p1.toInt64) hx hb dX2_add_26 rfl ?_
  refine lv_ldc2 (v := 4294967295) hx hb hown (hts _ lkX2_add_235) dX2_add_27 ?_
  refine lv_land hx hb dX2_add_30 ?_
  refine lv_ladd hx hb dX2_add_31 ?_
  refine lv_iload_n hx hb dX2_add_32 rfl (lv_at hl 3 rfl) ?_
  refine lv_i2l (v := p2.toInt64) hx hb dX2_add_33 rfl ?_
  refine lv_ladd hx hb dX2_add_34 ?_
  refine lv_ldc2 (v := 4294967295) hx hb hown (hts _ lkX2_add_235) dX2_add_35 ?_
  refine W.lcmp hx hb dX2_add_38 ?_
  have Kj1 : ∀ (j1 : Int32) (H : Heap) (locs : List Loc) (ls : Array Slot), j1 = (if (lg_cmp (((p0.toInt64 &&& 4294967295) + (p1.toInt64 &&& 4294967295)) + p2.toInt64) 4294967295) ≤ 0 then (0) else (1)) → isB j1 → va_P G vwCl [(aEx, .inr (2, [.ref aMe, .ref aSt, .ref aIn, .ref aEf])), (aEf, .inr (0, [.int ef_exception, .int ef_hasAddress, .int ef_address, .int ((p0 + p1) + p2), .int ef_size, .int ef_place, .int ef_stored, .int ef_sr, .long ef_sum, .int ef_goes, .int ef_target]))] H → va_D A [(aEx, .inr (2, [.ref aMe, .ref aSt, .ref aIn, .ref aEf])), (aEf, .inr (0, [.int ef_exception, .int ef_hasAddress, .int ef_address, .int ((p0 + p1) + p2), .int ef_size, .int ef_place, .int ef_stored, .int ef_sr, .long ef_sum, .int ef_goes, .int ef_target]))] → va_S A s.heap H locs → lv_has ls 4 [(0, .ref aEx), (1, .int p0), (2, .int p1), (3, .int p2)] → W p l e ({ frames := 2, cells := 0, slots := 0, locals := 43 }) s m args below meth c H locs 0 0 Q (F0 m 47 ls [.int j1, .int 128, .ref aEf]) := by
    intro j1 H locs ls hj1 hbj1_0 hP hD hS hl
    refine k_vV (As := [.int 128, .int j1]) (rest := []) (wc := [(aEf, .inr (0, [.int ef_exception, .int ef_hasAddress, .int ef_address, .int ((p0 + p1) + p2), .int ef_size, .int ef_place, .int ef_stored, .int ef_sr, .long ef_sum, .int ef_goes, .int ef_target]))]) (wr := [(aEx, .inr (2, [.ref aMe, .ref aSt, .ref aIn, .ref aEf]))]) ⟨hx, hb, hml, hown, hts⟩ hK hP hD hS hA [1] [0] rfl rfl rfl rfl (by decide) (mX0_setBit l G cI cB cP aEf ef_exception ef_hasAddress ef_address ((p0 + p1) + p2) ef_size ef_place ef_stored ef_sr ef_sum ef_goes ef_target H.size 128 j1 ) (cwV 2 hts gX2_add_X0_setBit rfl rfl rfl (by decide +kernel) ⟨Nat.le_of_ble_eq_true rfl, Nat.le_of_ble_eq_true rfl⟩) 1 0 rfl rfl rfl rfl hl.1 rfl (Nat.le_of_ble_eq_true rfl) dX2_add_47 ⟨Nat.le_of_ble_eq_true rfl, Nat.le_of_ble_eq_true rfl⟩ (fun z2 H locs hz2 hEz2 hP hD hS => ?_)
    have hP : va_P G vwCl [(aEx, .inr (2, [.ref aMe, .ref aSt, .ref aIn, .ref aEf])), (aEf, .inr (0, [.int ef_exception, .int ef_hasAddress, .int ef_address, .int ((p0 + p1) + p2), .int ef_size, .int ef_place, .int ef_stored, .int z2, .long ef_sum, .int ef_goes, .int ef_target]))] H := hP
    have hD : va_D A [(aEx, .inr (2, [.ref aMe, .ref aSt, .ref aIn, .ref aEf])), (aEf, .inr (0, [.int ef_exception, .int ef_hasAddress, .int ef_address, .int ((p0 + p1) + p2), .int ef_size, .int ef_place, .int ef_stored, .int z2, .long ef_sum, .int ef_goes, .int ef_target]))] := hD
    refine lv_aload_n hx hb dX2_add_50 rfl (lv_at hl 0 rfl) ?_
    refine va_get (D := G) (ci := 2) (v := .ref aEf) (C := RX2) (T := TX2) (N := 4) hx hb hts iwX2_add_X2 hown hK hP 0 rfl rfl 3 (by decide) (hts _ lkX2_add_28) (fun _ h9 => h9) rfl dX2_add_51 ?_
    refine lv_iload_n hx hb dX2_add_54 rfl (lv_at hl 1 rfl) ?_
    refine lv_i2l (v := p0.toInt64) hx hb dX2_add_55 rfl ?_
    refine lv_iload_n hx hb dX2_add_56 rfl (lv_at hl 2 rfl) ?_
    refine lv_i2l (v := p1.toInt64) hx hb dX2_add_57 rfl ?_
    refine lv_ladd hx hb dX2_add_58 ?_
    refine lv_iload_n hx hb dX2_add_59 rfl (lv_at hl 3 rfl) ?_
    refine lv_i2l (v := p2.toInt64) hx hb dX2_add_60 rfl ?_
    refine lv_ladd hx hb dX2_add_61 ?_
    refine lv_aload_n hx hb dX2_add_62 rfl (lv_at hl 0 rfl) ?_
    refine va_get (D := G) (ci := 2) (v := .ref aEf) (C := RX2) (T := TX2) (N := 4) hx hb hts iwX2_add_X2 hown hK hP 0 rfl rfl 3 (by decide) (hts _ lkX2_add_28) (fun _ h9 => h9) rfl dX2_add_63 ?_
    refine va_get (D := G) (ci := 0) (v := .int ((p0 + p1) + p2)) (C := RX0) (T := TX0) (N := 11) hx hb hts iwX2_add_X0 hown hK hP 1 rfl rfl 3 (by decide) (hts _ lkX2_add_150) (fun _ h9 => h9) rfl dX2_add_66 ?_
    refine lv_i2l (v := ((p0 + p1) + p2).toInt64) hx hb dX2_add_69 rfl ?_
    refine W.lcmp hx hb dX2_add_70 ?_
    have Kj3 : ∀ (j3 : Int32) (H : Heap) (locs : List Loc) (ls : Array Slot), j3 = (if (lg_cmp ((p0.toInt64 + p1.toInt64) + p2.toInt64) (((p0 + p1) + p2).toInt64)) = 0 then (0) else (1)) → isB j3 → va_P G vwCl [(aEx, .inr (2, [.ref aMe, .ref aSt, .ref aIn, .ref aEf])), (aEf, .inr (0, [.int ef_exception, .int ef_hasAddress, .int ef_address, .int ((p0 + p1) + p2), .int ef_size, .int ef_place, .int ef_stored, .int z2, .long ef_sum, .int ef_goes, .int ef_target]))] H → va_D A [(aEx, .inr (2, [.ref aMe, .ref aSt, .ref aIn, .ref aEf])), (aEf, .inr (0, [.int ef_exception, .int ef_hasAddress, .int ef_address, .int ((p0 + p1) + p2), .int ef_size, .int ef_place, .int ef_stored, .int z2, .long ef_sum, .int ef_goes, .int ef_target]))] → va_S A s.heap H locs → lv_has ls 4 [(0, .ref aEx), (1, .int p0), (2, .int p1), (3, .int p2)] → W p l e ({ frames := 2, cells := 0, slots := 0, locals := 43 }) s m args below meth c H locs 0 0 Q (F0 m 79 ls [.int j3, .ref aEf]) := by
      intro j3 H locs ls hj3 hbj3_0 hP hD hS hl
      refine k_vV (As := [.int j3]) (rest := []) (wc := [(aEf, .inr (0, [.int ef_exception, .int ef_hasAddress, .int ef_address, .int ((p0 + p1) + p2), .int ef_size, .int ef_place, .int ef_stored, .int z2, .long ef_sum, .int ef_goes, .int ef_target]))]) (wr := [(aEx, .inr (2, [.ref aMe, .ref aSt, .ref aIn, .ref aEf]))]) ⟨hx, hb, hml, hown, hts⟩ hK hP hD hS hA [1] [0] rfl rfl rfl rfl (by decide) (mX0_setOverflow l G cI cB cP aEf ef_exception ef_hasAddress ef_address ((p0 + p1) + p2) ef_size ef_place ef_stored z2 ef_sum ef_goes ef_target H.size j3 ) (cwV 1 hts gX2_add_X0_setOverflow rfl rfl rfl (by decide +kernel) ⟨Nat.le_of_ble_eq_true rfl, Nat.le_of_ble_eq_true rfl⟩) 1 0 rfl rfl rfl rfl hl.1 rfl (Nat.le_of_ble_eq_true rfl) dX2_add_79 ⟨Nat.le_of_ble_eq_true rfl, Nat.le_of_ble_eq_true rfl⟩ (fun z4 H locs hz4 hEz4 hP hD hS => ?_)
      have hP : va_P G vwCl [(aEx, .inr (2, [.ref aMe, .ref aSt, .ref aIn, .ref aEf])), (aEf, .inr (0, [.int z4.1, .int ef_hasAddress, .int ef_address, .int ((p0 + p1) + p2), .int ef_size, .int ef_place, .int ef_stored, .int z4.2, .long ef_sum, .int ef_goes, .int ef_target]))] H := hP
      have hD : va_D A [(aEx, .inr (2, [.ref aMe, .ref aSt, .ref aIn, .ref aEf])), (aEf, .inr (0, [.int z4.1, .int ef_hasAddress, .int ef_address, .int ((p0 + p1) + p2), .int ef_size, .int ef_place, .int ef_stored, .int z4.2, .long ef_sum, .int ef_goes, .int ef_target]))] := hD
      exact hret H locs _ ls (z4.1, (p0 + p1) + p2, z4.2) dX2_add_82 (by clear hP hD hS hl; replace hz4 := hz4.symm; subst hz4; replace hj3 := hj3.symm; subst hj3; replace hz2 := hz2.symm; subst hz2; replace hj1 := hj1.symm; subst hj1; (first | exact rfl | (delta fX2_add; exact rfl) | (unfold fX2_add; dsimp only) | (unfold fX2_add; simp only []))) trivial hP hD hS
    refine lv_if_eq (tgt := 78) hx hb dX2_add_71 (by decide) (fun c5 => ?_) (fun c5 => ?_)
    · skip
      refine lv_iconst (v := 0) hx hb dX2_add_78 (by decide) ?_
      exact Kj3 0 H locs ls ((if_pos c5).trans (rfl)).symm (Or.inl rfl) hP hD hS (lv_sub hl [0, 1, 2, 3] rfl)
    · skip
      refine lv_iconst (v := 1) hx hb dX2_add_74 (by decide) ?_
      refine lv_goto (tgt := 79) hx hb dX2_add_75 (by decide) ?_
      exact Kj3 1 H locs ls ((if_neg c5).trans (rfl)).symm (Or.inr rfl) hP hD hS (lv_sub hl [0, 1, 2, 3] rfl)
  refine lv_if_le (tgt := 46) hx hb dX2_add_39 (by decide) (fun c6 => ?_) (fun c6 => ?_)
  · skip
    refine lv_iconst (v := 0) hx hb dX2_add_46 (by decide) ?_
    exact Kj1 0 H locs ls ((if_pos c6).trans (rfl)).symm (Or.inl rfl) hP hD hS (lv_sub hl [0, 1, 2, 3] rfl)
  · skip
    refine lv_iconst (v := 1) hx hb dX2_add_42 (by decide) ?_
    refine lv_goto (tgt := 47) hx hb dX2_add_43 (by decide) ?_
    exact Kj1 1 H locs ls ((if_neg c6).trans (rfl)).symm (Or.inr rfl) hP hD hS (lv_sub hl [0, 1, 2, 3] rfl)
def fX2_subtract (ef_exception : Int32) (ef_sr : Int32) (p0 : Int32) (p1 : Int32) : Int32 × Int32 × Int32 :=
  (let z1 := fJ6_compareUnsigned_7cf53 p0 p1; (let j2 : Int32 := if 0 ≤ z1 then (0) else (1); (let z3 := fX0_setBit ef_sr 128 j2; (let j4 : Int32 := if (lg_cmp (p0.toInt64 - p1.toInt64) ((p0 - p1).toInt64)) = 0 then (0) else (1); (let z5 := fX0_setOverflow ef_exception z3 j4; (z5.1, p0 - p1, z5.2))))))
theorem lkX2_subtract_28 : Cond.fieldLink RX2 28 "TwinIssue$Executor" "effect" "LTwinIssue$Effect;" ∈ wsX2_subtract := by decide +kernel
theorem lkX2_subtract_150 : Cond.fieldLink RX2 150 "TwinIssue$Effect" "value" "I" ∈ wsX2_subtract := by decide +kernel
theorem iwX2_subtract_X0 : ∀ w ∈ wsX00, w ∈ wsX2_subtract := fun _ h => List.mem_cons_of_mem _ (List.mem_append_right _ h)
theorem iwX2_subtract_X2 : ∀ w ∈ wsX20, w ∈ wsX2_subtract := fun _ h => List.mem_cons_of_mem _ (List.mem_append_left _ (List.mem_append_right _ h))
set_option maxHeartbeats 4000000 in
set_option maxRecDepth 100000 in
theorem mX2_subtract (l : Launch) (G : va_G) (cI cB cP : ClassId) (aEx aMe aSt aIn aEf : Nat) (ef_exception : Int32) (ef_hasAddress : Int32) (ef_address : Int32) (ef_value : Int32) (ef_size : Int32) (ef_place : Int32) (ef_stored : Int32) (ef_sr : Int32) (ef_sum : Int64) (ef_goes : Int32) (ef_target : Int32) (sz : Nat) (p0 : Int32) (p1 : Int32) : kMv (S := Int32 × Int32 × Int32) l yX2_subtract wsX2_subtract ({ frames := 2, cells := 0, slots := 0, locals := 43 }) [.ref aEx, .int p0, .int p1] G (kTY cI cB cP) sz [(aEx, .inr (2, [.ref aMe, .ref aSt, .ref aIn, .ref aEf])), (aEf, .inr (0, [.int ef_exception, .int ef_hasAddress, .int ef_address, .int ef_value, .int ef_size, .int ef_place, .int ef_stored, .int ef_sr, .long ef_sum, .int ef_goes, .int ef_target]))] (fX2_subtract ef_exception ef_sr p0 p1) (fun _ => True) (fun u => [(aEx, .inr (2, [.ref aMe, .ref aSt, .ref aIn, .ref aEf])), (aEf, .inr (0, [.int u.1, .int ef_hasAddress, .int ef_address, .int u.2.1, .int ef_size, .int ef_place, .int ef_stored, .int u.2.2, .long ef_sum, .int ef_goes, .int ef_target]))]) := by
  refine k_ofv (cc := cX2_subtract) (maxL := 3) (by decide) rfl (Nat.le_of_ble_eq_true rfl) ?_
  intro p e s m args below meth c A ls Q H locs hx hb hml hown hts hin hK hP hD hA hS hl hret
  have hown : s.vm.findClass RX2 = some m.cls := hown
  have hl : lv_has ls 3 [(0, .ref aEx), (1, .int p0), (2, .int p1)] := hl
  refine lv_aload_n hx hb dX2_subtract_0 rfl (lv_at hl 0 rfl) ?_
  refine va_get (D := G) (ci := 2) (v := .ref aEf) (C := RX2) (T := TX2) (N := 4) hx hb hts iwX2_subtract_X2 hown hK hP 0 rfl rfl 3 (by decide) (hts _ lkX2_subtract_28) (fun _ h9 => h9) rfl dX2_subtract_1 ?_
  refine lv_iload_n hx hb dX2_subtract_4 rfl (lv_at hl 1 rfl) ?_
  refine lv_iload_n hx hb dX2_subtract_5 rfl (lv_at hl 2 rfl) ?_
  refine lv_isub hx hb dX2_subtract_6 ?_
  refine va_put (D := G) (ci := 0) (v := .int (p0 - p1)) (ty := .int) (C := RX0) (T := TX0) (N := 11) hx hb hts iwX2_subtract_X0 tyX0 tyX0_ok nmX0 hown hK hP hD hS 1 rfl rfl 3 (by decide) (hts _ lkX2_subtract_150) (fun _ h9 => h9) rfl (by decide +kernel) rfl rfl (Nat.le_of_ble_eq_true rfl) dX2_subtract_7 (fun H locs hP hD hS => ?_)
  have hP : va_P G vwCl [(aEx, .inr (2, [.ref aMe, .ref aSt, .ref aIn, .ref aEf])), (aEf, .inr (0, [.int ef_exception, .int ef_hasAddress, .int ef_address, .int (p0 - p1), .int ef_size, .int ef_place, .int ef_stored, .int ef_sr, .long ef_sum, .int ef_goes, .int ef_target]))] H := hP
  have hD : va_D A [(aEx, .inr (2, [.ref aMe, .ref aSt, .ref aIn, .ref aEf])), (aEf, .inr (0, [.int ef_exception, .int ef_hasAddress, .int ef_address, .int (p0 - p1), .int ef_size, .int ef_place, .int ef_stored, .int ef_sr, .long ef_sum, .int ef_goes, .int ef_target]))] := hD
  refine lv_aload_n hx hb dX2_subtract_10 rfl (lv_at hl 0 rfl) ?_
  refine va_get (D := G) (ci := 2) (v := .ref aEf) (C := RX2) (T := TX2) (N := 4) hx hb hts iwX2_subtract_X2 hown hK hP 0 rfl rfl 3 (by decide) (hts _ lkX2_subtract_28) (fun _ h9 => h9) rfl dX2_subtract_11 ?_
  refine lv_sipush (v := 128) hx hb dX2_subtract_14 (by decide) ?_
  refine lv_iload_n hx hb dX2_subtract_17 rfl (lv_at hl 1 rfl) ?_
  refine lv_iload_n hx hb dX2_subtract_18 rfl (lv_at hl 2 rfl) ?_
  refine k_iS (As := [.int p0, .int p1]) (rest := [.int 128, .ref aEf]) ⟨hx, hb, hml, hown, hts⟩ hK hP hD hS hA (mJ6_compareUnsigned_7cf53 l G cI cB cP   H.size p0 p1 ) (va_cwS 2 hts gX2_subtract_J6_compareUnsigned_7cf53 rfl rfl rfl (by decide +kernel) ⟨Nat.le_of_ble_eq_true rfl, Nat.le_of_ble_eq_true rfl⟩) rfl hl.1 rfl (Nat.le_of_ble_eq_true rfl) dX2_subtract_19 ⟨Nat.le_of_ble_eq_true rfl, Nat.le_of_ble_eq_true rfl⟩ (fun z1 H locs hz1 hEz1 hP hS => ?_)
  have Kj2 : ∀ (j2 : Int32) (H : Heap) (locs : List Loc) (ls : Array Slot), j2 = (if 0 ≤ z1 then (0) else (1)) → isB j2 → va_P G vwCl [(aEx, .inr (2, [.ref aMe, .ref aSt, .ref aIn, .ref aEf])), (aEf, .inr (0, [.int ef_exception, .int ef_hasAddress, .int ef_address, .int (p0 - p1), .int ef_size, .int ef_place, .int ef_stored, .int ef_sr, .long ef_sum, .int ef_goes, .int ef_target]))] H → va_D A [(aEx, .inr (2, [.ref aMe, .ref aSt, .ref aIn, .ref aEf])), (aEf, .inr (0, [.int ef_exception, .int ef_hasAddress, .int ef_address, .int (p0 - p1), .int ef_size, .int ef_place, .int ef_stored, .int ef_sr, .long ef_sum, .int ef_goes, .int ef_target]))] → va_S A s.heap H locs → lv_has ls 3 [(0, .ref aEx), (1, .int p0), (2, .int p1)] → W p l e ({ frames := 2, cells := 0, slots := 0, locals := 43 }) s m args below meth c H locs 0 0 Q (F0 m 30 ls [.int j2, .int 128, .ref aEf]) := by
    intro j2 H locs ls hj2 hbj2_0 hP hD hS hl
    refine k_vV (As := [.int 128, .int j2]) (rest := []) (wc := [(aEf, .inr (0, [.int ef_exception, .int ef_hasAddress, .int ef_address, .int (p0 - p1), .int ef_size, .int ef_place, .int ef_stored, .int ef_sr, .long ef_sum, .int ef_goes, .int ef_target]))]) (wr := [(aEx, .inr (2, [.ref aMe, .ref aSt, .ref aIn, .ref aEf]))]) ⟨hx, hb, hml, hown, hts⟩ hK hP hD hS hA [1] [0] rfl rfl rfl rfl (by decide) (mX0_setBit l G cI cB cP aEf ef_exception ef_hasAddress ef_address (p0 - p1) ef_size ef_place ef_stored ef_sr ef_sum ef_goes ef_target H.size 128 j2 ) (cwV 2 hts gX2_subtract_X0_setBit rfl rfl rfl (by decide +kernel) ⟨Nat.le_of_ble_eq_true rfl, Nat.le_of_ble_eq_true rfl⟩) 1 0 rfl rfl rfl rfl hl.1 rfl (Nat.le_of_ble_eq_true rfl) dX2_subtract_30 ⟨Nat.le_of_ble_eq_true rfl, Nat.le_of_ble_eq_true rfl⟩ (fun z3 H locs hz3 hEz3 hP hD hS => ?_)
    have hP : va_P G vwCl [(aEx, .inr (2, [.ref aMe, .ref aSt, .ref aIn, .ref aEf])), (aEf, .inr (0, [.int ef_exception, .int ef_hasAddress, .int ef_address, .int (p0 - p1), .int ef_size, .int ef_place, .int ef_stored, .int z3, .long ef_sum, .int ef_goes, .int ef_target]))] H := hP
    have hD : va_D A [(aEx, .inr (2, [.ref aMe, .ref aSt, .ref aIn, .ref aEf])), (aEf, .inr (0, [.int ef_exception, .int ef_hasAddress, .int ef_address, .int (p0 - p1), .int ef_size, .int ef_place, .int ef_stored, .int z3, .long ef_sum, .int ef_goes, .int ef_target]))] := hD
    refine lv_aload_n hx hb dX2_subtract_33 rfl (lv_at hl 0 rfl) ?_
    refine va_get (D := G) (ci := 2) (v := .ref aEf) (C := RX2) (T := TX2) (N := 4) hx hb hts iwX2_subtract_X2 hown hK hP 0 rfl rfl 3 (by decide) (hts _ lkX2_subtract_28) (fun _ h9 => h9) rfl dX2_subtract_34 ?_
    refine lv_iload_n hx hb dX2_subtract_37 rfl (lv_at hl 1 rfl) ?_
    refine lv_i2l (v := p0.toInt64) hx hb dX2_subtract_38 rfl ?_
    refine lv_iload_n hx hb dX2_subtract_39 rfl (lv_at hl 2 rfl) ?_
    refine lv_i2l (v := p1.toInt64) hx hb dX2_subtract_40 rfl ?_
    refine lv_lsub hx hb dX2_subtract_41 ?_
    refine lv_aload_n hx hb dX2_subtract_42 rfl (lv_at hl 0 rfl) ?_
    refine va_get (D := G) (ci := 2) (v := .ref aEf) (C := RX2) (T := TX2) (N := 4) hx hb hts iwX2_subtract_X2 hown hK hP 0 rfl rfl 3 (by decide) (hts _ lkX2_subtract_28) (fun _ h9 => h9) rfl dX2_subtract_43 ?_
    refine va_get (D := G) (ci := 0) (v := .int (p0 - p1)) (C := RX0) (T := TX0) (N := 11) hx hb hts iwX2_subtract_X0 hown hK hP 1 rfl rfl 3 (by decide) (hts _ lkX2_subtract_150) (fun _ h9 => h9) rfl dX2_subtract_46 ?_
    refine lv_i2l (v := (p0 - p1).toInt64) hx hb dX2_subtract_49 rfl ?_
    refine W.lcmp hx hb dX2_subtract_50 ?_
    have Kj4 : ∀ (j4 : Int32) (H : Heap) (locs : List Loc) (ls : Array Slot), j4 = (if (lg_cmp (p0.toInt64 - p1.toInt64) ((p0 - p1).toInt64)) = 0 then (0) else (1)) → isB j4 → va_P G vwCl [(aEx, .inr (2, [.ref aMe, .ref aSt, .ref aIn, .ref aEf])), (aEf, .inr (0, [.int ef_exception, .int ef_hasAddress, .int ef_address, .int (p0 - p1), .int ef_size, .int ef_place, .int ef_stored, .int z3, .long ef_sum, .int ef_goes, .int ef_target]))] H → va_D A [(aEx, .inr (2, [.ref aMe, .ref aSt, .ref aIn, .ref aEf])), (aEf, .inr (0, [.int ef_exception, .int ef_hasAddress, .int ef_address, .int (p0 - p1), .int ef_size, .int ef_place, .int ef_stored, .int z3, .long ef_sum, .int ef_goes, .int ef_target]))] → va_S A s.heap H locs → lv_has ls 3 [(0, .ref aEx), (1, .int p0), (2, .int p1)] → W p l e ({ frames := 2, cells := 0, slots := 0, locals := 43 }) s m args below meth c H locs 0 0 Q (F0 m 59 ls [.int j4, .ref aEf]) := by
      intro j4 H locs ls hj4 hbj4_0 hP hD hS hl
      refine k_vV (As := [.int j4]) (rest := []) (wc := [(aEf, .inr (0, [.int ef_exception, .int ef_hasAddress, .int ef_address, .int (p0 - p1), .int ef_size, .int ef_place, .int ef_stored, .int z3, .long ef_sum, .int ef_goes, .int ef_target]))]) (wr := [(aEx, .inr (2, [.ref aMe, .ref aSt, .ref aIn, .ref aEf]))]) ⟨hx, hb, hml, hown, hts⟩ hK hP hD hS hA [1] [0] rfl rfl rfl rfl (by decide) (mX0_setOverflow l G cI cB cP aEf ef_exception ef_hasAddress ef_address (p0 - p1) ef_size ef_place ef_stored z3 ef_sum ef_goes ef_target H.size j4 ) (cwV 1 hts gX2_subtract_X0_setOverflow rfl rfl rfl (by decide +kernel) ⟨Nat.le_of_ble_eq_true rfl, Nat.le_of_ble_eq_true rfl⟩) 1 0 rfl rfl rfl rfl hl.1 rfl (Nat.le_of_ble_eq_true rfl) dX2_subtract_59 ⟨Nat.le_of_ble_eq_true rfl, Nat.le_of_ble_eq_true rfl⟩ (fun z5 H locs hz5 hEz5 hP hD hS => ?_)
      have hP : va_P G vwCl [(aEx, .inr (2, [.ref aMe, .ref aSt, .ref aIn, .ref aEf])), (aEf, .inr (0, [.int z5.1, .int ef_hasAddress, .int ef_address, .int (p0 - p1), .int ef_size, .int ef_place, .int ef_stored, .int z5.2, .long ef_sum, .int ef_goes, .int ef_target]))] H := hP
      have hD : va_D A [(aEx, .inr (2, [.ref aMe, .ref aSt, .ref aIn, .ref aEf])), (aEf, .inr (0, [.int z5.1, .int ef_hasAddress, .int ef_address, .int (p0 - p1), .int ef_size, .int ef_place, .int ef_stored, .int z5.2, .long ef_sum, .int ef_goes, .int ef_target]))] := hD
      exact hret H locs _ ls (z5.1, p0 - p1, z5.2) dX2_subtract_62 (by clear hP hD hS hl; replace hz5 := hz5.symm; subst hz5; replace hj4 := hj4.symm; subst hj4; replace hz3 := hz3.symm; subst hz3; replace hj2 := hj2.symm; subst hj2; replace hz1 := hz1.symm; subst hz1; (first | exact rfl | (delta fX2_subtract; exact rfl) | (unfold fX2_subtract; dsimp only) | (unfold fX2_subtract; simp only []))) trivial hP hD hS
    refine lv_if_eq (tgt := 58) hx hb dX2_subtract_51 (by decide) (fun c5 => ?_) (fun c5 => ?_)
    · skip
      refine lv_iconst (v := 0) hx hb dX2_subtract_58 (by decide) ?_
      exact Kj4 0 H locs ls ((if_pos c5).trans (rfl)).symm (Or.inl rfl) hP hD hS (lv_sub hl [0, 1, 2] rfl)
    · skip
      refine lv_iconst (v := 1) hx hb dX2_subtract_54 (by decide) ?_
      refine lv_goto (tgt := 59) hx hb dX2_subtract_55 (by decide) ?_
      exact Kj4 1 H locs ls ((if_neg c5).trans (rfl)).symm (Or.inr rfl) hP hD hS (lv_sub hl [0, 1, 2] rfl)
  refine lv_if_ge (tgt := 29) hx hb dX2_subtract_22 (by decide) (fun c6 => ?_) (fun c6 => ?_)
  · skip
    refine lv_iconst (v := 0) hx hb dX2_subtract_29 (by decide) ?_
    exact Kj2 0 H locs ls ((if_pos c6).trans (rfl)).symm (Or.inl rfl) hP hD hS (lv_sub hl [0, 1, 2] rfl)
  · skip
    refine lv_iconst (v := 1) hx hb dX2_subtract_25 (by decide) ?_
    refine lv_goto (tgt := 30) hx hb dX2_subtract_26 (by decide) ?_
    exact Kj2 1 H locs ls ((if_neg c6).trans (rfl)).symm (Or.inr rfl) hP hD hS (lv_sub hl [0, 1, 2] rfl)

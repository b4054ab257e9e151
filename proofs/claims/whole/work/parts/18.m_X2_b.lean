def fX2_multiply (ef_exception : Int32) (ef_sr : Int32) (p0 : Int32) (p1 : Int32) : Int32 × Int32 × Int32 :=
  (let j1 : Int32 := if (lg_cmp (p0.toInt64 * p1.toInt64) ((p0 * p1).toInt64)) = 0 then (0) else (1); (let z2 := fX0_setOverflow ef_exception ef_sr j1; (z2.1, p0 * p1, z2.2)))
theorem lkX2_multiply_28 : Cond.fieldLink RX2 28 "TwinIssue$Executor" "effect" "LTwinIssue$Effect;" ∈ wsX2_multiply := by decide +kernel
theorem lkX2_multiply_150 : Cond.fieldLink RX2 150 "TwinIssue$Effect" "value" "I" ∈ wsX2_multiply := by decide +kernel
theorem iwX2_multiply_X0 : ∀ w ∈ wsX00, w ∈ wsX2_multiply := fun _ h => List.mem_cons_of_mem _ (List.mem_append_right _ h)
theorem iwX2_multiply_X2 : ∀ w ∈ wsX20, w ∈ wsX2_multiply := fun _ h => List.mem_cons_of_mem _ (List.mem_append_left _ (List.mem_append_right _ h))
set_option maxHeartbeats 4000000 in
set_option maxRecDepth 100000 in
theorem mX2_multiply (l : Launch) (G : va_G) (cI cB cP : ClassId) (aEx aMe aSt aIn aEf : Nat) (ef_exception : Int32) (ef_hasAddress : Int32) (ef_address : Int32) (ef_value : Int32) (ef_size : Int32) (ef_place : Int32) (ef_stored : Int32) (ef_sr : Int32) (ef_sum : Int64) (ef_goes : Int32) (ef_target : Int32) (sz : Nat) (p0 : Int32) (p1 : Int32) : kMv (S := Int32 × Int32 × Int32) l yX2_multiply wsX2_multiply ({ frames := 2, cells := 0, slots := 0, locals := 43 }) [.ref aEx, .int p0, .int p1] G (kTY cI cB cP) sz [(aEx, .inr (2, [.ref aMe, .ref aSt, .ref aIn, .ref aEf])), (aEf, .inr (0, [.int ef_exception, .int ef_hasAddress, .int ef_address, .int ef_value, .int ef_size, .int ef_place, .int ef_stored, .int ef_sr, .long ef_sum, .int ef_goes, .int ef_target]))] (fX2_multiply ef_exception ef_sr p0 p1) (fun _ => True) (fun u => [(aEx, .inr (2, [.ref aMe, .ref aSt, .ref aIn, .ref aEf])), (aEf, .inr (0, [.int u.1, .int ef_hasAddress, .int ef_address, .int u.2.1, .int ef_size, .int ef_place, .int ef_stored, .int u.2.2, .long ef_sum, .int ef_goes, .int ef_target]))]) := by
  refine k_ofv (cc := cX2_multiply) (maxL := 3) (by decide) rfl (Nat.le_of_ble_eq_true rfl) ?_
  intro p e s m args below meth c A ls Q H locs hx hb hml hown hts hin hK hP hD hA hS hl hret
  have hown : s.vm.findClass RX2 = some m.cls := hown
  have hl : lv_has ls 3 [(0, .ref aEx), (1, .int p0), (2, .int p1)] := hl
  refine lv_aload_n hx hb dX2_multiply_0 rfl (lv_at hl 0 rfl) ?_
  refine va_get (D := G) (ci := 2) (v := .ref aEf) (C := RX2) (T := TX2) (N := 4) hx hb hts iwX2_multiply_X2 hown hK hP 0 rfl rfl 3 (by decide) (hts _ lkX2_multiply_28) (fun _ h9 => h9) rfl dX2_multiply_1 ?_
  refine lv_iload_n hx hb dX2_multiply_4 rfl (lv_at hl 1 rfl) ?_
  refine lv_iload_n hx hb dX2_multiply_5 rfl (lv_at hl 2 rfl) ?_
  refine lv_imul hx hb dX2_multiply_6 ?_
  refine va_put (D := G) (ci := 0) (v := .int (p0 * p1)) (ty := .int) (C := RX0) (T := TX0) (N := 11) hx hb hts iwX2_multiply_X0 tyX0 tyX0_ok nmX0 hown hK hP hD hS 1 rfl rfl 3 (by decide) (hts _ lkX2_multiply_150) (fun _ h9 => h9) rfl (by decide +kernel) rfl rfl (Nat.le_of_ble_eq_true rfl) dX2_multiply_7 (fun H locs hP hD hS => ?_)
  have hP : va_P G vwCl [(aEx, .inr (2, [.ref aMe, .ref aSt, .ref aIn, .ref aEf])), (aEf, .inr (0, [.int ef_exception, .int ef_hasAddress, .int ef_address, .int (p0 * p1), .int ef_size, .int ef_place, .int ef_stored, .int ef_sr, .long ef_sum, .int ef_goes, .int ef_target]))] H := hP
  have hD : va_D A [(aEx, .inr (2, [.ref aMe, .ref aSt, .ref aIn, .ref aEf])), (aEf, .inr (0, [.int ef_exception, .int ef_hasAddress, .int ef_address, .int (p0 * p1), .int ef_size, .int ef_place, .int ef_stored, .int ef_sr, .long ef_sum, .int ef_goes, .int ef_target]))] := hD
  refine lv_aload_n hx hb dX2_multiply_10 rfl (lv_at hl 0 rfl) ?_
  refine va_get (D := G) (ci := 2) (v := .ref aEf) (C := RX2) (T := TX2) (N := 4) hx hb hts iwX2_multiply_X2 hown hK hP 0 rfl rfl 3 (by decide) (hts _ lkX2_multiply_28) (fun _ h9 => h9) rfl dX2_multiply_11 ?_
  refine lv_iload_n hx hb dX2_multiply_14 rfl (lv_at hl 1 rfl) ?_
  refine lv_i2l (v := p0.toInt64) hx hb dX2_multiply_15 rfl ?_
  refine lv_iload_n hx hb dX2_multiply_16 rfl (lv_at hl 2 rfl) ?_
  refine lv_i2l (v := p1.toInt64) hx hb dX2_multiply_17 rfl ?_
  refine lv_lmul hx hb dX2_multiply_18 ?_
  refine lv_aload_n hx hb dX2_multiply_19 rfl (lv_at hl 0 rfl) ?_
  refine va_get (D := G) (ci := 2) (v := .ref aEf) (C := RX2) (T := TX2) (N := 4) hx hb hts iwX2_multiply_X2 hown hK hP 0 rfl rfl 3 (by decide) (hts _ lkX2_multiply_28) (fun _ h9 => h9) rfl dX2_multiply_20 ?_
  refine va_get (D := G) (ci := 0) (v := .int (p0 * p1)) (C := RX0) (T := TX0) (N := 11) hx hb hts iwX2_multiply_X0 hown hK hP 1 rfl rfl 3 (by decide) (hts _ lkX2_multiply_150) (fun _ h9 => h9) rfl dX2_multiply_23 ?_
  refine lv_i2l (v := (p0 * p1).toInt64) hx hb dX2_multiply_26 rfl ?_
  refine W.lcmp hx hb dX2_multiply_27 ?_
  have Kj1 : ∀ (j1 : Int32) (H : Heap) (locs : List Loc) (ls : Array Slot), j1 = (if (lg_cmp (p0.toInt64 * p1.toInt64) ((p0 * p1).toInt64)) = 0 then (0) else (1)) → isB j1 → va_P G vwCl [(aEx, .inr (2, [.ref aMe, .ref aSt, .ref aIn, .ref aEf])), (aEf, .inr (0, [.int ef_exception, .int ef_hasAddress, .int ef_address, .int (p0 * p1), .int ef_size, .int ef_place, .int ef_stored, .int ef_sr, .long ef_sum, .int ef_goes, .int ef_target]))] H → va_D A [(aEx, .inr (2, [.ref aMe, .ref aSt, .ref aIn, .ref aEf])), (aEf, .inr (0, [.int ef_exception, .int ef_hasAddress, .int ef_address, .int (p0 * p1), .int ef_size, .int ef_place, .int ef_stored, .int ef_sr, .long ef_sum, .int ef_goes, .int ef_target]))] → va_S A s.heap H locs → lv_has ls 3 [(0, .ref aEx), (1, .int p0), (2, .int p1)] → W p l e ({ frames := 2, cells := 0, slots := 0, locals := 43 }) s m args below meth c H locs 0 0 Q (F0 m 36 ls [.int j1, .ref aEf]) := by
    intro j1 H locs ls hj1 hbj1_0 hP hD hS hl
    refine k_vV (As := [.int j1]) (rest := []) (wc := [(aEf, .inr (0, [.int ef_exception, .int ef_hasAddress, .int ef_address, .int (p0 * p1), .int ef_size, .int ef_place, .int ef_stored, .int ef_sr, .long ef_sum, .int ef_goes, .int ef_target]))]) (wr := [(aEx, .inr (2, [.ref aMe, .ref aSt, .ref aIn, .ref aEf]))]) ⟨hx, hb, hml, hown, hts⟩ hK hP hD hS hA [1] [0] rfl rfl rfl rfl (by decide) (mX0_setOverflow l G cI cB cP aEf ef_exception ef_hasAddress ef_address (p0 * p1) ef_size ef_place ef_stored ef_sr ef_sum ef_goes ef_target H.size j1 ) (cwV 1 hts gX2_multiply_X0_setOverflow rfl rfl rfl (by decide +kernel) ⟨Nat.le_of_ble_eq_true rfl, Nat.le_of_ble_eq_true rfl⟩) 1 0 rfl rfl rfl rfl hl.1 rfl (Nat.le_of_ble_eq_true rfl) dX2_multiply_36 ⟨Nat.le_of_ble_eq_true rfl, Nat.le_of_ble_eq_true rfl⟩ (fun z2 H locs hz2 hEz2 hP hD hS => ?_)
    have hP : va_P G vwCl [(aEx, .inr (2, [.ref aMe, .ref aSt, .ref aIn, .ref aEf])), (aEf, .inr (0, [.int z2.1, .int ef_hasAddress, .int ef_address, .int (p0 * p1), .int ef_size, .int ef_place, .int ef_stored, .int z2.2, .long ef_sum, .int ef_goes, .int ef_target]))] H := hP
    have hD : va_D A [(aEx, .inr (2, [.ref aMe, .ref aSt, .ref aIn, .ref aEf])), (aEf, .inr (0, [.int z2.1, .int ef_hasAddress, .int ef_address, .int (p0 * p1), .int ef_size, .int ef_place, .int ef_stored, .int z2.2, .long ef_sum, .int ef_goes, .int ef_target]))] := hD
    exact hret H locs _ ls (z2.1, p0 * p1, z2.2) dX2_multiply_39 (by clear hP hD hS hl; replace hz2 := hz2.symm; subst hz2; replace hj1 := hj1.symm; subst hj1; (first | exact rfl | (delta fX2_multiply; exact rfl) | (unfold fX2_multiply; dsimp only) | (unfold fX2_multiply; simp only []))) trivial hP hD hS
  refine lv_if_eq (tgt := 35) hx hb dX2_multiply_28 (by decide) (fun c3 => ?_) (fun c3 => ?_)
  · skip
    refine lv_iconst (v := 0) hx hb dX2_multiply_35 (by decide) ?_
    exact Kj1 0 H locs ls ((if_pos c3).trans (rfl)).symm (Or.inl rfl) hP hD hS (lv_sub hl [0, 1, 2] rfl)
  · skip
    refine lv_iconst (v := 1) hx hb dX2_multiply_31 (by decide) ?_
    refine lv_goto (tgt := 36) hx hb dX2_multiply_32 (by decide) ?_
    exact Kj1 1 H locs ls ((if_neg c3).trans (rfl)).symm (Or.inr rfl) hP hD hS (lv_sub hl [0, 1, 2] rfl)
def fX2_multiplyUnsigned (ef_sr : Int32) (p0 : Int32) (p1 : Int32) : Int32 × Int32 :=
  (let j1 : Int32 := if (lg_cmp (jlushr ((p0.toInt64 &&& 4294967295) * (p1.toInt64 &&& 4294967295)) 32) 0) = 0 then (0) else (1); (let z2 := fX0_setBit ef_sr 128 j1; (((p0.toInt64 &&& 4294967295) * (p1.toInt64 &&& 4294967295)).toInt32, z2)))
theorem lkX2_multiplyUnsigned_28 : Cond.fieldLink RX2 28 "TwinIssue$Executor" "effect" "LTwinIssue$Effect;" ∈ wsX2_multiplyUnsigned := by decide +kernel
theorem lkX2_multiplyUnsigned_150 : Cond.fieldLink RX2 150 "TwinIssue$Effect" "value" "I" ∈ wsX2_multiplyUnsigned := by decide +kernel
theorem lkX2_multiplyUnsigned_235 : Cond.constantLong RX2 235 (4294967295) ∈ wsX2_multiplyUnsigned := by decide +kernel
theorem iwX2_multiplyUnsigned_X0 : ∀ w ∈ wsX00, w ∈ wsX2_multiplyUnsigned := fun _ h => List.mem_cons_of_mem _ (List.mem_append_right _ h)
theorem iwX2_multiplyUnsigned_X2 : ∀ w ∈ wsX20, w ∈ wsX2_multiplyUnsigned := fun _ h => List.mem_cons_of_mem _ (List.mem_append_left _ (List.mem_append_right _ h))
set_option maxHeartbeats 4000000 in
set_option maxRecDepth 100000 in
theorem mX2_multiplyUnsigned (l : Launch) (G : va_G) (cI cB cP : ClassId) (aEx aMe aSt aIn aEf : Nat) (ef_exception : Int32) (ef_hasAddress : Int32) (ef_address : Int32) (ef_value : Int32) (ef_size : Int32) (ef_place : Int32) (ef_stored : Int32) (ef_sr : Int32) (ef_sum : Int64) (ef_goes : Int32) (ef_target : Int32) (sz : Nat) (p0 : Int32) (p1 : Int32) : kMv (S := Int32 × Int32) l yX2_multiplyUnsigned wsX2_multiplyUnsigned ({ frames := 1, cells := 0, slots := 0, locals := 22 }) [.ref aEx, .int p0, .int p1] G (kTY cI cB cP) sz [(aEx, .inr (2, [.ref aMe, .ref aSt, .ref aIn, .ref aEf])), (aEf, .inr (0, [.int ef_exception, .int ef_hasAddress, .int ef_address, .int ef_value, .int ef_size, .int ef_place, .int ef_stored, .int ef_sr, .long ef_sum, .int ef_goes, .int ef_target]))] (fX2_multiplyUnsigned ef_sr p0 p1) (fun _ => True) (fun u => [(aEx, .inr (2, [.ref aMe, .ref aSt, .ref aIn, .ref aEf])), (aEf, .inr (0, [.int ef_exception, .int ef_hasAddress, .int ef_address, .int u.1, .int ef_size, .int ef_place, .int ef_stored, .int u.2, .long ef_sum, .int ef_goes, .int ef_target]))]) := by
  refine k_ofv (cc := cX2_multiplyUnsigned) (maxL := 5) (by decide) rfl (Nat.le_of_ble_eq_true rfl) ?_
  intro p e s m args below meth c A ls Q H locs hx hb hml hown hts hin hK hP hD hA hS hl hret
  have hown : s.vm.findClass RX2 = some m.cls := hown
  have hl : lv_has ls 5 [(0, .ref aEx), (1, .int p0), (2, .int p1)] := hl
  refine lv_iload_n hx hb dX2_multiplyUnsigned_0 rfl (lv_at hl 1 rfl) ?_
  refine lv_i2l (v := p0.toInt64) hx hb dX2_multiplyUnsigned_1 rfl ?_
  refine lv_ldc2 (v := 4294967295) hx hb hown (hts _ lkX2_multiplyUnsigned_235) dX2_multiplyUnsigned_2 ?_
  refine lv_land hx hb dX2_multiplyUnsigned_5 ?_
  refine lv_iload_n hx hb dX2_multiplyUnsigned_6 rfl (lv_at hl 2 rfl) ?_
  refine lv_i2l (v := p1.toInt64) hx hb dX2_multiplyUnsigned_7 rfl ?_
  refine lv_ldc2 (v := 4294967295) hx hb hown (hts _ lkX2_multiplyUnsigned_235) dX2_multiplyUnsigned_8 ?_
  refine lv_land hx hb dX2_multiplyUnsigned_11 ?_
  refine lv_lmul hx hb dX2_multiplyUnsigned_12 ?_
  refine lv_lstore_n (lv' := [(3, .long ((p0.toInt64 &&& 4294967295) * (p1.toInt64 &&& 4294967295))), (0, .ref aEx), (1, .int p0), (2, .int p1)]) hx hb dX2_multiplyUnsigned_13 rfl hl (by decide) rfl (fun ls hl => ?_)
  refine lv_aload_n hx hb dX2_multiplyUnsigned_14 rfl (lv_at hl 1 rfl) ?_
  refine va_get (D := G) (ci := 2) (v := .ref aEf) (C := RX2) (T := TX2) (N := 4) hx hb hts iwX2_multiplyUnsigned_X2 hown hK hP 0 rfl rfl 3 (by decide) (hts _ lkX2_multiplyUnsigned_28) (fun _ h9 => h9) rfl dX2_multiplyUnsigned_15 ?_
  refine lv_lload_n hx hb dX2_multiplyUnsigned_18 rfl (lv_at hl 0 rfl) ?_
  refine lv_l2i (v := ((p0.toInt64 &&& 4294967295) * (p1.toInt64 &&& 4294967295)).toInt32) hx hb dX2_multiplyUnsigned_19 rfl ?_
  refine va_put (D := G) (ci := 0) (v := .int (((p0.toInt64 &&& 4294967295) * (p1.toInt64 &&& 4294967295)).toInt32)) (ty := .int) (C := RX0) (T := TX0) (N := 11) hx hb hts iwX2_multiplyUnsigned_X0 tyX0 tyX0_ok nmX0 hown hK hP hD hS 1 rfl rfl 3 (by decide) (hts _ lkX2_multiplyUnsigned_150) (fun _ h9 => h9) rfl (by decide +kernel) rfl rfl (Nat.le_of_ble_eq_true rfl) dX2_multiplyUnsigned_20 (fun H locs hP hD hS => ?_)
  have hP : va_P G vwCl [(aEx, .inr (2, [.ref aMe, .ref aSt, .ref aIn, .ref aEf])), (aEf, .inr (0, [.int ef_exception, .int ef_hasAddress, .int ef_address, .int (((p0.toInt64 &&& 4294967295) * (p1.toInt64 &&& 4294967295)).toInt32), .int ef_size, .int ef_place, .int ef_stored, .int ef_sr, .long ef_sum, .int ef_goes, .int ef_target]))] H := hP
  have hD : va_D A [(aEx, .inr (2, [.ref aMe, .ref aSt, .ref aIn, .ref aEf])), (aEf, .inr (0, [.int ef_exception, .int ef_hasAddress, .int ef_address, .int (((p0.toInt64 &&& 4294967295) * (p1.toInt64 &&& 4294967295)).toInt32), .int ef_size, .int ef_place, .int ef_stored, .int ef_sr, .long ef_sum, .int ef_goes, .int ef_target]))] := hD
  refine lv_aload_n hx hb dX2_multiplyUnsigned_23 rfl (lv_at hl 1 rfl) ?_
  refine va_get (D := G) (ci := 2) (v := .ref aEf) (C := RX2) (T := TX2) (N := 4) hx hb hts iwX2_multiplyUnsigned_X2 hown hK hP 0 rfl rfl 3 (by decide) (hts _ lkX2_multiplyUnsigned_28) (fun _ h9 => h9) rfl dX2_multiplyUnsigned_24 ?_
  refine lv_sipush (v := 128) hx hb dX2_multiplyUnsigned_27 (by decide) ?_
  refine lv_lload_n hx hb dX2_multiplyUnsigned_30 rfl (lv_at hl 0 rfl) ?_
  refine lv_bipush (v := 32) hx hb dX2_multiplyUnsigned_31 (by decide) ?_
  refine lv_lushr (v := jlushr ((p0.toInt64 &&& 4294967295) * (p1.toInt64 &&& 4294967295)) 32) hx hb dX2_multiplyUnsigned_33 rfl ?_
  refine lv_lconst (v := 0) hx hb dX2_multiplyUnsigned_34 (by decide) ?_
  refine W.lcmp hx hb dX2_multiplyUnsigned_35 ?_
  have Kj1 : ∀ (j1 : Int32) (H : Heap) (locs : List Loc) (ls : Array Slot), j1 = (if (lg_cmp (jlushr ((p0.toInt64 &&& 4294967295) * (p1.toInt64 &&& 4294967295)) 32) 0) = 0 then (0) else (1)) → isB j1 → va_P G vwCl [(aEx, .inr (2, [.ref aMe, .ref aSt, .ref aIn, .ref aEf])), (aEf, .inr (0, [.int ef_exception, .int ef_hasAddress, .int ef_address, .int (((p0.toInt64 &&& 4294967295) * (p1.toInt64 &&& 4294967295)).toInt32), .int ef_size, .int ef_place, .int ef_stored, .int ef_sr, .long ef_sum, .int ef_goes, .int ef_target]))] H → va_D A [(aEx, .inr (2, [.ref aMe, .ref aSt, .ref aIn, .ref aEf])), (aEf, .inr (0, [.int ef_exception, .int ef_hasAddress, .int ef_address, .int (((p0.toInt64 &&& 4294967295) * (p1.toInt64 &&& 4294967295)).toInt32), .int ef_size, .int ef_place, .int ef_stored, .int ef_sr, .long ef_sum, .int ef_goes, .int ef_target]))] → va_S A s.heap H locs → lv_has ls 5 [(3, .long ((p0.toInt64 &&& 4294967295) * (p1.toInt64 &&& 4294967295))), (0, .ref aEx), (1, .int p0), (2, .int p1)] → W p l e ({ frames := 1, cells := 0, slots := 0, locals := 22 }) s m args below meth c H locs 0 0 Q (F0 m 44 ls [.int j1, .int 128, .ref aEf]) := by
    intro j1 H locs ls hj1 hbj1_0 hP hD hS hl
    refine k_vV (As := [.int 128, .int j1]) (rest := []) (wc := [(aEf, .inr (0, [.int ef_exception, .int ef_hasAddress, .int ef_address, .int (((p0.toInt64 &&& 4294967295) * (p1.toInt64 &&& 4294967295)).toInt32), .int ef_size, .int ef_place, .int ef_stored, .int ef_sr, .long ef_sum, .int ef_goes, .int ef_target]))]) (wr := [(aEx, .inr (2, [.ref aMe, .ref aSt, .ref aIn, .ref aEf]))]) ⟨hx, hb, hml, hown, hts⟩ hK hP hD hS hA [1] [0] rfl rfl rfl rfl (by decide) (mX0_setBit l G cI cB cP aEf ef_exception ef_hasAddress ef_address (((p0.toInt64 &&& 4294967295) * (p1.toInt64 &&& 4294967295)).toInt32) ef_size ef_place ef_stored ef_sr ef_sum ef_goes ef_target H.size 128 j1 ) (cwV 2 hts gX2_multiplyUnsigned_X0_setBit rfl rfl rfl (by decide +kernel) ⟨Nat.le_of_ble_eq_true rfl, Nat.le_of_ble_eq_true rfl⟩) 1 0 rfl rfl rfl rfl hl.1 rfl (Nat.le_of_ble_eq_true rfl) dX2_multiplyUnsigned_44 ⟨Nat.le_of_ble_eq_true rfl, Nat.le_of_ble_eq_true rfl⟩ (fun z2 H locs hz2 hEz2 hP hD hS => ?_)
    have hP : va_P G vwCl [(aEx, .inr (2, [.ref aMe, .ref aSt, .ref aIn, .ref aEf])), (aEf, .inr (0, [.int ef_exception, .int ef_hasAddress, .int ef_address, .int (((p0.toInt64 &&& 4294967295) * (p1.toInt64 &&& 4294967295)).toInt32), .int ef_size, .int ef_place, .int ef_stored, .int z2, .long ef_sum, .int ef_goes, .int ef_target]))] H := hP
    have hD : va_D A [(aEx, .inr (2, [.ref aMe, .ref aSt, .ref aIn, .ref aEf])), (aEf, .inr (0, [.int ef_exception, .int ef_hasAddress, .int ef_address, .int (((p0.toInt64 &&& 4294967295) * (p1.toInt64 &&& 4294967295)).toInt32), .int ef_size, .int ef_place, .int ef_stored, .int z2, .long ef_sum, .int ef_goes, .int ef_target]))] := hD
    exact hret H locs _ ls (((p0.toInt64 &&& 4294967295) * (p1.toInt64 &&& 4294967295)).toInt32, z2) dX2_multiplyUnsigned_47 (by clear hP hD hS hl; replace hz2 := hz2.symm; subst hz2; replace hj1 := hj1.symm; subst hj1; (first | exact rfl | (delta fX2_multiplyUnsigned; exact rfl) | (unfold fX2_multiplyUnsigned; dsimp only) | (unfold fX2_multiplyUnsigned; simp only []))) trivial hP hD hS
  refine lv_if_eq (tgt := 43) hx hb dX2_multiplyUnsigned_36 (by decide) (fun c3 => ?_) (fun c3 => ?_)
  · skip
    refine lv_iconst (v := 0) hx hb dX2_multiplyUnsigned_43 (by decide) ?_
    exact Kj1 0 H locs ls ((if_pos c3).trans (rfl)).symm (Or.inl rfl) hP hD hS (lv_sub hl [0, 1, 2, 3] rfl)
  · skip
    refine lv_iconst (v := 1) hx hb dX2_multiplyUnsigned_39 (by decide) ?_
    refine lv_goto (tgt := 44) hx hb dX2_multiplyUnsigned_40 (by decide) ?_
    exact Kj1 1 H locs ls ((if_neg c3).trans (rfl)).symm (Or.inr rfl) hP hD hS (lv_sub hl [0, 1, 2, 3] rfl)
def fX2_divide (ef_exception : Int32) (ef_sr : Int32) (p0 : Int32) (p1 : Int32) : Int32 × Int32 × Int32 :=
  (let j1 : Int32 := if p1 = 0 then (0) else (p0 / p1); (let j2 : Int32 := if p1 = 0 then (1) else (if p0 = (-2147483648) then (if p1 = (-1) then (1) else (0)) else (0)); (let z3 := fX0_setOverflow ef_exception ef_sr j2; (z3.1, j1, z3.2))))
theorem lkX2_divide_28 : Cond.fieldLink RX2 28 "TwinIssue$Executor" "effect" "LTwinIssue$Effect;" ∈ wsX2_divide := by decide +kernel
theorem lkX2_divide_150 : Cond.fieldLink RX2 150 "TwinIssue$Effect" "value" "I" ∈ wsX2_divide := by decide +kernel
theorem lkX2_divide_241 : Cond.constant RX2 241 (-2147483648) ∈ wsX2_divide := by decide +kernel
theorem iwX2_divide_X0 : ∀ w ∈ wsX00, w ∈ wsX2_divide := fun _ h => List.mem_cons_of_mem _ (List.mem_append_right _ h)
theorem iwX2_divide_X2 : ∀ w ∈ wsX20, w ∈ wsX2_divide := fun _ h => List.mem_cons_of_mem _ (List.mem_append_left _ (List.mem_append_right _ h))
def sX2_divide (ef_exception : Int32) (ef_sr : Int32) (p0 : Int32) (p1 : Int32) : Prop :=
  ((p1 = 0 → True) ∧ (¬ (p1 = 0) → ((¬ p1 = 0) ∧ True))) ∧ (∀ j1 : Int32, j1 = (if p1 = 0 then (0) else (p0 / p1)) → (((p1 = 0 → True) ∧ (¬ (p1 = 0) → ((p0 = (-2147483648) → ((p1 = (-1) → True) ∧ (¬ (p1 = (-1)) → True))) ∧ (¬ (p0 = (-2147483648)) → True)))) ∧ (∀ j2 : Int32, j2 = (if p1 = 0 then (1) else (if p0 = (-2147483648) then (if p1 = (-1) then (1) else (0)) else (0))) → ((∀ z3, z3 = fX0_setOverflow ef_exception ef_sr j2 → True)))))
set_option maxHeartbeats 4000000 in
set_option maxRecDepth 100000 in
theorem mX2_divide (l : Launch) (G : va_G) (cI cB cP : ClassId) (aEx aMe aSt aIn aEf : Nat) (ef_exception : Int32) (ef_hasAddress : Int32) (ef_address : Int32) (ef_value : Int32) (ef_size : Int32) (ef_place : Int32) (ef_stored : Int32) (ef_sr : Int32) (ef_sum : Int64) (ef_goes : Int32) (ef_target : Int32) (sz : Nat) (p0 : Int32) (p1 : Int32) (hs : sX2_divide ef_exception ef_sr p0 p1) : kMv (S := Int32 × Int32 × Int32) l yX2_divide wsX2_divide ({ frames := 2, cells := 0, slots := 0, locals := 43 }) [.ref aEx, .int p0, .int p1] G (kTY cI cB cP) sz [(aEx, .inr (2, [.ref aMe, .ref aSt, .ref aIn, .ref aEf])), (aEf, .inr (0, [.int ef_exception, .int ef_hasAddress, .int ef_address, .int ef_value, .int ef_size, .int ef_place, .int ef_stored, .int ef_sr, .long ef_sum, .int ef_goes, .int ef_target]))] (fX2_divide ef_exception ef_sr p0 p1) (fun _ => True) (fun u => [(aEx, .inr (2, [.ref aMe, .ref aSt, .ref aIn, .ref aEf])), (aEf, .inr (0, [.int u.1, .int ef_hasAddress, .int ef_address, .int u.2.1, .int ef_size, .int ef_place, .int ef_stored, .int u.2.2, .long ef_sum, .int ef_goes, .int ef_target]))]) := by
  refine k_ofv (cc := cX2_divide) (maxL := 3) (by decide) rfl (Nat.le_of_ble_eq_true rfl) ?_
  intro p e s m args below meth c A ls Q H locs hx hb hml hown hts hin hK hP hD hA hS hl hret
  have hown : s.vm.findClass RX2 = some m.cls := hown
  have hl : lv_has ls 3 [(0, .ref aEx), (1, .int p0), (2, .int p1)] := hl
  unfold sX2_divide at hs
  refine lv_aload_n hx hb dX2_divide_0 rfl (lv_at hl 0 rfl) ?_
  refine va_get (D := G) (ci := 2) (v := .ref aEf) (C := RX2) (T := TX2) (N := 4) hx hb hts iwX2_divide_X2 hown hK hP 0 rfl rfl 3 (by decide) (hts _ lkX2_divide_28) (fun _ h9 => h9) rfl dX2_divide_1 ?_
  refine lv_iload_n hx hb dX2_divide_4 rfl (lv_at hl 2 rfl) ?_
  have Kj1 : ∀ (j1 : Int32) (H : Heap) (locs : List Loc) (ls : Array Slot), j1 = (if p1 = 0 then (0) else (p0 / p1)) → va_P G vwCl [(aEx, .inr (2, [.ref aMe, .ref aSt, .ref aIn, .ref aEf])), (aEf, .inr (0, [.int ef_exception, .int ef_hasAddress, .int ef_address, .int ef_value, .int ef_size, .int ef_place, .int ef_stored, .int ef_sr, .long ef_sum, .int ef_goes, .int ef_target]))] H → va_D A [(aEx, .inr (2, [.ref aMe, .ref aSt, .ref aIn, .ref aEf])), (aEf, .inr (0, [.int ef_exception, .int ef_hasAddress, .int ef_address, .int ef_value, .int ef_size, .int ef_place, .int ef_stored, .int ef_sr, .long ef_sum, .int ef_goes, .int ef_target]))] → va_S A s.heap H locs → lv_has ls 3 [(0, .ref aEx), (1, .int p0), (2, .int p1)] → W p l e ({ frames := 2, cells := 0, slots := 0, locals := 43 }) s m args below meth c H locs 0 0 Q (F0 m 15 ls [.int j1, .ref aEf]) := by
    intro j1 H locs ls hj1 hP hD hS hl
    have hs := hs.2 j1 hj1
    refine va_put (D := G) (ci := 0) (v := .int j1) (ty := .int) (C := RX0) (T := TX0) (N := 11) hx hb hts iwX2_divide_X0 tyX0 tyX0_ok nmX0 hown hK hP hD hS 1 rfl rfl 3 (by decide) (hts _ lkX2_divide_150) (fun _ h9 => h9) rfl (by decide +kernel) rfl rfl (Nat.le_of_ble_eq_true rfl) dX2_divide_15 (fun H locs hP hD hS => ?_)
    have hP : va_P G vwCl [(aEx, .inr (2, [.ref aMe, .ref aSt, .ref aIn, .ref aEf])), (aEf, .inr (0, [.int ef_exception, .int ef_hasAddress, .int ef_address, .int j1, .int ef_size, .int ef_place, .int ef_stored, .int ef_sr, .long ef_sum, .int ef_goes, .int ef_target]))] H := hP
    have hD : va_D A [(aEx, .inr (2, [.ref aMe, .ref aSt, .ref aIn, .ref aEf])), (aEf, .inr (0, [.int ef_exception, .int ef_hasAddress, .int ef_address, .int j1, .int ef_size, .int ef_place, .int ef_stored, .int ef_sr, .long ef_sum, .int ef_goes, .int ef_target]))] := hD
    refine lv_aload_n hx hb dX2_divide_18 rfl (lv_at hl 0 rfl) ?_
    refine va_get (D := G) (ci := 2) (v := .ref aEf) (C := RX2) (T := TX2) (N := 4) hx hb hts iwX2_divide_X2 hown hK hP 0 rfl rfl 3 (by decide) (hts _ lkX2_divide_28) (fun _ h9 => h9) rfl dX2_divide_19 ?_
    refine lv_iload_n hx hb dX2_divide_22 rfl (lv_at hl 2 rfl) ?_
    have Kj2 : ∀ (j2 : Int32) (H : Heap) (locs : List Loc) (ls : Array Slot), j2 = (if p1 = 0 then (1) else (if p0 = (-2147483648) then (if p1 = (-1) then (1) else (0)) else (0))) → isB j2 → va_P G vwCl [(aEx, .inr (2, [.ref aMe, .ref aSt, .ref aIn, .ref aEf])), (aEf, .inr (0, [.int ef_exception, .int ef_hasAddress, .int ef_address, .int j1, .int ef_size, .int ef_place, .int ef_stored, .int ef_sr, .long ef_sum, .int ef_goes, .int ef_target]))] H → va_D A [(aEx, .inr (2, [.ref aMe, .ref aSt, .ref aIn, .ref aEf])), (aEf, .inr (0, [.int ef_exception, .int ef_hasAddress, .int ef_address, .int j1, .int ef_size, .int ef_place, .int ef_stored, .int ef_sr, .long ef_sum, .int ef_goes, .int ef_target]))] → va_S A s.heap H locs → lv_has ls 3 [(0, .ref aEx), (1, .int p0), (2, .int p1)] → W p l e ({ frames := 2, cells := 0, slots := 0, locals := 43 }) s m args below meth c H locs 0 0 Q (F0 m 42 ls [.int j2, .ref aEf]) := by
      intro j2 H locs ls hj2 hbj2_0 hP hD hS hl
      have hs := hs.2 j2 hj2
      refine k_vV (As := [.int j2]) (rest := []) (wc := [(aEf, .inr (0, [.int ef_exception, .int ef_hasAddress, .int ef_address, .int j1, .int ef_size, .int ef_place, .int ef_stored, .int ef_sr, .long ef_sum, .int ef_goes, .int ef_target]))]) (wr := [(aEx, .inr (2, [.ref aMe, .ref aSt, .ref aIn, .ref aEf]))]) ⟨hx, hb, hml, hown, hts⟩ hK hP hD hS hA [1] [0] rfl rfl rfl rfl (by decide) (mX0_setOverflow l G cI cB cP aEf ef_exception ef_hasAddress ef_address j1 ef_size ef_place ef_stored ef_sr ef_sum ef_goes ef_target H.size j2 ) (cwV 1 hts gX2_divide_X0_setOverflow rfl rfl rfl (by decide +kernel) ⟨Nat.le_of_ble_eq_true rfl, Nat.le_of_ble_eq_true rfl⟩) 1 0 rfl rfl rfl rfl hl.1 rfl (Nat.le_of_ble_eq_true rfl) dX2_divide_42 ⟨Nat.le_of_ble_eq_true rfl, Nat.le_of_ble_eq_true rfl⟩ (fun z3 H locs hz3 hEz3 hP hD hS => ?_)
      have hs := hs z3 hz3
      have hP : va_P G vwCl [(aEx, .inr (2, [.ref aMe, .ref aSt, .ref aIn, .ref aEf])), (aEf, .inr (0, [.int z3.1, .int ef_hasAddress, .int ef_address, .int j1, .int ef_size, .int ef_place, .int ef_stored, .int z3.2, .long ef_sum, .int ef_goes, .int ef_target]))] H := hP
      have hD : va_D A [(aEx, .inr (2, [.ref aMe, .ref aSt, .ref aIn, .ref aEf])), (aEf, .inr (0, [.int z3.1, .int ef_hasAddress, .int ef_address, .int j1, .int ef_size, .int ef_place, .int ef_stored, .int z3.2, .long ef_sum, .int ef_goes, .int ef_target]))] := hD
      exact hret H locs _ ls (z3.1, j1, z3.2) dX2_divide_45 (by clear hP hD hS hl; replace hz3 := hz3.symm; subst hz3; replace hj2 := hj2.symm; subst hj2; replace hj1 := hj1.symm; subst hj1; (first | exact rfl | (delta fX2_divide; exact rfl) | (unfold fX2_divide; dsimp only) | (unfold fX2_divide; simp only []))) trivial hP hD hS
    have hs := hs.1
    refine lv_if_eq (tgt := 37) hx hb dX2_divide_23 (by decide) (fun c9 => ?_) (fun c9 => ?_)
    · have hs := hs.1 c9
      refine lv_iconst (v := 1) hx hb dX2_divide_37 (by decide) ?_
      refine lv_goto (tgt := 42) hx hb dX2_divide_38 (by decide) ?_
      exact Kj2 1 H locs ls ((if_pos c9).trans (rfl)).symm (Or.inr rfl) hP hD hS (lv_sub hl [0, 1, 2] rfl)
    · have hs := hs.2 c9
      refine lv_iload_n hx hb dX2_divide_26 rfl (lv_at hl 1 rfl) ?_
      refine lv_ldc (v := (-2147483648)) hx hb hown (hts _ lkX2_divide_241) dX2_divide_27 ?_
      refine lv_icmp_ne (tgt := 41) hx hb dX2_divide_29 (by decide) (fun c10 => ?_) (fun c10 => ?_)
      · have hs := hs.2 c10
        refine lv_iconst (v := 0) hx hb dX2_divide_41 (by decide) ?_
        exact Kj2 0 H locs ls ((if_neg c9).trans ((if_neg c10).trans (rfl))).symm (Or.inl rfl) hP hD hS (lv_sub hl [0, 1, 2] rfl)
      · have hs := hs.1 c10
        refine lv_iload_n hx hb dX2_divide_32 rfl (lv_at hl 2 rfl) ?_
        refine lv_iconst (v := (-1)) hx hb dX2_divide_33 (by decide) ?_
        refine lv_icmp_ne (tgt := 41) hx hb dX2_divide_34 (by decide) (fun c11 => ?_) (fun c11 => ?_)
        · have hs := hs.2 c11
          refine lv_iconst (v := 0) hx hb dX2_divide_41 (by decide) ?_
          exact Kj2 0 H locs ls ((if_neg c9).trans ((if_pos c10).trans ((if_neg c11).trans (rfl)))).symm (Or.inl rfl) hP hD hS (lv_sub hl [0, 1, 2] rfl)
        · have hs := hs.1 c11
          refine lv_iconst (v := 1) hx hb dX2_divide_37 (by decide) ?_
          refine lv_goto (tgt := 42) hx hb dX2_divide_38 (by decide) ?_
          exact Kj2 1 H locs ls ((if_neg c9).trans ((if_pos c10).trans ((if_pos c11).trans (rfl)))).symm (Or.inr rfl) hP hD hS (lv_sub hl [0, 1, 2] rfl)
  have hs := hs.1
  refine lv_if_ne (tgt := 12) hx hb dX2_divide_5 (by decide) (fun c12 => ?_) (fun c12 => ?_)
  · have hs := hs.2 c12
    refine lv_iload_n hx hb dX2_divide_12 rfl (lv_at hl 1 rfl) ?_
    refine lv_iload_n hx hb dX2_divide_13 rfl (lv_at hl 2 rfl) ?_
    obtain ⟨o3, hs⟩ := hs
    refine lv_idiv hx hb dX2_divide_14 o3 ?_
    exact Kj1 (p0 / p1) H locs ls ((if_neg c12).trans (rfl)).symm  hP hD hS (lv_sub hl [0, 1, 2] rfl)
  · have hs := hs.1 c12
    refine lv_iconst (v := 0) hx hb dX2_divide_8 (by decide) ?_
    refine lv_goto (tgt := 15) hx hb dX2_divide_9 (by decide) ?_
    exact Kj1 0 H locs ls ((if_pos c12).trans (rfl)).symm  hP hD hS (lv_sub hl [0, 1, 2] rfl)
def fX2_divideUnsigned (ef_sr : Int32) (p0 : Int32) (p1 : Int32) : Int32 × Int32 :=
  (let j1 : Int32 := if p1 = 0 then (0) else (((p0.toInt64 &&& 4294967295) / (p1.toInt64 &&& 4294967295)).toInt32); (let j2 : Int32 := if p1 = 0 then (1) else (0); (let z3 := fX0_setBit ef_sr 128 j2; (j1, z3))))
theorem lkX2_divideUnsigned_28 : Cond.fieldLink RX2 28 "TwinIssue$Executor" "effect" "LTwinIssue$Effect;" ∈ wsX2_divideUnsigned := by decide +kernel
theorem lkX2_divideUnsigned_150 : Cond.fieldLink RX2 150 "TwinIssue$Effect" "value" "I" ∈ wsX2_divideUnsigned := by decide +kernel
theorem lkX2_divideUnsigned_235 : Cond.constantLong RX2 235 (4294967295) ∈ wsX2_divideUnsigned := by decide +kernel
theorem iwX2_divideUnsigned_X0 : ∀ w ∈ wsX00, w ∈ wsX2_divideUnsigned := fun _ h => List.mem_cons_of_mem _ (List.mem_append_right _ h)
theorem iwX2_divideUnsigned_X2 : ∀ w ∈ wsX20, w ∈ wsX2_divideUnsigned := fun _ h => List.mem_cons_of_mem _ (List.mem_append_left _ (List.mem_append_right _ h))
def sX2_divideUnsigned (ef_sr : Int32) (p0 : Int32) (p1 : Int32) : Prop :=
  ((p1 = 0 → True) ∧ (¬ (p1 = 0) → ((¬ p1.toInt64 &&& 4294967295 = 0) ∧ True))) ∧ (∀ j1 : Int32, j1 = (if p1 = 0 then (0) else (((p0.toInt64 &&& 4294967295) / (p1.toInt64 &&& 4294967295)).toInt32)) → (((p1 = 0 → True) ∧ (¬ (p1 = 0) → True)) ∧ (∀ j2 : Int32, j2 = (if p1 = 0 then (1) else (0)) → ((∀ z3, z3 = fX0_setBit ef_sr 128 j2 → True)))))
set_option maxHeartbeats 4000000 in
set_option maxRecDepth 100000 in
theorem mX2_divideUnsigned (l : Launch) (G : va_G) (cI cB cP : ClassId) (aEx aMe aSt aIn aEf : Nat) (ef_exception : Int32) (ef_hasAddress : Int32) (ef_address : Int32) (ef_value : Int32) (ef_size : Int32) (ef_place : Int32) (ef_stored : Int32) (ef_sr : Int32) (ef_sum : Int64) (ef_goes : Int32) (ef_target : Int32) (sz : Nat) (p0 : Int32) (p1 : Int32) (hs : sX2_divideUnsigned ef_sr p0 p1) : kMv (S := Int32 × Int32) l yX2_divideUnsigned wsX2_divideUnsigned ({ frames := 1, cells := 0, slots := 0, locals := 22 }) [.ref aEx, .int p0, .int p1] G (kTY cI cB cP) sz [(aEx, .inr (2, [.ref aMe, .ref aSt, .ref aIn, .ref aEf])), (aEf, .inr (0, [.int ef_exception, .int ef_hasAddress, .int ef_address, .int ef_value, .int ef_size, .int ef_place, .int ef_stored, .int ef_sr, .long ef_sum, .int ef_goes, .int ef_target]))] (fX2_divideUnsigned ef_sr p0 p1) (fun _ => True) (fun u => [(aEx, .inr (2, [.ref aMe, .ref aSt, .ref aIn, .ref aEf])), (aEf, .inr (0, [.int ef_exception, .int ef_hasAddress, .int ef_address, .int u.1, .int ef_size, .int ef_place, .int ef_stored, .int u.2, .long ef_sum, .int ef_goes, .int ef_target]))]) := by
  refine k_ofv (cc := cX2_divideUnsigned) (maxL := 3) (by decide) rfl (Nat.le_of_ble_eq_true rfl) ?_
  intro p e s m args below meth c A ls Q H locs hx hb hml hown hts hin hK hP hD hA hS hl hret
  have hown : s.vm.findClass RX2 = some m.cls := hown
  have hl : lv_has ls 3 [(0, .ref aEx), (1, .int p0), (2, .int p1)] := hl
  unfold sX2_divideUnsigned at hs
  refine lv_aload_n hx hb dX2_divideUnsigned_0 rfl (lv_at hl 0 rfl) ?_
  refine va_get (D := G) (ci := 2) (v := .ref aEf) (C := RX2) (T := TX2) (N := 4) hx hb hts iwX2_divideUnsigned_X2 hown hK hP 0 rfl rfl 3 (by decide) (hts _ lkX2_divideUnsigned_28) (fun _ h9 => h9) rfl dX2_divideUnsigned_1 ?_
  refine lv_iload_n hx hb dX2_divideUnsigned_4 rfl (lv_at hl 2 rfl) ?_
  have Kj1 : ∀ (j1 : Int32) (H : Heap) (locs : List Loc) (ls : Array Slot), j1 = (if p1 = 0 then (0) else (((p0.toInt64 &&& 4294967295) / (p1.toInt64 &&& 4294967295)).toInt32)) → va_P G vwCl [(aEx, .inr (2, [.ref aMe, .ref aSt, .ref aIn, .ref aEf])), (aEf, .inr (0, [.int ef_exception, .int ef_hasAddress, .int ef_address, .int ef_value, .int ef_size, .int ef_place, .int ef_stored, .int ef_sr, .long ef_sum, .int ef_goes, .int ef_target]))] H → va_D A [(aEx, .inr (2, [.ref aMe, .ref aSt, .ref aIn, .ref aEf])), (aEf, .inr (0, [.int ef_exception, .int ef_hasAddress, .int ef_address, .int ef_value, .int ef_size, .int ef_place, .int ef_stored, .int ef_sr, .long ef_sum, .int ef_goes, .int ef_target]))] → va_S A s.heap H locs → lv_has ls 3 [(0, .ref aEx), (1, .int p0), (2, .int p1)] → W p l e ({ frames := 1, cells := 0, slots := 0, locals := 22 }) s m args below meth c H locs 0 0 Q (F0 m 26 ls [.int j1, .ref aEf]) := by
    intro j1 H locs ls hj1 hP hD hS hl
    have hs := hs.2 j1 hj1
    refine va_put (D := G) (ci := 0) (v := .int j1) (ty := .int) (C := RX0) (T := TX0) (N := 11) hx hb hts iwX2_divideUnsigned_X0 tyX0 tyX0_ok nmX0 hown hK hP hD hS 1 rfl rfl 3 (by decide) (hts _ lkX2_divideUnsigned_150) (fun _ h9 => h9) rfl (by decide +kernel) rfl rfl (Nat.le_of_ble_eq_true rfl) dX2_divideUnsigned_26 (fun H locs hP hD hS => ?_)
    have hP : va_P G vwCl [(aEx, .inr (2, [.ref aMe, .ref aSt, .ref aIn, .ref aEf])), (aEf, .inr (0, [.int ef_exception, .int ef_hasAddress, .int ef_address, .int j1, .int ef_size, .int ef_place, .int ef_stored, .int ef_sr, .long ef_sum, .int ef_goes, .int ef_target]))] H := hP
    have hD : va_D A [(aEx, .inr (2, [.ref aMe, .ref aSt, .ref aIn, .ref aEf])), (aEf, .inr (0, [.int ef_exception, .int ef_hasAddress, .int ef_address, .int j1, .int ef_size, .int ef_place, .int ef_stored, .int ef_sr, .long ef_sum, .int ef_goes, .int ef_target]))] := hD
    refine lv_aload_n hx hb dX2_divideUnsigned_29 rfl (lv_at hl 0 rfl) ?_
    refine va_get (D := G) (ci := 2) (v := .ref aEf) (C := RX2) (T := TX2) (N := 4) hx hb hts iwX2_divideUnsigned_X2 hown hK hP 0 rfl rfl 3 (by decide) (hts _ lkX2_divideUnsigned_28) (fun _ h9 => h9) rfl dX2_divideUnsigned_30 ?_
    refine lv_sipush (v := 128) hx hb dX2_divideUnsigned_33 (by decide) ?_
    refine lv_iload_n hx hb dX2_divideUnsigned_36 rfl (lv_at hl 2 rfl) ?_
    have Kj2 : ∀ (j2 : Int32) (H : Heap) (locs : List Loc) (ls : Array Slot), j2 = (if p1 = 0 then (1) else (0)) → isB j2 → va_P G vwCl [(aEx, .inr (2, [.ref aMe, .ref aSt, .ref aIn, .ref aEf])), (aEf, .inr (0, [.int ef_exception, .int ef_hasAddress, .int ef_address, .int j1, .int ef_size, .int ef_place, .int ef_stored, .int ef_sr, .long ef_sum, .int ef_goes, .int ef_target]))] H → va_D A [(aEx, .inr (2, [.ref aMe, .ref aSt, .ref aIn, .ref aEf])), (aEf, .inr (0, [.int ef_exception, .int ef_hasAddress, .int ef_address, .int j1, .int ef_size, .int ef_place, .int ef_stored, .int ef_sr, .long ef_sum, .int ef_goes, .int ef_target]))] → va_S A s.heap H locs → lv_has ls 3 [(0, .ref aEx), (1, .int p0), (2, .int p1)] → W p l e ({ frames := 1, cells := 0, slots := 0, locals := 22 }) s m args below meth c H locs 0 0 Q (F0 m 45 ls [.int j2, .int 128, .ref aEf]) := by
      intro j2 H locs ls hj2 hbj2_0 hP hD hS hl
      have hs := hs.2 j2 hj2
      refine k_vV (As := [.int 128, .int j2]) (rest := []) (wc := [(aEf, .inr (0, [.int ef_exception, .int ef_hasAddress, .int ef_address, .int j1, .int ef_size, .int ef_place, .int ef_stored, .int ef_sr, .long ef_sum, .int ef_goes, .int ef_target]))]) (wr := [(aEx, .inr (2, [.ref aMe, .ref aSt, .ref aIn, .ref aEf]))]) ⟨hx, hb, hml, hown, hts⟩ hK hP hD hS hA [1] [0] rfl rfl rfl rfl (by decide) (mX0_setBit l G cI cB cP aEf ef_exception ef_hasAddress ef_address j1 ef_size ef_place ef_stored ef_sr ef_sum ef_goes ef_target H.size 128 j2 ) (cwV 2 hts gX2_divideUnsigned_X0_setBit rfl rfl rfl (by decide +kernel) ⟨Nat.le_of_ble_eq_true rfl, Nat.le_of_ble_eq_true rfl⟩) 1 0 rfl rfl rfl rfl hl.1 rfl (Nat.le_of_ble_eq_true rfl) dX2_divideUnsigned_45 ⟨Nat.le_of_ble_eq_true rfl, Nat.le_of_ble_eq_true rfl⟩ (fun z3 H locs hz3 hEz3 hP hD hS => ?_)
      have hs := hs z3 hz3
      have hP : va_P G vwCl [(aEx, .inr (2, [.ref aMe, .ref aSt, .ref aIn, .ref aEf])), (aEf, .inr (0, [.int ef_exception, .int ef_hasAddress, .int ef_address, .int j1, .int ef_size, .int ef_place, .int ef_stored, .int z3, .long ef_sum, .int ef_goes, .int ef_target]))] H := hP
      have hD : va_D A [(aEx, .inr (2, [.ref aMe, .ref aSt, .ref aIn, .ref aEf])), (aEf, .inr (0, [.int ef_exception, .int ef_hasAddress, .int ef_address, .int j1, .int ef_size, .int ef_place, .int ef_stored, .int z3, .long ef_sum, .int ef_goes, .int ef_target]))] := hD
      exact hret H locs _ ls (j1, z3) dX2_divideUnsigned_48 (by clear hP hD hS hl; replace hz3 := hz3.symm; subst hz3; replace hj2 := hj2.symm; subst hj2; replace hj1 := hj1.symm; subst hj1; (first | exact rfl | (delta fX2_divideUnsigned; exact rfl) | (unfold fX2_divideUnsigned; dsimp only) | (unfold fX2_divideUnsigned; simp only []))) trivial hP hD hS
    have hs := hs.1
    refine lv_if_ne (tgt := 44) hx hb dX2_divideUnsigned_37 (by decide) (fun c5 => ?_) (fun c5 => ?_)
    · have hs := hs.2 c5
      refine lv_iconst (v := 0) hx hb dX2_divideUnsigned_44 (by decide) ?_
      exact Kj2 0 H locs ls ((if_neg c5).trans (rfl)).symm (Or.inl rfl) hP hD hS (lv_sub hl [0, 1, 2] rfl)
    · have hs := hs.1 c5
      refine lv_iconst (v := 1) hx hb dX2_divideUnsigned_40 (by decide) ?_
      refine lv_goto (tgt := 45) hx hb dX2_divideUnsigned_41 (by decide) ?_
      exact Kj2 1 H locs ls ((if_pos c5).trans (rfl)).symm (Or.inr rfl) hP hD hS (lv_sub hl [0, 1, 2] rfl)
  have hs := hs.1
  refine lv_if_ne (tgt := 12) hx hb dX2_divideUnsigned_5 (by decide) (fun c6 => ?_) (fun c6 => ?_)
  · have hs := hs.2 c6
    refine lv_iload_n hx hb dX2_divideUnsigned_12 rfl (lv_at hl 1 rfl) ?_
    refine lv_i2l (v := p0.toInt64) hx hb dX2_divideUnsigned_13 rfl ?_
    refine lv_ldc2 (v := 4294967295) hx hb hown (hts _ lkX2_divideUnsigned_235) dX2_divideUnsigned_14 ?_
    refine lv_land hx hb dX2_divideUnsigned_17 ?_
    refine lv_iload_n hx hb dX2_divideUnsigned_18 rfl (lv_at hl 2 rfl) ?_
    refine lv_i2l (v := p1.toInt64) hx hb dX2_divideUnsigned_19 rfl ?_
    refine lv_ldc2 (v := 4294967295) hx hb hown (hts _ lkX2_divideUnsigned_235) dX2_divideUnsigned_20 ?_
    refine lv_land hx hb dX2_divideUnsigned_23 ?_
    obtain ⟨o3, hs⟩ := hs
    refine lv_ldiv hx hb dX2_divideUnsigned_24 o3 ?_
    refine lv_l2i (v := ((p0.toInt64 &&& 4294967295) / (p1.toInt64 &&& 4294967295)).toInt32) hx hb dX2_divideUnsigned_25 rfl ?_
    exact Kj1 (((p0.toInt64 &&& 4294967295) / (p1.toInt64 &&& 4294967295)).toInt32) H locs ls ((if_neg c6).trans (rfl)).symm  hP hD hS (lv_sub hl [0, 1, 2] rfl)
  · have hs := hs.1 c6
    refine lv_iconst (v := 0) hx hb dX2_divideUnsigned_8 (by decide) ?_
    refine lv_goto (tgt := 26) hx hb dX2_divideUnsigned_9 (by decide) ?_
    exact Kj1 0 H locs ls ((if_pos c6).trans (rfl)).symm  hP hD hS (lv_sub hl [0, 1, 2] rfl)
def fX2_furtherResult (ins_op : Int32) (ef_sr : Int32) (p0 : Int32) (p1 : Int32) (p2 : Int32) : Int32 :=
  if ins_op = 42 then (p0.toInt16.toInt32) else (if ins_op = 43 then (p0.toInt8.toInt32) else (if ins_op = 44 then (p0 &&& 65535) else (if ins_op = 45 then (p0 &&& 255) else (if ins_op = 46 then (if (ef_sr &&& 32) = 0 then (p1) else (p0)) else (if ins_op = 47 then (if p0 = 0 then (0) else ((let z1 := fJ6_numberOfTrailingZeros_0f7a4 p0; z1 + 1))) else (if ins_op = 48 then ((let z2 := fJ6_numberOfLeadingZeros_0f7a4 p0; 32 - z2)) else (if ins_op = 49 then ((let z3 := fJ6_rotateRight_7cf53 p0 (p1 &&& 31); z3)) else (if ins_op = 50 then ((let z4 := fJ6_rotateRight_7cf53 p0 (p2 &&& 31); z4)) else (0)))))))))
theorem lkX2_furtherResult_21 : Cond.fieldLink RX2 21 "TwinIssue$Executor" "instruction" "LTwinIssue$Instruction;" ∈ wsX2_furtherResult := by decide +kernel
theorem lkX2_furtherResult_28 : Cond.fieldLink RX2 28 "TwinIssue$Executor" "effect" "LTwinIssue$Effect;" ∈ wsX2_furtherResult := by decide +kernel
theorem lkX2_furtherResult_139 : Cond.fieldLink RX2 139 "TwinIssue$Effect" "sr" "I" ∈ wsX2_furtherResult := by decide +kernel
theorem lkX2_furtherResult_144 : Cond.fieldLink RX2 144 "TwinIssue$Instruction" "op" "I" ∈ wsX2_furtherResult := by decide +kernel
theorem lkX2_furtherResult_245 : Cond.constant RX2 245 (65535) ∈ wsX2_furtherResult := by decide +kernel
theorem iwX2_furtherResult_X0 : ∀ w ∈ wsX00, w ∈ wsX2_furtherResult := fun _ h => List.mem_cons_of_mem _ (List.mem_append_right _ h)
theorem iwX2_furtherResult_X2 : ∀ w ∈ wsX20, w ∈ wsX2_furtherResult := fun _ h => List.mem_cons_of_mem _ (List.mem_append_left _ (List.mem_append_left _ (List.mem_append_right _ h)))
theorem iwX2_furtherResult_X3 : ∀ w ∈ wsX30, w ∈ wsX2_furtherResult := fun _ h => List.mem_cons_of_mem _ (List.mem_append_left _ (List.mem_append_right _ h))
set_option maxHeartbeats 4000000 in
set_option maxRecDepth 100000 in
theorem mX2_furtherResult (l : Launch) (G : va_G) (cI cB cP : ClassId) (aEx aMe aSt aIn aEf : Nat) (ins_traits : Int32) (ins_op : Int32) (ins_d : Int32) (ins_a : Int32) (ins_b : Int32) (ins_u : Int32) (ins_i : Int32) (ins_j : Int32) (ef_exception : Int32) (ef_hasAddress : Int32) (ef_address : Int32) (ef_value : Int32) (ef_size : Int32) (ef_place : Int32) (ef_stored : Int32) (ef_sr : Int32) (ef_sum : Int64) (ef_goes : Int32) (ef_target : Int32) (sz : Nat) (p0 : Int32) (p1 : Int32) (p2 : Int32) : kMi (S := Unit) l yX2_furtherResult wsX2_furtherResult ({ frames := 1, cells := 0, slots := 0, locals := 21 }) [.ref aEx, .int p0, .int p1, .int p2] G (kTY cI cB cP) sz [(aEx, .inr (2, [.ref aMe, .ref aSt, .ref aIn, .ref aEf])), (aIn, .inr (3, [.int ins_traits, .int ins_op, .int ins_d, .int ins_a, .int ins_b, .int ins_u, .int ins_i, .int ins_j])), (aEf, .inr (0, [.int ef_exception, .int ef_hasAddress, .int ef_address, .int ef_value, .int ef_size, .int ef_place, .int ef_stored, .int ef_sr, .long ef_sum, .int ef_goes, .int ef_target]))] (fX2_furtherResult ins_op ef_sr p0 p1 p2, ()) (fun _ _ => True) (fun _ => [(aEx, .inr (2, [.ref aMe, .ref aSt, .ref aIn, .ref aEf])), (aIn, .inr (3, [.int ins_traits, .int ins_op, .int ins_d, .int ins_a, .int ins_b, .int ins_u, .int ins_i, .int ins_j])), (aEf, .inr (0, [.int ef_exception, .int ef_hasAddress, .int ef_address, .int ef_value, .int ef_size, .int ef_place, .int ef_stored, .int ef_sr, .long ef_sum, .int ef_goes, .int ef_target]))]) := by
  refine k_ofi (cc := cX2_furtherResult) (maxL := 4) (by decide) rfl (Nat.le_of_ble_eq_true rfl) ?_
  intro p e s m args below meth c A ls Q H locs hx hb hml hown hts hin hK hP hD hA hS hl hret
  have hown : s.vm.findClass RX2 = some m.cls := hown
  have hl : lv_has ls 4 [(0, .ref aEx), (1, .int p0), (2, .int p1), (3, .int p2)] := hl
  refine lv_aload_n hx hb dX2_furtherResult_0 rfl (lv_at hl 0 rfl) ?_
  refine va_get (D := G) (ci := 2) (v := .ref aIn) (C := RX2) (T := TX2) (N := 4) hx hb hts iwX2_furtherResult_X2 hown hK hP 0 rfl rfl 2 (by decide) (hts _ lkX2_furtherResult_21) (fun _ h9 => h9) rfl dX2_furtherResult_1 ?_
  refine va_get (D := G) (ci := 3) (v := .int ins_op) (C := RX3) (T := TX3) (N := 8) hx hb hts iwX2_furtherResult_X3 hown hK hP 1 rfl rfl 1 (by decide) (hts _ lkX2_furtherResult_144) (fun _ h9 => h9) rfl dX2_furtherResult_4 ?_
  by_cases c1 : ins_op = 42
  · skip
    refine k_tab (tgt := 56) hx hb dX2_furtherResult_7 c1 (by decide) (by decide) rfl (by decide) ?_
    refine lv_iload_n hx hb dX2_furtherResult_56 rfl (lv_at hl 1 rfl) ?_
    refine lv_i2s (v := p0.toInt16.toInt32) hx hb dX2_furtherResult_57 rfl ?_
    exact hret H locs _ ls p0.toInt16.toInt32 () dX2_furtherResult_58 (by exact congrArg (fun x => (x, ())) (((if_pos c1).trans (rfl))).symm) trivial hP hD hS
  by_cases c2 : ins_op = 43
  · skip
    refine k_tab (tgt := 59) hx hb dX2_furtherResult_7 c2 (by decide) (by decide) rfl (by decide) ?_
    refine lv_iload_n hx hb dX2_furtherResult_59 rfl (lv_at hl 1 rfl) ?_
    refine lv_i2b (v := p0.toInt8.toInt32) hx hb dX2_furtherResult_60 rfl ?_
    exact hret H locs _ ls p0.toInt8.toInt32 () dX2_furtherResult_61 (by exact congrArg (fun x => (x, ())) (((if_neg c1).trans ((if_pos c2).trans (rfl)))).symm) trivial hP hD hS
  by_cases c3 : ins_op = 44
  · skip
    refine k_tab (tgt := 62) hx hb dX2_furtherResult_7 c3 (by decide) (by decide) rfl (by decide) ?_
    refine lv_iload_n hx hb dX2_furtherResult_62 rfl (lv_at hl 1 rfl) ?_
    refine lv_ldc (v := 65535) hx hb hown (hts _ lkX2_furtherResult_245) dX2_furtherResult_63 ?_
    refine lv_iand hx hb dX2_furtherResult_65 ?_
    exact hret H locs _ ls (p0 &&& 65535) () dX2_furtherResult_66 (by exact congrArg (fun x => (x, ())) (((if_neg c1).trans ((if_neg c2).trans ((if_pos c3).trans (rfl))))).symm) trivial hP hD hS
  by_cases c4 : ins_op = 45
  · skip
    refine k_tab (tgt := 67) hx hb dX2_furtherResult_7 c4 (by decide) (by decide) rfl (by decide) ?_
    refine lv_iload_n hx hb dX2_furtherResult_67 rfl (lv_at hl 1 rfl) ?_
    refine lv_sipush (v := 255) hx hb dX2_furtherResult_68 (by decide) ?_
    refine lv_iand hx hb dX2_furtherResult_71 ?_
    exact hret H locs _ ls (p0 &&& 255) () dX2_furtherResult_72 (by exact congrArg (fun x => (x, ())) (((if_neg c1).trans ((if_neg c2).trans ((if_neg c3).trans ((if_pos c4).trans (rfl)))))).symm) trivial hP hD hS
  by_cases c5 : ins_op = 46
  · skip
    refine k_tab (tgt := 73) hx hb dX2_furtherResult_7 c5 (by decide) (by decide) rfl (by decide) ?_
    refine lv_aload_n hx hb dX2_furtherResult_73 rfl (lv_at hl 0 rfl) ?_
    refine va_get (D := G) (ci := 2) (v := .ref aEf) (C := RX2) (T := TX2) (N := 4) hx hb hts iwX2_furtherResult_X2 hown hK hP 0 rfl rfl 3 (by decide) (hts _ lkX2_furtherResult_28) (fun _ h9 => h9) rfl dX2_furtherResult_74 ?_
    refine va_get (D := G) (ci := 0) (v := .int ef_sr) (C := RX0) (T := TX0) (N := 11) hx hb hts iwX2_furtherResult_X0 hown hK hP 2 rfl rfl 7 (by decide) (hts _ lkX2_furtherResult_139) (fun _ h9 => h9) rfl dX2_furtherResult_77 ?_
    refine lv_bipush (v := 32) hx hb dX2_furtherResult_80 (by decide) ?_
    refine lv_iand hx hb dX2_furtherResult_82 ?_
    refine lv_if_eq (tgt := 90) hx hb dX2_furtherResult_83 (by decide) (fun c6 => ?_) (fun c6 => ?_)
    · skip
      refine lv_iload_n hx hb dX2_furtherResult_90 rfl (lv_at hl 2 rfl) ?_
      exact hret H locs _ ls p1 () dX2_furtherResult_91 (by exact congrArg (fun x => (x, ())) (((if_neg c1).trans ((if_neg c2).trans ((if_neg c3).trans ((if_neg c4).trans ((if_pos c5).trans ((if_pos c6).trans (rfl)))))))).symm) trivial hP hD hS
    · skip
      refine lv_iload_n hx hb dX2_furtherResult_86 rfl (lv_at hl 1 rfl) ?_
      refine lv_goto (tgt := 91) hx hb dX2_furtherResult_87 (by decide) ?_
      exact hret H locs _ ls p0 () dX2_furtherResult_91 (by exact congrArg (fun x => (x, ())) (((if_neg c1).trans ((if_neg c2).trans ((if_neg c3).trans ((if_neg c4).trans ((if_pos c5).trans ((if_neg c6).trans (rfl)))))))).symm) trivial hP hD hS
  by_cases c7 : ins_op = 47
  · skip
    refine k_tab (tgt := 92) hx hb dX2_furtherResult_7 c7 (by decide) (by decide) rfl (by decide) ?_
    refine lv_iload_n hx hb dX2_furtherResult_92 rfl (lv_at hl 1 rfl) ?_
    refine lv_if_ne (tgt := 100) hx hb dX2_furtherResult_93 (by decide) (fun c8 => ?_) (fun c8 => ?_)
    · skip
      refine lv_iload_n hx hb dX2_furtherResult_100 rfl (lv_at hl 1 rfl) ?_
      refine k_iS (As := [.int p0]) (rest := []) ⟨hx, hb, hml, hown, hts⟩ hK hP hD hS hA (mJ6_numberOfTrailingZeros_0f7a4 l G cI cB cP   H.size p0 ) (va_cwS 1 hts gX2_furtherResult_J6_numberOfTrailingZeros_0f7a4 rfl rfl rfl (by decide +kernel) ⟨Nat.le_of_ble_eq_true rfl, Nat.le_of_ble_eq_true rfl⟩) rfl hl.1 rfl (Nat.le_of_ble_eq_true rfl) dX2_furtherResult_101 ⟨Nat.le_of_ble_eq_true rfl, Nat.le_of_ble_eq_true rfl⟩ (fun z1 H locs hz1 hEz1 hP hS => ?_)
      refine lv_iconst (v := 1) hx hb dX2_furtherResult_104 (by decide) ?_
      refine lv_iadd hx hb dX2_furtherResult_105 ?_
      exact hret H locs _ ls (z1 + 1) () dX2_furtherResult_106 (by clear hP hD hS hl; replace hz1 := hz1.symm; subst hz1; exact congrArg (fun x => (x, ())) (((if_neg c1).trans ((if_neg c2).trans ((if_neg c3).trans ((if_neg c4).trans ((if_neg c5).trans ((if_pos c7).trans ((if_neg c8).trans (rfl))))))))).symm) trivial hP hD hS
    · skip
      refine lv_iconst (v := 0) hx hb dX2_furtherResult_96 (by decide) ?_
      refine lv_goto (tgt := 106) hx hb dX2_furtherResult_97 (by decide) ?_
      exact hret H locs _ ls 0 () dX2_furtherResult_106 (by exact congrArg (fun x => (x, ())) (((if_neg c1).trans ((if_neg c2).trans ((if_neg c3).trans ((if_neg c4).trans ((if_neg c5).trans ((if_pos c7).trans ((if_pos c8).trans (rfl))))))))).symm) trivial hP hD hS
  by_cases c9 : ins_op = 48
  · skip
    refine k_tab (tgt := 107) hx hb dX2_furtherResult_7 c9 (by decide) (by decide) rfl (by decide) ?_
    refine lv_bipush (v := 32) hx hb dX2_furtherResult_107 (by decide) ?_
    refine lv_iload_n hx hb dX2_furtherResult_109 rfl (lv_at hl 1 rfl) ?_
    refine k_iS (As := [.int p0]) (rest := [.int 32]) ⟨hx, hb, hml, hown, hts⟩ hK hP hD hS hA (mJ6_numberOfLeadingZeros_0f7a4 l G cI cB cP   H.size p0 ) (va_cwS 1 hts gX2_furtherResult_J6_numberOfLeadingZeros_0f7a4 rfl rfl rfl (by decide +kernel) ⟨Nat.le_of_ble_eq_true rfl, Nat.le_of_ble_eq_true rfl⟩) rfl hl.1 rfl (Nat.le_of_ble_eq_true rfl) dX2_furtherResult_110 ⟨Nat.le_of_ble_eq_true rfl, Nat.le_of_ble_eq_true rfl⟩ (fun z2 H locs hz2 hEz2 hP hS => ?_)
    refine lv_isub hx hb dX2_furtherResult_113 ?_
    exact hret H locs _ ls (32 - z2) () dX2_furtherResult_114 (by clear hP hD hS hl; replace hz2 := hz2.symm; subst hz2; exact congrArg (fun x => (x, ())) (((if_neg c1).trans ((if_neg c2).trans ((if_neg c3).trans ((if_neg c4).trans ((if_neg c5).trans ((if_neg c7).trans ((if_pos c9).trans (rfl))))))))).symm) trivial hP hD hS
  by_cases c10 : ins_op = 49
  · skip
    refine k_tab (tgt := 115) hx hb dX2_furtherResult_7 c10 (by decide) (by decide) rfl (by decide) ?_
    refine lv_iload_n hx hb dX2_furtherResult_115 rfl (lv_at hl 1 rfl) ?_
    refine lv_iload_n hx hb dX2_furtherResult_116 rfl (lv_at hl 2 rfl) ?_
    refine lv_bipush (v := 31) hx hb dX2_furtherResult_117 (by decide) ?_
    refine lv_iand hx hb dX2_furtherResult_119 ?_
    refine k_iS (As := [.int p0, .int (p1 &&& 31)]) (rest := []) ⟨hx, hb, hml, hown, hts⟩ hK hP hD hS hA (mJ6_rotateRight_7cf53 l G cI cB cP   H.size p0 (p1 &&& 31) ) (va_cwS 2 hts gX2_furtherResult_J6_rotateRight_7cf53 rfl rfl rfl (by decide +kernel) ⟨Nat.le_of_ble_eq_true rfl, Nat.le_of_ble_eq_true rfl⟩) rfl hl.1 rfl (Nat.le_of_ble_eq_true rfl) dX2_furtherResult_120 ⟨Nat.le_of_ble_eq_true rfl, Nat.le_of_ble_eq_true rfl⟩ (fun z3 H locs hz3 hEz3 hP hS => ?_)
    exact hret H locs _ ls z3 () dX2_furtherResult_123 (by clear hP hD hS hl; replace hz3 := hz3.symm; subst hz3; exact congrArg (fun x => (x, ())) (((if_neg c1).trans ((if_neg c2).trans ((if_neg c3).trans ((if_neg c4).trans ((if_neg c5).trans ((if_neg c7).trans ((if_neg c9).trans ((if_pos c10).trans (rfl)))))))))).symm) trivial hP hD hS
  by_cases c11 : ins_op = 50
  · skip
    refine k_tab (tgt := 124) hx hb dX2_furtherResult_7 c11 (by decide) (by decide) rfl (by decide) ?_
    refine lv_iload_n hx hb dX2_furtherResult_124 rfl (lv_at hl 1 rfl) ?_
    refine lv_iload_n hx hb dX2_furtherResult_125 rfl (lv_at hl 3 rfl) ?_
    refine lv_bipush (v := 31) hx hb dX2_furtherResult_126 (by decide) ?_
    refine lv_iand hx hb dX2_furtherResult_128 ?_
    refine k_iS (As := [.int p0, .int (p2 &&& 31)]) (rest := []) ⟨hx, hb, hml, hown, hts⟩ hK hP hD hS hA (mJ6_rotateRight_7cf53 l G cI cB cP   H.size p0 (p2 &&& 31) ) (va_cwS 2 hts gX2_furtherResult_J6_rotateRight_7cf53 rfl rfl rfl (by decide +kernel) ⟨Nat.le_of_ble_eq_true rfl, Nat.le_of_ble_eq_true rfl⟩) rfl hl.1 rfl (Nat.le_of_ble_eq_true rfl) dX2_furtherResult_129 ⟨Nat.le_of_ble_eq_true rfl, Nat.le_of_ble_eq_true rfl⟩ (fun z4 H locs hz4 hEz4 hP hS => ?_)
    exact hret H locs _ ls z4 () dX2_furtherResult_132 (by clear hP hD hS hl; replace hz4 := hz4.symm; subst hz4; exact congrArg (fun x => (x, ())) (((if_neg c1).trans ((if_neg c2).trans ((if_neg c3).trans ((if_neg c4).trans ((if_neg c5).trans ((if_neg c7).trans ((if_neg c9).trans ((if_neg c10).trans ((if_pos c11).trans (rfl))))))))))).symm) trivial hP hD hS
  refine k_tabD (tgt := 133) hx hb dX2_furtherResult_7 [42, 43, 44, 45, 46, 47, 48, 49, 50] (List.forall_mem_cons.mpr ⟨c1, List.forall_mem_cons.mpr ⟨c2, List.forall_mem_cons.mpr ⟨c3, List.forall_mem_cons.mpr ⟨c4, List.forall_mem_cons.mpr ⟨c5, List.forall_mem_cons.mpr ⟨c7, List.forall_mem_cons.mpr ⟨c9, List.forall_mem_cons.mpr ⟨c10, List.forall_mem_cons.mpr ⟨c11, fun _ h => absurd h List.not_mem_nil⟩⟩⟩⟩⟩⟩⟩⟩⟩) (by decide) (by decide) (by decide) ?_
  refine lv_iconst (v := 0) hx hb dX2_furtherResult_133 (by decide) ?_
  exact hret H locs _ ls 0 () dX2_furtherResult_134 (by exact congrArg (fun x => (x, ())) (((if_neg c1).trans ((if_neg c2).trans ((if_neg c3).trans ((if_neg c4).trans ((if_neg c5).trans ((if_neg c7).trans ((if_neg c9).trans ((if_neg c10).trans ((if_neg c11).trans (rfl))))))))))).symm) trivial hP hD hS
def fX2_plainResult (ins_op : Int32) (ef_sr : Int32) (p0 : Int32) (p1 : Int32) (p2 : Int32) : Int32 :=
  if ins_op = 2 then (p0 &&& p1) else (if ins_op = 3 then (p0 ||| p1) else (if ins_op = 4 then (p0 ^^^ p1) else (if ins_op = 5 then (p0 <<< ((p1 &&& 31) &&& 31)) else (if ins_op = 6 then (jushr p0 (p1 &&& 31)) else (if ins_op = 7 then (p0 >>> ((p1 &&& 31) &&& 31)) else (if ins_op = 11 then (p0 &&& p2) else (if ins_op = 12 then (p0 ||| p2) else (if ins_op = 13 then (p0 ^^^ p2) else (if ins_op = 14 then (p2 <<< (16 &&& 31)) else (if ins_op = 15 then (p0 <<< ((p2 &&& 31) &&& 31)) else (if ins_op = 16 then (jushr p0 (p2 &&& 31)) else (if ins_op = 17 then (p0 >>> ((p2 &&& 31) &&& 31)) else ((let z1 := (fX2_furtherResult ins_op ef_sr p0 p1 p2, ()); z1.1))))))))))))))
theorem lkX2_plainResult_21 : Cond.fieldLink RX2 21 "TwinIssue$Executor" "instruction" "LTwinIssue$Instruction;" ∈ wsX2_plainResult := by decide +kernel
theorem lkX2_plainResult_144 : Cond.fieldLink RX2 144 "TwinIssue$Instruction" "op" "I" ∈ wsX2_plainResult := by decide +kernel
theorem iwX2_plainResult_X2 : ∀ w ∈ wsX20, w ∈ wsX2_plainResult := fun _ h => List.mem_cons_of_mem _ (List.mem_append_left _ (List.mem_append_left _ (List.mem_append_right _ h)))
theorem iwX2_plainResult_X3 : ∀ w ∈ wsX30, w ∈ wsX2_plainResult := fun _ h => List.mem_cons_of_mem _ (List.mem_append_left _ (List.mem_append_right _ h))
set_option maxHeartbeats 4000000 in
set_option maxRecDepth 100000 in
theorem mX2_plainResult (l : Launch) (G : va_G) (cI cB cP : ClassId) (aEx aMe aSt aIn aEf : Nat) (ins_traits : Int32) (ins_op : Int32) (ins_d : Int32) (ins_a : Int32) (ins_b : Int32) (ins_u : Int32) (ins_i : Int32) (ins_j : Int32) (ef_exception : Int32) (ef_hasAddress : Int32) (ef_address : Int32) (ef_value : Int32) (ef_size : Int32) (ef_place : Int32) (ef_stored : Int32) (ef_sr : Int32) (ef_sum : Int64) (ef_goes : Int32) (ef_target : Int32) (sz : Nat) (p0 : Int32) (p1 : Int32) (p2 : Int32) : kMi (S := Unit) l yX2_plainResult wsX2_plainResult ({ frames := 2, cells := 0, slots := 0, locals := 44 }) [.ref aEx, .int p0, .int p1, .int p2] G (kTY cI cB cP) sz [(aEx, .inr (2, [.ref aMe, .ref aSt, .ref aIn, .ref aEf])), (aIn, .inr (3, [.int ins_traits, .int ins_op, .int ins_d, .int ins_a, .int ins_b, .int ins_u, .int ins_i, .int ins_j])), (aEf, .inr (0, [.int ef_exception, .int ef_hasAddress, .int ef_address, .int ef_value, .int ef_size, .int ef_place, .int ef_stored, .int ef_sr, .long ef_sum, .int ef_goes, .int ef_target]))] (fX2_plainResult ins_op ef_sr p0 p1 p2, ()) (fun _ _ => True) (fun _ => [(aEx, .inr (2, [.ref aMe, .ref aSt, .ref aIn, .ref aEf])), (aIn, .inr (3, [.int ins_traits, .int ins_op, .int ins_d, .int ins_a, .int ins_b, .int ins_u, .int ins_i, .int ins_j])), (aEf, .inr (0, [.int ef_exception, .int ef_hasAddress, .int ef_address, .int ef_value, .int ef_size, .int ef_place, .int ef_stored, .int ef_sr, .long ef_sum, .int ef_goes, .int ef_target]))]) := by
  refine k_ofi (cc := cX2_plainResult) (maxL := 4) (by decide) rfl (Nat.le_of_ble_eq_true rfl) ?_
  intro p e s m args below meth c A ls Q H locs hx hb hml hown hts hin hK hP hD hA hS hl hret
  have hown : s.vm.findClass RX2 = some m.cls := hown
  have hl : lv_has ls 4 [(0, .ref aEx), (1, .int p0), (2, .int p1), (3, .int p2)] := hl
  refine lv_aload_n hx hb dX2_plainResult_0 rfl (lv_at hl 0 rfl) ?_
  refine va_get (D := G) (ci := 2) (v := .ref aIn) (C := RX2) (T := TX2) (N := 4) hx hb hts iwX2_plainResult_X2 hown hK hP 0 rfl rfl 2 (by decide) (hts _ lkX2_plainResult_21) (fun _ h9 => h9) rfl dX2_plainResult_1 ?_
  refine va_get (D := G) (ci := 3) (v := .int ins_op) (C := RX3) (T := TX3) (N := 8) hx hb hts iwX2_plainResult_X3 hown hK hP 1 rfl rfl 1 (by decide) (hts _ lkX2_plainResult_144) (fun _ h9 => h9) rfl dX2_plainResult_4 ?_
  by_cases c1 : ins_op = 2
  · skip
    refine k_tab (tgt := 84) hx hb dX2_plainResult_7 c1 (by decide) (by decide) rfl (by decide) ?_
    refine lv_iload_n hx hb dX2_plainResult_84 rfl (lv_at hl 1 rfl) ?_
    refine lv_iload_n hx hb dX2_plainResult_85 rfl (lv_at hl 2 rfl) ?_
    refine lv_iand hx hb dX2_plainResult_86 ?_
    exact hret H locs _ ls (p0 &&& p1) () dX2_plainResult_87 (by exact congrArg (fun x => (x, ())) (((if_pos c1).trans (rfl))).symm) trivial hP hD hS
  by_cases c2 : ins_op = 3
  · skip
    refine k_tab (tgt := 88) hx hb dX2_plainResult_7 c2 (by decide) (by decide) rfl (by decide) ?_
    refine lv_iload_n hx hb dX2_plainResult_88 rfl (lv_at hl 1 rfl) ?_
    refine lv_iload_n hx hb dX2_plainResult_89 rfl (lv_at hl 2 rfl) ?_
    refine lv_ior hx hb dX2_plainResult_90 ?_
    exact hret H locs _ ls (p0 ||| p1) () dX2_plainResult_91 (by exact congrArg (fun x => (x, ())) (((if_neg c1).trans ((if_pos c2).trans (rfl)))).symm) trivial hP hD hS
  by_cases c3 : ins_op = 4
  · skip
    refine k_tab (tgt := 92) hx hb dX2_plainResult_7 c3 (by decide) (by decide) rfl (by decide) ?_
    refine lv_iload_n hx hb dX2_plainResult_92 rfl (lv_at hl 1 rfl) ?_
    refine lv_iload_n hx hb dX2_plainResult_93 rfl (lv_at hl 2 rfl) ?_
    refine lv_ixor hx hb dX2_plainResult_94 ?_
    exact hret H locs _ ls (p0 ^^^ p1) () dX2_plainResult_95 (by exact congrArg (fun x => (x, ())) (((if_neg c1).trans ((if_neg c2).trans ((if_pos c3).trans (rfl))))).symm) trivial hP hD hS
  by_cases c4 : ins_op = 5
  · skip
    refine k_tab (tgt := 96) hx hb dX2_plainResult_7 c4 (by decide) (by decide) rfl (by decide) ?_
    refine lv_iload_n hx hb dX2_plainResult_96 rfl (lv_at hl 1 rfl) ?_
    refine lv_iload_n hx hb dX2_plainResult_97 rfl (lv_at hl 2 rfl) ?_
    refine lv_bipush (v := 31) hx hb dX2_plainResult_98 (by decide) ?_
    refine lv_iand hx hb dX2_plainResult_100 ?_
    refine lv_ishl hx hb dX2_plainResult_101 ?_
    exact hret H locs _ ls (p0 <<< ((p1 &&& 31) &&& 31)) () dX2_plainResult_102 (by exact congrArg (fun x => (x, ())) (((if_neg c1).trans ((if_neg c2).trans ((if_neg c3).trans ((if_pos c4).trans (rfl)))))).symm) trivial hP hD hS
  by_cases c5 : ins_op = 6
  · skip
    refine k_tab (tgt := 103) hx hb dX2_plainResult_7 c5 (by decide) (by decide) rfl (by decide) ?_
    refine lv_iload_n hx hb dX2_plainResult_103 rfl (lv_at hl 1 rfl) ?_
    refine lv_iload_n hx hb dX2_plainResult_104 rfl (lv_at hl 2 rfl) ?_
    refine lv_bipush (v := 31) hx hb dX2_plainResult_105 (by decide) ?_
    refine lv_iand hx hb dX2_plainResult_107 ?_
    refine lv_iushr (v := jushr p0 (p1 &&& 31)) hx hb dX2_plainResult_108 rfl ?_
    exact hret H locs _ ls (jushr p0 (p1 &&& 31)) () dX2_plainResult_109 (by exact congrArg (fun x => (x, ())) (((if_neg c1).trans ((if_neg c2).trans ((if_neg c3).trans ((if_neg c4).trans ((if_pos c5).trans (rfl))))))).symm) trivial hP hD hS
  by_cases c6 : ins_op = 7
  · skip
    refine k_tab (tgt := 110) hx hb dX2_plainResult_7 c6 (by decide) (by decide) rfl (by decide) ?_
    refine lv_iload_n hx hb dX2_plainResult_110 rfl (lv_at hl 1 rfl) ?_
    refine lv_iload_n hx hb dX2_plainResult_111 rfl (lv_at hl 2 rfl) ?_
    refine lv_bipush (v := 31) hx hb dX2_plainResult_112 (by decide) ?_
    refine lv_iand hx hb dX2_plainResult_114 ?_
    refine lv_ishr hx hb dX2_plainResult_115 ?_
    exact hret H locs _ ls (p0 >>> ((p1 &&& 31) &&& 31)) () dX2_plainResult_116 (by exact congrArg (fun x => (x, ())) (((if_neg c1).trans ((if_neg c2).trans ((if_neg c3).trans ((if_neg c4).trans ((if_neg c5).trans ((if_pos c6).trans (rfl)))))))).symm) trivial hP hD hS
  by_cases c7 : ins_op = 11
  · skip
    refine k_tab (tgt := 117) hx hb dX2_plainResult_7 c7 (by decide) (by decide) rfl (by decide) ?_
    refine lv_iload_n hx hb dX2_plainResult_117 rfl (lv_at hl 1 rfl) ?_
    refine lv_iload_n hx hb dX2_plainResult_118 rfl (lv_at hl 3 rfl) ?_
    refine lv_iand hx hb dX2_plainResult_119 ?_
    exact hret H locs _ ls (p0 &&& p2) () dX2_plainResult_120 (by exact congrArg (fun x => (x, ())) (((if_neg c1).trans ((if_neg c2).trans ((if_neg c3).trans ((if_neg c4).trans ((if_neg c5).trans ((if_neg c6).trans ((if_pos c7).trans (rfl))))))))).symm) trivial hP hD hS
  by_cases c8 : ins_op = 12
  · skip
    refine k_tab (tgt := 121) hx hb dX2_plainResult_7 c8 (by decide) (by decide) rfl (by decide) ?_
    refine lv_iload_n hx hb dX2_plainResult_121 rfl (lv_at hl 1 rfl) ?_
    refine lv_iload_n hx hb dX2_plainResult_122 rfl (lv_at hl 3 rfl) ?_
    refine lv_ior hx hb dX2_plainResult_123 ?_
    exact hret H locs _ ls (p0 ||| p2) () dX2_plainResult_124 (by exact congrArg (fun x => (x, ())) (((if_neg c1).trans ((if_neg c2).trans ((if_neg c3).trans ((if_neg c4).trans ((if_neg c5).trans ((if_neg c6).trans ((if_neg c7).trans ((if_pos c8).trans (rfl)))))))))).symm) trivial hP hD hS
  by_cases c9 : ins_op = 13
  · skip
    refine k_tab (tgt := 125) hx hb dX2_plainResult_7 c9 (by decide) (by decide) rfl (by decide) ?_
    refine lv_iload_n hx hb dX2_plainResult_125 rfl (lv_at hl 1 rfl) ?_
    refine lv_iload_n hx hb dX2_plainResult_126 rfl (lv_at hl 3 rfl) ?_
    refine lv_ixor hx hb dX2_plainResult_127 ?_
    exact hret H locs _ ls (p0 ^^^ p2) () dX2_plainResult_128 (by exact congrArg (fun x => (x, ())) (((if_neg c1).trans ((if_neg c2).trans ((if_neg c3).trans ((if_neg c4).trans ((if_neg c5).trans ((if_neg c6).trans ((if_neg c7).trans ((if_neg c8).trans ((if_pos c9).trans (rfl))))))))))).symm) trivial hP hD hS
  by_cases c10 : ins_op = 14
  · skip
    refine k_tab (tgt := 129) hx hb dX2_plainResult_7 c10 (by decide) (by decide) rfl (by decide) ?_
    refine lv_iload_n hx hb dX2_plainResult_129 rfl (lv_at hl 3 rfl) ?_
    refine lv_bipush (v := 16) hx hb dX2_plainResult_130 (by decide) ?_
    refine lv_ishl hx hb dX2_plainResult_132 ?_
    exact hret H locs _ ls (p2 <<< (16 &&& 31)) () dX2_plainResult_133 (by exact congrArg (fun x => (x, ())) (((if_neg c1).trans ((if_neg c2).trans ((if_neg c3).trans ((if_neg c4).trans ((if_neg c5).trans ((if_neg c6).trans ((if_neg c7).trans ((if_neg c8).trans ((if_neg c9).trans ((if_pos c10).trans (rfl)))))))))))).symm) trivial hP hD hS
  by_cases c11 : ins_op = 15
  · skip
    refine k_tab (tgt := 134) hx hb dX2_plainResult_7 c11 (by decide) (by decide) rfl (by decide) ?_
    refine lv_iload_n hx hb dX2_plainResult_134 rfl (lv_at hl 1 rfl) ?_
    refine lv_iload_n hx hb dX2_plainResult_135 rfl (lv_at hl 3 rfl) ?_
    refine lv_bipush (v := 31) hx hb dX2_plainResult_136 (by decide) ?_
    refine lv_iand hx hb dX2_plainResult_138 ?_
    refine lv_ishl hx hb dX2_plainResult_139 ?_
    exact hret H locs _ ls (p0 <<< ((p2 &&& 31) &&& 31)) () dX2_plainResult_140 (by exact congrArg (fun x => (x, ())) (((if_neg c1).trans ((if_neg c2).trans ((if_neg c3).trans ((if_neg c4).trans ((if_neg c5).trans ((if_neg c6).trans ((if_neg c7).trans ((if_neg c8).trans ((if_neg c9).trans ((if_neg c10).trans ((if_pos c11).trans (rfl))))))))))))).symm) trivial hP hD hS
  by_cases c12 : ins_op = 16
  · skip
    refine k_tab (tgt := 141) hx hb dX2_plainResult_7 c12 (by decide) (by decide) rfl (by decide) ?_
    refine lv_iload_n hx hb dX2_plainResult_141 rfl (lv_at hl 1 rfl) ?_
    refine lv_iload_n hx hb dX2_plainResult_142 rfl (lv_at hl 3 rfl) ?_
    refine lv_bipush (v := 31) hx hb dX2_plainResult_143 (by decide) ?_
    refine lv_iand hx hb dX2_plainResult_145 ?_
    refine lv_iushr (v := jushr p0 (p2 &&& 31)) hx hb dX2_plainResult_146 rfl ?_
    exact hret H locs _ ls (jushr p0 (p2 &&& 31)) () dX2_plainResult_147 (by exact congrArg (fun x => (x, ())) (((if_neg c1).trans ((if_neg c2).trans ((if_neg c3).trans ((if_neg c4).trans ((if_neg c5).trans ((if_neg c6).trans ((if_neg c7).trans ((if_neg c8).trans ((if_neg c9).trans ((if_neg c10).trans ((if_neg c11).trans ((if_pos c12).trans (rfl)))))))))))))).symm) trivial hP hD hS
  by_cases c13 : ins_op = 17
  · skip
    refine k_tab (tgt := 148) hx hb dX2_plainResult_7 c13 (by decide) (by decide) rfl (by decide) ?_
    refine lv_iload_n hx hb dX2_plainResult_148 rfl (lv_at hl 1 rfl) ?_
    refine lv_iload_n hx hb dX2_plainResult_149 rfl (lv_at hl 3 rfl) ?_
    refine lv_bipush (v := 31) hx hb dX2_plainResult_150 (by decide) ?_
    refine lv_iand hx hb dX2_plainResult_152 ?_
    refine lv_ishr hx hb dX2_plainResult_153 ?_
    exact hret H locs _ ls (p0 >>> ((p2 &&& 31) &&& 31)) () dX2_plainResult_154 (by exact congrArg (fun x => (x, ())) (((if_neg c1).trans ((if_neg c2).trans ((if_neg c3).trans ((if_neg c4).trans ((if_neg c5).trans ((if_neg c6).trans ((if_neg c7).trans ((if_neg c8).trans ((if_neg c9).trans ((if_neg c10).trans ((if_neg c11).trans ((if_neg c12).trans ((if_pos c13).trans (rfl))))))))))))))).symm) trivial hP hD hS
  refine k_tabD (tgt := 155) hx hb dX2_plainResult_7 [2, 3, 4, 5, 6, 7, 11, 12, 13, 14, 15, 16, 17] (List.forall_mem_cons.mpr ⟨c1, List.forall_mem_cons.mpr ⟨c2, List.forall_mem_cons.mpr ⟨c3, List.forall_mem_cons.mpr ⟨c4, List.forall_mem_cons.mpr ⟨c5, List.forall_mem_cons.mpr ⟨c6, List.forall_mem_cons.mpr ⟨c7, List.forall_mem_cons.mpr ⟨c8, List.forall_mem_cons.mpr ⟨c9, List.forall_mem_cons.mpr ⟨c10, List.forall_mem_cons.mpr ⟨c11, List.forall_mem_cons.mpr ⟨c12, List.forall_mem_cons.mpr ⟨c13, fun _ h => absurd h List.not_mem_nil⟩⟩⟩⟩⟩⟩⟩⟩⟩⟩⟩⟩⟩) (by decide) (by decide) (by decide) ?_
  refine lv_aload_n hx hb dX2_plainResult_155 rfl (lv_at hl 0 rfl) ?_
  refine lv_iload_n hx hb dX2_plainResult_156 rfl (lv_at hl 1 rfl) ?_
  refine lv_iload_n hx hb dX2_plainResult_157 rfl (lv_at hl 2 rfl) ?_
  refine lv_iload_n hx hb dX2_plainResult_158 rfl (lv_at hl 3 rfl) ?_
  refine k_iV (As := [.int p0, .int p1, .int p2]) (rest := []) (wc := [(aEx, .inr (2, [.ref aMe, .ref aSt, .ref aIn, .ref aEf])), (aIn, .inr (3, [.int ins_traits, .int ins_op, .int ins_d, .int ins_a, .int ins_b, .int ins_u, .int ins_i, .int ins_j])), (aEf, .inr (0, [.int ef_exception, .int ef_hasAddress, .int ef_address, .int ef_value, .int ef_size, .int ef_place, .int ef_stored, .int ef_sr, .long ef_sum, .int ef_goes, .int ef_target]))]) (wr := []) ⟨hx, hb, hml, hown, hts⟩ hK hP hD hS hA [0, 1, 2] [] rfl rfl rfl rfl (by decide) (mX2_furtherResult l G cI cB cP aEx aMe aSt aIn aEf ins_traits ins_op ins_d ins_a ins_b ins_u ins_i ins_j ef_exception ef_hasAddress ef_address ef_value ef_size ef_place ef_stored ef_sr ef_sum ef_goes ef_target H.size p0 p1 p2 ) (cwV 3 hts gX2_plainResult_X2_furtherResult rfl rfl rfl (by decide +kernel) ⟨Nat.le_of_ble_eq_true rfl, Nat.le_of_ble_eq_true rfl⟩) 0 2 rfl rfl rfl rfl hl.1 rfl (Nat.le_of_ble_eq_true rfl) dX2_plainResult_159 ⟨Nat.le_of_ble_eq_true rfl, Nat.le_of_ble_eq_true rfl⟩ (fun z1 H locs hz1 hEz1 hP hD hS => ?_)
  have hP : va_P G vwCl [(aEx, .inr (2, [.ref aMe, .ref aSt, .ref aIn, .ref aEf])), (aIn, .inr (3, [.int ins_traits, .int ins_op, .int ins_d, .int ins_a, .int ins_b, .int ins_u, .int ins_i, .int ins_j])), (aEf, .inr (0, [.int ef_exception, .int ef_hasAddress, .int ef_address, .int ef_value, .int ef_size, .int ef_place, .int ef_stored, .int ef_sr, .long ef_sum, .int ef_goes, .int ef_target]))] H := hP
  have hD : va_D A [(aEx, .inr (2, [.ref aMe, .ref aSt, .ref aIn, .ref aEf])), (aIn, .inr (3, [.int ins_traits, .int ins_op, .int ins_d, .int ins_a, .int ins_b, .int ins_u, .int ins_i, .int ins_j])), (aEf, .inr (0, [.int ef_exception, .int ef_hasAddress, .int ef_address, .int ef_value, .int ef_size, .int ef_place, .int ef_stored, .int ef_sr, .long ef_sum, .int ef_goes, .int ef_target]))] := hD
  exact hret H locs _ ls z1.1 () dX2_plainResult_162 (by clear hP hD hS hl; replace hz1 := hz1.symm; subst hz1; exact congrArg (fun x => (x, ())) (((if_neg c1).trans ((if_neg c2).trans ((if_neg c3).trans ((if_neg c4).trans ((if_neg c5).trans ((if_neg c6).trans ((if_neg c7).trans ((if_neg c8).trans ((if_neg c9).trans ((if_neg c10).trans ((if_neg c11).trans ((if_neg c12).trans ((if_neg c13).trans (rfl))))))))))))))).symm) trivial hP hD hS
def fX2_calculate (ins_op : Int32) (ins_u : Int32) (ins_i : Int32) (ef_exception : Int32) (ef_value : Int32) (ef_sr : Int32) (ef_sum : Int64) (p0 : Int32) (p1 : Int32) : Int32 × Int32 × Int32 × Int64 :=
  (let j1 : Int32 := if (ef_sr &&& 128) = 0 then (0) else (1); if ins_op = 0 then ((let z2 := fX2_add ef_exception ef_sr p0 p1 0; (z2.1, z2.2.1, z2.2.2, ef_sum))) else (if ins_op = 1 then ((let z3 := fX2_subtract ef_exception ef_sr p0 p1; (z3.1, z3.2.1, z3.2.2, ef_sum))) else (if ins_op = 8 then ((let z4 := fX2_multiply ef_exception ef_sr p0 p1; (z4.1, z4.2.1, z4.2.2, ef_sum))) else (if ins_op = 9 then ((let z5 := fX2_divide ef_exception ef_sr p0 p1; (z5.1, z5.2.1, z5.2.2, ef_sum))) else (if ins_op = 10 then ((let z6 := fX2_add ef_exception ef_sr p0 ins_i 0; (z6.1, z6.2.1, z6.2.2, ef_sum))) else (if ins_op = 34 then ((let z7 := fX2_add ef_exception ef_sr p0 p1 j1; (z7.1, z7.2.1, z7.2.2, ef_sum))) else (if ins_op = 35 then ((let z8 := fX2_add ef_exception ef_sr p0 ins_i j1; (z8.1, z8.2.1, z8.2.2, ef_sum))) else (if ins_op = 36 then ((let z9 := fX2_multiplyUnsigned ef_sr p0 p1; (ef_exception, z9.1, z9.2, ef_sum))) else (if ins_op = 37 then ((let z10 := fX2_divideUnsigned ef_sr p0 p1; (ef_exception, z10.1, z10.2, ef_sum))) else (if ins_op = 38 then ((ef_exception, ef_value, ef_sr, ef_sum + (p0.toInt64 * p1.toInt64))) else (if ins_op = 39 then ((ef_exception, ef_value, ef_sr, ef_sum + (p0.toInt64 * ins_i.toInt64))) else (if ins_op = 40 then ((ef_exception, ef_value, ef_sr, ef_sum - (p0.toInt64 * p1.toInt64))) else (if ins_op = 41 then ((ef_exception, ef_sum.toInt32, ef_sr, 0)) else (if ins_op = 57 then ((let z11 := fX2_multiply ef_exception ef_sr p0 ins_i; (z11.1, z11.2.1, z11.2.2, ef_sum))) else ((let z12 := (fX2_plainResult ins_op ef_sr p0 p1 ins_u, ()); (ef_exception, z12.1, ef_sr, ef_sum)))))))))))))))))
theorem lkX2_calculate_21 : Cond.fieldLink RX2 21 "TwinIssue$Executor" "instruction" "LTwinIssue$Instruction;" ∈ wsX2_calculate := by decide +kernel
theorem lkX2_calculate_28 : Cond.fieldLink RX2 28 "TwinIssue$Executor" "effect" "LTwinIssue$Effect;" ∈ wsX2_calculate := by decide +kernel
theorem lkX2_calculate_139 : Cond.fieldLink RX2 139 "TwinIssue$Effect" "sr" "I" ∈ wsX2_calculate := by decide +kernel
theorem lkX2_calculate_144 : Cond.fieldLink RX2 144 "TwinIssue$Instruction" "op" "I" ∈ wsX2_calculate := by decide +kernel
theorem lkX2_calculate_150 : Cond.fieldLink RX2 150 "TwinIssue$Effect" "value" "I" ∈ wsX2_calculate := by decide +kernel
theorem lkX2_calculate_159 : Cond.fieldLink RX2 159 "TwinIssue$Instruction" "i" "I" ∈ wsX2_calculate := by decide +kernel
theorem lkX2_calculate_190 : Cond.fieldLink RX2 190 "TwinIssue$Instruction" "u" "I" ∈ wsX2_calculate := by decide +kernel
theorem lkX2_calculate_230 : Cond.fieldLink RX2 230 "TwinIssue$Effect" "sum" "J" ∈ wsX2_calculate := by decide +kernel
theorem iwX2_calculate_X0 : ∀ w ∈ wsX00, w ∈ wsX2_calculate := fun _ h => List.mem_cons_of_mem _ (List.mem_append_left _ (List.mem_append_right _ h))
theorem iwX2_calculate_X2 : ∀ w ∈ wsX20, w ∈ wsX2_calculate := fun _ h => List.mem_cons_of_mem _ (List.mem_append_left _ (List.mem_append_left _ (List.mem_append_right _ h)))
theorem iwX2_calculate_X3 : ∀ w ∈ wsX30, w ∈ wsX2_calculate := fun _ h => List.mem_cons_of_mem _ (List.mem_append_right _ h)
def sX2_calculate (ins_op : Int32) (ins_u : Int32) (ins_i : Int32) (ef_exception : Int32) (ef_sr : Int32) (p0 : Int32) (p1 : Int32) : Prop :=
  (((ef_sr &&& 128) = 0 → True) ∧ (¬ ((ef_sr &&& 128) = 0) → True)) ∧ (∀ j1 : Int32, j1 = (if (ef_sr &&& 128) = 0 then (0) else (1)) → ((ins_op = 0 → ((∀ z2, z2 = fX2_add ef_exception ef_sr p0 p1 0 → True))) ∧ (¬ (ins_op = 0) → ((ins_op = 1 → ((∀ z3, z3 = fX2_subtract ef_exception ef_sr p0 p1 → True))) ∧ (¬ (ins_op = 1) → ((ins_op = 8 → ((∀ z4, z4 = fX2_multiply ef_exception ef_sr p0 p1 → True))) ∧ (¬ (ins_op = 8) → ((ins_op = 9 → ((sX2_divide ef_exception ef_sr p0 p1) ∧ ((∀ z5, z5 = fX2_divide ef_exception ef_sr p0 p1 → True)))) ∧ (¬ (ins_op = 9) → ((ins_op = 10 → ((∀ z6, z6 = fX2_add ef_exception ef_sr p0 ins_i 0 → True))) ∧ (¬ (ins_op = 10) → ((ins_op = 34 → ((∀ z7, z7 = fX2_add ef_exception ef_sr p0 p1 j1 → True))) ∧ (¬ (ins_op = 34) → ((ins_op = 35 → ((∀ z8, z8 = fX2_add ef_exception ef_sr p0 ins_i j1 → True))) ∧ (¬ (ins_op = 35) → ((ins_op = 36 → ((∀ z9, z9 = fX2_multiplyUnsigned ef_sr p0 p1 → True))) ∧ (¬ (ins_op = 36) → ((ins_op = 37 → ((sX2_divideUnsigned ef_sr p0 p1) ∧ ((∀ z10, z10 = fX2_divideUnsigned ef_sr p0 p1 → True)))) ∧ (¬ (ins_op = 37) → ((ins_op = 38 → True) ∧ (¬ (ins_op = 38) → ((ins_op = 39 → True) ∧ (¬ (ins_op = 39) → ((ins_op = 40 → True) ∧ (¬ (ins_op = 40) → ((ins_op = 41 → True) ∧ (¬ (ins_op = 41) → ((ins_op = 57 → ((∀ z11, z11 = fX2_multiply ef_exception ef_sr p0 ins_i → True))) ∧ (¬ (ins_op = 57) → ((∀ z12, z12 = (fX2_plainResult ins_op ef_sr p0 p1 ins_u, ()) → True)))))))))))))))))))))))))))))))
set_option maxHeartbeats 4000000 in
set_option maxRecDepth 100000 in
theorem mX2_calculate (l : Launch) (G : va_G) (cI cB cP : ClassId) (aEx aMe aSt aIn aEf : Nat) (ins_traits : Int32) (ins_op : Int32) (ins_d : Int32) (ins_a : Int32) (ins_b : Int32) (ins_u : Int32) (ins_i : Int32) (ins_j : Int32) (ef_exception : Int32) (ef_hasAddress : Int32) (ef_address : Int32) (ef_value : Int32) (ef_size : Int32) (ef_place : Int32) (ef_stored : Int32) (ef_sr : Int32) (ef_sum : Int64) (ef_goes : Int32) (ef_target : Int32) (sz : Nat) (p0 : Int32) (p1 : Int32) (hs : sX2_calculate ins_op ins_u ins_i ef_exception ef_sr p0 p1) : kMv (S := Int32 × Int32 × Int32 × Int64) l yX2_calculate wsX2_calculate ({ frames := 3, cells := 0, slots := 0, locals := 67 }) [.ref aEx, .int p0, .int p1] G (kTY cI cB cP) sz [(aEx, .inr (2, [.ref aMe, .ref aSt, .ref aIn, .ref aEf])), (aIn, .inr (3, [.int ins_traits, .int ins_op, .int ins_d, .int ins_a, .int ins_b, .int ins_u, .int ins_i, .int ins_j])), (aEf, .inr (0, [.int ef_exception, .int ef_hasAddress, .int ef_address, .int ef_value, .int ef_size, .int ef_place, .int ef_stored, .int ef_sr, .long ef_sum, .int ef_goes, .int ef_target]))] (fX2_calculate ins_op ins_u ins_i ef_exception ef_value ef_sr ef_sum p0 p1) (fun _ => True) (fun u => [(aEx, .inr (2, [.ref aMe, .ref aSt, .ref aIn, .ref aEf])), (aIn, .inr (3, [.int ins_traits, .int ins_op, .int ins_d, .int ins_a, .int ins_b, .int ins_u, .int ins_i, .int ins_j])), (aEf, .inr (0, [.int u.1, .int ef_hasAddress, .int ef_address, .int u.2.1, .int ef_size, .int ef_place, .int ef_stored, .int u.2.2.1, .long u.2.2.2, .int ef_goes, .int ef_target]))]) := by
  refine k_ofv (cc := cX2_calculate) (maxL := 5) (by decide) rfl (Nat.le_of_ble_eq_true rfl) ?_
  intro p e s m args below meth c A ls Q H locs hx hb hml hown hts hin hK hP hD hA hS hl hret
  have hown : s.vm.findClass RX2 = some m.cls := hown
  have hl : lv_has ls 5 [(0, .ref aEx), (1, .int p0), (2, .int p1)] := hl
  unfold sX2_calculate at hs
  refine lv_aload_n hx hb dX2_calculate_0 rfl (lv_at hl 0 rfl) ?_
  refine va_get (D := G) (ci := 2) (v := .ref aEf) (C := RX2) (T := TX2) (N := 4) hx hb hts iwX2_calculate_X2 hown hK hP 0 rfl rfl 3 (by decide) (hts _ lkX2_calculate_28) (fun _ h9 => h9) rfl dX2_calculate_1 ?_
  refine va_get (D := G) (ci := 0) (v := .int ef_sr) (C := RX0) (T := TX0) (N := 11) hx hb hts iwX2_calculate_X0 hown hK hP 2 rfl rfl 7 (by decide) (hts _ lkX2_calculate_139) (fun _ h9 => h9) rfl dX2_calculate_4 ?_
  refine lv_sipush (v := 128) hx hb dX2_calculate_7 (by decide) ?_
  refine lv_iand hx hb dX2_calculate_10 ?_
  have Kj1 : ∀ (j1 : Int32) (H : Heap) (locs : List Loc) (ls : Array Slot), j1 = (if (ef_sr &&& 128) = 0 then (0) else (1)) → isB j1 → va_P G vwCl [(aEx, .inr (2, [.ref aMe, .ref aSt, .ref aIn, .ref aEf])), (aIn, .inr (3, [.int ins_traits, .int ins_op, .int ins_d, .int ins_a, .int ins_b, .int ins_u, .int ins_i, .int ins_j])), (aEf, .inr (0, [.int ef_exception, .int ef_hasAddress, .int ef_address, .int ef_value, .int ef_size, .int ef_place, .int ef_stored, .int ef_sr, .long ef_sum, .int ef_goes, .int ef_target]))] H → va_D A [(aEx, .inr (2, [.ref aMe, .ref aSt, .ref aIn, .ref aEf])), (aIn, .inr (3, [.int ins_traits, .int ins_op, .int ins_d, .int ins_a, .int ins_b, .int ins_u, .int ins_i, .int ins_j])), (aEf, .inr (0, [.int ef_exception, .int ef_hasAddress, .int ef_address, .int ef_value, .int ef_size, .int ef_place, .int ef_stored, .int ef_sr, .long ef_sum, .int ef_goes, .int ef_target]))] → va_S A s.heap H locs → lv_has ls 5 [(0, .ref aEx), (1, .int p0), (2, .int p1)] → W p l e ({ frames := 3, cells := 0, slots := 0, locals := 67 }) s m args below meth c H locs 0 0 Q (F0 m 19 ls [.int j1]) := by
    intro j1 H locs ls hj1 hbj1_0 hP hD hS hl
    have hs := hs.2 j1 hj1
    refine lv_istore_n (lv' := [(3, .int j1), (0, .ref aEx), (1, .int p0), (2, .int p1)]) hx hb dX2_calculate_19 rfl hl (by decide) rfl (fun ls hl => ?_)
    refine lv_aload_n hx hb dX2_calculate_20 rfl (lv_at hl 1 rfl) ?_
    refine va_get (D := G) (ci := 2) (v := .ref aIn) (C := RX2) (T := TX2) (N := 4) hx hb hts iwX2_calculate_X2 hown hK hP 0 rfl rfl 2 (by decide) (hts _ lkX2_calculate_21) (fun _ h9 => h9) rfl dX2_calculate_21 ?_
    refine va_get (D := G) (ci := 3) (v := .int ins_i) (C := RX3) (T := TX3) (N := 8) hx hb hts iwX2_calculate_X3 hown hK hP 1 rfl rfl 6 (by decide) (hts _ lkX2_calculate_159) (fun _ h9 => h9) rfl dX2_calculate_24 ?_
    refine lv_istore (lv' := [(4, .int ins_i), (3, .int j1), (0, .ref aEx), (1, .int p0), (2, .int p1)]) hx hb dX2_calculate_27 hl (by decide) rfl (fun ls hl => ?_)
    refine lv_aload_n hx hb dX2_calculate_29 rfl (lv_at hl 2 rfl) ?_
    refine va_get (D := G) (ci := 2) (v := .ref aIn) (C := RX2) (T := TX2) (N := 4) hx hb hts iwX2_calculate_X2 hown hK hP 0 rfl rfl 2 (by decide) (hts _ lkX2_calculate_21) (fun _ h9 => h9) rfl dX2_calculate_30 ?_
    refine va_get (D := G) (ci := 3) (v := .int ins_op) (C := RX3) (T := TX3) (N := 8) hx hb hts iwX2_calculate_X3 hown hK hP 1 rfl rfl 1 (by decide) (hts _ lkX2_calculate_144) (fun _ h9 => h9) rfl dX2_calculate_33 ?_
    by_cases c3 : ins_op = 0
    · have hs := hs.1 c3
      refine k_tab (tgt := 284) hx hb dX2_calculate_36 c3 (by decide) (by decide) rfl (by decide) ?_
      refine lv_aload_n hx hb dX2_calculate_284 rfl (lv_at hl 2 rfl) ?_
      refine lv_iload_n hx hb dX2_calculate_285 rfl (lv_at hl 3 rfl) ?_
      refine lv_iload_n hx hb dX2_calculate_286 rfl (lv_at hl 4 rfl) ?_
      refine lv_iconst (v := 0) hx hb dX2_calculate_287 (by decide) ?_
      refine k_vV (As := [.int p0, .int p1, .int 0]) (rest := []) (wc := [(aEx, .inr (2, [.ref aMe, .ref aSt, .ref aIn, .ref aEf])), (aEf, .inr (0, [.int ef_exception, .int ef_hasAddress, .int ef_address, .int ef_value, .int ef_size, .int ef_place, .int ef_stored, .int ef_sr, .long ef_sum, .int ef_goes, .int ef_target]))]) (wr := [(aIn, .inr (3, [.int ins_traits, .int ins_op, .int ins_d, .int ins_a, .int ins_b, .int ins_u, .int ins_i, .int ins_j]))]) ⟨hx, hb, hml, hown, hts⟩ hK hP hD hS hA [0, 2] [1] rfl rfl rfl rfl (by decide) (mX2_add l G cI cB cP aEx aMe aSt aIn aEf ef_exception ef_hasAddress ef_address ef_value ef_size ef_place ef_stored ef_sr ef_sum ef_goes ef_target H.size p0 p1 0 ) (cwV 3 hts gX2_calculate_X2_add rfl rfl rfl (by decide +kernel) ⟨Nat.le_of_ble_eq_true rfl, Nat.le_of_ble_eq_true rfl⟩) 0 2 rfl rfl rfl rfl hl.1 rfl (Nat.le_of_ble_eq_true rfl) dX2_calculate_288 ⟨Nat.le_of_ble_eq_true rfl, Nat.le_of_ble_eq_true rfl⟩ (fun z2 H locs hz2 hEz2 hP hD hS => ?_)
      have hs := hs z2 hz2
      have hP : va_P G vwCl [(aIn, .inr (3, [.int ins_traits, .int ins_op, .int ins_d, .int ins_a, .int ins_b, .int ins_u, .int ins_i, .int ins_j])), (aEx, .inr (2, [.ref aMe, .ref aSt, .ref aIn, .ref aEf])), (aEf, .inr (0, [.int z2.1, .int ef_hasAddress, .int ef_address, .int z2.2.1, .int ef_size, .int ef_place, .int ef_stored, .int z2.2.2, .long ef_sum, .int ef_goes, .int ef_target]))] H := hP
      have hD : va_D A [(aIn, .inr (3, [.int ins_traits, .int ins_op, .int ins_d, .int ins_a, .int ins_b, .int ins_u, .int ins_i, .int ins_j])), (aEx, .inr (2, [.ref aMe, .ref aSt, .ref aIn, .ref aEf])), (aEf, .inr (0, [.int z2.1, .int ef_hasAddress, .int ef_address, .int z2.2.1, .int ef_size, .int ef_place, .int ef_stored, .int z2.2.2, .long ef_sum, .int ef_goes, .int ef_target]))] := hD
      refine lv_goto (tgt := 488) hx hb dX2_calculate_291 (by decide) ?_
      have hP := hP.sub (ws' := [(aEx, .inr (2, [.ref aMe, .ref aSt, .ref aIn, .ref aEf])), (aIn, .inr (3, [.int ins_traits, .int ins_op, .int ins_d, .int ins_a, .int ins_b, .int ins_u, .int ins_i, .int ins_j])), (aEf, .inr (0, [.int z2.1, .int ef_hasAddress, .int ef_address, .int z2.2.1, .int ef_size, .int ef_place, .int ef_stored, .int z2.2.2, .long ef_sum, .int ef_goes, .int ef_target]))]) [1, 0, 2] rfl
      have hD := hD.sub (ws' := [(aEx, .inr (2, [.ref aMe, .ref aSt, .ref aIn, .ref aEf])), (aIn, .inr (3, [.int ins_traits, .int ins_op, .int ins_d, .int ins_a, .int ins_b, .int ins_u, .int ins_i, .int ins_j])), (aEf, .inr (0, [.int z2.1, .int ef_hasAddress, .int ef_address, .int z2.2.1, .int ef_size, .int ef_place, .int ef_stored, .int z2.2.2, .long ef_sum, .int ef_goes, .int ef_target]))]) [1, 0, 2] (by decide) rfl
      exact hret H locs _ ls (z2.1, z2.2.1, z2.2.2, ef_sum) dX2_calculate_488 (by clear hP hD hS hl; replace hz2 := hz2.symm; subst hz2; replace hj1 := hj1.symm; subst hj1; exact (((if_pos c3).trans (rfl))).symm) trivial hP hD hS
    have hs := hs.2 c3
    by_cases c4 : ins_op = 1
    · have hs := hs.1 c4
      refine k_tab (tgt := 326) hx hb dX2_calculate_36 c4 (by decide) (by decide) rfl (by decide) ?_
      refine lv_aload_n hx hb dX2_calculate_326 rfl (lv_at hl 2 rfl) ?_
      refine lv_iload_n hx hb dX2_calculate_327 rfl (lv_at hl 3 rfl) ?_
      refine lv_iload_n hx hb dX2_calculate_328 rfl (lv_at hl 4 rfl) ?_
      refine k_vV (As := [.int p0, .int p1]) (rest := []) (wc := [(aEx, .inr (2, [.ref aMe, .ref aSt, .ref aIn, .ref aEf])), (aEf, .inr (0, [.int ef_exception, .int ef_hasAddress, .int ef_address, .int ef_value, .int ef_size, .int ef_place, .int ef_stored, .int ef_sr, .long ef_sum, .int ef_goes, .int ef_target]))]) (wr := [(aIn, .inr (3, [.int ins_traits, .int ins_op, .int ins_d, .int ins_a, .int ins_b, .int ins_u, .int ins_i, .int ins_j]))]) ⟨hx, hb, hml, hown, hts⟩ hK hP hD hS hA [0, 2] [1] rfl rfl rfl rfl (by decide) (mX2_subtract l G cI cB cP aEx aMe aSt aIn aEf ef_exception ef_hasAddress ef_address ef_value ef_size ef_place ef_stored ef_sr ef_sum ef_goes ef_target H.size p0 p1 ) (cwV 2 hts gX2_calculate_X2_subtract rfl rfl rfl (by decide +kernel) ⟨Nat.le_of_ble_eq_true rfl, Nat.le_of_ble_eq_true rfl⟩) 0 2 rfl rfl rfl rfl hl.1 rfl (Nat.le_of_ble_eq_true rfl) dX2_calculate_329 ⟨Nat.le_of_ble_eq_true rfl, Nat.le_of_ble_eq_true rfl⟩ (fun z3 H locs hz3 hEz3 hP hD hS => ?_)
      have hs := hs z3 hz3
      have hP : va_P G vwCl [(aIn, .inr (3, [.int ins_traits, .int ins_op, .int ins_d, .int ins_a, .int ins_b, .int ins_u, .int ins_i, .int ins_j])), (aEx, .inr (2, [.ref aMe, .ref aSt, .ref aIn, .ref aEf])), (aEf, .inr (0, [.int z3.1, .int ef_hasAddress, .int ef_address, .int z3.2.1, .int ef_size, .int ef_place, .int ef_stored, .int z3.2.2, .long ef_sum, .int ef_goes, .int ef_target]))] H := hP
      have hD : va_D A [(aIn, .inr (3, [.int ins_traits, .int ins_op, .int ins_d, .int ins_a, .int ins_b, .int ins_u, .int ins_i, .int ins_j])), (aEx, .inr (2, [.ref aMe, .ref aSt, .ref aIn, .ref aEf])), (aEf, .inr (0, [.int z3.1, .int ef_hasAddress, .int ef_address, .int z3.2.1, .int ef_size, .int ef_place, .int ef_stored, .int z3.2.2, .long ef_sum, .int ef_goes, .int ef_target]))] := hD
      refine lv_goto (tgt := 488) hx hb dX2_calculate_332 (by decide) ?_
      have hP := hP.sub (ws' := [(aEx, .inr (2, [.ref aMe, .ref aSt, .ref aIn, .ref aEf])), (aIn, .inr (3, [.int ins_traits, .int ins_op, .int ins_d, .int ins_a, .int ins_b, .int ins_u, .int ins_i, .int ins_j])), (aEf, .inr (0, [.int z3.1, .int ef_hasAddress, .int ef_address, .int z3.2.1, .int ef_size, .int ef_place, .int ef_stored, .int z3.2.2, .long ef_sum, .int ef_goes, .int ef_target]))]) [1, 0, 2] rfl
      have hD := hD.sub (ws' := [(aEx, .inr (2, [.ref aMe, .ref aSt, .ref aIn, .ref aEf])), (aIn, .inr (3, [.int ins_traits, .int ins_op, .int ins_d, .int ins_a, .int ins_b, .int ins_u, .int ins_i, .int ins_j])), (aEf, .inr (0, [.int z3.1, .int ef_hasAddress, .int ef_address, .int z3.2.1, .int ef_size, .int ef_place, .int ef_stored, .int z3.2.2, .long ef_sum, .int ef_goes, .int ef_target]))]) [1, 0, 2] (by decide) rfl
      exact hret H locs _ ls (z3.1, z3.2.1, z3.2.2, ef_sum) dX2_calculate_488 (by clear hP hD hS hl; replace hz3 := hz3.symm; subst hz3; replace hj1 := hj1.symm; subst hj1; exact (((if_neg c3).trans ((if_pos c4).trans (rfl)))).symm) trivial hP hD hS
    have hs := hs.2 c4
    by_cases c5 : ins_op = 8
    · have hs := hs.1 c5
      refine k_tab (tgt := 335) hx hb dX2_calculate_36 c5 (by decide) (by decide) rfl (by decide) ?_
      refine lv_aload_n hx hb dX2_calculate_335 rfl (lv_at hl 2 rfl) ?_
      refine lv_iload_n hx hb dX2_calculate_336 rfl (lv_at hl 3 rfl) ?_
      refine lv_iload_n hx hb dX2_calculate_337 rfl (lv_at hl 4 rfl) ?_
      refine k_vV (As := [.int p0, .int p1]) (rest := []) (wc := [(aEx, .inr (2, [.ref aMe, .ref aSt, .ref aIn, .ref aEf])), (aEf, .inr (0, [.int ef_exception, .int ef_hasAddress, .int ef_address, .int ef_value, .int ef_size, .int ef_place, .int ef_stored, .int ef_sr, .long ef_sum, .int ef_goes, .int ef_target]))]) (wr := [(aIn, .inr (3, [.int ins_traits, .int ins_op, .int ins_d, .int ins_a, .int ins_b, .int ins_u, .int ins_i, .int ins_j]))]) ⟨hx, hb, hml, hown, hts⟩ hK hP hD hS hA [0, 2] [1] rfl rfl rfl rfl (by decide) (mX2_multiply l G cI cB cP aEx aMe aSt aIn aEf ef_exception ef_hasAddress ef_address ef_value ef_size ef_place ef_stored ef_sr ef_sum ef_goes ef_target H.size p0 p1 ) (cwV 2 hts gX2_calculate_X2_multiply rfl rfl rfl (by decide +kernel) ⟨Nat.le_of_ble_eq_true rfl, Nat.le_of_ble_eq_true rfl⟩) 0 2 rfl rfl rfl rfl hl.1 rfl (Nat.le_of_ble_eq_true rfl) dX2_calculate_338 ⟨Nat.le_of_ble_eq_true rfl, Nat.le_of_ble_eq_true rfl⟩ (fun z4 H locs hz4 hEz4 hP hD hS => ?_)
      have hs := hs z4 hz4
      have hP : va_P G vwCl [(aIn, .inr (3, [.int ins_traits, .int ins_op, .int ins_d, .int ins_a, .int ins_b, .int ins_u, .int ins_i, .int ins_j])), (aEx, .inr (2, [.ref aMe, .ref aSt, .ref aIn, .ref aEf])), (aEf, .inr (0, [.int z4.1, .int ef_hasAddress, .int ef_address, .int z4.2.1, .int ef_size, .int ef_place, .int ef_stored, .int z4.2.2, .long ef_sum, .int ef_goes, .int ef_target]))] H := hP
      have hD : va_D A [(aIn, .inr (3, [.int ins_traits, .int ins_op, .int ins_d, .int ins_a, .int ins_b, .int ins_u, .int ins_i, .int ins_j])), (aEx, .inr (2, [.ref aMe, .ref aSt, .ref aIn, .ref aEf])), (aEf, .inr (0, [.int z4.1, .int ef_hasAddress, .int ef_address, .int z4.2.1, .int ef_size, .int ef_place, .int ef_stored, .int z4.2.2, .long ef_sum, .int ef_goes, .int ef_target]))] := hD
      refine lv_goto (tgt := 488) hx hb dX2_calculate_341 (by decide) ?_
      have hP := hP.sub (ws' := [(aEx, .inr (2, [.ref aMe, .ref aSt, .ref aIn, .ref aEf])), (aIn, .inr (3, [.int ins_traits, .int ins_op, .int ins_d, .int ins_a, .int ins_b, .int ins_u, .int ins_i, .int ins_j])), (aEf, .inr (0, [.int z4.1, .int ef_hasAddress, .int ef_address, .int z4.2.1, .int ef_size, .int ef_place, .int ef_stored, .int z4.2.2, .long ef_sum, .int ef_goes, .int ef_target]))]) [1, 0, 2] rfl
      have hD := hD.sub (ws' := [(aEx, .inr (2, [.ref aMe, .ref aSt, .ref aIn, .ref aEf])), (aIn, .inr (3, [.int ins_traits, .int ins_op, .int ins_d, .int ins_a, .int ins_b, .int ins_u, .int ins_i, .int ins_j])), (aEf, .inr (0, [.int z4.1, .int ef_hasAddress, .int ef_address, .int z4.2.1, .int ef_size, .int ef_place, .int ef_stored, .int z4.2.2, .long ef_sum, .int ef_goes, .int ef_target]))]) [1, 0, 2] (by decide) rfl
      exact hret H locs _ ls (z4.1, z4.2.1, z4.2.2, ef_sum) dX2_calculate_488 (by clear hP hD hS hl; replace hz4 := hz4.symm; subst hz4; replace hj1 := hj1.symm; subst hj1; exact (((if_neg c3).trans ((if_neg c4).trans ((if_pos c5).trans (rfl))))).symm) trivial hP hD hS
    have hs := hs.2 c5
    by_cases c6 : ins_op = 9
    · have hs := hs.1 c6
      refine k_tab (tgt := 363) hx hb dX2_calculate_36 c6 (by decide) (by decide) rfl (by decide) ?_
      refine lv_aload_n hx hb dX2_calculate_363 rfl (lv_at hl 2 rfl) ?_
      refine lv_iload_n hx hb dX2_calculate_364 rfl (lv_at hl 3 rfl) ?_
      refine lv_iload_n hx hb dX2_calculate_365 rfl (lv_at hl 4 rfl) ?_
      obtain ⟨o1, hs⟩ := hs
      refine k_vV (As := [.int p0, .int p1]) (rest := []) (wc := [(aEx, .inr (2, [.ref aMe, .ref aSt, .ref aIn, .ref aEf])), (aEf, .inr (0, [.int ef_exception, .int ef_hasAddress, .int ef_address, .int ef_value, .int ef_size, .int ef_place, .int ef_stored, .int ef_sr, .long ef_sum, .int ef_goes, .int ef_target]))]) (wr := [(aIn, .inr (3, [.int ins_traits, .int ins_op, .int ins_d, .int ins_a, .int ins_b, .int ins_u, .int ins_i, .int ins_j]))]) ⟨hx, hb, hml, hown, hts⟩ hK hP hD hS hA [0, 2] [1] rfl rfl rfl rfl (by decide) (mX2_divide l G cI cB cP aEx aMe aSt aIn aEf ef_exception ef_hasAddress ef_address ef_value ef_size ef_place ef_stored ef_sr ef_sum ef_goes ef_target H.size p0 p1 o1) (cwV 2 hts gX2_calculate_X2_divide rfl rfl rfl (by decide +kernel) ⟨Nat.le_of_ble_eq_true rfl, Nat.le_of_ble_eq_true rfl⟩) 0 2 rfl rfl rfl rfl hl.1 rfl (Nat.le_of_ble_eq_true rfl) dX2_calculate_366 ⟨Nat.le_of_ble_eq_true rfl, Nat.le_of_ble_eq_true rfl⟩ (fun z5 H locs hz5 hEz5 hP hD hS => ?_)
      have hs := hs z5 hz5
      have hP : va_P G vwCl [(aIn, .inr (3, [.int ins_traits, .int ins_op, .int ins_d, .int ins_a, .int ins_b, .int ins_u, .int ins_i, .int ins_j])), (aEx, .inr (2, [.ref aMe, .ref aSt, .ref aIn, .ref aEf])), (aEf, .inr (0, [.int z5.1, .int ef_hasAddress, .int ef_address, .int z5.2.1, .int ef_size, .int ef_place, .int ef_stored, .int z5.2.2, .long ef_sum, .int ef_goes, .int ef_target]))] H := hP
      have hD : va_D A [(aIn, .inr (3, [.int ins_traits, .int ins_op, .int ins_d, .int ins_a, .int ins_b, .int ins_u, .int ins_i, .int ins_j])), (aEx, .inr (2, [.ref aMe, .ref aSt, .ref aIn, .ref aEf])), (aEf, .inr (0, [.int z5.1, .int ef_hasAddress, .int ef_address, .int z5.2.1, .int ef_size, .int ef_place, .int ef_stored, .int z5.2.2, .long ef_sum, .int ef_goes, .int ef_target]))] := hD
      refine lv_goto (tgt := 488) hx hb dX2_calculate_369 (by decide) ?_
      have hP := hP.sub (ws' := [(aEx, .inr (2, [.ref aMe, .ref aSt, .ref aIn, .ref aEf])), (aIn, .inr (3, [.int ins_traits, .int ins_op, .int ins_d, .int ins_a, .int ins_b, .int ins_u, .int ins_i, .int ins_j])), (aEf, .inr (0, [.int z5.1, .int ef_hasAddress, .int ef_address, .int z5.2.1, .int ef_size, .int ef_place, .int ef_stored, .int z5.2.2, .long ef_sum, .int ef_goes, .int ef_target]))]) [1, 0, 2] rfl
      have hD := hD.sub (ws' := [(aEx, .inr (2, [.ref aMe, .ref aSt, .ref aIn, .ref aEf])), (aIn, .inr (3, [.int ins_traits, .int ins_op, .int ins_d, .int ins_a, .int ins_b, .int ins_u, .int ins_i, .int ins_j])), (aEf, .inr (0, [.int z5.1, .int ef_hasAddress, .int ef_address, .int z5.2.1, .int ef_size, .int ef_place, .int ef_stored, .int z5.2.2, .long ef_sum, .int ef_goes, .int ef_target]))]) [1, 0, 2] (by decide) rfl
      exact hret H locs _ ls (z5.1, z5.2.1, z5.2.2, ef_sum) dX2_calculate_488 (by clear hP hD hS hl; replace hz5 := hz5.symm; subst hz5; replace hj1 := hj1.symm; subst hj1; exact (((if_neg c3).trans ((if_neg c4).trans ((if_neg c5).trans ((if_pos c6).trans (rfl)))))).symm) trivial hP hD hS
    have hs := hs.2 c6
    by_cases c7 : ins_op = 10
    · have hs := hs.1 c7
      refine k_tab (tgt := 294) hx hb dX2_calculate_36 c7 (by decide) (by decide) rfl (by decide) ?_
      refine lv_aload_n hx hb dX2_calculate_294 rfl (lv_at hl 2 rfl) ?_
      refine lv_iload_n hx hb dX2_calculate_295 rfl (lv_at hl 3 rfl) ?_
      refine lv_iload hx hb dX2_calculate_296 (lv_at hl 0 rfl) ?_
      refine lv_iconst (v := 0) hx hb dX2_calculate_298 (by decide) ?_
      refine k_vV (As := [.int p0, .int ins_i, .int 0]) (rest := []) (wc := [(aEx, .inr (2, [.ref aMe, .ref aSt, .ref aIn, .ref aEf])), (aEf, .inr (0, [.int ef_exception, .int ef_hasAddress, .int ef_address, .int ef_value, .int ef_size, .int ef_place, .int ef_stored, .int ef_sr, .long ef_sum, .int ef_goes, .int ef_target]))]) (wr := [(aIn, .inr (3, [.int ins_traits, .int ins_op, .int ins_d, .int ins_a, .int ins_b, .int ins_u, .int ins_i, .int ins_j]))]) ⟨hx, hb, hml, hown, hts⟩ hK hP hD hS hA [0, 2] [1] rfl rfl rfl rfl (by decide) (mX2_add l G cI cB cP aEx aMe aSt aIn aEf ef_exception ef_hasAddress ef_address ef_value ef_size ef_place ef_stored ef_sr ef_sum ef_goes ef_target H.size p0 ins_i 0 ) (cwV 3 hts gX2_calculate_X2_add rfl rfl rfl (by decide +kernel) ⟨Nat.le_of_ble_eq_true rfl, Nat.le_of_ble_eq_true rfl⟩) 0 2 rfl rfl rfl rfl hl.1 rfl (Nat.le_of_ble_eq_true rfl) dX2_calculate_299 ⟨Nat.le_of_ble_eq_true rfl, Nat.le_of_ble_eq_true rfl⟩ (fun z6 H locs hz6 hEz6 hP hD hS => ?_)
      have hs := hs z6 hz6
      have hP : va_P G vwCl [(aIn, .inr (3, [.int ins_traits, .int ins_op, .int ins_d, .int ins_a, .int ins_b, .int ins_u, .int ins_i, .int ins_j])), (aEx, .inr (2, [.ref aMe, .ref aSt, .ref aIn, .ref aEf])), (aEf, .inr (0, [.int z6.1, .int ef_hasAddress, .int ef_address, .int z6.2.1, .int ef_size, .int ef_place, .int ef_stored, .int z6.2.2, .long ef_sum, .int ef_goes, .int ef_target]))] H := hP
      have hD : va_D A [(aIn, .inr (3, [.int ins_traits, .int ins_op, .int ins_d, .int ins_a, .int ins_b, .int ins_u, .int ins_i, .int ins_j])), (aEx, .inr (2, [.ref aMe, .ref aSt, .ref aIn, .ref aEf])), (aEf, .inr (0, [.int z6.1, .int ef_hasAddress, .int ef_address, .int z6.2.1, .int ef_size, .int ef_place, .int ef_stored, .int z6.2.2, .long ef_sum, .int ef_goes, .int ef_target]))] := hD
      refine lv_goto (tgt := 488) hx hb dX2_calculate_302 (by decide) ?_
      have hP := hP.sub (ws' := [(aEx, .inr (2, [.ref aMe, .ref aSt, .ref aIn, .ref aEf])), (aIn, .inr (3, [.int ins_traits, .int ins_op, .int ins_d, .int ins_a, .int ins_b, .int ins_u, .int ins_i, .int ins_j])), (aEf, .inr (0, [.int z6.1, .int ef_hasAddress, .int ef_address, .int z6.2.1, .int ef_size, .int ef_place, .int ef_stored, .int z6.2.2, .long ef_sum, .int ef_goes, .int ef_target]))]) [1, 0, 2] rfl
      have hD := hD.sub (ws' := [(aEx, .inr (2, [.ref aMe, .ref aSt, .ref aIn, .ref aEf])), (aIn, .inr (3, [.int ins_traits, .int ins_op, .int ins_d, .int ins_a, .int ins_b, .int ins_u, .int ins_i, .int ins_j])), (aEf, .inr (0, [.int z6.1, .int ef_hasAddress, .int ef_address, .int z6.2.1, .int ef_size, .int ef_place, .int ef_stored, .int z6.2.2, .long ef_sum, .int ef_goes, .int ef_target]))]) [1, 0, 2] (by decide) rfl
      exact hret H locs _ ls (z6.1, z6.2.1, z6.2.2, ef_sum) dX2_calculate_488 (by clear hP hD hS hl; replace hz6 := hz6.symm; subst hz6; replace hj1 := hj1.symm; subst hj1; exact (((if_neg c3).trans ((if_neg c4).trans ((if_neg c5).trans ((if_neg c6).trans ((if_pos c7).trans (rfl))))))).symm) trivial hP hD hS
    have hs := hs.2 c7
    by_cases c8 : ins_op = 34
    · have hs := hs.1 c8
      refine k_tab (tgt := 305) hx hb dX2_calculate_36 c8 (by decide) (by decide) rfl (by decide) ?_
      refine lv_aload_n hx hb dX2_calculate_305 rfl (lv_at hl 2 rfl) ?_
      refine lv_iload_n hx hb dX2_calculate_306 rfl (lv_at hl 3 rfl) ?_
      refine lv_iload_n hx hb dX2_calculate_307 rfl (lv_at hl 4 rfl) ?_
      refine lv_iload_n hx hb dX2_calculate_308 rfl (lv_at hl 1 rfl) ?_
      refine k_vV (As := [.int p0, .int p1, .int j1]) (rest := []) (wc := [(aEx, .inr (2, [.ref aMe, .ref aSt, .ref aIn, .ref aEf])), (aEf, .inr (0, [.int ef_exception, .int ef_hasAddress, .int ef_address, .int ef_value, .int ef_size, .int ef_place, .int ef_stored, .int ef_sr, .long ef_sum, .int ef_goes, .int ef_target]))]) (wr := [(aIn, .inr (3, [.int ins_traits, .int ins_op, .int ins_d, .int ins_a, .int ins_b, .int ins_u, .int ins_i, .int ins_j]))]) ⟨hx, hb, hml, hown, hts⟩ hK hP hD hS hA [0, 2] [1] rfl rfl rfl rfl (by decide) (mX2_add l G cI cB cP aEx aMe aSt aIn aEf ef_exception ef_hasAddress ef_address ef_value ef_size ef_place ef_stored ef_sr ef_sum ef_goes ef_target H.size p0 p1 j1 ) (cwV 3 hts gX2_calculate_X2_add rfl rfl rfl (by decide +kernel) ⟨Nat.le_of_ble_eq_true rfl, Nat.le_of_ble_eq_true rfl⟩) 0 2 rfl rfl rfl rfl hl.1 rfl (Nat.le_of_ble_eq_true rfl) dX2_calculate_309 ⟨Nat.le_of_ble_eq_true rfl, Nat.le_of_ble_eq_true rfl⟩ (fun z7 H locs hz7 hEz7 hP hD hS => ?_)
      have hs := hs z7 hz7
      have hP : va_P G vwCl [(aIn, .inr (3, [.int ins_traits, .int ins_op, .int ins_d, .int ins_a, .int ins_b, .int ins_u, .int ins_i, .int ins_j])), (aEx, .inr (2, [.ref aMe, .ref aSt, .ref aIn, .ref aEf])), (aEf, .inr (0, [.int z7.1, .int ef_hasAddress, .int ef_address, .int z7.2.1, .int ef_size, .int ef_place, .int ef_stored, .int z7.2.2, .long ef_sum, .int ef_goes, .int ef_target]))] H := hP
      have hD : va_D A [(aIn, .inr (3, [.int ins_traits, .int ins_op, .int ins_d, .int ins_a, .int ins_b, .int ins_u, .int ins_i, .int ins_j])), (aEx, .inr (2, [.ref aMe, .ref aSt, .ref aIn, .ref aEf])), (aEf, .inr (0, [.int z7.1, .int ef_hasAddress, .int ef_address, .int z7.2.1, .int ef_size, .int ef_place, .int ef_stored, .int z7.2.2, .long ef_sum, .int ef_goes, .int ef_target]))] := hD
      refine lv_goto (tgt := 488) hx hb dX2_calculate_312 (by decide) ?_
      have hP := hP.sub (ws' := [(aEx, .inr (2, [.ref aMe, .ref aSt, .ref aIn, .ref aEf])), (aIn, .inr (3, [.int ins_traits, .int ins_op, .int ins_d, .int ins_a, .int ins_b, .int ins_u, .int ins_i, .int ins_j])), (aEf, .inr (0, [.int z7.1, .int ef_hasAddress, .int ef_address, .int z7.2.1, .int ef_size, .int ef_place, .int ef_stored, .int z7.2.2, .long ef_sum, .int ef_goes, .int ef_target]))]) [1, 0, 2] rfl
      have hD := hD.sub (ws' := [(aEx, .inr (2, [.ref aMe, .ref aSt, .ref aIn, .ref aEf])), (aIn, .inr (3, [.int ins_traits, .int ins_op, .int ins_d, .int ins_a, .int ins_b, .int ins_u, .int ins_i, .int ins_j])), (aEf, .inr (0, [.int z7.1, .int ef_hasAddress, .int ef_address, .int z7.2.1, .int ef_size, .int ef_place, .int ef_stored, .int z7.2.2, .long ef_sum, .int ef_goes, .int ef_target]))]) [1, 0, 2] (by decide) rfl
      exact hret H locs _ ls (z7.1, z7.2.1, z7.2.2, ef_sum) dX2_calculate_488 (by clear hP hD hS hl; replace hz7 := hz7.symm; subst hz7; replace hj1 := hj1.symm; subst hj1; exact (((if_neg c3).trans ((if_neg c4).trans ((if_neg c5).trans ((if_neg c6).trans ((if_neg c7).trans ((if_pos c8).trans (rfl)))))))).symm) trivial hP hD hS
    have hs := hs.2 c8
    by_cases c9 : ins_op = 35
    · have hs := hs.1 c9
      refine k_tab (tgt := 315) hx hb dX2_calculate_36 c9 (by decide) (by decide) rfl (by decide) ?_
      refine lv_aload_n hx hb dX2_calculate_315 rfl (lv_at hl 2 rfl) ?_
      refine lv_iload_n hx hb dX2_calculate_316 rfl (lv_at hl 3 rfl) ?_
      refine lv_iload hx hb dX2_calculate_317 (lv_at hl 0 rfl) ?_
      refine lv_iload_n hx hb dX2_calculate_319 rfl (lv_at hl 1 rfl) ?_
      refine k_vV (As := [.int p0, .int ins_i, .int j1]) (rest := []) (wc := [(aEx, .inr (2, [.ref aMe, .ref aSt, .ref aIn, .ref aEf])), (aEf, .inr (0, [.int ef_exception, .int ef_hasAddress, .int ef_address, .int ef_value, .int ef_size, .int ef_place, .int ef_stored, .int ef_sr, .long ef_sum, .int ef_goes, .int ef_target]))]) (wr := [(aIn, .inr (3, [.int ins_traits, .int ins_op, .int ins_d, .int ins_a, .int ins_b, .int ins_u, .int ins_i, .int ins_j]))]) ⟨hx, hb, hml, hown, hts⟩ hK hP hD hS hA [0, 2] [1] rfl rfl rfl rfl (by decide) (mX2_add l G cI cB cP aEx aMe aSt aIn aEf ef_exception ef_hasAddress ef_address ef_value ef_size ef_place ef_stored ef_sr ef_sum ef_goes ef_target H.size p0 ins_i j1 ) (cwV 3 hts gX2_calculate_X2_add rfl rfl rfl (by decide +kernel) ⟨Nat.le_of_ble_eq_true rfl, Nat.le_of_ble_eq_true rfl⟩) 0 2 rfl rfl rfl rfl hl.1 rfl (Nat.le_of_ble_eq_true rfl) dX2_calculate_320 ⟨Nat.le_of_ble_eq_true rfl, Nat.le_of_ble_eq_true rfl⟩ (fun z8 H locs hz8 hEz8 hP hD hS => ?_)
      have hs := hs z8 hz8
      have hP : va_P G vwCl [(aIn, .inr (3, [.int ins_traits, .int ins_op, .int ins_d, .int ins_a, .int ins_b, .int ins_u, .int ins_i, .int ins_j])), (aEx, .inr (2, [.ref aMe, .ref aSt, .ref aIn, .ref aEf])), (aEf, .inr (0, [.int z8.1, .int ef_hasAddress, .int ef_address, .int z8.2.1, .int ef_size, .int ef_place, .int ef_stored, .int z8.2.2, .long ef_sum, .int ef_goes, .int ef_target]))] H := hP
      have hD : va_D A [(aIn, .inr (3, [.int ins_traits, .int ins_op, .int ins_d, .int ins_a, .int ins_b, .int ins_u, .int ins_i, .int ins_j])), (aEx, .inr (2, [.ref aMe, .ref aSt, .ref aIn, .ref aEf])), (aEf, .inr (0, [.int z8.1, .int ef_hasAddress, .int ef_address, .int z8.2.1, .int ef_size, .int ef_place, .int ef_stored, .int z8.2.2, .long ef_sum, .int ef_goes, .int ef_target]))] := hD
      refine lv_goto (tgt := 488) hx hb dX2_calculate_323 (by decide) ?_
      have hP := hP.sub (ws' := [(aEx, .inr (2, [.ref aMe, .ref aSt, .ref aIn, .ref aEf])), (aIn, .inr (3, [.int ins_traits, .int ins_op, .int ins_d, .int ins_a, .int ins_b, .int ins_u, .int ins_i, .int ins_j])), (aEf, .inr (0, [.int z8.1, .int ef_hasAddress, .int ef_address, .int z8.2.1, .int ef_size, .int ef_place, .int ef_stored, .int z8.2.2, .long ef_sum, .int ef_goes, .int ef_target]))]) [1, 0, 2] rfl
      have hD := hD.sub (ws' := [(aEx, .inr (2, [.ref aMe, .ref aSt, .ref aIn, .ref aEf])), (aIn, .inr (3, [.int ins_traits, .int ins_op, .int ins_d, .int ins_a, .int ins_b, .int ins_u, .int ins_i, .int ins_j])), (aEf, .inr (0, [.int z8.1, .int ef_hasAddress, .int ef_address, .int z8.2.1, .int ef_size, .int ef_place, .int ef_stored, .int z8.2.2, .long ef_sum, .int ef_goes, .int ef_target]))]) [1, 0, 2] (by decide) rfl
      exact hret H locs _ ls (z8.1, z8.2.1, z8.2.2, ef_sum) dX2_calculate_488 (by clear hP hD hS hl; replace hz8 := hz8.symm; subst hz8; replace hj1 := hj1.symm; subst hj1; exact (((if_neg c3).trans ((if_neg c4).trans ((if_neg c5).trans ((if_neg c6).trans ((if_neg c7).trans ((if_neg c8).trans ((if_pos c9).trans (rfl))))))))).symm) trivial hP hD hS
    have hs := hs.2 c9
    by_cases c10 : ins_op = 36
    · have hs := hs.1 c10
      refine k_tab (tgt := 354) hx hb dX2_calculate_36 c10 (by decide) (by decide) rfl (by decide) ?_
      refine lv_aload_n hx hb dX2_calculate_354 rfl (lv_at hl 2 rfl) ?_
      refine lv_iload_n hx hb dX2_calculate_355 rfl (lv_at hl 3 rfl) ?_
      refine lv_iload_n hx hb dX2_calculate_356 rfl (lv_at hl 4 rfl) ?_
      refine k_vV (As := [.int p0, .int p1]) (rest := []) (wc := [(aEx, .inr (2, [.ref aMe, .ref aSt, .ref aIn, .ref aEf])), (aEf, .inr (0, [.int ef_exception, .int ef_hasAddress, .int ef_address, .int ef_value, .int ef_size, .int ef_place, .int ef_stored, .int ef_sr, .long ef_sum, .int ef_goes, .int ef_target]))]) (wr := [(aIn, .inr (3, [.int ins_traits, .int ins_op, .int ins_d, .int ins_a, .int ins_b, .int ins_u, .int ins_i, .int ins_j]))]) ⟨hx, hb, hml, hown, hts⟩ hK hP hD hS hA [0, 2] [1] rfl rfl rfl rfl (by decide) (mX2_multiplyUnsigned l G cI cB cP aEx aMe aSt aIn aEf ef_exception ef_hasAddress ef_address ef_value ef_size ef_place ef_stored ef_sr ef_sum ef_goes ef_target H.size p0 p1 ) (cwV 2 hts gX2_calculate_X2_multiplyUnsigned rfl rfl rfl (by decide +kernel) ⟨Nat.le_of_ble_eq_true rfl, Nat.le_of_ble_eq_true rfl⟩) 0 2 rfl rfl rfl rfl hl.1 rfl (Nat.le_of_ble_eq_true rfl) dX2_calculate_357 ⟨Nat.le_of_ble_eq_true rfl, Nat.le_of_ble_eq_true rfl⟩ (fun z9 H locs hz9 hEz9 hP hD hS => ?_)
      have hs := hs z9 hz9
      have hP : va_P G vwCl [(aIn, .inr (3, [.int ins_traits, .int ins_op, .int ins_d, .int ins_a, .int ins_b, .int ins_u, .int ins_i, .int ins_j])), (aEx, .inr (2, [.ref aMe, .ref aSt, .ref aIn, .ref aEf])), (aEf, .inr (0, [.int ef_exception, .int ef_hasAddress, .int ef_address, .int z9.1, .int ef_size, .int ef_place, .int ef_stored, .int z9.2, .long ef_sum, .int ef_goes, .int ef_target]))] H := hP
      have hD : va_D A [(aIn, .inr (3, [.int ins_traits, .int ins_op, .int ins_d, .int ins_a, .int ins_b, .int ins_u, .int ins_i, .int ins_j])), (aEx, .inr (2, [.ref aMe, .ref aSt, .ref aIn, .ref aEf])), (aEf, .inr (0, [.int ef_exception, .int ef_hasAddress, .int ef_address, .int z9.1, .int ef_size, .int ef_place, .int ef_stored, .int z9.2, .long ef_sum, .int ef_goes, .int ef_target]))] := hD
      refine lv_goto (tgt := 488) hx hb dX2_calculate_360 (by decide) ?_
      have hP := hP.sub (ws' := [(aEx, .inr (2, [.ref aMe, .ref aSt, .ref aIn, .ref aEf])), (aIn, .inr (3, [.int ins_traits, .int ins_op, .int ins_d, .int ins_a, .int ins_b, .int ins_u, .int ins_i, .int ins_j])), (aEf, .inr (0, [.int ef_exception, .int ef_hasAddress, .int ef_address, .int z9.1, .int ef_size, .int ef_place, .int ef_stored, .int z9.2, .long ef_sum, .int ef_goes, .int ef_target]))]) [1, 0, 2] rfl
      have hD := hD.sub (ws' := [(aEx, .inr (2, [.ref aMe, .ref aSt, .ref aIn, .ref aEf])), (aIn, .inr (3, [.int ins_traits, .int ins_op, .int ins_d, .int ins_a, .int ins_b, .int ins_u, .int ins_i, .int ins_j])), (aEf, .inr (0, [.int ef_exception, .int ef_hasAddress, .int ef_address, .int z9.1, .int ef_size, .int ef_place, .int ef_stored, .int z9.2, .long ef_sum, .int ef_goes, .int ef_target]))]) [1, 0, 2] (by decide) rfl
      exact hret H locs _ ls (ef_exception, z9.1, z9.2, ef_sum) dX2_calculate_488 (by clear hP hD hS hl; replace hz9 := hz9.symm; subst hz9; replace hj1 := hj1.symm; subst hj1; exact (((if_neg c3).trans ((if_neg c4).trans ((if_neg c5).trans ((if_neg c6).trans ((if_neg c7).trans ((if_neg c8).trans ((if_neg c9).trans ((if_pos c10).trans (rfl)))))))))).symm) trivial hP hD hS
    have hs := hs.2 c10
    by_cases c11 : ins_op = 37
    · have hs := hs.1 c11
      refine k_tab (tgt := 372) hx hb dX2_calculate_36 c11 (by decide) (by decide) rfl (by decide) ?_
      refine lv_aload_n hx hb dX2_calculate_372 rfl (lv_at hl 2 rfl) ?_
      refine lv_iload_n hx hb dX2_calculate_373 rfl (lv_at hl 3 rfl) ?_
      refine lv_iload_n hx hb dX2_calculate_374 rfl (lv_at hl 4 rfl) ?_
      obtain ⟨o2, hs⟩ := hs
      refine k_vV (As := [.int p0, .int p1]) (rest := []) (wc := [(aEx, .inr (2, [.ref aMe, .ref aSt, .ref aIn, .ref aEf])), (aEf, .inr (0, [.int ef_exception, .int ef_hasAddress, .int ef_address, .int ef_value, .int ef_size, .int ef_place, .int ef_stored, .int ef_sr, .long ef_sum, .int ef_goes, .int ef_target]))]) (wr := [(aIn, .inr (3, [.int ins_traits, .int ins_op, .int ins_d, .int ins_a, .int ins_b, .int ins_u, .int ins_i, .int ins_j]))]) ⟨hx, hb, hml, hown, hts⟩ hK hP hD hS hA [0, 2] [1] rfl rfl rfl rfl (by decide) (mX2_divideUnsigned l G cI cB cP aEx aMe aSt aIn aEf ef_exception ef_hasAddress ef_address ef_value ef_size ef_place ef_stored ef_sr ef_sum ef_goes ef_target H.size p0 p1 o2) (cwV 2 hts gX2_calculate_X2_divideUnsigned rfl rfl rfl (by decide +kernel) ⟨Nat.le_of_ble_eq_true rfl, Nat.le_of_ble_eq_true rfl⟩) 0 2 rfl rfl rfl rfl hl.1 rfl (Nat.le_of_ble_eq_true rfl) dX2_calculate_375 ⟨Nat.le_of_ble_eq_true rfl, Nat.le_of_ble_eq_true rfl⟩ (fun z10 H locs hz10 hEz10 hP hD hS => ?_)
      have hs := hs z10 hz10
      have hP : va_P G vwCl [(aIn, .inr (3, [.int ins_traits, .int ins_op, .int ins_d, .int ins_a, .int ins_b, .int ins_u, .int ins_i, .int ins_j])), (aEx, .inr (2, [.ref aMe, .ref aSt, .ref aIn, .ref aEf])), (aEf, .inr (0, [.int ef_exception, .int ef_hasAddress, .int ef_address, .int z10.1, .int ef_size, .int ef_place, .int ef_stored, .int z10.2, .long ef_sum, .int ef_goes, .int ef_target]))] H := hP
      have hD : va_D A [(aIn, .inr (3, [.int ins_traits, .int ins_op, .int ins_d, .int ins_a, .int ins_b, .int ins_u, .int ins_i, .int ins_j])), (aEx, .inr (2, [.ref aMe, .ref aSt, .ref aIn, .ref aEf])), (aEf, .inr (0, [.int ef_exception, .int ef_hasAddress, .int ef_address, .int z10.1, .int ef_size, .int ef_place, .int ef_stored, .int z10.2, .long ef_sum, .int ef_goes, .int ef_target]))] := hD
      refine lv_goto (tgt := 488) hx hb dX2_calculate_378 (by decide) ?_
      have hP := hP.sub (ws' := [(aEx, .inr (2, [.ref aMe, .ref aSt, .ref aIn, .ref aEf])), (aIn, .inr (3, [.int ins_traits, .int ins_op, .int ins_d, .int ins_a, .int ins_b, .int ins_u, .int ins_i, .int ins_j])), (aEf, .inr (0, [.int ef_exception, .int ef_hasAddress, .int ef_address, .int z10.1, .int ef_size, .int ef_place, .int ef_stored, .int z10.2, .long ef_sum, .int ef_goes, .int ef_target]))]) [1, 0, 2] rfl
      have hD := hD.sub (ws' := [(aEx, .inr (2, [.ref aMe, .ref aSt, .ref aIn, .ref aEf])), (aIn, .inr (3, [.int ins_traits, .int ins_op, .int ins_d, .int ins_a, .int ins_b, .int ins_u, .int ins_i, .int ins_j])), (aEf, .inr (0, [.int ef_exception, .int ef_hasAddress, .int ef_address, .int z10.1, .int ef_size, .int ef_place, .int ef_stored, .int z10.2, .long ef_sum, .int ef_goes, .int ef_target]))]) [1, 0, 2] (by decide) rfl
      exact hret H locs _ ls (ef_exception, z10.1, z10.2, ef_sum) dX2_calculate_488 (by clear hP hD hS hl; replace hz10 := hz10.symm; subst hz10; replace hj1 := hj1.symm; subst hj1; exact (((if_neg c3).trans ((if_neg c4).trans ((if_neg c5).trans ((if_neg c6).trans ((if_neg c7).trans ((if_neg c8).trans ((if_neg c9).trans ((if_neg c10).trans ((if_pos c11).trans (rfl))))))))))).symm) trivial hP hD hS
    have hs := hs.2 c11
    by_cases c12 : ins_op = 38
    · have hs := hs.1 c12
      refine k_tab (tgt := 381) hx hb dX2_calculate_36 c12 (by decide) (by decide) rfl (by decide) ?_
      refine lv_aload_n hx hb dX2_calculate_381 rfl (lv_at hl 2 rfl) ?_
      refine va_get (D := G) (ci := 2) (v := .ref aEf) (C := RX2) (T := TX2) (N := 4) hx hb hts iwX2_calculate_X2 hown hK hP 0 rfl rfl 3 (by decide) (hts _ lkX2_calculate_28) (fun _ h9 => h9) rfl dX2_calculate_382 ?_
      refine lv_dup hx hb dX2_calculate_385 rfl ?_
      refine va_get (D := G) (ci := 0) (v := .long ef_sum) (C := RX0) (T := TX0) (N := 11) hx hb hts iwX2_calculate_X0 hown hK hP 2 rfl rfl 8 (by decide) (hts _ lkX2_calculate_230) (fun _ h9 => h9) rfl dX2_calculate_386 ?_
      refine lv_iload_n hx hb dX2_calculate_389 rfl (lv_at hl 3 rfl) ?_
      refine lv_i2l (v := p0.toInt64) hx hb dX2_calculate_390 rfl ?_
      refine lv_iload_n hx hb dX2_calculate_391 rfl (lv_at hl 4 rfl) ?_
      refine lv_i2l (v := p1.toInt64) hx hb dX2_calculate_392 rfl ?_
      refine lv_lmul hx hb dX2_calculate_393 ?_
      refine lv_ladd hx hb dX2_calculate_394 ?_
      refine va_put (D := G) (ci := 0) (v := .long (ef_sum + (p0.toInt64 * p1.toInt64))) (ty := .long) (C := RX0) (T := TX0) (N := 11) hx hb hts iwX2_calculate_X0 tyX0 tyX0_ok nmX0 hown hK hP hD hS 2 rfl rfl 8 (by decide) (hts _ lkX2_calculate_230) (fun _ h9 => h9) rfl (by decide +kernel) rfl rfl (Nat.le_of_ble_eq_true rfl) dX2_calculate_395 (fun H locs hP hD hS => ?_)
      have hP : va_P G vwCl [(aEx, .inr (2, [.ref aMe, .ref aSt, .ref aIn, .ref aEf])), (aIn, .inr (3, [.int ins_traits, .int ins_op, .int ins_d, .int ins_a, .int ins_b, .int ins_u, .int ins_i, .int ins_j])), (aEf, .inr (0, [.int ef_exception, .int ef_hasAddress, .int ef_address, .int ef_value, .int ef_size, .int ef_place, .int ef_stored, .int ef_sr, .long (ef_sum + (p0.toInt64 * p1.toInt64)), .int ef_goes, .int ef_target]))] H := hP
      have hD : va_D A [(aEx, .inr (2, [.ref aMe, .ref aSt, .ref aIn, .ref aEf])), (aIn, .inr (3, [.int ins_traits, .int ins_op, .int ins_d, .int ins_a, .int ins_b, .int ins_u, .int ins_i, .int ins_j])), (aEf, .inr (0, [.int ef_exception, .int ef_hasAddress, .int ef_address, .int ef_value, .int ef_size, .int ef_place, .int ef_stored, .int ef_sr, .long (ef_sum + (p0.toInt64 * p1.toInt64)), .int ef_goes, .int ef_target]))] := hD
      refine lv_goto (tgt := 488) hx hb dX2_calculate_398 (by decide) ?_
      exact hret H locs _ ls (ef_exception, ef_value, ef_sr, ef_sum + (p0.toInt64 * p1.toInt64)) dX2_calculate_488 (by clear hP hD hS hl; replace hj1 := hj1.symm; subst hj1; exact (((if_neg c3).trans ((if_neg c4).trans ((if_neg c5).trans ((if_neg c6).trans ((if_neg c7).trans ((if_neg c8).trans ((if_neg c9).trans ((if_neg c10).trans ((if_neg c11).trans ((if_pos c12).trans (rfl)))))))))))).symm) trivial hP hD hS
    have hs := hs.2 c12
    by_cases c13 : ins_op = 39
    · have hs := hs.1 c13
      refine k_tab (tgt := 401) hx hb dX2_calculate_36 c13 (by decide) (by decide) rfl (by decide) ?_
      refine lv_aload_n hx hb dX2_calculate_401 rfl (lv_at hl 2 rfl) ?_
      refine va_get (D := G) (ci := 2) (v := .ref aEf) (C := RX2) (T := TX2) (N := 4) hx hb hts iwX2_calculate_X2 hown hK hP 0 rfl rfl 3 (by decide) (hts _ lkX2_calculate_28) (fun _ h9 => h9) rfl dX2_calculate_402 ?_
      refine lv_dup hx hb dX2_calculate_405 rfl ?_
      refine va_get (D := G) (ci := 0) (v := .long ef_sum) (C := RX0) (T := TX0) (N := 11) hx hb hts iwX2_calculate_X0 hown hK hP 2 rfl rfl 8 (by decide) (hts _ lkX2_calculate_230) (fun _ h9 => h9) rfl dX2_calculate_406 ?_
      refine lv_iload_n hx hb dX2_calculate_409 rfl (lv_at hl 3 rfl) ?_
      refine lv_i2l (v := p0.toInt64) hx hb dX2_calculate_410 rfl ?_
      refine lv_iload hx hb dX2_calculate_411 (lv_at hl 0 rfl) ?_
      refine lv_i2l (v := ins_i.toInt64) hx hb dX2_calculate_413 rfl ?_
      refine lv_lmul hx hb dX2_calculate_414 ?_
      refine lv_ladd hx hb dX2_calculate_415 ?_
      refine va_put (D := G) (ci := 0) (v := .long (ef_sum + (p0.toInt64 * ins_i.toInt64))) (ty := .long) (C := RX0) (T := TX0) (N := 11) hx hb hts iwX2_calculate_X0 tyX0 tyX0_ok nmX0 hown hK hP hD hS 2 rfl rfl 8 (by decide) (hts _ lkX2_calculate_230) (fun _ h9 => h9) rfl (by decide +kernel) rfl rfl (Nat.le_of_ble_eq_true rfl) dX2_calculate_416 (fun H locs hP hD hS => ?_)
      have hP : va_P G vwCl [(aEx, .inr (2, [.ref aMe, .ref aSt, .ref aIn, .ref aEf])), (aIn, .inr (3, [.int ins_traits, .int ins_op, .int ins_d, .int ins_a, .int ins_b, .int ins_u, .int ins_i, .int ins_j])), (aEf, .inr (0, [.int ef_exception, .int ef_hasAddress, .int ef_address, .int ef_value, .int ef_size, .int ef_place, .int ef_stored, .int ef_sr, .long (ef_sum + (p0.toInt64 * ins_i.toInt64)), .int ef_goes, .int ef_target]))] H := hP
      have hD : va_D A [(aEx, .inr (2, [.ref aMe, .ref aSt, .ref aIn, .ref aEf])), (aIn, .inr (3, [.int ins_traits, .int ins_op, .int ins_d, .int ins_a, .int ins_b, .int ins_u, .int ins_i, .int ins_j])), (aEf, .inr (0, [.int ef_exception, .int ef_hasAddress, .int ef_address, .int ef_value, .int ef_size, .int ef_place, .int ef_stored, .int ef_sr, .long (ef_sum + (p0.toInt64 * ins_i.toInt64)), .int ef_goes, .int ef_target]))] := hD
      refine lv_goto (tgt := 488) hx hb dX2_calculate_419 (by decide) ?_
      exact hret H locs _ ls (ef_exception, ef_value, ef_sr, ef_sum + (p0.toInt64 * ins_i.toInt64)) dX2_calculate_488 (by clear hP hD hS hl; replace hj1 := hj1.symm; subst hj1; exact (((if_neg c3).trans ((if_neg c4).trans ((if_neg c5).trans ((if_neg c6).trans ((if_neg c7).trans ((if_neg c8).trans ((if_neg c9).trans ((if_neg c10).trans ((if_neg c11).trans ((if_neg c12).trans ((if_pos c13).trans (rfl))))))))))))).symm) trivial hP hD hS
    have hs := hs.2 c13
    by_cases c14 : ins_op = 40
    · have hs := hs.1 c14
      refine k_tab (tgt := 422) hx hb dX2_calculate_36 c14 (by decide) (by decide) rfl (by decide) ?_
      refine lv_aload_n hx hb dX2_calculate_422 rfl (lv_at hl 2 rfl) ?_
      refine va_get (D := G) (ci := 2) (v := .ref aEf) (C := RX2) (T := TX2) (N := 4) hx hb hts iwX2_calculate_X2 hown hK hP 0 rfl rfl 3 (by decide) (hts _ lkX2_calculate_28) (fun _ h9 => h9) rfl dX2_calculate_423 ?_
      refine lv_dup hx hb dX2_calculate_426 rfl ?_
      refine va_get (D := G) (ci := 0) (v := .long ef_sum) (C := RX0) (T := TX0) (N := 11) hx hb hts iwX2_calculate_X0 hown hK hP 2 rfl rfl 8 (by decide) (hts _ lkX2_calculate_230) (fun _ h9 => h9) rfl dX2_calculate_427 ?_
      refine lv_iload_n hx hb dX2_calculate_430 rfl (lv_at hl 3 rfl) ?_
      refine lv_i2l (v := p0.toInt64) hx hb dX2_calculate_431 rfl ?_
      refine lv_iload_n hx hb dX2_calculate_432 rfl (lv_at hl 4 rfl) ?_
      refine lv_i2l (v := p1.toInt64) hx hb dX2_calculate_433 rfl ?_
      refine lv_lmul hx hb dX2_calculate_434 ?_
      refine lv_lsub hx hb dX2_calculate_435 ?_
      refine va_put (D := G) (ci := 0) (v := .long (ef_sum - (p0.toInt64 * p1.toInt64))) (ty := .long) (C := RX0) (T := TX0) (N := 11) hx hb hts iwX2_calculate_X0 tyX0 tyX0_ok nmX0 hown hK hP hD hS 2 rfl rfl 8 (by decide) (hts _ lkX2_calculate_230) (fun _ h9 => h9) rfl (by decide +kernel) rfl rfl (Nat.le_of_ble_eq_true rfl) dX2_calculate_436 (fun H locs hP hD hS => ?_)
      have hP : va_P G vwCl [(aEx, .inr (2, [.ref aMe, .ref aSt, .ref aIn, .ref aEf])), (aIn, .inr (3, [.int ins_traits, .int ins_op, .int ins_d, .int ins_a, .int ins_b, .int ins_u, .int ins_i, .int ins_j])), (aEf, .inr (0, [.int ef_exception, .int ef_hasAddress, .int ef_address, .int ef_value, .int ef_size, .int ef_place, .int ef_stored, .int ef_sr, .long (ef_sum - (p0.toInt64 * p1.toInt64)), .int ef_goes, .int ef_target]))] H := hP
      have hD : va_D A [(aEx, .inr (2, [.ref aMe, .ref aSt, .ref aIn, .ref aEf])), (aIn, .inr (3, [.int ins_traits, .int ins_op, .int ins_d, .int ins_a, .int ins_b, .int ins_u, .int ins_i, .int ins_j])), (aEf, .inr (0, [.int ef_exception, .int ef_hasAddress, .int ef_address, .int ef_value, .int ef_size, .int ef_place, .int ef_stored, .int ef_sr, .long (ef_sum - (p0.toInt64 * p1.toInt64)), .int ef_goes, .int ef_target]))] := hD
      refine lv_goto (tgt := 488) hx hb dX2_calculate_439 (by decide) ?_
      exact hret H locs _ ls (ef_exception, ef_value, ef_sr, ef_sum - (p0.toInt64 * p1.toInt64)) dX2_calculate_488 (by clear hP hD hS hl; replace hj1 := hj1.symm; subst hj1; exact (((if_neg c3).trans ((if_neg c4).trans ((if_neg c5).trans ((if_neg c6).trans ((if_neg c7).trans ((if_neg c8).trans ((if_neg c9).trans ((if_neg c10).trans ((if_neg c11).trans ((if_neg c12).trans ((if_neg c13).trans ((if_pos c14).trans (rfl)))))))))))))).symm) trivial hP hD hS
    have hs := hs.2 c14
    by_cases c15 : ins_op = 41
    · have hs := hs.1 c15
      refine k_tab (tgt := 442) hx hb dX2_calculate_36 c15 (by decide) (by decide) rfl (by decide) ?_
      refine lv_aload_n hx hb dX2_calculate_442 rfl (lv_at hl 2 rfl) ?_
      refine va_get (D := G) (ci := 2) (v := .ref aEf) (C := RX2) (T := TX2) (N := 4) hx hb hts iwX2_calculate_X2 hown hK hP 0 rfl rfl 3 (by decide) (hts _ lkX2_calculate_28) (fun _ h9 => h9) rfl dX2_calculate_443 ?_
      refine lv_aload_n hx hb dX2_calculate_446 rfl (lv_at hl 2 rfl) ?_
      refine va_get (D := G) (ci := 2) (v := .ref aEf) (C := RX2) (T := TX2) (N := 4) hx hb hts iwX2_calculate_X2 hown hK hP 0 rfl rfl 3 (by decide) (hts _ lkX2_calculate_28) (fun _ h9 => h9) rfl dX2_calculate_447 ?_
      refine va_get (D := G) (ci := 0) (v := .long ef_sum) (C := RX0) (T := TX0) (N := 11) hx hb hts iwX2_calculate_X0 hown hK hP 2 rfl rfl 8 (by decide) (hts _ lkX2_calculate_230) (fun _ h9 => h9) rfl dX2_calculate_450 ?_
      refine lv_l2i (v := ef_sum.toInt32) hx hb dX2_calculate_453 rfl ?_
      refine va_put (D := G) (ci := 0) (v := .int ef_sum.toInt32) (ty := .int) (C := RX0) (T := TX0) (N := 11) hx hb hts iwX2_calculate_X0 tyX0 tyX0_ok nmX0 hown hK hP hD hS 2 rfl rfl 3 (by decide) (hts _ lkX2_calculate_150) (fun _ h9 => h9) rfl (by decide +kernel) rfl rfl (Nat.le_of_ble_eq_true rfl) dX2_calculate_454 (fun H locs hP hD hS => ?_)
      have hP : va_P G vwCl [(aEx, .inr (2, [.ref aMe, .ref aSt, .ref aIn, .ref aEf])), (aIn, .inr (3, [.int ins_traits, .int ins_op, .int ins_d, .int ins_a, .int ins_b, .int ins_u, .int ins_i, .int ins_j])), (aEf, .inr (0, [.int ef_exception, .int ef_hasAddress, .int ef_address, .int ef_sum.toInt32, .int ef_size, .int ef_place, .int ef_stored, .int ef_sr, .long ef_sum, .int ef_goes, .int ef_target]))] H := hP
      have hD : va_D A [(aEx, .inr (2, [.ref aMe, .ref aSt, .ref aIn, .ref aEf])), (aIn, .inr (3, [.int ins_traits, .int ins_op, .int ins_d, .int ins_a, .int ins_b, .int ins_u, .int ins_i, .int ins_j])), (aEf, .inr (0, [.int ef_exception, .int ef_hasAddress, .int ef_address, .int ef_sum.toInt32, .int ef_size, .int ef_place, .int ef_stored, .int ef_sr, .long ef_sum, .int ef_goes, .int ef_target]))] := hD
      refine lv_aload_n hx hb dX2_calculate_457 rfl (lv_at hl 2 rfl) ?_
      refine va_get (D := G) (ci := 2) (v := .ref aEf) (C := RX2) (T := TX2) (N := 4) hx hb hts iwX2_calculate_X2 hown hK hP 0 rfl rfl 3 (by decide) (hts _ lkX2_calculate_28) (fun _ h9 => h9) rfl dX2_calculate_458 ?_
      refine lv_lconst (v := 0) hx hb dX2_calculate_461 (by decide) ?_
      refine va_put (D := G) (ci := 0) (v := .long 0) (ty := .long) (C := RX0) (T := TX0) (N := 11) hx hb hts iwX2_calculate_X0 tyX0 tyX0_ok nmX0 hown hK hP hD hS 2 rfl rfl 8 (by decide) (hts _ lkX2_calculate_230) (fun _ h9 => h9) rfl (by decide +kernel) rfl rfl (Nat.le_of_ble_eq_true rfl) dX2_calculate_462 (fun H locs hP hD hS => ?_)
      have hP : va_P G vwCl [(aEx, .inr (2, [.ref aMe, .ref aSt, .ref aIn, .ref aEf])), (aIn, .inr (3, [.int ins_traits, .int ins_op, .int ins_d, .int ins_a, .int ins_b, .int ins_u, .int ins_i, .int ins_j])), (aEf, .inr (0, [.int ef_exception, .int ef_hasAddress, .int ef_address, .int ef_sum.toInt32, .int ef_size, .int ef_place, .int ef_stored, .int ef_sr, .long 0, .int ef_goes, .int ef_target]))] H := hP
      have hD : va_D A [(aEx, .inr (2, [.ref aMe, .ref aSt, .ref aIn, .ref aEf])), (aIn, .inr (3, [.int ins_traits, .int ins_op, .int ins_d, .int ins_a, .int ins_b, .int ins_u, .int ins_i, .int ins_j])), (aEf, .inr (0, [.int ef_exception, .int ef_hasAddress, .int ef_address, .int ef_sum.toInt32, .int ef_size, .int ef_place, .int ef_stored, .int ef_sr, .long 0, .int ef_goes, .int ef_target]))] := hD
      refine lv_goto (tgt := 488) hx hb dX2_calculate_465 (by decide) ?_
      exact hret H locs _ ls (ef_exception, ef_sum.toInt32, ef_sr, 0) dX2_calculate_488 (by clear hP hD hS hl; replace hj1 := hj1.symm; subst hj1; exact (((if_neg c3).trans ((if_neg c4).trans ((if_neg c5).trans ((if_neg c6).trans ((if_neg c7).trans ((if_neg c8).trans ((if_neg c9).trans ((if_neg c10).trans ((if_neg c11).trans ((if_neg c12).trans ((if_neg c13).trans ((if_neg c14).trans ((if_pos c15).trans (rfl))))))))))))))).symm) trivial hP hD hS
    have hs := hs.2 c15
    by_cases c16 : ins_op = 57
    · have hs := hs.1 c16
      refine k_tab (tgt := 344) hx hb dX2_calculate_36 c16 (by decide) (by decide) rfl (by decide) ?_
      refine lv_aload_n hx hb dX2_calculate_344 rfl (lv_at hl 2 rfl) ?_
      refine lv_iload_n hx hb dX2_calculate_345 rfl (lv_at hl 3 rfl) ?_
      refine lv_iload hx hb dX2_calculate_346 (lv_at hl 0 rfl) ?_
      refine k_vV (As := [.int p0, .int ins_i]) (rest := []) (wc := [(aEx, .inr (2, [.ref aMe, .ref aSt, .ref aIn, .ref aEf])), (aEf, .inr (0, [.int ef_exception, .int ef_hasAddress, .int ef_address, .int ef_value, .int ef_size, .int ef_place, .int ef_stored, .int ef_sr, .long ef_sum, .int ef_goes, .int ef_target]))]) (wr := [(aIn, .inr (3, [.int ins_traits, .int ins_op, .int ins_d, .int ins_a, .int ins_b, .int ins_u, .int ins_i, .int ins_j]))]) ⟨hx, hb, hml, hown, hts⟩ hK hP hD hS hA [0, 2] [1] rfl rfl rfl rfl (by decide) (mX2_multiply l G cI cB cP aEx aMe aSt aIn aEf ef_exception ef_hasAddress ef_address ef_value ef_size ef_place ef_stored ef_sr ef_sum ef_goes ef_target H.size p0 ins_i ) (cwV 2 hts gX2_calculate_X2_multiply rfl rfl rfl (by decide +kernel) ⟨Nat.le_of_ble_eq_true rfl, Nat.le_of_ble_eq_true rfl⟩) 0 2 rfl rfl rfl rfl hl.1 rfl (Nat.le_of_ble_eq_true rfl) dX2_calculate_348 ⟨Nat.le_of_ble_eq_true rfl, Nat.le_of_ble_eq_true rfl⟩ (fun z11 H locs hz11 hEz11 hP hD hS => ?_)
      have hs := hs z11 hz11
      have hP : va_P G vwCl [(aIn, .inr (3, [.int ins_traits, .int ins_op, .int ins_d, .int ins_a, .int ins_b, .int ins_u, .int ins_i, .int ins_j])), (aEx, .inr (2, [.ref aMe, .ref aSt, .ref aIn, .ref aEf])), (aEf, .inr (0, [.int z11.1, .int ef_hasAddress, .int ef_address, .int z11.2.1, .int ef_size, .int ef_place, .int ef_stored, .int z11.2.2, .long ef_sum, .int ef_goes, .int ef_target]))] H := hP
      have hD : va_D A [(aIn, .inr (3, [.int ins_traits, .int ins_op, .int ins_d, .int ins_a, .int ins_b, .int ins_u, .int ins_i, .int ins_j])), (aEx, .inr (2, [.ref aMe, .ref aSt, .ref aIn, .ref aEf])), (aEf, .inr (0, [.int z11.1, .int ef_hasAddress, .int ef_address, .int z11.2.1, .int ef_size, .int ef_place, .int ef_stored, .int z11.2.2, .long ef_sum, .int ef_goes, .int ef_target]))] := hD
      refine lv_goto (tgt := 488) hx hb dX2_calculate_351 (by decide) ?_
      have hP := hP.sub (ws' := [(aEx, .inr (2, [.ref aMe, .ref aSt, .ref aIn, .ref aEf])), (aIn, .inr (3, [.int ins_traits, .int ins_op, .int ins_d, .int ins_a, .int ins_b, .int ins_u, .int ins_i, .int ins_j])), (aEf, .inr (0, [.int z11.1, .int ef_hasAddress, .int ef_address, .int z11.2.1, .int ef_size, .int ef_place, .int ef_stored, .int z11.2.2, .long ef_sum, .int ef_goes, .int ef_target]))]) [1, 0, 2] rfl
      have hD := hD.sub (ws' := [(aEx, .inr (2, [.ref aMe, .ref aSt, .ref aIn, .ref aEf])), (aIn, .inr (3, [.int ins_traits, .int ins_op, .int ins_d, .int ins_a, .int ins_b, .int ins_u, .int ins_i, .int ins_j])), (aEf, .inr (0, [.int z11.1, .int ef_hasAddress, .int ef_address, .int z11.2.1, .int ef_size, .int ef_place, .int ef_stored, .int z11.2.2, .long ef_sum, .int ef_goes, .int ef_target]))]) [1, 0, 2] (by decide) rfl
      exact hret H locs _ ls (z11.1, z11.2.1, z11.2.2, ef_sum) dX2_calculate_488 (by clear hP hD hS hl; replace hz11 := hz11.symm; subst hz11; replace hj1 := hj1.symm; subst hj1; exact (((if_neg c3).trans ((if_neg c4).trans ((if_neg c5).trans ((if_neg c6).trans ((if_neg c7).trans ((if_neg c8).trans ((if_neg c9).trans ((if_neg c10).trans ((if_neg c11).trans ((if_neg c12).trans ((if_neg c13).trans ((if_neg c14).trans ((if_neg c15).trans ((if_pos c16).trans (rfl)))))))))))))))).symm) trivial hP hD hS
    have hs := hs.2 c16
    refine k_tabD (tgt := 468) hx hb dX2_calculate_36 [0, 1, 8, 9, 10, 34, 35, 36, 37, 38, 39, 40, 41, 57] (List.forall_mem_cons.mpr ⟨c3, List.forall_mem_cons.mpr ⟨c4, List.forall_mem_cons.mpr ⟨c5, List.forall_mem_cons.mpr ⟨c6, List.forall_mem_cons.mpr ⟨c7, List.forall_mem_cons.mpr ⟨c8, List.forall_mem_cons.mpr ⟨c9, List.forall_mem_cons.mpr ⟨c10, List.forall_mem_cons.mpr ⟨c11, List.forall_mem_cons.mpr ⟨c12, List.forall_mem_cons.mpr ⟨c13, List.forall_mem_cons.mpr ⟨c14, List.forall_mem_cons.mpr ⟨c15, List.forall_mem_cons.mpr ⟨c16, fun _ h => absurd h List.not_mem_nil⟩⟩⟩⟩⟩⟩⟩⟩⟩⟩⟩⟩⟩⟩) (by decide) (by decide) (by decide) ?_
    refine lv_aload_n hx hb dX2_calculate_468 rfl (lv_at hl 2 rfl) ?_
    refine va_get (D := G) (ci := 2) (v := .ref aEf) (C := RX2) (T := TX2) (N := 4) hx hb hts iwX2_calculate_X2 hown hK hP 0 rfl rfl 3 (by decide) (hts _ lkX2_calculate_28) (fun _ h9 => h9) rfl dX2_calculate_469 ?_
    refine lv_aload_n hx hb dX2_calculate_472 rfl (lv_at hl 2 rfl) ?_
    refine lv_iload_n hx hb dX2_calculate_473 rfl (lv_at hl 3 rfl) ?_
    refine lv_iload_n hx hb dX2_calculate_474 rfl (lv_at hl 4 rfl) ?_
    refine lv_aload_n hx hb dX2_calculate_475 rfl (lv_at hl 2 rfl) ?_
    refine va_get (D := G) (ci := 2) (v := .ref aIn) (C := RX2) (T := TX2) (N := 4) hx hb hts iwX2_calculate_X2 hown hK hP 0 rfl rfl 2 (by decide) (hts _ lkX2_calculate_21) (fun _ h9 => h9) rfl dX2_calculate_476 ?_
    refine va_get (D := G) (ci := 3) (v := .int ins_u) (C := RX3) (T := TX3) (N := 8) hx hb hts iwX2_calculate_X3 hown hK hP 1 rfl rfl 5 (by decide) (hts _ lkX2_calculate_190) (fun _ h9 => h9) rfl dX2_calculate_479 ?_
    refine k_iV (As := [.int p0, .int p1, .int ins_u]) (rest := [.ref aEf]) (wc := [(aEx, .inr (2, [.ref aMe, .ref aSt, .ref aIn, .ref aEf])), (aIn, .inr (3, [.int ins_traits, .int ins_op, .int ins_d, .int ins_a, .int ins_b, .int ins_u, .int ins_i, .int ins_j])), (aEf, .inr (0, [.int ef_exception, .int ef_hasAddress, .int ef_address, .int ef_value, .int ef_size, .int ef_place, .int ef_stored, .int ef_sr, .long ef_sum, .int ef_goes, .int ef_target]))]) (wr := []) ⟨hx, hb, hml, hown, hts⟩ hK hP hD hS hA [0, 1, 2] [] rfl rfl rfl rfl (by decide) (mX2_plainResult l G cI cB cP aEx aMe aSt aIn aEf ins_traits ins_op ins_d ins_a ins_b ins_u ins_i ins_j ef_exception ef_hasAddress ef_address ef_value ef_size ef_place ef_stored ef_sr ef_sum ef_goes ef_target H.size p0 p1 ins_u ) (cwV 3 hts gX2_calculate_X2_plainResult rfl rfl rfl (by decide +kernel) ⟨Nat.le_of_ble_eq_true rfl, Nat.le_of_ble_eq_true rfl⟩) 0 2 rfl rfl rfl rfl hl.1 rfl (Nat.le_of_ble_eq_true rfl) dX2_calculate_482 ⟨Nat.le_of_ble_eq_true rfl, Nat.le_of_ble_eq_true rfl⟩ (fun z12 H locs hz12 hEz12 hP hD hS => ?_)
    have hs := hs z12 hz12
    have hP : va_P G vwCl [(aEx, .inr (2, [.ref aMe, .ref aSt, .ref aIn, .ref aEf])), (aIn, .inr (3, [.int ins_traits, .int ins_op, .int ins_d, .int ins_a, .int ins_b, .int ins_u, .int ins_i, .int ins_j])), (aEf, .inr (0, [.int ef_exception, .int ef_hasAddress, .int ef_address, .int ef_value, .int ef_size, .int ef_place, .int ef_stored, .int ef_sr, .long ef_sum, .int ef_goes, .int ef_target]))] H := hP
    have hD : va_D A [(aEx, .inr (2, [.ref aMe, .ref aSt, .ref aIn, .ref aEf])), (aIn, .inr (3, [.int ins_traits, .int ins_op, .int ins_d, .int ins_a, .int ins_b, .int ins_u, .int ins_i, .int ins_j])), (aEf, .inr (0, [.int ef_exception, .int ef_hasAddress, .int ef_address, .int ef_value, .int ef_size, .int ef_place, .int ef_stored, .int ef_sr, .long ef_sum, .int ef_goes, .int ef_target]))] := hD
    refine va_put (D := G) (ci := 0) (v := .int z12.1) (ty := .int) (C := RX0) (T := TX0) (N := 11) hx hb hts iwX2_calculate_X0 tyX0 tyX0_ok nmX0 hown hK hP hD hS 2 rfl rfl 3 (by decide) (hts _ lkX2_calculate_150) (fun _ h9 => h9) rfl (by decide +kernel) rfl rfl (Nat.le_of_ble_eq_true rfl) dX2_calculate_485 (fun H locs hP hD hS => ?_)
    have hP : va_P G vwCl [(aEx, .inr (2, [.ref aMe, .ref aSt, .ref aIn, .ref aEf])), (aIn, .inr (3, [.int ins_traits, .int ins_op, .int ins_d, .int ins_a, .int ins_b, .int ins_u, .int ins_i, .int ins_j])), (aEf, .inr (0, [.int ef_exception, .int ef_hasAddress, .int ef_address, .int z12.1, .int ef_size, .int ef_place, .int ef_stored, .int ef_sr, .long ef_sum, .int ef_goes, .int ef_target]))] H := hP
    have hD : va_D A [(aEx, .inr (2, [.ref aMe, .ref aSt, .ref aIn, .ref aEf])), (aIn, .inr (3, [.int ins_traits, .int ins_op, .int ins_d, .int ins_a, .int ins_b, .int ins_u, .int ins_i, .int ins_j])), (aEf, .inr (0, [.int ef_exception, .int ef_hasAddress, .int ef_address, .int z12.1, .int ef_size, .int ef_place, .int ef_stored, .int ef_sr, .long ef_sum, .int ef_goes, .int ef_target]))] := hD
    exact hret H locs _ ls (ef_exception, z12.1, ef_sr, ef_sum) dX2_calculate_488 (by clear hP hD hS hl; replace hz12 := hz12.symm; subst hz12; replace hj1 := hj1.symm; subst hj1; exact (((if_neg c3).trans ((if_neg c4).trans ((if_neg c5).trans ((if_neg c6).trans ((if_neg c7).trans ((if_neg c8).trans ((if_neg c9).trans ((if_neg c10).trans ((if_neg c11).trans ((if_neg c12).trans ((if_neg c13).trans ((if_neg c14).trans ((if_neg c15).trans ((if_neg c16).trans (rfl)))))))))))))))).symm) trivial hP hD hS
  have hs := hs.1
  refine lv_if_eq (tgt := 18) hx hb dX2_calculate_11 (by decide) (fun c17 => ?_) (fun c17 => ?_)
  · have hs := hs.1 c17
    refine lv_iconst (v := 0) hx hb dX2_calculate_18 (by decide) ?_
    exact Kj1 0 H locs ls ((if_pos c17).trans (rfl)).symm (Or.inl rfl) hP hD hS (lv_sub hl [0, 1, 2] rfl)
  · have hs := hs.2 c17
    refine lv_iconst (v := 1) hx hb dX2_calculate_14 (by decide) ?_
    refine lv_goto (tgt := 19) hx hb dX2_calculate_15 (by decide) ?_
    exact Kj1 1 H locs ls ((if_neg c17).trans (rfl)).symm (Or.inr rfl) hP hD hS (lv_sub hl [0, 1, 2] rfl)
def fX2_retires (ef_exception : Int32) : Int32 :=
  if ef_exception = 0 then (1) else (0)
theorem lkX2_retires_28 : Cond.fieldLink RX2 28 "TwinIssue$Executor" "effect" "LTwinIssue$Effect;" ∈ wsX2_retires := by decide +kernel
theorem lkX2_retires_86 : Cond.fieldLink RX2 86 "TwinIssue$Effect" "exception" "I" ∈ wsX2_retires := by decide +kernel
theorem iwX2_retires_X0 : ∀ w ∈ wsX00, w ∈ wsX2_retires := fun _ h => List.mem_cons_of_mem _ (List.mem_append_right _ h)
theorem iwX2_retires_X2 : ∀ w ∈ wsX20, w ∈ wsX2_retires := fun _ h => List.mem_cons_of_mem _ (List.mem_append_left _ (List.mem_append_right _ h))
set_option maxHeartbeats 4000000 in
set_option maxRecDepth 100000 in
theorem mX2_retires (l : Launch) (G : va_G) (cI cB cP : ClassId) (aEx aMe aSt aIn aEf : Nat) (ef_exception : Int32) (ef_hasAddress : Int32) (ef_address : Int32) (ef_value : Int32) (ef_size : Int32) (ef_place : Int32) (ef_stored : Int32) (ef_sr : Int32) (ef_sum : Int64) (ef_goes : Int32) (ef_target : Int32) (sz : Nat) : kMi (S := Unit) l yX2_retires wsX2_retires ({ frames := 0, cells := 0, slots := 0, locals := 0 }) [.ref aEx] G (kTY cI cB cP) sz [(aEx, .inr (2, [.ref aMe, .ref aSt, .ref aIn, .ref aEf])), (aEf, .inr (0, [.int ef_exception, .int ef_hasAddress, .int ef_address, .int ef_value, .int ef_size, .int ef_place, .int ef_stored, .int ef_sr, .long ef_sum, .int ef_goes, .int ef_target]))] (fX2_retires ef_exception, ()) (fun r _ => isB r) (fun _ => [(aEx, .inr (2, [.ref aMe, .ref aSt, .ref aIn, .ref aEf])), (aEf, .inr (0, [.int ef_exception, .int ef_hasAddress, .int ef_address, .int ef_value, .int ef_size, .int ef_place, .int ef_stored, .int ef_sr, .long ef_sum, .int ef_goes, .int ef_target]))]) := by
  refine k_ofz (cc := cX2_retires) (maxL := 1) (by decide) rfl (Nat.le_of_ble_eq_true rfl) ?_
  intro p e s m args below meth c A ls Q H locs hx hb hml hown hts hin hK hP hD hA hS hl hret
  have hown : s.vm.findClass RX2 = some m.cls := hown
  have hl : lv_has ls 1 [(0, .ref aEx)] := hl
  refine lv_aload_n hx hb dX2_retires_0 rfl (lv_at hl 0 rfl) ?_
  refine va_get (D := G) (ci := 2) (v := .ref aEf) (C := RX2) (T := TX2) (N := 4) hx hb hts iwX2_retires_X2 hown hK hP 0 rfl rfl 3 (by decide) (hts _ lkX2_retires_28) (fun _ h9 => h9) rfl dX2_retires_1 ?_
  refine va_get (D := G) (ci := 0) (v := .int ef_exception) (C := RX0) (T := TX0) (N := 11) hx hb hts iwX2_retires_X0 hown hK hP 1 rfl rfl 0 (by decide) (hts _ lkX2_retires_86) (fun _ h9 => h9) rfl dX2_retires_4 ?_
  refine lv_if_ne (tgt := 14) hx hb dX2_retires_7 (by decide) (fun c1 => ?_) (fun c1 => ?_)
  · skip
    refine lv_iconst (v := 0) hx hb dX2_retires_14 (by decide) ?_
    exact hret H locs _ ls 0 () dX2_retires_15 (by exact congrArg (fun x => (x, ())) (((if_neg c1).trans (rfl))).symm) (Or.inl rfl) (Or.inl rfl) hP hD hS
  · skip
    refine lv_iconst (v := 1) hx hb dX2_retires_10 (by decide) ?_
    refine lv_goto (tgt := 15) hx hb dX2_retires_11 (by decide) ?_
    exact hret H locs _ ls 1 () dX2_retires_15 (by exact congrArg (fun x => (x, ())) (((if_pos c1).trans (rfl))).symm) (Or.inr rfl) (Or.inr rfl) hP hD hS

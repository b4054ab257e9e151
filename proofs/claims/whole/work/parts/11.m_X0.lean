def fX0_begin (p0 : Int32) (p1 : Int64) : Int32 × Int32 × Int32 × Int32 × Int32 × Int64 × Int32 :=
  (0, 0, 0, 0, p0, p1, 0)
theorem lkX0_begin_9 : Cond.fieldLink RX0 9 "TwinIssue$Effect" "exception" "I" ∈ wsX0_begin := by decide +kernel
theorem lkX0_begin_15 : Cond.fieldLink RX0 15 "TwinIssue$Effect" "hasAddress" "Z" ∈ wsX0_begin := by decide +kernel
theorem lkX0_begin_19 : Cond.fieldLink RX0 19 "TwinIssue$Effect" "value" "I" ∈ wsX0_begin := by decide +kernel
theorem lkX0_begin_22 : Cond.fieldLink RX0 22 "TwinIssue$Effect" "size" "I" ∈ wsX0_begin := by decide +kernel
theorem lkX0_begin_25 : Cond.fieldLink RX0 25 "TwinIssue$Effect" "sr" "I" ∈ wsX0_begin := by decide +kernel
theorem lkX0_begin_28 : Cond.fieldLink RX0 28 "TwinIssue$Effect" "sum" "J" ∈ wsX0_begin := by decide +kernel
theorem lkX0_begin_32 : Cond.fieldLink RX0 32 "TwinIssue$Effect" "goes" "Z" ∈ wsX0_begin := by decide +kernel
theorem iwX0_begin_X0 : ∀ w ∈ wsX00, w ∈ wsX0_begin := fun _ h => List.mem_cons_of_mem _ (List.mem_append_right _ h)
set_option maxHeartbeats 4000000 in
set_option maxRecDepth 100000 in
theorem mX0_begin (l : Launch) (G : va_G) (cI cB cP : ClassId) (aEf : Nat) (ef_exception : Int32) (ef_hasAddress : Int32) (ef_address : Int32) (ef_value : Int32) (ef_size : Int32) (ef_place : Int32) (ef_stored : Int32) (ef_sr : Int32) (ef_sum : Int64) (ef_goes : Int32) (ef_target : Int32) (sz : Nat) (p0 : Int32) (p1 : Int64) : kMv (S := Int32 × Int32 × Int32 × Int32 × Int32 × Int64 × Int32) l yX0_begin wsX0_begin ({ frames := 0, cells := 0, slots := 0, locals := 0 }) [.ref aEf, .int p0, .long p1] G (kTY cI cB cP) sz [(aEf, .inr (0, [.int ef_exception, .int ef_hasAddress, .int ef_address, .int ef_value, .int ef_size, .int ef_place, .int ef_stored, .int ef_sr, .long ef_sum, .int ef_goes, .int ef_target]))] (fX0_begin p0 p1) (fun _ => True) (fun u => [(aEf, .inr (0, [.int u.1, .int u.2.1, .int ef_address, .int u.2.2.1, .int u.2.2.2.1, .int ef_place, .int ef_stored, .int u.2.2.2.2.1, .long u.2.2.2.2.2.1, .int u.2.2.2.2.2.2, .int ef_target]))]) := by
  refine k_ofv (cc := cX0_begin) (maxL := 4) (by decide) rfl (Nat.le_of_ble_eq_true rfl) ?_
  intro p e s m args below meth c A ls Q H locs hx hb hml hown hts hin hK hP hD hA hS hl hret
  have hown : s.vm.findClass RX0 = some m.cls := hown
  have hl : lv_has ls 4 [(0, .ref aEf), (1, .int p0), (2, .long p1)] := hl
  refine lv_aload_n hx hb dX0_begin_0 rfl (lv_at hl 0 rfl) ?_
  refine lv_iconst (v := 0) hx hb dX0_begin_1 (by decide) ?_
  refine va_put (D := G) (ci := 0) (v := .int 0) (ty := .int) (C := RX0) (T := TX0) (N := 11) hx hb hts iwX0_begin_X0 tyX0 tyX0_ok nmX0 hown hK hP hD hS 0 rfl rfl 0 (by decide) (hts _ lkX0_begin_9) (fun _ h9 => h9) rfl (by decide +kernel) rfl rfl (Nat.le_of_ble_eq_true rfl) dX0_begin_2 (fun H locs hP hD hS => ?_)
  have hP : va_P G vwCl [(aEf, .inr (0, [.int 0, .int ef_hasAddress, .int ef_address, .int ef_value, .int ef_size, .int ef_place, .int ef_stored, .int ef_sr, .long ef_sum, .int ef_goes, .int ef_target]))] H := hP
  have hD : va_D A [(aEf, .inr (0, [.int 0, .int ef_hasAddress, .int ef_address, .int ef_value, .int ef_size, .int ef_place, .int ef_stored, .int ef_sr, .long ef_sum, .int ef_goes, .int ef_target]))] := hD
  refine lv_aload_n hx hb dX0_begin_5 rfl (lv_at hl 0 rfl) ?_
  refine lv_iconst (v := 0) hx hb dX0_begin_6 (by decide) ?_
  refine va_put (D := G) (ci := 0) (v := .int 0) (ty := .boolean) (C := RX0) (T := TX0) (N := 11) hx hb hts iwX0_begin_X0 tyX0 tyX0_ok nmX0 hown hK hP hD hS 0 rfl rfl 1 (by decide) (hts _ lkX0_begin_15) (fun _ h9 => h9) rfl (by decide +kernel) (nar_b (Or.inl rfl)) (fit_b (Or.inl rfl)) (Nat.le_of_ble_eq_true rfl) dX0_begin_7 (fun H locs hP hD hS => ?_)
  have hP : va_P G vwCl [(aEf, .inr (0, [.int 0, .int 0, .int ef_address, .int ef_value, .int ef_size, .int ef_place, .int ef_stored, .int ef_sr, .long ef_sum, .int ef_goes, .int ef_target]))] H := hP
  have hD : va_D A [(aEf, .inr (0, [.int 0, .int 0, .int ef_address, .int ef_value, .int ef_size, .int ef_place, .int ef_stored, .int ef_sr, .long ef_sum, .int ef_goes, .int ef_target]))] := hD
  refine lv_aload_n hx hb dX0_begin_10 rfl (lv_at hl 0 rfl) ?_
  refine lv_iconst (v := 0) hx hb dX0_begin_11 (by decide) ?_
  refine va_put (D := G) (ci := 0) (v := .int 0) (ty := .int) (C := RX0) (T := TX0) (N := 11) hx hb hts iwX0_begin_X0 tyX0 tyX0_ok nmX0 hown hK hP hD hS 0 rfl rfl 3 (by decide) (hts _ lkX0_begin_19) (fun _ h9 => h9) rfl (by decide +kernel) rfl rfl (Nat.le_of_ble_eq_true rfl) dX0_begin_12 (fun H locs hP hD hS => ?_)
  have hP : va_P G vwCl [(aEf, .inr (0, [.int 0, .int 0, .int ef_address, .int 0, .int ef_size, .int ef_place, .int ef_stored, .int ef_sr, .long ef_sum, .int ef_goes, .int ef_target]))] H := hP
  have hD : va_D A [(aEf, .inr (0, [.int 0, .int 0, .int ef_address, .int 0, .int ef_size, .int ef_place, .int ef_stored, .int ef_sr, .long ef_sum, .int ef_goes, .int ef_target]))] := hD
  refine lv_aload_n hx hb dX0_begin_15 rfl (lv_at hl 0 rfl) ?_
  refine lv_iconst (v := 0) hx hb dX0_begin_16 (by decide) ?_
  refine va_put (D := G) (ci := 0) (v := .int 0) (ty := .int) (C := RX0) (T := TX0) (N := 11) hx hb hts iwX0_begin_X0 tyX0 tyX0_ok nmX0 hown hK hP hD hS 0 rfl rfl 4 (by decide) (hts _ lkX0_begin_22) (fun _ h9 => h9) rfl (by decide +kernel) rfl rfl (Nat.le_of_ble_eq_true rfl) dX0_begin_17 (fun H locs hP hD hS => ?_)
  have hP : va_P G vwCl [(aEf, .inr (0, [.int 0, .int 0, .int ef_address, .int 0, .int 0, .int ef_place, .int ef_stored, .int ef_sr, .long ef_sum, .int ef_goes, .int ef_target]))] H := hP
  have hD : va_D A [(aEf, .inr (0, [.int 0, .int 0, .int ef_address, .int 0, .int 0, .int ef_place, .int ef_stored, .int ef_sr, .long ef_sum, .int ef_goes, .int ef_target]))] := hD
  refine lv_aload_n hx hb dX0_begin_20 rfl (lv_at hl 0 rfl) ?_
  refine lv_iload_n hx hb dX0_begin_21 rfl (lv_at hl 1 rfl) ?_
  refine va_put (D := G) (ci := 0) (v := .int p0) (ty := .int) (C := RX0) (T := TX0) (N := 11) hx hb hts iwX0_begin_X0 tyX0 tyX0_ok nmX0 hown hK hP hD hS 0 rfl rfl 7 (by decide) (hts _ lkX0_begin_25) (fun _ h9 => h9) rfl (by decide +kernel) rfl rfl (Nat.le_of_ble_eq_true rfl) dX0_begin_22 (fun H locs hP hD hS => ?_)
  have hP : va_P G vwCl [(aEf, .inr (0, [.int 0, .int 0, .int ef_address, .int 0, .int 0, .int ef_place, .int ef_stored, .int p0, .long ef_sum, .int ef_goes, .int ef_target]))] H := hP
  have hD : va_D A [(aEf, .inr (0, [.int 0, .int 0, .int ef_address, .int 0, .int 0, .int ef_place, .int ef_stored, .int p0, .long ef_sum, .int ef_goes, .int ef_target]))] := hD
  refine lv_aload_n hx hb dX0_begin_25 rfl (lv_at hl 0 rfl) ?_
  refine lv_lload_n hx hb dX0_begin_26 rfl (lv_at hl 2 rfl) ?_
  refine va_put (D := G) (ci := 0) (v := .long p1) (ty := .long) (C := RX0) (T := TX0) (N := 11) hx hb hts iwX0_begin_X0 tyX0 tyX0_ok nmX0 hown hK hP hD hS 0 rfl rfl 8 (by decide) (hts _ lkX0_begin_28) (fun _ h9 => h9) rfl (by decide +kernel) rfl rfl (Nat.le_of_ble_eq_true rfl) dX0_begin_27 (fun H locs hP hD hS => ?_)
  have hP : va_P G vwCl [(aEf, .inr (0, [.int 0, .int 0, .int ef_address, .int 0, .int 0, .int ef_place, .int ef_stored, .int p0, .long p1, .int ef_goes, .int ef_target]))] H := hP
  have hD : va_D A [(aEf, .inr (0, [.int 0, .int 0, .int ef_address, .int 0, .int 0, .int ef_place, .int ef_stored, .int p0, .long p1, .int ef_goes, .int ef_target]))] := hD
  refine lv_aload_n hx hb dX0_begin_30 rfl (lv_at hl 0 rfl) ?_
  refine lv_iconst (v := 0) hx hb dX0_begin_31 (by decide) ?_
  refine va_put (D := G) (ci := 0) (v := .int 0) (ty := .boolean) (C := RX0) (T := TX0) (N := 11) hx hb hts iwX0_begin_X0 tyX0 tyX0_ok nmX0 hown hK hP hD hS 0 rfl rfl 9 (by decide) (hts _ lkX0_begin_32) (fun _ h9 => h9) rfl (by decide +kernel) (nar_b (Or.inl rfl)) (fit_b (Or.inl rfl)) (Nat.le_of_ble_eq_true rfl) dX0_begin_32 (fun H locs hP hD hS => ?_)
  have hP : va_P G vwCl [(aEf, .inr (0, [.int 0, .int 0, .int ef_address, .int 0, .int 0, .int ef_place, .int ef_stored, .int p0, .long p1, .int 0, .int ef_target]))] H := hP
  have hD : va_D A [(aEf, .inr (0, [.int 0, .int 0, .int ef_address, .int 0, .int 0, .int ef_place, .int ef_stored, .int p0, .long p1, .int 0, .int ef_target]))] := hD
  exact hret H locs _ ls (0, 0, 0, 0, p0, p1, 0) dX0_begin_35 (by (first | exact rfl | (delta fX0_begin; exact rfl) | (unfold fX0_begin; dsimp only) | (unfold fX0_begin; simp only []))) trivial hP hD hS
def fX0_failAt (p0 : Int32) (p1 : Int32) : Int32 × Int32 × Int32 :=
  (p0, 1, p1)
theorem lkX0_failAt_9 : Cond.fieldLink RX0 9 "TwinIssue$Effect" "exception" "I" ∈ wsX0_failAt := by decide +kernel
theorem lkX0_failAt_15 : Cond.fieldLink RX0 15 "TwinIssue$Effect" "hasAddress" "Z" ∈ wsX0_failAt := by decide +kernel
theorem lkX0_failAt_35 : Cond.fieldLink RX0 35 "TwinIssue$Effect" "address" "I" ∈ wsX0_failAt := by decide +kernel
theorem iwX0_failAt_X0 : ∀ w ∈ wsX00, w ∈ wsX0_failAt := fun _ h => List.mem_cons_of_mem _ (List.mem_append_right _ h)
set_option maxHeartbeats 4000000 in
set_option maxRecDepth 100000 in
theorem mX0_failAt (l : Launch) (G : va_G) (cI cB cP : ClassId) (aEf : Nat) (ef_exception : Int32) (ef_hasAddress : Int32) (ef_address : Int32) (ef_value : Int32) (ef_size : Int32) (ef_place : Int32) (ef_stored : Int32) (ef_sr : Int32) (ef_sum : Int64) (ef_goes : Int32) (ef_target : Int32) (sz : Nat) (p0 : Int32) (p1 : Int32) : kMv (S := Int32 × Int32 × Int32) l yX0_failAt wsX0_failAt ({ frames := 0, cells := 0, slots := 0, locals := 0 }) [.ref aEf, .int p0, .int p1] G (kTY cI cB cP) sz [(aEf, .inr (0, [.int ef_exception, .int ef_hasAddress, .int ef_address, .int ef_value, .int ef_size, .int ef_place, .int ef_stored, .int ef_sr, .long ef_sum, .int ef_goes, .int ef_target]))] (fX0_failAt p0 p1) (fun _ => True) (fun u => [(aEf, .inr (0, [.int u.1, .int u.2.1, .int u.2.2, .int ef_value, .int ef_size, .int ef_place, .int ef_stored, .int ef_sr, .long ef_sum, .int ef_goes, .int ef_target]))]) := by
  refine k_ofv (cc := cX0_failAt) (maxL := 3) (by decide) rfl (Nat.le_of_ble_eq_true rfl) ?_
  intro p e s m args below meth c A ls Q H locs hx hb hml hown hts hin hK hP hD hA hS hl hret
  have hown : s.vm.findClass RX0 = some m.cls := hown
  have hl : lv_has ls 3 [(0, .ref aEf), (1, .int p0), (2, .int p1)] := hl
  refine lv_aload_n hx hb dX0_failAt_0 rfl (lv_at hl 0 rfl) ?_
  refine lv_iload_n hx hb dX0_failAt_1 rfl (lv_at hl 1 rfl) ?_
  refine va_put (D := G) (ci := 0) (v := .int p0) (ty := .int) (C := RX0) (T := TX0) (N := 11) hx hb hts iwX0_failAt_X0 tyX0 tyX0_ok nmX0 hown hK hP hD hS 0 rfl rfl 0 (by decide) (hts _ lkX0_failAt_9) (fun _ h9 => h9) rfl (by decide +kernel) rfl rfl (Nat.le_of_ble_eq_true rfl) dX0_failAt_2 (fun H locs hP hD hS => ?_)
  have hP : va_P G vwCl [(aEf, .inr (0, [.int p0, .int ef_hasAddress, .int ef_address, .int ef_value, .int ef_size, .int ef_place, .int ef_stored, .int ef_sr, .long ef_sum, .int ef_goes, .int ef_target]))] H := hP
  have hD : va_D A [(aEf, .inr (0, [.int p0, .int ef_hasAddress, .int ef_address, .int ef_value, .int ef_size, .int ef_place, .int ef_stored, .int ef_sr, .long ef_sum, .int ef_goes, .int ef_target]))] := hD
  refine lv_aload_n hx hb dX0_failAt_5 rfl (lv_at hl 0 rfl) ?_
  refine lv_iconst (v := 1) hx hb dX0_failAt_6 (by decide) ?_
  refine va_put (D := G) (ci := 0) (v := .int 1) (ty := .boolean) (C := RX0) (T := TX0) (N := 11) hx hb hts iwX0_failAt_X0 tyX0 tyX0_ok nmX0 hown hK hP hD hS 0 rfl rfl 1 (by decide) (hts _ lkX0_failAt_15) (fun _ h9 => h9) rfl (by decide +kernel) (nar_b (Or.inr rfl)) (fit_b (Or.inr rfl)) (Nat.le_of_ble_eq_true rfl) dX0_failAt_7 (fun H locs hP hD hS => ?_)
  have hP : va_P G vwCl [(aEf, .inr (0, [.int p0, .int 1, .int ef_address, .int ef_value, .int ef_size, .int ef_place, .int ef_stored, .int ef_sr, .long ef_sum, .int ef_goes, .int ef_target]))] H := hP
  have hD : va_D A [(aEf, .inr (0, [.int p0, .int 1, .int ef_address, .int ef_value, .int ef_size, .int ef_place, .int ef_stored, .int ef_sr, .long ef_sum, .int ef_goes, .int ef_target]))] := hD
  refine lv_aload_n hx hb dX0_failAt_10 rfl (lv_at hl 0 rfl) ?_
  refine lv_iload_n hx hb dX0_failAt_11 rfl (lv_at hl 2 rfl) ?_
  refine va_put (D := G) (ci := 0) (v := .int p1) (ty := .int) (C := RX0) (T := TX0) (N := 11) hx hb hts iwX0_failAt_X0 tyX0 tyX0_ok nmX0 hown hK hP hD hS 0 rfl rfl 2 (by decide) (hts _ lkX0_failAt_35) (fun _ h9 => h9) rfl (by decide +kernel) rfl rfl (Nat.le_of_ble_eq_true rfl) dX0_failAt_12 (fun H locs hP hD hS => ?_)
  have hP : va_P G vwCl [(aEf, .inr (0, [.int p0, .int 1, .int p1, .int ef_value, .int ef_size, .int ef_place, .int ef_stored, .int ef_sr, .long ef_sum, .int ef_goes, .int ef_target]))] H := hP
  have hD : va_D A [(aEf, .inr (0, [.int p0, .int 1, .int p1, .int ef_value, .int ef_size, .int ef_place, .int ef_stored, .int ef_sr, .long ef_sum, .int ef_goes, .int ef_target]))] := hD
  exact hret H locs _ ls (p0, 1, p1) dX0_failAt_15 (by (first | exact rfl | (delta fX0_failAt; exact rfl) | (unfold fX0_failAt; dsimp only) | (unfold fX0_failAt; simp only []))) trivial hP hD hS
def fX0_setBit (ef_sr : Int32) (p0 : Int32) (p1 : Int32) : Int32 :=
  if p1 = 0 then (ef_sr &&& (p0 ^^^ (-1))) else (ef_sr ||| p0)
theorem lkX0_setBit_25 : Cond.fieldLink RX0 25 "TwinIssue$Effect" "sr" "I" ∈ wsX0_setBit := by decide +kernel
theorem iwX0_setBit_X0 : ∀ w ∈ wsX00, w ∈ wsX0_setBit := fun _ h => List.mem_cons_of_mem _ (List.mem_append_right _ h)
set_option maxHeartbeats 4000000 in
set_option maxRecDepth 100000 in
theorem mX0_setBit (l : Launch) (G : va_G) (cI cB cP : ClassId) (aEf : Nat) (ef_exception : Int32) (ef_hasAddress : Int32) (ef_address : Int32) (ef_value : Int32) (ef_size : Int32) (ef_place : Int32) (ef_stored : Int32) (ef_sr : Int32) (ef_sum : Int64) (ef_goes : Int32) (ef_target : Int32) (sz : Nat) (p0 : Int32) (p1 : Int32) : kMv (S := Int32) l yX0_setBit wsX0_setBit ({ frames := 0, cells := 0, slots := 0, locals := 0 }) [.ref aEf, .int p0, .int p1] G (kTY cI cB cP) sz [(aEf, .inr (0, [.int ef_exception, .int ef_hasAddress, .int ef_address, .int ef_value, .int ef_size, .int ef_place, .int ef_stored, .int ef_sr, .long ef_sum, .int ef_goes, .int ef_target]))] (fX0_setBit ef_sr p0 p1) (fun _ => True) (fun u => [(aEf, .inr (0, [.int ef_exception, .int ef_hasAddress, .int ef_address, .int ef_value, .int ef_size, .int ef_place, .int ef_stored, .int u, .long ef_sum, .int ef_goes, .int ef_target]))]) := by
  refine k_ofv (cc := cX0_setBit) (maxL := 3) (by decide) rfl (Nat.le_of_ble_eq_true rfl) ?_
  intro p e s m args below meth c A ls Q H locs hx hb hml hown hts hin hK hP hD hA hS hl hret
  have hown : s.vm.findClass RX0 = some m.cls := hown
  have hl : lv_has ls 3 [(0, .ref aEf), (1, .int p0), (2, .int p1)] := hl
  refine lv_aload_n hx hb dX0_setBit_0 rfl (lv_at hl 0 rfl) ?_
  refine lv_iload_n hx hb dX0_setBit_1 rfl (lv_at hl 2 rfl) ?_
  refine lv_if_eq (tgt := 14) hx hb dX0_setBit_2 (by decide) (fun c1 => ?_) (fun c1 => ?_)
  · skip
    refine lv_aload_n hx hb dX0_setBit_14 rfl (lv_at hl 0 rfl) ?_
    refine va_get (D := G) (ci := 0) (v := .int ef_sr) (C := RX0) (T := TX0) (N := 11) hx hb hts iwX0_setBit_X0 hown hK hP 0 rfl rfl 7 (by decide) (hts _ lkX0_setBit_25) (fun _ h9 => h9) rfl dX0_setBit_15 ?_
    refine lv_iload_n hx hb dX0_setBit_18 rfl (lv_at hl 1 rfl) ?_
    refine lv_iconst (v := (-1)) hx hb dX0_setBit_19 (by decide) ?_
    refine lv_ixor hx hb dX0_setBit_20 ?_
    refine lv_iand hx hb dX0_setBit_21 ?_
    refine va_put (D := G) (ci := 0) (v := .int (ef_sr &&& (p0 ^^^ (-1)))) (ty := .int) (C := RX0) (T := TX0) (N := 11) hx hb hts iwX0_setBit_X0 tyX0 tyX0_ok nmX0 hown hK hP hD hS 0 rfl rfl 7 (by decide) (hts _ lkX0_setBit_25) (fun _ h9 => h9) rfl (by decide +kernel) rfl rfl (Nat.le_of_ble_eq_true rfl) dX0_setBit_22 (fun H locs hP hD hS => ?_)
    have hP : va_P G vwCl [(aEf, .inr (0, [.int ef_exception, .int ef_hasAddress, .int ef_address, .int ef_value, .int ef_size, .int ef_place, .int ef_stored, .int (ef_sr &&& (p0 ^^^ (-1))), .long ef_sum, .int ef_goes, .int ef_target]))] H := hP
    have hD : va_D A [(aEf, .inr (0, [.int ef_exception, .int ef_hasAddress, .int ef_address, .int ef_value, .int ef_size, .int ef_place, .int ef_stored, .int (ef_sr &&& (p0 ^^^ (-1))), .long ef_sum, .int ef_goes, .int ef_target]))] := hD
    exact hret H locs _ ls (ef_sr &&& (p0 ^^^ (-1))) dX0_setBit_25 ((if_pos c1).trans (rfl)).symm trivial hP hD hS
  · skip
    refine lv_aload_n hx hb dX0_setBit_5 rfl (lv_at hl 0 rfl) ?_
    refine va_get (D := G) (ci := 0) (v := .int ef_sr) (C := RX0) (T := TX0) (N := 11) hx hb hts iwX0_setBit_X0 hown hK hP 0 rfl rfl 7 (by decide) (hts _ lkX0_setBit_25) (fun _ h9 => h9) rfl dX0_setBit_6 ?_
    refine lv_iload_n hx hb dX0_setBit_9 rfl (lv_at hl 1 rfl) ?_
    refine lv_ior hx hb dX0_setBit_10 ?_
    refine lv_goto (tgt := 22) hx hb dX0_setBit_11 (by decide) ?_
    refine va_put (D := G) (ci := 0) (v := .int (ef_sr ||| p0)) (ty := .int) (C := RX0) (T := TX0) (N := 11) hx hb hts iwX0_setBit_X0 tyX0 tyX0_ok nmX0 hown hK hP hD hS 0 rfl rfl 7 (by decide) (hts _ lkX0_setBit_25) (fun _ h9 => h9) rfl (by decide +kernel) rfl rfl (Nat.le_of_ble_eq_true rfl) dX0_setBit_22 (fun H locs hP hD hS => ?_)
    have hP : va_P G vwCl [(aEf, .inr (0, [.int ef_exception, .int ef_hasAddress, .int ef_address, .int ef_value, .int ef_size, .int ef_place, .int ef_stored, .int (ef_sr ||| p0), .long ef_sum, .int ef_goes, .int ef_target]))] H := hP
    have hD : va_D A [(aEf, .inr (0, [.int ef_exception, .int ef_hasAddress, .int ef_address, .int ef_value, .int ef_size, .int ef_place, .int ef_stored, .int (ef_sr ||| p0), .long ef_sum, .int ef_goes, .int ef_target]))] := hD
    exact hret H locs _ ls (ef_sr ||| p0) dX0_setBit_25 ((if_neg c1).trans (rfl)).symm trivial hP hD hS
def fX0_setOverflow (ef_exception : Int32) (ef_sr : Int32) (p0 : Int32) : Int32 × Int32 :=
  (let z1 := fX0_setBit ef_sr 256 p0; if p0 = 0 then ((ef_exception, z1)) else (if (z1 &&& 512) = 0 then ((ef_exception, z1)) else ((11, z1))))
theorem lkX0_setOverflow_9 : Cond.fieldLink RX0 9 "TwinIssue$Effect" "exception" "I" ∈ wsX0_setOverflow := by decide +kernel
theorem lkX0_setOverflow_25 : Cond.fieldLink RX0 25 "TwinIssue$Effect" "sr" "I" ∈ wsX0_setOverflow := by decide +kernel
theorem iwX0_setOverflow_X0 : ∀ w ∈ wsX00, w ∈ wsX0_setOverflow := fun _ h => List.mem_cons_of_mem _ (List.mem_append_right _ h)
set_option maxHeartbeats 4000000 in
set_option maxRecDepth 100000 in
theorem mX0_setOverflow (l : Launch) (G : va_G) (cI cB cP : ClassId) (aEf : Nat) (ef_exception : Int32) (ef_hasAddress : Int32) (ef_address : Int32) (ef_value : Int32) (ef_size : Int32) (ef_place : Int32) (ef_stored : Int32) (ef_sr : Int32) (ef_sum : Int64) (ef_goes : Int32) (ef_target : Int32) (sz : Nat) (p0 : Int32) : kMv (S := Int32 × Int32) l yX0_setOverflow wsX0_setOverflow ({ frames := 1, cells := 0, slots := 0, locals := 22 }) [.ref aEf, .int p0] G (kTY cI cB cP) sz [(aEf, .inr (0, [.int ef_exception, .int ef_hasAddress, .int ef_address, .int ef_value, .int ef_size, .int ef_place, .int ef_stored, .int ef_sr, .long ef_sum, .int ef_goes, .int ef_target]))] (fX0_setOverflow ef_exception ef_sr p0) (fun _ => True) (fun u => [(aEf, .inr (0, [.int u.1, .int ef_hasAddress, .int ef_address, .int ef_value, .int ef_size, .int ef_place, .int ef_stored, .int u.2, .long ef_sum, .int ef_goes, .int ef_target]))]) := by
  refine k_ofv (cc := cX0_setOverflow) (maxL := 2) (by decide) rfl (Nat.le_of_ble_eq_true rfl) ?_
  intro p e s m args below meth c A ls Q H locs hx hb hml hown hts hin hK hP hD hA hS hl hret
  have hown : s.vm.findClass RX0 = some m.cls := hown
  have hl : lv_has ls 2 [(0, .ref aEf), (1, .int p0)] := hl
  refine lv_aload_n hx hb dX0_setOverflow_0 rfl (lv_at hl 0 rfl) ?_
  refine lv_sipush (v := 256) hx hb dX0_setOverflow_1 (by decide) ?_
  refine lv_iload_n hx hb dX0_setOverflow_4 rfl (lv_at hl 1 rfl) ?_
  refine k_vV (As := [.int 256, .int p0]) (rest := []) (wc := [(aEf, .inr (0, [.int ef_exception, .int ef_hasAddress, .int ef_address, .int ef_value, .int ef_size, .int ef_place, .int ef_stored, .int ef_sr, .long ef_sum, .int ef_goes, .int ef_target]))]) (wr := []) ⟨hx, hb, hml, hown, hts⟩ hK hP hD hS hA [0] [] rfl rfl rfl rfl (by decide) (mX0_setBit l G cI cB cP aEf ef_exception ef_hasAddress ef_address ef_value ef_size ef_place ef_stored ef_sr ef_sum ef_goes ef_target H.size 256 p0 ) (cwV 2 hts gX0_setOverflow_X0_setBit rfl rfl rfl (by decide +kernel) ⟨Nat.le_of_ble_eq_true rfl, Nat.le_of_ble_eq_true rfl⟩) 0 0 rfl rfl rfl rfl hl.1 rfl (Nat.le_of_ble_eq_true rfl) dX0_setOverflow_5 ⟨Nat.le_of_ble_eq_true rfl, Nat.le_of_ble_eq_true rfl⟩ (fun z1 H locs hz1 hEz1 hP hD hS => ?_)
  have hP : va_P G vwCl [(aEf, .inr (0, [.int ef_exception, .int ef_hasAddress, .int ef_address, .int ef_value, .int ef_size, .int ef_place, .int ef_stored, .int z1, .long ef_sum, .int ef_goes, .int ef_target]))] H := hP
  have hD : va_D A [(aEf, .inr (0, [.int ef_exception, .int ef_hasAddress, .int ef_address, .int ef_value, .int ef_size, .int ef_place, .int ef_stored, .int z1, .long ef_sum, .int ef_goes, .int ef_target]))] := hD
  refine lv_iload_n hx hb dX0_setOverflow_8 rfl (lv_at hl 1 rfl) ?_
  refine lv_if_eq (tgt := 29) hx hb dX0_setOverflow_9 (by decide) (fun c1 => ?_) (fun c1 => ?_)
  · skip
    exact hret H locs _ ls (ef_exception, z1) dX0_setOverflow_29 (by clear hP hD hS hl; replace hz1 := hz1.symm; subst hz1; exact (((if_pos c1).trans (rfl))).symm) trivial hP hD hS
  · skip
    refine lv_aload_n hx hb dX0_setOverflow_12 rfl (lv_at hl 0 rfl) ?_
    refine va_get (D := G) (ci := 0) (v := .int z1) (C := RX0) (T := TX0) (N := 11) hx hb hts iwX0_setOverflow_X0 hown hK hP 0 rfl rfl 7 (by decide) (hts _ lkX0_setOverflow_25) (fun _ h9 => h9) rfl dX0_setOverflow_13 ?_
    refine lv_sipush (v := 512) hx hb dX0_setOverflow_16 (by decide) ?_
    refine lv_iand hx hb dX0_setOverflow_19 ?_
    refine lv_if_eq (tgt := 29) hx hb dX0_setOverflow_20 (by decide) (fun c2 => ?_) (fun c2 => ?_)
    · skip
      exact hret H locs _ ls (ef_exception, z1) dX0_setOverflow_29 (by clear hP hD hS hl; replace hz1 := hz1.symm; subst hz1; exact (((if_neg c1).trans ((if_pos c2).trans (rfl)))).symm) trivial hP hD hS
    · skip
      refine lv_aload_n hx hb dX0_setOverflow_23 rfl (lv_at hl 0 rfl) ?_
      refine lv_bipush (v := 11) hx hb dX0_setOverflow_24 (by decide) ?_
      refine va_put (D := G) (ci := 0) (v := .int 11) (ty := .int) (C := RX0) (T := TX0) (N := 11) hx hb hts iwX0_setOverflow_X0 tyX0 tyX0_ok nmX0 hown hK hP hD hS 0 rfl rfl 0 (by decide) (hts _ lkX0_setOverflow_9) (fun _ h9 => h9) rfl (by decide +kernel) rfl rfl (Nat.le_of_ble_eq_true rfl) dX0_setOverflow_26 (fun H locs hP hD hS => ?_)
      have hP : va_P G vwCl [(aEf, .inr (0, [.int 11, .int ef_hasAddress, .int ef_address, .int ef_value, .int ef_size, .int ef_place, .int ef_stored, .int z1, .long ef_sum, .int ef_goes, .int ef_target]))] H := hP
      have hD : va_D A [(aEf, .inr (0, [.int 11, .int ef_hasAddress, .int ef_address, .int ef_value, .int ef_size, .int ef_place, .int ef_stored, .int z1, .long ef_sum, .int ef_goes, .int ef_target]))] := hD
      exact hret H locs _ ls (11, z1) dX0_setOverflow_29 (by clear hP hD hS hl; replace hz1 := hz1.symm; subst hz1; exact (((if_neg c1).trans ((if_neg c2).trans (rfl)))).symm) trivial hP hD hS

def fX8_reset (wo : Nat → Int32) : Int32 × Int32 × Int32 × Int32 × Int32 × Int64 × Int32 × Int32 × Int32 × Int32 × Int32 × Int32 × Int32 × (Nat → Int32) :=
  (let z1 := fX5_reset wo; (let z2 := fX4_reset; (1, 0, 0, 0, 0, 0, 0, 0, 0, 0, 0, z2.1, z2.2, z1)))
theorem lkX8_reset_12 : Cond.fieldLink RX8 12 "TwinIssue$Specials" "lines" "LTwinIssue$Lines;" ∈ wsX8_reset := by decide +kernel
theorem lkX8_reset_18 : Cond.fieldLink RX8 18 "TwinIssue$Specials" "sr" "I" ∈ wsX8_reset := by decide +kernel
theorem lkX8_reset_27 : Cond.fieldLink RX8 27 "TwinIssue$Specials" "maps" "LTwinIssue$Maps;" ∈ wsX8_reset := by decide +kernel
theorem lkX8_reset_35 : Cond.fieldLink RX8 35 "TwinIssue$Specials" "epc" "I" ∈ wsX8_reset := by decide +kernel
theorem lkX8_reset_38 : Cond.fieldLink RX8 38 "TwinIssue$Specials" "esr" "I" ∈ wsX8_reset := by decide +kernel
theorem lkX8_reset_41 : Cond.fieldLink RX8 41 "TwinIssue$Specials" "eea" "I" ∈ wsX8_reset := by decide +kernel
theorem lkX8_reset_44 : Cond.fieldLink RX8 44 "TwinIssue$Specials" "held" "I" ∈ wsX8_reset := by decide +kernel
theorem lkX8_reset_47 : Cond.fieldLink RX8 47 "TwinIssue$Specials" "sum" "J" ∈ wsX8_reset := by decide +kernel
theorem lkX8_reset_51 : Cond.fieldLink RX8 51 "TwinIssue$Specials" "count" "I" ∈ wsX8_reset := by decide +kernel
theorem lkX8_reset_54 : Cond.fieldLink RX8 54 "TwinIssue$Specials" "timer" "I" ∈ wsX8_reset := by decide +kernel
theorem lkX8_reset_57 : Cond.fieldLink RX8 57 "TwinIssue$Specials" "mask" "I" ∈ wsX8_reset := by decide +kernel
theorem lkX8_reset_60 : Cond.fieldLink RX8 60 "TwinIssue$Specials" "retired" "I" ∈ wsX8_reset := by decide +kernel
theorem lkX8_reset_63 : Cond.fieldLink RX8 63 "TwinIssue$Specials" "latch" "I" ∈ wsX8_reset := by decide +kernel
theorem iwX8_reset_X8 : ∀ w ∈ wsX80, w ∈ wsX8_reset := fun _ h => List.mem_cons_of_mem _ (List.mem_append_left _ (List.mem_append_left _ (List.mem_append_right _ h)))
def sX8_reset (wo : Nat → Int32) : Prop :=
  (sX5_reset wo) ∧ ((∀ z1, z1 = fX5_reset wo → ((∀ z2, z2 = fX4_reset → True))))
set_option maxHeartbeats 4000000 in
set_option maxRecDepth 100000 in
theorem mX8_reset (l : Launch) (G : va_G) (cI cB cP : ClassId) (aSp aMp aLi aWo aCo aVa : Nat) (sp_sr : Int32) (sp_epc : Int32) (sp_esr : Int32) (sp_eea : Int32) (sp_held : Int32) (sp_sum : Int64) (sp_count : Int32) (sp_timer : Int32) (sp_mask : Int32) (sp_retired : Int32) (sp_latch : Int32) (mp_sets : Int32) (li_passed : Int32) (li_size : Int32) (wo : Nat → Int32) (sz : Nat) (hs : sX8_reset wo) : kMv (S := Int32 × Int32 × Int32 × Int32 × Int32 × Int64 × Int32 × Int32 × Int32 × Int32 × Int32 × Int32 × Int32 × (Nat → Int32)) l yX8_reset wsX8_reset ({ frames := 2, cells := 0, slots := 0, locals := 43 }) [.ref aSp] G (kTY cI cB cP) sz [(aSp, .inr (8, [.ref aMp, .ref aLi, .int sp_sr, .int sp_epc, .int sp_esr, .int sp_eea, .int sp_held, .long sp_sum, .int sp_count, .int sp_timer, .int sp_mask, .int sp_retired, .int sp_latch])), (aMp, .inr (5, [.ref aWo, .int mp_sets])), (aLi, .inr (4, [.ref aCo, .ref aVa, .int li_passed, .int li_size])), (aWo, .inl (cI, 512, .inl wo))] (fX8_reset wo) (fun _ => True) (fun u => [(aSp, .inr (8, [.ref aMp, .ref aLi, .int u.1, .int u.2.1, .int u.2.2.1, .int u.2.2.2.1, .int u.2.2.2.2.1, .long u.2.2.2.2.2.1, .int u.2.2.2.2.2.2.1, .int u.2.2.2.2.2.2.2.1, .int u.2.2.2.2.2.2.2.2.1, .int u.2.2.2.2.2.2.2.2.2.1, .int u.2.2.2.2.2.2.2.2.2.2.1])), (aMp, .inr (5, [.ref aWo, .int mp_sets])), (aLi, .inr (4, [.ref aCo, .ref aVa, .int u.2.2.2.2.2.2.2.2.2.2.2.1, .int u.2.2.2.2.2.2.2.2.2.2.2.2.1])), (aWo, .inl (cI, 512, .inl u.2.2.2.2.2.2.2.2.2.2.2.2.2))]) := by
  refine k_ofv (cc := cX8_reset) (maxL := 1) (by decide) rfl (Nat.le_of_ble_eq_true rfl) ?_
  intro p e s m args below meth c A ls Q H locs hx hb hml hown hts hin hK hP hD hA hS hl hret
  have hown : s.vm.findClass RX8 = some m.cls := hown
  have hl : lv_has ls 1 [(0, .ref aSp)] := hl
  unfold sX8_reset at hs
  refine lv_aload_n hx hb dX8_reset_0 rfl (lv_at hl 0 rfl) ?_
  refine va_get (D := G) (ci := 8) (v := .ref aMp) (C := RX8) (T := TX8) (N := 13) hx hb hts iwX8_reset_X8 hown hK hP 0 rfl rfl 0 (by decide) (hts _ lkX8_reset_27) (fun _ h9 => h9) rfl dX8_reset_1 ?_
  obtain ⟨o1, hs⟩ := hs
  refine k_vV (As := []) (rest := []) (wc := [(aMp, .inr (5, [.ref aWo, .int mp_sets])), (aWo, .inl (cI, 512, .inl wo))]) (wr := [(aSp, .inr (8, [.ref aMp, .ref aLi, .int sp_sr, .int sp_epc, .int sp_esr, .int sp_eea, .int sp_held, .long sp_sum, .int sp_count, .int sp_timer, .int sp_mask, .int sp_retired, .int sp_latch])), (aLi, .inr (4, [.ref aCo, .ref aVa, .int li_passed, .int li_size]))]) ⟨hx, hb, hml, hown, hts⟩ hK hP hD hS hA [1, 3] [0, 2] rfl rfl rfl rfl (by decide) (mX5_reset l G cI cB cP aMp aWo mp_sets wo H.size  o1) (cwV 0 hts gX8_reset_X5_reset rfl rfl rfl (by decide +kernel) ⟨Nat.le_of_ble_eq_true rfl, Nat.le_of_ble_eq_true rfl⟩) 1 5 rfl rfl rfl rfl hl.1 rfl (Nat.le_of_ble_eq_true rfl) dX8_reset_4 ⟨Nat.le_of_ble_eq_true rfl, Nat.le_of_ble_eq_true rfl⟩ (fun z1 H locs hz1 hEz1 hP hD hS => ?_)
  have hs := hs z1 hz1
  have hP : va_P G vwCl [(aSp, .inr (8, [.ref aMp, .ref aLi, .int sp_sr, .int sp_epc, .int sp_esr, .int sp_eea, .int sp_held, .long sp_sum, .int sp_count, .int sp_timer, .int sp_mask, .int sp_retired, .int sp_latch])), (aLi, .inr (4, [.ref aCo, .ref aVa, .int li_passed, .int li_size])), (aMp, .inr (5, [.ref aWo, .int mp_sets])), (aWo, .inl (cI, 512, .inl z1))] H := hP
  have hD : va_D A [(aSp, .inr (8, [.ref aMp, .ref aLi, .int sp_sr, .int sp_epc, .int sp_esr, .int sp_eea, .int sp_held, .long sp_sum, .int sp_count, .int sp_timer, .int sp_mask, .int sp_retired, .int sp_latch])), (aLi, .inr (4, [.ref aCo, .ref aVa, .int li_passed, .int li_size])), (aMp, .inr (5, [.ref aWo, .int mp_sets])), (aWo, .inl (cI, 512, .inl z1))] := hD
  refine lv_aload_n hx hb dX8_reset_7 rfl (lv_at hl 0 rfl) ?_
  refine va_get (D := G) (ci := 8) (v := .ref aLi) (C := RX8) (T := TX8) (N := 13) hx hb hts iwX8_reset_X8 hown hK hP 0 rfl rfl 1 (by decide) (hts _ lkX8_reset_12) (fun _ h9 => h9) rfl dX8_reset_8 ?_
  refine k_vV (As := []) (rest := []) (wc := [(aLi, .inr (4, [.ref aCo, .ref aVa, .int li_passed, .int li_size]))]) (wr := [(aSp, .inr (8, [.ref aMp, .ref aLi, .int sp_sr, .int sp_epc, .int sp_esr, .int sp_eea, .int sp_held, .long sp_sum, .int sp_count, .int sp_timer, .int sp_mask, .int sp_retired, .int sp_latch])), (aMp, .inr (5, [.ref aWo, .int mp_sets])), (aWo, .inl (cI, 512, .inl z1))]) ⟨hx, hb, hml, hown, hts⟩ hK hP hD hS hA [1] [0, 2, 3] rfl rfl rfl rfl (by decide) (mX4_reset l G cI cB cP aLi aCo aVa li_passed li_size H.size  ) (cwV 0 hts gX8_reset_X4_reset rfl rfl rfl (by decide +kernel) ⟨Nat.le_of_ble_eq_true rfl, Nat.le_of_ble_eq_true rfl⟩) 1 4 rfl rfl rfl rfl hl.1 rfl (Nat.le_of_ble_eq_true rfl) dX8_reset_11 ⟨Nat.le_of_ble_eq_true rfl, Nat.le_of_ble_eq_true rfl⟩ (fun z2 H locs hz2 hEz2 hP hD hS => ?_)
  have hs := hs z2 hz2
  have hP : va_P G vwCl [(aSp, .inr (8, [.ref aMp, .ref aLi, .int sp_sr, .int sp_epc, .int sp_esr, .int sp_eea, .int sp_held, .long sp_sum, .int sp_count, .int sp_timer, .int sp_mask, .int sp_retired, .int sp_latch])), (aMp, .inr (5, [.ref aWo, .int mp_sets])), (aWo, .inl (cI, 512, .inl z1)), (aLi, .inr (4, [.ref aCo, .ref aVa, .int z2.1, .int z2.2]))] H := hP
  have hD : va_D A [(aSp, .inr (8, [.ref aMp, .ref aLi, .int sp_sr, .int sp_epc, .int sp_esr, .int sp_eea, .int sp_held, .long sp_sum, .int sp_count, .int sp_timer, .int sp_mask, .int sp_retired, .int sp_latch])), (aMp, .inr (5, [.ref aWo, .int mp_sets])), (aWo, .inl (cI, 512, .inl z1)), (aLi, .inr (4, [.ref aCo, .ref aVa, .int z2.1, .int z2.2]))] := hD
  refine lv_aload_n hx hb dX8_reset_14 rfl (lv_at hl 0 rfl) ?_
  refine lv_iconst (v := 1) hx hb dX8_reset_15 (by decide) ?_
  refine va_put (D := G) (ci := 8) (v := .int 1) (ty := .int) (C := RX8) (T := TX8) (N := 13) hx hb hts iwX8_reset_X8 tyX8 tyX8_ok nmX8 hown hK hP hD hS 0 rfl rfl 2 (by decide) (hts _ lkX8_reset_18) (fun _ h9 => h9) rfl (by decide +kernel) rfl rfl (Nat.le_of_ble_eq_true rfl) dX8_reset_16 (fun H locs hP hD hS => ?_)
  have hP : va_P G vwCl [(aSp, .inr (8, [.ref aMp, .ref aLi, .int 1, .int sp_epc, .int sp_esr, .int sp_eea, .int sp_held, .long sp_sum, .int sp_count, .int sp_timer, .int sp_mask, .int sp_retired, .int sp_latch])), (aMp, .inr (5, [.ref aWo, .int mp_sets])), (aWo, .inl (cI, 512, .inl z1)), (aLi, .inr (4, [.ref aCo, .ref aVa, .int z2.1, .int z2.2]))] H := hP
  have hD : va_D A [(aSp, .inr (8, [.ref aMp, .ref aLi, .int 1, .int sp_epc, .int sp_esr, .int sp_eea, .int sp_held, .long sp_sum, .int sp_count, .int sp_timer, .int sp_mask, .int sp_retired, .int sp_latch])), (aMp, .inr (5, [.ref aWo, .int mp_sets])), (aWo, .inl (cI, 512, .inl z1)), (aLi, .inr (4, [.ref aCo, .ref aVa, .int z2.1, .int z2.2]))] := hD
  refine lv_aload_n hx hb dX8_reset_19 rfl (lv_at hl 0 rfl) ?_
  refine lv_iconst (v := 0) hx hb dX8_reset_20 (by decide) ?_
  refine va_put (D := G) (ci := 8) (v := .int 0) (ty := .int) (C := RX8) (T := TX8) (N := 13) hx hb hts iwX8_reset_X8 tyX8 tyX8_ok nmX8 hown hK hP hD hS 0 rfl rfl 3 (by decide) (hts _ lkX8_reset_35) (fun _ h9 => h9) rfl (by decide +kernel) rfl rfl (Nat.le_of_ble_eq_true rfl) dX8_reset_21 (fun H locs hP hD hS => ?_)
  have hP : va_P G vwCl [(aSp, .inr (8, [.ref aMp, .ref aLi, .int 1, .int 0, .int sp_esr, .int sp_eea, .int sp_held, .long sp_sum, .int sp_count, .int sp_timer, .int sp_mask, .int sp_retired, .int sp_latch])), (aMp, .inr (5, [.ref aWo, .int mp_sets])), (aWo, .inl (cI, 512, .inl z1)), (aLi, .inr (4, [.ref aCo, .ref aVa, .int z2.1, .int z2.2]))] H := hP
  have hD : va_D A [(aSp, .inr (8, [.ref aMp, .ref aLi, .int 1, .int 0, .int sp_esr, .int sp_eea, .int sp_held, .long sp_sum, .int sp_count, .int sp_timer, .int sp_mask, .int sp_retired, .int sp_latch])), (aMp, .inr (5, [.ref aWo, .int mp_sets])), (aWo, .inl (cI, 512, .inl z1)), (aLi, .inr (4, [.ref aCo, .ref aVa, .int z2.1, .int z2.2]))] := hD
  refine lv_aload_n hx hb dX8_reset_24 rfl (lv_at hl 0 rfl) ?_
  refine lv_iconst (v := 0) hx hb dX8_reset_25 (by decide) ?_
  refine va_put (D := G) (ci := 8) (v := .int 0) (ty := .int) (C := RX8) (T := TX8) (N := 13) hx hb hts iwX8_reset_X8 tyX8 tyX8_ok nmX8 hown hK hP hD hS 0 rfl rfl 4 (by decide) (hts _ lkX8_reset_38) (fun _ h9 => h9) rfl (by decide +kernel) rfl rfl (Nat.le_of_ble_eq_true rfl) dX8_reset_26 (fun H locs hP hD hS => ?_)
  have hP : va_P G vwCl [(aSp, .inr (8, [.ref aMp, .ref aLi, .int 1, .int 0, .int 0, .int sp_eea, .int sp_held, .long sp_sum, .int sp_count, .int sp_timer, .int sp_mask, .int sp_retired, .int sp_latch])), (aMp, .inr (5, [.ref aWo, .int mp_sets])), (aWo, .inl (cI, 512, .inl z1)), (aLi, .inr (4, [.ref aCo, .ref aVa, .int z2.1, .int z2.2]))] H := hP
  have hD : va_D A [(aSp, .inr (8, [.ref aMp, .ref aLi, .int 1, .int 0, .int 0, .int sp_eea, .int sp_held, .long sp_sum, .int sp_count, .int sp_timer, .int sp_mask, .int sp_retired, .int sp_latch])), (aMp, .inr (5, [.ref aWo, .int mp_sets])), (aWo, .inl (cI, 512, .inl z1)), (aLi, .inr (4, [.ref aCo, .ref aVa, .int z2.1, .int z2.2]))] := hD
  refine lv_aload_n hx hb dX8_reset_29 rfl (lv_at hl 0 rfl) ?_
  refine lv_iconst (v := 0) hx hb dX8_reset_30 (by decide) ?_
  refine va_put (D := G) (ci := 8) (v := .int 0) (ty := .int) (C := RX8) (T := TX8) (N := 13) hx hb hts iwX8_reset_X8 tyX8 tyX8_ok nmX8 hown hK hP hD hS 0 rfl rfl 5 (by decide) (hts _ lkX8_reset_41) (fun _ h9 => h9) rfl (by decide +kernel) rfl rfl (Nat.le_of_ble_eq_true rfl) dX8_reset_31 (fun H locs hP hD hS => ?_)
  have hP : va_P G vwCl [(aSp, .inr (8, [.ref aMp, .ref aLi, .int 1, .int 0, .int 0, .int 0, .int sp_held, .long sp_sum, .int sp_count, .int sp_timer, .int sp_mask, .int sp_retired, .int sp_latch])), (aMp, .inr (5, [.ref aWo, .int mp_sets])), (aWo, .inl (cI, 512, .inl z1)), (aLi, .inr (4, [.ref aCo, .ref aVa, .int z2.1, .int z2.2]))] H := hP
  have hD : va_D A [(aSp, .inr (8, [.ref aMp, .ref aLi, .int 1, .int 0, .int 0, .int 0, .int sp_held, .long sp_sum, .int sp_count, .int sp_timer, .int sp_mask, .int sp_retired, .int sp_latch])), (aMp, .inr (5, [.ref aWo, .int mp_sets])), (aWo, .inl (cI, 512, .inl z1)), (aLi, .inr (4, [.ref aCo, .ref aVa, .int z2.1, .int z2.2]))] := hD
  refine lv_aload_n hx hb dX8_reset_34 rfl (lv_at hl 0 rfl) ?_
  refine lv_iconst (v := 0) hx hb dX8_reset_35 (by decide) ?_
  refine va_put (D := G) (ci := 8) (v := .int 0) (ty := .int) (C := RX8) (T := TX8) (N := 13) hx hb hts iwX8_reset_X8 tyX8 tyX8_ok nmX8 hown hK hP hD hS 0 rfl rfl 6 (by decide) (hts _ lkX8_reset_44) (fun _ h9 => h9) rfl (by decide +kernel) rfl rfl (Nat.le_of_ble_eq_true rfl) dX8_reset_36 (fun H locs hP hD hS => ?_)
  have hP : va_P G vwCl [(aSp, .inr (8, [.ref aMp, .ref aLi, .int 1, .int 0, .int 0, .int 0, .int 0, .long sp_sum, .int sp_count, .int sp_timer, .int sp_mask, .int sp_retired, .int sp_latch])), (aMp, .inr (5, [.ref aWo, .int mp_sets])), (aWo, .inl (cI, 512, .inl z1)), (aLi, .inr (4, [.ref aCo, .ref aVa, .int z2.1, .int z2.2]))] H := hP
  have hD : va_D A [(aSp, .inr (8, [.ref aMp, .ref aLi, .int 1, .int 0, .int 0, .int 0, .int 0, .long sp_sum, .int sp_count, .int sp_timer, .int sp_mask, .int sp_retired, .int sp_latch])), (aMp, .inr (5, [.ref aWo, .int mp_sets])), (aWo, .inl (cI, 512, .inl z1)), (aLi, .inr (4, [.ref aCo, .ref aVa, .int z2.1, .int z2.2]))] := hD
  refine lv_aload_n hx hb dX8_reset_39 rfl (lv_at hl 0 rfl) ?_
  refine lv_lconst (v := 0) hx hb dX8_reset_40 (by decide) ?_
  refine va_put (D := G) (ci := 8) (v := .long 0) (ty := .long) (C := RX8) (T := TX8) (N := 13) hx hb hts iwX8_reset_X8 tyX8 tyX8_ok nmX8 hown hK hP hD hS 0 rfl rfl 7 (by decide) (hts _ lkX8_reset_47) (fun _ h9 => h9) rfl (by decide +kernel) rfl rfl (Nat.le_of_ble_eq_true rfl) dX8_reset_41 (fun H locs hP hD hS => ?_)
  have hP : va_P G vwCl [(aSp, .inr (8, [.ref aMp, .ref aLi, .int 1, .int 0, .int 0, .int 0, .int 0, .long 0, .int sp_count, .int sp_timer, .int sp_mask, .int sp_retired, .int sp_latch])), (aMp, .inr (5, [.ref aWo, .int mp_sets])), (aWo, .inl (cI, 512, .inl z1)), (aLi, .inr (4, [.ref aCo, .ref aVa, .int z2.1, .int z2.2]))] H := hP
  have hD : va_D A [(aSp, .inr (8, [.ref aMp, .ref aLi, .int 1, .int 0, .int 0, .int 0, .int 0, .long 0, .int sp_count, .int sp_timer, .int sp_mask, .int sp_retired, .int sp_latch])), (aMp, .inr (5, [.ref aWo, .int mp_sets])), (aWo, .inl (cI, 512, .inl z1)), (aLi, .inr (4, [.ref aCo, .ref aVa, .int z2.1, .int z2.2]))] := hD
  refine lv_aload_n hx hb dX8_reset_44 rfl (lv_at hl 0 rfl) ?_
  refine lv_iconst (v := 0) hx hb dX8_reset_45 (by decide) ?_
  refine va_put (D := G) (ci := 8) (v := .int 0) (ty := .int) (C := RX8) (T := TX8) (N := 13) hx hb hts iwX8_reset_X8 tyX8 tyX8_ok nmX8 hown hK hP hD hS 0 rfl rfl 8 (by decide) (hts _ lkX8_reset_51) (fun _ h9 => h9) rfl (by decide +kernel) rfl rfl (Nat.le_of_ble_eq_true rfl) dX8_reset_46 (fun H locs hP hD hS => ?_)
  have hP : va_P G vwCl [(aSp, .inr (8, [.ref aMp, .ref aLi, .int 1, .int 0, .int 0, .int 0, .int 0, .long 0, .int 0, .int sp_timer, .int sp_mask, .int sp_retired, .int sp_latch])), (aMp, .inr (5, [.ref aWo, .int mp_sets])), (aWo, .inl (cI, 512, .inl z1)), (aLi, .inr (4, [.ref aCo, .ref aVa, .int z2.1, .int z2.2]))] H := hP
  have hD : va_D A [(aSp, .inr (8, [.ref aMp, .ref aLi, .int 1, .int 0, .int 0, .int 0, .int 0, .long 0, .int 0, .int sp_timer, .int sp_mask, .int sp_retired, .int sp_latch])), (aMp, .inr (5, [.ref aWo, .int mp_sets])), (aWo, .inl (cI, 512, .inl z1)), (aLi, .inr (4, [.ref aCo, .ref aVa, .int z2.1, .int z2.2]))] := hD
  refine lv_aload_n hx hb dX8_reset_49 rfl (lv_at hl 0 rfl) ?_
  refine lv_iconst (v := 0) hx hb dX8_reset_50 (by decide) ?_
  refine va_put (D := G) (ci := 8) (v := .int 0) (ty := .int) (C := RX8) (T := TX8) (N := 13) hx hb hts iwX8_reset_X8 tyX8 tyX8_ok nmX8 hown hK hP hD hS 0 rfl rfl 9 (by decide) (hts _ lkX8_reset_54) (fun _ h9 => h9) rfl (by decide +kernel) rfl rfl (Nat.le_of_ble_eq_true rfl) dX8_reset_51 (fun H locs hP hD hS => ?_)
  have hP : va_P G vwCl [(aSp, .inr (8, [.ref aMp, .ref aLi, .int 1, .int 0, .int 0, .int 0, .int 0, .long 0, .int 0, .int 0, .int sp_mask, .int sp_retired, .int sp_latch])), (aMp, .inr (5, [.ref aWo, .int mp_sets])), (aWo, .inl (cI, 512, .inl z1)), (aLi, .inr (4, [.ref aCo, .ref aVa, .int z2.1, .int z2.2]))] H := hP
  have hD : va_D A [(aSp, .inr (8, [.ref aMp, .ref aLi, .int 1, .int 0, .int 0, .int 0, .int 0, .long 0, .int 0, .int 0, .int sp_mask, .int sp_retired, .int sp_latch])), (aMp, .inr (5, [.ref aWo, .int mp_sets])), (aWo, .inl (cI, 512, .inl z1)), (aLi, .inr (4, [.ref aCo, .ref aVa, .int z2.1, .int z2.2]))] := hD
  refine lv_aload_n hx hb dX8_reset_54 rfl (lv_at hl 0 rfl) ?_
  refine lv_iconst (v := 0) hx hb dX8_reset_55 (by decide) ?_
  refine va_put (D := G) (ci := 8) (v := .int 0) (ty := .int) (C := RX8) (T := TX8) (N := 13) hx hb hts iwX8_reset_X8 tyX8 tyX8_ok nmX8 hown hK hP hD hS 0 rfl rfl 10 (by decide) (hts _ lkX8_reset_57) (fun _ h9 => h9) rfl (by decide +kernel) rfl rfl (Nat.le_of_ble_eq_true rfl) dX8_reset_56 (fun H locs hP hD hS => ?_)
  have hP : va_P G vwCl [(aSp, .inr (8, [.ref aMp, .ref aLi, .int 1, .int 0, .int 0, .int 0, .int 0, .long 0, .int 0, .int 0, .int 0, .int sp_retired, .int sp_latch])), (aMp, .inr (5, [.ref aWo, .int mp_sets])), (aWo, .inl (cI, 512, .inl z1)), (aLi, .inr (4, [.ref aCo, .ref aVa, .int z2.1, .int z2.2]))] H := hP
  have hD : va_D A [(aSp, .inr (8, [.ref aMp, .ref aLi, .int 1, .int 0, .int 0, .int 0, .int 0, .long 0, .int 0, .int 0, .int 0, .int sp_retired, .int sp_latch])), (aMp, .inr (5, [.ref aWo, .int mp_sets])), (aWo, .inl (cI, 512, .inl z1)), (aLi, .inr (4, [.ref aCo, .ref aVa, .int z2.1, .int z2.2]))] := hD
  refine lv_aload_n hx hb dX8_reset_59 rfl (lv_at hl 0 rfl) ?_
  refine lv_iconst (v := 0) hx hb dX8_reset_60 (by decide) ?_
  refine va_put (D := G) (ci := 8) (v := .int 0) (ty := .int) (C := RX8) (T := TX8) (N := 13) hx hb hts iwX8_reset_X8 tyX8 tyX8_ok nmX8 hown hK hP hD hS 0 rfl rfl 11 (by decide) (hts _ lkX8_reset_60) (fun _ h9 => h9) rfl (by decide +kernel) rfl rfl (Nat.le_of_ble_eq_true rfl) dX8_reset_61 (fun H locs hP hD hS => ?_)
  have hP : va_P G vwCl [(aSp, .inr (8, [.ref aMp, .ref aLi, .int 1, .int 0, .int 0, .int 0, .int 0, .long 0, .int 0, .int 0, .int 0, .int 0, .int sp_latch])), (aMp, .inr (5, [.ref aWo, .int mp_sets])), (aWo, .inl (cI, 512, .inl z1)), (aLi, .inr (4, [.ref aCo, .ref aVa, .int z2.1, .int z2.2]))] H := hP
  have hD : va_D A [(aSp, .inr (8, [.ref aMp, .ref aLi, .int 1, .int 0, .int 0, .int 0, .int 0, .long 0, .int 0, .int 0, .int 0, .int 0, .int sp_latch])), (aMp, .inr (5, [.ref aWo, .int mp_sets])), (aWo, .inl (cI, 512, .inl z1)), (aLi, .inr (4, [.ref aCo, .ref aVa, .int z2.1, .int z2.2]))] := hD
  refine lv_aload_n hx hb dX8_reset_64 rfl (lv_at hl 0 rfl) ?_
  refine lv_iconst (v := 0) hx hb dX8_reset_65 (by decide) ?_
  refine va_put (D := G) (ci := 8) (v := .int 0) (ty := .int) (C := RX8) (T := TX8) (N := 13) hx hb hts iwX8_reset_X8 tyX8 tyX8_ok nmX8 hown hK hP hD hS 0 rfl rfl 12 (by decide) (hts _ lkX8_reset_63) (fun _ h9 => h9) rfl (by decide +kernel) rfl rfl (Nat.le_of_ble_eq_true rfl) dX8_reset_66 (fun H locs hP hD hS => ?_)
  have hP : va_P G vwCl [(aSp, .inr (8, [.ref aMp, .ref aLi, .int 1, .int 0, .int 0, .int 0, .int 0, .long 0, .int 0, .int 0, .int 0, .int 0, .int 0])), (aMp, .inr (5, [.ref aWo, .int mp_sets])), (aWo, .inl (cI, 512, .inl z1)), (aLi, .inr (4, [.ref aCo, .ref aVa, .int z2.1, .int z2.2]))] H := hP
  have hD : va_D A [(aSp, .inr (8, [.ref aMp, .ref aLi, .int 1, .int 0, .int 0, .int 0, .int 0, .long 0, .int 0, .int 0, .int 0, .int 0, .int 0])), (aMp, .inr (5, [.ref aWo, .int mp_sets])), (aWo, .inl (cI, 512, .inl z1)), (aLi, .inr (4, [.ref aCo, .ref aVa, .int z2.1, .int z2.2]))] := hD
  have hP := hP.sub (ws' := [(aSp, .inr (8, [.ref aMp, .ref aLi, .int 1, .int 0, .int 0, .int 0, .int 0, .long 0, .int 0, .int 0, .int 0, .int 0, .int 0])), (aMp, .inr (5, [.ref aWo, .int mp_sets])), (aLi, .inr (4, [.ref aCo, .ref aVa, .int z2.1, .int z2.2])), (aWo, .inl (cI, 512, .inl z1))]) [0, 1, 3, 2] rfl
  have hD := hD.sub (ws' := [(aSp, .inr (8, [.ref aMp, .ref aLi, .int 1, .int 0, .int 0, .int 0, .int 0, .long 0, .int 0, .int 0, .int 0, .int 0, .int 0])), (aMp, .inr (5, [.ref aWo, .int mp_sets])), (aLi, .inr (4, [.ref aCo, .ref aVa, .int z2.1, .int z2.2])), (aWo, .inl (cI, 512, .inl z1))]) [0, 1, 3, 2] (by decide) rfl
  exact hret H locs _ ls (1, 0, 0, 0, 0, 0, 0, 0, 0, 0, 0, z2.1, z2.2, z1) dX8_reset_69 (by clear hP hD hS hl; replace hz2 := hz2.symm; subst hz2; replace hz1 := hz1.symm; subst hz1; (first | exact rfl | (delta fX8_reset; exact rfl) | (unfold fX8_reset; dsimp only) | (unfold fX8_reset; simp only []))) trivial hP hD hS
def fX8_timerIsDue (sp_sr : Int32) (sp_timer : Int32) : Int32 :=
  if (sp_sr &&& 2) = 0 then (0) else (if (sp_timer &&& 268435456) = 0 then (0) else (1))
theorem lkX8_timerIsDue_18 : Cond.fieldLink RX8 18 "TwinIssue$Specials" "sr" "I" ∈ wsX8_timerIsDue := by decide +kernel
theorem lkX8_timerIsDue_54 : Cond.fieldLink RX8 54 "TwinIssue$Specials" "timer" "I" ∈ wsX8_timerIsDue := by decide +kernel
theorem lkX8_timerIsDue_84 : Cond.constant RX8 84 (268435456) ∈ wsX8_timerIsDue := by decide +kernel
theorem iwX8_timerIsDue_X8 : ∀ w ∈ wsX80, w ∈ wsX8_timerIsDue := fun _ h => List.mem_cons_of_mem _ (List.mem_append_right _ h)
set_option maxHeartbeats 4000000 in
set_option maxRecDepth 100000 in
theorem mX8_timerIsDue (l : Launch) (G : va_G) (cI cB cP : ClassId) (aSp aMp aLi : Nat) (sp_sr : Int32) (sp_epc : Int32) (sp_esr : Int32) (sp_eea : Int32) (sp_held : Int32) (sp_sum : Int64) (sp_count : Int32) (sp_timer : Int32) (sp_mask : Int32) (sp_retired : Int32) (sp_latch : Int32) (sz : Nat) : kMi (S := Unit) l yX8_timerIsDue wsX8_timerIsDue ({ frames := 0, cells := 0, slots := 0, locals := 0 }) [.ref aSp] G (kTY cI cB cP) sz [(aSp, .inr (8, [.ref aMp, .ref aLi, .int sp_sr, .int sp_epc, .int sp_esr, .int sp_eea, .int sp_held, .long sp_sum, .int sp_count, .int sp_timer, .int sp_mask, .int sp_retired, .int sp_latch]))] (fX8_timerIsDue sp_sr sp_timer, ()) (fun r _ => isB r) (fun _ => [(aSp, .inr (8, [.ref aMp, .ref aLi, .int sp_sr, .int sp_epc, .int sp_esr, .int sp_eea, .int sp_held, .long sp_sum, .int sp_count, .int sp_timer, .int sp_mask, .int sp_retired, .int sp_latch]))]) := by
  refine k_ofz (cc := cX8_timerIsDue) (maxL := 1) (by decide) rfl (Nat.le_of_ble_eq_true rfl) ?_
  intro p e s m args below meth c A ls Q H locs hx hb hml hown hts hin hK hP hD hA hS hl hret
  have hown : s.vm.findClass RX8 = some m.cls := hown
  have hl : lv_has ls 1 [(0, .ref aSp)] := hl
  refine lv_aload_n hx hb dX8_timerIsDue_0 rfl (lv_at hl 0 rfl) ?_
  refine va_get (D := G) (ci := 8) (v := .int sp_sr) (C := RX8) (T := TX8) (N := 13) hx hb hts iwX8_timerIsDue_X8 hown hK hP 0 rfl rfl 2 (by decide) (hts _ lkX8_timerIsDue_18) (fun _ h9 => h9) rfl dX8_timerIsDue_1 ?_
  refine lv_iconst (v := 2) hx hb dX8_timerIsDue_4 (by decide) ?_
  refine lv_iand hx hb dX8_timerIsDue_5 ?_
  refine lv_if_eq (tgt := 23) hx hb dX8_timerIsDue_6 (by decide) (fun c1 => ?_) (fun c1 => ?_)
  · skip
    refine lv_iconst (v := 0) hx hb dX8_timerIsDue_23 (by decide) ?_
    exact hret H locs _ ls 0 () dX8_timerIsDue_24 (by exact congrArg (fun x => (x, ())) (((if_pos c1).trans (rfl))).symm) (Or.inl rfl) (Or.inl rfl) hP hD hS
  · skip
    refine lv_aload_n hx hb dX8_timerIsDue_9 rfl (lv_at hl 0 rfl) ?_
    refine va_get (D := G) (ci := 8) (v := .int sp_timer) (C := RX8) (T := TX8) (N := 13) hx hb hts iwX8_timerIsDue_X8 hown hK hP 0 rfl rfl 9 (by decide) (hts _ lkX8_timerIsDue_54) (fun _ h9 => h9) rfl dX8_timerIsDue_10 ?_
    refine lv_ldc (v := 268435456) hx hb hown (hts _ lkX8_timerIsDue_84) dX8_timerIsDue_13 ?_
    refine lv_iand hx hb dX8_timerIsDue_15 ?_
    refine lv_if_eq (tgt := 23) hx hb dX8_timerIsDue_16 (by decide) (fun c2 => ?_) (fun c2 => ?_)
    · skip
      refine lv_iconst (v := 0) hx hb dX8_timerIsDue_23 (by decide) ?_
      exact hret H locs _ ls 0 () dX8_timerIsDue_24 (by exact congrArg (fun x => (x, ())) (((if_neg c1).trans ((if_pos c2).trans (rfl)))).symm) (Or.inl rfl) (Or.inl rfl) hP hD hS
    · skip
      refine lv_iconst (v := 1) hx hb dX8_timerIsDue_19 (by decide) ?_
      refine lv_goto (tgt := 24) hx hb dX8_timerIsDue_20 (by decide) ?_
      exact hret H locs _ ls 1 () dX8_timerIsDue_24 (by exact congrArg (fun x => (x, ())) (((if_neg c1).trans ((if_neg c2).trans (rfl)))).symm) (Or.inr rfl) (Or.inr rfl) hP hD hS
def fX8_status (sp_held : Int32) (sp_retired : Int32) (sp_latch : Int32) (li_passed : Int32) (li_size : Int32) (co : Nat → Int32) (va : Nat → Int32) : Int32 × Int32 :=
  (let z1 := fX4_at li_passed li_size co va sp_retired; ((z1.1 &&& (sp_latch ^^^ (-1))) ||| (sp_held &&& sp_latch), z1.2))
theorem lkX8_status_12 : Cond.fieldLink RX8 12 "TwinIssue$Specials" "lines" "LTwinIssue$Lines;" ∈ wsX8_status := by decide +kernel
theorem lkX8_status_44 : Cond.fieldLink RX8 44 "TwinIssue$Specials" "held" "I" ∈ wsX8_status := by decide +kernel
theorem lkX8_status_60 : Cond.fieldLink RX8 60 "TwinIssue$Specials" "retired" "I" ∈ wsX8_status := by decide +kernel
theorem lkX8_status_63 : Cond.fieldLink RX8 63 "TwinIssue$Specials" "latch" "I" ∈ wsX8_status := by decide +kernel
theorem iwX8_status_X8 : ∀ w ∈ wsX80, w ∈ wsX8_status := fun _ h => List.mem_cons_of_mem _ (List.mem_append_left _ (List.mem_append_right _ h))
def sX8_status (sp_retired : Int32) (li_passed : Int32) (li_size : Int32) (co : Nat → Int32) (va : Nat → Int32) : Prop :=
  (sX4_at li_passed li_size co va sp_retired) ∧ ((∀ z1, z1 = fX4_at li_passed li_size co va sp_retired → True))
set_option maxHeartbeats 4000000 in
set_option maxRecDepth 100000 in
theorem mX8_status (l : Launch) (G : va_G) (cI cB cP : ClassId) (aSp aMp aLi aCo aVa : Nat) (sp_sr : Int32) (sp_epc : Int32) (sp_esr : Int32) (sp_eea : Int32) (sp_held : Int32) (sp_sum : Int64) (sp_count : Int32) (sp_timer : Int32) (sp_mask : Int32) (sp_retired : Int32) (sp_latch : Int32) (li_passed : Int32) (li_size : Int32) (co : Nat → Int32) (va : Nat → Int32) (sz : Nat) (hs : sX8_status sp_retired li_passed li_size co va) : kMi (S := Int32) l yX8_status wsX8_status ({ frames := 1, cells := 0, slots := 0, locals := 21 }) [.ref aSp] G (kTY cI cB cP) sz [(aSp, .inr (8, [.ref aMp, .ref aLi, .int sp_sr, .int sp_epc, .int sp_esr, .int sp_eea, .int sp_held, .long sp_sum, .int sp_count, .int sp_timer, .int sp_mask, .int sp_retired, .int sp_latch])), (aLi, .inr (4, [.ref aCo, .ref aVa, .int li_passed, .int li_size])), (aCo, .inl (cI, 32, .inl co)), (aVa, .inl (cI, 32, .inl va))] (fX8_status sp_held sp_retired sp_latch li_passed li_size co va) (fun _ _ => True) (fun u => [(aSp, .inr (8, [.ref aMp, .ref aLi, .int sp_sr, .int sp_epc, .int sp_esr, .int sp_eea, .int sp_held, .long sp_sum, .int sp_count, .int sp_timer, .int sp_mask, .int sp_retired, .int sp_latch])), (aLi, .inr (4, [.ref aCo, .ref aVa, .int u, .int li_size])), (aCo, .inl (cI, 32, .inl co)), (aVa, .inl (cI, 32, .inl va))]) := by
  refine k_ofi (cc := cX8_status) (maxL := 1) (by decide) rfl (Nat.le_of_ble_eq_true rfl) ?_
  intro p e s m args below meth c A ls Q H locs hx hb hml hown hts hin hK hP hD hA hS hl hret
  have hown : s.vm.findClass RX8 = some m.cls := hown
  have hl : lv_has ls 1 [(0, .ref aSp)] := hl
  unfold sX8_status at hs
  refine lv_aload_n hx hb dX8_status_0 rfl (lv_at hl 0 rfl) ?_
  refine va_get (D := G) (ci := 8) (v := .ref aLi) (C := RX8) (T := TX8) (N := 13) hx hb hts iwX8_status_X8 hown hK hP 0 rfl rfl 1 (by decide) (hts _ lkX8_status_12) (fun _ h9 => h9) rfl dX8_status_1 ?_
  refine lv_aload_n hx hb dX8_status_4 rfl (lv_at hl 0 rfl) ?_
  refine va_get (D := G) (ci := 8) (v := .int sp_retired) (C := RX8) (T := TX8) (N := 13) hx hb hts iwX8_status_X8 hown hK hP 0 rfl rfl 11 (by decide) (hts _ lkX8_status_60) (fun _ h9 => h9) rfl dX8_status_5 ?_
  obtain ⟨o1, hs⟩ := hs
  refine k_iV (As := [.int sp_retired]) (rest := []) (wc := [(aLi, .inr (4, [.ref aCo, .ref aVa, .int li_passed, .int li_size])), (aCo, .inl (cI, 32, .inl co)), (aVa, .inl (cI, 32, .inl va))]) (wr := [(aSp, .inr (8, [.ref aMp, .ref aLi, .int sp_sr, .int sp_epc, .int sp_esr, .int sp_eea, .int sp_held, .long sp_sum, .int sp_count, .int sp_timer, .int sp_mask, .int sp_retired, .int sp_latch]))]) ⟨hx, hb, hml, hown, hts⟩ hK hP hD hS hA [1, 2, 3] [0] rfl rfl rfl rfl (by decide) (mX4_at l G cI cB cP aLi aCo aVa li_passed li_size co va H.size sp_retired o1) (cwV 1 hts gX8_status_X4_at rfl rfl rfl (by decide +kernel) ⟨Nat.le_of_ble_eq_true rfl, Nat.le_of_ble_eq_true rfl⟩) 1 4 rfl rfl rfl rfl hl.1 rfl (Nat.le_of_ble_eq_true rfl) dX8_status_8 ⟨Nat.le_of_ble_eq_true rfl, Nat.le_of_ble_eq_true rfl⟩ (fun z1 H locs hz1 hEz1 hP hD hS => ?_)
  have hs := hs z1 hz1
  have hP : va_P G vwCl [(aSp, .inr (8, [.ref aMp, .ref aLi, .int sp_sr, .int sp_epc, .int sp_esr, .int sp_eea, .int sp_held, .long sp_sum, .int sp_count, .int sp_timer, .int sp_mask, .int sp_retired, .int sp_latch])), (aLi, .inr (4, [.ref aCo, .ref aVa, .int z1.2, .int li_size])), (aCo, .inl (cI, 32, .inl co)), (aVa, .inl (cI, 32, .inl va))] H := hP
  have hD : va_D A [(aSp, .inr (8, [.ref aMp, .ref aLi, .int sp_sr, .int sp_epc, .int sp_esr, .int sp_eea, .int sp_held, .long sp_sum, .int sp_count, .int sp_timer, .int sp_mask, .int sp_retired, .int sp_latch])), (aLi, .inr (4, [.ref aCo, .ref aVa, .int z1.2, .int li_size])), (aCo, .inl (cI, 32, .inl co)), (aVa, .inl (cI, 32, .inl va))] := hD
  refine lv_aload_n hx hb dX8_status_11 rfl (lv_at hl 0 rfl) ?_
  refine va_get (D := G) (ci := 8) (v := .int sp_latch) (C := RX8) (T := TX8) (N := 13) hx hb hts iwX8_status_X8 hown hK hP 0 rfl rfl 12 (by decide) (hts _ lkX8_status_63) (fun _ h9 => h9) rfl dX8_status_12 ?_
  refine lv_iconst (v := (-1)) hx hb dX8_status_15 (by decide) ?_
  refine lv_ixor hx hb dX8_status_16 ?_
  refine lv_iand hx hb dX8_status_17 ?_
  refine lv_aload_n hx hb dX8_status_18 rfl (lv_at hl 0 rfl) ?_
  refine va_get (D := G) (ci := 8) (v := .int sp_held) (C := RX8) (T := TX8) (N := 13) hx hb hts iwX8_status_X8 hown hK hP 0 rfl rfl 6 (by decide) (hts _ lkX8_status_44) (fun _ h9 => h9) rfl dX8_status_19 ?_
  refine lv_aload_n hx hb dX8_status_22 rfl (lv_at hl 0 rfl) ?_
  refine va_get (D := G) (ci := 8) (v := .int sp_latch) (C := RX8) (T := TX8) (N := 13) hx hb hts iwX8_status_X8 hown hK hP 0 rfl rfl 12 (by decide) (hts _ lkX8_status_63) (fun _ h9 => h9) rfl dX8_status_23 ?_
  refine lv_iand hx hb dX8_status_26 ?_
  refine lv_ior hx hb dX8_status_27 ?_
  exact hret H locs _ ls ((z1.1 &&& (sp_latch ^^^ (-1))) ||| (sp_held &&& sp_latch)) z1.2 dX8_status_28 (by clear hP hD hS hl; replace hz1 := hz1.symm; subst hz1; (first | exact rfl | (delta fX8_status; exact rfl) | (unfold fX8_status; dsimp only) | (unfold fX8_status; simp only []))) trivial hP hD hS
def fX8_lineIsDue (sp_sr : Int32) (sp_held : Int32) (sp_mask : Int32) (sp_retired : Int32) (sp_latch : Int32) (li_passed : Int32) (li_size : Int32) (co : Nat → Int32) (va : Nat → Int32) : Int32 × Int32 :=
  if (sp_sr &&& 4) = 0 then ((0, li_passed)) else ((let z1 := fX8_status sp_held sp_retired sp_latch li_passed li_size co va; if (z1.1 &&& sp_mask) = 0 then ((0, z1.2)) else ((1, z1.2))))
theorem lkX8_lineIsDue_18 : Cond.fieldLink RX8 18 "TwinIssue$Specials" "sr" "I" ∈ wsX8_lineIsDue := by decide +kernel
theorem lkX8_lineIsDue_57 : Cond.fieldLink RX8 57 "TwinIssue$Specials" "mask" "I" ∈ wsX8_lineIsDue := by decide +kernel
theorem iwX8_lineIsDue_X8 : ∀ w ∈ wsX80, w ∈ wsX8_lineIsDue := fun _ h => List.mem_cons_of_mem _ (List.mem_append_left _ (List.mem_append_right _ h))
def sX8_lineIsDue (sp_sr : Int32) (sp_held : Int32) (sp_mask : Int32) (sp_retired : Int32) (sp_latch : Int32) (li_passed : Int32) (li_size : Int32) (co : Nat → Int32) (va : Nat → Int32) : Prop :=
  ((sp_sr &&& 4) = 0 → True) ∧ (¬ ((sp_sr &&& 4) = 0) → ((sX8_status sp_retired li_passed li_size co va) ∧ ((∀ z1, z1 = fX8_status sp_held sp_retired sp_latch li_passed li_size co va → (((z1.1 &&& sp_mask) = 0 → True) ∧ (¬ ((z1.1 &&& sp_mask) = 0) → True))))))
set_option maxHeartbeats 4000000 in
set_option maxRecDepth 100000 in
theorem mX8_lineIsDue (l : Launch) (G : va_G) (cI cB cP : ClassId) (aSp aMp aLi aCo aVa : Nat) (sp_sr : Int32) (sp_epc : Int32) (sp_esr : Int32) (sp_eea : Int32) (sp_held : Int32) (sp_sum : Int64) (sp_count : Int32) (sp_timer : Int32) (sp_mask : Int32) (sp_retired : Int32) (sp_latch : Int32) (li_passed : Int32) (li_size : Int32) (co : Nat → Int32) (va : Nat → Int32) (sz : Nat) (hs : sX8_lineIsDue sp_sr sp_held sp_mask sp_retired sp_latch li_passed li_size co va) : kMi (S := Int32) l yX8_lineIsDue wsX8_lineIsDue ({ frames := 2, cells := 0, slots := 0, locals := 41 }) [.ref aSp] G (kTY cI cB cP) sz [(aSp, .inr (8, [.ref aMp, .ref aLi, .int sp_sr, .int sp_epc, .int sp_esr, .int sp_eea, .int sp_held, .long sp_sum, .int sp_count, .int sp_timer, .int sp_mask, .int sp_retired, .int sp_latch])), (aLi, .inr (4, [.ref aCo, .ref aVa, .int li_passed, .int li_size])), (aCo, .inl (cI, 32, .inl co)), (aVa, .inl (cI, 32, .inl va))] (fX8_lineIsDue sp_sr sp_held sp_mask sp_retired sp_latch li_passed li_size co va) (fun r _ => isB r) (fun u => [(aSp, .inr (8, [.ref aMp, .ref aLi, .int sp_sr, .int sp_epc, .int sp_esr, .int sp_eea, .int sp_held, .long sp_sum, .int sp_count, .int sp_timer, .int sp_mask, .int sp_retired, .int sp_latch])), (aLi, .inr (4, [.ref aCo, .ref aVa, .int u, .int li_size])), (aCo, .inl (cI, 32, .inl co)), (aVa, .inl (cI, 32, .inl va))]) := by
  refine k_ofz (cc := cX8_lineIsDue) (maxL := 1) (by decide) rfl (Nat.le_of_ble_eq_true rfl) ?_
  intro p e s m args below meth c A ls Q H locs hx hb hml hown hts hin hK hP hD hA hS hl hret
  have hown : s.vm.findClass RX8 = some m.cls := hown
  have hl : lv_has ls 1 [(0, .ref aSp)] := hl
  unfold sX8_lineIsDue at hs
  refine lv_aload_n hx hb dX8_lineIsDue_0 rfl (lv_at hl 0 rfl) ?_
  refine va_get (D := G) (ci := 8) (v := .int sp_sr) (C := RX8) (T := TX8) (N := 13) hx hb hts iwX8_lineIsDue_X8 hown hK hP 0 rfl rfl 2 (by decide) (hts _ lkX8_lineIsDue_18) (fun _ h9 => h9) rfl dX8_lineIsDue_1 ?_
  refine lv_iconst (v := 4) hx hb dX8_lineIsDue_4 (by decide) ?_
  refine lv_iand hx hb dX8_lineIsDue_5 ?_
  refine lv_if_eq (tgt := 25) hx hb dX8_lineIsDue_6 (by decide) (fun c1 => ?_) (fun c1 => ?_)
  · have hs := hs.1 c1
    refine lv_iconst (v := 0) hx hb dX8_lineIsDue_25 (by decide) ?_
    exact hret H locs _ ls 0 li_passed dX8_lineIsDue_26 ((if_pos c1).trans (rfl)).symm (Or.inl rfl) (Or.inl rfl) hP hD hS
  · have hs := hs.2 c1
    refine lv_aload_n hx hb dX8_lineIsDue_9 rfl (lv_at hl 0 rfl) ?_
    obtain ⟨o1, hs⟩ := hs
    refine k_iV (As := []) (rest := []) (wc := [(aSp, .inr (8, [.ref aMp, .ref aLi, .int sp_sr, .int sp_epc, .int sp_esr, .int sp_eea, .int sp_held, .long sp_sum, .int sp_count, .int sp_timer, .int sp_mask, .int sp_retired, .int sp_latch])), (aLi, .inr (4, [.ref aCo, .ref aVa, .int li_passed, .int li_size])), (aCo, .inl (cI, 32, .inl co)), (aVa, .inl (cI, 32, .inl va))]) (wr := []) ⟨hx, hb, hml, hown, hts⟩ hK hP hD hS hA [0, 1, 2, 3] [] rfl rfl rfl rfl (by decide) (mX8_status l G cI cB cP aSp aMp aLi aCo aVa sp_sr sp_epc sp_esr sp_eea sp_held sp_sum sp_count sp_timer sp_mask sp_retired sp_latch li_passed li_size co va H.size  o1) (cwV 0 hts gX8_lineIsDue_X8_status rfl rfl rfl (by decide +kernel) ⟨Nat.le_of_ble_eq_true rfl, Nat.le_of_ble_eq_true rfl⟩) 0 8 rfl rfl rfl rfl hl.1 rfl (Nat.le_of_ble_eq_true rfl) dX8_lineIsDue_10 ⟨Nat.le_of_ble_eq_true rfl, Nat.le_of_ble_eq_true rfl⟩ (fun z1 H locs hz1 hEz1 hP hD hS => ?_)
    have hs := hs z1 hz1
    have hP : va_P G vwCl [(aSp, .inr (8, [.ref aMp, .ref aLi, .int sp_sr, .int sp_epc, .int sp_esr, .int sp_eea, .int sp_held, .long sp_sum, .int sp_count, .int sp_timer, .int sp_mask, .int sp_retired, .int sp_latch])), (aLi, .inr (4, [.ref aCo, .ref aVa, .int z1.2, .int li_size])), (aCo, .inl (cI, 32, .inl co)), (aVa, .inl (cI, 32, .inl va))] H := hP
    have hD : va_D A [(aSp, .inr (8, [.ref aMp, .ref aLi, .int sp_sr, .int sp_epc, .int sp_esr, .int sp_eea, .int sp_held, .long sp_sum, .int sp_count, .int sp_timer, .int sp_mask, .int sp_retired, .int sp_latch])), (aLi, .inr (4, [.ref aCo, .ref aVa, .int z1.2, .int li_size])), (aCo, .inl (cI, 32, .inl co)), (aVa, .inl (cI, 32, .inl va))] := hD
    refine lv_aload_n hx hb dX8_lineIsDue_13 rfl (lv_at hl 0 rfl) ?_
    refine va_get (D := G) (ci := 8) (v := .int sp_mask) (C := RX8) (T := TX8) (N := 13) hx hb hts iwX8_lineIsDue_X8 hown hK hP 0 rfl rfl 10 (by decide) (hts _ lkX8_lineIsDue_57) (fun _ h9 => h9) rfl dX8_lineIsDue_14 ?_
    refine lv_iand hx hb dX8_lineIsDue_17 ?_
    refine lv_if_eq (tgt := 25) hx hb dX8_lineIsDue_18 (by decide) (fun c2 => ?_) (fun c2 => ?_)
    · have hs := hs.1 c2
      refine lv_iconst (v := 0) hx hb dX8_lineIsDue_25 (by decide) ?_
      exact hret H locs _ ls 0 z1.2 dX8_lineIsDue_26 (by clear hP hD hS hl; replace hz1 := hz1.symm; subst hz1; exact (((if_neg c1).trans ((if_pos c2).trans (rfl)))).symm) (Or.inl rfl) (Or.inl rfl) hP hD hS
    · have hs := hs.2 c2
      refine lv_iconst (v := 1) hx hb dX8_lineIsDue_21 (by decide) ?_
      refine lv_goto (tgt := 26) hx hb dX8_lineIsDue_22 (by decide) ?_
      exact hret H locs _ ls 1 z1.2 dX8_lineIsDue_26 (by clear hP hD hS hl; replace hz1 := hz1.symm; subst hz1; exact (((if_neg c1).trans ((if_neg c2).trans (rfl)))).symm) (Or.inr rfl) (Or.inr rfl) hP hD hS
def fX8_read (sp_sr : Int32) (sp_epc : Int32) (sp_esr : Int32) (sp_eea : Int32) (sp_held : Int32) (sp_sum : Int64) (sp_count : Int32) (sp_timer : Int32) (sp_mask : Int32) (sp_retired : Int32) (sp_latch : Int32) (mp_sets : Int32) (li_passed : Int32) (li_size : Int32) (wo : Nat → Int32) (co : Nat → Int32) (va : Nat → Int32) (p0 : Int32) : Int32 × Int32 :=
  if p0 = 0 then ((sp_sr, li_passed)) else (if p0 = 1 then ((sp_epc, li_passed)) else (if p0 = 2 then ((sp_esr, li_passed)) else (if p0 = 3 then ((sp_eea, li_passed)) else (if p0 = 4 then ((sp_count, li_passed)) else (if p0 = 5 then ((sp_timer, li_passed)) else (if p0 = 6 then ((sp_mask, li_passed)) else (if p0 = 7 then ((let z1 := fX8_status sp_held sp_retired sp_latch li_passed li_size co va; (z1.1, z1.2))) else (if p0 = 8 then ((sp_retired, li_passed)) else (if p0 = 9 then ((sp_latch, li_passed)) else (if p0 = 10 then (((jlushr sp_sum 32).toInt32, li_passed)) else (if p0 = 11 then ((sp_sum.toInt32, li_passed)) else ((let z2 := (fX5_get mp_sets wo p0, ()); (z2.1, li_passed))))))))))))))
theorem lkX8_read_18 : Cond.fieldLink RX8 18 "TwinIssue$Specials" "sr" "I" ∈ wsX8_read := by decide +kernel
theorem lkX8_read_27 : Cond.fieldLink RX8 27 "TwinIssue$Specials" "maps" "LTwinIssue$Maps;" ∈ wsX8_read := by decide +kernel
theorem lkX8_read_35 : Cond.fieldLink RX8 35 "TwinIssue$Specials" "epc" "I" ∈ wsX8_read := by decide +kernel
theorem lkX8_read_38 : Cond.fieldLink RX8 38 "TwinIssue$Specials" "esr" "I" ∈ wsX8_read := by decide +kernel
theorem lkX8_read_41 : Cond.fieldLink RX8 41 "TwinIssue$Specials" "eea" "I" ∈ wsX8_read := by decide +kernel
theorem lkX8_read_47 : Cond.fieldLink RX8 47 "TwinIssue$Specials" "sum" "J" ∈ wsX8_read := by decide +kernel
theorem lkX8_read_51 : Cond.fieldLink RX8 51 "TwinIssue$Specials" "count" "I" ∈ wsX8_read := by decide +kernel
theorem lkX8_read_54 : Cond.fieldLink RX8 54 "TwinIssue$Specials" "timer" "I" ∈ wsX8_read := by decide +kernel
theorem lkX8_read_57 : Cond.fieldLink RX8 57 "TwinIssue$Specials" "mask" "I" ∈ wsX8_read := by decide +kernel
theorem lkX8_read_60 : Cond.fieldLink RX8 60 "TwinIssue$Specials" "retired" "I" ∈ wsX8_read := by decide +kernel
theorem lkX8_read_63 : Cond.fieldLink RX8 63 "TwinIssue$Specials" "latch" "I" ∈ wsX8_read := by decide +kernel
theorem iwX8_read_X8 : ∀ w ∈ wsX80, w ∈ wsX8_read := fun _ h => List.mem_cons_of_mem _ (List.mem_append_left _ (List.mem_append_left _ (List.mem_append_right _ h)))
def sX8_read (sp_held : Int32) (sp_retired : Int32) (sp_latch : Int32) (mp_sets : Int32) (li_passed : Int32) (li_size : Int32) (wo : Nat → Int32) (co : Nat → Int32) (va : Nat → Int32) (p0 : Int32) : Prop :=
  (p0 = 0 → True) ∧ (¬ (p0 = 0) → ((p0 = 1 → True) ∧ (¬ (p0 = 1) → ((p0 = 2 → True) ∧ (¬ (p0 = 2) → ((p0 = 3 → True) ∧ (¬ (p0 = 3) → ((p0 = 4 → True) ∧ (¬ (p0 = 4) → ((p0 = 5 → True) ∧ (¬ (p0 = 5) → ((p0 = 6 → True) ∧ (¬ (p0 = 6) → ((p0 = 7 → ((sX8_status sp_retired li_passed li_size co va) ∧ ((∀ z1, z1 = fX8_status sp_held sp_retired sp_latch li_passed li_size co va → True)))) ∧ (¬ (p0 = 7) → ((p0 = 8 → True) ∧ (¬ (p0 = 8) → ((p0 = 9 → True) ∧ (¬ (p0 = 9) → ((p0 = 10 → True) ∧ (¬ (p0 = 10) → ((p0 = 11 → True) ∧ (¬ (p0 = 11) → ((sX5_get mp_sets p0) ∧ ((∀ z2, z2 = (fX5_get mp_sets wo p0, ()) → True))))))))))))))))))))))))))
set_option maxHeartbeats 4000000 in
set_option maxRecDepth 100000 in
theorem mX8_read (l : Launch) (G : va_G) (cI cB cP : ClassId) (aSp aMp aLi aWo aCo aVa : Nat) (sp_sr : Int32) (sp_epc : Int32) (sp_esr : Int32) (sp_eea : Int32) (sp_held : Int32) (sp_sum : Int64) (sp_count : Int32) (sp_timer : Int32) (sp_mask : Int32) (sp_retired : Int32) (sp_latch : Int32) (mp_sets : Int32) (li_passed : Int32) (li_size : Int32) (wo : Nat → Int32) (co : Nat → Int32) (va : Nat → Int32) (sz : Nat) (p0 : Int32) (hs : sX8_read sp_held sp_retired sp_latch mp_sets li_passed li_size wo co va p0) : kMi (S := Int32) l yX8_read wsX8_read ({ frames := 2, cells := 0, slots := 0, locals := 43 }) [.ref aSp, .int p0] G (kTY cI cB cP) sz [(aSp, .inr (8, [.ref aMp, .ref aLi, .int sp_sr, .int sp_epc, .int sp_esr, .int sp_eea, .int sp_held, .long sp_sum, .int sp_count, .int sp_timer, .int sp_mask, .int sp_retired, .int sp_latch])), (aMp, .inr (5, [.ref aWo, .int mp_sets])), (aLi, .inr (4, [.ref aCo, .ref aVa, .int li_passed, .int li_size])), (aWo, .inl (cI, 512, .inl wo)), (aCo, .inl (cI, 32, .inl co)), (aVa, .inl (cI, 32, .inl va))] (fX8_read sp_sr sp_epc sp_esr sp_eea sp_held sp_sum sp_count sp_timer sp_mask sp_retired sp_latch mp_sets li_passed li_size wo co va p0) (fun _ _ => True) (fun u => [(aSp, .inr (8, [.ref aMp, .ref aLi, .int sp_sr, .int sp_epc, .int sp_esr, .int sp_eea, .int sp_held, .long sp_sum, .int sp_count, .int sp_timer, .int sp_mask, .int sp_retired, .int sp_latch])), (aMp, .inr (5, [.ref aWo, .int mp_sets])), (aLi, .inr (4, [.ref aCo, .ref aVa, .int u, .int li_size])), (aWo, .inl (cI, 512, .inl wo)), (aCo, .inl (cI, 32, .inl co)), (aVa, .inl (cI, 32, .inl va))]) := by
  refine k_ofi (cc := cX8_read) (maxL := 2) (by decide) rfl (Nat.le_of_ble_eq_true rfl) ?_
  intro p e s m args below meth c A ls Q H locs hx hb hml hown hts hin hK hP hD hA hS hl hret
  have hown : s.vm.findClass RX8 = some m.cls := hown
  have hl : lv_has ls 2 [(0, .ref aSp), (1, .int p0)] := hl
  unfold sX8_read at hs
  refine lv_iload_n hx hb dX8_read_0 rfl (lv_at hl 1 rfl) ?_
  by_cases c1 : p0 = 0
  · have hs := hs.1 c1
    refine k_tab (tgt := 64) hx hb dX8_read_1 c1 (by decide) (by decide) rfl (by decide) ?_
    refine lv_aload_n hx hb dX8_read_64 rfl (lv_at hl 0 rfl) ?_
    refine va_get (D := G) (ci := 8) (v := .int sp_sr) (C := RX8) (T := TX8) (N := 13) hx hb hts iwX8_read_X8 hown hK hP 0 rfl rfl 2 (by decide) (hts _ lkX8_read_18) (fun _ h9 => h9) rfl dX8_read_65 ?_
    exact hret H locs _ ls sp_sr li_passed dX8_read_68 ((if_pos c1).trans (rfl)).symm trivial hP hD hS
  have hs := hs.2 c1
  by_cases c2 : p0 = 1
  · have hs := hs.1 c2
    refine k_tab (tgt := 69) hx hb dX8_read_1 c2 (by decide) (by decide) rfl (by decide) ?_
    refine lv_aload_n hx hb dX8_read_69 rfl (lv_at hl 0 rfl) ?_
    refine va_get (D := G) (ci := 8) (v := .int sp_epc) (C := RX8) (T := TX8) (N := 13) hx hb hts iwX8_read_X8 hown hK hP 0 rfl rfl 3 (by decide) (hts _ lkX8_read_35) (fun _ h9 => h9) rfl dX8_read_70 ?_
    exact hret H locs _ ls sp_epc li_passed dX8_read_73 ((if_neg c1).trans ((if_pos c2).trans (rfl))).symm trivial hP hD hS
  have hs := hs.2 c2
  by_cases c3 : p0 = 2
  · have hs := hs.1 c3
    refine k_tab (tgt := 74) hx hb dX8_read_1 c3 (by decide) (by decide) rfl (by decide) ?_
    refine lv_aload_n hx hb dX8_read_74 rfl (lv_at hl 0 rfl) ?_
    refine va_get (D := G) (ci := 8) (v := .int sp_esr) (C := RX8) (T := TX8) (N := 13) hx hb hts iwX8_read_X8 hown hK hP 0 rfl rfl 4 (by decide) (hts _ lkX8_read_38) (fun _ h9 => h9) rfl dX8_read_75 ?_
    exact hret H locs _ ls sp_esr li_passed dX8_read_78 ((if_neg c1).trans ((if_neg c2).trans ((if_pos c3).trans (rfl)))).symm trivial hP hD hS
  have hs := hs.2 c3
  by_cases c4 : p0 = 3
  · have hs := hs.1 c4
    refine k_tab (tgt := 79) hx hb dX8_read_1 c4 (by decide) (by decide) rfl (by decide) ?_
    refine lv_aload_n hx hb dX8_read_79 rfl (lv_at hl 0 rfl) ?_
    refine va_get (D := G) (ci := 8) (v := .int sp_eea) (C := RX8) (T := TX8) (N := 13) hx hb hts iwX8_read_X8 hown hK hP 0 rfl rfl 5 (by decide) (hts _ lkX8_read_41) (fun _ h9 => h9) rfl dX8_read_80 ?_
    exact hret H locs _ ls sp_eea li_passed dX8_read_83 ((if_neg c1).trans ((if_neg c2).trans ((if_neg c3).trans ((if_pos c4).trans (rfl))))).symm trivial hP hD hS
  have hs := hs.2 c4
  by_cases c5 : p0 = 4
  · have hs := hs.1 c5
    refine k_tab (tgt := 84) hx hb dX8_read_1 c5 (by decide) (by decide) rfl (by decide) ?_
    refine lv_aload_n hx hb dX8_read_84 rfl (lv_at hl 0 rfl) ?_
    refine va_get (D := G) (ci := 8) (v := .int sp_count) (C := RX8) (T := TX8) (N := 13) hx hb hts iwX8_read_X8 hown hK hP 0 rfl rfl 8 (by decide) (hts _ lkX8_read_51) (fun _ h9 => h9) rfl dX8_read_85 ?_
    exact hret H locs _ ls sp_count li_passed dX8_read_88 ((if_neg c1).trans ((if_neg c2).trans ((if_neg c3).trans ((if_neg c4).trans ((if_pos c5).trans (rfl)))))).symm trivial hP hD hS
  have hs := hs.2 c5
  by_cases c6 : p0 = 5
  · have hs := hs.1 c6
    refine k_tab (tgt := 89) hx hb dX8_read_1 c6 (by decide) (by decide) rfl (by decide) ?_
    refine lv_aload_n hx hb dX8_read_89 rfl (lv_at hl 0 rfl) ?_
    refine va_get (D := G) (ci := 8) (v := .int sp_timer) (C := RX8) (T := TX8) (N := 13) hx hb hts iwX8_read_X8 hown hK hP 0 rfl rfl 9 (by decide) (hts _ lkX8_read_54) (fun _ h9 => h9) rfl dX8_read_90 ?_
    exact hret H locs _ ls sp_timer li_passed dX8_read_93 ((if_neg c1).trans ((if_neg c2).trans ((if_neg c3).trans ((if_neg c4).trans ((if_neg c5).trans ((if_pos c6).trans (rfl))))))).symm trivial hP hD hS
  have hs := hs.2 c6
  by_cases c7 : p0 = 6
  · have hs := hs.1 c7
    refine k_tab (tgt := 94) hx hb dX8_read_1 c7 (by decide) (by decide) rfl (by decide) ?_
    refine lv_aload_n hx hb dX8_read_94 rfl (lv_at hl 0 rfl) ?_
    refine va_get (D := G) (ci := 8) (v := .int sp_mask) (C := RX8) (T := TX8) (N := 13) hx hb hts iwX8_read_X8 hown hK hP 0 rfl rfl 10 (by decide) (hts _ lkX8_read_57) (fun _ h9 => h9) rfl dX8_read_95 ?_
    exact hret H locs _ ls sp_mask li_passed dX8_read_98 ((if_neg c1).trans ((if_neg c2).trans ((if_neg c3).trans ((if_neg c4).trans ((if_neg c5).trans ((if_neg c6).trans ((if_pos c7).trans (rfl)))))))).symm trivial hP hD hS
  have hs := hs.2 c7
  by_cases c8 : p0 = 7
  · have hs := hs.1 c8
    refine k_tab (tgt := 99) hx hb dX8_read_1 c8 (by decide) (by decide) rfl (by decide) ?_
    refine lv_aload_n hx hb dX8_read_99 rfl (lv_at hl 0 rfl) ?_
    obtain ⟨o1, hs⟩ := hs
    refine k_iV (As := []) (rest := []) (wc := [(aSp, .inr (8, [.ref aMp, .ref aLi, .int sp_sr, .int sp_epc, .int sp_esr, .int sp_eea, .int sp_held, .long sp_sum, .int sp_count, .int sp_timer, .int sp_mask, .int sp_retired, .int sp_latch])), (aLi, .inr (4, [.ref aCo, .ref aVa, .int li_passed, .int li_size])), (aCo, .inl (cI, 32, .inl co)), (aVa, .inl (cI, 32, .inl va))]) (wr := [(aMp, .inr (5, [.ref aWo, .int mp_sets])), (aWo, .inl (cI, 512, .inl wo))]) ⟨hx, hb, hml, hown, hts⟩ hK hP hD hS hA [0, 2, 4, 5] [1, 3] rfl rfl rfl rfl (by decide) (mX8_status l G cI cB cP aSp aMp aLi aCo aVa sp_sr sp_epc sp_esr sp_eea sp_held sp_sum sp_count sp_timer sp_mask sp_retired sp_latch li_passed li_size co va H.size  o1) (cwV 0 hts gX8_read_X8_status rfl rfl rfl (by decide +kernel) ⟨Nat.le_of_ble_eq_true rfl, Nat.le_of_ble_eq_true rfl⟩) 0 8 rfl rfl rfl rfl hl.1 rfl (Nat.le_of_ble_eq_true rfl) dX8_read_100 ⟨Nat.le_of_ble_eq_true rfl, Nat.le_of_ble_eq_true rfl⟩ (fun z1 H locs hz1 hEz1 hP hD hS => ?_)
    have hs := hs z1 hz1
    have hP : va_P G vwCl [(aMp, .inr (5, [.ref aWo, .int mp_sets])), (aWo, .inl (cI, 512, .inl wo)), (aSp, .inr (8, [.ref aMp, .ref aLi, .int sp_sr, .int sp_epc, .int sp_esr, .int sp_eea, .int sp_held, .long sp_sum, .int sp_count, .int sp_timer, .int sp_mask, .int sp_retired, .int sp_latch])), (aLi, .inr (4, [.ref aCo, .ref aVa, .int z1.2, .int li_size])), (aCo, .inl (cI, 32, .inl co)), (aVa, .inl (cI, 32, .inl va))] H := hP
    have hD : va_D A [(aMp, .inr (5, [.ref aWo, .int mp_sets])), (aWo, .inl (cI, 512, .inl wo)), (aSp, .inr (8, [.ref aMp, .ref aLi, .int sp_sr, .int sp_epc, .int sp_esr, .int sp_eea, .int sp_held, .long sp_sum, .int sp_count, .int sp_timer, .int sp_mask, .int sp_retired, .int sp_latch])), (aLi, .inr (4, [.ref aCo, .ref aVa, .int z1.2, .int li_size])), (aCo, .inl (cI, 32, .inl co)), (aVa, .inl (cI, 32, .inl va))] := hD
    have hP := hP.sub (ws' := [(aSp, .inr (8, [.ref aMp, .ref aLi, .int sp_sr, .int sp_epc, .int sp_esr, .int sp_eea, .int sp_held, .long sp_sum, .int sp_count, .int sp_timer, .int sp_mask, .int sp_retired, .int sp_latch])), (aMp, .inr (5, [.ref aWo, .int mp_sets])), (aLi, .inr (4, [.ref aCo, .ref aVa, .int z1.2, .int li_size])), (aWo, .inl (cI, 512, .inl wo)), (aCo, .inl (cI, 32, .inl co)), (aVa, .inl (cI, 32, .inl va))]) [2, 0, 3, 1, 4, 5] rfl
    have hD := hD.sub (ws' := [(aSp, .inr (8, [.ref aMp, .ref aLi, .int sp_sr, .int sp_epc, .int sp_esr, .int sp_eea, .int sp_held, .long sp_sum, .int sp_count, .int sp_timer, .int sp_mask, .int sp_retired, .int sp_latch])), (aMp, .inr (5, [.ref aWo, .int mp_sets])), (aLi, .inr (4, [.ref aCo, .ref aVa, .int z1.2, .int li_size])), (aWo, .inl (cI, 512, .inl wo)), (aCo, .inl (cI, 32, .inl co)), (aVa, .inl (cI, 32, .inl va))]) [2, 0, 3, 1, 4, 5] (by decide) rfl
    exact hret H locs _ ls z1.1 z1.2 dX8_read_103 (by clear hP hD hS hl; replace hz1 := hz1.symm; subst hz1; exact (((if_neg c1).trans ((if_neg c2).trans ((if_neg c3).trans ((if_neg c4).trans ((if_neg c5).trans ((if_neg c6).trans ((if_neg c7).trans ((if_pos c8).trans (rfl)))))))))).symm) trivial hP hD hS
  have hs := hs.2 c8
  by_cases c9 : p0 = 8
  · have hs := hs.1 c9
    refine k_tab (tgt := 104) hx hb dX8_read_1 c9 (by decide) (by decide) rfl (by decide) ?_
    refine lv_aload_n hx hb dX8_read_104 rfl (lv_at hl 0 rfl) ?_
    refine va_get (D := G) (ci := 8) (v := .int sp_retired) (C := RX8) (T := TX8) (N := 13) hx hb hts iwX8_read_X8 hown hK hP 0 rfl rfl 11 (by decide) (hts _ lkX8_read_60) (fun _ h9 => h9) rfl dX8_read_105 ?_
    exact hret H locs _ ls sp_retired li_passed dX8_read_108 ((if_neg c1).trans ((if_neg c2).trans ((if_neg c3).trans ((if_neg c4).trans ((if_neg c5).trans ((if_neg c6).trans ((if_neg c7).trans ((if_neg c8).trans ((if_pos c9).trans (rfl)))))))))).symm trivial hP hD hS
  have hs := hs.2 c9
  by_cases c10 : p0 = 9
  · have hs := hs.1 c10
    refine k_tab (tgt := 109) hx hb dX8_read_1 c10 (by decide) (by decide) rfl (by decide) ?_
    refine lv_aload_n hx hb dX8_read_109 rfl (lv_at hl 0 rfl) ?_
    refine va_get (D := G) (ci := 8) (v := .int sp_latch) (C := RX8) (T := TX8) (N := 13) hx hb hts iwX8_read_X8 hown hK hP 0 rfl rfl 12 (by decide) (hts _ lkX8_read_63) (fun _ h9 => h9) rfl dX8_read_110 ?_
    exact hret H locs _ ls sp_latch li_passed dX8_read_113 ((if_neg c1).trans ((if_neg c2).trans ((if_neg c3).trans ((if_neg c4).trans ((if_neg c5).trans ((if_neg c6).trans ((if_neg c7).trans ((if_neg c8).trans ((if_neg c9).trans ((if_pos c10).trans (rfl))))))))))).symm trivial hP hD hS
  have hs := hs.2 c10
  by_cases c11 : p0 = 10
  · have hs := hs.1 c11
    refine k_tab (tgt := 114) hx hb dX8_read_1 c11 (by decide) (by decide) rfl (by decide) ?_
    refine lv_aload_n hx hb dX8_read_114 rfl (lv_at hl 0 rfl) ?_
    refine va_get (D := G) (ci := 8) (v := .long sp_sum) (C := RX8) (T := TX8) (N := 13) hx hb hts iwX8_read_X8 hown hK hP 0 rfl rfl 7 (by decide) (hts _ lkX8_read_47) (fun _ h9 => h9) rfl dX8_read_115 ?_
    refine lv_bipush (v := 32) hx hb dX8_read_118 (by decide) ?_
    refine lv_lushr (v := jlushr sp_sum 32) hx hb dX8_read_120 rfl ?_
    refine lv_l2i (v := (jlushr sp_sum 32).toInt32) hx hb dX8_read_121 rfl ?_
    exact hret H locs _ ls ((jlushr sp_sum 32).toInt32) li_passed dX8_read_122 ((if_neg c1).trans ((if_neg c2).trans ((if_neg c3).trans ((if_neg c4).trans ((if_neg c5).trans ((if_neg c6).trans ((if_neg c7).trans ((if_neg c8).trans ((if_neg c9).trans ((if_neg c10).trans ((if_pos c11).trans (rfl)))))))))))).symm trivial hP hD hS
  have hs := hs.2 c11
  by_cases c12 : p0 = 11
  · have hs := hs.1 c12
    refine k_tab (tgt := 123) hx hb dX8_read_1 c12 (by decide) (by decide) rfl (by decide) ?_
    refine lv_aload_n hx hb dX8_read_123 rfl (lv_at hl 0 rfl) ?_
    refine va_get (D := G) (ci := 8) (v := .long sp_sum) (C := RX8) (T := TX8) (N := 13) hx hb hts iwX8_read_X8 hown hK hP 0 rfl rfl 7 (by decide) (hts _ lkX8_read_47) (fun _ h9 => h9) rfl dX8_read_124 ?_
    refine lv_l2i (v := sp_sum.toInt32) hx hb dX8_read_127 rfl ?_
    exact hret H locs _ ls sp_sum.toInt32 li_passed dX8_read_128 ((if_neg c1).trans ((if_neg c2).trans ((if_neg c3).trans ((if_neg c4).trans ((if_neg c5).trans ((if_neg c6).trans ((if_neg c7).trans ((if_neg c8).trans ((if_neg c9).trans ((if_neg c10).trans ((if_neg c11).trans ((if_pos c12).trans (rfl))))))))))))).symm trivial hP hD hS
  have hs := hs.2 c12
  refine k_tabD (tgt := 129) hx hb dX8_read_1 [0, 1, 2, 3, 4, 5, 6, 7, 8, 9, 10, 11] (List.forall_mem_cons.mpr ⟨c1, List.forall_mem_cons.mpr ⟨c2, List.forall_mem_cons.mpr ⟨c3, List.forall_mem_cons.mpr ⟨c4, List.forall_mem_cons.mpr ⟨c5, List.forall_mem_cons.mpr ⟨c6, List.forall_mem_cons.mpr ⟨c7, List.forall_mem_cons.mpr ⟨c8, List.forall_mem_cons.mpr ⟨c9, List.forall_mem_cons.mpr ⟨c10, List.forall_mem_cons.mpr ⟨c11, List.forall_mem_cons.mpr ⟨c12, fun _ h => absurd h List.not_mem_nil⟩⟩⟩⟩⟩⟩⟩⟩⟩⟩⟩⟩) (by decide) (by decide) (by decide) ?_
  refine lv_aload_n hx hb dX8_read_129 rfl (lv_at hl 0 rfl) ?_
  refine va_get (D := G) (ci := 8) (v := .ref aMp) (C := RX8) (T := TX8) (N := 13) hx hb hts iwX8_read_X8 hown hK hP 0 rfl rfl 0 (by decide) (hts _ lkX8_read_27) (fun _ h9 => h9) rfl dX8_read_130 ?_
  refine lv_iload_n hx hb dX8_read_133 rfl (lv_at hl 1 rfl) ?_
  obtain ⟨o2, hs⟩ := hs
  refine k_iV (As := [.int p0]) (rest := []) (wc := [(aMp, .inr (5, [.ref aWo, .int mp_sets])), (aWo, .inl (cI, 512, .inl wo))]) (wr := [(aSp, .inr (8, [.ref aMp, .ref aLi, .int sp_sr, .int sp_epc, .int sp_esr, .int sp_eea, .int sp_held, .long sp_sum, .int sp_count, .int sp_timer, .int sp_mask, .int sp_retired, .int sp_latch])), (aLi, .inr (4, [.ref aCo, .ref aVa, .int li_passed, .int li_size])), (aCo, .inl (cI, 32, .inl co)), (aVa, .inl (cI, 32, .inl va))]) ⟨hx, hb, hml, hown, hts⟩ hK hP hD hS hA [1, 3] [0, 2, 4, 5] rfl rfl rfl rfl (by decide) (mX5_get l G cI cB cP aMp aWo mp_sets wo H.size p0 o2) (cwV 1 hts gX8_read_X5_get rfl rfl rfl (by decide +kernel) ⟨Nat.le_of_ble_eq_true rfl, Nat.le_of_ble_eq_true rfl⟩) 1 5 rfl rfl rfl rfl hl.1 rfl (Nat.le_of_ble_eq_true rfl) dX8_read_134 ⟨Nat.le_of_ble_eq_true rfl, Nat.le_of_ble_eq_true rfl⟩ (fun z2 H locs hz2 hEz2 hP hD hS => ?_)
  have hs := hs z2 hz2
  have hP : va_P G vwCl [(aSp, .inr (8, [.ref aMp, .ref aLi, .int sp_sr, .int sp_epc, .int sp_esr, .int sp_eea, .int sp_held, .long sp_sum, .int sp_count, .int sp_timer, .int sp_mask, .int sp_retired, .int sp_latch])), (aLi, .inr (4, [.ref aCo, .ref aVa, .int li_passed, .int li_size])), (aCo, .inl (cI, 32, .inl co)), (aVa, .inl (cI, 32, .inl va)), (aMp, .inr (5, [.ref aWo, .int mp_sets])), (aWo, .inl (cI, 512, .inl wo))] H := hP
  have hD : va_D A [(aSp, .inr (8, [.ref aMp, .ref aLi, .int sp_sr, .int sp_epc, .int sp_esr, .int sp_eea, .int sp_held, .long sp_sum, .int sp_count, .int sp_timer, .int sp_mask, .int sp_retired, .int sp_latch])), (aLi, .inr (4, [.ref aCo, .ref aVa, .int li_passed, .int li_size])), (aCo, .inl (cI, 32, .inl co)), (aVa, .inl (cI, 32, .inl va)), (aMp, .inr (5, [.ref aWo, .int mp_sets])), (aWo, .inl (cI, 512, .inl wo))] := hD
  have hP := hP.sub (ws' := [(aSp, .inr (8, [.ref aMp, .ref aLi, .int sp_sr, .int sp_epc, .int sp_esr, .int sp_eea, .int sp_held, .long sp_sum, .int sp_count, .int sp_timer, .int sp_mask, .int sp_retired, .int sp_latch])), (aMp, .inr (5, [.ref aWo, .int mp_sets])), (aLi, .inr (4, [.ref aCo, .ref aVa, .int li_passed, .int li_size])), (aWo, .inl (cI, 512, .inl wo)), (aCo, .inl (cI, 32, .inl co)), (aVa, .inl (cI, 32, .inl va))]) [0, 4, 1, 5, 2, 3] rfl
  have hD := hD.sub (ws' := [(aSp, .inr (8, [.ref aMp, .ref aLi, .int sp_sr, .int sp_epc, .int sp_esr, .int sp_eea, .int sp_held, .long sp_sum, .int sp_count, .int sp_timer, .int sp_mask, .int sp_retired, .int sp_latch])), (aMp, .inr (5, [.ref aWo, .int mp_sets])), (aLi, .inr (4, [.ref aCo, .ref aVa, .int li_passed, .int li_size])), (aWo, .inl (cI, 512, .inl wo)), (aCo, .inl (cI, 32, .inl co)), (aVa, .inl (cI, 32, .inl va))]) [0, 4, 1, 5, 2, 3] (by decide) rfl
  exact hret H locs _ ls z2.1 li_passed dX8_read_137 (by clear hP hD hS hl; replace hz2 := hz2.symm; subst hz2; exact (((if_neg c1).trans ((if_neg c2).trans ((if_neg c3).trans ((if_neg c4).trans ((if_neg c5).trans ((if_neg c6).trans ((if_neg c7).trans ((if_neg c8).trans ((if_neg c9).trans ((if_neg c10).trans ((if_neg c11).trans ((if_neg c12).trans (rfl)))))))))))))).symm) trivial hP hD hS
def fX8_write (sp_sr : Int32) (sp_epc : Int32) (sp_esr : Int32) (sp_eea : Int32) (sp_held : Int32) (sp_sum : Int64) (sp_count : Int32) (sp_timer : Int32) (sp_mask : Int32) (sp_latch : Int32) (mp_sets : Int32) (wo : Nat → Int32) (p0 : Int32) (p1 : Int32) : Int32 × Int32 × Int32 × Int32 × Int32 × Int64 × Int32 × Int32 × Int32 × Int32 × (Nat → Int32) :=
  if p0 = 0 then ((p1 &&& 1023, sp_epc, sp_esr, sp_eea, sp_held, sp_sum, sp_count, sp_timer, sp_mask, sp_latch, wo)) else (if p0 = 1 then ((sp_sr, p1, sp_esr, sp_eea, sp_held, sp_sum, sp_count, sp_timer, sp_mask, sp_latch, wo)) else (if p0 = 2 then ((sp_sr, sp_epc, p1 &&& 1023, sp_eea, sp_held, sp_sum, sp_count, sp_timer, sp_mask, sp_latch, wo)) else (if p0 = 3 then ((sp_sr, sp_epc, sp_esr, p1, sp_held, sp_sum, sp_count, sp_timer, sp_mask, sp_latch, wo)) else (if p0 = 4 then ((sp_sr, sp_epc, sp_esr, sp_eea, sp_held, sp_sum, p1 &&& 268435455, sp_timer, sp_mask, sp_latch, wo)) else (if p0 = 5 then ((sp_sr, sp_epc, sp_esr, sp_eea, sp_held, sp_sum, sp_count, p1 &&& 2147483647, sp_mask, sp_latch, wo)) else (if p0 = 6 then ((sp_sr, sp_epc, sp_esr, sp_eea, sp_held, sp_sum, sp_count, sp_timer, p1, sp_latch, wo)) else (if p0 = 7 then ((sp_sr, sp_epc, sp_esr, sp_eea, sp_held &&& (p1 ^^^ (-1)), sp_sum, sp_count, sp_timer, sp_mask, sp_latch, wo)) else (if p0 = 9 then ((sp_sr, sp_epc, sp_esr, sp_eea, sp_held, sp_sum, sp_count, sp_timer, sp_mask, p1, wo)) else (if p0 = 10 then ((sp_sr, sp_epc, sp_esr, sp_eea, sp_held, (sp_sum &&& 4294967295) ||| (jlshl p1.toInt64 32), sp_count, sp_timer, sp_mask, sp_latch, wo)) else (if p0 = 11 then ((sp_sr, sp_epc, sp_esr, sp_eea, sp_held, (sp_sum &&& (-4294967296)) ||| (p1.toInt64 &&& 4294967295), sp_count, sp_timer, sp_mask, sp_latch, wo)) else ((let z1 := fX5_put mp_sets wo p0 p1; (sp_sr, sp_epc, sp_esr, sp_eea, sp_held, sp_sum, sp_count, sp_timer, sp_mask, sp_latch, z1)))))))))))))
theorem lkX8_write_18 : Cond.fieldLink RX8 18 "TwinIssue$Specials" "sr" "I" ∈ wsX8_write := by decide +kernel
theorem lkX8_write_27 : Cond.fieldLink RX8 27 "TwinIssue$Specials" "maps" "LTwinIssue$Maps;" ∈ wsX8_write := by decide +kernel
theorem lkX8_write_35 : Cond.fieldLink RX8 35 "TwinIssue$Specials" "epc" "I" ∈ wsX8_write := by decide +kernel
theorem lkX8_write_38 : Cond.fieldLink RX8 38 "TwinIssue$Specials" "esr" "I" ∈ wsX8_write := by decide +kernel
theorem lkX8_write_41 : Cond.fieldLink RX8 41 "TwinIssue$Specials" "eea" "I" ∈ wsX8_write := by decide +kernel
theorem lkX8_write_44 : Cond.fieldLink RX8 44 "TwinIssue$Specials" "held" "I" ∈ wsX8_write := by decide +kernel
theorem lkX8_write_47 : Cond.fieldLink RX8 47 "TwinIssue$Specials" "sum" "J" ∈ wsX8_write := by decide +kernel
theorem lkX8_write_51 : Cond.fieldLink RX8 51 "TwinIssue$Specials" "count" "I" ∈ wsX8_write := by decide +kernel
theorem lkX8_write_54 : Cond.fieldLink RX8 54 "TwinIssue$Specials" "timer" "I" ∈ wsX8_write := by decide +kernel
theorem lkX8_write_57 : Cond.fieldLink RX8 57 "TwinIssue$Specials" "mask" "I" ∈ wsX8_write := by decide +kernel
theorem lkX8_write_63 : Cond.fieldLink RX8 63 "TwinIssue$Specials" "latch" "I" ∈ wsX8_write := by decide +kernel
theorem lkX8_write_74 : Cond.constant RX8 74 (268435455) ∈ wsX8_write := by decide +kernel
theorem lkX8_write_75 : Cond.constant RX8 75 (2147483647) ∈ wsX8_write := by decide +kernel
theorem lkX8_write_76 : Cond.constantLong RX8 76 (4294967295) ∈ wsX8_write := by decide +kernel
theorem lkX8_write_78 : Cond.constantLong RX8 78 (-4294967296) ∈ wsX8_write := by decide +kernel
theorem iwX8_write_X8 : ∀ w ∈ wsX80, w ∈ wsX8_write := fun _ h => List.mem_cons_of_mem _ (List.mem_append_left _ (List.mem_append_right _ h))
def sX8_write (mp_sets : Int32) (wo : Nat → Int32) (p0 : Int32) (p1 : Int32) : Prop :=
  (p0 = 0 → True) ∧ (¬ (p0 = 0) → ((p0 = 1 → True) ∧ (¬ (p0 = 1) → ((p0 = 2 → True) ∧ (¬ (p0 = 2) → ((p0 = 3 → True) ∧ (¬ (p0 = 3) → ((p0 = 4 → True) ∧ (¬ (p0 = 4) → ((p0 = 5 → True) ∧ (¬ (p0 = 5) → ((p0 = 6 → True) ∧ (¬ (p0 = 6) → ((p0 = 7 → True) ∧ (¬ (p0 = 7) → ((p0 = 9 → True) ∧ (¬ (p0 = 9) → ((p0 = 10 → True) ∧ (¬ (p0 = 10) → ((p0 = 11 → True) ∧ (¬ (p0 = 11) → ((sX5_put mp_sets p0) ∧ ((∀ z1, z1 = fX5_put mp_sets wo p0 p1 → True))))))))))))))))))))))))
set_option maxHeartbeats 4000000 in
set_option maxRecDepth 100000 in
theorem mX8_write (l : Launch) (G : va_G) (cI cB cP : ClassId) (aSp aMp aLi aWo : Nat) (sp_sr : Int32) (sp_epc : Int32) (sp_esr : Int32) (sp_eea : Int32) (sp_held : Int32) (sp_sum : Int64) (sp_count : Int32) (sp_timer : Int32) (sp_mask : Int32) (sp_retired : Int32) (sp_latch : Int32) (mp_sets : Int32) (wo : Nat → Int32) (sz : Nat) (p0 : Int32) (p1 : Int32) (hs : sX8_write mp_sets wo p0 p1) : kMv (S := Int32 × Int32 × Int32 × Int32 × Int32 × Int64 × Int32 × Int32 × Int32 × Int32 × (Nat → Int32)) l yX8_write wsX8_write ({ frames := 2, cells := 0, slots := 0, locals := 44 }) [.ref aSp, .int p0, .int p1] G (kTY cI cB cP) sz [(aSp, .inr (8, [.ref aMp, .ref aLi, .int sp_sr, .int sp_epc, .int sp_esr, .int sp_eea, .int sp_held, .long sp_sum, .int sp_count, .int sp_timer, .int sp_mask, .int sp_retired, .int sp_latch])), (aMp, .inr (5, [.ref aWo, .int mp_sets])), (aWo, .inl (cI, 512, .inl wo))] (fX8_write sp_sr sp_epc sp_esr sp_eea sp_held sp_sum sp_count sp_timer sp_mask sp_latch mp_sets wo p0 p1) (fun _ => True) (fun u => [(aSp, .inr (8, [.ref aMp, .ref aLi, .int u.1, .int u.2.1, .int u.2.2.1, .int u.2.2.2.1, .int u.2.2.2.2.1, .long u.2.2.2.2.2.1, .int u.2.2.2.2.2.2.1, .int u.2.2.2.2.2.2.2.1, .int u.2.2.2.2.2.2.2.2.1, .int sp_retired, .int u.2.2.2.2.2.2.2.2.2.1])), (aMp, .inr (5, [.ref aWo, .int mp_sets])), (aWo, .inl (cI, 512, .inl u.2.2.2.2.2.2.2.2.2.2))]) := by
  refine k_ofv (cc := cX8_write) (maxL := 3) (by decide) rfl (Nat.le_of_ble_eq_true rfl) ?_
  intro p e s m args below meth c A ls Q H locs hx hb hml hown hts hin hK hP hD hA hS hl hret
  have hown : s.vm.findClass RX8 = some m.cls := hown
  have hl : lv_has ls 3 [(0, .ref aSp), (1, .int p0), (2, .int p1)] := hl
  unfold sX8_write at hs
  refine lv_iload_n hx hb dX8_write_0 rfl (lv_at hl 1 rfl) ?_
  by_cases c1 : p0 = 0
  · have hs := hs.1 c1
    refine k_tab (tgt := 64) hx hb dX8_write_1 c1 (by decide) (by decide) rfl (by decide) ?_
    refine lv_aload_n hx hb dX8_write_64 rfl (lv_at hl 0 rfl) ?_
    refine lv_iload_n hx hb dX8_write_65 rfl (lv_at hl 2 rfl) ?_
    refine lv_sipush (v := 1023) hx hb dX8_write_66 (by decide) ?_
    refine lv_iand hx hb dX8_write_69 ?_
    refine va_put (D := G) (ci := 8) (v := .int (p1 &&& 1023)) (ty := .int) (C := RX8) (T := TX8) (N := 13) hx hb hts iwX8_write_X8 tyX8 tyX8_ok nmX8 hown hK hP hD hS 0 rfl rfl 2 (by decide) (hts _ lkX8_write_18) (fun _ h9 => h9) rfl (by decide +kernel) rfl rfl (Nat.le_of_ble_eq_true rfl) dX8_write_70 (fun H locs hP hD hS => ?_)
    have hP : va_P G vwCl [(aSp, .inr (8, [.ref aMp, .ref aLi, .int (p1 &&& 1023), .int sp_epc, .int sp_esr, .int sp_eea, .int sp_held, .long sp_sum, .int sp_count, .int sp_timer, .int sp_mask, .int sp_retired, .int sp_latch])), (aMp, .inr (5, [.ref aWo, .int mp_sets])), (aWo, .inl (cI, 512, .inl wo))] H := hP
    have hD : va_D A [(aSp, .inr (8, [.ref aMp, .ref aLi, .int (p1 &&& 1023), .int sp_epc, .int sp_esr, .int sp_eea, .int sp_held, .long sp_sum, .int sp_count, .int sp_timer, .int sp_mask, .int sp_retired, .int sp_latch])), (aMp, .inr (5, [.ref aWo, .int mp_sets])), (aWo, .inl (cI, 512, .inl wo))] := hD
    refine lv_goto (tgt := 209) hx hb dX8_write_73 (by decide) ?_
    exact hret H locs _ ls (p1 &&& 1023, sp_epc, sp_esr, sp_eea, sp_held, sp_sum, sp_count, sp_timer, sp_mask, sp_latch, wo) dX8_write_209 ((if_pos c1).trans (rfl)).symm trivial hP hD hS
  have hs := hs.2 c1
  by_cases c2 : p0 = 1
  · have hs := hs.1 c2
    refine k_tab (tgt := 76) hx hb dX8_write_1 c2 (by decide) (by decide) rfl (by decide) ?_
    refine lv_aload_n hx hb dX8_write_76 rfl (lv_at hl 0 rfl) ?_
    refine lv_iload_n hx hb dX8_write_77 rfl (lv_at hl 2 rfl) ?_
    refine va_put (D := G) (ci := 8) (v := .int p1) (ty := .int) (C := RX8) (T := TX8) (N := 13) hx hb hts iwX8_write_X8 tyX8 tyX8_ok nmX8 hown hK hP hD hS 0 rfl rfl 3 (by decide) (hts _ lkX8_write_35) (fun _ h9 => h9) rfl (by decide +kernel) rfl rfl (Nat.le_of_ble_eq_true rfl) dX8_write_78 (fun H locs hP hD hS => ?_)
    have hP : va_P G vwCl [(aSp, .inr (8, [.ref aMp, .ref aLi, .int sp_sr, .int p1, .int sp_esr, .int sp_eea, .int sp_held, .long sp_sum, .int sp_count, .int sp_timer, .int sp_mask, .int sp_retired, .int sp_latch])), (aMp, .inr (5, [.ref aWo, .int mp_sets])), (aWo, .inl (cI, 512, .inl wo))] H := hP
    have hD : va_D A [(aSp, .inr (8, [.ref aMp, .ref aLi, .int sp_sr, .int p1, .int sp_esr, .int sp_eea, .int sp_held, .long sp_sum, .int sp_count, .int sp_timer, .int sp_mask, .int sp_retired, .int sp_latch])), (aMp, .inr (5, [.ref aWo, .int mp_sets])), (aWo, .inl (cI, 512, .inl wo))] := hD
    refine lv_goto (tgt := 209) hx hb dX8_write_81 (by decide) ?_
    exact hret H locs _ ls (sp_sr, p1, sp_esr, sp_eea, sp_held, sp_sum, sp_count, sp_timer, sp_mask, sp_latch, wo) dX8_write_209 ((if_neg c1).trans ((if_pos c2).trans (rfl))).symm trivial hP hD hS
  have hs := hs.2 c2
  by_cases c3 : p0 = 2
  · have hs := hs.1 c3
    refine k_tab (tgt := 84) hx hb dX8_write_1 c3 (by decide) (by decide) rfl (by decide) ?_
    refine lv_aload_n hx hb dX8_write_84 rfl (lv_at hl 0 rfl) ?_
    refine lv_iload_n hx hb dX8_write_85 rfl (lv_at hl 2 rfl) ?_
    refine lv_sipush (v := 1023) hx hb dX8_write_86 (by decide) ?_
    refine lv_iand hx hb dX8_write_89 ?_
    refine va_put (D := G) (ci := 8) (v := .int (p1 &&& 1023)) (ty := .int) (C := RX8) (T := TX8) (N := 13) hx hb hts iwX8_write_X8 tyX8 tyX8_ok nmX8 hown hK hP hD hS 0 rfl rfl 4 (by decide) (hts _ lkX8_write_38) (fun _ h9 => h9) rfl (by decide +kernel) rfl rfl (Nat.le_of_ble_eq_true rfl) dX8_write_90 (fun H locs hP hD hS => ?_)
    have hP : va_P G vwCl [(aSp, .inr (8, [.ref aMp, .ref aLi, .int sp_sr, .int sp_epc, .int (p1 &&& 1023), .int sp_eea, .int sp_held, .long sp_sum, .int sp_count, .int sp_timer, .int sp_mask, .int sp_retired, .int sp_latch])), (aMp, .inr (5, [.ref aWo, .int mp_sets])), (aWo, .inl (cI, 512, .inl wo))] H := hP
    have hD : va_D A [(aSp, .inr (8, [.ref aMp, .ref aLi, .int sp_sr, .int sp_epc, .int (p1 &&& 1023), .int sp_eea, .int sp_held, .long sp_sum, .int sp_count, .int sp_timer, .int sp_mask, .int sp_retired, .int sp_latch])), (aMp, .inr (5, [.ref aWo, .int mp_sets])), (aWo, .inl (cI, 512, .inl wo))] := hD
    refine lv_goto (tgt := 209) hx hb dX8_write_93 (by decide) ?_
    exact hret H locs _ ls (sp_sr, sp_epc, p1 &&& 1023, sp_eea, sp_held, sp_sum, sp_count, sp_timer, sp_mask, sp_latch, wo) dX8_write_209 ((if_neg c1).trans ((if_neg c2).trans ((if_pos c3).trans (rfl)))).symm trivial hP hD hS
  have hs := hs.2 c3
  by_cases c4 : p0 = 3
  · have hs := hs.1 c4
    refine k_tab (tgt := 96) hx hb dX8_write_1 c4 (by decide) (by decide) rfl (by decide) ?_
    refine lv_aload_n hx hb dX8_write_96 rfl (lv_at hl 0 rfl) ?_
    refine lv_iload_n hx hb dX8_write_97 rfl (lv_at hl 2 rfl) ?_
    refine va_put (D := G) (ci := 8) (v := .int p1) (ty := .int) (C := RX8) (T := TX8) (N := 13) hx hb hts iwX8_write_X8 tyX8 tyX8_ok nmX8 hown hK hP hD hS 0 rfl rfl 5 (by decide) (hts _ lkX8_write_41) (fun _ h9 => h9) rfl (by decide +kernel) rfl rfl (Nat.le_of_ble_eq_true rfl) dX8_write_98 (fun H locs hP hD hS => ?_)
    have hP : va_P G vwCl [(aSp, .inr (8, [.ref aMp, .ref aLi, .int sp_sr, .int sp_epc, .int sp_esr, .int p1, .int sp_held, .long sp_sum, .int sp_count, .int sp_timer, .int sp_mask, .int sp_retired, .int sp_latch])), (aMp, .inr (5, [.ref aWo, .int mp_sets])), (aWo, .inl (cI, 512, .inl wo))] H := hP
    have hD : va_D A [(aSp, .inr (8, [.ref aMp, .ref aLi, .int sp_sr, .int sp_epc, .int sp_esr, .int p1, .int sp_held, .long sp_sum, .int sp_count, .int sp_timer, .int sp_mask, .int sp_retired, .int sp_latch])), (aMp, .inr (5, [.ref aWo, .int mp_sets])), (aWo, .inl (cI, 512, .inl wo))] := hD
    refine lv_goto (tgt := 209) hx hb dX8_write_101 (by decide) ?_
    exact hret H locs _ ls (sp_sr, sp_epc, sp_esr, p1, sp_held, sp_sum, sp_count, sp_timer, sp_mask, sp_latch, wo) dX8_write_209 ((if_neg c1).trans ((if_neg c2).trans ((if_neg c3).trans ((if_pos c4).trans (rfl))))).symm trivial hP hD hS
  have hs := hs.2 c4
  by_cases c5 : p0 = 4
  · have hs := hs.1 c5
    refine k_tab (tgt := 104) hx hb dX8_write_1 c5 (by decide) (by decide) rfl (by decide) ?_
    refine lv_aload_n hx hb dX8_write_104 rfl (lv_at hl 0 rfl) ?_
    refine lv_iload_n hx hb dX8_write_105 rfl (lv_at hl 2 rfl) ?_
    refine lv_ldc (v := 268435455) hx hb hown (hts _ lkX8_write_74) dX8_write_106 ?_
    refine lv_iand hx hb dX8_write_108 ?_
    refine va_put (D := G) (ci := 8) (v := .int (p1 &&& 268435455)) (ty := .int) (C := RX8) (T := TX8) (N := 13) hx hb hts iwX8_write_X8 tyX8 tyX8_ok nmX8 hown hK hP hD hS 0 rfl rfl 8 (by decide) (hts _ lkX8_write_51) (fun _ h9 => h9) rfl (by decide +kernel) rfl rfl (Nat.le_of_ble_eq_true rfl) dX8_write_109 (fun H locs hP hD hS => ?_)
    have hP : va_P G vwCl [(aSp, .inr (8, [.ref aMp, .ref aLi, .int sp_sr, .int sp_epc, .int sp_esr, .int sp_eea, .int sp_held, .long sp_sum, .int (p1 &&& 268435455), .int sp_timer, .int sp_mask, .int sp_retired, .int sp_latch])), (aMp, .inr (5, [.ref aWo, .int mp_sets])), (aWo, .inl (cI, 512, .inl wo))] H := hP
    have hD : va_D A [(aSp, .inr (8, [.ref aMp, .ref aLi, .int sp_sr, .int sp_epc, .int sp_esr, .int sp_eea, .int sp_held, .long sp_sum, .int (p1 &&& 268435455), .int sp_timer, .int sp_mask, .int sp_retired, .int sp_latch])), (aMp, .inr (5, [.ref aWo, .int mp_sets])), (aWo, .inl (cI, 512, .inl wo))] := hD
    refine lv_goto (tgt := 209) hx hb dX8_write_112 (by decide) ?_
    exact hret H locs _ ls (sp_sr, sp_epc, sp_esr, sp_eea, sp_held, sp_sum, p1 &&& 268435455, sp_timer, sp_mask, sp_latch, wo) dX8_write_209 ((if_neg c1).trans ((if_neg c2).trans ((if_neg c3).trans ((if_neg c4).trans ((if_pos c5).trans (rfl)))))).symm trivial hP hD hS
  have hs := hs.2 c5
  by_cases c6 : p0 = 5
  · have hs := hs.1 c6
    refine k_tab (tgt := 115) hx hb dX8_write_1 c6 (by decide) (by decide) rfl (by decide) ?_
    refine lv_aload_n hx hb dX8_write_115 rfl (lv_at hl 0 rfl) ?_
    refine lv_iload_n hx hb dX8_write_116 rfl (lv_at hl 2 rfl) ?_
    refine lv_ldc (v := 2147483647) hx hb hown (hts _ lkX8_write_75) dX8_write_117 ?_
    refine lv_iand hx hb dX8_write_119 ?_
    refine va_put (D := G) (ci := 8) (v := .int (p1 &&& 2147483647)) (ty := .int) (C := RX8) (T := TX8) (N := 13) hx hb hts iwX8_write_X8 tyX8 tyX8_ok nmX8 hown hK hP hD hS 0 rfl rfl 9 (by decide) (hts _ lkX8_write_54) (fun _ h9 => h9) rfl (by decide +kernel) rfl rfl (Nat.le_of_ble_eq_true rfl) dX8_write_120 (fun H locs hP hD hS => ?_)
    have hP : va_P G vwCl [(aSp, .inr (8, [.ref aMp, .ref aLi, .int sp_sr, .int sp_epc, .int sp_esr, .int sp_eea, .int sp_held, .long sp_sum, .int sp_count, .int (p1 &&& 2147483647), .int sp_mask, .int sp_retired, .int sp_latch])), (aMp, .inr (5, [.ref aWo, .int mp_sets])), (aWo, .inl (cI, 512, .inl wo))] H := hP
    have hD : va_D A [(aSp, .inr (8, [.ref aMp, .ref aLi, .int sp_sr, .int sp_epc, .int sp_esr, .int sp_eea, .int sp_held, .long sp_sum, .int sp_count, .int (p1 &&& 2147483647), .int sp_mask, .int sp_retired, .int sp_latch])), (aMp, .inr (5, [.ref aWo, .int mp_sets])), (aWo, .inl (cI, 512, .inl wo))] := hD
    refine lv_goto (tgt := 209) hx hb dX8_write_123 (by decide) ?_
    exact hret H locs _ ls (sp_sr, sp_epc, sp_esr, sp_eea, sp_held, sp_sum, sp_count, p1 &&& 2147483647, sp_mask, sp_latch, wo) dX8_write_209 ((if_neg c1).trans ((if_neg c2).trans ((if_neg c3).trans ((if_neg c4).trans ((if_neg c5).trans ((if_pos c6).trans (rfl))))))).symm trivial hP hD hS
  have hs := hs.2 c6
  by_cases c7 : p0 = 6
  · have hs := hs.1 c7
    refine k_tab (tgt := 126) hx hb dX8_write_1 c7 (by decide) (by decide) rfl (by decide) ?_
    refine lv_aload_n hx hb dX8_write_126 rfl (lv_at hl 0 rfl) ?_
    refine lv_iload_n hx hb dX8_write_127 rfl (lv_at hl 2 rfl) ?_
    refine va_put (D := G) (ci := 8) (v := .int p1) (ty := .int) (C := RX8) (T := TX8) (N := 13) hx hb hts iwX8_write_X8 tyX8 tyX8_ok nmX8 hown hK hP hD hS 0 rfl rfl 10 (by decide) (hts _ lkX8_write_57) (fun _ h9 => h9) rfl (by decide +kernel) rfl rfl (Nat.le_of_ble_eq_true rfl) dX8_write_128 (fun H locs hP hD hS => ?_)
    have hP : va_P G vwCl [(aSp, .inr (8, [.ref aMp, .ref aLi, .int sp_sr, .int sp_epc, .int sp_esr, .int sp_eea, .int sp_held, .long sp_sum, .int sp_count, .int sp_timer, .int p1, .int sp_retired, .int sp_latch])), (aMp, .inr (5, [.ref aWo, .int mp_sets])), (aWo, .inl (cI, 512, .inl wo))] H := hP
    have hD : va_D A [(aSp, .inr (8, [.ref aMp, .ref aLi, .int sp_sr, .int sp_epc, .int sp_esr, .int sp_eea, .int sp_held, .long sp_sum, .int sp_count, .int sp_timer, .int p1, .int sp_retired, .int sp_latch])), (aMp, .inr (5, [.ref aWo, .int mp_sets])), (aWo, .inl (cI, 512, .inl wo))] := hD
    refine lv_goto (tgt := 209) hx hb dX8_write_131 (by decide) ?_
    exact hret H locs _ ls (sp_sr, sp_epc, sp_esr, sp_eea, sp_held, sp_sum, sp_count, sp_timer, p1, sp_latch, wo) dX8_write_209 ((if_neg c1).trans ((if_neg c2).trans ((if_neg c3).trans ((if_neg c4).trans ((if_neg c5).trans ((if_neg c6).trans ((if_pos c7).trans (rfl)))))))).symm trivial hP hD hS
  have hs := hs.2 c7
  by_cases c8 : p0 = 7
  · have hs := hs.1 c8
    refine k_tab (tgt := 134) hx hb dX8_write_1 c8 (by decide) (by decide) rfl (by decide) ?_
    refine lv_aload_n hx hb dX8_write_134 rfl (lv_at hl 0 rfl) ?_
    refine lv_dup hx hb dX8_write_135 rfl ?_
    refine va_get (D := G) (ci := 8) (v := .int sp_held) (C := RX8) (T := TX8) (N := 13) hx hb hts iwX8_write_X8 hown hK hP 0 rfl rfl 6 (by decide) (hts _ lkX8_write_44) (fun _ h9 => h9) rfl dX8_write_136 ?_
    refine lv_iload_n hx hb dX8_write_139 rfl (lv_at hl 2 rfl) ?_
    refine lv_iconst (v := (-1)) hx hb dX8_write_140 (by decide) ?_
    refine lv_ixor hx hb dX8_write_141 ?_
    refine lv_iand hx hb dX8_write_142 ?_
    refine va_put (D := G) (ci := 8) (v := .int (sp_held &&& (p1 ^^^ (-1)))) (ty := .int) (C := RX8) (T := TX8) (N := 13) hx hb hts iwX8_write_X8 tyX8 tyX8_ok nmX8 hown hK hP hD hS 0 rfl rfl 6 (by decide) (hts _ lkX8_write_44) (fun _ h9 => h9) rfl (by decide +kernel) rfl rfl (Nat.le_of_ble_eq_true rfl) dX8_write_143 (fun H locs hP hD hS => ?_)
    have hP : va_P G vwCl [(aSp, .inr (8, [.ref aMp, .ref aLi, .int sp_sr, .int sp_epc, .int sp_esr, .int sp_eea, .int (sp_held &&& (p1 ^^^ (-1))), .long sp_sum, .int sp_count, .int sp_timer, .int sp_mask, .int sp_retired, .int sp_latch])), (aMp, .inr (5, [.ref aWo, .int mp_sets])), (aWo, .inl (cI, 512, .inl wo))] H := hP
    have hD : va_D A [(aSp, .inr (8, [.ref aMp, .ref aLi, .int sp_sr, .int sp_epc, .int sp_esr, .int sp_eea, .int (sp_held &&& (p1 ^^^ (-1))), .long sp_sum, .int sp_count, .int sp_timer, .int sp_mask, .int sp_retired, .int sp_latch])), (aMp, .inr (5, [.ref aWo, .int mp_sets])), (aWo, .inl (cI, 512, .inl wo))] := hD
    refine lv_goto (tgt := 209) hx hb dX8_write_146 (by decide) ?_
    exact hret H locs _ ls (sp_sr, sp_epc, sp_esr, sp_eea, sp_held &&& (p1 ^^^ (-1)), sp_sum, sp_count, sp_timer, sp_mask, sp_latch, wo) dX8_write_209 ((if_neg c1).trans ((if_neg c2).trans ((if_neg c3).trans ((if_neg c4).trans ((if_neg c5).trans ((if_neg c6).trans ((if_neg c7).trans ((if_pos c8).trans (rfl))))))))).symm trivial hP hD hS
  have hs := hs.2 c8
  by_cases c9 : p0 = 9
  · have hs := hs.1 c9
    refine k_tab (tgt := 149) hx hb dX8_write_1 c9 (by decide) (by decide) rfl (by decide) ?_
    refine lv_aload_n hx hb dX8_write_149 rfl (lv_at hl 0 rfl) ?_
    refine lv_iload_n hx hb dX8_write_150 rfl (lv_at hl 2 rfl) ?_
    refine va_put (D := G) (ci := 8) (v := .int p1) (ty := .int) (C := RX8) (T := TX8) (N := 13) hx hb hts iwX8_write_X8 tyX8 tyX8_ok nmX8 hown hK hP hD hS 0 rfl rfl 12 (by decide) (hts _ lkX8_write_63) (fun _ h9 => h9) rfl (by decide +kernel) rfl rfl (Nat.le_of_ble_eq_true rfl) dX8_write_151 (fun H locs hP hD hS => ?_)
    have hP : va_P G vwCl [(aSp, .inr (8, [.ref aMp, .ref aLi, .int sp_sr, .int sp_epc, .int sp_esr, .int sp_eea, .int sp_held, .long sp_sum, .int sp_count, .int sp_timer, .int sp_mask, .int sp_retired, .int p1])), (aMp, .inr (5, [.ref aWo, .int mp_sets])), (aWo, .inl (cI, 512, .inl wo))] H := hP
    have hD : va_D A [(aSp, .inr (8, [.ref aMp, .ref aLi, .int sp_sr, .int sp_epc, .int sp_esr, .int sp_eea, .int sp_held, .long sp_sum, .int sp_count, .int sp_timer, .int sp_mask, .int sp_retired, .int p1])), (aMp, .inr (5, [.ref aWo, .int mp_sets])), (aWo, .inl (cI, 512, .inl wo))] := hD
    refine lv_goto (tgt := 209) hx hb dX8_write_154 (by decide) ?_
    exact hret H locs _ ls (sp_sr, sp_epc, sp_esr, sp_eea, sp_held, sp_sum, sp_count, sp_timer, sp_mask, p1, wo) dX8_write_209 ((if_neg c1).trans ((if_neg c2).trans ((if_neg c3).trans ((if_neg c4).trans ((if_neg c5).trans ((if_neg c6).trans ((if_neg c7).trans ((if_neg c8).trans ((if_pos c9).trans (rfl)))))))))).symm trivial hP hD hS
  have hs := hs.2 c9
  by_cases c10 : p0 = 10
  · have hs := hs.1 c10
    refine k_tab (tgt := 157) hx hb dX8_write_1 c10 (by decide) (by decide) rfl (by decide) ?_
    refine lv_aload_n hx hb dX8_write_157 rfl (lv_at hl 0 rfl) ?_
    refine lv_aload_n hx hb dX8_write_158 rfl (lv_at hl 0 rfl) ?_
    refine va_get (D := G) (ci := 8) (v := .long sp_sum) (C := RX8) (T := TX8) (N := 13) hx hb hts iwX8_write_X8 hown hK hP 0 rfl rfl 7 (by decide) (hts _ lkX8_write_47) (fun _ h9 => h9) rfl dX8_write_159 ?_
    refine lv_ldc2 (v := 4294967295) hx hb hown (hts _ lkX8_write_76) dX8_write_162 ?_
    refine lv_land hx hb dX8_write_165 ?_
    refine lv_iload_n hx hb dX8_write_166 rfl (lv_at hl 2 rfl) ?_
    refine lv_i2l (v := p1.toInt64) hx hb dX8_write_167 rfl ?_
    refine lv_bipush (v := 32) hx hb dX8_write_168 (by decide) ?_
    refine lv_lshl (v := jlshl p1.toInt64 32) hx hb dX8_write_170 rfl ?_
    refine lv_lor hx hb dX8_write_171 ?_
    refine va_put (D := G) (ci := 8) (v := .long ((sp_sum &&& 4294967295) ||| (jlshl p1.toInt64 32))) (ty := .long) (C := RX8) (T := TX8) (N := 13) hx hb hts iwX8_write_X8 tyX8 tyX8_ok nmX8 hown hK hP hD hS 0 rfl rfl 7 (by decide) (hts _ lkX8_write_47) (fun _ h9 => h9) rfl (by decide +kernel) rfl rfl (Nat.le_of_ble_eq_true rfl) dX8_write_172 (fun H locs hP hD hS => ?_)
    have hP : va_P G vwCl [(aSp, .inr (8, [.ref aMp, .ref aLi, .int sp_sr, .int sp_epc, .int sp_esr, .int sp_eea, .int sp_held, .long ((sp_sum &&& 4294967295) ||| (jlshl p1.toInt64 32)), .int sp_count, .int sp_timer, .int sp_mask, .int sp_retired, .int sp_latch])), (aMp, .inr (5, [.ref aWo, .int mp_sets])), (aWo, .inl (cI, 512, .inl wo))] H := hP
    have hD : va_D A [(aSp, .inr (8, [.ref aMp, .ref aLi, .int sp_sr, .int sp_epc, .int sp_esr, .int sp_eea, .int sp_held, .long ((sp_sum &&& 4294967295) ||| (jlshl p1.toInt64 32)), .int sp_count, .int sp_timer, .int sp_mask, .int sp_retired, .int sp_latch])), (aMp, .inr (5, [.ref aWo, .int mp_sets])), (aWo, .inl (cI, 512, .inl wo))] := hD
    refine lv_goto (tgt := 209) hx hb dX8_write_175 (by decide) ?_
    exact hret H locs _ ls (sp_sr, sp_epc, sp_esr, sp_eea, sp_held, (sp_sum &&& 4294967295) ||| (jlshl p1.toInt64 32), sp_count, sp_timer, sp_mask, sp_latch, wo) dX8_write_209 ((if_neg c1).trans ((if_neg c2).trans ((if_neg c3).trans ((if_neg c4).trans ((if_neg c5).trans ((if_neg c6).trans ((if_neg c7).trans ((if_neg c8).trans ((if_neg c9).trans ((if_pos c10).trans (rfl))))))))))).symm trivial hP hD hS
  have hs := hs.2 c10
  by_cases c11 : p0 = 11
  · have hs := hs.1 c11
    refine k_tab (tgt := 178) hx hb dX8_write_1 c11 (by decide) (by decide) rfl (by decide) ?_
    refine lv_aload_n hx hb dX8_write_178 rfl (lv_at hl 0 rfl) ?_
    refine lv_aload_n hx hb dX8_write_179 rfl (lv_at hl 0 rfl) ?_
    refine va_get (D := G) (ci := 8) (v := .long sp_sum) (C := RX8) (T := TX8) (N := 13) hx hb hts iwX8_write_X8 hown hK hP 0 rfl rfl 7 (by decide) (hts _ lkX8_write_47) (fun _ h9 => h9) rfl dX8_write_180 ?_
    refine lv_ldc2 (v := (-4294967296)) hx hb hown (hts _ lkX8_write_78) dX8_write_183 ?_
    refine lv_land hx hb dX8_write_186 ?_
    refine lv_iload_n hx hb dX8_write_187 rfl (lv_at hl 2 rfl) ?_
    refine lv_i2l (v := p1.toInt64) hx hb dX8_write_188 rfl ?_
    refine lv_ldc2 (v := 4294967295) hx hb hown (hts _ lkX8_write_76) dX8_write_189 ?_
    refine lv_land hx hb dX8_write_192 ?_
    refine lv_lor hx hb dX8_write_193 ?_
    refine va_put (D := G) (ci := 8) (v := .long ((sp_sum &&& (-4294967296)) ||| (p1.toInt64 &&& 4294967295))) (ty := .long) (C := RX8) (T := TX8) (N := 13) hx hb hts iwX8_write_X8 tyX8 tyX8_ok nmX8 hown hK hP hD hS 0 rfl rfl 7 (by decide) (hts _ lkX8_write_47) (fun _ h9 => h9) rfl (by decide +kernel) rfl rfl (Nat.le_of_ble_eq_true rfl) dX8_write_194 (fun H locs hP hD hS => ?_)
    have hP : va_P G vwCl [(aSp, .inr (8, [.ref aMp, .ref aLi, .int sp_sr, .int sp_epc, .int sp_esr, .int sp_eea, .int sp_held, .long ((sp_sum &&& (-4294967296)) ||| (p1.toInt64 &&& 4294967295)), .int sp_count, .int sp_timer, .int sp_mask, .int sp_retired, .int sp_latch])), (aMp, .inr (5, [.ref aWo, .int mp_sets])), (aWo, .inl (cI, 512, .inl wo))] H := hP
    have hD : va_D A [(aSp, .inr (8, [.ref aMp, .ref aLi, .int sp_sr, .int sp_epc, .int sp_esr, .int sp_eea, .int sp_held, .long ((sp_sum &&& (-4294967296)) ||| (p1.toInt64 &&& 4294967295)), .int sp_count, .int sp_timer, .int sp_mask, .int sp_retired, .int sp_latch])), (aMp, .inr (5, [.ref aWo, .int mp_sets])), (aWo, .inl (cI, 512, .inl wo))] := hD
    refine lv_goto (tgt := 209) hx hb dX8_write_197 (by decide) ?_
    exact hret H locs _ ls (sp_sr, sp_epc, sp_esr, sp_eea, sp_held, (sp_sum &&& (-4294967296)) ||| (p1.toInt64 &&& 4294967295), sp_count, sp_timer, sp_mask, sp_latch, wo) dX8_write_209 ((if_neg c1).trans ((if_neg c2).trans ((if_neg c3).trans ((if_neg c4).trans ((if_neg c5).trans ((if_neg c6).trans ((if_neg c7).trans ((if_neg c8).trans ((if_neg c9).trans ((if_neg c10).trans ((if_pos c11).trans (rfl)))))))))))).symm trivial hP hD hS
  have hs := hs.2 c11
  refine k_tabD (tgt := 200) hx hb dX8_write_1 [0, 1, 2, 3, 4, 5, 6, 7, 9, 10, 11] (List.forall_mem_cons.mpr ⟨c1, List.forall_mem_cons.mpr ⟨c2, List.forall_mem_cons.mpr ⟨c3, List.forall_mem_cons.mpr ⟨c4, List.forall_mem_cons.mpr ⟨c5, List.forall_mem_cons.mpr ⟨c6, List.forall_mem_cons.mpr ⟨c7, List.forall_mem_cons.mpr ⟨c8, List.forall_mem_cons.mpr ⟨c9, List.forall_mem_cons.mpr ⟨c10, List.forall_mem_cons.mpr ⟨c11, fun _ h => absurd h List.not_mem_nil⟩⟩⟩⟩⟩⟩⟩⟩⟩⟩⟩) (by decide) (by decide) (by decide) ?_
  refine lv_aload_n hx hb dX8_write_200 rfl (lv_at hl 0 rfl) ?_
  refine va_get (D := G) (ci := 8) (v := .ref aMp) (C := RX8) (T := TX8) (N := 13) hx hb hts iwX8_write_X8 hown hK hP 0 rfl rfl 0 (by decide) (hts _ lkX8_write_27) (fun _ h9 => h9) rfl dX8_write_201 ?_
  refine lv_iload_n hx hb dX8_write_204 rfl (lv_at hl 1 rfl) ?_
  refine lv_iload_n hx hb dX8_write_205 rfl (lv_at hl 2 rfl) ?_
  obtain ⟨o1, hs⟩ := hs
  refine k_vV (As := [.int p0, .int p1]) (rest := []) (wc := [(aMp, .inr (5, [.ref aWo, .int mp_sets])), (aWo, .inl (cI, 512, .inl wo))]) (wr := [(aSp, .inr (8, [.ref aMp, .ref aLi, .int sp_sr, .int sp_epc, .int sp_esr, .int sp_eea, .int sp_held, .long sp_sum, .int sp_count, .int sp_timer, .int sp_mask, .int sp_retired, .int sp_latch]))]) ⟨hx, hb, hml, hown, hts⟩ hK hP hD hS hA [1, 2] [0] rfl rfl rfl rfl (by decide) (mX5_put l G cI cB cP aMp aWo mp_sets wo H.size p0 p1 o1) (cwV 2 hts gX8_write_X5_put rfl rfl rfl (by decide +kernel) ⟨Nat.le_of_ble_eq_true rfl, Nat.le_of_ble_eq_true rfl⟩) 1 5 rfl rfl rfl rfl hl.1 rfl (Nat.le_of_ble_eq_true rfl) dX8_write_206 ⟨Nat.le_of_ble_eq_true rfl, Nat.le_of_ble_eq_true rfl⟩ (fun z1 H locs hz1 hEz1 hP hD hS => ?_)
  have hs := hs z1 hz1
  have hP : va_P G vwCl [(aSp, .inr (8, [.ref aMp, .ref aLi, .int sp_sr, .int sp_epc, .int sp_esr, .int sp_eea, .int sp_held, .long sp_sum, .int sp_count, .int sp_timer, .int sp_mask, .int sp_retired, .int sp_latch])), (aMp, .inr (5, [.ref aWo, .int mp_sets])), (aWo, .inl (cI, 512, .inl z1))] H := hP
  have hD : va_D A [(aSp, .inr (8, [.ref aMp, .ref aLi, .int sp_sr, .int sp_epc, .int sp_esr, .int sp_eea, .int sp_held, .long sp_sum, .int sp_count, .int sp_timer, .int sp_mask, .int sp_retired, .int sp_latch])), (aMp, .inr (5, [.ref aWo, .int mp_sets])), (aWo, .inl (cI, 512, .inl z1))] := hD
  exact hret H locs _ ls (sp_sr, sp_epc, sp_esr, sp_eea, sp_held, sp_sum, sp_count, sp_timer, sp_mask, sp_latch, z1) dX8_write_209 (by clear hP hD hS hl; replace hz1 := hz1.symm; subst hz1; exact (((if_neg c1).trans ((if_neg c2).trans ((if_neg c3).trans ((if_neg c4).trans ((if_neg c5).trans ((if_neg c6).trans ((if_neg c7).trans ((if_neg c8).trans ((if_neg c9).trans ((if_neg c10).trans ((if_neg c11).trans (rfl))))))))))))).symm) trivial hP hD hS
def fX8_countOne (sp_count : Int32) (sp_timer : Int32) : Int32 × Int32 :=
  if (jushr sp_timer 29) = 0 then ((sp_count, sp_timer)) else (if ((sp_count + 1) &&& 268435455) = (sp_timer &&& 268435455) then ((let j1 : Int32 := if (jushr sp_timer 29) = 1 then (0) else ((sp_count + 1) &&& 268435455); if (jushr sp_timer 29) = 2 then ((j1, (sp_timer ||| 268435456) &&& 536870911)) else ((j1, sp_timer ||| 268435456)))) else (((sp_count + 1) &&& 268435455, sp_timer)))
theorem lkX8_countOne_51 : Cond.fieldLink RX8 51 "TwinIssue$Specials" "count" "I" ∈ wsX8_countOne := by decide +kernel
theorem lkX8_countOne_54 : Cond.fieldLink RX8 54 "TwinIssue$Specials" "timer" "I" ∈ wsX8_countOne := by decide +kernel
theorem lkX8_countOne_74 : Cond.constant RX8 74 (268435455) ∈ wsX8_countOne := by decide +kernel
theorem lkX8_countOne_84 : Cond.constant RX8 84 (268435456) ∈ wsX8_countOne := by decide +kernel
theorem lkX8_countOne_91 : Cond.constant RX8 91 (536870911) ∈ wsX8_countOne := by decide +kernel
theorem iwX8_countOne_X8 : ∀ w ∈ wsX80, w ∈ wsX8_countOne := fun _ h => List.mem_cons_of_mem _ (List.mem_append_right _ h)
set_option maxHeartbeats 4000000 in
set_option maxRecDepth 100000 in
theorem mX8_countOne (l : Launch) (G : va_G) (cI cB cP : ClassId) (aSp aMp aLi : Nat) (sp_sr : Int32) (sp_epc : Int32) (sp_esr : Int32) (sp_eea : Int32) (sp_held : Int32) (sp_sum : Int64) (sp_count : Int32) (sp_timer : Int32) (sp_mask : Int32) (sp_retired : Int32) (sp_latch : Int32) (sz : Nat) : kMv (S := Int32 × Int32) l yX8_countOne wsX8_countOne ({ frames := 0, cells := 0, slots := 0, locals := 0 }) [.ref aSp] G (kTY cI cB cP) sz [(aSp, .inr (8, [.ref aMp, .ref aLi, .int sp_sr, .int sp_epc, .int sp_esr, .int sp_eea, .int sp_held, .long sp_sum, .int sp_count, .int sp_timer, .int sp_mask, .int sp_retired, .int sp_latch]))] (fX8_countOne sp_count sp_timer) (fun _ => True) (fun u => [(aSp, .inr (8, [.ref aMp, .ref aLi, .int sp_sr, .int sp_epc, .int sp_esr, .int sp_eea, .int sp_held, .long sp_sum, .int u.1, .int u.2, .int sp_mask, .int sp_retired, .int sp_latch]))]) := by
  refine k_ofv (cc := cX8_countOne) (maxL := 2) (by decide) rfl (Nat.le_of_ble_eq_true rfl) ?_
  intro p e s m args below meth c A ls Q H locs hx hb hml hown hts hin hK hP hD hA hS hl hret
  have hown : s.vm.findClass RX8 = some m.cls := hown
  have hl : lv_has ls 2 [(0, .ref aSp)] := hl
  refine lv_aload_n hx hb dX8_countOne_0 rfl (lv_at hl 0 rfl) ?_
  refine va_get (D := G) (ci := 8) (v := .int sp_timer) (C := RX8) (T := TX8) (N := 13) hx hb hts iwX8_countOne_X8 hown hK hP 0 rfl rfl 9 (by decide) (hts _ lkX8_countOne_54) (fun _ h9 => h9) rfl dX8_countOne_1 ?_
  refine lv_bipush (v := 29) hx hb dX8_countOne_4 (by decide) ?_
  refine lv_iushr (v := jushr sp_timer 29) hx hb dX8_countOne_6 rfl ?_
  refine lv_istore_n (lv' := [(1, .int (jushr sp_timer 29)), (0, .ref aSp)]) hx hb dX8_countOne_7 rfl hl (by decide) rfl (fun ls hl => ?_)
  refine lv_iload_n hx hb dX8_countOne_8 rfl (lv_at hl 0 rfl) ?_
  refine lv_if_ne (tgt := 13) hx hb dX8_countOne_9 (by decide) (fun c1 => ?_) (fun c1 => ?_)
  · skip
    refine lv_aload_n hx hb dX8_countOne_13 rfl (lv_at hl 1 rfl) ?_
    refine lv_aload_n hx hb dX8_countOne_14 rfl (lv_at hl 1 rfl) ?_
    refine va_get (D := G) (ci := 8) (v := .int sp_count) (C := RX8) (T := TX8) (N := 13) hx hb hts iwX8_countOne_X8 hown hK hP 0 rfl rfl 8 (by decide) (hts _ lkX8_countOne_51) (fun _ h9 => h9) rfl dX8_countOne_15 ?_
    refine lv_iconst (v := 1) hx hb dX8_countOne_18 (by decide) ?_
    refine lv_iadd hx hb dX8_countOne_19 ?_
    refine lv_ldc (v := 268435455) hx hb hown (hts _ lkX8_countOne_74) dX8_countOne_20 ?_
    refine lv_iand hx hb dX8_countOne_22 ?_
    refine va_put (D := G) (ci := 8) (v := .int ((sp_count + 1) &&& 268435455)) (ty := .int) (C := RX8) (T := TX8) (N := 13) hx hb hts iwX8_countOne_X8 tyX8 tyX8_ok nmX8 hown hK hP hD hS 0 rfl rfl 8 (by decide) (hts _ lkX8_countOne_51) (fun _ h9 => h9) rfl (by decide +kernel) rfl rfl (Nat.le_of_ble_eq_true rfl) dX8_countOne_23 (fun H locs hP hD hS => ?_)
    have hP : va_P G vwCl [(aSp, .inr (8, [.ref aMp, .ref aLi, .int sp_sr, .int sp_epc, .int sp_esr, .int sp_eea, .int sp_held, .long sp_sum, .int ((sp_count + 1) &&& 268435455), .int sp_timer, .int sp_mask, .int sp_retired, .int sp_latch]))] H := hP
    have hD : va_D A [(aSp, .inr (8, [.ref aMp, .ref aLi, .int sp_sr, .int sp_epc, .int sp_esr, .int sp_eea, .int sp_held, .long sp_sum, .int ((sp_count + 1) &&& 268435455), .int sp_timer, .int sp_mask, .int sp_retired, .int sp_latch]))] := hD
    refine lv_aload_n hx hb dX8_countOne_26 rfl (lv_at hl 1 rfl) ?_
    refine va_get (D := G) (ci := 8) (v := .int ((sp_count + 1) &&& 268435455)) (C := RX8) (T := TX8) (N := 13) hx hb hts iwX8_countOne_X8 hown hK hP 0 rfl rfl 8 (by decide) (hts _ lkX8_countOne_51) (fun _ h9 => h9) rfl dX8_countOne_27 ?_
    refine lv_aload_n hx hb dX8_countOne_30 rfl (lv_at hl 1 rfl) ?_
    refine va_get (D := G) (ci := 8) (v := .int sp_timer) (C := RX8) (T := TX8) (N := 13) hx hb hts iwX8_countOne_X8 hown hK hP 0 rfl rfl 9 (by decide) (hts _ lkX8_countOne_54) (fun _ h9 => h9) rfl dX8_countOne_31 ?_
    refine lv_ldc (v := 268435455) hx hb hown (hts _ lkX8_countOne_74) dX8_countOne_34 ?_
    refine lv_iand hx hb dX8_countOne_36 ?_
    refine lv_icmp_eq (tgt := 41) hx hb dX8_countOne_37 (by decide) (fun c2 => ?_) (fun c2 => ?_)
    · skip
      refine lv_aload_n hx hb dX8_countOne_41 rfl (lv_at hl 1 rfl) ?_
      refine lv_dup hx hb dX8_countOne_42 rfl ?_
      refine va_get (D := G) (ci := 8) (v := .int sp_timer) (C := RX8) (T := TX8) (N := 13) hx hb hts iwX8_countOne_X8 hown hK hP 0 rfl rfl 9 (by decide) (hts _ lkX8_countOne_54) (fun _ h9 => h9) rfl dX8_countOne_43 ?_
      refine lv_ldc (v := 268435456) hx hb hown (hts _ lkX8_countOne_84) dX8_countOne_46 ?_
      refine lv_ior hx hb dX8_countOne_48 ?_
      refine va_put (D := G) (ci := 8) (v := .int (sp_timer ||| 268435456)) (ty := .int) (C := RX8) (T := TX8) (N := 13) hx hb hts iwX8_countOne_X8 tyX8 tyX8_ok nmX8 hown hK hP hD hS 0 rfl rfl 9 (by decide) (hts _ lkX8_countOne_54) (fun _ h9 => h9) rfl (by decide +kernel) rfl rfl (Nat.le_of_ble_eq_true rfl) dX8_countOne_49 (fun H locs hP hD hS => ?_)
      have hP : va_P G vwCl [(aSp, .inr (8, [.ref aMp, .ref aLi, .int sp_sr, .int sp_epc, .int sp_esr, .int sp_eea, .int sp_held, .long sp_sum, .int ((sp_count + 1) &&& 268435455), .int (sp_timer ||| 268435456), .int sp_mask, .int sp_retired, .int sp_latch]))] H := hP
      have hD : va_D A [(aSp, .inr (8, [.ref aMp, .ref aLi, .int sp_sr, .int sp_epc, .int sp_esr, .int sp_eea, .int sp_held, .long sp_sum, .int ((sp_count + 1) &&& 268435455), .int (sp_timer ||| 268435456), .int sp_mask, .int sp_retired, .int sp_latch]))] := hD
      refine lv_iload_n hx hb dX8_countOne_52 rfl (lv_at hl 0 rfl) ?_
      refine lv_iconst (v := 1) hx hb dX8_countOne_53 (by decide) ?_
      have Kj1 : ∀ (j1 : Int32) (H : Heap) (locs : List Loc) (ls : Array Slot), j1 = (if (jushr sp_timer 29) = 1 then (0) else ((sp_count + 1) &&& 268435455)) → va_P G vwCl [(aSp, .inr (8, [.ref aMp, .ref aLi, .int sp_sr, .int sp_epc, .int sp_esr, .int sp_eea, .int sp_held, .long sp_sum, .int j1, .int (sp_timer ||| 268435456), .int sp_mask, .int sp_retired, .int sp_latch]))] H → va_D A [(aSp, .inr (8, [.ref aMp, .ref aLi, .int sp_sr, .int sp_epc, .int sp_esr, .int sp_eea, .int sp_held, .long sp_sum, .int j1, .int (sp_timer ||| 268435456), .int sp_mask, .int sp_retired, .int sp_latch]))] → va_S A s.heap H locs → lv_has ls 2 [(1, .int (jushr sp_timer 29)), (0, .ref aSp)] → W p l e ({ frames := 0, cells := 0, slots := 0, locals := 0 }) s m args below meth c H locs 0 0 Q (F0 m 62 ls []) := by
        intro j1 H locs ls hj1 hP hD hS hl
        refine lv_iload_n hx hb dX8_countOne_62 rfl (lv_at hl 0 rfl) ?_
        refine lv_iconst (v := 2) hx hb dX8_countOne_63 (by decide) ?_
        refine lv_icmp_ne (tgt := 78) hx hb dX8_countOne_64 (by decide) (fun c5 => ?_) (fun c5 => ?_)
        · skip
          exact hret H locs _ ls (j1, sp_timer ||| 268435456) dX8_countOne_78 (by clear hP hD hS hl; replace hj1 := hj1.symm; subst hj1; exact (((if_neg c1).trans ((if_pos c2).trans ((if_neg c5).trans (rfl))))).symm) trivial hP hD hS
        · skip
          refine lv_aload_n hx hb dX8_countOne_67 rfl (lv_at hl 1 rfl) ?_
          refine lv_dup hx hb dX8_countOne_68 rfl ?_
          refine va_get (D := G) (ci := 8) (v := .int (sp_timer ||| 268435456)) (C := RX8) (T := TX8) (N := 13) hx hb hts iwX8_countOne_X8 hown hK hP 0 rfl rfl 9 (by decide) (hts _ lkX8_countOne_54) (fun _ h9 => h9) rfl dX8_countOne_69 ?_
          refine lv_ldc (v := 536870911) hx hb hown (hts _ lkX8_countOne_91) dX8_countOne_72 ?_
          refine lv_iand hx hb dX8_countOne_74 ?_
          refine va_put (D := G) (ci := 8) (v := .int ((sp_timer ||| 268435456) &&& 536870911)) (ty := .int) (C := RX8) (T := TX8) (N := 13) hx hb hts iwX8_countOne_X8 tyX8 tyX8_ok nmX8 hown hK hP hD hS 0 rfl rfl 9 (by decide) (hts _ lkX8_countOne_54) (fun _ h9 => h9) rfl (by decide +kernel) rfl rfl (Nat.le_of_ble_eq_true rfl) dX8_countOne_75 (fun H locs hP hD hS => ?_)
          have hP : va_P G vwCl [(aSp, .inr (8, [.ref aMp, .ref aLi, .int sp_sr, .int sp_epc, .int sp_esr, .int sp_eea, .int sp_held, .long sp_sum, .int j1, .int ((sp_timer ||| 268435456) &&& 536870911), .int sp_mask, .int sp_retired, .int sp_latch]))] H := hP
          have hD : va_D A [(aSp, .inr (8, [.ref aMp, .ref aLi, .int sp_sr, .int sp_epc, .int sp_esr, .int sp_eea, .int sp_held, .long sp_sum, .int j1, .int ((sp_timer ||| 268435456) &&& 536870911), .int sp_mask, .int sp_retired, .int sp_latch]))] := hD
          exact hret H locs _ ls (j1, (sp_timer ||| 268435456) &&& 536870911) dX8_countOne_78 (by clear hP hD hS hl; replace hj1 := hj1.symm; subst hj1; exact (((if_neg c1).trans ((if_pos c2).trans ((if_pos c5).trans (rfl))))).symm) trivial hP hD hS
      refine lv_icmp_ne (tgt := 62) hx hb dX8_countOne_54 (by decide) (fun c6 => ?_) (fun c6 => ?_)
      · skip
        exact Kj1 ((sp_count + 1) &&& 268435455) H locs ls ((if_neg c6).trans (rfl)).symm  hP hD hS (lv_sub hl [0, 1] rfl)
      · skip
        refine lv_aload_n hx hb dX8_countOne_57 rfl (lv_at hl 1 rfl) ?_
        refine lv_iconst (v := 0) hx hb dX8_countOne_58 (by decide) ?_
        refine va_put (D := G) (ci := 8) (v := .int 0) (ty := .int) (C := RX8) (T := TX8) (N := 13) hx hb hts iwX8_countOne_X8 tyX8 tyX8_ok nmX8 hown hK hP hD hS 0 rfl rfl 8 (by decide) (hts _ lkX8_countOne_51) (fun _ h9 => h9) rfl (by decide +kernel) rfl rfl (Nat.le_of_ble_eq_true rfl) dX8_countOne_59 (fun H locs hP hD hS => ?_)
        have hP : va_P G vwCl [(aSp, .inr (8, [.ref aMp, .ref aLi, .int sp_sr, .int sp_epc, .int sp_esr, .int sp_eea, .int sp_held, .long sp_sum, .int 0, .int (sp_timer ||| 268435456), .int sp_mask, .int sp_retired, .int sp_latch]))] H := hP
        have hD : va_D A [(aSp, .inr (8, [.ref aMp, .ref aLi, .int sp_sr, .int sp_epc, .int sp_esr, .int sp_eea, .int sp_held, .long sp_sum, .int 0, .int (sp_timer ||| 268435456), .int sp_mask, .int sp_retired, .int sp_latch]))] := hD
        exact Kj1 0 H locs ls ((if_pos c6).trans (rfl)).symm  hP hD hS (lv_sub hl [0, 1] rfl)
    · skip
      exact hret H locs _ ls ((sp_count + 1) &&& 268435455, sp_timer) dX8_countOne_40 ((if_neg c1).trans ((if_neg c2).trans (rfl))).symm trivial hP hD hS
  · skip
    exact hret H locs _ ls (sp_count, sp_timer) dX8_countOne_12 ((if_pos c1).trans (rfl)).symm trivial hP hD hS
def fX8_retire (sp_held : Int32) (sp_count : Int32) (sp_timer : Int32) (sp_retired : Int32) (sp_latch : Int32) (li_passed : Int32) (li_size : Int32) (co : Nat → Int32) (va : Nat → Int32) : Int32 × Int32 × Int32 × Int32 × Int32 :=
  (let z1 := fX8_countOne sp_count sp_timer; (let z2 := fX4_at li_passed li_size co va (sp_retired + 1); (sp_held ||| (z2.1 &&& sp_latch), z1.1, z1.2, sp_retired + 1, z2.2)))
theorem lkX8_retire_12 : Cond.fieldLink RX8 12 "TwinIssue$Specials" "lines" "LTwinIssue$Lines;" ∈ wsX8_retire := by decide +kernel
theorem lkX8_retire_44 : Cond.fieldLink RX8 44 "TwinIssue$Specials" "held" "I" ∈ wsX8_retire := by decide +kernel
theorem lkX8_retire_60 : Cond.fieldLink RX8 60 "TwinIssue$Specials" "retired" "I" ∈ wsX8_retire := by decide +kernel
theorem lkX8_retire_63 : Cond.fieldLink RX8 63 "TwinIssue$Specials" "latch" "I" ∈ wsX8_retire := by decide +kernel
theorem iwX8_retire_X8 : ∀ w ∈ wsX80, w ∈ wsX8_retire := fun _ h => List.mem_cons_of_mem _ (List.mem_append_left _ (List.mem_append_right _ h))
def sX8_retire (sp_count : Int32) (sp_timer : Int32) (sp_retired : Int32) (li_passed : Int32) (li_size : Int32) (co : Nat → Int32) (va : Nat → Int32) : Prop :=
  (∀ z1, z1 = fX8_countOne sp_count sp_timer → ((sX4_at li_passed li_size co va (sp_retired + 1)) ∧ ((∀ z2, z2 = fX4_at li_passed li_size co va (sp_retired + 1) → True))))
set_option maxHeartbeats 4000000 in
set_option maxRecDepth 100000 in
theorem mX8_retire (l : Launch) (G : va_G) (cI cB cP : ClassId) (aSp aMp aLi aCo aVa : Nat) (sp_sr : Int32) (sp_epc : Int32) (sp_esr : Int32) (sp_eea : Int32) (sp_held : Int32) (sp_sum : Int64) (sp_count : Int32) (sp_timer : Int32) (sp_mask : Int32) (sp_retired : Int32) (sp_latch : Int32) (li_passed : Int32) (li_size : Int32) (co : Nat → Int32) (va : Nat → Int32) (sz : Nat) (hs : sX8_retire sp_count sp_timer sp_retired li_passed li_size co va) : kMv (S := Int32 × Int32 × Int32 × Int32 × Int32) l yX8_retire wsX8_retire ({ frames := 1, cells := 0, slots := 0, locals := 21 }) [.ref aSp] G (kTY cI cB cP) sz [(aSp, .inr (8, [.ref aMp, .ref aLi, .int sp_sr, .int sp_epc, .int sp_esr, .int sp_eea, .int sp_held, .long sp_sum, .int sp_count, .int sp_timer, .int sp_mask, .int sp_retired, .int sp_latch])), (aLi, .inr (4, [.ref aCo, .ref aVa, .int li_passed, .int li_size])), (aCo, .inl (cI, 32, .inl co)), (aVa, .inl (cI, 32, .inl va))] (fX8_retire sp_held sp_count sp_timer sp_retired sp_latch li_passed li_size co va) (fun _ => True) (fun u => [(aSp, .inr (8, [.ref aMp, .ref aLi, .int sp_sr, .int sp_epc, .int sp_esr, .int sp_eea, .int u.1, .long sp_sum, .int u.2.1, .int u.2.2.1, .int sp_mask, .int u.2.2.2.1, .int sp_latch])), (aLi, .inr (4, [.ref aCo, .ref aVa, .int u.2.2.2.2, .int li_size])), (aCo, .inl (cI, 32, .inl co)), (aVa, .inl (cI, 32, .inl va))]) := by
  refine k_ofv (cc := cX8_retire) (maxL := 1) (by decide) rfl (Nat.le_of_ble_eq_true rfl) ?_
  intro p e s m args below meth c A ls Q H locs hx hb hml hown hts hin hK hP hD hA hS hl hret
  have hown : s.vm.findClass RX8 = some m.cls := hown
  have hl : lv_has ls 1 [(0, .ref aSp)] := hl
  unfold sX8_retire at hs
  refine lv_aload_n hx hb dX8_retire_0 rfl (lv_at hl 0 rfl) ?_
  refine lv_dup hx hb dX8_retire_1 rfl ?_
  refine va_get (D := G) (ci := 8) (v := .int sp_retired) (C := RX8) (T := TX8) (N := 13) hx hb hts iwX8_retire_X8 hown hK hP 0 rfl rfl 11 (by decide) (hts _ lkX8_retire_60) (fun _ h9 => h9) rfl dX8_retire_2 ?_
  refine lv_iconst (v := 1) hx hb dX8_retire_5 (by decide) ?_
  refine lv_iadd hx hb dX8_retire_6 ?_
  refine va_put (D := G) (ci := 8) (v := .int (sp_retired + 1)) (ty := .int) (C := RX8) (T := TX8) (N := 13) hx hb hts iwX8_retire_X8 tyX8 tyX8_ok nmX8 hown hK hP hD hS 0 rfl rfl 11 (by decide) (hts _ lkX8_retire_60) (fun _ h9 => h9) rfl (by decide +kernel) rfl rfl (Nat.le_of_ble_eq_true rfl) dX8_retire_7 (fun H locs hP hD hS => ?_)
  have hP : va_P G vwCl [(aSp, .inr (8, [.ref aMp, .ref aLi, .int sp_sr, .int sp_epc, .int sp_esr, .int sp_eea, .int sp_held, .long sp_sum, .int sp_count, .int sp_timer, .int sp_mask, .int (sp_retired + 1), .int sp_latch])), (aLi, .inr (4, [.ref aCo, .ref aVa, .int li_passed, .int li_size])), (aCo, .inl (cI, 32, .inl co)), (aVa, .inl (cI, 32, .inl va))] H := hP
  have hD : va_D A [(aSp, .inr (8, [.ref aMp, .ref aLi, .int sp_sr, .int sp_epc, .int sp_esr, .int sp_eea, .int sp_held, .long sp_sum, .int sp_count, .int sp_timer, .int sp_mask, .int (sp_retired + 1), .int sp_latch])), (aLi, .inr (4, [.ref aCo, .ref aVa, .int li_passed, .int li_size])), (aCo, .inl (cI, 32, .inl co)), (aVa, .inl (cI, 32, .inl va))] := hD
  refine lv_aload_n hx hb dX8_retire_10 rfl (lv_at hl 0 rfl) ?_
  refine k_vV (As := []) (rest := []) (wc := [(aSp, .inr (8, [.ref aMp, .ref aLi, .int sp_sr, .int sp_epc, .int sp_esr, .int sp_eea, .int sp_held, .long sp_sum, .int sp_count, .int sp_timer, .int sp_mask, .int (sp_retired + 1), .int sp_latch]))]) (wr := [(aLi, .inr (4, [.ref aCo, .ref aVa, .int li_passed, .int li_size])), (aCo, .inl (cI, 32, .inl co)), (aVa, .inl (cI, 32, .inl va))]) ⟨hx, hb, hml, hown, hts⟩ hK hP hD hS hA [0] [1, 2, 3] rfl rfl rfl rfl (by decide) (mX8_countOne l G cI cB cP aSp aMp aLi sp_sr sp_epc sp_esr sp_eea sp_held sp_sum sp_count sp_timer sp_mask (sp_retired + 1) sp_latch H.size  ) (cwV 0 hts gX8_retire_X8_countOne rfl rfl rfl (by decide +kernel) ⟨Nat.le_of_ble_eq_true rfl, Nat.le_of_ble_eq_true rfl⟩) 0 8 rfl rfl rfl rfl hl.1 rfl (Nat.le_of_ble_eq_true rfl) dX8_retire_11 ⟨Nat.le_of_ble_eq_true rfl, Nat.le_of_ble_eq_true rfl⟩ (fun z1 H locs hz1 hEz1 hP hD hS => ?_)
  have hs := hs z1 hz1
  have hP : va_P G vwCl [(aLi, .inr (4, [.ref aCo, .ref aVa, .int li_passed, .int li_size])), (aCo, .inl (cI, 32, .inl co)), (aVa, .inl (cI, 32, .inl va)), (aSp, .inr (8, [.ref aMp, .ref aLi, .int sp_sr, .int sp_epc, .int sp_esr, .int sp_eea, .int sp_held, .long sp_sum, .int z1.1, .int z1.2, .int sp_mask, .int (sp_retired + 1), .int sp_latch]))] H := hP
  have hD : va_D A [(aLi, .inr (4, [.ref aCo, .ref aVa, .int li_passed, .int li_size])), (aCo, .inl (cI, 32, .inl co)), (aVa, .inl (cI, 32, .inl va)), (aSp, .inr (8, [.ref aMp, .ref aLi, .int sp_sr, .int sp_epc, .int sp_esr, .int sp_eea, .int sp_held, .long sp_sum, .int z1.1, .int z1.2, .int sp_mask, .int (sp_retired + 1), .int sp_latch]))] := hD
  refine lv_aload_n hx hb dX8_retire_14 rfl (lv_at hl 0 rfl) ?_
  refine lv_dup hx hb dX8_retire_15 rfl ?_
  refine va_get (D := G) (ci := 8) (v := .int sp_held) (C := RX8) (T := TX8) (N := 13) hx hb hts iwX8_retire_X8 hown hK hP 3 rfl rfl 6 (by decide) (hts _ lkX8_retire_44) (fun _ h9 => h9) rfl dX8_retire_16 ?_
  refine lv_aload_n hx hb dX8_retire_19 rfl (lv_at hl 0 rfl) ?_
  refine va_get (D := G) (ci := 8) (v := .ref aLi) (C := RX8) (T := TX8) (N := 13) hx hb hts iwX8_retire_X8 hown hK hP 3 rfl rfl 1 (by decide) (hts _ lkX8_retire_12) (fun _ h9 => h9) rfl dX8_retire_20 ?_
  refine lv_aload_n hx hb dX8_retire_23 rfl (lv_at hl 0 rfl) ?_
  refine va_get (D := G) (ci := 8) (v := .int (sp_retired + 1)) (C := RX8) (T := TX8) (N := 13) hx hb hts iwX8_retire_X8 hown hK hP 3 rfl rfl 11 (by decide) (hts _ lkX8_retire_60) (fun _ h9 => h9) rfl dX8_retire_24 ?_
  obtain ⟨o1, hs⟩ := hs
  refine k_iV (As := [.int (sp_retired + 1)]) (rest := [.int sp_held, .ref aSp]) (wc := [(aLi, .inr (4, [.ref aCo, .ref aVa, .int li_passed, .int li_size])), (aCo, .inl (cI, 32, .inl co)), (aVa, .inl (cI, 32, .inl va))]) (wr := [(aSp, .inr (8, [.ref aMp, .ref aLi, .int sp_sr, .int sp_epc, .int sp_esr, .int sp_eea, .int sp_held, .long sp_sum, .int z1.1, .int z1.2, .int sp_mask, .int (sp_retired + 1), .int sp_latch]))]) ⟨hx, hb, hml, hown, hts⟩ hK hP hD hS hA [0, 1, 2] [3] rfl rfl rfl rfl (by decide) (mX4_at l G cI cB cP aLi aCo aVa li_passed li_size co va H.size (sp_retired + 1) o1) (cwV 1 hts gX8_retire_X4_at rfl rfl rfl (by decide +kernel) ⟨Nat.le_of_ble_eq_true rfl, Nat.le_of_ble_eq_true rfl⟩) 0 4 rfl rfl rfl rfl hl.1 rfl (Nat.le_of_ble_eq_true rfl) dX8_retire_27 ⟨Nat.le_of_ble_eq_true rfl, Nat.le_of_ble_eq_true rfl⟩ (fun z2 H locs hz2 hEz2 hP hD hS => ?_)
  have hs := hs z2 hz2
  have hP : va_P G vwCl [(aSp, .inr (8, [.ref aMp, .ref aLi, .int sp_sr, .int sp_epc, .int sp_esr, .int sp_eea, .int sp_held, .long sp_sum, .int z1.1, .int z1.2, .int sp_mask, .int (sp_retired + 1), .int sp_latch])), (aLi, .inr (4, [.ref aCo, .ref aVa, .int z2.2, .int li_size])), (aCo, .inl (cI, 32, .inl co)), (aVa, .inl (cI, 32, .inl va))] H := hP
  have hD : va_D A [(aSp, .inr (8, [.ref aMp, .ref aLi, .int sp_sr, .int sp_epc, .int sp_esr, .int sp_eea, .int sp_held, .long sp_sum, .int z1.1, .int z1.2, .int sp_mask, .int (sp_retired + 1), .int sp_latch])), (aLi, .inr (4, [.ref aCo, .ref aVa, .int z2.2, .int li_size])), (aCo, .inl (cI, 32, .inl co)), (aVa, .inl (cI, 32, .inl va))] := hD
  refine lv_aload_n hx hb dX8_retire_30 rfl (lv_at hl 0 rfl) ?_
  refine va_get (D := G) (ci := 8) (v := .int sp_latch) (C := RX8) (T := TX8) (N := 13) hx hb hts iwX8_retire_X8 hown hK hP 0 rfl rfl 12 (by decide) (hts _ lkX8_retire_63) (fun _ h9 => h9) rfl dX8_retire_31 ?_
  refine lv_iand hx hb dX8_retire_34 ?_
  refine lv_ior hx hb dX8_retire_35 ?_
  refine va_put (D := G) (ci := 8) (v := .int (sp_held ||| (z2.1 &&& sp_latch))) (ty := .int) (C := RX8) (T := TX8) (N := 13) hx hb hts iwX8_retire_X8 tyX8 tyX8_ok nmX8 hown hK hP hD hS 0 rfl rfl 6 (by decide) (hts _ lkX8_retire_44) (fun _ h9 => h9) rfl (by decide +kernel) rfl rfl (Nat.le_of_ble_eq_true rfl) dX8_retire_36 (fun H locs hP hD hS => ?_)
  have hP : va_P G vwCl [(aSp, .inr (8, [.ref aMp, .ref aLi, .int sp_sr, .int sp_epc, .int sp_esr, .int sp_eea, .int (sp_held ||| (z2.1 &&& sp_latch)), .long sp_sum, .int z1.1, .int z1.2, .int sp_mask, .int (sp_retired + 1), .int sp_latch])), (aLi, .inr (4, [.ref aCo, .ref aVa, .int z2.2, .int li_size])), (aCo, .inl (cI, 32, .inl co)), (aVa, .inl (cI, 32, .inl va))] H := hP
  have hD : va_D A [(aSp, .inr (8, [.ref aMp, .ref aLi, .int sp_sr, .int sp_epc, .int sp_esr, .int sp_eea, .int (sp_held ||| (z2.1 &&& sp_latch)), .long sp_sum, .int z1.1, .int z1.2, .int sp_mask, .int (sp_retired + 1), .int sp_latch])), (aLi, .inr (4, [.ref aCo, .ref aVa, .int z2.2, .int li_size])), (aCo, .inl (cI, 32, .inl co)), (aVa, .inl (cI, 32, .inl va))] := hD
  exact hret H locs _ ls (sp_held ||| (z2.1 &&& sp_latch), z1.1, z1.2, sp_retired + 1, z2.2) dX8_retire_39 (by clear hP hD hS hl; replace hz2 := hz2.symm; subst hz2; replace hz1 := hz1.symm; subst hz1; (first | exact rfl | (delta fX8_retire; exact rfl) | (unfold fX8_retire; dsimp only) | (unfold fX8_retire; simp only []))) trivial hP hD hS

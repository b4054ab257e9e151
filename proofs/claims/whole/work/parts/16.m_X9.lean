def fX9_reset (rg : Nat → Int32) (wo : Nat → Int32) : Int32 × Int32 × Int32 × Int32 × Int32 × Int32 × Int32 × Int64 × Int32 × Int32 × Int32 × Int32 × Int32 × Int32 × Int32 × (Nat → Int32) × (Nat → Int32) :=
  (let z1 := fJ7_fill_53178 rg 32 0; (let z2 := fX8_reset wo; (256, 0, z2.1, z2.2.1, z2.2.2.1, z2.2.2.2.1, z2.2.2.2.2.1, z2.2.2.2.2.2.1, z2.2.2.2.2.2.2.1, z2.2.2.2.2.2.2.2.1, z2.2.2.2.2.2.2.2.2.1, z2.2.2.2.2.2.2.2.2.2.1, z2.2.2.2.2.2.2.2.2.2.2.1, z2.2.2.2.2.2.2.2.2.2.2.2.1, z2.2.2.2.2.2.2.2.2.2.2.2.2.1, z1, z2.2.2.2.2.2.2.2.2.2.2.2.2.2)))
theorem lkX9_reset_9 : Cond.fieldLink RX9 9 "TwinIssue$State" "registers" "[I" ∈ wsX9_reset := by decide +kernel
theorem lkX9_reset_15 : Cond.fieldLink RX9 15 "TwinIssue$State" "pc" "I" ∈ wsX9_reset := by decide +kernel
theorem lkX9_reset_24 : Cond.fieldLink RX9 24 "TwinIssue$State" "specials" "LTwinIssue$Specials;" ∈ wsX9_reset := by decide +kernel
theorem lkX9_reset_37 : Cond.fieldLink RX9 37 "TwinIssue$State" "inSlot" "Z" ∈ wsX9_reset := by decide +kernel
theorem iwX9_reset_X9 : ∀ w ∈ wsX90, w ∈ wsX9_reset := fun _ h => List.mem_cons_of_mem _ (List.mem_append_left _ (List.mem_append_left _ (List.mem_append_left _ (List.mem_append_right _ h))))
def sX9_reset (rg : Nat → Int32) (wo : Nat → Int32) : Prop :=
  (sJ7_fill_53178 rg 32 0) ∧ ((∀ z1, z1 = fJ7_fill_53178 rg 32 0 → ((sX8_reset wo) ∧ ((∀ z2, z2 = fX8_reset wo → True)))))
set_option maxHeartbeats 4000000 in
set_option maxRecDepth 100000 in
theorem mX9_reset (l : Launch) (G : va_G) (cI cB cP : ClassId) (aSt aSp aMp aLi aRg aWo aCo aVa : Nat) (st_pc : Int32) (st_inSlot : Int32) (st_branchAt : Int32) (st_target : Int32) (sp_sr : Int32) (sp_epc : Int32) (sp_esr : Int32) (sp_eea : Int32) (sp_held : Int32) (sp_sum : Int64) (sp_count : Int32) (sp_timer : Int32) (sp_mask : Int32) (sp_retired : Int32) (sp_latch : Int32) (mp_sets : Int32) (li_passed : Int32) (li_size : Int32) (rg : Nat → Int32) (wo : Nat → Int32) (sz : Nat) (hs : sX9_reset rg wo) : kMv (S := Int32 × Int32 × Int32 × Int32 × Int32 × Int32 × Int32 × Int64 × Int32 × Int32 × Int32 × Int32 × Int32 × Int32 × Int32 × (Nat → Int32) × (Nat → Int32)) l yX9_reset wsX9_reset ({ frames := 3, cells := 0, slots := 0, locals := 63 }) [.ref aSt] G (kTY cI cB cP) sz [(aSt, .inr (9, [.ref aRg, .ref aSp, .int st_pc, .int st_inSlot, .int st_branchAt, .int st_target])), (aSp, .inr (8, [.ref aMp, .ref aLi, .int sp_sr, .int sp_epc, .int sp_esr, .int sp_eea, .int sp_held, .long sp_sum, .int sp_count, .int sp_timer, .int sp_mask, .int sp_retired, .int sp_latch])), (aMp, .inr (5, [.ref aWo, .int mp_sets])), (aLi, .inr (4, [.ref aCo, .ref aVa, .int li_passed, .int li_size])), (aRg, .inl (cI, 32, .inl rg)), (aWo, .inl (cI, 512, .inl wo))] (fX9_reset rg wo) (fun _ => True) (fun u => [(aSt, .inr (9, [.ref aRg, .ref aSp, .int u.1, .int u.2.1, .int st_branchAt, .int st_target])), (aSp, .inr (8, [.ref aMp, .ref aLi, .int u.2.2.1, .int u.2.2.2.1, .int u.2.2.2.2.1, .int u.2.2.2.2.2.1, .int u.2.2.2.2.2.2.1, .long u.2.2.2.2.2.2.2.1, .int u.2.2.2.2.2.2.2.2.1, .int u.2.2.2.2.2.2.2.2.2.1, .int u.2.2.2.2.2.2.2.2.2.2.1, .int u.2.2.2.2.2.2.2.2.2.2.2.1, .int u.2.2.2.2.2.2.2.2.2.2.2.2.1])), (aMp, .inr (5, [.ref aWo, .int mp_sets])), (aLi, .inr (4, [.ref aCo, .ref aVa, .int u.2.2.2.2.2.2.2.2.2.2.2.2.2.1, .int u.2.2.2.2.2.2.2.2.2.2.2.2.2.2.1])), (aRg, .inl (cI, 32, .inl u.2.2.2.2.2.2.2.2.2.2.2.2.2.2.2.1)), (aWo, .inl (cI, 512, .inl u.2.2.2.2.2.2.2.2.2.2.2.2.2.2.2.2))]) := by
  refine k_ofv (cc := cX9_reset) (maxL := 1) (by decide) rfl (Nat.le_of_ble_eq_true rfl) ?_
  intro p e s m args below meth c A ls Q H locs hx hb hml hown hts hin hK hP hD hA hS hl hret
  have hown : s.vm.findClass RX9 = some m.cls := hown
  have hl : lv_has ls 1 [(0, .ref aSt)] := hl
  unfold sX9_reset at hs
  refine lv_aload_n hx hb dX9_reset_0 rfl (lv_at hl 0 rfl) ?_
  refine va_get (D := G) (ci := 9) (v := .ref aRg) (C := RX9) (T := TX9) (N := 6) hx hb hts iwX9_reset_X9 hown hK hP 0 rfl rfl 0 (by decide) (hts _ lkX9_reset_9) (fun _ h9 => h9) rfl dX9_reset_1 ?_
  refine lv_iconst (v := 0) hx hb dX9_reset_4 (by decide) ?_
  obtain ⟨o1, hs⟩ := hs
  refine k_vSC (As := [.ref aRg, .int 0]) (rest := []) (wc := [(aRg, .inl (cI, 32, .inl rg))]) (wr := [(aSt, .inr (9, [.ref aRg, .ref aSp, .int st_pc, .int st_inSlot, .int st_branchAt, .int st_target])), (aSp, .inr (8, [.ref aMp, .ref aLi, .int sp_sr, .int sp_epc, .int sp_esr, .int sp_eea, .int sp_held, .long sp_sum, .int sp_count, .int sp_timer, .int sp_mask, .int sp_retired, .int sp_latch])), (aMp, .inr (5, [.ref aWo, .int mp_sets])), (aLi, .inr (4, [.ref aCo, .ref aVa, .int li_passed, .int li_size])), (aWo, .inl (cI, 512, .inl wo))]) ⟨hx, hb, hml, hown, hts⟩ hK hP hD hS hA [4] [0, 1, 2, 3, 5] rfl rfl rfl rfl (by decide) (mJ7_fill_53178 l G cI cB cP aRg rg 32 H.size 0 o1) (va_cwS 2 hts gX9_reset_J7_fill_53178 rfl rfl rfl (by decide +kernel) ⟨Nat.le_of_ble_eq_true rfl, Nat.le_of_ble_eq_true rfl⟩) rfl hl.1 rfl (Nat.le_of_ble_eq_true rfl) dX9_reset_5 ⟨Nat.le_of_ble_eq_true rfl, Nat.le_of_ble_eq_true rfl⟩ (fun z1 H locs hz1 hEz1 hP hD hS => ?_)
  have hs := hs z1 hz1
  have hP : va_P G vwCl [(aSt, .inr (9, [.ref aRg, .ref aSp, .int st_pc, .int st_inSlot, .int st_branchAt, .int st_target])), (aSp, .inr (8, [.ref aMp, .ref aLi, .int sp_sr, .int sp_epc, .int sp_esr, .int sp_eea, .int sp_held, .long sp_sum, .int sp_count, .int sp_timer, .int sp_mask, .int sp_retired, .int sp_latch])), (aMp, .inr (5, [.ref aWo, .int mp_sets])), (aLi, .inr (4, [.ref aCo, .ref aVa, .int li_passed, .int li_size])), (aWo, .inl (cI, 512, .inl wo)), (aRg, .inl (cI, 32, .inl z1))] H := hP
  have hD : va_D A [(aSt, .inr (9, [.ref aRg, .ref aSp, .int st_pc, .int st_inSlot, .int st_branchAt, .int st_target])), (aSp, .inr (8, [.ref aMp, .ref aLi, .int sp_sr, .int sp_epc, .int sp_esr, .int sp_eea, .int sp_held, .long sp_sum, .int sp_count, .int sp_timer, .int sp_mask, .int sp_retired, .int sp_latch])), (aMp, .inr (5, [.ref aWo, .int mp_sets])), (aLi, .inr (4, [.ref aCo, .ref aVa, .int li_passed, .int li_size])), (aWo, .inl (cI, 512, .inl wo)), (aRg, .inl (cI, 32, .inl z1))] := hD
  refine lv_aload_n hx hb dX9_reset_8 rfl (lv_at hl 0 rfl) ?_
  refine va_get (D := G) (ci := 9) (v := .ref aSp) (C := RX9) (T := TX9) (N := 6) hx hb hts iwX9_reset_X9 hown hK hP 0 rfl rfl 1 (by decide) (hts _ lkX9_reset_24) (fun _ h9 => h9) rfl dX9_reset_9 ?_
  obtain ⟨o2, hs⟩ := hs
  refine k_vV (As := []) (rest := []) (wc := [(aSp, .inr (8, [.ref aMp, .ref aLi, .int sp_sr, .int sp_epc, .int sp_esr, .int sp_eea, .int sp_held, .long sp_sum, .int sp_count, .int sp_timer, .int sp_mask, .int sp_retired, .int sp_latch])), (aMp, .inr (5, [.ref aWo, .int mp_sets])), (aLi, .inr (4, [.ref aCo, .ref aVa, .int li_passed, .int li_size])), (aWo, .inl (cI, 512, .inl wo))]) (wr := [(aSt, .inr (9, [.ref aRg, .ref aSp, .int st_pc, .int st_inSlot, .int st_branchAt, .int st_target])), (aRg, .inl (cI, 32, .inl z1))]) ⟨hx, hb, hml, hown, hts⟩ hK hP hD hS hA [1, 2, 3, 4] [0, 5] rfl rfl rfl rfl (by decide) (mX8_reset l G cI cB cP aSp aMp aLi aWo aCo aVa sp_sr sp_epc sp_esr sp_eea sp_held sp_sum sp_count sp_timer sp_mask sp_retired sp_latch mp_sets li_passed li_size wo H.size  o2) (cwV 0 hts gX9_reset_X8_reset rfl rfl rfl (by decide +kernel) ⟨Nat.le_of_ble_eq_true rfl, Nat.le_of_ble_eq_true rfl⟩) 1 8 rfl rfl rfl rfl hl.1 rfl (Nat.le_of_ble_eq_true rfl) dX9_reset_12 ⟨Nat.le_of_ble_eq_true rfl, Nat.le_of_ble_eq_true rfl⟩ (fun z2 H locs hz2 hEz2 hP hD hS => ?_)
  have hs := hs z2 hz2
  have hP : va_P G vwCl [(aSt, .inr (9, [.ref aRg, .ref aSp, .int st_pc, .int st_inSlot, .int st_branchAt, .int st_target])), (aRg, .inl (cI, 32, .inl z1)), (aSp, .inr (8, [.ref aMp, .ref aLi, .int z2.1, .int z2.2.1, .int z2.2.2.1, .int z2.2.2.2.1, .int z2.2.2.2.2.1, .long z2.2.2.2.2.2.1, .int z2.2.2.2.2.2.2.1, .int z2.2.2.2.2.2.2.2.1, .int z2.2.2.2.2.2.2.2.2.1, .int z2.2.2.2.2.2.2.2.2.2.1, .int z2.2.2.2.2.2.2.2.2.2.2.1])), (aMp, .inr (5, [.ref aWo, .int mp_sets])), (aLi, .inr (4, [.ref aCo, .ref aVa, .int z2.2.2.2.2.2.2.2.2.2.2.2.1, .int z2.2.2.2.2.2.2.2.2.2.2.2.2.1])), (aWo, .inl (cI, 512, .inl z2.2.2.2.2.2.2.2.2.2.2.2.2.2))] H := hP
  have hD : va_D A [(aSt, .inr (9, [.ref aRg, .ref aSp, .int st_pc, .int st_inSlot, .int st_branchAt, .int st_target])), (aRg, .inl (cI, 32, .inl z1)), (aSp, .inr (8, [.ref aMp, .ref aLi, .int z2.1, .int z2.2.1, .int z2.2.2.1, .int z2.2.2.2.1, .int z2.2.2.2.2.1, .long z2.2.2.2.2.2.1, .int z2.2.2.2.2.2.2.1, .int z2.2.2.2.2.2.2.2.1, .int z2.2.2.2.2.2.2.2.2.1, .int z2.2.2.2.2.2.2.2.2.2.1, .int z2.2.2.2.2.2.2.2.2.2.2.1])), (aMp, .inr (5, [.ref aWo, .int mp_sets])), (aLi, .inr (4, [.ref aCo, .ref aVa, .int z2.2.2.2.2.2.2.2.2.2.2.2.1, .int z2.2.2.2.2.2.2.2.2.2.2.2.2.1])), (aWo, .inl (cI, 512, .inl z2.2.2.2.2.2.2.2.2.2.2.2.2.2))] := hD
  refine lv_aload_n hx hb dX9_reset_15 rfl (lv_at hl 0 rfl) ?_
  refine lv_sipush (v := 256) hx hb dX9_reset_16 (by decide) ?_
  refine va_put (D := G) (ci := 9) (v := .int 256) (ty := .int) (C := RX9) (T := TX9) (N := 6) hx hb hts iwX9_reset_X9 tyX9 tyX9_ok nmX9 hown hK hP hD hS 0 rfl rfl 2 (by decide) (hts _ lkX9_reset_15) (fun _ h9 => h9) rfl (by decide +kernel) rfl rfl (Nat.le_of_ble_eq_true rfl) dX9_reset_19 (fun H locs hP hD hS => ?_)
  have hP : va_P G vwCl [(aSt, .inr (9, [.ref aRg, .ref aSp, .int 256, .int st_inSlot, .int st_branchAt, .int st_target])), (aRg, .inl (cI, 32, .inl z1)), (aSp, .inr (8, [.ref aMp, .ref aLi, .int z2.1, .int z2.2.1, .int z2.2.2.1, .int z2.2.2.2.1, .int z2.2.2.2.2.1, .long z2.2.2.2.2.2.1, .int z2.2.2.2.2.2.2.1, .int z2.2.2.2.2.2.2.2.1, .int z2.2.2.2.2.2.2.2.2.1, .int z2.2.2.2.2.2.2.2.2.2.1, .int z2.2.2.2.2.2.2.2.2.2.2.1])), (aMp, .inr (5, [.ref aWo, .int mp_sets])), (aLi, .inr (4, [.ref aCo, .ref aVa, .int z2.2.2.2.2.2.2.2.2.2.2.2.1, .int z2.2.2.2.2.2.2.2.2.2.2.2.2.1])), (aWo, .inl (cI, 512, .inl z2.2.2.2.2.2.2.2.2.2.2.2.2.2))] H := hP
  have hD : va_D A [(aSt, .inr (9, [.ref aRg, .ref aSp, .int 256, .int st_inSlot, .int st_branchAt, .int st_target])), (aRg, .inl (cI, 32, .inl z1)), (aSp, .inr (8, [.ref aMp, .ref aLi, .int z2.1, .int z2.2.1, .int z2.2.2.1, .int z2.2.2.2.1, .int z2.2.2.2.2.1, .long z2.2.2.2.2.2.1, .int z2.2.2.2.2.2.2.1, .int z2.2.2.2.2.2.2.2.1, .int z2.2.2.2.2.2.2.2.2.1, .int z2.2.2.2.2.2.2.2.2.2.1, .int z2.2.2.2.2.2.2.2.2.2.2.1])), (aMp, .inr (5, [.ref aWo, .int mp_sets])), (aLi, .inr (4, [.ref aCo, .ref aVa, .int z2.2.2.2.2.2.2.2.2.2.2.2.1, .int z2.2.2.2.2.2.2.2.2.2.2.2.2.1])), (aWo, .inl (cI, 512, .inl z2.2.2.2.2.2.2.2.2.2.2.2.2.2))] := hD
  refine lv_aload_n hx hb dX9_reset_22 rfl (lv_at hl 0 rfl) ?_
  refine lv_iconst (v := 0) hx hb dX9_reset_23 (by decide) ?_
  refine va_put (D := G) (ci := 9) (v := .int 0) (ty := .boolean) (C := RX9) (T := TX9) (N := 6) hx hb hts iwX9_reset_X9 tyX9 tyX9_ok nmX9 hown hK hP hD hS 0 rfl rfl 3 (by decide) (hts _ lkX9_reset_37) (fun _ h9 => h9) rfl (by decide +kernel) (nar_b (Or.inl rfl)) (fit_b (Or.inl rfl)) (Nat.le_of_ble_eq_true rfl) dX9_reset_24 (fun H locs hP hD hS => ?_)
  have hP : va_P G vwCl [(aSt, .inr (9, [.ref aRg, .ref aSp, .int 256, .int 0, .int st_branchAt, .int st_target])), (aRg, .inl (cI, 32, .inl z1)), (aSp, .inr (8, [.ref aMp, .ref aLi, .int z2.1, .int z2.2.1, .int z2.2.2.1, .int z2.2.2.2.1, .int z2.2.2.2.2.1, .long z2.2.2.2.2.2.1, .int z2.2.2.2.2.2.2.1, .int z2.2.2.2.2.2.2.2.1, .int z2.2.2.2.2.2.2.2.2.1, .int z2.2.2.2.2.2.2.2.2.2.1, .int z2.2.2.2.2.2.2.2.2.2.2.1])), (aMp, .inr (5, [.ref aWo, .int mp_sets])), (aLi, .inr (4, [.ref aCo, .ref aVa, .int z2.2.2.2.2.2.2.2.2.2.2.2.1, .int z2.2.2.2.2.2.2.2.2.2.2.2.2.1])), (aWo, .inl (cI, 512, .inl z2.2.2.2.2.2.2.2.2.2.2.2.2.2))] H := hP
  have hD : va_D A [(aSt, .inr (9, [.ref aRg, .ref aSp, .int 256, .int 0, .int st_branchAt, .int st_target])), (aRg, .inl (cI, 32, .inl z1)), (aSp, .inr (8, [.ref aMp, .ref aLi, .int z2.1, .int z2.2.1, .int z2.2.2.1, .int z2.2.2.2.1, .int z2.2.2.2.2.1, .long z2.2.2.2.2.2.1, .int z2.2.2.2.2.2.2.1, .int z2.2.2.2.2.2.2.2.1, .int z2.2.2.2.2.2.2.2.2.1, .int z2.2.2.2.2.2.2.2.2.2.1, .int z2.2.2.2.2.2.2.2.2.2.2.1])), (aMp, .inr (5, [.ref aWo, .int mp_sets])), (aLi, .inr (4, [.ref aCo, .ref aVa, .int z2.2.2.2.2.2.2.2.2.2.2.2.1, .int z2.2.2.2.2.2.2.2.2.2.2.2.2.1])), (aWo, .inl (cI, 512, .inl z2.2.2.2.2.2.2.2.2.2.2.2.2.2))] := hD
  have hP := hP.sub (ws' := [(aSt, .inr (9, [.ref aRg, .ref aSp, .int 256, .int 0, .int st_branchAt, .int st_target])), (aSp, .inr (8, [.ref aMp, .ref aLi, .int z2.1, .int z2.2.1, .int z2.2.2.1, .int z2.2.2.2.1, .int z2.2.2.2.2.1, .long z2.2.2.2.2.2.1, .int z2.2.2.2.2.2.2.1, .int z2.2.2.2.2.2.2.2.1, .int z2.2.2.2.2.2.2.2.2.1, .int z2.2.2.2.2.2.2.2.2.2.1, .int z2.2.2.2.2.2.2.2.2.2.2.1])), (aMp, .inr (5, [.ref aWo, .int mp_sets])), (aLi, .inr (4, [.ref aCo, .ref aVa, .int z2.2.2.2.2.2.2.2.2.2.2.2.1, .int z2.2.2.2.2.2.2.2.2.2.2.2.2.1])), (aRg, .inl (cI, 32, .inl z1)), (aWo, .inl (cI, 512, .inl z2.2.2.2.2.2.2.2.2.2.2.2.2.2))]) [0, 2, 3, 4, 1, 5] rfl
  have hD := hD.sub (ws' := [(aSt, .inr (9, [.ref aRg, .ref aSp, .int 256, .int 0, .int st_branchAt, .int st_target])), (aSp, .inr (8, [.ref aMp, .ref aLi, .int z2.1, .int z2.2.1, .int z2.2.2.1, .int z2.2.2.2.1, .int z2.2.2.2.2.1, .long z2.2.2.2.2.2.1, .int z2.2.2.2.2.2.2.1, .int z2.2.2.2.2.2.2.2.1, .int z2.2.2.2.2.2.2.2.2.1, .int z2.2.2.2.2.2.2.2.2.2.1, .int z2.2.2.2.2.2.2.2.2.2.2.1])), (aMp, .inr (5, [.ref aWo, .int mp_sets])), (aLi, .inr (4, [.ref aCo, .ref aVa, .int z2.2.2.2.2.2.2.2.2.2.2.2.1, .int z2.2.2.2.2.2.2.2.2.2.2.2.2.1])), (aRg, .inl (cI, 32, .inl z1)), (aWo, .inl (cI, 512, .inl z2.2.2.2.2.2.2.2.2.2.2.2.2.2))]) [0, 2, 3, 4, 1, 5] (by decide) rfl
  exact hret H locs _ ls (256, 0, z2.1, z2.2.1, z2.2.2.1, z2.2.2.2.1, z2.2.2.2.2.1, z2.2.2.2.2.2.1, z2.2.2.2.2.2.2.1, z2.2.2.2.2.2.2.2.1, z2.2.2.2.2.2.2.2.2.1, z2.2.2.2.2.2.2.2.2.2.1, z2.2.2.2.2.2.2.2.2.2.2.1, z2.2.2.2.2.2.2.2.2.2.2.2.1, z2.2.2.2.2.2.2.2.2.2.2.2.2.1, z1, z2.2.2.2.2.2.2.2.2.2.2.2.2.2) dX9_reset_27 (by clear hP hD hS hl; replace hz2 := hz2.symm; subst hz2; replace hz1 := hz1.symm; subst hz1; (first | exact rfl | (delta fX9_reset; exact rfl) | (unfold fX9_reset; dsimp only) | (unfold fX9_reset; simp only []))) trivial hP hD hS
def fX9_goTo (p0 : Int32) : Int32 × Int32 :=
  (p0, 0)
theorem lkX9_goTo_15 : Cond.fieldLink RX9 15 "TwinIssue$State" "pc" "I" ∈ wsX9_goTo := by decide +kernel
theorem lkX9_goTo_37 : Cond.fieldLink RX9 37 "TwinIssue$State" "inSlot" "Z" ∈ wsX9_goTo := by decide +kernel
theorem iwX9_goTo_X9 : ∀ w ∈ wsX90, w ∈ wsX9_goTo := fun _ h => List.mem_cons_of_mem _ (List.mem_append_right _ h)
set_option maxHeartbeats 4000000 in
set_option maxRecDepth 100000 in
theorem mX9_goTo (l : Launch) (G : va_G) (cI cB cP : ClassId) (aSt aSp aRg : Nat) (st_pc : Int32) (st_inSlot : Int32) (st_branchAt : Int32) (st_target : Int32) (sz : Nat) (p0 : Int32) : kMv (S := Int32 × Int32) l yX9_goTo wsX9_goTo ({ frames := 0, cells := 0, slots := 0, locals := 0 }) [.ref aSt, .int p0] G (kTY cI cB cP) sz [(aSt, .inr (9, [.ref aRg, .ref aSp, .int st_pc, .int st_inSlot, .int st_branchAt, .int st_target]))] (fX9_goTo p0) (fun _ => True) (fun u => [(aSt, .inr (9, [.ref aRg, .ref aSp, .int u.1, .int u.2, .int st_branchAt, .int st_target]))]) := by
  refine k_ofv (cc := cX9_goTo) (maxL := 2) (by decide) rfl (Nat.le_of_ble_eq_true rfl) ?_
  intro p e s m args below meth c A ls Q H locs hx hb hml hown hts hin hK hP hD hA hS hl hret
  have hown : s.vm.findClass RX9 = some m.cls := hown
  have hl : lv_has ls 2 [(0, .ref aSt), (1, .int p0)] := hl
  refine lv_aload_n hx hb dX9_goTo_0 rfl (lv_at hl 0 rfl) ?_
  refine lv_iload_n hx hb dX9_goTo_1 rfl (lv_at hl 1 rfl) ?_
  refine va_put (D := G) (ci := 9) (v := .int p0) (ty := .int) (C := RX9) (T := TX9) (N := 6) hx hb hts iwX9_goTo_X9 tyX9 tyX9_ok nmX9 hown hK hP hD hS 0 rfl rfl 2 (by decide) (hts _ lkX9_goTo_15) (fun _ h9 => h9) rfl (by decide +kernel) rfl rfl (Nat.le_of_ble_eq_true rfl) dX9_goTo_2 (fun H locs hP hD hS => ?_)
  have hP : va_P G vwCl [(aSt, .inr (9, [.ref aRg, .ref aSp, .int p0, .int st_inSlot, .int st_branchAt, .int st_target]))] H := hP
  have hD : va_D A [(aSt, .inr (9, [.ref aRg, .ref aSp, .int p0, .int st_inSlot, .int st_branchAt, .int st_target]))] := hD
  refine lv_aload_n hx hb dX9_goTo_5 rfl (lv_at hl 0 rfl) ?_
  refine lv_iconst (v := 0) hx hb dX9_goTo_6 (by decide) ?_
  refine va_put (D := G) (ci := 9) (v := .int 0) (ty := .boolean) (C := RX9) (T := TX9) (N := 6) hx hb hts iwX9_goTo_X9 tyX9 tyX9_ok nmX9 hown hK hP hD hS 0 rfl rfl 3 (by decide) (hts _ lkX9_goTo_37) (fun _ h9 => h9) rfl (by decide +kernel) (nar_b (Or.inl rfl)) (fit_b (Or.inl rfl)) (Nat.le_of_ble_eq_true rfl) dX9_goTo_7 (fun H locs hP hD hS => ?_)
  have hP : va_P G vwCl [(aSt, .inr (9, [.ref aRg, .ref aSp, .int p0, .int 0, .int st_branchAt, .int st_target]))] H := hP
  have hD : va_D A [(aSt, .inr (9, [.ref aRg, .ref aSp, .int p0, .int 0, .int st_branchAt, .int st_target]))] := hD
  exact hret H locs _ ls (p0, 0) dX9_goTo_10 (by (first | exact rfl | (delta fX9_goTo; exact rfl) | (unfold fX9_goTo; dsimp only) | (unfold fX9_goTo; simp only []))) trivial hP hD hS
def fX9_goToSlot (st_pc : Int32) (p0 : Int32) : Int32 × Int32 × Int32 × Int32 :=
  (st_pc + 4, 1, st_pc, p0)
theorem lkX9_goToSlot_15 : Cond.fieldLink RX9 15 "TwinIssue$State" "pc" "I" ∈ wsX9_goToSlot := by decide +kernel
theorem lkX9_goToSlot_37 : Cond.fieldLink RX9 37 "TwinIssue$State" "inSlot" "Z" ∈ wsX9_goToSlot := by decide +kernel
theorem lkX9_goToSlot_41 : Cond.fieldLink RX9 41 "TwinIssue$State" "target" "I" ∈ wsX9_goToSlot := by decide +kernel
theorem lkX9_goToSlot_44 : Cond.fieldLink RX9 44 "TwinIssue$State" "branchAt" "I" ∈ wsX9_goToSlot := by decide +kernel
theorem iwX9_goToSlot_X9 : ∀ w ∈ wsX90, w ∈ wsX9_goToSlot := fun _ h => List.mem_cons_of_mem _ (List.mem_append_right _ h)
set_option maxHeartbeats 4000000 in
set_option maxRecDepth 100000 in
theorem mX9_goToSlot (l : Launch) (G : va_G) (cI cB cP : ClassId) (aSt aSp aRg : Nat) (st_pc : Int32) (st_inSlot : Int32) (st_branchAt : Int32) (st_target : Int32) (sz : Nat) (p0 : Int32) : kMv (S := Int32 × Int32 × Int32 × Int32) l yX9_goToSlot wsX9_goToSlot ({ frames := 0, cells := 0, slots := 0, locals := 0 }) [.ref aSt, .int p0] G (kTY cI cB cP) sz [(aSt, .inr (9, [.ref aRg, .ref aSp, .int st_pc, .int st_inSlot, .int st_branchAt, .int st_target]))] (fX9_goToSlot st_pc p0) (fun _ => True) (fun u => [(aSt, .inr (9, [.ref aRg, .ref aSp, .int u.1, .int u.2.1, .int u.2.2.1, .int u.2.2.2]))]) := by
  refine k_ofv (cc := cX9_goToSlot) (maxL := 2) (by decide) rfl (Nat.le_of_ble_eq_true rfl) ?_
  intro p e s m args below meth c A ls Q H locs hx hb hml hown hts hin hK hP hD hA hS hl hret
  have hown : s.vm.findClass RX9 = some m.cls := hown
  have hl : lv_has ls 2 [(0, .ref aSt), (1, .int p0)] := hl
  refine lv_aload_n hx hb dX9_goToSlot_0 rfl (lv_at hl 0 rfl) ?_
  refine lv_aload_n hx hb dX9_goToSlot_1 rfl (lv_at hl 0 rfl) ?_
  refine va_get (D := G) (ci := 9) (v := .int st_pc) (C := RX9) (T := TX9) (N := 6) hx hb hts iwX9_goToSlot_X9 hown hK hP 0 rfl rfl 2 (by decide) (hts _ lkX9_goToSlot_15) (fun _ h9 => h9) rfl dX9_goToSlot_2 ?_
  refine va_put (D := G) (ci := 9) (v := .int st_pc) (ty := .int) (C := RX9) (T := TX9) (N := 6) hx hb hts iwX9_goToSlot_X9 tyX9 tyX9_ok nmX9 hown hK hP hD hS 0 rfl rfl 4 (by decide) (hts _ lkX9_goToSlot_44) (fun _ h9 => h9) rfl (by decide +kernel) rfl rfl (Nat.le_of_ble_eq_true rfl) dX9_goToSlot_5 (fun H locs hP hD hS => ?_)
  have hP : va_P G vwCl [(aSt, .inr (9, [.ref aRg, .ref aSp, .int st_pc, .int st_inSlot, .int st_pc, .int st_target]))] H := hP
  have hD : va_D A [(aSt, .inr (9, [.ref aRg, .ref aSp, .int st_pc, .int st_inSlot, .int st_pc, .int st_target]))] := hD
  refine lv_aload_n hx hb dX9_goToSlot_8 rfl (lv_at hl 0 rfl) ?_
  refine lv_iload_n hx hb dX9_goToSlot_9 rfl (lv_at hl 1 rfl) ?_
  refine va_put (D := G) (ci := 9) (v := .int p0) (ty := .int) (C := RX9) (T := TX9) (N := 6) hx hb hts iwX9_goToSlot_X9 tyX9 tyX9_ok nmX9 hown hK hP hD hS 0 rfl rfl 5 (by decide) (hts _ lkX9_goToSlot_41) (fun _ h9 => h9) rfl (by decide +kernel) rfl rfl (Nat.le_of_ble_eq_true rfl) dX9_goToSlot_10 (fun H locs hP hD hS => ?_)
  have hP : va_P G vwCl [(aSt, .inr (9, [.ref aRg, .ref aSp, .int st_pc, .int st_inSlot, .int st_pc, .int p0]))] H := hP
  have hD : va_D A [(aSt, .inr (9, [.ref aRg, .ref aSp, .int st_pc, .int st_inSlot, .int st_pc, .int p0]))] := hD
  refine lv_aload_n hx hb dX9_goToSlot_13 rfl (lv_at hl 0 rfl) ?_
  refine lv_iconst (v := 1) hx hb dX9_goToSlot_14 (by decide) ?_
  refine va_put (D := G) (ci := 9) (v := .int 1) (ty := .boolean) (C := RX9) (T := TX9) (N := 6) hx hb hts iwX9_goToSlot_X9 tyX9 tyX9_ok nmX9 hown hK hP hD hS 0 rfl rfl 3 (by decide) (hts _ lkX9_goToSlot_37) (fun _ h9 => h9) rfl (by decide +kernel) (nar_b (Or.inr rfl)) (fit_b (Or.inr rfl)) (Nat.le_of_ble_eq_true rfl) dX9_goToSlot_15 (fun H locs hP hD hS => ?_)
  have hP : va_P G vwCl [(aSt, .inr (9, [.ref aRg, .ref aSp, .int st_pc, .int 1, .int st_pc, .int p0]))] H := hP
  have hD : va_D A [(aSt, .inr (9, [.ref aRg, .ref aSp, .int st_pc, .int 1, .int st_pc, .int p0]))] := hD
  refine lv_aload_n hx hb dX9_goToSlot_18 rfl (lv_at hl 0 rfl) ?_
  refine lv_dup hx hb dX9_goToSlot_19 rfl ?_
  refine va_get (D := G) (ci := 9) (v := .int st_pc) (C := RX9) (T := TX9) (N := 6) hx hb hts iwX9_goToSlot_X9 hown hK hP 0 rfl rfl 2 (by decide) (hts _ lkX9_goToSlot_15) (fun _ h9 => h9) rfl dX9_goToSlot_20 ?_
  refine lv_iconst (v := 4) hx hb dX9_goToSlot_23 (by decide) ?_
  refine lv_iadd hx hb dX9_goToSlot_24 ?_
  refine va_put (D := G) (ci := 9) (v := .int (st_pc + 4)) (ty := .int) (C := RX9) (T := TX9) (N := 6) hx hb hts iwX9_goToSlot_X9 tyX9 tyX9_ok nmX9 hown hK hP hD hS 0 rfl rfl 2 (by decide) (hts _ lkX9_goToSlot_15) (fun _ h9 => h9) rfl (by decide +kernel) rfl rfl (Nat.le_of_ble_eq_true rfl) dX9_goToSlot_25 (fun H locs hP hD hS => ?_)
  have hP : va_P G vwCl [(aSt, .inr (9, [.ref aRg, .ref aSp, .int (st_pc + 4), .int 1, .int st_pc, .int p0]))] H := hP
  have hD : va_D A [(aSt, .inr (9, [.ref aRg, .ref aSp, .int (st_pc + 4), .int 1, .int st_pc, .int p0]))] := hD
  exact hret H locs _ ls (st_pc + 4, 1, st_pc, p0) dX9_goToSlot_28 (by (first | exact rfl | (delta fX9_goToSlot; exact rfl) | (unfold fX9_goToSlot; dsimp only) | (unfold fX9_goToSlot; simp only []))) trivial hP hD hS
def fX9_goOn (st_pc : Int32) (st_inSlot : Int32) (st_target : Int32) : Int32 × Int32 :=
  (let j1 : Int32 := if st_inSlot = 0 then (st_pc + 4) else (st_target); (j1, 0))
theorem lkX9_goOn_15 : Cond.fieldLink RX9 15 "TwinIssue$State" "pc" "I" ∈ wsX9_goOn := by decide +kernel
theorem lkX9_goOn_37 : Cond.fieldLink RX9 37 "TwinIssue$State" "inSlot" "Z" ∈ wsX9_goOn := by decide +kernel
theorem lkX9_goOn_41 : Cond.fieldLink RX9 41 "TwinIssue$State" "target" "I" ∈ wsX9_goOn := by decide +kernel
theorem iwX9_goOn_X9 : ∀ w ∈ wsX90, w ∈ wsX9_goOn := fun _ h => List.mem_cons_of_mem _ (List.mem_append_right _ h)
set_option maxHeartbeats 4000000 in
set_option maxRecDepth 100000 in
theorem mX9_goOn (l : Launch) (G : va_G) (cI cB cP : ClassId) (aSt aSp aRg : Nat) (st_pc : Int32) (st_inSlot : Int32) (st_branchAt : Int32) (st_target : Int32) (sz : Nat) : kMv (S := Int32 × Int32) l yX9_goOn wsX9_goOn ({ frames := 0, cells := 0, slots := 0, locals := 0 }) [.ref aSt] G (kTY cI cB cP) sz [(aSt, .inr (9, [.ref aRg, .ref aSp, .int st_pc, .int st_inSlot, .int st_branchAt, .int st_target]))] (fX9_goOn st_pc st_inSlot st_target) (fun _ => True) (fun u => [(aSt, .inr (9, [.ref aRg, .ref aSp, .int u.1, .int u.2, .int st_branchAt, .int st_target]))]) := by
  refine k_ofv (cc := cX9_goOn) (maxL := 1) (by decide) rfl (Nat.le_of_ble_eq_true rfl) ?_
  intro p e s m args below meth c A ls Q H locs hx hb hml hown hts hin hK hP hD hA hS hl hret
  have hown : s.vm.findClass RX9 = some m.cls := hown
  have hl : lv_has ls 1 [(0, .ref aSt)] := hl
  refine lv_aload_n hx hb dX9_goOn_0 rfl (lv_at hl 0 rfl) ?_
  refine lv_aload_n hx hb dX9_goOn_1 rfl (lv_at hl 0 rfl) ?_
  refine va_get (D := G) (ci := 9) (v := .int st_inSlot) (C := RX9) (T := TX9) (N := 6) hx hb hts iwX9_goOn_X9 hown hK hP 0 rfl rfl 3 (by decide) (hts _ lkX9_goOn_37) (fun _ h9 => h9) rfl dX9_goOn_2 ?_
  have Kj1 : ∀ (j1 : Int32) (H : Heap) (locs : List Loc) (ls : Array Slot), j1 = (if st_inSlot = 0 then (st_pc + 4) else (st_target)) → va_P G vwCl [(aSt, .inr (9, [.ref aRg, .ref aSp, .int st_pc, .int st_inSlot, .int st_branchAt, .int st_target]))] H → va_D A [(aSt, .inr (9, [.ref aRg, .ref aSp, .int st_pc, .int st_inSlot, .int st_branchAt, .int st_target]))] → va_S A s.heap H locs → lv_has ls 1 [(0, .ref aSt)] → W p l e ({ frames := 0, cells := 0, slots := 0, locals := 0 }) s m args below meth c H locs 0 0 Q (F0 m 21 ls [.int j1, .ref aSt]) := by
    intro j1 H locs ls hj1 hP hD hS hl
    refine va_put (D := G) (ci := 9) (v := .int j1) (ty := .int) (C := RX9) (T := TX9) (N := 6) hx hb hts iwX9_goOn_X9 tyX9 tyX9_ok nmX9 hown hK hP hD hS 0 rfl rfl 2 (by decide) (hts _ lkX9_goOn_15) (fun _ h9 => h9) rfl (by decide +kernel) rfl rfl (Nat.le_of_ble_eq_true rfl) dX9_goOn_21 (fun H locs hP hD hS => ?_)
    have hP : va_P G vwCl [(aSt, .inr (9, [.ref aRg, .ref aSp, .int j1, .int st_inSlot, .int st_branchAt, .int st_target]))] H := hP
    have hD : va_D A [(aSt, .inr (9, [.ref aRg, .ref aSp, .int j1, .int st_inSlot, .int st_branchAt, .int st_target]))] := hD
    refine lv_aload_n hx hb dX9_goOn_24 rfl (lv_at hl 0 rfl) ?_
    refine lv_iconst (v := 0) hx hb dX9_goOn_25 (by decide) ?_
    refine va_put (D := G) (ci := 9) (v := .int 0) (ty := .boolean) (C := RX9) (T := TX9) (N := 6) hx hb hts iwX9_goOn_X9 tyX9 tyX9_ok nmX9 hown hK hP hD hS 0 rfl rfl 3 (by decide) (hts _ lkX9_goOn_37) (fun _ h9 => h9) rfl (by decide +kernel) (nar_b (Or.inl rfl)) (fit_b (Or.inl rfl)) (Nat.le_of_ble_eq_true rfl) dX9_goOn_26 (fun H locs hP hD hS => ?_)
    have hP : va_P G vwCl [(aSt, .inr (9, [.ref aRg, .ref aSp, .int j1, .int 0, .int st_branchAt, .int st_target]))] H := hP
    have hD : va_D A [(aSt, .inr (9, [.ref aRg, .ref aSp, .int j1, .int 0, .int st_branchAt, .int st_target]))] := hD
    exact hret H locs _ ls (j1, 0) dX9_goOn_29 (by clear hP hD hS hl; replace hj1 := hj1.symm; subst hj1; (first | exact rfl | (delta fX9_goOn; exact rfl) | (unfold fX9_goOn; dsimp only) | (unfold fX9_goOn; simp only []))) trivial hP hD hS
  refine lv_if_eq (tgt := 15) hx hb dX9_goOn_5 (by decide) (fun c3 => ?_) (fun c3 => ?_)
  · skip
    refine lv_aload_n hx hb dX9_goOn_15 rfl (lv_at hl 0 rfl) ?_
    refine va_get (D := G) (ci := 9) (v := .int st_pc) (C := RX9) (T := TX9) (N := 6) hx hb hts iwX9_goOn_X9 hown hK hP 0 rfl rfl 2 (by decide) (hts _ lkX9_goOn_15) (fun _ h9 => h9) rfl dX9_goOn_16 ?_
    refine lv_iconst (v := 4) hx hb dX9_goOn_19 (by decide) ?_
    refine lv_iadd hx hb dX9_goOn_20 ?_
    exact Kj1 (st_pc + 4) H locs ls ((if_pos c3).trans (rfl)).symm  hP hD hS (lv_sub hl [0] rfl)
  · skip
    refine lv_aload_n hx hb dX9_goOn_8 rfl (lv_at hl 0 rfl) ?_
    refine va_get (D := G) (ci := 9) (v := .int st_target) (C := RX9) (T := TX9) (N := 6) hx hb hts iwX9_goOn_X9 hown hK hP 0 rfl rfl 5 (by decide) (hts _ lkX9_goOn_41) (fun _ h9 => h9) rfl dX9_goOn_9 ?_
    refine lv_goto (tgt := 21) hx hb dX9_goOn_12 (by decide) ?_
    exact Kj1 st_target H locs ls ((if_neg c3).trans (rfl)).symm  hP hD hS (lv_sub hl [0] rfl)

def fX4_add (li_size : Int32) (co : Nat → Int32) (va : Nat → Int32) (p0 : Int32) (p1 : Int32) : Int32 × Int32 × (Nat → Int32) × (Nat → Int32) :=
  if p0 < 0 then ((0, li_size, co, va)) else (if 32 ≤ li_size then ((0, li_size, co, va)) else (if li_size ≤ 0 then ((1, li_size + 1, upd co li_size.toNatClampNeg p0, upd va li_size.toNatClampNeg p1)) else (if (co (li_size - 1).toNatClampNeg) < p0 then ((1, li_size + 1, upd co li_size.toNatClampNeg p0, upd va li_size.toNatClampNeg p1)) else ((0, li_size, co, va)))))
theorem lkX4_add_9 : Cond.fieldLink RX4 9 "TwinIssue$Lines" "counts" "[I" ∈ wsX4_add := by decide +kernel
theorem lkX4_add_13 : Cond.fieldLink RX4 13 "TwinIssue$Lines" "values" "[I" ∈ wsX4_add := by decide +kernel
theorem lkX4_add_16 : Cond.fieldLink RX4 16 "TwinIssue$Lines" "size" "I" ∈ wsX4_add := by decide +kernel
theorem iwX4_add_X4 : ∀ w ∈ wsX40, w ∈ wsX4_add := fun _ h => List.mem_cons_of_mem _ (List.mem_append_right _ h)
def sX4_add (li_size : Int32) (co : Nat → Int32) (p0 : Int32) : Prop :=
  (p0 < 0 → True) ∧ (¬ (p0 < 0) → ((32 ≤ li_size → True) ∧ (¬ (32 ≤ li_size) → ((li_size ≤ 0 → ((vp_in li_size 32) ∧ ((vp_in li_size 32) ∧ True))) ∧ (¬ (li_size ≤ 0) → ((vp_in (li_size - 1) 32) ∧ (((co (li_size - 1).toNatClampNeg) < p0 → ((vp_in li_size 32) ∧ ((vp_in li_size 32) ∧ True))) ∧ (¬ ((co (li_size - 1).toNatClampNeg) < p0) → True))))))))
set_option maxHeartbeats 4000000 in
set_option maxRecDepth 100000 in
theorem mX4_add (l : Launch) (G : va_G) (cI cB cP : ClassId) (aLi aCo aVa : Nat) (li_passed : Int32) (li_size : Int32) (co : Nat → Int32) (va : Nat → Int32) (sz : Nat) (p0 : Int32) (p1 : Int32) (hs : sX4_add li_size co p0) : kMi (S := Int32 × (Nat → Int32) × (Nat → Int32)) l yX4_add wsX4_add ({ frames := 0, cells := 0, slots := 0, locals := 0 }) [.ref aLi, .int p0, .int p1] G (kTY cI cB cP) sz [(aLi, .inr (4, [.ref aCo, .ref aVa, .int li_passed, .int li_size])), (aCo, .inl (cI, 32, .inl co)), (aVa, .inl (cI, 32, .inl va))] (fX4_add li_size co va p0 p1) (fun r _ => isB r) (fun u => [(aLi, .inr (4, [.ref aCo, .ref aVa, .int li_passed, .int u.1])), (aCo, .inl (cI, 32, .inl u.2.1)), (aVa, .inl (cI, 32, .inl u.2.2))]) := by
  refine k_ofz (cc := cX4_add) (maxL := 3) (by decide) rfl (Nat.le_of_ble_eq_true rfl) ?_
  intro p e s m args below meth c A ls Q H locs hx hb hml hown hts hin hK hP hD hA hS hl hret
  have hown : s.vm.findClass RX4 = some m.cls := hown
  have hl : lv_has ls 3 [(0, .ref aLi), (1, .int p0), (2, .int p1)] := hl
  unfold sX4_add at hs
  refine lv_iload_n hx hb dX4_add_0 rfl (lv_at hl 1 rfl) ?_
  refine lv_if_lt (tgt := 35) hx hb dX4_add_1 (by decide) (fun c1 => ?_) (fun c1 => ?_)
  · have hs := hs.1 c1
    refine lv_iconst (v := 0) hx hb dX4_add_35 (by decide) ?_
    exact hret H locs _ ls 0 (li_size, co, va) dX4_add_36 ((if_pos c1).trans (rfl)).symm (Or.inl rfl) (Or.inl rfl) hP hD hS
  · have hs := hs.2 c1
    refine lv_aload_n hx hb dX4_add_4 rfl (lv_at hl 0 rfl) ?_
    refine va_get (D := G) (ci := 4) (v := .int li_size) (C := RX4) (T := TX4) (N := 4) hx hb hts iwX4_add_X4 hown hK hP 0 rfl rfl 3 (by decide) (hts _ lkX4_add_16) (fun _ h9 => h9) rfl dX4_add_5 ?_
    refine lv_bipush (v := 32) hx hb dX4_add_8 (by decide) ?_
    refine lv_icmp_ge (tgt := 35) hx hb dX4_add_10 (by decide) (fun c2 => ?_) (fun c2 => ?_)
    · have hs := hs.1 c2
      refine lv_iconst (v := 0) hx hb dX4_add_35 (by decide) ?_
      exact hret H locs _ ls 0 (li_size, co, va) dX4_add_36 ((if_neg c1).trans ((if_pos c2).trans (rfl))).symm (Or.inl rfl) (Or.inl rfl) hP hD hS
    · have hs := hs.2 c2
      refine lv_aload_n hx hb dX4_add_13 rfl (lv_at hl 0 rfl) ?_
      refine va_get (D := G) (ci := 4) (v := .int li_size) (C := RX4) (T := TX4) (N := 4) hx hb hts iwX4_add_X4 hown hK hP 0 rfl rfl 3 (by decide) (hts _ lkX4_add_16) (fun _ h9 => h9) rfl dX4_add_14 ?_
      refine lv_if_le (tgt := 37) hx hb dX4_add_17 (by decide) (fun c3 => ?_) (fun c3 => ?_)
      · have hs := hs.1 c3
        refine lv_aload_n hx hb dX4_add_37 rfl (lv_at hl 0 rfl) ?_
        refine va_get (D := G) (ci := 4) (v := .ref aCo) (C := RX4) (T := TX4) (N := 4) hx hb hts iwX4_add_X4 hown hK hP 0 rfl rfl 0 (by decide) (hts _ lkX4_add_9) (fun _ h9 => h9) rfl dX4_add_38 ?_
        refine lv_aload_n hx hb dX4_add_41 rfl (lv_at hl 0 rfl) ?_
        refine va_get (D := G) (ci := 4) (v := .int li_size) (C := RX4) (T := TX4) (N := 4) hx hb hts iwX4_add_X4 hown hK hP 0 rfl rfl 3 (by decide) (hts _ lkX4_add_16) (fun _ h9 => h9) rfl dX4_add_42 ?_
        refine lv_iload_n hx hb dX4_add_45 rfl (lv_at hl 1 rfl) ?_
        obtain ⟨o1, hs⟩ := hs
        refine va_iast hx hb hK hP hD hS 1 0 rfl rfl o1 dX4_add_46 (fun H locs hP hD hS => ?_)
        have hP : va_P G vwCl [(aLi, .inr (4, [.ref aCo, .ref aVa, .int li_passed, .int li_size])), (aCo, .inl (cI, 32, .inl (upd co li_size.toNatClampNeg p0))), (aVa, .inl (cI, 32, .inl va))] H := hP
        have hD : va_D A [(aLi, .inr (4, [.ref aCo, .ref aVa, .int li_passed, .int li_size])), (aCo, .inl (cI, 32, .inl (upd co li_size.toNatClampNeg p0))), (aVa, .inl (cI, 32, .inl va))] := hD
        refine lv_aload_n hx hb dX4_add_47 rfl (lv_at hl 0 rfl) ?_
        refine va_get (D := G) (ci := 4) (v := .ref aVa) (C := RX4) (T := TX4) (N := 4) hx hb hts iwX4_add_X4 hown hK hP 0 rfl rfl 1 (by decide) (hts _ lkX4_add_13) (fun _ h9 => h9) rfl dX4_add_48 ?_
        refine lv_aload_n hx hb dX4_add_51 rfl (lv_at hl 0 rfl) ?_
        refine va_get (D := G) (ci := 4) (v := .int li_size) (C := RX4) (T := TX4) (N := 4) hx hb hts iwX4_add_X4 hown hK hP 0 rfl rfl 3 (by decide) (hts _ lkX4_add_16) (fun _ h9 => h9) rfl dX4_add_52 ?_
        refine lv_iload_n hx hb dX4_add_55 rfl (lv_at hl 2 rfl) ?_
        obtain ⟨o2, hs⟩ := hs
        refine va_iast hx hb hK hP hD hS 2 0 rfl rfl o2 dX4_add_56 (fun H locs hP hD hS => ?_)
        have hP : va_P G vwCl [(aLi, .inr (4, [.ref aCo, .ref aVa, .int li_passed, .int li_size])), (aCo, .inl (cI, 32, .inl (upd co li_size.toNatClampNeg p0))), (aVa, .inl (cI, 32, .inl (upd va li_size.toNatClampNeg p1)))] H := hP
        have hD : va_D A [(aLi, .inr (4, [.ref aCo, .ref aVa, .int li_passed, .int li_size])), (aCo, .inl (cI, 32, .inl (upd co li_size.toNatClampNeg p0))), (aVa, .inl (cI, 32, .inl (upd va li_size.toNatClampNeg p1)))] := hD
        refine lv_aload_n hx hb dX4_add_57 rfl (lv_at hl 0 rfl) ?_
        refine lv_dup hx hb dX4_add_58 rfl ?_
        refine va_get (D := G) (ci := 4) (v := .int li_size) (C := RX4) (T := TX4) (N := 4) hx hb hts iwX4_add_X4 hown hK hP 0 rfl rfl 3 (by decide) (hts _ lkX4_add_16) (fun _ h9 => h9) rfl dX4_add_59 ?_
        refine lv_iconst (v := 1) hx hb dX4_add_62 (by decide) ?_
        refine lv_iadd hx hb dX4_add_63 ?_
        refine va_put (D := G) (ci := 4) (v := .int (li_size + 1)) (ty := .int) (C := RX4) (T := TX4) (N := 4) hx hb hts iwX4_add_X4 tyX4 tyX4_ok nmX4 hown hK hP hD hS 0 rfl rfl 3 (by decide) (hts _ lkX4_add_16) (fun _ h9 => h9) rfl (by decide +kernel) rfl rfl (Nat.le_of_ble_eq_true rfl) dX4_add_64 (fun H locs hP hD hS => ?_)
        have hP : va_P G vwCl [(aLi, .inr (4, [.ref aCo, .ref aVa, .int li_passed, .int (li_size + 1)])), (aCo, .inl (cI, 32, .inl (upd co li_size.toNatClampNeg p0))), (aVa, .inl (cI, 32, .inl (upd va li_size.toNatClampNeg p1)))] H := hP
        have hD : va_D A [(aLi, .inr (4, [.ref aCo, .ref aVa, .int li_passed, .int (li_size + 1)])), (aCo, .inl (cI, 32, .inl (upd co li_size.toNatClampNeg p0))), (aVa, .inl (cI, 32, .inl (upd va li_size.toNatClampNeg p1)))] := hD
        refine lv_iconst (v := 1) hx hb dX4_add_67 (by decide) ?_
        exact hret H locs _ ls 1 (li_size + 1, upd co li_size.toNatClampNeg p0, upd va li_size.toNatClampNeg p1) dX4_add_68 ((if_neg c1).trans ((if_neg c2).trans ((if_pos c3).trans (rfl)))).symm (Or.inr rfl) (Or.inr rfl) hP hD hS
      · have hs := hs.2 c3
        refine lv_iload_n hx hb dX4_add_20 rfl (lv_at hl 1 rfl) ?_
        refine lv_aload_n hx hb dX4_add_21 rfl (lv_at hl 0 rfl) ?_
        refine va_get (D := G) (ci := 4) (v := .ref aCo) (C := RX4) (T := TX4) (N := 4) hx hb hts iwX4_add_X4 hown hK hP 0 rfl rfl 0 (by decide) (hts _ lkX4_add_9) (fun _ h9 => h9) rfl dX4_add_22 ?_
        refine lv_aload_n hx hb dX4_add_25 rfl (lv_at hl 0 rfl) ?_
        refine va_get (D := G) (ci := 4) (v := .int li_size) (C := RX4) (T := TX4) (N := 4) hx hb hts iwX4_add_X4 hown hK hP 0 rfl rfl 3 (by decide) (hts _ lkX4_add_16) (fun _ h9 => h9) rfl dX4_add_26 ?_
        refine lv_iconst (v := 1) hx hb dX4_add_29 (by decide) ?_
        refine lv_isub hx hb dX4_add_30 ?_
        obtain ⟨o3, hs⟩ := hs
        refine va_iald hx hb hK hP 1 0 rfl rfl o3 dX4_add_31 ?_
        refine lv_icmp_gt (tgt := 37) hx hb dX4_add_32 (by decide) (fun c4 => ?_) (fun c4 => ?_)
        · have hs := hs.1 c4
          refine lv_aload_n hx hb dX4_add_37 rfl (lv_at hl 0 rfl) ?_
          refine va_get (D := G) (ci := 4) (v := .ref aCo) (C := RX4) (T := TX4) (N := 4) hx hb hts iwX4_add_X4 hown hK hP 0 rfl rfl 0 (by decide) (hts _ lkX4_add_9) (fun _ h9 => h9) rfl dX4_add_38 ?_
          refine lv_aload_n hx hb dX4_add_41 rfl (lv_at hl 0 rfl) ?_
          refine va_get (D := G) (ci := 4) (v := .int li_size) (C := RX4) (T := TX4) (N := 4) hx hb hts iwX4_add_X4 hown hK hP 0 rfl rfl 3 (by decide) (hts _ lkX4_add_16) (fun _ h9 => h9) rfl dX4_add_42 ?_
          refine lv_iload_n hx hb dX4_add_45 rfl (lv_at hl 1 rfl) ?_
          obtain ⟨o4, hs⟩ := hs
          refine va_iast hx hb hK hP hD hS 1 0 rfl rfl o4 dX4_add_46 (fun H locs hP hD hS => ?_)
          have hP : va_P G vwCl [(aLi, .inr (4, [.ref aCo, .ref aVa, .int li_passed, .int li_size])), (aCo, .inl (cI, 32, .inl (upd co li_size.toNatClampNeg p0))), (aVa, .inl (cI, 32, .inl va))] H := hP
          have hD : va_D A [(aLi, .inr (4, [.ref aCo, .ref aVa, .int li_passed, .int li_size])), (aCo, .inl (cI, 32, .inl (upd co li_size.toNatClampNeg p0))), (aVa, .inl (cI, 32, .inl va))] := hD
          refine lv_aload_n hx hb dX4_add_47 rfl (lv_at hl 0 rfl) ?_
          refine va_get (D := G) (ci := 4) (v := .ref aVa) (C := RX4) (T := TX4) (N := 4) hx hb hts iwX4_add_X4 hown hK hP 0 rfl rfl 1 (by decide) (hts _ lkX4_add_13) (fun _ h9 => h9) rfl dX4_add_48 ?_
          refine lv_aload_n hx hb dX4_add_51 rfl (lv_at hl 0 rfl) ?_
          refine va_get (D := G) (ci := 4) (v := .int li_size) (C := RX4) (T := TX4) (N := 4) hx hb hts iwX4_add_X4 hown hK hP 0 rfl rfl 3 (by decide) (hts _ lkX4_add_16) (fun _ h9 => h9) rfl dX4_add_52 ?_
          refine lv_iload_n hx hb dX4_add_55 rfl (lv_at hl 2 rfl) ?_
          obtain ⟨o5, hs⟩ := hs
          refine va_iast hx hb hK hP hD hS 2 0 rfl rfl o5 dX4_add_56 (fun H locs hP hD hS => ?_)
          have hP : va_P G vwCl [(aLi, .inr (4, [.ref aCo, .ref aVa, .int li_passed, .int li_size])), (aCo, .inl (cI, 32, .inl (upd co li_size.toNatClampNeg p0))), (aVa, .inl (cI, 32, .inl (upd va li_size.toNatClampNeg p1)))] H := hP
          have hD : va_D A [(aLi, .inr (4, [.ref aCo, .ref aVa, .int li_passed, .int li_size])), (aCo, .inl (cI, 32, .inl (upd co li_size.toNatClampNeg p0))), (aVa, .inl (cI, 32, .inl (upd va li_size.toNatClampNeg p1)))] := hD
          refine lv_aload_n hx hb dX4_add_57 rfl (lv_at hl 0 rfl) ?_
          refine lv_dup hx hb dX4_add_58 rfl ?_
          refine va_get (D := G) (ci := 4) (v := .int li_size) (C := RX4) (T := TX4) (N := 4) hx hb hts iwX4_add_X4 hown hK hP 0 rfl rfl 3 (by decide) (hts _ lkX4_add_16) (fun _ h9 => h9) rfl dX4_add_59 ?_
          refine lv_iconst (v := 1) hx hb dX4_add_62 (by decide) ?_
          refine lv_iadd hx hb dX4_add_63 ?_
          refine va_put (D := G) (ci := 4) (v := .int (li_size + 1)) (ty := .int) (C := RX4) (T := TX4) (N := 4) hx hb hts iwX4_add_X4 tyX4 tyX4_ok nmX4 hown hK hP hD hS 0 rfl rfl 3 (by decide) (hts _ lkX4_add_16) (fun _ h9 => h9) rfl (by decide +kernel) rfl rfl (Nat.le_of_ble_eq_true rfl) dX4_add_64 (fun H locs hP hD hS => ?_)
          have hP : va_P G vwCl [(aLi, .inr (4, [.ref aCo, .ref aVa, .int li_passed, .int (li_size + 1)])), (aCo, .inl (cI, 32, .inl (upd co li_size.toNatClampNeg p0))), (aVa, .inl (cI, 32, .inl (upd va li_size.toNatClampNeg p1)))] H := hP
          have hD : va_D A [(aLi, .inr (4, [.ref aCo, .ref aVa, .int li_passed, .int (li_size + 1)])), (aCo, .inl (cI, 32, .inl (upd co li_size.toNatClampNeg p0))), (aVa, .inl (cI, 32, .inl (upd va li_size.toNatClampNeg p1)))] := hD
          refine lv_iconst (v := 1) hx hb dX4_add_67 (by decide) ?_
          exact hret H locs _ ls 1 (li_size + 1, upd co li_size.toNatClampNeg p0, upd va li_size.toNatClampNeg p1) dX4_add_68 ((if_neg c1).trans ((if_neg c2).trans ((if_neg c3).trans ((if_pos c4).trans (rfl))))).symm (Or.inr rfl) (Or.inr rfl) hP hD hS
        · have hs := hs.2 c4
          refine lv_iconst (v := 0) hx hb dX4_add_35 (by decide) ?_
          exact hret H locs _ ls 0 (li_size, co, va) dX4_add_36 ((if_neg c1).trans ((if_neg c2).trans ((if_neg c3).trans ((if_neg c4).trans (rfl))))).symm (Or.inl rfl) (Or.inl rfl) hP hD hS
def fX4_reset  : Int32 × Int32 :=
  (0, 0)
theorem lkX4_reset_16 : Cond.fieldLink RX4 16 "TwinIssue$Lines" "size" "I" ∈ wsX4_reset := by decide +kernel
theorem lkX4_reset_20 : Cond.fieldLink RX4 20 "TwinIssue$Lines" "passed" "I" ∈ wsX4_reset := by decide +kernel
theorem iwX4_reset_X4 : ∀ w ∈ wsX40, w ∈ wsX4_reset := fun _ h => List.mem_cons_of_mem _ (List.mem_append_right _ h)
set_option maxHeartbeats 4000000 in
set_option maxRecDepth 100000 in
theorem mX4_reset (l : Launch) (G : va_G) (cI cB cP : ClassId) (aLi aCo aVa : Nat) (li_passed : Int32) (li_size : Int32) (sz : Nat) : kMv (S := Int32 × Int32) l yX4_reset wsX4_reset ({ frames := 0, cells := 0, slots := 0, locals := 0 }) [.ref aLi] G (kTY cI cB cP) sz [(aLi, .inr (4, [.ref aCo, .ref aVa, .int li_passed, .int li_size]))] (fX4_reset) (fun _ => True) (fun u => [(aLi, .inr (4, [.ref aCo, .ref aVa, .int u.1, .int u.2]))]) := by
  refine k_ofv (cc := cX4_reset) (maxL := 1) (by decide) rfl (Nat.le_of_ble_eq_true rfl) ?_
  intro p e s m args below meth c A ls Q H locs hx hb hml hown hts hin hK hP hD hA hS hl hret
  have hown : s.vm.findClass RX4 = some m.cls := hown
  have hl : lv_has ls 1 [(0, .ref aLi)] := hl
  refine lv_aload_n hx hb dX4_reset_0 rfl (lv_at hl 0 rfl) ?_
  refine lv_iconst (v := 0) hx hb dX4_reset_1 (by decide) ?_
  refine va_put (D := G) (ci := 4) (v := .int 0) (ty := .int) (C := RX4) (T := TX4) (N := 4) hx hb hts iwX4_reset_X4 tyX4 tyX4_ok nmX4 hown hK hP hD hS 0 rfl rfl 3 (by decide) (hts _ lkX4_reset_16) (fun _ h9 => h9) rfl (by decide +kernel) rfl rfl (Nat.le_of_ble_eq_true rfl) dX4_reset_2 (fun H locs hP hD hS => ?_)
  have hP : va_P G vwCl [(aLi, .inr (4, [.ref aCo, .ref aVa, .int li_passed, .int 0]))] H := hP
  have hD : va_D A [(aLi, .inr (4, [.ref aCo, .ref aVa, .int li_passed, .int 0]))] := hD
  refine lv_aload_n hx hb dX4_reset_5 rfl (lv_at hl 0 rfl) ?_
  refine lv_iconst (v := 0) hx hb dX4_reset_6 (by decide) ?_
  refine va_put (D := G) (ci := 4) (v := .int 0) (ty := .int) (C := RX4) (T := TX4) (N := 4) hx hb hts iwX4_reset_X4 tyX4 tyX4_ok nmX4 hown hK hP hD hS 0 rfl rfl 2 (by decide) (hts _ lkX4_reset_20) (fun _ h9 => h9) rfl (by decide +kernel) rfl rfl (Nat.le_of_ble_eq_true rfl) dX4_reset_7 (fun H locs hP hD hS => ?_)
  have hP : va_P G vwCl [(aLi, .inr (4, [.ref aCo, .ref aVa, .int 0, .int 0]))] H := hP
  have hD : va_D A [(aLi, .inr (4, [.ref aCo, .ref aVa, .int 0, .int 0]))] := hD
  exact hret H locs _ ls (0, 0) dX4_reset_10 (by (first | exact rfl | (delta fX4_reset; exact rfl) | (unfold fX4_reset; dsimp only) | (unfold fX4_reset; simp only []))) trivial hP hD hS
def gX4_at_0 (li_size : Int32) (co : Nat → Int32) (va : Nat → Int32) (p0 : Int32) : Nat → (Int32) → Int32 × Int32
  | 0, _ => default
  | n + 1, w1 => if li_size ≤ w1 then (if w1 = 0 then ((0, w1)) else ((va (w1 - 1).toNatClampNeg, w1))) else (if p0 < (co w1.toNatClampNeg) then (if w1 = 0 then ((0, w1)) else ((va (w1 - 1).toNatClampNeg, w1))) else (gX4_at_0 li_size co va p0 n (w1 + 1)))
def sgX4_at_0 (li_size : Int32) (co : Nat → Int32) (va : Nat → Int32) (p0 : Int32) : Nat → (Int32) → Prop
  | 0, _ => False
  | n + 1, w1 => (li_size ≤ w1 → ((w1 = 0 → True) ∧ (¬ (w1 = 0) → ((vp_in (w1 - 1) 32) ∧ True)))) ∧ (¬ (li_size ≤ w1) → ((vp_in w1 32) ∧ ((p0 < (co w1.toNatClampNeg) → ((w1 = 0 → True) ∧ (¬ (w1 = 0) → ((vp_in (w1 - 1) 32) ∧ True)))) ∧ (¬ (p0 < (co w1.toNatClampNeg)) → (sgX4_at_0 li_size co va p0 n (w1 + 1))))))
def fX4_at (li_passed : Int32) (li_size : Int32) (co : Nat → Int32) (va : Nat → Int32) (p0 : Int32) : Int32 × Int32 :=
  gX4_at_0 li_size co va p0 (33) li_passed
theorem lkX4_at_9 : Cond.fieldLink RX4 9 "TwinIssue$Lines" "counts" "[I" ∈ wsX4_at := by decide +kernel
theorem lkX4_at_13 : Cond.fieldLink RX4 13 "TwinIssue$Lines" "values" "[I" ∈ wsX4_at := by decide +kernel
theorem lkX4_at_16 : Cond.fieldLink RX4 16 "TwinIssue$Lines" "size" "I" ∈ wsX4_at := by decide +kernel
theorem lkX4_at_20 : Cond.fieldLink RX4 20 "TwinIssue$Lines" "passed" "I" ∈ wsX4_at := by decide +kernel
theorem iwX4_at_X4 : ∀ w ∈ wsX40, w ∈ wsX4_at := fun _ h => List.mem_cons_of_mem _ (List.mem_append_right _ h)
def sX4_at (li_passed : Int32) (li_size : Int32) (co : Nat → Int32) (va : Nat → Int32) (p0 : Int32) : Prop :=
  sgX4_at_0 li_size co va p0 (33) li_passed
set_option maxHeartbeats 4000000 in
set_option maxRecDepth 100000 in
theorem mX4_at (l : Launch) (G : va_G) (cI cB cP : ClassId) (aLi aCo aVa : Nat) (li_passed : Int32) (li_size : Int32) (co : Nat → Int32) (va : Nat → Int32) (sz : Nat) (p0 : Int32) (hs : sX4_at li_passed li_size co va p0) : kMi (S := Int32) l yX4_at wsX4_at ({ frames := 0, cells := 0, slots := 0, locals := 0 }) [.ref aLi, .int p0] G (kTY cI cB cP) sz [(aLi, .inr (4, [.ref aCo, .ref aVa, .int li_passed, .int li_size])), (aCo, .inl (cI, 32, .inl co)), (aVa, .inl (cI, 32, .inl va))] (fX4_at li_passed li_size co va p0) (fun _ _ => True) (fun u => [(aLi, .inr (4, [.ref aCo, .ref aVa, .int u, .int li_size])), (aCo, .inl (cI, 32, .inl co)), (aVa, .inl (cI, 32, .inl va))]) := by
  refine k_ofi (cc := cX4_at) (maxL := 2) (by decide) rfl (Nat.le_of_ble_eq_true rfl) ?_
  intro p e s m args below meth c A ls Q H locs hx hb hml hown hts hin hK hP hD hA hS hl hret
  have hown : s.vm.findClass RX4 = some m.cls := hown
  have hl : lv_has ls 2 [(0, .ref aLi), (1, .int p0)] := hl
  unfold sX4_at at hs
  have KL0 : ∀ (n : Nat) (w1 : Int32) (H : Heap) (locs : List Loc) (ls : Array Slot), fX4_at li_passed li_size co va p0 = gX4_at_0 li_size co va p0 n w1 → sgX4_at_0 li_size co va p0 n w1 → va_P G vwCl [(aLi, .inr (4, [.ref aCo, .ref aVa, .int w1, .int li_size])), (aCo, .inl (cI, 32, .inl co)), (aVa, .inl (cI, 32, .inl va))] H → va_D A [(aLi, .inr (4, [.ref aCo, .ref aVa, .int w1, .int li_size])), (aCo, .inl (cI, 32, .inl co)), (aVa, .inl (cI, 32, .inl va))] → va_S A s.heap H locs → lv_has ls 2 [(0, .ref aLi), (1, .int p0)] → W p l e ({ frames := 0, cells := 0, slots := 0, locals := 0 }) s m args below meth c H locs 0 0 Q (F0 m 0 ls []) := by
    intro n
    induction n with
    | zero => intro w1 H locs ls hF hs; exact False.elim hs
    | succ n ih =>
      intro w1 H locs ls hF hs hP hD hS hl
      have hs : (li_size ≤ w1 → ((w1 = 0 → True) ∧ (¬ (w1 = 0) → ((vp_in (w1 - 1) 32) ∧ True)))) ∧ (¬ (li_size ≤ w1) → ((vp_in w1 32) ∧ ((p0 < (co w1.toNatClampNeg) → ((w1 = 0 → True) ∧ (¬ (w1 = 0) → ((vp_in (w1 - 1) 32) ∧ True)))) ∧ (¬ (p0 < (co w1.toNatClampNeg)) → (sgX4_at_0 li_size co va p0 n (w1 + 1)))))) := hs
      refine lv_aload_n hx hb dX4_at_0 rfl (lv_at hl 0 rfl) ?_
      refine va_get (D := G) (ci := 4) (v := .int w1) (C := RX4) (T := TX4) (N := 4) hx hb hts iwX4_at_X4 hown hK hP 0 rfl rfl 2 (by decide) (hts _ lkX4_at_20) (fun _ h9 => h9) rfl dX4_at_1 ?_
      refine lv_aload_n hx hb dX4_at_4 rfl (lv_at hl 0 rfl) ?_
      refine va_get (D := G) (ci := 4) (v := .int li_size) (C := RX4) (T := TX4) (N := 4) hx hb hts iwX4_at_X4 hown hK hP 0 rfl rfl 3 (by decide) (hts _ lkX4_at_16) (fun _ h9 => h9) rfl dX4_at_5 ?_
      refine lv_icmp_ge (tgt := 37) hx hb dX4_at_8 (by decide) (fun c3 => ?_) (fun c3 => ?_)
      · have hs := hs.1 c3
        refine lv_aload_n hx hb dX4_at_37 rfl (lv_at hl 0 rfl) ?_
        refine va_get (D := G) (ci := 4) (v := .int w1) (C := RX4) (T := TX4) (N := 4) hx hb hts iwX4_at_X4 hown hK hP 0 rfl rfl 2 (by decide) (hts _ lkX4_at_20) (fun _ h9 => h9) rfl dX4_at_38 ?_
        refine lv_if_ne (tgt := 48) hx hb dX4_at_41 (by decide) (fun c4 => ?_) (fun c4 => ?_)
        · have hs := hs.2 c4
          refine lv_aload_n hx hb dX4_at_48 rfl (lv_at hl 0 rfl) ?_
          refine va_get (D := G) (ci := 4) (v := .ref aVa) (C := RX4) (T := TX4) (N := 4) hx hb hts iwX4_at_X4 hown hK hP 0 rfl rfl 1 (by decide) (hts _ lkX4_at_13) (fun _ h9 => h9) rfl dX4_at_49 ?_
          refine lv_aload_n hx hb dX4_at_52 rfl (lv_at hl 0 rfl) ?_
          refine va_get (D := G) (ci := 4) (v := .int w1) (C := RX4) (T := TX4) (N := 4) hx hb hts iwX4_at_X4 hown hK hP 0 rfl rfl 2 (by decide) (hts _ lkX4_at_20) (fun _ h9 => h9) rfl dX4_at_53 ?_
          refine lv_iconst (v := 1) hx hb dX4_at_56 (by decide) ?_
          refine lv_isub hx hb dX4_at_57 ?_
          obtain ⟨o2, hs⟩ := hs
          refine va_iald hx hb hK hP 2 0 rfl rfl o2 dX4_at_58 ?_
          exact hret H locs _ ls (va (w1 - 1).toNatClampNeg) w1 dX4_at_59 (by exact (hF.trans ((if_pos c3).trans ((if_neg c4).trans (rfl)))).symm) trivial hP hD hS
        · have hs := hs.1 c4
          refine lv_iconst (v := 0) hx hb dX4_at_44 (by decide) ?_
          refine lv_goto (tgt := 59) hx hb dX4_at_45 (by decide) ?_
          exact hret H locs _ ls 0 w1 dX4_at_59 (by exact (hF.trans ((if_pos c3).trans ((if_pos c4).trans (rfl)))).symm) trivial hP hD hS
      · have hs := hs.2 c3
        refine lv_aload_n hx hb dX4_at_11 rfl (lv_at hl 0 rfl) ?_
        refine va_get (D := G) (ci := 4) (v := .ref aCo) (C := RX4) (T := TX4) (N := 4) hx hb hts iwX4_at_X4 hown hK hP 0 rfl rfl 0 (by decide) (hts _ lkX4_at_9) (fun _ h9 => h9) rfl dX4_at_12 ?_
        refine lv_aload_n hx hb dX4_at_15 rfl (lv_at hl 0 rfl) ?_
        refine va_get (D := G) (ci := 4) (v := .int w1) (C := RX4) (T := TX4) (N := 4) hx hb hts iwX4_at_X4 hown hK hP 0 rfl rfl 2 (by decide) (hts _ lkX4_at_20) (fun _ h9 => h9) rfl dX4_at_16 ?_
        obtain ⟨o3, hs⟩ := hs
        refine va_iald hx hb hK hP 1 0 rfl rfl o3 dX4_at_19 ?_
        refine lv_iload_n hx hb dX4_at_20 rfl (lv_at hl 1 rfl) ?_
        refine lv_icmp_gt (tgt := 37) hx hb dX4_at_21 (by decide) (fun c6 => ?_) (fun c6 => ?_)
        · have hs := hs.1 c6
          refine lv_aload_n hx hb dX4_at_37 rfl (lv_at hl 0 rfl) ?_
          refine va_get (D := G) (ci := 4) (v := .int w1) (C := RX4) (T := TX4) (N := 4) hx hb hts iwX4_at_X4 hown hK hP 0 rfl rfl 2 (by decide) (hts _ lkX4_at_20) (fun _ h9 => h9) rfl dX4_at_38 ?_
          refine lv_if_ne (tgt := 48) hx hb dX4_at_41 (by decide) (fun c7 => ?_) (fun c7 => ?_)
          · have hs := hs.2 c7
            refine lv_aload_n hx hb dX4_at_48 rfl (lv_at hl 0 rfl) ?_
            refine va_get (D := G) (ci := 4) (v := .ref aVa) (C := RX4) (T := TX4) (N := 4) hx hb hts iwX4_at_X4 hown hK hP 0 rfl rfl 1 (by decide) (hts _ lkX4_at_13) (fun _ h9 => h9) rfl dX4_at_49 ?_
            refine lv_aload_n hx hb dX4_at_52 rfl (lv_at hl 0 rfl) ?_
            refine va_get (D := G) (ci := 4) (v := .int w1) (C := RX4) (T := TX4) (N := 4) hx hb hts iwX4_at_X4 hown hK hP 0 rfl rfl 2 (by decide) (hts _ lkX4_at_20) (fun _ h9 => h9) rfl dX4_at_53 ?_
            refine lv_iconst (v := 1) hx hb dX4_at_56 (by decide) ?_
            refine lv_isub hx hb dX4_at_57 ?_
            obtain ⟨o4, hs⟩ := hs
            refine va_iald hx hb hK hP 2 0 rfl rfl o4 dX4_at_58 ?_
            exact hret H locs _ ls (va (w1 - 1).toNatClampNeg) w1 dX4_at_59 (by exact (hF.trans ((if_neg c3).trans ((if_pos c6).trans ((if_neg c7).trans (rfl))))).symm) trivial hP hD hS
          · have hs := hs.1 c7
            refine lv_iconst (v := 0) hx hb dX4_at_44 (by decide) ?_
            refine lv_goto (tgt := 59) hx hb dX4_at_45 (by decide) ?_
            exact hret H locs _ ls 0 w1 dX4_at_59 (by exact (hF.trans ((if_neg c3).trans ((if_pos c6).trans ((if_pos c7).trans (rfl))))).symm) trivial hP hD hS
        · have hs := hs.2 c6
          refine lv_aload_n hx hb dX4_at_24 rfl (lv_at hl 0 rfl) ?_
          refine lv_dup hx hb dX4_at_25 rfl ?_
          refine va_get (D := G) (ci := 4) (v := .int w1) (C := RX4) (T := TX4) (N := 4) hx hb hts iwX4_at_X4 hown hK hP 0 rfl rfl 2 (by decide) (hts _ lkX4_at_20) (fun _ h9 => h9) rfl dX4_at_26 ?_
          refine lv_iconst (v := 1) hx hb dX4_at_29 (by decide) ?_
          refine lv_iadd hx hb dX4_at_30 ?_
          refine va_put (D := G) (ci := 4) (v := .int (w1 + 1)) (ty := .int) (C := RX4) (T := TX4) (N := 4) hx hb hts iwX4_at_X4 tyX4 tyX4_ok nmX4 hown hK hP hD hS 0 rfl rfl 2 (by decide) (hts _ lkX4_at_20) (fun _ h9 => h9) rfl (by decide +kernel) rfl rfl (Nat.le_of_ble_eq_true rfl) dX4_at_31 (fun H locs hP hD hS => ?_)
          have hP : va_P G vwCl [(aLi, .inr (4, [.ref aCo, .ref aVa, .int (w1 + 1), .int li_size])), (aCo, .inl (cI, 32, .inl co)), (aVa, .inl (cI, 32, .inl va))] H := hP
          have hD : va_D A [(aLi, .inr (4, [.ref aCo, .ref aVa, .int (w1 + 1), .int li_size])), (aCo, .inl (cI, 32, .inl co)), (aVa, .inl (cI, 32, .inl va))] := hD
          refine lv_goto (tgt := 0) hx hb dX4_at_34 (by decide) ?_
          exact ih (w1 + 1) H locs ls (by exact (hF.trans ((if_neg c3).trans ((if_neg c6).trans (rfl))))) hs hP hD hS (lv_sub hl [0, 1] rfl)
  exact KL0 (33) li_passed H locs ls (by (first | exact rfl | (delta fX4_at; exact rfl) | (unfold fX4_at; dsimp only) | (unfold fX4_at; simp only []))) hs hP hD hS hl

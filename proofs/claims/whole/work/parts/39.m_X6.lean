def fX6_pageOf (p0 : Int32) : Int32 :=
  (jushr p0 10) &&& 63
set_option maxHeartbeats 4000000 in
set_option maxRecDepth 100000 in
theorem mX6_pageOf (l : Launch) (G : va_G) (cI cB cP : ClassId) (sz : Nat) (p0 : Int32) : kMi (S := Unit) l yX6_pageOf wsX6_pageOf ({ frames := 0, cells := 0, slots := 0, locals := 0 }) [.int p0] G (kTY cI cB cP) sz [] (fX6_pageOf p0, ()) (fun _ _ => True) (fun _ => []) := by
  refine k_ofi (cc := cX6_pageOf) (maxL := 1) (by decide) rfl (Nat.le_of_ble_eq_true rfl) ?_
  intro p e s m args below meth c A ls Q H locs hx hb hml hown hts hin hK hP hD hA hS hl hret
  have hown : s.vm.findClass RX6 = some m.cls := hown
  have hl : lv_has ls 1 [(0, .int p0)] := hl
  refine lv_iload_n hx hb dX6_pageOf_0 rfl (lv_at hl 0 rfl) ?_
  refine lv_bipush (v := 10) hx hb dX6_pageOf_1 (by decide) ?_
  refine lv_iushr (v := jushr p0 10) hx hb dX6_pageOf_3 rfl ?_
  refine lv_bipush (v := 63) hx hb dX6_pageOf_4 (by decide) ?_
  refine lv_iand hx hb dX6_pageOf_6 ?_
  exact hret H locs _ ls ((jushr p0 10) &&& 63) () dX6_pageOf_7 (by (first | exact rfl | (delta fX6_pageOf; exact rfl) | (unfold fX6_pageOf; dsimp only) | (unfold fX6_pageOf; simp only []))) trivial hP hD hS
def fX6_wordOf (p0 : Int32) : Int32 :=
  (jushr p0 2) &&& 255
set_option maxHeartbeats 4000000 in
set_option maxRecDepth 100000 in
theorem mX6_wordOf (l : Launch) (G : va_G) (cI cB cP : ClassId) (sz : Nat) (p0 : Int32) : kMi (S := Unit) l yX6_wordOf wsX6_wordOf ({ frames := 0, cells := 0, slots := 0, locals := 0 }) [.int p0] G (kTY cI cB cP) sz [] (fX6_wordOf p0, ()) (fun _ _ => True) (fun _ => []) := by
  refine k_ofi (cc := cX6_wordOf) (maxL := 1) (by decide) rfl (Nat.le_of_ble_eq_true rfl) ?_
  intro p e s m args below meth c A ls Q H locs hx hb hml hown hts hin hK hP hD hA hS hl hret
  have hown : s.vm.findClass RX6 = some m.cls := hown
  have hl : lv_has ls 1 [(0, .int p0)] := hl
  refine lv_iload_n hx hb dX6_wordOf_0 rfl (lv_at hl 0 rfl) ?_
  refine lv_iconst (v := 2) hx hb dX6_wordOf_1 (by decide) ?_
  refine lv_iushr (v := jushr p0 2) hx hb dX6_wordOf_2 rfl ?_
  refine lv_sipush (v := 255) hx hb dX6_wordOf_3 (by decide) ?_
  refine lv_iand hx hb dX6_wordOf_6 ?_
  exact hret H locs _ ls ((jushr p0 2) &&& 255) () dX6_wordOf_7 (by (first | exact rfl | (delta fX6_wordOf; exact rfl) | (unfold fX6_wordOf; dsimp only) | (unfold fX6_wordOf; simp only []))) trivial hP hD hS
def fX6_maskOf (p0 : Int32) : Int32 :=
  if p0 = 4 then ((-1)) else ((1 <<< ((8 * p0) &&& 31)) - 1)
set_option maxHeartbeats 4000000 in
set_option maxRecDepth 100000 in
theorem mX6_maskOf (l : Launch) (G : va_G) (cI cB cP : ClassId) (sz : Nat) (p0 : Int32) : kMi (S := Unit) l yX6_maskOf wsX6_maskOf ({ frames := 0, cells := 0, slots := 0, locals := 0 }) [.int p0] G (kTY cI cB cP) sz [] (fX6_maskOf p0, ()) (fun _ _ => True) (fun _ => []) := by
  refine k_ofi (cc := cX6_maskOf) (maxL := 1) (by decide) rfl (Nat.le_of_ble_eq_true rfl) ?_
  intro p e s m args below meth c A ls Q H locs hx hb hml hown hts hin hK hP hD hA hS hl hret
  have hown : s.vm.findClass RX6 = some m.cls := hown
  have hl : lv_has ls 1 [(0, .int p0)] := hl
  refine lv_iload_n hx hb dX6_maskOf_0 rfl (lv_at hl 0 rfl) ?_
  refine lv_iconst (v := 4) hx hb dX6_maskOf_1 (by decide) ?_
  refine lv_icmp_ne (tgt := 9) hx hb dX6_maskOf_2 (by decide) (fun c1 => ?_) (fun c1 => ?_)
  · skip
    refine lv_iconst (v := 1) hx hb dX6_maskOf_9 (by decide) ?_
    refine lv_bipush (v := 8) hx hb dX6_maskOf_10 (by decide) ?_
    refine lv_iload_n hx hb dX6_maskOf_12 rfl (lv_at hl 0 rfl) ?_
    refine lv_imul hx hb dX6_maskOf_13 ?_
    refine lv_ishl hx hb dX6_maskOf_14 ?_
    refine lv_iconst (v := 1) hx hb dX6_maskOf_15 (by decide) ?_
    refine lv_isub hx hb dX6_maskOf_16 ?_
    exact hret H locs _ ls ((1 <<< ((8 * p0) &&& 31)) - 1) () dX6_maskOf_17 (by exact congrArg (fun x => (x, ())) (((if_neg c1).trans (rfl))).symm) trivial hP hD hS
  · skip
    refine lv_iconst (v := (-1)) hx hb dX6_maskOf_5 (by decide) ?_
    refine lv_goto (tgt := 17) hx hb dX6_maskOf_6 (by decide) ?_
    exact hret H locs _ ls (-1) () dX6_maskOf_17 (by exact congrArg (fun x => (x, ())) (((if_pos c1).trans (rfl))).symm) trivial hP hD hS
def fX6_shiftOf (p0 : Int32) (p1 : Int32) : Int32 :=
  8 * ((4 - p1) - (p0 &&& 3))
set_option maxHeartbeats 4000000 in
set_option maxRecDepth 100000 in
theorem mX6_shiftOf (l : Launch) (G : va_G) (cI cB cP : ClassId) (sz : Nat) (p0 : Int32) (p1 : Int32) : kMi (S := Unit) l yX6_shiftOf wsX6_shiftOf ({ frames := 0, cells := 0, slots := 0, locals := 0 }) [.int p0, .int p1] G (kTY cI cB cP) sz [] (fX6_shiftOf p0 p1, ()) (fun _ _ => True) (fun _ => []) := by
  refine k_ofi (cc := cX6_shiftOf) (maxL := 2) (by decide) rfl (Nat.le_of_ble_eq_true rfl) ?_
  intro p e s m args below meth c A ls Q H locs hx hb hml hown hts hin hK hP hD hA hS hl hret
  have hown : s.vm.findClass RX6 = some m.cls := hown
  have hl : lv_has ls 2 [(0, .int p0), (1, .int p1)] := hl
  refine lv_bipush (v := 8) hx hb dX6_shiftOf_0 (by decide) ?_
  refine lv_iconst (v := 4) hx hb dX6_shiftOf_2 (by decide) ?_
  refine lv_iload_n hx hb dX6_shiftOf_3 rfl (lv_at hl 1 rfl) ?_
  refine lv_isub hx hb dX6_shiftOf_4 ?_
  refine lv_iload_n hx hb dX6_shiftOf_5 rfl (lv_at hl 0 rfl) ?_
  refine lv_iconst (v := 3) hx hb dX6_shiftOf_6 (by decide) ?_
  refine lv_iand hx hb dX6_shiftOf_7 ?_
  refine lv_isub hx hb dX6_shiftOf_8 ?_
  refine lv_imul hx hb dX6_shiftOf_9 ?_
  exact hret H locs _ ls (8 * ((4 - p1) - (p0 &&& 3))) () dX6_shiftOf_10 (by (first | exact rfl | (delta fX6_shiftOf; exact rfl) | (unfold fX6_shiftOf; dsimp only) | (unfold fX6_shiftOf; simp only []))) trivial hP hD hS

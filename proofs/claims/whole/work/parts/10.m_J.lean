def fJ6_compare_7cf53 (p0 : Int32) (p1 : Int32) : Int32 :=
  if p1 ≤ p0 then (if p0 = p1 then (0) else (1)) else ((-1))
set_option maxHeartbeats 4000000 in
set_option maxRecDepth 100000 in
theorem mJ6_compare_7cf53 (l : Launch) (G : va_G) (cI cB cP : ClassId) (sz : Nat) (p0 : Int32) (p1 : Int32) : kMi (S := Unit) l yJ6_compare_7cf53 wsJ6_compare_7cf53 ({ frames := 0, cells := 0, slots := 0, locals := 0 }) [.int p0, .int p1] G (kTY cI cB cP) sz [] (fJ6_compare_7cf53 p0 p1, ()) (fun _ _ => True) (fun _ => []) := by
  refine k_ofi (cc := cJ6_compare_7cf53) (maxL := 2) (by decide) rfl (Nat.le_of_ble_eq_true rfl) ?_
  intro p e s m args below meth c A ls Q H locs hx hb hml hown hts hin hK hP hD hA hS hl hret
  have hown : s.vm.findClass RJ6 = some m.cls := hown
  have hl : lv_has ls 2 [(0, .int p0), (1, .int p1)] := hl
  refine lv_iload_n hx hb dJ6_compare_7cf53_0 rfl (lv_at hl 0 rfl) ?_
  refine lv_iload_n hx hb dJ6_compare_7cf53_1 rfl (lv_at hl 1 rfl) ?_
  refine lv_icmp_ge (tgt := 9) hx hb dJ6_compare_7cf53_2 (by decide) (fun c1 => ?_) (fun c1 => ?_)
  · skip
    refine lv_iload_n hx hb dJ6_compare_7cf53_9 rfl (lv_at hl 0 rfl) ?_
    refine lv_iload_n hx hb dJ6_compare_7cf53_10 rfl (lv_at hl 1 rfl) ?_
    refine lv_icmp_ne (tgt := 18) hx hb dJ6_compare_7cf53_11 (by decide) (fun c2 => ?_) (fun c2 => ?_)
    · skip
      refine lv_iconst (v := 1) hx hb dJ6_compare_7cf53_18 (by decide) ?_
      exact hret H locs _ ls 1 () dJ6_compare_7cf53_19 (by exact congrArg (fun x => (x, ())) (((if_pos c1).trans ((if_neg c2).trans (rfl)))).symm) trivial hP hD hS
    · skip
      refine lv_iconst (v := 0) hx hb dJ6_compare_7cf53_14 (by decide) ?_
      refine lv_goto (tgt := 19) hx hb dJ6_compare_7cf53_15 (by decide) ?_
      exact hret H locs _ ls 0 () dJ6_compare_7cf53_19 (by exact congrArg (fun x => (x, ())) (((if_pos c1).trans ((if_pos c2).trans (rfl)))).symm) trivial hP hD hS
  · skip
    refine lv_iconst (v := (-1)) hx hb dJ6_compare_7cf53_5 (by decide) ?_
    refine lv_goto (tgt := 19) hx hb dJ6_compare_7cf53_6 (by decide) ?_
    exact hret H locs _ ls (-1) () dJ6_compare_7cf53_19 (by exact congrArg (fun x => (x, ())) (((if_neg c1).trans (rfl))).symm) trivial hP hD hS
def fJ6_compareUnsigned_7cf53 (p0 : Int32) (p1 : Int32) : Int32 :=
  (let z1 := fJ6_compare_7cf53 (p0 + (-2147483648)) (p1 + (-2147483648)); z1)
theorem lkJ6_compareUnsigned_7cf53_127 : Cond.constant RJ6 127 (-2147483648) ∈ wsJ6_compareUnsigned_7cf53 := by decide +kernel
set_option maxHeartbeats 4000000 in
set_option maxRecDepth 100000 in
theorem mJ6_compareUnsigned_7cf53 (l : Launch) (G : va_G) (cI cB cP : ClassId) (sz : Nat) (p0 : Int32) (p1 : Int32) : kMi (S := Unit) l yJ6_compareUnsigned_7cf53 wsJ6_compareUnsigned_7cf53 ({ frames := 1, cells := 0, slots := 0, locals := 21 }) [.int p0, .int p1] G (kTY cI cB cP) sz [] (fJ6_compareUnsigned_7cf53 p0 p1, ()) (fun _ _ => True) (fun _ => []) := by
  refine k_ofi (cc := cJ6_compareUnsigned_7cf53) (maxL := 2) (by decide) rfl (Nat.le_of_ble_eq_true rfl) ?_
  intro p e s m args below meth c A ls Q H locs hx hb hml hown hts hin hK hP hD hA hS hl hret
  have hown : s.vm.findClass RJ6 = some m.cls := hown
  have hl : lv_has ls 2 [(0, .int p0), (1, .int p1)] := hl
  refine lv_iload_n hx hb dJ6_compareUnsigned_7cf53_0 rfl (lv_at hl 0 rfl) ?_
  refine lv_ldc (v := (-2147483648)) hx hb hown (hts _ lkJ6_compareUnsigned_7cf53_127) dJ6_compareUnsigned_7cf53_1 ?_
  refine lv_iadd hx hb dJ6_compareUnsigned_7cf53_3 ?_
  refine lv_iload_n hx hb dJ6_compareUnsigned_7cf53_4 rfl (lv_at hl 1 rfl) ?_
  refine lv_ldc (v := (-2147483648)) hx hb hown (hts _ lkJ6_compareUnsigned_7cf53_127) dJ6_compareUnsigned_7cf53_5 ?_
  refine lv_iadd hx hb dJ6_compareUnsigned_7cf53_7 ?_
  refine k_iS (As := [.int (p0 + (-2147483648)), .int (p1 + (-2147483648))]) (rest := []) ⟨hx, hb, hml, hown, hts⟩ hK hP hD hS hA (mJ6_compare_7cf53 l G cI cB cP   H.size (p0 + (-2147483648)) (p1 + (-2147483648)) ) (va_cwS 2 hts gJ6_compareUnsigned_7cf53_J6_compare_7cf53 rfl rfl rfl (by decide +kernel) ⟨Nat.le_of_ble_eq_true rfl, Nat.le_of_ble_eq_true rfl⟩) rfl hl.1 rfl (Nat.le_of_ble_eq_true rfl) dJ6_compareUnsigned_7cf53_8 ⟨Nat.le_of_ble_eq_true rfl, Nat.le_of_ble_eq_true rfl⟩ (fun z1 H locs hz1 hEz1 hP hS => ?_)
  exact hret H locs _ ls z1 () dJ6_compareUnsigned_7cf53_11 (by clear hP hD hS hl; replace hz1 := hz1.symm; subst hz1; (first | exact rfl | (delta fJ6_compareUnsigned_7cf53; exact rfl) | (unfold fJ6_compareUnsigned_7cf53; dsimp only) | (unfold fJ6_compareUnsigned_7cf53; simp only []))) trivial hP hD hS
def fJ6_numberOfLeadingZeros_0f7a4 (p0 : Int32) : Int32 :=
  if 0 < p0 then ((let j1 : Int32 × Int32 := if p0 < 65536 then ((31, p0)) else ((31 + (-16), jushr p0 16)); (let j2 : Int32 × Int32 := if j1.2 < 256 then ((j1.1, j1.2)) else ((j1.1 + (-8), jushr j1.2 8)); (let j3 : Int32 × Int32 := if j2.2 < 16 then ((j2.1, j2.2)) else ((j2.1 + (-4), jushr j2.2 4)); (let j4 : Int32 × Int32 := if j3.2 < 4 then ((j3.1, j3.2)) else ((j3.1 + (-2), jushr j3.2 2)); j4.1 - (jushr j4.2 1)))))) else (if p0 = 0 then (32) else (0))
theorem lkJ6_numberOfLeadingZeros_0f7a4_264 : Cond.constant RJ6 264 (65536) ∈ wsJ6_numberOfLeadingZeros_0f7a4 := by decide +kernel
set_option maxHeartbeats 4000000 in
set_option maxRecDepth 100000 in
theorem mJ6_numberOfLeadingZeros_0f7a4 (l : Launch) (G : va_G) (cI cB cP : ClassId) (sz : Nat) (p0 : Int32) : kMi (S := Unit) l yJ6_numberOfLeadingZeros_0f7a4 wsJ6_numberOfLeadingZeros_0f7a4 ({ frames := 0, cells := 0, slots := 0, locals := 0 }) [.int p0] G (kTY cI cB cP) sz [] (fJ6_numberOfLeadingZeros_0f7a4 p0, ()) (fun _ _ => True) (fun _ => []) := by
  refine k_ofi (cc := cJ6_numberOfLeadingZeros_0f7a4) (maxL := 2) (by decide) rfl (Nat.le_of_ble_eq_true rfl) ?_
  intro p e s m args below meth c A ls Q H locs hx hb hml hown hts hin hK hP hD hA hS hl hret
  have hown : s.vm.findClass RJ6 = some m.cls := hown
  have hl : lv_has ls 2 [(0, .int p0)] := hl
  refine lv_iload_n hx hb dJ6_numberOfLeadingZeros_0f7a4_0 rfl (lv_at hl 0 rfl) ?_
  refine lv_if_gt (tgt := 15) hx hb dJ6_numberOfLeadingZeros_0f7a4_1 (by decide) (fun c1 => ?_) (fun c1 => ?_)
  · skip
    refine lv_bipush (v := 31) hx hb dJ6_numberOfLeadingZeros_0f7a4_15 (by decide) ?_
    refine lv_istore_n (lv' := [(1, .int 31), (0, .int p0)]) hx hb dJ6_numberOfLeadingZeros_0f7a4_17 rfl hl (by decide) rfl (fun ls hl => ?_)
    refine lv_iload_n hx hb dJ6_numberOfLeadingZeros_0f7a4_18 rfl (lv_at hl 1 rfl) ?_
    refine lv_ldcw (v := 65536) hx hb hown (hts _ lkJ6_numberOfLeadingZeros_0f7a4_264) dJ6_numberOfLeadingZeros_0f7a4_19 ?_
    have Kj1 : ∀ (j1 : Int32 × Int32) (H : Heap) (locs : List Loc) (ls : Array Slot), j1 = (if p0 < 65536 then ((31, p0)) else ((31 + (-16), jushr p0 16))) → va_P G vwCl [] H → va_D A [] → va_S A s.heap H locs → lv_has ls 2 [(1, .int j1.1), (0, .int j1.2)] → W p l e ({ frames := 0, cells := 0, slots := 0, locals := 0 }) s m args below meth c H locs 0 0 Q (F0 m 33 ls []) := by
      intro j1 H locs ls hj1 hP hD hS hl
      refine lv_iload_n hx hb dJ6_numberOfLeadingZeros_0f7a4_33 rfl (lv_at hl 1 rfl) ?_
      refine lv_sipush (v := 256) hx hb dJ6_numberOfLeadingZeros_0f7a4_34 (by decide) ?_
      have Kj2 : ∀ (j2 : Int32 × Int32) (H : Heap) (locs : List Loc) (ls : Array Slot), j2 = (if j1.2 < 256 then ((j1.1, j1.2)) else ((j1.1 + (-8), jushr j1.2 8))) → va_P G vwCl [] H → va_D A [] → va_S A s.heap H locs → lv_has ls 2 [(1, .int j2.1), (0, .int j2.2)] → W p l e ({ frames := 0, cells := 0, slots := 0, locals := 0 }) s m args below meth c H locs 0 0 Q (F0 m 48 ls []) := by
        intro j2 H locs ls hj2 hP hD hS hl
        refine lv_iload_n hx hb dJ6_numberOfLeadingZeros_0f7a4_48 rfl (lv_at hl 1 rfl) ?_
        refine lv_bipush (v := 16) hx hb dJ6_numberOfLeadingZeros_0f7a4_49 (by decide) ?_
        have Kj3 : ∀ (j3 : Int32 × Int32) (H : Heap) (locs : List Loc) (ls : Array Slot), j3 = (if j2.2 < 16 then ((j2.1, j2.2)) else ((j2.1 + (-4), jushr j2.2 4))) → va_P G vwCl [] H → va_D A [] → va_S A s.heap H locs → lv_has ls 2 [(1, .int j3.1), (0, .int j3.2)] → W p l e ({ frames := 0, cells := 0, slots := 0, locals := 0 }) s m args below meth c H locs 0 0 Q (F0 m 61 ls []) := by
          intro j3 H locs ls hj3 hP hD hS hl
          refine lv_iload_n hx hb dJ6_numberOfLeadingZeros_0f7a4_61 rfl (lv_at hl 1 rfl) ?_
          refine lv_iconst (v := 4) hx hb dJ6_numberOfLeadingZeros_0f7a4_62 (by decide) ?_
          have Kj4 : ∀ (j4 : Int32 × Int32) (H : Heap) (locs : List Loc) (ls : Array Slot), j4 = (if j3.2 < 4 then ((j3.1, j3.2)) else ((j3.1 + (-2), jushr j3.2 2))) → va_P G vwCl [] H → va_D A [] → va_S A s.heap H locs → lv_has ls 2 [(1, .int j4.1), (0, .int j4.2)] → W p l e ({ frames := 0, cells := 0, slots := 0, locals := 0 }) s m args below meth c H locs 0 0 Q (F0 m 73 ls []) := by
            intro j4 H locs ls hj4 hP hD hS hl
            refine lv_iload_n hx hb dJ6_numberOfLeadingZeros_0f7a4_73 rfl (lv_at hl 0 rfl) ?_
            refine lv_iload_n hx hb dJ6_numberOfLeadingZeros_0f7a4_74 rfl (lv_at hl 1 rfl) ?_
            refine lv_iconst (v := 1) hx hb dJ6_numberOfLeadingZeros_0f7a4_75 (by decide) ?_
            refine lv_iushr (v := jushr j4.2 1) hx hb dJ6_numberOfLeadingZeros_0f7a4_76 rfl ?_
            refine lv_isub hx hb dJ6_numberOfLeadingZeros_0f7a4_77 ?_
            exact hret H locs _ ls (j4.1 - (jushr j4.2 1)) () dJ6_numberOfLeadingZeros_0f7a4_78 (by clear hP hD hS hl; replace hj4 := hj4.symm; subst hj4; replace hj3 := hj3.symm; subst hj3; replace hj2 := hj2.symm; subst hj2; replace hj1 := hj1.symm; subst hj1; exact congrArg (fun x => (x, ())) (((if_pos c1).trans (rfl))).symm) trivial hP hD hS
          refine lv_icmp_lt (tgt := 73) hx hb dJ6_numberOfLeadingZeros_0f7a4_63 (by decide) (fun c10 => ?_) (fun c10 => ?_)
          · skip
            exact Kj4 (j3.1, j3.2) H locs ls ((if_pos c10).trans (rfl)).symm  hP hD hS (lv_sub hl [0, 1] rfl)
          · skip
            refine lv_iinc (v := j3.1 + (-2)) (lv' := [(1, .int (j3.1 + (-2))), (0, .int j3.2)]) hx hb dJ6_numberOfLeadingZeros_0f7a4_66 hl (k := 0) rfl rfl (by decide) rfl (fun ls hl => ?_)
            refine lv_iload_n hx hb dJ6_numberOfLeadingZeros_0f7a4_69 rfl (lv_at hl 1 rfl) ?_
            refine lv_iconst (v := 2) hx hb dJ6_numberOfLeadingZeros_0f7a4_70 (by decide) ?_
            refine lv_iushr (v := jushr j3.2 2) hx hb dJ6_numberOfLeadingZeros_0f7a4_71 rfl ?_
            refine lv_istore_n (lv' := [(0, .int (jushr j3.2 2)), (1, .int (j3.1 + (-2)))]) hx hb dJ6_numberOfLeadingZeros_0f7a4_72 rfl hl (by decide) rfl (fun ls hl => ?_)
            exact Kj4 (j3.1 + (-2), jushr j3.2 2) H locs ls ((if_neg c10).trans (rfl)).symm  hP hD hS (lv_sub hl [1, 0] rfl)
        refine lv_icmp_lt (tgt := 61) hx hb dJ6_numberOfLeadingZeros_0f7a4_51 (by decide) (fun c11 => ?_) (fun c11 => ?_)
        · skip
          exact Kj3 (j2.1, j2.2) H locs ls ((if_pos c11).trans (rfl)).symm  hP hD hS (lv_sub hl [0, 1] rfl)
        · skip
          refine lv_iinc (v := j2.1 + (-4)) (lv' := [(1, .int (j2.1 + (-4))), (0, .int j2.2)]) hx hb dJ6_numberOfLeadingZeros_0f7a4_54 hl (k := 0) rfl rfl (by decide) rfl (fun ls hl => ?_)
          refine lv_iload_n hx hb dJ6_numberOfLeadingZeros_0f7a4_57 rfl (lv_at hl 1 rfl) ?_
          refine lv_iconst (v := 4) hx hb dJ6_numberOfLeadingZeros_0f7a4_58 (by decide) ?_
          refine lv_iushr (v := jushr j2.2 4) hx hb dJ6_numberOfLeadingZeros_0f7a4_59 rfl ?_
          refine lv_istore_n (lv' := [(0, .int (jushr j2.2 4)), (1, .int (j2.1 + (-4)))]) hx hb dJ6_numberOfLeadingZeros_0f7a4_60 rfl hl (by decide) rfl (fun ls hl => ?_)
          exact Kj3 (j2.1 + (-4), jushr j2.2 4) H locs ls ((if_neg c11).trans (rfl)).symm  hP hD hS (lv_sub hl [1, 0] rfl)
      refine lv_icmp_lt (tgt := 48) hx hb dJ6_numberOfLeadingZeros_0f7a4_37 (by decide) (fun c12 => ?_) (fun c12 => ?_)
      · skip
        exact Kj2 (j1.1, j1.2) H locs ls ((if_pos c12).trans (rfl)).symm  hP hD hS (lv_sub hl [0, 1] rfl)
      · skip
        refine lv_iinc (v := j1.1 + (-8)) (lv' := [(1, .int (j1.1 + (-8))), (0, .int j1.2)]) hx hb dJ6_numberOfLeadingZeros_0f7a4_40 hl (k := 0) rfl rfl (by decide) rfl (fun ls hl => ?_)
        refine lv_iload_n hx hb dJ6_numberOfLeadingZeros_0f7a4_43 rfl (lv_at hl 1 rfl) ?_
        refine lv_bipush (v := 8) hx hb dJ6_numberOfLeadingZeros_0f7a4_44 (by decide) ?_
        refine lv_iushr (v := jushr j1.2 8) hx hb dJ6_numberOfLeadingZeros_0f7a4_46 rfl ?_
        refine lv_istore_n (lv' := [(0, .int (jushr j1.2 8)), (1, .int (j1.1 + (-8)))]) hx hb dJ6_numberOfLeadingZeros_0f7a4_47 rfl hl (by decide) rfl (fun ls hl => ?_)
        exact Kj2 (j1.1 + (-8), jushr j1.2 8) H locs ls ((if_neg c12).trans (rfl)).symm  hP hD hS (lv_sub hl [1, 0] rfl)
    refine lv_icmp_lt (tgt := 33) hx hb dJ6_numberOfLeadingZeros_0f7a4_22 (by decide) (fun c13 => ?_) (fun c13 => ?_)
    · skip
      exact Kj1 (31, p0) H locs ls ((if_pos c13).trans (rfl)).symm  hP hD hS (lv_sub hl [0, 1] rfl)
    · skip
      refine lv_iinc (v := 31 + (-16)) (lv' := [(1, .int (31 + (-16))), (0, .int p0)]) hx hb dJ6_numberOfLeadingZeros_0f7a4_25 hl (k := 0) rfl rfl (by decide) rfl (fun ls hl => ?_)
      refine lv_iload_n hx hb dJ6_numberOfLeadingZeros_0f7a4_28 rfl (lv_at hl 1 rfl) ?_
      refine lv_bipush (v := 16) hx hb dJ6_numberOfLeadingZeros_0f7a4_29 (by decide) ?_
      refine lv_iushr (v := jushr p0 16) hx hb dJ6_numberOfLeadingZeros_0f7a4_31 rfl ?_
      refine lv_istore_n (lv' := [(0, .int (jushr p0 16)), (1, .int (31 + (-16)))]) hx hb dJ6_numberOfLeadingZeros_0f7a4_32 rfl hl (by decide) rfl (fun ls hl => ?_)
      exact Kj1 (31 + (-16), jushr p0 16) H locs ls ((if_neg c13).trans (rfl)).symm  hP hD hS (lv_sub hl [1, 0] rfl)
  · skip
    refine lv_iload_n hx hb dJ6_numberOfLeadingZeros_0f7a4_4 rfl (lv_at hl 0 rfl) ?_
    refine lv_if_ne (tgt := 13) hx hb dJ6_numberOfLeadingZeros_0f7a4_5 (by decide) (fun c14 => ?_) (fun c14 => ?_)
    · skip
      refine lv_iconst (v := 0) hx hb dJ6_numberOfLeadingZeros_0f7a4_13 (by decide) ?_
      exact hret H locs _ ls 0 () dJ6_numberOfLeadingZeros_0f7a4_14 (by exact congrArg (fun x => (x, ())) (((if_neg c1).trans ((if_neg c14).trans (rfl)))).symm) trivial hP hD hS
    · skip
      refine lv_bipush (v := 32) hx hb dJ6_numberOfLeadingZeros_0f7a4_8 (by decide) ?_
      refine lv_goto (tgt := 14) hx hb dJ6_numberOfLeadingZeros_0f7a4_10 (by decide) ?_
      exact hret H locs _ ls 32 () dJ6_numberOfLeadingZeros_0f7a4_14 (by exact congrArg (fun x => (x, ())) (((if_neg c1).trans ((if_pos c14).trans (rfl)))).symm) trivial hP hD hS
def fJ6_numberOfTrailingZeros_0f7a4 (p0 : Int32) : Int32 :=
  if 0 < ((p0 ^^^ (-1)) &&& (p0 - 1)) then ((let j1 : Int32 × Int32 := if ((p0 ^^^ (-1)) &&& (p0 - 1)) ≤ 65536 then ((1, (p0 ^^^ (-1)) &&& (p0 - 1))) else ((1 + 16, jushr ((p0 ^^^ (-1)) &&& (p0 - 1)) 16)); (let j2 : Int32 × Int32 := if j1.2 ≤ 256 then ((j1.1, j1.2)) else ((j1.1 + 8, jushr j1.2 8)); (let j3 : Int32 × Int32 := if j2.2 ≤ 16 then ((j2.1, j2.2)) else ((j2.1 + 4, jushr j2.2 4)); (let j4 : Int32 × Int32 := if j3.2 ≤ 4 then ((j3.1, j3.2)) else ((j3.1 + 2, jushr j3.2 2)); j4.1 + (jushr j4.2 1)))))) else (((p0 ^^^ (-1)) &&& (p0 - 1)) &&& 32)
theorem lkJ6_numberOfTrailingZeros_0f7a4_264 : Cond.constant RJ6 264 (65536) ∈ wsJ6_numberOfTrailingZeros_0f7a4 := by decide +kernel
set_option maxHeartbeats 4000000 in
set_option maxRecDepth 100000 in
theorem mJ6_numberOfTrailingZeros_0f7a4 (l : Launch) (G : va_G) (cI cB cP : ClassId) (sz : Nat) (p0 : Int32) : kMi (S := Unit) l yJ6_numberOfTrailingZeros_0f7a4 wsJ6_numberOfTrailingZeros_0f7a4 ({ frames := 0, cells := 0, slots := 0, locals := 0 }) [.int p0] G (kTY cI cB cP) sz [] (fJ6_numberOfTrailingZeros_0f7a4 p0, ()) (fun _ _ => True) (fun _ => []) := by
  refine k_ofi (cc := cJ6_numberOfTrailingZeros_0f7a4) (maxL := 2) (by decide) rfl (Nat.le_of_ble_eq_true rfl) ?_
  intro p e s m args below meth c A ls Q H locs hx hb hml hown hts hin hK hP hD hA hS hl hret
  have hown : s.vm.findClass RJ6 = some m.cls := hown
  have hl : lv_has ls 2 [(0, .int p0)] := hl
  refine lv_iload_n hx hb dJ6_numberOfTrailingZeros_0f7a4_0 rfl (lv_at hl 0 rfl) ?_
  refine lv_iconst (v := (-1)) hx hb dJ6_numberOfTrailingZeros_0f7a4_1 (by decide) ?_
  refine lv_ixor hx hb dJ6_numberOfTrailingZeros_0f7a4_2 ?_
  refine lv_iload_n hx hb dJ6_numberOfTrailingZeros_0f7a4_3 rfl (lv_at hl 0 rfl) ?_
  refine lv_iconst (v := 1) hx hb dJ6_numberOfTrailingZeros_0f7a4_4 (by decide) ?_
  refine lv_isub hx hb dJ6_numberOfTrailingZeros_0f7a4_5 ?_
  refine lv_iand hx hb dJ6_numberOfTrailingZeros_0f7a4_6 ?_
  refine lv_istore_n (lv' := [(0, .int ((p0 ^^^ (-1)) &&& (p0 - 1)))]) hx hb dJ6_numberOfTrailingZeros_0f7a4_7 rfl hl (by decide) rfl (fun ls hl => ?_)
  refine lv_iload_n hx hb dJ6_numberOfTrailingZeros_0f7a4_8 rfl (lv_at hl 0 rfl) ?_
  refine lv_if_gt (tgt := 17) hx hb dJ6_numberOfTrailingZeros_0f7a4_9 (by decide) (fun c1 => ?_) (fun c1 => ?_)
  · skip
    refine lv_iconst (v := 1) hx hb dJ6_numberOfTrailingZeros_0f7a4_17 (by decide) ?_
    refine lv_istore_n (lv' := [(1, .int 1), (0, .int ((p0 ^^^ (-1)) &&& (p0 - 1)))]) hx hb dJ6_numberOfTrailingZeros_0f7a4_18 rfl hl (by decide) rfl (fun ls hl => ?_)
    refine lv_iload_n hx hb dJ6_numberOfTrailingZeros_0f7a4_19 rfl (lv_at hl 1 rfl) ?_
    refine lv_ldcw (v := 65536) hx hb hown (hts _ lkJ6_numberOfTrailingZeros_0f7a4_264) dJ6_numberOfTrailingZeros_0f7a4_20 ?_
    have Kj1 : ∀ (j1 : Int32 × Int32) (H : Heap) (locs : List Loc) (ls : Array Slot), j1 = (if ((p0 ^^^ (-1)) &&& (p0 - 1)) ≤ 65536 then ((1, (p0 ^^^ (-1)) &&& (p0 - 1))) else ((1 + 16, jushr ((p0 ^^^ (-1)) &&& (p0 - 1)) 16))) → va_P G vwCl [] H → va_D A [] → va_S A s.heap H locs → lv_has ls 2 [(1, .int j1.1), (0, .int j1.2)] → W p l e ({ frames := 0, cells := 0, slots := 0, locals := 0 }) s m args below meth c H locs 0 0 Q (F0 m 34 ls []) := by
      intro j1 H locs ls hj1 hP hD hS hl
      refine lv_iload_n hx hb dJ6_numberOfTrailingZeros_0f7a4_34 rfl (lv_at hl 1 rfl) ?_
      refine lv_sipush (v := 256) hx hb dJ6_numberOfTrailingZeros_0f7a4_35 (by decide) ?_
      have Kj2 : ∀ (j2 : Int32 × Int32) (H : Heap) (locs : List Loc) (ls : Array Slot), j2 = (if j1.2 ≤ 256 then ((j1.1, j1.2)) else ((j1.1 + 8, jushr j1.2 8))) → va_P G vwCl [] H → va_D A [] → va_S A s.heap H locs → lv_has ls 2 [(1, .int j2.1), (0, .int j2.2)] → W p l e ({ frames := 0, cells := 0, slots := 0, locals := 0 }) s m args below meth c H locs 0 0 Q (F0 m 49 ls []) := by
        intro j2 H locs ls hj2 hP hD hS hl
        refine lv_iload_n hx hb dJ6_numberOfTrailingZeros_0f7a4_49 rfl (lv_at hl 1 rfl) ?_
        refine lv_bipush (v := 16) hx hb dJ6_numberOfTrailingZeros_0f7a4_50 (by decide) ?_
        have Kj3 : ∀ (j3 : Int32 × Int32) (H : Heap) (locs : List Loc) (ls : Array Slot), j3 = (if j2.2 ≤ 16 then ((j2.1, j2.2)) else ((j2.1 + 4, jushr j2.2 4))) → va_P G vwCl [] H → va_D A [] → va_S A s.heap H locs → lv_has ls 2 [(1, .int j3.1), (0, .int j3.2)] → W p l e ({ frames := 0, cells := 0, slots := 0, locals := 0 }) s m args below meth c H locs 0 0 Q (F0 m 62 ls []) := by
          intro j3 H locs ls hj3 hP hD hS hl
          refine lv_iload_n hx hb dJ6_numberOfTrailingZeros_0f7a4_62 rfl (lv_at hl 1 rfl) ?_
          refine lv_iconst (v := 4) hx hb dJ6_numberOfTrailingZeros_0f7a4_63 (by decide) ?_
          have Kj4 : ∀ (j4 : Int32 × Int32) (H : Heap) (locs : List Loc) (ls : Array Slot), j4 = (if j3.2 ≤ 4 then ((j3.1, j3.2)) else ((j3.1 + 2, jushr j3.2 2))) → va_P G vwCl [] H → va_D A [] → va_S A s.heap H locs → lv_has ls 2 [(1, .int j4.1), (0, .int j4.2)] → W p l e ({ frames := 0, cells := 0, slots := 0, locals := 0 }) s m args below meth c H locs 0 0 Q (F0 m 74 ls []) := by
            intro j4 H locs ls hj4 hP hD hS hl
            refine lv_iload_n hx hb dJ6_numberOfTrailingZeros_0f7a4_74 rfl (lv_at hl 0 rfl) ?_
            refine lv_iload_n hx hb dJ6_numberOfTrailingZeros_0f7a4_75 rfl (lv_at hl 1 rfl) ?_
            refine lv_iconst (v := 1) hx hb dJ6_numberOfTrailingZeros_0f7a4_76 (by decide) ?_
            refine lv_iushr (v := jushr j4.2 1) hx hb dJ6_numberOfTrailingZeros_0f7a4_77 rfl ?_
            refine lv_iadd hx hb dJ6_numberOfTrailingZeros_0f7a4_78 ?_
            exact hret H locs _ ls (j4.1 + (jushr j4.2 1)) () dJ6_numberOfTrailingZeros_0f7a4_79 (by clear hP hD hS hl; replace hj4 := hj4.symm; subst hj4; replace hj3 := hj3.symm; subst hj3; replace hj2 := hj2.symm; subst hj2; replace hj1 := hj1.symm; subst hj1; exact congrArg (fun x => (x, ())) (((if_pos c1).trans (rfl))).symm) trivial hP hD hS
          refine lv_icmp_le (tgt := 74) hx hb dJ6_numberOfTrailingZeros_0f7a4_64 (by decide) (fun c10 => ?_) (fun c10 => ?_)
          · skip
            exact Kj4 (j3.1, j3.2) H locs ls ((if_pos c10).trans (rfl)).symm  hP hD hS (lv_sub hl [0, 1] rfl)
          · skip
            refine lv_iinc (v := j3.1 + 2) (lv' := [(1, .int (j3.1 + 2)), (0, .int j3.2)]) hx hb dJ6_numberOfTrailingZeros_0f7a4_67 hl (k := 0) rfl rfl (by decide) rfl (fun ls hl => ?_)
            refine lv_iload_n hx hb dJ6_numberOfTrailingZeros_0f7a4_70 rfl (lv_at hl 1 rfl) ?_
            refine lv_iconst (v := 2) hx hb dJ6_numberOfTrailingZeros_0f7a4_71 (by decide) ?_
            refine lv_iushr (v := jushr j3.2 2) hx hb dJ6_numberOfTrailingZeros_0f7a4_72 rfl ?_
            refine lv_istore_n (lv' := [(0, .int (jushr j3.2 2)), (1, .int (j3.1 + 2))]) hx hb dJ6_numberOfTrailingZeros_0f7a4_73 rfl hl (by decide) rfl (fun ls hl => ?_)
            exact Kj4 (j3.1 + 2, jushr j3.2 2) H locs ls ((if_neg c10).trans (rfl)).symm  hP hD hS (lv_sub hl [1, 0] rfl)
        refine lv_icmp_le (tgt := 62) hx hb dJ6_numberOfTrailingZeros_0f7a4_52 (by decide) (fun c11 => ?_) (fun c11 => ?_)
        · skip
          exact Kj3 (j2.1, j2.2) H locs ls ((if_pos c11).trans (rfl)).symm  hP hD hS (lv_sub hl [0, 1] rfl)
        · skip
          refine lv_iinc (v := j2.1 + 4) (lv' := [(1, .int (j2.1 + 4)), (0, .int j2.2)]) hx hb dJ6_numberOfTrailingZeros_0f7a4_55 hl (k := 0) rfl rfl (by decide) rfl (fun ls hl => ?_)
          refine lv_iload_n hx hb dJ6_numberOfTrailingZeros_0f7a4_58 rfl (lv_at hl 1 rfl) ?_
          refine lv_iconst (v := 4) hx hb dJ6_numberOfTrailingZeros_0f7a4_59 (by decide) ?_
          refine lv_iushr (v := jushr j2.2 4) hx hb dJ6_numberOfTrailingZeros_0f7a4_60 rfl ?_
          refine lv_istore_n (lv' := [(0, .int (jushr j2.2 4)), (1, .int (j2.1 + 4))]) hx hb dJ6_numberOfTrailingZeros_0f7a4_61 rfl hl (by decide) rfl (fun ls hl => ?_)
          exact Kj3 (j2.1 + 4, jushr j2.2 4) H locs ls ((if_neg c11).trans (rfl)).symm  hP hD hS (lv_sub hl [1, 0] rfl)
      refine lv_icmp_le (tgt := 49) hx hb dJ6_numberOfTrailingZeros_0f7a4_38 (by decide) (fun c12 => ?_) (fun c12 => ?_)
      · skip
        exact Kj2 (j1.1, j1.2) H locs ls ((if_pos c12).trans (rfl)).symm  hP hD hS (lv_sub hl [0, 1] rfl)
      · skip
        refine lv_iinc (v := j1.1 + 8) (lv' := [(1, .int (j1.1 + 8)), (0, .int j1.2)]) hx hb dJ6_numberOfTrailingZeros_0f7a4_41 hl (k := 0) rfl rfl (by decide) rfl (fun ls hl => ?_)
        refine lv_iload_n hx hb dJ6_numberOfTrailingZeros_0f7a4_44 rfl (lv_at hl 1 rfl) ?_
        refine lv_bipush (v := 8) hx hb dJ6_numberOfTrailingZeros_0f7a4_45 (by decide) ?_
        refine lv_iushr (v := jushr j1.2 8) hx hb dJ6_numberOfTrailingZeros_0f7a4_47 rfl ?_
        refine lv_istore_n (lv' := [(0, .int (jushr j1.2 8)), (1, .int (j1.1 + 8))]) hx hb dJ6_numberOfTrailingZeros_0f7a4_48 rfl hl (by decide) rfl (fun ls hl => ?_)
        exact Kj2 (j1.1 + 8, jushr j1.2 8) H locs ls ((if_neg c12).trans (rfl)).symm  hP hD hS (lv_sub hl [1, 0] rfl)
    refine lv_icmp_le (tgt := 34) hx hb dJ6_numberOfTrailingZeros_0f7a4_23 (by decide) (fun c13 => ?_) (fun c13 => ?_)
    · skip
      exact Kj1 (1, (p0 ^^^ (-1)) &&& (p0 - 1)) H locs ls ((if_pos c13).trans (rfl)).symm  hP hD hS (lv_sub hl [0, 1] rfl)
    · skip
      refine lv_iinc (v := 1 + 16) (lv' := [(1, .int (1 + 16)), (0, .int ((p0 ^^^ (-1)) &&& (p0 - 1)))]) hx hb dJ6_numberOfTrailingZeros_0f7a4_26 hl (k := 0) rfl rfl (by decide) rfl (fun ls hl => ?_)
      refine lv_iload_n hx hb dJ6_numberOfTrailingZeros_0f7a4_29 rfl (lv_at hl 1 rfl) ?_
      refine lv_bipush (v := 16) hx hb dJ6_numberOfTrailingZeros_0f7a4_30 (by decide) ?_
      refine lv_iushr (v := jushr ((p0 ^^^ (-1)) &&& (p0 - 1)) 16) hx hb dJ6_numberOfTrailingZeros_0f7a4_32 rfl ?_
      refine lv_istore_n (lv' := [(0, .int (jushr ((p0 ^^^ (-1)) &&& (p0 - 1)) 16)), (1, .int (1 + 16))]) hx hb dJ6_numberOfTrailingZeros_0f7a4_33 rfl hl (by decide) rfl (fun ls hl => ?_)
      exact Kj1 (1 + 16, jushr ((p0 ^^^ (-1)) &&& (p0 - 1)) 16) H locs ls ((if_neg c13).trans (rfl)).symm  hP hD hS (lv_sub hl [1, 0] rfl)
  · skip
    refine lv_iload_n hx hb dJ6_numberOfTrailingZeros_0f7a4_12 rfl (lv_at hl 0 rfl) ?_
    refine lv_bipush (v := 32) hx hb dJ6_numberOfTrailingZeros_0f7a4_13 (by decide) ?_
    refine lv_iand hx hb dJ6_numberOfTrailingZeros_0f7a4_15 ?_
    exact hret H locs _ ls (((p0 ^^^ (-1)) &&& (p0 - 1)) &&& 32) () dJ6_numberOfTrailingZeros_0f7a4_16 (by exact congrArg (fun x => (x, ())) (((if_neg c1).trans (rfl))).symm) trivial hP hD hS
def fJ6_rotateRight_7cf53 (p0 : Int32) (p1 : Int32) : Int32 :=
  (jushr p0 p1) ||| (p0 <<< ((-p1) &&& 31))
set_option maxHeartbeats 4000000 in
set_option maxRecDepth 100000 in
theorem mJ6_rotateRight_7cf53 (l : Launch) (G : va_G) (cI cB cP : ClassId) (sz : Nat) (p0 : Int32) (p1 : Int32) : kMi (S := Unit) l yJ6_rotateRight_7cf53 wsJ6_rotateRight_7cf53 ({ frames := 0, cells := 0, slots := 0, locals := 0 }) [.int p0, .int p1] G (kTY cI cB cP) sz [] (fJ6_rotateRight_7cf53 p0 p1, ()) (fun _ _ => True) (fun _ => []) := by
  refine k_ofi (cc := cJ6_rotateRight_7cf53) (maxL := 2) (by decide) rfl (Nat.le_of_ble_eq_true rfl) ?_
  intro p e s m args below meth c A ls Q H locs hx hb hml hown hts hin hK hP hD hA hS hl hret
  have hown : s.vm.findClass RJ6 = some m.cls := hown
  have hl : lv_has ls 2 [(0, .int p0), (1, .int p1)] := hl
  refine lv_iload_n hx hb dJ6_rotateRight_7cf53_0 rfl (lv_at hl 0 rfl) ?_
  refine lv_iload_n hx hb dJ6_rotateRight_7cf53_1 rfl (lv_at hl 1 rfl) ?_
  refine lv_iushr (v := jushr p0 p1) hx hb dJ6_rotateRight_7cf53_2 rfl ?_
  refine lv_iload_n hx hb dJ6_rotateRight_7cf53_3 rfl (lv_at hl 0 rfl) ?_
  refine lv_iload_n hx hb dJ6_rotateRight_7cf53_4 rfl (lv_at hl 1 rfl) ?_
  refine lv_ineg hx hb dJ6_rotateRight_7cf53_5 ?_
  refine lv_ishl hx hb dJ6_rotateRight_7cf53_6 ?_
  refine lv_ior hx hb dJ6_rotateRight_7cf53_7 ?_
  exact hret H locs _ ls ((jushr p0 p1) ||| (p0 <<< ((-p1) &&& 31))) () dJ6_rotateRight_7cf53_8 (by (first | exact rfl | (delta fJ6_rotateRight_7cf53; exact rfl) | (unfold fJ6_rotateRight_7cf53; dsimp only) | (unfold fJ6_rotateRight_7cf53; simp only []))) trivial hP hD hS
def gJ7_fill_53178_5 (nArr : Nat) (p1 : Int32) : Nat → (Int32 × (Nat → Int32)) → (Nat → Int32)
  | 0, _ => default
  | n + 1, w1 => if (nI nArr) ≤ w1.1 then (w1.2) else (gJ7_fill_53178_5 nArr p1 n (w1.1 + 1, upd w1.2 w1.1.toNatClampNeg p1))
def sgJ7_fill_53178_5 (nArr : Nat) (p1 : Int32) : Nat → (Int32 × (Nat → Int32)) → Prop
  | 0, _ => False
  | n + 1, w1 => ((nI nArr) ≤ w1.1 → True) ∧ (¬ ((nI nArr) ≤ w1.1) → ((vp_in w1.1 nArr) ∧ (sgJ7_fill_53178_5 nArr p1 n (w1.1 + 1, upd w1.2 w1.1.toNatClampNeg p1))))
def fJ7_fill_53178 (arr : Nat → Int32) (nArr : Nat) (p1 : Int32) : (Nat → Int32) :=
  gJ7_fill_53178_5 nArr p1 (nArr + 1) (0, arr)
def sJ7_fill_53178 (arr : Nat → Int32) (nArr : Nat) (p1 : Int32) : Prop :=
  sgJ7_fill_53178_5 nArr p1 (nArr + 1) (0, arr)
set_option maxHeartbeats 4000000 in
set_option maxRecDepth 100000 in
theorem mJ7_fill_53178 (l : Launch) (G : va_G) (cI cB cP : ClassId) (aArr : Nat) (arr : Nat → Int32) (nArr : Nat) (sz : Nat) (p1 : Int32) (hs : sJ7_fill_53178 arr nArr p1) : kMv (S := (Nat → Int32)) l yJ7_fill_53178 wsJ7_fill_53178 ({ frames := 0, cells := 0, slots := 0, locals := 0 }) [.ref aArr, .int p1] G (kTY cI cB cP) sz [(aArr, .inl (cI, nArr, .inl arr))] (fJ7_fill_53178 arr nArr p1) (fun _ => True) (fun u => [(aArr, .inl (cI, nArr, .inl u))]) := by
  refine k_ofv (cc := cJ7_fill_53178) (maxL := 4) (by decide) rfl (Nat.le_of_ble_eq_true rfl) ?_
  intro p e s m args below meth c A ls Q H locs hx hb hml hown hts hin hK hP hD hA hS hl hret
  have hown : s.vm.findClass RJ7 = some m.cls := hown
  have hl : lv_has ls 4 [(0, .ref aArr), (1, .int p1)] := hl
  unfold sJ7_fill_53178 at hs
  refine lv_iconst (v := 0) hx hb dJ7_fill_53178_0 (by decide) ?_
  refine lv_istore_n (lv' := [(2, .int 0), (0, .ref aArr), (1, .int p1)]) hx hb dJ7_fill_53178_1 rfl hl (by decide) rfl (fun ls hl => ?_)
  refine lv_aload_n hx hb dJ7_fill_53178_2 rfl (lv_at hl 1 rfl) ?_
  refine va_alen (v := nI nArr) hx hb hK hP 0 0 rfl rfl rfl dJ7_fill_53178_3 ?_
  refine lv_istore_n (lv' := [(3, .int (nI nArr)), (2, .int 0), (0, .ref aArr), (1, .int p1)]) hx hb dJ7_fill_53178_4 rfl hl (by decide) rfl (fun ls hl => ?_)
  have KL5 : ∀ (n : Nat) (w1 : Int32 × (Nat → Int32)) (H : Heap) (locs : List Loc) (ls : Array Slot), fJ7_fill_53178 arr nArr p1 = gJ7_fill_53178_5 nArr p1 n w1 → sgJ7_fill_53178_5 nArr p1 n w1 → va_P G vwCl [(aArr, .inl (cI, nArr, .inl w1.2))] H → va_D A [(aArr, .inl (cI, nArr, .inl w1.2))] → va_S A s.heap H locs → lv_has ls 4 [(3, .int (nI nArr)), (2, .int w1.1), (0, .ref aArr), (1, .int p1)] → W p l e ({ frames := 0, cells := 0, slots := 0, locals := 0 }) s m args below meth c H locs 0 0 Q (F0 m 5 ls []) := by
    intro n
    induction n with
    | zero => intro w1 H locs ls hF hs; exact False.elim hs
    | succ n ih =>
      intro w1 H locs ls hF hs hP hD hS hl
      have hs : ((nI nArr) ≤ w1.1 → True) ∧ (¬ ((nI nArr) ≤ w1.1) → ((vp_in w1.1 nArr) ∧ (sgJ7_fill_53178_5 nArr p1 n (w1.1 + 1, upd w1.2 w1.1.toNatClampNeg p1)))) := hs
      refine lv_iload_n hx hb dJ7_fill_53178_5 rfl (lv_at hl 1 rfl) ?_
      refine lv_iload_n hx hb dJ7_fill_53178_6 rfl (lv_at hl 0 rfl) ?_
      refine lv_icmp_ge (tgt := 20) hx hb dJ7_fill_53178_7 (by decide) (fun c1 => ?_) (fun c1 => ?_)
      · have hs := hs.1 c1
        exact hret H locs _ ls w1.2 dJ7_fill_53178_20 (by exact (hF.trans ((if_pos c1).trans (rfl))).symm) trivial hP hD hS
      · have hs := hs.2 c1
        refine lv_aload_n hx hb dJ7_fill_53178_10 rfl (lv_at hl 2 rfl) ?_
        refine lv_iload_n hx hb dJ7_fill_53178_11 rfl (lv_at hl 1 rfl) ?_
        refine lv_iload_n hx hb dJ7_fill_53178_12 rfl (lv_at hl 3 rfl) ?_
        obtain ⟨o1, hs⟩ := hs
        refine va_iast hx hb hK hP hD hS 0 0 rfl rfl o1 dJ7_fill_53178_13 (fun H locs hP hD hS => ?_)
        have hP : va_P G vwCl [(aArr, .inl (cI, nArr, .inl (upd w1.2 w1.1.toNatClampNeg p1)))] H := hP
        have hD : va_D A [(aArr, .inl (cI, nArr, .inl (upd w1.2 w1.1.toNatClampNeg p1)))] := hD
        refine lv_iinc (v := w1.1 + 1) (lv' := [(2, .int (w1.1 + 1)), (3, .int (nI nArr)), (0, .ref aArr), (1, .int p1)]) hx hb dJ7_fill_53178_14 hl (k := 1) rfl rfl (by decide) rfl (fun ls hl => ?_)
        refine lv_goto (tgt := 5) hx hb dJ7_fill_53178_17 (by decide) ?_
        exact ih (w1.1 + 1, upd w1.2 w1.1.toNatClampNeg p1) H locs ls (by exact (hF.trans ((if_neg c1).trans (rfl)))) hs hP hD hS (lv_sub hl [1, 0, 2, 3] rfl)
  exact KL5 (nArr + 1) (0, arr) H locs ls (by (first | exact rfl | (delta fJ7_fill_53178; exact rfl) | (unfold fJ7_fill_53178; dsimp only) | (unfold fJ7_fill_53178; simp only []))) hs hP hD hS hl

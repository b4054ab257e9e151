def fX11_isMultiply (p0 : Int32) : Int32 :=
  (let z1 := fX11_op p0; if z1 = 8 then (1) else ((let z2 := fX11_op p0; if z2 = 36 then (1) else ((let z3 := fX11_op p0; if z3 = 57 then (1) else ((let z4 := fX11_isSum p0; if z4 = 0 then (0) else (1))))))))
set_option maxHeartbeats 4000000 in
set_option maxRecDepth 100000 in
theorem mX11_isMultiply (l : Launch) (G : va_G) (cI cB cP : ClassId) (sz : Nat) (p0 : Int32) : kMi (S := Unit) l yX11_isMultiply wsX11_isMultiply ({ frames := 2, cells := 0, slots := 0, locals := 40 }) [.int p0] G (kTY cI cB cP) sz [] (fX11_isMultiply p0, ()) (fun r _ => isB r) (fun _ => []) := by
  refine k_ofz (cc := cX11_isMultiply) (maxL := 1) (by decide) rfl (Nat.le_of_ble_eq_true rfl) ?_
  intro p e s m args below meth c A ls Q H locs hx hb hml hown hts hin hK hP hD hA hS hl hret
  have hown : s.vm.findClass RX11 = some m.cls := hown
  have hl : lv_has ls 1 [(0, .int p0)] := hl
  refine lv_iload_n hx hb dX11_isMultiply_0 rfl (lv_at hl 0 rfl) ?_
  refine k_iS (As := [.int p0]) (rest := []) ⟨hx, hb, hml, hown, hts⟩ hK hP hD hS hA (mX11_op l G cI cB cP   H.size p0 ) (va_cwS 1 hts gX11_isMultiply_X11_op rfl rfl rfl (by decide +kernel) ⟨Nat.le_of_ble_eq_true rfl, Nat.le_of_ble_eq_true rfl⟩) rfl hl.1 rfl (Nat.le_of_ble_eq_true rfl) dX11_isMultiply_1 ⟨Nat.le_of_ble_eq_true rfl, Nat.le_of_ble_eq_true rfl⟩ (fun z1 H locs hz1 hEz1 hP hS => ?_)
  refine lv_bipush (v := 8) hx hb dX11_isMultiply_4 (by decide) ?_
  refine lv_icmp_eq (tgt := 34) hx hb dX11_isMultiply_6 (by decide) (fun c1 => ?_) (fun c1 => ?_)
  · skip
    refine lv_iconst (v := 1) hx hb dX11_isMultiply_34 (by decide) ?_
    refine lv_goto (tgt := 39) hx hb dX11_isMultiply_35 (by decide) ?_
    exact hret H locs _ ls 1 () dX11_isMultiply_39 (by clear hP hD hS hl; replace hz1 := hz1.symm; subst hz1; exact congrArg (fun x => (x, ())) (((if_pos c1).trans (rfl))).symm) (Or.inr rfl) (Or.inr rfl) hP hD hS
  · skip
    refine lv_iload_n hx hb dX11_isMultiply_9 rfl (lv_at hl 0 rfl) ?_
    refine k_iS (As := [.int p0]) (rest := []) ⟨hx, hb, hml, hown, hts⟩ hK hP hD hS hA (mX11_op l G cI cB cP   H.size p0 ) (va_cwS 1 hts gX11_isMultiply_X11_op rfl rfl rfl (by decide +kernel) ⟨Nat.le_of_ble_eq_true rfl, Nat.le_of_ble_eq_true rfl⟩) rfl hl.1 rfl (Nat.le_of_ble_eq_true rfl) dX11_isMultiply_10 ⟨Nat.le_of_ble_eq_true rfl, Nat.le_of_ble_eq_true rfl⟩ (fun z2 H locs hz2 hEz2 hP hS => ?_)
    refine lv_bipush (v := 36) hx hb dX11_isMultiply_13 (by decide) ?_
    refine lv_icmp_eq (tgt := 34) hx hb dX11_isMultiply_15 (by decide) (fun c2 => ?_) (fun c2 => ?_)
    · skip
      refine lv_iconst (v := 1) hx hb dX11_isMultiply_34 (by decide) ?_
      refine lv_goto (tgt := 39) hx hb dX11_isMultiply_35 (by decide) ?_
      exact hret H locs _ ls 1 () dX11_isMultiply_39 (by clear hP hD hS hl; replace hz2 := hz2.symm; subst hz2; replace hz1 := hz1.symm; subst hz1; exact congrArg (fun x => (x, ())) (((if_neg c1).trans ((if_pos c2).trans (rfl)))).symm) (Or.inr rfl) (Or.inr rfl) hP hD hS
    · skip
      refine lv_iload_n hx hb dX11_isMultiply_18 rfl (lv_at hl 0 rfl) ?_
      refine k_iS (As := [.int p0]) (rest := []) ⟨hx, hb, hml, hown, hts⟩ hK hP hD hS hA (mX11_op l G cI cB cP   H.size p0 ) (va_cwS 1 hts gX11_isMultiply_X11_op rfl rfl rfl (by decide +kernel) ⟨Nat.le_of_ble_eq_true rfl, Nat.le_of_ble_eq_true rfl⟩) rfl hl.1 rfl (Nat.le_of_ble_eq_true rfl) dX11_isMultiply_19 ⟨Nat.le_of_ble_eq_true rfl, Nat.le_of_ble_eq_true rfl⟩ (fun z3 H locs hz3 hEz3 hP hS => ?_)
      refine lv_bipush (v := 57) hx hb dX11_isMultiply_22 (by decide) ?_
      refine lv_icmp_eq (tgt := 34) hx hb dX11_isMultiply_24 (by decide) (fun c3 => ?_) (fun c3 => ?_)
      · skip
        refine lv_iconst (v := 1) hx hb dX11_isMultiply_34 (by decide) ?_
        refine lv_goto (tgt := 39) hx hb dX11_isMultiply_35 (by decide) ?_
        exact hret H locs _ ls 1 () dX11_isMultiply_39 (by clear hP hD hS hl; replace hz3 := hz3.symm; subst hz3; replace hz2 := hz2.symm; subst hz2; replace hz1 := hz1.symm; subst hz1; exact congrArg (fun x => (x, ())) (((if_neg c1).trans ((if_neg c2).trans ((if_pos c3).trans (rfl))))).symm) (Or.inr rfl) (Or.inr rfl) hP hD hS
      · skip
        refine lv_iload_n hx hb dX11_isMultiply_27 rfl (lv_at hl 0 rfl) ?_
        refine k_iS (As := [.int p0]) (rest := []) ⟨hx, hb, hml, hown, hts⟩ hK hP hD hS hA (mX11_isSum l G cI cB cP   H.size p0 ) (va_cwS 1 hts gX11_isMultiply_X11_isSum rfl rfl rfl (by decide +kernel) ⟨Nat.le_of_ble_eq_true rfl, Nat.le_of_ble_eq_true rfl⟩) rfl hl.1 rfl (Nat.le_of_ble_eq_true rfl) dX11_isMultiply_28 ⟨Nat.le_of_ble_eq_true rfl, Nat.le_of_ble_eq_true rfl⟩ (fun z4 H locs hz4 hEz4 hP hS => ?_)
        refine lv_if_eq (tgt := 38) hx hb dX11_isMultiply_31 (by decide) (fun c4 => ?_) (fun c4 => ?_)
        · skip
          refine lv_iconst (v := 0) hx hb dX11_isMultiply_38 (by decide) ?_
          exact hret H locs _ ls 0 () dX11_isMultiply_39 (by clear hP hD hS hl; replace hz4 := hz4.symm; subst hz4; replace hz3 := hz3.symm; subst hz3; replace hz2 := hz2.symm; subst hz2; replace hz1 := hz1.symm; subst hz1; exact congrArg (fun x => (x, ())) (((if_neg c1).trans ((if_neg c2).trans ((if_neg c3).trans ((if_pos c4).trans (rfl)))))).symm) (Or.inl rfl) (Or.inl rfl) hP hD hS
        · skip
          refine lv_iconst (v := 1) hx hb dX11_isMultiply_34 (by decide) ?_
          refine lv_goto (tgt := 39) hx hb dX11_isMultiply_35 (by decide) ?_
          exact hret H locs _ ls 1 () dX11_isMultiply_39 (by clear hP hD hS hl; replace hz4 := hz4.symm; subst hz4; replace hz3 := hz3.symm; subst hz3; replace hz2 := hz2.symm; subst hz2; replace hz1 := hz1.symm; subst hz1; exact congrArg (fun x => (x, ())) (((if_neg c1).trans ((if_neg c2).trans ((if_neg c3).trans ((if_neg c4).trans (rfl)))))).symm) (Or.inr rfl) (Or.inr rfl) hP hD hS
def fX11_writes (p0 : Int32) : Int32 :=
  (let z1 := fX11_op p0; (let j2 : Int32 := if z1 < 18 then (1) else ((let z2 := fX11_isMemory p0; if z2 = 0 then (if z1 = 30 then (1) else (if z1 ≤ 33 then (if z1 = 57 then (1) else (0)) else (if 51 ≤ z1 then (if z1 = 57 then (1) else (0)) else ((let z3 := fX11_isSum p0; if z3 = 0 then (1) else (if z1 = 57 then (1) else (0))))))) else ((let z4 := fX11_isStore p0; if z4 = 0 then (1) else (if z1 = 30 then (1) else (if z1 ≤ 33 then (if z1 = 57 then (1) else (0)) else (if 51 ≤ z1 then (if z1 = 57 then (1) else (0)) else ((let z5 := fX11_isSum p0; if z5 = 0 then (1) else (if z1 = 57 then (1) else (0))))))))))); (let z3 := fX11_isNone p0; if z3 = 0 then (if j2 = 0 then (if z1 = 21 then (31) else (if z1 = 25 then (31) else (0))) else ((p0 >>> (21 &&& 31)) &&& 31)) else (0))))
set_option maxHeartbeats 4000000 in
set_option maxRecDepth 100000 in
theorem mX11_writes (l : Launch) (G : va_G) (cI cB cP : ClassId) (sz : Nat) (p0 : Int32) : kMi (S := Unit) l yX11_writes wsX11_writes ({ frames := 2, cells := 0, slots := 0, locals := 40 }) [.int p0] G (kTY cI cB cP) sz [] (fX11_writes p0, ()) (fun _ _ => True) (fun _ => []) := by
  refine k_ofi (cc := cX11_writes) (maxL := 3) (by decide) rfl (Nat.le_of_ble_eq_true rfl) ?_
  intro p e s m args below meth c A ls Q H locs hx hb hml hown hts hin hK hP hD hA hS hl hret
  have hown : s.vm.findClass RX11 = some m.cls := hown
  have hl : lv_has ls 3 [(0, .int p0)] := hl
  refine lv_iload_n hx hb dX11_writes_0 rfl (lv_at hl 0 rfl) ?_
  refine k_iS (As := [.int p0]) (rest := []) ⟨hx, hb, hml, hown, hts⟩ hK hP hD hS hA (mX11_op l G cI cB cP   H.size p0 ) (va_cwS 1 hts gX11_writes_X11_op rfl rfl rfl (by decide +kernel) ⟨Nat.le_of_ble_eq_true rfl, Nat.le_of_ble_eq_true rfl⟩) rfl hl.1 rfl (Nat.le_of_ble_eq_true rfl) dX11_writes_1 ⟨Nat.le_of_ble_eq_true rfl, Nat.le_of_ble_eq_true rfl⟩ (fun z1 H locs hz1 hEz1 hP hS => ?_)
  refine lv_istore_n (lv' := [(1, .int z1), (0, .int p0)]) hx hb dX11_writes_4 rfl hl (by decide) rfl (fun ls hl => ?_)
  refine lv_iload_n hx hb dX11_writes_5 rfl (lv_at hl 0 rfl) ?_
  refine lv_bipush (v := 18) hx hb dX11_writes_6 (by decide) ?_
  have Kj2 : ∀ (j2 : Int32) (H : Heap) (locs : List Loc) (ls : Array Slot), j2 = (if z1 < 18 then (1) else ((let z2 := fX11_isMemory p0; if z2 = 0 then (if z1 = 30 then (1) else (if z1 ≤ 33 then (if z1 = 57 then (1) else (0)) else (if 51 ≤ z1 then (if z1 = 57 then (1) else (0)) else ((let z3 := fX11_isSum p0; if z3 = 0 then (1) else (if z1 = 57 then (1) else (0))))))) else ((let z4 := fX11_isStore p0; if z4 = 0 then (1) else (if z1 = 30 then (1) else (if z1 ≤ 33 then (if z1 = 57 then (1) else (0)) else (if 51 ≤ z1 then (if z1 = 57 then (1) else (0)) else ((let z5 := fX11_isSum p0; if z5 = 0 then (1) else (if z1 = 57 then (1) else (0)))))))))))) → isB j2 → va_P G vwCl [] H → va_D A [] → va_S A s.heap H locs → lv_has ls 3 [(1, .int z1), (0, .int p0)] → W p l e ({ frames := 2, cells := 0, slots := 0, locals := 40 }) s m args below meth c H locs 0 0 Q (F0 m 61 ls [.int j2]) := by
    intro j2 H locs ls hj2 hbj2_0 hP hD hS hl
    refine lv_istore_n (lv' := [(2, .int j2), (1, .int z1), (0, .int p0)]) hx hb dX11_writes_61 rfl hl (by decide) rfl (fun ls hl => ?_)
    refine lv_iload_n hx hb dX11_writes_62 rfl (lv_at hl 2 rfl) ?_
    refine k_iS (As := [.int p0]) (rest := []) ⟨hx, hb, hml, hown, hts⟩ hK hP hD hS hA (mX11_isNone l G cI cB cP   H.size p0 ) (va_cwS 1 hts gX11_writes_X11_isNone rfl rfl rfl (by decide +kernel) ⟨Nat.le_of_ble_eq_true rfl, Nat.le_of_ble_eq_true rfl⟩) rfl hl.1 rfl (Nat.le_of_ble_eq_true rfl) dX11_writes_63 ⟨Nat.le_of_ble_eq_true rfl, Nat.le_of_ble_eq_true rfl⟩ (fun z3 H locs hz3 hEz3 hP hS => ?_)
    refine lv_if_eq (tgt := 73) hx hb dX11_writes_66 (by decide) (fun c35 => ?_) (fun c35 => ?_)
    · skip
      refine lv_iload_n hx hb dX11_writes_73 rfl (lv_at hl 0 rfl) ?_
      refine lv_if_eq (tgt := 87) hx hb dX11_writes_74 (by decide) (fun c36 => ?_) (fun c36 => ?_)
      · skip
        refine lv_iload_n hx hb dX11_writes_87 rfl (lv_at hl 1 rfl) ?_
        refine lv_bipush (v := 21) hx hb dX11_writes_88 (by decide) ?_
        refine lv_icmp_eq (tgt := 99) hx hb dX11_writes_90 (by decide) (fun c37 => ?_) (fun c37 => ?_)
        · skip
          refine lv_bipush (v := 31) hx hb dX11_writes_99 (by decide) ?_
          refine lv_goto (tgt := 105) hx hb dX11_writes_101 (by decide) ?_
          exact hret H locs _ ls 31 () dX11_writes_105 (by clear hP hD hS hl; replace hz3 := hz3.symm; subst hz3; replace hj2 := hj2.symm; subst hj2; replace hz1 := hz1.symm; subst hz1; exact congrArg (fun x => (x, ())) (((if_pos c35).trans ((if_pos c36).trans ((if_pos c37).trans (rfl))))).symm) trivial hP hD hS
        · skip
          refine lv_iload_n hx hb dX11_writes_93 rfl (lv_at hl 1 rfl) ?_
          refine lv_bipush (v := 25) hx hb dX11_writes_94 (by decide) ?_
          refine lv_icmp_ne (tgt := 104) hx hb dX11_writes_96 (by decide) (fun c38 => ?_) (fun c38 => ?_)
          · skip
            refine lv_iconst (v := 0) hx hb dX11_writes_104 (by decide) ?_
            exact hret H locs _ ls 0 () dX11_writes_105 (by clear hP hD hS hl; replace hz3 := hz3.symm; subst hz3; replace hj2 := hj2.symm; subst hj2; replace hz1 := hz1.symm; subst hz1; exact congrArg (fun x => (x, ())) (((if_pos c35).trans ((if_pos c36).trans ((if_neg c37).trans ((if_neg c38).trans (rfl)))))).symm) trivial hP hD hS
          · skip
            refine lv_bipush (v := 31) hx hb dX11_writes_99 (by decide) ?_
            refine lv_goto (tgt := 105) hx hb dX11_writes_101 (by decide) ?_
            exact hret H locs _ ls 31 () dX11_writes_105 (by clear hP hD hS hl; replace hz3 := hz3.symm; subst hz3; replace hj2 := hj2.symm; subst hj2; replace hz1 := hz1.symm; subst hz1; exact congrArg (fun x => (x, ())) (((if_pos c35).trans ((if_pos c36).trans ((if_neg c37).trans ((if_pos c38).trans (rfl)))))).symm) trivial hP hD hS
      · skip
        refine lv_iload_n hx hb dX11_writes_77 rfl (lv_at hl 2 rfl) ?_
        refine lv_bipush (v := 21) hx hb dX11_writes_78 (by decide) ?_
        refine lv_ishr hx hb dX11_writes_80 ?_
        refine lv_bipush (v := 31) hx hb dX11_writes_81 (by decide) ?_
        refine lv_iand hx hb dX11_writes_83 ?_
        refine lv_goto (tgt := 105) hx hb dX11_writes_84 (by decide) ?_
        exact hret H locs _ ls ((p0 >>> (21 &&& 31)) &&& 31) () dX11_writes_105 (by clear hP hD hS hl; replace hz3 := hz3.symm; subst hz3; replace hj2 := hj2.symm; subst hj2; replace hz1 := hz1.symm; subst hz1; exact congrArg (fun x => (x, ())) (((if_pos c35).trans ((if_neg c36).trans (rfl)))).symm) trivial hP hD hS
    · skip
      refine lv_iconst (v := 0) hx hb dX11_writes_69 (by decide) ?_
      refine lv_goto (tgt := 105) hx hb dX11_writes_70 (by decide) ?_
      exact hret H locs _ ls 0 () dX11_writes_105 (by clear hP hD hS hl; replace hz3 := hz3.symm; subst hz3; replace hj2 := hj2.symm; subst hj2; replace hz1 := hz1.symm; subst hz1; exact congrArg (fun x => (x, ())) (((if_neg c35).trans (rfl))).symm) trivial hP hD hS
  refine lv_icmp_lt (tgt := 56) hx hb dX11_writes_8 (by decide) (fun c39 => ?_) (fun c39 => ?_)
  · skip
    refine lv_iconst (v := 1) hx hb dX11_writes_56 (by decide) ?_
    refine lv_goto (tgt := 61) hx hb dX11_writes_57 (by decide) ?_
    exact Kj2 1 H locs ls ((if_pos c39).trans (rfl)).symm (Or.inr rfl) hP hD hS (lv_sub hl [0, 1] rfl)
  · skip
    refine lv_iload_n hx hb dX11_writes_11 rfl (lv_at hl 1 rfl) ?_
    refine k_iS (As := [.int p0]) (rest := []) ⟨hx, hb, hml, hown, hts⟩ hK hP hD hS hA (mX11_isMemory l G cI cB cP   H.size p0 ) (va_cwS 1 hts gX11_writes_X11_isMemory rfl rfl rfl (by decide +kernel) ⟨Nat.le_of_ble_eq_true rfl, Nat.le_of_ble_eq_true rfl⟩) rfl hl.1 rfl (Nat.le_of_ble_eq_true rfl) dX11_writes_12 ⟨Nat.le_of_ble_eq_true rfl, Nat.le_of_ble_eq_true rfl⟩ (fun z4 H locs hz4 hEz4 hP hS => ?_)
    refine lv_if_eq (tgt := 25) hx hb dX11_writes_15 (by decide) (fun c40 => ?_) (fun c40 => ?_)
    · skip
      refine lv_iload_n hx hb dX11_writes_25 rfl (lv_at hl 0 rfl) ?_
      refine lv_bipush (v := 30) hx hb dX11_writes_26 (by decide) ?_
      refine lv_icmp_eq (tgt := 56) hx hb dX11_writes_28 (by decide) (fun c41 => ?_) (fun c41 => ?_)
      · skip
        refine lv_iconst (v := 1) hx hb dX11_writes_56 (by decide) ?_
        refine lv_goto (tgt := 61) hx hb dX11_writes_57 (by decide) ?_
        exact Kj2 1 H locs ls (by clear hP hD hS hl; replace hz4 := hz4.symm; subst hz4; exact (((if_neg c39).trans ((if_pos c40).trans ((if_pos c41).trans (rfl))))).symm) (Or.inr rfl) hP hD hS (lv_sub hl [0, 1] rfl)
      · skip
        refine lv_iload_n hx hb dX11_writes_31 rfl (lv_at hl 0 rfl) ?_
        refine lv_bipush (v := 33) hx hb dX11_writes_32 (by decide) ?_
        refine lv_icmp_le (tgt := 50) hx hb dX11_writes_34 (by decide) (fun c42 => ?_) (fun c42 => ?_)
        · skip
          refine lv_iload_n hx hb dX11_writes_50 rfl (lv_at hl 0 rfl) ?_
          refine lv_bipush (v := 57) hx hb dX11_writes_51 (by decide) ?_
          refine lv_icmp_ne (tgt := 60) hx hb dX11_writes_53 (by decide) (fun c43 => ?_) (fun c43 => ?_)
          · skip
            refine lv_iconst (v := 0) hx hb dX11_writes_60 (by decide) ?_
            exact Kj2 0 H locs ls (by clear hP hD hS hl; replace hz4 := hz4.symm; subst hz4; exact (((if_neg c39).trans ((if_pos c40).trans ((if_neg c41).trans ((if_pos c42).trans ((if_neg c43).trans (rfl))))))).symm) (Or.inl rfl) hP hD hS (lv_sub hl [0, 1] rfl)
          · skip
            refine lv_iconst (v := 1) hx hb dX11_writes_56 (by decide) ?_
            refine lv_goto (tgt := 61) hx hb dX11_writes_57 (by decide) ?_
            exact Kj2 1 H locs ls (by clear hP hD hS hl; replace hz4 := hz4.symm; subst hz4; exact (((if_neg c39).trans ((if_pos c40).trans ((if_neg c41).trans ((if_pos c42).trans ((if_pos c43).trans (rfl))))))).symm) (Or.inr rfl) hP hD hS (lv_sub hl [0, 1] rfl)
        · skip
          refine lv_iload_n hx hb dX11_writes_37 rfl (lv_at hl 0 rfl) ?_
          refine lv_bipush (v := 51) hx hb dX11_writes_38 (by decide) ?_
          refine lv_icmp_ge (tgt := 50) hx hb dX11_writes_40 (by decide) (fun c44 => ?_) (fun c44 => ?_)
          · skip
            refine lv_iload_n hx hb dX11_writes_50 rfl (lv_at hl 0 rfl) ?_
            refine lv_bipush (v := 57) hx hb dX11_writes_51 (by decide) ?_
            refine lv_icmp_ne (tgt := 60) hx hb dX11_writes_53 (by decide) (fun c45 => ?_) (fun c45 => ?_)
            · skip
              refine lv_iconst (v := 0) hx hb dX11_writes_60 (by decide) ?_
              exact Kj2 0 H locs ls (by clear hP hD hS hl; replace hz4 := hz4.symm; subst hz4; exact (((if_neg c39).trans ((if_pos c40).trans ((if_neg c41).trans ((if_neg c42).trans ((if_pos c44).trans ((if_neg c45).trans (rfl)))))))).symm) (Or.inl rfl) hP hD hS (lv_sub hl [0, 1] rfl)
            · skip
              refine lv_iconst (v := 1) hx hb dX11_writes_56 (by decide) ?_
              refine lv_goto (tgt := 61) hx hb dX11_writes_57 (by decide) ?_
              exact Kj2 1 H locs ls (by clear hP hD hS hl; replace hz4 := hz4.symm; subst hz4; exact (((if_neg c39).trans ((if_pos c40).trans ((if_neg c41).trans ((if_neg c42).trans ((if_pos c44).trans ((if_pos c45).trans (rfl)))))))).symm) (Or.inr rfl) hP hD hS (lv_sub hl [0, 1] rfl)
          · skip
            refine lv_iload_n hx hb dX11_writes_43 rfl (lv_at hl 1 rfl) ?_
            refine k_iS (As := [.int p0]) (rest := []) ⟨hx, hb, hml, hown, hts⟩ hK hP hD hS hA (mX11_isSum l G cI cB cP   H.size p0 ) (va_cwS 1 hts gX11_writes_X11_isSum rfl rfl rfl (by decide +kernel) ⟨Nat.le_of_ble_eq_true rfl, Nat.le_of_ble_eq_true rfl⟩) rfl hl.1 rfl (Nat.le_of_ble_eq_true rfl) dX11_writes_44 ⟨Nat.le_of_ble_eq_true rfl, Nat.le_of_ble_eq_true rfl⟩ (fun z5 H locs hz5 hEz5 hP hS => ?_)
            refine lv_if_eq (tgt := 56) hx hb dX11_writes_47 (by decide) (fun c46 => ?_) (fun c46 => ?_)
            · skip
              refine lv_iconst (v := 1) hx hb dX11_writes_56 (by decide) ?_
              refine lv_goto (tgt := 61) hx hb dX11_writes_57 (by decide) ?_
              exact Kj2 1 H locs ls (by clear hP hD hS hl; replace hz5 := hz5.symm; subst hz5; replace hz4 := hz4.symm; subst hz4; exact (((if_neg c39).trans ((if_pos c40).trans ((if_neg c41).trans ((if_neg c42).trans ((if_neg c44).trans ((if_pos c46).trans (rfl)))))))).symm) (Or.inr rfl) hP hD hS (lv_sub hl [0, 1] rfl)
            · skip
              refine lv_iload_n hx hb dX11_writes_50 rfl (lv_at hl 0 rfl) ?_
              refine lv_bipush (v := 57) hx hb dX11_writes_51 (by decide) ?_
              refine lv_icmp_ne (tgt := 60) hx hb dX11_writes_53 (by decide) (fun c47 => ?_) (fun c47 => ?_)
              · skip
                refine lv_iconst (v := 0) hx hb dX11_writes_60 (by decide) ?_
                exact Kj2 0 H locs ls (by clear hP hD hS hl; replace hz5 := hz5.symm; subst hz5; replace hz4 := hz4.symm; subst hz4; exact (((if_neg c39).trans ((if_pos c40).trans ((if_neg c41).trans ((if_neg c42).trans ((if_neg c44).trans ((if_neg c46).trans ((if_neg c47).trans (rfl))))))))).symm) (Or.inl rfl) hP hD hS (lv_sub hl [0, 1] rfl)
              · skip
                refine lv_iconst (v := 1) hx hb dX11_writes_56 (by decide) ?_
                refine lv_goto (tgt := 61) hx hb dX11_writes_57 (by decide) ?_
                exact Kj2 1 H locs ls (by clear hP hD hS hl; replace hz5 := hz5.symm; subst hz5; replace hz4 := hz4.symm; subst hz4; exact (((if_neg c39).trans ((if_pos c40).trans ((if_neg c41).trans ((if_neg c42).trans ((if_neg c44).trans ((if_neg c46).trans ((if_pos c47).trans (rfl))))))))).symm) (Or.inr rfl) hP hD hS (lv_sub hl [0, 1] rfl)
    · skip
      refine lv_iload_n hx hb dX11_writes_18 rfl (lv_at hl 1 rfl) ?_
      refine k_iS (As := [.int p0]) (rest := []) ⟨hx, hb, hml, hown, hts⟩ hK hP hD hS hA (mX11_isStore l G cI cB cP   H.size p0 ) (va_cwS 1 hts gX11_writes_X11_isStore rfl rfl rfl (by decide +kernel) ⟨Nat.le_of_ble_eq_true rfl, Nat.le_of_ble_eq_true rfl⟩) rfl hl.1 rfl (Nat.le_of_ble_eq_true rfl) dX11_writes_19 ⟨Nat.le_of_ble_eq_true rfl, Nat.le_of_ble_eq_true rfl⟩ (fun z6 H locs hz6 hEz6 hP hS => ?_)
      refine lv_if_eq (tgt := 56) hx hb dX11_writes_22 (by decide) (fun c48 => ?_) (fun c48 => ?_)
      · skip
        refine lv_iconst (v := 1) hx hb dX11_writes_56 (by decide) ?_
        refine lv_goto (tgt := 61) hx hb dX11_writes_57 (by decide) ?_
        exact Kj2 1 H locs ls (by clear hP hD hS hl; replace hz6 := hz6.symm; subst hz6; replace hz4 := hz4.symm; subst hz4; exact (((if_neg c39).trans ((if_neg c40).trans ((if_pos c48).trans (rfl))))).symm) (Or.inr rfl) hP hD hS (lv_sub hl [0, 1] rfl)
      · skip
        refine lv_iload_n hx hb dX11_writes_25 rfl (lv_at hl 0 rfl) ?_
        refine lv_bipush (v := 30) hx hb dX11_writes_26 (by decide) ?_
        refine lv_icmp_eq (tgt := 56) hx hb dX11_writes_28 (by decide) (fun c49 => ?_) (fun c49 => ?_)
        · skip
          refine lv_iconst (v := 1) hx hb dX11_writes_56 (by decide) ?_
          refine lv_goto (tgt := 61) hx hb dX11_writes_57 (by decide) ?_
          exact Kj2 1 H locs ls (by clear hP hD hS hl; replace hz6 := hz6.symm; subst hz6; replace hz4 := hz4.symm; subst hz4; exact (((if_neg c39).trans ((if_neg c40).trans ((if_neg c48).trans ((if_pos c49).trans (rfl)))))).symm) (Or.inr rfl) hP hD hS (lv_sub hl [0, 1] rfl)
        · skip
          refine lv_iload_n hx hb dX11_writes_31 rfl (lv_at hl 0 rfl) ?_
          refine lv_bipush (v := 33) hx hb dX11_writes_32 (by decide) ?_
          refine lv_icmp_le (tgt := 50) hx hb dX11_writes_34 (by decide) (fun c50 => ?_) (fun c50 => ?_)
          · skip
            refine lv_iload_n hx hb dX11_writes_50 rfl (lv_at hl 0 rfl) ?_
            refine lv_bipush (v := 57) hx hb dX11_writes_51 (by decide) ?_
            refine lv_icmp_ne (tgt := 60) hx hb dX11_writes_53 (by decide) (fun c51 => ?_) (fun c51 => ?_)
            · skip
              refine lv_iconst (v := 0) hx hb dX11_writes_60 (by decide) ?_
              exact Kj2 0 H locs ls (by clear hP hD hS hl; replace hz6 := hz6.symm; subst hz6; replace hz4 := hz4.symm; subst hz4; exact (((if_neg c39).trans ((if_neg c40).trans ((if_neg c48).trans ((if_neg c49).trans ((if_pos c50).trans ((if_neg c51).trans (rfl)))))))).symm) (Or.inl rfl) hP hD hS (lv_sub hl [0, 1] rfl)
            · skip
              refine lv_iconst (v := 1) hx hb dX11_writes_56 (by decide) ?_
              refine lv_goto (tgt := 61) hx hb dX11_writes_57 (by decide) ?_
              exact Kj2 1 H locs ls (by clear hP hD hS hl; replace hz6 := hz6.symm; subst hz6; replace hz4 := hz4.symm; subst hz4; exact (((if_neg c39).trans ((if_neg c40).trans ((if_neg c48).trans ((if_neg c49).trans ((if_pos c50).trans ((if_pos c51).trans (rfl)))))))).symm) (Or.inr rfl) hP hD hS (lv_sub hl [0, 1] rfl)
          · skip
            refine lv_iload_n hx hb dX11_writes_37 rfl (lv_at hl 0 rfl) ?_
            refine lv_bipush (v := 51) hx hb dX11_writes_38 (by decide) ?_
            refine lv_icmp_ge (tgt := 50) hx hb dX11_writes_40 (by decide) (fun c52 => ?_) (fun c52 => ?_)
            · skip
              refine lv_iload_n hx hb dX11_writes_50 rfl (lv_at hl 0 rfl) ?_
              refine lv_bipush (v := 57) hx hb dX11_writes_51 (by decide) ?_
              refine lv_icmp_ne (tgt := 60) hx hb dX11_writes_53 (by decide) (fun c53 => ?_) (fun c53 => ?_)
              · skip
                refine lv_iconst (v := 0) hx hb dX11_writes_60 (by decide) ?_
                exact Kj2 0 H locs ls (by clear hP hD hS hl; replace hz6 := hz6.symm; subst hz6; replace hz4 := hz4.symm; subst hz4; exact (((if_neg c39).trans ((if_neg c40).trans ((if_neg c48).trans ((if_neg c49).trans ((if_neg c50).trans ((if_pos c52).trans ((if_neg c53).trans (rfl))))))))).symm) (Or.inl rfl) hP hD hS (lv_sub hl [0, 1] rfl)
              · skip
                refine lv_iconst (v := 1) hx hb dX11_writes_56 (by decide) ?_
                refine lv_goto (tgt := 61) hx hb dX11_writes_57 (by decide) ?_
                exact Kj2 1 H locs ls (by clear hP hD hS hl; replace hz6 := hz6.symm; subst hz6; replace hz4 := hz4.symm; subst hz4; exact (((if_neg c39).trans ((if_neg c40).trans ((if_neg c48).trans ((if_neg c49).trans ((if_neg c50).trans ((if_pos c52).trans ((if_pos c53).trans (rfl))))))))).symm) (Or.inr rfl) hP hD hS (lv_sub hl [0, 1] rfl)
            · skip
              refine lv_iload_n hx hb dX11_writes_43 rfl (lv_at hl 1 rfl) ?_
              refine k_iS (As := [.int p0]) (rest := []) ⟨hx, hb, hml, hown, hts⟩ hK hP hD hS hA (mX11_isSum l G cI cB cP   H.size p0 ) (va_cwS 1 hts gX11_writes_X11_isSum rfl rfl rfl (by decide +kernel) ⟨Nat.le_of_ble_eq_true rfl, Nat.le_of_ble_eq_true rfl⟩) rfl hl.1 rfl (Nat.le_of_ble_eq_true rfl) dX11_writes_44 ⟨Nat.le_of_ble_eq_true rfl, Nat.le_of_ble_eq_true rfl⟩ (fun z7 H locs hz7 hEz7 hP hS => ?_)
              refine lv_if_eq (tgt := 56) hx hb dX11_writes_47 (by decide) (fun c54 => ?_) (fun c54 => ?_)
              · skip
                refine lv_iconst (v := 1) hx hb dX11_writes_56 (by decide) ?_
                refine lv_goto (tgt := 61) hx hb dX11_writes_57 (by decide) ?_
                exact Kj2 1 H locs ls (by clear hP hD hS hl; replace hz7 := hz7.symm; subst hz7; replace hz6 := hz6.symm; subst hz6; replace hz4 := hz4.symm; subst hz4; exact (((if_neg c39).trans ((if_neg c40).trans ((if_neg c48).trans ((if_neg c49).trans ((if_neg c50).trans ((if_neg c52).trans ((if_pos c54).trans (rfl))))))))).symm) (Or.inr rfl) hP hD hS (lv_sub hl [0, 1] rfl)
              · skip
                refine lv_iload_n hx hb dX11_writes_50 rfl (lv_at hl 0 rfl) ?_
                refine lv_bipush (v := 57) hx hb dX11_writes_51 (by decide) ?_
                refine lv_icmp_ne (tgt := 60) hx hb dX11_writes_53 (by decide) (fun c55 => ?_) (fun c55 => ?_)
                · skip
                  refine lv_iconst (v := 0) hx hb dX11_writes_60 (by decide) ?_
                  exact Kj2 0 H locs ls (by clear hP hD hS hl; replace hz7 := hz7.symm; subst hz7; replace hz6 := hz6.symm; subst hz6; replace hz4 := hz4.symm; subst hz4; exact (((if_neg c39).trans ((if_neg c40).trans ((if_neg c48).trans ((if_neg c49).trans ((if_neg c50).trans ((if_neg c52).trans ((if_neg c54).trans ((if_neg c55).trans (rfl)))))))))).symm) (Or.inl rfl) hP hD hS (lv_sub hl [0, 1] rfl)
                · skip
                  refine lv_iconst (v := 1) hx hb dX11_writes_56 (by decide) ?_
                  refine lv_goto (tgt := 61) hx hb dX11_writes_57 (by decide) ?_
                  exact Kj2 1 H locs ls (by clear hP hD hS hl; replace hz7 := hz7.symm; subst hz7; replace hz6 := hz6.symm; subst hz6; replace hz4 := hz4.symm; subst hz4; exact (((if_neg c39).trans ((if_neg c40).trans ((if_neg c48).trans ((if_neg c49).trans ((if_neg c50).trans ((if_neg c52).trans ((if_neg c54).trans ((if_pos c55).trans (rfl)))))))))).symm) (Or.inr rfl) hP hD hS (lv_sub hl [0, 1] rfl)
def fX11_writesFlag (p0 : Int32) : Int32 :=
  (let z1 := fX11_isNone p0; if z1 = 0 then ((let z2 := fX11_op p0; if z2 = 18 then (1) else ((let z3 := fX11_op p0; if z3 = 19 then (1) else (0))))) else (0))
set_option maxHeartbeats 4000000 in
set_option maxRecDepth 100000 in
theorem mX11_writesFlag (l : Launch) (G : va_G) (cI cB cP : ClassId) (sz : Nat) (p0 : Int32) : kMi (S := Unit) l yX11_writesFlag wsX11_writesFlag ({ frames := 2, cells := 0, slots := 0, locals := 40 }) [.int p0] G (kTY cI cB cP) sz [] (fX11_writesFlag p0, ()) (fun r _ => isB r) (fun _ => []) := by
  refine k_ofz (cc := cX11_writesFlag) (maxL := 1) (by decide) rfl (Nat.le_of_ble_eq_true rfl) ?_
  intro p e s m args below meth c A ls Q H locs hx hb hml hown hts hin hK hP hD hA hS hl hret
  have hown : s.vm.findClass RX11 = some m.cls := hown
  have hl : lv_has ls 1 [(0, .int p0)] := hl
  refine lv_iload_n hx hb dX11_writesFlag_0 rfl (lv_at hl 0 rfl) ?_
  refine k_iS (As := [.int p0]) (rest := []) ⟨hx, hb, hml, hown, hts⟩ hK hP hD hS hA (mX11_isNone l G cI cB cP   H.size p0 ) (va_cwS 1 hts gX11_writesFlag_X11_isNone rfl rfl rfl (by decide +kernel) ⟨Nat.le_of_ble_eq_true rfl, Nat.le_of_ble_eq_true rfl⟩) rfl hl.1 rfl (Nat.le_of_ble_eq_true rfl) dX11_writesFlag_1 ⟨Nat.le_of_ble_eq_true rfl, Nat.le_of_ble_eq_true rfl⟩ (fun z1 H locs hz1 hEz1 hP hS => ?_)
  refine lv_if_ne (tgt := 29) hx hb dX11_writesFlag_4 (by decide) (fun c1 => ?_) (fun c1 => ?_)
  · skip
    refine lv_iconst (v := 0) hx hb dX11_writesFlag_29 (by decide) ?_
    exact hret H locs _ ls 0 () dX11_writesFlag_30 (by clear hP hD hS hl; replace hz1 := hz1.symm; subst hz1; exact congrArg (fun x => (x, ())) (((if_neg c1).trans (rfl))).symm) (Or.inl rfl) (Or.inl rfl) hP hD hS
  · skip
    refine lv_iload_n hx hb dX11_writesFlag_7 rfl (lv_at hl 0 rfl) ?_
    refine k_iS (As := [.int p0]) (rest := []) ⟨hx, hb, hml, hown, hts⟩ hK hP hD hS hA (mX11_op l G cI cB cP   H.size p0 ) (va_cwS 1 hts gX11_writesFlag_X11_op rfl rfl rfl (by decide +kernel) ⟨Nat.le_of_ble_eq_true rfl, Nat.le_of_ble_eq_true rfl⟩) rfl hl.1 rfl (Nat.le_of_ble_eq_true rfl) dX11_writesFlag_8 ⟨Nat.le_of_ble_eq_true rfl, Nat.le_of_ble_eq_true rfl⟩ (fun z2 H locs hz2 hEz2 hP hS => ?_)
    refine lv_bipush (v := 18) hx hb dX11_writesFlag_11 (by decide) ?_
    refine lv_icmp_eq (tgt := 25) hx hb dX11_writesFlag_13 (by decide) (fun c2 => ?_) (fun c2 => ?_)
    · skip
      refine lv_iconst (v := 1) hx hb dX11_writesFlag_25 (by decide) ?_
      refine lv_goto (tgt := 30) hx hb dX11_writesFlag_26 (by decide) ?_
      exact hret H locs _ ls 1 () dX11_writesFlag_30 (by clear hP hD hS hl; replace hz2 := hz2.symm; subst hz2; replace hz1 := hz1.symm; subst hz1; exact congrArg (fun x => (x, ())) (((if_pos c1).trans ((if_pos c2).trans (rfl)))).symm) (Or.inr rfl) (Or.inr rfl) hP hD hS
    · skip
      refine lv_iload_n hx hb dX11_writesFlag_16 rfl (lv_at hl 0 rfl) ?_
      refine k_iS (As := [.int p0]) (rest := []) ⟨hx, hb, hml, hown, hts⟩ hK hP hD hS hA (mX11_op l G cI cB cP   H.size p0 ) (va_cwS 1 hts gX11_writesFlag_X11_op rfl rfl rfl (by decide +kernel) ⟨Nat.le_of_ble_eq_true rfl, Nat.le_of_ble_eq_true rfl⟩) rfl hl.1 rfl (Nat.le_of_ble_eq_true rfl) dX11_writesFlag_17 ⟨Nat.le_of_ble_eq_true rfl, Nat.le_of_ble_eq_true rfl⟩ (fun z3 H locs hz3 hEz3 hP hS => ?_)
      refine lv_bipush (v := 19) hx hb dX11_writesFlag_20 (by decide) ?_
      refine lv_icmp_ne (tgt := 29) hx hb dX11_writesFlag_22 (by decide) (fun c3 => ?_) (fun c3 => ?_)
      · skip
        refine lv_iconst (v := 0) hx hb dX11_writesFlag_29 (by decide) ?_
        exact hret H locs _ ls 0 () dX11_writesFlag_30 (by clear hP hD hS hl; replace hz3 := hz3.symm; subst hz3; replace hz2 := hz2.symm; subst hz2; replace hz1 := hz1.symm; subst hz1; exact congrArg (fun x => (x, ())) (((if_pos c1).trans ((if_neg c2).trans ((if_neg c3).trans (rfl))))).symm) (Or.inl rfl) (Or.inl rfl) hP hD hS
      · skip
        refine lv_iconst (v := 1) hx hb dX11_writesFlag_25 (by decide) ?_
        refine lv_goto (tgt := 30) hx hb dX11_writesFlag_26 (by decide) ?_
        exact hret H locs _ ls 1 () dX11_writesFlag_30 (by clear hP hD hS hl; replace hz3 := hz3.symm; subst hz3; replace hz2 := hz2.symm; subst hz2; replace hz1 := hz1.symm; subst hz1; exact congrArg (fun x => (x, ())) (((if_pos c1).trans ((if_neg c2).trans ((if_pos c3).trans (rfl))))).symm) (Or.inr rfl) (Or.inr rfl) hP hD hS
def fX11_writesCarry (p0 : Int32) : Int32 :=
  (let z1 := fX11_op p0; if z1 < 2 then (1) else (if z1 = 10 then (1) else (if z1 ≤ 33 then (0) else (if 38 ≤ z1 then (0) else (1)))))
set_option maxHeartbeats 4000000 in
set_option maxRecDepth 100000 in
theorem mX11_writesCarry (l : Launch) (G : va_G) (cI cB cP : ClassId) (sz : Nat) (p0 : Int32) : kMi (S := Unit) l yX11_writesCarry wsX11_writesCarry ({ frames := 1, cells := 0, slots := 0, locals := 20 }) [.int p0] G (kTY cI cB cP) sz [] (fX11_writesCarry p0, ()) (fun r _ => isB r) (fun _ => []) := by
  refine k_ofz (cc := cX11_writesCarry) (maxL := 2) (by decide) rfl (Nat.le_of_ble_eq_true rfl) ?_
  intro p e s m args below meth c A ls Q H locs hx hb hml hown hts hin hK hP hD hA hS hl hret
  have hown : s.vm.findClass RX11 = some m.cls := hown
  have hl : lv_has ls 2 [(0, .int p0)] := hl
  refine lv_iload_n hx hb dX11_writesCarry_0 rfl (lv_at hl 0 rfl) ?_
  refine k_iS (As := [.int p0]) (rest := []) ⟨hx, hb, hml, hown, hts⟩ hK hP hD hS hA (mX11_op l G cI cB cP   H.size p0 ) (va_cwS 1 hts gX11_writesCarry_X11_op rfl rfl rfl (by decide +kernel) ⟨Nat.le_of_ble_eq_true rfl, Nat.le_of_ble_eq_true rfl⟩) rfl hl.1 rfl (Nat.le_of_ble_eq_true rfl) dX11_writesCarry_1 ⟨Nat.le_of_ble_eq_true rfl, Nat.le_of_ble_eq_true rfl⟩ (fun z1 H locs hz1 hEz1 hP hS => ?_)
  refine lv_istore_n (lv' := [(1, .int z1), (0, .int p0)]) hx hb dX11_writesCarry_4 rfl hl (by decide) rfl (fun ls hl => ?_)
  refine lv_iload_n hx hb dX11_writesCarry_5 rfl (lv_at hl 0 rfl) ?_
  refine lv_iconst (v := 2) hx hb dX11_writesCarry_6 (by decide) ?_
  refine lv_icmp_lt (tgt := 28) hx hb dX11_writesCarry_7 (by decide) (fun c1 => ?_) (fun c1 => ?_)
  · skip
    refine lv_iconst (v := 1) hx hb dX11_writesCarry_28 (by decide) ?_
    refine lv_goto (tgt := 33) hx hb dX11_writesCarry_29 (by decide) ?_
    exact hret H locs _ ls 1 () dX11_writesCarry_33 (by clear hP hD hS hl; replace hz1 := hz1.symm; subst hz1; exact congrArg (fun x => (x, ())) (((if_pos c1).trans (rfl))).symm) (Or.inr rfl) (Or.inr rfl) hP hD hS
  · skip
    refine lv_iload_n hx hb dX11_writesCarry_10 rfl (lv_at hl 0 rfl) ?_
    refine lv_bipush (v := 10) hx hb dX11_writesCarry_11 (by decide) ?_
    refine lv_icmp_eq (tgt := 28) hx hb dX11_writesCarry_13 (by decide) (fun c2 => ?_) (fun c2 => ?_)
    · skip
      refine lv_iconst (v := 1) hx hb dX11_writesCarry_28 (by decide) ?_
      refine lv_goto (tgt := 33) hx hb dX11_writesCarry_29 (by decide) ?_
      exact hret H locs _ ls 1 () dX11_writesCarry_33 (by clear hP hD hS hl; replace hz1 := hz1.symm; subst hz1; exact congrArg (fun x => (x, ())) (((if_neg c1).trans ((if_pos c2).trans (rfl)))).symm) (Or.inr rfl) (Or.inr rfl) hP hD hS
    · skip
      refine lv_iload_n hx hb dX11_writesCarry_16 rfl (lv_at hl 0 rfl) ?_
      refine lv_bipush (v := 33) hx hb dX11_writesCarry_17 (by decide) ?_
      refine lv_icmp_le (tgt := 32) hx hb dX11_writesCarry_19 (by decide) (fun c3 => ?_) (fun c3 => ?_)
      · skip
        refine lv_iconst (v := 0) hx hb dX11_writesCarry_32 (by decide) ?_
        exact hret H locs _ ls 0 () dX11_writesCarry_33 (by clear hP hD hS hl; replace hz1 := hz1.symm; subst hz1; exact congrArg (fun x => (x, ())) (((if_neg c1).trans ((if_neg c2).trans ((if_pos c3).trans (rfl))))).symm) (Or.inl rfl) (Or.inl rfl) hP hD hS
      · skip
        refine lv_iload_n hx hb dX11_writesCarry_22 rfl (lv_at hl 0 rfl) ?_
        refine lv_bipush (v := 38) hx hb dX11_writesCarry_23 (by decide) ?_
        refine lv_icmp_ge (tgt := 32) hx hb dX11_writesCarry_25 (by decide) (fun c4 => ?_) (fun c4 => ?_)
        · skip
          refine lv_iconst (v := 0) hx hb dX11_writesCarry_32 (by decide) ?_
          exact hret H locs _ ls 0 () dX11_writesCarry_33 (by clear hP hD hS hl; replace hz1 := hz1.symm; subst hz1; exact congrArg (fun x => (x, ())) (((if_neg c1).trans ((if_neg c2).trans ((if_neg c3).trans ((if_pos c4).trans (rfl)))))).symm) (Or.inl rfl) (Or.inl rfl) hP hD hS
        · skip
          refine lv_iconst (v := 1) hx hb dX11_writesCarry_28 (by decide) ?_
          refine lv_goto (tgt := 33) hx hb dX11_writesCarry_29 (by decide) ?_
          exact hret H locs _ ls 1 () dX11_writesCarry_33 (by clear hP hD hS hl; replace hz1 := hz1.symm; subst hz1; exact congrArg (fun x => (x, ())) (((if_neg c1).trans ((if_neg c2).trans ((if_neg c3).trans ((if_neg c4).trans (rfl)))))).symm) (Or.inr rfl) (Or.inr rfl) hP hD hS
def fX11_isSingle (p0 : Int32) : Int32 :=
  (let z1 := fX11_isNone p0; if z1 = 0 then ((let z2 := fX11_op p0; if z2 ≤ 29 then ((let z3 := fX11_op p0; if z3 = 56 then (1) else (0))) else ((let z4 := fX11_op p0; if z4 < 34 then (1) else ((let z5 := fX11_op p0; if z5 = 56 then (1) else (0))))))) else (1))
set_option maxHeartbeats 4000000 in
set_option maxRecDepth 100000 in
theorem mX11_isSingle (l : Launch) (G : va_G) (cI cB cP : ClassId) (sz : Nat) (p0 : Int32) : kMi (S := Unit) l yX11_isSingle wsX11_isSingle ({ frames := 2, cells := 0, slots := 0, locals := 40 }) [.int p0] G (kTY cI cB cP) sz [] (fX11_isSingle p0, ()) (fun r _ => isB r) (fun _ => []) := by
  refine k_ofz (cc := cX11_isSingle) (maxL := 1) (by decide) rfl (Nat.le_of_ble_eq_true rfl) ?_
  intro p e s m args below meth c A ls Q H locs hx hb hml hown hts hin hK hP hD hA hS hl hret
  have hown : s.vm.findClass RX11 = some m.cls := hown
  have hl : lv_has ls 1 [(0, .int p0)] := hl
  refine lv_iload_n hx hb dX11_isSingle_0 rfl (lv_at hl 0 rfl) ?_
  refine k_iS (As := [.int p0]) (rest := []) ⟨hx, hb, hml, hown, hts⟩ hK hP hD hS hA (mX11_isNone l G cI cB cP   H.size p0 ) (va_cwS 1 hts gX11_isSingle_X11_isNone rfl rfl rfl (by decide +kernel) ⟨Nat.le_of_ble_eq_true rfl, Nat.le_of_ble_eq_true rfl⟩) rfl hl.1 rfl (Nat.le_of_ble_eq_true rfl) dX11_isSingle_1 ⟨Nat.le_of_ble_eq_true rfl, Nat.le_of_ble_eq_true rfl⟩ (fun z1 H locs hz1 hEz1 hP hS => ?_)
  refine lv_if_ne (tgt := 34) hx hb dX11_isSingle_4 (by decide) (fun c1 => ?_) (fun c1 => ?_)
  · skip
    refine lv_iconst (v := 1) hx hb dX11_isSingle_34 (by decide) ?_
    refine lv_goto (tgt := 39) hx hb dX11_isSingle_35 (by decide) ?_
    exact hret H locs _ ls 1 () dX11_isSingle_39 (by clear hP hD hS hl; replace hz1 := hz1.symm; subst hz1; exact congrArg (fun x => (x, ())) (((if_neg c1).trans (rfl))).symm) (Or.inr rfl) (Or.inr rfl) hP hD hS
  · skip
    refine lv_iload_n hx hb dX11_isSingle_7 rfl (lv_at hl 0 rfl) ?_
    refine k_iS (As := [.int p0]) (rest := []) ⟨hx, hb, hml, hown, hts⟩ hK hP hD hS hA (mX11_op l G cI cB cP   H.size p0 ) (va_cwS 1 hts gX11_isSingle_X11_op rfl rfl rfl (by decide +kernel) ⟨Nat.le_of_ble_eq_true rfl, Nat.le_of_ble_eq_true rfl⟩) rfl hl.1 rfl (Nat.le_of_ble_eq_true rfl) dX11_isSingle_8 ⟨Nat.le_of_ble_eq_true rfl, Nat.le_of_ble_eq_true rfl⟩ (fun z2 H locs hz2 hEz2 hP hS => ?_)
    refine lv_bipush (v := 29) hx hb dX11_isSingle_11 (by decide) ?_
    refine lv_icmp_le (tgt := 25) hx hb dX11_isSingle_13 (by decide) (fun c2 => ?_) (fun c2 => ?_)
    · skip
      refine lv_iload_n hx hb dX11_isSingle_25 rfl (lv_at hl 0 rfl) ?_
      refine k_iS (As := [.int p0]) (rest := []) ⟨hx, hb, hml, hown, hts⟩ hK hP hD hS hA (mX11_op l G cI cB cP   H.size p0 ) (va_cwS 1 hts gX11_isSingle_X11_op rfl rfl rfl (by decide +kernel) ⟨Nat.le_of_ble_eq_true rfl, Nat.le_of_ble_eq_true rfl⟩) rfl hl.1 rfl (Nat.le_of_ble_eq_true rfl) dX11_isSingle_26 ⟨Nat.le_of_ble_eq_true rfl, Nat.le_of_ble_eq_true rfl⟩ (fun z3 H locs hz3 hEz3 hP hS => ?_)
      refine lv_bipush (v := 56) hx hb dX11_isSingle_29 (by decide) ?_
      refine lv_icmp_ne (tgt := 38) hx hb dX11_isSingle_31 (by decide) (fun c3 => ?_) (fun c3 => ?_)
      · skip
        refine lv_iconst (v := 0) hx hb dX11_isSingle_38 (by decide) ?_
        exact hret H locs _ ls 0 () dX11_isSingle_39 (by clear hP hD hS hl; replace hz3 := hz3.symm; subst hz3; replace hz2 := hz2.symm; subst hz2; replace hz1 := hz1.symm; subst hz1; exact congrArg (fun x => (x, ())) (((if_pos c1).trans ((if_pos c2).trans ((if_neg c3).trans (rfl))))).symm) (Or.inl rfl) (Or.inl rfl) hP hD hS
      · skip
        refine lv_iconst (v := 1) hx hb dX11_isSingle_34 (by decide) ?_
        refine lv_goto (tgt := 39) hx hb dX11_isSingle_35 (by decide) ?_
        exact hret H locs _ ls 1 () dX11_isSingle_39 (by clear hP hD hS hl; replace hz3 := hz3.symm; subst hz3; replace hz2 := hz2.symm; subst hz2; replace hz1 := hz1.symm; subst hz1; exact congrArg (fun x => (x, ())) (((if_pos c1).trans ((if_pos c2).trans ((if_pos c3).trans (rfl))))).symm) (Or.inr rfl) (Or.inr rfl) hP hD hS
    · skip
      refine lv_iload_n hx hb dX11_isSingle_16 rfl (lv_at hl 0 rfl) ?_
      refine k_iS (As := [.int p0]) (rest := []) ⟨hx, hb, hml, hown, hts⟩ hK hP hD hS hA (mX11_op l G cI cB cP   H.size p0 ) (va_cwS 1 hts gX11_isSingle_X11_op rfl rfl rfl (by decide +kernel) ⟨Nat.le_of_ble_eq_true rfl, Nat.le_of_ble_eq_true rfl⟩) rfl hl.1 rfl (Nat.le_of_ble_eq_true rfl) dX11_isSingle_17 ⟨Nat.le_of_ble_eq_true rfl, Nat.le_of_ble_eq_true rfl⟩ (fun z4 H locs hz4 hEz4 hP hS => ?_)
      refine lv_bipush (v := 34) hx hb dX11_isSingle_20 (by decide) ?_
      refine lv_icmp_lt (tgt := 34) hx hb dX11_isSingle_22 (by decide) (fun c4 => ?_) (fun c4 => ?_)
      · skip
        refine lv_iconst (v := 1) hx hb dX11_isSingle_34 (by decide) ?_
        refine lv_goto (tgt := 39) hx hb dX11_isSingle_35 (by decide) ?_
        exact hret H locs _ ls 1 () dX11_isSingle_39 (by clear hP hD hS hl; replace hz4 := hz4.symm; subst hz4; replace hz2 := hz2.symm; subst hz2; replace hz1 := hz1.symm; subst hz1; exact congrArg (fun x => (x, ())) (((if_pos c1).trans ((if_neg c2).trans ((if_pos c4).trans (rfl))))).symm) (Or.inr rfl) (Or.inr rfl) hP hD hS
      · skip
        refine lv_iload_n hx hb dX11_isSingle_25 rfl (lv_at hl 0 rfl) ?_
        refine k_iS (As := [.int p0]) (rest := []) ⟨hx, hb, hml, hown, hts⟩ hK hP hD hS hA (mX11_op l G cI cB cP   H.size p0 ) (va_cwS 1 hts gX11_isSingle_X11_op rfl rfl rfl (by decide +kernel) ⟨Nat.le_of_ble_eq_true rfl, Nat.le_of_ble_eq_true rfl⟩) rfl hl.1 rfl (Nat.le_of_ble_eq_true rfl) dX11_isSingle_26 ⟨Nat.le_of_ble_eq_true rfl, Nat.le_of_ble_eq_true rfl⟩ (fun z5 H locs hz5 hEz5 hP hS => ?_)
        refine lv_bipush (v := 56) hx hb dX11_isSingle_29 (by decide) ?_
        refine lv_icmp_ne (tgt := 38) hx hb dX11_isSingle_31 (by decide) (fun c5 => ?_) (fun c5 => ?_)
        · skip
          refine lv_iconst (v := 0) hx hb dX11_isSingle_38 (by decide) ?_
          exact hret H locs _ ls 0 () dX11_isSingle_39 (by clear hP hD hS hl; replace hz5 := hz5.symm; subst hz5; replace hz4 := hz4.symm; subst hz4; replace hz2 := hz2.symm; subst hz2; replace hz1 := hz1.symm; subst hz1; exact congrArg (fun x => (x, ())) (((if_pos c1).trans ((if_neg c2).trans ((if_neg c4).trans ((if_neg c5).trans (rfl)))))).symm) (Or.inl rfl) (Or.inl rfl) hP hD hS
        · skip
          refine lv_iconst (v := 1) hx hb dX11_isSingle_34 (by decide) ?_
          refine lv_goto (tgt := 39) hx hb dX11_isSingle_35 (by decide) ?_
          exact hret H locs _ ls 1 () dX11_isSingle_39 (by clear hP hD hS hl; replace hz5 := hz5.symm; subst hz5; replace hz4 := hz4.symm; subst hz4; replace hz2 := hz2.symm; subst hz2; replace hz1 := hz1.symm; subst hz1; exact congrArg (fun x => (x, ())) (((if_pos c1).trans ((if_neg c2).trans ((if_neg c4).trans ((if_pos c5).trans (rfl)))))).symm) (Or.inr rfl) (Or.inr rfl) hP hD hS
def fX11_issue (m_events : Int32) (mis : Nat → Int32) (p0 : Int32) : Int32 :=
  mis ((m_events - p0) &&& 7).toNatClampNeg
theorem lkX11_issue_33 : Cond.fieldLink RX11 33 "TwinIssueModel" "issues" "[I" ∈ wsX11_issue := by decide +kernel
theorem lkX11_issue_78 : Cond.fieldLink RX11 78 "TwinIssueModel" "events" "I" ∈ wsX11_issue := by decide +kernel
theorem iwX11_issue_X11 : ∀ w ∈ wsX110, w ∈ wsX11_issue := fun _ h => List.mem_cons_of_mem _ (List.mem_append_right _ h)
set_option maxHeartbeats 4000000 in
set_option maxRecDepth 100000 in
theorem mX11_issue (l : Launch) (G : va_G) (cI cB cP : ClassId) (aM aMm aMr aMs aMw aMc aMv aMf aMi aMd aMy : Nat) (m_thrown : Int32) (m_sets : Int32) (m_sum : Int64) (m_pc : Int32) (m_slot : Int32) (m_branch : Int32) (m_target : Int32) (m_retired : Int32) (m_lines : Int32) (m_cycles : Int32) (m_events : Int32) (m_exceptions : Int32) (m_doubles : Int32) (m_longest : Int32) (m_word : Int32) (m_codeFault : Int32) (m_fetched : Int32) (m_issued : Int32) (m_due : Int32) (m_starts : Int32) (m_exception : Int32) (m_eea : Int32) (m_register : Int32) (m_value : Int32) (m_flag : Int32) (m_carry : Int32) (m_overflow : Int32) (m_sums : Int32) (m_newSum : Int64) (m_store : Int32) (m_bytes : Int32) (m_stored : Int32) (m_next : Int32) (m_goal : Int32) (m_returns : Int32) (m_lastWord : Int32) (m_lastReadable : Int32) (m_lastPc : Int32) (m_lastFetched : Int32) (m_lastStarts : Int32) (m_lastApart : Int32) (m_redirected : Int32) (m_behind : Int32) (m_flagReady : Int32) (m_carryReady : Int32) (m_sumReady : Int32) (m_divided : Int32) (m_foreseen : Int32) (m_expected : Int32) (m_went : Int32) (mis : Nat → Int32) (sz : Nat) (p0 : Int32) : kMi (S := Unit) l yX11_issue wsX11_issue ({ frames := 0, cells := 0, slots := 0, locals := 0 }) [.ref aM, .int p0] G (kTY cI cB cP) sz [(aM, .inr (11, [.int m_thrown, .ref aMm, .ref aMr, .int m_sets, .ref aMs, .ref aMw, .long m_sum, .int m_pc, .int m_slot, .int m_branch, .int m_target, .int m_retired, .ref aMc, .ref aMv, .int m_lines, .int m_cycles, .int m_events, .int m_exceptions, .int m_doubles, .int m_longest, .ref aMf, .int m_word, .int m_codeFault, .int m_fetched, .int m_issued, .int m_due, .int m_starts, .int m_exception, .int m_eea, .int m_register, .int m_value, .int m_flag, .int m_carry, .int m_overflow, .int m_sums, .long m_newSum, .int m_store, .int m_bytes, .int m_stored, .int m_next, .int m_goal, .int m_returns, .ref aMi, .ref aMd, .int m_lastWord, .int m_lastReadable, .int m_lastPc, .int m_lastFetched, .int m_lastStarts, .int m_lastApart, .int m_redirected, .int m_behind, .ref aMy, .int m_flagReady, .int m_carryReady, .int m_sumReady, .int m_divided, .int m_foreseen, .int m_expected, .int m_went])), (aMi, .inl (cI, 8, .inl mis))] (fX11_issue m_events mis p0, ()) (fun _ _ => True) (fun _ => [(aM, .inr (11, [.int m_thrown, .ref aMm, .ref aMr, .int m_sets, .ref aMs, .ref aMw, .long m_sum, .int m_pc, .int m_slot, .int m_branch, .int m_target, .int m_retired, .ref aMc, .ref aMv, .int m_lines, .int m_cycles, .int m_events, .int m_exceptions, .int m_doubles, .int m_longest, .ref aMf, .int m_word, .int m_codeFault, .int m_fetched, .int m_issued, .int m_due, .int m_starts, .int m_exception, .int m_eea, .int m_register, .int m_value, .int m_flag, .int m_carry, .int m_overflow, .int m_sums, .long m_newSum, .int m_store, .int m_bytes, .int m_stored, .int m_next, .int m_goal, .int m_returns, .ref aMi, .ref aMd, .int m_lastWord, .int m_lastReadable, .int m_lastPc, .int m_lastFetched, .int m_lastStarts, .int m_lastApart, .int m_redirected, .int m_behind, .ref aMy, .int m_flagReady, .int m_carryReady, .int m_sumReady, .int m_divided, .int m_foreseen, .int m_expected, .int m_went])), (aMi, .inl (cI, 8, .inl mis))]) := by
  refine k_ofi (cc := cX11_issue) (maxL := 2) (by decide) rfl (Nat.le_of_ble_eq_true rfl) ?_
  intro p e s m args below meth c A ls Q H locs hx hb hml hown hts hin hK hP hD hA hS hl hret
  have hown : s.vm.findClass RX11 = some m.cls := hown
  have hl : lv_has ls 2 [(0, .ref aM), (1, .int p0)] := hl
  refine lv_aload_n hx hb dX11_issue_0 rfl (lv_at hl 0 rfl) ?_
  refine va_get (D := G) (ci := 11) (v := .ref aMi) (C := RX11) (T := TX11) (N := 60) hx hb hts iwX11_issue_X11 hown hK hP 0 rfl rfl 42 (by decide) (hts _ lkX11_issue_33) (fun _ h9 => h9) rfl dX11_issue_1 ?_
  refine lv_aload_n hx hb dX11_issue_4 rfl (lv_at hl 0 rfl) ?_
  refine va_get (D := G) (ci := 11) (v := .int m_events) (C := RX11) (T := TX11) (N := 60) hx hb hts iwX11_issue_X11 hown hK hP 0 rfl rfl 16 (by decide) (hts _ lkX11_issue_78) (fun _ h9 => h9) rfl dX11_issue_5 ?_
  refine lv_iload_n hx hb dX11_issue_8 rfl (lv_at hl 1 rfl) ?_
  refine lv_isub hx hb dX11_issue_9 ?_
  refine lv_bipush (v := 7) hx hb dX11_issue_10 (by decide) ?_
  refine lv_iand hx hb dX11_issue_12 ?_
  refine va_iald hx hb hK hP 1 0 rfl rfl (vp_mask (m_events - p0) 3 7 (by decide) (by decide) (by decide)) dX11_issue_13 ?_
  exact hret H locs _ ls (mis ((m_events - p0) &&& 7).toNatClampNeg) () dX11_issue_14 (by (first | exact rfl | (delta fX11_issue; exact rfl) | (unfold fX11_issue; dsimp only) | (unfold fX11_issue; simp only []))) trivial hP hD hS
def fX11_isMap (m_sets : Int32) (p0 : Int32) : Int32 :=
  if p0 < 1024 then (0) else (if 1536 ≤ p0 then (0) else (if m_sets ≤ (jrem p0 128) then (0) else (1)))
theorem lkX11_isMap_42 : Cond.fieldLink RX11 42 "TwinIssueModel" "sets" "I" ∈ wsX11_isMap := by decide +kernel
theorem iwX11_isMap_X11 : ∀ w ∈ wsX110, w ∈ wsX11_isMap := fun _ h => List.mem_cons_of_mem _ (List.mem_append_right _ h)
set_option maxHeartbeats 4000000 in
set_option maxRecDepth 100000 in
theorem mX11_isMap (l : Launch) (G : va_G) (cI cB cP : ClassId) (aM aMm aMr aMs aMw aMc aMv aMf aMi aMd aMy : Nat) (m_thrown : Int32) (m_sets : Int32) (m_sum : Int64) (m_pc : Int32) (m_slot : Int32) (m_branch : Int32) (m_target : Int32) (m_retired : Int32) (m_lines : Int32) (m_cycles : Int32) (m_events : Int32) (m_exceptions : Int32) (m_doubles : Int32) (m_longest : Int32) (m_word : Int32) (m_codeFault : Int32) (m_fetched : Int32) (m_issued : Int32) (m_due : Int32) (m_starts : Int32) (m_exception : Int32) (m_eea : Int32) (m_register : Int32) (m_value : Int32) (m_flag : Int32) (m_carry : Int32) (m_overflow : Int32) (m_sums : Int32) (m_newSum : Int64) (m_store : Int32) (m_bytes : Int32) (m_stored : Int32) (m_next : Int32) (m_goal : Int32) (m_returns : Int32) (m_lastWord : Int32) (m_lastReadable : Int32) (m_lastPc : Int32) (m_lastFetched : Int32) (m_lastStarts : Int32) (m_lastApart : Int32) (m_redirected : Int32) (m_behind : Int32) (m_flagReady : Int32) (m_carryReady : Int32) (m_sumReady : Int32) (m_divided : Int32) (m_foreseen : Int32) (m_expected : Int32) (m_went : Int32) (sz : Nat) (p0 : Int32) : kMi (S := Unit) l yX11_isMap wsX11_isMap ({ frames := 0, cells := 0, slots := 0, locals := 0 }) [.ref aM, .int p0] G (kTY cI cB cP) sz [(aM, .inr (11, [.int m_thrown, .ref aMm, .ref aMr, .int m_sets, .ref aMs, .ref aMw, .long m_sum, .int m_pc, .int m_slot, .int m_branch, .int m_target, .int m_retired, .ref aMc, .ref aMv, .int m_lines, .int m_cycles, .int m_events, .int m_exceptions, .int m_doubles, .int m_longest, .ref aMf, .int m_word, .int m_codeFault, .int m_fetched, .int m_issued, .int m_due, .int m_starts, .int m_exception, .int m_eea, .int m_register, .int m_value, .int m_flag, .int m_carry, .int m_overflow, .int m_sums, .long m_newSum, .int m_store, .int m_bytes, .int m_stored, .int m_next, .int m_goal, .int m_returns, .ref aMi, .ref aMd, .int m_lastWord, .int m_lastReadable, .int m_lastPc, .int m_lastFetched, .int m_lastStarts, .int m_lastApart, .int m_redirected, .int m_behind, .ref aMy, .int m_flagReady, .int m_carryReady, .int m_sumReady, .int m_divided, .int m_foreseen, .int m_expected, .int m_went]))] (fX11_isMap m_sets p0, ()) (fun r _ => isB r) (fun _ => [(aM, .inr (11, [.int m_thrown, .ref aMm, .ref aMr, .int m_sets, .ref aMs, .ref aMw, .long m_sum, .int m_pc, .int m_slot, .int m_branch, .int m_target, .int m_retired, .ref aMc, .ref aMv, .int m_lines, .int m_cycles, .int m_events, .int m_exceptions, .int m_doubles, .int m_longest, .ref aMf, .int m_word, .int m_codeFault, .int m_fetched, .int m_issued, .int m_due, .int m_starts, .int m_exception, .int m_eea, .int m_register, .int m_value, .int m_flag, .int m_carry, .int m_overflow, .int m_sums, .long m_newSum, .int m_store, .int m_bytes, .int m_stored, .int m_next, .int m_goal, .int m_returns, .ref aMi, .ref aMd, .int m_lastWord, .int m_lastReadable, .int m_lastPc, .int m_lastFetched, .int m_lastStarts, .int m_lastApart, .int m_redirected, .int m_behind, .ref aMy, .int m_flagReady, .int m_carryReady, .int m_sumReady, .int m_divided, .int m_foreseen, .int m_expected, .int m_went]))]) := by
  refine k_ofz (cc := cX11_isMap) (maxL := 2) (by decide) rfl (Nat.le_of_ble_eq_true rfl) ?_
  intro p e s m args below meth c A ls Q H locs hx hb hml hown hts hin hK hP hD hA hS hl hret
  have hown : s.vm.findClass RX11 = some m.cls := hown
  have hl : lv_has ls 2 [(0, .ref aM), (1, .int p0)] := hl
  refine lv_iload_n hx hb dX11_isMap_0 rfl (lv_at hl 1 rfl) ?_
  refine lv_sipush (v := 1024) hx hb dX11_isMap_1 (by decide) ?_
  refine lv_icmp_lt (tgt := 30) hx hb dX11_isMap_4 (by decide) (fun c1 => ?_) (fun c1 => ?_)
  · skip
    refine lv_iconst (v := 0) hx hb dX11_isMap_30 (by decide) ?_
    exact hret H locs _ ls 0 () dX11_isMap_31 (by exact congrArg (fun x => (x, ())) (((if_pos c1).trans (rfl))).symm) (Or.inl rfl) (Or.inl rfl) hP hD hS
  · skip
    refine lv_iload_n hx hb dX11_isMap_7 rfl (lv_at hl 1 rfl) ?_
    refine lv_sipush (v := 1536) hx hb dX11_isMap_8 (by decide) ?_
    refine lv_icmp_ge (tgt := 30) hx hb dX11_isMap_11 (by decide) (fun c2 => ?_) (fun c2 => ?_)
    · skip
      refine lv_iconst (v := 0) hx hb dX11_isMap_30 (by decide) ?_
      exact hret H locs _ ls 0 () dX11_isMap_31 (by exact congrArg (fun x => (x, ())) (((if_neg c1).trans ((if_pos c2).trans (rfl)))).symm) (Or.inl rfl) (Or.inl rfl) hP hD hS
    · skip
      refine lv_iload_n hx hb dX11_isMap_14 rfl (lv_at hl 1 rfl) ?_
      refine lv_sipush (v := 128) hx hb dX11_isMap_15 (by decide) ?_
      refine lv_irem hx hb dX11_isMap_18 (by decide) ?_
      refine lv_aload_n hx hb dX11_isMap_19 rfl (lv_at hl 0 rfl) ?_
      refine va_get (D := G) (ci := 11) (v := .int m_sets) (C := RX11) (T := TX11) (N := 60) hx hb hts iwX11_isMap_X11 hown hK hP 0 rfl rfl 3 (by decide) (hts _ lkX11_isMap_42) (fun _ h9 => h9) rfl dX11_isMap_20 ?_
      refine lv_icmp_ge (tgt := 30) hx hb dX11_isMap_23 (by decide) (fun c3 => ?_) (fun c3 => ?_)
      · skip
        refine lv_iconst (v := 0) hx hb dX11_isMap_30 (by decide) ?_
        exact hret H locs _ ls 0 () dX11_isMap_31 (by exact congrArg (fun x => (x, ())) (((if_neg c1).trans ((if_neg c2).trans ((if_pos c3).trans (rfl))))).symm) (Or.inl rfl) (Or.inl rfl) hP hD hS
      · skip
        refine lv_iconst (v := 1) hx hb dX11_isMap_26 (by decide) ?_
        refine lv_goto (tgt := 31) hx hb dX11_isMap_27 (by decide) ?_
        exact hret H locs _ ls 1 () dX11_isMap_31 (by exact congrArg (fun x => (x, ())) (((if_neg c1).trans ((if_neg c2).trans ((if_neg c3).trans (rfl))))).symm) (Or.inr rfl) (Or.inr rfl) hP hD hS
def fX11_writeSpecial (m_sets : Int32) (m_sum : Int64) (ms : Nat → Int32) (mw : Nat → Int32) (p0 : Int32) (p1 : Int32) : Int64 × (Nat → Int32) × (Nat → Int32) :=
  if p0 = 7 then ((m_sum, upd ms 7 ((ms 7) &&& (p1 ^^^ (-1))), mw)) else (if p0 = 10 then (((jlshl p1.toInt64 32) ||| (m_sum &&& 4294967295), ms, mw)) else (if p0 = 11 then (((m_sum &&& (-4294967296)) ||| (p1.toInt64 &&& 4294967295), ms, mw)) else ((let z1 := (fX11_isMap m_sets p0, ()); if z1.1 = 0 then (if 10 ≤ p0 then ((m_sum, ms, mw)) else (if p0 = 8 then ((m_sum, ms, mw)) else (if p0 = 0 then ((m_sum, upd ms p0.toNatClampNeg (p1 &&& 1023), mw)) else (if p0 = 2 then ((m_sum, upd ms p0.toNatClampNeg (p1 &&& 1023), mw)) else (if p0 = 4 then ((m_sum, upd ms p0.toNatClampNeg (p1 &&& 268435455), mw)) else (if p0 = 5 then ((m_sum, upd ms p0.toNatClampNeg (p1 &&& 2147483647), mw)) else ((m_sum, upd ms p0.toNatClampNeg p1, mw)))))))) else ((m_sum, ms, upd mw (p0 - 1024).toNatClampNeg p1))))))
theorem lkX11_writeSpecial_18 : Cond.fieldLink RX11 18 "TwinIssueModel" "specials" "[I" ∈ wsX11_writeSpecial := by decide +kernel
theorem lkX11_writeSpecial_21 : Cond.fieldLink RX11 21 "TwinIssueModel" "maps" "[I" ∈ wsX11_writeSpecial := by decide +kernel
theorem lkX11_writeSpecial_52 : Cond.fieldLink RX11 52 "TwinIssueModel" "sum" "J" ∈ wsX11_writeSpecial := by decide +kernel
theorem lkX11_writeSpecial_130 : Cond.constantLong RX11 130 (4294967295) ∈ wsX11_writeSpecial := by decide +kernel
theorem lkX11_writeSpecial_361 : Cond.constant RX11 361 (268435455) ∈ wsX11_writeSpecial := by decide +kernel
theorem lkX11_writeSpecial_364 : Cond.constantLong RX11 364 (-4294967296) ∈ wsX11_writeSpecial := by decide +kernel
theorem lkX11_writeSpecial_366 : Cond.constant RX11 366 (2147483647) ∈ wsX11_writeSpecial := by decide +kernel
theorem iwX11_writeSpecial_X11 : ∀ w ∈ wsX110, w ∈ wsX11_writeSpecial := fun _ h => List.mem_cons_of_mem _ (List.mem_append_right _ h)
def sX11_writeSpecial (m_sets : Int32) (p0 : Int32) : Prop :=
  (p0 = 7 → True) ∧ (¬ (p0 = 7) → ((p0 = 10 → True) ∧ (¬ (p0 = 10) → ((p0 = 11 → True) ∧ (¬ (p0 = 11) → ((∀ z1, z1 = (fX11_isMap m_sets p0, ()) → ((z1.1 = 0 → ((10 ≤ p0 → True) ∧ (¬ (10 ≤ p0) → ((p0 = 8 → True) ∧ (¬ (p0 = 8) → ((p0 = 0 → ((vp_in p0 10) ∧ True)) ∧ (¬ (p0 = 0) → ((p0 = 2 → ((vp_in p0 10) ∧ True)) ∧ (¬ (p0 = 2) → ((p0 = 4 → ((vp_in p0 10) ∧ True)) ∧ (¬ (p0 = 4) → ((p0 = 5 → ((vp_in p0 10) ∧ True)) ∧ (¬ (p0 = 5) → ((vp_in p0 10) ∧ True)))))))))))))) ∧ (¬ (z1.1 = 0) → ((vp_in (p0 - 1024) 512) ∧ True))))))))))
set_option maxHeartbeats 4000000 in
set_option maxRecDepth 100000 in
theorem mX11_writeSpecial (l : Launch) (G : va_G) (cI cB cP : ClassId) (aM aMm aMr aMs aMw aMc aMv aMf aMi aMd aMy : Nat) (m_thrown : Int32) (m_sets : Int32) (m_sum : Int64) (m_pc : Int32) (m_slot : Int32) (m_branch : Int32) (m_target : Int32) (m_retired : Int32) (m_lines : Int32) (m_cycles : Int32) (m_events : Int32) (m_exceptions : Int32) (m_doubles : Int32) (m_longest : Int32) (m_word : Int32) (m_codeFault : Int32) (m_fetched : Int32) (m_issued : Int32) (m_due : Int32) (m_starts : Int32) (m_exception : Int32) (m_eea : Int32) (m_register : Int32) (m_value : Int32) (m_flag : Int32) (m_carry : Int32) (m_overflow : Int32) (m_sums : Int32) (m_newSum : Int64) (m_store : Int32) (m_bytes : Int32) (m_stored : Int32) (m_next : Int32) (m_goal : Int32) (m_returns : Int32) (m_lastWord : Int32) (m_lastReadable : Int32) (m_lastPc : Int32) (m_lastFetched : Int32) (m_lastStarts : Int32) (m_lastApart : Int32) (m_redirected : Int32) (m_behind : Int32) (m_flagReady : Int32) (m_carryReady : Int32) (m_sumReady : Int32) (m_divided : Int32) (m_foreseen : Int32) (m_expected : Int32) (m_went : Int32) (ms : Nat → Int32) (mw : Nat → Int32) (sz : Nat) (p0 : Int32) (p1 : Int32) (hs : sX11_writeSpecial m_sets p0) : kMv (S := Int64 × (Nat → Int32) × (Nat → Int32)) l yX11_writeSpecial wsX11_writeSpecial ({ frames := 1, cells := 0, slots := 0, locals := 21 }) [.ref aM, .int p0, .int p1] G (kTY cI cB cP) sz [(aM, .inr (11, [.int m_thrown, .ref aMm, .ref aMr, .int m_sets, .ref aMs, .ref aMw, .long m_sum, .int m_pc, .int m_slot, .int m_branch, .int m_target, .int m_retired, .ref aMc, .ref aMv, .int m_lines, .int m_cycles, .int m_events, .int m_exceptions, .int m_doubles, .int m_longest, .ref aMf, .int m_word, .int m_codeFault, .int m_fetched, .int m_issued, .int m_due, .int m_starts, .int m_exception, .int m_eea, .int m_register, .int m_value, .int m_flag, .int m_carry, .int m_overflow, .int m_sums, .long m_newSum, .int m_store, .int m_bytes, .int m_stored, .int m_next, .int m_goal, .int m_returns, .ref aMi, .ref aMd, .int m_lastWord, .int m_lastReadable, .int m_lastPc, .int m_lastFetched, .int m_lastStarts, .int m_lastApart, .int m_redirected, .int m_behind, .ref aMy, .int m_flagReady, .int m_carryReady, .int m_sumReady, .int m_divided, .int m_foreseen, .int m_expected, .int m_went])), (aMs, .inl (cI, 10, .inl ms)), (aMw, .inl (cI, 512, .inl mw))] (fX11_writeSpecial m_sets m_sum ms mw p0 p1) (fun _ => True) (fun u => [(aM, .inr (11, [.int m_thrown, .ref aMm, .ref aMr, .int m_sets, .ref aMs, .ref aMw, .long u.1, .int m_pc, .int m_slot, .int m_branch, .int m_target, .int m_retired, .ref aMc, .ref aMv, .int m_lines, .int m_cycles, .int m_events, .int m_exceptions, .int m_doubles, .int m_longest, .ref aMf, .int m_word, .int m_codeFault, .int m_fetched, .int m_issued, .int m_due, .int m_starts, .int m_exception, .int m_eea, .int m_register, .int m_value, .int m_flag, .int m_carry, .int m_overflow, .int m_sums, .long m_newSum, .int m_store, .int m_bytes, .int m_stored, .int m_next, .int m_goal, .int m_returns, .ref aMi, .ref aMd, .int m_lastWord, .int m_lastReadable, .int m_lastPc, .int m_lastFetched, .int m_lastStarts, .int m_lastApart, .int m_redirected, .int m_behind, .ref aMy, .int m_flagReady, .int m_carryReady, .int m_sumReady, .int m_divided, .int m_foreseen, .int m_expected, .int m_went])), (aMs, .inl (cI, 10, .inl u.2.1)), (aMw, .inl (cI, 512, .inl u.2.2))]) := by
  refine k_ofv (cc := cX11_writeSpecial) (maxL := 3) (by decide) rfl (Nat.le_of_ble_eq_true rfl) ?_
  intro p e s m args below meth c A ls Q H locs hx hb hml hown hts hin hK hP hD hA hS hl hret
  have hown : s.vm.findClass RX11 = some m.cls := hown
  have hl : lv_has ls 3 [(0, .ref aM), (1, .int p0), (2, .int p1)] := hl
  unfold sX11_writeSpecial at hs
  refine lv_iload_n hx hb dX11_writeSpecial_0 rfl (lv_at hl 1 rfl) ?_
  refine lv_bipush (v := 7) hx hb dX11_writeSpecial_1 (by decide) ?_
  refine lv_icmp_ne (tgt := 22) hx hb dX11_writeSpecial_3 (by decide) (fun c1 => ?_) (fun c1 => ?_)
  · have hs := hs.2 c1
    refine lv_iload_n hx hb dX11_writeSpecial_22 rfl (lv_at hl 1 rfl) ?_
    refine lv_bipush (v := 10) hx hb dX11_writeSpecial_23 (by decide) ?_
    refine lv_icmp_ne (tgt := 49) hx hb dX11_writeSpecial_25 (by decide) (fun c2 => ?_) (fun c2 => ?_)
    · have hs := hs.2 c2
      refine lv_iload_n hx hb dX11_writeSpecial_49 rfl (lv_at hl 1 rfl) ?_
      refine lv_bipush (v := 11) hx hb dX11_writeSpecial_50 (by decide) ?_
      refine lv_icmp_ne (tgt := 77) hx hb dX11_writeSpecial_52 (by decide) (fun c3 => ?_) (fun c3 => ?_)
      · have hs := hs.2 c3
        refine lv_aload_n hx hb dX11_writeSpecial_77 rfl (lv_at hl 0 rfl) ?_
        refine lv_iload_n hx hb dX11_writeSpecial_78 rfl (lv_at hl 1 rfl) ?_
        refine k_iV (As := [.int p0]) (rest := []) (wc := [(aM, .inr (11, [.int m_thrown, .ref aMm, .ref aMr, .int m_sets, .ref aMs, .ref aMw, .long m_sum, .int m_pc, .int m_slot, .int m_branch, .int m_target, .int m_retired, .ref aMc, .ref aMv, .int m_lines, .int m_cycles, .int m_events, .int m_exceptions, .int m_doubles, .int m_longest, .ref aMf, .int m_word, .int m_codeFault, .int m_fetched, .int m_issued, .int m_due, .int m_starts, .int m_exception, .int m_eea, .int m_register, .int m_value, .int m_flag, .int m_carry, .int m_overflow, .int m_sums, .long m_newSum, .int m_store, .int m_bytes, .int m_stored, .int m_next, .int m_goal, .int m_returns, .ref aMi, .ref aMd, .int m_lastWord, .int m_lastReadable, .int m_lastPc, .int m_lastFetched, .int m_lastStarts, .int m_lastApart, .int m_redirected, .int m_behind, .ref aMy, .int m_flagReady, .int m_carryReady, .int m_sumReady, .int m_divided, .int m_foreseen, .int m_expected, .int m_went]))]) (wr := [(aMs, .inl (cI, 10, .inl ms)), (aMw, .inl (cI, 512, .inl mw))]) ⟨hx, hb, hml, hown, hts⟩ hK hP hD hS hA [0] [1, 2] rfl rfl rfl rfl (by decide) (mX11_isMap l G cI cB cP aM aMm aMr aMs aMw aMc aMv aMf aMi aMd aMy m_thrown m_sets m_sum m_pc m_slot m_branch m_target m_retired m_lines m_cycles m_events m_exceptions m_doubles m_longest m_word m_codeFault m_fetched m_issued m_due m_starts m_exception m_eea m_register m_value m_flag m_carry m_overflow m_sums m_newSum m_store m_bytes m_stored m_next m_goal m_returns m_lastWord m_lastReadable m_lastPc m_lastFetched m_lastStarts m_lastApart m_redirected m_behind m_flagReady m_carryReady m_sumReady m_divided m_foreseen m_expected m_went H.size p0 ) (cwV 1 hts gX11_writeSpecial_X11_isMap rfl rfl rfl (by decide +kernel) ⟨Nat.le_of_ble_eq_true rfl, Nat.le_of_ble_eq_true rfl⟩) 0 11 rfl rfl rfl rfl hl.1 rfl (Nat.le_of_ble_eq_true rfl) dX11_writeSpecial_79 ⟨Nat.le_of_ble_eq_true rfl, Nat.le_of_ble_eq_true rfl⟩ (fun z1 H locs hz1 hEz1 hP hD hS => ?_)
        have hs := hs z1 hz1
        have hP : va_P G vwCl [(aMs, .inl (cI, 10, .inl ms)), (aMw, .inl (cI, 512, .inl mw)), (aM, .inr (11, [.int m_thrown, .ref aMm, .ref aMr, .int m_sets, .ref aMs, .ref aMw, .long m_sum, .int m_pc, .int m_slot, .int m_branch, .int m_target, .int m_retired, .ref aMc, .ref aMv, .int m_lines, .int m_cycles, .int m_events, .int m_exceptions, .int m_doubles, .int m_longest, .ref aMf, .int m_word, .int m_codeFault, .int m_fetched, .int m_issued, .int m_due, .int m_starts, .int m_exception, .int m_eea, .int m_register, .int m_value, .int m_flag, .int m_carry, .int m_overflow, .int m_sums, .long m_newSum, .int m_store, .int m_bytes, .int m_stored, .int m_next, .int m_goal, .int m_returns, .ref aMi, .ref aMd, .int m_lastWord, .int m_lastReadable, .int m_lastPc, .int m_lastFetched, .int m_lastStarts, .int m_lastApart, .int m_redirected, .int m_behind, .ref aMy, .int m_flagReady, .int m_carryReady, .int m_sumReady, .int m_divided, .int m_foreseen, .int m_expected, .int m_went]))] H := hP
        have hD : va_D A [(aMs, .inl (cI, 10, .inl ms)), (aMw, .inl (cI, 512, .inl mw)), (aM, .inr (11, [.int m_thrown, .ref aMm, .ref aMr, .int m_sets, .ref aMs, .ref aMw, .long m_sum, .int m_pc, .int m_slot, .int m_branch, .int m_target, .int m_retired, .ref aMc, .ref aMv, .int m_lines, .int m_cycles, .int m_events, .int m_exceptions, .int m_doubles, .int m_longest, .ref aMf, .int m_word, .int m_codeFault, .int m_fetched, .int m_issued, .int m_due, .int m_starts, .int m_exception, .int m_eea, .int m_register, .int m_value, .int m_flag, .int m_carry, .int m_overflow, .int m_sums, .long m_newSum, .int m_store, .int m_bytes, .int m_stored, .int m_next, .int m_goal, .int m_returns, .ref aMi, .ref aMd, .int m_lastWord, .int m_lastReadable, .int m_lastPc, .int m_lastFetched, .int m_lastStarts, .int m_lastApart, .int m_redirected, .int m_behind, .ref aMy, .int m_flagReady, .int m_carryReady, .int m_sumReady, .int m_divided, .int m_foreseen, .int m_expected, .int m_went]))] := hD
        refine lv_if_eq (tgt := 99) hx hb dX11_writeSpecial_82 (by decide) (fun c4 => ?_) (fun c4 => ?_)
        · have hs := hs.1 c4
          refine lv_iload_n hx hb dX11_writeSpecial_99 rfl (lv_at hl 1 rfl) ?_
          refine lv_bipush (v := 10) hx hb dX11_writeSpecial_100 (by decide) ?_
          refine lv_icmp_ge (tgt := 161) hx hb dX11_writeSpecial_102 (by decide) (fun c5 => ?_) (fun c5 => ?_)
          · have hs := hs.1 c5
            have hP := hP.sub (ws' := [(aM, .inr (11, [.int m_thrown, .ref aMm, .ref aMr, .int m_sets, .ref aMs, .ref aMw, .long m_sum, .int m_pc, .int m_slot, .int m_branch, .int m_target, .int m_retired, .ref aMc, .ref aMv, .int m_lines, .int m_cycles, .int m_events, .int m_exceptions, .int m_doubles, .int m_longest, .ref aMf, .int m_word, .int m_codeFault, .int m_fetched, .int m_issued, .int m_due, .int m_starts, .int m_exception, .int m_eea, .int m_register, .int m_value, .int m_flag, .int m_carry, .int m_overflow, .int m_sums, .long m_newSum, .int m_store, .int m_bytes, .int m_stored, .int m_next, .int m_goal, .int m_returns, .ref aMi, .ref aMd, .int m_lastWord, .int m_lastReadable, .int m_lastPc, .int m_lastFetched, .int m_lastStarts, .int m_lastApart, .int m_redirected, .int m_behind, .ref aMy, .int m_flagReady, .int m_carryReady, .int m_sumReady, .int m_divided, .int m_foreseen, .int m_expected, .int m_went])), (aMs, .inl (cI, 10, .inl ms)), (aMw, .inl (cI, 512, .inl mw))]) [2, 0, 1] rfl
            have hD := hD.sub (ws' := [(aM, .inr (11, [.int m_thrown, .ref aMm, .ref aMr, .int m_sets, .ref aMs, .ref aMw, .long m_sum, .int m_pc, .int m_slot, .int m_branch, .int m_target, .int m_retired, .ref aMc, .ref aMv, .int m_lines, .int m_cycles, .int m_events, .int m_exceptions, .int m_doubles, .int m_longest, .ref aMf, .int m_word, .int m_codeFault, .int m_fetched, .int m_issued, .int m_due, .int m_starts, .int m_exception, .int m_eea, .int m_register, .int m_value, .int m_flag, .int m_carry, .int m_overflow, .int m_sums, .long m_newSum, .int m_store, .int m_bytes, .int m_stored, .int m_next, .int m_goal, .int m_returns, .ref aMi, .ref aMd, .int m_lastWord, .int m_lastReadable, .int m_lastPc, .int m_lastFetched, .int m_lastStarts, .int m_lastApart, .int m_redirected, .int m_behind, .ref aMy, .int m_flagReady, .int m_carryReady, .int m_sumReady, .int m_divided, .int m_foreseen, .int m_expected, .int m_went])), (aMs, .inl (cI, 10, .inl ms)), (aMw, .inl (cI, 512, .inl mw))]) [2, 0, 1] (by decide) rfl
            exact hret H locs _ ls (m_sum, ms, mw) dX11_writeSpecial_161 (by clear hP hD hS hl; replace hz1 := hz1.symm; subst hz1; exact (((if_neg c1).trans ((if_neg c2).trans ((if_neg c3).trans ((if_pos c4).trans ((if_pos c5).trans (rfl))))))).symm) trivial hP hD hS
          · have hs := hs.2 c5
            refine lv_iload_n hx hb dX11_writeSpecial_105 rfl (lv_at hl 1 rfl) ?_
            refine lv_bipush (v := 8) hx hb dX11_writeSpecial_106 (by decide) ?_
            refine lv_icmp_eq (tgt := 161) hx hb dX11_writeSpecial_108 (by decide) (fun c6 => ?_) (fun c6 => ?_)
            · have hs := hs.1 c6
              have hP := hP.sub (ws' := [(aM, .inr (11, [.int m_thrown, .ref aMm, .ref aMr, .int m_sets, .ref aMs, .ref aMw, .long m_sum, .int m_pc, .int m_slot, .int m_branch, .int m_target, .int m_retired, .ref aMc, .ref aMv, .int m_lines, .int m_cycles, .int m_events, .int m_exceptions, .int m_doubles, .int m_longest, .ref aMf, .int m_word, .int m_codeFault, .int m_fetched, .int m_issued, .int m_due, .int m_starts, .int m_exception, .int m_eea, .int m_register, .int m_value, .int m_flag, .int m_carry, .int m_overflow, .int m_sums, .long m_newSum, .int m_store, .int m_bytes, .int m_stored, .int m_next, .int m_goal, .int m_returns, .ref aMi, .ref aMd, .int m_lastWord, .int m_lastReadable, .int m_lastPc, .int m_lastFetched, .int m_lastStarts, .int m_lastApart, .int m_redirected, .int m_behind, .ref aMy, .int m_flagReady, .int m_carryReady, .int m_sumReady, .int m_divided, .int m_foreseen, .int m_expected, .int m_went])), (aMs, .inl (cI, 10, .inl ms)), (aMw, .inl (cI, 512, .inl mw))]) [2, 0, 1] rfl
              have hD := hD.sub (ws' := [(aM, .inr (11, [.int m_thrown, .ref aMm, .ref aMr, .int m_sets, .ref aMs, .ref aMw, .long m_sum, .int m_pc, .int m_slot, .int m_branch, .int m_target, .int m_retired, .ref aMc, .ref aMv, .int m_lines, .int m_cycles, .int m_events, .int m_exceptions, .int m_doubles, .int m_longest, .ref aMf, .int m_word, .int m_codeFault, .int m_fetched, .int m_issued, .int m_due, .int m_starts, .int m_exception, .int m_eea, .int m_register, .int m_value, .int m_flag, .int m_carry, .int m_overflow, .int m_sums, .long m_newSum, .int m_store, .int m_bytes, .int m_stored, .int m_next, .int m_goal, .int m_returns, .ref aMi, .ref aMd, .int m_lastWord, .int m_lastReadable, .int m_lastPc, .int m_lastFetched, .int m_lastStarts, .int m_lastApart, .int m_redirected, .int m_behind, .ref aMy, .int m_flagReady, .int m_carryReady, .int m_sumReady, .int m_divided, .int m_foreseen, .int m_expected, .int m_went])), (aMs, .inl (cI, 10, .inl ms)), (aMw, .inl (cI, 512, .inl mw))]) [2, 0, 1] (by decide) rfl
              exact hret H locs _ ls (m_sum, ms, mw) dX11_writeSpecial_161 (by clear hP hD hS hl; replace hz1 := hz1.symm; subst hz1; exact (((if_neg c1).trans ((if_neg c2).trans ((if_neg c3).trans ((if_pos c4).trans ((if_neg c5).trans ((if_pos c6).trans (rfl)))))))).symm) trivial hP hD hS
            · have hs := hs.2 c6
              refine lv_aload_n hx hb dX11_writeSpecial_111 rfl (lv_at hl 0 rfl) ?_
              refine va_get (D := G) (ci := 11) (v := .ref aMs) (C := RX11) (T := TX11) (N := 60) hx hb hts iwX11_writeSpecial_X11 hown hK hP 2 rfl rfl 4 (by decide) (hts _ lkX11_writeSpecial_18) (fun _ h9 => h9) rfl dX11_writeSpecial_112 ?_
              refine lv_iload_n hx hb dX11_writeSpecial_115 rfl (lv_at hl 1 rfl) ?_
              refine lv_iload_n hx hb dX11_writeSpecial_116 rfl (lv_at hl 1 rfl) ?_
              refine lv_if_eq (tgt := 125) hx hb dX11_writeSpecial_117 (by decide) (fun c7 => ?_) (fun c7 => ?_)
              · have hs := hs.1 c7
                refine lv_iload_n hx hb dX11_writeSpecial_125 rfl (lv_at hl 2 rfl) ?_
                refine lv_sipush (v := 1023) hx hb dX11_writeSpecial_126 (by decide) ?_
                refine lv_iand hx hb dX11_writeSpecial_129 ?_
                refine lv_goto (tgt := 160) hx hb dX11_writeSpecial_130 (by decide) ?_
                obtain ⟨o1, hs⟩ := hs
                refine va_iast hx hb hK hP hD hS 0 0 rfl rfl o1 dX11_writeSpecial_160 (fun H locs hP hD hS => ?_)
                have hP : va_P G vwCl [(aMs, .inl (cI, 10, .inl (upd ms p0.toNatClampNeg (p1 &&& 1023)))), (aMw, .inl (cI, 512, .inl mw)), (aM, .inr (11, [.int m_thrown, .ref aMm, .ref aMr, .int m_sets, .ref aMs, .ref aMw, .long m_sum, .int m_pc, .int m_slot, .int m_branch, .int m_target, .int m_retired, .ref aMc, .ref aMv, .int m_lines, .int m_cycles, .int m_events, .int m_exceptions, .int m_doubles, .int m_longest, .ref aMf, .int m_word, .int m_codeFault, .int m_fetched, .int m_issued, .int m_due, .int m_starts, .int m_exception, .int m_eea, .int m_register, .int m_value, .int m_flag, .int m_carry, .int m_overflow, .int m_sums, .long m_newSum, .int m_store, .int m_bytes, .int m_stored, .int m_next, .int m_goal, .int m_returns, .ref aMi, .ref aMd, .int m_lastWord, .int m_lastReadable, .int m_lastPc, .int m_lastFetched, .int m_lastStarts, .int m_lastApart, .int m_redirected, .int m_behind, .ref aMy, .int m_flagReady, .int m_carryReady, .int m_sumReady, .int m_divided, .int m_foreseen, .int m_expected, .int m_went]))] H := hP
                have hD : va_D A [(aMs, .inl (cI, 10, .inl (upd ms p0.toNatClampNeg (p1 &&& 1023)))), (aMw, .inl (cI, 512, .inl mw)), (aM, .inr (11, [.int m_thrown, .ref aMm, .ref aMr, .int m_sets, .ref aMs, .ref aMw, .long m_sum, .int m_pc, .int m_slot, .int m_branch, .int m_target, .int m_retired, .ref aMc, .ref aMv, .int m_lines, .int m_cycles, .int m_events, .int m_exceptions, .int m_doubles, .int m_longest, .ref aMf, .int m_word, .int m_codeFault, .int m_fetched, .int m_issued, .int m_due, .int m_starts, .int m_exception, .int m_eea, .int m_register, .int m_value, .int m_flag, .int m_carry, .int m_overflow, .int m_sums, .long m_newSum, .int m_store, .int m_bytes, .int m_stored, .int m_next, .int m_goal, .int m_returns, .ref aMi, .ref aMd, .int m_lastWord, .int m_lastReadable, .int m_lastPc, .int m_lastFetched, .int m_lastStarts, .int m_lastApart, .int m_redirected, .int m_behind, .ref aMy, .int m_flagReady, .int m_carryReady, .int m_sumReady, .int m_divided, .int m_foreseen, .int m_expected, .int m_went]))] := hD
                have hP := hP.sub (ws' := [(aM, .inr (11, [.int m_thrown, .ref aMm, .ref aMr, .int m_sets, .ref aMs, .ref aMw, .long m_sum, .int m_pc, .int m_slot, .int m_branch, .int m_target, .int m_retired, .ref aMc, .ref aMv, .int m_lines, .int m_cycles, .int m_events, .int m_exceptions, .int m_doubles, .int m_longest, .ref aMf, .int m_word, .int m_codeFault, .int m_fetched, .int m_issued, .int m_due, .int m_starts, .int m_exception, .int m_eea, .int m_register, .int m_value, .int m_flag, .int m_carry, .int m_overflow, .int m_sums, .long m_newSum, .int m_store, .int m_bytes, .int m_stored, .int m_next, .int m_goal, .int m_returns, .ref aMi, .ref aMd, .int m_lastWord, .int m_lastReadable, .int m_lastPc, .int m_lastFetched, .int m_lastStarts, .int m_lastApart, .int m_redirected, .int m_behind, .ref aMy, .int m_flagReady, .int m_carryReady, .int m_sumReady, .int m_divided, .int m_foreseen, .int m_expected, .int m_went])), (aMs, .inl (cI, 10, .inl (upd ms p0.toNatClampNeg (p1 &&& 1023)))), (aMw, .inl (cI, 512, .inl mw))]) [2, 0, 1] rfl
                have hD := hD.sub (ws' := [(aM, .inr (11, [.int m_thrown, .ref aMm, .ref aMr, .int m_sets, .ref aMs, .ref aMw, .long m_sum, .int m_pc, .int m_slot, .int m_branch, .int m_target, .int m_retired, .ref aMc, .ref aMv, .int m_lines, .int m_cycles, .int m_events, .int m_exceptions, .int m_doubles, .int m_longest, .ref aMf, .int m_word, .int m_codeFault, .int m_fetched, .int m_issued, .int m_due, .int m_starts, .int m_exception, .int m_eea, .int m_register, .int m_value, .int m_flag, .int m_carry, .int m_overflow, .int m_sums, .long m_newSum, .int m_store, .int m_bytes, .int m_stored, .int m_next, .int m_goal, .int m_returns, .ref aMi, .ref aMd, .int m_lastWord, .int m_lastReadable, .int m_lastPc, .int m_lastFetched, .int m_lastStarts, .int m_lastApart, .int m_redirected, .int m_behind, .ref aMy, .int m_flagReady, .int m_carryReady, .int m_sumReady, .int m_divided, .int m_foreseen, .int m_expected, .int m_went])), (aMs, .inl (cI, 10, .inl (upd ms p0.toNatClampNeg (p1 &&& 1023)))), (aMw, .inl (cI, 512, .inl mw))]) [2, 0, 1] (by decide) rfl
                exact hret H locs _ ls (m_sum, upd ms p0.toNatClampNeg (p1 &&& 1023), mw) dX11_writeSpecial_161 (by clear hP hD hS hl; replace hz1 := hz1.symm; subst hz1; exact (((if_neg c1).trans ((if_neg c2).trans ((if_neg c3).trans ((if_pos c4).trans ((if_neg c5).trans ((if_neg c6).trans ((if_pos c7).trans (rfl))))))))).symm) trivial hP hD hS
              · have hs := hs.2 c7
                refine lv_iload_n hx hb dX11_writeSpecial_120 rfl (lv_at hl 1 rfl) ?_
                refine lv_iconst (v := 2) hx hb dX11_writeSpecial_121 (by decide) ?_
                refine lv_icmp_ne (tgt := 133) hx hb dX11_writeSpecial_122 (by decide) (fun c8 => ?_) (fun c8 => ?_)
                · have hs := hs.2 c8
                  refine lv_iload_n hx hb dX11_writeSpecial_133 rfl (lv_at hl 1 rfl) ?_
                  refine lv_iconst (v := 4) hx hb dX11_writeSpecial_134 (by decide) ?_
                  refine lv_icmp_ne (tgt := 146) hx hb dX11_writeSpecial_135 (by decide) (fun c9 => ?_) (fun c9 => ?_)
                  · have hs := hs.2 c9
                    refine lv_iload_n hx hb dX11_writeSpecial_146 rfl (lv_at hl 1 rfl) ?_
                    refine lv_iconst (v := 5) hx hb dX11_writeSpecial_147 (by decide) ?_
                    refine lv_icmp_ne (tgt := 159) hx hb dX11_writeSpecial_148 (by decide) (fun c10 => ?_) (fun c10 => ?_)
                    · have hs := hs.2 c10
                      refine lv_iload_n hx hb dX11_writeSpecial_159 rfl (lv_at hl 2 rfl) ?_
                      obtain ⟨o2, hs⟩ := hs
                      refine va_iast hx hb hK hP hD hS 0 0 rfl rfl o2 dX11_writeSpecial_160 (fun H locs hP hD hS => ?_)
                      have hP : va_P G vwCl [(aMs, .inl (cI, 10, .inl (upd ms p0.toNatClampNeg p1))), (aMw, .inl (cI, 512, .inl mw)), (aM, .inr (11, [.int m_thrown, .ref aMm, .ref aMr, .int m_sets, .ref aMs, .ref aMw, .long m_sum, .int m_pc, .int m_slot, .int m_branch, .int m_target, .int m_retired, .ref aMc, .ref aMv, .int m_lines, .int m_cycles, .int m_events, .int m_exceptions, .int m_doubles, .int m_longest, .ref aMf, .int m_word, .int m_codeFault, .int m_fetched, .int m_issued, .int m_due, .int m_starts, .int m_exception, .int m_eea, .int m_register, .int m_value, .int m_flag, .int m_carry, .int m_overflow, .int m_sums, .long m_newSum, .int m_store, .int m_bytes, .int m_stored, .int m_next, .int m_goal, .int m_returns, .ref aMi, .ref aMd, .int m_lastWord, .int m_lastReadable, .int m_lastPc, .int m_lastFetched, .int m_lastStarts, .int m_lastApart, .int m_redirected, .int m_behind, .ref aMy, .int m_flagReady, .int m_carryReady, .int m_sumReady, .int m_divided, .int m_foreseen, .int m_expected, .int m_went]))] H := hP
                      have hD : va_D A [(aMs, .inl (cI, 10, .inl (upd ms p0.toNatClampNeg p1))), (aMw, .inl (cI, 512, .inl mw)), (aM, .inr (11, [.int m_thrown, .ref aMm, .ref aMr, .int m_sets, .ref aMs, .ref aMw, .long m_sum, .int m_pc, .int m_slot, .int m_branch, .int m_target, .int m_retired, .ref aMc, .ref aMv, .int m_lines, .int m_cycles, .int m_events, .int m_exceptions, .int m_doubles, .int m_longest, .ref aMf, .int m_word, .int m_codeFault, .int m_fetched, .int m_issued, .int m_due, .int m_starts, .int m_exception, .int m_eea, .int m_register, .int m_value, .int m_flag, .int m_carry, .int m_overflow, .int m_sums, .long m_newSum, .int m_store, .int m_bytes, .int m_stored, .int m_next, .int m_goal, .int m_returns, .ref aMi, .ref aMd, .int m_lastWord, .int m_lastReadable, .int m_lastPc, .int m_lastFetched, .int m_lastStarts, .int m_lastApart, .int m_redirected, .int m_behind, .ref aMy, .int m_flagReady, .int m_carryReady, .int m_sumReady, .int m_divided, .int m_foreseen, .int m_expected, .int m_went]))] := hD
                      have hP := hP.sub (ws' := [(aM, .inr (11, [.int m_thrown, .ref aMm, .ref aMr, .int m_sets, .ref aMs, .ref aMw, .long m_sum, .int m_pc, .int m_slot, .int m_branch, .int m_target, .int m_retired, .ref aMc, .ref aMv, .int m_lines, .int m_cycles, .int m_events, .int m_exceptions, .int m_doubles, .int m_longest, .ref aMf, .int m_word, .int m_codeFault, .int m_fetched, .int m_issued, .int m_due, .int m_starts, .int m_exception, .int m_eea, .int m_register, .int m_value, .int m_flag, .int m_carry, .int m_overflow, .int m_sums, .long m_newSum, .int m_store, .int m_bytes, .int m_stored, .int m_next, .int m_goal, .int m_returns, .ref aMi, .ref aMd, .int m_lastWord, .int m_lastReadable, .int m_lastPc, .int m_lastFetched, .int m_lastStarts, .int m_lastApart, .int m_redirected, .int m_behind, .ref aMy, .int m_flagReady, .int m_carryReady, .int m_sumReady, .int m_divided, .int m_foreseen, .int m_expected, .int m_went])), (aMs, .inl (cI, 10, .inl (upd ms p0.toNatClampNeg p1))), (aMw, .inl (cI, 512, .inl mw))]) [2, 0, 1] rfl
                      have hD := hD.sub (ws' := [(aM, .inr (11, [.int m_thrown, .ref aMm, .ref aMr, .int m_sets, .ref aMs, .ref aMw, .long m_sum, .int m_pc, .int m_slot, .int m_branch, .int m_target, .int m_retired, .ref aMc, .ref aMv, .int m_lines, .int m_cycles, .int m_events, .int m_exceptions, .int m_doubles, .int m_longest, .ref aMf, .int m_word, .int m_codeFault, .int m_fetched, .int m_issued, .int m_due, .int m_starts, .int m_exception, .int m_eea, .int m_register, .int m_value, .int m_flag, .int m_carry, .int m_overflow, .int m_sums, .long m_newSum, .int m_store, .int m_bytes, .int m_stored, .int m_next, .int m_goal, .int m_returns, .ref aMi, .ref aMd, .int m_lastWord, .int m_lastReadable, .int m_lastPc, .int m_lastFetched, .int m_lastStarts, .int m_lastApart, .int m_redirected, .int m_behind, .ref aMy, .int m_flagReady, .int m_carryReady, .int m_sumReady, .int m_divided, .int m_foreseen, .int m_expected, .int m_went])), (aMs, .inl (cI, 10, .inl (upd ms p0.toNatClampNeg p1))), (aMw, .inl (cI, 512, .inl mw))]) [2, 0, 1] (by decide) rfl
                      exact hret H locs _ ls (m_sum, upd ms p0.toNatClampNeg p1, mw) dX11_writeSpecial_161 (by clear hP hD hS hl; replace hz1 := hz1.symm; subst hz1; exact (((if_neg c1).trans ((if_neg c2).trans ((if_neg c3).trans ((if_pos c4).trans ((if_neg c5).trans ((if_neg c6).trans ((if_neg c7).trans ((if_neg c8).trans ((if_neg c9).trans ((if_neg c10).trans (rfl)))))))))))).symm) trivial hP hD hS
                    · have hs := hs.1 c10
                      refine lv_iload_n hx hb dX11_writeSpecial_151 rfl (lv_at hl 2 rfl) ?_
                      refine lv_ldcw (v := 2147483647) hx hb hown (hts _ lkX11_writeSpecial_366) dX11_writeSpecial_152 ?_
                      refine lv_iand hx hb dX11_writeSpecial_155 ?_
                      refine lv_goto (tgt := 160) hx hb dX11_writeSpecial_156 (by decide) ?_
                      obtain ⟨o3, hs⟩ := hs
                      refine va_iast hx hb hK hP hD hS 0 0 rfl rfl o3 dX11_writeSpecial_160 (fun H locs hP hD hS => ?_)
                      have hP : va_P G vwCl [(aMs, .inl (cI, 10, .inl (upd ms p0.toNatClampNeg (p1 &&& 2147483647)))), (aMw, .inl (cI, 512, .inl mw)), (aM, .inr (11, [.int m_thrown, .ref aMm, .ref aMr, .int m_sets, .ref aMs, .ref aMw, .long m_sum, .int m_pc, .int m_slot, .int m_branch, .int m_target, .int m_retired, .ref aMc, .ref aMv, .int m_lines, .int m_cycles, .int m_events, .int m_exceptions, .int m_doubles, .int m_longest, .ref aMf, .int m_word, .int m_codeFault, .int m_fetched, .int m_issued, .int m_due, .int m_starts, .int m_exception, .int m_eea, .int m_register, .int m_value, .int m_flag, .int m_carry, .int m_overflow, .int m_sums, .long m_newSum, .int m_store, .int m_bytes, .int m_stored, .int m_next, .int m_goal, .int m_returns, .ref aMi, .ref aMd, .int m_lastWord, .int m_lastReadable, .int m_lastPc, .int m_lastFetched, .int m_lastStarts, .int m_lastApart, .int m_redirected, .int m_behind, .ref aMy, .int m_flagReady, .int m_carryReady, .int m_sumReady, .int m_divided, .int m_foreseen, .int m_expected, .int m_went]))] H := hP
                      have hD : va_D A [(aMs, .inl (cI, 10, .inl (upd ms p0.toNatClampNeg (p1 &&& 2147483647)))), (aMw, .inl (cI, 512, .inl mw)), (aM, .inr (11, [.int m_thrown, .ref aMm, .ref aMr, .int m_sets, .ref aMs, .ref aMw, .long m_sum, .int m_pc, .int m_slot, .int m_branch, .int m_target, .int m_retired, .ref aMc, .ref aMv, .int m_lines, .int m_cycles, .int m_events, .int m_exceptions, .int m_doubles, .int m_longest, .ref aMf, .int m_word, .int m_codeFault, .int m_fetched, .int m_issued, .int m_due, .int m_starts, .int m_exception, .int m_eea, .int m_register, .int m_value, .int m_flag, .int m_carry, .int m_overflow, .int m_sums, .long m_newSum, .int m_store, .int m_bytes, .int m_stored, .int m_next, .int m_goal, .int m_returns, .ref aMi, .ref aMd, .int m_lastWord, .int m_lastReadable, .int m_lastPc, .int m_lastFetched, .int m_lastStarts, .int m_lastApart, .int m_redirected, .int m_behind, .ref aMy, .int m_flagReady, .int m_carryReady, .int m_sumReady, .int m_divided, .int m_foreseen, .int m_expected, .int m_went]))] := hD
                      have hP := hP.sub (ws' := [(aM, .inr (11, [.int m_thrown, .ref aMm, .ref aMr, .int m_sets, .ref aMs, .ref aMw, .long m_sum, .int m_pc, .int m_slot, .int m_branch, .int m_target, .int m_retired, .ref aMc, .ref aMv, .int m_lines, .int m_cycles, .int m_events, .int m_exceptions, .int m_doubles, .int m_longest, .ref aMf, .int m_word, .int m_codeFault, .int m_fetched, .int m_issued, .int m_due, .int m_starts, .int m_exception, .int m_eea, .int m_register, .int m_value, .int m_flag, .int m_carry, .int m_overflow, .int m_sums, .long m_newSum, .int m_store, .int m_bytes, .int m_stored, .int m_next, .int m_goal, .int m_returns, .ref aMi, .ref aMd, .int m_lastWord, .int m_lastReadable, .int m_lastPc, .int m_lastFetched, .int m_lastStarts, .int m_lastApart, .int m_redirected, .int m_behind, .ref aMy, .int m_flagReady, .int m_carryReady, .int m_sumReady, .int m_divided, .int m_foreseen, .int m_expected, .int m_went])), (aMs, .inl (cI, 10, .inl (upd ms p0.toNatClampNeg (p1 &&& 2147483647)))), (aMw, .inl (cI, 512, .inl mw))]) [2, 0, 1] rfl
                      have hD := hD.sub (ws' := [(aM, .inr (11, [.int m_thrown, .ref aMm, .ref aMr, .int m_sets, .ref aMs, .ref aMw, .long m_sum, .int m_pc, .int m_slot, .int m_branch, .int m_target, .int m_retired, .ref aMc, .ref aMv, .int m_lines, .int m_cycles, .int m_events, .int m_exceptions, .int m_doubles, .int m_longest, .ref aMf, .int m_word, .int m_codeFault, .int m_fetched, .int m_issued, .int m_due, .int m_starts, .int m_exception, .int m_eea, .int m_register, .int m_value, .int m_flag, .int m_carry, .int m_overflow, .int m_sums, .long m_newSum, .int m_store, .int m_bytes, .int m_stored, .int m_next, .int m_goal, .int m_returns, .ref aMi, .ref aMd, .int m_lastWord, .int m_lastReadable, .int m_lastPc, .int m_lastFetched, .int m_lastStarts, .int m_lastApart, .int m_redirected, .int m_behind, .ref aMy, .int m_flagReady, .int m_carryReady, .int m_sumReady, .int m_divided, .int m_foreseen, .int m_expected, .int m_went])), (aMs, .inl (cI, 10, .inl (upd ms p0.toNatClampNeg (p1 &&& 2147483647)))), (aMw, .inl (cI, 512, .inl mw))]) [2, 0, 1] (by decide) rfl
                      exact hret H locs _ ls (m_sum, upd ms p0.toNatClampNeg (p1 &&& 2147483647), mw) dX11_writeSpecial_161 (by clear hP hD hS hl; replace hz1 := hz1.symm; subst hz1; exact (((if_neg c1).trans ((if_neg c2).trans ((if_neg c3).trans ((if_pos c4).trans ((if_neg c5).trans ((if_neg c6).trans ((if_neg c7).trans ((if_neg c8).trans ((if_neg c9).trans ((if_pos c10).trans (rfl)))))))))))).symm) trivial hP hD hS
                  · have hs := hs.1 c9
                    refine lv_iload_n hx hb dX11_writeSpecial_138 rfl (lv_at hl 2 rfl) ?_
                    refine lv_ldcw (v := 268435455) hx hb hown (hts _ lkX11_writeSpecial_361) dX11_writeSpecial_139 ?_
                    refine lv_iand hx hb dX11_writeSpecial_142 ?_
                    refine lv_goto (tgt := 160) hx hb dX11_writeSpecial_143 (by decide) ?_
                    obtain ⟨o4, hs⟩ := hs
                    refine va_iast hx hb hK hP hD hS 0 0 rfl rfl o4 dX11_writeSpecial_160 (fun H locs hP hD hS => ?_)
                    have hP : va_P G vwCl [(aMs, .inl (cI, 10, .inl (upd ms p0.toNatClampNeg (p1 &&& 268435455)))), (aMw, .inl (cI, 512, .inl mw)), (aM, .inr (11, [.int m_thrown, .ref aMm, .ref aMr, .int m_sets, .ref aMs, .ref aMw, .long m_sum, .int m_pc, .int m_slot, .int m_branch, .int m_target, .int m_retired, .ref aMc, .ref aMv, .int m_lines, .int m_cycles, .int m_events, .int m_exceptions, .int m_doubles, .int m_longest, .ref aMf, .int m_word, .int m_codeFault, .int m_fetched, .int m_issued, .int m_due, .int m_starts, .int m_exception, .int m_eea, .int m_register, .int m_value, .int m_flag, .int m_carry, .int m_overflow, .int m_sums, .long m_newSum, .int m_store, .int m_bytes, .int m_stored, .int m_next, .int m_goal, .int m_returns, .ref aMi, .ref aMd, .int m_lastWord, .int m_lastReadable, .int m_lastPc, .int m_lastFetched, .int m_lastStarts, .int m_lastApart, .int m_redirected, .int m_behind, .ref aMy, .int m_flagReady, .int m_carryReady, .int m_sumReady, .int m_divided, .int m_foreseen, .int m_expected, .int m_went]))] H := hP
                    have hD : va_D A [(aMs, .inl (cI, 10, .inl (upd ms p0.toNatClampNeg (p1 &&& 268435455)))), (aMw, .inl (cI, 512, .inl mw)), (aM, .inr (11, [.int m_thrown, .ref aMm, .ref aMr, .int m_sets, .ref aMs, .ref aMw, .long m_sum, .int m_pc, .int m_slot, .int m_branch, .int m_target, .int m_retired, .ref aMc, .ref aMv, .int m_lines, .int m_cycles, .int m_events, .int m_exceptions, .int m_doubles, .int m_longest, .ref aMf, .int m_word, .int m_codeFault, .int m_fetched, .int m_issued, .int m_due, .int m_starts, .int m_exception, .int m_eea, .int m_register, .int m_value, .int m_flag, .int m_carry, .int m_overflow, .int m_sums, .long m_newSum, .int m_store, .int m_bytes, .int m_stored, .int m_next, .int m_goal, .int m_returns, .ref aMi, .ref aMd, .int m_lastWord, .int m_lastReadable, .int m_lastPc, .int m_lastFetched, .int m_lastStarts, .int m_lastApart, .int m_redirected, .int m_behind, .ref aMy, .int m_flagReady, .int m_carryReady, .int m_sumReady, .int m_divided, .int m_foreseen, .int m_expected, .int m_went]))] := hD
                    have hP := hP.sub (ws' := [(aM, .inr (11, [.int m_thrown, .ref aMm, .ref aMr, .int m_sets, .ref aMs, .ref aMw, .long m_sum, .int m_pc, .int m_slot, .int m_branch, .int m_target, .int m_retired, .ref aMc, .ref aMv, .int m_lines, .int m_cycles, .int m_events, .int m_exceptions, .int m_doubles, .int m_longest, .ref aMf, .int m_word, .int m_codeFault, .int m_fetched, .int m_issued, .int m_due, .int m_starts, .int m_exception, .int m_eea, .int m_register, .int m_value, .int m_flag, .int m_carry, .int m_overflow, .int m_sums, .long m_newSum, .int m_store, .int m_bytes, .int m_stored, .int m_next, .int m_goal, .int m_returns, .ref aMi, .ref aMd, .int m_lastWord, .int m_lastReadable, .int m_lastPc, .int m_lastFetched, .int m_lastStarts, .int m_lastApart, .int m_redirected, .int m_behind, .ref aMy, .int m_flagReady, .int m_carryReady, .int m_sumReady, .int m_divided, .int m_foreseen, .int m_expected, .int m_went])), (aMs, .inl (cI, 10, .inl (upd ms p0.toNatClampNeg (p1 &&& 268435455)))), (aMw, .inl (cI, 512, .inl mw))]) [2, 0, 1] rfl
                    have hD := hD.sub (ws' := [(aM, .inr (11, [.int m_thrown, .ref aMm, .ref aMr, .int m_sets, .ref aMs, .ref aMw, .long m_sum, .int m_pc, .int m_slot, .int m_branch, .int m_target, .int m_retired, .ref aMc, .ref aMv, .int m_lines, .int m_cycles, .int m_events, .int m_exceptions, .int m_doubles, .int m_longest, .ref aMf, .int m_word, .int m_codeFault, .int m_fetched, .int m_issued, .int m_due, .int m_starts, .int m_exception, .int m_eea, .int m_register, .int m_value, .int m_flag, .int m_carry, .int m_overflow, .int m_sums, .long m_newSum, .int m_store, .int m_bytes, .int m_stored, .int m_next, .int m_goal, .int m_returns, .ref aMi, .ref aMd, .int m_lastWord, .int m_lastReadable, .int m_lastPc, .int m_lastFetched, .int m_lastStarts, .int m_lastApart, .int m_redirected, .int m_behind, .ref aMy, .int m_flagReady, .int m_carryReady, .int m_sumReady, .int m_divided, .int m_foreseen, .int m_expected, .int m_went])), (aMs, .inl (cI, 10, .inl (upd ms p0.toNatClampNeg (p1 &&& 268435455)))), (aMw, .inl (cI, 512, .inl mw))]) [2, 0, 1] (by decide) rfl
                    exact hret H locs _ ls (m_sum, upd ms p0.toNatClampNeg (p1 &&& 268435455), mw) dX11_writeSpecial_161 (by clear hP hD hS hl; replace hz1 := hz1.symm; subst hz1; exact (((if_neg c1).trans ((if_neg c2).trans ((if_neg c3).trans ((if_pos c4).trans ((if_neg c5).trans ((if_neg c6).trans ((if_neg c7).trans ((if_neg c8).trans ((if_pos c9).trans (rfl))))))))))).symm) trivial hP hD hS
                · have hs := hs.1 c8
                  refine lv_iload_n hx hb dX11_writeSpecial_125 rfl (lv_at hl 2 rfl) ?_
                  refine lv_sipush (v := 1023) hx hb dX11_writeSpecial_126 (by decide) ?_
                  refine lv_iand hx hb dX11_writeSpecial_129 ?_
                  refine lv_goto (tgt := 160) hx hb dX11_writeSpecial_130 (by decide) ?_
                  obtain ⟨o5, hs⟩ := hs
                  refine va_iast hx hb hK hP hD hS 0 0 rfl rfl o5 dX11_writeSpecial_160 (fun H locs hP hD hS => ?_)
                  have hP : va_P G vwCl [(aMs, .inl (cI, 10, .inl (upd ms p0.toNatClampNeg (p1 &&& 1023)))), (aMw, .inl (cI, 512, .inl mw)), (aM, .inr (11, [.int m_thrown, .ref aMm, .ref aMr, .int m_sets, .ref aMs, .ref aMw, .long m_sum, .int m_pc, .int m_slot, .int m_branch, .int m_target, .int m_retired, .ref aMc, .ref aMv, .int m_lines, .int m_cycles, .int m_events, .int m_exceptions, .int m_doubles, .int m_longest, .ref aMf, .int m_word, .int m_codeFault, .int m_fetched, .int m_issued, .int m_due, .int m_starts, .int m_exception, .int m_eea, .int m_register, .int m_value, .int m_flag, .int m_carry, .int m_overflow, .int m_sums, .long m_newSum, .int m_store, .int m_bytes, .int m_stored, .int m_next, .int m_goal, .int m_returns, .ref aMi, .ref aMd, .int m_lastWord, .int m_lastReadable, .int m_lastPc, .int m_lastFetched, .int m_lastStarts, .int m_lastApart, .int m_redirected, .int m_behind, .ref aMy, .int m_flagReady, .int m_carryReady, .int m_sumReady, .int m_divided, .int m_foreseen, .int m_expected, .int m_went]))] H := hP
                  have hD : va_D A [(aMs, .inl (cI, 10, .inl (upd ms p0.toNatClampNeg (p1 &&& 1023)))), (aMw, .inl (cI, 512, .inl mw)), (aM, .inr (11, [.int m_thrown, .ref aMm, .ref aMr, .int m_sets, .ref aMs, .ref aMw, .long m_sum, .int m_pc, .int m_slot, .int m_branch, .int m_target, .int m_retired, .ref aMc, .ref aMv, .int m_lines, .int m_cycles, .int m_events, .int m_exceptions, .int m_doubles, .int m_longest, .ref aMf, .int m_word, .int m_codeFault, .int m_fetched, .int m_issued, .int m_due, .int m_starts, .int m_exception, .int m_eea, .int m_register, .int m_value, .int m_flag, .int m_carry, .int m_overflow, .int m_sums, .long m_newSum, .int m_store, .int m_bytes, .int m_stored, .int m_next, .int m_goal, .int m_returns, .ref aMi, .ref aMd, .int m_lastWord, .int m_lastReadable, .int m_lastPc, .int m_lastFetched, .int m_lastStarts, .int m_lastApart, .int m_redirected, .int m_behind, .ref aMy, .int m_flagReady, .int m_carryReady, .int m_sumReady, .int m_divided, .int m_foreseen, .int m_expected, .int m_went]))] := hD
                  have hP := hP.sub (ws' := [(aM, .inr (11, [.int m_thrown, .ref aMm, .ref aMr, .int m_sets, .ref aMs, .ref aMw, .long m_sum, .int m_pc, .int m_slot, .int m_branch, .int m_target, .int m_retired, .ref aMc, .ref aMv, .int m_lines, .int m_cycles, .int m_events, .int m_exceptions, .int m_doubles, .int m_longest, .ref aMf, .int m_word, .int m_codeFault, .int m_fetched, .int m_issued, .int m_due, .int m_starts, .int m_exception, .int m_eea, .int m_register, .int m_value, .int m_flag, .int m_carry, .int m_overflow, .int m_sums, .long m_newSum, .int m_store, .int m_bytes, .int m_stored, .int m_next, .int m_goal, .int m_returns, .ref aMi, .ref aMd, .int m_lastWord, .int m_lastReadable, .int m_lastPc, .int m_lastFetched, .int m_lastStarts, .int m_lastApart, .int m_redirected, .int m_behind, .ref aMy, .int m_flagReady, .int m_carryReady, .int m_sumReady, .int m_divided, .int m_foreseen, .int m_expected, .int m_went])), (aMs, .inl (cI, 10, .inl (upd ms p0.toNatClampNeg (p1 &&& 1023)))), (aMw, .inl (cI, 512, .inl mw))]) [2, 0, 1] rfl
                  have hD := hD.sub (ws' := [(aM, .inr (11, [.int m_thrown, .ref aMm, .ref aMr, .int m_sets, .ref aMs, .ref aMw, .long m_sum, .int m_pc, .int m_slot, .int m_branch, .int m_target, .int m_retired, .ref aMc, .ref aMv, .int m_lines, .int m_cycles, .int m_events, .int m_exceptions, .int m_doubles, .int m_longest, .ref aMf, .int m_word, .int m_codeFault, .int m_fetched, .int m_issued, .int m_due, .int m_starts, .int m_exception, .int m_eea, .int m_register, .int m_value, .int m_flag, .int m_carry, .int m_overflow, .int m_sums, .long m_newSum, .int m_store, .int m_bytes, .int m_stored, .int m_next, .int m_goal, .int m_returns, .ref aMi, .ref aMd, .int m_lastWord, .int m_lastReadable, .int m_lastPc, .int m_lastFetched, .int m_lastStarts, .int m_lastApart, .int m_redirected, .int m_behind, .ref aMy, .int m_flagReady, .int m_carryReady, .int m_sumReady, .int m_divided, .int m_foreseen, .int m_expected, .int m_went])), (aMs, .inl (cI, 10, .inl (upd ms p0.toNatClampNeg (p1 &&& 1023)))), (aMw, .inl (cI, 512, .inl mw))]) [2, 0, 1] (by decide) rfl
                  exact hret H locs _ ls (m_sum, upd ms p0.toNatClampNeg (p1 &&& 1023), mw) dX11_writeSpecial_161 (by clear hP hD hS hl; replace hz1 := hz1.symm; subst hz1; exact (((if_neg c1).trans ((if_neg c2).trans ((if_neg c3).trans ((if_pos c4).trans ((if_neg c5).trans ((if_neg c6).trans ((if_neg c7).trans ((if_pos c8).trans (rfl)))))))))).symm) trivial hP hD hS
        · have hs := hs.2 c4
          refine lv_aload_n hx hb dX11_writeSpecial_85 rfl (lv_at hl 0 rfl) ?_
          refine va_get (D := G) (ci := 11) (v := .ref aMw) (C := RX11) (T := TX11) (N := 60) hx hb hts iwX11_writeSpecial_X11 hown hK hP 2 rfl rfl 5 (by decide) (hts _ lkX11_writeSpecial_21) (fun _ h9 => h9) rfl dX11_writeSpecial_86 ?_
          refine lv_iload_n hx hb dX11_writeSpecial_89 rfl (lv_at hl 1 rfl) ?_
          refine lv_sipush (v := 1024) hx hb dX11_writeSpecial_90 (by decide) ?_
          refine lv_isub hx hb dX11_writeSpecial_93 ?_
          refine lv_iload_n hx hb dX11_writeSpecial_94 rfl (lv_at hl 2 rfl) ?_
          obtain ⟨o6, hs⟩ := hs
          refine va_iast hx hb hK hP hD hS 1 0 rfl rfl o6 dX11_writeSpecial_95 (fun H locs hP hD hS => ?_)
          have hP : va_P G vwCl [(aMs, .inl (cI, 10, .inl ms)), (aMw, .inl (cI, 512, .inl (upd mw (p0 - 1024).toNatClampNeg p1))), (aM, .inr (11, [.int m_thrown, .ref aMm, .ref aMr, .int m_sets, .ref aMs, .ref aMw, .long m_sum, .int m_pc, .int m_slot, .int m_branch, .int m_target, .int m_retired, .ref aMc, .ref aMv, .int m_lines, .int m_cycles, .int m_events, .int m_exceptions, .int m_doubles, .int m_longest, .ref aMf, .int m_word, .int m_codeFault, .int m_fetched, .int m_issued, .int m_due, .int m_starts, .int m_exception, .int m_eea, .int m_register, .int m_value, .int m_flag, .int m_carry, .int m_overflow, .int m_sums, .long m_newSum, .int m_store, .int m_bytes, .int m_stored, .int m_next, .int m_goal, .int m_returns, .ref aMi, .ref aMd, .int m_lastWord, .int m_lastReadable, .int m_lastPc, .int m_lastFetched, .int m_lastStarts, .int m_lastApart, .int m_redirected, .int m_behind, .ref aMy, .int m_flagReady, .int m_carryReady, .int m_sumReady, .int m_divided, .int m_foreseen, .int m_expected, .int m_went]))] H := hP
          have hD : va_D A [(aMs, .inl (cI, 10, .inl ms)), (aMw, .inl (cI, 512, .inl (upd mw (p0 - 1024).toNatClampNeg p1))), (aM, .inr (11, [.int m_thrown, .ref aMm, .ref aMr, .int m_sets, .ref aMs, .ref aMw, .long m_sum, .int m_pc, .int m_slot, .int m_branch, .int m_target, .int m_retired, .ref aMc, .ref aMv, .int m_lines, .int m_cycles, .int m_events, .int m_exceptions, .int m_doubles, .int m_longest, .ref aMf, .int m_word, .int m_codeFault, .int m_fetched, .int m_issued, .int m_due, .int m_starts, .int m_exception, .int m_eea, .int m_register, .int m_value, .int m_flag, .int m_carry, .int m_overflow, .int m_sums, .long m_newSum, .int m_store, .int m_bytes, .int m_stored, .int m_next, .int m_goal, .int m_returns, .ref aMi, .ref aMd, .int m_lastWord, .int m_lastReadable, .int m_lastPc, .int m_lastFetched, .int m_lastStarts, .int m_lastApart, .int m_redirected, .int m_behind, .ref aMy, .int m_flagReady, .int m_carryReady, .int m_sumReady, .int m_divided, .int m_foreseen, .int m_expected, .int m_went]))] := hD
          refine lv_goto (tgt := 161) hx hb dX11_writeSpecial_96 (by decide) ?_
          have hP := hP.sub (ws' := [(aM, .inr (11, [.int m_thrown, .ref aMm, .ref aMr, .int m_sets, .ref aMs, .ref aMw, .long m_sum, .int m_pc, .int m_slot, .int m_branch, .int m_target, .int m_retired, .ref aMc, .ref aMv, .int m_lines, .int m_cycles, .int m_events, .int m_exceptions, .int m_doubles, .int m_longest, .ref aMf, .int m_word, .int m_codeFault, .int m_fetched, .int m_issued, .int m_due, .int m_starts, .int m_exception, .int m_eea, .int m_register, .int m_value, .int m_flag, .int m_carry, .int m_overflow, .int m_sums, .long m_newSum, .int m_store, .int m_bytes, .int m_stored, .int m_next, .int m_goal, .int m_returns, .ref aMi, .ref aMd, .int m_lastWord, .int m_lastReadable, .int m_lastPc, .int m_lastFetched, .int m_lastStarts, .int m_lastApart, .int m_redirected, .int m_behind, .ref aMy, .int m_flagReady, .int m_carryReady, .int m_sumReady, .int m_divided, .int m_foreseen, .int m_expected, .int m_went])), (aMs, .inl (cI, 10, .inl ms)), (aMw, .inl (cI, 512, .inl (upd mw (p0 - 1024).toNatClampNeg p1)))]) [2, 0, 1] rfl
          have hD := hD.sub (ws' := [(aM, .inr (11, [.int m_thrown, .ref aMm, .ref aMr, .int m_sets, .ref aMs, .ref aMw, .long m_sum, .int m_pc, .int m_slot, .int m_branch, .int m_target, .int m_retired, .ref aMc, .ref aMv, .int m_lines, .int m_cycles, .int m_events, .int m_exceptions, .int m_doubles, .int m_longest, .ref aMf, .int m_word, .int m_codeFault, .int m_fetched, .int m_issued, .int m_due, .int m_starts, .int m_exception, .int m_eea, .int m_register, .int m_value, .int m_flag, .int m_carry, .int m_overflow, .int m_sums, .long m_newSum, .int m_store, .int m_bytes, .int m_stored, .int m_next, .int m_goal, .int m_returns, .ref aMi, .ref aMd, .int m_lastWord, .int m_lastReadable, .int m_lastPc, .int m_lastFetched, .int m_lastStarts, .int m_lastApart, .int m_redirected, .int m_behind, .ref aMy, .int m_flagReady, .int m_carryReady, .int m_sumReady, .int m_divided, .int m_foreseen, .int m_expected, .int m_went])), (aMs, .inl (cI, 10, .inl ms)), (aMw, .inl (cI, 512, .inl (upd mw (p0 - 1024).toNatClampNeg p1)))]) [2, 0, 1] (by decide) rfl
          exact hret H locs _ ls (m_sum, ms, upd mw (p0 - 1024).toNatClampNeg p1) dX11_writeSpecial_161 (by clear hP hD hS hl; replace hz1 := hz1.symm; subst hz1; exact (((if_neg c1).trans ((if_neg c2).trans ((if_neg c3).trans ((if_neg c4).trans (rfl)))))).symm) trivial hP hD hS
      · have hs := hs.1 c3
        refine lv_aload_n hx hb dX11_writeSpecial_55 rfl (lv_at hl 0 rfl) ?_
        refine lv_aload_n hx hb dX11_writeSpecial_56 rfl (lv_at hl 0 rfl) ?_
        refine va_get (D := G) (ci := 11) (v := .long m_sum) (C := RX11) (T := TX11) (N := 60) hx hb hts iwX11_writeSpecial_X11 hown hK hP 0 rfl rfl 6 (by decide) (hts _ lkX11_writeSpecial_52) (fun _ h9 => h9) rfl dX11_writeSpecial_57 ?_
        refine lv_ldc2 (v := (-4294967296)) hx hb hown (hts _ lkX11_writeSpecial_364) dX11_writeSpecial_60 ?_
        refine lv_land hx hb dX11_writeSpecial_63 ?_
        refine lv_iload_n hx hb dX11_writeSpecial_64 rfl (lv_at hl 2 rfl) ?_
        refine lv_i2l (v := p1.toInt64) hx hb dX11_writeSpecial_65 rfl ?_
        refine lv_ldc2 (v := 4294967295) hx hb hown (hts _ lkX11_writeSpecial_130) dX11_writeSpecial_66 ?_
        refine lv_land hx hb dX11_writeSpecial_69 ?_
        refine lv_lor hx hb dX11_writeSpecial_70 ?_
        refine va_put (D := G) (ci := 11) (v := .long ((m_sum &&& (-4294967296)) ||| (p1.toInt64 &&& 4294967295))) (ty := .long) (C := RX11) (T := TX11) (N := 60) hx hb hts iwX11_writeSpecial_X11 tyX11 tyX11_ok nmX11 hown hK hP hD hS 0 rfl rfl 6 (by decide) (hts _ lkX11_writeSpecial_52) (fun _ h9 => h9) rfl (by decide +kernel) rfl rfl (Nat.le_of_ble_eq_true rfl) dX11_writeSpecial_71 (fun H locs hP hD hS => ?_)
        have hP : va_P G vwCl [(aM, .inr (11, [.int m_thrown, .ref aMm, .ref aMr, .int m_sets, .ref aMs, .ref aMw, .long ((m_sum &&& (-4294967296)) ||| (p1.toInt64 &&& 4294967295)), .int m_pc, .int m_slot, .int m_branch, .int m_target, .int m_retired, .ref aMc, .ref aMv, .int m_lines, .int m_cycles, .int m_events, .int m_exceptions, .int m_doubles, .int m_longest, .ref aMf, .int m_word, .int m_codeFault, .int m_fetched, .int m_issued, .int m_due, .int m_starts, .int m_exception, .int m_eea, .int m_register, .int m_value, .int m_flag, .int m_carry, .int m_overflow, .int m_sums, .long m_newSum, .int m_store, .int m_bytes, .int m_stored, .int m_next, .int m_goal, .int m_returns, .ref aMi, .ref aMd, .int m_lastWord, .int m_lastReadable, .int m_lastPc, .int m_lastFetched, .int m_lastStarts, .int m_lastApart, .int m_redirected, .int m_behind, .ref aMy, .int m_flagReady, .int m_carryReady, .int m_sumReady, .int m_divided, .int m_foreseen, .int m_expected, .int m_went])), (aMs, .inl (cI, 10, .inl ms)), (aMw, .inl (cI, 512, .inl mw))] H := hP
        have hD : va_D A [(aM, .inr (11, [.int m_thrown, .ref aMm, .ref aMr, .int m_sets, .ref aMs, .ref aMw, .long ((m_sum &&& (-4294967296)) ||| (p1.toInt64 &&& 4294967295)), .int m_pc, .int m_slot, .int m_branch, .int m_target, .int m_retired, .ref aMc, .ref aMv, .int m_lines, .int m_cycles, .int m_events, .int m_exceptions, .int m_doubles, .int m_longest, .ref aMf, .int m_word, .int m_codeFault, .int m_fetched, .int m_issued, .int m_due, .int m_starts, .int m_exception, .int m_eea, .int m_register, .int m_value, .int m_flag, .int m_carry, .int m_overflow, .int m_sums, .long m_newSum, .int m_store, .int m_bytes, .int m_stored, .int m_next, .int m_goal, .int m_returns, .ref aMi, .ref aMd, .int m_lastWord, .int m_lastReadable, .int m_lastPc, .int m_lastFetched, .int m_lastStarts, .int m_lastApart, .int m_redirected, .int m_behind, .ref aMy, .int m_flagReady, .int m_carryReady, .int m_sumReady, .int m_divided, .int m_foreseen, .int m_expected, .int m_went])), (aMs, .inl (cI, 10, .inl ms)), (aMw, .inl (cI, 512, .inl mw))] := hD
        refine lv_goto (tgt := 161) hx hb dX11_writeSpecial_74 (by decide) ?_
        exact hret H locs _ ls ((m_sum &&& (-4294967296)) ||| (p1.toInt64 &&& 4294967295), ms, mw) dX11_writeSpecial_161 ((if_neg c1).trans ((if_neg c2).trans ((if_pos c3).trans (rfl)))).symm trivial hP hD hS
    · have hs := hs.1 c2
      refine lv_aload_n hx hb dX11_writeSpecial_28 rfl (lv_at hl 0 rfl) ?_
      refine lv_iload_n hx hb dX11_writeSpecial_29 rfl (lv_at hl 2 rfl) ?_
      refine lv_i2l (v := p1.toInt64) hx hb dX11_writeSpecial_30 rfl ?_
      refine lv_bipush (v := 32) hx hb dX11_writeSpecial_31 (by decide) ?_
      refine lv_lshl (v := jlshl p1.toInt64 32) hx hb dX11_writeSpecial_33 rfl ?_
      refine lv_aload_n hx hb dX11_writeSpecial_34 rfl (lv_at hl 0 rfl) ?_
      refine va_get (D := G) (ci := 11) (v := .long m_sum) (C := RX11) (T := TX11) (N := 60) hx hb hts iwX11_writeSpecial_X11 hown hK hP 0 rfl rfl 6 (by decide) (hts _ lkX11_writeSpecial_52) (fun _ h9 => h9) rfl dX11_writeSpecial_35 ?_
      refine lv_ldc2 (v := 4294967295) hx hb hown (hts _ lkX11_writeSpecial_130) dX11_writeSpecial_38 ?_
      refine lv_land hx hb dX11_writeSpecial_41 ?_
      refine lv_lor hx hb dX11_writeSpecial_42 ?_
      refine va_put (D := G) (ci := 11) (v := .long ((jlshl p1.toInt64 32) ||| (m_sum &&& 4294967295))) (ty := .long) (C := RX11) (T := TX11) (N := 60) hx hb hts iwX11_writeSpecial_X11 tyX11 tyX11_ok nmX11 hown hK hP hD hS 0 rfl rfl 6 (by decide) (hts _ lkX11_writeSpecial_52) (fun _ h9 => h9) rfl (by decide +kernel) rfl rfl (Nat.le_of_ble_eq_true rfl) dX11_writeSpecial_43 (fun H locs hP hD hS => ?_)
      have hP : va_P G vwCl [(aM, .inr (11, [.int m_thrown, .ref aMm, .ref aMr, .int m_sets, .ref aMs, .ref aMw, .long ((jlshl p1.toInt64 32) ||| (m_sum &&& 4294967295)), .int m_pc, .int m_slot, .int m_branch, .int m_target, .int m_retired, .ref aMc, .ref aMv, .int m_lines, .int m_cycles, .int m_events, .int m_exceptions, .int m_doubles, .int m_longest, .ref aMf, .int m_word, .int m_codeFault, .int m_fetched, .int m_issued, .int m_due, .int m_starts, .int m_exception, .int m_eea, .int m_register, .int m_value, .int m_flag, .int m_carry, .int m_overflow, .int m_sums, .long m_newSum, .int m_store, .int m_bytes, .int m_stored, .int m_next, .int m_goal, .int m_returns, .ref aMi, .ref aMd, .int m_lastWord, .int m_lastReadable, .int m_lastPc, .int m_lastFetched, .int m_lastStarts, .int m_lastApart, .int m_redirected, .int m_behind, .ref aMy, .int m_flagReady, .int m_carryReady, .int m_sumReady, .int m_divided, .int m_foreseen, .int m_expected, .int m_went])), (aMs, .inl (cI, 10, .inl ms)), (aMw, .inl (cI, 512, .inl mw))] H := hP
      have hD : va_D A [(aM, .inr (11, [.int m_thrown, .ref aMm, .ref aMr, .int m_sets, .ref aMs, .ref aMw, .long ((jlshl p1.toInt64 32) ||| (m_sum &&& 4294967295)), .int m_pc, .int m_slot, .int m_branch, .int m_target, .int m_retired, .ref aMc, .ref aMv, .int m_lines, .int m_cycles, .int m_events, .int m_exceptions, .int m_doubles, .int m_longest, .ref aMf, .int m_word, .int m_codeFault, .int m_fetched, .int m_issued, .int m_due, .int m_starts, .int m_exception, .int m_eea, .int m_register, .int m_value, .int m_flag, .int m_carry, .int m_overflow, .int m_sums, .long m_newSum, .int m_store, .int m_bytes, .int m_stored, .int m_next, .int m_goal, .int m_returns, .ref aMi, .ref aMd, .int m_lastWord, .int m_lastReadable, .int m_lastPc, .int m_lastFetched, .int m_lastStarts, .int m_lastApart, .int m_redirected, .int m_behind, .ref aMy, .int m_flagReady, .int m_carryReady, .int m_sumReady, .int m_divided, .int m_foreseen, .int m_expected, .int m_went])), (aMs, .inl (cI, 10, .inl ms)), (aMw, .inl (cI, 512, .inl mw))] := hD
      refine lv_goto (tgt := 161) hx hb dX11_writeSpecial_46 (by decide) ?_
      exact hret H locs _ ls ((jlshl p1.toInt64 32) ||| (m_sum &&& 4294967295), ms, mw) dX11_writeSpecial_161 ((if_neg c1).trans ((if_pos c2).trans (rfl))).symm trivial hP hD hS
  · have hs := hs.1 c1
    refine lv_aload_n hx hb dX11_writeSpecial_6 rfl (lv_at hl 0 rfl) ?_
    refine va_get (D := G) (ci := 11) (v := .ref aMs) (C := RX11) (T := TX11) (N := 60) hx hb hts iwX11_writeSpecial_X11 hown hK hP 0 rfl rfl 4 (by decide) (hts _ lkX11_writeSpecial_18) (fun _ h9 => h9) rfl dX11_writeSpecial_7 ?_
    refine lv_bipush (v := 7) hx hb dX11_writeSpecial_10 (by decide) ?_
    refine lv_dup2_11 hx hb dX11_writeSpecial_12 rfl rfl ?_
    refine va_iald hx hb hK hP 1 0 rfl rfl (by unfold vp_in; decide) dX11_writeSpecial_13 ?_
    refine k_top (y := ms 7) rfl ?_
    refine lv_iload_n hx hb dX11_writeSpecial_14 rfl (lv_at hl 2 rfl) ?_
    refine lv_iconst (v := (-1)) hx hb dX11_writeSpecial_15 (by decide) ?_
    refine lv_ixor hx hb dX11_writeSpecial_16 ?_
    refine lv_iand hx hb dX11_writeSpecial_17 ?_
    refine va_iast hx hb hK hP hD hS 1 0 rfl rfl (by unfold vp_in; decide) dX11_writeSpecial_18 (fun H locs hP hD hS => ?_)
    have hP : va_P G vwCl [(aM, .inr (11, [.int m_thrown, .ref aMm, .ref aMr, .int m_sets, .ref aMs, .ref aMw, .long m_sum, .int m_pc, .int m_slot, .int m_branch, .int m_target, .int m_retired, .ref aMc, .ref aMv, .int m_lines, .int m_cycles, .int m_events, .int m_exceptions, .int m_doubles, .int m_longest, .ref aMf, .int m_word, .int m_codeFault, .int m_fetched, .int m_issued, .int m_due, .int m_starts, .int m_exception, .int m_eea, .int m_register, .int m_value, .int m_flag, .int m_carry, .int m_overflow, .int m_sums, .long m_newSum, .int m_store, .int m_bytes, .int m_stored, .int m_next, .int m_goal, .int m_returns, .ref aMi, .ref aMd, .int m_lastWord, .int m_lastReadable, .int m_lastPc, .int m_lastFetched, .int m_lastStarts, .int m_lastApart, .int m_redirected, .int m_behind, .ref aMy, .int m_flagReady, .int m_carryReady, .int m_sumReady, .int m_divided, .int m_foreseen, .int m_expected, .int m_went])), (aMs, .inl (cI, 10, .inl (upd ms 7 ((ms 7) &&& (p1 ^^^ (-1)))))), (aMw, .inl (cI, 512, .inl mw))] H := hP
    have hD : va_D A [(aM, .inr (11, [.int m_thrown, .ref aMm, .ref aMr, .int m_sets, .ref aMs, .ref aMw, .long m_sum, .int m_pc, .int m_slot, .int m_branch, .int m_target, .int m_retired, .ref aMc, .ref aMv, .int m_lines, .int m_cycles, .int m_events, .int m_exceptions, .int m_doubles, .int m_longest, .ref aMf, .int m_word, .int m_codeFault, .int m_fetched, .int m_issued, .int m_due, .int m_starts, .int m_exception, .int m_eea, .int m_register, .int m_value, .int m_flag, .int m_carry, .int m_overflow, .int m_sums, .long m_newSum, .int m_store, .int m_bytes, .int m_stored, .int m_next, .int m_goal, .int m_returns, .ref aMi, .ref aMd, .int m_lastWord, .int m_lastReadable, .int m_lastPc, .int m_lastFetched, .int m_lastStarts, .int m_lastApart, .int m_redirected, .int m_behind, .ref aMy, .int m_flagReady, .int m_carryReady, .int m_sumReady, .int m_divided, .int m_foreseen, .int m_expected, .int m_went])), (aMs, .inl (cI, 10, .inl (upd ms 7 ((ms 7) &&& (p1 ^^^ (-1)))))), (aMw, .inl (cI, 512, .inl mw))] := hD
    refine lv_goto (tgt := 161) hx hb dX11_writeSpecial_19 (by decide) ?_
    exact hret H locs _ ls (m_sum, upd ms 7 ((ms 7) &&& (p1 ^^^ (-1))), mw) dX11_writeSpecial_161 ((if_pos c1).trans (rfl)).symm trivial hP hD hS
def fX11_isBranch (p0 : Int32) : Int32 :=
  (let z1 := fX11_op p0; if z1 < 20 then (0) else ((let z2 := fX11_op p0; if 25 < z2 then (0) else (1))))
set_option maxHeartbeats 4000000 in
set_option maxRecDepth 100000 in
theorem mX11_isBranch (l : Launch) (G : va_G) (cI cB cP : ClassId) (sz : Nat) (p0 : Int32) : kMi (S := Unit) l yX11_isBranch wsX11_isBranch ({ frames := 1, cells := 0, slots := 0, locals := 20 }) [.int p0] G (kTY cI cB cP) sz [] (fX11_isBranch p0, ()) (fun r _ => isB r) (fun _ => []) := by
  refine k_ofz (cc := cX11_isBranch) (maxL := 1) (by decide) rfl (Nat.le_of_ble_eq_true rfl) ?_
  intro p e s m args below meth c A ls Q H locs hx hb hml hown hts hin hK hP hD hA hS hl hret
  have hown : s.vm.findClass RX11 = some m.cls := hown
  have hl : lv_has ls 1 [(0, .int p0)] := hl
  refine lv_iload_n hx hb dX11_isBranch_0 rfl (lv_at hl 0 rfl) ?_
  refine k_iS (As := [.int p0]) (rest := []) ⟨hx, hb, hml, hown, hts⟩ hK hP hD hS hA (mX11_op l G cI cB cP   H.size p0 ) (va_cwS 1 hts gX11_isBranch_X11_op rfl rfl rfl (by decide +kernel) ⟨Nat.le_of_ble_eq_true rfl, Nat.le_of_ble_eq_true rfl⟩) rfl hl.1 rfl (Nat.le_of_ble_eq_true rfl) dX11_isBranch_1 ⟨Nat.le_of_ble_eq_true rfl, Nat.le_of_ble_eq_true rfl⟩ (fun z1 H locs hz1 hEz1 hP hS => ?_)
  refine lv_bipush (v := 20) hx hb dX11_isBranch_4 (by decide) ?_
  refine lv_icmp_lt (tgt := 22) hx hb dX11_isBranch_6 (by decide) (fun c1 => ?_) (fun c1 => ?_)
  · skip
    refine lv_iconst (v := 0) hx hb dX11_isBranch_22 (by decide) ?_
    exact hret H locs _ ls 0 () dX11_isBranch_23 (by clear hP hD hS hl; replace hz1 := hz1.symm; subst hz1; exact congrArg (fun x => (x, ())) (((if_pos c1).trans (rfl))).symm) (Or.inl rfl) (Or.inl rfl) hP hD hS
  · skip
    refine lv_iload_n hx hb dX11_isBranch_9 rfl (lv_at hl 0 rfl) ?_
    refine k_iS (As := [.int p0]) (rest := []) ⟨hx, hb, hml, hown, hts⟩ hK hP hD hS hA (mX11_op l G cI cB cP   H.size p0 ) (va_cwS 1 hts gX11_isBranch_X11_op rfl rfl rfl (by decide +kernel) ⟨Nat.le_of_ble_eq_true rfl, Nat.le_of_ble_eq_true rfl⟩) rfl hl.1 rfl (Nat.le_of_ble_eq_true rfl) dX11_isBranch_10 ⟨Nat.le_of_ble_eq_true rfl, Nat.le_of_ble_eq_true rfl⟩ (fun z2 H locs hz2 hEz2 hP hS => ?_)
    refine lv_bipush (v := 25) hx hb dX11_isBranch_13 (by decide) ?_
    refine lv_icmp_gt (tgt := 22) hx hb dX11_isBranch_15 (by decide) (fun c2 => ?_) (fun c2 => ?_)
    · skip
      refine lv_iconst (v := 0) hx hb dX11_isBranch_22 (by decide) ?_
      exact hret H locs _ ls 0 () dX11_isBranch_23 (by clear hP hD hS hl; replace hz2 := hz2.symm; subst hz2; replace hz1 := hz1.symm; subst hz1; exact congrArg (fun x => (x, ())) (((if_neg c1).trans ((if_pos c2).trans (rfl)))).symm) (Or.inl rfl) (Or.inl rfl) hP hD hS
    · skip
      refine lv_iconst (v := 1) hx hb dX11_isBranch_18 (by decide) ?_
      refine lv_goto (tgt := 23) hx hb dX11_isBranch_19 (by decide) ?_
      exact hret H locs _ ls 1 () dX11_isBranch_23 (by clear hP hD hS hl; replace hz2 := hz2.symm; subst hz2; replace hz1 := hz1.symm; subst hz1; exact congrArg (fun x => (x, ())) (((if_neg c1).trans ((if_neg c2).trans (rfl)))).symm) (Or.inr rfl) (Or.inr rfl) hP hD hS
def gX11_linesNow_4 (m_retired : Int32) (m_lines : Int32) (mlc : Nat → Int32) (mlv : Nat → Int32) : Nat → (Int32 × Int32) → Int32
  | 0, _ => default
  | n + 1, w1 => if m_lines ≤ w1.1 then (w1.2) else ((let j2 : Int32 := if m_retired < (mlc w1.1.toNatClampNeg) then (w1.2) else (mlv w1.1.toNatClampNeg); gX11_linesNow_4 m_retired m_lines mlc mlv n (w1.1 + 1, j2)))
def sgX11_linesNow_4 (m_retired : Int32) (m_lines : Int32) (mlc : Nat → Int32) (mlv : Nat → Int32) : Nat → (Int32 × Int32) → Prop
  | 0, _ => False
  | n + 1, w1 => (m_lines ≤ w1.1 → True) ∧ (¬ (m_lines ≤ w1.1) → ((vp_in w1.1 32) ∧ (((m_retired < (mlc w1.1.toNatClampNeg) → True) ∧ (¬ (m_retired < (mlc w1.1.toNatClampNeg)) → ((vp_in w1.1 32) ∧ True))) ∧ (∀ j2 : Int32, j2 = (if m_retired < (mlc w1.1.toNatClampNeg) then (w1.2) else (mlv w1.1.toNatClampNeg)) → (sgX11_linesNow_4 m_retired m_lines mlc mlv n (w1.1 + 1, j2))))))
def fX11_linesNow (m_retired : Int32) (m_lines : Int32) (mlc : Nat → Int32) (mlv : Nat → Int32) : Int32 :=
  gX11_linesNow_4 m_retired m_lines mlc mlv (33) (0, 0)
theorem lkX11_linesNow_24 : Cond.fieldLink RX11 24 "TwinIssueModel" "lineCounts" "[I" ∈ wsX11_linesNow := by decide +kernel
theorem lkX11_linesNow_27 : Cond.fieldLink RX11 27 "TwinIssueModel" "lineValues" "[I" ∈ wsX11_linesNow := by decide +kernel
theorem lkX11_linesNow_69 : Cond.fieldLink RX11 69 "TwinIssueModel" "retired" "I" ∈ wsX11_linesNow := by decide +kernel
theorem lkX11_linesNow_72 : Cond.fieldLink RX11 72 "TwinIssueModel" "lines" "I" ∈ wsX11_linesNow := by decide +kernel
theorem iwX11_linesNow_X11 : ∀ w ∈ wsX110, w ∈ wsX11_linesNow := fun _ h => List.mem_cons_of_mem _ (List.mem_append_right _ h)
def sX11_linesNow (m_retired : Int32) (m_lines : Int32) (mlc : Nat → Int32) (mlv : Nat → Int32) : Prop :=
  sgX11_linesNow_4 m_retired m_lines mlc mlv (33) (0, 0)
set_option maxHeartbeats 4000000 in
set_option maxRecDepth 100000 in
theorem mX11_linesNow (l : Launch) (G : va_G) (cI cB cP : ClassId) (aM aMm aMr aMs aMw aMc aMv aMf aMi aMd aMy : Nat) (m_thrown : Int32) (m_sets : Int32) (m_sum : Int64) (m_pc : Int32) (m_slot : Int32) (m_branch : Int32) (m_target : Int32) (m_retired : Int32) (m_lines : Int32) (m_cycles : Int32) (m_events : Int32) (m_exceptions : Int32) (m_doubles : Int32) (m_longest : Int32) (m_word : Int32) (m_codeFault : Int32) (m_fetched : Int32) (m_issued : Int32) (m_due : Int32) (m_starts : Int32) (m_exception : Int32) (m_eea : Int32) (m_register : Int32) (m_value : Int32) (m_flag : Int32) (m_carry : Int32) (m_overflow : Int32) (m_sums : Int32) (m_newSum : Int64) (m_store : Int32) (m_bytes : Int32) (m_stored : Int32) (m_next : Int32) (m_goal : Int32) (m_returns : Int32) (m_lastWord : Int32) (m_lastReadable : Int32) (m_lastPc : Int32) (m_lastFetched : Int32) (m_lastStarts : Int32) (m_lastApart : Int32) (m_redirected : Int32) (m_behind : Int32) (m_flagReady : Int32) (m_carryReady : Int32) (m_sumReady : Int32) (m_divided : Int32) (m_foreseen : Int32) (m_expected : Int32) (m_went : Int32) (mlc : Nat → Int32) (mlv : Nat → Int32) (sz : Nat) (hs : sX11_linesNow m_retired m_lines mlc mlv) : kMi (S := Unit) l yX11_linesNow wsX11_linesNow ({ frames := 0, cells := 0, slots := 0, locals := 0 }) [.ref aM] G (kTY cI cB cP) sz [(aM, .inr (11, [.int m_thrown, .ref aMm, .ref aMr, .int m_sets, .ref aMs, .ref aMw, .long m_sum, .int m_pc, .int m_slot, .int m_branch, .int m_target, .int m_retired, .ref aMc, .ref aMv, .int m_lines, .int m_cycles, .int m_events, .int m_exceptions, .int m_doubles, .int m_longest, .ref aMf, .int m_word, .int m_codeFault, .int m_fetched, .int m_issued, .int m_due, .int m_starts, .int m_exception, .int m_eea, .int m_register, .int m_value, .int m_flag, .int m_carry, .int m_overflow, .int m_sums, .long m_newSum, .int m_store, .int m_bytes, .int m_stored, .int m_next, .int m_goal, .int m_returns, .ref aMi, .ref aMd, .int m_lastWord, .int m_lastReadable, .int m_lastPc, .int m_lastFetched, .int m_lastStarts, .int m_lastApart, .int m_redirected, .int m_behind, .ref aMy, .int m_flagReady, .int m_carryReady, .int m_sumReady, .int m_divided, .int m_foreseen, .int m_expected, .int m_went])), (aMc, .inl (cI, 32, .inl mlc)), (aMv, .inl (cI, 32, .inl mlv))] (fX11_linesNow m_retired m_lines mlc mlv, ()) (fun _ _ => True) (fun _ => [(aM, .inr (11, [.int m_thrown, .ref aMm, .ref aMr, .int m_sets, .ref aMs, .ref aMw, .long m_sum, .int m_pc, .int m_slot, .int m_branch, .int m_target, .int m_retired, .ref aMc, .ref aMv, .int m_lines, .int m_cycles, .int m_events, .int m_exceptions, .int m_doubles, .int m_longest, .ref aMf, .int m_word, .int m_codeFault, .int m_fetched, .int m_issued, .int m_due, .int m_starts, .int m_exception, .int m_eea, .int m_register, .int m_value, .int m_flag, .int m_carry, .int m_overflow, .int m_sums, .long m_newSum, .int m_store, .int m_bytes, .int m_stored, .int m_next, .int m_goal, .int m_returns, .ref aMi, .ref aMd, .int m_lastWord, .int m_lastReadable, .int m_lastPc, .int m_lastFetched, .int m_lastStarts, .int m_lastApart, .int m_redirected, .int m_behind, .ref aMy, .int m_flagReady, .int m_carryReady, .int m_sumReady, .int m_divided, .int m_foreseen, .int m_expected, .int m_went])), (aMc, .inl (cI, 32, .inl mlc)), (aMv, .inl (cI, 32, .inl mlv))]) := by
  refine k_ofi (cc := cX11_linesNow) (maxL := 3) (by decide) rfl (Nat.le_of_ble_eq_true rfl) ?_
  intro p e s m args below meth c A ls Q H locs hx hb hml hown hts hin hK hP hD hA hS hl hret
  have hown : s.vm.findClass RX11 = some m.cls := hown
  have hl : lv_has ls 3 [(0, .ref aM)] := hl
  unfold sX11_linesNow at hs
  refine lv_iconst (v := 0) hx hb dX11_linesNow_0 (by decide) ?_
  refine lv_istore_n (lv' := [(1, .int 0), (0, .ref aM)]) hx hb dX11_linesNow_1 rfl hl (by decide) rfl (fun ls hl => ?_)
  refine lv_iconst (v := 0) hx hb dX11_linesNow_2 (by decide) ?_
  refine lv_istore_n (lv' := [(2, .int 0), (1, .int 0), (0, .ref aM)]) hx hb dX11_linesNow_3 rfl hl (by decide) rfl (fun ls hl => ?_)
  have KL4 : ∀ (n : Nat) (w1 : Int32 × Int32) (H : Heap) (locs : List Loc) (ls : Array Slot), fX11_linesNow m_retired m_lines mlc mlv = gX11_linesNow_4 m_retired m_lines mlc mlv n w1 → sgX11_linesNow_4 m_retired m_lines mlc mlv n w1 → va_P G vwCl [(aM, .inr (11, [.int m_thrown, .ref aMm, .ref aMr, .int m_sets, .ref aMs, .ref aMw, .long m_sum, .int m_pc, .int m_slot, .int m_branch, .int m_target, .int m_retired, .ref aMc, .ref aMv, .int m_lines, .int m_cycles, .int m_events, .int m_exceptions, .int m_doubles, .int m_longest, .ref aMf, .int m_word, .int m_codeFault, .int m_fetched, .int m_issued, .int m_due, .int m_starts, .int m_exception, .int m_eea, .int m_register, .int m_value, .int m_flag, .int m_carry, .int m_overflow, .int m_sums, .long m_newSum, .int m_store, .int m_bytes, .int m_stored, .int m_next, .int m_goal, .int m_returns, .ref aMi, .ref aMd, .int m_lastWord, .int m_lastReadable, .int m_lastPc, .int m_lastFetched, .int m_lastStarts, .int m_lastApart, .int m_redirected, .int m_behind, .ref aMy, .int m_flagReady, .int m_carryReady, .int m_sumReady, .int m_divided, .int m_foreseen, .int m_expected, .int m_went])), (aMc, .inl (cI, 32, .inl mlc)), (aMv, .inl (cI, 32, .inl mlv))] H → va_D A [(aM, .inr (11, [.int m_thrown, .ref aMm, .ref aMr, .int m_sets, .ref aMs, .ref aMw, .long m_sum, .int m_pc, .int m_slot, .int m_branch, .int m_target, .int m_retired, .ref aMc, .ref aMv, .int m_lines, .int m_cycles, .int m_events, .int m_exceptions, .int m_doubles, .int m_longest, .ref aMf, .int m_word, .int m_codeFault, .int m_fetched, .int m_issued, .int m_due, .int m_starts, .int m_exception, .int m_eea, .int m_register, .int m_value, .int m_flag, .int m_carry, .int m_overflow, .int m_sums, .long m_newSum, .int m_store, .int m_bytes, .int m_stored, .int m_next, .int m_goal, .int m_returns, .ref aMi, .ref aMd, .int m_lastWord, .int m_lastReadable, .int m_lastPc, .int m_lastFetched, .int m_lastStarts, .int m_lastApart, .int m_redirected, .int m_behind, .ref aMy, .int m_flagReady, .int m_carryReady, .int m_sumReady, .int m_divided, .int m_foreseen, .int m_expected, .int m_went])), (aMc, .inl (cI, 32, .inl mlc)), (aMv, .inl (cI, 32, .inl mlv))] → va_S A s.heap H locs → lv_has ls 3 [(2, .int w1.1), (1, .int w1.2), (0, .ref aM)] → W p l e ({ frames := 0, cells := 0, slots := 0, locals := 0 }) s m args below meth c H locs 0 0 Q (F0 m 4 ls []) := by
    intro n
    induction n with
    | zero => intro w1 H locs ls hF hs; exact False.elim hs
    | succ n ih =>
      intro w1 H locs ls hF hs hP hD hS hl
      have hs : (m_lines ≤ w1.1 → True) ∧ (¬ (m_lines ≤ w1.1) → ((vp_in w1.1 32) ∧ (((m_retired < (mlc w1.1.toNatClampNeg) → True) ∧ (¬ (m_retired < (mlc w1.1.toNatClampNeg)) → ((vp_in w1.1 32) ∧ True))) ∧ (∀ j2 : Int32, j2 = (if m_retired < (mlc w1.1.toNatClampNeg) then (w1.2) else (mlv w1.1.toNatClampNeg)) → (sgX11_linesNow_4 m_retired m_lines mlc mlv n (w1.1 + 1, j2)))))) := hs
      refine lv_iload_n hx hb dX11_linesNow_4 rfl (lv_at hl 0 rfl) ?_
      refine lv_aload_n hx hb dX11_linesNow_5 rfl (lv_at hl 2 rfl) ?_
      refine va_get (D := G) (ci := 11) (v := .int m_lines) (C := RX11) (T := TX11) (N := 60) hx hb hts iwX11_linesNow_X11 hown hK hP 0 rfl rfl 14 (by decide) (hts _ lkX11_linesNow_72) (fun _ h9 => h9) rfl dX11_linesNow_6 ?_
      refine lv_icmp_ge (tgt := 42) hx hb dX11_linesNow_9 (by decide) (fun c1 => ?_) (fun c1 => ?_)
      · have hs := hs.1 c1
        refine lv_iload_n hx hb dX11_linesNow_42 rfl (lv_at hl 1 rfl) ?_
        exact hret H locs _ ls w1.2 () dX11_linesNow_43 (by exact congrArg (fun x => (x, ())) (hF.trans ((if_pos c1).trans (rfl))).symm) trivial hP hD hS
      · have hs := hs.2 c1
        refine lv_aload_n hx hb dX11_linesNow_12 rfl (lv_at hl 2 rfl) ?_
        refine va_get (D := G) (ci := 11) (v := .ref aMc) (C := RX11) (T := TX11) (N := 60) hx hb hts iwX11_linesNow_X11 hown hK hP 0 rfl rfl 12 (by decide) (hts _ lkX11_linesNow_24) (fun _ h9 => h9) rfl dX11_linesNow_13 ?_
        refine lv_iload_n hx hb dX11_linesNow_16 rfl (lv_at hl 0 rfl) ?_
        obtain ⟨o1, hs⟩ := hs
        refine va_iald hx hb hK hP 1 0 rfl rfl o1 dX11_linesNow_17 ?_
        refine lv_aload_n hx hb dX11_linesNow_18 rfl (lv_at hl 2 rfl) ?_
        refine va_get (D := G) (ci := 11) (v := .int m_retired) (C := RX11) (T := TX11) (N := 60) hx hb hts iwX11_linesNow_X11 hown hK hP 0 rfl rfl 11 (by decide) (hts _ lkX11_linesNow_69) (fun _ h9 => h9) rfl dX11_linesNow_19 ?_
        have Kj2 : ∀ (j2 : Int32) (H : Heap) (locs : List Loc) (ls : Array Slot), j2 = (if m_retired < (mlc w1.1.toNatClampNeg) then (w1.2) else (mlv w1.1.toNatClampNeg)) → va_P G vwCl [(aM, .inr (11, [.int m_thrown, .ref aMm, .ref aMr, .int m_sets, .ref aMs, .ref aMw, .long m_sum, .int m_pc, .int m_slot, .int m_branch, .int m_target, .int m_retired, .ref aMc, .ref aMv, .int m_lines, .int m_cycles, .int m_events, .int m_exceptions, .int m_doubles, .int m_longest, .ref aMf, .int m_word, .int m_codeFault, .int m_fetched, .int m_issued, .int m_due, .int m_starts, .int m_exception, .int m_eea, .int m_register, .int m_value, .int m_flag, .int m_carry, .int m_overflow, .int m_sums, .long m_newSum, .int m_store, .int m_bytes, .int m_stored, .int m_next, .int m_goal, .int m_returns, .ref aMi, .ref aMd, .int m_lastWord, .int m_lastReadable, .int m_lastPc, .int m_lastFetched, .int m_lastStarts, .int m_lastApart, .int m_redirected, .int m_behind, .ref aMy, .int m_flagReady, .int m_carryReady, .int m_sumReady, .int m_divided, .int m_foreseen, .int m_expected, .int m_went])), (aMc, .inl (cI, 32, .inl mlc)), (aMv, .inl (cI, 32, .inl mlv))] H → va_D A [(aM, .inr (11, [.int m_thrown, .ref aMm, .ref aMr, .int m_sets, .ref aMs, .ref aMw, .long m_sum, .int m_pc, .int m_slot, .int m_branch, .int m_target, .int m_retired, .ref aMc, .ref aMv, .int m_lines, .int m_cycles, .int m_events, .int m_exceptions, .int m_doubles, .int m_longest, .ref aMf, .int m_word, .int m_codeFault, .int m_fetched, .int m_issued, .int m_due, .int m_starts, .int m_exception, .int m_eea, .int m_register, .int m_value, .int m_flag, .int m_carry, .int m_overflow, .int m_sums, .long m_newSum, .int m_store, .int m_bytes, .int m_stored, .int m_next, .int m_goal, .int m_returns, .ref aMi, .ref aMd, .int m_lastWord, .int m_lastReadable, .int m_lastPc, .int m_lastFetched, .int m_lastStarts, .int m_lastApart, .int m_redirected, .int m_behind, .ref aMy, .int m_flagReady, .int m_carryReady, .int m_sumReady, .int m_divided, .int m_foreseen, .int m_expected, .int m_went])), (aMc, .inl (cI, 32, .inl mlc)), (aMv, .inl (cI, 32, .inl mlv))] → va_S A s.heap H locs → lv_has ls 3 [(2, .int w1.1), (1, .int w1.2), (0, .ref aM)] → W p l e ({ frames := 0, cells := 0, slots := 0, locals := 0 }) s m args below meth c H locs 0 0 Q (F0 m 35 ls [.int j2]) := by
          intro j2 H locs ls hj2 hP hD hS hl
          have hs := hs.2 j2 hj2
          refine lv_istore_n (lv' := [(1, .int j2), (2, .int w1.1), (0, .ref aM)]) hx hb dX11_linesNow_35 rfl hl (by decide) rfl (fun ls hl => ?_)
          refine lv_iinc (v := w1.1 + 1) (lv' := [(2, .int (w1.1 + 1)), (1, .int j2), (0, .ref aM)]) hx hb dX11_linesNow_36 hl (k := 1) rfl rfl (by decide) rfl (fun ls hl => ?_)
          refine lv_goto (tgt := 4) hx hb dX11_linesNow_39 (by decide) ?_
          exact ih (w1.1 + 1, j2) H locs ls (by clear hP hD hS hl; replace hj2 := hj2.symm; subst hj2; exact (hF.trans ((if_neg c1).trans (rfl)))) hs hP hD hS (lv_sub hl [0, 1, 2] rfl)
        have hs := hs.1
        refine lv_icmp_gt (tgt := 34) hx hb dX11_linesNow_22 (by decide) (fun c4 => ?_) (fun c4 => ?_)
        · have hs := hs.1 c4
          refine lv_iload_n hx hb dX11_linesNow_34 rfl (lv_at hl 1 rfl) ?_
          exact Kj2 w1.2 H locs ls ((if_pos c4).trans (rfl)).symm  hP hD hS (lv_sub hl [0, 1, 2] rfl)
        · have hs := hs.2 c4
          refine lv_aload_n hx hb dX11_linesNow_25 rfl (lv_at hl 2 rfl) ?_
          refine va_get (D := G) (ci := 11) (v := .ref aMv) (C := RX11) (T := TX11) (N := 60) hx hb hts iwX11_linesNow_X11 hown hK hP 0 rfl rfl 13 (by decide) (hts _ lkX11_linesNow_27) (fun _ h9 => h9) rfl dX11_linesNow_26 ?_
          refine lv_iload_n hx hb dX11_linesNow_29 rfl (lv_at hl 0 rfl) ?_
          obtain ⟨o4, hs⟩ := hs
          refine va_iald hx hb hK hP 2 0 rfl rfl o4 dX11_linesNow_30 ?_
          refine lv_goto (tgt := 35) hx hb dX11_linesNow_31 (by decide) ?_
          exact Kj2 (mlv w1.1.toNatClampNeg) H locs ls ((if_neg c4).trans (rfl)).symm  hP hD hS (lv_sub hl [0, 1, 2] rfl)
  exact KL4 (33) (0, 0) H locs ls (by (first | exact rfl | (delta fX11_linesNow; exact rfl) | (unfold fX11_linesNow; dsimp only) | (unfold fX11_linesNow; simp only []))) hs hP hD hS hl

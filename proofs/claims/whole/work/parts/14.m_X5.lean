def fX5_reset (wo : Nat → Int32) : (Nat → Int32) :=
  (let z1 := fJ7_fill_53178 wo 512 0; z1)
theorem lkX5_reset_11 : Cond.fieldLink RX5 11 "TwinIssue$Maps" "words" "[I" ∈ wsX5_reset := by decide +kernel
theorem iwX5_reset_X5 : ∀ w ∈ wsX50, w ∈ wsX5_reset := fun _ h => List.mem_cons_of_mem _ (List.mem_append_right _ h)
def sX5_reset (wo : Nat → Int32) : Prop :=
  (sJ7_fill_53178 wo 512 0) ∧ ((∀ z1, z1 = fJ7_fill_53178 wo 512 0 → True))
set_option maxHeartbeats 4000000 in
set_option maxRecDepth 100000 in
theorem mX5_reset (l : Launch) (G : va_G) (cI cB cP : ClassId) (aMp aWo : Nat) (mp_sets : Int32) (wo : Nat → Int32) (sz : Nat) (hs : sX5_reset wo) : kMv (S := (Nat → Int32)) l yX5_reset wsX5_reset ({ frames := 1, cells := 0, slots := 0, locals := 23 }) [.ref aMp] G (kTY cI cB cP) sz [(aMp, .inr (5, [.ref aWo, .int mp_sets])), (aWo, .inl (cI, 512, .inl wo))] (fX5_reset wo) (fun _ => True) (fun u => [(aMp, .inr (5, [.ref aWo, .int mp_sets])), (aWo, .inl (cI, 512, .inl u))]) := by
  refine k_ofv (cc := cX5_reset) (maxL := 1) (by decide) rfl (Nat.le_of_ble_eq_true rfl) ?_
  intro p e s m args below meth c A ls Q H locs hx hb hml hown hts hin hK hP hD hA hS hl hret
  have hown : s.vm.findClass RX5 = some m.cls := hown
  have hl : lv_has ls 1 [(0, .ref aMp)] := hl
  unfold sX5_reset at hs
  refine lv_aload_n hx hb dX5_reset_0 rfl (lv_at hl 0 rfl) ?_
  refine va_get (D := G) (ci := 5) (v := .ref aWo) (C := RX5) (T := TX5) (N := 2) hx hb hts iwX5_reset_X5 hown hK hP 0 rfl rfl 0 (by decide) (hts _ lkX5_reset_11) (fun _ h9 => h9) rfl dX5_reset_1 ?_
  refine lv_iconst (v := 0) hx hb dX5_reset_4 (by decide) ?_
  obtain ⟨o1, hs⟩ := hs
  refine k_vSC (As := [.ref aWo, .int 0]) (rest := []) (wc := [(aWo, .inl (cI, 512, .inl wo))]) (wr := [(aMp, .inr (5, [.ref aWo, .int mp_sets]))]) ⟨hx, hb, hml, hown, hts⟩ hK hP hD hS hA [1] [0] rfl rfl rfl rfl (by decide) (mJ7_fill_53178 l G cI cB cP aWo wo 512 H.size 0 o1) (va_cwS 2 hts gX5_reset_J7_fill_53178 rfl rfl rfl (by decide +kernel) ⟨Nat.le_of_ble_eq_true rfl, Nat.le_of_ble_eq_true rfl⟩) rfl hl.1 rfl (Nat.le_of_ble_eq_true rfl) dX5_reset_5 ⟨Nat.le_of_ble_eq_true rfl, Nat.le_of_ble_eq_true rfl⟩ (fun z1 H locs hz1 hEz1 hP hD hS => ?_)
  have hs := hs z1 hz1
  have hP : va_P G vwCl [(aMp, .inr (5, [.ref aWo, .int mp_sets])), (aWo, .inl (cI, 512, .inl z1))] H := hP
  have hD : va_D A [(aMp, .inr (5, [.ref aWo, .int mp_sets])), (aWo, .inl (cI, 512, .inl z1))] := hD
  exact hret H locs _ ls z1 dX5_reset_8 (by clear hP hD hS hl; replace hz1 := hz1.symm; subst hz1; (first | exact rfl | (delta fX5_reset; exact rfl) | (unfold fX5_reset; dsimp only) | (unfold fX5_reset; simp only []))) trivial hP hD hS
def fX5_setOf (mp_sets : Int32) (p0 : Int32) : Int32 :=
  (jushr p0 10) &&& (mp_sets - 1)
theorem lkX5_setOf_15 : Cond.fieldLink RX5 15 "TwinIssue$Maps" "sets" "I" ∈ wsX5_setOf := by decide +kernel
theorem iwX5_setOf_X5 : ∀ w ∈ wsX50, w ∈ wsX5_setOf := fun _ h => List.mem_cons_of_mem _ (List.mem_append_right _ h)
set_option maxHeartbeats 4000000 in
set_option maxRecDepth 100000 in
theorem mX5_setOf (l : Launch) (G : va_G) (cI cB cP : ClassId) (aMp aWo : Nat) (mp_sets : Int32) (sz : Nat) (p0 : Int32) : kMi (S := Unit) l yX5_setOf wsX5_setOf ({ frames := 0, cells := 0, slots := 0, locals := 0 }) [.ref aMp, .int p0] G (kTY cI cB cP) sz [(aMp, .inr (5, [.ref aWo, .int mp_sets]))] (fX5_setOf mp_sets p0, ()) (fun _ _ => True) (fun _ => [(aMp, .inr (5, [.ref aWo, .int mp_sets]))]) := by
  refine k_ofi (cc := cX5_setOf) (maxL := 2) (by decide) rfl (Nat.le_of_ble_eq_true rfl) ?_
  intro p e s m args below meth c A ls Q H locs hx hb hml hown hts hin hK hP hD hA hS hl hret
  have hown : s.vm.findClass RX5 = some m.cls := hown
  have hl : lv_has ls 2 [(0, .ref aMp), (1, .int p0)] := hl
  refine lv_iload_n hx hb dX5_setOf_0 rfl (lv_at hl 1 rfl) ?_
  refine lv_bipush (v := 10) hx hb dX5_setOf_1 (by decide) ?_
  refine lv_iushr (v := jushr p0 10) hx hb dX5_setOf_3 rfl ?_
  refine lv_aload_n hx hb dX5_setOf_4 rfl (lv_at hl 0 rfl) ?_
  refine va_get (D := G) (ci := 5) (v := .int mp_sets) (C := RX5) (T := TX5) (N := 2) hx hb hts iwX5_setOf_X5 hown hK hP 0 rfl rfl 1 (by decide) (hts _ lkX5_setOf_15) (fun _ h9 => h9) rfl dX5_setOf_5 ?_
  refine lv_iconst (v := 1) hx hb dX5_setOf_8 (by decide) ?_
  refine lv_isub hx hb dX5_setOf_9 ?_
  refine lv_iand hx hb dX5_setOf_10 ?_
  exact hret H locs _ ls ((jushr p0 10) &&& (mp_sets - 1)) () dX5_setOf_11 (by (first | exact rfl | (delta fX5_setOf; exact rfl) | (unfold fX5_setOf; dsimp only) | (unfold fX5_setOf; simp only []))) trivial hP hD hS
def fX5_matches (p0 : Int32) (p1 : Int32) : Int32 :=
  if (p0 &&& 1) = 0 then (0) else (if (jushr p0 10) = (jushr p1 10) then (1) else (0))
set_option maxHeartbeats 4000000 in
set_option maxRecDepth 100000 in
theorem mX5_matches (l : Launch) (G : va_G) (cI cB cP : ClassId) (sz : Nat) (p0 : Int32) (p1 : Int32) : kMi (S := Unit) l yX5_matches wsX5_matches ({ frames := 0, cells := 0, slots := 0, locals := 0 }) [.int p0, .int p1] G (kTY cI cB cP) sz [] (fX5_matches p0 p1, ()) (fun r _ => isB r) (fun _ => []) := by
  refine k_ofz (cc := cX5_matches) (maxL := 2) (by decide) rfl (Nat.le_of_ble_eq_true rfl) ?_
  intro p e s m args below meth c A ls Q H locs hx hb hml hown hts hin hK hP hD hA hS hl hret
  have hown : s.vm.findClass RX5 = some m.cls := hown
  have hl : lv_has ls 2 [(0, .int p0), (1, .int p1)] := hl
  refine lv_iload_n hx hb dX5_matches_0 rfl (lv_at hl 0 rfl) ?_
  refine lv_iconst (v := 1) hx hb dX5_matches_1 (by decide) ?_
  refine lv_iand hx hb dX5_matches_2 ?_
  refine lv_if_eq (tgt := 21) hx hb dX5_matches_3 (by decide) (fun c1 => ?_) (fun c1 => ?_)
  · skip
    refine lv_iconst (v := 0) hx hb dX5_matches_21 (by decide) ?_
    exact hret H locs _ ls 0 () dX5_matches_22 (by exact congrArg (fun x => (x, ())) (((if_pos c1).trans (rfl))).symm) (Or.inl rfl) (Or.inl rfl) hP hD hS
  · skip
    refine lv_iload_n hx hb dX5_matches_6 rfl (lv_at hl 0 rfl) ?_
    refine lv_bipush (v := 10) hx hb dX5_matches_7 (by decide) ?_
    refine lv_iushr (v := jushr p0 10) hx hb dX5_matches_9 rfl ?_
    refine lv_iload_n hx hb dX5_matches_10 rfl (lv_at hl 1 rfl) ?_
    refine lv_bipush (v := 10) hx hb dX5_matches_11 (by decide) ?_
    refine lv_iushr (v := jushr p1 10) hx hb dX5_matches_13 rfl ?_
    refine lv_icmp_ne (tgt := 21) hx hb dX5_matches_14 (by decide) (fun c2 => ?_) (fun c2 => ?_)
    · skip
      refine lv_iconst (v := 0) hx hb dX5_matches_21 (by decide) ?_
      exact hret H locs _ ls 0 () dX5_matches_22 (by exact congrArg (fun x => (x, ())) (((if_neg c1).trans ((if_neg c2).trans (rfl)))).symm) (Or.inl rfl) (Or.inl rfl) hP hD hS
    · skip
      refine lv_iconst (v := 1) hx hb dX5_matches_17 (by decide) ?_
      refine lv_goto (tgt := 22) hx hb dX5_matches_18 (by decide) ?_
      exact hret H locs _ ls 1 () dX5_matches_22 (by exact congrArg (fun x => (x, ())) (((if_neg c1).trans ((if_pos c2).trans (rfl)))).symm) (Or.inr rfl) (Or.inr rfl) hP hD hS
def fX5_join (p0 : Int32) (p1 : Int32) : Int32 :=
  (p0 &&& (-1024)) ||| (p1 &&& 1023)
set_option maxHeartbeats 4000000 in
set_option maxRecDepth 100000 in
theorem mX5_join (l : Launch) (G : va_G) (cI cB cP : ClassId) (sz : Nat) (p0 : Int32) (p1 : Int32) : kMi (S := Unit) l yX5_join wsX5_join ({ frames := 0, cells := 0, slots := 0, locals := 0 }) [.int p0, .int p1] G (kTY cI cB cP) sz [] (fX5_join p0 p1, ()) (fun _ _ => True) (fun _ => []) := by
  refine k_ofi (cc := cX5_join) (maxL := 2) (by decide) rfl (Nat.le_of_ble_eq_true rfl) ?_
  intro p e s m args below meth c A ls Q H locs hx hb hml hown hts hin hK hP hD hA hS hl hret
  have hown : s.vm.findClass RX5 = some m.cls := hown
  have hl : lv_has ls 2 [(0, .int p0), (1, .int p1)] := hl
  refine lv_iload_n hx hb dX5_join_0 rfl (lv_at hl 0 rfl) ?_
  refine lv_sipush (v := (-1024)) hx hb dX5_join_1 (by decide) ?_
  refine lv_iand hx hb dX5_join_4 ?_
  refine lv_iload_n hx hb dX5_join_5 rfl (lv_at hl 1 rfl) ?_
  refine lv_sipush (v := 1023) hx hb dX5_join_6 (by decide) ?_
  refine lv_iand hx hb dX5_join_9 ?_
  refine lv_ior hx hb dX5_join_10 ?_
  exact hret H locs _ ls ((p0 &&& (-1024)) ||| (p1 &&& 1023)) () dX5_join_11 (by (first | exact rfl | (delta fX5_join; exact rfl) | (unfold fX5_join; dsimp only) | (unfold fX5_join; simp only []))) trivial hP hD hS
def fX5_codePlace (mp_sets : Int32) (wo : Nat → Int32) (p0 : Int32) (p1 : Int32) : Int32 :=
  if (p0 &&& 3) = 0 then (if (p1 &&& 16) = 0 then (if p0 < 0 then ((-2)) else (if p0 < 32768 then (p0) else ((-2)))) else ((let z1 := (fX5_setOf mp_sets p0, ()); (let z2 := fX5_matches (wo (0 + z1.1).toNatClampNeg) p0; if z2 = 0 then ((-10)) else ((let j3 : Int32 := if (p1 &&& 1) = 0 then (1) else (4); if ((wo (128 + z1.1).toNatClampNeg) &&& j3) = 0 then ((-4)) else ((let z4 := fX5_join (wo (128 + z1.1).toNatClampNeg) p0; if z4 < 0 then ((-2)) else (if z4 < 32768 then (z4) else ((-2))))))))))) else ((-6))
theorem lkX5_codePlace_11 : Cond.fieldLink RX5 11 "TwinIssue$Maps" "words" "[I" ∈ wsX5_codePlace := by decide +kernel
theorem lkX5_codePlace_41 : Cond.constant RX5 41 (32768) ∈ wsX5_codePlace := by decide +kernel
theorem iwX5_codePlace_X5 : ∀ w ∈ wsX50, w ∈ wsX5_codePlace := fun _ h => List.mem_cons_of_mem _ (List.mem_append_right _ h)
def sX5_codePlace (mp_sets : Int32) (wo : Nat → Int32) (p0 : Int32) (p1 : Int32) : Prop :=
  ((p0 &&& 3) = 0 → (((p1 &&& 16) = 0 → ((p0 < 0 → True) ∧ (¬ (p0 < 0) → ((p0 < 32768 → True) ∧ (¬ (p0 < 32768) → True))))) ∧ (¬ ((p1 &&& 16) = 0) → ((∀ z1, z1 = (fX5_setOf mp_sets p0, ()) → ((vp_in (128 + z1.1) 512) ∧ ((vp_in (0 + z1.1) 512) ∧ ((∀ z2, z2 = fX5_matches (wo (0 + z1.1).toNatClampNeg) p0 → ((z2 = 0 → True) ∧ (¬ (z2 = 0) → ((((p1 &&& 1) = 0 → True) ∧ (¬ ((p1 &&& 1) = 0) → True)) ∧ (∀ j3 : Int32, j3 = (if (p1 &&& 1) = 0 then (1) else (4)) → ((((wo (128 + z1.1).toNatClampNeg) &&& j3) = 0 → True) ∧ (¬ (((wo (128 + z1.1).toNatClampNeg) &&& j3) = 0) → ((∀ z4, z4 = fX5_join (wo (128 + z1.1).toNatClampNeg) p0 → ((z4 < 0 → True) ∧ (¬ (z4 < 0) → ((z4 < 32768 → True) ∧ (¬ (z4 < 32768) → True))))))))))))))))))))) ∧ (¬ ((p0 &&& 3) = 0) → True)
set_option maxHeartbeats 4000000 in
set_option maxRecDepth 100000 in
theorem mX5_codePlace (l : Launch) (G : va_G) (cI cB cP : ClassId) (aMp aWo : Nat) (mp_sets : Int32) (wo : Nat → Int32) (sz : Nat) (p0 : Int32) (p1 : Int32) (hs : sX5_codePlace mp_sets wo p0 p1) : kMi (S := Unit) l yX5_codePlace wsX5_codePlace ({ frames := 1, cells := 0, slots := 0, locals := 21 }) [.ref aMp, .int p0, .int p1] G (kTY cI cB cP) sz [(aMp, .inr (5, [.ref aWo, .int mp_sets])), (aWo, .inl (cI, 512, .inl wo))] (fX5_codePlace mp_sets wo p0 p1, ()) (fun _ _ => True) (fun _ => [(aMp, .inr (5, [.ref aWo, .int mp_sets])), (aWo, .inl (cI, 512, .inl wo))]) := by
  refine k_ofi (cc := cX5_codePlace) (maxL := 6) (by decide) rfl (Nat.le_of_ble_eq_true rfl) ?_
  intro p e s m args below meth c A ls Q H locs hx hb hml hown hts hin hK hP hD hA hS hl hret
  have hown : s.vm.findClass RX5 = some m.cls := hown
  have hl : lv_has ls 6 [(0, .ref aMp), (1, .int p0), (2, .int p1)] := hl
  unfold sX5_codePlace at hs
  refine lv_iload_n hx hb dX5_codePlace_0 rfl (lv_at hl 1 rfl) ?_
  refine lv_iconst (v := 3) hx hb dX5_codePlace_1 (by decide) ?_
  refine lv_iand hx hb dX5_codePlace_2 ?_
  refine lv_if_eq (tgt := 9) hx hb dX5_codePlace_3 (by decide) (fun c1 => ?_) (fun c1 => ?_)
  · have hs := hs.1 c1
    refine lv_iload_n hx hb dX5_codePlace_9 rfl (lv_at hl 1 rfl) ?_
    refine lv_istore_n (lv' := [(3, .int p0), (0, .ref aMp), (1, .int p0), (2, .int p1)]) hx hb dX5_codePlace_10 rfl hl (by decide) rfl (fun ls hl => ?_)
    refine lv_iload_n hx hb dX5_codePlace_11 rfl (lv_at hl 3 rfl) ?_
    refine lv_bipush (v := 16) hx hb dX5_codePlace_12 (by decide) ?_
    refine lv_iand hx hb dX5_codePlace_14 ?_
    refine lv_if_eq (tgt := 84) hx hb dX5_codePlace_15 (by decide) (fun c2 => ?_) (fun c2 => ?_)
    · have hs := hs.1 c2
      refine lv_iload_n hx hb dX5_codePlace_84 rfl (lv_at hl 0 rfl) ?_
      refine lv_if_lt (tgt := 94) hx hb dX5_codePlace_85 (by decide) (fun c3 => ?_) (fun c3 => ?_)
      · have hs := hs.1 c3
        refine lv_bipush (v := (-2)) hx hb dX5_codePlace_94 (by decide) ?_
        refine lv_goto (tgt := 100) hx hb dX5_codePlace_96 (by decide) ?_
        exact hret H locs _ ls (-2) () dX5_codePlace_100 (by exact congrArg (fun x => (x, ())) (((if_pos c1).trans ((if_pos c2).trans ((if_pos c3).trans (rfl))))).symm) trivial hP hD hS
      · have hs := hs.2 c3
        refine lv_iload_n hx hb dX5_codePlace_88 rfl (lv_at hl 0 rfl) ?_
        refine lv_ldc (v := 32768) hx hb hown (hts _ lkX5_codePlace_41) dX5_codePlace_89 ?_
        refine lv_icmp_lt (tgt := 99) hx hb dX5_codePlace_91 (by decide) (fun c4 => ?_) (fun c4 => ?_)
        · have hs := hs.1 c4
          refine lv_iload_n hx hb dX5_codePlace_99 rfl (lv_at hl 0 rfl) ?_
          exact hret H locs _ ls p0 () dX5_codePlace_100 (by exact congrArg (fun x => (x, ())) (((if_pos c1).trans ((if_pos c2).trans ((if_neg c3).trans ((if_pos c4).trans (rfl)))))).symm) trivial hP hD hS
        · have hs := hs.2 c4
          refine lv_bipush (v := (-2)) hx hb dX5_codePlace_94 (by decide) ?_
          refine lv_goto (tgt := 100) hx hb dX5_codePlace_96 (by decide) ?_
          exact hret H locs _ ls (-2) () dX5_codePlace_100 (by exact congrArg (fun x => (x, ())) (((if_pos c1).trans ((if_pos c2).trans ((if_neg c3).trans ((if_neg c4).trans (rfl)))))).symm) trivial hP hD hS
    · have hs := hs.2 c2
      refine lv_aload_n hx hb dX5_codePlace_18 rfl (lv_at hl 1 rfl) ?_
      refine lv_iload_n hx hb dX5_codePlace_19 rfl (lv_at hl 2 rfl) ?_
      refine k_iV (As := [.int p0]) (rest := []) (wc := [(aMp, .inr (5, [.ref aWo, .int mp_sets]))]) (wr := [(aWo, .inl (cI, 512, .inl wo))]) ⟨hx, hb, hml, hown, hts⟩ hK hP hD hS hA [0] [1] rfl rfl rfl rfl (by decide) (mX5_setOf l G cI cB cP aMp aWo mp_sets H.size p0 ) (cwV 1 hts gX5_codePlace_X5_setOf rfl rfl rfl (by decide +kernel) ⟨Nat.le_of_ble_eq_true rfl, Nat.le_of_ble_eq_true rfl⟩) 0 5 rfl rfl rfl rfl hl.1 rfl (Nat.le_of_ble_eq_true rfl) dX5_codePlace_20 ⟨Nat.le_of_ble_eq_true rfl, Nat.le_of_ble_eq_true rfl⟩ (fun z1 H locs hz1 hEz1 hP hD hS => ?_)
      have hs := hs z1 hz1
      have hP : va_P G vwCl [(aWo, .inl (cI, 512, .inl wo)), (aMp, .inr (5, [.ref aWo, .int mp_sets]))] H := hP
      have hD : va_D A [(aWo, .inl (cI, 512, .inl wo)), (aMp, .inr (5, [.ref aWo, .int mp_sets]))] := hD
      refine lv_istore (lv' := [(4, .int z1.1), (3, .int p0), (0, .ref aMp), (1, .int p0), (2, .int p1)]) hx hb dX5_codePlace_23 hl (by decide) rfl (fun ls hl => ?_)
      refine lv_aload_n hx hb dX5_codePlace_25 rfl (lv_at hl 2 rfl) ?_
      refine va_get (D := G) (ci := 5) (v := .ref aWo) (C := RX5) (T := TX5) (N := 2) hx hb hts iwX5_codePlace_X5 hown hK hP 1 rfl rfl 0 (by decide) (hts _ lkX5_codePlace_11) (fun _ h9 => h9) rfl dX5_codePlace_26 ?_
      refine lv_sipush (v := 128) hx hb dX5_codePlace_29 (by decide) ?_
      refine lv_iload hx hb dX5_codePlace_32 (lv_at hl 0 rfl) ?_
      refine lv_iadd hx hb dX5_codePlace_34 ?_
      obtain ⟨o1, hs⟩ := hs
      refine va_iald hx hb hK hP 0 0 rfl rfl o1 dX5_codePlace_35 ?_
      refine lv_istore (lv' := [(5, .int (wo (128 + z1.1).toNatClampNeg)), (4, .int z1.1), (3, .int p0), (0, .ref aMp), (1, .int p0), (2, .int p1)]) hx hb dX5_codePlace_36 hl (by decide) rfl (fun ls hl => ?_)
      refine lv_aload_n hx hb dX5_codePlace_38 rfl (lv_at hl 3 rfl) ?_
      refine va_get (D := G) (ci := 5) (v := .ref aWo) (C := RX5) (T := TX5) (N := 2) hx hb hts iwX5_codePlace_X5 hown hK hP 1 rfl rfl 0 (by decide) (hts _ lkX5_codePlace_11) (fun _ h9 => h9) rfl dX5_codePlace_39 ?_
      refine lv_iconst (v := 0) hx hb dX5_codePlace_42 (by decide) ?_
      refine lv_iload hx hb dX5_codePlace_43 (lv_at hl 1 rfl) ?_
      refine lv_iadd hx hb dX5_codePlace_45 ?_
      obtain ⟨o2, hs⟩ := hs
      refine va_iald hx hb hK hP 0 0 rfl rfl o2 dX5_codePlace_46 ?_
      refine lv_iload_n hx hb dX5_codePlace_47 rfl (lv_at hl 4 rfl) ?_
      refine k_iS (As := [.int (wo (0 + z1.1).toNatClampNeg), .int p0]) (rest := []) ⟨hx, hb, hml, hown, hts⟩ hK hP hD hS hA (mX5_matches l G cI cB cP   H.size (wo (0 + z1.1).toNatClampNeg) p0 ) (va_cwS 2 hts gX5_codePlace_X5_matches rfl rfl rfl (by decide +kernel) ⟨Nat.le_of_ble_eq_true rfl, Nat.le_of_ble_eq_true rfl⟩) rfl hl.1 rfl (Nat.le_of_ble_eq_true rfl) dX5_codePlace_48 ⟨Nat.le_of_ble_eq_true rfl, Nat.le_of_ble_eq_true rfl⟩ (fun z2 H locs hz2 hEz2 hP hS => ?_)
      have hs := hs z2 hz2
      refine lv_if_ne (tgt := 57) hx hb dX5_codePlace_51 (by decide) (fun c5 => ?_) (fun c5 => ?_)
      · have hs := hs.2 c5
        refine lv_iload hx hb dX5_codePlace_57 (lv_at hl 0 rfl) ?_
        refine lv_iload_n hx hb dX5_codePlace_59 rfl (lv_at hl 5 rfl) ?_
        refine lv_iconst (v := 1) hx hb dX5_codePlace_60 (by decide) ?_
        refine lv_iand hx hb dX5_codePlace_61 ?_
        have Kj3 : ∀ (j3 : Int32) (H : Heap) (locs : List Loc) (ls : Array Slot), j3 = (if (p1 &&& 1) = 0 then (1) else (4)) → va_P G vwCl [(aWo, .inl (cI, 512, .inl wo)), (aMp, .inr (5, [.ref aWo, .int mp_sets]))] H → va_D A [(aWo, .inl (cI, 512, .inl wo)), (aMp, .inr (5, [.ref aWo, .int mp_sets]))] → va_S A s.heap H locs → lv_has ls 6 [(5, .int (wo (128 + z1.1).toNatClampNeg)), (4, .int z1.1), (3, .int p0), (0, .ref aMp), (1, .int p0), (2, .int p1)] → W p l e ({ frames := 1, cells := 0, slots := 0, locals := 21 }) s m args below meth c H locs 0 0 Q (F0 m 70 ls [.int j3, .int (wo (128 + z1.1).toNatClampNeg)]) := by
          intro j3 H locs ls hj3 hP hD hS hl
          have hs := hs.2 j3 hj3
          refine lv_iand hx hb dX5_codePlace_70 ?_
          refine lv_if_ne (tgt := 77) hx hb dX5_codePlace_71 (by decide) (fun c8 => ?_) (fun c8 => ?_)
          · have hs := hs.2 c8
            refine lv_iload hx hb dX5_codePlace_77 (lv_at hl 0 rfl) ?_
            refine lv_iload_n hx hb dX5_codePlace_79 rfl (lv_at hl 4 rfl) ?_
            refine k_iS (As := [.int (wo (128 + z1.1).toNatClampNeg), .int p0]) (rest := []) ⟨hx, hb, hml, hown, hts⟩ hK hP hD hS hA (mX5_join l G cI cB cP   H.size (wo (128 + z1.1).toNatClampNeg) p0 ) (va_cwS 2 hts gX5_codePlace_X5_join rfl rfl rfl (by decide +kernel) ⟨Nat.le_of_ble_eq_true rfl, Nat.le_of_ble_eq_true rfl⟩) rfl hl.1 rfl (Nat.le_of_ble_eq_true rfl) dX5_codePlace_80 ⟨Nat.le_of_ble_eq_true rfl, Nat.le_of_ble_eq_true rfl⟩ (fun z4 H locs hz4 hEz4 hP hS => ?_)
            have hs := hs z4 hz4
            refine lv_istore_n (lv' := [(3, .int z4), (5, .int (wo (128 + z1.1).toNatClampNeg)), (4, .int z1.1), (0, .ref aMp), (1, .int p0), (2, .int p1)]) hx hb dX5_codePlace_83 rfl hl (by decide) rfl (fun ls hl => ?_)
            refine lv_iload_n hx hb dX5_codePlace_84 rfl (lv_at hl 0 rfl) ?_
            refine lv_if_lt (tgt := 94) hx hb dX5_codePlace_85 (by decide) (fun c9 => ?_) (fun c9 => ?_)
            · have hs := hs.1 c9
              refine lv_bipush (v := (-2)) hx hb dX5_codePlace_94 (by decide) ?_
              refine lv_goto (tgt := 100) hx hb dX5_codePlace_96 (by decide) ?_
              have hP := hP.sub (ws' := [(aMp, .inr (5, [.ref aWo, .int mp_sets])), (aWo, .inl (cI, 512, .inl wo))]) [1, 0] rfl
              have hD := hD.sub (ws' := [(aMp, .inr (5, [.ref aWo, .int mp_sets])), (aWo, .inl (cI, 512, .inl wo))]) [1, 0] (by decide) rfl
              exact hret H locs _ ls (-2) () dX5_codePlace_100 (by clear hP hD hS hl; replace hz4 := hz4.symm; subst hz4; replace hj3 := hj3.symm; subst hj3; replace hz2 := hz2.symm; subst hz2; replace hz1 := hz1.symm; subst hz1; exact congrArg (fun x => (x, ())) (((if_pos c1).trans ((if_neg c2).trans ((if_neg c5).trans ((if_neg c8).trans ((if_pos c9).trans (rfl))))))).symm) trivial hP hD hS
            · have hs := hs.2 c9
              refine lv_iload_n hx hb dX5_codePlace_88 rfl (lv_at hl 0 rfl) ?_
              refine lv_ldc (v := 32768) hx hb hown (hts _ lkX5_codePlace_41) dX5_codePlace_89 ?_
              refine lv_icmp_lt (tgt := 99) hx hb dX5_codePlace_91 (by decide) (fun c10 => ?_) (fun c10 => ?_)
              · have hs := hs.1 c10
                refine lv_iload_n hx hb dX5_codePlace_99 rfl (lv_at hl 0 rfl) ?_
                have hP := hP.sub (ws' := [(aMp, .inr (5, [.ref aWo, .int mp_sets])), (aWo, .inl (cI, 512, .inl wo))]) [1, 0] rfl
                have hD := hD.sub (ws' := [(aMp, .inr (5, [.ref aWo, .int mp_sets])), (aWo, .inl (cI, 512, .inl wo))]) [1, 0] (by decide) rfl
                exact hret H locs _ ls z4 () dX5_codePlace_100 (by clear hP hD hS hl; replace hz4 := hz4.symm; subst hz4; replace hj3 := hj3.symm; subst hj3; replace hz2 := hz2.symm; subst hz2; replace hz1 := hz1.symm; subst hz1; exact congrArg (fun x => (x, ())) (((if_pos c1).trans ((if_neg c2).trans ((if_neg c5).trans ((if_neg c8).trans ((if_neg c9).trans ((if_pos c10).trans (rfl)))))))).symm) trivial hP hD hS
              · have hs := hs.2 c10
                refine lv_bipush (v := (-2)) hx hb dX5_codePlace_94 (by decide) ?_
                refine lv_goto (tgt := 100) hx hb dX5_codePlace_96 (by decide) ?_
                have hP := hP.sub (ws' := [(aMp, .inr (5, [.ref aWo, .int mp_sets])), (aWo, .inl (cI, 512, .inl wo))]) [1, 0] rfl
                have hD := hD.sub (ws' := [(aMp, .inr (5, [.ref aWo, .int mp_sets])), (aWo, .inl (cI, 512, .inl wo))]) [1, 0] (by decide) rfl
                exact hret H locs _ ls (-2) () dX5_codePlace_100 (by clear hP hD hS hl; replace hz4 := hz4.symm; subst hz4; replace hj3 := hj3.symm; subst hj3; replace hz2 := hz2.symm; subst hz2; replace hz1 := hz1.symm; subst hz1; exact congrArg (fun x => (x, ())) (((if_pos c1).trans ((if_neg c2).trans ((if_neg c5).trans ((if_neg c8).trans ((if_neg c9).trans ((if_neg c10).trans (rfl)))))))).symm) trivial hP hD hS
          · have hs := hs.1 c8
            refine lv_bipush (v := (-4)) hx hb dX5_codePlace_74 (by decide) ?_
            have hP := hP.sub (ws' := [(aMp, .inr (5, [.ref aWo, .int mp_sets])), (aWo, .inl (cI, 512, .inl wo))]) [1, 0] rfl
            have hD := hD.sub (ws' := [(aMp, .inr (5, [.ref aWo, .int mp_sets])), (aWo, .inl (cI, 512, .inl wo))]) [1, 0] (by decide) rfl
            exact hret H locs _ ls (-4) () dX5_codePlace_76 (by clear hP hD hS hl; replace hj3 := hj3.symm; subst hj3; replace hz2 := hz2.symm; subst hz2; replace hz1 := hz1.symm; subst hz1; exact congrArg (fun x => (x, ())) (((if_pos c1).trans ((if_neg c2).trans ((if_neg c5).trans ((if_pos c8).trans (rfl)))))).symm) trivial hP hD hS
        have hs := hs.1
        refine lv_if_eq (tgt := 69) hx hb dX5_codePlace_62 (by decide) (fun c11 => ?_) (fun c11 => ?_)
        · have hs := hs.1 c11
          refine lv_iconst (v := 1) hx hb dX5_codePlace_69 (by decide) ?_
          exact Kj3 1 H locs ls ((if_pos c11).trans (rfl)).symm  hP hD hS (lv_sub hl [0, 1, 2, 3, 4, 5] rfl)
        · have hs := hs.2 c11
          refine lv_iconst (v := 4) hx hb dX5_codePlace_65 (by decide) ?_
          refine lv_goto (tgt := 70) hx hb dX5_codePlace_66 (by decide) ?_
          exact Kj3 4 H locs ls ((if_neg c11).trans (rfl)).symm  hP hD hS (lv_sub hl [0, 1, 2, 3, 4, 5] rfl)
      · have hs := hs.1 c5
        refine lv_bipush (v := (-10)) hx hb dX5_codePlace_54 (by decide) ?_
        have hP := hP.sub (ws' := [(aMp, .inr (5, [.ref aWo, .int mp_sets])), (aWo, .inl (cI, 512, .inl wo))]) [1, 0] rfl
        have hD := hD.sub (ws' := [(aMp, .inr (5, [.ref aWo, .int mp_sets])), (aWo, .inl (cI, 512, .inl wo))]) [1, 0] (by decide) rfl
        exact hret H locs _ ls (-10) () dX5_codePlace_56 (by clear hP hD hS hl; replace hz2 := hz2.symm; subst hz2; replace hz1 := hz1.symm; subst hz1; exact congrArg (fun x => (x, ())) (((if_pos c1).trans ((if_neg c2).trans ((if_pos c5).trans (rfl))))).symm) trivial hP hD hS
  · have hs := hs.2 c1
    refine lv_bipush (v := (-6)) hx hb dX5_codePlace_6 (by decide) ?_
    exact hret H locs _ ls (-6) () dX5_codePlace_8 (by exact congrArg (fun x => (x, ())) (((if_neg c1).trans (rfl))).symm) trivial hP hD hS
def fX5_dataPlace (mp_sets : Int32) (wo : Nat → Int32) (p0 : Int32) (p1 : Int32) (p2 : Int32) : Int32 :=
  if (p1 &&& 8) = 0 then ((let j1 : Int32 := if p2 = 0 then (0) else (32768); if p0 < j1 then ((-2)) else (if p0 < 65536 then (p0) else ((-2))))) else ((let z2 := (fX5_setOf mp_sets p0, ()); (let j3 : Int32 := if p2 = 0 then (1) else (2); (let z4 := fX5_matches (wo (256 + z2.1).toNatClampNeg) p0; if z4 = 0 then ((-9)) else ((let j5 : Int32 := if (p1 &&& 1) = 0 then (j3) else (4 * j3); if ((wo (384 + z2.1).toNatClampNeg) &&& j5) = 0 then ((-3)) else ((let z6 := fX5_join (wo (384 + z2.1).toNatClampNeg) p0; (let j7 : Int32 := if p2 = 0 then (0) else (32768); if z6 < j7 then ((-2)) else (if z6 < 65536 then (z6) else ((-2))))))))))))
theorem lkX5_dataPlace_11 : Cond.fieldLink RX5 11 "TwinIssue$Maps" "words" "[I" ∈ wsX5_dataPlace := by decide +kernel
theorem lkX5_dataPlace_41 : Cond.constant RX5 41 (32768) ∈ wsX5_dataPlace := by decide +kernel
theorem lkX5_dataPlace_42 : Cond.constant RX5 42 (65536) ∈ wsX5_dataPlace := by decide +kernel
theorem iwX5_dataPlace_X5 : ∀ w ∈ wsX50, w ∈ wsX5_dataPlace := fun _ h => List.mem_cons_of_mem _ (List.mem_append_right _ h)
def sX5_dataPlace (mp_sets : Int32) (wo : Nat → Int32) (p0 : Int32) (p1 : Int32) (p2 : Int32) : Prop :=
  ((p1 &&& 8) = 0 → (((p2 = 0 → True) ∧ (¬ (p2 = 0) → True)) ∧ (∀ j1 : Int32, j1 = (if p2 = 0 then (0) else (32768)) → ((p0 < j1 → True) ∧ (¬ (p0 < j1) → ((p0 < 65536 → True) ∧ (¬ (p0 < 65536) → True))))))) ∧ (¬ ((p1 &&& 8) = 0) → ((∀ z2, z2 = (fX5_setOf mp_sets p0, ()) → ((vp_in (384 + z2.1) 512) ∧ (((p2 = 0 → True) ∧ (¬ (p2 = 0) → True)) ∧ (∀ j3 : Int32, j3 = (if p2 = 0 then (1) else (2)) → ((vp_in (256 + z2.1) 512) ∧ ((∀ z4, z4 = fX5_matches (wo (256 + z2.1).toNatClampNeg) p0 → ((z4 = 0 → True) ∧ (¬ (z4 = 0) → ((((p1 &&& 1) = 0 → True) ∧ (¬ ((p1 &&& 1) = 0) → True)) ∧ (∀ j5 : Int32, j5 = (if (p1 &&& 1) = 0 then (j3) else (4 * j3)) → ((((wo (384 + z2.1).toNatClampNeg) &&& j5) = 0 → True) ∧ (¬ (((wo (384 + z2.1).toNatClampNeg) &&& j5) = 0) → ((∀ z6, z6 = fX5_join (wo (384 + z2.1).toNatClampNeg) p0 → (((p2 = 0 → True) ∧ (¬ (p2 = 0) → True)) ∧ (∀ j7 : Int32, j7 = (if p2 = 0 then (0) else (32768)) → ((z6 < j7 → True) ∧ (¬ (z6 < j7) → ((z6 < 65536 → True) ∧ (¬ (z6 < 65536) → True)))))))))))))))))))))))
set_option maxHeartbeats 4000000 in
set_option maxRecDepth 100000 in
theorem mX5_dataPlace (l : Launch) (G : va_G) (cI cB cP : ClassId) (aMp aWo : Nat) (mp_sets : Int32) (wo : Nat → Int32) (sz : Nat) (p0 : Int32) (p1 : Int32) (p2 : Int32) (hs : sX5_dataPlace mp_sets wo p0 p1 p2) : kMi (S := Unit) l yX5_dataPlace wsX5_dataPlace ({ frames := 1, cells := 0, slots := 0, locals := 21 }) [.ref aMp, .int p0, .int p1, .int p2] G (kTY cI cB cP) sz [(aMp, .inr (5, [.ref aWo, .int mp_sets])), (aWo, .inl (cI, 512, .inl wo))] (fX5_dataPlace mp_sets wo p0 p1 p2, ()) (fun _ _ => True) (fun _ => [(aMp, .inr (5, [.ref aWo, .int mp_sets])), (aWo, .inl (cI, 512, .inl wo))]) := by
  refine k_ofi (cc := cX5_dataPlace) (maxL := 8) (by decide) rfl (Nat.le_of_ble_eq_true rfl) ?_
  intro p e s m args below meth c A ls Q H locs hx hb hml hown hts hin hK hP hD hA hS hl hret
  have hown : s.vm.findClass RX5 = some m.cls := hown
  have hl : lv_has ls 8 [(0, .ref aMp), (1, .int p0), (2, .int p1), (3, .int p2)] := hl
  unfold sX5_dataPlace at hs
  refine lv_iload_n hx hb dX5_dataPlace_0 rfl (lv_at hl 1 rfl) ?_
  refine lv_istore (lv' := [(4, .int p0), (0, .ref aMp), (1, .int p0), (2, .int p1), (3, .int p2)]) hx hb dX5_dataPlace_1 hl (by decide) rfl (fun ls hl => ?_)
  refine lv_iload_n hx hb dX5_dataPlace_3 rfl (lv_at hl 3 rfl) ?_
  refine lv_bipush (v := 8) hx hb dX5_dataPlace_4 (by decide) ?_
  refine lv_iand hx hb dX5_dataPlace_6 ?_
  refine lv_if_eq (tgt := 94) hx hb dX5_dataPlace_7 (by decide) (fun c1 => ?_) (fun c1 => ?_)
  · have hs := hs.1 c1
    refine lv_iload_n hx hb dX5_dataPlace_94 rfl (lv_at hl 4 rfl) ?_
    have Kj1 : ∀ (j1 : Int32) (H : Heap) (locs : List Loc) (ls : Array Slot), j1 = (if p2 = 0 then (0) else (32768)) → va_P G vwCl [(aMp, .inr (5, [.ref aWo, .int mp_sets])), (aWo, .inl (cI, 512, .inl wo))] H → va_D A [(aMp, .inr (5, [.ref aWo, .int mp_sets])), (aWo, .inl (cI, 512, .inl wo))] → va_S A s.heap H locs → lv_has ls 8 [(4, .int p0), (0, .ref aMp), (1, .int p0), (2, .int p1), (3, .int p2)] → W p l e ({ frames := 1, cells := 0, slots := 0, locals := 21 }) s m args below meth c H locs 0 0 Q (F0 m 104 ls [.int j1]) := by
      intro j1 H locs ls hj1 hP hD hS hl
      have hs := hs.2 j1 hj1
      refine lv_istore (lv' := [(5, .int j1), (4, .int p0), (0, .ref aMp), (1, .int p0), (2, .int p1), (3, .int p2)]) hx hb dX5_dataPlace_104 hl (by decide) rfl (fun ls hl => ?_)
      refine lv_iload hx hb dX5_dataPlace_106 (lv_at hl 1 rfl) ?_
      refine lv_iload hx hb dX5_dataPlace_108 (lv_at hl 0 rfl) ?_
      refine lv_icmp_lt (tgt := 120) hx hb dX5_dataPlace_110 (by decide) (fun c4 => ?_) (fun c4 => ?_)
      · have hs := hs.1 c4
        refine lv_bipush (v := (-2)) hx hb dX5_dataPlace_120 (by decide) ?_
        refine lv_goto (tgt := 127) hx hb dX5_dataPlace_122 (by decide) ?_
        exact hret H locs _ ls (-2) () dX5_dataPlace_127 (by clear hP hD hS hl; replace hj1 := hj1.symm; subst hj1; exact congrArg (fun x => (x, ())) (((if_pos c1).trans ((if_pos c4).trans (rfl)))).symm) trivial hP hD hS
      · have hs := hs.2 c4
        refine lv_iload hx hb dX5_dataPlace_113 (lv_at hl 1 rfl) ?_
        refine lv_ldc (v := 65536) hx hb hown (hts _ lkX5_dataPlace_42) dX5_dataPlace_115 ?_
        refine lv_icmp_lt (tgt := 125) hx hb dX5_dataPlace_117 (by decide) (fun c5 => ?_) (fun c5 => ?_)
        · have hs := hs.1 c5
          refine lv_iload hx hb dX5_dataPlace_125 (lv_at hl 1 rfl) ?_
          exact hret H locs _ ls p0 () dX5_dataPlace_127 (by clear hP hD hS hl; replace hj1 := hj1.symm; subst hj1; exact congrArg (fun x => (x, ())) (((if_pos c1).trans ((if_neg c4).trans ((if_pos c5).trans (rfl))))).symm) trivial hP hD hS
        · have hs := hs.2 c5
          refine lv_bipush (v := (-2)) hx hb dX5_dataPlace_120 (by decide) ?_
          refine lv_goto (tgt := 127) hx hb dX5_dataPlace_122 (by decide) ?_
          exact hret H locs _ ls (-2) () dX5_dataPlace_127 (by clear hP hD hS hl; replace hj1 := hj1.symm; subst hj1; exact congrArg (fun x => (x, ())) (((if_pos c1).trans ((if_neg c4).trans ((if_neg c5).trans (rfl))))).symm) trivial hP hD hS
    have hs := hs.1
    refine lv_if_eq (tgt := 103) hx hb dX5_dataPlace_95 (by decide) (fun c6 => ?_) (fun c6 => ?_)
    · have hs := hs.1 c6
      refine lv_iconst (v := 0) hx hb dX5_dataPlace_103 (by decide) ?_
      exact Kj1 0 H locs ls ((if_pos c6).trans (rfl)).symm  hP hD hS (lv_sub hl [0, 1, 2, 3, 4] rfl)
    · have hs := hs.2 c6
      refine lv_ldc (v := 32768) hx hb hown (hts _ lkX5_dataPlace_41) dX5_dataPlace_98 ?_
      refine lv_goto (tgt := 104) hx hb dX5_dataPlace_100 (by decide) ?_
      exact Kj1 32768 H locs ls ((if_neg c6).trans (rfl)).symm  hP hD hS (lv_sub hl [0, 1, 2, 3, 4] rfl)
  · have hs := hs.2 c1
    refine lv_aload_n hx hb dX5_dataPlace_10 rfl (lv_at hl 1 rfl) ?_
    refine lv_iload_n hx hb dX5_dataPlace_11 rfl (lv_at hl 2 rfl) ?_
    refine k_iV (As := [.int p0]) (rest := []) (wc := [(aMp, .inr (5, [.ref aWo, .int mp_sets]))]) (wr := [(aWo, .inl (cI, 512, .inl wo))]) ⟨hx, hb, hml, hown, hts⟩ hK hP hD hS hA [0] [1] rfl rfl rfl rfl (by decide) (mX5_setOf l G cI cB cP aMp aWo mp_sets H.size p0 ) (cwV 1 hts gX5_dataPlace_X5_setOf rfl rfl rfl (by decide +kernel) ⟨Nat.le_of_ble_eq_true rfl, Nat.le_of_ble_eq_true rfl⟩) 0 5 rfl rfl rfl rfl hl.1 rfl (Nat.le_of_ble_eq_true rfl) dX5_dataPlace_12 ⟨Nat.le_of_ble_eq_true rfl, Nat.le_of_ble_eq_true rfl⟩ (fun z2 H locs hz2 hEz2 hP hD hS => ?_)
    have hs := hs z2 hz2
    have hP : va_P G vwCl [(aWo, .inl (cI, 512, .inl wo)), (aMp, .inr (5, [.ref aWo, .int mp_sets]))] H := hP
    have hD : va_D A [(aWo, .inl (cI, 512, .inl wo)), (aMp, .inr (5, [.ref aWo, .int mp_sets]))] := hD
    refine lv_istore (lv' := [(5, .int z2.1), (4, .int p0), (0, .ref aMp), (1, .int p0), (2, .int p1), (3, .int p2)]) hx hb dX5_dataPlace_15 hl (by decide) rfl (fun ls hl => ?_)
    refine lv_aload_n hx hb dX5_dataPlace_17 rfl (lv_at hl 2 rfl) ?_
    refine va_get (D := G) (ci := 5) (v := .ref aWo) (C := RX5) (T := TX5) (N := 2) hx hb hts iwX5_dataPlace_X5 hown hK hP 1 rfl rfl 0 (by decide) (hts _ lkX5_dataPlace_11) (fun _ h9 => h9) rfl dX5_dataPlace_18 ?_
    refine lv_sipush (v := 384) hx hb dX5_dataPlace_21 (by decide) ?_
    refine lv_iload hx hb dX5_dataPlace_24 (lv_at hl 0 rfl) ?_
    refine lv_iadd hx hb dX5_dataPlace_26 ?_
    obtain ⟨o1, hs⟩ := hs
    refine va_iald hx hb hK hP 0 0 rfl rfl o1 dX5_dataPlace_27 ?_
    refine lv_istore (lv' := [(6, .int (wo (384 + z2.1).toNatClampNeg)), (5, .int z2.1), (4, .int p0), (0, .ref aMp), (1, .int p0), (2, .int p1), (3, .int p2)]) hx hb dX5_dataPlace_28 hl (by decide) rfl (fun ls hl => ?_)
    refine lv_iload_n hx hb dX5_dataPlace_30 rfl (lv_at hl 6 rfl) ?_
    have Kj3 : ∀ (j3 : Int32) (H : Heap) (locs : List Loc) (ls : Array Slot), j3 = (if p2 = 0 then (1) else (2)) → va_P G vwCl [(aWo, .inl (cI, 512, .inl wo)), (aMp, .inr (5, [.ref aWo, .int mp_sets]))] H → va_D A [(aWo, .inl (cI, 512, .inl wo)), (aMp, .inr (5, [.ref aWo, .int mp_sets]))] → va_S A s.heap H locs → lv_has ls 8 [(6, .int (wo (384 + z2.1).toNatClampNeg)), (5, .int z2.1), (4, .int p0), (0, .ref aMp), (1, .int p0), (2, .int p1), (3, .int p2)] → W p l e ({ frames := 1, cells := 0, slots := 0, locals := 21 }) s m args below meth c H locs 0 0 Q (F0 m 39 ls [.int j3]) := by
      intro j3 H locs ls hj3 hP hD hS hl
      have hs := hs.2 j3 hj3
      refine lv_istore (lv' := [(7, .int j3), (6, .int (wo (384 + z2.1).toNatClampNeg)), (5, .int z2.1), (4, .int p0), (0, .ref aMp), (1, .int p0), (2, .int p1), (3, .int p2)]) hx hb dX5_dataPlace_39 hl (by decide) rfl (fun ls hl => ?_)
      refine lv_aload_n hx hb dX5_dataPlace_41 rfl (lv_at hl 4 rfl) ?_
      refine va_get (D := G) (ci := 5) (v := .ref aWo) (C := RX5) (T := TX5) (N := 2) hx hb hts iwX5_dataPlace_X5 hown hK hP 1 rfl rfl 0 (by decide) (hts _ lkX5_dataPlace_11) (fun _ h9 => h9) rfl dX5_dataPlace_42 ?_
      refine lv_sipush (v := 256) hx hb dX5_dataPlace_45 (by decide) ?_
      refine lv_iload hx hb dX5_dataPlace_48 (lv_at hl 2 rfl) ?_
      refine lv_iadd hx hb dX5_dataPlace_50 ?_
      obtain ⟨o2, hs⟩ := hs
      refine va_iald hx hb hK hP 0 0 rfl rfl o2 dX5_dataPlace_51 ?_
      refine lv_iload_n hx hb dX5_dataPlace_52 rfl (lv_at hl 5 rfl) ?_
      refine k_iS (As := [.int (wo (256 + z2.1).toNatClampNeg), .int p0]) (rest := []) ⟨hx, hb, hml, hown, hts⟩ hK hP hD hS hA (mX5_matches l G cI cB cP   H.size (wo (256 + z2.1).toNatClampNeg) p0 ) (va_cwS 2 hts gX5_dataPlace_X5_matches rfl rfl rfl (by decide +kernel) ⟨Nat.le_of_ble_eq_true rfl, Nat.le_of_ble_eq_true rfl⟩) rfl hl.1 rfl (Nat.le_of_ble_eq_true rfl) dX5_dataPlace_53 ⟨Nat.le_of_ble_eq_true rfl, Nat.le_of_ble_eq_true rfl⟩ (fun z4 H locs hz4 hEz4 hP hS => ?_)
      have hs := hs z4 hz4
      refine lv_if_ne (tgt := 62) hx hb dX5_dataPlace_56 (by decide) (fun c9 => ?_) (fun c9 => ?_)
      · have hs := hs.2 c9
        refine lv_iload hx hb dX5_dataPlace_62 (lv_at hl 1 rfl) ?_
        refine lv_iload_n hx hb dX5_dataPlace_64 rfl (lv_at hl 6 rfl) ?_
        refine lv_iconst (v := 1) hx hb dX5_dataPlace_65 (by decide) ?_
        refine lv_iand hx hb dX5_dataPlace_66 ?_
        have Kj5 : ∀ (j5 : Int32) (H : Heap) (locs : List Loc) (ls : Array Slot), j5 = (if (p1 &&& 1) = 0 then (j3) else (4 * j3)) → va_P G vwCl [(aWo, .inl (cI, 512, .inl wo)), (aMp, .inr (5, [.ref aWo, .int mp_sets]))] H → va_D A [(aWo, .inl (cI, 512, .inl wo)), (aMp, .inr (5, [.ref aWo, .int mp_sets]))] → va_S A s.heap H locs → lv_has ls 8 [(7, .int j3), (6, .int (wo (384 + z2.1).toNatClampNeg)), (5, .int z2.1), (4, .int p0), (0, .ref aMp), (1, .int p0), (2, .int p1), (3, .int p2)] → W p l e ({ frames := 1, cells := 0, slots := 0, locals := 21 }) s m args below meth c H locs 0 0 Q (F0 m 79 ls [.int j5, .int (wo (384 + z2.1).toNatClampNeg)]) := by
          intro j5 H locs ls hj5 hP hD hS hl
          have hs := hs.2 j5 hj5
          refine lv_iand hx hb dX5_dataPlace_79 ?_
          refine lv_if_ne (tgt := 86) hx hb dX5_dataPlace_80 (by decide) (fun c12 => ?_) (fun c12 => ?_)
          · have hs := hs.2 c12
            refine lv_iload hx hb dX5_dataPlace_86 (lv_at hl 1 rfl) ?_
            refine lv_iload_n hx hb dX5_dataPlace_88 rfl (lv_at hl 5 rfl) ?_
            refine k_iS (As := [.int (wo (384 + z2.1).toNatClampNeg), .int p0]) (rest := []) ⟨hx, hb, hml, hown, hts⟩ hK hP hD hS hA (mX5_join l G cI cB cP   H.size (wo (384 + z2.1).toNatClampNeg) p0 ) (va_cwS 2 hts gX5_dataPlace_X5_join rfl rfl rfl (by decide +kernel) ⟨Nat.le_of_ble_eq_true rfl, Nat.le_of_ble_eq_true rfl⟩) rfl hl.1 rfl (Nat.le_of_ble_eq_true rfl) dX5_dataPlace_89 ⟨Nat.le_of_ble_eq_true rfl, Nat.le_of_ble_eq_true rfl⟩ (fun z6 H locs hz6 hEz6 hP hS => ?_)
            have hs := hs z6 hz6
            refine lv_istore (lv' := [(4, .int z6), (7, .int j3), (6, .int (wo (384 + z2.1).toNatClampNeg)), (5, .int z2.1), (0, .ref aMp), (1, .int p0), (2, .int p1), (3, .int p2)]) hx hb dX5_dataPlace_92 hl (by decide) rfl (fun ls hl => ?_)
            refine lv_iload_n hx hb dX5_dataPlace_94 rfl (lv_at hl 7 rfl) ?_
            have Kj7 : ∀ (j7 : Int32) (H : Heap) (locs : List Loc) (ls : Array Slot), j7 = (if p2 = 0 then (0) else (32768)) → va_P G vwCl [(aWo, .inl (cI, 512, .inl wo)), (aMp, .inr (5, [.ref aWo, .int mp_sets]))] H → va_D A [(aWo, .inl (cI, 512, .inl wo)), (aMp, .inr (5, [.ref aWo, .int mp_sets]))] → va_S A s.heap H locs → lv_has ls 8 [(4, .int z6), (7, .int j3), (6, .int (wo (384 + z2.1).toNatClampNeg)), (5, .int z2.1), (0, .ref aMp), (1, .int p0), (2, .int p1), (3, .int p2)] → W p l e ({ frames := 1, cells := 0, slots := 0, locals := 21 }) s m args below meth c H locs 0 0 Q (F0 m 104 ls [.int j7]) := by
              intro j7 H locs ls hj7 hP hD hS hl
              have hs := hs.2 j7 hj7
              refine lv_istore (lv' := [(5, .int j7), (4, .int z6), (7, .int j3), (6, .int (wo (384 + z2.1).toNatClampNeg)), (0, .ref aMp), (1, .int p0), (2, .int p1), (3, .int p2)]) hx hb dX5_dataPlace_104 hl (by decide) rfl (fun ls hl => ?_)
              refine lv_iload hx hb dX5_dataPlace_106 (lv_at hl 1 rfl) ?_
              refine lv_iload hx hb dX5_dataPlace_108 (lv_at hl 0 rfl) ?_
              refine lv_icmp_lt (tgt := 120) hx hb dX5_dataPlace_110 (by decide) (fun c15 => ?_) (fun c15 => ?_)
              · have hs := hs.1 c15
                refine lv_bipush (v := (-2)) hx hb dX5_dataPlace_120 (by decide) ?_
                refine lv_goto (tgt := 127) hx hb dX5_dataPlace_122 (by decide) ?_
                have hP := hP.sub (ws' := [(aMp, .inr (5, [.ref aWo, .int mp_sets])), (aWo, .inl (cI, 512, .inl wo))]) [1, 0] rfl
                have hD := hD.sub (ws' := [(aMp, .inr (5, [.ref aWo, .int mp_sets])), (aWo, .inl (cI, 512, .inl wo))]) [1, 0] (by decide) rfl
                exact hret H locs _ ls (-2) () dX5_dataPlace_127 (by clear hP hD hS hl; replace hj7 := hj7.symm; subst hj7; replace hz6 := hz6.symm; subst hz6; replace hj5 := hj5.symm; subst hj5; replace hz4 := hz4.symm; subst hz4; replace hj3 := hj3.symm; subst hj3; replace hz2 := hz2.symm; subst hz2; exact congrArg (fun x => (x, ())) (((if_neg c1).trans ((if_neg c9).trans ((if_neg c12).trans ((if_pos c15).trans (rfl)))))).symm) trivial hP hD hS
              · have hs := hs.2 c15
                refine lv_iload hx hb dX5_dataPlace_113 (lv_at hl 1 rfl) ?_
                refine lv_ldc (v := 65536) hx hb hown (hts _ lkX5_dataPlace_42) dX5_dataPlace_115 ?_
                refine lv_icmp_lt (tgt := 125) hx hb dX5_dataPlace_117 (by decide) (fun c16 => ?_) (fun c16 => ?_)
                · have hs := hs.1 c16
                  refine lv_iload hx hb dX5_dataPlace_125 (lv_at hl 1 rfl) ?_
                  have hP := hP.sub (ws' := [(aMp, .inr (5, [.ref aWo, .int mp_sets])), (aWo, .inl (cI, 512, .inl wo))]) [1, 0] rfl
                  have hD := hD.sub (ws' := [(aMp, .inr (5, [.ref aWo, .int mp_sets])), (aWo, .inl (cI, 512, .inl wo))]) [1, 0] (by decide) rfl
                  exact hret H locs _ ls z6 () dX5_dataPlace_127 (by clear hP hD hS hl; replace hj7 := hj7.symm; subst hj7; replace hz6 := hz6.symm; subst hz6; replace hj5 := hj5.symm; subst hj5; replace hz4 := hz4.symm; subst hz4; replace hj3 := hj3.symm; subst hj3; replace hz2 := hz2.symm; subst hz2; exact congrArg (fun x => (x, ())) (((if_neg c1).trans ((if_neg c9).trans ((if_neg c12).trans ((if_neg c15).trans ((if_pos c16).trans (rfl))))))).symm) trivial hP hD hS
                · have hs := hs.2 c16
                  refine lv_bipush (v := (-2)) hx hb dX5_dataPlace_120 (by decide) ?_
                  refine lv_goto (tgt := 127) hx hb dX5_dataPlace_122 (by decide) ?_
                  have hP := hP.sub (ws' := [(aMp, .inr (5, [.ref aWo, .int mp_sets])), (aWo, .inl (cI, 512, .inl wo))]) [1, 0] rfl
                  have hD := hD.sub (ws' := [(aMp, .inr (5, [.ref aWo, .int mp_sets])), (aWo, .inl (cI, 512, .inl wo))]) [1, 0] (by decide) rfl
                  exact hret H locs _ ls (-2) () dX5_dataPlace_127 (by clear hP hD hS hl; replace hj7 := hj7.symm; subst hj7; replace hz6 := hz6.symm; subst hz6; replace hj5 := hj5.symm; subst hj5; replace hz4 := hz4.symm; subst hz4; replace hj3 := hj3.symm; subst hj3; replace hz2 := hz2.symm; subst hz2; exact congrArg (fun x => (x, ())) (((if_neg c1).trans ((if_neg c9).trans ((if_neg c12).trans ((if_neg c15).trans ((if_neg c16).trans (rfl))))))).symm) trivial hP hD hS
            have hs := hs.1
            refine lv_if_eq (tgt := 103) hx hb dX5_dataPlace_95 (by decide) (fun c17 => ?_) (fun c17 => ?_)
            · have hs := hs.1 c17
              refine lv_iconst (v := 0) hx hb dX5_dataPlace_103 (by decide) ?_
              exact Kj7 0 H locs ls ((if_pos c17).trans (rfl)).symm  hP hD hS (lv_sub hl [0, 1, 2, 3, 4, 5, 6, 7] rfl)
            · have hs := hs.2 c17
              refine lv_ldc (v := 32768) hx hb hown (hts _ lkX5_dataPlace_41) dX5_dataPlace_98 ?_
              refine lv_goto (tgt := 104) hx hb dX5_dataPlace_100 (by decide) ?_
              exact Kj7 32768 H locs ls ((if_neg c17).trans (rfl)).symm  hP hD hS (lv_sub hl [0, 1, 2, 3, 4, 5, 6, 7] rfl)
          · have hs := hs.1 c12
            refine lv_bipush (v := (-3)) hx hb dX5_dataPlace_83 (by decide) ?_
            have hP := hP.sub (ws' := [(aMp, .inr (5, [.ref aWo, .int mp_sets])), (aWo, .inl (cI, 512, .inl wo))]) [1, 0] rfl
            have hD := hD.sub (ws' := [(aMp, .inr (5, [.ref aWo, .int mp_sets])), (aWo, .inl (cI, 512, .inl wo))]) [1, 0] (by decide) rfl
            exact hret H locs _ ls (-3) () dX5_dataPlace_85 (by clear hP hD hS hl; replace hj5 := hj5.symm; subst hj5; replace hz4 := hz4.symm; subst hz4; replace hj3 := hj3.symm; subst hj3; replace hz2 := hz2.symm; subst hz2; exact congrArg (fun x => (x, ())) (((if_neg c1).trans ((if_neg c9).trans ((if_pos c12).trans (rfl))))).symm) trivial hP hD hS
        have hs := hs.1
        refine lv_if_eq (tgt := 77) hx hb dX5_dataPlace_67 (by decide) (fun c18 => ?_) (fun c18 => ?_)
        · have hs := hs.1 c18
          refine lv_iload hx hb dX5_dataPlace_77 (lv_at hl 0 rfl) ?_
          exact Kj5 j3 H locs ls ((if_pos c18).trans (rfl)).symm  hP hD hS (lv_sub hl [0, 1, 2, 3, 4, 5, 6, 7] rfl)
        · have hs := hs.2 c18
          refine lv_iconst (v := 4) hx hb dX5_dataPlace_70 (by decide) ?_
          refine lv_iload hx hb dX5_dataPlace_71 (lv_at hl 0 rfl) ?_
          refine lv_imul hx hb dX5_dataPlace_73 ?_
          refine lv_goto (tgt := 79) hx hb dX5_dataPlace_74 (by decide) ?_
          exact Kj5 (4 * j3) H locs ls ((if_neg c18).trans (rfl)).symm  hP hD hS (lv_sub hl [0, 1, 2, 3, 4, 5, 6, 7] rfl)
      · have hs := hs.1 c9
        refine lv_bipush (v := (-9)) hx hb dX5_dataPlace_59 (by decide) ?_
        have hP := hP.sub (ws' := [(aMp, .inr (5, [.ref aWo, .int mp_sets])), (aWo, .inl (cI, 512, .inl wo))]) [1, 0] rfl
        have hD := hD.sub (ws' := [(aMp, .inr (5, [.ref aWo, .int mp_sets])), (aWo, .inl (cI, 512, .inl wo))]) [1, 0] (by decide) rfl
        exact hret H locs _ ls (-9) () dX5_dataPlace_61 (by clear hP hD hS hl; replace hz4 := hz4.symm; subst hz4; replace hj3 := hj3.symm; subst hj3; replace hz2 := hz2.symm; subst hz2; exact congrArg (fun x => (x, ())) (((if_neg c1).trans ((if_pos c9).trans (rfl)))).symm) trivial hP hD hS
    have hs := hs.1
    refine lv_if_eq (tgt := 38) hx hb dX5_dataPlace_31 (by decide) (fun c19 => ?_) (fun c19 => ?_)
    · have hs := hs.1 c19
      refine lv_iconst (v := 1) hx hb dX5_dataPlace_38 (by decide) ?_
      exact Kj3 1 H locs ls ((if_pos c19).trans (rfl)).symm  hP hD hS (lv_sub hl [0, 1, 2, 3, 4, 5, 6] rfl)
    · have hs := hs.2 c19
      refine lv_iconst (v := 2) hx hb dX5_dataPlace_34 (by decide) ?_
      refine lv_goto (tgt := 39) hx hb dX5_dataPlace_35 (by decide) ?_
      exact Kj3 2 H locs ls ((if_neg c19).trans (rfl)).symm  hP hD hS (lv_sub hl [0, 1, 2, 3, 4, 5, 6] rfl)
def fX5_isOne (mp_sets : Int32) (p0 : Int32) : Int32 :=
  if (p0 - 1024) < 0 then (0) else (if 512 ≤ (p0 - 1024) then (0) else (if mp_sets ≤ (jrem (p0 - 1024) 128) then (0) else (1)))
theorem lkX5_isOne_11 : Cond.fieldLink RX5 11 "TwinIssue$Maps" "words" "[I" ∈ wsX5_isOne := by decide +kernel
theorem lkX5_isOne_15 : Cond.fieldLink RX5 15 "TwinIssue$Maps" "sets" "I" ∈ wsX5_isOne := by decide +kernel
theorem iwX5_isOne_X5 : ∀ w ∈ wsX50, w ∈ wsX5_isOne := fun _ h => List.mem_cons_of_mem _ (List.mem_append_right _ h)
set_option maxHeartbeats 4000000 in
set_option maxRecDepth 100000 in
theorem mX5_isOne (l : Launch) (G : va_G) (cI cB cP : ClassId) (aMp aWo : Nat) (mp_sets : Int32) (wo : Nat → Int32) (sz : Nat) (p0 : Int32) : kMi (S := Unit) l yX5_isOne wsX5_isOne ({ frames := 0, cells := 0, slots := 0, locals := 0 }) [.ref aMp, .int p0] G (kTY cI cB cP) sz [(aMp, .inr (5, [.ref aWo, .int mp_sets])), (aWo, .inl (cI, 512, .inl wo))] (fX5_isOne mp_sets p0, ()) (fun r _ => isB r) (fun _ => [(aMp, .inr (5, [.ref aWo, .int mp_sets])), (aWo, .inl (cI, 512, .inl wo))]) := by
  refine k_ofz (cc := cX5_isOne) (maxL := 3) (by decide) rfl (Nat.le_of_ble_eq_true rfl) ?_
  intro p e s m args below meth c A ls Q H locs hx hb hml hown hts hin hK hP hD hA hS hl hret
  have hown : s.vm.findClass RX5 = some m.cls := hown
  have hl : lv_has ls 3 [(0, .ref aMp), (1, .int p0)] := hl
  refine lv_iload_n hx hb dX5_isOne_0 rfl (lv_at hl 1 rfl) ?_
  refine lv_sipush (v := 1024) hx hb dX5_isOne_1 (by decide) ?_
  refine lv_isub hx hb dX5_isOne_4 ?_
  refine lv_istore_n (lv' := [(2, .int (p0 - 1024)), (0, .ref aMp), (1, .int p0)]) hx hb dX5_isOne_5 rfl hl (by decide) rfl (fun ls hl => ?_)
  refine lv_iload_n hx hb dX5_isOne_6 rfl (lv_at hl 0 rfl) ?_
  refine lv_if_lt (tgt := 35) hx hb dX5_isOne_7 (by decide) (fun c1 => ?_) (fun c1 => ?_)
  · skip
    refine lv_iconst (v := 0) hx hb dX5_isOne_35 (by decide) ?_
    exact hret H locs _ ls 0 () dX5_isOne_36 (by exact congrArg (fun x => (x, ())) (((if_pos c1).trans (rfl))).symm) (Or.inl rfl) (Or.inl rfl) hP hD hS
  · skip
    refine lv_iload_n hx hb dX5_isOne_10 rfl (lv_at hl 0 rfl) ?_
    refine lv_aload_n hx hb dX5_isOne_11 rfl (lv_at hl 1 rfl) ?_
    refine va_get (D := G) (ci := 5) (v := .ref aWo) (C := RX5) (T := TX5) (N := 2) hx hb hts iwX5_isOne_X5 hown hK hP 0 rfl rfl 0 (by decide) (hts _ lkX5_isOne_11) (fun _ h9 => h9) rfl dX5_isOne_12 ?_
    refine va_alen (v := 512) hx hb hK hP 1 0 rfl rfl rfl dX5_isOne_15 ?_
    refine lv_icmp_ge (tgt := 35) hx hb dX5_isOne_16 (by decide) (fun c2 => ?_) (fun c2 => ?_)
    · skip
      refine lv_iconst (v := 0) hx hb dX5_isOne_35 (by decide) ?_
      exact hret H locs _ ls 0 () dX5_isOne_36 (by exact congrArg (fun x => (x, ())) (((if_neg c1).trans ((if_pos c2).trans (rfl)))).symm) (Or.inl rfl) (Or.inl rfl) hP hD hS
    · skip
      refine lv_iload_n hx hb dX5_isOne_19 rfl (lv_at hl 0 rfl) ?_
      refine lv_sipush (v := 128) hx hb dX5_isOne_20 (by decide) ?_
      refine lv_irem hx hb dX5_isOne_23 (by decide) ?_
      refine lv_aload_n hx hb dX5_isOne_24 rfl (lv_at hl 1 rfl) ?_
      refine va_get (D := G) (ci := 5) (v := .int mp_sets) (C := RX5) (T := TX5) (N := 2) hx hb hts iwX5_isOne_X5 hown hK hP 0 rfl rfl 1 (by decide) (hts _ lkX5_isOne_15) (fun _ h9 => h9) rfl dX5_isOne_25 ?_
      refine lv_icmp_ge (tgt := 35) hx hb dX5_isOne_28 (by decide) (fun c3 => ?_) (fun c3 => ?_)
      · skip
        refine lv_iconst (v := 0) hx hb dX5_isOne_35 (by decide) ?_
        exact hret H locs _ ls 0 () dX5_isOne_36 (by exact congrArg (fun x => (x, ())) (((if_neg c1).trans ((if_neg c2).trans ((if_pos c3).trans (rfl))))).symm) (Or.inl rfl) (Or.inl rfl) hP hD hS
      · skip
        refine lv_iconst (v := 1) hx hb dX5_isOne_31 (by decide) ?_
        refine lv_goto (tgt := 36) hx hb dX5_isOne_32 (by decide) ?_
        exact hret H locs _ ls 1 () dX5_isOne_36 (by exact congrArg (fun x => (x, ())) (((if_neg c1).trans ((if_neg c2).trans ((if_neg c3).trans (rfl))))).symm) (Or.inr rfl) (Or.inr rfl) hP hD hS
def fX5_get (mp_sets : Int32) (wo : Nat → Int32) (p0 : Int32) : Int32 :=
  (let z1 := (fX5_isOne mp_sets p0, ()); if z1.1 = 0 then (0) else (wo (p0 - 1024).toNatClampNeg))
theorem lkX5_get_11 : Cond.fieldLink RX5 11 "TwinIssue$Maps" "words" "[I" ∈ wsX5_get := by decide +kernel
theorem iwX5_get_X5 : ∀ w ∈ wsX50, w ∈ wsX5_get := fun _ h => List.mem_cons_of_mem _ (List.mem_append_right _ h)
def sX5_get (mp_sets : Int32) (p0 : Int32) : Prop :=
  (∀ z1, z1 = (fX5_isOne mp_sets p0, ()) → ((z1.1 = 0 → True) ∧ (¬ (z1.1 = 0) → ((vp_in (p0 - 1024) 512) ∧ True))))
set_option maxHeartbeats 4000000 in
set_option maxRecDepth 100000 in
theorem mX5_get (l : Launch) (G : va_G) (cI cB cP : ClassId) (aMp aWo : Nat) (mp_sets : Int32) (wo : Nat → Int32) (sz : Nat) (p0 : Int32) (hs : sX5_get mp_sets p0) : kMi (S := Unit) l yX5_get wsX5_get ({ frames := 1, cells := 0, slots := 0, locals := 22 }) [.ref aMp, .int p0] G (kTY cI cB cP) sz [(aMp, .inr (5, [.ref aWo, .int mp_sets])), (aWo, .inl (cI, 512, .inl wo))] (fX5_get mp_sets wo p0, ()) (fun _ _ => True) (fun _ => [(aMp, .inr (5, [.ref aWo, .int mp_sets])), (aWo, .inl (cI, 512, .inl wo))]) := by
  refine k_ofi (cc := cX5_get) (maxL := 2) (by decide) rfl (Nat.le_of_ble_eq_true rfl) ?_
  intro p e s m args below meth c A ls Q H locs hx hb hml hown hts hin hK hP hD hA hS hl hret
  have hown : s.vm.findClass RX5 = some m.cls := hown
  have hl : lv_has ls 2 [(0, .ref aMp), (1, .int p0)] := hl
  unfold sX5_get at hs
  refine lv_aload_n hx hb dX5_get_0 rfl (lv_at hl 0 rfl) ?_
  refine lv_iload_n hx hb dX5_get_1 rfl (lv_at hl 1 rfl) ?_
  refine k_iV (As := [.int p0]) (rest := []) (wc := [(aMp, .inr (5, [.ref aWo, .int mp_sets])), (aWo, .inl (cI, 512, .inl wo))]) (wr := []) ⟨hx, hb, hml, hown, hts⟩ hK hP hD hS hA [0, 1] [] rfl rfl rfl rfl (by decide) (mX5_isOne l G cI cB cP aMp aWo mp_sets wo H.size p0 ) (cwV 1 hts gX5_get_X5_isOne rfl rfl rfl (by decide +kernel) ⟨Nat.le_of_ble_eq_true rfl, Nat.le_of_ble_eq_true rfl⟩) 0 5 rfl rfl rfl rfl hl.1 rfl (Nat.le_of_ble_eq_true rfl) dX5_get_2 ⟨Nat.le_of_ble_eq_true rfl, Nat.le_of_ble_eq_true rfl⟩ (fun z1 H locs hz1 hEz1 hP hD hS => ?_)
  have hs := hs z1 hz1
  have hP : va_P G vwCl [(aMp, .inr (5, [.ref aWo, .int mp_sets])), (aWo, .inl (cI, 512, .inl wo))] H := hP
  have hD : va_D A [(aMp, .inr (5, [.ref aWo, .int mp_sets])), (aWo, .inl (cI, 512, .inl wo))] := hD
  refine lv_if_eq (tgt := 21) hx hb dX5_get_5 (by decide) (fun c1 => ?_) (fun c1 => ?_)
  · have hs := hs.1 c1
    refine lv_iconst (v := 0) hx hb dX5_get_21 (by decide) ?_
    exact hret H locs _ ls 0 () dX5_get_22 (by clear hP hD hS hl; replace hz1 := hz1.symm; subst hz1; exact congrArg (fun x => (x, ())) (((if_pos c1).trans (rfl))).symm) trivial hP hD hS
  · have hs := hs.2 c1
    refine lv_aload_n hx hb dX5_get_8 rfl (lv_at hl 0 rfl) ?_
    refine va_get (D := G) (ci := 5) (v := .ref aWo) (C := RX5) (T := TX5) (N := 2) hx hb hts iwX5_get_X5 hown hK hP 0 rfl rfl 0 (by decide) (hts _ lkX5_get_11) (fun _ h9 => h9) rfl dX5_get_9 ?_
    refine lv_iload_n hx hb dX5_get_12 rfl (lv_at hl 1 rfl) ?_
    refine lv_sipush (v := 1024) hx hb dX5_get_13 (by decide) ?_
    refine lv_isub hx hb dX5_get_16 ?_
    obtain ⟨o1, hs⟩ := hs
    refine va_iald hx hb hK hP 1 0 rfl rfl o1 dX5_get_17 ?_
    refine lv_goto (tgt := 22) hx hb dX5_get_18 (by decide) ?_
    exact hret H locs _ ls (wo (p0 - 1024).toNatClampNeg) () dX5_get_22 (by clear hP hD hS hl; replace hz1 := hz1.symm; subst hz1; exact congrArg (fun x => (x, ())) (((if_neg c1).trans (rfl))).symm) trivial hP hD hS
def fX5_put (mp_sets : Int32) (wo : Nat → Int32) (p0 : Int32) (p1 : Int32) : (Nat → Int32) :=
  (let z1 := (fX5_isOne mp_sets p0, ()); if z1.1 = 0 then (wo) else (upd wo (p0 - 1024).toNatClampNeg p1))
theorem lkX5_put_11 : Cond.fieldLink RX5 11 "TwinIssue$Maps" "words" "[I" ∈ wsX5_put := by decide +kernel
theorem iwX5_put_X5 : ∀ w ∈ wsX50, w ∈ wsX5_put := fun _ h => List.mem_cons_of_mem _ (List.mem_append_right _ h)
def sX5_put (mp_sets : Int32) (p0 : Int32) : Prop :=
  (∀ z1, z1 = (fX5_isOne mp_sets p0, ()) → ((z1.1 = 0 → True) ∧ (¬ (z1.1 = 0) → ((vp_in (p0 - 1024) 512) ∧ True))))
set_option maxHeartbeats 4000000 in
set_option maxRecDepth 100000 in
theorem mX5_put (l : Launch) (G : va_G) (cI cB cP : ClassId) (aMp aWo : Nat) (mp_sets : Int32) (wo : Nat → Int32) (sz : Nat) (p0 : Int32) (p1 : Int32) (hs : sX5_put mp_sets p0) : kMv (S := (Nat → Int32)) l yX5_put wsX5_put ({ frames := 1, cells := 0, slots := 0, locals := 22 }) [.ref aMp, .int p0, .int p1] G (kTY cI cB cP) sz [(aMp, .inr (5, [.ref aWo, .int mp_sets])), (aWo, .inl (cI, 512, .inl wo))] (fX5_put mp_sets wo p0 p1) (fun _ => True) (fun u => [(aMp, .inr (5, [.ref aWo, .int mp_sets])), (aWo, .inl (cI, 512, .inl u))]) := by
  refine k_ofv (cc := cX5_put) (maxL := 3) (by decide) rfl (Nat.le_of_ble_eq_true rfl) ?_
  intro p e s m args below meth c A ls Q H locs hx hb hml hown hts hin hK hP hD hA hS hl hret
  have hown : s.vm.findClass RX5 = some m.cls := hown
  have hl : lv_has ls 3 [(0, .ref aMp), (1, .int p0), (2, .int p1)] := hl
  unfold sX5_put at hs
  refine lv_aload_n hx hb dX5_put_0 rfl (lv_at hl 0 rfl) ?_
  refine lv_iload_n hx hb dX5_put_1 rfl (lv_at hl 1 rfl) ?_
  refine k_iV (As := [.int p0]) (rest := []) (wc := [(aMp, .inr (5, [.ref aWo, .int mp_sets])), (aWo, .inl (cI, 512, .inl wo))]) (wr := []) ⟨hx, hb, hml, hown, hts⟩ hK hP hD hS hA [0, 1] [] rfl rfl rfl rfl (by decide) (mX5_isOne l G cI cB cP aMp aWo mp_sets wo H.size p0 ) (cwV 1 hts gX5_put_X5_isOne rfl rfl rfl (by decide +kernel) ⟨Nat.le_of_ble_eq_true rfl, Nat.le_of_ble_eq_true rfl⟩) 0 5 rfl rfl rfl rfl hl.1 rfl (Nat.le_of_ble_eq_true rfl) dX5_put_2 ⟨Nat.le_of_ble_eq_true rfl, Nat.le_of_ble_eq_true rfl⟩ (fun z1 H locs hz1 hEz1 hP hD hS => ?_)
  have hs := hs z1 hz1
  have hP : va_P G vwCl [(aMp, .inr (5, [.ref aWo, .int mp_sets])), (aWo, .inl (cI, 512, .inl wo))] H := hP
  have hD : va_D A [(aMp, .inr (5, [.ref aWo, .int mp_sets])), (aWo, .inl (cI, 512, .inl wo))] := hD
  refine lv_if_eq (tgt := 19) hx hb dX5_put_5 (by decide) (fun c1 => ?_) (fun c1 => ?_)
  · have hs := hs.1 c1
    exact hret H locs _ ls wo dX5_put_19 (by clear hP hD hS hl; replace hz1 := hz1.symm; subst hz1; exact (((if_pos c1).trans (rfl))).symm) trivial hP hD hS
  · have hs := hs.2 c1
    refine lv_aload_n hx hb dX5_put_8 rfl (lv_at hl 0 rfl) ?_
    refine va_get (D := G) (ci := 5) (v := .ref aWo) (C := RX5) (T := TX5) (N := 2) hx hb hts iwX5_put_X5 hown hK hP 0 rfl rfl 0 (by decide) (hts _ lkX5_put_11) (fun _ h9 => h9) rfl dX5_put_9 ?_
    refine lv_iload_n hx hb dX5_put_12 rfl (lv_at hl 1 rfl) ?_
    refine lv_sipush (v := 1024) hx hb dX5_put_13 (by decide) ?_
    refine lv_isub hx hb dX5_put_16 ?_
    refine lv_iload_n hx hb dX5_put_17 rfl (lv_at hl 2 rfl) ?_
    obtain ⟨o1, hs⟩ := hs
    refine va_iast hx hb hK hP hD hS 1 0 rfl rfl o1 dX5_put_18 (fun H locs hP hD hS => ?_)
    have hP : va_P G vwCl [(aMp, .inr (5, [.ref aWo, .int mp_sets])), (aWo, .inl (cI, 512, .inl (upd wo (p0 - 1024).toNatClampNeg p1)))] H := hP
    have hD : va_D A [(aMp, .inr (5, [.ref aWo, .int mp_sets])), (aWo, .inl (cI, 512, .inl (upd wo (p0 - 1024).toNatClampNeg p1)))] := hD
    exact hret H locs _ ls (upd wo (p0 - 1024).toNatClampNeg p1) dX5_put_19 (by clear hP hD hS hl; replace hz1 := hz1.symm; subst hz1; exact (((if_neg c1).trans (rfl))).symm) trivial hP hD hS

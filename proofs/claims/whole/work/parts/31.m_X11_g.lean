def fX11_isSlow (p0 : Int32) : Int32 :=
  (let z1 := fX11_isMultiply p0; if z1 = 0 then ((let z2 := fX11_isDivide p0; if z2 = 0 then (0) else (1))) else (1))
set_option maxHeartbeats 4000000 in
set_option maxRecDepth 100000 in
theorem mX11_isSlow (l : Launch) (G : va_G) (cI cB cP : ClassId) (sz : Nat) (p0 : Int32) : kMi (S := Unit) l yX11_isSlow wsX11_isSlow ({ frames := 3, cells := 0, slots := 0, locals := 60 }) [.int p0] G (kTY cI cB cP) sz [] (fX11_isSlow p0, ()) (fun r _ => isB r) (fun _ => []) := by
  refine k_ofz (cc := cX11_isSlow) (maxL := 1) (by decide) rfl (Nat.le_of_ble_eq_true rfl) ?_
  intro p e s m args below meth c A ls Q H locs hx hb hml hown hts hin hK hP hD hA hS hl hret
  have hown : s.vm.findClass RX11 = some m.cls := hown
  have hl : lv_has ls 1 [(0, .int p0)] := hl
  refine lv_iload_n hx hb dX11_isSlow_0 rfl (lv_at hl 0 rfl) ?_
  refine k_iS (As := [.int p0]) (rest := []) ⟨hx, hb, hml, hown, hts⟩ hK hP hD hS hA (mX11_isMultiply l G cI cB cP   H.size p0 ) (va_cwS 1 hts gX11_isSlow_X11_isMultiply rfl rfl rfl (by decide +kernel) ⟨Nat.le_of_ble_eq_true rfl, Nat.le_of_ble_eq_true rfl⟩) rfl hl.1 rfl (Nat.le_of_ble_eq_true rfl) dX11_isSlow_1 ⟨Nat.le_of_ble_eq_true rfl, Nat.le_of_ble_eq_true rfl⟩ (fun z1 H locs hz1 hEz1 hP hS => ?_)
  refine lv_if_ne (tgt := 14) hx hb dX11_isSlow_4 (by decide) (fun c1 => ?_) (fun c1 => ?_)
  · skip
    refine lv_iconst (v := 1) hx hb dX11_isSlow_14 (by decide) ?_
    refine lv_goto (tgt := 19) hx hb dX11_isSlow_15 (by decide) ?_
    exact hret H locs _ ls 1 () dX11_isSlow_19 (by clear hP hD hS hl; replace hz1 := hz1.symm; subst hz1; exact congrArg (fun x => (x, ())) (((if_neg c1).trans (rfl))).symm) (Or.inr rfl) (Or.inr rfl) hP hD hS
  · skip
    refine lv_iload_n hx hb dX11_isSlow_7 rfl (lv_at hl 0 rfl) ?_
    refine k_iS (As := [.int p0]) (rest := []) ⟨hx, hb, hml, hown, hts⟩ hK hP hD hS hA (mX11_isDivide l G cI cB cP   H.size p0 ) (va_cwS 1 hts gX11_isSlow_X11_isDivide rfl rfl rfl (by decide +kernel) ⟨Nat.le_of_ble_eq_true rfl, Nat.le_of_ble_eq_true rfl⟩) rfl hl.1 rfl (Nat.le_of_ble_eq_true rfl) dX11_isSlow_8 ⟨Nat.le_of_ble_eq_true rfl, Nat.le_of_ble_eq_true rfl⟩ (fun z2 H locs hz2 hEz2 hP hS => ?_)
    refine lv_if_eq (tgt := 18) hx hb dX11_isSlow_11 (by decide) (fun c2 => ?_) (fun c2 => ?_)
    · skip
      refine lv_iconst (v := 0) hx hb dX11_isSlow_18 (by decide) ?_
      exact hret H locs _ ls 0 () dX11_isSlow_19 (by clear hP hD hS hl; replace hz2 := hz2.symm; subst hz2; replace hz1 := hz1.symm; subst hz1; exact congrArg (fun x => (x, ())) (((if_pos c1).trans ((if_pos c2).trans (rfl)))).symm) (Or.inl rfl) (Or.inl rfl) hP hD hS
    · skip
      refine lv_iconst (v := 1) hx hb dX11_isSlow_14 (by decide) ?_
      refine lv_goto (tgt := 19) hx hb dX11_isSlow_15 (by decide) ?_
      exact hret H locs _ ls 1 () dX11_isSlow_19 (by clear hP hD hS hl; replace hz2 := hz2.symm; subst hz2; replace hz1 := hz1.symm; subst hz1; exact congrArg (fun x => (x, ())) (((if_pos c1).trans ((if_neg c2).trans (rfl)))).symm) (Or.inr rfl) (Or.inr rfl) hP hD hS
def fX11_later (p0 : Int32) (p1 : Int32) : Int32 :=
  if p0 ≤ p1 then (p1) else (p0)
set_option maxHeartbeats 4000000 in
set_option maxRecDepth 100000 in
theorem mX11_later (l : Launch) (G : va_G) (cI cB cP : ClassId) (sz : Nat) (p0 : Int32) (p1 : Int32) : kMi (S := Unit) l yX11_later wsX11_later ({ frames := 0, cells := 0, slots := 0, locals := 0 }) [.int p0, .int p1] G (kTY cI cB cP) sz [] (fX11_later p0 p1, ()) (fun _ _ => True) (fun _ => []) := by
  refine k_ofi (cc := cX11_later) (maxL := 2) (by decide) rfl (Nat.le_of_ble_eq_true rfl) ?_
  intro p e s m args below meth c A ls Q H locs hx hb hml hown hts hin hK hP hD hA hS hl hret
  have hown : s.vm.findClass RX11 = some m.cls := hown
  have hl : lv_has ls 2 [(0, .int p0), (1, .int p1)] := hl
  refine lv_iload_n hx hb dX11_later_0 rfl (lv_at hl 0 rfl) ?_
  refine lv_iload_n hx hb dX11_later_1 rfl (lv_at hl 1 rfl) ?_
  refine lv_icmp_le (tgt := 9) hx hb dX11_later_2 (by decide) (fun c1 => ?_) (fun c1 => ?_)
  · skip
    refine lv_iload_n hx hb dX11_later_9 rfl (lv_at hl 1 rfl) ?_
    exact hret H locs _ ls p1 () dX11_later_10 (by exact congrArg (fun x => (x, ())) (((if_pos c1).trans (rfl))).symm) trivial hP hD hS
  · skip
    refine lv_iload_n hx hb dX11_later_5 rfl (lv_at hl 0 rfl) ?_
    refine lv_goto (tgt := 10) hx hb dX11_later_6 (by decide) ?_
    exact hret H locs _ ls p0 () dX11_later_10 (by exact congrArg (fun x => (x, ())) (((if_neg c1).trans (rfl))).symm) trivial hP hD hS
def fX11_linesFrom (m_lines : Int32) (m_cycles : Int32) (mlc : Nat → Int32) (mlv : Nat → Int32) (p0 : Int32) (p1 : Int32) : Int32 × Int32 × Int32 × (Nat → Int32) × (Nat → Int32) :=
  if 0 < m_cycles then ((0, 0, m_lines, mlc, mlv)) else (if p0 < 0 then ((0, 0, m_lines, mlc, mlv)) else (if m_lines = 32 then ((0, 0, m_lines, mlc, mlv)) else (if m_lines ≤ 0 then ((1, 0, m_lines + 1, upd mlc m_lines.toNatClampNeg p0, upd mlv m_lines.toNatClampNeg p1)) else ((let j1 : Int32 := if m_lines ≤ 0 then (0) else (m_lines - 1); if (mlc j1.toNatClampNeg) < p0 then ((1, 0, m_lines + 1, upd mlc m_lines.toNatClampNeg p0, upd mlv m_lines.toNatClampNeg p1)) else ((0, 0, m_lines, mlc, mlv)))))))
theorem lkX11_linesFrom_24 : Cond.fieldLink RX11 24 "TwinIssueModel" "lineCounts" "[I" ∈ wsX11_linesFrom := by decide +kernel
theorem lkX11_linesFrom_27 : Cond.fieldLink RX11 27 "TwinIssueModel" "lineValues" "[I" ∈ wsX11_linesFrom := by decide +kernel
theorem lkX11_linesFrom_49 : Cond.fieldLink RX11 49 "TwinIssueModel" "thrown" "I" ∈ wsX11_linesFrom := by decide +kernel
theorem lkX11_linesFrom_72 : Cond.fieldLink RX11 72 "TwinIssueModel" "lines" "I" ∈ wsX11_linesFrom := by decide +kernel
theorem lkX11_linesFrom_75 : Cond.fieldLink RX11 75 "TwinIssueModel" "cycles" "I" ∈ wsX11_linesFrom := by decide +kernel
theorem iwX11_linesFrom_X11 : ∀ w ∈ wsX110, w ∈ wsX11_linesFrom := fun _ h => List.mem_cons_of_mem _ (List.mem_append_right _ h)
def sX11_linesFrom (m_lines : Int32) (m_cycles : Int32) (mlc : Nat → Int32) (p0 : Int32) : Prop :=
  (0 < m_cycles → True) ∧ (¬ (0 < m_cycles) → ((p0 < 0 → True) ∧ (¬ (p0 < 0) → ((m_lines = 32 → True) ∧ (¬ (m_lines = 32) → ((m_lines ≤ 0 → ((vp_in m_lines 32) ∧ ((vp_in m_lines 32) ∧ True))) ∧ (¬ (m_lines ≤ 0) → (((m_lines ≤ 0 → True) ∧ (¬ (m_lines ≤ 0) → True)) ∧ (∀ j1 : Int32, j1 = (if m_lines ≤ 0 then (0) else (m_lines - 1)) → ((vp_in j1 32) ∧ (((mlc j1.toNatClampNeg) < p0 → ((vp_in m_lines 32) ∧ ((vp_in m_lines 32) ∧ True))) ∧ (¬ ((mlc j1.toNatClampNeg) < p0) → True))))))))))))
set_option maxHeartbeats 4000000 in
set_option maxRecDepth 100000 in
theorem mX11_linesFrom (l : Launch) (G : va_G) (cI cB cP : ClassId) (aM aMm aMr aMs aMw aMc aMv aMf aMi aMd aMy : Nat) (m_thrown : Int32) (m_sets : Int32) (m_sum : Int64) (m_pc : Int32) (m_slot : Int32) (m_branch : Int32) (m_target : Int32) (m_retired : Int32) (m_lines : Int32) (m_cycles : Int32) (m_events : Int32) (m_exceptions : Int32) (m_doubles : Int32) (m_longest : Int32) (m_word : Int32) (m_codeFault : Int32) (m_fetched : Int32) (m_issued : Int32) (m_due : Int32) (m_starts : Int32) (m_exception : Int32) (m_eea : Int32) (m_register : Int32) (m_value : Int32) (m_flag : Int32) (m_carry : Int32) (m_overflow : Int32) (m_sums : Int32) (m_newSum : Int64) (m_store : Int32) (m_bytes : Int32) (m_stored : Int32) (m_next : Int32) (m_goal : Int32) (m_returns : Int32) (m_lastWord : Int32) (m_lastReadable : Int32) (m_lastPc : Int32) (m_lastFetched : Int32) (m_lastStarts : Int32) (m_lastApart : Int32) (m_redirected : Int32) (m_behind : Int32) (m_flagReady : Int32) (m_carryReady : Int32) (m_sumReady : Int32) (m_divided : Int32) (m_foreseen : Int32) (m_expected : Int32) (m_went : Int32) (mlc : Nat → Int32) (mlv : Nat → Int32) (sz : Nat) (p0 : Int32) (p1 : Int32) (hs : sX11_linesFrom m_lines m_cycles mlc p0) : kMi (S := Int32 × Int32 × (Nat → Int32) × (Nat → Int32)) l yX11_linesFrom wsX11_linesFrom ({ frames := 0, cells := 0, slots := 0, locals := 0 }) [.ref aM, .int p0, .int p1] G (kTY cI cB cP) sz [(aM, .inr (11, [.int m_thrown, .ref aMm, .ref aMr, .int m_sets, .ref aMs, .ref aMw, .long m_sum, .int m_pc, .int m_slot, .int m_branch, .int m_target, .int m_retired, .ref aMc, .ref aMv, .int m_lines, .int m_cycles, .int m_events, .int m_exceptions, .int m_doubles, .int m_longest, .ref aMf, .int m_word, .int m_codeFault, .int m_fetched, .int m_issued, .int m_due, .int m_starts, .int m_exception, .int m_eea, .int m_register, .int m_value, .int m_flag, .int m_carry, .int m_overflow, .int m_sums, .long m_newSum, .int m_store, .int m_bytes, .int m_stored, .int m_next, .int m_goal, .int m_returns, .ref aMi, .ref aMd, .int m_lastWord, .int m_lastReadable, .int m_lastPc, .int m_lastFetched, .int m_lastStarts, .int m_lastApart, .int m_redirected, .int m_behind, .ref aMy, .int m_flagReady, .int m_carryReady, .int m_sumReady, .int m_divided, .int m_foreseen, .int m_expected, .int m_went])), (aMc, .inl (cI, 32, .inl mlc)), (aMv, .inl (cI, 32, .inl mlv))] (fX11_linesFrom m_lines m_cycles mlc mlv p0 p1) (fun r _ => isB r) (fun u => [(aM, .inr (11, [.int u.1, .ref aMm, .ref aMr, .int m_sets, .ref aMs, .ref aMw, .long m_sum, .int m_pc, .int m_slot, .int m_branch, .int m_target, .int m_retired, .ref aMc, .ref aMv, .int u.2.1, .int m_cycles, .int m_events, .int m_exceptions, .int m_doubles, .int m_longest, .ref aMf, .int m_word, .int m_codeFault, .int m_fetched, .int m_issued, .int m_due, .int m_starts, .int m_exception, .int m_eea, .int m_register, .int m_value, .int m_flag, .int m_carry, .int m_overflow, .int m_sums, .long m_newSum, .int m_store, .int m_bytes, .int m_stored, .int m_next, .int m_goal, .int m_returns, .ref aMi, .ref aMd, .int m_lastWord, .int m_lastReadable, .int m_lastPc, .int m_lastFetched, .int m_lastStarts, .int m_lastApart, .int m_redirected, .int m_behind, .ref aMy, .int m_flagReady, .int m_carryReady, .int m_sumReady, .int m_divided, .int m_foreseen, .int m_expected, .int m_went])), (aMc, .inl (cI, 32, .inl u.2.2.1)), (aMv, .inl (cI, 32, .inl u.2.2.2))]) := by
  refine k_ofz (cc := cX11_linesFrom) (maxL := 3) (by decide) rfl (Nat.le_of_ble_eq_true rfl) ?_
  intro p e s m args below meth c A ls Q H locs hx hb hml hown hts hin hK hP hD hA hS hl hret
  have hown : s.vm.findClass RX11 = some m.cls := hown
  have hl : lv_has ls 3 [(0, .ref aM), (1, .int p0), (2, .int p1)] := hl
  unfold sX11_linesFrom at hs
  refine lv_aload_n hx hb dX11_linesFrom_0 rfl (lv_at hl 0 rfl) ?_
  refine lv_iconst (v := 0) hx hb dX11_linesFrom_1 (by decide) ?_
  refine va_put (D := G) (ci := 11) (v := .int 0) (ty := .int) (C := RX11) (T := TX11) (N := 60) hx hb hts iwX11_linesFrom_X11 tyX11 tyX11_ok nmX11 hown hK hP hD hS 0 rfl rfl 0 (by decide) (hts _ lkX11_linesFrom_49) (fun _ h9 => h9) rfl (by decide +kernel) rfl rfl (Nat.le_of_ble_eq_true rfl) dX11_linesFrom_2 (fun H locs hP hD hS => ?_)
  have hP : va_P G vwCl [(aM, .inr (11, [.int 0, .ref aMm, .ref aMr, .int m_sets, .ref aMs, .ref aMw, .long m_sum, .int m_pc, .int m_slot, .int m_branch, .int m_target, .int m_retired, .ref aMc, .ref aMv, .int m_lines, .int m_cycles, .int m_events, .int m_exceptions, .int m_doubles, .int m_longest, .ref aMf, .int m_word, .int m_codeFault, .int m_fetched, .int m_issued, .int m_due, .int m_starts, .int m_exception, .int m_eea, .int m_register, .int m_value, .int m_flag, .int m_carry, .int m_overflow, .int m_sums, .long m_newSum, .int m_store, .int m_bytes, .int m_stored, .int m_next, .int m_goal, .int m_returns, .ref aMi, .ref aMd, .int m_lastWord, .int m_lastReadable, .int m_lastPc, .int m_lastFetched, .int m_lastStarts, .int m_lastApart, .int m_redirected, .int m_behind, .ref aMy, .int m_flagReady, .int m_carryReady, .int m_sumReady, .int m_divided, .int m_foreseen, .int m_expected, .int m_went])), (aMc, .inl (cI, 32, .inl mlc)), (aMv, .inl (cI, 32, .inl mlv))] H := hP
  have hD : va_D A [(aM, .inr (11, [.int 0, .ref aMm, .ref aMr, .int m_sets, .ref aMs, .ref aMw, .long m_sum, .int m_pc, .int m_slot, .int m_branch, .int m_target, .int m_retired, .ref aMc, .ref aMv, .int m_lines, .int m_cycles, .int m_events, .int m_exceptions, .int m_doubles, .int m_longest, .ref aMf, .int m_word, .int m_codeFault, .int m_fetched, .int m_issued, .int m_due, .int m_starts, .int m_exception, .int m_eea, .int m_register, .int m_value, .int m_flag, .int m_carry, .int m_overflow, .int m_sums, .long m_newSum, .int m_store, .int m_bytes, .int m_stored, .int m_next, .int m_goal, .int m_returns, .ref aMi, .ref aMd, .int m_lastWord, .int m_lastReadable, .int m_lastPc, .int m_lastFetched, .int m_lastStarts, .int m_lastApart, .int m_redirected, .int m_behind, .ref aMy, .int m_flagReady, .int m_carryReady, .int m_sumReady, .int m_divided, .int m_foreseen, .int m_expected, .int m_went])), (aMc, .inl (cI, 32, .inl mlc)), (aMv, .inl (cI, 32, .inl mlv))] := hD
  refine lv_aload_n hx hb dX11_linesFrom_5 rfl (lv_at hl 0 rfl) ?_
  refine va_get (D := G) (ci := 11) (v := .int m_cycles) (C := RX11) (T := TX11) (N := 60) hx hb hts iwX11_linesFrom_X11 hown hK hP 0 rfl rfl 15 (by decide) (hts _ lkX11_linesFrom_75) (fun _ h9 => h9) rfl dX11_linesFrom_6 ?_
  refine lv_if_gt (tgt := 58) hx hb dX11_linesFrom_9 (by decide) (fun c1 => ?_) (fun c1 => ?_)
  · have hs := hs.1 c1
    refine lv_iconst (v := 0) hx hb dX11_linesFrom_58 (by decide) ?_
    exact hret H locs _ ls 0 (0, m_lines, mlc, mlv) dX11_linesFrom_59 ((if_pos c1).trans (rfl)).symm (Or.inl rfl) (Or.inl rfl) hP hD hS
  · have hs := hs.2 c1
    refine lv_iload_n hx hb dX11_linesFrom_12 rfl (lv_at hl 1 rfl) ?_
    refine lv_if_lt (tgt := 58) hx hb dX11_linesFrom_13 (by decide) (fun c2 => ?_) (fun c2 => ?_)
    · have hs := hs.1 c2
      refine lv_iconst (v := 0) hx hb dX11_linesFrom_58 (by decide) ?_
      exact hret H locs _ ls 0 (0, m_lines, mlc, mlv) dX11_linesFrom_59 ((if_neg c1).trans ((if_pos c2).trans (rfl))).symm (Or.inl rfl) (Or.inl rfl) hP hD hS
    · have hs := hs.2 c2
      refine lv_aload_n hx hb dX11_linesFrom_16 rfl (lv_at hl 0 rfl) ?_
      refine va_get (D := G) (ci := 11) (v := .int m_lines) (C := RX11) (T := TX11) (N := 60) hx hb hts iwX11_linesFrom_X11 hown hK hP 0 rfl rfl 14 (by decide) (hts _ lkX11_linesFrom_72) (fun _ h9 => h9) rfl dX11_linesFrom_17 ?_
      refine lv_bipush (v := 32) hx hb dX11_linesFrom_20 (by decide) ?_
      refine lv_icmp_eq (tgt := 58) hx hb dX11_linesFrom_22 (by decide) (fun c3 => ?_) (fun c3 => ?_)
      · have hs := hs.1 c3
        refine lv_iconst (v := 0) hx hb dX11_linesFrom_58 (by decide) ?_
        exact hret H locs _ ls 0 (0, m_lines, mlc, mlv) dX11_linesFrom_59 ((if_neg c1).trans ((if_neg c2).trans ((if_pos c3).trans (rfl)))).symm (Or.inl rfl) (Or.inl rfl) hP hD hS
      · have hs := hs.2 c3
        refine lv_aload_n hx hb dX11_linesFrom_25 rfl (lv_at hl 0 rfl) ?_
        refine va_get (D := G) (ci := 11) (v := .int m_lines) (C := RX11) (T := TX11) (N := 60) hx hb hts iwX11_linesFrom_X11 hown hK hP 0 rfl rfl 14 (by decide) (hts _ lkX11_linesFrom_72) (fun _ h9 => h9) rfl dX11_linesFrom_26 ?_
        refine lv_if_le (tgt := 60) hx hb dX11_linesFrom_29 (by decide) (fun c4 => ?_) (fun c4 => ?_)
        · have hs := hs.1 c4
          refine lv_aload_n hx hb dX11_linesFrom_60 rfl (lv_at hl 0 rfl) ?_
          refine va_get (D := G) (ci := 11) (v := .ref aMc) (C := RX11) (T := TX11) (N := 60) hx hb hts iwX11_linesFrom_X11 hown hK hP 0 rfl rfl 12 (by decide) (hts _ lkX11_linesFrom_24) (fun _ h9 => h9) rfl dX11_linesFrom_61 ?_
          refine lv_aload_n hx hb dX11_linesFrom_64 rfl (lv_at hl 0 rfl) ?_
          refine va_get (D := G) (ci := 11) (v := .int m_lines) (C := RX11) (T := TX11) (N := 60) hx hb hts iwX11_linesFrom_X11 hown hK hP 0 rfl rfl 14 (by decide) (hts _ lkX11_linesFrom_72) (fun _ h9 => h9) rfl dX11_linesFrom_65 ?_
          refine lv_iload_n hx hb dX11_linesFrom_68 rfl (lv_at hl 1 rfl) ?_
          obtain ⟨o1, hs⟩ := hs
          refine va_iast hx hb hK hP hD hS 1 0 rfl rfl o1 dX11_linesFrom_69 (fun H locs hP hD hS => ?_)
          have hP : va_P G vwCl [(aM, .inr (11, [.int 0, .ref aMm, .ref aMr, .int m_sets, .ref aMs, .ref aMw, .long m_sum, .int m_pc, .int m_slot, .int m_branch, .int m_target, .int m_retired, .ref aMc, .ref aMv, .int m_lines, .int m_cycles, .int m_events, .int m_exceptions, .int m_doubles, .int m_longest, .ref aMf, .int m_word, .int m_codeFault, .int m_fetched, .int m_issued, .int m_due, .int m_starts, .int m_exception, .int m_eea, .int m_register, .int m_value, .int m_flag, .int m_carry, .int m_overflow, .int m_sums, .long m_newSum, .int m_store, .int m_bytes, .int m_stored, .int m_next, .int m_goal, .int m_returns, .ref aMi, .ref aMd, .int m_lastWord, .int m_lastReadable, .int m_lastPc, .int m_lastFetched, .int m_lastStarts, .int m_lastApart, .int m_redirected, .int m_behind, .ref aMy, .int m_flagReady, .int m_carryReady, .int m_sumReady, .int m_divided, .int m_foreseen, .int m_expected, .int m_went])), (aMc, .inl (cI, 32, .inl (upd mlc m_lines.toNatClampNeg p0))), (aMv, .inl (cI, 32, .inl mlv))] H := hP
          have hD : va_D A [(aM, .inr (11, [.int 0, .ref aMm, .ref aMr, .int m_sets, .ref aMs, .ref aMw, .long m_sum, .int m_pc, .int m_slot, .int m_branch, .int m_target, .int m_retired, .ref aMc, .ref aMv, .int m_lines, .int m_cycles, .int m_events, .int m_exceptions, .int m_doubles, .int m_longest, .ref aMf, .int m_word, .int m_codeFault, .int m_fetched, .int m_issued, .int m_due, .int m_starts, .int m_exception, .int m_eea, .int m_register, .int m_value, .int m_flag, .int m_carry, .int m_overflow, .int m_sums, .long m_newSum, .int m_store, .int m_bytes, .int m_stored, .int m_next, .int m_goal, .int m_returns, .ref aMi, .ref aMd, .int m_lastWord, .int m_lastReadable, .int m_lastPc, .int m_lastFetched, .int m_lastStarts, .int m_lastApart, .int m_redirected, .int m_behind, .ref aMy, .int m_flagReady, .int m_carryReady, .int m_sumReady, .int m_divided, .int m_foreseen, .int m_expected, .int m_went])), (aMc, .inl (cI, 32, .inl (upd mlc m_lines.toNatClampNeg p0))), (aMv, .inl (cI, 32, .inl mlv))] := hD
          refine lv_aload_n hx hb dX11_linesFrom_70 rfl (lv_at hl 0 rfl) ?_
          refine va_get (D := G) (ci := 11) (v := .ref aMv) (C := RX11) (T := TX11) (N := 60) hx hb hts iwX11_linesFrom_X11 hown hK hP 0 rfl rfl 13 (by decide) (hts _ lkX11_linesFrom_27) (fun _ h9 => h9) rfl dX11_linesFrom_71 ?_
          refine lv_aload_n hx hb dX11_linesFrom_74 rfl (lv_at hl 0 rfl) ?_
          refine va_get (D := G) (ci := 11) (v := .int m_lines) (C := RX11) (T := TX11) (N := 60) hx hb hts iwX11_linesFrom_X11 hown hK hP 0 rfl rfl 14 (by decide) (hts _ lkX11_linesFrom_72) (fun _ h9 => h9) rfl dX11_linesFrom_75 ?_
          refine lv_iload_n hx hb dX11_linesFrom_78 rfl (lv_at hl 2 rfl) ?_
          obtain ⟨o2, hs⟩ := hs
          refine va_iast hx hb hK hP hD hS 2 0 rfl rfl o2 dX11_linesFrom_79 (fun H locs hP hD hS => ?_)
          have hP : va_P G vwCl [(aM, .inr (11, [.int 0, .ref aMm, .ref aMr, .int m_sets, .ref aMs, .ref aMw, .long m_sum, .int m_pc, .int m_slot, .int m_branch, .int m_target, .int m_retired, .ref aMc, .ref aMv, .int m_lines, .int m_cycles, .int m_events, .int m_exceptions, .int m_doubles, .int m_longest, .ref aMf, .int m_word, .int m_codeFault, .int m_fetched, .int m_issued, .int m_due, .int m_starts, .int m_exception, .int m_eea, .int m_register, .int m_value, .int m_flag, .int m_carry, .int m_overflow, .int m_sums, .long m_newSum, .int m_store, .int m_bytes, .int m_stored, .int m_next, .int m_goal, .int m_returns, .ref aMi, .ref aMd, .int m_lastWord, .int m_lastReadable, .int m_lastPc, .int m_lastFetched, .int m_lastStarts, .int m_lastApart, .int m_redirected, .int m_behind, .ref aMy, .int m_flagReady, .int m_carryReady, .int m_sumReady, .int m_divided, .int m_foreseen, .int m_expected, .int m_went])), (aMc, .inl (cI, 32, .inl (upd mlc m_lines.toNatClampNeg p0))), (aMv, .inl (cI, 32, .inl (upd mlv m_lines.toNatClampNeg p1)))] H := hP
          have hD : va_D A [(aM, .inr (11, [.int 0, .ref aMm, .ref aMr, .int m_sets, .ref aMs, .ref aMw, .long m_sum, .int m_pc, .int m_slot, .int m_branch, .int m_target, .int m_retired, .ref aMc, .ref aMv, .int m_lines, .int m_cycles, .int m_events, .int m_exceptions, .int m_doubles, .int m_longest, .ref aMf, .int m_word, .int m_codeFault, .int m_fetched, .int m_issued, .int m_due, .int m_starts, .int m_exception, .int m_eea, .int m_register, .int m_value, .int m_flag, .int m_carry, .int m_overflow, .int m_sums, .long m_newSum, .int m_store, .int m_bytes, .int m_stored, .int m_next, .int m_goal, .int m_returns, .ref aMi, .ref aMd, .int m_lastWord, .int m_lastReadable, .int m_lastPc, .int m_lastFetched, .int m_lastStarts, .int m_lastApart, .int m_redirected, .int m_behind, .ref aMy, .int m_flagReady, .int m_carryReady, .int m_sumReady, .int m_divided, .int m_foreseen, .int m_expected, .int m_went])), (aMc, .inl (cI, 32, .inl (upd mlc m_lines.toNatClampNeg p0))), (aMv, .inl (cI, 32, .inl (upd mlv m_lines.toNatClampNeg p1)))] := hD
          refine lv_aload_n hx hb dX11_linesFrom_80 rfl (lv_at hl 0 rfl) ?_
          refine lv_dup hx hb dX11_linesFrom_81 rfl ?_
          refine va_get (D := G) (ci := 11) (v := .int m_lines) (C := RX11) (T := TX11) (N := 60) hx hb hts iwX11_linesFrom_X11 hown hK hP 0 rfl rfl 14 (by decide) (hts _ lkX11_linesFrom_72) (fun _ h9 => h9) rfl dX11_linesFrom_82 ?_
          refine lv_iconst (v := 1) hx hb dX11_linesFrom_85 (by decide) ?_
          refine lv_iadd hx hb dX11_linesFrom_86 ?_
          refine va_put (D := G) (ci := 11) (v := .int (m_lines + 1)) (ty := .int) (C := RX11) (T := TX11) (N := 60) hx hb hts iwX11_linesFrom_X11 tyX11 tyX11_ok nmX11 hown hK hP hD hS 0 rfl rfl 14 (by decide) (hts _ lkX11_linesFrom_72) (fun _ h9 => h9) rfl (by decide +kernel) rfl rfl (Nat.le_of_ble_eq_true rfl) dX11_linesFrom_87 (fun H locs hP hD hS => ?_)
          have hP : va_P G vwCl [(aM, .inr (11, [.int 0, .ref aMm, .ref aMr, .int m_sets, .ref aMs, .ref aMw, .long m_sum, .int m_pc, .int m_slot, .int m_branch, .int m_target, .int m_retired, .ref aMc, .ref aMv, .int (m_lines + 1), .int m_cycles, .int m_events, .int m_exceptions, .int m_doubles, .int m_longest, .ref aMf, .int m_word, .int m_codeFault, .int m_fetched, .int m_issued, .int m_due, .int m_starts, .int m_exception, .int m_eea, .int m_register, .int m_value, .int m_flag, .int m_carry, .int m_overflow, .int m_sums, .long m_newSum, .int m_store, .int m_bytes, .int m_stored, .int m_next, .int m_goal, .int m_returns, .ref aMi, .ref aMd, .int m_lastWord, .int m_lastReadable, .int m_lastPc, .int m_lastFetched, .int m_lastStarts, .int m_lastApart, .int m_redirected, .int m_behind, .ref aMy, .int m_flagReady, .int m_carryReady, .int m_sumReady, .int m_divided, .int m_foreseen, .int m_expected, .int m_went])), (aMc, .inl (cI, 32, .inl (upd mlc m_lines.toNatClampNeg p0))), (aMv, .inl (cI, 32, .inl (upd mlv m_lines.toNatClampNeg p1)))] H := hP
          have hD : va_D A [(aM, .inr (11, [.int 0, .ref aMm, .ref aMr, .int m_sets, .ref aMs, .ref aMw, .long m_sum, .int m_pc, .int m_slot, .int m_branch, .int m_target, .int m_retired, .ref aMc, .ref aMv, .int (m_lines + 1), .int m_cycles, .int m_events, .int m_exceptions, .int m_doubles, .int m_longest, .ref aMf, .int m_word, .int m_codeFault, .int m_fetched, .int m_issued, .int m_due, .int m_starts, .int m_exception, .int m_eea, .int m_register, .int m_value, .int m_flag, .int m_carry, .int m_overflow, .int m_sums, .long m_newSum, .int m_store, .int m_bytes, .int m_stored, .int m_next, .int m_goal, .int m_returns, .ref aMi, .ref aMd, .int m_lastWord, .int m_lastReadable, .int m_lastPc, .int m_lastFetched, .int m_lastStarts, .int m_lastApart, .int m_redirected, .int m_behind, .ref aMy, .int m_flagReady, .int m_carryReady, .int m_sumReady, .int m_divided, .int m_foreseen, .int m_expected, .int m_went])), (aMc, .inl (cI, 32, .inl (upd mlc m_lines.toNatClampNeg p0))), (aMv, .inl (cI, 32, .inl (upd mlv m_lines.toNatClampNeg p1)))] := hD
          refine lv_iconst (v := 1) hx hb dX11_linesFrom_90 (by decide) ?_
          exact hret H locs _ ls 1 (0, m_lines + 1, upd mlc m_lines.toNatClampNeg p0, upd mlv m_lines.toNatClampNeg p1) dX11_linesFrom_91 ((if_neg c1).trans ((if_neg c2).trans ((if_neg c3).trans ((if_pos c4).trans (rfl))))).symm (Or.inr rfl) (Or.inr rfl) hP hD hS
        · have hs := hs.2 c4
          refine lv_iload_n hx hb dX11_linesFrom_32 rfl (lv_at hl 1 rfl) ?_
          refine lv_aload_n hx hb dX11_linesFrom_33 rfl (lv_at hl 0 rfl) ?_
          refine va_get (D := G) (ci := 11) (v := .ref aMc) (C := RX11) (T := TX11) (N := 60) hx hb hts iwX11_linesFrom_X11 hown hK hP 0 rfl rfl 12 (by decide) (hts _ lkX11_linesFrom_24) (fun _ h9 => h9) rfl dX11_linesFrom_34 ?_
          refine lv_aload_n hx hb dX11_linesFrom_37 rfl (lv_at hl 0 rfl) ?_
          refine va_get (D := G) (ci := 11) (v := .int m_lines) (C := RX11) (T := TX11) (N := 60) hx hb hts iwX11_linesFrom_X11 hown hK hP 0 rfl rfl 14 (by decide) (hts _ lkX11_linesFrom_72) (fun _ h9 => h9) rfl dX11_linesFrom_38 ?_
          have Kj1 : ∀ (j1 : Int32) (H : Heap) (locs : List Loc) (ls : Array Slot), j1 = (if m_lines ≤ 0 then (0) else (m_lines - 1)) → va_P G vwCl [(aM, .inr (11, [.int 0, .ref aMm, .ref aMr, .int m_sets, .ref aMs, .ref aMw, .long m_sum, .int m_pc, .int m_slot, .int m_branch, .int m_target, .int m_retired, .ref aMc, .ref aMv, .int m_lines, .int m_cycles, .int m_events, .int m_exceptions, .int m_doubles, .int m_longest, .ref aMf, .int m_word, .int m_codeFault, .int m_fetched, .int m_issued, .int m_due, .int m_starts, .int m_exception, .int m_eea, .int m_register, .int m_value, .int m_flag, .int m_carry, .int m_overflow, .int m_sums, .long m_newSum, .int m_store, .int m_bytes, .int m_stored, .int m_next, .int m_goal, .int m_returns, .ref aMi, .ref aMd, .int m_lastWord, .int m_lastReadable, .int m_lastPc, .int m_lastFetched, .int m_lastStarts, .int m_lastApart, .int m_redirected, .int m_behind, .ref aMy, .int m_flagReady, .int m_carryReady, .int m_sumReady, .int m_divided, .int m_foreseen, .int m_expected, .int m_went])), (aMc, .inl (cI, 32, .inl mlc)), (aMv, .inl (cI, 32, .inl mlv))] H → va_D A [(aM, .inr (11, [.int 0, .ref aMm, .ref aMr, .int m_sets, .ref aMs, .ref aMw, .long m_sum, .int m_pc, .int m_slot, .int m_branch, .int m_target, .int m_retired, .ref aMc, .ref aMv, .int m_lines, .int m_cycles, .int m_events, .int m_exceptions, .int m_doubles, .int m_longest, .ref aMf, .int m_word, .int m_codeFault, .int m_fetched, .int m_issued, .int m_due, .int m_starts, .int m_exception, .int m_eea, .int m_register, .int m_value, .int m_flag, .int m_carry, .int m_overflow, .int m_sums, .long m_newSum, .int m_store, .int m_bytes, .int m_stored, .int m_next, .int m_goal, .int m_returns, .ref aMi, .ref aMd, .int m_lastWord, .int m_lastReadable, .int m_lastPc, .int m_lastFetched, .int m_lastStarts, .int m_lastApart, .int m_redirected, .int m_behind, .ref aMy, .int m_flagReady, .int m_carryReady, .int m_sumReady, .int m_divided, .int m_foreseen, .int m_expected, .int m_went])), (aMc, .inl (cI, 32, .inl mlc)), (aMv, .inl (cI, 32, .inl mlv))] → va_S A s.heap H locs → lv_has ls 3 [(0, .ref aM), (1, .int p0), (2, .int p1)] → W p l e ({ frames := 0, cells := 0, slots := 0, locals := 0 }) s m args below meth c H locs 0 0 Q (F0 m 54 ls [.int j1, .ref aMc, .int p0]) := by
            intro j1 H locs ls hj1 hP hD hS hl
            have hs := hs.2 j1 hj1
            obtain ⟨o3, hs⟩ := hs
            refine va_iald hx hb hK hP 1 0 rfl rfl o3 dX11_linesFrom_54 ?_
            refine lv_icmp_gt (tgt := 60) hx hb dX11_linesFrom_55 (by decide) (fun c7 => ?_) (fun c7 => ?_)
            · have hs := hs.1 c7
              refine lv_aload_n hx hb dX11_linesFrom_60 rfl (lv_at hl 0 rfl) ?_
              refine va_get (D := G) (ci := 11) (v := .ref aMc) (C := RX11) (T := TX11) (N := 60) hx hb hts iwX11_linesFrom_X11 hown hK hP 0 rfl rfl 12 (by decide) (hts _ lkX11_linesFrom_24) (fun _ h9 => h9) rfl dX11_linesFrom_61 ?_
              refine lv_aload_n hx hb dX11_linesFrom_64 rfl (lv_at hl 0 rfl) ?_
              refine va_get (D := G) (ci := 11) (v := .int m_lines) (C := RX11) (T := TX11) (N := 60) hx hb hts iwX11_linesFrom_X11 hown hK hP 0 rfl rfl 14 (by decide) (hts _ lkX11_linesFrom_72) (fun _ h9 => h9) rfl dX11_linesFrom_65 ?_
              refine lv_iload_n hx hb dX11_linesFrom_68 rfl (lv_at hl 1 rfl) ?_
              obtain ⟨o4, hs⟩ := hs
              refine va_iast hx hb hK hP hD hS 1 0 rfl rfl o4 dX11_linesFrom_69 (fun H locs hP hD hS => ?_)
              have hP : va_P G vwCl [(aM, .inr (11, [.int 0, .ref aMm, .ref aMr, .int m_sets, .ref aMs, .ref aMw, .long m_sum, .int m_pc, .int m_slot, .int m_branch, .int m_target, .int m_retired, .ref aMc, .ref aMv, .int m_lines, .int m_cycles, .int m_events, .int m_exceptions, .int m_doubles, .int m_longest, .ref aMf, .int m_word, .int m_codeFault, .int m_fetched, .int m_issued, .int m_due, .int m_starts, .int m_exception, .int m_eea, .int m_register, .int m_value, .int m_flag, .int m_carry, .int m_overflow, .int m_sums, .long m_newSum, .int m_store, .int m_bytes, .int m_stored, .int m_next, .int m_goal, .int m_returns, .ref aMi, .ref aMd, .int m_lastWord, .int m_lastReadable, .int m_lastPc, .int m_lastFetched, .int m_lastStarts, .int m_lastApart, .int m_redirected, .int m_behind, .ref aMy, .int m_flagReady, .int m_carryReady, .int m_sumReady, .int m_divided, .int m_foreseen, .int m_expected, .int m_went])), (aMc, .inl (cI, 32, .inl (upd mlc m_lines.toNatClampNeg p0))), (aMv, .inl (cI, 32, .inl mlv))] H := hP
              have hD : va_D A [(aM, .inr (11, [.int 0, .ref aMm, .ref aMr, .int m_sets, .ref aMs, .ref aMw, .long m_sum, .int m_pc, .int m_slot, .int m_branch, .int m_target, .int m_retired, .ref aMc, .ref aMv, .int m_lines, .int m_cycles, .int m_events, .int m_exceptions, .int m_doubles, .int m_longest, .ref aMf, .int m_word, .int m_codeFault, .int m_fetched, .int m_issued, .int m_due, .int m_starts, .int m_exception, .int m_eea, .int m_register, .int m_value, .int m_flag, .int m_carry, .int m_overflow, .int m_sums, .long m_newSum, .int m_store, .int m_bytes, .int m_stored, .int m_next, .int m_goal, .int m_returns, .ref aMi, .ref aMd, .int m_lastWord, .int m_lastReadable, .int m_lastPc, .int m_lastFetched, .int m_lastStarts, .int m_lastApart, .int m_redirected, .int m_behind, .ref aMy, .int m_flagReady, .int m_carryReady, .int m_sumReady, .int m_divided, .int m_foreseen, .int m_expected, .int m_went])), (aMc, .inl (cI, 32, .inl (upd mlc m_lines.toNatClampNeg p0))), (aMv, .inl (cI, 32, .inl mlv))] := hD
              refine lv_aload_n hx hb dX11_linesFrom_70 rfl (lv_at hl 0 rfl) ?_
              refine va_get (D := G) (ci := 11) (v := .ref aMv) (C := RX11) (T := TX11) (N := 60) hx hb hts iwX11_linesFrom_X11 hown hK hP 0 rfl rfl 13 (by decide) (hts _ lkX11_linesFrom_27) (fun _ h9 => h9) rfl dX11_linesFrom_71 ?_
              refine lv_aload_n hx hb dX11_linesFrom_74 rfl (lv_at hl 0 rfl) ?_
              refine va_get (D := G) (ci := 11) (v := .int m_lines) (C := RX11) (T := TX11) (N := 60) hx hb hts iwX11_linesFrom_X11 hown hK hP 0 rfl rfl 14 (by decide) (hts _ lkX11_linesFrom_72) (fun _ h9 => h9) rfl dX11_linesFrom_75 ?_
              refine lv_iload_n hx hb dX11_linesFrom_78 rfl (lv_at hl 2 rfl) ?_
              obtain ⟨o5, hs⟩ := hs
              refine va_iast hx hb hK hP hD hS 2 0 rfl rfl o5 dX11_linesFrom_79 (fun H locs hP hD hS => ?_)
              have hP : va_P G vwCl [(aM, .inr (11, [.int 0, .ref aMm, .ref aMr, .int m_sets, .ref aMs, .ref aMw, .long m_sum, .int m_pc, .int m_slot, .int m_branch, .int m_target, .int m_retired, .ref aMc, .ref aMv, .int m_lines, .int m_cycles, .int m_events, .int m_exceptions, .int m_doubles, .int m_longest, .ref aMf, .int m_word, .int m_codeFault, .int m_fetched, .int m_issued, .int m_due, .int m_starts, .int m_exception, .int m_eea, .int m_register, .int m_value, .int m_flag, .int m_carry, .int m_overflow, .int m_sums, .long m_newSum, .int m_store, .int m_bytes, .int m_stored, .int m_next, .int m_goal, .int m_returns, .ref aMi, .ref aMd, .int m_lastWord, .int m_lastReadable, .int m_lastPc, .int m_lastFetched, .int m_lastStarts, .int m_lastApart, .int m_redirected, .int m_behind, .ref aMy, .int m_flagReady, .int m_carryReady, .int m_sumReady, .int m_divided, .int m_foreseen, .int m_expected, .int m_went])), (aMc, .inl (cI, 32, .inl (upd mlc m_lines.toNatClampNeg p0))), (aMv, .inl (cI, 32, .inl (upd mlv m_lines.toNatClampNeg p1)))] H := hP
              have hD : va_D A [(aM, .inr (11, [.int 0, .ref aMm, .ref aMr, .int m_sets, .ref aMs, .ref aMw, .long m_sum, .int m_pc, .int m_slot, .int m_branch, .int m_target, .int m_retired, .ref aMc, .ref aMv, .int m_lines, .int m_cycles, .int m_events, .int m_exceptions, .int m_doubles, .int m_longest, .ref aMf, .int m_word, .int m_codeFault, .int m_fetched, .int m_issued, .int m_due, .int m_starts, .int m_exception, .int m_eea, .int m_register, .int m_value, .int m_flag, .int m_carry, .int m_overflow, .int m_sums, .long m_newSum, .int m_store, .int m_bytes, .int m_stored, .int m_next, .int m_goal, .int m_returns, .ref aMi, .ref aMd, .int m_lastWord, .int m_lastReadable, .int m_lastPc, .int m_lastFetched, .int m_lastStarts, .int m_lastApart, .int m_redirected, .int m_behind, .ref aMy, .int m_flagReady, .int m_carryReady, .int m_sumReady, .int m_divided, .int m_foreseen, .int m_expected, .int m_went])), (aMc, .inl (cI, 32, .inl (upd mlc m_lines.toNatClampNeg p0))), (aMv, .inl (cI, 32, .inl (upd mlv m_lines.toNatClampNeg p1)))] := hD
              refine lv_aload_n hx hb dX11_linesFrom_80 rfl (lv_at hl 0 rfl) ?_
              refine lv_dup hx hb dX11_linesFrom_81 rfl ?_
              refine va_get (D := G) (ci := 11) (v := .int m_lines) (C := RX11) (T := TX11) (N := 60) hx hb hts iwX11_linesFrom_X11 hown hK hP 0 rfl rfl 14 (by decide) (hts _ lkX11_linesFrom_72) (fun _ h9 => h9) rfl dX11_linesFrom_82 ?_
              refine lv_iconst (v := 1) hx hb dX11_linesFrom_85 (by decide) ?_
              refine lv_iadd hx hb dX11_linesFrom_86 ?_
              refine va_put (D := G) (ci := 11) (v := .int (m_lines + 1)) (ty := .int) (C := RX11) (T := TX11) (N := 60) hx hb hts iwX11_linesFrom_X11 tyX11 tyX11_ok nmX11 hown hK hP hD hS 0 rfl rfl 14 (by decide) (hts _ lkX11_linesFrom_72) (fun _ h9 => h9) rfl (by decide +kernel) rfl rfl (Nat.le_of_ble_eq_true rfl) dX11_linesFrom_87 (fun H locs hP hD hS => ?_)
              have hP : va_P G vwCl [(aM, .inr (11, [.int 0, .ref aMm, .ref aMr, .int m_sets, .ref aMs, .ref aMw, .long m_sum, .int m_pc, .int m_slot, .int m_branch, .int m_target, .int m_retired, .ref aMc, .ref aMv, .int (m_lines + 1), .int m_cycles, .int m_events, .int m_exceptions, .int m_doubles, .int m_longest, .ref aMf, .int m_word, .int m_codeFault, .int m_fetched, .int m_issued, .int m_due, .int m_starts, .int m_exception, .int m_eea, .int m_register, .int m_value, .int m_flag, .int m_carry, .int m_overflow, .int m_sums, .long m_newSum, .int m_store, .int m_bytes, .int m_stored, .int m_next, .int m_goal, .int m_returns, .ref aMi, .ref aMd, .int m_lastWord, .int m_lastReadable, .int m_lastPc, .int m_lastFetched, .int m_lastStarts, .int m_lastApart, .int m_redirected, .int m_behind, .ref aMy, .int m_flagReady, .int m_carryReady, .int m_sumReady, .int m_divided, .int m_foreseen, .int m_expected, .int m_went])), (aMc, .inl (cI, 32, .inl (upd mlc m_lines.toNatClampNeg p0))), (aMv, .inl (cI, 32, .inl (upd mlv m_lines.toNatClampNeg p1)))] H := hP
              have hD : va_D A [(aM, .inr (11, [.int 0, .ref aMm, .ref aMr, .int m_sets, .ref aMs, .ref aMw, .long m_sum, .int m_pc, .int m_slot, .int m_branch, .int m_target, .int m_retired, .ref aMc, .ref aMv, .int (m_lines + 1), .int m_cycles, .int m_events, .int m_exceptions, .int m_doubles, .int m_longest, .ref aMf, .int m_word, .int m_codeFault, .int m_fetched, .int m_issued, .int m_due, .int m_starts, .int m_exception, .int m_eea, .int m_register, .int m_value, .int m_flag, .int m_carry, .int m_overflow, .int m_sums, .long m_newSum, .int m_store, .int m_bytes, .int m_stored, .int m_next, .int m_goal, .int m_returns, .ref aMi, .ref aMd, .int m_lastWord, .int m_lastReadable, .int m_lastPc, .int m_lastFetched, .int m_lastStarts, .int m_lastApart, .int m_redirected, .int m_behind, .ref aMy, .int m_flagReady, .int m_carryReady, .int m_sumReady, .int m_divided, .int m_foreseen, .int m_expected, .int m_went])), (aMc, .inl (cI, 32, .inl (upd mlc m_lines.toNatClampNeg p0))), (aMv, .inl (cI, 32, .inl (upd mlv m_lines.toNatClampNeg p1)))] := hD
              refine lv_iconst (v := 1) hx hb dX11_linesFrom_90 (by decide) ?_
              exact hret H locs _ ls 1 (0, m_lines + 1, upd mlc m_lines.toNatClampNeg p0, upd mlv m_lines.toNatClampNeg p1) dX11_linesFrom_91 (by clear hP hD hS hl; replace hj1 := hj1.symm; subst hj1; exact (((if_neg c1).trans ((if_neg c2).trans ((if_neg c3).trans ((if_neg c4).trans ((if_pos c7).trans (rfl))))))).symm) (Or.inr rfl) (Or.inr rfl) hP hD hS
            · have hs := hs.2 c7
              refine lv_iconst (v := 0) hx hb dX11_linesFrom_58 (by decide) ?_
              exact hret H locs _ ls 0 (0, m_lines, mlc, mlv) dX11_linesFrom_59 (by clear hP hD hS hl; replace hj1 := hj1.symm; subst hj1; exact (((if_neg c1).trans ((if_neg c2).trans ((if_neg c3).trans ((if_neg c4).trans ((if_neg c7).trans (rfl))))))).symm) (Or.inl rfl) (Or.inl rfl) hP hD hS
          have hs := hs.1
          refine lv_if_le (tgt := 53) hx hb dX11_linesFrom_41 (by decide) (fun c8 => ?_) (fun c8 => ?_)
          · have hs := hs.1 c8
            refine lv_iconst (v := 0) hx hb dX11_linesFrom_53 (by decide) ?_
            exact Kj1 0 H locs ls ((if_pos c8).trans (rfl)).symm  hP hD hS (lv_sub hl [0, 1, 2] rfl)
          · have hs := hs.2 c8
            refine lv_aload_n hx hb dX11_linesFrom_44 rfl (lv_at hl 0 rfl) ?_
            refine va_get (D := G) (ci := 11) (v := .int m_lines) (C := RX11) (T := TX11) (N := 60) hx hb hts iwX11_linesFrom_X11 hown hK hP 0 rfl rfl 14 (by decide) (hts _ lkX11_linesFrom_72) (fun _ h9 => h9) rfl dX11_linesFrom_45 ?_
            refine lv_iconst (v := 1) hx hb dX11_linesFrom_48 (by decide) ?_
            refine lv_isub hx hb dX11_linesFrom_49 ?_
            refine lv_goto (tgt := 54) hx hb dX11_linesFrom_50 (by decide) ?_
            exact Kj1 (m_lines - 1) H locs ls ((if_neg c8).trans (rfl)).symm  hP hD hS (lv_sub hl [0, 1, 2] rfl)
def gX11_wordIn_4 (mm : Nat → Int32) (p0 : Int32) : Nat → (Int32 × Int32) → Int32
  | 0, _ => default
  | n + 1, w1 => if 4 ≤ w1.1 then (w1.2) else (gX11_wordIn_4 mm p0 n (w1.1 + 1, (w1.2 <<< (8 &&& 31)) ||| ((mm (p0 + w1.1).toNatClampNeg) &&& 255)))
def sgX11_wordIn_4 (mm : Nat → Int32) (p0 : Int32) : Nat → (Int32 × Int32) → Prop
  | 0, _ => False
  | n + 1, w1 => (4 ≤ w1.1 → True) ∧ (¬ (4 ≤ w1.1) → ((vp_in (p0 + w1.1) 65536) ∧ (sgX11_wordIn_4 mm p0 n (w1.1 + 1, (w1.2 <<< (8 &&& 31)) ||| ((mm (p0 + w1.1).toNatClampNeg) &&& 255)))))
def fX11_wordIn (mm : Nat → Int32) (p0 : Int32) : Int32 :=
  gX11_wordIn_4 mm p0 (5) (0, 0)
theorem lkX11_wordIn_8 : Cond.fieldLink RX11 8 "TwinIssueModel" "memory" "[B" ∈ wsX11_wordIn := by decide +kernel
theorem iwX11_wordIn_X11 : ∀ w ∈ wsX110, w ∈ wsX11_wordIn := fun _ h => List.mem_cons_of_mem _ (List.mem_append_right _ h)
def sX11_wordIn (mm : Nat → Int32) (p0 : Int32) : Prop :=
  sgX11_wordIn_4 mm p0 (5) (0, 0)
set_option maxHeartbeats 4000000 in
set_option maxRecDepth 100000 in
theorem mX11_wordIn (l : Launch) (G : va_G) (cI cB cP : ClassId) (aM aMm aMr aMs aMw aMc aMv aMf aMi aMd aMy : Nat) (m_thrown : Int32) (m_sets : Int32) (m_sum : Int64) (m_pc : Int32) (m_slot : Int32) (m_branch : Int32) (m_target : Int32) (m_retired : Int32) (m_lines : Int32) (m_cycles : Int32) (m_events : Int32) (m_exceptions : Int32) (m_doubles : Int32) (m_longest : Int32) (m_word : Int32) (m_codeFault : Int32) (m_fetched : Int32) (m_issued : Int32) (m_due : Int32) (m_starts : Int32) (m_exception : Int32) (m_eea : Int32) (m_register : Int32) (m_value : Int32) (m_flag : Int32) (m_carry : Int32) (m_overflow : Int32) (m_sums : Int32) (m_newSum : Int64) (m_store : Int32) (m_bytes : Int32) (m_stored : Int32) (m_next : Int32) (m_goal : Int32) (m_returns : Int32) (m_lastWord : Int32) (m_lastReadable : Int32) (m_lastPc : Int32) (m_lastFetched : Int32) (m_lastStarts : Int32) (m_lastApart : Int32) (m_redirected : Int32) (m_behind : Int32) (m_flagReady : Int32) (m_carryReady : Int32) (m_sumReady : Int32) (m_divided : Int32) (m_foreseen : Int32) (m_expected : Int32) (m_went : Int32) (mm : Nat → Int32) (sz : Nat) (p0 : Int32) (hs : sX11_wordIn mm p0) : kMi (S := Unit) l yX11_wordIn wsX11_wordIn ({ frames := 0, cells := 0, slots := 0, locals := 0 }) [.ref aM, .int p0] G (kTY cI cB cP) sz [(aM, .inr (11, [.int m_thrown, .ref aMm, .ref aMr, .int m_sets, .ref aMs, .ref aMw, .long m_sum, .int m_pc, .int m_slot, .int m_branch, .int m_target, .int m_retired, .ref aMc, .ref aMv, .int m_lines, .int m_cycles, .int m_events, .int m_exceptions, .int m_doubles, .int m_longest, .ref aMf, .int m_word, .int m_codeFault, .int m_fetched, .int m_issued, .int m_due, .int m_starts, .int m_exception, .int m_eea, .int m_register, .int m_value, .int m_flag, .int m_carry, .int m_overflow, .int m_sums, .long m_newSum, .int m_store, .int m_bytes, .int m_stored, .int m_next, .int m_goal, .int m_returns, .ref aMi, .ref aMd, .int m_lastWord, .int m_lastReadable, .int m_lastPc, .int m_lastFetched, .int m_lastStarts, .int m_lastApart, .int m_redirected, .int m_behind, .ref aMy, .int m_flagReady, .int m_carryReady, .int m_sumReady, .int m_divided, .int m_foreseen, .int m_expected, .int m_went])), (aMm, .inl (cB, 65536, .inl mm))] (fX11_wordIn mm p0, ()) (fun _ _ => True) (fun _ => [(aM, .inr (11, [.int m_thrown, .ref aMm, .ref aMr, .int m_sets, .ref aMs, .ref aMw, .long m_sum, .int m_pc, .int m_slot, .int m_branch, .int m_target, .int m_retired, .ref aMc, .ref aMv, .int m_lines, .int m_cycles, .int m_events, .int m_exceptions, .int m_doubles, .int m_longest, .ref aMf, .int m_word, .int m_codeFault, .int m_fetched, .int m_issued, .int m_due, .int m_starts, .int m_exception, .int m_eea, .int m_register, .int m_value, .int m_flag, .int m_carry, .int m_overflow, .int m_sums, .long m_newSum, .int m_store, .int m_bytes, .int m_stored, .int m_next, .int m_goal, .int m_returns, .ref aMi, .ref aMd, .int m_lastWord, .int m_lastReadable, .int m_lastPc, .int m_lastFetched, .int m_lastStarts, .int m_lastApart, .int m_redirected, .int m_behind, .ref aMy, .int m_flagReady, .int m_carryReady, .int m_sumReady, .int m_divided, .int m_foreseen, .int m_expected, .int m_went])), (aMm, .inl (cB, 65536, .inl mm))]) := by
  refine k_ofi (cc := cX11_wordIn) (maxL := 4) (by decide) rfl (Nat.le_of_ble_eq_true rfl) ?_
  intro p e s m args below meth c A ls Q H locs hx hb hml hown hts hin hK hP hD hA hS hl hret
  have hown : s.vm.findClass RX11 = some m.cls := hown
  have hl : lv_has ls 4 [(0, .ref aM), (1, .int p0)] := hl
  unfold sX11_wordIn at hs
  refine lv_iconst (v := 0) hx hb dX11_wordIn_0 (by decide) ?_
  refine lv_istore_n (lv' := [(2, .int 0), (0, .ref aM), (1, .int p0)]) hx hb dX11_wordIn_1 rfl hl (by decide) rfl (fun ls hl => ?_)
  refine lv_iconst (v := 0) hx hb dX11_wordIn_2 (by decide) ?_
  refine lv_istore_n (lv' := [(3, .int 0), (2, .int 0), (0, .ref aM), (1, .int p0)]) hx hb dX11_wordIn_3 rfl hl (by decide) rfl (fun ls hl => ?_)
  have KL4 : ∀ (n : Nat) (w1 : Int32 × Int32) (H : Heap) (locs : List Loc) (ls : Array Slot), fX11_wordIn mm p0 = gX11_wordIn_4 mm p0 n w1 → sgX11_wordIn_4 mm p0 n w1 → va_P G vwCl [(aM, .inr (11, [.int m_thrown, .ref aMm, .ref aMr, .int m_sets, .ref aMs, .ref aMw, .long m_sum, .int m_pc, .int m_slot, .int m_branch, .int m_target, .int m_retired, .ref aMc, .ref aMv, .int m_lines, .int m_cycles, .int m_events, .int m_exceptions, .int m_doubles, .int m_longest, .ref aMf, .int m_word, .int m_codeFault, .int m_fetched, .int m_issued, .int m_due, .int m_starts, .int m_exception, .int m_eea, .int m_register, .int m_value, .int m_flag, .int m_carry, .int m_overflow, .int m_sums, .long m_newSum, .int m_store, .int m_bytes, .int m_stored, .int m_next, .int m_goal, .int m_returns, .ref aMi, .ref aMd, .int m_lastWord, .int m_lastReadable, .int m_lastPc, .int m_lastFetched, .int m_lastStarts, .int m_lastApart, .int m_redirected, .int m_behind, .ref aMy, .int m_flagReady, .int m_carryReady, .int m_sumReady, .int m_divided, .int m_foreseen, .int m_expected, .int m_went])), (aMm, .inl (cB, 65536, .inl mm))] H → va_D A [(aM, .inr (11, [.int m_thrown, .ref aMm, .ref aMr, .int m_sets, .ref aMs, .ref aMw, .long m_sum, .int m_pc, .int m_slot, .int m_branch, .int m_target, .int m_retired, .ref aMc, .ref aMv, .int m_lines, .int m_cycles, .int m_events, .int m_exceptions, .int m_doubles, .int m_longest, .ref aMf, .int m_word, .int m_codeFault, .int m_fetched, .int m_issued, .int m_due, .int m_starts, .int m_exception, .int m_eea, .int m_register, .int m_value, .int m_flag, .int m_carry, .int m_overflow, .int m_sums, .long m_newSum, .int m_store, .int m_bytes, .int m_stored, .int m_next, .int m_goal, .int m_returns, .ref aMi, .ref aMd, .int m_lastWord, .int m_lastReadable, .int m_lastPc, .int m_lastFetched, .int m_lastStarts, .int m_lastApart, .int m_redirected, .int m_behind, .ref aMy, .int m_flagReady, .int m_carryReady, .int m_sumReady, .int m_divided, .int m_foreseen, .int m_expected, .int m_went])), (aMm, .inl (cB, 65536, .inl mm))] → va_S A s.heap H locs → lv_has ls 4 [(3, .int w1.1), (2, .int w1.2), (0, .ref aM), (1, .int p0)] → W p l e ({ frames := 0, cells := 0, slots := 0, locals := 0 }) s m args below meth c H locs 0 0 Q (F0 m 4 ls []) := by
    intro n
    induction n with
    | zero => intro w1 H locs ls hF hs; exact False.elim hs
    | succ n ih =>
      intro w1 H locs ls hF hs hP hD hS hl
      have hs : (4 ≤ w1.1 → True) ∧ (¬ (4 ≤ w1.1) → ((vp_in (p0 + w1.1) 65536) ∧ (sgX11_wordIn_4 mm p0 n (w1.1 + 1, (w1.2 <<< (8 &&& 31)) ||| ((mm (p0 + w1.1).toNatClampNeg) &&& 255))))) := hs
      refine lv_iload_n hx hb dX11_wordIn_4 rfl (lv_at hl 0 rfl) ?_
      refine lv_iconst (v := 4) hx hb dX11_wordIn_5 (by decide) ?_
      refine lv_icmp_ge (tgt := 33) hx hb dX11_wordIn_6 (by decide) (fun c1 => ?_) (fun c1 => ?_)
      · have hs := hs.1 c1
        refine lv_iload_n hx hb dX11_wordIn_33 rfl (lv_at hl 1 rfl) ?_
        exact hret H locs _ ls w1.2 () dX11_wordIn_34 (by exact congrArg (fun x => (x, ())) (hF.trans ((if_pos c1).trans (rfl))).symm) trivial hP hD hS
      · have hs := hs.2 c1
        refine lv_iload_n hx hb dX11_wordIn_9 rfl (lv_at hl 1 rfl) ?_
        refine lv_bipush (v := 8) hx hb dX11_wordIn_10 (by decide) ?_
        refine lv_ishl hx hb dX11_wordIn_12 ?_
        refine lv_aload_n hx hb dX11_wordIn_13 rfl (lv_at hl 2 rfl) ?_
        refine va_get (D := G) (ci := 11) (v := .ref aMm) (C := RX11) (T := TX11) (N := 60) hx hb hts iwX11_wordIn_X11 hown hK hP 0 rfl rfl 1 (by decide) (hts _ lkX11_wordIn_8) (fun _ h9 => h9) rfl dX11_wordIn_14 ?_
        refine lv_iload_n hx hb dX11_wordIn_17 rfl (lv_at hl 3 rfl) ?_
        refine lv_iload_n hx hb dX11_wordIn_18 rfl (lv_at hl 0 rfl) ?_
        refine lv_iadd hx hb dX11_wordIn_19 ?_
        obtain ⟨o1, hs⟩ := hs
        refine va_bald hx hb hK hP 1 1 rfl rfl o1 dX11_wordIn_20 ?_
        refine lv_sipush (v := 255) hx hb dX11_wordIn_21 (by decide) ?_
        refine lv_iand hx hb dX11_wordIn_24 ?_
        refine lv_ior hx hb dX11_wordIn_25 ?_
        refine lv_istore_n (lv' := [(2, .int ((w1.2 <<< (8 &&& 31)) ||| ((mm (p0 + w1.1).toNatClampNeg) &&& 255))), (3, .int w1.1), (0, .ref aM), (1, .int p0)]) hx hb dX11_wordIn_26 rfl hl (by decide) rfl (fun ls hl => ?_)
        refine lv_iinc (v := w1.1 + 1) (lv' := [(3, .int (w1.1 + 1)), (2, .int ((w1.2 <<< (8 &&& 31)) ||| ((mm (p0 + w1.1).toNatClampNeg) &&& 255))), (0, .ref aM), (1, .int p0)]) hx hb dX11_wordIn_27 hl (k := 1) rfl rfl (by decide) rfl (fun ls hl => ?_)
        refine lv_goto (tgt := 4) hx hb dX11_wordIn_30 (by decide) ?_
        exact ih (w1.1 + 1, (w1.2 <<< (8 &&& 31)) ||| ((mm (p0 + w1.1).toNatClampNeg) &&& 255)) H locs ls (by exact (hF.trans ((if_neg c1).trans (rfl)))) hs hP hD hS (lv_sub hl [0, 1, 2, 3] rfl)
  exact KL4 (5) (0, 0) H locs ls (by (first | exact rfl | (delta fX11_wordIn; exact rfl) | (unfold fX11_wordIn; dsimp only) | (unfold fX11_wordIn; simp only []))) hs hP hD hS hl
def fX11_status (m_retired : Int32) (m_lines : Int32) (ms : Nat → Int32) (mlc : Nat → Int32) (mlv : Nat → Int32) : Int32 :=
  (let z1 := (fX11_linesNow m_retired m_lines mlc mlv, ()); (z1.1 &&& ((ms 9) ^^^ (-1))) ||| ((ms 7) &&& (ms 9)))
theorem lkX11_status_18 : Cond.fieldLink RX11 18 "TwinIssueModel" "specials" "[I" ∈ wsX11_status := by decide +kernel
theorem iwX11_status_X11 : ∀ w ∈ wsX110, w ∈ wsX11_status := fun _ h => List.mem_cons_of_mem _ (List.mem_append_right _ h)
def sX11_status (m_retired : Int32) (m_lines : Int32) (mlc : Nat → Int32) (mlv : Nat → Int32) : Prop :=
  (sX11_linesNow m_retired m_lines mlc mlv) ∧ ((∀ z1, z1 = (fX11_linesNow m_retired m_lines mlc mlv, ()) → True))
set_option maxHeartbeats 4000000 in
set_option maxRecDepth 100000 in
theorem mX11_status (l : Launch) (G : va_G) (cI cB cP : ClassId) (aM aMm aMr aMs aMw aMc aMv aMf aMi aMd aMy : Nat) (m_thrown : Int32) (m_sets : Int32) (m_sum : Int64) (m_pc : Int32) (m_slot : Int32) (m_branch : Int32) (m_target : Int32) (m_retired : Int32) (m_lines : Int32) (m_cycles : Int32) (m_events : Int32) (m_exceptions : Int32) (m_doubles : Int32) (m_longest : Int32) (m_word : Int32) (m_codeFault : Int32) (m_fetched : Int32) (m_issued : Int32) (m_due : Int32) (m_starts : Int32) (m_exception : Int32) (m_eea : Int32) (m_register : Int32) (m_value : Int32) (m_flag : Int32) (m_carry : Int32) (m_overflow : Int32) (m_sums : Int32) (m_newSum : Int64) (m_store : Int32) (m_bytes : Int32) (m_stored : Int32) (m_next : Int32) (m_goal : Int32) (m_returns : Int32) (m_lastWord : Int32) (m_lastReadable : Int32) (m_lastPc : Int32) (m_lastFetched : Int32) (m_lastStarts : Int32) (m_lastApart : Int32) (m_redirected : Int32) (m_behind : Int32) (m_flagReady : Int32) (m_carryReady : Int32) (m_sumReady : Int32) (m_divided : Int32) (m_foreseen : Int32) (m_expected : Int32) (m_went : Int32) (ms : Nat → Int32) (mlc : Nat → Int32) (mlv : Nat → Int32) (sz : Nat) (hs : sX11_status m_retired m_lines mlc mlv) : kMi (S := Unit) l yX11_status wsX11_status ({ frames := 1, cells := 0, slots := 0, locals := 22 }) [.ref aM] G (kTY cI cB cP) sz [(aM, .inr (11, [.int m_thrown, .ref aMm, .ref aMr, .int m_sets, .ref aMs, .ref aMw, .long m_sum, .int m_pc, .int m_slot, .int m_branch, .int m_target, .int m_retired, .ref aMc, .ref aMv, .int m_lines, .int m_cycles, .int m_events, .int m_exceptions, .int m_doubles, .int m_longest, .ref aMf, .int m_word, .int m_codeFault, .int m_fetched, .int m_issued, .int m_due, .int m_starts, .int m_exception, .int m_eea, .int m_register, .int m_value, .int m_flag, .int m_carry, .int m_overflow, .int m_sums, .long m_newSum, .int m_store, .int m_bytes, .int m_stored, .int m_next, .int m_goal, .int m_returns, .ref aMi, .ref aMd, .int m_lastWord, .int m_lastReadable, .int m_lastPc, .int m_lastFetched, .int m_lastStarts, .int m_lastApart, .int m_redirected, .int m_behind, .ref aMy, .int m_flagReady, .int m_carryReady, .int m_sumReady, .int m_divided, .int m_foreseen, .int m_expected, .int m_went])), (aMs, .inl (cI, 10, .inl ms)), (aMc, .inl (cI, 32, .inl mlc)), (aMv, .inl (cI, 32, .inl mlv))] (fX11_status m_retired m_lines ms mlc mlv, ()) (fun _ _ => True) (fun _ => [(aM, .inr (11, [.int m_thrown, .ref aMm, .ref aMr, .int m_sets, .ref aMs, .ref aMw, .long m_sum, .int m_pc, .int m_slot, .int m_branch, .int m_target, .int m_retired, .ref aMc, .ref aMv, .int m_lines, .int m_cycles, .int m_events, .int m_exceptions, .int m_doubles, .int m_longest, .ref aMf, .int m_word, .int m_codeFault, .int m_fetched, .int m_issued, .int m_due, .int m_starts, .int m_exception, .int m_eea, .int m_register, .int m_value, .int m_flag, .int m_carry, .int m_overflow, .int m_sums, .long m_newSum, .int m_store, .int m_bytes, .int m_stored, .int m_next, .int m_goal, .int m_returns, .ref aMi, .ref aMd, .int m_lastWord, .int m_lastReadable, .int m_lastPc, .int m_lastFetched, .int m_lastStarts, .int m_lastApart, .int m_redirected, .int m_behind, .ref aMy, .int m_flagReady, .int m_carryReady, .int m_sumReady, .int m_divided, .int m_foreseen, .int m_expected, .int m_went])), (aMs, .inl (cI, 10, .inl ms)), (aMc, .inl (cI, 32, .inl mlc)), (aMv, .inl (cI, 32, .inl mlv))]) := by
  refine k_ofi (cc := cX11_status) (maxL := 1) (by decide) rfl (Nat.le_of_ble_eq_true rfl) ?_
  intro p e s m args below meth c A ls Q H locs hx hb hml hown hts hin hK hP hD hA hS hl hret
  have hown : s.vm.findClass RX11 = some m.cls := hown
  have hl : lv_has ls 1 [(0, .ref aM)] := hl
  unfold sX11_status at hs
  refine lv_aload_n hx hb dX11_status_0 rfl (lv_at hl 0 rfl) ?_
  obtain ⟨o1, hs⟩ := hs
  refine k_iV (As := []) (rest := []) (wc := [(aM, .inr (11, [.int m_thrown, .ref aMm, .ref aMr, .int m_sets, .ref aMs, .ref aMw, .long m_sum, .int m_pc, .int m_slot, .int m_branch, .int m_target, .int m_retired, .ref aMc, .ref aMv, .int m_lines, .int m_cycles, .int m_events, .int m_exceptions, .int m_doubles, .int m_longest, .ref aMf, .int m_word, .int m_codeFault, .int m_fetched, .int m_issued, .int m_due, .int m_starts, .int m_exception, .int m_eea, .int m_register, .int m_value, .int m_flag, .int m_carry, .int m_overflow, .int m_sums, .long m_newSum, .int m_store, .int m_bytes, .int m_stored, .int m_next, .int m_goal, .int m_returns, .ref aMi, .ref aMd, .int m_lastWord, .int m_lastReadable, .int m_lastPc, .int m_lastFetched, .int m_lastStarts, .int m_lastApart, .int m_redirected, .int m_behind, .ref aMy, .int m_flagReady, .int m_carryReady, .int m_sumReady, .int m_divided, .int m_foreseen, .int m_expected, .int m_went])), (aMc, .inl (cI, 32, .inl mlc)), (aMv, .inl (cI, 32, .inl mlv))]) (wr := [(aMs, .inl (cI, 10, .inl ms))]) ⟨hx, hb, hml, hown, hts⟩ hK hP hD hS hA [0, 2, 3] [1] rfl rfl rfl rfl (by decide) (mX11_linesNow l G cI cB cP aM aMm aMr aMs aMw aMc aMv aMf aMi aMd aMy m_thrown m_sets m_sum m_pc m_slot m_branch m_target m_retired m_lines m_cycles m_events m_exceptions m_doubles m_longest m_word m_codeFault m_fetched m_issued m_due m_starts m_exception m_eea m_register m_value m_flag m_carry m_overflow m_sums m_newSum m_store m_bytes m_stored m_next m_goal m_returns m_lastWord m_lastReadable m_lastPc m_lastFetched m_lastStarts m_lastApart m_redirected m_behind m_flagReady m_carryReady m_sumReady m_divided m_foreseen m_expected m_went mlc mlv H.size  o1) (cwV 0 hts gX11_status_X11_linesNow rfl rfl rfl (by decide +kernel) ⟨Nat.le_of_ble_eq_true rfl, Nat.le_of_ble_eq_true rfl⟩) 0 11 rfl rfl rfl rfl hl.1 rfl (Nat.le_of_ble_eq_true rfl) dX11_status_1 ⟨Nat.le_of_ble_eq_true rfl, Nat.le_of_ble_eq_true rfl⟩ (fun z1 H locs hz1 hEz1 hP hD hS => ?_)
  have hs := hs z1 hz1
  have hP : va_P G vwCl [(aMs, .inl (cI, 10, .inl ms)), (aM, .inr (11, [.int m_thrown, .ref aMm, .ref aMr, .int m_sets, .ref aMs, .ref aMw, .long m_sum, .int m_pc, .int m_slot, .int m_branch, .int m_target, .int m_retired, .ref aMc, .ref aMv, .int m_lines, .int m_cycles, .int m_events, .int m_exceptions, .int m_doubles, .int m_longest, .ref aMf, .int m_word, .int m_codeFault, .int m_fetched, .int m_issued, .int m_due, .int m_starts, .int m_exception, .int m_eea, .int m_register, .int m_value, .int m_flag, .int m_carry, .int m_overflow, .int m_sums, .long m_newSum, .int m_store, .int m_bytes, .int m_stored, .int m_next, .int m_goal, .int m_returns, .ref aMi, .ref aMd, .int m_lastWord, .int m_lastReadable, .int m_lastPc, .int m_lastFetched, .int m_lastStarts, .int m_lastApart, .int m_redirected, .int m_behind, .ref aMy, .int m_flagReady, .int m_carryReady, .int m_sumReady, .int m_divided, .int m_foreseen, .int m_expected, .int m_went])), (aMc, .inl (cI, 32, .inl mlc)), (aMv, .inl (cI, 32, .inl mlv))] H := hP
  have hD : va_D A [(aMs, .inl (cI, 10, .inl ms)), (aM, .inr (11, [.int m_thrown, .ref aMm, .ref aMr, .int m_sets, .ref aMs, .ref aMw, .long m_sum, .int m_pc, .int m_slot, .int m_branch, .int m_target, .int m_retired, .ref aMc, .ref aMv, .int m_lines, .int m_cycles, .int m_events, .int m_exceptions, .int m_doubles, .int m_longest, .ref aMf, .int m_word, .int m_codeFault, .int m_fetched, .int m_issued, .int m_due, .int m_starts, .int m_exception, .int m_eea, .int m_register, .int m_value, .int m_flag, .int m_carry, .int m_overflow, .int m_sums, .long m_newSum, .int m_store, .int m_bytes, .int m_stored, .int m_next, .int m_goal, .int m_returns, .ref aMi, .ref aMd, .int m_lastWord, .int m_lastReadable, .int m_lastPc, .int m_lastFetched, .int m_lastStarts, .int m_lastApart, .int m_redirected, .int m_behind, .ref aMy, .int m_flagReady, .int m_carryReady, .int m_sumReady, .int m_divided, .int m_foreseen, .int m_expected, .int m_went])), (aMc, .inl (cI, 32, .inl mlc)), (aMv, .inl (cI, 32, .inl mlv))] := hD
  refine lv_aload_n hx hb dX11_status_4 rfl (lv_at hl 0 rfl) ?_
  refine va_get (D := G) (ci := 11) (v := .ref aMs) (C := RX11) (T := TX11) (N := 60) hx hb hts iwX11_status_X11 hown hK hP 1 rfl rfl 4 (by decide) (hts _ lkX11_status_18) (fun _ h9 => h9) rfl dX11_status_5 ?_
  refine lv_bipush (v := 9) hx hb dX11_status_8 (by decide) ?_
  refine va_iald hx hb hK hP 0 0 rfl rfl (by unfold vp_in; decide) dX11_status_10 ?_
  refine k_top (y := ms 9) rfl ?_
  refine lv_iconst (v := (-1)) hx hb dX11_status_11 (by decide) ?_
  refine lv_ixor hx hb dX11_status_12 ?_
  refine lv_iand hx hb dX11_status_13 ?_
  refine lv_aload_n hx hb dX11_status_14 rfl (lv_at hl 0 rfl) ?_
  refine va_get (D := G) (ci := 11) (v := .ref aMs) (C := RX11) (T := TX11) (N := 60) hx hb hts iwX11_status_X11 hown hK hP 1 rfl rfl 4 (by decide) (hts _ lkX11_status_18) (fun _ h9 => h9) rfl dX11_status_15 ?_
  refine lv_bipush (v := 7) hx hb dX11_status_18 (by decide) ?_
  refine va_iald hx hb hK hP 0 0 rfl rfl (by unfold vp_in; decide) dX11_status_20 ?_
  refine k_top (y := ms 7) rfl ?_
  refine lv_aload_n hx hb dX11_status_21 rfl (lv_at hl 0 rfl) ?_
  refine va_get (D := G) (ci := 11) (v := .ref aMs) (C := RX11) (T := TX11) (N := 60) hx hb hts iwX11_status_X11 hown hK hP 1 rfl rfl 4 (by decide) (hts _ lkX11_status_18) (fun _ h9 => h9) rfl dX11_status_22 ?_
  refine lv_bipush (v := 9) hx hb dX11_status_25 (by decide) ?_
  refine va_iald hx hb hK hP 0 0 rfl rfl (by unfold vp_in; decide) dX11_status_27 ?_
  refine k_top (y := ms 9) rfl ?_
  refine lv_iand hx hb dX11_status_28 ?_
  refine lv_ior hx hb dX11_status_29 ?_
  have hP := hP.sub (ws' := [(aM, .inr (11, [.int m_thrown, .ref aMm, .ref aMr, .int m_sets, .ref aMs, .ref aMw, .long m_sum, .int m_pc, .int m_slot, .int m_branch, .int m_target, .int m_retired, .ref aMc, .ref aMv, .int m_lines, .int m_cycles, .int m_events, .int m_exceptions, .int m_doubles, .int m_longest, .ref aMf, .int m_word, .int m_codeFault, .int m_fetched, .int m_issued, .int m_due, .int m_starts, .int m_exception, .int m_eea, .int m_register, .int m_value, .int m_flag, .int m_carry, .int m_overflow, .int m_sums, .long m_newSum, .int m_store, .int m_bytes, .int m_stored, .int m_next, .int m_goal, .int m_returns, .ref aMi, .ref aMd, .int m_lastWord, .int m_lastReadable, .int m_lastPc, .int m_lastFetched, .int m_lastStarts, .int m_lastApart, .int m_redirected, .int m_behind, .ref aMy, .int m_flagReady, .int m_carryReady, .int m_sumReady, .int m_divided, .int m_foreseen, .int m_expected, .int m_went])), (aMs, .inl (cI, 10, .inl ms)), (aMc, .inl (cI, 32, .inl mlc)), (aMv, .inl (cI, 32, .inl mlv))]) [1, 0, 2, 3] rfl
  have hD := hD.sub (ws' := [(aM, .inr (11, [.int m_thrown, .ref aMm, .ref aMr, .int m_sets, .ref aMs, .ref aMw, .long m_sum, .int m_pc, .int m_slot, .int m_branch, .int m_target, .int m_retired, .ref aMc, .ref aMv, .int m_lines, .int m_cycles, .int m_events, .int m_exceptions, .int m_doubles, .int m_longest, .ref aMf, .int m_word, .int m_codeFault, .int m_fetched, .int m_issued, .int m_due, .int m_starts, .int m_exception, .int m_eea, .int m_register, .int m_value, .int m_flag, .int m_carry, .int m_overflow, .int m_sums, .long m_newSum, .int m_store, .int m_bytes, .int m_stored, .int m_next, .int m_goal, .int m_returns, .ref aMi, .ref aMd, .int m_lastWord, .int m_lastReadable, .int m_lastPc, .int m_lastFetched, .int m_lastStarts, .int m_lastApart, .int m_redirected, .int m_behind, .ref aMy, .int m_flagReady, .int m_carryReady, .int m_sumReady, .int m_divided, .int m_foreseen, .int m_expected, .int m_went])), (aMs, .inl (cI, 10, .inl ms)), (aMc, .inl (cI, 32, .inl mlc)), (aMv, .inl (cI, 32, .inl mlv))]) [1, 0, 2, 3] (by decide) rfl
  exact hret H locs _ ls ((z1.1 &&& ((ms 9) ^^^ (-1))) ||| ((ms 7) &&& (ms 9))) () dX11_status_30 (by clear hP hD hS hl; replace hz1 := hz1.symm; subst hz1; (first | exact rfl | (delta fX11_status; exact rfl) | (unfold fX11_status; dsimp only) | (unfold fX11_status; simp only []))) trivial hP hD hS
def fX11_result (p0 : Int32) (p1 : Int32) (p2 : Int32) (p3 : Int32) (p4 : Int32) : Int32 :=
  if p0 = 0 then (p1 + p2) else (if p0 = 1 then (p1 - p2) else (if p0 = 2 then (p1 &&& p2) else (if p0 = 3 then (p1 ||| p2) else (if p0 = 4 then (p1 ^^^ p2) else (if p0 = 5 then (p1 <<< ((p2 &&& 31) &&& 31)) else (if p0 = 6 then (jushr p1 (p2 &&& 31)) else (if p0 = 7 then (p1 >>> ((p2 &&& 31) &&& 31)) else (if p0 = 8 then (p1 * p2) else (if p0 = 9 then (if p2 = 0 then (0) else (if p2 = (-1) then (-p1) else (p1 / p2))) else (if p0 = 10 then (p1 + p4) else (if p0 = 11 then (p1 &&& p3) else (if p0 = 12 then (p1 ||| p3) else (if p0 = 13 then (p1 ^^^ p3) else (if p0 = 14 then (p3 <<< (16 &&& 31)) else (if p0 = 15 then (p1 <<< ((p3 &&& 31) &&& 31)) else (if p0 = 16 then (jushr p1 (p3 &&& 31)) else (p1 >>> ((p3 &&& 31) &&& 31))))))))))))))))))
def sX11_result (p0 : Int32) (p2 : Int32) : Prop :=
  (p0 = 0 → True) ∧ (¬ (p0 = 0) → ((p0 = 1 → True) ∧ (¬ (p0 = 1) → ((p0 = 2 → True) ∧ (¬ (p0 = 2) → ((p0 = 3 → True) ∧ (¬ (p0 = 3) → ((p0 = 4 → True) ∧ (¬ (p0 = 4) → ((p0 = 5 → True) ∧ (¬ (p0 = 5) → ((p0 = 6 → True) ∧ (¬ (p0 = 6) → ((p0 = 7 → True) ∧ (¬ (p0 = 7) → ((p0 = 8 → True) ∧ (¬ (p0 = 8) → ((p0 = 9 → ((p2 = 0 → True) ∧ (¬ (p2 = 0) → ((p2 = (-1) → True) ∧ (¬ (p2 = (-1)) → ((¬ p2 = 0) ∧ True)))))) ∧ (¬ (p0 = 9) → ((p0 = 10 → True) ∧ (¬ (p0 = 10) → ((p0 = 11 → True) ∧ (¬ (p0 = 11) → ((p0 = 12 → True) ∧ (¬ (p0 = 12) → ((p0 = 13 → True) ∧ (¬ (p0 = 13) → ((p0 = 14 → True) ∧ (¬ (p0 = 14) → ((p0 = 15 → True) ∧ (¬ (p0 = 15) → ((p0 = 16 → True) ∧ (¬ (p0 = 16) → True)))))))))))))))))))))))))))))))))
set_option maxHeartbeats 4000000 in
set_option maxRecDepth 100000 in
theorem mX11_result (l : Launch) (G : va_G) (cI cB cP : ClassId) (sz : Nat) (p0 : Int32) (p1 : Int32) (p2 : Int32) (p3 : Int32) (p4 : Int32) (hs : sX11_result p0 p2) : kMi (S := Unit) l yX11_result wsX11_result ({ frames := 0, cells := 0, slots := 0, locals := 0 }) [.int p0, .int p1, .int p2, .int p3, .int p4] G (kTY cI cB cP) sz [] (fX11_result p0 p1 p2 p3 p4, ()) (fun _ _ => True) (fun _ => []) := by
  refine k_ofi (cc := cX11_result) (maxL := 5) (by decide) rfl (Nat.le_of_ble_eq_true rfl) ?_
  intro p e s m args below meth c A ls Q H locs hx hb hml hown hts hin hK hP hD hA hS hl hret
  have hown : s.vm.findClass RX11 = some m.cls := hown
  have hl : lv_has ls 5 [(0, .int p0), (1, .int p1), (2, .int p2), (3, .int p3), (4, .int p4)] := hl
  unfold sX11_result at hs
  refine lv_iload_n hx hb dX11_result_0 rfl (lv_at hl 0 rfl) ?_
  by_cases c1 : p0 = 0
  · have hs := hs.1 c1
    refine k_tab (tgt := 84) hx hb dX11_result_1 c1 (by decide) (by decide) rfl (by decide) ?_
    refine lv_iload_n hx hb dX11_result_84 rfl (lv_at hl 1 rfl) ?_
    refine lv_iload_n hx hb dX11_result_85 rfl (lv_at hl 2 rfl) ?_
    refine lv_iadd hx hb dX11_result_86 ?_
    exact hret H locs _ ls (p1 + p2) () dX11_result_87 (by exact congrArg (fun x => (x, ())) (((if_pos c1).trans (rfl))).symm) trivial hP hD hS
  have hs := hs.2 c1
  by_cases c2 : p0 = 1
  · have hs := hs.1 c2
    refine k_tab (tgt := 88) hx hb dX11_result_1 c2 (by decide) (by decide) rfl (by decide) ?_
    refine lv_iload_n hx hb dX11_result_88 rfl (lv_at hl 1 rfl) ?_
    refine lv_iload_n hx hb dX11_result_89 rfl (lv_at hl 2 rfl) ?_
    refine lv_isub hx hb dX11_result_90 ?_
    exact hret H locs _ ls (p1 - p2) () dX11_result_91 (by exact congrArg (fun x => (x, ())) (((if_neg c1).trans ((if_pos c2).trans (rfl)))).symm) trivial hP hD hS
  have hs := hs.2 c2
  by_cases c3 : p0 = 2
  · have hs := hs.1 c3
    refine k_tab (tgt := 92) hx hb dX11_result_1 c3 (by decide) (by decide) rfl (by decide) ?_
    refine lv_iload_n hx hb dX11_result_92 rfl (lv_at hl 1 rfl) ?_
    refine lv_iload_n hx hb dX11_result_93 rfl (lv_at hl 2 rfl) ?_
    refine lv_iand hx hb dX11_result_94 ?_
    exact hret H locs _ ls (p1 &&& p2) () dX11_result_95 (by exact congrArg (fun x => (x, ())) (((if_neg c1).trans ((if_neg c2).trans ((if_pos c3).trans (rfl))))).symm) trivial hP hD hS
  have hs := hs.2 c3
  by_cases c4 : p0 = 3
  · have hs := hs.1 c4
    refine k_tab (tgt := 96) hx hb dX11_result_1 c4 (by decide) (by decide) rfl (by decide) ?_
    refine lv_iload_n hx hb dX11_result_96 rfl (lv_at hl 1 rfl) ?_
    refine lv_iload_n hx hb dX11_result_97 rfl (lv_at hl 2 rfl) ?_
    refine lv_ior hx hb dX11_result_98 ?_
    exact hret H locs _ ls (p1 ||| p2) () dX11_result_99 (by exact congrArg (fun x => (x, ())) (((if_neg c1).trans ((if_neg c2).trans ((if_neg c3).trans ((if_pos c4).trans (rfl)))))).symm) trivial hP hD hS
  have hs := hs.2 c4
  by_cases c5 : p0 = 4
  · have hs := hs.1 c5
    refine k_tab (tgt := 100) hx hb dX11_result_1 c5 (by decide) (by decide) rfl (by decide) ?_
    refine lv_iload_n hx hb dX11_result_100 rfl (lv_at hl 1 rfl) ?_
    refine lv_iload_n hx hb dX11_result_101 rfl (lv_at hl 2 rfl) ?_
    refine lv_ixor hx hb dX11_result_102 ?_
    exact hret H locs _ ls (p1 ^^^ p2) () dX11_result_103 (by exact congrArg (fun x => (x, ())) (((if_neg c1).trans ((if_neg c2).trans ((if_neg c3).trans ((if_neg c4).trans ((if_pos c5).trans (rfl))))))).symm) trivial hP hD hS
  have hs := hs.2 c5
  by_cases c6 : p0 = 5
  · have hs := hs.1 c6
    refine k_tab (tgt := 104) hx hb dX11_result_1 c6 (by decide) (by decide) rfl (by decide) ?_
    refine lv_iload_n hx hb dX11_result_104 rfl (lv_at hl 1 rfl) ?_
    refine lv_iload_n hx hb dX11_result_105 rfl (lv_at hl 2 rfl) ?_
    refine lv_bipush (v := 31) hx hb dX11_result_106 (by decide) ?_
    refine lv_iand hx hb dX11_result_108 ?_
    refine lv_ishl hx hb dX11_result_109 ?_
    exact hret H locs _ ls (p1 <<< ((p2 &&& 31) &&& 31)) () dX11_result_110 (by exact congrArg (fun x => (x, ())) (((if_neg c1).trans ((if_neg c2).trans ((if_neg c3).trans ((if_neg c4).trans ((if_neg c5).trans ((if_pos c6).trans (rfl)))))))).symm) trivial hP hD hS
  have hs := hs.2 c6
  by_cases c7 : p0 = 6
  · have hs := hs.1 c7
    refine k_tab (tgt := 111) hx hb dX11_result_1 c7 (by decide) (by decide) rfl (by decide) ?_
    refine lv_iload_n hx hb dX11_result_111 rfl (lv_at hl 1 rfl) ?_
    refine lv_iload_n hx hb dX11_result_112 rfl (lv_at hl 2 rfl) ?_
    refine lv_bipush (v := 31) hx hb dX11_result_113 (by decide) ?_
    refine lv_iand hx hb dX11_result_115 ?_
    refine lv_iushr (v := jushr p1 (p2 &&& 31)) hx hb dX11_result_116 rfl ?_
    exact hret H locs _ ls (jushr p1 (p2 &&& 31)) () dX11_result_117 (by exact congrArg (fun x => (x, ())) (((if_neg c1).trans ((if_neg c2).trans ((if_neg c3).trans ((if_neg c4).trans ((if_neg c5).trans ((if_neg c6).trans ((if_pos c7).trans (rfl))))))))).symm) trivial hP hD hS
  have hs := hs.2 c7
  by_cases c8 : p0 = 7
  · have hs := hs.1 c8
    refine k_tab (tgt := 118) hx hb dX11_result_1 c8 (by decide) (by decide) rfl (by decide) ?_
    refine lv_iload_n hx hb dX11_result_118 rfl (lv_at hl 1 rfl) ?_
    refine lv_iload_n hx hb dX11_result_119 rfl (lv_at hl 2 rfl) ?_
    refine lv_bipush (v := 31) hx hb dX11_result_120 (by decide) ?_
    refine lv_iand hx hb dX11_result_122 ?_
    refine lv_ishr hx hb dX11_result_123 ?_
    exact hret H locs _ ls (p1 >>> ((p2 &&& 31) &&& 31)) () dX11_result_124 (by exact congrArg (fun x => (x, ())) (((if_neg c1).trans ((if_neg c2).trans ((if_neg c3).trans ((if_neg c4).trans ((if_neg c5).trans ((if_neg c6).trans ((if_neg c7).trans ((if_pos c8).trans (rfl)))))))))).symm) trivial hP hD hS
  have hs := hs.2 c8
  by_cases c9 : p0 = 8
  · have hs := hs.1 c9
    refine k_tab (tgt := 125) hx hb dX11_result_1 c9 (by decide) (by decide) rfl (by decide) ?_
    refine lv_iload_n hx hb dX11_result_125 rfl (lv_at hl 1 rfl) ?_
    refine lv_iload_n hx hb dX11_result_126 rfl (lv_at hl 2 rfl) ?_
    refine lv_imul hx hb dX11_result_127 ?_
    exact hret H locs _ ls (p1 * p2) () dX11_result_128 (by exact congrArg (fun x => (x, ())) (((if_neg c1).trans ((if_neg c2).trans ((if_neg c3).trans ((if_neg c4).trans ((if_neg c5).trans ((if_neg c6).trans ((if_neg c7).trans ((if_neg c8).trans ((if_pos c9).trans (rfl))))))))))).symm) trivial hP hD hS
  have hs := hs.2 c9
  by_cases c10 : p0 = 9
  · have hs := hs.1 c10
    refine k_tab (tgt := 129) hx hb dX11_result_1 c10 (by decide) (by decide) rfl (by decide) ?_
    refine lv_iload_n hx hb dX11_result_129 rfl (lv_at hl 2 rfl) ?_
    refine lv_if_ne (tgt := 137) hx hb dX11_result_130 (by decide) (fun c11 => ?_) (fun c11 => ?_)
    · have hs := hs.2 c11
      refine lv_iload_n hx hb dX11_result_137 rfl (lv_at hl 2 rfl) ?_
      refine lv_iconst (v := (-1)) hx hb dX11_result_138 (by decide) ?_
      refine lv_icmp_ne (tgt := 147) hx hb dX11_result_139 (by decide) (fun c12 => ?_) (fun c12 => ?_)
      · have hs := hs.2 c12
        refine lv_iload_n hx hb dX11_result_147 rfl (lv_at hl 1 rfl) ?_
        refine lv_iload_n hx hb dX11_result_148 rfl (lv_at hl 2 rfl) ?_
        obtain ⟨o1, hs⟩ := hs
        refine lv_idiv hx hb dX11_result_149 o1 ?_
        exact hret H locs _ ls (p1 / p2) () dX11_result_150 (by exact congrArg (fun x => (x, ())) (((if_neg c1).trans ((if_neg c2).trans ((if_neg c3).trans ((if_neg c4).trans ((if_neg c5).trans ((if_neg c6).trans ((if_neg c7).trans ((if_neg c8).trans ((if_neg c9).trans ((if_pos c10).trans ((if_neg c11).trans ((if_neg c12).trans (rfl)))))))))))))).symm) trivial hP hD hS
      · have hs := hs.1 c12
        refine lv_iload_n hx hb dX11_result_142 rfl (lv_at hl 1 rfl) ?_
        refine lv_ineg hx hb dX11_result_143 ?_
        refine lv_goto (tgt := 150) hx hb dX11_result_144 (by decide) ?_
        exact hret H locs _ ls (-p1) () dX11_result_150 (by exact congrArg (fun x => (x, ())) (((if_neg c1).trans ((if_neg c2).trans ((if_neg c3).trans ((if_neg c4).trans ((if_neg c5).trans ((if_neg c6).trans ((if_neg c7).trans ((if_neg c8).trans ((if_neg c9).trans ((if_pos c10).trans ((if_neg c11).trans ((if_pos c12).trans (rfl)))))))))))))).symm) trivial hP hD hS
    · have hs := hs.1 c11
      refine lv_iconst (v := 0) hx hb dX11_result_133 (by decide) ?_
      refine lv_goto (tgt := 150) hx hb dX11_result_134 (by decide) ?_
      exact hret H locs _ ls 0 () dX11_result_150 (by exact congrArg (fun x => (x, ())) (((if_neg c1).trans ((if_neg c2).trans ((if_neg c3).trans ((if_neg c4).trans ((if_neg c5).trans ((if_neg c6).trans ((if_neg c7).trans ((if_neg c8).trans ((if_neg c9).trans ((if_pos c10).trans ((if_pos c11).trans (rfl))))))))))))).symm) trivial hP hD hS
  have hs := hs.2 c10
  by_cases c13 : p0 = 10
  · have hs := hs.1 c13
    refine k_tab (tgt := 151) hx hb dX11_result_1 c13 (by decide) (by decide) rfl (by decide) ?_
    refine lv_iload_n hx hb dX11_result_151 rfl (lv_at hl 1 rfl) ?_
    refine lv_iload hx hb dX11_result_152 (lv_at hl 4 rfl) ?_
    refine lv_iadd hx hb dX11_result_154 ?_
    exact hret H locs _ ls (p1 + p4) () dX11_result_155 (by exact congrArg (fun x => (x, ())) (((if_neg c1).trans ((if_neg c2).trans ((if_neg c3).trans ((if_neg c4).trans ((if_neg c5).trans ((if_neg c6).trans ((if_neg c7).trans ((if_neg c8).trans ((if_neg c9).trans ((if_neg c10).trans ((if_pos c13).trans (rfl))))))))))))).symm) trivial hP hD hS
  have hs := hs.2 c13
  by_cases c14 : p0 = 11
  · have hs := hs.1 c14
    refine k_tab (tgt := 156) hx hb dX11_result_1 c14 (by decide) (by decide) rfl (by decide) ?_
    refine lv_iload_n hx hb dX11_result_156 rfl (lv_at hl 1 rfl) ?_
    refine lv_iload_n hx hb dX11_result_157 rfl (lv_at hl 3 rfl) ?_
    refine lv_iand hx hb dX11_result_158 ?_
    exact hret H locs _ ls (p1 &&& p3) () dX11_result_159 (by exact congrArg (fun x => (x, ())) (((if_neg c1).trans ((if_neg c2).trans ((if_neg c3).trans ((if_neg c4).trans ((if_neg c5).trans ((if_neg c6).trans ((if_neg c7).trans ((if_neg c8).trans ((if_neg c9).trans ((if_neg c10).trans ((if_neg c13).trans ((if_pos c14).trans (rfl)))))))))))))).symm) trivial hP hD hS
  have hs := hs.2 c14
  by_cases c15 : p0 = 12
  · have hs := hs.1 c15
    refine k_tab (tgt := 160) hx hb dX11_result_1 c15 (by decide) (by decide) rfl (by decide) ?_
    refine lv_iload_n hx hb dX11_result_160 rfl (lv_at hl 1 rfl) ?_
    refine lv_iload_n hx hb dX11_result_161 rfl (lv_at hl 3 rfl) ?_
    refine lv_ior hx hb dX11_result_162 ?_
    exact hret H locs _ ls (p1 ||| p3) () dX11_result_163 (by exact congrArg (fun x => (x, ())) (((if_neg c1).trans ((if_neg c2).trans ((if_neg c3).trans ((if_neg c4).trans ((if_neg c5).trans ((if_neg c6).trans ((if_neg c7).trans ((if_neg c8).trans ((if_neg c9).trans ((if_neg c10).trans ((if_neg c13).trans ((if_neg c14).trans ((if_pos c15).trans (rfl))))))))))))))).symm) trivial hP hD hS
  have hs := hs.2 c15
  by_cases c16 : p0 = 13
  · have hs := hs.1 c16
    refine k_tab (tgt := 164) hx hb dX11_result_1 c16 (by decide) (by decide) rfl (by decide) ?_
    refine lv_iload_n hx hb dX11_result_164 rfl (lv_at hl 1 rfl) ?_
    refine lv_iload_n hx hb dX11_result_165 rfl (lv_at hl 3 rfl) ?_
    refine lv_ixor hx hb dX11_result_166 ?_
    exact hret H locs _ ls (p1 ^^^ p3) () dX11_result_167 (by exact congrArg (fun x => (x, ())) (((if_neg c1).trans ((if_neg c2).trans ((if_neg c3).trans ((if_neg c4).trans ((if_neg c5).trans ((if_neg c6).trans ((if_neg c7).trans ((if_neg c8).trans ((if_neg c9).trans ((if_neg c10).trans ((if_neg c13).trans ((if_neg c14).trans ((if_neg c15).trans ((if_pos c16).trans (rfl)))))))))))))))).symm) trivial hP hD hS
  have hs := hs.2 c16
  by_cases c17 : p0 = 14
  · have hs := hs.1 c17
    refine k_tab (tgt := 168) hx hb dX11_result_1 c17 (by decide) (by decide) rfl (by decide) ?_
    refine lv_iload_n hx hb dX11_result_168 rfl (lv_at hl 3 rfl) ?_
    refine lv_bipush (v := 16) hx hb dX11_result_169 (by decide) ?_
    refine lv_ishl hx hb dX11_result_171 ?_
    exact hret H locs _ ls (p3 <<< (16 &&& 31)) () dX11_result_172 (by exact congrArg (fun x => (x, ())) (((if_neg c1).trans ((if_neg c2).trans ((if_neg c3).trans ((if_neg c4).trans ((if_neg c5).trans ((if_neg c6).trans ((if_neg c7).trans ((if_neg c8).trans ((if_neg c9).trans ((if_neg c10).trans ((if_neg c13).trans ((if_neg c14).trans ((if_neg c15).trans ((if_neg c16).trans ((if_pos c17).trans (rfl))))))))))))))))).symm) trivial hP hD hS
  have hs := hs.2 c17
  by_cases c18 : p0 = 15
  · have hs := hs.1 c18
    refine k_tab (tgt := 173) hx hb dX11_result_1 c18 (by decide) (by decide) rfl (by decide) ?_
    refine lv_iload_n hx hb dX11_result_173 rfl (lv_at hl 1 rfl) ?_
    refine lv_iload_n hx hb dX11_result_174 rfl (lv_at hl 3 rfl) ?_
    refine lv_bipush (v := 31) hx hb dX11_result_175 (by decide) ?_
    refine lv_iand hx hb dX11_result_177 ?_
    refine lv_ishl hx hb dX11_result_178 ?_
    exact hret H locs _ ls (p1 <<< ((p3 &&& 31) &&& 31)) () dX11_result_179 (by exact congrArg (fun x => (x, ())) (((if_neg c1).trans ((if_neg c2).trans ((if_neg c3).trans ((if_neg c4).trans ((if_neg c5).trans ((if_neg c6).trans ((if_neg c7).trans ((if_neg c8).trans ((if_neg c9).trans ((if_neg c10).trans ((if_neg c13).trans ((if_neg c14).trans ((if_neg c15).trans ((if_neg c16).trans ((if_neg c17).trans ((if_pos c18).trans (rfl)))))))))))))))))).symm) trivial hP hD hS
  have hs := hs.2 c18
  by_cases c19 : p0 = 16
  · have hs := hs.1 c19
    refine k_tab (tgt := 180) hx hb dX11_result_1 c19 (by decide) (by decide) rfl (by decide) ?_
    refine lv_iload_n hx hb dX11_result_180 rfl (lv_at hl 1 rfl) ?_
    refine lv_iload_n hx hb dX11_result_181 rfl (lv_at hl 3 rfl) ?_
    refine lv_bipush (v := 31) hx hb dX11_result_182 (by decide) ?_
    refine lv_iand hx hb dX11_result_184 ?_
    refine lv_iushr (v := jushr p1 (p3 &&& 31)) hx hb dX11_result_185 rfl ?_
    exact hret H locs _ ls (jushr p1 (p3 &&& 31)) () dX11_result_186 (by exact congrArg (fun x => (x, ())) (((if_neg c1).trans ((if_neg c2).trans ((if_neg c3).trans ((if_neg c4).trans ((if_neg c5).trans ((if_neg c6).trans ((if_neg c7).trans ((if_neg c8).trans ((if_neg c9).trans ((if_neg c10).trans ((if_neg c13).trans ((if_neg c14).trans ((if_neg c15).trans ((if_neg c16).trans ((if_neg c17).trans ((if_neg c18).trans ((if_pos c19).trans (rfl))))))))))))))))))).symm) trivial hP hD hS
  have hs := hs.2 c19
  refine k_tabD (tgt := 187) hx hb dX11_result_1 [0, 1, 2, 3, 4, 5, 6, 7, 8, 9, 10, 11, 12, 13, 14, 15, 16] (List.forall_mem_cons.mpr ⟨c1, List.forall_mem_cons.mpr ⟨c2, List.forall_mem_cons.mpr ⟨c3, List.forall_mem_cons.mpr ⟨c4, List.forall_mem_cons.mpr ⟨c5, List.forall_mem_cons.mpr ⟨c6, List.forall_mem_cons.mpr ⟨c7, List.forall_mem_cons.mpr ⟨c8, List.forall_mem_cons.mpr ⟨c9, List.forall_mem_cons.mpr ⟨c10, List.forall_mem_cons.mpr ⟨c13, List.forall_mem_cons.mpr ⟨c14, List.forall_mem_cons.mpr ⟨c15, List.forall_mem_cons.mpr ⟨c16, List.forall_mem_cons.mpr ⟨c17, List.forall_mem_cons.mpr ⟨c18, List.forall_mem_cons.mpr ⟨c19, fun _ h => absurd h List.not_mem_nil⟩⟩⟩⟩⟩⟩⟩⟩⟩⟩⟩⟩⟩⟩⟩⟩⟩) (by decide) (by decide) (by decide) ?_
  refine lv_iload_n hx hb dX11_result_187 rfl (lv_at hl 1 rfl) ?_
  refine lv_iload_n hx hb dX11_result_188 rfl (lv_at hl 3 rfl) ?_
  refine lv_bipush (v := 31) hx hb dX11_result_189 (by decide) ?_
  refine lv_iand hx hb dX11_result_191 ?_
  refine lv_ishr hx hb dX11_result_192 ?_
  exact hret H locs _ ls (p1 >>> ((p3 &&& 31) &&& 31)) () dX11_result_193 (by exact congrArg (fun x => (x, ())) (((if_neg c1).trans ((if_neg c2).trans ((if_neg c3).trans ((if_neg c4).trans ((if_neg c5).trans ((if_neg c6).trans ((if_neg c7).trans ((if_neg c8).trans ((if_neg c9).trans ((if_neg c10).trans ((if_neg c13).trans ((if_neg c14).trans ((if_neg c15).trans ((if_neg c16).trans ((if_neg c17).trans ((if_neg c18).trans ((if_neg c19).trans (rfl))))))))))))))))))).symm) trivial hP hD hS
def fX11_rotated (p0 : Int32) (p1 : Int32) : Int32 :=
  if (p1 &&& 31) = 0 then (p0) else ((jushr p0 (p1 &&& 31)) ||| (p0 <<< ((32 - (p1 &&& 31)) &&& 31)))
set_option maxHeartbeats 4000000 in
set_option maxRecDepth 100000 in
theorem mX11_rotated (l : Launch) (G : va_G) (cI cB cP : ClassId) (sz : Nat) (p0 : Int32) (p1 : Int32) : kMi (S := Unit) l yX11_rotated wsX11_rotated ({ frames := 0, cells := 0, slots := 0, locals := 0 }) [.int p0, .int p1] G (kTY cI cB cP) sz [] (fX11_rotated p0 p1, ()) (fun _ _ => True) (fun _ => []) := by
  refine k_ofi (cc := cX11_rotated) (maxL := 3) (by decide) rfl (Nat.le_of_ble_eq_true rfl) ?_
  intro p e s m args below meth c A ls Q H locs hx hb hml hown hts hin hK hP hD hA hS hl hret
  have hown : s.vm.findClass RX11 = some m.cls := hown
  have hl : lv_has ls 3 [(0, .int p0), (1, .int p1)] := hl
  refine lv_iload_n hx hb dX11_rotated_0 rfl (lv_at hl 1 rfl) ?_
  refine lv_bipush (v := 31) hx hb dX11_rotated_1 (by decide) ?_
  refine lv_iand hx hb dX11_rotated_3 ?_
  refine lv_istore_n (lv' := [(2, .int (p1 &&& 31)), (0, .int p0), (1, .int p1)]) hx hb dX11_rotated_4 rfl hl (by decide) rfl (fun ls hl => ?_)
  refine lv_iload_n hx hb dX11_rotated_5 rfl (lv_at hl 0 rfl) ?_
  refine lv_if_ne (tgt := 13) hx hb dX11_rotated_6 (by decide) (fun c1 => ?_) (fun c1 => ?_)
  · skip
    refine lv_iload_n hx hb dX11_rotated_13 rfl (lv_at hl 1 rfl) ?_
    refine lv_iload_n hx hb dX11_rotated_14 rfl (lv_at hl 0 rfl) ?_
    refine lv_iushr (v := jushr p0 (p1 &&& 31)) hx hb dX11_rotated_15 rfl ?_
    refine lv_iload_n hx hb dX11_rotated_16 rfl (lv_at hl 1 rfl) ?_
    refine lv_bipush (v := 32) hx hb dX11_rotated_17 (by decide) ?_
    refine lv_iload_n hx hb dX11_rotated_19 rfl (lv_at hl 0 rfl) ?_
    refine lv_isub hx hb dX11_rotated_20 ?_
    refine lv_ishl hx hb dX11_rotated_21 ?_
    refine lv_ior hx hb dX11_rotated_22 ?_
    exact hret H locs _ ls ((jushr p0 (p1 &&& 31)) ||| (p0 <<< ((32 - (p1 &&& 31)) &&& 31))) () dX11_rotated_23 (by exact congrArg (fun x => (x, ())) (((if_neg c1).trans (rfl))).symm) trivial hP hD hS
  · skip
    refine lv_iload_n hx hb dX11_rotated_9 rfl (lv_at hl 1 rfl) ?_
    refine lv_goto (tgt := 23) hx hb dX11_rotated_10 (by decide) ?_
    exact hret H locs _ ls p0 () dX11_rotated_23 (by exact congrArg (fun x => (x, ())) (((if_pos c1).trans (rfl))).symm) trivial hP hD hS
def fX11_more (ms : Nat → Int32) (p0 : Int32) (p1 : Int32) (p2 : Int32) (p3 : Int32) (p4 : Int32) : Int32 :=
  if p0 = 34 then ((let z1 := (fX11_has ms 128, ()); if z1.1 = 0 then ((p1 + p2) + 0) else ((p1 + p2) + 1))) else (if p0 = 35 then ((let z2 := (fX11_has ms 128, ()); if z2.1 = 0 then ((p1 + p4) + 0) else ((p1 + p4) + 1))) else (if p0 = 36 then (p1 * p2) else (if p0 = 37 then (if p2 = 0 then (0) else (((p1.toInt64 &&& 4294967295) / (p2.toInt64 &&& 4294967295)).toInt32)) else (if p0 = 42 then ((p1 <<< (16 &&& 31)) >>> (16 &&& 31)) else (if p0 = 43 then ((p1 <<< (24 &&& 31)) >>> (24 &&& 31)) else (if p0 = 44 then (p1 &&& 65535) else (if p0 = 45 then (p1 &&& 255) else (if p0 = 46 then ((let z3 := (fX11_has ms 32, ()); if z3.1 = 0 then (p2) else (p1))) else (if p0 = 47 then ((let j4 : Int32 := if p0 = 47 then (1) else (0); (let z5 := fX11_bitOf p1 j4; z5))) else (if p0 = 48 then ((let j6 : Int32 := if p0 = 47 then (1) else (0); (let z7 := fX11_bitOf p1 j6; z7))) else (if p0 = 49 then ((let z8 := fX11_rotated p1 p2; z8)) else (if p0 = 50 then ((let z9 := fX11_rotated p1 p3; z9)) else (p1 * p4)))))))))))))
theorem lkX11_more_130 : Cond.constantLong RX11 130 (4294967295) ∈ wsX11_more := by decide +kernel
theorem lkX11_more_246 : Cond.constant RX11 246 (65535) ∈ wsX11_more := by decide +kernel
def sX11_more (ms : Nat → Int32) (p0 : Int32) (p1 : Int32) (p2 : Int32) (p3 : Int32) : Prop :=
  (p0 = 34 → ((∀ z1, z1 = (fX11_has ms 128, ()) → ((z1.1 = 0 → True) ∧ (¬ (z1.1 = 0) → True))))) ∧ (¬ (p0 = 34) → ((p0 = 35 → ((∀ z2, z2 = (fX11_has ms 128, ()) → ((z2.1 = 0 → True) ∧ (¬ (z2.1 = 0) → True))))) ∧ (¬ (p0 = 35) → ((p0 = 36 → True) ∧ (¬ (p0 = 36) → ((p0 = 37 → ((p2 = 0 → True) ∧ (¬ (p2 = 0) → ((¬ p2.toInt64 &&& 4294967295 = 0) ∧ True)))) ∧ (¬ (p0 = 37) → ((p0 = 42 → True) ∧ (¬ (p0 = 42) → ((p0 = 43 → True) ∧ (¬ (p0 = 43) → ((p0 = 44 → True) ∧ (¬ (p0 = 44) → ((p0 = 45 → True) ∧ (¬ (p0 = 45) → ((p0 = 46 → ((∀ z3, z3 = (fX11_has ms 32, ()) → ((z3.1 = 0 → True) ∧ (¬ (z3.1 = 0) → True))))) ∧ (¬ (p0 = 46) → ((p0 = 47 → (((p0 = 47 → True) ∧ (¬ (p0 = 47) → True)) ∧ (∀ j4 : Int32, j4 = (if p0 = 47 then (1) else (0)) → ((sX11_bitOf p1 j4) ∧ ((∀ z5, z5 = fX11_bitOf p1 j4 → True)))))) ∧ (¬ (p0 = 47) → ((p0 = 48 → (((p0 = 47 → True) ∧ (¬ (p0 = 47) → True)) ∧ (∀ j6 : Int32, j6 = (if p0 = 47 then (1) else (0)) → ((sX11_bitOf p1 j6) ∧ ((∀ z7, z7 = fX11_bitOf p1 j6 → True)))))) ∧ (¬ (p0 = 48) → ((p0 = 49 → ((∀ z8, z8 = fX11_rotated p1 p2 → True))) ∧ (¬ (p0 = 49) → ((p0 = 50 → ((∀ z9, z9 = fX11_rotated p1 p3 → True))) ∧ (¬ (p0 = 50) → True)))))))))))))))))))))))))
set_option maxHeartbeats 4000000 in
set_option maxRecDepth 100000 in
theorem mX11_more (l : Launch) (G : va_G) (cI cB cP : ClassId) (aM aMm aMr aMs aMw aMc aMv aMf aMi aMd aMy : Nat) (m_thrown : Int32) (m_sets : Int32) (m_sum : Int64) (m_pc : Int32) (m_slot : Int32) (m_branch : Int32) (m_target : Int32) (m_retired : Int32) (m_lines : Int32) (m_cycles : Int32) (m_events : Int32) (m_exceptions : Int32) (m_doubles : Int32) (m_longest : Int32) (m_word : Int32) (m_codeFault : Int32) (m_fetched : Int32) (m_issued : Int32) (m_due : Int32) (m_starts : Int32) (m_exception : Int32) (m_eea : Int32) (m_register : Int32) (m_value : Int32) (m_flag : Int32) (m_carry : Int32) (m_overflow : Int32) (m_sums : Int32) (m_newSum : Int64) (m_store : Int32) (m_bytes : Int32) (m_stored : Int32) (m_next : Int32) (m_goal : Int32) (m_returns : Int32) (m_lastWord : Int32) (m_lastReadable : Int32) (m_lastPc : Int32) (m_lastFetched : Int32) (m_lastStarts : Int32) (m_lastApart : Int32) (m_redirected : Int32) (m_behind : Int32) (m_flagReady : Int32) (m_carryReady : Int32) (m_sumReady : Int32) (m_divided : Int32) (m_foreseen : Int32) (m_expected : Int32) (m_went : Int32) (ms : Nat → Int32) (sz : Nat) (p0 : Int32) (p1 : Int32) (p2 : Int32) (p3 : Int32) (p4 : Int32) (hs : sX11_more ms p0 p1 p2 p3) : kMi (S := Unit) l yX11_more wsX11_more ({ frames := 1, cells := 0, slots := 0, locals := 23 }) [.ref aM, .int p0, .int p1, .int p2, .int p3, .int p4] G (kTY cI cB cP) sz [(aM, .inr (11, [.int m_thrown, .ref aMm, .ref aMr, .int m_sets, .ref aMs, .ref aMw, .long m_sum, .int m_pc, .int m_slot, .int m_branch, .int m_target, .int m_retired, .ref aMc, .ref aMv, .int m_lines, .int m_cycles, .int m_events, .int m_exceptions, .int m_doubles, .int m_longest, .ref aMf, .int m_word, .int m_codeFault, .int m_fetched, .int m_issued, .int m_due, .int m_starts, .int m_exception, .int m_eea, .int m_register, .int m_value, .int m_flag, .int m_carry, .int m_overflow, .int m_sums, .long m_newSum, .int m_store, .int m_bytes, .int m_stored, .int m_next, .int m_goal, .int m_returns, .ref aMi, .ref aMd, .int m_lastWord, .int m_lastReadable, .int m_lastPc, .int m_lastFetched, .int m_lastStarts, .int m_lastApart, .int m_redirected, .int m_behind, .ref aMy, .int m_flagReady, .int m_carryReady, .int m_sumReady, .int m_divided, .int m_foreseen, .int m_expected, .int m_went])), (aMs, .inl (cI, 10, .inl ms))] (fX11_more ms p0 p1 p2 p3 p4, ()) (fun _ _ => True) (fun _ => [(aM, .inr (11, [.int m_thrown, .ref aMm, .ref aMr, .int m_sets, .ref aMs, .ref aMw, .long m_sum, .int m_pc, .int m_slot, .int m_branch, .int m_target, .int m_retired, .ref aMc, .ref aMv, .int m_lines, .int m_cycles, .int m_events, .int m_exceptions, .int m_doubles, .int m_longest, .ref aMf, .int m_word, .int m_codeFault, .int m_fetched, .int m_issued, .int m_due, .int m_starts, .int m_exception, .int m_eea, .int m_register, .int m_value, .int m_flag, .int m_carry, .int m_overflow, .int m_sums, .long m_newSum, .int m_store, .int m_bytes, .int m_stored, .int m_next, .int m_goal, .int m_returns, .ref aMi, .ref aMd, .int m_lastWord, .int m_lastReadable, .int m_lastPc, .int m_lastFetched, .int m_lastStarts, .int m_lastApart, .int m_redirected, .int m_behind, .ref aMy, .int m_flagReady, .int m_carryReady, .int m_sumReady, .int m_divided, .int m_foreseen, .int m_expected, .int m_went])), (aMs, .inl (cI, 10, .inl ms))]) := by
  refine k_ofi (cc := cX11_more) (maxL := 6) (by decide) rfl (Nat.le_of_ble_eq_true rfl) ?_
  intro p e s m args below meth c A ls Q H locs hx hb hml hown hts hin hK hP hD hA hS hl hret
  have hown : s.vm.findClass RX11 = some m.cls := hown
  have hl : lv_has ls 6 [(0, .ref aM), (1, .int p0), (2, .int p1), (3, .int p2), (4, .int p3), (5, .int p4)] := hl
  unfold sX11_more at hs
  refine lv_iload_n hx hb dX11_more_0 rfl (lv_at hl 1 rfl) ?_
  by_cases c1 : p0 = 34
  · have hs := hs.1 c1
    refine k_tab (tgt := 84) hx hb dX11_more_1 c1 (by decide) (by decide) rfl (by decide) ?_
    refine lv_iload_n hx hb dX11_more_84 rfl (lv_at hl 2 rfl) ?_
    refine lv_iload_n hx hb dX11_more_85 rfl (lv_at hl 3 rfl) ?_
    refine lv_iadd hx hb dX11_more_86 ?_
    refine lv_aload_n hx hb dX11_more_87 rfl (lv_at hl 0 rfl) ?_
    refine lv_sipush (v := 128) hx hb dX11_more_88 (by decide) ?_
    refine k_iV (As := [.int 128]) (rest := [.int (p1 + p2)]) (wc := [(aM, .inr (11, [.int m_thrown, .ref aMm, .ref aMr, .int m_sets, .ref aMs, .ref aMw, .long m_sum, .int m_pc, .int m_slot, .int m_branch, .int m_target, .int m_retired, .ref aMc, .ref aMv, .int m_lines, .int m_cycles, .int m_events, .int m_exceptions, .int m_doubles, .int m_longest, .ref aMf, .int m_word, .int m_codeFault, .int m_fetched, .int m_issued, .int m_due, .int m_starts, .int m_exception, .int m_eea, .int m_register, .int m_value, .int m_flag, .int m_carry, .int m_overflow, .int m_sums, .long m_newSum, .int m_store, .int m_bytes, .int m_stored, .int m_next, .int m_goal, .int m_returns, .ref aMi, .ref aMd, .int m_lastWord, .int m_lastReadable, .int m_lastPc, .int m_lastFetched, .int m_lastStarts, .int m_lastApart, .int m_redirected, .int m_behind, .ref aMy, .int m_flagReady, .int m_carryReady, .int m_sumReady, .int m_divided, .int m_foreseen, .int m_expected, .int m_went])), (aMs, .inl (cI, 10, .inl ms))]) (wr := []) ⟨hx, hb, hml, hown, hts⟩ hK hP hD hS hA [0, 1] [] rfl rfl rfl rfl (by decide) (mX11_has l G cI cB cP aM aMm aMr aMs aMw aMc aMv aMf aMi aMd aMy m_thrown m_sets m_sum m_pc m_slot m_branch m_target m_retired m_lines m_cycles m_events m_exceptions m_doubles m_longest m_word m_codeFault m_fetched m_issued m_due m_starts m_exception m_eea m_register m_value m_flag m_carry m_overflow m_sums m_newSum m_store m_bytes m_stored m_next m_goal m_returns m_lastWord m_lastReadable m_lastPc m_lastFetched m_lastStarts m_lastApart m_redirected m_behind m_flagReady m_carryReady m_sumReady m_divided m_foreseen m_expected m_went ms H.size 128 ) (cwV 1 hts gX11_more_X11_has rfl rfl rfl (by decide +kernel) ⟨Nat.le_of_ble_eq_true rfl, Nat.le_of_ble_eq_true rfl⟩) 0 11 rfl rfl rfl rfl hl.1 rfl (Nat.le_of_ble_eq_true rfl) dX11_more_91 ⟨Nat.le_of_ble_eq_true rfl, Nat.le_of_ble_eq_true rfl⟩ (fun z1 H locs hz1 hEz1 hP hD hS => ?_)
    have hs := hs z1 hz1
    have hP : va_P G vwCl [(aM, .inr (11, [.int m_thrown, .ref aMm, .ref aMr, .int m_sets, .ref aMs, .ref aMw, .long m_sum, .int m_pc, .int m_slot, .int m_branch, .int m_target, .int m_retired, .ref aMc, .ref aMv, .int m_lines, .int m_cycles, .int m_events, .int m_exceptions, .int m_doubles, .int m_longest, .ref aMf, .int m_word, .int m_codeFault, .int m_fetched, .int m_issued, .int m_due, .int m_starts, .int m_exception, .int m_eea, .int m_register, .int m_value, .int m_flag, .int m_carry, .int m_overflow, .int m_sums, .long m_newSum, .int m_store, .int m_bytes, .int m_stored, .int m_next, .int m_goal, .int m_returns, .ref aMi, .ref aMd, .int m_lastWord, .int m_lastReadable, .int m_lastPc, .int m_lastFetched, .int m_lastStarts, .int m_lastApart, .int m_redirected, .int m_behind, .ref aMy, .int m_flagReady, .int m_carryReady, .int m_sumReady, .int m_divided, .int m_foreseen, .int m_expected, .int m_went])), (aMs, .inl (cI, 10, .inl ms))] H := hP
    have hD : va_D A [(aM, .inr (11, [.int m_thrown, .ref aMm, .ref aMr, .int m_sets, .ref aMs, .ref aMw, .long m_sum, .int m_pc, .int m_slot, .int m_branch, .int m_target, .int m_retired, .ref aMc, .ref aMv, .int m_lines, .int m_cycles, .int m_events, .int m_exceptions, .int m_doubles, .int m_longest, .ref aMf, .int m_word, .int m_codeFault, .int m_fetched, .int m_issued, .int m_due, .int m_starts, .int m_exception, .int m_eea, .int m_register, .int m_value, .int m_flag, .int m_carry, .int m_overflow, .int m_sums, .long m_newSum, .int m_store, .int m_bytes, .int m_stored, .int m_next, .int m_goal, .int m_returns, .ref aMi, .ref aMd, .int m_lastWord, .int m_lastReadable, .int m_lastPc, .int m_lastFetched, .int m_lastStarts, .int m_lastApart, .int m_redirected, .int m_behind, .ref aMy, .int m_flagReady, .int m_carryReady, .int m_sumReady, .int m_divided, .int m_foreseen, .int m_expected, .int m_went])), (aMs, .inl (cI, 10, .inl ms))] := hD
    refine lv_if_eq (tgt := 101) hx hb dX11_more_94 (by decide) (fun c2 => ?_) (fun c2 => ?_)
    · have hs := hs.1 c2
      refine lv_iconst (v := 0) hx hb dX11_more_101 (by decide) ?_
      refine lv_iadd hx hb dX11_more_102 ?_
      exact hret H locs _ ls ((p1 + p2) + 0) () dX11_more_103 (by clear hP hD hS hl; replace hz1 := hz1.symm; subst hz1; exact congrArg (fun x => (x, ())) (((if_pos c1).trans ((if_pos c2).trans (rfl)))).symm) trivial hP hD hS
    · have hs := hs.2 c2
      refine lv_iconst (v := 1) hx hb dX11_more_97 (by decide) ?_
      refine lv_goto (tgt := 102) hx hb dX11_more_98 (by decide) ?_
      refine lv_iadd hx hb dX11_more_102 ?_
      exact hret H locs _ ls ((p1 + p2) + 1) () dX11_more_103 (by clear hP hD hS hl; replace hz1 := hz1.symm; subst hz1; exact congrArg (fun x => (x, ())) (((if_pos c1).trans ((if_neg c2).trans (rfl)))).symm) trivial hP hD hS
  have hs := hs.2 c1
  by_cases c3 : p0 = 35
  · have hs := hs.1 c3
    refine k_tab (tgt := 104) hx hb dX11_more_1 c3 (by decide) (by decide) rfl (by decide) ?_
    refine lv_iload_n hx hb dX11_more_104 rfl (lv_at hl 2 rfl) ?_
    refine lv_iload hx hb dX11_more_105 (lv_at hl 5 rfl) ?_
    refine lv_iadd hx hb dX11_more_107 ?_
    refine lv_aload_n hx hb dX11_more_108 rfl (lv_at hl 0 rfl) ?_
    refine lv_sipush (v := 128) hx hb dX11_more_109 (by decide) ?_
    refine k_iV (As := [.int 128]) (rest := [.int (p1 + p4)]) (wc := [(aM, .inr (11, [.int m_thrown, .ref aMm, .ref aMr, .int m_sets, .ref aMs, .ref aMw, .long m_sum, .int m_pc, .int m_slot, .int m_branch, .int m_target, .int m_retired, .ref aMc, .ref aMv, .int m_lines, .int m_cycles, .int m_events, .int m_exceptions, .int m_doubles, .int m_longest, .ref aMf, .int m_word, .int m_codeFault, .int m_fetched, .int m_issued, .int m_due, .int m_starts, .int m_exception, .int m_eea, .int m_register, .int m_value, .int m_flag, .int m_carry, .int m_overflow, .int m_sums, .long m_newSum, .int m_store, .int m_bytes, .int m_stored, .int m_next, .int m_goal, .int m_returns, .ref aMi, .ref aMd, .int m_lastWord, .int m_lastReadable, .int m_lastPc, .int m_lastFetched, .int m_lastStarts, .int m_lastApart, .int m_redirected, .int m_behind, .ref aMy, .int m_flagReady, .int m_carryReady, .int m_sumReady, .int m_divided, .int m_foreseen, .int m_expected, .int m_went])), (aMs, .inl (cI, 10, .inl ms))]) (wr := []) ⟨hx, hb, hml, hown, hts⟩ hK hP hD hS hA [0, 1] [] rfl rfl rfl rfl (by decide) (mX11_has l G cI cB cP aM aMm aMr aMs aMw aMc aMv aMf aMi aMd aMy m_thrown m_sets m_sum m_pc m_slot m_branch m_target m_retired m_lines m_cycles m_events m_exceptions m_doubles m_longest m_word m_codeFault m_fetched m_issued m_due m_starts m_exception m_eea m_register m_value m_flag m_carry m_overflow m_sums m_newSum m_store m_bytes m_stored m_next m_goal m_returns m_lastWord m_lastReadable m_lastPc m_lastFetched m_lastStarts m_lastApart m_redirected m_behind m_flagReady m_carryReady m_sumReady m_divided m_foreseen m_expected m_went ms H.size 128 ) (cwV 1 hts gX11_more_X11_has rfl rfl rfl (by decide +kernel) ⟨Nat.le_of_ble_eq_true rfl, Nat.le_of_ble_eq_true rfl⟩) 0 11 rfl rfl rfl rfl hl.1 rfl (Nat.le_of_ble_eq_true rfl) dX11_more_112 ⟨Nat.le_of_ble_eq_true rfl, Nat.le_of_ble_eq_true rfl⟩ (fun z2 H locs hz2 hEz2 hP hD hS => ?_)
    have hs := hs z2 hz2
    have hP : va_P G vwCl [(aM, .inr (11, [.int m_thrown, .ref aMm, .ref aMr, .int m_sets, .ref aMs, .ref aMw, .long m_sum, .int m_pc, .int m_slot, .int m_branch, .int m_target, .int m_retired, .ref aMc, .ref aMv, .int m_lines, .int m_cycles, .int m_events, .int m_exceptions, .int m_doubles, .int m_longest, .ref aMf, .int m_word, .int m_codeFault, .int m_fetched, .int m_issued, .int m_due, .int m_starts, .int m_exception, .int m_eea, .int m_register, .int m_value, .int m_flag, .int m_carry, .int m_overflow, .int m_sums, .long m_newSum, .int m_store, .int m_bytes, .int m_stored, .int m_next, .int m_goal, .int m_returns, .ref aMi, .ref aMd, .int m_lastWord, .int m_lastReadable, .int m_lastPc, .int m_lastFetched, .int m_lastStarts, .int m_lastApart, .int m_redirected, .int m_behind, .ref aMy, .int m_flagReady, .int m_carryReady, .int m_sumReady, .int m_divided, .int m_foreseen, .int m_expected, .int m_went])), (aMs, .inl (cI, 10, .inl ms))] H := hP
    have hD : va_D A [(aM, .inr (11, [.int m_thrown, .ref aMm, .ref aMr, .int m_sets, .ref aMs, .ref aMw, .long m_sum, .int m_pc, .int m_slot, .int m_branch, .int m_target, .int m_retired, .ref aMc, .ref aMv, .int m_lines, .int m_cycles, .int m_events, .int m_exceptions, .int m_doubles, .int m_longest, .ref aMf, .int m_word, .int m_codeFault, .int m_fetched, .int m_issued, .int m_due, .int m_starts, .int m_exception, .int m_eea, .int m_register, .int m_value, .int m_flag, .int m_carry, .int m_overflow, .int m_sums, .long m_newSum, .int m_store, .int m_bytes, .int m_stored, .int m_next, .int m_goal, .int m_returns, .ref aMi, .ref aMd, .int m_lastWord, .int m_lastReadable, .int m_lastPc, .int m_lastFetched, .int m_lastStarts, .int m_lastApart, .int m_redirected, .int m_behind, .ref aMy, .int m_flagReady, .int m_carryReady, .int m_sumReady, .int m_divided, .int m_foreseen, .int m_expected, .int m_went])), (aMs, .inl (cI, 10, .inl ms))] := hD
    refine lv_if_eq (tgt := 122) hx hb dX11_more_115 (by decide) (fun c4 => ?_) (fun c4 => ?_)
    · have hs := hs.1 c4
      refine lv_iconst (v := 0) hx hb dX11_more_122 (by decide) ?_
      refine lv_iadd hx hb dX11_more_123 ?_
      exact hret H locs _ ls ((p1 + p4) + 0) () dX11_more_124 (by clear hP hD hS hl; replace hz2 := hz2.symm; subst hz2; exact congrArg (fun x => (x, ())) (((if_neg c1).trans ((if_pos c3).trans ((if_pos c4).trans (rfl))))).symm) trivial hP hD hS
    · have hs := hs.2 c4
      refine lv_iconst (v := 1) hx hb dX11_more_118 (by decide) ?_
      refine lv_goto (tgt := 123) hx hb dX11_more_119 (by decide) ?_
      refine lv_iadd hx hb dX11_more_123 ?_
      exact hret H locs _ ls ((p1 + p4) + 1) () dX11_more_124 (by clear hP hD hS hl; replace hz2 := hz2.symm; subst hz2; exact congrArg (fun x => (x, ())) (((if_neg c1).trans ((if_pos c3).trans ((if_neg c4).trans (rfl))))).symm) trivial hP hD hS
  have hs := hs.2 c3
  by_cases c5 : p0 = 36
  · have hs := hs.1 c5
    refine k_tab (tgt := 125) hx hb dX11_more_1 c5 (by decide) (by decide) rfl (by decide) ?_
    refine lv_iload_n hx hb dX11_more_125 rfl (lv_at hl 2 rfl) ?_
    refine lv_iload_n hx hb dX11_more_126 rfl (lv_at hl 3 rfl) ?_
    refine lv_imul hx hb dX11_more_127 ?_
    exact hret H locs _ ls (p1 * p2) () dX11_more_128 (by exact congrArg (fun x => (x, ())) (((if_neg c1).trans ((if_neg c3).trans ((if_pos c5).trans (rfl))))).symm) trivial hP hD hS
  have hs := hs.2 c5
  by_cases c6 : p0 = 37
  · have hs := hs.1 c6
    refine k_tab (tgt := 129) hx hb dX11_more_1 c6 (by decide) (by decide) rfl (by decide) ?_
    refine lv_iload_n hx hb dX11_more_129 rfl (lv_at hl 3 rfl) ?_
    refine lv_if_ne (tgt := 137) hx hb dX11_more_130 (by decide) (fun c7 => ?_) (fun c7 => ?_)
    · have hs := hs.2 c7
      refine lv_iload_n hx hb dX11_more_137 rfl (lv_at hl 2 rfl) ?_
      refine lv_i2l (v := p1.toInt64) hx hb dX11_more_138 rfl ?_
      refine lv_ldc2 (v := 4294967295) hx hb hown (hts _ lkX11_more_130) dX11_more_139 ?_
      refine lv_land hx hb dX11_more_142 ?_
      refine lv_iload_n hx hb dX11_more_143 rfl (lv_at hl 3 rfl) ?_
      refine lv_i2l (v := p2.toInt64) hx hb dX11_more_144 rfl ?_
      refine lv_ldc2 (v := 4294967295) hx hb hown (hts _ lkX11_more_130) dX11_more_145 ?_
      refine lv_land hx hb dX11_more_148 ?_
      obtain ⟨o1, hs⟩ := hs
      refine lv_ldiv hx hb dX11_more_149 o1 ?_
      refine lv_l2i (v := ((p1.toInt64 &&& 4294967295) / (p2.toInt64 &&& 4294967295)).toInt32) hx hb dX11_more_150 rfl ?_
      exact hret H locs _ ls (((p1.toInt64 &&& 4294967295) / (p2.toInt64 &&& 4294967295)).toInt32) () dX11_more_151 (by exact congrArg (fun x => (x, ())) (((if_neg c1).trans ((if_neg c3).trans ((if_neg c5).trans ((if_pos c6).trans ((if_neg c7).trans (rfl))))))).symm) trivial hP hD hS
    · have hs := hs.1 c7
      refine lv_iconst (v := 0) hx hb dX11_more_133 (by decide) ?_
      refine lv_goto (tgt := 151) hx hb dX11_more_134 (by decide) ?_
      exact hret H locs _ ls 0 () dX11_more_151 (by exact congrArg (fun x => (x, ())) (((if_neg c1).trans ((if_neg c3).trans ((if_neg c5).trans ((if_pos c6).trans ((if_pos c7).trans (rfl))))))).symm) trivial hP hD hS
  have hs := hs.2 c6
  by_cases c8 : p0 = 42
  · have hs := hs.1 c8
    refine k_tab (tgt := 152) hx hb dX11_more_1 c8 (by decide) (by decide) rfl (by decide) ?_
    refine lv_iload_n hx hb dX11_more_152 rfl (lv_at hl 2 rfl) ?_
    refine lv_bipush (v := 16) hx hb dX11_more_153 (by decide) ?_
    refine lv_ishl hx hb dX11_more_155 ?_
    refine lv_bipush (v := 16) hx hb dX11_more_156 (by decide) ?_
    refine lv_ishr hx hb dX11_more_158 ?_
    exact hret H locs _ ls ((p1 <<< (16 &&& 31)) >>> (16 &&& 31)) () dX11_more_159 (by exact congrArg (fun x => (x, ())) (((if_neg c1).trans ((if_neg c3).trans ((if_neg c5).trans ((if_neg c6).trans ((if_pos c8).trans (rfl))))))).symm) trivial hP hD hS
  have hs := hs.2 c8
  by_cases c9 : p0 = 43
  · have hs := hs.1 c9
    refine k_tab (tgt := 160) hx hb dX11_more_1 c9 (by decide) (by decide) rfl (by decide) ?_
    refine lv_iload_n hx hb dX11_more_160 rfl (lv_at hl 2 rfl) ?_
    refine lv_bipush (v := 24) hx hb dX11_more_161 (by decide) ?_
    refine lv_ishl hx hb dX11_more_163 ?_
    refine lv_bipush (v := 24) hx hb dX11_more_164 (by decide) ?_
    refine lv_ishr hx hb dX11_more_166 ?_
    exact hret H locs _ ls ((p1 <<< (24 &&& 31)) >>> (24 &&& 31)) () dX11_more_167 (by exact congrArg (fun x => (x, ())) (((if_neg c1).trans ((if_neg c3).trans ((if_neg c5).trans ((if_neg c6).trans ((if_neg c8).trans ((if_pos c9).trans (rfl)))))))).symm) trivial hP hD hS
  have hs := hs.2 c9
  by_cases c10 : p0 = 44
  · have hs := hs.1 c10
    refine k_tab (tgt := 168) hx hb dX11_more_1 c10 (by decide) (by decide) rfl (by decide) ?_
    refine lv_iload_n hx hb dX11_more_168 rfl (lv_at hl 2 rfl) ?_
    refine lv_ldc (v := 65535) hx hb hown (hts _ lkX11_more_246) dX11_more_169 ?_
    refine lv_iand hx hb dX11_more_171 ?_
    exact hret H locs _ ls (p1 &&& 65535) () dX11_more_172 (by exact congrArg (fun x => (x, ())) (((if_neg c1).trans ((if_neg c3).trans ((if_neg c5).trans ((if_neg c6).trans ((if_neg c8).trans ((if_neg c9).trans ((if_pos c10).trans (rfl))))))))).symm) trivial hP hD hS
  have hs := hs.2 c10
  by_cases c11 : p0 = 45
  · have hs := hs.1 c11
    refine k_tab (tgt := 173) hx hb dX11_more_1 c11 (by decide) (by decide) rfl (by decide) ?_
    refine lv_iload_n hx hb dX11_more_173 rfl (lv_at hl 2 rfl) ?_
    refine lv_sipush (v := 255) hx hb dX11_more_174 (by decide) ?_
    refine lv_iand hx hb dX11_more_177 ?_
    exact hret H locs _ ls (p1 &&& 255) () dX11_more_178 (by exact congrArg (fun x => (x, ())) (((if_neg c1).trans ((if_neg c3).trans ((if_neg c5).trans ((if_neg c6).trans ((if_neg c8).trans ((if_neg c9).trans ((if_neg c10).trans ((if_pos c11).trans (rfl)))))))))).symm) trivial hP hD hS
  have hs := hs.2 c11
  by_cases c12 : p0 = 46
  · have hs := hs.1 c12
    refine k_tab (tgt := 179) hx hb dX11_more_1 c12 (by decide) (by decide) rfl (by decide) ?_
    refine lv_aload_n hx hb dX11_more_179 rfl (lv_at hl 0 rfl) ?_
    refine lv_bipush (v := 32) hx hb dX11_more_180 (by decide) ?_
    refine k_iV (As := [.int 32]) (rest := []) (wc := [(aM, .inr (11, [.int m_thrown, .ref aMm, .ref aMr, .int m_sets, .ref aMs, .ref aMw, .long m_sum, .int m_pc, .int m_slot, .int m_branch, .int m_target, .int m_retired, .ref aMc, .ref aMv, .int m_lines, .int m_cycles, .int m_events, .int m_exceptions, .int m_doubles, .int m_longest, .ref aMf, .int m_word, .int m_codeFault, .int m_fetched, .int m_issued, .int m_due, .int m_starts, .int m_exception, .int m_eea, .int m_register, .int m_value, .int m_flag, .int m_carry, .int m_overflow, .int m_sums, .long m_newSum, .int m_store, .int m_bytes, .int m_stored, .int m_next, .int m_goal, .int m_returns, .ref aMi, .ref aMd, .int m_lastWord, .int m_lastReadable, .int m_lastPc, .int m_lastFetched, .int m_lastStarts, .int m_lastApart, .int m_redirected, .int m_behind, .ref aMy, .int m_flagReady, .int m_carryReady, .int m_sumReady, .int m_divided, .int m_foreseen, .int m_expected, .int m_went])), (aMs, .inl (cI, 10, .inl ms))]) (wr := []) ⟨hx, hb, hml, hown, hts⟩ hK hP hD hS hA [0, 1] [] rfl rfl rfl rfl (by decide) (mX11_has l G cI cB cP aM aMm aMr aMs aMw aMc aMv aMf aMi aMd aMy m_thrown m_sets m_sum m_pc m_slot m_branch m_target m_retired m_lines m_cycles m_events m_exceptions m_doubles m_longest m_word m_codeFault m_fetched m_issued m_due m_starts m_exception m_eea m_register m_value m_flag m_carry m_overflow m_sums m_newSum m_store m_bytes m_stored m_next m_goal m_returns m_lastWord m_lastReadable m_lastPc m_lastFetched m_lastStarts m_lastApart m_redirected m_behind m_flagReady m_carryReady m_sumReady m_divided m_foreseen m_expected m_went ms H.size 32 ) (cwV 1 hts gX11_more_X11_has rfl rfl rfl (by decide +kernel) ⟨Nat.le_of_ble_eq_true rfl, Nat.le_of_ble_eq_true rfl⟩) 0 11 rfl rfl rfl rfl hl.1 rfl (Nat.le_of_ble_eq_true rfl) dX11_more_182 ⟨Nat.le_of_ble_eq_true rfl, Nat.le_of_ble_eq_true rfl⟩ (fun z3 H locs hz3 hEz3 hP hD hS => ?_)
    have hs := hs z3 hz3
    have hP : va_P G vwCl [(aM, .inr (11, [.int m_thrown, .ref aMm, .ref aMr, .int m_sets, .ref aMs, .ref aMw, .long m_sum, .int m_pc, .int m_slot, .int m_branch, .int m_target, .int m_retired, .ref aMc, .ref aMv, .int m_lines, .int m_cycles, .int m_events, .int m_exceptions, .int m_doubles, .int m_longest, .ref aMf, .int m_word, .int m_codeFault, .int m_fetched, .int m_issued, .int m_due, .int m_starts, .int m_exception, .int m_eea, .int m_register, .int m_value, .int m_flag, .int m_carry, .int m_overflow, .int m_sums, .long m_newSum, .int m_store, .int m_bytes, .int m_stored, .int m_next, .int m_goal, .int m_returns, .ref aMi, .ref aMd, .int m_lastWord, .int m_lastReadable, .int m_lastPc, .int m_lastFetched, .int m_lastStarts, .int m_lastApart, .int m_redirected, .int m_behind, .ref aMy, .int m_flagReady, .int m_carryReady, .int m_sumReady, .int m_divided, .int m_foreseen, .int m_expected, .int m_went])), (aMs, .inl (cI, 10, .inl ms))] H := hP
    have hD : va_D A [(aM, .inr (11, [.int m_thrown, .ref aMm, .ref aMr, .int m_sets, .ref aMs, .ref aMw, .long m_sum, .int m_pc, .int m_slot, .int m_branch, .int m_target, .int m_retired, .ref aMc, .ref aMv, .int m_lines, .int m_cycles, .int m_events, .int m_exceptions, .int m_doubles, .int m_longest, .ref aMf, .int m_word, .int m_codeFault, .int m_fetched, .int m_issued, .int m_due, .int m_starts, .int m_exception, .int m_eea, .int m_register, .int m_value, .int m_flag, .int m_carry, .int m_overflow, .int m_sums, .long m_newSum, .int m_store, .int m_bytes, .int m_stored, .int m_next, .int m_goal, .int m_returns, .ref aMi, .ref aMd, .int m_lastWord, .int m_lastReadable, .int m_lastPc, .int m_lastFetched, .int m_lastStarts, .int m_lastApart, .int m_redirected, .int m_behind, .ref aMy, .int m_flagReady, .int m_carryReady, .int m_sumReady, .int m_divided, .int m_foreseen, .int m_expected, .int m_went])), (aMs, .inl (cI, 10, .inl ms))] := hD
    refine lv_if_eq (tgt := 192) hx hb dX11_more_185 (by decide) (fun c13 => ?_) (fun c13 => ?_)
    · have hs := hs.1 c13
      refine lv_iload_n hx hb dX11_more_192 rfl (lv_at hl 3 rfl) ?_
      exact hret H locs _ ls p2 () dX11_more_193 (by clear hP hD hS hl; replace hz3 := hz3.symm; subst hz3; exact congrArg (fun x => (x, ())) (((if_neg c1).trans ((if_neg c3).trans ((if_neg c5).trans ((if_neg c6).trans ((if_neg c8).trans ((if_neg c9).trans ((if_neg c10).trans ((if_neg c11).trans ((if_pos c12).trans ((if_pos c13).trans (rfl)))))))))))).symm) trivial hP hD hS
    · have hs := hs.2 c13
      refine lv_iload_n hx hb dX11_more_188 rfl (lv_at hl 2 rfl) ?_
      refine lv_goto (tgt := 193) hx hb dX11_more_189 (by decide) ?_
      exact hret H locs _ ls p1 () dX11_more_193 (by clear hP hD hS hl; replace hz3 := hz3.symm; subst hz3; exact congrArg (fun x => (x, ())) (((if_neg c1).trans ((if_neg c3).trans ((if_neg c5).trans ((if_neg c6).trans ((if_neg c8).trans ((if_neg c9).trans ((if_neg c10).trans ((if_neg c11).trans ((if_pos c12).trans ((if_neg c13).trans (rfl)))))))))))).symm) trivial hP hD hS
  have hs := hs.2 c12
  by_cases c14 : p0 = 47
  · have hs := hs.1 c14
    refine k_tab (tgt := 194) hx hb dX11_more_1 c14 (by decide) (by decide) rfl (by decide) ?_
    refine lv_iload_n hx hb dX11_more_194 rfl (lv_at hl 2 rfl) ?_
    refine lv_iload_n hx hb dX11_more_195 rfl (lv_at hl 1 rfl) ?_
    refine lv_bipush (v := 47) hx hb dX11_more_196 (by decide) ?_
    have Kj4 : ∀ (j4 : Int32) (H : Heap) (locs : List Loc) (ls : Array Slot), j4 = (if p0 = 47 then (1) else (0)) → isB j4 → va_P G vwCl [(aM, .inr (11, [.int m_thrown, .ref aMm, .ref aMr, .int m_sets, .ref aMs, .ref aMw, .long m_sum, .int m_pc, .int m_slot, .int m_branch, .int m_target, .int m_retired, .ref aMc, .ref aMv, .int m_lines, .int m_cycles, .int m_events, .int m_exceptions, .int m_doubles, .int m_longest, .ref aMf, .int m_word, .int m_codeFault, .int m_fetched, .int m_issued, .int m_due, .int m_starts, .int m_exception, .int m_eea, .int m_register, .int m_value, .int m_flag, .int m_carry, .int m_overflow, .int m_sums, .long m_newSum, .int m_store, .int m_bytes, .int m_stored, .int m_next, .int m_goal, .int m_returns, .ref aMi, .ref aMd, .int m_lastWord, .int m_lastReadable, .int m_lastPc, .int m_lastFetched, .int m_lastStarts, .int m_lastApart, .int m_redirected, .int m_behind, .ref aMy, .int m_flagReady, .int m_carryReady, .int m_sumReady, .int m_divided, .int m_foreseen, .int m_expected, .int m_went])), (aMs, .inl (cI, 10, .inl ms))] H → va_D A [(aM, .inr (11, [.int m_thrown, .ref aMm, .ref aMr, .int m_sets, .ref aMs, .ref aMw, .long m_sum, .int m_pc, .int m_slot, .int m_branch, .int m_target, .int m_retired, .ref aMc, .ref aMv, .int m_lines, .int m_cycles, .int m_events, .int m_exceptions, .int m_doubles, .int m_longest, .ref aMf, .int m_word, .int m_codeFault, .int m_fetched, .int m_issued, .int m_due, .int m_starts, .int m_exception, .int m_eea, .int m_register, .int m_value, .int m_flag, .int m_carry, .int m_overflow, .int m_sums, .long m_newSum, .int m_store, .int m_bytes, .int m_stored, .int m_next, .int m_goal, .int m_returns, .ref aMi, .ref aMd, .int m_lastWord, .int m_lastReadable, .int m_lastPc, .int m_lastFetched, .int m_lastStarts, .int m_lastApart, .int m_redirected, .int m_behind, .ref aMy, .int m_flagReady, .int m_carryReady, .int m_sumReady, .int m_divided, .int m_foreseen, .int m_expected, .int m_went])), (aMs, .inl (cI, 10, .inl ms))] → va_S A s.heap H locs → lv_has ls 6 [(0, .ref aM), (1, .int p0), (2, .int p1), (3, .int p2), (4, .int p3), (5, .int p4)] → W p l e ({ frames := 1, cells := 0, slots := 0, locals := 23 }) s m args below meth c H locs 0 0 Q (F0 m 206 ls [.int j4, .int p1]) := by
      intro j4 H locs ls hj4 hbj4_0 hP hD hS hl
      have hs := hs.2 j4 hj4
      obtain ⟨o2, hs⟩ := hs
      refine k_iS (As := [.int p1, .int j4]) (rest := []) ⟨hx, hb, hml, hown, hts⟩ hK hP hD hS hA (mX11_bitOf l G cI cB cP   H.size p1 j4 o2) (va_cwS 2 hts gX11_more_X11_bitOf rfl rfl rfl (by decide +kernel) ⟨Nat.le_of_ble_eq_true rfl, Nat.le_of_ble_eq_true rfl⟩) rfl hl.1 rfl (Nat.le_of_ble_eq_true rfl) dX11_more_206 ⟨Nat.le_of_ble_eq_true rfl, Nat.le_of_ble_eq_true rfl⟩ (fun z5 H locs hz5 hEz5 hP hS => ?_)
      have hs := hs z5 hz5
      exact hret H locs _ ls z5 () dX11_more_209 (by clear hP hD hS hl; replace hz5 := hz5.symm; subst hz5; replace hj4 := hj4.symm; subst hj4; exact congrArg (fun x => (x, ())) (((if_neg c1).trans ((if_neg c3).trans ((if_neg c5).trans ((if_neg c6).trans ((if_neg c8).trans ((if_neg c9).trans ((if_neg c10).trans ((if_neg c11).trans ((if_neg c12).trans ((if_pos c14).trans (rfl)))))))))))).symm) trivial hP hD hS
    have hs := hs.1
    refine lv_icmp_ne (tgt := 205) hx hb dX11_more_198 (by decide) (fun c17 => ?_) (fun c17 => ?_)
    · have hs := hs.2 c17
      refine lv_iconst (v := 0) hx hb dX11_more_205 (by decide) ?_
      exact Kj4 0 H locs ls ((if_neg c17).trans (rfl)).symm (Or.inl rfl) hP hD hS (lv_sub hl [0, 1, 2, 3, 4, 5] rfl)
    · have hs := hs.1 c17
      refine lv_iconst (v := 1) hx hb dX11_more_201 (by decide) ?_
      refine lv_goto (tgt := 206) hx hb dX11_more_202 (by decide) ?_
      exact Kj4 1 H locs ls ((if_pos c17).trans (rfl)).symm (Or.inr rfl) hP hD hS (lv_sub hl [0, 1, 2, 3, 4, 5] rfl)
  have hs := hs.2 c14
  by_cases c18 : p0 = 48
  · have hs := hs.1 c18
    refine k_tab (tgt := 194) hx hb dX11_more_1 c18 (by decide) (by decide) rfl (by decide) ?_
    refine lv_iload_n hx hb dX11_more_194 rfl (lv_at hl 2 rfl) ?_
    refine lv_iload_n hx hb dX11_more_195 rfl (lv_at hl 1 rfl) ?_
    refine lv_bipush (v := 47) hx hb dX11_more_196 (by decide) ?_
    have Kj6 : ∀ (j6 : Int32) (H : Heap) (locs : List Loc) (ls : Array Slot), j6 = (if p0 = 47 then (1) else (0)) → isB j6 → va_P G vwCl [(aM, .inr (11, [.int m_thrown, .ref aMm, .ref aMr, .int m_sets, .ref aMs, .ref aMw, .long m_sum, .int m_pc, .int m_slot, .int m_branch, .int m_target, .int m_retired, .ref aMc, .ref aMv, .int m_lines, .int m_cycles, .int m_events, .int m_exceptions, .int m_doubles, .int m_longest, .ref aMf, .int m_word, .int m_codeFault, .int m_fetched, .int m_issued, .int m_due, .int m_starts, .int m_exception, .int m_eea, .int m_register, .int m_value, .int m_flag, .int m_carry, .int m_overflow, .int m_sums, .long m_newSum, .int m_store, .int m_bytes, .int m_stored, .int m_next, .int m_goal, .int m_returns, .ref aMi, .ref aMd, .int m_lastWord, .int m_lastReadable, .int m_lastPc, .int m_lastFetched, .int m_lastStarts, .int m_lastApart, .int m_redirected, .int m_behind, .ref aMy, .int m_flagReady, .int m_carryReady, .int m_sumReady, .int m_divided, .int m_foreseen, .int m_expected, .int m_went])), (aMs, .inl (cI, 10, .inl ms))] H → va_D A [(aM, .inr (11, [.int m_thrown, .ref aMm, .ref aMr, .int m_sets, .ref aMs, .ref aMw, .long m_sum, .int m_pc, .int m_slot, .int m_branch, .int m_target, .int m_retired, .ref aMc, .ref aMv, .int m_lines, .int m_cycles, .int m_events, .int m_exceptions, .int m_doubles, .int m_longest, .ref aMf, .int m_word, .int m_codeFault, .int m_fetched, .int m_issued, .int m_due, .int m_starts, .int m_exception, .int m_eea, .int m_register, .int m_value, .int m_flag, .int m_carry, .int m_overflow, .int m_sums, .long m_newSum, .int m_store, .int m_bytes, .int m_stored, .int m_next, .int m_goal, .int m_returns, .ref aMi, .ref aMd, .int m_lastWord, .int m_lastReadable, .int m_lastPc, .int m_lastFetched, .int m_lastStarts, .int m_lastApart, .int m_redirected, .int m_behind, .ref aMy, .int m_flagReady, .int m_carryReady, .int m_sumReady, .int m_divided, .int m_foreseen, .int m_expected, .int m_went])), (aMs, .inl (cI, 10, .inl ms))] → va_S A s.heap H locs → lv_has ls 6 [(0, .ref aM), (1, .int p0), (2, .int p1), (3, .int p2), (4, .int p3), (5, .int p4)] → W p l e ({ frames := 1, cells := 0, slots := 0, locals := 23 }) s m args below meth c H locs 0 0 Q (F0 m 206 ls [.int j6, .int p1]) := by
      intro j6 H locs ls hj6 hbj6_0 hP hD hS hl
      have hs := hs.2 j6 hj6
      obtain ⟨o3, hs⟩ := hs
      refine k_iS (As := [.int p1, .int j6]) (rest := []) ⟨hx, hb, hml, hown, hts⟩ hK hP hD hS hA (mX11_bitOf l G cI cB cP   H.size p1 j6 o3) (va_cwS 2 hts gX11_more_X11_bitOf rfl rfl rfl (by decide +kernel) ⟨Nat.le_of_ble_eq_true rfl, Nat.le_of_ble_eq_true rfl⟩) rfl hl.1 rfl (Nat.le_of_ble_eq_true rfl) dX11_more_206 ⟨Nat.le_of_ble_eq_true rfl, Nat.le_of_ble_eq_true rfl⟩ (fun z7 H locs hz7 hEz7 hP hS => ?_)
      have hs := hs z7 hz7
      exact hret H locs _ ls z7 () dX11_more_209 (by clear hP hD hS hl; replace hz7 := hz7.symm; subst hz7; replace hj6 := hj6.symm; subst hj6; exact congrArg (fun x => (x, ())) (((if_neg c1).trans ((if_neg c3).trans ((if_neg c5).trans ((if_neg c6).trans ((if_neg c8).trans ((if_neg c9).trans ((if_neg c10).trans ((if_neg c11).trans ((if_neg c12).trans ((if_neg c14).trans ((if_pos c18).trans (rfl))))))))))))).symm) trivial hP hD hS
    have hs := hs.1
    refine lv_icmp_ne (tgt := 205) hx hb dX11_more_198 (by decide) (fun c21 => ?_) (fun c21 => ?_)
    · have hs := hs.2 c21
      refine lv_iconst (v := 0) hx hb dX11_more_205 (by decide) ?_
      exact Kj6 0 H locs ls ((if_neg c21).trans (rfl)).symm (Or.inl rfl) hP hD hS (lv_sub hl [0, 1, 2, 3, 4, 5] rfl)
    · have hs := hs.1 c21
      refine lv_iconst (v := 1) hx hb dX11_more_201 (by decide) ?_
      refine lv_goto (tgt := 206) hx hb dX11_more_202 (by decide) ?_
      exact Kj6 1 H locs ls ((if_pos c21).trans (rfl)).symm (Or.inr rfl) hP hD hS (lv_sub hl [0, 1, 2, 3, 4, 5] rfl)
  have hs := hs.2 c18
  by_cases c22 : p0 = 49
  · have hs := hs.1 c22
    refine k_tab (tgt := 210) hx hb dX11_more_1 c22 (by decide) (by decide) rfl (by decide) ?_
    refine lv_iload_n hx hb dX11_more_210 rfl (lv_at hl 2 rfl) ?_
    refine lv_iload_n hx hb dX11_more_211 rfl (lv_at hl 3 rfl) ?_
    refine k_iS (As := [.int p1, .int p2]) (rest := []) ⟨hx, hb, hml, hown, hts⟩ hK hP hD hS hA (mX11_rotated l G cI cB cP   H.size p1 p2 ) (va_cwS 2 hts gX11_more_X11_rotated rfl rfl rfl (by decide +kernel) ⟨Nat.le_of_ble_eq_true rfl, Nat.le_of_ble_eq_true rfl⟩) rfl hl.1 rfl (Nat.le_of_ble_eq_true rfl) dX11_more_212 ⟨Nat.le_of_ble_eq_true rfl, Nat.le_of_ble_eq_true rfl⟩ (fun z8 H locs hz8 hEz8 hP hS => ?_)
    have hs := hs z8 hz8
    exact hret H locs _ ls z8 () dX11_more_215 (by clear hP hD hS hl; replace hz8 := hz8.symm; subst hz8; exact congrArg (fun x => (x, ())) (((if_neg c1).trans ((if_neg c3).trans ((if_neg c5).trans ((if_neg c6).trans ((if_neg c8).trans ((if_neg c9).trans ((if_neg c10).trans ((if_neg c11).trans ((if_neg c12).trans ((if_neg c14).trans ((if_neg c18).trans ((if_pos c22).trans (rfl)))))))))))))).symm) trivial hP hD hS
  have hs := hs.2 c22
  by_cases c23 : p0 = 50
  · have hs := hs.1 c23
    refine k_tab (tgt := 216) hx hb dX11_more_1 c23 (by decide) (by decide) rfl (by decide) ?_
    refine lv_iload_n hx hb dX11_more_216 rfl (lv_at hl 2 rfl) ?_
    refine lv_iload hx hb dX11_more_217 (lv_at hl 4 rfl) ?_
    refine k_iS (As := [.int p1, .int p3]) (rest := []) ⟨hx, hb, hml, hown, hts⟩ hK hP hD hS hA (mX11_rotated l G cI cB cP   H.size p1 p3 ) (va_cwS 2 hts gX11_more_X11_rotated rfl rfl rfl (by decide +kernel) ⟨Nat.le_of_ble_eq_true rfl, Nat.le_of_ble_eq_true rfl⟩) rfl hl.1 rfl (Nat.le_of_ble_eq_true rfl) dX11_more_219 ⟨Nat.le_of_ble_eq_true rfl, Nat.le_of_ble_eq_true rfl⟩ (fun z9 H locs hz9 hEz9 hP hS => ?_)
    have hs := hs z9 hz9
    exact hret H locs _ ls z9 () dX11_more_222 (by clear hP hD hS hl; replace hz9 := hz9.symm; subst hz9; exact congrArg (fun x => (x, ())) (((if_neg c1).trans ((if_neg c3).trans ((if_neg c5).trans ((if_neg c6).trans ((if_neg c8).trans ((if_neg c9).trans ((if_neg c10).trans ((if_neg c11).trans ((if_neg c12).trans ((if_neg c14).trans ((if_neg c18).trans ((if_neg c22).trans ((if_pos c23).trans (rfl))))))))))))))).symm) trivial hP hD hS
  have hs := hs.2 c23
  refine k_tabD (tgt := 223) hx hb dX11_more_1 [34, 35, 36, 37, 42, 43, 44, 45, 46, 47, 48, 49, 50] (List.forall_mem_cons.mpr ⟨c1, List.forall_mem_cons.mpr ⟨c3, List.forall_mem_cons.mpr ⟨c5, List.forall_mem_cons.mpr ⟨c6, List.forall_mem_cons.mpr ⟨c8, List.forall_mem_cons.mpr ⟨c9, List.forall_mem_cons.mpr ⟨c10, List.forall_mem_cons.mpr ⟨c11, List.forall_mem_cons.mpr ⟨c12, List.forall_mem_cons.mpr ⟨c14, List.forall_mem_cons.mpr ⟨c18, List.forall_mem_cons.mpr ⟨c22, List.forall_mem_cons.mpr ⟨c23, fun _ h => absurd h List.not_mem_nil⟩⟩⟩⟩⟩⟩⟩⟩⟩⟩⟩⟩⟩) (by decide) (by decide) (by decide) ?_
  refine lv_iload_n hx hb dX11_more_223 rfl (lv_at hl 2 rfl) ?_
  refine lv_iload hx hb dX11_more_224 (lv_at hl 5 rfl) ?_
  refine lv_imul hx hb dX11_more_226 ?_
  exact hret H locs _ ls (p1 * p4) () dX11_more_227 (by exact congrArg (fun x => (x, ())) (((if_neg c1).trans ((if_neg c3).trans ((if_neg c5).trans ((if_neg c6).trans ((if_neg c8).trans ((if_neg c9).trans ((if_neg c10).trans ((if_neg c11).trans ((if_neg c12).trans ((if_neg c14).trans ((if_neg c18).trans ((if_neg c22).trans ((if_neg c23).trans (rfl))))))))))))))).symm) trivial hP hD hS
def fX11_readsCarry (p0 : Int32) : Int32 :=
  (let z1 := fX11_op p0; if z1 = 34 then (1) else ((let z2 := fX11_op p0; if z2 = 35 then (1) else (0))))
set_option maxHeartbeats 4000000 in
set_option maxRecDepth 100000 in
theorem mX11_readsCarry (l : Launch) (G : va_G) (cI cB cP : ClassId) (sz : Nat) (p0 : Int32) : kMi (S := Unit) l yX11_readsCarry wsX11_readsCarry ({ frames := 1, cells := 0, slots := 0, locals := 20 }) [.int p0] G (kTY cI cB cP) sz [] (fX11_readsCarry p0, ()) (fun r _ => isB r) (fun _ => []) := by
  refine k_ofz (cc := cX11_readsCarry) (maxL := 1) (by decide) rfl (Nat.le_of_ble_eq_true rfl) ?_
  intro p e s m args below meth c A ls Q H locs hx hb hml hown hts hin hK hP hD hA hS hl hret
  have hown : s.vm.findClass RX11 = some m.cls := hown
  have hl : lv_has ls 1 [(0, .int p0)] := hl
  refine lv_iload_n hx hb dX11_readsCarry_0 rfl (lv_at hl 0 rfl) ?_
  refine k_iS (As := [.int p0]) (rest := []) ⟨hx, hb, hml, hown, hts⟩ hK hP hD hS hA (mX11_op l G cI cB cP   H.size p0 ) (va_cwS 1 hts gX11_readsCarry_X11_op rfl rfl rfl (by decide +kernel) ⟨Nat.le_of_ble_eq_true rfl, Nat.le_of_ble_eq_true rfl⟩) rfl hl.1 rfl (Nat.le_of_ble_eq_true rfl) dX11_readsCarry_1 ⟨Nat.le_of_ble_eq_true rfl, Nat.le_of_ble_eq_true rfl⟩ (fun z1 H locs hz1 hEz1 hP hS => ?_)
  refine lv_bipush (v := 34) hx hb dX11_readsCarry_4 (by decide) ?_
  refine lv_icmp_eq (tgt := 18) hx hb dX11_readsCarry_6 (by decide) (fun c1 => ?_) (fun c1 => ?_)
  · skip
    refine lv_iconst (v := 1) hx hb dX11_readsCarry_18 (by decide) ?_
    refine lv_goto (tgt := 23) hx hb dX11_readsCarry_19 (by decide) ?_
    exact hret H locs _ ls 1 () dX11_readsCarry_23 (by clear hP hD hS hl; replace hz1 := hz1.symm; subst hz1; exact congrArg (fun x => (x, ())) (((if_pos c1).trans (rfl))).symm) (Or.inr rfl) (Or.inr rfl) hP hD hS
  · skip
    refine lv_iload_n hx hb dX11_readsCarry_9 rfl (lv_at hl 0 rfl) ?_
    refine k_iS (As := [.int p0]) (rest := []) ⟨hx, hb, hml, hown, hts⟩ hK hP hD hS hA (mX11_op l G cI cB cP   H.size p0 ) (va_cwS 1 hts gX11_readsCarry_X11_op rfl rfl rfl (by decide +kernel) ⟨Nat.le_of_ble_eq_true rfl, Nat.le_of_ble_eq_true rfl⟩) rfl hl.1 rfl (Nat.le_of_ble_eq_true rfl) dX11_readsCarry_10 ⟨Nat.le_of_ble_eq_true rfl, Nat.le_of_ble_eq_true rfl⟩ (fun z2 H locs hz2 hEz2 hP hS => ?_)
    refine lv_bipush (v := 35) hx hb dX11_readsCarry_13 (by decide) ?_
    refine lv_icmp_ne (tgt := 22) hx hb dX11_readsCarry_15 (by decide) (fun c2 => ?_) (fun c2 => ?_)
    · skip
      refine lv_iconst (v := 0) hx hb dX11_readsCarry_22 (by decide) ?_
      exact hret H locs _ ls 0 () dX11_readsCarry_23 (by clear hP hD hS hl; replace hz2 := hz2.symm; subst hz2; replace hz1 := hz1.symm; subst hz1; exact congrArg (fun x => (x, ())) (((if_neg c1).trans ((if_neg c2).trans (rfl)))).symm) (Or.inl rfl) (Or.inl rfl) hP hD hS
    · skip
      refine lv_iconst (v := 1) hx hb dX11_readsCarry_18 (by decide) ?_
      refine lv_goto (tgt := 23) hx hb dX11_readsCarry_19 (by decide) ?_
      exact hret H locs _ ls 1 () dX11_readsCarry_23 (by clear hP hD hS hl; replace hz2 := hz2.symm; subst hz2; replace hz1 := hz1.symm; subst hz1; exact congrArg (fun x => (x, ())) (((if_neg c1).trans ((if_pos c2).trans (rfl)))).symm) (Or.inr rfl) (Or.inr rfl) hP hD hS

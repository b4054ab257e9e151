def fX11_placeOf (m_pc : Int32) (m_branch : Int32) (m_target : Int32) (p0 : Int32) : Int32 × Int32 :=
  if p0 = 0 then ((m_pc, 0)) else (if p0 = 1 then ((m_branch, 0)) else (if p0 = 2 then ((m_target, 0)) else ((0, 0))))
theorem lkX11_placeOf_49 : Cond.fieldLink RX11 49 "TwinIssueModel" "thrown" "I" ∈ wsX11_placeOf := by decide +kernel
theorem lkX11_placeOf_56 : Cond.fieldLink RX11 56 "TwinIssueModel" "pc" "I" ∈ wsX11_placeOf := by decide +kernel
theorem lkX11_placeOf_63 : Cond.fieldLink RX11 63 "TwinIssueModel" "branch" "I" ∈ wsX11_placeOf := by decide +kernel
theorem lkX11_placeOf_66 : Cond.fieldLink RX11 66 "TwinIssueModel" "target" "I" ∈ wsX11_placeOf := by decide +kernel
theorem iwX11_placeOf_X11 : ∀ w ∈ wsX110, w ∈ wsX11_placeOf := fun _ h => List.mem_cons_of_mem _ (List.mem_append_right _ h)
set_option maxHeartbeats 4000000 in
set_option maxRecDepth 100000 in
theorem mX11_placeOf (l : Launch) (G : va_G) (cI cB cP : ClassId) (aM aMm aMr aMs aMw aMc aMv aMf aMi aMd aMy : Nat) (m_thrown : Int32) (m_sets : Int32) (m_sum : Int64) (m_pc : Int32) (m_slot : Int32) (m_branch : Int32) (m_target : Int32) (m_retired : Int32) (m_lines : Int32) (m_cycles : Int32) (m_events : Int32) (m_exceptions : Int32) (m_doubles : Int32) (m_longest : Int32) (m_word : Int32) (m_codeFault : Int32) (m_fetched : Int32) (m_issued : Int32) (m_due : Int32) (m_starts : Int32) (m_exception : Int32) (m_eea : Int32) (m_register : Int32) (m_value : Int32) (m_flag : Int32) (m_carry : Int32) (m_overflow : Int32) (m_sums : Int32) (m_newSum : Int64) (m_store : Int32) (m_bytes : Int32) (m_stored : Int32) (m_next : Int32) (m_goal : Int32) (m_returns : Int32) (m_lastWord : Int32) (m_lastReadable : Int32) (m_lastPc : Int32) (m_lastFetched : Int32) (m_lastStarts : Int32) (m_lastApart : Int32) (m_redirected : Int32) (m_behind : Int32) (m_flagReady : Int32) (m_carryReady : Int32) (m_sumReady : Int32) (m_divided : Int32) (m_foreseen : Int32) (m_expected : Int32) (m_went : Int32) (sz : Nat) (p0 : Int32) : kMi (S := Int32) l yX11_placeOf wsX11_placeOf ({ frames := 0, cells := 0, slots := 0, locals := 0 }) [.ref aM, .int p0] G (kTY cI cB cP) sz [(aM, .inr (11, [.int m_thrown, .ref aMm, .ref aMr, .int m_sets, .ref aMs, .ref aMw, .long m_sum, .int m_pc, .int m_slot, .int m_branch, .int m_target, .int m_retired, .ref aMc, .ref aMv, .int m_lines, .int m_cycles, .int m_events, .int m_exceptions, .int m_doubles, .int m_longest, .ref aMf, .int m_word, .int m_codeFault, .int m_fetched, .int m_issued, .int m_due, .int m_starts, .int m_exception, .int m_eea, .int m_register, .int m_value, .int m_flag, .int m_carry, .int m_overflow, .int m_sums, .long m_newSum, .int m_store, .int m_bytes, .int m_stored, .int m_next, .int m_goal, .int m_returns, .ref aMi, .ref aMd, .int m_lastWord, .int m_lastReadable, .int m_lastPc, .int m_lastFetched, .int m_lastStarts, .int m_lastApart, .int m_redirected, .int m_behind, .ref aMy, .int m_flagReady, .int m_carryReady, .int m_sumReady, .int m_divided, .int m_foreseen, .int m_expected, .int m_went]))] (fX11_placeOf m_pc m_branch m_target p0) (fun _ _ => True) (fun u => [(aM, .inr (11, [.int u, .ref aMm, .ref aMr, .int m_sets, .ref aMs, .ref aMw, .long m_sum, .int m_pc, .int m_slot, .int m_branch, .int m_target, .int m_retired, .ref aMc, .ref aMv, .int m_lines, .int m_cycles, .int m_events, .int m_exceptions, .int m_doubles, .int m_longest, .ref aMf, .int m_word, .int m_codeFault, .int m_fetched, .int m_issued, .int m_due, .int m_starts, .int m_exception, .int m_eea, .int m_register, .int m_value, .int m_flag, .int m_carry, .int m_overflow, .int m_sums, .long m_newSum, .int m_store, .int m_bytes, .int m_stored, .int m_next, .int m_goal, .int m_returns, .ref aMi, .ref aMd, .int m_lastWord, .int m_lastReadable, .int m_lastPc, .int m_lastFetched, .int m_lastStarts, .int m_lastApart, .int m_redirected, .int m_behind, .ref aMy, .int m_flagReady, .int m_carryReady, .int m_sumReady, .int m_divided, .int m_foreseen, .int m_expected, .int m_went]))]) := by
  refine k_ofi (cc := cX11_placeOf) (maxL := 2) (by decide) rfl (Nat.le_of_ble_eq_true rfl) ?_
  intro p e s m args below meth c A ls Q H locs hx hb hml hown hts hin hK hP hD hA hS hl hret
  have hown : s.vm.findClass RX11 = some m.cls := hown
  have hl : lv_has ls 2 [(0, .ref aM), (1, .int p0)] := hl
  refine lv_aload_n hx hb dX11_placeOf_0 rfl (lv_at hl 0 rfl) ?_
  refine lv_iconst (v := 0) hx hb dX11_placeOf_1 (by decide) ?_
  refine va_put (D := G) (ci := 11) (v := .int 0) (ty := .int) (C := RX11) (T := TX11) (N := 60) hx hb hts iwX11_placeOf_X11 tyX11 tyX11_ok nmX11 hown hK hP hD hS 0 rfl rfl 0 (by decide) (hts _ lkX11_placeOf_49) (fun _ h9 => h9) rfl (by decide +kernel) rfl rfl (Nat.le_of_ble_eq_true rfl) dX11_placeOf_2 (fun H locs hP hD hS => ?_)
  have hP : va_P G vwCl [(aM, .inr (11, [.int 0, .ref aMm, .ref aMr, .int m_sets, .ref aMs, .ref aMw, .long m_sum, .int m_pc, .int m_slot, .int m_branch, .int m_target, .int m_retired, .ref aMc, .ref aMv, .int m_lines, .int m_cycles, .int m_events, .int m_exceptions, .int m_doubles, .int m_longest, .ref aMf, .int m_word, .int m_codeFault, .int m_fetched, .int m_issued, .int m_due, .int m_starts, .int m_exception, .int m_eea, .int m_register, .int m_value, .int m_flag, .int m_carry, .int m_overflow, .int m_sums, .long m_newSum, .int m_store, .int m_bytes, .int m_stored, .int m_next, .int m_goal, .int m_returns, .ref aMi, .ref aMd, .int m_lastWord, .int m_lastReadable, .int m_lastPc, .int m_lastFetched, .int m_lastStarts, .int m_lastApart, .int m_redirected, .int m_behind, .ref aMy, .int m_flagReady, .int m_carryReady, .int m_sumReady, .int m_divided, .int m_foreseen, .int m_expected, .int m_went]))] H := hP
  have hD : va_D A [(aM, .inr (11, [.int 0, .ref aMm, .ref aMr, .int m_sets, .ref aMs, .ref aMw, .long m_sum, .int m_pc, .int m_slot, .int m_branch, .int m_target, .int m_retired, .ref aMc, .ref aMv, .int m_lines, .int m_cycles, .int m_events, .int m_exceptions, .int m_doubles, .int m_longest, .ref aMf, .int m_word, .int m_codeFault, .int m_fetched, .int m_issued, .int m_due, .int m_starts, .int m_exception, .int m_eea, .int m_register, .int m_value, .int m_flag, .int m_carry, .int m_overflow, .int m_sums, .long m_newSum, .int m_store, .int m_bytes, .int m_stored, .int m_next, .int m_goal, .int m_returns, .ref aMi, .ref aMd, .int m_lastWord, .int m_lastReadable, .int m_lastPc, .int m_lastFetched, .int m_lastStarts, .int m_lastApart, .int m_redirected, .int m_behind, .ref aMy, .int m_flagReady, .int m_carryReady, .int m_sumReady, .int m_divided, .int m_foreseen, .int m_expected, .int m_went]))] := hD
  refine lv_iload_n hx hb dX11_placeOf_5 rfl (lv_at hl 1 rfl) ?_
  refine lv_if_ne (tgt := 16) hx hb dX11_placeOf_6 (by decide) (fun c1 => ?_) (fun c1 => ?_)
  · skip
    refine lv_iload_n hx hb dX11_placeOf_16 rfl (lv_at hl 1 rfl) ?_
    refine lv_iconst (v := 1) hx hb dX11_placeOf_17 (by decide) ?_
    refine lv_icmp_ne (tgt := 28) hx hb dX11_placeOf_18 (by decide) (fun c2 => ?_) (fun c2 => ?_)
    · skip
      refine lv_iload_n hx hb dX11_placeOf_28 rfl (lv_at hl 1 rfl) ?_
      refine lv_iconst (v := 2) hx hb dX11_placeOf_29 (by decide) ?_
      refine lv_icmp_ne (tgt := 40) hx hb dX11_placeOf_30 (by decide) (fun c3 => ?_) (fun c3 => ?_)
      · skip
        refine lv_iconst (v := 0) hx hb dX11_placeOf_40 (by decide) ?_
        exact hret H locs _ ls 0 0 dX11_placeOf_41 ((if_neg c1).trans ((if_neg c2).trans ((if_neg c3).trans (rfl)))).symm trivial hP hD hS
      · skip
        refine lv_aload_n hx hb dX11_placeOf_33 rfl (lv_at hl 0 rfl) ?_
        refine va_get (D := G) (ci := 11) (v := .int m_target) (C := RX11) (T := TX11) (N := 60) hx hb hts iwX11_placeOf_X11 hown hK hP 0 rfl rfl 10 (by decide) (hts _ lkX11_placeOf_66) (fun _ h9 => h9) rfl dX11_placeOf_34 ?_
        refine lv_goto (tgt := 41) hx hb dX11_placeOf_37 (by decide) ?_
        exact hret H locs _ ls m_target 0 dX11_placeOf_41 ((if_neg c1).trans ((if_neg c2).trans ((if_pos c3).trans (rfl)))).symm trivial hP hD hS
    · skip
      refine lv_aload_n hx hb dX11_placeOf_21 rfl (lv_at hl 0 rfl) ?_
      refine va_get (D := G) (ci := 11) (v := .int m_branch) (C := RX11) (T := TX11) (N := 60) hx hb hts iwX11_placeOf_X11 hown hK hP 0 rfl rfl 9 (by decide) (hts _ lkX11_placeOf_63) (fun _ h9 => h9) rfl dX11_placeOf_22 ?_
      refine lv_goto (tgt := 41) hx hb dX11_placeOf_25 (by decide) ?_
      exact hret H locs _ ls m_branch 0 dX11_placeOf_41 ((if_neg c1).trans ((if_pos c2).trans (rfl))).symm trivial hP hD hS
  · skip
    refine lv_aload_n hx hb dX11_placeOf_9 rfl (lv_at hl 0 rfl) ?_
    refine va_get (D := G) (ci := 11) (v := .int m_pc) (C := RX11) (T := TX11) (N := 60) hx hb hts iwX11_placeOf_X11 hown hK hP 0 rfl rfl 7 (by decide) (hts _ lkX11_placeOf_56) (fun _ h9 => h9) rfl dX11_placeOf_10 ?_
    refine lv_goto (tgt := 41) hx hb dX11_placeOf_13 (by decide) ?_
    exact hret H locs _ ls m_pc 0 dX11_placeOf_41 ((if_pos c1).trans (rfl)).symm trivial hP hD hS

def fX11_lookAt (m_sets : Int32) (m_lines : Int32) (m_cycles : Int32) (m_events : Int32) (m_exceptions : Int32) (m_doubles : Int32) (m_longest : Int32) (ms : Nat → Int32) (p0 : Int32) : Int32 × Int32 :=
  if p0 = 0 then ((m_cycles, 0)) else (if p0 = 1 then ((m_events, 0)) else (if p0 = 2 then ((m_exceptions, 0)) else (if p0 = 3 then ((m_doubles, 0)) else (if p0 = 4 then (if m_events = 0 then (((-1), 0)) else (if m_events ≤ 256 then ((0, 0)) else ((m_events - 256, 0)))) else (if p0 = 5 then ((m_lines, 0)) else (if p0 = 6 then ((m_longest, 0)) else (if p0 = 7 then ((m_sets, 0)) else (if p0 = 8 then ((ms 7, 0)) else (((-1), 0))))))))))
theorem lkX11_lookAt_18 : Cond.fieldLink RX11 18 "TwinIssueModel" "specials" "[I" ∈ wsX11_lookAt := by decide +kernel
theorem lkX11_lookAt_42 : Cond.fieldLink RX11 42 "TwinIssueModel" "sets" "I" ∈ wsX11_lookAt := by decide +kernel
theorem lkX11_lookAt_49 : Cond.fieldLink RX11 49 "TwinIssueModel" "thrown" "I" ∈ wsX11_lookAt := by decide +kernel
theorem lkX11_lookAt_72 : Cond.fieldLink RX11 72 "TwinIssueModel" "lines" "I" ∈ wsX11_lookAt := by decide +kernel
theorem lkX11_lookAt_75 : Cond.fieldLink RX11 75 "TwinIssueModel" "cycles" "I" ∈ wsX11_lookAt := by decide +kernel
theorem lkX11_lookAt_78 : Cond.fieldLink RX11 78 "TwinIssueModel" "events" "I" ∈ wsX11_lookAt := by decide +kernel
theorem lkX11_lookAt_81 : Cond.fieldLink RX11 81 "TwinIssueModel" "exceptions" "I" ∈ wsX11_lookAt := by decide +kernel
theorem lkX11_lookAt_84 : Cond.fieldLink RX11 84 "TwinIssueModel" "doubles" "I" ∈ wsX11_lookAt := by decide +kernel
theorem lkX11_lookAt_87 : Cond.fieldLink RX11 87 "TwinIssueModel" "longest" "I" ∈ wsX11_lookAt := by decide +kernel
theorem iwX11_lookAt_X11 : ∀ w ∈ wsX110, w ∈ wsX11_lookAt := fun _ h => List.mem_cons_of_mem _ (List.mem_append_right _ h)
set_option maxHeartbeats 4000000 in
set_option maxRecDepth 100000 in
theorem mX11_lookAt (l : Launch) (G : va_G) (cI cB cP : ClassId) (aM aMm aMr aMs aMw aMc aMv aMf aMi aMd aMy : Nat) (m_thrown : Int32) (m_sets : Int32) (m_sum : Int64) (m_pc : Int32) (m_slot : Int32) (m_branch : Int32) (m_target : Int32) (m_retired : Int32) (m_lines : Int32) (m_cycles : Int32) (m_events : Int32) (m_exceptions : Int32) (m_doubles : Int32) (m_longest : Int32) (m_word : Int32) (m_codeFault : Int32) (m_fetched : Int32) (m_issued : Int32) (m_due : Int32) (m_starts : Int32) (m_exception : Int32) (m_eea : Int32) (m_register : Int32) (m_value : Int32) (m_flag : Int32) (m_carry : Int32) (m_overflow : Int32) (m_sums : Int32) (m_newSum : Int64) (m_store : Int32) (m_bytes : Int32) (m_stored : Int32) (m_next : Int32) (m_goal : Int32) (m_returns : Int32) (m_lastWord : Int32) (m_lastReadable : Int32) (m_lastPc : Int32) (m_lastFetched : Int32) (m_lastStarts : Int32) (m_lastApart : Int32) (m_redirected : Int32) (m_behind : Int32) (m_flagReady : Int32) (m_carryReady : Int32) (m_sumReady : Int32) (m_divided : Int32) (m_foreseen : Int32) (m_expected : Int32) (m_went : Int32) (ms : Nat → Int32) (sz : Nat) (p0 : Int32) : kMi (S := Int32) l yX11_lookAt wsX11_lookAt ({ frames := 0, cells := 0, slots := 0, locals := 0 }) [.ref aM, .int p0] G (kTY cI cB cP) sz [(aM, .inr (11, [.int m_thrown, .ref aMm, .ref aMr, .int m_sets, .ref aMs, .ref aMw, .long m_sum, .int m_pc, .int m_slot, .int m_branch, .int m_target, .int m_retired, .ref aMc, .ref aMv, .int m_lines, .int m_cycles, .int m_events, .int m_exceptions, .int m_doubles, .int m_longest, .ref aMf, .int m_word, .int m_codeFault, .int m_fetched, .int m_issued, .int m_due, .int m_starts, .int m_exception, .int m_eea, .int m_register, .int m_value, .int m_flag, .int m_carry, .int m_overflow, .int m_sums, .long m_newSum, .int m_store, .int m_bytes, .int m_stored, .int m_next, .int m_goal, .int m_returns, .ref aMi, .ref aMd, .int m_lastWord, .int m_lastReadable, .int m_lastPc, .int m_lastFetched, .int m_lastStarts, .int m_lastApart, .int m_redirected, .int m_behind, .ref aMy, .int m_flagReady, .int m_carryReady, .int m_sumReady, .int m_divided, .int m_foreseen, .int m_expected, .int m_went])), (aMs, .inl (cI, 10, .inl ms))] (fX11_lookAt m_sets m_lines m_cycles m_events m_exceptions m_doubles m_longest ms p0) (fun _ _ => True) (fun u => [(aM, .inr (11, [.int u, .ref aMm, .ref aMr, .int m_sets, .ref aMs, .ref aMw, .long m_sum, .int m_pc, .int m_slot, .int m_branch, .int m_target, .int m_retired, .ref aMc, .ref aMv, .int m_lines, .int m_cycles, .int m_events, .int m_exceptions, .int m_doubles, .int m_longest, .ref aMf, .int m_word, .int m_codeFault, .int m_fetched, .int m_issued, .int m_due, .int m_starts, .int m_exception, .int m_eea, .int m_register, .int m_value, .int m_flag, .int m_carry, .int m_overflow, .int m_sums, .long m_newSum, .int m_store, .int m_bytes, .int m_stored, .int m_next, .int m_goal, .int m_returns, .ref aMi, .ref aMd, .int m_lastWord, .int m_lastReadable, .int m_lastPc, .int m_lastFetched, .int m_lastStarts, .int m_lastApart, .int m_redirected, .int m_behind, .ref aMy, .int m_flagReady, .int m_carryReady, .int m_sumReady, .int m_divided, .int m_foreseen, .int m_expected, .int m_went])), (aMs, .inl (cI, 10, .inl ms))]) := by
  refine k_ofi (cc := cX11_lookAt) (maxL := 2) (by decide) rfl (Nat.le_of_ble_eq_true rfl) ?_
  intro p e s m args below meth c A ls Q H locs hx hb hml hown hts hin hK hP hD hA hS hl hret
  have hown : s.vm.findClass RX11 = some m.cls := hown
  have hl : lv_has ls 2 [(0, .ref aM), (1, .int p0)] := hl
  refine lv_aload_n hx hb dX11_lookAt_0 rfl (lv_at hl 0 rfl) ?_
  refine lv_iconst (v := 0) hx hb dX11_lookAt_1 (by decide) ?_
  refine va_put (D := G) (ci := 11) (v := .int 0) (ty := .int) (C := RX11) (T := TX11) (N := 60) hx hb hts iwX11_lookAt_X11 tyX11 tyX11_ok nmX11 hown hK hP hD hS 0 rfl rfl 0 (by decide) (hts _ lkX11_lookAt_49) (fun _ h9 => h9) rfl (by decide +kernel) rfl rfl (Nat.le_of_ble_eq_true rfl) dX11_lookAt_2 (fun H locs hP hD hS => ?_)
  have hP : va_P G vwCl [(aM, .inr (11, [.int 0, .ref aMm, .ref aMr, .int m_sets, .ref aMs, .ref aMw, .long m_sum, .int m_pc, .int m_slot, .int m_branch, .int m_target, .int m_retired, .ref aMc, .ref aMv, .int m_lines, .int m_cycles, .int m_events, .int m_exceptions, .int m_doubles, .int m_longest, .ref aMf, .int m_word, .int m_codeFault, .int m_fetched, .int m_issued, .int m_due, .int m_starts, .int m_exception, .int m_eea, .int m_register, .int m_value, .int m_flag, .int m_carry, .int m_overflow, .int m_sums, .long m_newSum, .int m_store, .int m_bytes, .int m_stored, .int m_next, .int m_goal, .int m_returns, .ref aMi, .ref aMd, .int m_lastWord, .int m_lastReadable, .int m_lastPc, .int m_lastFetched, .int m_lastStarts, .int m_lastApart, .int m_redirected, .int m_behind, .ref aMy, .int m_flagReady, .int m_carryReady, .int m_sumReady, .int m_divided, .int m_foreseen, .int m_expected, .int m_went])), (aMs, .inl (cI, 10, .inl ms))] H := hP
  have hD : va_D A [(aM, .inr (11, [.int 0, .ref aMm, .ref aMr, .int m_sets, .ref aMs, .ref aMw, .long m_sum, .int m_pc, .int m_slot, .int m_branch, .int m_target, .int m_retired, .ref aMc, .ref aMv, .int m_lines, .int m_cycles, .int m_events, .int m_exceptions, .int m_doubles, .int m_longest, .ref aMf, .int m_word, .int m_codeFault, .int m_fetched, .int m_issued, .int m_due, .int m_starts, .int m_exception, .int m_eea, .int m_register, .int m_value, .int m_flag, .int m_carry, .int m_overflow, .int m_sums, .long m_newSum, .int m_store, .int m_bytes, .int m_stored, .int m_next, .int m_goal, .int m_returns, .ref aMi, .ref aMd, .int m_lastWord, .int m_lastReadable, .int m_lastPc, .int m_lastFetched, .int m_lastStarts, .int m_lastApart, .int m_redirected, .int m_behind, .ref aMy, .int m_flagReady, .int m_carryReady, .int m_sumReady, .int m_divided, .int m_foreseen, .int m_expected, .int m_went])), (aMs, .inl (cI, 10, .inl ms))] := hD
  refine lv_iload_n hx hb dX11_lookAt_5 rfl (lv_at hl 1 rfl) ?_
  by_cases c1 : p0 = 0
  · skip
    refine k_tab (tgt := 56) hx hb dX11_lookAt_6 c1 (by decide) (by decide) rfl (by decide) ?_
    refine lv_aload_n hx hb dX11_lookAt_56 rfl (lv_at hl 0 rfl) ?_
    refine va_get (D := G) (ci := 11) (v := .int m_cycles) (C := RX11) (T := TX11) (N := 60) hx hb hts iwX11_lookAt_X11 hown hK hP 0 rfl rfl 15 (by decide) (hts _ lkX11_lookAt_75) (fun _ h9 => h9) rfl dX11_lookAt_57 ?_
    exact hret H locs _ ls m_cycles 0 dX11_lookAt_60 ((if_pos c1).trans (rfl)).symm trivial hP hD hS
  by_cases c2 : p0 = 1
  · skip
    refine k_tab (tgt := 61) hx hb dX11_lookAt_6 c2 (by decide) (by decide) rfl (by decide) ?_
    refine lv_aload_n hx hb dX11_lookAt_61 rfl (lv_at hl 0 rfl) ?_
    refine va_get (D := G) (ci := 11) (v := .int m_events) (C := RX11) (T := TX11) (N := 60) hx hb hts iwX11_lookAt_X11 hown hK hP 0 rfl rfl 16 (by decide) (hts _ lkX11_lookAt_78) (fun _ h9 => h9) rfl dX11_lookAt_62 ?_
    exact hret H locs _ ls m_events 0 dX11_lookAt_65 ((if_neg c1).trans ((if_pos c2).trans (rfl))).symm trivial hP hD hS
  by_cases c3 : p0 = 2
  · skip
    refine k_tab (tgt := 66) hx hb dX11_lookAt_6 c3 (by decide) (by decide) rfl (by decide) ?_
    refine lv_aload_n hx hb dX11_lookAt_66 rfl (lv_at hl 0 rfl) ?_
    refine va_get (D := G) (ci := 11) (v := .int m_exceptions) (C := RX11) (T := TX11) (N := 60) hx hb hts iwX11_lookAt_X11 hown hK hP 0 rfl rfl 17 (by decide) (hts _ lkX11_lookAt_81) (fun _ h9 => h9) rfl dX11_lookAt_67 ?_
    exact hret H locs _ ls m_exceptions 0 dX11_lookAt_70 ((if_neg c1).trans ((if_neg c2).trans ((if_pos c3).trans (rfl)))).symm trivial hP hD hS
  by_cases c4 : p0 = 3
  · skip
    refine k_tab (tgt := 71) hx hb dX11_lookAt_6 c4 (by decide) (by decide) rfl (by decide) ?_
    refine lv_aload_n hx hb dX11_lookAt_71 rfl (lv_at hl 0 rfl) ?_
    refine va_get (D := G) (ci := 11) (v := .int m_doubles) (C := RX11) (T := TX11) (N := 60) hx hb hts iwX11_lookAt_X11 hown hK hP 0 rfl rfl 18 (by decide) (hts _ lkX11_lookAt_84) (fun _ h9 => h9) rfl dX11_lookAt_72 ?_
    exact hret H locs _ ls m_doubles 0 dX11_lookAt_75 ((if_neg c1).trans ((if_neg c2).trans ((if_neg c3).trans ((if_pos c4).trans (rfl))))).symm trivial hP hD hS
  by_cases c5 : p0 = 4
  · skip
    refine k_tab (tgt := 76) hx hb dX11_lookAt_6 c5 (by decide) (by decide) rfl (by decide) ?_
    refine lv_aload_n hx hb dX11_lookAt_76 rfl (lv_at hl 0 rfl) ?_
    refine va_get (D := G) (ci := 11) (v := .int m_events) (C := RX11) (T := TX11) (N := 60) hx hb hts iwX11_lookAt_X11 hown hK hP 0 rfl rfl 16 (by decide) (hts _ lkX11_lookAt_78) (fun _ h9 => h9) rfl dX11_lookAt_77 ?_
    refine lv_if_ne (tgt := 87) hx hb dX11_lookAt_80 (by decide) (fun c6 => ?_) (fun c6 => ?_)
    · skip
      refine lv_aload_n hx hb dX11_lookAt_87 rfl (lv_at hl 0 rfl) ?_
      refine va_get (D := G) (ci := 11) (v := .int m_events) (C := RX11) (T := TX11) (N := 60) hx hb hts iwX11_lookAt_X11 hown hK hP 0 rfl rfl 16 (by decide) (hts _ lkX11_lookAt_78) (fun _ h9 => h9) rfl dX11_lookAt_88 ?_
      refine lv_sipush (v := 256) hx hb dX11_lookAt_91 (by decide) ?_
      refine lv_icmp_le (tgt := 108) hx hb dX11_lookAt_94 (by decide) (fun c7 => ?_) (fun c7 => ?_)
      · skip
        refine lv_iconst (v := 0) hx hb dX11_lookAt_108 (by decide) ?_
        exact hret H locs _ ls 0 0 dX11_lookAt_109 ((if_neg c1).trans ((if_neg c2).trans ((if_neg c3).trans ((if_neg c4).trans ((if_pos c5).trans ((if_neg c6).trans ((if_pos c7).trans (rfl)))))))).symm trivial hP hD hS
      · skip
        refine lv_aload_n hx hb dX11_lookAt_97 rfl (lv_at hl 0 rfl) ?_
        refine va_get (D := G) (ci := 11) (v := .int m_events) (C := RX11) (T := TX11) (N := 60) hx hb hts iwX11_lookAt_X11 hown hK hP 0 rfl rfl 16 (by decide) (hts _ lkX11_lookAt_78) (fun _ h9 => h9) rfl dX11_lookAt_98 ?_
        refine lv_sipush (v := 256) hx hb dX11_lookAt_101 (by decide) ?_
        refine lv_isub hx hb dX11_lookAt_104 ?_
        refine lv_goto (tgt := 109) hx hb dX11_lookAt_105 (by decide) ?_
        exact hret H locs _ ls (m_events - 256) 0 dX11_lookAt_109 ((if_neg c1).trans ((if_neg c2).trans ((if_neg c3).trans ((if_neg c4).trans ((if_pos c5).trans ((if_neg c6).trans ((if_neg c7).trans (rfl)))))))).symm trivial hP hD hS
    · skip
      refine lv_iconst (v := (-1)) hx hb dX11_lookAt_83 (by decide) ?_
      refine lv_goto (tgt := 109) hx hb dX11_lookAt_84 (by decide) ?_
      exact hret H locs _ ls (-1) 0 dX11_lookAt_109 ((if_neg c1).trans ((if_neg c2).trans ((if_neg c3).trans ((if_neg c4).trans ((if_pos c5).trans ((if_pos c6).trans (rfl))))))).symm trivial hP hD hS
  by_cases c8 : p0 = 5
  · skip
    refine k_tab (tgt := 110) hx hb dX11_lookAt_6 c8 (by decide) (by decide) rfl (by decide) ?_
    refine lv_aload_n hx hb dX11_lookAt_110 rfl (lv_at hl 0 rfl) ?_
    refine va_get (D := G) (ci := 11) (v := .int m_lines) (C := RX11) (T := TX11) (N := 60) hx hb hts iwX11_lookAt_X11 hown hK hP 0 rfl rfl 14 (by decide) (hts _ lkX11_lookAt_72) (fun _ h9 => h9) rfl dX11_lookAt_111 ?_
    exact hret H locs _ ls m_lines 0 dX11_lookAt_114 ((if_neg c1).trans ((if_neg c2).trans ((if_neg c3).trans ((if_neg c4).trans ((if_neg c5).trans ((if_pos c8).trans (rfl))))))).symm trivial hP hD hS
  by_cases c9 : p0 = 6
  · skip
    refine k_tab (tgt := 115) hx hb dX11_lookAt_6 c9 (by decide) (by decide) rfl (by decide) ?_
    refine lv_aload_n hx hb dX11_lookAt_115 rfl (lv_at hl 0 rfl) ?_
    refine va_get (D := G) (ci := 11) (v := .int m_longest) (C := RX11) (T := TX11) (N := 60) hx hb hts iwX11_lookAt_X11 hown hK hP 0 rfl rfl 19 (by decide) (hts _ lkX11_lookAt_87) (fun _ h9 => h9) rfl dX11_lookAt_116 ?_
    exact hret H locs _ ls m_longest 0 dX11_lookAt_119 ((if_neg c1).trans ((if_neg c2).trans ((if_neg c3).trans ((if_neg c4).trans ((if_neg c5).trans ((if_neg c8).trans ((if_pos c9).trans (rfl)))))))).symm trivial hP hD hS
  by_cases c10 : p0 = 7
  · skip
    refine k_tab (tgt := 120) hx hb dX11_lookAt_6 c10 (by decide) (by decide) rfl (by decide) ?_
    refine lv_aload_n hx hb dX11_lookAt_120 rfl (lv_at hl 0 rfl) ?_
    refine va_get (D := G) (ci := 11) (v := .int m_sets) (C := RX11) (T := TX11) (N := 60) hx hb hts iwX11_lookAt_X11 hown hK hP 0 rfl rfl 3 (by decide) (hts _ lkX11_lookAt_42) (fun _ h9 => h9) rfl dX11_lookAt_121 ?_
    exact hret H locs _ ls m_sets 0 dX11_lookAt_124 ((if_neg c1).trans ((if_neg c2).trans ((if_neg c3).trans ((if_neg c4).trans ((if_neg c5).trans ((if_neg c8).trans ((if_neg c9).trans ((if_pos c10).trans (rfl))))))))).symm trivial hP hD hS
  by_cases c11 : p0 = 8
  · skip
    refine k_tab (tgt := 125) hx hb dX11_lookAt_6 c11 (by decide) (by decide) rfl (by decide) ?_
    refine lv_aload_n hx hb dX11_lookAt_125 rfl (lv_at hl 0 rfl) ?_
    refine va_get (D := G) (ci := 11) (v := .ref aMs) (C := RX11) (T := TX11) (N := 60) hx hb hts iwX11_lookAt_X11 hown hK hP 0 rfl rfl 4 (by decide) (hts _ lkX11_lookAt_18) (fun _ h9 => h9) rfl dX11_lookAt_126 ?_
    refine lv_bipush (v := 7) hx hb dX11_lookAt_129 (by decide) ?_
    refine va_iald hx hb hK hP 1 0 rfl rfl (by unfold vp_in; decide) dX11_lookAt_131 ?_
    refine k_top (y := ms 7) rfl ?_
    exact hret H locs _ ls (ms 7) 0 dX11_lookAt_132 ((if_neg c1).trans ((if_neg c2).trans ((if_neg c3).trans ((if_neg c4).trans ((if_neg c5).trans ((if_neg c8).trans ((if_neg c9).trans ((if_neg c10).trans ((if_pos c11).trans (rfl)))))))))).symm trivial hP hD hS
  refine k_tabD (tgt := 133) hx hb dX11_lookAt_6 [0, 1, 2, 3, 4, 5, 6, 7, 8] (List.forall_mem_cons.mpr ⟨c1, List.forall_mem_cons.mpr ⟨c2, List.forall_mem_cons.mpr ⟨c3, List.forall_mem_cons.mpr ⟨c4, List.forall_mem_cons.mpr ⟨c5, List.forall_mem_cons.mpr ⟨c8, List.forall_mem_cons.mpr ⟨c9, List.forall_mem_cons.mpr ⟨c10, List.forall_mem_cons.mpr ⟨c11, fun _ h => absurd h List.not_mem_nil⟩⟩⟩⟩⟩⟩⟩⟩⟩) (by decide) (by decide) (by decide) ?_
  refine lv_iconst (v := (-1)) hx hb dX11_lookAt_133 (by decide) ?_
  exact hret H locs _ ls (-1) 0 dX11_lookAt_134 ((if_neg c1).trans ((if_neg c2).trans ((if_neg c3).trans ((if_neg c4).trans ((if_neg c5).trans ((if_neg c8).trans ((if_neg c9).trans ((if_neg c10).trans ((if_neg c11).trans (rfl)))))))))).symm trivial hP hD hS
def fX11_reads (p0 : Int32) (p1 : Int32) : Int32 :=
  (let z1 := fX11_op p0; if p1 = 0 then (0) else ((let z2 := fX11_isNone p0; if z2 = 0 then ((let j3 : Int32 := if z1 < 14 then (1) else (if z1 ≤ 14 then ((let z3 := fX11_isMemory p0; if z3 = 0 then (if z1 = 31 then (1) else (if z1 ≤ 33 then (if z1 = 57 then (1) else (0)) else (if 51 ≤ z1 then (if z1 = 57 then (1) else (0)) else (if z1 = 41 then (if z1 = 57 then (1) else (0)) else (1))))) else (1))) else (if z1 < 20 then (1) else ((let z4 := fX11_isMemory p0; if z4 = 0 then (if z1 = 31 then (1) else (if z1 ≤ 33 then (if z1 = 57 then (1) else (0)) else (if 51 ≤ z1 then (if z1 = 57 then (1) else (0)) else (if z1 = 41 then (if z1 = 57 then (1) else (0)) else (1))))) else (1))))); (let j4 : Int32 := if z1 < 10 then (1) else (if z1 = 18 then (1) else (if z1 = 24 then (1) else (if z1 = 25 then (1) else (if z1 = 34 then (1) else (if z1 ≤ 35 then (if z1 = 40 then (1) else (if z1 = 46 then (1) else (if z1 = 49 then (1) else (0)))) else (if z1 < 39 then (1) else (if z1 = 40 then (1) else (if z1 = 46 then (1) else (if z1 = 49 then (1) else (0)))))))))); (let z5 := fX11_isStore p0; if j3 = 0 then (if j4 = 0 then (if z5 = 0 then (0) else (if ((p0 >>> (21 &&& 31)) &&& 31) = p1 then (1) else (0))) else (if ((p0 >>> (11 &&& 31)) &&& 31) = p1 then (1) else (if z5 = 0 then (0) else (if ((p0 >>> (21 &&& 31)) &&& 31) = p1 then (1) else (0))))) else (if ((p0 >>> (16 &&& 31)) &&& 31) = p1 then (1) else (if j4 = 0 then (if z5 = 0 then (0) else (if ((p0 >>> (21 &&& 31)) &&& 31) = p1 then (1) else (0))) else (if ((p0 >>> (11 &&& 31)) &&& 31) = p1 then (1) else (if z5 = 0 then (0) else (if ((p0 >>> (21 &&& 31)) &&& 31) = p1 then (1) else (0)))))))))) else (0))))
set_option maxHeartbeats 4000000 in
set_option maxRecDepth 100000 in
theorem mX11_reads (l : Launch) (G : va_G) (cI cB cP : ClassId) (sz : Nat) (p0 : Int32) (p1 : Int32) : kMi (S := Unit) l yX11_reads wsX11_reads ({ frames := 2, cells := 0, slots := 0, locals := 40 }) [.int p0, .int p1] G (kTY cI cB cP) sz [] (fX11_reads p0 p1, ()) (fun r _ => isB r) (fun _ => []) := by
  refine k_ofz (cc := cX11_reads) (maxL := 6) (by decide) rfl (Nat.le_of_ble_eq_true rfl) ?_
  intro p e s m args below meth c A ls Q H locs hx hb hml hown hts hin hK hP hD hA hS hl hret
  have hown : s.vm.findClass RX11 = some m.cls := hown
  have hl : lv_has ls 6 [(0, .int p0), (1, .int p1)] := hl
  refine lv_iload_n hx hb dX11_reads_0 rfl (lv_at hl 0 rfl) ?_
  refine k_iS (As := [.int p0]) (rest := []) ⟨hx, hb, hml, hown, hts⟩ hK hP hD hS hA (mX11_op l G cI cB cP   H.size p0 ) (va_cwS 1 hts gX11_reads_X11_op rfl rfl rfl (by decide +kernel) ⟨Nat.le_of_ble_eq_true rfl, Nat.le_of_ble_eq_true rfl⟩) rfl hl.1 rfl (Nat.le_of_ble_eq_true rfl) dX11_reads_1 ⟨Nat.le_of_ble_eq_true rfl, Nat.le_of_ble_eq_true rfl⟩ (fun z1 H locs hz1 hEz1 hP hS => ?_)
  refine lv_istore_n (lv' := [(2, .int z1), (0, .int p0), (1, .int p1)]) hx hb dX11_reads_4 rfl hl (by decide) rfl (fun ls hl => ?_)
  refine lv_iload_n hx hb dX11_reads_5 rfl (lv_at hl 2 rfl) ?_
  refine lv_if_eq (tgt := 16) hx hb dX11_reads_6 (by decide) (fun c1 => ?_) (fun c1 => ?_)
  · skip
    refine lv_iconst (v := 0) hx hb dX11_reads_16 (by decide) ?_
    exact hret H locs _ ls 0 () dX11_reads_17 (by clear hP hD hS hl; replace hz1 := hz1.symm; subst hz1; exact congrArg (fun x => (x, ())) (((if_pos c1).trans (rfl))).symm) (Or.inl rfl) (Or.inl rfl) hP hD hS
  · skip
    refine lv_iload_n hx hb dX11_reads_9 rfl (lv_at hl 1 rfl) ?_
    refine k_iS (As := [.int p0]) (rest := []) ⟨hx, hb, hml, hown, hts⟩ hK hP hD hS hA (mX11_isNone l G cI cB cP   H.size p0 ) (va_cwS 1 hts gX11_reads_X11_isNone rfl rfl rfl (by decide +kernel) ⟨Nat.le_of_ble_eq_true rfl, Nat.le_of_ble_eq_true rfl⟩) rfl hl.1 rfl (Nat.le_of_ble_eq_true rfl) dX11_reads_10 ⟨Nat.le_of_ble_eq_true rfl, Nat.le_of_ble_eq_true rfl⟩ (fun z2 H locs hz2 hEz2 hP hS => ?_)
    refine lv_if_eq (tgt := 18) hx hb dX11_reads_13 (by decide) (fun c2 => ?_) (fun c2 => ?_)
    · skip
      refine lv_iload_n hx hb dX11_reads_18 rfl (lv_at hl 0 rfl) ?_
      refine lv_bipush (v := 14) hx hb dX11_reads_19 (by decide) ?_
      have Kj3 : ∀ (j3 : Int32) (H : Heap) (locs : List Loc) (ls : Array Slot), j3 = (if z1 < 14 then (1) else (if z1 ≤ 14 then ((let z3 := fX11_isMemory p0; if z3 = 0 then (if z1 = 31 then (1) else (if z1 ≤ 33 then (if z1 = 57 then (1) else (0)) else (if 51 ≤ z1 then (if z1 = 57 then (1) else (0)) else (if z1 = 41 then (if z1 = 57 then (1) else (0)) else (1))))) else (1))) else (if z1 < 20 then (1) else ((let z4 := fX11_isMemory p0; if z4 = 0 then (if z1 = 31 then (1) else (if z1 ≤ 33 then (if z1 = 57 then (1) else (0)) else (if 51 ≤ z1 then (if z1 = 57 then (1) else (0)) else (if z1 = 41 then (if z1 = 57 then (1) else (0)) else (1))))) else (1)))))) → isB j3 → va_P G vwCl [] H → va_D A [] → va_S A s.heap H locs → lv_has ls 6 [(2, .int z1), (0, .int p0), (1, .int p1)] → W p l e ({ frames := 2, cells := 0, slots := 0, locals := 40 }) s m args below meth c H locs 0 0 Q (F0 m 78 ls [.int j3]) := by
        intro j3 H locs ls hj3 hbj3_0 hP hD hS hl
        refine lv_istore_n (lv' := [(3, .int j3), (2, .int z1), (0, .int p0), (1, .int p1)]) hx hb dX11_reads_78 rfl hl (by decide) rfl (fun ls hl => ?_)
        refine lv_iload_n hx hb dX11_reads_79 rfl (lv_at hl 1 rfl) ?_
        refine lv_bipush (v := 10) hx hb dX11_reads_80 (by decide) ?_
        have Kj4 : ∀ (j4 : Int32) (H : Heap) (locs : List Loc) (ls : Array Slot), j4 = (if z1 < 10 then (1) else (if z1 = 18 then (1) else (if z1 = 24 then (1) else (if z1 = 25 then (1) else (if z1 = 34 then (1) else (if z1 ≤ 35 then (if z1 = 40 then (1) else (if z1 = 46 then (1) else (if z1 = 49 then (1) else (0)))) else (if z1 < 39 then (1) else (if z1 = 40 then (1) else (if z1 = 46 then (1) else (if z1 = 49 then (1) else (0))))))))))) → isB j4 → va_P G vwCl [] H → va_D A [] → va_S A s.heap H locs → lv_has ls 6 [(3, .int j3), (2, .int z1), (0, .int p0), (1, .int p1)] → W p l e ({ frames := 2, cells := 0, slots := 0, locals := 40 }) s m args below meth c H locs 0 0 Q (F0 m 144 ls [.int j4]) := by
          intro j4 H locs ls hj4 hbj4_0 hP hD hS hl
          refine lv_istore (lv' := [(4, .int j4), (3, .int j3), (2, .int z1), (0, .int p0), (1, .int p1)]) hx hb dX11_reads_144 hl (by decide) rfl (fun ls hl => ?_)
          refine lv_iload_n hx hb dX11_reads_146 rfl (lv_at hl 3 rfl) ?_
          refine k_iS (As := [.int p0]) (rest := []) ⟨hx, hb, hml, hown, hts⟩ hK hP hD hS hA (mX11_isStore l G cI cB cP   H.size p0 ) (va_cwS 1 hts gX11_reads_X11_isStore rfl rfl rfl (by decide +kernel) ⟨Nat.le_of_ble_eq_true rfl, Nat.le_of_ble_eq_true rfl⟩) rfl hl.1 rfl (Nat.le_of_ble_eq_true rfl) dX11_reads_147 ⟨Nat.le_of_ble_eq_true rfl, Nat.le_of_ble_eq_true rfl⟩ (fun z5 H locs hz5 hEz5 hP hS => ?_)
          refine lv_istore (lv' := [(5, .int z5), (4, .int j4), (3, .int j3), (2, .int z1), (0, .int p0), (1, .int p1)]) hx hb dX11_reads_150 hl (by decide) rfl (fun ls hl => ?_)
          refine lv_iload_n hx hb dX11_reads_152 rfl (lv_at hl 2 rfl) ?_
          refine lv_if_eq (tgt := 167) hx hb dX11_reads_153 (by decide) (fun c67 => ?_) (fun c67 => ?_)
          · skip
            refine lv_iload hx hb dX11_reads_167 (lv_at hl 1 rfl) ?_
            refine lv_if_eq (tgt := 183) hx hb dX11_reads_169 (by decide) (fun c68 => ?_) (fun c68 => ?_)
            · skip
              refine lv_iload hx hb dX11_reads_183 (lv_at hl 0 rfl) ?_
              refine lv_if_eq (tgt := 203) hx hb dX11_reads_185 (by decide) (fun c69 => ?_) (fun c69 => ?_)
              · skip
                refine lv_iconst (v := 0) hx hb dX11_reads_203 (by decide) ?_
                exact hret H locs _ ls 0 () dX11_reads_204 (by clear hP hD hS hl; replace hz5 := hz5.symm; subst hz5; replace hj4 := hj4.symm; subst hj4; replace hj3 := hj3.symm; subst hj3; replace hz2 := hz2.symm; subst hz2; replace hz1 := hz1.symm; subst hz1; exact congrArg (fun x => (x, ())) (((if_neg c1).trans ((if_pos c2).trans ((if_pos c67).trans ((if_pos c68).trans ((if_pos c69).trans (rfl))))))).symm) (Or.inl rfl) (Or.inl rfl) hP hD hS
              · skip
                refine lv_iload_n hx hb dX11_reads_188 rfl (lv_at hl 4 rfl) ?_
                refine lv_bipush (v := 21) hx hb dX11_reads_189 (by decide) ?_
                refine lv_ishr hx hb dX11_reads_191 ?_
                refine lv_bipush (v := 31) hx hb dX11_reads_192 (by decide) ?_
                refine lv_iand hx hb dX11_reads_194 ?_
                refine lv_iload_n hx hb dX11_reads_195 rfl (lv_at hl 5 rfl) ?_
                refine lv_icmp_ne (tgt := 203) hx hb dX11_reads_196 (by decide) (fun c70 => ?_) (fun c70 => ?_)
                · skip
                  refine lv_iconst (v := 0) hx hb dX11_reads_203 (by decide) ?_
                  exact hret H locs _ ls 0 () dX11_reads_204 (by clear hP hD hS hl; replace hz5 := hz5.symm; subst hz5; replace hj4 := hj4.symm; subst hj4; replace hj3 := hj3.symm; subst hj3; replace hz2 := hz2.symm; subst hz2; replace hz1 := hz1.symm; subst hz1; exact congrArg (fun x => (x, ())) (((if_neg c1).trans ((if_pos c2).trans ((if_pos c67).trans ((if_pos c68).trans ((if_neg c69).trans ((if_neg c70).trans (rfl)))))))).symm) (Or.inl rfl) (Or.inl rfl) hP hD hS
                · skip
                  refine lv_iconst (v := 1) hx hb dX11_reads_199 (by decide) ?_
                  refine lv_goto (tgt := 204) hx hb dX11_reads_200 (by decide) ?_
                  exact hret H locs _ ls 1 () dX11_reads_204 (by clear hP hD hS hl; replace hz5 := hz5.symm; subst hz5; replace hj4 := hj4.symm; subst hj4; replace hj3 := hj3.symm; subst hj3; replace hz2 := hz2.symm; subst hz2; replace hz1 := hz1.symm; subst hz1; exact congrArg (fun x => (x, ())) (((if_neg c1).trans ((if_pos c2).trans ((if_pos c67).trans ((if_pos c68).trans ((if_neg c69).trans ((if_pos c70).trans (rfl)))))))).symm) (Or.inr rfl) (Or.inr rfl) hP hD hS
            · skip
              refine lv_iload_n hx hb dX11_reads_172 rfl (lv_at hl 4 rfl) ?_
              refine lv_bipush (v := 11) hx hb dX11_reads_173 (by decide) ?_
              refine lv_ishr hx hb dX11_reads_175 ?_
              refine lv_bipush (v := 31) hx hb dX11_reads_176 (by decide) ?_
              refine lv_iand hx hb dX11_reads_178 ?_
              refine lv_iload_n hx hb dX11_reads_179 rfl (lv_at hl 5 rfl) ?_
              refine lv_icmp_eq (tgt := 199) hx hb dX11_reads_180 (by decide) (fun c71 => ?_) (fun c71 => ?_)
              · skip
                refine lv_iconst (v := 1) hx hb dX11_reads_199 (by decide) ?_
                refine lv_goto (tgt := 204) hx hb dX11_reads_200 (by decide) ?_
                exact hret H locs _ ls 1 () dX11_reads_204 (by clear hP hD hS hl; replace hz5 := hz5.symm; subst hz5; replace hj4 := hj4.symm; subst hj4; replace hj3 := hj3.symm; subst hj3; replace hz2 := hz2.symm; subst hz2; replace hz1 := hz1.symm; subst hz1; exact congrArg (fun x => (x, ())) (((if_neg c1).trans ((if_pos c2).trans ((if_pos c67).trans ((if_neg c68).trans ((if_pos c71).trans (rfl))))))).symm) (Or.inr rfl) (Or.inr rfl) hP hD hS
              · skip
                refine lv_iload hx hb dX11_reads_183 (lv_at hl 0 rfl) ?_
                refine lv_if_eq (tgt := 203) hx hb dX11_reads_185 (by decide) (fun c72 => ?_) (fun c72 => ?_)
                · skip
                  refine lv_iconst (v := 0) hx hb dX11_reads_203 (by decide) ?_
                  exact hret H locs _ ls 0 () dX11_reads_204 (by clear hP hD hS hl; replace hz5 := hz5.symm; subst hz5; replace hj4 := hj4.symm; subst hj4; replace hj3 := hj3.symm; subst hj3; replace hz2 := hz2.symm; subst hz2; replace hz1 := hz1.symm; subst hz1; exact congrArg (fun x => (x, ())) (((if_neg c1).trans ((if_pos c2).trans ((if_pos c67).trans ((if_neg c68).trans ((if_neg c71).trans ((if_pos c72).trans (rfl)))))))).symm) (Or.inl rfl) (Or.inl rfl) hP hD hS
                · skip
                  refine lv_iload_n hx hb dX11_reads_188 rfl (lv_at hl 4 rfl) ?_
                  refine lv_bipush (v := 21) hx hb dX11_reads_189 (by decide) ?_
                  refine lv_ishr hx hb dX11_reads_191 ?_
                  refine lv_bipush (v := 31) hx hb dX11_reads_192 (by decide) ?_
                  refine lv_iand hx hb dX11_reads_194 ?_
                  refine lv_iload_n hx hb dX11_reads_195 rfl (lv_at hl 5 rfl) ?_
                  refine lv_icmp_ne (tgt := 203) hx hb dX11_reads_196 (by decide) (fun c73 => ?_) (fun c73 => ?_)
                  · skip
                    refine lv_iconst (v := 0) hx hb dX11_reads_203 (by decide) ?_
                    exact hret H locs _ ls 0 () dX11_reads_204 (by clear hP hD hS hl; replace hz5 := hz5.symm; subst hz5; replace hj4 := hj4.symm; subst hj4; replace hj3 := hj3.symm; subst hj3; replace hz2 := hz2.symm; subst hz2; replace hz1 := hz1.symm; subst hz1; exact congrArg (fun x => (x, ())) (((if_neg c1).trans ((if_pos c2).trans ((if_pos c67).trans ((if_neg c68).trans ((if_neg c71).trans ((if_neg c72).trans ((if_neg c73).trans (rfl))))))))).symm) (Or.inl rfl) (Or.inl rfl) hP hD hS
                  · skip
                    refine lv_iconst (v := 1) hx hb dX11_reads_199 (by decide) ?_
                    refine lv_goto (tgt := 204) hx hb dX11_reads_200 (by decide) ?_
                    exact hret H locs _ ls 1 () dX11_reads_204 (by clear hP hD hS hl; replace hz5 := hz5.symm; subst hz5; replace hj4 := hj4.symm; subst hj4; replace hj3 := hj3.symm; subst hj3; replace hz2 := hz2.symm; subst hz2; replace hz1 := hz1.symm; subst hz1; exact congrArg (fun x => (x, ())) (((if_neg c1).trans ((if_pos c2).trans ((if_pos c67).trans ((if_neg c68).trans ((if_neg c71).trans ((if_neg c72).trans ((if_pos c73).trans (rfl))))))))).symm) (Or.inr rfl) (Or.inr rfl) hP hD hS
          · skip
            refine lv_iload_n hx hb dX11_reads_156 rfl (lv_at hl 4 rfl) ?_
            refine lv_bipush (v := 16) hx hb dX11_reads_157 (by decide) ?_
            refine lv_ishr hx hb dX11_reads_159 ?_
            refine lv_bipush (v := 31) hx hb dX11_reads_160 (by decide) ?_
            refine lv_iand hx hb dX11_reads_162 ?_
            refine lv_iload_n hx hb dX11_reads_163 rfl (lv_at hl 5 rfl) ?_
            refine lv_icmp_eq (tgt := 199) hx hb dX11_reads_164 (by decide) (fun c74 => ?_) (fun c74 => ?_)
            · skip
              refine lv_iconst (v := 1) hx hb dX11_reads_199 (by decide) ?_
              refine lv_goto (tgt := 204) hx hb dX11_reads_200 (by decide) ?_
              exact hret H locs _ ls 1 () dX11_reads_204 (by clear hP hD hS hl; replace hz5 := hz5.symm; subst hz5; replace hj4 := hj4.symm; subst hj4; replace hj3 := hj3.symm; subst hj3; replace hz2 := hz2.symm; subst hz2; replace hz1 := hz1.symm; subst hz1; exact congrArg (fun x => (x, ())) (((if_neg c1).trans ((if_pos c2).trans ((if_neg c67).trans ((if_pos c74).trans (rfl)))))).symm) (Or.inr rfl) (Or.inr rfl) hP hD hS
            · skip
              refine lv_iload hx hb dX11_reads_167 (lv_at hl 1 rfl) ?_
              refine lv_if_eq (tgt := 183) hx hb dX11_reads_169 (by decide) (fun c75 => ?_) (fun c75 => ?_)
              · skip
                refine lv_iload hx hb dX11_reads_183 (lv_at hl 0 rfl) ?_
                refine lv_if_eq (tgt := 203) hx hb dX11_reads_185 (by decide) (fun c76 => ?_) (fun c76 => ?_)
                · skip
                  refine lv_iconst (v := 0) hx hb dX11_reads_203 (by decide) ?_
                  exact hret H locs _ ls 0 () dX11_reads_204 (by clear hP hD hS hl; replace hz5 := hz5.symm; subst hz5; replace hj4 := hj4.symm; subst hj4; replace hj3 := hj3.symm; subst hj3; replace hz2 := hz2.symm; subst hz2; replace hz1 := hz1.symm; subst hz1; exact congrArg (fun x => (x, ())) (((if_neg c1).trans ((if_pos c2).trans ((if_neg c67).trans ((if_neg c74).trans ((if_pos c75).trans ((if_pos c76).trans (rfl)))))))).symm) (Or.inl rfl) (Or.inl rfl) hP hD hS
                · skip
                  refine lv_iload_n hx hb dX11_reads_188 rfl (lv_at hl 4 rfl) ?_
                  refine lv_bipush (v := 21) hx hb dX11_reads_189 (by decide) ?_
                  refine lv_ishr hx hb dX11_reads_191 ?_
                  refine lv_bipush (v := 31) hx hb dX11_reads_192 (by decide) ?_
                  refine lv_iand hx hb dX11_reads_194 ?_
                  refine lv_iload_n hx hb dX11_reads_195 rfl (lv_at hl 5 rfl) ?_
                  refine lv_icmp_ne (tgt := 203) hx hb dX11_reads_196 (by decide) (fun c77 => ?_) (fun c77 => ?_)
                  · skip
                    refine lv_iconst (v := 0) hx hb dX11_reads_203 (by decide) ?_
                    exact hret H locs _ ls 0 () dX11_reads_204 (by clear hP hD hS hl; replace hz5 := hz5.symm; subst hz5; replace hj4 := hj4.symm; subst hj4; replace hj3 := hj3.symm; subst hj3; replace hz2 := hz2.symm; subst hz2; replace hz1 := hz1.symm; subst hz1; exact congrArg (fun x => (x, ())) (((if_neg c1).trans ((if_pos c2).trans ((if_neg c67).trans ((if_neg c74).trans ((if_pos c75).trans ((if_neg c76).trans ((if_neg c77).trans (rfl))))))))).symm) (Or.inl rfl) (Or.inl rfl) hP hD hS
                  · skip
                    refine lv_iconst (v := 1) hx hb dX11_reads_199 (by decide) ?_
                    refine lv_goto (tgt := 204) hx hb dX11_reads_200 (by decide) ?_
                    exact hret H locs _ ls 1 () dX11_reads_204 (by clear hP hD hS hl; replace hz5 := hz5.symm; subst hz5; replace hj4 := hj4.symm; subst hj4; replace hj3 := hj3.symm; subst hj3; replace hz2 := hz2.symm; subst hz2; replace hz1 := hz1.symm; subst hz1; exact congrArg (fun x => (x, ())) (((if_neg c1).trans ((if_pos c2).trans ((if_neg c67).trans ((if_neg c74).trans ((if_pos c75).trans ((if_neg c76).trans ((if_pos c77).trans (rfl))))))))).symm) (Or.inr rfl) (Or.inr rfl) hP hD hS
              · skip
                refine lv_iload_n hx hb dX11_reads_172 rfl (lv_at hl 4 rfl) ?_
                refine lv_bipush (v := 11) hx hb dX11_reads_173 (by decide) ?_
                refine lv_ishr hx hb dX11_reads_175 ?_
                refine lv_bipush (v := 31) hx hb dX11_reads_176 (by decide) ?_
                refine lv_iand hx hb dX11_reads_178 ?_
                refine lv_iload_n hx hb dX11_reads_179 rfl (lv_at hl 5 rfl) ?_
                refine lv_icmp_eq (tgt := 199) hx hb dX11_reads_180 (by decide) (fun c78 => ?_) (fun c78 => ?_)
                · skip
                  refine lv_iconst (v := 1) hx hb dX11_reads_199 (by decide) ?_
                  refine lv_goto (tgt := 204) hx hb dX11_reads_200 (by decide) ?_
                  exact hret H locs _ ls 1 () dX11_reads_204 (by clear hP hD hS hl; replace hz5 := hz5.symm; subst hz5; replace hj4 := hj4.symm; subst hj4; replace hj3 := hj3.symm; subst hj3; replace hz2 := hz2.symm; subst hz2; replace hz1 := hz1.symm; subst hz1; exact congrArg (fun x => (x, ())) (((if_neg c1).trans ((if_pos c2).trans ((if_neg c67).trans ((if_neg c74).trans ((if_neg c75).trans ((if_pos c78).trans (rfl)))))))).symm) (Or.inr rfl) (Or.inr rfl) hP hD hS
                · skip
                  refine lv_iload hx hb dX11_reads_183 (lv_at hl 0 rfl) ?_
                  refine lv_if_eq (tgt := 203) hx hb dX11_reads_185 (by decide) (fun c79 => ?_) (fun c79 => ?_)
                  · skip
                    refine lv_iconst (v := 0) hx hb dX11_reads_203 (by decide) ?_
                    exact hret H locs _ ls 0 () dX11_reads_204 (by clear hP hD hS hl; replace hz5 := hz5.symm; subst hz5; replace hj4 := hj4.symm; subst hj4; replace hj3 := hj3.symm; subst hj3; replace hz2 := hz2.symm; subst hz2; replace hz1 := hz1.symm; subst hz1; exact congrArg (fun x => (x, ())) (((if_neg c1).trans ((if_pos c2).trans ((if_neg c67).trans ((if_neg c74).trans ((if_neg c75).trans ((if_neg c78).trans ((if_pos c79).trans (rfl))))))))).symm) (Or.inl rfl) (Or.inl rfl) hP hD hS
                  · skip
                    refine lv_iload_n hx hb dX11_reads_188 rfl (lv_at hl 4 rfl) ?_
                    refine lv_bipush (v := 21) hx hb dX11_reads_189 (by decide) ?_
                    refine lv_ishr hx hb dX11_reads_191 ?_
                    refine lv_bipush (v := 31) hx hb dX11_reads_192 (by decide) ?_
                    refine lv_iand hx hb dX11_reads_194 ?_
                    refine lv_iload_n hx hb dX11_reads_195 rfl (lv_at hl 5 rfl) ?_
                    refine lv_icmp_ne (tgt := 203) hx hb dX11_reads_196 (by decide) (fun c80 => ?_) (fun c80 => ?_)
                    · skip
                      refine lv_iconst (v := 0) hx hb dX11_reads_203 (by decide) ?_
                      exact hret H locs _ ls 0 () dX11_reads_204 (by clear hP hD hS hl; replace hz5 := hz5.symm; subst hz5; replace hj4 := hj4.symm; subst hj4; replace hj3 := hj3.symm; subst hj3; replace hz2 := hz2.symm; subst hz2; replace hz1 := hz1.symm; subst hz1; exact congrArg (fun x => (x, ())) (((if_neg c1).trans ((if_pos c2).trans ((if_neg c67).trans ((if_neg c74).trans ((if_neg c75).trans ((if_neg c78).trans ((if_neg c79).trans ((if_neg c80).trans (rfl)))))))))).symm) (Or.inl rfl) (Or.inl rfl) hP hD hS
                    · skip
                      refine lv_iconst (v := 1) hx hb dX11_reads_199 (by decide) ?_
                      refine lv_goto (tgt := 204) hx hb dX11_reads_200 (by decide) ?_
                      exact hret H locs _ ls 1 () dX11_reads_204 (by clear hP hD hS hl; replace hz5 := hz5.symm; subst hz5; replace hj4 := hj4.symm; subst hj4; replace hj3 := hj3.symm; subst hj3; replace hz2 := hz2.symm; subst hz2; replace hz1 := hz1.symm; subst hz1; exact congrArg (fun x => (x, ())) (((if_neg c1).trans ((if_pos c2).trans ((if_neg c67).trans ((if_neg c74).trans ((if_neg c75).trans ((if_neg c78).trans ((if_neg c79).trans ((if_pos c80).trans (rfl)))))))))).symm) (Or.inr rfl) (Or.inr rfl) hP hD hS
        refine lv_icmp_lt (tgt := 139) hx hb dX11_reads_82 (by decide) (fun c81 => ?_) (fun c81 => ?_)
        · skip
          refine lv_iconst (v := 1) hx hb dX11_reads_139 (by decide) ?_
          refine lv_goto (tgt := 144) hx hb dX11_reads_140 (by decide) ?_
          exact Kj4 1 H locs ls ((if_pos c81).trans (rfl)).symm (Or.inr rfl) hP hD hS (lv_sub hl [0, 1, 2, 3] rfl)
        · skip
          refine lv_iload_n hx hb dX11_reads_85 rfl (lv_at hl 1 rfl) ?_
          refine lv_bipush (v := 18) hx hb dX11_reads_86 (by decide) ?_
          refine lv_icmp_eq (tgt := 139) hx hb dX11_reads_88 (by decide) (fun c82 => ?_) (fun c82 => ?_)
          · skip
            refine lv_iconst (v := 1) hx hb dX11_reads_139 (by decide) ?_
            refine lv_goto (tgt := 144) hx hb dX11_reads_140 (by decide) ?_
            exact Kj4 1 H locs ls ((if_neg c81).trans ((if_pos c82).trans (rfl))).symm (Or.inr rfl) hP hD hS (lv_sub hl [0, 1, 2, 3] rfl)
          · skip
            refine lv_iload_n hx hb dX11_reads_91 rfl (lv_at hl 1 rfl) ?_
            refine lv_bipush (v := 24) hx hb dX11_reads_92 (by decide) ?_
            refine lv_icmp_eq (tgt := 139) hx hb dX11_reads_94 (by decide) (fun c83 => ?_) (fun c83 => ?_)
            · skip
              refine lv_iconst (v := 1) hx hb dX11_reads_139 (by decide) ?_
              refine lv_goto (tgt := 144) hx hb dX11_reads_140 (by decide) ?_
              exact Kj4 1 H locs ls ((if_neg c81).trans ((if_neg c82).trans ((if_pos c83).trans (rfl)))).symm (Or.inr rfl) hP hD hS (lv_sub hl [0, 1, 2, 3] rfl)
            · skip
              refine lv_iload_n hx hb dX11_reads_97 rfl (lv_at hl 1 rfl) ?_
              refine lv_bipush (v := 25) hx hb dX11_reads_98 (by decide) ?_
              refine lv_icmp_eq (tgt := 139) hx hb dX11_reads_100 (by decide) (fun c84 => ?_) (fun c84 => ?_)
              · skip
                refine lv_iconst (v := 1) hx hb dX11_reads_139 (by decide) ?_
                refine lv_goto (tgt := 144) hx hb dX11_reads_140 (by decide) ?_
                exact Kj4 1 H locs ls ((if_neg c81).trans ((if_neg c82).trans ((if_neg c83).trans ((if_pos c84).trans (rfl))))).symm (Or.inr rfl) hP hD hS (lv_sub hl [0, 1, 2, 3] rfl)
              · skip
                refine lv_iload_n hx hb dX11_reads_103 rfl (lv_at hl 1 rfl) ?_
                refine lv_bipush (v := 34) hx hb dX11_reads_104 (by decide) ?_
                refine lv_icmp_eq (tgt := 139) hx hb dX11_reads_106 (by decide) (fun c85 => ?_) (fun c85 => ?_)
                · skip
                  refine lv_iconst (v := 1) hx hb dX11_reads_139 (by decide) ?_
                  refine lv_goto (tgt := 144) hx hb dX11_reads_140 (by decide) ?_
                  exact Kj4 1 H locs ls ((if_neg c81).trans ((if_neg c82).trans ((if_neg c83).trans ((if_neg c84).trans ((if_pos c85).trans (rfl)))))).symm (Or.inr rfl) hP hD hS (lv_sub hl [0, 1, 2, 3] rfl)
                · skip
                  refine lv_iload_n hx hb dX11_reads_109 rfl (lv_at hl 1 rfl) ?_
                  refine lv_bipush (v := 35) hx hb dX11_reads_110 (by decide) ?_
                  refine lv_icmp_le (tgt := 121) hx hb dX11_reads_112 (by decide) (fun c86 => ?_) (fun c86 => ?_)
                  · skip
                    refine lv_iload_n hx hb dX11_reads_121 rfl (lv_at hl 1 rfl) ?_
                    refine lv_bipush (v := 40) hx hb dX11_reads_122 (by decide) ?_
                    refine lv_icmp_eq (tgt := 139) hx hb dX11_reads_124 (by decide) (fun c87 => ?_) (fun c87 => ?_)
                    · skip
                      refine lv_iconst (v := 1) hx hb dX11_reads_139 (by decide) ?_
                      refine lv_goto (tgt := 144) hx hb dX11_reads_140 (by decide) ?_
                      exact Kj4 1 H locs ls ((if_neg c81).trans ((if_neg c82).trans ((if_neg c83).trans ((if_neg c84).trans ((if_neg c85).trans ((if_pos c86).trans ((if_pos c87).trans (rfl)))))))).symm (Or.inr rfl) hP hD hS (lv_sub hl [0, 1, 2, 3] rfl)
                    · skip
                      refine lv_iload_n hx hb dX11_reads_127 rfl (lv_at hl 1 rfl) ?_
                      refine lv_bipush (v := 46) hx hb dX11_reads_128 (by decide) ?_
                      refine lv_icmp_eq (tgt := 139) hx hb dX11_reads_130 (by decide) (fun c88 => ?_) (fun c88 => ?_)
                      · skip
                        refine lv_iconst (v := 1) hx hb dX11_reads_139 (by decide) ?_
                        refine lv_goto (tgt := 144) hx hb dX11_reads_140 (by decide) ?_
                        exact Kj4 1 H locs ls ((if_neg c81).trans ((if_neg c82).trans ((if_neg c83).trans ((if_neg c84).trans ((if_neg c85).trans ((if_pos c86).trans ((if_neg c87).trans ((if_pos c88).trans (rfl))))))))).symm (Or.inr rfl) hP hD hS (lv_sub hl [0, 1, 2, 3] rfl)
                      · skip
                        refine lv_iload_n hx hb dX11_reads_133 rfl (lv_at hl 1 rfl) ?_
                        refine lv_bipush (v := 49) hx hb dX11_reads_134 (by decide) ?_
                        refine lv_icmp_ne (tgt := 143) hx hb dX11_reads_136 (by decide) (fun c89 => ?_) (fun c89 => ?_)
                        · skip
                          refine lv_iconst (v := 0) hx hb dX11_reads_143 (by decide) ?_
                          exact Kj4 0 H locs ls ((if_neg c81).trans ((if_neg c82).trans ((if_neg c83).trans ((if_neg c84).trans ((if_neg c85).trans ((if_pos c86).trans ((if_neg c87).trans ((if_neg c88).trans ((if_neg c89).trans (rfl)))))))))).symm (Or.inl rfl) hP hD hS (lv_sub hl [0, 1, 2, 3] rfl)
                        · skip
                          refine lv_iconst (v := 1) hx hb dX11_reads_139 (by decide) ?_
                          refine lv_goto (tgt := 144) hx hb dX11_reads_140 (by decide) ?_
                          exact Kj4 1 H locs ls ((if_neg c81).trans ((if_neg c82).trans ((if_neg c83).trans ((if_neg c84).trans ((if_neg c85).trans ((if_pos c86).trans ((if_neg c87).trans ((if_neg c88).trans ((if_pos c89).trans (rfl)))))))))).symm (Or.inr rfl) hP hD hS (lv_sub hl [0, 1, 2, 3] rfl)
                  · skip
                    refine lv_iload_n hx hb dX11_reads_115 rfl (lv_at hl 1 rfl) ?_
                    refine lv_bipush (v := 39) hx hb dX11_reads_116 (by decide) ?_
                    refine lv_icmp_lt (tgt := 139) hx hb dX11_reads_118 (by decide) (fun c90 => ?_) (fun c90 => ?_)
                    · skip
                      refine lv_iconst (v := 1) hx hb dX11_reads_139 (by decide) ?_
                      refine lv_goto (tgt := 144) hx hb dX11_reads_140 (by decide) ?_
                      exact Kj4 1 H locs ls ((if_neg c81).trans ((if_neg c82).trans ((if_neg c83).trans ((if_neg c84).trans ((if_neg c85).trans ((if_neg c86).trans ((if_pos c90).trans (rfl)))))))).symm (Or.inr rfl) hP hD hS (lv_sub hl [0, 1, 2, 3] rfl)
                    · skip
                      refine lv_iload_n hx hb dX11_reads_121 rfl (lv_at hl 1 rfl) ?_
                      refine lv_bipush (v := 40) hx hb dX11_reads_122 (by decide) ?_
                      refine lv_icmp_eq (tgt := 139) hx hb dX11_reads_124 (by decide) (fun c91 => ?_) (fun c91 => ?_)
                      · skip
                        refine lv_iconst (v := 1) hx hb dX11_reads_139 (by decide) ?_
                        refine lv_goto (tgt := 144) hx hb dX11_reads_140 (by decide) ?_
                        exact Kj4 1 H locs ls ((if_neg c81).trans ((if_neg c82).trans ((if_neg c83).trans ((if_neg c84).trans ((if_neg c85).trans ((if_neg c86).trans ((if_neg c90).trans ((if_pos c91).trans (rfl))))))))).symm (Or.inr rfl) hP hD hS (lv_sub hl [0, 1, 2, 3] rfl)
                      · skip
                        refine lv_iload_n hx hb dX11_reads_127 rfl (lv_at hl 1 rfl) ?_
                        refine lv_bipush (v := 46) hx hb dX11_reads_128 (by decide) ?_
                        refine lv_icmp_eq (tgt := 139) hx hb dX11_reads_130 (by decide) (fun c92 => ?_) (fun c92 => ?_)
                        · skip
                          refine lv_iconst (v := 1) hx hb dX11_reads_139 (by decide) ?_
                          refine lv_goto (tgt := 144) hx hb dX11_reads_140 (by decide) ?_
                          exact Kj4 1 H locs ls ((if_neg c81).trans ((if_neg c82).trans ((if_neg c83).trans ((if_neg c84).trans ((if_neg c85).trans ((if_neg c86).trans ((if_neg c90).trans ((if_neg c91).trans ((if_pos c92).trans (rfl)))))))))).symm (Or.inr rfl) hP hD hS (lv_sub hl [0, 1, 2, 3] rfl)
                        · skip
                          refine lv_iload_n hx hb dX11_reads_133 rfl (lv_at hl 1 rfl) ?_
                          refine lv_bipush (v := 49) hx hb dX11_reads_134 (by decide) ?_
                          refine lv_icmp_ne (tgt := 143) hx hb dX11_reads_136 (by decide) (fun c93 => ?_) (fun c93 => ?_)
                          · skip
                            refine lv_iconst (v := 0) hx hb dX11_reads_143 (by decide) ?_
                            exact Kj4 0 H locs ls ((if_neg c81).trans ((if_neg c82).trans ((if_neg c83).trans ((if_neg c84).trans ((if_neg c85).trans ((if_neg c86).trans ((if_neg c90).trans ((if_neg c91).trans ((if_neg c92).trans ((if_neg c93).trans (rfl))))))))))).symm (Or.inl rfl) hP hD hS (lv_sub hl [0, 1, 2, 3] rfl)
                          · skip
                            refine lv_iconst (v := 1) hx hb dX11_reads_139 (by decide) ?_
                            refine lv_goto (tgt := 144) hx hb dX11_reads_140 (by decide) ?_
                            exact Kj4 1 H locs ls ((if_neg c81).trans ((if_neg c82).trans ((if_neg c83).trans ((if_neg c84).trans ((if_neg c85).trans ((if_neg c86).trans ((if_neg c90).trans ((if_neg c91).trans ((if_neg c92).trans ((if_pos c93).trans (rfl))))))))))).symm (Or.inr rfl) hP hD hS (lv_sub hl [0, 1, 2, 3] rfl)
      refine lv_icmp_lt (tgt := 73) hx hb dX11_reads_21 (by decide) (fun c94 => ?_) (fun c94 => ?_)
      · skip
        refine lv_iconst (v := 1) hx hb dX11_reads_73 (by decide) ?_
        refine lv_goto (tgt := 78) hx hb dX11_reads_74 (by decide) ?_
        exact Kj3 1 H locs ls ((if_pos c94).trans (rfl)).symm (Or.inr rfl) hP hD hS (lv_sub hl [0, 1, 2] rfl)
      · skip
        refine lv_iload_n hx hb dX11_reads_24 rfl (lv_at hl 0 rfl) ?_
        refine lv_bipush (v := 14) hx hb dX11_reads_25 (by decide) ?_
        refine lv_icmp_le (tgt := 36) hx hb dX11_reads_27 (by decide) (fun c95 => ?_) (fun c95 => ?_)
        · skip
          refine lv_iload_n hx hb dX11_reads_36 rfl (lv_at hl 1 rfl) ?_
          refine k_iS (As := [.int p0]) (rest := []) ⟨hx, hb, hml, hown, hts⟩ hK hP hD hS hA (mX11_isMemory l G cI cB cP   H.size p0 ) (va_cwS 1 hts gX11_reads_X11_isMemory rfl rfl rfl (by decide +kernel) ⟨Nat.le_of_ble_eq_true rfl, Nat.le_of_ble_eq_true rfl⟩) rfl hl.1 rfl (Nat.le_of_ble_eq_true rfl) dX11_reads_37 ⟨Nat.le_of_ble_eq_true rfl, Nat.le_of_ble_eq_true rfl⟩ (fun z6 H locs hz6 hEz6 hP hS => ?_)
          refine lv_if_ne (tgt := 73) hx hb dX11_reads_40 (by decide) (fun c96 => ?_) (fun c96 => ?_)
          · skip
            refine lv_iconst (v := 1) hx hb dX11_reads_73 (by decide) ?_
            refine lv_goto (tgt := 78) hx hb dX11_reads_74 (by decide) ?_
            exact Kj3 1 H locs ls (by clear hP hD hS hl; replace hz6 := hz6.symm; subst hz6; exact (((if_neg c94).trans ((if_pos c95).trans ((if_neg c96).trans (rfl))))).symm) (Or.inr rfl) hP hD hS (lv_sub hl [0, 1, 2] rfl)
          · skip
            refine lv_iload_n hx hb dX11_reads_43 rfl (lv_at hl 0 rfl) ?_
            refine lv_bipush (v := 31) hx hb dX11_reads_44 (by decide) ?_
            refine lv_icmp_eq (tgt := 73) hx hb dX11_reads_46 (by decide) (fun c97 => ?_) (fun c97 => ?_)
            · skip
              refine lv_iconst (v := 1) hx hb dX11_reads_73 (by decide) ?_
              refine lv_goto (tgt := 78) hx hb dX11_reads_74 (by decide) ?_
              exact Kj3 1 H locs ls (by clear hP hD hS hl; replace hz6 := hz6.symm; subst hz6; exact (((if_neg c94).trans ((if_pos c95).trans ((if_pos c96).trans ((if_pos c97).trans (rfl)))))).symm) (Or.inr rfl) hP hD hS (lv_sub hl [0, 1, 2] rfl)
            · skip
              refine lv_iload_n hx hb dX11_reads_49 rfl (lv_at hl 0 rfl) ?_
              refine lv_bipush (v := 33) hx hb dX11_reads_50 (by decide) ?_
              refine lv_icmp_le (tgt := 67) hx hb dX11_reads_52 (by decide) (fun c98 => ?_) (fun c98 => ?_)
              · skip
                refine lv_iload_n hx hb dX11_reads_67 rfl (lv_at hl 0 rfl) ?_
                refine lv_bipush (v := 57) hx hb dX11_reads_68 (by decide) ?_
                refine lv_icmp_ne (tgt := 77) hx hb dX11_reads_70 (by decide) (fun c99 => ?_) (fun c99 => ?_)
                · skip
                  refine lv_iconst (v := 0) hx hb dX11_reads_77 (by decide) ?_
                  exact Kj3 0 H locs ls (by clear hP hD hS hl; replace hz6 := hz6.symm; subst hz6; exact (((if_neg c94).trans ((if_pos c95).trans ((if_pos c96).trans ((if_neg c97).trans ((if_pos c98).trans ((if_neg c99).trans (rfl)))))))).symm) (Or.inl rfl) hP hD hS (lv_sub hl [0, 1, 2] rfl)
                · skip
                  refine lv_iconst (v := 1) hx hb dX11_reads_73 (by decide) ?_
                  refine lv_goto (tgt := 78) hx hb dX11_reads_74 (by decide) ?_
                  exact Kj3 1 H locs ls (by clear hP hD hS hl; replace hz6 := hz6.symm; subst hz6; exact (((if_neg c94).trans ((if_pos c95).trans ((if_pos c96).trans ((if_neg c97).trans ((if_pos c98).trans ((if_pos c99).trans (rfl)))))))).symm) (Or.inr rfl) hP hD hS (lv_sub hl [0, 1, 2] rfl)
              · skip
                refine lv_iload_n hx hb dX11_reads_55 rfl (lv_at hl 0 rfl) ?_
                refine lv_bipush (v := 51) hx hb dX11_reads_56 (by decide) ?_
                refine lv_icmp_ge (tgt := 67) hx hb dX11_reads_58 (by decide) (fun c100 => ?_) (fun c100 => ?_)
                · skip
                  refine lv_iload_n hx hb dX11_reads_67 rfl (lv_at hl 0 rfl) ?_
                  refine lv_bipush (v := 57) hx hb dX11_reads_68 (by decide) ?_
                  refine lv_icmp_ne (tgt := 77) hx hb dX11_reads_70 (by decide) (fun c101 => ?_) (fun c101 => ?_)
                  · skip
                    refine lv_iconst (v := 0) hx hb dX11_reads_77 (by decide) ?_
                    exact Kj3 0 H locs ls (by clear hP hD hS hl; replace hz6 := hz6.symm; subst hz6; exact (((if_neg c94).trans ((if_pos c95).trans ((if_pos c96).trans ((if_neg c97).trans ((if_neg c98).trans ((if_pos c100).trans ((if_neg c101).trans (rfl))))))))).symm) (Or.inl rfl) hP hD hS (lv_sub hl [0, 1, 2] rfl)
                  · skip
                    refine lv_iconst (v := 1) hx hb dX11_reads_73 (by decide) ?_
                    refine lv_goto (tgt := 78) hx hb dX11_reads_74 (by decide) ?_
                    exact Kj3 1 H locs ls (by clear hP hD hS hl; replace hz6 := hz6.symm; subst hz6; exact (((if_neg c94).trans ((if_pos c95).trans ((if_pos c96).trans ((if_neg c97).trans ((if_neg c98).trans ((if_pos c100).trans ((if_pos c101).trans (rfl))))))))).symm) (Or.inr rfl) hP hD hS (lv_sub hl [0, 1, 2] rfl)
                · skip
                  refine lv_iload_n hx hb dX11_reads_61 rfl (lv_at hl 0 rfl) ?_
                  refine lv_bipush (v := 41) hx hb dX11_reads_62 (by decide) ?_
                  refine lv_icmp_ne (tgt := 73) hx hb dX11_reads_64 (by decide) (fun c102 => ?_) (fun c102 => ?_)
                  · skip
                    refine lv_iconst (v := 1) hx hb dX11_reads_73 (by decide) ?_
                    refine lv_goto (tgt := 78) hx hb dX11_reads_74 (by decide) ?_
                    exact Kj3 1 H locs ls (by clear hP hD hS hl; replace hz6 := hz6.symm; subst hz6; exact (((if_neg c94).trans ((if_pos c95).trans ((if_pos c96).trans ((if_neg c97).trans ((if_neg c98).trans ((if_neg c100).trans ((if_neg c102).trans (rfl))))))))).symm) (Or.inr rfl) hP hD hS (lv_sub hl [0, 1, 2] rfl)
                  · skip
                    refine lv_iload_n hx hb dX11_reads_67 rfl (lv_at hl 0 rfl) ?_
                    refine lv_bipush (v := 57) hx hb dX11_reads_68 (by decide) ?_
                    refine lv_icmp_ne (tgt := 77) hx hb dX11_reads_70 (by decide) (fun c103 => ?_) (fun c103 => ?_)
                    · skip
                      refine lv_iconst (v := 0) hx hb dX11_reads_77 (by decide) ?_
                      exact Kj3 0 H locs ls (by clear hP hD hS hl; replace hz6 := hz6.symm; subst hz6; exact (((if_neg c94).trans ((if_pos c95).trans ((if_pos c96).trans ((if_neg c97).trans ((if_neg c98).trans ((if_neg c100).trans ((if_pos c102).trans ((if_neg c103).trans (rfl)))))))))).symm) (Or.inl rfl) hP hD hS (lv_sub hl [0, 1, 2] rfl)
                    · skip
                      refine lv_iconst (v := 1) hx hb dX11_reads_73 (by decide) ?_
                      refine lv_goto (tgt := 78) hx hb dX11_reads_74 (by decide) ?_
                      exact Kj3 1 H locs ls (by clear hP hD hS hl; replace hz6 := hz6.symm; subst hz6; exact (((if_neg c94).trans ((if_pos c95).trans ((if_pos c96).trans ((if_neg c97).trans ((if_neg c98).trans ((if_neg c100).trans ((if_pos c102).trans ((if_pos c103).trans (rfl)))))))))).symm) (Or.inr rfl) hP hD hS (lv_sub hl [0, 1, 2] rfl)
        · skip
          refine lv_iload_n hx hb dX11_reads_30 rfl (lv_at hl 0 rfl) ?_
          refine lv_bipush (v := 20) hx hb dX11_reads_31 (by decide) ?_
          refine lv_icmp_lt (tgt := 73) hx hb dX11_reads_33 (by decide) (fun c104 => ?_) (fun c104 => ?_)
          · skip
            refine lv_iconst (v := 1) hx hb dX11_reads_73 (by decide) ?_
            refine lv_goto (tgt := 78) hx hb dX11_reads_74 (by decide) ?_
            exact Kj3 1 H locs ls ((if_neg c94).trans ((if_neg c95).trans ((if_pos c104).trans (rfl)))).symm (Or.inr rfl) hP hD hS (lv_sub hl [0, 1, 2] rfl)
          · skip
            refine lv_iload_n hx hb dX11_reads_36 rfl (lv_at hl 1 rfl) ?_
            refine k_iS (As := [.int p0]) (rest := []) ⟨hx, hb, hml, hown, hts⟩ hK hP hD hS hA (mX11_isMemory l G cI cB cP   H.size p0 ) (va_cwS 1 hts gX11_reads_X11_isMemory rfl rfl rfl (by decide +kernel) ⟨Nat.le_of_ble_eq_true rfl, Nat.le_of_ble_eq_true rfl⟩) rfl hl.1 rfl (Nat.le_of_ble_eq_true rfl) dX11_reads_37 ⟨Nat.le_of_ble_eq_true rfl, Nat.le_of_ble_eq_true rfl⟩ (fun z7 H locs hz7 hEz7 hP hS => ?_)
            refine lv_if_ne (tgt := 73) hx hb dX11_reads_40 (by decide) (fun c105 => ?_) (fun c105 => ?_)
            · skip
              refine lv_iconst (v := 1) hx hb dX11_reads_73 (by decide) ?_
              refine lv_goto (tgt := 78) hx hb dX11_reads_74 (by decide) ?_
              exact Kj3 1 H locs ls (by clear hP hD hS hl; replace hz7 := hz7.symm; subst hz7; exact (((if_neg c94).trans ((if_neg c95).trans ((if_neg c104).trans ((if_neg c105).trans (rfl)))))).symm) (Or.inr rfl) hP hD hS (lv_sub hl [0, 1, 2] rfl)
            · skip
              refine lv_iload_n hx hb dX11_reads_43 rfl (lv_at hl 0 rfl) ?_
              refine lv_bipush (v := 31) hx hb dX11_reads_44 (by decide) ?_
              refine lv_icmp_eq (tgt := 73) hx hb dX11_reads_46 (by decide) (fun c106 => ?_) (fun c106 => ?_)
              · skip
                refine lv_iconst (v := 1) hx hb dX11_reads_73 (by decide) ?_
                refine lv_goto (tgt := 78) hx hb dX11_reads_74 (by decide) ?_
                exact Kj3 1 H locs ls (by clear hP hD hS hl; replace hz7 := hz7.symm; subst hz7; exact (((if_neg c94).trans ((if_neg c95).trans ((if_neg c104).trans ((if_pos c105).trans ((if_pos c106).trans (rfl))))))).symm) (Or.inr rfl) hP hD hS (lv_sub hl [0, 1, 2] rfl)
              · skip
                refine lv_iload_n hx hb dX11_reads_49 rfl (lv_at hl 0 rfl) ?_
                refine lv_bipush (v := 33) hx hb dX11_reads_50 (by decide) ?_
                refine lv_icmp_le (tgt := 67) hx hb dX11_reads_52 (by decide) (fun c107 => ?_) (fun c107 => ?_)
                · skip
                  refine lv_iload_n hx hb dX11_reads_67 rfl (lv_at hl 0 rfl) ?_
                  refine lv_bipush (v := 57) hx hb dX11_reads_68 (by decide) ?_
                  refine lv_icmp_ne (tgt := 77) hx hb dX11_reads_70 (by decide) (fun c108 => ?_) (fun c108 => ?_)
                  · skip
                    refine lv_iconst (v := 0) hx hb dX11_reads_77 (by decide) ?_
                    exact Kj3 0 H locs ls (by clear hP hD hS hl; replace hz7 := hz7.symm; subst hz7; exact (((if_neg c94).trans ((if_neg c95).trans ((if_neg c104).trans ((if_pos c105).trans ((if_neg c106).trans ((if_pos c107).trans ((if_neg c108).trans (rfl))))))))).symm) (Or.inl rfl) hP hD hS (lv_sub hl [0, 1, 2] rfl)
                  · skip
                    refine lv_iconst (v := 1) hx hb dX11_reads_73 (by decide) ?_
                    refine lv_goto (tgt := 78) hx hb dX11_reads_74 (by decide) ?_
                    exact Kj3 1 H locs ls (by clear hP hD hS hl; replace hz7 := hz7.symm; subst hz7; exact (((if_neg c94).trans ((if_neg c95).trans ((if_neg c104).trans ((if_pos c105).trans ((if_neg c106).trans ((if_pos c107).trans ((if_pos c108).trans (rfl))))))))).symm) (Or.inr rfl) hP hD hS (lv_sub hl [0, 1, 2] rfl)
                · skip
                  refine lv_iload_n hx hb dX11_reads_55 rfl (lv_at hl 0 rfl) ?_
                  refine lv_bipush (v := 51) hx hb dX11_reads_56 (by decide) ?_
                  refine lv_icmp_ge (tgt := 67) hx hb dX11_reads_58 (by decide) (fun c109 => ?_) (fun c109 => ?_)
                  · skip
                    refine lv_iload_n hx hb dX11_reads_67 rfl (lv_at hl 0 rfl) ?_
                    refine lv_bipush (v := 57) hx hb dX11_reads_68 (by decide) ?_
                    refine lv_icmp_ne (tgt := 77) hx hb dX11_reads_70 (by decide) (fun c110 => ?_) (fun c110 => ?_)
                    · skip
                      refine lv_iconst (v := 0) hx hb dX11_reads_77 (by decide) ?_
                      exact Kj3 0 H locs ls (by clear hP hD hS hl; replace hz7 := hz7.symm; subst hz7; exact (((if_neg c94).trans ((if_neg c95).trans ((if_neg c104).trans ((if_pos c105).trans ((if_neg c106).trans ((if_neg c107).trans ((if_pos c109).trans ((if_neg c110).trans (rfl)))))))))).symm) (Or.inl rfl) hP hD hS (lv_sub hl [0, 1, 2] rfl)
                    · skip
                      refine lv_iconst (v := 1) hx hb dX11_reads_73 (by decide) ?_
                      refine lv_goto (tgt := 78) hx hb dX11_reads_74 (by decide) ?_
                      exact Kj3 1 H locs ls (by clear hP hD hS hl; replace hz7 := hz7.symm; subst hz7; exact (((if_neg c94).trans ((if_neg c95).trans ((if_neg c104).trans ((if_pos c105).trans ((if_neg c106).trans ((if_neg c107).trans ((if_pos c109).trans ((if_pos c110).trans (rfl)))))))))).symm) (Or.inr rfl) hP hD hS (lv_sub hl [0, 1, 2] rfl)
                  · skip
                    refine lv_iload_n hx hb dX11_reads_61 rfl (lv_at hl 0 rfl) ?_
                    refine lv_bipush (v := 41) hx hb dX11_reads_62 (by decide) ?_
                    refine lv_icmp_ne (tgt := 73) hx hb dX11_reads_64 (by decide) (fun c111 => ?_) (fun c111 => ?_)
                    · skip
                      refine lv_iconst (v := 1) hx hb dX11_reads_73 (by decide) ?_
                      refine lv_goto (tgt := 78) hx hb dX11_reads_74 (by decide) ?_
                      exact Kj3 1 H locs ls (by clear hP hD hS hl; replace hz7 := hz7.symm; subst hz7; exact (((if_neg c94).trans ((if_neg c95).trans ((if_neg c104).trans ((if_pos c105).trans ((if_neg c106).trans ((if_neg c107).trans ((if_neg c109).trans ((if_neg c111).trans (rfl)))))))))).symm) (Or.inr rfl) hP hD hS (lv_sub hl [0, 1, 2] rfl)
                    · skip
                      refine lv_iload_n hx hb dX11_reads_67 rfl (lv_at hl 0 rfl) ?_
                      refine lv_bipush (v := 57) hx hb dX11_reads_68 (by decide) ?_
                      refine lv_icmp_ne (tgt := 77) hx hb dX11_reads_70 (by decide) (fun c112 => ?_) (fun c112 => ?_)
                      · skip
                        refine lv_iconst (v := 0) hx hb dX11_reads_77 (by decide) ?_
                        exact Kj3 0 H locs ls (by clear hP hD hS hl; replace hz7 := hz7.symm; subst hz7; exact (((if_neg c94).trans ((if_neg c95).trans ((if_neg c104).trans ((if_pos c105).trans ((if_neg c106).trans ((if_neg c107).trans ((if_neg c109).trans ((if_pos c111).trans ((if_neg c112).trans (rfl))))))))))).symm) (Or.inl rfl) hP hD hS (lv_sub hl [0, 1, 2] rfl)
                      · skip
                        refine lv_iconst (v := 1) hx hb dX11_reads_73 (by decide) ?_
                        refine lv_goto (tgt := 78) hx hb dX11_reads_74 (by decide) ?_
                        exact Kj3 1 H locs ls (by clear hP hD hS hl; replace hz7 := hz7.symm; subst hz7; exact (((if_neg c94).trans ((if_neg c95).trans ((if_neg c104).trans ((if_pos c105).trans ((if_neg c106).trans ((if_neg c107).trans ((if_neg c109).trans ((if_pos c111).trans ((if_pos c112).trans (rfl))))))))))).symm) (Or.inr rfl) hP hD hS (lv_sub hl [0, 1, 2] rfl)
    · skip
      refine lv_iconst (v := 0) hx hb dX11_reads_16 (by decide) ?_
      exact hret H locs _ ls 0 () dX11_reads_17 (by clear hP hD hS hl; replace hz2 := hz2.symm; subst hz2; replace hz1 := hz1.symm; subst hz1; exact congrArg (fun x => (x, ())) (((if_neg c1).trans ((if_neg c2).trans (rfl)))).symm) (Or.inl rfl) (Or.inl rfl) hP hD hS
def fX11_readsFlag (p0 : Int32) : Int32 :=
  (let z1 := fX11_op p0; if z1 = 22 then (1) else ((let z2 := fX11_op p0; if z2 = 23 then (1) else ((let z3 := fX11_op p0; if z3 = 46 then (1) else (0))))))
set_option maxHeartbeats 4000000 in
set_option maxRecDepth 100000 in
theorem mX11_readsFlag (l : Launch) (G : va_G) (cI cB cP : ClassId) (sz : Nat) (p0 : Int32) : kMi (S := Unit) l yX11_readsFlag wsX11_readsFlag ({ frames := 1, cells := 0, slots := 0, locals := 20 }) [.int p0] G (kTY cI cB cP) sz [] (fX11_readsFlag p0, ()) (fun r _ => isB r) (fun _ => []) := by
  refine k_ofz (cc := cX11_readsFlag) (maxL := 1) (by decide) rfl (Nat.le_of_ble_eq_true rfl) ?_
  intro p e s m args below meth c A ls Q H locs hx hb hml hown hts hin hK hP hD hA hS hl hret
  have hown : s.vm.findClass RX11 = some m.cls := hown
  have hl : lv_has ls 1 [(0, .int p0)] := hl
  refine lv_iload_n hx hb dX11_readsFlag_0 rfl (lv_at hl 0 rfl) ?_
  refine k_iS (As := [.int p0]) (rest := []) ⟨hx, hb, hml, hown, hts⟩ hK hP hD hS hA (mX11_op l G cI cB cP   H.size p0 ) (va_cwS 1 hts gX11_readsFlag_X11_op rfl rfl rfl (by decide +kernel) ⟨Nat.le_of_ble_eq_true rfl, Nat.le_of_ble_eq_true rfl⟩) rfl hl.1 rfl (Nat.le_of_ble_eq_true rfl) dX11_readsFlag_1 ⟨Nat.le_of_ble_eq_true rfl, Nat.le_of_ble_eq_true rfl⟩ (fun z1 H locs hz1 hEz1 hP hS => ?_)
  refine lv_bipush (v := 22) hx hb dX11_readsFlag_4 (by decide) ?_
  refine lv_icmp_eq (tgt := 27) hx hb dX11_readsFlag_6 (by decide) (fun c1 => ?_) (fun c1 => ?_)
  · skip
    refine lv_iconst (v := 1) hx hb dX11_readsFlag_27 (by decide) ?_
    refine lv_goto (tgt := 32) hx hb dX11_readsFlag_28 (by decide) ?_
    exact hret H locs _ ls 1 () dX11_readsFlag_32 (by clear hP hD hS hl; replace hz1 := hz1.symm; subst hz1; exact congrArg (fun x => (x, ())) (((if_pos c1).trans (rfl))).symm) (Or.inr rfl) (Or.inr rfl) hP hD hS
  · skip
    refine lv_iload_n hx hb dX11_readsFlag_9 rfl (lv_at hl 0 rfl) ?_
    refine k_iS (As := [.int p0]) (rest := []) ⟨hx, hb, hml, hown, hts⟩ hK hP hD hS hA (mX11_op l G cI cB cP   H.size p0 ) (va_cwS 1 hts gX11_readsFlag_X11_op rfl rfl rfl (by decide +kernel) ⟨Nat.le_of_ble_eq_true rfl, Nat.le_of_ble_eq_true rfl⟩) rfl hl.1 rfl (Nat.le_of_ble_eq_true rfl) dX11_readsFlag_10 ⟨Nat.le_of_ble_eq_true rfl, Nat.le_of_ble_eq_true rfl⟩ (fun z2 H locs hz2 hEz2 hP hS => ?_)
    refine lv_bipush (v := 23) hx hb dX11_readsFlag_13 (by decide) ?_
    refine lv_icmp_eq (tgt := 27) hx hb dX11_readsFlag_15 (by decide) (fun c2 => ?_) (fun c2 => ?_)
    · skip
      refine lv_iconst (v := 1) hx hb dX11_readsFlag_27 (by decide) ?_
      refine lv_goto (tgt := 32) hx hb dX11_readsFlag_28 (by decide) ?_
      exact hret H locs _ ls 1 () dX11_readsFlag_32 (by clear hP hD hS hl; replace hz2 := hz2.symm; subst hz2; replace hz1 := hz1.symm; subst hz1; exact congrArg (fun x => (x, ())) (((if_neg c1).trans ((if_pos c2).trans (rfl)))).symm) (Or.inr rfl) (Or.inr rfl) hP hD hS
    · skip
      refine lv_iload_n hx hb dX11_readsFlag_18 rfl (lv_at hl 0 rfl) ?_
      refine k_iS (As := [.int p0]) (rest := []) ⟨hx, hb, hml, hown, hts⟩ hK hP hD hS hA (mX11_op l G cI cB cP   H.size p0 ) (va_cwS 1 hts gX11_readsFlag_X11_op rfl rfl rfl (by decide +kernel) ⟨Nat.le_of_ble_eq_true rfl, Nat.le_of_ble_eq_true rfl⟩) rfl hl.1 rfl (Nat.le_of_ble_eq_true rfl) dX11_readsFlag_19 ⟨Nat.le_of_ble_eq_true rfl, Nat.le_of_ble_eq_true rfl⟩ (fun z3 H locs hz3 hEz3 hP hS => ?_)
      refine lv_bipush (v := 46) hx hb dX11_readsFlag_22 (by decide) ?_
      refine lv_icmp_ne (tgt := 31) hx hb dX11_readsFlag_24 (by decide) (fun c3 => ?_) (fun c3 => ?_)
      · skip
        refine lv_iconst (v := 0) hx hb dX11_readsFlag_31 (by decide) ?_
        exact hret H locs _ ls 0 () dX11_readsFlag_32 (by clear hP hD hS hl; replace hz3 := hz3.symm; subst hz3; replace hz2 := hz2.symm; subst hz2; replace hz1 := hz1.symm; subst hz1; exact congrArg (fun x => (x, ())) (((if_neg c1).trans ((if_neg c2).trans ((if_neg c3).trans (rfl))))).symm) (Or.inl rfl) (Or.inl rfl) hP hD hS
      · skip
        refine lv_iconst (v := 1) hx hb dX11_readsFlag_27 (by decide) ?_
        refine lv_goto (tgt := 32) hx hb dX11_readsFlag_28 (by decide) ?_
        exact hret H locs _ ls 1 () dX11_readsFlag_32 (by clear hP hD hS hl; replace hz3 := hz3.symm; subst hz3; replace hz2 := hz2.symm; subst hz2; replace hz1 := hz1.symm; subst hz1; exact congrArg (fun x => (x, ())) (((if_neg c1).trans ((if_neg c2).trans ((if_pos c3).trans (rfl))))).symm) (Or.inr rfl) (Or.inr rfl) hP hD hS

def fX11_compare (p0 : Int32) (p1 : Int32) (p2 : Int32) : Int32 :=
  (let j1 : Int64 := if 6 ≤ p0 then (p1.toInt64) else (p1.toInt64 &&& 4294967295); (let j2 : Int64 := if 6 ≤ p0 then (p2.toInt64) else (p2.toInt64 &&& 4294967295); if p0 = 0 then (if (lg_cmp j1 j2) = 0 then (1) else (0)) else (if p0 = 1 then (if (lg_cmp j1 j2) = 0 then (0) else (1)) else (if p0 = 2 then (if (lg_cmp j1 j2) ≤ 0 then (0) else (1)) else (if p0 = 3 then (if (lg_cmp j1 j2) < 0 then (0) else (1)) else (if p0 = 4 then (if 0 ≤ (lg_cmp j1 j2) then (0) else (1)) else (if p0 = 6 then (if (lg_cmp j1 j2) ≤ 0 then (0) else (1)) else (if p0 = 7 then (if (lg_cmp j1 j2) < 0 then (0) else (1)) else (if p0 = 8 then (if 0 ≤ (lg_cmp j1 j2) then (0) else (1)) else (if 0 < (lg_cmp j1 j2) then (0) else (1)))))))))))
theorem lkX11_compare_130 : Cond.constantLong RX11 130 (4294967295) ∈ wsX11_compare := by decide +kernel
set_option maxHeartbeats 4000000 in
set_option maxRecDepth 100000 in
theorem mX11_compare (l : Launch) (G : va_G) (cI cB cP : ClassId) (sz : Nat) (p0 : Int32) (p1 : Int32) (p2 : Int32) : kMi (S := Unit) l yX11_compare wsX11_compare ({ frames := 0, cells := 0, slots := 0, locals := 0 }) [.int p0, .int p1, .int p2] G (kTY cI cB cP) sz [] (fX11_compare p0 p1 p2, ()) (fun r _ => isB r) (fun _ => []) := by
  refine k_ofz (cc := cX11_compare) (maxL := 7) (by decide) rfl (Nat.le_of_ble_eq_true rfl) ?_
  intro p e s m args below meth c A ls Q H locs hx hb hml hown hts hin hK hP hD hA hS hl hret
  have hown : s.vm.findClass RX11 = some m.cls := hown
  have hl : lv_has ls 7 [(0, .int p0), (1, .int p1), (2, .int p2)] := hl
  refine lv_iload_n hx hb dX11_compare_0 rfl (lv_at hl 0 rfl) ?_
  refine lv_bipush (v := 6) hx hb dX11_compare_1 (by decide) ?_
  have Kj1 : ∀ (j1 : Int64) (H : Heap) (locs : List Loc) (ls : Array Slot), j1 = (if 6 ≤ p0 then (p1.toInt64) else (p1.toInt64 &&& 4294967295)) → va_P G vwCl [] H → va_D A [] → va_S A s.heap H locs → lv_has ls 7 [(0, .int p0), (1, .int p1), (2, .int p2)] → W p l e ({ frames := 0, cells := 0, slots := 0, locals := 0 }) s m args below meth c H locs 0 0 Q (F0 m 17 ls [.long j1]) := by
    intro j1 H locs ls hj1 hP hD hS hl
    refine lv_lstore_n (lv' := [(3, .long j1), (0, .int p0), (1, .int p1), (2, .int p2)]) hx hb dX11_compare_17 rfl hl (by decide) rfl (fun ls hl => ?_)
    refine lv_iload_n hx hb dX11_compare_18 rfl (lv_at hl 1 rfl) ?_
    refine lv_bipush (v := 6) hx hb dX11_compare_19 (by decide) ?_
    have Kj2 : ∀ (j2 : Int64) (H : Heap) (locs : List Loc) (ls : Array Slot), j2 = (if 6 ≤ p0 then (p2.toInt64) else (p2.toInt64 &&& 4294967295)) → va_P G vwCl [] H → va_D A [] → va_S A s.heap H locs → lv_has ls 7 [(3, .long j1), (0, .int p0), (1, .int p1), (2, .int p2)] → W p l e ({ frames := 0, cells := 0, slots := 0, locals := 0 }) s m args below meth c H locs 0 0 Q (F0 m 35 ls [.long j2]) := by
      intro j2 H locs ls hj2 hP hD hS hl
      refine lv_lstore (lv' := [(5, .long j2), (3, .long j1), (0, .int p0), (1, .int p1), (2, .int p2)]) hx hb dX11_compare_35 hl (by decide) rfl (fun ls hl => ?_)
      refine lv_iload_n hx hb dX11_compare_37 rfl (lv_at hl 2 rfl) ?_
      by_cases c5 : p0 = 0
      · skip
        refine k_tab (tgt := 88) hx hb dX11_compare_38 c5 (by decide) (by decide) rfl (by decide) ?_
        refine lv_lload_n hx hb dX11_compare_88 rfl (lv_at hl 1 rfl) ?_
        refine lv_lload hx hb dX11_compare_89 (lv_at hl 0 rfl) ?_
        refine W.lcmp hx hb dX11_compare_91 ?_
        refine lv_if_ne (tgt := 99) hx hb dX11_compare_92 (by decide) (fun c6 => ?_) (fun c6 => ?_)
        · skip
          refine lv_iconst (v := 0) hx hb dX11_compare_99 (by decide) ?_
          exact hret H locs _ ls 0 () dX11_compare_100 (by clear hP hD hS hl; replace hj2 := hj2.symm; subst hj2; replace hj1 := hj1.symm; subst hj1; exact congrArg (fun x => (x, ())) (((if_pos c5).trans ((if_neg c6).trans (rfl)))).symm) (Or.inl rfl) (Or.inl rfl) hP hD hS
        · skip
          refine lv_iconst (v := 1) hx hb dX11_compare_95 (by decide) ?_
          refine lv_goto (tgt := 100) hx hb dX11_compare_96 (by decide) ?_
          exact hret H locs _ ls 1 () dX11_compare_100 (by clear hP hD hS hl; replace hj2 := hj2.symm; subst hj2; replace hj1 := hj1.symm; subst hj1; exact congrArg (fun x => (x, ())) (((if_pos c5).trans ((if_pos c6).trans (rfl)))).symm) (Or.inr rfl) (Or.inr rfl) hP hD hS
      by_cases c7 : p0 = 1
      · skip
        refine k_tab (tgt := 101) hx hb dX11_compare_38 c7 (by decide) (by decide) rfl (by decide) ?_
        refine lv_lload_n hx hb dX11_compare_101 rfl (lv_at hl 1 rfl) ?_
        refine lv_lload hx hb dX11_compare_102 (lv_at hl 0 rfl) ?_
        refine W.lcmp hx hb dX11_compare_104 ?_
        refine lv_if_eq (tgt := 112) hx hb dX11_compare_105 (by decide) (fun c8 => ?_) (fun c8 => ?_)
        · skip
          refine lv_iconst (v := 0) hx hb dX11_compare_112 (by decide) ?_
          exact hret H locs _ ls 0 () dX11_compare_113 (by clear hP hD hS hl; replace hj2 := hj2.symm; subst hj2; replace hj1 := hj1.symm; subst hj1; exact congrArg (fun x => (x, ())) (((if_neg c5).trans ((if_pos c7).trans ((if_pos c8).trans (rfl))))).symm) (Or.inl rfl) (Or.inl rfl) hP hD hS
        · skip
          refine lv_iconst (v := 1) hx hb dX11_compare_108 (by decide) ?_
          refine lv_goto (tgt := 113) hx hb dX11_compare_109 (by decide) ?_
          exact hret H locs _ ls 1 () dX11_compare_113 (by clear hP hD hS hl; replace hj2 := hj2.symm; subst hj2; replace hj1 := hj1.symm; subst hj1; exact congrArg (fun x => (x, ())) (((if_neg c5).trans ((if_pos c7).trans ((if_neg c8).trans (rfl))))).symm) (Or.inr rfl) (Or.inr rfl) hP hD hS
      by_cases c9 : p0 = 2
      · skip
        refine k_tab (tgt := 114) hx hb dX11_compare_38 c9 (by decide) (by decide) rfl (by decide) ?_
        refine lv_lload_n hx hb dX11_compare_114 rfl (lv_at hl 1 rfl) ?_
        refine lv_lload hx hb dX11_compare_115 (lv_at hl 0 rfl) ?_
        refine W.lcmp hx hb dX11_compare_117 ?_
        refine lv_if_le (tgt := 125) hx hb dX11_compare_118 (by decide) (fun c10 => ?_) (fun c10 => ?_)
        · skip
          refine lv_iconst (v := 0) hx hb dX11_compare_125 (by decide) ?_
          exact hret H locs _ ls 0 () dX11_compare_126 (by clear hP hD hS hl; replace hj2 := hj2.symm; subst hj2; replace hj1 := hj1.symm; subst hj1; exact congrArg (fun x => (x, ())) (((if_neg c5).trans ((if_neg c7).trans ((if_pos c9).trans ((if_pos c10).trans (rfl)))))).symm) (Or.inl rfl) (Or.inl rfl) hP hD hS
        · skip
          refine lv_iconst (v := 1) hx hb dX11_compare_121 (by decide) ?_
          refine lv_goto (tgt := 126) hx hb dX11_compare_122 (by decide) ?_
          exact hret H locs _ ls 1 () dX11_compare_126 (by clear hP hD hS hl; replace hj2 := hj2.symm; subst hj2; replace hj1 := hj1.symm; subst hj1; exact congrArg (fun x => (x, ())) (((if_neg c5).trans ((if_neg c7).trans ((if_pos c9).trans ((if_neg c10).trans (rfl)))))).symm) (Or.inr rfl) (Or.inr rfl) hP hD hS
      by_cases c11 : p0 = 3
      · skip
        refine k_tab (tgt := 127) hx hb dX11_compare_38 c11 (by decide) (by decide) rfl (by decide) ?_
        refine lv_lload_n hx hb dX11_compare_127 rfl (lv_at hl 1 rfl) ?_
        refine lv_lload hx hb dX11_compare_128 (lv_at hl 0 rfl) ?_
        refine W.lcmp hx hb dX11_compare_130 ?_
        refine lv_if_lt (tgt := 138) hx hb dX11_compare_131 (by decide) (fun c12 => ?_) (fun c12 => ?_)
        · skip
          refine lv_iconst (v := 0) hx hb dX11_compare_138 (by decide) ?_
          exact hret H locs _ ls 0 () dX11_compare_139 (by clear hP hD hS hl; replace hj2 := hj2.symm; subst hj2; replace hj1 := hj1.symm; subst hj1; exact congrArg (fun x => (x, ())) (((if_neg c5).trans ((if_neg c7).trans ((if_neg c9).trans ((if_pos c11).trans ((if_pos c12).trans (rfl))))))).symm) (Or.inl rfl) (Or.inl rfl) hP hD hS
        · skip
          refine lv_iconst (v := 1) hx hb dX11_compare_134 (by decide) ?_
          refine lv_goto (tgt := 139) hx hb dX11_compare_135 (by decide) ?_
          exact hret H locs _ ls 1 () dX11_compare_139 (by clear hP hD hS hl; replace hj2 := hj2.symm; subst hj2; replace hj1 := hj1.symm; subst hj1; exact congrArg (fun x => (x, ())) (((if_neg c5).trans ((if_neg c7).trans ((if_neg c9).trans ((if_pos c11).trans ((if_neg c12).trans (rfl))))))).symm) (Or.inr rfl) (Or.inr rfl) hP hD hS
      by_cases c13 : p0 = 4
      · skip
        refine k_tab (tgt := 140) hx hb dX11_compare_38 c13 (by decide) (by decide) rfl (by decide) ?_
        refine lv_lload_n hx hb dX11_compare_140 rfl (lv_at hl 1 rfl) ?_
        refine lv_lload hx hb dX11_compare_141 (lv_at hl 0 rfl) ?_
        refine W.lcmp hx hb dX11_compare_143 ?_
        refine lv_if_ge (tgt := 151) hx hb dX11_compare_144 (by decide) (fun c14 => ?_) (fun c14 => ?_)
        · skip
          refine lv_iconst (v := 0) hx hb dX11_compare_151 (by decide) ?_
          exact hret H locs _ ls 0 () dX11_compare_152 (by clear hP hD hS hl; replace hj2 := hj2.symm; subst hj2; replace hj1 := hj1.symm; subst hj1; exact congrArg (fun x => (x, ())) (((if_neg c5).trans ((if_neg c7).trans ((if_neg c9).trans ((if_neg c11).trans ((if_pos c13).trans ((if_pos c14).trans (rfl)))))))).symm) (Or.inl rfl) (Or.inl rfl) hP hD hS
        · skip
          refine lv_iconst (v := 1) hx hb dX11_compare_147 (by decide) ?_
          refine lv_goto (tgt := 152) hx hb dX11_compare_148 (by decide) ?_
          exact hret H locs _ ls 1 () dX11_compare_152 (by clear hP hD hS hl; replace hj2 := hj2.symm; subst hj2; replace hj1 := hj1.symm; subst hj1; exact congrArg (fun x => (x, ())) (((if_neg c5).trans ((if_neg c7).trans ((if_neg c9).trans ((if_neg c11).trans ((if_pos c13).trans ((if_neg c14).trans (rfl)))))))).symm) (Or.inr rfl) (Or.inr rfl) hP hD hS
      by_cases c15 : p0 = 6
      · skip
        refine k_tab (tgt := 114) hx hb dX11_compare_38 c15 (by decide) (by decide) rfl (by decide) ?_
        refine lv_lload_n hx hb dX11_compare_114 rfl (lv_at hl 1 rfl) ?_
        refine lv_lload hx hb dX11_compare_115 (lv_at hl 0 rfl) ?_
        refine W.lcmp hx hb dX11_compare_117 ?_
        refine lv_if_le (tgt := 125) hx hb dX11_compare_118 (by decide) (fun c16 => ?_) (fun c16 => ?_)
        · skip
          refine lv_iconst (v := 0) hx hb dX11_compare_125 (by decide) ?_
          exact hret H locs _ ls 0 () dX11_compare_126 (by clear hP hD hS hl; replace hj2 := hj2.symm; subst hj2; replace hj1 := hj1.symm; subst hj1; exact congrArg (fun x => (x, ())) (((if_neg c5).trans ((if_neg c7).trans ((if_neg c9).trans ((if_neg c11).trans ((if_neg c13).trans ((if_pos c15).trans ((if_pos c16).trans (rfl))))))))).symm) (Or.inl rfl) (Or.inl rfl) hP hD hS
        · skip
          refine lv_iconst (v := 1) hx hb dX11_compare_121 (by decide) ?_
          refine lv_goto (tgt := 126) hx hb dX11_compare_122 (by decide) ?_
          exact hret H locs _ ls 1 () dX11_compare_126 (by clear hP hD hS hl; replace hj2 := hj2.symm; subst hj2; replace hj1 := hj1.symm; subst hj1; exact congrArg (fun x => (x, ())) (((if_neg c5).trans ((if_neg c7).trans ((if_neg c9).trans ((if_neg c11).trans ((if_neg c13).trans ((if_pos c15).trans ((if_neg c16).trans (rfl))))))))).symm) (Or.inr rfl) (Or.inr rfl) hP hD hS
      by_cases c17 : p0 = 7
      · skip
        refine k_tab (tgt := 127) hx hb dX11_compare_38 c17 (by decide) (by decide) rfl (by decide) ?_
        refine lv_lload_n hx hb dX11_compare_127 rfl (lv_at hl 1 rfl) ?_
        refine lv_lload hx hb dX11_compare_128 (lv_at hl 0 rfl) ?_
        refine W.lcmp hx hb dX11_compare_130 ?_
        refine lv_if_lt (tgt := 138) hx hb dX11_compare_131 (by decide) (fun c18 => ?_) (fun c18 => ?_)
        · skip
          refine lv_iconst (v := 0) hx hb dX11_compare_138 (by decide) ?_
          exact hret H locs _ ls 0 () dX11_compare_139 (by clear hP hD hS hl; replace hj2 := hj2.symm; subst hj2; replace hj1 := hj1.symm; subst hj1; exact congrArg (fun x => (x, ())) (((if_neg c5).trans ((if_neg c7).trans ((if_neg c9).trans ((if_neg c11).trans ((if_neg c13).trans ((if_neg c15).trans ((if_pos c17).trans ((if_pos c18).trans (rfl)))))))))).symm) (Or.inl rfl) (Or.inl rfl) hP hD hS
        · skip
          refine lv_iconst (v := 1) hx hb dX11_compare_134 (by decide) ?_
          refine lv_goto (tgt := 139) hx hb dX11_compare_135 (by decide) ?_
          exact hret H locs _ ls 1 () dX11_compare_139 (by clear hP hD hS hl; replace hj2 := hj2.symm; subst hj2; replace hj1 := hj1.symm; subst hj1; exact congrArg (fun x => (x, ())) (((if_neg c5).trans ((if_neg c7).trans ((if_neg c9).trans ((if_neg c11).trans ((if_neg c13).trans ((if_neg c15).trans ((if_pos c17).trans ((if_neg c18).trans (rfl)))))))))).symm) (Or.inr rfl) (Or.inr rfl) hP hD hS
      by_cases c19 : p0 = 8
      · skip
        refine k_tab (tgt := 140) hx hb dX11_compare_38 c19 (by decide) (by decide) rfl (by decide) ?_
        refine lv_lload_n hx hb dX11_compare_140 rfl (lv_at hl 1 rfl) ?_
        refine lv_lload hx hb dX11_compare_141 (lv_at hl 0 rfl) ?_
        refine W.lcmp hx hb dX11_compare_143 ?_
        refine lv_if_ge (tgt := 151) hx hb dX11_compare_144 (by decide) (fun c20 => ?_) (fun c20 => ?_)
        · skip
          refine lv_iconst (v := 0) hx hb dX11_compare_151 (by decide) ?_
          exact hret H locs _ ls 0 () dX11_compare_152 (by clear hP hD hS hl; replace hj2 := hj2.symm; subst hj2; replace hj1 := hj1.symm; subst hj1; exact congrArg (fun x => (x, ())) (((if_neg c5).trans ((if_neg c7).trans ((if_neg c9).trans ((if_neg c11).trans ((if_neg c13).trans ((if_neg c15).trans ((if_neg c17).trans ((if_pos c19).trans ((if_pos c20).trans (rfl))))))))))).symm) (Or.inl rfl) (Or.inl rfl) hP hD hS
        · skip
          refine lv_iconst (v := 1) hx hb dX11_compare_147 (by decide) ?_
          refine lv_goto (tgt := 152) hx hb dX11_compare_148 (by decide) ?_
          exact hret H locs _ ls 1 () dX11_compare_152 (by clear hP hD hS hl; replace hj2 := hj2.symm; subst hj2; replace hj1 := hj1.symm; subst hj1; exact congrArg (fun x => (x, ())) (((if_neg c5).trans ((if_neg c7).trans ((if_neg c9).trans ((if_neg c11).trans ((if_neg c13).trans ((if_neg c15).trans ((if_neg c17).trans ((if_pos c19).trans ((if_neg c20).trans (rfl))))))))))).symm) (Or.inr rfl) (Or.inr rfl) hP hD hS
      refine k_tabD (tgt := 153) hx hb dX11_compare_38 [0, 1, 2, 3, 4, 6, 7, 8] (List.forall_mem_cons.mpr ⟨c5, List.forall_mem_cons.mpr ⟨c7, List.forall_mem_cons.mpr ⟨c9, List.forall_mem_cons.mpr ⟨c11, List.forall_mem_cons.mpr ⟨c13, List.forall_mem_cons.mpr ⟨c15, List.forall_mem_cons.mpr ⟨c17, List.forall_mem_cons.mpr ⟨c19, fun _ h => absurd h List.not_mem_nil⟩⟩⟩⟩⟩⟩⟩⟩) (by decide) (by decide) (by decide) ?_
      refine lv_lload_n hx hb dX11_compare_153 rfl (lv_at hl 1 rfl) ?_
      refine lv_lload hx hb dX11_compare_154 (lv_at hl 0 rfl) ?_
      refine W.lcmp hx hb dX11_compare_156 ?_
      refine lv_if_gt (tgt := 164) hx hb dX11_compare_157 (by decide) (fun c21 => ?_) (fun c21 => ?_)
      · skip
        refine lv_iconst (v := 0) hx hb dX11_compare_164 (by decide) ?_
        exact hret H locs _ ls 0 () dX11_compare_165 (by clear hP hD hS hl; replace hj2 := hj2.symm; subst hj2; replace hj1 := hj1.symm; subst hj1; exact congrArg (fun x => (x, ())) (((if_neg c5).trans ((if_neg c7).trans ((if_neg c9).trans ((if_neg c11).trans ((if_neg c13).trans ((if_neg c15).trans ((if_neg c17).trans ((if_neg c19).trans ((if_pos c21).trans (rfl))))))))))).symm) (Or.inl rfl) (Or.inl rfl) hP hD hS
      · skip
        refine lv_iconst (v := 1) hx hb dX11_compare_160 (by decide) ?_
        refine lv_goto (tgt := 165) hx hb dX11_compare_161 (by decide) ?_
        exact hret H locs _ ls 1 () dX11_compare_165 (by clear hP hD hS hl; replace hj2 := hj2.symm; subst hj2; replace hj1 := hj1.symm; subst hj1; exact congrArg (fun x => (x, ())) (((if_neg c5).trans ((if_neg c7).trans ((if_neg c9).trans ((if_neg c11).trans ((if_neg c13).trans ((if_neg c15).trans ((if_neg c17).trans ((if_neg c19).trans ((if_neg c21).trans (rfl))))))))))).symm) (Or.inr rfl) (Or.inr rfl) hP hD hS
    refine lv_icmp_ge (tgt := 33) hx hb dX11_compare_21 (by decide) (fun c22 => ?_) (fun c22 => ?_)
    · skip
      refine lv_iload_n hx hb dX11_compare_33 rfl (lv_at hl 3 rfl) ?_
      refine lv_i2l (v := p2.toInt64) hx hb dX11_compare_34 rfl ?_
      exact Kj2 p2.toInt64 H locs ls ((if_pos c22).trans (rfl)).symm  hP hD hS (lv_sub hl [0, 1, 2, 3] rfl)
    · skip
      refine lv_iload_n hx hb dX11_compare_24 rfl (lv_at hl 3 rfl) ?_
      refine lv_i2l (v := p2.toInt64) hx hb dX11_compare_25 rfl ?_
      refine lv_ldc2 (v := 4294967295) hx hb hown (hts _ lkX11_compare_130) dX11_compare_26 ?_
      refine lv_land hx hb dX11_compare_29 ?_
      refine lv_goto (tgt := 35) hx hb dX11_compare_30 (by decide) ?_
      exact Kj2 (p2.toInt64 &&& 4294967295) H locs ls ((if_neg c22).trans (rfl)).symm  hP hD hS (lv_sub hl [0, 1, 2, 3] rfl)
  refine lv_icmp_ge (tgt := 15) hx hb dX11_compare_3 (by decide) (fun c23 => ?_) (fun c23 => ?_)
  · skip
    refine lv_iload_n hx hb dX11_compare_15 rfl (lv_at hl 1 rfl) ?_
    refine lv_i2l (v := p1.toInt64) hx hb dX11_compare_16 rfl ?_
    exact Kj1 p1.toInt64 H locs ls ((if_pos c23).trans (rfl)).symm  hP hD hS (lv_sub hl [0, 1, 2] rfl)
  · skip
    refine lv_iload_n hx hb dX11_compare_6 rfl (lv_at hl 1 rfl) ?_
    refine lv_i2l (v := p1.toInt64) hx hb dX11_compare_7 rfl ?_
    refine lv_ldc2 (v := 4294967295) hx hb hown (hts _ lkX11_compare_130) dX11_compare_8 ?_
    refine lv_land hx hb dX11_compare_11 ?_
    refine lv_goto (tgt := 17) hx hb dX11_compare_12 (by decide) ?_
    exact Kj1 (p1.toInt64 &&& 4294967295) H locs ls ((if_neg c23).trans (rfl)).symm  hP hD hS (lv_sub hl [0, 1, 2] rfl)
def fX11_dueOf (m_events : Int32) (mdu : Nat → Int32) (p0 : Int32) : Int32 :=
  mdu ((m_events - p0) &&& 7).toNatClampNeg
theorem lkX11_dueOf_36 : Cond.fieldLink RX11 36 "TwinIssueModel" "dues" "[I" ∈ wsX11_dueOf := by decide +kernel
theorem lkX11_dueOf_78 : Cond.fieldLink RX11 78 "TwinIssueModel" "events" "I" ∈ wsX11_dueOf := by decide +kernel
theorem iwX11_dueOf_X11 : ∀ w ∈ wsX110, w ∈ wsX11_dueOf := fun _ h => List.mem_cons_of_mem _ (List.mem_append_right _ h)
set_option maxHeartbeats 4000000 in
set_option maxRecDepth 100000 in
theorem mX11_dueOf (l : Launch) (G : va_G) (cI cB cP : ClassId) (aM aMm aMr aMs aMw aMc aMv aMf aMi aMd aMy : Nat) (m_thrown : Int32) (m_sets : Int32) (m_sum : Int64) (m_pc : Int32) (m_slot : Int32) (m_branch : Int32) (m_target : Int32) (m_retired : Int32) (m_lines : Int32) (m_cycles : Int32) (m_events : Int32) (m_exceptions : Int32) (m_doubles : Int32) (m_longest : Int32) (m_word : Int32) (m_codeFault : Int32) (m_fetched : Int32) (m_issued : Int32) (m_due : Int32) (m_starts : Int32) (m_exception : Int32) (m_eea : Int32) (m_register : Int32) (m_value : Int32) (m_flag : Int32) (m_carry : Int32) (m_overflow : Int32) (m_sums : Int32) (m_newSum : Int64) (m_store : Int32) (m_bytes : Int32) (m_stored : Int32) (m_next : Int32) (m_goal : Int32) (m_returns : Int32) (m_lastWord : Int32) (m_lastReadable : Int32) (m_lastPc : Int32) (m_lastFetched : Int32) (m_lastStarts : Int32) (m_lastApart : Int32) (m_redirected : Int32) (m_behind : Int32) (m_flagReady : Int32) (m_carryReady : Int32) (m_sumReady : Int32) (m_divided : Int32) (m_foreseen : Int32) (m_expected : Int32) (m_went : Int32) (mdu : Nat → Int32) (sz : Nat) (p0 : Int32) : kMi (S := Unit) l yX11_dueOf wsX11_dueOf ({ frames := 0, cells := 0, slots := 0, locals := 0 }) [.ref aM, .int p0] G (kTY cI cB cP) sz [(aM, .inr (11, [.int m_thrown, .ref aMm, .ref aMr, .int m_sets, .ref aMs, .ref aMw, .long m_sum, .int m_pc, .int m_slot, .int m_branch, .int m_target, .int m_retired, .ref aMc, .ref aMv, .int m_lines, .int m_cycles, .int m_events, .int m_exceptions, .int m_doubles, .int m_longest, .ref aMf, .int m_word, .int m_codeFault, .int m_fetched, .int m_issued, .int m_due, .int m_starts, .int m_exception, .int m_eea, .int m_register, .int m_value, .int m_flag, .int m_carry, .int m_overflow, .int m_sums, .long m_newSum, .int m_store, .int m_bytes, .int m_stored, .int m_next, .int m_goal, .int m_returns, .ref aMi, .ref aMd, .int m_lastWord, .int m_lastReadable, .int m_lastPc, .int m_lastFetched, .int m_lastStarts, .int m_lastApart, .int m_redirected, .int m_behind, .ref aMy, .int m_flagReady, .int m_carryReady, .int m_sumReady, .int m_divided, .int m_foreseen, .int m_expected, .int m_went])), (aMd, .inl (cI, 8, .inl mdu))] (fX11_dueOf m_events mdu p0, ()) (fun _ _ => True) (fun _ => [(aM, .inr (11, [.int m_thrown, .ref aMm, .ref aMr, .int m_sets, .ref aMs, .ref aMw, .long m_sum, .int m_pc, .int m_slot, .int m_branch, .int m_target, .int m_retired, .ref aMc, .ref aMv, .int m_lines, .int m_cycles, .int m_events, .int m_exceptions, .int m_doubles, .int m_longest, .ref aMf, .int m_word, .int m_codeFault, .int m_fetched, .int m_issued, .int m_due, .int m_starts, .int m_exception, .int m_eea, .int m_register, .int m_value, .int m_flag, .int m_carry, .int m_overflow, .int m_sums, .long m_newSum, .int m_store, .int m_bytes, .int m_stored, .int m_next, .int m_goal, .int m_returns, .ref aMi, .ref aMd, .int m_lastWord, .int m_lastReadable, .int m_lastPc, .int m_lastFetched, .int m_lastStarts, .int m_lastApart, .int m_redirected, .int m_behind, .ref aMy, .int m_flagReady, .int m_carryReady, .int m_sumReady, .int m_divided, .int m_foreseen, .int m_expected, .int m_went])), (aMd, .inl (cI, 8, .inl mdu))]) := by
  refine k_ofi (cc := cX11_dueOf) (maxL := 2) (by decide) rfl (Nat.le_of_ble_eq_true rfl) ?_
  intro p e s m args below meth c A ls Q H locs hx hb hml hown hts hin hK hP hD hA hS hl hret
  have hown : s.vm.findClass RX11 = some m.cls := hown
  have hl : lv_has ls 2 [(0, .ref aM), (1, .int p0)] := hl
  refine lv_aload_n hx hb dX11_dueOf_0 rfl (lv_at hl 0 rfl) ?_
  refine va_get (D := G) (ci := 11) (v := .ref aMd) (C := RX11) (T := TX11) (N := 60) hx hb hts iwX11_dueOf_X11 hown hK hP 0 rfl rfl 43 (by decide) (hts _ lkX11_dueOf_36) (fun _ h9 => h9) rfl dX11_dueOf_1 ?_
  refine lv_aload_n hx hb dX11_dueOf_4 rfl (lv_at hl 0 rfl) ?_
  refine va_get (D := G) (ci := 11) (v := .int m_events) (C := RX11) (T := TX11) (N := 60) hx hb hts iwX11_dueOf_X11 hown hK hP 0 rfl rfl 16 (by decide) (hts _ lkX11_dueOf_78) (fun _ h9 => h9) rfl dX11_dueOf_5 ?_
  refine lv_iload_n hx hb dX11_dueOf_8 rfl (lv_at hl 1 rfl) ?_
  refine lv_isub hx hb dX11_dueOf_9 ?_
  refine lv_bipush (v := 7) hx hb dX11_dueOf_10 (by decide) ?_
  refine lv_iand hx hb dX11_dueOf_12 ?_
  refine va_iald hx hb hK hP 1 0 rfl rfl (vp_mask (m_events - p0) 3 7 (by decide) (by decide) (by decide)) dX11_dueOf_13 ?_
  exact hret H locs _ ls (mdu ((m_events - p0) &&& 7).toNatClampNeg) () dX11_dueOf_14 (by (first | exact rfl | (delta fX11_dueOf; exact rfl) | (unfold fX11_dueOf; dsimp only) | (unfold fX11_dueOf; simp only []))) trivial hP hD hS
def fX11_isKept (m_events : Int32) (p0 : Int32) : Int32 :=
  if p0 < 0 then (0) else (if m_events ≤ p0 then (0) else (if p0 < (m_events - 256) then (0) else (1)))
theorem lkX11_isKept_78 : Cond.fieldLink RX11 78 "TwinIssueModel" "events" "I" ∈ wsX11_isKept := by decide +kernel
theorem iwX11_isKept_X11 : ∀ w ∈ wsX110, w ∈ wsX11_isKept := fun _ h => List.mem_cons_of_mem _ (List.mem_append_right _ h)
set_option maxHeartbeats 4000000 in
set_option maxRecDepth 100000 in
theorem mX11_isKept (l : Launch) (G : va_G) (cI cB cP : ClassId) (aM aMm aMr aMs aMw aMc aMv aMf aMi aMd aMy : Nat) (m_thrown : Int32) (m_sets : Int32) (m_sum : Int64) (m_pc : Int32) (m_slot : Int32) (m_branch : Int32) (m_target : Int32) (m_retired : Int32) (m_lines : Int32) (m_cycles : Int32) (m_events : Int32) (m_exceptions : Int32) (m_doubles : Int32) (m_longest : Int32) (m_word : Int32) (m_codeFault : Int32) (m_fetched : Int32) (m_issued : Int32) (m_due : Int32) (m_starts : Int32) (m_exception : Int32) (m_eea : Int32) (m_register : Int32) (m_value : Int32) (m_flag : Int32) (m_carry : Int32) (m_overflow : Int32) (m_sums : Int32) (m_newSum : Int64) (m_store : Int32) (m_bytes : Int32) (m_stored : Int32) (m_next : Int32) (m_goal : Int32) (m_returns : Int32) (m_lastWord : Int32) (m_lastReadable : Int32) (m_lastPc : Int32) (m_lastFetched : Int32) (m_lastStarts : Int32) (m_lastApart : Int32) (m_redirected : Int32) (m_behind : Int32) (m_flagReady : Int32) (m_carryReady : Int32) (m_sumReady : Int32) (m_divided : Int32) (m_foreseen : Int32) (m_expected : Int32) (m_went : Int32) (sz : Nat) (p0 : Int32) : kMi (S := Unit) l yX11_isKept wsX11_isKept ({ frames := 0, cells := 0, slots := 0, locals := 0 }) [.ref aM, .int p0] G (kTY cI cB cP) sz [(aM, .inr (11, [.int m_thrown, .ref aMm, .ref aMr, .int m_sets, .ref aMs, .ref aMw, .long m_sum, .int m_pc, .int m_slot, .int m_branch, .int m_target, .int m_retired, .ref aMc, .ref aMv, .int m_lines, .int m_cycles, .int m_events, .int m_exceptions, .int m_doubles, .int m_longest, .ref aMf, .int m_word, .int m_codeFault, .int m_fetched, .int m_issued, .int m_due, .int m_starts, .int m_exception, .int m_eea, .int m_register, .int m_value, .int m_flag, .int m_carry, .int m_overflow, .int m_sums, .long m_newSum, .int m_store, .int m_bytes, .int m_stored, .int m_next, .int m_goal, .int m_returns, .ref aMi, .ref aMd, .int m_lastWord, .int m_lastReadable, .int m_lastPc, .int m_lastFetched, .int m_lastStarts, .int m_lastApart, .int m_redirected, .int m_behind, .ref aMy, .int m_flagReady, .int m_carryReady, .int m_sumReady, .int m_divided, .int m_foreseen, .int m_expected, .int m_went]))] (fX11_isKept m_events p0, ()) (fun r _ => isB r) (fun _ => [(aM, .inr (11, [.int m_thrown, .ref aMm, .ref aMr, .int m_sets, .ref aMs, .ref aMw, .long m_sum, .int m_pc, .int m_slot, .int m_branch, .int m_target, .int m_retired, .ref aMc, .ref aMv, .int m_lines, .int m_cycles, .int m_events, .int m_exceptions, .int m_doubles, .int m_longest, .ref aMf, .int m_word, .int m_codeFault, .int m_fetched, .int m_issued, .int m_due, .int m_starts, .int m_exception, .int m_eea, .int m_register, .int m_value, .int m_flag, .int m_carry, .int m_overflow, .int m_sums, .long m_newSum, .int m_store, .int m_bytes, .int m_stored, .int m_next, .int m_goal, .int m_returns, .ref aMi, .ref aMd, .int m_lastWord, .int m_lastReadable, .int m_lastPc, .int m_lastFetched, .int m_lastStarts, .int m_lastApart, .int m_redirected, .int m_behind, .ref aMy, .int m_flagReady, .int m_carryReady, .int m_sumReady, .int m_divided, .int m_foreseen, .int m_expected, .int m_went]))]) := by
  refine k_ofz (cc := cX11_isKept) (maxL := 2) (by decide) rfl (Nat.le_of_ble_eq_true rfl) ?_
  intro p e s m args below meth c A ls Q H locs hx hb hml hown hts hin hK hP hD hA hS hl hret
  have hown : s.vm.findClass RX11 = some m.cls := hown
  have hl : lv_has ls 2 [(0, .ref aM), (1, .int p0)] := hl
  refine lv_iload_n hx hb dX11_isKept_0 rfl (lv_at hl 1 rfl) ?_
  refine lv_if_lt (tgt := 28) hx hb dX11_isKept_1 (by decide) (fun c1 => ?_) (fun c1 => ?_)
  · skip
    refine lv_iconst (v := 0) hx hb dX11_isKept_28 (by decide) ?_
    exact hret H locs _ ls 0 () dX11_isKept_29 (by exact congrArg (fun x => (x, ())) (((if_pos c1).trans (rfl))).symm) (Or.inl rfl) (Or.inl rfl) hP hD hS
  · skip
    refine lv_iload_n hx hb dX11_isKept_4 rfl (lv_at hl 1 rfl) ?_
    refine lv_aload_n hx hb dX11_isKept_5 rfl (lv_at hl 0 rfl) ?_
    refine va_get (D := G) (ci := 11) (v := .int m_events) (C := RX11) (T := TX11) (N := 60) hx hb hts iwX11_isKept_X11 hown hK hP 0 rfl rfl 16 (by decide) (hts _ lkX11_isKept_78) (fun _ h9 => h9) rfl dX11_isKept_6 ?_
    refine lv_icmp_ge (tgt := 28) hx hb dX11_isKept_9 (by decide) (fun c2 => ?_) (fun c2 => ?_)
    · skip
      refine lv_iconst (v := 0) hx hb dX11_isKept_28 (by decide) ?_
      exact hret H locs _ ls 0 () dX11_isKept_29 (by exact congrArg (fun x => (x, ())) (((if_neg c1).trans ((if_pos c2).trans (rfl)))).symm) (Or.inl rfl) (Or.inl rfl) hP hD hS
    · skip
      refine lv_iload_n hx hb dX11_isKept_12 rfl (lv_at hl 1 rfl) ?_
      refine lv_aload_n hx hb dX11_isKept_13 rfl (lv_at hl 0 rfl) ?_
      refine va_get (D := G) (ci := 11) (v := .int m_events) (C := RX11) (T := TX11) (N := 60) hx hb hts iwX11_isKept_X11 hown hK hP 0 rfl rfl 16 (by decide) (hts _ lkX11_isKept_78) (fun _ h9 => h9) rfl dX11_isKept_14 ?_
      refine lv_sipush (v := 256) hx hb dX11_isKept_17 (by decide) ?_
      refine lv_isub hx hb dX11_isKept_20 ?_
      refine lv_icmp_lt (tgt := 28) hx hb dX11_isKept_21 (by decide) (fun c3 => ?_) (fun c3 => ?_)
      · skip
        refine lv_iconst (v := 0) hx hb dX11_isKept_28 (by decide) ?_
        exact hret H locs _ ls 0 () dX11_isKept_29 (by exact congrArg (fun x => (x, ())) (((if_neg c1).trans ((if_neg c2).trans ((if_pos c3).trans (rfl))))).symm) (Or.inl rfl) (Or.inl rfl) hP hD hS
      · skip
        refine lv_iconst (v := 1) hx hb dX11_isKept_24 (by decide) ?_
        refine lv_goto (tgt := 29) hx hb dX11_isKept_25 (by decide) ?_
        exact hret H locs _ ls 1 () dX11_isKept_29 (by exact congrArg (fun x => (x, ())) (((if_neg c1).trans ((if_neg c2).trans ((if_neg c3).trans (rfl))))).symm) (Or.inr rfl) (Or.inr rfl) hP hD hS
def fX11_eventOf (m_events : Int32) (mf : Nat → Int32) (p0 : Int32) (p1 : Int32) : Int32 × Int32 :=
  (let z1 := (fX11_isKept m_events p0, ()); if z1.1 = 0 then (((-1), 0)) else (if p1 < 0 then (((-1), 0)) else (if 8 ≤ p1 then (((-1), 0)) else ((mf ((11 * (jrem p0 256)) + p1).toNatClampNeg, 0)))))
theorem lkX11_eventOf_30 : Cond.fieldLink RX11 30 "TwinIssueModel" "record" "[I" ∈ wsX11_eventOf := by decide +kernel
theorem lkX11_eventOf_49 : Cond.fieldLink RX11 49 "TwinIssueModel" "thrown" "I" ∈ wsX11_eventOf := by decide +kernel
theorem iwX11_eventOf_X11 : ∀ w ∈ wsX110, w ∈ wsX11_eventOf := fun _ h => List.mem_cons_of_mem _ (List.mem_append_right _ h)
def sX11_eventOf (m_events : Int32) (p0 : Int32) (p1 : Int32) : Prop :=
  (∀ z1, z1 = (fX11_isKept m_events p0, ()) → ((z1.1 = 0 → True) ∧ (¬ (z1.1 = 0) → ((p1 < 0 → True) ∧ (¬ (p1 < 0) → ((8 ≤ p1 → True) ∧ (¬ (8 ≤ p1) → ((vp_in ((11 * (jrem p0 256)) + p1) 2816) ∧ True))))))))
set_option maxHeartbeats 4000000 in
set_option maxRecDepth 100000 in
theorem mX11_eventOf (l : Launch) (G : va_G) (cI cB cP : ClassId) (aM aMm aMr aMs aMw aMc aMv aMf aMi aMd aMy : Nat) (m_thrown : Int32) (m_sets : Int32) (m_sum : Int64) (m_pc : Int32) (m_slot : Int32) (m_branch : Int32) (m_target : Int32) (m_retired : Int32) (m_lines : Int32) (m_cycles : Int32) (m_events : Int32) (m_exceptions : Int32) (m_doubles : Int32) (m_longest : Int32) (m_word : Int32) (m_codeFault : Int32) (m_fetched : Int32) (m_issued : Int32) (m_due : Int32) (m_starts : Int32) (m_exception : Int32) (m_eea : Int32) (m_register : Int32) (m_value : Int32) (m_flag : Int32) (m_carry : Int32) (m_overflow : Int32) (m_sums : Int32) (m_newSum : Int64) (m_store : Int32) (m_bytes : Int32) (m_stored : Int32) (m_next : Int32) (m_goal : Int32) (m_returns : Int32) (m_lastWord : Int32) (m_lastReadable : Int32) (m_lastPc : Int32) (m_lastFetched : Int32) (m_lastStarts : Int32) (m_lastApart : Int32) (m_redirected : Int32) (m_behind : Int32) (m_flagReady : Int32) (m_carryReady : Int32) (m_sumReady : Int32) (m_divided : Int32) (m_foreseen : Int32) (m_expected : Int32) (m_went : Int32) (mf : Nat → Int32) (sz : Nat) (p0 : Int32) (p1 : Int32) (hs : sX11_eventOf m_events p0 p1) : kMi (S := Int32) l yX11_eventOf wsX11_eventOf ({ frames := 1, cells := 0, slots := 0, locals := 21 }) [.ref aM, .int p0, .int p1] G (kTY cI cB cP) sz [(aM, .inr (11, [.int m_thrown, .ref aMm, .ref aMr, .int m_sets, .ref aMs, .ref aMw, .long m_sum, .int m_pc, .int m_slot, .int m_branch, .int m_target, .int m_retired, .ref aMc, .ref aMv, .int m_lines, .int m_cycles, .int m_events, .int m_exceptions, .int m_doubles, .int m_longest, .ref aMf, .int m_word, .int m_codeFault, .int m_fetched, .int m_issued, .int m_due, .int m_starts, .int m_exception, .int m_eea, .int m_register, .int m_value, .int m_flag, .int m_carry, .int m_overflow, .int m_sums, .long m_newSum, .int m_store, .int m_bytes, .int m_stored, .int m_next, .int m_goal, .int m_returns, .ref aMi, .ref aMd, .int m_lastWord, .int m_lastReadable, .int m_lastPc, .int m_lastFetched, .int m_lastStarts, .int m_lastApart, .int m_redirected, .int m_behind, .ref aMy, .int m_flagReady, .int m_carryReady, .int m_sumReady, .int m_divided, .int m_foreseen, .int m_expected, .int m_went])), (aMf, .inl (cI, 2816, .inl mf))] (fX11_eventOf m_events mf p0 p1) (fun _ _ => True) (fun u => [(aM, .inr (11, [.int u, .ref aMm, .ref aMr, .int m_sets, .ref aMs, .ref aMw, .long m_sum, .int m_pc, .int m_slot, .int m_branch, .int m_target, .int m_retired, .ref aMc, .ref aMv, .int m_lines, .int m_cycles, .int m_events, .int m_exceptions, .int m_doubles, .int m_longest, .ref aMf, .int m_word, .int m_codeFault, .int m_fetched, .int m_issued, .int m_due, .int m_starts, .int m_exception, .int m_eea, .int m_register, .int m_value, .int m_flag, .int m_carry, .int m_overflow, .int m_sums, .long m_newSum, .int m_store, .int m_bytes, .int m_stored, .int m_next, .int m_goal, .int m_returns, .ref aMi, .ref aMd, .int m_lastWord, .int m_lastReadable, .int m_lastPc, .int m_lastFetched, .int m_lastStarts, .int m_lastApart, .int m_redirected, .int m_behind, .ref aMy, .int m_flagReady, .int m_carryReady, .int m_sumReady, .int m_divided, .int m_foreseen, .int m_expected, .int m_went])), (aMf, .inl (cI, 2816, .inl mf))]) := by
  refine k_ofi (cc := cX11_eventOf) (maxL := 3) (by decide) rfl (Nat.le_of_ble_eq_true rfl) ?_
  intro p e s m args below meth c A ls Q H locs hx hb hml hown hts hin hK hP hD hA hS hl hret
  have hown : s.vm.findClass RX11 = some m.cls := hown
  have hl : lv_has ls 3 [(0, .ref aM), (1, .int p0), (2, .int p1)] := hl
  unfold sX11_eventOf at hs
  refine lv_aload_n hx hb dX11_eventOf_0 rfl (lv_at hl 0 rfl) ?_
  refine lv_iconst (v := 0) hx hb dX11_eventOf_1 (by decide) ?_
  refine va_put (D := G) (ci := 11) (v := .int 0) (ty := .int) (C := RX11) (T := TX11) (N := 60) hx hb hts iwX11_eventOf_X11 tyX11 tyX11_ok nmX11 hown hK hP hD hS 0 rfl rfl 0 (by decide) (hts _ lkX11_eventOf_49) (fun _ h9 => h9) rfl (by decide +kernel) rfl rfl (Nat.le_of_ble_eq_true rfl) dX11_eventOf_2 (fun H locs hP hD hS => ?_)
  have hP : va_P G vwCl [(aM, .inr (11, [.int 0, .ref aMm, .ref aMr, .int m_sets, .ref aMs, .ref aMw, .long m_sum, .int m_pc, .int m_slot, .int m_branch, .int m_target, .int m_retired, .ref aMc, .ref aMv, .int m_lines, .int m_cycles, .int m_events, .int m_exceptions, .int m_doubles, .int m_longest, .ref aMf, .int m_word, .int m_codeFault, .int m_fetched, .int m_issued, .int m_due, .int m_starts, .int m_exception, .int m_eea, .int m_register, .int m_value, .int m_flag, .int m_carry, .int m_overflow, .int m_sums, .long m_newSum, .int m_store, .int m_bytes, .int m_stored, .int m_next, .int m_goal, .int m_returns, .ref aMi, .ref aMd, .int m_lastWord, .int m_lastReadable, .int m_lastPc, .int m_lastFetched, .int m_lastStarts, .int m_lastApart, .int m_redirected, .int m_behind, .ref aMy, .int m_flagReady, .int m_carryReady, .int m_sumReady, .int m_divided, .int m_foreseen, .int m_expected, .int m_went])), (aMf, .inl (cI, 2816, .inl mf))] H := hP
  have hD : va_D A [(aM, .inr (11, [.int 0, .ref aMm, .ref aMr, .int m_sets, .ref aMs, .ref aMw, .long m_sum, .int m_pc, .int m_slot, .int m_branch, .int m_target, .int m_retired, .ref aMc, .ref aMv, .int m_lines, .int m_cycles, .int m_events, .int m_exceptions, .int m_doubles, .int m_longest, .ref aMf, .int m_word, .int m_codeFault, .int m_fetched, .int m_issued, .int m_due, .int m_starts, .int m_exception, .int m_eea, .int m_register, .int m_value, .int m_flag, .int m_carry, .int m_overflow, .int m_sums, .long m_newSum, .int m_store, .int m_bytes, .int m_stored, .int m_next, .int m_goal, .int m_returns, .ref aMi, .ref aMd, .int m_lastWord, .int m_lastReadable, .int m_lastPc, .int m_lastFetched, .int m_lastStarts, .int m_lastApart, .int m_redirected, .int m_behind, .ref aMy, .int m_flagReady, .int m_carryReady, .int m_sumReady, .int m_divided, .int m_foreseen, .int m_expected, .int m_went])), (aMf, .inl (cI, 2816, .inl mf))] := hD
  refine lv_aload_n hx hb dX11_eventOf_5 rfl (lv_at hl 0 rfl) ?_
  refine lv_iload_n hx hb dX11_eventOf_6 rfl (lv_at hl 1 rfl) ?_
  refine k_iV (As := [.int p0]) (rest := []) (wc := [(aM, .inr (11, [.int 0, .ref aMm, .ref aMr, .int m_sets, .ref aMs, .ref aMw, .long m_sum, .int m_pc, .int m_slot, .int m_branch, .int m_target, .int m_retired, .ref aMc, .ref aMv, .int m_lines, .int m_cycles, .int m_events, .int m_exceptions, .int m_doubles, .int m_longest, .ref aMf, .int m_word, .int m_codeFault, .int m_fetched, .int m_issued, .int m_due, .int m_starts, .int m_exception, .int m_eea, .int m_register, .int m_value, .int m_flag, .int m_carry, .int m_overflow, .int m_sums, .long m_newSum, .int m_store, .int m_bytes, .int m_stored, .int m_next, .int m_goal, .int m_returns, .ref aMi, .ref aMd, .int m_lastWord, .int m_lastReadable, .int m_lastPc, .int m_lastFetched, .int m_lastStarts, .int m_lastApart, .int m_redirected, .int m_behind, .ref aMy, .int m_flagReady, .int m_carryReady, .int m_sumReady, .int m_divided, .int m_foreseen, .int m_expected, .int m_went]))]) (wr := [(aMf, .inl (cI, 2816, .inl mf))]) ⟨hx, hb, hml, hown, hts⟩ hK hP hD hS hA [0] [1] rfl rfl rfl rfl (by decide) (mX11_isKept l G cI cB cP aM aMm aMr aMs aMw aMc aMv aMf aMi aMd aMy 0 m_sets m_sum m_pc m_slot m_branch m_target m_retired m_lines m_cycles m_events m_exceptions m_doubles m_longest m_word m_codeFault m_fetched m_issued m_due m_starts m_exception m_eea m_register m_value m_flag m_carry m_overflow m_sums m_newSum m_store m_bytes m_stored m_next m_goal m_returns m_lastWord m_lastReadable m_lastPc m_lastFetched m_lastStarts m_lastApart m_redirected m_behind m_flagReady m_carryReady m_sumReady m_divided m_foreseen m_expected m_went H.size p0 ) (cwV 1 hts gX11_eventOf_X11_isKept rfl rfl rfl (by decide +kernel) ⟨Nat.le_of_ble_eq_true rfl, Nat.le_of_ble_eq_true rfl⟩) 0 11 rfl rfl rfl rfl hl.1 rfl (Nat.le_of_ble_eq_true rfl) dX11_eventOf_7 ⟨Nat.le_of_ble_eq_true rfl, Nat.le_of_ble_eq_true rfl⟩ (fun z1 H locs hz1 hEz1 hP hD hS => ?_)
  have hs := hs z1 hz1
  have hP : va_P G vwCl [(aMf, .inl (cI, 2816, .inl mf)), (aM, .inr (11, [.int 0, .ref aMm, .ref aMr, .int m_sets, .ref aMs, .ref aMw, .long m_sum, .int m_pc, .int m_slot, .int m_branch, .int m_target, .int m_retired, .ref aMc, .ref aMv, .int m_lines, .int m_cycles, .int m_events, .int m_exceptions, .int m_doubles, .int m_longest, .ref aMf, .int m_word, .int m_codeFault, .int m_fetched, .int m_issued, .int m_due, .int m_starts, .int m_exception, .int m_eea, .int m_register, .int m_value, .int m_flag, .int m_carry, .int m_overflow, .int m_sums, .long m_newSum, .int m_store, .int m_bytes, .int m_stored, .int m_next, .int m_goal, .int m_returns, .ref aMi, .ref aMd, .int m_lastWord, .int m_lastReadable, .int m_lastPc, .int m_lastFetched, .int m_lastStarts, .int m_lastApart, .int m_redirected, .int m_behind, .ref aMy, .int m_flagReady, .int m_carryReady, .int m_sumReady, .int m_divided, .int m_foreseen, .int m_expected, .int m_went]))] H := hP
  have hD : va_D A [(aMf, .inl (cI, 2816, .inl mf)), (aM, .inr (11, [.int 0, .ref aMm, .ref aMr, .int m_sets, .ref aMs, .ref aMw, .long m_sum, .int m_pc, .int m_slot, .int m_branch, .int m_target, .int m_retired, .ref aMc, .ref aMv, .int m_lines, .int m_cycles, .int m_events, .int m_exceptions, .int m_doubles, .int m_longest, .ref aMf, .int m_word, .int m_codeFault, .int m_fetched, .int m_issued, .int m_due, .int m_starts, .int m_exception, .int m_eea, .int m_register, .int m_value, .int m_flag, .int m_carry, .int m_overflow, .int m_sums, .long m_newSum, .int m_store, .int m_bytes, .int m_stored, .int m_next, .int m_goal, .int m_returns, .ref aMi, .ref aMd, .int m_lastWord, .int m_lastReadable, .int m_lastPc, .int m_lastFetched, .int m_lastStarts, .int m_lastApart, .int m_redirected, .int m_behind, .ref aMy, .int m_flagReady, .int m_carryReady, .int m_sumReady, .int m_divided, .int m_foreseen, .int m_expected, .int m_went]))] := hD
  refine lv_if_eq (tgt := 41) hx hb dX11_eventOf_10 (by decide) (fun c1 => ?_) (fun c1 => ?_)
  · have hs := hs.1 c1
    refine lv_iconst (v := (-1)) hx hb dX11_eventOf_41 (by decide) ?_
    have hP := hP.sub (ws' := [(aM, .inr (11, [.int 0, .ref aMm, .ref aMr, .int m_sets, .ref aMs, .ref aMw, .long m_sum, .int m_pc, .int m_slot, .int m_branch, .int m_target, .int m_retired, .ref aMc, .ref aMv, .int m_lines, .int m_cycles, .int m_events, .int m_exceptions, .int m_doubles, .int m_longest, .ref aMf, .int m_word, .int m_codeFault, .int m_fetched, .int m_issued, .int m_due, .int m_starts, .int m_exception, .int m_eea, .int m_register, .int m_value, .int m_flag, .int m_carry, .int m_overflow, .int m_sums, .long m_newSum, .int m_store, .int m_bytes, .int m_stored, .int m_next, .int m_goal, .int m_returns, .ref aMi, .ref aMd, .int m_lastWord, .int m_lastReadable, .int m_lastPc, .int m_lastFetched, .int m_lastStarts, .int m_lastApart, .int m_redirected, .int m_behind, .ref aMy, .int m_flagReady, .int m_carryReady, .int m_sumReady, .int m_divided, .int m_foreseen, .int m_expected, .int m_went])), (aMf, .inl (cI, 2816, .inl mf))]) [1, 0] rfl
    have hD := hD.sub (ws' := [(aM, .inr (11, [.int 0, .ref aMm, .ref aMr, .int m_sets, .ref aMs, .ref aMw, .long m_sum, .int m_pc, .int m_slot, .int m_branch, .int m_target, .int m_retired, .ref aMc, .ref aMv, .int m_lines, .int m_cycles, .int m_events, .int m_exceptions, .int m_doubles, .int m_longest, .ref aMf, .int m_word, .int m_codeFault, .int m_fetched, .int m_issued, .int m_due, .int m_starts, .int m_exception, .int m_eea, .int m_register, .int m_value, .int m_flag, .int m_carry, .int m_overflow, .int m_sums, .long m_newSum, .int m_store, .int m_bytes, .int m_stored, .int m_next, .int m_goal, .int m_returns, .ref aMi, .ref aMd, .int m_lastWord, .int m_lastReadable, .int m_lastPc, .int m_lastFetched, .int m_lastStarts, .int m_lastApart, .int m_redirected, .int m_behind, .ref aMy, .int m_flagReady, .int m_carryReady, .int m_sumReady, .int m_divided, .int m_foreseen, .int m_expected, .int m_went])), (aMf, .inl (cI, 2816, .inl mf))]) [1, 0] (by decide) rfl
    exact hret H locs _ ls (-1) 0 dX11_eventOf_42 (by clear hP hD hS hl; replace hz1 := hz1.symm; subst hz1; exact (((if_pos c1).trans (rfl))).symm) trivial hP hD hS
  · have hs := hs.2 c1
    refine lv_iload_n hx hb dX11_eventOf_13 rfl (lv_at hl 2 rfl) ?_
    refine lv_if_lt (tgt := 41) hx hb dX11_eventOf_14 (by decide) (fun c2 => ?_) (fun c2 => ?_)
    · have hs := hs.1 c2
      refine lv_iconst (v := (-1)) hx hb dX11_eventOf_41 (by decide) ?_
      have hP := hP.sub (ws' := [(aM, .inr (11, [.int 0, .ref aMm, .ref aMr, .int m_sets, .ref aMs, .ref aMw, .long m_sum, .int m_pc, .int m_slot, .int m_branch, .int m_target, .int m_retired, .ref aMc, .ref aMv, .int m_lines, .int m_cycles, .int m_events, .int m_exceptions, .int m_doubles, .int m_longest, .ref aMf, .int m_word, .int m_codeFault, .int m_fetched, .int m_issued, .int m_due, .int m_starts, .int m_exception, .int m_eea, .int m_register, .int m_value, .int m_flag, .int m_carry, .int m_overflow, .int m_sums, .long m_newSum, .int m_store, .int m_bytes, .int m_stored, .int m_next, .int m_goal, .int m_returns, .ref aMi, .ref aMd, .int m_lastWord, .int m_lastReadable, .int m_lastPc, .int m_lastFetched, .int m_lastStarts, .int m_lastApart, .int m_redirected, .int m_behind, .ref aMy, .int m_flagReady, .int m_carryReady, .int m_sumReady, .int m_divided, .int m_foreseen, .int m_expected, .int m_went])), (aMf, .inl (cI, 2816, .inl mf))]) [1, 0] rfl
      have hD := hD.sub (ws' := [(aM, .inr (11, [.int 0, .ref aMm, .ref aMr, .int m_sets, .ref aMs, .ref aMw, .long m_sum, .int m_pc, .int m_slot, .int m_branch, .int m_target, .int m_retired, .ref aMc, .ref aMv, .int m_lines, .int m_cycles, .int m_events, .int m_exceptions, .int m_doubles, .int m_longest, .ref aMf, .int m_word, .int m_codeFault, .int m_fetched, .int m_issued, .int m_due, .int m_starts, .int m_exception, .int m_eea, .int m_register, .int m_value, .int m_flag, .int m_carry, .int m_overflow, .int m_sums, .long m_newSum, .int m_store, .int m_bytes, .int m_stored, .int m_next, .int m_goal, .int m_returns, .ref aMi, .ref aMd, .int m_lastWord, .int m_lastReadable, .int m_lastPc, .int m_lastFetched, .int m_lastStarts, .int m_lastApart, .int m_redirected, .int m_behind, .ref aMy, .int m_flagReady, .int m_carryReady, .int m_sumReady, .int m_divided, .int m_foreseen, .int m_expected, .int m_went])), (aMf, .inl (cI, 2816, .inl mf))]) [1, 0] (by decide) rfl
      exact hret H locs _ ls (-1) 0 dX11_eventOf_42 (by clear hP hD hS hl; replace hz1 := hz1.symm; subst hz1; exact (((if_neg c1).trans ((if_pos c2).trans (rfl)))).symm) trivial hP hD hS
    · have hs := hs.2 c2
      refine lv_iload_n hx hb dX11_eventOf_17 rfl (lv_at hl 2 rfl) ?_
      refine lv_bipush (v := 8) hx hb dX11_eventOf_18 (by decide) ?_
      refine lv_icmp_ge (tgt := 41) hx hb dX11_eventOf_20 (by decide) (fun c3 => ?_) (fun c3 => ?_)
      · have hs := hs.1 c3
        refine lv_iconst (v := (-1)) hx hb dX11_eventOf_41 (by decide) ?_
        have hP := hP.sub (ws' := [(aM, .inr (11, [.int 0, .ref aMm, .ref aMr, .int m_sets, .ref aMs, .ref aMw, .long m_sum, .int m_pc, .int m_slot, .int m_branch, .int m_target, .int m_retired, .ref aMc, .ref aMv, .int m_lines, .int m_cycles, .int m_events, .int m_exceptions, .int m_doubles, .int m_longest, .ref aMf, .int m_word, .int m_codeFault, .int m_fetched, .int m_issued, .int m_due, .int m_starts, .int m_exception, .int m_eea, .int m_register, .int m_value, .int m_flag, .int m_carry, .int m_overflow, .int m_sums, .long m_newSum, .int m_store, .int m_bytes, .int m_stored, .int m_next, .int m_goal, .int m_returns, .ref aMi, .ref aMd, .int m_lastWord, .int m_lastReadable, .int m_lastPc, .int m_lastFetched, .int m_lastStarts, .int m_lastApart, .int m_redirected, .int m_behind, .ref aMy, .int m_flagReady, .int m_carryReady, .int m_sumReady, .int m_divided, .int m_foreseen, .int m_expected, .int m_went])), (aMf, .inl (cI, 2816, .inl mf))]) [1, 0] rfl
        have hD := hD.sub (ws' := [(aM, .inr (11, [.int 0, .ref aMm, .ref aMr, .int m_sets, .ref aMs, .ref aMw, .long m_sum, .int m_pc, .int m_slot, .int m_branch, .int m_target, .int m_retired, .ref aMc, .ref aMv, .int m_lines, .int m_cycles, .int m_events, .int m_exceptions, .int m_doubles, .int m_longest, .ref aMf, .int m_word, .int m_codeFault, .int m_fetched, .int m_issued, .int m_due, .int m_starts, .int m_exception, .int m_eea, .int m_register, .int m_value, .int m_flag, .int m_carry, .int m_overflow, .int m_sums, .long m_newSum, .int m_store, .int m_bytes, .int m_stored, .int m_next, .int m_goal, .int m_returns, .ref aMi, .ref aMd, .int m_lastWord, .int m_lastReadable, .int m_lastPc, .int m_lastFetched, .int m_lastStarts, .int m_lastApart, .int m_redirected, .int m_behind, .ref aMy, .int m_flagReady, .int m_carryReady, .int m_sumReady, .int m_divided, .int m_foreseen, .int m_expected, .int m_went])), (aMf, .inl (cI, 2816, .inl mf))]) [1, 0] (by decide) rfl
        exact hret H locs _ ls (-1) 0 dX11_eventOf_42 (by clear hP hD hS hl; replace hz1 := hz1.symm; subst hz1; exact (((if_neg c1).trans ((if_neg c2).trans ((if_pos c3).trans (rfl))))).symm) trivial hP hD hS
      · have hs := hs.2 c3
        refine lv_aload_n hx hb dX11_eventOf_23 rfl (lv_at hl 0 rfl) ?_
        refine va_get (D := G) (ci := 11) (v := .ref aMf) (C := RX11) (T := TX11) (N := 60) hx hb hts iwX11_eventOf_X11 hown hK hP 1 rfl rfl 20 (by decide) (hts _ lkX11_eventOf_30) (fun _ h9 => h9) rfl dX11_eventOf_24 ?_
        refine lv_bipush (v := 11) hx hb dX11_eventOf_27 (by decide) ?_
        refine lv_iload_n hx hb dX11_eventOf_29 rfl (lv_at hl 1 rfl) ?_
        refine lv_sipush (v := 256) hx hb dX11_eventOf_30 (by decide) ?_
        refine lv_irem hx hb dX11_eventOf_33 (by decide) ?_
        refine lv_imul hx hb dX11_eventOf_34 ?_
        refine lv_iload_n hx hb dX11_eventOf_35 rfl (lv_at hl 2 rfl) ?_
        refine lv_iadd hx hb dX11_eventOf_36 ?_
        obtain ⟨o1, hs⟩ := hs
        refine va_iald hx hb hK hP 0 0 rfl rfl o1 dX11_eventOf_37 ?_
        refine lv_goto (tgt := 42) hx hb dX11_eventOf_38 (by decide) ?_
        have hP := hP.sub (ws' := [(aM, .inr (11, [.int 0, .ref aMm, .ref aMr, .int m_sets, .ref aMs, .ref aMw, .long m_sum, .int m_pc, .int m_slot, .int m_branch, .int m_target, .int m_retired, .ref aMc, .ref aMv, .int m_lines, .int m_cycles, .int m_events, .int m_exceptions, .int m_doubles, .int m_longest, .ref aMf, .int m_word, .int m_codeFault, .int m_fetched, .int m_issued, .int m_due, .int m_starts, .int m_exception, .int m_eea, .int m_register, .int m_value, .int m_flag, .int m_carry, .int m_overflow, .int m_sums, .long m_newSum, .int m_store, .int m_bytes, .int m_stored, .int m_next, .int m_goal, .int m_returns, .ref aMi, .ref aMd, .int m_lastWord, .int m_lastReadable, .int m_lastPc, .int m_lastFetched, .int m_lastStarts, .int m_lastApart, .int m_redirected, .int m_behind, .ref aMy, .int m_flagReady, .int m_carryReady, .int m_sumReady, .int m_divided, .int m_foreseen, .int m_expected, .int m_went])), (aMf, .inl (cI, 2816, .inl mf))]) [1, 0] rfl
        have hD := hD.sub (ws' := [(aM, .inr (11, [.int 0, .ref aMm, .ref aMr, .int m_sets, .ref aMs, .ref aMw, .long m_sum, .int m_pc, .int m_slot, .int m_branch, .int m_target, .int m_retired, .ref aMc, .ref aMv, .int m_lines, .int m_cycles, .int m_events, .int m_exceptions, .int m_doubles, .int m_longest, .ref aMf, .int m_word, .int m_codeFault, .int m_fetched, .int m_issued, .int m_due, .int m_starts, .int m_exception, .int m_eea, .int m_register, .int m_value, .int m_flag, .int m_carry, .int m_overflow, .int m_sums, .long m_newSum, .int m_store, .int m_bytes, .int m_stored, .int m_next, .int m_goal, .int m_returns, .ref aMi, .ref aMd, .int m_lastWord, .int m_lastReadable, .int m_lastPc, .int m_lastFetched, .int m_lastStarts, .int m_lastApart, .int m_redirected, .int m_behind, .ref aMy, .int m_flagReady, .int m_carryReady, .int m_sumReady, .int m_divided, .int m_foreseen, .int m_expected, .int m_went])), (aMf, .inl (cI, 2816, .inl mf))]) [1, 0] (by decide) rfl
        exact hret H locs _ ls (mf ((11 * (jrem p0 256)) + p1).toNatClampNeg) 0 dX11_eventOf_42 (by clear hP hD hS hl; replace hz1 := hz1.symm; subst hz1; exact (((if_neg c1).trans ((if_neg c2).trans ((if_neg c3).trans (rfl))))).symm) trivial hP hD hS
def fX11_leave  : Int32 × Int32 × Int32 :=
  (0, 0, 0)
theorem lkX11_leave_59 : Cond.fieldLink RX11 59 "TwinIssueModel" "slot" "Z" ∈ wsX11_leave := by decide +kernel
theorem lkX11_leave_63 : Cond.fieldLink RX11 63 "TwinIssueModel" "branch" "I" ∈ wsX11_leave := by decide +kernel
theorem lkX11_leave_66 : Cond.fieldLink RX11 66 "TwinIssueModel" "target" "I" ∈ wsX11_leave := by decide +kernel
theorem iwX11_leave_X11 : ∀ w ∈ wsX110, w ∈ wsX11_leave := fun _ h => List.mem_cons_of_mem _ (List.mem_append_right _ h)
set_option maxHeartbeats 4000000 in
set_option maxRecDepth 100000 in
theorem mX11_leave (l : Launch) (G : va_G) (cI cB cP : ClassId) (aM aMm aMr aMs aMw aMc aMv aMf aMi aMd aMy : Nat) (m_thrown : Int32) (m_sets : Int32) (m_sum : Int64) (m_pc : Int32) (m_slot : Int32) (m_branch : Int32) (m_target : Int32) (m_retired : Int32) (m_lines : Int32) (m_cycles : Int32) (m_events : Int32) (m_exceptions : Int32) (m_doubles : Int32) (m_longest : Int32) (m_word : Int32) (m_codeFault : Int32) (m_fetched : Int32) (m_issued : Int32) (m_due : Int32) (m_starts : Int32) (m_exception : Int32) (m_eea : Int32) (m_register : Int32) (m_value : Int32) (m_flag : Int32) (m_carry : Int32) (m_overflow : Int32) (m_sums : Int32) (m_newSum : Int64) (m_store : Int32) (m_bytes : Int32) (m_stored : Int32) (m_next : Int32) (m_goal : Int32) (m_returns : Int32) (m_lastWord : Int32) (m_lastReadable : Int32) (m_lastPc : Int32) (m_lastFetched : Int32) (m_lastStarts : Int32) (m_lastApart : Int32) (m_redirected : Int32) (m_behind : Int32) (m_flagReady : Int32) (m_carryReady : Int32) (m_sumReady : Int32) (m_divided : Int32) (m_foreseen : Int32) (m_expected : Int32) (m_went : Int32) (sz : Nat) : kMv (S := Int32 × Int32 × Int32) l yX11_leave wsX11_leave ({ frames := 0, cells := 0, slots := 0, locals := 0 }) [.ref aM] G (kTY cI cB cP) sz [(aM, .inr (11, [.int m_thrown, .ref aMm, .ref aMr, .int m_sets, .ref aMs, .ref aMw, .long m_sum, .int m_pc, .int m_slot, .int m_branch, .int m_target, .int m_retired, .ref aMc, .ref aMv, .int m_lines, .int m_cycles, .int m_events, .int m_exceptions, .int m_doubles, .int m_longest, .ref aMf, .int m_word, .int m_codeFault, .int m_fetched, .int m_issued, .int m_due, .int m_starts, .int m_exception, .int m_eea, .int m_register, .int m_value, .int m_flag, .int m_carry, .int m_overflow, .int m_sums, .long m_newSum, .int m_store, .int m_bytes, .int m_stored, .int m_next, .int m_goal, .int m_returns, .ref aMi, .ref aMd, .int m_lastWord, .int m_lastReadable, .int m_lastPc, .int m_lastFetched, .int m_lastStarts, .int m_lastApart, .int m_redirected, .int m_behind, .ref aMy, .int m_flagReady, .int m_carryReady, .int m_sumReady, .int m_divided, .int m_foreseen, .int m_expected, .int m_went]))] (fX11_leave) (fun _ => True) (fun u => [(aM, .inr (11, [.int m_thrown, .ref aMm, .ref aMr, .int m_sets, .ref aMs, .ref aMw, .long m_sum, .int m_pc, .int u.1, .int u.2.1, .int u.2.2, .int m_retired, .ref aMc, .ref aMv, .int m_lines, .int m_cycles, .int m_events, .int m_exceptions, .int m_doubles, .int m_longest, .ref aMf, .int m_word, .int m_codeFault, .int m_fetched, .int m_issued, .int m_due, .int m_starts, .int m_exception, .int m_eea, .int m_register, .int m_value, .int m_flag, .int m_carry, .int m_overflow, .int m_sums, .long m_newSum, .int m_store, .int m_bytes, .int m_stored, .int m_next, .int m_goal, .int m_returns, .ref aMi, .ref aMd, .int m_lastWord, .int m_lastReadable, .int m_lastPc, .int m_lastFetched, .int m_lastStarts, .int m_lastApart, .int m_redirected, .int m_behind, .ref aMy, .int m_flagReady, .int m_carryReady, .int m_sumReady, .int m_divided, .int m_foreseen, .int m_expected, .int m_went]))]) := by
  refine k_ofv (cc := cX11_leave) (maxL := 1) (by decide) rfl (Nat.le_of_ble_eq_true rfl) ?_
  intro p e s m args below meth c A ls Q H locs hx hb hml hown hts hin hK hP hD hA hS hl hret
  have hown : s.vm.findClass RX11 = some m.cls := hown
  have hl : lv_has ls 1 [(0, .ref aM)] := hl
  refine lv_aload_n hx hb dX11_leave_0 rfl (lv_at hl 0 rfl) ?_
  refine lv_iconst (v := 0) hx hb dX11_leave_1 (by decide) ?_
  refine va_put (D := G) (ci := 11) (v := .int 0) (ty := .boolean) (C := RX11) (T := TX11) (N := 60) hx hb hts iwX11_leave_X11 tyX11 tyX11_ok nmX11 hown hK hP hD hS 0 rfl rfl 8 (by decide) (hts _ lkX11_leave_59) (fun _ h9 => h9) rfl (by decide +kernel) (nar_b (Or.inl rfl)) (fit_b (Or.inl rfl)) (Nat.le_of_ble_eq_true rfl) dX11_leave_2 (fun H locs hP hD hS => ?_)
  have hP : va_P G vwCl [(aM, .inr (11, [.int m_thrown, .ref aMm, .ref aMr, .int m_sets, .ref aMs, .ref aMw, .long m_sum, .int m_pc, .int 0, .int m_branch, .int m_target, .int m_retired, .ref aMc, .ref aMv, .int m_lines, .int m_cycles, .int m_events, .int m_exceptions, .int m_doubles, .int m_longest, .ref aMf, .int m_word, .int m_codeFault, .int m_fetched, .int m_issued, .int m_due, .int m_starts, .int m_exception, .int m_eea, .int m_register, .int m_value, .int m_flag, .int m_carry, .int m_overflow, .int m_sums, .long m_newSum, .int m_store, .int m_bytes, .int m_stored, .int m_next, .int m_goal, .int m_returns, .ref aMi, .ref aMd, .int m_lastWord, .int m_lastReadable, .int m_lastPc, .int m_lastFetched, .int m_lastStarts, .int m_lastApart, .int m_redirected, .int m_behind, .ref aMy, .int m_flagReady, .int m_carryReady, .int m_sumReady, .int m_divided, .int m_foreseen, .int m_expected, .int m_went]))] H := hP
  have hD : va_D A [(aM, .inr (11, [.int m_thrown, .ref aMm, .ref aMr, .int m_sets, .ref aMs, .ref aMw, .long m_sum, .int m_pc, .int 0, .int m_branch, .int m_target, .int m_retired, .ref aMc, .ref aMv, .int m_lines, .int m_cycles, .int m_events, .int m_exceptions, .int m_doubles, .int m_longest, .ref aMf, .int m_word, .int m_codeFault, .int m_fetched, .int m_issued, .int m_due, .int m_starts, .int m_exception, .int m_eea, .int m_register, .int m_value, .int m_flag, .int m_carry, .int m_overflow, .int m_sums, .long m_newSum, .int m_store, .int m_bytes, .int m_stored, .int m_next, .int m_goal, .int m_returns, .ref aMi, .ref aMd, .int m_lastWord, .int m_lastReadable, .int m_lastPc, .int m_lastFetched, .int m_lastStarts, .int m_lastApart, .int m_redirected, .int m_behind, .ref aMy, .int m_flagReady, .int m_carryReady, .int m_sumReady, .int m_divided, .int m_foreseen, .int m_expected, .int m_went]))] := hD
  refine lv_aload_n hx hb dX11_leave_5 rfl (lv_at hl 0 rfl) ?_
  refine lv_iconst (v := 0) hx hb dX11_leave_6 (by decide) ?_
  refine va_put (D := G) (ci := 11) (v := .int 0) (ty := .int) (C := RX11) (T := TX11) (N := 60) hx hb hts iwX11_leave_X11 tyX11 tyX11_ok nmX11 hown hK hP hD hS 0 rfl rfl 9 (by decide) (hts _ lkX11_leave_63) (fun _ h9 => h9) rfl (by decide +kernel) rfl rfl (Nat.le_of_ble_eq_true rfl) dX11_leave_7 (fun H locs hP hD hS => ?_)
  have hP : va_P G vwCl [(aM, .inr (11, [.int m_thrown, .ref aMm, .ref aMr, .int m_sets, .ref aMs, .ref aMw, .long m_sum, .int m_pc, .int 0, .int 0, .int m_target, .int m_retired, .ref aMc, .ref aMv, .int m_lines, .int m_cycles, .int m_events, .int m_exceptions, .int m_doubles, .int m_longest, .ref aMf, .int m_word, .int m_codeFault, .int m_fetched, .int m_issued, .int m_due, .int m_starts, .int m_exception, .int m_eea, .int m_register, .int m_value, .int m_flag, .int m_carry, .int m_overflow, .int m_sums, .long m_newSum, .int m_store, .int m_bytes, .int m_stored, .int m_next, .int m_goal, .int m_returns, .ref aMi, .ref aMd, .int m_lastWord, .int m_lastReadable, .int m_lastPc, .int m_lastFetched, .int m_lastStarts, .int m_lastApart, .int m_redirected, .int m_behind, .ref aMy, .int m_flagReady, .int m_carryReady, .int m_sumReady, .int m_divided, .int m_foreseen, .int m_expected, .int m_went]))] H := hP
  have hD : va_D A [(aM, .inr (11, [.int m_thrown, .ref aMm, .ref aMr, .int m_sets, .ref aMs, .ref aMw, .long m_sum, .int m_pc, .int 0, .int 0, .int m_target, .int m_retired, .ref aMc, .ref aMv, .int m_lines, .int m_cycles, .int m_events, .int m_exceptions, .int m_doubles, .int m_longest, .ref aMf, .int m_word, .int m_codeFault, .int m_fetched, .int m_issued, .int m_due, .int m_starts, .int m_exception, .int m_eea, .int m_register, .int m_value, .int m_flag, .int m_carry, .int m_overflow, .int m_sums, .long m_newSum, .int m_store, .int m_bytes, .int m_stored, .int m_next, .int m_goal, .int m_returns, .ref aMi, .ref aMd, .int m_lastWord, .int m_lastReadable, .int m_lastPc, .int m_lastFetched, .int m_lastStarts, .int m_lastApart, .int m_redirected, .int m_behind, .ref aMy, .int m_flagReady, .int m_carryReady, .int m_sumReady, .int m_divided, .int m_foreseen, .int m_expected, .int m_went]))] := hD
  refine lv_aload_n hx hb dX11_leave_10 rfl (lv_at hl 0 rfl) ?_
  refine lv_iconst (v := 0) hx hb dX11_leave_11 (by decide) ?_
  refine va_put (D := G) (ci := 11) (v := .int 0) (ty := .int) (C := RX11) (T := TX11) (N := 60) hx hb hts iwX11_leave_X11 tyX11 tyX11_ok nmX11 hown hK hP hD hS 0 rfl rfl 10 (by decide) (hts _ lkX11_leave_66) (fun _ h9 => h9) rfl (by decide +kernel) rfl rfl (Nat.le_of_ble_eq_true rfl) dX11_leave_12 (fun H locs hP hD hS => ?_)
  have hP : va_P G vwCl [(aM, .inr (11, [.int m_thrown, .ref aMm, .ref aMr, .int m_sets, .ref aMs, .ref aMw, .long m_sum, .int m_pc, .int 0, .int 0, .int 0, .int m_retired, .ref aMc, .ref aMv, .int m_lines, .int m_cycles, .int m_events, .int m_exceptions, .int m_doubles, .int m_longest, .ref aMf, .int m_word, .int m_codeFault, .int m_fetched, .int m_issued, .int m_due, .int m_starts, .int m_exception, .int m_eea, .int m_register, .int m_value, .int m_flag, .int m_carry, .int m_overflow, .int m_sums, .long m_newSum, .int m_store, .int m_bytes, .int m_stored, .int m_next, .int m_goal, .int m_returns, .ref aMi, .ref aMd, .int m_lastWord, .int m_lastReadable, .int m_lastPc, .int m_lastFetched, .int m_lastStarts, .int m_lastApart, .int m_redirected, .int m_behind, .ref aMy, .int m_flagReady, .int m_carryReady, .int m_sumReady, .int m_divided, .int m_foreseen, .int m_expected, .int m_went]))] H := hP
  have hD : va_D A [(aM, .inr (11, [.int m_thrown, .ref aMm, .ref aMr, .int m_sets, .ref aMs, .ref aMw, .long m_sum, .int m_pc, .int 0, .int 0, .int 0, .int m_retired, .ref aMc, .ref aMv, .int m_lines, .int m_cycles, .int m_events, .int m_exceptions, .int m_doubles, .int m_longest, .ref aMf, .int m_word, .int m_codeFault, .int m_fetched, .int m_issued, .int m_due, .int m_starts, .int m_exception, .int m_eea, .int m_register, .int m_value, .int m_flag, .int m_carry, .int m_overflow, .int m_sums, .long m_newSum, .int m_store, .int m_bytes, .int m_stored, .int m_next, .int m_goal, .int m_returns, .ref aMi, .ref aMd, .int m_lastWord, .int m_lastReadable, .int m_lastPc, .int m_lastFetched, .int m_lastStarts, .int m_lastApart, .int m_redirected, .int m_behind, .ref aMy, .int m_flagReady, .int m_carryReady, .int m_sumReady, .int m_divided, .int m_foreseen, .int m_expected, .int m_went]))] := hD
  exact hret H locs _ ls (0, 0, 0) dX11_leave_15 (by (first | exact rfl | (delta fX11_leave; exact rfl) | (unfold fX11_leave; dsimp only) | (unfold fX11_leave; simp only []))) trivial hP hD hS
def fX11_except (m_pc : Int32) (m_slot : Int32) (m_branch : Int32) (m_exception : Int32) (m_eea : Int32) (m_value : Int32) (ms : Nat → Int32) : Int32 × Int32 × Int32 × Int32 × (Nat → Int32) :=
  (let j1 : (Nat → Int32) := if m_eea ≤ 0 then (ms) else (upd ms 3 m_value); (let j2 : Int32 := if m_slot = 0 then (if m_exception = 12 then (m_pc + 4) else (m_pc)) else (m_branch); (let j3 : Int32 := if m_slot = 0 then (0) else (64); (let z4 := fX11_leave; (256 * m_exception, z4.1, z4.2.1, z4.2.2, upd (upd (upd j1 2 (j1 0)) 1 j2) 0 (((((upd (upd j1 2 (j1 0)) 1 j2) 0) &&& 416) ||| 1) ||| j3))))))
theorem lkX11_except_18 : Cond.fieldLink RX11 18 "TwinIssueModel" "specials" "[I" ∈ wsX11_except := by decide +kernel
theorem lkX11_except_56 : Cond.fieldLink RX11 56 "TwinIssueModel" "pc" "I" ∈ wsX11_except := by decide +kernel
theorem lkX11_except_59 : Cond.fieldLink RX11 59 "TwinIssueModel" "slot" "Z" ∈ wsX11_except := by decide +kernel
theorem lkX11_except_63 : Cond.fieldLink RX11 63 "TwinIssueModel" "branch" "I" ∈ wsX11_except := by decide +kernel
theorem lkX11_except_197 : Cond.fieldLink RX11 197 "TwinIssueModel" "exception" "I" ∈ wsX11_except := by decide +kernel
theorem lkX11_except_200 : Cond.fieldLink RX11 200 "TwinIssueModel" "eea" "I" ∈ wsX11_except := by decide +kernel
theorem lkX11_except_240 : Cond.fieldLink RX11 240 "TwinIssueModel" "value" "I" ∈ wsX11_except := by decide +kernel
theorem iwX11_except_X11 : ∀ w ∈ wsX110, w ∈ wsX11_except := fun _ h => List.mem_cons_of_mem _ (List.mem_append_right _ h)
set_option maxHeartbeats 4000000 in
set_option maxRecDepth 100000 in
theorem mX11_except (l : Launch) (G : va_G) (cI cB cP : ClassId) (aM aMm aMr aMs aMw aMc aMv aMf aMi aMd aMy : Nat) (m_thrown : Int32) (m_sets : Int32) (m_sum : Int64) (m_pc : Int32) (m_slot : Int32) (m_branch : Int32) (m_target : Int32) (m_retired : Int32) (m_lines : Int32) (m_cycles : Int32) (m_events : Int32) (m_exceptions : Int32) (m_doubles : Int32) (m_longest : Int32) (m_word : Int32) (m_codeFault : Int32) (m_fetched : Int32) (m_issued : Int32) (m_due : Int32) (m_starts : Int32) (m_exception : Int32) (m_eea : Int32) (m_register : Int32) (m_value : Int32) (m_flag : Int32) (m_carry : Int32) (m_overflow : Int32) (m_sums : Int32) (m_newSum : Int64) (m_store : Int32) (m_bytes : Int32) (m_stored : Int32) (m_next : Int32) (m_goal : Int32) (m_returns : Int32) (m_lastWord : Int32) (m_lastReadable : Int32) (m_lastPc : Int32) (m_lastFetched : Int32) (m_lastStarts : Int32) (m_lastApart : Int32) (m_redirected : Int32) (m_behind : Int32) (m_flagReady : Int32) (m_carryReady : Int32) (m_sumReady : Int32) (m_divided : Int32) (m_foreseen : Int32) (m_expected : Int32) (m_went : Int32) (ms : Nat → Int32) (sz : Nat) : kMv (S := Int32 × Int32 × Int32 × Int32 × (Nat → Int32)) l yX11_except wsX11_except ({ frames := 1, cells := 0, slots := 0, locals := 20 }) [.ref aM] G (kTY cI cB cP) sz [(aM, .inr (11, [.int m_thrown, .ref aMm, .ref aMr, .int m_sets, .ref aMs, .ref aMw, .long m_sum, .int m_pc, .int m_slot, .int m_branch, .int m_target, .int m_retired, .ref aMc, .ref aMv, .int m_lines, .int m_cycles, .int m_events, .int m_exceptions, .int m_doubles, .int m_longest, .ref aMf, .int m_word, .int m_codeFault, .int m_fetched, .int m_issued, .int m_due, .int m_starts, .int m_exception, .int m_eea, .int m_register, .int m_value, .int m_flag, .int m_carry, .int m_overflow, .int m_sums, .long m_newSum, .int m_store, .int m_bytes, .int m_stored, .int m_next, .int m_goal, .int m_returns, .ref aMi, .ref aMd, .int m_lastWord, .int m_lastReadable, .int m_lastPc, .int m_lastFetched, .int m_lastStarts, .int m_lastApart, .int m_redirected, .int m_behind, .ref aMy, .int m_flagReady, .int m_carryReady, .int m_sumReady, .int m_divided, .int m_foreseen, .int m_expected, .int m_went])), (aMs, .inl (cI, 10, .inl ms))] (fX11_except m_pc m_slot m_branch m_exception m_eea m_value ms) (fun _ => True) (fun u => [(aM, .inr (11, [.int m_thrown, .ref aMm, .ref aMr, .int m_sets, .ref aMs, .ref aMw, .long m_sum, .int u.1, .int u.2.1, .int u.2.2.1, .int u.2.2.2.1, .int m_retired, .ref aMc, .ref aMv, .int m_lines, .int m_cycles, .int m_events, .int m_exceptions, .int m_doubles, .int m_longest, .ref aMf, .int m_word, .int m_codeFault, .int m_fetched, .int m_issued, .int m_due, .int m_starts, .int m_exception, .int m_eea, .int m_register, .int m_value, .int m_flag, .int m_carry, .int m_overflow, .int m_sums, .long m_newSum, .int m_store, .int m_bytes, .int m_stored, .int m_next, .int m_goal, .int m_returns, .ref aMi, .ref aMd, .int m_lastWord, .int m_lastReadable, .int m_lastPc, .int m_lastFetched, .int m_lastStarts, .int m_lastApart, .int m_redirected, .int m_behind, .ref aMy, .int m_flagReady, .int m_carryReady, .int m_sumReady, .int m_divided, .int m_foreseen, .int m_expected, .int m_went])), (aMs, .inl (cI, 10, .inl u.2.2.2.2))]) := by
  refine k_ofv (cc := cX11_except) (maxL := 1) (by decide) rfl (Nat.le_of_ble_eq_true rfl) ?_
  intro p e s m args below meth c A ls Q H locs hx hb hml hown hts hin hK hP hD hA hS hl hret
  have hown : s.vm.findClass RX11 = some m.cls := hown
  have hl : lv_has ls 1 [(0, .ref aM)] := hl
  refine lv_aload_n hx hb dX11_except_0 rfl (lv_at hl 0 rfl) ?_
  refine va_get (D := G) (ci := 11) (v := .int m_eea) (C := RX11) (T := TX11) (N := 60) hx hb hts iwX11_except_X11 hown hK hP 0 rfl rfl 28 (by decide) (hts _ lkX11_except_200) (fun _ h9 => h9) rfl dX11_except_1 ?_
  have Kj1 : ∀ (j1 : (Nat → Int32)) (H : Heap) (locs : List Loc) (ls : Array Slot), j1 = (if m_eea ≤ 0 then (ms) else (upd ms 3 m_value)) → va_P G vwCl [(aM, .inr (11, [.int m_thrown, .ref aMm, .ref aMr, .int m_sets, .ref aMs, .ref aMw, .long m_sum, .int m_pc, .int m_slot, .int m_branch, .int m_target, .int m_retired, .ref aMc, .ref aMv, .int m_lines, .int m_cycles, .int m_events, .int m_exceptions, .int m_doubles, .int m_longest, .ref aMf, .int m_word, .int m_codeFault, .int m_fetched, .int m_issued, .int m_due, .int m_starts, .int m_exception, .int m_eea, .int m_register, .int m_value, .int m_flag, .int m_carry, .int m_overflow, .int m_sums, .long m_newSum, .int m_store, .int m_bytes, .int m_stored, .int m_next, .int m_goal, .int m_returns, .ref aMi, .ref aMd, .int m_lastWord, .int m_lastReadable, .int m_lastPc, .int m_lastFetched, .int m_lastStarts, .int m_lastApart, .int m_redirected, .int m_behind, .ref aMy, .int m_flagReady, .int m_carryReady, .int m_sumReady, .int m_divided, .int m_foreseen, .int m_expected, .int m_went])), (aMs, .inl (cI, 10, .inl j1))] H → va_D A [(aM, .inr (11, [.int m_thrown, .ref aMm, .ref aMr, .int m_sets, .ref aMs, .ref aMw, .long m_sum, .int m_pc, .int m_slot, .int m_branch, .int m_target, .int m_retired, .ref aMc, .ref aMv, .int m_lines, .int m_cycles, .int m_events, .int m_exceptions, .int m_doubles, .int m_longest, .ref aMf, .int m_word, .int m_codeFault, .int m_fetched, .int m_issued, .int m_due, .int m_starts, .int m_exception, .int m_eea, .int m_register, .int m_value, .int m_flag, .int m_carry, .int m_overflow, .int m_sums, .long m_newSum, .int m_store, .int m_bytes, .int m_stored, .int m_next, .int m_goal, .int m_returns, .ref aMi, .ref aMd, .int m_lastWord, .int m_lastReadable, .int m_lastPc, .int m_lastFetched, .int m_lastStarts, .int m_lastApart, .int m_redirected, .int m_behind, .ref aMy, .int m_flagReady, .int m_carryReady, .int m_sumReady, .int m_divided, .int m_foreseen, .int m_expected, .int m_went])), (aMs, .inl (cI, 10, .inl j1))] → va_S A s.heap H locs → lv_has ls 1 [(0, .ref aM)] → W p l e ({ frames := 1, cells := 0, slots := 0, locals := 20 }) s m args below meth c H locs 0 0 Q (F0 m 17 ls []) := by
    intro j1 H locs ls hj1 hP hD hS hl
    refine lv_aload_n hx hb dX11_except_17 rfl (lv_at hl 0 rfl) ?_
    refine va_get (D := G) (ci := 11) (v := .ref aMs) (C := RX11) (T := TX11) (N := 60) hx hb hts iwX11_except_X11 hown hK hP 0 rfl rfl 4 (by decide) (hts _ lkX11_except_18) (fun _ h9 => h9) rfl dX11_except_18 ?_
    refine lv_iconst (v := 2) hx hb dX11_except_21 (by decide) ?_
    refine lv_aload_n hx hb dX11_except_22 rfl (lv_at hl 0 rfl) ?_
    refine va_get (D := G) (ci := 11) (v := .ref aMs) (C := RX11) (T := TX11) (N := 60) hx hb hts iwX11_except_X11 hown hK hP 0 rfl rfl 4 (by decide) (hts _ lkX11_except_18) (fun _ h9 => h9) rfl dX11_except_23 ?_
    refine lv_iconst (v := 0) hx hb dX11_except_26 (by decide) ?_
    refine va_iald hx hb hK hP 1 0 rfl rfl (by unfold vp_in; decide) dX11_except_27 ?_
    refine k_top (y := j1 0) rfl ?_
    refine va_iast hx hb hK hP hD hS 1 0 rfl rfl (by unfold vp_in; decide) dX11_except_28 (fun H locs hP hD hS => ?_)
    have hP : va_P G vwCl [(aM, .inr (11, [.int m_thrown, .ref aMm, .ref aMr, .int m_sets, .ref aMs, .ref aMw, .long m_sum, .int m_pc, .int m_slot, .int m_branch, .int m_target, .int m_retired, .ref aMc, .ref aMv, .int m_lines, .int m_cycles, .int m_events, .int m_exceptions, .int m_doubles, .int m_longest, .ref aMf, .int m_word, .int m_codeFault, .int m_fetched, .int m_issued, .int m_due, .int m_starts, .int m_exception, .int m_eea, .int m_register, .int m_value, .int m_flag, .int m_carry, .int m_overflow, .int m_sums, .long m_newSum, .int m_store, .int m_bytes, .int m_stored, .int m_next, .int m_goal, .int m_returns, .ref aMi, .ref aMd, .int m_lastWord, .int m_lastReadable, .int m_lastPc, .int m_lastFetched, .int m_lastStarts, .int m_lastApart, .int m_redirected, .int m_behind, .ref aMy, .int m_flagReady, .int m_carryReady, .int m_sumReady, .int m_divided, .int m_foreseen, .int m_expected, .int m_went])), (aMs, .inl (cI, 10, .inl (upd j1 2 (j1 0))))] H := hP
    have hD : va_D A [(aM, .inr (11, [.int m_thrown, .ref aMm, .ref aMr, .int m_sets, .ref aMs, .ref aMw, .long m_sum, .int m_pc, .int m_slot, .int m_branch, .int m_target, .int m_retired, .ref aMc, .ref aMv, .int m_lines, .int m_cycles, .int m_events, .int m_exceptions, .int m_doubles, .int m_longest, .ref aMf, .int m_word, .int m_codeFault, .int m_fetched, .int m_issued, .int m_due, .int m_starts, .int m_exception, .int m_eea, .int m_register, .int m_value, .int m_flag, .int m_carry, .int m_overflow, .int m_sums, .long m_newSum, .int m_store, .int m_bytes, .int m_stored, .int m_next, .int m_goal, .int m_returns, .ref aMi, .ref aMd, .int m_lastWord, .int m_lastReadable, .int m_lastPc, .int m_lastFetched, .int m_lastStarts, .int m_lastApart, .int m_redirected, .int m_behind, .ref aMy, .int m_flagReady, .int m_carryReady, .int m_sumReady, .int m_divided, .int m_foreseen, .int m_expected, .int m_went])), (aMs, .inl (cI, 10, .inl (upd j1 2 (j1 0))))] := hD
    refine lv_aload_n hx hb dX11_except_29 rfl (lv_at hl 0 rfl) ?_
    refine va_get (D := G) (ci := 11) (v := .ref aMs) (C := RX11) (T := TX11) (N := 60) hx hb hts iwX11_except_X11 hown hK hP 0 rfl rfl 4 (by decide) (hts _ lkX11_except_18) (fun _ h9 => h9) rfl dX11_except_30 ?_
    refine lv_iconst (v := 1) hx hb dX11_except_33 (by decide) ?_
    refine lv_aload_n hx hb dX11_except_34 rfl (lv_at hl 0 rfl) ?_
    refine va_get (D := G) (ci := 11) (v := .int m_slot) (C := RX11) (T := TX11) (N := 60) hx hb hts iwX11_except_X11 hown hK hP 0 rfl rfl 8 (by decide) (hts _ lkX11_except_59) (fun _ h9 => h9) rfl dX11_except_35 ?_
    have Kj2 : ∀ (j2 : Int32) (H : Heap) (locs : List Loc) (ls : Array Slot), j2 = (if m_slot = 0 then (if m_exception = 12 then (m_pc + 4) else (m_pc)) else (m_branch)) → va_P G vwCl [(aM, .inr (11, [.int m_thrown, .ref aMm, .ref aMr, .int m_sets, .ref aMs, .ref aMw, .long m_sum, .int m_pc, .int m_slot, .int m_branch, .int m_target, .int m_retired, .ref aMc, .ref aMv, .int m_lines, .int m_cycles, .int m_events, .int m_exceptions, .int m_doubles, .int m_longest, .ref aMf, .int m_word, .int m_codeFault, .int m_fetched, .int m_issued, .int m_due, .int m_starts, .int m_exception, .int m_eea, .int m_register, .int m_value, .int m_flag, .int m_carry, .int m_overflow, .int m_sums, .long m_newSum, .int m_store, .int m_bytes, .int m_stored, .int m_next, .int m_goal, .int m_returns, .ref aMi, .ref aMd, .int m_lastWord, .int m_lastReadable, .int m_lastPc, .int m_lastFetched, .int m_lastStarts, .int m_lastApart, .int m_redirected, .int m_behind, .ref aMy, .int m_flagReady, .int m_carryReady, .int m_sumReady, .int m_divided, .int m_foreseen, .int m_expected, .int m_went])), (aMs, .inl (cI, 10, .inl (upd j1 2 (j1 0))))] H → va_D A [(aM, .inr (11, [.int m_thrown, .ref aMm, .ref aMr, .int m_sets, .ref aMs, .ref aMw, .long m_sum, .int m_pc, .int m_slot, .int m_branch, .int m_target, .int m_retired, .ref aMc, .ref aMv, .int m_lines, .int m_cycles, .int m_events, .int m_exceptions, .int m_doubles, .int m_longest, .ref aMf, .int m_word, .int m_codeFault, .int m_fetched, .int m_issued, .int m_due, .int m_starts, .int m_exception, .int m_eea, .int m_register, .int m_value, .int m_flag, .int m_carry, .int m_overflow, .int m_sums, .long m_newSum, .int m_store, .int m_bytes, .int m_stored, .int m_next, .int m_goal, .int m_returns, .ref aMi, .ref aMd, .int m_lastWord, .int m_lastReadable, .int m_lastPc, .int m_lastFetched, .int m_lastStarts, .int m_lastApart, .int m_redirected, .int m_behind, .ref aMy, .int m_flagReady, .int m_carryReady, .int m_sumReady, .int m_divided, .int m_foreseen, .int m_expected, .int m_went])), (aMs, .inl (cI, 10, .inl (upd j1 2 (j1 0))))] → va_S A s.heap H locs → lv_has ls 1 [(0, .ref aM)] → W p l e ({ frames := 1, cells := 0, slots := 0, locals := 20 }) s m args below meth c H locs 0 0 Q (F0 m 70 ls [.int j2, .int 1, .ref aMs]) := by
      intro j2 H locs ls hj2 hP hD hS hl
      refine va_iast hx hb hK hP hD hS 1 0 rfl rfl (by unfold vp_in; decide) dX11_except_70 (fun H locs hP hD hS => ?_)
      have hP : va_P G vwCl [(aM, .inr (11, [.int m_thrown, .ref aMm, .ref aMr, .int m_sets, .ref aMs, .ref aMw, .long m_sum, .int m_pc, .int m_slot, .int m_branch, .int m_target, .int m_retired, .ref aMc, .ref aMv, .int m_lines, .int m_cycles, .int m_events, .int m_exceptions, .int m_doubles, .int m_longest, .ref aMf, .int m_word, .int m_codeFault, .int m_fetched, .int m_issued, .int m_due, .int m_starts, .int m_exception, .int m_eea, .int m_register, .int m_value, .int m_flag, .int m_carry, .int m_overflow, .int m_sums, .long m_newSum, .int m_store, .int m_bytes, .int m_stored, .int m_next, .int m_goal, .int m_returns, .ref aMi, .ref aMd, .int m_lastWord, .int m_lastReadable, .int m_lastPc, .int m_lastFetched, .int m_lastStarts, .int m_lastApart, .int m_redirected, .int m_behind, .ref aMy, .int m_flagReady, .int m_carryReady, .int m_sumReady, .int m_divided, .int m_foreseen, .int m_expected, .int m_went])), (aMs, .inl (cI, 10, .inl (upd (upd j1 2 (j1 0)) 1 j2)))] H := hP
      have hD : va_D A [(aM, .inr (11, [.int m_thrown, .ref aMm, .ref aMr, .int m_sets, .ref aMs, .ref aMw, .long m_sum, .int m_pc, .int m_slot, .int m_branch, .int m_target, .int m_retired, .ref aMc, .ref aMv, .int m_lines, .int m_cycles, .int m_events, .int m_exceptions, .int m_doubles, .int m_longest, .ref aMf, .int m_word, .int m_codeFault, .int m_fetched, .int m_issued, .int m_due, .int m_starts, .int m_exception, .int m_eea, .int m_register, .int m_value, .int m_flag, .int m_carry, .int m_overflow, .int m_sums, .long m_newSum, .int m_store, .int m_bytes, .int m_stored, .int m_next, .int m_goal, .int m_returns, .ref aMi, .ref aMd, .int m_lastWord, .int m_lastReadable, .int m_lastPc, .int m_lastFetched, .int m_lastStarts, .int m_lastApart, .int m_redirected, .int m_behind, .ref aMy, .int m_flagReady, .int m_carryReady, .int m_sumReady, .int m_divided, .int m_foreseen, .int m_expected, .int m_went])), (aMs, .inl (cI, 10, .inl (upd (upd j1 2 (j1 0)) 1 j2)))] := hD
      refine lv_aload_n hx hb dX11_except_71 rfl (lv_at hl 0 rfl) ?_
      refine va_get (D := G) (ci := 11) (v := .ref aMs) (C := RX11) (T := TX11) (N := 60) hx hb hts iwX11_except_X11 hown hK hP 0 rfl rfl 4 (by decide) (hts _ lkX11_except_18) (fun _ h9 => h9) rfl dX11_except_72 ?_
      refine lv_iconst (v := 0) hx hb dX11_except_75 (by decide) ?_
      refine lv_aload_n hx hb dX11_except_76 rfl (lv_at hl 0 rfl) ?_
      refine va_get (D := G) (ci := 11) (v := .ref aMs) (C := RX11) (T := TX11) (N := 60) hx hb hts iwX11_except_X11 hown hK hP 0 rfl rfl 4 (by decide) (hts _ lkX11_except_18) (fun _ h9 => h9) rfl dX11_except_77 ?_
      refine lv_iconst (v := 0) hx hb dX11_except_80 (by decide) ?_
      refine va_iald hx hb hK hP 1 0 rfl rfl (by unfold vp_in; decide) dX11_except_81 ?_
      refine k_top (y := (upd (upd j1 2 (j1 0)) 1 j2) 0) rfl ?_
      refine lv_sipush (v := 416) hx hb dX11_except_82 (by decide) ?_
      refine lv_iand hx hb dX11_except_85 ?_
      refine lv_iconst (v := 1) hx hb dX11_except_86 (by decide) ?_
      refine lv_ior hx hb dX11_except_87 ?_
      refine lv_aload_n hx hb dX11_except_88 rfl (lv_at hl 0 rfl) ?_
      refine va_get (D := G) (ci := 11) (v := .int m_slot) (C := RX11) (T := TX11) (N := 60) hx hb hts iwX11_except_X11 hown hK hP 0 rfl rfl 8 (by decide) (hts _ lkX11_except_59) (fun _ h9 => h9) rfl dX11_except_89 ?_
      have Kj3 : ∀ (j3 : Int32) (H : Heap) (locs : List Loc) (ls : Array Slot), j3 = (if m_slot = 0 then (0) else (64)) → va_P G vwCl [(aM, .inr (11, [.int m_thrown, .ref aMm, .ref aMr, .int m_sets, .ref aMs, .ref aMw, .long m_sum, .int m_pc, .int m_slot, .int m_branch, .int m_target, .int m_retired, .ref aMc, .ref aMv, .int m_lines, .int m_cycles, .int m_events, .int m_exceptions, .int m_doubles, .int m_longest, .ref aMf, .int m_word, .int m_codeFault, .int m_fetched, .int m_issued, .int m_due, .int m_starts, .int m_exception, .int m_eea, .int m_register, .int m_value, .int m_flag, .int m_carry, .int m_overflow, .int m_sums, .long m_newSum, .int m_store, .int m_bytes, .int m_stored, .int m_next, .int m_goal, .int m_returns, .ref aMi, .ref aMd, .int m_lastWord, .int m_lastReadable, .int m_lastPc, .int m_lastFetched, .int m_lastStarts, .int m_lastApart, .int m_redirected, .int m_behind, .ref aMy, .int m_flagReady, .int m_carryReady, .int m_sumReady, .int m_divided, .int m_foreseen, .int m_expected, .int m_went])), (aMs, .inl (cI, 10, .inl (upd (upd j1 2 (j1 0)) 1 j2)))] H → va_D A [(aM, .inr (11, [.int m_thrown, .ref aMm, .ref aMr, .int m_sets, .ref aMs, .ref aMw, .long m_sum, .int m_pc, .int m_slot, .int m_branch, .int m_target, .int m_retired, .ref aMc, .ref aMv, .int m_lines, .int m_cycles, .int m_events, .int m_exceptions, .int m_doubles, .int m_longest, .ref aMf, .int m_word, .int m_codeFault, .int m_fetched, .int m_issued, .int m_due, .int m_starts, .int m_exception, .int m_eea, .int m_register, .int m_value, .int m_flag, .int m_carry, .int m_overflow, .int m_sums, .long m_newSum, .int m_store, .int m_bytes, .int m_stored, .int m_next, .int m_goal, .int m_returns, .ref aMi, .ref aMd, .int m_lastWord, .int m_lastReadable, .int m_lastPc, .int m_lastFetched, .int m_lastStarts, .int m_lastApart, .int m_redirected, .int m_behind, .ref aMy, .int m_flagReady, .int m_carryReady, .int m_sumReady, .int m_divided, .int m_foreseen, .int m_expected, .int m_went])), (aMs, .inl (cI, 10, .inl (upd (upd j1 2 (j1 0)) 1 j2)))] → va_S A s.heap H locs → lv_has ls 1 [(0, .ref aM)] → W p l e ({ frames := 1, cells := 0, slots := 0, locals := 20 }) s m args below meth c H locs 0 0 Q (F0 m 101 ls [.int j3, .int ((((upd (upd j1 2 (j1 0)) 1 j2) 0) &&& 416) ||| 1), .int 0, .ref aMs]) := by
        intro j3 H locs ls hj3 hP hD hS hl
        refine lv_ior hx hb dX11_except_101 ?_
        refine va_iast hx hb hK hP hD hS 1 0 rfl rfl (by unfold vp_in; decide) dX11_except_102 (fun H locs hP hD hS => ?_)
        have hP : va_P G vwCl [(aM, .inr (11, [.int m_thrown, .ref aMm, .ref aMr, .int m_sets, .ref aMs, .ref aMw, .long m_sum, .int m_pc, .int m_slot, .int m_branch, .int m_target, .int m_retired, .ref aMc, .ref aMv, .int m_lines, .int m_cycles, .int m_events, .int m_exceptions, .int m_doubles, .int m_longest, .ref aMf, .int m_word, .int m_codeFault, .int m_fetched, .int m_issued, .int m_due, .int m_starts, .int m_exception, .int m_eea, .int m_register, .int m_value, .int m_flag, .int m_carry, .int m_overflow, .int m_sums, .long m_newSum, .int m_store, .int m_bytes, .int m_stored, .int m_next, .int m_goal, .int m_returns, .ref aMi, .ref aMd, .int m_lastWord, .int m_lastReadable, .int m_lastPc, .int m_lastFetched, .int m_lastStarts, .int m_lastApart, .int m_redirected, .int m_behind, .ref aMy, .int m_flagReady, .int m_carryReady, .int m_sumReady, .int m_divided, .int m_foreseen, .int m_expected, .int m_went])), (aMs, .inl (cI, 10, .inl (upd (upd (upd j1 2 (j1 0)) 1 j2) 0 (((((upd (upd j1 2 (j1 0)) 1 j2) 0) &&& 416) ||| 1) ||| j3))))] H := hP
        have hD : va_D A [(aM, .inr (11, [.int m_thrown, .ref aMm, .ref aMr, .int m_sets, .ref aMs, .ref aMw, .long m_sum, .int m_pc, .int m_slot, .int m_branch, .int m_target, .int m_retired, .ref aMc, .ref aMv, .int m_lines, .int m_cycles, .int m_events, .int m_exceptions, .int m_doubles, .int m_longest, .ref aMf, .int m_word, .int m_codeFault, .int m_fetched, .int m_issued, .int m_due, .int m_starts, .int m_exception, .int m_eea, .int m_register, .int m_value, .int m_flag, .int m_carry, .int m_overflow, .int m_sums, .long m_newSum, .int m_store, .int m_bytes, .int m_stored, .int m_next, .int m_goal, .int m_returns, .ref aMi, .ref aMd, .int m_lastWord, .int m_lastReadable, .int m_lastPc, .int m_lastFetched, .int m_lastStarts, .int m_lastApart, .int m_redirected, .int m_behind, .ref aMy, .int m_flagReady, .int m_carryReady, .int m_sumReady, .int m_divided, .int m_foreseen, .int m_expected, .int m_went])), (aMs, .inl (cI, 10, .inl (upd (upd (upd j1 2 (j1 0)) 1 j2) 0 (((((upd (upd j1 2 (j1 0)) 1 j2) 0) &&& 416) ||| 1) ||| j3))))] := hD
        refine lv_aload_n hx hb dX11_except_103 rfl (lv_at hl 0 rfl) ?_
        refine lv_sipush (v := 256) hx hb dX11_except_104 (by decide) ?_
        refine lv_aload_n hx hb dX11_except_107 rfl (lv_at hl 0 rfl) ?_
        refine va_get (D := G) (ci := 11) (v := .int m_exception) (C := RX11) (T := TX11) (N := 60) hx hb hts iwX11_except_X11 hown hK hP 0 rfl rfl 27 (by decide) (hts _ lkX11_except_197) (fun _ h9 => h9) rfl dX11_except_108 ?_
        refine lv_imul hx hb dX11_except_111 ?_
        refine va_put (D := G) (ci := 11) (v := .int (256 * m_exception)) (ty := .int) (C := RX11) (T := TX11) (N := 60) hx hb hts iwX11_except_X11 tyX11 tyX11_ok nmX11 hown hK hP hD hS 0 rfl rfl 7 (by decide) (hts _ lkX11_except_56) (fun _ h9 => h9) rfl (by decide +kernel) rfl rfl (Nat.le_of_ble_eq_true rfl) dX11_except_112 (fun H locs hP hD hS => ?_)
        have hP : va_P G vwCl [(aM, .inr (11, [.int m_thrown, .ref aMm, .ref aMr, .int m_sets, .ref aMs, .ref aMw, .long m_sum, .int (256 * m_exception), .int m_slot, .int m_branch, .int m_target, .int m_retired, .ref aMc, .ref aMv, .int m_lines, .int m_cycles, .int m_events, .int m_exceptions, .int m_doubles, .int m_longest, .ref aMf, .int m_word, .int m_codeFault, .int m_fetched, .int m_issued, .int m_due, .int m_starts, .int m_exception, .int m_eea, .int m_register, .int m_value, .int m_flag, .int m_carry, .int m_overflow, .int m_sums, .long m_newSum, .int m_store, .int m_bytes, .int m_stored, .int m_next, .int m_goal, .int m_returns, .ref aMi, .ref aMd, .int m_lastWord, .int m_lastReadable, .int m_lastPc, .int m_lastFetched, .int m_lastStarts, .int m_lastApart, .int m_redirected, .int m_behind, .ref aMy, .int m_flagReady, .int m_carryReady, .int m_sumReady, .int m_divided, .int m_foreseen, .int m_expected, .int m_went])), (aMs, .inl (cI, 10, .inl (upd (upd (upd j1 2 (j1 0)) 1 j2) 0 (((((upd (upd j1 2 (j1 0)) 1 j2) 0) &&& 416) ||| 1) ||| j3))))] H := hP
        have hD : va_D A [(aM, .inr (11, [.int m_thrown, .ref aMm, .ref aMr, .int m_sets, .ref aMs, .ref aMw, .long m_sum, .int (256 * m_exception), .int m_slot, .int m_branch, .int m_target, .int m_retired, .ref aMc, .ref aMv, .int m_lines, .int m_cycles, .int m_events, .int m_exceptions, .int m_doubles, .int m_longest, .ref aMf, .int m_word, .int m_codeFault, .int m_fetched, .int m_issued, .int m_due, .int m_starts, .int m_exception, .int m_eea, .int m_register, .int m_value, .int m_flag, .int m_carry, .int m_overflow, .int m_sums, .long m_newSum, .int m_store, .int m_bytes, .int m_stored, .int m_next, .int m_goal, .int m_returns, .ref aMi, .ref aMd, .int m_lastWord, .int m_lastReadable, .int m_lastPc, .int m_lastFetched, .int m_lastStarts, .int m_lastApart, .int m_redirected, .int m_behind, .ref aMy, .int m_flagReady, .int m_carryReady, .int m_sumReady, .int m_divided, .int m_foreseen, .int m_expected, .int m_went])), (aMs, .inl (cI, 10, .inl (upd (upd (upd j1 2 (j1 0)) 1 j2) 0 (((((upd (upd j1 2 (j1 0)) 1 j2) 0) &&& 416) ||| 1) ||| j3))))] := hD
        refine lv_aload_n hx hb dX11_except_115 rfl (lv_at hl 0 rfl) ?_
        refine k_vV (As := []) (rest := []) (wc := [(aM, .inr (11, [.int m_thrown, .ref aMm, .ref aMr, .int m_sets, .ref aMs, .ref aMw, .long m_sum, .int (256 * m_exception), .int m_slot, .int m_branch, .int m_target, .int m_retired, .ref aMc, .ref aMv, .int m_lines, .int m_cycles, .int m_events, .int m_exceptions, .int m_doubles, .int m_longest, .ref aMf, .int m_word, .int m_codeFault, .int m_fetched, .int m_issued, .int m_due, .int m_starts, .int m_exception, .int m_eea, .int m_register, .int m_value, .int m_flag, .int m_carry, .int m_overflow, .int m_sums, .long m_newSum, .int m_store, .int m_bytes, .int m_stored, .int m_next, .int m_goal, .int m_returns, .ref aMi, .ref aMd, .int m_lastWord, .int m_lastReadable, .int m_lastPc, .int m_lastFetched, .int m_lastStarts, .int m_lastApart, .int m_redirected, .int m_behind, .ref aMy, .int m_flagReady, .int m_carryReady, .int m_sumReady, .int m_divided, .int m_foreseen, .int m_expected, .int m_went]))]) (wr := [(aMs, .inl (cI, 10, .inl (upd (upd (upd j1 2 (j1 0)) 1 j2) 0 (((((upd (upd j1 2 (j1 0)) 1 j2) 0) &&& 416) ||| 1) ||| j3))))]) ⟨hx, hb, hml, hown, hts⟩ hK hP hD hS hA [0] [1] rfl rfl rfl rfl (by decide) (mX11_leave l G cI cB cP aM aMm aMr aMs aMw aMc aMv aMf aMi aMd aMy m_thrown m_sets m_sum (256 * m_exception) m_slot m_branch m_target m_retired m_lines m_cycles m_events m_exceptions m_doubles m_longest m_word m_codeFault m_fetched m_issued m_due m_starts m_exception m_eea m_register m_value m_flag m_carry m_overflow m_sums m_newSum m_store m_bytes m_stored m_next m_goal m_returns m_lastWord m_lastReadable m_lastPc m_lastFetched m_lastStarts m_lastApart m_redirected m_behind m_flagReady m_carryReady m_sumReady m_divided m_foreseen m_expected m_went H.size  ) (cwV 0 hts gX11_except_X11_leave rfl rfl rfl (by decide +kernel) ⟨Nat.le_of_ble_eq_true rfl, Nat.le_of_ble_eq_true rfl⟩) 0 11 rfl rfl rfl rfl hl.1 rfl (Nat.le_of_ble_eq_true rfl) dX11_except_116 ⟨Nat.le_of_ble_eq_true rfl, Nat.le_of_ble_eq_true rfl⟩ (fun z4 H locs hz4 hEz4 hP hD hS => ?_)
        have hP : va_P G vwCl [(aMs, .inl (cI, 10, .inl (upd (upd (upd j1 2 (j1 0)) 1 j2) 0 (((((upd (upd j1 2 (j1 0)) 1 j2) 0) &&& 416) ||| 1) ||| j3)))), (aM, .inr (11, [.int m_thrown, .ref aMm, .ref aMr, .int m_sets, .ref aMs, .ref aMw, .long m_sum, .int (256 * m_exception), .int z4.1, .int z4.2.1, .int z4.2.2, .int m_retired, .ref aMc, .ref aMv, .int m_lines, .int m_cycles, .int m_events, .int m_exceptions, .int m_doubles, .int m_longest, .ref aMf, .int m_word, .int m_codeFault, .int m_fetched, .int m_issued, .int m_due, .int m_starts, .int m_exception, .int m_eea, .int m_register, .int m_value, .int m_flag, .int m_carry, .int m_overflow, .int m_sums, .long m_newSum, .int m_store, .int m_bytes, .int m_stored, .int m_next, .int m_goal, .int m_returns, .ref aMi, .ref aMd, .int m_lastWord, .int m_lastReadable, .int m_lastPc, .int m_lastFetched, .int m_lastStarts, .int m_lastApart, .int m_redirected, .int m_behind, .ref aMy, .int m_flagReady, .int m_carryReady, .int m_sumReady, .int m_divided, .int m_foreseen, .int m_expected, .int m_went]))] H := hP
        have hD : va_D A [(aMs, .inl (cI, 10, .inl (upd (upd (upd j1 2 (j1 0)) 1 j2) 0 (((((upd (upd j1 2 (j1 0)) 1 j2) 0) &&& 416) ||| 1) ||| j3)))), (aM, .inr (11, [.int m_thrown, .ref aMm, .ref aMr, .int m_sets, .ref aMs, .ref aMw, .long m_sum, .int (256 * m_exception), .int z4.1, .int z4.2.1, .int z4.2.2, .int m_retired, .ref aMc, .ref aMv, .int m_lines, .int m_cycles, .int m_events, .int m_exceptions, .int m_doubles, .int m_longest, .ref aMf, .int m_word, .int m_codeFault, .int m_fetched, .int m_issued, .int m_due, .int m_starts, .int m_exception, .int m_eea, .int m_register, .int m_value, .int m_flag, .int m_carry, .int m_overflow, .int m_sums, .long m_newSum, .int m_store, .int m_bytes, .int m_stored, .int m_next, .int m_goal, .int m_returns, .ref aMi, .ref aMd, .int m_lastWord, .int m_lastReadable, .int m_lastPc, .int m_lastFetched, .int m_lastStarts, .int m_lastApart, .int m_redirected, .int m_behind, .ref aMy, .int m_flagReady, .int m_carryReady, .int m_sumReady, .int m_divided, .int m_foreseen, .int m_expected, .int m_went]))] := hD
        have hP := hP.sub (ws' := [(aM, .inr (11, [.int m_thrown, .ref aMm, .ref aMr, .int m_sets, .ref aMs, .ref aMw, .long m_sum, .int (256 * m_exception), .int z4.1, .int z4.2.1, .int z4.2.2, .int m_retired, .ref aMc, .ref aMv, .int m_lines, .int m_cycles, .int m_events, .int m_exceptions, .int m_doubles, .int m_longest, .ref aMf, .int m_word, .int m_codeFault, .int m_fetched, .int m_issued, .int m_due, .int m_starts, .int m_exception, .int m_eea, .int m_register, .int m_value, .int m_flag, .int m_carry, .int m_overflow, .int m_sums, .long m_newSum, .int m_store, .int m_bytes, .int m_stored, .int m_next, .int m_goal, .int m_returns, .ref aMi, .ref aMd, .int m_lastWord, .int m_lastReadable, .int m_lastPc, .int m_lastFetched, .int m_lastStarts, .int m_lastApart, .int m_redirected, .int m_behind, .ref aMy, .int m_flagReady, .int m_carryReady, .int m_sumReady, .int m_divided, .int m_foreseen, .int m_expected, .int m_went])), (aMs, .inl (cI, 10, .inl (upd (upd (upd j1 2 (j1 0)) 1 j2) 0 (((((upd (upd j1 2 (j1 0)) 1 j2) 0) &&& 416) ||| 1) ||| j3))))]) [1, 0] rfl
        have hD := hD.sub (ws' := [(aM, .inr (11, [.int m_thrown, .ref aMm, .ref aMr, .int m_sets, .ref aMs, .ref aMw, .long m_sum, .int (256 * m_exception), .int z4.1, .int z4.2.1, .int z4.2.2, .int m_retired, .ref aMc, .ref aMv, .int m_lines, .int m_cycles, .int m_events, .int m_exceptions, .int m_doubles, .int m_longest, .ref aMf, .int m_word, .int m_codeFault, .int m_fetched, .int m_issued, .int m_due, .int m_starts, .int m_exception, .int m_eea, .int m_register, .int m_value, .int m_flag, .int m_carry, .int m_overflow, .int m_sums, .long m_newSum, .int m_store, .int m_bytes, .int m_stored, .int m_next, .int m_goal, .int m_returns, .ref aMi, .ref aMd, .int m_lastWord, .int m_lastReadable, .int m_lastPc, .int m_lastFetched, .int m_lastStarts, .int m_lastApart, .int m_redirected, .int m_behind, .ref aMy, .int m_flagReady, .int m_carryReady, .int m_sumReady, .int m_divided, .int m_foreseen, .int m_expected, .int m_went])), (aMs, .inl (cI, 10, .inl (upd (upd (upd j1 2 (j1 0)) 1 j2) 0 (((((upd (upd j1 2 (j1 0)) 1 j2) 0) &&& 416) ||| 1) ||| j3))))]) [1, 0] (by decide) rfl
        exact hret H locs _ ls (256 * m_exception, z4.1, z4.2.1, z4.2.2, upd (upd (upd j1 2 (j1 0)) 1 j2) 0 (((((upd (upd j1 2 (j1 0)) 1 j2) 0) &&& 416) ||| 1) ||| j3)) dX11_except_119 (by clear hP hD hS hl; replace hz4 := hz4.symm; subst hz4; replace hj3 := hj3.symm; subst hj3; replace hj2 := hj2.symm; subst hj2; replace hj1 := hj1.symm; subst hj1; (first | exact rfl | (delta fX11_except; exact rfl) | (unfold fX11_except; dsimp only) | (unfold fX11_except; simp only []))) trivial hP hD hS
      refine lv_if_eq (tgt := 100) hx hb dX11_except_92 (by decide) (fun c9 => ?_) (fun c9 => ?_)
      · skip
        refine lv_iconst (v := 0) hx hb dX11_except_100 (by decide) ?_
        exact Kj3 0 H locs ls ((if_pos c9).trans (rfl)).symm  hP hD hS (lv_sub hl [0] rfl)
      · skip
        refine lv_bipush (v := 64) hx hb dX11_except_95 (by decide) ?_
        refine lv_goto (tgt := 101) hx hb dX11_except_97 (by decide) ?_
        exact Kj3 64 H locs ls ((if_neg c9).trans (rfl)).symm  hP hD hS (lv_sub hl [0] rfl)
    refine lv_if_eq (tgt := 48) hx hb dX11_except_38 (by decide) (fun c10 => ?_) (fun c10 => ?_)
    · skip
      refine lv_aload_n hx hb dX11_except_48 rfl (lv_at hl 0 rfl) ?_
      refine va_get (D := G) (ci := 11) (v := .int m_exception) (C := RX11) (T := TX11) (N := 60) hx hb hts iwX11_except_X11 hown hK hP 0 rfl rfl 27 (by decide) (hts _ lkX11_except_197) (fun _ h9 => h9) rfl dX11_except_49 ?_
      refine lv_bipush (v := 12) hx hb dX11_except_52 (by decide) ?_
      refine lv_icmp_ne (tgt := 66) hx hb dX11_except_54 (by decide) (fun c11 => ?_) (fun c11 => ?_)
      · skip
        refine lv_aload_n hx hb dX11_except_66 rfl (lv_at hl 0 rfl) ?_
        refine va_get (D := G) (ci := 11) (v := .int m_pc) (C := RX11) (T := TX11) (N := 60) hx hb hts iwX11_except_X11 hown hK hP 0 rfl rfl 7 (by decide) (hts _ lkX11_except_56) (fun _ h9 => h9) rfl dX11_except_67 ?_
        exact Kj2 m_pc H locs ls ((if_pos c10).trans ((if_neg c11).trans (rfl))).symm  hP hD hS (lv_sub hl [0] rfl)
      · skip
        refine lv_aload_n hx hb dX11_except_57 rfl (lv_at hl 0 rfl) ?_
        refine va_get (D := G) (ci := 11) (v := .int m_pc) (C := RX11) (T := TX11) (N := 60) hx hb hts iwX11_except_X11 hown hK hP 0 rfl rfl 7 (by decide) (hts _ lkX11_except_56) (fun _ h9 => h9) rfl dX11_except_58 ?_
        refine lv_iconst (v := 4) hx hb dX11_except_61 (by decide) ?_
        refine lv_iadd hx hb dX11_except_62 ?_
        refine lv_goto (tgt := 70) hx hb dX11_except_63 (by decide) ?_
        exact Kj2 (m_pc + 4) H locs ls ((if_pos c10).trans ((if_pos c11).trans (rfl))).symm  hP hD hS (lv_sub hl [0] rfl)
    · skip
      refine lv_aload_n hx hb dX11_except_41 rfl (lv_at hl 0 rfl) ?_
      refine va_get (D := G) (ci := 11) (v := .int m_branch) (C := RX11) (T := TX11) (N := 60) hx hb hts iwX11_except_X11 hown hK hP 0 rfl rfl 9 (by decide) (hts _ lkX11_except_63) (fun _ h9 => h9) rfl dX11_except_42 ?_
      refine lv_goto (tgt := 70) hx hb dX11_except_45 (by decide) ?_
      exact Kj2 m_branch H locs ls ((if_neg c10).trans (rfl)).symm  hP hD hS (lv_sub hl [0] rfl)
  refine lv_if_le (tgt := 17) hx hb dX11_except_4 (by decide) (fun c12 => ?_) (fun c12 => ?_)
  · skip
    exact Kj1 ms H locs ls ((if_pos c12).trans (rfl)).symm  hP hD hS (lv_sub hl [0] rfl)
  · skip
    refine lv_aload_n hx hb dX11_except_7 rfl (lv_at hl 0 rfl) ?_
    refine va_get (D := G) (ci := 11) (v := .ref aMs) (C := RX11) (T := TX11) (N := 60) hx hb hts iwX11_except_X11 hown hK hP 0 rfl rfl 4 (by decide) (hts _ lkX11_except_18) (fun _ h9 => h9) rfl dX11_except_8 ?_
    refine lv_iconst (v := 3) hx hb dX11_except_11 (by decide) ?_
    refine lv_aload_n hx hb dX11_except_12 rfl (lv_at hl 0 rfl) ?_
    refine va_get (D := G) (ci := 11) (v := .int m_value) (C := RX11) (T := TX11) (N := 60) hx hb hts iwX11_except_X11 hown hK hP 0 rfl rfl 30 (by decide) (hts _ lkX11_except_240) (fun _ h9 => h9) rfl dX11_except_13 ?_
    refine va_iast hx hb hK hP hD hS 1 0 rfl rfl (by unfold vp_in; decide) dX11_except_16 (fun H locs hP hD hS => ?_)
    have hP : va_P G vwCl [(aM, .inr (11, [.int m_thrown, .ref aMm, .ref aMr, .int m_sets, .ref aMs, .ref aMw, .long m_sum, .int m_pc, .int m_slot, .int m_branch, .int m_target, .int m_retired, .ref aMc, .ref aMv, .int m_lines, .int m_cycles, .int m_events, .int m_exceptions, .int m_doubles, .int m_longest, .ref aMf, .int m_word, .int m_codeFault, .int m_fetched, .int m_issued, .int m_due, .int m_starts, .int m_exception, .int m_eea, .int m_register, .int m_value, .int m_flag, .int m_carry, .int m_overflow, .int m_sums, .long m_newSum, .int m_store, .int m_bytes, .int m_stored, .int m_next, .int m_goal, .int m_returns, .ref aMi, .ref aMd, .int m_lastWord, .int m_lastReadable, .int m_lastPc, .int m_lastFetched, .int m_lastStarts, .int m_lastApart, .int m_redirected, .int m_behind, .ref aMy, .int m_flagReady, .int m_carryReady, .int m_sumReady, .int m_divided, .int m_foreseen, .int m_expected, .int m_went])), (aMs, .inl (cI, 10, .inl (upd ms 3 m_value)))] H := hP
    have hD : va_D A [(aM, .inr (11, [.int m_thrown, .ref aMm, .ref aMr, .int m_sets, .ref aMs, .ref aMw, .long m_sum, .int m_pc, .int m_slot, .int m_branch, .int m_target, .int m_retired, .ref aMc, .ref aMv, .int m_lines, .int m_cycles, .int m_events, .int m_exceptions, .int m_doubles, .int m_longest, .ref aMf, .int m_word, .int m_codeFault, .int m_fetched, .int m_issued, .int m_due, .int m_starts, .int m_exception, .int m_eea, .int m_register, .int m_value, .int m_flag, .int m_carry, .int m_overflow, .int m_sums, .long m_newSum, .int m_store, .int m_bytes, .int m_stored, .int m_next, .int m_goal, .int m_returns, .ref aMi, .ref aMd, .int m_lastWord, .int m_lastReadable, .int m_lastPc, .int m_lastFetched, .int m_lastStarts, .int m_lastApart, .int m_redirected, .int m_behind, .ref aMy, .int m_flagReady, .int m_carryReady, .int m_sumReady, .int m_divided, .int m_foreseen, .int m_expected, .int m_went])), (aMs, .inl (cI, 10, .inl (upd ms 3 m_value)))] := hD
    exact Kj1 (upd ms 3 m_value) H locs ls ((if_neg c12).trans (rfl)).symm  hP hD hS (lv_sub hl [0] rfl)
def gX11_put_3 (p0 : Int32) (p1 : Int32) (p2 : Int32) : Nat → (Int32 × (Nat → Int32)) → (Nat → Int32)
  | 0, _ => default
  | n + 1, w1 => if p2 ≤ w1.1 then (w1.2) else (gX11_put_3 p0 p1 p2 n (w1.1 + 1, upd w1.2 (p0 + w1.1).toNatClampNeg (vp_nar .byte ((p1 >>> ((8 * ((p2 - 1) - w1.1)) &&& 31)).toInt8.toInt32))))
def sgX11_put_3 (p0 : Int32) (p1 : Int32) (p2 : Int32) : Nat → (Int32 × (Nat → Int32)) → Prop
  | 0, _ => False
  | n + 1, w1 => (p2 ≤ w1.1 → True) ∧ (¬ (p2 ≤ w1.1) → ((vp_in (p0 + w1.1) 65536) ∧ (sgX11_put_3 p0 p1 p2 n (w1.1 + 1, upd w1.2 (p0 + w1.1).toNatClampNeg (vp_nar .byte ((p1 >>> ((8 * ((p2 - 1) - w1.1)) &&& 31)).toInt8.toInt32))))))
def fX11_put (mm : Nat → Int32) (p0 : Int32) (p1 : Int32) (p2 : Int32) : (Nat → Int32) :=
  gX11_put_3 p0 p1 p2 (5) (0, mm)
theorem lkX11_put_8 : Cond.fieldLink RX11 8 "TwinIssueModel" "memory" "[B" ∈ wsX11_put := by decide +kernel
theorem iwX11_put_X11 : ∀ w ∈ wsX110, w ∈ wsX11_put := fun _ h => List.mem_cons_of_mem _ (List.mem_append_right _ h)
def sX11_put (mm : Nat → Int32) (p0 : Int32) (p1 : Int32) (p2 : Int32) : Prop :=
  sgX11_put_3 p0 p1 p2 (5) (0, mm)
set_option maxHeartbeats 4000000 in
set_option maxRecDepth 100000 in
theorem mX11_put (l : Launch) (G : va_G) (cI cB cP : ClassId) (aM aMm aMr aMs aMw aMc aMv aMf aMi aMd aMy : Nat) (m_thrown : Int32) (m_sets : Int32) (m_sum : Int64) (m_pc : Int32) (m_slot : Int32) (m_branch : Int32) (m_target : Int32) (m_retired : Int32) (m_lines : Int32) (m_cycles : Int32) (m_events : Int32) (m_exceptions : Int32) (m_doubles : Int32) (m_longest : Int32) (m_word : Int32) (m_codeFault : Int32) (m_fetched : Int32) (m_issued : Int32) (m_due : Int32) (m_starts : Int32) (m_exception : Int32) (m_eea : Int32) (m_register : Int32) (m_value : Int32) (m_flag : Int32) (m_carry : Int32) (m_overflow : Int32) (m_sums : Int32) (m_newSum : Int64) (m_store : Int32) (m_bytes : Int32) (m_stored : Int32) (m_next : Int32) (m_goal : Int32) (m_returns : Int32) (m_lastWord : Int32) (m_lastReadable : Int32) (m_lastPc : Int32) (m_lastFetched : Int32) (m_lastStarts : Int32) (m_lastApart : Int32) (m_redirected : Int32) (m_behind : Int32) (m_flagReady : Int32) (m_carryReady : Int32) (m_sumReady : Int32) (m_divided : Int32) (m_foreseen : Int32) (m_expected : Int32) (m_went : Int32) (mm : Nat → Int32) (sz : Nat) (p0 : Int32) (p1 : Int32) (p2 : Int32) (hs : sX11_put mm p0 p1 p2) : kMv (S := (Nat → Int32)) l yX11_put wsX11_put ({ frames := 0, cells := 0, slots := 0, locals := 0 }) [.ref aM, .int p0, .int p1, .int p2] G (kTY cI cB cP) sz [(aM, .inr (11, [.int m_thrown, .ref aMm, .ref aMr, .int m_sets, .ref aMs, .ref aMw, .long m_sum, .int m_pc, .int m_slot, .int m_branch, .int m_target, .int m_retired, .ref aMc, .ref aMv, .int m_lines, .int m_cycles, .int m_events, .int m_exceptions, .int m_doubles, .int m_longest, .ref aMf, .int m_word, .int m_codeFault, .int m_fetched, .int m_issued, .int m_due, .int m_starts, .int m_exception, .int m_eea, .int m_register, .int m_value, .int m_flag, .int m_carry, .int m_overflow, .int m_sums, .long m_newSum, .int m_store, .int m_bytes, .int m_stored, .int m_next, .int m_goal, .int m_returns, .ref aMi, .ref aMd, .int m_lastWord, .int m_lastReadable, .int m_lastPc, .int m_lastFetched, .int m_lastStarts, .int m_lastApart, .int m_redirected, .int m_behind, .ref aMy, .int m_flagReady, .int m_carryReady, .int m_sumReady, .int m_divided, .int m_foreseen, .int m_expected, .int m_went])), (aMm, .inl (cB, 65536, .inl mm))] (fX11_put mm p0 p1 p2) (fun _ => True) (fun u => [(aM, .inr (11, [.int m_thrown, .ref aMm, .ref aMr, .int m_sets, .ref aMs, .ref aMw, .long m_sum, .int m_pc, .int m_slot, .int m_branch, .int m_target, .int m_retired, .ref aMc, .ref aMv, .int m_lines, .int m_cycles, .int m_events, .int m_exceptions, .int m_doubles, .int m_longest, .ref aMf, .int m_word, .int m_codeFault, .int m_fetched, .int m_issued, .int m_due, .int m_starts, .int m_exception, .int m_eea, .int m_register, .int m_value, .int m_flag, .int m_carry, .int m_overflow, .int m_sums, .long m_newSum, .int m_store, .int m_bytes, .int m_stored, .int m_next, .int m_goal, .int m_returns, .ref aMi, .ref aMd, .int m_lastWord, .int m_lastReadable, .int m_lastPc, .int m_lastFetched, .int m_lastStarts, .int m_lastApart, .int m_redirected, .int m_behind, .ref aMy, .int m_flagReady, .int m_carryReady, .int m_sumReady, .int m_divided, .int m_foreseen, .int m_expected, .int m_went])), (aMm, .inl (cB, 65536, .inl u))]) := by
  refine k_ofv (cc := cX11_put) (maxL := 5) (by decide) rfl (Nat.le_of_ble_eq_true rfl) ?_
  intro p e s m args below meth c A ls Q H locs hx hb hml hown hts hin hK hP hD hA hS hl hret
  have hown : s.vm.findClass RX11 = some m.cls := hown
  have hl : lv_has ls 5 [(0, .ref aM), (1, .int p0), (2, .int p1), (3, .int p2)] := hl
  unfold sX11_put at hs
  refine lv_iconst (v := 0) hx hb dX11_put_0 (by decide) ?_
  refine lv_istore (lv' := [(4, .int 0), (0, .ref aM), (1, .int p0), (2, .int p1), (3, .int p2)]) hx hb dX11_put_1 hl (by decide) rfl (fun ls hl => ?_)
  have KL3 : ∀ (n : Nat) (w1 : Int32 × (Nat → Int32)) (H : Heap) (locs : List Loc) (ls : Array Slot), fX11_put mm p0 p1 p2 = gX11_put_3 p0 p1 p2 n w1 → sgX11_put_3 p0 p1 p2 n w1 → va_P G vwCl [(aM, .inr (11, [.int m_thrown, .ref aMm, .ref aMr, .int m_sets, .ref aMs, .ref aMw, .long m_sum, .int m_pc, .int m_slot, .int m_branch, .int m_target, .int m_retired, .ref aMc, .ref aMv, .int m_lines, .int m_cycles, .int m_events, .int m_exceptions, .int m_doubles, .int m_longest, .ref aMf, .int m_word, .int m_codeFault, .int m_fetched, .int m_issued, .int m_due, .int m_starts, .int m_exception, .int m_eea, .int m_register, .int m_value, .int m_flag, .int m_carry, .int m_overflow, .int m_sums, .long m_newSum, .int m_store, .int m_bytes, .int m_stored, .int m_next, .int m_goal, .int m_returns, .ref aMi, .ref aMd, .int m_lastWord, .int m_lastReadable, .int m_lastPc, .int m_lastFetched, .int m_lastStarts, .int m_lastApart, .int m_redirected, .int m_behind, .ref aMy, .int m_flagReady, .int m_carryReady, .int m_sumReady, .int m_divided, .int m_foreseen, .int m_expected, .int m_went])), (aMm, .inl (cB, 65536, .inl w1.2))] H → va_D A [(aM, .inr (11, [.int m_thrown, .ref aMm, .ref aMr, .int m_sets, .ref aMs, .ref aMw, .long m_sum, .int m_pc, .int m_slot, .int m_branch, .int m_target, .int m_retired, .ref aMc, .ref aMv, .int m_lines, .int m_cycles, .int m_events, .int m_exceptions, .int m_doubles, .int m_longest, .ref aMf, .int m_word, .int m_codeFault, .int m_fetched, .int m_issued, .int m_due, .int m_starts, .int m_exception, .int m_eea, .int m_register, .int m_value, .int m_flag, .int m_carry, .int m_overflow, .int m_sums, .long m_newSum, .int m_store, .int m_bytes, .int m_stored, .int m_next, .int m_goal, .int m_returns, .ref aMi, .ref aMd, .int m_lastWord, .int m_lastReadable, .int m_lastPc, .int m_lastFetched, .int m_lastStarts, .int m_lastApart, .int m_redirected, .int m_behind, .ref aMy, .int m_flagReady, .int m_carryReady, .int m_sumReady, .int m_divided, .int m_foreseen, .int m_expected, .int m_went])), (aMm, .inl (cB, 65536, .inl w1.2))] → va_S A s.heap H locs → lv_has ls 5 [(4, .int w1.1), (0, .ref aM), (1, .int p0), (2, .int p1), (3, .int p2)] → W p l e ({ frames := 0, cells := 0, slots := 0, locals := 0 }) s m args below meth c H locs 0 0 Q (F0 m 3 ls []) := by
    intro n
    induction n with
    | zero => intro w1 H locs ls hF hs; exact False.elim hs
    | succ n ih =>
      intro w1 H locs ls hF hs hP hD hS hl
      have hs : (p2 ≤ w1.1 → True) ∧ (¬ (p2 ≤ w1.1) → ((vp_in (p0 + w1.1) 65536) ∧ (sgX11_put_3 p0 p1 p2 n (w1.1 + 1, upd w1.2 (p0 + w1.1).toNatClampNeg (vp_nar .byte ((p1 >>> ((8 * ((p2 - 1) - w1.1)) &&& 31)).toInt8.toInt32)))))) := hs
      refine lv_iload hx hb dX11_put_3 (lv_at hl 0 rfl) ?_
      refine lv_iload_n hx hb dX11_put_5 rfl (lv_at hl 4 rfl) ?_
      refine lv_icmp_ge (tgt := 36) hx hb dX11_put_6 (by decide) (fun c1 => ?_) (fun c1 => ?_)
      · have hs := hs.1 c1
        exact hret H locs _ ls w1.2 dX11_put_36 (by exact (hF.trans ((if_pos c1).trans (rfl))).symm) trivial hP hD hS
      · have hs := hs.2 c1
        refine lv_aload_n hx hb dX11_put_9 rfl (lv_at hl 1 rfl) ?_
        refine va_get (D := G) (ci := 11) (v := .ref aMm) (C := RX11) (T := TX11) (N := 60) hx hb hts iwX11_put_X11 hown hK hP 0 rfl rfl 1 (by decide) (hts _ lkX11_put_8) (fun _ h9 => h9) rfl dX11_put_10 ?_
        refine lv_iload_n hx hb dX11_put_13 rfl (lv_at hl 2 rfl) ?_
        refine lv_iload hx hb dX11_put_14 (lv_at hl 0 rfl) ?_
        refine lv_iadd hx hb dX11_put_16 ?_
        refine lv_iload_n hx hb dX11_put_17 rfl (lv_at hl 3 rfl) ?_
        refine lv_bipush (v := 8) hx hb dX11_put_18 (by decide) ?_
        refine lv_iload_n hx hb dX11_put_20 rfl (lv_at hl 4 rfl) ?_
        refine lv_iconst (v := 1) hx hb dX11_put_21 (by decide) ?_
        refine lv_isub hx hb dX11_put_22 ?_
        refine lv_iload hx hb dX11_put_23 (lv_at hl 0 rfl) ?_
        refine lv_isub hx hb dX11_put_25 ?_
        refine lv_imul hx hb dX11_put_26 ?_
        refine lv_ishr hx hb dX11_put_27 ?_
        refine lv_i2b (v := (p1 >>> ((8 * ((p2 - 1) - w1.1)) &&& 31)).toInt8.toInt32) hx hb dX11_put_28 rfl ?_
        obtain ⟨o1, hs⟩ := hs
        refine va_bast hx hb hK hP hD hS 1 1 rfl rfl o1 dX11_put_29 (fun H locs hP hD hS => ?_)
        have hP : va_P G vwCl [(aM, .inr (11, [.int m_thrown, .ref aMm, .ref aMr, .int m_sets, .ref aMs, .ref aMw, .long m_sum, .int m_pc, .int m_slot, .int m_branch, .int m_target, .int m_retired, .ref aMc, .ref aMv, .int m_lines, .int m_cycles, .int m_events, .int m_exceptions, .int m_doubles, .int m_longest, .ref aMf, .int m_word, .int m_codeFault, .int m_fetched, .int m_issued, .int m_due, .int m_starts, .int m_exception, .int m_eea, .int m_register, .int m_value, .int m_flag, .int m_carry, .int m_overflow, .int m_sums, .long m_newSum, .int m_store, .int m_bytes, .int m_stored, .int m_next, .int m_goal, .int m_returns, .ref aMi, .ref aMd, .int m_lastWord, .int m_lastReadable, .int m_lastPc, .int m_lastFetched, .int m_lastStarts, .int m_lastApart, .int m_redirected, .int m_behind, .ref aMy, .int m_flagReady, .int m_carryReady, .int m_sumReady, .int m_divided, .int m_foreseen, .int m_expected, .int m_went])), (aMm, .inl (cB, 65536, .inl (upd w1.2 (p0 + w1.1).toNatClampNeg (vp_nar .byte ((p1 >>> ((8 * ((p2 - 1) - w1.1)) &&& 31)).toInt8.toInt32)))))] H := hP
        have hD : va_D A [(aM, .inr (11, [.int m_thrown, .ref aMm, .ref aMr, .int m_sets, .ref aMs, .ref aMw, .long m_sum, .int m_pc, .int m_slot, .int m_branch, .int m_target, .int m_retired, .ref aMc, .ref aMv, .int m_lines, .int m_cycles, .int m_events, .int m_exceptions, .int m_doubles, .int m_longest, .ref aMf, .int m_word, .int m_codeFault, .int m_fetched, .int m_issued, .int m_due, .int m_starts, .int m_exception, .int m_eea, .int m_register, .int m_value, .int m_flag, .int m_carry, .int m_overflow, .int m_sums, .long m_newSum, .int m_store, .int m_bytes, .int m_stored, .int m_next, .int m_goal, .int m_returns, .ref aMi, .ref aMd, .int m_lastWord, .int m_lastReadable, .int m_lastPc, .int m_lastFetched, .int m_lastStarts, .int m_lastApart, .int m_redirected, .int m_behind, .ref aMy, .int m_flagReady, .int m_carryReady, .int m_sumReady, .int m_divided, .int m_foreseen, .int m_expected, .int m_went])), (aMm, .inl (cB, 65536, .inl (upd w1.2 (p0 + w1.1).toNatClampNeg (vp_nar .byte ((p1 >>> ((8 * ((p2 - 1) - w1.1)) &&& 31)).toInt8.toInt32)))))] := hD
        refine lv_iinc (v := w1.1 + 1) (lv' := [(4, .int (w1.1 + 1)), (0, .ref aM), (1, .int p0), (2, .int p1), (3, .int p2)]) hx hb dX11_put_30 hl (k := 0) rfl rfl (by decide) rfl (fun ls hl => ?_)
        refine lv_goto (tgt := 3) hx hb dX11_put_33 (by decide) ?_
        exact ih (w1.1 + 1, upd w1.2 (p0 + w1.1).toNatClampNeg (vp_nar .byte ((p1 >>> ((8 * ((p2 - 1) - w1.1)) &&& 31)).toInt8.toInt32))) H locs ls (by exact (hF.trans ((if_neg c1).trans (rfl)))) hs hP hD hS (lv_sub hl [0, 1, 2, 3, 4] rfl)
  exact KL3 (5) (0, mm) H locs ls (by (first | exact rfl | (delta fX11_put; exact rfl) | (unfold fX11_put; dsimp only) | (unfold fX11_put; simp only []))) hs hP hD hS hl
def fX11_giveWord (m_cycles : Int32) (mm : Nat → Int32) (p0 : Int32) (p1 : Int32) : Int32 × Int32 × (Nat → Int32) :=
  if 0 < m_cycles then ((0, 0, mm)) else (if p0 < 0 then ((0, 0, mm)) else (if 65532 < p0 then ((0, 0, mm)) else (if (jrem p0 4) = 0 then ((let z1 := fX11_put mm p0 p1 4; (1, 0, z1))) else ((0, 0, mm)))))
theorem lkX11_giveWord_49 : Cond.fieldLink RX11 49 "TwinIssueModel" "thrown" "I" ∈ wsX11_giveWord := by decide +kernel
theorem lkX11_giveWord_75 : Cond.fieldLink RX11 75 "TwinIssueModel" "cycles" "I" ∈ wsX11_giveWord := by decide +kernel
theorem lkX11_giveWord_108 : Cond.constant RX11 108 (65532) ∈ wsX11_giveWord := by decide +kernel
theorem iwX11_giveWord_X11 : ∀ w ∈ wsX110, w ∈ wsX11_giveWord := fun _ h => List.mem_cons_of_mem _ (List.mem_append_right _ h)
def sX11_giveWord (m_cycles : Int32) (mm : Nat → Int32) (p0 : Int32) (p1 : Int32) : Prop :=
  (0 < m_cycles → True) ∧ (¬ (0 < m_cycles) → ((p0 < 0 → True) ∧ (¬ (p0 < 0) → ((65532 < p0 → True) ∧ (¬ (65532 < p0) → (((jrem p0 4) = 0 → ((sX11_put mm p0 p1 4) ∧ ((∀ z1, z1 = fX11_put mm p0 p1 4 → True)))) ∧ (¬ ((jrem p0 4) = 0) → True)))))))
set_option maxHeartbeats 4000000 in
set_option maxRecDepth 100000 in
theorem mX11_giveWord (l : Launch) (G : va_G) (cI cB cP : ClassId) (aM aMm aMr aMs aMw aMc aMv aMf aMi aMd aMy : Nat) (m_thrown : Int32) (m_sets : Int32) (m_sum : Int64) (m_pc : Int32) (m_slot : Int32) (m_branch : Int32) (m_target : Int32) (m_retired : Int32) (m_lines : Int32) (m_cycles : Int32) (m_events : Int32) (m_exceptions : Int32) (m_doubles : Int32) (m_longest : Int32) (m_word : Int32) (m_codeFault : Int32) (m_fetched : Int32) (m_issued : Int32) (m_due : Int32) (m_starts : Int32) (m_exception : Int32) (m_eea : Int32) (m_register : Int32) (m_value : Int32) (m_flag : Int32) (m_carry : Int32) (m_overflow : Int32) (m_sums : Int32) (m_newSum : Int64) (m_store : Int32) (m_bytes : Int32) (m_stored : Int32) (m_next : Int32) (m_goal : Int32) (m_returns : Int32) (m_lastWord : Int32) (m_lastReadable : Int32) (m_lastPc : Int32) (m_lastFetched : Int32) (m_lastStarts : Int32) (m_lastApart : Int32) (m_redirected : Int32) (m_behind : Int32) (m_flagReady : Int32) (m_carryReady : Int32) (m_sumReady : Int32) (m_divided : Int32) (m_foreseen : Int32) (m_expected : Int32) (m_went : Int32) (mm : Nat → Int32) (sz : Nat) (p0 : Int32) (p1 : Int32) (hs : sX11_giveWord m_cycles mm p0 p1) : kMi (S := Int32 × (Nat → Int32)) l yX11_giveWord wsX11_giveWord ({ frames := 1, cells := 0, slots := 0, locals := 24 }) [.ref aM, .int p0, .int p1] G (kTY cI cB cP) sz [(aM, .inr (11, [.int m_thrown, .ref aMm, .ref aMr, .int m_sets, .ref aMs, .ref aMw, .long m_sum, .int m_pc, .int m_slot, .int m_branch, .int m_target, .int m_retired, .ref aMc, .ref aMv, .int m_lines, .int m_cycles, .int m_events, .int m_exceptions, .int m_doubles, .int m_longest, .ref aMf, .int m_word, .int m_codeFault, .int m_fetched, .int m_issued, .int m_due, .int m_starts, .int m_exception, .int m_eea, .int m_register, .int m_value, .int m_flag, .int m_carry, .int m_overflow, .int m_sums, .long m_newSum, .int m_store, .int m_bytes, .int m_stored, .int m_next, .int m_goal, .int m_returns, .ref aMi, .ref aMd, .int m_lastWord, .int m_lastReadable, .int m_lastPc, .int m_lastFetched, .int m_lastStarts, .int m_lastApart, .int m_redirected, .int m_behind, .ref aMy, .int m_flagReady, .int m_carryReady, .int m_sumReady, .int m_divided, .int m_foreseen, .int m_expected, .int m_went])), (aMm, .inl (cB, 65536, .inl mm))] (fX11_giveWord m_cycles mm p0 p1) (fun r _ => isB r) (fun u => [(aM, .inr (11, [.int u.1, .ref aMm, .ref aMr, .int m_sets, .ref aMs, .ref aMw, .long m_sum, .int m_pc, .int m_slot, .int m_branch, .int m_target, .int m_retired, .ref aMc, .ref aMv, .int m_lines, .int m_cycles, .int m_events, .int m_exceptions, .int m_doubles, .int m_longest, .ref aMf, .int m_word, .int m_codeFault, .int m_fetched, .int m_issued, .int m_due, .int m_starts, .int m_exception, .int m_eea, .int m_register, .int m_value, .int m_flag, .int m_carry, .int m_overflow, .int m_sums, .long m_newSum, .int m_store, .int m_bytes, .int m_stored, .int m_next, .int m_goal, .int m_returns, .ref aMi, .ref aMd, .int m_lastWord, .int m_lastReadable, .int m_lastPc, .int m_lastFetched, .int m_lastStarts, .int m_lastApart, .int m_redirected, .int m_behind, .ref aMy, .int m_flagReady, .int m_carryReady, .int m_sumReady, .int m_divided, .int m_foreseen, .int m_expected, .int m_went])), (aMm, .inl (cB, 65536, .inl u.2))]) := by
  refine k_ofz (cc := cX11_giveWord) (maxL := 3) (by decide) rfl (Nat.le_of_ble_eq_true rfl) ?_
  intro p e s m args below meth c A ls Q H locs hx hb hml hown hts hin hK hP hD hA hS hl hret
  have hown : s.vm.findClass RX11 = some m.cls := hown
  have hl : lv_has ls 3 [(0, .ref aM), (1, .int p0), (2, .int p1)] := hl
  unfold sX11_giveWord at hs
  refine lv_aload_n hx hb dX11_giveWord_0 rfl (lv_at hl 0 rfl) ?_
  refine lv_iconst (v := 0) hx hb dX11_giveWord_1 (by decide) ?_
  refine va_put (D := G) (ci := 11) (v := .int 0) (ty := .int) (C := RX11) (T := TX11) (N := 60) hx hb hts iwX11_giveWord_X11 tyX11 tyX11_ok nmX11 hown hK hP hD hS 0 rfl rfl 0 (by decide) (hts _ lkX11_giveWord_49) (fun _ h9 => h9) rfl (by decide +kernel) rfl rfl (Nat.le_of_ble_eq_true rfl) dX11_giveWord_2 (fun H locs hP hD hS => ?_)
  have hP : va_P G vwCl [(aM, .inr (11, [.int 0, .ref aMm, .ref aMr, .int m_sets, .ref aMs, .ref aMw, .long m_sum, .int m_pc, .int m_slot, .int m_branch, .int m_target, .int m_retired, .ref aMc, .ref aMv, .int m_lines, .int m_cycles, .int m_events, .int m_exceptions, .int m_doubles, .int m_longest, .ref aMf, .int m_word, .int m_codeFault, .int m_fetched, .int m_issued, .int m_due, .int m_starts, .int m_exception, .int m_eea, .int m_register, .int m_value, .int m_flag, .int m_carry, .int m_overflow, .int m_sums, .long m_newSum, .int m_store, .int m_bytes, .int m_stored, .int m_next, .int m_goal, .int m_returns, .ref aMi, .ref aMd, .int m_lastWord, .int m_lastReadable, .int m_lastPc, .int m_lastFetched, .int m_lastStarts, .int m_lastApart, .int m_redirected, .int m_behind, .ref aMy, .int m_flagReady, .int m_carryReady, .int m_sumReady, .int m_divided, .int m_foreseen, .int m_expected, .int m_went])), (aMm, .inl (cB, 65536, .inl mm))] H := hP
  have hD : va_D A [(aM, .inr (11, [.int 0, .ref aMm, .ref aMr, .int m_sets, .ref aMs, .ref aMw, .long m_sum, .int m_pc, .int m_slot, .int m_branch, .int m_target, .int m_retired, .ref aMc, .ref aMv, .int m_lines, .int m_cycles, .int m_events, .int m_exceptions, .int m_doubles, .int m_longest, .ref aMf, .int m_word, .int m_codeFault, .int m_fetched, .int m_issued, .int m_due, .int m_starts, .int m_exception, .int m_eea, .int m_register, .int m_value, .int m_flag, .int m_carry, .int m_overflow, .int m_sums, .long m_newSum, .int m_store, .int m_bytes, .int m_stored, .int m_next, .int m_goal, .int m_returns, .ref aMi, .ref aMd, .int m_lastWord, .int m_lastReadable, .int m_lastPc, .int m_lastFetched, .int m_lastStarts, .int m_lastApart, .int m_redirected, .int m_behind, .ref aMy, .int m_flagReady, .int m_carryReady, .int m_sumReady, .int m_divided, .int m_foreseen, .int m_expected, .int m_went])), (aMm, .inl (cB, 65536, .inl mm))] := hD
  refine lv_aload_n hx hb dX11_giveWord_5 rfl (lv_at hl 0 rfl) ?_
  refine va_get (D := G) (ci := 11) (v := .int m_cycles) (C := RX11) (T := TX11) (N := 60) hx hb hts iwX11_giveWord_X11 hown hK hP 0 rfl rfl 15 (by decide) (hts _ lkX11_giveWord_75) (fun _ h9 => h9) rfl dX11_giveWord_6 ?_
  refine lv_if_gt (tgt := 28) hx hb dX11_giveWord_9 (by decide) (fun c1 => ?_) (fun c1 => ?_)
  · have hs := hs.1 c1
    refine lv_iconst (v := 0) hx hb dX11_giveWord_28 (by decide) ?_
    exact hret H locs _ ls 0 (0, mm) dX11_giveWord_29 ((if_pos c1).trans (rfl)).symm (Or.inl rfl) (Or.inl rfl) hP hD hS
  · have hs := hs.2 c1
    refine lv_iload_n hx hb dX11_giveWord_12 rfl (lv_at hl 1 rfl) ?_
    refine lv_if_lt (tgt := 28) hx hb dX11_giveWord_13 (by decide) (fun c2 => ?_) (fun c2 => ?_)
    · have hs := hs.1 c2
      refine lv_iconst (v := 0) hx hb dX11_giveWord_28 (by decide) ?_
      exact hret H locs _ ls 0 (0, mm) dX11_giveWord_29 ((if_neg c1).trans ((if_pos c2).trans (rfl))).symm (Or.inl rfl) (Or.inl rfl) hP hD hS
    · have hs := hs.2 c2
      refine lv_iload_n hx hb dX11_giveWord_16 rfl (lv_at hl 1 rfl) ?_
      refine lv_ldc (v := 65532) hx hb hown (hts _ lkX11_giveWord_108) dX11_giveWord_17 ?_
      refine lv_icmp_gt (tgt := 28) hx hb dX11_giveWord_19 (by decide) (fun c3 => ?_) (fun c3 => ?_)
      · have hs := hs.1 c3
        refine lv_iconst (v := 0) hx hb dX11_giveWord_28 (by decide) ?_
        exact hret H locs _ ls 0 (0, mm) dX11_giveWord_29 ((if_neg c1).trans ((if_neg c2).trans ((if_pos c3).trans (rfl)))).symm (Or.inl rfl) (Or.inl rfl) hP hD hS
      · have hs := hs.2 c3
        refine lv_iload_n hx hb dX11_giveWord_22 rfl (lv_at hl 1 rfl) ?_
        refine lv_iconst (v := 4) hx hb dX11_giveWord_23 (by decide) ?_
        refine lv_irem hx hb dX11_giveWord_24 (by decide) ?_
        refine lv_if_eq (tgt := 30) hx hb dX11_giveWord_25 (by decide) (fun c4 => ?_) (fun c4 => ?_)
        · have hs := hs.1 c4
          refine lv_aload_n hx hb dX11_giveWord_30 rfl (lv_at hl 0 rfl) ?_
          refine lv_iload_n hx hb dX11_giveWord_31 rfl (lv_at hl 1 rfl) ?_
          refine lv_iload_n hx hb dX11_giveWord_32 rfl (lv_at hl 2 rfl) ?_
          refine lv_iconst (v := 4) hx hb dX11_giveWord_33 (by decide) ?_
          obtain ⟨o1, hs⟩ := hs
          refine k_vV (As := [.int p0, .int p1, .int 4]) (rest := []) (wc := [(aM, .inr (11, [.int 0, .ref aMm, .ref aMr, .int m_sets, .ref aMs, .ref aMw, .long m_sum, .int m_pc, .int m_slot, .int m_branch, .int m_target, .int m_retired, .ref aMc, .ref aMv, .int m_lines, .int m_cycles, .int m_events, .int m_exceptions, .int m_doubles, .int m_longest, .ref aMf, .int m_word, .int m_codeFault, .int m_fetched, .int m_issued, .int m_due, .int m_starts, .int m_exception, .int m_eea, .int m_register, .int m_value, .int m_flag, .int m_carry, .int m_overflow, .int m_sums, .long m_newSum, .int m_store, .int m_bytes, .int m_stored, .int m_next, .int m_goal, .int m_returns, .ref aMi, .ref aMd, .int m_lastWord, .int m_lastReadable, .int m_lastPc, .int m_lastFetched, .int m_lastStarts, .int m_lastApart, .int m_redirected, .int m_behind, .ref aMy, .int m_flagReady, .int m_carryReady, .int m_sumReady, .int m_divided, .int m_foreseen, .int m_expected, .int m_went])), (aMm, .inl (cB, 65536, .inl mm))]) (wr := []) ⟨hx, hb, hml, hown, hts⟩ hK hP hD hS hA [0, 1] [] rfl rfl rfl rfl (by decide) (mX11_put l G cI cB cP aM aMm aMr aMs aMw aMc aMv aMf aMi aMd aMy 0 m_sets m_sum m_pc m_slot m_branch m_target m_retired m_lines m_cycles m_events m_exceptions m_doubles m_longest m_word m_codeFault m_fetched m_issued m_due m_starts m_exception m_eea m_register m_value m_flag m_carry m_overflow m_sums m_newSum m_store m_bytes m_stored m_next m_goal m_returns m_lastWord m_lastReadable m_lastPc m_lastFetched m_lastStarts m_lastApart m_redirected m_behind m_flagReady m_carryReady m_sumReady m_divided m_foreseen m_expected m_went mm H.size p0 p1 4 o1) (cwV 3 hts gX11_giveWord_X11_put rfl rfl rfl (by decide +kernel) ⟨Nat.le_of_ble_eq_true rfl, Nat.le_of_ble_eq_true rfl⟩) 0 11 rfl rfl rfl rfl hl.1 rfl (Nat.le_of_ble_eq_true rfl) dX11_giveWord_34 ⟨Nat.le_of_ble_eq_true rfl, Nat.le_of_ble_eq_true rfl⟩ (fun z1 H locs hz1 hEz1 hP hD hS => ?_)
          have hs := hs z1 hz1
          have hP : va_P G vwCl [(aM, .inr (11, [.int 0, .ref aMm, .ref aMr, .int m_sets, .ref aMs, .ref aMw, .long m_sum, .int m_pc, .int m_slot, .int m_branch, .int m_target, .int m_retired, .ref aMc, .ref aMv, .int m_lines, .int m_cycles, .int m_events, .int m_exceptions, .int m_doubles, .int m_longest, .ref aMf, .int m_word, .int m_codeFault, .int m_fetched, .int m_issued, .int m_due, .int m_starts, .int m_exception, .int m_eea, .int m_register, .int m_value, .int m_flag, .int m_carry, .int m_overflow, .int m_sums, .long m_newSum, .int m_store, .int m_bytes, .int m_stored, .int m_next, .int m_goal, .int m_returns, .ref aMi, .ref aMd, .int m_lastWord, .int m_lastReadable, .int m_lastPc, .int m_lastFetched, .int m_lastStarts, .int m_lastApart, .int m_redirected, .int m_behind, .ref aMy, .int m_flagReady, .int m_carryReady, .int m_sumReady, .int m_divided, .int m_foreseen, .int m_expected, .int m_went])), (aMm, .inl (cB, 65536, .inl z1))] H := hP
          have hD : va_D A [(aM, .inr (11, [.int 0, .ref aMm, .ref aMr, .int m_sets, .ref aMs, .ref aMw, .long m_sum, .int m_pc, .int m_slot, .int m_branch, .int m_target, .int m_retired, .ref aMc, .ref aMv, .int m_lines, .int m_cycles, .int m_events, .int m_exceptions, .int m_doubles, .int m_longest, .ref aMf, .int m_word, .int m_codeFault, .int m_fetched, .int m_issued, .int m_due, .int m_starts, .int m_exception, .int m_eea, .int m_register, .int m_value, .int m_flag, .int m_carry, .int m_overflow, .int m_sums, .long m_newSum, .int m_store, .int m_bytes, .int m_stored, .int m_next, .int m_goal, .int m_returns, .ref aMi, .ref aMd, .int m_lastWord, .int m_lastReadable, .int m_lastPc, .int m_lastFetched, .int m_lastStarts, .int m_lastApart, .int m_redirected, .int m_behind, .ref aMy, .int m_flagReady, .int m_carryReady, .int m_sumReady, .int m_divided, .int m_foreseen, .int m_expected, .int m_went])), (aMm, .inl (cB, 65536, .inl z1))] := hD
          refine lv_iconst (v := 1) hx hb dX11_giveWord_37 (by decide) ?_
          exact hret H locs _ ls 1 (0, z1) dX11_giveWord_38 (by clear hP hD hS hl; replace hz1 := hz1.symm; subst hz1; exact (((if_neg c1).trans ((if_neg c2).trans ((if_neg c3).trans ((if_pos c4).trans (rfl)))))).symm) (Or.inr rfl) (Or.inr rfl) hP hD hS
        · have hs := hs.2 c4
          refine lv_iconst (v := 0) hx hb dX11_giveWord_28 (by decide) ?_
          exact hret H locs _ ls 0 (0, mm) dX11_giveWord_29 ((if_neg c1).trans ((if_neg c2).trans ((if_neg c3).trans ((if_neg c4).trans (rfl))))).symm (Or.inl rfl) (Or.inl rfl) hP hD hS
def fX11_isNone (p0 : Int32) : Int32 :=
  (let z1 := fX11_op p0; if 57 < z1 then (1) else ((let z2 := fX11_op p0; if z2 = 18 then (if ((p0 >>> (21 &&& 31)) &&& 31) ≤ (9 : Int32) then (0) else (1)) else ((let z3 := fX11_op p0; if z3 = 19 then (if ((p0 >>> (21 &&& 31)) &&& 31) ≤ (9 : Int32) then (0) else (1)) else (0))))))
set_option maxHeartbeats 4000000 in
set_option maxRecDepth 100000 in
theorem mX11_isNone (l : Launch) (G : va_G) (cI cB cP : ClassId) (sz : Nat) (p0 : Int32) : kMi (S := Unit) l yX11_isNone wsX11_isNone ({ frames := 1, cells := 0, slots := 0, locals := 20 }) [.int p0] G (kTY cI cB cP) sz [] (fX11_isNone p0, ()) (fun r _ => isB r) (fun _ => []) := by
  refine k_ofz (cc := cX11_isNone) (maxL := 1) (by decide) rfl (Nat.le_of_ble_eq_true rfl) ?_
  intro p e s m args below meth c A ls Q H locs hx hb hml hown hts hin hK hP hD hA hS hl hret
  have hown : s.vm.findClass RX11 = some m.cls := hown
  have hl : lv_has ls 1 [(0, .int p0)] := hl
  refine lv_iload_n hx hb dX11_isNone_0 rfl (lv_at hl 0 rfl) ?_
  refine k_iS (As := [.int p0]) (rest := []) ⟨hx, hb, hml, hown, hts⟩ hK hP hD hS hA (mX11_op l G cI cB cP   H.size p0 ) (va_cwS 1 hts gX11_isNone_X11_op rfl rfl rfl (by decide +kernel) ⟨Nat.le_of_ble_eq_true rfl, Nat.le_of_ble_eq_true rfl⟩) rfl hl.1 rfl (Nat.le_of_ble_eq_true rfl) dX11_isNone_1 ⟨Nat.le_of_ble_eq_true rfl, Nat.le_of_ble_eq_true rfl⟩ (fun z1 H locs hz1 hEz1 hP hS => ?_)
  refine lv_bipush (v := 57) hx hb dX11_isNone_4 (by decide) ?_
  refine lv_icmp_gt (tgt := 39) hx hb dX11_isNone_6 (by decide) (fun c1 => ?_) (fun c1 => ?_)
  · skip
    refine lv_iconst (v := 1) hx hb dX11_isNone_39 (by decide) ?_
    refine lv_goto (tgt := 44) hx hb dX11_isNone_40 (by decide) ?_
    exact hret H locs _ ls 1 () dX11_isNone_44 (by clear hP hD hS hl; replace hz1 := hz1.symm; subst hz1; exact congrArg (fun x => (x, ())) (((if_pos c1).trans (rfl))).symm) (Or.inr rfl) (Or.inr rfl) hP hD hS
  · skip
    refine lv_iload_n hx hb dX11_isNone_9 rfl (lv_at hl 0 rfl) ?_
    refine k_iS (As := [.int p0]) (rest := []) ⟨hx, hb, hml, hown, hts⟩ hK hP hD hS hA (mX11_op l G cI cB cP   H.size p0 ) (va_cwS 1 hts gX11_isNone_X11_op rfl rfl rfl (by decide +kernel) ⟨Nat.le_of_ble_eq_true rfl, Nat.le_of_ble_eq_true rfl⟩) rfl hl.1 rfl (Nat.le_of_ble_eq_true rfl) dX11_isNone_10 ⟨Nat.le_of_ble_eq_true rfl, Nat.le_of_ble_eq_true rfl⟩ (fun z2 H locs hz2 hEz2 hP hS => ?_)
    refine lv_bipush (v := 18) hx hb dX11_isNone_13 (by decide) ?_
    refine lv_icmp_eq (tgt := 27) hx hb dX11_isNone_15 (by decide) (fun c2 => ?_) (fun c2 => ?_)
    · skip
      refine lv_iload_n hx hb dX11_isNone_27 rfl (lv_at hl 0 rfl) ?_
      refine lv_bipush (v := 21) hx hb dX11_isNone_28 (by decide) ?_
      refine lv_ishr hx hb dX11_isNone_30 ?_
      refine lv_bipush (v := 31) hx hb dX11_isNone_31 (by decide) ?_
      refine lv_iand hx hb dX11_isNone_33 ?_
      refine lv_bipush (v := 9) hx hb dX11_isNone_34 (by decide) ?_
      refine lv_icmp_le (tgt := 43) hx hb dX11_isNone_36 (by decide) (fun c3 => ?_) (fun c3 => ?_)
      · skip
        refine lv_iconst (v := 0) hx hb dX11_isNone_43 (by decide) ?_
        exact hret H locs _ ls 0 () dX11_isNone_44 (by clear hP hD hS hl; replace hz2 := hz2.symm; subst hz2; replace hz1 := hz1.symm; subst hz1; exact congrArg (fun x => (x, ())) (((if_neg c1).trans ((if_pos c2).trans ((if_pos c3).trans (rfl))))).symm) (Or.inl rfl) (Or.inl rfl) hP hD hS
      · skip
        refine lv_iconst (v := 1) hx hb dX11_isNone_39 (by decide) ?_
        refine lv_goto (tgt := 44) hx hb dX11_isNone_40 (by decide) ?_
        exact hret H locs _ ls 1 () dX11_isNone_44 (by clear hP hD hS hl; replace hz2 := hz2.symm; subst hz2; replace hz1 := hz1.symm; subst hz1; exact congrArg (fun x => (x, ())) (((if_neg c1).trans ((if_pos c2).trans ((if_neg c3).trans (rfl))))).symm) (Or.inr rfl) (Or.inr rfl) hP hD hS
    · skip
      refine lv_iload_n hx hb dX11_isNone_18 rfl (lv_at hl 0 rfl) ?_
      refine k_iS (As := [.int p0]) (rest := []) ⟨hx, hb, hml, hown, hts⟩ hK hP hD hS hA (mX11_op l G cI cB cP   H.size p0 ) (va_cwS 1 hts gX11_isNone_X11_op rfl rfl rfl (by decide +kernel) ⟨Nat.le_of_ble_eq_true rfl, Nat.le_of_ble_eq_true rfl⟩) rfl hl.1 rfl (Nat.le_of_ble_eq_true rfl) dX11_isNone_19 ⟨Nat.le_of_ble_eq_true rfl, Nat.le_of_ble_eq_true rfl⟩ (fun z3 H locs hz3 hEz3 hP hS => ?_)
      refine lv_bipush (v := 19) hx hb dX11_isNone_22 (by decide) ?_
      refine lv_icmp_ne (tgt := 43) hx hb dX11_isNone_24 (by decide) (fun c4 => ?_) (fun c4 => ?_)
      · skip
        refine lv_iconst (v := 0) hx hb dX11_isNone_43 (by decide) ?_
        exact hret H locs _ ls 0 () dX11_isNone_44 (by clear hP hD hS hl; replace hz3 := hz3.symm; subst hz3; replace hz2 := hz2.symm; subst hz2; replace hz1 := hz1.symm; subst hz1; exact congrArg (fun x => (x, ())) (((if_neg c1).trans ((if_neg c2).trans ((if_neg c4).trans (rfl))))).symm) (Or.inl rfl) (Or.inl rfl) hP hD hS
      · skip
        refine lv_iload_n hx hb dX11_isNone_27 rfl (lv_at hl 0 rfl) ?_
        refine lv_bipush (v := 21) hx hb dX11_isNone_28 (by decide) ?_
        refine lv_ishr hx hb dX11_isNone_30 ?_
        refine lv_bipush (v := 31) hx hb dX11_isNone_31 (by decide) ?_
        refine lv_iand hx hb dX11_isNone_33 ?_
        refine lv_bipush (v := 9) hx hb dX11_isNone_34 (by decide) ?_
        refine lv_icmp_le (tgt := 43) hx hb dX11_isNone_36 (by decide) (fun c5 => ?_) (fun c5 => ?_)
        · skip
          refine lv_iconst (v := 0) hx hb dX11_isNone_43 (by decide) ?_
          exact hret H locs _ ls 0 () dX11_isNone_44 (by clear hP hD hS hl; replace hz3 := hz3.symm; subst hz3; replace hz2 := hz2.symm; subst hz2; replace hz1 := hz1.symm; subst hz1; exact congrArg (fun x => (x, ())) (((if_neg c1).trans ((if_neg c2).trans ((if_pos c4).trans ((if_pos c5).trans (rfl)))))).symm) (Or.inl rfl) (Or.inl rfl) hP hD hS
        · skip
          refine lv_iconst (v := 1) hx hb dX11_isNone_39 (by decide) ?_
          refine lv_goto (tgt := 44) hx hb dX11_isNone_40 (by decide) ?_
          exact hret H locs _ ls 1 () dX11_isNone_44 (by clear hP hD hS hl; replace hz3 := hz3.symm; subst hz3; replace hz2 := hz2.symm; subst hz2; replace hz1 := hz1.symm; subst hz1; exact congrArg (fun x => (x, ())) (((if_neg c1).trans ((if_neg c2).trans ((if_pos c4).trans ((if_neg c5).trans (rfl)))))).symm) (Or.inr rfl) (Or.inr rfl) hP hD hS
def fX11_isDivide (p0 : Int32) : Int32 :=
  (let z1 := fX11_op p0; if z1 = 9 then (1) else ((let z2 := fX11_op p0; if z2 = 37 then (1) else (0))))
set_option maxHeartbeats 4000000 in
set_option maxRecDepth 100000 in
theorem mX11_isDivide (l : Launch) (G : va_G) (cI cB cP : ClassId) (sz : Nat) (p0 : Int32) : kMi (S := Unit) l yX11_isDivide wsX11_isDivide ({ frames := 1, cells := 0, slots := 0, locals := 20 }) [.int p0] G (kTY cI cB cP) sz [] (fX11_isDivide p0, ()) (fun r _ => isB r) (fun _ => []) := by
  refine k_ofz (cc := cX11_isDivide) (maxL := 1) (by decide) rfl (Nat.le_of_ble_eq_true rfl) ?_
  intro p e s m args below meth c A ls Q H locs hx hb hml hown hts hin hK hP hD hA hS hl hret
  have hown : s.vm.findClass RX11 = some m.cls := hown
  have hl : lv_has ls 1 [(0, .int p0)] := hl
  refine lv_iload_n hx hb dX11_isDivide_0 rfl (lv_at hl 0 rfl) ?_
  refine k_iS (As := [.int p0]) (rest := []) ⟨hx, hb, hml, hown, hts⟩ hK hP hD hS hA (mX11_op l G cI cB cP   H.size p0 ) (va_cwS 1 hts gX11_isDivide_X11_op rfl rfl rfl (by decide +kernel) ⟨Nat.le_of_ble_eq_true rfl, Nat.le_of_ble_eq_true rfl⟩) rfl hl.1 rfl (Nat.le_of_ble_eq_true rfl) dX11_isDivide_1 ⟨Nat.le_of_ble_eq_true rfl, Nat.le_of_ble_eq_true rfl⟩ (fun z1 H locs hz1 hEz1 hP hS => ?_)
  refine lv_bipush (v := 9) hx hb dX11_isDivide_4 (by decide) ?_
  refine lv_icmp_eq (tgt := 18) hx hb dX11_isDivide_6 (by decide) (fun c1 => ?_) (fun c1 => ?_)
  · skip
    refine lv_iconst (v := 1) hx hb dX11_isDivide_18 (by decide) ?_
    refine lv_goto (tgt := 23) hx hb dX11_isDivide_19 (by decide) ?_
    exact hret H locs _ ls 1 () dX11_isDivide_23 (by clear hP hD hS hl; replace hz1 := hz1.symm; subst hz1; exact congrArg (fun x => (x, ())) (((if_pos c1).trans (rfl))).symm) (Or.inr rfl) (Or.inr rfl) hP hD hS
  · skip
    refine lv_iload_n hx hb dX11_isDivide_9 rfl (lv_at hl 0 rfl) ?_
    refine k_iS (As := [.int p0]) (rest := []) ⟨hx, hb, hml, hown, hts⟩ hK hP hD hS hA (mX11_op l G cI cB cP   H.size p0 ) (va_cwS 1 hts gX11_isDivide_X11_op rfl rfl rfl (by decide +kernel) ⟨Nat.le_of_ble_eq_true rfl, Nat.le_of_ble_eq_true rfl⟩) rfl hl.1 rfl (Nat.le_of_ble_eq_true rfl) dX11_isDivide_10 ⟨Nat.le_of_ble_eq_true rfl, Nat.le_of_ble_eq_true rfl⟩ (fun z2 H locs hz2 hEz2 hP hS => ?_)
    refine lv_bipush (v := 37) hx hb dX11_isDivide_13 (by decide) ?_
    refine lv_icmp_ne (tgt := 22) hx hb dX11_isDivide_15 (by decide) (fun c2 => ?_) (fun c2 => ?_)
    · skip
      refine lv_iconst (v := 0) hx hb dX11_isDivide_22 (by decide) ?_
      exact hret H locs _ ls 0 () dX11_isDivide_23 (by clear hP hD hS hl; replace hz2 := hz2.symm; subst hz2; replace hz1 := hz1.symm; subst hz1; exact congrArg (fun x => (x, ())) (((if_neg c1).trans ((if_neg c2).trans (rfl)))).symm) (Or.inl rfl) (Or.inl rfl) hP hD hS
    · skip
      refine lv_iconst (v := 1) hx hb dX11_isDivide_18 (by decide) ?_
      refine lv_goto (tgt := 23) hx hb dX11_isDivide_19 (by decide) ?_
      exact hret H locs _ ls 1 () dX11_isDivide_23 (by clear hP hD hS hl; replace hz2 := hz2.symm; subst hz2; replace hz1 := hz1.symm; subst hz1; exact congrArg (fun x => (x, ())) (((if_neg c1).trans ((if_pos c2).trans (rfl)))).symm) (Or.inr rfl) (Or.inr rfl) hP hD hS
def fX11_isMemory (p0 : Int32) : Int32 :=
  (let z1 := fX11_op p0; if z1 < 26 then ((let z2 := fX11_op p0; if z2 ≤ 50 then (0) else ((let z3 := fX11_op p0; if 55 ≤ z3 then (0) else (1))))) else ((let z4 := fX11_op p0; if z4 ≤ 29 then (1) else ((let z5 := fX11_op p0; if z5 ≤ 50 then (0) else ((let z6 := fX11_op p0; if 55 ≤ z6 then (0) else (1))))))))
set_option maxHeartbeats 4000000 in
set_option maxRecDepth 100000 in
theorem mX11_isMemory (l : Launch) (G : va_G) (cI cB cP : ClassId) (sz : Nat) (p0 : Int32) : kMi (S := Unit) l yX11_isMemory wsX11_isMemory ({ frames := 1, cells := 0, slots := 0, locals := 20 }) [.int p0] G (kTY cI cB cP) sz [] (fX11_isMemory p0, ()) (fun r _ => isB r) (fun _ => []) := by
  refine k_ofz (cc := cX11_isMemory) (maxL := 1) (by decide) rfl (Nat.le_of_ble_eq_true rfl) ?_
  intro p e s m args below meth c A ls Q H locs hx hb hml hown hts hin hK hP hD hA hS hl hret
  have hown : s.vm.findClass RX11 = some m.cls := hown
  have hl : lv_has ls 1 [(0, .int p0)] := hl
  refine lv_iload_n hx hb dX11_isMemory_0 rfl (lv_at hl 0 rfl) ?_
  refine k_iS (As := [.int p0]) (rest := []) ⟨hx, hb, hml, hown, hts⟩ hK hP hD hS hA (mX11_op l G cI cB cP   H.size p0 ) (va_cwS 1 hts gX11_isMemory_X11_op rfl rfl rfl (by decide +kernel) ⟨Nat.le_of_ble_eq_true rfl, Nat.le_of_ble_eq_true rfl⟩) rfl hl.1 rfl (Nat.le_of_ble_eq_true rfl) dX11_isMemory_1 ⟨Nat.le_of_ble_eq_true rfl, Nat.le_of_ble_eq_true rfl⟩ (fun z1 H locs hz1 hEz1 hP hS => ?_)
  refine lv_bipush (v := 26) hx hb dX11_isMemory_4 (by decide) ?_
  refine lv_icmp_lt (tgt := 18) hx hb dX11_isMemory_6 (by decide) (fun c1 => ?_) (fun c1 => ?_)
  · skip
    refine lv_iload_n hx hb dX11_isMemory_18 rfl (lv_at hl 0 rfl) ?_
    refine k_iS (As := [.int p0]) (rest := []) ⟨hx, hb, hml, hown, hts⟩ hK hP hD hS hA (mX11_op l G cI cB cP   H.size p0 ) (va_cwS 1 hts gX11_isMemory_X11_op rfl rfl rfl (by decide +kernel) ⟨Nat.le_of_ble_eq_true rfl, Nat.le_of_ble_eq_true rfl⟩) rfl hl.1 rfl (Nat.le_of_ble_eq_true rfl) dX11_isMemory_19 ⟨Nat.le_of_ble_eq_true rfl, Nat.le_of_ble_eq_true rfl⟩ (fun z2 H locs hz2 hEz2 hP hS => ?_)
    refine lv_bipush (v := 50) hx hb dX11_isMemory_22 (by decide) ?_
    refine lv_icmp_le (tgt := 40) hx hb dX11_isMemory_24 (by decide) (fun c2 => ?_) (fun c2 => ?_)
    · skip
      refine lv_iconst (v := 0) hx hb dX11_isMemory_40 (by decide) ?_
      exact hret H locs _ ls 0 () dX11_isMemory_41 (by clear hP hD hS hl; replace hz2 := hz2.symm; subst hz2; replace hz1 := hz1.symm; subst hz1; exact congrArg (fun x => (x, ())) (((if_pos c1).trans ((if_pos c2).trans (rfl)))).symm) (Or.inl rfl) (Or.inl rfl) hP hD hS
    · skip
      refine lv_iload_n hx hb dX11_isMemory_27 rfl (lv_at hl 0 rfl) ?_
      refine k_iS (As := [.int p0]) (rest := []) ⟨hx, hb, hml, hown, hts⟩ hK hP hD hS hA (mX11_op l G cI cB cP   H.size p0 ) (va_cwS 1 hts gX11_isMemory_X11_op rfl rfl rfl (by decide +kernel) ⟨Nat.le_of_ble_eq_true rfl, Nat.le_of_ble_eq_true rfl⟩) rfl hl.1 rfl (Nat.le_of_ble_eq_true rfl) dX11_isMemory_28 ⟨Nat.le_of_ble_eq_true rfl, Nat.le_of_ble_eq_true rfl⟩ (fun z3 H locs hz3 hEz3 hP hS => ?_)
      refine lv_bipush (v := 55) hx hb dX11_isMemory_31 (by decide) ?_
      refine lv_icmp_ge (tgt := 40) hx hb dX11_isMemory_33 (by decide) (fun c3 => ?_) (fun c3 => ?_)
      · skip
        refine lv_iconst (v := 0) hx hb dX11_isMemory_40 (by decide) ?_
        exact hret H locs _ ls 0 () dX11_isMemory_41 (by clear hP hD hS hl; replace hz3 := hz3.symm; subst hz3; replace hz2 := hz2.symm; subst hz2; replace hz1 := hz1.symm; subst hz1; exact congrArg (fun x => (x, ())) (((if_pos c1).trans ((if_neg c2).trans ((if_pos c3).trans (rfl))))).symm) (Or.inl rfl) (Or.inl rfl) hP hD hS
      · skip
        refine lv_iconst (v := 1) hx hb dX11_isMemory_36 (by decide) ?_
        refine lv_goto (tgt := 41) hx hb dX11_isMemory_37 (by decide) ?_
        exact hret H locs _ ls 1 () dX11_isMemory_41 (by clear hP hD hS hl; replace hz3 := hz3.symm; subst hz3; replace hz2 := hz2.symm; subst hz2; replace hz1 := hz1.symm; subst hz1; exact congrArg (fun x => (x, ())) (((if_pos c1).trans ((if_neg c2).trans ((if_neg c3).trans (rfl))))).symm) (Or.inr rfl) (Or.inr rfl) hP hD hS
  · skip
    refine lv_iload_n hx hb dX11_isMemory_9 rfl (lv_at hl 0 rfl) ?_
    refine k_iS (As := [.int p0]) (rest := []) ⟨hx, hb, hml, hown, hts⟩ hK hP hD hS hA (mX11_op l G cI cB cP   H.size p0 ) (va_cwS 1 hts gX11_isMemory_X11_op rfl rfl rfl (by decide +kernel) ⟨Nat.le_of_ble_eq_true rfl, Nat.le_of_ble_eq_true rfl⟩) rfl hl.1 rfl (Nat.le_of_ble_eq_true rfl) dX11_isMemory_10 ⟨Nat.le_of_ble_eq_true rfl, Nat.le_of_ble_eq_true rfl⟩ (fun z4 H locs hz4 hEz4 hP hS => ?_)
    refine lv_bipush (v := 29) hx hb dX11_isMemory_13 (by decide) ?_
    refine lv_icmp_le (tgt := 36) hx hb dX11_isMemory_15 (by decide) (fun c4 => ?_) (fun c4 => ?_)
    · skip
      refine lv_iconst (v := 1) hx hb dX11_isMemory_36 (by decide) ?_
      refine lv_goto (tgt := 41) hx hb dX11_isMemory_37 (by decide) ?_
      exact hret H locs _ ls 1 () dX11_isMemory_41 (by clear hP hD hS hl; replace hz4 := hz4.symm; subst hz4; replace hz1 := hz1.symm; subst hz1; exact congrArg (fun x => (x, ())) (((if_neg c1).trans ((if_pos c4).trans (rfl)))).symm) (Or.inr rfl) (Or.inr rfl) hP hD hS
    · skip
      refine lv_iload_n hx hb dX11_isMemory_18 rfl (lv_at hl 0 rfl) ?_
      refine k_iS (As := [.int p0]) (rest := []) ⟨hx, hb, hml, hown, hts⟩ hK hP hD hS hA (mX11_op l G cI cB cP   H.size p0 ) (va_cwS 1 hts gX11_isMemory_X11_op rfl rfl rfl (by decide +kernel) ⟨Nat.le_of_ble_eq_true rfl, Nat.le_of_ble_eq_true rfl⟩) rfl hl.1 rfl (Nat.le_of_ble_eq_true rfl) dX11_isMemory_19 ⟨Nat.le_of_ble_eq_true rfl, Nat.le_of_ble_eq_true rfl⟩ (fun z5 H locs hz5 hEz5 hP hS => ?_)
      refine lv_bipush (v := 50) hx hb dX11_isMemory_22 (by decide) ?_
      refine lv_icmp_le (tgt := 40) hx hb dX11_isMemory_24 (by decide) (fun c5 => ?_) (fun c5 => ?_)
      · skip
        refine lv_iconst (v := 0) hx hb dX11_isMemory_40 (by decide) ?_
        exact hret H locs _ ls 0 () dX11_isMemory_41 (by clear hP hD hS hl; replace hz5 := hz5.symm; subst hz5; replace hz4 := hz4.symm; subst hz4; replace hz1 := hz1.symm; subst hz1; exact congrArg (fun x => (x, ())) (((if_neg c1).trans ((if_neg c4).trans ((if_pos c5).trans (rfl))))).symm) (Or.inl rfl) (Or.inl rfl) hP hD hS
      · skip
        refine lv_iload_n hx hb dX11_isMemory_27 rfl (lv_at hl 0 rfl) ?_
        refine k_iS (As := [.int p0]) (rest := []) ⟨hx, hb, hml, hown, hts⟩ hK hP hD hS hA (mX11_op l G cI cB cP   H.size p0 ) (va_cwS 1 hts gX11_isMemory_X11_op rfl rfl rfl (by decide +kernel) ⟨Nat.le_of_ble_eq_true rfl, Nat.le_of_ble_eq_true rfl⟩) rfl hl.1 rfl (Nat.le_of_ble_eq_true rfl) dX11_isMemory_28 ⟨Nat.le_of_ble_eq_true rfl, Nat.le_of_ble_eq_true rfl⟩ (fun z6 H locs hz6 hEz6 hP hS => ?_)
        refine lv_bipush (v := 55) hx hb dX11_isMemory_31 (by decide) ?_
        refine lv_icmp_ge (tgt := 40) hx hb dX11_isMemory_33 (by decide) (fun c6 => ?_) (fun c6 => ?_)
        · skip
          refine lv_iconst (v := 0) hx hb dX11_isMemory_40 (by decide) ?_
          exact hret H locs _ ls 0 () dX11_isMemory_41 (by clear hP hD hS hl; replace hz6 := hz6.symm; subst hz6; replace hz5 := hz5.symm; subst hz5; replace hz4 := hz4.symm; subst hz4; replace hz1 := hz1.symm; subst hz1; exact congrArg (fun x => (x, ())) (((if_neg c1).trans ((if_neg c4).trans ((if_neg c5).trans ((if_pos c6).trans (rfl)))))).symm) (Or.inl rfl) (Or.inl rfl) hP hD hS
        · skip
          refine lv_iconst (v := 1) hx hb dX11_isMemory_36 (by decide) ?_
          refine lv_goto (tgt := 41) hx hb dX11_isMemory_37 (by decide) ?_
          exact hret H locs _ ls 1 () dX11_isMemory_41 (by clear hP hD hS hl; replace hz6 := hz6.symm; subst hz6; replace hz5 := hz5.symm; subst hz5; replace hz4 := hz4.symm; subst hz4; replace hz1 := hz1.symm; subst hz1; exact congrArg (fun x => (x, ())) (((if_neg c1).trans ((if_neg c4).trans ((if_neg c5).trans ((if_neg c6).trans (rfl)))))).symm) (Or.inr rfl) (Or.inr rfl) hP hD hS
def fX11_isSum (p0 : Int32) : Int32 :=
  (let z1 := fX11_op p0; if z1 ≤ 37 then (0) else ((let z2 := fX11_op p0; if 41 ≤ z2 then (0) else (1))))
set_option maxHeartbeats 4000000 in
set_option maxRecDepth 100000 in
theorem mX11_isSum (l : Launch) (G : va_G) (cI cB cP : ClassId) (sz : Nat) (p0 : Int32) : kMi (S := Unit) l yX11_isSum wsX11_isSum ({ frames := 1, cells := 0, slots := 0, locals := 20 }) [.int p0] G (kTY cI cB cP) sz [] (fX11_isSum p0, ()) (fun r _ => isB r) (fun _ => []) := by
  refine k_ofz (cc := cX11_isSum) (maxL := 1) (by decide) rfl (Nat.le_of_ble_eq_true rfl) ?_
  intro p e s m args below meth c A ls Q H locs hx hb hml hown hts hin hK hP hD hA hS hl hret
  have hown : s.vm.findClass RX11 = some m.cls := hown
  have hl : lv_has ls 1 [(0, .int p0)] := hl
  refine lv_iload_n hx hb dX11_isSum_0 rfl (lv_at hl 0 rfl) ?_
  refine k_iS (As := [.int p0]) (rest := []) ⟨hx, hb, hml, hown, hts⟩ hK hP hD hS hA (mX11_op l G cI cB cP   H.size p0 ) (va_cwS 1 hts gX11_isSum_X11_op rfl rfl rfl (by decide +kernel) ⟨Nat.le_of_ble_eq_true rfl, Nat.le_of_ble_eq_true rfl⟩) rfl hl.1 rfl (Nat.le_of_ble_eq_true rfl) dX11_isSum_1 ⟨Nat.le_of_ble_eq_true rfl, Nat.le_of_ble_eq_true rfl⟩ (fun z1 H locs hz1 hEz1 hP hS => ?_)
  refine lv_bipush (v := 37) hx hb dX11_isSum_4 (by decide) ?_
  refine lv_icmp_le (tgt := 22) hx hb dX11_isSum_6 (by decide) (fun c1 => ?_) (fun c1 => ?_)
  · skip
    refine lv_iconst (v := 0) hx hb dX11_isSum_22 (by decide) ?_
    exact hret H locs _ ls 0 () dX11_isSum_23 (by clear hP hD hS hl; replace hz1 := hz1.symm; subst hz1; exact congrArg (fun x => (x, ())) (((if_pos c1).trans (rfl))).symm) (Or.inl rfl) (Or.inl rfl) hP hD hS
  · skip
    refine lv_iload_n hx hb dX11_isSum_9 rfl (lv_at hl 0 rfl) ?_
    refine k_iS (As := [.int p0]) (rest := []) ⟨hx, hb, hml, hown, hts⟩ hK hP hD hS hA (mX11_op l G cI cB cP   H.size p0 ) (va_cwS 1 hts gX11_isSum_X11_op rfl rfl rfl (by decide +kernel) ⟨Nat.le_of_ble_eq_true rfl, Nat.le_of_ble_eq_true rfl⟩) rfl hl.1 rfl (Nat.le_of_ble_eq_true rfl) dX11_isSum_10 ⟨Nat.le_of_ble_eq_true rfl, Nat.le_of_ble_eq_true rfl⟩ (fun z2 H locs hz2 hEz2 hP hS => ?_)
    refine lv_bipush (v := 41) hx hb dX11_isSum_13 (by decide) ?_
    refine lv_icmp_ge (tgt := 22) hx hb dX11_isSum_15 (by decide) (fun c2 => ?_) (fun c2 => ?_)
    · skip
      refine lv_iconst (v := 0) hx hb dX11_isSum_22 (by decide) ?_
      exact hret H locs _ ls 0 () dX11_isSum_23 (by clear hP hD hS hl; replace hz2 := hz2.symm; subst hz2; replace hz1 := hz1.symm; subst hz1; exact congrArg (fun x => (x, ())) (((if_neg c1).trans ((if_pos c2).trans (rfl)))).symm) (Or.inl rfl) (Or.inl rfl) hP hD hS
    · skip
      refine lv_iconst (v := 1) hx hb dX11_isSum_18 (by decide) ?_
      refine lv_goto (tgt := 23) hx hb dX11_isSum_19 (by decide) ?_
      exact hret H locs _ ls 1 () dX11_isSum_23 (by clear hP hD hS hl; replace hz2 := hz2.symm; subst hz2; replace hz1 := hz1.symm; subst hz1; exact congrArg (fun x => (x, ())) (((if_neg c1).trans ((if_neg c2).trans (rfl)))).symm) (Or.inr rfl) (Or.inr rfl) hP hD hS

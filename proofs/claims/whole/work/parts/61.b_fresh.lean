theorem fresh {cs : CSt} {qs : MSt} (k1 : c_tw_cycles cs = 0) (k2 : c_tw_nextIsKnown cs = 0) (k3 : c_st_pc cs = 256) (k4 : c_st_inSlot cs = 0) (k5 : c_sp_sr cs = 1) (k6 : c_sp_epc cs = 0) (k7 : c_sp_esr cs = 0) (k8 : c_sp_eea cs = 0) (k9 : c_sp_held cs = 0) (k10 : c_sp_sum cs = 0) (k11 : c_sp_count cs = 0) (k12 : c_sp_timer cs = 0) (k13 : c_sp_mask cs = 0) (k14 : c_sp_retired cs = 0) (k15 : c_sp_latch cs = 0) (k16 : c_li_passed cs = 0) (k17 : c_li_size cs = 0) (k18 : c_pi_fetched cs = 0) (k19 : c_pi_issued cs = 0) (k20 : c_pi_ended cs = 0) (k21 : c_pi_order cs = 0) (k22 : c_pi_endedBefore cs = 0) (k23 : c_pi_traits cs = 0) (k24 : c_pi_beganGroup cs = 0) (k25 : c_pi_redirectedFetch cs = 0) (k26 : c_ev_count cs = 0) (k27 : c_ev_exceptions cs = 0) (k28 : c_ev_doubleCycles cs = 0) (k29 : c_ev_longestWay cs = 0) (k30 : c_ev_lastCycle cs = 0) (k31 : ∀ j, j < 32 → c_rg cs j = 0) (k32 : ∀ j, j < 512 → c_wo cs j = 0) (k33 : ∀ j, j < 8 → c_iss cs j = 0) (k34 : ∀ j, j < 36 → c_rdy cs j = 0)
    (s1 : c_mp_sets cs = q_m_sets qs) (s2 : c_mp_sets cs = 16 ∨ c_mp_sets cs = 32 ∨ c_mp_sets cs = 64 ∨ c_mp_sets cs = 128) (s3 : MemOk (c_mem cs) (q_mm qs)) (s4 : PgOk (c_mem cs) (c_pg cs)) (s5 : ∀ j, j < 32 → c_co cs j = q_mlc qs j) (s6 : ∀ j, j < 32 → c_va cs j = q_mlv qs j) (s7 : ∀ j, j < 2816 → c_fi cs j = q_mf qs j)
    (z : Int64 × Int32 × Int32 × Int32 × Int32 × Int32 × Int32 × Int32 × Int32 × Int32 × Int32 × Int32 × Int32 × Int32 × Int32 × Int32 × Int32 × Int32 × (Nat → Int32) × (Nat → Int32) × (Nat → Int32) × (Nat → Int32)) (hz : BeginOk z) (hm : (q_m_sum qs, q_m_pc qs, q_m_slot qs, q_m_branch qs, q_m_target qs, q_m_retired qs, q_m_lines qs, q_m_cycles qs, q_m_events qs, q_m_exceptions qs, q_m_doubles qs, q_m_longest qs, q_m_lastStarts qs, q_m_redirected qs, q_m_flagReady qs, q_m_carryReady qs, q_m_sumReady qs, q_m_divided qs, q_mr qs, q_ms qs, q_mw qs, q_mrd qs) = z) : Rel cs qs := by
  obtain ⟨a, b, c, d, ez, ha, hb, hc, hd⟩ := hz
  rw [ez] at hm
  simp only [Prod.mk.injEq] at hm
  obtain ⟨m1, m2, m3, m4, m5, m6, m7, m8, m9, m10, m11, m12, m13, m14, m15, m16, m17, m18, m19, m20, m21, m22⟩ := hm
  have b0 := hb 0 (by omega)
  have bj : ∀ j, j < 10 → ¬ j = 0 → b j = 0 := fun j h1 h2 => by rw [hb j h1, if_neg h2]
  have hbd : ∀ m : Int, 0 ≤ m → bd m 0 := fun m h => ⟨by decide, h⟩
  refine Or.inl ⟨⟨⟨?_, ⟨0, by omega, k1⟩, s1, s2, s3, s4, fun j hj => ?_, k31 0 (by omega), ?_, ?_, ?_, ?_, ?_, ?_, ?_, ?_, ?_, ?_, ⟨0, by omega, k14⟩, ?_, ?_, ?_, ?_, fun j hj => ?_, ?_, ?_, Or.inl k4, ?_, ?_, ?_, s5, s6, ?_, s7, ?_, ⟨0, by omega, k26⟩, ?_, ?_, ?_, Or.inl k2⟩, ?_, k2⟩, k1, m9⟩
  · rw [k1, m8]
  · rw [k31 j hj, m19, ha j hj]
  · rw [k5, m20, b0]; rfl
  · rw [k6, m20, bj 1 (by omega) (by omega)]
  · rw [k7, m20, bj 2 (by omega) (by omega)]
  · rw [k8, m20, bj 3 (by omega) (by omega)]
  · rw [k11, m20, bj 4 (by omega) (by omega)]
  · rw [k12, m20, bj 5 (by omega) (by omega)]
  · rw [k13, m20, bj 6 (by omega) (by omega)]
  · rw [k9, m20, bj 7 (by omega) (by omega)]
  · rw [k15, m20, bj 9 (by omega) (by omega)]
  · rw [k14, m6]
  · rw [k10, m1]
  · rw [k5]; decide
  · rw [k7]; decide
  · rw [k12]; decide
  · rw [k32 j hj, m21, hc j hj]
  · rw [k3, m2]
  · rw [k4, m3]
  · rw [if_pos k4, m4]
  · rw [if_pos k4, m5]
  · rw [k17, m7]
  · rw [k17, k16]
    exact ⟨0, 0, rfl, by omega, rfl, by omega, fun i j _ h => absurd h (by omega), fun j h => absurd h (by omega), fun j h => absurd h (by omega)⟩
  · rw [k26, m9]
  · rw [k27, m10]
  · rw [k28, m11]
  · rw [k29, m12]
  · refine ⟨0, ⟨k21, m9, by omega⟩, ⟨?_, ?_, ?_, ?_, ?_, fun j hj => ?_, fun j hj => ?_, ?_⟩, fun _ => ⟨k18, k19, k20, k23, k24, k25, m14⟩, fun h => absurd h (by omega), fun h => absurd h (by omega), fun _ => k22, fun j hj => ?_, fun h => absurd h (by omega), fun _ => k25, fun h => absurd m14 h, ⟨fun r h1 h2 => ?_, k34 0 (by omega), ?_, ?_, ?_⟩, Or.inr (Or.inl ⟨?_, ?_⟩), fun h => absurd h (by omega), fun h => absurd k4 h, ?_, ⟨?_, Or.inl (by omega)⟩, ?_, ⟨?_, ?_, ?_, fun h => absurd h (by omega)⟩, ⟨0, k14, by omega⟩⟩
    · rw [k18]; exact hbd _ (by omega)
    · rw [k19]; exact hbd _ (by omega)
    · rw [k20]; exact hbd _ (by omega)
    · rw [k22]; exact hbd _ (by omega)
    · rw [k25]; exact hbd _ (by omega)
    · rw [k33 j hj]; exact hbd _ (by omega)
    · rw [k34 j hj]; exact hbd _ (by omega)
    · rw [m18]; decide
    · rw [k33 j hj, if_neg (by omega)]
    · rw [k34 r (by omega), m22, hd r h2]
    · rw [k34 32 (by omega), m15]
    · rw [k34 33 (by omega), m16]
    · rw [k34 34 (by omega), m17]
    · rw [k34 35 (by omega), k18]; decide
    · rw [m18, k18]; decide
    · rw [m13]; exact Or.inl rfl
    · rw [k20]; decide
    · rw [k30, k20]
    · rw [k18, k19]; decide
    · rw [k19, k20]; decide
    · rw [k22, k20]; decide
theorem okX10_restart {cs : CSt} {qs : MSt} (h : Rel cs qs) : sX10_restart (c_rg cs) (c_wo cs) (c_iss cs) (c_rdy cs) := s_restart _ _ _ _
set_option maxHeartbeats 2000000 in
theorem st_restart {cs : CSt} {qs : MSt} (h : Rel cs qs) : Rel (c_restart cs) (m_restart qs) ∧ pgc (c_pg cs) ≤ pgc (c_pg (c_restart cs)) := by
  have hS := h.rs
  refine ⟨?_, Nat.le_refl _⟩
  have hb := f_begin (q_mr qs) (q_ms qs) (q_mw qs) (q_mrd qs)
  have e1 : m_restart qs = (let z := fX11_begin (q_mr qs) (q_ms qs) (q_mw qs) (q_mrd qs); ((0 : Int32), q_m_sets qs, z.1, z.2.1, z.2.2.1, z.2.2.2.1, z.2.2.2.2.1, z.2.2.2.2.2.1, z.2.2.2.2.2.2.1, z.2.2.2.2.2.2.2.1, z.2.2.2.2.2.2.2.2.1, z.2.2.2.2.2.2.2.2.2.1, z.2.2.2.2.2.2.2.2.2.2.1, z.2.2.2.2.2.2.2.2.2.2.2.1, q_m_word qs, q_m_codeFault qs, q_m_fetched qs, q_m_issued qs, q_m_due qs, q_m_starts qs, q_m_exception qs, q_m_eea qs, q_m_register qs, q_m_value qs, q_m_flag qs, q_m_carry qs, q_m_overflow qs, q_m_sums qs, q_m_newSum qs, q_m_store qs, q_m_bytes qs, q_m_stored qs, q_m_next qs, q_m_goal qs, q_m_returns qs, q_m_lastWord qs, q_m_lastReadable qs, q_m_lastPc qs, q_m_lastFetched qs, z.2.2.2.2.2.2.2.2.2.2.2.2.1, q_m_lastApart qs, z.2.2.2.2.2.2.2.2.2.2.2.2.2.1, q_m_behind qs, z.2.2.2.2.2.2.2.2.2.2.2.2.2.2.1, z.2.2.2.2.2.2.2.2.2.2.2.2.2.2.2.1, z.2.2.2.2.2.2.2.2.2.2.2.2.2.2.2.2.1, z.2.2.2.2.2.2.2.2.2.2.2.2.2.2.2.2.2.1, q_m_foreseen qs, q_m_expected qs, q_m_went qs, q_mm qs, z.2.2.2.2.2.2.2.2.2.2.2.2.2.2.2.2.2.2.1, z.2.2.2.2.2.2.2.2.2.2.2.2.2.2.2.2.2.2.2.1, z.2.2.2.2.2.2.2.2.2.2.2.2.2.2.2.2.2.2.2.2.1, q_mlc qs, q_mlv qs, q_mf qs, q_mis qs, q_mdu qs, z.2.2.2.2.2.2.2.2.2.2.2.2.2.2.2.2.2.2.2.2.2)) := by
    unfold m_restart fX11_restart
    generalize fX11_begin (q_mr qs) (q_ms qs) (q_mw qs) (q_mrd qs) = z
    rfl
  rw [e1]
  generalize fX11_begin (q_mr qs) (q_ms qs) (q_mw qs) (q_mrd qs) = z at hb ⊢
  unfold c_restart fX10_restart fX9_reset fX8_reset fX7_reset fX5_reset
  have f1 : ∀ j, j < 32 → fJ7_fill_53178 (c_rg cs) 32 0 j = 0 := fun j hj => f_fill (by omega) _ _ hj
  have f2 : ∀ j, j < 512 → fJ7_fill_53178 (c_wo cs) 512 0 j = 0 := fun j hj => f_fill (by omega) _ _ hj
  have f3 : ∀ j, j < 8 → fJ7_fill_53178 (c_iss cs) 8 0 j = 0 := fun j hj => f_fill (by omega) _ _ hj
  have f4 : ∀ j, j < 36 → fJ7_fill_53178 (c_rdy cs) 36 0 j = 0 := fun j hj => f_fill (by omega) _ _ hj
  generalize fJ7_fill_53178 (c_rg cs) 32 0 = g1 at f1 ⊢
  generalize fJ7_fill_53178 (c_wo cs) 512 0 = g2 at f2 ⊢
  generalize fJ7_fill_53178 (c_iss cs) 8 0 = g3 at f3 ⊢
  generalize fJ7_fill_53178 (c_rdy cs) 36 0 = g4 at f4 ⊢
  exact fresh rfl rfl rfl rfl rfl rfl rfl rfl rfl rfl rfl rfl rfl rfl rfl rfl rfl rfl rfl rfl rfl rfl rfl rfl rfl rfl rfl rfl rfl rfl f1 f2 f3 f4 hS.sets hS.setsv hS.mem hS.mem0 hS.lco hS.lva hS.rec z hb rfl
theorem sets_eq (p : Int32) : fX10_setsFor p = mSets p ∧ (fX10_setsFor p = 16 ∨ fX10_setsFor p = 32 ∨ fX10_setsFor p = 64 ∨ fX10_setsFor p = 128) := by
  unfold fX10_setsFor mSets
  have h1 : p < 128 ↔ ¬ (128 : Int32) ≤ p := by rw [ilt, ile]; omega
  have h2 : p < 64 ↔ ¬ (64 : Int32) ≤ p := by rw [ilt, ile]; omega
  have h3 : p < 32 ↔ ¬ (32 : Int32) ≤ p := by rw [ilt, ile]; omega
  have i1 : (128 : Int32) ≤ p → (64 : Int32) ≤ p := by rw [ile, ile]; intro h; have a : (128 : Int32).toInt = 128 := rfl; have b : (64 : Int32).toInt = 64 := rfl; omega
  have i2 : (64 : Int32) ≤ p → (32 : Int32) ≤ p := by rw [ile, ile]; intro h; have a : (32 : Int32).toInt = 32 := rfl; have b : (64 : Int32).toInt = 64 := rfl; omega
  by_cases c1 : (128 : Int32) ≤ p
  · rw [if_neg (fun q => h1.mp q c1), if_pos (i2 (i1 c1)), if_pos (i1 c1), if_pos c1]
    exact ⟨rfl, Or.inr (Or.inr (Or.inr rfl))⟩
  · rw [if_pos (h1.mpr c1)]
    by_cases c2 : (64 : Int32) ≤ p
    · rw [if_neg (fun q => h2.mp q c2), if_pos (i2 c2), if_pos c2, if_neg c1]
      exact ⟨rfl, Or.inr (Or.inr (Or.inl rfl))⟩
    · rw [if_pos (h2.mpr c2)]
      by_cases c3 : (32 : Int32) ≤ p
      · rw [if_neg (fun q => h3.mp q c3), if_pos c3, if_neg c2]
        exact ⟨rfl, Or.inr (Or.inl rfl)⟩
      · rw [if_pos (h3.mpr c3), if_neg c3]
        exact ⟨rfl, Or.inl rfl⟩
set_option maxHeartbeats 2000000 in
theorem rel0 (p0 j1 : Int32) (z1 : Int64 × Int32 × Int32 × Int32 × Int32 × Int32 × Int32 × Int32 × Int32 × Int32 × Int32 × Int32 × Int32 × Int32 × Int32 × Int32 × Int32 × Int32 × (Nat → Int32) × (Nat → Int32) × (Nat → Int32) × (Nat → Int32)) (h1 : j1 = mSets p0) (h : z1 = fX11_begin (fun _ => 0) (fun _ => 0) (fun _ => 0) (fun _ => 0)) : Rel (cs0 p0) (qs0 j1 z1) := by
  have hb := f_begin (fun _ => 0) (fun _ => 0) (fun _ => 0) (fun _ => 0)
  rw [← h] at hb
  clear h
  obtain ⟨q1, q2⟩ := sets_eq p0
  unfold cs0
  rw [q1, ← h1] at q2 ⊢
  have hmem : ∀ k, k < 16384 → (0 : Int32) = wd (fun _ => 0) (4 * k) := fun k _ => by
    refine b_ext (fun i hi => ?_)
    rw [bt_wd _ _ hi, b_0, b_0]
  exact fresh rfl rfl rfl rfl rfl rfl rfl rfl rfl rfl rfl rfl rfl rfl rfl rfl rfl rfl rfl rfl rfl rfl rfl rfl rfl rfl rfl rfl rfl rfl (fun _ _ => rfl) (fun _ _ => rfl) (fun _ _ => rfl) (fun _ _ => rfl) rfl q2 hmem (fun _ _ _ => rfl) (fun _ _ => rfl) (fun _ _ => rfl) (fun _ _ => rfl) z1 hb rfl

/-! ===== pure: obligations of an event, on the reference's side ===== -/
theorem sr_more (ms : Nat → Int32) (p0 p1 p2 p3 : Int32) : sX11_more ms p0 p1 p2 p3 := by
  have hd : ¬ p2 = 0 → ¬ p2.toInt64 &&& 4294967295 = 0 := by
    intro h q
    apply h
    have := u_long p2
    rw [q] at this
    apply u_ext
    have z : (0 : Int64).toInt = 0 := rfl
    rw [z] at this
    have z2 : uw 0 = 0 := rfl
    omega
  have hb : ∀ x y : Int32, sX11_bitOf x y := by
    intro x y
    have key : ∀ (m n : Nat) (r : Int32), n + m = 32 → sgX11_bitOf_4 x y (m + 1) (nI (n + 1), r) := by
      intro m
      induction m with
      | zero =>
        intro n r h
        have : n = 32 := by omega
        subst this
        exact ⟨fun _ => trivial, fun q => absurd (by decide : (33 : Int32) ≤ 33) q⟩
      | succ m ih =>
        intro n r h
        refine ⟨fun _ => trivial, fun _ => ⟨⟨fun _ => ⟨fun _ => trivial, fun _ => ⟨fun _ => trivial, fun _ => trivial⟩⟩, fun _ => trivial⟩, fun j2 _ => ?_⟩⟩
        show sgX11_bitOf_4 x y (m + 1) (nI (n + 1) + 1, j2)
        rw [nI_1]
        exact ih (n + 1) j2 (by omega)
    exact key 32 0 0 rfl
  unfold sX11_more
  simp only [implies_true, forall_eq, and_self, and_true, hb]
  exact ⟨trivial, fun _ => ⟨trivial, fun _ => ⟨trivial, fun _ => fun _ => ⟨trivial, hd⟩⟩⟩⟩
theorem sr_result (p0 p2 : Int32) : sX11_result p0 p2 := by
  unfold sX11_result
  have hd : ¬ p2 = 0 → ¬ p2 = -1 → ¬ p2 = 0 := fun h _ => h
  have hd2 : (¬ p2 = 0 → ¬ p2 = -1 → ¬ p2 = 0) ↔ True := ⟨fun _ => trivial, fun _ => hd⟩
  simp only [implies_true, forall_eq, and_self, and_true, true_and, hd2]
theorem sr_work (sum : Int64) (w c o : Int32) (ms : Nat → Int32) (p0 p1 p2 p3 p4 p5 : Int32) : sX11_work sum w c o ms p0 p1 p2 p3 p4 p5 := by
  unfold sX11_work
  simp only [implies_true, forall_eq, and_self, and_true, sr_more, sr_result]
theorem sr_access {sets w x e s b st : Int32} {mm mr ms mw : Nat → Int32} (hs : sets = 16 ∨ sets = 32 ∨ sets = 64 ∨ sets = 128) (p0 p1 p2 : Int32) (hp1 : vp_in p1 32) : sX11_access sets w x e s b st mm mr ms mw p0 p1 p2 := by
  unfold sX11_access
  refine ⟨⟨fun _ => trivial, fun _ => ⟨fun _ => trivial, fun _ => ⟨fun _ => trivial, fun _ => trivial⟩⟩⟩, fun j1 hj1 z2 hz2 => ⟨sm_data hs _ _ _ _ _, fun z3 hz3 => ⟨fun h0 z4 hz4 => ⟨fun _ => ?_, fun _ => ⟨⟨fun _ => ⟨hp1, trivial⟩, fun _ => ⟨fun _ => ⟨hp1, trivial⟩, fun _ => ⟨hp1, trivial⟩⟩⟩, fun _ _ => trivial⟩⟩, fun _ => trivial⟩⟩⟩
  have hsz : ∃ n : Nat, (n = 1 ∨ n = 2 ∨ n = 4) ∧ j1 = nI n := by
    rw [hj1]
    split
    · exact ⟨4, by omega, rfl⟩
    · split
      · exact ⟨4, by omega, rfl⟩
      · split
        · exact ⟨1, by omega, rfl⟩
        · exact ⟨2, by omega, rfl⟩
  obtain ⟨n, hn, ej⟩ := hsz
  clear hj1
  subst ej
  subst hz3
  by_cases hal : p2 &&& (nI n - 1) = 0
  · obtain ⟨d1, d2⟩ := e_data (sr := ms 0) (wo := mw) (mw := mw) (ms := ms) hs (fun _ _ => rfl) rfl p2 (nI n) z2 hal
    have h0' : 0 ≤ fX11_dataAt sets ms mw p2 (nI n) z2 := h0
    have hfin : ∃ a : Nat, a < 65536 ∧ a % n = 0 ∧ fX11_dataAt sets ms mw p2 (nI n) z2 = nI a := by
      rw [d1] at h0' ⊢
      rcases d2 with ⟨J, q1, q2⟩ | q | q
      · rw [q1] at h0' ⊢
        unfold dataR at h0' ⊢
        by_cases hc : (if z2 = 0 then 0 else 32768) ≤ uw J ∧ uw J < 65536
        · rw [if_pos hc]
          refine ⟨uw J, hc.2, ?_, u_self J⟩
          have := al_of hn hal
          rcases hn with hn | hn | hn <;> rw [hn] at this ⊢ <;> omega
        · rw [if_neg hc] at h0'
          exact absurd h0' (by decide)
      · rw [q] at h0'; exact absurd h0' (by decide)
      · rw [q] at h0'; exact absurd h0' (by decide)
    obtain ⟨a, ha, ham, ea⟩ := hfin
    obtain ⟨q1, q2, q3, q4⟩ := sz_in hn ham ha
    rw [ea]
    exact sg_acc q4 q1 5 0 0 (by omega) (by omega)
  · have hd6 : fX11_dataAt sets ms mw p2 (nI n) z2 = -6 := by
      unfold fX11_dataAt
      rw [if_neg hal]
    have h0' : 0 ≤ fX11_dataAt sets ms mw p2 (nI n) z2 := h0
    rw [hd6] at h0'
    exact absurd h0' (by decide)
theorem sr_special {size passed ret sets : Int32} {ms co mlc mlv : Nat → Int32} (h : LinesOk size passed co ret) (p : Int32) : sX11_special sets ret size ms mlc mlv p := sm_special h p
theorem has_B (ms : Nat → Int32) (c : Int32) : isB (fX11_has ms c) := by rw [has_b]; exact isB_ite _
theorem sr_go (op : Int32) (ms : Nat → Int32) : isB (if op = 22 then fX11_has ms 32 else (if op = 23 then (if fX11_has ms 32 = 0 then (1 : Int32) else 0) else 1)) := by
  split
  · exact has_B ms 32
  · split
    · exact isB_ite' _
    · exact Or.inr rfl

set_option maxHeartbeats 1000000 in
theorem sr_perform {sets pc ret lines w x e reg v c o sums st yb mst passed : Int32} {sum ns : Int64} {mm mr ms mw mlc mlv co : Nat → Int32} (hs : sets = 16 ∨ sets = 32 ∨ sets = 64 ∨ sets = 128) (hl : LinesOk lines passed co ret) : sX11_perform sets sum pc ret lines w x e reg v c o sums ns st yb mst mm mr ms mw mlc mlv := by
  have hd : vp_in ((w >>> ((21 : Int32) &&& 31)) &&& 31) 32 := in31 _
  have ha : ∀ p0 p2 : Int32, sX11_access sets w x e st yb mst mm mr ms mw p0 ((w >>> ((21 : Int32) &&& 31)) &&& 31) p2 := fun p0 p2 => sr_access hs p0 _ p2 hd
  have hsp : ∀ p : Int32, sX11_special sets ret lines ms mlc mlv p := fun p => sm_special hl p
  have hgo := sr_go (fX11_op w) ms
  unfold sX11_perform
  simp only [implies_true, forall_eq, and_self, and_true, sr_work, ha, hsp, hgo]
set_option maxHeartbeats 1000000 in
theorem sr_look {sets pc slot ret lines mv yb st went passed : Int32} {sum ns : Int64} {mm mr ms mw mlc mlv co : Nat → Int32} (hs : sets = 16 ∨ sets = 32 ∨ sets = 64 ∨ sets = 128) (hl : LinesOk lines passed co ret) : sX11_look sets sum pc slot ret lines mv ns yb st went mm mr ms mw mlc mlv := by
  have hcode := sm_code hs ms mw pc
  have hstat : sX11_status ret lines mlc mlv := sm_status hl
  have hperf : ∀ w : Int32, sX11_perform sets sum pc ret lines w 0 0 0 mv (-1) (-1) 0 ns (-1) yb st mm mr ms mw mlc mlv := fun w => sr_perform hs hl
  have hword : ∀ z1 : Int32 × Int32, z1 = fX11_codeAt sets ms mw pc → z1.2 ≤ 0 → sX11_wordIn mm z1.1 := by
    intro z1 hz h0
    obtain ⟨c, hc, hcode'⟩ := e_code (ms := ms) (sr := ms 0) (wo := mw) (mw := mw) hs (fun _ _ => rfl) rfl pc
    rcases hcode' with ⟨a, ha, ha4, ec, em⟩ | ⟨k, k0, k14, ec, em⟩
    · rw [hz, em]
      exact s_word (by omega) 5 0 0 (by omega) (by omega)
    · rw [hz, em] at h0
      exact absurd h0 (nI_ge (b := k) (a := 0) k0 (by omega))
  unfold sX11_look
  refine ⟨hcode, fun z1 hz1 => ⟨⟨fun h0 => ⟨hword z1 hz1 h0, fun _ _ => trivial⟩, fun _ => trivial⟩, fun j2 _ => ?_⟩⟩
  simp only [implies_true, and_self, and_true, hstat, hperf]
set_option maxHeartbeats 1000000 in
theorem sg_reckon (ev w x fr cr sm dv : Int32) (mdu mrd : Nat → Int32) (j1 j3 j4 : Int32) : ∀ (f k : Nat) (v : Int32), k ≤ 32 → 32 < k + f → sgX11_reckon_246 ev w x fr cr sm dv mdu mrd j1 j3 j4 f (nI k, v)
  | 0, k, v, h1, h2 => absurd h2 (by omega)
  | f + 1, k, v, h1, h2 => by
    unfold sgX11_reckon_246
    refine ⟨fun _ => ?_, fun h3 => ⟨fun _ => ?_, fun _ => fun z65 _ => ⟨⟨fun _ => trivial, fun _ => ⟨?_, fun _ _ => trivial⟩⟩, fun j66 _ => ?_⟩⟩⟩
    · simp only [implies_true, and_self]
    · simp only [implies_true, and_self]
    · exact vp_in_nI (Nat.not_le.mp fun q => h3 (nI_le (a := 32) q (by omega))) (by decide)
    · show sgX11_reckon_246 ev w x fr cr sm dv mdu mrd j1 j3 j4 f (nI k + 1, j66)
      rw [nI_1]
      have : k < 32 := Nat.not_le.mp fun q => h3 (nI_le (a := 32) q (by omega))
      exact sg_reckon ev w x fr cr sm dv mdu mrd j1 j3 j4 f (k + 1) _ (by omega) (by omega)
set_option maxHeartbeats 1000000 in
theorem sr_reckon (a1 a2 a3 a4 a5 a6 a7 a8 a9 a10 a11 a12 a13 a14 a15 a16 a17 : Int32) (mis mdu mrd : Nat → Int32) : sX11_reckon a1 a2 a3 a4 a5 a6 a7 a8 a9 a10 a11 a12 a13 a14 a15 a16 a17 mis mdu mrd := by
  have hg : ∀ j1 j3 j4 j5 : Int32, sgX11_reckon_246 a2 a3 a5 a14 a15 a16 a17 mdu mrd j1 j3 j4 33 (1, j5) := fun j1 j3 j4 j5 => sg_reckon _ _ _ _ _ _ _ _ _ _ _ _ 33 1 j5 (by omega) (by omega)
  unfold sX11_reckon
  simp only [implies_true, and_self, and_true, hg]
theorem sr_wsp {sets : Int32} {p : Nat} (hp : p < 65536) : sX11_writeSpecial sets (nI p) := by
  have hv : ¬ (10 : Int32) ≤ nI p → vp_in (nI p) 10 := fun h => vp_in_nI (Nat.not_le.mp fun q => h (nI_le (a := 10) q (by omega))) (by decide)
  have hm : ¬ fX11_isMap sets (nI p) = 0 → vp_in (nI p - 1024) 512 := by
    intro h
    rw [← e_isOne] at h
    obtain ⟨k, hk, e⟩ := one_in h
    rw [e]
    exact vp_in_nI hk (by decide)
  unfold sX11_writeSpecial
  refine ⟨fun _ => trivial, fun _ => ⟨fun _ => trivial, fun _ => ⟨fun _ => trivial, fun _ => fun z1 hz => ?_⟩⟩⟩
  subst hz
  refine ⟨fun _ => ⟨fun _ => trivial, fun h => ⟨fun _ => trivial, fun _ => ⟨fun _ => ⟨hv h, trivial⟩, fun _ => ⟨fun _ => ⟨hv h, trivial⟩, fun _ => ⟨fun _ => ⟨hv h, trivial⟩, fun _ => ⟨fun _ => ⟨hv h, trivial⟩, fun _ => ⟨hv h, trivial⟩⟩⟩⟩⟩⟩⟩, fun h => ⟨hm h, trivial⟩⟩
set_option maxHeartbeats 1000000 in
theorem sr_retire {sets pc slot br tg ret lines w reg v fl ca ov sums store bytes mst next goal returns fsn exp' passed : Int32} {sum ns : Int64} {mm mr ms mw mlc mlv co : Nat → Int32} (hreg : ¬ reg ≤ 0 → vp_in reg 32) (hst : ¬ store < 0 → sX11_put mm store mst bytes) (hl : LinesOk lines passed co (ret + 1)) : sX11_retire sets sum pc slot br tg ret lines w reg v fl ca ov sums ns store bytes mst next goal returns fsn exp' mm mr ms mw mlc mlv := by
  have hw : sX11_writeSpecial sets (w &&& 65535) := by
    have : w &&& 65535 = nI (uw w % 65536) := by
      apply u_ext
      rw [u_and 16 (by decide), u_nI (by omega)]
    rw [this]
    exact sr_wsp (by omega)
  have hlin : sX11_linesNow (ret + 1) lines mlc mlv := sm_lines hl
  have hreg' : (¬ reg ≤ 0 → vp_in reg 32) ↔ True := ⟨fun _ => trivial, fun _ => hreg⟩
  have hst' : (¬ store < 0 → sX11_put mm store mst bytes) ↔ True := ⟨fun _ => trivial, fun _ => hst⟩
  unfold sX11_retire
  simp only [implies_true, and_self, and_true, true_and, hw, hlin, hreg', hst']
set_option maxHeartbeats 2000000 in
theorem sr_happen (m_sets : Int32) (m_sum : Int64) (m_pc : Int32) (m_slot : Int32) (m_branch : Int32) (m_target : Int32) (m_retired : Int32) (m_lines : Int32) (m_events : Int32) (m_longest : Int32) (m_word : Int32) (m_codeFault : Int32) (m_issued : Int32) (m_due : Int32) (m_starts : Int32) (m_exception : Int32) (m_eea : Int32) (m_register : Int32) (m_value : Int32) (m_flag : Int32) (m_carry : Int32) (m_overflow : Int32) (m_sums : Int32) (m_newSum : Int64) (m_store : Int32) (m_bytes : Int32) (m_stored : Int32) (m_next : Int32) (m_goal : Int32) (m_returns : Int32) (m_flagReady : Int32) (m_carryReady : Int32) (m_sumReady : Int32) (m_divided : Int32) (m_foreseen : Int32) (m_expected : Int32) (m_went : Int32) (mm : Nat → Int32) (mr : Nat → Int32) (ms : Nat → Int32) (mw : Nat → Int32) (mlc : Nat → Int32) (mlv : Nat → Int32) (mis : Nat → Int32) (mdu : Nat → Int32) (mrd : Nat → Int32) {ev : Nat} (he : m_events = nI ev) (hev : ev ≤ 120000) (hst : isB m_starts) (hw : vp_in (fX11_writes m_word) 32) (hret : m_exception ≤ 0 → sX11_retire m_sets m_sum m_pc m_slot m_branch m_target m_retired m_lines m_word m_register m_value m_flag m_carry m_overflow m_sums m_newSum m_store m_bytes m_stored m_next m_goal m_returns m_foreseen m_expected mm mr ms mw mlc mlv) : sX11_happen m_sets m_sum m_pc m_slot m_branch m_target m_retired m_lines m_events m_longest m_word m_codeFault m_issued m_due m_starts m_exception m_eea m_register m_value m_flag m_carry m_overflow m_sums m_newSum m_store m_bytes m_stored m_next m_goal m_returns m_flagReady m_carryReady m_sumReady m_divided m_foreseen m_expected m_went mm mr ms mw mlc mlv mis mdu mrd := by
  have cc : ∀ k : Nat, k ≤ 10 → vp_in ((11 * (jrem m_events 256)) + nI k) 2816 := by
    intro k hk
    rw [he, show jrem (nI ev) 256 = nI (ev % 256) from pk_rem (d := 256) (by omega) (by omega) (by omega), show 11 * nI (ev % 256) = nI (11 * (ev % 256)) from pk_mul 11 _, nI_add]
    exact vp_in_nI (by omega) (by decide)
  have c0 : vp_in (11 * (jrem m_events 256)) 2816 := by
    rw [he, show jrem (nI ev) 256 = nI (ev % 256) from pk_rem (d := 256) (by omega) (by omega) (by omega), show 11 * nI (ev % 256) = nI (11 * (ev % 256)) from pk_mul 11 _]
    exact vp_in_nI (by omega) (by decide)
  have c1 : vp_in ((11 * (jrem m_events 256)) + 1) 2816 := cc 1 (by omega)
  have c2 : vp_in ((11 * (jrem m_events 256)) + 2) 2816 := cc 2 (by omega)
  have c3 : vp_in ((11 * (jrem m_events 256)) + 3) 2816 := cc 3 (by omega)
  have c4 : vp_in ((11 * (jrem m_events 256)) + 4) 2816 := cc 4 (by omega)
  have c5 : vp_in ((11 * (jrem m_events 256)) + 5) 2816 := cc 5 (by omega)
  have c6 : vp_in ((11 * (jrem m_events 256)) + 6) 2816 := cc 6 (by omega)
  have c7 : vp_in ((11 * (jrem m_events 256)) + 7) 2816 := cc 7 (by omega)
  have c8 : vp_in ((11 * (jrem m_events 256)) + 8) 2816 := cc 8 (by omega)
  have c9 : vp_in ((11 * (jrem m_events 256)) + 9) 2816 := cc 9 (by omega)
  have c10 : vp_in ((11 * (jrem m_events 256)) + 10) 2816 := cc 10 (by omega)
  have hret' : (m_exception ≤ 0 → sX11_retire m_sets m_sum m_pc m_slot m_branch m_target m_retired m_lines m_word m_register m_value m_flag m_carry m_overflow m_sums m_newSum m_store m_bytes m_stored m_next m_goal m_returns m_foreseen m_expected mm mr ms mw mlc mlv) ↔ True := ⟨fun _ => trivial, fun _ => hret⟩
  have hst' : isB m_starts ↔ True := ⟨fun _ => trivial, fun _ => hst⟩
  clear hret hst cc
  unfold sX11_happen
  simp only [implies_true, forall_eq, and_self, and_true, true_and, hw, hret', hst', c0, c1, c2, c3, c4, c5, c6, c7, c8, c9, c10]
theorem ms_loop0 (cy ev p0 : Int32) (n : Nat) (qs : MSt) : sgX11_runCycles_48 (q_m_sets qs) (q_m_lines qs) cy ev (q_mlc qs) (q_mlv qs) p0 (n + 1) (mtup 0 qs) := by
  unfold sgX11_runCycles_48
  exact ⟨fun _ => trivial, fun q => absurd (show (mtup 0 qs).1 = 0 from rfl) q⟩
set_option maxHeartbeats 2000000 in
theorem ms_loop1 {cy ev p0 : Int32} {n : Nat} {qs : MSt} (h1 : sX11_look (q_m_sets qs) (q_m_sum qs) (q_m_pc qs) (q_m_slot qs) (q_m_retired qs) (q_m_lines qs) (q_m_value qs) (q_m_newSum qs) (q_m_bytes qs) (q_m_stored qs) (q_m_went qs) (q_mm qs) (q_mr qs) (q_ms qs) (q_mw qs) (q_mlc qs) (q_mlv qs)) (h2 : ∀ L : MLook, sX11_reckon (q_m_pc qs) (q_m_events qs) (L.1) (L.2.1) (L.2.2.1) (q_m_lastWord qs) (q_m_lastReadable qs) (q_m_lastPc qs) (q_m_lastFetched qs) (q_m_lastStarts qs) (q_m_lastApart qs) (q_m_redirected qs) (q_m_behind qs) (q_m_flagReady qs) (q_m_carryReady qs) (q_m_sumReady qs) (q_m_divided qs) (q_mis qs) (q_mdu qs) (q_mrd qs)) (h3 : (cy + p0) < (K_ qs).2.2.1 → sgX11_runCycles_48 (q_m_sets qs) (q_m_lines qs) cy ev (q_mlc qs) (q_mlv qs) p0 n (mtup 0 (mLook qs))) (h4 : ∀ (L : MLook) (K : Int32 × Int32 × Int32 × Int32), L = L_ qs → K = KG L qs → ¬ (cy + p0) < K.2.2.1 → (sX11_happen (q_m_sets qs) (q_m_sum qs) (q_m_pc qs) (q_m_slot qs) (q_m_branch qs) (q_m_target qs) (q_m_retired qs) (q_m_lines qs) (q_m_events qs) (q_m_longest qs) (L.1) (L.2.1) (K.2.1) (K.2.2.1) (K.2.2.2) (L.2.2.1) (L.2.2.2.1) (L.2.2.2.2.1) (L.2.2.2.2.2.1) (L.2.2.2.2.2.2.1) (L.2.2.2.2.2.2.2.1) (L.2.2.2.2.2.2.2.2.1) (L.2.2.2.2.2.2.2.2.2.1) (L.2.2.2.2.2.2.2.2.2.2.1) (L.2.2.2.2.2.2.2.2.2.2.2.1) (L.2.2.2.2.2.2.2.2.2.2.2.2.1) (L.2.2.2.2.2.2.2.2.2.2.2.2.2.1) (L.2.2.2.2.2.2.2.2.2.2.2.2.2.2.1) (L.2.2.2.2.2.2.2.2.2.2.2.2.2.2.2.1) (L.2.2.2.2.2.2.2.2.2.2.2.2.2.2.2.2.1) (q_m_flagReady qs) (q_m_carryReady qs) (q_m_sumReady qs) (q_m_divided qs) (q_m_foreseen qs) (q_m_expected qs) (L.2.2.2.2.2.2.2.2.2.2.2.2.2.2.2.2.2) (q_mm qs) (q_mr qs) (q_ms qs) (q_mw qs) (q_mlc qs) (q_mlv qs) (q_mis qs) (q_mdu qs) (q_mrd qs)) ∧ sgX11_runCycles_48 (q_m_sets qs) (q_m_lines qs) cy ev (q_mlc qs) (q_mlv qs) p0 n (mtup 1 (mDone (mLookG L K qs)))) : sgX11_runCycles_48 (q_m_sets qs) (q_m_lines qs) cy ev (q_mlc qs) (q_mlv qs) p0 (n + 1) (mtup 1 qs) := by
  unfold sgX11_runCycles_48
  refine ⟨fun _ => trivial, fun _ => ⟨h1, fun z2 hz2 => ?_⟩⟩
  rw [mL_eq] at hz2
  have h2' := h2 z2
  have h4' := h4 z2
  unfold mLook K_ at h3
  rw [← hz2] at h3
  dsimp only [mtup]
  refine ⟨h2', fun z3 hz3 => ?_⟩
  rw [mK_eq] at hz3
  have h4'' := h4' z3 hz2 hz3
  rw [← hz3] at h3
  refine ⟨⟨fun _ => trivial, fun _ => trivial⟩, fun j4 hj4 => ⟨fun h0 => ?_, fun h0 => ?_⟩⟩
  · have hlt : (cy + p0) < z3.2.2.1 := by
      refine Classical.not_not.mp fun q => ?_
      rw [if_neg q] at hj4
      rw [hj4] at h0
      exact absurd h0 (by decide)
    rw [h0]
    exact h3 hlt
  · have hlt : ¬ (cy + p0) < z3.2.2.1 := by
      intro q
      rw [if_pos q] at hj4
      exact h0 hj4
    obtain ⟨q1, q2⟩ := h4'' hlt
    have hj1 : j4 = 1 := by rw [hj4, if_neg hlt]
    rw [mH_eqG z2 z3 qs]
    unfold mDone at q2
    generalize H_ (mLookG z2 z3 qs) = H at q2 ⊢
    refine ⟨q1, fun z5 hz5 => ?_⟩
    subst hz5
    rw [hj1]
    exact q2
theorem base_ok {cs : CSt} {qs : MSt} (hB : Base cs qs) {L : MLook} (hLe : L = L_ qs) (x0 : L.2.2.1 ≤ 0) : (¬ L.2.2.2.2.1 ≤ 0 → vp_in L.2.2.2.2.1 32) ∧ (¬ L.2.2.2.2.2.2.2.2.2.2.2.1 < 0 → sX11_put (q_mm qs) L.2.2.2.2.2.2.2.2.2.2.2.1 L.2.2.2.2.2.2.2.2.2.2.2.2.2.1 L.2.2.2.2.2.2.2.2.2.2.2.2.1) := by
  subst hLe
  obtain ⟨hLR, _⟩ := look_LR hB.1
  have hI := ins_ok hLR
  generalize L_ qs = L at hLR hI x0 ⊢
  generalize C_ cs = C at hLR hI
  obtain ⟨l1, l2, l3⟩ := hLR
  have hx0 : C.2.2.2.2.2.2.2.2.2.1 = 0 := by
    obtain ⟨v1, ⟨k, hk, ek⟩, _⟩ := l3
    rw [← v1, ek] at x0
    have a1 : nI k ≤ 0 ↔ k ≤ 0 := nI_leI (b := 0) (by omega) (by omega)
    have := a1.mp x0
    rw [ek, show k = 0 by omega]; rfl
  obtain ⟨r1, _, r3, _⟩ := l3.2.2.2.1 hx0
  obtain ⟨k, hk⟩ := wr_T hI
  refine ⟨fun _ => by rw [r1, hk]; exact vp_in_nI k.isLt (by decide), fun h => ?_⟩
  rcases r3 with ⟨_, q2⟩ | ⟨p, n, hn, hpn, hp, q1, q2, q3, q4, q5⟩
  · rw [q2] at h; exact absurd neg1 h
  · rw [q4, q2]
    obtain ⟨b1, b2, b3, b4⟩ := sz_in hn hpn hp
    exact s_put b4 b1 5 0 _ (by omega) (by omega)
theorem w_in (w : Int32) : vp_in (fX11_writes w) 32 := by
  obtain ⟨n, e, en, ee, _⟩ := lw_ex w
  obtain ⟨k, hk⟩ := wr_lt n e en ee
  rw [hk]; exact vp_in_nI k.isLt (by decide)
theorem base_lines {cs : CSt} {qs : MSt} (hB : Base cs qs) : LinesOk (q_m_lines qs) (c_li_passed cs) (c_co cs) (q_m_retired qs) ∧ LinesOk (q_m_lines qs) (c_li_passed cs) (c_co cs) (q_m_retired qs + 1) := by
  obtain ⟨ev, r, ec, hev, er, hr⟩ := base_ret hB
  have h := hB.1.lin
  rw [hB.1.lsz, hB.1.ret] at h
  refine ⟨h, lines_mono h ?_⟩
  have : q_m_retired qs = nI r := by rw [← hB.1.ret]; exact er
  rw [this, nI_1]
  exact nI_le (by omega) (by omega)
set_option maxHeartbeats 2000000 in
theorem sm_loop {p old : Nat} (hp : p ≤ 2000) (hold : old + p ≤ 60000) (ev0 : Int32) : ∀ (m i : Nat) (cs : CSt) (qs : MSt), Base cs qs → i ≤ 2 * p → 2 * p + 3 ≤ i + m → (i = 0 → (old : Int) < (T_ cs).2.2.1.toInt) → (1 ≤ i → (i : Int) ≤ 2 * ((c_pi_ended cs).toInt - old)) → (2 ≤ i → (i : Int) ≤ 2 * ((c_pi_endedBefore cs).toInt - old) + 1) →
    sgX11_runCycles_48 (q_m_sets qs) (q_m_lines qs) (nI old) ev0 (q_mlc qs) (q_mlv qs) (nI p) m (mtup 1 qs)
  | 0, i, cs, qs, hB, h1, h3, j0, j1, j2 => absurd h3 (by omega)
  | m + 1, i, cs, qs, hB, h1, h3, j0, j1, j2 => by
    obtain ⟨l1, l2, l3, l4, l5⟩ := look_due hB
    have eop : nI old + nI p = nI (old + p) := nI_add old p
    have iop : (nI (old + p)).toInt = (old + p : Nat) := nI_toInt (by omega)
    obtain ⟨hl0, hl1⟩ := base_lines hB
    have hsets : q_m_sets qs = 16 ∨ q_m_sets qs = 32 ∨ q_m_sets qs = 64 ∨ q_m_sets qs = 128 := by rw [← hB.1.sets]; exact hB.1.setsv
    obtain ⟨ev, r, ec, hev, er, hr⟩ := base_ret hB
    refine ms_loop1 (sr_look hsets hl0) (fun L => sr_reckon _ _ _ _ _ _ _ _ _ _ _ _ _ _ _ _ _ _ _ _) (fun _ => ?_) (fun L K hL hK hE => ?_)
    · obtain ⟨m', rfl⟩ : ∃ m', m = m' + 1 := ⟨m - 1, by omega⟩
      have hm0 := ms_loop0 (nI old) ev0 (nI p) m' (mLook qs)
      have q1 : q_m_sets (mLook qs) = q_m_sets qs := by unfold mLook; rw [kH2_sets]
      have q2 : q_m_lines (mLook qs) = q_m_lines qs := by unfold mLook; rw [kH2_lines]
      have q3 : q_mlc (mLook qs) = q_mlc qs := by unfold mLook; rw [kH2_mlc]
      have q4 : q_mlv (mLook qs) = q_mlv qs := by unfold mLook; rw [kH2_mlv]
      rw [q1, q2, q3, q4] at hm0
      exact hm0
    · have hKe : K = K_ qs := by rw [hK, hL]; rfl
      have hlk : mLookG L K qs = mLook qs := by rw [hKe, hL]; rfl
      have hE' : ¬ nI (old + p) < (T_ cs).2.2.1 := by
        rw [l1, ← eop]
        rw [hKe] at hE
        exact hE
      have hb' := hE'
      rw [ilt, iop] at hb'
      obtain ⟨s1, s2, s3, s4⟩ := e_step hB (C_ cs).1 (base_lin hB) (by omega)
      rw [← cLook_P] at s1 s2 s3 s4
      have hi1 : ((i + 1 : Nat) : Int) ≤ 2 * ((T_ cs).2.2.1.toInt - old) := by
        by_cases q0 : i = 0
        · have := j0 q0; omega
        · by_cases q1 : i = 1
          · have := j1 (by omega); omega
          · have := j2 (by omega); omega
      have hst : isB K.2.2.2 := by rw [hK, reckon_eq]; exact isB_ite' _
      constructor
      · exact sr_happen _ _ _ _ _ _ _ _ _ _ _ _ _ _ _ _ _ _ _ _ _ _ _ _ _ _ _ _ _ _ _ _ _ _ _ _ _ _ _ _ _ _ _ _ _ _ (ev := ev) (by rw [← hB.1.evc]; exact ec) hev hst (w_in _) (fun x0 => sr_retire (base_ok hB hL x0).1 (base_ok hB hL x0).2 hl1)
      · rw [hlk]
        have ih := sm_loop hp hold ev0 m (i + 1) (cDone (cLook cs)) (mDone (mLook qs)) s1 (by omega) (by omega) (fun q => absurd q (by omega)) (fun _ => by rw [s3]; exact hi1) (fun _ => by rw [s4]; have := j1 (by omega); omega)
        rw [kq_sets, kq_lines, kq_mlc, kq_mlv] at ih
        exact ih
set_option maxHeartbeats 2000000 in
theorem okX11_runCycles {cs : CSt} {qs : MSt} (h : Rel cs qs) (p0 : Int32) : sX11_runCycles (q_m_sets qs) (q_m_sum qs) (q_m_pc qs) (q_m_slot qs) (q_m_branch qs) (q_m_target qs) (q_m_retired qs) (q_m_lines qs) (q_m_cycles qs) (q_m_events qs) (q_m_exceptions qs) (q_m_doubles qs) (q_m_longest qs) (q_m_word qs) (q_m_codeFault qs) (q_m_fetched qs) (q_m_issued qs) (q_m_due qs) (q_m_starts qs) (q_m_exception qs) (q_m_eea qs) (q_m_register qs) (q_m_value qs) (q_m_flag qs) (q_m_carry qs) (q_m_overflow qs) (q_m_sums qs) (q_m_newSum qs) (q_m_store qs) (q_m_bytes qs) (q_m_stored qs) (q_m_next qs) (q_m_goal qs) (q_m_returns qs) (q_m_lastWord qs) (q_m_lastReadable qs) (q_m_lastPc qs) (q_m_lastFetched qs) (q_m_lastStarts qs) (q_m_lastApart qs) (q_m_redirected qs) (q_m_behind qs) (q_m_flagReady qs) (q_m_carryReady qs) (q_m_sumReady qs) (q_m_divided qs) (q_m_foreseen qs) (q_m_expected qs) (q_m_went qs) (q_mm qs) (q_mr qs) (q_ms qs) (q_mw qs) (q_mlc qs) (q_mlv qs) (q_mf qs) (q_mis qs) (q_mdu qs) (q_mrd qs) p0 := by
  have hS := h.rs
  unfold sX11_runCycles
  refine ⟨fun _ => trivial, fun h1 => ⟨fun _ => trivial, fun h2 => ⟨fun h3 => ?_, fun _ => trivial⟩⟩⟩
  obtain ⟨old, hn, hcy⟩ := hS.cycn
  obtain ⟨p, ep, hp1, hp2, hop⟩ := run_in hn (show q_m_cycles qs = nI old by rw [← hS.cyc]; exact hcy) h1 h2 h3
  have hq : q_m_cycles qs = nI old := by rw [← hS.cyc]; exact hcy
  rw [hq, ep]
  rcases h with ⟨hB, g1, g2⟩ | ⟨csb, pp, hB, hl, ec, g1, g2⟩
  · have hold : old = 0 := by
      rw [g1] at hcy
      exact ((nI_eq (a := 0) (by omega) (by omega)).mp hcy).symm
    obtain ⟨_, _, _, l4, _⟩ := look_due hB
    exact sm_loop hp2 hop (q_m_events qs) 130000 0 cs qs hB (by omega) (by omega) (fun _ => by omega) (fun q => absurd q (by omega)) (fun q => absurd q (by omega))
  · have hcy' : (c_tw_cycles csb).toInt = old := by
      have : c_tw_cycles csb = nI old := by rw [← hcy, ec]; rfl
      rw [this]; exact nI_toInt (by omega)
    exact sm_loop hp2 hop (q_m_events qs) 130000 0 csb qs hB (by omega) (by omega) (fun _ => by omega) (fun q => absurd q (by omega)) (fun q => absurd q (by omega))

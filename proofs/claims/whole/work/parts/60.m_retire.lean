/-! an instruction retires -/
def PgLe (pg pg' : Nat → Bool) : Prop := ∀ i, pg i = true → pg' i = true
theorem put_le (mem : Nat → Int32) (pg : Nat → Bool) (p v : Int32) : PgLe pg (fX6_put mem pg p v).2 := by
  intro i hi
  unfold fX6_put
  split
  · exact hi
  · dsimp only
    split
    · rfl
    · exact hi
theorem sgn6 (w : Int32) : ((0 : Int32) ≤ (w <<< ((6 : Int32) &&& 31))) ↔ (0 : Int32) ≤ ((w <<< ((6 : Int32) &&& 31)) >>> ((6 : Int32) &&& 31)) := by
  have h : ∀ x : Int32, (0 : Int32) ≤ x ↔ ¬ x < 0 := fun x => by rw [ile, ilt]; omega
  rw [h, h, neg_bit, neg_bit]
  have e : bt ((w <<< ((6 : Int32) &&& 31)) >>> ((6 : Int32) &&& 31)) 31 = bt (w <<< ((6 : Int32) &&& 31)) 31 := by
    rw [show bt ((w <<< ((6 : Int32) &&& 31)) >>> ((6 : Int32) &&& 31)) 31 = _ from b_sshr 6 (by omega) _ (by omega), if_neg (by omega)]
  rw [e]
theorem upd_ne {f : Nat → Int32} {k j : Nat} {x : Int32} (h : ¬ j = k) : upd f k x j = f j := if_neg h
theorem e_regs {rg mr : Nat → Int32} (hr : ∀ j, j < 32 → rg j = mr j) (h0 : rg 0 = 0) {r reg val mval : Int32} (hreg : reg = r) (hk : ∃ k : Fin 32, r = nI k.val) (hv : ¬ reg = 0 → val = mval) : (∀ j, j < 32 → (if r = 0 then rg else upd rg r.toNatClampNeg val) j = (if reg ≤ 0 then mr else upd mr reg.toNatClampNeg mval) j) ∧ (if r = 0 then rg else upd rg r.toNatClampNeg val) 0 = 0 := by
  obtain ⟨k, hk⟩ := hk
  subst hreg
  have hle : reg ≤ 0 ↔ reg = 0 := by
    rw [hk]
    have a1 : nI k.val ≤ 0 ↔ k.val ≤ 0 := nI_leI (b := 0) (by omega) (by omega)
    have a2 : nI k.val = 0 ↔ k.val = 0 := nI_eq (b := 0) (by omega) (by omega)
    rw [a1, a2]; omega
  by_cases h : reg = 0
  · rw [if_pos h, if_pos (hle.mpr h)]
    exact ⟨hr, h0⟩
  · rw [if_neg h, if_neg (fun q => h (hle.mp q)), hv h, hk, nI_clamp (by omega)]
    have hk0 : ¬ k.val = 0 := fun q => h (by rw [hk, q]; rfl)
    refine ⟨fun j hj => ?_, ?_⟩
    · unfold upd
      by_cases hj2 : j = k.val
      · rw [if_pos hj2, if_pos hj2]
      · rw [if_neg hj2, if_neg hj2]; exact hr j hj
    · rw [upd_ne (fun q => hk0 q.symm)]; exact h0
theorem foreseen_eq {n : Fin 64} (hn : 20 ≤ n.val ∧ n.val ≤ 25) (w : Int32) : fX3_isForeseenToGo (nI n.val) ((w <<< ((6 : Int32) &&& 31)) >>> ((6 : Int32) &&& 31)) = (if (if 24 ≤ nI n.val then (0 : Int32) else 1) = 0 then 0 else (if (if nI n.val < 22 then (1 : Int32) else (if 24 ≤ nI n.val then (0) else (if (0 : Int32) ≤ (w <<< ((6 : Int32) &&& 31)) then (0) else (1)))) = 0 then 0 else 1)) := by
  unfold fX3_isForeseenToGo
  have e1 : nI n.val ≤ 21 ↔ n.val ≤ 21 := n_le 21 (by omega)
  have e2 : (23 : Int32) < nI n.val ↔ 23 < n.val := by rw [show (23 : Int32) = nI 23 from rfl, nI_ltI (by omega) (by omega)]
  have e3 : (24 : Int32) ≤ nI n.val ↔ 24 ≤ n.val := n_ge 24 (by omega)
  have e4 : nI n.val < 22 ↔ n.val < 22 := n_lt 22 (by omega)
  have k10 : ¬ (1 : Int32) = 0 := by decide
  by_cases h1 : n.val ≤ 21
  · rw [if_pos (e1.mpr h1), if_neg (show ¬ (24 : Int32) ≤ nI n.val from fun q => by have := e3.mp q; omega), if_neg k10, if_pos (e4.mpr (by omega)), if_neg k10]
  · rw [if_neg (fun q => h1 (e1.mp q))]
    by_cases h2 : 23 < n.val
    · rw [if_pos (e2.mpr h2), if_pos (show (24 : Int32) ≤ nI n.val from e3.mpr (by omega)), if_pos rfl]
    · have a1 : ¬ (24 : Int32) ≤ nI n.val := fun q => by have := e3.mp q; omega
      have a2 : ¬ nI n.val < 22 := fun q => by have := e4.mp q; omega
      have a3 : ¬ (23 : Int32) < nI n.val := fun q => h2 (e2.mp q)
      simp only [a1, a2, a3, k10, if_false]
      by_cases h3 : (0 : Int32) ≤ (w <<< ((6 : Int32) &&& 31))
      · rw [if_pos h3, if_pos ((sgn6 w).mp h3), if_pos rfl]
      · rw [if_neg h3, if_neg (fun q => h3 ((sgn6 w).mpr q)), if_neg k10]
set_option maxHeartbeats 1000000 in
theorem e_retire {mem mm rg mr wo mw co va mlc mlv ms : Nat → Int32} {pg : Nat → Bool} {pc slot br tg sr epc esr' eea held count timer mask ret latch sets passed size : Int32} {sum : Int64} {mbr mtg : Int32} (hm : MemOk mem mm) (hpg : PgOk mem pg) (hr : ∀ j, j < 32 → rg j = mr j) (hr0 : rg 0 = 0) (hL : LinesOk size passed co ret) (h1 : ∀ j, j < 32 → co j = mlc j) (h2 : ∀ j, j < 32 → va j = mlv j) (hw : ∀ j, j < 512 → wo j = mw j) (hsp : SpOk sr epc esr' eea count timer mask held latch ms) (hb : isB slot) (hbr : mbr = if slot = 0 then 0 else br) (htg : mtg = if slot = 0 then 0 else tg) {r : Nat} (hret : ret = nI r) (hrn : r < 200000)
    {w : Int32} (n : Fin 64) (e : Fin 32) (en : fX11_op w = nI n.val) (ee : fD w = nI e.val)
    {went0 has addr val sz place stored esr : Int32} {esum : Int64} {goes target x eea' reg mval flag carry ovf sums : Int32} {newSum : Int64} {store bytes mst next goal returns went fsn exp' : Int32} (hV : LV (TT n.val e.val) (nI n.val) (fD w) pc sr sum went0 0 has addr val sz place stored esr esum goes target x eea' reg mval flag carry ovf sums newSum store bytes mst next goal returns went) (hslot : ¬ slot = 0 → fX3_is (TT n.val e.val) 8192 = 0 ∧ ¬ nI n.val = 33)
    (Z : (Nat → Int32) × (Nat → Bool) × Int32 × Int32 × Int32 × Int32 × Int32 × Int32 × Int32 × Int32 × Int32 × Int64 × Int32 × Int32 × Int32 × Int32 × Int32 × Int32 × (Nat → Int32) × (Nat → Int32)) (hZ : Z = fX2_retire mem pg pc slot br tg epc esr' eea held count timer mask ret latch sets passed size (TT n.val e.val) (nI n.val) (fD w) (fA w) (w &&& 65535) val sz place stored esr esum target rg wo co va)
    (Y : Int64 × Int32 × Int32 × Int32 × Int32 × Int32 × Int32 × Int32 × (Nat → Int32) × (Nat → Int32) × (Nat → Int32) × (Nat → Int32)) (hY : Y = fX11_retire sets sum pc slot mbr mtg ret size w reg mval flag carry ovf sums newSum store bytes mst next goal returns fsn exp' mm mr ms mw mlc mlv) :
    (MemOk Z.1 Y.2.2.2.2.2.2.2.2.1 ∧ PgOk Z.1 Z.2.1 ∧ PgLe pg Z.2.1) ∧ (Z.2.2.1 = Y.2.1 ∧ Z.2.2.2.1 = Y.2.2.1 ∧ isB Z.2.2.2.1 ∧ (Y.2.2.2.1 = if Z.2.2.2.1 = 0 then 0 else Z.2.2.2.2.1) ∧ (Y.2.2.2.2.1 = if Z.2.2.2.1 = 0 then 0 else Z.2.2.2.2.2.1)) ∧
    SpOk Z.2.2.2.2.2.2.1 Z.2.2.2.2.2.2.2.1 Z.2.2.2.2.2.2.2.2.1 Z.2.2.2.2.2.2.2.2.2.1 Z.2.2.2.2.2.2.2.2.2.2.2.2.1 Z.2.2.2.2.2.2.2.2.2.2.2.2.2.1 Z.2.2.2.2.2.2.2.2.2.2.2.2.2.2.1 Z.2.2.2.2.2.2.2.2.2.2.1 Z.2.2.2.2.2.2.2.2.2.2.2.2.2.2.2.2.1 Y.2.2.2.2.2.2.2.2.2.2.1 ∧
    (Z.2.2.2.2.2.2.2.2.2.2.2.1 = Y.1 ∧ Z.2.2.2.2.2.2.2.2.2.2.2.2.2.2.2.1 = Y.2.2.2.2.2.1 ∧ Y.2.2.2.2.2.1 = nI (r + 1)) ∧ LinesOk size Z.2.2.2.2.2.2.2.2.2.2.2.2.2.2.2.2.2.1 co (nI (r + 1)) ∧
    ((∀ j, j < 32 → Z.2.2.2.2.2.2.2.2.2.2.2.2.2.2.2.2.2.2.1 j = Y.2.2.2.2.2.2.2.2.2.1 j) ∧ Z.2.2.2.2.2.2.2.2.2.2.2.2.2.2.2.2.2.2.1 0 = 0) ∧ (∀ j, j < 512 → Z.2.2.2.2.2.2.2.2.2.2.2.2.2.2.2.2.2.2.2 j = Y.2.2.2.2.2.2.2.2.2.2.2 j) ∧
    (¬ Z.2.2.2.1 = 0 → ¬ fX3_is (TT n.val e.val) 8192 = 0 ∧ Y.2.2.2.2.2.2.1 = (if 24 ≤ nI n.val then (0 : Int32) else 1) ∧ Y.2.2.2.2.2.2.2.1 = (if nI n.val < 22 then (1 : Int32) else (if 24 ≤ nI n.val then (0) else (if (0 : Int32) ≤ (w <<< ((6 : Int32) &&& 31)) then (0) else (1))))) := by
  obtain ⟨v1, v2, v3, v4, v5⟩ := hV
  obtain ⟨r1, r2, r3, r4, r5, r6, r7, r8, r9⟩ := v4 rfl
  have hwr : ∃ k : Fin 32, fX3_writtenRegister (TT n.val e.val) (fD w) = nI k.val := by rw [t_writes n e en ee]; exact wr_lt n e en ee
  have hregs := e_regs hr hr0 (val := val) r1 hwr r2
  unfold fX2_retire at hZ
  dsimp only at hZ
  generalize hJ2 : (if fX3_writtenRegister (TT n.val e.val) (fD w) = 0 then rg else upd rg (fX3_writtenRegister (TT n.val e.val) (fD w)).toNatClampNeg val) = J2 at hZ hregs
  unfold fX11_retire at hY
  rw [mA] at hY
  have hmk := marks_eq ms flag carry ovf
  dsimp only at hmk
  dsimp only at hY
  rw [hmk] at hY
  generalize hM1 : (if reg ≤ 0 then mr else upd mr reg.toNatClampNeg mval) = M1 at hY hregs
  have hsr : ms 0 = sr := hsp.1.symm
  rw [hsr, ← r4, ← r5] at hY
  have hsp1 : SpOk esr epc esr' eea count timer mask held latch (upd ms 0 esr) := sp_0 hsp (by rw [r4]; exact srF_1023 hsp.2.2.2.2.2.2.2.2.2.1)
  have hmem : MemOk (if sz = 0 then (mem, pg) else ((fX6_store mem pg place sz stored).1, (fX6_store mem pg place sz stored).2)).1 (if store < 0 then mm else fX11_put mm store mst bytes) ∧ PgOk (if sz = 0 then (mem, pg) else ((fX6_store mem pg place sz stored).1, (fX6_store mem pg place sz stored).2)).1 (if sz = 0 then (mem, pg) else ((fX6_store mem pg place sz stored).1, (fX6_store mem pg place sz stored).2)).2 ∧ PgLe pg (if sz = 0 then (mem, pg) else ((fX6_store mem pg place sz stored).1, (fX6_store mem pg place sz stored).2)).2 := by
    rcases r3 with ⟨q1, q2⟩ | ⟨p, k, hk, hpk, hp, q1, q2, q3, q4, q5⟩
    · rw [if_pos q1, q2, if_pos neg1]
      exact ⟨hm, hpg, fun i hi => hi⟩
    · rw [if_neg (by rw [q1]; exact nI_ne0 (by omega) (by omega)), q4, if_neg (nI_pos (by omega)), q3, q1, q2, q5]
      obtain ⟨s1, s2⟩ := e_store hm hpg hk hpk hp mst
      exact ⟨s1, s2, put_le _ _ _ _⟩
  generalize (if sz = 0 then (mem, pg) else ((fX6_store mem pg place sz stored).1, (fX6_store mem pg place sz stored).2)) = J3 at hZ hmem
  generalize (if store < 0 then mm else fX11_put mm store mst bytes) = M6 at hY hmem
  -- a special that is written
  have hu : ∃ p : Nat, p < 65536 ∧ w &&& 65535 = nI p := ⟨uw w % 65536, by omega, by
    apply u_ext
    rw [u_and 16 (by decide), u_nI (by omega)]⟩
  obtain ⟨p, hp, ep⟩ := hu
  have hA : J2 (fA w).toNatClampNeg = M1 (fA w).toNatClampNeg := by
    obtain ⟨k, hk⟩ := w_31n (jushr w 16)
    rw [show fA w = nI k.val from hk, nI_clamp (by omega)]
    exact hregs.1 _ k.isLt
  have e31 : (nI n.val = 31) ↔ n.val = 31 := n_eq 31 (by omega)
  have hwrite : ∃ J4 : Int32 × Int32 × Int32 × Int32 × Int32 × Int64 × Int32 × Int32 × Int32 × Int32 × (Nat → Int32), J4 = (if nI n.val = 31 then ((fX8_write esr epc esr' eea held esum count timer mask latch sets wo (w &&& 65535) (J2 (fA w).toNatClampNeg)).1, (fX8_write esr epc esr' eea held esum count timer mask latch sets wo (w &&& 65535) (J2 (fA w).toNatClampNeg)).2.1, (fX8_write esr epc esr' eea held esum count timer mask latch sets wo (w &&& 65535) (J2 (fA w).toNatClampNeg)).2.2.1, (fX8_write esr epc esr' eea held esum count timer mask latch sets wo (w &&& 65535) (J2 (fA w).toNatClampNeg)).2.2.2.1, (fX8_write esr epc esr' eea held esum count timer mask latch sets wo (w &&& 65535) (J2 (fA w).toNatClampNeg)).2.2.2.2.1, (fX8_write esr epc esr' eea held esum count timer mask latch sets wo (w &&& 65535) (J2 (fA w).toNatClampNeg)).2.2.2.2.2.1, (fX8_write esr epc esr' eea held esum count timer mask latch sets wo (w &&& 65535) (J2 (fA w).toNatClampNeg)).2.2.2.2.2.2.1, (fX8_write esr epc esr' eea held esum count timer mask latch sets wo (w &&& 65535) (J2 (fA w).toNatClampNeg)).2.2.2.2.2.2.2.1, (fX8_write esr epc esr' eea held esum count timer mask latch sets wo (w &&& 65535) (J2 (fA w).toNatClampNeg)).2.2.2.2.2.2.2.2.1, (fX8_write esr epc esr' eea held esum count timer mask latch sets wo (w &&& 65535) (J2 (fA w).toNatClampNeg)).2.2.2.2.2.2.2.2.2.1, (fX8_write esr epc esr' eea held esum count timer mask latch sets wo (w &&& 65535) (J2 (fA w).toNatClampNeg)).2.2.2.2.2.2.2.2.2.2) else (esr, epc, esr', eea, held, esum, count, timer, mask, latch, wo)) ∧ ∃ M8 : Int64 × (Nat → Int32) × (Nat → Int32), M8 = (if fX11_op w = 31 then ((fX11_writeSpecial sets esum (upd ms 0 esr) mw (w &&& 65535) (M1 (fA w).toNatClampNeg)).1, (fX11_writeSpecial sets esum (upd ms 0 esr) mw (w &&& 65535) (M1 (fA w).toNatClampNeg)).2.1, (fX11_writeSpecial sets esum (upd ms 0 esr) mw (w &&& 65535) (M1 (fA w).toNatClampNeg)).2.2) else (esum, upd ms 0 esr, mw)) ∧ SpOk J4.1 J4.2.1 J4.2.2.1 J4.2.2.2.1 J4.2.2.2.2.2.2.1 J4.2.2.2.2.2.2.2.1 J4.2.2.2.2.2.2.2.2.1 J4.2.2.2.2.1 J4.2.2.2.2.2.2.2.2.2.1 M8.2.1 ∧ J4.2.2.2.2.2.1 = M8.1 ∧ ∀ j, j < 512 → J4.2.2.2.2.2.2.2.2.2.2 j = M8.2.2 j := by
    refine ⟨_, rfl, _, rfl, ?_⟩
    rw [en]
    by_cases h : nI n.val = 31
    · rw [if_pos h, if_pos h, ep, hA]
      exact e_write (sets := sets) hsp1 hw p hp (M1 (fA w).toNatClampNeg) _ rfl
    · rw [if_neg h, if_neg h]
      exact ⟨hsp1, rfl, hw⟩
  obtain ⟨J4, hJ4, M8, hM8, s1, s2, s3⟩ := hwrite
  rw [← hJ4] at hZ
  rw [← hM8] at hY
  -- lines
  have hr1 : ret + 1 = nI (r + 1) := by rw [hret, nI_1]
  have hL1 := e_lines (va := va) (mlv := mlv) (lines_mono hL (show ret ≤ ret + 1 by rw [hr1, hret]; exact nI_le (by omega) (by omega))) h1 h2
  rw [hr1] at hL1 hY
  unfold fX8_retire at hZ
  dsimp only at hZ
  rw [hr1, hL1.1] at hZ
  have e33 : (nI n.val = 33) ↔ n.val = 33 := n_eq 33 (by omega)
  have hbrn : ¬ fX3_is (TT n.val e.val) 8192 = 0 ↔ (20 ≤ n.val ∧ n.val ≤ 25) := by
    have hx : ∀ (n : Fin 64) (e : Fin 32), ¬ fX3_is (TT n.val e.val) 8192 = 0 ↔ (20 ≤ n.val ∧ n.val ≤ 25) := by decide +kernel
    exact hx n e
  have tb := t_branch n e en
  have fin : ∀ (sr2 : Int32) (g : Nat → Int32), SpOk sr2 J4.2.1 J4.2.2.1 J4.2.2.2.1 J4.2.2.2.2.2.2.1 J4.2.2.2.2.2.2.2.1 J4.2.2.2.2.2.2.2.2.1 J4.2.2.2.2.1 J4.2.2.2.2.2.2.2.2.2.1 g → SpOk sr2 J4.2.1 J4.2.2.1 J4.2.2.2.1 (fX8_countOne J4.2.2.2.2.2.2.1 J4.2.2.2.2.2.2.2.1).1 (fX8_countOne J4.2.2.2.2.2.2.1 J4.2.2.2.2.2.2.2.1).2 J4.2.2.2.2.2.2.2.2.1 (J4.2.2.2.2.1 ||| (fX11_linesNow (nI (r + 1)) size mlc mlv &&& J4.2.2.2.2.2.2.2.2.2.1)) J4.2.2.2.2.2.2.2.2.2.1 (upd (mCount g) 7 ((mCount g 7) ||| (fX11_linesNow (nI (r + 1)) size mlc mlv &&& (mCount g 9)))) := fun sr2 g h => e_hold (e_count h) _
  by_cases hop : nI n.val = 33
  · have hs0 : slot = 0 := Classical.not_not.mp (fun q => (hslot q).2 hop)
    have hret1 : ¬ returns = 0 := by rw [r6, if_pos hop]; decide
    rw [if_pos hop] at hZ
    rw [if_neg hret1] at hY
    subst hZ; subst hY
    have hs2 : SpOk J4.2.2.1 J4.2.1 J4.2.2.1 J4.2.2.2.1 J4.2.2.2.2.2.2.1 J4.2.2.2.2.2.2.2.1 J4.2.2.2.2.2.2.2.2.1 J4.2.2.2.2.1 J4.2.2.2.2.2.2.2.2.2.1 (upd M8.2.1 0 (M8.2.1 2)) := by
      rw [← s1.2.2.1]
      exact sp_0 s1 s1.2.2.2.2.2.2.2.2.2.2.1
    refine ⟨hmem, ⟨?_, ?_, Or.inl rfl, ?_, ?_⟩, fin _ _ hs2, ⟨s2, rfl, rfl⟩, hL1.2, hregs, s3, fun q => absurd rfl q⟩
    · exact s1.2.1
    · exact hs0.symm
    · rw [hbr, if_pos hs0]; rfl
    · rw [htg, if_pos hs0]; rfl
  · have hret0 : returns = 0 := by rw [r6, if_neg hop]
    rw [if_neg hop] at hZ
    rw [if_pos hret0, ← tb] at hY
    by_cases hs0 : slot = 0
    · rw [if_pos hs0] at hY
      by_cases hbr8 : fX3_is (TT n.val e.val) 8192 = 0
      · rw [if_pos hbr8] at hZ hY
        unfold fX9_goOn at hZ
        dsimp only at hZ
        rw [if_pos hs0] at hZ
        subst hZ; subst hY
        refine ⟨hmem, ⟨r7.symm, hs0.symm, Or.inl rfl, ?_, ?_⟩, fin _ _ s1, ⟨s2, rfl, rfl⟩, hL1.2, hregs, s3, fun q => absurd rfl q⟩
        · rw [hbr, if_pos hs0]; rfl
        · rw [htg, if_pos hs0]; rfl
      · rw [if_neg hbr8] at hZ hY
        obtain ⟨t1, t2, t3, t4⟩ := r8 hbr8
        rw [en] at hY
        subst hZ; subst hY
        refine ⟨hmem, ⟨r7.symm, rfl, Or.inr rfl, ?_, ?_⟩, fin _ _ s1, ⟨s2, rfl, rfl⟩, hL1.2, hregs, s3, fun _ => ⟨hbr8, rfl, rfl⟩⟩
        · rfl
        · exact t1.symm
    · rw [if_neg hs0] at hY
      have hbr8 := (hslot hs0).1
      rw [if_pos hbr8] at hZ
      unfold fX9_goOn at hZ
      dsimp only at hZ
      rw [if_neg hs0] at hZ
      subst hZ; subst hY
      refine ⟨hmem, ⟨?_, rfl, Or.inl rfl, rfl, rfl⟩, fin _ _ s1, ⟨s2, rfl, rfl⟩, hL1.2, hregs, s3, fun q => absurd rfl q⟩
      show tg = mtg
      rw [htg, if_neg hs0]

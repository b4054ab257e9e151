/-! ===== pure: what comes next: comeTo against look ===== -/
abbrev MLook : Type := Int32 × Int32 × Int32 × Int32 × Int32 × Int32 × Int32 × Int32 × Int32 × Int32 × Int64 × Int32 × Int32 × Int32 × Int32 × Int32 × Int32 × Int32
def lkR (w fault x e v : Int32) (ns : Int64) (yb st pc went : Int32) : MLook := (w, fault, x, e, 0, v, -1, -1, -1, 0, ns, -1, yb, st, pc + 4, 0, 0, went)
def lkP (w fault : Int32) (z : Int32 × Int32 × Int32 × Int32 × Int32 × Int32 × Int32 × Int32 × Int64 × Int32 × Int32 × Int32 × Int32 × Int32 × Int32 × Int32) : MLook := (w, fault, z.1, z.2.1, z.2.2.1, z.2.2.2.1, z.2.2.2.2.1, z.2.2.2.2.2.1, z.2.2.2.2.2.2.1, z.2.2.2.2.2.2.2.1, z.2.2.2.2.2.2.2.2.1, z.2.2.2.2.2.2.2.2.2.1, z.2.2.2.2.2.2.2.2.2.2.1, z.2.2.2.2.2.2.2.2.2.2.2.1, z.2.2.2.2.2.2.2.2.2.2.2.2.1, z.2.2.2.2.2.2.2.2.2.2.2.2.2.1, z.2.2.2.2.2.2.2.2.2.2.2.2.2.2.1, z.2.2.2.2.2.2.2.2.2.2.2.2.2.2.2)
abbrev ILL (w slot : Int32) (ms : Nat → Int32) : Prop := ¬ fX11_isNone w = 0 ∨ (¬ slot = 0 ∧ (¬ fX11_isBranch w = 0 ∨ fX11_op w = 33)) ∨ (fX11_has ms 1 = 0 ∧ (fX11_op w = 30 ∨ fX11_op w = 31 ∨ fX11_op w = 33))
abbrev lkT (z1 : Int32 × Int32) (w slot : Int32) (ms : Nat → Int32) (mv : Int32) (ns : Int64) (yb st pc went : Int32) (P : Int32 × Int32 × Int32 × Int32 × Int32 × Int32 × Int32 × Int32 × Int64 × Int32 × Int32 × Int32 × Int32 × Int32 × Int32 × Int32) : MLook := if z1.2 ≤ 0 then (if ILL w slot ms then lkR w z1.2 7 0 mv ns yb st pc went else lkP w z1.2 P) else lkR w z1.2 z1.2 1 pc ns yb st pc went
theorem k3130 : ¬ (31 : Int32) = 30 := by decide
theorem k3330 : ¬ (33 : Int32) = 30 := by decide
theorem k3331 : ¬ (33 : Int32) = 31 := by decide
theorem k3133 : ¬ (31 : Int32) = 33 := by decide
theorem k3031 : ¬ (30 : Int32) = 31 := by decide
theorem k3033 : ¬ (30 : Int32) = 33 := by decide
set_option maxRecDepth 4000 in
theorem look_eq (sets : Int32) (sum : Int64) (pc slot ret lines mv : Int32) (ns : Int64) (yb st went : Int32) (mm mr ms mw mlc mlv : Nat → Int32) (z1 : Int32 × Int32) (hz : z1 = fX11_codeAt sets ms mw pc) (w : Int32) (hw : w = if z1.2 ≤ 0 then fX11_wordIn mm z1.1 else 0) :
    fX11_look sets sum pc slot ret lines mv ns yb st went mm mr ms mw mlc mlv = if ¬ fX11_has ms 2 = 0 ∧ (((ms 5) >>> ((28 : Int32) &&& 31)) &&& 1) = (1 : Int32) then lkR w z1.2 5 0 mv ns yb st pc went else (if ¬ fX11_has ms 4 = 0 ∧ ¬ (fX11_status ret lines ms mlc mlv &&& ms 6) = 0 then lkR w z1.2 8 0 mv ns yb st pc went else lkT z1 w slot ms mv ns yb st pc went (PF sets sum pc ret lines w mv ns yb st went mm mr ms mw mlc mlv)) := by
  unfold fX11_look
  rw [← hz]
  dsimp only
  rw [← hw]
  unfold PF lkT ILL
  generalize fX11_perform sets sum pc ret lines w 0 0 0 mv (-1) (-1) (-1) 0 ns (-1) yb st (pc + 4) 0 0 went mm mr ms mw mlc mlv = P
  generalize fX11_status ret lines ms mlc mlv &&& ms 6 = S
  generalize (((ms 5) >>> ((28 : Int32) &&& 31)) &&& 1) = TB
  generalize fX11_has ms 2 = H2
  generalize fX11_has ms 4 = H4
  generalize fX11_has ms 1 = H1
  generalize fX11_isNone w = N
  generalize fX11_isBranch w = B
  generalize fX11_op w = O
  clear hw hz
  have ht : (if z1.2 ≤ 0 then (if N = 0 then (if slot = 0 then (if H1 = 0 then (if O = 30 then lkR w z1.2 7 0 mv ns yb st pc went else (if O = 31 then lkR w z1.2 7 0 mv ns yb st pc went else (if O = 33 then lkR w z1.2 7 0 mv ns yb st pc went else lkP w z1.2 P))) else lkP w z1.2 P) else (if B = 0 then (if O = 33 then lkR w z1.2 7 0 mv ns yb st pc went else (if H1 = 0 then (if O = 30 then lkR w z1.2 7 0 mv ns yb st pc went else (if O = 31 then lkR w z1.2 7 0 mv ns yb st pc went else (if O = 33 then lkR w z1.2 7 0 mv ns yb st pc went else lkP w z1.2 P))) else lkP w z1.2 P)) else lkR w z1.2 7 0 mv ns yb st pc went)) else lkR w z1.2 7 0 mv ns yb st pc went) else lkR w z1.2 z1.2 1 pc ns yb st pc went) = (if z1.2 ≤ 0 then (if (¬ N = 0 ∨ (¬ slot = 0 ∧ (¬ B = 0 ∨ O = 33)) ∨ (H1 = 0 ∧ (O = 30 ∨ O = 31 ∨ O = 33))) then lkR w z1.2 7 0 mv ns yb st pc went else lkP w z1.2 P) else lkR w z1.2 z1.2 1 pc ns yb st pc went) := by
    by_cases hz : z1.2 ≤ 0
    · rw [if_pos hz, if_pos hz]
      by_cases hN : N = 0 <;> by_cases hs : slot = 0 <;> by_cases h1 : H1 = 0 <;> by_cases hB : B = 0 <;> by_cases h30 : O = 30 <;> by_cases h31 : O = 31 <;> by_cases h33 : O = 33 <;> simp only [hN, hs, h1, hB, h30, h31, h33, k3130, k3330, k3331, k3133, k3031, k3033, if_true, if_false, not_true_eq_false, not_false_eq_true, true_or, or_true, false_or, or_false, true_and, and_true, false_and, and_false, or_self, and_self]
    · rw [if_neg hz, if_neg hz]
  rw [← ht]
  by_cases h2 : H2 = 0
  · by_cases h4 : H4 = 0
    · rw [if_pos h2, if_pos h4, if_neg (show ¬ (¬ H2 = 0 ∧ TB = 1) from fun q => q.1 h2), if_neg (show ¬ (¬ H4 = 0 ∧ ¬ S = 0) from fun q => q.1 h4)]
      rfl
    · rw [if_pos h2, if_neg h4, if_neg (show ¬ (¬ H2 = 0 ∧ TB = 1) from fun q => q.1 h2)]
      by_cases hS : S = 0
      · rw [if_pos hS, if_neg (show ¬ (¬ H4 = 0 ∧ ¬ S = 0) from fun q => q.2 hS)]
        rfl
      · rw [if_neg hS, if_pos (show ¬ H4 = 0 ∧ ¬ S = 0 from ⟨h4, hS⟩)]
        rfl
  · rw [if_neg h2]
    by_cases hb : TB = 1
    · rw [if_pos hb, if_pos (show ¬ H2 = 0 ∧ TB = 1 from ⟨h2, hb⟩)]
      rfl
    · rw [if_neg hb, if_neg (show ¬ (¬ H2 = 0 ∧ TB = 1) from fun q => hb q.2)]
      by_cases h4 : H4 = 0
      · rw [if_pos h4, if_neg (show ¬ (¬ H4 = 0 ∧ ¬ S = 0) from fun q => q.1 h4)]
        rfl
      · rw [if_neg h4]
        by_cases hS : S = 0
        · rw [if_pos hS, if_neg (show ¬ (¬ H4 = 0 ∧ ¬ S = 0) from fun q => q.2 hS)]
          rfl
        · rw [if_neg hS, if_pos (show ¬ H4 = 0 ∧ ¬ S = 0 from ⟨h4, hS⟩)]
          rfl
theorem tm_bit (x : Int32) : ((x >>> ((28 : Int32) &&& 31)) &&& 1 = (1 : Int32)) ↔ ¬ (x &&& 268435456) = 0 := by
  have k1 : ∀ i, i < 32 → bt 1 i = decide (i = 0) := by decide +kernel
  have k2 : ∀ i, i < 32 → bt 268435456 i = decide (i = 28) := by decide +kernel
  have a : ((x >>> ((28 : Int32) &&& 31)) &&& 1 = (1 : Int32)) ↔ bt x 28 = true := by
    have e0 : bt ((x >>> ((28 : Int32) &&& 31)) &&& 1) 0 = bt x 28 := by
      rw [b_and, k1 0 (by omega), show bt (x >>> ((28 : Int32) &&& 31)) 0 = _ from b_sshr 28 (by omega) x (by omega), if_pos (by omega)]; simp
    constructor
    · intro h; rw [← e0, h]; decide
    · intro h
      refine b_ext (fun i hi => ?_)
      by_cases hz : i = 0
      · subst hz; rw [e0, h]; decide
      · rw [b_and, k1 i hi, decide_eq_false hz, Bool.and_false]
  have b : (x &&& 268435456) = 0 ↔ bt x 28 = false := by
    constructor
    · intro h
      have := congrArg (fun z => bt z 28) h
      simp only [b_and, k2 28 (by omega), b_0] at this
      simpa using this
    · intro h
      refine b_ext (fun i hi => ?_)
      rw [b_and, k2 i hi, b_0]
      by_cases hz : i = 28
      · subst hz; rw [h]; rfl
      · rw [decide_eq_false hz, Bool.and_false]
  rw [a, b]
  cases bt x 28 <;> simp
theorem has_0 (ms : Nat → Int32) (c : Int32) : fX11_has ms c = 0 ↔ (ms 0 &&& c) = 0 := by
  rw [has_b]; by_cases h : ms 0 &&& c = 0
  · rw [if_pos h]; exact ⟨fun _ => h, fun _ => rfl⟩
  · rw [if_neg h]; exact ⟨fun q => absurd q (by decide), fun q => absurd q h⟩
theorem tm_due {sr timer : Int32} {ms : Nat → Int32} (e0 : sr = ms 0) (e5 : timer = ms 5) : fX8_timerIsDue sr timer = 0 ↔ ¬ (¬ fX11_has ms 2 = 0 ∧ (((ms 5) >>> ((28 : Int32) &&& 31)) &&& 1) = (1 : Int32)) := by
  unfold fX8_timerIsDue
  rw [tm_bit, has_0, ← e0, ← e5]
  by_cases h : sr &&& 2 = 0
  · rw [if_pos h]; exact ⟨fun _ q => q.1 h, fun _ => rfl⟩
  · rw [if_neg h]
    by_cases h2 : timer &&& 268435456 = 0
    · rw [if_pos h2]; exact ⟨fun _ q => q.2 h2, fun _ => rfl⟩
    · rw [if_neg h2]; exact ⟨fun q => absurd q (by decide), fun q => absurd ⟨h, h2⟩ q⟩
theorem ln_due {sr held mask ret latch passed size : Int32} {co va ms mlc mlv : Nat → Int32} (hL : LinesOk size passed co ret) (h1 : ∀ j, j < 32 → co j = mlc j) (h2 : ∀ j, j < 32 → va j = mlv j) (e0 : sr = ms 0) (e6 : mask = ms 6) (e7 : held = ms 7) (e9 : latch = ms 9) : ((fX8_lineIsDue sr held mask ret latch passed size co va).1 = 0 ↔ ¬ (¬ fX11_has ms 4 = 0 ∧ ¬ (fX11_status ret size ms mlc mlv &&& ms 6) = 0)) ∧ LinesOk size (fX8_lineIsDue sr held mask ret latch passed size co va).2 co ret := by
  obtain ⟨a, b⟩ := e_status hL h1 h2 e7 e9
  unfold fX8_lineIsDue
  rw [has_0, ← e0]
  by_cases h : sr &&& 4 = 0
  · rw [if_pos h]; exact ⟨⟨fun _ q => q.1 h, fun _ => rfl⟩, hL⟩
  · rw [if_neg h]
    dsimp only
    rw [← a, ← e6]
    by_cases hq : (fX8_status held ret latch passed size co va).1 &&& mask = 0
    · rw [if_pos hq]; exact ⟨⟨fun _ q => q.2 hq, fun _ => rfl⟩, b⟩
    · rw [if_neg hq]; exact ⟨⟨fun q => absurd (show (1 : Int32) = 0 from q) (by decide), fun q => absurd ⟨h, hq⟩ q⟩, b⟩
theorem ill_iff {sr slot w : Int32} {ms : Nat → Int32} (e0 : sr = ms 0) (n : Fin 64) (d : Fin 32) (e : fX11_op w = nI n.val) (ed : fD w = nI d.val) : fX2_isIllegal slot (TT n.val d.val) (nI n.val) sr = 0 ↔ ¬ ILL w slot ms := by
  have hp : ∀ (n : Fin 64) (d : Fin 32), (fX3_is (TT n.val d.val) 262144 = 0 ↔ ¬ (nI n.val = 30 ∨ nI n.val = 31 ∨ nI n.val = 33)) := by decide +kernel
  unfold fX2_isIllegal ILL
  dsimp only
  have tn := t_none n d e ed
  have tb := t_branch n d e
  simp only [tn, tb]
  rw [has_0, ← e0, e]
  have hq := hp n d
  have z10 : ¬ (1 : Int32) = 0 := by decide
  generalize fX3_is (TT n.val d.val) 262144 = P at hq ⊢
  by_cases hN : fX11_isNone w = 0
  · by_cases hs : slot = 0 <;> by_cases h1 : sr &&& 1 = 0 <;> by_cases hB : fX11_isBranch w = 0 <;> by_cases hP : P = 0 <;> by_cases h33 : nI n.val = 33 <;> simp [hN, hs, h1, hB, hP, h33] at hq ⊢ <;> first | exact hq | skip
  · simp [hN]
abbrev CCome : Type := Int32 × Int32 × Int32 × Int32 × Int32 × Int32 × Int32 × Int32 × Int32 × Int32 × Int32 × Int32 × Int32 × Int32 × Int32 × Int32 × Int32 × Int64 × Int32 × Int32
/-- what comeTo left, against what look left -/
def LR (slot pc sr : Int32) (sum : Int64) (went0 : Int32) (C : CCome) (L : MLook) : Prop :=
  ((L.2.1 = 0 ∧ (C.2.1, C.2.2.1, C.2.2.2.1, C.2.2.2.2.1, C.2.2.2.2.2.1, C.2.2.2.2.2.2.1, C.2.2.2.2.2.2.2.1, C.2.2.2.2.2.2.2.2.1) = fX3_decode L.1) ∨ (¬ L.2.1 = 0 ∧ ¬ L.2.1 ≤ 0 ∧ C.2.1 = 0 ∧ ¬ C.2.2.2.2.2.2.2.2.2.1 = 0)) ∧
  (C.2.2.2.2.2.2.2.2.2.1 = 0 → ¬ slot = 0 → fX3_is C.2.1 8192 = 0 ∧ ¬ C.2.2.1 = 33) ∧
  LV C.2.1 C.2.2.1 C.2.2.2.1 pc sr sum went0 C.2.2.2.2.2.2.2.2.2.1 C.2.2.2.2.2.2.2.2.2.2.1 C.2.2.2.2.2.2.2.2.2.2.2.1 C.2.2.2.2.2.2.2.2.2.2.2.2.1 C.2.2.2.2.2.2.2.2.2.2.2.2.2.1 C.2.2.2.2.2.2.2.2.2.2.2.2.2.2.1 C.2.2.2.2.2.2.2.2.2.2.2.2.2.2.2.1 C.2.2.2.2.2.2.2.2.2.2.2.2.2.2.2.2.1 C.2.2.2.2.2.2.2.2.2.2.2.2.2.2.2.2.2.1 C.2.2.2.2.2.2.2.2.2.2.2.2.2.2.2.2.2.2.1 C.2.2.2.2.2.2.2.2.2.2.2.2.2.2.2.2.2.2.2 L.2.2.1 L.2.2.2.1 L.2.2.2.2.1 L.2.2.2.2.2.1 L.2.2.2.2.2.2.1 L.2.2.2.2.2.2.2.1 L.2.2.2.2.2.2.2.2.1 L.2.2.2.2.2.2.2.2.2.1 L.2.2.2.2.2.2.2.2.2.2.1 L.2.2.2.2.2.2.2.2.2.2.2.1 L.2.2.2.2.2.2.2.2.2.2.2.2.1 L.2.2.2.2.2.2.2.2.2.2.2.2.2.1 L.2.2.2.2.2.2.2.2.2.2.2.2.2.2.1 L.2.2.2.2.2.2.2.2.2.2.2.2.2.2.2.1 L.2.2.2.2.2.2.2.2.2.2.2.2.2.2.2.2.1 L.2.2.2.2.2.2.2.2.2.2.2.2.2.2.2.2.2
theorem lv_exc {traits op d pc sr : Int32} {sum : Int64} {went val size pl st' esr : Int32} {esum : Int64} {goes tg w f v : Int32} {ns : Int64} {yb st has addr : Int32} (x : Nat) (hx : 0 < x ∧ x ≤ 14) (e : Int32) (he : has = e ∧ isB has ∧ (¬ e = 0 → addr = v)) :
    LV traits op d pc sr sum went (nI x) has addr val size pl st' esr esum goes tg (lkR w f (nI x) e v ns yb st pc went).2.2.1 (lkR w f (nI x) e v ns yb st pc went).2.2.2.1 (lkR w f (nI x) e v ns yb st pc went).2.2.2.2.1 (lkR w f (nI x) e v ns yb st pc went).2.2.2.2.2.1 (lkR w f (nI x) e v ns yb st pc went).2.2.2.2.2.2.1 (lkR w f (nI x) e v ns yb st pc went).2.2.2.2.2.2.2.1 (lkR w f (nI x) e v ns yb st pc went).2.2.2.2.2.2.2.2.1 (lkR w f (nI x) e v ns yb st pc went).2.2.2.2.2.2.2.2.2.1 (lkR w f (nI x) e v ns yb st pc went).2.2.2.2.2.2.2.2.2.2.1 (lkR w f (nI x) e v ns yb st pc went).2.2.2.2.2.2.2.2.2.2.2.1 (lkR w f (nI x) e v ns yb st pc went).2.2.2.2.2.2.2.2.2.2.2.2.1 (lkR w f (nI x) e v ns yb st pc went).2.2.2.2.2.2.2.2.2.2.2.2.2.1 (lkR w f (nI x) e v ns yb st pc went).2.2.2.2.2.2.2.2.2.2.2.2.2.2.1 (lkR w f (nI x) e v ns yb st pc went).2.2.2.2.2.2.2.2.2.2.2.2.2.2.2.1 (lkR w f (nI x) e v ns yb st pc went).2.2.2.2.2.2.2.2.2.2.2.2.2.2.2.2.1 (lkR w f (nI x) e v ns yb st pc went).2.2.2.2.2.2.2.2.2.2.2.2.2.2.2.2.2 :=
  ⟨rfl, ⟨x, hx.2, rfl⟩, fun _ => he, fun q => absurd q (nI_ne0 hx.1 (by omega)), fun _ => rfl⟩
theorem br_ill {slot traits op sr : Int32} (h : fX2_isIllegal slot traits op sr = 0) (hs : ¬ slot = 0) : fX3_is traits 8192 = 0 ∧ ¬ op = 33 := by
  unfold fX2_isIllegal at h
  dsimp only at h
  generalize fX3_is traits 131072 = A at h
  generalize fX3_is traits 262144 = B at h
  generalize fX3_is traits 8192 = D at h ⊢
  have k10 : ¬ (1 : Int32) = 0 := by decide
  by_cases ha : A = 0 <;> by_cases hb : B = 0 <;> by_cases hd : D = 0 <;> by_cases ho : op = 33 <;> by_cases h1 : sr &&& 1 = 0 <;> simp [ha, hb, hd, ho, h1, hs] at h ⊢
theorem e_comeTo {mem rg : Nat → Int32} {slot sr epc esr eea held count timer mask ret latch sets passed size : Int32} {pc mv ad pl st' tg o0 d0 a0 b0 u0 i0 j0 : Int32} {sum ns : Int64} {yb st went : Int32} {wo co va mm mr ms mw mlc mlv : Nat → Int32} (hm : MemOk mem mm) (hs : sets = 16 ∨ sets = 32 ∨ sets = 64 ∨ sets = 128) (hr : ∀ j, j < 32 → rg j = mr j) (hL : LinesOk size passed co ret) (h1 : ∀ j, j < 32 → co j = mlc j) (h2 : ∀ j, j < 32 → va j = mlv j) (hw : ∀ j, j < 512 → wo j = mw j) (e0 : sr = ms 0) (e1 : epc = ms 1) (e2 : esr = ms 2) (e3 : eea = ms 3) (e4 : count = ms 4) (e5 : timer = ms 5) (e6 : mask = ms 6) (e7 : held = ms 7) (e9 : latch = ms 9) :
    LR slot pc sr sum went (fX2_comeTo mem pc slot sr epc esr eea held sum count timer mask ret latch sets passed size o0 d0 a0 b0 u0 i0 j0 ad pl st' tg rg wo co va) (fX11_look sets sum pc slot ret size mv ns yb st went mm mr ms mw mlc mlv) ∧ LinesOk size (fX2_comeTo mem pc slot sr epc esr eea held sum count timer mask ret latch sets passed size o0 d0 a0 b0 u0 i0 j0 ad pl st' tg rg wo co va).1 co ret := by
  obtain ⟨c, hc, hcode⟩ := e_code (ms := ms) (sr := sr) hs hw e0 pc
  have htd := tm_due (sr := sr) (timer := timer) (ms := ms) e0 e5
  obtain ⟨hld, hln⟩ := ln_due (sr := sr) (mask := mask) hL h1 h2 e0 e6 e7 e9
  rw [look_eq sets sum pc slot ret size mv ns yb st went mm mr ms mw mlc mlv _ rfl _ rfl]
  unfold fX2_comeTo
  dsimp only
  rw [hc]
  generalize fX8_lineIsDue sr held mask ret latch passed size co va = LD at hld hln ⊢
  rcases hcode with ⟨a, ha, ha4, ec, em⟩ | ⟨k, k0, k14, ec, em⟩
  · rw [em, ec]
    have hp : (0 : Int32) ≤ nI a := nI_le (a := 0) (by omega) (by omega)
    have hg : fX6_get mem (nI a) = wd mm a := by
      unfold fX6_get
      rw [mix_nI (by omega), hm (a / 4) (by omega), show 4 * (a / 4) = a by omega]
    dsimp only
    rw [if_pos hp, if_pos hp, hg, f_word (by omega)]
    obtain ⟨n, d, en, ed, edec⟩ := dec_all (wd mm a)
    rw [edec]
    dsimp only
    generalize hwd : (if (0 : Int32) ≤ 0 then wd mm a else 0) = w
    have hwd' : w = wd mm a := by rw [← hwd]; exact if_pos (by decide)
    rw [← hwd'] at en ed edec ⊢
    by_cases ht : fX8_timerIsDue sr timer = 0
    · rw [if_pos ht, if_neg (htd.mp ht)]
      by_cases hl : LD.1 = 0
      · rw [if_pos hl, if_neg (hld.mp hl)]
        unfold lkT
        rw [if_pos (show ((nI a, (0 : Int32)) : Int32 × Int32).2 ≤ 0 from (by decide : (0 : Int32) ≤ 0))]
        by_cases hi : fX2_isIllegal slot (TT n.val d.val) (nI n.val) sr = 0
        · rw [if_neg ((ill_iff e0 n d en ed).mp hi)]
          obtain ⟨q1, q2⟩ := e_workOut (pc := pc) (mv := mv) (ad := ad) (pl := pl) (st' := st') (tg := tg) (sum := sum) (ns := ns) (yb := yb) (st := st) (went := went) hm hs hr hln h1 h2 hw e0 e1 e2 e3 e4 e5 e6 e7 e9 n d en ed hi _ rfl
          exact ⟨⟨Or.inl ⟨rfl, edec.symm⟩, fun _ q => br_ill hi q, q1⟩, q2⟩
        · have hil : ILL w slot ms := Classical.not_not.mp (fun q => hi ((ill_iff e0 n d en ed).mpr q))
          rw [if_pos hil]
          have hwk : ∀ p' : Int32, fX2_workOut mem pc slot sr epc esr eea held sum count timer mask ret latch sets p' size (TT n.val d.val) (nI n.val) (fD w) (fA w) (fB w) (w &&& 65535) w.toInt16.toInt32 ((w <<< ((6 : Int32) &&& 31)) >>> ((6 : Int32) &&& 31)) (fX0_begin sr sum).1 (fX0_begin sr sum).2.1 ad (fX0_begin sr sum).2.2.1 (fX0_begin sr sum).2.2.2.1 pl st' (fX0_begin sr sum).2.2.2.2.1 (fX0_begin sr sum).2.2.2.2.2.1 (fX0_begin sr sum).2.2.2.2.2.2 tg rg wo co va = (p', 7, 0, ad, 0, 0, pl, st', sr, sum, 0, tg) := by
            intro p'
            unfold fX2_workOut fX0_begin
            dsimp only
            rw [if_neg hi]
          rw [hwk]
          exact ⟨⟨Or.inl ⟨rfl, edec.symm⟩, fun q => absurd (show (7 : Int32) = 0 from q) (by decide), lv_exc 7 (by omega) 0 ⟨rfl, Or.inl rfl, fun q => absurd rfl q⟩⟩, hln⟩
      · have hl2 := Classical.not_not.mp (fun q => hl (hld.mpr q))
        rw [if_neg hl, if_pos hl2]
        exact ⟨⟨Or.inl ⟨rfl, edec.symm⟩, fun q => absurd (show (8 : Int32) = 0 from q) (by decide), lv_exc 8 (by omega) 0 ⟨rfl, Or.inl rfl, fun q => absurd rfl q⟩⟩, hln⟩
    · have ht2 := Classical.not_not.mp (fun q => ht (htd.mpr q))
      rw [if_neg ht, if_pos ht2]
      exact ⟨⟨Or.inl ⟨rfl, edec.symm⟩, fun q => absurd (show (5 : Int32) = 0 from q) (by decide), lv_exc 5 (by omega) 0 ⟨rfl, Or.inl rfl, fun q => absurd rfl q⟩⟩, hL⟩
  · rw [em, ec]
    have hb : ∀ k : Fin 15, k.val ≠ 0 → ¬ (0 : Int32) ≤ - nI k.val := by decide +kernel
    have hp : ¬ (0 : Int32) ≤ - nI k := hb ⟨k, by omega⟩ (by show k ≠ 0; omega)
    have hk0 : ¬ nI k = 0 := nI_ne0 k0 (by omega)
    have hkn : ¬ nI k ≤ 0 := nI_ge (b := k) (a := 0) k0 (by omega)
    dsimp only
    rw [if_neg hp, if_neg hp, if_neg hkn]
    by_cases ht : fX8_timerIsDue sr timer = 0
    · rw [if_pos ht, if_neg (htd.mp ht)]
      by_cases hl : LD.1 = 0
      · rw [if_pos hl, if_neg (hld.mp hl)]
        unfold lkT
        rw [if_neg (show ¬ (((0 : Int32), nI k) : Int32 × Int32).2 ≤ 0 from hkn)]
        unfold fX0_failAt
        rw [Int32.neg_neg]
        exact ⟨⟨Or.inr ⟨hk0, hkn, rfl, hk0⟩, fun q => absurd q hk0, lv_exc k ⟨k0, k14⟩ 1 ⟨rfl, Or.inr rfl, fun _ => rfl⟩⟩, hln⟩
      · have hl2 := Classical.not_not.mp (fun q => hl (hld.mpr q))
        rw [if_neg hl, if_pos hl2]
        exact ⟨⟨Or.inr ⟨hk0, hkn, rfl, by show ¬ (8 : Int32) = 0; decide⟩, fun q => absurd (show (8 : Int32) = 0 from q) (by decide), lv_exc 8 (by omega) 0 ⟨rfl, Or.inl rfl, fun q => absurd rfl q⟩⟩, hln⟩
    · have ht2 := Classical.not_not.mp (fun q => ht (htd.mpr q))
      rw [if_neg ht, if_pos ht2]
      exact ⟨⟨Or.inr ⟨hk0, hkn, rfl, by show ¬ (5 : Int32) = 0; decide⟩, fun q => absurd (show (5 : Int32) = 0 from q) (by decide), lv_exc 5 (by omega) 0 ⟨rfl, Or.inl rfl, fun q => absurd rfl q⟩⟩, hL⟩

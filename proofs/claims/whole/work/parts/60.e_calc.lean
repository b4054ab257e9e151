/-! ===== pure: an instruction that works out a value ===== -/
/-- SR with the marks that an instruction sets; -1: left as it is -/
def srB (s bit nbit f : Int32) : Int32 := if f < 0 then s else (if f = 1 then s ||| bit else s &&& nbit)
def srF (s f c o : Int32) : Int32 := srB (srB (srB s 32 (-33) f) 128 (-129) c) 256 (-257) o
theorem set32 (s p : Int32) (hp : isB p) : fX0_setBit s 32 p = srB s 32 (-33) p := by rcases hp with rfl | rfl <;> rfl
theorem set128 (s p : Int32) (hp : isB p) : fX0_setBit s 128 p = srB s 128 (-129) p := by rcases hp with rfl | rfl <;> rfl
theorem set256 (s p : Int32) (hp : isB p) : fX0_setBit s 256 p = srB s 256 (-257) p := by rcases hp with rfl | rfl <;> rfl
theorem srB_m (s b n : Int32) : srB s b n (-1) = s := rfl
theorem k512 : ∀ i, i < 32 → (bt 512 i = true → bt 128 i = false ∧ bt 256 i = false ∧ bt (-129) i = true ∧ bt (-257) i = true) := by decide +kernel
theorem a512 (x b : Int32) (h : ∀ i, i < 32 → bt 512 i = true → bt b i = false) : (x ||| b) &&& 512 = x &&& 512 := by
  refine b_ext (fun i hi => ?_)
  rw [b_and, b_and, b_or]
  cases h5 : bt 512 i
  · simp
  · rw [h i hi h5]; simp
theorem c512 (x b : Int32) (h : ∀ i, i < 32 → bt 512 i = true → bt b i = true) : (x &&& b) &&& 512 = x &&& 512 := by
  refine b_ext (fun i hi => ?_)
  rw [b_and, b_and, b_and]
  cases h5 : bt 512 i
  · simp
  · rw [h i hi h5]; simp
theorem v512 (s o : Int32) : srB s 256 (-257) o &&& 512 = s &&& 512 := by
  unfold srB
  split
  · rfl
  · split
    · exact a512 s 256 (fun i hi h => (k512 i hi h).2.1)
    · exact c512 s (-257) (fun i hi h => (k512 i hi h).2.2.2)
theorem y512 (s o : Int32) : srB s 128 (-129) o &&& 512 = s &&& 512 := by
  unfold srB
  split
  · rfl
  · split
    · exact a512 s 128 (fun i hi h => (k512 i hi h).1)
    · exact c512 s (-129) (fun i hi h => (k512 i hi h).2.2.1)
/-- what setOverflow does: the exception, and SR -/
theorem over_eq (s o : Int32) (ho : isB o) : fX0_setOverflow 0 s o = (if o = 0 then 0 else (if s &&& 512 = 0 then 0 else 11), srB s 256 (-257) o) := by
  unfold fX0_setOverflow
  rw [set256 s o ho]
  dsimp only
  rw [v512]
  by_cases h : o = 0
  · rw [if_pos h, if_pos h]
  · rw [if_neg h, if_neg h]
    by_cases h2 : s &&& 512 = 0
    · rw [if_pos h2, if_pos h2]
    · rw [if_neg h2, if_neg h2]
theorem isB_ite (P : Prop) [Decidable P] : isB (if P then (0 : Int32) else 1) := by by_cases h : P; · rw [if_pos h]; exact Or.inl rfl
                                                                                    · rw [if_neg h]; exact Or.inr rfl
theorem isB_ite' (P : Prop) [Decidable P] : isB (if P then (1 : Int32) else 0) := by by_cases h : P; · rw [if_pos h]; exact Or.inr rfl
                                                                                     · rw [if_neg h]; exact Or.inl rfl
/-- an instruction that works out: the class's and the reference's answers -/
def CRel (d sr : Int32) (sum : Int64) (k : Int32 × Int32 × Int32 × Int64) (m : Int32 × Int32 × Int32 × Int32 × Int32 × Int32 × Int64) (sumop : Bool) : Prop :=
  k.1 = m.1 ∧ (k.1 = 0 ∨ k.1 = 11) ∧ (k.1 = 0 → (m.2.1 = if sumop then 0 else d) ∧ (sumop = false → k.2.1 = m.2.2.1) ∧ k.2.2.1 = srF sr (-1) m.2.2.2.1 m.2.2.2.2.1 ∧ k.2.2.2 = if m.2.2.2.2.2.1 = 0 then sum else m.2.2.2.2.2.2)
theorem has512 (ms : Nat → Int32) : (fX11_has ms 512 = 0) ↔ (ms 0 &&& 512 = 0) := by
  rw [has_b]; by_cases h : ms 0 &&& 512 = 0
  · rw [if_pos h]; exact ⟨fun _ => h, fun _ => rfl⟩
  · rw [if_neg h]; exact ⟨fun q => absurd q (by decide), fun q => absurd q h⟩
/-- with marks: carry c (or -1) and overflow o -/
theorem cr_marks {d sr v mv : Int32} {sum ns : Int64} {ms : Nat → Int32} (h0 : sr = ms 0) (c o : Int32) (hc : c = -1 ∨ isB c) (ho : o = -1 ∨ isB o) (k : Int32 × Int32 × Int32 × Int64) (hk : k = (if o = 1 then (if sr &&& 512 = 0 then 0 else 11) else 0, v, srB (srB sr 128 (-129) c) 256 (-257) o, sum)) (m : Int32 × Int32 × Int32 × Int32 × Int32 × Int32 × Int64) (hm : m = if fX11_has ms 512 = 0 then (0, d, v, c, o, 0, ns) else (if o = 1 then (11, 0, mv, c, o, 0, ns) else (0, d, v, c, o, 0, ns))) : CRel d sr sum k m false := by
  subst hk; subst hm
  have e := has512 ms
  rw [← h0] at e
  by_cases h5 : sr &&& 512 = 0
  · rw [if_pos h5, if_pos (e.mpr h5)]
    have e0 : (if o = 1 then (0 : Int32) else 0) = 0 := by split <;> rfl
    rw [e0]
    exact ⟨rfl, Or.inl rfl, fun _ => ⟨rfl, fun _ => rfl, rfl, rfl⟩⟩
  · rw [if_neg h5, if_neg (fun q => h5 (e.mp q))]
    by_cases h1 : o = 1
    · rw [if_pos h1, if_pos h1]
      exact ⟨rfl, Or.inr rfl, fun q => absurd (show (11 : Int32) = 0 from q) (by decide)⟩
    · rw [if_neg h1, if_neg h1]
      exact ⟨rfl, Or.inl rfl, fun _ => ⟨rfl, fun _ => rfl, rfl, rfl⟩⟩

def addC (x y : Int32) (c : Int64) : Int32 := if (lg_cmp (((x.toInt64 &&& 4294967295) + (y.toInt64 &&& 4294967295)) + c) 4294967295) ≤ 0 then (0) else (1)
def ovO (v : Int64) : Int32 := if (lg_cmp v v.toInt32.toInt64) = 0 then (0) else (1)
theorem ex_form (o : Int32) (ho : isB o) (P : Prop) [Decidable P] : (if o = 0 then (0 : Int32) else (if P then 0 else 11)) = if o = 1 then (if P then 0 else 11) else 0 := by
  rcases ho with rfl | rfl <;> rfl
theorem add_k (sr x y c : Int32) : fX2_add 0 sr x y c = (if ovO (x.toInt64 + y.toInt64 + c.toInt64) = 1 then (if sr &&& 512 = 0 then 0 else 11) else 0, x + y + c, srB (srB sr 128 (-129) (addC x y c.toInt64)) 256 (-257) (ovO (x.toInt64 + y.toInt64 + c.toInt64))) := by
  unfold fX2_add
  dsimp only
  have hb : isB (addC x y c.toInt64) := isB_ite _
  have hb2 : isB (ovO (x.toInt64 + y.toInt64 + c.toInt64)) := isB_ite _
  have e : (if (lg_cmp ((x.toInt64 + y.toInt64) + c.toInt64) (((x + y) + c).toInt64)) = 0 then (0 : Int32) else (1)) = ovO (x.toInt64 + y.toInt64 + c.toInt64) := by
    unfold ovO
    rw [w_add32, Int32.toInt32_toInt64]
  rw [e, show (if (lg_cmp (((x.toInt64 &&& 4294967295) + (y.toInt64 &&& 4294967295)) + c.toInt64) 4294967295) ≤ 0 then (0 : Int32) else (1)) = addC x y c.toInt64 from rfl, set128 _ _ hb, over_eq _ _ hb2, y512, ex_form _ hb2]
theorem sub_k (sr x y : Int32) : fX2_subtract 0 sr x y = (if ovO (x.toInt64 - y.toInt64) = 1 then (if sr &&& 512 = 0 then 0 else 11) else 0, x - y, srB (srB sr 128 (-129) (if 0 ≤ (lg_cmp (x.toInt64 &&& 4294967295) (y.toInt64 &&& 4294967295)) then (0) else (1))) 256 (-257) (ovO (x.toInt64 - y.toInt64))) := by
  unfold fX2_subtract
  dsimp only
  have hb2 : isB (ovO (x.toInt64 - y.toInt64)) := isB_ite _
  have e : (if (lg_cmp (x.toInt64 - y.toInt64) ((x - y).toInt64)) = 0 then (0 : Int32) else (1)) = ovO (x.toInt64 - y.toInt64) := by
    unfold ovO
    rw [w_sub32]
  rw [e, w_ucmp, set128 _ _ (isB_ite _), over_eq _ _ hb2, y512, ex_form _ hb2]
theorem mul_k (sr x y : Int32) : fX2_multiply 0 sr x y = (if ovO (x.toInt64 * y.toInt64) = 1 then (if sr &&& 512 = 0 then 0 else 11) else 0, x * y, srB sr 256 (-257) (ovO (x.toInt64 * y.toInt64))) := by
  unfold fX2_multiply
  dsimp only
  have hb2 : isB (ovO (x.toInt64 * y.toInt64)) := isB_ite _
  have e : (if (lg_cmp (x.toInt64 * y.toInt64) ((x * y).toInt64)) = 0 then (0 : Int32) else (1)) = ovO (x.toInt64 * y.toInt64) := by
    unfold ovO
    rw [w_mul32]
  rw [e, over_eq _ _ hb2, ex_form _ hb2]
def divO (x y : Int32) : Int32 := if y = 0 then 1 else (if y = (-1) then (if x = (-2147483648) then 1 else 0) else 0)
def divV (x y : Int32) : Int32 := if y = 0 then (0) else (if y = (-1) then (-x) else (x / y))
theorem div_k (sr x y : Int32) : fX2_divide 0 sr x y = (if divO x y = 1 then (if sr &&& 512 = 0 then 0 else 11) else 0, divV x y, srB sr 256 (-257) (divO x y)) := by
  unfold fX2_divide
  dsimp only
  have e : (if y = 0 then (1 : Int32) else (if x = (-2147483648) then (if y = (-1) then (1) else (0)) else (0))) = divO x y := by
    unfold divO
    by_cases h : y = 0
    · rw [if_pos h, if_pos h]
    · rw [if_neg h, if_neg h]
      by_cases h1 : x = (-2147483648) <;> by_cases h2 : y = -1 <;> simp [h1, h2]
  have hb : isB (divO x y) := by
    unfold divO
    split
    · exact Or.inr rfl
    · split
      · split
        · exact Or.inr rfl
        · exact Or.inl rfl
      · exact Or.inl rfl
  have e2 : (if y = 0 then (0 : Int32) else (x / y)) = divV x y := by
    unfold divV
    by_cases h : y = 0
    · rw [if_pos h, if_pos h]
    · rw [if_neg h, if_neg h]
      by_cases h2 : y = -1
      · rw [if_pos h2, h2, w_divm1]
      · rw [if_neg h2]
  rw [e, e2, over_eq _ _ hb, ex_form _ hb]
def umC (x y : Int32) : Int32 := if (lg_cmp ((x.toInt64 &&& 4294967295) * (y.toInt64 &&& 4294967295)) 0) < 0 then (1) else (if (lg_cmp ((x.toInt64 &&& 4294967295) * (y.toInt64 &&& 4294967295)) 4294967295) ≤ 0 then (0) else (1))
theorem umul_k (sr x y : Int32) : fX2_multiplyUnsigned sr x y = (x * y, srB sr 128 (-129) (umC x y)) := by
  unfold fX2_multiplyUnsigned
  dsimp only
  have e : (if (lg_cmp (jlushr ((x.toInt64 &&& 4294967295) * (y.toInt64 &&& 4294967295)) 32) 0) = 0 then (0 : Int32) else (1)) = umC x y := by
    unfold umC
    have := w_high ((x.toInt64 &&& 4294967295) * (y.toInt64 &&& 4294967295))
    by_cases h : lg_cmp (jlushr ((x.toInt64 &&& 4294967295) * (y.toInt64 &&& 4294967295)) 32) 0 = 0
    · obtain ⟨a, b⟩ := this.mp h
      rw [if_pos h, if_neg a, if_pos b]
    · rw [if_neg h]
      by_cases a : lg_cmp ((x.toInt64 &&& 4294967295) * (y.toInt64 &&& 4294967295)) 0 < 0
      · rw [if_pos a]
      · rw [if_neg a, if_neg (fun q => h (this.mpr ⟨a, q⟩))]
  have hb : isB (umC x y) := by rw [← e]; exact isB_ite _
  rw [e, w_umul32, set128 _ _ hb]
theorem udiv_k (sr x y : Int32) : fX2_divideUnsigned sr x y = (if y = 0 then (0) else (((x.toInt64 &&& 4294967295) / (y.toInt64 &&& 4294967295)).toInt32), srB sr 128 (-129) (if y = 0 then (1) else (0))) := by
  unfold fX2_divideUnsigned
  dsimp only
  rw [set128 _ _ (isB_ite' _)]
theorem umC_b (x y : Int32) : isB (umC x y) := by
  unfold umC
  split
  · exact Or.inr rfl
  · exact isB_ite _
theorem divO_b (x y : Int32) : isB (divO x y) := by
  unfold divO
  split
  · exact Or.inr rfl
  · split
    · exact isB_ite' _
    · exact Or.inl rfl
theorem calc_2 {d sr u i x y mv w : Int32} {sum ns : Int64} {ms : Nat → Int32} (h0 : sr = ms 0) (hS : fX11_isSum w = 0) (hC : fX11_readsCarry w = 0) : CRel d sr sum (fX2_calculate 2 u i 0 0 sr sum x y) (fX11_work sum w 0 0 mv (-1) (-1) 0 ns ms 2 d x y u i) false := by
  refine cr_marks (v := x &&& y) (mv := mv) (ns := ns) h0 (-1) (-1) (Or.inl rfl) (Or.inl rfl) _ ?_ _ ?_
  · rfl
  · unfold fX11_work fX11_signs
    rw [hS, hC]
    rfl
theorem calc_3 {d sr u i x y mv w : Int32} {sum ns : Int64} {ms : Nat → Int32} (h0 : sr = ms 0) (hS : fX11_isSum w = 0) (hC : fX11_readsCarry w = 0) : CRel d sr sum (fX2_calculate 3 u i 0 0 sr sum x y) (fX11_work sum w 0 0 mv (-1) (-1) 0 ns ms 3 d x y u i) false := by
  refine cr_marks (v := x ||| y) (mv := mv) (ns := ns) h0 (-1) (-1) (Or.inl rfl) (Or.inl rfl) _ ?_ _ ?_
  · rfl
  · unfold fX11_work fX11_signs
    rw [hS, hC]
    rfl
theorem calc_4 {d sr u i x y mv w : Int32} {sum ns : Int64} {ms : Nat → Int32} (h0 : sr = ms 0) (hS : fX11_isSum w = 0) (hC : fX11_readsCarry w = 0) : CRel d sr sum (fX2_calculate 4 u i 0 0 sr sum x y) (fX11_work sum w 0 0 mv (-1) (-1) 0 ns ms 4 d x y u i) false := by
  refine cr_marks (v := x ^^^ y) (mv := mv) (ns := ns) h0 (-1) (-1) (Or.inl rfl) (Or.inl rfl) _ ?_ _ ?_
  · rfl
  · unfold fX11_work fX11_signs
    rw [hS, hC]
    rfl
theorem calc_5 {d sr u i x y mv w : Int32} {sum ns : Int64} {ms : Nat → Int32} (h0 : sr = ms 0) (hS : fX11_isSum w = 0) (hC : fX11_readsCarry w = 0) : CRel d sr sum (fX2_calculate 5 u i 0 0 sr sum x y) (fX11_work sum w 0 0 mv (-1) (-1) 0 ns ms 5 d x y u i) false := by
  refine cr_marks (v := x <<< ((y &&& 31) &&& 31)) (mv := mv) (ns := ns) h0 (-1) (-1) (Or.inl rfl) (Or.inl rfl) _ ?_ _ ?_
  · rfl
  · unfold fX11_work fX11_signs
    rw [hS, hC]
    rfl
theorem calc_6 {d sr u i x y mv w : Int32} {sum ns : Int64} {ms : Nat → Int32} (h0 : sr = ms 0) (hS : fX11_isSum w = 0) (hC : fX11_readsCarry w = 0) : CRel d sr sum (fX2_calculate 6 u i 0 0 sr sum x y) (fX11_work sum w 0 0 mv (-1) (-1) 0 ns ms 6 d x y u i) false := by
  refine cr_marks (v := jushr x (y &&& 31)) (mv := mv) (ns := ns) h0 (-1) (-1) (Or.inl rfl) (Or.inl rfl) _ ?_ _ ?_
  · rfl
  · unfold fX11_work fX11_signs
    rw [hS, hC]
    rfl
theorem calc_7 {d sr u i x y mv w : Int32} {sum ns : Int64} {ms : Nat → Int32} (h0 : sr = ms 0) (hS : fX11_isSum w = 0) (hC : fX11_readsCarry w = 0) : CRel d sr sum (fX2_calculate 7 u i 0 0 sr sum x y) (fX11_work sum w 0 0 mv (-1) (-1) 0 ns ms 7 d x y u i) false := by
  refine cr_marks (v := x >>> ((y &&& 31) &&& 31)) (mv := mv) (ns := ns) h0 (-1) (-1) (Or.inl rfl) (Or.inl rfl) _ ?_ _ ?_
  · rfl
  · unfold fX11_work fX11_signs
    rw [hS, hC]
    rfl
theorem calc_11 {d sr u i x y mv w : Int32} {sum ns : Int64} {ms : Nat → Int32} (h0 : sr = ms 0) (hS : fX11_isSum w = 0) (hC : fX11_readsCarry w = 0) : CRel d sr sum (fX2_calculate 11 u i 0 0 sr sum x y) (fX11_work sum w 0 0 mv (-1) (-1) 0 ns ms 11 d x y u i) false := by
  refine cr_marks (v := x &&& u) (mv := mv) (ns := ns) h0 (-1) (-1) (Or.inl rfl) (Or.inl rfl) _ ?_ _ ?_
  · rfl
  · unfold fX11_work fX11_signs
    rw [hS, hC]
    rfl
theorem calc_12 {d sr u i x y mv w : Int32} {sum ns : Int64} {ms : Nat → Int32} (h0 : sr = ms 0) (hS : fX11_isSum w = 0) (hC : fX11_readsCarry w = 0) : CRel d sr sum (fX2_calculate 12 u i 0 0 sr sum x y) (fX11_work sum w 0 0 mv (-1) (-1) 0 ns ms 12 d x y u i) false := by
  refine cr_marks (v := x ||| u) (mv := mv) (ns := ns) h0 (-1) (-1) (Or.inl rfl) (Or.inl rfl) _ ?_ _ ?_
  · rfl
  · unfold fX11_work fX11_signs
    rw [hS, hC]
    rfl
theorem calc_13 {d sr u i x y mv w : Int32} {sum ns : Int64} {ms : Nat → Int32} (h0 : sr = ms 0) (hS : fX11_isSum w = 0) (hC : fX11_readsCarry w = 0) : CRel d sr sum (fX2_calculate 13 u i 0 0 sr sum x y) (fX11_work sum w 0 0 mv (-1) (-1) 0 ns ms 13 d x y u i) false := by
  refine cr_marks (v := x ^^^ u) (mv := mv) (ns := ns) h0 (-1) (-1) (Or.inl rfl) (Or.inl rfl) _ ?_ _ ?_
  · rfl
  · unfold fX11_work fX11_signs
    rw [hS, hC]
    rfl
theorem calc_14 {d sr u i x y mv w : Int32} {sum ns : Int64} {ms : Nat → Int32} (h0 : sr = ms 0) (hS : fX11_isSum w = 0) (hC : fX11_readsCarry w = 0) : CRel d sr sum (fX2_calculate 14 u i 0 0 sr sum x y) (fX11_work sum w 0 0 mv (-1) (-1) 0 ns ms 14 d x y u i) false := by
  refine cr_marks (v := u <<< ((16 : Int32) &&& 31)) (mv := mv) (ns := ns) h0 (-1) (-1) (Or.inl rfl) (Or.inl rfl) _ ?_ _ ?_
  · rfl
  · unfold fX11_work fX11_signs
    rw [hS, hC]
    rfl
theorem calc_15 {d sr u i x y mv w : Int32} {sum ns : Int64} {ms : Nat → Int32} (h0 : sr = ms 0) (hS : fX11_isSum w = 0) (hC : fX11_readsCarry w = 0) : CRel d sr sum (fX2_calculate 15 u i 0 0 sr sum x y) (fX11_work sum w 0 0 mv (-1) (-1) 0 ns ms 15 d x y u i) false := by
  refine cr_marks (v := x <<< ((u &&& 31) &&& 31)) (mv := mv) (ns := ns) h0 (-1) (-1) (Or.inl rfl) (Or.inl rfl) _ ?_ _ ?_
  · rfl
  · unfold fX11_work fX11_signs
    rw [hS, hC]
    rfl
theorem calc_16 {d sr u i x y mv w : Int32} {sum ns : Int64} {ms : Nat → Int32} (h0 : sr = ms 0) (hS : fX11_isSum w = 0) (hC : fX11_readsCarry w = 0) : CRel d sr sum (fX2_calculate 16 u i 0 0 sr sum x y) (fX11_work sum w 0 0 mv (-1) (-1) 0 ns ms 16 d x y u i) false := by
  refine cr_marks (v := jushr x (u &&& 31)) (mv := mv) (ns := ns) h0 (-1) (-1) (Or.inl rfl) (Or.inl rfl) _ ?_ _ ?_
  · rfl
  · unfold fX11_work fX11_signs
    rw [hS, hC]
    rfl
theorem calc_17 {d sr u i x y mv w : Int32} {sum ns : Int64} {ms : Nat → Int32} (h0 : sr = ms 0) (hS : fX11_isSum w = 0) (hC : fX11_readsCarry w = 0) : CRel d sr sum (fX2_calculate 17 u i 0 0 sr sum x y) (fX11_work sum w 0 0 mv (-1) (-1) 0 ns ms 17 d x y u i) false := by
  refine cr_marks (v := x >>> ((u &&& 31) &&& 31)) (mv := mv) (ns := ns) h0 (-1) (-1) (Or.inl rfl) (Or.inl rfl) _ ?_ _ ?_
  · rfl
  · unfold fX11_work fX11_signs
    rw [hS, hC]
    rfl
theorem calc_44 {d sr u i x y mv w : Int32} {sum ns : Int64} {ms : Nat → Int32} (h0 : sr = ms 0) (hS : fX11_isSum w = 0) (hC : fX11_readsCarry w = 0) : CRel d sr sum (fX2_calculate 44 u i 0 0 sr sum x y) (fX11_work sum w 0 0 mv (-1) (-1) 0 ns ms 44 d x y u i) false := by
  refine cr_marks (v := x &&& 65535) (mv := mv) (ns := ns) h0 (-1) (-1) (Or.inl rfl) (Or.inl rfl) _ ?_ _ ?_
  · rfl
  · unfold fX11_work fX11_signs
    rw [hS, hC]
    rfl
theorem calc_45 {d sr u i x y mv w : Int32} {sum ns : Int64} {ms : Nat → Int32} (h0 : sr = ms 0) (hS : fX11_isSum w = 0) (hC : fX11_readsCarry w = 0) : CRel d sr sum (fX2_calculate 45 u i 0 0 sr sum x y) (fX11_work sum w 0 0 mv (-1) (-1) 0 ns ms 45 d x y u i) false := by
  refine cr_marks (v := x &&& 255) (mv := mv) (ns := ns) h0 (-1) (-1) (Or.inl rfl) (Or.inl rfl) _ ?_ _ ?_
  · rfl
  · unfold fX11_work fX11_signs
    rw [hS, hC]
    rfl
theorem calc_42 {d sr u i x y mv w : Int32} {sum ns : Int64} {ms : Nat → Int32} (h0 : sr = ms 0) (hS : fX11_isSum w = 0) (hC : fX11_readsCarry w = 0) : CRel d sr sum (fX2_calculate 42 u i 0 0 sr sum x y) (fX11_work sum w 0 0 mv (-1) (-1) 0 ns ms 42 d x y u i) false := by
  refine cr_marks (v := x.toInt16.toInt32) (mv := mv) (ns := ns) h0 (-1) (-1) (Or.inl rfl) (Or.inl rfl) _ ?_ _ ?_
  · rfl
  · unfold fX11_work fX11_signs
    rw [hS, hC]
    rw [← w_s16]
    rfl
theorem calc_43 {d sr u i x y mv w : Int32} {sum ns : Int64} {ms : Nat → Int32} (h0 : sr = ms 0) (hS : fX11_isSum w = 0) (hC : fX11_readsCarry w = 0) : CRel d sr sum (fX2_calculate 43 u i 0 0 sr sum x y) (fX11_work sum w 0 0 mv (-1) (-1) 0 ns ms 43 d x y u i) false := by
  refine cr_marks (v := x.toInt8.toInt32) (mv := mv) (ns := ns) h0 (-1) (-1) (Or.inl rfl) (Or.inl rfl) _ ?_ _ ?_
  · rfl
  · unfold fX11_work fX11_signs
    rw [hS, hC]
    rw [← w_s8]
    rfl
theorem calc_49 {d sr u i x y mv w : Int32} {sum ns : Int64} {ms : Nat → Int32} (h0 : sr = ms 0) (hS : fX11_isSum w = 0) (hC : fX11_readsCarry w = 0) : CRel d sr sum (fX2_calculate 49 u i 0 0 sr sum x y) (fX11_work sum w 0 0 mv (-1) (-1) 0 ns ms 49 d x y u i) false := by
  refine cr_marks (v := fX11_rotated x y) (mv := mv) (ns := ns) h0 (-1) (-1) (Or.inl rfl) (Or.inl rfl) _ ?_ _ ?_
  · rw [← w_rot]
    rfl
  · unfold fX11_work fX11_signs
    rw [hS, hC]
    rfl
theorem calc_50 {d sr u i x y mv w : Int32} {sum ns : Int64} {ms : Nat → Int32} (h0 : sr = ms 0) (hS : fX11_isSum w = 0) (hC : fX11_readsCarry w = 0) : CRel d sr sum (fX2_calculate 50 u i 0 0 sr sum x y) (fX11_work sum w 0 0 mv (-1) (-1) 0 ns ms 50 d x y u i) false := by
  refine cr_marks (v := fX11_rotated x u) (mv := mv) (ns := ns) h0 (-1) (-1) (Or.inl rfl) (Or.inl rfl) _ ?_ _ ?_
  · rw [← w_rot]
    rfl
  · unfold fX11_work fX11_signs
    rw [hS, hC]
    rfl
set_option maxRecDepth 20000 in
theorem work_47 {d u i x y mv w : Int32} {sum ns : Int64} {ms : Nat → Int32} (hS : fX11_isSum w = 0) (hC : fX11_readsCarry w = 0) : fX11_work sum w 0 0 mv (-1) (-1) 0 ns ms 47 d x y u i = if fX11_has ms 512 = 0 then (0, d, fX11_more ms 47 x y u i, -1, -1, 0, ns) else (if (-1 : Int32) = 1 then (11, 0, mv, -1, -1, 0, ns) else (0, d, fX11_more ms 47 x y u i, -1, -1, 0, ns)) := by
  unfold fX11_work fX11_signs
  rw [hS, hC]
  simp only [show ¬ (47 : Int32) = 41 by decide, show ¬ (47 : Int32) = 10 by decide, show ¬ (47 : Int32) = 35 by decide, show ¬ (47 : Int32) = 57 by decide, show (18 : Int32) ≤ 47 by decide, show ¬ (47 : Int32) = 0 by decide, show ¬ (47 : Int32) = 34 by decide, show ¬ (47 : Int32) = 1 by decide, show ¬ (47 : Int32) = 36 by decide, show ¬ (47 : Int32) = 37 by decide, show ¬ (47 : Int32) = 8 by decide, show ¬ (47 : Int32) = 9 by decide, if_true, if_false, fX11_give]
set_option maxRecDepth 20000 in
theorem more_47 (ms : Nat → Int32) (x y u i : Int32) : fX11_more ms 47 x y u i = fX11_bitOf x 1 := by
  unfold fX11_more
  dsimp only
  rw [if_neg (show ¬ (47 : Int32) = 34 by decide), if_neg (show ¬ (47 : Int32) = 35 by decide), if_neg (show ¬ (47 : Int32) = 36 by decide), if_neg (show ¬ (47 : Int32) = 37 by decide), if_neg (show ¬ (47 : Int32) = 42 by decide), if_neg (show ¬ (47 : Int32) = 43 by decide), if_neg (show ¬ (47 : Int32) = 44 by decide), if_neg (show ¬ (47 : Int32) = 45 by decide), if_neg (show ¬ (47 : Int32) = 46 by decide), if_pos (show (47 : Int32) = 47 from rfl), if_pos (show (47 : Int32) = 47 from rfl)]
set_option maxRecDepth 20000 in
theorem work_48 {d u i x y mv w : Int32} {sum ns : Int64} {ms : Nat → Int32} (hS : fX11_isSum w = 0) (hC : fX11_readsCarry w = 0) : fX11_work sum w 0 0 mv (-1) (-1) 0 ns ms 48 d x y u i = if fX11_has ms 512 = 0 then (0, d, fX11_more ms 48 x y u i, -1, -1, 0, ns) else (if (-1 : Int32) = 1 then (11, 0, mv, -1, -1, 0, ns) else (0, d, fX11_more ms 48 x y u i, -1, -1, 0, ns)) := by
  unfold fX11_work fX11_signs
  rw [hS, hC]
  simp only [show ¬ (48 : Int32) = 41 by decide, show ¬ (48 : Int32) = 10 by decide, show ¬ (48 : Int32) = 35 by decide, show ¬ (48 : Int32) = 57 by decide, show (18 : Int32) ≤ 48 by decide, show ¬ (48 : Int32) = 0 by decide, show ¬ (48 : Int32) = 34 by decide, show ¬ (48 : Int32) = 1 by decide, show ¬ (48 : Int32) = 36 by decide, show ¬ (48 : Int32) = 37 by decide, show ¬ (48 : Int32) = 8 by decide, show ¬ (48 : Int32) = 9 by decide, if_true, if_false, fX11_give]
set_option maxRecDepth 20000 in
theorem more_48 (ms : Nat → Int32) (x y u i : Int32) : fX11_more ms 48 x y u i = fX11_bitOf x 0 := by
  unfold fX11_more
  dsimp only
  rw [if_neg (show ¬ (48 : Int32) = 34 by decide), if_neg (show ¬ (48 : Int32) = 35 by decide), if_neg (show ¬ (48 : Int32) = 36 by decide), if_neg (show ¬ (48 : Int32) = 37 by decide), if_neg (show ¬ (48 : Int32) = 42 by decide), if_neg (show ¬ (48 : Int32) = 43 by decide), if_neg (show ¬ (48 : Int32) = 44 by decide), if_neg (show ¬ (48 : Int32) = 45 by decide), if_neg (show ¬ (48 : Int32) = 46 by decide), if_neg (show ¬ (48 : Int32) = 47 by decide), if_pos (show (48 : Int32) = 48 from rfl), if_neg (show ¬ (48 : Int32) = 47 by decide)]
set_option maxRecDepth 20000 in
theorem kcalc_48 (u i sr x y : Int32) (sum : Int64) : fX2_calculate 48 u i 0 0 sr sum x y = (0, 32 - fJ6_numberOfLeadingZeros_0f7a4 x, sr, sum) := by
  unfold fX2_calculate fX2_plainResult fX2_furtherResult
  simp only [show ¬ (48 : Int32) = 0 by decide, show ¬ (48 : Int32) = 1 by decide, show ¬ (48 : Int32) = 8 by decide, show ¬ (48 : Int32) = 9 by decide, show ¬ (48 : Int32) = 10 by decide, show ¬ (48 : Int32) = 34 by decide, show ¬ (48 : Int32) = 35 by decide, show ¬ (48 : Int32) = 36 by decide, show ¬ (48 : Int32) = 37 by decide, show ¬ (48 : Int32) = 38 by decide, show ¬ (48 : Int32) = 39 by decide, show ¬ (48 : Int32) = 40 by decide, show ¬ (48 : Int32) = 41 by decide, show ¬ (48 : Int32) = 57 by decide, show ¬ (48 : Int32) = 2 by decide, show ¬ (48 : Int32) = 3 by decide, show ¬ (48 : Int32) = 4 by decide, show ¬ (48 : Int32) = 5 by decide, show ¬ (48 : Int32) = 6 by decide, show ¬ (48 : Int32) = 7 by decide, show ¬ (48 : Int32) = 11 by decide, show ¬ (48 : Int32) = 12 by decide, show ¬ (48 : Int32) = 13 by decide, show ¬ (48 : Int32) = 14 by decide, show ¬ (48 : Int32) = 15 by decide, show ¬ (48 : Int32) = 16 by decide, show ¬ (48 : Int32) = 17 by decide, show ¬ (48 : Int32) = 42 by decide, show ¬ (48 : Int32) = 43 by decide, show ¬ (48 : Int32) = 44 by decide, show ¬ (48 : Int32) = 45 by decide, show ¬ (48 : Int32) = 46 by decide, show ¬ (48 : Int32) = 47 by decide, if_true, if_false]
set_option maxRecDepth 20000 in
theorem kcalc_47 (u i sr x y : Int32) (sum : Int64) : fX2_calculate 47 u i 0 0 sr sum x y = (0, (if x = 0 then (0 : Int32) else (fJ6_numberOfTrailingZeros_0f7a4 x + 1)), sr, sum) := by
  unfold fX2_calculate fX2_plainResult fX2_furtherResult
  simp only [show ¬ (47 : Int32) = 0 by decide, show ¬ (47 : Int32) = 1 by decide, show ¬ (47 : Int32) = 8 by decide, show ¬ (47 : Int32) = 9 by decide, show ¬ (47 : Int32) = 10 by decide, show ¬ (47 : Int32) = 34 by decide, show ¬ (47 : Int32) = 35 by decide, show ¬ (47 : Int32) = 36 by decide, show ¬ (47 : Int32) = 37 by decide, show ¬ (47 : Int32) = 38 by decide, show ¬ (47 : Int32) = 39 by decide, show ¬ (47 : Int32) = 40 by decide, show ¬ (47 : Int32) = 41 by decide, show ¬ (47 : Int32) = 57 by decide, show ¬ (47 : Int32) = 2 by decide, show ¬ (47 : Int32) = 3 by decide, show ¬ (47 : Int32) = 4 by decide, show ¬ (47 : Int32) = 5 by decide, show ¬ (47 : Int32) = 6 by decide, show ¬ (47 : Int32) = 7 by decide, show ¬ (47 : Int32) = 11 by decide, show ¬ (47 : Int32) = 12 by decide, show ¬ (47 : Int32) = 13 by decide, show ¬ (47 : Int32) = 14 by decide, show ¬ (47 : Int32) = 15 by decide, show ¬ (47 : Int32) = 16 by decide, show ¬ (47 : Int32) = 17 by decide, show ¬ (47 : Int32) = 42 by decide, show ¬ (47 : Int32) = 43 by decide, show ¬ (47 : Int32) = 44 by decide, show ¬ (47 : Int32) = 45 by decide, show ¬ (47 : Int32) = 46 by decide, if_true, if_false]
set_option maxRecDepth 20000 in
theorem bit0 : fX11_bitOf 0 1 = 0 := by decide +kernel
set_option maxRecDepth 20000 in
theorem tz_eq (x : Int32) : (if x = 0 then (0 : Int32) else (fJ6_numberOfTrailingZeros_0f7a4 x + 1)) = fX11_bitOf x 1 := by
  by_cases hx : x = 0
  · rw [if_pos hx, hx, bit0]
  · rw [if_neg hx, w_lo x hx]
set_option maxRecDepth 20000 in
theorem calc_47 {d sr u i x y mv w : Int32} {sum ns : Int64} {ms : Nat → Int32} (h0 : sr = ms 0) (hS : fX11_isSum w = 0) (hC : fX11_readsCarry w = 0) : CRel d sr sum (fX2_calculate 47 u i 0 0 sr sum x y) (fX11_work sum w 0 0 mv (-1) (-1) 0 ns ms 47 d x y u i) false := by
  rw [work_47 hS hC, more_47, kcalc_47, tz_eq]
  generalize fX11_bitOf x 1 = V
  exact cr_marks (v := V) (mv := mv) (ns := ns) h0 (-1) (-1) (Or.inl rfl) (Or.inl rfl) _ rfl _ rfl
set_option maxRecDepth 20000 in
theorem calc_48 {d sr u i x y mv w : Int32} {sum ns : Int64} {ms : Nat → Int32} (h0 : sr = ms 0) (hS : fX11_isSum w = 0) (hC : fX11_readsCarry w = 0) : CRel d sr sum (fX2_calculate 48 u i 0 0 sr sum x y) (fX11_work sum w 0 0 mv (-1) (-1) 0 ns ms 48 d x y u i) false := by
  rw [work_48 hS hC, more_48, kcalc_48, w_hi]
  generalize fX11_bitOf x 0 = V
  exact cr_marks (v := V) (mv := mv) (ns := ns) h0 (-1) (-1) (Or.inl rfl) (Or.inl rfl) _ rfl _ rfl
theorem calc_46 {d sr u i x y mv w : Int32} {sum ns : Int64} {ms : Nat → Int32} (h0 : sr = ms 0) (hS : fX11_isSum w = 0) (hC : fX11_readsCarry w = 0) : CRel d sr sum (fX2_calculate 46 u i 0 0 sr sum x y) (fX11_work sum w 0 0 mv (-1) (-1) 0 ns ms 46 d x y u i) false := by
  refine cr_marks (v := if (sr &&& 32) = 0 then y else x) (mv := mv) (ns := ns) h0 (-1) (-1) (Or.inl rfl) (Or.inl rfl) _ ?_ _ ?_
  · rfl
  · unfold fX11_work fX11_signs
    rw [hS, hC]
    rw [h0]
    have e : (if fX11_has ms 32 = 0 then y else x) = if (ms 0 &&& 32) = 0 then y else x := by
      rw [has_b]
      by_cases h : ms 0 &&& 32 = 0
      · rw [if_pos h, if_pos h, if_pos rfl]
      · rw [if_neg h, if_neg h, if_neg (by decide)]
    rw [← e]
    rfl
theorem calc_0 {d sr u i x y mv w : Int32} {sum ns : Int64} {ms : Nat → Int32} (h0 : sr = ms 0) (hS : fX11_isSum w = 0) (hC : fX11_readsCarry w = 0) : CRel d sr sum (fX2_calculate 0 u i 0 0 sr sum x y) (fX11_work sum w 0 0 mv (-1) (-1) 0 ns ms 0 d x y u i) false := by
  refine cr_marks (v := x + y) (mv := mv) (ns := ns) h0 (addC x y 0) (ovO (x.toInt64 + y.toInt64 + 0)) (Or.inr (isB_ite _)) (Or.inr (isB_ite _)) _ ?_ _ ?_
  · show ((fX2_add 0 sr x y 0).1, (fX2_add 0 sr x y 0).2.1, (fX2_add 0 sr x y 0).2.2, sum) = _
    rw [add_k, Int32.add_zero]
    rfl
  · unfold fX11_work fX11_signs
    rw [hS, hC]
    rfl
theorem calc_10 {d sr u i x y mv w : Int32} {sum ns : Int64} {ms : Nat → Int32} (h0 : sr = ms 0) (hS : fX11_isSum w = 0) (hC : fX11_readsCarry w = 0) : CRel d sr sum (fX2_calculate 10 u i 0 0 sr sum x y) (fX11_work sum w 0 0 mv (-1) (-1) 0 ns ms 10 d x y u i) false := by
  refine cr_marks (v := x + i) (mv := mv) (ns := ns) h0 (addC x i 0) (ovO (x.toInt64 + i.toInt64 + 0)) (Or.inr (isB_ite _)) (Or.inr (isB_ite _)) _ ?_ _ ?_
  · show ((fX2_add 0 sr x i 0).1, (fX2_add 0 sr x i 0).2.1, (fX2_add 0 sr x i 0).2.2, sum) = _
    rw [add_k, Int32.add_zero]
    rfl
  · unfold fX11_work fX11_signs
    rw [hS, hC]
    rfl
theorem cy_eq (s : Int32) : (if (if (s &&& 128) = 0 then (0 : Int32) else 1) = 0 then (0 : Int64) else 1) = (if (s &&& 128) = 0 then (0 : Int32) else 1).toInt64 := by
  by_cases h : s &&& 128 = 0
  · rw [if_pos h, if_pos rfl]; rfl
  · rw [if_neg h, if_neg (by decide)]; rfl
theorem cy_add (s v : Int32) : (if (if (s &&& 128) = 0 then (0 : Int32) else 1) = 0 then v + 0 else v + 1) = v + (if (s &&& 128) = 0 then (0 : Int32) else 1) := by
  by_cases h : s &&& 128 = 0
  · rw [if_pos h, if_pos rfl]
  · rw [if_neg h, if_neg (by decide)]
theorem work_34 {d u i x y mv w : Int32} {sum ns : Int64} {ms : Nat → Int32} (hS : fX11_isSum w = 0) : fX11_work sum w 0 0 mv (-1) (-1) 0 ns ms 34 d x y u i = if fX11_has ms 512 = 0 then (0, d, fX11_more ms 34 x y u i, (fX11_signs w (-1) (-1) ms 34 x y).1, (fX11_signs w (-1) (-1) ms 34 x y).2, 0, ns) else (if (fX11_signs w (-1) (-1) ms 34 x y).2 = 1 then (11, 0, mv, (fX11_signs w (-1) (-1) ms 34 x y).1, (fX11_signs w (-1) (-1) ms 34 x y).2, 0, ns) else (0, d, fX11_more ms 34 x y u i, (fX11_signs w (-1) (-1) ms 34 x y).1, (fX11_signs w (-1) (-1) ms 34 x y).2, 0, ns)) := by
  unfold fX11_work
  rw [hS]
  generalize fX11_signs = SG
  generalize fX11_more = MO
  generalize fX11_has = HA
  rfl
theorem calc_34 {d sr u i x y mv w : Int32} {sum ns : Int64} {ms : Nat → Int32} (h0 : sr = ms 0) (hS : fX11_isSum w = 0) (hC : fX11_readsCarry w = 1) : CRel d sr sum (fX2_calculate 34 u i 0 0 sr sum x y) (fX11_work sum w 0 0 mv (-1) (-1) 0 ns ms 34 d x y u i) false := by
  by_cases hc : sr &&& 128 = 0
  · have hh : fX11_has ms 128 = 0 := by rw [has_b, ← h0, if_pos hc]
    refine cr_marks (v := x + y + 0) (mv := mv) (ns := ns) h0 (addC x y 0) (ovO (x.toInt64 + y.toInt64 + 0)) (Or.inr (isB_ite _)) (Or.inr (isB_ite _)) _ ?_ _ ?_
    · show ((fX2_add 0 sr x y (if (sr &&& 128) = 0 then (0 : Int32) else 1)).1, (fX2_add 0 sr x y (if (sr &&& 128) = 0 then (0 : Int32) else 1)).2.1, (fX2_add 0 sr x y (if (sr &&& 128) = 0 then (0 : Int32) else 1)).2.2, sum) = _
      rw [if_pos hc, add_k, show (0 : Int32).toInt64 = 0 from rfl]
    · have e1 : fX11_signs w (-1) (-1) ms 34 x y = (addC x y 0, ovO (x.toInt64 + y.toInt64 + 0)) := by
        unfold fX11_signs
        rw [hC, hh]
        rfl
      have e2 : fX11_more ms 34 x y u i = x + y + 0 := by
        unfold fX11_more
        rw [hh]
        rfl
      rw [work_34 hS, e1, e2]
  · have hh : fX11_has ms 128 = 1 := by rw [has_b, ← h0, if_neg hc]
    refine cr_marks (v := x + y + 1) (mv := mv) (ns := ns) h0 (addC x y 1) (ovO (x.toInt64 + y.toInt64 + 1)) (Or.inr (isB_ite _)) (Or.inr (isB_ite _)) _ ?_ _ ?_
    · show ((fX2_add 0 sr x y (if (sr &&& 128) = 0 then (0 : Int32) else 1)).1, (fX2_add 0 sr x y (if (sr &&& 128) = 0 then (0 : Int32) else 1)).2.1, (fX2_add 0 sr x y (if (sr &&& 128) = 0 then (0 : Int32) else 1)).2.2, sum) = _
      rw [if_neg hc, add_k, show (1 : Int32).toInt64 = 1 from rfl]
    · have e1 : fX11_signs w (-1) (-1) ms 34 x y = (addC x y 1, ovO (x.toInt64 + y.toInt64 + 1)) := by
        unfold fX11_signs
        rw [hC, hh]
        rfl
      have e2 : fX11_more ms 34 x y u i = x + y + 1 := by
        unfold fX11_more
        rw [hh]
        rfl
      rw [work_34 hS, e1, e2]
theorem work_35 {d u i x y mv w : Int32} {sum ns : Int64} {ms : Nat → Int32} (hS : fX11_isSum w = 0) : fX11_work sum w 0 0 mv (-1) (-1) 0 ns ms 35 d x y u i = if fX11_has ms 512 = 0 then (0, d, fX11_more ms 35 x y u i, (fX11_signs w (-1) (-1) ms 35 x i).1, (fX11_signs w (-1) (-1) ms 35 x i).2, 0, ns) else (if (fX11_signs w (-1) (-1) ms 35 x i).2 = 1 then (11, 0, mv, (fX11_signs w (-1) (-1) ms 35 x i).1, (fX11_signs w (-1) (-1) ms 35 x i).2, 0, ns) else (0, d, fX11_more ms 35 x y u i, (fX11_signs w (-1) (-1) ms 35 x i).1, (fX11_signs w (-1) (-1) ms 35 x i).2, 0, ns)) := by
  unfold fX11_work
  rw [hS]
  generalize fX11_signs = SG
  generalize fX11_more = MO
  generalize fX11_has = HA
  rfl
theorem calc_35 {d sr u i x y mv w : Int32} {sum ns : Int64} {ms : Nat → Int32} (h0 : sr = ms 0) (hS : fX11_isSum w = 0) (hC : fX11_readsCarry w = 1) : CRel d sr sum (fX2_calculate 35 u i 0 0 sr sum x y) (fX11_work sum w 0 0 mv (-1) (-1) 0 ns ms 35 d x y u i) false := by
  by_cases hc : sr &&& 128 = 0
  · have hh : fX11_has ms 128 = 0 := by rw [has_b, ← h0, if_pos hc]
    refine cr_marks (v := x + i + 0) (mv := mv) (ns := ns) h0 (addC x i 0) (ovO (x.toInt64 + i.toInt64 + 0)) (Or.inr (isB_ite _)) (Or.inr (isB_ite _)) _ ?_ _ ?_
    · show ((fX2_add 0 sr x i (if (sr &&& 128) = 0 then (0 : Int32) else 1)).1, (fX2_add 0 sr x i (if (sr &&& 128) = 0 then (0 : Int32) else 1)).2.1, (fX2_add 0 sr x i (if (sr &&& 128) = 0 then (0 : Int32) else 1)).2.2, sum) = _
      rw [if_pos hc, add_k, show (0 : Int32).toInt64 = 0 from rfl]
    · have e1 : fX11_signs w (-1) (-1) ms 35 x i = (addC x i 0, ovO (x.toInt64 + i.toInt64 + 0)) := by
        unfold fX11_signs
        rw [hC, hh]
        rfl
      have e2 : fX11_more ms 35 x y u i = x + i + 0 := by
        unfold fX11_more
        rw [hh]
        rfl
      rw [work_35 hS, e1, e2]
  · have hh : fX11_has ms 128 = 1 := by rw [has_b, ← h0, if_neg hc]
    refine cr_marks (v := x + i + 1) (mv := mv) (ns := ns) h0 (addC x i 1) (ovO (x.toInt64 + i.toInt64 + 1)) (Or.inr (isB_ite _)) (Or.inr (isB_ite _)) _ ?_ _ ?_
    · show ((fX2_add 0 sr x i (if (sr &&& 128) = 0 then (0 : Int32) else 1)).1, (fX2_add 0 sr x i (if (sr &&& 128) = 0 then (0 : Int32) else 1)).2.1, (fX2_add 0 sr x i (if (sr &&& 128) = 0 then (0 : Int32) else 1)).2.2, sum) = _
      rw [if_neg hc, add_k, show (1 : Int32).toInt64 = 1 from rfl]
    · have e1 : fX11_signs w (-1) (-1) ms 35 x i = (addC x i 1, ovO (x.toInt64 + i.toInt64 + 1)) := by
        unfold fX11_signs
        rw [hC, hh]
        rfl
      have e2 : fX11_more ms 35 x y u i = x + i + 1 := by
        unfold fX11_more
        rw [hh]
        rfl
      rw [work_35 hS, e1, e2]
theorem calc_1 {d sr u i x y mv w : Int32} {sum ns : Int64} {ms : Nat → Int32} (h0 : sr = ms 0) (hS : fX11_isSum w = 0) (hC : fX11_readsCarry w = 0) : CRel d sr sum (fX2_calculate 1 u i 0 0 sr sum x y) (fX11_work sum w 0 0 mv (-1) (-1) 0 ns ms 1 d x y u i) false := by
  refine cr_marks (v := x - y) (mv := mv) (ns := ns) h0 (if 0 ≤ (lg_cmp (x.toInt64 &&& 4294967295) (y.toInt64 &&& 4294967295)) then (0) else (1)) (ovO (x.toInt64 - y.toInt64)) (Or.inr (isB_ite _)) (Or.inr (isB_ite _)) _ ?_ _ ?_
  · show ((fX2_subtract 0 sr x y).1, (fX2_subtract 0 sr x y).2.1, (fX2_subtract 0 sr x y).2.2, sum) = _
    rw [sub_k]
  · unfold fX11_work fX11_signs
    rw [hS, hC]
    rfl
theorem calc_8 {d sr u i x y mv w : Int32} {sum ns : Int64} {ms : Nat → Int32} (h0 : sr = ms 0) (hS : fX11_isSum w = 0) (hC : fX11_readsCarry w = 0) : CRel d sr sum (fX2_calculate 8 u i 0 0 sr sum x y) (fX11_work sum w 0 0 mv (-1) (-1) 0 ns ms 8 d x y u i) false := by
  refine cr_marks (v := x * y) (mv := mv) (ns := ns) h0 (-1) (ovO (x.toInt64 * y.toInt64)) (Or.inl rfl) (Or.inr (isB_ite _)) _ ?_ _ ?_
  · show ((fX2_multiply 0 sr x y).1, (fX2_multiply 0 sr x y).2.1, (fX2_multiply 0 sr x y).2.2, sum) = _
    rw [mul_k]
    rfl
  · unfold fX11_work fX11_signs
    rw [hS, hC]
    rfl
theorem calc_57 {d sr u i x y mv w : Int32} {sum ns : Int64} {ms : Nat → Int32} (h0 : sr = ms 0) (hS : fX11_isSum w = 0) (hC : fX11_readsCarry w = 0) : CRel d sr sum (fX2_calculate 57 u i 0 0 sr sum x y) (fX11_work sum w 0 0 mv (-1) (-1) 0 ns ms 57 d x y u i) false := by
  refine cr_marks (v := x * i) (mv := mv) (ns := ns) h0 (-1) (ovO (x.toInt64 * i.toInt64)) (Or.inl rfl) (Or.inr (isB_ite _)) _ ?_ _ ?_
  · show ((fX2_multiply 0 sr x i).1, (fX2_multiply 0 sr x i).2.1, (fX2_multiply 0 sr x i).2.2, sum) = _
    rw [mul_k]
    rfl
  · unfold fX11_work fX11_signs
    rw [hS, hC]
    rfl
theorem calc_36 {d sr u i x y mv w : Int32} {sum ns : Int64} {ms : Nat → Int32} (h0 : sr = ms 0) (hS : fX11_isSum w = 0) (hC : fX11_readsCarry w = 0) : CRel d sr sum (fX2_calculate 36 u i 0 0 sr sum x y) (fX11_work sum w 0 0 mv (-1) (-1) 0 ns ms 36 d x y u i) false := by
  refine cr_marks (v := x * y) (mv := mv) (ns := ns) h0 (umC x y) (-1) (Or.inr (umC_b x y)) (Or.inl rfl) _ ?_ _ ?_
  · show (0, (fX2_multiplyUnsigned sr x y).1, (fX2_multiplyUnsigned sr x y).2, sum) = _
    rw [umul_k]
    rfl
  · unfold fX11_work fX11_signs
    rw [hS, hC]
    rfl
theorem calc_37 {d sr u i x y mv w : Int32} {sum ns : Int64} {ms : Nat → Int32} (h0 : sr = ms 0) (hS : fX11_isSum w = 0) (hC : fX11_readsCarry w = 0) : CRel d sr sum (fX2_calculate 37 u i 0 0 sr sum x y) (fX11_work sum w 0 0 mv (-1) (-1) 0 ns ms 37 d x y u i) false := by
  refine cr_marks (v := if y = 0 then (0) else (((x.toInt64 &&& 4294967295) / (y.toInt64 &&& 4294967295)).toInt32)) (mv := mv) (ns := ns) h0 (if y = 0 then (1) else (0)) (-1) (Or.inr (isB_ite' _)) (Or.inl rfl) _ ?_ _ ?_
  · show (0, (fX2_divideUnsigned sr x y).1, (fX2_divideUnsigned sr x y).2, sum) = _
    rw [udiv_k]
    rfl
  · unfold fX11_work fX11_signs
    rw [hS, hC]
    rfl
theorem calc_9 {d sr u i x y mv w : Int32} {sum ns : Int64} {ms : Nat → Int32} (h0 : sr = ms 0) (hS : fX11_isSum w = 0) (hC : fX11_readsCarry w = 0) : CRel d sr sum (fX2_calculate 9 u i 0 0 sr sum x y) (fX11_work sum w 0 0 mv (-1) (-1) 0 ns ms 9 d x y u i) false := by
  refine cr_marks (v := divV x y) (mv := mv) (ns := ns) h0 (-1) (divO x y) (Or.inl rfl) (Or.inr (divO_b x y)) _ ?_ _ ?_
  · show ((fX2_divide 0 sr x y).1, (fX2_divide 0 sr x y).2.1, (fX2_divide 0 sr x y).2.2, sum) = _
    rw [div_k]
    rfl
  · unfold fX11_work fX11_signs
    rw [hS, hC]
    have e : ∀ z : Int32 × Int32, z = (if y = 0 then (((-1 : Int32), (1 : Int32))) else (if y = (-1) then (if x = (-2147483648) then ((-1, 1)) else ((-1, 0))) else ((-1, 0)))) → z = (-1, divO x y) := by
      intro z hz
      rw [hz]
      unfold divO
      by_cases a : y = 0
      · rw [if_pos a, if_pos a]
      · rw [if_neg a, if_neg a]
        by_cases b : y = -1
        · rw [if_pos b, if_pos b]
          by_cases c : x = (-2147483648)
          · rw [if_pos c, if_pos c]
          · rw [if_neg c, if_neg c]
        · rw [if_neg b, if_neg b]
    show (let z4 : Int32 × Int32 := (if y = 0 then (((-1 : Int32), (1 : Int32))) else (if y = (-1) then (if x = (-2147483648) then ((-1, 1)) else ((-1, 0))) else ((-1, 0)))); (if fX11_has ms 512 = 0 then ((0 : Int32), d, divV x y, z4.1, z4.2, (0 : Int32), ns) else (if z4.2 = 1 then (11, 0, mv, z4.1, z4.2, 0, ns) else (0, d, divV x y, z4.1, z4.2, 0, ns)))) = _
    rw [e _ rfl]
theorem calc_38 {d sr u i x y mv w : Int32} {sum ns : Int64} {ms : Nat → Int32} (h0 : sr = ms 0) (hS : fX11_isSum w = 1) (hC : fX11_readsCarry w = 0) : CRel d sr sum (fX2_calculate 38 u i 0 0 sr sum x y) (fX11_work sum w 0 0 mv (-1) (-1) 0 ns ms 38 d x y u i) true := by
  unfold fX11_work
  rw [hS]
  exact ⟨rfl, Or.inl rfl, fun _ => ⟨rfl, fun q => absurd q (by decide), rfl, rfl⟩⟩
theorem calc_39 {d sr u i x y mv w : Int32} {sum ns : Int64} {ms : Nat → Int32} (h0 : sr = ms 0) (hS : fX11_isSum w = 1) (hC : fX11_readsCarry w = 0) : CRel d sr sum (fX2_calculate 39 u i 0 0 sr sum x y) (fX11_work sum w 0 0 mv (-1) (-1) 0 ns ms 39 d x y u i) true := by
  unfold fX11_work
  rw [hS]
  exact ⟨rfl, Or.inl rfl, fun _ => ⟨rfl, fun q => absurd q (by decide), rfl, rfl⟩⟩
theorem calc_40 {d sr u i x y mv w : Int32} {sum ns : Int64} {ms : Nat → Int32} (h0 : sr = ms 0) (hS : fX11_isSum w = 1) (hC : fX11_readsCarry w = 0) : CRel d sr sum (fX2_calculate 40 u i 0 0 sr sum x y) (fX11_work sum w 0 0 mv (-1) (-1) 0 ns ms 40 d x y u i) true := by
  unfold fX11_work
  rw [hS]
  exact ⟨rfl, Or.inl rfl, fun _ => ⟨rfl, fun q => absurd q (by decide), rfl, rfl⟩⟩
theorem calc_41 {d sr u i x y mv w : Int32} {sum ns : Int64} {ms : Nat → Int32} (h0 : sr = ms 0) (hS : fX11_isSum w = 0) (hC : fX11_readsCarry w = 0) : CRel d sr sum (fX2_calculate 41 u i 0 0 sr sum x y) (fX11_work sum w 0 0 mv (-1) (-1) 0 ns ms 41 d x y u i) false := by
  unfold fX11_work
  rw [hS]
  exact ⟨rfl, Or.inl rfl, fun _ => ⟨rfl, fun _ => rfl, rfl, rfl⟩⟩

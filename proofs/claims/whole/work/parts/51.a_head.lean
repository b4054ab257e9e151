/-! ===== the relation between the class's state and the reference's ===== -/
/-- n bytes from a on, the highest first -/
def wdn (f : Nat → Int32) (a : Nat) : Nat → Int32
  | 0 => 0
  | n + 1 => (wdn f a n <<< ((8 : Int32) &&& 31)) ||| (f (a + n) &&& 255)
def wd (f : Nat → Int32) (a : Nat) : Int32 := wdn f a 4
/-- the entries of lines: rising counts from 0 on, those that are passed are at most RETIRED -/
def LinesOk (size passed : Int32) (co : Nat → Int32) (ret : Int32) : Prop := ∃ n k : Nat, size = nI n ∧ n ≤ 32 ∧ passed = nI k ∧ k ≤ n ∧ (∀ i j, i < j → j < n → co i < co j) ∧ (∀ j, j < n → ¬ co j < 0) ∧ ∀ j, j < k → co j ≤ ret

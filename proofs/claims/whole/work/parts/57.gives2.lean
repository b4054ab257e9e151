/-! ===== pure: wordAt, giveWord ===== -/
theorem e_wordAt {mem mm : Nat → Int32} (h : MemOk mem mm) (p : Int32) : fX10_wordAt mem p = (fX11_wordAt mm p).1 := by
  unfold fX10_wordAt fX11_wordAt
  rcases e_addr p with ⟨h1, q, hq, rfl⟩ | ⟨h1, h2⟩
  · obtain ⟨a1, a2, a3⟩ := a_ok hq
    dsimp only
    rw [h1, if_neg (by decide), if_neg a1, if_neg a2, if_pos a3]
    show mem (mix (nI (4 * q))) = fX11_wordIn mm (nI (4 * q))
    rw [mix_nI (by omega), f_word (by omega), show 4 * q / 4 = q by omega]
    exact h q hq
  · dsimp only
    rw [h1, if_pos rfl]
    by_cases b1 : p < 0
    · rw [if_pos b1]
    · rw [if_neg b1]
      by_cases b2 : 65532 < p
      · rw [if_pos b2]
      · rw [if_neg b2]
        by_cases b3 : jrem p 4 = 0
        · rcases h2 with h2 | h2 | h2
          · exact absurd h2 b1
          · exact absurd h2 b2
          · exact absurd b3 h2
        · rw [if_neg b3]
theorem e_giveWord {cy : Int32} {mem mm : Nat → Int32} {pg : Nat → Bool} (h : MemOk mem mm) (hp : PgOk mem pg) (p0 p1 : Int32) :
    (fX10_giveWord cy mem pg p0 p1).1 = (fX11_giveWord cy mm p0 p1).1 ∧ MemOk (fX10_giveWord cy mem pg p0 p1).2.1 (fX11_giveWord cy mm p0 p1).2.2 ∧ PgOk (fX10_giveWord cy mem pg p0 p1).2.1 (fX10_giveWord cy mem pg p0 p1).2.2 := by
  unfold fX10_giveWord fX11_giveWord
  by_cases h0 : 0 < cy
  · simp only [if_pos h0]
    exact ⟨by first | trivial | rfl | simp, h, hp⟩
  · simp only [if_neg h0]
    rcases e_addr p0 with ⟨h1, q, hq, rfl⟩ | ⟨h1, h2⟩
    · obtain ⟨a1, a2, a3⟩ := a_ok hq
      simp only [h1, if_neg a1, if_neg a2, if_pos a3]
      rw [if_neg (by decide)]
      exact ⟨by first | trivial | rfl | simp, put_word h hp hq p1⟩
    · simp only [h1]
      rw [if_pos trivial]
      by_cases b1 : p0 < 0
      · simp only [if_pos b1]; exact ⟨by first | trivial | rfl | simp, h, hp⟩
      · simp only [if_neg b1]
        by_cases b2 : 65532 < p0
        · simp only [if_pos b2]; exact ⟨by first | trivial | rfl | simp, h, hp⟩
        · simp only [if_neg b2]
          by_cases b3 : jrem p0 4 = 0
          · rcases h2 with h2 | h2 | h2
            · exact absurd h2 b1
            · exact absurd h2 b2
            · exact absurd b3 h2
          · simp only [if_neg b3]; exact ⟨by first | trivial | rfl | simp, h, hp⟩

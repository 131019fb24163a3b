theorem hb_neg {x : Int64} {k : Nat} (hk : k < 64) : hb (-x) k = (hb x k ^^ decide (∃ j, j < k ∧ hb x j = true)) := by
  unfold hb
  rw [Int64.toBitVec_neg, BitVec.getLsbD_neg]
  simp [hk]
theorem hb_pred {x : Int64} {k : Nat} (hk : k < 64) : hb (x - 1) k = !hb (-x) k := by
  have e : (-x).toBitVec = ~~~((x - 1).toBitVec) := by
    have e1 : (x - 1).toBitVec = x.toBitVec - 1#64 := rfl
    rw [Int64.toBitVec_neg, e1, BitVec.not_sub_one_eq_not_add_one]
    rw [BitVec.neg_eq_not_add]
  unfold hb
  rw [e]
  simp [hk]
theorem lst_0 {x : Int64} {k : Nat} (h : lst x 0 = some k) : k < 40 ∧ hb x k = true ∧ ∀ j, j < k → hb x j = false := by
  obtain ⟨h1, h2, h3, h4⟩ := lsA_some 40 0 k h
  exact ⟨by omega, h3, fun j hj => h4 j (Nat.zero_le _) hj⟩
theorem low_ex {x : Int64} {k : Nat} (h : lst x 0 = some k) (j : Nat) : (∃ i, i < j ∧ hb x i = true) ↔ k < j := by
  obtain ⟨h1, h2, h3⟩ := lst_0 h
  constructor
  · rintro ⟨i, hi, hx⟩
    by_cases z : i < k
    · rw [h3 i z] at hx; cases hx
    · omega
  · intro hj
    exact ⟨k, hj, h2⟩
/-- the least alone -/
theorem and_neg {x : Int64} {k : Nat} (h : lst x 0 = some k) : x &&& -x = bL k := by
  obtain ⟨h1, h2, h3⟩ := lst_0 h
  apply hb_ext
  intro j hj
  rw [hb_and, hb_neg hj, hb_bL j (by omega), decide_eq_decide.mpr (low_ex h j)]
  by_cases e : j = k
  · subst e; simp [h2]
  · by_cases e2 : j < k
    · rw [h3 j e2]; simp [e]
    · have : k < j := by omega
      simp [e, this]
/-- all but the least -/
theorem and_pred {x : Int64} {k : Nat} (h : lst x 0 = some k) : x &&& (x - 1) = x &&& (bL k ^^^ -1) := by
  obtain ⟨h1, h2, h3⟩ := lst_0 h
  apply hb_ext
  intro j hj
  rw [hb_and, hb_pred hj, hb_neg hj, hb_and, hb_xor, hb_m1 hj, hb_bL j (by omega), decide_eq_decide.mpr (low_ex h j)]
  by_cases e : j = k
  · subst e; simp [h2]
  · by_cases e2 : j < k
    · rw [h3 j e2]; simp
    · have : k < j := by omega
      simp [e, this]
      cases hb x j <;> rfl
theorem lst_some_ne {x : Int64} {k : Nat} (h : lst x 0 = some k) : ¬ x = 0 := by
  intro e
  have := (lst_0 h).2.1
  rw [e, hb_0] at this
  cases this
theorem low_of (x : Int64) (hx : sm x) : x &&& -x = (match lst x 0 with | none => 0 | some k => bL k) := by
  cases h : lst x 0 with
  | none =>
    have := lst_none_0 hx h
    subst this
    decide
  | some k => exact and_neg h
/-- how many: the machine's own way -/
theorem v_bitCount {d : Nat} {Q : PQ} {h : HP} {x : Int64} (hx : sm x) : Ev (d + 1) 43 [.long x] h Q = Q (some (.int (nI (nb x)))) h := by
  sorry
theorem v_bitCountI {d : Nat} {Q : PQ} {h : HP} {n : Nat} (hx : n < 64) : Ev (d + 1) 172 [.int (nI n)] h Q = Q (some (.int (nI (nb (lN n))))) h := by
  have all : ∀ n, n < 64 → True := fun _ _ => trivial
  sorry

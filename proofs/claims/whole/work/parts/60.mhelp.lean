-- small questions of the one side's village and the other's, arguments as they come
theorem nI_or (a b : Nat) : nI a ||| nI b = nI (a ||| b) := by
  apply Int32.toBitVec_inj.1
  show BitVec.ofNat 32 a ||| BitVec.ofNat 32 b = BitVec.ofNat 32 (a ||| b)
  exact BitVec.ofNat_or.symm
theorem or0 (x : Int32) : x ||| 0 = x := Int32.or_zero
theorem shl1 : ∀ n, n < 31 → (1 : Int32) <<< (nI n &&& 31) = nI (2 ^ n) := by decide +kernel
def bitN (f : Nat → Bool) : Nat → Nat
  | 0 => 0
  | n + 1 => if f n = true then bitN f n ||| 2 ^ n else bitN f n
theorem bitN_s (f : Nat → Bool) (n : Nat) : bitN f (n + 1) = if f n = true then bitN f n ||| 2 ^ n else bitN f n := rfl
theorem bitN_lt (f : Nat → Bool) : ∀ n, bitN f n < 2 ^ n
  | 0 => Nat.one_pos
  | n + 1 => by
    have h := bitN_lt f n
    have h2 : 2 ^ n < 2 ^ (n + 1) := Nat.pow_lt_pow_right (by decide) (Nat.lt_succ_self n)
    rw [bitN_s]
    split
    · exact Nat.or_lt_two_pow (by omega) h2
    · omega
theorem bitN_t (f : Nat → Bool) (i : Nat) : ∀ n, (bitN f n).testBit i = (decide (i < n) && f i)
  | 0 => by simp [bitN]
  | n + 1 => by
    have h := bitN_t f i n
    rw [bitN_s]
    by_cases e : i = n
    · subst e
      by_cases z : f i = true
      · rw [if_pos z, Nat.testBit_or, h]
        simp [z]
      · rw [if_neg z, h]
        simp [show f i = false by simpa using z]
    · have e2 : decide (i < n + 1) = decide (i < n) := by
        by_cases z : i < n
        · rw [decide_eq_true z, decide_eq_true (show i < n + 1 by omega)]
        · rw [decide_eq_false z, decide_eq_false (show ¬ i < n + 1 by omega)]
      rw [e2]
      split
      · rw [Nat.testBit_or, h, Nat.testBit_two_pow]
        simp [show ¬ n = i by omega]
      · exact h
-- who is meant
def isPI (S : VS) (p : Int32) : Bool := decide (0 ≤ p ∧ p < nI (vn S))
def isKI (S : VS) (p : Int32) : Bool := decide (p = -1) || isPI S p
theorem m1_toInt : ((-1 : Int32)).toInt = -1 := by decide
theorem ltpred {n : Nat} (h : n < 2 ^ 30) (f : Int32) : (f ≤ nI n - 1) = (f < nI n) := by
  apply propext
  rw [Int32.le_iff_toInt_le, Int32.lt_iff_toInt_lt, nI_toInt (show n < 2 ^ 31 by omega)]
  cases n with
  | zero =>
    rw [show nI 0 - 1 = -1 from by decide, m1_toInt]
    constructor <;> intro h <;> omega
  | succ n =>
    rw [nI_pred, nI_toInt (by omega)]
    constructor <;> intro h <;> omega
theorem isPI_of {S : VS} {p : Int32} (g : Good S) (h : isPI S p = true) : ∃ i, i < vn S ∧ p = nI i := by
  have gn := g.n
  unfold isPI at h
  rw [decide_eq_true_eq] at h
  obtain ⟨h1, h2⟩ := h
  obtain ⟨j, hj, rfl⟩ := nI_of (Int32.not_lt.mpr h1)
  exact ⟨j, (nI_ltI hj (by omega)).mp h2, rfl⟩
theorem isPI_nI {S : VS} {i : Nat} (g : Good S) (h : i < 2 ^ 31) : isPI S (nI i) = decide (i < vn S) := by
  have gn := g.n
  unfold isPI
  by_cases z : i < vn S
  · rw [decide_eq_true z, decide_eq_true]
    exact ⟨nI_pos' h, nI_lt z (by omega)⟩
  · rw [decide_eq_false z, decide_eq_false]
    exact fun c => z ((nI_ltI h (by omega)).mp c.2)
theorem isKI_of {S : VS} {p : Int32} (g : Good S) (h : isKI S p = true) : p = -1 ∨ ∃ i, i < vn S ∧ p = nI i := by
  unfold isKI at h
  rw [Bool.or_eq_true, decide_eq_true_eq] at h
  rcases h with h | h
  · exact Or.inl h
  · exact Or.inr (isPI_of g h)
theorem m_isPersonI {d : Nat} {Q : PQ} {h : HP} {m : Nat} {f : Int32} {S : VS} (q : RM h m S) (g : Good S) : Ev (d + 2) 82 [.ref m, .int f] h Q = Q (some (.int (b01 (isPI S f)))) h := by
  rw [m_isPerson q]
  unfold isPI
  simp only [ltpred (show vn S < 2 ^ 30 by have := g.n; omega)]
theorem m_isKnowerI {d : Nat} {Q : PQ} {h : HP} {m : Nat} {f : Int32} {S : VS} (q : RM h m S) (g : Good S) : Ev (d + 2) 84 [.ref m, .int f] h Q = Q (some (.int (b01 (isKI S f)))) h := by
  have k := q.k
  unfold MK at k
  have e : decide (-1 ≤ f ∧ f ≤ nI (vn S) - 1) = isKI S f := by
    simp only [ltpred (show vn S < 2 ^ 30 by have := g.n; omega)]
    unfold isKI isPI
    by_cases z : f = -1
    · subst z
      rw [decide_eq_true (show (-1 : Int32) = -1 from rfl), Bool.true_or, decide_eq_true]
      refine ⟨Int32.le_refl _, ?_⟩
      rw [Int32.lt_iff_toInt_lt, nI_toInt (show vn S < 2 ^ 31 by have := g.n; omega), m1_toInt]
      omega
    · rw [decide_eq_false z, Bool.false_or]
      have e1 : (-1 ≤ f) = (0 ≤ f) := by
        apply propext
        have z2 : ¬ f.toInt = -1 := fun c => z (Int32.toInt_inj.mp (c.trans m1_toInt.symm))
        rw [Int32.le_iff_toInt_le, Int32.le_iff_toInt_le, m1_toInt, show ((0 : Int32)).toInt = 0 from by decide]
        constructor <;> intro h <;> omega
      simp only [e1]
  simp only [e84, s84_0, s84_1, s84_2, s84_3, s84_6, s84_7, s84_8, s84_11, oB_some, cl2_i, cl2_r, cl2_l, cl2_u, cl2_s, wd_0, wd_i, wd_r, wd_l, wd_f, ct_i, ct_r, ct_n, ct_f, rf_s, rf_n, tl_s, tl_n, true_and, and_true, eq_self, and_self, Nat.reduceAdd, Nat.reduceLeDiff, Nat.zero_le, Nat.reduceEqDiff, or_true, true_or, false_or, or_false, if_true, if_false, gI_0, gI_1, gI_2, gI_3, gI_4, gI_5, gI_6, gI_7, gI_8, gI_9, gI_10, gI_11, gI_12, gI_13, gI_14, gI_15, gL_0, gL_1, gL_2, gL_3, gL_4, gL_5, gL_6, gL_7, gL_8, gL_9, gL_10, gL_11, gL_12, gL_13, gL_14, gL_15, gA_0, gA_1, gA_2, gA_3, gA_4, gA_5, gA_6, gA_7, gA_8, gA_9, gA_10, gA_11, gA_12, gA_13, gA_14, gA_15, p1_0, p1_1, p1_2, p1_3, p1_4, p1_5, p1_6, p1_7, p1_8, p1_9, p1_10, p1_11, p1_12, p1_13, p1_14, p1_15, p2_0, p2_1, p2_2, p2_3, p2_4, p2_5, p2_6, p2_7, p2_8, p2_9, p2_10, p2_11, p2_12, p2_13, p2_14, p2_15, b01_ok, b_ft, b_tf, b01_e0, b01_e1, lgc_0, not_true_eq_false, not_false_eq_true, k, q.n, m_isIn, e]
def knN (S : VS) (p : Int32) : Int64 := if p = -1 then vs S else vw S p.toNatClampNeg
theorem knN_m1 {S : VS} : knN S (-1) = vs S := rfl
theorem knN_n {S : VS} {i : Nat} (h : i < 2 ^ 31) : knN S (nI i) = vw S i := by
  unfold knN
  rw [if_neg (nm1 h), nI_clamp h]
theorem knN_sm {S : VS} {p : Int32} (g : Good S) (hp : isKI S p = true) : sm (knN S p) := by
  have gn := g.n
  rcases isKI_of g hp with rfl | ⟨i, hi, rfl⟩
  · exact g.s
  · rw [knN_n (by omega)]
    exact (g.at hi).2.2.2.1
theorem isKI_vn {S T : VS} {p : Int32} (h : vn T = vn S) : isKI T p = isKI S p := by
  unfold isKI isPI
  rw [h]
theorem isPI_K {S : VS} {p : Int32} (h : isPI S p = true) : isKI S p = true := by
  unfold isKI
  rw [h, Bool.or_true]
theorem m_knownTo {d : Nat} {Q : PQ} {h : HP} {m : Nat} {p : Int32} {S : VS} (q : RM h m S) (g : Good S) (hp : isKI S p = true) : Ev (d + 1) 116 [.ref m, .int p] h Q = Q (some (.long (knN S p))) h := by
  have k := q.k
  unfold MK at k
  have gn := g.n
  rcases isKI_of g hp with rfl | ⟨i, hi, rfl⟩
  · have z : ¬ (0 : Int32) ≤ -1 := by decide
    simp only [e116, s116_0, s116_1, s116_4, s116_5, s116_8, s116_11, s116_12, s116_15, s116_16, s116_17, oB_some, cl2_i, cl2_r, cl2_l, cl2_u, cl2_s, wd_0, wd_i, wd_r, wd_l, wd_f, ct_i, ct_r, ct_n, ct_f, rf_s, rf_n, tl_s, tl_n, true_and, and_true, eq_self, and_self, Nat.reduceAdd, Nat.reduceLeDiff, Nat.zero_le, Nat.reduceEqDiff, or_true, true_or, false_or, or_false, if_true, if_false, gI_0, gI_1, gI_2, gI_3, gI_4, gI_5, gI_6, gI_7, gI_8, gI_9, gI_10, gI_11, gI_12, gI_13, gI_14, gI_15, gL_0, gL_1, gL_2, gL_3, gL_4, gL_5, gL_6, gL_7, gL_8, gL_9, gL_10, gL_11, gL_12, gL_13, gL_14, gL_15, gA_0, gA_1, gA_2, gA_3, gA_4, gA_5, gA_6, gA_7, gA_8, gA_9, gA_10, gA_11, gA_12, gA_13, gA_14, gA_15, p1_0, p1_1, p1_2, p1_3, p1_4, p1_5, p1_6, p1_7, p1_8, p1_9, p1_10, p1_11, p1_12, p1_13, p1_14, p1_15, p2_0, p2_1, p2_2, p2_3, p2_4, p2_5, p2_6, p2_7, p2_8, p2_9, p2_10, p2_11, p2_12, p2_13, p2_14, p2_15, b01_ok, b_ft, b_tf, b01_e0, b01_e1, lgc_0, not_true_eq_false, not_false_eq_true, k, q.s, z, knN_m1]
  · have p6 : i < 6 := by omega
    have p31 : i < 2 ^ 31 := by omega
    simp only [e116, s116_0, s116_1, s116_4, s116_5, s116_8, s116_11, s116_12, s116_15, s116_16, s116_17, oB_some, cl2_i, cl2_r, cl2_l, cl2_u, cl2_s, wd_0, wd_i, wd_r, wd_l, wd_f, ct_i, ct_r, ct_n, ct_f, rf_s, rf_n, tl_s, tl_n, true_and, and_true, eq_self, and_self, Nat.reduceAdd, Nat.reduceLeDiff, Nat.zero_le, Nat.reduceEqDiff, or_true, true_or, false_or, or_false, if_true, if_false, gI_0, gI_1, gI_2, gI_3, gI_4, gI_5, gI_6, gI_7, gI_8, gI_9, gI_10, gI_11, gI_12, gI_13, gI_14, gI_15, gL_0, gL_1, gL_2, gL_3, gL_4, gL_5, gL_6, gL_7, gL_8, gL_9, gL_10, gL_11, gL_12, gL_13, gL_14, gL_15, gA_0, gA_1, gA_2, gA_3, gA_4, gA_5, gA_6, gA_7, gA_8, gA_9, gA_10, gA_11, gA_12, gA_13, gA_14, gA_15, p1_0, p1_1, p1_2, p1_3, p1_4, p1_5, p1_6, p1_7, p1_8, p1_9, p1_10, p1_11, p1_12, p1_13, p1_14, p1_15, p2_0, p2_1, p2_2, p2_3, p2_4, p2_5, p2_6, p2_7, p2_8, p2_9, p2_10, p2_11, p2_12, p2_13, p2_14, p2_15, b01_ok, b_ft, b_tf, b01_e0, b01_e1, lgc_0, not_true_eq_false, not_false_eq_true, k, (q.at hi).2.2.2.1, nI_pos' p31, ix_nI p31, p6, knN_n p31]
theorem v_knownByK {d : Nat} {Q : PQ} {h : HP} {v : Nat} {p : Int32} {S : VS} (q : RV h v S) (g : Good S) (hp : isKI S p = true) : Ev (d + 2) 44 [.ref v, .int p] h Q = Q (some (.long (knN S p))) h := by
  have gn := g.n
  rcases isKI_of g hp with rfl | ⟨i, hi, rfl⟩
  · rw [v_knownByS q]; rfl
  · rw [v_knownBy q g hi, knN_n (by omega)]
theorem v_hasLearntK {d : Nat} {Q : PQ} {h : HP} {v c : Nat} {p : Int32} {S : VS} (q : RV h v S) (g : Good S) (hp : isKI S p = true) (hc : c < 64) : Ev (d + 3) 112 [.ref v, .int p, .int (nI c)] h Q = Q (some (.int (b01 (hb (knN S p) c)))) h := by
  have gn := g.n
  rcases isKI_of g hp with rfl | ⟨i, hi, rfl⟩
  · rw [v_hasLearntS q hc]; rfl
  · rw [v_hasLearnt q g hi hc, knN_n (by omega)]
def lrn (S : VS) (p : Int32) (x : Int64) : VS := if p = -1 then wS S (vs S ||| x) else wW S p.toNatClampNeg (vw S p.toNatClampNeg ||| x)
theorem lrn_m1 {S : VS} {x : Int64} : lrn S (-1) x = wS S (vs S ||| x) := rfl
theorem lrn_n {S : VS} {i : Nat} {x : Int64} (h : i < 2 ^ 31) : lrn S (nI i) x = wW S i (vw S i ||| x) := by
  unfold lrn
  rw [if_neg (nm1 h), nI_clamp h]
theorem lrn_good {S : VS} {p : Int32} {x : Int64} (g : Good S) (hp : isKI S p = true) (hx : sm x) : Good (lrn S p x) := by
  have gn := g.n
  rcases isKI_of g hp with rfl | ⟨i, hi, rfl⟩
  · exact g.wS (sm_or g.s hx)
  · rw [lrn_n (by omega)]
    exact g.wW (sm_or (g.at hi).2.2.2.1 hx)
theorem lrn_vn {S : VS} {p : Int32} {x : Int64} : vn (lrn S p x) = vn S := by unfold lrn; split <;> rfl
theorem lrn_vy {S : VS} {p : Int32} {x : Int64} : vy (lrn S p x) = vy S := by unfold lrn; split <;> rfl
theorem v_learnK {d : Nat} {Q : PQ} {h : HP} {v : Nat} {p : Int32} {x : Int64} {S : VS} {ink : Nat} {dm sh : Bool} (q : RV h v S) (g : Good S) (f : FV h v ink dm sh) (hp : isKI S p = true)
    (k : ∀ h', Fm v 12 h h' → RV h' v (lrn S p x) → FV h' v ink dm sh → Q none h') : Ev (d + 2) 36 [.ref v, .int p, .long x] h Q := by
  have gn := g.n
  rcases isKI_of g hp with rfl | ⟨i, hi, rfl⟩
  · rw [v_learnS q]
    exact k _ (Fm.rf.sL (Nat.le_refl _) (by omega)) (RV_s q _) f.sL
  · rw [v_learn q g hi]
    refine k _ (Fm.rf.sL (by omega) (by omega)) ?_ f.sL
    rw [lrn_n (by omega)]
    exact RV_w q _ _
set_option maxHeartbeats 4000000 in
theorem m_allKnown {d : Nat} {Q : PQ} {h : HP} {m : Nat} {S : VS} (q : RM h m S) (g : Good S) : Ev (d + 3) 154 [.ref m] h Q = Q (some (.int (nI (together S)))) h := by
  have k := q.k
  unfold MK at k
  have gn := g.n
  have loop : ∀ (c i : Nat), i + c = vn S → WP (d + 2) 154 Q (4, [.val (.ref m), .val (.int (nI (sumN (fun i => nb (vw S i)) i))), .val (.int (nI i))], [], h, 0, 0) = Q (some (.int (nI (together S)))) h := by
    intro c
    induction c with
    | zero =>
      intro i hi
      obtain rfl : i = vn S := by omega
      rw [s154_4]
      simp only [s154_0, s154_1, s154_2, s154_3, s154_5, s154_6, s154_9, s154_12, s154_13, s154_14, s154_17, s154_18, s154_19, s154_22, s154_23, s154_24, s154_27, s154_30, s154_31, oB_some, cl2_i, cl2_r, cl2_l, cl2_u, cl2_s, wd_0, wd_i, wd_r, wd_l, wd_f, ct_i, ct_r, ct_n, ct_f, rf_s, rf_n, tl_s, tl_n, true_and, and_true, eq_self, and_self, Nat.reduceAdd, Nat.reduceLeDiff, Nat.zero_le, Nat.reduceEqDiff, or_true, true_or, false_or, or_false, if_true, if_false, gI_0, gI_1, gI_2, gI_3, gI_4, gI_5, gI_6, gI_7, gI_8, gI_9, gI_10, gI_11, gI_12, gI_13, gI_14, gI_15, gL_0, gL_1, gL_2, gL_3, gL_4, gL_5, gL_6, gL_7, gL_8, gL_9, gL_10, gL_11, gL_12, gL_13, gL_14, gL_15, gA_0, gA_1, gA_2, gA_3, gA_4, gA_5, gA_6, gA_7, gA_8, gA_9, gA_10, gA_11, gA_12, gA_13, gA_14, gA_15, p1_0, p1_1, p1_2, p1_3, p1_4, p1_5, p1_6, p1_7, p1_8, p1_9, p1_10, p1_11, p1_12, p1_13, p1_14, p1_15, p2_0, p2_1, p2_2, p2_3, p2_4, p2_5, p2_6, p2_7, p2_8, p2_9, p2_10, p2_11, p2_12, p2_13, p2_14, p2_15, b01_ok, b_ft, b_tf, b01_e0, b01_e1, lgc_0, not_true_eq_false, not_false_eq_true, k, q.n, Int32.le_refl]
      rfl
    | succ c ih =>
      intro i hi
      have hp : i < vn S := by omega
      have p6 : i < 6 := by omega
      have p31 : i < 2 ^ 31 := by omega
      have z : ¬ nI (vn S) ≤ nI i := nI_ge (by omega) (by omega)
      rw [s154_4]
      simp only [s154_0, s154_1, s154_2, s154_3, s154_5, s154_6, s154_9, s154_12, s154_13, s154_14, s154_17, s154_18, s154_19, s154_22, s154_23, s154_24, s154_27, s154_30, s154_31, oB_some, cl2_i, cl2_r, cl2_l, cl2_u, cl2_s, wd_0, wd_i, wd_r, wd_l, wd_f, ct_i, ct_r, ct_n, ct_f, rf_s, rf_n, tl_s, tl_n, true_and, and_true, eq_self, and_self, Nat.reduceAdd, Nat.reduceLeDiff, Nat.zero_le, Nat.reduceEqDiff, or_true, true_or, false_or, or_false, if_true, if_false, gI_0, gI_1, gI_2, gI_3, gI_4, gI_5, gI_6, gI_7, gI_8, gI_9, gI_10, gI_11, gI_12, gI_13, gI_14, gI_15, gL_0, gL_1, gL_2, gL_3, gL_4, gL_5, gL_6, gL_7, gL_8, gL_9, gL_10, gL_11, gL_12, gL_13, gL_14, gL_15, gA_0, gA_1, gA_2, gA_3, gA_4, gA_5, gA_6, gA_7, gA_8, gA_9, gA_10, gA_11, gA_12, gA_13, gA_14, gA_15, p1_0, p1_1, p1_2, p1_3, p1_4, p1_5, p1_6, p1_7, p1_8, p1_9, p1_10, p1_11, p1_12, p1_13, p1_14, p1_15, p2_0, p2_1, p2_2, p2_3, p2_4, p2_5, p2_6, p2_7, p2_8, p2_9, p2_10, p2_11, p2_12, p2_13, p2_14, p2_15, b01_ok, b_ft, b_tf, b01_e0, b01_e1, lgc_0, not_true_eq_false, not_false_eq_true, k, q.n, z, (q.at hp).2.2.2.1, ix_nI p31, nI_pos' p31, p6, m_bits, nI_add, nI_1]
      exact ih (i + 1) (by omega)
  simp only [e154, s154_0, s154_1, s154_2, s154_3, s154_5, s154_6, s154_9, s154_12, s154_13, s154_14, s154_17, s154_18, s154_19, s154_22, s154_23, s154_24, s154_27, s154_30, s154_31, oB_some, cl2_i, cl2_r, cl2_l, cl2_u, cl2_s, wd_0, wd_i, wd_r, wd_l, wd_f, ct_i, ct_r, ct_n, ct_f, rf_s, rf_n, tl_s, tl_n, true_and, and_true, eq_self, and_self, Nat.reduceAdd, Nat.reduceLeDiff, Nat.zero_le, Nat.reduceEqDiff, or_true, true_or, false_or, or_false, if_true, if_false, gI_0, gI_1, gI_2, gI_3, gI_4, gI_5, gI_6, gI_7, gI_8, gI_9, gI_10, gI_11, gI_12, gI_13, gI_14, gI_15, gL_0, gL_1, gL_2, gL_3, gL_4, gL_5, gL_6, gL_7, gL_8, gL_9, gL_10, gL_11, gL_12, gL_13, gL_14, gL_15, gA_0, gA_1, gA_2, gA_3, gA_4, gA_5, gA_6, gA_7, gA_8, gA_9, gA_10, gA_11, gA_12, gA_13, gA_14, gA_15, p1_0, p1_1, p1_2, p1_3, p1_4, p1_5, p1_6, p1_7, p1_8, p1_9, p1_10, p1_11, p1_12, p1_13, p1_14, p1_15, p2_0, p2_1, p2_2, p2_3, p2_4, p2_5, p2_6, p2_7, p2_8, p2_9, p2_10, p2_11, p2_12, p2_13, p2_14, p2_15, b01_ok, b_ft, b_tf, b01_e0, b01_e1, lgc_0, not_true_eq_false, not_false_eq_true]
  exact loop (vn S) 0 (by omega)
set_option maxHeartbeats 4000000 in
theorem m_knowers {d : Nat} {Q : PQ} {h : HP} {m c : Nat} {S : VS} (q : RM h m S) (g : Good S) (hc : c < 64) : Ev (d + 2) 232 [.ref m, .int (nI c)] h Q = Q (some (.int (nI (howKnow S c)))) h := by
  have k := q.k
  unfold MK at k
  have gn := g.n
  have loop : ∀ (n i : Nat), i + n = vn S → WP (d + 1) 232 Q (4, [.val (.ref m), .val (.int (nI c)), .val (.int (nI (sumN (fun i => if hb (vw S i) c = true then 1 else 0) i))), .val (.int (nI i))], [], h, 0, 0) = Q (some (.int (nI (howKnow S c)))) h := by
    intro n
    induction n with
    | zero =>
      intro i hi
      obtain rfl : i = vn S := by omega
      rw [s232_4]
      simp only [s232_0, s232_1, s232_2, s232_3, s232_5, s232_6, s232_9, s232_12, s232_13, s232_14, s232_17, s232_18, s232_19, s232_20, s232_23, s232_26, s232_27, s232_30, s232_31, s232_32, s232_33, s232_36, s232_39, s232_40, oB_some, cl2_i, cl2_r, cl2_l, cl2_u, cl2_s, wd_0, wd_i, wd_r, wd_l, wd_f, ct_i, ct_r, ct_n, ct_f, rf_s, rf_n, tl_s, tl_n, true_and, and_true, eq_self, and_self, Nat.reduceAdd, Nat.reduceLeDiff, Nat.zero_le, Nat.reduceEqDiff, or_true, true_or, false_or, or_false, if_true, if_false, gI_0, gI_1, gI_2, gI_3, gI_4, gI_5, gI_6, gI_7, gI_8, gI_9, gI_10, gI_11, gI_12, gI_13, gI_14, gI_15, gL_0, gL_1, gL_2, gL_3, gL_4, gL_5, gL_6, gL_7, gL_8, gL_9, gL_10, gL_11, gL_12, gL_13, gL_14, gL_15, gA_0, gA_1, gA_2, gA_3, gA_4, gA_5, gA_6, gA_7, gA_8, gA_9, gA_10, gA_11, gA_12, gA_13, gA_14, gA_15, p1_0, p1_1, p1_2, p1_3, p1_4, p1_5, p1_6, p1_7, p1_8, p1_9, p1_10, p1_11, p1_12, p1_13, p1_14, p1_15, p2_0, p2_1, p2_2, p2_3, p2_4, p2_5, p2_6, p2_7, p2_8, p2_9, p2_10, p2_11, p2_12, p2_13, p2_14, p2_15, b01_ok, b_ft, b_tf, b01_e0, b01_e1, lgc_0, not_true_eq_false, not_false_eq_true, k, q.n, Int32.le_refl]
      rfl
    | succ n ih =>
      intro i hi
      have hp : i < vn S := by omega
      have p6 : i < 6 := by omega
      have p31 : i < 2 ^ 31 := by omega
      have z : ¬ nI (vn S) ≤ nI i := nI_ge (by omega) (by omega)
      have i1 := ih (i + 1) (by omega)
      rw [sumN_s] at i1
      rw [s232_4]
      simp only [s232_0, s232_1, s232_2, s232_3, s232_5, s232_6, s232_9, s232_12, s232_13, s232_14, s232_17, s232_18, s232_19, s232_20, s232_23, s232_26, s232_27, s232_30, s232_31, s232_32, s232_33, s232_36, s232_39, s232_40, oB_some, cl2_i, cl2_r, cl2_l, cl2_u, cl2_s, wd_0, wd_i, wd_r, wd_l, wd_f, ct_i, ct_r, ct_n, ct_f, rf_s, rf_n, tl_s, tl_n, true_and, and_true, eq_self, and_self, Nat.reduceAdd, Nat.reduceLeDiff, Nat.zero_le, Nat.reduceEqDiff, or_true, true_or, false_or, or_false, if_true, if_false, gI_0, gI_1, gI_2, gI_3, gI_4, gI_5, gI_6, gI_7, gI_8, gI_9, gI_10, gI_11, gI_12, gI_13, gI_14, gI_15, gL_0, gL_1, gL_2, gL_3, gL_4, gL_5, gL_6, gL_7, gL_8, gL_9, gL_10, gL_11, gL_12, gL_13, gL_14, gL_15, gA_0, gA_1, gA_2, gA_3, gA_4, gA_5, gA_6, gA_7, gA_8, gA_9, gA_10, gA_11, gA_12, gA_13, gA_14, gA_15, p1_0, p1_1, p1_2, p1_3, p1_4, p1_5, p1_6, p1_7, p1_8, p1_9, p1_10, p1_11, p1_12, p1_13, p1_14, p1_15, p2_0, p2_1, p2_2, p2_3, p2_4, p2_5, p2_6, p2_7, p2_8, p2_9, p2_10, p2_11, p2_12, p2_13, p2_14, p2_15, b01_ok, b_ft, b_tf, b01_e0, b01_e1, lgc_0, not_true_eq_false, not_false_eq_true, k, q.n, z, (q.at hp).2.2.2.1, ix_nI p31, nI_pos' p31, p6, m_has hc, nI_1, Int32.add_zero]
      by_cases e : hb (vw S i) c = true
      · rw [if_neg (by rw [e]; decide)]
        rw [if_pos e] at i1
        exact i1
      · rw [if_pos (by simpa using e)]
        rw [if_neg e, Nat.add_zero] at i1
        exact i1
  simp only [e232, s232_0, s232_1, s232_2, s232_3, s232_5, s232_6, s232_9, s232_12, s232_13, s232_14, s232_17, s232_18, s232_19, s232_20, s232_23, s232_26, s232_27, s232_30, s232_31, s232_32, s232_33, s232_36, s232_39, s232_40, oB_some, cl2_i, cl2_r, cl2_l, cl2_u, cl2_s, wd_0, wd_i, wd_r, wd_l, wd_f, ct_i, ct_r, ct_n, ct_f, rf_s, rf_n, tl_s, tl_n, true_and, and_true, eq_self, and_self, Nat.reduceAdd, Nat.reduceLeDiff, Nat.zero_le, Nat.reduceEqDiff, or_true, true_or, false_or, or_false, if_true, if_false, gI_0, gI_1, gI_2, gI_3, gI_4, gI_5, gI_6, gI_7, gI_8, gI_9, gI_10, gI_11, gI_12, gI_13, gI_14, gI_15, gL_0, gL_1, gL_2, gL_3, gL_4, gL_5, gL_6, gL_7, gL_8, gL_9, gL_10, gL_11, gL_12, gL_13, gL_14, gL_15, gA_0, gA_1, gA_2, gA_3, gA_4, gA_5, gA_6, gA_7, gA_8, gA_9, gA_10, gA_11, gA_12, gA_13, gA_14, gA_15, p1_0, p1_1, p1_2, p1_3, p1_4, p1_5, p1_6, p1_7, p1_8, p1_9, p1_10, p1_11, p1_12, p1_13, p1_14, p1_15, p2_0, p2_1, p2_2, p2_3, p2_4, p2_5, p2_6, p2_7, p2_8, p2_9, p2_10, p2_11, p2_12, p2_13, p2_14, p2_15, b01_ok, b_ft, b_tf, b01_e0, b01_e1, lgc_0, not_true_eq_false, not_false_eq_true]
  exact loop (vn S) 0 (by omega)
set_option maxHeartbeats 4000000 in
theorem m_unknowing {d : Nat} {Q : PQ} {h : HP} {m c : Nat} {S : VS} (q : RM h m S) (g : Good S) (hc : c < 64) : Ev (d + 2) 162 [.ref m, .int (nI c)] h Q = Q (some (.int (nI (bitN (fun i => !hb (vw S i) c) (vn S))))) h := by
  have k := q.k
  unfold MK at k
  have gn := g.n
  have loop : ∀ (n i : Nat), i + n = vn S → WP (d + 1) 162 Q (4, [.val (.ref m), .val (.int (nI c)), .val (.int (nI (bitN (fun i => !hb (vw S i) c) i))), .val (.int (nI i))], [], h, 0, 0) = Q (some (.int (nI (bitN (fun i => !hb (vw S i) c) (vn S))))) h := by
    intro n
    induction n with
    | zero =>
      intro i hi
      obtain rfl : i = vn S := by omega
      rw [s162_4]
      simp only [s162_0, s162_1, s162_2, s162_3, s162_5, s162_6, s162_9, s162_12, s162_13, s162_14, s162_17, s162_18, s162_19, s162_20, s162_23, s162_26, s162_27, s162_30, s162_31, s162_32, s162_33, s162_34, s162_35, s162_38, s162_41, s162_42, oB_some, cl2_i, cl2_r, cl2_l, cl2_u, cl2_s, wd_0, wd_i, wd_r, wd_l, wd_f, ct_i, ct_r, ct_n, ct_f, rf_s, rf_n, tl_s, tl_n, true_and, and_true, eq_self, and_self, Nat.reduceAdd, Nat.reduceLeDiff, Nat.zero_le, Nat.reduceEqDiff, or_true, true_or, false_or, or_false, if_true, if_false, gI_0, gI_1, gI_2, gI_3, gI_4, gI_5, gI_6, gI_7, gI_8, gI_9, gI_10, gI_11, gI_12, gI_13, gI_14, gI_15, gL_0, gL_1, gL_2, gL_3, gL_4, gL_5, gL_6, gL_7, gL_8, gL_9, gL_10, gL_11, gL_12, gL_13, gL_14, gL_15, gA_0, gA_1, gA_2, gA_3, gA_4, gA_5, gA_6, gA_7, gA_8, gA_9, gA_10, gA_11, gA_12, gA_13, gA_14, gA_15, p1_0, p1_1, p1_2, p1_3, p1_4, p1_5, p1_6, p1_7, p1_8, p1_9, p1_10, p1_11, p1_12, p1_13, p1_14, p1_15, p2_0, p2_1, p2_2, p2_3, p2_4, p2_5, p2_6, p2_7, p2_8, p2_9, p2_10, p2_11, p2_12, p2_13, p2_14, p2_15, b01_ok, b_ft, b_tf, b01_e0, b01_e1, lgc_0, not_true_eq_false, not_false_eq_true, k, q.n, Int32.le_refl]
    | succ n ih =>
      intro i hi
      have hp : i < vn S := by omega
      have p6 : i < 6 := by omega
      have p31 : i < 2 ^ 31 := by omega
      have z : ¬ nI (vn S) ≤ nI i := nI_ge (by omega) (by omega)
      have i1 := ih (i + 1) (by omega)
      rw [bitN_s] at i1
      rw [s162_4]
      simp only [s162_0, s162_1, s162_2, s162_3, s162_5, s162_6, s162_9, s162_12, s162_13, s162_14, s162_17, s162_18, s162_19, s162_20, s162_23, s162_26, s162_27, s162_30, s162_31, s162_32, s162_33, s162_34, s162_35, s162_38, s162_41, s162_42, oB_some, cl2_i, cl2_r, cl2_l, cl2_u, cl2_s, wd_0, wd_i, wd_r, wd_l, wd_f, ct_i, ct_r, ct_n, ct_f, rf_s, rf_n, tl_s, tl_n, true_and, and_true, eq_self, and_self, Nat.reduceAdd, Nat.reduceLeDiff, Nat.zero_le, Nat.reduceEqDiff, or_true, true_or, false_or, or_false, if_true, if_false, gI_0, gI_1, gI_2, gI_3, gI_4, gI_5, gI_6, gI_7, gI_8, gI_9, gI_10, gI_11, gI_12, gI_13, gI_14, gI_15, gL_0, gL_1, gL_2, gL_3, gL_4, gL_5, gL_6, gL_7, gL_8, gL_9, gL_10, gL_11, gL_12, gL_13, gL_14, gL_15, gA_0, gA_1, gA_2, gA_3, gA_4, gA_5, gA_6, gA_7, gA_8, gA_9, gA_10, gA_11, gA_12, gA_13, gA_14, gA_15, p1_0, p1_1, p1_2, p1_3, p1_4, p1_5, p1_6, p1_7, p1_8, p1_9, p1_10, p1_11, p1_12, p1_13, p1_14, p1_15, p2_0, p2_1, p2_2, p2_3, p2_4, p2_5, p2_6, p2_7, p2_8, p2_9, p2_10, p2_11, p2_12, p2_13, p2_14, p2_15, b01_ok, b_ft, b_tf, b01_e0, b01_e1, lgc_0, not_true_eq_false, not_false_eq_true, k, q.n, z, (q.at hp).2.2.2.1, ix_nI p31, nI_pos' p31, p6, m_has hc, nI_1, shl1 i (by omega), nI_or, or0]
      by_cases e : hb (vw S i) c = true
      · rw [if_neg (by rw [e]; decide)]
        rw [if_neg (by rw [e]; decide)] at i1
        exact i1
      · rw [if_pos (by simpa using e)]
        rw [if_pos (by simpa using e)] at i1
        exact i1
  simp only [e162, s162_0, s162_1, s162_2, s162_3, s162_5, s162_6, s162_9, s162_12, s162_13, s162_14, s162_17, s162_18, s162_19, s162_20, s162_23, s162_26, s162_27, s162_30, s162_31, s162_32, s162_33, s162_34, s162_35, s162_38, s162_41, s162_42, oB_some, cl2_i, cl2_r, cl2_l, cl2_u, cl2_s, wd_0, wd_i, wd_r, wd_l, wd_f, ct_i, ct_r, ct_n, ct_f, rf_s, rf_n, tl_s, tl_n, true_and, and_true, eq_self, and_self, Nat.reduceAdd, Nat.reduceLeDiff, Nat.zero_le, Nat.reduceEqDiff, or_true, true_or, false_or, or_false, if_true, if_false, gI_0, gI_1, gI_2, gI_3, gI_4, gI_5, gI_6, gI_7, gI_8, gI_9, gI_10, gI_11, gI_12, gI_13, gI_14, gI_15, gL_0, gL_1, gL_2, gL_3, gL_4, gL_5, gL_6, gL_7, gL_8, gL_9, gL_10, gL_11, gL_12, gL_13, gL_14, gL_15, gA_0, gA_1, gA_2, gA_3, gA_4, gA_5, gA_6, gA_7, gA_8, gA_9, gA_10, gA_11, gA_12, gA_13, gA_14, gA_15, p1_0, p1_1, p1_2, p1_3, p1_4, p1_5, p1_6, p1_7, p1_8, p1_9, p1_10, p1_11, p1_12, p1_13, p1_14, p1_15, p2_0, p2_1, p2_2, p2_3, p2_4, p2_5, p2_6, p2_7, p2_8, p2_9, p2_10, p2_11, p2_12, p2_13, p2_14, p2_15, b01_ok, b_ft, b_tf, b01_e0, b01_e1, lgc_0, not_true_eq_false, not_false_eq_true]
  exact loop (vn S) 0 (by omega)
def letF (S : VS) (p : Nat) : Nat → Nat := fun n => sumN (fun j => match (vb S)[j]? with | some l => if lF l = p then 1 else 0 | none => 0) n
set_option maxHeartbeats 4000000 in
theorem m_lettersFrom {d : Nat} {Q : PQ} {h : HP} {m p : Nat} {S : VS} (q : RM h m S) (g : Good S) (hp : p < 2 ^ 31) : Ev (d + 1) 247 [.ref m, .int (nI p)] h Q = Q (some (.int (nI (letF S p (vb S).length)))) h := by
  have k := q.k
  unfold MK at k
  have gl := g.l
  have loop : ∀ (n i : Nat), i + n = (vb S).length → WP d 247 Q (4, [.val (.ref m), .val (.int (nI p)), .val (.int (nI (letF S p i))), .val (.int (nI i))], [], h, 0, 0) = Q (some (.int (nI (letF S p (vb S).length)))) h := by
    intro n
    induction n with
    | zero =>
      intro i hi
      obtain rfl : i = (vb S).length := by omega
      rw [s247_4]
      simp only [s247_0, s247_1, s247_2, s247_3, s247_5, s247_6, s247_9, s247_12, s247_13, s247_14, s247_17, s247_18, s247_19, s247_20, s247_23, s247_24, s247_27, s247_28, s247_29, s247_30, s247_33, s247_36, s247_37, oB_some, cl2_i, cl2_r, cl2_l, cl2_u, cl2_s, wd_0, wd_i, wd_r, wd_l, wd_f, ct_i, ct_r, ct_n, ct_f, rf_s, rf_n, tl_s, tl_n, true_and, and_true, eq_self, and_self, Nat.reduceAdd, Nat.reduceLeDiff, Nat.zero_le, Nat.reduceEqDiff, or_true, true_or, false_or, or_false, if_true, if_false, gI_0, gI_1, gI_2, gI_3, gI_4, gI_5, gI_6, gI_7, gI_8, gI_9, gI_10, gI_11, gI_12, gI_13, gI_14, gI_15, gL_0, gL_1, gL_2, gL_3, gL_4, gL_5, gL_6, gL_7, gL_8, gL_9, gL_10, gL_11, gL_12, gL_13, gL_14, gL_15, gA_0, gA_1, gA_2, gA_3, gA_4, gA_5, gA_6, gA_7, gA_8, gA_9, gA_10, gA_11, gA_12, gA_13, gA_14, gA_15, p1_0, p1_1, p1_2, p1_3, p1_4, p1_5, p1_6, p1_7, p1_8, p1_9, p1_10, p1_11, p1_12, p1_13, p1_14, p1_15, p2_0, p2_1, p2_2, p2_3, p2_4, p2_5, p2_6, p2_7, p2_8, p2_9, p2_10, p2_11, p2_12, p2_13, p2_14, p2_15, b01_ok, b_ft, b_tf, b01_e0, b01_e1, lgc_0, not_true_eq_false, not_false_eq_true, k, q.m, Int32.le_refl]
    | succ n ih =>
      intro i hi
      have il : i < (vb S).length := by omega
      have hj : (vb S)[i]? = some ((vb S)[i]) := List.getElem?_eq_getElem il
      have gf := (g.b (List.mem_of_getElem? hj)).1
      have gn := g.n
      have p24 : i < 24 := by omega
      have p31 : i < 2 ^ 31 := by omega
      have z : ¬ nI (vb S).length ≤ nI i := nI_ge (by omega) (by omega)
      have i1 := ih (i + 1) (by omega)
      have es : letF S p (i + 1) = letF S p i + (if lF (vb S)[i] = p then 1 else 0) := by
        unfold letF
        rw [sumN_s, hj]
      rw [es] at i1
      rw [s247_4]
      simp only [s247_0, s247_1, s247_2, s247_3, s247_5, s247_6, s247_9, s247_12, s247_13, s247_14, s247_17, s247_18, s247_19, s247_20, s247_23, s247_24, s247_27, s247_28, s247_29, s247_30, s247_33, s247_36, s247_37, oB_some, cl2_i, cl2_r, cl2_l, cl2_u, cl2_s, wd_0, wd_i, wd_r, wd_l, wd_f, ct_i, ct_r, ct_n, ct_f, rf_s, rf_n, tl_s, tl_n, true_and, and_true, eq_self, and_self, Nat.reduceAdd, Nat.reduceLeDiff, Nat.zero_le, Nat.reduceEqDiff, or_true, true_or, false_or, or_false, if_true, if_false, gI_0, gI_1, gI_2, gI_3, gI_4, gI_5, gI_6, gI_7, gI_8, gI_9, gI_10, gI_11, gI_12, gI_13, gI_14, gI_15, gL_0, gL_1, gL_2, gL_3, gL_4, gL_5, gL_6, gL_7, gL_8, gL_9, gL_10, gL_11, gL_12, gL_13, gL_14, gL_15, gA_0, gA_1, gA_2, gA_3, gA_4, gA_5, gA_6, gA_7, gA_8, gA_9, gA_10, gA_11, gA_12, gA_13, gA_14, gA_15, p1_0, p1_1, p1_2, p1_3, p1_4, p1_5, p1_6, p1_7, p1_8, p1_9, p1_10, p1_11, p1_12, p1_13, p1_14, p1_15, p2_0, p2_1, p2_2, p2_3, p2_4, p2_5, p2_6, p2_7, p2_8, p2_9, p2_10, p2_11, p2_12, p2_13, p2_14, p2_15, b01_ok, b_ft, b_tf, b01_e0, b01_e1, lgc_0, not_true_eq_false, not_false_eq_true, k, q.m, z, (q.lt hj).1, ix_nI p31, nI_pos' p31, p24, nI_1, Int32.add_zero, eqP (show lF (vb S)[i] < 2 ^ 31 by omega) hp]
      by_cases e : lF (vb S)[i] = p
      · rw [if_neg (not_not_intro e)]
        rw [if_pos e] at i1
        exact i1
      · rw [if_pos e]
        rw [if_neg e, Nat.add_zero] at i1
        exact i1
  simp only [e247, s247_0, s247_1, s247_2, s247_3, s247_5, s247_6, s247_9, s247_12, s247_13, s247_14, s247_17, s247_18, s247_19, s247_20, s247_23, s247_24, s247_27, s247_28, s247_29, s247_30, s247_33, s247_36, s247_37, oB_some, cl2_i, cl2_r, cl2_l, cl2_u, cl2_s, wd_0, wd_i, wd_r, wd_l, wd_f, ct_i, ct_r, ct_n, ct_f, rf_s, rf_n, tl_s, tl_n, true_and, and_true, eq_self, and_self, Nat.reduceAdd, Nat.reduceLeDiff, Nat.zero_le, Nat.reduceEqDiff, or_true, true_or, false_or, or_false, if_true, if_false, gI_0, gI_1, gI_2, gI_3, gI_4, gI_5, gI_6, gI_7, gI_8, gI_9, gI_10, gI_11, gI_12, gI_13, gI_14, gI_15, gL_0, gL_1, gL_2, gL_3, gL_4, gL_5, gL_6, gL_7, gL_8, gL_9, gL_10, gL_11, gL_12, gL_13, gL_14, gL_15, gA_0, gA_1, gA_2, gA_3, gA_4, gA_5, gA_6, gA_7, gA_8, gA_9, gA_10, gA_11, gA_12, gA_13, gA_14, gA_15, p1_0, p1_1, p1_2, p1_3, p1_4, p1_5, p1_6, p1_7, p1_8, p1_9, p1_10, p1_11, p1_12, p1_13, p1_14, p1_15, p2_0, p2_1, p2_2, p2_3, p2_4, p2_5, p2_6, p2_7, p2_8, p2_9, p2_10, p2_11, p2_12, p2_13, p2_14, p2_15, b01_ok, b_ft, b_tf, b01_e0, b01_e1, lgc_0, not_true_eq_false, not_false_eq_true]
  exact loop (vb S).length 0 (by omega)
def other (S : VS) (p : Nat) : Bool := decide (vr S p < vn S) && !decide (vr S p = p)
theorem m_goesFurther {d : Nat} {Q : PQ} {h : HP} {m p : Nat} {S : VS} (q : RM h m S) (g : Good S) (hp : p < 6) (hr : vr S p < 6) (e : hI h (m + 4) p = nI (vr S p)) : Ev (d + 3) 223 [.ref m, .int (nI p)] h Q = Q (some (.int (b01 (other S p)))) h := by
  have k := q.k
  unfold MK at k
  have p31 : p < 2 ^ 31 := by omega
  simp only [e223, s223_0, s223_1, s223_2, s223_5, s223_6, s223_7, s223_10, s223_13, s223_14, s223_17, s223_18, s223_19, s223_20, s223_23, s223_24, s223_27, s223_28, oB_some, cl2_i, cl2_r, cl2_l, cl2_u, cl2_s, wd_0, wd_i, wd_r, wd_l, wd_f, ct_i, ct_r, ct_n, ct_f, rf_s, rf_n, tl_s, tl_n, true_and, and_true, eq_self, and_self, Nat.reduceAdd, Nat.reduceLeDiff, Nat.zero_le, Nat.reduceEqDiff, or_true, true_or, false_or, or_false, if_true, if_false, gI_0, gI_1, gI_2, gI_3, gI_4, gI_5, gI_6, gI_7, gI_8, gI_9, gI_10, gI_11, gI_12, gI_13, gI_14, gI_15, gL_0, gL_1, gL_2, gL_3, gL_4, gL_5, gL_6, gL_7, gL_8, gL_9, gL_10, gL_11, gL_12, gL_13, gL_14, gL_15, gA_0, gA_1, gA_2, gA_3, gA_4, gA_5, gA_6, gA_7, gA_8, gA_9, gA_10, gA_11, gA_12, gA_13, gA_14, gA_15, p1_0, p1_1, p1_2, p1_3, p1_4, p1_5, p1_6, p1_7, p1_8, p1_9, p1_10, p1_11, p1_12, p1_13, p1_14, p1_15, p2_0, p2_1, p2_2, p2_3, p2_4, p2_5, p2_6, p2_7, p2_8, p2_9, p2_10, p2_11, p2_12, p2_13, p2_14, p2_15, b01_ok, b_ft, b_tf, b01_e0, b01_e1, lgc_0, not_true_eq_false, not_false_eq_true, k, e, ix_nI p31, nI_pos' p31, hp, m_isPersonI q g, isPI_nI g (show vr S p < 2 ^ 31 by omega), eqP (show vr S p < 2 ^ 31 by omega) p31]
  unfold other
  by_cases h1 : vr S p < vn S
  · rw [if_neg (by rw [decide_eq_true h1]; decide), decide_eq_true h1, Bool.true_and]
    by_cases h2 : vr S p = p
    · rw [if_pos h2, decide_eq_true h2]; rfl
    · rw [if_neg h2, decide_eq_false h2]; rfl
  · rw [if_pos (decide_eq_false h1), decide_eq_false h1]; rfl

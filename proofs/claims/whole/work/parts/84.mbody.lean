-- the other side's questions behind their refusals
def andn (a b : Nat) : Nat := a &&& (63 ^^^ b)
theorem andnI : ∀ a, a < 64 → ∀ b, b < 64 → nI a &&& (nI b ^^^ -1) = nI (andn a b) := by decide +kernel
theorem andn_lt {a b : Nat} (h : a < 64) : andn a b < 64 := Nat.lt_of_le_of_lt Nat.and_le_left h
theorem andn_t {a b i : Nat} (hi : i < 6) : (andn a b).testBit i = (a.testBit i && !b.testBit i) := by
  unfold andn
  rw [Nat.testBit_and, Nat.testBit_xor]
  have : (63 : Nat).testBit i = true := by
    rcases (show i = 0 ∨ i = 1 ∨ i = 2 ∨ i = 3 ∨ i = 4 ∨ i = 5 by omega) with rfl | rfl | rfl | rfl | rfl | rfl <;> decide
  rw [this]
  simp
theorem lst6 : ∀ a, a < 64 → lst (lN a) 0 = findA (fun i => a.testBit i) 6 0 := by decide +kernel
theorem findA_cut {p q : Nat → Bool} {n : Nat} : ∀ (m j : Nat), n ≤ j + m → (∀ i, j ≤ i → i < j + m → p i = (decide (i < n) && q i)) → findA p m j = findA q (n - j) j
  | 0, j, h, _ => by
    rw [show n - j = 0 by omega]
    rfl
  | m + 1, j, h, e => by
    have ih := findA_cut (p := p) (q := q) m (j + 1) (by omega) (fun i h1 h2 => e i (by omega) (by omega))
    have ej := e j (Nat.le_refl _) (by omega)
    rw [findA_s, ej, ih]
    by_cases c : j < n
    · rw [show n - j = (n - (j + 1)) + 1 by omega, findA_s, decide_eq_true c, Bool.true_and]
    · rw [show n - j = 0 by omega, show n - (j + 1) = 0 by omega, decide_eq_false c, Bool.false_and]
      rfl
theorem findA_none {f : Nat → Bool} : ∀ (m j : Nat), findA f m j = none ↔ ∀ i, j ≤ i → i < j + m → f i = false
  | 0, j => ⟨fun _ i h1 h2 => by omega, fun _ => rfl⟩
  | m + 1, j => by
    rw [findA_s]
    constructor
    · intro h
      by_cases c : f j = true
      · rw [if_pos c] at h; cases h
      · rw [if_neg c] at h
        intro i h1 h2
        by_cases e : i = j
        · rw [e]; simpa using c
        · exact (findA_none m (j + 1)).mp h i (by omega) (by omega)
    · intro h
      rw [if_neg (by rw [h j (Nat.le_refl _) (by omega)]; decide)]
      exact (findA_none m (j + 1)).mpr fun i h1 h2 => h i (by omega) (by omega)
theorem firStep {S T : VS} {c : Nat} (hn : vn S ≤ 6) (e : vn T = vn S) :
    findA (fun i => (andn (bitN (fun i => !hb (vw S i) c) (vn S)) (bitN (fun i => !hb (vw T i) c) (vn T))).testBit i) 6 0 = findA (fun i => hb (vw T i) c && !hb (vw S i) c) (vn S) 0 := by
  rw [findA_cut (q := fun i => hb (vw T i) c && !hb (vw S i) c) (n := vn S) 6 0 (by omega) (fun i h1 h2 => ?_)]
  · rfl
  · rw [andn_t (by omega), bitN_t, bitN_t, e]
    by_cases z : i < vn S
    · rw [decide_eq_true z]
      simp only [Bool.true_and, Bool.not_not]
      rw [Bool.and_comm]
    · rw [decide_eq_false z]
      simp
theorem tb0 : ∀ a, a < 64 → (a = 0 ↔ findA (fun i => a.testBit i) 6 0 = none) := by decide +kernel
set_option maxHeartbeats 8000000 in
theorem b_first {d c : Nat} {Q : PQ} {h : HP} {m : Nat} {S : VS} (M : MO h m S) (g : Good S) (hy : vy S ≤ 999) (hc : c < 40)
    (k : ∀ h', FQ m h h' → MO h' m S → Q (some (.int (oN (firA S c 60 S)))) h') : WP (d + 7) 161 Q (18, [.val (.ref m), .val (.int (nI c)), .val (.int 0), .unset, .unset, .unset], [], h, 0, 0) := by
  have gn := g.n
  have K := M.1.k
  unfold MK at K
  have w64 : bitN (fun i => !hb (vw S i) c) (vn S) < 64 := Nat.lt_of_lt_of_le (bitN_lt _ _) (two6 gn)
  have fin : ∀ (nw : Nat) (i : Int32) (h2 : HP), nw < 64 → FQ m h h2 → MK h2 m → KP h2 m 2 S → (∀ h', FQ m h h' → MO h' m S → Q (some (.int (oN (findA (fun i => nw.testBit i) 6 0)))) h') →
      WP (d + 7) 161 Q (67, [.val (.ref m), .val (.int (nI c)), .val (.int 0), .val (.int (nI (bitN (fun i => !hb (vw S i) c) (vn S)))), .val (.int (nI nw)), .val (.int i)], [], h2, 0, 0) := by
    intro nw i h2 hw f2 k2 p2 kk
    have K2 := k2
    unfold MK at K2
    simp only [s161_67, s161_68, oB_some, cl2_i, cl2_r, cl2_l, cl2_u, cl2_s, wd_0, wd_i, wd_r, wd_l, wd_f, ct_i, ct_r, ct_n, ct_f, rf_s, rf_n, tl_s, tl_n, true_and, and_true, eq_self, and_self, Nat.reduceAdd, Nat.reduceLeDiff, Nat.zero_le, Nat.reduceEqDiff, or_true, true_or, false_or, or_false, if_true, if_false, gI_0, gI_1, gI_2, gI_3, gI_4, gI_5, gI_6, gI_7, gI_8, gI_9, gI_10, gI_11, gI_12, gI_13, gI_14, gI_15, gL_0, gL_1, gL_2, gL_3, gL_4, gL_5, gL_6, gL_7, gL_8, gL_9, gL_10, gL_11, gL_12, gL_13, gL_14, gL_15, gA_0, gA_1, gA_2, gA_3, gA_4, gA_5, gA_6, gA_7, gA_8, gA_9, gA_10, gA_11, gA_12, gA_13, gA_14, gA_15, p1_0, p1_1, p1_2, p1_3, p1_4, p1_5, p1_6, p1_7, p1_8, p1_9, p1_10, p1_11, p1_12, p1_13, p1_14, p1_15, p2_0, p2_1, p2_2, p2_3, p2_4, p2_5, p2_6, p2_7, p2_8, p2_9, p2_10, p2_11, p2_12, p2_13, p2_14, p2_15, b01_ok, b_ft, b_tf, b01_e0, b01_e1, lgc_0, not_true_eq_false, not_false_eq_true, K2]
    refine m_forgets k2 g p2 fun h3 f3 q3 l3 => ?_
    have ml : ∀ (Q2 : PQ), Ev (d + 7) 95 [.long (lN nw), .int 0] h3 Q2 = Q2 (some (.int (oN (lst (lN nw) 0)))) h3 := fun Q2 => m_leastOf (f := 0) (by decide)
    simp only [s161_71, s161_73, s161_74, s161_75, s161_78, oB_some, cl2_i, cl2_r, cl2_l, cl2_u, cl2_s, wd_0, wd_i, wd_r, wd_l, wd_f, ct_i, ct_r, ct_n, ct_f, rf_s, rf_n, tl_s, tl_n, true_and, and_true, eq_self, and_self, Nat.reduceAdd, Nat.reduceLeDiff, Nat.zero_le, Nat.reduceEqDiff, or_true, true_or, false_or, or_false, if_true, if_false, gI_0, gI_1, gI_2, gI_3, gI_4, gI_5, gI_6, gI_7, gI_8, gI_9, gI_10, gI_11, gI_12, gI_13, gI_14, gI_15, gL_0, gL_1, gL_2, gL_3, gL_4, gL_5, gL_6, gL_7, gL_8, gL_9, gL_10, gL_11, gL_12, gL_13, gL_14, gL_15, gA_0, gA_1, gA_2, gA_3, gA_4, gA_5, gA_6, gA_7, gA_8, gA_9, gA_10, gA_11, gA_12, gA_13, gA_14, gA_15, p1_0, p1_1, p1_2, p1_3, p1_4, p1_5, p1_6, p1_7, p1_8, p1_9, p1_10, p1_11, p1_12, p1_13, p1_14, p1_15, p2_0, p2_1, p2_2, p2_3, p2_4, p2_5, p2_6, p2_7, p2_8, p2_9, p2_10, p2_11, p2_12, p2_13, p2_14, p2_15, b01_ok, b_ft, b_tf, b01_e0, b01_e1, lgc_0, not_true_eq_false, not_false_eq_true, nI_l (show nw < 2 ^ 31 by omega), ml, lst6 nw hw]
    exact kk h3 (f2.tr f3) ⟨q3, l3⟩
  have loop : ∀ (n i : Nat) (h2 : HP) (T : VS), i + n = 60 → FQ m h h2 → RM h2 m T → Good T → FMl h2 m 0 false false → KP h2 m 2 S → vn T = vn S → vy T + n < 2 ^ 20 → firA S c n T = firA S c 60 S →
      WP (d + 7) 161 Q (34, [.val (.ref m), .val (.int (nI c)), .val (.int 0), .val (.int (nI (bitN (fun i => !hb (vw S i) c) (vn S)))), .val (.int (nI 0)), .val (.int (nI i))], [], h2, 0, 0) := by
    intro n
    induction n with
    | zero =>
      intro i h2 T hi f2 q2 g2 l2 p2 n2 y2 e2
      obtain rfl : i = 60 := by omega
      rw [s161_34]
      simp only [s161_36, s161_38, s161_41, s161_43, s161_46, s161_47, s161_50, s161_51, s161_52, s161_53, s161_56, s161_57, s161_58, s161_59, s161_61, s161_64, oB_some, cl2_i, cl2_r, cl2_l, cl2_u, cl2_s, wd_0, wd_i, wd_r, wd_l, wd_f, ct_i, ct_r, ct_n, ct_f, rf_s, rf_n, tl_s, tl_n, true_and, and_true, eq_self, and_self, Nat.reduceAdd, Nat.reduceLeDiff, Nat.zero_le, Nat.reduceEqDiff, or_true, true_or, false_or, or_false, if_true, if_false, gI_0, gI_1, gI_2, gI_3, gI_4, gI_5, gI_6, gI_7, gI_8, gI_9, gI_10, gI_11, gI_12, gI_13, gI_14, gI_15, gL_0, gL_1, gL_2, gL_3, gL_4, gL_5, gL_6, gL_7, gL_8, gL_9, gL_10, gL_11, gL_12, gL_13, gL_14, gL_15, gA_0, gA_1, gA_2, gA_3, gA_4, gA_5, gA_6, gA_7, gA_8, gA_9, gA_10, gA_11, gA_12, gA_13, gA_14, gA_15, p1_0, p1_1, p1_2, p1_3, p1_4, p1_5, p1_6, p1_7, p1_8, p1_9, p1_10, p1_11, p1_12, p1_13, p1_14, p1_15, p2_0, p2_1, p2_2, p2_3, p2_4, p2_5, p2_6, p2_7, p2_8, p2_9, p2_10, p2_11, p2_12, p2_13, p2_14, p2_15, b01_ok, b_ft, b_tf, b01_e0, b01_e1, lgc_0, not_true_eq_false, not_false_eq_true]
      rw [if_pos (by decide)]
      refine fin 0 _ h2 (by decide) f2 q2.k p2 fun h' f' m' => ?_
      have kk := k h' f' m'
      rw [← e2] at kk
      exact kk
    | succ n ih =>
      intro i h2 T hi f2 q2 g2 l2 p2 n2 y2 e2
      have K2 := q2.k
      unfold MK at K2
      have z : ¬ (60 : Int32) ≤ nI i := nI_ge (b := 60) (by omega) (by decide)
      have z0 : nI 0 = 0 := rfl
      rw [firA_s] at e2
      rw [s161_34]
      simp only [s161_36, s161_38, s161_41, s161_43, s161_46, s161_47, oB_some, cl2_i, cl2_r, cl2_l, cl2_u, cl2_s, wd_0, wd_i, wd_r, wd_l, wd_f, ct_i, ct_r, ct_n, ct_f, rf_s, rf_n, tl_s, tl_n, true_and, and_true, eq_self, and_self, Nat.reduceAdd, Nat.reduceLeDiff, Nat.zero_le, Nat.reduceEqDiff, or_true, true_or, false_or, or_false, if_true, if_false, gI_0, gI_1, gI_2, gI_3, gI_4, gI_5, gI_6, gI_7, gI_8, gI_9, gI_10, gI_11, gI_12, gI_13, gI_14, gI_15, gL_0, gL_1, gL_2, gL_3, gL_4, gL_5, gL_6, gL_7, gL_8, gL_9, gL_10, gL_11, gL_12, gL_13, gL_14, gL_15, gA_0, gA_1, gA_2, gA_3, gA_4, gA_5, gA_6, gA_7, gA_8, gA_9, gA_10, gA_11, gA_12, gA_13, gA_14, gA_15, p1_0, p1_1, p1_2, p1_3, p1_4, p1_5, p1_6, p1_7, p1_8, p1_9, p1_10, p1_11, p1_12, p1_13, p1_14, p1_15, p2_0, p2_1, p2_2, p2_3, p2_4, p2_5, p2_6, p2_7, p2_8, p2_9, p2_10, p2_11, p2_12, p2_13, p2_14, p2_15, b01_ok, b_ft, b_tf, b01_e0, b01_e1, lgc_0, not_true_eq_false, not_false_eq_true, K2, z, z0, not_true_eq_false]
      refine m_goesDay q2 g2 l2 (by decide) (by omega) fun h3 f3 q3 => ?_
      have k1 := day1_keep (ink := 0) (dm := false) (sh := false) g2 (by omega)
      have K3 := q3.k
      unfold MK at K3
      have u64 : bitN (fun i => !hb (vw (day1 0 false false T) i) c) (vn (day1 0 false false T)) < 64 := Nat.lt_of_lt_of_le (bitN_lt _ _) (two6 k1.1.n)
      have lt := andn_lt (b := bitN (fun i => !hb (vw (day1 0 false false T) i) c) (vn (day1 0 false false T))) w64
      have st := firStep (S := S) (T := day1 0 false false T) (c := c) gn (k1.2.1.trans n2)
      simp only [s161_50, s161_51, s161_52, s161_53, s161_56, s161_57, s161_58, s161_59, s161_61, s161_64, oB_some, cl2_i, cl2_r, cl2_l, cl2_u, cl2_s, wd_0, wd_i, wd_r, wd_l, wd_f, ct_i, ct_r, ct_n, ct_f, rf_s, rf_n, tl_s, tl_n, true_and, and_true, eq_self, and_self, Nat.reduceAdd, Nat.reduceLeDiff, Nat.zero_le, Nat.reduceEqDiff, or_true, true_or, false_or, or_false, if_true, if_false, gI_0, gI_1, gI_2, gI_3, gI_4, gI_5, gI_6, gI_7, gI_8, gI_9, gI_10, gI_11, gI_12, gI_13, gI_14, gI_15, gL_0, gL_1, gL_2, gL_3, gL_4, gL_5, gL_6, gL_7, gL_8, gL_9, gL_10, gL_11, gL_12, gL_13, gL_14, gL_15, gA_0, gA_1, gA_2, gA_3, gA_4, gA_5, gA_6, gA_7, gA_8, gA_9, gA_10, gA_11, gA_12, gA_13, gA_14, gA_15, p1_0, p1_1, p1_2, p1_3, p1_4, p1_5, p1_6, p1_7, p1_8, p1_9, p1_10, p1_11, p1_12, p1_13, p1_14, p1_15, p2_0, p2_1, p2_2, p2_3, p2_4, p2_5, p2_6, p2_7, p2_8, p2_9, p2_10, p2_11, p2_12, p2_13, p2_14, p2_15, b01_ok, b_ft, b_tf, b01_e0, b01_e1, lgc_0, not_true_eq_false, not_false_eq_true, K3, m_unknowing q3 k1.1 (show c < 64 by omega), andnI _ w64 _ u64, nI_1]
      generalize andn (bitN (fun i => !hb (vw S i) c) (vn S)) (bitN (fun i => !hb (vw (day1 0 false false T) i) c) (vn (day1 0 false false T))) = nw at lt st ⊢
      have tz := tb0 nw lt
      by_cases w0 : nw = 0
      · subst w0
        have sn := tz.mp rfl
        rw [st] at sn
        rw [sn] at e2
        exact ih (i + 1) h3 _ (by omega) (f2.tr f3.fq) q3 k1.1 (l2.kept f3) (p2.fd g f3) (k1.2.1.trans n2) (by rw [k1.2.2]; omega) e2
      · have kq : ∀ h', FQ m h h' → MO h' m S → Q (some (.int (oN (findA (fun i => nw.testBit i) 6 0)))) h' := fun h' f' m' => by
          have kk := k h' f' m'
          rw [st]
          cases ea : findA (fun i => hb (vw (day1 0 false false T) i) c && !hb (vw S i) c) (vn S) 0 with
          | none =>
            rw [← st] at ea
            exact absurd (tz.mpr ea) w0
          | some b =>
            rw [ea] at e2
            rw [← e2] at kk
            exact kk
        have nz : ¬ nI nw = 0 := nI_ne0 (by omega) (by omega)
        rw [s161_34]
        by_cases i60 : i + 1 = 60
        · rw [i60]
          simp only [s161_36, s161_38, s161_41, s161_43, s161_46, s161_47, s161_50, s161_51, s161_52, s161_53, s161_56, s161_57, s161_58, s161_59, s161_61, s161_64, oB_some, cl2_i, cl2_r, cl2_l, cl2_u, cl2_s, wd_0, wd_i, wd_r, wd_l, wd_f, ct_i, ct_r, ct_n, ct_f, rf_s, rf_n, tl_s, tl_n, true_and, and_true, eq_self, and_self, Nat.reduceAdd, Nat.reduceLeDiff, Nat.zero_le, Nat.reduceEqDiff, or_true, true_or, false_or, or_false, if_true, if_false, gI_0, gI_1, gI_2, gI_3, gI_4, gI_5, gI_6, gI_7, gI_8, gI_9, gI_10, gI_11, gI_12, gI_13, gI_14, gI_15, gL_0, gL_1, gL_2, gL_3, gL_4, gL_5, gL_6, gL_7, gL_8, gL_9, gL_10, gL_11, gL_12, gL_13, gL_14, gL_15, gA_0, gA_1, gA_2, gA_3, gA_4, gA_5, gA_6, gA_7, gA_8, gA_9, gA_10, gA_11, gA_12, gA_13, gA_14, gA_15, p1_0, p1_1, p1_2, p1_3, p1_4, p1_5, p1_6, p1_7, p1_8, p1_9, p1_10, p1_11, p1_12, p1_13, p1_14, p1_15, p2_0, p2_1, p2_2, p2_3, p2_4, p2_5, p2_6, p2_7, p2_8, p2_9, p2_10, p2_11, p2_12, p2_13, p2_14, p2_15, b01_ok, b_ft, b_tf, b01_e0, b01_e1, lgc_0, not_true_eq_false, not_false_eq_true]
          rw [if_pos (by decide)]
          exact fin nw _ h3 lt (f2.tr f3.fq) q3.k (p2.fd g f3) kq
        · have z2 : ¬ (60 : Int32) ≤ nI (i + 1) := nI_ge (b := 60) (by omega) (by decide)
          simp only [s161_36, s161_38, s161_41, s161_43, s161_46, s161_47, s161_50, s161_51, s161_52, s161_53, s161_56, s161_57, s161_58, s161_59, s161_61, s161_64, oB_some, cl2_i, cl2_r, cl2_l, cl2_u, cl2_s, wd_0, wd_i, wd_r, wd_l, wd_f, ct_i, ct_r, ct_n, ct_f, rf_s, rf_n, tl_s, tl_n, true_and, and_true, eq_self, and_self, Nat.reduceAdd, Nat.reduceLeDiff, Nat.zero_le, Nat.reduceEqDiff, or_true, true_or, false_or, or_false, if_true, if_false, gI_0, gI_1, gI_2, gI_3, gI_4, gI_5, gI_6, gI_7, gI_8, gI_9, gI_10, gI_11, gI_12, gI_13, gI_14, gI_15, gL_0, gL_1, gL_2, gL_3, gL_4, gL_5, gL_6, gL_7, gL_8, gL_9, gL_10, gL_11, gL_12, gL_13, gL_14, gL_15, gA_0, gA_1, gA_2, gA_3, gA_4, gA_5, gA_6, gA_7, gA_8, gA_9, gA_10, gA_11, gA_12, gA_13, gA_14, gA_15, p1_0, p1_1, p1_2, p1_3, p1_4, p1_5, p1_6, p1_7, p1_8, p1_9, p1_10, p1_11, p1_12, p1_13, p1_14, p1_15, p2_0, p2_1, p2_2, p2_3, p2_4, p2_5, p2_6, p2_7, p2_8, p2_9, p2_10, p2_11, p2_12, p2_13, p2_14, p2_15, b01_ok, b_ft, b_tf, b01_e0, b01_e1, lgc_0, not_true_eq_false, not_false_eq_true, z2, nz, not_false_eq_true]
          exact fin nw _ h3 lt (f2.tr f3.fq) q3.k (p2.fd g f3) kq
  simp only [s161_18, s161_19, s161_20, s161_23, s161_24, s161_25, s161_27, s161_28, oB_some, cl2_i, cl2_r, cl2_l, cl2_u, cl2_s, wd_0, wd_i, wd_r, wd_l, wd_f, ct_i, ct_r, ct_n, ct_f, rf_s, rf_n, tl_s, tl_n, true_and, and_true, eq_self, and_self, Nat.reduceAdd, Nat.reduceLeDiff, Nat.zero_le, Nat.reduceEqDiff, or_true, true_or, false_or, or_false, if_true, if_false, gI_0, gI_1, gI_2, gI_3, gI_4, gI_5, gI_6, gI_7, gI_8, gI_9, gI_10, gI_11, gI_12, gI_13, gI_14, gI_15, gL_0, gL_1, gL_2, gL_3, gL_4, gL_5, gL_6, gL_7, gL_8, gL_9, gL_10, gL_11, gL_12, gL_13, gL_14, gL_15, gA_0, gA_1, gA_2, gA_3, gA_4, gA_5, gA_6, gA_7, gA_8, gA_9, gA_10, gA_11, gA_12, gA_13, gA_14, gA_15, p1_0, p1_1, p1_2, p1_3, p1_4, p1_5, p1_6, p1_7, p1_8, p1_9, p1_10, p1_11, p1_12, p1_13, p1_14, p1_15, p2_0, p2_1, p2_2, p2_3, p2_4, p2_5, p2_6, p2_7, p2_8, p2_9, p2_10, p2_11, p2_12, p2_13, p2_14, p2_15, b01_ok, b_ft, b_tf, b01_e0, b01_e1, lgc_0, not_true_eq_false, not_false_eq_true, K, m_unknowing M.1 g (show c < 64 by omega)]
  refine m_minds M.1 g M.2 fun h1 f1 q1 l1 p1 => ?_
  simp only [s161_31, s161_32, oB_some, cl2_i, cl2_r, cl2_l, cl2_u, cl2_s, wd_0, wd_i, wd_r, wd_l, wd_f, ct_i, ct_r, ct_n, ct_f, rf_s, rf_n, tl_s, tl_n, true_and, and_true, eq_self, and_self, Nat.reduceAdd, Nat.reduceLeDiff, Nat.zero_le, Nat.reduceEqDiff, or_true, true_or, false_or, or_false, if_true, if_false, gI_0, gI_1, gI_2, gI_3, gI_4, gI_5, gI_6, gI_7, gI_8, gI_9, gI_10, gI_11, gI_12, gI_13, gI_14, gI_15, gL_0, gL_1, gL_2, gL_3, gL_4, gL_5, gL_6, gL_7, gL_8, gL_9, gL_10, gL_11, gL_12, gL_13, gL_14, gL_15, gA_0, gA_1, gA_2, gA_3, gA_4, gA_5, gA_6, gA_7, gA_8, gA_9, gA_10, gA_11, gA_12, gA_13, gA_14, gA_15, p1_0, p1_1, p1_2, p1_3, p1_4, p1_5, p1_6, p1_7, p1_8, p1_9, p1_10, p1_11, p1_12, p1_13, p1_14, p1_15, p2_0, p2_1, p2_2, p2_3, p2_4, p2_5, p2_6, p2_7, p2_8, p2_9, p2_10, p2_11, p2_12, p2_13, p2_14, p2_15, b01_ok, b_ft, b_tf, b01_e0, b01_e1, lgc_0, not_true_eq_false, not_false_eq_true]
  exact loop 60 0 h1 S (by omega) f1 q1 g l1 p1 rfl (by omega) rfl
theorem oN_lt0 {o : Option Nat} (h : ∀ a, o = some a → a < 2 ^ 31) : (oN o < 0) = (o = none) := by
  cases o with
  | none => simp only [oN_none, eq_iff_iff, iff_true]; decide
  | some a =>
    have := nI_pos (h a rfl)
    simp only [oN_some, this, reduceCtorEq]
theorem oN_ge0 {o : Option Nat} (h : ∀ a, o = some a → a < 2 ^ 31) : (0 ≤ oN o) = ¬ (o = none) := by
  rw [← oN_lt0 h, Int32.not_lt]
set_option maxHeartbeats 8000000 in
theorem b_letHer {d n p : Nat} {what : Int32} {Q : PQ} {h : HP} {m : Nat} {S : VS} (M : MO h m S) (g : Good S) (hy : vy S ≤ 999) (hn : n ≤ 30) (hp : p < vn S)
    (k : ∀ h', FQ m h h' → MO h' m S → Q (some (.int (ans2 what (letHerN S p n)))) h') : WP (d + 8) 167 Q (51, [.val (.ref m), .val (.int (nI p)), .val (.int (nI n)), .val (.int what), .val (.int 0), .unset, .unset, .unset, .unset, .unset, .unset], [], h, 0, 0) := by
  have gn := g.n
  have K := M.1.k
  unfold MK at K
  have pk : ∀ (T : VS), vn T = vn S → Good T → isKI T (nI p) = true := fun T e gt => isPI_K (by rw [isPI_nI gt (by omega)]; exact decide_eq_true (by omega))
  have loop : ∀ (c j : Nat) (h1 : HP) (b : Option Nat × Nat) (y : Slot), j + c = 40 → FQ m h h1 → MO h1 m S → b.2 ≤ 40 → (∀ a, b.1 = some a → a < 2 ^ 31) → betA (ifShe S n p) (fun s => s) c j b = letHerN S p n →
      WP (d + 8) 167 Q (72, [.val (.ref m), .val (.int (nI p)), .val (.int (nI n)), .val (.int what), .val (.int 0), .val (.int (oN b.1)), .val (.int (nI b.2)), .val (.long (vs S)), .second, .val (.int (nI j)), y], [], h1, 0, 0) := by
    intro c
    induction c with
    | zero =>
      intro j h1 b y hj f1 m1 b1 b2 e1
      obtain rfl : j = 40 := by omega
      have e2 : b = letHerN S p n := e1
      rw [s167_72]
      simp only [s167_74, s167_76, s167_128, s167_130, s167_133, s167_135, s167_138, s167_139, s167_142, s167_144, s167_147, s167_149, oB_some, cl2_i, cl2_r, cl2_l, cl2_u, cl2_s, wd_0, wd_i, wd_r, wd_l, wd_f, ct_i, ct_r, ct_n, ct_f, rf_s, rf_n, tl_s, tl_n, true_and, and_true, eq_self, and_self, Nat.reduceAdd, Nat.reduceLeDiff, Nat.zero_le, Nat.reduceEqDiff, or_true, true_or, false_or, or_false, if_true, if_false, gI_0, gI_1, gI_2, gI_3, gI_4, gI_5, gI_6, gI_7, gI_8, gI_9, gI_10, gI_11, gI_12, gI_13, gI_14, gI_15, gL_0, gL_1, gL_2, gL_3, gL_4, gL_5, gL_6, gL_7, gL_8, gL_9, gL_10, gL_11, gL_12, gL_13, gL_14, gL_15, gA_0, gA_1, gA_2, gA_3, gA_4, gA_5, gA_6, gA_7, gA_8, gA_9, gA_10, gA_11, gA_12, gA_13, gA_14, gA_15, p1_0, p1_1, p1_2, p1_3, p1_4, p1_5, p1_6, p1_7, p1_8, p1_9, p1_10, p1_11, p1_12, p1_13, p1_14, p1_15, p2_0, p2_1, p2_2, p2_3, p2_4, p2_5, p2_6, p2_7, p2_8, p2_9, p2_10, p2_11, p2_12, p2_13, p2_14, p2_15, b01_ok, b_ft, b_tf, b01_e0, b01_e1, lgc_0, not_true_eq_false, not_false_eq_true, oN_ge0 b2]
      rw [if_pos (by decide)]
      have kk := k h1 f1 m1
      rw [← e2] at kk
      unfold ans2 at kk
      by_cases z2 : b.1 = none
      · rw [if_neg (not_not_intro z2)]
        rw [z2] at kk
        by_cases z : what = 0
        · rw [if_pos z] at kk
          exact kk
        · rw [if_neg z, if_pos rfl] at kk
          exact kk
      · rw [if_pos z2]
        by_cases z : what = 0
        · rw [if_neg (not_not_intro z)]
          rw [if_pos z] at kk
          exact kk
        · rw [if_pos z]
          rw [if_neg z, if_neg z2] at kk
          exact kk
    | succ c ih =>
      intro j h1 b y hj f1 m1 b1 b2 e1
      have K1 := m1.1.k
      unfold MK at K1
      have z : ¬ (40 : Int32) ≤ nI j := nI_ge (b := 40) (by omega) (by decide)
      have q2 := RM_s m1.1 (vs S ||| bL j)
      have g2 : Good (wS S (vs S ||| bL j)) := g.wS (sm_or g.s (sm_bL (by omega)))
      rw [betA_s] at e1
      rw [s167_72]
      simp only [s167_74, s167_76, s167_79, s167_80, s167_82, s167_83, s167_85, s167_86, s167_87, s167_90, s167_91, s167_92, s167_93, oB_some, cl2_i, cl2_r, cl2_l, cl2_u, cl2_s, wd_0, wd_i, wd_r, wd_l, wd_f, ct_i, ct_r, ct_n, ct_f, rf_s, rf_n, tl_s, tl_n, true_and, and_true, eq_self, and_self, Nat.reduceAdd, Nat.reduceLeDiff, Nat.zero_le, Nat.reduceEqDiff, or_true, true_or, false_or, or_false, if_true, if_false, gI_0, gI_1, gI_2, gI_3, gI_4, gI_5, gI_6, gI_7, gI_8, gI_9, gI_10, gI_11, gI_12, gI_13, gI_14, gI_15, gL_0, gL_1, gL_2, gL_3, gL_4, gL_5, gL_6, gL_7, gL_8, gL_9, gL_10, gL_11, gL_12, gL_13, gL_14, gL_15, gA_0, gA_1, gA_2, gA_3, gA_4, gA_5, gA_6, gA_7, gA_8, gA_9, gA_10, gA_11, gA_12, gA_13, gA_14, gA_15, p1_0, p1_1, p1_2, p1_3, p1_4, p1_5, p1_6, p1_7, p1_8, p1_9, p1_10, p1_11, p1_12, p1_13, p1_14, p1_15, p2_0, p2_1, p2_2, p2_3, p2_4, p2_5, p2_6, p2_7, p2_8, p2_9, p2_10, p2_11, p2_12, p2_13, p2_14, p2_15, b01_ok, b_ft, b_tf, b01_e0, b01_e1, lgc_0, not_true_eq_false, not_false_eq_true, z_hkd_sI, z_hln_sI, z_hL_sI, z_hR_sI, z_hnx_sI, z_hkd_sL, z_hln_sL, z_hI_sL, z_hR_sL, z_hnx_sL, z_hkd_sR, z_hln_sR, z_hI_sR, z_hL_sR, z_hnx_sR, z_hkd_cI, z_hln_cI, z_hL_cI, z_hR_cI, z_hnx_cI, z_hkd_cLg, z_hln_cLg, z_hI_cLg, z_hR_cLg, z_hnx_cLg, K1, z, shl_bL j (by omega)]
      refine m_knownBehind (n := n) q2 g2 (m1.2.wL (k := 17)) (by decide) (show vy S + n < 2 ^ 20 by omega) (pk _ rfl g2) fun h3 f3 m3 => ?_
      have K3 := m3.1.k
      unfold MK at K3
      have eS : wS (wS S (vs S ||| bL j)) (vs S) = S := rfl
      have q4 := RM_s m3.1 (vs S)
      rw [eS] at q4
      have lf : ifShe S n p j ≤ 40 := nb_le _
      have ek : nb (knN (dayN 0 false false n (wS S (vs S ||| bL j))) (nI p)) = ifShe S n p j := by rw [knN_n (by omega)]; rfl
      simp only [s167_96, s167_98, s167_99, s167_101, s167_104, s167_106, s167_108, s167_111, s167_114, s167_116, s167_118, s167_120, s167_122, s167_125, oB_some, cl2_i, cl2_r, cl2_l, cl2_u, cl2_s, wd_0, wd_i, wd_r, wd_l, wd_f, ct_i, ct_r, ct_n, ct_f, rf_s, rf_n, tl_s, tl_n, true_and, and_true, eq_self, and_self, Nat.reduceAdd, Nat.reduceLeDiff, Nat.zero_le, Nat.reduceEqDiff, or_true, true_or, false_or, or_false, if_true, if_false, gI_0, gI_1, gI_2, gI_3, gI_4, gI_5, gI_6, gI_7, gI_8, gI_9, gI_10, gI_11, gI_12, gI_13, gI_14, gI_15, gL_0, gL_1, gL_2, gL_3, gL_4, gL_5, gL_6, gL_7, gL_8, gL_9, gL_10, gL_11, gL_12, gL_13, gL_14, gL_15, gA_0, gA_1, gA_2, gA_3, gA_4, gA_5, gA_6, gA_7, gA_8, gA_9, gA_10, gA_11, gA_12, gA_13, gA_14, gA_15, p1_0, p1_1, p1_2, p1_3, p1_4, p1_5, p1_6, p1_7, p1_8, p1_9, p1_10, p1_11, p1_12, p1_13, p1_14, p1_15, p2_0, p2_1, p2_2, p2_3, p2_4, p2_5, p2_6, p2_7, p2_8, p2_9, p2_10, p2_11, p2_12, p2_13, p2_14, p2_15, b01_ok, b_ft, b_tf, b01_e0, b01_e1, lgc_0, not_true_eq_false, not_false_eq_true, z_hkd_sI, z_hln_sI, z_hL_sI, z_hR_sI, z_hnx_sI, z_hkd_sL, z_hln_sL, z_hI_sL, z_hR_sL, z_hnx_sL, z_hkd_sR, z_hln_sR, z_hI_sR, z_hL_sR, z_hnx_sR, z_hkd_cI, z_hln_cI, z_hL_cI, z_hR_cI, z_hnx_cI, z_hkd_cLg, z_hln_cLg, z_hI_cLg, z_hR_cLg, z_hnx_cLg, K3, ek, ltP (show b.2 < 2 ^ 31 by omega) (show ifShe S n p j < 2 ^ 31 by omega), nI_1]
      have ff : FQ m h (sL h3 m 17 (vs S)) := (((f1.sL (k := 17) (Or.inl rfl)).tr f3).sL (Or.inl rfl))
      by_cases e3 : b.2 < ifShe S n p j
      · rw [if_pos e3]
        rw [if_pos e3] at e1
        exact ih (j + 1) _ (some j, ifShe S n p j) _ (by omega) ff ⟨q4, m3.2⟩ lf (fun a ha => by cases ha; omega) e1
      · rw [if_neg e3]
        rw [if_neg e3] at e1
        exact ih (j + 1) _ b _ (by omega) ff ⟨q4, m3.2⟩ b1 b2 e1
  simp only [s167_51, s167_53, s167_55, s167_56, s167_57, s167_58, oB_some, cl2_i, cl2_r, cl2_l, cl2_u, cl2_s, wd_0, wd_i, wd_r, wd_l, wd_f, ct_i, ct_r, ct_n, ct_f, rf_s, rf_n, tl_s, tl_n, true_and, and_true, eq_self, and_self, Nat.reduceAdd, Nat.reduceLeDiff, Nat.zero_le, Nat.reduceEqDiff, or_true, true_or, false_or, or_false, if_true, if_false, gI_0, gI_1, gI_2, gI_3, gI_4, gI_5, gI_6, gI_7, gI_8, gI_9, gI_10, gI_11, gI_12, gI_13, gI_14, gI_15, gL_0, gL_1, gL_2, gL_3, gL_4, gL_5, gL_6, gL_7, gL_8, gL_9, gL_10, gL_11, gL_12, gL_13, gL_14, gL_15, gA_0, gA_1, gA_2, gA_3, gA_4, gA_5, gA_6, gA_7, gA_8, gA_9, gA_10, gA_11, gA_12, gA_13, gA_14, gA_15, p1_0, p1_1, p1_2, p1_3, p1_4, p1_5, p1_6, p1_7, p1_8, p1_9, p1_10, p1_11, p1_12, p1_13, p1_14, p1_15, p2_0, p2_1, p2_2, p2_3, p2_4, p2_5, p2_6, p2_7, p2_8, p2_9, p2_10, p2_11, p2_12, p2_13, p2_14, p2_15, b01_ok, b_ft, b_tf, b01_e0, b01_e1, lgc_0, not_true_eq_false, not_false_eq_true, K]
  refine m_knownBehind (n := n) M.1 g M.2 (by decide) (show vy S + n < 2 ^ 20 by omega) (pk S rfl g) fun h1 f1 m1 => ?_
  have K1 := m1.1.k
  unfold MK at K1
  have ek : nb (knN (dayN 0 false false n S) (nI p)) = asIt S n p := by rw [knN_n (by omega)]; rfl
  simp only [s167_61, s167_63, s167_64, s167_67, s167_69, s167_70, oB_some, cl2_i, cl2_r, cl2_l, cl2_u, cl2_s, wd_0, wd_i, wd_r, wd_l, wd_f, ct_i, ct_r, ct_n, ct_f, rf_s, rf_n, tl_s, tl_n, true_and, and_true, eq_self, and_self, Nat.reduceAdd, Nat.reduceLeDiff, Nat.zero_le, Nat.reduceEqDiff, or_true, true_or, false_or, or_false, if_true, if_false, gI_0, gI_1, gI_2, gI_3, gI_4, gI_5, gI_6, gI_7, gI_8, gI_9, gI_10, gI_11, gI_12, gI_13, gI_14, gI_15, gL_0, gL_1, gL_2, gL_3, gL_4, gL_5, gL_6, gL_7, gL_8, gL_9, gL_10, gL_11, gL_12, gL_13, gL_14, gL_15, gA_0, gA_1, gA_2, gA_3, gA_4, gA_5, gA_6, gA_7, gA_8, gA_9, gA_10, gA_11, gA_12, gA_13, gA_14, gA_15, p1_0, p1_1, p1_2, p1_3, p1_4, p1_5, p1_6, p1_7, p1_8, p1_9, p1_10, p1_11, p1_12, p1_13, p1_14, p1_15, p2_0, p2_1, p2_2, p2_3, p2_4, p2_5, p2_6, p2_7, p2_8, p2_9, p2_10, p2_11, p2_12, p2_13, p2_14, p2_15, b01_ok, b_ft, b_tf, b01_e0, b01_e1, lgc_0, not_true_eq_false, not_false_eq_true, K1, m1.1.s, ek]
  exact loop 40 0 h1 (none, asIt S n p) _ (by omega) f1 m1 (nb_le _) (fun a ha => by cases ha) rfl
set_option maxHeartbeats 8000000 in
theorem b_rubberFor {d n p c : Nat} {Q : PQ} {h : HP} {m : Nat} {S : VS} (M : MO h m S) (g : Good S) (hy : vy S ≤ 999) (hn : n ≤ 60) (hp : p < vn S) (hc : c < 40)
    (k : ∀ h', FQ m h h' → MO h' m S → Q (some (.int (oN (findA (rubN S p c n) 19 0)))) h') : WP (d + 8) 170 Q (57, [.val (.ref m), .val (.int (nI p)), .val (.int (nI c)), .val (.int (nI n)), .val (.int 0), .unset, .unset], [], h, 0, 0) := by
  have gn := g.n
  have loop : ∀ (v : Nat) (h1 : HP), v ≤ 19 → FQ m h h1 → MO h1 m S →
      WP (d + 8) 170 Q (65, [.val (.ref m), .val (.int (nI p)), .val (.int (nI c)), .val (.int (nI n)), .val (.int 0), .val (.int (oN (findA (rubN S p c n) (19 - v) v))), .val (.int (nI v + (-1)))], [], h1, 0, 0) := by
    intro v
    induction v with
    | zero =>
      intro h1 hv f1 m1
      rw [s170_65]
      simp only [s170_67, s170_70, s170_71, s170_74, s170_75, s170_77, s170_80, s170_81, s170_82, s170_83, s170_84, s170_87, s170_90, s170_92, s170_95, s170_97, s170_99, s170_100, s170_103, s170_106, s170_109, s170_111, oB_some, cl2_i, cl2_r, cl2_l, cl2_u, cl2_s, wd_0, wd_i, wd_r, wd_l, wd_f, ct_i, ct_r, ct_n, ct_f, rf_s, rf_n, tl_s, tl_n, true_and, and_true, eq_self, and_self, Nat.reduceAdd, Nat.reduceLeDiff, Nat.zero_le, Nat.reduceEqDiff, or_true, true_or, false_or, or_false, if_true, if_false, gI_0, gI_1, gI_2, gI_3, gI_4, gI_5, gI_6, gI_7, gI_8, gI_9, gI_10, gI_11, gI_12, gI_13, gI_14, gI_15, gL_0, gL_1, gL_2, gL_3, gL_4, gL_5, gL_6, gL_7, gL_8, gL_9, gL_10, gL_11, gL_12, gL_13, gL_14, gL_15, gA_0, gA_1, gA_2, gA_3, gA_4, gA_5, gA_6, gA_7, gA_8, gA_9, gA_10, gA_11, gA_12, gA_13, gA_14, gA_15, p1_0, p1_1, p1_2, p1_3, p1_4, p1_5, p1_6, p1_7, p1_8, p1_9, p1_10, p1_11, p1_12, p1_13, p1_14, p1_15, p2_0, p2_1, p2_2, p2_3, p2_4, p2_5, p2_6, p2_7, p2_8, p2_9, p2_10, p2_11, p2_12, p2_13, p2_14, p2_15, b01_ok, b_ft, b_tf, b01_e0, b01_e1, lgc_0, not_true_eq_false, not_false_eq_true]
      rw [if_pos (by decide)]
      exact k h1 f1 m1
    | succ v ih =>
      intro h1 hv f1 m1
      have K1 := m1.1.k
      unfold MK at K1
      have z : ¬ nI v < 0 := nI_pos (by omega)
      rw [s170_65, pk_m1]
      simp only [s170_67, s170_70, s170_71, oB_some, cl2_i, cl2_r, cl2_l, cl2_u, cl2_s, wd_0, wd_i, wd_r, wd_l, wd_f, ct_i, ct_r, ct_n, ct_f, rf_s, rf_n, tl_s, tl_n, true_and, and_true, eq_self, and_self, Nat.reduceAdd, Nat.reduceLeDiff, Nat.zero_le, Nat.reduceEqDiff, or_true, true_or, false_or, or_false, if_true, if_false, gI_0, gI_1, gI_2, gI_3, gI_4, gI_5, gI_6, gI_7, gI_8, gI_9, gI_10, gI_11, gI_12, gI_13, gI_14, gI_15, gL_0, gL_1, gL_2, gL_3, gL_4, gL_5, gL_6, gL_7, gL_8, gL_9, gL_10, gL_11, gL_12, gL_13, gL_14, gL_15, gA_0, gA_1, gA_2, gA_3, gA_4, gA_5, gA_6, gA_7, gA_8, gA_9, gA_10, gA_11, gA_12, gA_13, gA_14, gA_15, p1_0, p1_1, p1_2, p1_3, p1_4, p1_5, p1_6, p1_7, p1_8, p1_9, p1_10, p1_11, p1_12, p1_13, p1_14, p1_15, p2_0, p2_1, p2_2, p2_3, p2_4, p2_5, p2_6, p2_7, p2_8, p2_9, p2_10, p2_11, p2_12, p2_13, p2_14, p2_15, b01_ok, b_ft, b_tf, b01_e0, b01_e1, lgc_0, not_true_eq_false, not_false_eq_true, K1, z]
      refine m_minds m1.1 g m1.2 fun h2 f2 q2 l2 p2 => ?_
      have K2 := q2.k
      unfold MK at K2
      have q3 := RM_u q2 v
      have g3 : Good (wU S v) := g.wU (by omega)
      simp only [s170_74, s170_75, s170_77, s170_80, s170_81, s170_82, s170_83, s170_84, oB_some, cl2_i, cl2_r, cl2_l, cl2_u, cl2_s, wd_0, wd_i, wd_r, wd_l, wd_f, ct_i, ct_r, ct_n, ct_f, rf_s, rf_n, tl_s, tl_n, true_and, and_true, eq_self, and_self, Nat.reduceAdd, Nat.reduceLeDiff, Nat.zero_le, Nat.reduceEqDiff, or_true, true_or, false_or, or_false, if_true, if_false, gI_0, gI_1, gI_2, gI_3, gI_4, gI_5, gI_6, gI_7, gI_8, gI_9, gI_10, gI_11, gI_12, gI_13, gI_14, gI_15, gL_0, gL_1, gL_2, gL_3, gL_4, gL_5, gL_6, gL_7, gL_8, gL_9, gL_10, gL_11, gL_12, gL_13, gL_14, gL_15, gA_0, gA_1, gA_2, gA_3, gA_4, gA_5, gA_6, gA_7, gA_8, gA_9, gA_10, gA_11, gA_12, gA_13, gA_14, gA_15, p1_0, p1_1, p1_2, p1_3, p1_4, p1_5, p1_6, p1_7, p1_8, p1_9, p1_10, p1_11, p1_12, p1_13, p1_14, p1_15, p2_0, p2_1, p2_2, p2_3, p2_4, p2_5, p2_6, p2_7, p2_8, p2_9, p2_10, p2_11, p2_12, p2_13, p2_14, p2_15, b01_ok, b_ft, b_tf, b01_e0, b01_e1, lgc_0, not_true_eq_false, not_false_eq_true, z_hkd_sI, z_hln_sI, z_hL_sI, z_hR_sI, z_hnx_sI, z_hkd_sL, z_hln_sL, z_hI_sL, z_hR_sL, z_hnx_sL, z_hkd_sR, z_hln_sR, z_hI_sR, z_hL_sR, z_hnx_sR, z_hkd_cI, z_hln_cI, z_hL_cI, z_hR_cI, z_hnx_cI, z_hkd_cLg, z_hln_cLg, z_hI_cLg, z_hR_cLg, z_hnx_cLg, K2]
      refine m_isKnownBehind (n := n) (p := nI p) q3 g3 (l2.w (Or.inr (by decide))) (by decide) (show vy S + n < 2 ^ 20 by omega) (isPI_K (by rw [isPI_nI g3 (by omega)]; exact decide_eq_true hp)) (show c < 64 by omega) fun h4 f4 q4 => ?_
      have K4 := q4.k
      unfold MK at K4
      have p4 := (p2.w g (a := m) (k := 13) (x := nI v) (by omega)).fd g f4
      have ff : FQ m h h4 := f1.tr (f2.tr ((FQ.rf.sI (a := m) (k := 13) (Or.inl ⟨rfl, by omega⟩)).tr f4.fq))
      have ek : hb (knN (dayN 0 false false n (wU S v)) (nI p)) c = !rubN S p c n v := by
        unfold rubN
        rw [knN_n (by omega), Bool.not_not]
      have e19 : findA (rubN S p c n) (19 - v) v = if rubN S p c n v = true then some v else findA (rubN S p c n) (19 - (v + 1)) (v + 1) := by
        rw [show 19 - v = (19 - (v + 1)) + 1 by omega, findA_s]
      rw [ek]
      by_cases e : rubN S p c n v = true
      · rw [if_pos e] at e19
        simp only [s170_87, s170_90, s170_92, s170_95, s170_97, s170_99, s170_100, oB_some, cl2_i, cl2_r, cl2_l, cl2_u, cl2_s, wd_0, wd_i, wd_r, wd_l, wd_f, ct_i, ct_r, ct_n, ct_f, rf_s, rf_n, tl_s, tl_n, true_and, and_true, eq_self, and_self, Nat.reduceAdd, Nat.reduceLeDiff, Nat.zero_le, Nat.reduceEqDiff, or_true, true_or, false_or, or_false, if_true, if_false, gI_0, gI_1, gI_2, gI_3, gI_4, gI_5, gI_6, gI_7, gI_8, gI_9, gI_10, gI_11, gI_12, gI_13, gI_14, gI_15, gL_0, gL_1, gL_2, gL_3, gL_4, gL_5, gL_6, gL_7, gL_8, gL_9, gL_10, gL_11, gL_12, gL_13, gL_14, gL_15, gA_0, gA_1, gA_2, gA_3, gA_4, gA_5, gA_6, gA_7, gA_8, gA_9, gA_10, gA_11, gA_12, gA_13, gA_14, gA_15, p1_0, p1_1, p1_2, p1_3, p1_4, p1_5, p1_6, p1_7, p1_8, p1_9, p1_10, p1_11, p1_12, p1_13, p1_14, p1_15, p2_0, p2_1, p2_2, p2_3, p2_4, p2_5, p2_6, p2_7, p2_8, p2_9, p2_10, p2_11, p2_12, p2_13, p2_14, p2_15, b01_ok, b_ft, b_tf, b01_e0, b01_e1, lgc_0, not_true_eq_false, not_false_eq_true, K4, e, Bool.not_true]
        refine m_forgets q4.k g p4 fun h5 f5 q5 l5 => ?_
        simp only [s170_103, s170_106, oB_some, cl2_i, cl2_r, cl2_l, cl2_u, cl2_s, wd_0, wd_i, wd_r, wd_l, wd_f, ct_i, ct_r, ct_n, ct_f, rf_s, rf_n, tl_s, tl_n, true_and, and_true, eq_self, and_self, Nat.reduceAdd, Nat.reduceLeDiff, Nat.zero_le, Nat.reduceEqDiff, or_true, true_or, false_or, or_false, if_true, if_false, gI_0, gI_1, gI_2, gI_3, gI_4, gI_5, gI_6, gI_7, gI_8, gI_9, gI_10, gI_11, gI_12, gI_13, gI_14, gI_15, gL_0, gL_1, gL_2, gL_3, gL_4, gL_5, gL_6, gL_7, gL_8, gL_9, gL_10, gL_11, gL_12, gL_13, gL_14, gL_15, gA_0, gA_1, gA_2, gA_3, gA_4, gA_5, gA_6, gA_7, gA_8, gA_9, gA_10, gA_11, gA_12, gA_13, gA_14, gA_15, p1_0, p1_1, p1_2, p1_3, p1_4, p1_5, p1_6, p1_7, p1_8, p1_9, p1_10, p1_11, p1_12, p1_13, p1_14, p1_15, p2_0, p2_1, p2_2, p2_3, p2_4, p2_5, p2_6, p2_7, p2_8, p2_9, p2_10, p2_11, p2_12, p2_13, p2_14, p2_15, b01_ok, b_ft, b_tf, b01_e0, b01_e1, lgc_0, not_true_eq_false, not_false_eq_true]
        have := ih h5 (by omega) (ff.tr f5) ⟨q5, l5⟩
        rw [e19] at this
        exact this
      · rw [if_neg e] at e19
        simp only [s170_87, s170_90, s170_92, s170_95, s170_97, s170_99, s170_100, oB_some, cl2_i, cl2_r, cl2_l, cl2_u, cl2_s, wd_0, wd_i, wd_r, wd_l, wd_f, ct_i, ct_r, ct_n, ct_f, rf_s, rf_n, tl_s, tl_n, true_and, and_true, eq_self, and_self, Nat.reduceAdd, Nat.reduceLeDiff, Nat.zero_le, Nat.reduceEqDiff, or_true, true_or, false_or, or_false, if_true, if_false, gI_0, gI_1, gI_2, gI_3, gI_4, gI_5, gI_6, gI_7, gI_8, gI_9, gI_10, gI_11, gI_12, gI_13, gI_14, gI_15, gL_0, gL_1, gL_2, gL_3, gL_4, gL_5, gL_6, gL_7, gL_8, gL_9, gL_10, gL_11, gL_12, gL_13, gL_14, gL_15, gA_0, gA_1, gA_2, gA_3, gA_4, gA_5, gA_6, gA_7, gA_8, gA_9, gA_10, gA_11, gA_12, gA_13, gA_14, gA_15, p1_0, p1_1, p1_2, p1_3, p1_4, p1_5, p1_6, p1_7, p1_8, p1_9, p1_10, p1_11, p1_12, p1_13, p1_14, p1_15, p2_0, p2_1, p2_2, p2_3, p2_4, p2_5, p2_6, p2_7, p2_8, p2_9, p2_10, p2_11, p2_12, p2_13, p2_14, p2_15, b01_ok, b_ft, b_tf, b01_e0, b01_e1, lgc_0, not_true_eq_false, not_false_eq_true, K4, e, Bool.not_false, Bool.true_eq_false]
        refine m_forgets q4.k g p4 fun h5 f5 q5 l5 => ?_
        simp only [s170_103, s170_106, oB_some, cl2_i, cl2_r, cl2_l, cl2_u, cl2_s, wd_0, wd_i, wd_r, wd_l, wd_f, ct_i, ct_r, ct_n, ct_f, rf_s, rf_n, tl_s, tl_n, true_and, and_true, eq_self, and_self, Nat.reduceAdd, Nat.reduceLeDiff, Nat.zero_le, Nat.reduceEqDiff, or_true, true_or, false_or, or_false, if_true, if_false, gI_0, gI_1, gI_2, gI_3, gI_4, gI_5, gI_6, gI_7, gI_8, gI_9, gI_10, gI_11, gI_12, gI_13, gI_14, gI_15, gL_0, gL_1, gL_2, gL_3, gL_4, gL_5, gL_6, gL_7, gL_8, gL_9, gL_10, gL_11, gL_12, gL_13, gL_14, gL_15, gA_0, gA_1, gA_2, gA_3, gA_4, gA_5, gA_6, gA_7, gA_8, gA_9, gA_10, gA_11, gA_12, gA_13, gA_14, gA_15, p1_0, p1_1, p1_2, p1_3, p1_4, p1_5, p1_6, p1_7, p1_8, p1_9, p1_10, p1_11, p1_12, p1_13, p1_14, p1_15, p2_0, p2_1, p2_2, p2_3, p2_4, p2_5, p2_6, p2_7, p2_8, p2_9, p2_10, p2_11, p2_12, p2_13, p2_14, p2_15, b01_ok, b_ft, b_tf, b01_e0, b01_e1, lgc_0, not_true_eq_false, not_false_eq_true]
        have := ih h5 (by omega) (ff.tr f5) ⟨q5, l5⟩
        rw [e19] at this
        exact this
  simp only [s170_57, s170_59, s170_61, s170_63, oB_some, cl2_i, cl2_r, cl2_l, cl2_u, cl2_s, wd_0, wd_i, wd_r, wd_l, wd_f, ct_i, ct_r, ct_n, ct_f, rf_s, rf_n, tl_s, tl_n, true_and, and_true, eq_self, and_self, Nat.reduceAdd, Nat.reduceLeDiff, Nat.zero_le, Nat.reduceEqDiff, or_true, true_or, false_or, or_false, if_true, if_false, gI_0, gI_1, gI_2, gI_3, gI_4, gI_5, gI_6, gI_7, gI_8, gI_9, gI_10, gI_11, gI_12, gI_13, gI_14, gI_15, gL_0, gL_1, gL_2, gL_3, gL_4, gL_5, gL_6, gL_7, gL_8, gL_9, gL_10, gL_11, gL_12, gL_13, gL_14, gL_15, gA_0, gA_1, gA_2, gA_3, gA_4, gA_5, gA_6, gA_7, gA_8, gA_9, gA_10, gA_11, gA_12, gA_13, gA_14, gA_15, p1_0, p1_1, p1_2, p1_3, p1_4, p1_5, p1_6, p1_7, p1_8, p1_9, p1_10, p1_11, p1_12, p1_13, p1_14, p1_15, p2_0, p2_1, p2_2, p2_3, p2_4, p2_5, p2_6, p2_7, p2_8, p2_9, p2_10, p2_11, p2_12, p2_13, p2_14, p2_15, b01_ok, b_ft, b_tf, b01_e0, b01_e1, lgc_0, not_true_eq_false, not_false_eq_true]
  exact loop 19 h (Nat.le_refl _) FQ.rf M

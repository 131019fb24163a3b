-- the other side's helpers of questions
set_option maxHeartbeats 4000000 in
theorem m_knownBehind {d : Nat} {Q : PQ} {h : HP} {m n ink : Nat} {dm sh : Bool} {p : Int32} {S : VS} (q : RM h m S) (g : Good S) (f : FMl h m ink dm sh) (hi : ink < 64) (hn : vy S + n < 2 ^ 20) (hp : isKI S p = true)
    (k : ∀ h', FQ m h h' → MO h' m S → Q (some (.int (nI (nb (knN (dayN ink dm sh n S) p))))) h') : Ev (d + 8) 147 [.ref m, .int p, .int (nI n)] h Q := by
  have K := q.k
  unfold MK at K
  simp only [e147, s147_0, s147_1, oB_some, cl2_i, cl2_r, cl2_l, cl2_u, cl2_s, wd_0, wd_i, wd_r, wd_l, wd_f, ct_i, ct_r, ct_n, ct_f, rf_s, rf_n, tl_s, tl_n, true_and, and_true, eq_self, and_self, Nat.reduceAdd, Nat.reduceLeDiff, Nat.zero_le, Nat.reduceEqDiff, or_true, true_or, false_or, or_false, if_true, if_false, gI_0, gI_1, gI_2, gI_3, gI_4, gI_5, gI_6, gI_7, gI_8, gI_9, gI_10, gI_11, gI_12, gI_13, gI_14, gI_15, gL_0, gL_1, gL_2, gL_3, gL_4, gL_5, gL_6, gL_7, gL_8, gL_9, gL_10, gL_11, gL_12, gL_13, gL_14, gL_15, gA_0, gA_1, gA_2, gA_3, gA_4, gA_5, gA_6, gA_7, gA_8, gA_9, gA_10, gA_11, gA_12, gA_13, gA_14, gA_15, p1_0, p1_1, p1_2, p1_3, p1_4, p1_5, p1_6, p1_7, p1_8, p1_9, p1_10, p1_11, p1_12, p1_13, p1_14, p1_15, p2_0, p2_1, p2_2, p2_3, p2_4, p2_5, p2_6, p2_7, p2_8, p2_9, p2_10, p2_11, p2_12, p2_13, p2_14, p2_15, b01_ok, b_ft, b_tf, b01_e0, b01_e1, lgc_0, not_true_eq_false, not_false_eq_true, K]
  refine m_minds q g f fun h1 f1 q1 l1 p1 => ?_
  have K1 := q1.k
  unfold MK at K1
  simp only [s147_4, s147_5, s147_6, oB_some, cl2_i, cl2_r, cl2_l, cl2_u, cl2_s, wd_0, wd_i, wd_r, wd_l, wd_f, ct_i, ct_r, ct_n, ct_f, rf_s, rf_n, tl_s, tl_n, true_and, and_true, eq_self, and_self, Nat.reduceAdd, Nat.reduceLeDiff, Nat.zero_le, Nat.reduceEqDiff, or_true, true_or, false_or, or_false, if_true, if_false, gI_0, gI_1, gI_2, gI_3, gI_4, gI_5, gI_6, gI_7, gI_8, gI_9, gI_10, gI_11, gI_12, gI_13, gI_14, gI_15, gL_0, gL_1, gL_2, gL_3, gL_4, gL_5, gL_6, gL_7, gL_8, gL_9, gL_10, gL_11, gL_12, gL_13, gL_14, gL_15, gA_0, gA_1, gA_2, gA_3, gA_4, gA_5, gA_6, gA_7, gA_8, gA_9, gA_10, gA_11, gA_12, gA_13, gA_14, gA_15, p1_0, p1_1, p1_2, p1_3, p1_4, p1_5, p1_6, p1_7, p1_8, p1_9, p1_10, p1_11, p1_12, p1_13, p1_14, p1_15, p2_0, p2_1, p2_2, p2_3, p2_4, p2_5, p2_6, p2_7, p2_8, p2_9, p2_10, p2_11, p2_12, p2_13, p2_14, p2_15, b01_ok, b_ft, b_tf, b01_e0, b01_e1, lgc_0, not_true_eq_false, not_false_eq_true, K1]
  refine m_goes q1 g l1 hi hn fun h2 f2 q2 => ?_
  have K2 := q2.k
  unfold MK at K2
  have kp := dayN_keep (ink := ink) (dm := dm) (sh := sh) (n := n) g hn
  have hp2 : isKI (dayN ink dm sh n S) p = true := by rw [isKI_vn kp.2.1]; exact hp
  simp only [s147_9, s147_10, s147_11, s147_14, s147_17, s147_18, s147_19, oB_some, cl2_i, cl2_r, cl2_l, cl2_u, cl2_s, wd_0, wd_i, wd_r, wd_l, wd_f, ct_i, ct_r, ct_n, ct_f, rf_s, rf_n, tl_s, tl_n, true_and, and_true, eq_self, and_self, Nat.reduceAdd, Nat.reduceLeDiff, Nat.zero_le, Nat.reduceEqDiff, or_true, true_or, false_or, or_false, if_true, if_false, gI_0, gI_1, gI_2, gI_3, gI_4, gI_5, gI_6, gI_7, gI_8, gI_9, gI_10, gI_11, gI_12, gI_13, gI_14, gI_15, gL_0, gL_1, gL_2, gL_3, gL_4, gL_5, gL_6, gL_7, gL_8, gL_9, gL_10, gL_11, gL_12, gL_13, gL_14, gL_15, gA_0, gA_1, gA_2, gA_3, gA_4, gA_5, gA_6, gA_7, gA_8, gA_9, gA_10, gA_11, gA_12, gA_13, gA_14, gA_15, p1_0, p1_1, p1_2, p1_3, p1_4, p1_5, p1_6, p1_7, p1_8, p1_9, p1_10, p1_11, p1_12, p1_13, p1_14, p1_15, p2_0, p2_1, p2_2, p2_3, p2_4, p2_5, p2_6, p2_7, p2_8, p2_9, p2_10, p2_11, p2_12, p2_13, p2_14, p2_15, b01_ok, b_ft, b_tf, b01_e0, b01_e1, lgc_0, not_true_eq_false, not_false_eq_true, K2, m_knownTo q2 kp.1 hp2, m_bits]
  refine m_forgets q2.k g (p1.fd g f2) fun h3 f3 q3 l3 => ?_
  simp only [s147_22, s147_23, oB_some, cl2_i, cl2_r, cl2_l, cl2_u, cl2_s, wd_0, wd_i, wd_r, wd_l, wd_f, ct_i, ct_r, ct_n, ct_f, rf_s, rf_n, tl_s, tl_n, true_and, and_true, eq_self, and_self, Nat.reduceAdd, Nat.reduceLeDiff, Nat.zero_le, Nat.reduceEqDiff, or_true, true_or, false_or, or_false, if_true, if_false, gI_0, gI_1, gI_2, gI_3, gI_4, gI_5, gI_6, gI_7, gI_8, gI_9, gI_10, gI_11, gI_12, gI_13, gI_14, gI_15, gL_0, gL_1, gL_2, gL_3, gL_4, gL_5, gL_6, gL_7, gL_8, gL_9, gL_10, gL_11, gL_12, gL_13, gL_14, gL_15, gA_0, gA_1, gA_2, gA_3, gA_4, gA_5, gA_6, gA_7, gA_8, gA_9, gA_10, gA_11, gA_12, gA_13, gA_14, gA_15, p1_0, p1_1, p1_2, p1_3, p1_4, p1_5, p1_6, p1_7, p1_8, p1_9, p1_10, p1_11, p1_12, p1_13, p1_14, p1_15, p2_0, p2_1, p2_2, p2_3, p2_4, p2_5, p2_6, p2_7, p2_8, p2_9, p2_10, p2_11, p2_12, p2_13, p2_14, p2_15, b01_ok, b_ft, b_tf, b01_e0, b01_e1, lgc_0, not_true_eq_false, not_false_eq_true]
  exact k h3 (f1.tr (f2.fq.tr f3)) ⟨q3, l3⟩
theorem m_isKnownBehind {d : Nat} {Q : PQ} {h : HP} {m n c ink : Nat} {dm sh : Bool} {p : Int32} {S : VS} (q : RM h m S) (g : Good S) (f : FMl h m ink dm sh) (hi : ink < 64) (hn : vy S + n < 2 ^ 20) (hp : isKI S p = true) (hc : c < 64)
    (k : ∀ h', FD m h h' → RM h' m (dayN ink dm sh n S) → Q (some (.int (b01 (hb (knN (dayN ink dm sh n S) p) c)))) h') : Ev (d + 8) 171 [.ref m, .int p, .int (nI c), .int (nI n)] h Q := by
  have K := q.k
  unfold MK at K
  simp only [e171, s171_0, s171_1, s171_2, oB_some, cl2_i, cl2_r, cl2_l, cl2_u, cl2_s, wd_0, wd_i, wd_r, wd_l, wd_f, ct_i, ct_r, ct_n, ct_f, rf_s, rf_n, tl_s, tl_n, true_and, and_true, eq_self, and_self, Nat.reduceAdd, Nat.reduceLeDiff, Nat.zero_le, Nat.reduceEqDiff, or_true, true_or, false_or, or_false, if_true, if_false, gI_0, gI_1, gI_2, gI_3, gI_4, gI_5, gI_6, gI_7, gI_8, gI_9, gI_10, gI_11, gI_12, gI_13, gI_14, gI_15, gL_0, gL_1, gL_2, gL_3, gL_4, gL_5, gL_6, gL_7, gL_8, gL_9, gL_10, gL_11, gL_12, gL_13, gL_14, gL_15, gA_0, gA_1, gA_2, gA_3, gA_4, gA_5, gA_6, gA_7, gA_8, gA_9, gA_10, gA_11, gA_12, gA_13, gA_14, gA_15, p1_0, p1_1, p1_2, p1_3, p1_4, p1_5, p1_6, p1_7, p1_8, p1_9, p1_10, p1_11, p1_12, p1_13, p1_14, p1_15, p2_0, p2_1, p2_2, p2_3, p2_4, p2_5, p2_6, p2_7, p2_8, p2_9, p2_10, p2_11, p2_12, p2_13, p2_14, p2_15, b01_ok, b_ft, b_tf, b01_e0, b01_e1, lgc_0, not_true_eq_false, not_false_eq_true, K]
  refine m_goes q g f hi hn fun h2 f2 q2 => ?_
  have K2 := q2.k
  unfold MK at K2
  have kp := dayN_keep (ink := ink) (dm := dm) (sh := sh) (n := n) g hn
  have hp2 : isKI (dayN ink dm sh n S) p = true := by rw [isKI_vn kp.2.1]; exact hp
  simp only [s171_5, s171_6, s171_7, s171_10, s171_11, s171_14, oB_some, cl2_i, cl2_r, cl2_l, cl2_u, cl2_s, wd_0, wd_i, wd_r, wd_l, wd_f, ct_i, ct_r, ct_n, ct_f, rf_s, rf_n, tl_s, tl_n, true_and, and_true, eq_self, and_self, Nat.reduceAdd, Nat.reduceLeDiff, Nat.zero_le, Nat.reduceEqDiff, or_true, true_or, false_or, or_false, if_true, if_false, gI_0, gI_1, gI_2, gI_3, gI_4, gI_5, gI_6, gI_7, gI_8, gI_9, gI_10, gI_11, gI_12, gI_13, gI_14, gI_15, gL_0, gL_1, gL_2, gL_3, gL_4, gL_5, gL_6, gL_7, gL_8, gL_9, gL_10, gL_11, gL_12, gL_13, gL_14, gL_15, gA_0, gA_1, gA_2, gA_3, gA_4, gA_5, gA_6, gA_7, gA_8, gA_9, gA_10, gA_11, gA_12, gA_13, gA_14, gA_15, p1_0, p1_1, p1_2, p1_3, p1_4, p1_5, p1_6, p1_7, p1_8, p1_9, p1_10, p1_11, p1_12, p1_13, p1_14, p1_15, p2_0, p2_1, p2_2, p2_3, p2_4, p2_5, p2_6, p2_7, p2_8, p2_9, p2_10, p2_11, p2_12, p2_13, p2_14, p2_15, b01_ok, b_ft, b_tf, b01_e0, b01_e1, lgc_0, not_true_eq_false, not_false_eq_true, K2, m_knownTo q2 kp.1 hp2, m_has hc]
  exact k h2 f2 q2
set_option maxHeartbeats 4000000 in
theorem m_whenFrom {d : Nat} {Q : PQ} {h : HP} {m c ink : Nat} {dm sh : Bool} {p : Int32} {S : VS} (q : RM h m S) (g : Good S) (f : FMl h m ink dm sh) (hi : ink < 64) (hy : vy S + 61 < 2 ^ 20) (hp : isKI S p = true) (hc : c < 64)
    (k : ∀ h', FD m h h' → MK h' m → Q (some (.int (oN (untilN ink dm sh (fun T => hb (knN T p) c) 61 0 S)))) h') : Ev (d + 7) 158 [.ref m, .int p, .int (nI c)] h Q := by
  have loop : ∀ (n j : Nat) (h1 : HP) (T : VS), j + n = 61 → RM h1 m T → Good T → FMl h1 m ink dm sh → FD m h h1 → vn T = vn S → vy T + n < 2 ^ 20 → untilN ink dm sh (fun T => hb (knN T p) c) n j T = untilN ink dm sh (fun T => hb (knN T p) c) 61 0 S →
      WP (d + 6) 158 Q (2, [.val (.ref m), .val (.int p), .val (.int (nI c)), .val (.int (nI j))], [], h1, 0, 0) := by
    intro n
    induction n with
    | zero =>
      intro j h1 T hj q1 g1 l1 f1 n1 y1 e1
      obtain rfl : j = 61 := by omega
      rw [s158_2]
      simp only [s158_0, s158_1, s158_3, s158_5, s158_8, s158_9, s158_10, s158_13, s158_14, s158_17, s158_20, s158_21, s158_22, s158_23, s158_26, s158_29, s158_32, s158_34, oB_some, cl2_i, cl2_r, cl2_l, cl2_u, cl2_s, wd_0, wd_i, wd_r, wd_l, wd_f, ct_i, ct_r, ct_n, ct_f, rf_s, rf_n, tl_s, tl_n, true_and, and_true, eq_self, and_self, Nat.reduceAdd, Nat.reduceLeDiff, Nat.zero_le, Nat.reduceEqDiff, or_true, true_or, false_or, or_false, if_true, if_false, gI_0, gI_1, gI_2, gI_3, gI_4, gI_5, gI_6, gI_7, gI_8, gI_9, gI_10, gI_11, gI_12, gI_13, gI_14, gI_15, gL_0, gL_1, gL_2, gL_3, gL_4, gL_5, gL_6, gL_7, gL_8, gL_9, gL_10, gL_11, gL_12, gL_13, gL_14, gL_15, gA_0, gA_1, gA_2, gA_3, gA_4, gA_5, gA_6, gA_7, gA_8, gA_9, gA_10, gA_11, gA_12, gA_13, gA_14, gA_15, p1_0, p1_1, p1_2, p1_3, p1_4, p1_5, p1_6, p1_7, p1_8, p1_9, p1_10, p1_11, p1_12, p1_13, p1_14, p1_15, p2_0, p2_1, p2_2, p2_3, p2_4, p2_5, p2_6, p2_7, p2_8, p2_9, p2_10, p2_11, p2_12, p2_13, p2_14, p2_15, b01_ok, b_ft, b_tf, b01_e0, b01_e1, lgc_0, not_true_eq_false, not_false_eq_true]
      rw [if_pos (by decide)]
      have kk := k h1 f1 q1.k
      rw [← e1] at kk
      exact kk
    | succ n ih =>
      intro j h1 T hj q1 g1 l1 f1 n1 y1 e1
      have K := q1.k
      unfold MK at K
      have z : ¬ (60 : Int32) < nI j := nI_nlt (a := 60) (b := j) (by omega) (by omega)
      have hp1 : isKI T p = true := by rw [isKI_vn n1]; exact hp
      have e2 : (if hb (knN T p) c = true then some j else untilN ink dm sh (fun T => hb (knN T p) c) n (j + 1) (day1 ink dm sh T)) = untilN ink dm sh (fun T => hb (knN T p) c) 61 0 S := e1
      rw [s158_2]
      simp only [s158_0, s158_1, s158_3, s158_5, s158_8, s158_9, s158_10, s158_13, s158_14, s158_17, s158_20, s158_21, s158_22, s158_23, s158_26, s158_29, s158_32, s158_34, oB_some, cl2_i, cl2_r, cl2_l, cl2_u, cl2_s, wd_0, wd_i, wd_r, wd_l, wd_f, ct_i, ct_r, ct_n, ct_f, rf_s, rf_n, tl_s, tl_n, true_and, and_true, eq_self, and_self, Nat.reduceAdd, Nat.reduceLeDiff, Nat.zero_le, Nat.reduceEqDiff, or_true, true_or, false_or, or_false, if_true, if_false, gI_0, gI_1, gI_2, gI_3, gI_4, gI_5, gI_6, gI_7, gI_8, gI_9, gI_10, gI_11, gI_12, gI_13, gI_14, gI_15, gL_0, gL_1, gL_2, gL_3, gL_4, gL_5, gL_6, gL_7, gL_8, gL_9, gL_10, gL_11, gL_12, gL_13, gL_14, gL_15, gA_0, gA_1, gA_2, gA_3, gA_4, gA_5, gA_6, gA_7, gA_8, gA_9, gA_10, gA_11, gA_12, gA_13, gA_14, gA_15, p1_0, p1_1, p1_2, p1_3, p1_4, p1_5, p1_6, p1_7, p1_8, p1_9, p1_10, p1_11, p1_12, p1_13, p1_14, p1_15, p2_0, p2_1, p2_2, p2_3, p2_4, p2_5, p2_6, p2_7, p2_8, p2_9, p2_10, p2_11, p2_12, p2_13, p2_14, p2_15, b01_ok, b_ft, b_tf, b01_e0, b01_e1, lgc_0, not_true_eq_false, not_false_eq_true, K, z, m_knownTo q1 g1 hp1, m_has hc]
      by_cases e : hb (knN T p) c = true
      · rw [if_neg (by rw [e]; decide)]
        rw [if_pos e] at e2
        have kk := k h1 f1 q1.k
        rw [← e2] at kk
        exact kk
      · rw [if_pos (by simpa using e)]
        rw [if_neg e] at e2
        refine m_goesDay q1 g1 l1 hi (by omega) fun h2 f2 q2 => ?_
        have k1 := day1_keep (ink := ink) (dm := dm) (sh := sh) g1 (by omega)
        simp only [s158_0, s158_1, s158_3, s158_5, s158_8, s158_9, s158_10, s158_13, s158_14, s158_17, s158_20, s158_21, s158_22, s158_23, s158_26, s158_29, s158_32, s158_34, oB_some, cl2_i, cl2_r, cl2_l, cl2_u, cl2_s, wd_0, wd_i, wd_r, wd_l, wd_f, ct_i, ct_r, ct_n, ct_f, rf_s, rf_n, tl_s, tl_n, true_and, and_true, eq_self, and_self, Nat.reduceAdd, Nat.reduceLeDiff, Nat.zero_le, Nat.reduceEqDiff, or_true, true_or, false_or, or_false, if_true, if_false, gI_0, gI_1, gI_2, gI_3, gI_4, gI_5, gI_6, gI_7, gI_8, gI_9, gI_10, gI_11, gI_12, gI_13, gI_14, gI_15, gL_0, gL_1, gL_2, gL_3, gL_4, gL_5, gL_6, gL_7, gL_8, gL_9, gL_10, gL_11, gL_12, gL_13, gL_14, gL_15, gA_0, gA_1, gA_2, gA_3, gA_4, gA_5, gA_6, gA_7, gA_8, gA_9, gA_10, gA_11, gA_12, gA_13, gA_14, gA_15, p1_0, p1_1, p1_2, p1_3, p1_4, p1_5, p1_6, p1_7, p1_8, p1_9, p1_10, p1_11, p1_12, p1_13, p1_14, p1_15, p2_0, p2_1, p2_2, p2_3, p2_4, p2_5, p2_6, p2_7, p2_8, p2_9, p2_10, p2_11, p2_12, p2_13, p2_14, p2_15, b01_ok, b_ft, b_tf, b01_e0, b01_e1, lgc_0, not_true_eq_false, not_false_eq_true, nI_1]
        exact ih (j + 1) h2 _ (by omega) q2 k1.1 (l1.kept f2) (f1.tr f2) (k1.2.1.trans n1) (by rw [k1.2.2]; omega) e2
  simp only [e158, s158_0, s158_1, oB_some, cl2_i, cl2_r, cl2_l, cl2_u, cl2_s, wd_0, wd_i, wd_r, wd_l, wd_f, ct_i, ct_r, ct_n, ct_f, rf_s, rf_n, tl_s, tl_n, true_and, and_true, eq_self, and_self, Nat.reduceAdd, Nat.reduceLeDiff, Nat.zero_le, Nat.reduceEqDiff, or_true, true_or, false_or, or_false, if_true, if_false, gI_0, gI_1, gI_2, gI_3, gI_4, gI_5, gI_6, gI_7, gI_8, gI_9, gI_10, gI_11, gI_12, gI_13, gI_14, gI_15, gL_0, gL_1, gL_2, gL_3, gL_4, gL_5, gL_6, gL_7, gL_8, gL_9, gL_10, gL_11, gL_12, gL_13, gL_14, gL_15, gA_0, gA_1, gA_2, gA_3, gA_4, gA_5, gA_6, gA_7, gA_8, gA_9, gA_10, gA_11, gA_12, gA_13, gA_14, gA_15, p1_0, p1_1, p1_2, p1_3, p1_4, p1_5, p1_6, p1_7, p1_8, p1_9, p1_10, p1_11, p1_12, p1_13, p1_14, p1_15, p2_0, p2_1, p2_2, p2_3, p2_4, p2_5, p2_6, p2_7, p2_8, p2_9, p2_10, p2_11, p2_12, p2_13, p2_14, p2_15, b01_ok, b_ft, b_tf, b01_e0, b01_e1, lgc_0, not_true_eq_false, not_false_eq_true]
  exact loop 61 0 h S (by omega) q g f FD.rf rfl hy rfl
theorem m_allKnownBehind {d : Nat} {Q : PQ} {h : HP} {m n ink : Nat} {dm sh : Bool} {S : VS} (q : RM h m S) (g : Good S) (f : FMl h m ink dm sh) (hi : ink < 64) (hn : vy S + n < 2 ^ 20)
    (k : ∀ h', FD m h h' → RM h' m (dayN ink dm sh n S) → Q (some (.int (nI (together (dayN ink dm sh n S))))) h') : Ev (d + 8) 185 [.ref m, .int (nI n)] h Q := by
  have K := q.k
  unfold MK at K
  simp only [e185, s185_0, s185_1, s185_2, oB_some, cl2_i, cl2_r, cl2_l, cl2_u, cl2_s, wd_0, wd_i, wd_r, wd_l, wd_f, ct_i, ct_r, ct_n, ct_f, rf_s, rf_n, tl_s, tl_n, true_and, and_true, eq_self, and_self, Nat.reduceAdd, Nat.reduceLeDiff, Nat.zero_le, Nat.reduceEqDiff, or_true, true_or, false_or, or_false, if_true, if_false, gI_0, gI_1, gI_2, gI_3, gI_4, gI_5, gI_6, gI_7, gI_8, gI_9, gI_10, gI_11, gI_12, gI_13, gI_14, gI_15, gL_0, gL_1, gL_2, gL_3, gL_4, gL_5, gL_6, gL_7, gL_8, gL_9, gL_10, gL_11, gL_12, gL_13, gL_14, gL_15, gA_0, gA_1, gA_2, gA_3, gA_4, gA_5, gA_6, gA_7, gA_8, gA_9, gA_10, gA_11, gA_12, gA_13, gA_14, gA_15, p1_0, p1_1, p1_2, p1_3, p1_4, p1_5, p1_6, p1_7, p1_8, p1_9, p1_10, p1_11, p1_12, p1_13, p1_14, p1_15, p2_0, p2_1, p2_2, p2_3, p2_4, p2_5, p2_6, p2_7, p2_8, p2_9, p2_10, p2_11, p2_12, p2_13, p2_14, p2_15, b01_ok, b_ft, b_tf, b01_e0, b01_e1, lgc_0, not_true_eq_false, not_false_eq_true, K]
  refine m_goes q g f hi hn fun h2 f2 q2 => ?_
  have K2 := q2.k
  unfold MK at K2
  have kp := dayN_keep (ink := ink) (dm := dm) (sh := sh) (n := n) g hn
  simp only [s185_5, s185_6, s185_9, oB_some, cl2_i, cl2_r, cl2_l, cl2_u, cl2_s, wd_0, wd_i, wd_r, wd_l, wd_f, ct_i, ct_r, ct_n, ct_f, rf_s, rf_n, tl_s, tl_n, true_and, and_true, eq_self, and_self, Nat.reduceAdd, Nat.reduceLeDiff, Nat.zero_le, Nat.reduceEqDiff, or_true, true_or, false_or, or_false, if_true, if_false, gI_0, gI_1, gI_2, gI_3, gI_4, gI_5, gI_6, gI_7, gI_8, gI_9, gI_10, gI_11, gI_12, gI_13, gI_14, gI_15, gL_0, gL_1, gL_2, gL_3, gL_4, gL_5, gL_6, gL_7, gL_8, gL_9, gL_10, gL_11, gL_12, gL_13, gL_14, gL_15, gA_0, gA_1, gA_2, gA_3, gA_4, gA_5, gA_6, gA_7, gA_8, gA_9, gA_10, gA_11, gA_12, gA_13, gA_14, gA_15, p1_0, p1_1, p1_2, p1_3, p1_4, p1_5, p1_6, p1_7, p1_8, p1_9, p1_10, p1_11, p1_12, p1_13, p1_14, p1_15, p2_0, p2_1, p2_2, p2_3, p2_4, p2_5, p2_6, p2_7, p2_8, p2_9, p2_10, p2_11, p2_12, p2_13, p2_14, p2_15, b01_ok, b_ft, b_tf, b01_e0, b01_e1, lgc_0, not_true_eq_false, not_false_eq_true, K2, m_allKnown q2 kp.1]
  exact k h2 f2 q2
theorem m_changesFor {d a b c : Nat} {Q : PQ} {h : HP} {m : Nat} (hk : hkd h c = 2) (hl : hln h c = 6) (ha : a < 6) (hb : b < 6) : Ev (d + 1) 186 [.ref m, .ref c, .int (nI a), .int (nI b)] h Q = Q none (sI (sI h c a (hI h c b)) c b (hI h c a)) := by
  have a31 : a < 2 ^ 31 := by omega
  have b31 : b < 2 ^ 31 := by omega
  simp only [e186, s186_0, s186_1, s186_2, s186_3, s186_5, s186_6, s186_7, s186_8, s186_9, s186_10, s186_11, s186_12, s186_13, s186_15, s186_16, oB_some, cl2_i, cl2_r, cl2_l, cl2_u, cl2_s, wd_0, wd_i, wd_r, wd_l, wd_f, ct_i, ct_r, ct_n, ct_f, rf_s, rf_n, tl_s, tl_n, true_and, and_true, eq_self, and_self, Nat.reduceAdd, Nat.reduceLeDiff, Nat.zero_le, Nat.reduceEqDiff, or_true, true_or, false_or, or_false, if_true, if_false, gI_0, gI_1, gI_2, gI_3, gI_4, gI_5, gI_6, gI_7, gI_8, gI_9, gI_10, gI_11, gI_12, gI_13, gI_14, gI_15, gL_0, gL_1, gL_2, gL_3, gL_4, gL_5, gL_6, gL_7, gL_8, gL_9, gL_10, gL_11, gL_12, gL_13, gL_14, gL_15, gA_0, gA_1, gA_2, gA_3, gA_4, gA_5, gA_6, gA_7, gA_8, gA_9, gA_10, gA_11, gA_12, gA_13, gA_14, gA_15, p1_0, p1_1, p1_2, p1_3, p1_4, p1_5, p1_6, p1_7, p1_8, p1_9, p1_10, p1_11, p1_12, p1_13, p1_14, p1_15, p2_0, p2_1, p2_2, p2_3, p2_4, p2_5, p2_6, p2_7, p2_8, p2_9, p2_10, p2_11, p2_12, p2_13, p2_14, p2_15, b01_ok, b_ft, b_tf, b01_e0, b01_e1, lgc_0, not_true_eq_false, not_false_eq_true, z_hkd_sI, z_hln_sI, z_hL_sI, z_hR_sI, z_hnx_sI, z_hkd_sL, z_hln_sL, z_hI_sL, z_hR_sL, z_hnx_sL, z_hkd_sR, z_hln_sR, z_hI_sR, z_hL_sR, z_hnx_sR, z_hkd_cI, z_hln_cI, z_hL_cI, z_hR_cI, z_hnx_cI, z_hkd_cLg, z_hln_cLg, z_hI_cLg, z_hR_cLg, z_hnx_cLg, hk, hl, ix_nI a31, nI_pos' a31, ha, ix_nI b31, nI_pos' b31, hb]
theorem RM_exch {h : HP} {m a b : Nat} {S : VS} (q : RM h m S) (ha : a < vn S) (hb : b < vn S) :
    RM (sI (sI (sI (sI h (m + 2) a (nI (vk S b))) (m + 2) b (nI (vk S a))) (m + 3) a (nI (vf S b))) (m + 3) b (nI (vf S a))) m (exch S a b) := by
  obtain ⟨k, r1, r2, r3, r4, r5, r6, r7, r8, r9, r10⟩ := q
  refine ⟨k, ?_⟩
  unfold RMr
  rw [mt5_sI (by omega), mt5_sI (by omega), mt5_sI (by omega), mt5_sI (by omega)]
  simp [hI_sI_ne, hI_sI_eq, hL_sI, hL_sL_ne, hL_sL_eq, hI_sL, up_at, up_ne]
  refine ⟨r1, fun i hi => ?_, r3, r4, r5, r6, r7, r8, r9, r10⟩
  have hi2 : i < vn S := hi
  exact ⟨upNI (fun j hj => (r2 j hj).1) ha hb hi2, upNI (fun j hj => (r2 j hj).2.1) ha hb hi2, (r2 i hi2).2.2⟩
theorem writ_vr {ink : Nat} {S : VS} {p : Nat} : vr (writ ink S p) = vr S := by unfold writ; split <;> rfl
theorem writAll_vr {ink : Nat} : ∀ {n p : Nat} {S : VS}, vr (writAll ink n p S) = vr S
  | 0, p, S => rfl
  | n + 1, p, S => by
    show vr (writAll ink n (p + 1) (writ ink S p)) = _
    rw [writAll_vr, writ_vr]
theorem had1_vr {dm sh : Bool} {S : VS} {l : Ltr} : vr (had1 dm sh S l) = vr S := by
  unfold had1 left1
  dsimp only
  split <;> split <;> rfl
theorem hadAll_vr {dm sh : Bool} : ∀ {b : List Ltr} {S : VS}, vr (hadAll dm sh b S) = vr S
  | [], S => rfl
  | l :: t, S => by
    show vr (hadAll dm sh t (had1 dm sh S l)) = _
    rw [hadAll_vr, had1_vr]
theorem day1_vr {ink : Nat} {dm sh : Bool} {S : VS} : vr (day1 ink dm sh S) = vr S := by
  show vr (writAll ink (vn S) 0 (wB (hadAll dm sh ((vb S).take 3) (wY S (vy S + 1))) ((vb S).drop 3))) = _
  rw [writAll_vr]
  show vr (hadAll dm sh ((vb S).take 3) (wY S (vy S + 1))) = _
  rw [hadAll_vr]
  rfl
theorem dayN_vr {ink : Nat} {dm sh : Bool} : ∀ {n : Nat} {S : VS}, vr (dayN ink dm sh n S) = vr S
  | 0, S => rfl
  | n + 1, S => by
    show vr (dayN ink dm sh n (day1 ink dm sh S)) = _
    rw [dayN_vr, day1_vr]
set_option maxHeartbeats 4000000 in
theorem m_endFor {d : Nat} {Q : PQ} {h : HP} {m p : Nat} {S T : VS} (q : RM h m T) (g : Good S) (gt : Good T) (hn : vn T = vn S) (hr : vr T p = vr S p) (hp : p < vn S) : Ev (d + 3) 208 [.ref m, .int (nI p), .long (vw S p)] h Q = Q (some (.int (gnI S T p))) h := by
  have gn := g.n
  have K := q.k
  unfold MK at K
  have p6 : p < 6 := by omega
  have p31 : p < 2 ^ 31 := by omega
  have a3 := (q.at (show p < vn T by omega)).2.2.1
  rw [hr] at a3
  have g3 := (g.at hp).2.2.1
  have r31 : vr S p < 2 ^ 31 := by omega
  have r6 : vr S p < 6 := by omega
  unfold gnI
  by_cases e : vr S p < vn S
  · rw [if_pos e]
    have pe : isPI T (nI (vr S p)) = true := by rw [isPI_nI gt r31]; exact decide_eq_true (by omega)
    simp only [e208, s208_0, s208_1, s208_2, s208_5, s208_6, s208_7, s208_10, s208_13, s208_14, s208_17, s208_18, s208_21, s208_22, s208_23, s208_24, s208_27, s208_30, s208_31, s208_32, s208_33, s208_36, s208_37, s208_40, s208_41, oB_some, cl2_i, cl2_r, cl2_l, cl2_u, cl2_s, wd_0, wd_i, wd_r, wd_l, wd_f, ct_i, ct_r, ct_n, ct_f, rf_s, rf_n, tl_s, tl_n, true_and, and_true, eq_self, and_self, Nat.reduceAdd, Nat.reduceLeDiff, Nat.zero_le, Nat.reduceEqDiff, or_true, true_or, false_or, or_false, if_true, if_false, gI_0, gI_1, gI_2, gI_3, gI_4, gI_5, gI_6, gI_7, gI_8, gI_9, gI_10, gI_11, gI_12, gI_13, gI_14, gI_15, gL_0, gL_1, gL_2, gL_3, gL_4, gL_5, gL_6, gL_7, gL_8, gL_9, gL_10, gL_11, gL_12, gL_13, gL_14, gL_15, gA_0, gA_1, gA_2, gA_3, gA_4, gA_5, gA_6, gA_7, gA_8, gA_9, gA_10, gA_11, gA_12, gA_13, gA_14, gA_15, p1_0, p1_1, p1_2, p1_3, p1_4, p1_5, p1_6, p1_7, p1_8, p1_9, p1_10, p1_11, p1_12, p1_13, p1_14, p1_15, p2_0, p2_1, p2_2, p2_3, p2_4, p2_5, p2_6, p2_7, p2_8, p2_9, p2_10, p2_11, p2_12, p2_13, p2_14, p2_15, b01_ok, b_ft, b_tf, b01_e0, b01_e1, lgc_0, not_true_eq_false, not_false_eq_true, K, a3, ix_nI p31, nI_pos' p31, p6, m_isPersonI q gt, pe, Bool.true_eq_false, ix_nI r31, nI_pos' r31, r6, (q.at (show vr S p < vn T by omega)).2.2.2.1, m_bits, q.s]
  · rw [if_neg e]
    have pe : isPI T (nI (vr S p)) = false := by rw [isPI_nI gt r31]; exact decide_eq_false (by omega)
    simp only [e208, s208_0, s208_1, s208_2, s208_5, s208_6, s208_7, s208_10, s208_13, s208_14, s208_17, s208_18, s208_21, s208_22, s208_23, s208_24, s208_27, s208_30, s208_31, s208_32, s208_33, s208_36, s208_37, s208_40, s208_41, oB_some, cl2_i, cl2_r, cl2_l, cl2_u, cl2_s, wd_0, wd_i, wd_r, wd_l, wd_f, ct_i, ct_r, ct_n, ct_f, rf_s, rf_n, tl_s, tl_n, true_and, and_true, eq_self, and_self, Nat.reduceAdd, Nat.reduceLeDiff, Nat.zero_le, Nat.reduceEqDiff, or_true, true_or, false_or, or_false, if_true, if_false, gI_0, gI_1, gI_2, gI_3, gI_4, gI_5, gI_6, gI_7, gI_8, gI_9, gI_10, gI_11, gI_12, gI_13, gI_14, gI_15, gL_0, gL_1, gL_2, gL_3, gL_4, gL_5, gL_6, gL_7, gL_8, gL_9, gL_10, gL_11, gL_12, gL_13, gL_14, gL_15, gA_0, gA_1, gA_2, gA_3, gA_4, gA_5, gA_6, gA_7, gA_8, gA_9, gA_10, gA_11, gA_12, gA_13, gA_14, gA_15, p1_0, p1_1, p1_2, p1_3, p1_4, p1_5, p1_6, p1_7, p1_8, p1_9, p1_10, p1_11, p1_12, p1_13, p1_14, p1_15, p2_0, p2_1, p2_2, p2_3, p2_4, p2_5, p2_6, p2_7, p2_8, p2_9, p2_10, p2_11, p2_12, p2_13, p2_14, p2_15, b01_ok, b_ft, b_tf, b01_e0, b01_e1, lgc_0, not_true_eq_false, not_false_eq_true, K, a3, ix_nI p31, nI_pos' p31, p6, m_isPersonI q gt, pe, m_bits, q.s]
/-- the row of numbers of the other side -/
def MR (h : HP) (m : Nat) (r : Nat → Nat) (len : Nat) : Prop := hI h m 40 = nI len ∧ len ≤ 12 ∧ ∀ i, i < len → hI h (m + 18) i = nI (r i) ∧ r i < 100
theorem MR.fq {h h' : HP} {m len : Nat} {r : Nat → Nat} (a : MR h m r len) (f : FQ m h h') : MR h' m r len := by
  unfold MR
  rw [f.2.2.2.1 40 (by decide) (by decide) (by decide) (by decide) (by decide), f.2.2.1 (m + 18) (by omega)]
  exact a
set_option maxHeartbeats 4000000 in
theorem m_isLedSo {d k f len : Nat} {r : Nat → Nat} {Q : PQ} {h : HP} {m : Nat} {S : VS} (q : RM h m S) (hy : vy S ≤ 999) (R : MR h m r len) (hk : k < 8) (hf : f < 10) : Ev (d + 3) 196 [.ref m, .int (nI k), .int (nI f)] h Q = Q (some (.int (b01 (ledA r k f (vy S) len 0)))) h := by
  have K := q.k
  unfold MK at K
  obtain ⟨w5, w3, w4⟩ := R
  have loop : ∀ (n i : Nat), i + n = len → WP (d + 2) 196 Q (2, [.val (.ref m), .val (.int (nI k)), .val (.int (nI f)), .val (.int (nI i))], [], h, 0, 0) = Q (some (.int (b01 (ledA r k f (vy S) n i)))) h := by
    intro n
    induction n with
    | zero =>
      intro i hi
      have hin : i = len := by omega
      rw [hin, s196_2]
      simp only [s196_0, s196_1, s196_3, s196_4, s196_7, s196_10, s196_11, s196_12, s196_13, s196_16, s196_17, s196_18, s196_19, s196_20, s196_23, s196_24, s196_27, s196_28, s196_29, s196_32, s196_33, s196_34, s196_37, s196_40, s196_41, oB_some, cl2_i, cl2_r, cl2_l, cl2_u, cl2_s, wd_0, wd_i, wd_r, wd_l, wd_f, ct_i, ct_r, ct_n, ct_f, rf_s, rf_n, tl_s, tl_n, true_and, and_true, eq_self, and_self, Nat.reduceAdd, Nat.reduceLeDiff, Nat.zero_le, Nat.reduceEqDiff, or_true, true_or, false_or, or_false, if_true, if_false, gI_0, gI_1, gI_2, gI_3, gI_4, gI_5, gI_6, gI_7, gI_8, gI_9, gI_10, gI_11, gI_12, gI_13, gI_14, gI_15, gL_0, gL_1, gL_2, gL_3, gL_4, gL_5, gL_6, gL_7, gL_8, gL_9, gL_10, gL_11, gL_12, gL_13, gL_14, gL_15, gA_0, gA_1, gA_2, gA_3, gA_4, gA_5, gA_6, gA_7, gA_8, gA_9, gA_10, gA_11, gA_12, gA_13, gA_14, gA_15, p1_0, p1_1, p1_2, p1_3, p1_4, p1_5, p1_6, p1_7, p1_8, p1_9, p1_10, p1_11, p1_12, p1_13, p1_14, p1_15, p2_0, p2_1, p2_2, p2_3, p2_4, p2_5, p2_6, p2_7, p2_8, p2_9, p2_10, p2_11, p2_12, p2_13, p2_14, p2_15, b01_ok, b_ft, b_tf, b01_e0, b01_e1, lgc_0, not_true_eq_false, not_false_eq_true, K, w5, Int32.le_refl]
      rfl
    | succ n ih =>
      intro i hi
      have i31 : i < 2 ^ 31 := by omega
      have i12 : i < 12 := by omega
      have z : ¬ nI len ≤ nI i := nI_ge (by omega) (by omega)
      obtain ⟨w6, w7⟩ := w4 i (by omega)
      have ll := @lead_le k f (vy S + 1 + i) hf
      rw [s196_2, ledA_s]
      simp only [s196_0, s196_1, s196_3, s196_4, s196_7, s196_10, s196_11, s196_12, s196_13, s196_16, s196_17, s196_18, s196_19, s196_20, s196_23, s196_24, s196_27, s196_28, s196_29, s196_32, s196_33, s196_34, s196_37, s196_40, s196_41, oB_some, cl2_i, cl2_r, cl2_l, cl2_u, cl2_s, wd_0, wd_i, wd_r, wd_l, wd_f, ct_i, ct_r, ct_n, ct_f, rf_s, rf_n, tl_s, tl_n, true_and, and_true, eq_self, and_self, Nat.reduceAdd, Nat.reduceLeDiff, Nat.zero_le, Nat.reduceEqDiff, or_true, true_or, false_or, or_false, if_true, if_false, gI_0, gI_1, gI_2, gI_3, gI_4, gI_5, gI_6, gI_7, gI_8, gI_9, gI_10, gI_11, gI_12, gI_13, gI_14, gI_15, gL_0, gL_1, gL_2, gL_3, gL_4, gL_5, gL_6, gL_7, gL_8, gL_9, gL_10, gL_11, gL_12, gL_13, gL_14, gL_15, gA_0, gA_1, gA_2, gA_3, gA_4, gA_5, gA_6, gA_7, gA_8, gA_9, gA_10, gA_11, gA_12, gA_13, gA_14, gA_15, p1_0, p1_1, p1_2, p1_3, p1_4, p1_5, p1_6, p1_7, p1_8, p1_9, p1_10, p1_11, p1_12, p1_13, p1_14, p1_15, p2_0, p2_1, p2_2, p2_3, p2_4, p2_5, p2_6, p2_7, p2_8, p2_9, p2_10, p2_11, p2_12, p2_13, p2_14, p2_15, b01_ok, b_ft, b_tf, b01_e0, b01_e1, lgc_0, not_true_eq_false, not_false_eq_true, K, w5, z, w6, ix_nI i31, nI_pos' i31, i12, q.y, nI_1, nI_add, m_leadOf hk hf (show vy S + 1 + i < 2 ^ 31 by omega), eqP (show leadN k f (vy S + 1 + i) < 2 ^ 31 by omega) (show r i < 2 ^ 31 by omega)]
      by_cases e : r i = leadN k f (vy S + 1 + i)
      · rw [if_pos e.symm, if_pos e]
        exact ih (i + 1) (by omega)
      · rw [if_neg (fun c => e c.symm), if_neg e]
        rfl
  simp only [e196, s196_0, s196_1, oB_some, cl2_i, cl2_r, cl2_l, cl2_u, cl2_s, wd_0, wd_i, wd_r, wd_l, wd_f, ct_i, ct_r, ct_n, ct_f, rf_s, rf_n, tl_s, tl_n, true_and, and_true, eq_self, and_self, Nat.reduceAdd, Nat.reduceLeDiff, Nat.zero_le, Nat.reduceEqDiff, or_true, true_or, false_or, or_false, if_true, if_false, gI_0, gI_1, gI_2, gI_3, gI_4, gI_5, gI_6, gI_7, gI_8, gI_9, gI_10, gI_11, gI_12, gI_13, gI_14, gI_15, gL_0, gL_1, gL_2, gL_3, gL_4, gL_5, gL_6, gL_7, gL_8, gL_9, gL_10, gL_11, gL_12, gL_13, gL_14, gL_15, gA_0, gA_1, gA_2, gA_3, gA_4, gA_5, gA_6, gA_7, gA_8, gA_9, gA_10, gA_11, gA_12, gA_13, gA_14, gA_15, p1_0, p1_1, p1_2, p1_3, p1_4, p1_5, p1_6, p1_7, p1_8, p1_9, p1_10, p1_11, p1_12, p1_13, p1_14, p1_15, p2_0, p2_1, p2_2, p2_3, p2_4, p2_5, p2_6, p2_7, p2_8, p2_9, p2_10, p2_11, p2_12, p2_13, p2_14, p2_15, b01_ok, b_ft, b_tf, b01_e0, b01_e1, lgc_0, not_true_eq_false, not_false_eq_true]
  exact loop len 0 (by omega)
set_option maxHeartbeats 8000000 in
theorem m_isKnownSo {d len p : Nat} {r : Nat → Nat} {Q : PQ} {h : HP} {m : Nat} {S : VS} (q : RM h m S) (g : Good S) (f : FMl h m 0 false false) (hy : vy S + 12 < 2 ^ 20) (hp : p < vn S) (R : MR h m r len)
    (k : ∀ h', FD m h h' → MK h' m → Q (some (.int (b01 (goR r p len 0 S)))) h') : Ev (d + 7) 201 [.ref m, .int (nI p)] h Q := by
  have loop : ∀ (n i : Nat) (h1 : HP) (T1 : VS), i + n = len → FD m h h1 → RM h1 m T1 → Good T1 → FMl h1 m 0 false false → vn T1 = vn S → vy T1 + n < 2 ^ 20 → goR r p n i T1 = goR r p len 0 S →
      WP (d + 6) 201 Q (2, [.val (.ref m), .val (.int (nI p)), .val (.int (nI i))], [], h1, 0, 0) := by
    intro n
    induction n with
    | zero =>
      intro i h1 T1 hi f1 q1 g1 l1 n1 y1 e1
      have hin : i = len := by omega
      obtain ⟨w5, w3, w4⟩ := R.fq f1.fq
      have K := q1.k
      unfold MK at K
      rw [hin, s201_2]
      simp only [s201_0, s201_1, s201_3, s201_4, s201_7, s201_10, s201_11, s201_14, s201_15, s201_16, s201_19, s201_20, s201_23, s201_24, s201_25, s201_28, s201_29, s201_30, s201_31, s201_34, s201_37, s201_40, s201_41, oB_some, cl2_i, cl2_r, cl2_l, cl2_u, cl2_s, wd_0, wd_i, wd_r, wd_l, wd_f, ct_i, ct_r, ct_n, ct_f, rf_s, rf_n, tl_s, tl_n, true_and, and_true, eq_self, and_self, Nat.reduceAdd, Nat.reduceLeDiff, Nat.zero_le, Nat.reduceEqDiff, or_true, true_or, false_or, or_false, if_true, if_false, gI_0, gI_1, gI_2, gI_3, gI_4, gI_5, gI_6, gI_7, gI_8, gI_9, gI_10, gI_11, gI_12, gI_13, gI_14, gI_15, gL_0, gL_1, gL_2, gL_3, gL_4, gL_5, gL_6, gL_7, gL_8, gL_9, gL_10, gL_11, gL_12, gL_13, gL_14, gL_15, gA_0, gA_1, gA_2, gA_3, gA_4, gA_5, gA_6, gA_7, gA_8, gA_9, gA_10, gA_11, gA_12, gA_13, gA_14, gA_15, p1_0, p1_1, p1_2, p1_3, p1_4, p1_5, p1_6, p1_7, p1_8, p1_9, p1_10, p1_11, p1_12, p1_13, p1_14, p1_15, p2_0, p2_1, p2_2, p2_3, p2_4, p2_5, p2_6, p2_7, p2_8, p2_9, p2_10, p2_11, p2_12, p2_13, p2_14, p2_15, b01_ok, b_ft, b_tf, b01_e0, b01_e1, lgc_0, not_true_eq_false, not_false_eq_true, K, w5, Int32.le_refl]
      have kk := k h1 f1 q1.k
      rw [← e1] at kk
      exact kk
    | succ n ih =>
      intro i h1 T1 hi f1 q1 g1 l1 n1 y1 e1
      obtain ⟨w5, w3, w4⟩ := R.fq f1.fq
      have K := q1.k
      unfold MK at K
      obtain ⟨w6, w7⟩ := w4 i (by omega)
      have gn := g1.n
      have p6 : p < 6 := by omega
      have p31 : p < 2 ^ 31 := by omega
      have i31 : i < 2 ^ 31 := by omega
      have i12 : i < 12 := by omega
      have z : ¬ nI len ≤ nI i := nI_ge (by omega) (by omega)
      have lb := nb_le (vw T1 p)
      rw [goR_s] at e1
      rw [s201_2]
      simp only [s201_0, s201_1, s201_3, s201_4, s201_7, s201_10, s201_11, s201_14, s201_15, s201_16, s201_19, s201_20, s201_23, s201_24, s201_25, s201_28, s201_29, s201_30, s201_31, s201_34, s201_37, s201_40, s201_41, oB_some, cl2_i, cl2_r, cl2_l, cl2_u, cl2_s, wd_0, wd_i, wd_r, wd_l, wd_f, ct_i, ct_r, ct_n, ct_f, rf_s, rf_n, tl_s, tl_n, true_and, and_true, eq_self, and_self, Nat.reduceAdd, Nat.reduceLeDiff, Nat.zero_le, Nat.reduceEqDiff, or_true, true_or, false_or, or_false, if_true, if_false, gI_0, gI_1, gI_2, gI_3, gI_4, gI_5, gI_6, gI_7, gI_8, gI_9, gI_10, gI_11, gI_12, gI_13, gI_14, gI_15, gL_0, gL_1, gL_2, gL_3, gL_4, gL_5, gL_6, gL_7, gL_8, gL_9, gL_10, gL_11, gL_12, gL_13, gL_14, gL_15, gA_0, gA_1, gA_2, gA_3, gA_4, gA_5, gA_6, gA_7, gA_8, gA_9, gA_10, gA_11, gA_12, gA_13, gA_14, gA_15, p1_0, p1_1, p1_2, p1_3, p1_4, p1_5, p1_6, p1_7, p1_8, p1_9, p1_10, p1_11, p1_12, p1_13, p1_14, p1_15, p2_0, p2_1, p2_2, p2_3, p2_4, p2_5, p2_6, p2_7, p2_8, p2_9, p2_10, p2_11, p2_12, p2_13, p2_14, p2_15, b01_ok, b_ft, b_tf, b01_e0, b01_e1, lgc_0, not_true_eq_false, not_false_eq_true, K, w5, z, w6, ix_nI i31, nI_pos' i31, i12, (q1.at (show p < vn T1 by omega)).2.2.2.1, ix_nI p31, nI_pos' p31, p6, m_bits, eqP (show nb (vw T1 p) < 2 ^ 31 by omega) (show r i < 2 ^ 31 by omega)]
      by_cases e : r i = nb (vw T1 p)
      · rw [if_pos e.symm]
        rw [if_pos e] at e1
        refine m_goesDay q1 g1 l1 (by decide) (by omega) fun h2 f2 q2 => ?_
        have k1 := day1_keep (ink := 0) (dm := false) (sh := false) g1 (by omega)
        simp only [s201_0, s201_1, s201_3, s201_4, s201_7, s201_10, s201_11, s201_14, s201_15, s201_16, s201_19, s201_20, s201_23, s201_24, s201_25, s201_28, s201_29, s201_30, s201_31, s201_34, s201_37, s201_40, s201_41, oB_some, cl2_i, cl2_r, cl2_l, cl2_u, cl2_s, wd_0, wd_i, wd_r, wd_l, wd_f, ct_i, ct_r, ct_n, ct_f, rf_s, rf_n, tl_s, tl_n, true_and, and_true, eq_self, and_self, Nat.reduceAdd, Nat.reduceLeDiff, Nat.zero_le, Nat.reduceEqDiff, or_true, true_or, false_or, or_false, if_true, if_false, gI_0, gI_1, gI_2, gI_3, gI_4, gI_5, gI_6, gI_7, gI_8, gI_9, gI_10, gI_11, gI_12, gI_13, gI_14, gI_15, gL_0, gL_1, gL_2, gL_3, gL_4, gL_5, gL_6, gL_7, gL_8, gL_9, gL_10, gL_11, gL_12, gL_13, gL_14, gL_15, gA_0, gA_1, gA_2, gA_3, gA_4, gA_5, gA_6, gA_7, gA_8, gA_9, gA_10, gA_11, gA_12, gA_13, gA_14, gA_15, p1_0, p1_1, p1_2, p1_3, p1_4, p1_5, p1_6, p1_7, p1_8, p1_9, p1_10, p1_11, p1_12, p1_13, p1_14, p1_15, p2_0, p2_1, p2_2, p2_3, p2_4, p2_5, p2_6, p2_7, p2_8, p2_9, p2_10, p2_11, p2_12, p2_13, p2_14, p2_15, b01_ok, b_ft, b_tf, b01_e0, b01_e1, lgc_0, not_true_eq_false, not_false_eq_true, nI_1]
        exact ih (i + 1) h2 _ (by omega) (f1.tr f2) q2 k1.1 (l1.kept f2) (k1.2.1.trans n1) (by rw [k1.2.2]; omega) e1
      · rw [if_neg (fun c => e c.symm)]
        rw [if_neg e] at e1
        have kk := k h1 f1 q1.k
        rw [← e1] at kk
        exact kk
  simp only [e201, s201_0, s201_1, oB_some, cl2_i, cl2_r, cl2_l, cl2_u, cl2_s, wd_0, wd_i, wd_r, wd_l, wd_f, ct_i, ct_r, ct_n, ct_f, rf_s, rf_n, tl_s, tl_n, true_and, and_true, eq_self, and_self, Nat.reduceAdd, Nat.reduceLeDiff, Nat.zero_le, Nat.reduceEqDiff, or_true, true_or, false_or, or_false, if_true, if_false, gI_0, gI_1, gI_2, gI_3, gI_4, gI_5, gI_6, gI_7, gI_8, gI_9, gI_10, gI_11, gI_12, gI_13, gI_14, gI_15, gL_0, gL_1, gL_2, gL_3, gL_4, gL_5, gL_6, gL_7, gL_8, gL_9, gL_10, gL_11, gL_12, gL_13, gL_14, gL_15, gA_0, gA_1, gA_2, gA_3, gA_4, gA_5, gA_6, gA_7, gA_8, gA_9, gA_10, gA_11, gA_12, gA_13, gA_14, gA_15, p1_0, p1_1, p1_2, p1_3, p1_4, p1_5, p1_6, p1_7, p1_8, p1_9, p1_10, p1_11, p1_12, p1_13, p1_14, p1_15, p2_0, p2_1, p2_2, p2_3, p2_4, p2_5, p2_6, p2_7, p2_8, p2_9, p2_10, p2_11, p2_12, p2_13, p2_14, p2_15, b01_ok, b_ft, b_tf, b01_e0, b01_e1, lgc_0, not_true_eq_false, not_false_eq_true]
  exact loop len 0 h S (by omega) FD.rf q g f rfl (by have := R.2.1; omega) rfl
theorem lN_z {x : Nat} (hx : x < 2 ^ 40) : (lN x = 0) = (x = 0) := by
  apply propext
  constructor
  · intro e
    have := congrArg Int64.toBitVec e
    have e2 : (BitVec.ofNat 64 x).toNat = (BitVec.ofNat 64 0).toNat := congrArg BitVec.toNat this
    rw [BitVec.toNat_ofNat, BitVec.toNat_ofNat, Nat.mod_eq_of_lt (by omega)] at e2
    exact e2
  · intro e
    rw [e]
    rfl
set_option maxHeartbeats 4000000 in
theorem m_divisor {d : Nat} {Q : PQ} {h : HP} {a b : Nat} (ha : a < 2 ^ 40) (hb : b < 2 ^ 40) : Ev (d + 1) 217 [.long (lN a), .long (lN b)] h Q = Q (some (.long (lN (Nat.gcd a b)))) h := by
  have loop : ∀ (y x : Nat) (z z2 : Slot), x < 2 ^ 40 → y < 2 ^ 40 →
      WP d 217 Q (6, [.val (.long (lN a)), .second, .val (.long (lN b)), .second, .val (.long (lN x)), .second, .val (.long (lN y)), .second, z, z2], [], h, 0, 0) = Q (some (.long (lN (Nat.gcd x y)))) h := by
    intro y
    induction y using Nat.strongRecOn with
    | ind y ih =>
      intro x z z2 hx hy
      by_cases y0 : y = 0
      · subst y0
        rw [s217_6]
        simp only [s217_8, s217_9, s217_10, s217_13, s217_15, s217_17, s217_18, s217_20, s217_22, s217_24, s217_26, s217_28, s217_31, s217_33, oB_some, cl2_i, cl2_r, cl2_l, cl2_u, cl2_s, wd_0, wd_i, wd_r, wd_l, wd_f, ct_i, ct_r, ct_n, ct_f, rf_s, rf_n, tl_s, tl_n, true_and, and_true, eq_self, and_self, Nat.reduceAdd, Nat.reduceLeDiff, Nat.zero_le, Nat.reduceEqDiff, or_true, true_or, false_or, or_false, if_true, if_false, gI_0, gI_1, gI_2, gI_3, gI_4, gI_5, gI_6, gI_7, gI_8, gI_9, gI_10, gI_11, gI_12, gI_13, gI_14, gI_15, gL_0, gL_1, gL_2, gL_3, gL_4, gL_5, gL_6, gL_7, gL_8, gL_9, gL_10, gL_11, gL_12, gL_13, gL_14, gL_15, gA_0, gA_1, gA_2, gA_3, gA_4, gA_5, gA_6, gA_7, gA_8, gA_9, gA_10, gA_11, gA_12, gA_13, gA_14, gA_15, p1_0, p1_1, p1_2, p1_3, p1_4, p1_5, p1_6, p1_7, p1_8, p1_9, p1_10, p1_11, p1_12, p1_13, p1_14, p1_15, p2_0, p2_1, p2_2, p2_3, p2_4, p2_5, p2_6, p2_7, p2_8, p2_9, p2_10, p2_11, p2_12, p2_13, p2_14, p2_15, b01_ok, b_ft, b_tf, b01_e0, b01_e1, lgc_0, not_true_eq_false, not_false_eq_true, lN_z (show 0 < 2 ^ 40 by decide), Nat.gcd_zero_right, not_true_eq_false]
      · have yp : 0 < y := by omega
        have m1 := Nat.mod_lt x yp
        have e1 : Nat.gcd x y = Nat.gcd y (x % y) := by rw [Nat.gcd_comm x y, Nat.gcd_rec y x, Nat.gcd_comm]
        rw [s217_6]
        simp only [s217_8, s217_9, s217_10, s217_13, s217_15, s217_17, s217_18, s217_20, s217_22, s217_24, s217_26, s217_28, s217_31, s217_33, oB_some, cl2_i, cl2_r, cl2_l, cl2_u, cl2_s, wd_0, wd_i, wd_r, wd_l, wd_f, ct_i, ct_r, ct_n, ct_f, rf_s, rf_n, tl_s, tl_n, true_and, and_true, eq_self, and_self, Nat.reduceAdd, Nat.reduceLeDiff, Nat.zero_le, Nat.reduceEqDiff, or_true, true_or, false_or, or_false, if_true, if_false, gI_0, gI_1, gI_2, gI_3, gI_4, gI_5, gI_6, gI_7, gI_8, gI_9, gI_10, gI_11, gI_12, gI_13, gI_14, gI_15, gL_0, gL_1, gL_2, gL_3, gL_4, gL_5, gL_6, gL_7, gL_8, gL_9, gL_10, gL_11, gL_12, gL_13, gL_14, gL_15, gA_0, gA_1, gA_2, gA_3, gA_4, gA_5, gA_6, gA_7, gA_8, gA_9, gA_10, gA_11, gA_12, gA_13, gA_14, gA_15, p1_0, p1_1, p1_2, p1_3, p1_4, p1_5, p1_6, p1_7, p1_8, p1_9, p1_10, p1_11, p1_12, p1_13, p1_14, p1_15, p2_0, p2_1, p2_2, p2_3, p2_4, p2_5, p2_6, p2_7, p2_8, p2_9, p2_10, p2_11, p2_12, p2_13, p2_14, p2_15, b01_ok, b_ft, b_tf, b01_e0, b01_e1, lgc_0, not_true_eq_false, not_false_eq_true, lN_z hy, y0, pk_lRem (a := x) (b := y) (by omega) yp (by omega), not_false_eq_true]
        rw [e1]
        exact ih (x % y) m1 y _ _ hy (by omega)
  simp only [e217, s217_0, s217_1, s217_3, s217_4, oB_some, cl2_i, cl2_r, cl2_l, cl2_u, cl2_s, wd_0, wd_i, wd_r, wd_l, wd_f, ct_i, ct_r, ct_n, ct_f, rf_s, rf_n, tl_s, tl_n, true_and, and_true, eq_self, and_self, Nat.reduceAdd, Nat.reduceLeDiff, Nat.zero_le, Nat.reduceEqDiff, or_true, true_or, false_or, or_false, if_true, if_false, gI_0, gI_1, gI_2, gI_3, gI_4, gI_5, gI_6, gI_7, gI_8, gI_9, gI_10, gI_11, gI_12, gI_13, gI_14, gI_15, gL_0, gL_1, gL_2, gL_3, gL_4, gL_5, gL_6, gL_7, gL_8, gL_9, gL_10, gL_11, gL_12, gL_13, gL_14, gL_15, gA_0, gA_1, gA_2, gA_3, gA_4, gA_5, gA_6, gA_7, gA_8, gA_9, gA_10, gA_11, gA_12, gA_13, gA_14, gA_15, p1_0, p1_1, p1_2, p1_3, p1_4, p1_5, p1_6, p1_7, p1_8, p1_9, p1_10, p1_11, p1_12, p1_13, p1_14, p1_15, p2_0, p2_1, p2_2, p2_3, p2_4, p2_5, p2_6, p2_7, p2_8, p2_9, p2_10, p2_11, p2_12, p2_13, p2_14, p2_15, b01_ok, b_ft, b_tf, b01_e0, b01_e1, lgc_0, not_true_eq_false, not_false_eq_true]
  exact loop b a _ _ ha hb
theorem fracN_b {a b : Nat} {part : Int32} (hb : 0 < b) : fracN a b part = (if part = 0 then a else b) / Nat.gcd a b := by
  unfold fracN
  by_cases a0 : a = 0
  · rw [if_pos (Or.inl a0), a0, Nat.gcd_zero_left]
    by_cases p : part = 0
    · rw [if_pos p, if_pos p, Nat.zero_div]
    · rw [if_neg p, if_neg p, Nat.div_self hb]
  · rw [if_neg (fun c => c.elim a0 (by omega))]
theorem m_partOf {d : Nat} {Q : PQ} {h : HP} {a b : Nat} {part : Int32} (ha : a < 2 ^ 40) (hb : b < 2 ^ 40) (h0 : 0 < b) : Ev (d + 2) 216 [.long (lN a), .long (lN b), .int part] h Q = Q (some (.long (lN (fracN a b part)))) h := by
  have g1 : 0 < Nat.gcd a b := Nat.gcd_pos_of_pos_right a h0
  have g2 : Nat.gcd a b < 2 ^ 40 := by have := Nat.gcd_le_right a h0; omega
  have gz : ¬ Nat.gcd a b = 0 := by omega
  rw [fracN_b h0]
  by_cases p : part = 0
  · simp only [e216, s216_0, s216_2, s216_5, s216_6, s216_9, s216_10, s216_11, s216_12, s216_15, s216_16, oB_some, cl2_i, cl2_r, cl2_l, cl2_u, cl2_s, wd_0, wd_i, wd_r, wd_l, wd_f, ct_i, ct_r, ct_n, ct_f, rf_s, rf_n, tl_s, tl_n, true_and, and_true, eq_self, and_self, Nat.reduceAdd, Nat.reduceLeDiff, Nat.zero_le, Nat.reduceEqDiff, or_true, true_or, false_or, or_false, if_true, if_false, gI_0, gI_1, gI_2, gI_3, gI_4, gI_5, gI_6, gI_7, gI_8, gI_9, gI_10, gI_11, gI_12, gI_13, gI_14, gI_15, gL_0, gL_1, gL_2, gL_3, gL_4, gL_5, gL_6, gL_7, gL_8, gL_9, gL_10, gL_11, gL_12, gL_13, gL_14, gL_15, gA_0, gA_1, gA_2, gA_3, gA_4, gA_5, gA_6, gA_7, gA_8, gA_9, gA_10, gA_11, gA_12, gA_13, gA_14, gA_15, p1_0, p1_1, p1_2, p1_3, p1_4, p1_5, p1_6, p1_7, p1_8, p1_9, p1_10, p1_11, p1_12, p1_13, p1_14, p1_15, p2_0, p2_1, p2_2, p2_3, p2_4, p2_5, p2_6, p2_7, p2_8, p2_9, p2_10, p2_11, p2_12, p2_13, p2_14, p2_15, b01_ok, b_ft, b_tf, b01_e0, b01_e1, lgc_0, not_true_eq_false, not_false_eq_true, p, m_divisor ha hb, lN_z g2, gz, not_false_eq_true, not_true_eq_false, pk_lDiv (a := a) (b := Nat.gcd a b) (by omega) g1 (by omega)]
  · simp only [e216, s216_0, s216_2, s216_5, s216_6, s216_9, s216_10, s216_11, s216_12, s216_15, s216_16, oB_some, cl2_i, cl2_r, cl2_l, cl2_u, cl2_s, wd_0, wd_i, wd_r, wd_l, wd_f, ct_i, ct_r, ct_n, ct_f, rf_s, rf_n, tl_s, tl_n, true_and, and_true, eq_self, and_self, Nat.reduceAdd, Nat.reduceLeDiff, Nat.zero_le, Nat.reduceEqDiff, or_true, true_or, false_or, or_false, if_true, if_false, gI_0, gI_1, gI_2, gI_3, gI_4, gI_5, gI_6, gI_7, gI_8, gI_9, gI_10, gI_11, gI_12, gI_13, gI_14, gI_15, gL_0, gL_1, gL_2, gL_3, gL_4, gL_5, gL_6, gL_7, gL_8, gL_9, gL_10, gL_11, gL_12, gL_13, gL_14, gL_15, gA_0, gA_1, gA_2, gA_3, gA_4, gA_5, gA_6, gA_7, gA_8, gA_9, gA_10, gA_11, gA_12, gA_13, gA_14, gA_15, p1_0, p1_1, p1_2, p1_3, p1_4, p1_5, p1_6, p1_7, p1_8, p1_9, p1_10, p1_11, p1_12, p1_13, p1_14, p1_15, p2_0, p2_1, p2_2, p2_3, p2_4, p2_5, p2_6, p2_7, p2_8, p2_9, p2_10, p2_11, p2_12, p2_13, p2_14, p2_15, b01_ok, b_ft, b_tf, b01_e0, b01_e1, lgc_0, not_true_eq_false, not_false_eq_true, p, m_divisor ha hb, lN_z g2, gz, not_false_eq_true, not_true_eq_false, pk_lDiv (a := b) (b := Nat.gcd a b) (by omega) g1 (by omega)]
theorem m_draw {d n : Nat} {Q : PQ} {h : HP} {m : Nat} {z : Int32} (hk : hkd h m = 16) (hz : hI h m 42 = z) (h0 : 0 < n) (hn : n < 100) : Ev (d + 1) 263 [.ref m, .int (nI n)] h Q = Q (some (.int (nI (drawN n (nxS z))))) (sI h m 42 (nxS z)) := by
  have z2 : ¬ nI n = 0 := nI_ne0 h0 (by omega)
  have z3 : ¬ (65536 : Int32) = 0 := by decide
  have e : z * 1103515245 + 12345 = nxS z := rfl
  have r : hI (sI h m 42 (nxS z)) m 42 = nxS z := by rw [hI_sI, if_pos ⟨rfl, rfl⟩]
  simp only [e263, s263_0, s263_1, s263_2, s263_5, s263_8, s263_9, s263_12, s263_13, s263_16, s263_17, s263_20, s263_23, s263_24, s263_27, s263_28, s263_29, s263_30, oB_some, cl2_i, cl2_r, cl2_l, cl2_u, cl2_s, wd_0, wd_i, wd_r, wd_l, wd_f, ct_i, ct_r, ct_n, ct_f, rf_s, rf_n, tl_s, tl_n, true_and, and_true, eq_self, and_self, Nat.reduceAdd, Nat.reduceLeDiff, Nat.zero_le, Nat.reduceEqDiff, or_true, true_or, false_or, or_false, if_true, if_false, gI_0, gI_1, gI_2, gI_3, gI_4, gI_5, gI_6, gI_7, gI_8, gI_9, gI_10, gI_11, gI_12, gI_13, gI_14, gI_15, gL_0, gL_1, gL_2, gL_3, gL_4, gL_5, gL_6, gL_7, gL_8, gL_9, gL_10, gL_11, gL_12, gL_13, gL_14, gL_15, gA_0, gA_1, gA_2, gA_3, gA_4, gA_5, gA_6, gA_7, gA_8, gA_9, gA_10, gA_11, gA_12, gA_13, gA_14, gA_15, p1_0, p1_1, p1_2, p1_3, p1_4, p1_5, p1_6, p1_7, p1_8, p1_9, p1_10, p1_11, p1_12, p1_13, p1_14, p1_15, p2_0, p2_1, p2_2, p2_3, p2_4, p2_5, p2_6, p2_7, p2_8, p2_9, p2_10, p2_11, p2_12, p2_13, p2_14, p2_15, b01_ok, b_ft, b_tf, b01_e0, b01_e1, lgc_0, not_true_eq_false, not_false_eq_true, z_hkd_sI, z_hln_sI, z_hL_sI, z_hR_sI, z_hnx_sI, z_hkd_sL, z_hln_sL, z_hI_sL, z_hR_sL, z_hnx_sL, z_hkd_sR, z_hln_sR, z_hI_sR, z_hL_sR, z_hnx_sR, z_hkd_cI, z_hln_cI, z_hL_cI, z_hR_cI, z_hnx_cI, z_hkd_cLg, z_hln_cLg, z_hI_cLg, z_hR_cLg, z_hnx_cLg, hk, hz, e, r, z2, z3, draw_i (nxS z) h0 hn, not_false_eq_true]

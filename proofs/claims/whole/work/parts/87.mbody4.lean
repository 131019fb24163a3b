-- two, damp nights, games, rarest, share: the other side
def KX (m : Nat) (h h' : HP) : Prop := hI h' m 42 = hI h m 42 ∧ hI h' (m + 19) = hI h (m + 19)
theorem KX.tr {m : Nat} {h h1 h2 : HP} (a : KX m h h1) (b : KX m h1 h2) : KX m h h2 := ⟨b.1.trans a.1, b.2.trans a.2⟩
theorem FD.kx {m : Nat} {h h' : HP} (f : FD m h h') : KX m h h' := ⟨f.2.1 42 (by decide) (by decide), (f.1 (m + 19) (by omega)).1⟩
theorem m_mindsX {d : Nat} {Q : PQ} {h : HP} {m ink : Nat} {dm sh : Bool} {S : VS} (q : RM h m S) (g : Good S) (f : FMl h m ink dm sh)
    (k : ∀ h', FQ m h h' → KX m h h' → RM h' m S → FMl h' m ink dm sh → KP h' m 2 S → Q none h') : Ev (d + 3) 148 [.ref m] h Q := by
  have K := q.k
  unfold MK at K
  simp only [e148, s148_0, s148_1, s148_2, s148_3, s148_6, oB_some, cl2_i, cl2_r, cl2_l, cl2_u, cl2_s, wd_0, wd_i, wd_r, wd_l, wd_f, ct_i, ct_r, ct_n, ct_f, rf_s, rf_n, tl_s, tl_n, true_and, and_true, eq_self, and_self, Nat.reduceAdd, Nat.reduceLeDiff, Nat.zero_le, Nat.reduceEqDiff, or_true, true_or, false_or, or_false, if_true, if_false, gI_0, gI_1, gI_2, gI_3, gI_4, gI_5, gI_6, gI_7, gI_8, gI_9, gI_10, gI_11, gI_12, gI_13, gI_14, gI_15, gL_0, gL_1, gL_2, gL_3, gL_4, gL_5, gL_6, gL_7, gL_8, gL_9, gL_10, gL_11, gL_12, gL_13, gL_14, gL_15, gA_0, gA_1, gA_2, gA_3, gA_4, gA_5, gA_6, gA_7, gA_8, gA_9, gA_10, gA_11, gA_12, gA_13, gA_14, gA_15, p1_0, p1_1, p1_2, p1_3, p1_4, p1_5, p1_6, p1_7, p1_8, p1_9, p1_10, p1_11, p1_12, p1_13, p1_14, p1_15, p2_0, p2_1, p2_2, p2_3, p2_4, p2_5, p2_6, p2_7, p2_8, p2_9, p2_10, p2_11, p2_12, p2_13, p2_14, p2_15, b01_ok, b_ft, b_tf, b01_e0, b01_e1, lgc_0, not_true_eq_false, not_false_eq_true, K]
  refine m_allK (w := 2) q.k (by decide) fun h1 G => ?_
  simp only [s148_0, s148_1, s148_2, s148_3, s148_6, oB_some, cl2_i, cl2_r, cl2_l, cl2_u, cl2_s, wd_0, wd_i, wd_r, wd_l, wd_f, ct_i, ct_r, ct_n, ct_f, rf_s, rf_n, tl_s, tl_n, true_and, and_true, eq_self, and_self, Nat.reduceAdd, Nat.reduceLeDiff, Nat.zero_le, Nat.reduceEqDiff, or_true, true_or, false_or, or_false, if_true, if_false, gI_0, gI_1, gI_2, gI_3, gI_4, gI_5, gI_6, gI_7, gI_8, gI_9, gI_10, gI_11, gI_12, gI_13, gI_14, gI_15, gL_0, gL_1, gL_2, gL_3, gL_4, gL_5, gL_6, gL_7, gL_8, gL_9, gL_10, gL_11, gL_12, gL_13, gL_14, gL_15, gA_0, gA_1, gA_2, gA_3, gA_4, gA_5, gA_6, gA_7, gA_8, gA_9, gA_10, gA_11, gA_12, gA_13, gA_14, gA_15, p1_0, p1_1, p1_2, p1_3, p1_4, p1_5, p1_6, p1_7, p1_8, p1_9, p1_10, p1_11, p1_12, p1_13, p1_14, p1_15, p2_0, p2_1, p2_2, p2_3, p2_4, p2_5, p2_6, p2_7, p2_8, p2_9, p2_10, p2_11, p2_12, p2_13, p2_14, p2_15, b01_ok, b_ft, b_tf, b01_e0, b01_e1, lgc_0, not_true_eq_false, not_false_eq_true]
  exact k h1 (G.fq (Nat.le_refl _) (Nat.le_refl _)) ⟨G.2.2.2.1 42 (by decide) (by decide) (by decide), G.2.2.1 (m + 19) (by omega) (by omega)⟩ (PK.rm q G) (f.pk G) (PK.kp q g G)
theorem m_forgetsX {d : Nat} {Q : PQ} {h : HP} {m : Nat} {S : VS} (K0 : MK h m) (g : Good S) (p : KP h m 2 S)
    (k : ∀ h', FQ m h h' → KX m h h' → RM h' m S → FMl h' m 0 false false → Q none h') : Ev (d + 3) 149 [.ref m] h Q := by
  have K := K0
  unfold MK at K
  simp only [e149, s149_0, s149_1, s149_2, s149_3, oB_some, cl2_i, cl2_r, cl2_l, cl2_u, cl2_s, wd_0, wd_i, wd_r, wd_l, wd_f, ct_i, ct_r, ct_n, ct_f, rf_s, rf_n, tl_s, tl_n, true_and, and_true, eq_self, and_self, Nat.reduceAdd, Nat.reduceLeDiff, Nat.zero_le, Nat.reduceEqDiff, or_true, true_or, false_or, or_false, if_true, if_false, gI_0, gI_1, gI_2, gI_3, gI_4, gI_5, gI_6, gI_7, gI_8, gI_9, gI_10, gI_11, gI_12, gI_13, gI_14, gI_15, gL_0, gL_1, gL_2, gL_3, gL_4, gL_5, gL_6, gL_7, gL_8, gL_9, gL_10, gL_11, gL_12, gL_13, gL_14, gL_15, gA_0, gA_1, gA_2, gA_3, gA_4, gA_5, gA_6, gA_7, gA_8, gA_9, gA_10, gA_11, gA_12, gA_13, gA_14, gA_15, p1_0, p1_1, p1_2, p1_3, p1_4, p1_5, p1_6, p1_7, p1_8, p1_9, p1_10, p1_11, p1_12, p1_13, p1_14, p1_15, p2_0, p2_1, p2_2, p2_3, p2_4, p2_5, p2_6, p2_7, p2_8, p2_9, p2_10, p2_11, p2_12, p2_13, p2_14, p2_15, b01_ok, b_ft, b_tf, b01_e0, b01_e1, lgc_0, not_true_eq_false, not_false_eq_true, K]
  refine m_allR (w := 2) K0 (by decide) fun h1 G => ?_
  have q1 := PR.rm K0 p g G
  have K1 := q1.k
  unfold MK at K1
  simp only [s149_6, s149_7, s149_8, s149_11, s149_12, s149_13, s149_16, s149_17, s149_18, s149_21, oB_some, cl2_i, cl2_r, cl2_l, cl2_u, cl2_s, wd_0, wd_i, wd_r, wd_l, wd_f, ct_i, ct_r, ct_n, ct_f, rf_s, rf_n, tl_s, tl_n, true_and, and_true, eq_self, and_self, Nat.reduceAdd, Nat.reduceLeDiff, Nat.zero_le, Nat.reduceEqDiff, or_true, true_or, false_or, or_false, if_true, if_false, gI_0, gI_1, gI_2, gI_3, gI_4, gI_5, gI_6, gI_7, gI_8, gI_9, gI_10, gI_11, gI_12, gI_13, gI_14, gI_15, gL_0, gL_1, gL_2, gL_3, gL_4, gL_5, gL_6, gL_7, gL_8, gL_9, gL_10, gL_11, gL_12, gL_13, gL_14, gL_15, gA_0, gA_1, gA_2, gA_3, gA_4, gA_5, gA_6, gA_7, gA_8, gA_9, gA_10, gA_11, gA_12, gA_13, gA_14, gA_15, p1_0, p1_1, p1_2, p1_3, p1_4, p1_5, p1_6, p1_7, p1_8, p1_9, p1_10, p1_11, p1_12, p1_13, p1_14, p1_15, p2_0, p2_1, p2_2, p2_3, p2_4, p2_5, p2_6, p2_7, p2_8, p2_9, p2_10, p2_11, p2_12, p2_13, p2_14, p2_15, b01_ok, b_ft, b_tf, b01_e0, b01_e1, lgc_0, not_true_eq_false, not_false_eq_true, z_hkd_sI, z_hln_sI, z_hL_sI, z_hR_sI, z_hnx_sI, z_hkd_sL, z_hln_sL, z_hI_sL, z_hR_sL, z_hnx_sL, z_hkd_sR, z_hln_sR, z_hI_sR, z_hL_sR, z_hnx_sR, z_hkd_cI, z_hln_cI, z_hL_cI, z_hR_cI, z_hnx_cI, z_hkd_cLg, z_hln_cLg, z_hI_cLg, z_hR_cLg, z_hnx_cLg, K1]
  refine k _ (((G.fq.sI (Or.inl ⟨rfl, by omega⟩)).sI (Or.inl ⟨rfl, by omega⟩)).sI (Or.inl ⟨rfl, by omega⟩)) ⟨?_, ?_⟩ (RM_i (RM_i (RM_i q1 (by decide)) (by decide)) (by decide)) ?_
  · rw [hI_sI, if_neg (by omega), hI_sI, if_neg (by omega), hI_sI, if_neg (by omega)]
    exact G.2.2.2.1 42 (by decide) (by decide) (by decide) (by decide)
  · rw [hI_sI_ne (by omega), hI_sI_ne (by omega), hI_sI_ne (by omega)]
    exact G.2.2.1 (m + 19) (by omega)
  · unfold FMl
    refine ⟨?_, ?_, ?_⟩
    · rw [hI_sI, if_neg (by omega), hI_sI, if_neg (by omega), hI_sI, if_pos ⟨rfl, rfl⟩]; rfl
    · rw [hI_sI, if_pos ⟨rfl, rfl⟩]; rfl
    · rw [hI_sI, if_neg (by omega), hI_sI, if_pos ⟨rfl, rfl⟩]; rfl
theorem mul2 (x : Nat) : (2 : Int32) * nI x = nI (2 * x) := pk_mul 2 x
theorem zor (x : Int32) : 0 ||| x = x := Int32.zero_or
set_option maxHeartbeats 8000000 in
theorem m_findEnds {d a b n : Nat} {Q : PQ} {h : HP} {m : Nat} {S : VS} (M : MO h m S) (g : Good S) (hy : vy S ≤ 999) (hn : n ≤ 30) (ha : a < vn S) (hb : b < vn S)
    (k : ∀ h', FQ m h h' → MO h' m S → (∀ c, c < 4 → hI h' (m + 19) (2 * c) = gnI S (dayN (inkset a b c) false false n S) a ∧ hI h' (m + 19) (2 * c + 1) = gnI S (dayN (inkset a b c) false false n S) b) → Q none h') : Ev (d + 8) 207 [.ref m, .int (nI a), .int (nI b), .int (nI n)] h Q := by
  have gn := g.n
  have a6 : a < 6 := by omega
  have b6 : b < 6 := by omega
  have a31 : a < 2 ^ 31 := by omega
  have b31 : b < 2 ^ 31 := by omega
  have loop : ∀ (r c : Nat) (h1 : HP) (y1 y2 y3 y4 : Slot), c + r = 4 → FQ m h h1 → MO h1 m S → (∀ j, j < c → hI h1 (m + 19) (2 * j) = gnI S (dayN (inkset a b j) false false n S) a ∧ hI h1 (m + 19) (2 * j + 1) = gnI S (dayN (inkset a b j) false false n S) b) →
      WP (d + 7) 207 Q (3, [.val (.ref m), .val (.int (nI a)), .val (.int (nI b)), .val (.int (nI n)), .val (.int (nI c)), y1, y2, y3, y4], [], h1, 0, 0) := by
    intro r
    induction r with
    | zero =>
      intro c h1 y1 y2 y3 y4 hc f1 m1 hE
      obtain rfl : c = 4 := by omega
      rw [s207_3]
      simp only [s207_5, s207_6, s207_113, oB_some, cl2_i, cl2_r, cl2_l, cl2_u, cl2_s, wd_0, wd_i, wd_r, wd_l, wd_f, ct_i, ct_r, ct_n, ct_f, rf_s, rf_n, tl_s, tl_n, true_and, and_true, eq_self, and_self, Nat.reduceAdd, Nat.reduceLeDiff, Nat.zero_le, Nat.reduceEqDiff, or_true, true_or, false_or, or_false, if_true, if_false, gI_0, gI_1, gI_2, gI_3, gI_4, gI_5, gI_6, gI_7, gI_8, gI_9, gI_10, gI_11, gI_12, gI_13, gI_14, gI_15, gL_0, gL_1, gL_2, gL_3, gL_4, gL_5, gL_6, gL_7, gL_8, gL_9, gL_10, gL_11, gL_12, gL_13, gL_14, gL_15, gA_0, gA_1, gA_2, gA_3, gA_4, gA_5, gA_6, gA_7, gA_8, gA_9, gA_10, gA_11, gA_12, gA_13, gA_14, gA_15, p1_0, p1_1, p1_2, p1_3, p1_4, p1_5, p1_6, p1_7, p1_8, p1_9, p1_10, p1_11, p1_12, p1_13, p1_14, p1_15, p2_0, p2_1, p2_2, p2_3, p2_4, p2_5, p2_6, p2_7, p2_8, p2_9, p2_10, p2_11, p2_12, p2_13, p2_14, p2_15, b01_ok, b_ft, b_tf, b01_e0, b01_e1, lgc_0, not_true_eq_false, not_false_eq_true]
      rw [if_pos (by decide)]
      exact k h1 f1 m1 hE
    | succ r ih =>
      intro c h1 y1 y2 y3 y4 hc f1 m1 hE
      have K1 := m1.1.k
      unfold MK at K1
      obtain ⟨c1, c2, c3, c4, c5, c6, c7⟩ := c4x c (by omega)
      have c44 : c < 4 := by omega
      have z : ¬ (4 : Int32) ≤ nI c := nI_ge (b := 4) (by omega) (by decide)
      have w1 := (m1.1.at ha).2.2.2.1
      have w2 := (m1.1.at hb).2.2.2.1
      rw [s207_3]
      simp only [s207_5, s207_6, s207_9, s207_10, s207_13, s207_14, s207_15, s207_17, s207_18, s207_21, s207_22, s207_23, s207_25, s207_26, oB_some, cl2_i, cl2_r, cl2_l, cl2_u, cl2_s, wd_0, wd_i, wd_r, wd_l, wd_f, ct_i, ct_r, ct_n, ct_f, rf_s, rf_n, tl_s, tl_n, true_and, and_true, eq_self, and_self, Nat.reduceAdd, Nat.reduceLeDiff, Nat.zero_le, Nat.reduceEqDiff, or_true, true_or, false_or, or_false, if_true, if_false, gI_0, gI_1, gI_2, gI_3, gI_4, gI_5, gI_6, gI_7, gI_8, gI_9, gI_10, gI_11, gI_12, gI_13, gI_14, gI_15, gL_0, gL_1, gL_2, gL_3, gL_4, gL_5, gL_6, gL_7, gL_8, gL_9, gL_10, gL_11, gL_12, gL_13, gL_14, gL_15, gA_0, gA_1, gA_2, gA_3, gA_4, gA_5, gA_6, gA_7, gA_8, gA_9, gA_10, gA_11, gA_12, gA_13, gA_14, gA_15, p1_0, p1_1, p1_2, p1_3, p1_4, p1_5, p1_6, p1_7, p1_8, p1_9, p1_10, p1_11, p1_12, p1_13, p1_14, p1_15, p2_0, p2_1, p2_2, p2_3, p2_4, p2_5, p2_6, p2_7, p2_8, p2_9, p2_10, p2_11, p2_12, p2_13, p2_14, p2_15, b01_ok, b_ft, b_tf, b01_e0, b01_e1, lgc_0, not_true_eq_false, not_false_eq_true, K1, z, w1, w2, ix_nI a31, nI_pos' a31, a6, ix_nI b31, nI_pos' b31, b6]
      refine m_mindsX m1.1 g m1.2 fun h2 f2 x2 q2 l2 p2 => ?_
      have K2 := q2.k
      unfold MK at K2
      have step : ∀ z, z = nI (inkset a b c) → WP (d + 7) 207 Q (61, [.val (.ref m), .val (.int (nI a)), .val (.int (nI b)), .val (.int (nI n)), .val (.int (nI c)), .val (.long (vw S a)), .second, .val (.long (vw S b)), .second], [.int z, .ref m], h2, 0, 0) := by
        rintro z rfl
        have q3 : RM (sI h2 m 19 (nI (inkset a b c))) m S := RM_i q2 (by decide)
        have x3 : KX m h2 (sI h2 m 19 (nI (inkset a b c))) := ⟨by rw [hI_sI, if_neg (by omega)], by rw [hI_sI_ne (by omega)]⟩
        have f3 : FQ m h (sI h2 m 19 (nI (inkset a b c))) := f1.tr (f2.sI (Or.inl ⟨rfl, by omega⟩))
        simp only [s207_61, s207_64, s207_65, s207_66, oB_some, cl2_i, cl2_r, cl2_l, cl2_u, cl2_s, wd_0, wd_i, wd_r, wd_l, wd_f, ct_i, ct_r, ct_n, ct_f, rf_s, rf_n, tl_s, tl_n, true_and, and_true, eq_self, and_self, Nat.reduceAdd, Nat.reduceLeDiff, Nat.zero_le, Nat.reduceEqDiff, or_true, true_or, false_or, or_false, if_true, if_false, gI_0, gI_1, gI_2, gI_3, gI_4, gI_5, gI_6, gI_7, gI_8, gI_9, gI_10, gI_11, gI_12, gI_13, gI_14, gI_15, gL_0, gL_1, gL_2, gL_3, gL_4, gL_5, gL_6, gL_7, gL_8, gL_9, gL_10, gL_11, gL_12, gL_13, gL_14, gL_15, gA_0, gA_1, gA_2, gA_3, gA_4, gA_5, gA_6, gA_7, gA_8, gA_9, gA_10, gA_11, gA_12, gA_13, gA_14, gA_15, p1_0, p1_1, p1_2, p1_3, p1_4, p1_5, p1_6, p1_7, p1_8, p1_9, p1_10, p1_11, p1_12, p1_13, p1_14, p1_15, p2_0, p2_1, p2_2, p2_3, p2_4, p2_5, p2_6, p2_7, p2_8, p2_9, p2_10, p2_11, p2_12, p2_13, p2_14, p2_15, b01_ok, b_ft, b_tf, b01_e0, b01_e1, lgc_0, not_true_eq_false, not_false_eq_true, z_hkd_sI, z_hln_sI, z_hL_sI, z_hR_sI, z_hnx_sI, z_hkd_sL, z_hln_sL, z_hI_sL, z_hR_sL, z_hnx_sL, z_hkd_sR, z_hln_sR, z_hI_sR, z_hL_sR, z_hnx_sR, z_hkd_cI, z_hln_cI, z_hL_cI, z_hR_cI, z_hnx_cI, z_hkd_cLg, z_hln_cLg, z_hI_cLg, z_hR_cLg, z_hnx_cLg, K2]
        refine m_goes (n := n) q3 g (FMl_ink l2) (inkset_lt a6 b6 c44) (show vy S + n < 2 ^ 20 by omega) fun h4 f4 q4 => ?_
        have K4 := q4.k
        unfold MK at K4
        have kp := dayN_keep (ink := inkset a b c) (dm := false) (sh := false) (n := n) g (by omega)
        have p4 := (p2.w g (a := m) (k := 19) (x := nI (inkset a b c)) (by omega)).fd g f4
        have i31 : 2 * c < 2 ^ 31 := by omega
        have i8 : 2 * c < 8 := by omega
        have j31 : 2 * c + 1 < 2 ^ 31 := by omega
        have j8 : 2 * c + 1 < 8 := by omega
        have q5 : RM (sI h4 (m + 19) (2 * c) (gnI S (dayN (inkset a b c) false false n S) a)) m (dayN (inkset a b c) false false n S) := q4.far (by omega)
        have K5 := q5.k
        unfold MK at K5
        simp only [s207_69, s207_70, s207_73, s207_74, s207_76, s207_77, s207_78, s207_79, s207_81, s207_84, s207_85, s207_86, s207_89, s207_90, s207_92, s207_93, s207_94, s207_95, s207_96, s207_97, s207_99, s207_102, oB_some, cl2_i, cl2_r, cl2_l, cl2_u, cl2_s, wd_0, wd_i, wd_r, wd_l, wd_f, ct_i, ct_r, ct_n, ct_f, rf_s, rf_n, tl_s, tl_n, true_and, and_true, eq_self, and_self, Nat.reduceAdd, Nat.reduceLeDiff, Nat.zero_le, Nat.reduceEqDiff, or_true, true_or, false_or, or_false, if_true, if_false, gI_0, gI_1, gI_2, gI_3, gI_4, gI_5, gI_6, gI_7, gI_8, gI_9, gI_10, gI_11, gI_12, gI_13, gI_14, gI_15, gL_0, gL_1, gL_2, gL_3, gL_4, gL_5, gL_6, gL_7, gL_8, gL_9, gL_10, gL_11, gL_12, gL_13, gL_14, gL_15, gA_0, gA_1, gA_2, gA_3, gA_4, gA_5, gA_6, gA_7, gA_8, gA_9, gA_10, gA_11, gA_12, gA_13, gA_14, gA_15, p1_0, p1_1, p1_2, p1_3, p1_4, p1_5, p1_6, p1_7, p1_8, p1_9, p1_10, p1_11, p1_12, p1_13, p1_14, p1_15, p2_0, p2_1, p2_2, p2_3, p2_4, p2_5, p2_6, p2_7, p2_8, p2_9, p2_10, p2_11, p2_12, p2_13, p2_14, p2_15, b01_ok, b_ft, b_tf, b01_e0, b01_e1, lgc_0, not_true_eq_false, not_false_eq_true, z_hkd_sI, z_hln_sI, z_hL_sI, z_hR_sI, z_hnx_sI, z_hkd_sL, z_hln_sL, z_hI_sL, z_hR_sL, z_hnx_sL, z_hkd_sR, z_hln_sR, z_hI_sR, z_hL_sR, z_hnx_sR, z_hkd_cI, z_hln_cI, z_hL_cI, z_hR_cI, z_hnx_cI, z_hkd_cLg, z_hln_cLg, z_hI_cLg, z_hR_cLg, z_hnx_cLg, K4, mul2, m_endFor q4 g kp.1 kp.2.1 (by rw [dayN_vr]) ha, ix_nI i31, nI_pos' i31, i8, m_endFor q5 g kp.1 kp.2.1 (by rw [dayN_vr]) hb, nI_1, ix_nI j31, nI_pos' j31, j8]
        have p6 := (p4.w g (a := m + 19) (k := 2 * c) (x := gnI S (dayN (inkset a b c) false false n S) a) (by omega)).w g (a := m + 19) (k := 2 * c + 1) (x := gnI S (dayN (inkset a b c) false false n S) b) (by omega)
        have q6 : RM (sI (sI h4 (m + 19) (2 * c) (gnI S (dayN (inkset a b c) false false n S) a)) (m + 19) (2 * c + 1) (gnI S (dayN (inkset a b c) false false n S) b)) m (dayN (inkset a b c) false false n S) := q5.far (by omega)
        have K6 := q6.k
        unfold MK at K6
        simp only [s207_103, s207_104, oB_some, cl2_i, cl2_r, cl2_l, cl2_u, cl2_s, wd_0, wd_i, wd_r, wd_l, wd_f, ct_i, ct_r, ct_n, ct_f, rf_s, rf_n, tl_s, tl_n, true_and, and_true, eq_self, and_self, Nat.reduceAdd, Nat.reduceLeDiff, Nat.zero_le, Nat.reduceEqDiff, or_true, true_or, false_or, or_false, if_true, if_false, gI_0, gI_1, gI_2, gI_3, gI_4, gI_5, gI_6, gI_7, gI_8, gI_9, gI_10, gI_11, gI_12, gI_13, gI_14, gI_15, gL_0, gL_1, gL_2, gL_3, gL_4, gL_5, gL_6, gL_7, gL_8, gL_9, gL_10, gL_11, gL_12, gL_13, gL_14, gL_15, gA_0, gA_1, gA_2, gA_3, gA_4, gA_5, gA_6, gA_7, gA_8, gA_9, gA_10, gA_11, gA_12, gA_13, gA_14, gA_15, p1_0, p1_1, p1_2, p1_3, p1_4, p1_5, p1_6, p1_7, p1_8, p1_9, p1_10, p1_11, p1_12, p1_13, p1_14, p1_15, p2_0, p2_1, p2_2, p2_3, p2_4, p2_5, p2_6, p2_7, p2_8, p2_9, p2_10, p2_11, p2_12, p2_13, p2_14, p2_15, b01_ok, b_ft, b_tf, b01_e0, b01_e1, lgc_0, not_true_eq_false, not_false_eq_true, z_hkd_sI, z_hln_sI, z_hL_sI, z_hR_sI, z_hnx_sI, z_hkd_sL, z_hln_sL, z_hI_sL, z_hR_sL, z_hnx_sL, z_hkd_sR, z_hln_sR, z_hI_sR, z_hL_sR, z_hnx_sR, z_hkd_cI, z_hln_cI, z_hL_cI, z_hR_cI, z_hnx_cI, z_hkd_cLg, z_hln_cLg, z_hI_cLg, z_hR_cLg, z_hnx_cLg, K4]
        refine m_forgetsX q6.k g p6 fun h7 f7 x7 q7 l7 => ?_
        simp only [s207_107, s207_110, oB_some, cl2_i, cl2_r, cl2_l, cl2_u, cl2_s, wd_0, wd_i, wd_r, wd_l, wd_f, ct_i, ct_r, ct_n, ct_f, rf_s, rf_n, tl_s, tl_n, true_and, and_true, eq_self, and_self, Nat.reduceAdd, Nat.reduceLeDiff, Nat.zero_le, Nat.reduceEqDiff, or_true, true_or, false_or, or_false, if_true, if_false, gI_0, gI_1, gI_2, gI_3, gI_4, gI_5, gI_6, gI_7, gI_8, gI_9, gI_10, gI_11, gI_12, gI_13, gI_14, gI_15, gL_0, gL_1, gL_2, gL_3, gL_4, gL_5, gL_6, gL_7, gL_8, gL_9, gL_10, gL_11, gL_12, gL_13, gL_14, gL_15, gA_0, gA_1, gA_2, gA_3, gA_4, gA_5, gA_6, gA_7, gA_8, gA_9, gA_10, gA_11, gA_12, gA_13, gA_14, gA_15, p1_0, p1_1, p1_2, p1_3, p1_4, p1_5, p1_6, p1_7, p1_8, p1_9, p1_10, p1_11, p1_12, p1_13, p1_14, p1_15, p2_0, p2_1, p2_2, p2_3, p2_4, p2_5, p2_6, p2_7, p2_8, p2_9, p2_10, p2_11, p2_12, p2_13, p2_14, p2_15, b01_ok, b_ft, b_tf, b01_e0, b01_e1, lgc_0, not_true_eq_false, not_false_eq_true, nI_1]
        refine ih (c + 1) h7 _ _ _ _ (by omega) (f3.tr (f4.fq.tr (FQ.tr ((FQ.rf.sI (Or.inr (Or.inr rfl))).sI (Or.inr (Or.inr rfl))) f7))) ⟨q7, l7⟩ fun j hj => ?_
        have old : hI h4 (m + 19) = hI h1 (m + 19) := (f4.kx.2).trans (x3.2.trans x2.2)
        rw [x7.2]
        by_cases e : j = c
        · subst e
          refine ⟨?_, ?_⟩
          · rw [hI_sI, if_neg (by omega), hI_sI, if_pos ⟨rfl, rfl⟩]
          · rw [hI_sI, if_pos ⟨rfl, rfl⟩]
        · have := hE j (by omega)
          refine ⟨?_, ?_⟩
          · rw [hI_sI, if_neg (by omega), hI_sI, if_neg (by omega), old]
            exact this.1
          · rw [hI_sI, if_neg (by omega), hI_sI, if_neg (by omega), old]
            exact this.2
      simp only [s207_29, s207_30, s207_32, s207_33, s207_34, s207_35, s207_38, s207_39, s207_40, s207_41, s207_44, s207_45, s207_47, s207_48, s207_49, s207_50, s207_53, s207_54, s207_55, s207_56, s207_59, s207_60, oB_some, cl2_i, cl2_r, cl2_l, cl2_u, cl2_s, wd_0, wd_i, wd_r, wd_l, wd_f, ct_i, ct_r, ct_n, ct_f, rf_s, rf_n, tl_s, tl_n, true_and, and_true, eq_self, and_self, Nat.reduceAdd, Nat.reduceLeDiff, Nat.zero_le, Nat.reduceEqDiff, or_true, true_or, false_or, or_false, if_true, if_false, gI_0, gI_1, gI_2, gI_3, gI_4, gI_5, gI_6, gI_7, gI_8, gI_9, gI_10, gI_11, gI_12, gI_13, gI_14, gI_15, gL_0, gL_1, gL_2, gL_3, gL_4, gL_5, gL_6, gL_7, gL_8, gL_9, gL_10, gL_11, gL_12, gL_13, gL_14, gL_15, gA_0, gA_1, gA_2, gA_3, gA_4, gA_5, gA_6, gA_7, gA_8, gA_9, gA_10, gA_11, gA_12, gA_13, gA_14, gA_15, p1_0, p1_1, p1_2, p1_3, p1_4, p1_5, p1_6, p1_7, p1_8, p1_9, p1_10, p1_11, p1_12, p1_13, p1_14, p1_15, p2_0, p2_1, p2_2, p2_3, p2_4, p2_5, p2_6, p2_7, p2_8, p2_9, p2_10, p2_11, p2_12, p2_13, p2_14, p2_15, b01_ok, b_ft, b_tf, b01_e0, b01_e1, lgc_0, not_true_eq_false, not_false_eq_true, K2, c5, c6, n2_0, not_false_eq_true, shl1 a (by omega), shl1 b (by omega), eq_l1 (show c / 2 < 2 ^ 31 by omega), eq_l1 (show c % 2 < 2 ^ 31 by omega), nI_or, or0, zor]
      unfold inkset at step
      by_cases e1 : c / 2 = 1
      · rw [if_neg (not_not_intro e1)]
        by_cases e2 : c % 2 = 1
        · rw [if_neg (not_not_intro e2)]
          exact step _ (by rw [e1, e2, Nat.one_mul, Nat.one_mul])
        · rw [if_pos e2]
          exact step _ (by rw [e1, show c % 2 = 0 by omega, Nat.one_mul, Nat.zero_mul, Nat.or_zero])
      · rw [if_pos e1]
        by_cases e2 : c % 2 = 1
        · rw [if_neg (not_not_intro e2)]
          exact step _ (by rw [show c / 2 = 0 by omega, e2, Nat.one_mul, Nat.zero_mul, Nat.zero_or])
        · rw [if_pos e2]
          exact step _ (by rw [show c / 2 = 0 by omega, show c % 2 = 0 by omega, Nat.zero_mul, Nat.zero_mul]; rfl)
  simp only [e207, s207_0, s207_1, oB_some, cl2_i, cl2_r, cl2_l, cl2_u, cl2_s, wd_0, wd_i, wd_r, wd_l, wd_f, ct_i, ct_r, ct_n, ct_f, rf_s, rf_n, tl_s, tl_n, true_and, and_true, eq_self, and_self, Nat.reduceAdd, Nat.reduceLeDiff, Nat.zero_le, Nat.reduceEqDiff, or_true, true_or, false_or, or_false, if_true, if_false, gI_0, gI_1, gI_2, gI_3, gI_4, gI_5, gI_6, gI_7, gI_8, gI_9, gI_10, gI_11, gI_12, gI_13, gI_14, gI_15, gL_0, gL_1, gL_2, gL_3, gL_4, gL_5, gL_6, gL_7, gL_8, gL_9, gL_10, gL_11, gL_12, gL_13, gL_14, gL_15, gA_0, gA_1, gA_2, gA_3, gA_4, gA_5, gA_6, gA_7, gA_8, gA_9, gA_10, gA_11, gA_12, gA_13, gA_14, gA_15, p1_0, p1_1, p1_2, p1_3, p1_4, p1_5, p1_6, p1_7, p1_8, p1_9, p1_10, p1_11, p1_12, p1_13, p1_14, p1_15, p2_0, p2_1, p2_2, p2_3, p2_4, p2_5, p2_6, p2_7, p2_8, p2_9, p2_10, p2_11, p2_12, p2_13, p2_14, p2_15, b01_ok, b_ft, b_tf, b01_e0, b01_e1, lgc_0, not_true_eq_false, not_false_eq_true]
  exact loop 4 0 h _ _ _ _ (by omega) FQ.rf M (fun j hj => by omega)
set_option maxHeartbeats 8000000 in
theorem b_two {d a b n : Nat} {Q : PQ} {h : HP} {m : Nat} {S : VS} (M : MO h m S) (g : Good S) (hy : vy S ≤ 999) (hn : n ≤ 30) (ha : a < vn S) (hb : b < vn S)
    (k : ∀ h', FQ m h h' → MO h' m S → Q (some (.int (oN (twoN S a b n)))) h') : WP (d + 8) 206 Q (46, [.val (.ref m), .val (.int (nI a)), .val (.int (nI b)), .val (.int (nI n)), .val (.int 0), .unset], [], h, 0, 0) := by
  have K := M.1.k
  unfold MK at K
  simp only [s206_46, s206_47, s206_48, s206_49, s206_50, oB_some, cl2_i, cl2_r, cl2_l, cl2_u, cl2_s, wd_0, wd_i, wd_r, wd_l, wd_f, ct_i, ct_r, ct_n, ct_f, rf_s, rf_n, tl_s, tl_n, true_and, and_true, eq_self, and_self, Nat.reduceAdd, Nat.reduceLeDiff, Nat.zero_le, Nat.reduceEqDiff, or_true, true_or, false_or, or_false, if_true, if_false, gI_0, gI_1, gI_2, gI_3, gI_4, gI_5, gI_6, gI_7, gI_8, gI_9, gI_10, gI_11, gI_12, gI_13, gI_14, gI_15, gL_0, gL_1, gL_2, gL_3, gL_4, gL_5, gL_6, gL_7, gL_8, gL_9, gL_10, gL_11, gL_12, gL_13, gL_14, gL_15, gA_0, gA_1, gA_2, gA_3, gA_4, gA_5, gA_6, gA_7, gA_8, gA_9, gA_10, gA_11, gA_12, gA_13, gA_14, gA_15, p1_0, p1_1, p1_2, p1_3, p1_4, p1_5, p1_6, p1_7, p1_8, p1_9, p1_10, p1_11, p1_12, p1_13, p1_14, p1_15, p2_0, p2_1, p2_2, p2_3, p2_4, p2_5, p2_6, p2_7, p2_8, p2_9, p2_10, p2_11, p2_12, p2_13, p2_14, p2_15, b01_ok, b_ft, b_tf, b01_e0, b01_e1, lgc_0, not_true_eq_false, not_false_eq_true, K]
  refine m_findEnds M g hy hn ha hb fun h1 f1 m1 hE => ?_
  have K1 := m1.1.k
  unfold MK at K1
  have kk := k h1 f1 m1
  unfold twoN at kk
  have sec : ∀ (G1 G2 : Nat → Int32) (r c : Nat), c + r = 4 → (∀ j, j < 4 → hI h1 (m + 19) (2 * j) = G1 j ∧ hI h1 (m + 19) (2 * j + 1) = G2 j) →
      (∀ o, findA (twoF G1 G2) r c = o → Q (some (.int (oN (o.map (fun c => c / 2 * 10 + c % 2))))) h1) →
      WP (d + 8) 206 Q (56, [.val (.ref m), .val (.int (nI a)), .val (.int (nI b)), .val (.int (nI n)), .val (.int 0), .val (.int (nI c))], [], h1, 0, 0) := by
    intro G1 G2 r
    induction r with
    | zero =>
      intro c hc hG kq
      obtain rfl : c = 4 := by omega
      rw [s206_56]
      simp only [s206_58, s206_59, s206_62, s206_63, s206_66, s206_67, s206_69, s206_70, s206_71, s206_72, s206_73, s206_74, s206_77, s206_78, s206_80, s206_81, s206_82, s206_85, s206_86, s206_89, s206_90, s206_92, s206_93, s206_94, s206_95, s206_96, s206_97, s206_98, s206_99, s206_102, s206_103, s206_105, s206_106, s206_107, s206_108, s206_109, s206_112, s206_114, s206_116, s206_117, s206_118, s206_119, s206_121, s206_122, s206_123, s206_124, s206_125, s206_128, s206_131, s206_133, oB_some, cl2_i, cl2_r, cl2_l, cl2_u, cl2_s, wd_0, wd_i, wd_r, wd_l, wd_f, ct_i, ct_r, ct_n, ct_f, rf_s, rf_n, tl_s, tl_n, true_and, and_true, eq_self, and_self, Nat.reduceAdd, Nat.reduceLeDiff, Nat.zero_le, Nat.reduceEqDiff, or_true, true_or, false_or, or_false, if_true, if_false, gI_0, gI_1, gI_2, gI_3, gI_4, gI_5, gI_6, gI_7, gI_8, gI_9, gI_10, gI_11, gI_12, gI_13, gI_14, gI_15, gL_0, gL_1, gL_2, gL_3, gL_4, gL_5, gL_6, gL_7, gL_8, gL_9, gL_10, gL_11, gL_12, gL_13, gL_14, gL_15, gA_0, gA_1, gA_2, gA_3, gA_4, gA_5, gA_6, gA_7, gA_8, gA_9, gA_10, gA_11, gA_12, gA_13, gA_14, gA_15, p1_0, p1_1, p1_2, p1_3, p1_4, p1_5, p1_6, p1_7, p1_8, p1_9, p1_10, p1_11, p1_12, p1_13, p1_14, p1_15, p2_0, p2_1, p2_2, p2_3, p2_4, p2_5, p2_6, p2_7, p2_8, p2_9, p2_10, p2_11, p2_12, p2_13, p2_14, p2_15, b01_ok, b_ft, b_tf, b01_e0, b01_e1, lgc_0, not_true_eq_false, not_false_eq_true]
      rw [if_pos (by decide)]
      exact kq none rfl
    | succ r ih =>
      intro c hc hG kq
      obtain ⟨c1, c2, c3, c4, c5, c6, c7⟩ := c4x c (by omega)
      have z : ¬ (4 : Int32) ≤ nI c := nI_ge (b := 4) (by omega) (by decide)
      have c44 : c < 4 := by omega
      have i31 : 2 * c < 2 ^ 31 := by omega
      have i8 : 2 * c < 8 := by omega
      have j31 : 2 * c + 1 < 2 ^ 31 := by omega
      have j8 : 2 * c + 1 < 8 := by omega
      have k31 : 2 * (c ^^^ 2) < 2 ^ 31 := by omega
      have k8_ : 2 * (c ^^^ 2) < 8 := by omega
      have l31 : 2 * (c ^^^ 1) + 1 < 2 ^ 31 := by omega
      have l8_ : 2 * (c ^^^ 1) + 1 < 8 := by omega
      rw [s206_56]
      simp only [s206_58, s206_59, s206_62, s206_63, s206_66, s206_67, s206_69, s206_70, s206_71, s206_72, s206_73, s206_74, s206_77, s206_78, s206_80, s206_81, s206_82, s206_85, s206_86, s206_89, s206_90, s206_92, s206_93, s206_94, s206_95, s206_96, s206_97, s206_98, s206_99, s206_102, s206_103, s206_105, s206_106, s206_107, s206_108, s206_109, s206_112, s206_114, s206_116, s206_117, s206_118, s206_119, s206_121, s206_122, s206_123, s206_124, s206_125, s206_128, s206_131, s206_133, oB_some, cl2_i, cl2_r, cl2_l, cl2_u, cl2_s, wd_0, wd_i, wd_r, wd_l, wd_f, ct_i, ct_r, ct_n, ct_f, rf_s, rf_n, tl_s, tl_n, true_and, and_true, eq_self, and_self, Nat.reduceAdd, Nat.reduceLeDiff, Nat.zero_le, Nat.reduceEqDiff, or_true, true_or, false_or, or_false, if_true, if_false, gI_0, gI_1, gI_2, gI_3, gI_4, gI_5, gI_6, gI_7, gI_8, gI_9, gI_10, gI_11, gI_12, gI_13, gI_14, gI_15, gL_0, gL_1, gL_2, gL_3, gL_4, gL_5, gL_6, gL_7, gL_8, gL_9, gL_10, gL_11, gL_12, gL_13, gL_14, gL_15, gA_0, gA_1, gA_2, gA_3, gA_4, gA_5, gA_6, gA_7, gA_8, gA_9, gA_10, gA_11, gA_12, gA_13, gA_14, gA_15, p1_0, p1_1, p1_2, p1_3, p1_4, p1_5, p1_6, p1_7, p1_8, p1_9, p1_10, p1_11, p1_12, p1_13, p1_14, p1_15, p2_0, p2_1, p2_2, p2_3, p2_4, p2_5, p2_6, p2_7, p2_8, p2_9, p2_10, p2_11, p2_12, p2_13, p2_14, p2_15, b01_ok, b_ft, b_tf, b01_e0, b01_e1, lgc_0, not_true_eq_false, not_false_eq_true, K1, z, c1, c2, c5, c6, mul2, nI_1, n2_0, ix_nI i31, nI_pos' i31, i8, ix_nI j31, nI_pos' j31, j8, ix_nI k31, nI_pos' k31, k8_, ix_nI l31, nI_pos' l31, l8_, (hG c c44).1, (hG c c44).2, (hG _ c3).1, (hG _ c4).2, mul10 (c / 2) (by omega), nI_add, not_false_eq_true]
      rw [findA_s] at kq
      by_cases z1 : G1 c < G1 (c ^^^ 2)
      · rw [if_pos z1]
        rw [if_neg (by unfold twoF; rw [decide_eq_false (fun q => Int32.not_le.mpr z1 q.1)]; decide)] at kq
        exact ih (c + 1) (by omega) hG kq
      · rw [if_neg z1]
        by_cases z2 : G2 c < G2 (c ^^^ 1)
        · rw [if_pos z2]
          rw [if_neg (by unfold twoF; rw [decide_eq_false (fun q => Int32.not_le.mpr z2 q.2)]; decide)] at kq
          exact ih (c + 1) (by omega) hG kq
        · rw [if_neg z2]
          have := kq (some c) (by rw [if_pos (by unfold twoF; exact decide_eq_true ⟨Int32.not_lt.mp z1, Int32.not_lt.mp z2⟩)])
          have e10 : 10 * (c / 2) + c % 2 = c / 2 * 10 + c % 2 := by rw [Nat.mul_comm]
          rw [e10]
          exact this
  simp only [s206_53, s206_54, oB_some, cl2_i, cl2_r, cl2_l, cl2_u, cl2_s, wd_0, wd_i, wd_r, wd_l, wd_f, ct_i, ct_r, ct_n, ct_f, rf_s, rf_n, tl_s, tl_n, true_and, and_true, eq_self, and_self, Nat.reduceAdd, Nat.reduceLeDiff, Nat.zero_le, Nat.reduceEqDiff, or_true, true_or, false_or, or_false, if_true, if_false, gI_0, gI_1, gI_2, gI_3, gI_4, gI_5, gI_6, gI_7, gI_8, gI_9, gI_10, gI_11, gI_12, gI_13, gI_14, gI_15, gL_0, gL_1, gL_2, gL_3, gL_4, gL_5, gL_6, gL_7, gL_8, gL_9, gL_10, gL_11, gL_12, gL_13, gL_14, gL_15, gA_0, gA_1, gA_2, gA_3, gA_4, gA_5, gA_6, gA_7, gA_8, gA_9, gA_10, gA_11, gA_12, gA_13, gA_14, gA_15, p1_0, p1_1, p1_2, p1_3, p1_4, p1_5, p1_6, p1_7, p1_8, p1_9, p1_10, p1_11, p1_12, p1_13, p1_14, p1_15, p2_0, p2_1, p2_2, p2_3, p2_4, p2_5, p2_6, p2_7, p2_8, p2_9, p2_10, p2_11, p2_12, p2_13, p2_14, p2_15, b01_ok, b_ft, b_tf, b01_e0, b01_e1, lgc_0, not_true_eq_false, not_false_eq_true]
  exact sec _ _ 4 0 (by omega) hE (fun o ho => by rw [ho] at kk; exact kk)
theorem hbT : ∀ b, b < 128 → ∀ i, i < 7 → hb (lN b) i = b.testBit i := by decide +kernel
def zc (b : Nat) (i : Nat) : Nat := sumN (fun j => if b.testBit j = true then 0 else 1) i
theorem zc_n : ∀ n, n ≤ 7 → ∀ b, b < 2 ^ n → zc b n = n - pc b := by decide +kernel
set_option maxHeartbeats 8000000 in
theorem b_damp {d p c n t : Nat} {w : Int32} {Q : PQ} {h : HP} {m : Nat} {S : VS} (M : MO h m S) (g : Good S) (hy : vy S ≤ 999) (hp : p < vn S) (hc : c < 40) (hn : n ≤ 7) (ht1 : 2 ≤ t) (ht : t ≤ 20)
    (k : ∀ h', FQ m h h' → MO h' m S → Q (some (.long (lN (fracN (waysN S p c n t) (t ^ n) w)))) h') : WP (d + 7) 214 Q (85, [.val (.ref m), .val (.int (nI p)), .val (.int (nI c)), .val (.int (nI n)), .val (.int (nI t)), .val (.int w), .val (.int 0), .unset, .unset, .unset, .unset, .unset, .unset, .unset, .unset], [], h, 0, 0) := by
  have gn := g.n
  have p6 : p < 6 := by omega
  have p31 : p < 2 ^ 31 := by omega
  have M128 : 2 ^ n ≤ 2 ^ 7 := Nat.pow_le_pow_right (by decide) hn
  have t31 : t < 2 ^ 31 := by omega
  have pt : nI t - 1 = nI (t - 1) := pk_sub (b := 1) (by omega)
  have down : ∀ (r i : Nat) (y1 y2 y3 : Slot), i + r = n →
      (∀ y1 y2 y3 y4, WP (d + 7) 214 Q (114, [.val (.ref m), .val (.int (nI p)), .val (.int (nI c)), .val (.int (nI n)), .val (.int (nI t)), .val (.int w), .val (.int 0), .val (.long 0), .second, .val (.long (lN (t ^ n))), .second, y1, y2, y3, y4], [], h, 0, 0)) →
      WP (d + 7) 214 Q (94, [.val (.ref m), .val (.int (nI p)), .val (.int (nI c)), .val (.int (nI n)), .val (.int (nI t)), .val (.int w), .val (.int 0), .val (.long 0), .second, .val (.long (lN (t ^ i))), .second, .val (.int (nI i)), y1, y2, y3], [], h, 0, 0) := by
    intro r
    induction r with
    | zero =>
      intro i y1 y2 y3 hi kk
      have hin : i = n := by omega
      rw [hin, s214_94]
      simp only [s214_96, s214_97, s214_100, s214_102, s214_104, s214_105, s214_106, s214_108, s214_111, oB_some, cl2_i, cl2_r, cl2_l, cl2_u, cl2_s, wd_0, wd_i, wd_r, wd_l, wd_f, ct_i, ct_r, ct_n, ct_f, rf_s, rf_n, tl_s, tl_n, true_and, and_true, eq_self, and_self, Nat.reduceAdd, Nat.reduceLeDiff, Nat.zero_le, Nat.reduceEqDiff, or_true, true_or, false_or, or_false, if_true, if_false, gI_0, gI_1, gI_2, gI_3, gI_4, gI_5, gI_6, gI_7, gI_8, gI_9, gI_10, gI_11, gI_12, gI_13, gI_14, gI_15, gL_0, gL_1, gL_2, gL_3, gL_4, gL_5, gL_6, gL_7, gL_8, gL_9, gL_10, gL_11, gL_12, gL_13, gL_14, gL_15, gA_0, gA_1, gA_2, gA_3, gA_4, gA_5, gA_6, gA_7, gA_8, gA_9, gA_10, gA_11, gA_12, gA_13, gA_14, gA_15, p1_0, p1_1, p1_2, p1_3, p1_4, p1_5, p1_6, p1_7, p1_8, p1_9, p1_10, p1_11, p1_12, p1_13, p1_14, p1_15, p2_0, p2_1, p2_2, p2_3, p2_4, p2_5, p2_6, p2_7, p2_8, p2_9, p2_10, p2_11, p2_12, p2_13, p2_14, p2_15, b01_ok, b_ft, b_tf, b01_e0, b01_e1, lgc_0, not_true_eq_false, not_false_eq_true, Int32.le_refl]
      exact kk _ _ _ _
    | succ r ih =>
      intro i y1 y2 y3 hi kk
      have z : ¬ nI n ≤ nI i := nI_ge (by omega) (by omega)
      have i1 := ih (i + 1) y1 y2 y3 (by omega) kk
      rw [Nat.pow_succ] at i1
      rw [s214_94]
      simp only [s214_96, s214_97, s214_100, s214_102, s214_104, s214_105, s214_106, s214_108, s214_111, oB_some, cl2_i, cl2_r, cl2_l, cl2_u, cl2_s, wd_0, wd_i, wd_r, wd_l, wd_f, ct_i, ct_r, ct_n, ct_f, rf_s, rf_n, tl_s, tl_n, true_and, and_true, eq_self, and_self, Nat.reduceAdd, Nat.reduceLeDiff, Nat.zero_le, Nat.reduceEqDiff, or_true, true_or, false_or, or_false, if_true, if_false, gI_0, gI_1, gI_2, gI_3, gI_4, gI_5, gI_6, gI_7, gI_8, gI_9, gI_10, gI_11, gI_12, gI_13, gI_14, gI_15, gL_0, gL_1, gL_2, gL_3, gL_4, gL_5, gL_6, gL_7, gL_8, gL_9, gL_10, gL_11, gL_12, gL_13, gL_14, gL_15, gA_0, gA_1, gA_2, gA_3, gA_4, gA_5, gA_6, gA_7, gA_8, gA_9, gA_10, gA_11, gA_12, gA_13, gA_14, gA_15, p1_0, p1_1, p1_2, p1_3, p1_4, p1_5, p1_6, p1_7, p1_8, p1_9, p1_10, p1_11, p1_12, p1_13, p1_14, p1_15, p2_0, p2_1, p2_2, p2_3, p2_4, p2_5, p2_6, p2_7, p2_8, p2_9, p2_10, p2_11, p2_12, p2_13, p2_14, p2_15, b01_ok, b_ft, b_tf, b01_e0, b01_e1, lgc_0, not_true_eq_false, not_false_eq_true, z, nI_l t31, lN_mul, nI_1]
      exact i1
  have loop : ∀ (r b : Nat) (h1 : HP) (y1 y2 y3 : Slot), b + r = 2 ^ n → FQ m h h1 → MO h1 m S →
      WP (d + 7) 214 Q (117, [.val (.ref m), .val (.int (nI p)), .val (.int (nI c)), .val (.int (nI n)), .val (.int (nI t)), .val (.int w), .val (.int 0), .val (.long (lN (sumN (dmpW S p c n t) b))), .second, .val (.long (lN (t ^ n))), .second, .val (.int (nI b)), y1, y2, y3], [], h1, 0, 0) := by
    intro r
    induction r with
    | zero =>
      intro b h1 y1 y2 y3 hb_ f1 m1
      obtain rfl : b = 2 ^ n := by omega
      have ew : sumN (dmpW S p c n t) (2 ^ n) = waysN S p c n t := rfl
      have tp : 0 < t ^ n := Nat.pow_pos (by omega)
      rw [s214_117]
      simp only [s214_119, s214_120, s214_121, s214_122, s214_218, s214_220, s214_222, s214_224, s214_227, oB_some, cl2_i, cl2_r, cl2_l, cl2_u, cl2_s, wd_0, wd_i, wd_r, wd_l, wd_f, ct_i, ct_r, ct_n, ct_f, rf_s, rf_n, tl_s, tl_n, true_and, and_true, eq_self, and_self, Nat.reduceAdd, Nat.reduceLeDiff, Nat.zero_le, Nat.reduceEqDiff, or_true, true_or, false_or, or_false, if_true, if_false, gI_0, gI_1, gI_2, gI_3, gI_4, gI_5, gI_6, gI_7, gI_8, gI_9, gI_10, gI_11, gI_12, gI_13, gI_14, gI_15, gL_0, gL_1, gL_2, gL_3, gL_4, gL_5, gL_6, gL_7, gL_8, gL_9, gL_10, gL_11, gL_12, gL_13, gL_14, gL_15, gA_0, gA_1, gA_2, gA_3, gA_4, gA_5, gA_6, gA_7, gA_8, gA_9, gA_10, gA_11, gA_12, gA_13, gA_14, gA_15, p1_0, p1_1, p1_2, p1_3, p1_4, p1_5, p1_6, p1_7, p1_8, p1_9, p1_10, p1_11, p1_12, p1_13, p1_14, p1_15, p2_0, p2_1, p2_2, p2_3, p2_4, p2_5, p2_6, p2_7, p2_8, p2_9, p2_10, p2_11, p2_12, p2_13, p2_14, p2_15, b01_ok, b_ft, b_tf, b01_e0, b01_e1, lgc_0, not_true_eq_false, not_false_eq_true, shl1 n (by omega), Int32.le_refl, ew, m_partOf (ways_lt hn ht ht1) (pow_lt40 hn ht) tp]
      exact k h1 f1 m1
    | succ r ih =>
      intro b h1 y1 y2 y3 hb_ f1 m1
      have K1 := m1.1.k
      unfold MK at K1
      have z : ¬ nI (2 ^ n) ≤ nI b := nI_ge (by omega) (by omega)
      have i1 := fun h2 y1 y2 y3 f2 m2 => ih (b + 1) h2 y1 y2 y3 (by omega) f2 m2
      rw [sumN_s] at i1
      rw [s214_117]
      simp only [s214_119, s214_120, s214_121, s214_122, s214_125, s214_126, oB_some, cl2_i, cl2_r, cl2_l, cl2_u, cl2_s, wd_0, wd_i, wd_r, wd_l, wd_f, ct_i, ct_r, ct_n, ct_f, rf_s, rf_n, tl_s, tl_n, true_and, and_true, eq_self, and_self, Nat.reduceAdd, Nat.reduceLeDiff, Nat.zero_le, Nat.reduceEqDiff, or_true, true_or, false_or, or_false, if_true, if_false, gI_0, gI_1, gI_2, gI_3, gI_4, gI_5, gI_6, gI_7, gI_8, gI_9, gI_10, gI_11, gI_12, gI_13, gI_14, gI_15, gL_0, gL_1, gL_2, gL_3, gL_4, gL_5, gL_6, gL_7, gL_8, gL_9, gL_10, gL_11, gL_12, gL_13, gL_14, gL_15, gA_0, gA_1, gA_2, gA_3, gA_4, gA_5, gA_6, gA_7, gA_8, gA_9, gA_10, gA_11, gA_12, gA_13, gA_14, gA_15, p1_0, p1_1, p1_2, p1_3, p1_4, p1_5, p1_6, p1_7, p1_8, p1_9, p1_10, p1_11, p1_12, p1_13, p1_14, p1_15, p2_0, p2_1, p2_2, p2_3, p2_4, p2_5, p2_6, p2_7, p2_8, p2_9, p2_10, p2_11, p2_12, p2_13, p2_14, p2_15, b01_ok, b_ft, b_tf, b01_e0, b01_e1, lgc_0, not_true_eq_false, not_false_eq_true, K1, shl1 n (by omega), z]
      refine m_minds m1.1 g m1.2 fun h2 f2 q2 l2 p2 => ?_
      have inner : ∀ (s i : Nat) (h3 : HP) (T : VS) (dm : Bool), i + s = n → FQ m h h3 → RM h3 m T → Good T → FMl h3 m 0 dm false → KP h3 m 2 S → vy T + s < 2 ^ 20 → vn T = vn S → dampA b s i T = dampA b n 0 S →
          WP (d + 7) 214 Q (135, [.val (.ref m), .val (.int (nI p)), .val (.int (nI c)), .val (.int (nI n)), .val (.int (nI t)), .val (.int w), .val (.int 0), .val (.long (lN (sumN (dmpW S p c n t) b))), .second, .val (.long (lN (t ^ n))), .second, .val (.int (nI b)), .val (.long (lN ((t - 1) ^ zc b i))), .second, .val (.int (nI i))], [], h3, 0, 0) := by
        intro s
        induction s with
        | zero =>
          intro i h3 T dm hi f3 q3 g3 l3 p3 y3 n3 e3
          obtain rfl : i = n := by omega
          have e4 : T = dampA b i 0 S := e3
          have K3 := q3.k
          unfold MK at K3
          have ez := zc_n i hn b (by omega)
          have w1 := (q3.at (show p < vn T by omega)).2.2.2.1
          rw [s214_135]
          simp only [s214_137, s214_138, s214_184, s214_186, s214_187, s214_190, s214_191, s214_192, s214_193, s214_196, s214_199, s214_201, s214_204, s214_205, s214_206, oB_some, cl2_i, cl2_r, cl2_l, cl2_u, cl2_s, wd_0, wd_i, wd_r, wd_l, wd_f, ct_i, ct_r, ct_n, ct_f, rf_s, rf_n, tl_s, tl_n, true_and, and_true, eq_self, and_self, Nat.reduceAdd, Nat.reduceLeDiff, Nat.zero_le, Nat.reduceEqDiff, or_true, true_or, false_or, or_false, if_true, if_false, gI_0, gI_1, gI_2, gI_3, gI_4, gI_5, gI_6, gI_7, gI_8, gI_9, gI_10, gI_11, gI_12, gI_13, gI_14, gI_15, gL_0, gL_1, gL_2, gL_3, gL_4, gL_5, gL_6, gL_7, gL_8, gL_9, gL_10, gL_11, gL_12, gL_13, gL_14, gL_15, gA_0, gA_1, gA_2, gA_3, gA_4, gA_5, gA_6, gA_7, gA_8, gA_9, gA_10, gA_11, gA_12, gA_13, gA_14, gA_15, p1_0, p1_1, p1_2, p1_3, p1_4, p1_5, p1_6, p1_7, p1_8, p1_9, p1_10, p1_11, p1_12, p1_13, p1_14, p1_15, p2_0, p2_1, p2_2, p2_3, p2_4, p2_5, p2_6, p2_7, p2_8, p2_9, p2_10, p2_11, p2_12, p2_13, p2_14, p2_15, b01_ok, b_ft, b_tf, b01_e0, b01_e1, lgc_0, not_true_eq_false, not_false_eq_true, K3, Int32.le_refl, w1, ix_nI p31, nI_pos' p31, p6, m_has (show c < 64 by omega)]
          have fin : ∀ v, v = dmpW S p c i t b → WP (d + 7) 214 Q (208, [.val (.ref m), .val (.int (nI p)), .val (.int (nI c)), .val (.int (nI i)), .val (.int (nI t)), .val (.int w), .val (.int 0), .val (.long (lN (sumN (dmpW S p c i t) b) + lN v)), .second, .val (.long (lN (t ^ i))), .second, .val (.int (nI b)), .val (.long (lN ((t - 1) ^ zc b i))), .second, .val (.int (nI i))], [], h3, 0, 0) := by
            rintro v rfl
            simp only [s214_208, s214_209, oB_some, cl2_i, cl2_r, cl2_l, cl2_u, cl2_s, wd_0, wd_i, wd_r, wd_l, wd_f, ct_i, ct_r, ct_n, ct_f, rf_s, rf_n, tl_s, tl_n, true_and, and_true, eq_self, and_self, Nat.reduceAdd, Nat.reduceLeDiff, Nat.zero_le, Nat.reduceEqDiff, or_true, true_or, false_or, or_false, if_true, if_false, gI_0, gI_1, gI_2, gI_3, gI_4, gI_5, gI_6, gI_7, gI_8, gI_9, gI_10, gI_11, gI_12, gI_13, gI_14, gI_15, gL_0, gL_1, gL_2, gL_3, gL_4, gL_5, gL_6, gL_7, gL_8, gL_9, gL_10, gL_11, gL_12, gL_13, gL_14, gL_15, gA_0, gA_1, gA_2, gA_3, gA_4, gA_5, gA_6, gA_7, gA_8, gA_9, gA_10, gA_11, gA_12, gA_13, gA_14, gA_15, p1_0, p1_1, p1_2, p1_3, p1_4, p1_5, p1_6, p1_7, p1_8, p1_9, p1_10, p1_11, p1_12, p1_13, p1_14, p1_15, p2_0, p2_1, p2_2, p2_3, p2_4, p2_5, p2_6, p2_7, p2_8, p2_9, p2_10, p2_11, p2_12, p2_13, p2_14, p2_15, b01_ok, b_ft, b_tf, b01_e0, b01_e1, lgc_0, not_true_eq_false, not_false_eq_true, K3, lN_add]
            refine m_forgets q3.k g p3 fun h4 f4 q4 l4 => ?_
            simp only [s214_212, s214_215, oB_some, cl2_i, cl2_r, cl2_l, cl2_u, cl2_s, wd_0, wd_i, wd_r, wd_l, wd_f, ct_i, ct_r, ct_n, ct_f, rf_s, rf_n, tl_s, tl_n, true_and, and_true, eq_self, and_self, Nat.reduceAdd, Nat.reduceLeDiff, Nat.zero_le, Nat.reduceEqDiff, or_true, true_or, false_or, or_false, if_true, if_false, gI_0, gI_1, gI_2, gI_3, gI_4, gI_5, gI_6, gI_7, gI_8, gI_9, gI_10, gI_11, gI_12, gI_13, gI_14, gI_15, gL_0, gL_1, gL_2, gL_3, gL_4, gL_5, gL_6, gL_7, gL_8, gL_9, gL_10, gL_11, gL_12, gL_13, gL_14, gL_15, gA_0, gA_1, gA_2, gA_3, gA_4, gA_5, gA_6, gA_7, gA_8, gA_9, gA_10, gA_11, gA_12, gA_13, gA_14, gA_15, p1_0, p1_1, p1_2, p1_3, p1_4, p1_5, p1_6, p1_7, p1_8, p1_9, p1_10, p1_11, p1_12, p1_13, p1_14, p1_15, p2_0, p2_1, p2_2, p2_3, p2_4, p2_5, p2_6, p2_7, p2_8, p2_9, p2_10, p2_11, p2_12, p2_13, p2_14, p2_15, b01_ok, b_ft, b_tf, b01_e0, b01_e1, lgc_0, not_true_eq_false, not_false_eq_true, nI_1]
            exact i1 h4 _ _ _ (f3.tr f4) ⟨q4, l4⟩
          by_cases e : hb (vw T p) c = true
          · rw [if_neg (by rw [e]; decide)]
            exact fin _ (by unfold dmpW; rw [← e4, if_pos e, ez])
          · rw [if_pos (by simpa using e)]
            exact fin 0 (by unfold dmpW; rw [← e4, if_neg e])
        | succ s ihs =>
          intro i h3 T dm hi f3 q3 g3 l3 p3 y3 n3 e3
          have K3 := q3.k
          unfold MK at K3
          have z2 : ¬ nI n ≤ nI i := nI_ge (by omega) (by omega)
          have et := hbT b (by omega) i (by omega)
          have q4 : RM (sI h3 m 22 (b01 (b.testBit i))) m T := RM_i q3 (by decide)
          have r22 : hI (sI h3 m 22 (b01 (b.testBit i))) m 22 = b01 (b.testBit i) := by rw [hI_sI, if_pos ⟨rfl, rfl⟩]
          have K4 := q4.k
          unfold MK at K4
          rw [dampA_s] at e3
          rw [s214_135]
          simp only [s214_137, s214_138, s214_141, s214_142, s214_144, s214_145, s214_147, s214_150, s214_153, s214_155, s214_156, s214_159, s214_162, s214_163, s214_166, s214_168, s214_169, s214_170, s214_171, oB_some, cl2_i, cl2_r, cl2_l, cl2_u, cl2_s, wd_0, wd_i, wd_r, wd_l, wd_f, ct_i, ct_r, ct_n, ct_f, rf_s, rf_n, tl_s, tl_n, true_and, and_true, eq_self, and_self, Nat.reduceAdd, Nat.reduceLeDiff, Nat.zero_le, Nat.reduceEqDiff, or_true, true_or, false_or, or_false, if_true, if_false, gI_0, gI_1, gI_2, gI_3, gI_4, gI_5, gI_6, gI_7, gI_8, gI_9, gI_10, gI_11, gI_12, gI_13, gI_14, gI_15, gL_0, gL_1, gL_2, gL_3, gL_4, gL_5, gL_6, gL_7, gL_8, gL_9, gL_10, gL_11, gL_12, gL_13, gL_14, gL_15, gA_0, gA_1, gA_2, gA_3, gA_4, gA_5, gA_6, gA_7, gA_8, gA_9, gA_10, gA_11, gA_12, gA_13, gA_14, gA_15, p1_0, p1_1, p1_2, p1_3, p1_4, p1_5, p1_6, p1_7, p1_8, p1_9, p1_10, p1_11, p1_12, p1_13, p1_14, p1_15, p2_0, p2_1, p2_2, p2_3, p2_4, p2_5, p2_6, p2_7, p2_8, p2_9, p2_10, p2_11, p2_12, p2_13, p2_14, p2_15, b01_ok, b_ft, b_tf, b01_e0, b01_e1, lgc_0, not_true_eq_false, not_false_eq_true, z_hkd_sI, z_hln_sI, z_hL_sI, z_hR_sI, z_hnx_sI, z_hkd_sL, z_hln_sL, z_hI_sL, z_hR_sL, z_hnx_sL, z_hkd_sR, z_hln_sR, z_hI_sR, z_hL_sR, z_hnx_sR, z_hkd_cI, z_hln_cI, z_hL_cI, z_hR_cI, z_hnx_cI, z_hkd_cLg, z_hln_cLg, z_hI_cLg, z_hR_cLg, z_hnx_cLg, K3, z2, nI_l (show b < 2 ^ 31 by omega), m_has (show i < 64 by omega), et, r22, pt, nI_l (show t - 1 < 2 ^ 31 by omega), lN_mul]
          have step : ∀ v, v = zc b (i + 1) → WP (d + 7) 214 Q (172, [.val (.ref m), .val (.int (nI p)), .val (.int (nI c)), .val (.int (nI n)), .val (.int (nI t)), .val (.int w), .val (.int 0), .val (.long (lN (sumN (dmpW S p c n t) b))), .second, .val (.long (lN (t ^ n))), .second, .val (.int (nI b)), .val (.long (lN ((t - 1) ^ zc b i))), .second, .val (.int (nI i))], [.long (lN ((t - 1) ^ v))], sI h3 m 22 (b01 (b.testBit i)), 0, 0) := by
            rintro v rfl
            simp only [s214_172, s214_174, s214_175, oB_some, cl2_i, cl2_r, cl2_l, cl2_u, cl2_s, wd_0, wd_i, wd_r, wd_l, wd_f, ct_i, ct_r, ct_n, ct_f, rf_s, rf_n, tl_s, tl_n, true_and, and_true, eq_self, and_self, Nat.reduceAdd, Nat.reduceLeDiff, Nat.zero_le, Nat.reduceEqDiff, or_true, true_or, false_or, or_false, if_true, if_false, gI_0, gI_1, gI_2, gI_3, gI_4, gI_5, gI_6, gI_7, gI_8, gI_9, gI_10, gI_11, gI_12, gI_13, gI_14, gI_15, gL_0, gL_1, gL_2, gL_3, gL_4, gL_5, gL_6, gL_7, gL_8, gL_9, gL_10, gL_11, gL_12, gL_13, gL_14, gL_15, gA_0, gA_1, gA_2, gA_3, gA_4, gA_5, gA_6, gA_7, gA_8, gA_9, gA_10, gA_11, gA_12, gA_13, gA_14, gA_15, p1_0, p1_1, p1_2, p1_3, p1_4, p1_5, p1_6, p1_7, p1_8, p1_9, p1_10, p1_11, p1_12, p1_13, p1_14, p1_15, p2_0, p2_1, p2_2, p2_3, p2_4, p2_5, p2_6, p2_7, p2_8, p2_9, p2_10, p2_11, p2_12, p2_13, p2_14, p2_15, b01_ok, b_ft, b_tf, b01_e0, b01_e1, lgc_0, not_true_eq_false, not_false_eq_true, z_hkd_sI, z_hln_sI, z_hL_sI, z_hR_sI, z_hnx_sI, z_hkd_sL, z_hln_sL, z_hI_sL, z_hR_sL, z_hnx_sL, z_hkd_sR, z_hln_sR, z_hI_sR, z_hL_sR, z_hnx_sR, z_hkd_cI, z_hln_cI, z_hL_cI, z_hR_cI, z_hnx_cI, z_hkd_cLg, z_hln_cLg, z_hI_cLg, z_hR_cLg, z_hnx_cLg, K3]
            refine m_goesDay q4 g3 (FMl_dm l3) (by decide) (by omega) fun h5 f5 q5 => ?_
            have k1 := day1_keep (ink := 0) (dm := b.testBit i) (sh := false) g3 (by omega)
            simp only [s214_178, s214_181, oB_some, cl2_i, cl2_r, cl2_l, cl2_u, cl2_s, wd_0, wd_i, wd_r, wd_l, wd_f, ct_i, ct_r, ct_n, ct_f, rf_s, rf_n, tl_s, tl_n, true_and, and_true, eq_self, and_self, Nat.reduceAdd, Nat.reduceLeDiff, Nat.zero_le, Nat.reduceEqDiff, or_true, true_or, false_or, or_false, if_true, if_false, gI_0, gI_1, gI_2, gI_3, gI_4, gI_5, gI_6, gI_7, gI_8, gI_9, gI_10, gI_11, gI_12, gI_13, gI_14, gI_15, gL_0, gL_1, gL_2, gL_3, gL_4, gL_5, gL_6, gL_7, gL_8, gL_9, gL_10, gL_11, gL_12, gL_13, gL_14, gL_15, gA_0, gA_1, gA_2, gA_3, gA_4, gA_5, gA_6, gA_7, gA_8, gA_9, gA_10, gA_11, gA_12, gA_13, gA_14, gA_15, p1_0, p1_1, p1_2, p1_3, p1_4, p1_5, p1_6, p1_7, p1_8, p1_9, p1_10, p1_11, p1_12, p1_13, p1_14, p1_15, p2_0, p2_1, p2_2, p2_3, p2_4, p2_5, p2_6, p2_7, p2_8, p2_9, p2_10, p2_11, p2_12, p2_13, p2_14, p2_15, b01_ok, b_ft, b_tf, b01_e0, b01_e1, lgc_0, not_true_eq_false, not_false_eq_true, nI_1]
            exact ihs (i + 1) h5 _ (b.testBit i) (by omega) ((f3.sI (Or.inl ⟨rfl, by omega⟩)).tr f5.fq) q5 k1.1 ((FMl_dm l3).kept f5) ((p3.w g (a := m) (by omega)).fd g f5) (by rw [k1.2.2]; omega) (k1.2.1.trans n3) e3
          have ez : zc b (i + 1) = zc b i + (if b.testBit i = true then 0 else 1) := rfl
          by_cases e : b.testBit i = true
          · rw [if_neg (by rw [e]; decide)]
            have st := step (zc b i) (by rw [ez, if_pos e, Nat.add_zero])
            have e1 : lN ((t - 1) ^ zc b i) * 1 = lN ((t - 1) ^ zc b i) := Int64.mul_one _
            rw [e1]
            exact st
          · rw [if_pos (by simpa using e)]
            have st := step (zc b i + 1) (by rw [ez, if_neg e])
            rw [Nat.pow_succ] at st
            exact st
      simp only [s214_129, s214_130, s214_132, s214_133, oB_some, cl2_i, cl2_r, cl2_l, cl2_u, cl2_s, wd_0, wd_i, wd_r, wd_l, wd_f, ct_i, ct_r, ct_n, ct_f, rf_s, rf_n, tl_s, tl_n, true_and, and_true, eq_self, and_self, Nat.reduceAdd, Nat.reduceLeDiff, Nat.zero_le, Nat.reduceEqDiff, or_true, true_or, false_or, or_false, if_true, if_false, gI_0, gI_1, gI_2, gI_3, gI_4, gI_5, gI_6, gI_7, gI_8, gI_9, gI_10, gI_11, gI_12, gI_13, gI_14, gI_15, gL_0, gL_1, gL_2, gL_3, gL_4, gL_5, gL_6, gL_7, gL_8, gL_9, gL_10, gL_11, gL_12, gL_13, gL_14, gL_15, gA_0, gA_1, gA_2, gA_3, gA_4, gA_5, gA_6, gA_7, gA_8, gA_9, gA_10, gA_11, gA_12, gA_13, gA_14, gA_15, p1_0, p1_1, p1_2, p1_3, p1_4, p1_5, p1_6, p1_7, p1_8, p1_9, p1_10, p1_11, p1_12, p1_13, p1_14, p1_15, p2_0, p2_1, p2_2, p2_3, p2_4, p2_5, p2_6, p2_7, p2_8, p2_9, p2_10, p2_11, p2_12, p2_13, p2_14, p2_15, b01_ok, b_ft, b_tf, b01_e0, b01_e1, lgc_0, not_true_eq_false, not_false_eq_true]
      exact inner n 0 h2 S false (by omega) (f1.tr f2) q2 g l2 p2 (by omega) rfl rfl
  simp only [s214_85, s214_86, s214_88, s214_89, s214_91, s214_92, oB_some, cl2_i, cl2_r, cl2_l, cl2_u, cl2_s, wd_0, wd_i, wd_r, wd_l, wd_f, ct_i, ct_r, ct_n, ct_f, rf_s, rf_n, tl_s, tl_n, true_and, and_true, eq_self, and_self, Nat.reduceAdd, Nat.reduceLeDiff, Nat.zero_le, Nat.reduceEqDiff, or_true, true_or, false_or, or_false, if_true, if_false, gI_0, gI_1, gI_2, gI_3, gI_4, gI_5, gI_6, gI_7, gI_8, gI_9, gI_10, gI_11, gI_12, gI_13, gI_14, gI_15, gL_0, gL_1, gL_2, gL_3, gL_4, gL_5, gL_6, gL_7, gL_8, gL_9, gL_10, gL_11, gL_12, gL_13, gL_14, gL_15, gA_0, gA_1, gA_2, gA_3, gA_4, gA_5, gA_6, gA_7, gA_8, gA_9, gA_10, gA_11, gA_12, gA_13, gA_14, gA_15, p1_0, p1_1, p1_2, p1_3, p1_4, p1_5, p1_6, p1_7, p1_8, p1_9, p1_10, p1_11, p1_12, p1_13, p1_14, p1_15, p2_0, p2_1, p2_2, p2_3, p2_4, p2_5, p2_6, p2_7, p2_8, p2_9, p2_10, p2_11, p2_12, p2_13, p2_14, p2_15, b01_ok, b_ft, b_tf, b01_e0, b01_e1, lgc_0, not_true_eq_false, not_false_eq_true]
  refine down n 0 _ _ _ (by omega) fun y1 y2 y3 y4 => ?_
  simp only [s214_114, s214_115, oB_some, cl2_i, cl2_r, cl2_l, cl2_u, cl2_s, wd_0, wd_i, wd_r, wd_l, wd_f, ct_i, ct_r, ct_n, ct_f, rf_s, rf_n, tl_s, tl_n, true_and, and_true, eq_self, and_self, Nat.reduceAdd, Nat.reduceLeDiff, Nat.zero_le, Nat.reduceEqDiff, or_true, true_or, false_or, or_false, if_true, if_false, gI_0, gI_1, gI_2, gI_3, gI_4, gI_5, gI_6, gI_7, gI_8, gI_9, gI_10, gI_11, gI_12, gI_13, gI_14, gI_15, gL_0, gL_1, gL_2, gL_3, gL_4, gL_5, gL_6, gL_7, gL_8, gL_9, gL_10, gL_11, gL_12, gL_13, gL_14, gL_15, gA_0, gA_1, gA_2, gA_3, gA_4, gA_5, gA_6, gA_7, gA_8, gA_9, gA_10, gA_11, gA_12, gA_13, gA_14, gA_15, p1_0, p1_1, p1_2, p1_3, p1_4, p1_5, p1_6, p1_7, p1_8, p1_9, p1_10, p1_11, p1_12, p1_13, p1_14, p1_15, p2_0, p2_1, p2_2, p2_3, p2_4, p2_5, p2_6, p2_7, p2_8, p2_9, p2_10, p2_11, p2_12, p2_13, p2_14, p2_15, b01_ok, b_ft, b_tf, b01_e0, b01_e1, lgc_0, not_true_eq_false, not_false_eq_true]
  exact loop (2 ^ n) 0 h _ _ _ (by omega) FQ.rf M

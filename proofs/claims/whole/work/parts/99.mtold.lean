-- the other side: what one statement does
theorem tst_112 {d : Nat} {Q : PQ} {al : List Slot} {st : List Value} {h : HP} {c s : Nat} : WP d 75 Q (10, al, .int (nI 112) :: st, h, c, s) = WP d 75 Q (60, al, st, h, c, s) := s75_10.trans rfl
theorem tst_102 {d : Nat} {Q : PQ} {al : List Slot} {st : List Value} {h : HP} {c s : Nat} : WP d 75 Q (10, al, .int (nI 102) :: st, h, c, s) = WP d 75 Q (79, al, st, h, c, s) := s75_10.trans rfl
theorem tst_107 {d : Nat} {Q : PQ} {al : List Slot} {st : List Value} {h : HP} {c s : Nat} : WP d 75 Q (10, al, .int (nI 107) :: st, h, c, s) = WP d 75 Q (98, al, st, h, c, s) := s75_10.trans rfl
theorem tst_115 {d : Nat} {Q : PQ} {al : List Slot} {st : List Value} {h : HP} {c s : Nat} : WP d 75 Q (10, al, .int (nI 115) :: st, h, c, s) = WP d 75 Q (117, al, st, h, c, s) := s75_10.trans rfl
theorem tst_120 {d : Nat} {Q : PQ} {al : List Slot} {st : List Value} {h : HP} {c s : Nat} : WP d 75 Q (10, al, .int (nI 120) :: st, h, c, s) = WP d 75 Q (129, al, st, h, c, s) := s75_10.trans rfl
theorem tst_114 {d : Nat} {Q : PQ} {al : List Slot} {st : List Value} {h : HP} {c s : Nat} : WP d 75 Q (10, al, .int (nI 114) :: st, h, c, s) = WP d 75 Q (140, al, st, h, c, s) := s75_10.trans rfl
theorem tst_100 {d : Nat} {Q : PQ} {al : List Slot} {st : List Value} {h : HP} {c s : Nat} : WP d 75 Q (10, al, .int (nI 100) :: st, h, c, s) = WP d 75 Q (140, al, st, h, c, s) := s75_10.trans rfl
theorem mulTwo {j : Nat} (hj : j < 33) : (2 : Int32) * nI j = nI (2 * j) := by
  have : ∀ j, j < 33 → (2 : Int32) * nI j = nI (2 * j) := by decide +kernel
  exact this j hj
set_option maxHeartbeats 8000000 in
theorem m_comesTold {d i j : Nat} {tp : Nat → Nat} {Q : PQ} {h : HP} {m : Nat} {S : VS} (M : MO h m S) (gS : GV S) (st : ST h m tp j i) (hj : j < 33) (l0 : ¬ lbN (tp i) = 0) (d1 : isDg (tp (i + 1)) = true) (d2 : isDg (tp (i + 2)) = true) (d3 : tp i = 107 → isDg (tp (i + 3)) = true)
    (k0 : tl1 tp S i = none → Q (some (.int 0)) h)
    (k : ∀ S', tl1 tp S i = some S' → ∀ h', FQ m h h' → MO h' m S' → Q (some (.int 1)) h') : Ev (d + 9) 75 [.ref m, .int (nI j)] h Q := by
  have K := M.1.k
  unfold MK at K
  have g := gS.1
  have hy := gS.2
  have gn := g.n
  obtain ⟨s1, s2, s3, s4, s5⟩ := st
  have j31 : j < 2 ^ 31 := by omega
  have p31 : 2 * j < 2 ^ 31 := by omega
  have p66 : 2 * j < 66 := by omega
  have q31 : 2 * j + 1 < 2 ^ 31 := by omega
  have q66 : 2 * j + 1 < 66 := by omega
  have a1 := dg_le d1
  have a2 := dg_le d2
  have w1 : dd tp (i + 1) ≤ 99 := by unfold dd; rw [show i + 1 + 1 = i + 2 from rfl]; omega
  have r0 : ((8 : Int32) ≤ nI (dg tp (i + 1))) = (8 ≤ dg tp (i + 1)) := propext (nI_leI (a := 8) (by decide) (by omega))
  have r1 : (nI (dd tp (i + 1)) < 40) = (dd tp (i + 1) < 40) := ltP (b := 40) (by omega) (by decide)
  have r2 : (nI (dd tp (i + 1)) ≤ 18) = (dd tp (i + 1) ≤ 18) := propext (nI_leI (b := 18) (by omega) (by decide))
  have r3 : (nI (dg tp (i + 2)) ≤ 5) = (dg tp (i + 2) ≤ 5) := propext (nI_leI (b := 5) (by omega) (by decide))
  have r7 : (nI (vn S) = 6) = (vn S = 6) := eqP (b := 6) (by omega) (by decide)
  have mm := mulTwo hj
  unfold tl1 at k0 k
  rcases lb7 l0 with e | e | e | e | e | e | e
  · have t1 := s1
    rw [e] at t1
    obtain ⟨u1, u2⟩ := s3 (Or.inl e)
    simp only [e, Nat.reduceEqDiff, if_true, if_false] at k0 k
    simp only [e75, s75_0, s75_1, s75_2, s75_3, s75_4, s75_5, s75_8, s75_9, tst_112, oB_some, cl2_i, cl2_r, cl2_l, cl2_u, cl2_s, wd_0, wd_i, wd_r, wd_l, wd_f, ct_i, ct_r, ct_n, ct_f, rf_s, rf_n, tl_s, tl_n, true_and, and_true, eq_self, and_self, Nat.reduceAdd, Nat.reduceLeDiff, Nat.zero_le, Nat.reduceEqDiff, or_true, true_or, false_or, or_false, if_true, if_false, gI_0, gI_1, gI_2, gI_3, gI_4, gI_5, gI_6, gI_7, gI_8, gI_9, gI_10, gI_11, gI_12, gI_13, gI_14, gI_15, gL_0, gL_1, gL_2, gL_3, gL_4, gL_5, gL_6, gL_7, gL_8, gL_9, gL_10, gL_11, gL_12, gL_13, gL_14, gL_15, gA_0, gA_1, gA_2, gA_3, gA_4, gA_5, gA_6, gA_7, gA_8, gA_9, gA_10, gA_11, gA_12, gA_13, gA_14, gA_15, p1_0, p1_1, p1_2, p1_3, p1_4, p1_5, p1_6, p1_7, p1_8, p1_9, p1_10, p1_11, p1_12, p1_13, p1_14, p1_15, p2_0, p2_1, p2_2, p2_3, p2_4, p2_5, p2_6, p2_7, p2_8, p2_9, p2_10, p2_11, p2_12, p2_13, p2_14, p2_15, K, mm, ix_nI j31, nI_pos' j31, hj, t1, ix_nI p31, nI_pos' p31, p66, ix_nI q31, nI_pos' q31, q66, nI_1, u1, u2, s75_60, s75_61, s75_62, s75_65, s75_66, s75_67, s75_68, s75_71, s75_72, s75_73, s75_74, s75_75, s75_78, e76, s76_0, s76_1, s76_3, s76_6, s76_7, s76_10, s76_12, s76_15, s76_16, b01_ok, b_ft, b_tf, b01_e0, b01_e1, lgc_0, not_true_eq_false, not_false_eq_true, r0, M.1.n, r7]
    by_cases h7 : 7 < dg tp (i + 1)
    · simp only [show 8 ≤ dg tp (i + 1) from h7, if_true]
      exact k0 (by simp [h7])
    · have h7' : ¬ 8 ≤ dg tp (i + 1) := by omega
      by_cases h6 : vn S = 6
      · simp only [h7', h6, if_true, if_false, not_true_eq_false]
        exact k0 (by simp [h6])
      · simp only [h7', h6, if_true, if_false, not_false_eq_true, s76_17, s76_18, s76_19, s76_20, oB_some, cl2_i, cl2_r, cl2_l, cl2_u, cl2_s, wd_0, wd_i, wd_r, wd_l, wd_f, ct_i, ct_r, ct_n, ct_f, rf_s, rf_n, tl_s, tl_n, true_and, and_true, eq_self, and_self, Nat.reduceAdd, Nat.reduceLeDiff, Nat.zero_le, Nat.reduceEqDiff, or_true, true_or, false_or, or_false, if_true, if_false, gI_0, gI_1, gI_2, gI_3, gI_4, gI_5, gI_6, gI_7, gI_8, gI_9, gI_10, gI_11, gI_12, gI_13, gI_14, gI_15, gL_0, gL_1, gL_2, gL_3, gL_4, gL_5, gL_6, gL_7, gL_8, gL_9, gL_10, gL_11, gL_12, gL_13, gL_14, gL_15, gA_0, gA_1, gA_2, gA_3, gA_4, gA_5, gA_6, gA_7, gA_8, gA_9, gA_10, gA_11, gA_12, gA_13, gA_14, gA_15, p1_0, p1_1, p1_2, p1_3, p1_4, p1_5, p1_6, p1_7, p1_8, p1_9, p1_10, p1_11, p1_12, p1_13, p1_14, p1_15, p2_0, p2_1, p2_2, p2_3, p2_4, p2_5, p2_6, p2_7, p2_8, p2_9, p2_10, p2_11, p2_12, p2_13, p2_14, p2_15, K]
        refine m_isMore M g (by omega) fun h2 f2 q2 => ?_
        simp only [s76_23, s76_24, s75_78, oB_some, cl2_i, cl2_r, cl2_l, cl2_u, cl2_s, wd_0, wd_i, wd_r, wd_l, wd_f, ct_i, ct_r, ct_n, ct_f, rf_s, rf_n, tl_s, tl_n, true_and, and_true, eq_self, and_self, Nat.reduceAdd, Nat.reduceLeDiff, Nat.zero_le, Nat.reduceEqDiff, or_true, true_or, false_or, or_false, if_true, if_false, gI_0, gI_1, gI_2, gI_3, gI_4, gI_5, gI_6, gI_7, gI_8, gI_9, gI_10, gI_11, gI_12, gI_13, gI_14, gI_15, gL_0, gL_1, gL_2, gL_3, gL_4, gL_5, gL_6, gL_7, gL_8, gL_9, gL_10, gL_11, gL_12, gL_13, gL_14, gL_15, gA_0, gA_1, gA_2, gA_3, gA_4, gA_5, gA_6, gA_7, gA_8, gA_9, gA_10, gA_11, gA_12, gA_13, gA_14, gA_15, p1_0, p1_1, p1_2, p1_3, p1_4, p1_5, p1_6, p1_7, p1_8, p1_9, p1_10, p1_11, p1_12, p1_13, p1_14, p1_15, p2_0, p2_1, p2_2, p2_3, p2_4, p2_5, p2_6, p2_7, p2_8, p2_9, p2_10, p2_11, p2_12, p2_13, p2_14, p2_15]
        exact k _ (by rw [if_neg (by omega)]) h2 f2 q2
  · have t1 := s1
    rw [e] at t1
    obtain ⟨u1, u2⟩ := s3 (Or.inr e)
    simp only [e, Nat.reduceEqDiff, if_true, if_false] at k0 k
    simp only [e75, s75_0, s75_1, s75_2, s75_3, s75_4, s75_5, s75_8, s75_9, tst_102, oB_some, cl2_i, cl2_r, cl2_l, cl2_u, cl2_s, wd_0, wd_i, wd_r, wd_l, wd_f, ct_i, ct_r, ct_n, ct_f, rf_s, rf_n, tl_s, tl_n, true_and, and_true, eq_self, and_self, Nat.reduceAdd, Nat.reduceLeDiff, Nat.zero_le, Nat.reduceEqDiff, or_true, true_or, false_or, or_false, if_true, if_false, gI_0, gI_1, gI_2, gI_3, gI_4, gI_5, gI_6, gI_7, gI_8, gI_9, gI_10, gI_11, gI_12, gI_13, gI_14, gI_15, gL_0, gL_1, gL_2, gL_3, gL_4, gL_5, gL_6, gL_7, gL_8, gL_9, gL_10, gL_11, gL_12, gL_13, gL_14, gL_15, gA_0, gA_1, gA_2, gA_3, gA_4, gA_5, gA_6, gA_7, gA_8, gA_9, gA_10, gA_11, gA_12, gA_13, gA_14, gA_15, p1_0, p1_1, p1_2, p1_3, p1_4, p1_5, p1_6, p1_7, p1_8, p1_9, p1_10, p1_11, p1_12, p1_13, p1_14, p1_15, p2_0, p2_1, p2_2, p2_3, p2_4, p2_5, p2_6, p2_7, p2_8, p2_9, p2_10, p2_11, p2_12, p2_13, p2_14, p2_15, K, mm, ix_nI j31, nI_pos' j31, hj, t1, ix_nI p31, nI_pos' p31, p66, ix_nI q31, nI_pos' q31, q66, nI_1, u1, u2, s75_79, s75_80, s75_81, s75_84, s75_85, s75_86, s75_87, s75_90, s75_91, s75_92, s75_93, s75_94, s75_97, e78, s78_0, s78_1, s78_2, s78_5, s78_8, s78_9, s78_10, s78_13, s78_14, s78_15, s78_16, s78_19, s78_20, s78_21, s78_22, s78_23, z_hkd_sI, z_hln_sI, z_hL_sI, z_hR_sI, z_hnx_sI, z_hkd_sL, z_hln_sL, z_hI_sL, z_hR_sL, z_hnx_sL, z_hkd_sR, z_hln_sR, z_hI_sR, z_hL_sR, z_hnx_sR, z_hkd_cI, z_hln_cI, z_hL_cI, z_hR_cI, z_hnx_cI, z_hkd_cLg, z_hln_cLg, z_hI_cLg, z_hR_cLg, z_hnx_cLg, b01_ok, b_ft, b_tf, b01_e0, b01_e1, lgc_0, not_true_eq_false, not_false_eq_true, m_isPersonI M.1 g, isPI_nI g (show dg tp (i + 1) < 2 ^ 31 by omega), r3]
    by_cases h7 : vn S ≤ dg tp (i + 1)
    · simp only [show decide (dg tp (i + 1) < vn S) = false from decide_eq_false (by omega), b01_f, if_true]
      exact k0 (by simp [h7])
    · by_cases h6 : 5 < dg tp (i + 2)
      · simp only [show decide (dg tp (i + 1) < vn S) = true from decide_eq_true (by omega), b01_t, Nat.not_le.mpr h6, Bool.true_eq_false, z10, if_false]
        exact k0 (by simp [h6])
      · have j6 : dg tp (i + 1) < 6 := by omega
        have o31 : dg tp (i + 1) < 2 ^ 31 := by omega
        simp only [show decide (dg tp (i + 1) < vn S) = true from decide_eq_true (by omega), b01_t, Nat.not_lt.mp h6, Bool.true_eq_false, z10, if_false, if_true, ix_nI o31, nI_pos' o31, j6, true_and]
        exact k _ (by rw [if_neg (by omega)]) _ (FQ.rf.sI (Or.inr (Or.inl (by omega)))) ⟨RM_r M.1 _ _, M.2.w (Or.inl (by omega))⟩
  · have t1 := s1
    rw [e] at t1
    obtain ⟨u1, u2⟩ := s4 e
    simp only [e, Nat.reduceEqDiff, if_true, if_false] at k0 k
    have d3' := d3 e
    have w2 : dd tp (i + 2) ≤ 99 := by
      have := dg_le (i := i + 3) d3'
      unfold dd
      rw [show i + 2 + 1 = i + 3 from rfl]
      omega
    have u2' : hI h (m + 15) (2 * j + 1) = nI (dd tp (i + 2)) := u2
    have r8 : (nI (dd tp (i + 2)) < 40) = (dd tp (i + 2) < 40) := ltP (b := 40) (by omega) (by decide)
    have ki : isKI S (nI (dg tp (i + 1))) = decide (dg tp (i + 1) < vn S) := by
      unfold isKI
      rw [isPI_nI g (by omega), decide_eq_false (nm1 (show dg tp (i + 1) < 2 ^ 31 by omega)), Bool.false_or]
    by_cases h7 : vn S ≤ dg tp (i + 1)
    · simp only [e75, s75_0, s75_1, s75_2, s75_3, s75_4, s75_5, s75_8, s75_9, tst_107, oB_some, cl2_i, cl2_r, cl2_l, cl2_u, cl2_s, wd_0, wd_i, wd_r, wd_l, wd_f, ct_i, ct_r, ct_n, ct_f, rf_s, rf_n, tl_s, tl_n, true_and, and_true, eq_self, and_self, Nat.reduceAdd, Nat.reduceLeDiff, Nat.zero_le, Nat.reduceEqDiff, or_true, true_or, false_or, or_false, if_true, if_false, gI_0, gI_1, gI_2, gI_3, gI_4, gI_5, gI_6, gI_7, gI_8, gI_9, gI_10, gI_11, gI_12, gI_13, gI_14, gI_15, gL_0, gL_1, gL_2, gL_3, gL_4, gL_5, gL_6, gL_7, gL_8, gL_9, gL_10, gL_11, gL_12, gL_13, gL_14, gL_15, gA_0, gA_1, gA_2, gA_3, gA_4, gA_5, gA_6, gA_7, gA_8, gA_9, gA_10, gA_11, gA_12, gA_13, gA_14, gA_15, p1_0, p1_1, p1_2, p1_3, p1_4, p1_5, p1_6, p1_7, p1_8, p1_9, p1_10, p1_11, p1_12, p1_13, p1_14, p1_15, p2_0, p2_1, p2_2, p2_3, p2_4, p2_5, p2_6, p2_7, p2_8, p2_9, p2_10, p2_11, p2_12, p2_13, p2_14, p2_15, K, mm, ix_nI j31, nI_pos' j31, hj, t1, ix_nI p31, nI_pos' p31, p66, ix_nI q31, nI_pos' q31, q66, nI_1, u1, u2', s75_98, s75_99, s75_100, s75_103, s75_104, s75_105, s75_106, s75_109, s75_110, s75_111, s75_112, s75_113, s75_116, e80, s80_0, s80_1, s80_2, s80_5, s80_8, s80_9, s80_11, s80_14, s80_15, s80_16, s80_17, s80_20, s80_21, s80_22, s80_25, s80_26, s80_27, s80_28, s80_29, s80_32, s80_35, s80_36, s80_39, s80_40, s80_41, s80_42, s80_43, s80_44, s80_45, s80_46, s80_47, s80_48, b01_ok, b_ft, b_tf, b01_e0, b01_e1, lgc_0, not_true_eq_false, not_false_eq_true, m_isKnowerI M.1 g, ki, show decide (dg tp (i + 1) < vn S) = false from decide_eq_false (by omega), b01_f, if_true]
      exact k0 (by simp [h7])
    · by_cases h6 : 39 < dd tp (i + 2)
      · simp only [e75, s75_0, s75_1, s75_2, s75_3, s75_4, s75_5, s75_8, s75_9, tst_107, oB_some, cl2_i, cl2_r, cl2_l, cl2_u, cl2_s, wd_0, wd_i, wd_r, wd_l, wd_f, ct_i, ct_r, ct_n, ct_f, rf_s, rf_n, tl_s, tl_n, true_and, and_true, eq_self, and_self, Nat.reduceAdd, Nat.reduceLeDiff, Nat.zero_le, Nat.reduceEqDiff, or_true, true_or, false_or, or_false, if_true, if_false, gI_0, gI_1, gI_2, gI_3, gI_4, gI_5, gI_6, gI_7, gI_8, gI_9, gI_10, gI_11, gI_12, gI_13, gI_14, gI_15, gL_0, gL_1, gL_2, gL_3, gL_4, gL_5, gL_6, gL_7, gL_8, gL_9, gL_10, gL_11, gL_12, gL_13, gL_14, gL_15, gA_0, gA_1, gA_2, gA_3, gA_4, gA_5, gA_6, gA_7, gA_8, gA_9, gA_10, gA_11, gA_12, gA_13, gA_14, gA_15, p1_0, p1_1, p1_2, p1_3, p1_4, p1_5, p1_6, p1_7, p1_8, p1_9, p1_10, p1_11, p1_12, p1_13, p1_14, p1_15, p2_0, p2_1, p2_2, p2_3, p2_4, p2_5, p2_6, p2_7, p2_8, p2_9, p2_10, p2_11, p2_12, p2_13, p2_14, p2_15, K, mm, ix_nI j31, nI_pos' j31, hj, t1, ix_nI p31, nI_pos' p31, p66, ix_nI q31, nI_pos' q31, q66, nI_1, u1, u2', s75_98, s75_99, s75_100, s75_103, s75_104, s75_105, s75_106, s75_109, s75_110, s75_111, s75_112, s75_113, s75_116, e80, s80_0, s80_1, s80_2, s80_5, s80_8, s80_9, s80_11, s80_14, s80_15, b01_ok, b_ft, b_tf, b01_e0, b01_e1, lgc_0, not_true_eq_false, not_false_eq_true, m_isKnowerI M.1 g, ki, show decide (dg tp (i + 1) < vn S) = true from decide_eq_true (by omega), b01_t, Bool.true_eq_false, z10, r8, show ¬ dd tp (i + 2) < 40 by omega, if_false]
        exact k0 (by simp [h6])
      · simp only [e75, s75_0, s75_1, s75_2, s75_3, s75_4, s75_5, s75_8, s75_9, tst_107, oB_some, cl2_i, cl2_r, cl2_l, cl2_u, cl2_s, wd_0, wd_i, wd_r, wd_l, wd_f, ct_i, ct_r, ct_n, ct_f, rf_s, rf_n, tl_s, tl_n, true_and, and_true, eq_self, and_self, Nat.reduceAdd, Nat.reduceLeDiff, Nat.zero_le, Nat.reduceEqDiff, or_true, true_or, false_or, or_false, if_true, if_false, gI_0, gI_1, gI_2, gI_3, gI_4, gI_5, gI_6, gI_7, gI_8, gI_9, gI_10, gI_11, gI_12, gI_13, gI_14, gI_15, gL_0, gL_1, gL_2, gL_3, gL_4, gL_5, gL_6, gL_7, gL_8, gL_9, gL_10, gL_11, gL_12, gL_13, gL_14, gL_15, gA_0, gA_1, gA_2, gA_3, gA_4, gA_5, gA_6, gA_7, gA_8, gA_9, gA_10, gA_11, gA_12, gA_13, gA_14, gA_15, p1_0, p1_1, p1_2, p1_3, p1_4, p1_5, p1_6, p1_7, p1_8, p1_9, p1_10, p1_11, p1_12, p1_13, p1_14, p1_15, p2_0, p2_1, p2_2, p2_3, p2_4, p2_5, p2_6, p2_7, p2_8, p2_9, p2_10, p2_11, p2_12, p2_13, p2_14, p2_15, K, mm, ix_nI j31, nI_pos' j31, hj, t1, ix_nI p31, nI_pos' p31, p66, ix_nI q31, nI_pos' q31, q66, nI_1, u1, u2', s75_98, s75_99, s75_100, s75_103, s75_104, s75_105, s75_106, s75_109, s75_110, s75_111, s75_112, s75_113, s75_116]
        refine m_comesKnowing M g (by rw [ki]; exact decide_eq_true (by omega)) (by omega) fun h2 f2 q2 => ?_
        simp only [s75_116, oB_some, cl2_i, cl2_r, cl2_l, cl2_u, cl2_s, wd_0, wd_i, wd_r, wd_l, wd_f, ct_i, ct_r, ct_n, ct_f, rf_s, rf_n, tl_s, tl_n, true_and, and_true, eq_self, and_self, Nat.reduceAdd, Nat.reduceLeDiff, Nat.zero_le, Nat.reduceEqDiff, or_true, true_or, false_or, or_false, if_true, if_false, gI_0, gI_1, gI_2, gI_3, gI_4, gI_5, gI_6, gI_7, gI_8, gI_9, gI_10, gI_11, gI_12, gI_13, gI_14, gI_15, gL_0, gL_1, gL_2, gL_3, gL_4, gL_5, gL_6, gL_7, gL_8, gL_9, gL_10, gL_11, gL_12, gL_13, gL_14, gL_15, gA_0, gA_1, gA_2, gA_3, gA_4, gA_5, gA_6, gA_7, gA_8, gA_9, gA_10, gA_11, gA_12, gA_13, gA_14, gA_15, p1_0, p1_1, p1_2, p1_3, p1_4, p1_5, p1_6, p1_7, p1_8, p1_9, p1_10, p1_11, p1_12, p1_13, p1_14, p1_15, p2_0, p2_1, p2_2, p2_3, p2_4, p2_5, p2_6, p2_7, p2_8, p2_9, p2_10, p2_11, p2_12, p2_13, p2_14, p2_15]
        rw [lrn_n (by omega)] at q2
        exact k _ (by rw [if_neg (by omega)]) h2 f2 q2
  · have t1 := s1
    rw [e] at t1
    have u1 := s5 (by omega) (by omega) (by omega)
    simp only [e, Nat.reduceEqDiff, if_true, if_false] at k0 k
    by_cases h6 : 39 < dd tp (i + 1)
    · simp only [e75, s75_0, s75_1, s75_2, s75_3, s75_4, s75_5, s75_8, s75_9, tst_115, oB_some, cl2_i, cl2_r, cl2_l, cl2_u, cl2_s, wd_0, wd_i, wd_r, wd_l, wd_f, ct_i, ct_r, ct_n, ct_f, rf_s, rf_n, tl_s, tl_n, true_and, and_true, eq_self, and_self, Nat.reduceAdd, Nat.reduceLeDiff, Nat.zero_le, Nat.reduceEqDiff, or_true, true_or, false_or, or_false, if_true, if_false, gI_0, gI_1, gI_2, gI_3, gI_4, gI_5, gI_6, gI_7, gI_8, gI_9, gI_10, gI_11, gI_12, gI_13, gI_14, gI_15, gL_0, gL_1, gL_2, gL_3, gL_4, gL_5, gL_6, gL_7, gL_8, gL_9, gL_10, gL_11, gL_12, gL_13, gL_14, gL_15, gA_0, gA_1, gA_2, gA_3, gA_4, gA_5, gA_6, gA_7, gA_8, gA_9, gA_10, gA_11, gA_12, gA_13, gA_14, gA_15, p1_0, p1_1, p1_2, p1_3, p1_4, p1_5, p1_6, p1_7, p1_8, p1_9, p1_10, p1_11, p1_12, p1_13, p1_14, p1_15, p2_0, p2_1, p2_2, p2_3, p2_4, p2_5, p2_6, p2_7, p2_8, p2_9, p2_10, p2_11, p2_12, p2_13, p2_14, p2_15, K, mm, ix_nI j31, nI_pos' j31, hj, t1, ix_nI p31, nI_pos' p31, p66, ix_nI q31, nI_pos' q31, q66, nI_1, u1, s75_117, s75_118, s75_119, s75_120, s75_123, s75_124, s75_125, s75_128, e80, s80_0, s80_1, s80_2, s80_5, s80_8, s80_9, s80_11, s80_14, s80_15, b01_ok, b_ft, b_tf, b01_e0, b01_e1, lgc_0, not_true_eq_false, not_false_eq_true, m_isKnowerI M.1 g, show isKI S (-1) = true from rfl, b01_t, Bool.true_eq_false, z10, r1, show ¬ dd tp (i + 1) < 40 by omega, if_false]
      exact k0 (by simp [h6])
    · simp only [e75, s75_0, s75_1, s75_2, s75_3, s75_4, s75_5, s75_8, s75_9, tst_115, oB_some, cl2_i, cl2_r, cl2_l, cl2_u, cl2_s, wd_0, wd_i, wd_r, wd_l, wd_f, ct_i, ct_r, ct_n, ct_f, rf_s, rf_n, tl_s, tl_n, true_and, and_true, eq_self, and_self, Nat.reduceAdd, Nat.reduceLeDiff, Nat.zero_le, Nat.reduceEqDiff, or_true, true_or, false_or, or_false, if_true, if_false, gI_0, gI_1, gI_2, gI_3, gI_4, gI_5, gI_6, gI_7, gI_8, gI_9, gI_10, gI_11, gI_12, gI_13, gI_14, gI_15, gL_0, gL_1, gL_2, gL_3, gL_4, gL_5, gL_6, gL_7, gL_8, gL_9, gL_10, gL_11, gL_12, gL_13, gL_14, gL_15, gA_0, gA_1, gA_2, gA_3, gA_4, gA_5, gA_6, gA_7, gA_8, gA_9, gA_10, gA_11, gA_12, gA_13, gA_14, gA_15, p1_0, p1_1, p1_2, p1_3, p1_4, p1_5, p1_6, p1_7, p1_8, p1_9, p1_10, p1_11, p1_12, p1_13, p1_14, p1_15, p2_0, p2_1, p2_2, p2_3, p2_4, p2_5, p2_6, p2_7, p2_8, p2_9, p2_10, p2_11, p2_12, p2_13, p2_14, p2_15, K, mm, ix_nI j31, nI_pos' j31, hj, t1, ix_nI p31, nI_pos' p31, p66, ix_nI q31, nI_pos' q31, q66, nI_1, u1, s75_117, s75_118, s75_119, s75_120, s75_123, s75_124, s75_125, s75_128]
      refine m_comesKnowing M g rfl (by omega) fun h2 f2 q2 => ?_
      simp only [s75_128, oB_some, cl2_i, cl2_r, cl2_l, cl2_u, cl2_s, wd_0, wd_i, wd_r, wd_l, wd_f, ct_i, ct_r, ct_n, ct_f, rf_s, rf_n, tl_s, tl_n, true_and, and_true, eq_self, and_self, Nat.reduceAdd, Nat.reduceLeDiff, Nat.zero_le, Nat.reduceEqDiff, or_true, true_or, false_or, or_false, if_true, if_false, gI_0, gI_1, gI_2, gI_3, gI_4, gI_5, gI_6, gI_7, gI_8, gI_9, gI_10, gI_11, gI_12, gI_13, gI_14, gI_15, gL_0, gL_1, gL_2, gL_3, gL_4, gL_5, gL_6, gL_7, gL_8, gL_9, gL_10, gL_11, gL_12, gL_13, gL_14, gL_15, gA_0, gA_1, gA_2, gA_3, gA_4, gA_5, gA_6, gA_7, gA_8, gA_9, gA_10, gA_11, gA_12, gA_13, gA_14, gA_15, p1_0, p1_1, p1_2, p1_3, p1_4, p1_5, p1_6, p1_7, p1_8, p1_9, p1_10, p1_11, p1_12, p1_13, p1_14, p1_15, p2_0, p2_1, p2_2, p2_3, p2_4, p2_5, p2_6, p2_7, p2_8, p2_9, p2_10, p2_11, p2_12, p2_13, p2_14, p2_15]
      have le : lrn S (-1) (bL (dd tp (i + 1))) = wS S (vs S ||| bL (dd tp (i + 1))) := by unfold lrn; rw [if_pos rfl]
      rw [le] at q2
      exact k _ (by rw [if_neg (by omega)]) h2 f2 q2
  · have t1 := s1
    rw [e] at t1
    have u1 := s5 (by omega) (by omega) (by omega)
    simp only [e, Nat.reduceEqDiff, if_true, if_false] at k0 k
    simp only [e75, s75_0, s75_1, s75_2, s75_3, s75_4, s75_5, s75_8, s75_9, tst_120, oB_some, cl2_i, cl2_r, cl2_l, cl2_u, cl2_s, wd_0, wd_i, wd_r, wd_l, wd_f, ct_i, ct_r, ct_n, ct_f, rf_s, rf_n, tl_s, tl_n, true_and, and_true, eq_self, and_self, Nat.reduceAdd, Nat.reduceLeDiff, Nat.zero_le, Nat.reduceEqDiff, or_true, true_or, false_or, or_false, if_true, if_false, gI_0, gI_1, gI_2, gI_3, gI_4, gI_5, gI_6, gI_7, gI_8, gI_9, gI_10, gI_11, gI_12, gI_13, gI_14, gI_15, gL_0, gL_1, gL_2, gL_3, gL_4, gL_5, gL_6, gL_7, gL_8, gL_9, gL_10, gL_11, gL_12, gL_13, gL_14, gL_15, gA_0, gA_1, gA_2, gA_3, gA_4, gA_5, gA_6, gA_7, gA_8, gA_9, gA_10, gA_11, gA_12, gA_13, gA_14, gA_15, p1_0, p1_1, p1_2, p1_3, p1_4, p1_5, p1_6, p1_7, p1_8, p1_9, p1_10, p1_11, p1_12, p1_13, p1_14, p1_15, p2_0, p2_1, p2_2, p2_3, p2_4, p2_5, p2_6, p2_7, p2_8, p2_9, p2_10, p2_11, p2_12, p2_13, p2_14, p2_15, K, mm, ix_nI j31, nI_pos' j31, hj, t1, ix_nI p31, nI_pos' p31, p66, ix_nI q31, nI_pos' q31, q66, nI_1, u1, s75_129, s75_130, s75_131, s75_134, s75_135, s75_136, s75_139, e82, s82_0, s82_1, s82_3, s82_6, s82_7, s82_8, s82_9, s82_10, s82_13, s82_14, s82_15, s82_16, s82_17, s82_20, s82_21, z_hkd_sI, z_hln_sI, z_hL_sI, z_hR_sI, z_hnx_sI, z_hkd_sL, z_hln_sL, z_hI_sL, z_hR_sL, z_hnx_sL, z_hkd_sR, z_hln_sR, z_hI_sR, z_hL_sR, z_hnx_sR, z_hkd_cI, z_hln_cI, z_hL_cI, z_hR_cI, z_hnx_cI, z_hkd_cLg, z_hln_cLg, z_hI_cLg, z_hR_cLg, z_hnx_cLg, b01_ok, b_ft, b_tf, b01_e0, b01_e1, lgc_0, not_true_eq_false, not_false_eq_true, r1, M.1.o]
    by_cases h6 : 39 < dd tp (i + 1)
    · simp only [show ¬ dd tp (i + 1) < 40 by omega, if_false]
      exact k0 (by simp [h6])
    · simp only [show dd tp (i + 1) < 40 by omega, if_true, shl_bL (dd tp (i + 1)) (by omega)]
      exact k _ (by rw [if_neg (by omega)]) _ (FQ.rf.sL (Or.inl rfl)) ⟨RM_o M.1 _, M.2.wL⟩
  · have t1 := s1
    rw [e] at t1
    have u1 := s5 (by omega) (by omega) (by omega)
    simp only [e, Nat.reduceEqDiff, if_true, if_false] at k0 k
    have n114 : (nI 114 = 114) = True := eq_true rfl
    simp only [e75, s75_0, s75_1, s75_2, s75_3, s75_4, s75_5, s75_8, s75_9, tst_114, oB_some, cl2_i, cl2_r, cl2_l, cl2_u, cl2_s, wd_0, wd_i, wd_r, wd_l, wd_f, ct_i, ct_r, ct_n, ct_f, rf_s, rf_n, tl_s, tl_n, true_and, and_true, eq_self, and_self, Nat.reduceAdd, Nat.reduceLeDiff, Nat.zero_le, Nat.reduceEqDiff, or_true, true_or, false_or, or_false, if_true, if_false, gI_0, gI_1, gI_2, gI_3, gI_4, gI_5, gI_6, gI_7, gI_8, gI_9, gI_10, gI_11, gI_12, gI_13, gI_14, gI_15, gL_0, gL_1, gL_2, gL_3, gL_4, gL_5, gL_6, gL_7, gL_8, gL_9, gL_10, gL_11, gL_12, gL_13, gL_14, gL_15, gA_0, gA_1, gA_2, gA_3, gA_4, gA_5, gA_6, gA_7, gA_8, gA_9, gA_10, gA_11, gA_12, gA_13, gA_14, gA_15, p1_0, p1_1, p1_2, p1_3, p1_4, p1_5, p1_6, p1_7, p1_8, p1_9, p1_10, p1_11, p1_12, p1_13, p1_14, p1_15, p2_0, p2_1, p2_2, p2_3, p2_4, p2_5, p2_6, p2_7, p2_8, p2_9, p2_10, p2_11, p2_12, p2_13, p2_14, p2_15, K, mm, ix_nI j31, nI_pos' j31, hj, t1, ix_nI p31, nI_pos' p31, p66, ix_nI q31, nI_pos' q31, q66, nI_1, u1, n114, s75_140, s75_141, s75_142, s75_145, s75_146, s75_147, s75_148, s75_151, s75_152, s75_153, s75_156, e83, s83_0, s83_1, s83_3, s83_6, s83_7, s83_9, s83_12, s83_13, s83_14, s83_15, s83_16, s83_19, s83_20, z_hkd_sI, z_hln_sI, z_hL_sI, z_hR_sI, z_hnx_sI, z_hkd_sL, z_hln_sL, z_hI_sL, z_hR_sL, z_hnx_sL, z_hkd_sR, z_hln_sR, z_hI_sR, z_hL_sR, z_hnx_sR, z_hkd_cI, z_hln_cI, z_hL_cI, z_hR_cI, z_hnx_cI, z_hkd_cLg, z_hln_cLg, z_hI_cLg, z_hR_cLg, z_hnx_cLg, b01_ok, b_ft, b_tf, b01_e0, b01_e1, lgc_0, not_true_eq_false, not_false_eq_true, r2]
    by_cases h6 : 18 < dd tp (i + 1)
    · simp only [Nat.not_le.mpr h6, if_false]
      exact k0 (by simp [h6])
    · simp only [Nat.not_lt.mp h6, if_true]
      exact k _ (by rw [if_neg (by omega)]) _ (FQ.rf.sI (Or.inl ⟨rfl, by omega⟩)) ⟨RM_u M.1 _, M.2.w (Or.inr (by decide))⟩
  · have t1 := s1
    rw [e] at t1
    have u1 := s5 (by omega) (by omega) (by omega)
    simp only [e, Nat.reduceEqDiff, if_true, if_false] at k0 k
    have n100 : (nI 100 = 114) = False := eq_false (by decide)
    have c1 : ((1 : Int32) ≤ nI (dd tp (i + 1))) = (1 ≤ dd tp (i + 1)) := propext (nI_leI (a := 1) (by decide) (by omega))
    have c2 : (nI (dd tp (i + 1)) ≤ (60 : Int32)) = (dd tp (i + 1) ≤ 60) := propext (nI_leI (b := 60) (by omega) (by decide))
    have c3 : nI (vy S) + nI (dd tp (i + 1)) = nI (vy S + dd tp (i + 1)) := nI_add _ _
    have c4 : (nI (vy S + dd tp (i + 1)) ≤ 999) = (vy S + dd tp (i + 1) ≤ 999) := propext (nI_leI (b := 999) (by omega) (by decide))
    simp only [e75, s75_0, s75_1, s75_2, s75_3, s75_4, s75_5, s75_8, s75_9, tst_100, oB_some, cl2_i, cl2_r, cl2_l, cl2_u, cl2_s, wd_0, wd_i, wd_r, wd_l, wd_f, ct_i, ct_r, ct_n, ct_f, rf_s, rf_n, tl_s, tl_n, true_and, and_true, eq_self, and_self, Nat.reduceAdd, Nat.reduceLeDiff, Nat.zero_le, Nat.reduceEqDiff, or_true, true_or, false_or, or_false, if_true, if_false, gI_0, gI_1, gI_2, gI_3, gI_4, gI_5, gI_6, gI_7, gI_8, gI_9, gI_10, gI_11, gI_12, gI_13, gI_14, gI_15, gL_0, gL_1, gL_2, gL_3, gL_4, gL_5, gL_6, gL_7, gL_8, gL_9, gL_10, gL_11, gL_12, gL_13, gL_14, gL_15, gA_0, gA_1, gA_2, gA_3, gA_4, gA_5, gA_6, gA_7, gA_8, gA_9, gA_10, gA_11, gA_12, gA_13, gA_14, gA_15, p1_0, p1_1, p1_2, p1_3, p1_4, p1_5, p1_6, p1_7, p1_8, p1_9, p1_10, p1_11, p1_12, p1_13, p1_14, p1_15, p2_0, p2_1, p2_2, p2_3, p2_4, p2_5, p2_6, p2_7, p2_8, p2_9, p2_10, p2_11, p2_12, p2_13, p2_14, p2_15, K, mm, ix_nI j31, nI_pos' j31, hj, t1, ix_nI p31, nI_pos' p31, p66, ix_nI q31, nI_pos' q31, q66, nI_1, u1, n100, s75_140, s75_141, s75_142, s75_145, s75_146, s75_147, s75_148, s75_151, s75_152, s75_153, s75_156, e83, s83_0, s83_1, s83_3, s83_6, s83_7, s83_9, s83_12, s83_13, s83_14, s83_15, s83_16, s83_19, s83_20, s83_21, s83_22, s83_23, s83_25, s83_28, s83_31, s83_32, s83_35, s83_36, s83_37, s83_40, s83_43, s83_44, z_hkd_sI, z_hln_sI, z_hL_sI, z_hR_sI, z_hnx_sI, z_hkd_sL, z_hln_sL, z_hI_sL, z_hR_sL, z_hnx_sL, z_hkd_sR, z_hln_sR, z_hI_sR, z_hL_sR, z_hnx_sR, z_hkd_cI, z_hln_cI, z_hL_cI, z_hR_cI, z_hnx_cI, z_hkd_cLg, z_hln_cLg, z_hI_cLg, z_hR_cLg, z_hnx_cLg, b01_ok, b_ft, b_tf, b01_e0, b01_e1, lgc_0, not_true_eq_false, not_false_eq_true, c1, c2, c3, c4, m_isIn, M.1.y]
    by_cases h6 : 1 ≤ dd tp (i + 1) ∧ dd tp (i + 1) ≤ 60
    · by_cases h8 : vy S + dd tp (i + 1) ≤ 999
      · simp only [show decide (1 ≤ dd tp (i + 1) ∧ dd tp (i + 1) ≤ 60) = true from decide_eq_true h6, b01_t, Bool.true_eq_false, z10, h8, if_true, if_false, s83_45, s83_46, s83_47, oB_some, cl2_i, cl2_r, cl2_l, cl2_u, cl2_s, wd_0, wd_i, wd_r, wd_l, wd_f, ct_i, ct_r, ct_n, ct_f, rf_s, rf_n, tl_s, tl_n, true_and, and_true, eq_self, and_self, Nat.reduceAdd, Nat.reduceLeDiff, Nat.zero_le, Nat.reduceEqDiff, or_true, true_or, false_or, or_false, if_true, if_false, gI_0, gI_1, gI_2, gI_3, gI_4, gI_5, gI_6, gI_7, gI_8, gI_9, gI_10, gI_11, gI_12, gI_13, gI_14, gI_15, gL_0, gL_1, gL_2, gL_3, gL_4, gL_5, gL_6, gL_7, gL_8, gL_9, gL_10, gL_11, gL_12, gL_13, gL_14, gL_15, gA_0, gA_1, gA_2, gA_3, gA_4, gA_5, gA_6, gA_7, gA_8, gA_9, gA_10, gA_11, gA_12, gA_13, gA_14, gA_15, p1_0, p1_1, p1_2, p1_3, p1_4, p1_5, p1_6, p1_7, p1_8, p1_9, p1_10, p1_11, p1_12, p1_13, p1_14, p1_15, p2_0, p2_1, p2_2, p2_3, p2_4, p2_5, p2_6, p2_7, p2_8, p2_9, p2_10, p2_11, p2_12, p2_13, p2_14, p2_15, K]
        refine m_goes M.1 g M.2 (by decide) (show vy S + dd tp (i + 1) < 2 ^ 20 by omega) fun h2 f2 q2 => ?_
        simp only [s83_50, s83_51, s75_156, oB_some, cl2_i, cl2_r, cl2_l, cl2_u, cl2_s, wd_0, wd_i, wd_r, wd_l, wd_f, ct_i, ct_r, ct_n, ct_f, rf_s, rf_n, tl_s, tl_n, true_and, and_true, eq_self, and_self, Nat.reduceAdd, Nat.reduceLeDiff, Nat.zero_le, Nat.reduceEqDiff, or_true, true_or, false_or, or_false, if_true, if_false, gI_0, gI_1, gI_2, gI_3, gI_4, gI_5, gI_6, gI_7, gI_8, gI_9, gI_10, gI_11, gI_12, gI_13, gI_14, gI_15, gL_0, gL_1, gL_2, gL_3, gL_4, gL_5, gL_6, gL_7, gL_8, gL_9, gL_10, gL_11, gL_12, gL_13, gL_14, gL_15, gA_0, gA_1, gA_2, gA_3, gA_4, gA_5, gA_6, gA_7, gA_8, gA_9, gA_10, gA_11, gA_12, gA_13, gA_14, gA_15, p1_0, p1_1, p1_2, p1_3, p1_4, p1_5, p1_6, p1_7, p1_8, p1_9, p1_10, p1_11, p1_12, p1_13, p1_14, p1_15, p2_0, p2_1, p2_2, p2_3, p2_4, p2_5, p2_6, p2_7, p2_8, p2_9, p2_10, p2_11, p2_12, p2_13, p2_14, p2_15]
        exact k _ (by rw [if_pos ⟨h6.1, h6.2, h8⟩]) h2 f2.fq ⟨q2, M.2.kept f2⟩
      · simp only [show decide (1 ≤ dd tp (i + 1) ∧ dd tp (i + 1) ≤ 60) = true from decide_eq_true h6, b01_t, Bool.true_eq_false, z10, h8, if_false]
        exact k0 (by rw [if_neg (by omega)])
    · simp only [show decide (1 ≤ dd tp (i + 1) ∧ dd tp (i + 1) ≤ 60) = false from decide_eq_false h6, b01_f, if_true]
      exact k0 (by rw [if_neg (by omega)])

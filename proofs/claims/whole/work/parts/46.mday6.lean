theorem rubs_wB {dm sh : Bool} {S : VS} {b : List Ltr} {l : Ltr} : rubs dm sh (wB S b) l = rubs dm sh S l := rfl
theorem left1_wB {dm sh : Bool} {S : VS} {b : List Ltr} {l : Ltr} : left1 dm sh (wB S b) l = wB (left1 dm sh S l) b := by
  unfold left1
  dsimp only
  rw [rubs_wB]
  split <;> rfl
theorem word1_wB {dm sh : Bool} {S : VS} {b : List Ltr} {l : Ltr} : word1 dm sh (wB S b) l = word1 dm sh S l := by
  unfold word1
  rw [rubs_wB]
  rfl
theorem had1_wB {dm sh : Bool} {S : VS} {b : List Ltr} {l : Ltr} : had1 dm sh (wB S b) l = wB (had1 dm sh S l) b := by
  unfold had1
  dsimp only
  rw [word1_wB, left1_wB]
  split <;> rfl
theorem hadAll_wB {dm sh : Bool} {b : List Ltr} : ∀ {L : List Ltr} {S : VS}, hadAll dm sh L (wB S b) = wB (hadAll dm sh L S) b
  | [], S => rfl
  | l :: t, S => by
    show hadAll dm sh t (had1 dm sh (wB S b) l) = wB (hadAll dm sh t (had1 dm sh S l)) b
    rw [had1_wB]
    exact hadAll_wB
/-- how many come to nothing -/
def spoil (dm sh : Bool) : List Ltr → VS → Nat
  | [], _ => 0
  | l :: t, S => (if word1 dm sh S l = 0 then 1 else 0) + spoil dm sh t (had1 dm sh S l)
theorem goodRest {dm sh : Bool} {S : VS} {l : Ltr} {t : List Ltr} (g : Good S) (e : vb S = l :: t) : Good (wB (had1 dm sh S l) t) := by
  have gl : Gl (vn S) l := g.b (by rw [e]; exact List.mem_cons_self)
  refine (had1_good g gl).wB ?_ ?_
  · have := g.l
    rw [e, List.length_cons] at this
    omega
  · intro x hx
    rw [had1_vn]
    exact g.b (by rw [e]; exact List.mem_cons_of_mem _ hx)
set_option maxHeartbeats 8000000 in
theorem m_goesDay {d : Nat} {Q : PQ} {h : HP} {m ink : Nat} {dm sh : Bool} {S : VS} (q : RM h m S) (g : Good S) (f : FMl h m ink dm sh) (hi : ink < 64) (hy : vy S + 1 < 2 ^ 20)
    (k : ∀ h', FD m h h' → RM h' m (day1 ink dm sh S) → Q none h') : Ev (d + 6) 88 [.ref m] h Q := by
  have inner : ∀ (n i : Nat) (h1 : HP) (S1 : VS), i + n = vn S1 → RM h1 m S1 → Good S1 → FMl h1 m ink dm sh → FD m h h1 → writAll ink n i S1 = day1 ink dm sh S →
      WP (d + 5) 88 Q (49, [.val (.ref m), .val (.int (nI i))], [], h1, 0, 0) := by
    intro n
    induction n with
    | zero =>
      intro i h1 S1 hi1 q1 g1 f1 m1 e1
      obtain rfl : i = vn S1 := by omega
      have K := q1.k
      unfold MK at K
      rw [s88_49]
      simp only [s88_50, s88_51, s88_54, s88_57, s88_58, s88_59, s88_62, s88_65, s88_68, oB_some, cl2_i, cl2_r, cl2_l, cl2_u, cl2_s, wd_0, wd_i, wd_r, wd_l, wd_f, ct_i, ct_r, ct_n, ct_f, rf_s, rf_n, tl_s, tl_n, true_and, and_true, eq_self, and_self, Nat.reduceAdd, Nat.reduceLeDiff, Nat.zero_le, Nat.reduceEqDiff, or_true, true_or, false_or, or_false, if_true, if_false, gI_0, gI_1, gI_2, gI_3, gI_4, gI_5, gI_6, gI_7, gI_8, gI_9, gI_10, gI_11, gI_12, gI_13, gI_14, gI_15, gL_0, gL_1, gL_2, gL_3, gL_4, gL_5, gL_6, gL_7, gL_8, gL_9, gL_10, gL_11, gL_12, gL_13, gL_14, gL_15, gA_0, gA_1, gA_2, gA_3, gA_4, gA_5, gA_6, gA_7, gA_8, gA_9, gA_10, gA_11, gA_12, gA_13, gA_14, gA_15, p1_0, p1_1, p1_2, p1_3, p1_4, p1_5, p1_6, p1_7, p1_8, p1_9, p1_10, p1_11, p1_12, p1_13, p1_14, p1_15, p2_0, p2_1, p2_2, p2_3, p2_4, p2_5, p2_6, p2_7, p2_8, p2_9, p2_10, p2_11, p2_12, p2_13, p2_14, p2_15, b01_ok, b_ft, b_tf, b01_e0, b01_e1, lgc_0, not_true_eq_false, not_false_eq_true, K, q1.n, Int32.le_refl]
      refine k h1 m1 ?_
      rw [← e1]
      exact q1
    | succ n ih =>
      intro i h1 S1 hi1 q1 g1 f1 m1 e1
      have K := q1.k
      unfold MK at K
      rw [s88_49]
      have z : ¬ nI (vn S1) ≤ nI i := nI_ge (by omega) (by have := g1.n; omega)
      simp only [s88_50, s88_51, s88_54, s88_57, s88_58, s88_59, s88_62, s88_65, s88_68, oB_some, cl2_i, cl2_r, cl2_l, cl2_u, cl2_s, wd_0, wd_i, wd_r, wd_l, wd_f, ct_i, ct_r, ct_n, ct_f, rf_s, rf_n, tl_s, tl_n, true_and, and_true, eq_self, and_self, Nat.reduceAdd, Nat.reduceLeDiff, Nat.zero_le, Nat.reduceEqDiff, or_true, true_or, false_or, or_false, if_true, if_false, gI_0, gI_1, gI_2, gI_3, gI_4, gI_5, gI_6, gI_7, gI_8, gI_9, gI_10, gI_11, gI_12, gI_13, gI_14, gI_15, gL_0, gL_1, gL_2, gL_3, gL_4, gL_5, gL_6, gL_7, gL_8, gL_9, gL_10, gL_11, gL_12, gL_13, gL_14, gL_15, gA_0, gA_1, gA_2, gA_3, gA_4, gA_5, gA_6, gA_7, gA_8, gA_9, gA_10, gA_11, gA_12, gA_13, gA_14, gA_15, p1_0, p1_1, p1_2, p1_3, p1_4, p1_5, p1_6, p1_7, p1_8, p1_9, p1_10, p1_11, p1_12, p1_13, p1_14, p1_15, p2_0, p2_1, p2_2, p2_3, p2_4, p2_5, p2_6, p2_7, p2_8, p2_9, p2_10, p2_11, p2_12, p2_13, p2_14, p2_15, b01_ok, b_ft, b_tf, b01_e0, b01_e1, lgc_0, not_true_eq_false, not_false_eq_true, K, q1.n, z]
      refine m_writes q1 g1 f1 hi (show i < vn S1 by omega) fun h2 m2 s2 q2 => ?_
      simp only [s88_50, s88_51, s88_54, s88_57, s88_58, s88_59, s88_62, s88_65, s88_68, oB_some, cl2_i, cl2_r, cl2_l, cl2_u, cl2_s, wd_0, wd_i, wd_r, wd_l, wd_f, ct_i, ct_r, ct_n, ct_f, rf_s, rf_n, tl_s, tl_n, true_and, and_true, eq_self, and_self, Nat.reduceAdd, Nat.reduceLeDiff, Nat.zero_le, Nat.reduceEqDiff, or_true, true_or, false_or, or_false, if_true, if_false, gI_0, gI_1, gI_2, gI_3, gI_4, gI_5, gI_6, gI_7, gI_8, gI_9, gI_10, gI_11, gI_12, gI_13, gI_14, gI_15, gL_0, gL_1, gL_2, gL_3, gL_4, gL_5, gL_6, gL_7, gL_8, gL_9, gL_10, gL_11, gL_12, gL_13, gL_14, gL_15, gA_0, gA_1, gA_2, gA_3, gA_4, gA_5, gA_6, gA_7, gA_8, gA_9, gA_10, gA_11, gA_12, gA_13, gA_14, gA_15, p1_0, p1_1, p1_2, p1_3, p1_4, p1_5, p1_6, p1_7, p1_8, p1_9, p1_10, p1_11, p1_12, p1_13, p1_14, p1_15, p2_0, p2_1, p2_2, p2_3, p2_4, p2_5, p2_6, p2_7, p2_8, p2_9, p2_10, p2_11, p2_12, p2_13, p2_14, p2_15, b01_ok, b_ft, b_tf, b01_e0, b01_e1, lgc_0, not_true_eq_false, not_false_eq_true, nI_1]
      exact ih (i + 1) h2 _ (by rw [writ_vn]; omega) q2 (writ_good g1 (by omega)) (f1.kept m2) (m1.tr m2) e1
  have loop : ∀ (n : Nat) (h1 : HP) (S1 : VS), n ≤ (vb S1).length → RM h1 m S1 → Good S1 → FMl h1 m ink dm sh → FD m h h1 → vn S1 = vn S →
      (writAll ink (vn S) 0 (wB (hadAll dm sh ((vb S1).take n) S1) ((vb S1).drop n)) = day1 ink dm sh S) →
      WP (d + 5) 88 Q (27, [.val (.ref m), .val (.int (nI n))], [], h1, 0, 0) := by
    intro n
    induction n with
    | zero =>
      intro h1 S1 hl q1 g1 f1 m1 n1 e1
      rw [s88_27]
      simp only [s88_28, s88_31, s88_32, s88_33, s88_36, s88_37, s88_38, s88_41, s88_44, s88_47, s88_48, oB_some, cl2_i, cl2_r, cl2_l, cl2_u, cl2_s, wd_0, wd_i, wd_r, wd_l, wd_f, ct_i, ct_r, ct_n, ct_f, rf_s, rf_n, tl_s, tl_n, true_and, and_true, eq_self, and_self, Nat.reduceAdd, Nat.reduceLeDiff, Nat.zero_le, Nat.reduceEqDiff, or_true, true_or, false_or, or_false, if_true, if_false, gI_0, gI_1, gI_2, gI_3, gI_4, gI_5, gI_6, gI_7, gI_8, gI_9, gI_10, gI_11, gI_12, gI_13, gI_14, gI_15, gL_0, gL_1, gL_2, gL_3, gL_4, gL_5, gL_6, gL_7, gL_8, gL_9, gL_10, gL_11, gL_12, gL_13, gL_14, gL_15, gA_0, gA_1, gA_2, gA_3, gA_4, gA_5, gA_6, gA_7, gA_8, gA_9, gA_10, gA_11, gA_12, gA_13, gA_14, gA_15, p1_0, p1_1, p1_2, p1_3, p1_4, p1_5, p1_6, p1_7, p1_8, p1_9, p1_10, p1_11, p1_12, p1_13, p1_14, p1_15, p2_0, p2_1, p2_2, p2_3, p2_4, p2_5, p2_6, p2_7, p2_8, p2_9, p2_10, p2_11, p2_12, p2_13, p2_14, p2_15, b01_ok, b_ft, b_tf, b01_e0, b01_e1, lgc_0, not_true_eq_false, not_false_eq_true, nI_0, Int32.le_refl]
      have e2 : wB (hadAll dm sh ((vb S1).take 0) S1) ((vb S1).drop 0) = S1 := by rw [List.take_zero, List.drop_zero]; rfl
      rw [e2] at e1
      have i0 := inner (vn S1) 0 h1 S1 (by omega) q1 g1 f1 m1 (by rw [n1]; exact e1)
      exact i0
    | succ n ih =>
      intro h1 S1 hl q1 g1 f1 m1 n1 e1
      have K := q1.k
      unfold MK at K
      rw [s88_27]
      have z : ¬ nI (n + 1) ≤ 0 := nI_nle (by omega) (by have := g1.l; omega)
      cases eb : vb S1 with
      | nil => rw [eb, List.length_nil] at hl; omega
      | cons l t =>
        have hj : (vb S1)[0]? = some l := by rw [eb]; rfl
        simp only [s88_28, s88_31, s88_32, s88_33, s88_36, s88_37, s88_38, s88_41, s88_44, s88_47, s88_48, oB_some, cl2_i, cl2_r, cl2_l, cl2_u, cl2_s, wd_0, wd_i, wd_r, wd_l, wd_f, ct_i, ct_r, ct_n, ct_f, rf_s, rf_n, tl_s, tl_n, true_and, and_true, eq_self, and_self, Nat.reduceAdd, Nat.reduceLeDiff, Nat.zero_le, Nat.reduceEqDiff, or_true, true_or, false_or, or_false, if_true, if_false, gI_0, gI_1, gI_2, gI_3, gI_4, gI_5, gI_6, gI_7, gI_8, gI_9, gI_10, gI_11, gI_12, gI_13, gI_14, gI_15, gL_0, gL_1, gL_2, gL_3, gL_4, gL_5, gL_6, gL_7, gL_8, gL_9, gL_10, gL_11, gL_12, gL_13, gL_14, gL_15, gA_0, gA_1, gA_2, gA_3, gA_4, gA_5, gA_6, gA_7, gA_8, gA_9, gA_10, gA_11, gA_12, gA_13, gA_14, gA_15, p1_0, p1_1, p1_2, p1_3, p1_4, p1_5, p1_6, p1_7, p1_8, p1_9, p1_10, p1_11, p1_12, p1_13, p1_14, p1_15, p2_0, p2_1, p2_2, p2_3, p2_4, p2_5, p2_6, p2_7, p2_8, p2_9, p2_10, p2_11, p2_12, p2_13, p2_14, p2_15, b01_ok, b_ft, b_tf, b01_e0, b01_e1, lgc_0, not_true_eq_false, not_false_eq_true, K, z]
        refine m_hasLetter (j := 0) q1 g1 f1 hj fun h2 m2 s2 q2 => ?_
        have K2 := q2.k
        unfold MK at K2
        simp only [s88_28, s88_31, s88_32, s88_33, s88_36, s88_37, s88_38, s88_41, s88_44, s88_47, s88_48, oB_some, cl2_i, cl2_r, cl2_l, cl2_u, cl2_s, wd_0, wd_i, wd_r, wd_l, wd_f, ct_i, ct_r, ct_n, ct_f, rf_s, rf_n, tl_s, tl_n, true_and, and_true, eq_self, and_self, Nat.reduceAdd, Nat.reduceLeDiff, Nat.zero_le, Nat.reduceEqDiff, or_true, true_or, false_or, or_false, if_true, if_false, gI_0, gI_1, gI_2, gI_3, gI_4, gI_5, gI_6, gI_7, gI_8, gI_9, gI_10, gI_11, gI_12, gI_13, gI_14, gI_15, gL_0, gL_1, gL_2, gL_3, gL_4, gL_5, gL_6, gL_7, gL_8, gL_9, gL_10, gL_11, gL_12, gL_13, gL_14, gL_15, gA_0, gA_1, gA_2, gA_3, gA_4, gA_5, gA_6, gA_7, gA_8, gA_9, gA_10, gA_11, gA_12, gA_13, gA_14, gA_15, p1_0, p1_1, p1_2, p1_3, p1_4, p1_5, p1_6, p1_7, p1_8, p1_9, p1_10, p1_11, p1_12, p1_13, p1_14, p1_15, p2_0, p2_1, p2_2, p2_3, p2_4, p2_5, p2_6, p2_7, p2_8, p2_9, p2_10, p2_11, p2_12, p2_13, p2_14, p2_15, b01_ok, b_ft, b_tf, b01_e0, b01_e1, lgc_0, not_true_eq_false, not_false_eq_true, K2]
        have vb2 : vb (had1 dm sh S1 l) = l :: t := had1_vb.trans eb
        refine m_leavesBag (a := 0) q2 (by rw [vb2, ← eb]; exact g1.l) (by rw [vb2, List.length_cons]; omega) fun h3 m3 q3 => ?_
        rw [vb2, List.eraseIdx_cons_zero] at q3
        have pm : nI (n + 1) + -1 = nI n := pk_m1 n
        simp only [s88_28, s88_31, s88_32, s88_33, s88_36, s88_37, s88_38, s88_41, s88_44, s88_47, s88_48, oB_some, cl2_i, cl2_r, cl2_l, cl2_u, cl2_s, wd_0, wd_i, wd_r, wd_l, wd_f, ct_i, ct_r, ct_n, ct_f, rf_s, rf_n, tl_s, tl_n, true_and, and_true, eq_self, and_self, Nat.reduceAdd, Nat.reduceLeDiff, Nat.zero_le, Nat.reduceEqDiff, or_true, true_or, false_or, or_false, if_true, if_false, gI_0, gI_1, gI_2, gI_3, gI_4, gI_5, gI_6, gI_7, gI_8, gI_9, gI_10, gI_11, gI_12, gI_13, gI_14, gI_15, gL_0, gL_1, gL_2, gL_3, gL_4, gL_5, gL_6, gL_7, gL_8, gL_9, gL_10, gL_11, gL_12, gL_13, gL_14, gL_15, gA_0, gA_1, gA_2, gA_3, gA_4, gA_5, gA_6, gA_7, gA_8, gA_9, gA_10, gA_11, gA_12, gA_13, gA_14, gA_15, p1_0, p1_1, p1_2, p1_3, p1_4, p1_5, p1_6, p1_7, p1_8, p1_9, p1_10, p1_11, p1_12, p1_13, p1_14, p1_15, p2_0, p2_1, p2_2, p2_3, p2_4, p2_5, p2_6, p2_7, p2_8, p2_9, p2_10, p2_11, p2_12, p2_13, p2_14, p2_15, b01_ok, b_ft, b_tf, b01_e0, b01_e1, lgc_0, not_true_eq_false, not_false_eq_true, pm]
        refine ih h3 _ ?_ q3 (goodRest g1 eb) ((f1.kept m2).kept m3.fd) (m1.tr (m2.tr m3.fd)) (had1_vn.trans n1) ?_
        · show n ≤ t.length
          rw [eb, List.length_cons] at hl
          omega
        · rw [← e1, eb, List.take_succ_cons, List.drop_succ_cons]
          show writAll ink (vn S) 0 (wB (hadAll dm sh (t.take n) (wB (had1 dm sh S1 l) t)) (t.drop n)) = _
          rw [hadAll_wB]
          rfl
  have K := q.k
  unfold MK at K
  have gl := g.l
  have q1 := RM_y q (vy S + 1)
  have g1 := g.wY hy
  have f1 : FMl (sI h m 16 (nI (vy S + 1))) m ink dm sh := f.kept (FD.rf.sI (Or.inl ⟨rfl, by omega⟩))
  have n12 : hI (sI h m 16 (nI (vy S + 1))) m 12 = nI (vb S).length := q1.m
  simp only [e88, s88_0, s88_1, s88_2, s88_5, s88_6, s88_7, s88_10, s88_11, s88_14, s88_15, s88_18, s88_19, s88_22, s88_25, s88_26, oB_some, cl2_i, cl2_r, cl2_l, cl2_u, cl2_s, wd_0, wd_i, wd_r, wd_l, wd_f, ct_i, ct_r, ct_n, ct_f, rf_s, rf_n, tl_s, tl_n, true_and, and_true, eq_self, and_self, Nat.reduceAdd, Nat.reduceLeDiff, Nat.zero_le, Nat.reduceEqDiff, or_true, true_or, false_or, or_false, if_true, if_false, gI_0, gI_1, gI_2, gI_3, gI_4, gI_5, gI_6, gI_7, gI_8, gI_9, gI_10, gI_11, gI_12, gI_13, gI_14, gI_15, gL_0, gL_1, gL_2, gL_3, gL_4, gL_5, gL_6, gL_7, gL_8, gL_9, gL_10, gL_11, gL_12, gL_13, gL_14, gL_15, gA_0, gA_1, gA_2, gA_3, gA_4, gA_5, gA_6, gA_7, gA_8, gA_9, gA_10, gA_11, gA_12, gA_13, gA_14, gA_15, p1_0, p1_1, p1_2, p1_3, p1_4, p1_5, p1_6, p1_7, p1_8, p1_9, p1_10, p1_11, p1_12, p1_13, p1_14, p1_15, p2_0, p2_1, p2_2, p2_3, p2_4, p2_5, p2_6, p2_7, p2_8, p2_9, p2_10, p2_11, p2_12, p2_13, p2_14, p2_15, b01_ok, b_ft, b_tf, b01_e0, b01_e1, lgc_0, not_true_eq_false, not_false_eq_true, z_hkd_sI, z_hln_sI, z_hL_sI, z_hR_sI, z_hnx_sI, z_hkd_sL, z_hln_sL, z_hI_sL, z_hR_sL, z_hnx_sL, z_hkd_sR, z_hln_sR, z_hI_sR, z_hL_sR, z_hnx_sR, z_hkd_cI, z_hln_cI, z_hL_cI, z_hR_cI, z_hnx_cI, z_hkd_cLg, z_hln_cLg, z_hI_cLg, z_hR_cLg, z_hnx_cLg, K, q.y, nI_1, n12]
  have fin : ∀ n, n = min 3 (vb S).length → WP (d + 5) 88 Q (27, [.val (.ref m), .val (.int (nI n))], [], sI h m 16 (nI (vy S + 1)), 0, 0) := by
    rintro n rfl
    refine loop (min 3 (vb S).length) _ (wY S (vy S + 1)) (Nat.min_le_right _ _) q1 g1 f1 (FD.rf.sI (Or.inl ⟨rfl, by omega⟩)) rfl ?_
    have e1 := take_min (vb S)
    rw [List.drop_zero] at e1
    show writAll ink (vn S) 0 (wB (hadAll dm sh ((vb S).take (min 3 (vb S).length)) (wY S (vy S + 1))) ((vb S).drop (min 3 (vb S).length))) = _
    rw [e1, drop_min]
    rfl
  by_cases h3 : 3 ≤ (vb S).length
  · rw [if_pos (show (3 : Int32) ≤ nI (vb S).length from nI_le (a := 3) h3 (by omega))]
    exact fin 3 (by omega)
  · rw [if_neg (show ¬ (3 : Int32) ≤ nI (vb S).length from nI_ge (b := 3) (by omega) (by decide))]
    exact fin _ (by omega)
set_option maxHeartbeats 4000000 in
theorem m_goes {d : Nat} {Q : PQ} {h : HP} {m n ink : Nat} {dm sh : Bool} {S : VS} (q : RM h m S) (g : Good S) (f : FMl h m ink dm sh) (hi : ink < 64) (hn : vy S + n < 2 ^ 20)
    (k : ∀ h', FD m h h' → RM h' m (dayN ink dm sh n S) → Q none h') : Ev (d + 7) 87 [.ref m, .int (nI n)] h Q := by
  have loop : ∀ (c j : Nat) (h1 : HP) (S1 : VS), j + c = n → RM h1 m S1 → Good S1 → FMl h1 m ink dm sh → FD m h h1 → vy S1 + c < 2 ^ 20 → dayN ink dm sh c S1 = dayN ink dm sh n S →
      WP (d + 6) 87 Q (2, [.val (.ref m), .val (.int (nI n)), .val (.int (nI j))], [], h1, 0, 0) := by
    intro c
    induction c with
    | zero =>
      intro j h1 S1 hj q1 g1 f1 m1 y1 e1
      obtain rfl : j = n := by omega
      rw [s87_2]
      simp only [s87_0, s87_1, s87_3, s87_4, s87_7, s87_8, s87_11, s87_14, s87_17, oB_some, cl2_i, cl2_r, cl2_l, cl2_u, cl2_s, wd_0, wd_i, wd_r, wd_l, wd_f, ct_i, ct_r, ct_n, ct_f, rf_s, rf_n, tl_s, tl_n, true_and, and_true, eq_self, and_self, Nat.reduceAdd, Nat.reduceLeDiff, Nat.zero_le, Nat.reduceEqDiff, or_true, true_or, false_or, or_false, if_true, if_false, gI_0, gI_1, gI_2, gI_3, gI_4, gI_5, gI_6, gI_7, gI_8, gI_9, gI_10, gI_11, gI_12, gI_13, gI_14, gI_15, gL_0, gL_1, gL_2, gL_3, gL_4, gL_5, gL_6, gL_7, gL_8, gL_9, gL_10, gL_11, gL_12, gL_13, gL_14, gL_15, gA_0, gA_1, gA_2, gA_3, gA_4, gA_5, gA_6, gA_7, gA_8, gA_9, gA_10, gA_11, gA_12, gA_13, gA_14, gA_15, p1_0, p1_1, p1_2, p1_3, p1_4, p1_5, p1_6, p1_7, p1_8, p1_9, p1_10, p1_11, p1_12, p1_13, p1_14, p1_15, p2_0, p2_1, p2_2, p2_3, p2_4, p2_5, p2_6, p2_7, p2_8, p2_9, p2_10, p2_11, p2_12, p2_13, p2_14, p2_15, b01_ok, b_ft, b_tf, b01_e0, b01_e1, lgc_0, not_true_eq_false, not_false_eq_true, Int32.le_refl]
      refine k h1 m1 ?_
      rw [← e1]
      exact q1
    | succ c ih =>
      intro j h1 S1 hj q1 g1 f1 m1 y1 e1
      have K := q1.k
      unfold MK at K
      rw [s87_2]
      have z : ¬ nI n ≤ nI j := nI_ge (by omega) (by omega)
      simp only [s87_0, s87_1, s87_3, s87_4, s87_7, s87_8, s87_11, s87_14, s87_17, oB_some, cl2_i, cl2_r, cl2_l, cl2_u, cl2_s, wd_0, wd_i, wd_r, wd_l, wd_f, ct_i, ct_r, ct_n, ct_f, rf_s, rf_n, tl_s, tl_n, true_and, and_true, eq_self, and_self, Nat.reduceAdd, Nat.reduceLeDiff, Nat.zero_le, Nat.reduceEqDiff, or_true, true_or, false_or, or_false, if_true, if_false, gI_0, gI_1, gI_2, gI_3, gI_4, gI_5, gI_6, gI_7, gI_8, gI_9, gI_10, gI_11, gI_12, gI_13, gI_14, gI_15, gL_0, gL_1, gL_2, gL_3, gL_4, gL_5, gL_6, gL_7, gL_8, gL_9, gL_10, gL_11, gL_12, gL_13, gL_14, gL_15, gA_0, gA_1, gA_2, gA_3, gA_4, gA_5, gA_6, gA_7, gA_8, gA_9, gA_10, gA_11, gA_12, gA_13, gA_14, gA_15, p1_0, p1_1, p1_2, p1_3, p1_4, p1_5, p1_6, p1_7, p1_8, p1_9, p1_10, p1_11, p1_12, p1_13, p1_14, p1_15, p2_0, p2_1, p2_2, p2_3, p2_4, p2_5, p2_6, p2_7, p2_8, p2_9, p2_10, p2_11, p2_12, p2_13, p2_14, p2_15, b01_ok, b_ft, b_tf, b01_e0, b01_e1, lgc_0, not_true_eq_false, not_false_eq_true, K, z]
      refine m_goesDay q1 g1 f1 hi (by omega) fun h2 m2 q2 => ?_
      have k1 := day1_keep (ink := ink) (dm := dm) (sh := sh) g1 (by omega)
      simp only [s87_0, s87_1, s87_3, s87_4, s87_7, s87_8, s87_11, s87_14, s87_17, oB_some, cl2_i, cl2_r, cl2_l, cl2_u, cl2_s, wd_0, wd_i, wd_r, wd_l, wd_f, ct_i, ct_r, ct_n, ct_f, rf_s, rf_n, tl_s, tl_n, true_and, and_true, eq_self, and_self, Nat.reduceAdd, Nat.reduceLeDiff, Nat.zero_le, Nat.reduceEqDiff, or_true, true_or, false_or, or_false, if_true, if_false, gI_0, gI_1, gI_2, gI_3, gI_4, gI_5, gI_6, gI_7, gI_8, gI_9, gI_10, gI_11, gI_12, gI_13, gI_14, gI_15, gL_0, gL_1, gL_2, gL_3, gL_4, gL_5, gL_6, gL_7, gL_8, gL_9, gL_10, gL_11, gL_12, gL_13, gL_14, gL_15, gA_0, gA_1, gA_2, gA_3, gA_4, gA_5, gA_6, gA_7, gA_8, gA_9, gA_10, gA_11, gA_12, gA_13, gA_14, gA_15, p1_0, p1_1, p1_2, p1_3, p1_4, p1_5, p1_6, p1_7, p1_8, p1_9, p1_10, p1_11, p1_12, p1_13, p1_14, p1_15, p2_0, p2_1, p2_2, p2_3, p2_4, p2_5, p2_6, p2_7, p2_8, p2_9, p2_10, p2_11, p2_12, p2_13, p2_14, p2_15, b01_ok, b_ft, b_tf, b01_e0, b01_e1, lgc_0, not_true_eq_false, not_false_eq_true, nI_1]
      exact ih (j + 1) h2 _ (by omega) q2 k1.1 (f1.kept m2) (m1.tr m2) (by rw [k1.2.2]; omega) e1
  simp only [e87, s87_0, s87_1, s87_3, s87_4, s87_7, s87_8, s87_11, s87_14, s87_17, oB_some, cl2_i, cl2_r, cl2_l, cl2_u, cl2_s, wd_0, wd_i, wd_r, wd_l, wd_f, ct_i, ct_r, ct_n, ct_f, rf_s, rf_n, tl_s, tl_n, true_and, and_true, eq_self, and_self, Nat.reduceAdd, Nat.reduceLeDiff, Nat.zero_le, Nat.reduceEqDiff, or_true, true_or, false_or, or_false, if_true, if_false, gI_0, gI_1, gI_2, gI_3, gI_4, gI_5, gI_6, gI_7, gI_8, gI_9, gI_10, gI_11, gI_12, gI_13, gI_14, gI_15, gL_0, gL_1, gL_2, gL_3, gL_4, gL_5, gL_6, gL_7, gL_8, gL_9, gL_10, gL_11, gL_12, gL_13, gL_14, gL_15, gA_0, gA_1, gA_2, gA_3, gA_4, gA_5, gA_6, gA_7, gA_8, gA_9, gA_10, gA_11, gA_12, gA_13, gA_14, gA_15, p1_0, p1_1, p1_2, p1_3, p1_4, p1_5, p1_6, p1_7, p1_8, p1_9, p1_10, p1_11, p1_12, p1_13, p1_14, p1_15, p2_0, p2_1, p2_2, p2_3, p2_4, p2_5, p2_6, p2_7, p2_8, p2_9, p2_10, p2_11, p2_12, p2_13, p2_14, p2_15, b01_ok, b_ft, b_tf, b01_e0, b01_e1, lgc_0, not_true_eq_false, not_false_eq_true]
  exact loop n 0 h S (by omega) q g f FD.rf hn rfl

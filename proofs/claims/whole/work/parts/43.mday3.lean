-- needs: 16.num 17.small 18.bits 20.spec 21.kinds 22.rep 23.bag 24.bag2 25.get 30.day 31.have 32.day2 33.day3 40.mrep
theorem bit_in {x0 x : Int64} {b : Nat} (hs : x &&& x0 = x) (hx : hb x b = true) (hb64 : b < 64) : (x0 &&& (x ^^^ -1)) ||| bL b = x0 &&& ((x &&& (bL b ^^^ -1)) ^^^ -1) := by
  apply hb_ext
  intro j hj
  have e := congrArg (hb · j) hs
  simp only [hb_and] at e
  simp only [hb_and, hb_or, hb_xor, hb_m1 hj, hb_bL j hb64]
  by_cases hjb : j = b
  · subst hjb
    rw [hx] at e ⊢
    revert e
    cases hb x0 j <;> simp
  · rw [decide_eq_false hjb]
    cases hb x0 j <;> cases hb x j <;> simp
theorem sub_and {x0 x y : Int64} (hs : x &&& x0 = x) : (x &&& y) &&& x0 = x &&& y := by
  apply hb_ext
  intro j hj
  have e := congrArg (hb · j) hs
  simp only [hb_and] at e ⊢
  revert e
  cases hb x0 j <;> cases hb x j <;> cases hb y j <;> simp
theorem self_out (x : Int64) : x &&& (x ^^^ -1) = 0 := by
  apply hb_ext
  intro j hj
  simp only [hb_and, hb_xor, hb_m1 hj, hb_0]
  cases hb x j <;> simp
set_option maxHeartbeats 8000000 in
theorem m_picked {d : Nat} {Q : PQ} {h : HP} {m p : Nat} {S : VS} (q : RM h m S) (g : Good S) (hp : p < vn S) : Ev (d + 3) 99 [.ref m, .int (nI p)] h Q = Q (some (.long (pick1 S p))) h := by
  have K := q.k
  unfold MK at K
  have gn := g.n
  obtain ⟨g1, g2, g3, g4, g5⟩ := g.at hp
  obtain ⟨a1, a2, a3, a4, a5⟩ := q.at hp
  have p31 : p < 2 ^ 31 := by omega
  have p6 : p < 6 := by omega
  have loop : ∀ (n : Nat) (x : Int64) (y z : Slot), n < 100 → sm x → x &&& (vw S p &&& (vx S p ^^^ -1)) = x →
      WP (d + 2) 99 Q (32, [.val (.ref m), .val (.int (nI p)), .val (.long x), .second, .val (.long ((vw S p &&& (vx S p ^^^ -1)) &&& (x ^^^ -1))), .second, .val (.int (nI n)), y, z], [], h, 0, 0) = Q (some (.long ((vw S p &&& (vx S p ^^^ -1)) &&& (rmv (backN (vk S p)) n x ^^^ -1)))) h := by
    intro n
    induction n with
    | zero =>
      intro x y z hn hx hs
      rw [s99_32]
      simp only [s99_0, s99_1, s99_4, s99_5, s99_6, s99_7, s99_10, s99_11, s99_12, s99_15, s99_16, s99_17, s99_18, s99_19, s99_21, s99_22, s99_25, s99_26, s99_27, s99_30, s99_34, s99_37, s99_38, s99_39, s99_40, s99_43, s99_44, s99_45, s99_48, s99_49, s99_50, s99_53, s99_56, s99_57, s99_60, s99_63, s99_64, s99_65, s99_68, s99_69, s99_71, s99_73, s99_75, s99_76, s99_78, s99_79, s99_81, s99_84, s99_85, s99_86, s99_87, s99_90, s99_93, s99_95, oB_some, cl2_i, cl2_r, cl2_l, cl2_u, cl2_s, wd_0, wd_i, wd_r, wd_l, wd_f, ct_i, ct_r, ct_n, ct_f, rf_s, rf_n, tl_s, tl_n, true_and, and_true, eq_self, and_self, Nat.reduceAdd, Nat.reduceLeDiff, Nat.zero_le, Nat.reduceEqDiff, or_true, true_or, false_or, or_false, if_true, if_false, gI_0, gI_1, gI_2, gI_3, gI_4, gI_5, gI_6, gI_7, gI_8, gI_9, gI_10, gI_11, gI_12, gI_13, gI_14, gI_15, gL_0, gL_1, gL_2, gL_3, gL_4, gL_5, gL_6, gL_7, gL_8, gL_9, gL_10, gL_11, gL_12, gL_13, gL_14, gL_15, gA_0, gA_1, gA_2, gA_3, gA_4, gA_5, gA_6, gA_7, gA_8, gA_9, gA_10, gA_11, gA_12, gA_13, gA_14, gA_15, p1_0, p1_1, p1_2, p1_3, p1_4, p1_5, p1_6, p1_7, p1_8, p1_9, p1_10, p1_11, p1_12, p1_13, p1_14, p1_15, p2_0, p2_1, p2_2, p2_3, p2_4, p2_5, p2_6, p2_7, p2_8, p2_9, p2_10, p2_11, p2_12, p2_13, p2_14, p2_15, b01_ok, b_ft, b_tf, b01_e0, b01_e1, lgc_0, not_true_eq_false, not_false_eq_true, nI_0, Int32.le_refl]
      rfl
    | succ n ih =>
      intro x y z hn hx hs
      rw [s99_32]
      have z1 : ¬ nI (n + 1) ≤ 0 := nI_nle (by omega) (by omega)
      by_cases h0 : x = 0
      · subst h0
        simp only [s99_0, s99_1, s99_4, s99_5, s99_6, s99_7, s99_10, s99_11, s99_12, s99_15, s99_16, s99_17, s99_18, s99_19, s99_21, s99_22, s99_25, s99_26, s99_27, s99_30, s99_34, s99_37, s99_38, s99_39, s99_40, s99_43, s99_44, s99_45, s99_48, s99_49, s99_50, s99_53, s99_56, s99_57, s99_60, s99_63, s99_64, s99_65, s99_68, s99_69, s99_71, s99_73, s99_75, s99_76, s99_78, s99_79, s99_81, s99_84, s99_85, s99_86, s99_87, s99_90, s99_93, s99_95, oB_some, cl2_i, cl2_r, cl2_l, cl2_u, cl2_s, wd_0, wd_i, wd_r, wd_l, wd_f, ct_i, ct_r, ct_n, ct_f, rf_s, rf_n, tl_s, tl_n, true_and, and_true, eq_self, and_self, Nat.reduceAdd, Nat.reduceLeDiff, Nat.zero_le, Nat.reduceEqDiff, or_true, true_or, false_or, or_false, if_true, if_false, gI_0, gI_1, gI_2, gI_3, gI_4, gI_5, gI_6, gI_7, gI_8, gI_9, gI_10, gI_11, gI_12, gI_13, gI_14, gI_15, gL_0, gL_1, gL_2, gL_3, gL_4, gL_5, gL_6, gL_7, gL_8, gL_9, gL_10, gL_11, gL_12, gL_13, gL_14, gL_15, gA_0, gA_1, gA_2, gA_3, gA_4, gA_5, gA_6, gA_7, gA_8, gA_9, gA_10, gA_11, gA_12, gA_13, gA_14, gA_15, p1_0, p1_1, p1_2, p1_3, p1_4, p1_5, p1_6, p1_7, p1_8, p1_9, p1_10, p1_11, p1_12, p1_13, p1_14, p1_15, p2_0, p2_1, p2_2, p2_3, p2_4, p2_5, p2_6, p2_7, p2_8, p2_9, p2_10, p2_11, p2_12, p2_13, p2_14, p2_15, b01_ok, b_ft, b_tf, b01_e0, b01_e1, lgc_0, not_true_eq_false, not_false_eq_true, z1]
        rw [rmv, if_pos rfl]
      · obtain ⟨o1, o2, o3⟩ := oneOf_some (b := backN (vk S p)) hx h0
        have e : rmv (backN (vk S p)) (n + 1) x = rmv (backN (vk S p)) n (x &&& (bL (oneOf (backN (vk S p)) x) ^^^ -1)) := by rw [rmv, if_neg h0]
        have b64 : oneOf (backN (vk S p)) x < 64 := by omega
        rw [e, ← ih (x &&& (bL (oneOf (backN (vk S p)) x) ^^^ -1)) (.val (.long (bL (oneOf (backN (vk S p)) x)))) .second (by omega) (sm_and hx) (sub_and hs)]
        have ml : ∀ (Q2 : PQ), Ev (d + 2) 95 [.long x, .int 0] h Q2 = Q2 (some (.int (oN (lst x 0)))) h := fun Q2 => m_leastOf (f := 0) (by decide)
        have pm : nI (n + 1) + -1 = nI n := pk_m1 n
        by_cases bk1 : backN (vk S p) = true
        · have hbit : hb x (oneOf (backN (vk S p)) x) = true := (grA_some 40 _ (o2 bk1)).2.1
          rw [← bit_in hs hbit b64]
          simp only [s99_0, s99_1, s99_4, s99_5, s99_6, s99_7, s99_10, s99_11, s99_12, s99_15, s99_16, s99_17, s99_18, s99_19, s99_21, s99_22, s99_25, s99_26, s99_27, s99_30, s99_34, s99_37, s99_38, s99_39, s99_40, s99_43, s99_44, s99_45, s99_48, s99_49, s99_50, s99_53, s99_56, s99_57, s99_60, s99_63, s99_64, s99_65, s99_68, s99_69, s99_71, s99_73, s99_75, s99_76, s99_78, s99_79, s99_81, s99_84, s99_85, s99_86, s99_87, s99_90, s99_93, s99_95, oB_some, cl2_i, cl2_r, cl2_l, cl2_u, cl2_s, wd_0, wd_i, wd_r, wd_l, wd_f, ct_i, ct_r, ct_n, ct_f, rf_s, rf_n, tl_s, tl_n, true_and, and_true, eq_self, and_self, Nat.reduceAdd, Nat.reduceLeDiff, Nat.zero_le, Nat.reduceEqDiff, or_true, true_or, false_or, or_false, if_true, if_false, gI_0, gI_1, gI_2, gI_3, gI_4, gI_5, gI_6, gI_7, gI_8, gI_9, gI_10, gI_11, gI_12, gI_13, gI_14, gI_15, gL_0, gL_1, gL_2, gL_3, gL_4, gL_5, gL_6, gL_7, gL_8, gL_9, gL_10, gL_11, gL_12, gL_13, gL_14, gL_15, gA_0, gA_1, gA_2, gA_3, gA_4, gA_5, gA_6, gA_7, gA_8, gA_9, gA_10, gA_11, gA_12, gA_13, gA_14, gA_15, p1_0, p1_1, p1_2, p1_3, p1_4, p1_5, p1_6, p1_7, p1_8, p1_9, p1_10, p1_11, p1_12, p1_13, p1_14, p1_15, p2_0, p2_1, p2_2, p2_3, p2_4, p2_5, p2_6, p2_7, p2_8, p2_9, p2_10, p2_11, p2_12, p2_13, p2_14, p2_15, b01_ok, b_ft, b_tf, b01_e0, b01_e1, lgc_0, not_true_eq_false, not_false_eq_true, K, a1, ix_nI p31, nI_pos' p31, p6, z1, h0, m_isBackward g1, m_greatestOf, o2 bk1, oN_some, shl_bL _ b64, pm]
          rw [if_neg (by rw [bk1]; decide)]
        · have hbf : backN (vk S p) = false := by simpa using bk1
          have hbit : hb x (oneOf (backN (vk S p)) x) = true := (lst_0 (o3 hbf)).2.1
          rw [← bit_in hs hbit b64]
          simp only [s99_0, s99_1, s99_4, s99_5, s99_6, s99_7, s99_10, s99_11, s99_12, s99_15, s99_16, s99_17, s99_18, s99_19, s99_21, s99_22, s99_25, s99_26, s99_27, s99_30, s99_34, s99_37, s99_38, s99_39, s99_40, s99_43, s99_44, s99_45, s99_48, s99_49, s99_50, s99_53, s99_56, s99_57, s99_60, s99_63, s99_64, s99_65, s99_68, s99_69, s99_71, s99_73, s99_75, s99_76, s99_78, s99_79, s99_81, s99_84, s99_85, s99_86, s99_87, s99_90, s99_93, s99_95, oB_some, cl2_i, cl2_r, cl2_l, cl2_u, cl2_s, wd_0, wd_i, wd_r, wd_l, wd_f, ct_i, ct_r, ct_n, ct_f, rf_s, rf_n, tl_s, tl_n, true_and, and_true, eq_self, and_self, Nat.reduceAdd, Nat.reduceLeDiff, Nat.zero_le, Nat.reduceEqDiff, or_true, true_or, false_or, or_false, if_true, if_false, gI_0, gI_1, gI_2, gI_3, gI_4, gI_5, gI_6, gI_7, gI_8, gI_9, gI_10, gI_11, gI_12, gI_13, gI_14, gI_15, gL_0, gL_1, gL_2, gL_3, gL_4, gL_5, gL_6, gL_7, gL_8, gL_9, gL_10, gL_11, gL_12, gL_13, gL_14, gL_15, gA_0, gA_1, gA_2, gA_3, gA_4, gA_5, gA_6, gA_7, gA_8, gA_9, gA_10, gA_11, gA_12, gA_13, gA_14, gA_15, p1_0, p1_1, p1_2, p1_3, p1_4, p1_5, p1_6, p1_7, p1_8, p1_9, p1_10, p1_11, p1_12, p1_13, p1_14, p1_15, p2_0, p2_1, p2_2, p2_3, p2_4, p2_5, p2_6, p2_7, p2_8, p2_9, p2_10, p2_11, p2_12, p2_13, p2_14, p2_15, b01_ok, b_ft, b_tf, b01_e0, b01_e1, lgc_0, not_true_eq_false, not_false_eq_true, K, a1, ix_nI p31, nI_pos' p31, p6, z1, h0, m_isBackward g1, ml, o3 hbf, oN_some, shl_bL _ b64, pm]
          rw [if_pos hbf]
  have pl := @picks_lt (vk S p)
  have l0 := loop (picksN (vk S p)) (vw S p &&& (vx S p ^^^ -1)) .unset .unset (by omega) (sm_and g4) (by
    apply hb_ext
    intro j hj
    simp only [hb_and]
    cases hb (vw S p) j <;> cases hb (vx S p ^^^ -1) j <;> rfl)
  rw [self_out] at l0
  simp only [e99, s99_0, s99_1, s99_4, s99_5, s99_6, s99_7, s99_10, s99_11, s99_12, s99_15, s99_16, s99_17, s99_18, s99_19, s99_21, s99_22, s99_25, s99_26, s99_27, s99_30, s99_34, s99_37, s99_38, s99_39, s99_40, s99_43, s99_44, s99_45, s99_48, s99_49, s99_50, s99_53, s99_56, s99_57, s99_60, s99_63, s99_64, s99_65, s99_68, s99_69, s99_71, s99_73, s99_75, s99_76, s99_78, s99_79, s99_81, s99_84, s99_85, s99_86, s99_87, s99_90, s99_93, s99_95, oB_some, cl2_i, cl2_r, cl2_l, cl2_u, cl2_s, wd_0, wd_i, wd_r, wd_l, wd_f, ct_i, ct_r, ct_n, ct_f, rf_s, rf_n, tl_s, tl_n, true_and, and_true, eq_self, and_self, Nat.reduceAdd, Nat.reduceLeDiff, Nat.zero_le, Nat.reduceEqDiff, or_true, true_or, false_or, or_false, if_true, if_false, gI_0, gI_1, gI_2, gI_3, gI_4, gI_5, gI_6, gI_7, gI_8, gI_9, gI_10, gI_11, gI_12, gI_13, gI_14, gI_15, gL_0, gL_1, gL_2, gL_3, gL_4, gL_5, gL_6, gL_7, gL_8, gL_9, gL_10, gL_11, gL_12, gL_13, gL_14, gL_15, gA_0, gA_1, gA_2, gA_3, gA_4, gA_5, gA_6, gA_7, gA_8, gA_9, gA_10, gA_11, gA_12, gA_13, gA_14, gA_15, p1_0, p1_1, p1_2, p1_3, p1_4, p1_5, p1_6, p1_7, p1_8, p1_9, p1_10, p1_11, p1_12, p1_13, p1_14, p1_15, p2_0, p2_1, p2_2, p2_3, p2_4, p2_5, p2_6, p2_7, p2_8, p2_9, p2_10, p2_11, p2_12, p2_13, p2_14, p2_15, b01_ok, b_ft, b_tf, b01_e0, b01_e1, lgc_0, not_true_eq_false, not_false_eq_true, K, a1, a4, a5, ix_nI p31, nI_pos' p31, p6, m_picksOf g1]
  exact l0

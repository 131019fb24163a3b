theorem heldN {a b : Nat} (ha : a < 2 ^ 31) (hb : b < 2 ^ 31) : (if nI a ≤ nI b then nI a else nI b) = nI (min b a) := by
  simp only [leP ha hb]
  by_cases z : a ≤ b
  · rw [if_pos z, Nat.min_eq_right z]
  · rw [if_neg z, Nat.min_eq_left (by omega)]
theorem m_isPerson {d : Nat} {Q : PQ} {h : HP} {m : Nat} {f : Int32} {S : VS} (q : RM h m S) : Ev (d + 2) 82 [.ref m, .int f] h Q = Q (some (.int (b01 (decide (0 ≤ f ∧ f ≤ nI (vn S) - 1))))) h := by
  have k := q.k
  unfold MK at k
  simp only [e82, s82_0, s82_1, s82_2, s82_3, s82_6, s82_7, s82_8, s82_11, oB_some, cl2_i, cl2_r, cl2_l, cl2_u, cl2_s, wd_0, wd_i, wd_r, wd_l, wd_f, ct_i, ct_r, ct_n, ct_f, rf_s, rf_n, tl_s, tl_n, true_and, and_true, eq_self, and_self, Nat.reduceAdd, Nat.reduceLeDiff, Nat.zero_le, Nat.reduceEqDiff, or_true, true_or, false_or, or_false, if_true, if_false, gI_0, gI_1, gI_2, gI_3, gI_4, gI_5, gI_6, gI_7, gI_8, gI_9, gI_10, gI_11, gI_12, gI_13, gI_14, gI_15, gL_0, gL_1, gL_2, gL_3, gL_4, gL_5, gL_6, gL_7, gL_8, gL_9, gL_10, gL_11, gL_12, gL_13, gL_14, gL_15, gA_0, gA_1, gA_2, gA_3, gA_4, gA_5, gA_6, gA_7, gA_8, gA_9, gA_10, gA_11, gA_12, gA_13, gA_14, gA_15, p1_0, p1_1, p1_2, p1_3, p1_4, p1_5, p1_6, p1_7, p1_8, p1_9, p1_10, p1_11, p1_12, p1_13, p1_14, p1_15, p2_0, p2_1, p2_2, p2_3, p2_4, p2_5, p2_6, p2_7, p2_8, p2_9, p2_10, p2_11, p2_12, p2_13, p2_14, p2_15, b01_ok, b_ft, b_tf, b01_e0, b01_e1, lgc_0, not_true_eq_false, not_false_eq_true, k, q.n, m_isIn]
theorem isP {f n : Nat} (hf : f < 2 ^ 31) (hn : n < 2 ^ 31) (h1 : 1 ≤ n) : decide (0 ≤ nI f ∧ nI f ≤ nI n - 1) = decide (f < n) := by
  have e : nI n - 1 = nI (n - 1) := pk_sub (b := 1) h1
  rw [e]
  by_cases z : f < n
  · rw [decide_eq_true z, decide_eq_true]
    exact ⟨nI_pos' hf, nI_le (by omega) (by omega)⟩
  · rw [decide_eq_false z, decide_eq_false]
    exact fun c => nI_ge (a := n - 1) (b := f) (by omega) hf c.2
set_option maxHeartbeats 4000000 in
theorem m_putIn {d : Nat} {Q : PQ} {h : HP} {m t : Nat} {S : VS} (q : RM h m S) (g : Good S) (ht : t < vn S) : Ev (d + 3) 94 [.ref m, .int (nI t)] h Q = Q (some (.long (putIn S t))) h := by
  have k := q.k
  unfold MK at k
  have gn := g.n
  have t6 : t < 6 := by omega
  have t31 : t < 2 ^ 31 := by omega
  have l0 := m_leastOf (d := d) (Q := Q) (h := h) (x := vs S &&& (vo S ^^^ -1) &&& (vw S t ^^^ -1)) (f := 0) (by decide)
  have ml : ∀ (Q2 : PQ), Ev (d + 2) 95 [.long (vs S &&& (vo S ^^^ -1) &&& (vw S t ^^^ -1)), .int 0] h Q2 = Q2 (some (.int (oN (lst (vs S &&& (vo S ^^^ -1) &&& (vw S t ^^^ -1)) 0)))) h := fun Q2 => m_leastOf (f := 0) (by decide)
  simp only [e94, s94_0, s94_1, s94_4, s94_5, s94_8, s94_11, s94_12, s94_13, s94_14, s94_17, s94_18, s94_19, s94_22, s94_23, s94_24, s94_25, s94_28, s94_29, s94_30, s94_33, s94_34, s94_37, s94_38, s94_39, s94_40, oB_some, cl2_i, cl2_r, cl2_l, cl2_u, cl2_s, wd_0, wd_i, wd_r, wd_l, wd_f, ct_i, ct_r, ct_n, ct_f, rf_s, rf_n, tl_s, tl_n, true_and, and_true, eq_self, and_self, Nat.reduceAdd, Nat.reduceLeDiff, Nat.zero_le, Nat.reduceEqDiff, or_true, true_or, false_or, or_false, if_true, if_false, gI_0, gI_1, gI_2, gI_3, gI_4, gI_5, gI_6, gI_7, gI_8, gI_9, gI_10, gI_11, gI_12, gI_13, gI_14, gI_15, gL_0, gL_1, gL_2, gL_3, gL_4, gL_5, gL_6, gL_7, gL_8, gL_9, gL_10, gL_11, gL_12, gL_13, gL_14, gL_15, gA_0, gA_1, gA_2, gA_3, gA_4, gA_5, gA_6, gA_7, gA_8, gA_9, gA_10, gA_11, gA_12, gA_13, gA_14, gA_15, p1_0, p1_1, p1_2, p1_3, p1_4, p1_5, p1_6, p1_7, p1_8, p1_9, p1_10, p1_11, p1_12, p1_13, p1_14, p1_15, p2_0, p2_1, p2_2, p2_3, p2_4, p2_5, p2_6, p2_7, p2_8, p2_9, p2_10, p2_11, p2_12, p2_13, p2_14, p2_15, b01_ok, b_ft, b_tf, b01_e0, b01_e1, lgc_0, not_true_eq_false, not_false_eq_true, k, q.s, q.o, (q.at ht).2.2.2.1, ix_nI t31, nI_pos' t31, t6, ml]
  unfold putIn
  cases e : lst (vs S &&& (vo S ^^^ -1) &&& (vw S t ^^^ -1)) 0 with
  | none =>
    rw [oN_none, if_neg (by decide)]
  | some b =>
    have b40 := (lst_0 e).1
    rw [oN_some, if_pos (nI_pos' (by omega)), shl_bL b (by omega)]
set_option maxHeartbeats 8000000 in
theorem m_leftOf {d : Nat} {Q : PQ} {h : HP} {m j ink : Nat} {dm sh : Bool} {S : VS} {l : Ltr} (q : RM h m S) (g : Good S) (f : FMl h m ink dm sh) (hj : (vb S)[j]? = some l)
    (k : ∀ h', FD m h h' → hI h' m 20 = hI h m 20 → RM h' m (left1 dm sh S l) → Q (some (.long (word1 dm sh S l))) h') : Ev (d + 4) 90 [.ref m, .int (nI j)] h Q := by
  have gl := g.l
  have gn := g.n
  have gt := g.t
  have j24 : j < 24 := by have := (List.getElem?_eq_some_iff.mp hj).1; omega
  have j31 : j < 2 ^ 31 := by omega
  obtain ⟨l1, l2, l3, l4, l5, l6⟩ := g.b (List.mem_of_getElem? hj)
  have K := q.k
  unfold MK at K
  obtain ⟨f1, f2, f3⟩ := f
  obtain ⟨a1, a2, a3, a4, a5⟩ := q.lt hj
  have q1 := RM_s q (vs S ||| lC l)
  have g1 := g.wS (sm_or g.s l6)
  have e5 : (nI (lD l) = 5) = (lD l = 5) := eqP (b := 5) (show lD l < 2 ^ 31 by omega) (by decide)
  have hs : sm (lC l &&& vo S) := sm_and l6
  have hn := nb_le (lC l &&& vo S)
  have mb : ∀ (h2 : HP) (Q2 : PQ), Ev (d + 3) 91 [.long (lC l &&& vo S)] h2 Q2 = Q2 (some (.int (nI (nb (lC l &&& vo S))))) h2 := fun h2 Q2 => m_bits (d := d + 1)
  have hm : (if nI (vt S + nb (lC l &&& vo S)) ≤ 9999 then nI (vt S + nb (lC l &&& vo S)) else 9999) = nI (min 9999 (vt S + nb (lC l &&& vo S))) := heldN (b := 9999) (by omega) (by omega)
  have q2 := RM_t q1 (min 9999 (vt S + nb (lC l &&& vo S)))
  have g2 := g1.wT (u := min 9999 (vt S + nb (lC l &&& vo S))) (Nat.min_le_left _ _)
  have mp : ∀ (Q2 : PQ), Ev (d + 3) 94 [.ref m, .int (nI (lT l))] (sI (sL h m 17 (vs S ||| lC l)) m 15 (nI (min 9999 (vt S + nb (lC l &&& vo S))))) Q2 = Q2 (some (.long (putIn (wT (wS S (vs S ||| lC l)) (min 9999 (vt S + nb (lC l &&& vo S)))) (lT l)))) _ := fun Q2 => m_putIn q2 g2 l2
  have o1 : hL (sL h m 17 (vs S ||| lC l)) m 18 = vo S := q1.o
  have t2 : hI (sI (sL h m 17 (vs S ||| lC l)) m 15 (nI (min 9999 (vt S + nb (lC l &&& vo S))))) (m + 6) j = nI (lT l) := (q2.lt hj).2.1
  simp only [e90, s90_0, s90_1, s90_4, s90_5, s90_6, s90_7, s90_8, s90_11, s90_12, s90_13, s90_16, s90_17, s90_20, s90_23, s90_24, s90_27, s90_28, s90_29, s90_30, s90_33, s90_34, s90_35, s90_36, s90_37, s90_40, s90_41, s90_42, s90_45, s90_46, s90_49, s90_52, s90_53, s90_56, s90_57, s90_58, s90_59, s90_62, s90_63, s90_64, s90_65, s90_66, s90_69, s90_72, s90_73, s90_74, s90_77, s90_78, s90_79, s90_80, s90_83, s90_84, s90_85, s90_86, s90_87, s90_90, s90_91, s90_92, s90_95, s90_96, s90_99, s90_100, s90_103, s90_106, s90_109, s90_110, s90_111, s90_114, s90_117, s90_118, s90_119, s90_120, s90_121, s90_122, s90_123, s90_126, s90_127, s90_128, s90_131, s90_132, s90_133, s90_136, s90_139, s90_140, oB_some, cl2_i, cl2_r, cl2_l, cl2_u, cl2_s, wd_0, wd_i, wd_r, wd_l, wd_f, ct_i, ct_r, ct_n, ct_f, rf_s, rf_n, tl_s, tl_n, true_and, and_true, eq_self, and_self, Nat.reduceAdd, Nat.reduceLeDiff, Nat.zero_le, Nat.reduceEqDiff, or_true, true_or, false_or, or_false, if_true, if_false, gI_0, gI_1, gI_2, gI_3, gI_4, gI_5, gI_6, gI_7, gI_8, gI_9, gI_10, gI_11, gI_12, gI_13, gI_14, gI_15, gL_0, gL_1, gL_2, gL_3, gL_4, gL_5, gL_6, gL_7, gL_8, gL_9, gL_10, gL_11, gL_12, gL_13, gL_14, gL_15, gA_0, gA_1, gA_2, gA_3, gA_4, gA_5, gA_6, gA_7, gA_8, gA_9, gA_10, gA_11, gA_12, gA_13, gA_14, gA_15, p1_0, p1_1, p1_2, p1_3, p1_4, p1_5, p1_6, p1_7, p1_8, p1_9, p1_10, p1_11, p1_12, p1_13, p1_14, p1_15, p2_0, p2_1, p2_2, p2_3, p2_4, p2_5, p2_6, p2_7, p2_8, p2_9, p2_10, p2_11, p2_12, p2_13, p2_14, p2_15, b01_ok, b_ft, b_tf, b01_e0, b01_e1, lgc_0, not_true_eq_false, not_false_eq_true, z_hkd_sI, z_hln_sI, z_hL_sI, z_hR_sI, z_hnx_sI, z_hkd_sL, z_hln_sL, z_hI_sL, z_hR_sL, z_hnx_sL, z_hkd_sR, z_hln_sR, z_hI_sR, z_hL_sR, z_hnx_sR, z_hkd_cI, z_hln_cI, z_hL_cI, z_hR_cI, z_hnx_cI, z_hkd_cLg, z_hln_cLg, z_hI_cLg, z_hR_cLg, z_hnx_cLg, K, f2, f3, q.s, q.o, q.t, q.u, a2, a3, a4, a5, ix_nI j31, nI_pos' j31, j24, eq_l0 (show lD l < 2 ^ 31 by omega), e5, nI_add, ltP (show vu S < 2 ^ 31 by have := g.u; omega) (show lD l + lP l < 2 ^ 31 by omega), mb, m_held, hm, o1, t2, mp]
  have hsv : inkd sh l = false → she1 sh S l = vs S ||| lC l := fun e => by unfold she1; rw [e]; rfl
  have keep : inkd sh l = true → Q (some (.long (lC l))) h := by
    intro hi
    have hr : rubs dm sh S l = false := by unfold rubs; rw [hi]; rfl
    have hs : she1 sh S l = vs S := by unfold she1; rw [if_pos hi]
    have hl1 : left1 dm sh S l = S := by unfold left1; rw [hr, hs]; rfl
    have hw1 : word1 dm sh S l = lC l := by unfold word1; rw [hr]; rfl
    have := k h FD.rf rfl (by rw [hl1]; exact q)
    rw [hw1] at this
    exact this
  have plain : inkd sh l = false → rubs dm sh S l = false → Q (some (.long (lC l))) (sL h m 17 (vs S ||| lC l)) := by
    intro hi hr
    have hl1 : left1 dm sh S l = wS S (vs S ||| lC l) := by unfold left1; rw [hr, hsv hi]; rfl
    have hw1 : word1 dm sh S l = lC l := by unfold word1; rw [hr]; rfl
    have := k _ (FD.rf.sL (k := 17) (x := vs S ||| lC l) (Or.inl rfl)) rfl (by rw [hl1]; exact q1)
    rw [hw1] at this
    exact this
  have rubd : inkd sh l = false → rubs dm sh S l = true → Q (some (.long (if lC l &&& (vo S ^^^ -1) = 0 then putIn (wS S (vs S ||| lC l)) (lT l) else lC l &&& (vo S ^^^ -1)))) (sI (sL h m 17 (vs S ||| lC l)) m 15 (nI (min 9999 (vt S + nb (lC l &&& vo S))))) := by
    intro hi hr
    have hl1 : left1 dm sh S l = wT (wS S (vs S ||| lC l)) (min 9999 (vt S + nb (lC l &&& vo S))) := by unfold left1; rw [hr, hsv hi]; rfl
    have hw1 : word1 dm sh S l = if lC l &&& (vo S ^^^ -1) = 0 then putIn (wS S (vs S ||| lC l)) (lT l) else lC l &&& (vo S ^^^ -1) := by unfold word1; rw [hr, hsv hi]; rfl
    have e20 : hI (sI (sL h m 17 (vs S ||| lC l)) m 15 (nI (min 9999 (vt S + nb (lC l &&& vo S))))) m 20 = hI h m 20 := by rw [hI_sI, if_neg (by omega)]; rfl
    have := k _ ((FD.rf.sL (k := 17) (x := vs S ||| lC l) (Or.inl rfl)).sI (k := 15) (Or.inl ⟨rfl, by omega⟩)) e20 (by rw [hl1]; exact q2)
    rw [hw1] at this
    exact this
  have rest : inkd sh l = false → (if ¬dm = false then Q (some (.long (lC l))) (sL h m 17 (vs S ||| lC l))
      else if vu S < lD l + lP l then Q (some (.long (lC l))) (sL h m 17 (vs S ||| lC l))
      else if ¬lC l &&& vo S = 0 then
        if ¬lC l &&& (vo S ^^^ -1) = 0 then Q (some (.long (lC l &&& (vo S ^^^ -1)))) (sI (sL h m 17 (vs S ||| lC l)) m 15 (nI (min 9999 (vt S + nb (lC l &&& vo S)))))
        else Q (some (.long (putIn (wT (wS S (vs S ||| lC l)) (min 9999 (vt S + nb (lC l &&& vo S)))) (lT l)))) (sI (sL h m 17 (vs S ||| lC l)) m 15 (nI (min 9999 (vt S + nb (lC l &&& vo S)))))
      else Q (some (.long (lC l))) (sL h m 17 (vs S ||| lC l))) := by
    intro hi
    by_cases hd : dm = false
    · rw [if_neg (not_not_intro hd)]
      by_cases hu : vu S < lD l + lP l
      · rw [if_pos hu]
        exact plain hi (by unfold rubs; rw [decide_eq_false (show ¬ lD l + lP l ≤ vu S by omega)]; simp)
      · rw [if_neg hu]
        by_cases hz : lC l &&& vo S = 0
        · rw [if_neg (not_not_intro hz)]
          exact plain hi (by unfold rubs; rw [decide_eq_true hz]; simp)
        · rw [if_pos hz]
          have rr := rubd hi (by unfold rubs; rw [decide_eq_false hz, decide_eq_true (show lD l + lP l ≤ vu S by omega), hi, hd]; rfl)
          by_cases hw : lC l &&& (vo S ^^^ -1) = 0
          · rw [if_neg (not_not_intro hw)]
            rw [if_pos hw] at rr
            exact rr
          · rw [if_pos hw]
            rw [if_neg hw] at rr
            exact rr
    · rw [if_pos hd]
      exact plain hi (by unfold rubs; rw [show dm = true by simpa using hd]; simp)
  by_cases h0 : lD l = 0
  · rw [if_pos h0]
    exact keep (by unfold inkd; rw [decide_eq_true h0]; rfl)
  · rw [if_neg h0]
    by_cases h1 : sh = false
    · rw [if_pos h1]
      exact rest (by unfold inkd; rw [decide_eq_false h0, h1]; rfl)
    · rw [if_neg h1]
      by_cases h5 : lD l = 5
      · rw [if_neg (not_not_intro h5)]
        exact keep (by unfold inkd; rw [decide_eq_true h5, show sh = true by simpa using h1]; simp)
      · rw [if_pos h5]
        exact rest (by unfold inkd; rw [decide_eq_false h0, decide_eq_false h5]; simp)

theorem FD.tr1 {m : Nat} {h h1 h2 : HP} (a : FD m h h1) (b : FD m h1 h2) : FD m h h2 := a.tr b
theorem left1_vn {dm sh : Bool} {S : VS} {l : Ltr} : vn (left1 dm sh S l) = vn S := by unfold left1; dsimp only; split <;> rfl
theorem left1_vb {dm sh : Bool} {S : VS} {l : Ltr} : vb (left1 dm sh S l) = vb S := by unfold left1; dsimp only; split <;> rfl
theorem left1_vw {dm sh : Bool} {S : VS} {l : Ltr} : vw (left1 dm sh S l) = vw S := by unfold left1; dsimp only; split <;> rfl
theorem left1_vd {dm sh : Bool} {S : VS} {l : Ltr} : vd (left1 dm sh S l) = vd S := by unfold left1; dsimp only; split <;> rfl
set_option maxHeartbeats 8000000 in
theorem m_hasLetter {d : Nat} {Q : PQ} {h : HP} {m j ink : Nat} {dm sh : Bool} {S : VS} {l : Ltr} (q : RM h m S) (g : Good S) (f : FMl h m ink dm sh) (hj : (vb S)[j]? = some l)
    (k : ∀ h', FD m h h' → hI h' m 20 = hI h m 20 + b01 (decide (word1 dm sh S l = 0)) → RM h' m (had1 dm sh S l) → Q none h') : Ev (d + 5) 89 [.ref m, .int (nI j)] h Q := by
  have gl := g.l
  have gn := g.n
  have gd := g.d
  have j24 : j < 24 := by have := (List.getElem?_eq_some_iff.mp hj).1; omega
  have j31 : j < 2 ^ 31 := by omega
  obtain ⟨l1, l2, l3, l4, l5, l6⟩ := g.b (List.mem_of_getElem? hj)
  have t6 : lT l < 6 := by omega
  have t31 : lT l < 2 ^ 31 := by omega
  have hm : (if nI (vd S + 1) ≤ 999 then nI (vd S + 1) else 999) = nI (min 999 (vd S + 1)) := heldN (b := 999) (by omega) (by omega)
  simp only [e89, s89_0, s89_1, s89_2, oB_some, cl2_i, cl2_r, cl2_l, cl2_u, cl2_s, wd_0, wd_i, wd_r, wd_l, wd_f, ct_i, ct_r, ct_n, ct_f, rf_s, rf_n, tl_s, tl_n, true_and, and_true, eq_self, and_self, Nat.reduceAdd, Nat.reduceLeDiff, Nat.zero_le, Nat.reduceEqDiff, or_true, true_or, false_or, or_false, if_true, if_false, gI_0, gI_1, gI_2, gI_3, gI_4, gI_5, gI_6, gI_7, gI_8, gI_9, gI_10, gI_11, gI_12, gI_13, gI_14, gI_15, gL_0, gL_1, gL_2, gL_3, gL_4, gL_5, gL_6, gL_7, gL_8, gL_9, gL_10, gL_11, gL_12, gL_13, gL_14, gL_15, gA_0, gA_1, gA_2, gA_3, gA_4, gA_5, gA_6, gA_7, gA_8, gA_9, gA_10, gA_11, gA_12, gA_13, gA_14, gA_15, p1_0, p1_1, p1_2, p1_3, p1_4, p1_5, p1_6, p1_7, p1_8, p1_9, p1_10, p1_11, p1_12, p1_13, p1_14, p1_15, p2_0, p2_1, p2_2, p2_3, p2_4, p2_5, p2_6, p2_7, p2_8, p2_9, p2_10, p2_11, p2_12, p2_13, p2_14, p2_15, b01_ok, b_ft, b_tf, b01_e0, b01_e1, lgc_0, not_true_eq_false, not_false_eq_true, (show hkd h m = 16 from q.k.1.1)]
  refine m_leftOf q g f hj fun h1 m1 s1 q1 => ?_
  have K := q1.k
  unfold MK at K
  have d1 : hI h1 m 14 = nI (vd S) := by rw [← left1_vd (dm := dm) (sh := sh) (l := l)]; exact q1.d
  have w1 : hL h1 (m + 9) (lT l) = vw S (lT l) := by rw [← left1_vw (dm := dm) (sh := sh) (l := l)]; exact (q1.at (by rw [left1_vn]; exact l2)).2.2.2.1
  have y1 : hI h1 (m + 6) j = nI (lT l) := (q1.lt (by rw [left1_vb]; exact hj)).2.1
  have z20 : ∀ x, hI (sI h1 m 14 x) m 20 = hI h1 m 20 := fun x => by rw [hI_sI, if_neg (by omega)]
  simp only [s89_5, s89_6, s89_7, s89_8, s89_9, s89_12, s89_13, s89_14, s89_17, s89_18, s89_19, s89_22, s89_25, s89_28, s89_29, s89_30, s89_33, s89_34, s89_35, s89_38, s89_41, s89_42, s89_45, s89_46, s89_49, s89_50, s89_51, s89_52, s89_53, s89_54, s89_55, s89_56, oB_some, cl2_i, cl2_r, cl2_l, cl2_u, cl2_s, wd_0, wd_i, wd_r, wd_l, wd_f, ct_i, ct_r, ct_n, ct_f, rf_s, rf_n, tl_s, tl_n, true_and, and_true, eq_self, and_self, Nat.reduceAdd, Nat.reduceLeDiff, Nat.zero_le, Nat.reduceEqDiff, or_true, true_or, false_or, or_false, if_true, if_false, gI_0, gI_1, gI_2, gI_3, gI_4, gI_5, gI_6, gI_7, gI_8, gI_9, gI_10, gI_11, gI_12, gI_13, gI_14, gI_15, gL_0, gL_1, gL_2, gL_3, gL_4, gL_5, gL_6, gL_7, gL_8, gL_9, gL_10, gL_11, gL_12, gL_13, gL_14, gL_15, gA_0, gA_1, gA_2, gA_3, gA_4, gA_5, gA_6, gA_7, gA_8, gA_9, gA_10, gA_11, gA_12, gA_13, gA_14, gA_15, p1_0, p1_1, p1_2, p1_3, p1_4, p1_5, p1_6, p1_7, p1_8, p1_9, p1_10, p1_11, p1_12, p1_13, p1_14, p1_15, p2_0, p2_1, p2_2, p2_3, p2_4, p2_5, p2_6, p2_7, p2_8, p2_9, p2_10, p2_11, p2_12, p2_13, p2_14, p2_15, b01_ok, b_ft, b_tf, b01_e0, b01_e1, lgc_0, not_true_eq_false, not_false_eq_true, z_hkd_sI, z_hln_sI, z_hL_sI, z_hR_sI, z_hnx_sI, z_hkd_sL, z_hln_sL, z_hI_sL, z_hR_sL, z_hnx_sL, z_hkd_sR, z_hln_sR, z_hI_sR, z_hL_sR, z_hnx_sR, z_hkd_cI, z_hln_cI, z_hL_cI, z_hR_cI, z_hnx_cI, z_hkd_cLg, z_hln_cLg, z_hI_cLg, z_hR_cLg, z_hnx_cLg, K, d1, w1, y1, m_held, nI_1, hm, ix_nI j31, nI_pos' j31, j24, ix_nI t31, nI_pos' t31, t6, z20]
  by_cases hw : word1 dm sh S l = 0
  · rw [if_neg (not_not_intro hw)]
    have e : had1 dm sh S l = wD (left1 dm sh S l) (min 999 (vd S + 1)) := by unfold had1; dsimp only; rw [if_pos hw]
    refine k _ ((m1.sI (Or.inl ⟨rfl, by omega⟩)).sI (Or.inl ⟨rfl, by omega⟩)) ?_ ?_
    · rw [hI_sI_eq, up_at, s1, decide_eq_true hw]; rfl
    · rw [e]
      exact RM_i (RM_d q1 _) (by omega)
  · rw [if_pos hw]
    have e : had1 dm sh S l = wW (left1 dm sh S l) (lT l) (vw S (lT l) ||| word1 dm sh S l) := by unfold had1; dsimp only; rw [if_neg hw]
    refine k _ (m1.sL (Or.inr ⟨by omega, by omega⟩)) ?_ ?_
    · show hI h1 m 20 = _
      rw [s1, decide_eq_false hw]
      show hI h m 20 = hI h m 20 + 0
      rw [Int32.add_zero]
    · rw [e]
      exact RM_w q1 _ _
/-- a letter leaves the bag, those behind it come up -/
def mvB (h : HP) (m i : Nat) : HP := sL (sI (sI (sI (sI h (m + 5) i (hI h (m + 5) (i + 1))) (m + 6) i (hI h (m + 6) (i + 1))) (m + 7) i (hI h (m + 7) (i + 1))) (m + 8) i (hI h (m + 8) (i + 1))) (m + 11) i (hL h (m + 11) (i + 1))
theorem mvB_t {h : HP} {m i : Nat} : mt5 (mvB h m i) m = va_up (mt5 h m) i (mt5 h m (i + 1)) := by
  funext j
  unfold mt5 mvB va_up
  by_cases hj : j = i
  · subst hj
    simp [hI_sI, hL_sL, hI_sL, hL_sI]
  · simp [hI_sI, hL_sL, hI_sL, hL_sI, hj]
def FB (m : Nat) (h h' : HP) : Prop := (∀ b, (b < m + 5 ∨ m + 8 < b) → ¬ b = m → hI h' b = hI h b) ∧ (∀ b, ¬ b = m + 11 → hL h' b = hL h b) ∧ (∀ k, ¬ k = 12 → hI h' m k = hI h m k) ∧ hkd h' = hkd h ∧ hln h' = hln h ∧ hR h' = hR h ∧ hnx h' = hnx h
theorem FB.rf {m : Nat} {h : HP} : FB m h h := ⟨fun _ _ _ => rfl, fun _ _ => rfl, fun _ _ => rfl, rfl, rfl, rfl, rfl⟩
theorem FB.mv {m i : Nat} {h h' : HP} (f : FB m h h') : FB m h (mvB h' m i) := by
  refine ⟨fun b h1 h2 => ?_, fun b h1 => ?_, fun k h1 => ?_, f.2.2.2⟩
  · rw [← f.1 b h1 h2]
    unfold mvB
    rw [hI_sL, hI_sI_ne (by omega), hI_sI_ne (by omega), hI_sI_ne (by omega), hI_sI_ne (by omega)]
  · rw [← f.2.1 b h1]
    unfold mvB
    rw [hL_sL_ne h1]
    rfl
  · rw [← f.2.2.1 k h1]
    unfold mvB
    rw [hI_sL, hI_sI_ne (by omega), hI_sI_ne (by omega), hI_sI_ne (by omega), hI_sI_ne (by omega)]
theorem FB.n {m : Nat} {x : Int32} {h h' : HP} (f : FB m h h') : FB m h (sI h' m 12 x) := by
  refine ⟨fun b h1 h2 => ?_, f.2.1, fun k h1 => ?_, f.2.2.2⟩
  · rw [← f.1 b h1 h2, hI_sI_ne h2]
  · rw [← f.2.2.1 k h1, hI_sI, if_neg (by omega)]
theorem FB.fd {m : Nat} {h h' : HP} (f : FB m h h') : FD m h h' := ⟨fun b hb => ⟨f.1 b (by omega) (by omega), f.2.1 b (by omega)⟩, fun k h1 h2 => f.2.2.1 k (by omega), f.2.2.2⟩
set_option maxHeartbeats 8000000 in
theorem m_leavesBag {d : Nat} {Q : PQ} {h : HP} {m a : Nat} {S : VS} (q : RM h m S) (hl : (vb S).length ≤ 24) (ha : a < (vb S).length)
    (k : ∀ h', FB m h h' → RM h' m (wB S ((vb S).eraseIdx a)) → Q none h') : Ev (d + 1) 96 [.ref m, .int (nI a)] h Q := by
  have sb : nI (vb S).length - 1 = nI ((vb S).length - 1) := pk_sub (b := 1) (by omega)
  have loop : ∀ (n i : Nat) (h1 : HP), a ≤ i → i + n = (vb S).length - 1 → FB m h h1 → hI h1 m 12 = nI ((vb S).length - 1) → (∀ j, mt5 h1 m j = if a ≤ j ∧ j < i then mt5 h m (j + 1) else mt5 h m j) →
      WP d 96 Q (12, [.val (.ref m), .val (.int (nI a)), .val (.int (nI i))], [], h1, 0, 0) := by
    intro n
    induction n with
    | zero =>
      intro i h1 hi hin hF hn ht
      obtain rfl : i = (vb S).length - 1 := by omega
      have K := q.k.kept hF.2.2.2.1 hF.2.2.2.2.1 hF.2.2.2.2.2.1
      unfold MK at K
      rw [s96_12]
      simp only [s96_0, s96_1, s96_2, s96_5, s96_6, s96_7, s96_10, s96_11, s96_13, s96_14, s96_17, s96_20, s96_21, s96_24, s96_25, s96_26, s96_29, s96_30, s96_31, s96_32, s96_33, s96_34, s96_35, s96_38, s96_39, s96_40, s96_43, s96_44, s96_45, s96_46, s96_47, s96_48, s96_49, s96_52, s96_53, s96_54, s96_57, s96_58, s96_59, s96_60, s96_61, s96_62, s96_63, s96_66, s96_67, s96_68, s96_71, s96_72, s96_73, s96_74, s96_75, s96_76, s96_77, s96_80, s96_81, s96_82, s96_85, s96_86, s96_87, s96_88, s96_89, s96_90, s96_93, s96_96, oB_some, cl2_i, cl2_r, cl2_l, cl2_u, cl2_s, wd_0, wd_i, wd_r, wd_l, wd_f, ct_i, ct_r, ct_n, ct_f, rf_s, rf_n, tl_s, tl_n, true_and, and_true, eq_self, and_self, Nat.reduceAdd, Nat.reduceLeDiff, Nat.zero_le, Nat.reduceEqDiff, or_true, true_or, false_or, or_false, if_true, if_false, gI_0, gI_1, gI_2, gI_3, gI_4, gI_5, gI_6, gI_7, gI_8, gI_9, gI_10, gI_11, gI_12, gI_13, gI_14, gI_15, gL_0, gL_1, gL_2, gL_3, gL_4, gL_5, gL_6, gL_7, gL_8, gL_9, gL_10, gL_11, gL_12, gL_13, gL_14, gL_15, gA_0, gA_1, gA_2, gA_3, gA_4, gA_5, gA_6, gA_7, gA_8, gA_9, gA_10, gA_11, gA_12, gA_13, gA_14, gA_15, p1_0, p1_1, p1_2, p1_3, p1_4, p1_5, p1_6, p1_7, p1_8, p1_9, p1_10, p1_11, p1_12, p1_13, p1_14, p1_15, p2_0, p2_1, p2_2, p2_3, p2_4, p2_5, p2_6, p2_7, p2_8, p2_9, p2_10, p2_11, p2_12, p2_13, p2_14, p2_15, b01_ok, b_ft, b_tf, b01_e0, b01_e1, lgc_0, not_true_eq_false, not_false_eq_true, K, hn, Int32.le_refl]
      refine k h1 hF (RM_b q hF.1 hF.2.1 hF.2.2.1 hF.2.2.2.1 hF.2.2.2.2.1 hF.2.2.2.2.2.1 ?_ ?_)
      · rw [hn, List.length_eraseIdx_of_lt ha]
      · intro j l hj
        rw [List.getElem?_eraseIdx] at hj
        have hlt : j < (vb S).length - 1 := by
          split at hj
          · have := (List.getElem?_eq_some_iff.mp hj).1; omega
          · have := (List.getElem?_eq_some_iff.mp hj).1; omega
        rw [ht j]
        by_cases hja : j < a
        · rw [if_pos hja] at hj
          rw [if_neg (by omega)]
          exact q.b j l hj
        · rw [if_neg hja] at hj
          rw [if_pos (by omega)]
          exact q.b (j + 1) l hj
    | succ n ih =>
      intro i h1 hi hin hF hn ht
      have K := q.k.kept hF.2.2.2.1 hF.2.2.2.2.1 hF.2.2.2.2.2.1
      unfold MK at K
      rw [s96_12]
      have z : ¬ nI ((vb S).length - 1) ≤ nI i := nI_ge (by omega) (by omega)
      have i31 : i < 2 ^ 31 := by omega
      have j31 : i + 1 < 2 ^ 31 := by omega
      have i24 : i < 24 := by omega
      have j24 : i + 1 < 24 := by omega
      simp only [s96_0, s96_1, s96_2, s96_5, s96_6, s96_7, s96_10, s96_11, s96_13, s96_14, s96_17, s96_20, s96_21, s96_24, s96_25, s96_26, s96_29, s96_30, s96_31, s96_32, s96_33, s96_34, s96_35, s96_38, s96_39, s96_40, s96_43, s96_44, s96_45, s96_46, s96_47, s96_48, s96_49, s96_52, s96_53, s96_54, s96_57, s96_58, s96_59, s96_60, s96_61, s96_62, s96_63, s96_66, s96_67, s96_68, s96_71, s96_72, s96_73, s96_74, s96_75, s96_76, s96_77, s96_80, s96_81, s96_82, s96_85, s96_86, s96_87, s96_88, s96_89, s96_90, s96_93, s96_96, oB_some, cl2_i, cl2_r, cl2_l, cl2_u, cl2_s, wd_0, wd_i, wd_r, wd_l, wd_f, ct_i, ct_r, ct_n, ct_f, rf_s, rf_n, tl_s, tl_n, true_and, and_true, eq_self, and_self, Nat.reduceAdd, Nat.reduceLeDiff, Nat.zero_le, Nat.reduceEqDiff, or_true, true_or, false_or, or_false, if_true, if_false, gI_0, gI_1, gI_2, gI_3, gI_4, gI_5, gI_6, gI_7, gI_8, gI_9, gI_10, gI_11, gI_12, gI_13, gI_14, gI_15, gL_0, gL_1, gL_2, gL_3, gL_4, gL_5, gL_6, gL_7, gL_8, gL_9, gL_10, gL_11, gL_12, gL_13, gL_14, gL_15, gA_0, gA_1, gA_2, gA_3, gA_4, gA_5, gA_6, gA_7, gA_8, gA_9, gA_10, gA_11, gA_12, gA_13, gA_14, gA_15, p1_0, p1_1, p1_2, p1_3, p1_4, p1_5, p1_6, p1_7, p1_8, p1_9, p1_10, p1_11, p1_12, p1_13, p1_14, p1_15, p2_0, p2_1, p2_2, p2_3, p2_4, p2_5, p2_6, p2_7, p2_8, p2_9, p2_10, p2_11, p2_12, p2_13, p2_14, p2_15, b01_ok, b_ft, b_tf, b01_e0, b01_e1, lgc_0, not_true_eq_false, not_false_eq_true, z_hkd_sI, z_hln_sI, z_hL_sI, z_hR_sI, z_hnx_sI, z_hkd_sL, z_hln_sL, z_hI_sL, z_hR_sL, z_hnx_sL, z_hkd_sR, z_hln_sR, z_hI_sR, z_hL_sR, z_hnx_sR, z_hkd_cI, z_hln_cI, z_hL_cI, z_hR_cI, z_hnx_cI, z_hkd_cLg, z_hln_cLg, z_hI_cLg, z_hR_cLg, z_hnx_cLg, K, hn, z, nI_1, ix_nI i31, nI_pos' i31, i24, ix_nI j31, nI_pos' j31, j24]
      have r6 : ∀ (x : Int32), hI (sI h1 (m + 5) i x) (m + 6) = hI h1 (m + 6) := fun x => hI_sI_ne (by omega)
      have r7 : ∀ (x y : Int32), hI (sI (sI h1 (m + 5) i x) (m + 6) i y) (m + 7) = hI h1 (m + 7) := fun x y => by rw [hI_sI_ne (by omega), hI_sI_ne (by omega)]
      have r8 : ∀ (x y z : Int32), hI (sI (sI (sI h1 (m + 5) i x) (m + 6) i y) (m + 7) i z) (m + 8) = hI h1 (m + 8) := fun x y z => by rw [hI_sI_ne (by omega), hI_sI_ne (by omega), hI_sI_ne (by omega)]
      simp only [r6, r7, r8]
      refine ih (i + 1) (mvB h1 m i) (by omega) (by omega) hF.mv ?_ fun j => ?_
      · rw [← hn]
        unfold mvB
        rw [hI_sL, hI_sI_ne (by omega), hI_sI_ne (by omega), hI_sI_ne (by omega), hI_sI_ne (by omega)]
      · rw [mvB_t]
        unfold va_up
        by_cases hji : j = i
        · subst hji
          rw [if_pos rfl, if_pos (by omega), ht (j + 1), if_neg (by omega)]
        · rw [if_neg hji, ht j]
          by_cases c : a ≤ j ∧ j < i
          · rw [if_pos c, if_pos (by omega)]
          · rw [if_neg c, if_neg (by omega)]
  have K := q.k
  unfold MK at K
  simp only [e96, s96_0, s96_1, s96_2, s96_5, s96_6, s96_7, s96_10, s96_11, s96_13, s96_14, s96_17, s96_20, s96_21, s96_24, s96_25, s96_26, s96_29, s96_30, s96_31, s96_32, s96_33, s96_34, s96_35, s96_38, s96_39, s96_40, s96_43, s96_44, s96_45, s96_46, s96_47, s96_48, s96_49, s96_52, s96_53, s96_54, s96_57, s96_58, s96_59, s96_60, s96_61, s96_62, s96_63, s96_66, s96_67, s96_68, s96_71, s96_72, s96_73, s96_74, s96_75, s96_76, s96_77, s96_80, s96_81, s96_82, s96_85, s96_86, s96_87, s96_88, s96_89, s96_90, s96_93, s96_96, oB_some, cl2_i, cl2_r, cl2_l, cl2_u, cl2_s, wd_0, wd_i, wd_r, wd_l, wd_f, ct_i, ct_r, ct_n, ct_f, rf_s, rf_n, tl_s, tl_n, true_and, and_true, eq_self, and_self, Nat.reduceAdd, Nat.reduceLeDiff, Nat.zero_le, Nat.reduceEqDiff, or_true, true_or, false_or, or_false, if_true, if_false, gI_0, gI_1, gI_2, gI_3, gI_4, gI_5, gI_6, gI_7, gI_8, gI_9, gI_10, gI_11, gI_12, gI_13, gI_14, gI_15, gL_0, gL_1, gL_2, gL_3, gL_4, gL_5, gL_6, gL_7, gL_8, gL_9, gL_10, gL_11, gL_12, gL_13, gL_14, gL_15, gA_0, gA_1, gA_2, gA_3, gA_4, gA_5, gA_6, gA_7, gA_8, gA_9, gA_10, gA_11, gA_12, gA_13, gA_14, gA_15, p1_0, p1_1, p1_2, p1_3, p1_4, p1_5, p1_6, p1_7, p1_8, p1_9, p1_10, p1_11, p1_12, p1_13, p1_14, p1_15, p2_0, p2_1, p2_2, p2_3, p2_4, p2_5, p2_6, p2_7, p2_8, p2_9, p2_10, p2_11, p2_12, p2_13, p2_14, p2_15, b01_ok, b_ft, b_tf, b01_e0, b01_e1, lgc_0, not_true_eq_false, not_false_eq_true, z_hkd_sI, z_hln_sI, z_hL_sI, z_hR_sI, z_hnx_sI, z_hkd_sL, z_hln_sL, z_hI_sL, z_hR_sL, z_hnx_sL, z_hkd_sR, z_hln_sR, z_hI_sR, z_hL_sR, z_hnx_sR, z_hkd_cI, z_hln_cI, z_hL_cI, z_hR_cI, z_hnx_cI, z_hkd_cLg, z_hln_cLg, z_hI_cLg, z_hR_cLg, z_hnx_cLg, K, q.m, sb]
  refine loop ((vb S).length - 1 - a) a _ (Nat.le_refl _) (by omega) FB.rf.n (by rw [hI_sI_eq, up_at]) fun j => ?_
  rw [mt5_sI (by omega), if_neg (by omega)]

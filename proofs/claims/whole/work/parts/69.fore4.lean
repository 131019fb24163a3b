-- what would be, the one side: damp nights, stillness, games, who knows it first; friends' rings
theorem v_power {d : Nat} {Q : PQ} {h : HP} {b e : Nat} (hb : b < 2 ^ 31) (he : e < 2 ^ 20) : Ev (d + 1) 211 [.int (nI b), .int (nI e)] h Q = Q (some (.long (lN (b ^ e)))) h := by
  have loop : ∀ (m i : Nat), i + m = e → WP d 211 Q (5, [.val (.int (nI b)), .val (.int (nI e)), .val (.long (lN (b ^ i))), .second, .val (.int (nI i))], [], h, 0, 0) = Q (some (.long (lN (b ^ e)))) h := by
    intro m
    induction m with
    | zero =>
      intro i hi
      obtain rfl : i = e := by omega
      rw [s211_5]
      simp only [s211_0, s211_1, s211_2, s211_3, s211_7, s211_8, s211_11, s211_12, s211_13, s211_14, s211_15, s211_16, s211_19, s211_22, s211_23, oB_some, cl2_i, cl2_r, cl2_l, cl2_u, cl2_s, wd_0, wd_i, wd_r, wd_l, wd_f, ct_i, ct_r, ct_n, ct_f, rf_s, rf_n, tl_s, tl_n, true_and, and_true, eq_self, and_self, Nat.reduceAdd, Nat.reduceLeDiff, Nat.zero_le, Nat.reduceEqDiff, or_true, true_or, false_or, or_false, if_true, if_false, gI_0, gI_1, gI_2, gI_3, gI_4, gI_5, gI_6, gI_7, gI_8, gI_9, gI_10, gI_11, gI_12, gI_13, gI_14, gI_15, gL_0, gL_1, gL_2, gL_3, gL_4, gL_5, gL_6, gL_7, gL_8, gL_9, gL_10, gL_11, gL_12, gL_13, gL_14, gL_15, gA_0, gA_1, gA_2, gA_3, gA_4, gA_5, gA_6, gA_7, gA_8, gA_9, gA_10, gA_11, gA_12, gA_13, gA_14, gA_15, p1_0, p1_1, p1_2, p1_3, p1_4, p1_5, p1_6, p1_7, p1_8, p1_9, p1_10, p1_11, p1_12, p1_13, p1_14, p1_15, p2_0, p2_1, p2_2, p2_3, p2_4, p2_5, p2_6, p2_7, p2_8, p2_9, p2_10, p2_11, p2_12, p2_13, p2_14, p2_15, b01_ok, b_ft, b_tf, b01_e0, b01_e1, lgc_0, not_true_eq_false, not_false_eq_true, Int32.le_refl]
    | succ m ih =>
      intro i hi
      have z : ¬ nI e ≤ nI i := nI_ge (by omega) (by omega)
      have i1 := ih (i + 1) (by omega)
      rw [Nat.pow_succ] at i1
      rw [s211_5]
      simp only [s211_0, s211_1, s211_2, s211_3, s211_7, s211_8, s211_11, s211_12, s211_13, s211_14, s211_15, s211_16, s211_19, s211_22, s211_23, oB_some, cl2_i, cl2_r, cl2_l, cl2_u, cl2_s, wd_0, wd_i, wd_r, wd_l, wd_f, ct_i, ct_r, ct_n, ct_f, rf_s, rf_n, tl_s, tl_n, true_and, and_true, eq_self, and_self, Nat.reduceAdd, Nat.reduceLeDiff, Nat.zero_le, Nat.reduceEqDiff, or_true, true_or, false_or, or_false, if_true, if_false, gI_0, gI_1, gI_2, gI_3, gI_4, gI_5, gI_6, gI_7, gI_8, gI_9, gI_10, gI_11, gI_12, gI_13, gI_14, gI_15, gL_0, gL_1, gL_2, gL_3, gL_4, gL_5, gL_6, gL_7, gL_8, gL_9, gL_10, gL_11, gL_12, gL_13, gL_14, gL_15, gA_0, gA_1, gA_2, gA_3, gA_4, gA_5, gA_6, gA_7, gA_8, gA_9, gA_10, gA_11, gA_12, gA_13, gA_14, gA_15, p1_0, p1_1, p1_2, p1_3, p1_4, p1_5, p1_6, p1_7, p1_8, p1_9, p1_10, p1_11, p1_12, p1_13, p1_14, p1_15, p2_0, p2_1, p2_2, p2_3, p2_4, p2_5, p2_6, p2_7, p2_8, p2_9, p2_10, p2_11, p2_12, p2_13, p2_14, p2_15, b01_ok, b_ft, b_tf, b01_e0, b01_e1, lgc_0, not_true_eq_false, not_false_eq_true, z, nI_l hb, lN_mul, nI_1]
      exact i1
  simp only [e211, s211_0, s211_1, s211_2, s211_3, s211_7, s211_8, s211_11, s211_12, s211_13, s211_14, s211_15, s211_16, s211_19, s211_22, s211_23, oB_some, cl2_i, cl2_r, cl2_l, cl2_u, cl2_s, wd_0, wd_i, wd_r, wd_l, wd_f, ct_i, ct_r, ct_n, ct_f, rf_s, rf_n, tl_s, tl_n, true_and, and_true, eq_self, and_self, Nat.reduceAdd, Nat.reduceLeDiff, Nat.zero_le, Nat.reduceEqDiff, or_true, true_or, false_or, or_false, if_true, if_false, gI_0, gI_1, gI_2, gI_3, gI_4, gI_5, gI_6, gI_7, gI_8, gI_9, gI_10, gI_11, gI_12, gI_13, gI_14, gI_15, gL_0, gL_1, gL_2, gL_3, gL_4, gL_5, gL_6, gL_7, gL_8, gL_9, gL_10, gL_11, gL_12, gL_13, gL_14, gL_15, gA_0, gA_1, gA_2, gA_3, gA_4, gA_5, gA_6, gA_7, gA_8, gA_9, gA_10, gA_11, gA_12, gA_13, gA_14, gA_15, p1_0, p1_1, p1_2, p1_3, p1_4, p1_5, p1_6, p1_7, p1_8, p1_9, p1_10, p1_11, p1_12, p1_13, p1_14, p1_15, p2_0, p2_1, p2_2, p2_3, p2_4, p2_5, p2_6, p2_7, p2_8, p2_9, p2_10, p2_11, p2_12, p2_13, p2_14, p2_15, b01_ok, b_ft, b_tf, b01_e0, b01_e1, lgc_0, not_true_eq_false, not_false_eq_true]
  exact loop e 0 (by omega)
theorem biF_128 : ∀ n, n < 128 → biF (nI n) = nI (pc n) := by decide +kernel
theorem v_bitCount7 {d : Nat} {Q : PQ} {h : HP} {n : Nat} (hx : n < 128) : Ev (d + 1) 174 [.int (nI n)] h Q = Q (some (.int (nI (pc n)))) h := by
  rw [← biF_128 n hx]
  simp only [e174, s174_0, s174_1, s174_2, s174_3, s174_4, s174_7, s174_8, s174_9, s174_10, s174_11, s174_14, s174_15, s174_16, s174_17, s174_18, s174_21, s174_22, s174_23, s174_24, s174_25, s174_26, s174_27, s174_28, s174_29, s174_32, s174_33, s174_34, s174_35, s174_36, s174_38, s174_39, s174_40, s174_41, s174_42, s174_43, s174_45, s174_46, s174_47, s174_48, s174_49, s174_51, s174_52, oB_some, cl2_i, cl2_r, cl2_l, cl2_u, cl2_s, wd_0, wd_i, wd_r, wd_l, wd_f, ct_i, ct_r, ct_n, ct_f, rf_s, rf_n, tl_s, tl_n, true_and, and_true, eq_self, and_self, Nat.reduceAdd, Nat.reduceLeDiff, Nat.zero_le, Nat.reduceEqDiff, or_true, true_or, false_or, or_false, if_true, if_false, gI_0, gI_1, gI_2, gI_3, gI_4, gI_5, gI_6, gI_7, gI_8, gI_9, gI_10, gI_11, gI_12, gI_13, gI_14, gI_15, gL_0, gL_1, gL_2, gL_3, gL_4, gL_5, gL_6, gL_7, gL_8, gL_9, gL_10, gL_11, gL_12, gL_13, gL_14, gL_15, gA_0, gA_1, gA_2, gA_3, gA_4, gA_5, gA_6, gA_7, gA_8, gA_9, gA_10, gA_11, gA_12, gA_13, gA_14, gA_15, p1_0, p1_1, p1_2, p1_3, p1_4, p1_5, p1_6, p1_7, p1_8, p1_9, p1_10, p1_11, p1_12, p1_13, p1_14, p1_15, p2_0, p2_1, p2_2, p2_3, p2_4, p2_5, p2_6, p2_7, p2_8, p2_9, p2_10, p2_11, p2_12, p2_13, p2_14, p2_15, biF, bi5, bi4, bi3, bi2, bi1, shi]
theorem dampBit : ∀ b, b < 128 → ∀ i, i < 7 → (nI b &&& (1 : Int32) <<< (nI i &&& 31) = 0) = (b.testBit i = false) := by decide +kernel
theorem pc_n : ∀ n, n ≤ 7 → ∀ b, b < 2 ^ n → pc b ≤ n := by decide +kernel
def dampA (b : Nat) : Nat → Nat → VS → VS
  | 0, _, T => T
  | m + 1, i, T => dampA b m (i + 1) (day1 0 (b.testBit i) false T)
theorem dampA_s (b m i : Nat) (T : VS) : dampA b (m + 1) i T = dampA b m (i + 1) (day1 0 (b.testBit i) false T) := rfl
def dmpW (S : VS) (p c n t b : Nat) : Nat := if hb (vw (dampA b n 0 S) p) c = true then (t - 1) ^ (n - pc b) else 0
def waysN (S : VS) (p c n t : Nat) : Nat := sumN (dmpW S p c n t) (2 ^ n)
theorem dampA_keep {b : Nat} : ∀ {m i : Nat} {T : VS}, Good T → vy T + m < 2 ^ 20 → Good (dampA b m i T) ∧ vn (dampA b m i T) = vn T
  | 0, i, T, g, _ => ⟨g, rfl⟩
  | m + 1, i, T, g, hy => by
    obtain ⟨a, a2, a3⟩ := day1_keep (ink := 0) (dm := b.testBit i) (sh := false) g (by omega)
    obtain ⟨x, y⟩ := dampA_keep (b := b) (m := m) (i := i + 1) a (by rw [a3]; omega)
    exact ⟨x, y.trans a2⟩
set_option maxHeartbeats 8000000 in
theorem v_waysToLearn {d : Nat} {Q : PQ} {h : HP} {f v w p c n t : Nat} {S : VS} (x : FY h f v w S) (g : Good S) (hy : vy S + 8 < 2 ^ 20) (hp : p < vn S) (hc : c < 64) (hn : n ≤ 7) (ht : 1 ≤ t) (ht2 : t < 100)
    (k : ∀ h', Fm w 12 h h' → Q (some (.long (lN (waysN S p c n t)))) h') : Ev (d + 6) 210 [.ref f, .int (nI p), .int (nI c), .int (nI n), .int (nI t)] h Q := by
  have M128 : 2 ^ n ≤ 2 ^ 7 := Nat.pow_le_pow_right (by decide) hn
  have loop : ∀ (m b : Nat) (h1 : HP) (y : Slot), b + m = 2 ^ n → Fm w 12 h h1 →
      WP (d + 5) 210 Q (6, [.val (.ref f), .val (.int (nI p)), .val (.int (nI c)), .val (.int (nI n)), .val (.int (nI t)), .val (.long (lN (sumN (dmpW S p c n t) b))), .second, .val (.int (nI b)), y], [], h1, 0, 0) := by
    intro m
    induction m with
    | zero =>
      intro b h1 y hb m1
      obtain rfl : b = 2 ^ n := by omega
      rw [s210_6]
      simp only [s210_8, s210_9, s210_10, s210_11, s210_101, s210_103, oB_some, cl2_i, cl2_r, cl2_l, cl2_u, cl2_s, wd_0, wd_i, wd_r, wd_l, wd_f, ct_i, ct_r, ct_n, ct_f, rf_s, rf_n, tl_s, tl_n, true_and, and_true, eq_self, and_self, Nat.reduceAdd, Nat.reduceLeDiff, Nat.zero_le, Nat.reduceEqDiff, or_true, true_or, false_or, or_false, if_true, if_false, gI_0, gI_1, gI_2, gI_3, gI_4, gI_5, gI_6, gI_7, gI_8, gI_9, gI_10, gI_11, gI_12, gI_13, gI_14, gI_15, gL_0, gL_1, gL_2, gL_3, gL_4, gL_5, gL_6, gL_7, gL_8, gL_9, gL_10, gL_11, gL_12, gL_13, gL_14, gL_15, gA_0, gA_1, gA_2, gA_3, gA_4, gA_5, gA_6, gA_7, gA_8, gA_9, gA_10, gA_11, gA_12, gA_13, gA_14, gA_15, p1_0, p1_1, p1_2, p1_3, p1_4, p1_5, p1_6, p1_7, p1_8, p1_9, p1_10, p1_11, p1_12, p1_13, p1_14, p1_15, p2_0, p2_1, p2_2, p2_3, p2_4, p2_5, p2_6, p2_7, p2_8, p2_9, p2_10, p2_11, p2_12, p2_13, p2_14, p2_15, b01_ok, b_ft, b_tf, b01_e0, b01_e1, lgc_0, not_true_eq_false, not_false_eq_true, shl1 n (by omega), Int32.le_refl]
      exact k h1 m1
    | succ m ih =>
      intro b h1 y hb_ m1
      have x1 := x.kept m1
      have x0 := x1.1
      have z : ¬ nI (2 ^ n) ≤ nI b := nI_ge (by omega) (by omega)
      have i1 := fun h2 y2 m2 => ih (b + 1) h2 y2 (by omega) m2
      rw [sumN_s] at i1
      have inner : ∀ (r i : Nat) (h2 : HP) (T : VS) (dm : Bool), i + r = n → Fm w 12 h h2 → RV h2 w T → Good T → FV h2 w 0 dm false → vy T + r < 2 ^ 20 → vn T = vn S → dampA b r i T = dampA b n 0 S →
          WP (d + 5) 210 Q (22, [.val (.ref f), .val (.int (nI p)), .val (.int (nI c)), .val (.int (nI n)), .val (.int (nI t)), .val (.long (lN (sumN (dmpW S p c n t) b))), .second, .val (.int (nI b)), .val (.int (nI i))], [], h2, 0, 0) := by
        intro r
        induction r with
        | zero =>
          intro i h2 T dm hi m2 q2 g2 f2 y2 n2 e2
          obtain rfl : i = n := by omega
          have e3 : T = dampA b i 0 S := e2
          have x2 := x.kept m2
          have x20 := x2.1
          have K2 := q2.k
          unfold VK at K2
          have pn := pc_n i hn b (by omega)
          have ps : nI i - nI (pc b) = nI (i - pc b) := pk_sub pn
          have pt : nI t - 1 = nI (t - 1) := pk_sub (b := 1) ht
          rw [s210_22]
          simp only [s210_24, s210_25, s210_64, s210_65, s210_68, s210_69, s210_70, s210_73, s210_76, s210_78, s210_80, s210_81, s210_82, s210_83, s210_85, s210_88, s210_89, s210_92, s210_93, s210_95, s210_98, oB_some, cl2_i, cl2_r, cl2_l, cl2_u, cl2_s, wd_0, wd_i, wd_r, wd_l, wd_f, ct_i, ct_r, ct_n, ct_f, rf_s, rf_n, tl_s, tl_n, true_and, and_true, eq_self, and_self, Nat.reduceAdd, Nat.reduceLeDiff, Nat.zero_le, Nat.reduceEqDiff, or_true, true_or, false_or, or_false, if_true, if_false, gI_0, gI_1, gI_2, gI_3, gI_4, gI_5, gI_6, gI_7, gI_8, gI_9, gI_10, gI_11, gI_12, gI_13, gI_14, gI_15, gL_0, gL_1, gL_2, gL_3, gL_4, gL_5, gL_6, gL_7, gL_8, gL_9, gL_10, gL_11, gL_12, gL_13, gL_14, gL_15, gA_0, gA_1, gA_2, gA_3, gA_4, gA_5, gA_6, gA_7, gA_8, gA_9, gA_10, gA_11, gA_12, gA_13, gA_14, gA_15, p1_0, p1_1, p1_2, p1_3, p1_4, p1_5, p1_6, p1_7, p1_8, p1_9, p1_10, p1_11, p1_12, p1_13, p1_14, p1_15, p2_0, p2_1, p2_2, p2_3, p2_4, p2_5, p2_6, p2_7, p2_8, p2_9, p2_10, p2_11, p2_12, p2_13, p2_14, p2_15, b01_ok, b_ft, b_tf, b01_e0, b01_e1, lgc_0, not_true_eq_false, not_false_eq_true, Int32.le_refl, x20, K2, v_hasLearnt q2 g2 (show p < vn T by omega) hc, v_bitCount7 (show b < 128 by omega), ps, pt, v_power (show t - 1 < 2 ^ 31 by omega) (show i - pc b < 2 ^ 20 by omega), lN_add, nI_1]
          by_cases e : hb (vw T p) c = true
          · rw [if_neg (by rw [e]; decide)]
            have ew : dmpW S p c i t b = (t - 1) ^ (i - pc b) := by unfold dmpW; rw [← e3, if_pos e]
            have := i1 h2 (.val (.int (nI i))) m2
            rw [ew] at this
            exact this
          · rw [if_pos (by simpa using e)]
            have ew : dmpW S p c i t b = 0 := by unfold dmpW; rw [← e3, if_neg e]
            have := i1 h2 (.val (.int (nI i))) m2
            rw [ew] at this
            exact this
        | succ r ihr =>
          intro i h2 T dm hi m2 q2 g2 f2 y2 n2 e2
          have x2 := x.kept m2
          have x20 := x2.1
          have K2 := q2.k
          unfold VK at K2
          have z2 : ¬ nI n ≤ nI i := nI_ge (by omega) (by omega)
          rw [dampA_s] at e2
          rw [s210_22]
          simp only [s210_24, s210_25, s210_28, s210_29, s210_32, s210_34, s210_35, s210_37, s210_38, s210_39, s210_42, s210_43, s210_46, s210_47, oB_some, cl2_i, cl2_r, cl2_l, cl2_u, cl2_s, wd_0, wd_i, wd_r, wd_l, wd_f, ct_i, ct_r, ct_n, ct_f, rf_s, rf_n, tl_s, tl_n, true_and, and_true, eq_self, and_self, Nat.reduceAdd, Nat.reduceLeDiff, Nat.zero_le, Nat.reduceEqDiff, or_true, true_or, false_or, or_false, if_true, if_false, gI_0, gI_1, gI_2, gI_3, gI_4, gI_5, gI_6, gI_7, gI_8, gI_9, gI_10, gI_11, gI_12, gI_13, gI_14, gI_15, gL_0, gL_1, gL_2, gL_3, gL_4, gL_5, gL_6, gL_7, gL_8, gL_9, gL_10, gL_11, gL_12, gL_13, gL_14, gL_15, gA_0, gA_1, gA_2, gA_3, gA_4, gA_5, gA_6, gA_7, gA_8, gA_9, gA_10, gA_11, gA_12, gA_13, gA_14, gA_15, p1_0, p1_1, p1_2, p1_3, p1_4, p1_5, p1_6, p1_7, p1_8, p1_9, p1_10, p1_11, p1_12, p1_13, p1_14, p1_15, p2_0, p2_1, p2_2, p2_3, p2_4, p2_5, p2_6, p2_7, p2_8, p2_9, p2_10, p2_11, p2_12, p2_13, p2_14, p2_15, b01_ok, b_ft, b_tf, b01_e0, b01_e1, lgc_0, not_true_eq_false, not_false_eq_true, z_hkd_sI, z_hln_sI, z_hL_sI, z_hR_sI, z_hnx_sI, z_hkd_sL, z_hln_sL, z_hI_sL, z_hR_sL, z_hnx_sL, z_hkd_sR, z_hln_sR, z_hI_sR, z_hL_sR, z_hnx_sR, z_hkd_cI, z_hln_cI, z_hL_cI, z_hR_cI, z_hnx_cI, z_hkd_cLg, z_hln_cLg, z_hI_cLg, z_hR_cLg, z_hnx_cLg, x20, K2, z2, dampBit b (by omega) i (by omega)]
          have step : ∀ bb : Bool, bb = b.testBit i → WP (d + 5) 210 Q (50, [.val (.ref f), .val (.int (nI p)), .val (.int (nI c)), .val (.int (nI n)), .val (.int (nI t)), .val (.long (lN (sumN (dmpW S p c n t) b))), .second, .val (.int (nI b)), .val (.int (nI i))], [], sI h2 w 14 (b01 bb), 0, 0) := by
            rintro bb rfl
            have m3 : Fm w 12 h2 (sI h2 w 14 (b01 (b.testBit i))) := Fm.rf.sI (Nat.le_refl _) (by omega)
            have x30 := (x2.kept m3).1
            have q3 : RV (sI h2 w 14 (b01 (b.testBit i))) w T := RV_i q2 (by decide)
            have K3 := q3.k
            unfold VK at K3
            simp only [s210_50, s210_51, s210_54, s210_55, oB_some, cl2_i, cl2_r, cl2_l, cl2_u, cl2_s, wd_0, wd_i, wd_r, wd_l, wd_f, ct_i, ct_r, ct_n, ct_f, rf_s, rf_n, tl_s, tl_n, true_and, and_true, eq_self, and_self, Nat.reduceAdd, Nat.reduceLeDiff, Nat.zero_le, Nat.reduceEqDiff, or_true, true_or, false_or, or_false, if_true, if_false, gI_0, gI_1, gI_2, gI_3, gI_4, gI_5, gI_6, gI_7, gI_8, gI_9, gI_10, gI_11, gI_12, gI_13, gI_14, gI_15, gL_0, gL_1, gL_2, gL_3, gL_4, gL_5, gL_6, gL_7, gL_8, gL_9, gL_10, gL_11, gL_12, gL_13, gL_14, gL_15, gA_0, gA_1, gA_2, gA_3, gA_4, gA_5, gA_6, gA_7, gA_8, gA_9, gA_10, gA_11, gA_12, gA_13, gA_14, gA_15, p1_0, p1_1, p1_2, p1_3, p1_4, p1_5, p1_6, p1_7, p1_8, p1_9, p1_10, p1_11, p1_12, p1_13, p1_14, p1_15, p2_0, p2_1, p2_2, p2_3, p2_4, p2_5, p2_6, p2_7, p2_8, p2_9, p2_10, p2_11, p2_12, p2_13, p2_14, p2_15, b01_ok, b_ft, b_tf, b01_e0, b01_e1, lgc_0, not_true_eq_false, not_false_eq_true, x30, K3]
            refine v_passDays (n := 1) q3 g2 (FV_dm f2) (by decide) (by omega) fun h4 m4 q4 f4 => ?_
            have k1 := day1_keep (ink := 0) (dm := b.testBit i) (sh := false) g2 (by omega)
            simp only [s210_58, s210_61, oB_some, cl2_i, cl2_r, cl2_l, cl2_u, cl2_s, wd_0, wd_i, wd_r, wd_l, wd_f, ct_i, ct_r, ct_n, ct_f, rf_s, rf_n, tl_s, tl_n, true_and, and_true, eq_self, and_self, Nat.reduceAdd, Nat.reduceLeDiff, Nat.zero_le, Nat.reduceEqDiff, or_true, true_or, false_or, or_false, if_true, if_false, gI_0, gI_1, gI_2, gI_3, gI_4, gI_5, gI_6, gI_7, gI_8, gI_9, gI_10, gI_11, gI_12, gI_13, gI_14, gI_15, gL_0, gL_1, gL_2, gL_3, gL_4, gL_5, gL_6, gL_7, gL_8, gL_9, gL_10, gL_11, gL_12, gL_13, gL_14, gL_15, gA_0, gA_1, gA_2, gA_3, gA_4, gA_5, gA_6, gA_7, gA_8, gA_9, gA_10, gA_11, gA_12, gA_13, gA_14, gA_15, p1_0, p1_1, p1_2, p1_3, p1_4, p1_5, p1_6, p1_7, p1_8, p1_9, p1_10, p1_11, p1_12, p1_13, p1_14, p1_15, p2_0, p2_1, p2_2, p2_3, p2_4, p2_5, p2_6, p2_7, p2_8, p2_9, p2_10, p2_11, p2_12, p2_13, p2_14, p2_15, b01_ok, b_ft, b_tf, b01_e0, b01_e1, lgc_0, not_true_eq_false, not_false_eq_true, nI_1]
            exact ihr (i + 1) h4 _ _ (by omega) (m2.tr (m3.tr m4)) q4 k1.1 f4 (by rw [dayN_1, k1.2.2]; omega) (k1.2.1.trans n2) e2
          by_cases e : b.testBit i = true
          · rw [if_neg (by rw [e]; decide)]
            exact step true e.symm
          · rw [if_pos (by simpa using e)]
            exact step false (by simpa using e)
      rw [s210_6]
      simp only [s210_8, s210_9, s210_10, s210_11, s210_14, s210_15, oB_some, cl2_i, cl2_r, cl2_l, cl2_u, cl2_s, wd_0, wd_i, wd_r, wd_l, wd_f, ct_i, ct_r, ct_n, ct_f, rf_s, rf_n, tl_s, tl_n, true_and, and_true, eq_self, and_self, Nat.reduceAdd, Nat.reduceLeDiff, Nat.zero_le, Nat.reduceEqDiff, or_true, true_or, false_or, or_false, if_true, if_false, gI_0, gI_1, gI_2, gI_3, gI_4, gI_5, gI_6, gI_7, gI_8, gI_9, gI_10, gI_11, gI_12, gI_13, gI_14, gI_15, gL_0, gL_1, gL_2, gL_3, gL_4, gL_5, gL_6, gL_7, gL_8, gL_9, gL_10, gL_11, gL_12, gL_13, gL_14, gL_15, gA_0, gA_1, gA_2, gA_3, gA_4, gA_5, gA_6, gA_7, gA_8, gA_9, gA_10, gA_11, gA_12, gA_13, gA_14, gA_15, p1_0, p1_1, p1_2, p1_3, p1_4, p1_5, p1_6, p1_7, p1_8, p1_9, p1_10, p1_11, p1_12, p1_13, p1_14, p1_15, p2_0, p2_1, p2_2, p2_3, p2_4, p2_5, p2_6, p2_7, p2_8, p2_9, p2_10, p2_11, p2_12, p2_13, p2_14, p2_15, b01_ok, b_ft, b_tf, b01_e0, b01_e1, lgc_0, not_true_eq_false, not_false_eq_true, shl1 n (by omega), z, x0]
      refine v_asItIs x1 g fun h2 m2 q2 f2 => ?_
      simp only [s210_18, s210_19, s210_20, oB_some, cl2_i, cl2_r, cl2_l, cl2_u, cl2_s, wd_0, wd_i, wd_r, wd_l, wd_f, ct_i, ct_r, ct_n, ct_f, rf_s, rf_n, tl_s, tl_n, true_and, and_true, eq_self, and_self, Nat.reduceAdd, Nat.reduceLeDiff, Nat.zero_le, Nat.reduceEqDiff, or_true, true_or, false_or, or_false, if_true, if_false, gI_0, gI_1, gI_2, gI_3, gI_4, gI_5, gI_6, gI_7, gI_8, gI_9, gI_10, gI_11, gI_12, gI_13, gI_14, gI_15, gL_0, gL_1, gL_2, gL_3, gL_4, gL_5, gL_6, gL_7, gL_8, gL_9, gL_10, gL_11, gL_12, gL_13, gL_14, gL_15, gA_0, gA_1, gA_2, gA_3, gA_4, gA_5, gA_6, gA_7, gA_8, gA_9, gA_10, gA_11, gA_12, gA_13, gA_14, gA_15, p1_0, p1_1, p1_2, p1_3, p1_4, p1_5, p1_6, p1_7, p1_8, p1_9, p1_10, p1_11, p1_12, p1_13, p1_14, p1_15, p2_0, p2_1, p2_2, p2_3, p2_4, p2_5, p2_6, p2_7, p2_8, p2_9, p2_10, p2_11, p2_12, p2_13, p2_14, p2_15, b01_ok, b_ft, b_tf, b01_e0, b01_e1, lgc_0, not_true_eq_false, not_false_eq_true]
      exact inner n 0 h2 S false (by omega) (m1.tr m2) q2 g f2 (by omega) rfl rfl
  simp only [e210, s210_0, s210_1, s210_3, s210_4, oB_some, cl2_i, cl2_r, cl2_l, cl2_u, cl2_s, wd_0, wd_i, wd_r, wd_l, wd_f, ct_i, ct_r, ct_n, ct_f, rf_s, rf_n, tl_s, tl_n, true_and, and_true, eq_self, and_self, Nat.reduceAdd, Nat.reduceLeDiff, Nat.zero_le, Nat.reduceEqDiff, or_true, true_or, false_or, or_false, if_true, if_false, gI_0, gI_1, gI_2, gI_3, gI_4, gI_5, gI_6, gI_7, gI_8, gI_9, gI_10, gI_11, gI_12, gI_13, gI_14, gI_15, gL_0, gL_1, gL_2, gL_3, gL_4, gL_5, gL_6, gL_7, gL_8, gL_9, gL_10, gL_11, gL_12, gL_13, gL_14, gL_15, gA_0, gA_1, gA_2, gA_3, gA_4, gA_5, gA_6, gA_7, gA_8, gA_9, gA_10, gA_11, gA_12, gA_13, gA_14, gA_15, p1_0, p1_1, p1_2, p1_3, p1_4, p1_5, p1_6, p1_7, p1_8, p1_9, p1_10, p1_11, p1_12, p1_13, p1_14, p1_15, p2_0, p2_1, p2_2, p2_3, p2_4, p2_5, p2_6, p2_7, p2_8, p2_9, p2_10, p2_11, p2_12, p2_13, p2_14, p2_15, b01_ok, b_ft, b_tf, b01_e0, b01_e1, lgc_0, not_true_eq_false, not_false_eq_true]
  exact loop (2 ^ n) 0 h _ (by omega) Fm.rf
-- stillness
def knAll (S : VS) : Nat := together S + nb (vs S)
def stA : Nat → VS → Nat → Nat → Nat → Nat
  | 0, _, _, _, l => l
  | m + 1, T, b, r, l => stA m (day1 0 false false T) (knAll (day1 0 false false T)) (if knAll (day1 0 false false T) = b then r + 1 else 0) (max l (if knAll (day1 0 false false T) = b then r + 1 else 0))
theorem stA_s (m : Nat) (T : VS) (b r l : Nat) : stA (m + 1) T b r l = stA m (day1 0 false false T) (knAll (day1 0 false false T)) (if knAll (day1 0 false false T) = b then r + 1 else 0) (max l (if knAll (day1 0 false false T) = b then r + 1 else 0)) := rfl
theorem knAll_le {S : VS} (g : Good S) : knAll S ≤ 280 := by
  have a := together_le g
  have b := nb_le (vs S)
  unfold knAll
  omega
theorem maxN {a b : Nat} (ha : a < 2 ^ 31) (hb : b < 2 ^ 31) : (if nI a < nI b then nI b else nI a) = nI (max a b) := by
  simp only [ltP ha hb]
  by_cases z : a < b
  · rw [if_pos z, Nat.max_eq_right (by omega)]
  · rw [if_neg z, Nat.max_eq_left (by omega)]
set_option maxHeartbeats 8000000 in
theorem v_longestStill {d : Nat} {Q : PQ} {h : HP} {f v w : Nat} {S : VS} (x : FY h f v w S) (g : Good S) (hy : vy S + 61 < 2 ^ 20)
    (k : ∀ h', Fm w 12 h h' → Q (some (.int (nI (stA 60 S (knAll S) 0 0)))) h') : Ev (d + 6) 239 [.ref f] h Q := by
  have loop : ∀ (m i : Nat) (h1 : HP) (T : VS) (r l : Nat) (y : Slot), i + m = 60 → Fm w 12 h h1 → RV h1 w T → Good T → FV h1 w 0 false false → vy T + m < 2 ^ 20 → r ≤ i → l ≤ i → stA m T (knAll T) r l = stA 60 S (knAll S) 0 0 →
      WP (d + 5) 239 Q (15, [.val (.ref f), .val (.int (nI l)), .val (.int (nI r)), .val (.int (nI (knAll T))), .val (.int (nI i)), y], [], h1, 0, 0) := by
    intro m
    induction m with
    | zero =>
      intro i h1 T r l y hi m1 q1 g1 f1 y1 hr hl e1
      obtain rfl : i = 60 := by omega
      rw [s239_15]
      simp only [s239_17, s239_19, s239_68, s239_69, oB_some, cl2_i, cl2_r, cl2_l, cl2_u, cl2_s, wd_0, wd_i, wd_r, wd_l, wd_f, ct_i, ct_r, ct_n, ct_f, rf_s, rf_n, tl_s, tl_n, true_and, and_true, eq_self, and_self, Nat.reduceAdd, Nat.reduceLeDiff, Nat.zero_le, Nat.reduceEqDiff, or_true, true_or, false_or, or_false, if_true, if_false, gI_0, gI_1, gI_2, gI_3, gI_4, gI_5, gI_6, gI_7, gI_8, gI_9, gI_10, gI_11, gI_12, gI_13, gI_14, gI_15, gL_0, gL_1, gL_2, gL_3, gL_4, gL_5, gL_6, gL_7, gL_8, gL_9, gL_10, gL_11, gL_12, gL_13, gL_14, gL_15, gA_0, gA_1, gA_2, gA_3, gA_4, gA_5, gA_6, gA_7, gA_8, gA_9, gA_10, gA_11, gA_12, gA_13, gA_14, gA_15, p1_0, p1_1, p1_2, p1_3, p1_4, p1_5, p1_6, p1_7, p1_8, p1_9, p1_10, p1_11, p1_12, p1_13, p1_14, p1_15, p2_0, p2_1, p2_2, p2_3, p2_4, p2_5, p2_6, p2_7, p2_8, p2_9, p2_10, p2_11, p2_12, p2_13, p2_14, p2_15, b01_ok, b_ft, b_tf, b01_e0, b01_e1, lgc_0, not_true_eq_false, not_false_eq_true]
      rw [if_pos (by decide)]
      have kk := k h1 m1
      rw [← e1] at kk
      exact kk
    | succ m ih =>
      intro i h1 T r l y hi m1 q1 g1 f1 y1 hr hl e1
      have x1 := x.kept m1
      have x0 := x1.1
      have K1 := q1.k
      unfold VK at K1
      have z : ¬ (60 : Int32) ≤ nI i := nI_ge (b := 60) (by omega) (by decide)
      rw [s239_15]
      simp only [s239_17, s239_19, s239_22, s239_23, s239_26, s239_27, oB_some, cl2_i, cl2_r, cl2_l, cl2_u, cl2_s, wd_0, wd_i, wd_r, wd_l, wd_f, ct_i, ct_r, ct_n, ct_f, rf_s, rf_n, tl_s, tl_n, true_and, and_true, eq_self, and_self, Nat.reduceAdd, Nat.reduceLeDiff, Nat.zero_le, Nat.reduceEqDiff, or_true, true_or, false_or, or_false, if_true, if_false, gI_0, gI_1, gI_2, gI_3, gI_4, gI_5, gI_6, gI_7, gI_8, gI_9, gI_10, gI_11, gI_12, gI_13, gI_14, gI_15, gL_0, gL_1, gL_2, gL_3, gL_4, gL_5, gL_6, gL_7, gL_8, gL_9, gL_10, gL_11, gL_12, gL_13, gL_14, gL_15, gA_0, gA_1, gA_2, gA_3, gA_4, gA_5, gA_6, gA_7, gA_8, gA_9, gA_10, gA_11, gA_12, gA_13, gA_14, gA_15, p1_0, p1_1, p1_2, p1_3, p1_4, p1_5, p1_6, p1_7, p1_8, p1_9, p1_10, p1_11, p1_12, p1_13, p1_14, p1_15, p2_0, p2_1, p2_2, p2_3, p2_4, p2_5, p2_6, p2_7, p2_8, p2_9, p2_10, p2_11, p2_12, p2_13, p2_14, p2_15, b01_ok, b_ft, b_tf, b01_e0, b01_e1, lgc_0, not_true_eq_false, not_false_eq_true, x0, K1, z]
      refine v_passDays (n := 1) q1 g1 f1 (by decide) (by omega) fun h2 m2 q2 f2 => ?_
      have k1 := day1_keep (ink := 0) (dm := false) (sh := false) g1 (by omega)
      rw [dayN_1] at q2
      have x20 := (x1.kept m2).1
      have K2 := q2.k
      unfold VK at K2
      have ka := knAll_le k1.1
      have kb := knAll_le g1
      have ke : together (day1 0 false false T) + nb (vs (day1 0 false false T)) = knAll (day1 0 false false T) := rfl
      rw [stA_s] at e1
      simp only [s239_30, s239_31, s239_34, s239_37, s239_39, s239_41, s239_42, s239_45, s239_46, s239_47, s239_48, s239_51, s239_52, oB_some, cl2_i, cl2_r, cl2_l, cl2_u, cl2_s, wd_0, wd_i, wd_r, wd_l, wd_f, ct_i, ct_r, ct_n, ct_f, rf_s, rf_n, tl_s, tl_n, true_and, and_true, eq_self, and_self, Nat.reduceAdd, Nat.reduceLeDiff, Nat.zero_le, Nat.reduceEqDiff, or_true, true_or, false_or, or_false, if_true, if_false, gI_0, gI_1, gI_2, gI_3, gI_4, gI_5, gI_6, gI_7, gI_8, gI_9, gI_10, gI_11, gI_12, gI_13, gI_14, gI_15, gL_0, gL_1, gL_2, gL_3, gL_4, gL_5, gL_6, gL_7, gL_8, gL_9, gL_10, gL_11, gL_12, gL_13, gL_14, gL_15, gA_0, gA_1, gA_2, gA_3, gA_4, gA_5, gA_6, gA_7, gA_8, gA_9, gA_10, gA_11, gA_12, gA_13, gA_14, gA_15, p1_0, p1_1, p1_2, p1_3, p1_4, p1_5, p1_6, p1_7, p1_8, p1_9, p1_10, p1_11, p1_12, p1_13, p1_14, p1_15, p2_0, p2_1, p2_2, p2_3, p2_4, p2_5, p2_6, p2_7, p2_8, p2_9, p2_10, p2_11, p2_12, p2_13, p2_14, p2_15, b01_ok, b_ft, b_tf, b01_e0, b01_e1, lgc_0, not_true_eq_false, not_false_eq_true, x20, K2, v_knownInAll q2 k1.1, ke, eqP (show knAll (day1 0 false false T) < 2 ^ 31 by omega) (show knAll T < 2 ^ 31 by omega), nI_1]
      have step : ∀ r1, r1 = (if knAll (day1 0 false false T) = knAll T then r + 1 else 0) → WP (d + 5) 239 Q (53, [.val (.ref f), .val (.int (nI l)), .val (.int (nI r1)), .val (.int (nI (knAll T))), .val (.int (nI i)), .val (.int (nI (knAll (day1 0 false false T))))], [], h2, 0, 0) := by
        intro r1 h1r
        have r1i : r1 ≤ i + 1 := by rw [h1r]; split <;> omega
        rw [← h1r] at e1
        simp only [s239_53, s239_54, s239_55, s239_58, s239_59, s239_61, s239_62, s239_65, oB_some, cl2_i, cl2_r, cl2_l, cl2_u, cl2_s, wd_0, wd_i, wd_r, wd_l, wd_f, ct_i, ct_r, ct_n, ct_f, rf_s, rf_n, tl_s, tl_n, true_and, and_true, eq_self, and_self, Nat.reduceAdd, Nat.reduceLeDiff, Nat.zero_le, Nat.reduceEqDiff, or_true, true_or, false_or, or_false, if_true, if_false, gI_0, gI_1, gI_2, gI_3, gI_4, gI_5, gI_6, gI_7, gI_8, gI_9, gI_10, gI_11, gI_12, gI_13, gI_14, gI_15, gL_0, gL_1, gL_2, gL_3, gL_4, gL_5, gL_6, gL_7, gL_8, gL_9, gL_10, gL_11, gL_12, gL_13, gL_14, gL_15, gA_0, gA_1, gA_2, gA_3, gA_4, gA_5, gA_6, gA_7, gA_8, gA_9, gA_10, gA_11, gA_12, gA_13, gA_14, gA_15, p1_0, p1_1, p1_2, p1_3, p1_4, p1_5, p1_6, p1_7, p1_8, p1_9, p1_10, p1_11, p1_12, p1_13, p1_14, p1_15, p2_0, p2_1, p2_2, p2_3, p2_4, p2_5, p2_6, p2_7, p2_8, p2_9, p2_10, p2_11, p2_12, p2_13, p2_14, p2_15, b01_ok, b_ft, b_tf, b01_e0, b01_e1, lgc_0, not_true_eq_false, not_false_eq_true, maxN (show l < 2 ^ 31 by omega) (show r1 < 2 ^ 31 by omega), nI_1]
        exact ih (i + 1) h2 _ r1 (max l r1) _ (by omega) (m1.tr m2) q2 k1.1 f2 (by rw [k1.2.2]; omega) r1i (Nat.max_le.mpr ⟨by omega, r1i⟩) e1
      by_cases e : knAll (day1 0 false false T) = knAll T
      · rw [if_neg (not_not_intro e)]
        exact step (r + 1) (by rw [if_pos e])
      · rw [if_pos e]
        exact step 0 (by rw [if_neg e])
  have x0 := x.1
  simp only [e239, s239_0, s239_1, s239_2, s239_3, s239_4, s239_5, oB_some, cl2_i, cl2_r, cl2_l, cl2_u, cl2_s, wd_0, wd_i, wd_r, wd_l, wd_f, ct_i, ct_r, ct_n, ct_f, rf_s, rf_n, tl_s, tl_n, true_and, and_true, eq_self, and_self, Nat.reduceAdd, Nat.reduceLeDiff, Nat.zero_le, Nat.reduceEqDiff, or_true, true_or, false_or, or_false, if_true, if_false, gI_0, gI_1, gI_2, gI_3, gI_4, gI_5, gI_6, gI_7, gI_8, gI_9, gI_10, gI_11, gI_12, gI_13, gI_14, gI_15, gL_0, gL_1, gL_2, gL_3, gL_4, gL_5, gL_6, gL_7, gL_8, gL_9, gL_10, gL_11, gL_12, gL_13, gL_14, gL_15, gA_0, gA_1, gA_2, gA_3, gA_4, gA_5, gA_6, gA_7, gA_8, gA_9, gA_10, gA_11, gA_12, gA_13, gA_14, gA_15, p1_0, p1_1, p1_2, p1_3, p1_4, p1_5, p1_6, p1_7, p1_8, p1_9, p1_10, p1_11, p1_12, p1_13, p1_14, p1_15, p2_0, p2_1, p2_2, p2_3, p2_4, p2_5, p2_6, p2_7, p2_8, p2_9, p2_10, p2_11, p2_12, p2_13, p2_14, p2_15, b01_ok, b_ft, b_tf, b01_e0, b01_e1, lgc_0, not_true_eq_false, not_false_eq_true, x0]
  refine v_asItIs x g fun h1 m1 q1 f1 => ?_
  have K1 := q1.k
  unfold VK at K1
  have ke : together S + nb (vs S) = knAll S := rfl
  simp only [s239_8, s239_11, s239_12, s239_13, oB_some, cl2_i, cl2_r, cl2_l, cl2_u, cl2_s, wd_0, wd_i, wd_r, wd_l, wd_f, ct_i, ct_r, ct_n, ct_f, rf_s, rf_n, tl_s, tl_n, true_and, and_true, eq_self, and_self, Nat.reduceAdd, Nat.reduceLeDiff, Nat.zero_le, Nat.reduceEqDiff, or_true, true_or, false_or, or_false, if_true, if_false, gI_0, gI_1, gI_2, gI_3, gI_4, gI_5, gI_6, gI_7, gI_8, gI_9, gI_10, gI_11, gI_12, gI_13, gI_14, gI_15, gL_0, gL_1, gL_2, gL_3, gL_4, gL_5, gL_6, gL_7, gL_8, gL_9, gL_10, gL_11, gL_12, gL_13, gL_14, gL_15, gA_0, gA_1, gA_2, gA_3, gA_4, gA_5, gA_6, gA_7, gA_8, gA_9, gA_10, gA_11, gA_12, gA_13, gA_14, gA_15, p1_0, p1_1, p1_2, p1_3, p1_4, p1_5, p1_6, p1_7, p1_8, p1_9, p1_10, p1_11, p1_12, p1_13, p1_14, p1_15, p2_0, p2_1, p2_2, p2_3, p2_4, p2_5, p2_6, p2_7, p2_8, p2_9, p2_10, p2_11, p2_12, p2_13, p2_14, p2_15, b01_ok, b_ft, b_tf, b01_e0, b01_e1, lgc_0, not_true_eq_false, not_false_eq_true, K1, v_knownInAll q1 g, ke]
  exact loop 60 0 h1 S 0 0 _ (by omega) m1 q1 g f1 (by omega) (Nat.le_refl _) (Nat.le_refl _) rfl

-- needs: 16.num 17.small 18.bits 20.spec 21.kinds 22.rep 23.bag 24.bag2 25.get 30.day 31.have 32.day2 33.day3 50.vsmall
/-- what a person's letter of the page says: field w -/
def ofP (S : VS) (p w : Nat) : Nat :=
  if w = 0 then vk S p else if w = 1 then vf S p else if w = 2 then vr S p else if w = 3 then nb (vw S p) else if w = 4 then nb (vx S p) else if w = 5 then leadN (vk S p) (vf S p) (vy S + 1) else if w = 6 then pressN (vk S p) (vf S p) else everyN (vk S p) (vf S p)
set_option maxHeartbeats 8000000 in
theorem v_ofPerson {d : Nat} {Q : PQ} {h : HP} {v p w : Nat} {S : VS} (q : RV h v S) (g : Good S) (hp : p < vn S) (hw : w < 8) : Ev (d + 3) 108 [.ref v, .int (nI p), .int (nI w)] h Q = Q (some (.int (nI (ofP S p w)))) h := by
  have k := q.k
  unfold VK at k
  have gn := g.n
  have gy := g.y
  obtain ⟨g1, g2, g3, g4, g5⟩ := g.at hp
  obtain ⟨a1, a2, a3, a4, a5⟩ := q.at hp
  have p6 : p < 6 := by omega
  have p31 : p < 2 ^ 31 := by omega
  rcases k8 hw with rfl | rfl | rfl | rfl | rfl | rfl | rfl | rfl
  all_goals simp only [e108, s108_0, s108_1, s108_4, s108_5, s108_6, s108_7, s108_8, s108_11, s108_12, s108_13, s108_15, s108_16, s108_64, s108_65, s108_66, s108_68, s108_69, s108_70, s108_73, s108_74, s108_75, s108_76, s108_77, s108_80, s108_81, s108_82, s108_85, s108_86, s108_87, s108_90, s108_91, s108_92, s108_95, s108_96, s108_97, s108_99, s108_100, s108_103, s108_104, s108_105, s108_108, s108_109, s108_110, s108_112, s108_115, s108_116, s108_117, s108_119, s108_122, s108_123, s108_124, s108_127, oB_some, cl2_i, cl2_r, cl2_l, cl2_u, cl2_s, wd_0, wd_i, wd_r, wd_l, wd_f, ct_i, ct_r, ct_n, ct_f, rf_s, rf_n, tl_s, tl_n, true_and, and_true, eq_self, and_self, Nat.reduceAdd, Nat.reduceLeDiff, Nat.zero_le, Nat.reduceEqDiff, or_true, true_or, false_or, or_false, if_true, if_false, gI_0, gI_1, gI_2, gI_3, gI_4, gI_5, gI_6, gI_7, gI_8, gI_9, gI_10, gI_11, gI_12, gI_13, gI_14, gI_15, gL_0, gL_1, gL_2, gL_3, gL_4, gL_5, gL_6, gL_7, gL_8, gL_9, gL_10, gL_11, gL_12, gL_13, gL_14, gL_15, gA_0, gA_1, gA_2, gA_3, gA_4, gA_5, gA_6, gA_7, gA_8, gA_9, gA_10, gA_11, gA_12, gA_13, gA_14, gA_15, p1_0, p1_1, p1_2, p1_3, p1_4, p1_5, p1_6, p1_7, p1_8, p1_9, p1_10, p1_11, p1_12, p1_13, p1_14, p1_15, p2_0, p2_1, p2_2, p2_3, p2_4, p2_5, p2_6, p2_7, p2_8, p2_9, p2_10, p2_11, p2_12, p2_13, p2_14, p2_15, b01_ok, b_ft, b_tf, b01_e0, b01_e1, lgc_0, not_true_eq_false, not_false_eq_true, k, a1, a2, a3, a4, a5, q.y, ix_nI p31, nI_pos' p31, p6, v_bitCount g4, v_bitCount g5, nI_1, v_leadOf g1 g2 (show vy S + 1 < 2 ^ 31 by omega), v_pressOf g1 g2, v_everyOf g1 g2]
  all_goals rfl
theorem b01_not {b : Bool} : (b01 (!b) = 0) = (b = true) := by cases b <;> simp [b01]
def spoilV (dm sh : Bool) : List Ltr → VS → Nat
  | [], _ => 0
  | l :: t, S => (if word1 dm sh S l = 0 then 1 else 0) + spoilV dm sh t (had1 dm sh S l)
set_option maxHeartbeats 8000000 in
theorem v_haveWholeBag {d : Nat} {Q : PQ} {h : HP} {v ink : Nat} {dm sh : Bool} {S : VS} (q : RV h v S) (g : Good S) (f : FV h v ink dm sh)
    (k : ∀ h', Fm v 12 h h' → RV h' v (hadAll dm sh (vb S) S) → FV h' v ink dm sh → Q (some (.int (nI (spoilV dm sh (vb S) S)))) h') : Ev (d + 4) 238 [.ref v] h Q := by
  have gl := g.l
  have loop : ∀ (n i c : Nat) (h1 : HP) (S1 : VS), i + n = (vb S).length → vb S1 = vb S → RV h1 v S1 → Good S1 → FV h1 v ink dm sh → Fm v 12 h h1 → hadAll dm sh ((vb S).drop i) S1 = hadAll dm sh (vb S) S → c + spoilV dm sh ((vb S).drop i) S1 = spoilV dm sh (vb S) S →
      WP (d + 3) 238 Q (4, [.val (.ref v), .val (.int (nI c)), .val (.int (nI i))], [], h1, 0, 0) := by
    intro n
    induction n with
    | zero =>
      intro i c h1 S1 hi eb q1 g1 f1 m1 e1 e2
      have K := q1.k
      unfold VK at K
      obtain rfl : i = (vb S).length := by omega
      rw [s238_4]
      have n1 := q1.m
      rw [eb] at n1
      simp only [s238_0, s238_1, s238_2, s238_3, s238_5, s238_6, s238_9, s238_12, s238_15, s238_16, s238_17, s238_20, s238_23, s238_26, s238_29, s238_32, s238_33, oB_some, cl2_i, cl2_r, cl2_l, cl2_u, cl2_s, wd_0, wd_i, wd_r, wd_l, wd_f, ct_i, ct_r, ct_n, ct_f, rf_s, rf_n, tl_s, tl_n, true_and, and_true, eq_self, and_self, Nat.reduceAdd, Nat.reduceLeDiff, Nat.zero_le, Nat.reduceEqDiff, or_true, true_or, false_or, or_false, if_true, if_false, gI_0, gI_1, gI_2, gI_3, gI_4, gI_5, gI_6, gI_7, gI_8, gI_9, gI_10, gI_11, gI_12, gI_13, gI_14, gI_15, gL_0, gL_1, gL_2, gL_3, gL_4, gL_5, gL_6, gL_7, gL_8, gL_9, gL_10, gL_11, gL_12, gL_13, gL_14, gL_15, gA_0, gA_1, gA_2, gA_3, gA_4, gA_5, gA_6, gA_7, gA_8, gA_9, gA_10, gA_11, gA_12, gA_13, gA_14, gA_15, p1_0, p1_1, p1_2, p1_3, p1_4, p1_5, p1_6, p1_7, p1_8, p1_9, p1_10, p1_11, p1_12, p1_13, p1_14, p1_15, p2_0, p2_1, p2_2, p2_3, p2_4, p2_5, p2_6, p2_7, p2_8, p2_9, p2_10, p2_11, p2_12, p2_13, p2_14, p2_15, b01_ok, b_ft, b_tf, b01_e0, b01_e1, lgc_0, not_true_eq_false, not_false_eq_true, K, n1, Int32.le_refl]
      rw [List.drop_length] at e1 e2
      have e3 : S1 = hadAll dm sh (vb S) S := e1
      have e4 : c = spoilV dm sh (vb S) S := e2
      rw [e4]
      exact k h1 m1 (e3 ▸ q1) f1
    | succ n ih =>
      intro i c h1 S1 hi eb q1 g1 f1 m1 e1 e2
      have K := q1.k
      unfold VK at K
      have il : i < (vb S).length := by omega
      have z : ¬ nI (vb S).length ≤ nI i := nI_ge (by omega) (by omega)
      have n1 := q1.m
      rw [eb] at n1
      rw [s238_4]
      simp only [s238_0, s238_1, s238_2, s238_3, s238_5, s238_6, s238_9, s238_12, s238_15, s238_16, s238_17, s238_20, s238_23, s238_26, s238_29, s238_32, s238_33, oB_some, cl2_i, cl2_r, cl2_l, cl2_u, cl2_s, wd_0, wd_i, wd_r, wd_l, wd_f, ct_i, ct_r, ct_n, ct_f, rf_s, rf_n, tl_s, tl_n, true_and, and_true, eq_self, and_self, Nat.reduceAdd, Nat.reduceLeDiff, Nat.zero_le, Nat.reduceEqDiff, or_true, true_or, false_or, or_false, if_true, if_false, gI_0, gI_1, gI_2, gI_3, gI_4, gI_5, gI_6, gI_7, gI_8, gI_9, gI_10, gI_11, gI_12, gI_13, gI_14, gI_15, gL_0, gL_1, gL_2, gL_3, gL_4, gL_5, gL_6, gL_7, gL_8, gL_9, gL_10, gL_11, gL_12, gL_13, gL_14, gL_15, gA_0, gA_1, gA_2, gA_3, gA_4, gA_5, gA_6, gA_7, gA_8, gA_9, gA_10, gA_11, gA_12, gA_13, gA_14, gA_15, p1_0, p1_1, p1_2, p1_3, p1_4, p1_5, p1_6, p1_7, p1_8, p1_9, p1_10, p1_11, p1_12, p1_13, p1_14, p1_15, p2_0, p2_1, p2_2, p2_3, p2_4, p2_5, p2_6, p2_7, p2_8, p2_9, p2_10, p2_11, p2_12, p2_13, p2_14, p2_15, b01_ok, b_ft, b_tf, b01_e0, b01_e1, lgc_0, not_true_eq_false, not_false_eq_true, K, n1, z]
      have hj : (vb S1)[i]? = some ((vb S)[i]) := by rw [eb]; exact List.getElem?_eq_getElem il
      refine v_haveLetter q1 g1 f1 hj fun h2 m2 q2 f2 => ?_
      rw [List.drop_eq_getElem_cons il] at e1 e2
      have g2 := had1_good (dm := dm) (sh := sh) g1 (g1.b (List.mem_of_getElem? hj))
      have e2' : c + ((if word1 dm sh S1 (vb S)[i] = 0 then 1 else 0) + spoilV dm sh ((vb S).drop (i + 1)) (had1 dm sh S1 (vb S)[i])) = spoilV dm sh (vb S) S := e2
      simp only [s238_0, s238_1, s238_2, s238_3, s238_5, s238_6, s238_9, s238_12, s238_15, s238_16, s238_17, s238_20, s238_23, s238_26, s238_29, s238_32, s238_33, oB_some, cl2_i, cl2_r, cl2_l, cl2_u, cl2_s, wd_0, wd_i, wd_r, wd_l, wd_f, ct_i, ct_r, ct_n, ct_f, rf_s, rf_n, tl_s, tl_n, true_and, and_true, eq_self, and_self, Nat.reduceAdd, Nat.reduceLeDiff, Nat.zero_le, Nat.reduceEqDiff, or_true, true_or, false_or, or_false, if_true, if_false, gI_0, gI_1, gI_2, gI_3, gI_4, gI_5, gI_6, gI_7, gI_8, gI_9, gI_10, gI_11, gI_12, gI_13, gI_14, gI_15, gL_0, gL_1, gL_2, gL_3, gL_4, gL_5, gL_6, gL_7, gL_8, gL_9, gL_10, gL_11, gL_12, gL_13, gL_14, gL_15, gA_0, gA_1, gA_2, gA_3, gA_4, gA_5, gA_6, gA_7, gA_8, gA_9, gA_10, gA_11, gA_12, gA_13, gA_14, gA_15, p1_0, p1_1, p1_2, p1_3, p1_4, p1_5, p1_6, p1_7, p1_8, p1_9, p1_10, p1_11, p1_12, p1_13, p1_14, p1_15, p2_0, p2_1, p2_2, p2_3, p2_4, p2_5, p2_6, p2_7, p2_8, p2_9, p2_10, p2_11, p2_12, p2_13, p2_14, p2_15, b01_ok, b_ft, b_tf, b01_e0, b01_e1, lgc_0, not_true_eq_false, not_false_eq_true, nI_1]
      by_cases hw : word1 dm sh S1 (vb S)[i] = 0
      · rw [if_pos hw] at e2'
        rw [if_neg (by rw [decide_eq_true hw]; decide)]
        exact ih (i + 1) (c + 1) h2 _ (by omega) (had1_vb.trans eb) q2 g2 f2 (m1.tr m2) e1 (by omega)
      · rw [if_neg hw] at e2'
        rw [if_pos (by rw [decide_eq_false hw]; decide)]
        exact ih (i + 1) c h2 _ (by omega) (had1_vb.trans eb) q2 g2 f2 (m1.tr m2) e1 (by omega)
  simp only [e238, s238_0, s238_1, s238_2, s238_3, s238_5, s238_6, s238_9, s238_12, s238_15, s238_16, s238_17, s238_20, s238_23, s238_26, s238_29, s238_32, s238_33, oB_some, cl2_i, cl2_r, cl2_l, cl2_u, cl2_s, wd_0, wd_i, wd_r, wd_l, wd_f, ct_i, ct_r, ct_n, ct_f, rf_s, rf_n, tl_s, tl_n, true_and, and_true, eq_self, and_self, Nat.reduceAdd, Nat.reduceLeDiff, Nat.zero_le, Nat.reduceEqDiff, or_true, true_or, false_or, or_false, if_true, if_false, gI_0, gI_1, gI_2, gI_3, gI_4, gI_5, gI_6, gI_7, gI_8, gI_9, gI_10, gI_11, gI_12, gI_13, gI_14, gI_15, gL_0, gL_1, gL_2, gL_3, gL_4, gL_5, gL_6, gL_7, gL_8, gL_9, gL_10, gL_11, gL_12, gL_13, gL_14, gL_15, gA_0, gA_1, gA_2, gA_3, gA_4, gA_5, gA_6, gA_7, gA_8, gA_9, gA_10, gA_11, gA_12, gA_13, gA_14, gA_15, p1_0, p1_1, p1_2, p1_3, p1_4, p1_5, p1_6, p1_7, p1_8, p1_9, p1_10, p1_11, p1_12, p1_13, p1_14, p1_15, p2_0, p2_1, p2_2, p2_3, p2_4, p2_5, p2_6, p2_7, p2_8, p2_9, p2_10, p2_11, p2_12, p2_13, p2_14, p2_15, b01_ok, b_ft, b_tf, b01_e0, b01_e1, lgc_0, not_true_eq_false, not_false_eq_true]
  exact loop (vb S).length 0 0 h S (by omega) rfl q g f Fm.rf rfl (Nat.zero_add _)
/-- the first day of sixty on which it is known -/
def untilN (ink : Nat) (dm sh : Bool) (ask : VS → Bool) : Nat → Nat → VS → Option Nat
  | 0, _, _ => none
  | n + 1, j, S => if ask S = true then some j else untilN ink dm sh ask n (j + 1) (day1 ink dm sh S)

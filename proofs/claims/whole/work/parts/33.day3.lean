theorem inkBit : ∀ ink, ink < 64 → ∀ p, p < 6 → (nI ink &&& (1 : Int32) <<< (nI p &&& 31) = 0) = (ink.testBit p = false) := by decide +kernel
theorem every_pos {k f : Nat} : 1 ≤ everyN k f := by
  unfold everyN
  repeat' split
  all_goals omega
theorem every_lt {k f : Nat} (hf : f < 10) : everyN k f < 30 := by
  unfold everyN
  repeat' split
  all_goals omega
theorem picks_lt {k : Nat} : picksN k < 4 := by
  unfold picksN
  repeat' split
  all_goals omega
theorem lead_le {k f e : Nat} (hf : f < 10) : leadN k f e ≤ 9 := by
  unfold leadN childN
  repeat' split
  all_goals omega
theorem press_le {k f : Nat} (hf : f < 10) : pressN k f ≤ 9 := by
  unfold pressN
  repeat' split
  all_goals omega
theorem remN {a b : Nat} (ha : a < 2 ^ 31) (hb : b < 2 ^ 31) (h0 : 0 < b) : nI a - nI a / nI b * nI b = nI (a % b) := pk_rem (d := b) ha h0 hb
theorem writ_vn {ink : Nat} {S : VS} {p : Nat} : vn (writ ink S p) = vn S := by unfold writ; split <;> rfl
theorem writ_vy {ink : Nat} {S : VS} {p : Nat} : vy (writ ink S p) = vy S := by unfold writ; split <;> rfl
theorem pick1_sm {S : VS} {p : Nat} (g : Good S) (hp : p < vn S) : sm (pick1 S p) := picked_sm (sm_and (g.at hp).2.2.2.1)
theorem writ_good {ink : Nat} {S : VS} {p : Nat} (g : Good S) (hp : p < vn S) : Good (writ ink S p) := by
  unfold writ
  split
  · rename_i c
    have gp := g.at hp
    have d1 := c.1
    unfold due at d1
    simp only [Bool.and_eq_true, decide_eq_true_eq] at d1
    refine Good.wX (Good.wB g ?_ ?_) (sm_or gp.2.2.2.2 (pick1_sm g hp))
    · rw [List.length_append]
      have : [(p, vr S p, (if ink.testBit p = true then 0 else leadN (vk S p) (vf S p) (vy S)), pressN (vk S p) (vf S p), pick1 S p)].length = 1 := rfl
      omega
    · intro l hl
      rcases List.mem_append.mp hl with hl | hl
      · exact g.b hl
      · obtain rfl := List.mem_singleton.mp hl
        refine ⟨hp, d1.1.2, ?_, press_le gp.2.1, c.2.1, pick1_sm g hp⟩
        show (if ink.testBit p = true then 0 else leadN (vk S p) (vf S p) (vy S)) ≤ 9
        split
        · omega
        · exact lead_le gp.2.1
  · exact g
theorem writAll_keep {ink : Nat} : ∀ {n p : Nat} {S : VS}, Good S → p + n ≤ vn S → Good (writAll ink n p S) ∧ vn (writAll ink n p S) = vn S ∧ vy (writAll ink n p S) = vy S
  | 0, p, S, g, _ => ⟨g, rfl, rfl⟩
  | n + 1, p, S, g, hp => by
    obtain ⟨a, b, c⟩ := writAll_keep (n := n) (p := p + 1) (writ_good (ink := ink) g (show p < vn S by omega)) (by rw [writ_vn]; omega)
    exact ⟨a, b.trans writ_vn, c.trans writ_vy⟩
theorem day1_keep {ink : Nat} {dm sh : Bool} {S : VS} (g : Good S) (hy : vy S + 1 < 2 ^ 20) : Good (day1 ink dm sh S) ∧ vn (day1 ink dm sh S) = vn S ∧ vy (day1 ink dm sh S) = vy S + 1 := by
  have g1 := g.wY hy
  obtain ⟨a, b, c, e⟩ := hadAll_keep (dm := dm) (sh := sh) (b := (vb S).take 3) g1 (fun l hl => g.b (List.mem_of_mem_take hl))
  have g2 : Good (wB (hadAll dm sh ((vb S).take 3) (wY S (vy S + 1))) ((vb S).drop 3)) := a.wB (by rw [List.length_drop]; have := g.l; omega) (fun l hl => by rw [b]; exact g.b (List.mem_of_mem_drop hl))
  have n2 : vn (wB (hadAll dm sh ((vb S).take 3) (wY S (vy S + 1))) ((vb S).drop 3)) = vn S := b
  obtain ⟨x, y, z⟩ := writAll_keep (ink := ink) (n := vn S) (p := 0) g2 (by rw [n2]; omega)
  exact ⟨x, y.trans n2, z.trans e⟩
theorem dayN_keep {ink : Nat} {dm sh : Bool} : ∀ {n : Nat} {S : VS}, Good S → vy S + n < 2 ^ 20 → Good (dayN ink dm sh n S) ∧ vn (dayN ink dm sh n S) = vn S ∧ vy (dayN ink dm sh n S) = vy S + n
  | 0, S, g, _ => ⟨g, rfl, rfl⟩
  | n + 1, S, g, hy => by
    obtain ⟨a, b, c⟩ := day1_keep (ink := ink) (dm := dm) (sh := sh) g (by omega)
    obtain ⟨x, y, z⟩ := dayN_keep (ink := ink) (dm := dm) (sh := sh) (n := n) a (by rw [c]; omega)
    exact ⟨x, y.trans b, by rw [dayN, z, c]; omega⟩
set_option maxHeartbeats 8000000 in
theorem v_writeIfDue {d : Nat} {Q : PQ} {h : HP} {v p ink : Nat} {dm sh : Bool} {S : VS} (q : RV h v S) (g : Good S) (f : FV h v ink dm sh) (hi : ink < 64) (hp : p < vn S)
    (k : ∀ h', Fm v 12 h h' → RV h' v (writ ink S p) → FV h' v ink dm sh → Q none h') : Ev (d + 3) 48 [.ref v, .int (nI p)] h Q := by
  have K := q.k
  unfold VK at K
  have gn := g.n
  have gl := g.l
  have gy := g.y
  obtain ⟨g1, g2, g3, g4, g5⟩ := g.at hp
  obtain ⟨a1, a2, a3, a4, a5⟩ := q.at hp
  have p31 : p < 2 ^ 31 := by omega
  have p6 : p < 6 := by omega
  have ep := @every_pos (vk S p) (vf S p)
  have el := @every_lt (vk S p) (vf S p) g2
  have ps : sm (vw S p &&& (vx S p ^^^ -1)) := sm_and g4
  have z1 : ¬ nI (everyN (vk S p) (vf S p)) < 1 := nI_nlt (b := 1) ep (by omega)
  have z2 : ¬ nI (everyN (vk S p) (vf S p)) = 0 := nI_ne0 ep (by omega)
  have rm := remN (a := vy S) (b := everyN (vk S p) (vf S p)) (by omega) (by omega) ep
  have r0 : (nI (vy S % everyN (vk S p) (vf S p)) = 0) = (vy S % everyN (vk S p) (vf S p) = 0) := eq_l0 (by have := Nat.mod_lt (vy S) ep; omega)
  have ek : picked (backN (vk S p)) (picksN (vk S p)) (vw S p &&& (vx S p ^^^ -1)) = pick1 S p := rfl
  have same : writ ink S p = S → Q none h := fun e => k h Fm.rf (by rw [e]; exact q) f
  simp only [e48, s48_0, s48_1, s48_4, s48_5, s48_6, s48_7, s48_8, s48_11, s48_12, s48_13, s48_14, s48_15, s48_16, s48_19, s48_21, s48_23, s48_24, s48_27, s48_28, s48_31, s48_33, s48_34, s48_37, s48_38, s48_39, s48_42, s48_45, s48_46, s48_49, s48_52, s48_55, s48_56, s48_57, s48_60, s48_61, s48_62, s48_63, s48_66, s48_67, s48_68, s48_71, s48_72, s48_73, s48_74, s48_77, s48_78, s48_81, s48_84, s48_86, s48_88, s48_89, s48_90, s48_93, s48_94, s48_95, s48_98, s48_99, s48_100, s48_101, s48_102, s48_105, s48_106, s48_109, s48_110, s48_111, s48_112, s48_115, s48_118, s48_120, s48_121, s48_124, s48_125, s48_126, s48_129, oB_some, cl2_i, cl2_r, cl2_l, cl2_u, cl2_s, wd_0, wd_i, wd_r, wd_l, wd_f, ct_i, ct_r, ct_n, ct_f, rf_s, rf_n, tl_s, tl_n, true_and, and_true, eq_self, and_self, Nat.reduceAdd, Nat.reduceLeDiff, Nat.zero_le, Nat.reduceEqDiff, or_true, true_or, false_or, or_false, if_true, if_false, gI_0, gI_1, gI_2, gI_3, gI_4, gI_5, gI_6, gI_7, gI_8, gI_9, gI_10, gI_11, gI_12, gI_13, gI_14, gI_15, gL_0, gL_1, gL_2, gL_3, gL_4, gL_5, gL_6, gL_7, gL_8, gL_9, gL_10, gL_11, gL_12, gL_13, gL_14, gL_15, gA_0, gA_1, gA_2, gA_3, gA_4, gA_5, gA_6, gA_7, gA_8, gA_9, gA_10, gA_11, gA_12, gA_13, gA_14, gA_15, p1_0, p1_1, p1_2, p1_3, p1_4, p1_5, p1_6, p1_7, p1_8, p1_9, p1_10, p1_11, p1_12, p1_13, p1_14, p1_15, p2_0, p2_1, p2_2, p2_3, p2_4, p2_5, p2_6, p2_7, p2_8, p2_9, p2_10, p2_11, p2_12, p2_13, p2_14, p2_15, b01_ok, b_ft, b_tf, b01_e0, b01_e1, lgc_0, not_true_eq_false, not_false_eq_true, K, a1, a2, a3, a4, a5, q.y, f.1, ix_nI p31, nI_pos' p31, p6, v_everyOf g1 g2, z1, z2, rm, r0, v_hasOther q g hp, v_isFull q.k.bag q.m gl, v_picksOf g1, v_isBackward g1, v_firstFew ps (show picksN (vk S p) < 2 ^ 20 by have := @picks_lt (vk S p); omega), inkBit ink hi p p6, v_leadOf g1 g2 (show vy S < 2 ^ 31 by omega), ek]
  have fin : ∀ ld, ld = (if ink.testBit p = true then 0 else leadN (vk S p) (vf S p) (vy S)) → due S p = true → ¬ pick1 S p = 0 → (vb S).length < 24 →
      WP (d + 2) 48 Q (130, [.val (.ref v), .val (.int (nI p)), .val (.int (nI (vk S p))), .val (.int (nI (vf S p))), .val (.int (nI (everyN (vk S p) (vf S p)))), .val (.long (pick1 S p)), .second, .val (.int (nI ld))], [.int (nI p), .ref (v + 3), .int (nI p), .ref (v + 6)], h, 0, 0) := by
    intro ld eld hd hk hl
    simp only [s48_130, s48_131, s48_133, s48_134, s48_135, s48_138, s48_140, s48_143, s48_144, s48_147, s48_148, s48_149, s48_150, s48_152, s48_153, s48_154, oB_some, cl2_i, cl2_r, cl2_l, cl2_u, cl2_s, wd_0, wd_i, wd_r, wd_l, wd_f, ct_i, ct_r, ct_n, ct_f, rf_s, rf_n, tl_s, tl_n, true_and, and_true, eq_self, and_self, Nat.reduceAdd, Nat.reduceLeDiff, Nat.zero_le, Nat.reduceEqDiff, or_true, true_or, false_or, or_false, if_true, if_false, gI_0, gI_1, gI_2, gI_3, gI_4, gI_5, gI_6, gI_7, gI_8, gI_9, gI_10, gI_11, gI_12, gI_13, gI_14, gI_15, gL_0, gL_1, gL_2, gL_3, gL_4, gL_5, gL_6, gL_7, gL_8, gL_9, gL_10, gL_11, gL_12, gL_13, gL_14, gL_15, gA_0, gA_1, gA_2, gA_3, gA_4, gA_5, gA_6, gA_7, gA_8, gA_9, gA_10, gA_11, gA_12, gA_13, gA_14, gA_15, p1_0, p1_1, p1_2, p1_3, p1_4, p1_5, p1_6, p1_7, p1_8, p1_9, p1_10, p1_11, p1_12, p1_13, p1_14, p1_15, p2_0, p2_1, p2_2, p2_3, p2_4, p2_5, p2_6, p2_7, p2_8, p2_9, p2_10, p2_11, p2_12, p2_13, p2_14, p2_15, b01_ok, b_ft, b_tf, b01_e0, b01_e1, lgc_0, not_true_eq_false, not_false_eq_true, K, a3, ix_nI p31, nI_pos' p31, p6, v_pressOf g1 g2]
    refine v_add (l := (p, vr S p, ld, pressN (vk S p) (vf S p), pick1 S p)) q.k.bag q.m hl q.b fun h1 m1 n1 b1 => ?_
    have q1 := RV_b q m1 n1 b1
    have K1 := q1.k
    unfold VK at K1
    have x1 := (q1.at hp).2.2.2.2
    simp only [s48_130, s48_131, s48_133, s48_134, s48_135, s48_138, s48_140, s48_143, s48_144, s48_147, s48_148, s48_149, s48_150, s48_152, s48_153, s48_154, oB_some, cl2_i, cl2_r, cl2_l, cl2_u, cl2_s, wd_0, wd_i, wd_r, wd_l, wd_f, ct_i, ct_r, ct_n, ct_f, rf_s, rf_n, tl_s, tl_n, true_and, and_true, eq_self, and_self, Nat.reduceAdd, Nat.reduceLeDiff, Nat.zero_le, Nat.reduceEqDiff, or_true, true_or, false_or, or_false, if_true, if_false, gI_0, gI_1, gI_2, gI_3, gI_4, gI_5, gI_6, gI_7, gI_8, gI_9, gI_10, gI_11, gI_12, gI_13, gI_14, gI_15, gL_0, gL_1, gL_2, gL_3, gL_4, gL_5, gL_6, gL_7, gL_8, gL_9, gL_10, gL_11, gL_12, gL_13, gL_14, gL_15, gA_0, gA_1, gA_2, gA_3, gA_4, gA_5, gA_6, gA_7, gA_8, gA_9, gA_10, gA_11, gA_12, gA_13, gA_14, gA_15, p1_0, p1_1, p1_2, p1_3, p1_4, p1_5, p1_6, p1_7, p1_8, p1_9, p1_10, p1_11, p1_12, p1_13, p1_14, p1_15, p2_0, p2_1, p2_2, p2_3, p2_4, p2_5, p2_6, p2_7, p2_8, p2_9, p2_10, p2_11, p2_12, p2_13, p2_14, p2_15, b01_ok, b_ft, b_tf, b01_e0, b01_e1, lgc_0, not_true_eq_false, not_false_eq_true, z_hkd_sI, z_hln_sI, z_hL_sI, z_hR_sI, z_hnx_sI, z_hkd_sL, z_hln_sL, z_hI_sL, z_hR_sL, z_hnx_sL, z_hkd_sR, z_hln_sR, z_hI_sR, z_hL_sR, z_hnx_sR, z_hkd_cI, z_hln_cI, z_hL_cI, z_hR_cI, z_hnx_cI, z_hkd_cLg, z_hln_cLg, z_hI_cLg, z_hR_cLg, z_hnx_cLg, K1, x1, ix_nI p31, nI_pos' p31, p6]
    refine k _ ((m1.wide (by omega) (by omega)).sL (by omega) (by omega)) ?_ (f.kept m1 (by omega)).sL
    have e : writ ink S p = wX (wB S (vb S ++ [(p, vr S p, ld, pressN (vk S p) (vf S p), pick1 S p)])) p (vx S p ||| pick1 S p) := by
      unfold writ
      rw [if_pos ⟨hd, hk, hl⟩, eld]
    rw [e]
    exact RV_x q1 p _
  by_cases hd : due S p = true
  · have hd' := hd
    unfold due at hd'
    simp only [Bool.and_eq_true, decide_eq_true_eq] at hd'
    obtain ⟨⟨d1, d2⟩, d3⟩ := hd'
    rw [if_neg (not_not_intro d1), if_neg (by rw [decide_eq_true d2, d3]; decide)]
    by_cases hl : (vb S).length = 24
    · rw [if_neg (by rw [decide_eq_true hl]; decide)]
      exact same (by unfold writ; rw [if_neg (fun z => by omega)])
    · rw [if_pos (decide_eq_false hl)]
      by_cases hk : pick1 S p = 0
      · rw [if_neg (not_not_intro hk)]
        exact same (by unfold writ; rw [if_neg (fun z => z.2.1 hk)])
      · rw [if_pos hk]
        by_cases hb : ink.testBit p = true
        · rw [if_neg (by rw [hb]; decide)]
          exact fin 0 (by rw [if_pos hb]) hd hk (by omega)
        · rw [if_pos (by simpa using hb)]
          exact fin _ (by rw [if_neg hb]) hd hk (by omega)
  · have s : writ ink S p = S := by unfold writ; rw [if_neg (fun z => hd z.1)]
    by_cases d1 : vy S % everyN (vk S p) (vf S p) = 0
    · rw [if_neg (not_not_intro d1)]
      have hd2 : (decide (vr S p < vn S) && !decide (vr S p = p)) = false := by
        cases e : (decide (vr S p < vn S) && !decide (vr S p = p))
        · rfl
        · exact absurd (by unfold due; rw [decide_eq_true d1, Bool.true_and, e]) hd
      rw [if_pos hd2]
      exact same s
    · rw [if_pos d1]
      exact same s
set_option maxHeartbeats 8000000 in
theorem v_passDays {d : Nat} {Q : PQ} {h : HP} {v n ink : Nat} {dm sh : Bool} {S : VS} (q : RV h v S) (g : Good S) (f : FV h v ink dm sh) (hi : ink < 64) (hn : vy S + n < 2 ^ 20)
    (k : ∀ h', Fm v 12 h h' → RV h' v (dayN ink dm sh n S) → FV h' v ink dm sh → Q none h') : Ev (d + 5) 41 [.ref v, .int (nI n)] h Q := by
  have inner : ∀ (m i j : Nat) (h1 : HP) (S1 SF : VS), i + m = vn S1 → RV h1 v S1 → Good S1 → FV h1 v ink dm sh → Fm v 12 h h1 → writAll ink m i S1 = SF →
      (∀ h2, RV h2 v SF → FV h2 v ink dm sh → Fm v 12 h h2 → WP (d + 4) 41 Q (42, [.val (.ref v), .val (.int (nI n)), .val (.int (nI j)), .val (.int (nI (vn S1)))], [], h2, 0, 0)) →
      WP (d + 4) 41 Q (23, [.val (.ref v), .val (.int (nI n)), .val (.int (nI j)), .val (.int (nI i))], [], h1, 0, 0) := by
    intro m
    induction m with
    | zero =>
      intro i j h1 S1 SF hi1 q1 g1 f1 m1 e1 kk
      obtain rfl : i = vn S1 := by omega
      have K := q1.k
      unfold VK at K
      rw [s41_23]
      have e2 : S1 = SF := e1
      simp only [s41_24, s41_25, s41_28, s41_31, s41_32, s41_33, s41_36, s41_39, oB_some, cl2_i, cl2_r, cl2_l, cl2_u, cl2_s, wd_0, wd_i, wd_r, wd_l, wd_f, ct_i, ct_r, ct_n, ct_f, rf_s, rf_n, tl_s, tl_n, true_and, and_true, eq_self, and_self, Nat.reduceAdd, Nat.reduceLeDiff, Nat.zero_le, Nat.reduceEqDiff, or_true, true_or, false_or, or_false, if_true, if_false, gI_0, gI_1, gI_2, gI_3, gI_4, gI_5, gI_6, gI_7, gI_8, gI_9, gI_10, gI_11, gI_12, gI_13, gI_14, gI_15, gL_0, gL_1, gL_2, gL_3, gL_4, gL_5, gL_6, gL_7, gL_8, gL_9, gL_10, gL_11, gL_12, gL_13, gL_14, gL_15, gA_0, gA_1, gA_2, gA_3, gA_4, gA_5, gA_6, gA_7, gA_8, gA_9, gA_10, gA_11, gA_12, gA_13, gA_14, gA_15, p1_0, p1_1, p1_2, p1_3, p1_4, p1_5, p1_6, p1_7, p1_8, p1_9, p1_10, p1_11, p1_12, p1_13, p1_14, p1_15, p2_0, p2_1, p2_2, p2_3, p2_4, p2_5, p2_6, p2_7, p2_8, p2_9, p2_10, p2_11, p2_12, p2_13, p2_14, p2_15, b01_ok, b_ft, b_tf, b01_e0, b01_e1, lgc_0, not_true_eq_false, not_false_eq_true, K, q1.n, Int32.le_refl]
      exact kk h1 (e2 ▸ q1) f1 m1
    | succ m ih =>
      intro i j h1 S1 SF hi1 q1 g1 f1 m1 e1 kk
      have K := q1.k
      unfold VK at K
      rw [s41_23]
      have z : ¬ nI (vn S1) ≤ nI i := nI_ge (by omega) (by have := g1.n; omega)
      simp only [s41_24, s41_25, s41_28, s41_31, s41_32, s41_33, s41_36, s41_39, oB_some, cl2_i, cl2_r, cl2_l, cl2_u, cl2_s, wd_0, wd_i, wd_r, wd_l, wd_f, ct_i, ct_r, ct_n, ct_f, rf_s, rf_n, tl_s, tl_n, true_and, and_true, eq_self, and_self, Nat.reduceAdd, Nat.reduceLeDiff, Nat.zero_le, Nat.reduceEqDiff, or_true, true_or, false_or, or_false, if_true, if_false, gI_0, gI_1, gI_2, gI_3, gI_4, gI_5, gI_6, gI_7, gI_8, gI_9, gI_10, gI_11, gI_12, gI_13, gI_14, gI_15, gL_0, gL_1, gL_2, gL_3, gL_4, gL_5, gL_6, gL_7, gL_8, gL_9, gL_10, gL_11, gL_12, gL_13, gL_14, gL_15, gA_0, gA_1, gA_2, gA_3, gA_4, gA_5, gA_6, gA_7, gA_8, gA_9, gA_10, gA_11, gA_12, gA_13, gA_14, gA_15, p1_0, p1_1, p1_2, p1_3, p1_4, p1_5, p1_6, p1_7, p1_8, p1_9, p1_10, p1_11, p1_12, p1_13, p1_14, p1_15, p2_0, p2_1, p2_2, p2_3, p2_4, p2_5, p2_6, p2_7, p2_8, p2_9, p2_10, p2_11, p2_12, p2_13, p2_14, p2_15, b01_ok, b_ft, b_tf, b01_e0, b01_e1, lgc_0, not_true_eq_false, not_false_eq_true, K, q1.n, z]
      refine v_writeIfDue q1 g1 f1 hi (show i < vn S1 by omega) fun h2 m2 q2 f2 => ?_
      simp only [s41_24, s41_25, s41_28, s41_31, s41_32, s41_33, s41_36, s41_39, oB_some, cl2_i, cl2_r, cl2_l, cl2_u, cl2_s, wd_0, wd_i, wd_r, wd_l, wd_f, ct_i, ct_r, ct_n, ct_f, rf_s, rf_n, tl_s, tl_n, true_and, and_true, eq_self, and_self, Nat.reduceAdd, Nat.reduceLeDiff, Nat.zero_le, Nat.reduceEqDiff, or_true, true_or, false_or, or_false, if_true, if_false, gI_0, gI_1, gI_2, gI_3, gI_4, gI_5, gI_6, gI_7, gI_8, gI_9, gI_10, gI_11, gI_12, gI_13, gI_14, gI_15, gL_0, gL_1, gL_2, gL_3, gL_4, gL_5, gL_6, gL_7, gL_8, gL_9, gL_10, gL_11, gL_12, gL_13, gL_14, gL_15, gA_0, gA_1, gA_2, gA_3, gA_4, gA_5, gA_6, gA_7, gA_8, gA_9, gA_10, gA_11, gA_12, gA_13, gA_14, gA_15, p1_0, p1_1, p1_2, p1_3, p1_4, p1_5, p1_6, p1_7, p1_8, p1_9, p1_10, p1_11, p1_12, p1_13, p1_14, p1_15, p2_0, p2_1, p2_2, p2_3, p2_4, p2_5, p2_6, p2_7, p2_8, p2_9, p2_10, p2_11, p2_12, p2_13, p2_14, p2_15, b01_ok, b_ft, b_tf, b01_e0, b01_e1, lgc_0, not_true_eq_false, not_false_eq_true, nI_1]
      refine ih (i + 1) j h2 _ SF (by rw [writ_vn]; omega) q2 (writ_good g1 (by omega)) f2 (m1.tr m2) e1 ?_
      rw [writ_vn]
      exact kk
  have loop : ∀ (m j : Nat) (x : Slot) (h1 : HP) (S1 : VS), j + m = n → RV h1 v S1 → Good S1 → FV h1 v ink dm sh → Fm v 12 h h1 → vy S1 + m < 2 ^ 20 → dayN ink dm sh m S1 = dayN ink dm sh n S →
      WP (d + 4) 41 Q (2, [.val (.ref v), .val (.int (nI n)), .val (.int (nI j)), x], [], h1, 0, 0) := by
    intro m
    induction m with
    | zero =>
      intro j x h1 S1 hj q1 g1 f1 m1 y1 e1
      obtain rfl : j = n := by omega
      rw [s41_2]
      simp only [s41_0, s41_1, s41_3, s41_4, s41_7, s41_8, s41_9, s41_12, s41_13, s41_14, s41_17, s41_18, s41_21, s41_22, s41_24, s41_25, s41_28, s41_31, s41_32, s41_33, s41_36, s41_39, s41_42, s41_45, s41_48, oB_some, cl2_i, cl2_r, cl2_l, cl2_u, cl2_s, wd_0, wd_i, wd_r, wd_l, wd_f, ct_i, ct_r, ct_n, ct_f, rf_s, rf_n, tl_s, tl_n, true_and, and_true, eq_self, and_self, Nat.reduceAdd, Nat.reduceLeDiff, Nat.zero_le, Nat.reduceEqDiff, or_true, true_or, false_or, or_false, if_true, if_false, gI_0, gI_1, gI_2, gI_3, gI_4, gI_5, gI_6, gI_7, gI_8, gI_9, gI_10, gI_11, gI_12, gI_13, gI_14, gI_15, gL_0, gL_1, gL_2, gL_3, gL_4, gL_5, gL_6, gL_7, gL_8, gL_9, gL_10, gL_11, gL_12, gL_13, gL_14, gL_15, gA_0, gA_1, gA_2, gA_3, gA_4, gA_5, gA_6, gA_7, gA_8, gA_9, gA_10, gA_11, gA_12, gA_13, gA_14, gA_15, p1_0, p1_1, p1_2, p1_3, p1_4, p1_5, p1_6, p1_7, p1_8, p1_9, p1_10, p1_11, p1_12, p1_13, p1_14, p1_15, p2_0, p2_1, p2_2, p2_3, p2_4, p2_5, p2_6, p2_7, p2_8, p2_9, p2_10, p2_11, p2_12, p2_13, p2_14, p2_15, b01_ok, b_ft, b_tf, b01_e0, b01_e1, lgc_0, not_true_eq_false, not_false_eq_true, Int32.le_refl]
      refine k h1 m1 ?_ f1
      rw [← e1]
      exact q1
    | succ m ih =>
      intro j x h1 S1 hj q1 g1 f1 m1 y1 e1
      have K := q1.k
      unfold VK at K
      rw [s41_2]
      have z : ¬ nI n ≤ nI j := nI_ge (by omega) (by omega)
      have q2 := RV_y q1 (vy S1 + 1)
      have g2 := g1.wY (u := vy S1 + 1) (by omega)
      simp only [s41_0, s41_1, s41_3, s41_4, s41_7, s41_8, s41_9, s41_12, s41_13, s41_14, s41_17, s41_18, s41_21, s41_22, s41_24, s41_25, s41_28, s41_31, s41_32, s41_33, s41_36, s41_39, s41_42, s41_45, s41_48, oB_some, cl2_i, cl2_r, cl2_l, cl2_u, cl2_s, wd_0, wd_i, wd_r, wd_l, wd_f, ct_i, ct_r, ct_n, ct_f, rf_s, rf_n, tl_s, tl_n, true_and, and_true, eq_self, and_self, Nat.reduceAdd, Nat.reduceLeDiff, Nat.zero_le, Nat.reduceEqDiff, or_true, true_or, false_or, or_false, if_true, if_false, gI_0, gI_1, gI_2, gI_3, gI_4, gI_5, gI_6, gI_7, gI_8, gI_9, gI_10, gI_11, gI_12, gI_13, gI_14, gI_15, gL_0, gL_1, gL_2, gL_3, gL_4, gL_5, gL_6, gL_7, gL_8, gL_9, gL_10, gL_11, gL_12, gL_13, gL_14, gL_15, gA_0, gA_1, gA_2, gA_3, gA_4, gA_5, gA_6, gA_7, gA_8, gA_9, gA_10, gA_11, gA_12, gA_13, gA_14, gA_15, p1_0, p1_1, p1_2, p1_3, p1_4, p1_5, p1_6, p1_7, p1_8, p1_9, p1_10, p1_11, p1_12, p1_13, p1_14, p1_15, p2_0, p2_1, p2_2, p2_3, p2_4, p2_5, p2_6, p2_7, p2_8, p2_9, p2_10, p2_11, p2_12, p2_13, p2_14, p2_15, b01_ok, b_ft, b_tf, b01_e0, b01_e1, lgc_0, not_true_eq_false, not_false_eq_true, z_hkd_sI, z_hln_sI, z_hL_sI, z_hR_sI, z_hnx_sI, z_hkd_sL, z_hln_sL, z_hI_sL, z_hR_sL, z_hnx_sL, z_hkd_sR, z_hln_sR, z_hI_sR, z_hL_sR, z_hnx_sR, z_hkd_cI, z_hln_cI, z_hL_cI, z_hR_cI, z_hnx_cI, z_hkd_cLg, z_hln_cLg, z_hI_cLg, z_hR_cLg, z_hnx_cLg, K, z, q1.y, nI_1]
      refine v_haveFirst q2 g2 (f1.sI (Or.inr (by decide))) fun h3 m3 q3 f3 => ?_
      have e3 := hadAll_keep (dm := dm) (sh := sh) (b := (vb S1).take 3) g2 (fun l hl => g1.b (List.mem_of_mem_take hl))
      have g3 : Good (wB (hadAll dm sh ((vb S1).take 3) (wY S1 (vy S1 + 1))) ((vb S1).drop 3)) := e3.1.wB (by rw [List.length_drop]; have := g1.l; omega) (fun l hl => by rw [e3.2.1]; exact g1.b (List.mem_of_mem_drop hl))
      have n3 : vn (wB (hadAll dm sh ((vb S1).take 3) (wY S1 (vy S1 + 1))) ((vb S1).drop 3)) = vn S1 := e3.2.1
      simp only [s41_0, s41_1, s41_3, s41_4, s41_7, s41_8, s41_9, s41_12, s41_13, s41_14, s41_17, s41_18, s41_21, s41_22, s41_24, s41_25, s41_28, s41_31, s41_32, s41_33, s41_36, s41_39, s41_42, s41_45, s41_48, oB_some, cl2_i, cl2_r, cl2_l, cl2_u, cl2_s, wd_0, wd_i, wd_r, wd_l, wd_f, ct_i, ct_r, ct_n, ct_f, rf_s, rf_n, tl_s, tl_n, true_and, and_true, eq_self, and_self, Nat.reduceAdd, Nat.reduceLeDiff, Nat.zero_le, Nat.reduceEqDiff, or_true, true_or, false_or, or_false, if_true, if_false, gI_0, gI_1, gI_2, gI_3, gI_4, gI_5, gI_6, gI_7, gI_8, gI_9, gI_10, gI_11, gI_12, gI_13, gI_14, gI_15, gL_0, gL_1, gL_2, gL_3, gL_4, gL_5, gL_6, gL_7, gL_8, gL_9, gL_10, gL_11, gL_12, gL_13, gL_14, gL_15, gA_0, gA_1, gA_2, gA_3, gA_4, gA_5, gA_6, gA_7, gA_8, gA_9, gA_10, gA_11, gA_12, gA_13, gA_14, gA_15, p1_0, p1_1, p1_2, p1_3, p1_4, p1_5, p1_6, p1_7, p1_8, p1_9, p1_10, p1_11, p1_12, p1_13, p1_14, p1_15, p2_0, p2_1, p2_2, p2_3, p2_4, p2_5, p2_6, p2_7, p2_8, p2_9, p2_10, p2_11, p2_12, p2_13, p2_14, p2_15, b01_ok, b_ft, b_tf, b01_e0, b01_e1, lgc_0, not_true_eq_false, not_false_eq_true]
      refine inner (vn S1) 0 j h3 _ (day1 ink dm sh S1) ((Nat.zero_add _).trans n3.symm) q3 g3 f3 ((m1.sI (Nat.le_refl _) (by omega)).tr m3) rfl ?_
      intro h4 q4 f4 m4
      have k1 := day1_keep (ink := ink) (dm := dm) (sh := sh) g1 (by omega)
      simp only [s41_0, s41_1, s41_3, s41_4, s41_7, s41_8, s41_9, s41_12, s41_13, s41_14, s41_17, s41_18, s41_21, s41_22, s41_24, s41_25, s41_28, s41_31, s41_32, s41_33, s41_36, s41_39, s41_42, s41_45, s41_48, oB_some, cl2_i, cl2_r, cl2_l, cl2_u, cl2_s, wd_0, wd_i, wd_r, wd_l, wd_f, ct_i, ct_r, ct_n, ct_f, rf_s, rf_n, tl_s, tl_n, true_and, and_true, eq_self, and_self, Nat.reduceAdd, Nat.reduceLeDiff, Nat.zero_le, Nat.reduceEqDiff, or_true, true_or, false_or, or_false, if_true, if_false, gI_0, gI_1, gI_2, gI_3, gI_4, gI_5, gI_6, gI_7, gI_8, gI_9, gI_10, gI_11, gI_12, gI_13, gI_14, gI_15, gL_0, gL_1, gL_2, gL_3, gL_4, gL_5, gL_6, gL_7, gL_8, gL_9, gL_10, gL_11, gL_12, gL_13, gL_14, gL_15, gA_0, gA_1, gA_2, gA_3, gA_4, gA_5, gA_6, gA_7, gA_8, gA_9, gA_10, gA_11, gA_12, gA_13, gA_14, gA_15, p1_0, p1_1, p1_2, p1_3, p1_4, p1_5, p1_6, p1_7, p1_8, p1_9, p1_10, p1_11, p1_12, p1_13, p1_14, p1_15, p2_0, p2_1, p2_2, p2_3, p2_4, p2_5, p2_6, p2_7, p2_8, p2_9, p2_10, p2_11, p2_12, p2_13, p2_14, p2_15, b01_ok, b_ft, b_tf, b01_e0, b01_e1, lgc_0, not_true_eq_false, not_false_eq_true, nI_1]
      exact ih (j + 1) _ h4 _ (by omega) q4 k1.1 f4 m4 (by rw [k1.2.2]; omega) e1
  simp only [e41, s41_0, s41_1, s41_3, s41_4, s41_7, s41_8, s41_9, s41_12, s41_13, s41_14, s41_17, s41_18, s41_21, s41_22, s41_24, s41_25, s41_28, s41_31, s41_32, s41_33, s41_36, s41_39, s41_42, s41_45, s41_48, oB_some, cl2_i, cl2_r, cl2_l, cl2_u, cl2_s, wd_0, wd_i, wd_r, wd_l, wd_f, ct_i, ct_r, ct_n, ct_f, rf_s, rf_n, tl_s, tl_n, true_and, and_true, eq_self, and_self, Nat.reduceAdd, Nat.reduceLeDiff, Nat.zero_le, Nat.reduceEqDiff, or_true, true_or, false_or, or_false, if_true, if_false, gI_0, gI_1, gI_2, gI_3, gI_4, gI_5, gI_6, gI_7, gI_8, gI_9, gI_10, gI_11, gI_12, gI_13, gI_14, gI_15, gL_0, gL_1, gL_2, gL_3, gL_4, gL_5, gL_6, gL_7, gL_8, gL_9, gL_10, gL_11, gL_12, gL_13, gL_14, gL_15, gA_0, gA_1, gA_2, gA_3, gA_4, gA_5, gA_6, gA_7, gA_8, gA_9, gA_10, gA_11, gA_12, gA_13, gA_14, gA_15, p1_0, p1_1, p1_2, p1_3, p1_4, p1_5, p1_6, p1_7, p1_8, p1_9, p1_10, p1_11, p1_12, p1_13, p1_14, p1_15, p2_0, p2_1, p2_2, p2_3, p2_4, p2_5, p2_6, p2_7, p2_8, p2_9, p2_10, p2_11, p2_12, p2_13, p2_14, p2_15, b01_ok, b_ft, b_tf, b01_e0, b01_e1, lgc_0, not_true_eq_false, not_false_eq_true]
  exact loop n 0 _ h S (by omega) q g f Fm.rf hn rfl

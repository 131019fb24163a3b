-- needs: 16.num 17.small 18.bits 20.spec 21.kinds 22.rep 23.bag 24.bag2 25.get 54.vcopy
theorem hI_cI_ne {h : HP} {a b c sp dp n : Nat} (hn : ¬ c = b) : hI (cI h a b sp dp n) c = hI h c := by funext j; rw [hI_cI, if_neg hn]
theorem hL_cLg_ne {h : HP} {a b c sp dp n : Nat} (hn : ¬ c = b) : hL (cLg h a b sp dp n) c = hL h c := by funext j; rw [hL_cLg, if_neg hn]
theorem hI_cI_at {h : HP} {a b n j : Nat} (hj : j < n) : hI (cI h a b 0 0 n) b j = hI h a j := by
  rw [hI_cI, if_pos rfl, pk_cpy_in (Nat.zero_le _) (by omega)]
  congr 1
  omega
theorem hL_cLg_at {h : HP} {a b n j : Nat} (hj : j < n) : hL (cLg h a b 0 0 n) b j = hL h a j := by
  rw [hL_cLg, if_pos rfl, pk_cpy_in (Nat.zero_le _) (by omega)]
  congr 1
  omega
theorem Fm.cI {lo n a b sp dp k : Nat} {h h1 : HP} (f : Fm lo n h h1) (h1a : lo ≤ b) (h2a : b < lo + n) : Fm lo n h (cI h1 a b sp dp k) := by
  refine ⟨fun q hq => ⟨?_, (f.1 q hq).2⟩, f.2.1, f.2.2.1, f.2.2.2.1, f.2.2.2.2⟩
  rw [hI_cI_ne (by omega)]
  exact (f.1 q hq).1
theorem Fm.cL {lo n a b sp dp k : Nat} {h h1 : HP} (f : Fm lo n h h1) (h1a : lo ≤ b) (h2a : b < lo + n) : Fm lo n h (cLg h1 a b sp dp k) := by
  refine ⟨fun q hq => ⟨(f.1 q hq).1, ?_⟩, f.2.1, f.2.2.1, f.2.2.2.1, f.2.2.2.2⟩
  rw [hL_cLg_ne (by omega)]
  exact (f.1 q hq).2
set_option maxHeartbeats 8000000 in
theorem v_becomeLike {d : Nat} {Q : PQ} {h : HP} {v u : Nat} {S : VS} (kv : VK h v) (q : RV h u S) (g : Good S) (hd : u + 12 ≤ v ∨ v + 12 ≤ u)
    (k : ∀ h', Fm v 12 h h' → RV h' v S → FV h' v 0 false false → Q none h') : Ev (d + 3) 19 [.ref v, .ref u] h Q := by
  have K := kv
  have Ku := q.k
  unfold VK at K Ku
  have gn := g.n
  have i6 : ix 6 = 6 := ix_nI (n := 6) (by decide)
  have i0 : ix 0 = 0 := ix_nI (n := 0) (by decide)
  have p6 : (0 : Int32) ≤ 6 := by decide
  have p0 : (0 : Int32) ≤ 0 := by decide
  simp only [e19, s19_0, s19_1, s19_2, s19_5, s19_8, s19_9, s19_12, s19_13, s19_14, s19_17, s19_18, s19_20, s19_23, s19_24, s19_27, s19_28, s19_29, s19_32, s19_33, s19_35, s19_38, s19_39, s19_42, s19_43, s19_44, s19_47, s19_48, s19_50, s19_53, s19_54, s19_57, s19_58, s19_59, s19_62, s19_63, s19_65, s19_68, s19_69, s19_72, s19_73, s19_74, s19_77, s19_78, s19_80, s19_83, s19_84, s19_87, s19_88, s19_91, oB_some, cl2_i, cl2_r, cl2_l, cl2_u, cl2_s, wd_0, wd_i, wd_r, wd_l, wd_f, ct_i, ct_r, ct_n, ct_f, rf_s, rf_n, tl_s, tl_n, true_and, and_true, eq_self, and_self, Nat.reduceAdd, Nat.reduceLeDiff, Nat.zero_le, Nat.reduceEqDiff, or_true, true_or, false_or, or_false, if_true, if_false, gI_0, gI_1, gI_2, gI_3, gI_4, gI_5, gI_6, gI_7, gI_8, gI_9, gI_10, gI_11, gI_12, gI_13, gI_14, gI_15, gL_0, gL_1, gL_2, gL_3, gL_4, gL_5, gL_6, gL_7, gL_8, gL_9, gL_10, gL_11, gL_12, gL_13, gL_14, gL_15, gA_0, gA_1, gA_2, gA_3, gA_4, gA_5, gA_6, gA_7, gA_8, gA_9, gA_10, gA_11, gA_12, gA_13, gA_14, gA_15, p1_0, p1_1, p1_2, p1_3, p1_4, p1_5, p1_6, p1_7, p1_8, p1_9, p1_10, p1_11, p1_12, p1_13, p1_14, p1_15, p2_0, p2_1, p2_2, p2_3, p2_4, p2_5, p2_6, p2_7, p2_8, p2_9, p2_10, p2_11, p2_12, p2_13, p2_14, p2_15, b01_ok, b_ft, b_tf, b01_e0, b01_e1, lgc_0, not_true_eq_false, not_false_eq_true, z_hkd_sI, z_hln_sI, z_hL_sI, z_hR_sI, z_hnx_sI, z_hkd_sL, z_hln_sL, z_hI_sL, z_hR_sL, z_hnx_sL, z_hkd_sR, z_hln_sR, z_hI_sR, z_hL_sR, z_hnx_sR, z_hkd_cI, z_hln_cI, z_hL_cI, z_hR_cI, z_hnx_cI, z_hkd_cLg, z_hln_cLg, z_hI_cLg, z_hR_cLg, z_hnx_cLg, hI_sI_ne, hL_sL_ne, ne_eq, Nat.add_left_cancel_iff, Nat.left_eq_add, Nat.add_eq_left, Nat.reduceEqDiff, not_false_eq_true, K, Ku, q.n, i6, i0, p6, p0]
  have F : Fm v 12 h (cLg (cLg (cI (cI (cI (sI h v 0 (nI (vn S))) (u + 1) (v + 1) 0 0 6) (u + 2) (v + 2) 0 0 6) (u + 3) (v + 3) 0 0 6) (u + 4) (v + 4) 0 0 6) (u + 5) (v + 5) 0 0 6) :=
    Fm.cL (Fm.cL (Fm.cI (Fm.cI (Fm.cI (Fm.rf.sI (by omega) (by omega)) (by omega) (by omega)) (by omega) (by omega)) (by omega) (by omega)) (by omega) (by omega)) (by omega) (by omega)
  have A0 : hI (cLg (cLg (cI (cI (cI (sI h v 0 (nI (vn S))) (u + 1) (v + 1) 0 0 6) (u + 2) (v + 2) 0 0 6) (u + 3) (v + 3) 0 0 6) (u + 4) (v + 4) 0 0 6) (u + 5) (v + 5) 0 0 6) v 0 = nI (vn S) := by
    rw [hI_cLg, hI_cLg, hI_cI_ne (by omega), hI_cI_ne (by omega), hI_cI_ne (by omega), hI_sI_eq, up_at]
  have A : ∀ i, i < vn S → hI (cLg (cLg (cI (cI (cI (sI h v 0 (nI (vn S))) (u + 1) (v + 1) 0 0 6) (u + 2) (v + 2) 0 0 6) (u + 3) (v + 3) 0 0 6) (u + 4) (v + 4) 0 0 6) (u + 5) (v + 5) 0 0 6) (v + 1) i = nI (vk S i) ∧
      hI (cLg (cLg (cI (cI (cI (sI h v 0 (nI (vn S))) (u + 1) (v + 1) 0 0 6) (u + 2) (v + 2) 0 0 6) (u + 3) (v + 3) 0 0 6) (u + 4) (v + 4) 0 0 6) (u + 5) (v + 5) 0 0 6) (v + 2) i = nI (vf S i) ∧
      hI (cLg (cLg (cI (cI (cI (sI h v 0 (nI (vn S))) (u + 1) (v + 1) 0 0 6) (u + 2) (v + 2) 0 0 6) (u + 3) (v + 3) 0 0 6) (u + 4) (v + 4) 0 0 6) (u + 5) (v + 5) 0 0 6) (v + 3) i = nI (vr S i) ∧
      hL (cLg (cLg (cI (cI (cI (sI h v 0 (nI (vn S))) (u + 1) (v + 1) 0 0 6) (u + 2) (v + 2) 0 0 6) (u + 3) (v + 3) 0 0 6) (u + 4) (v + 4) 0 0 6) (u + 5) (v + 5) 0 0 6) (v + 4) i = vw S i ∧
      hL (cLg (cLg (cI (cI (cI (sI h v 0 (nI (vn S))) (u + 1) (v + 1) 0 0 6) (u + 2) (v + 2) 0 0 6) (u + 3) (v + 3) 0 0 6) (u + 4) (v + 4) 0 0 6) (u + 5) (v + 5) 0 0 6) (v + 5) i = vx S i := by
    intro i hi
    obtain ⟨a1, a2, a3, a4, a5⟩ := q.at hi
    have i6' : i < 6 := by omega
    refine ⟨?_, ?_, ?_, ?_, ?_⟩
    · rw [hI_cLg, hI_cLg, hI_cI_ne (by omega), hI_cI_ne (by omega), hI_cI_at i6', hI_sI_ne (by omega), a1]
    · rw [hI_cLg, hI_cLg, hI_cI_ne (by omega), hI_cI_at i6', hI_cI_ne (by omega), hI_sI_ne (by omega), a2]
    · rw [hI_cLg, hI_cLg, hI_cI_at i6', hI_cI_ne (by omega), hI_cI_ne (by omega), hI_sI_ne (by omega), a3]
    · rw [hL_cLg_ne (by omega), hL_cLg_at i6', hL_cI, hL_cI, hL_cI, hL_sI, a4]
    · rw [hL_cLg_at i6', hL_cLg_ne (by omega), hL_cI, hL_cI, hL_cI, hL_sI, a5]
  generalize (cLg (cLg (cI (cI (cI (sI h v 0 (nI (vn S))) (u + 1) (v + 1) 0 0 6) (u + 2) (v + 2) 0 0 6) (u + 3) (v + 3) 0 0 6) (u + 4) (v + 4) 0 0 6) (u + 5) (v + 5) 0 0 6) = hA at F A0 A ⊢
  have qA := q.kept F (by omega)
  have kA := kv.kept F.2.1 F.2.2.1 F.2.2.2.1
  refine v_holdAs kA.bag qA.k.bag (by omega) qA.m g.l qA.b fun h2 m2 n2 b2 => ?_
  have F2 := F.tr (m2.wide (by omega) (by omega))
  have q2 := q.kept F2 (by omega)
  have k2 := kv.kept F2.2.1 F2.2.2.1 F2.2.2.2.1
  have K2 := k2
  have Ku2 := q2.k
  unfold VK at K2 Ku2
  have vu' : ¬ u = v := by omega
  have e0 : ∀ j, j < 6 → hI h2 (v + j) = hI hA (v + j) ∧ hL h2 (v + j) = hL hA (v + j) := fun j hj => m2.1 (v + j) (by omega)
  simp only [s19_94, s19_95, s19_96, s19_99, s19_102, s19_103, s19_104, s19_107, s19_110, s19_111, s19_112, s19_115, s19_118, s19_119, s19_120, s19_123, s19_126, s19_127, s19_128, s19_131, s19_134, s19_135, s19_136, s19_139, s19_142, s19_143, s19_144, s19_147, s19_148, s19_149, s19_152, s19_153, s19_154, s19_157, oB_some, cl2_i, cl2_r, cl2_l, cl2_u, cl2_s, wd_0, wd_i, wd_r, wd_l, wd_f, ct_i, ct_r, ct_n, ct_f, rf_s, rf_n, tl_s, tl_n, true_and, and_true, eq_self, and_self, Nat.reduceAdd, Nat.reduceLeDiff, Nat.zero_le, Nat.reduceEqDiff, or_true, true_or, false_or, or_false, if_true, if_false, gI_0, gI_1, gI_2, gI_3, gI_4, gI_5, gI_6, gI_7, gI_8, gI_9, gI_10, gI_11, gI_12, gI_13, gI_14, gI_15, gL_0, gL_1, gL_2, gL_3, gL_4, gL_5, gL_6, gL_7, gL_8, gL_9, gL_10, gL_11, gL_12, gL_13, gL_14, gL_15, gA_0, gA_1, gA_2, gA_3, gA_4, gA_5, gA_6, gA_7, gA_8, gA_9, gA_10, gA_11, gA_12, gA_13, gA_14, gA_15, p1_0, p1_1, p1_2, p1_3, p1_4, p1_5, p1_6, p1_7, p1_8, p1_9, p1_10, p1_11, p1_12, p1_13, p1_14, p1_15, p2_0, p2_1, p2_2, p2_3, p2_4, p2_5, p2_6, p2_7, p2_8, p2_9, p2_10, p2_11, p2_12, p2_13, p2_14, p2_15, b01_ok, b_ft, b_tf, b01_e0, b01_e1, lgc_0, not_true_eq_false, not_false_eq_true, z_hkd_sI, z_hln_sI, z_hL_sI, z_hR_sI, z_hnx_sI, z_hkd_sL, z_hln_sL, z_hI_sL, z_hR_sL, z_hnx_sL, z_hkd_sR, z_hln_sR, z_hI_sR, z_hL_sR, z_hnx_sR, z_hkd_cI, z_hln_cI, z_hL_cI, z_hR_cI, z_hnx_cI, z_hkd_cLg, z_hln_cLg, z_hI_cLg, z_hR_cLg, z_hnx_cLg, K2, Ku2, q2.s, q2.o, q2.u, q2.d, q2.t, q2.y, hI_sI, hL_sL, vu', false_and, if_false]
  have n0 : hI h2 v 0 = nI (vn S) := by rw [(show hI h2 v = hI hA v from (e0 0 (by decide)).1)]; exact A0
  refine k _ ?_ ?_ ?_
  · exact Fm.sI (Fm.sI (Fm.sI (Fm.sI (Fm.sI (Fm.sI (Fm.sI (Fm.sL (Fm.sL F2 (by omega) (by omega)) (by omega) (by omega)) (by omega) (by omega)) (by omega) (by omega)) (by omega) (by omega)) (by omega) (by omega)) (by omega) (by omega)) (by omega) (by omega)) (by omega) (by omega)
  · refine ⟨k2, ?_⟩
    unfold RVr
    rw [lt5_sI (by omega), lt5_sI (by omega), lt5_sI (by omega), lt5_sI (by omega), lt5_sI (by omega), lt5_sI (by omega), lt5_sI (by omega), lt5_sL (by omega), lt5_sL (by omega)]
    refine ⟨?_, fun i hi => ?_, ?_, b2, ?_, ?_, ?_, ?_, ?_, ?_⟩
    · simp [hI_sI, hI_sL, n0]
    · obtain ⟨a1, a2, a3, a4, a5⟩ := A i hi
      simp [hI_sI, hI_sL, hL_sL, hL_sI, (e0 1 (by decide)).1, (e0 2 (by decide)).1, (e0 3 (by decide)).1, (e0 4 (by decide)).2, (e0 5 (by decide)).2, a1, a2, a3, a4, a5]
    · simp [hI_sI, hI_sL, n2]
    · simp [hL_sI, hL_sL]
    · simp [hL_sI, hL_sL]
    · simp [hI_sI, hI_sL]
    · simp [hI_sI, hI_sL]
    · simp [hI_sI, hI_sL]
    · simp [hI_sI, hI_sL]
  · refine ⟨?_, ?_, ?_⟩
    · simp [hI_sI, nI_0]
    · simp [hI_sI, b01]
    · simp [hI_sI, b01]

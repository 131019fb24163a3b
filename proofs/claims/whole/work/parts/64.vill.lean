-- the one side's village: what is left
theorem RV_i {h : HP} {v : Nat} {S : VS} (q : RV h v S) {k : Nat} {x : Int32} (hk : 13 ≤ k) : RV (sI h v k x) v S := by
  obtain ⟨k0, r1, r2, r3, r4, r5, r6, r7, r8, r9, r10⟩ := q
  refine ⟨k0, ?_⟩
  unfold RVr
  rw [lt5_sI (by omega), hI_sI_eq, up_ne (by omega), up_ne (by omega), up_ne (by omega), up_ne (by omega), up_ne (by omega), hI_sI_ne (by omega), hI_sI_ne (by omega), hI_sI_ne (by omega), hI_sI_ne (by omega)]
  exact ⟨r1, r2, r3, r4, r5, r6, r7, r8, r9, r10⟩
theorem FV_ink {h : HP} {v ink ink2 : Nat} {dm sh : Bool} (f : FV h v ink dm sh) : FV (sI h v 13 (nI ink2)) v ink2 dm sh := by
  obtain ⟨f1, f2, f3⟩ := f
  refine ⟨?_, ?_, ?_⟩
  · rw [hI_sI, if_pos ⟨rfl, rfl⟩]
  · rw [hI_sI, if_neg (by omega), f2]
  · rw [hI_sI, if_neg (by omega), f3]
theorem FV_dm {h : HP} {v ink : Nat} {dm dm2 sh : Bool} (f : FV h v ink dm sh) : FV (sI h v 14 (b01 dm2)) v ink dm2 sh := by
  obtain ⟨f1, f2, f3⟩ := f
  refine ⟨?_, ?_, ?_⟩
  · rw [hI_sI, if_neg (by omega), f1]
  · rw [hI_sI, if_pos ⟨rfl, rfl⟩]
  · rw [hI_sI, if_neg (by omega), f3]
theorem FV_sh {h : HP} {v ink : Nat} {dm sh : Bool} (f : FV h v ink dm sh) : FV (sI h v 15 1) v ink dm true := by
  obtain ⟨f1, f2, f3⟩ := f
  refine ⟨?_, ?_, ?_⟩
  · rw [hI_sI, if_neg (by omega), f1]
  · rw [hI_sI, if_neg (by omega), f2]
  · rw [hI_sI, if_pos ⟨rfl, rfl⟩]; rfl
def come (S : VS) (k f : Nat) : VS := mkV (vn S + 1) (va_up (vk S) (vn S) k) (va_up (vf S) (vn S) f) (va_up (vr S) (vn S) (if vn S = 5 then 0 else vn S + 1)) (va_up (vw S) (vn S) 0) (va_up (vx S) (vn S) 0) (vb S) (vs S) (vo S) (vu S) (vd S) (vt S) (vy S)
theorem Gl.mono {n n2 : Nat} {l : Ltr} (a : Gl n l) (h : n ≤ n2) : Gl n2 l := ⟨by have := a.1; omega, by have := a.2.1; omega, a.2.2⟩
theorem come_good {S : VS} {k f : Nat} (g : Good S) (hn : vn S < 6) (hk : k < 8) (hf : f < 10) : Good (come S k f) := by
  refine ⟨?_, fun i hi => ?_, g.l, fun l hl => (g.b hl).mono (Nat.le_succ _), g.s, g.o, g.u, g.d, g.t, g.y⟩
  · show vn S + 1 ≤ 6
    omega
  · have hi2 : i < vn S + 1 := hi
    show va_up (vk S) (vn S) k i < 8 ∧ va_up (vf S) (vn S) f i < 10 ∧ va_up (vr S) (vn S) _ i < 6 ∧ sm (va_up (vw S) (vn S) 0 i) ∧ sm (va_up (vx S) (vn S) 0 i)
    unfold va_up
    by_cases e : i = vn S
    · simp only [e, if_true]
      refine ⟨hk, hf, ?_, sm_0, sm_0⟩
      split <;> omega
    · simp only [e, if_false]
      exact g.at (by omega)
set_option maxHeartbeats 8000000 in
theorem v_letCome {d : Nat} {Q : PQ} {h : HP} {v k f ink : Nat} {dm sh : Bool} {S : VS} (q : RV h v S) (g : Good S) (fv : FV h v ink dm sh) (hn : vn S < 6)
    (kk : ∀ h', Fm v 12 h h' → RV h' v (come S k f) → FV h' v ink dm sh → Q (some (.int (nI (vn S)))) h') : Ev (d + 1) 31 [.ref v, .int (nI k), .int (nI f)] h Q := by
  have K := q.k
  unfold VK at K
  have n31 : vn S < 2 ^ 31 := by omega
  have z : nI (vn S) < 6 := nI_lt (b := 6) hn (by decide)
  have e5 : (nI (vn S) = 5) = (vn S = 5) := eqP (b := 5) n31 (by decide)
  have z2 : nI (if vn S = 5 then 0 else vn S + 1) = if vn S = 5 then 0 else nI (vn S + 1) := by split <;> rfl
  simp only [e31, s31_0, s31_1, s31_4, s31_5, s31_6, s31_8, s31_11, s31_13, s31_14, s31_15, s31_18, s31_19, s31_20, s31_21, s31_22, s31_25, s31_26, s31_27, s31_28, s31_29, s31_32, s31_33, s31_34, s31_35, s31_38, s31_39, s31_42, s31_43, s31_44, s31_45, s31_46, s31_47, s31_50, s31_51, s31_52, s31_53, s31_54, s31_57, s31_58, s31_59, s31_60, s31_61, s31_62, s31_65, s31_66, s31_67, s31_70, s31_71, oB_some, cl2_i, cl2_r, cl2_l, cl2_u, cl2_s, wd_0, wd_i, wd_r, wd_l, wd_f, ct_i, ct_r, ct_n, ct_f, rf_s, rf_n, tl_s, tl_n, true_and, and_true, eq_self, and_self, Nat.reduceAdd, Nat.reduceLeDiff, Nat.zero_le, Nat.reduceEqDiff, or_true, true_or, false_or, or_false, if_true, if_false, gI_0, gI_1, gI_2, gI_3, gI_4, gI_5, gI_6, gI_7, gI_8, gI_9, gI_10, gI_11, gI_12, gI_13, gI_14, gI_15, gL_0, gL_1, gL_2, gL_3, gL_4, gL_5, gL_6, gL_7, gL_8, gL_9, gL_10, gL_11, gL_12, gL_13, gL_14, gL_15, gA_0, gA_1, gA_2, gA_3, gA_4, gA_5, gA_6, gA_7, gA_8, gA_9, gA_10, gA_11, gA_12, gA_13, gA_14, gA_15, p1_0, p1_1, p1_2, p1_3, p1_4, p1_5, p1_6, p1_7, p1_8, p1_9, p1_10, p1_11, p1_12, p1_13, p1_14, p1_15, p2_0, p2_1, p2_2, p2_3, p2_4, p2_5, p2_6, p2_7, p2_8, p2_9, p2_10, p2_11, p2_12, p2_13, p2_14, p2_15, b01_ok, b_ft, b_tf, b01_e0, b01_e1, lgc_0, not_true_eq_false, not_false_eq_true, z_hkd_sI, z_hln_sI, z_hL_sI, z_hR_sI, z_hnx_sI, z_hkd_sL, z_hln_sL, z_hI_sL, z_hR_sL, z_hnx_sL, z_hkd_sR, z_hln_sR, z_hI_sR, z_hL_sR, z_hnx_sR, z_hkd_cI, z_hln_cI, z_hL_cI, z_hR_cI, z_hnx_cI, z_hkd_cLg, z_hln_cLg, z_hI_cLg, z_hR_cLg, z_hnx_cLg, hI_sI_ne, hL_sL_ne, ne_eq, Nat.add_left_cancel_iff, Nat.left_eq_add, Nat.add_eq_left, Nat.reduceEqDiff, not_false_eq_true, K, q.n, z, ix_nI n31, nI_pos' n31, hn, e5, nI_1]
  have step : ∀ y, y = nI (if vn S = 5 then 0 else vn S + 1) → Q (some (.int (nI (vn S)))) (sI (sL (sL (sI (sI (sI h (v + 1) (vn S) (nI k)) (v + 2) (vn S) (nI f)) (v + 3) (vn S) y) (v + 4) (vn S) 0) (v + 5) (vn S) 0) v 0 (nI (vn S + 1))) := by
    intro y hy
    refine kk _ ?_ ?_ ?_
    · exact Fm.sI (Fm.sL (Fm.sL (Fm.sI (Fm.sI (Fm.sI Fm.rf (by omega) (by omega)) (by omega) (by omega)) (by omega) (by omega)) (by omega) (by omega)) (by omega) (by omega)) (by omega) (by omega)
    · obtain ⟨k0, r1, r2, r3, r4, r5, r6, r7, r8, r9, r10⟩ := q
      refine ⟨k0, ?_⟩
      unfold RVr
      rw [lt5_sI (by omega), lt5_sL (by omega), lt5_sL (by omega), lt5_sI (by omega), lt5_sI (by omega), lt5_sI (by omega)]
      simp [hI_sI_ne, hI_sI_eq, hL_sI, hI_sL, hL_sL_ne, hL_sL_eq, up_at, up_ne]
      refine ⟨rfl, fun i hi => ?_, r3, r4, r5, r6, r7, r8, r9, r10⟩
      have hi2 : i < vn S + 1 := hi
      show va_up _ (vn S) (nI k) i = nI (va_up (vk S) (vn S) k i) ∧ va_up _ (vn S) (nI f) i = nI (va_up (vf S) (vn S) f i) ∧ va_up _ (vn S) y i = nI (va_up (vr S) (vn S) _ i) ∧ va_up _ (vn S) 0 i = va_up (vw S) (vn S) 0 i ∧ va_up _ (vn S) 0 i = va_up (vx S) (vn S) 0 i
      unfold va_up
      by_cases e : i = vn S
      · simp only [e, if_true, hy]
        exact ⟨trivial, trivial, trivial, trivial, trivial⟩
      · simp only [e, if_false]
        exact r2 i (by omega)
    · exact (((((fv.sI (Or.inl (by omega))).sI (Or.inl (by omega))).sI (Or.inl (by omega))).sL).sL).sI (Or.inr (by decide))
  by_cases e : vn S = 5
  · rw [if_neg (not_not_intro e)]
    exact step _ (by rw [if_pos e]; rfl)
  · rw [if_pos e]
    exact step _ (by rw [if_neg e])
def exch (S : VS) (a b : Nat) : VS := mkV (vn S) (va_up (va_up (vk S) a (vk S b)) b (vk S a)) (va_up (va_up (vf S) a (vf S b)) b (vf S a)) (vr S) (vw S) (vx S) (vb S) (vs S) (vo S) (vu S) (vd S) (vt S) (vy S)
theorem exch_good {S : VS} {a b : Nat} (g : Good S) (ha : a < vn S) (hb : b < vn S) : Good (exch S a b) := by
  refine ⟨g.n, fun i hi => ?_, g.l, fun l hl => g.b hl, g.s, g.o, g.u, g.d, g.t, g.y⟩
  have hi2 : i < vn S := hi
  show va_up (va_up (vk S) a (vk S b)) b (vk S a) i < 8 ∧ va_up (va_up (vf S) a (vf S b)) b (vf S a) i < 10 ∧ vr S i < 6 ∧ sm (vw S i) ∧ sm (vx S i)
  have x := g.at ha
  have y := g.at hb
  have z := g.at hi2
  refine ⟨?_, ?_, z.2.2⟩
  · unfold va_up
    split
    · exact x.1
    · split
      · exact y.1
      · exact z.1
  · unfold va_up
    split
    · exact x.2.1
    · split
      · exact y.2.1
      · exact z.2.1
theorem upNI {f : Nat → Int32} {F : Nat → Nat} {n a b : Nat} (e : ∀ i, i < n → f i = nI (F i)) (ha : a < n) (hb : b < n) {i : Nat} (hi : i < n) : va_up (va_up f a (nI (F b))) b (nI (F a)) i = nI (va_up (va_up F a (F b)) b (F a) i) := by
  unfold va_up
  split
  · rfl
  · split
    · rfl
    · exact e i hi
set_option maxHeartbeats 8000000 in
theorem v_exchange {d : Nat} {Q : PQ} {h : HP} {v a b ink : Nat} {dm sh : Bool} {S : VS} (q : RV h v S) (g : Good S) (fv : FV h v ink dm sh) (ha : a < vn S) (hb : b < vn S)
    (kk : ∀ h', Fm v 12 h h' → RV h' v (exch S a b) → FV h' v ink dm sh → Q none h') : Ev (d + 1) 183 [.ref v, .int (nI a), .int (nI b)] h Q := by
  have K := q.k
  unfold VK at K
  have gn := g.n
  have a31 : a < 2 ^ 31 := by omega
  have b31 : b < 2 ^ 31 := by omega
  have a6 : a < 6 := by omega
  have b6 : b < 6 := by omega
  obtain ⟨a1, a2, a3, a4, a5⟩ := q.at ha
  obtain ⟨b1, b2, b3, b4, b5⟩ := q.at hb
  have f2 : hI h (v + 2) b = nI (vf S b) := b2
  simp only [e183, s183_0, s183_1, s183_4, s183_5, s183_6, s183_7, s183_8, s183_11, s183_12, s183_13, s183_15, s183_16, s183_19, s183_20, s183_21, s183_24, s183_25, s183_26, s183_27, s183_28, s183_31, s183_32, s183_33, s183_36, s183_37, s183_38, s183_39, s183_40, s183_43, s183_44, s183_45, s183_46, s183_47, s183_50, s183_51, s183_53, s183_54, oB_some, cl2_i, cl2_r, cl2_l, cl2_u, cl2_s, wd_0, wd_i, wd_r, wd_l, wd_f, ct_i, ct_r, ct_n, ct_f, rf_s, rf_n, tl_s, tl_n, true_and, and_true, eq_self, and_self, Nat.reduceAdd, Nat.reduceLeDiff, Nat.zero_le, Nat.reduceEqDiff, or_true, true_or, false_or, or_false, if_true, if_false, gI_0, gI_1, gI_2, gI_3, gI_4, gI_5, gI_6, gI_7, gI_8, gI_9, gI_10, gI_11, gI_12, gI_13, gI_14, gI_15, gL_0, gL_1, gL_2, gL_3, gL_4, gL_5, gL_6, gL_7, gL_8, gL_9, gL_10, gL_11, gL_12, gL_13, gL_14, gL_15, gA_0, gA_1, gA_2, gA_3, gA_4, gA_5, gA_6, gA_7, gA_8, gA_9, gA_10, gA_11, gA_12, gA_13, gA_14, gA_15, p1_0, p1_1, p1_2, p1_3, p1_4, p1_5, p1_6, p1_7, p1_8, p1_9, p1_10, p1_11, p1_12, p1_13, p1_14, p1_15, p2_0, p2_1, p2_2, p2_3, p2_4, p2_5, p2_6, p2_7, p2_8, p2_9, p2_10, p2_11, p2_12, p2_13, p2_14, p2_15, b01_ok, b_ft, b_tf, b01_e0, b01_e1, lgc_0, not_true_eq_false, not_false_eq_true, z_hkd_sI, z_hln_sI, z_hL_sI, z_hR_sI, z_hnx_sI, z_hkd_sL, z_hln_sL, z_hI_sL, z_hR_sL, z_hnx_sL, z_hkd_sR, z_hln_sR, z_hI_sR, z_hL_sR, z_hnx_sR, z_hkd_cI, z_hln_cI, z_hL_cI, z_hR_cI, z_hnx_cI, z_hkd_cLg, z_hln_cLg, z_hI_cLg, z_hR_cLg, z_hnx_cLg, hI_sI_ne, hL_sL_ne, ne_eq, Nat.add_left_cancel_iff, Nat.left_eq_add, Nat.add_eq_left, Nat.reduceEqDiff, not_false_eq_true, K, a1, a2, b1, b2, ix_nI a31, nI_pos' a31, a6, ix_nI b31, nI_pos' b31, b6]
  refine kk _ ?_ ?_ ?_
  · exact Fm.sI (Fm.sI (Fm.sI (Fm.sI Fm.rf (by omega) (by omega)) (by omega) (by omega)) (by omega) (by omega)) (by omega) (by omega)
  · obtain ⟨k0, r1, r2, r3, r4, r5, r6, r7, r8, r9, r10⟩ := q
    refine ⟨k0, ?_⟩
    unfold RVr
    rw [lt5_sI (by omega), lt5_sI (by omega), lt5_sI (by omega), lt5_sI (by omega)]
    simp [hI_sI_ne, hI_sI_eq, hL_sI, hI_sL, hL_sL_ne, hL_sL_eq, up_at, up_ne]
    refine ⟨r1, fun i hi => ?_, r3, r4, r5, r6, r7, r8, r9, r10⟩
    have hi2 : i < vn S := hi
    exact ⟨upNI (fun j hj => (r2 j hj).1) ha hb hi2, upNI (fun j hj => (r2 j hj).2.1) ha hb hi2, (r2 i hi2).2.2⟩
  · exact (((fv.sI (Or.inl (by omega))).sI (Or.inl (by omega))).sI (Or.inl (by omega))).sI (Or.inl (by omega))

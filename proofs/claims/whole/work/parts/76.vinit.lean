-- a new village
abbrev LV : List (Nat × Nat × Nat) := [(1, 2, 6), (2, 2, 6), (3, 2, 6), (4, 3, 6), (5, 3, 6)]
def vil (h : HP) (v : Nat) : HP := sI (sR (bld (hnx (bld v LV h)) LB (snw (bld v LV h) 10 0)) v 6 (some (hnx (bld v LV h)))) v 9 6
set_option maxHeartbeats 4000000 in
theorem v_vilInit {d : Nat} {Q : PQ} {h : HP} {v : Nat} (hk : hkd h v = 14) (hg : v < hnx h) : Ev (d + 2) 5 [.ref v] h Q = Q none (vil h v) := by
  have p6 : (0 : Int32) ≤ 6 := by decide
  have k1 : hkd (bl1 h v 1 2 6) v = 14 := (bl1_kd hg).trans hk
  have g1 : v < hnx (bl1 h v 1 2 6) := by rw [bl1_nx]; omega
  have k2 : hkd (bl1 (bl1 h v 1 2 6) v 2 2 6) v = 14 := (bl1_kd g1).trans k1
  have g2 : v < hnx (bl1 (bl1 h v 1 2 6) v 2 2 6) := by rw [bl1_nx]; omega
  have k3 : hkd (bl1 (bl1 (bl1 h v 1 2 6) v 2 2 6) v 3 2 6) v = 14 := (bl1_kd g2).trans k2
  have g3 : v < hnx (bl1 (bl1 (bl1 h v 1 2 6) v 2 2 6) v 3 2 6) := by rw [bl1_nx]; omega
  have k4 : hkd (bl1 (bl1 (bl1 (bl1 h v 1 2 6) v 2 2 6) v 3 2 6) v 4 3 6) v = 14 := (bl1_kd g3).trans k3
  have g4 : v < hnx (bl1 (bl1 (bl1 (bl1 h v 1 2 6) v 2 2 6) v 3 2 6) v 4 3 6) := by rw [bl1_nx]; omega
  have e : ∀ (h1 : HP) (k t n : Nat), sR (snw h1 t n) v k (some (hnx h1)) = bl1 h1 v k t n := fun _ _ _ _ => rfl
  have eB : bl1 (bl1 (bl1 (bl1 (bl1 h v 1 2 6) v 2 2 6) v 3 2 6) v 4 3 6) v 5 3 6 = bld v LV h := rfl
  have nx5 : hnx (bld v LV h) = hnx h + 5 := bld_nx
  have kd5 : hkd (bld v LV h) v = 14 := (bld_old hg).1.trans hk
  have kg : hkd (snw (bld v LV h) 10 0) (hnx (bld v LV h)) = 10 := if_pos rfl
  have lg : hnx (bld v LV h) < hnx (snw (bld v LV h) 10 0) := by rw [hnx_snw]; omega
  have kv : hkd (bld (hnx (bld v LV h)) LB (snw (bld v LV h) 10 0)) v = 14 := by
    rw [(bld_old (by rw [hnx_snw]; omega)).1, snw_kd (by omega), kd5]
  simp only [e5, s5_0, s5_1, s5_4, s5_5, s5_7, s5_9, s5_12, s5_13, s5_15, s5_17, s5_20, s5_21, s5_23, s5_25, s5_28, s5_29, s5_31, s5_33, s5_36, s5_37, s5_39, s5_41, s5_44, oB_some, cl2_i, cl2_r, cl2_l, cl2_u, cl2_s, wd_0, wd_i, wd_r, wd_l, wd_f, ct_i, ct_r, ct_n, ct_f, rf_s, rf_n, tl_s, tl_n, true_and, and_true, eq_self, and_self, Nat.reduceAdd, Nat.reduceLeDiff, Nat.zero_le, Nat.reduceEqDiff, or_true, true_or, false_or, or_false, if_true, if_false, gI_0, gI_1, gI_2, gI_3, gI_4, gI_5, gI_6, gI_7, gI_8, gI_9, gI_10, gI_11, gI_12, gI_13, gI_14, gI_15, gL_0, gL_1, gL_2, gL_3, gL_4, gL_5, gL_6, gL_7, gL_8, gL_9, gL_10, gL_11, gL_12, gL_13, gL_14, gL_15, gA_0, gA_1, gA_2, gA_3, gA_4, gA_5, gA_6, gA_7, gA_8, gA_9, gA_10, gA_11, gA_12, gA_13, gA_14, gA_15, p1_0, p1_1, p1_2, p1_3, p1_4, p1_5, p1_6, p1_7, p1_8, p1_9, p1_10, p1_11, p1_12, p1_13, p1_14, p1_15, p2_0, p2_1, p2_2, p2_3, p2_4, p2_5, p2_6, p2_7, p2_8, p2_9, p2_10, p2_11, p2_12, p2_13, p2_14, p2_15, b01_ok, b_ft, b_tf, b01_e0, b01_e1, lgc_0, not_true_eq_false, not_false_eq_true, hk, ix6, p6, snw_kd hg, e, k1, snw_kd g1, k2, snw_kd g2, k3, snw_kd g3, k4, snw_kd g4, Nat.reduceSub, eB]
  simp only [s5_45, s5_48, s5_49, s5_52, s5_55, s5_56, s5_58, s5_61, oB_some, cl2_i, cl2_r, cl2_l, cl2_u, cl2_s, wd_0, wd_i, wd_r, wd_l, wd_f, ct_i, ct_r, ct_n, ct_f, rf_s, rf_n, tl_s, tl_n, true_and, and_true, eq_self, and_self, Nat.reduceAdd, Nat.reduceLeDiff, Nat.zero_le, Nat.reduceEqDiff, or_true, true_or, false_or, or_false, if_true, if_false, gI_0, gI_1, gI_2, gI_3, gI_4, gI_5, gI_6, gI_7, gI_8, gI_9, gI_10, gI_11, gI_12, gI_13, gI_14, gI_15, gL_0, gL_1, gL_2, gL_3, gL_4, gL_5, gL_6, gL_7, gL_8, gL_9, gL_10, gL_11, gL_12, gL_13, gL_14, gL_15, gA_0, gA_1, gA_2, gA_3, gA_4, gA_5, gA_6, gA_7, gA_8, gA_9, gA_10, gA_11, gA_12, gA_13, gA_14, gA_15, p1_0, p1_1, p1_2, p1_3, p1_4, p1_5, p1_6, p1_7, p1_8, p1_9, p1_10, p1_11, p1_12, p1_13, p1_14, p1_15, p2_0, p2_1, p2_2, p2_3, p2_4, p2_5, p2_6, p2_7, p2_8, p2_9, p2_10, p2_11, p2_12, p2_13, p2_14, p2_15, b01_ok, b_ft, b_tf, b01_e0, b01_e1, lgc_0, not_true_eq_false, not_false_eq_true, z_hkd_sI, z_hln_sI, z_hL_sI, z_hR_sI, z_hnx_sI, z_hkd_sL, z_hln_sL, z_hI_sL, z_hR_sL, z_hnx_sL, z_hkd_sR, z_hln_sR, z_hI_sR, z_hL_sR, z_hnx_sR, z_hkd_cI, z_hln_cI, z_hL_cI, z_hR_cI, z_hnx_cI, z_hkd_cLg, z_hln_cLg, z_hI_cLg, z_hR_cLg, z_hnx_cLg, kg, v_bagInit kg lg, kv, Nat.reduceSub]
  rfl
def S0 : VS := mkV 0 (fun _ => 0) (fun _ => 0) (fun _ => 0) (fun _ => 0) (fun _ => 0) [] 0 0 6 0 0 0
theorem S0_good : Good S0 := ⟨Nat.zero_le _, fun i hi => absurd hi (Nat.not_lt_zero i), Nat.zero_le _, fun l hl => absurd hl List.not_mem_nil, sm_0, sm_0, by decide, Nat.zero_le _, Nat.zero_le _, by decide⟩
def Old (v : Nat) (h h' : HP) : Prop := ∀ b, b < v → hkd h' b = hkd h b ∧ hln h' b = hln h b ∧ hI h' b = hI h b ∧ hL h' b = hL h b ∧ hR h' b = hR h b
/-- five rows laid at v -/
def F5 (v : Nat) (t4 n : Nat) (t5 : Nat) (a : Nat) (h h1 : HP) : Prop := hnx h1 = a + 5 ∧ (∀ b, b < a → hkd h1 b = hkd h b ∧ hln h1 b = hln h b ∧ hI h1 b = hI h b ∧ hL h1 b = hL h b) ∧ (∀ b j, b < a → ¬ b = v ∨ 6 ≤ j ∨ j = 0 → hR h1 b j = hR h b j) ∧
  (hkd h1 (a + 0) = 2 ∧ hkd h1 (a + 1) = 2 ∧ hkd h1 (a + 2) = 2 ∧ hkd h1 (a + 3) = t4 ∧ hkd h1 (a + 4) = t5) ∧ (hln h1 (a + 0) = n ∧ hln h1 (a + 1) = n ∧ hln h1 (a + 2) = n ∧ hln h1 (a + 3) = n ∧ hln h1 (a + 4) = n) ∧
  (hR h1 v 1 = some (a + 0) ∧ hR h1 v 2 = some (a + 1) ∧ hR h1 v 3 = some (a + 2) ∧ hR h1 v 4 = some (a + 3) ∧ hR h1 v 5 = some (a + 4))
theorem five (v a n t4 t5 : Nat) {h : HP} (ha : hnx h = a) (hv : v < a) : F5 v t4 n t5 a h (bld v [(1, 2, n), (2, 2, n), (3, 2, n), (4, t4, n), (5, t5, n)] h) := by
  have c : ∀ j e, [(1, 2, n), (2, 2, n), (3, 2, n), (4, t4, n), (5, t5, n)][j]? = some e → hkd (bld v [(1, 2, n), (2, 2, n), (3, 2, n), (4, t4, n), (5, t5, n)] h) (a + j) = e.2.1 ∧ hln (bld v [(1, 2, n), (2, 2, n), (3, 2, n), (4, t4, n), (5, t5, n)] h) (a + j) = e.2.2 := fun j e he => by
    have := bld_new (v := v) (h := h) (by omega) he
    rw [ha] at this
    exact ⟨this.1, this.2.1⟩
  have r : ∀ j e, [(1, 2, n), (2, 2, n), (3, 2, n), (4, t4, n), (5, t5, n)][j]? = some e → (∀ i f, j < i → [(1, 2, n), (2, 2, n), (3, 2, n), (4, t4, n), (5, t5, n)][i]? = some f → ¬ f.1 = e.1) → hR (bld v [(1, 2, n), (2, 2, n), (3, 2, n), (4, t4, n), (5, t5, n)] h) v e.1 = some (a + j) := fun j e he hd => by
    have := bld_Rn (v := v) (h := h) (by omega) he hd
    rw [ha] at this
    exact this
  refine ⟨?_, fun b hb => bld_old (by omega), fun b j hb hc => bld_R (by omega) ?_, ⟨(c 0 _ rfl).1, (c 1 _ rfl).1, (c 2 _ rfl).1, (c 3 _ rfl).1, (c 4 _ rfl).1⟩, ⟨(c 0 _ rfl).2, (c 1 _ rfl).2, (c 2 _ rfl).2, (c 3 _ rfl).2, (c 4 _ rfl).2⟩, ⟨?_, ?_, ?_, ?_, ?_⟩⟩
  · rw [bld_nx, ha]; rfl
  · rcases hc with z | z
    · exact Or.inl z
    · refine Or.inr fun e he => ?_
      simp only [List.mem_cons, List.not_mem_nil, or_false] at he
      rcases he with rfl | rfl | rfl | rfl | rfl
      all_goals show ¬ _ = j
      all_goals omega
  · exact r 0 _ rfl (fun i f h1 h2 => by
        rcases (show i = 1 ∨ i = 2 ∨ i = 3 ∨ i = 4 ∨ 5 ≤ i by omega) with rfl | rfl | rfl | rfl | h5
        · cases h2; simp
        · cases h2; simp
        · cases h2; simp
        · cases h2; simp
        · rw [List.getElem?_eq_none h5] at h2; cases h2)
  · exact r 1 _ rfl (fun i f h1 h2 => by
        rcases (show i = 2 ∨ i = 3 ∨ i = 4 ∨ 5 ≤ i by omega) with rfl | rfl | rfl | h5
        · cases h2; simp
        · cases h2; simp
        · cases h2; simp
        · rw [List.getElem?_eq_none h5] at h2; cases h2)
  · exact r 2 _ rfl (fun i f h1 h2 => by
        rcases (show i = 3 ∨ i = 4 ∨ 5 ≤ i by omega) with rfl | rfl | h5
        · cases h2; simp
        · cases h2; simp
        · rw [List.getElem?_eq_none h5] at h2; cases h2)
  · exact r 3 _ rfl (fun i f h1 h2 => by
        rcases (show i = 4 ∨ 5 ≤ i by omega) with rfl | h5
        · cases h2; simp
        · rw [List.getElem?_eq_none h5] at h2; cases h2)
  · exact r 4 _ rfl (fun i f h1 h2 => by
        have h5 : 5 ≤ i := by omega
        rw [List.getElem?_eq_none h5] at h2; cases h2)
theorem vil_g {h h1 h3 : HP} {v : Nat} (hk : hkd h v = 14) (hi : hI h v = fun _ => 0) (hl : hL h v = fun _ => 0) (f1 : F5 v 3 6 3 (v + 1) h h1) (f3 : F5 (v + 6) 2 24 3 (v + 7) (snw h1 10 0) h3) :
    hnx (sI (sR h3 v 6 (some (v + 6))) v 9 6) = v + 12 ∧ VK (sI (sR h3 v 6 (some (v + 6))) v 9 6) v ∧ RV (sI (sR h3 v 6 (some (v + 6))) v 9 6) v S0 ∧ FV (sI (sR h3 v 6 (some (v + 6))) v 9 6) v 0 false false ∧ Old v h (sI (sR h3 v 6 (some (v + 6))) v 9 6) := by
  obtain ⟨a1, a2, a3, ⟨a4, a5, a6, a7, a8⟩, ⟨b4, b5, b6, b7, b8⟩, c4, c5, c6, c7, c8⟩ := f1
  obtain ⟨d1, d2, d3, ⟨d4, d5, d6, d7, d8⟩, ⟨e4, e5, e6, e7, e8⟩, g4, g5, g6, g7, g8⟩ := f3
  have o2 : ∀ b, b < v + 6 → hkd (snw h1 10 0) b = hkd h1 b ∧ hln (snw h1 10 0) b = hln h1 b ∧ hI (snw h1 10 0) b = hI h1 b ∧ hL (snw h1 10 0) b = hL h1 b ∧ hR (snw h1 10 0) b = hR h1 b := fun b hb => by
    have n1 : ¬ b = hnx h1 := by omega
    refine ⟨if_neg n1, if_neg n1, ?_, ?_, ?_⟩
    · funext j; exact if_neg n1
    · funext j; exact if_neg n1
    · funext j; exact if_neg n1
  have g2 : hkd (snw h1 10 0) (v + 6) = 10 ∧ hI (snw h1 10 0) (v + 6) = (fun _ => 0) := by
    refine ⟨if_pos a1.symm, ?_⟩
    funext j
    exact if_pos a1.symm
  have o3 : ∀ b, b < v + 6 → hkd h3 b = hkd h1 b ∧ hln h3 b = hln h1 b ∧ hI h3 b = hI h1 b ∧ hL h3 b = hL h1 b := fun b hb => by
    obtain ⟨x1, x2, x3, x4⟩ := d2 b (by omega)
    obtain ⟨y1, y2, y3, y4, y5⟩ := o2 b hb
    exact ⟨x1.trans y1, x2.trans y2, x3.trans y3, x4.trans y4⟩
  have r3 : ∀ b j, b < v + 6 → hR h3 b j = hR h1 b j := fun b j hb => by rw [d3 b j (by omega) (Or.inl (by omega)), (o2 b hb).2.2.2.2]
  have rv : ∀ j, ¬ j = 6 → hR (sI (sR h3 v 6 (some (v + 6))) v 9 6) v j = hR h1 v j := fun j hj => by rw [hR_sI, hR_sR, if_neg (fun z => hj z.2), r3 v j (by omega)]
  have rg : ∀ j, hR (sI (sR h3 v 6 (some (v + 6))) v 9 6) (v + 6) j = hR h3 (v + 6) j := fun j => by rw [hR_sI, hR_sR, if_neg (fun z => absurd z.1 (by omega))]
  have kk : hkd (sI (sR h3 v 6 (some (v + 6))) v 9 6) = hkd h3 := rfl
  have ll : hln (sI (sR h3 v 6 (some (v + 6))) v 9 6) = hln h3 := rfl
  have LL : hL (sI (sR h3 v 6 (some (v + 6))) v 9 6) = hL h3 := rfl
  have II : ∀ b, ¬ b = v → hI (sI (sR h3 v 6 (some (v + 6))) v 9 6) b = hI h3 b := fun b hb => by rw [hI_sI_ne hb]; rfl
  have Iv : hI (sI (sR h3 v 6 (some (v + 6))) v 9 6) v = va_up (fun _ => 0) 9 6 := by
    rw [hI_sI_eq, hI_sR, (o3 v (by omega)).2.2.1, (a2 v (by omega)).2.2.1, hi]
  have lv : hL (sI (sR h3 v 6 (some (v + 6))) v 9 6) v = fun _ => 0 := by rw [LL, (o3 v (by omega)).2.2.2, (a2 v (by omega)).2.2.2, hl]
  have nx : hnx (sI (sR h3 v 6 (some (v + 6))) v 9 6) = v + 12 := d1
  have hkv : hkd (sI (sR h3 v 6 (some (v + 6))) v 9 6) v = 14 := by rw [kk, (o3 v (by omega)).1, (a2 v (by omega)).1, hk]
  have hkg : hkd (sI (sR h3 v 6 (some (v + 6))) v 9 6) (v + 6) = 10 := by rw [kk, (d2 (v + 6) (by omega)).1, g2.1]
  have h60 : hI (sI (sR h3 v 6 (some (v + 6))) v 9 6) (v + 6) = fun _ => 0 := by rw [II _ (by omega), (d2 (v + 6) (by omega)).2.2.1, g2.2]
  have r6 : hR (sI (sR h3 v 6 (some (v + 6))) v 9 6) v 6 = some (v + 6) := by rw [hR_sI, hR_sR, if_pos ⟨rfl, rfl⟩]
  have oo : Old v h (sI (sR h3 v 6 (some (v + 6))) v 9 6) := fun b hb => by
    refine ⟨?_, ?_, ?_, ?_, ?_⟩
    · rw [kk, (o3 b (by omega)).1, (a2 b (by omega)).1]
    · rw [ll, (o3 b (by omega)).2.1, (a2 b (by omega)).2.1]
    · rw [II b (by omega), (o3 b (by omega)).2.2.1, (a2 b (by omega)).2.2.1]
    · rw [LL, (o3 b (by omega)).2.2.2, (a2 b (by omega)).2.2.2]
    · funext j
      rw [hR_sI, hR_sR, if_neg (fun z => absurd z.1 (by omega)), r3 b j (by omega), a3 b j (by omega) (Or.inl (by omega))]
  generalize sI (sR h3 v 6 (some (v + 6))) v 9 6 = hh at *
  have vk : VK hh v := by
    refine ⟨⟨hkv, ?_, ?_, ?_, ?_, ?_, hkg, ?_, ?_, ?_, ?_, ?_⟩, ⟨?_, ?_, ?_, ?_, ?_, ?_, ?_, ?_, ?_, ?_⟩, ⟨?_, ?_, ?_, ?_, ?_, r6⟩, ?_, ?_, ?_, ?_, ?_⟩
    · rw [kk, (o3 (v + 1) (by omega)).1]; exact a4
    · rw [kk, (o3 (v + 2) (by omega)).1]; exact a5
    · rw [kk, (o3 (v + 3) (by omega)).1]; exact a6
    · rw [kk, (o3 (v + 4) (by omega)).1]; exact a7
    · rw [kk, (o3 (v + 5) (by omega)).1]; exact a8
    · rw [kk]; exact d4
    · rw [kk]; exact d5
    · rw [kk]; exact d6
    · rw [kk]; exact d7
    · rw [kk]; exact d8
    · rw [ll, (o3 (v + 1) (by omega)).2.1]; exact b4
    · rw [ll, (o3 (v + 2) (by omega)).2.1]; exact b5
    · rw [ll, (o3 (v + 3) (by omega)).2.1]; exact b6
    · rw [ll, (o3 (v + 4) (by omega)).2.1]; exact b7
    · rw [ll, (o3 (v + 5) (by omega)).2.1]; exact b8
    · rw [ll]; exact e4
    · rw [ll]; exact e5
    · rw [ll]; exact e6
    · rw [ll]; exact e7
    · rw [ll]; exact e8
    · rw [rv 1 (by decide)]; exact c4
    · rw [rv 2 (by decide)]; exact c5
    · rw [rv 3 (by decide)]; exact c6
    · rw [rv 4 (by decide)]; exact c7
    · rw [rv 5 (by decide)]; exact c8
    · rw [rg]; exact g4
    · rw [rg]; exact g5
    · rw [rg]; exact g6
    · rw [rg]; exact g7
    · rw [rg]; exact g8
  refine ⟨nx, vk, ⟨vk, ?_, fun i hi => absurd hi (Nat.not_lt_zero i), ?_, RL5.nil, ?_, ?_, ?_, ?_, ?_, ?_⟩, ⟨?_, ?_, ?_⟩, oo⟩
  · rw [Iv]; rfl
  · rw [h60]; rfl
  · rw [lv]; rfl
  · rw [lv]; rfl
  · rw [Iv]; rfl
  · rw [Iv]; rfl
  · rw [Iv]; rfl
  · rw [Iv]; rfl
  · rw [Iv]; rfl
  · rw [Iv]; rfl
  · rw [Iv]; rfl
theorem vil_f {h : HP} {v : Nat} (hv : hnx h = v + 1) (hk : hkd h v = 14) (hi : hI h v = fun _ => 0) (hl : hL h v = fun _ => 0) :
    hnx (vil h v) = v + 12 ∧ VK (vil h v) v ∧ RV (vil h v) v S0 ∧ FV (vil h v) v 0 false false ∧ Old v h (vil h v) := by
  have f1 : F5 v 3 6 3 (v + 1) h (bld v LV h) := five v (v + 1) 6 3 3 hv (by omega)
  have nx1 : hnx (bld v LV h) = v + 6 := f1.1
  have f3 : F5 (v + 6) 2 24 3 (v + 7) (snw (bld v LV h) 10 0) (bld (v + 6) LB (snw (bld v LV h) 10 0)) := five (v + 6) (v + 7) 24 2 3 (by rw [hnx_snw, nx1]) (by omega)
  unfold vil
  rw [nx1]
  exact vil_g hk hi hl f1 f3
/-- a new village out of nothing: 'new' and its making -/
theorem vnew_f {h : HP} : hnx (vil (snw h 14 0) (hnx h)) = hnx h + 12 ∧ VK (vil (snw h 14 0) (hnx h)) (hnx h) ∧ RV (vil (snw h 14 0) (hnx h)) (hnx h) S0 ∧ FV (vil (snw h 14 0) (hnx h)) (hnx h) 0 false false ∧ Old (hnx h) h (vil (snw h 14 0) (hnx h)) := by
  have z := vil_f (h := snw h 14 0) (v := hnx h) rfl (if_pos rfl) (by funext j; exact if_pos rfl) (by funext j; exact if_pos rfl)
  refine ⟨z.1, z.2.1, z.2.2.1, z.2.2.2.1, fun b hb => ?_⟩
  obtain ⟨a1, a2, a3, a4, a5⟩ := z.2.2.2.2 b hb
  have n1 : ¬ b = hnx h := by omega
  refine ⟨a1.trans (if_neg n1), a2.trans (if_neg n1), a3.trans ?_, a4.trans ?_, a5.trans ?_⟩
  · funext j; exact if_neg n1
  · funext j; exact if_neg n1
  · funext j; exact if_neg n1

-- new cells
def bl1 (h : HP) (v k t n : Nat) : HP := sR (snw h t n) v k (some (hnx h))
def bld (v : Nat) : List (Nat × Nat × Nat) → HP → HP
  | [], h => h
  | e :: L, h => bld v L (bl1 h v e.1 e.2.1 e.2.2)
theorem bl1_nx {h : HP} {v k t n : Nat} : hnx (bl1 h v k t n) = hnx h + 1 := rfl
theorem bl1_old {h : HP} {v k t n b : Nat} (hb : b < hnx h) : hkd (bl1 h v k t n) b = hkd h b ∧ hln (bl1 h v k t n) b = hln h b ∧ hI (bl1 h v k t n) b = hI h b ∧ hL (bl1 h v k t n) b = hL h b := by
  have n1 : ¬ b = hnx h := by omega
  refine ⟨if_neg n1, if_neg n1, ?_, ?_⟩
  · funext j
    exact if_neg n1
  · funext j
    exact if_neg n1
theorem bl1_R {h : HP} {v k t n b j : Nat} : hR (bl1 h v k t n) b j = if b = v ∧ j = k then some (hnx h) else if b = hnx h then none else hR h b j := rfl
theorem bl1_new {h : HP} {v k t n : Nat} : hkd (bl1 h v k t n) (hnx h) = t ∧ hln (bl1 h v k t n) (hnx h) = n ∧ hI (bl1 h v k t n) (hnx h) = (fun _ => 0) ∧ hL (bl1 h v k t n) (hnx h) = (fun _ => 0) := by
  refine ⟨if_pos rfl, if_pos rfl, ?_, ?_⟩
  · funext j
    exact if_pos rfl
  · funext j
    exact if_pos rfl
theorem snw_kd {h : HP} {t n b : Nat} (hb : b < hnx h) : hkd (snw h t n) b = hkd h b := if_neg (by omega)
theorem bl1_kd {h : HP} {v k t n b : Nat} (hb : b < hnx h) : hkd (bl1 h v k t n) b = hkd h b := (bl1_old hb).1
theorem bld_old {v : Nat} : ∀ {L : List (Nat × Nat × Nat)} {h : HP} {b : Nat}, b < hnx h → hkd (bld v L h) b = hkd h b ∧ hln (bld v L h) b = hln h b ∧ hI (bld v L h) b = hI h b ∧ hL (bld v L h) b = hL h b
  | [], h, b, _ => ⟨rfl, rfl, rfl, rfl⟩
  | e :: L, h, b, hb => by
    obtain ⟨a1, a2, a3, a4⟩ := bld_old (v := v) (L := L) (h := bl1 h v e.1 e.2.1 e.2.2) (b := b) (by rw [bl1_nx]; omega)
    obtain ⟨b1, b2, b3, b4⟩ := bl1_old (v := v) (k := e.1) (t := e.2.1) (n := e.2.2) hb
    exact ⟨a1.trans b1, a2.trans b2, a3.trans b3, a4.trans b4⟩
theorem bld_nx {v : Nat} : ∀ {L : List (Nat × Nat × Nat)} {h : HP}, hnx (bld v L h) = hnx h + L.length
  | [], h => rfl
  | e :: L, h => by
    show hnx (bld v L (bl1 h v e.1 e.2.1 e.2.2)) = _
    rw [bld_nx, bl1_nx, List.length_cons]
    omega
theorem bld_R {v : Nat} : ∀ {L : List (Nat × Nat × Nat)} {h : HP} {b j : Nat}, b < hnx h → (¬ b = v ∨ ∀ e, e ∈ L → ¬ e.1 = j) → hR (bld v L h) b j = hR h b j
  | [], h, b, j, _, _ => rfl
  | e :: L, h, b, j, hb, hc => by
    show hR (bld v L (bl1 h v e.1 e.2.1 e.2.2)) b j = _
    rw [bld_R (by rw [bl1_nx]; omega) (hc.imp id (fun z f hf => z f (List.mem_cons_of_mem _ hf))), bl1_R, if_neg (fun z => by
      rcases hc with c | c
      · exact c z.1
      · exact c e List.mem_cons_self z.2.symm), if_neg (by omega)]
theorem bld_new {v : Nat} : ∀ {L : List (Nat × Nat × Nat)} {h : HP} {j : Nat} {e : Nat × Nat × Nat}, v < hnx h → L[j]? = some e → hkd (bld v L h) (hnx h + j) = e.2.1 ∧ hln (bld v L h) (hnx h + j) = e.2.2 ∧ hI (bld v L h) (hnx h + j) = (fun _ => 0) ∧ hL (bld v L h) (hnx h + j) = (fun _ => 0)
  | [], h, j, e, hv, he => by simp at he
  | a :: L, h, j, e, hv, he => by
    show hkd (bld v L (bl1 h v a.1 a.2.1 a.2.2)) _ = _ ∧ hln (bld v L (bl1 h v a.1 a.2.1 a.2.2)) _ = _ ∧ hI (bld v L (bl1 h v a.1 a.2.1 a.2.2)) _ = _ ∧ hL (bld v L (bl1 h v a.1 a.2.1 a.2.2)) _ = _
    cases j with
    | zero =>
      have ea : a = e := Option.some.inj he
      subst ea
      obtain ⟨a1, a2, a3, a4⟩ := bld_old (v := v) (L := L) (h := bl1 h v a.1 a.2.1 a.2.2) (b := hnx h) (by rw [bl1_nx]; omega)
      obtain ⟨b1, b2, b3, b4⟩ := bl1_new (h := h) (v := v) (k := a.1) (t := a.2.1) (n := a.2.2)
      exact ⟨a1.trans b1, a2.trans b2, a3.trans b3, a4.trans b4⟩
    | succ j =>
      have := bld_new (v := v) (L := L) (h := bl1 h v a.1 a.2.1 a.2.2) (j := j) (e := e) (by rw [bl1_nx]; omega) he
      rw [bl1_nx, show hnx h + 1 + j = hnx h + (j + 1) by omega] at this
      exact this
theorem bld_Rn {v : Nat} : ∀ {L : List (Nat × Nat × Nat)} {h : HP} {j : Nat} {e : Nat × Nat × Nat}, v < hnx h → L[j]? = some e → (∀ i f, j < i → L[i]? = some f → ¬ f.1 = e.1) → hR (bld v L h) v e.1 = some (hnx h + j)
  | [], h, j, e, hv, he, _ => by simp at he
  | a :: L, h, j, e, hv, he, hd => by
    show hR (bld v L (bl1 h v a.1 a.2.1 a.2.2)) v e.1 = _
    cases j with
    | zero =>
      have ea : a = e := Option.some.inj he
      subst ea
      rw [bld_R (by rw [bl1_nx]; omega) (Or.inr fun f hf => by
        obtain ⟨i, hi, ef⟩ := List.mem_iff_getElem.mp hf
        exact hd (i + 1) f (by omega) (by rw [List.getElem?_cons_succ, List.getElem?_eq_getElem hi, ef])), bl1_R, if_pos ⟨rfl, rfl⟩]
      rfl
    | succ j =>
      have := bld_Rn (v := v) (L := L) (h := bl1 h v a.1 a.2.1 a.2.2) (j := j) (e := e) (by rw [bl1_nx]; omega) he (fun i f hi hf => hd (i + 1) f (by omega) hf)
      rw [this, bl1_nx]
      congr 1
      omega
theorem bld_Rx {v : Nat} : ∀ {L : List (Nat × Nat × Nat)} {h : HP} {j i : Nat}, v < hnx h → j < L.length → hR (bld v L h) (hnx h + j) i = none
  | [], h, j, i, hv, hj => by simp at hj
  | a :: L, h, j, i, hv, hj => by
    show hR (bld v L (bl1 h v a.1 a.2.1 a.2.2)) _ i = none
    cases j with
    | zero =>
      rw [Nat.add_zero, bld_R (by rw [bl1_nx]; omega) (Or.inl (by omega)), bl1_R, if_neg (by omega), if_pos rfl]
    | succ j =>
      have := bld_Rx (v := v) (L := L) (h := bl1 h v a.1 a.2.1 a.2.2) (j := j) (i := i) (by rw [bl1_nx]; omega) (by rw [List.length_cons] at hj; omega)
      rw [bl1_nx, show hnx h + 1 + j = hnx h + (j + 1) by omega] at this
      exact this
theorem ix6 : ix 6 = 6 := by decide
theorem ix24 : ix 24 = 24 := by decide
abbrev LB : List (Nat × Nat × Nat) := [(1, 2, 24), (2, 2, 24), (3, 2, 24), (4, 2, 24), (5, 3, 24)]
set_option maxHeartbeats 4000000 in
theorem v_bagInit {d : Nat} {Q : PQ} {h : HP} {g : Nat} (hk : hkd h g = 10) (hg : g < hnx h) : Ev (d + 1) 6 [.ref g] h Q = Q none (bld g LB h) := by
  have p24 : (0 : Int32) ≤ 24 := by decide
  have k1 : hkd (bl1 h g 1 2 24) g = 10 := (bl1_kd hg).trans hk
  have g1 : g < hnx (bl1 h g 1 2 24) := by rw [bl1_nx]; omega
  have k2 : hkd (bl1 (bl1 h g 1 2 24) g 2 2 24) g = 10 := (bl1_kd g1).trans k1
  have g2 : g < hnx (bl1 (bl1 h g 1 2 24) g 2 2 24) := by rw [bl1_nx]; omega
  have k3 : hkd (bl1 (bl1 (bl1 h g 1 2 24) g 2 2 24) g 3 2 24) g = 10 := (bl1_kd g2).trans k2
  have g3 : g < hnx (bl1 (bl1 (bl1 h g 1 2 24) g 2 2 24) g 3 2 24) := by rw [bl1_nx]; omega
  have k4 : hkd (bl1 (bl1 (bl1 (bl1 h g 1 2 24) g 2 2 24) g 3 2 24) g 4 2 24) g = 10 := (bl1_kd g3).trans k3
  have g4 : g < hnx (bl1 (bl1 (bl1 (bl1 h g 1 2 24) g 2 2 24) g 3 2 24) g 4 2 24) := by rw [bl1_nx]; omega
  have e : ∀ (h1 : HP) (k t n : Nat), sR (snw h1 t n) g k (some (hnx h1)) = bl1 h1 g k t n := fun _ _ _ _ => rfl
  simp only [e6, s6_0, s6_1, s6_4, s6_5, s6_7, s6_9, s6_12, s6_13, s6_15, s6_17, s6_20, s6_21, s6_23, s6_25, s6_28, s6_29, s6_31, s6_33, s6_36, s6_37, s6_39, s6_41, s6_44, oB_some, cl2_i, cl2_r, cl2_l, cl2_u, cl2_s, wd_0, wd_i, wd_r, wd_l, wd_f, ct_i, ct_r, ct_n, ct_f, rf_s, rf_n, tl_s, tl_n, true_and, and_true, eq_self, and_self, Nat.reduceAdd, Nat.reduceLeDiff, Nat.zero_le, Nat.reduceEqDiff, or_true, true_or, false_or, or_false, if_true, if_false, gI_0, gI_1, gI_2, gI_3, gI_4, gI_5, gI_6, gI_7, gI_8, gI_9, gI_10, gI_11, gI_12, gI_13, gI_14, gI_15, gL_0, gL_1, gL_2, gL_3, gL_4, gL_5, gL_6, gL_7, gL_8, gL_9, gL_10, gL_11, gL_12, gL_13, gL_14, gL_15, gA_0, gA_1, gA_2, gA_3, gA_4, gA_5, gA_6, gA_7, gA_8, gA_9, gA_10, gA_11, gA_12, gA_13, gA_14, gA_15, p1_0, p1_1, p1_2, p1_3, p1_4, p1_5, p1_6, p1_7, p1_8, p1_9, p1_10, p1_11, p1_12, p1_13, p1_14, p1_15, p2_0, p2_1, p2_2, p2_3, p2_4, p2_5, p2_6, p2_7, p2_8, p2_9, p2_10, p2_11, p2_12, p2_13, p2_14, p2_15, b01_ok, b_ft, b_tf, b01_e0, b01_e1, lgc_0, not_true_eq_false, not_false_eq_true, hk, ix24, p24, snw_kd hg, e, k1, snw_kd g1, k2, snw_kd g2, k3, snw_kd g3, k4, snw_kd g4, Nat.reduceSub]
  rfl

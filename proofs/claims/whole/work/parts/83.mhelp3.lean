-- the other side's helpers, on
theorem FMl.w {h : HP} {m ink a k : Nat} {dm sh : Bool} {x : Int32} (f : FMl h m ink dm sh) (c : ¬ a = m ∨ (¬ k = 19 ∧ ¬ k = 21 ∧ ¬ k = 22)) : FMl (sI h a k x) m ink dm sh := by
  obtain ⟨f1, f2, f3⟩ := f
  refine ⟨?_, ?_, ?_⟩
  · rw [hI_sI, if_neg (by omega), f1]
  · rw [hI_sI, if_neg (by omega), f2]
  · rw [hI_sI, if_neg (by omega), f3]
theorem FMl.wL {h : HP} {m ink a k : Nat} {dm sh : Bool} {x : Int64} (f : FMl h m ink dm sh) : FMl (sL h a k x) m ink dm sh := f
theorem FMl_ink {h : HP} {m ink ink2 : Nat} {dm sh : Bool} (f : FMl h m ink dm sh) : FMl (sI h m 19 (nI ink2)) m ink2 dm sh := by
  obtain ⟨f1, f2, f3⟩ := f
  refine ⟨?_, ?_, ?_⟩
  · rw [hI_sI, if_pos ⟨rfl, rfl⟩]
  · rw [hI_sI, if_neg (by omega), f2]
  · rw [hI_sI, if_neg (by omega), f3]
theorem FMl_dm {h : HP} {m ink : Nat} {dm dm2 sh : Bool} (f : FMl h m ink dm sh) : FMl (sI h m 22 (b01 dm2)) m ink dm2 sh := by
  obtain ⟨f1, f2, f3⟩ := f
  refine ⟨?_, ?_, ?_⟩
  · rw [hI_sI, if_neg (by omega), f1]
  · rw [hI_sI, if_pos ⟨rfl, rfl⟩]
  · rw [hI_sI, if_neg (by omega), f3]
theorem FMl_sh {h : HP} {m ink : Nat} {dm sh : Bool} (f : FMl h m ink dm sh) : FMl (sI h m 21 1) m ink dm true := by
  obtain ⟨f1, f2, f3⟩ := f
  refine ⟨?_, ?_, ?_⟩
  · rw [hI_sI, if_neg (by omega), f1]
  · rw [hI_sI, if_neg (by omega), f2]
  · rw [hI_sI, if_pos ⟨rfl, rfl⟩]; rfl
theorem KP.w {h : HP} {m w a k : Nat} {x : Int32} {S : VS} (p : KP h m w S) (g : Good S) (ha : ¬ a = m + 16) : KP (sI h a k x) m w S := p.cong g (fun j hj => by rw [hI_sI_ne (fun z => ha z.symm)]) (fun j hj => rfl)
theorem KP.wL {h : HP} {m w a k : Nat} {x : Int64} {S : VS} (p : KP h m w S) (g : Good S) (ha : ¬ a = m + 17) : KP (sL h a k x) m w S := p.cong g (fun j hj => rfl) (fun j hj => by rw [hL_sL_ne (fun z => ha z.symm)])
theorem RM.far {h : HP} {m a k : Nat} {x : Int32} {S : VS} (q : RM h m S) (ha : m + 12 ≤ a) : RM (sI h a k x) m S := by
  obtain ⟨k0, r1, r2, r3, r4, r5, r6, r7, r8, r9, r10⟩ := q
  refine ⟨k0, ?_⟩
  unfold RMr
  rw [mt5_sI (by omega), hI_sI_ne (by omega), hI_sI_ne (by omega), hI_sI_ne (by omega), hI_sI_ne (by omega)]
  exact ⟨r1, r2, r3, r4, r5, r6, r7, r8, r9, r10⟩
set_option maxHeartbeats 4000000 in
theorem m_knowsByLot {d : Nat} {Q : PQ} {h : HP} {m : Nat} {z : Int32} {T : VS} (q : RM h m T) (g : Good T) (h0 : 0 < vn T) (hz : hI h m 42 = z) :
    Ev (d + 2) 262 [.ref m] h Q = Q none (sL (sI (sI h m 42 (nxS z)) m 42 (nxS (nxS z))) (m + 9) (drawN (vn T) (nxS z)) (vw T (drawN (vn T) (nxS z)) ||| bL (drawN 40 (nxS (nxS z))))) := by
  have gn := g.n
  have K := q.k
  unfold MK at K
  have dl := draw_lt (n := vn T) (nxS z) h0
  have d4 := draw_lt (n := 40) (nxS (nxS z)) (by decide)
  have d6 : drawN (vn T) (nxS z) < 6 := by omega
  have d31 : drawN (vn T) (nxS z) < 2 ^ 31 := by omega
  have c2 : hI (sI h m 42 (nxS z)) m 42 = nxS z := by rw [hI_sI, if_pos ⟨rfl, rfl⟩]
  have db : ∀ (Q2 : PQ), Ev (d + 1) 263 [.ref m, .int 40] (sI h m 42 (nxS z)) Q2 = Q2 (some (.int (nI (drawN 40 (nxS (nxS z)))))) (sI (sI h m 42 (nxS z)) m 42 (nxS (nxS z))) := fun Q2 => m_draw (n := 40) K.1.1 c2 (by decide) (by decide)
  have w1 := (q.at dl).2.2.2.1
  simp only [e262, s262_0, s262_1, s262_2, s262_5, s262_8, s262_9, s262_10, s262_13, s262_14, s262_15, s262_16, s262_17, s262_18, s262_20, s262_23, s262_24, s262_25, s262_26, oB_some, cl2_i, cl2_r, cl2_l, cl2_u, cl2_s, wd_0, wd_i, wd_r, wd_l, wd_f, ct_i, ct_r, ct_n, ct_f, rf_s, rf_n, tl_s, tl_n, true_and, and_true, eq_self, and_self, Nat.reduceAdd, Nat.reduceLeDiff, Nat.zero_le, Nat.reduceEqDiff, or_true, true_or, false_or, or_false, if_true, if_false, gI_0, gI_1, gI_2, gI_3, gI_4, gI_5, gI_6, gI_7, gI_8, gI_9, gI_10, gI_11, gI_12, gI_13, gI_14, gI_15, gL_0, gL_1, gL_2, gL_3, gL_4, gL_5, gL_6, gL_7, gL_8, gL_9, gL_10, gL_11, gL_12, gL_13, gL_14, gL_15, gA_0, gA_1, gA_2, gA_3, gA_4, gA_5, gA_6, gA_7, gA_8, gA_9, gA_10, gA_11, gA_12, gA_13, gA_14, gA_15, p1_0, p1_1, p1_2, p1_3, p1_4, p1_5, p1_6, p1_7, p1_8, p1_9, p1_10, p1_11, p1_12, p1_13, p1_14, p1_15, p2_0, p2_1, p2_2, p2_3, p2_4, p2_5, p2_6, p2_7, p2_8, p2_9, p2_10, p2_11, p2_12, p2_13, p2_14, p2_15, b01_ok, b_ft, b_tf, b01_e0, b01_e1, lgc_0, not_true_eq_false, not_false_eq_true, z_hkd_sI, z_hln_sI, z_hL_sI, z_hR_sI, z_hnx_sI, z_hkd_sL, z_hln_sL, z_hI_sL, z_hR_sL, z_hnx_sL, z_hkd_sR, z_hln_sR, z_hI_sR, z_hL_sR, z_hnx_sR, z_hkd_cI, z_hln_cI, z_hL_cI, z_hR_cI, z_hnx_cI, z_hkd_cLg, z_hln_cLg, z_hI_cLg, z_hR_cLg, z_hnx_cLg, K, q.n, m_draw K.1.1 hz h0 (show vn T < 100 by omega), ix_nI d31, nI_pos' d31, d6, w1, db, Value.category, shl_bL (drawN 40 (nxS (nxS z))) (by omega)]
-- whom most letters are from
theorem letF_pos {S : VS} {p : Nat} {l : Ltr} {j n : Nat} (hj : (vb S)[j]? = some l) (e : lF l = p) (hn : j < n) : 0 < letF S p n := by
  have : ∀ n, j < n → 0 < letF S p n := fun n => by
    induction n with
    | zero => intro h; omega
    | succ n ih =>
      intro h
      unfold letF at *
      rw [sumN_s]
      by_cases c : j = n
      · subst c
        rw [hj]
        simp only [e, if_true]
        omega
      · have := ih (by omega)
        omega
  exact this n hn
theorem letF_none {S : VS} {p n : Nat} (h : ∀ l, l ∈ vb S → ¬ lF l = p) : letF S p n = 0 := by
  induction n with
  | zero => rfl
  | succ n ih =>
    unfold letF at *
    rw [sumN_s, ih]
    cases e : (vb S)[n]? with
    | none => rfl
    | some l => simp only [h l (List.mem_of_getElem? e), if_false]
def busM (f : Nat → Nat) : Nat → Nat → Nat → Nat
  | 0, _, b => b
  | m + 1, j, b => busM f m (j + 1) (if f b < f j then j else b)
theorem busM_s (f : Nat → Nat) (m j b : Nat) : busM f (m + 1) j b = busM f m (j + 1) (if f b < f j then j else b) := rfl
theorem betA_add (f tag : Nat → Nat) : ∀ (m n j : Nat) (b : Option Nat × Nat), betA f tag (m + n) j b = betA f tag n (j + m) (betA f tag m j b)
  | 0, n, j, b => by rw [Nat.zero_add]; rfl
  | m + 1, n, j, b => by
    rw [show m + 1 + n = (m + n) + 1 by omega, betA_s, betA_s, betA_add f tag m n (j + 1), show j + 1 + m = j + (m + 1) by omega]
theorem betA_zero {f tag : Nat → Nat} : ∀ (n j : Nat) (b : Option Nat × Nat), (∀ i, j ≤ i → i < j + n → f i = 0) → betA f tag n j b = b
  | 0, j, b, _ => rfl
  | n + 1, j, b, h => by
    rw [betA_s, h j (Nat.le_refl _) (by omega), if_neg (by omega)]
    exact betA_zero n (j + 1) b (fun i h1 h2 => h i (by omega) (by omega))
def busB (f : Nat → Nat) (b : Nat) : Option Nat × Nat := if f b = 0 then (none, 0) else (some b, f b)
theorem bus_eq {f : Nat → Nat} : ∀ (n j b : Nat), betA f (fun p => p) n j (busB f b) = busB f (busM f n j b)
  | 0, j, b => rfl
  | n + 1, j, b => by
    rw [betA_s, busM_s]
    have e2 : (busB f b).2 = f b := by
      unfold busB
      split
      · rename_i z; exact z.symm
      · rfl
    rw [e2]
    by_cases e : f b < f j
    · rw [if_pos e, if_pos e, ← bus_eq n (j + 1) j]
      unfold busB
      rw [if_neg (show ¬ f j = 0 by omega)]
    · rw [if_neg e, if_neg e]
      exact bus_eq n (j + 1) b
theorem busM_ge {f : Nat → Nat} : ∀ (n j b : Nat), f b ≤ f (busM f n j b) ∧ ∀ i, j ≤ i → i < j + n → f i ≤ f (busM f n j b)
  | 0, j, b => ⟨Nat.le_refl _, fun i h1 h2 => by omega⟩
  | n + 1, j, b => by
    obtain ⟨h1, h2⟩ := busM_ge (f := f) n (j + 1) (if f b < f j then j else b)
    rw [busM_s]
    by_cases e : f b < f j
    · rw [if_pos e] at h1 h2 ⊢
      refine ⟨by omega, fun i h3 h4 => ?_⟩
      by_cases z : i = j
      · rw [z]; exact h1
      · exact h2 i (by omega) (by omega)
    · rw [if_neg e] at h1 h2 ⊢
      refine ⟨h1, fun i h3 h4 => ?_⟩
      by_cases z : i = j
      · rw [z]; omega
      · exact h2 i (by omega) (by omega)
theorem busy_none {S : VS} (h : (vb S).length = 0) : busyN S = none := by
  unfold busyN
  rw [betA_zero 6 0 (none, 0) (fun i _ _ => by
    rw [h]; rfl)]
theorem busy_some {S : VS} (g : Good S) (h : ¬ (vb S).length = 0) : busyN S = some (busM (fun p => letF S p (vb S).length) (vn S - 1) 1 0) ∧ 1 ≤ vn S := by
  have gn := g.n
  have hj : (vb S)[0]? = some ((vb S)[0]'(by omega)) := List.getElem?_eq_getElem (by omega)
  have gl := (g.b (List.mem_of_getElem? hj)).1
  have pos := letF_pos (S := S) hj rfl (show 0 < (vb S).length by omega)
  have n1 : 1 ≤ vn S := by omega
  refine ⟨?_, n1⟩
  have z : ∀ i, vn S ≤ i → i < 6 → letF S i (vb S).length = 0 := fun i h1 _ => letF_none fun l hl c => by have := (g.b hl).1; omega
  unfold busyN
  have e6 : 6 = vn S + (6 - vn S) := by omega
  rw [e6, betA_add, betA_zero (6 - vn S) _ _ (fun i h1 h2 => z i (by omega) (by omega)), show vn S = (vn S - 1) + 1 by omega, betA_s, show vn S - 1 + 1 - 1 = vn S - 1 by omega]
  have b0 : (if ((none, 0) : Option Nat × Nat).2 < letF S 0 (vb S).length then (some 0, letF S 0 (vb S).length) else ((none : Option Nat), 0)) = busB (fun p => letF S p (vb S).length) 0 := by
    unfold busB
    by_cases c : letF S 0 (vb S).length = 0
    · rw [if_pos c, if_neg (by show ¬ 0 < letF S 0 (vb S).length; omega)]
    · rw [if_neg c, if_pos (by show 0 < letF S 0 (vb S).length; omega)]
  rw [b0, bus_eq]
  have ge := busM_ge (f := fun p => letF S p (vb S).length) (vn S - 1) 1 0
  have mx : letF S (lF (vb S)[0]) (vb S).length ≤ letF S (busM (fun p => letF S p (vb S).length) (vn S - 1) 1 0) (vb S).length := by
    by_cases c : lF (vb S)[0] = 0
    · rw [c]; exact ge.1
    · exact ge.2 _ (by omega) (by omega)
  have mz : ¬ letF S (busM (fun p => letF S p (vb S).length) (vn S - 1) 1 0) (vb S).length = 0 := by omega
  unfold busB
  exact congrArg Prod.fst (if_neg mz)
theorem busM_lt {f : Nat → Nat} : ∀ (n j b : Nat), b < j + n → 1 ≤ j → busM f n j b < j + n
  | 0, j, b, h, _ => h
  | n + 1, j, b, h, h1 => by
    rw [busM_s]
    have := busM_lt (f := f) n (j + 1) (if f b < f j then j else b) (by split <;> omega) (by omega)
    omega
set_option maxHeartbeats 4000000 in
theorem m_busiest {d : Nat} {Q : PQ} {h : HP} {m : Nat} {S : VS} (q : RM h m S) (g : Good S) : Ev (d + 2) 246 [.ref m] h Q = Q (some (.int (oN (busyN S)))) h := by
  have K := q.k
  unfold MK at K
  have gn := g.n
  have gl := g.l
  by_cases e : (vb S).length = 0
  · have n0 : hI h m 12 = 0 := by rw [q.m, e]; rfl
    rw [busy_none e]
    simp only [e246, s246_0, s246_1, s246_4, s246_7, s246_9, s246_10, s246_11, s246_12, s246_13, s246_14, s246_15, s246_16, s246_19, s246_22, s246_23, s246_24, s246_27, s246_28, s246_29, s246_32, s246_35, s246_36, s246_39, s246_40, s246_41, s246_44, s246_47, s246_48, oB_some, cl2_i, cl2_r, cl2_l, cl2_u, cl2_s, wd_0, wd_i, wd_r, wd_l, wd_f, ct_i, ct_r, ct_n, ct_f, rf_s, rf_n, tl_s, tl_n, true_and, and_true, eq_self, and_self, Nat.reduceAdd, Nat.reduceLeDiff, Nat.zero_le, Nat.reduceEqDiff, or_true, true_or, false_or, or_false, if_true, if_false, gI_0, gI_1, gI_2, gI_3, gI_4, gI_5, gI_6, gI_7, gI_8, gI_9, gI_10, gI_11, gI_12, gI_13, gI_14, gI_15, gL_0, gL_1, gL_2, gL_3, gL_4, gL_5, gL_6, gL_7, gL_8, gL_9, gL_10, gL_11, gL_12, gL_13, gL_14, gL_15, gA_0, gA_1, gA_2, gA_3, gA_4, gA_5, gA_6, gA_7, gA_8, gA_9, gA_10, gA_11, gA_12, gA_13, gA_14, gA_15, p1_0, p1_1, p1_2, p1_3, p1_4, p1_5, p1_6, p1_7, p1_8, p1_9, p1_10, p1_11, p1_12, p1_13, p1_14, p1_15, p2_0, p2_1, p2_2, p2_3, p2_4, p2_5, p2_6, p2_7, p2_8, p2_9, p2_10, p2_11, p2_12, p2_13, p2_14, p2_15, b01_ok, b_ft, b_tf, b01_e0, b01_e1, lgc_0, not_true_eq_false, not_false_eq_true, K, n0, not_true_eq_false]
    rfl
  · obtain ⟨e1, e2⟩ := busy_some g e
    have ne : ¬ nI (vb S).length = 0 := nI_ne0 (by omega) (by omega)
    have loop : ∀ (n j b : Nat), j + n = vn S → 1 ≤ j → b < j → WP (d + 1) 246 Q (14, [.val (.ref m), .val (.int (nI b)), .val (.int (nI j))], [], h, 0, 0) = Q (some (.int (nI (busM (fun p => letF S p (vb S).length) n j b)))) h := by
      intro n
      induction n with
      | zero =>
        intro j b hj h1 hb
        obtain rfl : j = vn S := by omega
        rw [s246_14]
        simp only [s246_15, s246_16, s246_19, s246_22, s246_23, s246_24, s246_27, s246_28, s246_29, s246_32, s246_35, s246_36, s246_39, s246_40, s246_41, s246_44, s246_47, s246_48, oB_some, cl2_i, cl2_r, cl2_l, cl2_u, cl2_s, wd_0, wd_i, wd_r, wd_l, wd_f, ct_i, ct_r, ct_n, ct_f, rf_s, rf_n, tl_s, tl_n, true_and, and_true, eq_self, and_self, Nat.reduceAdd, Nat.reduceLeDiff, Nat.zero_le, Nat.reduceEqDiff, or_true, true_or, false_or, or_false, if_true, if_false, gI_0, gI_1, gI_2, gI_3, gI_4, gI_5, gI_6, gI_7, gI_8, gI_9, gI_10, gI_11, gI_12, gI_13, gI_14, gI_15, gL_0, gL_1, gL_2, gL_3, gL_4, gL_5, gL_6, gL_7, gL_8, gL_9, gL_10, gL_11, gL_12, gL_13, gL_14, gL_15, gA_0, gA_1, gA_2, gA_3, gA_4, gA_5, gA_6, gA_7, gA_8, gA_9, gA_10, gA_11, gA_12, gA_13, gA_14, gA_15, p1_0, p1_1, p1_2, p1_3, p1_4, p1_5, p1_6, p1_7, p1_8, p1_9, p1_10, p1_11, p1_12, p1_13, p1_14, p1_15, p2_0, p2_1, p2_2, p2_3, p2_4, p2_5, p2_6, p2_7, p2_8, p2_9, p2_10, p2_11, p2_12, p2_13, p2_14, p2_15, b01_ok, b_ft, b_tf, b01_e0, b01_e1, lgc_0, not_true_eq_false, not_false_eq_true, K, q.n, Int32.le_refl]
        rfl
      | succ n ih =>
        intro j b hj h1 hb
        have z : ¬ nI (vn S) ≤ nI j := nI_ge (by omega) (by omega)
        have l1 := @letF_le S j (vb S).length
        have l2 := @letF_le S b (vb S).length
        rw [s246_14, busM_s]
        simp only [s246_15, s246_16, s246_19, s246_22, s246_23, s246_24, s246_27, s246_28, s246_29, s246_32, s246_35, s246_36, s246_39, s246_40, s246_41, s246_44, s246_47, s246_48, oB_some, cl2_i, cl2_r, cl2_l, cl2_u, cl2_s, wd_0, wd_i, wd_r, wd_l, wd_f, ct_i, ct_r, ct_n, ct_f, rf_s, rf_n, tl_s, tl_n, true_and, and_true, eq_self, and_self, Nat.reduceAdd, Nat.reduceLeDiff, Nat.zero_le, Nat.reduceEqDiff, or_true, true_or, false_or, or_false, if_true, if_false, gI_0, gI_1, gI_2, gI_3, gI_4, gI_5, gI_6, gI_7, gI_8, gI_9, gI_10, gI_11, gI_12, gI_13, gI_14, gI_15, gL_0, gL_1, gL_2, gL_3, gL_4, gL_5, gL_6, gL_7, gL_8, gL_9, gL_10, gL_11, gL_12, gL_13, gL_14, gL_15, gA_0, gA_1, gA_2, gA_3, gA_4, gA_5, gA_6, gA_7, gA_8, gA_9, gA_10, gA_11, gA_12, gA_13, gA_14, gA_15, p1_0, p1_1, p1_2, p1_3, p1_4, p1_5, p1_6, p1_7, p1_8, p1_9, p1_10, p1_11, p1_12, p1_13, p1_14, p1_15, p2_0, p2_1, p2_2, p2_3, p2_4, p2_5, p2_6, p2_7, p2_8, p2_9, p2_10, p2_11, p2_12, p2_13, p2_14, p2_15, b01_ok, b_ft, b_tf, b01_e0, b01_e1, lgc_0, not_true_eq_false, not_false_eq_true, K, q.n, z, m_lettersFrom q g (show j < 2 ^ 31 by omega), m_lettersFrom q g (show b < 2 ^ 31 by omega), leP (show letF S j (vb S).length < 2 ^ 31 by omega) (show letF S b (vb S).length < 2 ^ 31 by omega), nI_1]
        by_cases c : letF S j (vb S).length ≤ letF S b (vb S).length
        · rw [if_pos c, if_neg (by omega)]
          exact ih (j + 1) b (by omega) (by omega) (by omega)
        · rw [if_neg c, if_pos (by omega)]
          exact ih (j + 1) j (by omega) (by omega) (by omega)
    rw [e1]
    simp only [e246, s246_0, s246_1, s246_4, s246_7, s246_9, s246_10, s246_11, s246_12, s246_13, oB_some, cl2_i, cl2_r, cl2_l, cl2_u, cl2_s, wd_0, wd_i, wd_r, wd_l, wd_f, ct_i, ct_r, ct_n, ct_f, rf_s, rf_n, tl_s, tl_n, true_and, and_true, eq_self, and_self, Nat.reduceAdd, Nat.reduceLeDiff, Nat.zero_le, Nat.reduceEqDiff, or_true, true_or, false_or, or_false, if_true, if_false, gI_0, gI_1, gI_2, gI_3, gI_4, gI_5, gI_6, gI_7, gI_8, gI_9, gI_10, gI_11, gI_12, gI_13, gI_14, gI_15, gL_0, gL_1, gL_2, gL_3, gL_4, gL_5, gL_6, gL_7, gL_8, gL_9, gL_10, gL_11, gL_12, gL_13, gL_14, gL_15, gA_0, gA_1, gA_2, gA_3, gA_4, gA_5, gA_6, gA_7, gA_8, gA_9, gA_10, gA_11, gA_12, gA_13, gA_14, gA_15, p1_0, p1_1, p1_2, p1_3, p1_4, p1_5, p1_6, p1_7, p1_8, p1_9, p1_10, p1_11, p1_12, p1_13, p1_14, p1_15, p2_0, p2_1, p2_2, p2_3, p2_4, p2_5, p2_6, p2_7, p2_8, p2_9, p2_10, p2_11, p2_12, p2_13, p2_14, p2_15, b01_ok, b_ft, b_tf, b01_e0, b01_e1, lgc_0, not_true_eq_false, not_false_eq_true, K, q.m, ne, not_false_eq_true]
    exact loop (vn S - 1) 1 0 (by omega) (by omega) (by omega)
-- what is known is never less
def sub (x y : Int64) : Prop := ∀ k, hb x k = true → hb y k = true
theorem sub_rf {x : Int64} : sub x x := fun _ h => h
theorem sub_or {x y : Int64} : sub x (x ||| y) := fun k h => by rw [hb_or, h]; rfl
theorem sub_tr {x y z : Int64} (a : sub x y) (b : sub y z) : sub x z := fun k h => b k (a k h)
theorem nbU_mono {x y : Int64} (h : sub x y) : ∀ n, nbU n x ≤ nbU n y
  | 0 => Nat.le_refl 0
  | n + 1 => by
    have := nbU_mono h n
    rw [nbU_succ, nbU_succ]
    by_cases c : hb x n = true
    · rw [if_pos c, if_pos (h n c)]; omega
    · rw [if_neg c]; omega
theorem sumN_mono {f g : Nat → Nat} (h : ∀ i, f i ≤ g i) : ∀ n, sumN f n ≤ sumN g n
  | 0 => Nat.le_refl 0
  | n + 1 => by
    have := sumN_mono h n
    have := h n
    rw [sumN_s, sumN_s]
    omega
def subV (S T : VS) : Prop := (∀ i, sub (vw S i) (vw T i)) ∧ sub (vs S) (vs T)
theorem subV_tr {S T U : VS} (a : subV S T) (b : subV T U) : subV S U := ⟨fun i => sub_tr (a.1 i) (b.1 i), sub_tr a.2 b.2⟩
theorem had1_sub {dm sh : Bool} {S : VS} {l : Ltr} : subV S (had1 dm sh S l) := by
  have hs : sub (vs S) (she1 sh S l) := by
    unfold she1
    split
    · exact sub_rf
    · exact sub_or
  have h1 : subV S (left1 dm sh S l) := by
    unfold left1
    dsimp only
    split
    · exact ⟨fun i => sub_rf, hs⟩
    · exact ⟨fun i => sub_rf, hs⟩
  refine subV_tr h1 ?_
  unfold had1
  dsimp only
  split
  · exact ⟨fun i => sub_rf, sub_rf⟩
  · refine ⟨fun i => ?_, sub_rf⟩
    show sub _ (va_up (vw (left1 dm sh S l)) (lT l) (vw S (lT l) ||| word1 dm sh S l) i)
    unfold va_up
    split
    · rename_i e
      subst e
      rw [left1_vw]
      exact sub_or
    · exact sub_rf
theorem hadAll_sub {dm sh : Bool} : ∀ {b : List Ltr} {S : VS}, subV S (hadAll dm sh b S)
  | [], S => ⟨fun _ => sub_rf, sub_rf⟩
  | l :: t, S => subV_tr had1_sub hadAll_sub
theorem writ_sub {ink : Nat} {S : VS} {p : Nat} : subV S (writ ink S p) := by
  unfold writ
  split
  · exact ⟨fun i => sub_rf, sub_rf⟩
  · exact ⟨fun i => sub_rf, sub_rf⟩
theorem writAll_sub {ink : Nat} : ∀ {n p : Nat} {S : VS}, subV S (writAll ink n p S)
  | 0, p, S => ⟨fun _ => sub_rf, sub_rf⟩
  | n + 1, p, S => subV_tr writ_sub writAll_sub
theorem day1_sub {ink : Nat} {dm sh : Bool} {S : VS} : subV S (day1 ink dm sh S) := by
  have a : subV S (hadAll dm sh ((vb S).take 3) (wY S (vy S + 1))) := subV_tr (T := wY S (vy S + 1)) ⟨fun _ => sub_rf, sub_rf⟩ hadAll_sub
  have b : subV (hadAll dm sh ((vb S).take 3) (wY S (vy S + 1))) (wB (hadAll dm sh ((vb S).take 3) (wY S (vy S + 1))) ((vb S).drop 3)) := ⟨fun _ => sub_rf, sub_rf⟩
  exact subV_tr a (subV_tr b writAll_sub)
theorem knAll_mono {S : VS} (g : Good S) (hy : vy S + 1 < 2 ^ 20) : knAll S ≤ knAll (day1 0 false false S) := by
  have s := day1_sub (ink := 0) (dm := false) (sh := false) (S := S)
  have k := day1_keep (ink := 0) (dm := false) (sh := false) g hy
  unfold knAll together
  rw [k.2.1]
  have a := sumN_mono (fun i => nbU_mono (s.1 i) 40) (vn S)
  have b := nbU_mono s.2 40
  unfold nb
  omega
set_option maxHeartbeats 8000000 in
theorem m_still {d : Nat} {Q : PQ} {h : HP} {m : Nat} {S : VS} (M : MO h m S) (g : Good S) (hy : vy S + 61 < 2 ^ 20)
    (k : ∀ h', FQ m h h' → MO h' m S → Q (some (.int (nI (stA 60 S (knAll S) 0 0)))) h') : Ev (d + 7) 245 [.ref m] h Q := by
  have K := M.1.k
  unfold MK at K
  simp only [e245, s245_0, s245_1, oB_some, cl2_i, cl2_r, cl2_l, cl2_u, cl2_s, wd_0, wd_i, wd_r, wd_l, wd_f, ct_i, ct_r, ct_n, ct_f, rf_s, rf_n, tl_s, tl_n, true_and, and_true, eq_self, and_self, Nat.reduceAdd, Nat.reduceLeDiff, Nat.zero_le, Nat.reduceEqDiff, or_true, true_or, false_or, or_false, if_true, if_false, gI_0, gI_1, gI_2, gI_3, gI_4, gI_5, gI_6, gI_7, gI_8, gI_9, gI_10, gI_11, gI_12, gI_13, gI_14, gI_15, gL_0, gL_1, gL_2, gL_3, gL_4, gL_5, gL_6, gL_7, gL_8, gL_9, gL_10, gL_11, gL_12, gL_13, gL_14, gL_15, gA_0, gA_1, gA_2, gA_3, gA_4, gA_5, gA_6, gA_7, gA_8, gA_9, gA_10, gA_11, gA_12, gA_13, gA_14, gA_15, p1_0, p1_1, p1_2, p1_3, p1_4, p1_5, p1_6, p1_7, p1_8, p1_9, p1_10, p1_11, p1_12, p1_13, p1_14, p1_15, p2_0, p2_1, p2_2, p2_3, p2_4, p2_5, p2_6, p2_7, p2_8, p2_9, p2_10, p2_11, p2_12, p2_13, p2_14, p2_15, b01_ok, b_ft, b_tf, b01_e0, b01_e1, lgc_0, not_true_eq_false, not_false_eq_true, K]
  refine m_minds M.1 g M.2 fun h1 f1 q1 l1 p1 => ?_
  have loop : ∀ (n i : Nat) (h2 : HP) (T : VS) (r l : Nat) (y : Slot), i + n = 60 → FQ m h h2 → RM h2 m T → Good T → FMl h2 m 0 false false → KP h2 m 2 S → vy T + n < 2 ^ 20 → r ≤ i → l ≤ i → stA n T (knAll T) r l = stA 60 S (knAll S) 0 0 →
      WP (d + 6) 245 Q (10, [.val (.ref m), .val (.int (nI l)), .val (.int (nI r)), .val (.int (nI i)), y], [], h2, 0, 0) := by
    intro n
    induction n with
    | zero =>
      intro i h2 T r l y hi f2 q2 g2 l2 p2 y2 hr hl e2
      obtain rfl : i = 60 := by omega
      have K2 := q2.k
      unfold MK at K2
      rw [s245_10]
      simp only [s245_11, s245_13, s245_76, s245_77, oB_some, cl2_i, cl2_r, cl2_l, cl2_u, cl2_s, wd_0, wd_i, wd_r, wd_l, wd_f, ct_i, ct_r, ct_n, ct_f, rf_s, rf_n, tl_s, tl_n, true_and, and_true, eq_self, and_self, Nat.reduceAdd, Nat.reduceLeDiff, Nat.zero_le, Nat.reduceEqDiff, or_true, true_or, false_or, or_false, if_true, if_false, gI_0, gI_1, gI_2, gI_3, gI_4, gI_5, gI_6, gI_7, gI_8, gI_9, gI_10, gI_11, gI_12, gI_13, gI_14, gI_15, gL_0, gL_1, gL_2, gL_3, gL_4, gL_5, gL_6, gL_7, gL_8, gL_9, gL_10, gL_11, gL_12, gL_13, gL_14, gL_15, gA_0, gA_1, gA_2, gA_3, gA_4, gA_5, gA_6, gA_7, gA_8, gA_9, gA_10, gA_11, gA_12, gA_13, gA_14, gA_15, p1_0, p1_1, p1_2, p1_3, p1_4, p1_5, p1_6, p1_7, p1_8, p1_9, p1_10, p1_11, p1_12, p1_13, p1_14, p1_15, p2_0, p2_1, p2_2, p2_3, p2_4, p2_5, p2_6, p2_7, p2_8, p2_9, p2_10, p2_11, p2_12, p2_13, p2_14, p2_15, b01_ok, b_ft, b_tf, b01_e0, b01_e1, lgc_0, not_true_eq_false, not_false_eq_true, K2]
      rw [if_pos (by decide)]
      refine m_forgets q2.k g p2 fun h3 f3 q3 l3 => ?_
      simp only [s245_80, s245_81, oB_some, cl2_i, cl2_r, cl2_l, cl2_u, cl2_s, wd_0, wd_i, wd_r, wd_l, wd_f, ct_i, ct_r, ct_n, ct_f, rf_s, rf_n, tl_s, tl_n, true_and, and_true, eq_self, and_self, Nat.reduceAdd, Nat.reduceLeDiff, Nat.zero_le, Nat.reduceEqDiff, or_true, true_or, false_or, or_false, if_true, if_false, gI_0, gI_1, gI_2, gI_3, gI_4, gI_5, gI_6, gI_7, gI_8, gI_9, gI_10, gI_11, gI_12, gI_13, gI_14, gI_15, gL_0, gL_1, gL_2, gL_3, gL_4, gL_5, gL_6, gL_7, gL_8, gL_9, gL_10, gL_11, gL_12, gL_13, gL_14, gL_15, gA_0, gA_1, gA_2, gA_3, gA_4, gA_5, gA_6, gA_7, gA_8, gA_9, gA_10, gA_11, gA_12, gA_13, gA_14, gA_15, p1_0, p1_1, p1_2, p1_3, p1_4, p1_5, p1_6, p1_7, p1_8, p1_9, p1_10, p1_11, p1_12, p1_13, p1_14, p1_15, p2_0, p2_1, p2_2, p2_3, p2_4, p2_5, p2_6, p2_7, p2_8, p2_9, p2_10, p2_11, p2_12, p2_13, p2_14, p2_15, b01_ok, b_ft, b_tf, b01_e0, b01_e1, lgc_0, not_true_eq_false, not_false_eq_true]
      have kk := k h3 (f2.tr f3) ⟨q3, l3⟩
      rw [← e2] at kk
      exact kk
    | succ n ih =>
      intro i h2 T r l y hi f2 q2 g2 l2 p2 y2 hr hl e2
      have K2 := q2.k
      unfold MK at K2
      have z : ¬ (60 : Int32) ≤ nI i := nI_ge (b := 60) (by omega) (by decide)
      have ke : together T + nb (vs T) = knAll T := rfl
      rw [s245_10]
      simp only [s245_11, s245_13, s245_16, s245_17, s245_20, s245_21, s245_24, s245_27, s245_28, s245_30, s245_31, oB_some, cl2_i, cl2_r, cl2_l, cl2_u, cl2_s, wd_0, wd_i, wd_r, wd_l, wd_f, ct_i, ct_r, ct_n, ct_f, rf_s, rf_n, tl_s, tl_n, true_and, and_true, eq_self, and_self, Nat.reduceAdd, Nat.reduceLeDiff, Nat.zero_le, Nat.reduceEqDiff, or_true, true_or, false_or, or_false, if_true, if_false, gI_0, gI_1, gI_2, gI_3, gI_4, gI_5, gI_6, gI_7, gI_8, gI_9, gI_10, gI_11, gI_12, gI_13, gI_14, gI_15, gL_0, gL_1, gL_2, gL_3, gL_4, gL_5, gL_6, gL_7, gL_8, gL_9, gL_10, gL_11, gL_12, gL_13, gL_14, gL_15, gA_0, gA_1, gA_2, gA_3, gA_4, gA_5, gA_6, gA_7, gA_8, gA_9, gA_10, gA_11, gA_12, gA_13, gA_14, gA_15, p1_0, p1_1, p1_2, p1_3, p1_4, p1_5, p1_6, p1_7, p1_8, p1_9, p1_10, p1_11, p1_12, p1_13, p1_14, p1_15, p2_0, p2_1, p2_2, p2_3, p2_4, p2_5, p2_6, p2_7, p2_8, p2_9, p2_10, p2_11, p2_12, p2_13, p2_14, p2_15, b01_ok, b_ft, b_tf, b01_e0, b01_e1, lgc_0, not_true_eq_false, not_false_eq_true, K2, z, m_allKnown q2 g2, q2.s, m_bits, nI_add, ke]
      refine m_goesDay q2 g2 l2 (by decide) (by omega) fun h3 f3 q3 => ?_
      have k1 := day1_keep (ink := 0) (dm := false) (sh := false) g2 (by omega)
      have K3 := q3.k
      unfold MK at K3
      have mono := knAll_mono g2 (by omega)
      have ka := knAll_le k1.1
      have ke2 : together (day1 0 false false T) + nb (vs (day1 0 false false T)) = knAll (day1 0 false false T) := rfl
      rw [stA_s] at e2
      simp only [s245_34, s245_35, s245_38, s245_39, s245_42, s245_45, s245_46, s245_48, s245_51, s245_52, s245_55, s245_56, s245_57, oB_some, cl2_i, cl2_r, cl2_l, cl2_u, cl2_s, wd_0, wd_i, wd_r, wd_l, wd_f, ct_i, ct_r, ct_n, ct_f, rf_s, rf_n, tl_s, tl_n, true_and, and_true, eq_self, and_self, Nat.reduceAdd, Nat.reduceLeDiff, Nat.zero_le, Nat.reduceEqDiff, or_true, true_or, false_or, or_false, if_true, if_false, gI_0, gI_1, gI_2, gI_3, gI_4, gI_5, gI_6, gI_7, gI_8, gI_9, gI_10, gI_11, gI_12, gI_13, gI_14, gI_15, gL_0, gL_1, gL_2, gL_3, gL_4, gL_5, gL_6, gL_7, gL_8, gL_9, gL_10, gL_11, gL_12, gL_13, gL_14, gL_15, gA_0, gA_1, gA_2, gA_3, gA_4, gA_5, gA_6, gA_7, gA_8, gA_9, gA_10, gA_11, gA_12, gA_13, gA_14, gA_15, p1_0, p1_1, p1_2, p1_3, p1_4, p1_5, p1_6, p1_7, p1_8, p1_9, p1_10, p1_11, p1_12, p1_13, p1_14, p1_15, p2_0, p2_1, p2_2, p2_3, p2_4, p2_5, p2_6, p2_7, p2_8, p2_9, p2_10, p2_11, p2_12, p2_13, p2_14, p2_15, b01_ok, b_ft, b_tf, b01_e0, b01_e1, lgc_0, not_true_eq_false, not_false_eq_true, K3, m_allKnown q3 k1.1, q3.s, m_bits, nI_add, ke2, leP (show knAll (day1 0 false false T) < 2 ^ 31 by omega) (show knAll T < 2 ^ 31 by omega), nI_1]
      have step : ∀ r1, r1 = (if knAll (day1 0 false false T) = knAll T then r + 1 else 0) → WP (d + 6) 245 Q (58, [.val (.ref m), .val (.int (nI l)), .val (.int (nI r)), .val (.int (nI i)), .val (.int (nI (knAll T)))], [.int (nI r1)], h3, 0, 0) := by
        intro r1 h1r
        have r1i : r1 ≤ i + 1 := by rw [h1r]; split <;> omega
        rw [← h1r] at e2
        simp only [s245_58, s245_59, s245_60, s245_61, s245_64, s245_65, s245_68, s245_69, s245_70, s245_73, oB_some, cl2_i, cl2_r, cl2_l, cl2_u, cl2_s, wd_0, wd_i, wd_r, wd_l, wd_f, ct_i, ct_r, ct_n, ct_f, rf_s, rf_n, tl_s, tl_n, true_and, and_true, eq_self, and_self, Nat.reduceAdd, Nat.reduceLeDiff, Nat.zero_le, Nat.reduceEqDiff, or_true, true_or, false_or, or_false, if_true, if_false, gI_0, gI_1, gI_2, gI_3, gI_4, gI_5, gI_6, gI_7, gI_8, gI_9, gI_10, gI_11, gI_12, gI_13, gI_14, gI_15, gL_0, gL_1, gL_2, gL_3, gL_4, gL_5, gL_6, gL_7, gL_8, gL_9, gL_10, gL_11, gL_12, gL_13, gL_14, gL_15, gA_0, gA_1, gA_2, gA_3, gA_4, gA_5, gA_6, gA_7, gA_8, gA_9, gA_10, gA_11, gA_12, gA_13, gA_14, gA_15, p1_0, p1_1, p1_2, p1_3, p1_4, p1_5, p1_6, p1_7, p1_8, p1_9, p1_10, p1_11, p1_12, p1_13, p1_14, p1_15, p2_0, p2_1, p2_2, p2_3, p2_4, p2_5, p2_6, p2_7, p2_8, p2_9, p2_10, p2_11, p2_12, p2_13, p2_14, p2_15, b01_ok, b_ft, b_tf, b01_e0, b01_e1, lgc_0, not_true_eq_false, not_false_eq_true, leP (show r1 < 2 ^ 31 by omega) (show l < 2 ^ 31 by omega), nI_1]
        by_cases c : r1 ≤ l
        · rw [if_pos c]
          rw [Nat.max_eq_left c] at e2
          exact ih (i + 1) h3 _ r1 l _ (by omega) (f2.tr f3.fq) q3 k1.1 (l2.kept f3) (p2.fd g f3) (by rw [k1.2.2]; omega) r1i (by omega) e2
        · rw [if_neg c]
          rw [Nat.max_eq_right (by omega)] at e2
          exact ih (i + 1) h3 _ r1 r1 _ (by omega) (f2.tr f3.fq) q3 k1.1 (l2.kept f3) (p2.fd g f3) (by rw [k1.2.2]; omega) r1i r1i e2
      by_cases e : knAll (day1 0 false false T) ≤ knAll T
      · rw [if_pos e]
        exact step (r + 1) (by rw [if_pos (by omega)])
      · rw [if_neg e]
        exact step 0 (by rw [if_neg (by omega)])
  simp only [s245_4, s245_5, s245_6, s245_7, s245_8, s245_9, oB_some, cl2_i, cl2_r, cl2_l, cl2_u, cl2_s, wd_0, wd_i, wd_r, wd_l, wd_f, ct_i, ct_r, ct_n, ct_f, rf_s, rf_n, tl_s, tl_n, true_and, and_true, eq_self, and_self, Nat.reduceAdd, Nat.reduceLeDiff, Nat.zero_le, Nat.reduceEqDiff, or_true, true_or, false_or, or_false, if_true, if_false, gI_0, gI_1, gI_2, gI_3, gI_4, gI_5, gI_6, gI_7, gI_8, gI_9, gI_10, gI_11, gI_12, gI_13, gI_14, gI_15, gL_0, gL_1, gL_2, gL_3, gL_4, gL_5, gL_6, gL_7, gL_8, gL_9, gL_10, gL_11, gL_12, gL_13, gL_14, gL_15, gA_0, gA_1, gA_2, gA_3, gA_4, gA_5, gA_6, gA_7, gA_8, gA_9, gA_10, gA_11, gA_12, gA_13, gA_14, gA_15, p1_0, p1_1, p1_2, p1_3, p1_4, p1_5, p1_6, p1_7, p1_8, p1_9, p1_10, p1_11, p1_12, p1_13, p1_14, p1_15, p2_0, p2_1, p2_2, p2_3, p2_4, p2_5, p2_6, p2_7, p2_8, p2_9, p2_10, p2_11, p2_12, p2_13, p2_14, p2_15, b01_ok, b_ft, b_tf, b01_e0, b01_e1, lgc_0, not_true_eq_false, not_false_eq_true]
  exact loop 60 0 h1 S 0 0 _ (by omega) f1 q1 g l1 p1 (by omega) (Nat.le_refl _) (Nat.le_refl _) rfl
theorem m_forgets20 {d : Nat} {Q : PQ} {h : HP} {m : Nat} {S : VS} (K0 : MK h m) (g : Good S) (p : KP h m 2 S)
    (k : ∀ h', FQ m h h' → RM h' m S → FMl h' m 0 false false → hI h' m 20 = hI h m 20 → Q none h') : Ev (d + 3) 149 [.ref m] h Q := by
  have K := K0
  unfold MK at K
  simp only [e149, s149_0, s149_1, s149_2, s149_3, oB_some, cl2_i, cl2_r, cl2_l, cl2_u, cl2_s, wd_0, wd_i, wd_r, wd_l, wd_f, ct_i, ct_r, ct_n, ct_f, rf_s, rf_n, tl_s, tl_n, true_and, and_true, eq_self, and_self, Nat.reduceAdd, Nat.reduceLeDiff, Nat.zero_le, Nat.reduceEqDiff, or_true, true_or, false_or, or_false, if_true, if_false, gI_0, gI_1, gI_2, gI_3, gI_4, gI_5, gI_6, gI_7, gI_8, gI_9, gI_10, gI_11, gI_12, gI_13, gI_14, gI_15, gL_0, gL_1, gL_2, gL_3, gL_4, gL_5, gL_6, gL_7, gL_8, gL_9, gL_10, gL_11, gL_12, gL_13, gL_14, gL_15, gA_0, gA_1, gA_2, gA_3, gA_4, gA_5, gA_6, gA_7, gA_8, gA_9, gA_10, gA_11, gA_12, gA_13, gA_14, gA_15, p1_0, p1_1, p1_2, p1_3, p1_4, p1_5, p1_6, p1_7, p1_8, p1_9, p1_10, p1_11, p1_12, p1_13, p1_14, p1_15, p2_0, p2_1, p2_2, p2_3, p2_4, p2_5, p2_6, p2_7, p2_8, p2_9, p2_10, p2_11, p2_12, p2_13, p2_14, p2_15, b01_ok, b_ft, b_tf, b01_e0, b01_e1, lgc_0, not_true_eq_false, not_false_eq_true, K]
  refine m_allR (w := 2) K0 (by decide) fun h1 G => ?_
  have q1 := PR.rm K0 p g G
  have K1 := q1.k
  unfold MK at K1
  simp only [s149_6, s149_7, s149_8, s149_11, s149_12, s149_13, s149_16, s149_17, s149_18, s149_21, oB_some, cl2_i, cl2_r, cl2_l, cl2_u, cl2_s, wd_0, wd_i, wd_r, wd_l, wd_f, ct_i, ct_r, ct_n, ct_f, rf_s, rf_n, tl_s, tl_n, true_and, and_true, eq_self, and_self, Nat.reduceAdd, Nat.reduceLeDiff, Nat.zero_le, Nat.reduceEqDiff, or_true, true_or, false_or, or_false, if_true, if_false, gI_0, gI_1, gI_2, gI_3, gI_4, gI_5, gI_6, gI_7, gI_8, gI_9, gI_10, gI_11, gI_12, gI_13, gI_14, gI_15, gL_0, gL_1, gL_2, gL_3, gL_4, gL_5, gL_6, gL_7, gL_8, gL_9, gL_10, gL_11, gL_12, gL_13, gL_14, gL_15, gA_0, gA_1, gA_2, gA_3, gA_4, gA_5, gA_6, gA_7, gA_8, gA_9, gA_10, gA_11, gA_12, gA_13, gA_14, gA_15, p1_0, p1_1, p1_2, p1_3, p1_4, p1_5, p1_6, p1_7, p1_8, p1_9, p1_10, p1_11, p1_12, p1_13, p1_14, p1_15, p2_0, p2_1, p2_2, p2_3, p2_4, p2_5, p2_6, p2_7, p2_8, p2_9, p2_10, p2_11, p2_12, p2_13, p2_14, p2_15, b01_ok, b_ft, b_tf, b01_e0, b01_e1, lgc_0, not_true_eq_false, not_false_eq_true, z_hkd_sI, z_hln_sI, z_hL_sI, z_hR_sI, z_hnx_sI, z_hkd_sL, z_hln_sL, z_hI_sL, z_hR_sL, z_hnx_sL, z_hkd_sR, z_hln_sR, z_hI_sR, z_hL_sR, z_hnx_sR, z_hkd_cI, z_hln_cI, z_hL_cI, z_hR_cI, z_hnx_cI, z_hkd_cLg, z_hln_cLg, z_hI_cLg, z_hR_cLg, z_hnx_cLg, K1]
  refine k _ (((G.fq.sI (Or.inl ⟨rfl, by omega⟩)).sI (Or.inl ⟨rfl, by omega⟩)).sI (Or.inl ⟨rfl, by omega⟩)) (RM_i (RM_i (RM_i q1 (by decide)) (by decide)) (by decide)) ?_ ?_
  · unfold FMl
    refine ⟨?_, ?_, ?_⟩
    · rw [hI_sI, if_neg (by omega), hI_sI, if_neg (by omega), hI_sI, if_pos ⟨rfl, rfl⟩]; rfl
    · rw [hI_sI, if_pos ⟨rfl, rfl⟩]; rfl
    · rw [hI_sI, if_neg (by omega), hI_sI, if_pos ⟨rfl, rfl⟩]; rfl
  · rw [hI_sI, if_neg (by omega), hI_sI, if_neg (by omega), hI_sI, if_neg (by omega)]
    exact G.2.2.2.1 20 (by decide) (by decide) (by decide) (by decide)
set_option maxHeartbeats 8000000 in
theorem m_spoiltNow {d : Nat} {Q : PQ} {h : HP} {m : Nat} {S : VS} (M : MO h m S) (g : Good S)
    (k : ∀ h', FQ m h h' → MO h' m S → Q (some (.int (nI (spoilV false false (vb S) S)))) h') : Ev (d + 6) 244 [.ref m] h Q := by
  have K := M.1.k
  unfold MK at K
  have gl := g.l
  simp only [e244, s244_0, s244_1, oB_some, cl2_i, cl2_r, cl2_l, cl2_u, cl2_s, wd_0, wd_i, wd_r, wd_l, wd_f, ct_i, ct_r, ct_n, ct_f, rf_s, rf_n, tl_s, tl_n, true_and, and_true, eq_self, and_self, Nat.reduceAdd, Nat.reduceLeDiff, Nat.zero_le, Nat.reduceEqDiff, or_true, true_or, false_or, or_false, if_true, if_false, gI_0, gI_1, gI_2, gI_3, gI_4, gI_5, gI_6, gI_7, gI_8, gI_9, gI_10, gI_11, gI_12, gI_13, gI_14, gI_15, gL_0, gL_1, gL_2, gL_3, gL_4, gL_5, gL_6, gL_7, gL_8, gL_9, gL_10, gL_11, gL_12, gL_13, gL_14, gL_15, gA_0, gA_1, gA_2, gA_3, gA_4, gA_5, gA_6, gA_7, gA_8, gA_9, gA_10, gA_11, gA_12, gA_13, gA_14, gA_15, p1_0, p1_1, p1_2, p1_3, p1_4, p1_5, p1_6, p1_7, p1_8, p1_9, p1_10, p1_11, p1_12, p1_13, p1_14, p1_15, p2_0, p2_1, p2_2, p2_3, p2_4, p2_5, p2_6, p2_7, p2_8, p2_9, p2_10, p2_11, p2_12, p2_13, p2_14, p2_15, b01_ok, b_ft, b_tf, b01_e0, b01_e1, lgc_0, not_true_eq_false, not_false_eq_true, K]
  refine m_minds M.1 g M.2 fun h1 f1 q1 l1 p1 => ?_
  have loop : ∀ (n i c : Nat) (h2 : HP) (T : VS), i + n = (vb S).length → vb T = vb S → FQ m h h2 → RM h2 m T → Good T → FMl h2 m 0 false false → KP h2 m 2 S → hI h2 m 20 = nI c → c + spoilV false false ((vb S).drop i) T = spoilV false false (vb S) S →
      WP (d + 5) 244 Q (11, [.val (.ref m), .val (.int (nI i))], [], h2, 0, 0) := by
    intro n
    induction n with
    | zero =>
      intro i c h2 T hi eb f2 q2 g2 l2 p2 c2 e2
      obtain rfl : i = (vb S).length := by omega
      have K2 := q2.k
      unfold MK at K2
      have n2 := q2.m
      rw [eb] at n2
      rw [List.drop_length] at e2
      have e3 : c = spoilV false false (vb S) S := e2
      rw [s244_11]
      simp only [s244_12, s244_13, s244_16, s244_19, s244_20, s244_21, s244_24, s244_27, s244_30, s244_31, oB_some, cl2_i, cl2_r, cl2_l, cl2_u, cl2_s, wd_0, wd_i, wd_r, wd_l, wd_f, ct_i, ct_r, ct_n, ct_f, rf_s, rf_n, tl_s, tl_n, true_and, and_true, eq_self, and_self, Nat.reduceAdd, Nat.reduceLeDiff, Nat.zero_le, Nat.reduceEqDiff, or_true, true_or, false_or, or_false, if_true, if_false, gI_0, gI_1, gI_2, gI_3, gI_4, gI_5, gI_6, gI_7, gI_8, gI_9, gI_10, gI_11, gI_12, gI_13, gI_14, gI_15, gL_0, gL_1, gL_2, gL_3, gL_4, gL_5, gL_6, gL_7, gL_8, gL_9, gL_10, gL_11, gL_12, gL_13, gL_14, gL_15, gA_0, gA_1, gA_2, gA_3, gA_4, gA_5, gA_6, gA_7, gA_8, gA_9, gA_10, gA_11, gA_12, gA_13, gA_14, gA_15, p1_0, p1_1, p1_2, p1_3, p1_4, p1_5, p1_6, p1_7, p1_8, p1_9, p1_10, p1_11, p1_12, p1_13, p1_14, p1_15, p2_0, p2_1, p2_2, p2_3, p2_4, p2_5, p2_6, p2_7, p2_8, p2_9, p2_10, p2_11, p2_12, p2_13, p2_14, p2_15, b01_ok, b_ft, b_tf, b01_e0, b01_e1, lgc_0, not_true_eq_false, not_false_eq_true, K2, n2, Int32.le_refl]
      refine m_forgets20 q2.k g p2 fun h3 f3 q3 l3 s3 => ?_
      have K3 := q3.k
      unfold MK at K3
      simp only [s244_34, s244_35, s244_38, oB_some, cl2_i, cl2_r, cl2_l, cl2_u, cl2_s, wd_0, wd_i, wd_r, wd_l, wd_f, ct_i, ct_r, ct_n, ct_f, rf_s, rf_n, tl_s, tl_n, true_and, and_true, eq_self, and_self, Nat.reduceAdd, Nat.reduceLeDiff, Nat.zero_le, Nat.reduceEqDiff, or_true, true_or, false_or, or_false, if_true, if_false, gI_0, gI_1, gI_2, gI_3, gI_4, gI_5, gI_6, gI_7, gI_8, gI_9, gI_10, gI_11, gI_12, gI_13, gI_14, gI_15, gL_0, gL_1, gL_2, gL_3, gL_4, gL_5, gL_6, gL_7, gL_8, gL_9, gL_10, gL_11, gL_12, gL_13, gL_14, gL_15, gA_0, gA_1, gA_2, gA_3, gA_4, gA_5, gA_6, gA_7, gA_8, gA_9, gA_10, gA_11, gA_12, gA_13, gA_14, gA_15, p1_0, p1_1, p1_2, p1_3, p1_4, p1_5, p1_6, p1_7, p1_8, p1_9, p1_10, p1_11, p1_12, p1_13, p1_14, p1_15, p2_0, p2_1, p2_2, p2_3, p2_4, p2_5, p2_6, p2_7, p2_8, p2_9, p2_10, p2_11, p2_12, p2_13, p2_14, p2_15, b01_ok, b_ft, b_tf, b01_e0, b01_e1, lgc_0, not_true_eq_false, not_false_eq_true, K3, s3, c2, e3]
      exact k h3 (f2.tr f3) ⟨q3, l3⟩
    | succ n ih =>
      intro i c h2 T hi eb f2 q2 g2 l2 p2 c2 e2
      have il : i < (vb S).length := by omega
      have K2 := q2.k
      unfold MK at K2
      have n2 := q2.m
      rw [eb] at n2
      have z : ¬ nI (vb S).length ≤ nI i := nI_ge (by omega) (by omega)
      have hj : (vb T)[i]? = some ((vb S)[i]) := by rw [eb]; exact List.getElem?_eq_getElem il
      rw [s244_11]
      simp only [s244_12, s244_13, s244_16, s244_19, s244_20, s244_21, oB_some, cl2_i, cl2_r, cl2_l, cl2_u, cl2_s, wd_0, wd_i, wd_r, wd_l, wd_f, ct_i, ct_r, ct_n, ct_f, rf_s, rf_n, tl_s, tl_n, true_and, and_true, eq_self, and_self, Nat.reduceAdd, Nat.reduceLeDiff, Nat.zero_le, Nat.reduceEqDiff, or_true, true_or, false_or, or_false, if_true, if_false, gI_0, gI_1, gI_2, gI_3, gI_4, gI_5, gI_6, gI_7, gI_8, gI_9, gI_10, gI_11, gI_12, gI_13, gI_14, gI_15, gL_0, gL_1, gL_2, gL_3, gL_4, gL_5, gL_6, gL_7, gL_8, gL_9, gL_10, gL_11, gL_12, gL_13, gL_14, gL_15, gA_0, gA_1, gA_2, gA_3, gA_4, gA_5, gA_6, gA_7, gA_8, gA_9, gA_10, gA_11, gA_12, gA_13, gA_14, gA_15, p1_0, p1_1, p1_2, p1_3, p1_4, p1_5, p1_6, p1_7, p1_8, p1_9, p1_10, p1_11, p1_12, p1_13, p1_14, p1_15, p2_0, p2_1, p2_2, p2_3, p2_4, p2_5, p2_6, p2_7, p2_8, p2_9, p2_10, p2_11, p2_12, p2_13, p2_14, p2_15, b01_ok, b_ft, b_tf, b01_e0, b01_e1, lgc_0, not_true_eq_false, not_false_eq_true, K2, n2, z]
      refine m_hasLetter q2 g2 l2 hj fun h3 f3 s3 q3 => ?_
      rw [List.drop_eq_getElem_cons il] at e2
      have e3 : c + ((if word1 false false T (vb S)[i] = 0 then 1 else 0) + spoilV false false ((vb S).drop (i + 1)) (had1 false false T (vb S)[i])) = spoilV false false (vb S) S := e2
      have s4 : hI h3 m 20 = nI (c + (if word1 false false T (vb S)[i] = 0 then 1 else 0)) := by
        rw [s3, c2]
        by_cases w : word1 false false T (vb S)[i] = 0
        · rw [decide_eq_true w, if_pos w]
          exact nI_1 c
        · rw [decide_eq_false w, if_neg w]
          exact Int32.add_zero _
      simp only [s244_24, s244_27, oB_some, cl2_i, cl2_r, cl2_l, cl2_u, cl2_s, wd_0, wd_i, wd_r, wd_l, wd_f, ct_i, ct_r, ct_n, ct_f, rf_s, rf_n, tl_s, tl_n, true_and, and_true, eq_self, and_self, Nat.reduceAdd, Nat.reduceLeDiff, Nat.zero_le, Nat.reduceEqDiff, or_true, true_or, false_or, or_false, if_true, if_false, gI_0, gI_1, gI_2, gI_3, gI_4, gI_5, gI_6, gI_7, gI_8, gI_9, gI_10, gI_11, gI_12, gI_13, gI_14, gI_15, gL_0, gL_1, gL_2, gL_3, gL_4, gL_5, gL_6, gL_7, gL_8, gL_9, gL_10, gL_11, gL_12, gL_13, gL_14, gL_15, gA_0, gA_1, gA_2, gA_3, gA_4, gA_5, gA_6, gA_7, gA_8, gA_9, gA_10, gA_11, gA_12, gA_13, gA_14, gA_15, p1_0, p1_1, p1_2, p1_3, p1_4, p1_5, p1_6, p1_7, p1_8, p1_9, p1_10, p1_11, p1_12, p1_13, p1_14, p1_15, p2_0, p2_1, p2_2, p2_3, p2_4, p2_5, p2_6, p2_7, p2_8, p2_9, p2_10, p2_11, p2_12, p2_13, p2_14, p2_15, b01_ok, b_ft, b_tf, b01_e0, b01_e1, lgc_0, not_true_eq_false, not_false_eq_true, nI_1]
      exact ih (i + 1) _ h3 _ (by omega) (had1_vb.trans eb) (f2.tr f3.fq) q3 (had1_good g2 (g2.b (List.mem_of_getElem? hj))) (l2.kept f3) (p2.fd g f3) s4 (by omega)
  have K1 := q1.k
  unfold MK at K1
  simp only [s244_4, s244_5, s244_6, s244_9, s244_10, oB_some, cl2_i, cl2_r, cl2_l, cl2_u, cl2_s, wd_0, wd_i, wd_r, wd_l, wd_f, ct_i, ct_r, ct_n, ct_f, rf_s, rf_n, tl_s, tl_n, true_and, and_true, eq_self, and_self, Nat.reduceAdd, Nat.reduceLeDiff, Nat.zero_le, Nat.reduceEqDiff, or_true, true_or, false_or, or_false, if_true, if_false, gI_0, gI_1, gI_2, gI_3, gI_4, gI_5, gI_6, gI_7, gI_8, gI_9, gI_10, gI_11, gI_12, gI_13, gI_14, gI_15, gL_0, gL_1, gL_2, gL_3, gL_4, gL_5, gL_6, gL_7, gL_8, gL_9, gL_10, gL_11, gL_12, gL_13, gL_14, gL_15, gA_0, gA_1, gA_2, gA_3, gA_4, gA_5, gA_6, gA_7, gA_8, gA_9, gA_10, gA_11, gA_12, gA_13, gA_14, gA_15, p1_0, p1_1, p1_2, p1_3, p1_4, p1_5, p1_6, p1_7, p1_8, p1_9, p1_10, p1_11, p1_12, p1_13, p1_14, p1_15, p2_0, p2_1, p2_2, p2_3, p2_4, p2_5, p2_6, p2_7, p2_8, p2_9, p2_10, p2_11, p2_12, p2_13, p2_14, p2_15, b01_ok, b_ft, b_tf, b01_e0, b01_e1, lgc_0, not_true_eq_false, not_false_eq_true, z_hkd_sI, z_hln_sI, z_hL_sI, z_hR_sI, z_hnx_sI, z_hkd_sL, z_hln_sL, z_hI_sL, z_hR_sL, z_hnx_sL, z_hkd_sR, z_hln_sR, z_hI_sR, z_hL_sR, z_hnx_sR, z_hkd_cI, z_hln_cI, z_hL_cI, z_hR_cI, z_hnx_cI, z_hkd_cLg, z_hln_cLg, z_hI_cLg, z_hR_cLg, z_hnx_cLg, K1]
  refine loop (vb S).length 0 0 (sI h1 m 20 0) S (by omega) rfl (f1.sI (Or.inl ⟨rfl, by omega⟩)) (RM_i q1 (by decide)) g (l1.w (Or.inr (by decide))) (p1.w g (by omega)) (by rw [hI_sI, if_pos ⟨rfl, rfl⟩]; rfl) (by rw [List.drop_zero, Nat.zero_add])

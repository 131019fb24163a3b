-- needs: 16.num 17.small 20.spec
theorem hI_sI_ne {h : HP} {a b k : Nat} {x : Int32} (hn : b ≠ a) : hI (sI h a k x) b = hI h b := by funext j; rw [hI_sI, if_neg (fun z => hn z.1)]
theorem hI_sI_eq {h : HP} {a k : Nat} {x : Int32} : hI (sI h a k x) a = va_up (hI h a) k x := by
  funext j
  rw [hI_sI]
  unfold va_up
  by_cases hj : j = k <;> simp [hj]
theorem hL_sL_ne {h : HP} {a b k : Nat} {x : Int64} (hn : b ≠ a) : hL (sL h a k x) b = hL h b := by funext j; rw [hL_sL, if_neg (fun z => hn z.1)]
theorem hL_sL_eq {h : HP} {a k : Nat} {x : Int64} : hL (sL h a k x) a = va_up (hL h a) k x := by
  funext j
  rw [hL_sL]
  unfold va_up
  by_cases hj : j = k <;> simp [hj]
theorem up_at {α : Type} {f : Nat → α} {k : Nat} {x : α} : va_up f k x k = x := if_pos rfl
theorem up_ne {α : Type} {f : Nat → α} {k j : Nat} {x : α} (hn : j ≠ k) : va_up f k x j = f j := if_neg hn
/-- nothing but the cells from lo on, n of them, has other contents -/
def Fm (lo n : Nat) (h h' : HP) : Prop := (∀ b, (b < lo ∨ lo + n ≤ b) → hI h' b = hI h b ∧ hL h' b = hL h b) ∧ hkd h' = hkd h ∧ hln h' = hln h ∧ hR h' = hR h ∧ hnx h' = hnx h
theorem Fm.rf {lo n : Nat} {h : HP} : Fm lo n h h := ⟨fun _ _ => ⟨rfl, rfl⟩, rfl, rfl, rfl, rfl⟩
theorem Fm.tr {lo n : Nat} {h h1 h2 : HP} (a : Fm lo n h h1) (b : Fm lo n h1 h2) : Fm lo n h h2 := ⟨fun q hq => ⟨(b.1 q hq).1.trans (a.1 q hq).1, (b.1 q hq).2.trans (a.1 q hq).2⟩, b.2.1.trans a.2.1, b.2.2.1.trans a.2.2.1, b.2.2.2.1.trans a.2.2.2.1, b.2.2.2.2.trans a.2.2.2.2⟩
theorem Fm.sI {lo n a k : Nat} {x : Int32} {h h1 : HP} (f : Fm lo n h h1) (h1a : lo ≤ a) (h2a : a < lo + n) : Fm lo n h (sI h1 a k x) := by
  refine ⟨fun q hq => ⟨?_, (f.1 q hq).2⟩, f.2.1, f.2.2.1, f.2.2.2.1, f.2.2.2.2⟩
  rw [hI_sI_ne (by omega)]
  exact (f.1 q hq).1
theorem Fm.sL {lo n a k : Nat} {x : Int64} {h h1 : HP} (f : Fm lo n h h1) (h1a : lo ≤ a) (h2a : a < lo + n) : Fm lo n h (sL h1 a k x) := by
  refine ⟨fun q hq => ⟨(f.1 q hq).1, ?_⟩, f.2.1, f.2.2.1, f.2.2.2.1, f.2.2.2.2⟩
  rw [hL_sL_ne (by omega)]
  exact (f.1 q hq).2
theorem Fm.wide {lo n lo2 n2 : Nat} {h h1 : HP} (f : Fm lo n h h1) (a : lo2 ≤ lo) (b : lo + n ≤ lo2 + n2) : Fm lo2 n2 h h1 := ⟨fun q hq => f.1 q (by omega), f.2⟩
-- the one side's village: its cells lie one behind another
def VK (h : HP) (v : Nat) : Prop :=
  (hkd h v = 14 ∧ hkd h (v + 1) = 2 ∧ hkd h (v + 2) = 2 ∧ hkd h (v + 3) = 2 ∧ hkd h (v + 4) = 3 ∧ hkd h (v + 5) = 3 ∧ hkd h (v + 6) = 10 ∧ hkd h (v + 7) = 2 ∧ hkd h (v + 8) = 2 ∧ hkd h (v + 9) = 2 ∧ hkd h (v + 10) = 2 ∧ hkd h (v + 11) = 3) ∧
  (hln h (v + 1) = 6 ∧ hln h (v + 2) = 6 ∧ hln h (v + 3) = 6 ∧ hln h (v + 4) = 6 ∧ hln h (v + 5) = 6 ∧ hln h (v + 7) = 24 ∧ hln h (v + 8) = 24 ∧ hln h (v + 9) = 24 ∧ hln h (v + 10) = 24 ∧ hln h (v + 11) = 24) ∧
  (hR h v 1 = some (v + 1) ∧ hR h v 2 = some (v + 2) ∧ hR h v 3 = some (v + 3) ∧ hR h v 4 = some (v + 4) ∧ hR h v 5 = some (v + 5) ∧ hR h v 6 = some (v + 6)) ∧
  (hR h (v + 6) 1 = some (v + 7) ∧ hR h (v + 6) 2 = some (v + 8) ∧ hR h (v + 6) 3 = some (v + 9) ∧ hR h (v + 6) 4 = some (v + 10) ∧ hR h (v + 6) 5 = some (v + 11))
def lt5 (h : HP) (g : Nat) (j : Nat) : R5 := (hI h (g + 1) j, hI h (g + 2) j, hI h (g + 3) j, hI h (g + 4) j, hL h (g + 5) j)
def RVr (h : HP) (v : Nat) (S : VS) : Prop := Rep (hI h v 0) (hI h (v + 1)) (hI h (v + 2)) (hI h (v + 3)) (hL h (v + 4)) (hL h (v + 5)) (hI h (v + 6) 0) (lt5 h (v + 6)) (hL h v 7) (hL h v 8) (hI h v 9) (hI h v 10) (hI h v 11) (hI h v 12) S
def RV (h : HP) (v : Nat) (S : VS) : Prop := VK h v ∧ RVr h v S
def FV (h : HP) (v : Nat) (ink : Nat) (dm sh : Bool) : Prop := hI h v 13 = nI ink ∧ hI h v 14 = b01 dm ∧ hI h v 15 = b01 sh
theorem VK.kept {h h' : HP} {v : Nat} (a : VK h v) (k1 : hkd h' = hkd h) (k2 : hln h' = hln h) (k3 : hR h' = hR h) : VK h' v := by
  unfold VK
  rw [k1, k2, k3]
  exact a
theorem lt5_kept {h h' : HP} {g : Nat} (e : ∀ j, 1 ≤ j → j < 6 → hI h' (g + j) = hI h (g + j) ∧ hL h' (g + j) = hL h (g + j)) : lt5 h' g = lt5 h g := by
  funext j
  unfold lt5
  rw [(e 1 (by decide) (by decide)).1, (e 2 (by decide) (by decide)).1, (e 3 (by decide) (by decide)).1, (e 4 (by decide) (by decide)).1, (e 5 (by decide) (by decide)).2]
theorem RV.kept {lo n : Nat} {h h' : HP} {v : Nat} {S : VS} (f : Fm lo n h h') (hd : v + 12 ≤ lo ∨ lo + n ≤ v) (a : RV h v S) : RV h' v S := by
  refine ⟨a.1.kept f.2.1 f.2.2.1 f.2.2.2.1, ?_⟩
  have e : ∀ j, j < 12 → hI h' (v + j) = hI h (v + j) ∧ hL h' (v + j) = hL h (v + j) := fun j hj => f.1 (v + j) (by omega)
  have e0 : hI h' v = hI h v ∧ hL h' v = hL h v := e 0 (by decide)
  have e5 : lt5 h' (v + 6) = lt5 h (v + 6) := lt5_kept fun j h1 h2 => by
    rw [Nat.add_assoc]
    exact e (6 + j) (by omega)
  unfold RVr
  rw [e0.1, e0.2, (e 1 (by decide)).1, (e 2 (by decide)).1, (e 3 (by decide)).1, (e 4 (by decide)).2, (e 5 (by decide)).2, (e 6 (by decide)).1, e5]
  exact a.2
theorem FV.kept {lo n : Nat} {h h' : HP} {v ink : Nat} {dm sh : Bool} (f : Fm lo n h h') (hd : v < lo ∨ lo + n ≤ v) (a : FV h v ink dm sh) : FV h' v ink dm sh := by
  unfold FV
  rw [(f.1 v hd).1]
  exact a
theorem lt5_sI {h : HP} {g a k : Nat} {x : Int32} (hn : a < g + 1 ∨ g + 5 ≤ a) : lt5 (sI h a k x) g = lt5 h g := by
  funext j
  unfold lt5
  rw [hI_sI_ne (by omega), hI_sI_ne (by omega), hI_sI_ne (by omega), hI_sI_ne (by omega)]
  rfl
theorem lt5_sL {h : HP} {g a k : Nat} {x : Int64} (hn : ¬ g + 5 = a) : lt5 (sL h a k x) g = lt5 h g := by
  funext j
  unfold lt5
  rw [hL_sL_ne hn]
  rfl
theorem RV_y {h : HP} {v : Nat} {S : VS} (q : RV h v S) (a : Nat) : RV (sI h v 12 (nI a)) v (wY S a) := by
  obtain ⟨k, r1, r2, r3, r4, r5, r6, r7, r8, r9, r10⟩ := q
  refine ⟨k, ?_⟩
  unfold RVr
  rw [lt5_sI (by omega)]
  simp [hI_sI_ne, hI_sI_eq, hL_sI, up_at, up_ne]
  exact ⟨r1, r2, r3, r4, r5, r6, r7, r8, r9, rfl⟩
theorem RV_d {h : HP} {v : Nat} {S : VS} (q : RV h v S) (a : Nat) : RV (sI h v 10 (nI a)) v (wD S a) := by
  obtain ⟨k, r1, r2, r3, r4, r5, r6, r7, r8, r9, r10⟩ := q
  refine ⟨k, ?_⟩
  unfold RVr
  rw [lt5_sI (by omega)]
  simp [hI_sI_ne, hI_sI_eq, hL_sI, up_at, up_ne]
  exact ⟨r1, r2, r3, r4, r5, r6, r7, rfl, r9, r10⟩
theorem RV_t {h : HP} {v : Nat} {S : VS} (q : RV h v S) (a : Nat) : RV (sI h v 11 (nI a)) v (wT S a) := by
  obtain ⟨k, r1, r2, r3, r4, r5, r6, r7, r8, r9, r10⟩ := q
  refine ⟨k, ?_⟩
  unfold RVr
  rw [lt5_sI (by omega)]
  simp [hI_sI_ne, hI_sI_eq, hL_sI, up_at, up_ne]
  exact ⟨r1, r2, r3, r4, r5, r6, r7, r8, rfl, r10⟩
theorem RV_u {h : HP} {v : Nat} {S : VS} (q : RV h v S) (a : Nat) : RV (sI h v 9 (nI a)) v (wU S a) := by
  obtain ⟨k, r1, r2, r3, r4, r5, r6, r7, r8, r9, r10⟩ := q
  refine ⟨k, ?_⟩
  unfold RVr
  rw [lt5_sI (by omega)]
  simp [hI_sI_ne, hI_sI_eq, hL_sI, up_at, up_ne]
  exact ⟨r1, r2, r3, r4, r5, r6, rfl, r8, r9, r10⟩
theorem RV_s {h : HP} {v : Nat} {S : VS} (q : RV h v S) (a : Int64) : RV (sL h v 7 a) v (wS S a) := by
  obtain ⟨k, r1, r2, r3, r4, r5, r6, r7, r8, r9, r10⟩ := q
  refine ⟨k, ?_⟩
  unfold RVr
  rw [lt5_sL (by omega)]
  simp [hL_sL_ne, hL_sL_eq, hI_sL, up_at, up_ne]
  exact ⟨r1, r2, r3, r4, rfl, r6, r7, r8, r9, r10⟩
theorem RV_o {h : HP} {v : Nat} {S : VS} (q : RV h v S) (a : Int64) : RV (sL h v 8 a) v (wO S a) := by
  obtain ⟨k, r1, r2, r3, r4, r5, r6, r7, r8, r9, r10⟩ := q
  refine ⟨k, ?_⟩
  unfold RVr
  rw [lt5_sL (by omega)]
  simp [hL_sL_ne, hL_sL_eq, hI_sL, up_at, up_ne]
  exact ⟨r1, r2, r3, r4, r5, rfl, r7, r8, r9, r10⟩
theorem RV_w {h : HP} {v : Nat} {S : VS} (q : RV h v S) (i : Nat) (a : Int64) : RV (sL h (v + 4) i a) v (wW S i a) := by
  obtain ⟨k, r1, r2, r3, r4, r5, r6, r7, r8, r9, r10⟩ := q
  refine ⟨k, ?_⟩
  unfold RVr
  rw [lt5_sL (by omega)]
  simp [hL_sL_ne, hL_sL_eq, hI_sL]
  refine ⟨r1, fun j hj => ?_, r3, r4, r5, r6, r7, r8, r9, r10⟩
  obtain ⟨a1, a2, a3, a4, a5⟩ := r2 j hj
  refine ⟨a1, a2, a3, ?_, a5⟩
  show va_up _ i a j = va_up _ i a j
  unfold va_up
  split
  · rfl
  · assumption
theorem RV_x {h : HP} {v : Nat} {S : VS} (q : RV h v S) (i : Nat) (a : Int64) : RV (sL h (v + 5) i a) v (wX S i a) := by
  obtain ⟨k, r1, r2, r3, r4, r5, r6, r7, r8, r9, r10⟩ := q
  refine ⟨k, ?_⟩
  unfold RVr
  rw [lt5_sL (by omega)]
  simp [hL_sL_ne, hL_sL_eq, hI_sL]
  refine ⟨r1, fun j hj => ?_, r3, r4, r5, r6, r7, r8, r9, r10⟩
  obtain ⟨a1, a2, a3, a4, a5⟩ := r2 j hj
  refine ⟨a1, a2, a3, a4, ?_⟩
  show va_up _ i a j = va_up _ i a j
  unfold va_up
  split
  · rfl
  · assumption
theorem RV_r {h : HP} {v : Nat} {S : VS} (q : RV h v S) (i : Nat) (a : Nat) : RV (sI h (v + 3) i (nI a)) v (wR S i a) := by
  obtain ⟨k, r1, r2, r3, r4, r5, r6, r7, r8, r9, r10⟩ := q
  refine ⟨k, ?_⟩
  unfold RVr
  rw [lt5_sI (by omega)]
  simp [hI_sI_ne, hI_sI_eq, hL_sI]
  refine ⟨r1, fun j hj => ?_, r3, r4, r5, r6, r7, r8, r9, r10⟩
  obtain ⟨a1, a2, a3, a4, a5⟩ := r2 j hj
  refine ⟨a1, a2, ?_, a4, a5⟩
  show va_up _ i (nI a) j = nI (va_up _ i a j)
  unfold va_up
  split
  · rfl
  · exact a3
/-- another bag -/
theorem RV_b {h h' : HP} {v : Nat} {S : VS} (q : RV h v S) (f : Fm (v + 6) 6 h h') {b : List Ltr} (hn : hI h' (v + 6) 0 = nI b.length) (hb : RL5 (lt5 h' (v + 6)) b) : RV h' v (wB S b) := by
  obtain ⟨k, r1, r2, r3, r4, r5, r6, r7, r8, r9, r10⟩ := q
  refine ⟨k.kept f.2.1 f.2.2.1 f.2.2.2.1, ?_⟩
  have e : ∀ j, j < 6 → hI h' (v + j) = hI h (v + j) ∧ hL h' (v + j) = hL h (v + j) := fun j hj => f.1 (v + j) (by omega)
  have e0 : hI h' v = hI h v ∧ hL h' v = hL h v := e 0 (by decide)
  unfold RVr
  rw [e0.1, e0.2, (e 1 (by decide)).1, (e 2 (by decide)).1, (e 3 (by decide)).1, (e 4 (by decide)).2, (e 5 (by decide)).2]
  exact ⟨r1, r2, hn, hb, r5, r6, r7, r8, r9, r10⟩

-- the other side's keeping of all there is, in its rows kept and keptSets
def pI (m j : Nat) : Nat × Nat := if j < 6 then (m + 2, j) else if j < 12 then (m + 3, j - 6) else if j < 18 then (m + 4, j - 12) else if j < 42 then (m + 5, j - 18) else if j < 66 then (m + 6, j - 42) else if j < 90 then (m + 7, j - 66) else if j < 114 then (m + 8, j - 90) else (m, j - 103)
def pIc (m : Nat) (x : Nat × Nat) : Nat := if x.1 = m + 2 then x.2 else if x.1 = m + 3 then x.2 + 6 else if x.1 = m + 4 then x.2 + 12 else if x.1 = m + 5 then x.2 + 18 else if x.1 = m + 6 then x.2 + 42 else if x.1 = m + 7 then x.2 + 66 else if x.1 = m + 8 then x.2 + 90 else x.2 + 103
def pL (m j : Nat) : Nat × Nat := if j < 6 then (m + 9, j) else if j < 12 then (m + 10, j - 6) else if j < 36 then (m + 11, j - 12) else (m, j - 19)
def pLc (m : Nat) (x : Nat × Nat) : Nat := if x.1 = m + 9 then x.2 else if x.1 = m + 10 then x.2 + 6 else if x.1 = m + 11 then x.2 + 12 else x.2 + 19
theorem pIc_pI {m j : Nat} (h : j < 120) : pIc m (pI m j) = j := by
  unfold pI
  repeat' split
  all_goals simp [pIc]
  all_goals omega
theorem pLc_pL {m j : Nat} (h : j < 38) : pLc m (pL m j) = j := by
  unfold pL
  repeat' split
  all_goals simp [pLc]
  all_goals omega
theorem pI_in {m j : Nat} (h : j < 120) : (m + 2 ≤ (pI m j).1 ∧ (pI m j).1 ≤ m + 8) ∨ ((pI m j).1 = m ∧ 11 ≤ (pI m j).2 ∧ (pI m j).2 ≤ 16) := by
  unfold pI
  repeat' split
  all_goals dsimp only
  all_goals omega
theorem pL_in {m j : Nat} (h : j < 38) : (m + 9 ≤ (pL m j).1 ∧ (pL m j).1 ≤ m + 11) ∨ ((pL m j).1 = m ∧ 17 ≤ (pL m j).2 ∧ (pL m j).2 ≤ 18) := by
  unfold pL
  repeat' split
  all_goals dsimp only
  all_goals omega
def gF (h : HP) (m j : Nat) : Int32 := hI h (pI m j).1 (pI m j).2
def gG (h : HP) (m j : Nat) : Int64 := hL h (pL m j).1 (pL m j).2
def Sm4 (h0 h : HP) : Prop := hkd h = hkd h0 ∧ hln h = hln h0 ∧ hR h = hR h0 ∧ hnx h = hnx h0
theorem sI_self {h : HP} {a k : Nat} {x : Int32} (e : hI h a k = x) : sI h a k x = h := by
  have : (fun b j => if b = a ∧ j = k then x else hI h b j) = hI h := by
    funext b j
    split
    · rename_i z
      rw [z.1, z.2, e]
    · rfl
  unfold sI
  rw [this]
  rfl
theorem sL_self {h : HP} {a k : Nat} {x : Int64} (e : hL h a k = x) : sL h a k x = h := by
  have : (fun b j => if b = a ∧ j = k then x else hL h b j) = hL h := by
    funext b j
    split
    · rename_i z
      rw [z.1, z.2, e]
    · rfl
  unfold sL
  rw [this]
  rfl
theorem sI_comm {h : HP} {a k b j : Nat} {x y : Int32} (hn : ¬ (a = b ∧ k = j)) : sI (sI h a k x) b j y = sI (sI h b j y) a k x := by
  have : (fun q i => if q = b ∧ i = j then y else hI (sI h a k x) q i) = (fun q i => if q = a ∧ i = k then x else hI (sI h b j y) q i) := by
    funext q i
    rw [hI_sI, hI_sI]
    by_cases z1 : q = b ∧ i = j
    · rw [if_pos z1, if_pos z1, if_neg (fun c => hn ⟨c.1.symm.trans z1.1, c.2.symm.trans z1.2⟩)]
    · rw [if_neg z1, if_neg z1]
  unfold sI at this ⊢
  rw [this]
theorem sIL_comm {h : HP} {a k b j : Nat} {x : Int32} {y : Int64} : sL (sI h a k x) b j y = sI (sL h b j y) a k x := rfl
/-- so far kept: p numbers, l sets -/
def PK (m w p l : Nat) (h0 h : HP) : Prop :=
  Sm4 h0 h ∧ (hI h m 34 = 1 ∧ hI h m 35 = nI (120 * w + p) ∧ hI h m 36 = nI (38 * w + l)) ∧ (∀ b, ¬ b = m + 16 → ¬ b = m → hI h b = hI h0 b) ∧ (∀ k, ¬ k = 34 → ¬ k = 35 → ¬ k = 36 → hI h m k = hI h0 m k) ∧ (∀ b, ¬ b = m + 17 → hL h b = hL h0 b) ∧
  (∀ j, hI h (m + 16) j = if 120 * w ≤ j ∧ j < 120 * w + p then gF h0 m (j - 120 * w) else hI h0 (m + 16) j) ∧ (∀ j, hL h (m + 17) j = if 38 * w ≤ j ∧ j < 38 * w + l then gG h0 m (j - 38 * w) else hL h0 (m + 17) j)
/-- so far put back -/
def PR (m w p l : Nat) (h0 h : HP) : Prop :=
  Sm4 h0 h ∧ (hI h m 34 = 0 ∧ hI h m 35 = nI (120 * w + p) ∧ hI h m 36 = nI (38 * w + l)) ∧ (∀ b, (b < m ∨ m + 9 ≤ b ∨ b = m + 1) → hI h b = hI h0 b) ∧ (∀ k, 19 ≤ k → ¬ k = 34 → ¬ k = 35 → ¬ k = 36 → hI h m k = hI h0 m k) ∧ (∀ b, (b < m ∨ m + 12 ≤ b ∨ (m + 1 ≤ b ∧ b < m + 9)) → hL h b = hL h0 b) ∧
  (∀ j, j < p → gF h m j = hI h0 (m + 16) (120 * w + j)) ∧ (∀ j, j < l → gG h m j = hL h0 (m + 17) (38 * w + j))
theorem PK.gf {m w p l j : Nat} {h0 h : HP} (G : PK m w p l h0 h) (hj : j < 120) : gF h m j = gF h0 m j := by
  have a := pI_in (m := m) hj
  unfold gF
  by_cases e : (pI m j).1 = m
  · rw [e]
    exact G.2.2.2.1 _ (by omega) (by omega) (by omega)
  · rw [G.2.2.1 _ (by omega) e]
theorem PK.gg {m w p l j : Nat} {h0 h : HP} (G : PK m w p l h0 h) (hj : j < 38) : gG h m j = gG h0 m j := by
  have a := pL_in (m := m) hj
  unfold gG
  rw [G.2.2.2.2.1 _ (by omega)]
theorem PK.i {m w p l : Nat} {h0 h : HP} (G : PK m w p l h0 h) : PK m w (p + 1) l h0 (sI (sI h (m + 16) (120 * w + p) (gF h0 m p)) m 35 (nI (120 * w + (p + 1)))) := by
  obtain ⟨g1, ⟨g2, g3, g4⟩, g5, g6, g7, g8, g9⟩ := G
  refine ⟨g1, ⟨?_, ?_, ?_⟩, fun b h1 h2 => ?_, fun k h1 h2 h3 => ?_, g7, fun j => ?_, g9⟩
  · rw [hI_sI, if_neg (by omega), hI_sI, if_neg (by omega), g2]
  · rw [hI_sI, if_pos ⟨rfl, rfl⟩]
  · rw [hI_sI, if_neg (by omega), hI_sI, if_neg (by omega), g4]
  · rw [hI_sI_ne h2, hI_sI_ne h1, g5 b h1 h2]
  · rw [hI_sI, if_neg (by omega), hI_sI, if_neg (by omega), g6 k h1 h2 h3]
  · rw [hI_sI, if_neg (by omega), hI_sI]
    by_cases e : j = 120 * w + p
    · rw [if_pos ⟨rfl, e⟩, if_pos (by omega), e, show 120 * w + p - 120 * w = p by omega]
    · rw [if_neg (fun z => e z.2), g8]
      by_cases z : 120 * w ≤ j ∧ j < 120 * w + p
      · rw [if_pos z, if_pos (by omega)]
      · rw [if_neg z, if_neg (by omega)]
theorem PK.l {m w p l : Nat} {h0 h : HP} (G : PK m w p l h0 h) : PK m w p (l + 1) h0 (sI (sL h (m + 17) (38 * w + l) (gG h0 m l)) m 36 (nI (38 * w + (l + 1)))) := by
  obtain ⟨g1, ⟨g2, g3, g4⟩, g5, g6, g7, g8, g9⟩ := G
  refine ⟨g1, ⟨?_, ?_, ?_⟩, fun b h1 h2 => ?_, fun k h1 h2 h3 => ?_, fun b h1 => ?_, fun j => ?_, fun j => ?_⟩
  · rw [hI_sI, if_neg (by omega), hI_sL, g2]
  · rw [hI_sI, if_neg (by omega), hI_sL, g3]
  · rw [hI_sI, if_pos ⟨rfl, rfl⟩]
  · rw [hI_sI_ne h2, hI_sL, g5 b h1 h2]
  · rw [hI_sI, if_neg (by omega), hI_sL, g6 k h1 h2 h3]
  · rw [hL_sI, hL_sL_ne h1, g7 b h1]
  · rw [hI_sI, if_neg (by omega), hI_sL, g8]
  · rw [hL_sI, hL_sL]
    by_cases e : j = 38 * w + l
    · rw [if_pos ⟨rfl, e⟩, if_pos (by omega), e, show 38 * w + l - 38 * w = l by omega]
    · rw [if_neg (fun z => e z.2), g9]
      by_cases z : 38 * w ≤ j ∧ j < 38 * w + l
      · rw [if_pos z, if_pos (by omega)]
      · rw [if_neg z, if_neg (by omega)]
theorem PR.i {m w p l : Nat} {h0 h : HP} (G : PR m w p l h0 h) (hp : p < 120) : PR m w (p + 1) l h0 (sI (sI h (pI m p).1 (pI m p).2 (hI h0 (m + 16) (120 * w + p))) m 35 (nI (120 * w + (p + 1)))) := by
  obtain ⟨g1, ⟨g2, g3, g4⟩, g5, g6, g7, g8, g9⟩ := G
  have a := pI_in (m := m) hp
  refine ⟨g1, ⟨?_, ?_, ?_⟩, fun b h1 => ?_, fun k h1 h2 h3 h4 => ?_, g7, fun j hj => ?_, g9⟩
  · rw [hI_sI, if_neg (by omega), hI_sI, if_neg (by omega), g2]
  · rw [hI_sI, if_pos ⟨rfl, rfl⟩]
  · rw [hI_sI, if_neg (by omega), hI_sI, if_neg (by omega), g4]
  · rw [hI_sI_ne (by omega), hI_sI_ne (by omega), g5 b h1]
  · rw [hI_sI, if_neg (by omega), hI_sI, if_neg (by omega), g6 k h1 h2 h3 h4]
  · have b := pI_in (m := m) (j := j) (by omega)
    unfold gF
    rw [hI_sI, if_neg (by omega), hI_sI]
    by_cases e : (pI m j).1 = (pI m p).1 ∧ (pI m j).2 = (pI m p).2
    · have e2 : pI m j = pI m p := Prod.ext e.1 e.2
      have e3 : j = p := by rw [← pIc_pI (m := m) (j := j) (by omega), e2, pIc_pI hp]
      rw [if_pos e, e3]
    · rw [if_neg e]
      refine g8 j ?_
      have : ¬ j = p := fun z => e (by rw [z]; exact ⟨rfl, rfl⟩)
      omega
theorem PR.l {m w p l : Nat} {h0 h : HP} (G : PR m w p l h0 h) (hp : p ≤ 120) (hl : l < 38) : PR m w p (l + 1) h0 (sI (sL h (pL m l).1 (pL m l).2 (hL h0 (m + 17) (38 * w + l))) m 36 (nI (38 * w + (l + 1)))) := by
  obtain ⟨g1, ⟨g2, g3, g4⟩, g5, g6, g7, g8, g9⟩ := G
  have a := pL_in (m := m) hl
  refine ⟨g1, ⟨?_, ?_, ?_⟩, fun b h1 => ?_, fun k h1 h2 h3 h4 => ?_, fun b h1 => ?_, fun j hj => ?_, fun j hj => ?_⟩
  · rw [hI_sI, if_neg (by omega), hI_sL, g2]
  · rw [hI_sI, if_neg (by omega), hI_sL, g3]
  · rw [hI_sI, if_pos ⟨rfl, rfl⟩]
  · rw [hI_sI_ne (by omega), hI_sL, g5 b h1]
  · rw [hI_sI, if_neg (by omega), hI_sL, g6 k h1 h2 h3 h4]
  · rw [hL_sI, hL_sL_ne (by omega), g7 b h1]
  · have b := g8 j hj
    have c := pI_in (m := m) (j := j) (by omega)
    unfold gF at b ⊢
    rw [hI_sI, if_neg (by omega), hI_sL, b]
  · have b := pL_in (m := m) (j := j) (by omega)
    unfold gG
    rw [hL_sI, hL_sL]
    by_cases e : (pL m j).1 = (pL m l).1 ∧ (pL m j).2 = (pL m l).2
    · have e2 : pL m j = pL m l := Prod.ext e.1 e.2
      have e3 : j = l := by rw [← pLc_pL (m := m) (j := j) (by omega), e2, pLc_pL hl]
      rw [if_pos e, e3]
    · rw [if_neg e]
      refine g9 j ?_
      have : ¬ j = l := fun z => e (by rw [z]; exact ⟨rfl, rfl⟩)
      omega

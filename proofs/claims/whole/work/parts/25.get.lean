-- needs: 16.num 17.small 18.bits 20.spec 21.kinds 22.rep 23.bag 24.bag2
theorem RV.k {h : HP} {v : Nat} {S : VS} (q : RV h v S) : VK h v := q.1
theorem RV.n {h : HP} {v : Nat} {S : VS} (q : RV h v S) : hI h v 0 = nI (vn S) := q.2.1
theorem RV.at {h : HP} {v : Nat} {S : VS} (q : RV h v S) {i : Nat} (hi : i < vn S) : hI h (v + 1) i = nI (vk S i) ∧ hI h (v + 2) i = nI (vf S i) ∧ hI h (v + 3) i = nI (vr S i) ∧ hL h (v + 4) i = vw S i ∧ hL h (v + 5) i = vx S i := q.2.2.1 i hi
theorem RV.m {h : HP} {v : Nat} {S : VS} (q : RV h v S) : hI h (v + 6) 0 = nI (vb S).length := q.2.2.2.1
theorem RV.b {h : HP} {v : Nat} {S : VS} (q : RV h v S) : RL5 (lt5 h (v + 6)) (vb S) := q.2.2.2.2.1
theorem RV.s {h : HP} {v : Nat} {S : VS} (q : RV h v S) : hL h v 7 = vs S := q.2.2.2.2.2.1
theorem RV.o {h : HP} {v : Nat} {S : VS} (q : RV h v S) : hL h v 8 = vo S := q.2.2.2.2.2.2.1
theorem RV.u {h : HP} {v : Nat} {S : VS} (q : RV h v S) : hI h v 9 = nI (vu S) := q.2.2.2.2.2.2.2.1
theorem RV.d {h : HP} {v : Nat} {S : VS} (q : RV h v S) : hI h v 10 = nI (vd S) := q.2.2.2.2.2.2.2.2.1
theorem RV.t {h : HP} {v : Nat} {S : VS} (q : RV h v S) : hI h v 11 = nI (vt S) := q.2.2.2.2.2.2.2.2.2.1
theorem RV.y {h : HP} {v : Nat} {S : VS} (q : RV h v S) : hI h v 12 = nI (vy S) := q.2.2.2.2.2.2.2.2.2.2
theorem Good.n {S : VS} (g : Good S) : vn S ≤ 6 := g.1
theorem Good.at {S : VS} (g : Good S) {i : Nat} (hi : i < vn S) : vk S i < 8 ∧ vf S i < 10 ∧ vr S i < 6 ∧ sm (vw S i) ∧ sm (vx S i) := g.2.1 i hi
theorem Good.l {S : VS} (g : Good S) : (vb S).length ≤ 24 := g.2.2.1
theorem Good.b {S : VS} (g : Good S) {l : Ltr} (hl : l ∈ vb S) : Gl (vn S) l := g.2.2.2.1 l hl
theorem Good.s {S : VS} (g : Good S) : sm (vs S) := g.2.2.2.2.1
theorem Good.o {S : VS} (g : Good S) : sm (vo S) := g.2.2.2.2.2.1
theorem Good.u {S : VS} (g : Good S) : vu S ≤ 18 := g.2.2.2.2.2.2.1
theorem Good.d {S : VS} (g : Good S) : vd S ≤ 999 := g.2.2.2.2.2.2.2.1
theorem Good.t {S : VS} (g : Good S) : vt S ≤ 9999 := g.2.2.2.2.2.2.2.2.1
theorem Good.y {S : VS} (g : Good S) : vy S < 2 ^ 20 := g.2.2.2.2.2.2.2.2.2
/-- the village's j-th letter, its five places -/
theorem RV.lt {h : HP} {v : Nat} {S : VS} (q : RV h v S) {j : Nat} {l : Ltr} (hj : (vb S)[j]? = some l) : hI h (v + 7) j = nI (lF l) ∧ hI h (v + 8) j = nI (lT l) ∧ hI h (v + 9) j = nI (lD l) ∧ hI h (v + 10) j = nI (lP l) ∧ hL h (v + 11) j = lC l := by
  have e := q.b j l hj
  unfold lt5 enc at e
  injection e with e1 e
  injection e with e2 e
  injection e with e3 e
  injection e with e4 e5
  exact ⟨e1, e2, e3, e4, e5⟩
theorem leP {a b : Nat} (ha : a < 2 ^ 31) (hb : b < 2 ^ 31) : (nI a ≤ nI b) = (a ≤ b) := propext (nI_leI ha hb)
theorem ltP {a b : Nat} (ha : a < 2 ^ 31) (hb : b < 2 ^ 31) : (nI a < nI b) = (a < b) := propext (nI_ltI ha hb)
theorem eqP {a b : Nat} (ha : a < 2 ^ 31) (hb : b < 2 ^ 31) : (nI a = nI b) = (a = b) := propext (nI_eq ha hb)
theorem nm1 {n : Nat} (h : n < 2 ^ 31) : ¬ nI n = -1 := fun e => by
  have := nI_pos' h
  rw [e] at this
  exact absurd this (by decide)
theorem sm40 {x : Int64} (h : ∀ k, 40 ≤ k → k < 64 → hb x k = false) : sm x := fun k hk => by
  by_cases z : k < 64
  · exact h k hk z
  · exact hb_big (by omega)
theorem sm_andl {x y : Int64} (h : sm y) : sm (x &&& y) := fun k hk => by rw [hb_and, h k hk, Bool.and_false]
theorem sm_putIn {S : VS} (g : Good S) (t : Nat) : sm (putIn S t) := by
  unfold putIn
  split
  · exact sm_0
  · rename_i k hk
    exact sm_bL (lst_0 hk).1
theorem minN {a b : Nat} (ha : a < 2 ^ 31) (hb : b < 2 ^ 31) : (if nI a < nI b then nI a else nI b) = nI (min b a) := by
  simp only [ltP ha hb]
  by_cases z : a < b
  · rw [if_pos z, Nat.min_eq_right (by omega)]
  · rw [if_neg z, Nat.min_eq_left (by omega)]
theorem b01_e0 (b : Bool) : (b01 b = 0) = (b = false) := propext (b01_0 b)
theorem b01_e1 (b : Bool) : (b01 b = 1) = (b = true) := by cases b <;> simp [b01]
theorem b_ft (b : Bool) : (b = false ∨ b = true) = True := by cases b <;> simp
theorem b_tf (b : Bool) : (b = true ∨ b = false) = True := by cases b <;> simp
theorem oN_some (k : Nat) : oN (some k) = nI k := rfl
theorem oN_none : oN none = -9 := rfl

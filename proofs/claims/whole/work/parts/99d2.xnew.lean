-- the one side as it is made, its two villages
def Eqc (b : Nat) (h h' : HP) : Prop := hkd h' b = hkd h b ∧ hln h' b = hln h b ∧ hI h' b = hI h b ∧ hL h' b = hL h b ∧ hR h' b = hR h b
theorem Eqc.tr {b : Nat} {h h1 h2 : HP} (a : Eqc b h h1) (c : Eqc b h1 h2) : Eqc b h h2 := ⟨c.1.trans a.1, c.2.1.trans a.2.1, c.2.2.1.trans a.2.2.1, c.2.2.2.1.trans a.2.2.2.1, c.2.2.2.2.trans a.2.2.2.2⟩
theorem eqc_snw {b t n : Nat} {h : HP} (hb : b < hnx h) : Eqc b h (snw h t n) := by
  have n1 : ¬ b = hnx h := by omega
  refine ⟨if_neg n1, if_neg n1, ?_, ?_, ?_⟩
  · funext j; exact if_neg n1
  · funext j; exact if_neg n1
  · funext j; exact if_neg n1
theorem eqc_sR {b a k : Nat} {v : Option Nat} {h : HP} (hb : ¬ b = a) : Eqc b h (sR h a k v) := by
  refine ⟨rfl, rfl, rfl, rfl, ?_⟩
  funext j
  rw [hR_sR, if_neg (fun z => hb z.1)]
theorem eqc_bl1 {b v k t n : Nat} {h : HP} (hb : b < hnx h) (hv : ¬ b = v) : Eqc b h (bl1 h v k t n) := (eqc_snw hb).tr (eqc_sR hv)
theorem Old.eqc {b v : Nat} {h h' : HP} (o : Old v h h') (hb : b < v) : Eqc b h h' := o b hb
theorem RV.eqc {h h' : HP} {v : Nat} {S : VS} (a : RV h v S) (e : ∀ b, v ≤ b → b < v + 12 → Eqc b h h') : RV h' v S := a.cells fun b h1 h2 => ⟨(e b h1 h2).1, (e b h1 h2).2.1, (e b h1 h2).2.2.2.2, (e b h1 h2).2.2.1, (e b h1 h2).2.2.2.1⟩
theorem VK.eqc {h h' : HP} {v : Nat} (a : VK h v) (e : ∀ b, v ≤ b → b < v + 12 → Eqc b h h') : VK h' v := a.cells fun b h1 h2 => ⟨(e b h1 h2).1, (e b h1 h2).2.1, (e b h1 h2).2.2.2.2⟩
theorem XQ.eqc {h h' : HP} {x : Nat} {S : VS} (a : XQ h x S) (e : ∀ j, j < 34 → Eqc (x + j) h h') : XQ h' x S := by
  obtain ⟨a1, ⟨b1, b2, b3, b4⟩, c1, d1⟩ := a
  have e0 : Eqc x h h' := e 0 (by decide)
  have ec : ∀ b, x ≤ b → b < x + 34 → Eqc b h h' := fun b h1 h2 => by
    have := e (b - x) (by omega)
    rw [show x + (b - x) = b by omega] at this
    exact this
  refine ⟨?_, ⟨?_, b2.eqc fun b h1 h2 => ec b (by omega) (by omega), b3.eqc fun b h1 h2 => ec b (by omega) (by omega), b4⟩, ?_, ?_⟩
  · unfold XK at a1 ⊢
    rw [e0.1, e0.2.2.2.2, (e 1 (by decide)).1, (e 2 (by decide)).1, (e 3 (by decide)).1, (e 4 (by decide)).1, (e 5 (by decide)).1, (e 6 (by decide)).1, (e 2 (by decide)).2.1, (e 4 (by decide)).2.1, (e 5 (by decide)).2.1, (e 6 (by decide)).2.1, (e 1 (by decide)).2.2.2.2, (e 3 (by decide)).2.2.2.2]
    exact a1
  · rw [(e 19 (by decide)).1, (e 19 (by decide)).2.2.2.2]
    exact b1
  · unfold FYe at c1 ⊢
    rw [(e 19 (by decide)).2.2.2.2, show x + 20 + 12 = x + 32 from rfl, show x + 20 + 13 = x + 33 from rfl, (e 32 (by decide)).1, (e 33 (by decide)).1, (e 32 (by decide)).2.1, (e 33 (by decide)).2.1]
    exact c1
  · unfold FV at d1 ⊢
    rw [(e 7 (by decide)).2.2.1]
    exact d1
set_option maxHeartbeats 4000000 in
theorem xq_new {h9 hB hB2 hC1 hC3 hC4 hC5 hC6 hC7 hD : HP} {x : Nat} (n9 : hnx h9 = x + 7)
    (F : (hkd h9 x = 15 ∧ hkd h9 (x + 1) = 12 ∧ hkd h9 (x + 2) = 4 ∧ hkd h9 (x + 3) = 13 ∧ hkd h9 (x + 4) = 2 ∧ hkd h9 (x + 5) = 2 ∧ hkd h9 (x + 6) = 2) ∧ (hln h9 (x + 2) = 8 ∧ hln h9 (x + 4) = 96 ∧ hln h9 (x + 5) = 12 ∧ hln h9 (x + 6) = 6) ∧
      (hR h9 x 2 = some (x + 1) ∧ hR h9 x 3 = some (x + 3) ∧ hR h9 x 4 = some (x + 5) ∧ hR h9 x 5 = some (x + 6) ∧ hR h9 (x + 1) 0 = some (x + 2) ∧ hR h9 (x + 3) 0 = some (x + 4)))
    (eB : hB = vil (snw h9 14 0) (hnx h9)) (eB2 : hB2 = sR hB x 0 (some (x + 7))) (eC1 : hC1 = snw hB2 11 0) (eC3 : hC3 = vil (snw hC1 14 0) (hnx hC1)) (eC4 : hC4 = sR hC3 (x + 19) 1 (some (x + 20))) (eC5 : hC5 = bl1 hC4 (x + 19) 2 2 4) (eC6 : hC6 = bl1 hC5 (x + 19) 3 2 4) (eC7 : hC7 = sR hC6 (x + 19) 0 (some (x + 7))) (eD : hD = sR hC7 x 1 (some (x + 19))) :
    hnx hD = x + 34 ∧ XQ hD x S0 ∧ (∀ b, b < x + 7 → ¬ b = x → Eqc b h9 hD) ∧ hI hD x = hI h9 x ∧ hR hD x 7 = hR h9 x 7 := by
  obtain ⟨B1, B2, B3, B4, B5⟩ := vnew_f (h := h9)
  rw [← eB, n9] at B1 B2 B3 B4 B5
  have nB2 : hnx hB2 = x + 19 := by rw [eB2]; exact B1
  obtain ⟨C1, C2, C3, C4, C5⟩ := vnew_f (h := hC1)
  have nC1 : hnx hC1 = x + 20 := by rw [eC1, hnx_snw, nB2]
  rw [← eC3, nC1] at C1 C2 C3 C4 C5
  have nC4 : hnx hC4 = x + 32 := by rw [eC4]; exact C1
  have nC5 : hnx hC5 = x + 33 := by rw [eC5, bl1_nx, nC4]
  have nC6 : hnx hC6 = x + 34 := by rw [eC6, bl1_nx, nC5]
  have nD : hnx hD = x + 34 := by rw [eD, eC7]; exact nC6
  -- a cell before the second village, but x and x + 19
  have t1 : ∀ b, b < x + 32 → ¬ b = x → ¬ b = x + 19 → Eqc b hC3 hD := fun b h1 h2 h3 => by
    have a1 : Eqc b hC3 hC4 := by rw [eC4]; exact eqc_sR h3
    have a2 : Eqc b hC4 hC5 := by rw [eC5]; exact eqc_bl1 (by omega) h3
    have a3 : Eqc b hC5 hC6 := by rw [eC6]; exact eqc_bl1 (by omega) h3
    have a4 : Eqc b hC6 hC7 := by rw [eC7]; exact eqc_sR h3
    have a5 : Eqc b hC7 hD := by rw [eD]; exact eqc_sR h2
    exact (((a1.tr a2).tr a3).tr a4).tr a5
  have t2 : ∀ b, b < x + 19 → ¬ b = x → Eqc b hB hC3 := fun b h1 h2 => by
    have a1 : Eqc b hB hB2 := by rw [eB2]; exact eqc_sR h2
    have a2 : Eqc b hB2 hC1 := by rw [eC1]; exact eqc_snw (by omega)
    exact (a1.tr a2).tr (C5.eqc (by omega))
  have t3 : ∀ b, b < x + 7 → ¬ b = x → Eqc b h9 hD := fun b h1 h2 => ((B5.eqc h1).tr (t2 b (by omega) h2)).tr (t1 b (by omega) h2 (by omega))
  -- x itself
  have x1 : hkd hD x = hkd h9 x ∧ hI hD x = hI h9 x ∧ ∀ j, hR hD x j = if j = 1 then some (x + 19) else if j = 0 then some (x + 7) else hR h9 x j := by
    have o1 := B5.eqc (b := x) (by omega)
    have o2 : Eqc x hB2 hC1 := by rw [eC1]; exact eqc_snw (by omega)
    have o3 := C5.eqc (b := x) (by omega)
    have o4 : Eqc x hC3 hC4 := by rw [eC4]; exact eqc_sR (by omega)
    have o5 : Eqc x hC4 hC5 := by rw [eC5]; exact eqc_bl1 (by omega) (by omega)
    have o6 : Eqc x hC5 hC6 := by rw [eC6]; exact eqc_bl1 (by omega) (by omega)
    have o7 : Eqc x hC6 hC7 := by rw [eC7]; exact eqc_sR (by omega)
    have oo := ((((o2.tr o3).tr o4).tr o5).tr o6).tr o7
    refine ⟨?_, ?_, fun j => ?_⟩
    · rw [eD, show hkd (sR hC7 x 1 (some (x + 19))) x = hkd hC7 x from rfl, oo.1, eB2]
      exact o1.1
    · rw [eD, show hI (sR hC7 x 1 (some (x + 19))) x = hI hC7 x from rfl, oo.2.2.1, eB2]
      exact o1.2.2.1
    · rw [eD, hR_sR]
      by_cases z : j = 1
      · rw [if_pos ⟨rfl, z⟩, if_pos z]
      · rw [if_neg (fun y => z y.2), if_neg z, oo.2.2.2.2, eB2, hR_sR]
        by_cases z0 : j = 0
        · rw [if_pos ⟨rfl, z0⟩, if_pos z0]
        · rw [if_neg (fun y => z0 y.2), if_neg z0, o1.2.2.2.2]
  -- x + 19
  have f0 : hkd hC1 (x + 19) = 11 := by rw [eC1]; exact if_pos nB2.symm
  have f1 : hkd hD (x + 19) = 11 := by
    rw [eD, show hkd (sR hC7 x 1 (some (x + 19))) = hkd hC7 from rfl, eC7, show hkd (sR hC6 (x + 19) 0 (some (x + 7))) = hkd hC6 from rfl, eC6, (bl1_old (show x + 19 < hnx hC5 by omega)).1, eC5, (bl1_old (show x + 19 < hnx hC4 by omega)).1, eC4, show hkd (sR hC3 (x + 19) 1 (some (x + 20))) = hkd hC3 from rfl, (C5 (x + 19) (by omega)).1]
    exact f0
  have f2 : ∀ j, hR hD (x + 19) j = if j = 0 then some (x + 7) else if j = 3 then some (x + 33) else if j = 2 then some (x + 32) else if j = 1 then some (x + 20) else hR hC3 (x + 19) j := fun j => by
    rw [eD, hR_sR, if_neg (by omega), eC7, hR_sR]
    by_cases z : j = 0
    · rw [if_pos ⟨rfl, z⟩, if_pos z]
    · rw [if_neg (fun y => z y.2), if_neg z, eC6, bl1_R, nC5]
      by_cases z3 : j = 3
      · rw [if_pos ⟨rfl, z3⟩, if_pos z3]
      · rw [if_neg (fun y => z3 y.2), if_neg z3, if_neg (by omega), eC5, bl1_R, nC4]
        by_cases z2 : j = 2
        · rw [if_pos ⟨rfl, z2⟩, if_pos z2]
        · rw [if_neg (fun y => z2 y.2), if_neg z2, if_neg (by omega), eC4, hR_sR]
          by_cases z1 : j = 1
          · rw [if_pos ⟨rfl, z1⟩, if_pos z1]
          · rw [if_neg (fun y => z1 y.2), if_neg z1]
  have g32 : hkd hD (x + 32) = 2 ∧ hln hD (x + 32) = 4 := by
    have a0 := bl1_new (h := hC4) (v := x + 19) (k := 2) (t := 2) (n := 4)
    rw [nC4, ← eC5] at a0
    have a3 : Eqc (x + 32) hC5 hC6 := by rw [eC6]; exact eqc_bl1 (by omega) (by omega)
    have a4 : Eqc (x + 32) hC6 hC7 := by rw [eC7]; exact eqc_sR (by omega)
    have a5 : Eqc (x + 32) hC7 hD := by rw [eD]; exact eqc_sR (by omega)
    have aa := (a3.tr a4).tr a5
    exact ⟨aa.1.trans a0.1, aa.2.1.trans a0.2.1⟩
  have g33 : hkd hD (x + 33) = 2 ∧ hln hD (x + 33) = 4 := by
    have a0 := bl1_new (h := hC5) (v := x + 19) (k := 3) (t := 2) (n := 4)
    rw [nC5, ← eC6] at a0
    have a4 : Eqc (x + 33) hC6 hC7 := by rw [eC7]; exact eqc_sR (by omega)
    have a5 : Eqc (x + 33) hC7 hD := by rw [eD]; exact eqc_sR (by omega)
    have aa := a4.tr a5
    exact ⟨aa.1.trans a0.1, aa.2.1.trans a0.2.1⟩
  obtain ⟨⟨k0, k1, k2, k3, k4, k5, k6⟩, ⟨l2, l4, l5, l6⟩, r2, r3, r4, r5, r6, r7⟩ := F
  refine ⟨nD, ⟨⟨⟨?_, ?_, ?_, ?_, ?_, ?_, ?_⟩, ⟨?_, ?_, ?_, ?_⟩, ⟨?_, ?_, ?_, ?_, ?_, ?_, ?_, ?_⟩⟩, ⟨⟨f1, ?_, ?_⟩, ?_, ?_, Or.inl (by omega)⟩, ⟨?_, ?_, g32.1, g33.1, g32.2, g33.2⟩, ?_⟩, t3, x1.2.1, ?_⟩
  · rw [x1.1]; exact k0
  · rw [(t3 (x + 1) (by omega) (by omega)).1]; exact k1
  · rw [(t3 (x + 2) (by omega) (by omega)).1]; exact k2
  · rw [(t3 (x + 3) (by omega) (by omega)).1]; exact k3
  · rw [(t3 (x + 4) (by omega) (by omega)).1]; exact k4
  · rw [(t3 (x + 5) (by omega) (by omega)).1]; exact k5
  · rw [(t3 (x + 6) (by omega) (by omega)).1]; exact k6
  · rw [(t3 (x + 2) (by omega) (by omega)).2.1]; exact l2
  · rw [(t3 (x + 4) (by omega) (by omega)).2.1]; exact l4
  · rw [(t3 (x + 5) (by omega) (by omega)).2.1]; exact l5
  · rw [(t3 (x + 6) (by omega) (by omega)).2.1]; exact l6
  · rw [x1.2.2]; rfl
  · rw [x1.2.2]; rfl
  · rw [x1.2.2]; exact r2
  · rw [x1.2.2]; exact r3
  · rw [x1.2.2]; exact r4
  · rw [x1.2.2]; exact r5
  · rw [(t3 (x + 1) (by omega) (by omega)).2.2.2.2]; exact r6
  · rw [(t3 (x + 3) (by omega) (by omega)).2.2.2.2]; exact r7
  · rw [f2]; rfl
  · rw [f2]; rfl
  · exact C2.eqc fun b h1 h2 => t1 b (by omega) (by omega) (by omega)
  · exact B3.eqc fun b h1 h2 => (t2 b (by omega) (by omega)).tr (t1 b (by omega) (by omega) (by omega))
  · rw [f2]; rfl
  · rw [f2]; rfl
  · have e7 := (t2 (x + 7) (by omega) (by omega)).tr (t1 (x + 7) (by omega) (by omega) (by omega))
    unfold FV at B4 ⊢
    rw [e7.2.2.1]
    exact B4
  · rw [x1.2.2]; rfl

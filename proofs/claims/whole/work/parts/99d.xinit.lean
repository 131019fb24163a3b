-- the one side as it is made
set_option maxHeartbeats 1000000 in
theorem xa_f {h0 h1 h2 h3 h4 h5 h6 h7 h8 h9 : HP} {x : Nat} (hx : hnx h0 = x) (e1_ : h1 = snw h0 15 0) (e2_ : h2 = snw h1 12 0) (e3_ : h3 = bl1 h2 (x + 1) 0 4 8) (e4_ : h4 = sR h3 x 2 (some (x + 1))) (e5_ : h5 = snw h4 13 0) (e6_ : h6 = bl1 h5 (x + 3) 0 2 96) (e7_ : h7 = sR h6 x 3 (some (x + 3))) (e8_ : h8 = bl1 h7 x 4 2 12) (e9_ : h9 = bl1 h8 x 5 2 6) : hnx h9 = x + 7 ∧
    ((hkd h9 x = 15 ∧ hkd h9 (x + 1) = 12 ∧ hkd h9 (x + 2) = 4 ∧ hkd h9 (x + 3) = 13 ∧ hkd h9 (x + 4) = 2 ∧ hkd h9 (x + 5) = 2 ∧ hkd h9 (x + 6) = 2) ∧ (hln h9 (x + 2) = 8 ∧ hln h9 (x + 4) = 96 ∧ hln h9 (x + 5) = 12 ∧ hln h9 (x + 6) = 6) ∧
    (hR h9 x 2 = some (x + 1) ∧ hR h9 x 3 = some (x + 3) ∧ hR h9 x 4 = some (x + 5) ∧ hR h9 x 5 = some (x + 6) ∧ hR h9 (x + 1) 0 = some (x + 2) ∧ hR h9 (x + 3) 0 = some (x + 4))) ∧
    (hR h9 x 7 = none ∧ (∀ j, hR h9 (x + 2) j = none) ∧ (∀ j, j < 7 → ∀ i, hI h9 (x + j) i = 0)) ∧
    (∀ b, b < x → hkd h9 b = hkd h0 b ∧ hln h9 b = hln h0 b ∧ hI h9 b = hI h0 b ∧ hL h9 b = hL h0 b ∧ hR h9 b = hR h0 b) := by
  have n1 : hnx h1 = (x + 1) := by rw [e1_, show hnx (snw h0 15 0) = hnx h0 + 1 from rfl, hx]
  have k1 : ∀ b, hkd h1 b = if b = x then 15 else hkd h0 b := fun b => by rw [e1_, show hkd (snw h0 15 0) b = if b = hnx h0 then 15 else hkd h0 b from rfl, hx]
  have l1 : ∀ b, hln h1 b = if b = x then 0 else hln h0 b := fun b => by rw [e1_, show hln (snw h0 15 0) b = if b = hnx h0 then 0 else hln h0 b from rfl, hx]
  have i1 : ∀ b j, hI h1 b j = if b = x then 0 else hI h0 b j := fun b j => by rw [e1_, show hI (snw h0 15 0) b j = if b = hnx h0 then 0 else hI h0 b j from rfl, hx]
  have w1 : ∀ b j, hL h1 b j = if b = x then 0 else hL h0 b j := fun b j => by rw [e1_, show hL (snw h0 15 0) b j = if b = hnx h0 then 0 else hL h0 b j from rfl, hx]
  have r1 : ∀ b j, hR h1 b j = if b = x then none else hR h0 b j := fun b j => by rw [e1_, show hR (snw h0 15 0) b j = if b = hnx h0 then none else hR h0 b j from rfl, hx]
  have n2 : hnx h2 = (x + 2) := by rw [e2_, show hnx (snw h1 12 0) = hnx h1 + 1 from rfl, n1]
  have k2 : ∀ b, hkd h2 b = if b = (x + 1) then 12 else hkd h1 b := fun b => by rw [e2_, show hkd (snw h1 12 0) b = if b = hnx h1 then 12 else hkd h1 b from rfl, n1]
  have l2 : ∀ b, hln h2 b = if b = (x + 1) then 0 else hln h1 b := fun b => by rw [e2_, show hln (snw h1 12 0) b = if b = hnx h1 then 0 else hln h1 b from rfl, n1]
  have i2 : ∀ b j, hI h2 b j = if b = (x + 1) then 0 else hI h1 b j := fun b j => by rw [e2_, show hI (snw h1 12 0) b j = if b = hnx h1 then 0 else hI h1 b j from rfl, n1]
  have w2 : ∀ b j, hL h2 b j = if b = (x + 1) then 0 else hL h1 b j := fun b j => by rw [e2_, show hL (snw h1 12 0) b j = if b = hnx h1 then 0 else hL h1 b j from rfl, n1]
  have r2 : ∀ b j, hR h2 b j = if b = (x + 1) then none else hR h1 b j := fun b j => by rw [e2_, show hR (snw h1 12 0) b j = if b = hnx h1 then none else hR h1 b j from rfl, n1]
  have n3 : hnx h3 = (x + 3) := by rw [e3_, show hnx (bl1 h2 (x + 1) 0 4 8) = hnx h2 + 1 from rfl, n2]
  have k3 : ∀ b, hkd h3 b = if b = (x + 2) then 4 else hkd h2 b := fun b => by rw [e3_, show hkd (bl1 h2 (x + 1) 0 4 8) b = if b = hnx h2 then 4 else hkd h2 b from rfl, n2]
  have l3 : ∀ b, hln h3 b = if b = (x + 2) then 8 else hln h2 b := fun b => by rw [e3_, show hln (bl1 h2 (x + 1) 0 4 8) b = if b = hnx h2 then 8 else hln h2 b from rfl, n2]
  have i3 : ∀ b j, hI h3 b j = if b = (x + 2) then 0 else hI h2 b j := fun b j => by rw [e3_, show hI (bl1 h2 (x + 1) 0 4 8) b j = if b = hnx h2 then 0 else hI h2 b j from rfl, n2]
  have w3 : ∀ b j, hL h3 b j = if b = (x + 2) then 0 else hL h2 b j := fun b j => by rw [e3_, show hL (bl1 h2 (x + 1) 0 4 8) b j = if b = hnx h2 then 0 else hL h2 b j from rfl, n2]
  have r3 : ∀ b j, hR h3 b j = if b = (x + 1) ∧ j = 0 then some (x + 2) else if b = (x + 2) then none else hR h2 b j := fun b j => by rw [e3_, show hR (bl1 h2 (x + 1) 0 4 8) b j = if b = (x + 1) ∧ j = 0 then some (hnx h2) else if b = hnx h2 then none else hR h2 b j from rfl, n2]
  have n4 : hnx h4 = (x + 3) := by rw [e4_]; exact n3
  have k4 : ∀ b, hkd h4 b = hkd h3 b := fun b => by rw [e4_]; rfl
  have l4 : ∀ b, hln h4 b = hln h3 b := fun b => by rw [e4_]; rfl
  have i4 : ∀ b j, hI h4 b j = hI h3 b j := fun b j => by rw [e4_]; rfl
  have w4 : ∀ b j, hL h4 b j = hL h3 b j := fun b j => by rw [e4_]; rfl
  have r4 : ∀ b j, hR h4 b j = if b = x ∧ j = 2 then some (x + 1) else hR h3 b j := fun b j => by rw [e4_]; rfl
  have n5 : hnx h5 = (x + 4) := by rw [e5_, show hnx (snw h4 13 0) = hnx h4 + 1 from rfl, n4]
  have k5 : ∀ b, hkd h5 b = if b = (x + 3) then 13 else hkd h4 b := fun b => by rw [e5_, show hkd (snw h4 13 0) b = if b = hnx h4 then 13 else hkd h4 b from rfl, n4]
  have l5 : ∀ b, hln h5 b = if b = (x + 3) then 0 else hln h4 b := fun b => by rw [e5_, show hln (snw h4 13 0) b = if b = hnx h4 then 0 else hln h4 b from rfl, n4]
  have i5 : ∀ b j, hI h5 b j = if b = (x + 3) then 0 else hI h4 b j := fun b j => by rw [e5_, show hI (snw h4 13 0) b j = if b = hnx h4 then 0 else hI h4 b j from rfl, n4]
  have w5 : ∀ b j, hL h5 b j = if b = (x + 3) then 0 else hL h4 b j := fun b j => by rw [e5_, show hL (snw h4 13 0) b j = if b = hnx h4 then 0 else hL h4 b j from rfl, n4]
  have r5 : ∀ b j, hR h5 b j = if b = (x + 3) then none else hR h4 b j := fun b j => by rw [e5_, show hR (snw h4 13 0) b j = if b = hnx h4 then none else hR h4 b j from rfl, n4]
  have n6 : hnx h6 = (x + 5) := by rw [e6_, show hnx (bl1 h5 (x + 3) 0 2 96) = hnx h5 + 1 from rfl, n5]
  have k6 : ∀ b, hkd h6 b = if b = (x + 4) then 2 else hkd h5 b := fun b => by rw [e6_, show hkd (bl1 h5 (x + 3) 0 2 96) b = if b = hnx h5 then 2 else hkd h5 b from rfl, n5]
  have l6 : ∀ b, hln h6 b = if b = (x + 4) then 96 else hln h5 b := fun b => by rw [e6_, show hln (bl1 h5 (x + 3) 0 2 96) b = if b = hnx h5 then 96 else hln h5 b from rfl, n5]
  have i6 : ∀ b j, hI h6 b j = if b = (x + 4) then 0 else hI h5 b j := fun b j => by rw [e6_, show hI (bl1 h5 (x + 3) 0 2 96) b j = if b = hnx h5 then 0 else hI h5 b j from rfl, n5]
  have w6 : ∀ b j, hL h6 b j = if b = (x + 4) then 0 else hL h5 b j := fun b j => by rw [e6_, show hL (bl1 h5 (x + 3) 0 2 96) b j = if b = hnx h5 then 0 else hL h5 b j from rfl, n5]
  have r6 : ∀ b j, hR h6 b j = if b = (x + 3) ∧ j = 0 then some (x + 4) else if b = (x + 4) then none else hR h5 b j := fun b j => by rw [e6_, show hR (bl1 h5 (x + 3) 0 2 96) b j = if b = (x + 3) ∧ j = 0 then some (hnx h5) else if b = hnx h5 then none else hR h5 b j from rfl, n5]
  have n7 : hnx h7 = (x + 5) := by rw [e7_]; exact n6
  have k7 : ∀ b, hkd h7 b = hkd h6 b := fun b => by rw [e7_]; rfl
  have l7 : ∀ b, hln h7 b = hln h6 b := fun b => by rw [e7_]; rfl
  have i7 : ∀ b j, hI h7 b j = hI h6 b j := fun b j => by rw [e7_]; rfl
  have w7 : ∀ b j, hL h7 b j = hL h6 b j := fun b j => by rw [e7_]; rfl
  have r7 : ∀ b j, hR h7 b j = if b = x ∧ j = 3 then some (x + 3) else hR h6 b j := fun b j => by rw [e7_]; rfl
  have n8 : hnx h8 = (x + 6) := by rw [e8_, show hnx (bl1 h7 x 4 2 12) = hnx h7 + 1 from rfl, n7]
  have k8 : ∀ b, hkd h8 b = if b = (x + 5) then 2 else hkd h7 b := fun b => by rw [e8_, show hkd (bl1 h7 x 4 2 12) b = if b = hnx h7 then 2 else hkd h7 b from rfl, n7]
  have l8 : ∀ b, hln h8 b = if b = (x + 5) then 12 else hln h7 b := fun b => by rw [e8_, show hln (bl1 h7 x 4 2 12) b = if b = hnx h7 then 12 else hln h7 b from rfl, n7]
  have i8 : ∀ b j, hI h8 b j = if b = (x + 5) then 0 else hI h7 b j := fun b j => by rw [e8_, show hI (bl1 h7 x 4 2 12) b j = if b = hnx h7 then 0 else hI h7 b j from rfl, n7]
  have w8 : ∀ b j, hL h8 b j = if b = (x + 5) then 0 else hL h7 b j := fun b j => by rw [e8_, show hL (bl1 h7 x 4 2 12) b j = if b = hnx h7 then 0 else hL h7 b j from rfl, n7]
  have r8 : ∀ b j, hR h8 b j = if b = x ∧ j = 4 then some (x + 5) else if b = (x + 5) then none else hR h7 b j := fun b j => by rw [e8_, show hR (bl1 h7 x 4 2 12) b j = if b = x ∧ j = 4 then some (hnx h7) else if b = hnx h7 then none else hR h7 b j from rfl, n7]
  have n9 : hnx h9 = (x + 7) := by rw [e9_, show hnx (bl1 h8 x 5 2 6) = hnx h8 + 1 from rfl, n8]
  have k9 : ∀ b, hkd h9 b = if b = (x + 6) then 2 else hkd h8 b := fun b => by rw [e9_, show hkd (bl1 h8 x 5 2 6) b = if b = hnx h8 then 2 else hkd h8 b from rfl, n8]
  have l9 : ∀ b, hln h9 b = if b = (x + 6) then 6 else hln h8 b := fun b => by rw [e9_, show hln (bl1 h8 x 5 2 6) b = if b = hnx h8 then 6 else hln h8 b from rfl, n8]
  have i9 : ∀ b j, hI h9 b j = if b = (x + 6) then 0 else hI h8 b j := fun b j => by rw [e9_, show hI (bl1 h8 x 5 2 6) b j = if b = hnx h8 then 0 else hI h8 b j from rfl, n8]
  have w9 : ∀ b j, hL h9 b j = if b = (x + 6) then 0 else hL h8 b j := fun b j => by rw [e9_, show hL (bl1 h8 x 5 2 6) b j = if b = hnx h8 then 0 else hL h8 b j from rfl, n8]
  have r9 : ∀ b j, hR h9 b j = if b = x ∧ j = 5 then some (x + 6) else if b = (x + 6) then none else hR h8 b j := fun b j => by rw [e9_, show hR (bl1 h8 x 5 2 6) b j = if b = x ∧ j = 5 then some (hnx h8) else if b = hnx h8 then none else hR h8 b j from rfl, n8]
  have c : ∀ j, j < 7 → j = 0 ∨ j = 1 ∨ j = 2 ∨ j = 3 ∨ j = 4 ∨ j = 5 ∨ j = 6 := fun j hj => by omega
  refine ⟨n9, ⟨⟨?_, ?_, ?_, ?_, ?_, ?_, ?_⟩, ⟨?_, ?_, ?_, ?_⟩, ⟨?_, ?_, ?_, ?_, ?_, ?_⟩⟩, ⟨?_, fun j => ?_, fun j hj i => ?_⟩, fun b hb => ?_⟩
  · simp [k9, k8, k7, k6, k5, k4, k3, k2, k1]
  · simp [k9, k8, k7, k6, k5, k4, k3, k2, k1]
  · simp [k9, k8, k7, k6, k5, k4, k3, k2, k1]
  · simp [k9, k8, k7, k6, k5, k4, k3, k2, k1]
  · simp [k9, k8, k7, k6, k5, k4, k3, k2, k1]
  · simp [k9, k8, k7, k6, k5, k4, k3, k2, k1]
  · simp [k9, k8, k7, k6, k5, k4, k3, k2, k1]
  · simp [l9, l8, l7, l6, l5, l4, l3, l2, l1]
  · simp [l9, l8, l7, l6, l5, l4, l3, l2, l1]
  · simp [l9, l8, l7, l6, l5, l4, l3, l2, l1]
  · simp [l9, l8, l7, l6, l5, l4, l3, l2, l1]
  · simp [r9, r8, r7, r6, r5, r4, r3, r2, r1]
  · simp [r9, r8, r7, r6, r5, r4, r3, r2, r1]
  · simp [r9, r8, r7, r6, r5, r4, r3, r2, r1]
  · simp [r9, r8, r7, r6, r5, r4, r3, r2, r1]
  · simp [r9, r8, r7, r6, r5, r4, r3, r2, r1]
  · simp [r9, r8, r7, r6, r5, r4, r3, r2, r1]
  · simp [r9, r8, r7, r6, r5, r4, r3, r2, r1]
  · simp [r9, r8, r7, r6, r5, r4, r3, r2, r1]
  · rcases c j hj with rfl | rfl | rfl | rfl | rfl | rfl | rfl <;> simp [i9, i8, i7, i6, i5, i4, i3, i2, i1]
  · have z0 : ¬ b = x := by omega
    have z1 : ¬ b = x + 1 := by omega
    have z2 : ¬ b = x + 2 := by omega
    have z3 : ¬ b = x + 3 := by omega
    have z4 : ¬ b = x + 4 := by omega
    have z5 : ¬ b = x + 5 := by omega
    have z6 : ¬ b = x + 6 := by omega
    refine ⟨?_, ?_, ?_, ?_, ?_⟩
    · simp only [k9, k8, k7, k6, k5, k4, k3, k2, k1, z0, z1, z2, z3, z4, z5, z6, if_false]
    · simp only [l9, l8, l7, l6, l5, l4, l3, l2, l1, z0, z1, z2, z3, z4, z5, z6, if_false]
    · funext j
      simp only [i9, i8, i7, i6, i5, i4, i3, i2, i1, z0, z1, z2, z3, z4, z5, z6, if_false]
    · funext j
      simp only [w9, w8, w7, w6, w5, w4, w3, w2, w1, z0, z1, z2, z3, z4, z5, z6, if_false]
    · funext j
      simp only [r9, r8, r7, r6, r5, r4, r3, r2, r1, z0, z1, z2, z3, z4, z5, z6, if_false, false_and]

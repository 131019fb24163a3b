def lvl : Nat → List Slot → List (Nat × Value)
  | _, [] => []
  | k, .val v :: t => (k, v) :: lvl (k + 1) t
  | k, .unset :: t => lvl (k + 1) t
  | k, .second :: t => lvl (k + 1) t
theorem lvl_in : ∀ (al : List Slot) (k j : Nat) (w : Value), (j, w) ∈ lvl k al ↔ ∃ i, j = k + i ∧ al[i]? = some (.val w)
  | [], k, j, w => by simp [lvl]
  | .val v :: t, k, j, w => by
    rw [lvl, List.mem_cons, lvl_in t (k + 1) j w]
    constructor
    · rintro (h | ⟨i, h1, h2⟩)
      · cases h; exact ⟨0, rfl, rfl⟩
      · exact ⟨i + 1, by omega, by simpa using h2⟩
    · rintro ⟨i, h1, h2⟩
      cases i with
      | zero => left; simp at h2; rw [h1, h2]; rfl
      | succ i => right; exact ⟨i, by omega, by simpa using h2⟩
  | .unset :: t, k, j, w => by
    rw [lvl, lvl_in t (k + 1) j w]
    constructor
    · rintro ⟨i, h1, h2⟩
      exact ⟨i + 1, by omega, by simpa using h2⟩
    · rintro ⟨i, h1, h2⟩
      cases i with
      | zero => simp at h2
      | succ i => exact ⟨i, by omega, by simpa using h2⟩
  | .second :: t, k, j, w => by
    rw [lvl, lvl_in t (k + 1) j w]
    constructor
    · rintro ⟨i, h1, h2⟩
      exact ⟨i + 1, by omega, by simpa using h2⟩
    · rintro ⟨i, h1, h2⟩
      cases i with
      | zero => simp at h2
      | succ i => exact ⟨i, by omega, by simpa using h2⟩
theorem lvl_in0 (al : List Slot) (j : Nat) (w : Value) : (j, w) ∈ lvl 0 al ↔ al[j]? = some (.val w) := by
  rw [lvl_in]
  constructor
  · rintro ⟨i, h1, h2⟩
    rw [show j = i by omega]; exact h2
  · intro h; exact ⟨j, by omega, h⟩
theorem lvl_at {ls : Array Slot} {n : Nat} {al : List Slot} (h : lv_has ls n (lvl 0 al)) {i : Nat} {w : Value} (hi : al[i]? = some (.val w)) : ls[i]? = some (.val w) := h.2.2 (i, w) ((lvl_in0 al i w).mpr hi)
theorem gI_at : ∀ (al : List Slot) (i : Nat) (x : Int32), gI al i = some x → al[i]? = some (.val (.int x))
  | [], 0, x, h => by simp [gI] at h
  | [], _ + 1, x, h => by simp [gI] at h
  | a :: t, 0, x, h => by
    unfold gI at h
    split at h <;> simp_all
  | a :: t, i + 1, x, h => by
    have h2 : gI t i = some x := by simpa [gI] using h
    simpa using gI_at t i x h2
theorem gL_at : ∀ (al : List Slot) (i : Nat) (x : Int64), gL al i = some x → al[i]? = some (.val (.long x))
  | [], 0, x, h => by simp [gL] at h
  | [], _ + 1, x, h => by simp [gL] at h
  | a :: t, 0, x, h => by
    unfold gL at h
    split at h <;> simp_all
  | a :: t, i + 1, x, h => by
    have h2 : gL t i = some x := by simpa [gL] using h
    simpa using gL_at t i x h2
theorem gA_at : ∀ (al : List Slot) (i : Nat) (v : Value), gA al i = some v → al[i]? = some (.val v) ∧ (v = .null ∨ ∃ r, v = .ref r)
  | [], 0, x, h => by simp [gA] at h
  | [], _ + 1, x, h => by simp [gA] at h
  | a :: t, 0, x, h => by
    unfold gA at h
    split at h <;> simp_all
    · exact Or.inr ⟨_, h.symm⟩
  | a :: t, i + 1, x, h => by
    have h2 : gA t i = some x := by simpa [gA] using h
    simpa using gA_at t i x h2
theorem cl2_val {a : Slot} {w : Value} (h : cl2 a = .val w) : a = .val w ∧ ¬ w.category = 2 := by
  unfold cl2 at h
  split at h
  · cases h
  · cases h
  · rename_i h1 h2
    refine ⟨h, fun hc => ?_⟩
    subst h
    cases w <;> simp_all [Value.category]
theorem p1_at (v : Value) : ∀ (i : Nat) (al : List Slot) (j : Nat) (w : Value), (p1 v i al)[j]? = some (.val w) → (j = i ∧ w = v) ∨ (al[j]? = some (.val w) ∧ j ≠ i ∧ ¬ (j + 1 = i ∧ w.category = 2))
  | i, [], j, w, h => by cases i <;> simp [p1] at h <;> (rename_i i; cases i <;> simp [p1] at h)
  | 0, a :: t, j, w, h => by
    cases j with
    | zero => left; simp [p1] at h; exact ⟨rfl, h.symm⟩
    | succ j => right; simp [p1] at h; exact ⟨by simpa using h, by omega, by omega⟩
  | 1, a :: t, j, w, h => by
    cases j with
    | zero =>
      right
      simp [p1] at h
      obtain ⟨h1, h2⟩ := cl2_val h
      exact ⟨by simp [h1], by omega, fun z => h2 z.2⟩
    | succ j =>
      have h' : (p1 v 0 t)[j]? = some (.val w) := by simpa [p1] using h
      rcases p1_at v 0 t j w h' with ⟨e, f⟩ | ⟨e, f, g⟩
      · left; exact ⟨by omega, f⟩
      · right; exact ⟨by simpa using e, by omega, fun z => by omega⟩
  | n + 2, a :: t, j, w, h => by
    cases j with
    | zero => right; simp [p1] at h; exact ⟨by simp [h], by omega, fun z => by omega⟩
    | succ j =>
      have h' : (p1 v (n + 1) t)[j]? = some (.val w) := by simpa [p1] using h
      rcases p1_at v (n + 1) t j w h' with ⟨e, f⟩ | ⟨e, f, g⟩
      · left; exact ⟨by omega, f⟩
      · right; exact ⟨by simpa using e, by omega, fun z => g ⟨by omega, z.2⟩⟩
theorem p2_at (v : Value) : ∀ (i : Nat) (al : List Slot) (j : Nat) (w : Value), (p2 v i al)[j]? = some (.val w) → (j = i ∧ w = v) ∨ (al[j]? = some (.val w) ∧ j ≠ i ∧ j ≠ i + 1 ∧ ¬ (j + 1 = i ∧ w.category = 2))
  | i, [], j, w, h => by cases i <;> simp [p2] at h <;> (rename_i i; cases i <;> simp [p2] at h)
  | 0, [a], j, w, h => by
    cases j with
    | zero => left; simp [p2] at h; exact ⟨rfl, h.symm⟩
    | succ j => simp [p2] at h
  | 0, a :: b :: t, j, w, h => by
    match j, h with
    | 0, h => left; simp [p2] at h; exact ⟨rfl, h.symm⟩
    | 1, h => simp [p2] at h
    | j + 2, h => right; simp [p2] at h; exact ⟨by simpa using h, by omega, by omega, by omega⟩
  | 1, a :: t, j, w, h => by
    cases j with
    | zero =>
      right
      simp [p2] at h
      obtain ⟨h1, h2⟩ := cl2_val h
      exact ⟨by simp [h1], by omega, by omega, fun z => h2 z.2⟩
    | succ j =>
      have h' : (p2 v 0 t)[j]? = some (.val w) := by simpa [p2] using h
      rcases p2_at v 0 t j w h' with ⟨e, f⟩ | ⟨e, f, g, g2⟩
      · left; exact ⟨by omega, f⟩
      · right; exact ⟨by simpa using e, by omega, by omega, fun z => by omega⟩
  | n + 2, a :: t, j, w, h => by
    cases j with
    | zero => right; simp [p2] at h; exact ⟨by simp [h], by omega, by omega, fun z => by omega⟩
    | succ j =>
      have h' : (p2 v (n + 1) t)[j]? = some (.val w) := by simpa [p2] using h
      rcases p2_at v (n + 1) t j w h' with ⟨e, f⟩ | ⟨e, f, g, g2⟩
      · left; exact ⟨by omega, f⟩
      · right; exact ⟨by simpa using e, by omega, by omega, fun z => g2 ⟨by omega, z.2⟩⟩
theorem p1_has {ls : Array Slot} {n i : Nat} {al : List Slot} {v : Value} (h : lv_has ls n ((i, v) :: (lvl 0 al).filter (fun q => !(q.1 == i) && !(q.1 + 1 == i && q.2.category == 2)))) : lv_has ls n (lvl 0 (p1 v i al)) := by
  refine ⟨h.1, h.2.1, fun q hq => h.2.2 q ?_⟩
  obtain ⟨j, w⟩ := q
  rw [lvl_in0] at hq
  rcases p1_at v i al j w hq with ⟨rfl, rfl⟩ | ⟨h1, h2, h3⟩
  · exact List.mem_cons_self
  · refine List.mem_cons_of_mem _ (List.mem_filter.mpr ⟨(lvl_in0 al j w).mpr h1, ?_⟩)
    simp only [Bool.and_eq_true, Bool.not_eq_true', beq_eq_false_iff_ne, ne_eq, Bool.and_eq_false_iff]
    refine ⟨h2, ?_⟩
    by_cases z : j + 1 = i
    · right; exact fun c => h3 ⟨z, c⟩
    · left; exact z
theorem p2_has {ls : Array Slot} {n i : Nat} {al : List Slot} {v : Value} (h : lv_has ls n ((i, v) :: (lvl 0 al).filter (fun q => !(q.1 == i) && (!(q.1 == i + 1) && !(q.1 + 1 == i && q.2.category == 2))))) : lv_has ls n (lvl 0 (p2 v i al)) := by
  refine ⟨h.1, h.2.1, fun q hq => h.2.2 q ?_⟩
  obtain ⟨j, w⟩ := q
  rw [lvl_in0] at hq
  rcases p2_at v i al j w hq with ⟨rfl, rfl⟩ | ⟨h1, h2, h3, h4⟩
  · exact List.mem_cons_self
  · refine List.mem_cons_of_mem _ (List.mem_filter.mpr ⟨(lvl_in0 al j w).mpr h1, ?_⟩)
    simp only [Bool.and_eq_true, Bool.not_eq_true', beq_eq_false_iff_ne, ne_eq, Bool.and_eq_false_iff]
    refine ⟨h2, h3, ?_⟩
    by_cases z : j + 1 = i
    · right; exact fun c => h4 ⟨z, c⟩
    · left; exact z
theorem sl_eq : ∀ vs : List Value, sl vs = lg_sl vs
  | [] => rfl
  | v :: t => by
    have ih := sl_eq t
    have e : lg_sl (v :: t) = (if v.category = 2 then [.val v, .second] else [.val v]) ++ lg_sl t := rfl
    rw [e, ← ih]
    cases v <;> simp [sl, Value.category]
theorem wd_eq : ∀ vs : List Value, (vs.map fun v => v.category).sum = wd vs
  | [] => rfl
  | v :: t => by simp [wd, ← wd_eq t]
theorem popN_eq : ∀ (n : Nat) (acc st as r : List Value), popN n acc st = some (as, r) → ∃ q, as = q ++ acc ∧ q.length = n ∧ st = q.reverse ++ r
  | 0, acc, st, as, r, h => by simp [popN] at h; exact ⟨[], by simp [h.1], rfl, by simp [h.2]⟩
  | n + 1, acc, [], as, r, h => by simp [popN] at h
  | n + 1, acc, v :: st, as, r, h => by
    obtain ⟨q, h1, h2, h3⟩ := popN_eq n (v :: acc) st as r (by simpa [popN] using h)
    exact ⟨q ++ [v], by simp [h1], by simp [h2], by simp [h3]⟩
def fv (h : HP) (ci a k : Nat) : Value := fget (fty ci k) h a k
def CR (D : va_G) (z : Nat) (h : HP) (U : State) (H : Heap) (a : Nat) : Prop :=
  (hkd h a = 1 → ∃ cell : Cell, H[a]? = some cell ∧ U.isArrayOf cell .int ∧ cell.vm ≠ .unknown ∧ cell.slots.size = hln h a ∧ ∀ j, j < hln h a → cell.slots[j]? = some (.int (hI h a j))) ∧
  (hkd h a = 2 → z ≤ a ∧ ∃ cA, ArrOfT U cA .int ∧ va_RA U cA .int ∧ H[a]? = some (arrV cA (hln h a) (fun j => .int (hI h a j)))) ∧
  (hkd h a = 3 → z ≤ a ∧ ∃ cA, ArrOfT U cA .long ∧ va_RA U cA .long ∧ H[a]? = some (arrV cA (hln h a) (fun j => .long (hL h a j)))) ∧
  (hkd h a = 4 → z ≤ a ∧ ∃ cA, ArrOfT U cA (.object "MayReadPencil$Village") ∧ va_RA U cA (.object "MayReadPencil$Village") ∧ H[a]? = some (arrV cA (hln h a) (fun j => va_rf (hR h a j)))) ∧
  (∀ ci, hkd h a = 10 + ci → z ≤ a ∧ ∃ q, mjCl[ci]? = some q ∧ t_OB a (D.1 ci) q.2.2 (D.2 ci) H (fv h ci a))
def HH (D : va_G) (z : Nat) (h : HP) (U : State) (H : Heap) : Prop := H.size = hnx h ∧ z ≤ hnx h ∧ ∀ a, CR D z h U H a
theorem HH.moved {D : va_G} {z : Nat} {h : HP} {u U : State} {H : Heap} (hvm : u.vm.Alike U.vm) (hh : HH D z h u H) : HH D z h U H := by
  refine ⟨hh.1, hh.2.1, fun a => ?_⟩
  obtain ⟨c1, c2, c3, c4, c5⟩ := hh.2.2 a
  refine ⟨fun k => ?_, fun k => ?_, fun k => ?_, fun k => ?_, c5⟩
  · obtain ⟨cell, q1, q2, q3⟩ := c1 k
    exact ⟨cell, q1, State.isArrayOf_alike hvm q2, q3⟩
  · obtain ⟨q0, cA, q1, q2, q3⟩ := c2 k
    exact ⟨q0, cA, arrOfT_moved hvm q1, q2.moved hvm, q3⟩
  · obtain ⟨q0, cA, q1, q2, q3⟩ := c3 k
    exact ⟨q0, cA, arrOfT_moved hvm q1, q2.moved hvm, q3⟩
  · obtain ⟨q0, cA, q1, q2, q3⟩ := c4 k
    exact ⟨q0, cA, arrOfT_moved hvm q1, q2.moved hvm, q3⟩
theorem CR.kept {D : va_G} {z : Nat} {h h' : HP} {U : State} {H H1 : Heap} {b : Nat} (hc : CR D z h U H b) (k1 : hkd h' b = hkd h b) (k2 : hln h' b = hln h b) (k3 : hI h' b = hI h b) (k4 : hL h' b = hL h b) (k5 : hR h' b = hR h b) (ho : H1[b]? = H[b]?) : CR D z h' U H1 b := by
  obtain ⟨c1, c2, c3, c4, c5⟩ := hc
  unfold CR
  rw [k1, k2, k3, k4, k5, ho]
  refine ⟨c1, c2, c3, c4, fun ci k => ?_⟩
  obtain ⟨q0, q, q1, q2⟩ := c5 ci k
  refine ⟨q0, q, q1, (q2.kept ho).to fun j _ => ?_⟩
  unfold fv fget
  rw [k3, k4, k5]
theorem HH.put {D : va_G} {z : Nat} {h h' : HP} {U : State} {H H1 : Heap} {a : Nat} (hh : HH D z h U H) (hs : H1.size = H.size) (ho : ∀ q, q ≠ a → H1[q]? = H[q]?) (k1 : hkd h' = hkd h) (k2 : hln h' = hln h) (k3 : hnx h' = hnx h)
    (kb : ∀ b, b ≠ a → hI h' b = hI h b ∧ hL h' b = hL h b ∧ hR h' b = hR h b) (ha : CR D z h' U H1 a) : HH D z h' U H1 := by
  refine ⟨by rw [hs, k3]; exact hh.1, by rw [k3]; exact hh.2.1, fun b => ?_⟩
  by_cases e : b = a
  · rw [e]; exact ha
  · obtain ⟨e1, e2, e3⟩ := kb b e
    exact (hh.2.2 b).kept (by rw [k1]) (by rw [k2]) e1 e2 e3 (ho b e)
/-- a new cell at the end -/
theorem HH.push {D : va_G} {z : Nat} {h : HP} {U : State} {H H1 : Heap} {t n : Nat} (hh : HH D z h U H) (hs : H1.size = H.size + 1) (ho : ∀ q, q < H.size → H1[q]? = H[q]?) (ha : CR D z (snw h t n) U H1 (hnx h)) : HH D z (snw h t n) U H1 := by
  refine ⟨by rw [hs, hnx_snw, hh.1], by rw [hnx_snw]; have := hh.2.1; omega, fun b => ?_⟩
  by_cases e : b = hnx h
  · rw [e]; exact ha
  · have hc := hh.2.2 b
    have k1 : hkd (snw h t n) b = hkd h b := by rw [hkd_snw, if_neg e]
    have k2 : hln (snw h t n) b = hln h b := by rw [hln_snw, if_neg e]
    have k3 : hI (snw h t n) b = hI h b := by funext j; rw [hI_snw, if_neg e]
    have k4 : hL (snw h t n) b = hL h b := by funext j; rw [hL_snw, if_neg e]
    have k5 : hR (snw h t n) b = hR h b := by funext j; rw [hR_snw, if_neg e]
    by_cases hb : b < H.size
    · exact hc.kept k1 k2 k3 k4 k5 (ho b hb)
    · have no : H[b]? = none := by simp; omega
      obtain ⟨c1, c2, c3, c4, c5⟩ := hc
      unfold CR
      rw [k1]
      refine ⟨fun k => ?_, fun k => ?_, fun k => ?_, fun k => ?_, fun ci k => ?_⟩
      · obtain ⟨cell, q1, q2⟩ := c1 k
        rw [no] at q1; cases q1
      · obtain ⟨q0, cA, q1, q2, q3⟩ := c2 k
        rw [no] at q3; cases q3
      · obtain ⟨q0, cA, q1, q2, q3⟩ := c3 k
        rw [no] at q3; cases q3
      · obtain ⟨q0, cA, q1, q2, q3⟩ := c4 k
        rw [no] at q3; cases q3
      · obtain ⟨q0, q, q1, cell, q2, q3⟩ := c5 ci k
        rw [no] at q2; cases q2

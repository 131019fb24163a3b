section MJE
variable {d y pc n2 i : Nat} {Q : PQ} {al : List Slot} {st : List Value} {h : HP} {c s : Nat} {cc : ByteArray}
def oB {α : Type} (o : Option α) (F : α → Prop) : Prop := match o with
  | some x => F x
  | none => False
theorem oB_some {α : Type} (x : α) (F : α → Prop) : oB (some x) F = F x := rfl
theorem wp_of {o : Out} (hc : mC y = cc) {ins : Instr} {n : Nat} (hd : decode cc pc = .ok (ins, n)) (hk : okL ins n = true) (ho : nxI y pc al st h c s ins = o) : WP d y Q (pc, al, st, h, c, s) = stO (Ev d) Q (WP d y Q) o := by
  rw [WP_eq]
  subst hc
  unfold nxt
  dsimp only
  rw [hd]
  dsimp only
  rw [if_pos hk, ho]
theorem tgt_of {pc t : Nat} {off : Int} (h : (pc : Int) + off = (t : Int)) : tgt pc off = some t := by
  unfold tgt
  rw [if_pos (by omega)]
  congr 1
  omega
theorem wp_br {b : Prop} [Decidable b] {off : Int} {t : Nat} (ht : (pc : Int) + off = (t : Int)) : stO (Ev d) Q (WP d y Q) (oBr b pc off al st h c s) = if b then WP d y Q (t, al, st, h, c, s) else WP d y Q (pc + 3, al, st, h, c, s) := by
  unfold oBr
  rw [tgt_of ht]
  dsimp only
  split <;> rfl
theorem wp_iconst (hc : mC y = cc) {n : Int} {v : Int32} (hd : decode cc pc = .ok (.iconst n, 1)) (hv : Int32.ofInt n = v) (hn : pc + 1 = n2) : WP d y Q (pc, al, st, h, c, s) = WP d y Q (n2, al, .int v :: st, h, c, s) := by
  subst hn hv
  exact wp_of hc hd rfl rfl
theorem wp_bipush (hc : mC y = cc) {n : Int} {v : Int32} (hd : decode cc pc = .ok (.bipush n, 2)) (hv : (Int8.ofInt n).toInt32 = v) (hn : pc + 2 = n2) : WP d y Q (pc, al, st, h, c, s) = WP d y Q (n2, al, .int v :: st, h, c, s) := by
  subst hn hv
  exact wp_of hc hd rfl rfl
theorem wp_sipush (hc : mC y = cc) {n : Int} {v : Int32} (hd : decode cc pc = .ok (.sipush n, 3)) (hv : (Int16.ofInt n).toInt32 = v) (hn : pc + 3 = n2) : WP d y Q (pc, al, st, h, c, s) = WP d y Q (n2, al, .int v :: st, h, c, s) := by
  subst hn hv
  exact wp_of hc hd rfl rfl
theorem wp_lconst (hc : mC y = cc) {n : Fin 2} {v : Int64} (hd : decode cc pc = .ok (.lconst n, 1)) (hv : Int64.ofNat (n : Nat) = v) (hn : pc + 1 = n2) : WP d y Q (pc, al, st, h, c, s) = WP d y Q (n2, al, .long v :: st, h, c, s) := by
  subst hn hv
  exact wp_of hc hd rfl rfl
theorem wp_ldc (hc : mC y = cc) {o : Nat} {v : Int32} (hd : decode cc pc = .ok (.ldc i, 2)) (ho : mO y = o) (hv : kI o i = some v) (hn : pc + 2 = n2) : WP d y Q (pc, al, st, h, c, s) = WP d y Q (n2, al, .int v :: st, h, c, s) := by
  subst hn ho
  exact wp_of hc hd rfl (by simp only [nxI]; rw [hv])
theorem wp_ldc_w (hc : mC y = cc) {o : Nat} {v : Int32} (hd : decode cc pc = .ok (.ldc_w i, 3)) (ho : mO y = o) (hv : kI o i = some v) (hn : pc + 3 = n2) : WP d y Q (pc, al, st, h, c, s) = WP d y Q (n2, al, .int v :: st, h, c, s) := by
  subst hn ho
  exact wp_of hc hd rfl (by simp only [nxI]; rw [hv])
theorem wp_ldc2_w (hc : mC y = cc) {o : Nat} {v : Int64} (hd : decode cc pc = .ok (.ldc2_w i, 3)) (ho : mO y = o) (hv : kL o i = some v) (hn : pc + 3 = n2) : WP d y Q (pc, al, st, h, c, s) = WP d y Q (n2, al, .long v :: st, h, c, s) := by
  subst hn ho
  exact wp_of hc hd rfl (by simp only [nxI]; rw [hv])
theorem wp_iload (hc : mC y = cc) (hd : decode cc pc = .ok (.iload i, 2)) (hn : pc + 2 = n2) : WP d y Q (pc, al, st, h, c, s) = oB (gI al i) (fun x => WP d y Q (n2, al, .int x :: st, h, c, s)) := by
  subst hn
  rw [wp_of hc hd rfl rfl]
  simp only [nxI, oLdI]
  split
  · rename_i x hx
    rw [hx]; rfl
  · rename_i hx
    rw [hx]; rfl
theorem wp_iload_n (hc : mC y = cc) {k : Fin 4} (hd : decode cc pc = .ok (.iload_n k, 1)) (hi : k.val = i) (hn : pc + 1 = n2) : WP d y Q (pc, al, st, h, c, s) = oB (gI al i) (fun x => WP d y Q (n2, al, .int x :: st, h, c, s)) := by
  subst hn hi
  rw [wp_of hc hd rfl rfl]
  simp only [nxI, oLdI]
  split
  · rename_i x hx
    rw [hx]; rfl
  · rename_i hx
    rw [hx]; rfl
theorem wp_lload (hc : mC y = cc) (hd : decode cc pc = .ok (.lload i, 2)) (hn : pc + 2 = n2) : WP d y Q (pc, al, st, h, c, s) = oB (gL al i) (fun x => WP d y Q (n2, al, .long x :: st, h, c, s)) := by
  subst hn
  rw [wp_of hc hd rfl rfl]
  simp only [nxI, oLdL]
  split
  · rename_i x hx
    rw [hx]; rfl
  · rename_i hx
    rw [hx]; rfl
theorem wp_lload_n (hc : mC y = cc) {k : Fin 4} (hd : decode cc pc = .ok (.lload_n k, 1)) (hi : k.val = i) (hn : pc + 1 = n2) : WP d y Q (pc, al, st, h, c, s) = oB (gL al i) (fun x => WP d y Q (n2, al, .long x :: st, h, c, s)) := by
  subst hn hi
  rw [wp_of hc hd rfl rfl]
  simp only [nxI, oLdL]
  split
  · rename_i x hx
    rw [hx]; rfl
  · rename_i hx
    rw [hx]; rfl
theorem wp_aload (hc : mC y = cc) (hd : decode cc pc = .ok (.aload i, 2)) (hn : pc + 2 = n2) : WP d y Q (pc, al, st, h, c, s) = oB (gA al i) (fun x => WP d y Q (n2, al, x :: st, h, c, s)) := by
  subst hn
  rw [wp_of hc hd rfl rfl]
  simp only [nxI, oLdA]
  split
  · rename_i x hx
    rw [hx]; rfl
  · rename_i hx
    rw [hx]; rfl
theorem wp_aload_n (hc : mC y = cc) {k : Fin 4} (hd : decode cc pc = .ok (.aload_n k, 1)) (hi : k.val = i) (hn : pc + 1 = n2) : WP d y Q (pc, al, st, h, c, s) = oB (gA al i) (fun x => WP d y Q (n2, al, x :: st, h, c, s)) := by
  subst hn hi
  rw [wp_of hc hd rfl rfl]
  simp only [nxI, oLdA]
  split
  · rename_i x hx
    rw [hx]; rfl
  · rename_i hx
    rw [hx]; rfl
theorem wp_istore_n (hc : mC y = cc) {k : Fin 4} {x : Int32} (hd : decode cc pc = .ok (.istore_n k, 1)) (hi : k.val = i) (hl : i < mL y) (hn : pc + 1 = n2) : WP d y Q (pc, al, .int x :: st, h, c, s) = WP d y Q (n2, p1 (.int x) i al, st, h, c, s) := by
  subst hn hi
  rw [wp_of hc hd rfl rfl]
  simp only [nxI, oStI]
  rw [if_pos hl]
  rfl
theorem wp_istore (hc : mC y = cc) {x : Int32} (hd : decode cc pc = .ok (.istore i, 2)) (hl : i < mL y) (hn : pc + 2 = n2) : WP d y Q (pc, al, .int x :: st, h, c, s) = WP d y Q (n2, p1 (.int x) i al, st, h, c, s) := by
  subst hn
  rw [wp_of hc hd rfl rfl]
  simp only [nxI, oStI]
  rw [if_pos hl]
  rfl
theorem wp_lstore_n (hc : mC y = cc) {k : Fin 4} {x : Int64} (hd : decode cc pc = .ok (.lstore_n k, 1)) (hi : k.val = i) (hl : i + 1 < mL y) (hn : pc + 1 = n2) : WP d y Q (pc, al, .long x :: st, h, c, s) = WP d y Q (n2, p2 (.long x) i al, st, h, c, s) := by
  subst hn hi
  rw [wp_of hc hd rfl rfl]
  simp only [nxI, oStL]
  rw [if_pos hl]
  rfl
theorem wp_lstore (hc : mC y = cc) {x : Int64} (hd : decode cc pc = .ok (.lstore i, 2)) (hl : i + 1 < mL y) (hn : pc + 2 = n2) : WP d y Q (pc, al, .long x :: st, h, c, s) = WP d y Q (n2, p2 (.long x) i al, st, h, c, s) := by
  subst hn
  rw [wp_of hc hd rfl rfl]
  simp only [nxI, oStL]
  rw [if_pos hl]
  rfl
theorem wp_astore_n (hc : mC y = cc) {k : Fin 4} {x : Nat} (hd : decode cc pc = .ok (.astore_n k, 1)) (hi : k.val = i) (hl : i < mL y) (hn : pc + 1 = n2) : WP d y Q (pc, al, .ref x :: st, h, c, s) = WP d y Q (n2, p1 (.ref x) i al, st, h, c, s) := by
  subst hn hi
  rw [wp_of hc hd rfl rfl]
  simp only [nxI, oStA]
  rw [if_pos hl]
  rfl
theorem wp_astore (hc : mC y = cc) {x : Nat} (hd : decode cc pc = .ok (.astore i, 2)) (hl : i < mL y) (hn : pc + 2 = n2) : WP d y Q (pc, al, .ref x :: st, h, c, s) = WP d y Q (n2, p1 (.ref x) i al, st, h, c, s) := by
  subst hn
  rw [wp_of hc hd rfl rfl]
  simp only [nxI, oStA]
  rw [if_pos hl]
  rfl
theorem wp_iinc (hc : mC y = cc) {n : Int} {v : Int32} (hd : decode cc pc = .ok (.iinc i n, 3)) (hv : Int32.ofInt n = v) (hl : i < mL y) (hn : pc + 3 = n2) : WP d y Q (pc, al, st, h, c, s) = oB (gI al i) (fun x => WP d y Q (n2, p1 (.int (x + v)) i al, st, h, c, s)) := by
  subst hn hv
  rw [wp_of hc hd rfl rfl]
  simp only [nxI]
  split
  · rename_i x hx
    rw [hx, if_pos hl]; rfl
  · rename_i hx
    rw [hx]; rfl
theorem wp_iadd (hc : mC y = cc) {a b : Int32} (hd : decode cc pc = .ok (.iadd, 1)) (hn : pc + 1 = n2) : WP d y Q (pc, al, .int b :: .int a :: st, h, c, s) = WP d y Q (n2, al, .int (a + b) :: st, h, c, s) := by
  subst hn
  exact wp_of hc hd rfl rfl
theorem wp_isub (hc : mC y = cc) {a b : Int32} (hd : decode cc pc = .ok (.isub, 1)) (hn : pc + 1 = n2) : WP d y Q (pc, al, .int b :: .int a :: st, h, c, s) = WP d y Q (n2, al, .int (a - b) :: st, h, c, s) := by
  subst hn
  exact wp_of hc hd rfl rfl
theorem wp_imul (hc : mC y = cc) {a b : Int32} (hd : decode cc pc = .ok (.imul, 1)) (hn : pc + 1 = n2) : WP d y Q (pc, al, .int b :: .int a :: st, h, c, s) = WP d y Q (n2, al, .int (a * b) :: st, h, c, s) := by
  subst hn
  exact wp_of hc hd rfl rfl
theorem wp_iand (hc : mC y = cc) {a b : Int32} (hd : decode cc pc = .ok (.iand, 1)) (hn : pc + 1 = n2) : WP d y Q (pc, al, .int b :: .int a :: st, h, c, s) = WP d y Q (n2, al, .int (a &&& b) :: st, h, c, s) := by
  subst hn
  exact wp_of hc hd rfl rfl
theorem wp_ior (hc : mC y = cc) {a b : Int32} (hd : decode cc pc = .ok (.ior, 1)) (hn : pc + 1 = n2) : WP d y Q (pc, al, .int b :: .int a :: st, h, c, s) = WP d y Q (n2, al, .int (a ||| b) :: st, h, c, s) := by
  subst hn
  exact wp_of hc hd rfl rfl
theorem wp_ixor (hc : mC y = cc) {a b : Int32} (hd : decode cc pc = .ok (.ixor, 1)) (hn : pc + 1 = n2) : WP d y Q (pc, al, .int b :: .int a :: st, h, c, s) = WP d y Q (n2, al, .int (a ^^^ b) :: st, h, c, s) := by
  subst hn
  exact wp_of hc hd rfl rfl
theorem wp_ishl (hc : mC y = cc) {a b : Int32} (hd : decode cc pc = .ok (.ishl, 1)) (hn : pc + 1 = n2) : WP d y Q (pc, al, .int b :: .int a :: st, h, c, s) = WP d y Q (n2, al, .int (a <<< (b &&& 31)) :: st, h, c, s) := by
  subst hn
  exact wp_of hc hd rfl rfl
theorem wp_ishr (hc : mC y = cc) {a b : Int32} (hd : decode cc pc = .ok (.ishr, 1)) (hn : pc + 1 = n2) : WP d y Q (pc, al, .int b :: .int a :: st, h, c, s) = WP d y Q (n2, al, .int (a >>> (b &&& 31)) :: st, h, c, s) := by
  subst hn
  exact wp_of hc hd rfl rfl
theorem wp_iushr (hc : mC y = cc) {a b : Int32} (hd : decode cc pc = .ok (.iushr, 1)) (hn : pc + 1 = n2) : WP d y Q (pc, al, .int b :: .int a :: st, h, c, s) = WP d y Q (n2, al, .int ((a.toUInt32 >>> (b.toUInt32 &&& Int32.toUInt32 31)).toInt32) :: st, h, c, s) := by
  subst hn
  exact wp_of hc hd rfl rfl
theorem wp_ladd (hc : mC y = cc) {a b : Int64} (hd : decode cc pc = .ok (.ladd, 1)) (hn : pc + 1 = n2) : WP d y Q (pc, al, .long b :: .long a :: st, h, c, s) = WP d y Q (n2, al, .long (a + b) :: st, h, c, s) := by
  subst hn
  exact wp_of hc hd rfl rfl
theorem wp_lsub (hc : mC y = cc) {a b : Int64} (hd : decode cc pc = .ok (.lsub, 1)) (hn : pc + 1 = n2) : WP d y Q (pc, al, .long b :: .long a :: st, h, c, s) = WP d y Q (n2, al, .long (a - b) :: st, h, c, s) := by
  subst hn
  exact wp_of hc hd rfl rfl
theorem wp_lmul (hc : mC y = cc) {a b : Int64} (hd : decode cc pc = .ok (.lmul, 1)) (hn : pc + 1 = n2) : WP d y Q (pc, al, .long b :: .long a :: st, h, c, s) = WP d y Q (n2, al, .long (a * b) :: st, h, c, s) := by
  subst hn
  exact wp_of hc hd rfl rfl
theorem wp_land (hc : mC y = cc) {a b : Int64} (hd : decode cc pc = .ok (.land, 1)) (hn : pc + 1 = n2) : WP d y Q (pc, al, .long b :: .long a :: st, h, c, s) = WP d y Q (n2, al, .long (a &&& b) :: st, h, c, s) := by
  subst hn
  exact wp_of hc hd rfl rfl
theorem wp_lor (hc : mC y = cc) {a b : Int64} (hd : decode cc pc = .ok (.lor, 1)) (hn : pc + 1 = n2) : WP d y Q (pc, al, .long b :: .long a :: st, h, c, s) = WP d y Q (n2, al, .long (a ||| b) :: st, h, c, s) := by
  subst hn
  exact wp_of hc hd rfl rfl
theorem wp_lxor (hc : mC y = cc) {a b : Int64} (hd : decode cc pc = .ok (.lxor, 1)) (hn : pc + 1 = n2) : WP d y Q (pc, al, .long b :: .long a :: st, h, c, s) = WP d y Q (n2, al, .long (a ^^^ b) :: st, h, c, s) := by
  subst hn
  exact wp_of hc hd rfl rfl
theorem wp_lcmp (hc : mC y = cc) {a b : Int64} (hd : decode cc pc = .ok (.lcmp, 1)) (hn : pc + 1 = n2) : WP d y Q (pc, al, .long b :: .long a :: st, h, c, s) = WP d y Q (n2, al, .int (lg_cmp a b) :: st, h, c, s) := by
  subst hn
  exact wp_of hc hd rfl rfl
theorem wp_lshl (hc : mC y = cc) {a : Int64} {b : Int32} (hd : decode cc pc = .ok (.lshl, 1)) (hn : pc + 1 = n2) : WP d y Q (pc, al, .int b :: .long a :: st, h, c, s) = WP d y Q (n2, al, .long (a <<< (b.toInt64 &&& 63)) :: st, h, c, s) := by
  subst hn
  exact wp_of hc hd rfl rfl
theorem wp_lshr (hc : mC y = cc) {a : Int64} {b : Int32} (hd : decode cc pc = .ok (.lshr, 1)) (hn : pc + 1 = n2) : WP d y Q (pc, al, .int b :: .long a :: st, h, c, s) = WP d y Q (n2, al, .long (a >>> (b.toInt64 &&& 63)) :: st, h, c, s) := by
  subst hn
  exact wp_of hc hd rfl rfl
theorem wp_lushr (hc : mC y = cc) {a : Int64} {b : Int32} (hd : decode cc pc = .ok (.lushr, 1)) (hn : pc + 1 = n2) : WP d y Q (pc, al, .int b :: .long a :: st, h, c, s) = WP d y Q (n2, al, .long ((a.toUInt64 >>> (b.toInt64.toUInt64 &&& Int64.toUInt64 63)).toInt64) :: st, h, c, s) := by
  subst hn
  exact wp_of hc hd rfl rfl
theorem wp_ineg (hc : mC y = cc) {a : Int32} (hd : decode cc pc = .ok (.ineg, 1)) (hn : pc + 1 = n2) : WP d y Q (pc, al, .int a :: st, h, c, s) = WP d y Q (n2, al, .int (-a) :: st, h, c, s) := by
  subst hn
  exact wp_of hc hd rfl rfl
theorem wp_lneg (hc : mC y = cc) {a : Int64} (hd : decode cc pc = .ok (.lneg, 1)) (hn : pc + 1 = n2) : WP d y Q (pc, al, .long a :: st, h, c, s) = WP d y Q (n2, al, .long (-a) :: st, h, c, s) := by
  subst hn
  exact wp_of hc hd rfl rfl
theorem wp_i2l (hc : mC y = cc) {a : Int32} (hd : decode cc pc = .ok (.i2l, 1)) (hn : pc + 1 = n2) : WP d y Q (pc, al, .int a :: st, h, c, s) = WP d y Q (n2, al, .long a.toInt64 :: st, h, c, s) := by
  subst hn
  exact wp_of hc hd rfl rfl
theorem wp_l2i (hc : mC y = cc) {a : Int64} (hd : decode cc pc = .ok (.l2i, 1)) (hn : pc + 1 = n2) : WP d y Q (pc, al, .long a :: st, h, c, s) = WP d y Q (n2, al, .int a.toInt32 :: st, h, c, s) := by
  subst hn
  exact wp_of hc hd rfl rfl
theorem wp_idiv (hc : mC y = cc) {a b : Int32} (hd : decode cc pc = .ok (.idiv, 1)) (hn : pc + 1 = n2) : WP d y Q (pc, al, .int b :: .int a :: st, h, c, s) = (¬ b = 0 ∧ WP d y Q (n2, al, .int (a / b) :: st, h, c, s)) := by
  subst hn
  rw [wp_of hc hd rfl rfl]
  simp only [nxI]
  split
  · rename_i h0
    simp [h0, stO]
  · rename_i h0
    simp [h0, stO, oGo]
theorem wp_irem (hc : mC y = cc) {a b : Int32} (hd : decode cc pc = .ok (.irem, 1)) (hn : pc + 1 = n2) : WP d y Q (pc, al, .int b :: .int a :: st, h, c, s) = (¬ b = 0 ∧ WP d y Q (n2, al, .int (a - a / b * b) :: st, h, c, s)) := by
  subst hn
  rw [wp_of hc hd rfl rfl]
  simp only [nxI]
  split
  · rename_i h0
    simp [h0, stO]
  · rename_i h0
    simp [h0, stO, oGo]
theorem wp_ldiv (hc : mC y = cc) {a b : Int64} (hd : decode cc pc = .ok (.ldiv, 1)) (hn : pc + 1 = n2) : WP d y Q (pc, al, .long b :: .long a :: st, h, c, s) = (¬ b = 0 ∧ WP d y Q (n2, al, .long (a / b) :: st, h, c, s)) := by
  subst hn
  rw [wp_of hc hd rfl rfl]
  simp only [nxI]
  split
  · rename_i h0
    simp [h0, stO]
  · rename_i h0
    simp [h0, stO, oGo]
theorem wp_lrem (hc : mC y = cc) {a b : Int64} (hd : decode cc pc = .ok (.lrem, 1)) (hn : pc + 1 = n2) : WP d y Q (pc, al, .long b :: .long a :: st, h, c, s) = (¬ b = 0 ∧ WP d y Q (n2, al, .long (a - a / b * b) :: st, h, c, s)) := by
  subst hn
  rw [wp_of hc hd rfl rfl]
  simp only [nxI]
  split
  · rename_i h0
    simp [h0, stO]
  · rename_i h0
    simp [h0, stO, oGo]
theorem wp_dup (hc : mC y = cc) {v : Value} (hd : decode cc pc = .ok (.dup, 1)) (hn : pc + 1 = n2) : WP d y Q (pc, al, v :: st, h, c, s) = (v.category = 1 ∧ WP d y Q (n2, al, v :: v :: st, h, c, s)) := by
  subst hn
  rw [wp_of hc hd rfl rfl]
  simp only [nxI]
  split
  · rename_i h0
    simp [h0, stO, oGo]
  · rename_i h0
    simp [h0, stO]
theorem wp_pop (hc : mC y = cc) {v : Value} (hd : decode cc pc = .ok (.pop, 1)) (hn : pc + 1 = n2) : WP d y Q (pc, al, v :: st, h, c, s) = (v.category = 1 ∧ WP d y Q (n2, al, st, h, c, s)) := by
  subst hn
  rw [wp_of hc hd rfl rfl]
  simp only [nxI]
  split
  · rename_i h0
    simp [h0, stO, oGo]
  · rename_i h0
    simp [h0, stO]
theorem wp_dup2 (hc : mC y = cc) {v w : Value} (hd : decode cc pc = .ok (.dup2, 1)) (hn : pc + 1 = n2) : WP d y Q (pc, al, v :: w :: st, h, c, s) = ((v.category = 1 ∧ w.category = 1) ∧ WP d y Q (n2, al, v :: w :: v :: w :: st, h, c, s)) := by
  subst hn
  rw [wp_of hc hd rfl rfl]
  simp only [nxI]
  split
  · rename_i h0
    simp [h0, stO, oGo]
  · rename_i h0
    simp [h0, stO]
theorem wp_if_eq (hc : mC y = cc) {x : Int32} {off : Int} {t : Nat} (hd : decode cc pc = .ok (.ifCond .eq off, 3)) (ht : (pc : Int) + off = (t : Int)) (hn : pc + 3 = n2) : WP d y Q (pc, al, .int x :: st, h, c, s) = if x = 0 then WP d y Q (t, al, st, h, c, s) else WP d y Q (n2, al, st, h, c, s) := by
  subst hn
  rw [wp_of hc hd rfl rfl]
  simp only [nxI, oIf]
  rw [wp_br ht]
  simp only [decide_eq_true_eq]
theorem wp_if_ne (hc : mC y = cc) {x : Int32} {off : Int} {t : Nat} (hd : decode cc pc = .ok (.ifCond .ne off, 3)) (ht : (pc : Int) + off = (t : Int)) (hn : pc + 3 = n2) : WP d y Q (pc, al, .int x :: st, h, c, s) = if ¬ x = 0 then WP d y Q (t, al, st, h, c, s) else WP d y Q (n2, al, st, h, c, s) := by
  subst hn
  rw [wp_of hc hd rfl rfl]
  simp only [nxI, oIf]
  rw [wp_br ht]
  simp only [decide_eq_true_eq]
theorem wp_if_lt (hc : mC y = cc) {x : Int32} {off : Int} {t : Nat} (hd : decode cc pc = .ok (.ifCond .lt off, 3)) (ht : (pc : Int) + off = (t : Int)) (hn : pc + 3 = n2) : WP d y Q (pc, al, .int x :: st, h, c, s) = if x < 0 then WP d y Q (t, al, st, h, c, s) else WP d y Q (n2, al, st, h, c, s) := by
  subst hn
  rw [wp_of hc hd rfl rfl]
  simp only [nxI, oIf]
  rw [wp_br ht]
  simp only [decide_eq_true_eq]
theorem wp_if_ge (hc : mC y = cc) {x : Int32} {off : Int} {t : Nat} (hd : decode cc pc = .ok (.ifCond .ge off, 3)) (ht : (pc : Int) + off = (t : Int)) (hn : pc + 3 = n2) : WP d y Q (pc, al, .int x :: st, h, c, s) = if 0 ≤ x then WP d y Q (t, al, st, h, c, s) else WP d y Q (n2, al, st, h, c, s) := by
  subst hn
  rw [wp_of hc hd rfl rfl]
  simp only [nxI, oIf]
  rw [wp_br ht]
  simp only [decide_eq_true_eq]
theorem wp_if_gt (hc : mC y = cc) {x : Int32} {off : Int} {t : Nat} (hd : decode cc pc = .ok (.ifCond .gt off, 3)) (ht : (pc : Int) + off = (t : Int)) (hn : pc + 3 = n2) : WP d y Q (pc, al, .int x :: st, h, c, s) = if 0 < x then WP d y Q (t, al, st, h, c, s) else WP d y Q (n2, al, st, h, c, s) := by
  subst hn
  rw [wp_of hc hd rfl rfl]
  simp only [nxI, oIf]
  rw [wp_br ht]
  simp only [decide_eq_true_eq]
theorem wp_if_le (hc : mC y = cc) {x : Int32} {off : Int} {t : Nat} (hd : decode cc pc = .ok (.ifCond .le off, 3)) (ht : (pc : Int) + off = (t : Int)) (hn : pc + 3 = n2) : WP d y Q (pc, al, .int x :: st, h, c, s) = if x ≤ 0 then WP d y Q (t, al, st, h, c, s) else WP d y Q (n2, al, st, h, c, s) := by
  subst hn
  rw [wp_of hc hd rfl rfl]
  simp only [nxI, oIf]
  rw [wp_br ht]
  simp only [decide_eq_true_eq]
theorem wp_icmp_eq (hc : mC y = cc) {a b : Int32} {off : Int} {t : Nat} (hd : decode cc pc = .ok (.if_icmp .eq off, 3)) (ht : (pc : Int) + off = (t : Int)) (hn : pc + 3 = n2) : WP d y Q (pc, al, .int b :: .int a :: st, h, c, s) = if a = b then WP d y Q (t, al, st, h, c, s) else WP d y Q (n2, al, st, h, c, s) := by
  subst hn
  rw [wp_of hc hd rfl rfl]
  simp only [nxI, oCm]
  rw [wp_br ht]
  simp only [decide_eq_true_eq]
theorem wp_icmp_ne (hc : mC y = cc) {a b : Int32} {off : Int} {t : Nat} (hd : decode cc pc = .ok (.if_icmp .ne off, 3)) (ht : (pc : Int) + off = (t : Int)) (hn : pc + 3 = n2) : WP d y Q (pc, al, .int b :: .int a :: st, h, c, s) = if ¬ a = b then WP d y Q (t, al, st, h, c, s) else WP d y Q (n2, al, st, h, c, s) := by
  subst hn
  rw [wp_of hc hd rfl rfl]
  simp only [nxI, oCm]
  rw [wp_br ht]
  simp only [decide_eq_true_eq]
theorem wp_icmp_lt (hc : mC y = cc) {a b : Int32} {off : Int} {t : Nat} (hd : decode cc pc = .ok (.if_icmp .lt off, 3)) (ht : (pc : Int) + off = (t : Int)) (hn : pc + 3 = n2) : WP d y Q (pc, al, .int b :: .int a :: st, h, c, s) = if a < b then WP d y Q (t, al, st, h, c, s) else WP d y Q (n2, al, st, h, c, s) := by
  subst hn
  rw [wp_of hc hd rfl rfl]
  simp only [nxI, oCm]
  rw [wp_br ht]
  simp only [decide_eq_true_eq]
theorem wp_icmp_ge (hc : mC y = cc) {a b : Int32} {off : Int} {t : Nat} (hd : decode cc pc = .ok (.if_icmp .ge off, 3)) (ht : (pc : Int) + off = (t : Int)) (hn : pc + 3 = n2) : WP d y Q (pc, al, .int b :: .int a :: st, h, c, s) = if b ≤ a then WP d y Q (t, al, st, h, c, s) else WP d y Q (n2, al, st, h, c, s) := by
  subst hn
  rw [wp_of hc hd rfl rfl]
  simp only [nxI, oCm]
  rw [wp_br ht]
  simp only [decide_eq_true_eq]
theorem wp_icmp_gt (hc : mC y = cc) {a b : Int32} {off : Int} {t : Nat} (hd : decode cc pc = .ok (.if_icmp .gt off, 3)) (ht : (pc : Int) + off = (t : Int)) (hn : pc + 3 = n2) : WP d y Q (pc, al, .int b :: .int a :: st, h, c, s) = if b < a then WP d y Q (t, al, st, h, c, s) else WP d y Q (n2, al, st, h, c, s) := by
  subst hn
  rw [wp_of hc hd rfl rfl]
  simp only [nxI, oCm]
  rw [wp_br ht]
  simp only [decide_eq_true_eq]
theorem wp_icmp_le (hc : mC y = cc) {a b : Int32} {off : Int} {t : Nat} (hd : decode cc pc = .ok (.if_icmp .le off, 3)) (ht : (pc : Int) + off = (t : Int)) (hn : pc + 3 = n2) : WP d y Q (pc, al, .int b :: .int a :: st, h, c, s) = if a ≤ b then WP d y Q (t, al, st, h, c, s) else WP d y Q (n2, al, st, h, c, s) := by
  subst hn
  rw [wp_of hc hd rfl rfl]
  simp only [nxI, oCm]
  rw [wp_br ht]
  simp only [decide_eq_true_eq]
theorem wp_ifnullN (hc : mC y = cc) {off : Int} {t : Nat} (hd : decode cc pc = .ok (.ifnull off, 3)) (ht : (pc : Int) + off = (t : Int)) (hn : pc + 3 = n2) : WP d y Q (pc, al, .null :: st, h, c, s) = WP d y Q (t, al, st, h, c, s) := by
  subst hn
  rw [wp_of hc hd rfl rfl]
  simp only [nxI, oNul, isN]
  rw [wp_br ht]
  simp
theorem wp_ifnullR (hc : mC y = cc) {x : Nat} {off : Int} {t : Nat} (hd : decode cc pc = .ok (.ifnull off, 3)) (ht : (pc : Int) + off = (t : Int)) (hn : pc + 3 = n2) : WP d y Q (pc, al, .ref x :: st, h, c, s) = WP d y Q (n2, al, st, h, c, s) := by
  subst hn
  rw [wp_of hc hd rfl rfl]
  simp only [nxI, oNul, isN]
  rw [wp_br ht]
  simp
theorem wp_ifnonnullN (hc : mC y = cc) {off : Int} {t : Nat} (hd : decode cc pc = .ok (.ifnonnull off, 3)) (ht : (pc : Int) + off = (t : Int)) (hn : pc + 3 = n2) : WP d y Q (pc, al, .null :: st, h, c, s) = WP d y Q (n2, al, st, h, c, s) := by
  subst hn
  rw [wp_of hc hd rfl rfl]
  simp only [nxI, oNul, isN]
  rw [wp_br ht]
  simp
theorem wp_ifnonnullR (hc : mC y = cc) {x : Nat} {off : Int} {t : Nat} (hd : decode cc pc = .ok (.ifnonnull off, 3)) (ht : (pc : Int) + off = (t : Int)) (hn : pc + 3 = n2) : WP d y Q (pc, al, .ref x :: st, h, c, s) = WP d y Q (t, al, st, h, c, s) := by
  subst hn
  rw [wp_of hc hd rfl rfl]
  simp only [nxI, oNul, isN]
  rw [wp_br ht]
  simp
theorem wp_goto (hc : mC y = cc) {off : Int} {t : Nat} (hd : decode cc pc = .ok (.goto off, 3)) (ht : (pc : Int) + off = (t : Int)) : WP d y Q (pc, al, st, h, c, s) = WP d y Q (t, al, st, h, c, s) := wp_of hc hd rfl (by simp only [nxI, oJmp]; rw [tgt_of ht])
def swP (x : Int32) (F : Nat → Prop) : Int32 → List Nat → Nat → Prop
  | _, [], d => F d
  | n, o :: os, d => if x = n then F o else swP x F (n + 1) os d
def swQ (x : Int32) (F : Nat → Prop) : List (Int32 × Nat) → Nat → Prop
  | [], d => F d
  | (k, o) :: os, d => if x = k then F o else swQ x F os d
theorem sw_eq (x : Int32) (dd : Int) (t0 : Nat) (F : Nat → Prop) : ∀ (offs : List Int) (ts : List Nat) (lo : Int32), ts.map (fun t => ((t : Nat) : Int)) = offs.map (fun o => (pc : Int) + o) → (pc : Int) + dd = (t0 : Int) → ∃ t : Nat, (pc : Int) + swT x lo offs dd = (t : Int) ∧ swP x F lo ts t0 = F t
  | [], [], lo, _, h0 => ⟨t0, h0, rfl⟩
  | [], _ :: _, lo, h, _ => by simp at h
  | _ :: _, [], lo, h, _ => by simp at h
  | o :: os, t :: ts, lo, h, h0 => by
    simp only [List.map_cons, List.cons.injEq] at h
    unfold swT swP
    by_cases hx : x = lo
    · rw [if_pos hx, if_pos hx]; exact ⟨t, h.1.symm, rfl⟩
    · rw [if_neg hx, if_neg hx]; exact sw_eq x dd t0 F os ts (lo + 1) h.2 h0
theorem swl_eq (x : Int32) (dd : Int) (t0 : Nat) (F : Nat → Prop) : ∀ (ps : List (Int × Int)) (ts : List (Int32 × Nat)), ts.map (fun t => (t.1, ((t.2 : Nat) : Int))) = ps.map (fun o => (Int32.ofInt o.1, (pc : Int) + o.2)) → (pc : Int) + dd = (t0 : Int) → ∃ t : Nat, (pc : Int) + swL x ps dd = (t : Int) ∧ swQ x F ts t0 = F t
  | [], [], _, h0 => ⟨t0, h0, rfl⟩
  | [], _ :: _, h, _ => by simp at h
  | _ :: _, [], h, _ => by simp at h
  | (k, o) :: os, (k2, t) :: ts, h, h0 => by
    simp only [List.map_cons, List.cons.injEq, Prod.mk.injEq] at h
    unfold swL swQ
    rw [h.1.1]
    by_cases hx : x = Int32.ofInt k
    · rw [if_pos hx, if_pos hx]; exact ⟨t, h.1.2.symm, rfl⟩
    · rw [if_neg hx, if_neg hx]; exact swl_eq x dd t0 F os ts h.2 h0
theorem wp_tab {x : Int32} {dd lo hi : Int} {offs : Array Int} {len : Nat} (ts : List Nat) (t0 : Nat) (lo' : Int32) (hc : mC y = cc) (hd : decode cc pc = .ok (.tableswitch dd lo hi offs, len)) (hk : okT lo hi offs = true) (hlo : Int32.ofInt lo = lo') (h1 : ts.map (fun t => ((t : Nat) : Int)) = offs.toList.map (fun o => (pc : Int) + o)) (h2 : (pc : Int) + dd = (t0 : Int)) : WP d y Q (pc, al, .int x :: st, h, c, s) = swP x (fun t => WP d y Q (t, al, st, h, c, s)) lo' ts t0 := by
  subst hlo
  rw [wp_of hc hd rfl rfl]
  simp only [nxI, oTab]
  rw [if_pos hk]
  obtain ⟨t, e1, e2⟩ := sw_eq x dd t0 (fun t => WP d y Q (t, al, st, h, c, s)) offs.toList ts (Int32.ofInt lo) h1 h2
  rw [e2]
  unfold oJmp
  rw [tgt_of e1]
  rfl
theorem wp_lok {x : Int32} {dd : Int} {ps : Array (Int × Int)} {len : Nat} (ts : List (Int32 × Nat)) (t0 : Nat) (hc : mC y = cc) (hd : decode cc pc = .ok (.lookupswitch dd ps, len)) (hk : okK ps.toList = true) (h1 : ts.map (fun t => (t.1, ((t.2 : Nat) : Int))) = ps.toList.map (fun o => (Int32.ofInt o.1, (pc : Int) + o.2))) (h2 : (pc : Int) + dd = (t0 : Int)) : WP d y Q (pc, al, .int x :: st, h, c, s) = swQ x (fun t => WP d y Q (t, al, st, h, c, s)) ts t0 := by
  rw [wp_of hc hd rfl rfl]
  simp only [nxI, oLok]
  rw [if_pos hk]
  obtain ⟨t, e1, e2⟩ := swl_eq x dd t0 (fun t => WP d y Q (t, al, st, h, c, s)) ps.toList ts h1 h2
  rw [e2]
  unfold oJmp
  rw [tgt_of e1]
  rfl
theorem wp_get0 (hc : mC y = cc) {o ci k a t : Nat} {fin : Bool} (hd : decode cc pc = .ok (.getfield i, 3)) (ho : mO y = o) (hf : fk o i = some (ci, k, 0, fin)) (ht : 10 + ci = t) (hn : pc + 3 = n2) : WP d y Q (pc, al, .ref a :: st, h, c, s) = (hkd h a = t ∧ WP d y Q (n2, al, .int (hI h a k) :: st, h, c, s)) := by
  subst hn ho ht
  rw [wp_of hc hd rfl rfl]
  simp only [nxI, oGet]
  rw [hf]
  by_cases h0 : hkd h a = 10 + ci <;> simp [h0, stO, oGo, fget]
theorem wp_get1 (hc : mC y = cc) {o ci k a t : Nat} {fin : Bool} (hd : decode cc pc = .ok (.getfield i, 3)) (ho : mO y = o) (hf : fk o i = some (ci, k, 1, fin)) (ht : 10 + ci = t) (hn : pc + 3 = n2) : WP d y Q (pc, al, .ref a :: st, h, c, s) = (hkd h a = t ∧ WP d y Q (n2, al, .long (hL h a k) :: st, h, c, s)) := by
  subst hn ho ht
  rw [wp_of hc hd rfl rfl]
  simp only [nxI, oGet]
  rw [hf]
  by_cases h0 : hkd h a = 10 + ci <;> simp [h0, stO, oGo, fget]
theorem wp_get2 (hc : mC y = cc) {o ci k a t : Nat} {fin : Bool} (hd : decode cc pc = .ok (.getfield i, 3)) (ho : mO y = o) (hf : fk o i = some (ci, k, 2, fin)) (ht : 10 + ci = t) (hn : pc + 3 = n2) : WP d y Q (pc, al, .ref a :: st, h, c, s) = (hkd h a = t ∧ WP d y Q (n2, al, va_rf (hR h a k) :: st, h, c, s)) := by
  subst hn ho ht
  rw [wp_of hc hd rfl rfl]
  simp only [nxI, oGet]
  rw [hf]
  by_cases h0 : hkd h a = 10 + ci <;> simp [h0, stO, oGo, fget]
theorem wp_get3 (hc : mC y = cc) {o ci k a t : Nat} {fin : Bool} (hd : decode cc pc = .ok (.getfield i, 3)) (ho : mO y = o) (hf : fk o i = some (ci, k, 3, fin)) (ht : 10 + ci = t) (hn : pc + 3 = n2) : WP d y Q (pc, al, .ref a :: st, h, c, s) = (hkd h a = t ∧ WP d y Q (n2, al, .int (hI h a k) :: st, h, c, s)) := by
  subst hn ho ht
  rw [wp_of hc hd rfl rfl]
  simp only [nxI, oGet]
  rw [hf]
  by_cases h0 : hkd h a = 10 + ci <;> simp [h0, stO, oGo, fget]
theorem wp_put0 (hc : mC y = cc) {o ci k a t : Nat} {fin : Bool} {x : Int32} (hd : decode cc pc = .ok (.putfield i, 3)) (ho : mO y = o) (hf : fk o i = some (ci, k, 0, fin)) (hok : okF fin y ci = true) (ht : 10 + ci = t) (hn : pc + 3 = n2) : WP d y Q (pc, al, .int x :: .ref a :: st, h, c, s) = (hkd h a = t ∧ WP d y Q (n2, al, st, sI h a k x, c, s)) := by
  subst hn ho ht
  rw [wp_of hc hd rfl rfl]
  simp only [nxI, oPut]
  rw [hf]
  by_cases h0 : hkd h a = 10 + ci <;> simp [h0, stO, oGo, hok]
theorem wp_put1 (hc : mC y = cc) {o ci k a t : Nat} {fin : Bool} {x : Int64} (hd : decode cc pc = .ok (.putfield i, 3)) (ho : mO y = o) (hf : fk o i = some (ci, k, 1, fin)) (hok : okF fin y ci = true) (ht : 10 + ci = t) (hn : pc + 3 = n2) : WP d y Q (pc, al, .long x :: .ref a :: st, h, c, s) = (hkd h a = t ∧ WP d y Q (n2, al, st, sL h a k x, c, s)) := by
  subst hn ho ht
  rw [wp_of hc hd rfl rfl]
  simp only [nxI, oPut]
  rw [hf]
  by_cases h0 : hkd h a = 10 + ci <;> simp [h0, stO, oGo, hok]
theorem wp_put2 (hc : mC y = cc) {o ci k a t : Nat} {fin : Bool} {x : Nat} (hd : decode cc pc = .ok (.putfield i, 3)) (ho : mO y = o) (hf : fk o i = some (ci, k, 2, fin)) (hok : okF fin y ci = true) (ht : 10 + ci = t) (hn : pc + 3 = n2) : WP d y Q (pc, al, .ref x :: .ref a :: st, h, c, s) = (hkd h a = t ∧ WP d y Q (n2, al, st, sR h a k (some x), c, s)) := by
  subst hn ho ht
  rw [wp_of hc hd rfl rfl]
  simp only [nxI, oPut]
  rw [hf]
  by_cases h0 : hkd h a = 10 + ci <;> simp [h0, stO, oGo, hok]
theorem wp_put3 (hc : mC y = cc) {o ci k a t : Nat} {fin : Bool} {x : Int32} (hd : decode cc pc = .ok (.putfield i, 3)) (ho : mO y = o) (hf : fk o i = some (ci, k, 3, fin)) (hok : okF fin y ci = true) (ht : 10 + ci = t) (hn : pc + 3 = n2) : WP d y Q (pc, al, .int x :: .ref a :: st, h, c, s) = ((hkd h a = t ∧ (x = 0 ∨ x = 1)) ∧ WP d y Q (n2, al, st, sI h a k x, c, s)) := by
  subst hn ho ht
  rw [wp_of hc hd rfl rfl]
  simp only [nxI, oPut]
  rw [hf]
  by_cases h0 : hkd h a = 10 + ci <;> by_cases h1 : x = 0 ∨ x = 1 <;> simp [h0, h1, stO, oGo, hok]
theorem wp_iaload (hc : mC y = cc) {i : Int32} {a : Nat} (hd : decode cc pc = .ok (.iaload, 1)) (hn : pc + 1 = n2) : WP d y Q (pc, al, .int i :: .ref a :: st, h, c, s) = (((hkd h a = 1 ∨ hkd h a = 2) ∧ (0 ≤ i ∧ ix i < hln h a)) ∧ WP d y Q (n2, al, .int (hI h a (ix i)) :: st, h, c, s)) := by
  subst hn
  rw [wp_of hc hd rfl rfl]
  simp only [nxI, oIal]
  split
  · rename_i h0
    simp only [h0, stO, oGo, true_and, and_self]
  · rename_i h0
    simp only [h0, stO, false_and]
theorem wp_laload (hc : mC y = cc) {i : Int32} {a : Nat} (hd : decode cc pc = .ok (.laload, 1)) (hn : pc + 1 = n2) : WP d y Q (pc, al, .int i :: .ref a :: st, h, c, s) = ((hkd h a = 3 ∧ (0 ≤ i ∧ ix i < hln h a)) ∧ WP d y Q (n2, al, .long (hL h a (ix i)) :: st, h, c, s)) := by
  subst hn
  rw [wp_of hc hd rfl rfl]
  simp only [nxI, oLal]
  split
  · rename_i h0
    simp only [h0, stO, oGo, true_and, and_self]
  · rename_i h0
    simp only [h0, stO, false_and]
theorem wp_aaload (hc : mC y = cc) {i : Int32} {a : Nat} (hd : decode cc pc = .ok (.aaload, 1)) (hn : pc + 1 = n2) : WP d y Q (pc, al, .int i :: .ref a :: st, h, c, s) = ((hkd h a = 4 ∧ (0 ≤ i ∧ ix i < hln h a)) ∧ WP d y Q (n2, al, va_rf (hR h a (ix i)) :: st, h, c, s)) := by
  subst hn
  rw [wp_of hc hd rfl rfl]
  simp only [nxI, oAal]
  split
  · rename_i h0
    simp only [h0, stO, oGo, true_and, and_self]
  · rename_i h0
    simp only [h0, stO, false_and]
theorem wp_iastore (hc : mC y = cc) {x i : Int32} {a : Nat} (hd : decode cc pc = .ok (.iastore, 1)) (hn : pc + 1 = n2) : WP d y Q (pc, al, .int x :: .int i :: .ref a :: st, h, c, s) = ((hkd h a = 2 ∧ (0 ≤ i ∧ ix i < hln h a)) ∧ WP d y Q (n2, al, st, sI h a (ix i) x, c, s)) := by
  subst hn
  rw [wp_of hc hd rfl rfl]
  simp only [nxI, oIas]
  split
  · rename_i h0
    simp only [h0, stO, oGo, true_and, and_self]
  · rename_i h0
    simp only [h0, stO, false_and]
theorem wp_lastore (hc : mC y = cc) {x : Int64} {i : Int32} {a : Nat} (hd : decode cc pc = .ok (.lastore, 1)) (hn : pc + 1 = n2) : WP d y Q (pc, al, .long x :: .int i :: .ref a :: st, h, c, s) = ((hkd h a = 3 ∧ (0 ≤ i ∧ ix i < hln h a)) ∧ WP d y Q (n2, al, st, sL h a (ix i) x, c, s)) := by
  subst hn
  rw [wp_of hc hd rfl rfl]
  simp only [nxI, oLas]
  split
  · rename_i h0
    simp only [h0, stO, oGo, true_and, and_self]
  · rename_i h0
    simp only [h0, stO, false_and]
theorem wp_aastore (hc : mC y = cc) {x a : Nat} {i : Int32} (hd : decode cc pc = .ok (.aastore, 1)) (hn : pc + 1 = n2) : WP d y Q (pc, al, .ref x :: .int i :: .ref a :: st, h, c, s) = (((hkd h a = 4 ∧ hkd h x = 14) ∧ (0 ≤ i ∧ ix i < hln h a)) ∧ WP d y Q (n2, al, st, sR h a (ix i) (some x), c, s)) := by
  subst hn
  rw [wp_of hc hd rfl rfl]
  simp only [nxI, oAas]
  split
  · rename_i h0
    simp only [h0, stO, oGo, true_and, and_self]
  · rename_i h0
    simp only [h0, stO, false_and]
theorem wp_arraylength (hc : mC y = cc) {a : Nat} (hd : decode cc pc = .ok (.arraylength, 1)) (hn : pc + 1 = n2) : WP d y Q (pc, al, .ref a :: st, h, c, s) = ((hkd h a = 1 ∨ hkd h a = 2 ∨ hkd h a = 3) ∧ WP d y Q (n2, al, .int (Int32.ofNat (hln h a)) :: st, h, c, s)) := by
  subst hn
  rw [wp_of hc hd rfl rfl]
  simp only [nxI, oAln]
  split
  · rename_i h0
    simp only [h0, stO, oGo, true_and, and_self]
  · rename_i h0
    simp only [h0, stO, false_and]
theorem wp_new (hc : mC y = cc) {o ci N t : Nat} (hd : decode cc pc = .ok (.new i, 3)) (ho : mO y = o) (hf : nk o i = some (ci, N)) (ht : 10 + ci = t) (hn : pc + 3 = n2) : WP d y Q (pc, al, st, h, c, s) = ((1 ≤ c ∧ N ≤ s) ∧ WP d y Q (n2, al, .ref (hnx h) :: st, snw h t 0, c - 1, s - N)) := by
  subst hn ho ht
  rw [wp_of hc hd rfl rfl]
  simp only [nxI, oNew]
  rw [hf]
  by_cases h0 : 1 ≤ c ∧ N ≤ s <;> simp [h0, stO, oGo]
theorem wp_newarrayI (hc : mC y = cc) {n : Int32} (hd : decode cc pc = .ok (.newarray .int, 2)) (hn : pc + 2 = n2) : WP d y Q (pc, al, .int n :: st, h, c, s) = (((0 ≤ n ∧ ix n ≤ 4096) ∧ (1 ≤ c ∧ ix n ≤ s)) ∧ WP d y Q (n2, al, .ref (hnx h) :: st, snw h 2 (ix n), c - 1, s - ix n)) := by
  subst hn
  rw [wp_of hc hd rfl rfl]
  simp only [nxI, oNwA]
  split
  · rename_i h0
    simp only [h0, stO, oGo, true_and, and_self]
  · rename_i h0
    simp only [h0, stO, false_and]
theorem wp_newarrayL (hc : mC y = cc) {n : Int32} (hd : decode cc pc = .ok (.newarray .long, 2)) (hn : pc + 2 = n2) : WP d y Q (pc, al, .int n :: st, h, c, s) = (((0 ≤ n ∧ ix n ≤ 4096) ∧ (1 ≤ c ∧ ix n ≤ s)) ∧ WP d y Q (n2, al, .ref (hnx h) :: st, snw h 3 (ix n), c - 1, s - ix n)) := by
  subst hn
  rw [wp_of hc hd rfl rfl]
  simp only [nxI, oNwA]
  split
  · rename_i h0
    simp only [h0, stO, oGo, true_and, and_self]
  · rename_i h0
    simp only [h0, stO, false_and]
theorem wp_anewarray (hc : mC y = cc) {n : Int32} (hd : decode cc pc = .ok (.anewarray i, 3)) (ha : ak (mO y) i = true) (hn : pc + 3 = n2) : WP d y Q (pc, al, .int n :: st, h, c, s) = (((0 ≤ n ∧ ix n ≤ 4096) ∧ (1 ≤ c ∧ ix n ≤ s)) ∧ WP d y Q (n2, al, .ref (hnx h) :: st, snw h 4 (ix n), c - 1, s - ix n)) := by
  subst hn
  rw [wp_of hc hd rfl rfl]
  simp only [nxI, oNwA, ha, if_true]
  split
  · rename_i h0
    simp only [h0, stO, oGo, true_and, and_self]
  · rename_i h0
    simp only [h0, stO, false_and]
theorem wp_objInit (hc : mC y = cc) {a : Nat} (hd : decode cc pc = .ok (.invokespecial i, 3)) (ho : ok (mO y) i = true) (hn : pc + 3 = n2) : WP d y Q (pc, al, .ref a :: st, h, c, s) = (wd st ≤ 8 ∧ WP d y Q (n2, al, st, h, c, s)) := by
  subst hn
  rw [wp_of hc hd rfl rfl]
  simp only [nxI, ho, if_true]
  split
  · rename_i h0
    simp only [h0, stO, oGo, true_and]
  · rename_i h0
    simp only [h0, stO, false_and]
theorem wp_mmax (hc : mC y = cc) {o : Nat} {a b : Int32} (hd : decode cc pc = .ok (.invokestatic i, 3)) (ho : mO y = o) (h1 : yk o i = false) (h2 : mx o i = 1) (hn : pc + 3 = n2) : WP d y Q (pc, al, .int b :: .int a :: st, h, c, s) = (wd st ≤ 8 ∧ WP d y Q (n2, al, .int (if a < b then b else a) :: st, h, c, s)) := by
  subst hn ho
  rw [wp_of hc hd rfl rfl]
  simp only [nxI, h1, h2, if_true, Bool.false_eq_true, if_false, oMx]
  split
  · rename_i h0
    simp only [h0, stO, oGo, true_and]
  · rename_i h0
    simp only [h0, stO, false_and]
theorem wp_mmin (hc : mC y = cc) {o : Nat} {a b : Int32} (hd : decode cc pc = .ok (.invokestatic i, 3)) (ho : mO y = o) (h1 : yk o i = false) (h2 : mx o i = 2) (hn : pc + 3 = n2) : WP d y Q (pc, al, .int b :: .int a :: st, h, c, s) = (wd st ≤ 8 ∧ WP d y Q (n2, al, .int (if b < a then b else a) :: st, h, c, s)) := by
  subst hn ho
  rw [wp_of hc hd rfl rfl]
  have h3 : ¬ (2 : Nat) = 1 := by decide
  simp only [nxI, h1, h2, h3, if_true, Bool.false_eq_true, if_false, oMx]
  split
  · rename_i h0
    simp only [h0, stO, oGo, true_and]
  · rename_i h0
    simp only [h0, stO, false_and]
theorem wp_copy (hc : mC y = cc) {n dp sp : Int32} {a b : Nat} (hd : decode cc pc = .ok (.invokestatic i, 3)) (h1 : yk (mO y) i = true) (hn : pc + 3 = n2) : WP d y Q (pc, al, .int n :: .int dp :: .ref b :: .int sp :: .ref a :: st, h, c, s) =
    (((0 ≤ sp ∧ 0 ≤ dp ∧ 0 ≤ n) ∧ (ix sp + ix n ≤ hln h a ∧ ix dp + ix n ≤ hln h b) ∧ wd st ≤ 8) ∧ if hkd h a = 2 ∧ hkd h b = 2 then WP d y Q (n2, al, st, cI h a b (ix sp) (ix dp) (ix n), c, s) else (hkd h a = 3 ∧ hkd h b = 3) ∧ WP d y Q (n2, al, st, cLg h a b (ix sp) (ix dp) (ix n), c, s)) := by
  subst hn
  rw [wp_of hc hd rfl rfl]
  simp only [nxI, h1, if_true, oCpy]
  by_cases h0 : (0 ≤ sp ∧ 0 ≤ dp ∧ 0 ≤ n) ∧ (ix sp + ix n ≤ hln h a ∧ ix dp + ix n ≤ hln h b) ∧ wd st ≤ 8
  · rw [if_pos h0]
    simp only [h0, true_and, and_self]
    by_cases h2 : hkd h a = 2 ∧ hkd h b = 2
    · rw [if_pos h2, if_pos h2]; rfl
    · rw [if_neg h2, if_neg h2]
      by_cases h3 : hkd h a = 3 ∧ hkd h b = 3
      · rw [if_pos h3]; simp only [h3, and_self, true_and]; rfl
      · rw [if_neg h3]; simp only [h3, false_and]; rfl
  · rw [if_neg h0]
    simp only [h0, false_and]; rfl
/-- a call on an object: which method, what it takes -/
theorem wp_inv (hc : mC y = cc) {y' ci t A B : Nat} {as vs : List Value} {b : Nat} (hd : decode cc pc = .ok (.invokevirtual i, 3)) (ho : lk (mO y) i = some y') (hk : mK y' = 1) (hci : mci y' = ci) (ht : 10 + ci = t) (hp : ∀ r, popN (mN y') [] (vs ++ r) = some (as, r)) (hsl : (sl (.ref b :: as)).length ≤ mL y') (hA : mA y' = A) (hB : mS y' = B) (hn : pc + 3 = n2) :
    WP d y Q (pc, al, vs ++ .ref b :: st, h, c, s) = ((hkd h b = t ∧ wd st ≤ 8 ∧ A ≤ c ∧ B ≤ s) ∧ Ev d y' (.ref b :: as) h (fun r h' => WP d y Q (n2, al, r.toList ++ st, h', c - A, s - B))) := by
  subst hn ht hci hA hB
  rw [wp_of hc hd rfl rfl]
  simp only [nxI, ho, hk, if_true, oInv, hp]
  by_cases h0 : hkd h b = 10 + mci y' ∧ wd st ≤ 8 ∧ mA y' ≤ c ∧ mS y' ≤ s
  · rw [if_pos ⟨⟨h0.1, h0.2.1⟩, h0.2.2, hsl⟩]
    simp only [h0, true_and, and_self]; rfl
  · rw [if_neg (fun q => h0 ⟨q.1.1, q.1.2, q.2.1⟩)]
    simp only [h0, false_and]; rfl
theorem wp_ini (hc : mC y = cc) {y' ci t A B : Nat} {as vs : List Value} {b : Nat} (hd : decode cc pc = .ok (.invokespecial i, 3)) (hok : ok (mO y) i = false) (ho : lk (mO y) i = some y') (hk : mK y' = 2) (hci : mci y' = ci) (ht : 10 + ci = t) (hp : ∀ r, popN (mN y') [] (vs ++ r) = some (as, r)) (hsl : (sl (.ref b :: as)).length ≤ mL y') (hA : mA y' = A) (hB : mS y' = B) (hn : pc + 3 = n2) :
    WP d y Q (pc, al, vs ++ .ref b :: st, h, c, s) = ((hkd h b = t ∧ wd st ≤ 8 ∧ A ≤ c ∧ B ≤ s) ∧ Ev d y' (.ref b :: as) h (fun r h' => WP d y Q (n2, al, r.toList ++ st, h', c - A, s - B))) := by
  subst hn ht hci hA hB
  rw [wp_of hc hd rfl rfl]
  simp only [nxI, hok, Bool.false_eq_true, if_false, ho, hk, if_true, oInv, hp]
  by_cases h0 : hkd h b = 10 + mci y' ∧ wd st ≤ 8 ∧ mA y' ≤ c ∧ mS y' ≤ s
  · rw [if_pos ⟨⟨h0.1, h0.2.1⟩, h0.2.2, hsl⟩]
    simp only [h0, true_and, and_self]; rfl
  · rw [if_neg (fun q => h0 ⟨q.1.1, q.1.2, q.2.1⟩)]
    simp only [h0, false_and]; rfl
theorem wp_sta (hc : mC y = cc) {y' A B : Nat} {as vs : List Value} (hd : decode cc pc = .ok (.invokestatic i, 3)) (h1 : yk (mO y) i = false) (h2 : mx (mO y) i = 0) (ho : lk (mO y) i = some y') (hk : mK y' = 0) (hp : ∀ r, popN (mN y') [] (vs ++ r) = some (as, r)) (hsl : (sl as).length ≤ mL y') (hA : mA y' = A) (hB : mS y' = B) (hn : pc + 3 = n2) :
    WP d y Q (pc, al, vs ++ st, h, c, s) = ((wd st ≤ 8 ∧ A ≤ c ∧ B ≤ s) ∧ Ev d y' as h (fun r h' => WP d y Q (n2, al, r.toList ++ st, h', c - A, s - B))) := by
  subst hn hA hB
  rw [wp_of hc hd rfl rfl]
  have h3 : ¬ (0 : Nat) = 1 := by decide
  have h4 : ¬ (0 : Nat) = 2 := by decide
  simp only [nxI, h1, h2, h3, h4, Bool.false_eq_true, if_false, ho, hk, if_true, oInS, hp]
  by_cases h0 : wd st ≤ 8 ∧ mA y' ≤ c ∧ mS y' ≤ s
  · rw [if_pos ⟨h0.1, h0.2, hsl⟩]
    simp only [h0, true_and, and_self]; rfl
  · rw [if_neg (fun q => h0 ⟨q.1, q.2.1⟩)]
    simp only [h0, false_and]; rfl
theorem wp_iret (hc : mC y = cc) {x : Int32} (hd : decode cc pc = .ok (.ireturn, 1)) (hr : mR y = some .int) : WP d y Q (pc, al, [.int x], h, c, s) = Q (some (.int x)) h := by
  rw [wp_of hc hd rfl rfl]
  simp only [nxI, oRtI, hr]
  rfl
theorem wp_zret (hc : mC y = cc) {x : Int32} (hd : decode cc pc = .ok (.ireturn, 1)) (hr : mR y = some .boolean) : WP d y Q (pc, al, [.int x], h, c, s) = ((x = 0 ∨ x = 1) ∧ Q (some (.int x)) h) := by
  rw [wp_of hc hd rfl rfl]
  simp only [nxI, oRtI, hr]
  split
  · rename_i h0
    simp only [h0, stO, oRet, true_and]
  · rename_i h0
    simp only [h0, stO, false_and]
theorem wp_lret (hc : mC y = cc) {x : Int64} (hd : decode cc pc = .ok (.lreturn, 1)) (hr : mR y = some .long) : WP d y Q (pc, al, [.long x], h, c, s) = Q (some (.long x)) h := by
  rw [wp_of hc hd rfl rfl]
  simp only [nxI, oRtL, hr]
  rfl
theorem wp_aret (hc : mC y = cc) {x : Nat} {w : String} (hd : decode cc pc = .ok (.areturn, 1)) (hr : mR y = some (.object w)) : WP d y Q (pc, al, [.ref x], h, c, s) = Q (some (.ref x)) h := by
  rw [wp_of hc hd rfl rfl]
  simp only [nxI, oRtA, hr]
  rfl
theorem wp_vret (hc : mC y = cc) (hd : decode cc pc = .ok (.return_, 1)) (hr : mR y = none) : WP d y Q (pc, al, [], h, c, s) = Q none h := by
  rw [wp_of hc hd rfl rfl]
  simp only [nxI, oRtV, hr]
  rfl
theorem gI_0 (x : Int32) (t : List Slot) : gI (.val (.int x) :: t) 0 = some x := rfl
theorem gI_1 (a : Slot) (t : List Slot) : gI (a :: t) 1 = gI t 0 := by cases a with
  | val v => cases v <;> rfl
  | unset => rfl
  | second => rfl
theorem gI_2 (a : Slot) (t : List Slot) : gI (a :: t) 2 = gI t 1 := by cases a with
  | val v => cases v <;> rfl
  | unset => rfl
  | second => rfl
theorem gI_3 (a : Slot) (t : List Slot) : gI (a :: t) 3 = gI t 2 := by cases a with
  | val v => cases v <;> rfl
  | unset => rfl
  | second => rfl
theorem gI_4 (a : Slot) (t : List Slot) : gI (a :: t) 4 = gI t 3 := by cases a with
  | val v => cases v <;> rfl
  | unset => rfl
  | second => rfl
theorem gI_5 (a : Slot) (t : List Slot) : gI (a :: t) 5 = gI t 4 := by cases a with
  | val v => cases v <;> rfl
  | unset => rfl
  | second => rfl
theorem gI_6 (a : Slot) (t : List Slot) : gI (a :: t) 6 = gI t 5 := by cases a with
  | val v => cases v <;> rfl
  | unset => rfl
  | second => rfl
theorem gI_7 (a : Slot) (t : List Slot) : gI (a :: t) 7 = gI t 6 := by cases a with
  | val v => cases v <;> rfl
  | unset => rfl
  | second => rfl
theorem gI_8 (a : Slot) (t : List Slot) : gI (a :: t) 8 = gI t 7 := by cases a with
  | val v => cases v <;> rfl
  | unset => rfl
  | second => rfl
theorem gI_9 (a : Slot) (t : List Slot) : gI (a :: t) 9 = gI t 8 := by cases a with
  | val v => cases v <;> rfl
  | unset => rfl
  | second => rfl
theorem gI_10 (a : Slot) (t : List Slot) : gI (a :: t) 10 = gI t 9 := by cases a with
  | val v => cases v <;> rfl
  | unset => rfl
  | second => rfl
theorem gI_11 (a : Slot) (t : List Slot) : gI (a :: t) 11 = gI t 10 := by cases a with
  | val v => cases v <;> rfl
  | unset => rfl
  | second => rfl
theorem gI_12 (a : Slot) (t : List Slot) : gI (a :: t) 12 = gI t 11 := by cases a with
  | val v => cases v <;> rfl
  | unset => rfl
  | second => rfl
theorem gI_13 (a : Slot) (t : List Slot) : gI (a :: t) 13 = gI t 12 := by cases a with
  | val v => cases v <;> rfl
  | unset => rfl
  | second => rfl
theorem gI_14 (a : Slot) (t : List Slot) : gI (a :: t) 14 = gI t 13 := by cases a with
  | val v => cases v <;> rfl
  | unset => rfl
  | second => rfl
theorem gI_15 (a : Slot) (t : List Slot) : gI (a :: t) 15 = gI t 14 := by cases a with
  | val v => cases v <;> rfl
  | unset => rfl
  | second => rfl
theorem gL_0 (x : Int64) (t : List Slot) : gL (.val (.long x) :: t) 0 = some x := rfl
theorem gL_1 (a : Slot) (t : List Slot) : gL (a :: t) 1 = gL t 0 := by cases a with
  | val v => cases v <;> rfl
  | unset => rfl
  | second => rfl
theorem gL_2 (a : Slot) (t : List Slot) : gL (a :: t) 2 = gL t 1 := by cases a with
  | val v => cases v <;> rfl
  | unset => rfl
  | second => rfl
theorem gL_3 (a : Slot) (t : List Slot) : gL (a :: t) 3 = gL t 2 := by cases a with
  | val v => cases v <;> rfl
  | unset => rfl
  | second => rfl
theorem gL_4 (a : Slot) (t : List Slot) : gL (a :: t) 4 = gL t 3 := by cases a with
  | val v => cases v <;> rfl
  | unset => rfl
  | second => rfl
theorem gL_5 (a : Slot) (t : List Slot) : gL (a :: t) 5 = gL t 4 := by cases a with
  | val v => cases v <;> rfl
  | unset => rfl
  | second => rfl
theorem gL_6 (a : Slot) (t : List Slot) : gL (a :: t) 6 = gL t 5 := by cases a with
  | val v => cases v <;> rfl
  | unset => rfl
  | second => rfl
theorem gL_7 (a : Slot) (t : List Slot) : gL (a :: t) 7 = gL t 6 := by cases a with
  | val v => cases v <;> rfl
  | unset => rfl
  | second => rfl
theorem gL_8 (a : Slot) (t : List Slot) : gL (a :: t) 8 = gL t 7 := by cases a with
  | val v => cases v <;> rfl
  | unset => rfl
  | second => rfl
theorem gL_9 (a : Slot) (t : List Slot) : gL (a :: t) 9 = gL t 8 := by cases a with
  | val v => cases v <;> rfl
  | unset => rfl
  | second => rfl
theorem gL_10 (a : Slot) (t : List Slot) : gL (a :: t) 10 = gL t 9 := by cases a with
  | val v => cases v <;> rfl
  | unset => rfl
  | second => rfl
theorem gL_11 (a : Slot) (t : List Slot) : gL (a :: t) 11 = gL t 10 := by cases a with
  | val v => cases v <;> rfl
  | unset => rfl
  | second => rfl
theorem gL_12 (a : Slot) (t : List Slot) : gL (a :: t) 12 = gL t 11 := by cases a with
  | val v => cases v <;> rfl
  | unset => rfl
  | second => rfl
theorem gL_13 (a : Slot) (t : List Slot) : gL (a :: t) 13 = gL t 12 := by cases a with
  | val v => cases v <;> rfl
  | unset => rfl
  | second => rfl
theorem gL_14 (a : Slot) (t : List Slot) : gL (a :: t) 14 = gL t 13 := by cases a with
  | val v => cases v <;> rfl
  | unset => rfl
  | second => rfl
theorem gL_15 (a : Slot) (t : List Slot) : gL (a :: t) 15 = gL t 14 := by cases a with
  | val v => cases v <;> rfl
  | unset => rfl
  | second => rfl
theorem gA_0 (x : Nat) (t : List Slot) : gA (.val (.ref x) :: t) 0 = some (.ref x) := rfl
theorem gA_1 (a : Slot) (t : List Slot) : gA (a :: t) 1 = gA t 0 := by cases a with
  | val v => cases v <;> rfl
  | unset => rfl
  | second => rfl
theorem gA_2 (a : Slot) (t : List Slot) : gA (a :: t) 2 = gA t 1 := by cases a with
  | val v => cases v <;> rfl
  | unset => rfl
  | second => rfl
theorem gA_3 (a : Slot) (t : List Slot) : gA (a :: t) 3 = gA t 2 := by cases a with
  | val v => cases v <;> rfl
  | unset => rfl
  | second => rfl
theorem gA_4 (a : Slot) (t : List Slot) : gA (a :: t) 4 = gA t 3 := by cases a with
  | val v => cases v <;> rfl
  | unset => rfl
  | second => rfl
theorem gA_5 (a : Slot) (t : List Slot) : gA (a :: t) 5 = gA t 4 := by cases a with
  | val v => cases v <;> rfl
  | unset => rfl
  | second => rfl
theorem gA_6 (a : Slot) (t : List Slot) : gA (a :: t) 6 = gA t 5 := by cases a with
  | val v => cases v <;> rfl
  | unset => rfl
  | second => rfl
theorem gA_7 (a : Slot) (t : List Slot) : gA (a :: t) 7 = gA t 6 := by cases a with
  | val v => cases v <;> rfl
  | unset => rfl
  | second => rfl
theorem gA_8 (a : Slot) (t : List Slot) : gA (a :: t) 8 = gA t 7 := by cases a with
  | val v => cases v <;> rfl
  | unset => rfl
  | second => rfl
theorem gA_9 (a : Slot) (t : List Slot) : gA (a :: t) 9 = gA t 8 := by cases a with
  | val v => cases v <;> rfl
  | unset => rfl
  | second => rfl
theorem gA_10 (a : Slot) (t : List Slot) : gA (a :: t) 10 = gA t 9 := by cases a with
  | val v => cases v <;> rfl
  | unset => rfl
  | second => rfl
theorem gA_11 (a : Slot) (t : List Slot) : gA (a :: t) 11 = gA t 10 := by cases a with
  | val v => cases v <;> rfl
  | unset => rfl
  | second => rfl
theorem gA_12 (a : Slot) (t : List Slot) : gA (a :: t) 12 = gA t 11 := by cases a with
  | val v => cases v <;> rfl
  | unset => rfl
  | second => rfl
theorem gA_13 (a : Slot) (t : List Slot) : gA (a :: t) 13 = gA t 12 := by cases a with
  | val v => cases v <;> rfl
  | unset => rfl
  | second => rfl
theorem gA_14 (a : Slot) (t : List Slot) : gA (a :: t) 14 = gA t 13 := by cases a with
  | val v => cases v <;> rfl
  | unset => rfl
  | second => rfl
theorem gA_15 (a : Slot) (t : List Slot) : gA (a :: t) 15 = gA t 14 := by cases a with
  | val v => cases v <;> rfl
  | unset => rfl
  | second => rfl
theorem p1_0 (v : Value) (a : Slot) (t : List Slot) : p1 v 0 (a :: t) = .val v :: t := rfl
theorem p1_1 (v : Value) (a : Slot) (t : List Slot) : p1 v 1 (a :: t) = cl2 a :: p1 v 0 t := by simp [p1]
theorem p1_2 (v : Value) (a : Slot) (t : List Slot) : p1 v 2 (a :: t) = a :: p1 v 1 t := by simp [p1]
theorem p1_3 (v : Value) (a : Slot) (t : List Slot) : p1 v 3 (a :: t) = a :: p1 v 2 t := by simp [p1]
theorem p1_4 (v : Value) (a : Slot) (t : List Slot) : p1 v 4 (a :: t) = a :: p1 v 3 t := by simp [p1]
theorem p1_5 (v : Value) (a : Slot) (t : List Slot) : p1 v 5 (a :: t) = a :: p1 v 4 t := by simp [p1]
theorem p1_6 (v : Value) (a : Slot) (t : List Slot) : p1 v 6 (a :: t) = a :: p1 v 5 t := by simp [p1]
theorem p1_7 (v : Value) (a : Slot) (t : List Slot) : p1 v 7 (a :: t) = a :: p1 v 6 t := by simp [p1]
theorem p1_8 (v : Value) (a : Slot) (t : List Slot) : p1 v 8 (a :: t) = a :: p1 v 7 t := by simp [p1]
theorem p1_9 (v : Value) (a : Slot) (t : List Slot) : p1 v 9 (a :: t) = a :: p1 v 8 t := by simp [p1]
theorem p1_10 (v : Value) (a : Slot) (t : List Slot) : p1 v 10 (a :: t) = a :: p1 v 9 t := by simp [p1]
theorem p1_11 (v : Value) (a : Slot) (t : List Slot) : p1 v 11 (a :: t) = a :: p1 v 10 t := by simp [p1]
theorem p1_12 (v : Value) (a : Slot) (t : List Slot) : p1 v 12 (a :: t) = a :: p1 v 11 t := by simp [p1]
theorem p1_13 (v : Value) (a : Slot) (t : List Slot) : p1 v 13 (a :: t) = a :: p1 v 12 t := by simp [p1]
theorem p1_14 (v : Value) (a : Slot) (t : List Slot) : p1 v 14 (a :: t) = a :: p1 v 13 t := by simp [p1]
theorem p1_15 (v : Value) (a : Slot) (t : List Slot) : p1 v 15 (a :: t) = a :: p1 v 14 t := by simp [p1]
theorem p2_0 (v : Value) (a b : Slot) (t : List Slot) : p2 v 0 (a :: b :: t) = .val v :: .second :: t := rfl
theorem p2_1 (v : Value) (a : Slot) (t : List Slot) : p2 v 1 (a :: t) = cl2 a :: p2 v 0 t := by simp [p2]
theorem p2_2 (v : Value) (a : Slot) (t : List Slot) : p2 v 2 (a :: t) = a :: p2 v 1 t := by simp [p2]
theorem p2_3 (v : Value) (a : Slot) (t : List Slot) : p2 v 3 (a :: t) = a :: p2 v 2 t := by simp [p2]
theorem p2_4 (v : Value) (a : Slot) (t : List Slot) : p2 v 4 (a :: t) = a :: p2 v 3 t := by simp [p2]
theorem p2_5 (v : Value) (a : Slot) (t : List Slot) : p2 v 5 (a :: t) = a :: p2 v 4 t := by simp [p2]
theorem p2_6 (v : Value) (a : Slot) (t : List Slot) : p2 v 6 (a :: t) = a :: p2 v 5 t := by simp [p2]
theorem p2_7 (v : Value) (a : Slot) (t : List Slot) : p2 v 7 (a :: t) = a :: p2 v 6 t := by simp [p2]
theorem p2_8 (v : Value) (a : Slot) (t : List Slot) : p2 v 8 (a :: t) = a :: p2 v 7 t := by simp [p2]
theorem p2_9 (v : Value) (a : Slot) (t : List Slot) : p2 v 9 (a :: t) = a :: p2 v 8 t := by simp [p2]
theorem p2_10 (v : Value) (a : Slot) (t : List Slot) : p2 v 10 (a :: t) = a :: p2 v 9 t := by simp [p2]
theorem p2_11 (v : Value) (a : Slot) (t : List Slot) : p2 v 11 (a :: t) = a :: p2 v 10 t := by simp [p2]
theorem p2_12 (v : Value) (a : Slot) (t : List Slot) : p2 v 12 (a :: t) = a :: p2 v 11 t := by simp [p2]
theorem p2_13 (v : Value) (a : Slot) (t : List Slot) : p2 v 13 (a :: t) = a :: p2 v 12 t := by simp [p2]
theorem p2_14 (v : Value) (a : Slot) (t : List Slot) : p2 v 14 (a :: t) = a :: p2 v 13 t := by simp [p2]
theorem p2_15 (v : Value) (a : Slot) (t : List Slot) : p2 v 15 (a :: t) = a :: p2 v 14 t := by simp [p2]
theorem cl2_i (x : Int32) : cl2 (.val (.int x)) = .val (.int x) := rfl
theorem cl2_r (x : Nat) : cl2 (.val (.ref x)) = .val (.ref x) := rfl
theorem cl2_l (x : Int64) : cl2 (.val (.long x)) = .unset := rfl
theorem cl2_u : cl2 .unset = .unset := rfl
theorem cl2_s : cl2 .second = .second := rfl
theorem wd_0 : wd [] = 0 := rfl
theorem wd_i (x : Int32) (t : List Value) : wd (.int x :: t) = 1 + wd t := rfl
theorem wd_r (x : Nat) (t : List Value) : wd (.ref x :: t) = 1 + wd t := rfl
theorem wd_l (x : Int64) (t : List Value) : wd (.long x :: t) = 2 + wd t := rfl
theorem wd_f (o : Option Nat) (t : List Value) : wd (va_rf o :: t) = 1 + wd t := by cases o <;> rfl
theorem ct_i (x : Int32) : (Value.int x).category = 1 := rfl
theorem ct_r (x : Nat) : (Value.ref x).category = 1 := rfl
theorem ct_n : Value.null.category = 1 := rfl
theorem ct_f (o : Option Nat) : (va_rf o).category = 1 := by cases o <;> rfl
theorem rf_s (x : Nat) : va_rf (some x) = .ref x := rfl
theorem rf_n : va_rf none = .null := rfl
theorem tl_s (v : Value) (st : List Value) : (some v).toList ++ st = v :: st := rfl
theorem tl_n (st : List Value) : (none : Option Value).toList ++ st = st := rfl
theorem Ev_eq (d y : Nat) (as : List Value) (h : HP) (Q : PQ) : Ev (d + 1) y as h Q = WP d y Q (ent y as h) := rfl
end MJE

/-! rows over Int: every int that a cell or the stack holds is written iI z, z a whole number -/
def iI (z : Int) : Int32 := Int32.ofInt z
def jA (g : Int → Int) : Nat → Int32 := fun j => iI (g (j : Int))
def jU (g : Int → Int) (i x : Int) : Int → Int := fun j => if j = i then x else g j
theorem iI_add (a b : Int) : iI a + iI b = iI (a + b) := (Int32.ofInt_add a b).symm
theorem iI_sub (a b : Int) : iI a - iI b = iI (a - b) := (Int32.ofInt_sub a b).symm
theorem iI_mul (a b : Int) : iI a * iI b = iI (a * b) := (Int32.ofInt_mul a b).symm
theorem iI_neg (a : Int) : - iI a = iI (-a) := (Int32.ofInt_neg a).symm
theorem iI_toInt {a : Int} (h : -2147483648 ≤ a ∧ a ≤ 2147483647) : (iI a).toInt = a := Int32.toInt_ofInt_of_le (by omega) (by omega)
theorem iI_of (x : Int32) : ∃ z : Int, (-2147483648 ≤ z ∧ z ≤ 2147483647) ∧ x = iI z := ⟨x.toInt, ⟨by have := Int32.le_toInt x; omega, by have := Int32.toInt_lt x; omega⟩, (Int32.ofInt_toInt x).symm⟩
theorem iI_le {a b : Int} (ha : -2147483648 ≤ a ∧ a ≤ 2147483647) (hb : -2147483648 ≤ b ∧ b ≤ 2147483647) : iI a ≤ iI b ↔ a ≤ b := by
  rw [Int32.le_iff_toInt_le, iI_toInt ha, iI_toInt hb]
theorem iI_lt {a b : Int} (ha : -2147483648 ≤ a ∧ a ≤ 2147483647) (hb : -2147483648 ≤ b ∧ b ≤ 2147483647) : iI a < iI b ↔ a < b := by
  rw [Int32.lt_iff_toInt_lt, iI_toInt ha, iI_toInt hb]
theorem iI_eq {a b : Int} (ha : -2147483648 ≤ a ∧ a ≤ 2147483647) (hb : -2147483648 ≤ b ∧ b ≤ 2147483647) : iI a = iI b ↔ a = b := by
  rw [← Int32.toInt_inj, iI_toInt ha, iI_toInt hb]
theorem iI_div {a b : Int} (h : 0 ≤ a ∧ a ≤ 2147483647 ∧ 0 < b ∧ b ≤ 2147483647) : iI a / iI b = iI (a / b) := by
  have h1 : 0 ≤ a / b := Int.ediv_nonneg h.1 (by omega)
  have h2 : a / b ≤ a := Int.ediv_le_self b h.1
  rw [← Int32.toInt_inj, iI_toInt (a := a / b) (by omega), Int32.toInt_div_of_ne_right, iI_toInt (by omega), iI_toInt (by omega), Int.tdiv_eq_ediv_of_nonneg h.1]
  intro hc
  have hc2 : (iI b).toInt = (-1 : Int32).toInt := by rw [hc]
  rw [iI_toInt (by omega), show (-1 : Int32).toInt = -1 by decide] at hc2
  omega
theorem iI_tdiv {a b : Int} (h : -2147483647 ≤ a ∧ a ≤ 2147483647 ∧ 0 < b ∧ b ≤ 2147483647) : iI a / iI b = iI (a.tdiv b) := by
  have h1 : (a.tdiv b).natAbs ≤ a.natAbs := by rw [Int.natAbs_tdiv]; exact Nat.div_le_self _ _
  rw [← Int32.toInt_inj, iI_toInt (a := a.tdiv b) (by omega), Int32.toInt_div_of_ne_right, iI_toInt (by omega), iI_toInt (by omega)]
  intro hc
  have hc2 : (iI b).toInt = (-1 : Int32).toInt := by rw [hc]
  rw [iI_toInt (by omega), show (-1 : Int32).toInt = -1 by decide] at hc2
  omega
theorem iI_ne0 {b : Int} (h : 0 < b ∧ b ≤ 2147483647) : ¬ iI b = 0 := by
  have h0 : (0 : Int32) = iI 0 := rfl
  rw [h0, iI_eq (by omega) (by omega)]
  omega
theorem iI_rem {a b : Int} (h : 0 ≤ a ∧ a ≤ 2147483647 ∧ 0 < b ∧ b ≤ 2147483647) : iI a - iI a / iI b * iI b = iI (a % b) := by
  rw [iI_div h, iI_mul, iI_sub, Int.emod_def, Int.mul_comm b]
theorem iI_clamp {i : Int} (h : 0 ≤ i ∧ i ≤ 2147483647) : (iI i).toNatClampNeg = i.toNat := by
  show (iI i).toInt.toNat = i.toNat
  rw [iI_toInt (by omega)]
theorem iI_in {i : Int} {n : Nat} (h : 0 ≤ i ∧ i < (n : Int) ∧ i ≤ 2147483647) : vp_in (iI i) n := by
  rw [vp_in_iff, iI_toInt (by omega)]
  omega
theorem iI_nI (n : Nat) : nI n = iI (n : Int) := (Int32.ofInt_eq_ofNat).symm
theorem jA_at (g : Int → Int) {i : Int} (h : 0 ≤ i ∧ i ≤ 2147483647) : jA g (iI i).toNatClampNeg = iI (g i) := by
  rw [iI_clamp h]
  show iI (g ((i.toNat : Nat) : Int)) = iI (g i)
  rw [Int.toNat_of_nonneg h.1]
theorem jA_upd (g : Int → Int) {i x : Int} (h : 0 ≤ i ∧ i ≤ 2147483647) : upd (jA g) (iI i).toNatClampNeg (iI x) = jA (jU g i x) := by
  funext j
  rw [iI_clamp h]
  show (if j = i.toNat then iI x else iI (g (j : Int))) = iI (if (j : Int) = i then x else g (j : Int))
  by_cases hj : j = i.toNat
  · rw [if_pos hj, if_pos (by omega)]
  · rw [if_neg hj, if_neg (by omega)]
theorem jU_s (g : Int → Int) (i x : Int) : jU g i x i = x := if_pos rfl
theorem jU_n (g : Int → Int) {i j : Int} (x : Int) (h : j ≠ i) : jU g i x j = g j := if_neg h
theorem jU_rng {g : Int → Int} {i x : Int} (h : ∀ j : Int, -2147483648 ≤ g j ∧ g j ≤ 2147483647) (hx : -2147483648 ≤ x ∧ x ≤ 2147483647) : ∀ j : Int, -2147483648 ≤ jU g i x j ∧ jU g i x j ≤ 2147483647 := by
  intro j
  unfold jU
  split
  · exact hx
  · exact h j
theorem jA_0 : (fun _ : Nat => (0 : Int32)) = jA (fun _ => 0) := rfl
section JZ
variable {p : Program} {l : Launch} {e : Env} {R : Room} {s : State} {m : MethodId} {args : Array Value} {below : List Frame} {meth : Method} {c : Code} {H : Heap} {locs : List Loc} {cells slots : Nat} {Q : State → Prop}
variable {cc : ByteArray} {pc : Nat} {ls : Array Slot} {rest : List Value} {D : va_G} {cl : List vw_C} {A : Nat → Prop} {a : Nat} {tys : List (ClassId × FieldType)} {ws : va_W} {H0 : Heap}
theorem jz_iconst (hexec : p.tables.exec = Jvm.exec) (hb : c.code = cc) {n : Int} (hdg : decode cc pc = .ok (.iconst n, 1)) (k : W p l e R s m args below meth c H locs cells slots Q (F0 m (pc + 1) ls (.int (iI n) :: rest))) : W p l e R s m args below meth c H locs cells slots Q (F0 m (pc) ls (rest)) := lv_iconst hexec hb hdg rfl k
theorem jz_bipush (hexec : p.tables.exec = Jvm.exec) (hb : c.code = cc) {n : Int} (hdg : decode cc pc = .ok (.bipush n, 2)) (hv : (Int8.ofInt n).toInt32 = iI n) (k : W p l e R s m args below meth c H locs cells slots Q (F0 m (pc + 2) ls (.int (iI n) :: rest))) : W p l e R s m args below meth c H locs cells slots Q (F0 m (pc) ls (rest)) := lv_bipush hexec hb hdg hv k
theorem jz_sipush (hexec : p.tables.exec = Jvm.exec) (hb : c.code = cc) {n : Int} (hdg : decode cc pc = .ok (.sipush n, 3)) (hv : (Int16.ofInt n).toInt32 = iI n) (k : W p l e R s m args below meth c H locs cells slots Q (F0 m (pc + 3) ls (.int (iI n) :: rest))) : W p l e R s m args below meth c H locs cells slots Q (F0 m (pc) ls (rest)) := lv_sipush hexec hb hdg hv k
theorem jz_iadd (hexec : p.tables.exec = Jvm.exec) (hb : c.code = cc) {x y : Int} (hdg : decode cc pc = .ok (.iadd, 1)) (k : W p l e R s m args below meth c H locs cells slots Q (F0 m (pc + 1) ls (.int (iI (x + y)) :: rest))) : W p l e R s m args below meth c H locs cells slots Q (F0 m (pc) ls (.int (iI y) :: .int (iI x) :: rest)) := by
  rw [← iI_add] at k
  exact lv_iadd hexec hb hdg k
theorem jz_isub (hexec : p.tables.exec = Jvm.exec) (hb : c.code = cc) {x y : Int} (hdg : decode cc pc = .ok (.isub, 1)) (k : W p l e R s m args below meth c H locs cells slots Q (F0 m (pc + 1) ls (.int (iI (x - y)) :: rest))) : W p l e R s m args below meth c H locs cells slots Q (F0 m (pc) ls (.int (iI y) :: .int (iI x) :: rest)) := by
  rw [← iI_sub] at k
  exact lv_isub hexec hb hdg k
theorem jz_imul (hexec : p.tables.exec = Jvm.exec) (hb : c.code = cc) {x y : Int} (hdg : decode cc pc = .ok (.imul, 1)) (k : W p l e R s m args below meth c H locs cells slots Q (F0 m (pc + 1) ls (.int (iI (x * y)) :: rest))) : W p l e R s m args below meth c H locs cells slots Q (F0 m (pc) ls (.int (iI y) :: .int (iI x) :: rest)) := by
  rw [← iI_mul] at k
  exact lv_imul hexec hb hdg k
theorem jz_ineg (hexec : p.tables.exec = Jvm.exec) (hb : c.code = cc) {x : Int} (hdg : decode cc pc = .ok (.ineg, 1)) (k : W p l e R s m args below meth c H locs cells slots Q (F0 m (pc + 1) ls (.int (iI (-x)) :: rest))) : W p l e R s m args below meth c H locs cells slots Q (F0 m (pc) ls (.int (iI x) :: rest)) := by
  rw [← iI_neg] at k
  exact lv_ineg hexec hb hdg k
theorem jz_idiv (hexec : p.tables.exec = Jvm.exec) (hb : c.code = cc) {x y : Int} (hdg : decode cc pc = .ok (.idiv, 1)) (h : 0 ≤ x ∧ x ≤ 2147483647 ∧ 0 < y ∧ y ≤ 2147483647) (k : W p l e R s m args below meth c H locs cells slots Q (F0 m (pc + 1) ls (.int (iI (x / y)) :: rest))) : W p l e R s m args below meth c H locs cells slots Q (F0 m (pc) ls (.int (iI y) :: .int (iI x) :: rest)) := by
  rw [← iI_div h] at k
  exact lv_idiv hexec hb hdg (iI_ne0 h.2.2) k
theorem jz_tdiv (hexec : p.tables.exec = Jvm.exec) (hb : c.code = cc) {x y : Int} (hdg : decode cc pc = .ok (.idiv, 1)) (h : -2147483647 ≤ x ∧ x ≤ 2147483647 ∧ 0 < y ∧ y ≤ 2147483647) (k : W p l e R s m args below meth c H locs cells slots Q (F0 m (pc + 1) ls (.int (iI (x.tdiv y)) :: rest))) : W p l e R s m args below meth c H locs cells slots Q (F0 m (pc) ls (.int (iI y) :: .int (iI x) :: rest)) := by
  rw [← iI_tdiv h] at k
  exact lv_idiv hexec hb hdg (iI_ne0 h.2.2) k
theorem jz_irem (hexec : p.tables.exec = Jvm.exec) (hb : c.code = cc) {x y : Int} (hdg : decode cc pc = .ok (.irem, 1)) (h : 0 ≤ x ∧ x ≤ 2147483647 ∧ 0 < y ∧ y ≤ 2147483647) (k : W p l e R s m args below meth c H locs cells slots Q (F0 m (pc + 1) ls (.int (iI (x % y)) :: rest))) : W p l e R s m args below meth c H locs cells slots Q (F0 m (pc) ls (.int (iI y) :: .int (iI x) :: rest)) := by
  rw [← iI_rem h] at k
  exact lv_irem hexec hb hdg (iI_ne0 h.2.2) k
theorem jz_icmp_eq (hexec : p.tables.exec = Jvm.exec) (hb : c.code = cc) {x y : Int} {off : Int} {tgt : Nat} (hdg : decode cc pc = .ok (.if_icmp .eq off, 3)) (ht : (pc : Int) + off = (tgt : Int)) (hr : (-2147483648 ≤ x ∧ x ≤ 2147483647) ∧ (-2147483648 ≤ y ∧ y ≤ 2147483647)) (kt : x = y → W p l e R s m args below meth c H locs cells slots Q (F0 m (tgt) ls (rest))) (kf : ¬ x = y → W p l e R s m args below meth c H locs cells slots Q (F0 m (pc + 3) ls (rest))) : W p l e R s m args below meth c H locs cells slots Q (F0 m (pc) ls (.int (iI y) :: .int (iI x) :: rest)) := by
  obtain ⟨hx, hy⟩ := hr
  refine lv_icmp_eq hexec hb hdg ht (fun h => kt ?_) (fun h => kf ?_)
  · rw [iI_eq hx hy] at h; omega
  · rw [iI_eq hx hy] at h; omega
theorem jz_if_eq (hexec : p.tables.exec = Jvm.exec) (hb : c.code = cc) {x : Int} {off : Int} {tgt : Nat} (hdg : decode cc pc = .ok (.ifCond .eq off, 3)) (ht : (pc : Int) + off = (tgt : Int)) (hr : -2147483648 ≤ x ∧ x ≤ 2147483647) (kt : x = 0 → W p l e R s m args below meth c H locs cells slots Q (F0 m (tgt) ls (rest))) (kf : ¬ x = 0 → W p l e R s m args below meth c H locs cells slots Q (F0 m (pc + 3) ls (rest))) : W p l e R s m args below meth c H locs cells slots Q (F0 m (pc) ls (.int (iI x) :: rest)) := by
  have hz : -2147483648 ≤ (0 : Int) ∧ (0 : Int) ≤ 2147483647 := by omega
  refine lv_if_eq hexec hb hdg ht (fun h => kt ?_) (fun h => kf ?_)
  · rw [show (0 : Int32) = iI 0 from rfl, iI_eq hr hz] at h; omega
  · rw [show (0 : Int32) = iI 0 from rfl, iI_eq hr hz] at h; omega
theorem jz_icmp_ne (hexec : p.tables.exec = Jvm.exec) (hb : c.code = cc) {x y : Int} {off : Int} {tgt : Nat} (hdg : decode cc pc = .ok (.if_icmp .ne off, 3)) (ht : (pc : Int) + off = (tgt : Int)) (hr : (-2147483648 ≤ x ∧ x ≤ 2147483647) ∧ (-2147483648 ≤ y ∧ y ≤ 2147483647)) (kt : ¬ x = y → W p l e R s m args below meth c H locs cells slots Q (F0 m (tgt) ls (rest))) (kf : x = y → W p l e R s m args below meth c H locs cells slots Q (F0 m (pc + 3) ls (rest))) : W p l e R s m args below meth c H locs cells slots Q (F0 m (pc) ls (.int (iI y) :: .int (iI x) :: rest)) := by
  obtain ⟨hx, hy⟩ := hr
  refine lv_icmp_ne hexec hb hdg ht (fun h => kt ?_) (fun h => kf ?_)
  · rw [iI_eq hx hy] at h; omega
  · rw [iI_eq hx hy] at h; omega
theorem jz_if_ne (hexec : p.tables.exec = Jvm.exec) (hb : c.code = cc) {x : Int} {off : Int} {tgt : Nat} (hdg : decode cc pc = .ok (.ifCond .ne off, 3)) (ht : (pc : Int) + off = (tgt : Int)) (hr : -2147483648 ≤ x ∧ x ≤ 2147483647) (kt : ¬ x = 0 → W p l e R s m args below meth c H locs cells slots Q (F0 m (tgt) ls (rest))) (kf : x = 0 → W p l e R s m args below meth c H locs cells slots Q (F0 m (pc + 3) ls (rest))) : W p l e R s m args below meth c H locs cells slots Q (F0 m (pc) ls (.int (iI x) :: rest)) := by
  have hz : -2147483648 ≤ (0 : Int) ∧ (0 : Int) ≤ 2147483647 := by omega
  refine lv_if_ne hexec hb hdg ht (fun h => kt ?_) (fun h => kf ?_)
  · rw [show (0 : Int32) = iI 0 from rfl, iI_eq hr hz] at h; omega
  · rw [show (0 : Int32) = iI 0 from rfl, iI_eq hr hz] at h; omega
theorem jz_icmp_lt (hexec : p.tables.exec = Jvm.exec) (hb : c.code = cc) {x y : Int} {off : Int} {tgt : Nat} (hdg : decode cc pc = .ok (.if_icmp .lt off, 3)) (ht : (pc : Int) + off = (tgt : Int)) (hr : (-2147483648 ≤ x ∧ x ≤ 2147483647) ∧ (-2147483648 ≤ y ∧ y ≤ 2147483647)) (kt : x < y → W p l e R s m args below meth c H locs cells slots Q (F0 m (tgt) ls (rest))) (kf : y ≤ x → W p l e R s m args below meth c H locs cells slots Q (F0 m (pc + 3) ls (rest))) : W p l e R s m args below meth c H locs cells slots Q (F0 m (pc) ls (.int (iI y) :: .int (iI x) :: rest)) := by
  obtain ⟨hx, hy⟩ := hr
  refine lv_icmp_lt hexec hb hdg ht (fun h => kt ?_) (fun h => kf ?_)
  · rw [iI_lt hx hy] at h; omega
  · rw [iI_lt hx hy] at h; omega
theorem jz_if_lt (hexec : p.tables.exec = Jvm.exec) (hb : c.code = cc) {x : Int} {off : Int} {tgt : Nat} (hdg : decode cc pc = .ok (.ifCond .lt off, 3)) (ht : (pc : Int) + off = (tgt : Int)) (hr : -2147483648 ≤ x ∧ x ≤ 2147483647) (kt : x < 0 → W p l e R s m args below meth c H locs cells slots Q (F0 m (tgt) ls (rest))) (kf : 0 ≤ x → W p l e R s m args below meth c H locs cells slots Q (F0 m (pc + 3) ls (rest))) : W p l e R s m args below meth c H locs cells slots Q (F0 m (pc) ls (.int (iI x) :: rest)) := by
  have hz : -2147483648 ≤ (0 : Int) ∧ (0 : Int) ≤ 2147483647 := by omega
  refine lv_if_lt hexec hb hdg ht (fun h => kt ?_) (fun h => kf ?_)
  · rw [show (0 : Int32) = iI 0 from rfl, iI_lt hr hz] at h; omega
  · rw [show (0 : Int32) = iI 0 from rfl, iI_lt hr hz] at h; omega
theorem jz_icmp_ge (hexec : p.tables.exec = Jvm.exec) (hb : c.code = cc) {x y : Int} {off : Int} {tgt : Nat} (hdg : decode cc pc = .ok (.if_icmp .ge off, 3)) (ht : (pc : Int) + off = (tgt : Int)) (hr : (-2147483648 ≤ x ∧ x ≤ 2147483647) ∧ (-2147483648 ≤ y ∧ y ≤ 2147483647)) (kt : y ≤ x → W p l e R s m args below meth c H locs cells slots Q (F0 m (tgt) ls (rest))) (kf : x < y → W p l e R s m args below meth c H locs cells slots Q (F0 m (pc + 3) ls (rest))) : W p l e R s m args below meth c H locs cells slots Q (F0 m (pc) ls (.int (iI y) :: .int (iI x) :: rest)) := by
  obtain ⟨hx, hy⟩ := hr
  refine lv_icmp_ge hexec hb hdg ht (fun h => kt ?_) (fun h => kf ?_)
  · rw [iI_le hy hx] at h; omega
  · rw [iI_le hy hx] at h; omega
theorem jz_if_ge (hexec : p.tables.exec = Jvm.exec) (hb : c.code = cc) {x : Int} {off : Int} {tgt : Nat} (hdg : decode cc pc = .ok (.ifCond .ge off, 3)) (ht : (pc : Int) + off = (tgt : Int)) (hr : -2147483648 ≤ x ∧ x ≤ 2147483647) (kt : 0 ≤ x → W p l e R s m args below meth c H locs cells slots Q (F0 m (tgt) ls (rest))) (kf : x < 0 → W p l e R s m args below meth c H locs cells slots Q (F0 m (pc + 3) ls (rest))) : W p l e R s m args below meth c H locs cells slots Q (F0 m (pc) ls (.int (iI x) :: rest)) := by
  have hz : -2147483648 ≤ (0 : Int) ∧ (0 : Int) ≤ 2147483647 := by omega
  refine lv_if_ge hexec hb hdg ht (fun h => kt ?_) (fun h => kf ?_)
  · rw [show (0 : Int32) = iI 0 from rfl, iI_le hz hr] at h; omega
  · rw [show (0 : Int32) = iI 0 from rfl, iI_le hz hr] at h; omega
theorem jz_icmp_gt (hexec : p.tables.exec = Jvm.exec) (hb : c.code = cc) {x y : Int} {off : Int} {tgt : Nat} (hdg : decode cc pc = .ok (.if_icmp .gt off, 3)) (ht : (pc : Int) + off = (tgt : Int)) (hr : (-2147483648 ≤ x ∧ x ≤ 2147483647) ∧ (-2147483648 ≤ y ∧ y ≤ 2147483647)) (kt : y < x → W p l e R s m args below meth c H locs cells slots Q (F0 m (tgt) ls (rest))) (kf : x ≤ y → W p l e R s m args below meth c H locs cells slots Q (F0 m (pc + 3) ls (rest))) : W p l e R s m args below meth c H locs cells slots Q (F0 m (pc) ls (.int (iI y) :: .int (iI x) :: rest)) := by
  obtain ⟨hx, hy⟩ := hr
  refine lv_icmp_gt hexec hb hdg ht (fun h => kt ?_) (fun h => kf ?_)
  · rw [iI_lt hy hx] at h; omega
  · rw [iI_lt hy hx] at h; omega
theorem jz_if_gt (hexec : p.tables.exec = Jvm.exec) (hb : c.code = cc) {x : Int} {off : Int} {tgt : Nat} (hdg : decode cc pc = .ok (.ifCond .gt off, 3)) (ht : (pc : Int) + off = (tgt : Int)) (hr : -2147483648 ≤ x ∧ x ≤ 2147483647) (kt : 0 < x → W p l e R s m args below meth c H locs cells slots Q (F0 m (tgt) ls (rest))) (kf : x ≤ 0 → W p l e R s m args below meth c H locs cells slots Q (F0 m (pc + 3) ls (rest))) : W p l e R s m args below meth c H locs cells slots Q (F0 m (pc) ls (.int (iI x) :: rest)) := by
  have hz : -2147483648 ≤ (0 : Int) ∧ (0 : Int) ≤ 2147483647 := by omega
  refine lv_if_gt hexec hb hdg ht (fun h => kt ?_) (fun h => kf ?_)
  · rw [show (0 : Int32) = iI 0 from rfl, iI_lt hz hr] at h; omega
  · rw [show (0 : Int32) = iI 0 from rfl, iI_lt hz hr] at h; omega
theorem jz_icmp_le (hexec : p.tables.exec = Jvm.exec) (hb : c.code = cc) {x y : Int} {off : Int} {tgt : Nat} (hdg : decode cc pc = .ok (.if_icmp .le off, 3)) (ht : (pc : Int) + off = (tgt : Int)) (hr : (-2147483648 ≤ x ∧ x ≤ 2147483647) ∧ (-2147483648 ≤ y ∧ y ≤ 2147483647)) (kt : x ≤ y → W p l e R s m args below meth c H locs cells slots Q (F0 m (tgt) ls (rest))) (kf : y < x → W p l e R s m args below meth c H locs cells slots Q (F0 m (pc + 3) ls (rest))) : W p l e R s m args below meth c H locs cells slots Q (F0 m (pc) ls (.int (iI y) :: .int (iI x) :: rest)) := by
  obtain ⟨hx, hy⟩ := hr
  refine lv_icmp_le hexec hb hdg ht (fun h => kt ?_) (fun h => kf ?_)
  · rw [iI_le hx hy] at h; omega
  · rw [iI_le hx hy] at h; omega
theorem jz_if_le (hexec : p.tables.exec = Jvm.exec) (hb : c.code = cc) {x : Int} {off : Int} {tgt : Nat} (hdg : decode cc pc = .ok (.ifCond .le off, 3)) (ht : (pc : Int) + off = (tgt : Int)) (hr : -2147483648 ≤ x ∧ x ≤ 2147483647) (kt : x ≤ 0 → W p l e R s m args below meth c H locs cells slots Q (F0 m (tgt) ls (rest))) (kf : 0 < x → W p l e R s m args below meth c H locs cells slots Q (F0 m (pc + 3) ls (rest))) : W p l e R s m args below meth c H locs cells slots Q (F0 m (pc) ls (.int (iI x) :: rest)) := by
  have hz : -2147483648 ≤ (0 : Int) ∧ (0 : Int) ≤ 2147483647 := by omega
  refine lv_if_le hexec hb hdg ht (fun h => kt ?_) (fun h => kf ?_)
  · rw [show (0 : Int32) = iI 0 from rfl, iI_le hr hz] at h; omega
  · rw [show (0 : Int32) = iI 0 from rfl, iI_le hr hz] at h; omega
theorem jz_ifb_eq (hexec : p.tables.exec = Jvm.exec) (hb : c.code = cc) {P : Prop} [Decidable P] {off : Int} {tgt : Nat} (hdg : decode cc pc = .ok (.ifCond .eq off, 3)) (ht : (pc : Int) + off = (tgt : Int)) (kt : ¬ P → W p l e R s m args below meth c H locs cells slots Q (F0 m (tgt) ls (rest))) (kf : P → W p l e R s m args below meth c H locs cells slots Q (F0 m (pc + 3) ls (rest))) : W p l e R s m args below meth c H locs cells slots Q (F0 m (pc) ls (.int (iI (if P then 1 else 0)) :: rest)) := by
  by_cases hp : P
  · rw [if_pos hp]; exact jz_if_eq hexec hb hdg ht (by omega) (fun h => absurd h (by omega)) (fun _ => kf hp)
  · rw [if_neg hp]; exact jz_if_eq hexec hb hdg ht (by omega) (fun _ => kt hp) (fun h => absurd rfl h)
theorem jz_ifb_ne (hexec : p.tables.exec = Jvm.exec) (hb : c.code = cc) {P : Prop} [Decidable P] {off : Int} {tgt : Nat} (hdg : decode cc pc = .ok (.ifCond .ne off, 3)) (ht : (pc : Int) + off = (tgt : Int)) (kt : P → W p l e R s m args below meth c H locs cells slots Q (F0 m (tgt) ls (rest))) (kf : ¬ P → W p l e R s m args below meth c H locs cells slots Q (F0 m (pc + 3) ls (rest))) : W p l e R s m args below meth c H locs cells slots Q (F0 m (pc) ls (.int (iI (if P then 1 else 0)) :: rest)) := by
  by_cases hp : P
  · rw [if_pos hp]; exact jz_if_ne hexec hb hdg ht (by omega) (fun _ => kt hp) (fun h => absurd h (by omega))
  · rw [if_neg hp]; exact jz_if_ne hexec hb hdg ht (by omega) (fun h => absurd rfl h) (fun _ => kf hp)
/-- the top of the stack by another name -/
theorem jz_top {x y : Int} (h : x = y) (k : W p l e R s m args below meth c H locs cells slots Q (F0 m (pc) ls (.int (iI y) :: rest))) : W p l e R s m args below meth c H locs cells slots Q (F0 m (pc) ls (.int (iI x) :: rest)) := by rw [h]; exact k
theorem jz_iald (hexec : p.tables.exec = Jvm.exec) (hb : c.code = cc) (hK : va_K D cl tys s) (hP : va_P D cl ws H) (q0 t0 : Nat) {cA : ClassId} {n : Nat} {g : Int → Int} (ha : ws[q0]? = some (a, .inl (cA, n, .inl (jA g)))) (ht : tys[t0]? = some (cA, .int)) {i : Int} (hi : 0 ≤ i ∧ i < (n : Int) ∧ i ≤ 2147483647) (hdg : decode cc pc = .ok (.iaload, 1)) (kk : W p l e R s m args below meth c H locs cells slots Q (F0 m (pc + 1) ls (.int (iI (g i)) :: rest))) : W p l e R s m args below meth c H locs cells slots Q (F0 m (pc) ls (.int (iI i) :: .ref a :: rest)) := by
  rw [← jA_at g (i := i) ⟨hi.1, hi.2.2⟩] at kk
  exact va_iald hexec hb hK hP q0 t0 ha ht (iI_in hi) hdg kk
theorem jz_iast (hexec : p.tables.exec = Jvm.exec) (hb : c.code = cc) (hK : va_K D cl tys s) (hP : va_P D cl ws H) (hD : va_D A ws) (hS : va_S A H0 H locs) (q0 t0 : Nat) {cA : ClassId} {n : Nat} {g : Int → Int} (ha : ws[q0]? = some (a, .inl (cA, n, .inl (jA g)))) (ht : tys[t0]? = some (cA, .int)) {i x : Int} (hi : 0 ≤ i ∧ i < (n : Int) ∧ i ≤ 2147483647) (hdg : decode cc pc = .ok (.iastore, 1)) (kk : ∀ (H1 : Heap) (locs1 : List Loc), va_P D cl (ws.set q0 (a, .inl (cA, n, .inl (jA (jU g i x))))) H1 → va_D A (ws.set q0 (a, .inl (cA, n, .inl (jA (jU g i x))))) → va_S A H0 H1 locs1 → W p l e R s m args below meth c H1 locs1 cells slots Q (F0 m (pc + 1) ls rest)) : W p l e R s m args below meth c H locs cells slots Q (F0 m (pc) ls (.int (iI x) :: .int (iI i) :: .ref a :: rest)) := by
  rw [← jA_upd g (i := i) (x := x) ⟨hi.1, hi.2.2⟩] at kk
  exact va_iast hexec hb hK hP hD hS q0 t0 ha ht (iI_in hi) hdg kk

/-- the top of the stack, whatever it is, as a number in range -/
theorem jz_nrm {x : Int32} (k : ∀ z : Int, -2147483648 ≤ z ∧ z ≤ 2147483647 → x = iI z → W p l e R s m args below meth c H locs cells slots Q (F0 m pc ls (.int (iI z) :: rest))) : W p l e R s m args below meth c H locs cells slots Q (F0 m pc ls (.int x :: rest)) := by
  obtain ⟨z, hz, rfl⟩ := iI_of x
  exact k z hz rfl
theorem jz_sidiv (hexec : p.tables.exec = Jvm.exec) (hb : c.code = cc) {x y : Int} (hdg : decode cc pc = .ok (.idiv, 1)) (h : -2147483648 ≤ y ∧ y ≤ 2147483647 ∧ y ≠ 0) (k : W p l e R s m args below meth c H locs cells slots Q (F0 m (pc + 1) ls (.int (iI x / iI y) :: rest))) : W p l e R s m args below meth c H locs cells slots Q (F0 m pc ls (.int (iI y) :: .int (iI x) :: rest)) := by
  refine lv_idiv hexec hb hdg (fun h0 => ?_) k
  rw [show (0 : Int32) = iI 0 from rfl, iI_eq (by omega) (by omega)] at h0
  omega
theorem jz_sirem (hexec : p.tables.exec = Jvm.exec) (hb : c.code = cc) {x y : Int} (hdg : decode cc pc = .ok (.irem, 1)) (h : -2147483648 ≤ y ∧ y ≤ 2147483647 ∧ y ≠ 0) (k : W p l e R s m args below meth c H locs cells slots Q (F0 m (pc + 1) ls (.int (iI x - iI x / iI y * iI y) :: rest))) : W p l e R s m args below meth c H locs cells slots Q (F0 m pc ls (.int (iI y) :: .int (iI x) :: rest)) := by
  refine lv_irem hexec hb hdg (fun h0 => ?_) k
  rw [show (0 : Int32) = iI 0 from rfl, iI_eq (by omega) (by omega)] at h0
  omega
theorem jz_aldq (hexec : p.tables.exec = Jvm.exec) (hb : c.code = cc) (hK : va_K D cl tys s) (hP : va_P D cl ws H) (q0 t0 : Nat) {cA : ClassId} {C : String} {n : Nat} {f : Nat → Option Nat} (ha : ws[q0]? = some (a, .inl (cA, n, .inr (.inr (.inr (.inr f)))))) (ht : tys[t0]? = some (cA, .object C)) {i : Int} (hi : 0 ≤ i ∧ i < (n : Int) ∧ i ≤ 2147483647) (hdg : decode cc pc = .ok (.aaload, 1))
    (kn : f i.toNat = none → W p l e R s m args below meth c H locs cells slots Q (F0 m (pc + 1) ls (.null :: rest))) (ks : ∀ x : Nat, f i.toNat = some x → W p l e R s m args below meth c H locs cells slots Q (F0 m (pc + 1) ls (.ref x :: rest))) : W p l e R s m args below meth c H locs cells slots Q (F0 m pc ls (.int (iI i) :: .ref a :: rest)) := by
  refine va_aldq hexec hb hK hP q0 t0 ha ht (iI_in hi) hdg ?_
  rw [iI_clamp ⟨hi.1, hi.2.2⟩]
  cases hf : f i.toNat with
  | none => exact kn hf
  | some x => exact ks x hf
theorem jz_aldk (hexec : p.tables.exec = Jvm.exec) (hb : c.code = cc) (hK : va_K D cl tys s) (hP : va_P D cl ws H) (q0 t0 : Nat) {cA : ClassId} {C : String} {n : Nat} {f : Nat → Option Nat} (ha : ws[q0]? = some (a, .inl (cA, n, .inr (.inr (.inr (.inr f)))))) (ht : tys[t0]? = some (cA, .object C)) {i : Int} (hi : 0 ≤ i ∧ i < (n : Int) ∧ i ≤ 2147483647) {x : Nat} (hf : f i.toNat = some x) (hdg : decode cc pc = .ok (.aaload, 1))
    (ks : W p l e R s m args below meth c H locs cells slots Q (F0 m (pc + 1) ls (.ref x :: rest))) : W p l e R s m args below meth c H locs cells slots Q (F0 m pc ls (.int (iI i) :: .ref a :: rest)) := by
  refine jz_aldq hexec hb hK hP q0 t0 ha ht hi hdg (fun h => ?_) (fun y h => ?_)
  · rw [hf] at h; cases h
  · rw [hf] at h; cases h; exact ks
theorem jz_lookup (hexec : p.tables.exec = Jvm.exec) (hb : c.code = cc) {dflt : Int} {ps : Array (Int × Int)} {len : Nat} {x : Int} {off : Int} {tgt : Nat} (hdg : decode cc pc = .ok (.lookupswitch dflt ps, len)) (hx : -2147483648 ≤ x ∧ x ≤ 2147483647) (hp : (ps.toList.zip (ps.toList.drop 1)).all (fun (a, next) => a.1 < next.1) = true) (ho : Op.lookupswitch.offset ps.toList dflt x = off) (ht : (pc : Int) + off = (tgt : Int)) (k : W p l e R s m args below meth c H locs cells slots Q (F0 m tgt ls rest)) : W p l e R s m args below meth c H locs cells slots Q (F0 m pc ls (.int (iI x) :: rest)) :=
  lv_lookup hexec hb hdg hp (by rw [iI_toInt hx]; exact ho) ht k
theorem jz_astq (hexec : p.tables.exec = Jvm.exec) (hb : c.code = cc) (hK : va_K D cl tys s) (hP : va_P D cl ws H) (hD : va_D A ws) (hS : va_S A H0 H locs) (q0 t0 qk ci : Nat) {cA : ClassId} {r : vw_C} {n v : Nat} {vs : List Value} {f : Nat → Option Nat} (ha : ws[q0]? = some (a, .inl (cA, n, .inr (.inr (.inr (.inr f)))))) (ht : tys[t0]? = some (cA, .object r.1)) (hv : ws[qk]? = some (v, .inr (ci, vs))) (hc : cl[ci]? = some r) {i : Int} (hi : 0 ≤ i ∧ i < (n : Int) ∧ i ≤ 2147483647) (hdg : decode cc pc = .ok (.aastore, 1))
    (kk : ∀ (H1 : Heap) (locs1 : List Loc), va_P D cl (ws.set q0 (a, .inl (cA, n, .inr (.inr (.inr (.inr (va_up f i.toNat (some v)))))))) H1 → va_D A (ws.set q0 (a, .inl (cA, n, .inr (.inr (.inr (.inr (va_up f i.toNat (some v)))))))) → va_S A H0 H1 locs1 → W p l e R s m args below meth c H1 locs1 cells slots Q (F0 m (pc + 1) ls rest)) : W p l e R s m args below meth c H locs cells slots Q (F0 m pc ls (.ref v :: .int (iI i) :: .ref a :: rest)) := by
  rw [← iI_clamp (i := i) ⟨hi.1, hi.2.2⟩] at kk
  exact va_astq hexec hb hK hP hD hS q0 t0 qk ci ha ht hv hc (iI_in hi) hdg kk
theorem jz_mmax (hexec : p.tables.exec = Jvm.exec) (hb : c.code = cc) (hml : c.maxLocals = ls.size) {own : String} {index : Nat} (hown : s.vm.findClass own = some m.cls) (hlink : (Cond.methodLink own index Lib.Math.max.name).before args s = true) (hstat : (Cond.static Lib.Math.max.name).before args s = true) (hini : (Cond.initialized "java/lang/Math").before args s = true) (hcode : (Cond.code Lib.Math.max.name Lib.Math.max.code 2 (some .int)).before args s = true)
    (hframes : 1 ≤ R.frames) (hlocals : (rest.map fun v => v.category).sum + 13 ≤ R.locals) (hc : cells ≤ R.cells) (hs : slots ≤ R.slots) {x y : Int} (hr : (-2147483648 ≤ x ∧ x ≤ 2147483647) ∧ (-2147483648 ≤ y ∧ y ≤ 2147483647)) (hdg : decode cc pc = .ok (.invokestatic index, 3))
    (kk : ∀ z : Int, (x < y ∧ z = y) ∨ (y ≤ x ∧ z = x) → W p l e R s m args below meth c H locs cells slots Q (F0 m (pc + 3) ls (.int (iI z) :: rest))) : W p l e R s m args below meth c H locs cells slots Q (F0 m pc ls (.int (iI y) :: .int (iI x) :: rest)) := by
  refine va_mmax hexec hb hml hown hlink hstat hini hcode hframes hlocals hc hs hdg ?_
  by_cases h : iI x < iI y
  · rw [if_pos h]
    rw [iI_lt hr.1 hr.2] at h
    exact kk y (Or.inl ⟨h, rfl⟩)
  · rw [if_neg h]
    rw [iI_lt hr.1 hr.2] at h
    exact kk x (Or.inr ⟨by omega, rfl⟩)
theorem jz_mmin (hexec : p.tables.exec = Jvm.exec) (hb : c.code = cc) (hml : c.maxLocals = ls.size) {own : String} {index : Nat} (hown : s.vm.findClass own = some m.cls) (hlink : (Cond.methodLink own index Lib.Math.min.name).before args s = true) (hstat : (Cond.static Lib.Math.min.name).before args s = true) (hini : (Cond.initialized "java/lang/Math").before args s = true) (hcode : (Cond.code Lib.Math.min.name Lib.Math.min.code 2 (some .int)).before args s = true)
    (hframes : 1 ≤ R.frames) (hlocals : (rest.map fun v => v.category).sum + 13 ≤ R.locals) (hc : cells ≤ R.cells) (hs : slots ≤ R.slots) {x y : Int} (hr : (-2147483648 ≤ x ∧ x ≤ 2147483647) ∧ (-2147483648 ≤ y ∧ y ≤ 2147483647)) (hdg : decode cc pc = .ok (.invokestatic index, 3))
    (kk : ∀ z : Int, (x ≤ y ∧ z = x) ∨ (y < x ∧ z = y) → W p l e R s m args below meth c H locs cells slots Q (F0 m (pc + 3) ls (.int (iI z) :: rest))) : W p l e R s m args below meth c H locs cells slots Q (F0 m pc ls (.int (iI y) :: .int (iI x) :: rest)) := by
  refine va_mmin hexec hb hml hown hlink hstat hini hcode hframes hlocals hc hs hdg ?_
  by_cases h : iI y < iI x
  · rw [if_pos h]
    rw [iI_lt hr.2 hr.1] at h
    exact kk y (Or.inr ⟨h, rfl⟩)
  · rw [if_neg h]
    rw [iI_lt hr.2 hr.1] at h
    exact kk x (Or.inl ⟨by omega, rfl⟩)
end JZ
abbrev kT (cI cQ cR : ClassId) : List (ClassId × FieldType) := [(cI, .int), (cQ, .object RX1), (cR, .object RX0)]
theorem k_P0 {D : va_G} {cl : List vw_C} {H : Heap} : va_P D cl [] H := fun k q h => by simp at h
/-! the words of a nest: carried in every contract's start -/
def kNf : List (Nat × String × String) := [(116, RX0, "parts"), (126, RX0, "minute"), (129, RX0, "meal"), (132, RX0, "correction"), (135, RX0, "atWork"), (138, RX0, "why"), (154, RX1, "count")]
def kNm : List (Nat × MethodName) := [(157, yX1_beginOfSpan), (160, yX1_endOfSpan), (163, yX1_valueOfSpan), (189, yX0_init), (70, yX1_init), (90, yX1_put), (94, yX1_valueAt)]
def kN (U : State) : Prop := (∀ q ∈ kNf, va_Nw (.fieldLinkNest RX2 q.1 q.2.1 q.2.2 "I" RX2) U) ∧ (∀ q ∈ kNm, va_Nw (.methodLinkNest RX2 q.1 q.2 RX2) U) ∧ va_AO RX0 U ∧ va_AO RX1 U
theorem kN_warm {s U : State} (hW : s.WarmedH U.vm) (h : kN s) : kN U := ⟨fun q hq => va_Nw.warmF hW (h.1 q hq), fun q hq => va_Nw.warmM hW (h.2.1 q hq), va_AO.moved hW.alike h.2.2.1, va_AO.moved hW.alike h.2.2.2⟩
theorem kN_same {s U : State} (hv : s.vm = U.vm) (h : kN s) : kN U := ⟨fun q hq => va_Nw.same rfl hv (h.1 q hq), fun q hq => va_Nw.same rfl hv (h.2.1 q hq), va_AO.moved (hv ▸ Vm.Alike.refl s.vm) h.2.2.1, va_AO.moved (hv ▸ Vm.Alike.refl s.vm) h.2.2.2⟩
/-! worlds as sets of cells; a list of cells and a rest -/
theorem k_Pm {D : va_G} {cl : List vw_C} {ws : va_W} {H : Heap} : va_P D cl ws H ↔ ∀ q ∈ ws, va_at D cl q H :=
  ⟨fun h q hq => by obtain ⟨k, hk⟩ := List.getElem?_of_mem hq; exact h k q hk, fun h _ q hk => h q (List.mem_of_getElem? hk)⟩
theorem k_Ps {D : va_G} {cl : List vw_C} {ws ws' : va_W} {H : Heap} (h : va_P D cl ws H) (hs : ∀ q ∈ ws', q ∈ ws) : va_P D cl ws' H := k_Pm.mpr (fun q hq => k_Pm.mp h q (hs q hq))
theorem k_Di {A : Nat → Prop} {ws : va_W} : va_D A ws ↔ ws.Pairwise (fun p q => p.1 ≠ q.1) ∧ ∀ q ∈ ws, A q.1 := by
  constructor
  · intro h
    refine ⟨List.pairwise_iff_getElem.mpr (fun i j hi hj hij he => ?_), fun q hq => ?_⟩
    · have := h.1 i j _ _ (List.getElem?_eq_getElem hi) (List.getElem?_eq_getElem hj) he
      omega
    · obtain ⟨k, hk⟩ := List.getElem?_of_mem hq
      exact h.2 k q hk
  · intro h
    have hp := List.pairwise_iff_getElem.mp h.1
    refine ⟨fun i j p q hi hj he => ?_, fun k q hk => h.2 q (List.mem_of_getElem? hk)⟩
    obtain ⟨li, ei⟩ := List.getElem?_eq_some_iff.mp hi
    obtain ⟨lj, ej⟩ := List.getElem?_eq_some_iff.mp hj
    rcases Nat.lt_trichotomy i j with h1 | h1 | h1
    · exact absurd (by rw [ei, ej]; exact he) (hp i j li lj h1)
    · exact h1
    · exact absurd (by rw [ei, ej]; exact he.symm) (hp j i lj li h1)
theorem k_Dapp {A : Nat → Prop} {X R : va_W} : va_D A (X ++ R) ↔ va_D A X ∧ va_D A R ∧ ∀ p ∈ X, ∀ q ∈ R, p.1 ≠ q.1 := by
  rw [k_Di, k_Di, k_Di, List.pairwise_append]
  constructor
  · intro h
    exact ⟨⟨h.1.1, fun q hq => h.2 q (List.mem_append_left _ hq)⟩, ⟨h.1.2.1, fun q hq => h.2 q (List.mem_append_right _ hq)⟩, h.1.2.2⟩
  · intro h
    exact ⟨⟨h.1.1, h.2.1.1, h.2.2⟩, fun q hq => (List.mem_append.mp hq).elim (h.1.2 q) (h.2.1.2 q)⟩
theorem k_Dp {A : Nat → Prop} {ws ws' : va_W} (h : va_D A ws) (hp : ws.Perm ws') : va_D A ws' := by
  rw [k_Di] at h ⊢
  exact ⟨(List.Perm.pairwise_iff (fun h => Ne.symm h) hp).mp h.1, fun q hq => h.2 q (hp.mem_iff.mpr hq)⟩
theorem k_sel {X X' : va_W} {is : List Nat} (hs : is.map (fun i => X[i]?) = X'.map some) : ∀ q ∈ X', q ∈ X := by
  intro q hq
  have h1 : some q ∈ X'.map some := List.mem_map.mpr ⟨q, hq, rfl⟩
  rw [← hs] at h1
  obtain ⟨i, -, h2⟩ := List.mem_map.mp h1
  exact List.mem_of_getElem? h2
theorem k_Dre {A : Nat → Prop} {X R : va_W} (X' : va_W) (h : va_D A (X ++ R)) (is : List Nat) (hn : va_nd is = true) (hs : is.map (fun i => X[i]?) = X'.map some) : va_D A (X' ++ R) := by
  rw [k_Dapp] at h ⊢
  exact ⟨h.1.sub is hn hs, h.2.1, fun p hp => h.2.2 p (k_sel hs p hp)⟩
theorem k_Pre {D : va_G} {cl : List vw_C} {X R : va_W} {H : Heap} (X' : va_W) (h : va_P D cl (X ++ R) H) (is : List Nat) (hs : is.map (fun i => X[i]?) = X'.map some) : va_P D cl (X' ++ R) H :=
  k_Ps h (fun q hq => (List.mem_append.mp hq).elim (fun g => List.mem_append_left _ (k_sel hs q g)) (fun g => List.mem_append_right _ g))
theorem k_Psw {D : va_G} {cl : List vw_C} {X R : va_W} {H : Heap} (h : va_P D cl (X ++ R) H) : va_P D cl (R ++ X) H :=
  k_Ps h (fun q hq => (List.mem_append.mp hq).elim (fun g => List.mem_append_right _ g) (fun g => List.mem_append_left _ g))
theorem k_Dsw {A : Nat → Prop} {X R : va_W} (h : va_D A (X ++ R)) : va_D A (R ++ X) := k_Dp h List.perm_append_comm
theorem k_Ppl {D : va_G} {cl : List vw_C} {X Y : va_W} {L : List Nat} {f : Nat → va_E} {a : Nat} {H : Heap} (h : va_P D cl (X ++ (va_pl L f ++ Y)) H) (ha : a ∈ L) {x : va_E} (hx : f a = x) : va_P D cl [(a, x)] H :=
  k_Ps h (fun q hq => by rw [List.mem_singleton] at hq; subst hq; exact List.mem_append_right _ (List.mem_append_left _ (List.mem_map.mpr ⟨a, ha, by rw [hx]⟩)))
theorem k_mvP {D : va_G} {cl : List vw_C} {X R C : va_W} {H : Heap} (h : va_P D cl ((X ++ R) ++ C) H) : va_P D cl ((X ++ C) ++ R) H :=
  k_Ps h (fun q hq => by simp only [List.mem_append] at hq ⊢; rcases hq with (h | h) | h <;> simp [h])
theorem k_mvD {A : Nat → Prop} {X R C : va_W} (h : va_D A ((X ++ R) ++ C)) : va_D A ((X ++ C) ++ R) :=
  k_Dp h (by rw [List.append_assoc, List.append_assoc]; exact List.Perm.append_left X List.perm_append_comm)
/-- a cell into the pool -/
theorem k_push {A : Nat → Prop} {D : va_G} {cl : List vw_C} {X Y : va_W} {L : List Nat} {f : Nat → va_E} {a : Nat} {x : va_E} {H : Heap} (hP : va_P D cl ((X ++ [(a, x)]) ++ (va_pl L f ++ Y)) H) (hD : va_D A ((X ++ [(a, x)]) ++ (va_pl L f ++ Y))) : a ∉ L ∧ va_P D cl (X ++ (va_pl (L ++ [a]) (va_up f a x) ++ Y)) H ∧ va_D A (X ++ (va_pl (L ++ [a]) (va_up f a x) ++ Y)) := by
  have ha : a ∉ L := by
    intro hm
    have h1 := (k_Dapp.mp hD).2.2 (a, x) (List.mem_append_right _ (List.mem_singleton.mpr rfl)) (a, f a) (List.mem_append_left _ (List.mem_map.mpr ⟨a, hm, rfl⟩))
    exact h1 rfl
  have hp : ((X ++ [(a, x)]) ++ (va_pl L f ++ Y)).Perm (X ++ (va_pl (L ++ [a]) (va_up f a x) ++ Y)) := by
    rw [← va_pl_push ha, List.append_assoc X, List.append_assoc (va_pl L f)]
    refine List.Perm.append_left X ?_
    have := List.Perm.append_right Y (List.perm_append_comm (l₁ := [(a, x)]) (l₂ := va_pl L f))
    simpa [List.append_assoc] using this
  exact ⟨ha, k_Ps hP (fun q hq => hp.mem_iff.mpr hq), k_Dp hD hp⟩
abbrev kD (d : Nat → Int) : va_E := .inr (0, [.int (iI (d 0)), .int (iI (d 1)), .int (iI (d 2)), .int (iI (d 3)), .int (iI (d 4)), .int (iI (d 5))])
def kF (a b c d e f : Int) : Nat → Int := fun i => match i with
  | 0 => a
  | 1 => b
  | 2 => c
  | 3 => d
  | 4 => e
  | _ => f
theorem kF_rng {a b c d e f : Int} (ha : -2147483648 ≤ a ∧ a ≤ 2147483647) (hb : -2147483648 ≤ b ∧ b ≤ 2147483647) (hc : -2147483648 ≤ c ∧ c ≤ 2147483647) (hd : -2147483648 ≤ d ∧ d ≤ 2147483647) (he : -2147483648 ≤ e ∧ e ≤ 2147483647) (hf : -2147483648 ≤ f ∧ f ≤ 2147483647) : ∀ i : Nat, -2147483648 ≤ kF a b c d e f i ∧ kF a b c d e f i ≤ 2147483647 := by
  intro i
  unfold kF
  split <;> assumption
def vw : Nat → Int := fun i => match i with
  | 0 => 10
  | 1 => 50
  | 2 => 100
  | 3 => 120
  | _ => 0
def kH (l : List Nat) : Nat → Nat := fun i => l.getD i 0
/-- the pool of the doses: each holds six numbers in range -/
def kPl (L : List Nat) (f : Nat → va_E) : Prop := ∀ a ∈ L, ∃ d : Nat → Int, f a = kD d ∧ ∀ i : Nat, -2147483648 ≤ d i ∧ d i ≤ 2147483647
theorem kPl_push {L : List Nat} {f : Nat → va_E} {a : Nat} {d : Nat → Int} (h : kPl L f) (ha : a ∉ L) (hd : ∀ i : Nat, -2147483648 ≤ d i ∧ d i ≤ 2147483647) : kPl (L ++ [a]) (va_up f a (kD d)) := by
  intro q hq
  rcases List.mem_append.mp hq with h1 | h1
  · obtain ⟨d', e1, e2⟩ := h q h1
    refine ⟨d', ?_, e2⟩
    rw [← e1]
    exact if_neg (fun e : q = a => ha (by rw [← e]; exact h1))
  · rw [List.mem_singleton] at h1
    subst h1
    exact ⟨d, if_pos rfl, hd⟩
theorem k_free {A0 : Nat → Prop} {ws : va_W} {H0 H : Heap} {locs : List Loc} (hD : va_D A0 ws) (hS : va_S A0 H0 H locs) (hA : ∀ q, H0.size ≤ q → A0 q) : ∀ q, va_A ws H.size q → A0 q := by
  intro q h
  rcases h with ⟨k, e, h⟩ | h
  · exact hD.2 k (q, e) h
  · exact hA q (Nat.le_trans hS.1 h)
/-! contracts: read-only, and writing, over a list of cells -/
def kR (D : va_G) (cl : List vw_C) (tys : List (ClassId × FieldType)) (av : List Value) (ws : va_W) : Array Value → State → Prop := va_Pc av (fun U => va_P D cl ws U.heap ∧ va_K D cl tys U ∧ kN U)
def kRi (post : Int → Prop) : Array Value → State → Outcome → State → Prop := vp_Si (fun r => ∃ z : Int, r = iI z ∧ post z)
def kPc (D : va_G) (cl : List vw_C) (tys : List (ClassId × FieldType)) (av : List Value) (ws : va_W) (sz : Nat) : Array Value → State → Prop := va_Pc av (fun U => U.heap.size = sz ∧ va_P D cl ws U.heap ∧ va_K D cl tys U ∧ va_D (fun _ => True) ws ∧ kN U)
def kZs (tz : Nat) (A : Nat → Prop) (U : State) : Prop := va_Z RX2 "VALUES_WITHOUT_SLOTS" "[I" (.ref tz) A U U.heap ∧ va_T .int tz 5 (fun j => .int (iI (vw j))) A U U.heap
def kPz (D : va_G) (cl : List vw_C) (tys : List (ClassId × FieldType)) (av : List Value) (ws : va_W) (sz tz : Nat) : Array Value → State → Prop := fun v U => kPc D cl tys av ws sz v U ∧ kZs tz (va_A ws sz) U
def kB {S : Type} (D : va_G) (cl : List vw_C) (A : Nat → Prop) (w : S → va_W) : S → State → Prop := fun u t => va_P D cl (w u) t.heap ∧ va_D A (w u)
def kQi {S : Type} (D : va_G) (cl : List vw_C) (A : Nat → Prop) (post : Int → S → Prop) (w : S → va_W) : Array Value → State → Outcome → State → Prop := va_Qi (fun r u => ∃ z : Int, r = iI z ∧ post z u) (kB D cl A w) A
def kQv {S : Type} (D : va_G) (cl : List vw_C) (A : Nat → Prop) (post : S → Prop) (w : S → va_W) : Array Value → State → Outcome → State → Prop := va_Qv post (kB D cl A w) A
def kQr {S : Type} (D : va_G) (cl : List vw_C) (A : Nat → Prop) (post : S → Nat → Prop) (w : S → Nat → va_W) : Array Value → State → Outcome → State → Prop := va_Qr (fun _ => True) (fun u a t => post u a ∧ va_P D cl (w u a) t.heap ∧ va_D A (w u a)) A
theorem kR_blind {D : va_G} {cl : List vw_C} {tys : List (ClassId × FieldType)} {av : List Value} {ws : va_W} : FrameBlind (kR D cl tys av ws) :=
  fun a U g mk q => ⟨q.1, q.2.1, va_K.moved (u := U) (U := U.calling g mk a) (Vm.Alike.refl U.vm) q.2.2.1, kN_same (s := U) (U := U.calling g mk a) rfl q.2.2.2⟩
theorem kPc_blind {D : va_G} {cl : List vw_C} {tys : List (ClassId × FieldType)} {av : List Value} {ws : va_W} {sz : Nat} : FrameBlind (kPc D cl tys av ws sz) :=
  fun a U g mk q => ⟨q.1, q.2.1, q.2.2.1, va_K.moved (u := U) (U := U.calling g mk a) (Vm.Alike.refl U.vm) q.2.2.2.1, q.2.2.2.2.1, kN_same (s := U) (U := U.calling g mk a) rfl q.2.2.2.2.2⟩
theorem kR_V {s : State} {H : Heap} {D : va_G} {cl : List vw_C} {tys tys0 : List (ClassId × FieldType)} {ws ws0 : va_W} {b ci q0 : Nat} {cq : vw_C} {fs As : List Value} (hK : va_K D cl tys s) (hN : kN s) (hP : va_P D cl ws H) (hK0 : va_K D cl tys0 s) (hP0 : va_P D cl ws0 H) (hc : cl[ci]? = some cq) (he : ws0[q0]? = some (b, .inr (ci, fs))) : PreV s H cq.1 b (kR D cl tys (.ref b :: As) ws) As :=
  ⟨kR_blind, va_recv hK0 hP0 hc he, fun U hU hW => ⟨rfl, by rw [hU]; exact hP, va_K.moved hW.alike hK, kN_warm hW hN⟩⟩
theorem kR_S {s : State} {H : Heap} {D : va_G} {cl : List vw_C} {tys : List (ClassId × FieldType)} {ws : va_W} {As : List Value} (hK : va_K D cl tys s) (hN : kN s) (hP : va_P D cl ws H) : PreS s H (kR D cl tys As ws) As :=
  ⟨kR_blind, fun U hU hW => ⟨rfl, by rw [hU]; exact hP, va_K.moved hW.alike hK, kN_warm hW hN⟩⟩
theorem kP_V {s : State} {H : Heap} {D : va_G} {cl : List vw_C} {tys : List (ClassId × FieldType)} {ws : va_W} {A : Nat → Prop} {b ci q0 : Nat} {cq : vw_C} {fs As : List Value} (hK : va_K D cl tys s) (hN : kN s) (hP : va_P D cl ws H) (hD : va_D A ws) (hc : cl[ci]? = some cq) (he : ws[q0]? = some (b, .inr (ci, fs))) : PreV s H cq.1 b (kPc D cl tys (.ref b :: As) ws H.size) As :=
  ⟨kPc_blind, va_recv hK hP hc he, fun U hU hW => ⟨rfl, by rw [hU], by rw [hU]; exact hP, va_K.moved hW.alike hK, hD.weaken (fun _ _ _ _ => trivial), kN_warm hW hN⟩⟩
theorem kP_S {s : State} {H : Heap} {D : va_G} {cl : List vw_C} {tys : List (ClassId × FieldType)} {ws : va_W} {A : Nat → Prop} {As : List Value} (hK : va_K D cl tys s) (hN : kN s) (hP : va_P D cl ws H) (hD : va_D A ws) : PreS s H (kPc D cl tys As ws H.size) As :=
  ⟨kPc_blind, fun U hU hW => ⟨rfl, by rw [hU], by rw [hU]; exact hP, va_K.moved hW.alike hK, hD.weaken (fun _ _ _ _ => trivial), kN_warm hW hN⟩⟩
section KW
variable {p : Program} {l : Launch} {e : Env} {R : Room} {s : State} {m : MethodId} {args : Array Value} {below : List Frame} {meth : Method} {c : Code} {H : Heap} {locs : List Loc} {cells slots : Nat} {Q : State → Prop}
variable {pc : Nat} {ls : Array Slot} {rest st0 : List Value} {D : va_G} {cl : List vw_C} {A0 : Nat → Prop} {ws : va_W} {H0 : Heap} {mc ms : Nat} {a : Array Value}
theorem kr_i {post : Int → Prop} (hr : va_Run p l e R s m args below meth c H locs cells slots 0 0 (F0 m pc ls st0) rest (kRi post a) (fun _ => False))
    (kk : ∀ z : Int, post z → W p l e R s m args below meth c H locs cells slots Q (F0 m (pc + 3) ls (.int (iI z) :: rest))) : W p l e R s m args below meth c H locs cells slots Q (F0 m pc ls st0) :=
  vp_callSi hr.run (fun r h => by obtain ⟨z, rfl, hz⟩ := h; exact kk z hz)
theorem kr_l {post : Int64 → Prop} (hr : va_Run p l e R s m args below meth c H locs cells slots 0 0 (F0 m pc ls st0) rest (vp_Sl post a) (fun _ => False))
    (kk : ∀ z : Int64, post z → W p l e R s m args below meth c H locs cells slots Q (F0 m (pc + 3) ls (.long z :: rest))) : W p l e R s m args below meth c H locs cells slots Q (F0 m pc ls st0) :=
  vp_callSl hr.run kk
theorem kw_i {S : Type} {post : Int → S → Prop} {w : S → va_W} (hr : va_Run p l e R s m args below meth c H locs cells slots mc ms (F0 m pc ls st0) rest (kQi D cl (va_A ws H.size) post w a) (va_A ws H.size)) (hD : va_D A0 ws) (hS : va_S A0 H0 H locs) (hA : ∀ q, H0.size ≤ q → A0 q)
    (kk : ∀ (z : Int) (u : S) (H1 : Heap) (locs1 : List Loc), post z u → va_P D cl (w u) H1 → va_D A0 (w u) → va_S A0 H0 H1 locs1 → H.size ≤ H1.size → W p l e R s m args below meth c H1 locs1 (cells + mc) (slots + ms) Q (F0 m (pc + 3) ls (.int (iI z) :: rest))) : W p l e R s m args below meth c H locs cells slots Q (F0 m pc ls st0) := by
  have hF := k_free hD hS hA
  refine va_calli hr hS (fun q _ h => hF q h) hF (fun r u t H1 locs1 ht hvm hw hB hz1 hk1 hS1 => ?_)
  obtain ⟨z, rfl, hw⟩ := hw
  exact kk z u H1 locs1 hw (by rw [← ht]; exact hB.1) (hB.2.weaken (fun _ q _ h => hF q.1 h)) hS1 hz1
theorem kw_v {S : Type} {post : S → Prop} {w : S → va_W} (hr : va_Run p l e R s m args below meth c H locs cells slots mc ms (F0 m pc ls st0) rest (kQv D cl (va_A ws H.size) post w a) (va_A ws H.size)) (hD : va_D A0 ws) (hS : va_S A0 H0 H locs) (hA : ∀ q, H0.size ≤ q → A0 q)
    (kk : ∀ (u : S) (H1 : Heap) (locs1 : List Loc), post u → va_P D cl (w u) H1 → va_D A0 (w u) → va_S A0 H0 H1 locs1 → H.size ≤ H1.size → W p l e R s m args below meth c H1 locs1 (cells + mc) (slots + ms) Q (F0 m (pc + 3) ls rest)) : W p l e R s m args below meth c H locs cells slots Q (F0 m pc ls st0) := by
  have hF := k_free hD hS hA
  refine va_callv hr hS (fun q _ h => hF q h) hF (fun u t H1 locs1 ht hvm hw hB hz1 hk1 hS1 => ?_)
  exact kk u H1 locs1 hw (by rw [← ht]; exact hB.1) (hB.2.weaken (fun _ q _ h => hF q.1 h)) hS1 hz1
theorem kw_r {S : Type} {post : S → Nat → Prop} {w : S → Nat → va_W} (hr : va_Run p l e R s m args below meth c H locs cells slots mc ms (F0 m pc ls st0) rest (kQr D cl (va_A ws H.size) post w a) (va_A ws H.size)) (hD : va_D A0 ws) (hS : va_S A0 H0 H locs) (hA : ∀ q, H0.size ≤ q → A0 q)
    (kk : ∀ (u : S) (ra : Nat) (H1 : Heap) (locs1 : List Loc), post u ra → va_P D cl (w u ra) H1 → va_D A0 (w u ra) → va_S A0 H0 H1 locs1 → H.size ≤ H1.size → W p l e R s m args below meth c H1 locs1 (cells + mc) (slots + ms) Q (F0 m (pc + 3) ls (.ref ra :: rest))) : W p l e R s m args below meth c H locs cells slots Q (F0 m pc ls st0) := by
  have hF := k_free hD hS hA
  refine va_callr hr hS (fun q _ h => hF q h) hF (fun u ra t H1 locs1 ht hvm hw hB hz1 hk1 hS1 => ?_)
  exact kk u ra H1 locs1 hB.1 (by rw [← ht]; exact hB.2.1) (hB.2.2.weaken (fun _ q _ h => hF q.1 h)) hS1 hz1
/-! new arrays of a known class -/
theorem k_newI {cc : ByteArray} {tys : List (ClassId × FieldType)} {cI : ClassId} {A : Nat → Prop} (hexec : p.tables.exec = Jvm.exec) (hb : c.code = cc) (harr : (Cond.arrayClass .int).before args s = true) (hK : va_K D cl tys s) (t0 : Nat) (ht : tys[t0]? = some (cI, .int)) (hP : va_P D cl ws H) (hD : va_D A ws) (hS : va_S A H0 H locs) (hA : ∀ q, H0.size ≤ q → A q) {n : Int} {N' : Nat} (hn : n = (N' : Int)) (hsm : N' ≤ 1000) (hcells : cells + 1 ≤ R.cells) (hslots : slots + N' ≤ R.slots) (hdg : decode cc pc = .ok (.newarray .int, 2))
    (kk : ∀ (q : Nat) (H1 : Heap), va_P D cl (ws ++ [(q, .inl (cI, N', .inl (jA (fun _ => 0))))]) H1 → va_D A (ws ++ [(q, .inl (cI, N', .inl (jA (fun _ => 0))))]) → va_S A H0 H1 locs → W p l e R s m args below meth c H1 locs (cells + 1) (slots + N') Q (F0 m (pc + 2) ls (.ref q :: rest))) : W p l e R s m args below meth c H locs cells slots Q (F0 m pc ls (.int (iI n) :: rest)) := by
  subst hn
  refine va_newa (atype := .int) (ty := .int) (N' := N') (a0 := (N', .inl (jA (fun _ => 0)))) hexec hb harr rfl hK hP hD hS hA (fun _ => rfl) ?_ ?_ ?_ hcells hslots hdg (fun q cA H1 hK1 hP1 hD1 hS1 => ?_)
  · intro h
    rw [show (0 : Int32) = iI 0 from rfl, iI_lt (by omega) (by omega)] at h
    omega
  · rw [iI_clamp (by omega)]; rfl
  · show N' * 4 ≤ 536870912
    omega
  · have h1 : s.vm.findClass _ = some cI := (hK.2 t0 _ ht).2
    have h2 : s.vm.findClass _ = some cA := (hK1.2 tys.length (cA, .int) (by simp)).2
    have e1 : cA = cI := Option.some.inj (h2.symm.trans h1)
    subst e1
    exact kk q H1 hP1 hD1 hS1
theorem k_newQ {cc : ByteArray} {tys : List (ClassId × FieldType)} {cX : ClassId} {A : Nat → Prop} {own C : String} {index : Nat} (hexec : p.tables.exec = Jvm.exec) (hb : c.code = cc) (hown : s.vm.findClass own = some m.cls) (hclink : (Cond.classLink own index C).before args s = true) (hover : va_AO C s) (hK : va_K D cl tys s) (t0 : Nat) (ht : tys[t0]? = some (cX, .object C)) (hP : va_P D cl ws H) (hD : va_D A ws) (hS : va_S A H0 H locs) (hA : ∀ q, H0.size ≤ q → A q) {n : Int} {N' : Nat} (hn : n = (N' : Int)) (hsm : N' ≤ 1000) (hcells : cells + 1 ≤ R.cells) (hslots : slots + N' ≤ R.slots) (hdg : decode cc pc = .ok (.anewarray index, 3))
    (kk : ∀ (q : Nat) (H1 : Heap), va_P D cl (ws ++ [(q, .inl (cX, N', .inr (.inr (.inr (.inr (fun _ => none))))))]) H1 → va_D A (ws ++ [(q, .inl (cX, N', .inr (.inr (.inr (.inr (fun _ => none))))))]) → va_S A H0 H1 locs → W p l e R s m args below meth c H1 locs (cells + 1) (slots + N') Q (F0 m (pc + 3) ls (.ref q :: rest))) : W p l e R s m args below meth c H locs cells slots Q (F0 m pc ls (.int (iI n) :: rest)) := by
  subst hn
  refine va_newq (N' := N') hexec hb hown hclink hover hK hP hD hS hA ?_ ?_ (by omega) hcells hslots hdg (fun q cA H1 hK1 hP1 hD1 hS1 => ?_)
  · intro h
    rw [show (0 : Int32) = iI 0 from rfl, iI_lt (by omega) (by omega)] at h
    omega
  · rw [iI_clamp (by omega)]; rfl
  · obtain ⟨k1, c1, -, -, -, h1⟩ := (hK.2 t0 _ ht).2
    obtain ⟨k2, c2, -, -, -, h2⟩ := (hK1.2 tys.length (cA, .object C) (by simp)).2
    have e1 : cA = cX := Option.some.inj (h2.symm.trans h1)
    subst e1
    exact kk q H1 hP1 hD1 hS1
/-! returns -/
variable {cc : ByteArray} {z : Int} {A : Nat → Prop}
theorem jr_i {post : Int → Prop} (hexec : p.tables.exec = Jvm.exec) (hb : c.code = cc) (hr : meth.sig.returnType = some .int) (hlocks : meth.locks = false) (hp : post z) (hdg : decode cc pc = .ok (.ireturn, 1)) : W p l e R s m args below meth c s.heap [] 0 0 (MQ below (kRi post) args s 0 0 (fun _ => False)) (F0 m pc ls [.int (iI z)]) :=
  W.iret (v := iI z) hexec hb hr (fun _ ht _ => ⟨iI z, rfl, ⟨z, rfl, hp⟩, ht⟩) (fun _ h => by cases h) hdg hlocks
theorem jr_l {post : Int64 → Prop} {z : Int64} (hexec : p.tables.exec = Jvm.exec) (hb : c.code = cc) (hr : meth.sig.returnType = some .long) (hlocks : meth.locks = false) (hp : post z) (hdg : decode cc pc = .ok (.lreturn, 1)) : W p l e R s m args below meth c s.heap [] 0 0 (MQ below (vp_Sl post) args s 0 0 (fun _ => False)) (F0 m pc ls [.long z]) :=
  W.lret (v := z) hexec hb hr (fun _ ht _ => ⟨z, rfl, hp, ht⟩) (fun _ h => by cases h) hdg hlocks
theorem k_nz (hz : z = 0 ∨ z = 1) : narrow .boolean (.int (iI z)) = .int (iI z) := by rcases hz with rfl | rfl <;> rfl
theorem jr_z {post : Int → Prop} (hexec : p.tables.exec = Jvm.exec) (hb : c.code = cc) (hr : meth.sig.returnType = some .boolean) (hlocks : meth.locks = false) (hz : z = 0 ∨ z = 1) (hp : post z) (hdg : decode cc pc = .ok (.ireturn, 1)) : W p l e R s m args below meth c s.heap [] 0 0 (MQ below (kRi post) args s 0 0 (fun _ => False)) (F0 m pc ls [.int (iI z)]) :=
  W.zret (v := iI z) hexec hb hr (k_nz hz) (fun _ ht _ => ⟨iI z, rfl, ⟨z, rfl, hp⟩, ht⟩) (fun _ h => by cases h) hdg hlocks
theorem jw_i {S : Type} {post : Int → S → Prop} {w : S → va_W} (hexec : p.tables.exec = Jvm.exec) (hb : c.code = cc) (hr : meth.sig.returnType = some .int) (hlocks : meth.locks = false) (u : S) (hp : post z u) (hP : va_P D cl (w u) H) (hD : va_D A (w u)) (hS : va_S A s.heap H locs) (hdg : decode cc pc = .ok (.ireturn, 1)) : W p l e R s m args below meth c H locs cells slots (MQ below (kQi D cl A post w) args s cells slots A) (F0 m pc ls [.int (iI z)]) :=
  W.iret (v := iI z) hexec hb hr (fun _ ht _ => ⟨⟨iI z, u, rfl, ⟨z, rfl, hp⟩, by rw [ht]; exact hP, hD⟩, hS.F ht⟩) hS.2.2 hdg hlocks
theorem jw_z {S : Type} {post : Int → S → Prop} {w : S → va_W} (hexec : p.tables.exec = Jvm.exec) (hb : c.code = cc) (hr : meth.sig.returnType = some .boolean) (hlocks : meth.locks = false) (u : S) (hz : z = 0 ∨ z = 1) (hp : post z u) (hP : va_P D cl (w u) H) (hD : va_D A (w u)) (hS : va_S A s.heap H locs) (hdg : decode cc pc = .ok (.ireturn, 1)) : W p l e R s m args below meth c H locs cells slots (MQ below (kQi D cl A post w) args s cells slots A) (F0 m pc ls [.int (iI z)]) :=
  W.zret (v := iI z) hexec hb hr (k_nz hz) (fun _ ht _ => ⟨⟨iI z, u, rfl, ⟨z, rfl, hp⟩, by rw [ht]; exact hP, hD⟩, hS.F ht⟩) hS.2.2 hdg hlocks
theorem jw_v {S : Type} {post : S → Prop} {w : S → va_W} (hexec : p.tables.exec = Jvm.exec) (hb : c.code = cc) (hr : meth.sig.returnType = none) (hlocks : meth.locks = false) (u : S) (hp : post u) (hP : va_P D cl (w u) H) (hD : va_D A (w u)) (hS : va_S A s.heap H locs) (hdg : decode cc pc = .ok (.return_, 1)) : W p l e R s m args below meth c H locs cells slots (MQ below (kQv D cl A post w) args s cells slots A) (F0 m pc ls []) :=
  W.vret hexec hb hr (fun _ ht _ => ⟨⟨u, rfl, hp, by rw [ht]; exact hP, hD⟩, hS.F ht⟩) hS.2.2 hdg hlocks
theorem jw_r {S : Type} {post : S → Nat → Prop} {w : S → Nat → va_W} {rt : FieldType} {ra : Nat} (hexec : p.tables.exec = Jvm.exec) (hb : c.code = cc) (hr : meth.sig.returnType = some rt) (hlocks : meth.locks = false) (hrt : ∃ n, rt = .object n) (u : S) (hp : post u ra) (hP : va_P D cl (w u ra) H) (hD : va_D A (w u ra)) (hS : va_S A s.heap H locs) (hdg : decode cc pc = .ok (.areturn, 1)) : W p l e R s m args below meth c H locs cells slots (MQ below (kQr D cl A post w) args s cells slots A) (F0 m pc ls [.ref ra]) :=
  W.aret hexec hb hr (Or.inl hrt) (Or.inr ⟨ra, rfl⟩) (fun _ ht _ => ⟨⟨u, ra, rfl, trivial, hp, by rw [ht]; exact hP, hD⟩, hS.F ht⟩) hS.2.2 hdg hlocks
/-! entries -/
variable {y : MethodName} {wsY wsY' : List Cond} {rm : Room} {maxL : Nat} {ret : Option FieldType} {tys : List (ClassId × FieldType)} {av : List Value}
theorem k_inR {post : Int → Prop} (hy : plainName y.cls = true) (hw : wsY = Cond.code y cc maxL ret :: wsY') (hlen : (lg_sl av).length ≤ maxL)
    (body : ∀ (p : Program) (e : Env) (s : State) (m : MethodId) (below : List Frame) (meth : Method) (c : Code) (ls : Array Slot), p.tables.exec = Jvm.exec → c.code = cc → meth.sig.returnType = ret → (∀ w ∈ wsY, w.before av.toArray s = true) → s.vm.findClass y.cls = some m.cls → c.maxLocals = maxL → meth.locks = false → va_P D cl ws s.heap → va_K D cl tys s → kN s → lv_has ls maxL (lv_args 0 av) →
      W p l e rm s m av.toArray below meth c s.heap [] 0 0 (MQ below (kRi post) av.toArray s 0 0 (fun _ => False)) (F0 m 0 ls [])) : Met l y wsY rm (kR D cl tys av ws) (kRi post) 0 0 (fun _ => False) := by
  refine Met.ofW (cc := cc) (maxL := maxL) (ret := ret) hy hw ?_
  intro p e s m args below meth c s₁ B hml hv
  obtain ⟨rfl, hP, hK, hN⟩ := hv
  have hl := lv_entry av (n := maxL) hlen
  rw [lg_entry_eq]
  exact body p e s m below meth c _ B.exec B.bytes B.returns (atoms_spec (ws := wsY) B.pre) (findClass_of_methodNamed B.named) hml B.notSynchronized hP hK hN hl
theorem k_ofWF {y : MethodName} {ws ws' : List Cond} {rm : Room} {Pc : Array Value → State → Prop} {Qc : Array Value → State → Outcome → State → Prop} {mc ms : Nat} {free : Addr → Prop} {cc : ByteArray} {maxL : Nat} {ret : Option FieldType}
    (hy : plainFor y = true) (hw : ws = Cond.code y cc maxL ret :: ws')
    (body : ∀ p e s m args below meth c s₁, BodyLoose p l y (headSpec ws rm) cc maxL ret e s m args below meth c s₁ → c.maxLocals = maxL → Pc args s →
      W p l e (headSpec ws rm).room s m args below meth c s.heap [] 0 0 (MQ below Qc args s mc ms free) (entryFrame m args maxL)) : Met l y ws rm Pc Qc mc ms free := by
  refine MetFree.of_bodySF (code := cc) (maxLocals := maxL) (ret := ret) hy ?_ ?_
  · intro args s m h hn
    obtain ⟨meth, c, h1, h2, h3, h4, h5, h6, -, -⟩ := Cond.code_spec hn (atoms_spec (ws := ws) h _ (by rw [hw]; exact List.mem_cons_self))
    exact ⟨meth, c, h1, h2, h3, h4, h5, h6⟩
  · intro p e s m args below meth c s₁ B hml hP _
    have hh0 : s₁.heap = s.heap := by rw [B.state]; rfl
    obtain ⟨t, a1, o, b1, b2, b3⟩ := body p e s m args below meth c s₁ B hml hP s₁ hh0 (Stand.of_body B)
    exact ⟨t, o, a1, b1, b2, ⟨b3.1, b3.2⟩⟩
theorem k_inRF {post : Int → Prop} (hy : plainFor y = true) (hw : wsY = Cond.code y cc maxL ret :: wsY') (hlen : (lg_sl av).length ≤ maxL)
    (body : ∀ (p : Program) (e : Env) (s : State) (m : MethodId) (below : List Frame) (meth : Method) (c : Code) (ls : Array Slot), p.tables.exec = Jvm.exec → c.code = cc → meth.sig.returnType = ret → (∀ w ∈ wsY, w.before av.toArray s = true) → s.vm.findClass y.cls = some m.cls → c.maxLocals = maxL → meth.locks = false → va_P D cl ws s.heap → va_K D cl tys s → kN s → lv_has ls maxL (lv_args 0 av) →
      W p l e rm s m av.toArray below meth c s.heap [] 0 0 (MQ below (kRi post) av.toArray s 0 0 (fun _ => False)) (F0 m 0 ls [])) : Met l y wsY rm (kR D cl tys av ws) (kRi post) 0 0 (fun _ => False) := by
  refine k_ofWF (cc := cc) (maxL := maxL) (ret := ret) hy hw ?_
  intro p e s m args below meth c s₁ B hml hv
  obtain ⟨rfl, hP, hK, hN⟩ := hv
  have hl := lv_entry av (n := maxL) hlen
  rw [lg_entry_eq]
  exact body p e s m below meth c _ B.exec B.bytes B.returns (atoms_spec (ws := wsY) B.pre) (findClass_of_methodNamed B.named) hml B.notSynchronized hP hK hN hl
theorem k_inRl {post : Int64 → Prop} (hy : plainName y.cls = true) (hw : wsY = Cond.code y cc maxL ret :: wsY') (hlen : (lg_sl av).length ≤ maxL)
    (body : ∀ (p : Program) (e : Env) (s : State) (m : MethodId) (below : List Frame) (meth : Method) (c : Code) (ls : Array Slot), p.tables.exec = Jvm.exec → c.code = cc → meth.sig.returnType = ret → (∀ w ∈ wsY, w.before av.toArray s = true) → s.vm.findClass y.cls = some m.cls → c.maxLocals = maxL → meth.locks = false → va_P D cl ws s.heap → va_K D cl tys s → kN s → lv_has ls maxL (lv_args 0 av) →
      W p l e rm s m av.toArray below meth c s.heap [] 0 0 (MQ below (vp_Sl post) av.toArray s 0 0 (fun _ => False)) (F0 m 0 ls [])) : Met l y wsY rm (kR D cl tys av ws) (vp_Sl post) 0 0 (fun _ => False) := by
  refine Met.ofW (cc := cc) (maxL := maxL) (ret := ret) hy hw ?_
  intro p e s m args below meth c s₁ B hml hv
  obtain ⟨rfl, hP, hK, hN⟩ := hv
  have hl := lv_entry av (n := maxL) hlen
  rw [lg_entry_eq]
  exact body p e s m below meth c _ B.exec B.bytes B.returns (atoms_spec (ws := wsY) B.pre) (findClass_of_methodNamed B.named) hml B.notSynchronized hP hK hN hl
theorem k_inW {Qc : (Nat → Prop) → Array Value → State → Outcome → State → Prop} {sz : Nat} (hy : plainName y.cls = true) (hw : wsY = Cond.code y cc maxL ret :: wsY') (hlen : (lg_sl av).length ≤ maxL)
    (body : ∀ (p : Program) (e : Env) (s : State) (m : MethodId) (below : List Frame) (meth : Method) (c : Code) (ls : Array Slot) (A : Nat → Prop), p.tables.exec = Jvm.exec → c.code = cc → meth.sig.returnType = ret → (∀ w ∈ wsY, w.before av.toArray s = true) → s.vm.findClass y.cls = some m.cls → c.maxLocals = maxL → meth.locks = false → meth.name = y.name → va_P D cl ws s.heap → va_K D cl tys s → kN s → va_D A ws → va_S A s.heap s.heap [] → (∀ q : Nat, s.heap.size ≤ q → A q) → (∀ a : Nat, a < s.heap.size → A a → ∃ (k : Nat) (x : va_E), ws[k]? = some (a, x)) → lv_has ls maxL (lv_args 0 av) →
      W p l e rm s m av.toArray below meth c s.heap [] 0 0 (MQ below (Qc A) av.toArray s mc ms A) (F0 m 0 ls [])) : Met l y wsY rm (kPc D cl tys av ws sz) (Qc (va_A ws sz)) mc ms (va_A ws sz) := by
  refine Met.ofW (cc := cc) (maxL := maxL) (ret := ret) hy hw ?_
  intro p e s m args below meth c s₁ B hml hv
  obtain ⟨rfl, hsz, hP, hK, hD0, hN⟩ := hv
  subst hsz
  have hl := lv_entry av (n := maxL) hlen
  rw [lg_entry_eq]
  refine body p e s m below meth c _ (va_A ws s.heap.size) B.exec B.bytes B.returns (atoms_spec (ws := wsY) B.pre) (findClass_of_methodNamed B.named) hml B.notSynchronized (name_of_methodNamed B.named B.method).1 hP hK hN hD0.self va_S.rf (fun q h => Or.inr h) (fun a ha h => ?_) hl
  rcases h with h | h
  · exact h
  · exact absurd ha (Nat.not_lt.mpr h)
theorem k_inWi {S : Type} {post : Int → S → Prop} {w : S → va_W} {sz : Nat} (hy : plainName y.cls = true) (hw : wsY = Cond.code y cc maxL ret :: wsY') (hlen : (lg_sl av).length ≤ maxL)
    (body : ∀ (p : Program) (e : Env) (s : State) (m : MethodId) (below : List Frame) (meth : Method) (c : Code) (ls : Array Slot) (A : Nat → Prop), p.tables.exec = Jvm.exec → c.code = cc → meth.sig.returnType = ret → (∀ w ∈ wsY, w.before av.toArray s = true) → s.vm.findClass y.cls = some m.cls → c.maxLocals = maxL → meth.locks = false → meth.name = y.name → va_P D cl ws s.heap → va_K D cl tys s → kN s → va_D A ws → va_S A s.heap s.heap [] → (∀ q : Nat, s.heap.size ≤ q → A q) → (∀ a : Nat, a < s.heap.size → A a → ∃ (k : Nat) (x : va_E), ws[k]? = some (a, x)) → lv_has ls maxL (lv_args 0 av) →
      W p l e rm s m av.toArray below meth c s.heap [] 0 0 (MQ below (kQi D cl A post w) av.toArray s mc ms A) (F0 m 0 ls [])) : Met l y wsY rm (kPc D cl tys av ws sz) (kQi D cl (va_A ws sz) post w) mc ms (va_A ws sz) :=
  k_inW (Qc := fun A => kQi D cl A post w) hy hw hlen body
theorem k_inWv {S : Type} {post : S → Prop} {w : S → va_W} {sz : Nat} (hy : plainName y.cls = true) (hw : wsY = Cond.code y cc maxL ret :: wsY') (hlen : (lg_sl av).length ≤ maxL)
    (body : ∀ (p : Program) (e : Env) (s : State) (m : MethodId) (below : List Frame) (meth : Method) (c : Code) (ls : Array Slot) (A : Nat → Prop), p.tables.exec = Jvm.exec → c.code = cc → meth.sig.returnType = ret → (∀ w ∈ wsY, w.before av.toArray s = true) → s.vm.findClass y.cls = some m.cls → c.maxLocals = maxL → meth.locks = false → meth.name = y.name → va_P D cl ws s.heap → va_K D cl tys s → kN s → va_D A ws → va_S A s.heap s.heap [] → (∀ q : Nat, s.heap.size ≤ q → A q) → (∀ a : Nat, a < s.heap.size → A a → ∃ (k : Nat) (x : va_E), ws[k]? = some (a, x)) → lv_has ls maxL (lv_args 0 av) →
      W p l e rm s m av.toArray below meth c s.heap [] 0 0 (MQ below (kQv D cl A post w) av.toArray s mc ms A) (F0 m 0 ls [])) : Met l y wsY rm (kPc D cl tys av ws sz) (kQv D cl (va_A ws sz) post w) mc ms (va_A ws sz) :=
  k_inW (Qc := fun A => kQv D cl A post w) hy hw hlen body
theorem k_inWr {S : Type} {post : S → Nat → Prop} {w : S → Nat → va_W} {sz : Nat} (hy : plainName y.cls = true) (hw : wsY = Cond.code y cc maxL ret :: wsY') (hlen : (lg_sl av).length ≤ maxL)
    (body : ∀ (p : Program) (e : Env) (s : State) (m : MethodId) (below : List Frame) (meth : Method) (c : Code) (ls : Array Slot) (A : Nat → Prop), p.tables.exec = Jvm.exec → c.code = cc → meth.sig.returnType = ret → (∀ w ∈ wsY, w.before av.toArray s = true) → s.vm.findClass y.cls = some m.cls → c.maxLocals = maxL → meth.locks = false → meth.name = y.name → va_P D cl ws s.heap → va_K D cl tys s → kN s → va_D A ws → va_S A s.heap s.heap [] → (∀ q : Nat, s.heap.size ≤ q → A q) → (∀ a : Nat, a < s.heap.size → A a → ∃ (k : Nat) (x : va_E), ws[k]? = some (a, x)) → lv_has ls maxL (lv_args 0 av) →
      W p l e rm s m av.toArray below meth c s.heap [] 0 0 (MQ below (kQr D cl A post w) av.toArray s mc ms A) (F0 m 0 ls [])) : Met l y wsY rm (kPc D cl tys av ws sz) (kQr D cl (va_A ws sz) post w) mc ms (va_A ws sz) :=
  k_inW (Qc := fun A => kQr D cl A post w) hy hw hlen body
theorem k_inZ {tz : Nat} {S : Type} {post : S → Prop} {w : S → va_W} {sz : Nat} (hy : plainName y.cls = true) (hw : wsY = Cond.code y cc maxL ret :: wsY') (hlen : (lg_sl av).length ≤ maxL)
    (body : ∀ (p : Program) (e : Env) (s : State) (m : MethodId) (below : List Frame) (meth : Method) (c : Code) (ls : Array Slot) (A : Nat → Prop), p.tables.exec = Jvm.exec → c.code = cc → meth.sig.returnType = ret → (∀ w ∈ wsY, w.before av.toArray s = true) → s.vm.findClass y.cls = some m.cls → c.maxLocals = maxL → meth.locks = false → meth.name = y.name → va_P D cl ws s.heap → va_K D cl tys s → kN s → va_D A ws → va_S A s.heap s.heap [] → (∀ q : Nat, s.heap.size ≤ q → A q) → va_Z RX2 "VALUES_WITHOUT_SLOTS" "[I" (.ref tz) A s s.heap → va_T .int tz 5 (fun j => .int (iI (vw j))) A s s.heap → lv_has ls maxL (lv_args 0 av) →
      W p l e rm s m av.toArray below meth c s.heap [] 0 0 (MQ below (kQv D cl A post w) av.toArray s mc ms A) (F0 m 0 ls [])) : Met l y wsY rm (kPz D cl tys av ws sz tz) (kQv D cl (va_A ws sz) post w) mc ms (va_A ws sz) := by
  refine Met.ofW (cc := cc) (maxL := maxL) (ret := ret) hy hw ?_
  intro p e s m args below meth c s₁ B hml hv
  obtain ⟨⟨rfl, hsz, hP, hK, hD0, hN⟩, hZ, hT⟩ := hv
  subst hsz
  have hl := lv_entry av (n := maxL) hlen
  rw [lg_entry_eq]
  exact body p e s m below meth c _ (va_A ws s.heap.size) B.exec B.bytes B.returns (atoms_spec (ws := wsY) B.pre) (findClass_of_methodNamed B.named) hml B.notSynchronized (name_of_methodNamed B.named B.method).1 hP hK hN hD0.self va_S.rf (fun q h => Or.inr h) hZ hT hl
theorem kPz_blind {D : va_G} {cl : List vw_C} {tys : List (ClassId × FieldType)} {av : List Value} {ws : va_W} {sz tz : Nat} : FrameBlind (kPz D cl tys av ws sz tz) :=
  fun a U g mk q => ⟨kPc_blind a U g mk q.1, va_Z.moved (u := U) (U := U.calling g mk a) (Vm.Alike.refl U.vm) q.2.1, va_T.moved (u := U) (U := U.calling g mk a) (Vm.Alike.refl U.vm) q.2.2⟩
end KW


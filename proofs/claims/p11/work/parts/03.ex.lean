/-! the steady flow, minute by minute; R: parts of an hour by the minute of the day -/
def fS (R : Int → Int) (t : Int) (q : (Int → Int) × Int) : (Int → Int) × Int := (jU q.1 (t / 1440) (q.1 (t / 1440) + (q.2 + R (t % 1440)) / 60), (q.2 + R (t % 1440)) % 60)
def fN (R : Int → Int) : Nat → Int → (Int → Int) × Int → (Int → Int) × Int
  | 0, _, q => q
  | n + 1, t, q => fN R n (t + 1) (fS R t q)
theorem fN_add (R : Int → Int) (n m : Nat) (t : Int) (q : (Int → Int) × Int) : fN R (n + m) t q = fN R m (t + (n : Int)) (fN R n t q) := by
  induction n generalizing t q with
  | zero => rw [Nat.zero_add, show t + ((0 : Nat) : Int) = t by omega]; rfl
  | succ n ih =>
    rw [show n + 1 + m = (n + m) + 1 by omega]
    show fN R (n + m) (t + 1) (fS R t q) = fN R m (t + ((n + 1 : Nat) : Int)) (fN R n (t + 1) (fS R t q))
    rw [ih, show t + 1 + (n : Int) = t + ((n + 1 : Nat) : Int) by omega]
theorem fN_end (R : Int → Int) (n : Nat) (t : Int) (q : (Int → Int) × Int) : fN R (n + 1) t q = fS R (t + (n : Int)) (fN R n t q) := by
  rw [fN_add]; rfl
theorem jU_jU (g : Int → Int) (i x y : Int) : jU (jU g i x) i y = jU g i y := by
  funext j
  rcases Decidable.em (j = i) with e | e
  · rw [e, jU_s, jU_s]
  · rw [jU_n _ _ e, jU_n _ _ e, jU_n _ _ e]
theorem jU_id (g : Int → Int) (i : Int) : jU g i (g i) = g := by
  funext j
  rcases Decidable.em (j = i) with e | e
  · rw [e, jU_s]
  · rw [jU_n _ _ e]
/-- one rate, one day: all minutes at once -/
theorem fN_const (R : Int → Int) (d r : Int) (n : Nat) : ∀ (a : Int) (f : Int → Int) (c : Int), 0 ≤ a → a + (n : Int) ≤ 1440 → (∀ m : Int, a ≤ m → m < a + (n : Int) → R m = r) → 0 ≤ c → c < 60 → 0 ≤ r → fN R n (d * 1440 + a) (f, c) = (jU f d (f d + (c + (n : Int) * r) / 60), (c + (n : Int) * r) % 60) := by
  induction n with
  | zero =>
    intro a f c ha hn hR hc hc2 hr
    show (f, c) = _
    rw [show c + ((0 : Nat) : Int) * r = c by simp, show c / 60 = 0 by omega, show c % 60 = c by omega, show f d + 0 = f d by omega, jU_id]
  | succ n ih =>
    intro a f c ha hn hR hc hc2 hr
    show fN R n (d * 1440 + a + 1) (fS R (d * 1440 + a) (f, c)) = _
    have e1 : (d * 1440 + a) / 1440 = d := by omega
    have e2 : (d * 1440 + a) % 1440 = a := by omega
    have e3 : fS R (d * 1440 + a) (f, c) = (jU f d (f d + (c + r) / 60), (c + r) % 60) := by
      unfold fS
      rw [e1, e2, hR a (by omega) (by omega)]
    rw [e3, show d * 1440 + a + 1 = d * 1440 + (a + 1) by omega, ih (a + 1) _ _ (by omega) (by omega) (fun m h1 h2 => hR m (by omega) (by omega)) (by omega) (by omega) hr, jU_s, jU_jU]
    have e4 : ((n + 1 : Nat) : Int) * r = (n : Int) * r + r := by
      rw [show ((n + 1 : Nat) : Int) = (n : Int) + 1 by omega, Int.add_mul, Int.one_mul]
    rw [e4]
    generalize (n : Int) * r = P
    rw [show f d + (c + r) / 60 + ((c + r) % 60 + P) / 60 = f d + (c + (P + r)) / 60 by omega, show ((c + r) % 60 + P) % 60 = (c + (P + r)) % 60 by omega]
/-- bounds of the flow -/
theorem fN_bnd (R : Int → Int) (hR : ∀ m : Int, 0 ≤ m → m ≤ 1439 → 0 ≤ R m ∧ R m ≤ 20000) (n : Nat) : ∀ (t : Int) (q : (Int → Int) × Int), 0 ≤ q.2 → q.2 < 60 → (0 ≤ (fN R n t q).2 ∧ (fN R n t q).2 < 60) ∧ ∀ d : Int, q.1 d ≤ (fN R n t q).1 d ∧ (fN R n t q).1 d ≤ q.1 d + 334 * (n : Int) := by
  induction n with
  | zero => intro t q h1 h2; exact ⟨⟨h1, h2⟩, fun d => ⟨Int.le_refl _, by show q.1 d ≤ q.1 d + 334 * ((0 : Nat) : Int); omega⟩⟩
  | succ n ih =>
    intro t q h1 h2
    have hr := hR (t % 1440) (by omega) (by omega)
    have h3 : 0 ≤ (fS R t q).2 ∧ (fS R t q).2 < 60 := by
      show 0 ≤ (q.2 + R (t % 1440)) % 60 ∧ (q.2 + R (t % 1440)) % 60 < 60
      omega
    obtain ⟨k1, k2⟩ := ih (t + 1) (fS R t q) h3.1 h3.2
    refine ⟨k1, fun d => ?_⟩
    have k3 := k2 d
    have k4 : q.1 d ≤ (fS R t q).1 d ∧ (fS R t q).1 d ≤ q.1 d + 334 := by
      show q.1 d ≤ jU q.1 (t / 1440) _ d ∧ jU q.1 (t / 1440) _ d ≤ q.1 d + 334
      rcases Decidable.em (d = t / 1440) with e | e
      · rw [e, jU_s]; omega
      · rw [jU_n _ _ e]; omega
    show q.1 d ≤ (fN R n (t + 1) (fS R t q)).1 d ∧ (fN R n (t + 1) (fS R t q)).1 d ≤ q.1 d + 334 * ((n + 1 : Nat) : Int)
    omega
/-- what is at work: n doses -/
def wS (now : Int) (mi pa sh : Int → Int) : Nat → Int
  | 0 => 0
  | n + 1 => wS now mi pa sh n + (if (now - mi (n : Int)) / 15 ≤ 32 then pa (n : Int) * sh ((now - mi (n : Int)) / 15) / 1000 else 0)
theorem ex_ceil {x b : Int} (hb : 0 < b) : (-x) / b = -((x + b - 1) / b) := by
  have h1 : x + b - 1 = b * ((x + b - 1) / b) + (x + b - 1) % b := (Int.mul_ediv_add_emod _ _).symm
  have h2 := Int.emod_nonneg (x + b - 1) (show b ≠ 0 by omega)
  have h3 := Int.emod_lt_of_pos (x + b - 1) hb
  have h4 : -x = b - 1 - (x + b - 1) % b + b * (-((x + b - 1) / b)) := by
    rw [Int.mul_neg]
    omega
  rw [h4, Int.add_mul_ediv_left _ _ (show b ≠ 0 by omega), Int.ediv_eq_zero_of_lt (by omega) (by omega), Int.zero_add]
theorem ex_mul {a b A B : Int} (ha : 0 ≤ a ∧ a ≤ A) (hb : 0 ≤ b ∧ b ≤ B) : 0 ≤ a * b ∧ a * b ≤ A * B :=
  ⟨Int.mul_nonneg ha.1 hb.1, Int.mul_le_mul ha.2 hb.2 hb.1 (by omega)⟩
/-- the quotient that rounds to zero, and the floor -/
theorem ex_td {a b : Int} (hb : 1 ≤ b) : (0 ≤ a → a.tdiv b = a / b ∧ 0 ≤ a / b ∧ a / b ≤ a) ∧ (a < 0 → (a ≤ a.tdiv b * b ∧ a.tdiv b * b ≤ 0 ∧ a ≤ a.tdiv b ∧ a.tdiv b ≤ 0) ∧ ((a.tdiv b * b = a ∧ a.tdiv b = a / b) ∨ (¬ a.tdiv b * b = a ∧ a.tdiv b - 1 = a / b))) := by
  constructor
  · intro ha
    exact ⟨Int.tdiv_eq_ediv_of_nonneg ha, Int.ediv_nonneg ha (by omega), Int.ediv_le_self b ha⟩
  · intro ha
    obtain ⟨n, rfl⟩ : ∃ n : Int, a = -n := ⟨-a, by omega⟩
    have h1 : (-n).tdiv b = -(n / b) := by rw [Int.neg_tdiv, Int.tdiv_eq_ediv_of_nonneg (by omega)]
    have h2 := Int.mul_ediv_add_emod n b
    have h3 := Int.emod_nonneg n (show b ≠ 0 by omega)
    have h4 := Int.emod_lt_of_pos n (show 0 < b by omega)
    have h5 : 0 ≤ n / b := Int.ediv_nonneg (by omega) (by omega)
    have h6 : n / b ≤ n := Int.ediv_le_self b (by omega)
    have h7 : -(n / b) * b = -(b * (n / b)) := by rw [Int.neg_mul, Int.mul_comm]
    have h8 : 0 ≤ b * (n / b) := Int.mul_nonneg (by omega) h5
    rw [h1, h7]
    refine ⟨by omega, ?_⟩
    rcases (show n % b = 0 ∨ 1 ≤ n % b by omega) with e | e
    · left
      refine ⟨by omega, ?_⟩
      have e2 : -n = 0 + b * (-(n / b)) := by rw [Int.mul_neg]; omega
      rw [show (-n) / b = (0 + b * (-(n / b))) / b by rw [← e2], Int.add_mul_ediv_left _ _ (show b ≠ 0 by omega), Int.zero_ediv, Int.zero_add]
    · right
      refine ⟨by omega, ?_⟩
      have e2 : -n = (b - n % b) + b * (-(n / b) - 1) := by
        rw [Int.mul_sub, Int.mul_neg, Int.mul_one]; omega
      have e3 : (b - n % b) / b = 0 := Int.ediv_eq_zero_of_lt (by omega) (by omega)
      rw [show (-n) / b = ((b - n % b) + b * (-(n / b) - 1)) / b by rw [← e2], Int.add_mul_ediv_left _ _ (show b ≠ 0 by omega), e3, Int.zero_add]
theorem ex_xor {a b : Int} (ha : -2147483648 ≤ a ∧ a ≤ 2147483647) (hb : 0 ≤ b ∧ b ≤ 2147483647) : (iI a ^^^ iI b) < 0 ↔ a < 0 := by
  have h1 : (iI a ^^^ iI b).toBitVec.msb = ((iI a).toBitVec.msb ^^ (iI b).toBitVec.msb) := by rw [Int32.toBitVec_xor, BitVec.msb_xor]
  rw [BitVec.msb_eq_toInt, BitVec.msb_eq_toInt, BitVec.msb_eq_toInt] at h1
  have e1 : (iI a).toBitVec.toInt = a := iI_toInt ha
  have e2 : (iI b).toBitVec.toInt = b := iI_toInt (by omega)
  rw [e1, e2, show decide (b < 0) = false from decide_eq_false (by omega), Bool.xor_false] at h1
  rw [Int32.lt_iff_toInt_lt, Int32.toInt_zero]
  exact decide_eq_decide.mp h1
/-! two spans of one minute are one -/
theorem ex_span {c : Int} {s : Int → Int} {a k k' : Int} (h : 0 ≤ k ∧ k ≤ c ∧ (∀ j : Int, 0 ≤ j → j < k → s j ≤ a) ∧ (k < c → a < s k)) (h' : 0 ≤ k' ∧ k' ≤ c ∧ (∀ j : Int, 0 ≤ j → j < k' → s j ≤ a) ∧ (k' < c → a < s k')) : k = k' := by
  rcases (show k = k' ∨ k < k' ∨ k' < k by omega) with e | e | e
  · exact e
  · have q1 := h.2.2.2 (by omega)
    have q2 := h'.2.2.1 k h.1 e
    omega
  · have q1 := h'.2.2.2 (by omega)
    have q2 := h.2.2.1 k' h'.1 e
    omega
/-! longs -/
def iL (z : Int) : Int64 := Int64.ofInt z
theorem iL_add (a b : Int) : iL a + iL b = iL (a + b) := (Int64.ofInt_add a b).symm
theorem iL_sub (a b : Int) : iL a - iL b = iL (a - b) := (Int64.ofInt_sub a b).symm
theorem iL_mul (a b : Int) : iL a * iL b = iL (a * b) := (Int64.ofInt_mul a b).symm
theorem iL_toInt {a : Int} (h : -9223372036854775808 ≤ a ∧ a ≤ 9223372036854775807) : (iL a).toInt = a := Int64.toInt_ofInt_of_le (by omega) (by omega)
theorem iL_of {a : Int} (h : -2147483648 ≤ a ∧ a ≤ 2147483647) : (iI a).toInt64 = iL a := by
  rw [← Int64.toInt_inj, Int32.toInt_toInt64, iI_toInt h, iL_toInt (by omega)]
theorem iL_to (a : Int) : (iL a).toInt32 = iI a := Int64.toInt32_ofInt
theorem iL_div {a : Int} (h : 0 ≤ a ∧ a ≤ 9223372036854775807) : iL a / 1000 = iL (a / 1000) := by
  rw [← Int64.toInt_inj, Int64.toInt_div_of_ne_right _ _ (by decide), iL_toInt (by omega), iL_toInt (by omega), show (1000 : Int64).toInt = 1000 by decide, Int.tdiv_eq_ediv_of_nonneg h.1]
theorem iL_lt {a b : Int} (ha : -9223372036854775808 ≤ a ∧ a ≤ 9223372036854775807) (hb : -9223372036854775808 ≤ b ∧ b ≤ 9223372036854775807) : iL a < iL b ↔ a < b := by
  rw [Int64.lt_iff_toInt_lt, iL_toInt ha, iL_toInt hb]
theorem iL_eq {a b : Int} (ha : -9223372036854775808 ≤ a ∧ a ≤ 9223372036854775807) (hb : -9223372036854775808 ≤ b ∧ b ≤ 9223372036854775807) : iL a = iL b ↔ a = b := by
  rw [← Int64.toInt_inj, iL_toInt ha, iL_toInt hb]
theorem iL_cmp {a : Int} (ha : -9223372036854775808 ≤ a ∧ a ≤ 9223372036854775807) : ∃ z : Int, lg_cmp (iL a) 0 = iI z ∧ (-1 ≤ z ∧ z ≤ 1) ∧ (0 ≤ z ↔ 0 ≤ a) := by
  have e0 : (0 : Int64) = iL 0 := rfl
  unfold lg_cmp
  rw [e0]
  rcases (show 0 < a ∨ a = 0 ∨ a < 0 by omega) with h | h | h
  · exact ⟨1, by rw [if_pos (show iL a > iL 0 from (iL_lt (by omega) ha).mpr h)]; rfl, by omega, by omega⟩
  · subst h
    exact ⟨0, by rw [if_neg (fun q : iL 0 > iL 0 => absurd ((iL_lt (by omega) (by omega)).mp q) (by omega)), if_pos rfl]; rfl, by omega, by omega⟩
  · exact ⟨-1, by rw [if_neg (fun q : iL a > iL 0 => absurd ((iL_lt (by omega) ha).mp q) (by omega)), if_neg (fun q : iL a = iL 0 => absurd ((iL_eq ha (by omega)).mp q) (by omega))]; rfl, by omega, by omega⟩
/-- what is at work is bounded -/
theorem wS_bnd {now : Int} {mi pa sh : Int → Int} (n : Nat) (hp : ∀ k : Int, 0 ≤ k → k < (n : Int) → 0 ≤ pa k ∧ pa k ≤ 100000) (hm : ∀ k : Int, 0 ≤ k → k < (n : Int) → mi k ≤ now) (hs : ∀ j : Int, 0 ≤ j → j ≤ 32 → 0 ≤ sh j ∧ sh j ≤ 1000) : 0 ≤ wS now mi pa sh n ∧ wS now mi pa sh n ≤ 100000 * (n : Int) := by
  induction n with
  | zero => exact ⟨Int.le_refl _, by show (0 : Int) ≤ 100000 * ((0 : Nat) : Int); omega⟩
  | succ n ih =>
    have h1 := ih (fun k q1 q2 => hp k q1 (by omega)) (fun k q1 q2 => hm k q1 (by omega))
    have h2 := hp (n : Int) (by omega) (by omega)
    have h3 := hm (n : Int) (by omega) (by omega)
    show 0 ≤ wS now mi pa sh n + _ ∧ wS now mi pa sh n + _ ≤ 100000 * ((n + 1 : Nat) : Int)
    split
    · rename_i h4
      have h5 := hs ((now - mi (n : Int)) / 15) (by omega) h4
      have h6 := ex_mul (A := 100000) (B := 1000) h2 h5
      omega
    · omega
theorem fl_ext {R : Int → Int} {fl f1 : Int → Int} {x2 c1 p q t0 d r : Int} (hst : (f1, c1) = fN R (p - t0).toNat (d * 1440 + t0) (fl, x2)) (h0 : t0 ≤ p) (hpq : p ≤ q) (hp0 : 0 ≤ p) (hq : q ≤ 1440) (hr : ∀ m : Int, p ≤ m → m < q → R m = r) (hc : 0 ≤ c1 ∧ c1 < 60) (hr0 : 0 ≤ r) : (jU f1 d (f1 d + (c1 + (q - p) * r) / 60), (c1 + (q - p) * r) % 60) = fN R (q - t0).toNat (d * 1440 + t0) (fl, x2) := by
  have e0 : ((q - p).toNat : Int) = q - p := Int.toNat_of_nonneg (by omega)
  have e1 := fN_const R d r (q - p).toNat p f1 c1 hp0 (by omega) (fun m q1 q2 => hr m q1 (by omega)) hc.1 hc.2 hr0
  rw [e0] at e1
  rw [show (q - t0).toNat = (p - t0).toNat + (q - p).toNat by omega, fN_add, ← hst, show d * 1440 + t0 + ((p - t0).toNat : Int) = d * 1440 + p by omega, e1]
def pWx (vv : Nat → Int) (a x0 x1 x3 x4 x7 x9 x10 : Int) (fl ds sh mi pa : Int → Int) (z : Int) : Prop := ∃ meal corr whole wd left wy : Int, meal = a * 1000 / vv 0 ∧ ((¬ (¬ x9 = -1 ∧ x1 - x10 ≤ 15) ∧ corr = 0) ∨ ((¬ x9 = -1 ∧ x1 - x10 ≤ 15) ∧ vv 3 < x9 ∧ ((0 ≤ (x9 - vv 3) * 1000 / vv 1 - (wS x1 mi pa sh x0.toNat) ∧ corr = (x9 - vv 3) * 1000 / vv 1 - (wS x1 mi pa sh x0.toNat)) ∨ ((x9 - vv 3) * 1000 / vv 1 - (wS x1 mi pa sh x0.toNat) < 0 ∧ corr = 0))) ∨ ((¬ x9 = -1 ∧ x1 - x10 ≤ 15) ∧ x9 ≤ vv 3 ∧ x9 < vv 2 ∧ corr = (-(vv 2 - x9)) * 1000 / vv 1) ∨ ((¬ x9 = -1 ∧ x1 - x10 ≤ 15) ∧ x9 ≤ vv 3 ∧ vv 2 ≤ x9 ∧ corr = 0)) ∧ ((0 ≤ meal + corr ∧ whole = meal + corr) ∨ (meal + corr < 0 ∧ whole = 0)) ∧ ((whole ≤ x3 ∧ wd = whole) ∨ (x3 < whole ∧ wd = x3)) ∧ ((0 ≤ x4 - (fl (x1 / 1440) + ds (x1 / 1440)) ∧ left = x4 - (fl (x1 / 1440) + ds (x1 / 1440))) ∨ (x4 - (fl (x1 / 1440) + ds (x1 / 1440)) < 0 ∧ left = 0)) ∧ ((wd ≤ left ∧ wy = wd) ∨ (left < wd ∧ wy = left)) ∧ ((¬ x7 = 0 ∧ z = 0) ∨ (x7 = 0 ∧ z = wy - wy % 50))
def pWm (vv : Nat → Int) (a t0 t1 t4 t6 t8 t9 t10 t11 : Int) (mfl mds e0 e1 msh : Int → Int) (z : Int) : Prop := ∃ meal corr whole wd left wy : Int, meal = a * 1000 / vv 0 ∧ ((¬ (t8 = 1 ∧ t4 - t10 ≤ 15) ∧ corr = 0) ∨ ((t8 = 1 ∧ t4 - t10 ≤ 15) ∧ vv 3 < t9 ∧ ((0 ≤ (t9 - vv 3) * 1000 / vv 1 - wS t4 e0 e1 msh t11.toNat ∧ corr = (t9 - vv 3) * 1000 / vv 1 - wS t4 e0 e1 msh t11.toNat) ∨ ((t9 - vv 3) * 1000 / vv 1 - wS t4 e0 e1 msh t11.toNat < 0 ∧ corr = 0))) ∨ ((t8 = 1 ∧ t4 - t10 ≤ 15) ∧ t9 ≤ vv 3 ∧ t9 < vv 2 ∧ corr = -(((vv 2 - t9) * 1000 + vv 1 - 1) / vv 1)) ∨ ((t8 = 1 ∧ t4 - t10 ≤ 15) ∧ t9 ≤ vv 3 ∧ vv 2 ≤ t9 ∧ corr = 0)) ∧ ((0 ≤ meal + corr ∧ whole = meal + corr) ∨ (meal + corr < 0 ∧ whole = 0)) ∧ ((whole ≤ t0 ∧ wd = whole) ∨ (t0 < whole ∧ wd = t0)) ∧ ((0 ≤ t1 - (mfl (t4 / 1440) + mds (t4 / 1440)) ∧ left = t1 - (mfl (t4 / 1440) + mds (t4 / 1440))) ∨ (t1 - (mfl (t4 / 1440) + mds (t4 / 1440)) < 0 ∧ left = 0)) ∧ ((wd ≤ left ∧ wy = wd) ∨ (left < wd ∧ wy = left)) ∧ ((¬ t6 = 0 ∧ z = 0) ∨ (t6 = 0 ∧ z = wy - wy % 50))
section JL
variable {p : Program} {l : Launch} {e : Env} {R : Room} {s : State} {m : MethodId} {args : Array Value} {below : List Frame} {meth : Method} {c : Code} {H : Heap} {locs : List Loc} {cells slots : Nat} {Q : State → Prop}
variable {cc : ByteArray} {pc : Nat} {ls : Array Slot} {rest : List Value}
theorem jl_ladd (hexec : p.tables.exec = Jvm.exec) (hb : c.code = cc) {x y : Int} (hdg : decode cc pc = .ok (.ladd, 1)) (k : W p l e R s m args below meth c H locs cells slots Q (F0 m (pc + 1) ls (.long (iL (x + y)) :: rest))) : W p l e R s m args below meth c H locs cells slots Q (F0 m pc ls (.long (iL y) :: .long (iL x) :: rest)) := by
  rw [← iL_add] at k
  exact lv_ladd hexec hb hdg k
theorem jl_lsub (hexec : p.tables.exec = Jvm.exec) (hb : c.code = cc) {x y : Int} (hdg : decode cc pc = .ok (.lsub, 1)) (k : W p l e R s m args below meth c H locs cells slots Q (F0 m (pc + 1) ls (.long (iL (x - y)) :: rest))) : W p l e R s m args below meth c H locs cells slots Q (F0 m pc ls (.long (iL y) :: .long (iL x) :: rest)) := by
  rw [← iL_sub] at k
  exact lv_lsub hexec hb hdg k
theorem jl_lmul (hexec : p.tables.exec = Jvm.exec) (hb : c.code = cc) {x y : Int} (hdg : decode cc pc = .ok (.lmul, 1)) (k : W p l e R s m args below meth c H locs cells slots Q (F0 m (pc + 1) ls (.long (iL (x * y)) :: rest))) : W p l e R s m args below meth c H locs cells slots Q (F0 m pc ls (.long (iL y) :: .long (iL x) :: rest)) := by
  rw [← iL_mul] at k
  exact lv_lmul hexec hb hdg k
theorem jl_ldiv (hexec : p.tables.exec = Jvm.exec) (hb : c.code = cc) {x : Int} (hdg : decode cc pc = .ok (.ldiv, 1)) (h : 0 ≤ x ∧ x ≤ 9223372036854775807) (k : W p l e R s m args below meth c H locs cells slots Q (F0 m (pc + 1) ls (.long (iL (x / 1000)) :: rest))) : W p l e R s m args below meth c H locs cells slots Q (F0 m pc ls (.long 1000 :: .long (iL x) :: rest)) := by
  rw [← iL_div h] at k
  exact lv_ldiv hexec hb hdg (by decide) k
theorem jl_lcmp0 (hexec : p.tables.exec = Jvm.exec) (hb : c.code = cc) {x : Int} (hdg : decode cc pc = .ok (.lcmp, 1)) (h : -9223372036854775808 ≤ x ∧ x ≤ 9223372036854775807) (k : ∀ z : Int, (-1 ≤ z ∧ z ≤ 1) ∧ (0 ≤ z ↔ 0 ≤ x) → W p l e R s m args below meth c H locs cells slots Q (F0 m (pc + 1) ls (.int (iI z) :: rest))) : W p l e R s m args below meth c H locs cells slots Q (F0 m pc ls (.long (iL 0) :: .long (iL x) :: rest)) := by
  obtain ⟨z, e1, e2⟩ := iL_cmp h
  refine W.lcmp hexec hb hdg ?_
  rw [show lg_cmp (iL x) (iL 0) = iI z from e1]
  exact k z e2
end JL

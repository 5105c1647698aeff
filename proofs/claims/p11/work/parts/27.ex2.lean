/-! a span and a value there always are -/
theorem ex_sp {s : Int → Int} {a : Int} (n : Nat) : (∃ k : Int, 0 ≤ k ∧ k < (n : Int) ∧ (∀ j : Int, 0 ≤ j → j < k → s j ≤ a) ∧ a < s k) ∨ (∀ j : Int, 0 ≤ j → j < (n : Int) → s j ≤ a) := by
  induction n with
  | zero => exact Or.inr (fun j h1 h2 => absurd h2 (by omega))
  | succ n ih =>
    rcases ih with ⟨k, k1, k2, k3, k4⟩ | h
    · exact Or.inl ⟨k, k1, by omega, k3, k4⟩
    · rcases (show s (n : Int) ≤ a ∨ a < s (n : Int) by omega) with e | e
      · refine Or.inr (fun j h1 h2 => ?_)
        rcases (show j < (n : Int) ∨ j = (n : Int) by omega) with f | f
        · exact h j h1 f
        · rw [f]; exact e
      · exact Or.inl ⟨(n : Int), by omega, by omega, h, e⟩
theorem ex_vat {c : Int} (hc : 0 ≤ c) (s v : Int → Int) (w a : Int) : ∃ z : Int, ∃ k : Int, (0 ≤ k ∧ k ≤ c ∧ (∀ j : Int, 0 ≤ j → j < k → s j ≤ a) ∧ (k < c → a < s k)) ∧ ((c = 0 ∧ z = w) ∨ (¬ c = 0 ∧ k = 0 ∧ z = v (c - 1)) ∨ (¬ c = 0 ∧ ¬ k = 0 ∧ z = v (k - 1))) := by
  obtain ⟨k, hk⟩ : ∃ k : Int, 0 ≤ k ∧ k ≤ c ∧ (∀ j : Int, 0 ≤ j → j < k → s j ≤ a) ∧ (k < c → a < s k) := by
    have e0 : ((c.toNat : Nat) : Int) = c := Int.toNat_of_nonneg hc
    rcases ex_sp (s := s) (a := a) c.toNat with ⟨k, k1, k2, k3, k4⟩ | h
    · exact ⟨k, k1, by omega, k3, fun _ => k4⟩
    · exact ⟨c, hc, Int.le_refl _, fun j h1 h2 => h j h1 (by omega), fun h2 => absurd h2 (by omega)⟩
  rcases Decidable.em (c = 0) with e | e
  · exact ⟨w, k, hk, Or.inl ⟨e, rfl⟩⟩
  · rcases Decidable.em (k = 0) with f | f
    · exact ⟨v (c - 1), k, hk, Or.inr (Or.inl ⟨e, f, rfl⟩)⟩
    · exact ⟨v (k - 1), k, hk, Or.inr (Or.inr ⟨e, f, rfl⟩)⟩
/-- a value of the class lies where the reference's lie -/
theorem sR_in {i c : Int} {s v : Int → Int} {n : Int} {S V : Int → Int} (h : sR i c s v n S V) {z w a lo hi : Int} (hz : ∃ k : Int, (0 ≤ k ∧ k ≤ c ∧ (∀ j : Int, 0 ≤ j → j < k → s j ≤ a) ∧ (k < c → a < s k)) ∧ ((c = 0 ∧ z = w) ∨ (¬ c = 0 ∧ k = 0 ∧ z = v (c - 1)) ∨ (¬ c = 0 ∧ ¬ k = 0 ∧ z = v (k - 1)))) (hw : lo ≤ w ∧ w ≤ hi) (hV : ∀ q : Int, 8 * i ≤ q → q < 8 * i + n → lo ≤ V q ∧ V q ≤ hi) : lo ≤ z ∧ z ≤ hi := by
  obtain ⟨e0, e1, e2, e3, e4, e5, e6⟩ := h
  obtain ⟨k, hk, hv⟩ := hz
  have key : ∀ j : Int, 0 ≤ j → j < c → lo ≤ v j ∧ v j ≤ hi := by
    intro j j1 j2
    obtain ⟨q, q1, q2, q3, q4⟩ := e4 j j1 j2
    rw [← q4]
    exact hV q q1 (by omega)
  rcases hv with q | q | q
  · rw [q.2]; exact hw
  · rw [q.2.2]; exact key (c - 1) (by omega) (by omega)
  · rw [q.2.2]; exact key (k - 1) (by omega) (by omega)
theorem wS_congr {now : Int} {mi pa sh sh2 : Int → Int} (n : Nat) (hm : ∀ k : Int, 0 ≤ k → k < (n : Int) → mi k ≤ now) (hs : ∀ j : Int, 0 ≤ j → j ≤ 32 → sh2 j = sh j) : wS now mi pa sh2 n = wS now mi pa sh n := by
  induction n with
  | zero => rfl
  | succ n ih =>
    have h1 := ih (fun k q1 q2 => hm k q1 (by omega))
    have h2 := hm (n : Int) (by omega) (by omega)
    show wS now mi pa sh2 n + _ = wS now mi pa sh n + _
    rw [h1]
    rcases Decidable.em ((now - mi (n : Int)) / 15 ≤ 32) with e | e
    · rw [if_pos e, if_pos e, hs _ (by omega) e]
    · rw [if_neg e, if_neg e]
/-- the flow of one way: its bounds -/
theorem fl_bnd {R fl f1 : Int → Int} {x2 c1 x1 a1 x7 : Int} (hR : ∀ q : Int, 0 ≤ q → q ≤ 1439 → 0 ≤ R q ∧ R q ≤ 20000) (h : (x7 = 0 ∧ (f1, c1) = fN R (a1 - x1).toNat x1 (fl, x2)) ∨ (¬ x7 = 0 ∧ f1 = fl ∧ c1 = x2)) (h1 : x1 ≤ a1) (h2 : 0 ≤ x2 ∧ x2 < 60) (hf : ∀ d : Int, 0 ≤ fl d ∧ fl d ≤ 334 * x1) : (0 ≤ c1 ∧ c1 < 60) ∧ ∀ d : Int, 0 ≤ f1 d ∧ f1 d ≤ 334 * a1 := by
  rcases h with ⟨-, h⟩ | ⟨-, rfl, rfl⟩
  · obtain ⟨b1, b2⟩ := fN_bnd R hR (a1 - x1).toNat x1 (fl, x2) h2.1 h2.2
    rw [← h] at b1 b2
    refine ⟨b1, fun d => ?_⟩
    have b3 := b2 d
    have b4 := hf d
    have e0 : (((a1 - x1).toNat : Nat) : Int) = a1 - x1 := Int.toNat_of_nonneg (by omega)
    rw [e0] at b3
    dsimp only at b3
    omega
  · exact ⟨h2, fun d => by have := hf d; omega⟩
theorem fl_same {R fl f1 g1 : Int → Int} {x2 c1 d1 x1 a1 x7 : Int} (h : (x7 = 0 ∧ (f1, c1) = fN R (a1 - x1).toNat x1 (fl, x2)) ∨ (¬ x7 = 0 ∧ f1 = fl ∧ c1 = x2)) (k : (x7 = 0 ∧ (g1, d1) = fN R (a1 - x1).toNat x1 (fl, x2)) ∨ (¬ x7 = 0 ∧ g1 = fl ∧ d1 = x2)) : f1 = g1 ∧ c1 = d1 := by
  rcases h with ⟨h0, h⟩ | ⟨h0, h, h'⟩ <;> rcases k with ⟨k0, k⟩ | ⟨k0, k, k'⟩
  · have e := h.trans k.symm
    exact ⟨congrArg Prod.fst e, congrArg Prod.snd e⟩
  · exact absurd h0 k0
  · exact absurd k0 h0
  · exact ⟨h.trans k.symm, h'.trans k'.symm⟩

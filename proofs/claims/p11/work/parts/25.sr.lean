/-! the slots of one kind: the class' sorted rows and the reference's -/
def sR (i c : Int) (s v : Int → Int) (n : Int) (S V : Int → Int) : Prop :=
  n = c ∧ (0 ≤ c ∧ c ≤ 8) ∧ (∀ j : Int, 0 ≤ j → j < c → 0 ≤ s j ∧ s j ≤ 1439) ∧ (∀ j k : Int, 0 ≤ j → j < k → k < c → s j < s k) ∧ (∀ j : Int, 0 ≤ j → j < c → ∃ q : Int, 8 * i ≤ q ∧ q < 8 * i + c ∧ S q = s j ∧ V q = v j) ∧ (∀ q : Int, 8 * i ≤ q → q < 8 * i + c → ∃ j : Int, 0 ≤ j ∧ j < c ∧ s j = S q ∧ v j = V q) ∧ (∀ q r : Int, 8 * i ≤ q → q < 8 * i + c → 8 * i ≤ r → r < 8 * i + c → S q = S r → q = r)
theorem sR_0 (i : Int) (s v S V : Int → Int) : sR i 0 s v 0 S V :=
  ⟨rfl, by omega, fun j h1 h2 => absurd h2 (by omega), fun j k h1 h2 h3 => absurd h3 (by omega), fun j h1 h2 => absurd h2 (by omega), fun q h1 h2 => absurd h2 (by omega), fun q r h1 h2 => absurd h2 (by omega)⟩
/-- where the start stands: the class' span and the reference's place say the same -/
theorem sR_hit {i c : Int} {s v : Int → Int} {n : Int} {S V : Int → Int} (h : sR i c s v n S V) {a k : Int} (hk : 0 ≤ k ∧ k ≤ c ∧ (∀ j : Int, 0 ≤ j → j < k → s j ≤ a) ∧ (k < c → a < s k)) {t : Int} (ht : 0 ≤ t ∧ t ≤ n ∧ (∀ j : Int, 0 ≤ j → j < t → ¬ S (8 * i + j) = a) ∧ (t < n → S (8 * i + t) = a)) : (0 < k ∧ s (k - 1) = a) ↔ t < n := by
  obtain ⟨e0, e1, e2, e3, e4, e5, e6⟩ := h
  obtain ⟨k0, k1, k2, k3⟩ := hk
  obtain ⟨t0, t1, t2, t3⟩ := ht
  constructor
  · intro hh
    obtain ⟨q, q1, q2, q3, q4⟩ := e4 (k - 1) (by omega) (by omega)
    rcases (show t < n ∨ t = n by omega) with e | e
    · exact e
    · refine absurd ?_ (t2 (q - 8 * i) (by omega) (by omega))
      rw [show 8 * i + (q - 8 * i) = q by omega, q3]
      exact hh.2
  · intro hh
    have hS := t3 hh
    obtain ⟨j, j1, j2, j3, j4⟩ := e5 (8 * i + t) (by omega) (by omega)
    have hj : s j = a := j3.trans hS
    have hjk : j < k := by
      rcases (show j < k ∨ k < j ∨ k = j by omega) with e | e | e
      · exact e
      · have := k3 (by omega)
        have := e3 k j k0 e j2
        omega
      · have := k3 (by omega)
        rw [e] at this
        omega
    have hjk1 : j = k - 1 := by
      rcases (show j = k - 1 ∨ j < k - 1 by omega) with e | e
      · exact e
      · have := e3 j (k - 1) j1 e (by omega)
        have := k2 (k - 1) (by omega) (by omega)
        omega
    exact ⟨by omega, by rw [← hjk1]; exact hj⟩
/-- a start that stands already: its value is new -/
theorem sR_set {i c : Int} {s v : Int → Int} {n : Int} {S V : Int → Int} (h : sR i c s v n S V) {a b k t : Int} (hk : 0 < k ∧ k ≤ c ∧ s (k - 1) = a) (ht : 0 ≤ t ∧ t < n ∧ S (8 * i + t) = a) : sR i c s (jU v (k - 1) b) n (jU S (8 * i + t) a) (jU V (8 * i + t) b) := by
  obtain ⟨e0, e1, e2, e3, e4, e5, e6⟩ := h
  have hS : jU S (8 * i + t) a = S := by
    funext q
    rcases Decidable.em (q = 8 * i + t) with e | e
    · rw [e, jU_s, ht.2.2]
    · rw [jU_n _ _ e]
  rw [hS]
  refine ⟨e0, e1, e2, e3, fun j j1 j2 => ?_, fun q q1 q2 => ?_, e6⟩
  · rcases Decidable.em (j = k - 1) with e | e
    · exact ⟨8 * i + t, by omega, by omega, by rw [ht.2.2, e, hk.2.2], by rw [e, jU_s, jU_s]⟩
    · obtain ⟨q, q1, q2, q3, q4⟩ := e4 j j1 j2
      refine ⟨q, q1, q2, q3, ?_⟩
      rw [jU_n _ _ e, jU_n _ _ ?_]
      · exact q4
      · intro e7
        rw [e7, ht.2.2] at q3
        rcases (show j < k - 1 ∨ k - 1 < j by omega) with e8 | e8
        · have := e3 j (k - 1) j1 e8 (by omega)
          omega
        · have := e3 (k - 1) j (by omega) e8 j2
          omega
  · rcases Decidable.em (q = 8 * i + t) with e | e
    · exact ⟨k - 1, by omega, by omega, by rw [e, ht.2.2, hk.2.2], by rw [e, jU_s, jU_s]⟩
    · obtain ⟨j, j1, j2, j3, j4⟩ := e5 q q1 q2
      refine ⟨j, j1, j2, j3, ?_⟩
      rw [jU_n _ _ e, jU_n _ _ ?_]
      · exact j4
      · intro e7
        rw [e7, hk.2.2] at j3
        exact e (e6 q (8 * i + t) q1 q2 (by omega) (by omega) (by rw [ht.2.2]; exact j3.symm))
/-- a new start -/
theorem sR_new {i c : Int} {s v : Int → Int} {n : Int} {S V : Int → Int} (h : sR i c s v n S V) {a b k : Int} (ha : 0 ≤ a ∧ a ≤ 1439) (hc : c < 8) (hk : 0 ≤ k ∧ k ≤ c ∧ (∀ j : Int, 0 ≤ j → j < k → s j ≤ a) ∧ (k < c → a < s k)) (hno : ¬ (0 < k ∧ s (k - 1) = a)) (hn : ∀ j : Int, 0 ≤ j → j < n → ¬ S (8 * i + j) = a) {s1 v1 : Int → Int} (h1 : ∀ j : Int, 0 ≤ j → j < k → s1 j = s j ∧ v1 j = v j) (h2 : s1 k = a) (h3 : v1 k = b) (h4 : ∀ j : Int, k < j → j ≤ c → s1 j = s (j - 1) ∧ v1 j = v (j - 1)) : sR i (c + 1) s1 v1 (n + 1) (jU S (8 * i + n) a) (jU V (8 * i + n) b) := by
  obtain ⟨e0, e1, e2, e3, e4, e5, e6⟩ := h
  obtain ⟨k0, k1, k2, k3⟩ := hk
  have lo : ∀ j : Int, 0 ≤ j → j < k → s j < a := by
    intro j j0 j1
    have q1 := k2 j j0 j1
    rcases (show j = k - 1 ∨ j < k - 1 by omega) with e | e
    · have : ¬ s j = a := fun e7 => hno ⟨by omega, by rw [← e]; exact e7⟩
      omega
    · have q2 := e3 j (k - 1) j0 e (by omega)
      have q3 := k2 (k - 1) (by omega) (by omega)
      omega
  have hi : ∀ j : Int, k ≤ j → j < c → a < s j := by
    intro j j0 j1
    have q1 := k3 (by omega)
    rcases (show k = j ∨ k < j by omega) with e | e
    · rw [← e]; exact q1
    · have := e3 k j k0 e j1
      omega
  refine ⟨by omega, by omega, fun j j1 j2 => ?_, fun j m j1 j2 j3 => ?_, fun j j1 j2 => ?_, fun q q1 q2 => ?_, fun q r q1 q2 r1 r2 hqr => ?_⟩
  · rcases (show j < k ∨ j = k ∨ k < j by omega) with e | e | e
    · rw [(h1 j j1 e).1]; exact e2 j j1 (by omega)
    · rw [e, h2]; exact ha
    · rw [(h4 j e (by omega)).1]; exact e2 (j - 1) (by omega) (by omega)
  · rcases (show j < k ∨ j = k ∨ k < j by omega) with e | e | e
    · rw [(h1 j j1 e).1]
      rcases (show m < k ∨ m = k ∨ k < m by omega) with f | f | f
      · rw [(h1 m (by omega) f).1]; exact e3 j m j1 j2 (by omega)
      · rw [f, h2]; exact lo j j1 e
      · rw [(h4 m f (by omega)).1]
        have := lo j j1 e
        have := hi (m - 1) (by omega) (by omega)
        omega
    · rw [e, h2, (h4 m (by omega) (by omega)).1]
      exact hi (m - 1) (by omega) (by omega)
    · rw [(h4 j e (by omega)).1, (h4 m (by omega) (by omega)).1]
      exact e3 (j - 1) (m - 1) (by omega) (by omega) (by omega)
  · rcases (show j < k ∨ j = k ∨ k < j by omega) with e | e | e
    · obtain ⟨q, q1, q2, q3, q4⟩ := e4 j j1 (by omega)
      exact ⟨q, q1, by omega, by rw [jU_n _ _ (by omega), q3, (h1 j j1 e).1], by rw [jU_n _ _ (by omega), q4, (h1 j j1 e).2]⟩
    · exact ⟨8 * i + n, by omega, by omega, by rw [jU_s, e, h2], by rw [jU_s, e, h3]⟩
    · obtain ⟨q, q1, q2, q3, q4⟩ := e4 (j - 1) (by omega) (by omega)
      exact ⟨q, q1, by omega, by rw [jU_n _ _ (by omega), q3, (h4 j e (by omega)).1], by rw [jU_n _ _ (by omega), q4, (h4 j e (by omega)).2]⟩
  · rcases Decidable.em (q = 8 * i + n) with e | e
    · exact ⟨k, k0, by omega, by rw [e, jU_s, h2], by rw [e, jU_s, h3]⟩
    · obtain ⟨j, j1, j2, j3, j4⟩ := e5 q q1 (by omega)
      rw [jU_n _ _ e, jU_n _ _ e]
      rcases (show j < k ∨ k ≤ j by omega) with f | f
      · exact ⟨j, j1, by omega, by rw [(h1 j j1 f).1, j3], by rw [(h1 j j1 f).2, j4]⟩
      · refine ⟨j + 1, by omega, by omega, ?_, ?_⟩
        · rw [(h4 (j + 1) (by omega) (by omega)).1, show j + 1 - 1 = j by omega, j3]
        · rw [(h4 (j + 1) (by omega) (by omega)).2, show j + 1 - 1 = j by omega, j4]
  · have nn : ∀ q : Int, 8 * i ≤ q → q < 8 * i + c → ¬ S q = a := by
      intro q z1 z2 z3
      refine hn (q - 8 * i) (by omega) (by omega) ?_
      rw [show 8 * i + (q - 8 * i) = q by omega]
      exact z3
    rcases Decidable.em (q = 8 * i + n) with e | e <;> rcases Decidable.em (r = 8 * i + n) with f | f
    · omega
    · rw [e, jU_s, jU_n _ _ f] at hqr
      exact absurd hqr.symm (nn r r1 (by omega))
    · rw [f, jU_s, jU_n _ _ e] at hqr
      exact absurd hqr (nn q q1 (by omega))
    · rw [jU_n _ _ e, jU_n _ _ f] at hqr
      exact e6 q r q1 (by omega) r1 (by omega) hqr
/-- rows of another kind stay -/
theorem sR_keep {i c : Int} {s v : Int → Int} {n : Int} {S V S1 V1 : Int → Int} (h : sR i c s v n S V) (hS : ∀ q : Int, 8 * i ≤ q → q < 8 * i + 8 → S1 q = S q ∧ V1 q = V q) : sR i c s v n S1 V1 := by
  obtain ⟨e0, e1, e2, e3, e4, e5, e6⟩ := h
  refine ⟨e0, e1, e2, e3, fun j j1 j2 => ?_, fun q q1 q2 => ?_, fun q r q1 q2 r1 r2 hqr => ?_⟩
  · obtain ⟨q, q1, q2, q3, q4⟩ := e4 j j1 j2
    have := hS q q1 (by omega)
    exact ⟨q, q1, q2, this.1.trans q3, this.2.trans q4⟩
  · obtain ⟨j, j1, j2, j3, j4⟩ := e5 q q1 q2
    have := hS q q1 (by omega)
    exact ⟨j, j1, j2, j3.trans this.1.symm, j4.trans this.2.symm⟩
  · rw [(hS q q1 (by omega)).1, (hS r r1 (by omega)).1] at hqr
    exact e6 q r q1 q2 r1 r2 hqr
/-- the value at a minute: both choose the same slot -/
theorem sR_value {i c : Int} {s v : Int → Int} {n : Int} {S V : Int → Int} (h : sR i c s v n S V) {a z y w k b : Int} (ha : 0 ≤ a ∧ a ≤ 1439) (hc0 : ¬ c = 0) (hk : 0 ≤ k ∧ k ≤ c ∧ (∀ j : Int, 0 ≤ j → j < k → s j ≤ a) ∧ (k < c → a < s k)) (hz : (c = 0 ∧ z = w) ∨ (¬ c = 0 ∧ k = 0 ∧ z = v (c - 1)) ∨ (¬ c = 0 ∧ ¬ k = 0 ∧ z = v (k - 1))) (hb : 8 * i ≤ b ∧ b < 8 * i + n) (hy : y = V b) (hm : ∀ q : Int, 8 * i ≤ q → q < 8 * i + n → (a - S b + 1440) % 1440 ≤ (a - S q + 1440) % 1440) : z = y := by
  obtain ⟨e0, e1, e2, e3, e4, e5, e6⟩ := h
  obtain ⟨k0, k1, k2, k3⟩ := hk
  obtain ⟨j, j1, j2, j3, j4⟩ := e5 b hb.1 (by omega)
  obtain ⟨m, hm1, hm2, hm3⟩ : ∃ m : Int, 0 ≤ m ∧ m < c ∧ ((k = 0 ∧ m = c - 1) ∨ (¬ k = 0 ∧ m = k - 1)) := by
    rcases Decidable.em (k = 0) with e | e
    · exact ⟨c - 1, by omega, by omega, Or.inl ⟨e, rfl⟩⟩
    · exact ⟨k - 1, by omega, by omega, Or.inr ⟨e, rfl⟩⟩
  have hzm : z = v m := by
    rcases hz with q | q | q
    · exact absurd q.1 hc0
    · rw [q.2.2]
      rcases hm3 with f | f
      · rw [f.2]
      · exact absurd q.2.1 f.1
    · rw [q.2.2]
      rcases hm3 with f | f
      · exact absurd f.1 q.2.1
      · rw [f.2]
  obtain ⟨q, q1, q2, q3, q4⟩ := e4 m hm1 hm2
  have g1 := hm q q1 (by omega)
  have bj := e2 j j1 j2
  have bm := e2 m hm1 hm2
  rw [q3, ← j3] at g1
  have hjm : j = m := by
    rcases (show j = m ∨ j < m ∨ m < j by omega) with e | e | e
    · exact e
    · have o1 := e3 j m j1 e hm2
      exfalso
      rcases hm3 with f | f
      · have g2 := k3 (by omega)
        have g3 : a < s j := by
          rcases (show k = j ∨ k < j by omega) with f2 | f2
          · rw [← f2]; exact g2
          · have := e3 k j k0 f2 j2
            omega
        omega
      · have g2 := k2 m hm1 (by omega)
        omega
    · have o1 := e3 m j hm1 e j2
      exfalso
      rcases hm3 with f | f
      · omega
      · have g2 := k2 m hm1 (by omega)
        have g3 := k3 (by omega)
        have g4 : a < s j := by
          rcases (show k = j ∨ k < j by omega) with f2 | f2
          · rw [← f2]; exact g3
          · have := e3 k j k0 f2 j2
            omega
        omega
  rw [hzm, hy, ← j4, hjm]

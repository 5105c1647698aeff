/-! the law's state -/
def Hid (P : Prop) : Prop := P
theorem hid {P : Prop} (h : P) : Hid P := h
theorem unhid {P : Prop} (h : Hid P) : P := h
def lY (xs : Nat → Int32) : Int → Int := fun i => (xs i.toNat).toInt
theorem lY_rng (xs : Nat → Int32) (i : Int) : -2147483648 ≤ lY xs i ∧ lY xs i ≤ 2147483647 := ⟨by have := Int32.le_toInt (xs i.toNat); unfold lY; omega, by have := Int32.toInt_lt (xs i.toNat); unfold lY; omega⟩
theorem k_rotP {D : va_G} {cl : List vw_C} {X P M : va_W} {H : Heap} (h : va_P D cl (X ++ (P ++ M)) H) : va_P D cl (M ++ (X ++ P)) H := by
  rw [← List.append_assoc] at h
  exact k_Psw h
theorem k_rotD {A : Nat → Prop} {X P M : va_W} (h : va_D A (X ++ (P ++ M))) : va_D A (M ++ (X ++ P)) := by
  rw [← List.append_assoc] at h
  exact k_Dsw h
theorem k_torP {D : va_G} {cl : List vw_C} {X P M : va_W} {H : Heap} (h : va_P D cl (M ++ (X ++ P)) H) : va_P D cl (X ++ (P ++ M)) H := by
  rw [← List.append_assoc]
  exact k_Psw h
theorem k_torD {A : Nat → Prop} {X P M : va_W} (h : va_D A (M ++ (X ++ P))) : va_D A (X ++ (P ++ M)) := by
  rw [← List.append_assoc]
  exact k_Dsw h
section LR
variable {p : Program} {l : Launch} {e : Env} {R : Room} {s : State} {m : MethodId} {args : Array Value} {below : List Frame} {meth : Method} {c : Code} {H : Heap} {locs : List Loc} {cells slots : Nat} {Q : State → Prop}
variable {pc : Nat} {ls : Array Slot} {rest : List Value} {A : Nat → Prop} {H0 : Heap} {cc : ByteArray}
theorem jz_sld (hexec : p.tables.exec = Jvm.exec) (hb : c.code = cc) {b L : Nat} {xs : Nat → Int32} (hX : va_X b L xs s H0) (hbl : b < H0.size) (hbA : ¬ A b) (hS : va_S A H0 H locs) {i : Int} (hi : 0 ≤ i ∧ i < (L : Int) ∧ i ≤ 2147483647) (hdg : decode cc pc = .ok (.iaload, 1))
    (kk : W p l e R s m args below meth c H locs cells slots Q (F0 m (pc + 1) ls (.int (iI (lY xs i)) :: rest))) : W p l e R s m args below meth c H locs cells slots Q (F0 m pc ls (.int (iI i) :: .ref b :: rest)) := by
  refine va_sld hexec hb hX hbl hbA hS (iI_in hi) hdg ?_
  rw [iI_clamp ⟨hi.1, hi.2.2⟩]
  have e1 : xs i.toNat = iI (lY xs i) := (Int32.ofInt_toInt (xs i.toNat)).symm
  rw [e1]
  exact kk
theorem jz_slen (hexec : p.tables.exec = Jvm.exec) (hb : c.code = cc) {b L : Nat} {xs : Nat → Int32} (hX : va_X b L xs s H0) (hbl : b < H0.size) (hbA : ¬ A b) (hS : va_S A H0 H locs) (hdg : decode cc pc = .ok (.arraylength, 1))
    (kk : W p l e R s m args below meth c H locs cells slots Q (F0 m (pc + 1) ls (.int (iI (L : Int)) :: rest))) : W p l e R s m args below meth c H locs cells slots Q (F0 m pc ls (.ref b :: rest)) := by
  refine va_slen hexec hb hX hbl hbA hS hdg ?_
  have e1 : nI L = iI (L : Int) := iI_nI L
  first | exact (e1 ▸ kk) | (rw [show Int32.ofNat L = iI (L : Int) from e1]; exact kk) | (rw [e1]; exact kk)
theorem jz_same (hexec : p.tables.exec = Jvm.exec) (hb : c.code = cc) {x y : Int} {off : Int} {tgt : Nat} (hdg : decode cc pc = .ok (.if_icmp .eq off, 3)) (ht : (pc : Int) + off = (tgt : Int)) (hxy : x = y) (k : W p l e R s m args below meth c H locs cells slots Q (F0 m tgt ls rest)) : W p l e R s m args below meth c H locs cells slots Q (F0 m pc ls (.int (iI y) :: .int (iI x) :: rest)) :=
  lv_icmp_eq hexec hb hdg ht (fun _ => k) (fun h => absurd (by rw [hxy]) h)
theorem jz_lsame (hexec : p.tables.exec = Jvm.exec) (hb : c.code = cc) {x y : Int64} {off : Int} {tgt : Nat} (hd1 : decode cc pc = .ok (.lcmp, 1)) (hdg : decode cc (pc + 1) = .ok (.ifCond .eq off, 3)) (ht : ((pc + 1 : Nat) : Int) + off = (tgt : Int)) (hxy : x = y) (k : W p l e R s m args below meth c H locs cells slots Q (F0 m tgt ls rest)) : W p l e R s m args below meth c H locs cells slots Q (F0 m pc ls (.long y :: .long x :: rest)) := by
  subst hxy
  refine W.lcmp hexec hb hd1 ?_
  rw [show lg_cmp x x = 0 by unfold lg_cmp; rw [if_neg (Int64.lt_irrefl), if_pos rfl]]
  exact lv_if_eq hexec hb hdg ht (fun _ => k) (fun q => absurd rfl q)
end LR
theorem ms_inv {mn mst mva : Int → Int} {a1 a2 a3 z : Int} {u : (Int → Int) × (Int → Int) × (Int → Int)} (hmn : ∀ i : Int, 0 ≤ i → i ≤ 4 → 0 ≤ mn i ∧ mn i ≤ 8) (hst : ∀ i q : Int, 0 ≤ i → i ≤ 4 → 8 * i ≤ q → q < 8 * i + mn i → 0 ≤ mst q ∧ mst q ≤ 1439) (hva : ∀ i q : Int, 0 ≤ i → i ≤ 3 → 8 * i ≤ q → q < 8 * i + mn i → 1 ≤ mva q ∧ mva q ≤ 1000) (hva4 : ∀ q : Int, 32 ≤ q → q < 32 + mn 4 → 0 ≤ mva q ∧ mva q ≤ 20000) (hz : (¬ (0 ≤ a1 ∧ a1 ≤ 4 ∧ 0 ≤ a2 ∧ a2 ≤ 1439 ∧ ((a1 = 4 ∧ 0 ≤ a3 ∧ a3 ≤ 20000) ∨ (¬ a1 = 4 ∧ 1 ≤ a3 ∧ a3 ≤ 1000))) ∧ z = 0 ∧ u = (mn, mst, mva)) ∨ ((0 ≤ a1 ∧ a1 ≤ 4 ∧ 0 ≤ a2 ∧ a2 ≤ 1439 ∧ ((a1 = 4 ∧ 0 ≤ a3 ∧ a3 ≤ 20000) ∨ (¬ a1 = 4 ∧ 1 ≤ a3 ∧ a3 ≤ 1000))) ∧ ∃ at0 : Int, (0 ≤ at0 ∧ at0 ≤ mn a1 ∧ (∀ j : Int, 0 ≤ j → j < at0 → ¬ mst (8 * a1 + j) = a2) ∧ (at0 < mn a1 → mst (8 * a1 + at0) = a2)) ∧ ((at0 = 8 ∧ z = 0 ∧ u = (mn, mst, mva)) ∨ (at0 < 8 ∧ z = 1 ∧ u.2.1 = jU mst (8 * a1 + at0) a2 ∧ u.2.2 = jU mva (8 * a1 + at0) a3 ∧ ((at0 = mn a1 ∧ u.1 = jU mn a1 (at0 + 1)) ∨ (at0 < mn a1 ∧ u.1 = jU mn a1 (mn a1))))))) : (∀ i : Int, 0 ≤ i → i ≤ 4 → 0 ≤ u.1 i ∧ u.1 i ≤ 8) ∧ (∀ i q : Int, 0 ≤ i → i ≤ 4 → 8 * i ≤ q → q < 8 * i + u.1 i → 0 ≤ u.2.1 q ∧ u.2.1 q ≤ 1439) ∧ (∀ i q : Int, 0 ≤ i → i ≤ 3 → 8 * i ≤ q → q < 8 * i + u.1 i → 1 ≤ u.2.2 q ∧ u.2.2 q ≤ 1000) ∧ (∀ q : Int, 32 ≤ q → q < 32 + u.1 4 → 0 ≤ u.2.2 q ∧ u.2.2 q ≤ 20000) := by
  rcases hz with ⟨-, -, rfl⟩ | ⟨ok, at0, ⟨b0, b1, b2, b3⟩, ⟨-, -, rfl⟩ | ⟨c1, -, e1, e2, e3⟩⟩
  · exact ⟨hmn, hst, hva, hva4⟩
  · exact ⟨hmn, hst, hva, hva4⟩
  · have key : ∀ i : Int, (i = a1 ∧ mn i = mn a1 ∧ ((at0 = mn a1 ∧ u.1 i = mn a1 + 1) ∨ (at0 < mn a1 ∧ u.1 i = mn a1))) ∨ (¬ i = a1 ∧ u.1 i = mn i) := by
      intro i
      rcases Decidable.em (i = a1) with hi | hi
      · left
        refine ⟨hi, by rw [hi], ?_⟩
        rcases e3 with ⟨q1, q2⟩ | ⟨q1, q2⟩
        · left
          refine ⟨q1, ?_⟩
          rw [q2, hi, jU_s]
          omega
        · right
          refine ⟨q1, ?_⟩
          rw [q2, hi, jU_s]
      · right
        refine ⟨hi, ?_⟩
        rcases e3 with ⟨q1, q2⟩ | ⟨q1, q2⟩ <;> rw [q2, jU_n _ _ hi]
    refine ⟨fun i h0 h4 => ?_, fun i q h0 h4 h8 hq => ?_, fun i q h0 h4 h8 hq => ?_, fun q h8 hq => ?_⟩
    · have := hmn i h0 h4
      have := key i
      omega
    · have k1 := key i
      have k2 := hmn i h0 h4
      rw [e1]
      rcases Decidable.em (q = 8 * a1 + at0) with e | e
      · rw [e, jU_s]; omega
      · rw [jU_n _ _ e]
        exact hst i q h0 h4 h8 (by omega)
    · have k1 := key i
      have k2 := hmn i h0 (by omega)
      rw [e2]
      rcases Decidable.em (q = 8 * a1 + at0) with e | e
      · rw [e, jU_s]; omega
      · rw [jU_n _ _ e]
        exact hva i q h0 h4 h8 (by omega)
    · have k1 := key 4
      have k2 := hmn 4 (by omega) (by omega)
      rw [e2]
      rcases Decidable.em (q = 8 * a1 + at0) with e | e
      · rw [e, jU_s]; omega
      · rw [jU_n _ _ e]
        exact hva4 q h8 (by omega)
theorem sl_step {cs : Nat → Int} {sts vas : Nat → Int → Int} {mn mst mva : Int → Int} (hsr : ∀ i : Nat, i < 5 → sR (i : Int) (cs i) (sts i) (vas i) (mn (i : Int)) mst mva) {a1 a2 a3 z y : Int} {u : (Nat → Int) × (Nat → Int → Int) × (Nat → Int → Int)} {v : (Int → Int) × (Int → Int) × (Int → Int)} (hz : (¬ (0 ≤ a1 ∧ a1 ≤ 4 ∧ 0 ≤ a2 ∧ a2 ≤ 1439 ∧ ((a1 = 4 ∧ 0 ≤ a3 ∧ a3 ≤ 20000) ∨ (¬ a1 = 4 ∧ 1 ≤ a3 ∧ a3 ≤ 1000))) ∧ z = 0 ∧ u = (cs, sts, vas)) ∨ ((0 ≤ a1 ∧ a1 ≤ 4 ∧ 0 ≤ a2 ∧ a2 ≤ 1439 ∧ ((a1 = 4 ∧ 0 ≤ a3 ∧ a3 ≤ 20000) ∨ (¬ a1 = 4 ∧ 1 ≤ a3 ∧ a3 ≤ 1000))) ∧ ∃ i : Nat, i < 5 ∧ a1 = (i : Int) ∧ ((∃ k : Int, (0 ≤ k ∧ k ≤ cs i ∧ (∀ j : Int, 0 ≤ j → j < k → sts i j ≤ a2) ∧ (k < cs i → a2 < sts i k)) ∧ ((0 < k ∧ sts i (k - 1) = a2 ∧ z = 1 ∧ u.1 i = cs i ∧ u.2.1 i = sts i ∧ u.2.2 i = jU (vas i) (k - 1) a3) ∨ (¬ (0 < k ∧ sts i (k - 1) = a2) ∧ cs i = 8 ∧ z = 0 ∧ u.1 i = cs i ∧ u.2.1 i = sts i ∧ u.2.2 i = vas i) ∨ (¬ (0 < k ∧ sts i (k - 1) = a2) ∧ cs i < 8 ∧ z = 1 ∧ u.1 i = cs i + 1 ∧ (∀ j : Int, 0 ≤ j → j < k → u.2.1 i j = sts i j ∧ u.2.2 i j = vas i j) ∧ u.2.1 i k = a2 ∧ u.2.2 i k = a3 ∧ (∀ j : Int, k < j → j ≤ cs i → u.2.1 i j = sts i (j - 1) ∧ u.2.2 i j = vas i (j - 1))))) ∧ (∀ j : Int, -2147483648 ≤ u.2.1 i j ∧ u.2.1 i j ≤ 2147483647) ∧ (∀ j : Int, -2147483648 ≤ u.2.2 i j ∧ u.2.2 i j ≤ 2147483647)) ∧ ∀ j : Nat, ¬ j = i → u.1 j = cs j ∧ u.2.1 j = sts j ∧ u.2.2 j = vas j)) (hy : (¬ (0 ≤ a1 ∧ a1 ≤ 4 ∧ 0 ≤ a2 ∧ a2 ≤ 1439 ∧ ((a1 = 4 ∧ 0 ≤ a3 ∧ a3 ≤ 20000) ∨ (¬ a1 = 4 ∧ 1 ≤ a3 ∧ a3 ≤ 1000))) ∧ y = 0 ∧ v = (mn, mst, mva)) ∨ ((0 ≤ a1 ∧ a1 ≤ 4 ∧ 0 ≤ a2 ∧ a2 ≤ 1439 ∧ ((a1 = 4 ∧ 0 ≤ a3 ∧ a3 ≤ 20000) ∨ (¬ a1 = 4 ∧ 1 ≤ a3 ∧ a3 ≤ 1000))) ∧ ∃ at0 : Int, (0 ≤ at0 ∧ at0 ≤ mn a1 ∧ (∀ j : Int, 0 ≤ j → j < at0 → ¬ mst (8 * a1 + j) = a2) ∧ (at0 < mn a1 → mst (8 * a1 + at0) = a2)) ∧ ((at0 = 8 ∧ y = 0 ∧ v = (mn, mst, mva)) ∨ (at0 < 8 ∧ y = 1 ∧ v.2.1 = jU mst (8 * a1 + at0) a2 ∧ v.2.2 = jU mva (8 * a1 + at0) a3 ∧ ((at0 = mn a1 ∧ v.1 = jU mn a1 (at0 + 1)) ∨ (at0 < mn a1 ∧ v.1 = jU mn a1 (mn a1))))))) : z = y ∧ ∀ i : Nat, i < 5 → sR (i : Int) (u.1 i) (u.2.1 i) (u.2.2 i) (v.1 (i : Int)) v.2.1 v.2.2 := by
  rcases hz with ⟨no, z0, rfl⟩ | ⟨ok, i0, i5, ia, ⟨⟨k, hk, hq⟩, r1, r2⟩, oth⟩
  · rcases hy with ⟨no2, y0, rfl⟩ | ⟨ok2, -⟩
    · exact ⟨by omega, hsr⟩
    · exact absurd ok2 no
  · rcases hy with ⟨no2, -⟩ | ⟨ok2, t, ht, hr⟩
    · exact absurd ok no2
    · have h0 := hsr i0 i5
      subst ia
      have hit := sR_hit h0 hk ht
      have c0 := h0.1
      have c1 := h0.2.1
      rcases hq with ⟨q1, q2, q3, q4, q5, q6⟩ | ⟨q1, q2, q3, q4, q5, q6⟩ | ⟨q1, q2, q3, q4, q5, q6, q7, q8⟩
      · have hlt := hit.mp ⟨q1, q2⟩
        rcases hr with ⟨w1, -⟩ | ⟨w1, w2, w3, w4, w5⟩
        · omega
        · refine ⟨by omega, fun i hi => ?_⟩
          rcases Decidable.em (i = i0) with e | e
          · rw [e, q4, q5, q6, w3, w4]
            rcases w5 with ⟨w6, -⟩ | ⟨w6, w7⟩
            · omega
            · rw [w7, jU_s]
              exact sR_set h0 ⟨q1, hk.2.1, q2⟩ ⟨ht.1, hlt, ht.2.2.2 hlt⟩
          · obtain ⟨o1, o2, o3⟩ := oth i e
            rw [o1, o2, o3]
            have o4 : v.1 (i : Int) = mn (i : Int) := by
              rcases w5 with ⟨-, w7⟩ | ⟨-, w7⟩ <;> rw [w7, jU_n _ _ (by omega)]
            rw [o4]
            refine sR_keep (hsr i hi) (fun q p1 p2 => ?_)
            rw [w3, w4, jU_n _ _ (by omega), jU_n _ _ (by omega)]
            exact ⟨rfl, rfl⟩
      · have hn : ¬ t < mn (i0 : Int) := fun f => q1 (hit.mpr f)
        rcases hr with ⟨w1, w2, rfl⟩ | ⟨w1, -⟩
        · refine ⟨by omega, fun i hi => ?_⟩
          rcases Decidable.em (i = i0) with e | e
          · rw [e, q4, q5, q6]
            exact h0
          · obtain ⟨o1, o2, o3⟩ := oth i e
            rw [o1, o2, o3]
            exact hsr i hi
        · omega
      · have hn : ¬ t < mn (i0 : Int) := fun f => q1 (hit.mpr f)
        rcases hr with ⟨w1, -⟩ | ⟨w1, w2, w3, w4, w5⟩
        · omega
        · refine ⟨by omega, fun i hi => ?_⟩
          rcases Decidable.em (i = i0) with e | e
          · rcases w5 with ⟨w6, w7⟩ | ⟨w6, -⟩
            · rw [e, q4, w3, w4, w7, jU_s, w6]
              exact sR_new h0 (by omega) (by omega) hk q1 (fun j j1 j2 => ht.2.2.1 j j1 (by omega)) q5 q6 q7 q8
            · omega
          · obtain ⟨o1, o2, o3⟩ := oth i e
            rw [o1, o2, o3]
            have o4 : v.1 (i : Int) = mn (i : Int) := by
              rcases w5 with ⟨-, w7⟩ | ⟨-, w7⟩ <;> rw [w7, jU_n _ _ (by omega)]
            rw [o4]
            refine sR_keep (hsr i hi) (fun q p1 p2 => ?_)
            rw [w3, w4, jU_n _ _ (by omega), jU_n _ _ (by omega)]
            exact ⟨rfl, rfl⟩
theorem sl_value {cs : Nat → Int} {sts vas : Nat → Int → Int} {mn mst mva : Int → Int} (hsr : ∀ i : Nat, i < 5 → sR (i : Int) (cs i) (sts i) (vas i) (mn (i : Int)) mst mva) {a1 a2 z y : Int} (hz : (¬ (0 ≤ a1 ∧ a1 ≤ 4 ∧ 0 ≤ a2 ∧ a2 ≤ 1439) ∧ z = -1) ∨ ((0 ≤ a1 ∧ a1 ≤ 4 ∧ 0 ≤ a2 ∧ a2 ≤ 1439) ∧ ∃ i : Nat, i < 5 ∧ a1 = (i : Int) ∧ (∃ k : Int, (0 ≤ k ∧ k ≤ cs i ∧ (∀ j : Int, 0 ≤ j → j < k → sts i j ≤ a2) ∧ (k < cs i → a2 < sts i k)) ∧ ((cs i = 0 ∧ z = vw i) ∨ (¬ cs i = 0 ∧ k = 0 ∧ z = vas i (cs i - 1)) ∨ (¬ cs i = 0 ∧ ¬ k = 0 ∧ z = vas i (k - 1)))))) (hy : (¬ (0 ≤ a1 ∧ a1 ≤ 4 ∧ 0 ≤ a2 ∧ a2 ≤ 1439) ∧ y = -1) ∨ ((0 ≤ a1 ∧ a1 ≤ 4 ∧ 0 ≤ a2 ∧ a2 ≤ 1439) ∧ ((mn a1 = 0 ∧ ((a1 = 0 ∧ y = 10) ∨ (a1 = 1 ∧ y = 50) ∨ (a1 = 2 ∧ y = 100) ∨ (a1 = 3 ∧ y = 120) ∨ ((¬ a1 = 0 ∧ ¬ a1 = 1 ∧ ¬ a1 = 2 ∧ ¬ a1 = 3) ∧ y = 0))) ∨ (∃ b : Int, 8 * a1 ≤ b ∧ b < 8 * a1 + mn a1 ∧ y = mva b ∧ ∀ q : Int, 8 * a1 ≤ q → q < 8 * a1 + mn a1 → (a2 - mst b + 1440) % 1440 ≤ (a2 - mst q + 1440) % 1440)))) : z = y := by
  rcases hz with ⟨no, z0⟩ | ⟨ok, i0, i5, ia, k, hk, hv⟩
  · rcases hy with ⟨-, y0⟩ | ⟨ok2, -⟩
    · omega
    · exact absurd ok2 no
  · rcases hy with ⟨no2, -⟩ | ⟨-, hy⟩
    · exact absurd ok no2
    · have h0 := hsr i0 i5
      subst ia
      have c0 := h0.1
      rcases hy with ⟨m0, f⟩ | ⟨b, b1, b2, b3, b4⟩
      · have hz0 : z = vw i0 := by
          rcases hv with q | q | q
          · exact q.2
          · exact absurd (c0.symm.trans m0) q.1
          · exact absurd (c0.symm.trans m0) q.1
        rcases (show i0 = 0 ∨ i0 = 1 ∨ i0 = 2 ∨ i0 = 3 ∨ i0 = 4 by omega) with rfl | rfl | rfl | rfl | rfl
        · have e : vw 0 = 10 := rfl
          omega
        · have e : vw 1 = 50 := rfl
          omega
        · have e : vw 2 = 100 := rfl
          omega
        · have e : vw 3 = 120 := rfl
          omega
        · have e : vw 4 = 0 := rfl
          omega
      · exact sR_value h0 ok.2.2 (by omega) hk hv ⟨b1, b2⟩ b3 b4
theorem law_R {cs : Nat → Int} {sts vas : Nat → Int → Int} {mn mst mva : Int → Int} (hsr : ∀ i : Nat, i < 5 → sR (i : Int) (cs i) (sts i) (vas i) (mn (i : Int)) mst mva) (hva4 : ∀ q : Int, 32 ≤ q → q < 32 + mn 4 → 0 ≤ mva q ∧ mva q ≤ 20000) : ∃ R : Int → Int, (∀ q : Int, 0 ≤ q → q ≤ 1439 → ∃ k : Int, (0 ≤ k ∧ k ≤ cs 4 ∧ (∀ j : Int, 0 ≤ j → j < k → sts 4 j ≤ q) ∧ (k < cs 4 → q < sts 4 k)) ∧ ((cs 4 = 0 ∧ R q = 0) ∨ (¬ cs 4 = 0 ∧ k = 0 ∧ R q = vas 4 (cs 4 - 1)) ∨ (¬ cs 4 = 0 ∧ ¬ k = 0 ∧ R q = vas 4 (k - 1)))) ∧ (∀ q : Int, 0 ≤ q → q ≤ 1439 → 0 ≤ R q ∧ R q ≤ 20000) ∧ (∀ o z : Int, 0 ≤ o → o ≤ 1439 → ((¬ (0 ≤ (4 : Int) ∧ (4 : Int) ≤ 4 ∧ 0 ≤ o ∧ o ≤ 1439) ∧ z = -1) ∨ ((0 ≤ (4 : Int) ∧ (4 : Int) ≤ 4 ∧ 0 ≤ o ∧ o ≤ 1439) ∧ ((mn (4 : Int) = 0 ∧ (((4 : Int) = 0 ∧ z = 10) ∨ ((4 : Int) = 1 ∧ z = 50) ∨ ((4 : Int) = 2 ∧ z = 100) ∨ ((4 : Int) = 3 ∧ z = 120) ∨ ((¬ (4 : Int) = 0 ∧ ¬ (4 : Int) = 1 ∧ ¬ (4 : Int) = 2 ∧ ¬ (4 : Int) = 3) ∧ z = 0))) ∨ (∃ b : Int, 8 * (4 : Int) ≤ b ∧ b < 8 * (4 : Int) + mn (4 : Int) ∧ z = mva b ∧ ∀ q : Int, 8 * (4 : Int) ≤ q → q < 8 * (4 : Int) + mn (4 : Int) → (o - mst b + 1440) % 1440 ≤ (o - mst q + 1440) % 1440)))) → z = R o) := by
  have h4 : sR 4 (cs 4) (sts 4) (vas 4) (mn 4) mst mva := hsr 4 (by decide)
  have ex : ∀ q : Int, ∃ z : Int, ∃ k : Int, (0 ≤ k ∧ k ≤ cs 4 ∧ (∀ j : Int, 0 ≤ j → j < k → sts 4 j ≤ q) ∧ (k < cs 4 → q < sts 4 k)) ∧ ((cs 4 = 0 ∧ z = 0) ∨ (¬ cs 4 = 0 ∧ k = 0 ∧ z = vas 4 (cs 4 - 1)) ∨ (¬ cs 4 = 0 ∧ ¬ k = 0 ∧ z = vas 4 (k - 1))) := fun q => ex_vat h4.2.1.1 (sts 4) (vas 4) 0 q
  refine ⟨fun q => Classical.choose (ex q), fun q _ _ => Classical.choose_spec (ex q), fun q _ _ => ?_, fun q z q1 q2 hz => ?_⟩
  · exact sR_in h4 (Classical.choose_spec (ex q)) (by omega) (fun r r1 r2 => hva4 r (by omega) (by omega))
  · exact (sl_value hsr (a1 := 4) (a2 := q) (Or.inr ⟨by omega, 4, by decide, rfl, Classical.choose_spec (ex q)⟩) hz).symm
theorem vw_in : ∀ i : Nat, i < 4 → 1 ≤ vw i ∧ vw i ≤ 1000 := by
  intro i hi
  rcases (show i = 0 ∨ i = 1 ∨ i = 2 ∨ i = 3 by omega) with rfl | rfl | rfl | rfl <;> decide
theorem law_V {cs : Nat → Int} {sts vas : Nat → Int → Int} {mn mst mva : Int → Int} (hsr : ∀ i : Nat, i < 5 → sR (i : Int) (cs i) (sts i) (vas i) (mn (i : Int)) mst mva) (hva : ∀ i q : Int, 0 ≤ i → i ≤ 3 → 8 * i ≤ q → q < 8 * i + mn i → 1 ≤ mva q ∧ mva q ≤ 1000) {a : Int} (ha : 0 ≤ a ∧ a ≤ 1439) : ∃ vv : Nat → Int, (∀ i : Nat, i < 4 → ∃ k : Int, (0 ≤ k ∧ k ≤ cs i ∧ (∀ j : Int, 0 ≤ j → j < k → sts i j ≤ a) ∧ (k < cs i → a < sts i k)) ∧ ((cs i = 0 ∧ vv i = vw i) ∨ (¬ cs i = 0 ∧ k = 0 ∧ vv i = vas i (cs i - 1)) ∨ (¬ cs i = 0 ∧ ¬ k = 0 ∧ vv i = vas i (k - 1)))) ∧ (∀ i : Nat, i < 4 → 1 ≤ vv i ∧ vv i ≤ 1000) ∧ (∀ i z : Int, 0 ≤ i → i ≤ 3 → ((¬ (0 ≤ i ∧ i ≤ 4 ∧ 0 ≤ a ∧ a ≤ 1439) ∧ z = -1) ∨ ((0 ≤ i ∧ i ≤ 4 ∧ 0 ≤ a ∧ a ≤ 1439) ∧ ((mn i = 0 ∧ ((i = 0 ∧ z = 10) ∨ (i = 1 ∧ z = 50) ∨ (i = 2 ∧ z = 100) ∨ (i = 3 ∧ z = 120) ∨ ((¬ i = 0 ∧ ¬ i = 1 ∧ ¬ i = 2 ∧ ¬ i = 3) ∧ z = 0))) ∨ (∃ b : Int, 8 * i ≤ b ∧ b < 8 * i + mn i ∧ z = mva b ∧ ∀ q : Int, 8 * i ≤ q → q < 8 * i + mn i → (a - mst b + 1440) % 1440 ≤ (a - mst q + 1440) % 1440)))) → z = vv i.toNat) := by
  have ex : ∀ i : Nat, i < 4 → ∃ z : Int, ∃ k : Int, (0 ≤ k ∧ k ≤ cs i ∧ (∀ j : Int, 0 ≤ j → j < k → sts i j ≤ a) ∧ (k < cs i → a < sts i k)) ∧ ((cs i = 0 ∧ z = vw i) ∨ (¬ cs i = 0 ∧ k = 0 ∧ z = vas i (cs i - 1)) ∨ (¬ cs i = 0 ∧ ¬ k = 0 ∧ z = vas i (k - 1))) := fun i hi => ex_vat (hsr i (by omega)).2.1.1 (sts i) (vas i) (vw i) a
  have sp : ∀ i : Nat, i < 4 → ∃ k : Int, (0 ≤ k ∧ k ≤ cs i ∧ (∀ j : Int, 0 ≤ j → j < k → sts i j ≤ a) ∧ (k < cs i → a < sts i k)) ∧ ((cs i = 0 ∧ (if hi : i < 4 then Classical.choose (ex i hi) else 0) = vw i) ∨ (¬ cs i = 0 ∧ k = 0 ∧ (if hi : i < 4 then Classical.choose (ex i hi) else 0) = vas i (cs i - 1)) ∨ (¬ cs i = 0 ∧ ¬ k = 0 ∧ (if hi : i < 4 then Classical.choose (ex i hi) else 0) = vas i (k - 1))) := by
    intro i hi
    rw [dif_pos hi]
    exact Classical.choose_spec (ex i hi)
  refine ⟨fun i => if hi : i < 4 then Classical.choose (ex i hi) else 0, sp, fun i hi => ?_, fun i z i1 i2 hz => ?_⟩
  · exact sR_in (hsr i (by omega)) (sp i hi) (vw_in i hi) (fun q q1 q2 => hva (i : Int) q (by omega) (by omega) q1 q2)
  · obtain ⟨n, rfl⟩ : ∃ n : Nat, i = (n : Int) := ⟨i.toNat, by omega⟩
    rw [Int.toNat_natCast]
    exact (sl_value hsr (Or.inr ⟨by omega, n, by omega, rfl, sp n (by omega)⟩) hz).symm
theorem wh_same {a w v : Int} (h1 : (0 ≤ a ∧ w = a) ∨ (a < 0 ∧ w = 0)) (h2 : (0 ≤ a ∧ v = a) ∨ (a < 0 ∧ v = 0)) : w = v := by omega
theorem mi_same {a b w v : Int} (h1 : (a ≤ b ∧ w = a) ∨ (b < a ∧ w = b)) (h2 : (a ≤ b ∧ v = a) ∨ (b < a ∧ v = b)) : w = v := by omega
theorem pw_same {vv : Nat → Int} {a1 a2 x0 x3 x4 x7 x9 x10 t8 t9 t10 z y : Int} {f ds sh msh e0 e1 : Int → Int} (hv1 : 1 ≤ vv 1) (hw : wS a1 e0 e1 msh x0.toNat = wS a1 e0 e1 sh x0.toNat) (hla : (t8 = 0 ∧ x9 = -1 ∧ x10 = -1) ∨ (t8 = 1 ∧ t9 = x9 ∧ t10 = x10 ∧ ¬ x9 = -1)) (h1 : pWx vv a2 x0 a1 x3 x4 x7 x9 x10 f ds sh e0 e1 z) (h2 : pWm vv a2 x3 x4 a1 x7 t8 t9 t10 x0 f ds e0 e1 msh y) : z = y := by
  unfold pWx at h1
  unfold pWm at h2
  rw [hw] at h2
  obtain ⟨m1, c1, w1, d1, l1, y1, p1, p2, p3, p4, p5, p6, p7⟩ := h1
  obtain ⟨m2, c2, w2, d2, l2, y2, r1, r2, r3, r4, r5, r6, r7⟩ := h2
  have em : m1 = m2 := p1.trans r1.symm
  have ec : c1 = c2 := by
    clear p1 p3 p4 p5 p6 p7 r1 r3 r4 r5 r6 r7 em
    have e := ex_ceil (x := (vv 2 - x9) * 1000) (b := vv 1) (by omega)
    rw [← Int.neg_mul] at e
    rcases hla with ⟨q1, q2, q3⟩ | ⟨q1, q2, q3, q4⟩
    · rcases p2 with q | q | q | q <;> rcases r2 with r | r | r | r <;> omega
    · subst q2
      subst q3
      rcases p2 with q | q | q | q <;> rcases r2 with r | r | r | r <;> omega
  subst em
  subst ec
  have ew := wh_same p3 r3
  subst ew
  have ed := mi_same p4 r4
  subst ed
  have el := wh_same p5 r5
  subst el
  have ey := mi_same p6 r6
  subst ey
  rcases p7 with ⟨f1, f2⟩ | ⟨f1, f2⟩
  · rcases r7 with ⟨f3, f4⟩ | ⟨f3, f4⟩
    · exact f2.trans f4.symm
    · exact absurd f3 f1
  · rcases r7 with ⟨f3, f4⟩ | ⟨f3, f4⟩
    · exact absurd f1 f3
    · exact f2.trans f4.symm
def lRel (h : Nat → Nat) (pf : Nat → Option Nat) (x0 : Int) (x1 : Int) (x2 : Int) (x3 : Int) (x4 : Int) (x5 : Int) (x6 : Int) (x7 : Int) (x8 : Int) (x9 : Int) (x10 : Int) (cs : Nat → Int) (sts : Nat → Int → Int) (vas : Nat → Int → Int) (sh : Int → Int) (fl : Int → Int) (ds : Int → Int) (gv : Nat → Option Nat) (LP : List Nat) (dp : Nat → va_E) (t0 : Int) (t1 : Int) (t2 : Int) (t3 : Int) (t4 : Int) (t5 : Int) (t6 : Int) (t7 : Int) (t8 : Int) (t9 : Int) (t10 : Int) (t11 : Int) (t12 : Int) (t13 : Int) (t14 : Int) (mn : Int → Int) (mst : Int → Int) (mva : Int → Int) (msh : Int → Int) (mfl : Int → Int) (mds : Int → Int) (e0 : Int → Int) (e1 : Int → Int) (e2 : Int → Int) (e3 : Int → Int) (e4 : Int → Int) (e5 : Int → Int) : Prop :=
  (∀ i : Nat, i < 5 → pf i = some (h (6 + i))) ∧ (0 ≤ x1 ∧ x1 ≤ 100000) ∧ (0 ≤ x0 ∧ x0 ≤ 200) ∧ (0 ≤ x2 ∧ x2 < 60) ∧ (0 ≤ x3 ∧ x3 ≤ 100000) ∧ (0 ≤ x4 ∧ x4 ≤ 1000000) ∧ (x9 = -1 ∨ (1 ≤ x9 ∧ x9 ≤ 1000)) ∧ (1 ≤ x5 ∧ x5 ≤ 400) ∧ (1 ≤ x6 ∧ x6 ≤ 20) ∧ (x7 = 0 ∨ x7 = 1) ∧ (0 ≤ x8 ∧ x8 ≤ 20) ∧ (-1 ≤ x10 ∧ x10 ≤ 100000) ∧ (∀ i : Nat, i < 5 → 0 ≤ cs i ∧ cs i ≤ 8) ∧ (∀ (i : Nat) (j : Int), -2147483648 ≤ sts i j ∧ sts i j ≤ 2147483647) ∧ (∀ (i : Nat) (j : Int), -2147483648 ≤ vas i j ∧ vas i j ≤ 2147483647) ∧ (∀ j : Int, 0 ≤ j → j ≤ 32 → 0 ≤ sh j ∧ sh j ≤ 1000) ∧ ((∀ j : Int, -2147483648 ≤ sh j ∧ sh j ≤ 2147483647)) ∧ (∀ j q : Nat, gv j = some q → q ∈ LP) ∧ (kPl LP dp) ∧ (x1 = t4 ∧ x0 = t11 ∧ x7 = t6 ∧ x8 = t7 ∧ x5 = t2 ∧ x6 = t3 ∧ x3 = t0 ∧ x4 = t1 ∧ x2 = t5) ∧ ((t8 = 0 ∧ x9 = -1 ∧ x10 = -1) ∨ (t8 = 1 ∧ t9 = x9 ∧ t10 = x10 ∧ ¬ x9 = -1)) ∧ (0 ≤ t9 ∧ t9 ≤ 1000) ∧ (-1 ≤ t10 ∧ t10 ≤ 100000) ∧ (∀ i : Int, 0 ≤ i → i ≤ 4 → 0 ≤ mn i ∧ mn i ≤ 8) ∧ (∀ i q : Int, 0 ≤ i → i ≤ 4 → 8 * i ≤ q → q < 8 * i + mn i → 0 ≤ mst q ∧ mst q ≤ 1439) ∧ (∀ i q : Int, 0 ≤ i → i ≤ 3 → 8 * i ≤ q → q < 8 * i + mn i → 1 ≤ mva q ∧ mva q ≤ 1000) ∧ (∀ q : Int, 32 ≤ q → q < 32 + mn 4 → 0 ≤ mva q ∧ mva q ≤ 20000) ∧ ((∀ j : Int, -2147483648 ≤ msh j ∧ msh j ≤ 2147483647)) ∧ (∀ j : Int, 0 ≤ j → j ≤ 32 → msh j = sh j) ∧ (∀ k : Int, 0 ≤ k → k < x0 → 0 ≤ e0 k ∧ e0 k ≤ x1) ∧ (∀ k : Int, 0 ≤ k → k < x0 → 0 ≤ e1 k ∧ e1 k ≤ 100000) ∧ (∀ k : Int, 0 ≤ k → k < x0 → ∃ (q : Nat) (d : Nat → Int), gv k.toNat = some q ∧ q ∈ LP ∧ dp q = kD d ∧ d 0 = e0 k ∧ d 1 = e1 k) ∧ (∀ k : Int, x0 ≤ k → k < 200 → gv k.toNat = none) ∧ (∀ d : Int, 0 ≤ fl d ∧ fl d ≤ 334 * x1) ∧ (∀ d : Int, 0 ≤ ds d ∧ ds d ≤ 100000 * x0) ∧ (fl = mfl) ∧ (ds = mds) ∧ (∀ i : Nat, i < 5 → sR (i : Int) (cs i) (sts i) (vas i) (mn (i : Int)) mst mva)
/-- behind a call's two halves: at 523, in any good state, the law goes on -/
def lK (p : Program) (l : Launch) (e : Env) (s : State) (m : MethodId) (below : List Frame) (meth : Method) (c : Code) (dC : Nat → ClassId) (dI : Nat → Nat → Nat) (cI cQ cR : ClassId) (b : Nat) (A : Nat → Prop) (i : Int) (cells slots : Nat) (h g : Nat → Nat) : Prop :=
  ∀ (pf : Nat → Option Nat) (x0 : Int) (x1 : Int) (x2 : Int) (x3 : Int) (x4 : Int) (x5 : Int) (x6 : Int) (x7 : Int) (x8 : Int) (x9 : Int) (x10 : Int) (cs : Nat → Int) (sts : Nat → Int → Int) (vas : Nat → Int → Int) (sh : Int → Int) (fl : Int → Int) (ds : Int → Int) (gv : Nat → Option Nat) (LP : List Nat) (dp : Nat → va_E) (t0 : Int) (t1 : Int) (t2 : Int) (t3 : Int) (t4 : Int) (t5 : Int) (t6 : Int) (t7 : Int) (t8 : Int) (t9 : Int) (t10 : Int) (t11 : Int) (t12 : Int) (t13 : Int) (t14 : Int) (mn : Int → Int) (mst : Int → Int) (mva : Int → Int) (msh : Int → Int) (mfl : Int → Int) (mds : Int → Int) (e0 : Int → Int) (e1 : Int → Int) (e2 : Int → Int) (e3 : Int → Int) (e4 : Int → Int) (e5 : Int → Int) (H : Heap) (locs : List Loc) (ls : Array Slot) (cells1 slots1 : Nat), cells1 ≤ cells + 1 → slots1 ≤ slots + 6 → lRel h pf x0 x1 x2 x3 x4 x5 x6 x7 x8 x9 x10 cs sts vas sh fl ds gv LP dp t0 t1 t2 t3 t4 t5 t6 t7 t8 t9 t10 t11 t12 t13 t14 mn mst mva msh mfl mds e0 e1 e2 e3 e4 e5 → va_P (dC, dI) vwCl (([(h 0, .inr (2, [.ref (h 1), .ref (h 2), .ref (h 3), .ref (h 4), .ref (h 5), .int (iI (x0)), .int (iI (x1)), .int (iI (x2)), .int (iI (x3)), .int (iI (x4)), .int (iI (x5)), .int (iI (x6)), .int (iI (x7)), .int (iI (x8)), .int (iI (x9)), .int (iI (x10))])), (h 1, .inl (cQ, 5, .inr (.inr (.inr (.inr (pf)))))), (h 6, .inr (1, [.ref (h 11), .ref (h 12), .int (iI (10)), .int (iI (cs 0))])), (h 7, .inr (1, [.ref (h 13), .ref (h 14), .int (iI (50)), .int (iI (cs 1))])), (h 8, .inr (1, [.ref (h 15), .ref (h 16), .int (iI (100)), .int (iI (cs 2))])), (h 9, .inr (1, [.ref (h 17), .ref (h 18), .int (iI (120)), .int (iI (cs 3))])), (h 10, .inr (1, [.ref (h 19), .ref (h 20), .int (iI (0)), .int (iI (cs 4))])), (h 11, .inl (cI, 8, .inl (jA (sts 0)))), (h 12, .inl (cI, 8, .inl (jA (vas 0)))), (h 13, .inl (cI, 8, .inl (jA (sts 1)))), (h 14, .inl (cI, 8, .inl (jA (vas 1)))), (h 15, .inl (cI, 8, .inl (jA (sts 2)))), (h 16, .inl (cI, 8, .inl (jA (vas 2)))), (h 17, .inl (cI, 8, .inl (jA (sts 3)))), (h 18, .inl (cI, 8, .inl (jA (vas 3)))), (h 19, .inl (cI, 8, .inl (jA (sts 4)))), (h 20, .inl (cI, 8, .inl (jA (vas 4)))), (h 2, .inl (cI, 33, .inl (jA (sh)))), (h 3, .inl (cR, 200, .inr (.inr (.inr (.inr (gv)))))), (h 4, .inl (cI, 70, .inl (jA (fl)))), (h 5, .inl (cI, 70, .inl (jA (ds))))] : va_W) ++ (va_pl LP dp ++ ([(g 0, .inr (3, [.ref (g 1), .ref (g 2), .ref (g 3), .ref (g 4), .int (iI (t0)), .int (iI (t1)), .int (iI (t2)), .int (iI (t3)), .int (iI (t4)), .int (iI (t5)), .int (iI (t6)), .int (iI (t7)), .int (iI (t8)), .int (iI (t9)), .int (iI (t10)), .ref (g 5), .ref (g 6), .int (iI (t11)), .ref (g 7), .ref (g 8), .ref (g 9), .ref (g 10), .ref (g 11), .ref (g 12), .int (iI (t12)), .int (iI (t13)), .int (iI (t14))])), (g 1, .inl (cI, 5, .inl (jA (mn)))), (g 2, .inl (cI, 40, .inl (jA (mst)))), (g 3, .inl (cI, 40, .inl (jA (mva)))), (g 4, .inl (cI, 33, .inl (jA (msh)))), (g 5, .inl (cI, 70, .inl (jA (mfl)))), (g 6, .inl (cI, 70, .inl (jA (mds)))), (g 7, .inl (cI, 200, .inl (jA (e0)))), (g 8, .inl (cI, 200, .inl (jA (e1)))), (g 9, .inl (cI, 200, .inl (jA (e2)))), (g 10, .inl (cI, 200, .inl (jA (e3)))), (g 11, .inl (cI, 200, .inl (jA (e4)))), (g 12, .inl (cI, 200, .inl (jA (e5))))] : va_W))) H → va_D A (([(h 0, .inr (2, [.ref (h 1), .ref (h 2), .ref (h 3), .ref (h 4), .ref (h 5), .int (iI (x0)), .int (iI (x1)), .int (iI (x2)), .int (iI (x3)), .int (iI (x4)), .int (iI (x5)), .int (iI (x6)), .int (iI (x7)), .int (iI (x8)), .int (iI (x9)), .int (iI (x10))])), (h 1, .inl (cQ, 5, .inr (.inr (.inr (.inr (pf)))))), (h 6, .inr (1, [.ref (h 11), .ref (h 12), .int (iI (10)), .int (iI (cs 0))])), (h 7, .inr (1, [.ref (h 13), .ref (h 14), .int (iI (50)), .int (iI (cs 1))])), (h 8, .inr (1, [.ref (h 15), .ref (h 16), .int (iI (100)), .int (iI (cs 2))])), (h 9, .inr (1, [.ref (h 17), .ref (h 18), .int (iI (120)), .int (iI (cs 3))])), (h 10, .inr (1, [.ref (h 19), .ref (h 20), .int (iI (0)), .int (iI (cs 4))])), (h 11, .inl (cI, 8, .inl (jA (sts 0)))), (h 12, .inl (cI, 8, .inl (jA (vas 0)))), (h 13, .inl (cI, 8, .inl (jA (sts 1)))), (h 14, .inl (cI, 8, .inl (jA (vas 1)))), (h 15, .inl (cI, 8, .inl (jA (sts 2)))), (h 16, .inl (cI, 8, .inl (jA (vas 2)))), (h 17, .inl (cI, 8, .inl (jA (sts 3)))), (h 18, .inl (cI, 8, .inl (jA (vas 3)))), (h 19, .inl (cI, 8, .inl (jA (sts 4)))), (h 20, .inl (cI, 8, .inl (jA (vas 4)))), (h 2, .inl (cI, 33, .inl (jA (sh)))), (h 3, .inl (cR, 200, .inr (.inr (.inr (.inr (gv)))))), (h 4, .inl (cI, 70, .inl (jA (fl)))), (h 5, .inl (cI, 70, .inl (jA (ds))))] : va_W) ++ (va_pl LP dp ++ ([(g 0, .inr (3, [.ref (g 1), .ref (g 2), .ref (g 3), .ref (g 4), .int (iI (t0)), .int (iI (t1)), .int (iI (t2)), .int (iI (t3)), .int (iI (t4)), .int (iI (t5)), .int (iI (t6)), .int (iI (t7)), .int (iI (t8)), .int (iI (t9)), .int (iI (t10)), .ref (g 5), .ref (g 6), .int (iI (t11)), .ref (g 7), .ref (g 8), .ref (g 9), .ref (g 10), .ref (g 11), .ref (g 12), .int (iI (t12)), .int (iI (t13)), .int (iI (t14))])), (g 1, .inl (cI, 5, .inl (jA (mn)))), (g 2, .inl (cI, 40, .inl (jA (mst)))), (g 3, .inl (cI, 40, .inl (jA (mva)))), (g 4, .inl (cI, 33, .inl (jA (msh)))), (g 5, .inl (cI, 70, .inl (jA (mfl)))), (g 6, .inl (cI, 70, .inl (jA (mds)))), (g 7, .inl (cI, 200, .inl (jA (e0)))), (g 8, .inl (cI, 200, .inl (jA (e1)))), (g 9, .inl (cI, 200, .inl (jA (e2)))), (g 10, .inl (cI, 200, .inl (jA (e3)))), (g 11, .inl (cI, 200, .inl (jA (e4)))), (g 12, .inl (cI, 200, .inl (jA (e5))))] : va_W))) → va_S A s.heap H locs → lv_has ls 4 [(0, .ref b), (1, .ref (h 0)), (2, .ref (g 0)), (3, .int (iI (i)))] → W p l e room_1 s m #[Value.ref b] below meth c H locs cells1 slots1 (lw_Z below #[Value.ref b] s) (F0 m 523 ls [])

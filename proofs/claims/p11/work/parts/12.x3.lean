set_option maxHeartbeats 4000000 in
set_option maxRecDepth 100000 in
theorem c_X1_put (l : Launch) (dC : Nat → ClassId) (dI : Nat → Nat → Nat) (cI cQ cR : ClassId) (a0 a1 a2 : Nat) (wv cn : Int) (st va : Int → Int) (wr : va_W) (a b : Int) (sz : Nat) (ra : -2147483648 ≤ a ∧ a ≤ 2147483647) (rb : -2147483648 ≤ b ∧ b ≤ 2147483647) (hc : 0 ≤ cn ∧ cn ≤ 8) (hrst : ∀ j : Int, -2147483648 ≤ st j ∧ st j ≤ 2147483647) (hrva : ∀ j : Int, -2147483648 ≤ va j ∧ va j ≤ 2147483647) : Met l yX1_put wsX1_put ({ frames := 1, cells := 0, slots := 0, locals := 22 }) (kPc (dC, dI) vwCl (kT cI cQ cR) [.ref (a0), .int (iI (a)), .int (iI (b))] (([(a0, .inr (1, [.ref (a1), .ref (a2), .int (iI (wv)), .int (iI (cn))])), (a1, .inl (cI, 8, .inl (jA (st)))), (a2, .inl (cI, 8, .inl (jA (va))))] : va_W) ++ wr) sz) (kQi (dC, dI) vwCl (va_A (([(a0, .inr (1, [.ref (a1), .ref (a2), .int (iI (wv)), .int (iI (cn))])), (a1, .inl (cI, 8, .inl (jA (st)))), (a2, .inl (cI, 8, .inl (jA (va))))] : va_W) ++ wr) sz) (fun (z : Int) (u : Int × (Int → Int) × (Int → Int)) => (∃ k : Int, (0 ≤ k ∧ k ≤ cn ∧ (∀ j : Int, 0 ≤ j → j < k → st j ≤ a) ∧ (k < cn → a < st k)) ∧ ((0 < k ∧ st (k - 1) = a ∧ z = 1 ∧ u.1 = cn ∧ u.2.1 = st ∧ u.2.2 = jU (va) (k - 1) b) ∨ (¬ (0 < k ∧ st (k - 1) = a) ∧ cn = 8 ∧ z = 0 ∧ u.1 = cn ∧ u.2.1 = st ∧ u.2.2 = va) ∨ (¬ (0 < k ∧ st (k - 1) = a) ∧ cn < 8 ∧ z = 1 ∧ u.1 = cn + 1 ∧ (∀ j : Int, 0 ≤ j → j < k → u.2.1 j = st j ∧ u.2.2 j = va j) ∧ u.2.1 k = a ∧ u.2.2 k = b ∧ (∀ j : Int, k < j → j ≤ cn → u.2.1 j = st (j - 1) ∧ u.2.2 j = va (j - 1))))) ∧ (∀ j : Int, -2147483648 ≤ u.2.1 j ∧ u.2.1 j ≤ 2147483647) ∧ (∀ j : Int, -2147483648 ≤ u.2.2 j ∧ u.2.2 j ≤ 2147483647)) (fun (u : Int × (Int → Int) × (Int → Int)) => ([(a0, .inr (1, [.ref (a1), .ref (a2), .int (iI (wv)), .int (iI (u.1))])), (a1, .inl (cI, 8, .inl (jA (u.2.1)))), (a2, .inl (cI, 8, .inl (jA (u.2.2))))] : va_W) ++ wr)) 0 0 (va_A (([(a0, .inr (1, [.ref (a1), .ref (a2), .int (iI (wv)), .int (iI (cn))])), (a1, .inl (cI, 8, .inl (jA (st)))), (a2, .inl (cI, 8, .inl (jA (va))))] : va_W) ++ wr) sz) := by
  refine k_inWi (cc := cX1_put) (maxL := 5) (ret := (some .boolean)) (by decide) rfl (Nat.le_of_ble_eq_true rfl) ?_
  intro p e s m below meth c ls A hx hb hr hts hown hml hlocks hin hP hK hN hD hS hA hAo hl
  have hown : s.vm.findClass RX1 = some m.cls := hown
  have hl : lv_has ls 5 [(0, .ref (a0)), (1, .int (iI (a))), (2, .int (iI (b)))] := hl
  have hiX1 : ∀ w ∈ u_ws RX1 TX1 4, w ∈ wsX1_put := by decide +kernel
  refine lv_aload_n hx hb dX1_put_0 rfl (lv_at hl 0 rfl) ?_
  refine lv_iload_n hx hb dX1_put_1 rfl (lv_at hl 1 rfl) ?_
  refine kr_i (va_runV (As := [.int (iI (a))]) (rest := []) ⟨hx, hb, hml, hown, hts⟩ (c_X1_spanAt l dC dI cI cQ cR (a0) (a1) (a2) (wv) (cn) (st) (a) (by omega) (by omega) (hrst)) (cwV 1 hts gX1_put_X1_spanAt rfl rfl rfl (by decide +kernel) ⟨Nat.le_of_ble_eq_true rfl, Nat.le_of_ble_eq_true rfl⟩) (kR_V hK hN (hP.sub (ws' := ([(a0, .inr (1, [.ref (a1), .ref (a2), .int (iI (wv)), .int (iI (cn))])), (a1, .inl (cI, 8, .inl (jA (st))))] : va_W)) [0, 1] rfl) hK hP (q0 := 0) rfl rfl) rfl rfl hl.1 rfl (lv_room (Nat.le_of_ble_eq_true rfl)) dX1_put_2 ⟨Nat.le_of_ble_eq_true rfl, Nat.le_of_ble_eq_true rfl⟩) (fun z1 hz1 => ?_)
  refine lv_istore_n (lv' := [(3, .int (iI (z1))), (0, .ref (a0)), (1, .int (iI (a))), (2, .int (iI (b)))]) hx hb dX1_put_5 rfl hl (by decide) rfl (fun ls hl => ?_)
  refine lv_iload_n hx hb dX1_put_6 rfl (lv_at hl 0 rfl) ?_
  refine jz_if_le (tgt := 33) hx hb dX1_put_7 (by decide) (by omega) (fun cd7 => ?_) (fun cd7 => ?_)
  · refine lv_aload_n hx hb dX1_put_33 rfl (lv_at hl 1 rfl) ?_
    refine va_get (D := (dC, dI)) (ci := 1) (C := RX1) (T := TX1) (N := 4) hx hb hts hiX1 hown hK hP 0 rfl rfl 3 (by decide) (hts (.fieldLink RX1 18 "PumpDesk$Slots" "count" "I") (by decide +kernel)) (fun _ h9 => h9) rfl dX1_put_34 ?_
    refine jz_bipush hx hb dX1_put_37 rfl ?_
    refine jz_icmp_lt (tgt := 44) hx hb dX1_put_39 (by decide) (by omega) (fun cd39 => ?_) (fun cd39 => ?_)
    · refine lv_aload_n hx hb dX1_put_44 rfl (lv_at hl 1 rfl) ?_
      refine va_get (D := (dC, dI)) (ci := 1) (C := RX1) (T := TX1) (N := 4) hx hb hts hiX1 hown hK hP 0 rfl rfl 3 (by decide) (hts (.fieldLink RX1 18 "PumpDesk$Slots" "count" "I") (by decide +kernel)) (fun _ h9 => h9) rfl dX1_put_45 ?_
      refine lv_istore (lv' := [(4, .int (iI (cn))), (3, .int (iI (z1))), (0, .ref (a0)), (1, .int (iI (a))), (2, .int (iI (b)))]) hx hb dX1_put_48 hl (by decide) rfl (fun ls hl => ?_)
      have loop50 : ∀ (n : Nat) (t : Int) (st1 va1 : Int → Int) (ls : Array Slot) (H : Heap) (locs : List Loc), t < z1 + (n : Int) → (z1 ≤ t) → (t ≤ cn) → (∀ j : Int, 0 ≤ j → j ≤ t → st1 j = st j ∧ va1 j = va j) → (∀ j : Int, t < j → j ≤ cn → st1 j = st (j - 1) ∧ va1 j = va (j - 1)) → ((∀ j : Int, -2147483648 ≤ st1 j ∧ st1 j ≤ 2147483647)) → ((∀ j : Int, -2147483648 ≤ va1 j ∧ va1 j ≤ 2147483647)) → va_P (dC, dI) vwCl (([(a0, .inr (1, [.ref (a1), .ref (a2), .int (iI (wv)), .int (iI (cn))])), (a1, .inl (cI, 8, .inl (jA (st1)))), (a2, .inl (cI, 8, .inl (jA (va1))))] : va_W) ++ wr) H → va_D A (([(a0, .inr (1, [.ref (a1), .ref (a2), .int (iI (wv)), .int (iI (cn))])), (a1, .inl (cI, 8, .inl (jA (st1)))), (a2, .inl (cI, 8, .inl (jA (va1))))] : va_W) ++ wr) → va_S A s.heap H locs → lv_has ls 5 [(0, .ref (a0)), (1, .int (iI (a))), (2, .int (iI (b))), (3, .int (iI (z1))), (4, .int (iI (t)))] → W p l e ({ frames := 1, cells := 0, slots := 0, locals := 22 }) s m ([.ref (a0), .int (iI (a)), .int (iI (b))] : List Value).toArray below meth c H locs 0 0 (MQ below (kQi (dC, dI) vwCl A (fun (z : Int) (u : Int × (Int → Int) × (Int → Int)) => (∃ k : Int, (0 ≤ k ∧ k ≤ cn ∧ (∀ j : Int, 0 ≤ j → j < k → st j ≤ a) ∧ (k < cn → a < st k)) ∧ ((0 < k ∧ st (k - 1) = a ∧ z = 1 ∧ u.1 = cn ∧ u.2.1 = st ∧ u.2.2 = jU (va) (k - 1) b) ∨ (¬ (0 < k ∧ st (k - 1) = a) ∧ cn = 8 ∧ z = 0 ∧ u.1 = cn ∧ u.2.1 = st ∧ u.2.2 = va) ∨ (¬ (0 < k ∧ st (k - 1) = a) ∧ cn < 8 ∧ z = 1 ∧ u.1 = cn + 1 ∧ (∀ j : Int, 0 ≤ j → j < k → u.2.1 j = st j ∧ u.2.2 j = va j) ∧ u.2.1 k = a ∧ u.2.2 k = b ∧ (∀ j : Int, k < j → j ≤ cn → u.2.1 j = st (j - 1) ∧ u.2.2 j = va (j - 1))))) ∧ (∀ j : Int, -2147483648 ≤ u.2.1 j ∧ u.2.1 j ≤ 2147483647) ∧ (∀ j : Int, -2147483648 ≤ u.2.2 j ∧ u.2.2 j ≤ 2147483647)) (fun (u : Int × (Int → Int) × (Int → Int)) => ([(a0, .inr (1, [.ref (a1), .ref (a2), .int (iI (wv)), .int (iI (u.1))])), (a1, .inl (cI, 8, .inl (jA (u.2.1)))), (a2, .inl (cI, 8, .inl (jA (u.2.2))))] : va_W) ++ wr)) ([.ref (a0), .int (iI (a)), .int (iI (b))] : List Value).toArray s 0 0 A) (F0 m 50 ls []) := by
        intro n
        induction n with
        | zero => intro t st1 va1 ls H locs hfu g0 g1 g2 g3 hrst1 hrva1 hP hD hS hl; exact absurd hfu (by omega)
        | succ n ih =>
          intro t st1 va1 ls H locs hfu g0 g1 g2 g3 hrst1 hrva1 hP hD hS hl
          refine lv_iload hx hb dX1_put_50 (lv_at hl 4 rfl) ?_
          refine lv_iload_n hx hb dX1_put_52 rfl (lv_at hl 3 rfl) ?_
          refine jz_icmp_le (tgt := 94) hx hb dX1_put_53 (by decide) (by omega) (fun cd53 => ?_) (fun cd53 => ?_)
          · refine lv_aload_n hx hb dX1_put_94 rfl (lv_at hl 0 rfl) ?_
            refine va_get (D := (dC, dI)) (ci := 1) (C := RX1) (T := TX1) (N := 4) hx hb hts hiX1 hown hK hP 0 rfl rfl 0 (by decide) (hts (.fieldLink RX1 9 "PumpDesk$Slots" "starts" "[I") (by decide +kernel)) (fun _ h9 => h9) rfl dX1_put_95 ?_
            refine lv_iload_n hx hb dX1_put_98 rfl (lv_at hl 3 rfl) ?_
            refine lv_iload_n hx hb dX1_put_99 rfl (lv_at hl 1 rfl) ?_
            refine jz_iast hx hb hK hP hD hS 1 0 rfl rfl (by omega) dX1_put_100 (fun H locs hP hD hS => ?_)
            have hP : va_P (dC, dI) vwCl (([(a0, .inr (1, [.ref (a1), .ref (a2), .int (iI (wv)), .int (iI (cn))])), (a1, .inl (cI, 8, .inl (jA (jU (st1) (z1) (a))))), (a2, .inl (cI, 8, .inl (jA (va1))))] : va_W) ++ wr) H := hP
            have hD : va_D A (([(a0, .inr (1, [.ref (a1), .ref (a2), .int (iI (wv)), .int (iI (cn))])), (a1, .inl (cI, 8, .inl (jA (jU (st1) (z1) (a))))), (a2, .inl (cI, 8, .inl (jA (va1))))] : va_W) ++ wr) := hD
            refine lv_aload_n hx hb dX1_put_101 rfl (lv_at hl 0 rfl) ?_
            refine va_get (D := (dC, dI)) (ci := 1) (C := RX1) (T := TX1) (N := 4) hx hb hts hiX1 hown hK hP 0 rfl rfl 1 (by decide) (hts (.fieldLink RX1 15 "PumpDesk$Slots" "values" "[I") (by decide +kernel)) (fun _ h9 => h9) rfl dX1_put_102 ?_
            refine lv_iload_n hx hb dX1_put_105 rfl (lv_at hl 3 rfl) ?_
            refine lv_iload_n hx hb dX1_put_106 rfl (lv_at hl 2 rfl) ?_
            refine jz_iast hx hb hK hP hD hS 2 0 rfl rfl (by omega) dX1_put_107 (fun H locs hP hD hS => ?_)
            have hP : va_P (dC, dI) vwCl (([(a0, .inr (1, [.ref (a1), .ref (a2), .int (iI (wv)), .int (iI (cn))])), (a1, .inl (cI, 8, .inl (jA (jU (st1) (z1) (a))))), (a2, .inl (cI, 8, .inl (jA (jU (va1) (z1) (b)))))] : va_W) ++ wr) H := hP
            have hD : va_D A (([(a0, .inr (1, [.ref (a1), .ref (a2), .int (iI (wv)), .int (iI (cn))])), (a1, .inl (cI, 8, .inl (jA (jU (st1) (z1) (a))))), (a2, .inl (cI, 8, .inl (jA (jU (va1) (z1) (b)))))] : va_W) ++ wr) := hD
            refine lv_aload_n hx hb dX1_put_108 rfl (lv_at hl 0 rfl) ?_
            refine lv_dup hx hb dX1_put_109 rfl ?_
            refine va_get (D := (dC, dI)) (ci := 1) (C := RX1) (T := TX1) (N := 4) hx hb hts hiX1 hown hK hP 0 rfl rfl 3 (by decide) (hts (.fieldLink RX1 18 "PumpDesk$Slots" "count" "I") (by decide +kernel)) (fun _ h9 => h9) rfl dX1_put_110 ?_
            refine jz_iconst hx hb dX1_put_113 ?_
            refine jz_iadd hx hb dX1_put_114 ?_
            refine va_put (D := (dC, dI)) (ci := 1) (v := .int (iI ((cn + 1)))) (ty := .int) (C := RX1) (T := TX1) (N := 4) hx hb hts hiX1 tyX1 tyX1_ok nmX1 hown hK hP hD hS 0 rfl rfl 3 (by decide) (hts (.fieldLink RX1 18 "PumpDesk$Slots" "count" "I") (by decide +kernel)) (fun _ h9 => h9) rfl (by decide +kernel) rfl rfl (Nat.le_of_ble_eq_true rfl) dX1_put_115 (fun H locs hP hD hS => ?_)
            have hP : va_P (dC, dI) vwCl (([(a0, .inr (1, [.ref (a1), .ref (a2), .int (iI (wv)), .int (iI ((cn + 1)))])), (a1, .inl (cI, 8, .inl (jA (jU (st1) (z1) (a))))), (a2, .inl (cI, 8, .inl (jA (jU (va1) (z1) (b)))))] : va_W) ++ wr) H := hP
            have hD : va_D A (([(a0, .inr (1, [.ref (a1), .ref (a2), .int (iI (wv)), .int (iI ((cn + 1)))])), (a1, .inl (cI, 8, .inl (jA (jU (st1) (z1) (a))))), (a2, .inl (cI, 8, .inl (jA (jU (va1) (z1) (b)))))] : va_W) ++ wr) := hD
            refine jz_iconst hx hb dX1_put_118 ?_
            exact jw_z hx hb hr hlocks ((cn + 1, jU (st1) (z1) (a), jU (va1) (z1) (b))) (by omega) (⟨⟨z1, hz1, Or.inr (Or.inr ⟨by omega, by omega, rfl, rfl, fun j q1 q2 => ⟨by show jU _ _ _ _ = _; rw [jU_n _ _ (by omega)]; exact (g2 j q1 (by omega)).1, by show jU _ _ _ _ = _; rw [jU_n _ _ (by omega)]; exact (g2 j q1 (by omega)).2⟩, jU_s _ _ _, jU_s _ _ _, fun j q1 q2 => ⟨by show jU _ _ _ _ = _; rw [jU_n _ _ (by omega)]; exact (g3 j (by omega) q2).1, by show jU _ _ _ _ = _; rw [jU_n _ _ (by omega)]; exact (g3 j (by omega) q2).2⟩⟩)⟩, jU_rng hrst1 (by omega), jU_rng hrva1 (by omega)⟩) hP hD hS dX1_put_119
          · refine lv_aload_n hx hb dX1_put_56 rfl (lv_at hl 0 rfl) ?_
            refine va_get (D := (dC, dI)) (ci := 1) (C := RX1) (T := TX1) (N := 4) hx hb hts hiX1 hown hK hP 0 rfl rfl 0 (by decide) (hts (.fieldLink RX1 9 "PumpDesk$Slots" "starts" "[I") (by decide +kernel)) (fun _ h9 => h9) rfl dX1_put_57 ?_
            refine lv_iload hx hb dX1_put_60 (lv_at hl 4 rfl) ?_
            refine lv_aload_n hx hb dX1_put_62 rfl (lv_at hl 0 rfl) ?_
            refine va_get (D := (dC, dI)) (ci := 1) (C := RX1) (T := TX1) (N := 4) hx hb hts hiX1 hown hK hP 0 rfl rfl 0 (by decide) (hts (.fieldLink RX1 9 "PumpDesk$Slots" "starts" "[I") (by decide +kernel)) (fun _ h9 => h9) rfl dX1_put_63 ?_
            refine lv_iload hx hb dX1_put_66 (lv_at hl 4 rfl) ?_
            refine jz_iconst hx hb dX1_put_68 ?_
            refine jz_isub hx hb dX1_put_69 ?_
            refine jz_iald hx hb hK hP 1 0 rfl rfl (by omega) dX1_put_70 ?_
            refine jz_iast hx hb hK hP hD hS 1 0 rfl rfl (by omega) dX1_put_71 (fun H locs hP hD hS => ?_)
            have hP : va_P (dC, dI) vwCl (([(a0, .inr (1, [.ref (a1), .ref (a2), .int (iI (wv)), .int (iI (cn))])), (a1, .inl (cI, 8, .inl (jA (jU (st1) (t) ((st1) ((t - 1))))))), (a2, .inl (cI, 8, .inl (jA (va1))))] : va_W) ++ wr) H := hP
            have hD : va_D A (([(a0, .inr (1, [.ref (a1), .ref (a2), .int (iI (wv)), .int (iI (cn))])), (a1, .inl (cI, 8, .inl (jA (jU (st1) (t) ((st1) ((t - 1))))))), (a2, .inl (cI, 8, .inl (jA (va1))))] : va_W) ++ wr) := hD
            refine lv_aload_n hx hb dX1_put_72 rfl (lv_at hl 0 rfl) ?_
            refine va_get (D := (dC, dI)) (ci := 1) (C := RX1) (T := TX1) (N := 4) hx hb hts hiX1 hown hK hP 0 rfl rfl 1 (by decide) (hts (.fieldLink RX1 15 "PumpDesk$Slots" "values" "[I") (by decide +kernel)) (fun _ h9 => h9) rfl dX1_put_73 ?_
            refine lv_iload hx hb dX1_put_76 (lv_at hl 4 rfl) ?_
            refine lv_aload_n hx hb dX1_put_78 rfl (lv_at hl 0 rfl) ?_
            refine va_get (D := (dC, dI)) (ci := 1) (C := RX1) (T := TX1) (N := 4) hx hb hts hiX1 hown hK hP 0 rfl rfl 1 (by decide) (hts (.fieldLink RX1 15 "PumpDesk$Slots" "values" "[I") (by decide +kernel)) (fun _ h9 => h9) rfl dX1_put_79 ?_
            refine lv_iload hx hb dX1_put_82 (lv_at hl 4 rfl) ?_
            refine jz_iconst hx hb dX1_put_84 ?_
            refine jz_isub hx hb dX1_put_85 ?_
            refine jz_iald hx hb hK hP 2 0 rfl rfl (by omega) dX1_put_86 ?_
            refine jz_iast hx hb hK hP hD hS 2 0 rfl rfl (by omega) dX1_put_87 (fun H locs hP hD hS => ?_)
            have hP : va_P (dC, dI) vwCl (([(a0, .inr (1, [.ref (a1), .ref (a2), .int (iI (wv)), .int (iI (cn))])), (a1, .inl (cI, 8, .inl (jA (jU (st1) (t) ((st1) ((t - 1))))))), (a2, .inl (cI, 8, .inl (jA (jU (va1) (t) ((va1) ((t - 1)))))))] : va_W) ++ wr) H := hP
            have hD : va_D A (([(a0, .inr (1, [.ref (a1), .ref (a2), .int (iI (wv)), .int (iI (cn))])), (a1, .inl (cI, 8, .inl (jA (jU (st1) (t) ((st1) ((t - 1))))))), (a2, .inl (cI, 8, .inl (jA (jU (va1) (t) ((va1) ((t - 1)))))))] : va_W) ++ wr) := hD
            refine lv_iinc (v := iI ((t + (-1)))) (lv' := [(4, .int (iI ((t + (-1))))), (0, .ref (a0)), (1, .int (iI (a))), (2, .int (iI (b))), (3, .int (iI (z1)))]) hx hb dX1_put_88 hl (k := 4) rfl (iI_add _ _) (by decide) rfl (fun ls hl => ?_)
            refine lv_goto (tgt := 50) hx hb dX1_put_91 (by decide) ?_
            exact ih (t + (-1)) (jU st1 t (st1 (t - 1))) (jU va1 t (va1 (t - 1))) ls _ _ (by omega) (by omega) (by omega) (fun j q1 q2 => by rw [jU_n _ _ (by omega), jU_n _ _ (by omega)]; exact g2 j q1 (by omega)) (fun j q1 q2 => by rcases (show j = t ∨ t < j by omega) with q | q; rw [q, jU_s, jU_s]; exact g2 (t - 1) (by omega) (by omega); rw [jU_n _ _ (by omega), jU_n _ _ (by omega)]; exact g3 j q q2) (jU_rng hrst1 (hrst1 _)) (jU_rng hrva1 (hrva1 _)) hP hD hS (lv_sub hl [1, 2, 3, 4, 0] rfl)
      exact loop50 9 cn st va ls s.heap [] (by omega) (by omega) (by omega) (fun j _ _ => ⟨rfl, rfl⟩) (fun j q1 q2 => absurd q1 (by omega)) (hrst) (hrva) hP hD hS (lv_sub hl [2, 3, 4, 1, 0] rfl)
    · refine jz_iconst hx hb dX1_put_42 ?_
      exact jw_z hx hb hr hlocks ((cn, st, va)) (by omega) (⟨⟨z1, hz1, Or.inr (Or.inl ⟨by omega, by omega, rfl, rfl, rfl, rfl⟩)⟩, hrst, hrva⟩) hP hD hS dX1_put_43
  · refine lv_aload_n hx hb dX1_put_10 rfl (lv_at hl 1 rfl) ?_
    refine va_get (D := (dC, dI)) (ci := 1) (C := RX1) (T := TX1) (N := 4) hx hb hts hiX1 hown hK hP 0 rfl rfl 0 (by decide) (hts (.fieldLink RX1 9 "PumpDesk$Slots" "starts" "[I") (by decide +kernel)) (fun _ h9 => h9) rfl dX1_put_11 ?_
    refine lv_iload_n hx hb dX1_put_14 rfl (lv_at hl 0 rfl) ?_
    refine jz_iconst hx hb dX1_put_15 ?_
    refine jz_isub hx hb dX1_put_16 ?_
    refine jz_iald hx hb hK hP 1 0 rfl rfl (by omega) dX1_put_17 ?_
    have ra2 := hrst ((z1 - 1))
    refine lv_iload_n hx hb dX1_put_18 rfl (lv_at hl 2 rfl) ?_
    refine jz_icmp_ne (tgt := 33) hx hb dX1_put_19 (by decide) (by omega) (fun cd19 => ?_) (fun cd19 => ?_)
    · refine lv_aload_n hx hb dX1_put_33 rfl (lv_at hl 1 rfl) ?_
      refine va_get (D := (dC, dI)) (ci := 1) (C := RX1) (T := TX1) (N := 4) hx hb hts hiX1 hown hK hP 0 rfl rfl 3 (by decide) (hts (.fieldLink RX1 18 "PumpDesk$Slots" "count" "I") (by decide +kernel)) (fun _ h9 => h9) rfl dX1_put_34 ?_
      refine jz_bipush hx hb dX1_put_37 rfl ?_
      refine jz_icmp_lt (tgt := 44) hx hb dX1_put_39 (by decide) (by omega) (fun cd39 => ?_) (fun cd39 => ?_)
      · refine lv_aload_n hx hb dX1_put_44 rfl (lv_at hl 1 rfl) ?_
        refine va_get (D := (dC, dI)) (ci := 1) (C := RX1) (T := TX1) (N := 4) hx hb hts hiX1 hown hK hP 0 rfl rfl 3 (by decide) (hts (.fieldLink RX1 18 "PumpDesk$Slots" "count" "I") (by decide +kernel)) (fun _ h9 => h9) rfl dX1_put_45 ?_
        refine lv_istore (lv' := [(4, .int (iI (cn))), (3, .int (iI (z1))), (0, .ref (a0)), (1, .int (iI (a))), (2, .int (iI (b)))]) hx hb dX1_put_48 hl (by decide) rfl (fun ls hl => ?_)
        have loop50 : ∀ (n : Nat) (t : Int) (st1 va1 : Int → Int) (ls : Array Slot) (H : Heap) (locs : List Loc), t < z1 + (n : Int) → (z1 ≤ t) → (t ≤ cn) → (∀ j : Int, 0 ≤ j → j ≤ t → st1 j = st j ∧ va1 j = va j) → (∀ j : Int, t < j → j ≤ cn → st1 j = st (j - 1) ∧ va1 j = va (j - 1)) → ((∀ j : Int, -2147483648 ≤ st1 j ∧ st1 j ≤ 2147483647)) → ((∀ j : Int, -2147483648 ≤ va1 j ∧ va1 j ≤ 2147483647)) → va_P (dC, dI) vwCl (([(a0, .inr (1, [.ref (a1), .ref (a2), .int (iI (wv)), .int (iI (cn))])), (a1, .inl (cI, 8, .inl (jA (st1)))), (a2, .inl (cI, 8, .inl (jA (va1))))] : va_W) ++ wr) H → va_D A (([(a0, .inr (1, [.ref (a1), .ref (a2), .int (iI (wv)), .int (iI (cn))])), (a1, .inl (cI, 8, .inl (jA (st1)))), (a2, .inl (cI, 8, .inl (jA (va1))))] : va_W) ++ wr) → va_S A s.heap H locs → lv_has ls 5 [(0, .ref (a0)), (1, .int (iI (a))), (2, .int (iI (b))), (3, .int (iI (z1))), (4, .int (iI (t)))] → W p l e ({ frames := 1, cells := 0, slots := 0, locals := 22 }) s m ([.ref (a0), .int (iI (a)), .int (iI (b))] : List Value).toArray below meth c H locs 0 0 (MQ below (kQi (dC, dI) vwCl A (fun (z : Int) (u : Int × (Int → Int) × (Int → Int)) => (∃ k : Int, (0 ≤ k ∧ k ≤ cn ∧ (∀ j : Int, 0 ≤ j → j < k → st j ≤ a) ∧ (k < cn → a < st k)) ∧ ((0 < k ∧ st (k - 1) = a ∧ z = 1 ∧ u.1 = cn ∧ u.2.1 = st ∧ u.2.2 = jU (va) (k - 1) b) ∨ (¬ (0 < k ∧ st (k - 1) = a) ∧ cn = 8 ∧ z = 0 ∧ u.1 = cn ∧ u.2.1 = st ∧ u.2.2 = va) ∨ (¬ (0 < k ∧ st (k - 1) = a) ∧ cn < 8 ∧ z = 1 ∧ u.1 = cn + 1 ∧ (∀ j : Int, 0 ≤ j → j < k → u.2.1 j = st j ∧ u.2.2 j = va j) ∧ u.2.1 k = a ∧ u.2.2 k = b ∧ (∀ j : Int, k < j → j ≤ cn → u.2.1 j = st (j - 1) ∧ u.2.2 j = va (j - 1))))) ∧ (∀ j : Int, -2147483648 ≤ u.2.1 j ∧ u.2.1 j ≤ 2147483647) ∧ (∀ j : Int, -2147483648 ≤ u.2.2 j ∧ u.2.2 j ≤ 2147483647)) (fun (u : Int × (Int → Int) × (Int → Int)) => ([(a0, .inr (1, [.ref (a1), .ref (a2), .int (iI (wv)), .int (iI (u.1))])), (a1, .inl (cI, 8, .inl (jA (u.2.1)))), (a2, .inl (cI, 8, .inl (jA (u.2.2))))] : va_W) ++ wr)) ([.ref (a0), .int (iI (a)), .int (iI (b))] : List Value).toArray s 0 0 A) (F0 m 50 ls []) := by
          intro n
          induction n with
          | zero => intro t st1 va1 ls H locs hfu g0 g1 g2 g3 hrst1 hrva1 hP hD hS hl; exact absurd hfu (by omega)
          | succ n ih =>
            intro t st1 va1 ls H locs hfu g0 g1 g2 g3 hrst1 hrva1 hP hD hS hl
            refine lv_iload hx hb dX1_put_50 (lv_at hl 4 rfl) ?_
            refine lv_iload_n hx hb dX1_put_52 rfl (lv_at hl 3 rfl) ?_
            refine jz_icmp_le (tgt := 94) hx hb dX1_put_53 (by decide) (by omega) (fun cd53 => ?_) (fun cd53 => ?_)
            · refine lv_aload_n hx hb dX1_put_94 rfl (lv_at hl 0 rfl) ?_
              refine va_get (D := (dC, dI)) (ci := 1) (C := RX1) (T := TX1) (N := 4) hx hb hts hiX1 hown hK hP 0 rfl rfl 0 (by decide) (hts (.fieldLink RX1 9 "PumpDesk$Slots" "starts" "[I") (by decide +kernel)) (fun _ h9 => h9) rfl dX1_put_95 ?_
              refine lv_iload_n hx hb dX1_put_98 rfl (lv_at hl 3 rfl) ?_
              refine lv_iload_n hx hb dX1_put_99 rfl (lv_at hl 1 rfl) ?_
              refine jz_iast hx hb hK hP hD hS 1 0 rfl rfl (by omega) dX1_put_100 (fun H locs hP hD hS => ?_)
              have hP : va_P (dC, dI) vwCl (([(a0, .inr (1, [.ref (a1), .ref (a2), .int (iI (wv)), .int (iI (cn))])), (a1, .inl (cI, 8, .inl (jA (jU (st1) (z1) (a))))), (a2, .inl (cI, 8, .inl (jA (va1))))] : va_W) ++ wr) H := hP
              have hD : va_D A (([(a0, .inr (1, [.ref (a1), .ref (a2), .int (iI (wv)), .int (iI (cn))])), (a1, .inl (cI, 8, .inl (jA (jU (st1) (z1) (a))))), (a2, .inl (cI, 8, .inl (jA (va1))))] : va_W) ++ wr) := hD
              refine lv_aload_n hx hb dX1_put_101 rfl (lv_at hl 0 rfl) ?_
              refine va_get (D := (dC, dI)) (ci := 1) (C := RX1) (T := TX1) (N := 4) hx hb hts hiX1 hown hK hP 0 rfl rfl 1 (by decide) (hts (.fieldLink RX1 15 "PumpDesk$Slots" "values" "[I") (by decide +kernel)) (fun _ h9 => h9) rfl dX1_put_102 ?_
              refine lv_iload_n hx hb dX1_put_105 rfl (lv_at hl 3 rfl) ?_
              refine lv_iload_n hx hb dX1_put_106 rfl (lv_at hl 2 rfl) ?_
              refine jz_iast hx hb hK hP hD hS 2 0 rfl rfl (by omega) dX1_put_107 (fun H locs hP hD hS => ?_)
              have hP : va_P (dC, dI) vwCl (([(a0, .inr (1, [.ref (a1), .ref (a2), .int (iI (wv)), .int (iI (cn))])), (a1, .inl (cI, 8, .inl (jA (jU (st1) (z1) (a))))), (a2, .inl (cI, 8, .inl (jA (jU (va1) (z1) (b)))))] : va_W) ++ wr) H := hP
              have hD : va_D A (([(a0, .inr (1, [.ref (a1), .ref (a2), .int (iI (wv)), .int (iI (cn))])), (a1, .inl (cI, 8, .inl (jA (jU (st1) (z1) (a))))), (a2, .inl (cI, 8, .inl (jA (jU (va1) (z1) (b)))))] : va_W) ++ wr) := hD
              refine lv_aload_n hx hb dX1_put_108 rfl (lv_at hl 0 rfl) ?_
              refine lv_dup hx hb dX1_put_109 rfl ?_
              refine va_get (D := (dC, dI)) (ci := 1) (C := RX1) (T := TX1) (N := 4) hx hb hts hiX1 hown hK hP 0 rfl rfl 3 (by decide) (hts (.fieldLink RX1 18 "PumpDesk$Slots" "count" "I") (by decide +kernel)) (fun _ h9 => h9) rfl dX1_put_110 ?_
              refine jz_iconst hx hb dX1_put_113 ?_
              refine jz_iadd hx hb dX1_put_114 ?_
              refine va_put (D := (dC, dI)) (ci := 1) (v := .int (iI ((cn + 1)))) (ty := .int) (C := RX1) (T := TX1) (N := 4) hx hb hts hiX1 tyX1 tyX1_ok nmX1 hown hK hP hD hS 0 rfl rfl 3 (by decide) (hts (.fieldLink RX1 18 "PumpDesk$Slots" "count" "I") (by decide +kernel)) (fun _ h9 => h9) rfl (by decide +kernel) rfl rfl (Nat.le_of_ble_eq_true rfl) dX1_put_115 (fun H locs hP hD hS => ?_)
              have hP : va_P (dC, dI) vwCl (([(a0, .inr (1, [.ref (a1), .ref (a2), .int (iI (wv)), .int (iI ((cn + 1)))])), (a1, .inl (cI, 8, .inl (jA (jU (st1) (z1) (a))))), (a2, .inl (cI, 8, .inl (jA (jU (va1) (z1) (b)))))] : va_W) ++ wr) H := hP
              have hD : va_D A (([(a0, .inr (1, [.ref (a1), .ref (a2), .int (iI (wv)), .int (iI ((cn + 1)))])), (a1, .inl (cI, 8, .inl (jA (jU (st1) (z1) (a))))), (a2, .inl (cI, 8, .inl (jA (jU (va1) (z1) (b)))))] : va_W) ++ wr) := hD
              refine jz_iconst hx hb dX1_put_118 ?_
              exact jw_z hx hb hr hlocks ((cn + 1, jU (st1) (z1) (a), jU (va1) (z1) (b))) (by omega) (⟨⟨z1, hz1, Or.inr (Or.inr ⟨by omega, by omega, rfl, rfl, fun j q1 q2 => ⟨by show jU _ _ _ _ = _; rw [jU_n _ _ (by omega)]; exact (g2 j q1 (by omega)).1, by show jU _ _ _ _ = _; rw [jU_n _ _ (by omega)]; exact (g2 j q1 (by omega)).2⟩, jU_s _ _ _, jU_s _ _ _, fun j q1 q2 => ⟨by show jU _ _ _ _ = _; rw [jU_n _ _ (by omega)]; exact (g3 j (by omega) q2).1, by show jU _ _ _ _ = _; rw [jU_n _ _ (by omega)]; exact (g3 j (by omega) q2).2⟩⟩)⟩, jU_rng hrst1 (by omega), jU_rng hrva1 (by omega)⟩) hP hD hS dX1_put_119
            · refine lv_aload_n hx hb dX1_put_56 rfl (lv_at hl 0 rfl) ?_
              refine va_get (D := (dC, dI)) (ci := 1) (C := RX1) (T := TX1) (N := 4) hx hb hts hiX1 hown hK hP 0 rfl rfl 0 (by decide) (hts (.fieldLink RX1 9 "PumpDesk$Slots" "starts" "[I") (by decide +kernel)) (fun _ h9 => h9) rfl dX1_put_57 ?_
              refine lv_iload hx hb dX1_put_60 (lv_at hl 4 rfl) ?_
              refine lv_aload_n hx hb dX1_put_62 rfl (lv_at hl 0 rfl) ?_
              refine va_get (D := (dC, dI)) (ci := 1) (C := RX1) (T := TX1) (N := 4) hx hb hts hiX1 hown hK hP 0 rfl rfl 0 (by decide) (hts (.fieldLink RX1 9 "PumpDesk$Slots" "starts" "[I") (by decide +kernel)) (fun _ h9 => h9) rfl dX1_put_63 ?_
              refine lv_iload hx hb dX1_put_66 (lv_at hl 4 rfl) ?_
              refine jz_iconst hx hb dX1_put_68 ?_
              refine jz_isub hx hb dX1_put_69 ?_
              refine jz_iald hx hb hK hP 1 0 rfl rfl (by omega) dX1_put_70 ?_
              refine jz_iast hx hb hK hP hD hS 1 0 rfl rfl (by omega) dX1_put_71 (fun H locs hP hD hS => ?_)
              have hP : va_P (dC, dI) vwCl (([(a0, .inr (1, [.ref (a1), .ref (a2), .int (iI (wv)), .int (iI (cn))])), (a1, .inl (cI, 8, .inl (jA (jU (st1) (t) ((st1) ((t - 1))))))), (a2, .inl (cI, 8, .inl (jA (va1))))] : va_W) ++ wr) H := hP
              have hD : va_D A (([(a0, .inr (1, [.ref (a1), .ref (a2), .int (iI (wv)), .int (iI (cn))])), (a1, .inl (cI, 8, .inl (jA (jU (st1) (t) ((st1) ((t - 1))))))), (a2, .inl (cI, 8, .inl (jA (va1))))] : va_W) ++ wr) := hD
              refine lv_aload_n hx hb dX1_put_72 rfl (lv_at hl 0 rfl) ?_
              refine va_get (D := (dC, dI)) (ci := 1) (C := RX1) (T := TX1) (N := 4) hx hb hts hiX1 hown hK hP 0 rfl rfl 1 (by decide) (hts (.fieldLink RX1 15 "PumpDesk$Slots" "values" "[I") (by decide +kernel)) (fun _ h9 => h9) rfl dX1_put_73 ?_
              refine lv_iload hx hb dX1_put_76 (lv_at hl 4 rfl) ?_
              refine lv_aload_n hx hb dX1_put_78 rfl (lv_at hl 0 rfl) ?_
              refine va_get (D := (dC, dI)) (ci := 1) (C := RX1) (T := TX1) (N := 4) hx hb hts hiX1 hown hK hP 0 rfl rfl 1 (by decide) (hts (.fieldLink RX1 15 "PumpDesk$Slots" "values" "[I") (by decide +kernel)) (fun _ h9 => h9) rfl dX1_put_79 ?_
              refine lv_iload hx hb dX1_put_82 (lv_at hl 4 rfl) ?_
              refine jz_iconst hx hb dX1_put_84 ?_
              refine jz_isub hx hb dX1_put_85 ?_
              refine jz_iald hx hb hK hP 2 0 rfl rfl (by omega) dX1_put_86 ?_
              refine jz_iast hx hb hK hP hD hS 2 0 rfl rfl (by omega) dX1_put_87 (fun H locs hP hD hS => ?_)
              have hP : va_P (dC, dI) vwCl (([(a0, .inr (1, [.ref (a1), .ref (a2), .int (iI (wv)), .int (iI (cn))])), (a1, .inl (cI, 8, .inl (jA (jU (st1) (t) ((st1) ((t - 1))))))), (a2, .inl (cI, 8, .inl (jA (jU (va1) (t) ((va1) ((t - 1)))))))] : va_W) ++ wr) H := hP
              have hD : va_D A (([(a0, .inr (1, [.ref (a1), .ref (a2), .int (iI (wv)), .int (iI (cn))])), (a1, .inl (cI, 8, .inl (jA (jU (st1) (t) ((st1) ((t - 1))))))), (a2, .inl (cI, 8, .inl (jA (jU (va1) (t) ((va1) ((t - 1)))))))] : va_W) ++ wr) := hD
              refine lv_iinc (v := iI ((t + (-1)))) (lv' := [(4, .int (iI ((t + (-1))))), (0, .ref (a0)), (1, .int (iI (a))), (2, .int (iI (b))), (3, .int (iI (z1)))]) hx hb dX1_put_88 hl (k := 4) rfl (iI_add _ _) (by decide) rfl (fun ls hl => ?_)
              refine lv_goto (tgt := 50) hx hb dX1_put_91 (by decide) ?_
              exact ih (t + (-1)) (jU st1 t (st1 (t - 1))) (jU va1 t (va1 (t - 1))) ls _ _ (by omega) (by omega) (by omega) (fun j q1 q2 => by rw [jU_n _ _ (by omega), jU_n _ _ (by omega)]; exact g2 j q1 (by omega)) (fun j q1 q2 => by rcases (show j = t ∨ t < j by omega) with q | q; rw [q, jU_s, jU_s]; exact g2 (t - 1) (by omega) (by omega); rw [jU_n _ _ (by omega), jU_n _ _ (by omega)]; exact g3 j q q2) (jU_rng hrst1 (hrst1 _)) (jU_rng hrva1 (hrva1 _)) hP hD hS (lv_sub hl [1, 2, 3, 4, 0] rfl)
        exact loop50 9 cn st va ls s.heap [] (by omega) (by omega) (by omega) (fun j _ _ => ⟨rfl, rfl⟩) (fun j q1 q2 => absurd q1 (by omega)) (hrst) (hrva) hP hD hS (lv_sub hl [2, 3, 4, 1, 0] rfl)
      · refine jz_iconst hx hb dX1_put_42 ?_
        exact jw_z hx hb hr hlocks ((cn, st, va)) (by omega) (⟨⟨z1, hz1, Or.inr (Or.inl ⟨by omega, by omega, rfl, rfl, rfl, rfl⟩)⟩, hrst, hrva⟩) hP hD hS dX1_put_43
    · refine lv_aload_n hx hb dX1_put_22 rfl (lv_at hl 1 rfl) ?_
      refine va_get (D := (dC, dI)) (ci := 1) (C := RX1) (T := TX1) (N := 4) hx hb hts hiX1 hown hK hP 0 rfl rfl 1 (by decide) (hts (.fieldLink RX1 15 "PumpDesk$Slots" "values" "[I") (by decide +kernel)) (fun _ h9 => h9) rfl dX1_put_23 ?_
      refine lv_iload_n hx hb dX1_put_26 rfl (lv_at hl 0 rfl) ?_
      refine jz_iconst hx hb dX1_put_27 ?_
      refine jz_isub hx hb dX1_put_28 ?_
      refine lv_iload_n hx hb dX1_put_29 rfl (lv_at hl 3 rfl) ?_
      refine jz_iast hx hb hK hP hD hS 2 0 rfl rfl (by omega) dX1_put_30 (fun H locs hP hD hS => ?_)
      have hP : va_P (dC, dI) vwCl (([(a0, .inr (1, [.ref (a1), .ref (a2), .int (iI (wv)), .int (iI (cn))])), (a1, .inl (cI, 8, .inl (jA (st)))), (a2, .inl (cI, 8, .inl (jA (jU (va) ((z1 - 1)) (b)))))] : va_W) ++ wr) H := hP
      have hD : va_D A (([(a0, .inr (1, [.ref (a1), .ref (a2), .int (iI (wv)), .int (iI (cn))])), (a1, .inl (cI, 8, .inl (jA (st)))), (a2, .inl (cI, 8, .inl (jA (jU (va) ((z1 - 1)) (b)))))] : va_W) ++ wr) := hD
      refine jz_iconst hx hb dX1_put_31 ?_
      exact jw_z hx hb hr hlocks ((cn, st, jU (va) ((z1 - 1)) (b))) (by omega) (⟨⟨z1, hz1, Or.inl ⟨by omega, by omega, rfl, rfl, rfl, rfl⟩⟩, hrst, jU_rng hrva (by omega)⟩) hP hD hS dX1_put_32

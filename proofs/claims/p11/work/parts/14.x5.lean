set_option maxHeartbeats 4000000 in
set_option maxRecDepth 100000 in
theorem c_X2_bothOfDay (l : Launch) (dC : Nat → ClassId) (dI : Nat → Nat → Nat) (cI cQ cR : ClassId) (h : Nat → Nat) (x0 x1 x2 x3 x4 x5 x6 x7 x8 x9 x10 : Int) (fl ds : Int → Int) (a : Int) (ha : 0 ≤ a ∧ a ≤ 69) : Met l yX2_bothOfDay wsX2_bothOfDay ({ frames := 0, cells := 0, slots := 0, locals := 0 }) (kR (dC, dI) vwCl (kT cI cQ cR) [.ref (h 0), .int (iI (a))] (([(h 0, .inr (2, [.ref (h 1), .ref (h 2), .ref (h 3), .ref (h 4), .ref (h 5), .int (iI (x0)), .int (iI (x1)), .int (iI (x2)), .int (iI (x3)), .int (iI (x4)), .int (iI (x5)), .int (iI (x6)), .int (iI (x7)), .int (iI (x8)), .int (iI (x9)), .int (iI (x10))])), (h 4, .inl (cI, 70, .inl (jA (fl)))), (h 5, .inl (cI, 70, .inl (jA (ds))))] : va_W))) (kRi (fun z => z = fl a + ds a)) 0 0 (fun _ => False) := by
  refine k_inR (cc := cX2_bothOfDay) (maxL := 2) (ret := (some .int)) (by decide) rfl (Nat.le_of_ble_eq_true rfl) ?_
  intro p e s m below meth c ls hx hb hr hts hown hml hlocks hP hK hN hl
  have hown : s.vm.findClass RX2 = some m.cls := hown
  have hl : lv_has ls 2 [(0, .ref (h 0)), (1, .int (iI (a)))] := hl
  have hiX2 : ∀ w ∈ u_ws RX2 TX2 16, w ∈ wsX2_bothOfDay := by decide +kernel
  refine lv_aload_n hx hb dX2_bothOfDay_0 rfl (lv_at hl 0 rfl) ?_
  refine va_get (D := (dC, dI)) (ci := 2) (C := RX2) (T := TX2) (N := 16) hx hb hts hiX2 hown hK hP 0 rfl rfl 3 (by decide) (hts (.fieldLink RX2 25 "PumpDesk" "flowOfDay" "[I") (by decide +kernel)) (fun _ h9 => h9) rfl dX2_bothOfDay_1 ?_
  refine lv_iload_n hx hb dX2_bothOfDay_4 rfl (lv_at hl 1 rfl) ?_
  refine jz_iald hx hb hK hP 1 0 rfl rfl (by omega) dX2_bothOfDay_5 ?_
  refine lv_aload_n hx hb dX2_bothOfDay_6 rfl (lv_at hl 0 rfl) ?_
  refine va_get (D := (dC, dI)) (ci := 2) (C := RX2) (T := TX2) (N := 16) hx hb hts hiX2 hown hK hP 0 rfl rfl 4 (by decide) (hts (.fieldLink RX2 28 "PumpDesk" "dosesOfDay" "[I") (by decide +kernel)) (fun _ h9 => h9) rfl dX2_bothOfDay_7 ?_
  refine lv_iload_n hx hb dX2_bothOfDay_10 rfl (lv_at hl 1 rfl) ?_
  refine jz_iald hx hb hK hP 2 0 rfl rfl (by omega) dX2_bothOfDay_11 ?_
  refine jz_iadd hx hb dX2_bothOfDay_12 ?_
  exact jr_i hx hb hr hlocks (rfl) dX2_bothOfDay_13

set_option maxHeartbeats 4000000 in
set_option maxRecDepth 100000 in
theorem c_X2_leftOfToday (l : Launch) (dC : Nat → ClassId) (dI : Nat → Nat → Nat) (cI cQ cR : ClassId) (h : Nat → Nat) (x0 x1 x2 x3 x4 x5 x6 x7 x8 x9 x10 : Int) (fl ds : Int → Int) (hn : 0 ≤ x1 ∧ x1 ≤ 100000) (hx4 : 0 ≤ x4 ∧ x4 ≤ 1000000) (hbd : 0 ≤ fl (x1 / 1440) + ds (x1 / 1440) ∧ fl (x1 / 1440) + ds (x1 / 1440) ≤ 1000000000) : Met l yX2_leftOfToday wsX2_leftOfToday ({ frames := 1, cells := 0, slots := 0, locals := 21 }) (kR (dC, dI) vwCl (kT cI cQ cR) [.ref (h 0)] (([(h 0, .inr (2, [.ref (h 1), .ref (h 2), .ref (h 3), .ref (h 4), .ref (h 5), .int (iI (x0)), .int (iI (x1)), .int (iI (x2)), .int (iI (x3)), .int (iI (x4)), .int (iI (x5)), .int (iI (x6)), .int (iI (x7)), .int (iI (x8)), .int (iI (x9)), .int (iI (x10))])), (h 4, .inl (cI, 70, .inl (jA (fl)))), (h 5, .inl (cI, 70, .inl (jA (ds))))] : va_W))) (kRi (fun z => (0 ≤ x4 - (fl (x1 / 1440) + ds (x1 / 1440)) ∧ z = x4 - (fl (x1 / 1440) + ds (x1 / 1440))) ∨ (x4 - (fl (x1 / 1440) + ds (x1 / 1440)) < 0 ∧ z = 0))) 0 0 (fun _ => False) := by
  refine k_inR (cc := cX2_leftOfToday) (maxL := 1) (ret := (some .int)) (by decide) rfl (Nat.le_of_ble_eq_true rfl) ?_
  intro p e s m below meth c ls hx hb hr hts hown hml hlocks hP hK hN hl
  have hown : s.vm.findClass RX2 = some m.cls := hown
  have hl : lv_has ls 1 [(0, .ref (h 0))] := hl
  have hiX2 : ∀ w ∈ u_ws RX2 TX2 16, w ∈ wsX2_leftOfToday := by decide +kernel
  refine jz_iconst hx hb dX2_leftOfToday_0 ?_
  refine lv_aload_n hx hb dX2_leftOfToday_1 rfl (lv_at hl 0 rfl) ?_
  refine va_get (D := (dC, dI)) (ci := 2) (C := RX2) (T := TX2) (N := 16) hx hb hts hiX2 hown hK hP 0 rfl rfl 9 (by decide) (hts (.fieldLink RX2 45 "PumpDesk" "greatestDay" "I") (by decide +kernel)) (fun _ h9 => h9) rfl dX2_leftOfToday_2 ?_
  refine lv_aload_n hx hb dX2_leftOfToday_5 rfl (lv_at hl 0 rfl) ?_
  refine lv_aload_n hx hb dX2_leftOfToday_6 rfl (lv_at hl 0 rfl) ?_
  refine va_get (D := (dC, dI)) (ci := 2) (C := RX2) (T := TX2) (N := 16) hx hb hts hiX2 hown hK hP 0 rfl rfl 6 (by decide) (hts (.fieldLink RX2 35 "PumpDesk" "now" "I") (by decide +kernel)) (fun _ h9 => h9) rfl dX2_leftOfToday_7 ?_
  refine jz_sipush hx hb dX2_leftOfToday_10 rfl ?_
  refine jz_idiv hx hb dX2_leftOfToday_13 (by omega) ?_
  refine kr_i (va_runV (As := [.int (iI ((x1 / 1440)))]) (rest := [.int (iI (x4)), .int (iI (0))]) ⟨hx, hb, hml, hown, hts⟩ (c_X2_bothOfDay l dC dI cI cQ cR h (x0) (x1) (x2) (x3) (x4) (x5) (x6) (x7) (x8) (x9) (x10) (fl) (ds) ((x1 / 1440)) (by omega)) (cwV 1 hts gX2_leftOfToday_X2_bothOfDay rfl rfl rfl (by decide +kernel) ⟨Nat.le_of_ble_eq_true rfl, Nat.le_of_ble_eq_true rfl⟩) (kR_V hK hN (hP.sub (ws' := ([(h 0, .inr (2, [.ref (h 1), .ref (h 2), .ref (h 3), .ref (h 4), .ref (h 5), .int (iI (x0)), .int (iI (x1)), .int (iI (x2)), .int (iI (x3)), .int (iI (x4)), .int (iI (x5)), .int (iI (x6)), .int (iI (x7)), .int (iI (x8)), .int (iI (x9)), .int (iI (x10))])), (h 4, .inl (cI, 70, .inl (jA (fl)))), (h 5, .inl (cI, 70, .inl (jA (ds))))] : va_W)) [0, 1, 2] rfl) hK hP (q0 := 0) rfl rfl) rfl rfl hl.1 rfl (lv_room (Nat.le_of_ble_eq_true rfl)) dX2_leftOfToday_14 ⟨Nat.le_of_ble_eq_true rfl, Nat.le_of_ble_eq_true rfl⟩) (fun z1 hz1 => ?_)
  obtain rfl : z1 = (fl ((x1 / 1440)) + ds ((x1 / 1440))) := hz1
  refine jz_isub hx hb dX2_leftOfToday_17 ?_
  refine jz_mmax hx hb (hml.trans hl.1.symm) hown (hts (.methodLink RX2 73 Lib.Math.max.name) (by decide +kernel)) (hts (.static Lib.Math.max.name) (by decide +kernel)) (hts (.initialized "java/lang/Math") (by decide +kernel)) (hts (.code Lib.Math.max.name Lib.Math.max.code 2 (some .int)) (by decide +kernel)) (Nat.le_of_ble_eq_true rfl) (Nat.le_of_ble_eq_true rfl) (Nat.le_of_ble_eq_true rfl) (Nat.le_of_ble_eq_true rfl) (by omega) dX2_leftOfToday_18 (fun z2 hz2 => ?_)
  exact jr_i hx hb hr hlocks (by omega) dX2_leftOfToday_21

set_option maxHeartbeats 4000000 in
set_option maxRecDepth 100000 in
theorem c_X2_hasFreshReading (l : Launch) (dC : Nat → ClassId) (dI : Nat → Nat → Nat) (cI cQ cR : ClassId) (h : Nat → Nat) (x0 x1 x2 x3 x4 x5 x6 x7 x8 x9 x10 : Int) (hn : 0 ≤ x1 ∧ x1 ≤ 100000) (hx9 : x9 = -1 ∨ (1 ≤ x9 ∧ x9 ≤ 1000)) (hx10 : -1 ≤ x10 ∧ x10 ≤ 100000) : Met l yX2_hasFreshReading wsX2_hasFreshReading ({ frames := 0, cells := 0, slots := 0, locals := 0 }) (kR (dC, dI) vwCl (kT cI cQ cR) [.ref (h 0)] (([(h 0, .inr (2, [.ref (h 1), .ref (h 2), .ref (h 3), .ref (h 4), .ref (h 5), .int (iI (x0)), .int (iI (x1)), .int (iI (x2)), .int (iI (x3)), .int (iI (x4)), .int (iI (x5)), .int (iI (x6)), .int (iI (x7)), .int (iI (x8)), .int (iI (x9)), .int (iI (x10))]))] : va_W))) (kRi (fun z => (z = 1 ∧ (¬ x9 = -1 ∧ x1 - x10 ≤ 15)) ∨ (z = 0 ∧ ¬ (¬ x9 = -1 ∧ x1 - x10 ≤ 15)))) 0 0 (fun _ => False) := by
  refine k_inR (cc := cX2_hasFreshReading) (maxL := 1) (ret := (some .boolean)) (by decide) rfl (Nat.le_of_ble_eq_true rfl) ?_
  intro p e s m below meth c ls hx hb hr hts hown hml hlocks hP hK hN hl
  have hown : s.vm.findClass RX2 = some m.cls := hown
  have hl : lv_has ls 1 [(0, .ref (h 0))] := hl
  have hiX2 : ∀ w ∈ u_ws RX2 TX2 16, w ∈ wsX2_hasFreshReading := by decide +kernel
  refine lv_aload_n hx hb dX2_hasFreshReading_0 rfl (lv_at hl 0 rfl) ?_
  refine va_get (D := (dC, dI)) (ci := 2) (C := RX2) (T := TX2) (N := 16) hx hb hts hiX2 hown hK hP 0 rfl rfl 14 (by decide) (hts (.fieldLink RX2 61 "PumpDesk" "lastValue" "I") (by decide +kernel)) (fun _ h9 => h9) rfl dX2_hasFreshReading_1 ?_
  refine jz_iconst hx hb dX2_hasFreshReading_4 ?_
  refine jz_icmp_eq (tgt := 26) hx hb dX2_hasFreshReading_5 (by decide) (by omega) (fun cd5 => ?_) (fun cd5 => ?_)
  · refine jz_iconst hx hb dX2_hasFreshReading_26 ?_
    exact jr_z hx hb hr hlocks (by omega) (by omega) dX2_hasFreshReading_27
  · refine lv_aload_n hx hb dX2_hasFreshReading_8 rfl (lv_at hl 0 rfl) ?_
    refine va_get (D := (dC, dI)) (ci := 2) (C := RX2) (T := TX2) (N := 16) hx hb hts hiX2 hown hK hP 0 rfl rfl 6 (by decide) (hts (.fieldLink RX2 35 "PumpDesk" "now" "I") (by decide +kernel)) (fun _ h9 => h9) rfl dX2_hasFreshReading_9 ?_
    refine lv_aload_n hx hb dX2_hasFreshReading_12 rfl (lv_at hl 0 rfl) ?_
    refine va_get (D := (dC, dI)) (ci := 2) (C := RX2) (T := TX2) (N := 16) hx hb hts hiX2 hown hK hP 0 rfl rfl 15 (by decide) (hts (.fieldLink RX2 64 "PumpDesk" "lastMinute" "I") (by decide +kernel)) (fun _ h9 => h9) rfl dX2_hasFreshReading_13 ?_
    refine jz_isub hx hb dX2_hasFreshReading_16 ?_
    refine jz_bipush hx hb dX2_hasFreshReading_17 rfl ?_
    refine jz_icmp_gt (tgt := 26) hx hb dX2_hasFreshReading_19 (by decide) (by omega) (fun cd19 => ?_) (fun cd19 => ?_)
    · refine jz_iconst hx hb dX2_hasFreshReading_26 ?_
      exact jr_z hx hb hr hlocks (by omega) (by omega) dX2_hasFreshReading_27
    · refine jz_iconst hx hb dX2_hasFreshReading_22 ?_
      refine lv_goto (tgt := 27) hx hb dX2_hasFreshReading_23 (by decide) ?_
      exact jr_z hx hb hr hlocks (by omega) (by omega) dX2_hasFreshReading_27

set_option maxHeartbeats 4000000 in
set_option maxRecDepth 100000 in
theorem c_X2_valueNow (l : Launch) (dC : Nat → ClassId) (dI : Nat → Nat → Nat) (cI cQ cR : ClassId) (h : Nat → Nat) (x0 x1 x2 x3 x4 x5 x6 x7 x8 x9 x10 : Int) (pf : Nat → Option Nat) (cs : Nat → Int) (sts vas : Nat → Int → Int) (vv : Nat → Int) (a : Int) (ha : 0 ≤ a ∧ a ≤ 3) (hn : 0 ≤ x1 ∧ x1 ≤ 100000) (hpf : ∀ i : Nat, i < 5 → pf i = some (h (6 + i))) (hcs : ∀ i : Nat, i < 5 → 0 ≤ cs i ∧ cs i ≤ 8) (hrs : ∀ (i : Nat) (j : Int), -2147483648 ≤ sts i j ∧ sts i j ≤ 2147483647) (hrv : ∀ (i : Nat) (j : Int), -2147483648 ≤ vas i j ∧ vas i j ≤ 2147483647) (hV : ∀ i : Nat, i < 4 → ∃ k : Int, (0 ≤ k ∧ k ≤ cs i ∧ (∀ j : Int, 0 ≤ j → j < k → sts i j ≤ (x1 % 1440)) ∧ (k < cs i → (x1 % 1440) < sts i k)) ∧ ((cs i = 0 ∧ vv i = vw i) ∨ (¬ cs i = 0 ∧ k = 0 ∧ vv i = vas i (cs i - 1)) ∨ (¬ cs i = 0 ∧ ¬ k = 0 ∧ vv i = vas i (k - 1)))) : Met l yX2_valueNow wsX2_valueNow ({ frames := 2, cells := 0, slots := 0, locals := 43 }) (kR (dC, dI) vwCl (kT cI cQ cR) [.ref (h 0), .int (iI (a))] (([(h 0, .inr (2, [.ref (h 1), .ref (h 2), .ref (h 3), .ref (h 4), .ref (h 5), .int (iI (x0)), .int (iI (x1)), .int (iI (x2)), .int (iI (x3)), .int (iI (x4)), .int (iI (x5)), .int (iI (x6)), .int (iI (x7)), .int (iI (x8)), .int (iI (x9)), .int (iI (x10))])), (h 1, .inl (cQ, 5, .inr (.inr (.inr (.inr (pf)))))), (h 6, .inr (1, [.ref (h 11), .ref (h 12), .int (iI (10)), .int (iI (cs 0))])), (h 7, .inr (1, [.ref (h 13), .ref (h 14), .int (iI (50)), .int (iI (cs 1))])), (h 8, .inr (1, [.ref (h 15), .ref (h 16), .int (iI (100)), .int (iI (cs 2))])), (h 9, .inr (1, [.ref (h 17), .ref (h 18), .int (iI (120)), .int (iI (cs 3))])), (h 11, .inl (cI, 8, .inl (jA (sts 0)))), (h 12, .inl (cI, 8, .inl (jA (vas 0)))), (h 13, .inl (cI, 8, .inl (jA (sts 1)))), (h 14, .inl (cI, 8, .inl (jA (vas 1)))), (h 15, .inl (cI, 8, .inl (jA (sts 2)))), (h 16, .inl (cI, 8, .inl (jA (vas 2)))), (h 17, .inl (cI, 8, .inl (jA (sts 3)))), (h 18, .inl (cI, 8, .inl (jA (vas 3))))] : va_W))) (kRi (fun z => z = vv a.toNat)) 0 0 (fun _ => False) := by
  refine k_inR (cc := cX2_valueNow) (maxL := 2) (ret := (some .int)) (by decide) rfl (Nat.le_of_ble_eq_true rfl) ?_
  intro p e s m below meth c ls hx hb hr hts hown hml hlocks hP hK hN hl
  have hown : s.vm.findClass RX2 = some m.cls := hown
  have hl : lv_has ls 2 [(0, .ref (h 0)), (1, .int (iI (a)))] := hl
  have hiX2 : ∀ w ∈ u_ws RX2 TX2 16, w ∈ wsX2_valueNow := by decide +kernel
  rcases (show a = 0 ∨ a = 1 ∨ a = 2 ∨ a = 3 by omega) with rfl | rfl | rfl | rfl
  · have hki := hcs 0 (by decide)
    refine lv_aload_n hx hb dX2_valueNow_0 rfl (lv_at hl 0 rfl) ?_
    refine va_get (D := (dC, dI)) (ci := 2) (C := RX2) (T := TX2) (N := 16) hx hb hts hiX2 hown hK hP 0 rfl rfl 0 (by decide) (hts (.fieldLink RX2 11 "PumpDesk" "profile" "[LPumpDesk$Slots;") (by decide +kernel)) (fun _ h9 => h9) rfl dX2_valueNow_1 ?_
    refine lv_iload_n hx hb dX2_valueNow_4 rfl (lv_at hl 1 rfl) ?_
    refine jz_aldk hx hb hK hP 1 1 rfl rfl (by omega) (hpf 0 (by decide)) dX2_valueNow_5 ?_
    refine lv_aload_n hx hb dX2_valueNow_6 rfl (lv_at hl 0 rfl) ?_
    refine va_get (D := (dC, dI)) (ci := 2) (C := RX2) (T := TX2) (N := 16) hx hb hts hiX2 hown hK hP 0 rfl rfl 6 (by decide) (hts (.fieldLink RX2 35 "PumpDesk" "now" "I") (by decide +kernel)) (fun _ h9 => h9) rfl dX2_valueNow_7 ?_
    refine jz_sipush hx hb dX2_valueNow_10 rfl ?_
    refine jz_irem hx hb dX2_valueNow_13 (by omega) ?_
    refine kr_i (va_runVN (As := [.int (iI ((x1 % 1440)))]) (rest := []) ⟨hx, hb, hml, hown, hts⟩ (c_X1_valueAt l dC dI cI cQ cR (h 6) (h 11) (h 12) (10) (cs 0) (sts 0) (vas 0) ((x1 % 1440)) (by omega) (by omega) ((hrs 0))) ⟨va_cnB (host := RX2) 1 hts gX2_valueNow_X1_valueAt_n94 rfl rfl rfl (hN.2.1 (94, yX1_valueAt) (by decide +kernel)) (hts (.initialized RX1) (by decide +kernel)) (by decide +kernel) ⟨Nat.le_of_ble_eq_true rfl, Nat.le_of_ble_eq_true rfl⟩, hts (.instanceMethod yX1_valueAt) (by decide +kernel), hts (.selects RX1 yX1_valueAt yX1_valueAt) (by decide +kernel)⟩ (kR_V hK hN (hP.sub (ws' := ([(h 6, .inr (1, [.ref (h 11), .ref (h 12), .int (iI (10)), .int (iI (cs 0))])), (h 11, .inl (cI, 8, .inl (jA (sts 0)))), (h 12, .inl (cI, 8, .inl (jA (vas 0))))] : va_W)) [2, 6, 7] rfl) hK hP (q0 := 2) rfl rfl) rfl rfl hl.1 rfl (lv_room (Nat.le_of_ble_eq_true rfl)) dX2_valueNow_14 ⟨Nat.le_of_ble_eq_true rfl, Nat.le_of_ble_eq_true rfl⟩) (fun z1 hz1 => ?_)
    exact jr_i hx hb hr hlocks (by obtain ⟨k, hk, hv⟩ := hz1; obtain ⟨k2, hk2, hv2⟩ := hV 0 (by decide); have e1 := ex_span hk hk2; subst e1; have e2 : vw 0 = 10 := rfl; show z1 = vv 0; omega) dX2_valueNow_17
  · have hki := hcs 1 (by decide)
    refine lv_aload_n hx hb dX2_valueNow_0 rfl (lv_at hl 0 rfl) ?_
    refine va_get (D := (dC, dI)) (ci := 2) (C := RX2) (T := TX2) (N := 16) hx hb hts hiX2 hown hK hP 0 rfl rfl 0 (by decide) (hts (.fieldLink RX2 11 "PumpDesk" "profile" "[LPumpDesk$Slots;") (by decide +kernel)) (fun _ h9 => h9) rfl dX2_valueNow_1 ?_
    refine lv_iload_n hx hb dX2_valueNow_4 rfl (lv_at hl 1 rfl) ?_
    refine jz_aldk hx hb hK hP 1 1 rfl rfl (by omega) (hpf 1 (by decide)) dX2_valueNow_5 ?_
    refine lv_aload_n hx hb dX2_valueNow_6 rfl (lv_at hl 0 rfl) ?_
    refine va_get (D := (dC, dI)) (ci := 2) (C := RX2) (T := TX2) (N := 16) hx hb hts hiX2 hown hK hP 0 rfl rfl 6 (by decide) (hts (.fieldLink RX2 35 "PumpDesk" "now" "I") (by decide +kernel)) (fun _ h9 => h9) rfl dX2_valueNow_7 ?_
    refine jz_sipush hx hb dX2_valueNow_10 rfl ?_
    refine jz_irem hx hb dX2_valueNow_13 (by omega) ?_
    refine kr_i (va_runVN (As := [.int (iI ((x1 % 1440)))]) (rest := []) ⟨hx, hb, hml, hown, hts⟩ (c_X1_valueAt l dC dI cI cQ cR (h 7) (h 13) (h 14) (50) (cs 1) (sts 1) (vas 1) ((x1 % 1440)) (by omega) (by omega) ((hrs 1))) ⟨va_cnB (host := RX2) 1 hts gX2_valueNow_X1_valueAt_n94 rfl rfl rfl (hN.2.1 (94, yX1_valueAt) (by decide +kernel)) (hts (.initialized RX1) (by decide +kernel)) (by decide +kernel) ⟨Nat.le_of_ble_eq_true rfl, Nat.le_of_ble_eq_true rfl⟩, hts (.instanceMethod yX1_valueAt) (by decide +kernel), hts (.selects RX1 yX1_valueAt yX1_valueAt) (by decide +kernel)⟩ (kR_V hK hN (hP.sub (ws' := ([(h 7, .inr (1, [.ref (h 13), .ref (h 14), .int (iI (50)), .int (iI (cs 1))])), (h 13, .inl (cI, 8, .inl (jA (sts 1)))), (h 14, .inl (cI, 8, .inl (jA (vas 1))))] : va_W)) [3, 8, 9] rfl) hK hP (q0 := 3) rfl rfl) rfl rfl hl.1 rfl (lv_room (Nat.le_of_ble_eq_true rfl)) dX2_valueNow_14 ⟨Nat.le_of_ble_eq_true rfl, Nat.le_of_ble_eq_true rfl⟩) (fun z2 hz2 => ?_)
    exact jr_i hx hb hr hlocks (by obtain ⟨k, hk, hv⟩ := hz2; obtain ⟨k2, hk2, hv2⟩ := hV 1 (by decide); have e1 := ex_span hk hk2; subst e1; have e2 : vw 1 = 50 := rfl; show z2 = vv 1; omega) dX2_valueNow_17
  · have hki := hcs 2 (by decide)
    refine lv_aload_n hx hb dX2_valueNow_0 rfl (lv_at hl 0 rfl) ?_
    refine va_get (D := (dC, dI)) (ci := 2) (C := RX2) (T := TX2) (N := 16) hx hb hts hiX2 hown hK hP 0 rfl rfl 0 (by decide) (hts (.fieldLink RX2 11 "PumpDesk" "profile" "[LPumpDesk$Slots;") (by decide +kernel)) (fun _ h9 => h9) rfl dX2_valueNow_1 ?_
    refine lv_iload_n hx hb dX2_valueNow_4 rfl (lv_at hl 1 rfl) ?_
    refine jz_aldk hx hb hK hP 1 1 rfl rfl (by omega) (hpf 2 (by decide)) dX2_valueNow_5 ?_
    refine lv_aload_n hx hb dX2_valueNow_6 rfl (lv_at hl 0 rfl) ?_
    refine va_get (D := (dC, dI)) (ci := 2) (C := RX2) (T := TX2) (N := 16) hx hb hts hiX2 hown hK hP 0 rfl rfl 6 (by decide) (hts (.fieldLink RX2 35 "PumpDesk" "now" "I") (by decide +kernel)) (fun _ h9 => h9) rfl dX2_valueNow_7 ?_
    refine jz_sipush hx hb dX2_valueNow_10 rfl ?_
    refine jz_irem hx hb dX2_valueNow_13 (by omega) ?_
    refine kr_i (va_runVN (As := [.int (iI ((x1 % 1440)))]) (rest := []) ⟨hx, hb, hml, hown, hts⟩ (c_X1_valueAt l dC dI cI cQ cR (h 8) (h 15) (h 16) (100) (cs 2) (sts 2) (vas 2) ((x1 % 1440)) (by omega) (by omega) ((hrs 2))) ⟨va_cnB (host := RX2) 1 hts gX2_valueNow_X1_valueAt_n94 rfl rfl rfl (hN.2.1 (94, yX1_valueAt) (by decide +kernel)) (hts (.initialized RX1) (by decide +kernel)) (by decide +kernel) ⟨Nat.le_of_ble_eq_true rfl, Nat.le_of_ble_eq_true rfl⟩, hts (.instanceMethod yX1_valueAt) (by decide +kernel), hts (.selects RX1 yX1_valueAt yX1_valueAt) (by decide +kernel)⟩ (kR_V hK hN (hP.sub (ws' := ([(h 8, .inr (1, [.ref (h 15), .ref (h 16), .int (iI (100)), .int (iI (cs 2))])), (h 15, .inl (cI, 8, .inl (jA (sts 2)))), (h 16, .inl (cI, 8, .inl (jA (vas 2))))] : va_W)) [4, 10, 11] rfl) hK hP (q0 := 4) rfl rfl) rfl rfl hl.1 rfl (lv_room (Nat.le_of_ble_eq_true rfl)) dX2_valueNow_14 ⟨Nat.le_of_ble_eq_true rfl, Nat.le_of_ble_eq_true rfl⟩) (fun z3 hz3 => ?_)
    exact jr_i hx hb hr hlocks (by obtain ⟨k, hk, hv⟩ := hz3; obtain ⟨k2, hk2, hv2⟩ := hV 2 (by decide); have e1 := ex_span hk hk2; subst e1; have e2 : vw 2 = 100 := rfl; show z3 = vv 2; omega) dX2_valueNow_17
  · have hki := hcs 3 (by decide)
    refine lv_aload_n hx hb dX2_valueNow_0 rfl (lv_at hl 0 rfl) ?_
    refine va_get (D := (dC, dI)) (ci := 2) (C := RX2) (T := TX2) (N := 16) hx hb hts hiX2 hown hK hP 0 rfl rfl 0 (by decide) (hts (.fieldLink RX2 11 "PumpDesk" "profile" "[LPumpDesk$Slots;") (by decide +kernel)) (fun _ h9 => h9) rfl dX2_valueNow_1 ?_
    refine lv_iload_n hx hb dX2_valueNow_4 rfl (lv_at hl 1 rfl) ?_
    refine jz_aldk hx hb hK hP 1 1 rfl rfl (by omega) (hpf 3 (by decide)) dX2_valueNow_5 ?_
    refine lv_aload_n hx hb dX2_valueNow_6 rfl (lv_at hl 0 rfl) ?_
    refine va_get (D := (dC, dI)) (ci := 2) (C := RX2) (T := TX2) (N := 16) hx hb hts hiX2 hown hK hP 0 rfl rfl 6 (by decide) (hts (.fieldLink RX2 35 "PumpDesk" "now" "I") (by decide +kernel)) (fun _ h9 => h9) rfl dX2_valueNow_7 ?_
    refine jz_sipush hx hb dX2_valueNow_10 rfl ?_
    refine jz_irem hx hb dX2_valueNow_13 (by omega) ?_
    refine kr_i (va_runVN (As := [.int (iI ((x1 % 1440)))]) (rest := []) ⟨hx, hb, hml, hown, hts⟩ (c_X1_valueAt l dC dI cI cQ cR (h 9) (h 17) (h 18) (120) (cs 3) (sts 3) (vas 3) ((x1 % 1440)) (by omega) (by omega) ((hrs 3))) ⟨va_cnB (host := RX2) 1 hts gX2_valueNow_X1_valueAt_n94 rfl rfl rfl (hN.2.1 (94, yX1_valueAt) (by decide +kernel)) (hts (.initialized RX1) (by decide +kernel)) (by decide +kernel) ⟨Nat.le_of_ble_eq_true rfl, Nat.le_of_ble_eq_true rfl⟩, hts (.instanceMethod yX1_valueAt) (by decide +kernel), hts (.selects RX1 yX1_valueAt yX1_valueAt) (by decide +kernel)⟩ (kR_V hK hN (hP.sub (ws' := ([(h 9, .inr (1, [.ref (h 17), .ref (h 18), .int (iI (120)), .int (iI (cs 3))])), (h 17, .inl (cI, 8, .inl (jA (sts 3)))), (h 18, .inl (cI, 8, .inl (jA (vas 3))))] : va_W)) [5, 12, 13] rfl) hK hP (q0 := 5) rfl rfl) rfl rfl hl.1 rfl (lv_room (Nat.le_of_ble_eq_true rfl)) dX2_valueNow_14 ⟨Nat.le_of_ble_eq_true rfl, Nat.le_of_ble_eq_true rfl⟩) (fun z4 hz4 => ?_)
    exact jr_i hx hb hr hlocks (by obtain ⟨k, hk, hv⟩ := hz4; obtain ⟨k2, hk2, hv2⟩ := hV 3 (by decide); have e1 := ex_span hk hk2; subst e1; have e2 : vw 3 = 120 := rfl; show z4 = vv 3; omega) dX2_valueNow_17

set_option maxHeartbeats 4000000 in
set_option maxRecDepth 100000 in
theorem c_J9_floorDiv_7cf53 (l : Launch) (dC : Nat → ClassId) (dI : Nat → Nat → Nat) (cI cQ cR : ClassId) (a b : Int) (ra : -2147483647 ≤ a ∧ a ≤ 2147483647) (rb : 1 ≤ b ∧ b ≤ 2147483647) : Met l yJ9_floorDiv_7cf53 wsJ9_floorDiv_7cf53 ({ frames := 0, cells := 0, slots := 0, locals := 0 }) (kR (dC, dI) vwCl (kT cI cQ cR) [.int (iI (a)), .int (iI (b))] ([])) (kRi (fun z => z = a / b ∧ (0 ≤ a → 0 ≤ z ∧ z ≤ a) ∧ (a < 0 → a - 1 ≤ z ∧ z ≤ 0))) 0 0 (fun _ => False) := by
  refine k_inRF (cc := cJ9_floorDiv_7cf53) (maxL := 3) (ret := (some .int)) (by decide +kernel) rfl (Nat.le_of_ble_eq_true rfl) ?_
  intro p e s m below meth c ls hx hb hr hts hown hml hlocks hP hK hN hl
  have hown : s.vm.findClass RJ9 = some m.cls := hown
  have hl : lv_has ls 3 [(0, .int (iI (a))), (1, .int (iI (b)))] := hl
  have hb0 : 1 ≤ b := rb.1
  have ra : -2147483648 ≤ a ∧ a ≤ 2147483647 := by omega
  refine lv_iload_n hx hb dJ9_floorDiv_7cf53_0 rfl (lv_at hl 0 rfl) ?_
  refine lv_iload_n hx hb dJ9_floorDiv_7cf53_1 rfl (lv_at hl 1 rfl) ?_
  have ht := ex_td (a := a) hb0
  refine jz_tdiv hx hb dJ9_floorDiv_7cf53_2 (by omega) ?_
  refine lv_istore_n (lv' := [(2, .int (iI ((a.tdiv b)))), (0, .int (iI (a))), (1, .int (iI (b)))]) hx hb dJ9_floorDiv_7cf53_3 rfl hl (by decide) rfl (fun ls hl => ?_)
  refine lv_iload_n hx hb dJ9_floorDiv_7cf53_4 rfl (lv_at hl 1 rfl) ?_
  refine lv_iload_n hx hb dJ9_floorDiv_7cf53_5 rfl (lv_at hl 2 rfl) ?_
  refine lv_ixor hx hb dJ9_floorDiv_7cf53_6 ?_
  refine lv_if_ge (tgt := 21) hx hb dJ9_floorDiv_7cf53_7 (by decide) (fun q7 => ?_) (fun q7 => ?_)
  · have cd7 : 0 ≤ a := by
      rcases (show 0 ≤ a ∨ a < 0 by omega) with q | q
      · exact q
      · exact absurd q7 (Int32.not_le.mpr ((ex_xor ra (by omega)).mpr q))
    refine lv_iload_n hx hb dJ9_floorDiv_7cf53_21 rfl (lv_at hl 0 rfl) ?_
    exact jr_i hx hb hr hlocks (by omega) dJ9_floorDiv_7cf53_22
  · have cd7 : a < 0 := (ex_xor ra (by omega)).mp (Int32.not_le.mp q7)
    refine lv_iload_n hx hb dJ9_floorDiv_7cf53_10 rfl (lv_at hl 0 rfl) ?_
    refine lv_iload_n hx hb dJ9_floorDiv_7cf53_11 rfl (lv_at hl 2 rfl) ?_
    refine jz_imul hx hb dJ9_floorDiv_7cf53_12 ?_
    refine lv_iload_n hx hb dJ9_floorDiv_7cf53_13 rfl (lv_at hl 1 rfl) ?_
    refine jz_icmp_eq (tgt := 21) hx hb dJ9_floorDiv_7cf53_14 (by decide) (by omega) (fun cd14 => ?_) (fun cd14 => ?_)
    · refine lv_iload_n hx hb dJ9_floorDiv_7cf53_21 rfl (lv_at hl 0 rfl) ?_
      exact jr_i hx hb hr hlocks (by omega) dJ9_floorDiv_7cf53_22
    · refine lv_iload_n hx hb dJ9_floorDiv_7cf53_17 rfl (lv_at hl 0 rfl) ?_
      refine jz_iconst hx hb dJ9_floorDiv_7cf53_18 ?_
      refine jz_isub hx hb dJ9_floorDiv_7cf53_19 ?_
      exact jr_i hx hb hr hlocks (by omega) dJ9_floorDiv_7cf53_20

set_option maxHeartbeats 4000000 in
set_option maxRecDepth 100000 in
theorem c_X2_partsFor (l : Launch) (dC : Nat → ClassId) (dI : Nat → Nat → Nat) (cI cQ cR : ClassId) (a b : Int) (ha : -1000 ≤ a ∧ a ≤ 1000) (hb1 : 1 ≤ b ∧ b ≤ 1000) : Met l yX2_partsFor wsX2_partsFor ({ frames := 1, cells := 0, slots := 0, locals := 22 }) (kR (dC, dI) vwCl (kT cI cQ cR) [.int (iI (a)), .int (iI (b))] ([])) (kRi (fun z => z = a * 1000 / b ∧ (0 ≤ a → 0 ≤ z ∧ z ≤ a * 1000) ∧ (a < 0 → a * 1000 - 1 ≤ z ∧ z ≤ 0))) 0 0 (fun _ => False) := by
  refine k_inR (cc := cX2_partsFor) (maxL := 2) (ret := (some .int)) (by decide) rfl (Nat.le_of_ble_eq_true rfl) ?_
  intro p e s m below meth c ls hx hb hr hts hown hml hlocks hP hK hN hl
  have hown : s.vm.findClass RX2 = some m.cls := hown
  have hl : lv_has ls 2 [(0, .int (iI (a))), (1, .int (iI (b)))] := hl
  refine lv_iload_n hx hb dX2_partsFor_0 rfl (lv_at hl 1 rfl) ?_
  refine jz_iconst hx hb dX2_partsFor_1 ?_
  refine jz_icmp_ge (tgt := 9) hx hb dX2_partsFor_2 (by decide) (by omega) (fun cd2 => ?_) (fun cd2 => ?_)
  · refine lv_iload_n hx hb dX2_partsFor_9 rfl (lv_at hl 0 rfl) ?_
    refine jz_sipush hx hb dX2_partsFor_10 rfl ?_
    refine jz_imul hx hb dX2_partsFor_13 ?_
    refine lv_iload_n hx hb dX2_partsFor_14 rfl (lv_at hl 1 rfl) ?_
    refine kr_i (va_runS (As := [.int (iI ((a * 1000))), .int (iI (b))]) (rest := []) ⟨hx, hb, hml, hown, hts⟩ (c_J9_floorDiv_7cf53 l dC dI cI cQ cR ((a * 1000)) (b) (by omega) (by omega)) (va_cwS 2 hts gX2_partsFor_J9_floorDiv_7cf53 rfl rfl rfl (by decide +kernel) ⟨Nat.le_of_ble_eq_true rfl, Nat.le_of_ble_eq_true rfl⟩) (kR_S hK hN k_P0) rfl rfl hl.1 rfl (lv_room (Nat.le_of_ble_eq_true rfl)) dX2_partsFor_15 ⟨Nat.le_of_ble_eq_true rfl, Nat.le_of_ble_eq_true rfl⟩) (fun z1 hz1 => ?_)
    exact jr_i hx hb hr hlocks (⟨hz1.1, by omega, by omega⟩) dX2_partsFor_18
  · refine jz_iconst hx hb dX2_partsFor_5 ?_
    refine lv_goto (tgt := 18) hx hb dX2_partsFor_6 (by decide) ?_
    exact jr_i hx hb hr hlocks (by omega) dX2_partsFor_18

set_option maxHeartbeats 4000000 in
set_option maxRecDepth 100000 in
theorem c_X2_whyLess (l : Launch) (dC : Nat → ClassId) (dI : Nat → Nat → Nat) (cI cQ cR : ClassId) (h : Nat → Nat) (x0 x1 x2 x3 x4 x5 x6 x7 x8 x9 x10 : Int) (a1 a2 a3 : Int) (rx7 : -2147483648 ≤ x7 ∧ x7 ≤ 2147483647) (ra1 : -2147483648 ≤ a1 ∧ a1 ≤ 2147483647) (ra2 : -2147483648 ≤ a2 ∧ a2 ≤ 2147483647) (ra3 : -2147483648 ≤ a3 ∧ a3 ≤ 2147483647) : Met l yX2_whyLess wsX2_whyLess ({ frames := 0, cells := 0, slots := 0, locals := 0 }) (kR (dC, dI) vwCl (kT cI cQ cR) [.ref (h 0), .int (iI (a1)), .int (iI (a2)), .int (iI (a3))] (([(h 0, .inr (2, [.ref (h 1), .ref (h 2), .ref (h 3), .ref (h 4), .ref (h 5), .int (iI (x0)), .int (iI (x1)), .int (iI (x2)), .int (iI (x3)), .int (iI (x4)), .int (iI (x5)), .int (iI (x6)), .int (iI (x7)), .int (iI (x8)), .int (iI (x9)), .int (iI (x10))]))] : va_W))) (kRi (fun z => 0 ≤ z ∧ z ≤ 3)) 0 0 (fun _ => False) := by
  refine k_inR (cc := cX2_whyLess) (maxL := 4) (ret := (some .int)) (by decide) rfl (Nat.le_of_ble_eq_true rfl) ?_
  intro p e s m below meth c ls hx hb hr hts hown hml hlocks hP hK hN hl
  have hown : s.vm.findClass RX2 = some m.cls := hown
  have hl : lv_has ls 4 [(0, .ref (h 0)), (1, .int (iI (a1))), (2, .int (iI (a2))), (3, .int (iI (a3)))] := hl
  have hiX2 : ∀ w ∈ u_ws RX2 TX2 16, w ∈ wsX2_whyLess := by decide +kernel
  refine lv_aload_n hx hb dX2_whyLess_0 rfl (lv_at hl 0 rfl) ?_
  refine va_get (D := (dC, dI)) (ci := 2) (C := RX2) (T := TX2) (N := 16) hx hb hts hiX2 hown hK hP 0 rfl rfl 12 (by decide) (hts (.fieldLink RX2 54 "PumpDesk" "held" "Z") (by decide +kernel)) (fun _ h9 => h9) rfl dX2_whyLess_1 ?_
  refine jz_if_eq (tgt := 13) hx hb dX2_whyLess_4 (by decide) (by omega) (fun cd4 => ?_) (fun cd4 => ?_)
  · refine lv_iload_n hx hb dX2_whyLess_13 rfl (lv_at hl 3 rfl) ?_
    refine lv_iload_n hx hb dX2_whyLess_14 rfl (lv_at hl 2 rfl) ?_
    refine jz_icmp_ge (tgt := 20) hx hb dX2_whyLess_15 (by decide) (by omega) (fun cd15 => ?_) (fun cd15 => ?_)
    · refine lv_iload_n hx hb dX2_whyLess_20 rfl (lv_at hl 2 rfl) ?_
      refine lv_iload_n hx hb dX2_whyLess_21 rfl (lv_at hl 1 rfl) ?_
      refine jz_icmp_ge (tgt := 29) hx hb dX2_whyLess_22 (by decide) (by omega) (fun cd22 => ?_) (fun cd22 => ?_)
      · refine jz_iconst hx hb dX2_whyLess_29 ?_
        exact jr_i hx hb hr hlocks (by omega) dX2_whyLess_30
      · refine jz_iconst hx hb dX2_whyLess_25 ?_
        refine lv_goto (tgt := 30) hx hb dX2_whyLess_26 (by decide) ?_
        exact jr_i hx hb hr hlocks (by omega) dX2_whyLess_30
    · refine jz_iconst hx hb dX2_whyLess_18 ?_
      exact jr_i hx hb hr hlocks (by omega) dX2_whyLess_19
  · refine lv_iload_n hx hb dX2_whyLess_7 rfl (lv_at hl 1 rfl) ?_
    refine jz_if_le (tgt := 13) hx hb dX2_whyLess_8 (by decide) (by omega) (fun cd8 => ?_) (fun cd8 => ?_)
    · refine lv_iload_n hx hb dX2_whyLess_13 rfl (lv_at hl 3 rfl) ?_
      refine lv_iload_n hx hb dX2_whyLess_14 rfl (lv_at hl 2 rfl) ?_
      refine jz_icmp_ge (tgt := 20) hx hb dX2_whyLess_15 (by decide) (by omega) (fun cd15 => ?_) (fun cd15 => ?_)
      · refine lv_iload_n hx hb dX2_whyLess_20 rfl (lv_at hl 2 rfl) ?_
        refine lv_iload_n hx hb dX2_whyLess_21 rfl (lv_at hl 1 rfl) ?_
        refine jz_icmp_ge (tgt := 29) hx hb dX2_whyLess_22 (by decide) (by omega) (fun cd22 => ?_) (fun cd22 => ?_)
        · refine jz_iconst hx hb dX2_whyLess_29 ?_
          exact jr_i hx hb hr hlocks (by omega) dX2_whyLess_30
        · refine jz_iconst hx hb dX2_whyLess_25 ?_
          refine lv_goto (tgt := 30) hx hb dX2_whyLess_26 (by decide) ?_
          exact jr_i hx hb hr hlocks (by omega) dX2_whyLess_30
      · refine jz_iconst hx hb dX2_whyLess_18 ?_
        exact jr_i hx hb hr hlocks (by omega) dX2_whyLess_19
    · refine jz_iconst hx hb dX2_whyLess_11 ?_
      exact jr_i hx hb hr hlocks (by omega) dX2_whyLess_12

set_option maxHeartbeats 4000000 in
set_option maxRecDepth 100000 in
theorem c_X2_atWorkNowOf (l : Launch) (dC : Nat → ClassId) (dI : Nat → Nat → Nat) (cI cQ cR : ClassId) (h : Nat → Nat) (x0 x1 x2 x3 x4 x5 x6 x7 x8 x9 x10 : Int) (sh : Int → Int) (q : Nat) (d : Nat → Int) (hn : 0 ≤ x1 ∧ x1 ≤ 100000) (hd0 : 0 ≤ d 0 ∧ d 0 ≤ x1) (hd1 : 0 ≤ d 1 ∧ d 1 ≤ 100000) (hsh : ∀ j : Int, 0 ≤ j → j ≤ 32 → 0 ≤ sh j ∧ sh j ≤ 1000) : Met l yX2_atWorkNowOf wsX2_atWorkNowOf ({ frames := 1, cells := 0, slots := 0, locals := 22 }) (kR (dC, dI) vwCl (kT cI cQ cR) [.ref (h 0), .ref (q)] (([(h 0, .inr (2, [.ref (h 1), .ref (h 2), .ref (h 3), .ref (h 4), .ref (h 5), .int (iI (x0)), .int (iI (x1)), .int (iI (x2)), .int (iI (x3)), .int (iI (x4)), .int (iI (x5)), .int (iI (x6)), .int (iI (x7)), .int (iI (x8)), .int (iI (x9)), .int (iI (x10))])), (h 2, .inl (cI, 33, .inl (jA (sh)))), (q, .inr (0, [.int (iI (d 0)), .int (iI (d 1)), .int (iI (d 2)), .int (iI (d 3)), .int (iI (d 4)), .int (iI (d 5))]))] : va_W))) (kRi (fun z => z = (if (x1 - d 0) / 15 ≤ 32 then d 1 * sh ((x1 - d 0) / 15) / 1000 else 0))) 0 0 (fun _ => False) := by
  refine k_inR (cc := cX2_atWorkNowOf) (maxL := 3) (ret := (some .int)) (by decide) rfl (Nat.le_of_ble_eq_true rfl) ?_
  intro p e s m below meth c ls hx hb hr hts hown hml hlocks hP hK hN hl
  have hown : s.vm.findClass RX2 = some m.cls := hown
  have hl : lv_has ls 3 [(0, .ref (h 0)), (1, .ref (q))] := hl
  have hiX0 : ∀ w ∈ u_ws RX0 TX0 6, w ∈ wsX2_atWorkNowOf := by decide +kernel
  have hiX2 : ∀ w ∈ u_ws RX2 TX2 16, w ∈ wsX2_atWorkNowOf := by decide +kernel
  refine lv_aload_n hx hb dX2_atWorkNowOf_0 rfl (lv_at hl 0 rfl) ?_
  refine va_get (D := (dC, dI)) (ci := 2) (C := RX2) (T := TX2) (N := 16) hx hb hts hiX2 hown hK hP 0 rfl rfl 6 (by decide) (hts (.fieldLink RX2 35 "PumpDesk" "now" "I") (by decide +kernel)) (fun _ h9 => h9) rfl dX2_atWorkNowOf_1 ?_
  refine lv_aload_n hx hb dX2_atWorkNowOf_4 rfl (lv_at hl 1 rfl) ?_
  refine va_getN (D := (dC, dI)) (ci := 0) (C := RX0) (T := TX0) (N := 6) hx hb hts hiX0 hown hK hP 2 rfl rfl 0 (by decide) (va_Nw.use rfl (hN.1 (126, RX0, "minute") (by decide +kernel))) (fun _ h9 => h9) rfl dX2_atWorkNowOf_5 ?_
  refine jz_isub hx hb dX2_atWorkNowOf_8 ?_
  refine jz_bipush hx hb dX2_atWorkNowOf_9 rfl ?_
  refine jz_idiv hx hb dX2_atWorkNowOf_11 (by omega) ?_
  refine lv_istore_n (lv' := [(2, .int (iI (((x1 - d 0) / 15)))), (0, .ref (h 0)), (1, .ref (q))]) hx hb dX2_atWorkNowOf_12 rfl hl (by decide) rfl (fun ls hl => ?_)
  refine lv_iload_n hx hb dX2_atWorkNowOf_13 rfl (lv_at hl 0 rfl) ?_
  refine jz_iconst hx hb dX2_atWorkNowOf_14 ?_
  refine jz_bipush hx hb dX2_atWorkNowOf_15 rfl ?_
  refine kr_i (va_runS (As := [.int (iI (((x1 - d 0) / 15))), .int (iI (0)), .int (iI (32))]) (rest := []) ⟨hx, hb, hml, hown, hts⟩ (c_X2_isWithin l dC dI cI cQ cR (((x1 - d 0) / 15)) (0) (32) (by omega) (by omega) (by omega)) (va_cwS 3 hts gX2_atWorkNowOf_X2_isWithin rfl rfl rfl (by decide +kernel) ⟨Nat.le_of_ble_eq_true rfl, Nat.le_of_ble_eq_true rfl⟩) (kR_S hK hN k_P0) rfl rfl hl.1 rfl (lv_room (Nat.le_of_ble_eq_true rfl)) dX2_atWorkNowOf_17 ⟨Nat.le_of_ble_eq_true rfl, Nat.le_of_ble_eq_true rfl⟩) (fun z1 hz1 => ?_)
  refine jz_if_eq (tgt := 41) hx hb dX2_atWorkNowOf_20 (by decide) (by omega) (fun cd20 => ?_) (fun cd20 => ?_)
  · refine jz_iconst hx hb dX2_atWorkNowOf_41 ?_
    exact jr_i hx hb hr hlocks (by rw [if_neg (by omega)]) dX2_atWorkNowOf_42
  · refine lv_aload_n hx hb dX2_atWorkNowOf_23 rfl (lv_at hl 2 rfl) ?_
    refine va_getN (D := (dC, dI)) (ci := 0) (C := RX0) (T := TX0) (N := 6) hx hb hts hiX0 hown hK hP 2 rfl rfl 1 (by decide) (va_Nw.use rfl (hN.1 (116, RX0, "parts") (by decide +kernel))) (fun _ h9 => h9) rfl dX2_atWorkNowOf_24 ?_
    refine lv_aload_n hx hb dX2_atWorkNowOf_27 rfl (lv_at hl 1 rfl) ?_
    refine va_get (D := (dC, dI)) (ci := 2) (C := RX2) (T := TX2) (N := 16) hx hb hts hiX2 hown hK hP 0 rfl rfl 1 (by decide) (hts (.fieldLink RX2 15 "PumpDesk" "shares" "[I") (by decide +kernel)) (fun _ h9 => h9) rfl dX2_atWorkNowOf_28 ?_
    refine lv_iload_n hx hb dX2_atWorkNowOf_31 rfl (lv_at hl 0 rfl) ?_
    refine jz_iald hx hb hK hP 1 0 rfl rfl (by omega) dX2_atWorkNowOf_32 ?_
    have hm := ex_mul (A := 100000) (B := 1000) hd1 (hsh ((x1 - d 0) / 15) (by omega) (by omega))
    refine jz_imul hx hb dX2_atWorkNowOf_33 ?_
    refine jz_sipush hx hb dX2_atWorkNowOf_34 rfl ?_
    refine jz_idiv hx hb dX2_atWorkNowOf_37 (by omega) ?_
    refine lv_goto (tgt := 42) hx hb dX2_atWorkNowOf_38 (by decide) ?_
    exact jr_i hx hb hr hlocks (by rw [if_pos (by omega)]) dX2_atWorkNowOf_42

set_option maxHeartbeats 4000000 in
set_option maxRecDepth 100000 in
theorem c_X2_atWorkNow (l : Launch) (dC : Nat → ClassId) (dI : Nat → Nat → Nat) (cI cQ cR : ClassId) (h : Nat → Nat) (x0 x1 x2 x3 x4 x5 x6 x7 x8 x9 x10 : Int) (sh : Int → Int) (gv : Nat → Option Nat) (LP : List Nat) (dp : Nat → va_E) (mi pa : Int → Int) (wr : va_W) (hn : 0 ≤ x1 ∧ x1 ≤ 100000) (hx0 : 0 ≤ x0 ∧ x0 ≤ 200) (hg1 : ∀ k : Int, 0 ≤ k → k < x0 → ∃ (q : Nat) (d : Nat → Int), gv k.toNat = some q ∧ q ∈ LP ∧ dp q = kD d ∧ d 0 = mi k ∧ d 1 = pa k) (hg2 : ∀ k : Int, x0 ≤ k → k < 200 → gv k.toNat = none) (hmi : ∀ k : Int, 0 ≤ k → k < x0 → 0 ≤ mi k ∧ mi k ≤ x1) (hpa : ∀ k : Int, 0 ≤ k → k < x0 → 0 ≤ pa k ∧ pa k ≤ 100000) (hsh : ∀ j : Int, 0 ≤ j → j ≤ 32 → 0 ≤ sh j ∧ sh j ≤ 1000) : Met l yX2_atWorkNow wsX2_atWorkNow ({ frames := 2, cells := 0, slots := 0, locals := 44 }) (kR (dC, dI) vwCl (kT cI cQ cR) [.ref (h 0)] (([(h 0, .inr (2, [.ref (h 1), .ref (h 2), .ref (h 3), .ref (h 4), .ref (h 5), .int (iI (x0)), .int (iI (x1)), .int (iI (x2)), .int (iI (x3)), .int (iI (x4)), .int (iI (x5)), .int (iI (x6)), .int (iI (x7)), .int (iI (x8)), .int (iI (x9)), .int (iI (x10))])), (h 2, .inl (cI, 33, .inl (jA (sh)))), (h 3, .inl (cR, 200, .inr (.inr (.inr (.inr (gv))))))] : va_W) ++ (va_pl LP dp ++ wr))) (kRi (fun z => z = wS x1 mi pa sh x0.toNat)) 0 0 (fun _ => False) := by
  refine k_inR (cc := cX2_atWorkNow) (maxL := 3) (ret := (some .int)) (by decide) rfl (Nat.le_of_ble_eq_true rfl) ?_
  intro p e s m below meth c ls hx hb hr hts hown hml hlocks hP hK hN hl
  have hown : s.vm.findClass RX2 = some m.cls := hown
  have hl : lv_has ls 3 [(0, .ref (h 0))] := hl
  have hiX2 : ∀ w ∈ u_ws RX2 TX2 16, w ∈ wsX2_atWorkNow := by decide +kernel
  refine jz_iconst hx hb dX2_atWorkNow_0 ?_
  refine lv_istore_n (lv' := [(1, .int (iI (0))), (0, .ref (h 0))]) hx hb dX2_atWorkNow_1 rfl hl (by decide) rfl (fun ls hl => ?_)
  refine jz_iconst hx hb dX2_atWorkNow_2 ?_
  refine lv_istore_n (lv' := [(2, .int (iI (0))), (1, .int (iI (0))), (0, .ref (h 0))]) hx hb dX2_atWorkNow_3 rfl hl (by decide) rfl (fun ls hl => ?_)
  have loop4 : ∀ (n : Nat) (k sm : Int) (ls : Array Slot), 200 < k + (n : Int) → (0 ≤ k) → (k ≤ x0) → (sm = wS x1 mi pa sh k.toNat) → lv_has ls 3 [(0, .ref (h 0)), (1, .int (iI (sm))), (2, .int (iI (k)))] → W p l e ({ frames := 2, cells := 0, slots := 0, locals := 44 }) s m ([.ref (h 0)] : List Value).toArray below meth c s.heap [] 0 0 (MQ below (kRi (fun z => z = wS x1 mi pa sh x0.toNat)) ([.ref (h 0)] : List Value).toArray s 0 0 (fun _ => False)) (F0 m 4 ls []) := by
    intro n
    induction n with
    | zero => intro k sm ls hfu g0 g1 hsm hl; exact absurd hfu (by omega)
    | succ n ih =>
      intro k sm ls hfu g0 g1 hsm hl
      refine lv_iload_n hx hb dX2_atWorkNow_4 rfl (lv_at hl 2 rfl) ?_
      refine jz_sipush hx hb dX2_atWorkNow_5 rfl ?_
      refine jz_icmp_ge (tgt := 39) hx hb dX2_atWorkNow_8 (by decide) (by omega) (fun cd8 => ?_) (fun cd8 => ?_)
      · refine lv_iload_n hx hb dX2_atWorkNow_39 rfl (lv_at hl 1 rfl) ?_
        exact jr_i hx hb hr hlocks (by rw [hsm, show k = x0 by omega]) dX2_atWorkNow_40
      · refine lv_aload_n hx hb dX2_atWorkNow_11 rfl (lv_at hl 0 rfl) ?_
        refine va_get (D := (dC, dI)) (ci := 2) (C := RX2) (T := TX2) (N := 16) hx hb hts hiX2 hown hK hP 0 rfl rfl 2 (by decide) (hts (.fieldLink RX2 21 "PumpDesk" "given" "[LPumpDesk$Dose;") (by decide +kernel)) (fun _ h9 => h9) rfl dX2_atWorkNow_12 ?_
        refine lv_iload_n hx hb dX2_atWorkNow_15 rfl (lv_at hl 2 rfl) ?_
        refine jz_aldq hx hb hK hP 2 2 rfl rfl (by omega) dX2_atWorkNow_16 (fun hq => ?_) (fun q1 hq1 => ?_)
        · have hk0 : ¬ k < x0 := fun hlt => by
            obtain ⟨q2, d2, e1, _⟩ := hg1 k (by omega) hlt
            rw [hq] at e1
            cases e1
          refine lv_ifnullN (tgt := 39) hx hb dX2_atWorkNow_17 (by decide) ?_
          refine lv_iload_n hx hb dX2_atWorkNow_39 rfl (lv_at hl 1 rfl) ?_
          exact jr_i hx hb hr hlocks (by rw [hsm, show k = x0 by omega]) dX2_atWorkNow_40
        · have hk0 : k < x0 := by
            rcases (show k < x0 ∨ x0 ≤ k by omega) with e1 | e1
            · exact e1
            · have e2 := hg2 k e1 (by omega)
              rw [hq1] at e2
              cases e2
          obtain ⟨q2, dq1, e1, hmq1, hdq1, f0, f1⟩ := hg1 k (by omega) hk0
          obtain rfl : q1 = q2 := Option.some.inj (hq1.symm.trans e1)
          refine lv_ifnull hx hb dX2_atWorkNow_17 ?_
          refine lv_iload_n hx hb dX2_atWorkNow_20 rfl (lv_at hl 1 rfl) ?_
          refine lv_aload_n hx hb dX2_atWorkNow_21 rfl (lv_at hl 0 rfl) ?_
          refine lv_aload_n hx hb dX2_atWorkNow_22 rfl (lv_at hl 0 rfl) ?_
          refine va_get (D := (dC, dI)) (ci := 2) (C := RX2) (T := TX2) (N := 16) hx hb hts hiX2 hown hK hP 0 rfl rfl 2 (by decide) (hts (.fieldLink RX2 21 "PumpDesk" "given" "[LPumpDesk$Dose;") (by decide +kernel)) (fun _ h9 => h9) rfl dX2_atWorkNow_23 ?_
          refine lv_iload_n hx hb dX2_atWorkNow_26 rfl (lv_at hl 2 rfl) ?_
          refine jz_aldk hx hb hK hP 2 2 rfl rfl (by omega) (hq1) dX2_atWorkNow_27 ?_
          refine kr_i (va_runV (As := [.ref (q1)]) (rest := [.int (iI (sm))]) ⟨hx, hb, hml, hown, hts⟩ (c_X2_atWorkNowOf l dC dI cI cQ cR h (x0) (x1) (x2) (x3) (x4) (x5) (x6) (x7) (x8) (x9) (x10) (sh) q1 dq1 (by omega) (by have := hmi k (by omega) hk0; omega) (by have := hpa k (by omega) hk0; omega) hsh) (cwV 1 hts gX2_atWorkNow_X2_atWorkNowOf rfl rfl rfl (by decide +kernel) ⟨Nat.le_of_ble_eq_true rfl, Nat.le_of_ble_eq_true rfl⟩) (kR_V hK hN ((hP.sub (ws' := ([(h 0, .inr (2, [.ref (h 1), .ref (h 2), .ref (h 3), .ref (h 4), .ref (h 5), .int (iI (x0)), .int (iI (x1)), .int (iI (x2)), .int (iI (x3)), .int (iI (x4)), .int (iI (x5)), .int (iI (x6)), .int (iI (x7)), .int (iI (x8)), .int (iI (x9)), .int (iI (x10))])), (h 2, .inl (cI, 33, .inl (jA (sh))))] : va_W)) [0, 1] rfl).app (k_Ppl hP hmq1 hdq1)) hK hP (q0 := 0) rfl rfl) rfl rfl hl.1 rfl (lv_room (Nat.le_of_ble_eq_true rfl)) dX2_atWorkNow_28 ⟨Nat.le_of_ble_eq_true rfl, Nat.le_of_ble_eq_true rfl⟩) (fun z2 hz2 => ?_)
          refine jz_iadd hx hb dX2_atWorkNow_31 ?_
          refine lv_istore_n (lv' := [(1, .int (iI ((sm + z2)))), (0, .ref (h 0)), (2, .int (iI (k)))]) hx hb dX2_atWorkNow_32 rfl hl (by decide) rfl (fun ls hl => ?_)
          refine lv_iinc (v := iI ((k + 1))) (lv' := [(2, .int (iI ((k + 1)))), (1, .int (iI ((sm + z2)))), (0, .ref (h 0))]) hx hb dX2_atWorkNow_33 hl (k := 2) rfl (iI_add _ _) (by decide) rfl (fun ls hl => ?_)
          refine lv_goto (tgt := 4) hx hb dX2_atWorkNow_36 (by decide) ?_
          exact ih (k + 1) ((sm + z2)) ls (by omega) (by omega) (by omega) (by have e9 : ((k.toNat : Nat) : Int) = k := Int.toNat_of_nonneg (by omega); rw [show (k + 1).toNat = k.toNat + 1 by omega, show wS x1 mi pa sh (k.toNat + 1) = wS x1 mi pa sh k.toNat + (if (x1 - mi (k.toNat : Int)) / 15 ≤ 32 then pa (k.toNat : Int) * sh ((x1 - mi (k.toNat : Int)) / 15) / 1000 else 0) from rfl, e9, ← hsm, hz2, f0, f1]) (lv_sub hl [2, 1, 0] rfl)
  exact loop4 201 0 0 ls (by omega) (by omega) (by omega) (rfl) (lv_sub hl [2, 1, 0] rfl)

set_option maxHeartbeats 4000000 in
set_option maxRecDepth 100000 in
theorem c_X2_correctionNow (l : Launch) (dC : Nat → ClassId) (dI : Nat → Nat → Nat) (cI cQ cR : ClassId) (h : Nat → Nat) (x0 x1 x2 x3 x4 x5 x6 x7 x8 x9 x10 : Int) (pf : Nat → Option Nat) (cs : Nat → Int) (sts vas : Nat → Int → Int) (vv : Nat → Int) (a : Int) (ha : 0 ≤ a ∧ a ≤ 20000000) (hn : 0 ≤ x1 ∧ x1 ≤ 100000) (hx9 : x9 = -1 ∨ (1 ≤ x9 ∧ x9 ≤ 1000)) (hx10 : -1 ≤ x10 ∧ x10 ≤ 100000) (hpf : ∀ i : Nat, i < 5 → pf i = some (h (6 + i))) (hcs : ∀ i : Nat, i < 5 → 0 ≤ cs i ∧ cs i ≤ 8) (hrs : ∀ (i : Nat) (j : Int), -2147483648 ≤ sts i j ∧ sts i j ≤ 2147483647) (hrv : ∀ (i : Nat) (j : Int), -2147483648 ≤ vas i j ∧ vas i j ≤ 2147483647) (hV : ∀ i : Nat, i < 4 → ∃ k : Int, (0 ≤ k ∧ k ≤ cs i ∧ (∀ j : Int, 0 ≤ j → j < k → sts i j ≤ (x1 % 1440)) ∧ (k < cs i → (x1 % 1440) < sts i k)) ∧ ((cs i = 0 ∧ vv i = vw i) ∨ (¬ cs i = 0 ∧ k = 0 ∧ vv i = vas i (cs i - 1)) ∨ (¬ cs i = 0 ∧ ¬ k = 0 ∧ vv i = vas i (k - 1)))) (hvb : ∀ i : Nat, i < 4 → 1 ≤ vv i ∧ vv i ≤ 1000) : Met l yX2_correctionNow wsX2_correctionNow ({ frames := 3, cells := 0, slots := 0, locals := 64 }) (kR (dC, dI) vwCl (kT cI cQ cR) [.ref (h 0), .int (iI (a))] (([(h 0, .inr (2, [.ref (h 1), .ref (h 2), .ref (h 3), .ref (h 4), .ref (h 5), .int (iI (x0)), .int (iI (x1)), .int (iI (x2)), .int (iI (x3)), .int (iI (x4)), .int (iI (x5)), .int (iI (x6)), .int (iI (x7)), .int (iI (x8)), .int (iI (x9)), .int (iI (x10))])), (h 1, .inl (cQ, 5, .inr (.inr (.inr (.inr (pf)))))), (h 6, .inr (1, [.ref (h 11), .ref (h 12), .int (iI (10)), .int (iI (cs 0))])), (h 7, .inr (1, [.ref (h 13), .ref (h 14), .int (iI (50)), .int (iI (cs 1))])), (h 8, .inr (1, [.ref (h 15), .ref (h 16), .int (iI (100)), .int (iI (cs 2))])), (h 9, .inr (1, [.ref (h 17), .ref (h 18), .int (iI (120)), .int (iI (cs 3))])), (h 11, .inl (cI, 8, .inl (jA (sts 0)))), (h 12, .inl (cI, 8, .inl (jA (vas 0)))), (h 13, .inl (cI, 8, .inl (jA (sts 1)))), (h 14, .inl (cI, 8, .inl (jA (vas 1)))), (h 15, .inl (cI, 8, .inl (jA (sts 2)))), (h 16, .inl (cI, 8, .inl (jA (vas 2)))), (h 17, .inl (cI, 8, .inl (jA (sts 3)))), (h 18, .inl (cI, 8, .inl (jA (vas 3))))] : va_W))) (kRi (fun z => (((¬ (¬ x9 = -1 ∧ x1 - x10 ≤ 15) ∧ z = 0) ∨ ((¬ x9 = -1 ∧ x1 - x10 ≤ 15) ∧ vv 3 < x9 ∧ ((0 ≤ (x9 - vv 3) * 1000 / vv 1 - a ∧ z = (x9 - vv 3) * 1000 / vv 1 - a) ∨ ((x9 - vv 3) * 1000 / vv 1 - a < 0 ∧ z = 0))) ∨ ((¬ x9 = -1 ∧ x1 - x10 ≤ 15) ∧ x9 ≤ vv 3 ∧ x9 < vv 2 ∧ z = (-(vv 2 - x9)) * 1000 / vv 1) ∨ ((¬ x9 = -1 ∧ x1 - x10 ≤ 15) ∧ x9 ≤ vv 3 ∧ vv 2 ≤ x9 ∧ z = 0))) ∧ -1000001 ≤ z ∧ z ≤ 1000000)) 0 0 (fun _ => False) := by
  refine k_inR (cc := cX2_correctionNow) (maxL := 5) (ret := (some .int)) (by decide) rfl (Nat.le_of_ble_eq_true rfl) ?_
  intro p e s m below meth c ls hx hb hr hts hown hml hlocks hP hK hN hl
  have hown : s.vm.findClass RX2 = some m.cls := hown
  have hl : lv_has ls 5 [(0, .ref (h 0)), (1, .int (iI (a)))] := hl
  have hiX2 : ∀ w ∈ u_ws RX2 TX2 16, w ∈ wsX2_correctionNow := by decide +kernel
  have hb0 := hvb 0 (by decide)
  have hb1 := hvb 1 (by decide)
  have hb2 := hvb 2 (by decide)
  have hb3 := hvb 3 (by decide)
  refine lv_aload_n hx hb dX2_correctionNow_0 rfl (lv_at hl 0 rfl) ?_
  refine kr_i (va_runV (As := []) (rest := []) ⟨hx, hb, hml, hown, hts⟩ (c_X2_hasFreshReading l dC dI cI cQ cR h (x0) (x1) (x2) (x3) (x4) (x5) (x6) (x7) (x8) (x9) (x10) (by omega) (by omega) (by omega)) (cwV 0 hts gX2_correctionNow_X2_hasFreshReading rfl rfl rfl (by decide +kernel) ⟨Nat.le_of_ble_eq_true rfl, Nat.le_of_ble_eq_true rfl⟩) (kR_V hK hN (hP.sub (ws' := ([(h 0, .inr (2, [.ref (h 1), .ref (h 2), .ref (h 3), .ref (h 4), .ref (h 5), .int (iI (x0)), .int (iI (x1)), .int (iI (x2)), .int (iI (x3)), .int (iI (x4)), .int (iI (x5)), .int (iI (x6)), .int (iI (x7)), .int (iI (x8)), .int (iI (x9)), .int (iI (x10))]))] : va_W)) [0] rfl) hK hP (q0 := 0) rfl rfl) rfl rfl hl.1 rfl (lv_room (Nat.le_of_ble_eq_true rfl)) dX2_correctionNow_1 ⟨Nat.le_of_ble_eq_true rfl, Nat.le_of_ble_eq_true rfl⟩) (fun z1 hz1 => ?_)
  refine jz_if_ne (tgt := 9) hx hb dX2_correctionNow_4 (by decide) (by omega) (fun cd4 => ?_) (fun cd4 => ?_)
  · refine lv_aload_n hx hb dX2_correctionNow_9 rfl (lv_at hl 0 rfl) ?_
    refine va_get (D := (dC, dI)) (ci := 2) (C := RX2) (T := TX2) (N := 16) hx hb hts hiX2 hown hK hP 0 rfl rfl 14 (by decide) (hts (.fieldLink RX2 61 "PumpDesk" "lastValue" "I") (by decide +kernel)) (fun _ h9 => h9) rfl dX2_correctionNow_10 ?_
    refine lv_aload_n hx hb dX2_correctionNow_13 rfl (lv_at hl 0 rfl) ?_
    refine jz_iconst hx hb dX2_correctionNow_14 ?_
    refine kr_i (va_runV (As := [.int (iI (3))]) (rest := [.int (iI (x9))]) ⟨hx, hb, hml, hown, hts⟩ (c_X2_valueNow l dC dI cI cQ cR h (x0) (x1) (x2) (x3) (x4) (x5) (x6) (x7) (x8) (x9) (x10) pf cs sts vas vv (3) (by omega) (by omega) hpf hcs hrs hrv hV) (cwV 1 hts gX2_correctionNow_X2_valueNow rfl rfl rfl (by decide +kernel) ⟨Nat.le_of_ble_eq_true rfl, Nat.le_of_ble_eq_true rfl⟩) (kR_V hK hN (hP.sub (ws' := ([(h 0, .inr (2, [.ref (h 1), .ref (h 2), .ref (h 3), .ref (h 4), .ref (h 5), .int (iI (x0)), .int (iI (x1)), .int (iI (x2)), .int (iI (x3)), .int (iI (x4)), .int (iI (x5)), .int (iI (x6)), .int (iI (x7)), .int (iI (x8)), .int (iI (x9)), .int (iI (x10))])), (h 1, .inl (cQ, 5, .inr (.inr (.inr (.inr (pf)))))), (h 6, .inr (1, [.ref (h 11), .ref (h 12), .int (iI (10)), .int (iI (cs 0))])), (h 7, .inr (1, [.ref (h 13), .ref (h 14), .int (iI (50)), .int (iI (cs 1))])), (h 8, .inr (1, [.ref (h 15), .ref (h 16), .int (iI (100)), .int (iI (cs 2))])), (h 9, .inr (1, [.ref (h 17), .ref (h 18), .int (iI (120)), .int (iI (cs 3))])), (h 11, .inl (cI, 8, .inl (jA (sts 0)))), (h 12, .inl (cI, 8, .inl (jA (vas 0)))), (h 13, .inl (cI, 8, .inl (jA (sts 1)))), (h 14, .inl (cI, 8, .inl (jA (vas 1)))), (h 15, .inl (cI, 8, .inl (jA (sts 2)))), (h 16, .inl (cI, 8, .inl (jA (vas 2)))), (h 17, .inl (cI, 8, .inl (jA (sts 3)))), (h 18, .inl (cI, 8, .inl (jA (vas 3))))] : va_W)) [0, 1, 2, 3, 4, 5, 6, 7, 8, 9, 10, 11, 12, 13] rfl) hK hP (q0 := 0) rfl rfl) rfl rfl hl.1 rfl (lv_room (Nat.le_of_ble_eq_true rfl)) dX2_correctionNow_15 ⟨Nat.le_of_ble_eq_true rfl, Nat.le_of_ble_eq_true rfl⟩) (fun z2 hz2 => ?_)
    obtain rfl : z2 = vv 3 := hz2
    refine jz_isub hx hb dX2_correctionNow_18 ?_
    refine lv_istore_n (lv' := [(2, .int (iI ((x9 - vv 3)))), (0, .ref (h 0)), (1, .int (iI (a)))]) hx hb dX2_correctionNow_19 rfl hl (by decide) rfl (fun ls hl => ?_)
    refine lv_aload_n hx hb dX2_correctionNow_20 rfl (lv_at hl 1 rfl) ?_
    refine jz_iconst hx hb dX2_correctionNow_21 ?_
    refine kr_i (va_runV (As := [.int (iI (2))]) (rest := []) ⟨hx, hb, hml, hown, hts⟩ (c_X2_valueNow l dC dI cI cQ cR h (x0) (x1) (x2) (x3) (x4) (x5) (x6) (x7) (x8) (x9) (x10) pf cs sts vas vv (2) (by omega) (by omega) hpf hcs hrs hrv hV) (cwV 1 hts gX2_correctionNow_X2_valueNow rfl rfl rfl (by decide +kernel) ⟨Nat.le_of_ble_eq_true rfl, Nat.le_of_ble_eq_true rfl⟩) (kR_V hK hN (hP.sub (ws' := ([(h 0, .inr (2, [.ref (h 1), .ref (h 2), .ref (h 3), .ref (h 4), .ref (h 5), .int (iI (x0)), .int (iI (x1)), .int (iI (x2)), .int (iI (x3)), .int (iI (x4)), .int (iI (x5)), .int (iI (x6)), .int (iI (x7)), .int (iI (x8)), .int (iI (x9)), .int (iI (x10))])), (h 1, .inl (cQ, 5, .inr (.inr (.inr (.inr (pf)))))), (h 6, .inr (1, [.ref (h 11), .ref (h 12), .int (iI (10)), .int (iI (cs 0))])), (h 7, .inr (1, [.ref (h 13), .ref (h 14), .int (iI (50)), .int (iI (cs 1))])), (h 8, .inr (1, [.ref (h 15), .ref (h 16), .int (iI (100)), .int (iI (cs 2))])), (h 9, .inr (1, [.ref (h 17), .ref (h 18), .int (iI (120)), .int (iI (cs 3))])), (h 11, .inl (cI, 8, .inl (jA (sts 0)))), (h 12, .inl (cI, 8, .inl (jA (vas 0)))), (h 13, .inl (cI, 8, .inl (jA (sts 1)))), (h 14, .inl (cI, 8, .inl (jA (vas 1)))), (h 15, .inl (cI, 8, .inl (jA (sts 2)))), (h 16, .inl (cI, 8, .inl (jA (vas 2)))), (h 17, .inl (cI, 8, .inl (jA (sts 3)))), (h 18, .inl (cI, 8, .inl (jA (vas 3))))] : va_W)) [0, 1, 2, 3, 4, 5, 6, 7, 8, 9, 10, 11, 12, 13] rfl) hK hP (q0 := 0) rfl rfl) rfl rfl hl.1 rfl (lv_room (Nat.le_of_ble_eq_true rfl)) dX2_correctionNow_22 ⟨Nat.le_of_ble_eq_true rfl, Nat.le_of_ble_eq_true rfl⟩) (fun z3 hz3 => ?_)
    obtain rfl : z3 = vv 2 := hz3
    refine lv_aload_n hx hb dX2_correctionNow_25 rfl (lv_at hl 1 rfl) ?_
    refine va_get (D := (dC, dI)) (ci := 2) (C := RX2) (T := TX2) (N := 16) hx hb hts hiX2 hown hK hP 0 rfl rfl 14 (by decide) (hts (.fieldLink RX2 61 "PumpDesk" "lastValue" "I") (by decide +kernel)) (fun _ h9 => h9) rfl dX2_correctionNow_26 ?_
    refine jz_isub hx hb dX2_correctionNow_29 ?_
    refine lv_istore_n (lv' := [(3, .int (iI ((vv 2 - x9)))), (2, .int (iI ((x9 - vv 3)))), (0, .ref (h 0)), (1, .int (iI (a)))]) hx hb dX2_correctionNow_30 rfl hl (by decide) rfl (fun ls hl => ?_)
    refine lv_aload_n hx hb dX2_correctionNow_31 rfl (lv_at hl 2 rfl) ?_
    refine jz_iconst hx hb dX2_correctionNow_32 ?_
    refine kr_i (va_runV (As := [.int (iI (1))]) (rest := []) ⟨hx, hb, hml, hown, hts⟩ (c_X2_valueNow l dC dI cI cQ cR h (x0) (x1) (x2) (x3) (x4) (x5) (x6) (x7) (x8) (x9) (x10) pf cs sts vas vv (1) (by omega) (by omega) hpf hcs hrs hrv hV) (cwV 1 hts gX2_correctionNow_X2_valueNow rfl rfl rfl (by decide +kernel) ⟨Nat.le_of_ble_eq_true rfl, Nat.le_of_ble_eq_true rfl⟩) (kR_V hK hN (hP.sub (ws' := ([(h 0, .inr (2, [.ref (h 1), .ref (h 2), .ref (h 3), .ref (h 4), .ref (h 5), .int (iI (x0)), .int (iI (x1)), .int (iI (x2)), .int (iI (x3)), .int (iI (x4)), .int (iI (x5)), .int (iI (x6)), .int (iI (x7)), .int (iI (x8)), .int (iI (x9)), .int (iI (x10))])), (h 1, .inl (cQ, 5, .inr (.inr (.inr (.inr (pf)))))), (h 6, .inr (1, [.ref (h 11), .ref (h 12), .int (iI (10)), .int (iI (cs 0))])), (h 7, .inr (1, [.ref (h 13), .ref (h 14), .int (iI (50)), .int (iI (cs 1))])), (h 8, .inr (1, [.ref (h 15), .ref (h 16), .int (iI (100)), .int (iI (cs 2))])), (h 9, .inr (1, [.ref (h 17), .ref (h 18), .int (iI (120)), .int (iI (cs 3))])), (h 11, .inl (cI, 8, .inl (jA (sts 0)))), (h 12, .inl (cI, 8, .inl (jA (vas 0)))), (h 13, .inl (cI, 8, .inl (jA (sts 1)))), (h 14, .inl (cI, 8, .inl (jA (vas 1)))), (h 15, .inl (cI, 8, .inl (jA (sts 2)))), (h 16, .inl (cI, 8, .inl (jA (vas 2)))), (h 17, .inl (cI, 8, .inl (jA (sts 3)))), (h 18, .inl (cI, 8, .inl (jA (vas 3))))] : va_W)) [0, 1, 2, 3, 4, 5, 6, 7, 8, 9, 10, 11, 12, 13] rfl) hK hP (q0 := 0) rfl rfl) rfl rfl hl.1 rfl (lv_room (Nat.le_of_ble_eq_true rfl)) dX2_correctionNow_33 ⟨Nat.le_of_ble_eq_true rfl, Nat.le_of_ble_eq_true rfl⟩) (fun z4 hz4 => ?_)
    obtain rfl : z4 = vv 1 := hz4
    refine lv_istore (lv' := [(4, .int (iI (vv 1))), (3, .int (iI ((vv 2 - x9)))), (2, .int (iI ((x9 - vv 3)))), (0, .ref (h 0)), (1, .int (iI (a)))]) hx hb dX2_correctionNow_36 hl (by decide) rfl (fun ls hl => ?_)
    refine lv_iload_n hx hb dX2_correctionNow_38 rfl (lv_at hl 2 rfl) ?_
    refine jz_if_le (tgt := 55) hx hb dX2_correctionNow_39 (by decide) (by omega) (fun cd39 => ?_) (fun cd39 => ?_)
    · refine lv_iload_n hx hb dX2_correctionNow_55 rfl (lv_at hl 1 rfl) ?_
      refine jz_if_le (tgt := 69) hx hb dX2_correctionNow_56 (by decide) (by omega) (fun cd56 => ?_) (fun cd56 => ?_)
      · refine jz_iconst hx hb dX2_correctionNow_69 ?_
        exact jr_i hx hb hr hlocks (by omega) dX2_correctionNow_70
      · refine lv_iload_n hx hb dX2_correctionNow_59 rfl (lv_at hl 1 rfl) ?_
        refine jz_ineg hx hb dX2_correctionNow_60 ?_
        refine lv_iload hx hb dX2_correctionNow_61 (lv_at hl 0 rfl) ?_
        refine kr_i (va_runS (As := [.int (iI ((-(vv 2 - x9)))), .int (iI (vv 1))]) (rest := []) ⟨hx, hb, hml, hown, hts⟩ (c_X2_partsFor l dC dI cI cQ cR ((-(vv 2 - x9))) (vv 1) (by omega) (by omega)) (va_cwS 2 hts gX2_correctionNow_X2_partsFor rfl rfl rfl (by decide +kernel) ⟨Nat.le_of_ble_eq_true rfl, Nat.le_of_ble_eq_true rfl⟩) (kR_S hK hN k_P0) rfl rfl hl.1 rfl (lv_room (Nat.le_of_ble_eq_true rfl)) dX2_correctionNow_63 ⟨Nat.le_of_ble_eq_true rfl, Nat.le_of_ble_eq_true rfl⟩) (fun z5 hz5 => ?_)
        refine lv_goto (tgt := 70) hx hb dX2_correctionNow_66 (by decide) ?_
        exact jr_i hx hb hr hlocks (by omega) dX2_correctionNow_70
    · refine jz_iconst hx hb dX2_correctionNow_42 ?_
      refine lv_iload_n hx hb dX2_correctionNow_43 rfl (lv_at hl 2 rfl) ?_
      refine lv_iload hx hb dX2_correctionNow_44 (lv_at hl 0 rfl) ?_
      refine kr_i (va_runS (As := [.int (iI ((x9 - vv 3))), .int (iI (vv 1))]) (rest := [.int (iI (0))]) ⟨hx, hb, hml, hown, hts⟩ (c_X2_partsFor l dC dI cI cQ cR ((x9 - vv 3)) (vv 1) (by omega) (by omega)) (va_cwS 2 hts gX2_correctionNow_X2_partsFor rfl rfl rfl (by decide +kernel) ⟨Nat.le_of_ble_eq_true rfl, Nat.le_of_ble_eq_true rfl⟩) (kR_S hK hN k_P0) rfl rfl hl.1 rfl (lv_room (Nat.le_of_ble_eq_true rfl)) dX2_correctionNow_46 ⟨Nat.le_of_ble_eq_true rfl, Nat.le_of_ble_eq_true rfl⟩) (fun z6 hz6 => ?_)
      refine lv_iload_n hx hb dX2_correctionNow_49 rfl (lv_at hl 4 rfl) ?_
      refine jz_isub hx hb dX2_correctionNow_50 ?_
      refine jz_mmax hx hb (hml.trans hl.1.symm) hown (hts (.methodLink RX2 73 Lib.Math.max.name) (by decide +kernel)) (hts (.static Lib.Math.max.name) (by decide +kernel)) (hts (.initialized "java/lang/Math") (by decide +kernel)) (hts (.code Lib.Math.max.name Lib.Math.max.code 2 (some .int)) (by decide +kernel)) (Nat.le_of_ble_eq_true rfl) (Nat.le_of_ble_eq_true rfl) (Nat.le_of_ble_eq_true rfl) (Nat.le_of_ble_eq_true rfl) (by omega) dX2_correctionNow_51 (fun z7 hz7 => ?_)
      exact jr_i hx hb hr hlocks (by omega) dX2_correctionNow_54
  · refine jz_iconst hx hb dX2_correctionNow_7 ?_
    exact jr_i hx hb hr hlocks (by omega) dX2_correctionNow_8

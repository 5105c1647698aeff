set_option maxHeartbeats 4000000 in
set_option maxRecDepth 100000 in
theorem c_X2_isWithin (l : Launch) (dC : Nat → ClassId) (dI : Nat → Nat → Nat) (cI cQ cR : ClassId) (a b d : Int) (ra : -2147483648 ≤ a ∧ a ≤ 2147483647) (rb : -2147483648 ≤ b ∧ b ≤ 2147483647) (rd : -2147483648 ≤ d ∧ d ≤ 2147483647) : Met l yX2_isWithin wsX2_isWithin ({ frames := 0, cells := 0, slots := 0, locals := 0 }) (kR (dC, dI) vwCl (kT cI cQ cR) [.int (iI (a)), .int (iI (b)), .int (iI (d))] ([])) (kRi (fun z => (z = 1 ∧ (b ≤ a ∧ a ≤ d)) ∨ (z = 0 ∧ ¬ (b ≤ a ∧ a ≤ d)))) 0 0 (fun _ => False) := by
  refine k_inR (cc := cX2_isWithin) (maxL := 3) (ret := (some .boolean)) (by decide) rfl (Nat.le_of_ble_eq_true rfl) ?_
  intro p e s m below meth c ls hx hb hr hts hown hml hlocks hP hK hN hl
  have hown : s.vm.findClass RX2 = some m.cls := hown
  have hl : lv_has ls 3 [(0, .int (iI (a))), (1, .int (iI (b))), (2, .int (iI (d)))] := hl
  refine lv_iload_n hx hb dX2_isWithin_0 rfl (lv_at hl 0 rfl) ?_
  refine lv_iload_n hx hb dX2_isWithin_1 rfl (lv_at hl 1 rfl) ?_
  refine jz_icmp_lt (tgt := 14) hx hb dX2_isWithin_2 (by decide) (by omega) (fun cd2 => ?_) (fun cd2 => ?_)
  · refine jz_iconst hx hb dX2_isWithin_14 ?_
    exact jr_z hx hb hr hlocks (by omega) (by omega) dX2_isWithin_15
  · refine lv_iload_n hx hb dX2_isWithin_5 rfl (lv_at hl 0 rfl) ?_
    refine lv_iload_n hx hb dX2_isWithin_6 rfl (lv_at hl 2 rfl) ?_
    refine jz_icmp_gt (tgt := 14) hx hb dX2_isWithin_7 (by decide) (by omega) (fun cd7 => ?_) (fun cd7 => ?_)
    · refine jz_iconst hx hb dX2_isWithin_14 ?_
      exact jr_z hx hb hr hlocks (by omega) (by omega) dX2_isWithin_15
    · refine jz_iconst hx hb dX2_isWithin_10 ?_
      refine lv_goto (tgt := 15) hx hb dX2_isWithin_11 (by decide) ?_
      exact jr_z hx hb hr hlocks (by omega) (by omega) dX2_isWithin_15

set_option maxHeartbeats 4000000 in
set_option maxRecDepth 100000 in
theorem c_X2_isKind (l : Launch) (dC : Nat → ClassId) (dI : Nat → Nat → Nat) (cI cQ cR : ClassId) (a : Int) (ra : -2147483648 ≤ a ∧ a ≤ 2147483647) : Met l yX2_isKind wsX2_isKind ({ frames := 1, cells := 0, slots := 0, locals := 22 }) (kR (dC, dI) vwCl (kT cI cQ cR) [.int (iI (a))] ([])) (kRi (fun z => (z = 1 ∧ (0 ≤ a ∧ a ≤ 4)) ∨ (z = 0 ∧ ¬ (0 ≤ a ∧ a ≤ 4)))) 0 0 (fun _ => False) := by
  refine k_inR (cc := cX2_isKind) (maxL := 1) (ret := (some .boolean)) (by decide) rfl (Nat.le_of_ble_eq_true rfl) ?_
  intro p e s m below meth c ls hx hb hr hts hown hml hlocks hP hK hN hl
  have hown : s.vm.findClass RX2 = some m.cls := hown
  have hl : lv_has ls 1 [(0, .int (iI (a)))] := hl
  refine lv_iload_n hx hb dX2_isKind_0 rfl (lv_at hl 0 rfl) ?_
  refine jz_iconst hx hb dX2_isKind_1 ?_
  refine jz_iconst hx hb dX2_isKind_2 ?_
  refine kr_i (va_runS (As := [.int (iI (a)), .int (iI (0)), .int (iI (4))]) (rest := []) ⟨hx, hb, hml, hown, hts⟩ (c_X2_isWithin l dC dI cI cQ cR (a) (0) (4) (by omega) (by omega) (by omega)) (va_cwS 3 hts gX2_isKind_X2_isWithin rfl rfl rfl (by decide +kernel) ⟨Nat.le_of_ble_eq_true rfl, Nat.le_of_ble_eq_true rfl⟩) (kR_S hK hN k_P0) rfl rfl hl.1 rfl (lv_room (Nat.le_of_ble_eq_true rfl)) dX2_isKind_3 ⟨Nat.le_of_ble_eq_true rfl, Nat.le_of_ble_eq_true rfl⟩) (fun z1 hz1 => ?_)
  exact jr_z hx hb hr hlocks (by omega) (by omega) dX2_isKind_6

set_option maxHeartbeats 4000000 in
set_option maxRecDepth 100000 in
theorem c_X2_isMinuteOfDay (l : Launch) (dC : Nat → ClassId) (dI : Nat → Nat → Nat) (cI cQ cR : ClassId) (a : Int) (ra : -2147483648 ≤ a ∧ a ≤ 2147483647) : Met l yX2_isMinuteOfDay wsX2_isMinuteOfDay ({ frames := 1, cells := 0, slots := 0, locals := 22 }) (kR (dC, dI) vwCl (kT cI cQ cR) [.int (iI (a))] ([])) (kRi (fun z => (z = 1 ∧ (0 ≤ a ∧ a ≤ 1439)) ∨ (z = 0 ∧ ¬ (0 ≤ a ∧ a ≤ 1439)))) 0 0 (fun _ => False) := by
  refine k_inR (cc := cX2_isMinuteOfDay) (maxL := 1) (ret := (some .boolean)) (by decide) rfl (Nat.le_of_ble_eq_true rfl) ?_
  intro p e s m below meth c ls hx hb hr hts hown hml hlocks hP hK hN hl
  have hown : s.vm.findClass RX2 = some m.cls := hown
  have hl : lv_has ls 1 [(0, .int (iI (a)))] := hl
  refine lv_iload_n hx hb dX2_isMinuteOfDay_0 rfl (lv_at hl 0 rfl) ?_
  refine jz_iconst hx hb dX2_isMinuteOfDay_1 ?_
  refine jz_sipush hx hb dX2_isMinuteOfDay_2 rfl ?_
  refine kr_i (va_runS (As := [.int (iI (a)), .int (iI (0)), .int (iI (1439))]) (rest := []) ⟨hx, hb, hml, hown, hts⟩ (c_X2_isWithin l dC dI cI cQ cR (a) (0) (1439) (by omega) (by omega) (by omega)) (va_cwS 3 hts gX2_isMinuteOfDay_X2_isWithin rfl rfl rfl (by decide +kernel) ⟨Nat.le_of_ble_eq_true rfl, Nat.le_of_ble_eq_true rfl⟩) (kR_S hK hN k_P0) rfl rfl hl.1 rfl (lv_room (Nat.le_of_ble_eq_true rfl)) dX2_isMinuteOfDay_5 ⟨Nat.le_of_ble_eq_true rfl, Nat.le_of_ble_eq_true rfl⟩) (fun z1 hz1 => ?_)
  exact jr_z hx hb hr hlocks (by omega) (by omega) dX2_isMinuteOfDay_8

set_option maxHeartbeats 4000000 in
set_option maxRecDepth 100000 in
theorem c_X2_now (l : Launch) (dC : Nat → ClassId) (dI : Nat → Nat → Nat) (cI cQ cR : ClassId) (h : Nat → Nat) (x0 x1 x2 x3 x4 x5 x6 x7 x8 x9 x10 : Int)  : Met l yX2_now wsX2_now ({ frames := 0, cells := 0, slots := 0, locals := 0 }) (kR (dC, dI) vwCl (kT cI cQ cR) [.ref (h 0)] (([(h 0, .inr (2, [.ref (h 1), .ref (h 2), .ref (h 3), .ref (h 4), .ref (h 5), .int (iI (x0)), .int (iI (x1)), .int (iI (x2)), .int (iI (x3)), .int (iI (x4)), .int (iI (x5)), .int (iI (x6)), .int (iI (x7)), .int (iI (x8)), .int (iI (x9)), .int (iI (x10))]))] : va_W))) (kRi (fun z => z = x1)) 0 0 (fun _ => False) := by
  refine k_inR (cc := cX2_now) (maxL := 1) (ret := (some .int)) (by decide) rfl (Nat.le_of_ble_eq_true rfl) ?_
  intro p e s m below meth c ls hx hb hr hts hown hml hlocks hP hK hN hl
  have hown : s.vm.findClass RX2 = some m.cls := hown
  have hl : lv_has ls 1 [(0, .ref (h 0))] := hl
  have hiX2 : ∀ w ∈ u_ws RX2 TX2 16, w ∈ wsX2_now := by decide +kernel
  refine lv_aload_n hx hb dX2_now_0 rfl (lv_at hl 0 rfl) ?_
  refine va_get (D := (dC, dI)) (ci := 2) (C := RX2) (T := TX2) (N := 16) hx hb hts hiX2 hown hK hP 0 rfl rfl 6 (by decide) (hts (.fieldLink RX2 35 "PumpDesk" "now" "I") (by decide +kernel)) (fun _ h9 => h9) rfl dX2_now_1 ?_
  exact jr_i hx hb hr hlocks (rfl) dX2_now_4

set_option maxHeartbeats 4000000 in
set_option maxRecDepth 100000 in
theorem c_X2_ticks (l : Launch) (dC : Nat → ClassId) (dI : Nat → Nat → Nat) (cI cQ cR : ClassId) (h : Nat → Nat) (x0 x1 x2 x3 x4 x5 x6 x7 x8 x9 x10 : Int)  : Met l yX2_ticks wsX2_ticks ({ frames := 0, cells := 0, slots := 0, locals := 0 }) (kR (dC, dI) vwCl (kT cI cQ cR) [.ref (h 0)] (([(h 0, .inr (2, [.ref (h 1), .ref (h 2), .ref (h 3), .ref (h 4), .ref (h 5), .int (iI (x0)), .int (iI (x1)), .int (iI (x2)), .int (iI (x3)), .int (iI (x4)), .int (iI (x5)), .int (iI (x6)), .int (iI (x7)), .int (iI (x8)), .int (iI (x9)), .int (iI (x10))]))] : va_W))) (kRi (fun z => z = x8)) 0 0 (fun _ => False) := by
  refine k_inR (cc := cX2_ticks) (maxL := 1) (ret := (some .int)) (by decide) rfl (Nat.le_of_ble_eq_true rfl) ?_
  intro p e s m below meth c ls hx hb hr hts hown hml hlocks hP hK hN hl
  have hown : s.vm.findClass RX2 = some m.cls := hown
  have hl : lv_has ls 1 [(0, .ref (h 0))] := hl
  have hiX2 : ∀ w ∈ u_ws RX2 TX2 16, w ∈ wsX2_ticks := by decide +kernel
  refine lv_aload_n hx hb dX2_ticks_0 rfl (lv_at hl 0 rfl) ?_
  refine va_get (D := (dC, dI)) (ci := 2) (C := RX2) (T := TX2) (N := 16) hx hb hts hiX2 hown hK hP 0 rfl rfl 13 (by decide) (hts (.fieldLink RX2 58 "PumpDesk" "ticks" "I") (by decide +kernel)) (fun _ h9 => h9) rfl dX2_ticks_1 ?_
  exact jr_i hx hb hr hlocks (rfl) dX2_ticks_4

set_option maxHeartbeats 4000000 in
set_option maxRecDepth 100000 in
theorem c_X2_doses (l : Launch) (dC : Nat → ClassId) (dI : Nat → Nat → Nat) (cI cQ cR : ClassId) (h : Nat → Nat) (x0 x1 x2 x3 x4 x5 x6 x7 x8 x9 x10 : Int)  : Met l yX2_doses wsX2_doses ({ frames := 0, cells := 0, slots := 0, locals := 0 }) (kR (dC, dI) vwCl (kT cI cQ cR) [.ref (h 0)] (([(h 0, .inr (2, [.ref (h 1), .ref (h 2), .ref (h 3), .ref (h 4), .ref (h 5), .int (iI (x0)), .int (iI (x1)), .int (iI (x2)), .int (iI (x3)), .int (iI (x4)), .int (iI (x5)), .int (iI (x6)), .int (iI (x7)), .int (iI (x8)), .int (iI (x9)), .int (iI (x10))]))] : va_W))) (kRi (fun z => z = x0)) 0 0 (fun _ => False) := by
  refine k_inR (cc := cX2_doses) (maxL := 1) (ret := (some .int)) (by decide) rfl (Nat.le_of_ble_eq_true rfl) ?_
  intro p e s m below meth c ls hx hb hr hts hown hml hlocks hP hK hN hl
  have hown : s.vm.findClass RX2 = some m.cls := hown
  have hl : lv_has ls 1 [(0, .ref (h 0))] := hl
  have hiX2 : ∀ w ∈ u_ws RX2 TX2 16, w ∈ wsX2_doses := by decide +kernel
  refine lv_aload_n hx hb dX2_doses_0 rfl (lv_at hl 0 rfl) ?_
  refine va_get (D := (dC, dI)) (ci := 2) (C := RX2) (T := TX2) (N := 16) hx hb hts hiX2 hown hK hP 0 rfl rfl 5 (by decide) (hts (.fieldLink RX2 31 "PumpDesk" "givenCount" "I") (by decide +kernel)) (fun _ h9 => h9) rfl dX2_doses_1 ?_
  exact jr_i hx hb hr hlocks (rfl) dX2_doses_4

set_option maxHeartbeats 4000000 in
set_option maxRecDepth 100000 in
theorem c_X2_held (l : Launch) (dC : Nat → ClassId) (dI : Nat → Nat → Nat) (cI cQ cR : ClassId) (h : Nat → Nat) (x0 x1 x2 x3 x4 x5 x6 x7 x8 x9 x10 : Int) (hh : x7 = 0 ∨ x7 = 1) : Met l yX2_held wsX2_held ({ frames := 0, cells := 0, slots := 0, locals := 0 }) (kR (dC, dI) vwCl (kT cI cQ cR) [.ref (h 0)] (([(h 0, .inr (2, [.ref (h 1), .ref (h 2), .ref (h 3), .ref (h 4), .ref (h 5), .int (iI (x0)), .int (iI (x1)), .int (iI (x2)), .int (iI (x3)), .int (iI (x4)), .int (iI (x5)), .int (iI (x6)), .int (iI (x7)), .int (iI (x8)), .int (iI (x9)), .int (iI (x10))]))] : va_W))) (kRi (fun z => z = x7)) 0 0 (fun _ => False) := by
  refine k_inR (cc := cX2_held) (maxL := 1) (ret := (some .boolean)) (by decide) rfl (Nat.le_of_ble_eq_true rfl) ?_
  intro p e s m below meth c ls hx hb hr hts hown hml hlocks hP hK hN hl
  have hown : s.vm.findClass RX2 = some m.cls := hown
  have hl : lv_has ls 1 [(0, .ref (h 0))] := hl
  have hiX2 : ∀ w ∈ u_ws RX2 TX2 16, w ∈ wsX2_held := by decide +kernel
  refine lv_aload_n hx hb dX2_held_0 rfl (lv_at hl 0 rfl) ?_
  refine va_get (D := (dC, dI)) (ci := 2) (C := RX2) (T := TX2) (N := 16) hx hb hts hiX2 hown hK hP 0 rfl rfl 12 (by decide) (hts (.fieldLink RX2 54 "PumpDesk" "held" "Z") (by decide +kernel)) (fun _ h9 => h9) rfl dX2_held_1 ?_
  exact jr_z hx hb hr hlocks (hh) (rfl) dX2_held_4

set_option maxHeartbeats 4000000 in
set_option maxRecDepth 100000 in
theorem c_X2_last (l : Launch) (dC : Nat → ClassId) (dI : Nat → Nat → Nat) (cI cQ cR : ClassId) (h : Nat → Nat) (x0 x1 x2 x3 x4 x5 x6 x7 x8 x9 x10 : Int) (a : Int) (ra : -2147483648 ≤ a ∧ a ≤ 2147483647) : Met l yX2_last wsX2_last ({ frames := 0, cells := 0, slots := 0, locals := 0 }) (kR (dC, dI) vwCl (kT cI cQ cR) [.ref (h 0), .int (iI (a))] (([(h 0, .inr (2, [.ref (h 1), .ref (h 2), .ref (h 3), .ref (h 4), .ref (h 5), .int (iI (x0)), .int (iI (x1)), .int (iI (x2)), .int (iI (x3)), .int (iI (x4)), .int (iI (x5)), .int (iI (x6)), .int (iI (x7)), .int (iI (x8)), .int (iI (x9)), .int (iI (x10))]))] : va_W))) (kRi (fun z => (a = 0 ∧ z = x9) ∨ (a = 1 ∧ z = x10) ∨ (¬ a = 0 ∧ ¬ a = 1 ∧ z = -1))) 0 0 (fun _ => False) := by
  refine k_inR (cc := cX2_last) (maxL := 2) (ret := (some .int)) (by decide) rfl (Nat.le_of_ble_eq_true rfl) ?_
  intro p e s m below meth c ls hx hb hr hts hown hml hlocks hP hK hN hl
  have hown : s.vm.findClass RX2 = some m.cls := hown
  have hl : lv_has ls 2 [(0, .ref (h 0)), (1, .int (iI (a)))] := hl
  have hiX2 : ∀ w ∈ u_ws RX2 TX2 16, w ∈ wsX2_last := by decide +kernel
  refine lv_iload_n hx hb dX2_last_0 rfl (lv_at hl 1 rfl) ?_
  rcases (show a = 0 ∨ a = 1 ∨ (¬ a = 0 ∧ ¬ a = 1) by omega) with rfl | rfl | hd
  · refine jz_lookup (tgt := 28) hx hb dX2_last_1 (by omega) (by decide) rfl (by decide) ?_
    refine lv_aload_n hx hb dX2_last_28 rfl (lv_at hl 0 rfl) ?_
    refine va_get (D := (dC, dI)) (ci := 2) (C := RX2) (T := TX2) (N := 16) hx hb hts hiX2 hown hK hP 0 rfl rfl 14 (by decide) (hts (.fieldLink RX2 61 "PumpDesk" "lastValue" "I") (by decide +kernel)) (fun _ h9 => h9) rfl dX2_last_29 ?_
    exact jr_i hx hb hr hlocks (by omega) dX2_last_32
  · refine jz_lookup (tgt := 33) hx hb dX2_last_1 (by omega) (by decide) rfl (by decide) ?_
    refine lv_aload_n hx hb dX2_last_33 rfl (lv_at hl 0 rfl) ?_
    refine va_get (D := (dC, dI)) (ci := 2) (C := RX2) (T := TX2) (N := 16) hx hb hts hiX2 hown hK hP 0 rfl rfl 15 (by decide) (hts (.fieldLink RX2 64 "PumpDesk" "lastMinute" "I") (by decide +kernel)) (fun _ h9 => h9) rfl dX2_last_34 ?_
    exact jr_i hx hb hr hlocks (by omega) dX2_last_37
  · refine jz_lookup (off := 37) (tgt := 38) hx hb dX2_last_1 (by omega) (by decide) (by rw [Op.lookupswitch.offset_cons, if_neg (by omega), Op.lookupswitch.offset_cons, if_neg (by omega)]; rfl) (by decide) ?_
    refine jz_iconst hx hb dX2_last_38 ?_
    exact jr_i hx hb hr hlocks (by omega) dX2_last_39

set_option maxHeartbeats 4000000 in
set_option maxRecDepth 100000 in
theorem c_X2_canGoOnTo (l : Launch) (dC : Nat → ClassId) (dI : Nat → Nat → Nat) (cI cQ cR : ClassId) (h : Nat → Nat) (x0 x1 x2 x3 x4 x5 x6 x7 x8 x9 x10 : Int) (a : Int) (ra : -2147483648 ≤ a ∧ a ≤ 2147483647) (hn : 0 ≤ x1 ∧ x1 ≤ 100000) : Met l yX2_canGoOnTo wsX2_canGoOnTo ({ frames := 1, cells := 0, slots := 0, locals := 22 }) (kR (dC, dI) vwCl (kT cI cQ cR) [.ref (h 0), .int (iI (a))] (([(h 0, .inr (2, [.ref (h 1), .ref (h 2), .ref (h 3), .ref (h 4), .ref (h 5), .int (iI (x0)), .int (iI (x1)), .int (iI (x2)), .int (iI (x3)), .int (iI (x4)), .int (iI (x5)), .int (iI (x6)), .int (iI (x7)), .int (iI (x8)), .int (iI (x9)), .int (iI (x10))]))] : va_W))) (kRi (fun z => (z = 1 ∧ (x1 ≤ a ∧ a ≤ 100000 ∧ a ≤ x1 + 2880)) ∨ (z = 0 ∧ ¬ (x1 ≤ a ∧ a ≤ 100000 ∧ a ≤ x1 + 2880)))) 0 0 (fun _ => False) := by
  refine k_inR (cc := cX2_canGoOnTo) (maxL := 2) (ret := (some .boolean)) (by decide) rfl (Nat.le_of_ble_eq_true rfl) ?_
  intro p e s m below meth c ls hx hb hr hts hown hml hlocks hP hK hN hl
  have hown : s.vm.findClass RX2 = some m.cls := hown
  have hl : lv_has ls 2 [(0, .ref (h 0)), (1, .int (iI (a)))] := hl
  have hiX2 : ∀ w ∈ u_ws RX2 TX2 16, w ∈ wsX2_canGoOnTo := by decide +kernel
  refine lv_iload_n hx hb dX2_canGoOnTo_0 rfl (lv_at hl 1 rfl) ?_
  refine lv_aload_n hx hb dX2_canGoOnTo_1 rfl (lv_at hl 0 rfl) ?_
  refine va_get (D := (dC, dI)) (ci := 2) (C := RX2) (T := TX2) (N := 16) hx hb hts hiX2 hown hK hP 0 rfl rfl 6 (by decide) (hts (.fieldLink RX2 35 "PumpDesk" "now" "I") (by decide +kernel)) (fun _ h9 => h9) rfl dX2_canGoOnTo_2 ?_
  refine lv_ldc (v := iI (100000)) hx hb hown (hts (.constant RX2 98 100000) (by decide +kernel)) dX2_canGoOnTo_5 ?_
  refine lv_aload_n hx hb dX2_canGoOnTo_7 rfl (lv_at hl 0 rfl) ?_
  refine va_get (D := (dC, dI)) (ci := 2) (C := RX2) (T := TX2) (N := 16) hx hb hts hiX2 hown hK hP 0 rfl rfl 6 (by decide) (hts (.fieldLink RX2 35 "PumpDesk" "now" "I") (by decide +kernel)) (fun _ h9 => h9) rfl dX2_canGoOnTo_8 ?_
  refine jz_sipush hx hb dX2_canGoOnTo_11 rfl ?_
  refine jz_iadd hx hb dX2_canGoOnTo_14 ?_
  refine jz_mmin hx hb (hml.trans hl.1.symm) hown (hts (.methodLink RX2 144 Lib.Math.min.name) (by decide +kernel)) (hts (.static Lib.Math.min.name) (by decide +kernel)) (hts (.initialized "java/lang/Math") (by decide +kernel)) (hts (.code Lib.Math.min.name Lib.Math.min.code 2 (some .int)) (by decide +kernel)) (Nat.le_of_ble_eq_true rfl) (Nat.le_of_ble_eq_true rfl) (Nat.le_of_ble_eq_true rfl) (Nat.le_of_ble_eq_true rfl) (by omega) dX2_canGoOnTo_15 (fun z1 hz1 => ?_)
  refine kr_i (va_runS (As := [.int (iI (a)), .int (iI (x1)), .int (iI (z1))]) (rest := []) ⟨hx, hb, hml, hown, hts⟩ (c_X2_isWithin l dC dI cI cQ cR (a) (x1) (z1) (by omega) (by omega) (by omega)) (va_cwS 3 hts gX2_canGoOnTo_X2_isWithin rfl rfl rfl (by decide +kernel) ⟨Nat.le_of_ble_eq_true rfl, Nat.le_of_ble_eq_true rfl⟩) (kR_S hK hN k_P0) rfl rfl hl.1 rfl (lv_room (Nat.le_of_ble_eq_true rfl)) dX2_canGoOnTo_18 ⟨Nat.le_of_ble_eq_true rfl, Nat.le_of_ble_eq_true rfl⟩) (fun z2 hz2 => ?_)
  exact jr_z hx hb hr hlocks (by omega) (by omega) dX2_canGoOnTo_21

set_option maxHeartbeats 4000000 in
set_option maxRecDepth 100000 in
theorem c_X2_limits (l : Launch) (dC : Nat → ClassId) (dI : Nat → Nat → Nat) (cI cQ cR : ClassId) (h : Nat → Nat) (x0 x1 x2 x3 x4 x5 x6 x7 x8 x9 x10 : Int) (wr : va_W) (a1 a2 a3 a4 : Int) (sz : Nat) (ra1 : -2147483648 ≤ a1 ∧ a1 ≤ 2147483647) (ra2 : -2147483648 ≤ a2 ∧ a2 ≤ 2147483647) (ra3 : -2147483648 ≤ a3 ∧ a3 ≤ 2147483647) (ra4 : -2147483648 ≤ a4 ∧ a4 ≤ 2147483647) : Met l yX2_limits wsX2_limits ({ frames := 1, cells := 0, slots := 0, locals := 22 }) (kPc (dC, dI) vwCl (kT cI cQ cR) [.ref (h 0), .int (iI (a1)), .int (iI (a2)), .int (iI (a3)), .int (iI (a4))] (([(h 0, .inr (2, [.ref (h 1), .ref (h 2), .ref (h 3), .ref (h 4), .ref (h 5), .int (iI (x0)), .int (iI (x1)), .int (iI (x2)), .int (iI (x3)), .int (iI (x4)), .int (iI (x5)), .int (iI (x6)), .int (iI (x7)), .int (iI (x8)), .int (iI (x9)), .int (iI (x10))]))] : va_W) ++ wr) sz) (kQi (dC, dI) vwCl (va_A (([(h 0, .inr (2, [.ref (h 1), .ref (h 2), .ref (h 3), .ref (h 4), .ref (h 5), .int (iI (x0)), .int (iI (x1)), .int (iI (x2)), .int (iI (x3)), .int (iI (x4)), .int (iI (x5)), .int (iI (x6)), .int (iI (x7)), .int (iI (x8)), .int (iI (x9)), .int (iI (x10))]))] : va_W) ++ wr) sz) (fun (z : Int) (u : Int × Int × Int × Int) => (z = 1 ∧ (0 ≤ a1 ∧ a1 ≤ 100000 ∧ 0 ≤ a2 ∧ a2 ≤ 1000000 ∧ 1 ≤ a3 ∧ a3 ≤ 400 ∧ 1 ≤ a4 ∧ a4 ≤ 20) ∧ u.1 = a1 ∧ u.2.1 = a2 ∧ u.2.2.1 = a3 ∧ u.2.2.2 = a4) ∨ (z = 0 ∧ ¬ (0 ≤ a1 ∧ a1 ≤ 100000 ∧ 0 ≤ a2 ∧ a2 ≤ 1000000 ∧ 1 ≤ a3 ∧ a3 ≤ 400 ∧ 1 ≤ a4 ∧ a4 ≤ 20) ∧ u.1 = x3 ∧ u.2.1 = x4 ∧ u.2.2.1 = x5 ∧ u.2.2.2 = x6)) (fun (u : Int × Int × Int × Int) => ([(h 0, .inr (2, [.ref (h 1), .ref (h 2), .ref (h 3), .ref (h 4), .ref (h 5), .int (iI (x0)), .int (iI (x1)), .int (iI (x2)), .int (iI (u.1)), .int (iI (u.2.1)), .int (iI (u.2.2.1)), .int (iI (u.2.2.2)), .int (iI (x7)), .int (iI (x8)), .int (iI (x9)), .int (iI (x10))]))] : va_W) ++ wr)) 0 0 (va_A (([(h 0, .inr (2, [.ref (h 1), .ref (h 2), .ref (h 3), .ref (h 4), .ref (h 5), .int (iI (x0)), .int (iI (x1)), .int (iI (x2)), .int (iI (x3)), .int (iI (x4)), .int (iI (x5)), .int (iI (x6)), .int (iI (x7)), .int (iI (x8)), .int (iI (x9)), .int (iI (x10))]))] : va_W) ++ wr) sz) := by
  refine k_inWi (cc := cX2_limits) (maxL := 5) (ret := (some .boolean)) (by decide) rfl (Nat.le_of_ble_eq_true rfl) ?_
  intro p e s m below meth c ls A hx hb hr hts hown hml hlocks hin hP hK hN hD hS hA hAo hl
  have hown : s.vm.findClass RX2 = some m.cls := hown
  have hl : lv_has ls 5 [(0, .ref (h 0)), (1, .int (iI (a1))), (2, .int (iI (a2))), (3, .int (iI (a3))), (4, .int (iI (a4)))] := hl
  have hiX2 : ∀ w ∈ u_ws RX2 TX2 16, w ∈ wsX2_limits := by decide +kernel
  refine lv_iload_n hx hb dX2_limits_0 rfl (lv_at hl 1 rfl) ?_
  refine jz_iconst hx hb dX2_limits_1 ?_
  refine lv_ldc (v := iI (100000)) hx hb hown (hts (.constant RX2 98 100000) (by decide +kernel)) dX2_limits_2 ?_
  refine kr_i (va_runS (As := [.int (iI (a1)), .int (iI (0)), .int (iI (100000))]) (rest := []) ⟨hx, hb, hml, hown, hts⟩ (c_X2_isWithin l dC dI cI cQ cR (a1) (0) (100000) (by omega) (by omega) (by omega)) (va_cwS 3 hts gX2_limits_X2_isWithin rfl rfl rfl (by decide +kernel) ⟨Nat.le_of_ble_eq_true rfl, Nat.le_of_ble_eq_true rfl⟩) (kR_S hK hN k_P0) rfl rfl hl.1 rfl (lv_room (Nat.le_of_ble_eq_true rfl)) dX2_limits_4 ⟨Nat.le_of_ble_eq_true rfl, Nat.le_of_ble_eq_true rfl⟩) (fun z1 hz1 => ?_)
  refine jz_if_eq (tgt := 42) hx hb dX2_limits_7 (by decide) (by omega) (fun cd7 => ?_) (fun cd7 => ?_)
  · refine jz_iconst hx hb dX2_limits_42 ?_
    exact jw_z hx hb hr hlocks (((x3), (x4), (x5), (x6))) (by omega) (by dsimp only; omega) hP hD hS dX2_limits_43
  · refine lv_iload_n hx hb dX2_limits_10 rfl (lv_at hl 2 rfl) ?_
    refine jz_iconst hx hb dX2_limits_11 ?_
    refine lv_ldc (v := iI (1000000)) hx hb hown (hts (.constant RX2 99 1000000) (by decide +kernel)) dX2_limits_12 ?_
    refine kr_i (va_runS (As := [.int (iI (a2)), .int (iI (0)), .int (iI (1000000))]) (rest := []) ⟨hx, hb, hml, hown, hts⟩ (c_X2_isWithin l dC dI cI cQ cR (a2) (0) (1000000) (by omega) (by omega) (by omega)) (va_cwS 3 hts gX2_limits_X2_isWithin rfl rfl rfl (by decide +kernel) ⟨Nat.le_of_ble_eq_true rfl, Nat.le_of_ble_eq_true rfl⟩) (kR_S hK hN k_P0) rfl rfl hl.1 rfl (lv_room (Nat.le_of_ble_eq_true rfl)) dX2_limits_14 ⟨Nat.le_of_ble_eq_true rfl, Nat.le_of_ble_eq_true rfl⟩) (fun z2 hz2 => ?_)
    refine jz_if_eq (tgt := 42) hx hb dX2_limits_17 (by decide) (by omega) (fun cd17 => ?_) (fun cd17 => ?_)
    · refine jz_iconst hx hb dX2_limits_42 ?_
      exact jw_z hx hb hr hlocks (((x3), (x4), (x5), (x6))) (by omega) (by dsimp only; omega) hP hD hS dX2_limits_43
    · refine lv_iload_n hx hb dX2_limits_20 rfl (lv_at hl 3 rfl) ?_
      refine jz_iconst hx hb dX2_limits_21 ?_
      refine jz_sipush hx hb dX2_limits_22 rfl ?_
      refine kr_i (va_runS (As := [.int (iI (a3)), .int (iI (1)), .int (iI (400))]) (rest := []) ⟨hx, hb, hml, hown, hts⟩ (c_X2_isWithin l dC dI cI cQ cR (a3) (1) (400) (by omega) (by omega) (by omega)) (va_cwS 3 hts gX2_limits_X2_isWithin rfl rfl rfl (by decide +kernel) ⟨Nat.le_of_ble_eq_true rfl, Nat.le_of_ble_eq_true rfl⟩) (kR_S hK hN k_P0) rfl rfl hl.1 rfl (lv_room (Nat.le_of_ble_eq_true rfl)) dX2_limits_25 ⟨Nat.le_of_ble_eq_true rfl, Nat.le_of_ble_eq_true rfl⟩) (fun z3 hz3 => ?_)
      refine jz_if_eq (tgt := 42) hx hb dX2_limits_28 (by decide) (by omega) (fun cd28 => ?_) (fun cd28 => ?_)
      · refine jz_iconst hx hb dX2_limits_42 ?_
        exact jw_z hx hb hr hlocks (((x3), (x4), (x5), (x6))) (by omega) (by dsimp only; omega) hP hD hS dX2_limits_43
      · refine lv_iload hx hb dX2_limits_31 (lv_at hl 4 rfl) ?_
        refine jz_iconst hx hb dX2_limits_33 ?_
        refine jz_bipush hx hb dX2_limits_34 rfl ?_
        refine kr_i (va_runS (As := [.int (iI (a4)), .int (iI (1)), .int (iI (20))]) (rest := []) ⟨hx, hb, hml, hown, hts⟩ (c_X2_isWithin l dC dI cI cQ cR (a4) (1) (20) (by omega) (by omega) (by omega)) (va_cwS 3 hts gX2_limits_X2_isWithin rfl rfl rfl (by decide +kernel) ⟨Nat.le_of_ble_eq_true rfl, Nat.le_of_ble_eq_true rfl⟩) (kR_S hK hN k_P0) rfl rfl hl.1 rfl (lv_room (Nat.le_of_ble_eq_true rfl)) dX2_limits_36 ⟨Nat.le_of_ble_eq_true rfl, Nat.le_of_ble_eq_true rfl⟩) (fun z4 hz4 => ?_)
        refine jz_if_ne (tgt := 44) hx hb dX2_limits_39 (by decide) (by omega) (fun cd39 => ?_) (fun cd39 => ?_)
        · refine lv_aload_n hx hb dX2_limits_44 rfl (lv_at hl 0 rfl) ?_
          refine lv_iload_n hx hb dX2_limits_45 rfl (lv_at hl 1 rfl) ?_
          refine va_put (D := (dC, dI)) (ci := 2) (v := .int (iI (a1))) (ty := .int) (C := RX2) (T := TX2) (N := 16) hx hb hts hiX2 tyX2 tyX2_ok nmX2 hown hK hP hD hS 0 rfl rfl 8 (by decide) (hts (.fieldLink RX2 41 "PumpDesk" "greatestDose" "I") (by decide +kernel)) (fun _ h9 => h9) rfl (by decide +kernel) rfl rfl (Nat.le_of_ble_eq_true rfl) dX2_limits_46 (fun H locs hP hD hS => ?_)
          have hP : va_P (dC, dI) vwCl (([(h 0, .inr (2, [.ref (h 1), .ref (h 2), .ref (h 3), .ref (h 4), .ref (h 5), .int (iI (x0)), .int (iI (x1)), .int (iI (x2)), .int (iI (a1)), .int (iI (x4)), .int (iI (x5)), .int (iI (x6)), .int (iI (x7)), .int (iI (x8)), .int (iI (x9)), .int (iI (x10))]))] : va_W) ++ wr) H := hP
          have hD : va_D A (([(h 0, .inr (2, [.ref (h 1), .ref (h 2), .ref (h 3), .ref (h 4), .ref (h 5), .int (iI (x0)), .int (iI (x1)), .int (iI (x2)), .int (iI (a1)), .int (iI (x4)), .int (iI (x5)), .int (iI (x6)), .int (iI (x7)), .int (iI (x8)), .int (iI (x9)), .int (iI (x10))]))] : va_W) ++ wr) := hD
          refine lv_aload_n hx hb dX2_limits_49 rfl (lv_at hl 0 rfl) ?_
          refine lv_iload_n hx hb dX2_limits_50 rfl (lv_at hl 2 rfl) ?_
          refine va_put (D := (dC, dI)) (ci := 2) (v := .int (iI (a2))) (ty := .int) (C := RX2) (T := TX2) (N := 16) hx hb hts hiX2 tyX2 tyX2_ok nmX2 hown hK hP hD hS 0 rfl rfl 9 (by decide) (hts (.fieldLink RX2 45 "PumpDesk" "greatestDay" "I") (by decide +kernel)) (fun _ h9 => h9) rfl (by decide +kernel) rfl rfl (Nat.le_of_ble_eq_true rfl) dX2_limits_51 (fun H locs hP hD hS => ?_)
          have hP : va_P (dC, dI) vwCl (([(h 0, .inr (2, [.ref (h 1), .ref (h 2), .ref (h 3), .ref (h 4), .ref (h 5), .int (iI (x0)), .int (iI (x1)), .int (iI (x2)), .int (iI (a1)), .int (iI (a2)), .int (iI (x5)), .int (iI (x6)), .int (iI (x7)), .int (iI (x8)), .int (iI (x9)), .int (iI (x10))]))] : va_W) ++ wr) H := hP
          have hD : va_D A (([(h 0, .inr (2, [.ref (h 1), .ref (h 2), .ref (h 3), .ref (h 4), .ref (h 5), .int (iI (x0)), .int (iI (x1)), .int (iI (x2)), .int (iI (a1)), .int (iI (a2)), .int (iI (x5)), .int (iI (x6)), .int (iI (x7)), .int (iI (x8)), .int (iI (x9)), .int (iI (x10))]))] : va_W) ++ wr) := hD
          refine lv_aload_n hx hb dX2_limits_54 rfl (lv_at hl 0 rfl) ?_
          refine lv_iload_n hx hb dX2_limits_55 rfl (lv_at hl 3 rfl) ?_
          refine va_put (D := (dC, dI)) (ci := 2) (v := .int (iI (a3))) (ty := .int) (C := RX2) (T := TX2) (N := 16) hx hb hts hiX2 tyX2 tyX2_ok nmX2 hown hK hP hD hS 0 rfl rfl 10 (by decide) (hts (.fieldLink RX2 48 "PumpDesk" "threshold" "I") (by decide +kernel)) (fun _ h9 => h9) rfl (by decide +kernel) rfl rfl (Nat.le_of_ble_eq_true rfl) dX2_limits_56 (fun H locs hP hD hS => ?_)
          have hP : va_P (dC, dI) vwCl (([(h 0, .inr (2, [.ref (h 1), .ref (h 2), .ref (h 3), .ref (h 4), .ref (h 5), .int (iI (x0)), .int (iI (x1)), .int (iI (x2)), .int (iI (a1)), .int (iI (a2)), .int (iI (a3)), .int (iI (x6)), .int (iI (x7)), .int (iI (x8)), .int (iI (x9)), .int (iI (x10))]))] : va_W) ++ wr) H := hP
          have hD : va_D A (([(h 0, .inr (2, [.ref (h 1), .ref (h 2), .ref (h 3), .ref (h 4), .ref (h 5), .int (iI (x0)), .int (iI (x1)), .int (iI (x2)), .int (iI (a1)), .int (iI (a2)), .int (iI (a3)), .int (iI (x6)), .int (iI (x7)), .int (iI (x8)), .int (iI (x9)), .int (iI (x10))]))] : va_W) ++ wr) := hD
          refine lv_aload_n hx hb dX2_limits_59 rfl (lv_at hl 0 rfl) ?_
          refine lv_iload hx hb dX2_limits_60 (lv_at hl 4 rfl) ?_
          refine va_put (D := (dC, dI)) (ci := 2) (v := .int (iI (a4))) (ty := .int) (C := RX2) (T := TX2) (N := 16) hx hb hts hiX2 tyX2 tyX2_ok nmX2 hown hK hP hD hS 0 rfl rfl 11 (by decide) (hts (.fieldLink RX2 51 "PumpDesk" "ticksToGoOn" "I") (by decide +kernel)) (fun _ h9 => h9) rfl (by decide +kernel) rfl rfl (Nat.le_of_ble_eq_true rfl) dX2_limits_62 (fun H locs hP hD hS => ?_)
          have hP : va_P (dC, dI) vwCl (([(h 0, .inr (2, [.ref (h 1), .ref (h 2), .ref (h 3), .ref (h 4), .ref (h 5), .int (iI (x0)), .int (iI (x1)), .int (iI (x2)), .int (iI (a1)), .int (iI (a2)), .int (iI (a3)), .int (iI (a4)), .int (iI (x7)), .int (iI (x8)), .int (iI (x9)), .int (iI (x10))]))] : va_W) ++ wr) H := hP
          have hD : va_D A (([(h 0, .inr (2, [.ref (h 1), .ref (h 2), .ref (h 3), .ref (h 4), .ref (h 5), .int (iI (x0)), .int (iI (x1)), .int (iI (x2)), .int (iI (a1)), .int (iI (a2)), .int (iI (a3)), .int (iI (a4)), .int (iI (x7)), .int (iI (x8)), .int (iI (x9)), .int (iI (x10))]))] : va_W) ++ wr) := hD
          refine jz_iconst hx hb dX2_limits_65 ?_
          exact jw_z hx hb hr hlocks (((a1), (a2), (a3), (a4))) (by omega) (by dsimp only; omega) hP hD hS dX2_limits_66
        · refine jz_iconst hx hb dX2_limits_42 ?_
          exact jw_z hx hb hr hlocks (((x3), (x4), (x5), (x6))) (by omega) (by dsimp only; omega) hP hD hS dX2_limits_43

set_option maxHeartbeats 4000000 in
set_option maxRecDepth 100000 in
theorem c_X2_hold (l : Launch) (dC : Nat → ClassId) (dI : Nat → Nat → Nat) (cI cQ cR : ClassId) (h : Nat → Nat) (x0 x1 x2 x3 x4 x5 x6 x7 x8 x9 x10 : Int) (wr : va_W) (sz : Nat)  : Met l yX2_hold wsX2_hold ({ frames := 0, cells := 0, slots := 0, locals := 0 }) (kPc (dC, dI) vwCl (kT cI cQ cR) [.ref (h 0)] (([(h 0, .inr (2, [.ref (h 1), .ref (h 2), .ref (h 3), .ref (h 4), .ref (h 5), .int (iI (x0)), .int (iI (x1)), .int (iI (x2)), .int (iI (x3)), .int (iI (x4)), .int (iI (x5)), .int (iI (x6)), .int (iI (x7)), .int (iI (x8)), .int (iI (x9)), .int (iI (x10))]))] : va_W) ++ wr) sz) (kQv (dC, dI) vwCl (va_A (([(h 0, .inr (2, [.ref (h 1), .ref (h 2), .ref (h 3), .ref (h 4), .ref (h 5), .int (iI (x0)), .int (iI (x1)), .int (iI (x2)), .int (iI (x3)), .int (iI (x4)), .int (iI (x5)), .int (iI (x6)), .int (iI (x7)), .int (iI (x8)), .int (iI (x9)), .int (iI (x10))]))] : va_W) ++ wr) sz) (fun (u : Unit) => True) (fun (u : Unit) => ([(h 0, .inr (2, [.ref (h 1), .ref (h 2), .ref (h 3), .ref (h 4), .ref (h 5), .int (iI (x0)), .int (iI (x1)), .int (iI (x2)), .int (iI (x3)), .int (iI (x4)), .int (iI (x5)), .int (iI (x6)), .int (iI (1)), .int (iI (0)), .int (iI (x9)), .int (iI (x10))]))] : va_W) ++ wr)) 0 0 (va_A (([(h 0, .inr (2, [.ref (h 1), .ref (h 2), .ref (h 3), .ref (h 4), .ref (h 5), .int (iI (x0)), .int (iI (x1)), .int (iI (x2)), .int (iI (x3)), .int (iI (x4)), .int (iI (x5)), .int (iI (x6)), .int (iI (x7)), .int (iI (x8)), .int (iI (x9)), .int (iI (x10))]))] : va_W) ++ wr) sz) := by
  refine k_inWv (cc := cX2_hold) (maxL := 1) (ret := none) (by decide) rfl (Nat.le_of_ble_eq_true rfl) ?_
  intro p e s m below meth c ls A hx hb hr hts hown hml hlocks hin hP hK hN hD hS hA hAo hl
  have hown : s.vm.findClass RX2 = some m.cls := hown
  have hl : lv_has ls 1 [(0, .ref (h 0))] := hl
  have hiX2 : ∀ w ∈ u_ws RX2 TX2 16, w ∈ wsX2_hold := by decide +kernel
  refine lv_aload_n hx hb dX2_hold_0 rfl (lv_at hl 0 rfl) ?_
  refine jz_iconst hx hb dX2_hold_1 ?_
  refine va_put (D := (dC, dI)) (ci := 2) (v := .int (iI (1))) (ty := .boolean) (C := RX2) (T := TX2) (N := 16) hx hb hts hiX2 tyX2 tyX2_ok nmX2 hown hK hP hD hS 0 rfl rfl 12 (by decide) (hts (.fieldLink RX2 54 "PumpDesk" "held" "Z") (by decide +kernel)) (fun _ h9 => h9) rfl (by decide +kernel) rfl rfl (Nat.le_of_ble_eq_true rfl) dX2_hold_2 (fun H locs hP hD hS => ?_)
  have hP : va_P (dC, dI) vwCl (([(h 0, .inr (2, [.ref (h 1), .ref (h 2), .ref (h 3), .ref (h 4), .ref (h 5), .int (iI (x0)), .int (iI (x1)), .int (iI (x2)), .int (iI (x3)), .int (iI (x4)), .int (iI (x5)), .int (iI (x6)), .int (iI (1)), .int (iI (x8)), .int (iI (x9)), .int (iI (x10))]))] : va_W) ++ wr) H := hP
  have hD : va_D A (([(h 0, .inr (2, [.ref (h 1), .ref (h 2), .ref (h 3), .ref (h 4), .ref (h 5), .int (iI (x0)), .int (iI (x1)), .int (iI (x2)), .int (iI (x3)), .int (iI (x4)), .int (iI (x5)), .int (iI (x6)), .int (iI (1)), .int (iI (x8)), .int (iI (x9)), .int (iI (x10))]))] : va_W) ++ wr) := hD
  refine lv_aload_n hx hb dX2_hold_5 rfl (lv_at hl 0 rfl) ?_
  refine jz_iconst hx hb dX2_hold_6 ?_
  refine va_put (D := (dC, dI)) (ci := 2) (v := .int (iI (0))) (ty := .int) (C := RX2) (T := TX2) (N := 16) hx hb hts hiX2 tyX2 tyX2_ok nmX2 hown hK hP hD hS 0 rfl rfl 13 (by decide) (hts (.fieldLink RX2 58 "PumpDesk" "ticks" "I") (by decide +kernel)) (fun _ h9 => h9) rfl (by decide +kernel) rfl rfl (Nat.le_of_ble_eq_true rfl) dX2_hold_7 (fun H locs hP hD hS => ?_)
  have hP : va_P (dC, dI) vwCl (([(h 0, .inr (2, [.ref (h 1), .ref (h 2), .ref (h 3), .ref (h 4), .ref (h 5), .int (iI (x0)), .int (iI (x1)), .int (iI (x2)), .int (iI (x3)), .int (iI (x4)), .int (iI (x5)), .int (iI (x6)), .int (iI (1)), .int (iI (0)), .int (iI (x9)), .int (iI (x10))]))] : va_W) ++ wr) H := hP
  have hD : va_D A (([(h 0, .inr (2, [.ref (h 1), .ref (h 2), .ref (h 3), .ref (h 4), .ref (h 5), .int (iI (x0)), .int (iI (x1)), .int (iI (x2)), .int (iI (x3)), .int (iI (x4)), .int (iI (x5)), .int (iI (x6)), .int (iI (1)), .int (iI (0)), .int (iI (x9)), .int (iI (x10))]))] : va_W) ++ wr) := hD
  exact jw_v hx hb hr hlocks (()) (trivial) hP hD hS dX2_hold_10

set_option maxHeartbeats 4000000 in
set_option maxRecDepth 100000 in
theorem c_X2_countTick (l : Launch) (dC : Nat → ClassId) (dI : Nat → Nat → Nat) (cI cQ cR : ClassId) (h : Nat → Nat) (x0 x1 x2 x3 x4 x5 x6 x7 x8 x9 x10 : Int) (wr : va_W) (sz : Nat) (ht : 0 ≤ x8 ∧ x8 ≤ 20) (rx6 : -2147483648 ≤ x6 ∧ x6 ≤ 2147483647) : Met l yX2_countTick wsX2_countTick ({ frames := 0, cells := 0, slots := 0, locals := 0 }) (kPc (dC, dI) vwCl (kT cI cQ cR) [.ref (h 0)] (([(h 0, .inr (2, [.ref (h 1), .ref (h 2), .ref (h 3), .ref (h 4), .ref (h 5), .int (iI (x0)), .int (iI (x1)), .int (iI (x2)), .int (iI (x3)), .int (iI (x4)), .int (iI (x5)), .int (iI (x6)), .int (iI (x7)), .int (iI (x8)), .int (iI (x9)), .int (iI (x10))]))] : va_W) ++ wr) sz) (kQv (dC, dI) vwCl (va_A (([(h 0, .inr (2, [.ref (h 1), .ref (h 2), .ref (h 3), .ref (h 4), .ref (h 5), .int (iI (x0)), .int (iI (x1)), .int (iI (x2)), .int (iI (x3)), .int (iI (x4)), .int (iI (x5)), .int (iI (x6)), .int (iI (x7)), .int (iI (x8)), .int (iI (x9)), .int (iI (x10))]))] : va_W) ++ wr) sz) (fun (u : Int × Int) => (x8 + 1 < x6 ∧ u.1 = x7 ∧ u.2 = x8 + 1) ∨ (x6 ≤ x8 + 1 ∧ u.1 = 0 ∧ u.2 = 0)) (fun (u : Int × Int) => ([(h 0, .inr (2, [.ref (h 1), .ref (h 2), .ref (h 3), .ref (h 4), .ref (h 5), .int (iI (x0)), .int (iI (x1)), .int (iI (x2)), .int (iI (x3)), .int (iI (x4)), .int (iI (x5)), .int (iI (x6)), .int (iI (u.1)), .int (iI (u.2)), .int (iI (x9)), .int (iI (x10))]))] : va_W) ++ wr)) 0 0 (va_A (([(h 0, .inr (2, [.ref (h 1), .ref (h 2), .ref (h 3), .ref (h 4), .ref (h 5), .int (iI (x0)), .int (iI (x1)), .int (iI (x2)), .int (iI (x3)), .int (iI (x4)), .int (iI (x5)), .int (iI (x6)), .int (iI (x7)), .int (iI (x8)), .int (iI (x9)), .int (iI (x10))]))] : va_W) ++ wr) sz) := by
  refine k_inWv (cc := cX2_countTick) (maxL := 1) (ret := none) (by decide) rfl (Nat.le_of_ble_eq_true rfl) ?_
  intro p e s m below meth c ls A hx hb hr hts hown hml hlocks hin hP hK hN hD hS hA hAo hl
  have hown : s.vm.findClass RX2 = some m.cls := hown
  have hl : lv_has ls 1 [(0, .ref (h 0))] := hl
  have hiX2 : ∀ w ∈ u_ws RX2 TX2 16, w ∈ wsX2_countTick := by decide +kernel
  refine lv_aload_n hx hb dX2_countTick_0 rfl (lv_at hl 0 rfl) ?_
  refine lv_dup hx hb dX2_countTick_1 rfl ?_
  refine va_get (D := (dC, dI)) (ci := 2) (C := RX2) (T := TX2) (N := 16) hx hb hts hiX2 hown hK hP 0 rfl rfl 13 (by decide) (hts (.fieldLink RX2 58 "PumpDesk" "ticks" "I") (by decide +kernel)) (fun _ h9 => h9) rfl dX2_countTick_2 ?_
  refine jz_iconst hx hb dX2_countTick_5 ?_
  refine jz_iadd hx hb dX2_countTick_6 ?_
  refine va_put (D := (dC, dI)) (ci := 2) (v := .int (iI ((x8 + 1)))) (ty := .int) (C := RX2) (T := TX2) (N := 16) hx hb hts hiX2 tyX2 tyX2_ok nmX2 hown hK hP hD hS 0 rfl rfl 13 (by decide) (hts (.fieldLink RX2 58 "PumpDesk" "ticks" "I") (by decide +kernel)) (fun _ h9 => h9) rfl (by decide +kernel) rfl rfl (Nat.le_of_ble_eq_true rfl) dX2_countTick_7 (fun H locs hP hD hS => ?_)
  have hP : va_P (dC, dI) vwCl (([(h 0, .inr (2, [.ref (h 1), .ref (h 2), .ref (h 3), .ref (h 4), .ref (h 5), .int (iI (x0)), .int (iI (x1)), .int (iI (x2)), .int (iI (x3)), .int (iI (x4)), .int (iI (x5)), .int (iI (x6)), .int (iI (x7)), .int (iI ((x8 + 1))), .int (iI (x9)), .int (iI (x10))]))] : va_W) ++ wr) H := hP
  have hD : va_D A (([(h 0, .inr (2, [.ref (h 1), .ref (h 2), .ref (h 3), .ref (h 4), .ref (h 5), .int (iI (x0)), .int (iI (x1)), .int (iI (x2)), .int (iI (x3)), .int (iI (x4)), .int (iI (x5)), .int (iI (x6)), .int (iI (x7)), .int (iI ((x8 + 1))), .int (iI (x9)), .int (iI (x10))]))] : va_W) ++ wr) := hD
  refine lv_aload_n hx hb dX2_countTick_10 rfl (lv_at hl 0 rfl) ?_
  refine va_get (D := (dC, dI)) (ci := 2) (C := RX2) (T := TX2) (N := 16) hx hb hts hiX2 hown hK hP 0 rfl rfl 13 (by decide) (hts (.fieldLink RX2 58 "PumpDesk" "ticks" "I") (by decide +kernel)) (fun _ h9 => h9) rfl dX2_countTick_11 ?_
  refine lv_aload_n hx hb dX2_countTick_14 rfl (lv_at hl 0 rfl) ?_
  refine va_get (D := (dC, dI)) (ci := 2) (C := RX2) (T := TX2) (N := 16) hx hb hts hiX2 hown hK hP 0 rfl rfl 11 (by decide) (hts (.fieldLink RX2 51 "PumpDesk" "ticksToGoOn" "I") (by decide +kernel)) (fun _ h9 => h9) rfl dX2_countTick_15 ?_
  refine jz_icmp_lt (tgt := 31) hx hb dX2_countTick_18 (by decide) (by omega) (fun cd18 => ?_) (fun cd18 => ?_)
  · exact jw_v hx hb hr hlocks (((x7), ((x8 + 1)))) (by dsimp only; omega) hP hD hS dX2_countTick_31
  · refine lv_aload_n hx hb dX2_countTick_21 rfl (lv_at hl 0 rfl) ?_
    refine jz_iconst hx hb dX2_countTick_22 ?_
    refine va_put (D := (dC, dI)) (ci := 2) (v := .int (iI (0))) (ty := .boolean) (C := RX2) (T := TX2) (N := 16) hx hb hts hiX2 tyX2 tyX2_ok nmX2 hown hK hP hD hS 0 rfl rfl 12 (by decide) (hts (.fieldLink RX2 54 "PumpDesk" "held" "Z") (by decide +kernel)) (fun _ h9 => h9) rfl (by decide +kernel) rfl rfl (Nat.le_of_ble_eq_true rfl) dX2_countTick_23 (fun H locs hP hD hS => ?_)
    have hP : va_P (dC, dI) vwCl (([(h 0, .inr (2, [.ref (h 1), .ref (h 2), .ref (h 3), .ref (h 4), .ref (h 5), .int (iI (x0)), .int (iI (x1)), .int (iI (x2)), .int (iI (x3)), .int (iI (x4)), .int (iI (x5)), .int (iI (x6)), .int (iI (0)), .int (iI ((x8 + 1))), .int (iI (x9)), .int (iI (x10))]))] : va_W) ++ wr) H := hP
    have hD : va_D A (([(h 0, .inr (2, [.ref (h 1), .ref (h 2), .ref (h 3), .ref (h 4), .ref (h 5), .int (iI (x0)), .int (iI (x1)), .int (iI (x2)), .int (iI (x3)), .int (iI (x4)), .int (iI (x5)), .int (iI (x6)), .int (iI (0)), .int (iI ((x8 + 1))), .int (iI (x9)), .int (iI (x10))]))] : va_W) ++ wr) := hD
    refine lv_aload_n hx hb dX2_countTick_26 rfl (lv_at hl 0 rfl) ?_
    refine jz_iconst hx hb dX2_countTick_27 ?_
    refine va_put (D := (dC, dI)) (ci := 2) (v := .int (iI (0))) (ty := .int) (C := RX2) (T := TX2) (N := 16) hx hb hts hiX2 tyX2 tyX2_ok nmX2 hown hK hP hD hS 0 rfl rfl 13 (by decide) (hts (.fieldLink RX2 58 "PumpDesk" "ticks" "I") (by decide +kernel)) (fun _ h9 => h9) rfl (by decide +kernel) rfl rfl (Nat.le_of_ble_eq_true rfl) dX2_countTick_28 (fun H locs hP hD hS => ?_)
    have hP : va_P (dC, dI) vwCl (([(h 0, .inr (2, [.ref (h 1), .ref (h 2), .ref (h 3), .ref (h 4), .ref (h 5), .int (iI (x0)), .int (iI (x1)), .int (iI (x2)), .int (iI (x3)), .int (iI (x4)), .int (iI (x5)), .int (iI (x6)), .int (iI (0)), .int (iI (0)), .int (iI (x9)), .int (iI (x10))]))] : va_W) ++ wr) H := hP
    have hD : va_D A (([(h 0, .inr (2, [.ref (h 1), .ref (h 2), .ref (h 3), .ref (h 4), .ref (h 5), .int (iI (x0)), .int (iI (x1)), .int (iI (x2)), .int (iI (x3)), .int (iI (x4)), .int (iI (x5)), .int (iI (x6)), .int (iI (0)), .int (iI (0)), .int (iI (x9)), .int (iI (x10))]))] : va_W) ++ wr) := hD
    exact jw_v hx hb hr hlocks (((0), (0))) (by dsimp only; omega) hP hD hS dX2_countTick_31

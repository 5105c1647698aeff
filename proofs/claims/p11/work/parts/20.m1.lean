set_option maxHeartbeats 4000000 in
set_option maxRecDepth 100000 in
theorem c_X3_now (l : Launch) (dC : Nat → ClassId) (dI : Nat → Nat → Nat) (cI cQ cR : ClassId) (g : Nat → Nat) (t0 t1 t2 t3 t4 t5 t6 t7 t8 t9 t10 t11 t12 t13 t14 : Int)  : Met l yX3_now wsX3_now ({ frames := 0, cells := 0, slots := 0, locals := 0 }) (kR (dC, dI) vwCl (kT cI cQ cR) [.ref (g 0)] (([(g 0, .inr (3, [.ref (g 1), .ref (g 2), .ref (g 3), .ref (g 4), .int (iI (t0)), .int (iI (t1)), .int (iI (t2)), .int (iI (t3)), .int (iI (t4)), .int (iI (t5)), .int (iI (t6)), .int (iI (t7)), .int (iI (t8)), .int (iI (t9)), .int (iI (t10)), .ref (g 5), .ref (g 6), .int (iI (t11)), .ref (g 7), .ref (g 8), .ref (g 9), .ref (g 10), .ref (g 11), .ref (g 12), .int (iI (t12)), .int (iI (t13)), .int (iI (t14))]))] : va_W))) (kRi (fun z => z = t4)) 0 0 (fun _ => False) := by
  refine k_inR (cc := cX3_now) (maxL := 1) (ret := (some .int)) (by decide) rfl (Nat.le_of_ble_eq_true rfl) ?_
  intro p e s m below meth c ls hx hb hr hts hown hml hlocks hP hK hN hl
  have hown : s.vm.findClass RX3 = some m.cls := hown
  have hl : lv_has ls 1 [(0, .ref (g 0))] := hl
  have hiX3 : ∀ w ∈ u_ws RX3 TX3 27, w ∈ wsX3_now := by decide +kernel
  refine lv_aload_n hx hb dX3_now_0 rfl (lv_at hl 0 rfl) ?_
  refine va_get (D := (dC, dI)) (ci := 3) (C := RX3) (T := TX3) (N := 27) hx hb hts hiX3 hown hK hP 0 rfl rfl 8 (by decide) (hts (.fieldLink RX3 66 "PumpDeskModel" "now" "I") (by decide +kernel)) (fun _ h9 => h9) rfl dX3_now_1 ?_
  exact jr_i hx hb hr hlocks (rfl) dX3_now_4

set_option maxHeartbeats 4000000 in
set_option maxRecDepth 100000 in
theorem c_X3_ticks (l : Launch) (dC : Nat → ClassId) (dI : Nat → Nat → Nat) (cI cQ cR : ClassId) (g : Nat → Nat) (t0 t1 t2 t3 t4 t5 t6 t7 t8 t9 t10 t11 t12 t13 t14 : Int)  : Met l yX3_ticks wsX3_ticks ({ frames := 0, cells := 0, slots := 0, locals := 0 }) (kR (dC, dI) vwCl (kT cI cQ cR) [.ref (g 0)] (([(g 0, .inr (3, [.ref (g 1), .ref (g 2), .ref (g 3), .ref (g 4), .int (iI (t0)), .int (iI (t1)), .int (iI (t2)), .int (iI (t3)), .int (iI (t4)), .int (iI (t5)), .int (iI (t6)), .int (iI (t7)), .int (iI (t8)), .int (iI (t9)), .int (iI (t10)), .ref (g 5), .ref (g 6), .int (iI (t11)), .ref (g 7), .ref (g 8), .ref (g 9), .ref (g 10), .ref (g 11), .ref (g 12), .int (iI (t12)), .int (iI (t13)), .int (iI (t14))]))] : va_W))) (kRi (fun z => z = t7)) 0 0 (fun _ => False) := by
  refine k_inR (cc := cX3_ticks) (maxL := 1) (ret := (some .int)) (by decide) rfl (Nat.le_of_ble_eq_true rfl) ?_
  intro p e s m below meth c ls hx hb hr hts hown hml hlocks hP hK hN hl
  have hown : s.vm.findClass RX3 = some m.cls := hown
  have hl : lv_has ls 1 [(0, .ref (g 0))] := hl
  have hiX3 : ∀ w ∈ u_ws RX3 TX3 27, w ∈ wsX3_ticks := by decide +kernel
  refine lv_aload_n hx hb dX3_ticks_0 rfl (lv_at hl 0 rfl) ?_
  refine va_get (D := (dC, dI)) (ci := 3) (C := RX3) (T := TX3) (N := 27) hx hb hts hiX3 hown hK hP 0 rfl rfl 11 (by decide) (hts (.fieldLink RX3 102 "PumpDeskModel" "ticks" "I") (by decide +kernel)) (fun _ h9 => h9) rfl dX3_ticks_1 ?_
  exact jr_i hx hb hr hlocks (rfl) dX3_ticks_4

set_option maxHeartbeats 4000000 in
set_option maxRecDepth 100000 in
theorem c_X3_doses (l : Launch) (dC : Nat → ClassId) (dI : Nat → Nat → Nat) (cI cQ cR : ClassId) (g : Nat → Nat) (t0 t1 t2 t3 t4 t5 t6 t7 t8 t9 t10 t11 t12 t13 t14 : Int)  : Met l yX3_doses wsX3_doses ({ frames := 0, cells := 0, slots := 0, locals := 0 }) (kR (dC, dI) vwCl (kT cI cQ cR) [.ref (g 0)] (([(g 0, .inr (3, [.ref (g 1), .ref (g 2), .ref (g 3), .ref (g 4), .int (iI (t0)), .int (iI (t1)), .int (iI (t2)), .int (iI (t3)), .int (iI (t4)), .int (iI (t5)), .int (iI (t6)), .int (iI (t7)), .int (iI (t8)), .int (iI (t9)), .int (iI (t10)), .ref (g 5), .ref (g 6), .int (iI (t11)), .ref (g 7), .ref (g 8), .ref (g 9), .ref (g 10), .ref (g 11), .ref (g 12), .int (iI (t12)), .int (iI (t13)), .int (iI (t14))]))] : va_W))) (kRi (fun z => z = t11)) 0 0 (fun _ => False) := by
  refine k_inR (cc := cX3_doses) (maxL := 1) (ret := (some .int)) (by decide) rfl (Nat.le_of_ble_eq_true rfl) ?_
  intro p e s m below meth c ls hx hb hr hts hown hml hlocks hP hK hN hl
  have hown : s.vm.findClass RX3 = some m.cls := hown
  have hl : lv_has ls 1 [(0, .ref (g 0))] := hl
  have hiX3 : ∀ w ∈ u_ws RX3 TX3 27, w ∈ wsX3_doses := by decide +kernel
  refine lv_aload_n hx hb dX3_doses_0 rfl (lv_at hl 0 rfl) ?_
  refine va_get (D := (dC, dI)) (ci := 3) (C := RX3) (T := TX3) (N := 27) hx hb hts hiX3 hown hK hP 0 rfl rfl 17 (by decide) (hts (.fieldLink RX3 80 "PumpDeskModel" "doses" "I") (by decide +kernel)) (fun _ h9 => h9) rfl dX3_doses_1 ?_
  exact jr_i hx hb hr hlocks (rfl) dX3_doses_4

set_option maxHeartbeats 4000000 in
set_option maxRecDepth 100000 in
theorem c_X3_held (l : Launch) (dC : Nat → ClassId) (dI : Nat → Nat → Nat) (cI cQ cR : ClassId) (g : Nat → Nat) (t0 t1 t2 t3 t4 t5 t6 t7 t8 t9 t10 t11 t12 t13 t14 : Int) (hh : t6 = 0 ∨ t6 = 1) : Met l yX3_held wsX3_held ({ frames := 0, cells := 0, slots := 0, locals := 0 }) (kR (dC, dI) vwCl (kT cI cQ cR) [.ref (g 0)] (([(g 0, .inr (3, [.ref (g 1), .ref (g 2), .ref (g 3), .ref (g 4), .int (iI (t0)), .int (iI (t1)), .int (iI (t2)), .int (iI (t3)), .int (iI (t4)), .int (iI (t5)), .int (iI (t6)), .int (iI (t7)), .int (iI (t8)), .int (iI (t9)), .int (iI (t10)), .ref (g 5), .ref (g 6), .int (iI (t11)), .ref (g 7), .ref (g 8), .ref (g 9), .ref (g 10), .ref (g 11), .ref (g 12), .int (iI (t12)), .int (iI (t13)), .int (iI (t14))]))] : va_W))) (kRi (fun z => z = t6)) 0 0 (fun _ => False) := by
  refine k_inR (cc := cX3_held) (maxL := 1) (ret := (some .boolean)) (by decide) rfl (Nat.le_of_ble_eq_true rfl) ?_
  intro p e s m below meth c ls hx hb hr hts hown hml hlocks hP hK hN hl
  have hown : s.vm.findClass RX3 = some m.cls := hown
  have hl : lv_has ls 1 [(0, .ref (g 0))] := hl
  have hiX3 : ∀ w ∈ u_ws RX3 TX3 27, w ∈ wsX3_held := by decide +kernel
  refine lv_aload_n hx hb dX3_held_0 rfl (lv_at hl 0 rfl) ?_
  refine va_get (D := (dC, dI)) (ci := 3) (C := RX3) (T := TX3) (N := 27) hx hb hts hiX3 hown hK hP 0 rfl rfl 10 (by decide) (hts (.fieldLink RX3 69 "PumpDeskModel" "held" "Z") (by decide +kernel)) (fun _ h9 => h9) rfl dX3_held_1 ?_
  exact jr_z hx hb hr hlocks (hh) (rfl) dX3_held_4

set_option maxHeartbeats 4000000 in
set_option maxRecDepth 100000 in
theorem c_X3_last (l : Launch) (dC : Nat → ClassId) (dI : Nat → Nat → Nat) (cI cQ cR : ClassId) (g : Nat → Nat) (t0 t1 t2 t3 t4 t5 t6 t7 t8 t9 t10 t11 t12 t13 t14 : Int) (a : Int) (ra : -2147483648 ≤ a ∧ a ≤ 2147483647) (hh : t8 = 0 ∨ t8 = 1) : Met l yX3_last wsX3_last ({ frames := 0, cells := 0, slots := 0, locals := 0 }) (kR (dC, dI) vwCl (kT cI cQ cR) [.ref (g 0), .int (iI (a))] (([(g 0, .inr (3, [.ref (g 1), .ref (g 2), .ref (g 3), .ref (g 4), .int (iI (t0)), .int (iI (t1)), .int (iI (t2)), .int (iI (t3)), .int (iI (t4)), .int (iI (t5)), .int (iI (t6)), .int (iI (t7)), .int (iI (t8)), .int (iI (t9)), .int (iI (t10)), .ref (g 5), .ref (g 6), .int (iI (t11)), .ref (g 7), .ref (g 8), .ref (g 9), .ref (g 10), .ref (g 11), .ref (g 12), .int (iI (t12)), .int (iI (t13)), .int (iI (t14))]))] : va_W))) (kRi (fun z => (t8 = 0 ∧ z = -1) ∨ (t8 = 1 ∧ ((a = 0 ∧ z = t9) ∨ (a = 1 ∧ z = t10) ∨ (¬ a = 0 ∧ ¬ a = 1 ∧ z = -1))))) 0 0 (fun _ => False) := by
  refine k_inR (cc := cX3_last) (maxL := 2) (ret := (some .int)) (by decide) rfl (Nat.le_of_ble_eq_true rfl) ?_
  intro p e s m below meth c ls hx hb hr hts hown hml hlocks hP hK hN hl
  have hown : s.vm.findClass RX3 = some m.cls := hown
  have hl : lv_has ls 2 [(0, .ref (g 0)), (1, .int (iI (a)))] := hl
  have hiX3 : ∀ w ∈ u_ws RX3 TX3 27, w ∈ wsX3_last := by decide +kernel
  refine lv_aload_n hx hb dX3_last_0 rfl (lv_at hl 0 rfl) ?_
  refine va_get (D := (dC, dI)) (ci := 3) (C := RX3) (T := TX3) (N := 27) hx hb hts hiX3 hown hK hP 0 rfl rfl 12 (by decide) (hts (.fieldLink RX3 93 "PumpDeskModel" "hasReading" "Z") (by decide +kernel)) (fun _ h9 => h9) rfl dX3_last_1 ?_
  refine jz_if_ne (tgt := 11) hx hb dX3_last_4 (by decide) (by omega) (fun cd4 => ?_) (fun cd4 => ?_)
  · refine lv_iload_n hx hb dX3_last_11 rfl (lv_at hl 1 rfl) ?_
    refine jz_if_ne (tgt := 22) hx hb dX3_last_12 (by decide) (by omega) (fun cd12 => ?_) (fun cd12 => ?_)
    · refine lv_iload_n hx hb dX3_last_22 rfl (lv_at hl 1 rfl) ?_
      refine jz_iconst hx hb dX3_last_23 ?_
      refine jz_icmp_ne (tgt := 34) hx hb dX3_last_24 (by decide) (by omega) (fun cd24 => ?_) (fun cd24 => ?_)
      · refine jz_iconst hx hb dX3_last_34 ?_
        exact jr_i hx hb hr hlocks (by omega) dX3_last_35
      · refine lv_aload_n hx hb dX3_last_27 rfl (lv_at hl 0 rfl) ?_
        refine va_get (D := (dC, dI)) (ci := 3) (C := RX3) (T := TX3) (N := 27) hx hb hts hiX3 hown hK hP 0 rfl rfl 14 (by decide) (hts (.fieldLink RX3 99 "PumpDeskModel" "lastMinute" "I") (by decide +kernel)) (fun _ h9 => h9) rfl dX3_last_28 ?_
        refine lv_goto (tgt := 35) hx hb dX3_last_31 (by decide) ?_
        exact jr_i hx hb hr hlocks (by omega) dX3_last_35
    · refine lv_aload_n hx hb dX3_last_15 rfl (lv_at hl 0 rfl) ?_
      refine va_get (D := (dC, dI)) (ci := 3) (C := RX3) (T := TX3) (N := 27) hx hb hts hiX3 hown hK hP 0 rfl rfl 13 (by decide) (hts (.fieldLink RX3 96 "PumpDeskModel" "lastValue" "I") (by decide +kernel)) (fun _ h9 => h9) rfl dX3_last_16 ?_
      refine lv_goto (tgt := 35) hx hb dX3_last_19 (by decide) ?_
      exact jr_i hx hb hr hlocks (by omega) dX3_last_35
  · refine jz_iconst hx hb dX3_last_7 ?_
    refine lv_goto (tgt := 35) hx hb dX3_last_8 (by decide) ?_
    exact jr_i hx hb hr hlocks (by omega) dX3_last_35

set_option maxHeartbeats 4000000 in
set_option maxRecDepth 100000 in
theorem c_X3_isMinute (l : Launch) (dC : Nat → ClassId) (dI : Nat → Nat → Nat) (cI cQ cR : ClassId) (g : Nat → Nat) (t0 t1 t2 t3 t4 t5 t6 t7 t8 t9 t10 t11 t12 t13 t14 : Int) (a : Int) (ra : -2147483648 ≤ a ∧ a ≤ 2147483647) (hn : 0 ≤ t4 ∧ t4 ≤ 100000) : Met l yX3_isMinute wsX3_isMinute ({ frames := 0, cells := 0, slots := 0, locals := 0 }) (kR (dC, dI) vwCl (kT cI cQ cR) [.ref (g 0), .int (iI (a))] (([(g 0, .inr (3, [.ref (g 1), .ref (g 2), .ref (g 3), .ref (g 4), .int (iI (t0)), .int (iI (t1)), .int (iI (t2)), .int (iI (t3)), .int (iI (t4)), .int (iI (t5)), .int (iI (t6)), .int (iI (t7)), .int (iI (t8)), .int (iI (t9)), .int (iI (t10)), .ref (g 5), .ref (g 6), .int (iI (t11)), .ref (g 7), .ref (g 8), .ref (g 9), .ref (g 10), .ref (g 11), .ref (g 12), .int (iI (t12)), .int (iI (t13)), .int (iI (t14))]))] : va_W))) (kRi (fun z => (z = 1 ∧ (t4 ≤ a ∧ a ≤ 100000 ∧ a ≤ t4 + 2880)) ∨ (z = 0 ∧ ¬ (t4 ≤ a ∧ a ≤ 100000 ∧ a ≤ t4 + 2880)))) 0 0 (fun _ => False) := by
  refine k_inR (cc := cX3_isMinute) (maxL := 2) (ret := (some .boolean)) (by decide) rfl (Nat.le_of_ble_eq_true rfl) ?_
  intro p e s m below meth c ls hx hb hr hts hown hml hlocks hP hK hN hl
  have hown : s.vm.findClass RX3 = some m.cls := hown
  have hl : lv_has ls 2 [(0, .ref (g 0)), (1, .int (iI (a)))] := hl
  have hiX3 : ∀ w ∈ u_ws RX3 TX3 27, w ∈ wsX3_isMinute := by decide +kernel
  refine lv_iload_n hx hb dX3_isMinute_0 rfl (lv_at hl 1 rfl) ?_
  refine lv_aload_n hx hb dX3_isMinute_1 rfl (lv_at hl 0 rfl) ?_
  refine va_get (D := (dC, dI)) (ci := 3) (C := RX3) (T := TX3) (N := 27) hx hb hts hiX3 hown hK hP 0 rfl rfl 8 (by decide) (hts (.fieldLink RX3 66 "PumpDeskModel" "now" "I") (by decide +kernel)) (fun _ h9 => h9) rfl dX3_isMinute_2 ?_
  refine jz_icmp_lt (tgt := 30) hx hb dX3_isMinute_5 (by decide) (by omega) (fun cd5 => ?_) (fun cd5 => ?_)
  · refine jz_iconst hx hb dX3_isMinute_30 ?_
    exact jr_z hx hb hr hlocks (by omega) (by omega) dX3_isMinute_31
  · refine lv_iload_n hx hb dX3_isMinute_8 rfl (lv_at hl 1 rfl) ?_
    refine lv_ldc (v := iI (100000)) hx hb hown (hts (.constant RX3 64 100000) (by decide +kernel)) dX3_isMinute_9 ?_
    refine jz_icmp_gt (tgt := 30) hx hb dX3_isMinute_11 (by decide) (by omega) (fun cd11 => ?_) (fun cd11 => ?_)
    · refine jz_iconst hx hb dX3_isMinute_30 ?_
      exact jr_z hx hb hr hlocks (by omega) (by omega) dX3_isMinute_31
    · refine lv_iload_n hx hb dX3_isMinute_14 rfl (lv_at hl 1 rfl) ?_
      refine lv_aload_n hx hb dX3_isMinute_15 rfl (lv_at hl 0 rfl) ?_
      refine va_get (D := (dC, dI)) (ci := 3) (C := RX3) (T := TX3) (N := 27) hx hb hts hiX3 hown hK hP 0 rfl rfl 8 (by decide) (hts (.fieldLink RX3 66 "PumpDeskModel" "now" "I") (by decide +kernel)) (fun _ h9 => h9) rfl dX3_isMinute_16 ?_
      refine jz_sipush hx hb dX3_isMinute_19 rfl ?_
      refine jz_iadd hx hb dX3_isMinute_22 ?_
      refine jz_icmp_gt (tgt := 30) hx hb dX3_isMinute_23 (by decide) (by omega) (fun cd23 => ?_) (fun cd23 => ?_)
      · refine jz_iconst hx hb dX3_isMinute_30 ?_
        exact jr_z hx hb hr hlocks (by omega) (by omega) dX3_isMinute_31
      · refine jz_iconst hx hb dX3_isMinute_26 ?_
        refine lv_goto (tgt := 31) hx hb dX3_isMinute_27 (by decide) ?_
        exact jr_z hx hb hr hlocks (by omega) (by omega) dX3_isMinute_31

set_option maxHeartbeats 4000000 in
set_option maxRecDepth 100000 in
theorem c_X3_limits (l : Launch) (dC : Nat → ClassId) (dI : Nat → Nat → Nat) (cI cQ cR : ClassId) (g : Nat → Nat) (t0 t1 t2 t3 t4 t5 t6 t7 t8 t9 t10 t11 t12 t13 t14 : Int) (wr : va_W) (a1 a2 a3 a4 : Int) (sz : Nat) (ra1 : -2147483648 ≤ a1 ∧ a1 ≤ 2147483647) (ra2 : -2147483648 ≤ a2 ∧ a2 ≤ 2147483647) (ra3 : -2147483648 ≤ a3 ∧ a3 ≤ 2147483647) (ra4 : -2147483648 ≤ a4 ∧ a4 ≤ 2147483647) : Met l yX3_limits wsX3_limits ({ frames := 0, cells := 0, slots := 0, locals := 0 }) (kPc (dC, dI) vwCl (kT cI cQ cR) [.ref (g 0), .int (iI (a1)), .int (iI (a2)), .int (iI (a3)), .int (iI (a4))] (([(g 0, .inr (3, [.ref (g 1), .ref (g 2), .ref (g 3), .ref (g 4), .int (iI (t0)), .int (iI (t1)), .int (iI (t2)), .int (iI (t3)), .int (iI (t4)), .int (iI (t5)), .int (iI (t6)), .int (iI (t7)), .int (iI (t8)), .int (iI (t9)), .int (iI (t10)), .ref (g 5), .ref (g 6), .int (iI (t11)), .ref (g 7), .ref (g 8), .ref (g 9), .ref (g 10), .ref (g 11), .ref (g 12), .int (iI (t12)), .int (iI (t13)), .int (iI (t14))]))] : va_W) ++ wr) sz) (kQi (dC, dI) vwCl (va_A (([(g 0, .inr (3, [.ref (g 1), .ref (g 2), .ref (g 3), .ref (g 4), .int (iI (t0)), .int (iI (t1)), .int (iI (t2)), .int (iI (t3)), .int (iI (t4)), .int (iI (t5)), .int (iI (t6)), .int (iI (t7)), .int (iI (t8)), .int (iI (t9)), .int (iI (t10)), .ref (g 5), .ref (g 6), .int (iI (t11)), .ref (g 7), .ref (g 8), .ref (g 9), .ref (g 10), .ref (g 11), .ref (g 12), .int (iI (t12)), .int (iI (t13)), .int (iI (t14))]))] : va_W) ++ wr) sz) (fun (z : Int) (u : Int × Int × Int × Int) => (z = 1 ∧ (0 ≤ a1 ∧ a1 ≤ 100000 ∧ 0 ≤ a2 ∧ a2 ≤ 1000000 ∧ 1 ≤ a3 ∧ a3 ≤ 400 ∧ 1 ≤ a4 ∧ a4 ≤ 20) ∧ u.1 = a1 ∧ u.2.1 = a2 ∧ u.2.2.1 = a3 ∧ u.2.2.2 = a4) ∨ (z = 0 ∧ ¬ (0 ≤ a1 ∧ a1 ≤ 100000 ∧ 0 ≤ a2 ∧ a2 ≤ 1000000 ∧ 1 ≤ a3 ∧ a3 ≤ 400 ∧ 1 ≤ a4 ∧ a4 ≤ 20) ∧ u.1 = t0 ∧ u.2.1 = t1 ∧ u.2.2.1 = t2 ∧ u.2.2.2 = t3)) (fun (u : Int × Int × Int × Int) => ([(g 0, .inr (3, [.ref (g 1), .ref (g 2), .ref (g 3), .ref (g 4), .int (iI (u.1)), .int (iI (u.2.1)), .int (iI (u.2.2.1)), .int (iI (u.2.2.2)), .int (iI (t4)), .int (iI (t5)), .int (iI (t6)), .int (iI (t7)), .int (iI (t8)), .int (iI (t9)), .int (iI (t10)), .ref (g 5), .ref (g 6), .int (iI (t11)), .ref (g 7), .ref (g 8), .ref (g 9), .ref (g 10), .ref (g 11), .ref (g 12), .int (iI (t12)), .int (iI (t13)), .int (iI (t14))]))] : va_W) ++ wr)) 0 0 (va_A (([(g 0, .inr (3, [.ref (g 1), .ref (g 2), .ref (g 3), .ref (g 4), .int (iI (t0)), .int (iI (t1)), .int (iI (t2)), .int (iI (t3)), .int (iI (t4)), .int (iI (t5)), .int (iI (t6)), .int (iI (t7)), .int (iI (t8)), .int (iI (t9)), .int (iI (t10)), .ref (g 5), .ref (g 6), .int (iI (t11)), .ref (g 7), .ref (g 8), .ref (g 9), .ref (g 10), .ref (g 11), .ref (g 12), .int (iI (t12)), .int (iI (t13)), .int (iI (t14))]))] : va_W) ++ wr) sz) := by
  refine k_inWi (cc := cX3_limits) (maxL := 5) (ret := (some .boolean)) (by decide) rfl (Nat.le_of_ble_eq_true rfl) ?_
  intro p e s m below meth c ls A hx hb hr hts hown hml hlocks hin hP hK hN hD hS hA hAo hl
  have hown : s.vm.findClass RX3 = some m.cls := hown
  have hl : lv_has ls 5 [(0, .ref (g 0)), (1, .int (iI (a1))), (2, .int (iI (a2))), (3, .int (iI (a3))), (4, .int (iI (a4)))] := hl
  have hiX3 : ∀ w ∈ u_ws RX3 TX3 27, w ∈ wsX3_limits := by decide +kernel
  refine lv_iload_n hx hb dX3_limits_0 rfl (lv_at hl 1 rfl) ?_
  refine jz_if_lt (tgt := 45) hx hb dX3_limits_1 (by decide) (by omega) (fun cd1 => ?_) (fun cd1 => ?_)
  · refine jz_iconst hx hb dX3_limits_45 ?_
    exact jw_z hx hb hr hlocks (((t0), (t1), (t2), (t3))) (by omega) (by dsimp only; omega) hP hD hS dX3_limits_46
  · refine lv_iload_n hx hb dX3_limits_4 rfl (lv_at hl 1 rfl) ?_
    refine lv_ldc (v := iI (100000)) hx hb hown (hts (.constant RX3 64 100000) (by decide +kernel)) dX3_limits_5 ?_
    refine jz_icmp_gt (tgt := 45) hx hb dX3_limits_7 (by decide) (by omega) (fun cd7 => ?_) (fun cd7 => ?_)
    · refine jz_iconst hx hb dX3_limits_45 ?_
      exact jw_z hx hb hr hlocks (((t0), (t1), (t2), (t3))) (by omega) (by dsimp only; omega) hP hD hS dX3_limits_46
    · refine lv_iload_n hx hb dX3_limits_10 rfl (lv_at hl 2 rfl) ?_
      refine jz_if_lt (tgt := 45) hx hb dX3_limits_11 (by decide) (by omega) (fun cd11 => ?_) (fun cd11 => ?_)
      · refine jz_iconst hx hb dX3_limits_45 ?_
        exact jw_z hx hb hr hlocks (((t0), (t1), (t2), (t3))) (by omega) (by dsimp only; omega) hP hD hS dX3_limits_46
      · refine lv_iload_n hx hb dX3_limits_14 rfl (lv_at hl 2 rfl) ?_
        refine lv_ldc (v := iI (1000000)) hx hb hown (hts (.constant RX3 65 1000000) (by decide +kernel)) dX3_limits_15 ?_
        refine jz_icmp_gt (tgt := 45) hx hb dX3_limits_17 (by decide) (by omega) (fun cd17 => ?_) (fun cd17 => ?_)
        · refine jz_iconst hx hb dX3_limits_45 ?_
          exact jw_z hx hb hr hlocks (((t0), (t1), (t2), (t3))) (by omega) (by dsimp only; omega) hP hD hS dX3_limits_46
        · refine lv_iload_n hx hb dX3_limits_20 rfl (lv_at hl 3 rfl) ?_
          refine jz_iconst hx hb dX3_limits_21 ?_
          refine jz_icmp_lt (tgt := 45) hx hb dX3_limits_22 (by decide) (by omega) (fun cd22 => ?_) (fun cd22 => ?_)
          · refine jz_iconst hx hb dX3_limits_45 ?_
            exact jw_z hx hb hr hlocks (((t0), (t1), (t2), (t3))) (by omega) (by dsimp only; omega) hP hD hS dX3_limits_46
          · refine lv_iload_n hx hb dX3_limits_25 rfl (lv_at hl 3 rfl) ?_
            refine jz_sipush hx hb dX3_limits_26 rfl ?_
            refine jz_icmp_gt (tgt := 45) hx hb dX3_limits_29 (by decide) (by omega) (fun cd29 => ?_) (fun cd29 => ?_)
            · refine jz_iconst hx hb dX3_limits_45 ?_
              exact jw_z hx hb hr hlocks (((t0), (t1), (t2), (t3))) (by omega) (by dsimp only; omega) hP hD hS dX3_limits_46
            · refine lv_iload hx hb dX3_limits_32 (lv_at hl 4 rfl) ?_
              refine jz_iconst hx hb dX3_limits_34 ?_
              refine jz_icmp_lt (tgt := 45) hx hb dX3_limits_35 (by decide) (by omega) (fun cd35 => ?_) (fun cd35 => ?_)
              · refine jz_iconst hx hb dX3_limits_45 ?_
                exact jw_z hx hb hr hlocks (((t0), (t1), (t2), (t3))) (by omega) (by dsimp only; omega) hP hD hS dX3_limits_46
              · refine lv_iload hx hb dX3_limits_38 (lv_at hl 4 rfl) ?_
                refine jz_bipush hx hb dX3_limits_40 rfl ?_
                refine jz_icmp_le (tgt := 47) hx hb dX3_limits_42 (by decide) (by omega) (fun cd42 => ?_) (fun cd42 => ?_)
                · refine lv_aload_n hx hb dX3_limits_47 rfl (lv_at hl 0 rfl) ?_
                  refine lv_iload_n hx hb dX3_limits_48 rfl (lv_at hl 1 rfl) ?_
                  refine va_put (D := (dC, dI)) (ci := 3) (v := .int (iI (a1))) (ty := .int) (C := RX3) (T := TX3) (N := 27) hx hb hts hiX3 tyX3 tyX3_ok nmX3 hown hK hP hD hS 0 rfl rfl 4 (by decide) (hts (.fieldLink RX3 22 "PumpDeskModel" "mostDose" "I") (by decide +kernel)) (fun _ h9 => h9) rfl (by decide +kernel) rfl rfl (Nat.le_of_ble_eq_true rfl) dX3_limits_49 (fun H locs hP hD hS => ?_)
                  have hP : va_P (dC, dI) vwCl (([(g 0, .inr (3, [.ref (g 1), .ref (g 2), .ref (g 3), .ref (g 4), .int (iI (a1)), .int (iI (t1)), .int (iI (t2)), .int (iI (t3)), .int (iI (t4)), .int (iI (t5)), .int (iI (t6)), .int (iI (t7)), .int (iI (t8)), .int (iI (t9)), .int (iI (t10)), .ref (g 5), .ref (g 6), .int (iI (t11)), .ref (g 7), .ref (g 8), .ref (g 9), .ref (g 10), .ref (g 11), .ref (g 12), .int (iI (t12)), .int (iI (t13)), .int (iI (t14))]))] : va_W) ++ wr) H := hP
                  have hD : va_D A (([(g 0, .inr (3, [.ref (g 1), .ref (g 2), .ref (g 3), .ref (g 4), .int (iI (a1)), .int (iI (t1)), .int (iI (t2)), .int (iI (t3)), .int (iI (t4)), .int (iI (t5)), .int (iI (t6)), .int (iI (t7)), .int (iI (t8)), .int (iI (t9)), .int (iI (t10)), .ref (g 5), .ref (g 6), .int (iI (t11)), .ref (g 7), .ref (g 8), .ref (g 9), .ref (g 10), .ref (g 11), .ref (g 12), .int (iI (t12)), .int (iI (t13)), .int (iI (t14))]))] : va_W) ++ wr) := hD
                  refine lv_aload_n hx hb dX3_limits_52 rfl (lv_at hl 0 rfl) ?_
                  refine lv_iload_n hx hb dX3_limits_53 rfl (lv_at hl 2 rfl) ?_
                  refine va_put (D := (dC, dI)) (ci := 3) (v := .int (iI (a2))) (ty := .int) (C := RX3) (T := TX3) (N := 27) hx hb hts hiX3 tyX3 tyX3_ok nmX3 hown hK hP hD hS 0 rfl rfl 5 (by decide) (hts (.fieldLink RX3 27 "PumpDeskModel" "mostDay" "I") (by decide +kernel)) (fun _ h9 => h9) rfl (by decide +kernel) rfl rfl (Nat.le_of_ble_eq_true rfl) dX3_limits_54 (fun H locs hP hD hS => ?_)
                  have hP : va_P (dC, dI) vwCl (([(g 0, .inr (3, [.ref (g 1), .ref (g 2), .ref (g 3), .ref (g 4), .int (iI (a1)), .int (iI (a2)), .int (iI (t2)), .int (iI (t3)), .int (iI (t4)), .int (iI (t5)), .int (iI (t6)), .int (iI (t7)), .int (iI (t8)), .int (iI (t9)), .int (iI (t10)), .ref (g 5), .ref (g 6), .int (iI (t11)), .ref (g 7), .ref (g 8), .ref (g 9), .ref (g 10), .ref (g 11), .ref (g 12), .int (iI (t12)), .int (iI (t13)), .int (iI (t14))]))] : va_W) ++ wr) H := hP
                  have hD : va_D A (([(g 0, .inr (3, [.ref (g 1), .ref (g 2), .ref (g 3), .ref (g 4), .int (iI (a1)), .int (iI (a2)), .int (iI (t2)), .int (iI (t3)), .int (iI (t4)), .int (iI (t5)), .int (iI (t6)), .int (iI (t7)), .int (iI (t8)), .int (iI (t9)), .int (iI (t10)), .ref (g 5), .ref (g 6), .int (iI (t11)), .ref (g 7), .ref (g 8), .ref (g 9), .ref (g 10), .ref (g 11), .ref (g 12), .int (iI (t12)), .int (iI (t13)), .int (iI (t14))]))] : va_W) ++ wr) := hD
                  refine lv_aload_n hx hb dX3_limits_57 rfl (lv_at hl 0 rfl) ?_
                  refine lv_iload_n hx hb dX3_limits_58 rfl (lv_at hl 3 rfl) ?_
                  refine va_put (D := (dC, dI)) (ci := 3) (v := .int (iI (a3))) (ty := .int) (C := RX3) (T := TX3) (N := 27) hx hb hts hiX3 tyX3 tyX3_ok nmX3 hown hK hP hD hS 0 rfl rfl 6 (by decide) (hts (.fieldLink RX3 30 "PumpDeskModel" "threshold" "I") (by decide +kernel)) (fun _ h9 => h9) rfl (by decide +kernel) rfl rfl (Nat.le_of_ble_eq_true rfl) dX3_limits_59 (fun H locs hP hD hS => ?_)
                  have hP : va_P (dC, dI) vwCl (([(g 0, .inr (3, [.ref (g 1), .ref (g 2), .ref (g 3), .ref (g 4), .int (iI (a1)), .int (iI (a2)), .int (iI (a3)), .int (iI (t3)), .int (iI (t4)), .int (iI (t5)), .int (iI (t6)), .int (iI (t7)), .int (iI (t8)), .int (iI (t9)), .int (iI (t10)), .ref (g 5), .ref (g 6), .int (iI (t11)), .ref (g 7), .ref (g 8), .ref (g 9), .ref (g 10), .ref (g 11), .ref (g 12), .int (iI (t12)), .int (iI (t13)), .int (iI (t14))]))] : va_W) ++ wr) H := hP
                  have hD : va_D A (([(g 0, .inr (3, [.ref (g 1), .ref (g 2), .ref (g 3), .ref (g 4), .int (iI (a1)), .int (iI (a2)), .int (iI (a3)), .int (iI (t3)), .int (iI (t4)), .int (iI (t5)), .int (iI (t6)), .int (iI (t7)), .int (iI (t8)), .int (iI (t9)), .int (iI (t10)), .ref (g 5), .ref (g 6), .int (iI (t11)), .ref (g 7), .ref (g 8), .ref (g 9), .ref (g 10), .ref (g 11), .ref (g 12), .int (iI (t12)), .int (iI (t13)), .int (iI (t14))]))] : va_W) ++ wr) := hD
                  refine lv_aload_n hx hb dX3_limits_62 rfl (lv_at hl 0 rfl) ?_
                  refine lv_iload hx hb dX3_limits_63 (lv_at hl 4 rfl) ?_
                  refine va_put (D := (dC, dI)) (ci := 3) (v := .int (iI (a4))) (ty := .int) (C := RX3) (T := TX3) (N := 27) hx hb hts hiX3 tyX3 tyX3_ok nmX3 hown hK hP hD hS 0 rfl rfl 7 (by decide) (hts (.fieldLink RX3 33 "PumpDeskModel" "wantTicks" "I") (by decide +kernel)) (fun _ h9 => h9) rfl (by decide +kernel) rfl rfl (Nat.le_of_ble_eq_true rfl) dX3_limits_65 (fun H locs hP hD hS => ?_)
                  have hP : va_P (dC, dI) vwCl (([(g 0, .inr (3, [.ref (g 1), .ref (g 2), .ref (g 3), .ref (g 4), .int (iI (a1)), .int (iI (a2)), .int (iI (a3)), .int (iI (a4)), .int (iI (t4)), .int (iI (t5)), .int (iI (t6)), .int (iI (t7)), .int (iI (t8)), .int (iI (t9)), .int (iI (t10)), .ref (g 5), .ref (g 6), .int (iI (t11)), .ref (g 7), .ref (g 8), .ref (g 9), .ref (g 10), .ref (g 11), .ref (g 12), .int (iI (t12)), .int (iI (t13)), .int (iI (t14))]))] : va_W) ++ wr) H := hP
                  have hD : va_D A (([(g 0, .inr (3, [.ref (g 1), .ref (g 2), .ref (g 3), .ref (g 4), .int (iI (a1)), .int (iI (a2)), .int (iI (a3)), .int (iI (a4)), .int (iI (t4)), .int (iI (t5)), .int (iI (t6)), .int (iI (t7)), .int (iI (t8)), .int (iI (t9)), .int (iI (t10)), .ref (g 5), .ref (g 6), .int (iI (t11)), .ref (g 7), .ref (g 8), .ref (g 9), .ref (g 10), .ref (g 11), .ref (g 12), .int (iI (t12)), .int (iI (t13)), .int (iI (t14))]))] : va_W) ++ wr) := hD
                  refine jz_iconst hx hb dX3_limits_68 ?_
                  exact jw_z hx hb hr hlocks (((a1), (a2), (a3), (a4))) (by omega) (by dsimp only; omega) hP hD hS dX3_limits_69
                · refine jz_iconst hx hb dX3_limits_45 ?_
                  exact jw_z hx hb hr hlocks (((t0), (t1), (t2), (t3))) (by omega) (by dsimp only; omega) hP hD hS dX3_limits_46

set_option maxHeartbeats 4000000 in
set_option maxRecDepth 100000 in
theorem c_X3_decay (l : Launch) (dC : Nat → ClassId) (dI : Nat → Nat → Nat) (cI cQ cR : ClassId) (g : Nat → Nat) (t0 t1 t2 t3 t4 t5 t6 t7 t8 t9 t10 t11 t12 t13 t14 : Int) (msh : Int → Int) (wr : va_W) (a1 a2 : Int) (sz : Nat) (ra1 : -2147483648 ≤ a1 ∧ a1 ≤ 2147483647) (ra2 : -2147483648 ≤ a2 ∧ a2 ≤ 2147483647) (hrmsh : ∀ j : Int, -2147483648 ≤ msh j ∧ msh j ≤ 2147483647) : Met l yX3_decay wsX3_decay ({ frames := 0, cells := 0, slots := 0, locals := 0 }) (kPc (dC, dI) vwCl (kT cI cQ cR) [.ref (g 0), .int (iI (a1)), .int (iI (a2))] (([(g 0, .inr (3, [.ref (g 1), .ref (g 2), .ref (g 3), .ref (g 4), .int (iI (t0)), .int (iI (t1)), .int (iI (t2)), .int (iI (t3)), .int (iI (t4)), .int (iI (t5)), .int (iI (t6)), .int (iI (t7)), .int (iI (t8)), .int (iI (t9)), .int (iI (t10)), .ref (g 5), .ref (g 6), .int (iI (t11)), .ref (g 7), .ref (g 8), .ref (g 9), .ref (g 10), .ref (g 11), .ref (g 12), .int (iI (t12)), .int (iI (t13)), .int (iI (t14))])), (g 4, .inl (cI, 33, .inl (jA (msh))))] : va_W) ++ wr) sz) (kQi (dC, dI) vwCl (va_A (([(g 0, .inr (3, [.ref (g 1), .ref (g 2), .ref (g 3), .ref (g 4), .int (iI (t0)), .int (iI (t1)), .int (iI (t2)), .int (iI (t3)), .int (iI (t4)), .int (iI (t5)), .int (iI (t6)), .int (iI (t7)), .int (iI (t8)), .int (iI (t9)), .int (iI (t10)), .ref (g 5), .ref (g 6), .int (iI (t11)), .ref (g 7), .ref (g 8), .ref (g 9), .ref (g 10), .ref (g 11), .ref (g 12), .int (iI (t12)), .int (iI (t13)), .int (iI (t14))])), (g 4, .inl (cI, 33, .inl (jA (msh))))] : va_W) ++ wr) sz) (fun (z : Int) (u : Int → Int) => (z = 1 ∧ (0 ≤ a1 ∧ a1 ≤ 32 ∧ 0 ≤ a2 ∧ a2 ≤ 1000 ∧ (¬ a1 = 0 → a2 ≤ msh (a1 - 1)) ∧ (¬ a1 = 32 → msh (a1 + 1) ≤ a2)) ∧ u = jU msh a1 a2) ∨ (z = 0 ∧ ¬ (0 ≤ a1 ∧ a1 ≤ 32 ∧ 0 ≤ a2 ∧ a2 ≤ 1000 ∧ (¬ a1 = 0 → a2 ≤ msh (a1 - 1)) ∧ (¬ a1 = 32 → msh (a1 + 1) ≤ a2)) ∧ u = msh)) (fun (u : Int → Int) => ([(g 0, .inr (3, [.ref (g 1), .ref (g 2), .ref (g 3), .ref (g 4), .int (iI (t0)), .int (iI (t1)), .int (iI (t2)), .int (iI (t3)), .int (iI (t4)), .int (iI (t5)), .int (iI (t6)), .int (iI (t7)), .int (iI (t8)), .int (iI (t9)), .int (iI (t10)), .ref (g 5), .ref (g 6), .int (iI (t11)), .ref (g 7), .ref (g 8), .ref (g 9), .ref (g 10), .ref (g 11), .ref (g 12), .int (iI (t12)), .int (iI (t13)), .int (iI (t14))])), (g 4, .inl (cI, 33, .inl (jA (u))))] : va_W) ++ wr)) 0 0 (va_A (([(g 0, .inr (3, [.ref (g 1), .ref (g 2), .ref (g 3), .ref (g 4), .int (iI (t0)), .int (iI (t1)), .int (iI (t2)), .int (iI (t3)), .int (iI (t4)), .int (iI (t5)), .int (iI (t6)), .int (iI (t7)), .int (iI (t8)), .int (iI (t9)), .int (iI (t10)), .ref (g 5), .ref (g 6), .int (iI (t11)), .ref (g 7), .ref (g 8), .ref (g 9), .ref (g 10), .ref (g 11), .ref (g 12), .int (iI (t12)), .int (iI (t13)), .int (iI (t14))])), (g 4, .inl (cI, 33, .inl (jA (msh))))] : va_W) ++ wr) sz) := by
  refine k_inWi (cc := cX3_decay) (maxL := 3) (ret := (some .boolean)) (by decide) rfl (Nat.le_of_ble_eq_true rfl) ?_
  intro p e s m below meth c ls A hx hb hr hts hown hml hlocks hin hP hK hN hD hS hA hAo hl
  have hown : s.vm.findClass RX3 = some m.cls := hown
  have hl : lv_has ls 3 [(0, .ref (g 0)), (1, .int (iI (a1))), (2, .int (iI (a2)))] := hl
  have hiX3 : ∀ w ∈ u_ws RX3 TX3 27, w ∈ wsX3_decay := by decide +kernel
  refine lv_iload_n hx hb dX3_decay_0 rfl (lv_at hl 1 rfl) ?_
  refine jz_if_lt (tgt := 55) hx hb dX3_decay_1 (by decide) (by omega) (fun cd1 => ?_) (fun cd1 => ?_)
  · refine jz_iconst hx hb dX3_decay_55 ?_
    exact jw_z hx hb hr hlocks (msh) (by omega) (Or.inr ⟨rfl, by omega, rfl⟩) hP hD hS dX3_decay_56
  · refine lv_iload_n hx hb dX3_decay_4 rfl (lv_at hl 1 rfl) ?_
    refine jz_bipush hx hb dX3_decay_5 rfl ?_
    refine jz_icmp_gt (tgt := 55) hx hb dX3_decay_7 (by decide) (by omega) (fun cd7 => ?_) (fun cd7 => ?_)
    · refine jz_iconst hx hb dX3_decay_55 ?_
      exact jw_z hx hb hr hlocks (msh) (by omega) (Or.inr ⟨rfl, by omega, rfl⟩) hP hD hS dX3_decay_56
    · refine lv_iload_n hx hb dX3_decay_10 rfl (lv_at hl 2 rfl) ?_
      refine jz_if_lt (tgt := 55) hx hb dX3_decay_11 (by decide) (by omega) (fun cd11 => ?_) (fun cd11 => ?_)
      · refine jz_iconst hx hb dX3_decay_55 ?_
        exact jw_z hx hb hr hlocks (msh) (by omega) (Or.inr ⟨rfl, by omega, rfl⟩) hP hD hS dX3_decay_56
      · refine lv_iload_n hx hb dX3_decay_14 rfl (lv_at hl 2 rfl) ?_
        refine jz_sipush hx hb dX3_decay_15 rfl ?_
        refine jz_icmp_gt (tgt := 55) hx hb dX3_decay_18 (by decide) (by omega) (fun cd18 => ?_) (fun cd18 => ?_)
        · refine jz_iconst hx hb dX3_decay_55 ?_
          exact jw_z hx hb hr hlocks (msh) (by omega) (Or.inr ⟨rfl, by omega, rfl⟩) hP hD hS dX3_decay_56
        · refine lv_iload_n hx hb dX3_decay_21 rfl (lv_at hl 1 rfl) ?_
          refine jz_if_le (tgt := 37) hx hb dX3_decay_22 (by decide) (by omega) (fun cd22 => ?_) (fun cd22 => ?_)
          · refine lv_iload_n hx hb dX3_decay_37 rfl (lv_at hl 1 rfl) ?_
            refine jz_bipush hx hb dX3_decay_38 rfl ?_
            refine jz_icmp_ge (tgt := 57) hx hb dX3_decay_40 (by decide) (by omega) (fun cd40 => ?_) (fun cd40 => ?_)
            · refine lv_aload_n hx hb dX3_decay_57 rfl (lv_at hl 0 rfl) ?_
              refine va_get (D := (dC, dI)) (ci := 3) (C := RX3) (T := TX3) (N := 27) hx hb hts hiX3 hown hK hP 0 rfl rfl 3 (by decide) (hts (.fieldLink RX3 19 "PumpDeskModel" "shares" "[I") (by decide +kernel)) (fun _ h9 => h9) rfl dX3_decay_58 ?_
              refine lv_iload_n hx hb dX3_decay_61 rfl (lv_at hl 1 rfl) ?_
              refine lv_iload_n hx hb dX3_decay_62 rfl (lv_at hl 2 rfl) ?_
              refine jz_iast hx hb hK hP hD hS 1 0 rfl rfl (by omega) dX3_decay_63 (fun H locs hP hD hS => ?_)
              have hP : va_P (dC, dI) vwCl (([(g 0, .inr (3, [.ref (g 1), .ref (g 2), .ref (g 3), .ref (g 4), .int (iI (t0)), .int (iI (t1)), .int (iI (t2)), .int (iI (t3)), .int (iI (t4)), .int (iI (t5)), .int (iI (t6)), .int (iI (t7)), .int (iI (t8)), .int (iI (t9)), .int (iI (t10)), .ref (g 5), .ref (g 6), .int (iI (t11)), .ref (g 7), .ref (g 8), .ref (g 9), .ref (g 10), .ref (g 11), .ref (g 12), .int (iI (t12)), .int (iI (t13)), .int (iI (t14))])), (g 4, .inl (cI, 33, .inl (jA (jU (msh) (a1) (a2)))))] : va_W) ++ wr) H := hP
              have hD : va_D A (([(g 0, .inr (3, [.ref (g 1), .ref (g 2), .ref (g 3), .ref (g 4), .int (iI (t0)), .int (iI (t1)), .int (iI (t2)), .int (iI (t3)), .int (iI (t4)), .int (iI (t5)), .int (iI (t6)), .int (iI (t7)), .int (iI (t8)), .int (iI (t9)), .int (iI (t10)), .ref (g 5), .ref (g 6), .int (iI (t11)), .ref (g 7), .ref (g 8), .ref (g 9), .ref (g 10), .ref (g 11), .ref (g 12), .int (iI (t12)), .int (iI (t13)), .int (iI (t14))])), (g 4, .inl (cI, 33, .inl (jA (jU (msh) (a1) (a2)))))] : va_W) ++ wr) := hD
              refine jz_iconst hx hb dX3_decay_64 ?_
              exact jw_z hx hb hr hlocks (jU (msh) (a1) (a2)) (by omega) (Or.inl ⟨rfl, by omega, rfl⟩) hP hD hS dX3_decay_65
            · refine lv_iload_n hx hb dX3_decay_43 rfl (lv_at hl 2 rfl) ?_
              refine lv_aload_n hx hb dX3_decay_44 rfl (lv_at hl 0 rfl) ?_
              refine va_get (D := (dC, dI)) (ci := 3) (C := RX3) (T := TX3) (N := 27) hx hb hts hiX3 hown hK hP 0 rfl rfl 3 (by decide) (hts (.fieldLink RX3 19 "PumpDeskModel" "shares" "[I") (by decide +kernel)) (fun _ h9 => h9) rfl dX3_decay_45 ?_
              refine lv_iload_n hx hb dX3_decay_48 rfl (lv_at hl 1 rfl) ?_
              refine jz_iconst hx hb dX3_decay_49 ?_
              refine jz_iadd hx hb dX3_decay_50 ?_
              refine jz_iald hx hb hK hP 1 0 rfl rfl (by omega) dX3_decay_51 ?_
              have ra1 := hrmsh ((a1 + 1))
              refine jz_icmp_ge (tgt := 57) hx hb dX3_decay_52 (by decide) (by omega) (fun cd52 => ?_) (fun cd52 => ?_)
              · refine lv_aload_n hx hb dX3_decay_57 rfl (lv_at hl 0 rfl) ?_
                refine va_get (D := (dC, dI)) (ci := 3) (C := RX3) (T := TX3) (N := 27) hx hb hts hiX3 hown hK hP 0 rfl rfl 3 (by decide) (hts (.fieldLink RX3 19 "PumpDeskModel" "shares" "[I") (by decide +kernel)) (fun _ h9 => h9) rfl dX3_decay_58 ?_
                refine lv_iload_n hx hb dX3_decay_61 rfl (lv_at hl 1 rfl) ?_
                refine lv_iload_n hx hb dX3_decay_62 rfl (lv_at hl 2 rfl) ?_
                refine jz_iast hx hb hK hP hD hS 1 0 rfl rfl (by omega) dX3_decay_63 (fun H locs hP hD hS => ?_)
                have hP : va_P (dC, dI) vwCl (([(g 0, .inr (3, [.ref (g 1), .ref (g 2), .ref (g 3), .ref (g 4), .int (iI (t0)), .int (iI (t1)), .int (iI (t2)), .int (iI (t3)), .int (iI (t4)), .int (iI (t5)), .int (iI (t6)), .int (iI (t7)), .int (iI (t8)), .int (iI (t9)), .int (iI (t10)), .ref (g 5), .ref (g 6), .int (iI (t11)), .ref (g 7), .ref (g 8), .ref (g 9), .ref (g 10), .ref (g 11), .ref (g 12), .int (iI (t12)), .int (iI (t13)), .int (iI (t14))])), (g 4, .inl (cI, 33, .inl (jA (jU (msh) (a1) (a2)))))] : va_W) ++ wr) H := hP
                have hD : va_D A (([(g 0, .inr (3, [.ref (g 1), .ref (g 2), .ref (g 3), .ref (g 4), .int (iI (t0)), .int (iI (t1)), .int (iI (t2)), .int (iI (t3)), .int (iI (t4)), .int (iI (t5)), .int (iI (t6)), .int (iI (t7)), .int (iI (t8)), .int (iI (t9)), .int (iI (t10)), .ref (g 5), .ref (g 6), .int (iI (t11)), .ref (g 7), .ref (g 8), .ref (g 9), .ref (g 10), .ref (g 11), .ref (g 12), .int (iI (t12)), .int (iI (t13)), .int (iI (t14))])), (g 4, .inl (cI, 33, .inl (jA (jU (msh) (a1) (a2)))))] : va_W) ++ wr) := hD
                refine jz_iconst hx hb dX3_decay_64 ?_
                exact jw_z hx hb hr hlocks (jU (msh) (a1) (a2)) (by omega) (Or.inl ⟨rfl, by omega, rfl⟩) hP hD hS dX3_decay_65
              · refine jz_iconst hx hb dX3_decay_55 ?_
                exact jw_z hx hb hr hlocks (msh) (by omega) (Or.inr ⟨rfl, by omega, rfl⟩) hP hD hS dX3_decay_56
          · refine lv_iload_n hx hb dX3_decay_25 rfl (lv_at hl 2 rfl) ?_
            refine lv_aload_n hx hb dX3_decay_26 rfl (lv_at hl 0 rfl) ?_
            refine va_get (D := (dC, dI)) (ci := 3) (C := RX3) (T := TX3) (N := 27) hx hb hts hiX3 hown hK hP 0 rfl rfl 3 (by decide) (hts (.fieldLink RX3 19 "PumpDeskModel" "shares" "[I") (by decide +kernel)) (fun _ h9 => h9) rfl dX3_decay_27 ?_
            refine lv_iload_n hx hb dX3_decay_30 rfl (lv_at hl 1 rfl) ?_
            refine jz_iconst hx hb dX3_decay_31 ?_
            refine jz_isub hx hb dX3_decay_32 ?_
            refine jz_iald hx hb hK hP 1 0 rfl rfl (by omega) dX3_decay_33 ?_
            have ra2 := hrmsh ((a1 - 1))
            refine jz_icmp_gt (tgt := 55) hx hb dX3_decay_34 (by decide) (by omega) (fun cd34 => ?_) (fun cd34 => ?_)
            · refine jz_iconst hx hb dX3_decay_55 ?_
              exact jw_z hx hb hr hlocks (msh) (by omega) (Or.inr ⟨rfl, by omega, rfl⟩) hP hD hS dX3_decay_56
            · refine lv_iload_n hx hb dX3_decay_37 rfl (lv_at hl 1 rfl) ?_
              refine jz_bipush hx hb dX3_decay_38 rfl ?_
              refine jz_icmp_ge (tgt := 57) hx hb dX3_decay_40 (by decide) (by omega) (fun cd40 => ?_) (fun cd40 => ?_)
              · refine lv_aload_n hx hb dX3_decay_57 rfl (lv_at hl 0 rfl) ?_
                refine va_get (D := (dC, dI)) (ci := 3) (C := RX3) (T := TX3) (N := 27) hx hb hts hiX3 hown hK hP 0 rfl rfl 3 (by decide) (hts (.fieldLink RX3 19 "PumpDeskModel" "shares" "[I") (by decide +kernel)) (fun _ h9 => h9) rfl dX3_decay_58 ?_
                refine lv_iload_n hx hb dX3_decay_61 rfl (lv_at hl 1 rfl) ?_
                refine lv_iload_n hx hb dX3_decay_62 rfl (lv_at hl 2 rfl) ?_
                refine jz_iast hx hb hK hP hD hS 1 0 rfl rfl (by omega) dX3_decay_63 (fun H locs hP hD hS => ?_)
                have hP : va_P (dC, dI) vwCl (([(g 0, .inr (3, [.ref (g 1), .ref (g 2), .ref (g 3), .ref (g 4), .int (iI (t0)), .int (iI (t1)), .int (iI (t2)), .int (iI (t3)), .int (iI (t4)), .int (iI (t5)), .int (iI (t6)), .int (iI (t7)), .int (iI (t8)), .int (iI (t9)), .int (iI (t10)), .ref (g 5), .ref (g 6), .int (iI (t11)), .ref (g 7), .ref (g 8), .ref (g 9), .ref (g 10), .ref (g 11), .ref (g 12), .int (iI (t12)), .int (iI (t13)), .int (iI (t14))])), (g 4, .inl (cI, 33, .inl (jA (jU (msh) (a1) (a2)))))] : va_W) ++ wr) H := hP
                have hD : va_D A (([(g 0, .inr (3, [.ref (g 1), .ref (g 2), .ref (g 3), .ref (g 4), .int (iI (t0)), .int (iI (t1)), .int (iI (t2)), .int (iI (t3)), .int (iI (t4)), .int (iI (t5)), .int (iI (t6)), .int (iI (t7)), .int (iI (t8)), .int (iI (t9)), .int (iI (t10)), .ref (g 5), .ref (g 6), .int (iI (t11)), .ref (g 7), .ref (g 8), .ref (g 9), .ref (g 10), .ref (g 11), .ref (g 12), .int (iI (t12)), .int (iI (t13)), .int (iI (t14))])), (g 4, .inl (cI, 33, .inl (jA (jU (msh) (a1) (a2)))))] : va_W) ++ wr) := hD
                refine jz_iconst hx hb dX3_decay_64 ?_
                exact jw_z hx hb hr hlocks (jU (msh) (a1) (a2)) (by omega) (Or.inl ⟨rfl, by omega, rfl⟩) hP hD hS dX3_decay_65
              · refine lv_iload_n hx hb dX3_decay_43 rfl (lv_at hl 2 rfl) ?_
                refine lv_aload_n hx hb dX3_decay_44 rfl (lv_at hl 0 rfl) ?_
                refine va_get (D := (dC, dI)) (ci := 3) (C := RX3) (T := TX3) (N := 27) hx hb hts hiX3 hown hK hP 0 rfl rfl 3 (by decide) (hts (.fieldLink RX3 19 "PumpDeskModel" "shares" "[I") (by decide +kernel)) (fun _ h9 => h9) rfl dX3_decay_45 ?_
                refine lv_iload_n hx hb dX3_decay_48 rfl (lv_at hl 1 rfl) ?_
                refine jz_iconst hx hb dX3_decay_49 ?_
                refine jz_iadd hx hb dX3_decay_50 ?_
                refine jz_iald hx hb hK hP 1 0 rfl rfl (by omega) dX3_decay_51 ?_
                have ra3 := hrmsh ((a1 + 1))
                refine jz_icmp_ge (tgt := 57) hx hb dX3_decay_52 (by decide) (by omega) (fun cd52 => ?_) (fun cd52 => ?_)
                · refine lv_aload_n hx hb dX3_decay_57 rfl (lv_at hl 0 rfl) ?_
                  refine va_get (D := (dC, dI)) (ci := 3) (C := RX3) (T := TX3) (N := 27) hx hb hts hiX3 hown hK hP 0 rfl rfl 3 (by decide) (hts (.fieldLink RX3 19 "PumpDeskModel" "shares" "[I") (by decide +kernel)) (fun _ h9 => h9) rfl dX3_decay_58 ?_
                  refine lv_iload_n hx hb dX3_decay_61 rfl (lv_at hl 1 rfl) ?_
                  refine lv_iload_n hx hb dX3_decay_62 rfl (lv_at hl 2 rfl) ?_
                  refine jz_iast hx hb hK hP hD hS 1 0 rfl rfl (by omega) dX3_decay_63 (fun H locs hP hD hS => ?_)
                  have hP : va_P (dC, dI) vwCl (([(g 0, .inr (3, [.ref (g 1), .ref (g 2), .ref (g 3), .ref (g 4), .int (iI (t0)), .int (iI (t1)), .int (iI (t2)), .int (iI (t3)), .int (iI (t4)), .int (iI (t5)), .int (iI (t6)), .int (iI (t7)), .int (iI (t8)), .int (iI (t9)), .int (iI (t10)), .ref (g 5), .ref (g 6), .int (iI (t11)), .ref (g 7), .ref (g 8), .ref (g 9), .ref (g 10), .ref (g 11), .ref (g 12), .int (iI (t12)), .int (iI (t13)), .int (iI (t14))])), (g 4, .inl (cI, 33, .inl (jA (jU (msh) (a1) (a2)))))] : va_W) ++ wr) H := hP
                  have hD : va_D A (([(g 0, .inr (3, [.ref (g 1), .ref (g 2), .ref (g 3), .ref (g 4), .int (iI (t0)), .int (iI (t1)), .int (iI (t2)), .int (iI (t3)), .int (iI (t4)), .int (iI (t5)), .int (iI (t6)), .int (iI (t7)), .int (iI (t8)), .int (iI (t9)), .int (iI (t10)), .ref (g 5), .ref (g 6), .int (iI (t11)), .ref (g 7), .ref (g 8), .ref (g 9), .ref (g 10), .ref (g 11), .ref (g 12), .int (iI (t12)), .int (iI (t13)), .int (iI (t14))])), (g 4, .inl (cI, 33, .inl (jA (jU (msh) (a1) (a2)))))] : va_W) ++ wr) := hD
                  refine jz_iconst hx hb dX3_decay_64 ?_
                  exact jw_z hx hb hr hlocks (jU (msh) (a1) (a2)) (by omega) (Or.inl ⟨rfl, by omega, rfl⟩) hP hD hS dX3_decay_65
                · refine jz_iconst hx hb dX3_decay_55 ?_
                  exact jw_z hx hb hr hlocks (msh) (by omega) (Or.inr ⟨rfl, by omega, rfl⟩) hP hD hS dX3_decay_56

set_option maxHeartbeats 4000000 in
set_option maxRecDepth 100000 in
theorem c_X3_first (l : Launch) (dC : Nat → ClassId) (dI : Nat → Nat → Nat) (cI cQ cR : ClassId) (a : Int) (ra : -2147483648 ≤ a ∧ a ≤ 2147483647) : Met l yX3_first wsX3_first ({ frames := 0, cells := 0, slots := 0, locals := 0 }) (kR (dC, dI) vwCl (kT cI cQ cR) [.int (iI (a))] ([])) (kRi (fun z => ((a = 0 ∧ z = 10) ∨ (a = 1 ∧ z = 50) ∨ (a = 2 ∧ z = 100) ∨ (a = 3 ∧ z = 120) ∨ ((¬ a = 0 ∧ ¬ a = 1 ∧ ¬ a = 2 ∧ ¬ a = 3) ∧ z = 0)))) 0 0 (fun _ => False) := by
  refine k_inR (cc := cX3_first) (maxL := 1) (ret := (some .int)) (by decide) rfl (Nat.le_of_ble_eq_true rfl) ?_
  intro p e s m below meth c ls hx hb hr hts hown hml hlocks hP hK hN hl
  have hown : s.vm.findClass RX3 = some m.cls := hown
  have hl : lv_has ls 1 [(0, .int (iI (a)))] := hl
  refine lv_iload_n hx hb dX3_first_0 rfl (lv_at hl 0 rfl) ?_
  refine jz_if_ne (tgt := 9) hx hb dX3_first_1 (by decide) (by omega) (fun cd1 => ?_) (fun cd1 => ?_)
  · refine lv_iload_n hx hb dX3_first_9 rfl (lv_at hl 0 rfl) ?_
    refine jz_iconst hx hb dX3_first_10 ?_
    refine jz_icmp_ne (tgt := 19) hx hb dX3_first_11 (by decide) (by omega) (fun cd11 => ?_) (fun cd11 => ?_)
    · refine lv_iload_n hx hb dX3_first_19 rfl (lv_at hl 0 rfl) ?_
      refine jz_iconst hx hb dX3_first_20 ?_
      refine jz_icmp_ne (tgt := 29) hx hb dX3_first_21 (by decide) (by omega) (fun cd21 => ?_) (fun cd21 => ?_)
      · refine lv_iload_n hx hb dX3_first_29 rfl (lv_at hl 0 rfl) ?_
        refine jz_iconst hx hb dX3_first_30 ?_
        refine jz_icmp_ne (tgt := 39) hx hb dX3_first_31 (by decide) (by omega) (fun cd31 => ?_) (fun cd31 => ?_)
        · refine jz_iconst hx hb dX3_first_39 ?_
          exact jr_i hx hb hr hlocks (by omega) dX3_first_40
        · refine jz_bipush hx hb dX3_first_34 rfl ?_
          refine lv_goto (tgt := 40) hx hb dX3_first_36 (by decide) ?_
          exact jr_i hx hb hr hlocks (by omega) dX3_first_40
      · refine jz_bipush hx hb dX3_first_24 rfl ?_
        refine lv_goto (tgt := 40) hx hb dX3_first_26 (by decide) ?_
        exact jr_i hx hb hr hlocks (by omega) dX3_first_40
    · refine jz_bipush hx hb dX3_first_14 rfl ?_
      refine lv_goto (tgt := 40) hx hb dX3_first_16 (by decide) ?_
      exact jr_i hx hb hr hlocks (by omega) dX3_first_40
  · refine jz_bipush hx hb dX3_first_4 rfl ?_
    refine lv_goto (tgt := 40) hx hb dX3_first_6 (by decide) ?_
    exact jr_i hx hb hr hlocks (by omega) dX3_first_40

set_option maxHeartbeats 4000000 in
set_option maxRecDepth 100000 in
theorem c_X3_value (l : Launch) (dC : Nat → ClassId) (dI : Nat → Nat → Nat) (cI cQ cR : ClassId) (g : Nat → Nat) (t0 t1 t2 t3 t4 t5 t6 t7 t8 t9 t10 t11 t12 t13 t14 : Int) (mn mst mva : Int → Int) (a1 a2 : Int) (ra1 : -2147483648 ≤ a1 ∧ a1 ≤ 2147483647) (ra2 : -2147483648 ≤ a2 ∧ a2 ≤ 2147483647) (hmn : ∀ i : Int, 0 ≤ i → i ≤ 4 → 0 ≤ mn i ∧ mn i ≤ 8) (hst : ∀ i q : Int, 0 ≤ i → i ≤ 4 → 8 * i ≤ q → q < 8 * i + mn i → 0 ≤ mst q ∧ mst q ≤ 1439) : Met l yX3_value wsX3_value ({ frames := 1, cells := 0, slots := 0, locals := 20 }) (kR (dC, dI) vwCl (kT cI cQ cR) [.ref (g 0), .int (iI (a1)), .int (iI (a2))] (([(g 0, .inr (3, [.ref (g 1), .ref (g 2), .ref (g 3), .ref (g 4), .int (iI (t0)), .int (iI (t1)), .int (iI (t2)), .int (iI (t3)), .int (iI (t4)), .int (iI (t5)), .int (iI (t6)), .int (iI (t7)), .int (iI (t8)), .int (iI (t9)), .int (iI (t10)), .ref (g 5), .ref (g 6), .int (iI (t11)), .ref (g 7), .ref (g 8), .ref (g 9), .ref (g 10), .ref (g 11), .ref (g 12), .int (iI (t12)), .int (iI (t13)), .int (iI (t14))])), (g 1, .inl (cI, 5, .inl (jA (mn)))), (g 2, .inl (cI, 40, .inl (jA (mst)))), (g 3, .inl (cI, 40, .inl (jA (mva))))] : va_W))) (kRi (fun z => (¬ (0 ≤ a1 ∧ a1 ≤ 4 ∧ 0 ≤ a2 ∧ a2 ≤ 1439) ∧ z = -1) ∨ ((0 ≤ a1 ∧ a1 ≤ 4 ∧ 0 ≤ a2 ∧ a2 ≤ 1439) ∧ ((mn a1 = 0 ∧ ((a1 = 0 ∧ z = 10) ∨ (a1 = 1 ∧ z = 50) ∨ (a1 = 2 ∧ z = 100) ∨ (a1 = 3 ∧ z = 120) ∨ ((¬ a1 = 0 ∧ ¬ a1 = 1 ∧ ¬ a1 = 2 ∧ ¬ a1 = 3) ∧ z = 0))) ∨ (∃ b : Int, 8 * a1 ≤ b ∧ b < 8 * a1 + mn a1 ∧ z = mva b ∧ ∀ q : Int, 8 * a1 ≤ q → q < 8 * a1 + mn a1 → (a2 - mst b + 1440) % 1440 ≤ (a2 - mst q + 1440) % 1440))))) 0 0 (fun _ => False) := by
  refine k_inR (cc := cX3_value) (maxL := 6) (ret := (some .int)) (by decide) rfl (Nat.le_of_ble_eq_true rfl) ?_
  intro p e s m below meth c ls hx hb hr hts hown hml hlocks hP hK hN hl
  have hown : s.vm.findClass RX3 = some m.cls := hown
  have hl : lv_has ls 6 [(0, .ref (g 0)), (1, .int (iI (a1))), (2, .int (iI (a2)))] := hl
  have hiX3 : ∀ w ∈ u_ws RX3 TX3 27, w ∈ wsX3_value := by decide +kernel
  refine lv_iload_n hx hb dX3_value_0 rfl (lv_at hl 1 rfl) ?_
  refine jz_if_lt (tgt := 20) hx hb dX3_value_1 (by decide) (by omega) (fun cd1 => ?_) (fun cd1 => ?_)
  · refine jz_iconst hx hb dX3_value_20 ?_
    exact jr_i hx hb hr hlocks (Or.inl ⟨by omega, rfl⟩) dX3_value_21
  · refine lv_iload_n hx hb dX3_value_4 rfl (lv_at hl 1 rfl) ?_
    refine jz_iconst hx hb dX3_value_5 ?_
    refine jz_icmp_gt (tgt := 20) hx hb dX3_value_6 (by decide) (by omega) (fun cd6 => ?_) (fun cd6 => ?_)
    · refine jz_iconst hx hb dX3_value_20 ?_
      exact jr_i hx hb hr hlocks (Or.inl ⟨by omega, rfl⟩) dX3_value_21
    · refine lv_iload_n hx hb dX3_value_9 rfl (lv_at hl 2 rfl) ?_
      refine jz_if_lt (tgt := 20) hx hb dX3_value_10 (by decide) (by omega) (fun cd10 => ?_) (fun cd10 => ?_)
      · refine jz_iconst hx hb dX3_value_20 ?_
        exact jr_i hx hb hr hlocks (Or.inl ⟨by omega, rfl⟩) dX3_value_21
      · refine lv_iload_n hx hb dX3_value_13 rfl (lv_at hl 2 rfl) ?_
        refine jz_sipush hx hb dX3_value_14 rfl ?_
        refine jz_icmp_lt (tgt := 22) hx hb dX3_value_17 (by decide) (by omega) (fun cd17 => ?_) (fun cd17 => ?_)
        · refine jz_iconst hx hb dX3_value_22 ?_
          refine lv_istore_n (lv' := [(3, .int (iI (-1))), (0, .ref (g 0)), (1, .int (iI (a1))), (2, .int (iI (a2)))]) hx hb dX3_value_23 rfl hl (by decide) rfl (fun ls hl => ?_)
          refine jz_bipush hx hb dX3_value_24 rfl ?_
          refine lv_iload_n hx hb dX3_value_26 rfl (lv_at hl 2 rfl) ?_
          refine jz_imul hx hb dX3_value_27 ?_
          refine lv_istore (lv' := [(4, .int (iI ((8 * a1)))), (3, .int (iI (-1))), (0, .ref (g 0)), (1, .int (iI (a1))), (2, .int (iI (a2)))]) hx hb dX3_value_28 hl (by decide) rfl (fun ls hl => ?_)
          have hm1 := hmn a1 (by omega) (by omega)
          have loop30 : ∀ (n : Nat) (k bs : Int) (ls : Array Slot), 8 * a1 + mn a1 < k + (n : Int) → (8 * a1 ≤ k) → (k ≤ 8 * a1 + mn a1) → ((k = 8 * a1 ∧ bs = -1) ∨ (8 * a1 ≤ bs ∧ bs < k ∧ ∀ q : Int, 8 * a1 ≤ q → q < k → (a2 - mst bs + 1440) % 1440 ≤ (a2 - mst q + 1440) % 1440)) → lv_has ls 6 [(0, .ref (g 0)), (1, .int (iI (a1))), (2, .int (iI (a2))), (3, .int (iI (bs))), (4, .int (iI (k)))] → W p l e ({ frames := 1, cells := 0, slots := 0, locals := 20 }) s m ([.ref (g 0), .int (iI (a1)), .int (iI (a2))] : List Value).toArray below meth c s.heap [] 0 0 (MQ below (kRi (fun z => (¬ (0 ≤ a1 ∧ a1 ≤ 4 ∧ 0 ≤ a2 ∧ a2 ≤ 1439) ∧ z = -1) ∨ ((0 ≤ a1 ∧ a1 ≤ 4 ∧ 0 ≤ a2 ∧ a2 ≤ 1439) ∧ ((mn a1 = 0 ∧ ((a1 = 0 ∧ z = 10) ∨ (a1 = 1 ∧ z = 50) ∨ (a1 = 2 ∧ z = 100) ∨ (a1 = 3 ∧ z = 120) ∨ ((¬ a1 = 0 ∧ ¬ a1 = 1 ∧ ¬ a1 = 2 ∧ ¬ a1 = 3) ∧ z = 0))) ∨ (∃ b : Int, 8 * a1 ≤ b ∧ b < 8 * a1 + mn a1 ∧ z = mva b ∧ ∀ q : Int, 8 * a1 ≤ q → q < 8 * a1 + mn a1 → (a2 - mst b + 1440) % 1440 ≤ (a2 - mst q + 1440) % 1440))))) ([.ref (g 0), .int (iI (a1)), .int (iI (a2))] : List Value).toArray s 0 0 (fun _ => False)) (F0 m 30 ls []) := by
            intro n
            induction n with
            | zero => intro k bs ls hfu g0 g1 hbs hl; exact absurd hfu (by omega)
            | succ n ih =>
              intro k bs ls hfu g0 g1 hbs hl
              refine lv_iload hx hb dX3_value_30 (lv_at hl 4 rfl) ?_
              refine jz_bipush hx hb dX3_value_32 rfl ?_
              refine lv_iload_n hx hb dX3_value_34 rfl (lv_at hl 1 rfl) ?_
              refine jz_imul hx hb dX3_value_35 ?_
              refine lv_aload_n hx hb dX3_value_36 rfl (lv_at hl 0 rfl) ?_
              refine va_get (D := (dC, dI)) (ci := 3) (C := RX3) (T := TX3) (N := 27) hx hb hts hiX3 hown hK hP 0 rfl rfl 0 (by decide) (hts (.fieldLink RX3 7 "PumpDeskModel" "many" "[I") (by decide +kernel)) (fun _ h9 => h9) rfl dX3_value_37 ?_
              refine lv_iload_n hx hb dX3_value_40 rfl (lv_at hl 1 rfl) ?_
              refine jz_iald hx hb hK hP 1 0 rfl rfl (by omega) dX3_value_41 ?_
              refine jz_iadd hx hb dX3_value_42 ?_
              refine jz_icmp_ge (tgt := 104) hx hb dX3_value_43 (by decide) (by omega) (fun cd43 => ?_) (fun cd43 => ?_)
              · refine lv_iload_n hx hb dX3_value_104 rfl (lv_at hl 3 rfl) ?_
                refine jz_iconst hx hb dX3_value_105 ?_
                refine jz_icmp_ne (tgt := 116) hx hb dX3_value_106 (by decide) (by omega) (fun cd106 => ?_) (fun cd106 => ?_)
                · refine lv_aload_n hx hb dX3_value_116 rfl (lv_at hl 0 rfl) ?_
                  refine va_get (D := (dC, dI)) (ci := 3) (C := RX3) (T := TX3) (N := 27) hx hb hts hiX3 hown hK hP 0 rfl rfl 2 (by decide) (hts (.fieldLink RX3 16 "PumpDeskModel" "values" "[I") (by decide +kernel)) (fun _ h9 => h9) rfl dX3_value_117 ?_
                  refine lv_iload_n hx hb dX3_value_120 rfl (lv_at hl 3 rfl) ?_
                  refine jz_iald hx hb hK hP 3 0 rfl rfl (by omega) dX3_value_121 ?_
                  exact jr_i hx hb hr hlocks (Or.inr ⟨by omega, Or.inr (hbs.elim (fun hbs => by omega) (fun hbs => ⟨bs, by omega, by omega, rfl, fun q q1 q2 => hbs.2.2 q q1 (by omega)⟩))⟩) dX3_value_122
                · refine lv_iload_n hx hb dX3_value_109 rfl (lv_at hl 1 rfl) ?_
                  refine kr_i (va_runS (As := [.int (iI (a1))]) (rest := []) ⟨hx, hb, hml, hown, hts⟩ (c_X3_first l dC dI cI cQ cR (a1) (by omega)) (va_cwS 1 hts gX3_value_X3_first rfl rfl rfl (by decide +kernel) ⟨Nat.le_of_ble_eq_true rfl, Nat.le_of_ble_eq_true rfl⟩) (kR_S hK hN k_P0) rfl rfl hl.1 rfl (lv_room (Nat.le_of_ble_eq_true rfl)) dX3_value_110 ⟨Nat.le_of_ble_eq_true rfl, Nat.le_of_ble_eq_true rfl⟩) (fun z1 hz1 => ?_)
                  refine lv_goto (tgt := 122) hx hb dX3_value_113 (by decide) ?_
                  exact jr_i hx hb hr hlocks (Or.inr ⟨by omega, Or.inl ⟨by omega, hz1⟩⟩) dX3_value_122
              · refine lv_iload_n hx hb dX3_value_46 rfl (lv_at hl 2 rfl) ?_
                refine lv_aload_n hx hb dX3_value_47 rfl (lv_at hl 0 rfl) ?_
                refine va_get (D := (dC, dI)) (ci := 3) (C := RX3) (T := TX3) (N := 27) hx hb hts hiX3 hown hK hP 0 rfl rfl 1 (by decide) (hts (.fieldLink RX3 13 "PumpDeskModel" "starts" "[I") (by decide +kernel)) (fun _ h9 => h9) rfl dX3_value_48 ?_
                refine lv_iload hx hb dX3_value_51 (lv_at hl 4 rfl) ?_
                refine jz_iald hx hb hK hP 2 0 rfl rfl (by omega) dX3_value_53 ?_
                have ra2 := hst a1 (k) (by omega) (by omega) (by omega) (by omega)
                refine jz_isub hx hb dX3_value_54 ?_
                refine jz_sipush hx hb dX3_value_55 rfl ?_
                refine jz_iadd hx hb dX3_value_58 ?_
                refine jz_sipush hx hb dX3_value_59 rfl ?_
                refine jz_irem hx hb dX3_value_62 (by omega) ?_
                refine lv_istore (lv' := [(5, .int (iI ((((a2 - (mst) (k)) + 1440) % 1440)))), (0, .ref (g 0)), (1, .int (iI (a1))), (2, .int (iI (a2))), (3, .int (iI (bs))), (4, .int (iI (k)))]) hx hb dX3_value_63 hl (by decide) rfl (fun ls hl => ?_)
                refine lv_iload_n hx hb dX3_value_65 rfl (lv_at hl 4 rfl) ?_
                refine jz_iconst hx hb dX3_value_66 ?_
                refine jz_icmp_eq (tgt := 91) hx hb dX3_value_67 (by decide) (by omega) (fun cd67 => ?_) (fun cd67 => ?_)
                · refine lv_iload hx hb dX3_value_91 (lv_at hl 5 rfl) ?_
                  refine lv_goto (tgt := 97) hx hb dX3_value_93 (by decide) ?_
                  refine lv_istore_n (lv' := [(3, .int (iI (k))), (5, .int (iI ((((a2 - (mst) (k)) + 1440) % 1440)))), (0, .ref (g 0)), (1, .int (iI (a1))), (2, .int (iI (a2))), (4, .int (iI (k)))]) hx hb dX3_value_97 rfl hl (by decide) rfl (fun ls hl => ?_)
                  refine lv_iinc (v := iI ((k + 1))) (lv' := [(4, .int (iI ((k + 1)))), (3, .int (iI (k))), (5, .int (iI ((((a2 - (mst) (k)) + 1440) % 1440)))), (0, .ref (g 0)), (1, .int (iI (a1))), (2, .int (iI (a2)))]) hx hb dX3_value_98 hl (k := 5) rfl (iI_add _ _) (by decide) rfl (fun ls hl => ?_)
                  refine lv_goto (tgt := 30) hx hb dX3_value_101 (by decide) ?_
                  exact ih (k + 1) (k) ls (by omega) (by omega) (by omega) (Or.inr ⟨by omega, by omega, fun q q1 q2 => (show q = k ∨ q < k by omega).elim (fun e => by subst e; omega) (fun e => hbs.elim (fun hbs => by omega) (fun hbs => Int.le_trans (by omega) (hbs.2.2 q q1 e)))⟩) (lv_sub hl [3, 4, 5, 1, 0] rfl)
                · refine lv_iload hx hb dX3_value_70 (lv_at hl 0 rfl) ?_
                  refine lv_iload_n hx hb dX3_value_72 rfl (lv_at hl 3 rfl) ?_
                  refine lv_aload_n hx hb dX3_value_73 rfl (lv_at hl 1 rfl) ?_
                  refine va_get (D := (dC, dI)) (ci := 3) (C := RX3) (T := TX3) (N := 27) hx hb hts hiX3 hown hK hP 0 rfl rfl 1 (by decide) (hts (.fieldLink RX3 13 "PumpDeskModel" "starts" "[I") (by decide +kernel)) (fun _ h9 => h9) rfl dX3_value_74 ?_
                  refine lv_iload_n hx hb dX3_value_77 rfl (lv_at hl 4 rfl) ?_
                  refine jz_iald hx hb hK hP 2 0 rfl rfl (by omega) dX3_value_78 ?_
                  have ra3 := hst a1 (bs) (by omega) (by omega) (by omega) (by omega)
                  refine jz_isub hx hb dX3_value_79 ?_
                  refine jz_sipush hx hb dX3_value_80 rfl ?_
                  refine jz_iadd hx hb dX3_value_83 ?_
                  refine jz_sipush hx hb dX3_value_84 rfl ?_
                  refine jz_irem hx hb dX3_value_87 (by omega) ?_
                  refine jz_icmp_ge (tgt := 96) hx hb dX3_value_88 (by decide) (by omega) (fun cd88 => ?_) (fun cd88 => ?_)
                  · refine lv_iload_n hx hb dX3_value_96 rfl (lv_at hl 4 rfl) ?_
                    refine lv_istore_n (lv' := [(3, .int (iI (bs))), (5, .int (iI ((((a2 - (mst) (k)) + 1440) % 1440)))), (0, .ref (g 0)), (1, .int (iI (a1))), (2, .int (iI (a2))), (4, .int (iI (k)))]) hx hb dX3_value_97 rfl hl (by decide) rfl (fun ls hl => ?_)
                    refine lv_iinc (v := iI ((k + 1))) (lv' := [(4, .int (iI ((k + 1)))), (3, .int (iI (bs))), (5, .int (iI ((((a2 - (mst) (k)) + 1440) % 1440)))), (0, .ref (g 0)), (1, .int (iI (a1))), (2, .int (iI (a2)))]) hx hb dX3_value_98 hl (k := 5) rfl (iI_add _ _) (by decide) rfl (fun ls hl => ?_)
                    refine lv_goto (tgt := 30) hx hb dX3_value_101 (by decide) ?_
                    exact ih (k + 1) (bs) ls (by omega) (by omega) (by omega) (hbs.elim (fun hbs => by omega) (fun hbs => Or.inr ⟨by omega, by omega, fun q q1 q2 => (show q = k ∨ q < k by omega).elim (fun e => by subst e; omega) (fun e => hbs.2.2 q q1 e)⟩)) (lv_sub hl [3, 4, 5, 1, 0] rfl)
                  · refine lv_iload hx hb dX3_value_91 (lv_at hl 5 rfl) ?_
                    refine lv_goto (tgt := 97) hx hb dX3_value_93 (by decide) ?_
                    refine lv_istore_n (lv' := [(3, .int (iI (k))), (5, .int (iI ((((a2 - (mst) (k)) + 1440) % 1440)))), (0, .ref (g 0)), (1, .int (iI (a1))), (2, .int (iI (a2))), (4, .int (iI (k)))]) hx hb dX3_value_97 rfl hl (by decide) rfl (fun ls hl => ?_)
                    refine lv_iinc (v := iI ((k + 1))) (lv' := [(4, .int (iI ((k + 1)))), (3, .int (iI (k))), (5, .int (iI ((((a2 - (mst) (k)) + 1440) % 1440)))), (0, .ref (g 0)), (1, .int (iI (a1))), (2, .int (iI (a2)))]) hx hb dX3_value_98 hl (k := 5) rfl (iI_add _ _) (by decide) rfl (fun ls hl => ?_)
                    refine lv_goto (tgt := 30) hx hb dX3_value_101 (by decide) ?_
                    exact ih (k + 1) (k) ls (by omega) (by omega) (by omega) (Or.inr ⟨by omega, by omega, fun q q1 q2 => (show q = k ∨ q < k by omega).elim (fun e => by subst e; omega) (fun e => hbs.elim (fun hbs => by omega) (fun hbs => Int.le_trans (by omega) (hbs.2.2 q q1 e)))⟩) (lv_sub hl [3, 4, 5, 1, 0] rfl)
          exact loop30 9 (8 * a1) (-1) ls (by omega) (by omega) (by omega) (Or.inl ⟨rfl, rfl⟩) (lv_sub hl [2, 3, 4, 1, 0] rfl)
        · refine jz_iconst hx hb dX3_value_20 ?_
          exact jr_i hx hb hr hlocks (Or.inl ⟨by omega, rfl⟩) dX3_value_21

set_option maxHeartbeats 4000000 in
set_option maxRecDepth 100000 in
theorem c_X3_spent (l : Launch) (dC : Nat → ClassId) (dI : Nat → Nat → Nat) (cI cQ cR : ClassId) (g : Nat → Nat) (t0 t1 t2 t3 t4 t5 t6 t7 t8 t9 t10 t11 t12 t13 t14 : Int) (mfl mds : Int → Int) (a1 a2 : Int) (ra1 : -2147483648 ≤ a1 ∧ a1 ≤ 2147483647) (ra2 : -2147483648 ≤ a2 ∧ a2 ≤ 2147483647) : Met l yX3_spent wsX3_spent ({ frames := 0, cells := 0, slots := 0, locals := 0 }) (kR (dC, dI) vwCl (kT cI cQ cR) [.ref (g 0), .int (iI (a1)), .int (iI (a2))] (([(g 0, .inr (3, [.ref (g 1), .ref (g 2), .ref (g 3), .ref (g 4), .int (iI (t0)), .int (iI (t1)), .int (iI (t2)), .int (iI (t3)), .int (iI (t4)), .int (iI (t5)), .int (iI (t6)), .int (iI (t7)), .int (iI (t8)), .int (iI (t9)), .int (iI (t10)), .ref (g 5), .ref (g 6), .int (iI (t11)), .ref (g 7), .ref (g 8), .ref (g 9), .ref (g 10), .ref (g 11), .ref (g 12), .int (iI (t12)), .int (iI (t13)), .int (iI (t14))])), (g 5, .inl (cI, 70, .inl (jA (mfl)))), (g 6, .inl (cI, 70, .inl (jA (mds))))] : va_W))) (kRi (fun z => (¬ (0 ≤ a1 ∧ a1 ≤ 69) ∧ z = -1) ∨ ((0 ≤ a1 ∧ a1 ≤ 69) ∧ ((a2 = 0 ∧ z = mfl a1) ∨ (a2 = 1 ∧ z = mds a1) ∨ (a2 = 2 ∧ z = mfl a1 + mds a1) ∨ ((¬ a2 = 0 ∧ ¬ a2 = 1 ∧ ¬ a2 = 2) ∧ z = -1))))) 0 0 (fun _ => False) := by
  refine k_inR (cc := cX3_spent) (maxL := 3) (ret := (some .int)) (by decide) rfl (Nat.le_of_ble_eq_true rfl) ?_
  intro p e s m below meth c ls hx hb hr hts hown hml hlocks hP hK hN hl
  have hown : s.vm.findClass RX3 = some m.cls := hown
  have hl : lv_has ls 3 [(0, .ref (g 0)), (1, .int (iI (a1))), (2, .int (iI (a2)))] := hl
  have hiX3 : ∀ w ∈ u_ws RX3 TX3 27, w ∈ wsX3_spent := by decide +kernel
  refine lv_iload_n hx hb dX3_spent_0 rfl (lv_at hl 1 rfl) ?_
  refine jz_if_lt (tgt := 10) hx hb dX3_spent_1 (by decide) (by omega) (fun cd1 => ?_) (fun cd1 => ?_)
  · refine jz_iconst hx hb dX3_spent_10 ?_
    refine lv_goto (tgt := 63) hx hb dX3_spent_11 (by decide) ?_
    exact jr_i hx hb hr hlocks (by omega) dX3_spent_63
  · refine lv_iload_n hx hb dX3_spent_4 rfl (lv_at hl 1 rfl) ?_
    refine jz_bipush hx hb dX3_spent_5 rfl ?_
    refine jz_icmp_le (tgt := 14) hx hb dX3_spent_7 (by decide) (by omega) (fun cd7 => ?_) (fun cd7 => ?_)
    · refine lv_iload_n hx hb dX3_spent_14 rfl (lv_at hl 2 rfl) ?_
      refine jz_if_ne (tgt := 27) hx hb dX3_spent_15 (by decide) (by omega) (fun cd15 => ?_) (fun cd15 => ?_)
      · refine lv_iload_n hx hb dX3_spent_27 rfl (lv_at hl 2 rfl) ?_
        refine jz_iconst hx hb dX3_spent_28 ?_
        refine jz_icmp_ne (tgt := 41) hx hb dX3_spent_29 (by decide) (by omega) (fun cd29 => ?_) (fun cd29 => ?_)
        · refine lv_iload_n hx hb dX3_spent_41 rfl (lv_at hl 2 rfl) ?_
          refine jz_iconst hx hb dX3_spent_42 ?_
          refine jz_icmp_ne (tgt := 62) hx hb dX3_spent_43 (by decide) (by omega) (fun cd43 => ?_) (fun cd43 => ?_)
          · refine jz_iconst hx hb dX3_spent_62 ?_
            exact jr_i hx hb hr hlocks (by omega) dX3_spent_63
          · refine lv_aload_n hx hb dX3_spent_46 rfl (lv_at hl 0 rfl) ?_
            refine va_get (D := (dC, dI)) (ci := 3) (C := RX3) (T := TX3) (N := 27) hx hb hts hiX3 hown hK hP 0 rfl rfl 15 (by decide) (hts (.fieldLink RX3 36 "PumpDeskModel" "flowed" "[I") (by decide +kernel)) (fun _ h9 => h9) rfl dX3_spent_47 ?_
            refine lv_iload_n hx hb dX3_spent_50 rfl (lv_at hl 1 rfl) ?_
            refine jz_iald hx hb hK hP 1 0 rfl rfl (by omega) dX3_spent_51 ?_
            refine lv_aload_n hx hb dX3_spent_52 rfl (lv_at hl 0 rfl) ?_
            refine va_get (D := (dC, dI)) (ci := 3) (C := RX3) (T := TX3) (N := 27) hx hb hts hiX3 hown hK hP 0 rfl rfl 16 (by decide) (hts (.fieldLink RX3 39 "PumpDeskModel" "dosed" "[I") (by decide +kernel)) (fun _ h9 => h9) rfl dX3_spent_53 ?_
            refine lv_iload_n hx hb dX3_spent_56 rfl (lv_at hl 1 rfl) ?_
            refine jz_iald hx hb hK hP 2 0 rfl rfl (by omega) dX3_spent_57 ?_
            refine jz_iadd hx hb dX3_spent_58 ?_
            refine lv_goto (tgt := 63) hx hb dX3_spent_59 (by decide) ?_
            exact jr_i hx hb hr hlocks (by omega) dX3_spent_63
        · refine lv_aload_n hx hb dX3_spent_32 rfl (lv_at hl 0 rfl) ?_
          refine va_get (D := (dC, dI)) (ci := 3) (C := RX3) (T := TX3) (N := 27) hx hb hts hiX3 hown hK hP 0 rfl rfl 16 (by decide) (hts (.fieldLink RX3 39 "PumpDeskModel" "dosed" "[I") (by decide +kernel)) (fun _ h9 => h9) rfl dX3_spent_33 ?_
          refine lv_iload_n hx hb dX3_spent_36 rfl (lv_at hl 1 rfl) ?_
          refine jz_iald hx hb hK hP 2 0 rfl rfl (by omega) dX3_spent_37 ?_
          refine lv_goto (tgt := 63) hx hb dX3_spent_38 (by decide) ?_
          exact jr_i hx hb hr hlocks (by omega) dX3_spent_63
      · refine lv_aload_n hx hb dX3_spent_18 rfl (lv_at hl 0 rfl) ?_
        refine va_get (D := (dC, dI)) (ci := 3) (C := RX3) (T := TX3) (N := 27) hx hb hts hiX3 hown hK hP 0 rfl rfl 15 (by decide) (hts (.fieldLink RX3 36 "PumpDeskModel" "flowed" "[I") (by decide +kernel)) (fun _ h9 => h9) rfl dX3_spent_19 ?_
        refine lv_iload_n hx hb dX3_spent_22 rfl (lv_at hl 1 rfl) ?_
        refine jz_iald hx hb hK hP 1 0 rfl rfl (by omega) dX3_spent_23 ?_
        refine lv_goto (tgt := 63) hx hb dX3_spent_24 (by decide) ?_
        exact jr_i hx hb hr hlocks (by omega) dX3_spent_63
    · refine jz_iconst hx hb dX3_spent_10 ?_
      refine lv_goto (tgt := 63) hx hb dX3_spent_11 (by decide) ?_
      exact jr_i hx hb hr hlocks (by omega) dX3_spent_63

set_option maxHeartbeats 4000000 in
set_option maxRecDepth 100000 in
theorem c_X3_dose (l : Launch) (dC : Nat → ClassId) (dI : Nat → Nat → Nat) (cI cQ cR : ClassId) (g : Nat → Nat) (t0 t1 t2 t3 t4 t5 t6 t7 t8 t9 t10 t11 t12 t13 t14 : Int) (e0 e1 e2 e3 e4 e5 : Int → Int) (a1 a2 : Int) (ra1 : -2147483648 ≤ a1 ∧ a1 ≤ 2147483647) (ra2 : -2147483648 ≤ a2 ∧ a2 ≤ 2147483647) (hd : 0 ≤ t11 ∧ t11 ≤ 200) : Met l yX3_dose wsX3_dose ({ frames := 0, cells := 0, slots := 0, locals := 0 }) (kR (dC, dI) vwCl (kT cI cQ cR) [.ref (g 0), .int (iI (a1)), .int (iI (a2))] (([(g 0, .inr (3, [.ref (g 1), .ref (g 2), .ref (g 3), .ref (g 4), .int (iI (t0)), .int (iI (t1)), .int (iI (t2)), .int (iI (t3)), .int (iI (t4)), .int (iI (t5)), .int (iI (t6)), .int (iI (t7)), .int (iI (t8)), .int (iI (t9)), .int (iI (t10)), .ref (g 5), .ref (g 6), .int (iI (t11)), .ref (g 7), .ref (g 8), .ref (g 9), .ref (g 10), .ref (g 11), .ref (g 12), .int (iI (t12)), .int (iI (t13)), .int (iI (t14))])), (g 7, .inl (cI, 200, .inl (jA (e0)))), (g 8, .inl (cI, 200, .inl (jA (e1)))), (g 9, .inl (cI, 200, .inl (jA (e2)))), (g 10, .inl (cI, 200, .inl (jA (e3)))), (g 11, .inl (cI, 200, .inl (jA (e4)))), (g 12, .inl (cI, 200, .inl (jA (e5))))] : va_W))) (kRi (fun z => True)) 0 0 (fun _ => False) := by
  refine k_inR (cc := cX3_dose) (maxL := 3) (ret := (some .int)) (by decide) rfl (Nat.le_of_ble_eq_true rfl) ?_
  intro p e s m below meth c ls hx hb hr hts hown hml hlocks hP hK hN hl
  have hown : s.vm.findClass RX3 = some m.cls := hown
  have hl : lv_has ls 3 [(0, .ref (g 0)), (1, .int (iI (a1))), (2, .int (iI (a2)))] := hl
  have hiX3 : ∀ w ∈ u_ws RX3 TX3 27, w ∈ wsX3_dose := by decide +kernel
  refine lv_iload_n hx hb dX3_dose_0 rfl (lv_at hl 1 rfl) ?_
  refine jz_if_lt (tgt := 12) hx hb dX3_dose_1 (by decide) (by omega) (fun cd1 => ?_) (fun cd1 => ?_)
  · refine jz_iconst hx hb dX3_dose_12 ?_
    exact jr_i hx hb hr hlocks (trivial) dX3_dose_13
  · refine lv_iload_n hx hb dX3_dose_4 rfl (lv_at hl 1 rfl) ?_
    refine lv_aload_n hx hb dX3_dose_5 rfl (lv_at hl 0 rfl) ?_
    refine va_get (D := (dC, dI)) (ci := 3) (C := RX3) (T := TX3) (N := 27) hx hb hts hiX3 hown hK hP 0 rfl rfl 17 (by decide) (hts (.fieldLink RX3 80 "PumpDeskModel" "doses" "I") (by decide +kernel)) (fun _ h9 => h9) rfl dX3_dose_6 ?_
    refine jz_icmp_lt (tgt := 14) hx hb dX3_dose_9 (by decide) (by omega) (fun cd9 => ?_) (fun cd9 => ?_)
    · refine lv_iload_n hx hb dX3_dose_14 rfl (lv_at hl 2 rfl) ?_
      refine jz_if_ne (tgt := 27) hx hb dX3_dose_15 (by decide) (by omega) (fun cd15 => ?_) (fun cd15 => ?_)
      · refine lv_iload_n hx hb dX3_dose_27 rfl (lv_at hl 2 rfl) ?_
        refine jz_iconst hx hb dX3_dose_28 ?_
        refine jz_icmp_ne (tgt := 41) hx hb dX3_dose_29 (by decide) (by omega) (fun cd29 => ?_) (fun cd29 => ?_)
        · refine lv_iload_n hx hb dX3_dose_41 rfl (lv_at hl 2 rfl) ?_
          refine jz_iconst hx hb dX3_dose_42 ?_
          refine jz_icmp_ne (tgt := 55) hx hb dX3_dose_43 (by decide) (by omega) (fun cd43 => ?_) (fun cd43 => ?_)
          · refine lv_iload_n hx hb dX3_dose_55 rfl (lv_at hl 2 rfl) ?_
            refine jz_iconst hx hb dX3_dose_56 ?_
            refine jz_icmp_ne (tgt := 69) hx hb dX3_dose_57 (by decide) (by omega) (fun cd57 => ?_) (fun cd57 => ?_)
            · refine lv_iload_n hx hb dX3_dose_69 rfl (lv_at hl 2 rfl) ?_
              refine jz_iconst hx hb dX3_dose_70 ?_
              refine jz_icmp_ne (tgt := 83) hx hb dX3_dose_71 (by decide) (by omega) (fun cd71 => ?_) (fun cd71 => ?_)
              · refine lv_iload_n hx hb dX3_dose_83 rfl (lv_at hl 2 rfl) ?_
                refine jz_iconst hx hb dX3_dose_84 ?_
                refine jz_icmp_ne (tgt := 97) hx hb dX3_dose_85 (by decide) (by omega) (fun cd85 => ?_) (fun cd85 => ?_)
                · refine jz_iconst hx hb dX3_dose_97 ?_
                  exact jr_i hx hb hr hlocks (trivial) dX3_dose_98
                · refine lv_aload_n hx hb dX3_dose_88 rfl (lv_at hl 0 rfl) ?_
                  refine va_get (D := (dC, dI)) (ci := 3) (C := RX3) (T := TX3) (N := 27) hx hb hts hiX3 hown hK hP 0 rfl rfl 23 (by decide) (hts (.fieldLink RX3 57 "PumpDeskModel" "doseWhy" "[I") (by decide +kernel)) (fun _ h9 => h9) rfl dX3_dose_89 ?_
                  refine lv_iload_n hx hb dX3_dose_92 rfl (lv_at hl 1 rfl) ?_
                  refine jz_iald hx hb hK hP 6 0 rfl rfl (by omega) dX3_dose_93 ?_
                  refine lv_goto (tgt := 98) hx hb dX3_dose_94 (by decide) ?_
                  exact jr_i hx hb hr hlocks (trivial) dX3_dose_98
              · refine lv_aload_n hx hb dX3_dose_74 rfl (lv_at hl 0 rfl) ?_
                refine va_get (D := (dC, dI)) (ci := 3) (C := RX3) (T := TX3) (N := 27) hx hb hts hiX3 hown hK hP 0 rfl rfl 22 (by decide) (hts (.fieldLink RX3 54 "PumpDeskModel" "doseWork" "[I") (by decide +kernel)) (fun _ h9 => h9) rfl dX3_dose_75 ?_
                refine lv_iload_n hx hb dX3_dose_78 rfl (lv_at hl 1 rfl) ?_
                refine jz_iald hx hb hK hP 5 0 rfl rfl (by omega) dX3_dose_79 ?_
                refine lv_goto (tgt := 98) hx hb dX3_dose_80 (by decide) ?_
                exact jr_i hx hb hr hlocks (trivial) dX3_dose_98
            · refine lv_aload_n hx hb dX3_dose_60 rfl (lv_at hl 0 rfl) ?_
              refine va_get (D := (dC, dI)) (ci := 3) (C := RX3) (T := TX3) (N := 27) hx hb hts hiX3 hown hK hP 0 rfl rfl 21 (by decide) (hts (.fieldLink RX3 51 "PumpDeskModel" "doseReading" "[I") (by decide +kernel)) (fun _ h9 => h9) rfl dX3_dose_61 ?_
              refine lv_iload_n hx hb dX3_dose_64 rfl (lv_at hl 1 rfl) ?_
              refine jz_iald hx hb hK hP 4 0 rfl rfl (by omega) dX3_dose_65 ?_
              refine lv_goto (tgt := 98) hx hb dX3_dose_66 (by decide) ?_
              exact jr_i hx hb hr hlocks (trivial) dX3_dose_98
          · refine lv_aload_n hx hb dX3_dose_46 rfl (lv_at hl 0 rfl) ?_
            refine va_get (D := (dC, dI)) (ci := 3) (C := RX3) (T := TX3) (N := 27) hx hb hts hiX3 hown hK hP 0 rfl rfl 20 (by decide) (hts (.fieldLink RX3 48 "PumpDeskModel" "doseMeal" "[I") (by decide +kernel)) (fun _ h9 => h9) rfl dX3_dose_47 ?_
            refine lv_iload_n hx hb dX3_dose_50 rfl (lv_at hl 1 rfl) ?_
            refine jz_iald hx hb hK hP 3 0 rfl rfl (by omega) dX3_dose_51 ?_
            refine lv_goto (tgt := 98) hx hb dX3_dose_52 (by decide) ?_
            exact jr_i hx hb hr hlocks (trivial) dX3_dose_98
        · refine lv_aload_n hx hb dX3_dose_32 rfl (lv_at hl 0 rfl) ?_
          refine va_get (D := (dC, dI)) (ci := 3) (C := RX3) (T := TX3) (N := 27) hx hb hts hiX3 hown hK hP 0 rfl rfl 19 (by decide) (hts (.fieldLink RX3 45 "PumpDeskModel" "doseParts" "[I") (by decide +kernel)) (fun _ h9 => h9) rfl dX3_dose_33 ?_
          refine lv_iload_n hx hb dX3_dose_36 rfl (lv_at hl 1 rfl) ?_
          refine jz_iald hx hb hK hP 2 0 rfl rfl (by omega) dX3_dose_37 ?_
          refine lv_goto (tgt := 98) hx hb dX3_dose_38 (by decide) ?_
          exact jr_i hx hb hr hlocks (trivial) dX3_dose_98
      · refine lv_aload_n hx hb dX3_dose_18 rfl (lv_at hl 0 rfl) ?_
        refine va_get (D := (dC, dI)) (ci := 3) (C := RX3) (T := TX3) (N := 27) hx hb hts hiX3 hown hK hP 0 rfl rfl 18 (by decide) (hts (.fieldLink RX3 42 "PumpDeskModel" "doseMinute" "[I") (by decide +kernel)) (fun _ h9 => h9) rfl dX3_dose_19 ?_
        refine lv_iload_n hx hb dX3_dose_22 rfl (lv_at hl 1 rfl) ?_
        refine jz_iald hx hb hK hP 1 0 rfl rfl (by omega) dX3_dose_23 ?_
        refine lv_goto (tgt := 98) hx hb dX3_dose_24 (by decide) ?_
        exact jr_i hx hb hr hlocks (trivial) dX3_dose_98
    · refine jz_iconst hx hb dX3_dose_12 ?_
      exact jr_i hx hb hr hlocks (trivial) dX3_dose_13

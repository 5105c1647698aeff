set_option maxHeartbeats 4000000 in
set_option maxRecDepth 100000 in
theorem c_X1_spanAt (l : Launch) (dC : Nat → ClassId) (dI : Nat → Nat → Nat) (cI cQ cR : ClassId) (a0 a1 a2 : Nat) (wv cn : Int) (st : Int → Int) (a : Int) (ra : -2147483648 ≤ a ∧ a ≤ 2147483647) (hc : 0 ≤ cn ∧ cn ≤ 8) (hrst : ∀ j : Int, -2147483648 ≤ st j ∧ st j ≤ 2147483647) : Met l yX1_spanAt wsX1_spanAt ({ frames := 0, cells := 0, slots := 0, locals := 0 }) (kR (dC, dI) vwCl (kT cI cQ cR) [.ref (a0), .int (iI (a))] (([(a0, .inr (1, [.ref (a1), .ref (a2), .int (iI (wv)), .int (iI (cn))])), (a1, .inl (cI, 8, .inl (jA (st))))] : va_W))) (kRi (fun z => 0 ≤ z ∧ z ≤ cn ∧ (∀ j : Int, 0 ≤ j → j < z → st j ≤ a) ∧ (z < cn → a < st z))) 0 0 (fun _ => False) := by
  refine k_inR (cc := cX1_spanAt) (maxL := 3) (ret := (some .int)) (by decide) rfl (Nat.le_of_ble_eq_true rfl) ?_
  intro p e s m below meth c ls hx hb hr hts hown hml hlocks hP hK hN hl
  have hown : s.vm.findClass RX1 = some m.cls := hown
  have hl : lv_has ls 3 [(0, .ref (a0)), (1, .int (iI (a)))] := hl
  have hiX1 : ∀ w ∈ u_ws RX1 TX1 4, w ∈ wsX1_spanAt := by decide +kernel
  refine jz_iconst hx hb dX1_spanAt_0 ?_
  refine lv_istore_n (lv' := [(2, .int (iI (0))), (0, .ref (a0)), (1, .int (iI (a)))]) hx hb dX1_spanAt_1 rfl hl (by decide) rfl (fun ls hl => ?_)
  have loop2 : ∀ (n : Nat) (k : Int) (ls : Array Slot), cn < k + (n : Int) → (0 ≤ k) → (k ≤ cn) → (∀ j : Int, 0 ≤ j → j < k → st j ≤ a) → lv_has ls 3 [(0, .ref (a0)), (1, .int (iI (a))), (2, .int (iI (k)))] → W p l e ({ frames := 0, cells := 0, slots := 0, locals := 0 }) s m ([.ref (a0), .int (iI (a))] : List Value).toArray below meth c s.heap [] 0 0 (MQ below (kRi (fun z => 0 ≤ z ∧ z ≤ cn ∧ (∀ j : Int, 0 ≤ j → j < z → st j ≤ a) ∧ (z < cn → a < st z))) ([.ref (a0), .int (iI (a))] : List Value).toArray s 0 0 (fun _ => False)) (F0 m 2 ls []) := by
    intro n
    induction n with
    | zero => intro k ls hfu h0 h1 hj hl; exact absurd hfu (by omega)
    | succ n ih =>
      intro k ls hfu h0 h1 hj hl
      refine lv_iload_n hx hb dX1_spanAt_2 rfl (lv_at hl 2 rfl) ?_
      refine lv_aload_n hx hb dX1_spanAt_3 rfl (lv_at hl 0 rfl) ?_
      refine va_get (D := (dC, dI)) (ci := 1) (C := RX1) (T := TX1) (N := 4) hx hb hts hiX1 hown hK hP 0 rfl rfl 3 (by decide) (hts (.fieldLink RX1 18 "PumpDesk$Slots" "count" "I") (by decide +kernel)) (fun _ h9 => h9) rfl dX1_spanAt_4 ?_
      refine jz_icmp_ge (tgt := 26) hx hb dX1_spanAt_7 (by decide) (by omega) (fun cd7 => ?_) (fun cd7 => ?_)
      · refine lv_iload_n hx hb dX1_spanAt_26 rfl (lv_at hl 2 rfl) ?_
        exact jr_i hx hb hr hlocks (⟨by omega, by omega, hj, fun q => by omega⟩) dX1_spanAt_27
      · refine lv_aload_n hx hb dX1_spanAt_10 rfl (lv_at hl 0 rfl) ?_
        refine va_get (D := (dC, dI)) (ci := 1) (C := RX1) (T := TX1) (N := 4) hx hb hts hiX1 hown hK hP 0 rfl rfl 0 (by decide) (hts (.fieldLink RX1 9 "PumpDesk$Slots" "starts" "[I") (by decide +kernel)) (fun _ h9 => h9) rfl dX1_spanAt_11 ?_
        refine lv_iload_n hx hb dX1_spanAt_14 rfl (lv_at hl 2 rfl) ?_
        refine jz_iald hx hb hK hP 1 0 rfl rfl (by omega) dX1_spanAt_15 ?_
        have ra1 := hrst (k)
        refine lv_iload_n hx hb dX1_spanAt_16 rfl (lv_at hl 1 rfl) ?_
        refine jz_icmp_gt (tgt := 26) hx hb dX1_spanAt_17 (by decide) (by omega) (fun cd17 => ?_) (fun cd17 => ?_)
        · refine lv_iload_n hx hb dX1_spanAt_26 rfl (lv_at hl 2 rfl) ?_
          exact jr_i hx hb hr hlocks (⟨by omega, by omega, hj, fun q => by omega⟩) dX1_spanAt_27
        · refine lv_iinc (v := iI ((k + 1))) (lv' := [(2, .int (iI ((k + 1)))), (0, .ref (a0)), (1, .int (iI (a)))]) hx hb dX1_spanAt_20 hl (k := 2) rfl (iI_add _ _) (by decide) rfl (fun ls hl => ?_)
          refine lv_goto (tgt := 2) hx hb dX1_spanAt_23 (by decide) ?_
          exact ih (k + 1) ls (by omega) (by omega) (by omega) (fun j q1 q2 => by rcases (show j < k ∨ j = k by omega) with q | q; exact hj j q1 q; rw [q]; omega) (lv_sub hl [1, 2, 0] rfl)
  exact loop2 9 0 ls (by omega) (by omega) (by omega) (fun j h1 h2 => absurd h2 (by omega)) (lv_sub hl [1, 2, 0] rfl)

set_option maxHeartbeats 4000000 in
set_option maxRecDepth 100000 in
theorem c_X1_valueOfSpan (l : Launch) (dC : Nat → ClassId) (dI : Nat → Nat → Nat) (cI cQ cR : ClassId) (a0 a1 a2 : Nat) (wv cn : Int) (va : Int → Int) (a : Int) (ha : 0 ≤ a ∧ a ≤ cn) (hc : 0 ≤ cn ∧ cn ≤ 8) : Met l yX1_valueOfSpan wsX1_valueOfSpan ({ frames := 0, cells := 0, slots := 0, locals := 0 }) (kR (dC, dI) vwCl (kT cI cQ cR) [.ref (a0), .int (iI (a))] (([(a0, .inr (1, [.ref (a1), .ref (a2), .int (iI (wv)), .int (iI (cn))])), (a2, .inl (cI, 8, .inl (jA (va))))] : va_W))) (kRi (fun z => (cn = 0 ∧ z = wv) ∨ (¬ cn = 0 ∧ a = 0 ∧ z = va (cn - 1)) ∨ (¬ cn = 0 ∧ ¬ a = 0 ∧ z = va (a - 1)))) 0 0 (fun _ => False) := by
  refine k_inR (cc := cX1_valueOfSpan) (maxL := 2) (ret := (some .int)) (by decide) rfl (Nat.le_of_ble_eq_true rfl) ?_
  intro p e s m below meth c ls hx hb hr hts hown hml hlocks hP hK hN hl
  have hown : s.vm.findClass RX1 = some m.cls := hown
  have hl : lv_has ls 2 [(0, .ref (a0)), (1, .int (iI (a)))] := hl
  have hiX1 : ∀ w ∈ u_ws RX1 TX1 4, w ∈ wsX1_valueOfSpan := by decide +kernel
  refine lv_aload_n hx hb dX1_valueOfSpan_0 rfl (lv_at hl 0 rfl) ?_
  refine va_get (D := (dC, dI)) (ci := 1) (C := RX1) (T := TX1) (N := 4) hx hb hts hiX1 hown hK hP 0 rfl rfl 3 (by decide) (hts (.fieldLink RX1 18 "PumpDesk$Slots" "count" "I") (by decide +kernel)) (fun _ h9 => h9) rfl dX1_valueOfSpan_1 ?_
  refine jz_if_ne (tgt := 12) hx hb dX1_valueOfSpan_4 (by decide) (by omega) (fun cd4 => ?_) (fun cd4 => ?_)
  · refine lv_iload_n hx hb dX1_valueOfSpan_12 rfl (lv_at hl 1 rfl) ?_
    refine jz_if_ne (tgt := 30) hx hb dX1_valueOfSpan_13 (by decide) (by omega) (fun cd13 => ?_) (fun cd13 => ?_)
    · refine lv_aload_n hx hb dX1_valueOfSpan_30 rfl (lv_at hl 0 rfl) ?_
      refine va_get (D := (dC, dI)) (ci := 1) (C := RX1) (T := TX1) (N := 4) hx hb hts hiX1 hown hK hP 0 rfl rfl 1 (by decide) (hts (.fieldLink RX1 15 "PumpDesk$Slots" "values" "[I") (by decide +kernel)) (fun _ h9 => h9) rfl dX1_valueOfSpan_31 ?_
      refine lv_iload_n hx hb dX1_valueOfSpan_34 rfl (lv_at hl 1 rfl) ?_
      refine jz_iconst hx hb dX1_valueOfSpan_35 ?_
      refine jz_isub hx hb dX1_valueOfSpan_36 ?_
      refine jz_iald hx hb hK hP 1 0 rfl rfl (by omega) dX1_valueOfSpan_37 ?_
      exact jr_i hx hb hr hlocks (by omega) dX1_valueOfSpan_38
    · refine lv_aload_n hx hb dX1_valueOfSpan_16 rfl (lv_at hl 0 rfl) ?_
      refine va_get (D := (dC, dI)) (ci := 1) (C := RX1) (T := TX1) (N := 4) hx hb hts hiX1 hown hK hP 0 rfl rfl 1 (by decide) (hts (.fieldLink RX1 15 "PumpDesk$Slots" "values" "[I") (by decide +kernel)) (fun _ h9 => h9) rfl dX1_valueOfSpan_17 ?_
      refine lv_aload_n hx hb dX1_valueOfSpan_20 rfl (lv_at hl 0 rfl) ?_
      refine va_get (D := (dC, dI)) (ci := 1) (C := RX1) (T := TX1) (N := 4) hx hb hts hiX1 hown hK hP 0 rfl rfl 3 (by decide) (hts (.fieldLink RX1 18 "PumpDesk$Slots" "count" "I") (by decide +kernel)) (fun _ h9 => h9) rfl dX1_valueOfSpan_21 ?_
      refine jz_iconst hx hb dX1_valueOfSpan_24 ?_
      refine jz_isub hx hb dX1_valueOfSpan_25 ?_
      refine jz_iald hx hb hK hP 1 0 rfl rfl (by omega) dX1_valueOfSpan_26 ?_
      refine lv_goto (tgt := 38) hx hb dX1_valueOfSpan_27 (by decide) ?_
      exact jr_i hx hb hr hlocks (by omega) dX1_valueOfSpan_38
  · refine lv_aload_n hx hb dX1_valueOfSpan_7 rfl (lv_at hl 0 rfl) ?_
    refine va_get (D := (dC, dI)) (ci := 1) (C := RX1) (T := TX1) (N := 4) hx hb hts hiX1 hown hK hP 0 rfl rfl 2 (by decide) (hts (.fieldLink RX1 22 "PumpDesk$Slots" "valueWithout" "I") (by decide +kernel)) (fun _ h9 => h9) rfl dX1_valueOfSpan_8 ?_
    exact jr_i hx hb hr hlocks (by omega) dX1_valueOfSpan_11

set_option maxHeartbeats 4000000 in
set_option maxRecDepth 100000 in
theorem c_X1_beginOfSpan (l : Launch) (dC : Nat → ClassId) (dI : Nat → Nat → Nat) (cI cQ cR : ClassId) (a0 a1 a2 : Nat) (wv cn : Int) (st : Int → Int) (a : Int) (ha : 0 ≤ a ∧ a ≤ cn) (hc : 0 ≤ cn ∧ cn ≤ 8) : Met l yX1_beginOfSpan wsX1_beginOfSpan ({ frames := 0, cells := 0, slots := 0, locals := 0 }) (kR (dC, dI) vwCl (kT cI cQ cR) [.ref (a0), .int (iI (a))] (([(a0, .inr (1, [.ref (a1), .ref (a2), .int (iI (wv)), .int (iI (cn))])), (a1, .inl (cI, 8, .inl (jA (st))))] : va_W))) (kRi (fun z => (a = 0 ∧ z = 0) ∨ (¬ a = 0 ∧ z = st (a - 1)))) 0 0 (fun _ => False) := by
  refine k_inR (cc := cX1_beginOfSpan) (maxL := 2) (ret := (some .int)) (by decide) rfl (Nat.le_of_ble_eq_true rfl) ?_
  intro p e s m below meth c ls hx hb hr hts hown hml hlocks hP hK hN hl
  have hown : s.vm.findClass RX1 = some m.cls := hown
  have hl : lv_has ls 2 [(0, .ref (a0)), (1, .int (iI (a)))] := hl
  have hiX1 : ∀ w ∈ u_ws RX1 TX1 4, w ∈ wsX1_beginOfSpan := by decide +kernel
  refine lv_iload_n hx hb dX1_beginOfSpan_0 rfl (lv_at hl 1 rfl) ?_
  refine jz_if_ne (tgt := 8) hx hb dX1_beginOfSpan_1 (by decide) (by omega) (fun cd1 => ?_) (fun cd1 => ?_)
  · refine lv_aload_n hx hb dX1_beginOfSpan_8 rfl (lv_at hl 0 rfl) ?_
    refine va_get (D := (dC, dI)) (ci := 1) (C := RX1) (T := TX1) (N := 4) hx hb hts hiX1 hown hK hP 0 rfl rfl 0 (by decide) (hts (.fieldLink RX1 9 "PumpDesk$Slots" "starts" "[I") (by decide +kernel)) (fun _ h9 => h9) rfl dX1_beginOfSpan_9 ?_
    refine lv_iload_n hx hb dX1_beginOfSpan_12 rfl (lv_at hl 1 rfl) ?_
    refine jz_iconst hx hb dX1_beginOfSpan_13 ?_
    refine jz_isub hx hb dX1_beginOfSpan_14 ?_
    refine jz_iald hx hb hK hP 1 0 rfl rfl (by omega) dX1_beginOfSpan_15 ?_
    exact jr_i hx hb hr hlocks (by omega) dX1_beginOfSpan_16
  · refine jz_iconst hx hb dX1_beginOfSpan_4 ?_
    refine lv_goto (tgt := 16) hx hb dX1_beginOfSpan_5 (by decide) ?_
    exact jr_i hx hb hr hlocks (by omega) dX1_beginOfSpan_16

set_option maxHeartbeats 4000000 in
set_option maxRecDepth 100000 in
theorem c_X1_endOfSpan (l : Launch) (dC : Nat → ClassId) (dI : Nat → Nat → Nat) (cI cQ cR : ClassId) (a0 a1 a2 : Nat) (wv cn : Int) (st : Int → Int) (a : Int) (ha : 0 ≤ a ∧ a ≤ cn) (hc : 0 ≤ cn ∧ cn ≤ 8) : Met l yX1_endOfSpan wsX1_endOfSpan ({ frames := 0, cells := 0, slots := 0, locals := 0 }) (kR (dC, dI) vwCl (kT cI cQ cR) [.ref (a0), .int (iI (a))] (([(a0, .inr (1, [.ref (a1), .ref (a2), .int (iI (wv)), .int (iI (cn))])), (a1, .inl (cI, 8, .inl (jA (st))))] : va_W))) (kRi (fun z => (a = cn ∧ z = 1440) ∨ (a < cn ∧ z = st a))) 0 0 (fun _ => False) := by
  refine k_inR (cc := cX1_endOfSpan) (maxL := 2) (ret := (some .int)) (by decide) rfl (Nat.le_of_ble_eq_true rfl) ?_
  intro p e s m below meth c ls hx hb hr hts hown hml hlocks hP hK hN hl
  have hown : s.vm.findClass RX1 = some m.cls := hown
  have hl : lv_has ls 2 [(0, .ref (a0)), (1, .int (iI (a)))] := hl
  have hiX1 : ∀ w ∈ u_ws RX1 TX1 4, w ∈ wsX1_endOfSpan := by decide +kernel
  refine lv_iload_n hx hb dX1_endOfSpan_0 rfl (lv_at hl 1 rfl) ?_
  refine lv_aload_n hx hb dX1_endOfSpan_1 rfl (lv_at hl 0 rfl) ?_
  refine va_get (D := (dC, dI)) (ci := 1) (C := RX1) (T := TX1) (N := 4) hx hb hts hiX1 hown hK hP 0 rfl rfl 3 (by decide) (hts (.fieldLink RX1 18 "PumpDesk$Slots" "count" "I") (by decide +kernel)) (fun _ h9 => h9) rfl dX1_endOfSpan_2 ?_
  refine jz_icmp_ne (tgt := 14) hx hb dX1_endOfSpan_5 (by decide) (by omega) (fun cd5 => ?_) (fun cd5 => ?_)
  · refine lv_aload_n hx hb dX1_endOfSpan_14 rfl (lv_at hl 0 rfl) ?_
    refine va_get (D := (dC, dI)) (ci := 1) (C := RX1) (T := TX1) (N := 4) hx hb hts hiX1 hown hK hP 0 rfl rfl 0 (by decide) (hts (.fieldLink RX1 9 "PumpDesk$Slots" "starts" "[I") (by decide +kernel)) (fun _ h9 => h9) rfl dX1_endOfSpan_15 ?_
    refine lv_iload_n hx hb dX1_endOfSpan_18 rfl (lv_at hl 1 rfl) ?_
    refine jz_iald hx hb hK hP 1 0 rfl rfl (by omega) dX1_endOfSpan_19 ?_
    exact jr_i hx hb hr hlocks (by omega) dX1_endOfSpan_20
  · refine jz_sipush hx hb dX1_endOfSpan_8 rfl ?_
    refine lv_goto (tgt := 20) hx hb dX1_endOfSpan_11 (by decide) ?_
    exact jr_i hx hb hr hlocks (by omega) dX1_endOfSpan_20

set_option maxHeartbeats 4000000 in
set_option maxRecDepth 100000 in
theorem c_X1_valueAt (l : Launch) (dC : Nat → ClassId) (dI : Nat → Nat → Nat) (cI cQ cR : ClassId) (a0 a1 a2 : Nat) (wv cn : Int) (st va : Int → Int) (a : Int) (ra : -2147483648 ≤ a ∧ a ≤ 2147483647) (hc : 0 ≤ cn ∧ cn ≤ 8) (hrst : ∀ j : Int, -2147483648 ≤ st j ∧ st j ≤ 2147483647) : Met l yX1_valueAt wsX1_valueAt ({ frames := 1, cells := 0, slots := 0, locals := 22 }) (kR (dC, dI) vwCl (kT cI cQ cR) [.ref (a0), .int (iI (a))] (([(a0, .inr (1, [.ref (a1), .ref (a2), .int (iI (wv)), .int (iI (cn))])), (a1, .inl (cI, 8, .inl (jA (st)))), (a2, .inl (cI, 8, .inl (jA (va))))] : va_W))) (kRi (fun z => ∃ k : Int, (0 ≤ k ∧ k ≤ cn ∧ (∀ j : Int, 0 ≤ j → j < k → st j ≤ a) ∧ (k < cn → a < st k)) ∧ ((cn = 0 ∧ z = wv) ∨ (¬ cn = 0 ∧ k = 0 ∧ z = va (cn - 1)) ∨ (¬ cn = 0 ∧ ¬ k = 0 ∧ z = va (k - 1))))) 0 0 (fun _ => False) := by
  refine k_inR (cc := cX1_valueAt) (maxL := 2) (ret := (some .int)) (by decide) rfl (Nat.le_of_ble_eq_true rfl) ?_
  intro p e s m below meth c ls hx hb hr hts hown hml hlocks hP hK hN hl
  have hown : s.vm.findClass RX1 = some m.cls := hown
  have hl : lv_has ls 2 [(0, .ref (a0)), (1, .int (iI (a)))] := hl
  refine lv_aload_n hx hb dX1_valueAt_0 rfl (lv_at hl 0 rfl) ?_
  refine lv_aload_n hx hb dX1_valueAt_1 rfl (lv_at hl 0 rfl) ?_
  refine lv_iload_n hx hb dX1_valueAt_2 rfl (lv_at hl 1 rfl) ?_
  refine kr_i (va_runV (As := [.int (iI (a))]) (rest := [.ref (a0)]) ⟨hx, hb, hml, hown, hts⟩ (c_X1_spanAt l dC dI cI cQ cR (a0) (a1) (a2) (wv) (cn) (st) (a) (by omega) (by omega) (hrst)) (cwV 1 hts gX1_valueAt_X1_spanAt rfl rfl rfl (by decide +kernel) ⟨Nat.le_of_ble_eq_true rfl, Nat.le_of_ble_eq_true rfl⟩) (kR_V hK hN (hP.sub (ws' := ([(a0, .inr (1, [.ref (a1), .ref (a2), .int (iI (wv)), .int (iI (cn))])), (a1, .inl (cI, 8, .inl (jA (st))))] : va_W)) [0, 1] rfl) hK hP (q0 := 0) rfl rfl) rfl rfl hl.1 rfl (lv_room (Nat.le_of_ble_eq_true rfl)) dX1_valueAt_3 ⟨Nat.le_of_ble_eq_true rfl, Nat.le_of_ble_eq_true rfl⟩) (fun z1 hz1 => ?_)
  refine kr_i (va_runV (As := [.int (iI (z1))]) (rest := []) ⟨hx, hb, hml, hown, hts⟩ (c_X1_valueOfSpan l dC dI cI cQ cR (a0) (a1) (a2) (wv) (cn) (va) (z1) (by omega) (by omega)) (cwV 1 hts gX1_valueAt_X1_valueOfSpan rfl rfl rfl (by decide +kernel) ⟨Nat.le_of_ble_eq_true rfl, Nat.le_of_ble_eq_true rfl⟩) (kR_V hK hN (hP.sub (ws' := ([(a0, .inr (1, [.ref (a1), .ref (a2), .int (iI (wv)), .int (iI (cn))])), (a2, .inl (cI, 8, .inl (jA (va))))] : va_W)) [0, 2] rfl) hK hP (q0 := 0) rfl rfl) rfl rfl hl.1 rfl (lv_room (Nat.le_of_ble_eq_true rfl)) dX1_valueAt_6 ⟨Nat.le_of_ble_eq_true rfl, Nat.le_of_ble_eq_true rfl⟩) (fun z2 hz2 => ?_)
  exact jr_i hx hb hr hlocks (⟨z1, hz1, hz2⟩) dX1_valueAt_9

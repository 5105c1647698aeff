set_option maxHeartbeats 4000000 in
set_option maxRecDepth 100000 in
theorem c_X1_init (l : Launch) (dC : Nat → ClassId) (dI : Nat → Nat → Nat) (cI cQ cR : ClassId) (a0 : Nat) (wr : va_W) (wv : Int) (sz : Nat)  : Met l yX1_init wsX1_init ({ frames := 1, cells := 2, slots := 16, locals := 20 }) (kPc (dC, dI) vwCl (kT cI cQ cR) [.ref (a0), .int (iI (wv))] (([(a0, .inr (1, [.null, .null, .int (iI (0)), .int (iI (0))]))] : va_W) ++ wr) sz) (kQv (dC, dI) vwCl (va_A (([(a0, .inr (1, [.null, .null, .int (iI (0)), .int (iI (0))]))] : va_W) ++ wr) sz) (fun (u : Nat × Nat) => True) (fun (u : Nat × Nat) => ([(a0, .inr (1, [.ref (u.1), .ref (u.2), .int (iI (wv)), .int (iI (0))])), (u.1, .inl (cI, 8, .inl (jA (fun _ => 0)))), (u.2, .inl (cI, 8, .inl (jA (fun _ => 0))))] : va_W) ++ wr)) 2 16 (va_A (([(a0, .inr (1, [.null, .null, .int (iI (0)), .int (iI (0))]))] : va_W) ++ wr) sz) := by
  refine k_inWv (cc := cX1_init) (maxL := 2) (ret := none) (by decide) rfl (Nat.le_of_ble_eq_true rfl) ?_
  intro p e s m below meth c ls A hx hb hr hts hown hml hlocks hin hP hK hN hD hS hA hAo hl
  have hown : s.vm.findClass RX1 = some m.cls := hown
  have hin : meth.name = "<init>" := hin
  have hl : lv_has ls 2 [(0, .ref (a0)), (1, .int (iI (wv)))] := hl
  have hiX1 : ∀ w ∈ u_ws RX1 TX1 4, w ∈ wsX1_init := by decide +kernel
  refine lv_aload_n hx hb dX1_init_0 rfl (lv_at hl 0 rfl) ?_
  refine W.objInit hx hb hown (hts (.methodLink RX1 3 objectInit) (by decide +kernel)) (hts (.instanceMethod objectInit) (by decide +kernel)) (hts (.code objectInit ⟨#[0xb1]⟩ 1 none) (by decide +kernel)) rfl (by rw [hml]; exact hl.1) rfl dX1_init_1 (Nat.le_of_ble_eq_true rfl) (Nat.le_of_ble_eq_true rfl) ?_
  refine W.eq (g2 := F0 m 4 ls []) rfl ?_
  refine lv_aload_n hx hb dX1_init_4 rfl (lv_at hl 0 rfl) ?_
  refine jz_bipush hx hb dX1_init_5 rfl ?_
  refine k_newI (N' := 8) hx hb (hts (.arrayClass .int) (by decide +kernel)) hK 0 rfl hP hD hS hA rfl (Nat.le_of_ble_eq_true rfl) (Nat.le_of_ble_eq_true rfl) (Nat.le_of_ble_eq_true rfl) dX1_init_7 (fun q1 H hP hD hS => ?_)
  have hP := k_mvP hP
  have hD := k_mvD hD
  have hP : va_P (dC, dI) vwCl (([(a0, .inr (1, [.null, .null, .int (iI (0)), .int (iI (0))])), (q1, .inl (cI, 8, .inl (jA (fun _ => 0))))] : va_W) ++ wr) H := hP
  have hD : va_D A (([(a0, .inr (1, [.null, .null, .int (iI (0)), .int (iI (0))])), (q1, .inl (cI, 8, .inl (jA (fun _ => 0))))] : va_W) ++ wr) := hD
  refine W.widen (k := 1) (n := 8) (by omega) (by omega) ?_
  refine va_putF (D := (dC, dI)) (ci := 1) (v := .ref (q1)) (ty := .array .int) (C := RX1) (T := TX1) (N := 4) hx hb hts hiX1 tyX1 tyX1_ok nmX1 hown hK hP hD hS 0 rfl rfl 0 (by decide) (hts (.fieldLink RX1 9 "PumpDesk$Slots" "starts" "[I") (by decide +kernel)) (fun _ h9 => h9) rfl hin rfl (by decide +kernel) rfl rfl (Nat.le_of_ble_eq_true rfl) dX1_init_9 (fun H locs hP hD hS => ?_)
  have hP : va_P (dC, dI) vwCl (([(a0, .inr (1, [.ref (q1), .null, .int (iI (0)), .int (iI (0))])), (q1, .inl (cI, 8, .inl (jA (fun _ => 0))))] : va_W) ++ wr) H := hP
  have hD : va_D A (([(a0, .inr (1, [.ref (q1), .null, .int (iI (0)), .int (iI (0))])), (q1, .inl (cI, 8, .inl (jA (fun _ => 0))))] : va_W) ++ wr) := hD
  refine lv_aload_n hx hb dX1_init_12 rfl (lv_at hl 0 rfl) ?_
  refine jz_bipush hx hb dX1_init_13 rfl ?_
  refine k_newI (N' := 8) hx hb (hts (.arrayClass .int) (by decide +kernel)) hK 0 rfl hP hD hS hA rfl (Nat.le_of_ble_eq_true rfl) (Nat.le_of_ble_eq_true rfl) (Nat.le_of_ble_eq_true rfl) dX1_init_15 (fun q2 H hP hD hS => ?_)
  have hP := k_mvP hP
  have hD := k_mvD hD
  have hP : va_P (dC, dI) vwCl (([(a0, .inr (1, [.ref (q1), .null, .int (iI (0)), .int (iI (0))])), (q1, .inl (cI, 8, .inl (jA (fun _ => 0)))), (q2, .inl (cI, 8, .inl (jA (fun _ => 0))))] : va_W) ++ wr) H := hP
  have hD : va_D A (([(a0, .inr (1, [.ref (q1), .null, .int (iI (0)), .int (iI (0))])), (q1, .inl (cI, 8, .inl (jA (fun _ => 0)))), (q2, .inl (cI, 8, .inl (jA (fun _ => 0))))] : va_W) ++ wr) := hD
  refine W.widen (k := 2) (n := 16) (by omega) (by omega) ?_
  refine va_putF (D := (dC, dI)) (ci := 1) (v := .ref (q2)) (ty := .array .int) (C := RX1) (T := TX1) (N := 4) hx hb hts hiX1 tyX1 tyX1_ok nmX1 hown hK hP hD hS 0 rfl rfl 1 (by decide) (hts (.fieldLink RX1 15 "PumpDesk$Slots" "values" "[I") (by decide +kernel)) (fun _ h9 => h9) rfl hin rfl (by decide +kernel) rfl rfl (Nat.le_of_ble_eq_true rfl) dX1_init_17 (fun H locs hP hD hS => ?_)
  have hP : va_P (dC, dI) vwCl (([(a0, .inr (1, [.ref (q1), .ref (q2), .int (iI (0)), .int (iI (0))])), (q1, .inl (cI, 8, .inl (jA (fun _ => 0)))), (q2, .inl (cI, 8, .inl (jA (fun _ => 0))))] : va_W) ++ wr) H := hP
  have hD : va_D A (([(a0, .inr (1, [.ref (q1), .ref (q2), .int (iI (0)), .int (iI (0))])), (q1, .inl (cI, 8, .inl (jA (fun _ => 0)))), (q2, .inl (cI, 8, .inl (jA (fun _ => 0))))] : va_W) ++ wr) := hD
  refine lv_aload_n hx hb dX1_init_20 rfl (lv_at hl 0 rfl) ?_
  refine jz_iconst hx hb dX1_init_21 ?_
  refine va_put (D := (dC, dI)) (ci := 1) (v := .int (iI (0))) (ty := .int) (C := RX1) (T := TX1) (N := 4) hx hb hts hiX1 tyX1 tyX1_ok nmX1 hown hK hP hD hS 0 rfl rfl 3 (by decide) (hts (.fieldLink RX1 18 "PumpDesk$Slots" "count" "I") (by decide +kernel)) (fun _ h9 => h9) rfl (by decide +kernel) rfl rfl (Nat.le_of_ble_eq_true rfl) dX1_init_22 (fun H locs hP hD hS => ?_)
  have hP : va_P (dC, dI) vwCl (([(a0, .inr (1, [.ref (q1), .ref (q2), .int (iI (0)), .int (iI (0))])), (q1, .inl (cI, 8, .inl (jA (fun _ => 0)))), (q2, .inl (cI, 8, .inl (jA (fun _ => 0))))] : va_W) ++ wr) H := hP
  have hD : va_D A (([(a0, .inr (1, [.ref (q1), .ref (q2), .int (iI (0)), .int (iI (0))])), (q1, .inl (cI, 8, .inl (jA (fun _ => 0)))), (q2, .inl (cI, 8, .inl (jA (fun _ => 0))))] : va_W) ++ wr) := hD
  refine lv_aload_n hx hb dX1_init_25 rfl (lv_at hl 0 rfl) ?_
  refine lv_iload_n hx hb dX1_init_26 rfl (lv_at hl 1 rfl) ?_
  refine va_putF (D := (dC, dI)) (ci := 1) (v := .int (iI (wv))) (ty := .int) (C := RX1) (T := TX1) (N := 4) hx hb hts hiX1 tyX1 tyX1_ok nmX1 hown hK hP hD hS 0 rfl rfl 2 (by decide) (hts (.fieldLink RX1 22 "PumpDesk$Slots" "valueWithout" "I") (by decide +kernel)) (fun _ h9 => h9) rfl hin rfl (by decide +kernel) rfl rfl (Nat.le_of_ble_eq_true rfl) dX1_init_27 (fun H locs hP hD hS => ?_)
  have hP : va_P (dC, dI) vwCl (([(a0, .inr (1, [.ref (q1), .ref (q2), .int (iI (wv)), .int (iI (0))])), (q1, .inl (cI, 8, .inl (jA (fun _ => 0)))), (q2, .inl (cI, 8, .inl (jA (fun _ => 0))))] : va_W) ++ wr) H := hP
  have hD : va_D A (([(a0, .inr (1, [.ref (q1), .ref (q2), .int (iI (wv)), .int (iI (0))])), (q1, .inl (cI, 8, .inl (jA (fun _ => 0)))), (q2, .inl (cI, 8, .inl (jA (fun _ => 0))))] : va_W) ++ wr) := hD
  exact jw_v hx hb hr hlocks ((q1, q2)) (trivial) hP hD hS dX1_init_30

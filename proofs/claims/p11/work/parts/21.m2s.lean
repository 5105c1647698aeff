set_option maxHeartbeats 4000000 in
set_option maxRecDepth 100000 in
theorem c_X3_slot (l : Launch) (dC : Nat → ClassId) (dI : Nat → Nat → Nat) (cI cQ cR : ClassId) (g : Nat → Nat) (t0 t1 t2 t3 t4 t5 t6 t7 t8 t9 t10 t11 t12 t13 t14 : Int) (mn mst mva : Int → Int) (wr : va_W) (a1 a2 a3 : Int) (sz : Nat) (ra1 : -2147483648 ≤ a1 ∧ a1 ≤ 2147483647) (ra2 : -2147483648 ≤ a2 ∧ a2 ≤ 2147483647) (ra3 : -2147483648 ≤ a3 ∧ a3 ≤ 2147483647) (hmn : ∀ i : Int, 0 ≤ i → i ≤ 4 → 0 ≤ mn i ∧ mn i ≤ 8) (hst : ∀ i q : Int, 0 ≤ i → i ≤ 4 → 8 * i ≤ q → q < 8 * i + mn i → 0 ≤ mst q ∧ mst q ≤ 1439) : Met l yX3_slot wsX3_slot ({ frames := 0, cells := 0, slots := 0, locals := 0 }) (kPc (dC, dI) vwCl (kT cI cQ cR) [.ref (g 0), .int (iI (a1)), .int (iI (a2)), .int (iI (a3))] (([(g 0, .inr (3, [.ref (g 1), .ref (g 2), .ref (g 3), .ref (g 4), .int (iI (t0)), .int (iI (t1)), .int (iI (t2)), .int (iI (t3)), .int (iI (t4)), .int (iI (t5)), .int (iI (t6)), .int (iI (t7)), .int (iI (t8)), .int (iI (t9)), .int (iI (t10)), .ref (g 5), .ref (g 6), .int (iI (t11)), .ref (g 7), .ref (g 8), .ref (g 9), .ref (g 10), .ref (g 11), .ref (g 12), .int (iI (t12)), .int (iI (t13)), .int (iI (t14))])), (g 1, .inl (cI, 5, .inl (jA (mn)))), (g 2, .inl (cI, 40, .inl (jA (mst)))), (g 3, .inl (cI, 40, .inl (jA (mva))))] : va_W) ++ wr) sz) (kQi (dC, dI) vwCl (va_A (([(g 0, .inr (3, [.ref (g 1), .ref (g 2), .ref (g 3), .ref (g 4), .int (iI (t0)), .int (iI (t1)), .int (iI (t2)), .int (iI (t3)), .int (iI (t4)), .int (iI (t5)), .int (iI (t6)), .int (iI (t7)), .int (iI (t8)), .int (iI (t9)), .int (iI (t10)), .ref (g 5), .ref (g 6), .int (iI (t11)), .ref (g 7), .ref (g 8), .ref (g 9), .ref (g 10), .ref (g 11), .ref (g 12), .int (iI (t12)), .int (iI (t13)), .int (iI (t14))])), (g 1, .inl (cI, 5, .inl (jA (mn)))), (g 2, .inl (cI, 40, .inl (jA (mst)))), (g 3, .inl (cI, 40, .inl (jA (mva))))] : va_W) ++ wr) sz) (fun (z : Int) (u : (Int → Int) × (Int → Int) × (Int → Int)) => (¬ (0 ≤ a1 ∧ a1 ≤ 4 ∧ 0 ≤ a2 ∧ a2 ≤ 1439 ∧ ((a1 = 4 ∧ 0 ≤ a3 ∧ a3 ≤ 20000) ∨ (¬ a1 = 4 ∧ 1 ≤ a3 ∧ a3 ≤ 1000))) ∧ z = 0 ∧ u = (mn, mst, mva)) ∨ ((0 ≤ a1 ∧ a1 ≤ 4 ∧ 0 ≤ a2 ∧ a2 ≤ 1439 ∧ ((a1 = 4 ∧ 0 ≤ a3 ∧ a3 ≤ 20000) ∨ (¬ a1 = 4 ∧ 1 ≤ a3 ∧ a3 ≤ 1000))) ∧ ∃ at0 : Int, (0 ≤ at0 ∧ at0 ≤ mn a1 ∧ (∀ j : Int, 0 ≤ j → j < at0 → ¬ mst (8 * a1 + j) = a2) ∧ (at0 < mn a1 → mst (8 * a1 + at0) = a2)) ∧ ((at0 = 8 ∧ z = 0 ∧ u = (mn, mst, mva)) ∨ (at0 < 8 ∧ z = 1 ∧ u.2.1 = jU mst (8 * a1 + at0) a2 ∧ u.2.2 = jU mva (8 * a1 + at0) a3 ∧ ((at0 = mn a1 ∧ u.1 = jU mn a1 (at0 + 1)) ∨ (at0 < mn a1 ∧ u.1 = jU mn a1 (mn a1))))))) (fun (u : (Int → Int) × (Int → Int) × (Int → Int)) => ([(g 0, .inr (3, [.ref (g 1), .ref (g 2), .ref (g 3), .ref (g 4), .int (iI (t0)), .int (iI (t1)), .int (iI (t2)), .int (iI (t3)), .int (iI (t4)), .int (iI (t5)), .int (iI (t6)), .int (iI (t7)), .int (iI (t8)), .int (iI (t9)), .int (iI (t10)), .ref (g 5), .ref (g 6), .int (iI (t11)), .ref (g 7), .ref (g 8), .ref (g 9), .ref (g 10), .ref (g 11), .ref (g 12), .int (iI (t12)), .int (iI (t13)), .int (iI (t14))])), (g 1, .inl (cI, 5, .inl (jA (u.1)))), (g 2, .inl (cI, 40, .inl (jA (u.2.1)))), (g 3, .inl (cI, 40, .inl (jA (u.2.2))))] : va_W) ++ wr)) 0 0 (va_A (([(g 0, .inr (3, [.ref (g 1), .ref (g 2), .ref (g 3), .ref (g 4), .int (iI (t0)), .int (iI (t1)), .int (iI (t2)), .int (iI (t3)), .int (iI (t4)), .int (iI (t5)), .int (iI (t6)), .int (iI (t7)), .int (iI (t8)), .int (iI (t9)), .int (iI (t10)), .ref (g 5), .ref (g 6), .int (iI (t11)), .ref (g 7), .ref (g 8), .ref (g 9), .ref (g 10), .ref (g 11), .ref (g 12), .int (iI (t12)), .int (iI (t13)), .int (iI (t14))])), (g 1, .inl (cI, 5, .inl (jA (mn)))), (g 2, .inl (cI, 40, .inl (jA (mst)))), (g 3, .inl (cI, 40, .inl (jA (mva))))] : va_W) ++ wr) sz) := by
  refine k_inWi (cc := cX3_slot) (maxL := 5) (ret := (some .boolean)) (by decide) rfl (Nat.le_of_ble_eq_true rfl) ?_
  intro p e s m below meth c ls A hx hb hr hts hown hml hlocks hin hP hK hN hD hS hA hAo hl
  have hown : s.vm.findClass RX3 = some m.cls := hown
  have hl : lv_has ls 5 [(0, .ref (g 0)), (1, .int (iI (a1))), (2, .int (iI (a2))), (3, .int (iI (a3)))] := hl
  have hiX3 : ∀ w ∈ u_ws RX3 TX3 27, w ∈ wsX3_slot := by decide +kernel
  have cut54 : ∀  (ls : Array Slot) (H : Heap) (locs : List Loc), ((0 ≤ a1 ∧ a1 ≤ 4 ∧ 0 ≤ a2 ∧ a2 ≤ 1439 ∧ ((a1 = 4 ∧ 0 ≤ a3 ∧ a3 ≤ 20000) ∨ (¬ a1 = 4 ∧ 1 ≤ a3 ∧ a3 ≤ 1000)))) → va_P (dC, dI) vwCl (([(g 0, .inr (3, [.ref (g 1), .ref (g 2), .ref (g 3), .ref (g 4), .int (iI (t0)), .int (iI (t1)), .int (iI (t2)), .int (iI (t3)), .int (iI (t4)), .int (iI (t5)), .int (iI (t6)), .int (iI (t7)), .int (iI (t8)), .int (iI (t9)), .int (iI (t10)), .ref (g 5), .ref (g 6), .int (iI (t11)), .ref (g 7), .ref (g 8), .ref (g 9), .ref (g 10), .ref (g 11), .ref (g 12), .int (iI (t12)), .int (iI (t13)), .int (iI (t14))])), (g 1, .inl (cI, 5, .inl (jA (mn)))), (g 2, .inl (cI, 40, .inl (jA (mst)))), (g 3, .inl (cI, 40, .inl (jA (mva))))] : va_W) ++ wr) H → va_D A (([(g 0, .inr (3, [.ref (g 1), .ref (g 2), .ref (g 3), .ref (g 4), .int (iI (t0)), .int (iI (t1)), .int (iI (t2)), .int (iI (t3)), .int (iI (t4)), .int (iI (t5)), .int (iI (t6)), .int (iI (t7)), .int (iI (t8)), .int (iI (t9)), .int (iI (t10)), .ref (g 5), .ref (g 6), .int (iI (t11)), .ref (g 7), .ref (g 8), .ref (g 9), .ref (g 10), .ref (g 11), .ref (g 12), .int (iI (t12)), .int (iI (t13)), .int (iI (t14))])), (g 1, .inl (cI, 5, .inl (jA (mn)))), (g 2, .inl (cI, 40, .inl (jA (mst)))), (g 3, .inl (cI, 40, .inl (jA (mva))))] : va_W) ++ wr) → va_S A s.heap H locs → lv_has ls 5 [(0, .ref (g 0)), (1, .int (iI (a1))), (2, .int (iI (a2))), (3, .int (iI (a3)))] → W p l e ({ frames := 0, cells := 0, slots := 0, locals := 0 }) s m ([.ref (g 0), .int (iI (a1)), .int (iI (a2)), .int (iI (a3))] : List Value).toArray below meth c H locs 0 0 (MQ below (kQi (dC, dI) vwCl A (fun (z : Int) (u : (Int → Int) × (Int → Int) × (Int → Int)) => (¬ (0 ≤ a1 ∧ a1 ≤ 4 ∧ 0 ≤ a2 ∧ a2 ≤ 1439 ∧ ((a1 = 4 ∧ 0 ≤ a3 ∧ a3 ≤ 20000) ∨ (¬ a1 = 4 ∧ 1 ≤ a3 ∧ a3 ≤ 1000))) ∧ z = 0 ∧ u = (mn, mst, mva)) ∨ ((0 ≤ a1 ∧ a1 ≤ 4 ∧ 0 ≤ a2 ∧ a2 ≤ 1439 ∧ ((a1 = 4 ∧ 0 ≤ a3 ∧ a3 ≤ 20000) ∨ (¬ a1 = 4 ∧ 1 ≤ a3 ∧ a3 ≤ 1000))) ∧ ∃ at0 : Int, (0 ≤ at0 ∧ at0 ≤ mn a1 ∧ (∀ j : Int, 0 ≤ j → j < at0 → ¬ mst (8 * a1 + j) = a2) ∧ (at0 < mn a1 → mst (8 * a1 + at0) = a2)) ∧ ((at0 = 8 ∧ z = 0 ∧ u = (mn, mst, mva)) ∨ (at0 < 8 ∧ z = 1 ∧ u.2.1 = jU mst (8 * a1 + at0) a2 ∧ u.2.2 = jU mva (8 * a1 + at0) a3 ∧ ((at0 = mn a1 ∧ u.1 = jU mn a1 (at0 + 1)) ∨ (at0 < mn a1 ∧ u.1 = jU mn a1 (mn a1))))))) (fun (u : (Int → Int) × (Int → Int) × (Int → Int)) => ([(g 0, .inr (3, [.ref (g 1), .ref (g 2), .ref (g 3), .ref (g 4), .int (iI (t0)), .int (iI (t1)), .int (iI (t2)), .int (iI (t3)), .int (iI (t4)), .int (iI (t5)), .int (iI (t6)), .int (iI (t7)), .int (iI (t8)), .int (iI (t9)), .int (iI (t10)), .ref (g 5), .ref (g 6), .int (iI (t11)), .ref (g 7), .ref (g 8), .ref (g 9), .ref (g 10), .ref (g 11), .ref (g 12), .int (iI (t12)), .int (iI (t13)), .int (iI (t14))])), (g 1, .inl (cI, 5, .inl (jA (u.1)))), (g 2, .inl (cI, 40, .inl (jA (u.2.1)))), (g 3, .inl (cI, 40, .inl (jA (u.2.2))))] : va_W) ++ wr)) ([.ref (g 0), .int (iI (a1)), .int (iI (a2)), .int (iI (a3))] : List Value).toArray s 0 0 A) (F0 m 54 ls []) := by
    intro  ls H locs hok hP hD hS hl
    refine jz_iconst hx hb dX3_slot_54 ?_
    refine lv_istore (lv' := [(4, .int (iI (0))), (0, .ref (g 0)), (1, .int (iI (a1))), (2, .int (iI (a2))), (3, .int (iI (a3)))]) hx hb dX3_slot_55 hl (by decide) rfl (fun ls hl => ?_)
    have hm1 := hmn a1 (by omega) (by omega)
    have loop57 : ∀ (n : Nat) (t : Int) (ls : Array Slot) (H : Heap) (locs : List Loc), mn a1 < t + (n : Int) → (0 ≤ t) → (t ≤ mn a1) → (∀ j : Int, 0 ≤ j → j < t → ¬ mst (8 * a1 + j) = a2) → va_P (dC, dI) vwCl (([(g 0, .inr (3, [.ref (g 1), .ref (g 2), .ref (g 3), .ref (g 4), .int (iI (t0)), .int (iI (t1)), .int (iI (t2)), .int (iI (t3)), .int (iI (t4)), .int (iI (t5)), .int (iI (t6)), .int (iI (t7)), .int (iI (t8)), .int (iI (t9)), .int (iI (t10)), .ref (g 5), .ref (g 6), .int (iI (t11)), .ref (g 7), .ref (g 8), .ref (g 9), .ref (g 10), .ref (g 11), .ref (g 12), .int (iI (t12)), .int (iI (t13)), .int (iI (t14))])), (g 1, .inl (cI, 5, .inl (jA (mn)))), (g 2, .inl (cI, 40, .inl (jA (mst)))), (g 3, .inl (cI, 40, .inl (jA (mva))))] : va_W) ++ wr) H → va_D A (([(g 0, .inr (3, [.ref (g 1), .ref (g 2), .ref (g 3), .ref (g 4), .int (iI (t0)), .int (iI (t1)), .int (iI (t2)), .int (iI (t3)), .int (iI (t4)), .int (iI (t5)), .int (iI (t6)), .int (iI (t7)), .int (iI (t8)), .int (iI (t9)), .int (iI (t10)), .ref (g 5), .ref (g 6), .int (iI (t11)), .ref (g 7), .ref (g 8), .ref (g 9), .ref (g 10), .ref (g 11), .ref (g 12), .int (iI (t12)), .int (iI (t13)), .int (iI (t14))])), (g 1, .inl (cI, 5, .inl (jA (mn)))), (g 2, .inl (cI, 40, .inl (jA (mst)))), (g 3, .inl (cI, 40, .inl (jA (mva))))] : va_W) ++ wr) → va_S A s.heap H locs → lv_has ls 5 [(0, .ref (g 0)), (1, .int (iI (a1))), (2, .int (iI (a2))), (3, .int (iI (a3))), (4, .int (iI (t)))] → W p l e ({ frames := 0, cells := 0, slots := 0, locals := 0 }) s m ([.ref (g 0), .int (iI (a1)), .int (iI (a2)), .int (iI (a3))] : List Value).toArray below meth c H locs 0 0 (MQ below (kQi (dC, dI) vwCl A (fun (z : Int) (u : (Int → Int) × (Int → Int) × (Int → Int)) => (¬ (0 ≤ a1 ∧ a1 ≤ 4 ∧ 0 ≤ a2 ∧ a2 ≤ 1439 ∧ ((a1 = 4 ∧ 0 ≤ a3 ∧ a3 ≤ 20000) ∨ (¬ a1 = 4 ∧ 1 ≤ a3 ∧ a3 ≤ 1000))) ∧ z = 0 ∧ u = (mn, mst, mva)) ∨ ((0 ≤ a1 ∧ a1 ≤ 4 ∧ 0 ≤ a2 ∧ a2 ≤ 1439 ∧ ((a1 = 4 ∧ 0 ≤ a3 ∧ a3 ≤ 20000) ∨ (¬ a1 = 4 ∧ 1 ≤ a3 ∧ a3 ≤ 1000))) ∧ ∃ at0 : Int, (0 ≤ at0 ∧ at0 ≤ mn a1 ∧ (∀ j : Int, 0 ≤ j → j < at0 → ¬ mst (8 * a1 + j) = a2) ∧ (at0 < mn a1 → mst (8 * a1 + at0) = a2)) ∧ ((at0 = 8 ∧ z = 0 ∧ u = (mn, mst, mva)) ∨ (at0 < 8 ∧ z = 1 ∧ u.2.1 = jU mst (8 * a1 + at0) a2 ∧ u.2.2 = jU mva (8 * a1 + at0) a3 ∧ ((at0 = mn a1 ∧ u.1 = jU mn a1 (at0 + 1)) ∨ (at0 < mn a1 ∧ u.1 = jU mn a1 (mn a1))))))) (fun (u : (Int → Int) × (Int → Int) × (Int → Int)) => ([(g 0, .inr (3, [.ref (g 1), .ref (g 2), .ref (g 3), .ref (g 4), .int (iI (t0)), .int (iI (t1)), .int (iI (t2)), .int (iI (t3)), .int (iI (t4)), .int (iI (t5)), .int (iI (t6)), .int (iI (t7)), .int (iI (t8)), .int (iI (t9)), .int (iI (t10)), .ref (g 5), .ref (g 6), .int (iI (t11)), .ref (g 7), .ref (g 8), .ref (g 9), .ref (g 10), .ref (g 11), .ref (g 12), .int (iI (t12)), .int (iI (t13)), .int (iI (t14))])), (g 1, .inl (cI, 5, .inl (jA (u.1)))), (g 2, .inl (cI, 40, .inl (jA (u.2.1)))), (g 3, .inl (cI, 40, .inl (jA (u.2.2))))] : va_W) ++ wr)) ([.ref (g 0), .int (iI (a1)), .int (iI (a2)), .int (iI (a3))] : List Value).toArray s 0 0 A) (F0 m 57 ls []) := by
      intro n
      induction n with
      | zero => intro t ls H locs hfu g0 g1 g2 hP hD hS hl; exact absurd hfu (by omega)
      | succ n ih =>
        intro t ls H locs hfu g0 g1 g2 hP hD hS hl
        refine lv_iload hx hb dX3_slot_57 (lv_at hl 4 rfl) ?_
        refine lv_aload_n hx hb dX3_slot_59 rfl (lv_at hl 0 rfl) ?_
        refine va_get (D := (dC, dI)) (ci := 3) (C := RX3) (T := TX3) (N := 27) hx hb hts hiX3 hown hK hP 0 rfl rfl 0 (by decide) (hts (.fieldLink RX3 7 "PumpDeskModel" "many" "[I") (by decide +kernel)) (fun _ h9 => h9) rfl dX3_slot_60 ?_
        refine lv_iload_n hx hb dX3_slot_63 rfl (lv_at hl 1 rfl) ?_
        refine jz_iald hx hb hK hP 1 0 rfl rfl (by omega) dX3_slot_64 ?_
        refine jz_icmp_ge (tgt := 90) hx hb dX3_slot_65 (by decide) (by omega) (fun cd65 => ?_) (fun cd65 => ?_)
        · refine lv_iload hx hb dX3_slot_90 (lv_at hl 4 rfl) ?_
          refine jz_bipush hx hb dX3_slot_92 rfl ?_
          refine jz_icmp_ne (tgt := 99) hx hb dX3_slot_94 (by decide) (by omega) (fun cd94 => ?_) (fun cd94 => ?_)
          · refine lv_aload_n hx hb dX3_slot_99 rfl (lv_at hl 0 rfl) ?_
            refine va_get (D := (dC, dI)) (ci := 3) (C := RX3) (T := TX3) (N := 27) hx hb hts hiX3 hown hK hP 0 rfl rfl 0 (by decide) (hts (.fieldLink RX3 7 "PumpDeskModel" "many" "[I") (by decide +kernel)) (fun _ h9 => h9) rfl dX3_slot_100 ?_
            refine lv_iload_n hx hb dX3_slot_103 rfl (lv_at hl 1 rfl) ?_
            refine lv_iload hx hb dX3_slot_104 (lv_at hl 4 rfl) ?_
            refine lv_aload_n hx hb dX3_slot_106 rfl (lv_at hl 0 rfl) ?_
            refine va_get (D := (dC, dI)) (ci := 3) (C := RX3) (T := TX3) (N := 27) hx hb hts hiX3 hown hK hP 0 rfl rfl 0 (by decide) (hts (.fieldLink RX3 7 "PumpDeskModel" "many" "[I") (by decide +kernel)) (fun _ h9 => h9) rfl dX3_slot_107 ?_
            refine lv_iload_n hx hb dX3_slot_110 rfl (lv_at hl 1 rfl) ?_
            refine jz_iald hx hb hK hP 1 0 rfl rfl (by omega) dX3_slot_111 ?_
            refine jz_icmp_ne (tgt := 122) hx hb dX3_slot_112 (by decide) (by omega) (fun cd112 => ?_) (fun cd112 => ?_)
            · refine lv_aload_n hx hb dX3_slot_122 rfl (lv_at hl 0 rfl) ?_
              refine va_get (D := (dC, dI)) (ci := 3) (C := RX3) (T := TX3) (N := 27) hx hb hts hiX3 hown hK hP 0 rfl rfl 0 (by decide) (hts (.fieldLink RX3 7 "PumpDeskModel" "many" "[I") (by decide +kernel)) (fun _ h9 => h9) rfl dX3_slot_123 ?_
              refine lv_iload_n hx hb dX3_slot_126 rfl (lv_at hl 1 rfl) ?_
              refine jz_iald hx hb hK hP 1 0 rfl rfl (by omega) dX3_slot_127 ?_
              refine jz_iast hx hb hK hP hD hS 1 0 rfl rfl (by omega) dX3_slot_128 (fun H locs hP hD hS => ?_)
              have hP : va_P (dC, dI) vwCl (([(g 0, .inr (3, [.ref (g 1), .ref (g 2), .ref (g 3), .ref (g 4), .int (iI (t0)), .int (iI (t1)), .int (iI (t2)), .int (iI (t3)), .int (iI (t4)), .int (iI (t5)), .int (iI (t6)), .int (iI (t7)), .int (iI (t8)), .int (iI (t9)), .int (iI (t10)), .ref (g 5), .ref (g 6), .int (iI (t11)), .ref (g 7), .ref (g 8), .ref (g 9), .ref (g 10), .ref (g 11), .ref (g 12), .int (iI (t12)), .int (iI (t13)), .int (iI (t14))])), (g 1, .inl (cI, 5, .inl (jA (jU (mn) (a1) ((mn) (a1)))))), (g 2, .inl (cI, 40, .inl (jA (mst)))), (g 3, .inl (cI, 40, .inl (jA (mva))))] : va_W) ++ wr) H := hP
              have hD : va_D A (([(g 0, .inr (3, [.ref (g 1), .ref (g 2), .ref (g 3), .ref (g 4), .int (iI (t0)), .int (iI (t1)), .int (iI (t2)), .int (iI (t3)), .int (iI (t4)), .int (iI (t5)), .int (iI (t6)), .int (iI (t7)), .int (iI (t8)), .int (iI (t9)), .int (iI (t10)), .ref (g 5), .ref (g 6), .int (iI (t11)), .ref (g 7), .ref (g 8), .ref (g 9), .ref (g 10), .ref (g 11), .ref (g 12), .int (iI (t12)), .int (iI (t13)), .int (iI (t14))])), (g 1, .inl (cI, 5, .inl (jA (jU (mn) (a1) ((mn) (a1)))))), (g 2, .inl (cI, 40, .inl (jA (mst)))), (g 3, .inl (cI, 40, .inl (jA (mva))))] : va_W) ++ wr) := hD
              refine lv_aload_n hx hb dX3_slot_129 rfl (lv_at hl 0 rfl) ?_
              refine va_get (D := (dC, dI)) (ci := 3) (C := RX3) (T := TX3) (N := 27) hx hb hts hiX3 hown hK hP 0 rfl rfl 1 (by decide) (hts (.fieldLink RX3 13 "PumpDeskModel" "starts" "[I") (by decide +kernel)) (fun _ h9 => h9) rfl dX3_slot_130 ?_
              refine jz_bipush hx hb dX3_slot_133 rfl ?_
              refine lv_iload_n hx hb dX3_slot_135 rfl (lv_at hl 1 rfl) ?_
              refine jz_imul hx hb dX3_slot_136 ?_
              refine lv_iload hx hb dX3_slot_137 (lv_at hl 4 rfl) ?_
              refine jz_iadd hx hb dX3_slot_139 ?_
              refine lv_iload_n hx hb dX3_slot_140 rfl (lv_at hl 2 rfl) ?_
              refine jz_iast hx hb hK hP hD hS 2 0 rfl rfl (by omega) dX3_slot_141 (fun H locs hP hD hS => ?_)
              have hP : va_P (dC, dI) vwCl (([(g 0, .inr (3, [.ref (g 1), .ref (g 2), .ref (g 3), .ref (g 4), .int (iI (t0)), .int (iI (t1)), .int (iI (t2)), .int (iI (t3)), .int (iI (t4)), .int (iI (t5)), .int (iI (t6)), .int (iI (t7)), .int (iI (t8)), .int (iI (t9)), .int (iI (t10)), .ref (g 5), .ref (g 6), .int (iI (t11)), .ref (g 7), .ref (g 8), .ref (g 9), .ref (g 10), .ref (g 11), .ref (g 12), .int (iI (t12)), .int (iI (t13)), .int (iI (t14))])), (g 1, .inl (cI, 5, .inl (jA (jU (mn) (a1) ((mn) (a1)))))), (g 2, .inl (cI, 40, .inl (jA (jU (mst) (((8 * a1) + t)) (a2))))), (g 3, .inl (cI, 40, .inl (jA (mva))))] : va_W) ++ wr) H := hP
              have hD : va_D A (([(g 0, .inr (3, [.ref (g 1), .ref (g 2), .ref (g 3), .ref (g 4), .int (iI (t0)), .int (iI (t1)), .int (iI (t2)), .int (iI (t3)), .int (iI (t4)), .int (iI (t5)), .int (iI (t6)), .int (iI (t7)), .int (iI (t8)), .int (iI (t9)), .int (iI (t10)), .ref (g 5), .ref (g 6), .int (iI (t11)), .ref (g 7), .ref (g 8), .ref (g 9), .ref (g 10), .ref (g 11), .ref (g 12), .int (iI (t12)), .int (iI (t13)), .int (iI (t14))])), (g 1, .inl (cI, 5, .inl (jA (jU (mn) (a1) ((mn) (a1)))))), (g 2, .inl (cI, 40, .inl (jA (jU (mst) (((8 * a1) + t)) (a2))))), (g 3, .inl (cI, 40, .inl (jA (mva))))] : va_W) ++ wr) := hD
              refine lv_aload_n hx hb dX3_slot_142 rfl (lv_at hl 0 rfl) ?_
              refine va_get (D := (dC, dI)) (ci := 3) (C := RX3) (T := TX3) (N := 27) hx hb hts hiX3 hown hK hP 0 rfl rfl 2 (by decide) (hts (.fieldLink RX3 16 "PumpDeskModel" "values" "[I") (by decide +kernel)) (fun _ h9 => h9) rfl dX3_slot_143 ?_
              refine jz_bipush hx hb dX3_slot_146 rfl ?_
              refine lv_iload_n hx hb dX3_slot_148 rfl (lv_at hl 1 rfl) ?_
              refine jz_imul hx hb dX3_slot_149 ?_
              refine lv_iload hx hb dX3_slot_150 (lv_at hl 4 rfl) ?_
              refine jz_iadd hx hb dX3_slot_152 ?_
              refine lv_iload_n hx hb dX3_slot_153 rfl (lv_at hl 3 rfl) ?_
              refine jz_iast hx hb hK hP hD hS 3 0 rfl rfl (by omega) dX3_slot_154 (fun H locs hP hD hS => ?_)
              have hP : va_P (dC, dI) vwCl (([(g 0, .inr (3, [.ref (g 1), .ref (g 2), .ref (g 3), .ref (g 4), .int (iI (t0)), .int (iI (t1)), .int (iI (t2)), .int (iI (t3)), .int (iI (t4)), .int (iI (t5)), .int (iI (t6)), .int (iI (t7)), .int (iI (t8)), .int (iI (t9)), .int (iI (t10)), .ref (g 5), .ref (g 6), .int (iI (t11)), .ref (g 7), .ref (g 8), .ref (g 9), .ref (g 10), .ref (g 11), .ref (g 12), .int (iI (t12)), .int (iI (t13)), .int (iI (t14))])), (g 1, .inl (cI, 5, .inl (jA (jU (mn) (a1) ((mn) (a1)))))), (g 2, .inl (cI, 40, .inl (jA (jU (mst) (((8 * a1) + t)) (a2))))), (g 3, .inl (cI, 40, .inl (jA (jU (mva) (((8 * a1) + t)) (a3)))))] : va_W) ++ wr) H := hP
              have hD : va_D A (([(g 0, .inr (3, [.ref (g 1), .ref (g 2), .ref (g 3), .ref (g 4), .int (iI (t0)), .int (iI (t1)), .int (iI (t2)), .int (iI (t3)), .int (iI (t4)), .int (iI (t5)), .int (iI (t6)), .int (iI (t7)), .int (iI (t8)), .int (iI (t9)), .int (iI (t10)), .ref (g 5), .ref (g 6), .int (iI (t11)), .ref (g 7), .ref (g 8), .ref (g 9), .ref (g 10), .ref (g 11), .ref (g 12), .int (iI (t12)), .int (iI (t13)), .int (iI (t14))])), (g 1, .inl (cI, 5, .inl (jA (jU (mn) (a1) ((mn) (a1)))))), (g 2, .inl (cI, 40, .inl (jA (jU (mst) (((8 * a1) + t)) (a2))))), (g 3, .inl (cI, 40, .inl (jA (jU (mva) (((8 * a1) + t)) (a3)))))] : va_W) ++ wr) := hD
              refine jz_iconst hx hb dX3_slot_155 ?_
              exact jw_z hx hb hr hlocks ((jU (mn) (a1) ((mn) (a1)), jU (mst) (((8 * a1) + t)) (a2), jU (mva) (((8 * a1) + t)) (a3))) (by omega) (Or.inr ⟨hok, t, ⟨g0, g1, g2, fun q => by omega⟩, Or.inr ⟨by omega, rfl, rfl, rfl, Or.inr ⟨by omega, rfl⟩⟩⟩) hP hD hS dX3_slot_156
            · refine lv_iload hx hb dX3_slot_115 (lv_at hl 4 rfl) ?_
              refine jz_iconst hx hb dX3_slot_117 ?_
              refine jz_iadd hx hb dX3_slot_118 ?_
              refine lv_goto (tgt := 128) hx hb dX3_slot_119 (by decide) ?_
              refine jz_iast hx hb hK hP hD hS 1 0 rfl rfl (by omega) dX3_slot_128 (fun H locs hP hD hS => ?_)
              have hP : va_P (dC, dI) vwCl (([(g 0, .inr (3, [.ref (g 1), .ref (g 2), .ref (g 3), .ref (g 4), .int (iI (t0)), .int (iI (t1)), .int (iI (t2)), .int (iI (t3)), .int (iI (t4)), .int (iI (t5)), .int (iI (t6)), .int (iI (t7)), .int (iI (t8)), .int (iI (t9)), .int (iI (t10)), .ref (g 5), .ref (g 6), .int (iI (t11)), .ref (g 7), .ref (g 8), .ref (g 9), .ref (g 10), .ref (g 11), .ref (g 12), .int (iI (t12)), .int (iI (t13)), .int (iI (t14))])), (g 1, .inl (cI, 5, .inl (jA (jU (mn) (a1) ((t + 1)))))), (g 2, .inl (cI, 40, .inl (jA (mst)))), (g 3, .inl (cI, 40, .inl (jA (mva))))] : va_W) ++ wr) H := hP
              have hD : va_D A (([(g 0, .inr (3, [.ref (g 1), .ref (g 2), .ref (g 3), .ref (g 4), .int (iI (t0)), .int (iI (t1)), .int (iI (t2)), .int (iI (t3)), .int (iI (t4)), .int (iI (t5)), .int (iI (t6)), .int (iI (t7)), .int (iI (t8)), .int (iI (t9)), .int (iI (t10)), .ref (g 5), .ref (g 6), .int (iI (t11)), .ref (g 7), .ref (g 8), .ref (g 9), .ref (g 10), .ref (g 11), .ref (g 12), .int (iI (t12)), .int (iI (t13)), .int (iI (t14))])), (g 1, .inl (cI, 5, .inl (jA (jU (mn) (a1) ((t + 1)))))), (g 2, .inl (cI, 40, .inl (jA (mst)))), (g 3, .inl (cI, 40, .inl (jA (mva))))] : va_W) ++ wr) := hD
              refine lv_aload_n hx hb dX3_slot_129 rfl (lv_at hl 0 rfl) ?_
              refine va_get (D := (dC, dI)) (ci := 3) (C := RX3) (T := TX3) (N := 27) hx hb hts hiX3 hown hK hP 0 rfl rfl 1 (by decide) (hts (.fieldLink RX3 13 "PumpDeskModel" "starts" "[I") (by decide +kernel)) (fun _ h9 => h9) rfl dX3_slot_130 ?_
              refine jz_bipush hx hb dX3_slot_133 rfl ?_
              refine lv_iload_n hx hb dX3_slot_135 rfl (lv_at hl 1 rfl) ?_
              refine jz_imul hx hb dX3_slot_136 ?_
              refine lv_iload hx hb dX3_slot_137 (lv_at hl 4 rfl) ?_
              refine jz_iadd hx hb dX3_slot_139 ?_
              refine lv_iload_n hx hb dX3_slot_140 rfl (lv_at hl 2 rfl) ?_
              refine jz_iast hx hb hK hP hD hS 2 0 rfl rfl (by omega) dX3_slot_141 (fun H locs hP hD hS => ?_)
              have hP : va_P (dC, dI) vwCl (([(g 0, .inr (3, [.ref (g 1), .ref (g 2), .ref (g 3), .ref (g 4), .int (iI (t0)), .int (iI (t1)), .int (iI (t2)), .int (iI (t3)), .int (iI (t4)), .int (iI (t5)), .int (iI (t6)), .int (iI (t7)), .int (iI (t8)), .int (iI (t9)), .int (iI (t10)), .ref (g 5), .ref (g 6), .int (iI (t11)), .ref (g 7), .ref (g 8), .ref (g 9), .ref (g 10), .ref (g 11), .ref (g 12), .int (iI (t12)), .int (iI (t13)), .int (iI (t14))])), (g 1, .inl (cI, 5, .inl (jA (jU (mn) (a1) ((t + 1)))))), (g 2, .inl (cI, 40, .inl (jA (jU (mst) (((8 * a1) + t)) (a2))))), (g 3, .inl (cI, 40, .inl (jA (mva))))] : va_W) ++ wr) H := hP
              have hD : va_D A (([(g 0, .inr (3, [.ref (g 1), .ref (g 2), .ref (g 3), .ref (g 4), .int (iI (t0)), .int (iI (t1)), .int (iI (t2)), .int (iI (t3)), .int (iI (t4)), .int (iI (t5)), .int (iI (t6)), .int (iI (t7)), .int (iI (t8)), .int (iI (t9)), .int (iI (t10)), .ref (g 5), .ref (g 6), .int (iI (t11)), .ref (g 7), .ref (g 8), .ref (g 9), .ref (g 10), .ref (g 11), .ref (g 12), .int (iI (t12)), .int (iI (t13)), .int (iI (t14))])), (g 1, .inl (cI, 5, .inl (jA (jU (mn) (a1) ((t + 1)))))), (g 2, .inl (cI, 40, .inl (jA (jU (mst) (((8 * a1) + t)) (a2))))), (g 3, .inl (cI, 40, .inl (jA (mva))))] : va_W) ++ wr) := hD
              refine lv_aload_n hx hb dX3_slot_142 rfl (lv_at hl 0 rfl) ?_
              refine va_get (D := (dC, dI)) (ci := 3) (C := RX3) (T := TX3) (N := 27) hx hb hts hiX3 hown hK hP 0 rfl rfl 2 (by decide) (hts (.fieldLink RX3 16 "PumpDeskModel" "values" "[I") (by decide +kernel)) (fun _ h9 => h9) rfl dX3_slot_143 ?_
              refine jz_bipush hx hb dX3_slot_146 rfl ?_
              refine lv_iload_n hx hb dX3_slot_148 rfl (lv_at hl 1 rfl) ?_
              refine jz_imul hx hb dX3_slot_149 ?_
              refine lv_iload hx hb dX3_slot_150 (lv_at hl 4 rfl) ?_
              refine jz_iadd hx hb dX3_slot_152 ?_
              refine lv_iload_n hx hb dX3_slot_153 rfl (lv_at hl 3 rfl) ?_
              refine jz_iast hx hb hK hP hD hS 3 0 rfl rfl (by omega) dX3_slot_154 (fun H locs hP hD hS => ?_)
              have hP : va_P (dC, dI) vwCl (([(g 0, .inr (3, [.ref (g 1), .ref (g 2), .ref (g 3), .ref (g 4), .int (iI (t0)), .int (iI (t1)), .int (iI (t2)), .int (iI (t3)), .int (iI (t4)), .int (iI (t5)), .int (iI (t6)), .int (iI (t7)), .int (iI (t8)), .int (iI (t9)), .int (iI (t10)), .ref (g 5), .ref (g 6), .int (iI (t11)), .ref (g 7), .ref (g 8), .ref (g 9), .ref (g 10), .ref (g 11), .ref (g 12), .int (iI (t12)), .int (iI (t13)), .int (iI (t14))])), (g 1, .inl (cI, 5, .inl (jA (jU (mn) (a1) ((t + 1)))))), (g 2, .inl (cI, 40, .inl (jA (jU (mst) (((8 * a1) + t)) (a2))))), (g 3, .inl (cI, 40, .inl (jA (jU (mva) (((8 * a1) + t)) (a3)))))] : va_W) ++ wr) H := hP
              have hD : va_D A (([(g 0, .inr (3, [.ref (g 1), .ref (g 2), .ref (g 3), .ref (g 4), .int (iI (t0)), .int (iI (t1)), .int (iI (t2)), .int (iI (t3)), .int (iI (t4)), .int (iI (t5)), .int (iI (t6)), .int (iI (t7)), .int (iI (t8)), .int (iI (t9)), .int (iI (t10)), .ref (g 5), .ref (g 6), .int (iI (t11)), .ref (g 7), .ref (g 8), .ref (g 9), .ref (g 10), .ref (g 11), .ref (g 12), .int (iI (t12)), .int (iI (t13)), .int (iI (t14))])), (g 1, .inl (cI, 5, .inl (jA (jU (mn) (a1) ((t + 1)))))), (g 2, .inl (cI, 40, .inl (jA (jU (mst) (((8 * a1) + t)) (a2))))), (g 3, .inl (cI, 40, .inl (jA (jU (mva) (((8 * a1) + t)) (a3)))))] : va_W) ++ wr) := hD
              refine jz_iconst hx hb dX3_slot_155 ?_
              exact jw_z hx hb hr hlocks ((jU (mn) (a1) ((t + 1)), jU (mst) (((8 * a1) + t)) (a2), jU (mva) (((8 * a1) + t)) (a3))) (by omega) (Or.inr ⟨hok, t, ⟨g0, g1, g2, fun q => by omega⟩, Or.inr ⟨by omega, rfl, rfl, rfl, Or.inl ⟨by omega, rfl⟩⟩⟩) hP hD hS dX3_slot_156
          · refine jz_iconst hx hb dX3_slot_97 ?_
            exact jw_z hx hb hr hlocks ((mn, mst, mva)) (by omega) (Or.inr ⟨hok, t, ⟨g0, g1, g2, fun q => by omega⟩, Or.inl ⟨by omega, rfl, rfl⟩⟩) hP hD hS dX3_slot_98
        · refine lv_aload_n hx hb dX3_slot_68 rfl (lv_at hl 0 rfl) ?_
          refine va_get (D := (dC, dI)) (ci := 3) (C := RX3) (T := TX3) (N := 27) hx hb hts hiX3 hown hK hP 0 rfl rfl 1 (by decide) (hts (.fieldLink RX3 13 "PumpDeskModel" "starts" "[I") (by decide +kernel)) (fun _ h9 => h9) rfl dX3_slot_69 ?_
          refine jz_bipush hx hb dX3_slot_72 rfl ?_
          refine lv_iload_n hx hb dX3_slot_74 rfl (lv_at hl 1 rfl) ?_
          refine jz_imul hx hb dX3_slot_75 ?_
          refine lv_iload hx hb dX3_slot_76 (lv_at hl 4 rfl) ?_
          refine jz_iadd hx hb dX3_slot_78 ?_
          refine jz_iald hx hb hK hP 2 0 rfl rfl (by omega) dX3_slot_79 ?_
          have ra1 := hst a1 (((8 * a1) + t)) (by omega) (by omega) (by omega) (by omega)
          refine lv_iload_n hx hb dX3_slot_80 rfl (lv_at hl 2 rfl) ?_
          refine jz_icmp_eq (tgt := 90) hx hb dX3_slot_81 (by decide) (by omega) (fun cd81 => ?_) (fun cd81 => ?_)
          · refine lv_iload hx hb dX3_slot_90 (lv_at hl 4 rfl) ?_
            refine jz_bipush hx hb dX3_slot_92 rfl ?_
            refine jz_icmp_ne (tgt := 99) hx hb dX3_slot_94 (by decide) (by omega) (fun cd94 => ?_) (fun cd94 => ?_)
            · refine lv_aload_n hx hb dX3_slot_99 rfl (lv_at hl 0 rfl) ?_
              refine va_get (D := (dC, dI)) (ci := 3) (C := RX3) (T := TX3) (N := 27) hx hb hts hiX3 hown hK hP 0 rfl rfl 0 (by decide) (hts (.fieldLink RX3 7 "PumpDeskModel" "many" "[I") (by decide +kernel)) (fun _ h9 => h9) rfl dX3_slot_100 ?_
              refine lv_iload_n hx hb dX3_slot_103 rfl (lv_at hl 1 rfl) ?_
              refine lv_iload hx hb dX3_slot_104 (lv_at hl 4 rfl) ?_
              refine lv_aload_n hx hb dX3_slot_106 rfl (lv_at hl 0 rfl) ?_
              refine va_get (D := (dC, dI)) (ci := 3) (C := RX3) (T := TX3) (N := 27) hx hb hts hiX3 hown hK hP 0 rfl rfl 0 (by decide) (hts (.fieldLink RX3 7 "PumpDeskModel" "many" "[I") (by decide +kernel)) (fun _ h9 => h9) rfl dX3_slot_107 ?_
              refine lv_iload_n hx hb dX3_slot_110 rfl (lv_at hl 1 rfl) ?_
              refine jz_iald hx hb hK hP 1 0 rfl rfl (by omega) dX3_slot_111 ?_
              refine jz_icmp_ne (tgt := 122) hx hb dX3_slot_112 (by decide) (by omega) (fun cd112 => ?_) (fun cd112 => ?_)
              · refine lv_aload_n hx hb dX3_slot_122 rfl (lv_at hl 0 rfl) ?_
                refine va_get (D := (dC, dI)) (ci := 3) (C := RX3) (T := TX3) (N := 27) hx hb hts hiX3 hown hK hP 0 rfl rfl 0 (by decide) (hts (.fieldLink RX3 7 "PumpDeskModel" "many" "[I") (by decide +kernel)) (fun _ h9 => h9) rfl dX3_slot_123 ?_
                refine lv_iload_n hx hb dX3_slot_126 rfl (lv_at hl 1 rfl) ?_
                refine jz_iald hx hb hK hP 1 0 rfl rfl (by omega) dX3_slot_127 ?_
                refine jz_iast hx hb hK hP hD hS 1 0 rfl rfl (by omega) dX3_slot_128 (fun H locs hP hD hS => ?_)
                have hP : va_P (dC, dI) vwCl (([(g 0, .inr (3, [.ref (g 1), .ref (g 2), .ref (g 3), .ref (g 4), .int (iI (t0)), .int (iI (t1)), .int (iI (t2)), .int (iI (t3)), .int (iI (t4)), .int (iI (t5)), .int (iI (t6)), .int (iI (t7)), .int (iI (t8)), .int (iI (t9)), .int (iI (t10)), .ref (g 5), .ref (g 6), .int (iI (t11)), .ref (g 7), .ref (g 8), .ref (g 9), .ref (g 10), .ref (g 11), .ref (g 12), .int (iI (t12)), .int (iI (t13)), .int (iI (t14))])), (g 1, .inl (cI, 5, .inl (jA (jU (mn) (a1) ((mn) (a1)))))), (g 2, .inl (cI, 40, .inl (jA (mst)))), (g 3, .inl (cI, 40, .inl (jA (mva))))] : va_W) ++ wr) H := hP
                have hD : va_D A (([(g 0, .inr (3, [.ref (g 1), .ref (g 2), .ref (g 3), .ref (g 4), .int (iI (t0)), .int (iI (t1)), .int (iI (t2)), .int (iI (t3)), .int (iI (t4)), .int (iI (t5)), .int (iI (t6)), .int (iI (t7)), .int (iI (t8)), .int (iI (t9)), .int (iI (t10)), .ref (g 5), .ref (g 6), .int (iI (t11)), .ref (g 7), .ref (g 8), .ref (g 9), .ref (g 10), .ref (g 11), .ref (g 12), .int (iI (t12)), .int (iI (t13)), .int (iI (t14))])), (g 1, .inl (cI, 5, .inl (jA (jU (mn) (a1) ((mn) (a1)))))), (g 2, .inl (cI, 40, .inl (jA (mst)))), (g 3, .inl (cI, 40, .inl (jA (mva))))] : va_W) ++ wr) := hD
                refine lv_aload_n hx hb dX3_slot_129 rfl (lv_at hl 0 rfl) ?_
                refine va_get (D := (dC, dI)) (ci := 3) (C := RX3) (T := TX3) (N := 27) hx hb hts hiX3 hown hK hP 0 rfl rfl 1 (by decide) (hts (.fieldLink RX3 13 "PumpDeskModel" "starts" "[I") (by decide +kernel)) (fun _ h9 => h9) rfl dX3_slot_130 ?_
                refine jz_bipush hx hb dX3_slot_133 rfl ?_
                refine lv_iload_n hx hb dX3_slot_135 rfl (lv_at hl 1 rfl) ?_
                refine jz_imul hx hb dX3_slot_136 ?_
                refine lv_iload hx hb dX3_slot_137 (lv_at hl 4 rfl) ?_
                refine jz_iadd hx hb dX3_slot_139 ?_
                refine lv_iload_n hx hb dX3_slot_140 rfl (lv_at hl 2 rfl) ?_
                refine jz_iast hx hb hK hP hD hS 2 0 rfl rfl (by omega) dX3_slot_141 (fun H locs hP hD hS => ?_)
                have hP : va_P (dC, dI) vwCl (([(g 0, .inr (3, [.ref (g 1), .ref (g 2), .ref (g 3), .ref (g 4), .int (iI (t0)), .int (iI (t1)), .int (iI (t2)), .int (iI (t3)), .int (iI (t4)), .int (iI (t5)), .int (iI (t6)), .int (iI (t7)), .int (iI (t8)), .int (iI (t9)), .int (iI (t10)), .ref (g 5), .ref (g 6), .int (iI (t11)), .ref (g 7), .ref (g 8), .ref (g 9), .ref (g 10), .ref (g 11), .ref (g 12), .int (iI (t12)), .int (iI (t13)), .int (iI (t14))])), (g 1, .inl (cI, 5, .inl (jA (jU (mn) (a1) ((mn) (a1)))))), (g 2, .inl (cI, 40, .inl (jA (jU (mst) (((8 * a1) + t)) (a2))))), (g 3, .inl (cI, 40, .inl (jA (mva))))] : va_W) ++ wr) H := hP
                have hD : va_D A (([(g 0, .inr (3, [.ref (g 1), .ref (g 2), .ref (g 3), .ref (g 4), .int (iI (t0)), .int (iI (t1)), .int (iI (t2)), .int (iI (t3)), .int (iI (t4)), .int (iI (t5)), .int (iI (t6)), .int (iI (t7)), .int (iI (t8)), .int (iI (t9)), .int (iI (t10)), .ref (g 5), .ref (g 6), .int (iI (t11)), .ref (g 7), .ref (g 8), .ref (g 9), .ref (g 10), .ref (g 11), .ref (g 12), .int (iI (t12)), .int (iI (t13)), .int (iI (t14))])), (g 1, .inl (cI, 5, .inl (jA (jU (mn) (a1) ((mn) (a1)))))), (g 2, .inl (cI, 40, .inl (jA (jU (mst) (((8 * a1) + t)) (a2))))), (g 3, .inl (cI, 40, .inl (jA (mva))))] : va_W) ++ wr) := hD
                refine lv_aload_n hx hb dX3_slot_142 rfl (lv_at hl 0 rfl) ?_
                refine va_get (D := (dC, dI)) (ci := 3) (C := RX3) (T := TX3) (N := 27) hx hb hts hiX3 hown hK hP 0 rfl rfl 2 (by decide) (hts (.fieldLink RX3 16 "PumpDeskModel" "values" "[I") (by decide +kernel)) (fun _ h9 => h9) rfl dX3_slot_143 ?_
                refine jz_bipush hx hb dX3_slot_146 rfl ?_
                refine lv_iload_n hx hb dX3_slot_148 rfl (lv_at hl 1 rfl) ?_
                refine jz_imul hx hb dX3_slot_149 ?_
                refine lv_iload hx hb dX3_slot_150 (lv_at hl 4 rfl) ?_
                refine jz_iadd hx hb dX3_slot_152 ?_
                refine lv_iload_n hx hb dX3_slot_153 rfl (lv_at hl 3 rfl) ?_
                refine jz_iast hx hb hK hP hD hS 3 0 rfl rfl (by omega) dX3_slot_154 (fun H locs hP hD hS => ?_)
                have hP : va_P (dC, dI) vwCl (([(g 0, .inr (3, [.ref (g 1), .ref (g 2), .ref (g 3), .ref (g 4), .int (iI (t0)), .int (iI (t1)), .int (iI (t2)), .int (iI (t3)), .int (iI (t4)), .int (iI (t5)), .int (iI (t6)), .int (iI (t7)), .int (iI (t8)), .int (iI (t9)), .int (iI (t10)), .ref (g 5), .ref (g 6), .int (iI (t11)), .ref (g 7), .ref (g 8), .ref (g 9), .ref (g 10), .ref (g 11), .ref (g 12), .int (iI (t12)), .int (iI (t13)), .int (iI (t14))])), (g 1, .inl (cI, 5, .inl (jA (jU (mn) (a1) ((mn) (a1)))))), (g 2, .inl (cI, 40, .inl (jA (jU (mst) (((8 * a1) + t)) (a2))))), (g 3, .inl (cI, 40, .inl (jA (jU (mva) (((8 * a1) + t)) (a3)))))] : va_W) ++ wr) H := hP
                have hD : va_D A (([(g 0, .inr (3, [.ref (g 1), .ref (g 2), .ref (g 3), .ref (g 4), .int (iI (t0)), .int (iI (t1)), .int (iI (t2)), .int (iI (t3)), .int (iI (t4)), .int (iI (t5)), .int (iI (t6)), .int (iI (t7)), .int (iI (t8)), .int (iI (t9)), .int (iI (t10)), .ref (g 5), .ref (g 6), .int (iI (t11)), .ref (g 7), .ref (g 8), .ref (g 9), .ref (g 10), .ref (g 11), .ref (g 12), .int (iI (t12)), .int (iI (t13)), .int (iI (t14))])), (g 1, .inl (cI, 5, .inl (jA (jU (mn) (a1) ((mn) (a1)))))), (g 2, .inl (cI, 40, .inl (jA (jU (mst) (((8 * a1) + t)) (a2))))), (g 3, .inl (cI, 40, .inl (jA (jU (mva) (((8 * a1) + t)) (a3)))))] : va_W) ++ wr) := hD
                refine jz_iconst hx hb dX3_slot_155 ?_
                exact jw_z hx hb hr hlocks ((jU (mn) (a1) ((mn) (a1)), jU (mst) (((8 * a1) + t)) (a2), jU (mva) (((8 * a1) + t)) (a3))) (by omega) (Or.inr ⟨hok, t, ⟨g0, g1, g2, fun q => by omega⟩, Or.inr ⟨by omega, rfl, rfl, rfl, Or.inr ⟨by omega, rfl⟩⟩⟩) hP hD hS dX3_slot_156
              · refine lv_iload hx hb dX3_slot_115 (lv_at hl 4 rfl) ?_
                refine jz_iconst hx hb dX3_slot_117 ?_
                refine jz_iadd hx hb dX3_slot_118 ?_
                refine lv_goto (tgt := 128) hx hb dX3_slot_119 (by decide) ?_
                refine jz_iast hx hb hK hP hD hS 1 0 rfl rfl (by omega) dX3_slot_128 (fun H locs hP hD hS => ?_)
                have hP : va_P (dC, dI) vwCl (([(g 0, .inr (3, [.ref (g 1), .ref (g 2), .ref (g 3), .ref (g 4), .int (iI (t0)), .int (iI (t1)), .int (iI (t2)), .int (iI (t3)), .int (iI (t4)), .int (iI (t5)), .int (iI (t6)), .int (iI (t7)), .int (iI (t8)), .int (iI (t9)), .int (iI (t10)), .ref (g 5), .ref (g 6), .int (iI (t11)), .ref (g 7), .ref (g 8), .ref (g 9), .ref (g 10), .ref (g 11), .ref (g 12), .int (iI (t12)), .int (iI (t13)), .int (iI (t14))])), (g 1, .inl (cI, 5, .inl (jA (jU (mn) (a1) ((t + 1)))))), (g 2, .inl (cI, 40, .inl (jA (mst)))), (g 3, .inl (cI, 40, .inl (jA (mva))))] : va_W) ++ wr) H := hP
                have hD : va_D A (([(g 0, .inr (3, [.ref (g 1), .ref (g 2), .ref (g 3), .ref (g 4), .int (iI (t0)), .int (iI (t1)), .int (iI (t2)), .int (iI (t3)), .int (iI (t4)), .int (iI (t5)), .int (iI (t6)), .int (iI (t7)), .int (iI (t8)), .int (iI (t9)), .int (iI (t10)), .ref (g 5), .ref (g 6), .int (iI (t11)), .ref (g 7), .ref (g 8), .ref (g 9), .ref (g 10), .ref (g 11), .ref (g 12), .int (iI (t12)), .int (iI (t13)), .int (iI (t14))])), (g 1, .inl (cI, 5, .inl (jA (jU (mn) (a1) ((t + 1)))))), (g 2, .inl (cI, 40, .inl (jA (mst)))), (g 3, .inl (cI, 40, .inl (jA (mva))))] : va_W) ++ wr) := hD
                refine lv_aload_n hx hb dX3_slot_129 rfl (lv_at hl 0 rfl) ?_
                refine va_get (D := (dC, dI)) (ci := 3) (C := RX3) (T := TX3) (N := 27) hx hb hts hiX3 hown hK hP 0 rfl rfl 1 (by decide) (hts (.fieldLink RX3 13 "PumpDeskModel" "starts" "[I") (by decide +kernel)) (fun _ h9 => h9) rfl dX3_slot_130 ?_
                refine jz_bipush hx hb dX3_slot_133 rfl ?_
                refine lv_iload_n hx hb dX3_slot_135 rfl (lv_at hl 1 rfl) ?_
                refine jz_imul hx hb dX3_slot_136 ?_
                refine lv_iload hx hb dX3_slot_137 (lv_at hl 4 rfl) ?_
                refine jz_iadd hx hb dX3_slot_139 ?_
                refine lv_iload_n hx hb dX3_slot_140 rfl (lv_at hl 2 rfl) ?_
                refine jz_iast hx hb hK hP hD hS 2 0 rfl rfl (by omega) dX3_slot_141 (fun H locs hP hD hS => ?_)
                have hP : va_P (dC, dI) vwCl (([(g 0, .inr (3, [.ref (g 1), .ref (g 2), .ref (g 3), .ref (g 4), .int (iI (t0)), .int (iI (t1)), .int (iI (t2)), .int (iI (t3)), .int (iI (t4)), .int (iI (t5)), .int (iI (t6)), .int (iI (t7)), .int (iI (t8)), .int (iI (t9)), .int (iI (t10)), .ref (g 5), .ref (g 6), .int (iI (t11)), .ref (g 7), .ref (g 8), .ref (g 9), .ref (g 10), .ref (g 11), .ref (g 12), .int (iI (t12)), .int (iI (t13)), .int (iI (t14))])), (g 1, .inl (cI, 5, .inl (jA (jU (mn) (a1) ((t + 1)))))), (g 2, .inl (cI, 40, .inl (jA (jU (mst) (((8 * a1) + t)) (a2))))), (g 3, .inl (cI, 40, .inl (jA (mva))))] : va_W) ++ wr) H := hP
                have hD : va_D A (([(g 0, .inr (3, [.ref (g 1), .ref (g 2), .ref (g 3), .ref (g 4), .int (iI (t0)), .int (iI (t1)), .int (iI (t2)), .int (iI (t3)), .int (iI (t4)), .int (iI (t5)), .int (iI (t6)), .int (iI (t7)), .int (iI (t8)), .int (iI (t9)), .int (iI (t10)), .ref (g 5), .ref (g 6), .int (iI (t11)), .ref (g 7), .ref (g 8), .ref (g 9), .ref (g 10), .ref (g 11), .ref (g 12), .int (iI (t12)), .int (iI (t13)), .int (iI (t14))])), (g 1, .inl (cI, 5, .inl (jA (jU (mn) (a1) ((t + 1)))))), (g 2, .inl (cI, 40, .inl (jA (jU (mst) (((8 * a1) + t)) (a2))))), (g 3, .inl (cI, 40, .inl (jA (mva))))] : va_W) ++ wr) := hD
                refine lv_aload_n hx hb dX3_slot_142 rfl (lv_at hl 0 rfl) ?_
                refine va_get (D := (dC, dI)) (ci := 3) (C := RX3) (T := TX3) (N := 27) hx hb hts hiX3 hown hK hP 0 rfl rfl 2 (by decide) (hts (.fieldLink RX3 16 "PumpDeskModel" "values" "[I") (by decide +kernel)) (fun _ h9 => h9) rfl dX3_slot_143 ?_
                refine jz_bipush hx hb dX3_slot_146 rfl ?_
                refine lv_iload_n hx hb dX3_slot_148 rfl (lv_at hl 1 rfl) ?_
                refine jz_imul hx hb dX3_slot_149 ?_
                refine lv_iload hx hb dX3_slot_150 (lv_at hl 4 rfl) ?_
                refine jz_iadd hx hb dX3_slot_152 ?_
                refine lv_iload_n hx hb dX3_slot_153 rfl (lv_at hl 3 rfl) ?_
                refine jz_iast hx hb hK hP hD hS 3 0 rfl rfl (by omega) dX3_slot_154 (fun H locs hP hD hS => ?_)
                have hP : va_P (dC, dI) vwCl (([(g 0, .inr (3, [.ref (g 1), .ref (g 2), .ref (g 3), .ref (g 4), .int (iI (t0)), .int (iI (t1)), .int (iI (t2)), .int (iI (t3)), .int (iI (t4)), .int (iI (t5)), .int (iI (t6)), .int (iI (t7)), .int (iI (t8)), .int (iI (t9)), .int (iI (t10)), .ref (g 5), .ref (g 6), .int (iI (t11)), .ref (g 7), .ref (g 8), .ref (g 9), .ref (g 10), .ref (g 11), .ref (g 12), .int (iI (t12)), .int (iI (t13)), .int (iI (t14))])), (g 1, .inl (cI, 5, .inl (jA (jU (mn) (a1) ((t + 1)))))), (g 2, .inl (cI, 40, .inl (jA (jU (mst) (((8 * a1) + t)) (a2))))), (g 3, .inl (cI, 40, .inl (jA (jU (mva) (((8 * a1) + t)) (a3)))))] : va_W) ++ wr) H := hP
                have hD : va_D A (([(g 0, .inr (3, [.ref (g 1), .ref (g 2), .ref (g 3), .ref (g 4), .int (iI (t0)), .int (iI (t1)), .int (iI (t2)), .int (iI (t3)), .int (iI (t4)), .int (iI (t5)), .int (iI (t6)), .int (iI (t7)), .int (iI (t8)), .int (iI (t9)), .int (iI (t10)), .ref (g 5), .ref (g 6), .int (iI (t11)), .ref (g 7), .ref (g 8), .ref (g 9), .ref (g 10), .ref (g 11), .ref (g 12), .int (iI (t12)), .int (iI (t13)), .int (iI (t14))])), (g 1, .inl (cI, 5, .inl (jA (jU (mn) (a1) ((t + 1)))))), (g 2, .inl (cI, 40, .inl (jA (jU (mst) (((8 * a1) + t)) (a2))))), (g 3, .inl (cI, 40, .inl (jA (jU (mva) (((8 * a1) + t)) (a3)))))] : va_W) ++ wr) := hD
                refine jz_iconst hx hb dX3_slot_155 ?_
                exact jw_z hx hb hr hlocks ((jU (mn) (a1) ((t + 1)), jU (mst) (((8 * a1) + t)) (a2), jU (mva) (((8 * a1) + t)) (a3))) (by omega) (Or.inr ⟨hok, t, ⟨g0, g1, g2, fun q => by omega⟩, Or.inr ⟨by omega, rfl, rfl, rfl, Or.inl ⟨by omega, rfl⟩⟩⟩) hP hD hS dX3_slot_156
            · refine jz_iconst hx hb dX3_slot_97 ?_
              exact jw_z hx hb hr hlocks ((mn, mst, mva)) (by omega) (Or.inr ⟨hok, t, ⟨g0, g1, g2, fun q => by omega⟩, Or.inl ⟨by omega, rfl, rfl⟩⟩) hP hD hS dX3_slot_98
          · refine lv_iinc (v := iI ((t + 1))) (lv' := [(4, .int (iI ((t + 1)))), (0, .ref (g 0)), (1, .int (iI (a1))), (2, .int (iI (a2))), (3, .int (iI (a3)))]) hx hb dX3_slot_84 hl (k := 4) rfl (iI_add _ _) (by decide) rfl (fun ls hl => ?_)
            refine lv_goto (tgt := 57) hx hb dX3_slot_87 (by decide) ?_
            exact ih (t + 1) ls _ _ (by omega) (by omega) (by omega) (fun j q1 q2 => (show j < t ∨ j = t by omega).elim (fun q => g2 j q1 q) (fun q => by rw [q]; exact cd81)) hP hD hS (lv_sub hl [1, 2, 3, 4, 0] rfl)
    exact loop57 9 0 ls H locs (by omega) (by omega) (by omega) (fun j q1 q2 => absurd q2 (by omega)) hP hD hS (lv_sub hl [1, 2, 3, 4, 0] rfl)
  refine lv_iload_n hx hb dX3_slot_0 rfl (lv_at hl 1 rfl) ?_
  refine jz_if_lt (tgt := 52) hx hb dX3_slot_1 (by decide) (by omega) (fun cd1 => ?_) (fun cd1 => ?_)
  · refine jz_iconst hx hb dX3_slot_52 ?_
    exact jw_z hx hb hr hlocks ((mn, mst, mva)) (by omega) (Or.inl ⟨by omega, rfl, rfl⟩) hP hD hS dX3_slot_53
  · refine lv_iload_n hx hb dX3_slot_4 rfl (lv_at hl 1 rfl) ?_
    refine jz_iconst hx hb dX3_slot_5 ?_
    refine jz_icmp_gt (tgt := 52) hx hb dX3_slot_6 (by decide) (by omega) (fun cd6 => ?_) (fun cd6 => ?_)
    · refine jz_iconst hx hb dX3_slot_52 ?_
      exact jw_z hx hb hr hlocks ((mn, mst, mva)) (by omega) (Or.inl ⟨by omega, rfl, rfl⟩) hP hD hS dX3_slot_53
    · refine lv_iload_n hx hb dX3_slot_9 rfl (lv_at hl 2 rfl) ?_
      refine jz_if_lt (tgt := 52) hx hb dX3_slot_10 (by decide) (by omega) (fun cd10 => ?_) (fun cd10 => ?_)
      · refine jz_iconst hx hb dX3_slot_52 ?_
        exact jw_z hx hb hr hlocks ((mn, mst, mva)) (by omega) (Or.inl ⟨by omega, rfl, rfl⟩) hP hD hS dX3_slot_53
      · refine lv_iload_n hx hb dX3_slot_13 rfl (lv_at hl 2 rfl) ?_
        refine jz_sipush hx hb dX3_slot_14 rfl ?_
        refine jz_icmp_ge (tgt := 52) hx hb dX3_slot_17 (by decide) (by omega) (fun cd17 => ?_) (fun cd17 => ?_)
        · refine jz_iconst hx hb dX3_slot_52 ?_
          exact jw_z hx hb hr hlocks ((mn, mst, mva)) (by omega) (Or.inl ⟨by omega, rfl, rfl⟩) hP hD hS dX3_slot_53
        · refine lv_iload_n hx hb dX3_slot_20 rfl (lv_at hl 3 rfl) ?_
          refine lv_iload_n hx hb dX3_slot_21 rfl (lv_at hl 1 rfl) ?_
          refine jz_iconst hx hb dX3_slot_22 ?_
          refine jz_icmp_ne (tgt := 30) hx hb dX3_slot_23 (by decide) (by omega) (fun cd23 => ?_) (fun cd23 => ?_)
          · refine jz_iconst hx hb dX3_slot_30 ?_
            refine jz_icmp_lt (tgt := 52) hx hb dX3_slot_31 (by decide) (by omega) (fun cd31 => ?_) (fun cd31 => ?_)
            · refine jz_iconst hx hb dX3_slot_52 ?_
              exact jw_z hx hb hr hlocks ((mn, mst, mva)) (by omega) (Or.inl ⟨by omega, rfl, rfl⟩) hP hD hS dX3_slot_53
            · refine lv_iload_n hx hb dX3_slot_34 rfl (lv_at hl 3 rfl) ?_
              refine lv_iload_n hx hb dX3_slot_35 rfl (lv_at hl 1 rfl) ?_
              refine jz_iconst hx hb dX3_slot_36 ?_
              refine jz_icmp_ne (tgt := 46) hx hb dX3_slot_37 (by decide) (by omega) (fun cd37 => ?_) (fun cd37 => ?_)
              · refine jz_sipush hx hb dX3_slot_46 rfl ?_
                refine jz_icmp_le (tgt := 54) hx hb dX3_slot_49 (by decide) (by omega) (fun cd49 => ?_) (fun cd49 => ?_)
                · exact cut54  ls s.heap [] (by omega) hP hD hS (lv_sub hl [0, 1, 2, 3] rfl)
                · refine jz_iconst hx hb dX3_slot_52 ?_
                  exact jw_z hx hb hr hlocks ((mn, mst, mva)) (by omega) (Or.inl ⟨by omega, rfl, rfl⟩) hP hD hS dX3_slot_53
              · refine jz_sipush hx hb dX3_slot_40 rfl ?_
                refine lv_goto (tgt := 49) hx hb dX3_slot_43 (by decide) ?_
                refine jz_icmp_le (tgt := 54) hx hb dX3_slot_49 (by decide) (by omega) (fun cd49 => ?_) (fun cd49 => ?_)
                · exact cut54  ls s.heap [] (by omega) hP hD hS (lv_sub hl [0, 1, 2, 3] rfl)
                · refine jz_iconst hx hb dX3_slot_52 ?_
                  exact jw_z hx hb hr hlocks ((mn, mst, mva)) (by omega) (Or.inl ⟨by omega, rfl, rfl⟩) hP hD hS dX3_slot_53
          · refine jz_iconst hx hb dX3_slot_26 ?_
            refine lv_goto (tgt := 31) hx hb dX3_slot_27 (by decide) ?_
            refine jz_icmp_lt (tgt := 52) hx hb dX3_slot_31 (by decide) (by omega) (fun cd31 => ?_) (fun cd31 => ?_)
            · refine jz_iconst hx hb dX3_slot_52 ?_
              exact jw_z hx hb hr hlocks ((mn, mst, mva)) (by omega) (Or.inl ⟨by omega, rfl, rfl⟩) hP hD hS dX3_slot_53
            · refine lv_iload_n hx hb dX3_slot_34 rfl (lv_at hl 3 rfl) ?_
              refine lv_iload_n hx hb dX3_slot_35 rfl (lv_at hl 1 rfl) ?_
              refine jz_iconst hx hb dX3_slot_36 ?_
              refine jz_icmp_ne (tgt := 46) hx hb dX3_slot_37 (by decide) (by omega) (fun cd37 => ?_) (fun cd37 => ?_)
              · refine jz_sipush hx hb dX3_slot_46 rfl ?_
                refine jz_icmp_le (tgt := 54) hx hb dX3_slot_49 (by decide) (by omega) (fun cd49 => ?_) (fun cd49 => ?_)
                · exact cut54  ls s.heap [] (by omega) hP hD hS (lv_sub hl [0, 1, 2, 3] rfl)
                · refine jz_iconst hx hb dX3_slot_52 ?_
                  exact jw_z hx hb hr hlocks ((mn, mst, mva)) (by omega) (Or.inl ⟨by omega, rfl, rfl⟩) hP hD hS dX3_slot_53
              · refine jz_sipush hx hb dX3_slot_40 rfl ?_
                refine lv_goto (tgt := 49) hx hb dX3_slot_43 (by decide) ?_
                refine jz_icmp_le (tgt := 54) hx hb dX3_slot_49 (by decide) (by omega) (fun cd49 => ?_) (fun cd49 => ?_)
                · exact cut54  ls s.heap [] (by omega) hP hD hS (lv_sub hl [0, 1, 2, 3] rfl)
                · refine jz_iconst hx hb dX3_slot_52 ?_
                  exact jw_z hx hb hr hlocks ((mn, mst, mva)) (by omega) (Or.inl ⟨by omega, rfl, rfl⟩) hP hD hS dX3_slot_53

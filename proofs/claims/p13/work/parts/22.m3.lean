set_option maxHeartbeats 4000000 in
set_option maxRecDepth 100000 in
theorem c_X3_work (l : Launch) (dC : Nat → ClassId) (dI : Nat → Nat → Nat) (cI cQ cR : ClassId) (g : Nat → Nat) (t0 t1 t2 t3 t4 t5 t6 t7 t8 t9 t10 t11 t12 t13 t14 : Int) (msh e0 e1 : Int → Int) (hn : 0 ≤ t4 ∧ t4 ≤ 100000) (hd : 0 ≤ t11 ∧ t11 ≤ 200) (hdm : ∀ k : Int, 0 ≤ k → k < t11 → 0 ≤ e0 k ∧ e0 k ≤ t4) : Met l yX3_work wsX3_work ({ frames := 0, cells := 0, slots := 0, locals := 0 }) (kR (dC, dI) vwCl (kT cI cQ cR) [.ref (g 0)] ([(g 0, .inr (3, [.ref (g 1), .ref (g 2), .ref (g 3), .ref (g 4), .int (iI (t0)), .int (iI (t1)), .int (iI (t2)), .int (iI (t3)), .int (iI (t4)), .int (iI (t5)), .int (iI (t6)), .int (iI (t7)), .int (iI (t8)), .int (iI (t9)), .int (iI (t10)), .ref (g 5), .ref (g 6), .int (iI (t11)), .ref (g 7), .ref (g 8), .ref (g 9), .ref (g 10), .ref (g 11), .ref (g 12), .int (iI (t12)), .int (iI (t13)), .int (iI (t14))])), (g 4, .inl (cI, 33, .inl (jA (msh)))), (g 7, .inl (cI, 200, .inl (jA (e0)))), (g 8, .inl (cI, 200, .inl (jA (e1))))])) (vp_Sl (fun z => True)) 0 0 (fun _ => False) := by
  refine k_inRl (cc := cX3_work) (maxL := 5) (ret := (some .long)) (by decide) rfl (Nat.le_of_ble_eq_true rfl) ?_
  intro p e s m below meth c ls hx hb hr hts hown hml hlocks hP hK hN hl
  have hown : s.vm.findClass RX3 = some m.cls := hown
  have hl : lv_has ls 5 [(0, .ref (g 0))] := hl
  have hiX3 : ∀ w ∈ u_ws RX3 TX3 27, w ∈ wsX3_work := by decide +kernel
  refine lv_lconst hx hb dX3_work_0 rfl ?_
  refine lv_topl (fun y1 ey1 => ?_)
  refine lv_lstore_n (lv' := [(1, .long (y1)), (0, .ref (g 0))]) hx hb dX3_work_1 rfl hl (by decide) rfl (fun ls hl => ?_)
  refine jz_iconst hx hb dX3_work_2 ?_
  refine lv_istore_n (lv' := [(3, .int (iI (0))), (1, .long (y1)), (0, .ref (g 0))]) hx hb dX3_work_3 rfl hl (by decide) rfl (fun ls hl => ?_)
  have y0 : Int64 := 0
  have loop4 : ∀ (n : Nat) (k : Int) (y : Int64) (ls : Array Slot), t11 < k + (n : Int) → (0 ≤ k) → (k ≤ t11) → lv_has ls 5 [(0, .ref (g 0)), (1, .long (y)), (3, .int (iI (k)))] → W p l e ({ frames := 0, cells := 0, slots := 0, locals := 0 }) s m ([.ref (g 0)] : List Value).toArray below meth c s.heap [] 0 0 (MQ below (vp_Sl (fun z => True)) ([.ref (g 0)] : List Value).toArray s 0 0 (fun _ => False)) (F0 m 4 ls []) := by
    intro n
    induction n with
    | zero => intro k y ls hfu g0 g1 hl; exact absurd hfu (by omega)
    | succ n ih =>
      intro k y ls hfu g0 g1 hl
      refine lv_iload_n hx hb dX3_work_4 rfl (lv_at hl 2 rfl) ?_
      refine lv_aload_n hx hb dX3_work_5 rfl (lv_at hl 0 rfl) ?_
      refine va_get (D := (dC, dI)) (ci := 3) (C := RX3) (T := TX3) (N := 27) hx hb hts hiX3 hown hK hP 0 rfl rfl 17 (by decide) (hts (.fieldLink RX3 80 "PumpDeskModel" "doses" "I") (by decide +kernel)) (fun _ h9 => h9) rfl dX3_work_6 ?_
      refine jz_icmp_ge (tgt := 68) hx hb dX3_work_9 (by decide) (by omega) (fun cd9 => ?_) (fun cd9 => ?_)
      · refine lv_lload_n hx hb dX3_work_68 rfl (lv_at hl 1 rfl) ?_
        exact jr_l hx hb hr hlocks (trivial) dX3_work_69
      · refine lv_aload_n hx hb dX3_work_12 rfl (lv_at hl 0 rfl) ?_
        refine va_get (D := (dC, dI)) (ci := 3) (C := RX3) (T := TX3) (N := 27) hx hb hts hiX3 hown hK hP 0 rfl rfl 8 (by decide) (hts (.fieldLink RX3 66 "PumpDeskModel" "now" "I") (by decide +kernel)) (fun _ h9 => h9) rfl dX3_work_13 ?_
        refine lv_aload_n hx hb dX3_work_16 rfl (lv_at hl 0 rfl) ?_
        refine va_get (D := (dC, dI)) (ci := 3) (C := RX3) (T := TX3) (N := 27) hx hb hts hiX3 hown hK hP 0 rfl rfl 18 (by decide) (hts (.fieldLink RX3 42 "PumpDeskModel" "doseMinute" "[I") (by decide +kernel)) (fun _ h9 => h9) rfl dX3_work_17 ?_
        refine lv_iload_n hx hb dX3_work_20 rfl (lv_at hl 2 rfl) ?_
        refine jz_iald hx hb hK hP 2 0 rfl rfl (by omega) dX3_work_21 ?_
        have ra2 := hdm (k) (by omega) (by omega)
        refine jz_isub hx hb dX3_work_22 ?_
        refine jz_bipush hx hb dX3_work_23 rfl ?_
        refine jz_idiv hx hb dX3_work_25 (by omega) ?_
        refine lv_istore (lv' := [(4, .int (iI (((t4 - (e0) (k)) / 15)))), (0, .ref (g 0)), (1, .long (y)), (3, .int (iI (k)))]) hx hb dX3_work_26 hl (by decide) rfl (fun ls hl => ?_)
        refine lv_lload_n hx hb dX3_work_28 rfl (lv_at hl 2 rfl) ?_
        refine lv_iload hx hb dX3_work_29 (lv_at hl 0 rfl) ?_
        refine jz_bipush hx hb dX3_work_31 rfl ?_
        refine jz_icmp_le (tgt := 40) hx hb dX3_work_33 (by decide) (by omega) (fun cd33 => ?_) (fun cd33 => ?_)
        · refine lv_aload_n hx hb dX3_work_40 rfl (lv_at hl 1 rfl) ?_
          refine va_get (D := (dC, dI)) (ci := 3) (C := RX3) (T := TX3) (N := 27) hx hb hts hiX3 hown hK hP 0 rfl rfl 19 (by decide) (hts (.fieldLink RX3 45 "PumpDeskModel" "doseParts" "[I") (by decide +kernel)) (fun _ h9 => h9) rfl dX3_work_41 ?_
          refine lv_iload_n hx hb dX3_work_44 rfl (lv_at hl 3 rfl) ?_
          refine jz_iald hx hb hK hP 3 0 rfl rfl (by omega) dX3_work_45 ?_
          refine lv_i2l hx hb dX3_work_46 rfl ?_
          refine lv_topl (fun y3 ey3 => ?_)
          refine lv_aload_n hx hb dX3_work_47 rfl (lv_at hl 1 rfl) ?_
          refine va_get (D := (dC, dI)) (ci := 3) (C := RX3) (T := TX3) (N := 27) hx hb hts hiX3 hown hK hP 0 rfl rfl 3 (by decide) (hts (.fieldLink RX3 19 "PumpDeskModel" "shares" "[I") (by decide +kernel)) (fun _ h9 => h9) rfl dX3_work_48 ?_
          refine lv_iload hx hb dX3_work_51 (lv_at hl 0 rfl) ?_
          refine jz_iald hx hb hK hP 1 0 rfl rfl (by omega) dX3_work_53 ?_
          refine lv_i2l hx hb dX3_work_54 rfl ?_
          refine lv_topl (fun y4 ey4 => ?_)
          refine lv_lmul hx hb dX3_work_55 ?_
          refine lv_topl (fun y5 ey5 => ?_)
          refine lv_ldc2 (v := 1000) hx hb hown (hts (.constantLong RX3 83 1000) (by decide +kernel)) dX3_work_56 ?_
          refine lv_ldiv hx hb dX3_work_59 (by decide) ?_
          refine lv_topl (fun y6 ey6 => ?_)
          refine lv_ladd hx hb dX3_work_60 ?_
          refine lv_topl (fun y7 ey7 => ?_)
          refine lv_lstore_n (lv' := [(1, .long (y7)), (4, .int (iI (((t4 - (e0) (k)) / 15)))), (0, .ref (g 0)), (3, .int (iI (k)))]) hx hb dX3_work_61 rfl hl (by decide) rfl (fun ls hl => ?_)
          refine lv_iinc (v := iI ((k + 1))) (lv' := [(3, .int (iI ((k + 1)))), (1, .long (y7)), (4, .int (iI (((t4 - (e0) (k)) / 15)))), (0, .ref (g 0))]) hx hb dX3_work_62 hl (k := 3) rfl (iI_add _ _) (by decide) rfl (fun ls hl => ?_)
          refine lv_goto (tgt := 4) hx hb dX3_work_65 (by decide) ?_
          exact ih (k + 1) y7 ls (by omega) (by omega) (by omega) (lv_sub hl [3, 1, 0] rfl)
        · refine lv_lconst hx hb dX3_work_36 rfl ?_
          refine lv_topl (fun y8 ey8 => ?_)
          refine lv_goto (tgt := 60) hx hb dX3_work_37 (by decide) ?_
          refine lv_ladd hx hb dX3_work_60 ?_
          refine lv_topl (fun y9 ey9 => ?_)
          refine lv_lstore_n (lv' := [(1, .long (y9)), (4, .int (iI (((t4 - (e0) (k)) / 15)))), (0, .ref (g 0)), (3, .int (iI (k)))]) hx hb dX3_work_61 rfl hl (by decide) rfl (fun ls hl => ?_)
          refine lv_iinc (v := iI ((k + 1))) (lv' := [(3, .int (iI ((k + 1)))), (1, .long (y9)), (4, .int (iI (((t4 - (e0) (k)) / 15)))), (0, .ref (g 0))]) hx hb dX3_work_62 hl (k := 3) rfl (iI_add _ _) (by decide) rfl (fun ls hl => ?_)
          refine lv_goto (tgt := 4) hx hb dX3_work_65 (by decide) ?_
          exact ih (k + 1) y9 ls (by omega) (by omega) (by omega) (lv_sub hl [3, 1, 0] rfl)
  exact loop4 201 0 y1 ls (by omega) (by omega) (by omega) (lv_sub hl [2, 1, 0] rfl)

set_option maxHeartbeats 4000000 in
set_option maxRecDepth 100000 in
theorem c_X3_wanted (l : Launch) (dC : Nat → ClassId) (dI : Nat → Nat → Nat) (cI cQ cR : ClassId) (g : Nat → Nat) (t0 t1 t2 t3 t4 t5 t6 t7 t8 t9 t10 t11 t12 t13 t14 : Int) (mn mst mva msh mfl mds e0 e1 : Int → Int) (wr : va_W) (a : Int) (sz : Nat) (ra : -2147483648 ≤ a ∧ a ≤ 2147483647) (hn : 0 ≤ t4 ∧ t4 ≤ 100000) (hmn : ∀ i : Int, 0 ≤ i → i ≤ 4 → 0 ≤ mn i ∧ mn i ≤ 8) (hst : ∀ i q : Int, 0 ≤ i → i ≤ 4 → 8 * i ≤ q → q < 8 * i + mn i → 0 ≤ mst q ∧ mst q ≤ 1439) (hva : ∀ i q : Int, 0 ≤ i → i ≤ 3 → 8 * i ≤ q → q < 8 * i + mn i → 1 ≤ mva q ∧ mva q ≤ 1000) (hd : 0 ≤ t11 ∧ t11 ≤ 200) (hdm : ∀ k : Int, 0 ≤ k → k < t11 → 0 ≤ e0 k ∧ e0 k ≤ t4) (ht0 : (-2147483648 ≤ t0 ∧ t0 ≤ 2147483647)) (ht1 : (-2147483648 ≤ t1 ∧ t1 ≤ 2147483647)) (ht6 : t6 = 0 ∨ t6 = 1) (ht8 : t8 = 0 ∨ t8 = 1) (ht9 : (-2147483648 ≤ t9 ∧ t9 ≤ 2147483647)) (ht10 : -1 ≤ t10 ∧ t10 ≤ 100000) : Met l yX3_wanted wsX3_wanted ({ frames := 2, cells := 0, slots := 0, locals := 45 }) (kPc (dC, dI) vwCl (kT cI cQ cR) [.ref (g 0), .int (iI (a))] ([(g 0, .inr (3, [.ref (g 1), .ref (g 2), .ref (g 3), .ref (g 4), .int (iI (t0)), .int (iI (t1)), .int (iI (t2)), .int (iI (t3)), .int (iI (t4)), .int (iI (t5)), .int (iI (t6)), .int (iI (t7)), .int (iI (t8)), .int (iI (t9)), .int (iI (t10)), .ref (g 5), .ref (g 6), .int (iI (t11)), .ref (g 7), .ref (g 8), .ref (g 9), .ref (g 10), .ref (g 11), .ref (g 12), .int (iI (t12)), .int (iI (t13)), .int (iI (t14))])), (g 1, .inl (cI, 5, .inl (jA (mn)))), (g 2, .inl (cI, 40, .inl (jA (mst)))), (g 3, .inl (cI, 40, .inl (jA (mva)))), (g 4, .inl (cI, 33, .inl (jA (msh)))), (g 5, .inl (cI, 70, .inl (jA (mfl)))), (g 6, .inl (cI, 70, .inl (jA (mds)))), (g 7, .inl (cI, 200, .inl (jA (e0)))), (g 8, .inl (cI, 200, .inl (jA (e1))))] ++ wr) sz) (kQi (dC, dI) vwCl (va_A ([(g 0, .inr (3, [.ref (g 1), .ref (g 2), .ref (g 3), .ref (g 4), .int (iI (t0)), .int (iI (t1)), .int (iI (t2)), .int (iI (t3)), .int (iI (t4)), .int (iI (t5)), .int (iI (t6)), .int (iI (t7)), .int (iI (t8)), .int (iI (t9)), .int (iI (t10)), .ref (g 5), .ref (g 6), .int (iI (t11)), .ref (g 7), .ref (g 8), .ref (g 9), .ref (g 10), .ref (g 11), .ref (g 12), .int (iI (t12)), .int (iI (t13)), .int (iI (t14))])), (g 1, .inl (cI, 5, .inl (jA (mn)))), (g 2, .inl (cI, 40, .inl (jA (mst)))), (g 3, .inl (cI, 40, .inl (jA (mva)))), (g 4, .inl (cI, 33, .inl (jA (msh)))), (g 5, .inl (cI, 70, .inl (jA (mfl)))), (g 6, .inl (cI, 70, .inl (jA (mds)))), (g 7, .inl (cI, 200, .inl (jA (e0)))), (g 8, .inl (cI, 200, .inl (jA (e1))))] ++ wr) sz) (fun (z : Int) (u : Int × Int × Int) => (-2147483648 ≤ z ∧ z ≤ 2147483647)) (fun (u : Int × Int × Int) => [(g 0, .inr (3, [.ref (g 1), .ref (g 2), .ref (g 3), .ref (g 4), .int (iI (t0)), .int (iI (t1)), .int (iI (t2)), .int (iI (t3)), .int (iI (t4)), .int (iI (t5)), .int (iI (t6)), .int (iI (t7)), .int (iI (t8)), .int (iI (t9)), .int (iI (t10)), .ref (g 5), .ref (g 6), .int (iI (t11)), .ref (g 7), .ref (g 8), .ref (g 9), .ref (g 10), .ref (g 11), .ref (g 12), .int (iI (u.1)), .int (iI (u.2.1)), .int (iI (u.2.2))])), (g 1, .inl (cI, 5, .inl (jA (mn)))), (g 2, .inl (cI, 40, .inl (jA (mst)))), (g 3, .inl (cI, 40, .inl (jA (mva)))), (g 4, .inl (cI, 33, .inl (jA (msh)))), (g 5, .inl (cI, 70, .inl (jA (mfl)))), (g 6, .inl (cI, 70, .inl (jA (mds)))), (g 7, .inl (cI, 200, .inl (jA (e0)))), (g 8, .inl (cI, 200, .inl (jA (e1))))] ++ wr)) 0 0 (va_A ([(g 0, .inr (3, [.ref (g 1), .ref (g 2), .ref (g 3), .ref (g 4), .int (iI (t0)), .int (iI (t1)), .int (iI (t2)), .int (iI (t3)), .int (iI (t4)), .int (iI (t5)), .int (iI (t6)), .int (iI (t7)), .int (iI (t8)), .int (iI (t9)), .int (iI (t10)), .ref (g 5), .ref (g 6), .int (iI (t11)), .ref (g 7), .ref (g 8), .ref (g 9), .ref (g 10), .ref (g 11), .ref (g 12), .int (iI (t12)), .int (iI (t13)), .int (iI (t14))])), (g 1, .inl (cI, 5, .inl (jA (mn)))), (g 2, .inl (cI, 40, .inl (jA (mst)))), (g 3, .inl (cI, 40, .inl (jA (mva)))), (g 4, .inl (cI, 33, .inl (jA (msh)))), (g 5, .inl (cI, 70, .inl (jA (mfl)))), (g 6, .inl (cI, 70, .inl (jA (mds)))), (g 7, .inl (cI, 200, .inl (jA (e0)))), (g 8, .inl (cI, 200, .inl (jA (e1))))] ++ wr) sz) := by
  refine k_inWi (cc := cX3_wanted) (maxL := 6) (ret := (some .int)) (by decide) rfl (Nat.le_of_ble_eq_true rfl) ?_
  intro p e s m below meth c ls A hx hb hr hts hown hml hlocks hin hP hK hN hD hS hA hAo hl
  have hown : s.vm.findClass RX3 = some m.cls := hown
  have hl : lv_has ls 6 [(0, .ref (g 0)), (1, .int (iI (a)))] := hl
  have hiX3 : ∀ w ∈ u_ws RX3 TX3 27, w ∈ wsX3_wanted := by decide +kernel
  have cut260 : ∀ (q0 q1 q2 v : Int) (ls : Array Slot) (H : Heap) (locs : List Loc), ((-2147483648 ≤ v ∧ v ≤ 2147483647)) → va_P (dC, dI) vwCl ([(g 0, .inr (3, [.ref (g 1), .ref (g 2), .ref (g 3), .ref (g 4), .int (iI (t0)), .int (iI (t1)), .int (iI (t2)), .int (iI (t3)), .int (iI (t4)), .int (iI (t5)), .int (iI (t6)), .int (iI (t7)), .int (iI (t8)), .int (iI (t9)), .int (iI (t10)), .ref (g 5), .ref (g 6), .int (iI (t11)), .ref (g 7), .ref (g 8), .ref (g 9), .ref (g 10), .ref (g 11), .ref (g 12), .int (iI (q0)), .int (iI (q1)), .int (iI (q2))])), (g 1, .inl (cI, 5, .inl (jA (mn)))), (g 2, .inl (cI, 40, .inl (jA (mst)))), (g 3, .inl (cI, 40, .inl (jA (mva)))), (g 4, .inl (cI, 33, .inl (jA (msh)))), (g 5, .inl (cI, 70, .inl (jA (mfl)))), (g 6, .inl (cI, 70, .inl (jA (mds)))), (g 7, .inl (cI, 200, .inl (jA (e0)))), (g 8, .inl (cI, 200, .inl (jA (e1))))] ++ wr) H → va_D A ([(g 0, .inr (3, [.ref (g 1), .ref (g 2), .ref (g 3), .ref (g 4), .int (iI (t0)), .int (iI (t1)), .int (iI (t2)), .int (iI (t3)), .int (iI (t4)), .int (iI (t5)), .int (iI (t6)), .int (iI (t7)), .int (iI (t8)), .int (iI (t9)), .int (iI (t10)), .ref (g 5), .ref (g 6), .int (iI (t11)), .ref (g 7), .ref (g 8), .ref (g 9), .ref (g 10), .ref (g 11), .ref (g 12), .int (iI (q0)), .int (iI (q1)), .int (iI (q2))])), (g 1, .inl (cI, 5, .inl (jA (mn)))), (g 2, .inl (cI, 40, .inl (jA (mst)))), (g 3, .inl (cI, 40, .inl (jA (mva)))), (g 4, .inl (cI, 33, .inl (jA (msh)))), (g 5, .inl (cI, 70, .inl (jA (mfl)))), (g 6, .inl (cI, 70, .inl (jA (mds)))), (g 7, .inl (cI, 200, .inl (jA (e0)))), (g 8, .inl (cI, 200, .inl (jA (e1))))] ++ wr) → va_S A s.heap H locs → lv_has ls 6 [(0, .ref (g 0)), (3, .int (iI (v)))] → W p l e ({ frames := 2, cells := 0, slots := 0, locals := 45 }) s m ([.ref (g 0), .int (iI (a))] : List Value).toArray below meth c H locs 0 0 (MQ below (kQi (dC, dI) vwCl A (fun (z : Int) (u : Int × Int × Int) => (-2147483648 ≤ z ∧ z ≤ 2147483647)) (fun (u : Int × Int × Int) => [(g 0, .inr (3, [.ref (g 1), .ref (g 2), .ref (g 3), .ref (g 4), .int (iI (t0)), .int (iI (t1)), .int (iI (t2)), .int (iI (t3)), .int (iI (t4)), .int (iI (t5)), .int (iI (t6)), .int (iI (t7)), .int (iI (t8)), .int (iI (t9)), .int (iI (t10)), .ref (g 5), .ref (g 6), .int (iI (t11)), .ref (g 7), .ref (g 8), .ref (g 9), .ref (g 10), .ref (g 11), .ref (g 12), .int (iI (u.1)), .int (iI (u.2.1)), .int (iI (u.2.2))])), (g 1, .inl (cI, 5, .inl (jA (mn)))), (g 2, .inl (cI, 40, .inl (jA (mst)))), (g 3, .inl (cI, 40, .inl (jA (mva)))), (g 4, .inl (cI, 33, .inl (jA (msh)))), (g 5, .inl (cI, 70, .inl (jA (mfl)))), (g 6, .inl (cI, 70, .inl (jA (mds)))), (g 7, .inl (cI, 200, .inl (jA (e0)))), (g 8, .inl (cI, 200, .inl (jA (e1))))] ++ wr)) ([.ref (g 0), .int (iI (a))] : List Value).toArray s 0 0 A) (F0 m 260 ls []) := by
    intro q0 q1 q2 v ls H locs hv hP hD hS hl
    refine lv_iload_n hx hb dX3_wanted_260 rfl (lv_at hl 1 rfl) ?_
    refine lv_iload_n hx hb dX3_wanted_261 rfl (lv_at hl 1 rfl) ?_
    refine jz_bipush hx hb dX3_wanted_262 rfl ?_
    refine jz_sirem hx hb dX3_wanted_264 (by omega) ?_
    refine jz_nrm (fun z1 hz1 ez1 => ?_)
    refine jz_isub hx hb dX3_wanted_265 ?_
    refine jz_nrm (fun z2 hz2 ez2 => ?_)
    exact jw_i hx hb hr hlocks (((q0), (q1), (q2))) (by omega) hP hD hS dX3_wanted_266
  have cut246 : ∀ (q0 q1 q2 v : Int) (ls : Array Slot) (H : Heap) (locs : List Loc), ((-2147483648 ≤ v ∧ v ≤ 2147483647)) → va_P (dC, dI) vwCl ([(g 0, .inr (3, [.ref (g 1), .ref (g 2), .ref (g 3), .ref (g 4), .int (iI (t0)), .int (iI (t1)), .int (iI (t2)), .int (iI (t3)), .int (iI (t4)), .int (iI (t5)), .int (iI (t6)), .int (iI (t7)), .int (iI (t8)), .int (iI (t9)), .int (iI (t10)), .ref (g 5), .ref (g 6), .int (iI (t11)), .ref (g 7), .ref (g 8), .ref (g 9), .ref (g 10), .ref (g 11), .ref (g 12), .int (iI (q0)), .int (iI (q1)), .int (iI (q2))])), (g 1, .inl (cI, 5, .inl (jA (mn)))), (g 2, .inl (cI, 40, .inl (jA (mst)))), (g 3, .inl (cI, 40, .inl (jA (mva)))), (g 4, .inl (cI, 33, .inl (jA (msh)))), (g 5, .inl (cI, 70, .inl (jA (mfl)))), (g 6, .inl (cI, 70, .inl (jA (mds)))), (g 7, .inl (cI, 200, .inl (jA (e0)))), (g 8, .inl (cI, 200, .inl (jA (e1))))] ++ wr) H → va_D A ([(g 0, .inr (3, [.ref (g 1), .ref (g 2), .ref (g 3), .ref (g 4), .int (iI (t0)), .int (iI (t1)), .int (iI (t2)), .int (iI (t3)), .int (iI (t4)), .int (iI (t5)), .int (iI (t6)), .int (iI (t7)), .int (iI (t8)), .int (iI (t9)), .int (iI (t10)), .ref (g 5), .ref (g 6), .int (iI (t11)), .ref (g 7), .ref (g 8), .ref (g 9), .ref (g 10), .ref (g 11), .ref (g 12), .int (iI (q0)), .int (iI (q1)), .int (iI (q2))])), (g 1, .inl (cI, 5, .inl (jA (mn)))), (g 2, .inl (cI, 40, .inl (jA (mst)))), (g 3, .inl (cI, 40, .inl (jA (mva)))), (g 4, .inl (cI, 33, .inl (jA (msh)))), (g 5, .inl (cI, 70, .inl (jA (mfl)))), (g 6, .inl (cI, 70, .inl (jA (mds)))), (g 7, .inl (cI, 200, .inl (jA (e0)))), (g 8, .inl (cI, 200, .inl (jA (e1))))] ++ wr) → va_S A s.heap H locs → lv_has ls 6 [(0, .ref (g 0)), (3, .int (iI (v)))] → W p l e ({ frames := 2, cells := 0, slots := 0, locals := 45 }) s m ([.ref (g 0), .int (iI (a))] : List Value).toArray below meth c H locs 0 0 (MQ below (kQi (dC, dI) vwCl A (fun (z : Int) (u : Int × Int × Int) => (-2147483648 ≤ z ∧ z ≤ 2147483647)) (fun (u : Int × Int × Int) => [(g 0, .inr (3, [.ref (g 1), .ref (g 2), .ref (g 3), .ref (g 4), .int (iI (t0)), .int (iI (t1)), .int (iI (t2)), .int (iI (t3)), .int (iI (t4)), .int (iI (t5)), .int (iI (t6)), .int (iI (t7)), .int (iI (t8)), .int (iI (t9)), .int (iI (t10)), .ref (g 5), .ref (g 6), .int (iI (t11)), .ref (g 7), .ref (g 8), .ref (g 9), .ref (g 10), .ref (g 11), .ref (g 12), .int (iI (u.1)), .int (iI (u.2.1)), .int (iI (u.2.2))])), (g 1, .inl (cI, 5, .inl (jA (mn)))), (g 2, .inl (cI, 40, .inl (jA (mst)))), (g 3, .inl (cI, 40, .inl (jA (mva)))), (g 4, .inl (cI, 33, .inl (jA (msh)))), (g 5, .inl (cI, 70, .inl (jA (mfl)))), (g 6, .inl (cI, 70, .inl (jA (mds)))), (g 7, .inl (cI, 200, .inl (jA (e0)))), (g 8, .inl (cI, 200, .inl (jA (e1))))] ++ wr)) ([.ref (g 0), .int (iI (a))] : List Value).toArray s 0 0 A) (F0 m 246 ls []) := by
    intro q0 q1 q2 v ls H locs hv hP hD hS hl
    refine lv_aload_n hx hb dX3_wanted_246 rfl (lv_at hl 0 rfl) ?_
    refine va_get (D := (dC, dI)) (ci := 3) (C := RX3) (T := TX3) (N := 27) hx hb hts hiX3 hown hK hP 0 rfl rfl 10 (by decide) (hts (.fieldLink RX3 69 "PumpDeskModel" "held" "Z") (by decide +kernel)) (fun _ h9 => h9) rfl dX3_wanted_247 ?_
    refine jz_if_eq (tgt := 260) hx hb dX3_wanted_250 (by decide) (by omega) (fun cd250 => ?_) (fun cd250 => ?_)
    · exact cut260 (q0) (q1) (q2) (v) ls H locs (by omega) hP hD hS (lv_sub hl [0, 1] rfl)
    · refine jz_iconst hx hb dX3_wanted_253 ?_
      refine lv_istore_n (lv' := [(3, .int (iI (0))), (0, .ref (g 0))]) hx hb dX3_wanted_254 rfl hl (by decide) rfl (fun ls hl => ?_)
      refine lv_aload_n hx hb dX3_wanted_255 rfl (lv_at hl 1 rfl) ?_
      refine jz_iconst hx hb dX3_wanted_256 ?_
      refine va_put (D := (dC, dI)) (ci := 3) (v := .int (iI (3))) (ty := .int) (C := RX3) (T := TX3) (N := 27) hx hb hts hiX3 tyX3 tyX3_ok nmX3 hown hK hP hD hS 0 rfl rfl 26 (by decide) (hts (.fieldLink RX3 111 "PumpDeskModel" "why" "I") (by decide +kernel)) (fun _ h9 => h9) rfl (by decide +kernel) rfl rfl (Nat.le_of_ble_eq_true rfl) dX3_wanted_257 (fun H locs hP hD hS => ?_)
      have hP : va_P (dC, dI) vwCl ([(g 0, .inr (3, [.ref (g 1), .ref (g 2), .ref (g 3), .ref (g 4), .int (iI (t0)), .int (iI (t1)), .int (iI (t2)), .int (iI (t3)), .int (iI (t4)), .int (iI (t5)), .int (iI (t6)), .int (iI (t7)), .int (iI (t8)), .int (iI (t9)), .int (iI (t10)), .ref (g 5), .ref (g 6), .int (iI (t11)), .ref (g 7), .ref (g 8), .ref (g 9), .ref (g 10), .ref (g 11), .ref (g 12), .int (iI (q0)), .int (iI (q1)), .int (iI (3))])), (g 1, .inl (cI, 5, .inl (jA (mn)))), (g 2, .inl (cI, 40, .inl (jA (mst)))), (g 3, .inl (cI, 40, .inl (jA (mva)))), (g 4, .inl (cI, 33, .inl (jA (msh)))), (g 5, .inl (cI, 70, .inl (jA (mfl)))), (g 6, .inl (cI, 70, .inl (jA (mds)))), (g 7, .inl (cI, 200, .inl (jA (e0)))), (g 8, .inl (cI, 200, .inl (jA (e1))))] ++ wr) H := hP
      have hD : va_D A ([(g 0, .inr (3, [.ref (g 1), .ref (g 2), .ref (g 3), .ref (g 4), .int (iI (t0)), .int (iI (t1)), .int (iI (t2)), .int (iI (t3)), .int (iI (t4)), .int (iI (t5)), .int (iI (t6)), .int (iI (t7)), .int (iI (t8)), .int (iI (t9)), .int (iI (t10)), .ref (g 5), .ref (g 6), .int (iI (t11)), .ref (g 7), .ref (g 8), .ref (g 9), .ref (g 10), .ref (g 11), .ref (g 12), .int (iI (q0)), .int (iI (q1)), .int (iI (3))])), (g 1, .inl (cI, 5, .inl (jA (mn)))), (g 2, .inl (cI, 40, .inl (jA (mst)))), (g 3, .inl (cI, 40, .inl (jA (mva)))), (g 4, .inl (cI, 33, .inl (jA (msh)))), (g 5, .inl (cI, 70, .inl (jA (mfl)))), (g 6, .inl (cI, 70, .inl (jA (mds)))), (g 7, .inl (cI, 200, .inl (jA (e0)))), (g 8, .inl (cI, 200, .inl (jA (e1))))] ++ wr) := hD
      exact cut260 (q0) (q1) (3) (0) ls H locs (by omega) hP hD hS (lv_sub hl [1, 0] rfl)
  have cut199 : ∀ (q0 q1 q2 v : Int) (ls : Array Slot) (H : Heap) (locs : List Loc), ((-2147483648 ≤ v ∧ v ≤ 2147483647)) → va_P (dC, dI) vwCl ([(g 0, .inr (3, [.ref (g 1), .ref (g 2), .ref (g 3), .ref (g 4), .int (iI (t0)), .int (iI (t1)), .int (iI (t2)), .int (iI (t3)), .int (iI (t4)), .int (iI (t5)), .int (iI (t6)), .int (iI (t7)), .int (iI (t8)), .int (iI (t9)), .int (iI (t10)), .ref (g 5), .ref (g 6), .int (iI (t11)), .ref (g 7), .ref (g 8), .ref (g 9), .ref (g 10), .ref (g 11), .ref (g 12), .int (iI (q0)), .int (iI (q1)), .int (iI (q2))])), (g 1, .inl (cI, 5, .inl (jA (mn)))), (g 2, .inl (cI, 40, .inl (jA (mst)))), (g 3, .inl (cI, 40, .inl (jA (mva)))), (g 4, .inl (cI, 33, .inl (jA (msh)))), (g 5, .inl (cI, 70, .inl (jA (mfl)))), (g 6, .inl (cI, 70, .inl (jA (mds)))), (g 7, .inl (cI, 200, .inl (jA (e0)))), (g 8, .inl (cI, 200, .inl (jA (e1))))] ++ wr) H → va_D A ([(g 0, .inr (3, [.ref (g 1), .ref (g 2), .ref (g 3), .ref (g 4), .int (iI (t0)), .int (iI (t1)), .int (iI (t2)), .int (iI (t3)), .int (iI (t4)), .int (iI (t5)), .int (iI (t6)), .int (iI (t7)), .int (iI (t8)), .int (iI (t9)), .int (iI (t10)), .ref (g 5), .ref (g 6), .int (iI (t11)), .ref (g 7), .ref (g 8), .ref (g 9), .ref (g 10), .ref (g 11), .ref (g 12), .int (iI (q0)), .int (iI (q1)), .int (iI (q2))])), (g 1, .inl (cI, 5, .inl (jA (mn)))), (g 2, .inl (cI, 40, .inl (jA (mst)))), (g 3, .inl (cI, 40, .inl (jA (mva)))), (g 4, .inl (cI, 33, .inl (jA (msh)))), (g 5, .inl (cI, 70, .inl (jA (mfl)))), (g 6, .inl (cI, 70, .inl (jA (mds)))), (g 7, .inl (cI, 200, .inl (jA (e0)))), (g 8, .inl (cI, 200, .inl (jA (e1))))] ++ wr) → va_S A s.heap H locs → lv_has ls 6 [(0, .ref (g 0)), (3, .int (iI (v)))] → W p l e ({ frames := 2, cells := 0, slots := 0, locals := 45 }) s m ([.ref (g 0), .int (iI (a))] : List Value).toArray below meth c H locs 0 0 (MQ below (kQi (dC, dI) vwCl A (fun (z : Int) (u : Int × Int × Int) => (-2147483648 ≤ z ∧ z ≤ 2147483647)) (fun (u : Int × Int × Int) => [(g 0, .inr (3, [.ref (g 1), .ref (g 2), .ref (g 3), .ref (g 4), .int (iI (t0)), .int (iI (t1)), .int (iI (t2)), .int (iI (t3)), .int (iI (t4)), .int (iI (t5)), .int (iI (t6)), .int (iI (t7)), .int (iI (t8)), .int (iI (t9)), .int (iI (t10)), .ref (g 5), .ref (g 6), .int (iI (t11)), .ref (g 7), .ref (g 8), .ref (g 9), .ref (g 10), .ref (g 11), .ref (g 12), .int (iI (u.1)), .int (iI (u.2.1)), .int (iI (u.2.2))])), (g 1, .inl (cI, 5, .inl (jA (mn)))), (g 2, .inl (cI, 40, .inl (jA (mst)))), (g 3, .inl (cI, 40, .inl (jA (mva)))), (g 4, .inl (cI, 33, .inl (jA (msh)))), (g 5, .inl (cI, 70, .inl (jA (mfl)))), (g 6, .inl (cI, 70, .inl (jA (mds)))), (g 7, .inl (cI, 200, .inl (jA (e0)))), (g 8, .inl (cI, 200, .inl (jA (e1))))] ++ wr)) ([.ref (g 0), .int (iI (a))] : List Value).toArray s 0 0 A) (F0 m 199 ls []) := by
    intro q0 q1 q2 v ls H locs hv hP hD hS hl
    refine lv_aload_n hx hb dX3_wanted_199 rfl (lv_at hl 0 rfl) ?_
    refine va_get (D := (dC, dI)) (ci := 3) (C := RX3) (T := TX3) (N := 27) hx hb hts hiX3 hown hK hP 0 rfl rfl 5 (by decide) (hts (.fieldLink RX3 27 "PumpDeskModel" "mostDay" "I") (by decide +kernel)) (fun _ h9 => h9) rfl dX3_wanted_200 ?_
    refine lv_aload_n hx hb dX3_wanted_203 rfl (lv_at hl 0 rfl) ?_
    refine lv_aload_n hx hb dX3_wanted_204 rfl (lv_at hl 0 rfl) ?_
    refine va_get (D := (dC, dI)) (ci := 3) (C := RX3) (T := TX3) (N := 27) hx hb hts hiX3 hown hK hP 0 rfl rfl 8 (by decide) (hts (.fieldLink RX3 66 "PumpDeskModel" "now" "I") (by decide +kernel)) (fun _ h9 => h9) rfl dX3_wanted_205 ?_
    refine jz_sipush hx hb dX3_wanted_208 rfl ?_
    refine jz_idiv hx hb dX3_wanted_211 (by omega) ?_
    refine jz_iconst hx hb dX3_wanted_212 ?_
    refine kr_i (va_runV (As := [.int (iI ((t4 / 1440))), .int (iI (2))]) (rest := [.int (iI (t1))]) ⟨hx, hb, hml, hown, hts⟩ (c_X3_spent l dC dI cI cQ cR g (t0) (t1) (t2) (t3) (t4) (t5) (t6) (t7) (t8) (t9) (t10) (t11) (q0) (q1) (q2) (mfl) (mds) ((t4 / 1440)) (2) (by omega) (by omega)) (cwV 2 hts gX3_wanted_X3_spent rfl rfl rfl (by decide +kernel) ⟨Nat.le_of_ble_eq_true rfl, Nat.le_of_ble_eq_true rfl⟩) (kR_V hK hN (hP.sub (ws' := [(g 0, .inr (3, [.ref (g 1), .ref (g 2), .ref (g 3), .ref (g 4), .int (iI (t0)), .int (iI (t1)), .int (iI (t2)), .int (iI (t3)), .int (iI (t4)), .int (iI (t5)), .int (iI (t6)), .int (iI (t7)), .int (iI (t8)), .int (iI (t9)), .int (iI (t10)), .ref (g 5), .ref (g 6), .int (iI (t11)), .ref (g 7), .ref (g 8), .ref (g 9), .ref (g 10), .ref (g 11), .ref (g 12), .int (iI (q0)), .int (iI (q1)), .int (iI (q2))])), (g 5, .inl (cI, 70, .inl (jA (mfl)))), (g 6, .inl (cI, 70, .inl (jA (mds))))]) [0, 5, 6] rfl) hK hP (q0 := 0) rfl rfl) rfl rfl hl.1 rfl (lv_room (Nat.le_of_ble_eq_true rfl)) dX3_wanted_213 ⟨Nat.le_of_ble_eq_true rfl, Nat.le_of_ble_eq_true rfl⟩) (fun z3 hz3 => ?_)
    refine jz_isub hx hb dX3_wanted_216 ?_
    refine jz_nrm (fun z4 hz4 ez4 => ?_)
    refine lv_istore (lv' := [(4, .int (iI (z4))), (0, .ref (g 0)), (3, .int (iI (v)))]) hx hb dX3_wanted_217 hl (by decide) rfl (fun ls hl => ?_)
    refine lv_iload hx hb dX3_wanted_219 (lv_at hl 0 rfl) ?_
    refine jz_if_ge (tgt := 228) hx hb dX3_wanted_221 (by decide) (by omega) (fun cd221 => ?_) (fun cd221 => ?_)
    · refine lv_iload hx hb dX3_wanted_228 (lv_at hl 0 rfl) ?_
      refine lv_istore (lv' := [(4, .int (iI (z4))), (0, .ref (g 0)), (3, .int (iI (v)))]) hx hb dX3_wanted_230 hl (by decide) rfl (fun ls hl => ?_)
      refine lv_iload_n hx hb dX3_wanted_232 rfl (lv_at hl 2 rfl) ?_
      refine lv_iload hx hb dX3_wanted_233 (lv_at hl 0 rfl) ?_
      refine jz_icmp_le (tgt := 246) hx hb dX3_wanted_235 (by decide) (by omega) (fun cd235 => ?_) (fun cd235 => ?_)
      · exact cut246 (q0) (q1) (q2) (v) ls H locs (by omega) hP hD hS (lv_sub hl [1, 2] rfl)
      · refine lv_iload hx hb dX3_wanted_238 (lv_at hl 0 rfl) ?_
        refine lv_istore_n (lv' := [(3, .int (iI (z4))), (4, .int (iI (z4))), (0, .ref (g 0))]) hx hb dX3_wanted_240 rfl hl (by decide) rfl (fun ls hl => ?_)
        refine lv_aload_n hx hb dX3_wanted_241 rfl (lv_at hl 2 rfl) ?_
        refine jz_iconst hx hb dX3_wanted_242 ?_
        refine va_put (D := (dC, dI)) (ci := 3) (v := .int (iI (2))) (ty := .int) (C := RX3) (T := TX3) (N := 27) hx hb hts hiX3 tyX3 tyX3_ok nmX3 hown hK hP hD hS 0 rfl rfl 26 (by decide) (hts (.fieldLink RX3 111 "PumpDeskModel" "why" "I") (by decide +kernel)) (fun _ h9 => h9) rfl (by decide +kernel) rfl rfl (Nat.le_of_ble_eq_true rfl) dX3_wanted_243 (fun H locs hP hD hS => ?_)
        have hP : va_P (dC, dI) vwCl ([(g 0, .inr (3, [.ref (g 1), .ref (g 2), .ref (g 3), .ref (g 4), .int (iI (t0)), .int (iI (t1)), .int (iI (t2)), .int (iI (t3)), .int (iI (t4)), .int (iI (t5)), .int (iI (t6)), .int (iI (t7)), .int (iI (t8)), .int (iI (t9)), .int (iI (t10)), .ref (g 5), .ref (g 6), .int (iI (t11)), .ref (g 7), .ref (g 8), .ref (g 9), .ref (g 10), .ref (g 11), .ref (g 12), .int (iI (q0)), .int (iI (q1)), .int (iI (2))])), (g 1, .inl (cI, 5, .inl (jA (mn)))), (g 2, .inl (cI, 40, .inl (jA (mst)))), (g 3, .inl (cI, 40, .inl (jA (mva)))), (g 4, .inl (cI, 33, .inl (jA (msh)))), (g 5, .inl (cI, 70, .inl (jA (mfl)))), (g 6, .inl (cI, 70, .inl (jA (mds)))), (g 7, .inl (cI, 200, .inl (jA (e0)))), (g 8, .inl (cI, 200, .inl (jA (e1))))] ++ wr) H := hP
        have hD : va_D A ([(g 0, .inr (3, [.ref (g 1), .ref (g 2), .ref (g 3), .ref (g 4), .int (iI (t0)), .int (iI (t1)), .int (iI (t2)), .int (iI (t3)), .int (iI (t4)), .int (iI (t5)), .int (iI (t6)), .int (iI (t7)), .int (iI (t8)), .int (iI (t9)), .int (iI (t10)), .ref (g 5), .ref (g 6), .int (iI (t11)), .ref (g 7), .ref (g 8), .ref (g 9), .ref (g 10), .ref (g 11), .ref (g 12), .int (iI (q0)), .int (iI (q1)), .int (iI (2))])), (g 1, .inl (cI, 5, .inl (jA (mn)))), (g 2, .inl (cI, 40, .inl (jA (mst)))), (g 3, .inl (cI, 40, .inl (jA (mva)))), (g 4, .inl (cI, 33, .inl (jA (msh)))), (g 5, .inl (cI, 70, .inl (jA (mfl)))), (g 6, .inl (cI, 70, .inl (jA (mds)))), (g 7, .inl (cI, 200, .inl (jA (e0)))), (g 8, .inl (cI, 200, .inl (jA (e1))))] ++ wr) := hD
        exact cut246 (q0) (q1) (2) (z4) ls H locs (by omega) hP hD hS (lv_sub hl [2, 0] rfl)
    · refine jz_iconst hx hb dX3_wanted_224 ?_
      refine lv_goto (tgt := 230) hx hb dX3_wanted_225 (by decide) ?_
      refine lv_istore (lv' := [(4, .int (iI (0))), (0, .ref (g 0)), (3, .int (iI (v)))]) hx hb dX3_wanted_230 hl (by decide) rfl (fun ls hl => ?_)
      refine lv_iload_n hx hb dX3_wanted_232 rfl (lv_at hl 2 rfl) ?_
      refine lv_iload hx hb dX3_wanted_233 (lv_at hl 0 rfl) ?_
      refine jz_icmp_le (tgt := 246) hx hb dX3_wanted_235 (by decide) (by omega) (fun cd235 => ?_) (fun cd235 => ?_)
      · exact cut246 (q0) (q1) (q2) (v) ls H locs (by omega) hP hD hS (lv_sub hl [1, 2] rfl)
      · refine lv_iload hx hb dX3_wanted_238 (lv_at hl 0 rfl) ?_
        refine lv_istore_n (lv' := [(3, .int (iI (0))), (4, .int (iI (0))), (0, .ref (g 0))]) hx hb dX3_wanted_240 rfl hl (by decide) rfl (fun ls hl => ?_)
        refine lv_aload_n hx hb dX3_wanted_241 rfl (lv_at hl 2 rfl) ?_
        refine jz_iconst hx hb dX3_wanted_242 ?_
        refine va_put (D := (dC, dI)) (ci := 3) (v := .int (iI (2))) (ty := .int) (C := RX3) (T := TX3) (N := 27) hx hb hts hiX3 tyX3 tyX3_ok nmX3 hown hK hP hD hS 0 rfl rfl 26 (by decide) (hts (.fieldLink RX3 111 "PumpDeskModel" "why" "I") (by decide +kernel)) (fun _ h9 => h9) rfl (by decide +kernel) rfl rfl (Nat.le_of_ble_eq_true rfl) dX3_wanted_243 (fun H locs hP hD hS => ?_)
        have hP : va_P (dC, dI) vwCl ([(g 0, .inr (3, [.ref (g 1), .ref (g 2), .ref (g 3), .ref (g 4), .int (iI (t0)), .int (iI (t1)), .int (iI (t2)), .int (iI (t3)), .int (iI (t4)), .int (iI (t5)), .int (iI (t6)), .int (iI (t7)), .int (iI (t8)), .int (iI (t9)), .int (iI (t10)), .ref (g 5), .ref (g 6), .int (iI (t11)), .ref (g 7), .ref (g 8), .ref (g 9), .ref (g 10), .ref (g 11), .ref (g 12), .int (iI (q0)), .int (iI (q1)), .int (iI (2))])), (g 1, .inl (cI, 5, .inl (jA (mn)))), (g 2, .inl (cI, 40, .inl (jA (mst)))), (g 3, .inl (cI, 40, .inl (jA (mva)))), (g 4, .inl (cI, 33, .inl (jA (msh)))), (g 5, .inl (cI, 70, .inl (jA (mfl)))), (g 6, .inl (cI, 70, .inl (jA (mds)))), (g 7, .inl (cI, 200, .inl (jA (e0)))), (g 8, .inl (cI, 200, .inl (jA (e1))))] ++ wr) H := hP
        have hD : va_D A ([(g 0, .inr (3, [.ref (g 1), .ref (g 2), .ref (g 3), .ref (g 4), .int (iI (t0)), .int (iI (t1)), .int (iI (t2)), .int (iI (t3)), .int (iI (t4)), .int (iI (t5)), .int (iI (t6)), .int (iI (t7)), .int (iI (t8)), .int (iI (t9)), .int (iI (t10)), .ref (g 5), .ref (g 6), .int (iI (t11)), .ref (g 7), .ref (g 8), .ref (g 9), .ref (g 10), .ref (g 11), .ref (g 12), .int (iI (q0)), .int (iI (q1)), .int (iI (2))])), (g 1, .inl (cI, 5, .inl (jA (mn)))), (g 2, .inl (cI, 40, .inl (jA (mst)))), (g 3, .inl (cI, 40, .inl (jA (mva)))), (g 4, .inl (cI, 33, .inl (jA (msh)))), (g 5, .inl (cI, 70, .inl (jA (mfl)))), (g 6, .inl (cI, 70, .inl (jA (mds)))), (g 7, .inl (cI, 200, .inl (jA (e0)))), (g 8, .inl (cI, 200, .inl (jA (e1))))] ++ wr) := hD
        exact cut246 (q0) (q1) (2) (0) ls H locs (by omega) hP hD hS (lv_sub hl [2, 0] rfl)
  have cut161 : ∀ (q0 q1 : Int) (ls : Array Slot) (H : Heap) (locs : List Loc), va_P (dC, dI) vwCl ([(g 0, .inr (3, [.ref (g 1), .ref (g 2), .ref (g 3), .ref (g 4), .int (iI (t0)), .int (iI (t1)), .int (iI (t2)), .int (iI (t3)), .int (iI (t4)), .int (iI (t5)), .int (iI (t6)), .int (iI (t7)), .int (iI (t8)), .int (iI (t9)), .int (iI (t10)), .ref (g 5), .ref (g 6), .int (iI (t11)), .ref (g 7), .ref (g 8), .ref (g 9), .ref (g 10), .ref (g 11), .ref (g 12), .int (iI (q0)), .int (iI (q1)), .int (iI (0))])), (g 1, .inl (cI, 5, .inl (jA (mn)))), (g 2, .inl (cI, 40, .inl (jA (mst)))), (g 3, .inl (cI, 40, .inl (jA (mva)))), (g 4, .inl (cI, 33, .inl (jA (msh)))), (g 5, .inl (cI, 70, .inl (jA (mfl)))), (g 6, .inl (cI, 70, .inl (jA (mds)))), (g 7, .inl (cI, 200, .inl (jA (e0)))), (g 8, .inl (cI, 200, .inl (jA (e1))))] ++ wr) H → va_D A ([(g 0, .inr (3, [.ref (g 1), .ref (g 2), .ref (g 3), .ref (g 4), .int (iI (t0)), .int (iI (t1)), .int (iI (t2)), .int (iI (t3)), .int (iI (t4)), .int (iI (t5)), .int (iI (t6)), .int (iI (t7)), .int (iI (t8)), .int (iI (t9)), .int (iI (t10)), .ref (g 5), .ref (g 6), .int (iI (t11)), .ref (g 7), .ref (g 8), .ref (g 9), .ref (g 10), .ref (g 11), .ref (g 12), .int (iI (q0)), .int (iI (q1)), .int (iI (0))])), (g 1, .inl (cI, 5, .inl (jA (mn)))), (g 2, .inl (cI, 40, .inl (jA (mst)))), (g 3, .inl (cI, 40, .inl (jA (mva)))), (g 4, .inl (cI, 33, .inl (jA (msh)))), (g 5, .inl (cI, 70, .inl (jA (mfl)))), (g 6, .inl (cI, 70, .inl (jA (mds)))), (g 7, .inl (cI, 200, .inl (jA (e0)))), (g 8, .inl (cI, 200, .inl (jA (e1))))] ++ wr) → va_S A s.heap H locs → lv_has ls 6 [(0, .ref (g 0))] → W p l e ({ frames := 2, cells := 0, slots := 0, locals := 45 }) s m ([.ref (g 0), .int (iI (a))] : List Value).toArray below meth c H locs 0 0 (MQ below (kQi (dC, dI) vwCl A (fun (z : Int) (u : Int × Int × Int) => (-2147483648 ≤ z ∧ z ≤ 2147483647)) (fun (u : Int × Int × Int) => [(g 0, .inr (3, [.ref (g 1), .ref (g 2), .ref (g 3), .ref (g 4), .int (iI (t0)), .int (iI (t1)), .int (iI (t2)), .int (iI (t3)), .int (iI (t4)), .int (iI (t5)), .int (iI (t6)), .int (iI (t7)), .int (iI (t8)), .int (iI (t9)), .int (iI (t10)), .ref (g 5), .ref (g 6), .int (iI (t11)), .ref (g 7), .ref (g 8), .ref (g 9), .ref (g 10), .ref (g 11), .ref (g 12), .int (iI (u.1)), .int (iI (u.2.1)), .int (iI (u.2.2))])), (g 1, .inl (cI, 5, .inl (jA (mn)))), (g 2, .inl (cI, 40, .inl (jA (mst)))), (g 3, .inl (cI, 40, .inl (jA (mva)))), (g 4, .inl (cI, 33, .inl (jA (msh)))), (g 5, .inl (cI, 70, .inl (jA (mfl)))), (g 6, .inl (cI, 70, .inl (jA (mds)))), (g 7, .inl (cI, 200, .inl (jA (e0)))), (g 8, .inl (cI, 200, .inl (jA (e1))))] ++ wr)) ([.ref (g 0), .int (iI (a))] : List Value).toArray s 0 0 A) (F0 m 161 ls []) := by
    intro q0 q1 ls H locs  hP hD hS hl
    refine lv_aload_n hx hb dX3_wanted_161 rfl (lv_at hl 0 rfl) ?_
    refine va_get (D := (dC, dI)) (ci := 3) (C := RX3) (T := TX3) (N := 27) hx hb hts hiX3 hown hK hP 0 rfl rfl 24 (by decide) (hts (.fieldLink RX3 105 "PumpDeskModel" "meal" "I") (by decide +kernel)) (fun _ h9 => h9) rfl dX3_wanted_162 ?_
    refine lv_aload_n hx hb dX3_wanted_165 rfl (lv_at hl 0 rfl) ?_
    refine va_get (D := (dC, dI)) (ci := 3) (C := RX3) (T := TX3) (N := 27) hx hb hts hiX3 hown hK hP 0 rfl rfl 25 (by decide) (hts (.fieldLink RX3 108 "PumpDeskModel" "byReading" "I") (by decide +kernel)) (fun _ h9 => h9) rfl dX3_wanted_166 ?_
    refine jz_iadd hx hb dX3_wanted_169 ?_
    refine jz_nrm (fun z5 hz5 ez5 => ?_)
    refine lv_istore_n (lv' := [(3, .int (iI (z5))), (0, .ref (g 0))]) hx hb dX3_wanted_170 rfl hl (by decide) rfl (fun ls hl => ?_)
    refine lv_iload_n hx hb dX3_wanted_171 rfl (lv_at hl 0 rfl) ?_
    refine jz_if_ge (tgt := 179) hx hb dX3_wanted_172 (by decide) (by omega) (fun cd172 => ?_) (fun cd172 => ?_)
    · refine lv_iload_n hx hb dX3_wanted_179 rfl (lv_at hl 0 rfl) ?_
      refine lv_istore_n (lv' := [(3, .int (iI (z5))), (0, .ref (g 0))]) hx hb dX3_wanted_180 rfl hl (by decide) rfl (fun ls hl => ?_)
      refine lv_iload_n hx hb dX3_wanted_181 rfl (lv_at hl 0 rfl) ?_
      refine lv_aload_n hx hb dX3_wanted_182 rfl (lv_at hl 1 rfl) ?_
      refine va_get (D := (dC, dI)) (ci := 3) (C := RX3) (T := TX3) (N := 27) hx hb hts hiX3 hown hK hP 0 rfl rfl 4 (by decide) (hts (.fieldLink RX3 22 "PumpDeskModel" "mostDose" "I") (by decide +kernel)) (fun _ h9 => h9) rfl dX3_wanted_183 ?_
      refine jz_icmp_le (tgt := 199) hx hb dX3_wanted_186 (by decide) (by omega) (fun cd186 => ?_) (fun cd186 => ?_)
      · exact cut199 (q0) (q1) (0) (z5) ls H locs (by omega) hP hD hS (lv_sub hl [1, 0] rfl)
      · refine lv_aload_n hx hb dX3_wanted_189 rfl (lv_at hl 1 rfl) ?_
        refine va_get (D := (dC, dI)) (ci := 3) (C := RX3) (T := TX3) (N := 27) hx hb hts hiX3 hown hK hP 0 rfl rfl 4 (by decide) (hts (.fieldLink RX3 22 "PumpDeskModel" "mostDose" "I") (by decide +kernel)) (fun _ h9 => h9) rfl dX3_wanted_190 ?_
        refine lv_istore_n (lv' := [(3, .int (iI (t0))), (0, .ref (g 0))]) hx hb dX3_wanted_193 rfl hl (by decide) rfl (fun ls hl => ?_)
        refine lv_aload_n hx hb dX3_wanted_194 rfl (lv_at hl 1 rfl) ?_
        refine jz_iconst hx hb dX3_wanted_195 ?_
        refine va_put (D := (dC, dI)) (ci := 3) (v := .int (iI (1))) (ty := .int) (C := RX3) (T := TX3) (N := 27) hx hb hts hiX3 tyX3 tyX3_ok nmX3 hown hK hP hD hS 0 rfl rfl 26 (by decide) (hts (.fieldLink RX3 111 "PumpDeskModel" "why" "I") (by decide +kernel)) (fun _ h9 => h9) rfl (by decide +kernel) rfl rfl (Nat.le_of_ble_eq_true rfl) dX3_wanted_196 (fun H locs hP hD hS => ?_)
        have hP : va_P (dC, dI) vwCl ([(g 0, .inr (3, [.ref (g 1), .ref (g 2), .ref (g 3), .ref (g 4), .int (iI (t0)), .int (iI (t1)), .int (iI (t2)), .int (iI (t3)), .int (iI (t4)), .int (iI (t5)), .int (iI (t6)), .int (iI (t7)), .int (iI (t8)), .int (iI (t9)), .int (iI (t10)), .ref (g 5), .ref (g 6), .int (iI (t11)), .ref (g 7), .ref (g 8), .ref (g 9), .ref (g 10), .ref (g 11), .ref (g 12), .int (iI (q0)), .int (iI (q1)), .int (iI (1))])), (g 1, .inl (cI, 5, .inl (jA (mn)))), (g 2, .inl (cI, 40, .inl (jA (mst)))), (g 3, .inl (cI, 40, .inl (jA (mva)))), (g 4, .inl (cI, 33, .inl (jA (msh)))), (g 5, .inl (cI, 70, .inl (jA (mfl)))), (g 6, .inl (cI, 70, .inl (jA (mds)))), (g 7, .inl (cI, 200, .inl (jA (e0)))), (g 8, .inl (cI, 200, .inl (jA (e1))))] ++ wr) H := hP
        have hD : va_D A ([(g 0, .inr (3, [.ref (g 1), .ref (g 2), .ref (g 3), .ref (g 4), .int (iI (t0)), .int (iI (t1)), .int (iI (t2)), .int (iI (t3)), .int (iI (t4)), .int (iI (t5)), .int (iI (t6)), .int (iI (t7)), .int (iI (t8)), .int (iI (t9)), .int (iI (t10)), .ref (g 5), .ref (g 6), .int (iI (t11)), .ref (g 7), .ref (g 8), .ref (g 9), .ref (g 10), .ref (g 11), .ref (g 12), .int (iI (q0)), .int (iI (q1)), .int (iI (1))])), (g 1, .inl (cI, 5, .inl (jA (mn)))), (g 2, .inl (cI, 40, .inl (jA (mst)))), (g 3, .inl (cI, 40, .inl (jA (mva)))), (g 4, .inl (cI, 33, .inl (jA (msh)))), (g 5, .inl (cI, 70, .inl (jA (mfl)))), (g 6, .inl (cI, 70, .inl (jA (mds)))), (g 7, .inl (cI, 200, .inl (jA (e0)))), (g 8, .inl (cI, 200, .inl (jA (e1))))] ++ wr) := hD
        exact cut199 (q0) (q1) (1) (t0) ls H locs (by omega) hP hD hS (lv_sub hl [1, 0] rfl)
    · refine jz_iconst hx hb dX3_wanted_175 ?_
      refine lv_goto (tgt := 180) hx hb dX3_wanted_176 (by decide) ?_
      refine lv_istore_n (lv' := [(3, .int (iI (0))), (0, .ref (g 0))]) hx hb dX3_wanted_180 rfl hl (by decide) rfl (fun ls hl => ?_)
      refine lv_iload_n hx hb dX3_wanted_181 rfl (lv_at hl 0 rfl) ?_
      refine lv_aload_n hx hb dX3_wanted_182 rfl (lv_at hl 1 rfl) ?_
      refine va_get (D := (dC, dI)) (ci := 3) (C := RX3) (T := TX3) (N := 27) hx hb hts hiX3 hown hK hP 0 rfl rfl 4 (by decide) (hts (.fieldLink RX3 22 "PumpDeskModel" "mostDose" "I") (by decide +kernel)) (fun _ h9 => h9) rfl dX3_wanted_183 ?_
      refine jz_icmp_le (tgt := 199) hx hb dX3_wanted_186 (by decide) (by omega) (fun cd186 => ?_) (fun cd186 => ?_)
      · exact cut199 (q0) (q1) (0) (0) ls H locs (by omega) hP hD hS (lv_sub hl [1, 0] rfl)
      · refine lv_aload_n hx hb dX3_wanted_189 rfl (lv_at hl 1 rfl) ?_
        refine va_get (D := (dC, dI)) (ci := 3) (C := RX3) (T := TX3) (N := 27) hx hb hts hiX3 hown hK hP 0 rfl rfl 4 (by decide) (hts (.fieldLink RX3 22 "PumpDeskModel" "mostDose" "I") (by decide +kernel)) (fun _ h9 => h9) rfl dX3_wanted_190 ?_
        refine lv_istore_n (lv' := [(3, .int (iI (t0))), (0, .ref (g 0))]) hx hb dX3_wanted_193 rfl hl (by decide) rfl (fun ls hl => ?_)
        refine lv_aload_n hx hb dX3_wanted_194 rfl (lv_at hl 1 rfl) ?_
        refine jz_iconst hx hb dX3_wanted_195 ?_
        refine va_put (D := (dC, dI)) (ci := 3) (v := .int (iI (1))) (ty := .int) (C := RX3) (T := TX3) (N := 27) hx hb hts hiX3 tyX3 tyX3_ok nmX3 hown hK hP hD hS 0 rfl rfl 26 (by decide) (hts (.fieldLink RX3 111 "PumpDeskModel" "why" "I") (by decide +kernel)) (fun _ h9 => h9) rfl (by decide +kernel) rfl rfl (Nat.le_of_ble_eq_true rfl) dX3_wanted_196 (fun H locs hP hD hS => ?_)
        have hP : va_P (dC, dI) vwCl ([(g 0, .inr (3, [.ref (g 1), .ref (g 2), .ref (g 3), .ref (g 4), .int (iI (t0)), .int (iI (t1)), .int (iI (t2)), .int (iI (t3)), .int (iI (t4)), .int (iI (t5)), .int (iI (t6)), .int (iI (t7)), .int (iI (t8)), .int (iI (t9)), .int (iI (t10)), .ref (g 5), .ref (g 6), .int (iI (t11)), .ref (g 7), .ref (g 8), .ref (g 9), .ref (g 10), .ref (g 11), .ref (g 12), .int (iI (q0)), .int (iI (q1)), .int (iI (1))])), (g 1, .inl (cI, 5, .inl (jA (mn)))), (g 2, .inl (cI, 40, .inl (jA (mst)))), (g 3, .inl (cI, 40, .inl (jA (mva)))), (g 4, .inl (cI, 33, .inl (jA (msh)))), (g 5, .inl (cI, 70, .inl (jA (mfl)))), (g 6, .inl (cI, 70, .inl (jA (mds)))), (g 7, .inl (cI, 200, .inl (jA (e0)))), (g 8, .inl (cI, 200, .inl (jA (e1))))] ++ wr) H := hP
        have hD : va_D A ([(g 0, .inr (3, [.ref (g 1), .ref (g 2), .ref (g 3), .ref (g 4), .int (iI (t0)), .int (iI (t1)), .int (iI (t2)), .int (iI (t3)), .int (iI (t4)), .int (iI (t5)), .int (iI (t6)), .int (iI (t7)), .int (iI (t8)), .int (iI (t9)), .int (iI (t10)), .ref (g 5), .ref (g 6), .int (iI (t11)), .ref (g 7), .ref (g 8), .ref (g 9), .ref (g 10), .ref (g 11), .ref (g 12), .int (iI (q0)), .int (iI (q1)), .int (iI (1))])), (g 1, .inl (cI, 5, .inl (jA (mn)))), (g 2, .inl (cI, 40, .inl (jA (mst)))), (g 3, .inl (cI, 40, .inl (jA (mva)))), (g 4, .inl (cI, 33, .inl (jA (msh)))), (g 5, .inl (cI, 70, .inl (jA (mfl)))), (g 6, .inl (cI, 70, .inl (jA (mds)))), (g 7, .inl (cI, 200, .inl (jA (e0)))), (g 8, .inl (cI, 200, .inl (jA (e1))))] ++ wr) := hD
        exact cut199 (q0) (q1) (1) (t0) ls H locs (by omega) hP hD hS (lv_sub hl [1, 0] rfl)
  refine lv_aload_n hx hb dX3_wanted_0 rfl (lv_at hl 0 rfl) ?_
  refine va_get (D := (dC, dI)) (ci := 3) (C := RX3) (T := TX3) (N := 27) hx hb hts hiX3 hown hK hP 0 rfl rfl 8 (by decide) (hts (.fieldLink RX3 66 "PumpDeskModel" "now" "I") (by decide +kernel)) (fun _ h9 => h9) rfl dX3_wanted_1 ?_
  refine jz_sipush hx hb dX3_wanted_4 rfl ?_
  refine jz_irem hx hb dX3_wanted_7 (by omega) ?_
  refine lv_istore_n (lv' := [(2, .int (iI ((t4 % 1440)))), (0, .ref (g 0)), (1, .int (iI (a)))]) hx hb dX3_wanted_8 rfl hl (by decide) rfl (fun ls hl => ?_)
  refine lv_aload_n hx hb dX3_wanted_9 rfl (lv_at hl 1 rfl) ?_
  refine lv_iload_n hx hb dX3_wanted_10 rfl (lv_at hl 2 rfl) ?_
  refine jz_sipush hx hb dX3_wanted_11 rfl ?_
  refine jz_imul hx hb dX3_wanted_14 ?_
  refine jz_nrm (fun z6 hz6 ez6 => ?_)
  refine lv_aload_n hx hb dX3_wanted_15 rfl (lv_at hl 1 rfl) ?_
  refine jz_iconst hx hb dX3_wanted_16 ?_
  refine lv_iload_n hx hb dX3_wanted_17 rfl (lv_at hl 0 rfl) ?_
  refine kr_i (va_runV (As := [.int (iI (0)), .int (iI ((t4 % 1440)))]) (rest := [.int (iI (z6)), .ref (g 0)]) ⟨hx, hb, hml, hown, hts⟩ (c_X3_value l dC dI cI cQ cR g (t0) (t1) (t2) (t3) (t4) (t5) (t6) (t7) (t8) (t9) (t10) (t11) (t12) (t13) (t14) mn mst mva (0) ((t4 % 1440)) (by omega) (by omega) hmn hst) (cwV 2 hts gX3_wanted_X3_value rfl rfl rfl (by decide +kernel) ⟨Nat.le_of_ble_eq_true rfl, Nat.le_of_ble_eq_true rfl⟩) (kR_V hK hN (hP.sub (ws' := [(g 0, .inr (3, [.ref (g 1), .ref (g 2), .ref (g 3), .ref (g 4), .int (iI (t0)), .int (iI (t1)), .int (iI (t2)), .int (iI (t3)), .int (iI (t4)), .int (iI (t5)), .int (iI (t6)), .int (iI (t7)), .int (iI (t8)), .int (iI (t9)), .int (iI (t10)), .ref (g 5), .ref (g 6), .int (iI (t11)), .ref (g 7), .ref (g 8), .ref (g 9), .ref (g 10), .ref (g 11), .ref (g 12), .int (iI (t12)), .int (iI (t13)), .int (iI (t14))])), (g 1, .inl (cI, 5, .inl (jA (mn)))), (g 2, .inl (cI, 40, .inl (jA (mst)))), (g 3, .inl (cI, 40, .inl (jA (mva))))]) [0, 1, 2, 3] rfl) hK hP (q0 := 0) rfl rfl) rfl rfl hl.1 rfl (lv_room (Nat.le_of_ble_eq_true rfl)) dX3_wanted_18 ⟨Nat.le_of_ble_eq_true rfl, Nat.le_of_ble_eq_true rfl⟩) (fun z7 hz7 => ?_)
  have pz7 : 1 ≤ z7 ∧ z7 ≤ 1000 := by
    rcases hz7 with q | ⟨q, q2 | ⟨b, b1, b2, b3, b4⟩⟩
    · omega
    · omega
    · have := hva 0 b (by omega) (by omega) b1 b2; omega
  clear hz7
  refine jz_sidiv hx hb dX3_wanted_21 (by omega) ?_
  refine jz_nrm (fun z8 hz8 ez8 => ?_)
  refine va_put (D := (dC, dI)) (ci := 3) (v := .int (iI (z8))) (ty := .int) (C := RX3) (T := TX3) (N := 27) hx hb hts hiX3 tyX3 tyX3_ok nmX3 hown hK hP hD hS 0 rfl rfl 24 (by decide) (hts (.fieldLink RX3 105 "PumpDeskModel" "meal" "I") (by decide +kernel)) (fun _ h9 => h9) rfl (by decide +kernel) rfl rfl (Nat.le_of_ble_eq_true rfl) dX3_wanted_22 (fun H locs hP hD hS => ?_)
  have hP : va_P (dC, dI) vwCl ([(g 0, .inr (3, [.ref (g 1), .ref (g 2), .ref (g 3), .ref (g 4), .int (iI (t0)), .int (iI (t1)), .int (iI (t2)), .int (iI (t3)), .int (iI (t4)), .int (iI (t5)), .int (iI (t6)), .int (iI (t7)), .int (iI (t8)), .int (iI (t9)), .int (iI (t10)), .ref (g 5), .ref (g 6), .int (iI (t11)), .ref (g 7), .ref (g 8), .ref (g 9), .ref (g 10), .ref (g 11), .ref (g 12), .int (iI (z8)), .int (iI (t13)), .int (iI (t14))])), (g 1, .inl (cI, 5, .inl (jA (mn)))), (g 2, .inl (cI, 40, .inl (jA (mst)))), (g 3, .inl (cI, 40, .inl (jA (mva)))), (g 4, .inl (cI, 33, .inl (jA (msh)))), (g 5, .inl (cI, 70, .inl (jA (mfl)))), (g 6, .inl (cI, 70, .inl (jA (mds)))), (g 7, .inl (cI, 200, .inl (jA (e0)))), (g 8, .inl (cI, 200, .inl (jA (e1))))] ++ wr) H := hP
  have hD : va_D A ([(g 0, .inr (3, [.ref (g 1), .ref (g 2), .ref (g 3), .ref (g 4), .int (iI (t0)), .int (iI (t1)), .int (iI (t2)), .int (iI (t3)), .int (iI (t4)), .int (iI (t5)), .int (iI (t6)), .int (iI (t7)), .int (iI (t8)), .int (iI (t9)), .int (iI (t10)), .ref (g 5), .ref (g 6), .int (iI (t11)), .ref (g 7), .ref (g 8), .ref (g 9), .ref (g 10), .ref (g 11), .ref (g 12), .int (iI (z8)), .int (iI (t13)), .int (iI (t14))])), (g 1, .inl (cI, 5, .inl (jA (mn)))), (g 2, .inl (cI, 40, .inl (jA (mst)))), (g 3, .inl (cI, 40, .inl (jA (mva)))), (g 4, .inl (cI, 33, .inl (jA (msh)))), (g 5, .inl (cI, 70, .inl (jA (mfl)))), (g 6, .inl (cI, 70, .inl (jA (mds)))), (g 7, .inl (cI, 200, .inl (jA (e0)))), (g 8, .inl (cI, 200, .inl (jA (e1))))] ++ wr) := hD
  refine lv_aload_n hx hb dX3_wanted_25 rfl (lv_at hl 1 rfl) ?_
  refine jz_iconst hx hb dX3_wanted_26 ?_
  refine va_put (D := (dC, dI)) (ci := 3) (v := .int (iI (0))) (ty := .int) (C := RX3) (T := TX3) (N := 27) hx hb hts hiX3 tyX3 tyX3_ok nmX3 hown hK hP hD hS 0 rfl rfl 25 (by decide) (hts (.fieldLink RX3 108 "PumpDeskModel" "byReading" "I") (by decide +kernel)) (fun _ h9 => h9) rfl (by decide +kernel) rfl rfl (Nat.le_of_ble_eq_true rfl) dX3_wanted_27 (fun H locs hP hD hS => ?_)
  have hP : va_P (dC, dI) vwCl ([(g 0, .inr (3, [.ref (g 1), .ref (g 2), .ref (g 3), .ref (g 4), .int (iI (t0)), .int (iI (t1)), .int (iI (t2)), .int (iI (t3)), .int (iI (t4)), .int (iI (t5)), .int (iI (t6)), .int (iI (t7)), .int (iI (t8)), .int (iI (t9)), .int (iI (t10)), .ref (g 5), .ref (g 6), .int (iI (t11)), .ref (g 7), .ref (g 8), .ref (g 9), .ref (g 10), .ref (g 11), .ref (g 12), .int (iI (z8)), .int (iI (0)), .int (iI (t14))])), (g 1, .inl (cI, 5, .inl (jA (mn)))), (g 2, .inl (cI, 40, .inl (jA (mst)))), (g 3, .inl (cI, 40, .inl (jA (mva)))), (g 4, .inl (cI, 33, .inl (jA (msh)))), (g 5, .inl (cI, 70, .inl (jA (mfl)))), (g 6, .inl (cI, 70, .inl (jA (mds)))), (g 7, .inl (cI, 200, .inl (jA (e0)))), (g 8, .inl (cI, 200, .inl (jA (e1))))] ++ wr) H := hP
  have hD : va_D A ([(g 0, .inr (3, [.ref (g 1), .ref (g 2), .ref (g 3), .ref (g 4), .int (iI (t0)), .int (iI (t1)), .int (iI (t2)), .int (iI (t3)), .int (iI (t4)), .int (iI (t5)), .int (iI (t6)), .int (iI (t7)), .int (iI (t8)), .int (iI (t9)), .int (iI (t10)), .ref (g 5), .ref (g 6), .int (iI (t11)), .ref (g 7), .ref (g 8), .ref (g 9), .ref (g 10), .ref (g 11), .ref (g 12), .int (iI (z8)), .int (iI (0)), .int (iI (t14))])), (g 1, .inl (cI, 5, .inl (jA (mn)))), (g 2, .inl (cI, 40, .inl (jA (mst)))), (g 3, .inl (cI, 40, .inl (jA (mva)))), (g 4, .inl (cI, 33, .inl (jA (msh)))), (g 5, .inl (cI, 70, .inl (jA (mfl)))), (g 6, .inl (cI, 70, .inl (jA (mds)))), (g 7, .inl (cI, 200, .inl (jA (e0)))), (g 8, .inl (cI, 200, .inl (jA (e1))))] ++ wr) := hD
  refine lv_aload_n hx hb dX3_wanted_30 rfl (lv_at hl 1 rfl) ?_
  refine jz_iconst hx hb dX3_wanted_31 ?_
  refine va_put (D := (dC, dI)) (ci := 3) (v := .int (iI (0))) (ty := .int) (C := RX3) (T := TX3) (N := 27) hx hb hts hiX3 tyX3 tyX3_ok nmX3 hown hK hP hD hS 0 rfl rfl 26 (by decide) (hts (.fieldLink RX3 111 "PumpDeskModel" "why" "I") (by decide +kernel)) (fun _ h9 => h9) rfl (by decide +kernel) rfl rfl (Nat.le_of_ble_eq_true rfl) dX3_wanted_32 (fun H locs hP hD hS => ?_)
  have hP : va_P (dC, dI) vwCl ([(g 0, .inr (3, [.ref (g 1), .ref (g 2), .ref (g 3), .ref (g 4), .int (iI (t0)), .int (iI (t1)), .int (iI (t2)), .int (iI (t3)), .int (iI (t4)), .int (iI (t5)), .int (iI (t6)), .int (iI (t7)), .int (iI (t8)), .int (iI (t9)), .int (iI (t10)), .ref (g 5), .ref (g 6), .int (iI (t11)), .ref (g 7), .ref (g 8), .ref (g 9), .ref (g 10), .ref (g 11), .ref (g 12), .int (iI (z8)), .int (iI (0)), .int (iI (0))])), (g 1, .inl (cI, 5, .inl (jA (mn)))), (g 2, .inl (cI, 40, .inl (jA (mst)))), (g 3, .inl (cI, 40, .inl (jA (mva)))), (g 4, .inl (cI, 33, .inl (jA (msh)))), (g 5, .inl (cI, 70, .inl (jA (mfl)))), (g 6, .inl (cI, 70, .inl (jA (mds)))), (g 7, .inl (cI, 200, .inl (jA (e0)))), (g 8, .inl (cI, 200, .inl (jA (e1))))] ++ wr) H := hP
  have hD : va_D A ([(g 0, .inr (3, [.ref (g 1), .ref (g 2), .ref (g 3), .ref (g 4), .int (iI (t0)), .int (iI (t1)), .int (iI (t2)), .int (iI (t3)), .int (iI (t4)), .int (iI (t5)), .int (iI (t6)), .int (iI (t7)), .int (iI (t8)), .int (iI (t9)), .int (iI (t10)), .ref (g 5), .ref (g 6), .int (iI (t11)), .ref (g 7), .ref (g 8), .ref (g 9), .ref (g 10), .ref (g 11), .ref (g 12), .int (iI (z8)), .int (iI (0)), .int (iI (0))])), (g 1, .inl (cI, 5, .inl (jA (mn)))), (g 2, .inl (cI, 40, .inl (jA (mst)))), (g 3, .inl (cI, 40, .inl (jA (mva)))), (g 4, .inl (cI, 33, .inl (jA (msh)))), (g 5, .inl (cI, 70, .inl (jA (mfl)))), (g 6, .inl (cI, 70, .inl (jA (mds)))), (g 7, .inl (cI, 200, .inl (jA (e0)))), (g 8, .inl (cI, 200, .inl (jA (e1))))] ++ wr) := hD
  refine lv_aload_n hx hb dX3_wanted_35 rfl (lv_at hl 1 rfl) ?_
  refine va_get (D := (dC, dI)) (ci := 3) (C := RX3) (T := TX3) (N := 27) hx hb hts hiX3 hown hK hP 0 rfl rfl 12 (by decide) (hts (.fieldLink RX3 93 "PumpDeskModel" "hasReading" "Z") (by decide +kernel)) (fun _ h9 => h9) rfl dX3_wanted_36 ?_
  refine jz_if_eq (tgt := 161) hx hb dX3_wanted_39 (by decide) (by omega) (fun cd39 => ?_) (fun cd39 => ?_)
  · exact cut161 (z8) (0) ls H locs  hP hD hS (lv_sub hl [1] rfl)
  · refine lv_aload_n hx hb dX3_wanted_42 rfl (lv_at hl 1 rfl) ?_
    refine va_get (D := (dC, dI)) (ci := 3) (C := RX3) (T := TX3) (N := 27) hx hb hts hiX3 hown hK hP 0 rfl rfl 8 (by decide) (hts (.fieldLink RX3 66 "PumpDeskModel" "now" "I") (by decide +kernel)) (fun _ h9 => h9) rfl dX3_wanted_43 ?_
    refine lv_aload_n hx hb dX3_wanted_46 rfl (lv_at hl 1 rfl) ?_
    refine va_get (D := (dC, dI)) (ci := 3) (C := RX3) (T := TX3) (N := 27) hx hb hts hiX3 hown hK hP 0 rfl rfl 14 (by decide) (hts (.fieldLink RX3 99 "PumpDeskModel" "lastMinute" "I") (by decide +kernel)) (fun _ h9 => h9) rfl dX3_wanted_47 ?_
    refine jz_isub hx hb dX3_wanted_50 ?_
    refine jz_bipush hx hb dX3_wanted_51 rfl ?_
    refine jz_icmp_gt (tgt := 161) hx hb dX3_wanted_53 (by decide) (by omega) (fun cd53 => ?_) (fun cd53 => ?_)
    · exact cut161 (z8) (0) ls H locs  hP hD hS (lv_sub hl [1] rfl)
    · refine lv_aload_n hx hb dX3_wanted_56 rfl (lv_at hl 1 rfl) ?_
      refine jz_iconst hx hb dX3_wanted_57 ?_
      refine lv_iload_n hx hb dX3_wanted_58 rfl (lv_at hl 0 rfl) ?_
      refine kr_i (va_runV (As := [.int (iI (1)), .int (iI ((t4 % 1440)))]) (rest := []) ⟨hx, hb, hml, hown, hts⟩ (c_X3_value l dC dI cI cQ cR g (t0) (t1) (t2) (t3) (t4) (t5) (t6) (t7) (t8) (t9) (t10) (t11) (z8) (0) (0) mn mst mva (1) ((t4 % 1440)) (by omega) (by omega) hmn hst) (cwV 2 hts gX3_wanted_X3_value rfl rfl rfl (by decide +kernel) ⟨Nat.le_of_ble_eq_true rfl, Nat.le_of_ble_eq_true rfl⟩) (kR_V hK hN (hP.sub (ws' := [(g 0, .inr (3, [.ref (g 1), .ref (g 2), .ref (g 3), .ref (g 4), .int (iI (t0)), .int (iI (t1)), .int (iI (t2)), .int (iI (t3)), .int (iI (t4)), .int (iI (t5)), .int (iI (t6)), .int (iI (t7)), .int (iI (t8)), .int (iI (t9)), .int (iI (t10)), .ref (g 5), .ref (g 6), .int (iI (t11)), .ref (g 7), .ref (g 8), .ref (g 9), .ref (g 10), .ref (g 11), .ref (g 12), .int (iI (z8)), .int (iI (0)), .int (iI (0))])), (g 1, .inl (cI, 5, .inl (jA (mn)))), (g 2, .inl (cI, 40, .inl (jA (mst)))), (g 3, .inl (cI, 40, .inl (jA (mva))))]) [0, 1, 2, 3] rfl) hK hP (q0 := 0) rfl rfl) rfl rfl hl.1 rfl (lv_room (Nat.le_of_ble_eq_true rfl)) dX3_wanted_59 ⟨Nat.le_of_ble_eq_true rfl, Nat.le_of_ble_eq_true rfl⟩) (fun z9 hz9 => ?_)
      have pz9 : 1 ≤ z9 ∧ z9 ≤ 1000 := by
        rcases hz9 with q | ⟨q, q2 | ⟨b, b1, b2, b3, b4⟩⟩
        · omega
        · omega
        · have := hva 1 b (by omega) (by omega) b1 b2; omega
      clear hz9
      refine lv_istore_n (lv' := [(3, .int (iI (z9))), (2, .int (iI ((t4 % 1440)))), (0, .ref (g 0)), (1, .int (iI (a)))]) hx hb dX3_wanted_62 rfl hl (by decide) rfl (fun ls hl => ?_)
      refine lv_aload_n hx hb dX3_wanted_63 rfl (lv_at hl 2 rfl) ?_
      refine va_get (D := (dC, dI)) (ci := 3) (C := RX3) (T := TX3) (N := 27) hx hb hts hiX3 hown hK hP 0 rfl rfl 13 (by decide) (hts (.fieldLink RX3 96 "PumpDeskModel" "lastValue" "I") (by decide +kernel)) (fun _ h9 => h9) rfl dX3_wanted_64 ?_
      refine lv_aload_n hx hb dX3_wanted_67 rfl (lv_at hl 2 rfl) ?_
      refine jz_iconst hx hb dX3_wanted_68 ?_
      refine lv_iload_n hx hb dX3_wanted_69 rfl (lv_at hl 1 rfl) ?_
      refine kr_i (va_runV (As := [.int (iI (3)), .int (iI ((t4 % 1440)))]) (rest := [.int (iI (t9))]) ⟨hx, hb, hml, hown, hts⟩ (c_X3_value l dC dI cI cQ cR g (t0) (t1) (t2) (t3) (t4) (t5) (t6) (t7) (t8) (t9) (t10) (t11) (z8) (0) (0) mn mst mva (3) ((t4 % 1440)) (by omega) (by omega) hmn hst) (cwV 2 hts gX3_wanted_X3_value rfl rfl rfl (by decide +kernel) ⟨Nat.le_of_ble_eq_true rfl, Nat.le_of_ble_eq_true rfl⟩) (kR_V hK hN (hP.sub (ws' := [(g 0, .inr (3, [.ref (g 1), .ref (g 2), .ref (g 3), .ref (g 4), .int (iI (t0)), .int (iI (t1)), .int (iI (t2)), .int (iI (t3)), .int (iI (t4)), .int (iI (t5)), .int (iI (t6)), .int (iI (t7)), .int (iI (t8)), .int (iI (t9)), .int (iI (t10)), .ref (g 5), .ref (g 6), .int (iI (t11)), .ref (g 7), .ref (g 8), .ref (g 9), .ref (g 10), .ref (g 11), .ref (g 12), .int (iI (z8)), .int (iI (0)), .int (iI (0))])), (g 1, .inl (cI, 5, .inl (jA (mn)))), (g 2, .inl (cI, 40, .inl (jA (mst)))), (g 3, .inl (cI, 40, .inl (jA (mva))))]) [0, 1, 2, 3] rfl) hK hP (q0 := 0) rfl rfl) rfl rfl hl.1 rfl (lv_room (Nat.le_of_ble_eq_true rfl)) dX3_wanted_70 ⟨Nat.le_of_ble_eq_true rfl, Nat.le_of_ble_eq_true rfl⟩) (fun z10 hz10 => ?_)
      have pz10 : 1 ≤ z10 ∧ z10 ≤ 1000 := by
        rcases hz10 with q | ⟨q, q2 | ⟨b, b1, b2, b3, b4⟩⟩
        · omega
        · omega
        · have := hva 3 b (by omega) (by omega) b1 b2; omega
      clear hz10
      refine jz_icmp_le (tgt := 122) hx hb dX3_wanted_73 (by decide) (by omega) (fun cd73 => ?_) (fun cd73 => ?_)
      · refine lv_aload_n hx hb dX3_wanted_122 rfl (lv_at hl 2 rfl) ?_
        refine va_get (D := (dC, dI)) (ci := 3) (C := RX3) (T := TX3) (N := 27) hx hb hts hiX3 hown hK hP 0 rfl rfl 13 (by decide) (hts (.fieldLink RX3 96 "PumpDeskModel" "lastValue" "I") (by decide +kernel)) (fun _ h9 => h9) rfl dX3_wanted_123 ?_
        refine lv_aload_n hx hb dX3_wanted_126 rfl (lv_at hl 2 rfl) ?_
        refine jz_iconst hx hb dX3_wanted_127 ?_
        refine lv_iload_n hx hb dX3_wanted_128 rfl (lv_at hl 1 rfl) ?_
        refine kr_i (va_runV (As := [.int (iI (2)), .int (iI ((t4 % 1440)))]) (rest := [.int (iI (t9))]) ⟨hx, hb, hml, hown, hts⟩ (c_X3_value l dC dI cI cQ cR g (t0) (t1) (t2) (t3) (t4) (t5) (t6) (t7) (t8) (t9) (t10) (t11) (z8) (0) (0) mn mst mva (2) ((t4 % 1440)) (by omega) (by omega) hmn hst) (cwV 2 hts gX3_wanted_X3_value rfl rfl rfl (by decide +kernel) ⟨Nat.le_of_ble_eq_true rfl, Nat.le_of_ble_eq_true rfl⟩) (kR_V hK hN (hP.sub (ws' := [(g 0, .inr (3, [.ref (g 1), .ref (g 2), .ref (g 3), .ref (g 4), .int (iI (t0)), .int (iI (t1)), .int (iI (t2)), .int (iI (t3)), .int (iI (t4)), .int (iI (t5)), .int (iI (t6)), .int (iI (t7)), .int (iI (t8)), .int (iI (t9)), .int (iI (t10)), .ref (g 5), .ref (g 6), .int (iI (t11)), .ref (g 7), .ref (g 8), .ref (g 9), .ref (g 10), .ref (g 11), .ref (g 12), .int (iI (z8)), .int (iI (0)), .int (iI (0))])), (g 1, .inl (cI, 5, .inl (jA (mn)))), (g 2, .inl (cI, 40, .inl (jA (mst)))), (g 3, .inl (cI, 40, .inl (jA (mva))))]) [0, 1, 2, 3] rfl) hK hP (q0 := 0) rfl rfl) rfl rfl hl.1 rfl (lv_room (Nat.le_of_ble_eq_true rfl)) dX3_wanted_129 ⟨Nat.le_of_ble_eq_true rfl, Nat.le_of_ble_eq_true rfl⟩) (fun z11 hz11 => ?_)
        have pz11 : 1 ≤ z11 ∧ z11 ≤ 1000 := by
          rcases hz11 with q | ⟨q, q2 | ⟨b, b1, b2, b3, b4⟩⟩
          · omega
          · omega
          · have := hva 2 b (by omega) (by omega) b1 b2; omega
        clear hz11
        refine jz_icmp_ge (tgt := 161) hx hb dX3_wanted_132 (by decide) (by omega) (fun cd132 => ?_) (fun cd132 => ?_)
        · exact cut161 (z8) (0) ls H locs  hP hD hS (lv_sub hl [2] rfl)
        · refine lv_aload_n hx hb dX3_wanted_135 rfl (lv_at hl 2 rfl) ?_
          refine lv_aload_n hx hb dX3_wanted_136 rfl (lv_at hl 2 rfl) ?_
          refine jz_iconst hx hb dX3_wanted_137 ?_
          refine lv_iload_n hx hb dX3_wanted_138 rfl (lv_at hl 1 rfl) ?_
          refine kr_i (va_runV (As := [.int (iI (2)), .int (iI ((t4 % 1440)))]) (rest := [.ref (g 0)]) ⟨hx, hb, hml, hown, hts⟩ (c_X3_value l dC dI cI cQ cR g (t0) (t1) (t2) (t3) (t4) (t5) (t6) (t7) (t8) (t9) (t10) (t11) (z8) (0) (0) mn mst mva (2) ((t4 % 1440)) (by omega) (by omega) hmn hst) (cwV 2 hts gX3_wanted_X3_value rfl rfl rfl (by decide +kernel) ⟨Nat.le_of_ble_eq_true rfl, Nat.le_of_ble_eq_true rfl⟩) (kR_V hK hN (hP.sub (ws' := [(g 0, .inr (3, [.ref (g 1), .ref (g 2), .ref (g 3), .ref (g 4), .int (iI (t0)), .int (iI (t1)), .int (iI (t2)), .int (iI (t3)), .int (iI (t4)), .int (iI (t5)), .int (iI (t6)), .int (iI (t7)), .int (iI (t8)), .int (iI (t9)), .int (iI (t10)), .ref (g 5), .ref (g 6), .int (iI (t11)), .ref (g 7), .ref (g 8), .ref (g 9), .ref (g 10), .ref (g 11), .ref (g 12), .int (iI (z8)), .int (iI (0)), .int (iI (0))])), (g 1, .inl (cI, 5, .inl (jA (mn)))), (g 2, .inl (cI, 40, .inl (jA (mst)))), (g 3, .inl (cI, 40, .inl (jA (mva))))]) [0, 1, 2, 3] rfl) hK hP (q0 := 0) rfl rfl) rfl rfl hl.1 rfl (lv_room (Nat.le_of_ble_eq_true rfl)) dX3_wanted_139 ⟨Nat.le_of_ble_eq_true rfl, Nat.le_of_ble_eq_true rfl⟩) (fun z12 hz12 => ?_)
          have pz12 : 1 ≤ z12 ∧ z12 ≤ 1000 := by
            rcases hz12 with q | ⟨q, q2 | ⟨b, b1, b2, b3, b4⟩⟩
            · omega
            · omega
            · have := hva 2 b (by omega) (by omega) b1 b2; omega
          clear hz12
          refine lv_aload_n hx hb dX3_wanted_142 rfl (lv_at hl 2 rfl) ?_
          refine va_get (D := (dC, dI)) (ci := 3) (C := RX3) (T := TX3) (N := 27) hx hb hts hiX3 hown hK hP 0 rfl rfl 13 (by decide) (hts (.fieldLink RX3 96 "PumpDeskModel" "lastValue" "I") (by decide +kernel)) (fun _ h9 => h9) rfl dX3_wanted_143 ?_
          refine jz_isub hx hb dX3_wanted_146 ?_
          refine jz_nrm (fun z13 hz13 ez13 => ?_)
          refine jz_sipush hx hb dX3_wanted_147 rfl ?_
          refine jz_imul hx hb dX3_wanted_150 ?_
          refine jz_nrm (fun z14 hz14 ez14 => ?_)
          refine lv_iload_n hx hb dX3_wanted_151 rfl (lv_at hl 0 rfl) ?_
          refine jz_iadd hx hb dX3_wanted_152 ?_
          refine jz_nrm (fun z15 hz15 ez15 => ?_)
          refine jz_iconst hx hb dX3_wanted_153 ?_
          refine jz_isub hx hb dX3_wanted_154 ?_
          refine jz_nrm (fun z16 hz16 ez16 => ?_)
          refine lv_iload_n hx hb dX3_wanted_155 rfl (lv_at hl 0 rfl) ?_
          refine jz_sidiv hx hb dX3_wanted_156 (by omega) ?_
          refine jz_nrm (fun z17 hz17 ez17 => ?_)
          refine jz_ineg hx hb dX3_wanted_157 ?_
          refine jz_nrm (fun z18 hz18 ez18 => ?_)
          refine va_put (D := (dC, dI)) (ci := 3) (v := .int (iI (z18))) (ty := .int) (C := RX3) (T := TX3) (N := 27) hx hb hts hiX3 tyX3 tyX3_ok nmX3 hown hK hP hD hS 0 rfl rfl 25 (by decide) (hts (.fieldLink RX3 108 "PumpDeskModel" "byReading" "I") (by decide +kernel)) (fun _ h9 => h9) rfl (by decide +kernel) rfl rfl (Nat.le_of_ble_eq_true rfl) dX3_wanted_158 (fun H locs hP hD hS => ?_)
          have hP : va_P (dC, dI) vwCl ([(g 0, .inr (3, [.ref (g 1), .ref (g 2), .ref (g 3), .ref (g 4), .int (iI (t0)), .int (iI (t1)), .int (iI (t2)), .int (iI (t3)), .int (iI (t4)), .int (iI (t5)), .int (iI (t6)), .int (iI (t7)), .int (iI (t8)), .int (iI (t9)), .int (iI (t10)), .ref (g 5), .ref (g 6), .int (iI (t11)), .ref (g 7), .ref (g 8), .ref (g 9), .ref (g 10), .ref (g 11), .ref (g 12), .int (iI (z8)), .int (iI (z18)), .int (iI (0))])), (g 1, .inl (cI, 5, .inl (jA (mn)))), (g 2, .inl (cI, 40, .inl (jA (mst)))), (g 3, .inl (cI, 40, .inl (jA (mva)))), (g 4, .inl (cI, 33, .inl (jA (msh)))), (g 5, .inl (cI, 70, .inl (jA (mfl)))), (g 6, .inl (cI, 70, .inl (jA (mds)))), (g 7, .inl (cI, 200, .inl (jA (e0)))), (g 8, .inl (cI, 200, .inl (jA (e1))))] ++ wr) H := hP
          have hD : va_D A ([(g 0, .inr (3, [.ref (g 1), .ref (g 2), .ref (g 3), .ref (g 4), .int (iI (t0)), .int (iI (t1)), .int (iI (t2)), .int (iI (t3)), .int (iI (t4)), .int (iI (t5)), .int (iI (t6)), .int (iI (t7)), .int (iI (t8)), .int (iI (t9)), .int (iI (t10)), .ref (g 5), .ref (g 6), .int (iI (t11)), .ref (g 7), .ref (g 8), .ref (g 9), .ref (g 10), .ref (g 11), .ref (g 12), .int (iI (z8)), .int (iI (z18)), .int (iI (0))])), (g 1, .inl (cI, 5, .inl (jA (mn)))), (g 2, .inl (cI, 40, .inl (jA (mst)))), (g 3, .inl (cI, 40, .inl (jA (mva)))), (g 4, .inl (cI, 33, .inl (jA (msh)))), (g 5, .inl (cI, 70, .inl (jA (mfl)))), (g 6, .inl (cI, 70, .inl (jA (mds)))), (g 7, .inl (cI, 200, .inl (jA (e0)))), (g 8, .inl (cI, 200, .inl (jA (e1))))] ++ wr) := hD
          exact cut161 (z8) (z18) ls H locs  hP hD hS (lv_sub hl [2] rfl)
      · refine lv_aload_n hx hb dX3_wanted_76 rfl (lv_at hl 2 rfl) ?_
        refine va_get (D := (dC, dI)) (ci := 3) (C := RX3) (T := TX3) (N := 27) hx hb hts hiX3 hown hK hP 0 rfl rfl 13 (by decide) (hts (.fieldLink RX3 96 "PumpDeskModel" "lastValue" "I") (by decide +kernel)) (fun _ h9 => h9) rfl dX3_wanted_77 ?_
        refine lv_aload_n hx hb dX3_wanted_80 rfl (lv_at hl 2 rfl) ?_
        refine jz_iconst hx hb dX3_wanted_81 ?_
        refine lv_iload_n hx hb dX3_wanted_82 rfl (lv_at hl 1 rfl) ?_
        refine kr_i (va_runV (As := [.int (iI (3)), .int (iI ((t4 % 1440)))]) (rest := [.int (iI (t9))]) ⟨hx, hb, hml, hown, hts⟩ (c_X3_value l dC dI cI cQ cR g (t0) (t1) (t2) (t3) (t4) (t5) (t6) (t7) (t8) (t9) (t10) (t11) (z8) (0) (0) mn mst mva (3) ((t4 % 1440)) (by omega) (by omega) hmn hst) (cwV 2 hts gX3_wanted_X3_value rfl rfl rfl (by decide +kernel) ⟨Nat.le_of_ble_eq_true rfl, Nat.le_of_ble_eq_true rfl⟩) (kR_V hK hN (hP.sub (ws' := [(g 0, .inr (3, [.ref (g 1), .ref (g 2), .ref (g 3), .ref (g 4), .int (iI (t0)), .int (iI (t1)), .int (iI (t2)), .int (iI (t3)), .int (iI (t4)), .int (iI (t5)), .int (iI (t6)), .int (iI (t7)), .int (iI (t8)), .int (iI (t9)), .int (iI (t10)), .ref (g 5), .ref (g 6), .int (iI (t11)), .ref (g 7), .ref (g 8), .ref (g 9), .ref (g 10), .ref (g 11), .ref (g 12), .int (iI (z8)), .int (iI (0)), .int (iI (0))])), (g 1, .inl (cI, 5, .inl (jA (mn)))), (g 2, .inl (cI, 40, .inl (jA (mst)))), (g 3, .inl (cI, 40, .inl (jA (mva))))]) [0, 1, 2, 3] rfl) hK hP (q0 := 0) rfl rfl) rfl rfl hl.1 rfl (lv_room (Nat.le_of_ble_eq_true rfl)) dX3_wanted_83 ⟨Nat.le_of_ble_eq_true rfl, Nat.le_of_ble_eq_true rfl⟩) (fun z19 hz19 => ?_)
        have pz19 : 1 ≤ z19 ∧ z19 ≤ 1000 := by
          rcases hz19 with q | ⟨q, q2 | ⟨b, b1, b2, b3, b4⟩⟩
          · omega
          · omega
          · have := hva 3 b (by omega) (by omega) b1 b2; omega
        clear hz19
        refine jz_isub hx hb dX3_wanted_86 ?_
        refine jz_nrm (fun z20 hz20 ez20 => ?_)
        refine jz_sipush hx hb dX3_wanted_87 rfl ?_
        refine jz_imul hx hb dX3_wanted_90 ?_
        refine jz_nrm (fun z21 hz21 ez21 => ?_)
        refine lv_iload_n hx hb dX3_wanted_91 rfl (lv_at hl 0 rfl) ?_
        refine jz_sidiv hx hb dX3_wanted_92 (by omega) ?_
        refine jz_nrm (fun z22 hz22 ez22 => ?_)
        refine lv_i2l hx hb dX3_wanted_93 rfl ?_
        refine lv_topl (fun y23 ey23 => ?_)
        refine lv_aload_n hx hb dX3_wanted_94 rfl (lv_at hl 2 rfl) ?_
        refine kr_l (va_runV (As := []) (rest := [.long (y23)]) ⟨hx, hb, hml, hown, hts⟩ (c_X3_work l dC dI cI cQ cR g (t0) (t1) (t2) (t3) (t4) (t5) (t6) (t7) (t8) (t9) (t10) (t11) (z8) (0) (0) msh (e0) (e1) (by omega) (by omega) hdm) (cwV 0 hts gX3_wanted_X3_work rfl rfl rfl (by decide +kernel) ⟨Nat.le_of_ble_eq_true rfl, Nat.le_of_ble_eq_true rfl⟩) (kR_V hK hN (hP.sub (ws' := [(g 0, .inr (3, [.ref (g 1), .ref (g 2), .ref (g 3), .ref (g 4), .int (iI (t0)), .int (iI (t1)), .int (iI (t2)), .int (iI (t3)), .int (iI (t4)), .int (iI (t5)), .int (iI (t6)), .int (iI (t7)), .int (iI (t8)), .int (iI (t9)), .int (iI (t10)), .ref (g 5), .ref (g 6), .int (iI (t11)), .ref (g 7), .ref (g 8), .ref (g 9), .ref (g 10), .ref (g 11), .ref (g 12), .int (iI (z8)), .int (iI (0)), .int (iI (0))])), (g 4, .inl (cI, 33, .inl (jA (msh)))), (g 7, .inl (cI, 200, .inl (jA (e0)))), (g 8, .inl (cI, 200, .inl (jA (e1))))]) [0, 4, 7, 8] rfl) hK hP (q0 := 0) rfl rfl) rfl rfl hl.1 rfl (lv_room (Nat.le_of_ble_eq_true rfl)) dX3_wanted_95 ⟨Nat.le_of_ble_eq_true rfl, Nat.le_of_ble_eq_true rfl⟩) (fun z24 hz24 => ?_)
        refine lv_lsub hx hb dX3_wanted_98 ?_
        refine lv_topl (fun y25 ey25 => ?_)
        refine lv_lstore (lv' := [(4, .long (y25)), (3, .int (iI (z9))), (2, .int (iI ((t4 % 1440)))), (0, .ref (g 0)), (1, .int (iI (a)))]) hx hb dX3_wanted_99 hl (by decide) rfl (fun ls hl => ?_)
        refine lv_aload_n hx hb dX3_wanted_101 rfl (lv_at hl 3 rfl) ?_
        refine lv_lload hx hb dX3_wanted_102 (lv_at hl 0 rfl) ?_
        refine lv_lconst hx hb dX3_wanted_104 rfl ?_
        refine lv_topl (fun y26 ey26 => ?_)
        refine W.lcmp hx hb dX3_wanted_105 ?_
        refine jz_nrm (fun z27 hz27 ez27 => ?_)
        refine jz_if_ge (tgt := 113) hx hb dX3_wanted_106 (by decide) (by omega) (fun cd106 => ?_) (fun cd106 => ?_)
        · refine lv_lload hx hb dX3_wanted_113 (lv_at hl 0 rfl) ?_
          refine lv_l2i hx hb dX3_wanted_115 rfl ?_
          refine jz_nrm (fun z28 hz28 ez28 => ?_)
          refine va_put (D := (dC, dI)) (ci := 3) (v := .int (iI (z28))) (ty := .int) (C := RX3) (T := TX3) (N := 27) hx hb hts hiX3 tyX3 tyX3_ok nmX3 hown hK hP hD hS 0 rfl rfl 25 (by decide) (hts (.fieldLink RX3 108 "PumpDeskModel" "byReading" "I") (by decide +kernel)) (fun _ h9 => h9) rfl (by decide +kernel) rfl rfl (Nat.le_of_ble_eq_true rfl) dX3_wanted_116 (fun H locs hP hD hS => ?_)
          have hP : va_P (dC, dI) vwCl ([(g 0, .inr (3, [.ref (g 1), .ref (g 2), .ref (g 3), .ref (g 4), .int (iI (t0)), .int (iI (t1)), .int (iI (t2)), .int (iI (t3)), .int (iI (t4)), .int (iI (t5)), .int (iI (t6)), .int (iI (t7)), .int (iI (t8)), .int (iI (t9)), .int (iI (t10)), .ref (g 5), .ref (g 6), .int (iI (t11)), .ref (g 7), .ref (g 8), .ref (g 9), .ref (g 10), .ref (g 11), .ref (g 12), .int (iI (z8)), .int (iI (z28)), .int (iI (0))])), (g 1, .inl (cI, 5, .inl (jA (mn)))), (g 2, .inl (cI, 40, .inl (jA (mst)))), (g 3, .inl (cI, 40, .inl (jA (mva)))), (g 4, .inl (cI, 33, .inl (jA (msh)))), (g 5, .inl (cI, 70, .inl (jA (mfl)))), (g 6, .inl (cI, 70, .inl (jA (mds)))), (g 7, .inl (cI, 200, .inl (jA (e0)))), (g 8, .inl (cI, 200, .inl (jA (e1))))] ++ wr) H := hP
          have hD : va_D A ([(g 0, .inr (3, [.ref (g 1), .ref (g 2), .ref (g 3), .ref (g 4), .int (iI (t0)), .int (iI (t1)), .int (iI (t2)), .int (iI (t3)), .int (iI (t4)), .int (iI (t5)), .int (iI (t6)), .int (iI (t7)), .int (iI (t8)), .int (iI (t9)), .int (iI (t10)), .ref (g 5), .ref (g 6), .int (iI (t11)), .ref (g 7), .ref (g 8), .ref (g 9), .ref (g 10), .ref (g 11), .ref (g 12), .int (iI (z8)), .int (iI (z28)), .int (iI (0))])), (g 1, .inl (cI, 5, .inl (jA (mn)))), (g 2, .inl (cI, 40, .inl (jA (mst)))), (g 3, .inl (cI, 40, .inl (jA (mva)))), (g 4, .inl (cI, 33, .inl (jA (msh)))), (g 5, .inl (cI, 70, .inl (jA (mfl)))), (g 6, .inl (cI, 70, .inl (jA (mds)))), (g 7, .inl (cI, 200, .inl (jA (e0)))), (g 8, .inl (cI, 200, .inl (jA (e1))))] ++ wr) := hD
          refine lv_goto (tgt := 161) hx hb dX3_wanted_119 (by decide) ?_
          exact cut161 (z8) (z28) ls H locs  hP hD hS (lv_sub hl [3] rfl)
        · refine jz_iconst hx hb dX3_wanted_109 ?_
          refine lv_goto (tgt := 116) hx hb dX3_wanted_110 (by decide) ?_
          refine va_put (D := (dC, dI)) (ci := 3) (v := .int (iI (0))) (ty := .int) (C := RX3) (T := TX3) (N := 27) hx hb hts hiX3 tyX3 tyX3_ok nmX3 hown hK hP hD hS 0 rfl rfl 25 (by decide) (hts (.fieldLink RX3 108 "PumpDeskModel" "byReading" "I") (by decide +kernel)) (fun _ h9 => h9) rfl (by decide +kernel) rfl rfl (Nat.le_of_ble_eq_true rfl) dX3_wanted_116 (fun H locs hP hD hS => ?_)
          have hP : va_P (dC, dI) vwCl ([(g 0, .inr (3, [.ref (g 1), .ref (g 2), .ref (g 3), .ref (g 4), .int (iI (t0)), .int (iI (t1)), .int (iI (t2)), .int (iI (t3)), .int (iI (t4)), .int (iI (t5)), .int (iI (t6)), .int (iI (t7)), .int (iI (t8)), .int (iI (t9)), .int (iI (t10)), .ref (g 5), .ref (g 6), .int (iI (t11)), .ref (g 7), .ref (g 8), .ref (g 9), .ref (g 10), .ref (g 11), .ref (g 12), .int (iI (z8)), .int (iI (0)), .int (iI (0))])), (g 1, .inl (cI, 5, .inl (jA (mn)))), (g 2, .inl (cI, 40, .inl (jA (mst)))), (g 3, .inl (cI, 40, .inl (jA (mva)))), (g 4, .inl (cI, 33, .inl (jA (msh)))), (g 5, .inl (cI, 70, .inl (jA (mfl)))), (g 6, .inl (cI, 70, .inl (jA (mds)))), (g 7, .inl (cI, 200, .inl (jA (e0)))), (g 8, .inl (cI, 200, .inl (jA (e1))))] ++ wr) H := hP
          have hD : va_D A ([(g 0, .inr (3, [.ref (g 1), .ref (g 2), .ref (g 3), .ref (g 4), .int (iI (t0)), .int (iI (t1)), .int (iI (t2)), .int (iI (t3)), .int (iI (t4)), .int (iI (t5)), .int (iI (t6)), .int (iI (t7)), .int (iI (t8)), .int (iI (t9)), .int (iI (t10)), .ref (g 5), .ref (g 6), .int (iI (t11)), .ref (g 7), .ref (g 8), .ref (g 9), .ref (g 10), .ref (g 11), .ref (g 12), .int (iI (z8)), .int (iI (0)), .int (iI (0))])), (g 1, .inl (cI, 5, .inl (jA (mn)))), (g 2, .inl (cI, 40, .inl (jA (mst)))), (g 3, .inl (cI, 40, .inl (jA (mva)))), (g 4, .inl (cI, 33, .inl (jA (msh)))), (g 5, .inl (cI, 70, .inl (jA (mfl)))), (g 6, .inl (cI, 70, .inl (jA (mds)))), (g 7, .inl (cI, 200, .inl (jA (e0)))), (g 8, .inl (cI, 200, .inl (jA (e1))))] ++ wr) := hD
          refine lv_goto (tgt := 161) hx hb dX3_wanted_119 (by decide) ?_
          exact cut161 (z8) (0) ls H locs  hP hD hS (lv_sub hl [3] rfl)

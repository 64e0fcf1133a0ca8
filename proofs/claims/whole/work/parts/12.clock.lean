theorem iX0_avRuns_X0 : ∀ w ∈ u_ws RX0 TX0 6, w ∈ wsX0_avRuns := by decide +kernel
theorem mX0_avRuns_1 : Cond.fieldLink RX0 24 "ChamberPacer$Clock" "av" "I" ∈ wsX0_avRuns := by decide +kernel
abbrev rmX0_avRuns : Room := { frames := 0, cells := 0, slots := 0, locals := 0 }
abbrev QfX0_avRuns (G : va_G) (cA cB : ClassId) (h0 : Nat) (C : tCk) : (Nat → Prop) → Array Value → State → Outcome → State → Prop := fun A => va_Qi (fun (r : Int32) (u : Unit) => r = bI (k_avRuns C)) (zz_B G vwCl (fun _ : Unit => (wCk h0 cA cB C)) A) A
set_option maxHeartbeats 1000000 in
set_option maxRecDepth 100000 in
theorem kX0_avRuns (l : Launch) (G : va_G) (cA cB : ClassId) (tb : Nat × Nat × Nat) (h0 : Nat) (sz : Nat) (C : tCk) : Met l yX0_avRuns wsX0_avRuns rmX0_avRuns (zz_P (zS tb) G vwCl [(cA, .int), (cB, .boolean)] [.ref h0] (wCk h0 cA cB C) sz) (QfX0_avRuns G cA cB h0 C (va_A (wCk h0 cA cB C) sz)) 0 0 (va_A (wCk h0 cA cB C) sz) := by
  refine zz_Met (cc := cX0_avRuns) (maxL := 1) (ret := (some .boolean)) (Qf := QfX0_avRuns G cA cB h0 C) (by decide) rfl (Nat.le_of_ble_eq_true rfl) ?_
  intro p e s m below meth c A ls hx hb hr hts hown hlocks hin hml hA hP hK hD hz hS hl
  have hl : lv_has ls 1 [(0, .ref h0)] := hl
  have hP : va_P G vwCl [(h0, .inr (0, [.int C.1, .int C.2.1, .int C.2.2.1, .int C.2.2.2.1, .int C.2.2.2.2.1, .int (bI C.2.2.2.2.2)]))] s.heap := hP
  have hD : va_D A [(h0, .inr (0, [.int C.1, .int C.2.1, .int C.2.2.1, .int C.2.2.2.1, .int C.2.2.2.2.1, .int (bI C.2.2.2.2.2)]))] := hD
  refine lv_aload_n hx hb dX0_avRuns_0 rfl (lv_at hl 0 rfl) ?_
  refine va_get (D := G) (ci := 0) (v := .int C.2.2.2.2.1) (C := RX0) (T := TX0) (N := 6) hx hb hts iX0_avRuns_X0 hown hK hP 0 rfl rfl 4 (by decide) (hts _ mX0_avRuns_1) (fun _ h9 => h9) rfl dX0_avRuns_1 ?_
  refine lv_iconst (v := (-1)) hx hb dX0_avRuns_4 (by decide) ?_
  refine lv_icmp_eq (tgt := 12) hx hb dX0_avRuns_5 (by decide) (fun c_1 => ?_) (fun c_1 => ?_)
  · have c_1 := zeq_t c_1
    refine lv_iconst (v := 0) hx hb dX0_avRuns_12 (by decide) ?_
    exact zz_rz (v := 0) () hx hb hr (by decide +kernel) hlocks hS hP hD (by first | (simp [k_avRuns, bI, c_1]; done) | (symm; (first | refine (if_pos c_1).trans ?_ | refine (if_neg c_1).trans ?_ | refine (if_fb c_1).trans ?_ | skip); rfl) | (try simp [k_avRuns, bI] at c_1; simp [k_avRuns, bI, c_1]; done) | rfl) dX0_avRuns_13
  · have c_1 := zeq_f c_1
    refine lv_iconst (v := 1) hx hb dX0_avRuns_8 (by decide) ?_
    refine lv_goto (tgt := 13) hx hb dX0_avRuns_9 (by decide) ?_
    exact zz_rz (v := 1) () hx hb hr (by decide +kernel) hlocks hS hP hD (by first | (simp [k_avRuns, bI, c_1]; done) | (symm; (first | refine (if_pos c_1).trans ?_ | refine (if_neg c_1).trans ?_ | refine (if_fb c_1).trans ?_ | skip); rfl) | (try simp [k_avRuns, bI] at c_1; simp [k_avRuns, bI, c_1]; done) | rfl) dX0_avRuns_13
theorem iX0_startAv_X0 : ∀ w ∈ u_ws RX0 TX0 6, w ∈ wsX0_startAv := by decide +kernel
theorem mX0_startAv_1 : Cond.fieldLink RX0 24 "ChamberPacer$Clock" "av" "I" ∈ wsX0_startAv := by decide +kernel
abbrev rmX0_startAv : Room := { frames := 0, cells := 0, slots := 0, locals := 0 }
abbrev QfX0_startAv (G : va_G) (cA cB : ClassId) (h0 : Nat) (C : tCk) : (Nat → Prop) → Array Value → State → Outcome → State → Prop := fun A => va_Qv (fun u : tCk => u = k_startAv C) (zz_B G vwCl (fun u : tCk => (wCk h0 cA cB u)) A) A
set_option maxHeartbeats 1000000 in
set_option maxRecDepth 100000 in
theorem kX0_startAv (l : Launch) (G : va_G) (cA cB : ClassId) (tb : Nat × Nat × Nat) (h0 : Nat) (sz : Nat) (C : tCk) : Met l yX0_startAv wsX0_startAv rmX0_startAv (zz_P (zS tb) G vwCl [(cA, .int), (cB, .boolean)] [.ref h0] (wCk h0 cA cB C) sz) (QfX0_startAv G cA cB h0 C (va_A (wCk h0 cA cB C) sz)) 0 0 (va_A (wCk h0 cA cB C) sz) := by
  refine zz_Met (cc := cX0_startAv) (maxL := 1) (ret := none) (Qf := QfX0_startAv G cA cB h0 C) (by decide) rfl (Nat.le_of_ble_eq_true rfl) ?_
  intro p e s m below meth c A ls hx hb hr hts hown hlocks hin hml hA hP hK hD hz hS hl
  have hl : lv_has ls 1 [(0, .ref h0)] := hl
  have hP : va_P G vwCl [(h0, .inr (0, [.int C.1, .int C.2.1, .int C.2.2.1, .int C.2.2.2.1, .int C.2.2.2.2.1, .int (bI C.2.2.2.2.2)]))] s.heap := hP
  have hD : va_D A [(h0, .inr (0, [.int C.1, .int C.2.1, .int C.2.2.1, .int C.2.2.2.1, .int C.2.2.2.2.1, .int (bI C.2.2.2.2.2)]))] := hD
  refine lv_aload_n hx hb dX0_startAv_0 rfl (lv_at hl 0 rfl) ?_
  refine lv_iconst (v := 0) hx hb dX0_startAv_1 (by decide) ?_
  refine va_put (D := G) (ci := 0) (v := .int 0) (ty := .int) (C := RX0) (T := TX0) (N := 6) hx hb hts iX0_startAv_X0 tyX0 tyX0_ok nmX0 hown hK hP hD hS 0 rfl rfl 4 (by decide) (hts _ mX0_startAv_1) (fun _ h9 => h9) rfl (by decide +kernel) rfl rfl (Nat.le_of_ble_eq_true rfl) dX0_startAv_2 (fun H locs hP hD hS => ?_)
  have hP : va_P G vwCl [(h0, .inr (0, [.int C.1, .int C.2.1, .int C.2.2.1, .int C.2.2.2.1, .int 0, .int (bI C.2.2.2.2.2)]))] H := hP
  have hD : va_D A [(h0, .inr (0, [.int C.1, .int C.2.1, .int C.2.2.1, .int C.2.2.2.1, .int 0, .int (bI C.2.2.2.2.2)]))] := hD
  exact zz_rv ((C.1, C.2.1, C.2.2.1, C.2.2.2.1, 0, C.2.2.2.2.2) : tCk) hx hb hr hlocks hS hP hD (by first | rfl | (rfl) | (simp [])) dX0_startAv_5
theorem iX0_stopAv_X0 : ∀ w ∈ u_ws RX0 TX0 6, w ∈ wsX0_stopAv := by decide +kernel
theorem mX0_stopAv_1 : Cond.fieldLink RX0 24 "ChamberPacer$Clock" "av" "I" ∈ wsX0_stopAv := by decide +kernel
abbrev rmX0_stopAv : Room := { frames := 0, cells := 0, slots := 0, locals := 0 }
abbrev QfX0_stopAv (G : va_G) (cA cB : ClassId) (h0 : Nat) (C : tCk) : (Nat → Prop) → Array Value → State → Outcome → State → Prop := fun A => va_Qv (fun u : tCk => u = k_stopAv C) (zz_B G vwCl (fun u : tCk => (wCk h0 cA cB u)) A) A
set_option maxHeartbeats 1000000 in
set_option maxRecDepth 100000 in
theorem kX0_stopAv (l : Launch) (G : va_G) (cA cB : ClassId) (tb : Nat × Nat × Nat) (h0 : Nat) (sz : Nat) (C : tCk) : Met l yX0_stopAv wsX0_stopAv rmX0_stopAv (zz_P (zS tb) G vwCl [(cA, .int), (cB, .boolean)] [.ref h0] (wCk h0 cA cB C) sz) (QfX0_stopAv G cA cB h0 C (va_A (wCk h0 cA cB C) sz)) 0 0 (va_A (wCk h0 cA cB C) sz) := by
  refine zz_Met (cc := cX0_stopAv) (maxL := 1) (ret := none) (Qf := QfX0_stopAv G cA cB h0 C) (by decide) rfl (Nat.le_of_ble_eq_true rfl) ?_
  intro p e s m below meth c A ls hx hb hr hts hown hlocks hin hml hA hP hK hD hz hS hl
  have hl : lv_has ls 1 [(0, .ref h0)] := hl
  have hP : va_P G vwCl [(h0, .inr (0, [.int C.1, .int C.2.1, .int C.2.2.1, .int C.2.2.2.1, .int C.2.2.2.2.1, .int (bI C.2.2.2.2.2)]))] s.heap := hP
  have hD : va_D A [(h0, .inr (0, [.int C.1, .int C.2.1, .int C.2.2.1, .int C.2.2.2.1, .int C.2.2.2.2.1, .int (bI C.2.2.2.2.2)]))] := hD
  refine lv_aload_n hx hb dX0_stopAv_0 rfl (lv_at hl 0 rfl) ?_
  refine lv_iconst (v := (-1)) hx hb dX0_stopAv_1 (by decide) ?_
  refine va_put (D := G) (ci := 0) (v := .int (-1)) (ty := .int) (C := RX0) (T := TX0) (N := 6) hx hb hts iX0_stopAv_X0 tyX0 tyX0_ok nmX0 hown hK hP hD hS 0 rfl rfl 4 (by decide) (hts _ mX0_stopAv_1) (fun _ h9 => h9) rfl (by decide +kernel) rfl rfl (Nat.le_of_ble_eq_true rfl) dX0_stopAv_2 (fun H locs hP hD hS => ?_)
  have hP : va_P G vwCl [(h0, .inr (0, [.int C.1, .int C.2.1, .int C.2.2.1, .int C.2.2.2.1, .int (-1), .int (bI C.2.2.2.2.2)]))] H := hP
  have hD : va_D A [(h0, .inr (0, [.int C.1, .int C.2.1, .int C.2.2.1, .int C.2.2.2.1, .int (-1), .int (bI C.2.2.2.2.2)]))] := hD
  exact zz_rv ((C.1, C.2.1, C.2.2.1, C.2.2.2.1, (-1), C.2.2.2.2.2) : tCk) hx hb hr hlocks hS hP hD (by first | rfl | (rfl) | (simp [])) dX0_stopAv_5
theorem iX0_grow_X0 : ∀ w ∈ u_ws RX0 TX0 6, w ∈ wsX0_grow := by decide +kernel
theorem mX0_grow_1 : Cond.fieldLink RX0 9 "ChamberPacer$Clock" "time" "I" ∈ wsX0_grow := by decide +kernel
theorem mX0_grow_2 : Cond.fieldLink RX0 15 "ChamberPacer$Clock" "sinceA" "I" ∈ wsX0_grow := by decide +kernel
theorem mX0_grow_3 : Cond.methodLink RX0 31 Lib.Math.min.name ∈ wsX0_grow := by decide +kernel
theorem mX0_grow_4 : Cond.static Lib.Math.min.name ∈ wsX0_grow := by decide +kernel
theorem mX0_grow_5 : Cond.initialized "java/lang/Math" ∈ wsX0_grow := by decide +kernel
theorem mX0_grow_6 : Cond.code Lib.Math.min.name Lib.Math.min.code 2 (some .int) ∈ wsX0_grow := by decide +kernel
theorem mX0_grow_7 : Cond.fieldLink RX0 18 "ChamberPacer$Clock" "sinceV" "I" ∈ wsX0_grow := by decide +kernel
theorem mX0_grow_8 : Cond.fieldLink RX0 21 "ChamberPacer$Clock" "sinceP" "I" ∈ wsX0_grow := by decide +kernel
theorem mX0_grow_9 : Cond.fieldLink RX0 24 "ChamberPacer$Clock" "av" "I" ∈ wsX0_grow := by decide +kernel
abbrev rmX0_grow : Room := { frames := 1, cells := 0, slots := 0, locals := 20 }
abbrev QfX0_grow (G : va_G) (cA cB : ClassId) (h0 : Nat) (C : tCk) : (Nat → Prop) → Array Value → State → Outcome → State → Prop := fun A => va_Qv (fun u : tCk => u = k_grow C) (zz_B G vwCl (fun u : tCk => (wCk h0 cA cB u)) A) A
set_option maxHeartbeats 1000000 in
set_option maxRecDepth 100000 in
theorem kX0_grow (l : Launch) (G : va_G) (cA cB : ClassId) (tb : Nat × Nat × Nat) (h0 : Nat) (sz : Nat) (C : tCk) : Met l yX0_grow wsX0_grow rmX0_grow (zz_P (zS tb) G vwCl [(cA, .int), (cB, .boolean)] [.ref h0] (wCk h0 cA cB C) sz) (QfX0_grow G cA cB h0 C (va_A (wCk h0 cA cB C) sz)) 0 0 (va_A (wCk h0 cA cB C) sz) := by
  refine zz_Met (cc := cX0_grow) (maxL := 1) (ret := none) (Qf := QfX0_grow G cA cB h0 C) (by decide) rfl (Nat.le_of_ble_eq_true rfl) ?_
  intro p e s m below meth c A ls hx hb hr hts hown hlocks hin hml hA hP hK hD hz hS hl
  have hl : lv_has ls 1 [(0, .ref h0)] := hl
  have hP : va_P G vwCl [(h0, .inr (0, [.int C.1, .int C.2.1, .int C.2.2.1, .int C.2.2.2.1, .int C.2.2.2.2.1, .int (bI C.2.2.2.2.2)]))] s.heap := hP
  have hD : va_D A [(h0, .inr (0, [.int C.1, .int C.2.1, .int C.2.2.1, .int C.2.2.2.1, .int C.2.2.2.2.1, .int (bI C.2.2.2.2.2)]))] := hD
  refine lv_aload_n hx hb dX0_grow_0 rfl (lv_at hl 0 rfl) ?_
  refine lv_dup hx hb dX0_grow_1 rfl ?_
  refine va_get (D := G) (ci := 0) (v := .int C.1) (C := RX0) (T := TX0) (N := 6) hx hb hts iX0_grow_X0 hown hK hP 0 rfl rfl 0 (by decide) (hts _ mX0_grow_1) (fun _ h9 => h9) rfl dX0_grow_2 ?_
  refine lv_iconst (v := 1) hx hb dX0_grow_5 (by decide) ?_
  refine lv_iadd hx hb dX0_grow_6 ?_
  refine va_put (D := G) (ci := 0) (v := .int (C.1 + 1)) (ty := .int) (C := RX0) (T := TX0) (N := 6) hx hb hts iX0_grow_X0 tyX0 tyX0_ok nmX0 hown hK hP hD hS 0 rfl rfl 0 (by decide) (hts _ mX0_grow_1) (fun _ h9 => h9) rfl (by decide +kernel) rfl rfl (Nat.le_of_ble_eq_true rfl) dX0_grow_7 (fun H locs hP hD hS => ?_)
  have hP : va_P G vwCl [(h0, .inr (0, [.int (C.1 + 1), .int C.2.1, .int C.2.2.1, .int C.2.2.2.1, .int C.2.2.2.2.1, .int (bI C.2.2.2.2.2)]))] H := hP
  have hD : va_D A [(h0, .inr (0, [.int (C.1 + 1), .int C.2.1, .int C.2.2.1, .int C.2.2.2.1, .int C.2.2.2.2.1, .int (bI C.2.2.2.2.2)]))] := hD
  refine lv_aload_n hx hb dX0_grow_10 rfl (lv_at hl 0 rfl) ?_
  refine lv_aload_n hx hb dX0_grow_11 rfl (lv_at hl 0 rfl) ?_
  refine va_get (D := G) (ci := 0) (v := .int C.2.1) (C := RX0) (T := TX0) (N := 6) hx hb hts iX0_grow_X0 hown hK hP 0 rfl rfl 1 (by decide) (hts _ mX0_grow_2) (fun _ h9 => h9) rfl dX0_grow_12 ?_
  refine lv_iconst (v := 1) hx hb dX0_grow_15 (by decide) ?_
  refine lv_iadd hx hb dX0_grow_16 ?_
  refine lv_sipush (v := 1000) hx hb dX0_grow_17 (by decide) ?_
  refine va_mmin hx hb (hml.trans hl.1.symm) hown (hts _ mX0_grow_3) (hts _ mX0_grow_4) (hts _ mX0_grow_5) (hts _ mX0_grow_6) (Nat.le_of_ble_eq_true rfl) (Nat.le_of_ble_eq_true rfl) (Nat.zero_le _) (Nat.zero_le _) dX0_grow_20 ?_
  refine zz_topi (zmin_e _ _) ?_
  refine va_put (D := G) (ci := 0) (v := .int (zmin (C.2.1 + 1) 1000)) (ty := .int) (C := RX0) (T := TX0) (N := 6) hx hb hts iX0_grow_X0 tyX0 tyX0_ok nmX0 hown hK hP hD hS 0 rfl rfl 1 (by decide) (hts _ mX0_grow_2) (fun _ h9 => h9) rfl (by decide +kernel) rfl rfl (Nat.le_of_ble_eq_true rfl) dX0_grow_23 (fun H locs hP hD hS => ?_)
  have hP : va_P G vwCl [(h0, .inr (0, [.int (C.1 + 1), .int (zmin (C.2.1 + 1) 1000), .int C.2.2.1, .int C.2.2.2.1, .int C.2.2.2.2.1, .int (bI C.2.2.2.2.2)]))] H := hP
  have hD : va_D A [(h0, .inr (0, [.int (C.1 + 1), .int (zmin (C.2.1 + 1) 1000), .int C.2.2.1, .int C.2.2.2.1, .int C.2.2.2.2.1, .int (bI C.2.2.2.2.2)]))] := hD
  refine lv_aload_n hx hb dX0_grow_26 rfl (lv_at hl 0 rfl) ?_
  refine lv_aload_n hx hb dX0_grow_27 rfl (lv_at hl 0 rfl) ?_
  refine va_get (D := G) (ci := 0) (v := .int C.2.2.1) (C := RX0) (T := TX0) (N := 6) hx hb hts iX0_grow_X0 hown hK hP 0 rfl rfl 2 (by decide) (hts _ mX0_grow_7) (fun _ h9 => h9) rfl dX0_grow_28 ?_
  refine lv_iconst (v := 1) hx hb dX0_grow_31 (by decide) ?_
  refine lv_iadd hx hb dX0_grow_32 ?_
  refine lv_sipush (v := 1000) hx hb dX0_grow_33 (by decide) ?_
  refine va_mmin hx hb (hml.trans hl.1.symm) hown (hts _ mX0_grow_3) (hts _ mX0_grow_4) (hts _ mX0_grow_5) (hts _ mX0_grow_6) (Nat.le_of_ble_eq_true rfl) (Nat.le_of_ble_eq_true rfl) (Nat.zero_le _) (Nat.zero_le _) dX0_grow_36 ?_
  refine zz_topi (zmin_e _ _) ?_
  refine va_put (D := G) (ci := 0) (v := .int (zmin (C.2.2.1 + 1) 1000)) (ty := .int) (C := RX0) (T := TX0) (N := 6) hx hb hts iX0_grow_X0 tyX0 tyX0_ok nmX0 hown hK hP hD hS 0 rfl rfl 2 (by decide) (hts _ mX0_grow_7) (fun _ h9 => h9) rfl (by decide +kernel) rfl rfl (Nat.le_of_ble_eq_true rfl) dX0_grow_39 (fun H locs hP hD hS => ?_)
  have hP : va_P G vwCl [(h0, .inr (0, [.int (C.1 + 1), .int (zmin (C.2.1 + 1) 1000), .int (zmin (C.2.2.1 + 1) 1000), .int C.2.2.2.1, .int C.2.2.2.2.1, .int (bI C.2.2.2.2.2)]))] H := hP
  have hD : va_D A [(h0, .inr (0, [.int (C.1 + 1), .int (zmin (C.2.1 + 1) 1000), .int (zmin (C.2.2.1 + 1) 1000), .int C.2.2.2.1, .int C.2.2.2.2.1, .int (bI C.2.2.2.2.2)]))] := hD
  refine lv_aload_n hx hb dX0_grow_42 rfl (lv_at hl 0 rfl) ?_
  refine lv_aload_n hx hb dX0_grow_43 rfl (lv_at hl 0 rfl) ?_
  refine va_get (D := G) (ci := 0) (v := .int C.2.2.2.1) (C := RX0) (T := TX0) (N := 6) hx hb hts iX0_grow_X0 hown hK hP 0 rfl rfl 3 (by decide) (hts _ mX0_grow_8) (fun _ h9 => h9) rfl dX0_grow_44 ?_
  refine lv_iconst (v := 1) hx hb dX0_grow_47 (by decide) ?_
  refine lv_iadd hx hb dX0_grow_48 ?_
  refine lv_sipush (v := 1000) hx hb dX0_grow_49 (by decide) ?_
  refine va_mmin hx hb (hml.trans hl.1.symm) hown (hts _ mX0_grow_3) (hts _ mX0_grow_4) (hts _ mX0_grow_5) (hts _ mX0_grow_6) (Nat.le_of_ble_eq_true rfl) (Nat.le_of_ble_eq_true rfl) (Nat.zero_le _) (Nat.zero_le _) dX0_grow_52 ?_
  refine zz_topi (zmin_e _ _) ?_
  refine va_put (D := G) (ci := 0) (v := .int (zmin (C.2.2.2.1 + 1) 1000)) (ty := .int) (C := RX0) (T := TX0) (N := 6) hx hb hts iX0_grow_X0 tyX0 tyX0_ok nmX0 hown hK hP hD hS 0 rfl rfl 3 (by decide) (hts _ mX0_grow_8) (fun _ h9 => h9) rfl (by decide +kernel) rfl rfl (Nat.le_of_ble_eq_true rfl) dX0_grow_55 (fun H locs hP hD hS => ?_)
  have hP : va_P G vwCl [(h0, .inr (0, [.int (C.1 + 1), .int (zmin (C.2.1 + 1) 1000), .int (zmin (C.2.2.1 + 1) 1000), .int (zmin (C.2.2.2.1 + 1) 1000), .int C.2.2.2.2.1, .int (bI C.2.2.2.2.2)]))] H := hP
  have hD : va_D A [(h0, .inr (0, [.int (C.1 + 1), .int (zmin (C.2.1 + 1) 1000), .int (zmin (C.2.2.1 + 1) 1000), .int (zmin (C.2.2.2.1 + 1) 1000), .int C.2.2.2.2.1, .int (bI C.2.2.2.2.2)]))] := hD
  refine lv_aload_n hx hb dX0_grow_58 rfl (lv_at hl 0 rfl) ?_
  refine zz_ci (wr := []) (va_runV (As := []) (rest := []) ⟨hx, hb, hml, hown, hts⟩ (kX0_avRuns l G cA cB tb h0 H.size ((C.1 + 1), (zmin (C.2.1 + 1) 1000), (zmin (C.2.2.1 + 1) 1000), (zmin (C.2.2.2.1 + 1) 1000), C.2.2.2.2.1, C.2.2.2.2.2)) (cwV 0 hts gX0_grow_X0_avRuns rfl rfl rfl (by decide +kernel) ⟨Nat.le_of_ble_eq_true rfl, Nat.le_of_ble_eq_true rfl⟩) (zz_preV zS_ok hK hP hD hS hA hz [0] rfl (by decide) (ci := 0) (q0 := 0) (C := RX0) rfl rfl) rfl rfl hl.1 rfl (lv_room (Nat.le_of_ble_eq_true rfl)) dX0_grow_59 ⟨Nat.zero_le _, Nat.zero_le _⟩) hP hD hS hA [0] [] rfl rfl (by decide) (by decide) (fun r u H locs hw hP hD hS => ?_)
  have hw := hw.symm; subst hw
  have hP : va_P G vwCl [(h0, .inr (0, [.int (C.1 + 1), .int (zmin (C.2.1 + 1) 1000), .int (zmin (C.2.2.1 + 1) 1000), .int (zmin (C.2.2.2.1 + 1) 1000), .int C.2.2.2.2.1, .int (bI C.2.2.2.2.2)]))] H := hP
  have hD : va_D A [(h0, .inr (0, [.int (C.1 + 1), .int (zmin (C.2.1 + 1) 1000), .int (zmin (C.2.2.1 + 1) 1000), .int (zmin (C.2.2.2.1 + 1) 1000), .int C.2.2.2.2.1, .int (bI C.2.2.2.2.2)]))] := hD
  refine lv_if_eq (tgt := 75) hx hb dX0_grow_62 (by decide) (fun c_1 => ?_) (fun c_1 => ?_)
  · have c_1 := bI_f c_1
    exact zz_rv (((C.1 + 1), (zmin (C.2.1 + 1) 1000), (zmin (C.2.2.1 + 1) 1000), (zmin (C.2.2.2.1 + 1) 1000), C.2.2.2.2.1, C.2.2.2.2.2) : tCk) hx hb hr hlocks hS hP hD (by first | exact (k_growT c_1).symm | exact (k_growF c_1).symm) dX0_grow_75
  · have c_1 := bI_t c_1
    refine lv_aload_n hx hb dX0_grow_65 rfl (lv_at hl 0 rfl) ?_
    refine lv_dup hx hb dX0_grow_66 rfl ?_
    refine va_get (D := G) (ci := 0) (v := .int C.2.2.2.2.1) (C := RX0) (T := TX0) (N := 6) hx hb hts iX0_grow_X0 hown hK hP 0 rfl rfl 4 (by decide) (hts _ mX0_grow_9) (fun _ h9 => h9) rfl dX0_grow_67 ?_
    refine lv_iconst (v := 1) hx hb dX0_grow_70 (by decide) ?_
    refine lv_iadd hx hb dX0_grow_71 ?_
    refine va_put (D := G) (ci := 0) (v := .int (C.2.2.2.2.1 + 1)) (ty := .int) (C := RX0) (T := TX0) (N := 6) hx hb hts iX0_grow_X0 tyX0 tyX0_ok nmX0 hown hK hP hD hS 0 rfl rfl 4 (by decide) (hts _ mX0_grow_9) (fun _ h9 => h9) rfl (by decide +kernel) rfl rfl (Nat.le_of_ble_eq_true rfl) dX0_grow_72 (fun H locs hP hD hS => ?_)
    have hP : va_P G vwCl [(h0, .inr (0, [.int (C.1 + 1), .int (zmin (C.2.1 + 1) 1000), .int (zmin (C.2.2.1 + 1) 1000), .int (zmin (C.2.2.2.1 + 1) 1000), .int (C.2.2.2.2.1 + 1), .int (bI C.2.2.2.2.2)]))] H := hP
    have hD : va_D A [(h0, .inr (0, [.int (C.1 + 1), .int (zmin (C.2.1 + 1) 1000), .int (zmin (C.2.2.1 + 1) 1000), .int (zmin (C.2.2.2.1 + 1) 1000), .int (C.2.2.2.2.1 + 1), .int (bI C.2.2.2.2.2)]))] := hD
    exact zz_rv (((C.1 + 1), (zmin (C.2.1 + 1) 1000), (zmin (C.2.2.1 + 1) 1000), (zmin (C.2.2.2.1 + 1) 1000), (C.2.2.2.2.1 + 1), C.2.2.2.2.2) : tCk) hx hb hr hlocks hS hP hD (by first | exact (k_growT c_1).symm | exact (k_growF c_1).symm) dX0_grow_75
theorem iX0_restartA_X0 : ∀ w ∈ u_ws RX0 TX0 6, w ∈ wsX0_restartA := by decide +kernel
theorem mX0_restartA_1 : Cond.fieldLink RX0 15 "ChamberPacer$Clock" "sinceA" "I" ∈ wsX0_restartA := by decide +kernel
theorem mX0_restartA_3 : Cond.fieldLink RX0 27 "ChamberPacer$Clock" "atrialSinceVentricular" "Z" ∈ wsX0_restartA := by decide +kernel
theorem mX0_restartA_2 : Cond.fieldLink RX0 21 "ChamberPacer$Clock" "sinceP" "I" ∈ wsX0_restartA := by decide +kernel
abbrev rmX0_restartA : Room := { frames := 0, cells := 0, slots := 0, locals := 0 }
abbrev QfX0_restartA (G : va_G) (cA cB : ClassId) (h0 : Nat) (C : tCk) (b : Bool) : (Nat → Prop) → Array Value → State → Outcome → State → Prop := fun A => va_Qv (fun u : tCk => u = k_restA b C) (zz_B G vwCl (fun u : tCk => (wCk h0 cA cB u)) A) A
set_option maxHeartbeats 1000000 in
set_option maxRecDepth 100000 in
theorem kX0_restartA (l : Launch) (G : va_G) (cA cB : ClassId) (tb : Nat × Nat × Nat) (h0 : Nat) (sz : Nat) (C : tCk) (b : Bool) : Met l yX0_restartA wsX0_restartA rmX0_restartA (zz_P (zS tb) G vwCl [(cA, .int), (cB, .boolean)] [.ref h0, .int (bI b)] (wCk h0 cA cB C) sz) (QfX0_restartA G cA cB h0 C b (va_A (wCk h0 cA cB C) sz)) 0 0 (va_A (wCk h0 cA cB C) sz) := by
  cases b
  · refine zz_Met (cc := cX0_restartA) (maxL := 2) (ret := none) (Qf := QfX0_restartA G cA cB h0 C false) (by decide) rfl (Nat.le_of_ble_eq_true rfl) ?_
    intro p e s m below meth c A ls hx hb hr hts hown hlocks hin hml hA hP hK hD hz hS hl
    have hl : lv_has ls 2 [(0, .ref h0), (1, .int (bI false))] := hl
    have hP : va_P G vwCl [(h0, .inr (0, [.int C.1, .int C.2.1, .int C.2.2.1, .int C.2.2.2.1, .int C.2.2.2.2.1, .int (bI C.2.2.2.2.2)]))] s.heap := hP
    have hD : va_D A [(h0, .inr (0, [.int C.1, .int C.2.1, .int C.2.2.1, .int C.2.2.2.1, .int C.2.2.2.2.1, .int (bI C.2.2.2.2.2)]))] := hD
    refine lv_aload_n hx hb dX0_restartA_0 rfl (lv_at hl 0 rfl) ?_
    refine lv_iconst (v := 0) hx hb dX0_restartA_1 (by decide) ?_
    refine va_put (D := G) (ci := 0) (v := .int 0) (ty := .int) (C := RX0) (T := TX0) (N := 6) hx hb hts iX0_restartA_X0 tyX0 tyX0_ok nmX0 hown hK hP hD hS 0 rfl rfl 1 (by decide) (hts _ mX0_restartA_1) (fun _ h9 => h9) rfl (by decide +kernel) rfl rfl (Nat.le_of_ble_eq_true rfl) dX0_restartA_2 (fun H locs hP hD hS => ?_)
    have hP : va_P G vwCl [(h0, .inr (0, [.int C.1, .int 0, .int C.2.2.1, .int C.2.2.2.1, .int C.2.2.2.2.1, .int (bI C.2.2.2.2.2)]))] H := hP
    have hD : va_D A [(h0, .inr (0, [.int C.1, .int 0, .int C.2.2.1, .int C.2.2.2.1, .int C.2.2.2.2.1, .int (bI C.2.2.2.2.2)]))] := hD
    refine lv_iload_n hx hb dX0_restartA_5 rfl (lv_at hl 1 rfl) ?_
    refine lv_if_eq (tgt := 14) hx hb dX0_restartA_6 (by decide) (fun _ => ?_) (fun c => absurd (by decide) c)
    refine lv_aload_n hx hb dX0_restartA_14 rfl (lv_at hl 0 rfl) ?_
    refine lv_iconst (v := 1) hx hb dX0_restartA_15 (by decide) ?_
    refine va_put (D := G) (ci := 0) (v := .int 1) (ty := .boolean) (C := RX0) (T := TX0) (N := 6) hx hb hts iX0_restartA_X0 tyX0 tyX0_ok nmX0 hown hK hP hD hS 0 rfl rfl 5 (by decide) (hts _ mX0_restartA_3) (fun _ h9 => h9) rfl (by decide +kernel) rfl rfl (Nat.le_of_ble_eq_true rfl) dX0_restartA_16 (fun H locs hP hD hS => ?_)
    have hP : va_P G vwCl [(h0, .inr (0, [.int C.1, .int 0, .int C.2.2.1, .int C.2.2.2.1, .int C.2.2.2.2.1, .int (bI true)]))] H := hP
    have hD : va_D A [(h0, .inr (0, [.int C.1, .int 0, .int C.2.2.1, .int C.2.2.2.1, .int C.2.2.2.2.1, .int (bI true)]))] := hD
    exact zz_rv ((C.1, 0, C.2.2.1, C.2.2.2.1, C.2.2.2.2.1, true) : tCk) hx hb hr hlocks hS hP hD (by first | rfl | (rfl) | (simp [])) dX0_restartA_19
  · refine zz_Met (cc := cX0_restartA) (maxL := 2) (ret := none) (Qf := QfX0_restartA G cA cB h0 C true) (by decide) rfl (Nat.le_of_ble_eq_true rfl) ?_
    intro p e s m below meth c A ls hx hb hr hts hown hlocks hin hml hA hP hK hD hz hS hl
    have hl : lv_has ls 2 [(0, .ref h0), (1, .int (bI true))] := hl
    have hP : va_P G vwCl [(h0, .inr (0, [.int C.1, .int C.2.1, .int C.2.2.1, .int C.2.2.2.1, .int C.2.2.2.2.1, .int (bI C.2.2.2.2.2)]))] s.heap := hP
    have hD : va_D A [(h0, .inr (0, [.int C.1, .int C.2.1, .int C.2.2.1, .int C.2.2.2.1, .int C.2.2.2.2.1, .int (bI C.2.2.2.2.2)]))] := hD
    refine lv_aload_n hx hb dX0_restartA_0 rfl (lv_at hl 0 rfl) ?_
    refine lv_iconst (v := 0) hx hb dX0_restartA_1 (by decide) ?_
    refine va_put (D := G) (ci := 0) (v := .int 0) (ty := .int) (C := RX0) (T := TX0) (N := 6) hx hb hts iX0_restartA_X0 tyX0 tyX0_ok nmX0 hown hK hP hD hS 0 rfl rfl 1 (by decide) (hts _ mX0_restartA_1) (fun _ h9 => h9) rfl (by decide +kernel) rfl rfl (Nat.le_of_ble_eq_true rfl) dX0_restartA_2 (fun H locs hP hD hS => ?_)
    have hP : va_P G vwCl [(h0, .inr (0, [.int C.1, .int 0, .int C.2.2.1, .int C.2.2.2.1, .int C.2.2.2.2.1, .int (bI C.2.2.2.2.2)]))] H := hP
    have hD : va_D A [(h0, .inr (0, [.int C.1, .int 0, .int C.2.2.1, .int C.2.2.2.1, .int C.2.2.2.2.1, .int (bI C.2.2.2.2.2)]))] := hD
    refine lv_iload_n hx hb dX0_restartA_5 rfl (lv_at hl 1 rfl) ?_
    refine lv_if_eq (tgt := 14) hx hb dX0_restartA_6 (by decide) (fun c => absurd c (by decide)) (fun _ => ?_)
    refine lv_aload_n hx hb dX0_restartA_9 rfl (lv_at hl 0 rfl) ?_
    refine lv_iconst (v := 0) hx hb dX0_restartA_10 (by decide) ?_
    refine va_put (D := G) (ci := 0) (v := .int 0) (ty := .int) (C := RX0) (T := TX0) (N := 6) hx hb hts iX0_restartA_X0 tyX0 tyX0_ok nmX0 hown hK hP hD hS 0 rfl rfl 3 (by decide) (hts _ mX0_restartA_2) (fun _ h9 => h9) rfl (by decide +kernel) rfl rfl (Nat.le_of_ble_eq_true rfl) dX0_restartA_11 (fun H locs hP hD hS => ?_)
    have hP : va_P G vwCl [(h0, .inr (0, [.int C.1, .int 0, .int C.2.2.1, .int 0, .int C.2.2.2.2.1, .int (bI C.2.2.2.2.2)]))] H := hP
    have hD : va_D A [(h0, .inr (0, [.int C.1, .int 0, .int C.2.2.1, .int 0, .int C.2.2.2.2.1, .int (bI C.2.2.2.2.2)]))] := hD
    refine lv_aload_n hx hb dX0_restartA_14 rfl (lv_at hl 0 rfl) ?_
    refine lv_iconst (v := 1) hx hb dX0_restartA_15 (by decide) ?_
    refine va_put (D := G) (ci := 0) (v := .int 1) (ty := .boolean) (C := RX0) (T := TX0) (N := 6) hx hb hts iX0_restartA_X0 tyX0 tyX0_ok nmX0 hown hK hP hD hS 0 rfl rfl 5 (by decide) (hts _ mX0_restartA_3) (fun _ h9 => h9) rfl (by decide +kernel) rfl rfl (Nat.le_of_ble_eq_true rfl) dX0_restartA_16 (fun H locs hP hD hS => ?_)
    have hP : va_P G vwCl [(h0, .inr (0, [.int C.1, .int 0, .int C.2.2.1, .int 0, .int C.2.2.2.2.1, .int (bI true)]))] H := hP
    have hD : va_D A [(h0, .inr (0, [.int C.1, .int 0, .int C.2.2.1, .int 0, .int C.2.2.2.2.1, .int (bI true)]))] := hD
    exact zz_rv ((C.1, 0, C.2.2.1, 0, C.2.2.2.2.1, true) : tCk) hx hb hr hlocks hS hP hD (by first | rfl | (rfl) | (simp [])) dX0_restartA_19
theorem iX0_restartV_X0 : ∀ w ∈ u_ws RX0 TX0 6, w ∈ wsX0_restartV := by decide +kernel
theorem mX0_restartV_1 : Cond.fieldLink RX0 18 "ChamberPacer$Clock" "sinceV" "I" ∈ wsX0_restartV := by decide +kernel
theorem mX0_restartV_2 : Cond.fieldLink RX0 27 "ChamberPacer$Clock" "atrialSinceVentricular" "Z" ∈ wsX0_restartV := by decide +kernel
abbrev rmX0_restartV : Room := { frames := 1, cells := 0, slots := 0, locals := 20 }
abbrev QfX0_restartV (G : va_G) (cA cB : ClassId) (h0 : Nat) (C : tCk) : (Nat → Prop) → Array Value → State → Outcome → State → Prop := fun A => va_Qv (fun u : tCk => u = k_restV C) (zz_B G vwCl (fun u : tCk => (wCk h0 cA cB u)) A) A
set_option maxHeartbeats 1000000 in
set_option maxRecDepth 100000 in
theorem kX0_restartV (l : Launch) (G : va_G) (cA cB : ClassId) (tb : Nat × Nat × Nat) (h0 : Nat) (sz : Nat) (C : tCk) : Met l yX0_restartV wsX0_restartV rmX0_restartV (zz_P (zS tb) G vwCl [(cA, .int), (cB, .boolean)] [.ref h0] (wCk h0 cA cB C) sz) (QfX0_restartV G cA cB h0 C (va_A (wCk h0 cA cB C) sz)) 0 0 (va_A (wCk h0 cA cB C) sz) := by
  refine zz_Met (cc := cX0_restartV) (maxL := 1) (ret := none) (Qf := QfX0_restartV G cA cB h0 C) (by decide) rfl (Nat.le_of_ble_eq_true rfl) ?_
  intro p e s m below meth c A ls hx hb hr hts hown hlocks hin hml hA hP hK hD hz hS hl
  have hl : lv_has ls 1 [(0, .ref h0)] := hl
  have hP : va_P G vwCl [(h0, .inr (0, [.int C.1, .int C.2.1, .int C.2.2.1, .int C.2.2.2.1, .int C.2.2.2.2.1, .int (bI C.2.2.2.2.2)]))] s.heap := hP
  have hD : va_D A [(h0, .inr (0, [.int C.1, .int C.2.1, .int C.2.2.1, .int C.2.2.2.1, .int C.2.2.2.2.1, .int (bI C.2.2.2.2.2)]))] := hD
  refine lv_aload_n hx hb dX0_restartV_0 rfl (lv_at hl 0 rfl) ?_
  refine lv_iconst (v := 0) hx hb dX0_restartV_1 (by decide) ?_
  refine va_put (D := G) (ci := 0) (v := .int 0) (ty := .int) (C := RX0) (T := TX0) (N := 6) hx hb hts iX0_restartV_X0 tyX0 tyX0_ok nmX0 hown hK hP hD hS 0 rfl rfl 2 (by decide) (hts _ mX0_restartV_1) (fun _ h9 => h9) rfl (by decide +kernel) rfl rfl (Nat.le_of_ble_eq_true rfl) dX0_restartV_2 (fun H locs hP hD hS => ?_)
  have hP : va_P G vwCl [(h0, .inr (0, [.int C.1, .int C.2.1, .int 0, .int C.2.2.2.1, .int C.2.2.2.2.1, .int (bI C.2.2.2.2.2)]))] H := hP
  have hD : va_D A [(h0, .inr (0, [.int C.1, .int C.2.1, .int 0, .int C.2.2.2.1, .int C.2.2.2.2.1, .int (bI C.2.2.2.2.2)]))] := hD
  refine lv_aload_n hx hb dX0_restartV_5 rfl (lv_at hl 0 rfl) ?_
  refine zz_cv (wr := []) (va_runV (As := []) (rest := []) ⟨hx, hb, hml, hown, hts⟩ (kX0_stopAv l G cA cB tb h0 H.size (C.1, C.2.1, 0, C.2.2.2.1, C.2.2.2.2.1, C.2.2.2.2.2)) (cwV 0 hts gX0_restartV_X0_stopAv rfl rfl rfl (by decide +kernel) ⟨Nat.le_of_ble_eq_true rfl, Nat.le_of_ble_eq_true rfl⟩) (zz_preV zS_ok hK hP hD hS hA hz [0] rfl (by decide) (ci := 0) (q0 := 0) (C := RX0) rfl rfl) rfl rfl hl.1 rfl (lv_room (Nat.le_of_ble_eq_true rfl)) dX0_restartV_6 ⟨Nat.zero_le _, Nat.zero_le _⟩) hP hD hS hA [0] [] rfl rfl (by decide) (by decide) (fun u H locs hw hP hD hS => ?_)
  have hw := hw.symm; subst hw
  have hP : va_P G vwCl [(h0, .inr (0, [.int ((k_stopAv (C.1, C.2.1, 0, C.2.2.2.1, C.2.2.2.2.1, C.2.2.2.2.2)).1), .int ((k_stopAv (C.1, C.2.1, 0, C.2.2.2.1, C.2.2.2.2.1, C.2.2.2.2.2)).2.1), .int ((k_stopAv (C.1, C.2.1, 0, C.2.2.2.1, C.2.2.2.2.1, C.2.2.2.2.2)).2.2.1), .int ((k_stopAv (C.1, C.2.1, 0, C.2.2.2.1, C.2.2.2.2.1, C.2.2.2.2.2)).2.2.2.1), .int ((k_stopAv (C.1, C.2.1, 0, C.2.2.2.1, C.2.2.2.2.1, C.2.2.2.2.2)).2.2.2.2.1), .int (bI ((k_stopAv (C.1, C.2.1, 0, C.2.2.2.1, C.2.2.2.2.1, C.2.2.2.2.2)).2.2.2.2.2))]))] H := hP
  have hD : va_D A [(h0, .inr (0, [.int ((k_stopAv (C.1, C.2.1, 0, C.2.2.2.1, C.2.2.2.2.1, C.2.2.2.2.2)).1), .int ((k_stopAv (C.1, C.2.1, 0, C.2.2.2.1, C.2.2.2.2.1, C.2.2.2.2.2)).2.1), .int ((k_stopAv (C.1, C.2.1, 0, C.2.2.2.1, C.2.2.2.2.1, C.2.2.2.2.2)).2.2.1), .int ((k_stopAv (C.1, C.2.1, 0, C.2.2.2.1, C.2.2.2.2.1, C.2.2.2.2.2)).2.2.2.1), .int ((k_stopAv (C.1, C.2.1, 0, C.2.2.2.1, C.2.2.2.2.1, C.2.2.2.2.2)).2.2.2.2.1), .int (bI ((k_stopAv (C.1, C.2.1, 0, C.2.2.2.1, C.2.2.2.2.1, C.2.2.2.2.2)).2.2.2.2.2))]))] := hD
  refine lv_aload_n hx hb dX0_restartV_9 rfl (lv_at hl 0 rfl) ?_
  refine lv_iconst (v := 0) hx hb dX0_restartV_10 (by decide) ?_
  refine va_put (D := G) (ci := 0) (v := .int 0) (ty := .boolean) (C := RX0) (T := TX0) (N := 6) hx hb hts iX0_restartV_X0 tyX0 tyX0_ok nmX0 hown hK hP hD hS 0 rfl rfl 5 (by decide) (hts _ mX0_restartV_2) (fun _ h9 => h9) rfl (by decide +kernel) rfl rfl (Nat.le_of_ble_eq_true rfl) dX0_restartV_11 (fun H locs hP hD hS => ?_)
  have hP : va_P G vwCl [(h0, .inr (0, [.int ((k_stopAv (C.1, C.2.1, 0, C.2.2.2.1, C.2.2.2.2.1, C.2.2.2.2.2)).1), .int ((k_stopAv (C.1, C.2.1, 0, C.2.2.2.1, C.2.2.2.2.1, C.2.2.2.2.2)).2.1), .int ((k_stopAv (C.1, C.2.1, 0, C.2.2.2.1, C.2.2.2.2.1, C.2.2.2.2.2)).2.2.1), .int ((k_stopAv (C.1, C.2.1, 0, C.2.2.2.1, C.2.2.2.2.1, C.2.2.2.2.2)).2.2.2.1), .int ((k_stopAv (C.1, C.2.1, 0, C.2.2.2.1, C.2.2.2.2.1, C.2.2.2.2.2)).2.2.2.2.1), .int (bI false)]))] H := hP
  have hD : va_D A [(h0, .inr (0, [.int ((k_stopAv (C.1, C.2.1, 0, C.2.2.2.1, C.2.2.2.2.1, C.2.2.2.2.2)).1), .int ((k_stopAv (C.1, C.2.1, 0, C.2.2.2.1, C.2.2.2.2.1, C.2.2.2.2.2)).2.1), .int ((k_stopAv (C.1, C.2.1, 0, C.2.2.2.1, C.2.2.2.2.1, C.2.2.2.2.2)).2.2.1), .int ((k_stopAv (C.1, C.2.1, 0, C.2.2.2.1, C.2.2.2.2.1, C.2.2.2.2.2)).2.2.2.1), .int ((k_stopAv (C.1, C.2.1, 0, C.2.2.2.1, C.2.2.2.2.1, C.2.2.2.2.2)).2.2.2.2.1), .int (bI false)]))] := hD
  exact zz_rv (((k_stopAv (C.1, C.2.1, 0, C.2.2.2.1, C.2.2.2.2.1, C.2.2.2.2.2)).1, (k_stopAv (C.1, C.2.1, 0, C.2.2.2.1, C.2.2.2.2.1, C.2.2.2.2.2)).2.1, (k_stopAv (C.1, C.2.1, 0, C.2.2.2.1, C.2.2.2.2.1, C.2.2.2.2.2)).2.2.1, (k_stopAv (C.1, C.2.1, 0, C.2.2.2.1, C.2.2.2.2.1, C.2.2.2.2.2)).2.2.2.1, (k_stopAv (C.1, C.2.1, 0, C.2.2.2.1, C.2.2.2.2.1, C.2.2.2.2.2)).2.2.2.2.1, false) : tCk) hx hb hr hlocks hS hP hD (by first | rfl | (rfl) | (simp [])) dX0_restartV_14

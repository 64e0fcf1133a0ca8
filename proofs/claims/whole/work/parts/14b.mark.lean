theorem iX4_keep_X4 : ∀ w ∈ u_ws RX4 TX4 4, w ∈ wsX4_keep := by decide +kernel
theorem mX4_keep_1 : Cond.fieldLink RX4 11 "ChamberPacer$Markers" "kinds" "[I" ∈ wsX4_keep := by decide +kernel
theorem mX4_keep_2 : Cond.fieldLink RX4 18 "ChamberPacer$Markers" "next" "I" ∈ wsX4_keep := by decide +kernel
theorem mX4_keep_3 : Cond.fieldLink RX4 15 "ChamberPacer$Markers" "times" "[I" ∈ wsX4_keep := by decide +kernel
theorem mX4_keep_4 : Cond.fieldLink RX4 22 "ChamberPacer$Markers" "count" "I" ∈ wsX4_keep := by decide +kernel
abbrev rmX4_keep : Room := { frames := 0, cells := 0, slots := 0, locals := 0 }
abbrev QfX4_keep (G : va_G) (cA cB : ClassId) (h0 h1 h2 : Nat) (M : tMk) (kd : Int32) (t : Int32) : (Nat → Prop) → Array Value → State → Outcome → State → Prop := fun A => va_Qv (fun u : tMk => u = k_keep kd t M) (zz_B G vwCl (fun u : tMk => (wMk h0 h1 h2 cA cB u)) A) A
set_option maxHeartbeats 1000000 in
set_option maxRecDepth 100000 in
theorem kX4_keep (l : Launch) (G : va_G) (cA cB : ClassId) (tb : Nat × Nat × Nat) (h0 h1 h2 : Nat) (sz : Nat) (M : tMk) (kd : Int32) (t : Int32) (hI : kIM M) : Met l yX4_keep wsX4_keep rmX4_keep (zz_P (zS tb) G vwCl [(cA, .int), (cB, .boolean)] [.ref h0, .int kd, .int t] (wMk h0 h1 h2 cA cB M) sz) (QfX4_keep G cA cB h0 h1 h2 M kd t (va_A (wMk h0 h1 h2 cA cB M) sz)) 0 0 (va_A (wMk h0 h1 h2 cA cB M) sz) := by
  refine zz_Met (cc := cX4_keep) (maxL := 3) (ret := none) (Qf := QfX4_keep G cA cB h0 h1 h2 M kd t) (by decide) rfl (Nat.le_of_ble_eq_true rfl) ?_
  intro p e s m below meth c A ls hx hb hr hts hown hlocks hin hml hA hP hK hD hz hS hl
  have hl : lv_has ls 3 [(0, .ref h0), (1, .int kd), (2, .int t)] := hl
  have hP : va_P G vwCl [(h0, .inr (4, [.ref h1, .ref h2, .int M.2.2.1, .int M.2.2.2])), (h1, .inl (cA, 12, .inl M.1)), (h2, .inl (cA, 12, .inl M.2.1))] s.heap := hP
  have hD : va_D A [(h0, .inr (4, [.ref h1, .ref h2, .int M.2.2.1, .int M.2.2.2])), (h1, .inl (cA, 12, .inl M.1)), (h2, .inl (cA, 12, .inl M.2.1))] := hD
  refine lv_aload_n hx hb dX4_keep_0 rfl (lv_at hl 0 rfl) ?_
  refine va_get (D := G) (ci := 4) (v := .ref h1) (C := RX4) (T := TX4) (N := 4) hx hb hts iX4_keep_X4 hown hK hP 0 rfl rfl 0 (by decide) (hts _ mX4_keep_1) (fun _ h9 => h9) rfl dX4_keep_1 ?_
  refine lv_aload_n hx hb dX4_keep_4 rfl (lv_at hl 0 rfl) ?_
  refine va_get (D := G) (ci := 4) (v := .int M.2.2.1) (C := RX4) (T := TX4) (N := 4) hx hb hts iX4_keep_X4 hown hK hP 0 rfl rfl 2 (by decide) (hts _ mX4_keep_2) (fun _ h9 => h9) rfl dX4_keep_5 ?_
  refine lv_iload_n hx hb dX4_keep_8 rfl (lv_at hl 1 rfl) ?_
  refine zz_iast hx hb hK hP hD hS 1 0 M.2.2.1.toNatClampNeg rfl rfl rfl (hI.1) dX4_keep_9 (fun H locs hP hD hS => ?_)
  have hP : va_P G vwCl [(h0, .inr (4, [.ref h1, .ref h2, .int M.2.2.1, .int M.2.2.2])), (h1, .inl (cA, 12, .inl (upd M.1 M.2.2.1.toNatClampNeg kd))), (h2, .inl (cA, 12, .inl M.2.1))] H := hP
  have hD : va_D A [(h0, .inr (4, [.ref h1, .ref h2, .int M.2.2.1, .int M.2.2.2])), (h1, .inl (cA, 12, .inl (upd M.1 M.2.2.1.toNatClampNeg kd))), (h2, .inl (cA, 12, .inl M.2.1))] := hD
  refine lv_aload_n hx hb dX4_keep_10 rfl (lv_at hl 0 rfl) ?_
  refine va_get (D := G) (ci := 4) (v := .ref h2) (C := RX4) (T := TX4) (N := 4) hx hb hts iX4_keep_X4 hown hK hP 0 rfl rfl 1 (by decide) (hts _ mX4_keep_3) (fun _ h9 => h9) rfl dX4_keep_11 ?_
  refine lv_aload_n hx hb dX4_keep_14 rfl (lv_at hl 0 rfl) ?_
  refine va_get (D := G) (ci := 4) (v := .int M.2.2.1) (C := RX4) (T := TX4) (N := 4) hx hb hts iX4_keep_X4 hown hK hP 0 rfl rfl 2 (by decide) (hts _ mX4_keep_2) (fun _ h9 => h9) rfl dX4_keep_15 ?_
  refine lv_iload_n hx hb dX4_keep_18 rfl (lv_at hl 2 rfl) ?_
  refine zz_iast hx hb hK hP hD hS 2 0 M.2.2.1.toNatClampNeg rfl rfl rfl (hI.1) dX4_keep_19 (fun H locs hP hD hS => ?_)
  have hP : va_P G vwCl [(h0, .inr (4, [.ref h1, .ref h2, .int M.2.2.1, .int M.2.2.2])), (h1, .inl (cA, 12, .inl (upd M.1 M.2.2.1.toNatClampNeg kd))), (h2, .inl (cA, 12, .inl (upd M.2.1 M.2.2.1.toNatClampNeg t)))] H := hP
  have hD : va_D A [(h0, .inr (4, [.ref h1, .ref h2, .int M.2.2.1, .int M.2.2.2])), (h1, .inl (cA, 12, .inl (upd M.1 M.2.2.1.toNatClampNeg kd))), (h2, .inl (cA, 12, .inl (upd M.2.1 M.2.2.1.toNatClampNeg t)))] := hD
  refine lv_aload_n hx hb dX4_keep_20 rfl (lv_at hl 0 rfl) ?_
  refine lv_aload_n hx hb dX4_keep_21 rfl (lv_at hl 0 rfl) ?_
  refine va_get (D := G) (ci := 4) (v := .int M.2.2.1) (C := RX4) (T := TX4) (N := 4) hx hb hts iX4_keep_X4 hown hK hP 0 rfl rfl 2 (by decide) (hts _ mX4_keep_2) (fun _ h9 => h9) rfl dX4_keep_22 ?_
  refine lv_iconst (v := 1) hx hb dX4_keep_25 (by decide) ?_
  refine lv_iadd hx hb dX4_keep_26 ?_
  refine lv_bipush (v := 12) hx hb dX4_keep_27 (by decide) ?_
  refine lv_irem hx hb dX4_keep_29 (by decide) ?_
  refine va_put (D := G) (ci := 4) (v := .int ((M.2.2.1 + 1) - (M.2.2.1 + 1) / 12 * 12)) (ty := .int) (C := RX4) (T := TX4) (N := 4) hx hb hts iX4_keep_X4 tyX4 tyX4_ok nmX4 hown hK hP hD hS 0 rfl rfl 2 (by decide) (hts _ mX4_keep_2) (fun _ h9 => h9) rfl (by decide +kernel) rfl rfl (Nat.le_of_ble_eq_true rfl) dX4_keep_30 (fun H locs hP hD hS => ?_)
  have hP : va_P G vwCl [(h0, .inr (4, [.ref h1, .ref h2, .int ((M.2.2.1 + 1) - (M.2.2.1 + 1) / 12 * 12), .int M.2.2.2])), (h1, .inl (cA, 12, .inl (upd M.1 M.2.2.1.toNatClampNeg kd))), (h2, .inl (cA, 12, .inl (upd M.2.1 M.2.2.1.toNatClampNeg t)))] H := hP
  have hD : va_D A [(h0, .inr (4, [.ref h1, .ref h2, .int ((M.2.2.1 + 1) - (M.2.2.1 + 1) / 12 * 12), .int M.2.2.2])), (h1, .inl (cA, 12, .inl (upd M.1 M.2.2.1.toNatClampNeg kd))), (h2, .inl (cA, 12, .inl (upd M.2.1 M.2.2.1.toNatClampNeg t)))] := hD
  refine lv_aload_n hx hb dX4_keep_33 rfl (lv_at hl 0 rfl) ?_
  refine va_get (D := G) (ci := 4) (v := .int M.2.2.2) (C := RX4) (T := TX4) (N := 4) hx hb hts iX4_keep_X4 hown hK hP 0 rfl rfl 3 (by decide) (hts _ mX4_keep_4) (fun _ h9 => h9) rfl dX4_keep_34 ?_
  refine lv_bipush (v := 12) hx hb dX4_keep_37 (by decide) ?_
  refine lv_icmp_ge (tgt := 52) hx hb dX4_keep_39 (by decide) (fun c_1 => ?_) (fun c_1 => ?_)
  · have c_1 := zle_t c_1
    exact zz_rv (((upd M.1 M.2.2.1.toNatClampNeg kd), (upd M.2.1 M.2.2.1.toNatClampNeg t), ((M.2.2.1 + 1) - (M.2.2.1 + 1) / 12 * 12), M.2.2.2) : tMk) hx hb hr hlocks hS hP hD (by first | (simp [k_keep, k_rem, c_1]; done) | (symm; (first | refine (if_pos c_1).trans ?_ | refine (if_neg c_1).trans ?_ | refine (if_fb c_1).trans ?_ | skip); rfl) | (try simp [k_keep, k_rem] at c_1; simp [k_keep, k_rem, c_1]; done) | rfl) dX4_keep_52
  · have c_1 := zle_f c_1
    refine lv_aload_n hx hb dX4_keep_42 rfl (lv_at hl 0 rfl) ?_
    refine lv_dup hx hb dX4_keep_43 rfl ?_
    refine va_get (D := G) (ci := 4) (v := .int M.2.2.2) (C := RX4) (T := TX4) (N := 4) hx hb hts iX4_keep_X4 hown hK hP 0 rfl rfl 3 (by decide) (hts _ mX4_keep_4) (fun _ h9 => h9) rfl dX4_keep_44 ?_
    refine lv_iconst (v := 1) hx hb dX4_keep_47 (by decide) ?_
    refine lv_iadd hx hb dX4_keep_48 ?_
    refine va_put (D := G) (ci := 4) (v := .int (M.2.2.2 + 1)) (ty := .int) (C := RX4) (T := TX4) (N := 4) hx hb hts iX4_keep_X4 tyX4 tyX4_ok nmX4 hown hK hP hD hS 0 rfl rfl 3 (by decide) (hts _ mX4_keep_4) (fun _ h9 => h9) rfl (by decide +kernel) rfl rfl (Nat.le_of_ble_eq_true rfl) dX4_keep_49 (fun H locs hP hD hS => ?_)
    have hP : va_P G vwCl [(h0, .inr (4, [.ref h1, .ref h2, .int ((M.2.2.1 + 1) - (M.2.2.1 + 1) / 12 * 12), .int (M.2.2.2 + 1)])), (h1, .inl (cA, 12, .inl (upd M.1 M.2.2.1.toNatClampNeg kd))), (h2, .inl (cA, 12, .inl (upd M.2.1 M.2.2.1.toNatClampNeg t)))] H := hP
    have hD : va_D A [(h0, .inr (4, [.ref h1, .ref h2, .int ((M.2.2.1 + 1) - (M.2.2.1 + 1) / 12 * 12), .int (M.2.2.2 + 1)])), (h1, .inl (cA, 12, .inl (upd M.1 M.2.2.1.toNatClampNeg kd))), (h2, .inl (cA, 12, .inl (upd M.2.1 M.2.2.1.toNatClampNeg t)))] := hD
    exact zz_rv (((upd M.1 M.2.2.1.toNatClampNeg kd), (upd M.2.1 M.2.2.1.toNatClampNeg t), ((M.2.2.1 + 1) - (M.2.2.1 + 1) / 12 * 12), (M.2.2.2 + 1)) : tMk) hx hb hr hlocks hS hP hD (by first | (simp [k_keep, k_rem, c_1]; done) | (symm; (first | refine (if_pos c_1).trans ?_ | refine (if_neg c_1).trans ?_ | refine (if_fb c_1).trans ?_ | skip); rfl) | (try simp [k_keep, k_rem] at c_1; simp [k_keep, k_rem, c_1]; done) | rfl) dX4_keep_52
theorem iX4_has_X4 : ∀ w ∈ u_ws RX4 TX4 4, w ∈ wsX4_has := by decide +kernel
theorem mX4_has_1 : Cond.fieldLink RX4 22 "ChamberPacer$Markers" "count" "I" ∈ wsX4_has := by decide +kernel
abbrev rmX4_has : Room := { frames := 0, cells := 0, slots := 0, locals := 0 }
abbrev QfX4_has (G : va_G) (cA cB : ClassId) (h0 h1 h2 : Nat) (M : tMk) (k : Int32) : (Nat → Prop) → Array Value → State → Outcome → State → Prop := fun A => va_Qi (fun (r : Int32) (u : Unit) => r = bI (k_has M k)) (zz_B G vwCl (fun _ : Unit => (wMk h0 h1 h2 cA cB M)) A) A
set_option maxHeartbeats 1000000 in
set_option maxRecDepth 100000 in
theorem kX4_has (l : Launch) (G : va_G) (cA cB : ClassId) (tb : Nat × Nat × Nat) (h0 h1 h2 : Nat) (sz : Nat) (M : tMk) (k : Int32) : Met l yX4_has wsX4_has rmX4_has (zz_P (zS tb) G vwCl [(cA, .int), (cB, .boolean)] [.ref h0, .int k] (wMk h0 h1 h2 cA cB M) sz) (QfX4_has G cA cB h0 h1 h2 M k (va_A (wMk h0 h1 h2 cA cB M) sz)) 0 0 (va_A (wMk h0 h1 h2 cA cB M) sz) := by
  refine zz_Met (cc := cX4_has) (maxL := 2) (ret := (some .boolean)) (Qf := QfX4_has G cA cB h0 h1 h2 M k) (by decide) rfl (Nat.le_of_ble_eq_true rfl) ?_
  intro p e s m below meth c A ls hx hb hr hts hown hlocks hin hml hA hP hK hD hz hS hl
  have hl : lv_has ls 2 [(0, .ref h0), (1, .int k)] := hl
  have hP : va_P G vwCl [(h0, .inr (4, [.ref h1, .ref h2, .int M.2.2.1, .int M.2.2.2])), (h1, .inl (cA, 12, .inl M.1)), (h2, .inl (cA, 12, .inl M.2.1))] s.heap := hP
  have hD : va_D A [(h0, .inr (4, [.ref h1, .ref h2, .int M.2.2.1, .int M.2.2.2])), (h1, .inl (cA, 12, .inl M.1)), (h2, .inl (cA, 12, .inl M.2.1))] := hD
  refine lv_iload_n hx hb dX4_has_0 rfl (lv_at hl 1 rfl) ?_
  refine lv_if_lt (tgt := 16) hx hb dX4_has_1 (by decide) (fun c_1 => ?_) (fun c_1 => ?_)
  · have c_1 := zlt_t c_1
    refine lv_iconst (v := 0) hx hb dX4_has_16 (by decide) ?_
    exact zz_rz (v := 0) () hx hb hr (by decide +kernel) hlocks hS hP hD (by first | (simp [k_has, bI, c_1]; done) | (symm; (first | refine (if_pos c_1).trans ?_ | refine (if_neg c_1).trans ?_ | refine (if_fb c_1).trans ?_ | skip); rfl) | (try simp [k_has, bI] at c_1; simp [k_has, bI, c_1]; done) | rfl) dX4_has_17
  · have c_1 := zlt_f c_1
    refine lv_iload_n hx hb dX4_has_4 rfl (lv_at hl 1 rfl) ?_
    refine lv_aload_n hx hb dX4_has_5 rfl (lv_at hl 0 rfl) ?_
    refine va_get (D := G) (ci := 4) (v := .int M.2.2.2) (C := RX4) (T := TX4) (N := 4) hx hb hts iX4_has_X4 hown hK hP 0 rfl rfl 3 (by decide) (hts _ mX4_has_1) (fun _ h9 => h9) rfl dX4_has_6 ?_
    refine lv_icmp_ge (tgt := 16) hx hb dX4_has_9 (by decide) (fun c_2 => ?_) (fun c_2 => ?_)
    · have c_2 := zle_t c_2
      refine lv_iconst (v := 0) hx hb dX4_has_16 (by decide) ?_
      exact zz_rz (v := 0) () hx hb hr (by decide +kernel) hlocks hS hP hD (by first | (simp [k_has, bI, c_1, c_2]; done) | (symm; (first | refine (if_pos c_1).trans ?_ | refine (if_neg c_1).trans ?_ | refine (if_fb c_1).trans ?_ | skip); (first | refine (if_pos c_2).trans ?_ | refine (if_neg c_2).trans ?_ | refine (if_fb c_2).trans ?_ | skip); rfl) | (try simp [k_has, bI] at c_1; try simp [k_has, bI] at c_2; simp [k_has, bI, c_1, c_2]; done) | rfl) dX4_has_17
    · have c_2 := zle_f c_2
      refine lv_iconst (v := 1) hx hb dX4_has_12 (by decide) ?_
      refine lv_goto (tgt := 17) hx hb dX4_has_13 (by decide) ?_
      exact zz_rz (v := 1) () hx hb hr (by decide +kernel) hlocks hS hP hD (by first | (simp [k_has, bI, c_1, c_2]; done) | (symm; (first | refine (if_pos c_1).trans ?_ | refine (if_neg c_1).trans ?_ | refine (if_fb c_1).trans ?_ | skip); (first | refine (if_pos c_2).trans ?_ | refine (if_neg c_2).trans ?_ | refine (if_fb c_2).trans ?_ | skip); rfl) | (try simp [k_has, bI] at c_1; try simp [k_has, bI] at c_2; simp [k_has, bI, c_1, c_2]; done) | rfl) dX4_has_17
theorem iX4_place_X4 : ∀ w ∈ u_ws RX4 TX4 4, w ∈ wsX4_place := by decide +kernel
theorem mX4_place_1 : Cond.fieldLink RX4 18 "ChamberPacer$Markers" "next" "I" ∈ wsX4_place := by decide +kernel
abbrev rmX4_place : Room := { frames := 0, cells := 0, slots := 0, locals := 0 }
abbrev QfX4_place (G : va_G) (cA cB : ClassId) (h0 h1 h2 : Nat) (M : tMk) (k : Int32) : (Nat → Prop) → Array Value → State → Outcome → State → Prop := fun A => va_Qi (fun (r : Int32) (u : Unit) => r = k_place M k) (zz_B G vwCl (fun _ : Unit => (wMk h0 h1 h2 cA cB M)) A) A
set_option maxHeartbeats 1000000 in
set_option maxRecDepth 100000 in
theorem kX4_place (l : Launch) (G : va_G) (cA cB : ClassId) (tb : Nat × Nat × Nat) (h0 h1 h2 : Nat) (sz : Nat) (M : tMk) (k : Int32) : Met l yX4_place wsX4_place rmX4_place (zz_P (zS tb) G vwCl [(cA, .int), (cB, .boolean)] [.ref h0, .int k] (wMk h0 h1 h2 cA cB M) sz) (QfX4_place G cA cB h0 h1 h2 M k (va_A (wMk h0 h1 h2 cA cB M) sz)) 0 0 (va_A (wMk h0 h1 h2 cA cB M) sz) := by
  refine zz_Met (cc := cX4_place) (maxL := 2) (ret := (some .int)) (Qf := QfX4_place G cA cB h0 h1 h2 M k) (by decide) rfl (Nat.le_of_ble_eq_true rfl) ?_
  intro p e s m below meth c A ls hx hb hr hts hown hlocks hin hml hA hP hK hD hz hS hl
  have hl : lv_has ls 2 [(0, .ref h0), (1, .int k)] := hl
  have hP : va_P G vwCl [(h0, .inr (4, [.ref h1, .ref h2, .int M.2.2.1, .int M.2.2.2])), (h1, .inl (cA, 12, .inl M.1)), (h2, .inl (cA, 12, .inl M.2.1))] s.heap := hP
  have hD : va_D A [(h0, .inr (4, [.ref h1, .ref h2, .int M.2.2.1, .int M.2.2.2])), (h1, .inl (cA, 12, .inl M.1)), (h2, .inl (cA, 12, .inl M.2.1))] := hD
  refine lv_aload_n hx hb dX4_place_0 rfl (lv_at hl 0 rfl) ?_
  refine va_get (D := G) (ci := 4) (v := .int M.2.2.1) (C := RX4) (T := TX4) (N := 4) hx hb hts iX4_place_X4 hown hK hP 0 rfl rfl 2 (by decide) (hts _ mX4_place_1) (fun _ h9 => h9) rfl dX4_place_1 ?_
  refine lv_bipush (v := 12) hx hb dX4_place_4 (by decide) ?_
  refine lv_iadd hx hb dX4_place_6 ?_
  refine lv_iconst (v := 1) hx hb dX4_place_7 (by decide) ?_
  refine lv_isub hx hb dX4_place_8 ?_
  refine lv_iload_n hx hb dX4_place_9 rfl (lv_at hl 1 rfl) ?_
  refine lv_isub hx hb dX4_place_10 ?_
  refine lv_bipush (v := 12) hx hb dX4_place_11 (by decide) ?_
  refine lv_irem hx hb dX4_place_13 (by decide) ?_
  exact zz_ri (v := ((((M.2.2.1 + 12) - 1) - k) - (((M.2.2.1 + 12) - 1) - k) / 12 * 12)) () hx hb hr hlocks hS hP hD (by first | rfl | (rfl) | (simp [])) dX4_place_14
theorem iX4_kind_X4 : ∀ w ∈ u_ws RX4 TX4 4, w ∈ wsX4_kind := by decide +kernel
theorem mX4_kind_1 : Cond.fieldLink RX4 11 "ChamberPacer$Markers" "kinds" "[I" ∈ wsX4_kind := by decide +kernel
abbrev rmX4_kind : Room := { frames := 1, cells := 0, slots := 0, locals := 21 }
abbrev QfX4_kind (G : va_G) (cA cB : ClassId) (h0 h1 h2 : Nat) (M : tMk) (k : Int32) : (Nat → Prop) → Array Value → State → Outcome → State → Prop := fun A => va_Qi (fun (r : Int32) (u : Unit) => r = k_kind M k) (zz_B G vwCl (fun _ : Unit => (wMk h0 h1 h2 cA cB M)) A) A
set_option maxHeartbeats 1000000 in
set_option maxRecDepth 100000 in
theorem kX4_kind (l : Launch) (G : va_G) (cA cB : ClassId) (tb : Nat × Nat × Nat) (h0 h1 h2 : Nat) (sz : Nat) (M : tMk) (k : Int32) (hI : kIM M) : Met l yX4_kind wsX4_kind rmX4_kind (zz_P (zS tb) G vwCl [(cA, .int), (cB, .boolean)] [.ref h0, .int k] (wMk h0 h1 h2 cA cB M) sz) (QfX4_kind G cA cB h0 h1 h2 M k (va_A (wMk h0 h1 h2 cA cB M) sz)) 0 0 (va_A (wMk h0 h1 h2 cA cB M) sz) := by
  refine zz_Met (cc := cX4_kind) (maxL := 2) (ret := (some .int)) (Qf := QfX4_kind G cA cB h0 h1 h2 M k) (by decide) rfl (Nat.le_of_ble_eq_true rfl) ?_
  intro p e s m below meth c A ls hx hb hr hts hown hlocks hin hml hA hP hK hD hz hS hl
  have hl : lv_has ls 2 [(0, .ref h0), (1, .int k)] := hl
  have hP : va_P G vwCl [(h0, .inr (4, [.ref h1, .ref h2, .int M.2.2.1, .int M.2.2.2])), (h1, .inl (cA, 12, .inl M.1)), (h2, .inl (cA, 12, .inl M.2.1))] s.heap := hP
  have hD : va_D A [(h0, .inr (4, [.ref h1, .ref h2, .int M.2.2.1, .int M.2.2.2])), (h1, .inl (cA, 12, .inl M.1)), (h2, .inl (cA, 12, .inl M.2.1))] := hD
  refine lv_aload_n hx hb dX4_kind_0 rfl (lv_at hl 0 rfl) ?_
  refine lv_iload_n hx hb dX4_kind_1 rfl (lv_at hl 1 rfl) ?_
  refine zz_ci (wr := []) (va_runV (As := [.int k]) (rest := []) ⟨hx, hb, hml, hown, hts⟩ (kX4_has l G cA cB tb h0 h1 h2 s.heap.size M k) (cwV 1 hts gX4_kind_X4_has rfl rfl rfl (by decide +kernel) ⟨Nat.le_of_ble_eq_true rfl, Nat.le_of_ble_eq_true rfl⟩) (zz_preV zS_ok hK hP hD hS hA hz [0, 1, 2] rfl (by decide) (ci := 4) (q0 := 0) (C := RX4) rfl rfl) rfl rfl hl.1 rfl (lv_room (Nat.le_of_ble_eq_true rfl)) dX4_kind_2 ⟨Nat.zero_le _, Nat.zero_le _⟩) hP hD hS hA [0, 1, 2] [] rfl rfl (by decide) (by decide) (fun r u H locs hw hP hD hS => ?_)
  have hw := hw.symm; subst hw
  have hP : va_P G vwCl [(h0, .inr (4, [.ref h1, .ref h2, .int M.2.2.1, .int M.2.2.2])), (h1, .inl (cA, 12, .inl M.1)), (h2, .inl (cA, 12, .inl M.2.1))] H := hP
  have hD : va_D A [(h0, .inr (4, [.ref h1, .ref h2, .int M.2.2.1, .int M.2.2.2])), (h1, .inl (cA, 12, .inl M.1)), (h2, .inl (cA, 12, .inl M.2.1))] := hD
  refine lv_if_eq (tgt := 21) hx hb dX4_kind_5 (by decide) (fun c_1 => ?_) (fun c_1 => ?_)
  · have c_1 := bI_f c_1
    refine lv_iconst (v := (-1)) hx hb dX4_kind_21 (by decide) ?_
    exact zz_ri (v := (-1)) () hx hb hr hlocks hS hP hD (by first | (simp [k_kind, c_1]; done) | (symm; (first | refine (if_pos c_1).trans ?_ | refine (if_neg c_1).trans ?_ | refine (if_fb c_1).trans ?_ | skip); rfl) | (try simp [k_kind] at c_1; simp [k_kind, c_1]; done) | rfl) dX4_kind_22
  · have c_1 := bI_t c_1
    refine lv_aload_n hx hb dX4_kind_8 rfl (lv_at hl 0 rfl) ?_
    refine va_get (D := G) (ci := 4) (v := .ref h1) (C := RX4) (T := TX4) (N := 4) hx hb hts iX4_kind_X4 hown hK hP 0 rfl rfl 0 (by decide) (hts _ mX4_kind_1) (fun _ h9 => h9) rfl dX4_kind_9 ?_
    refine lv_aload_n hx hb dX4_kind_12 rfl (lv_at hl 0 rfl) ?_
    refine lv_iload_n hx hb dX4_kind_13 rfl (lv_at hl 1 rfl) ?_
    refine zz_ci (wr := []) (va_runV (As := [.int k]) (rest := [.ref h1]) ⟨hx, hb, hml, hown, hts⟩ (kX4_place l G cA cB tb h0 h1 h2 H.size M k) (cwV 1 hts gX4_kind_X4_place rfl rfl rfl (by decide +kernel) ⟨Nat.le_of_ble_eq_true rfl, Nat.le_of_ble_eq_true rfl⟩) (zz_preV zS_ok hK hP hD hS hA hz [0, 1, 2] rfl (by decide) (ci := 4) (q0 := 0) (C := RX4) rfl rfl) rfl rfl hl.1 rfl (lv_room (Nat.le_of_ble_eq_true rfl)) dX4_kind_14 ⟨Nat.zero_le _, Nat.zero_le _⟩) hP hD hS hA [0, 1, 2] [] rfl rfl (by decide) (by decide) (fun r u H locs hw hP hD hS => ?_)
    have hw := hw.symm; subst hw
    have hP : va_P G vwCl [(h0, .inr (4, [.ref h1, .ref h2, .int M.2.2.1, .int M.2.2.2])), (h1, .inl (cA, 12, .inl M.1)), (h2, .inl (cA, 12, .inl M.2.1))] H := hP
    have hD : va_D A [(h0, .inr (4, [.ref h1, .ref h2, .int M.2.2.1, .int M.2.2.2])), (h1, .inl (cA, 12, .inl M.1)), (h2, .inl (cA, 12, .inl M.2.1))] := hD
    refine zz_iald hx hb hK hP 1 0 ((k_place M k).toNatClampNeg) rfl rfl rfl (vp_pl hI c_1) dX4_kind_17 ?_
    refine lv_goto (tgt := 22) hx hb dX4_kind_18 (by decide) ?_
    exact zz_ri (v := (M.1 ((k_place M k).toNatClampNeg))) () hx hb hr hlocks hS hP hD (by first | (simp [k_kind, c_1]; done) | (symm; (first | refine (if_pos c_1).trans ?_ | refine (if_neg c_1).trans ?_ | refine (if_fb c_1).trans ?_ | skip); rfl) | (try simp [k_kind] at c_1; simp [k_kind, c_1]; done) | rfl) dX4_kind_22
theorem iX4_time_X4 : ∀ w ∈ u_ws RX4 TX4 4, w ∈ wsX4_time := by decide +kernel
theorem mX4_time_1 : Cond.fieldLink RX4 15 "ChamberPacer$Markers" "times" "[I" ∈ wsX4_time := by decide +kernel
abbrev rmX4_time : Room := { frames := 1, cells := 0, slots := 0, locals := 21 }
abbrev QfX4_time (G : va_G) (cA cB : ClassId) (h0 h1 h2 : Nat) (M : tMk) (k : Int32) : (Nat → Prop) → Array Value → State → Outcome → State → Prop := fun A => va_Qi (fun (r : Int32) (u : Unit) => r = k_time M k) (zz_B G vwCl (fun _ : Unit => (wMk h0 h1 h2 cA cB M)) A) A
set_option maxHeartbeats 1000000 in
set_option maxRecDepth 100000 in
theorem kX4_time (l : Launch) (G : va_G) (cA cB : ClassId) (tb : Nat × Nat × Nat) (h0 h1 h2 : Nat) (sz : Nat) (M : tMk) (k : Int32) (hI : kIM M) : Met l yX4_time wsX4_time rmX4_time (zz_P (zS tb) G vwCl [(cA, .int), (cB, .boolean)] [.ref h0, .int k] (wMk h0 h1 h2 cA cB M) sz) (QfX4_time G cA cB h0 h1 h2 M k (va_A (wMk h0 h1 h2 cA cB M) sz)) 0 0 (va_A (wMk h0 h1 h2 cA cB M) sz) := by
  refine zz_Met (cc := cX4_time) (maxL := 2) (ret := (some .int)) (Qf := QfX4_time G cA cB h0 h1 h2 M k) (by decide) rfl (Nat.le_of_ble_eq_true rfl) ?_
  intro p e s m below meth c A ls hx hb hr hts hown hlocks hin hml hA hP hK hD hz hS hl
  have hl : lv_has ls 2 [(0, .ref h0), (1, .int k)] := hl
  have hP : va_P G vwCl [(h0, .inr (4, [.ref h1, .ref h2, .int M.2.2.1, .int M.2.2.2])), (h1, .inl (cA, 12, .inl M.1)), (h2, .inl (cA, 12, .inl M.2.1))] s.heap := hP
  have hD : va_D A [(h0, .inr (4, [.ref h1, .ref h2, .int M.2.2.1, .int M.2.2.2])), (h1, .inl (cA, 12, .inl M.1)), (h2, .inl (cA, 12, .inl M.2.1))] := hD
  refine lv_aload_n hx hb dX4_time_0 rfl (lv_at hl 0 rfl) ?_
  refine lv_iload_n hx hb dX4_time_1 rfl (lv_at hl 1 rfl) ?_
  refine zz_ci (wr := []) (va_runV (As := [.int k]) (rest := []) ⟨hx, hb, hml, hown, hts⟩ (kX4_has l G cA cB tb h0 h1 h2 s.heap.size M k) (cwV 1 hts gX4_time_X4_has rfl rfl rfl (by decide +kernel) ⟨Nat.le_of_ble_eq_true rfl, Nat.le_of_ble_eq_true rfl⟩) (zz_preV zS_ok hK hP hD hS hA hz [0, 1, 2] rfl (by decide) (ci := 4) (q0 := 0) (C := RX4) rfl rfl) rfl rfl hl.1 rfl (lv_room (Nat.le_of_ble_eq_true rfl)) dX4_time_2 ⟨Nat.zero_le _, Nat.zero_le _⟩) hP hD hS hA [0, 1, 2] [] rfl rfl (by decide) (by decide) (fun r u H locs hw hP hD hS => ?_)
  have hw := hw.symm; subst hw
  have hP : va_P G vwCl [(h0, .inr (4, [.ref h1, .ref h2, .int M.2.2.1, .int M.2.2.2])), (h1, .inl (cA, 12, .inl M.1)), (h2, .inl (cA, 12, .inl M.2.1))] H := hP
  have hD : va_D A [(h0, .inr (4, [.ref h1, .ref h2, .int M.2.2.1, .int M.2.2.2])), (h1, .inl (cA, 12, .inl M.1)), (h2, .inl (cA, 12, .inl M.2.1))] := hD
  refine lv_if_eq (tgt := 21) hx hb dX4_time_5 (by decide) (fun c_1 => ?_) (fun c_1 => ?_)
  · have c_1 := bI_f c_1
    refine lv_iconst (v := (-1)) hx hb dX4_time_21 (by decide) ?_
    exact zz_ri (v := (-1)) () hx hb hr hlocks hS hP hD (by first | (simp [k_time, c_1]; done) | (symm; (first | refine (if_pos c_1).trans ?_ | refine (if_neg c_1).trans ?_ | refine (if_fb c_1).trans ?_ | skip); rfl) | (try simp [k_time] at c_1; simp [k_time, c_1]; done) | rfl) dX4_time_22
  · have c_1 := bI_t c_1
    refine lv_aload_n hx hb dX4_time_8 rfl (lv_at hl 0 rfl) ?_
    refine va_get (D := G) (ci := 4) (v := .ref h2) (C := RX4) (T := TX4) (N := 4) hx hb hts iX4_time_X4 hown hK hP 0 rfl rfl 1 (by decide) (hts _ mX4_time_1) (fun _ h9 => h9) rfl dX4_time_9 ?_
    refine lv_aload_n hx hb dX4_time_12 rfl (lv_at hl 0 rfl) ?_
    refine lv_iload_n hx hb dX4_time_13 rfl (lv_at hl 1 rfl) ?_
    refine zz_ci (wr := []) (va_runV (As := [.int k]) (rest := [.ref h2]) ⟨hx, hb, hml, hown, hts⟩ (kX4_place l G cA cB tb h0 h1 h2 H.size M k) (cwV 1 hts gX4_time_X4_place rfl rfl rfl (by decide +kernel) ⟨Nat.le_of_ble_eq_true rfl, Nat.le_of_ble_eq_true rfl⟩) (zz_preV zS_ok hK hP hD hS hA hz [0, 1, 2] rfl (by decide) (ci := 4) (q0 := 0) (C := RX4) rfl rfl) rfl rfl hl.1 rfl (lv_room (Nat.le_of_ble_eq_true rfl)) dX4_time_14 ⟨Nat.zero_le _, Nat.zero_le _⟩) hP hD hS hA [0, 1, 2] [] rfl rfl (by decide) (by decide) (fun r u H locs hw hP hD hS => ?_)
    have hw := hw.symm; subst hw
    have hP : va_P G vwCl [(h0, .inr (4, [.ref h1, .ref h2, .int M.2.2.1, .int M.2.2.2])), (h1, .inl (cA, 12, .inl M.1)), (h2, .inl (cA, 12, .inl M.2.1))] H := hP
    have hD : va_D A [(h0, .inr (4, [.ref h1, .ref h2, .int M.2.2.1, .int M.2.2.2])), (h1, .inl (cA, 12, .inl M.1)), (h2, .inl (cA, 12, .inl M.2.1))] := hD
    refine zz_iald hx hb hK hP 2 0 ((k_place M k).toNatClampNeg) rfl rfl rfl (vp_pl hI c_1) dX4_time_17 ?_
    refine lv_goto (tgt := 22) hx hb dX4_time_18 (by decide) ?_
    exact zz_ri (v := (M.2.1 ((k_place M k).toNatClampNeg))) () hx hb hr hlocks hS hP hD (by first | (simp [k_time, c_1]; done) | (symm; (first | refine (if_pos c_1).trans ?_ | refine (if_neg c_1).trans ?_ | refine (if_fb c_1).trans ?_ | skip); rfl) | (try simp [k_time] at c_1; simp [k_time, c_1]; done) | rfl) dX4_time_22

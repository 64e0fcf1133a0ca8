theorem iX9_parameter_X9 : ∀ w ∈ u_ws RX9 TX9 31, w ∈ wsX9_parameter := by decide +kernel
theorem mX9_parameter_1 : Cond.fieldLink RX9 49 "ChamberPacerModel" "code" "I" ∈ wsX9_parameter := by decide +kernel
theorem mX9_parameter_2 : Cond.fieldLink RX9 16 "ChamberPacerModel" "now" "[I" ∈ wsX9_parameter := by decide +kernel
abbrev rmX9_parameter : Room := { frames := 0, cells := 0, slots := 0, locals := 0 }
abbrev QfX9_parameter (G : va_G) (cA cB : ClassId) (g : Nat → Nat) (Y : tMd) (k : Int32) : (Nat → Prop) → Array Value → State → Outcome → State → Prop := fun A => va_Qi (fun (r : Int32) (u : tMd) => r = m_par k Y ∧ u = m_c0 Y) (zz_B G vwCl (fun u : tMd => (wMD g cA cB u)) A) A
set_option maxHeartbeats 1000000 in
set_option maxRecDepth 100000 in
theorem kX9_parameter (l : Launch) (G : va_G) (cA cB : ClassId) (tb : Nat × Nat × Nat) (g : Nat → Nat) (sz : Nat) (Y : tMd) (k : Int32) : Met l yX9_parameter wsX9_parameter rmX9_parameter (zz_P (zS tb) G vwCl [(cA, .int), (cB, .boolean)] [.ref (g 0), .int k] (wMD g cA cB Y) sz) (QfX9_parameter G cA cB g Y k (va_A (wMD g cA cB Y) sz)) 0 0 (va_A (wMD g cA cB Y) sz) := by
  refine zz_Met (cc := cX9_parameter) (maxL := 2) (ret := (some .int)) (Qf := QfX9_parameter G cA cB g Y k) (by decide) rfl (Nat.le_of_ble_eq_true rfl) ?_
  intro p e s m below meth c A ls hx hb hr hts hown hlocks hin hml hA hP hK hD hz hS hl
  have hl : lv_has ls 2 [(0, .ref (g 0)), (1, .int k)] := hl
  have hP : va_P G vwCl [((g 0), .inr (9, [.ref (g 1), .ref (g 2), .ref (g 3), .ref (g 4), .ref (g 5), .int Y.2.1.1, .int Y.2.2.2.2.2.1.1, .int Y.2.1.2.1, .int Y.2.1.2.2.1, .int Y.2.1.2.2.2.1, .int (bI Y.2.1.2.2.2.2.1), .int Y.2.1.2.2.2.2.2.1, .int (bI Y.2.1.2.2.2.2.2.2), .int Y.2.2.1.1, .int Y.2.2.1.2, .int Y.2.2.2.1.1, .int Y.2.2.2.1.2, .int Y.2.2.2.2.1.1, .int Y.2.2.2.2.1.2.1, .int (bI Y.2.2.2.2.1.2.2), .int Y.2.2.2.2.2.2.1.2, .int Y.2.2.2.2.2.1.2.1, .int Y.2.2.2.2.2.1.2.2, .ref (g 6), .int Y.2.2.2.2.2.2.2.2.2.1, .int Y.2.2.2.2.2.2.2.2.1.2, .ref (g 7), .int Y.2.2.2.2.2.2.2.1.2.2, .ref (g 8), .ref (g 9), .int Y.2.2.2.2.2.2.2.2.2.2])), ((g 1), .inl (cA, 14, .inl Y.1.1)), ((g 2), .inl (cA, 14, .inl Y.1.2.1)), ((g 3), .inl (cA, 14, .inl Y.1.2.2.1)), ((g 4), .inl (cA, 14, .inl Y.1.2.2.2.1)), ((g 5), .inl (cB, 14, .inl Y.1.2.2.2.2)), ((g 6), .inl (cA, 8, .inl Y.2.2.2.2.2.2.1.1)), ((g 7), .inl (cA, 6, .inl Y.2.2.2.2.2.2.2.2.1.1)), ((g 8), .inl (cA, 12, .inl Y.2.2.2.2.2.2.2.1.1)), ((g 9), .inl (cA, 12, .inl Y.2.2.2.2.2.2.2.1.2.1))] s.heap := hP
  have hD : va_D A [((g 0), .inr (9, [.ref (g 1), .ref (g 2), .ref (g 3), .ref (g 4), .ref (g 5), .int Y.2.1.1, .int Y.2.2.2.2.2.1.1, .int Y.2.1.2.1, .int Y.2.1.2.2.1, .int Y.2.1.2.2.2.1, .int (bI Y.2.1.2.2.2.2.1), .int Y.2.1.2.2.2.2.2.1, .int (bI Y.2.1.2.2.2.2.2.2), .int Y.2.2.1.1, .int Y.2.2.1.2, .int Y.2.2.2.1.1, .int Y.2.2.2.1.2, .int Y.2.2.2.2.1.1, .int Y.2.2.2.2.1.2.1, .int (bI Y.2.2.2.2.1.2.2), .int Y.2.2.2.2.2.2.1.2, .int Y.2.2.2.2.2.1.2.1, .int Y.2.2.2.2.2.1.2.2, .ref (g 6), .int Y.2.2.2.2.2.2.2.2.2.1, .int Y.2.2.2.2.2.2.2.2.1.2, .ref (g 7), .int Y.2.2.2.2.2.2.2.1.2.2, .ref (g 8), .ref (g 9), .int Y.2.2.2.2.2.2.2.2.2.2])), ((g 1), .inl (cA, 14, .inl Y.1.1)), ((g 2), .inl (cA, 14, .inl Y.1.2.1)), ((g 3), .inl (cA, 14, .inl Y.1.2.2.1)), ((g 4), .inl (cA, 14, .inl Y.1.2.2.2.1)), ((g 5), .inl (cB, 14, .inl Y.1.2.2.2.2)), ((g 6), .inl (cA, 8, .inl Y.2.2.2.2.2.2.1.1)), ((g 7), .inl (cA, 6, .inl Y.2.2.2.2.2.2.2.2.1.1)), ((g 8), .inl (cA, 12, .inl Y.2.2.2.2.2.2.2.1.1)), ((g 9), .inl (cA, 12, .inl Y.2.2.2.2.2.2.2.1.2.1))] := hD
  refine lv_aload_n hx hb dX9_parameter_0 rfl (lv_at hl 0 rfl) ?_
  refine lv_iconst (v := 0) hx hb dX9_parameter_1 (by decide) ?_
  refine va_put (D := G) (ci := 9) (v := .int 0) (ty := .int) (C := RX9) (T := TX9) (N := 31) hx hb hts iX9_parameter_X9 tyX9 tyX9_ok nmX9 hown hK hP hD hS 0 rfl rfl 30 (by decide) (hts _ mX9_parameter_1) (fun _ h9 => h9) rfl (by decide +kernel) rfl rfl (Nat.le_of_ble_eq_true rfl) dX9_parameter_2 (fun H locs hP hD hS => ?_)
  have hP : va_P G vwCl [((g 0), .inr (9, [.ref (g 1), .ref (g 2), .ref (g 3), .ref (g 4), .ref (g 5), .int Y.2.1.1, .int Y.2.2.2.2.2.1.1, .int Y.2.1.2.1, .int Y.2.1.2.2.1, .int Y.2.1.2.2.2.1, .int (bI Y.2.1.2.2.2.2.1), .int Y.2.1.2.2.2.2.2.1, .int (bI Y.2.1.2.2.2.2.2.2), .int Y.2.2.1.1, .int Y.2.2.1.2, .int Y.2.2.2.1.1, .int Y.2.2.2.1.2, .int Y.2.2.2.2.1.1, .int Y.2.2.2.2.1.2.1, .int (bI Y.2.2.2.2.1.2.2), .int Y.2.2.2.2.2.2.1.2, .int Y.2.2.2.2.2.1.2.1, .int Y.2.2.2.2.2.1.2.2, .ref (g 6), .int Y.2.2.2.2.2.2.2.2.2.1, .int Y.2.2.2.2.2.2.2.2.1.2, .ref (g 7), .int Y.2.2.2.2.2.2.2.1.2.2, .ref (g 8), .ref (g 9), .int 0])), ((g 1), .inl (cA, 14, .inl Y.1.1)), ((g 2), .inl (cA, 14, .inl Y.1.2.1)), ((g 3), .inl (cA, 14, .inl Y.1.2.2.1)), ((g 4), .inl (cA, 14, .inl Y.1.2.2.2.1)), ((g 5), .inl (cB, 14, .inl Y.1.2.2.2.2)), ((g 6), .inl (cA, 8, .inl Y.2.2.2.2.2.2.1.1)), ((g 7), .inl (cA, 6, .inl Y.2.2.2.2.2.2.2.2.1.1)), ((g 8), .inl (cA, 12, .inl Y.2.2.2.2.2.2.2.1.1)), ((g 9), .inl (cA, 12, .inl Y.2.2.2.2.2.2.2.1.2.1))] H := hP
  have hD : va_D A [((g 0), .inr (9, [.ref (g 1), .ref (g 2), .ref (g 3), .ref (g 4), .ref (g 5), .int Y.2.1.1, .int Y.2.2.2.2.2.1.1, .int Y.2.1.2.1, .int Y.2.1.2.2.1, .int Y.2.1.2.2.2.1, .int (bI Y.2.1.2.2.2.2.1), .int Y.2.1.2.2.2.2.2.1, .int (bI Y.2.1.2.2.2.2.2.2), .int Y.2.2.1.1, .int Y.2.2.1.2, .int Y.2.2.2.1.1, .int Y.2.2.2.1.2, .int Y.2.2.2.2.1.1, .int Y.2.2.2.2.1.2.1, .int (bI Y.2.2.2.2.1.2.2), .int Y.2.2.2.2.2.2.1.2, .int Y.2.2.2.2.2.1.2.1, .int Y.2.2.2.2.2.1.2.2, .ref (g 6), .int Y.2.2.2.2.2.2.2.2.2.1, .int Y.2.2.2.2.2.2.2.2.1.2, .ref (g 7), .int Y.2.2.2.2.2.2.2.1.2.2, .ref (g 8), .ref (g 9), .int 0])), ((g 1), .inl (cA, 14, .inl Y.1.1)), ((g 2), .inl (cA, 14, .inl Y.1.2.1)), ((g 3), .inl (cA, 14, .inl Y.1.2.2.1)), ((g 4), .inl (cA, 14, .inl Y.1.2.2.2.1)), ((g 5), .inl (cB, 14, .inl Y.1.2.2.2.2)), ((g 6), .inl (cA, 8, .inl Y.2.2.2.2.2.2.1.1)), ((g 7), .inl (cA, 6, .inl Y.2.2.2.2.2.2.2.2.1.1)), ((g 8), .inl (cA, 12, .inl Y.2.2.2.2.2.2.2.1.1)), ((g 9), .inl (cA, 12, .inl Y.2.2.2.2.2.2.2.1.2.1))] := hD
  refine lv_iload_n hx hb dX9_parameter_5 rfl (lv_at hl 1 rfl) ?_
  refine lv_if_lt (tgt := 15) hx hb dX9_parameter_6 (by decide) (fun c_1 => ?_) (fun c_1 => ?_)
  · have c_1 := zlt_t c_1
    refine lv_iconst (v := (-1)) hx hb dX9_parameter_15 (by decide) ?_
    refine lv_goto (tgt := 25) hx hb dX9_parameter_16 (by decide) ?_
    exact zz_ri (v := (-1)) ((Y.1, Y.2.1, Y.2.2.1, Y.2.2.2.1, Y.2.2.2.2.1, Y.2.2.2.2.2.1, Y.2.2.2.2.2.2.1, Y.2.2.2.2.2.2.2.1, Y.2.2.2.2.2.2.2.2.1, (Y.2.2.2.2.2.2.2.2.2.1, 0)) : tMd) hx hb hr hlocks hS hP hD ⟨by simp [m_par, c_1], by rfl⟩ dX9_parameter_25
  · have c_1 := zlt_f c_1
    refine lv_iload_n hx hb dX9_parameter_9 rfl (lv_at hl 1 rfl) ?_
    refine lv_bipush (v := 13) hx hb dX9_parameter_10 (by decide) ?_
    refine lv_icmp_le (tgt := 19) hx hb dX9_parameter_12 (by decide) (fun c_2 => ?_) (fun c_2 => ?_)
    · have c_2 := zle_t c_2
      refine lv_aload_n hx hb dX9_parameter_19 rfl (lv_at hl 0 rfl) ?_
      refine va_get (D := G) (ci := 9) (v := .ref (g 3)) (C := RX9) (T := TX9) (N := 31) hx hb hts iX9_parameter_X9 hown hK hP 0 rfl rfl 2 (by decide) (hts _ mX9_parameter_2) (fun _ h9 => h9) rfl dX9_parameter_20 ?_
      refine lv_iload_n hx hb dX9_parameter_23 rfl (lv_at hl 1 rfl) ?_
      refine zz_iald hx hb hK hP 3 0 k.toNatClampNeg rfl rfl rfl (vp_le (q := 13) (by decide) (by assumption) (by assumption)) dX9_parameter_24 ?_
      exact zz_ri (v := (Y.1.2.2.1 k.toNatClampNeg)) ((Y.1, Y.2.1, Y.2.2.1, Y.2.2.2.1, Y.2.2.2.2.1, Y.2.2.2.2.2.1, Y.2.2.2.2.2.2.1, Y.2.2.2.2.2.2.2.1, Y.2.2.2.2.2.2.2.2.1, (Y.2.2.2.2.2.2.2.2.2.1, 0)) : tMd) hx hb hr hlocks hS hP hD ⟨by simp [m_par, c_1, c_2], by rfl⟩ dX9_parameter_25
    · have c_2 := zle_f c_2
      refine lv_iconst (v := (-1)) hx hb dX9_parameter_15 (by decide) ?_
      refine lv_goto (tgt := 25) hx hb dX9_parameter_16 (by decide) ?_
      exact zz_ri (v := (-1)) ((Y.1, Y.2.1, Y.2.2.1, Y.2.2.2.1, Y.2.2.2.2.1, Y.2.2.2.2.2.1, Y.2.2.2.2.2.2.1, Y.2.2.2.2.2.2.2.1, Y.2.2.2.2.2.2.2.2.1, (Y.2.2.2.2.2.2.2.2.2.1, 0)) : tMd) hx hb hr hlocks hS hP hD ⟨by simp [m_par, c_1, c_2], by rfl⟩ dX9_parameter_25
theorem iX9_waiting_X9 : ∀ w ∈ u_ws RX9 TX9 31, w ∈ wsX9_waiting := by decide +kernel
theorem mX9_waiting_1 : Cond.fieldLink RX9 49 "ChamberPacerModel" "code" "I" ∈ wsX9_waiting := by decide +kernel
theorem mX9_waiting_2 : Cond.fieldLink RX9 22 "ChamberPacerModel" "pending" "[Z" ∈ wsX9_waiting := by decide +kernel
theorem mX9_waiting_3 : Cond.fieldLink RX9 19 "ChamberPacerModel" "next" "[I" ∈ wsX9_waiting := by decide +kernel
abbrev rmX9_waiting : Room := { frames := 0, cells := 0, slots := 0, locals := 0 }
abbrev QfX9_waiting (G : va_G) (cA cB : ClassId) (g : Nat → Nat) (Y : tMd) (k : Int32) : (Nat → Prop) → Array Value → State → Outcome → State → Prop := fun A => va_Qi (fun (r : Int32) (u : tMd) => r = m_wai k Y ∧ u = m_c0 Y) (zz_B G vwCl (fun u : tMd => (wMD g cA cB u)) A) A
set_option maxHeartbeats 1000000 in
set_option maxRecDepth 100000 in
theorem kX9_waiting (l : Launch) (G : va_G) (cA cB : ClassId) (tb : Nat × Nat × Nat) (g : Nat → Nat) (sz : Nat) (Y : tMd) (k : Int32) : Met l yX9_waiting wsX9_waiting rmX9_waiting (zz_P (zS tb) G vwCl [(cA, .int), (cB, .boolean)] [.ref (g 0), .int k] (wMD g cA cB Y) sz) (QfX9_waiting G cA cB g Y k (va_A (wMD g cA cB Y) sz)) 0 0 (va_A (wMD g cA cB Y) sz) := by
  refine zz_Met (cc := cX9_waiting) (maxL := 2) (ret := (some .int)) (Qf := QfX9_waiting G cA cB g Y k) (by decide) rfl (Nat.le_of_ble_eq_true rfl) ?_
  intro p e s m below meth c A ls hx hb hr hts hown hlocks hin hml hA hP hK hD hz hS hl
  have hl : lv_has ls 2 [(0, .ref (g 0)), (1, .int k)] := hl
  have hP : va_P G vwCl [((g 0), .inr (9, [.ref (g 1), .ref (g 2), .ref (g 3), .ref (g 4), .ref (g 5), .int Y.2.1.1, .int Y.2.2.2.2.2.1.1, .int Y.2.1.2.1, .int Y.2.1.2.2.1, .int Y.2.1.2.2.2.1, .int (bI Y.2.1.2.2.2.2.1), .int Y.2.1.2.2.2.2.2.1, .int (bI Y.2.1.2.2.2.2.2.2), .int Y.2.2.1.1, .int Y.2.2.1.2, .int Y.2.2.2.1.1, .int Y.2.2.2.1.2, .int Y.2.2.2.2.1.1, .int Y.2.2.2.2.1.2.1, .int (bI Y.2.2.2.2.1.2.2), .int Y.2.2.2.2.2.2.1.2, .int Y.2.2.2.2.2.1.2.1, .int Y.2.2.2.2.2.1.2.2, .ref (g 6), .int Y.2.2.2.2.2.2.2.2.2.1, .int Y.2.2.2.2.2.2.2.2.1.2, .ref (g 7), .int Y.2.2.2.2.2.2.2.1.2.2, .ref (g 8), .ref (g 9), .int Y.2.2.2.2.2.2.2.2.2.2])), ((g 1), .inl (cA, 14, .inl Y.1.1)), ((g 2), .inl (cA, 14, .inl Y.1.2.1)), ((g 3), .inl (cA, 14, .inl Y.1.2.2.1)), ((g 4), .inl (cA, 14, .inl Y.1.2.2.2.1)), ((g 5), .inl (cB, 14, .inl Y.1.2.2.2.2)), ((g 6), .inl (cA, 8, .inl Y.2.2.2.2.2.2.1.1)), ((g 7), .inl (cA, 6, .inl Y.2.2.2.2.2.2.2.2.1.1)), ((g 8), .inl (cA, 12, .inl Y.2.2.2.2.2.2.2.1.1)), ((g 9), .inl (cA, 12, .inl Y.2.2.2.2.2.2.2.1.2.1))] s.heap := hP
  have hD : va_D A [((g 0), .inr (9, [.ref (g 1), .ref (g 2), .ref (g 3), .ref (g 4), .ref (g 5), .int Y.2.1.1, .int Y.2.2.2.2.2.1.1, .int Y.2.1.2.1, .int Y.2.1.2.2.1, .int Y.2.1.2.2.2.1, .int (bI Y.2.1.2.2.2.2.1), .int Y.2.1.2.2.2.2.2.1, .int (bI Y.2.1.2.2.2.2.2.2), .int Y.2.2.1.1, .int Y.2.2.1.2, .int Y.2.2.2.1.1, .int Y.2.2.2.1.2, .int Y.2.2.2.2.1.1, .int Y.2.2.2.2.1.2.1, .int (bI Y.2.2.2.2.1.2.2), .int Y.2.2.2.2.2.2.1.2, .int Y.2.2.2.2.2.1.2.1, .int Y.2.2.2.2.2.1.2.2, .ref (g 6), .int Y.2.2.2.2.2.2.2.2.2.1, .int Y.2.2.2.2.2.2.2.2.1.2, .ref (g 7), .int Y.2.2.2.2.2.2.2.1.2.2, .ref (g 8), .ref (g 9), .int Y.2.2.2.2.2.2.2.2.2.2])), ((g 1), .inl (cA, 14, .inl Y.1.1)), ((g 2), .inl (cA, 14, .inl Y.1.2.1)), ((g 3), .inl (cA, 14, .inl Y.1.2.2.1)), ((g 4), .inl (cA, 14, .inl Y.1.2.2.2.1)), ((g 5), .inl (cB, 14, .inl Y.1.2.2.2.2)), ((g 6), .inl (cA, 8, .inl Y.2.2.2.2.2.2.1.1)), ((g 7), .inl (cA, 6, .inl Y.2.2.2.2.2.2.2.2.1.1)), ((g 8), .inl (cA, 12, .inl Y.2.2.2.2.2.2.2.1.1)), ((g 9), .inl (cA, 12, .inl Y.2.2.2.2.2.2.2.1.2.1))] := hD
  refine lv_aload_n hx hb dX9_waiting_0 rfl (lv_at hl 0 rfl) ?_
  refine lv_iconst (v := 0) hx hb dX9_waiting_1 (by decide) ?_
  refine va_put (D := G) (ci := 9) (v := .int 0) (ty := .int) (C := RX9) (T := TX9) (N := 31) hx hb hts iX9_waiting_X9 tyX9 tyX9_ok nmX9 hown hK hP hD hS 0 rfl rfl 30 (by decide) (hts _ mX9_waiting_1) (fun _ h9 => h9) rfl (by decide +kernel) rfl rfl (Nat.le_of_ble_eq_true rfl) dX9_waiting_2 (fun H locs hP hD hS => ?_)
  have hP : va_P G vwCl [((g 0), .inr (9, [.ref (g 1), .ref (g 2), .ref (g 3), .ref (g 4), .ref (g 5), .int Y.2.1.1, .int Y.2.2.2.2.2.1.1, .int Y.2.1.2.1, .int Y.2.1.2.2.1, .int Y.2.1.2.2.2.1, .int (bI Y.2.1.2.2.2.2.1), .int Y.2.1.2.2.2.2.2.1, .int (bI Y.2.1.2.2.2.2.2.2), .int Y.2.2.1.1, .int Y.2.2.1.2, .int Y.2.2.2.1.1, .int Y.2.2.2.1.2, .int Y.2.2.2.2.1.1, .int Y.2.2.2.2.1.2.1, .int (bI Y.2.2.2.2.1.2.2), .int Y.2.2.2.2.2.2.1.2, .int Y.2.2.2.2.2.1.2.1, .int Y.2.2.2.2.2.1.2.2, .ref (g 6), .int Y.2.2.2.2.2.2.2.2.2.1, .int Y.2.2.2.2.2.2.2.2.1.2, .ref (g 7), .int Y.2.2.2.2.2.2.2.1.2.2, .ref (g 8), .ref (g 9), .int 0])), ((g 1), .inl (cA, 14, .inl Y.1.1)), ((g 2), .inl (cA, 14, .inl Y.1.2.1)), ((g 3), .inl (cA, 14, .inl Y.1.2.2.1)), ((g 4), .inl (cA, 14, .inl Y.1.2.2.2.1)), ((g 5), .inl (cB, 14, .inl Y.1.2.2.2.2)), ((g 6), .inl (cA, 8, .inl Y.2.2.2.2.2.2.1.1)), ((g 7), .inl (cA, 6, .inl Y.2.2.2.2.2.2.2.2.1.1)), ((g 8), .inl (cA, 12, .inl Y.2.2.2.2.2.2.2.1.1)), ((g 9), .inl (cA, 12, .inl Y.2.2.2.2.2.2.2.1.2.1))] H := hP
  have hD : va_D A [((g 0), .inr (9, [.ref (g 1), .ref (g 2), .ref (g 3), .ref (g 4), .ref (g 5), .int Y.2.1.1, .int Y.2.2.2.2.2.1.1, .int Y.2.1.2.1, .int Y.2.1.2.2.1, .int Y.2.1.2.2.2.1, .int (bI Y.2.1.2.2.2.2.1), .int Y.2.1.2.2.2.2.2.1, .int (bI Y.2.1.2.2.2.2.2.2), .int Y.2.2.1.1, .int Y.2.2.1.2, .int Y.2.2.2.1.1, .int Y.2.2.2.1.2, .int Y.2.2.2.2.1.1, .int Y.2.2.2.2.1.2.1, .int (bI Y.2.2.2.2.1.2.2), .int Y.2.2.2.2.2.2.1.2, .int Y.2.2.2.2.2.1.2.1, .int Y.2.2.2.2.2.1.2.2, .ref (g 6), .int Y.2.2.2.2.2.2.2.2.2.1, .int Y.2.2.2.2.2.2.2.2.1.2, .ref (g 7), .int Y.2.2.2.2.2.2.2.1.2.2, .ref (g 8), .ref (g 9), .int 0])), ((g 1), .inl (cA, 14, .inl Y.1.1)), ((g 2), .inl (cA, 14, .inl Y.1.2.1)), ((g 3), .inl (cA, 14, .inl Y.1.2.2.1)), ((g 4), .inl (cA, 14, .inl Y.1.2.2.2.1)), ((g 5), .inl (cB, 14, .inl Y.1.2.2.2.2)), ((g 6), .inl (cA, 8, .inl Y.2.2.2.2.2.2.1.1)), ((g 7), .inl (cA, 6, .inl Y.2.2.2.2.2.2.2.2.1.1)), ((g 8), .inl (cA, 12, .inl Y.2.2.2.2.2.2.2.1.1)), ((g 9), .inl (cA, 12, .inl Y.2.2.2.2.2.2.2.1.2.1))] := hD
  refine lv_iload_n hx hb dX9_waiting_5 rfl (lv_at hl 1 rfl) ?_
  refine lv_if_lt (tgt := 24) hx hb dX9_waiting_6 (by decide) (fun c_1 => ?_) (fun c_1 => ?_)
  · have c_1 := zlt_t c_1
    refine lv_iconst (v := (-1)) hx hb dX9_waiting_24 (by decide) ?_
    refine lv_goto (tgt := 34) hx hb dX9_waiting_25 (by decide) ?_
    exact zz_ri (v := (-1)) ((Y.1, Y.2.1, Y.2.2.1, Y.2.2.2.1, Y.2.2.2.2.1, Y.2.2.2.2.2.1, Y.2.2.2.2.2.2.1, Y.2.2.2.2.2.2.2.1, Y.2.2.2.2.2.2.2.2.1, (Y.2.2.2.2.2.2.2.2.2.1, 0)) : tMd) hx hb hr hlocks hS hP hD ⟨by simp [m_wai, c_1], by rfl⟩ dX9_waiting_34
  · have c_1 := zlt_f c_1
    refine lv_iload_n hx hb dX9_waiting_9 rfl (lv_at hl 1 rfl) ?_
    refine lv_bipush (v := 13) hx hb dX9_waiting_10 (by decide) ?_
    refine lv_icmp_gt (tgt := 24) hx hb dX9_waiting_12 (by decide) (fun c_2 => ?_) (fun c_2 => ?_)
    · have c_2 := zlt_t c_2
      refine lv_iconst (v := (-1)) hx hb dX9_waiting_24 (by decide) ?_
      refine lv_goto (tgt := 34) hx hb dX9_waiting_25 (by decide) ?_
      exact zz_ri (v := (-1)) ((Y.1, Y.2.1, Y.2.2.1, Y.2.2.2.1, Y.2.2.2.2.1, Y.2.2.2.2.2.1, Y.2.2.2.2.2.2.1, Y.2.2.2.2.2.2.2.1, Y.2.2.2.2.2.2.2.2.1, (Y.2.2.2.2.2.2.2.2.2.1, 0)) : tMd) hx hb hr hlocks hS hP hD ⟨by simp [m_wai, c_1, c_2], by rfl⟩ dX9_waiting_34
    · have c_2 := zlt_f c_2
      refine lv_aload_n hx hb dX9_waiting_15 rfl (lv_at hl 0 rfl) ?_
      refine va_get (D := G) (ci := 9) (v := .ref (g 5)) (C := RX9) (T := TX9) (N := 31) hx hb hts iX9_waiting_X9 hown hK hP 0 rfl rfl 4 (by decide) (hts _ mX9_waiting_2) (fun _ h9 => h9) rfl dX9_waiting_16 ?_
      refine lv_iload_n hx hb dX9_waiting_19 rfl (lv_at hl 1 rfl) ?_
      refine zz_zald hx hb hK hP 5 1 k.toNatClampNeg rfl rfl rfl (vp_gt (q := 13) (by decide) (by assumption) (by assumption)) dX9_waiting_20 ?_
      refine lv_if_ne (tgt := 28) hx hb dX9_waiting_21 (by decide) (fun c_3 => ?_) (fun c_3 => ?_)
      · have c_3 := zeq_f c_3
        refine lv_aload_n hx hb dX9_waiting_28 rfl (lv_at hl 0 rfl) ?_
        refine va_get (D := G) (ci := 9) (v := .ref (g 4)) (C := RX9) (T := TX9) (N := 31) hx hb hts iX9_waiting_X9 hown hK hP 0 rfl rfl 3 (by decide) (hts _ mX9_waiting_3) (fun _ h9 => h9) rfl dX9_waiting_29 ?_
        refine lv_iload_n hx hb dX9_waiting_32 rfl (lv_at hl 1 rfl) ?_
        refine zz_iald hx hb hK hP 4 0 k.toNatClampNeg rfl rfl rfl (vp_gt (q := 13) (by decide) (by assumption) (by assumption)) dX9_waiting_33 ?_
        exact zz_ri (v := (Y.1.2.2.2.1 k.toNatClampNeg)) ((Y.1, Y.2.1, Y.2.2.1, Y.2.2.2.1, Y.2.2.2.2.1, Y.2.2.2.2.2.1, Y.2.2.2.2.2.2.1, Y.2.2.2.2.2.2.2.1, Y.2.2.2.2.2.2.2.2.1, (Y.2.2.2.2.2.2.2.2.2.1, 0)) : tMd) hx hb hr hlocks hS hP hD ⟨by simp [m_wai, c_1, c_2, c_3], by rfl⟩ dX9_waiting_34
      · have c_3 := zeq_t c_3
        refine lv_iconst (v := (-1)) hx hb dX9_waiting_24 (by decide) ?_
        refine lv_goto (tgt := 34) hx hb dX9_waiting_25 (by decide) ?_
        exact zz_ri (v := (-1)) ((Y.1, Y.2.1, Y.2.2.1, Y.2.2.2.1, Y.2.2.2.2.1, Y.2.2.2.2.2.1, Y.2.2.2.2.2.2.1, Y.2.2.2.2.2.2.2.1, Y.2.2.2.2.2.2.2.2.1, (Y.2.2.2.2.2.2.2.2.2.1, 0)) : tMd) hx hb hr hlocks hS hP hD ⟨by simp [m_wai, c_1, c_2, c_3], by rfl⟩ dX9_waiting_34
theorem iX9_since_X9 : ∀ w ∈ u_ws RX9 TX9 31, w ∈ wsX9_since := by decide +kernel
theorem mX9_since_1 : Cond.fieldLink RX9 49 "ChamberPacerModel" "code" "I" ∈ wsX9_since := by decide +kernel
theorem mX9_since_5 : Cond.fieldLink RX9 79 "ChamberPacerModel" "avRuns" "Z" ∈ wsX9_since := by decide +kernel
theorem mX9_since_6 : Cond.fieldLink RX9 97 "ChamberPacerModel" "av" "I" ∈ wsX9_since := by decide +kernel
theorem mX9_since_4 : Cond.fieldLink RX9 91 "ChamberPacerModel" "sinceP" "I" ∈ wsX9_since := by decide +kernel
theorem mX9_since_3 : Cond.fieldLink RX9 104 "ChamberPacerModel" "sinceV" "I" ∈ wsX9_since := by decide +kernel
theorem mX9_since_2 : Cond.fieldLink RX9 62 "ChamberPacerModel" "sinceA" "I" ∈ wsX9_since := by decide +kernel
abbrev rmX9_since : Room := { frames := 0, cells := 0, slots := 0, locals := 0 }
abbrev QfX9_since (G : va_G) (cA cB : ClassId) (g : Nat → Nat) (Y : tMd) (q : Int32) : (Nat → Prop) → Array Value → State → Outcome → State → Prop := fun A => va_Qi (fun (r : Int32) (u : tMd) => r = m_sin q Y ∧ u = m_c0 Y) (zz_B G vwCl (fun u : tMd => (wMD g cA cB u)) A) A
set_option maxHeartbeats 1000000 in
set_option maxRecDepth 100000 in
theorem kX9_since (l : Launch) (G : va_G) (cA cB : ClassId) (tb : Nat × Nat × Nat) (g : Nat → Nat) (sz : Nat) (Y : tMd) (q : Int32) : Met l yX9_since wsX9_since rmX9_since (zz_P (zS tb) G vwCl [(cA, .int), (cB, .boolean)] [.ref (g 0), .int q] (wMD g cA cB Y) sz) (QfX9_since G cA cB g Y q (va_A (wMD g cA cB Y) sz)) 0 0 (va_A (wMD g cA cB Y) sz) := by
  refine zz_Met (cc := cX9_since) (maxL := 2) (ret := (some .int)) (Qf := QfX9_since G cA cB g Y q) (by decide) rfl (Nat.le_of_ble_eq_true rfl) ?_
  intro p e s m below meth c A ls hx hb hr hts hown hlocks hin hml hA hP hK hD hz hS hl
  have hl : lv_has ls 2 [(0, .ref (g 0)), (1, .int q)] := hl
  have hP : va_P G vwCl [((g 0), .inr (9, [.ref (g 1), .ref (g 2), .ref (g 3), .ref (g 4), .ref (g 5), .int Y.2.1.1, .int Y.2.2.2.2.2.1.1, .int Y.2.1.2.1, .int Y.2.1.2.2.1, .int Y.2.1.2.2.2.1, .int (bI Y.2.1.2.2.2.2.1), .int Y.2.1.2.2.2.2.2.1, .int (bI Y.2.1.2.2.2.2.2.2), .int Y.2.2.1.1, .int Y.2.2.1.2, .int Y.2.2.2.1.1, .int Y.2.2.2.1.2, .int Y.2.2.2.2.1.1, .int Y.2.2.2.2.1.2.1, .int (bI Y.2.2.2.2.1.2.2), .int Y.2.2.2.2.2.2.1.2, .int Y.2.2.2.2.2.1.2.1, .int Y.2.2.2.2.2.1.2.2, .ref (g 6), .int Y.2.2.2.2.2.2.2.2.2.1, .int Y.2.2.2.2.2.2.2.2.1.2, .ref (g 7), .int Y.2.2.2.2.2.2.2.1.2.2, .ref (g 8), .ref (g 9), .int Y.2.2.2.2.2.2.2.2.2.2])), ((g 1), .inl (cA, 14, .inl Y.1.1)), ((g 2), .inl (cA, 14, .inl Y.1.2.1)), ((g 3), .inl (cA, 14, .inl Y.1.2.2.1)), ((g 4), .inl (cA, 14, .inl Y.1.2.2.2.1)), ((g 5), .inl (cB, 14, .inl Y.1.2.2.2.2)), ((g 6), .inl (cA, 8, .inl Y.2.2.2.2.2.2.1.1)), ((g 7), .inl (cA, 6, .inl Y.2.2.2.2.2.2.2.2.1.1)), ((g 8), .inl (cA, 12, .inl Y.2.2.2.2.2.2.2.1.1)), ((g 9), .inl (cA, 12, .inl Y.2.2.2.2.2.2.2.1.2.1))] s.heap := hP
  have hD : va_D A [((g 0), .inr (9, [.ref (g 1), .ref (g 2), .ref (g 3), .ref (g 4), .ref (g 5), .int Y.2.1.1, .int Y.2.2.2.2.2.1.1, .int Y.2.1.2.1, .int Y.2.1.2.2.1, .int Y.2.1.2.2.2.1, .int (bI Y.2.1.2.2.2.2.1), .int Y.2.1.2.2.2.2.2.1, .int (bI Y.2.1.2.2.2.2.2.2), .int Y.2.2.1.1, .int Y.2.2.1.2, .int Y.2.2.2.1.1, .int Y.2.2.2.1.2, .int Y.2.2.2.2.1.1, .int Y.2.2.2.2.1.2.1, .int (bI Y.2.2.2.2.1.2.2), .int Y.2.2.2.2.2.2.1.2, .int Y.2.2.2.2.2.1.2.1, .int Y.2.2.2.2.2.1.2.2, .ref (g 6), .int Y.2.2.2.2.2.2.2.2.2.1, .int Y.2.2.2.2.2.2.2.2.1.2, .ref (g 7), .int Y.2.2.2.2.2.2.2.1.2.2, .ref (g 8), .ref (g 9), .int Y.2.2.2.2.2.2.2.2.2.2])), ((g 1), .inl (cA, 14, .inl Y.1.1)), ((g 2), .inl (cA, 14, .inl Y.1.2.1)), ((g 3), .inl (cA, 14, .inl Y.1.2.2.1)), ((g 4), .inl (cA, 14, .inl Y.1.2.2.2.1)), ((g 5), .inl (cB, 14, .inl Y.1.2.2.2.2)), ((g 6), .inl (cA, 8, .inl Y.2.2.2.2.2.2.1.1)), ((g 7), .inl (cA, 6, .inl Y.2.2.2.2.2.2.2.2.1.1)), ((g 8), .inl (cA, 12, .inl Y.2.2.2.2.2.2.2.1.1)), ((g 9), .inl (cA, 12, .inl Y.2.2.2.2.2.2.2.1.2.1))] := hD
  refine lv_aload_n hx hb dX9_since_0 rfl (lv_at hl 0 rfl) ?_
  refine lv_iconst (v := 0) hx hb dX9_since_1 (by decide) ?_
  refine va_put (D := G) (ci := 9) (v := .int 0) (ty := .int) (C := RX9) (T := TX9) (N := 31) hx hb hts iX9_since_X9 tyX9 tyX9_ok nmX9 hown hK hP hD hS 0 rfl rfl 30 (by decide) (hts _ mX9_since_1) (fun _ h9 => h9) rfl (by decide +kernel) rfl rfl (Nat.le_of_ble_eq_true rfl) dX9_since_2 (fun H locs hP hD hS => ?_)
  have hP : va_P G vwCl [((g 0), .inr (9, [.ref (g 1), .ref (g 2), .ref (g 3), .ref (g 4), .ref (g 5), .int Y.2.1.1, .int Y.2.2.2.2.2.1.1, .int Y.2.1.2.1, .int Y.2.1.2.2.1, .int Y.2.1.2.2.2.1, .int (bI Y.2.1.2.2.2.2.1), .int Y.2.1.2.2.2.2.2.1, .int (bI Y.2.1.2.2.2.2.2.2), .int Y.2.2.1.1, .int Y.2.2.1.2, .int Y.2.2.2.1.1, .int Y.2.2.2.1.2, .int Y.2.2.2.2.1.1, .int Y.2.2.2.2.1.2.1, .int (bI Y.2.2.2.2.1.2.2), .int Y.2.2.2.2.2.2.1.2, .int Y.2.2.2.2.2.1.2.1, .int Y.2.2.2.2.2.1.2.2, .ref (g 6), .int Y.2.2.2.2.2.2.2.2.2.1, .int Y.2.2.2.2.2.2.2.2.1.2, .ref (g 7), .int Y.2.2.2.2.2.2.2.1.2.2, .ref (g 8), .ref (g 9), .int 0])), ((g 1), .inl (cA, 14, .inl Y.1.1)), ((g 2), .inl (cA, 14, .inl Y.1.2.1)), ((g 3), .inl (cA, 14, .inl Y.1.2.2.1)), ((g 4), .inl (cA, 14, .inl Y.1.2.2.2.1)), ((g 5), .inl (cB, 14, .inl Y.1.2.2.2.2)), ((g 6), .inl (cA, 8, .inl Y.2.2.2.2.2.2.1.1)), ((g 7), .inl (cA, 6, .inl Y.2.2.2.2.2.2.2.2.1.1)), ((g 8), .inl (cA, 12, .inl Y.2.2.2.2.2.2.2.1.1)), ((g 9), .inl (cA, 12, .inl Y.2.2.2.2.2.2.2.1.2.1))] H := hP
  have hD : va_D A [((g 0), .inr (9, [.ref (g 1), .ref (g 2), .ref (g 3), .ref (g 4), .ref (g 5), .int Y.2.1.1, .int Y.2.2.2.2.2.1.1, .int Y.2.1.2.1, .int Y.2.1.2.2.1, .int Y.2.1.2.2.2.1, .int (bI Y.2.1.2.2.2.2.1), .int Y.2.1.2.2.2.2.2.1, .int (bI Y.2.1.2.2.2.2.2.2), .int Y.2.2.1.1, .int Y.2.2.1.2, .int Y.2.2.2.1.1, .int Y.2.2.2.1.2, .int Y.2.2.2.2.1.1, .int Y.2.2.2.2.1.2.1, .int (bI Y.2.2.2.2.1.2.2), .int Y.2.2.2.2.2.2.1.2, .int Y.2.2.2.2.2.1.2.1, .int Y.2.2.2.2.2.1.2.2, .ref (g 6), .int Y.2.2.2.2.2.2.2.2.2.1, .int Y.2.2.2.2.2.2.2.2.1.2, .ref (g 7), .int Y.2.2.2.2.2.2.2.1.2.2, .ref (g 8), .ref (g 9), .int 0])), ((g 1), .inl (cA, 14, .inl Y.1.1)), ((g 2), .inl (cA, 14, .inl Y.1.2.1)), ((g 3), .inl (cA, 14, .inl Y.1.2.2.1)), ((g 4), .inl (cA, 14, .inl Y.1.2.2.2.1)), ((g 5), .inl (cB, 14, .inl Y.1.2.2.2.2)), ((g 6), .inl (cA, 8, .inl Y.2.2.2.2.2.2.1.1)), ((g 7), .inl (cA, 6, .inl Y.2.2.2.2.2.2.2.2.1.1)), ((g 8), .inl (cA, 12, .inl Y.2.2.2.2.2.2.2.1.1)), ((g 9), .inl (cA, 12, .inl Y.2.2.2.2.2.2.2.1.2.1))] := hD
  refine lv_iload_n hx hb dX9_since_5 rfl (lv_at hl 1 rfl) ?_
  refine lv_if_ne (tgt := 16) hx hb dX9_since_6 (by decide) (fun c_1 => ?_) (fun c_1 => ?_)
  · have c_1 := zeq_f c_1
    refine lv_iload_n hx hb dX9_since_16 rfl (lv_at hl 1 rfl) ?_
    refine lv_iconst (v := 1) hx hb dX9_since_17 (by decide) ?_
    refine lv_icmp_ne (tgt := 28) hx hb dX9_since_18 (by decide) (fun c_2 => ?_) (fun c_2 => ?_)
    · have c_2 := zeq_f c_2
      refine lv_iload_n hx hb dX9_since_28 rfl (lv_at hl 1 rfl) ?_
      refine lv_iconst (v := 2) hx hb dX9_since_29 (by decide) ?_
      refine lv_icmp_ne (tgt := 40) hx hb dX9_since_30 (by decide) (fun c_3 => ?_) (fun c_3 => ?_)
      · have c_3 := zeq_f c_3
        refine lv_iload_n hx hb dX9_since_40 rfl (lv_at hl 1 rfl) ?_
        refine lv_iconst (v := 3) hx hb dX9_since_41 (by decide) ?_
        refine lv_icmp_ne (tgt := 59) hx hb dX9_since_42 (by decide) (fun c_4 => ?_) (fun c_4 => ?_)
        · have c_4 := zeq_f c_4
          refine lv_iconst (v := (-1)) hx hb dX9_since_59 (by decide) ?_
          exact zz_ri (v := (-1)) ((Y.1, Y.2.1, Y.2.2.1, Y.2.2.2.1, Y.2.2.2.2.1, Y.2.2.2.2.2.1, Y.2.2.2.2.2.2.1, Y.2.2.2.2.2.2.2.1, Y.2.2.2.2.2.2.2.2.1, (Y.2.2.2.2.2.2.2.2.2.1, 0)) : tMd) hx hb hr hlocks hS hP hD ⟨by simp [m_sin, c_1, c_2, c_3, c_4], by rfl⟩ dX9_since_60
        · have c_4 := zeq_t c_4
          refine lv_aload_n hx hb dX9_since_45 rfl (lv_at hl 0 rfl) ?_
          refine va_get (D := G) (ci := 9) (v := .int (bI Y.2.1.2.2.2.2.1)) (C := RX9) (T := TX9) (N := 31) hx hb hts iX9_since_X9 hown hK hP 0 rfl rfl 10 (by decide) (hts _ mX9_since_5) (fun _ h9 => h9) rfl dX9_since_46 ?_
          refine lv_if_eq (tgt := 59) hx hb dX9_since_49 (by decide) (fun c_5 => ?_) (fun c_5 => ?_)
          · have c_5 := bI_f c_5
            refine lv_iconst (v := (-1)) hx hb dX9_since_59 (by decide) ?_
            exact zz_ri (v := (-1)) ((Y.1, Y.2.1, Y.2.2.1, Y.2.2.2.1, Y.2.2.2.2.1, Y.2.2.2.2.2.1, Y.2.2.2.2.2.2.1, Y.2.2.2.2.2.2.2.1, Y.2.2.2.2.2.2.2.2.1, (Y.2.2.2.2.2.2.2.2.2.1, 0)) : tMd) hx hb hr hlocks hS hP hD ⟨by simp [m_sin, c_1, c_2, c_3, c_4, c_5], by rfl⟩ dX9_since_60
          · have c_5 := bI_t c_5
            refine lv_aload_n hx hb dX9_since_52 rfl (lv_at hl 0 rfl) ?_
            refine va_get (D := G) (ci := 9) (v := .int Y.2.1.2.2.2.2.2.1) (C := RX9) (T := TX9) (N := 31) hx hb hts iX9_since_X9 hown hK hP 0 rfl rfl 11 (by decide) (hts _ mX9_since_6) (fun _ h9 => h9) rfl dX9_since_53 ?_
            refine lv_goto (tgt := 60) hx hb dX9_since_56 (by decide) ?_
            exact zz_ri (v := Y.2.1.2.2.2.2.2.1) ((Y.1, Y.2.1, Y.2.2.1, Y.2.2.2.1, Y.2.2.2.2.1, Y.2.2.2.2.2.1, Y.2.2.2.2.2.2.1, Y.2.2.2.2.2.2.2.1, Y.2.2.2.2.2.2.2.2.1, (Y.2.2.2.2.2.2.2.2.2.1, 0)) : tMd) hx hb hr hlocks hS hP hD ⟨by simp [m_sin, c_1, c_2, c_3, c_4, c_5], by rfl⟩ dX9_since_60
      · have c_3 := zeq_t c_3
        refine lv_aload_n hx hb dX9_since_33 rfl (lv_at hl 0 rfl) ?_
        refine va_get (D := G) (ci := 9) (v := .int Y.2.1.2.2.2.1) (C := RX9) (T := TX9) (N := 31) hx hb hts iX9_since_X9 hown hK hP 0 rfl rfl 9 (by decide) (hts _ mX9_since_4) (fun _ h9 => h9) rfl dX9_since_34 ?_
        refine lv_goto (tgt := 60) hx hb dX9_since_37 (by decide) ?_
        exact zz_ri (v := Y.2.1.2.2.2.1) ((Y.1, Y.2.1, Y.2.2.1, Y.2.2.2.1, Y.2.2.2.2.1, Y.2.2.2.2.2.1, Y.2.2.2.2.2.2.1, Y.2.2.2.2.2.2.2.1, Y.2.2.2.2.2.2.2.2.1, (Y.2.2.2.2.2.2.2.2.2.1, 0)) : tMd) hx hb hr hlocks hS hP hD ⟨by simp [m_sin, c_1, c_2, c_3], by rfl⟩ dX9_since_60
    · have c_2 := zeq_t c_2
      refine lv_aload_n hx hb dX9_since_21 rfl (lv_at hl 0 rfl) ?_
      refine va_get (D := G) (ci := 9) (v := .int Y.2.1.2.2.1) (C := RX9) (T := TX9) (N := 31) hx hb hts iX9_since_X9 hown hK hP 0 rfl rfl 8 (by decide) (hts _ mX9_since_3) (fun _ h9 => h9) rfl dX9_since_22 ?_
      refine lv_goto (tgt := 60) hx hb dX9_since_25 (by decide) ?_
      exact zz_ri (v := Y.2.1.2.2.1) ((Y.1, Y.2.1, Y.2.2.1, Y.2.2.2.1, Y.2.2.2.2.1, Y.2.2.2.2.2.1, Y.2.2.2.2.2.2.1, Y.2.2.2.2.2.2.2.1, Y.2.2.2.2.2.2.2.2.1, (Y.2.2.2.2.2.2.2.2.2.1, 0)) : tMd) hx hb hr hlocks hS hP hD ⟨by simp [m_sin, c_1, c_2], by rfl⟩ dX9_since_60
  · have c_1 := zeq_t c_1
    refine lv_aload_n hx hb dX9_since_9 rfl (lv_at hl 0 rfl) ?_
    refine va_get (D := G) (ci := 9) (v := .int Y.2.1.2.1) (C := RX9) (T := TX9) (N := 31) hx hb hts iX9_since_X9 hown hK hP 0 rfl rfl 7 (by decide) (hts _ mX9_since_2) (fun _ h9 => h9) rfl dX9_since_10 ?_
    refine lv_goto (tgt := 60) hx hb dX9_since_13 (by decide) ?_
    exact zz_ri (v := Y.2.1.2.1) ((Y.1, Y.2.1, Y.2.2.1, Y.2.2.2.1, Y.2.2.2.2.1, Y.2.2.2.2.2.1, Y.2.2.2.2.2.2.1, Y.2.2.2.2.2.2.2.1, Y.2.2.2.2.2.2.2.2.1, (Y.2.2.2.2.2.2.2.2.2.1, 0)) : tMd) hx hb hr hlocks hS hP hD ⟨by simp [m_sin, c_1], by rfl⟩ dX9_since_60
theorem iX9_value_X9 : ∀ w ∈ u_ws RX9 TX9 31, w ∈ wsX9_value := by decide +kernel
theorem mX9_value_1 : Cond.fieldLink RX9 49 "ChamberPacerModel" "code" "I" ∈ wsX9_value := by decide +kernel
theorem mX9_value_2 : Cond.fieldLink RX9 30 "ChamberPacerModel" "l" "I" ∈ wsX9_value := by decide +kernel
theorem mX9_value_3 : Cond.fieldLink RX9 26 "ChamberPacerModel" "interval" "I" ∈ wsX9_value := by decide +kernel
theorem mX9_value_4 : Cond.fieldLink RX9 85 "ChamberPacerModel" "level" "I" ∈ wsX9_value := by decide +kernel
theorem mX9_value_5 : Cond.fieldLink RX9 65 "ChamberPacerModel" "fast" "I" ∈ wsX9_value := by decide +kernel
theorem mX9_value_6 : Cond.fieldLink RX9 68 "ChamberPacerModel" "slow" "I" ∈ wsX9_value := by decide +kernel
theorem mX9_value_7 : Cond.fieldLink RX9 55 "ChamberPacerModel" "time" "I" ∈ wsX9_value := by decide +kernel
abbrev rmX9_value : Room := { frames := 0, cells := 0, slots := 0, locals := 0 }
abbrev QfX9_value (G : va_G) (cA cB : ClassId) (g : Nat → Nat) (Y : tMd) (q : Int32) : (Nat → Prop) → Array Value → State → Outcome → State → Prop := fun A => va_Qi (fun (r : Int32) (u : tMd) => r = m_val q Y ∧ u = m_c0 Y) (zz_B G vwCl (fun u : tMd => (wMD g cA cB u)) A) A
set_option maxHeartbeats 1000000 in
set_option maxRecDepth 100000 in
theorem kX9_value (l : Launch) (G : va_G) (cA cB : ClassId) (tb : Nat × Nat × Nat) (g : Nat → Nat) (sz : Nat) (Y : tMd) (q : Int32) : Met l yX9_value wsX9_value rmX9_value (zz_P (zS tb) G vwCl [(cA, .int), (cB, .boolean)] [.ref (g 0), .int q] (wMD g cA cB Y) sz) (QfX9_value G cA cB g Y q (va_A (wMD g cA cB Y) sz)) 0 0 (va_A (wMD g cA cB Y) sz) := by
  refine zz_Met (cc := cX9_value) (maxL := 2) (ret := (some .int)) (Qf := QfX9_value G cA cB g Y q) (by decide) rfl (Nat.le_of_ble_eq_true rfl) ?_
  intro p e s m below meth c A ls hx hb hr hts hown hlocks hin hml hA hP hK hD hz hS hl
  have hl : lv_has ls 2 [(0, .ref (g 0)), (1, .int q)] := hl
  have hP : va_P G vwCl [((g 0), .inr (9, [.ref (g 1), .ref (g 2), .ref (g 3), .ref (g 4), .ref (g 5), .int Y.2.1.1, .int Y.2.2.2.2.2.1.1, .int Y.2.1.2.1, .int Y.2.1.2.2.1, .int Y.2.1.2.2.2.1, .int (bI Y.2.1.2.2.2.2.1), .int Y.2.1.2.2.2.2.2.1, .int (bI Y.2.1.2.2.2.2.2.2), .int Y.2.2.1.1, .int Y.2.2.1.2, .int Y.2.2.2.1.1, .int Y.2.2.2.1.2, .int Y.2.2.2.2.1.1, .int Y.2.2.2.2.1.2.1, .int (bI Y.2.2.2.2.1.2.2), .int Y.2.2.2.2.2.2.1.2, .int Y.2.2.2.2.2.1.2.1, .int Y.2.2.2.2.2.1.2.2, .ref (g 6), .int Y.2.2.2.2.2.2.2.2.2.1, .int Y.2.2.2.2.2.2.2.2.1.2, .ref (g 7), .int Y.2.2.2.2.2.2.2.1.2.2, .ref (g 8), .ref (g 9), .int Y.2.2.2.2.2.2.2.2.2.2])), ((g 1), .inl (cA, 14, .inl Y.1.1)), ((g 2), .inl (cA, 14, .inl Y.1.2.1)), ((g 3), .inl (cA, 14, .inl Y.1.2.2.1)), ((g 4), .inl (cA, 14, .inl Y.1.2.2.2.1)), ((g 5), .inl (cB, 14, .inl Y.1.2.2.2.2)), ((g 6), .inl (cA, 8, .inl Y.2.2.2.2.2.2.1.1)), ((g 7), .inl (cA, 6, .inl Y.2.2.2.2.2.2.2.2.1.1)), ((g 8), .inl (cA, 12, .inl Y.2.2.2.2.2.2.2.1.1)), ((g 9), .inl (cA, 12, .inl Y.2.2.2.2.2.2.2.1.2.1))] s.heap := hP
  have hD : va_D A [((g 0), .inr (9, [.ref (g 1), .ref (g 2), .ref (g 3), .ref (g 4), .ref (g 5), .int Y.2.1.1, .int Y.2.2.2.2.2.1.1, .int Y.2.1.2.1, .int Y.2.1.2.2.1, .int Y.2.1.2.2.2.1, .int (bI Y.2.1.2.2.2.2.1), .int Y.2.1.2.2.2.2.2.1, .int (bI Y.2.1.2.2.2.2.2.2), .int Y.2.2.1.1, .int Y.2.2.1.2, .int Y.2.2.2.1.1, .int Y.2.2.2.1.2, .int Y.2.2.2.2.1.1, .int Y.2.2.2.2.1.2.1, .int (bI Y.2.2.2.2.1.2.2), .int Y.2.2.2.2.2.2.1.2, .int Y.2.2.2.2.2.1.2.1, .int Y.2.2.2.2.2.1.2.2, .ref (g 6), .int Y.2.2.2.2.2.2.2.2.2.1, .int Y.2.2.2.2.2.2.2.2.1.2, .ref (g 7), .int Y.2.2.2.2.2.2.2.1.2.2, .ref (g 8), .ref (g 9), .int Y.2.2.2.2.2.2.2.2.2.2])), ((g 1), .inl (cA, 14, .inl Y.1.1)), ((g 2), .inl (cA, 14, .inl Y.1.2.1)), ((g 3), .inl (cA, 14, .inl Y.1.2.2.1)), ((g 4), .inl (cA, 14, .inl Y.1.2.2.2.1)), ((g 5), .inl (cB, 14, .inl Y.1.2.2.2.2)), ((g 6), .inl (cA, 8, .inl Y.2.2.2.2.2.2.1.1)), ((g 7), .inl (cA, 6, .inl Y.2.2.2.2.2.2.2.2.1.1)), ((g 8), .inl (cA, 12, .inl Y.2.2.2.2.2.2.2.1.1)), ((g 9), .inl (cA, 12, .inl Y.2.2.2.2.2.2.2.1.2.1))] := hD
  refine lv_aload_n hx hb dX9_value_0 rfl (lv_at hl 0 rfl) ?_
  refine lv_iconst (v := 0) hx hb dX9_value_1 (by decide) ?_
  refine va_put (D := G) (ci := 9) (v := .int 0) (ty := .int) (C := RX9) (T := TX9) (N := 31) hx hb hts iX9_value_X9 tyX9 tyX9_ok nmX9 hown hK hP hD hS 0 rfl rfl 30 (by decide) (hts _ mX9_value_1) (fun _ h9 => h9) rfl (by decide +kernel) rfl rfl (Nat.le_of_ble_eq_true rfl) dX9_value_2 (fun H locs hP hD hS => ?_)
  have hP : va_P G vwCl [((g 0), .inr (9, [.ref (g 1), .ref (g 2), .ref (g 3), .ref (g 4), .ref (g 5), .int Y.2.1.1, .int Y.2.2.2.2.2.1.1, .int Y.2.1.2.1, .int Y.2.1.2.2.1, .int Y.2.1.2.2.2.1, .int (bI Y.2.1.2.2.2.2.1), .int Y.2.1.2.2.2.2.2.1, .int (bI Y.2.1.2.2.2.2.2.2), .int Y.2.2.1.1, .int Y.2.2.1.2, .int Y.2.2.2.1.1, .int Y.2.2.2.1.2, .int Y.2.2.2.2.1.1, .int Y.2.2.2.2.1.2.1, .int (bI Y.2.2.2.2.1.2.2), .int Y.2.2.2.2.2.2.1.2, .int Y.2.2.2.2.2.1.2.1, .int Y.2.2.2.2.2.1.2.2, .ref (g 6), .int Y.2.2.2.2.2.2.2.2.2.1, .int Y.2.2.2.2.2.2.2.2.1.2, .ref (g 7), .int Y.2.2.2.2.2.2.2.1.2.2, .ref (g 8), .ref (g 9), .int 0])), ((g 1), .inl (cA, 14, .inl Y.1.1)), ((g 2), .inl (cA, 14, .inl Y.1.2.1)), ((g 3), .inl (cA, 14, .inl Y.1.2.2.1)), ((g 4), .inl (cA, 14, .inl Y.1.2.2.2.1)), ((g 5), .inl (cB, 14, .inl Y.1.2.2.2.2)), ((g 6), .inl (cA, 8, .inl Y.2.2.2.2.2.2.1.1)), ((g 7), .inl (cA, 6, .inl Y.2.2.2.2.2.2.2.2.1.1)), ((g 8), .inl (cA, 12, .inl Y.2.2.2.2.2.2.2.1.1)), ((g 9), .inl (cA, 12, .inl Y.2.2.2.2.2.2.2.1.2.1))] H := hP
  have hD : va_D A [((g 0), .inr (9, [.ref (g 1), .ref (g 2), .ref (g 3), .ref (g 4), .ref (g 5), .int Y.2.1.1, .int Y.2.2.2.2.2.1.1, .int Y.2.1.2.1, .int Y.2.1.2.2.1, .int Y.2.1.2.2.2.1, .int (bI Y.2.1.2.2.2.2.1), .int Y.2.1.2.2.2.2.2.1, .int (bI Y.2.1.2.2.2.2.2.2), .int Y.2.2.1.1, .int Y.2.2.1.2, .int Y.2.2.2.1.1, .int Y.2.2.2.1.2, .int Y.2.2.2.2.1.1, .int Y.2.2.2.2.1.2.1, .int (bI Y.2.2.2.2.1.2.2), .int Y.2.2.2.2.2.2.1.2, .int Y.2.2.2.2.2.1.2.1, .int Y.2.2.2.2.2.1.2.2, .ref (g 6), .int Y.2.2.2.2.2.2.2.2.2.1, .int Y.2.2.2.2.2.2.2.2.1.2, .ref (g 7), .int Y.2.2.2.2.2.2.2.1.2.2, .ref (g 8), .ref (g 9), .int 0])), ((g 1), .inl (cA, 14, .inl Y.1.1)), ((g 2), .inl (cA, 14, .inl Y.1.2.1)), ((g 3), .inl (cA, 14, .inl Y.1.2.2.1)), ((g 4), .inl (cA, 14, .inl Y.1.2.2.2.1)), ((g 5), .inl (cB, 14, .inl Y.1.2.2.2.2)), ((g 6), .inl (cA, 8, .inl Y.2.2.2.2.2.2.1.1)), ((g 7), .inl (cA, 6, .inl Y.2.2.2.2.2.2.2.2.1.1)), ((g 8), .inl (cA, 12, .inl Y.2.2.2.2.2.2.2.1.1)), ((g 9), .inl (cA, 12, .inl Y.2.2.2.2.2.2.2.1.2.1))] := hD
  refine lv_iload_n hx hb dX9_value_5 rfl (lv_at hl 1 rfl) ?_
  by_cases c_1 : q = 0
  · refine lv_tableIn (tgt := 44) (off := 38) hx hb dX9_value_6 (by rw [c_1]; decide) (by rw [c_1]; decide) (by rw [c_1]; rfl) (by decide) ?_
    have zc_1 := zeq_t c_1
    refine lv_aload_n hx hb dX9_value_44 rfl (lv_at hl 0 rfl) ?_
    refine va_get (D := G) (ci := 9) (v := .int Y.2.2.2.2.2.1.2.2) (C := RX9) (T := TX9) (N := 31) hx hb hts iX9_value_X9 hown hK hP 0 rfl rfl 22 (by decide) (hts _ mX9_value_2) (fun _ h9 => h9) rfl dX9_value_45 ?_
    exact zz_ri (v := Y.2.2.2.2.2.1.2.2) ((Y.1, Y.2.1, Y.2.2.1, Y.2.2.2.1, Y.2.2.2.2.1, Y.2.2.2.2.2.1, Y.2.2.2.2.2.2.1, Y.2.2.2.2.2.2.2.1, Y.2.2.2.2.2.2.2.2.1, (Y.2.2.2.2.2.2.2.2.2.1, 0)) : tMd) hx hb hr hlocks hS hP hD ⟨by simp [m_val, zc_1], by rfl⟩ dX9_value_48
  have zc_1 := zeq_f c_1
  by_cases c_2 : q = 1
  · refine lv_tableIn (tgt := 49) (off := 43) hx hb dX9_value_6 (by rw [c_2]; decide) (by rw [c_2]; decide) (by rw [c_2]; rfl) (by decide) ?_
    have zc_2 := zeq_t c_2
    refine lv_aload_n hx hb dX9_value_49 rfl (lv_at hl 0 rfl) ?_
    refine va_get (D := G) (ci := 9) (v := .int Y.2.2.2.2.2.1.2.1) (C := RX9) (T := TX9) (N := 31) hx hb hts iX9_value_X9 hown hK hP 0 rfl rfl 21 (by decide) (hts _ mX9_value_3) (fun _ h9 => h9) rfl dX9_value_50 ?_
    exact zz_ri (v := Y.2.2.2.2.2.1.2.1) ((Y.1, Y.2.1, Y.2.2.1, Y.2.2.2.1, Y.2.2.2.2.1, Y.2.2.2.2.2.1, Y.2.2.2.2.2.2.1, Y.2.2.2.2.2.2.2.1, Y.2.2.2.2.2.2.2.2.1, (Y.2.2.2.2.2.2.2.2.2.1, 0)) : tMd) hx hb hr hlocks hS hP hD ⟨by simp [m_val, zc_1, zc_2], by rfl⟩ dX9_value_53
  have zc_2 := zeq_f c_2
  by_cases c_3 : q = 2
  · refine lv_tableIn (tgt := 54) (off := 48) hx hb dX9_value_6 (by rw [c_3]; decide) (by rw [c_3]; decide) (by rw [c_3]; rfl) (by decide) ?_
    have zc_3 := zeq_t c_3
    refine lv_aload_n hx hb dX9_value_54 rfl (lv_at hl 0 rfl) ?_
    refine va_get (D := G) (ci := 9) (v := .int Y.2.2.2.2.2.1.1) (C := RX9) (T := TX9) (N := 31) hx hb hts iX9_value_X9 hown hK hP 0 rfl rfl 6 (by decide) (hts _ mX9_value_4) (fun _ h9 => h9) rfl dX9_value_55 ?_
    exact zz_ri (v := Y.2.2.2.2.2.1.1) ((Y.1, Y.2.1, Y.2.2.1, Y.2.2.2.1, Y.2.2.2.2.1, Y.2.2.2.2.2.1, Y.2.2.2.2.2.2.1, Y.2.2.2.2.2.2.2.1, Y.2.2.2.2.2.2.2.2.1, (Y.2.2.2.2.2.2.2.2.2.1, 0)) : tMd) hx hb hr hlocks hS hP hD ⟨by simp [m_val, zc_1, zc_2, zc_3], by rfl⟩ dX9_value_58
  have zc_3 := zeq_f c_3
  by_cases c_4 : q = 3
  · refine lv_tableIn (tgt := 59) (off := 53) hx hb dX9_value_6 (by rw [c_4]; decide) (by rw [c_4]; decide) (by rw [c_4]; rfl) (by decide) ?_
    have zc_4 := zeq_t c_4
    refine lv_aload_n hx hb dX9_value_59 rfl (lv_at hl 0 rfl) ?_
    refine va_get (D := G) (ci := 9) (v := .int Y.2.2.2.2.1.1) (C := RX9) (T := TX9) (N := 31) hx hb hts iX9_value_X9 hown hK hP 0 rfl rfl 17 (by decide) (hts _ mX9_value_5) (fun _ h9 => h9) rfl dX9_value_60 ?_
    exact zz_ri (v := Y.2.2.2.2.1.1) ((Y.1, Y.2.1, Y.2.2.1, Y.2.2.2.1, Y.2.2.2.2.1, Y.2.2.2.2.2.1, Y.2.2.2.2.2.2.1, Y.2.2.2.2.2.2.2.1, Y.2.2.2.2.2.2.2.2.1, (Y.2.2.2.2.2.2.2.2.2.1, 0)) : tMd) hx hb hr hlocks hS hP hD ⟨by simp [m_val, zc_1, zc_2, zc_3, zc_4], by rfl⟩ dX9_value_63
  have zc_4 := zeq_f c_4
  by_cases c_5 : q = 4
  · refine lv_tableIn (tgt := 64) (off := 58) hx hb dX9_value_6 (by rw [c_5]; decide) (by rw [c_5]; decide) (by rw [c_5]; rfl) (by decide) ?_
    have zc_5 := zeq_t c_5
    refine lv_aload_n hx hb dX9_value_64 rfl (lv_at hl 0 rfl) ?_
    refine va_get (D := G) (ci := 9) (v := .int Y.2.2.2.2.1.2.1) (C := RX9) (T := TX9) (N := 31) hx hb hts iX9_value_X9 hown hK hP 0 rfl rfl 18 (by decide) (hts _ mX9_value_6) (fun _ h9 => h9) rfl dX9_value_65 ?_
    exact zz_ri (v := Y.2.2.2.2.1.2.1) ((Y.1, Y.2.1, Y.2.2.1, Y.2.2.2.1, Y.2.2.2.2.1, Y.2.2.2.2.2.1, Y.2.2.2.2.2.2.1, Y.2.2.2.2.2.2.2.1, Y.2.2.2.2.2.2.2.2.1, (Y.2.2.2.2.2.2.2.2.2.1, 0)) : tMd) hx hb hr hlocks hS hP hD ⟨by simp [m_val, zc_1, zc_2, zc_3, zc_4, zc_5], by rfl⟩ dX9_value_68
  have zc_5 := zeq_f c_5
  by_cases c_6 : q = 5
  · refine lv_tableIn (tgt := 69) (off := 63) hx hb dX9_value_6 (by rw [c_6]; decide) (by rw [c_6]; decide) (by rw [c_6]; rfl) (by decide) ?_
    have zc_6 := zeq_t c_6
    refine lv_aload_n hx hb dX9_value_69 rfl (lv_at hl 0 rfl) ?_
    refine va_get (D := G) (ci := 9) (v := .int Y.2.1.1) (C := RX9) (T := TX9) (N := 31) hx hb hts iX9_value_X9 hown hK hP 0 rfl rfl 5 (by decide) (hts _ mX9_value_7) (fun _ h9 => h9) rfl dX9_value_70 ?_
    exact zz_ri (v := Y.2.1.1) ((Y.1, Y.2.1, Y.2.2.1, Y.2.2.2.1, Y.2.2.2.2.1, Y.2.2.2.2.2.1, Y.2.2.2.2.2.2.1, Y.2.2.2.2.2.2.2.1, Y.2.2.2.2.2.2.2.2.1, (Y.2.2.2.2.2.2.2.2.2.1, 0)) : tMd) hx hb hr hlocks hS hP hD ⟨by simp [m_val, zc_1, zc_2, zc_3, zc_4, zc_5, zc_6], by rfl⟩ dX9_value_73
  have zc_6 := zeq_f c_6
  refine lv_tableOut (tgt := 74) hx hb dX9_value_6 (zz_out5 c_1 c_2 c_3 c_4 c_5 c_6) (by decide) ?_
  refine lv_iconst (v := (-1)) hx hb dX9_value_74 (by decide) ?_
  exact zz_ri (v := (-1)) ((Y.1, Y.2.1, Y.2.2.1, Y.2.2.2.1, Y.2.2.2.2.1, Y.2.2.2.2.2.1, Y.2.2.2.2.2.2.1, Y.2.2.2.2.2.2.2.1, Y.2.2.2.2.2.2.2.2.1, (Y.2.2.2.2.2.2.2.2.2.1, 0)) : tMd) hx hb hr hlocks hS hP hD ⟨by simp [m_val, zc_1, zc_2, zc_3, zc_4, zc_5, zc_6], by rfl⟩ dX9_value_75
theorem iX9_fallback_X9 : ∀ w ∈ u_ws RX9 TX9 31, w ∈ wsX9_fallback := by decide +kernel
theorem mX9_fallback_1 : Cond.fieldLink RX9 49 "ChamberPacerModel" "code" "I" ∈ wsX9_fallback := by decide +kernel
theorem mX9_fallback_2 : Cond.fieldLink RX9 71 "ChamberPacerModel" "back" "Z" ∈ wsX9_fallback := by decide +kernel
abbrev rmX9_fallback : Room := { frames := 0, cells := 0, slots := 0, locals := 0 }
abbrev QfX9_fallback (G : va_G) (cA cB : ClassId) (g : Nat → Nat) (Y : tMd) : (Nat → Prop) → Array Value → State → Outcome → State → Prop := fun A => va_Qi (fun (r : Int32) (u : tMd) => r = bI Y.2.2.2.2.1.2.2 ∧ u = m_c0 Y) (zz_B G vwCl (fun u : tMd => (wMD g cA cB u)) A) A
set_option maxHeartbeats 1000000 in
set_option maxRecDepth 100000 in
theorem kX9_fallback (l : Launch) (G : va_G) (cA cB : ClassId) (tb : Nat × Nat × Nat) (g : Nat → Nat) (sz : Nat) (Y : tMd) : Met l yX9_fallback wsX9_fallback rmX9_fallback (zz_P (zS tb) G vwCl [(cA, .int), (cB, .boolean)] [.ref (g 0)] (wMD g cA cB Y) sz) (QfX9_fallback G cA cB g Y (va_A (wMD g cA cB Y) sz)) 0 0 (va_A (wMD g cA cB Y) sz) := by
  refine zz_Met (cc := cX9_fallback) (maxL := 1) (ret := (some .boolean)) (Qf := QfX9_fallback G cA cB g Y) (by decide) rfl (Nat.le_of_ble_eq_true rfl) ?_
  intro p e s m below meth c A ls hx hb hr hts hown hlocks hin hml hA hP hK hD hz hS hl
  have hl : lv_has ls 1 [(0, .ref (g 0))] := hl
  have hP : va_P G vwCl [((g 0), .inr (9, [.ref (g 1), .ref (g 2), .ref (g 3), .ref (g 4), .ref (g 5), .int Y.2.1.1, .int Y.2.2.2.2.2.1.1, .int Y.2.1.2.1, .int Y.2.1.2.2.1, .int Y.2.1.2.2.2.1, .int (bI Y.2.1.2.2.2.2.1), .int Y.2.1.2.2.2.2.2.1, .int (bI Y.2.1.2.2.2.2.2.2), .int Y.2.2.1.1, .int Y.2.2.1.2, .int Y.2.2.2.1.1, .int Y.2.2.2.1.2, .int Y.2.2.2.2.1.1, .int Y.2.2.2.2.1.2.1, .int (bI Y.2.2.2.2.1.2.2), .int Y.2.2.2.2.2.2.1.2, .int Y.2.2.2.2.2.1.2.1, .int Y.2.2.2.2.2.1.2.2, .ref (g 6), .int Y.2.2.2.2.2.2.2.2.2.1, .int Y.2.2.2.2.2.2.2.2.1.2, .ref (g 7), .int Y.2.2.2.2.2.2.2.1.2.2, .ref (g 8), .ref (g 9), .int Y.2.2.2.2.2.2.2.2.2.2])), ((g 1), .inl (cA, 14, .inl Y.1.1)), ((g 2), .inl (cA, 14, .inl Y.1.2.1)), ((g 3), .inl (cA, 14, .inl Y.1.2.2.1)), ((g 4), .inl (cA, 14, .inl Y.1.2.2.2.1)), ((g 5), .inl (cB, 14, .inl Y.1.2.2.2.2)), ((g 6), .inl (cA, 8, .inl Y.2.2.2.2.2.2.1.1)), ((g 7), .inl (cA, 6, .inl Y.2.2.2.2.2.2.2.2.1.1)), ((g 8), .inl (cA, 12, .inl Y.2.2.2.2.2.2.2.1.1)), ((g 9), .inl (cA, 12, .inl Y.2.2.2.2.2.2.2.1.2.1))] s.heap := hP
  have hD : va_D A [((g 0), .inr (9, [.ref (g 1), .ref (g 2), .ref (g 3), .ref (g 4), .ref (g 5), .int Y.2.1.1, .int Y.2.2.2.2.2.1.1, .int Y.2.1.2.1, .int Y.2.1.2.2.1, .int Y.2.1.2.2.2.1, .int (bI Y.2.1.2.2.2.2.1), .int Y.2.1.2.2.2.2.2.1, .int (bI Y.2.1.2.2.2.2.2.2), .int Y.2.2.1.1, .int Y.2.2.1.2, .int Y.2.2.2.1.1, .int Y.2.2.2.1.2, .int Y.2.2.2.2.1.1, .int Y.2.2.2.2.1.2.1, .int (bI Y.2.2.2.2.1.2.2), .int Y.2.2.2.2.2.2.1.2, .int Y.2.2.2.2.2.1.2.1, .int Y.2.2.2.2.2.1.2.2, .ref (g 6), .int Y.2.2.2.2.2.2.2.2.2.1, .int Y.2.2.2.2.2.2.2.2.1.2, .ref (g 7), .int Y.2.2.2.2.2.2.2.1.2.2, .ref (g 8), .ref (g 9), .int Y.2.2.2.2.2.2.2.2.2.2])), ((g 1), .inl (cA, 14, .inl Y.1.1)), ((g 2), .inl (cA, 14, .inl Y.1.2.1)), ((g 3), .inl (cA, 14, .inl Y.1.2.2.1)), ((g 4), .inl (cA, 14, .inl Y.1.2.2.2.1)), ((g 5), .inl (cB, 14, .inl Y.1.2.2.2.2)), ((g 6), .inl (cA, 8, .inl Y.2.2.2.2.2.2.1.1)), ((g 7), .inl (cA, 6, .inl Y.2.2.2.2.2.2.2.2.1.1)), ((g 8), .inl (cA, 12, .inl Y.2.2.2.2.2.2.2.1.1)), ((g 9), .inl (cA, 12, .inl Y.2.2.2.2.2.2.2.1.2.1))] := hD
  refine lv_aload_n hx hb dX9_fallback_0 rfl (lv_at hl 0 rfl) ?_
  refine lv_iconst (v := 0) hx hb dX9_fallback_1 (by decide) ?_
  refine va_put (D := G) (ci := 9) (v := .int 0) (ty := .int) (C := RX9) (T := TX9) (N := 31) hx hb hts iX9_fallback_X9 tyX9 tyX9_ok nmX9 hown hK hP hD hS 0 rfl rfl 30 (by decide) (hts _ mX9_fallback_1) (fun _ h9 => h9) rfl (by decide +kernel) rfl rfl (Nat.le_of_ble_eq_true rfl) dX9_fallback_2 (fun H locs hP hD hS => ?_)
  have hP : va_P G vwCl [((g 0), .inr (9, [.ref (g 1), .ref (g 2), .ref (g 3), .ref (g 4), .ref (g 5), .int Y.2.1.1, .int Y.2.2.2.2.2.1.1, .int Y.2.1.2.1, .int Y.2.1.2.2.1, .int Y.2.1.2.2.2.1, .int (bI Y.2.1.2.2.2.2.1), .int Y.2.1.2.2.2.2.2.1, .int (bI Y.2.1.2.2.2.2.2.2), .int Y.2.2.1.1, .int Y.2.2.1.2, .int Y.2.2.2.1.1, .int Y.2.2.2.1.2, .int Y.2.2.2.2.1.1, .int Y.2.2.2.2.1.2.1, .int (bI Y.2.2.2.2.1.2.2), .int Y.2.2.2.2.2.2.1.2, .int Y.2.2.2.2.2.1.2.1, .int Y.2.2.2.2.2.1.2.2, .ref (g 6), .int Y.2.2.2.2.2.2.2.2.2.1, .int Y.2.2.2.2.2.2.2.2.1.2, .ref (g 7), .int Y.2.2.2.2.2.2.2.1.2.2, .ref (g 8), .ref (g 9), .int 0])), ((g 1), .inl (cA, 14, .inl Y.1.1)), ((g 2), .inl (cA, 14, .inl Y.1.2.1)), ((g 3), .inl (cA, 14, .inl Y.1.2.2.1)), ((g 4), .inl (cA, 14, .inl Y.1.2.2.2.1)), ((g 5), .inl (cB, 14, .inl Y.1.2.2.2.2)), ((g 6), .inl (cA, 8, .inl Y.2.2.2.2.2.2.1.1)), ((g 7), .inl (cA, 6, .inl Y.2.2.2.2.2.2.2.2.1.1)), ((g 8), .inl (cA, 12, .inl Y.2.2.2.2.2.2.2.1.1)), ((g 9), .inl (cA, 12, .inl Y.2.2.2.2.2.2.2.1.2.1))] H := hP
  have hD : va_D A [((g 0), .inr (9, [.ref (g 1), .ref (g 2), .ref (g 3), .ref (g 4), .ref (g 5), .int Y.2.1.1, .int Y.2.2.2.2.2.1.1, .int Y.2.1.2.1, .int Y.2.1.2.2.1, .int Y.2.1.2.2.2.1, .int (bI Y.2.1.2.2.2.2.1), .int Y.2.1.2.2.2.2.2.1, .int (bI Y.2.1.2.2.2.2.2.2), .int Y.2.2.1.1, .int Y.2.2.1.2, .int Y.2.2.2.1.1, .int Y.2.2.2.1.2, .int Y.2.2.2.2.1.1, .int Y.2.2.2.2.1.2.1, .int (bI Y.2.2.2.2.1.2.2), .int Y.2.2.2.2.2.2.1.2, .int Y.2.2.2.2.2.1.2.1, .int Y.2.2.2.2.2.1.2.2, .ref (g 6), .int Y.2.2.2.2.2.2.2.2.2.1, .int Y.2.2.2.2.2.2.2.2.1.2, .ref (g 7), .int Y.2.2.2.2.2.2.2.1.2.2, .ref (g 8), .ref (g 9), .int 0])), ((g 1), .inl (cA, 14, .inl Y.1.1)), ((g 2), .inl (cA, 14, .inl Y.1.2.1)), ((g 3), .inl (cA, 14, .inl Y.1.2.2.1)), ((g 4), .inl (cA, 14, .inl Y.1.2.2.2.1)), ((g 5), .inl (cB, 14, .inl Y.1.2.2.2.2)), ((g 6), .inl (cA, 8, .inl Y.2.2.2.2.2.2.1.1)), ((g 7), .inl (cA, 6, .inl Y.2.2.2.2.2.2.2.2.1.1)), ((g 8), .inl (cA, 12, .inl Y.2.2.2.2.2.2.2.1.1)), ((g 9), .inl (cA, 12, .inl Y.2.2.2.2.2.2.2.1.2.1))] := hD
  refine lv_aload_n hx hb dX9_fallback_5 rfl (lv_at hl 0 rfl) ?_
  refine va_get (D := G) (ci := 9) (v := .int (bI Y.2.2.2.2.1.2.2)) (C := RX9) (T := TX9) (N := 31) hx hb hts iX9_fallback_X9 hown hK hP 0 rfl rfl 19 (by decide) (hts _ mX9_fallback_2) (fun _ h9 => h9) rfl dX9_fallback_6 ?_
  exact zz_rz (v := (bI Y.2.2.2.2.1.2.2)) ((Y.1, Y.2.1, Y.2.2.1, Y.2.2.2.1, Y.2.2.2.2.1, Y.2.2.2.2.2.1, Y.2.2.2.2.2.2.1, Y.2.2.2.2.2.2.2.1, Y.2.2.2.2.2.2.2.2.1, (Y.2.2.2.2.2.2.2.2.2.1, 0)) : tMd) hx hb hr (bI_n _) hlocks hS hP hD ⟨by rfl, by rfl⟩ dX9_fallback_9
theorem iX9_marker_X9 : ∀ w ∈ u_ws RX9 TX9 31, w ∈ wsX9_marker := by decide +kernel
theorem mX9_marker_1 : Cond.fieldLink RX9 49 "ChamberPacerModel" "code" "I" ∈ wsX9_marker := by decide +kernel
theorem mX9_marker_2 : Cond.fieldLink RX9 52 "ChamberPacerModel" "markers" "I" ∈ wsX9_marker := by decide +kernel
theorem mX9_marker_4 : Cond.fieldLink RX9 42 "ChamberPacerModel" "markTimes" "[I" ∈ wsX9_marker := by decide +kernel
theorem mX9_marker_3 : Cond.fieldLink RX9 39 "ChamberPacerModel" "marks" "[I" ∈ wsX9_marker := by decide +kernel
abbrev rmX9_marker : Room := { frames := 0, cells := 0, slots := 0, locals := 0 }
abbrev QfX9_marker (G : va_G) (cA cB : ClassId) (g : Nat → Nat) (Y : tMd) (k : Int32) (q : Int32) : (Nat → Prop) → Array Value → State → Outcome → State → Prop := fun A => va_Qi (fun (r : Int32) (u : tMd) => r = m_mrk k q Y ∧ u = m_c0 Y) (zz_B G vwCl (fun u : tMd => (wMD g cA cB u)) A) A
set_option maxHeartbeats 1000000 in
set_option maxRecDepth 100000 in
theorem kX9_marker (l : Launch) (G : va_G) (cA cB : ClassId) (tb : Nat × Nat × Nat) (g : Nat → Nat) (sz : Nat) (Y : tMd) (k : Int32) (q : Int32) (hI : mK 0 0 Y) : Met l yX9_marker wsX9_marker rmX9_marker (zz_P (zS tb) G vwCl [(cA, .int), (cB, .boolean)] [.ref (g 0), .int k, .int q] (wMD g cA cB Y) sz) (QfX9_marker G cA cB g Y k q (va_A (wMD g cA cB Y) sz)) 0 0 (va_A (wMD g cA cB Y) sz) := by
  refine zz_Met (cc := cX9_marker) (maxL := 4) (ret := (some .int)) (Qf := QfX9_marker G cA cB g Y k q) (by decide) rfl (Nat.le_of_ble_eq_true rfl) ?_
  intro p e s m below meth c A ls hx hb hr hts hown hlocks hin hml hA hP hK hD hz hS hl
  have hl : lv_has ls 4 [(0, .ref (g 0)), (1, .int k), (2, .int q)] := hl
  have hP : va_P G vwCl [((g 0), .inr (9, [.ref (g 1), .ref (g 2), .ref (g 3), .ref (g 4), .ref (g 5), .int Y.2.1.1, .int Y.2.2.2.2.2.1.1, .int Y.2.1.2.1, .int Y.2.1.2.2.1, .int Y.2.1.2.2.2.1, .int (bI Y.2.1.2.2.2.2.1), .int Y.2.1.2.2.2.2.2.1, .int (bI Y.2.1.2.2.2.2.2.2), .int Y.2.2.1.1, .int Y.2.2.1.2, .int Y.2.2.2.1.1, .int Y.2.2.2.1.2, .int Y.2.2.2.2.1.1, .int Y.2.2.2.2.1.2.1, .int (bI Y.2.2.2.2.1.2.2), .int Y.2.2.2.2.2.2.1.2, .int Y.2.2.2.2.2.1.2.1, .int Y.2.2.2.2.2.1.2.2, .ref (g 6), .int Y.2.2.2.2.2.2.2.2.2.1, .int Y.2.2.2.2.2.2.2.2.1.2, .ref (g 7), .int Y.2.2.2.2.2.2.2.1.2.2, .ref (g 8), .ref (g 9), .int Y.2.2.2.2.2.2.2.2.2.2])), ((g 1), .inl (cA, 14, .inl Y.1.1)), ((g 2), .inl (cA, 14, .inl Y.1.2.1)), ((g 3), .inl (cA, 14, .inl Y.1.2.2.1)), ((g 4), .inl (cA, 14, .inl Y.1.2.2.2.1)), ((g 5), .inl (cB, 14, .inl Y.1.2.2.2.2)), ((g 6), .inl (cA, 8, .inl Y.2.2.2.2.2.2.1.1)), ((g 7), .inl (cA, 6, .inl Y.2.2.2.2.2.2.2.2.1.1)), ((g 8), .inl (cA, 12, .inl Y.2.2.2.2.2.2.2.1.1)), ((g 9), .inl (cA, 12, .inl Y.2.2.2.2.2.2.2.1.2.1))] s.heap := hP
  have hD : va_D A [((g 0), .inr (9, [.ref (g 1), .ref (g 2), .ref (g 3), .ref (g 4), .ref (g 5), .int Y.2.1.1, .int Y.2.2.2.2.2.1.1, .int Y.2.1.2.1, .int Y.2.1.2.2.1, .int Y.2.1.2.2.2.1, .int (bI Y.2.1.2.2.2.2.1), .int Y.2.1.2.2.2.2.2.1, .int (bI Y.2.1.2.2.2.2.2.2), .int Y.2.2.1.1, .int Y.2.2.1.2, .int Y.2.2.2.1.1, .int Y.2.2.2.1.2, .int Y.2.2.2.2.1.1, .int Y.2.2.2.2.1.2.1, .int (bI Y.2.2.2.2.1.2.2), .int Y.2.2.2.2.2.2.1.2, .int Y.2.2.2.2.2.1.2.1, .int Y.2.2.2.2.2.1.2.2, .ref (g 6), .int Y.2.2.2.2.2.2.2.2.2.1, .int Y.2.2.2.2.2.2.2.2.1.2, .ref (g 7), .int Y.2.2.2.2.2.2.2.1.2.2, .ref (g 8), .ref (g 9), .int Y.2.2.2.2.2.2.2.2.2.2])), ((g 1), .inl (cA, 14, .inl Y.1.1)), ((g 2), .inl (cA, 14, .inl Y.1.2.1)), ((g 3), .inl (cA, 14, .inl Y.1.2.2.1)), ((g 4), .inl (cA, 14, .inl Y.1.2.2.2.1)), ((g 5), .inl (cB, 14, .inl Y.1.2.2.2.2)), ((g 6), .inl (cA, 8, .inl Y.2.2.2.2.2.2.1.1)), ((g 7), .inl (cA, 6, .inl Y.2.2.2.2.2.2.2.2.1.1)), ((g 8), .inl (cA, 12, .inl Y.2.2.2.2.2.2.2.1.1)), ((g 9), .inl (cA, 12, .inl Y.2.2.2.2.2.2.2.1.2.1))] := hD
  refine lv_aload_n hx hb dX9_marker_0 rfl (lv_at hl 0 rfl) ?_
  refine lv_iconst (v := 0) hx hb dX9_marker_1 (by decide) ?_
  refine va_put (D := G) (ci := 9) (v := .int 0) (ty := .int) (C := RX9) (T := TX9) (N := 31) hx hb hts iX9_marker_X9 tyX9 tyX9_ok nmX9 hown hK hP hD hS 0 rfl rfl 30 (by decide) (hts _ mX9_marker_1) (fun _ h9 => h9) rfl (by decide +kernel) rfl rfl (Nat.le_of_ble_eq_true rfl) dX9_marker_2 (fun H locs hP hD hS => ?_)
  have hP : va_P G vwCl [((g 0), .inr (9, [.ref (g 1), .ref (g 2), .ref (g 3), .ref (g 4), .ref (g 5), .int Y.2.1.1, .int Y.2.2.2.2.2.1.1, .int Y.2.1.2.1, .int Y.2.1.2.2.1, .int Y.2.1.2.2.2.1, .int (bI Y.2.1.2.2.2.2.1), .int Y.2.1.2.2.2.2.2.1, .int (bI Y.2.1.2.2.2.2.2.2), .int Y.2.2.1.1, .int Y.2.2.1.2, .int Y.2.2.2.1.1, .int Y.2.2.2.1.2, .int Y.2.2.2.2.1.1, .int Y.2.2.2.2.1.2.1, .int (bI Y.2.2.2.2.1.2.2), .int Y.2.2.2.2.2.2.1.2, .int Y.2.2.2.2.2.1.2.1, .int Y.2.2.2.2.2.1.2.2, .ref (g 6), .int Y.2.2.2.2.2.2.2.2.2.1, .int Y.2.2.2.2.2.2.2.2.1.2, .ref (g 7), .int Y.2.2.2.2.2.2.2.1.2.2, .ref (g 8), .ref (g 9), .int 0])), ((g 1), .inl (cA, 14, .inl Y.1.1)), ((g 2), .inl (cA, 14, .inl Y.1.2.1)), ((g 3), .inl (cA, 14, .inl Y.1.2.2.1)), ((g 4), .inl (cA, 14, .inl Y.1.2.2.2.1)), ((g 5), .inl (cB, 14, .inl Y.1.2.2.2.2)), ((g 6), .inl (cA, 8, .inl Y.2.2.2.2.2.2.1.1)), ((g 7), .inl (cA, 6, .inl Y.2.2.2.2.2.2.2.2.1.1)), ((g 8), .inl (cA, 12, .inl Y.2.2.2.2.2.2.2.1.1)), ((g 9), .inl (cA, 12, .inl Y.2.2.2.2.2.2.2.1.2.1))] H := hP
  have hD : va_D A [((g 0), .inr (9, [.ref (g 1), .ref (g 2), .ref (g 3), .ref (g 4), .ref (g 5), .int Y.2.1.1, .int Y.2.2.2.2.2.1.1, .int Y.2.1.2.1, .int Y.2.1.2.2.1, .int Y.2.1.2.2.2.1, .int (bI Y.2.1.2.2.2.2.1), .int Y.2.1.2.2.2.2.2.1, .int (bI Y.2.1.2.2.2.2.2.2), .int Y.2.2.1.1, .int Y.2.2.1.2, .int Y.2.2.2.1.1, .int Y.2.2.2.1.2, .int Y.2.2.2.2.1.1, .int Y.2.2.2.2.1.2.1, .int (bI Y.2.2.2.2.1.2.2), .int Y.2.2.2.2.2.2.1.2, .int Y.2.2.2.2.2.1.2.1, .int Y.2.2.2.2.2.1.2.2, .ref (g 6), .int Y.2.2.2.2.2.2.2.2.2.1, .int Y.2.2.2.2.2.2.2.2.1.2, .ref (g 7), .int Y.2.2.2.2.2.2.2.1.2.2, .ref (g 8), .ref (g 9), .int 0])), ((g 1), .inl (cA, 14, .inl Y.1.1)), ((g 2), .inl (cA, 14, .inl Y.1.2.1)), ((g 3), .inl (cA, 14, .inl Y.1.2.2.1)), ((g 4), .inl (cA, 14, .inl Y.1.2.2.2.1)), ((g 5), .inl (cB, 14, .inl Y.1.2.2.2.2)), ((g 6), .inl (cA, 8, .inl Y.2.2.2.2.2.2.1.1)), ((g 7), .inl (cA, 6, .inl Y.2.2.2.2.2.2.2.2.1.1)), ((g 8), .inl (cA, 12, .inl Y.2.2.2.2.2.2.2.1.1)), ((g 9), .inl (cA, 12, .inl Y.2.2.2.2.2.2.2.1.2.1))] := hD
  refine lv_iload_n hx hb dX9_marker_5 rfl (lv_at hl 1 rfl) ?_
  refine lv_if_lt (tgt := 32) hx hb dX9_marker_6 (by decide) (fun c_1 => ?_) (fun c_1 => ?_)
  · have c_1 := zlt_t c_1
    refine lv_iconst (v := (-1)) hx hb dX9_marker_32 (by decide) ?_
    exact zz_ri (v := (-1)) ((Y.1, Y.2.1, Y.2.2.1, Y.2.2.2.1, Y.2.2.2.2.1, Y.2.2.2.2.2.1, Y.2.2.2.2.2.2.1, Y.2.2.2.2.2.2.2.1, Y.2.2.2.2.2.2.2.2.1, (Y.2.2.2.2.2.2.2.2.2.1, 0)) : tMd) hx hb hr hlocks hS hP hD ⟨by simp [m_mrk, m_mix, k_rem, c_1], by rfl⟩ dX9_marker_33
  · have c_1 := zlt_f c_1
    refine lv_iload_n hx hb dX9_marker_9 rfl (lv_at hl 1 rfl) ?_
    refine lv_bipush (v := 11) hx hb dX9_marker_10 (by decide) ?_
    refine lv_icmp_gt (tgt := 32) hx hb dX9_marker_12 (by decide) (fun c_2 => ?_) (fun c_2 => ?_)
    · have c_2 := zlt_t c_2
      refine lv_iconst (v := (-1)) hx hb dX9_marker_32 (by decide) ?_
      exact zz_ri (v := (-1)) ((Y.1, Y.2.1, Y.2.2.1, Y.2.2.2.1, Y.2.2.2.2.1, Y.2.2.2.2.2.1, Y.2.2.2.2.2.2.1, Y.2.2.2.2.2.2.2.1, Y.2.2.2.2.2.2.2.2.1, (Y.2.2.2.2.2.2.2.2.2.1, 0)) : tMd) hx hb hr hlocks hS hP hD ⟨by simp [m_mrk, m_mix, k_rem, c_1, c_2], by rfl⟩ dX9_marker_33
    · have c_2 := zlt_f c_2
      refine lv_iload_n hx hb dX9_marker_15 rfl (lv_at hl 1 rfl) ?_
      refine lv_aload_n hx hb dX9_marker_16 rfl (lv_at hl 0 rfl) ?_
      refine va_get (D := G) (ci := 9) (v := .int Y.2.2.2.2.2.2.2.1.2.2) (C := RX9) (T := TX9) (N := 31) hx hb hts iX9_marker_X9 hown hK hP 0 rfl rfl 27 (by decide) (hts _ mX9_marker_2) (fun _ h9 => h9) rfl dX9_marker_17 ?_
      refine lv_icmp_ge (tgt := 32) hx hb dX9_marker_20 (by decide) (fun c_3 => ?_) (fun c_3 => ?_)
      · have c_3 := zle_t c_3
        refine lv_iconst (v := (-1)) hx hb dX9_marker_32 (by decide) ?_
        exact zz_ri (v := (-1)) ((Y.1, Y.2.1, Y.2.2.1, Y.2.2.2.1, Y.2.2.2.2.1, Y.2.2.2.2.2.1, Y.2.2.2.2.2.2.1, Y.2.2.2.2.2.2.2.1, Y.2.2.2.2.2.2.2.2.1, (Y.2.2.2.2.2.2.2.2.2.1, 0)) : tMd) hx hb hr hlocks hS hP hD ⟨by simp [m_mrk, m_mix, k_rem, c_1, c_2, c_3], by rfl⟩ dX9_marker_33
      · have c_3 := zle_f c_3
        refine lv_iload_n hx hb dX9_marker_23 rfl (lv_at hl 2 rfl) ?_
        refine lv_if_lt (tgt := 32) hx hb dX9_marker_24 (by decide) (fun c_4 => ?_) (fun c_4 => ?_)
        · have c_4 := zlt_t c_4
          refine lv_iconst (v := (-1)) hx hb dX9_marker_32 (by decide) ?_
          exact zz_ri (v := (-1)) ((Y.1, Y.2.1, Y.2.2.1, Y.2.2.2.1, Y.2.2.2.2.1, Y.2.2.2.2.2.1, Y.2.2.2.2.2.2.1, Y.2.2.2.2.2.2.2.1, Y.2.2.2.2.2.2.2.2.1, (Y.2.2.2.2.2.2.2.2.2.1, 0)) : tMd) hx hb hr hlocks hS hP hD ⟨by simp [m_mrk, m_mix, k_rem, c_1, c_2, c_3, c_4], by rfl⟩ dX9_marker_33
        · have c_4 := zlt_f c_4
          refine lv_iload_n hx hb dX9_marker_27 rfl (lv_at hl 2 rfl) ?_
          refine lv_iconst (v := 1) hx hb dX9_marker_28 (by decide) ?_
          refine lv_icmp_le (tgt := 34) hx hb dX9_marker_29 (by decide) (fun c_5 => ?_) (fun c_5 => ?_)
          · have c_5 := zle_t c_5
            refine lv_aload_n hx hb dX9_marker_34 rfl (lv_at hl 0 rfl) ?_
            refine va_get (D := G) (ci := 9) (v := .int Y.2.2.2.2.2.2.2.1.2.2) (C := RX9) (T := TX9) (N := 31) hx hb hts iX9_marker_X9 hown hK hP 0 rfl rfl 27 (by decide) (hts _ mX9_marker_2) (fun _ h9 => h9) rfl dX9_marker_35 ?_
            refine lv_iconst (v := 1) hx hb dX9_marker_38 (by decide) ?_
            refine lv_isub hx hb dX9_marker_39 ?_
            refine lv_iload_n hx hb dX9_marker_40 rfl (lv_at hl 1 rfl) ?_
            refine lv_isub hx hb dX9_marker_41 ?_
            refine lv_bipush (v := 12) hx hb dX9_marker_42 (by decide) ?_
            refine lv_irem hx hb dX9_marker_44 (by decide) ?_
            refine lv_istore_n (lv' := [(3, .int (((Y.2.2.2.2.2.2.2.1.2.2 - 1) - k) - ((Y.2.2.2.2.2.2.2.1.2.2 - 1) - k) / 12 * 12)), (0, .ref (g 0)), (1, .int k), (2, .int q)]) hx hb dX9_marker_45 rfl hl (by decide) rfl (fun ls hl => ?_)
            refine lv_iload_n hx hb dX9_marker_46 rfl (lv_at hl 3 rfl) ?_
            refine lv_if_ne (tgt := 59) hx hb dX9_marker_47 (by decide) (fun c_6 => ?_) (fun c_6 => ?_)
            · have c_6 := zeq_f c_6
              refine lv_aload_n hx hb dX9_marker_59 rfl (lv_at hl 1 rfl) ?_
              refine va_get (D := G) (ci := 9) (v := .ref (g 9)) (C := RX9) (T := TX9) (N := 31) hx hb hts iX9_marker_X9 hown hK hP 0 rfl rfl 29 (by decide) (hts _ mX9_marker_4) (fun _ h9 => h9) rfl dX9_marker_60 ?_
              refine lv_iload_n hx hb dX9_marker_63 rfl (lv_at hl 0 rfl) ?_
              refine zz_iald hx hb hK hP 9 0 ((((Y.2.2.2.2.2.2.2.1.2.2 - 1) - k) - ((Y.2.2.2.2.2.2.2.1.2.2 - 1) - k) / 12 * 12).toNatClampNeg) rfl rfl rfl (vp_mix hI (by assumption) (by assumption)) dX9_marker_64 ?_
              exact zz_ri (v := (Y.2.2.2.2.2.2.2.1.2.1 ((((Y.2.2.2.2.2.2.2.1.2.2 - 1) - k) - ((Y.2.2.2.2.2.2.2.1.2.2 - 1) - k) / 12 * 12).toNatClampNeg))) ((Y.1, Y.2.1, Y.2.2.1, Y.2.2.2.1, Y.2.2.2.2.1, Y.2.2.2.2.2.1, Y.2.2.2.2.2.2.1, Y.2.2.2.2.2.2.2.1, Y.2.2.2.2.2.2.2.2.1, (Y.2.2.2.2.2.2.2.2.2.1, 0)) : tMd) hx hb hr hlocks hS hP hD ⟨by simp [m_mrk, m_mix, k_rem, c_1, c_2, c_3, c_4, c_5, c_6], by rfl⟩ dX9_marker_65
            · have c_6 := zeq_t c_6
              refine lv_aload_n hx hb dX9_marker_50 rfl (lv_at hl 1 rfl) ?_
              refine va_get (D := G) (ci := 9) (v := .ref (g 8)) (C := RX9) (T := TX9) (N := 31) hx hb hts iX9_marker_X9 hown hK hP 0 rfl rfl 28 (by decide) (hts _ mX9_marker_3) (fun _ h9 => h9) rfl dX9_marker_51 ?_
              refine lv_iload_n hx hb dX9_marker_54 rfl (lv_at hl 0 rfl) ?_
              refine zz_iald hx hb hK hP 8 0 ((((Y.2.2.2.2.2.2.2.1.2.2 - 1) - k) - ((Y.2.2.2.2.2.2.2.1.2.2 - 1) - k) / 12 * 12).toNatClampNeg) rfl rfl rfl (vp_mix hI (by assumption) (by assumption)) dX9_marker_55 ?_
              refine lv_goto (tgt := 65) hx hb dX9_marker_56 (by decide) ?_
              exact zz_ri (v := (Y.2.2.2.2.2.2.2.1.1 ((((Y.2.2.2.2.2.2.2.1.2.2 - 1) - k) - ((Y.2.2.2.2.2.2.2.1.2.2 - 1) - k) / 12 * 12).toNatClampNeg))) ((Y.1, Y.2.1, Y.2.2.1, Y.2.2.2.1, Y.2.2.2.2.1, Y.2.2.2.2.2.1, Y.2.2.2.2.2.2.1, Y.2.2.2.2.2.2.2.1, Y.2.2.2.2.2.2.2.2.1, (Y.2.2.2.2.2.2.2.2.2.1, 0)) : tMd) hx hb hr hlocks hS hP hD ⟨by simp [m_mrk, m_mix, k_rem, c_1, c_2, c_3, c_4, c_5, c_6], by rfl⟩ dX9_marker_65
          · have c_5 := zle_f c_5
            refine lv_iconst (v := (-1)) hx hb dX9_marker_32 (by decide) ?_
            exact zz_ri (v := (-1)) ((Y.1, Y.2.1, Y.2.2.1, Y.2.2.2.1, Y.2.2.2.2.1, Y.2.2.2.2.2.1, Y.2.2.2.2.2.2.1, Y.2.2.2.2.2.2.2.1, Y.2.2.2.2.2.2.2.2.1, (Y.2.2.2.2.2.2.2.2.2.1, 0)) : tMd) hx hb hr hlocks hS hP hD ⟨by simp [m_mrk, m_mix, k_rem, c_1, c_2, c_3, c_4, c_5], by rfl⟩ dX9_marker_33
theorem iX9_histogram_X9 : ∀ w ∈ u_ws RX9 TX9 31, w ∈ wsX9_histogram := by decide +kernel
theorem mX9_histogram_1 : Cond.fieldLink RX9 49 "ChamberPacerModel" "code" "I" ∈ wsX9_histogram := by decide +kernel
theorem mX9_histogram_2 : Cond.fieldLink RX9 33 "ChamberPacerModel" "bins" "[I" ∈ wsX9_histogram := by decide +kernel
abbrev rmX9_histogram : Room := { frames := 0, cells := 0, slots := 0, locals := 0 }
abbrev QfX9_histogram (G : va_G) (cA cB : ClassId) (g : Nat → Nat) (Y : tMd) (k : Int32) : (Nat → Prop) → Array Value → State → Outcome → State → Prop := fun A => va_Qi (fun (r : Int32) (u : tMd) => r = m_his k Y ∧ u = m_c0 Y) (zz_B G vwCl (fun u : tMd => (wMD g cA cB u)) A) A
set_option maxHeartbeats 1000000 in
set_option maxRecDepth 100000 in
theorem kX9_histogram (l : Launch) (G : va_G) (cA cB : ClassId) (tb : Nat × Nat × Nat) (g : Nat → Nat) (sz : Nat) (Y : tMd) (k : Int32) : Met l yX9_histogram wsX9_histogram rmX9_histogram (zz_P (zS tb) G vwCl [(cA, .int), (cB, .boolean)] [.ref (g 0), .int k] (wMD g cA cB Y) sz) (QfX9_histogram G cA cB g Y k (va_A (wMD g cA cB Y) sz)) 0 0 (va_A (wMD g cA cB Y) sz) := by
  refine zz_Met (cc := cX9_histogram) (maxL := 2) (ret := (some .int)) (Qf := QfX9_histogram G cA cB g Y k) (by decide) rfl (Nat.le_of_ble_eq_true rfl) ?_
  intro p e s m below meth c A ls hx hb hr hts hown hlocks hin hml hA hP hK hD hz hS hl
  have hl : lv_has ls 2 [(0, .ref (g 0)), (1, .int k)] := hl
  have hP : va_P G vwCl [((g 0), .inr (9, [.ref (g 1), .ref (g 2), .ref (g 3), .ref (g 4), .ref (g 5), .int Y.2.1.1, .int Y.2.2.2.2.2.1.1, .int Y.2.1.2.1, .int Y.2.1.2.2.1, .int Y.2.1.2.2.2.1, .int (bI Y.2.1.2.2.2.2.1), .int Y.2.1.2.2.2.2.2.1, .int (bI Y.2.1.2.2.2.2.2.2), .int Y.2.2.1.1, .int Y.2.2.1.2, .int Y.2.2.2.1.1, .int Y.2.2.2.1.2, .int Y.2.2.2.2.1.1, .int Y.2.2.2.2.1.2.1, .int (bI Y.2.2.2.2.1.2.2), .int Y.2.2.2.2.2.2.1.2, .int Y.2.2.2.2.2.1.2.1, .int Y.2.2.2.2.2.1.2.2, .ref (g 6), .int Y.2.2.2.2.2.2.2.2.2.1, .int Y.2.2.2.2.2.2.2.2.1.2, .ref (g 7), .int Y.2.2.2.2.2.2.2.1.2.2, .ref (g 8), .ref (g 9), .int Y.2.2.2.2.2.2.2.2.2.2])), ((g 1), .inl (cA, 14, .inl Y.1.1)), ((g 2), .inl (cA, 14, .inl Y.1.2.1)), ((g 3), .inl (cA, 14, .inl Y.1.2.2.1)), ((g 4), .inl (cA, 14, .inl Y.1.2.2.2.1)), ((g 5), .inl (cB, 14, .inl Y.1.2.2.2.2)), ((g 6), .inl (cA, 8, .inl Y.2.2.2.2.2.2.1.1)), ((g 7), .inl (cA, 6, .inl Y.2.2.2.2.2.2.2.2.1.1)), ((g 8), .inl (cA, 12, .inl Y.2.2.2.2.2.2.2.1.1)), ((g 9), .inl (cA, 12, .inl Y.2.2.2.2.2.2.2.1.2.1))] s.heap := hP
  have hD : va_D A [((g 0), .inr (9, [.ref (g 1), .ref (g 2), .ref (g 3), .ref (g 4), .ref (g 5), .int Y.2.1.1, .int Y.2.2.2.2.2.1.1, .int Y.2.1.2.1, .int Y.2.1.2.2.1, .int Y.2.1.2.2.2.1, .int (bI Y.2.1.2.2.2.2.1), .int Y.2.1.2.2.2.2.2.1, .int (bI Y.2.1.2.2.2.2.2.2), .int Y.2.2.1.1, .int Y.2.2.1.2, .int Y.2.2.2.1.1, .int Y.2.2.2.1.2, .int Y.2.2.2.2.1.1, .int Y.2.2.2.2.1.2.1, .int (bI Y.2.2.2.2.1.2.2), .int Y.2.2.2.2.2.2.1.2, .int Y.2.2.2.2.2.1.2.1, .int Y.2.2.2.2.2.1.2.2, .ref (g 6), .int Y.2.2.2.2.2.2.2.2.2.1, .int Y.2.2.2.2.2.2.2.2.1.2, .ref (g 7), .int Y.2.2.2.2.2.2.2.1.2.2, .ref (g 8), .ref (g 9), .int Y.2.2.2.2.2.2.2.2.2.2])), ((g 1), .inl (cA, 14, .inl Y.1.1)), ((g 2), .inl (cA, 14, .inl Y.1.2.1)), ((g 3), .inl (cA, 14, .inl Y.1.2.2.1)), ((g 4), .inl (cA, 14, .inl Y.1.2.2.2.1)), ((g 5), .inl (cB, 14, .inl Y.1.2.2.2.2)), ((g 6), .inl (cA, 8, .inl Y.2.2.2.2.2.2.1.1)), ((g 7), .inl (cA, 6, .inl Y.2.2.2.2.2.2.2.2.1.1)), ((g 8), .inl (cA, 12, .inl Y.2.2.2.2.2.2.2.1.1)), ((g 9), .inl (cA, 12, .inl Y.2.2.2.2.2.2.2.1.2.1))] := hD
  refine lv_aload_n hx hb dX9_histogram_0 rfl (lv_at hl 0 rfl) ?_
  refine lv_iconst (v := 0) hx hb dX9_histogram_1 (by decide) ?_
  refine va_put (D := G) (ci := 9) (v := .int 0) (ty := .int) (C := RX9) (T := TX9) (N := 31) hx hb hts iX9_histogram_X9 tyX9 tyX9_ok nmX9 hown hK hP hD hS 0 rfl rfl 30 (by decide) (hts _ mX9_histogram_1) (fun _ h9 => h9) rfl (by decide +kernel) rfl rfl (Nat.le_of_ble_eq_true rfl) dX9_histogram_2 (fun H locs hP hD hS => ?_)
  have hP : va_P G vwCl [((g 0), .inr (9, [.ref (g 1), .ref (g 2), .ref (g 3), .ref (g 4), .ref (g 5), .int Y.2.1.1, .int Y.2.2.2.2.2.1.1, .int Y.2.1.2.1, .int Y.2.1.2.2.1, .int Y.2.1.2.2.2.1, .int (bI Y.2.1.2.2.2.2.1), .int Y.2.1.2.2.2.2.2.1, .int (bI Y.2.1.2.2.2.2.2.2), .int Y.2.2.1.1, .int Y.2.2.1.2, .int Y.2.2.2.1.1, .int Y.2.2.2.1.2, .int Y.2.2.2.2.1.1, .int Y.2.2.2.2.1.2.1, .int (bI Y.2.2.2.2.1.2.2), .int Y.2.2.2.2.2.2.1.2, .int Y.2.2.2.2.2.1.2.1, .int Y.2.2.2.2.2.1.2.2, .ref (g 6), .int Y.2.2.2.2.2.2.2.2.2.1, .int Y.2.2.2.2.2.2.2.2.1.2, .ref (g 7), .int Y.2.2.2.2.2.2.2.1.2.2, .ref (g 8), .ref (g 9), .int 0])), ((g 1), .inl (cA, 14, .inl Y.1.1)), ((g 2), .inl (cA, 14, .inl Y.1.2.1)), ((g 3), .inl (cA, 14, .inl Y.1.2.2.1)), ((g 4), .inl (cA, 14, .inl Y.1.2.2.2.1)), ((g 5), .inl (cB, 14, .inl Y.1.2.2.2.2)), ((g 6), .inl (cA, 8, .inl Y.2.2.2.2.2.2.1.1)), ((g 7), .inl (cA, 6, .inl Y.2.2.2.2.2.2.2.2.1.1)), ((g 8), .inl (cA, 12, .inl Y.2.2.2.2.2.2.2.1.1)), ((g 9), .inl (cA, 12, .inl Y.2.2.2.2.2.2.2.1.2.1))] H := hP
  have hD : va_D A [((g 0), .inr (9, [.ref (g 1), .ref (g 2), .ref (g 3), .ref (g 4), .ref (g 5), .int Y.2.1.1, .int Y.2.2.2.2.2.1.1, .int Y.2.1.2.1, .int Y.2.1.2.2.1, .int Y.2.1.2.2.2.1, .int (bI Y.2.1.2.2.2.2.1), .int Y.2.1.2.2.2.2.2.1, .int (bI Y.2.1.2.2.2.2.2.2), .int Y.2.2.1.1, .int Y.2.2.1.2, .int Y.2.2.2.1.1, .int Y.2.2.2.1.2, .int Y.2.2.2.2.1.1, .int Y.2.2.2.2.1.2.1, .int (bI Y.2.2.2.2.1.2.2), .int Y.2.2.2.2.2.2.1.2, .int Y.2.2.2.2.2.1.2.1, .int Y.2.2.2.2.2.1.2.2, .ref (g 6), .int Y.2.2.2.2.2.2.2.2.2.1, .int Y.2.2.2.2.2.2.2.2.1.2, .ref (g 7), .int Y.2.2.2.2.2.2.2.1.2.2, .ref (g 8), .ref (g 9), .int 0])), ((g 1), .inl (cA, 14, .inl Y.1.1)), ((g 2), .inl (cA, 14, .inl Y.1.2.1)), ((g 3), .inl (cA, 14, .inl Y.1.2.2.1)), ((g 4), .inl (cA, 14, .inl Y.1.2.2.2.1)), ((g 5), .inl (cB, 14, .inl Y.1.2.2.2.2)), ((g 6), .inl (cA, 8, .inl Y.2.2.2.2.2.2.1.1)), ((g 7), .inl (cA, 6, .inl Y.2.2.2.2.2.2.2.2.1.1)), ((g 8), .inl (cA, 12, .inl Y.2.2.2.2.2.2.2.1.1)), ((g 9), .inl (cA, 12, .inl Y.2.2.2.2.2.2.2.1.2.1))] := hD
  refine lv_iload_n hx hb dX9_histogram_5 rfl (lv_at hl 1 rfl) ?_
  refine lv_if_lt (tgt := 15) hx hb dX9_histogram_6 (by decide) (fun c_1 => ?_) (fun c_1 => ?_)
  · have c_1 := zlt_t c_1
    refine lv_iconst (v := (-1)) hx hb dX9_histogram_15 (by decide) ?_
    refine lv_goto (tgt := 25) hx hb dX9_histogram_16 (by decide) ?_
    exact zz_ri (v := (-1)) ((Y.1, Y.2.1, Y.2.2.1, Y.2.2.2.1, Y.2.2.2.2.1, Y.2.2.2.2.2.1, Y.2.2.2.2.2.2.1, Y.2.2.2.2.2.2.2.1, Y.2.2.2.2.2.2.2.2.1, (Y.2.2.2.2.2.2.2.2.2.1, 0)) : tMd) hx hb hr hlocks hS hP hD ⟨by simp [m_his, c_1], by rfl⟩ dX9_histogram_25
  · have c_1 := zlt_f c_1
    refine lv_iload_n hx hb dX9_histogram_9 rfl (lv_at hl 1 rfl) ?_
    refine lv_bipush (v := 7) hx hb dX9_histogram_10 (by decide) ?_
    refine lv_icmp_le (tgt := 19) hx hb dX9_histogram_12 (by decide) (fun c_2 => ?_) (fun c_2 => ?_)
    · have c_2 := zle_t c_2
      refine lv_aload_n hx hb dX9_histogram_19 rfl (lv_at hl 0 rfl) ?_
      refine va_get (D := G) (ci := 9) (v := .ref (g 6)) (C := RX9) (T := TX9) (N := 31) hx hb hts iX9_histogram_X9 hown hK hP 0 rfl rfl 23 (by decide) (hts _ mX9_histogram_2) (fun _ h9 => h9) rfl dX9_histogram_20 ?_
      refine lv_iload_n hx hb dX9_histogram_23 rfl (lv_at hl 1 rfl) ?_
      refine zz_iald hx hb hK hP 6 0 k.toNatClampNeg rfl rfl rfl (vp_le (q := 7) (by decide) (by assumption) (by assumption)) dX9_histogram_24 ?_
      exact zz_ri (v := (Y.2.2.2.2.2.2.1.1 k.toNatClampNeg)) ((Y.1, Y.2.1, Y.2.2.1, Y.2.2.2.1, Y.2.2.2.2.1, Y.2.2.2.2.2.1, Y.2.2.2.2.2.2.1, Y.2.2.2.2.2.2.2.1, Y.2.2.2.2.2.2.2.2.1, (Y.2.2.2.2.2.2.2.2.2.1, 0)) : tMd) hx hb hr hlocks hS hP hD ⟨by simp [m_his, c_1, c_2], by rfl⟩ dX9_histogram_25
    · have c_2 := zle_f c_2
      refine lv_iconst (v := (-1)) hx hb dX9_histogram_15 (by decide) ?_
      refine lv_goto (tgt := 25) hx hb dX9_histogram_16 (by decide) ?_
      exact zz_ri (v := (-1)) ((Y.1, Y.2.1, Y.2.2.1, Y.2.2.2.1, Y.2.2.2.2.1, Y.2.2.2.2.2.1, Y.2.2.2.2.2.2.1, Y.2.2.2.2.2.2.2.1, Y.2.2.2.2.2.2.2.2.1, (Y.2.2.2.2.2.2.2.2.2.1, 0)) : tMd) hx hb hr hlocks hS hP hD ⟨by simp [m_his, c_1, c_2], by rfl⟩ dX9_histogram_25
theorem iX9_thrown_X9 : ∀ w ∈ u_ws RX9 TX9 31, w ∈ wsX9_thrown := by decide +kernel
theorem mX9_thrown_1 : Cond.fieldLink RX9 49 "ChamberPacerModel" "code" "I" ∈ wsX9_thrown := by decide +kernel
abbrev rmX9_thrown : Room := { frames := 0, cells := 0, slots := 0, locals := 0 }
abbrev QfX9_thrown (G : va_G) (cA cB : ClassId) (g : Nat → Nat) (Y : tMd) : (Nat → Prop) → Array Value → State → Outcome → State → Prop := fun A => va_Qi (fun (r : Int32) (u : Unit) => r = Y.2.2.2.2.2.2.2.2.2.2) (zz_B G vwCl (fun _ : Unit => (wMD g cA cB Y)) A) A
set_option maxHeartbeats 1000000 in
set_option maxRecDepth 100000 in
theorem kX9_thrown (l : Launch) (G : va_G) (cA cB : ClassId) (tb : Nat × Nat × Nat) (g : Nat → Nat) (sz : Nat) (Y : tMd) : Met l yX9_thrown wsX9_thrown rmX9_thrown (zz_P (zS tb) G vwCl [(cA, .int), (cB, .boolean)] [.ref (g 0)] (wMD g cA cB Y) sz) (QfX9_thrown G cA cB g Y (va_A (wMD g cA cB Y) sz)) 0 0 (va_A (wMD g cA cB Y) sz) := by
  refine zz_Met (cc := cX9_thrown) (maxL := 1) (ret := (some .int)) (Qf := QfX9_thrown G cA cB g Y) (by decide) rfl (Nat.le_of_ble_eq_true rfl) ?_
  intro p e s m below meth c A ls hx hb hr hts hown hlocks hin hml hA hP hK hD hz hS hl
  have hl : lv_has ls 1 [(0, .ref (g 0))] := hl
  have hP : va_P G vwCl [((g 0), .inr (9, [.ref (g 1), .ref (g 2), .ref (g 3), .ref (g 4), .ref (g 5), .int Y.2.1.1, .int Y.2.2.2.2.2.1.1, .int Y.2.1.2.1, .int Y.2.1.2.2.1, .int Y.2.1.2.2.2.1, .int (bI Y.2.1.2.2.2.2.1), .int Y.2.1.2.2.2.2.2.1, .int (bI Y.2.1.2.2.2.2.2.2), .int Y.2.2.1.1, .int Y.2.2.1.2, .int Y.2.2.2.1.1, .int Y.2.2.2.1.2, .int Y.2.2.2.2.1.1, .int Y.2.2.2.2.1.2.1, .int (bI Y.2.2.2.2.1.2.2), .int Y.2.2.2.2.2.2.1.2, .int Y.2.2.2.2.2.1.2.1, .int Y.2.2.2.2.2.1.2.2, .ref (g 6), .int Y.2.2.2.2.2.2.2.2.2.1, .int Y.2.2.2.2.2.2.2.2.1.2, .ref (g 7), .int Y.2.2.2.2.2.2.2.1.2.2, .ref (g 8), .ref (g 9), .int Y.2.2.2.2.2.2.2.2.2.2])), ((g 1), .inl (cA, 14, .inl Y.1.1)), ((g 2), .inl (cA, 14, .inl Y.1.2.1)), ((g 3), .inl (cA, 14, .inl Y.1.2.2.1)), ((g 4), .inl (cA, 14, .inl Y.1.2.2.2.1)), ((g 5), .inl (cB, 14, .inl Y.1.2.2.2.2)), ((g 6), .inl (cA, 8, .inl Y.2.2.2.2.2.2.1.1)), ((g 7), .inl (cA, 6, .inl Y.2.2.2.2.2.2.2.2.1.1)), ((g 8), .inl (cA, 12, .inl Y.2.2.2.2.2.2.2.1.1)), ((g 9), .inl (cA, 12, .inl Y.2.2.2.2.2.2.2.1.2.1))] s.heap := hP
  have hD : va_D A [((g 0), .inr (9, [.ref (g 1), .ref (g 2), .ref (g 3), .ref (g 4), .ref (g 5), .int Y.2.1.1, .int Y.2.2.2.2.2.1.1, .int Y.2.1.2.1, .int Y.2.1.2.2.1, .int Y.2.1.2.2.2.1, .int (bI Y.2.1.2.2.2.2.1), .int Y.2.1.2.2.2.2.2.1, .int (bI Y.2.1.2.2.2.2.2.2), .int Y.2.2.1.1, .int Y.2.2.1.2, .int Y.2.2.2.1.1, .int Y.2.2.2.1.2, .int Y.2.2.2.2.1.1, .int Y.2.2.2.2.1.2.1, .int (bI Y.2.2.2.2.1.2.2), .int Y.2.2.2.2.2.2.1.2, .int Y.2.2.2.2.2.1.2.1, .int Y.2.2.2.2.2.1.2.2, .ref (g 6), .int Y.2.2.2.2.2.2.2.2.2.1, .int Y.2.2.2.2.2.2.2.2.1.2, .ref (g 7), .int Y.2.2.2.2.2.2.2.1.2.2, .ref (g 8), .ref (g 9), .int Y.2.2.2.2.2.2.2.2.2.2])), ((g 1), .inl (cA, 14, .inl Y.1.1)), ((g 2), .inl (cA, 14, .inl Y.1.2.1)), ((g 3), .inl (cA, 14, .inl Y.1.2.2.1)), ((g 4), .inl (cA, 14, .inl Y.1.2.2.2.1)), ((g 5), .inl (cB, 14, .inl Y.1.2.2.2.2)), ((g 6), .inl (cA, 8, .inl Y.2.2.2.2.2.2.1.1)), ((g 7), .inl (cA, 6, .inl Y.2.2.2.2.2.2.2.2.1.1)), ((g 8), .inl (cA, 12, .inl Y.2.2.2.2.2.2.2.1.1)), ((g 9), .inl (cA, 12, .inl Y.2.2.2.2.2.2.2.1.2.1))] := hD
  refine lv_aload_n hx hb dX9_thrown_0 rfl (lv_at hl 0 rfl) ?_
  refine va_get (D := G) (ci := 9) (v := .int Y.2.2.2.2.2.2.2.2.2.2) (C := RX9) (T := TX9) (N := 31) hx hb hts iX9_thrown_X9 hown hK hP 0 rfl rfl 30 (by decide) (hts _ mX9_thrown_1) (fun _ h9 => h9) rfl dX9_thrown_1 ?_
  exact zz_ri (v := Y.2.2.2.2.2.2.2.2.2.2) () hx hb hr hlocks hS hP hD (by first | rfl | (rfl) | (simp [])) dX9_thrown_4

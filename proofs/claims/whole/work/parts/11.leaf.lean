abbrev rmX8_nearest : Room := { frames := 0, cells := 0, slots := 0, locals := 0 }
abbrev QfX8_nearest (G : va_G) (cA cB : ClassId) (x : Int32) (lo : Int32) (hi : Int32) : (Nat → Prop) → Array Value → State → Outcome → State → Prop := fun A => va_Qi (fun (r : Int32) (u : Unit) => r = k_near x lo hi) (zz_B G vwCl (fun _ : Unit => []) A) A
set_option maxHeartbeats 1000000 in
set_option maxRecDepth 100000 in
theorem kX8_nearest (l : Launch) (G : va_G) (cA cB : ClassId) (tb : Nat × Nat × Nat) (sz : Nat) (x : Int32) (lo : Int32) (hi : Int32) : Met l yX8_nearest wsX8_nearest rmX8_nearest (zz_P (zS tb) G vwCl [(cA, .int), (cB, .boolean)] [.int x, .int lo, .int hi] [] sz) (QfX8_nearest G cA cB x lo hi (va_A [] sz)) 0 0 (va_A [] sz) := by
  refine zz_Met (cc := cX8_nearest) (maxL := 3) (ret := (some .int)) (Qf := QfX8_nearest G cA cB x lo hi) (by decide) rfl (Nat.le_of_ble_eq_true rfl) ?_
  intro p e s m below meth c A ls hx hb hr hts hown hlocks hin hml hA hP hK hD hz hS hl
  have hl : lv_has ls 3 [(0, .int x), (1, .int lo), (2, .int hi)] := hl
  have hP : va_P G vwCl [] s.heap := hP
  have hD : va_D A [] := hD
  refine lv_iload_n hx hb dX8_nearest_0 rfl (lv_at hl 0 rfl) ?_
  refine lv_iload_n hx hb dX8_nearest_1 rfl (lv_at hl 1 rfl) ?_
  refine lv_icmp_ge (tgt := 7) hx hb dX8_nearest_2 (by decide) (fun c_1 => ?_) (fun c_1 => ?_)
  · have c_1 := zle_t c_1
    refine lv_iload_n hx hb dX8_nearest_7 rfl (lv_at hl 0 rfl) ?_
    refine lv_iload_n hx hb dX8_nearest_8 rfl (lv_at hl 2 rfl) ?_
    refine lv_icmp_le (tgt := 16) hx hb dX8_nearest_9 (by decide) (fun c_2 => ?_) (fun c_2 => ?_)
    · have c_2 := zle_t c_2
      refine lv_iload_n hx hb dX8_nearest_16 rfl (lv_at hl 0 rfl) ?_
      exact zz_ri (v := x) () hx hb hr hlocks hS hP hD (by first | (simp [k_near, c_1, c_2]; done) | (symm; (first | refine (if_pos c_1).trans ?_ | refine (if_neg c_1).trans ?_ | refine (if_fb c_1).trans ?_ | skip); (first | refine (if_pos c_2).trans ?_ | refine (if_neg c_2).trans ?_ | refine (if_fb c_2).trans ?_ | skip); rfl) | (try simp [k_near] at c_1; try simp [k_near] at c_2; simp [k_near, c_1, c_2]; done) | rfl) dX8_nearest_17
    · have c_2 := zle_f c_2
      refine lv_iload_n hx hb dX8_nearest_12 rfl (lv_at hl 2 rfl) ?_
      refine lv_goto (tgt := 17) hx hb dX8_nearest_13 (by decide) ?_
      exact zz_ri (v := hi) () hx hb hr hlocks hS hP hD (by first | (simp [k_near, c_1, c_2]; done) | (symm; (first | refine (if_pos c_1).trans ?_ | refine (if_neg c_1).trans ?_ | refine (if_fb c_1).trans ?_ | skip); (first | refine (if_pos c_2).trans ?_ | refine (if_neg c_2).trans ?_ | refine (if_fb c_2).trans ?_ | skip); rfl) | (try simp [k_near] at c_1; try simp [k_near] at c_2; simp [k_near, c_1, c_2]; done) | rfl) dX8_nearest_17
  · have c_1 := zle_f c_1
    refine lv_iload_n hx hb dX8_nearest_5 rfl (lv_at hl 1 rfl) ?_
    exact zz_ri (v := lo) () hx hb hr hlocks hS hP hD (by first | (simp [k_near, c_1]; done) | (symm; (first | refine (if_pos c_1).trans ?_ | refine (if_neg c_1).trans ?_ | refine (if_fb c_1).trans ?_ | skip); rfl) | (try simp [k_near] at c_1; simp [k_near, c_1]; done) | rfl) dX8_nearest_6
abbrev rmX8_isLedByA : Room := { frames := 0, cells := 0, slots := 0, locals := 0 }
abbrev QfX8_isLedByA (G : va_G) (cA cB : ClassId) (q : Int32) : (Nat → Prop) → Array Value → State → Outcome → State → Prop := fun A => va_Qi (fun (r : Int32) (u : Unit) => r = bI (k_ledA q)) (zz_B G vwCl (fun _ : Unit => []) A) A
set_option maxHeartbeats 1000000 in
set_option maxRecDepth 100000 in
theorem kX8_isLedByA (l : Launch) (G : va_G) (cA cB : ClassId) (tb : Nat × Nat × Nat) (sz : Nat) (q : Int32) : Met l yX8_isLedByA wsX8_isLedByA rmX8_isLedByA (zz_P (zS tb) G vwCl [(cA, .int), (cB, .boolean)] [.int q] [] sz) (QfX8_isLedByA G cA cB q (va_A [] sz)) 0 0 (va_A [] sz) := by
  refine zz_Met (cc := cX8_isLedByA) (maxL := 1) (ret := (some .boolean)) (Qf := QfX8_isLedByA G cA cB q) (by decide) rfl (Nat.le_of_ble_eq_true rfl) ?_
  intro p e s m below meth c A ls hx hb hr hts hown hlocks hin hml hA hP hK hD hz hS hl
  have hl : lv_has ls 1 [(0, .int q)] := hl
  have hP : va_P G vwCl [] s.heap := hP
  have hD : va_D A [] := hD
  refine lv_iload_n hx hb dX8_isLedByA_0 rfl (lv_at hl 0 rfl) ?_
  refine lv_iconst (v := 1) hx hb dX8_isLedByA_1 (by decide) ?_
  refine lv_icmp_eq (tgt := 10) hx hb dX8_isLedByA_2 (by decide) (fun c_1 => ?_) (fun c_1 => ?_)
  · have c_1 := zeq_t c_1
    refine lv_iconst (v := 1) hx hb dX8_isLedByA_10 (by decide) ?_
    refine lv_goto (tgt := 15) hx hb dX8_isLedByA_11 (by decide) ?_
    exact zz_rz (v := 1) () hx hb hr (by decide +kernel) hlocks hS hP hD (by first | (simp [k_ledA, bI, c_1]; done) | (symm; (first | refine (if_pos c_1).trans ?_ | refine (if_neg c_1).trans ?_ | refine (if_fb c_1).trans ?_ | skip); rfl) | (try simp [k_ledA, bI] at c_1; simp [k_ledA, bI, c_1]; done) | rfl) dX8_isLedByA_15
  · have c_1 := zeq_f c_1
    refine lv_iload_n hx hb dX8_isLedByA_5 rfl (lv_at hl 0 rfl) ?_
    refine lv_iconst (v := 4) hx hb dX8_isLedByA_6 (by decide) ?_
    refine lv_icmp_ne (tgt := 14) hx hb dX8_isLedByA_7 (by decide) (fun c_2 => ?_) (fun c_2 => ?_)
    · have c_2 := zeq_f c_2
      refine lv_iconst (v := 0) hx hb dX8_isLedByA_14 (by decide) ?_
      exact zz_rz (v := 0) () hx hb hr (by decide +kernel) hlocks hS hP hD (by first | (simp [k_ledA, bI, c_1, c_2]; done) | (symm; (first | refine (if_pos c_1).trans ?_ | refine (if_neg c_1).trans ?_ | refine (if_fb c_1).trans ?_ | skip); (first | refine (if_pos c_2).trans ?_ | refine (if_neg c_2).trans ?_ | refine (if_fb c_2).trans ?_ | skip); rfl) | (try simp [k_ledA, bI] at c_1; try simp [k_ledA, bI] at c_2; simp [k_ledA, bI, c_1, c_2]; done) | rfl) dX8_isLedByA_15
    · have c_2 := zeq_t c_2
      refine lv_iconst (v := 1) hx hb dX8_isLedByA_10 (by decide) ?_
      refine lv_goto (tgt := 15) hx hb dX8_isLedByA_11 (by decide) ?_
      exact zz_rz (v := 1) () hx hb hr (by decide +kernel) hlocks hS hP hD (by first | (simp [k_ledA, bI, c_1, c_2]; done) | (symm; (first | refine (if_pos c_1).trans ?_ | refine (if_neg c_1).trans ?_ | refine (if_fb c_1).trans ?_ | skip); (first | refine (if_pos c_2).trans ?_ | refine (if_neg c_2).trans ?_ | refine (if_fb c_2).trans ?_ | skip); rfl) | (try simp [k_ledA, bI] at c_1; try simp [k_ledA, bI] at c_2; simp [k_ledA, bI, c_1, c_2]; done) | rfl) dX8_isLedByA_15
abbrev rmX8_pacesBoth : Room := { frames := 0, cells := 0, slots := 0, locals := 0 }
abbrev QfX8_pacesBoth (G : va_G) (cA cB : ClassId) (q : Int32) : (Nat → Prop) → Array Value → State → Outcome → State → Prop := fun A => va_Qi (fun (r : Int32) (u : Unit) => r = bI (k_both q)) (zz_B G vwCl (fun _ : Unit => []) A) A
set_option maxHeartbeats 1000000 in
set_option maxRecDepth 100000 in
theorem kX8_pacesBoth (l : Launch) (G : va_G) (cA cB : ClassId) (tb : Nat × Nat × Nat) (sz : Nat) (q : Int32) : Met l yX8_pacesBoth wsX8_pacesBoth rmX8_pacesBoth (zz_P (zS tb) G vwCl [(cA, .int), (cB, .boolean)] [.int q] [] sz) (QfX8_pacesBoth G cA cB q (va_A [] sz)) 0 0 (va_A [] sz) := by
  refine zz_Met (cc := cX8_pacesBoth) (maxL := 1) (ret := (some .boolean)) (Qf := QfX8_pacesBoth G cA cB q) (by decide) rfl (Nat.le_of_ble_eq_true rfl) ?_
  intro p e s m below meth c A ls hx hb hr hts hown hlocks hin hml hA hP hK hD hz hS hl
  have hl : lv_has ls 1 [(0, .int q)] := hl
  have hP : va_P G vwCl [] s.heap := hP
  have hD : va_D A [] := hD
  refine lv_iload_n hx hb dX8_pacesBoth_0 rfl (lv_at hl 0 rfl) ?_
  refine lv_iconst (v := 2) hx hb dX8_pacesBoth_1 (by decide) ?_
  refine lv_icmp_eq (tgt := 17) hx hb dX8_pacesBoth_2 (by decide) (fun c_1 => ?_) (fun c_1 => ?_)
  · have c_1 := zeq_t c_1
    refine lv_iconst (v := 1) hx hb dX8_pacesBoth_17 (by decide) ?_
    refine lv_goto (tgt := 22) hx hb dX8_pacesBoth_18 (by decide) ?_
    exact zz_rz (v := 1) () hx hb hr (by decide +kernel) hlocks hS hP hD (by first | (simp [k_both, bI, c_1]; done) | (symm; (first | refine (if_pos c_1).trans ?_ | refine (if_neg c_1).trans ?_ | refine (if_fb c_1).trans ?_ | skip); rfl) | (try simp [k_both, bI] at c_1; simp [k_both, bI, c_1]; done) | rfl) dX8_pacesBoth_22
  · have c_1 := zeq_f c_1
    refine lv_iload_n hx hb dX8_pacesBoth_5 rfl (lv_at hl 0 rfl) ?_
    refine lv_bipush (v := 6) hx hb dX8_pacesBoth_6 (by decide) ?_
    refine lv_icmp_eq (tgt := 17) hx hb dX8_pacesBoth_8 (by decide) (fun c_2 => ?_) (fun c_2 => ?_)
    · have c_2 := zeq_t c_2
      refine lv_iconst (v := 1) hx hb dX8_pacesBoth_17 (by decide) ?_
      refine lv_goto (tgt := 22) hx hb dX8_pacesBoth_18 (by decide) ?_
      exact zz_rz (v := 1) () hx hb hr (by decide +kernel) hlocks hS hP hD (by first | (simp [k_both, bI, c_1, c_2]; done) | (symm; (first | refine (if_pos c_1).trans ?_ | refine (if_neg c_1).trans ?_ | refine (if_fb c_1).trans ?_ | skip); (first | refine (if_pos c_2).trans ?_ | refine (if_neg c_2).trans ?_ | refine (if_fb c_2).trans ?_ | skip); rfl) | (try simp [k_both, bI] at c_1; try simp [k_both, bI] at c_2; simp [k_both, bI, c_1, c_2]; done) | rfl) dX8_pacesBoth_22
    · have c_2 := zeq_f c_2
      refine lv_iload_n hx hb dX8_pacesBoth_11 rfl (lv_at hl 0 rfl) ?_
      refine lv_bipush (v := 7) hx hb dX8_pacesBoth_12 (by decide) ?_
      refine lv_icmp_ne (tgt := 21) hx hb dX8_pacesBoth_14 (by decide) (fun c_3 => ?_) (fun c_3 => ?_)
      · have c_3 := zeq_f c_3
        refine lv_iconst (v := 0) hx hb dX8_pacesBoth_21 (by decide) ?_
        exact zz_rz (v := 0) () hx hb hr (by decide +kernel) hlocks hS hP hD (by first | (simp [k_both, bI, c_1, c_2, c_3]; done) | (symm; (first | refine (if_pos c_1).trans ?_ | refine (if_neg c_1).trans ?_ | refine (if_fb c_1).trans ?_ | skip); (first | refine (if_pos c_2).trans ?_ | refine (if_neg c_2).trans ?_ | refine (if_fb c_2).trans ?_ | skip); (first | refine (if_pos c_3).trans ?_ | refine (if_neg c_3).trans ?_ | refine (if_fb c_3).trans ?_ | skip); rfl) | (try simp [k_both, bI] at c_1; try simp [k_both, bI] at c_2; try simp [k_both, bI] at c_3; simp [k_both, bI, c_1, c_2, c_3]; done) | rfl) dX8_pacesBoth_22
      · have c_3 := zeq_t c_3
        refine lv_iconst (v := 1) hx hb dX8_pacesBoth_17 (by decide) ?_
        refine lv_goto (tgt := 22) hx hb dX8_pacesBoth_18 (by decide) ?_
        exact zz_rz (v := 1) () hx hb hr (by decide +kernel) hlocks hS hP hD (by first | (simp [k_both, bI, c_1, c_2, c_3]; done) | (symm; (first | refine (if_pos c_1).trans ?_ | refine (if_neg c_1).trans ?_ | refine (if_fb c_1).trans ?_ | skip); (first | refine (if_pos c_2).trans ?_ | refine (if_neg c_2).trans ?_ | refine (if_fb c_2).trans ?_ | skip); (first | refine (if_pos c_3).trans ?_ | refine (if_neg c_3).trans ?_ | refine (if_fb c_3).trans ?_ | skip); rfl) | (try simp [k_both, bI] at c_1; try simp [k_both, bI] at c_2; try simp [k_both, bI] at c_3; simp [k_both, bI, c_1, c_2, c_3]; done) | rfl) dX8_pacesBoth_22
abbrev rmX8_sensesA : Room := { frames := 0, cells := 0, slots := 0, locals := 0 }
abbrev QfX8_sensesA (G : va_G) (cA cB : ClassId) (q : Int32) : (Nat → Prop) → Array Value → State → Outcome → State → Prop := fun A => va_Qi (fun (r : Int32) (u : Unit) => r = bI (k_senA q)) (zz_B G vwCl (fun _ : Unit => []) A) A
set_option maxHeartbeats 1000000 in
set_option maxRecDepth 100000 in
theorem kX8_sensesA (l : Launch) (G : va_G) (cA cB : ClassId) (tb : Nat × Nat × Nat) (sz : Nat) (q : Int32) : Met l yX8_sensesA wsX8_sensesA rmX8_sensesA (zz_P (zS tb) G vwCl [(cA, .int), (cB, .boolean)] [.int q] [] sz) (QfX8_sensesA G cA cB q (va_A [] sz)) 0 0 (va_A [] sz) := by
  refine zz_Met (cc := cX8_sensesA) (maxL := 1) (ret := (some .boolean)) (Qf := QfX8_sensesA G cA cB q) (by decide) rfl (Nat.le_of_ble_eq_true rfl) ?_
  intro p e s m below meth c A ls hx hb hr hts hown hlocks hin hml hA hP hK hD hz hS hl
  have hl : lv_has ls 1 [(0, .int q)] := hl
  have hP : va_P G vwCl [] s.heap := hP
  have hD : va_D A [] := hD
  refine lv_iload_n hx hb dX8_sensesA_0 rfl (lv_at hl 0 rfl) ?_
  refine lv_iconst (v := 4) hx hb dX8_sensesA_1 (by decide) ?_
  refine lv_icmp_lt (tgt := 9) hx hb dX8_sensesA_2 (by decide) (fun c_1 => ?_) (fun c_1 => ?_)
  · have c_1 := zlt_t c_1
    refine lv_iconst (v := 0) hx hb dX8_sensesA_9 (by decide) ?_
    exact zz_rz (v := 0) () hx hb hr (by decide +kernel) hlocks hS hP hD (by first | (simp [k_senA, bI, c_1]; done) | (symm; (first | refine (if_pos c_1).trans ?_ | refine (if_neg c_1).trans ?_ | refine (if_fb c_1).trans ?_ | skip); rfl) | (try simp [k_senA, bI] at c_1; simp [k_senA, bI, c_1]; done) | rfl) dX8_sensesA_10
  · have c_1 := zlt_f c_1
    refine lv_iconst (v := 1) hx hb dX8_sensesA_5 (by decide) ?_
    refine lv_goto (tgt := 10) hx hb dX8_sensesA_6 (by decide) ?_
    exact zz_rz (v := 1) () hx hb hr (by decide +kernel) hlocks hS hP hD (by first | (simp [k_senA, bI, c_1]; done) | (symm; (first | refine (if_pos c_1).trans ?_ | refine (if_neg c_1).trans ?_ | refine (if_fb c_1).trans ?_ | skip); rfl) | (try simp [k_senA, bI] at c_1; simp [k_senA, bI, c_1]; done) | rfl) dX8_sensesA_10
abbrev rmX8_sensesV : Room := { frames := 0, cells := 0, slots := 0, locals := 0 }
abbrev QfX8_sensesV (G : va_G) (cA cB : ClassId) (q : Int32) : (Nat → Prop) → Array Value → State → Outcome → State → Prop := fun A => va_Qi (fun (r : Int32) (u : Unit) => r = bI (k_senV q)) (zz_B G vwCl (fun _ : Unit => []) A) A
set_option maxHeartbeats 1000000 in
set_option maxRecDepth 100000 in
theorem kX8_sensesV (l : Launch) (G : va_G) (cA cB : ClassId) (tb : Nat × Nat × Nat) (sz : Nat) (q : Int32) : Met l yX8_sensesV wsX8_sensesV rmX8_sensesV (zz_P (zS tb) G vwCl [(cA, .int), (cB, .boolean)] [.int q] [] sz) (QfX8_sensesV G cA cB q (va_A [] sz)) 0 0 (va_A [] sz) := by
  refine zz_Met (cc := cX8_sensesV) (maxL := 1) (ret := (some .boolean)) (Qf := QfX8_sensesV G cA cB q) (by decide) rfl (Nat.le_of_ble_eq_true rfl) ?_
  intro p e s m below meth c A ls hx hb hr hts hown hlocks hin hml hA hP hK hD hz hS hl
  have hl : lv_has ls 1 [(0, .int q)] := hl
  have hP : va_P G vwCl [] s.heap := hP
  have hD : va_D A [] := hD
  refine lv_iload_n hx hb dX8_sensesV_0 rfl (lv_at hl 0 rfl) ?_
  refine lv_iconst (v := 3) hx hb dX8_sensesV_1 (by decide) ?_
  refine lv_icmp_eq (tgt := 10) hx hb dX8_sensesV_2 (by decide) (fun c_1 => ?_) (fun c_1 => ?_)
  · have c_1 := zeq_t c_1
    refine lv_iconst (v := 1) hx hb dX8_sensesV_10 (by decide) ?_
    refine lv_goto (tgt := 15) hx hb dX8_sensesV_11 (by decide) ?_
    exact zz_rz (v := 1) () hx hb hr (by decide +kernel) hlocks hS hP hD (by first | (simp [k_senV, bI, c_1]; done) | (symm; (first | refine (if_pos c_1).trans ?_ | refine (if_neg c_1).trans ?_ | refine (if_fb c_1).trans ?_ | skip); rfl) | (try simp [k_senV, bI] at c_1; simp [k_senV, bI, c_1]; done) | rfl) dX8_sensesV_15
  · have c_1 := zeq_f c_1
    refine lv_iload_n hx hb dX8_sensesV_5 rfl (lv_at hl 0 rfl) ?_
    refine lv_iconst (v := 5) hx hb dX8_sensesV_6 (by decide) ?_
    refine lv_icmp_lt (tgt := 14) hx hb dX8_sensesV_7 (by decide) (fun c_2 => ?_) (fun c_2 => ?_)
    · have c_2 := zlt_t c_2
      refine lv_iconst (v := 0) hx hb dX8_sensesV_14 (by decide) ?_
      exact zz_rz (v := 0) () hx hb hr (by decide +kernel) hlocks hS hP hD (by first | (simp [k_senV, bI, c_1, c_2]; done) | (symm; (first | refine (if_pos c_1).trans ?_ | refine (if_neg c_1).trans ?_ | refine (if_fb c_1).trans ?_ | skip); (first | refine (if_pos c_2).trans ?_ | refine (if_neg c_2).trans ?_ | refine (if_fb c_2).trans ?_ | skip); rfl) | (try simp [k_senV, bI] at c_1; try simp [k_senV, bI] at c_2; simp [k_senV, bI, c_1, c_2]; done) | rfl) dX8_sensesV_15
    · have c_2 := zlt_f c_2
      refine lv_iconst (v := 1) hx hb dX8_sensesV_10 (by decide) ?_
      refine lv_goto (tgt := 15) hx hb dX8_sensesV_11 (by decide) ?_
      exact zz_rz (v := 1) () hx hb hr (by decide +kernel) hlocks hS hP hD (by first | (simp [k_senV, bI, c_1, c_2]; done) | (symm; (first | refine (if_pos c_1).trans ?_ | refine (if_neg c_1).trans ?_ | refine (if_fb c_1).trans ?_ | skip); (first | refine (if_pos c_2).trans ?_ | refine (if_neg c_2).trans ?_ | refine (if_fb c_2).trans ?_ | skip); rfl) | (try simp [k_senV, bI] at c_1; try simp [k_senV, bI] at c_2; simp [k_senV, bI, c_1, c_2]; done) | rfl) dX8_sensesV_15
abbrev rmX8_follows : Room := { frames := 0, cells := 0, slots := 0, locals := 0 }
abbrev QfX8_follows (G : va_G) (cA cB : ClassId) (q : Int32) : (Nat → Prop) → Array Value → State → Outcome → State → Prop := fun A => va_Qi (fun (r : Int32) (u : Unit) => r = bI (k_foll q)) (zz_B G vwCl (fun _ : Unit => []) A) A
set_option maxHeartbeats 1000000 in
set_option maxRecDepth 100000 in
theorem kX8_follows (l : Launch) (G : va_G) (cA cB : ClassId) (tb : Nat × Nat × Nat) (sz : Nat) (q : Int32) : Met l yX8_follows wsX8_follows rmX8_follows (zz_P (zS tb) G vwCl [(cA, .int), (cB, .boolean)] [.int q] [] sz) (QfX8_follows G cA cB q (va_A [] sz)) 0 0 (va_A [] sz) := by
  refine zz_Met (cc := cX8_follows) (maxL := 1) (ret := (some .boolean)) (Qf := QfX8_follows G cA cB q) (by decide) rfl (Nat.le_of_ble_eq_true rfl) ?_
  intro p e s m below meth c A ls hx hb hr hts hown hlocks hin hml hA hP hK hD hz hS hl
  have hl : lv_has ls 1 [(0, .int q)] := hl
  have hP : va_P G vwCl [] s.heap := hP
  have hD : va_D A [] := hD
  refine lv_iload_n hx hb dX8_follows_0 rfl (lv_at hl 0 rfl) ?_
  refine lv_iconst (v := 5) hx hb dX8_follows_1 (by decide) ?_
  refine lv_icmp_eq (tgt := 11) hx hb dX8_follows_2 (by decide) (fun c_1 => ?_) (fun c_1 => ?_)
  · have c_1 := zeq_t c_1
    refine lv_iconst (v := 1) hx hb dX8_follows_11 (by decide) ?_
    refine lv_goto (tgt := 16) hx hb dX8_follows_12 (by decide) ?_
    exact zz_rz (v := 1) () hx hb hr (by decide +kernel) hlocks hS hP hD (by first | (simp [k_foll, bI, c_1]; done) | (symm; (first | refine (if_pos c_1).trans ?_ | refine (if_neg c_1).trans ?_ | refine (if_fb c_1).trans ?_ | skip); rfl) | (try simp [k_foll, bI] at c_1; simp [k_foll, bI, c_1]; done) | rfl) dX8_follows_16
  · have c_1 := zeq_f c_1
    refine lv_iload_n hx hb dX8_follows_5 rfl (lv_at hl 0 rfl) ?_
    refine lv_bipush (v := 7) hx hb dX8_follows_6 (by decide) ?_
    refine lv_icmp_ne (tgt := 15) hx hb dX8_follows_8 (by decide) (fun c_2 => ?_) (fun c_2 => ?_)
    · have c_2 := zeq_f c_2
      refine lv_iconst (v := 0) hx hb dX8_follows_15 (by decide) ?_
      exact zz_rz (v := 0) () hx hb hr (by decide +kernel) hlocks hS hP hD (by first | (simp [k_foll, bI, c_1, c_2]; done) | (symm; (first | refine (if_pos c_1).trans ?_ | refine (if_neg c_1).trans ?_ | refine (if_fb c_1).trans ?_ | skip); (first | refine (if_pos c_2).trans ?_ | refine (if_neg c_2).trans ?_ | refine (if_fb c_2).trans ?_ | skip); rfl) | (try simp [k_foll, bI] at c_1; try simp [k_foll, bI] at c_2; simp [k_foll, bI, c_1, c_2]; done) | rfl) dX8_follows_16
    · have c_2 := zeq_t c_2
      refine lv_iconst (v := 1) hx hb dX8_follows_11 (by decide) ?_
      refine lv_goto (tgt := 16) hx hb dX8_follows_12 (by decide) ?_
      exact zz_rz (v := 1) () hx hb hr (by decide +kernel) hlocks hS hP hD (by first | (simp [k_foll, bI, c_1, c_2]; done) | (symm; (first | refine (if_pos c_1).trans ?_ | refine (if_neg c_1).trans ?_ | refine (if_fb c_1).trans ?_ | skip); (first | refine (if_pos c_2).trans ?_ | refine (if_neg c_2).trans ?_ | refine (if_fb c_2).trans ?_ | skip); rfl) | (try simp [k_foll, bI] at c_1; try simp [k_foll, bI] at c_2; simp [k_foll, bI, c_1, c_2]; done) | rfl) dX8_follows_16
abbrev rmX8_statusOf : Room := { frames := 0, cells := 0, slots := 0, locals := 0 }
abbrev QfX8_statusOf (G : va_G) (cA cB : ClassId) (q : Int32) : (Nat → Prop) → Array Value → State → Outcome → State → Prop := fun A => va_Qi (fun (r : Int32) (u : Unit) => r = k_stat q) (zz_B G vwCl (fun _ : Unit => []) A) A
set_option maxHeartbeats 1000000 in
set_option maxRecDepth 100000 in
theorem kX8_statusOf (l : Launch) (G : va_G) (cA cB : ClassId) (tb : Nat × Nat × Nat) (sz : Nat) (q : Int32) : Met l yX8_statusOf wsX8_statusOf rmX8_statusOf (zz_P (zS tb) G vwCl [(cA, .int), (cB, .boolean)] [.int q] [] sz) (QfX8_statusOf G cA cB q (va_A [] sz)) 0 0 (va_A [] sz) := by
  refine zz_Met (cc := cX8_statusOf) (maxL := 1) (ret := (some .int)) (Qf := QfX8_statusOf G cA cB q) (by decide) rfl (Nat.le_of_ble_eq_true rfl) ?_
  intro p e s m below meth c A ls hx hb hr hts hown hlocks hin hml hA hP hK hD hz hS hl
  have hl : lv_has ls 1 [(0, .int q)] := hl
  have hP : va_P G vwCl [] s.heap := hP
  have hD : va_D A [] := hD
  refine lv_iload_n hx hb dX8_statusOf_0 rfl (lv_at hl 0 rfl) ?_
  refine lv_sipush (v := 280) hx hb dX8_statusOf_1 (by decide) ?_
  refine lv_icmp_lt (tgt := 9) hx hb dX8_statusOf_4 (by decide) (fun c_1 => ?_) (fun c_1 => ?_)
  · have c_1 := zlt_t c_1
    refine lv_iload_n hx hb dX8_statusOf_9 rfl (lv_at hl 0 rfl) ?_
    refine lv_sipush (v := 250) hx hb dX8_statusOf_10 (by decide) ?_
    refine lv_icmp_lt (tgt := 18) hx hb dX8_statusOf_13 (by decide) (fun c_2 => ?_) (fun c_2 => ?_)
    · have c_2 := zlt_t c_2
      refine lv_iload_n hx hb dX8_statusOf_18 rfl (lv_at hl 0 rfl) ?_
      refine lv_sipush (v := 220) hx hb dX8_statusOf_19 (by decide) ?_
      refine lv_icmp_lt (tgt := 29) hx hb dX8_statusOf_22 (by decide) (fun c_3 => ?_) (fun c_3 => ?_)
      · have c_3 := zlt_t c_3
        refine lv_iconst (v := 3) hx hb dX8_statusOf_29 (by decide) ?_
        exact zz_ri (v := 3) () hx hb hr hlocks hS hP hD (by first | (simp [k_stat, c_1, c_2, c_3]; done) | (symm; (first | refine (if_pos c_1).trans ?_ | refine (if_neg c_1).trans ?_ | refine (if_fb c_1).trans ?_ | skip); (first | refine (if_pos c_2).trans ?_ | refine (if_neg c_2).trans ?_ | refine (if_fb c_2).trans ?_ | skip); (first | refine (if_pos c_3).trans ?_ | refine (if_neg c_3).trans ?_ | refine (if_fb c_3).trans ?_ | skip); rfl) | (try simp [k_stat] at c_1; try simp [k_stat] at c_2; try simp [k_stat] at c_3; simp [k_stat, c_1, c_2, c_3]; done) | rfl) dX8_statusOf_30
      · have c_3 := zlt_f c_3
        refine lv_iconst (v := 2) hx hb dX8_statusOf_25 (by decide) ?_
        refine lv_goto (tgt := 30) hx hb dX8_statusOf_26 (by decide) ?_
        exact zz_ri (v := 2) () hx hb hr hlocks hS hP hD (by first | (simp [k_stat, c_1, c_2, c_3]; done) | (symm; (first | refine (if_pos c_1).trans ?_ | refine (if_neg c_1).trans ?_ | refine (if_fb c_1).trans ?_ | skip); (first | refine (if_pos c_2).trans ?_ | refine (if_neg c_2).trans ?_ | refine (if_fb c_2).trans ?_ | skip); (first | refine (if_pos c_3).trans ?_ | refine (if_neg c_3).trans ?_ | refine (if_fb c_3).trans ?_ | skip); rfl) | (try simp [k_stat] at c_1; try simp [k_stat] at c_2; try simp [k_stat] at c_3; simp [k_stat, c_1, c_2, c_3]; done) | rfl) dX8_statusOf_30
    · have c_2 := zlt_f c_2
      refine lv_iconst (v := 1) hx hb dX8_statusOf_16 (by decide) ?_
      exact zz_ri (v := 1) () hx hb hr hlocks hS hP hD (by first | (simp [k_stat, c_1, c_2]; done) | (symm; (first | refine (if_pos c_1).trans ?_ | refine (if_neg c_1).trans ?_ | refine (if_fb c_1).trans ?_ | skip); (first | refine (if_pos c_2).trans ?_ | refine (if_neg c_2).trans ?_ | refine (if_fb c_2).trans ?_ | skip); rfl) | (try simp [k_stat] at c_1; try simp [k_stat] at c_2; simp [k_stat, c_1, c_2]; done) | rfl) dX8_statusOf_17
  · have c_1 := zlt_f c_1
    refine lv_iconst (v := 0) hx hb dX8_statusOf_7 (by decide) ?_
    exact zz_ri (v := 0) () hx hb hr hlocks hS hP hD (by first | (simp [k_stat, c_1]; done) | (symm; (first | refine (if_pos c_1).trans ?_ | refine (if_neg c_1).trans ?_ | refine (if_fb c_1).trans ?_ | skip); rfl) | (try simp [k_stat] at c_1; simp [k_stat, c_1]; done) | rfl) dX8_statusOf_8
abbrev rmX6_exists : Room := { frames := 0, cells := 0, slots := 0, locals := 0 }
abbrev QfX6_exists (G : va_G) (cA cB : ClassId) (k : Int32) : (Nat → Prop) → Array Value → State → Outcome → State → Prop := fun A => va_Qi (fun (r : Int32) (u : Unit) => r = bI (k_exists k)) (zz_B G vwCl (fun _ : Unit => []) A) A
set_option maxHeartbeats 1000000 in
set_option maxRecDepth 100000 in
theorem kX6_exists (l : Launch) (G : va_G) (cA cB : ClassId) (tb : Nat × Nat × Nat) (sz : Nat) (k : Int32) : Met l yX6_exists wsX6_exists rmX6_exists (zz_P (zS tb) G vwCl [(cA, .int), (cB, .boolean)] [.int k] [] sz) (QfX6_exists G cA cB k (va_A [] sz)) 0 0 (va_A [] sz) := by
  refine zz_Met (cc := cX6_exists) (maxL := 1) (ret := (some .boolean)) (Qf := QfX6_exists G cA cB k) (by decide) rfl (Nat.le_of_ble_eq_true rfl) ?_
  intro p e s m below meth c A ls hx hb hr hts hown hlocks hin hml hA hP hK hD hz hS hl
  have hl : lv_has ls 1 [(0, .int k)] := hl
  have hP : va_P G vwCl [] s.heap := hP
  have hD : va_D A [] := hD
  refine lv_iload_n hx hb dX6_exists_0 rfl (lv_at hl 0 rfl) ?_
  refine lv_if_lt (tgt := 14) hx hb dX6_exists_1 (by decide) (fun c_1 => ?_) (fun c_1 => ?_)
  · have c_1 := zlt_t c_1
    refine lv_iconst (v := 0) hx hb dX6_exists_14 (by decide) ?_
    exact zz_rz (v := 0) () hx hb hr (by decide +kernel) hlocks hS hP hD (by first | (simp [k_exists, bI, c_1]; done) | (symm; (first | refine (if_pos c_1).trans ?_ | refine (if_neg c_1).trans ?_ | refine (if_fb c_1).trans ?_ | skip); rfl) | (try simp [k_exists, bI] at c_1; simp [k_exists, bI, c_1]; done) | rfl) dX6_exists_15
  · have c_1 := zlt_f c_1
    refine lv_iload_n hx hb dX6_exists_4 rfl (lv_at hl 0 rfl) ?_
    refine lv_bipush (v := 14) hx hb dX6_exists_5 (by decide) ?_
    refine lv_icmp_ge (tgt := 14) hx hb dX6_exists_7 (by decide) (fun c_2 => ?_) (fun c_2 => ?_)
    · have c_2 := zle_t c_2
      refine lv_iconst (v := 0) hx hb dX6_exists_14 (by decide) ?_
      exact zz_rz (v := 0) () hx hb hr (by decide +kernel) hlocks hS hP hD (by first | (simp [k_exists, bI, c_1, c_2]; done) | (symm; (first | refine (if_pos c_1).trans ?_ | refine (if_neg c_1).trans ?_ | refine (if_fb c_1).trans ?_ | skip); (first | refine (if_pos c_2).trans ?_ | refine (if_neg c_2).trans ?_ | refine (if_fb c_2).trans ?_ | skip); rfl) | (try simp [k_exists, bI] at c_1; try simp [k_exists, bI] at c_2; simp [k_exists, bI, c_1, c_2]; done) | rfl) dX6_exists_15
    · have c_2 := zle_f c_2
      refine lv_iconst (v := 1) hx hb dX6_exists_10 (by decide) ?_
      refine lv_goto (tgt := 15) hx hb dX6_exists_11 (by decide) ?_
      exact zz_rz (v := 1) () hx hb hr (by decide +kernel) hlocks hS hP hD (by first | (simp [k_exists, bI, c_1, c_2]; done) | (symm; (first | refine (if_pos c_1).trans ?_ | refine (if_neg c_1).trans ?_ | refine (if_fb c_1).trans ?_ | skip); (first | refine (if_pos c_2).trans ?_ | refine (if_neg c_2).trans ?_ | refine (if_fb c_2).trans ?_ | skip); rfl) | (try simp [k_exists, bI] at c_1; try simp [k_exists, bI] at c_2; simp [k_exists, bI, c_1, c_2]; done) | rfl) dX6_exists_15
abbrev rmX6_allows : Room := { frames := 1, cells := 0, slots := 0, locals := 20 }
abbrev QfX6_allows (G : va_G) (cA cB : ClassId) (k : Int32) (a : Int32) : (Nat → Prop) → Array Value → State → Outcome → State → Prop := fun A => va_Qi (fun (r : Int32) (u : Unit) => r = bI (k_allows k a)) (zz_B G vwCl (fun _ : Unit => []) A) A
set_option maxHeartbeats 1000000 in
set_option maxRecDepth 100000 in
theorem kX6_allows (l : Launch) (G : va_G) (cA cB : ClassId) (tb : Nat × Nat × Nat) (sz : Nat) (k : Int32) (a : Int32) : Met l yX6_allows wsX6_allows rmX6_allows (zz_P (zS tb) G vwCl [(cA, .int), (cB, .boolean)] [.int k, .int a] [] sz) (QfX6_allows G cA cB k a (va_A [] sz)) 0 0 (va_A [] sz) := by
  refine zz_Met (cc := cX6_allows) (maxL := 2) (ret := (some .boolean)) (Qf := QfX6_allows G cA cB k a) (by decide) rfl (Nat.le_of_ble_eq_true rfl) ?_
  intro p e s m below meth c A ls hx hb hr hts hown hlocks hin hml hA hP hK hD hz hS hl
  have hl : lv_has ls 2 [(0, .int k), (1, .int a)] := hl
  have hP : va_P G vwCl [] s.heap := hP
  have hD : va_D A [] := hD
  refine lv_iload_n hx hb dX6_allows_0 rfl (lv_at hl 0 rfl) ?_
  refine zz_ci (wr := []) (va_runS (As := [.int k]) (rest := []) ⟨hx, hb, hml, hown, hts⟩ (kX6_exists l G cA cB tb s.heap.size k) (va_cwS 1 hts gX6_allows_X6_exists rfl rfl rfl (by decide +kernel) ⟨Nat.le_of_ble_eq_true rfl, Nat.le_of_ble_eq_true rfl⟩) (zz_preS zS_ok hK hP hD hS hA hz [] rfl (by decide)) rfl rfl hl.1 rfl (lv_room (Nat.le_of_ble_eq_true rfl)) dX6_allows_1 ⟨Nat.zero_le _, Nat.zero_le _⟩) hP hD hS hA [] [] rfl rfl (by decide) (by decide) (fun r u H locs hw hP hD hS => ?_)
  have hw := hw.symm; subst hw
  have hP : va_P G vwCl [] H := hP
  have hD : va_D A [] := hD
  refine lv_if_eq (tgt := 29) hx hb dX6_allows_4 (by decide) (fun c_1 => ?_) (fun c_1 => ?_)
  · have c_1 := bI_f c_1
    refine lv_iconst (v := 0) hx hb dX6_allows_29 (by decide) ?_
    exact zz_rz (v := 0) () hx hb hr (by decide +kernel) hlocks hS hP hD (by first | (simp [k_allows, bI, c_1]; done) | (symm; (first | refine (if_pos c_1).trans ?_ | refine (if_neg c_1).trans ?_ | refine (if_fb c_1).trans ?_ | skip); rfl) | (try simp [k_allows, bI] at c_1; simp [k_allows, bI, c_1]; done) | rfl) dX6_allows_30
  · have c_1 := bI_t c_1
    refine lv_iload_n hx hb dX6_allows_7 rfl (lv_at hl 1 rfl) ?_
    refine va_getsN hx hb hz.1.1 hS hown (va_Nw.use rfl hz.2.2.2.1) (fun _ h9 => h9) dX6_allows_8 ?_
    refine lv_iload_n hx hb dX6_allows_11 rfl (lv_at hl 0 rfl) ?_
    refine va_ti hx hb hz.1.2 hS (vp_ex c_1) (v := .int (tLeast k.toNatClampNeg)) rfl dX6_allows_12 ?_
    refine lv_icmp_lt (tgt := 29) hx hb dX6_allows_13 (by decide) (fun c_2 => ?_) (fun c_2 => ?_)
    · have c_2 := zlt_t c_2
      refine lv_iconst (v := 0) hx hb dX6_allows_29 (by decide) ?_
      exact zz_rz (v := 0) () hx hb hr (by decide +kernel) hlocks hS hP hD (by first | (simp [k_allows, bI, c_1, c_2]; done) | (symm; (first | refine (if_pos c_1).trans ?_ | refine (if_neg c_1).trans ?_ | refine (if_fb c_1).trans ?_ | skip); (first | refine (if_pos c_2).trans ?_ | refine (if_neg c_2).trans ?_ | refine (if_fb c_2).trans ?_ | skip); rfl) | (try simp [k_allows, bI] at c_1; try simp [k_allows, bI] at c_2; simp [k_allows, bI, c_1, c_2]; done) | rfl) dX6_allows_30
    · have c_2 := zlt_f c_2
      refine lv_iload_n hx hb dX6_allows_16 rfl (lv_at hl 1 rfl) ?_
      refine va_getsN hx hb hz.2.1.1 hS hown (va_Nw.use rfl hz.2.2.2.2.1) (fun _ h9 => h9) dX6_allows_17 ?_
      refine lv_iload_n hx hb dX6_allows_20 rfl (lv_at hl 0 rfl) ?_
      refine va_ti hx hb hz.2.1.2 hS (vp_ex c_1) (v := .int (tMost k.toNatClampNeg)) rfl dX6_allows_21 ?_
      refine lv_icmp_gt (tgt := 29) hx hb dX6_allows_22 (by decide) (fun c_3 => ?_) (fun c_3 => ?_)
      · have c_3 := zlt_t c_3
        refine lv_iconst (v := 0) hx hb dX6_allows_29 (by decide) ?_
        exact zz_rz (v := 0) () hx hb hr (by decide +kernel) hlocks hS hP hD (by first | (simp [k_allows, bI, c_1, c_2, c_3]; done) | (symm; (first | refine (if_pos c_1).trans ?_ | refine (if_neg c_1).trans ?_ | refine (if_fb c_1).trans ?_ | skip); (first | refine (if_pos c_2).trans ?_ | refine (if_neg c_2).trans ?_ | refine (if_fb c_2).trans ?_ | skip); (first | refine (if_pos c_3).trans ?_ | refine (if_neg c_3).trans ?_ | refine (if_fb c_3).trans ?_ | skip); rfl) | (try simp [k_allows, bI] at c_1; try simp [k_allows, bI] at c_2; try simp [k_allows, bI] at c_3; simp [k_allows, bI, c_1, c_2, c_3]; done) | rfl) dX6_allows_30
      · have c_3 := zlt_f c_3
        refine lv_iconst (v := 1) hx hb dX6_allows_25 (by decide) ?_
        refine lv_goto (tgt := 30) hx hb dX6_allows_26 (by decide) ?_
        exact zz_rz (v := 1) () hx hb hr (by decide +kernel) hlocks hS hP hD (by first | (simp [k_allows, bI, c_1, c_2, c_3]; done) | (symm; (first | refine (if_pos c_1).trans ?_ | refine (if_neg c_1).trans ?_ | refine (if_fb c_1).trans ?_ | skip); (first | refine (if_pos c_2).trans ?_ | refine (if_neg c_2).trans ?_ | refine (if_fb c_2).trans ?_ | skip); (first | refine (if_pos c_3).trans ?_ | refine (if_neg c_3).trans ?_ | refine (if_fb c_3).trans ?_ | skip); rfl) | (try simp [k_allows, bI] at c_1; try simp [k_allows, bI] at c_2; try simp [k_allows, bI] at c_3; simp [k_allows, bI, c_1, c_2, c_3]; done) | rfl) dX6_allows_30

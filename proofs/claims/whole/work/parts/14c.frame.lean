abbrev rmX3_divide : Room := { frames := 0, cells := 0, slots := 0, locals := 0 }
abbrev QfX3_divide (G : va_G) (cA cB : ClassId) (c0 : Int32) : (Nat → Prop) → Array Value → State → Outcome → State → Prop := fun A => va_Qi (fun (r : Int32) (u : Unit) => r = k_div c0) (zz_B G vwCl (fun _ : Unit => []) A) A
set_option maxHeartbeats 1000000 in
set_option maxRecDepth 100000 in
theorem kX3_divide (l : Launch) (G : va_G) (cA cB : ClassId) (tb : Nat × Nat × Nat) (sz : Nat) (c0 : Int32) : Met l yX3_divide wsX3_divide rmX3_divide (zz_P (zS tb) G vwCl [(cA, .int), (cB, .boolean)] [.int c0] [] sz) (QfX3_divide G cA cB c0 (va_A [] sz)) 0 0 (va_A [] sz) := by
  refine zz_Met (cc := cX3_divide) (maxL := 3) (ret := (some .int)) (Qf := QfX3_divide G cA cB c0) (by decide) rfl (Nat.le_of_ble_eq_true rfl) ?_
  intro p e s m below meth c A ls hx hb hr hts hown hlocks hin hml hA hP hK hD hz hS hl
  have hl : lv_has ls 3 [(0, .int c0)] := hl
  have hP : va_P G vwCl [] s.heap := hP
  have hD : va_D A [] := hD
  refine lv_iload_n hx hb dX3_divide_0 rfl (lv_at hl 0 rfl) ?_
  refine lv_istore_n (lv' := [(1, .int c0), (0, .int c0)]) hx hb dX3_divide_1 rfl hl (by decide) rfl (fun ls hl => ?_)
  refine lv_iconst (v := 0) hx hb dX3_divide_2 (by decide) ?_
  refine lv_istore_n (lv' := [(2, .int 0), (1, .int c0), (0, .int c0)]) hx hb dX3_divide_3 rfl hl (by decide) rfl (fun ls hl => ?_)
  have L4_1 : ∀ (n k : Nat), k + n = 8 → ∀ (vx : Int32) (hvx : vx = k_divN c0 k) (vi : Int32) (hvi : vi = nI k) (H : Heap) (locs : List Loc) (ls : Array Slot), va_P G vwCl [] H → va_D A [] → va_S A s.heap H locs → lv_has ls 3 [(2, .int vi), (1, .int vx), (0, .int c0)] → W p l e rmX3_divide s m ([.int c0] : List Value).toArray below meth c H locs 0 0 (MQ below (va_Qi (fun (r : Int32) (u : Unit) => r = k_div c0) (zz_B G vwCl (fun _ : Unit => []) A) A) ([.int c0] : List Value).toArray s 0 0 A) (F0 m 4 ls []) := by
    intro n
    induction n with
    | zero =>
      intro k hk vx hvx vi hvi H locs ls hP hD hS hl
      have hk : k = 8 := by omega
      refine lv_iload_n hx hb dX3_divide_4 rfl (lv_at hl 0 rfl) ?_
      refine lv_bipush (v := 8) hx hb dX3_divide_5 (by decide) ?_
      refine lv_icmp_ge (tgt := 33) hx hb dX3_divide_7 (by decide) (fun _ => ?_) (fun c => absurd (by rw [hvi, hk]; decide) c)
      refine lv_iload_n hx hb dX3_divide_33 rfl (lv_at hl 1 rfl) ?_
      exact zz_ri (v := vx) () hx hb hr hlocks hS hP hD (by have hvi := hvi.symm; subst hvi; have hvx := hvx.symm; subst hvx; subst hk; exact (k_div_eq c0).symm) dX3_divide_34
    | succ n ih =>
      intro k hk vx hvx vi hvi H locs ls hP hD hS hl
      have hlt : k < 8 := by omega
      refine lv_iload_n hx hb dX3_divide_4 rfl (lv_at hl 0 rfl) ?_
      refine lv_bipush (v := 8) hx hb dX3_divide_5 (by decide) ?_
      refine lv_icmp_ge (tgt := 33) hx hb dX3_divide_7 (by decide) (fun c => absurd c (by rw [hvi]; exact nI_ge (b := 8) hlt (by decide))) (fun _ => ?_)
      refine lv_iconst (v := 2) hx hb dX3_divide_10 (by decide) ?_
      refine lv_iload_n hx hb dX3_divide_11 rfl (lv_at hl 1 rfl) ?_
      refine lv_imul hx hb dX3_divide_12 ?_
      refine lv_istore_n (lv' := [(1, .int (2 * vx)), (2, .int vi), (0, .int c0)]) hx hb dX3_divide_13 rfl hl (by decide) rfl (fun ls hl => ?_)
      refine lv_iload_n hx hb dX3_divide_14 rfl (lv_at hl 0 rfl) ?_
      refine lv_sipush (v := 256) hx hb dX3_divide_15 (by decide) ?_
      refine lv_icmp_lt (tgt := 27) hx hb dX3_divide_18 (by decide) (fun c_2 => ?_) (fun c_2 => ?_)
      · have c_2 := zlt_t c_2
        refine lv_iinc (v := (vi + 1)) (lv' := [(2, .int (vi + 1)), (1, .int (2 * vx)), (0, .int c0)]) hx hb dX3_divide_27 hl (k := 1) rfl rfl (by decide) rfl (fun ls hl => ?_)
        refine lv_goto (tgt := 4) hx hb dX3_divide_30 (by decide) ?_
        exact ih (k + 1) (by omega) ((2 * vx)) (by have hvi := hvi.symm; subst hvi; have hvx := hvx.symm; subst hvx; show _ = k_dstep (k_divN c0 k); simp [k_dstep, c_2]) ((vi + 1)) (by have hvi := hvi.symm; subst hvi; have hvx := hvx.symm; subst hvx; exact nI_1 k) _ _ _ hP hD hS hl
      · have c_2 := zlt_f c_2
        refine lv_iload_n hx hb dX3_divide_21 rfl (lv_at hl 0 rfl) ?_
        refine lv_sipush (v := 263) hx hb dX3_divide_22 (by decide) ?_
        refine lv_ixor hx hb dX3_divide_25 ?_
        refine lv_istore_n (lv' := [(1, .int ((2 * vx) ^^^ 263)), (2, .int vi), (0, .int c0)]) hx hb dX3_divide_26 rfl hl (by decide) rfl (fun ls hl => ?_)
        refine lv_iinc (v := (vi + 1)) (lv' := [(2, .int (vi + 1)), (1, .int ((2 * vx) ^^^ 263)), (0, .int c0)]) hx hb dX3_divide_27 hl (k := 1) rfl rfl (by decide) rfl (fun ls hl => ?_)
        refine lv_goto (tgt := 4) hx hb dX3_divide_30 (by decide) ?_
        exact ih (k + 1) (by omega) (((2 * vx) ^^^ 263)) (by have hvi := hvi.symm; subst hvi; have hvx := hvx.symm; subst hvx; show _ = k_dstep (k_divN c0 k); simp [k_dstep, c_2]) ((vi + 1)) (by have hvi := hvi.symm; subst hvi; have hvx := hvx.symm; subst hvx; exact nI_1 k) _ _ _ hP hD hS hl
  exact L4_1 8 0 (by omega) (c0) (by rfl) (0) (by rfl) _ _ _ hP hD hS hl
theorem iX3_sumIsRight_X3 : ∀ w ∈ u_ws RX3 TX3 2, w ∈ wsX3_sumIsRight := by decide +kernel
theorem mX3_sumIsRight_1 : Cond.fieldLink RX3 11 "ChamberPacer$Frame" "bytes" "[I" ∈ wsX3_sumIsRight := by decide +kernel
abbrev rmX3_sumIsRight : Room := { frames := 1, cells := 0, slots := 0, locals := 22 }
abbrev QfX3_sumIsRight (G : va_G) (cA cB : ClassId) (h0 h1 : Nat) (R : tFr) : (Nat → Prop) → Array Value → State → Outcome → State → Prop := fun A => va_Qi (fun (r : Int32) (u : Unit) => r = bI (k_sumOk R)) (zz_B G vwCl (fun _ : Unit => (wFr h0 h1 cA cB R)) A) A
set_option maxHeartbeats 1000000 in
set_option maxRecDepth 100000 in
theorem kX3_sumIsRight (l : Launch) (G : va_G) (cA cB : ClassId) (tb : Nat × Nat × Nat) (h0 h1 : Nat) (sz : Nat) (R : tFr) : Met l yX3_sumIsRight wsX3_sumIsRight rmX3_sumIsRight (zz_P (zS tb) G vwCl [(cA, .int), (cB, .boolean)] [.ref h0] (wFr h0 h1 cA cB R) sz) (QfX3_sumIsRight G cA cB h0 h1 R (va_A (wFr h0 h1 cA cB R) sz)) 0 0 (va_A (wFr h0 h1 cA cB R) sz) := by
  refine zz_Met (cc := cX3_sumIsRight) (maxL := 3) (ret := (some .boolean)) (Qf := QfX3_sumIsRight G cA cB h0 h1 R) (by decide) rfl (Nat.le_of_ble_eq_true rfl) ?_
  intro p e s m below meth c A ls hx hb hr hts hown hlocks hin hml hA hP hK hD hz hS hl
  have hl : lv_has ls 3 [(0, .ref h0)] := hl
  have hP : va_P G vwCl [(h0, .inr (3, [.ref h1, .int R.2])), (h1, .inl (cA, 5, .inl R.1))] s.heap := hP
  have hD : va_D A [(h0, .inr (3, [.ref h1, .int R.2])), (h1, .inl (cA, 5, .inl R.1))] := hD
  refine lv_iconst (v := 0) hx hb dX3_sumIsRight_0 (by decide) ?_
  refine lv_istore_n (lv' := [(1, .int 0), (0, .ref h0)]) hx hb dX3_sumIsRight_1 rfl hl (by decide) rfl (fun ls hl => ?_)
  refine lv_iconst (v := 0) hx hb dX3_sumIsRight_2 (by decide) ?_
  refine lv_istore_n (lv' := [(2, .int 0), (1, .int 0), (0, .ref h0)]) hx hb dX3_sumIsRight_3 rfl hl (by decide) rfl (fun ls hl => ?_)
  have L4_1 : ∀ (n k : Nat), k + n = 4 → ∀ (vx : Int32) (hvx : vx = k_sumN R k) (vi : Int32) (hvi : vi = nI k) (H : Heap) (locs : List Loc) (ls : Array Slot), va_P G vwCl [(h0, .inr (3, [.ref h1, .int R.2])), (h1, .inl (cA, 5, .inl R.1))] H → va_D A [(h0, .inr (3, [.ref h1, .int R.2])), (h1, .inl (cA, 5, .inl R.1))] → va_S A s.heap H locs → lv_has ls 3 [(2, .int vi), (1, .int vx), (0, .ref h0)] → W p l e rmX3_sumIsRight s m ([.ref h0] : List Value).toArray below meth c H locs 0 0 (MQ below (va_Qi (fun (r : Int32) (u : Unit) => r = bI (k_sumOk R)) (zz_B G vwCl (fun _ : Unit => (wFr h0 h1 cA cB R)) A) A) ([.ref h0] : List Value).toArray s 0 0 A) (F0 m 4 ls []) := by
    intro n
    induction n with
    | zero =>
      intro k hk vx hvx vi hvi H locs ls hP hD hS hl
      have hk : k = 4 := by omega
      refine lv_iload_n hx hb dX3_sumIsRight_4 rfl (lv_at hl 0 rfl) ?_
      refine lv_iconst (v := 4) hx hb dX3_sumIsRight_5 (by decide) ?_
      refine lv_icmp_ge (tgt := 27) hx hb dX3_sumIsRight_6 (by decide) (fun _ => ?_) (fun c => absurd (by rw [hvi, hk]; decide) c)
      refine lv_iload_n hx hb dX3_sumIsRight_27 rfl (lv_at hl 1 rfl) ?_
      refine lv_aload_n hx hb dX3_sumIsRight_28 rfl (lv_at hl 2 rfl) ?_
      refine va_get (D := G) (ci := 3) (v := .ref h1) (C := RX3) (T := TX3) (N := 2) hx hb hts iX3_sumIsRight_X3 hown hK hP 0 rfl rfl 0 (by decide) (hts _ mX3_sumIsRight_1) (fun _ h9 => h9) rfl dX3_sumIsRight_29 ?_
      refine lv_iconst (v := 4) hx hb dX3_sumIsRight_32 (by decide) ?_
      refine zz_iald hx hb hK hP 1 0 4 rfl rfl (by decide) (vp_lit (by decide)) dX3_sumIsRight_33 ?_
      refine lv_icmp_ne (tgt := 41) hx hb dX3_sumIsRight_34 (by decide) (fun c_2 => ?_) (fun c_2 => ?_)
      · have c_2 := zeq_f c_2
        refine lv_iconst (v := 0) hx hb dX3_sumIsRight_41 (by decide) ?_
        exact zz_rz (v := 0) () hx hb hr (by decide +kernel) hlocks hS hP hD (by have hvi := hvi.symm; subst hvi; have hvx := hvx.symm; subst hvx; subst hk; simp [k_sumOk, bI, c_2]) dX3_sumIsRight_42
      · have c_2 := zeq_t c_2
        refine lv_iconst (v := 1) hx hb dX3_sumIsRight_37 (by decide) ?_
        refine lv_goto (tgt := 42) hx hb dX3_sumIsRight_38 (by decide) ?_
        exact zz_rz (v := 1) () hx hb hr (by decide +kernel) hlocks hS hP hD (by have hvi := hvi.symm; subst hvi; have hvx := hvx.symm; subst hvx; subst hk; simp [k_sumOk, bI, c_2]) dX3_sumIsRight_42
    | succ n ih =>
      intro k hk vx hvx vi hvi H locs ls hP hD hS hl
      have hlt : k < 4 := by omega
      refine lv_iload_n hx hb dX3_sumIsRight_4 rfl (lv_at hl 0 rfl) ?_
      refine lv_iconst (v := 4) hx hb dX3_sumIsRight_5 (by decide) ?_
      refine lv_icmp_ge (tgt := 27) hx hb dX3_sumIsRight_6 (by decide) (fun c => absurd c (by rw [hvi]; exact nI_ge (b := 4) hlt (by decide))) (fun _ => ?_)
      refine lv_iload_n hx hb dX3_sumIsRight_9 rfl (lv_at hl 1 rfl) ?_
      refine lv_aload_n hx hb dX3_sumIsRight_10 rfl (lv_at hl 2 rfl) ?_
      refine va_get (D := G) (ci := 3) (v := .ref h1) (C := RX3) (T := TX3) (N := 2) hx hb hts iX3_sumIsRight_X3 hown hK hP 0 rfl rfl 0 (by decide) (hts _ mX3_sumIsRight_1) (fun _ h9 => h9) rfl dX3_sumIsRight_11 ?_
      refine lv_iload_n hx hb dX3_sumIsRight_14 rfl (lv_at hl 0 rfl) ?_
      refine zz_iald hx hb hK hP 1 0 k rfl rfl (by rw [hvi]; exact nI_clamp (by omega)) (by rw [hvi]; exact vp_in_nI (show k < 5 by omega) (by decide)) dX3_sumIsRight_15 ?_
      refine lv_ixor hx hb dX3_sumIsRight_16 ?_
      refine zz_ci (wr := [(h0, .inr (3, [.ref h1, .int R.2])), (h1, .inl (cA, 5, .inl R.1))]) (va_runS (As := [.int (vx ^^^ (R.1 k))]) (rest := []) ⟨hx, hb, hml, hown, hts⟩ (kX3_divide l G cA cB tb H.size (vx ^^^ (R.1 k))) (va_cwS 1 hts gX3_sumIsRight_X3_divide rfl rfl rfl (by decide +kernel) ⟨Nat.le_of_ble_eq_true rfl, Nat.le_of_ble_eq_true rfl⟩) (zz_preS zS_ok hK hP hD hS hA hz [] rfl (by decide)) rfl rfl hl.1 rfl (lv_room (Nat.le_of_ble_eq_true rfl)) dX3_sumIsRight_17 ⟨Nat.zero_le _, Nat.zero_le _⟩) hP hD hS hA [] [0, 1] rfl rfl (by decide) (by decide) (fun r u H locs hw hP hD hS => ?_)
      have hw := hw.symm; subst hw
      have hP : va_P G vwCl [(h0, .inr (3, [.ref h1, .int R.2])), (h1, .inl (cA, 5, .inl R.1))] H := hP
      have hD : va_D A [(h0, .inr (3, [.ref h1, .int R.2])), (h1, .inl (cA, 5, .inl R.1))] := hD
      refine lv_istore_n (lv' := [(1, .int (k_div (vx ^^^ (R.1 k)))), (2, .int vi), (0, .ref h0)]) hx hb dX3_sumIsRight_20 rfl hl (by decide) rfl (fun ls hl => ?_)
      refine lv_iinc (v := (vi + 1)) (lv' := [(2, .int (vi + 1)), (1, .int (k_div (vx ^^^ (R.1 k)))), (0, .ref h0)]) hx hb dX3_sumIsRight_21 hl (k := 1) rfl rfl (by decide) rfl (fun ls hl => ?_)
      refine lv_goto (tgt := 4) hx hb dX3_sumIsRight_24 (by decide) ?_
      exact ih (k + 1) (by omega) ((k_div (vx ^^^ (R.1 k)))) (by have hvi := hvi.symm; subst hvi; have hvx := hvx.symm; subst hvx; rfl) ((vi + 1)) (by have hvi := hvi.symm; subst hvi; have hvx := hvx.symm; subst hvx; exact nI_1 k) _ _ _ hP hD hS hl
  exact L4_1 4 0 (by omega) (0) (by rfl) (0) (by rfl) _ _ _ hP hD hS hl
theorem iX3_command_X3 : ∀ w ∈ u_ws RX3 TX3 2, w ∈ wsX3_command := by decide +kernel
theorem mX3_command_1 : Cond.fieldLink RX3 11 "ChamberPacer$Frame" "bytes" "[I" ∈ wsX3_command := by decide +kernel
abbrev rmX3_command : Room := { frames := 0, cells := 0, slots := 0, locals := 0 }
abbrev QfX3_command (G : va_G) (cA cB : ClassId) (h0 h1 : Nat) (R : tFr) : (Nat → Prop) → Array Value → State → Outcome → State → Prop := fun A => va_Qi (fun (r : Int32) (u : Unit) => r = R.1 0) (zz_B G vwCl (fun _ : Unit => (wFr h0 h1 cA cB R)) A) A
set_option maxHeartbeats 1000000 in
set_option maxRecDepth 100000 in
theorem kX3_command (l : Launch) (G : va_G) (cA cB : ClassId) (tb : Nat × Nat × Nat) (h0 h1 : Nat) (sz : Nat) (R : tFr) : Met l yX3_command wsX3_command rmX3_command (zz_P (zS tb) G vwCl [(cA, .int), (cB, .boolean)] [.ref h0] (wFr h0 h1 cA cB R) sz) (QfX3_command G cA cB h0 h1 R (va_A (wFr h0 h1 cA cB R) sz)) 0 0 (va_A (wFr h0 h1 cA cB R) sz) := by
  refine zz_Met (cc := cX3_command) (maxL := 1) (ret := (some .int)) (Qf := QfX3_command G cA cB h0 h1 R) (by decide) rfl (Nat.le_of_ble_eq_true rfl) ?_
  intro p e s m below meth c A ls hx hb hr hts hown hlocks hin hml hA hP hK hD hz hS hl
  have hl : lv_has ls 1 [(0, .ref h0)] := hl
  have hP : va_P G vwCl [(h0, .inr (3, [.ref h1, .int R.2])), (h1, .inl (cA, 5, .inl R.1))] s.heap := hP
  have hD : va_D A [(h0, .inr (3, [.ref h1, .int R.2])), (h1, .inl (cA, 5, .inl R.1))] := hD
  refine lv_aload_n hx hb dX3_command_0 rfl (lv_at hl 0 rfl) ?_
  refine va_get (D := G) (ci := 3) (v := .ref h1) (C := RX3) (T := TX3) (N := 2) hx hb hts iX3_command_X3 hown hK hP 0 rfl rfl 0 (by decide) (hts _ mX3_command_1) (fun _ h9 => h9) rfl dX3_command_1 ?_
  refine lv_iconst (v := 0) hx hb dX3_command_4 (by decide) ?_
  refine zz_iald hx hb hK hP 1 0 0 rfl rfl (by decide) (vp_lit (by decide)) dX3_command_5 ?_
  exact zz_ri (v := (R.1 0)) () hx hb hr hlocks hS hP hD (by first | rfl | (rfl) | (simp [])) dX3_command_6
theorem iX3_number_X3 : ∀ w ∈ u_ws RX3 TX3 2, w ∈ wsX3_number := by decide +kernel
theorem mX3_number_1 : Cond.fieldLink RX3 11 "ChamberPacer$Frame" "bytes" "[I" ∈ wsX3_number := by decide +kernel
abbrev rmX3_number : Room := { frames := 0, cells := 0, slots := 0, locals := 0 }
abbrev QfX3_number (G : va_G) (cA cB : ClassId) (h0 h1 : Nat) (R : tFr) : (Nat → Prop) → Array Value → State → Outcome → State → Prop := fun A => va_Qi (fun (r : Int32) (u : Unit) => r = R.1 1) (zz_B G vwCl (fun _ : Unit => (wFr h0 h1 cA cB R)) A) A
set_option maxHeartbeats 1000000 in
set_option maxRecDepth 100000 in
theorem kX3_number (l : Launch) (G : va_G) (cA cB : ClassId) (tb : Nat × Nat × Nat) (h0 h1 : Nat) (sz : Nat) (R : tFr) : Met l yX3_number wsX3_number rmX3_number (zz_P (zS tb) G vwCl [(cA, .int), (cB, .boolean)] [.ref h0] (wFr h0 h1 cA cB R) sz) (QfX3_number G cA cB h0 h1 R (va_A (wFr h0 h1 cA cB R) sz)) 0 0 (va_A (wFr h0 h1 cA cB R) sz) := by
  refine zz_Met (cc := cX3_number) (maxL := 1) (ret := (some .int)) (Qf := QfX3_number G cA cB h0 h1 R) (by decide) rfl (Nat.le_of_ble_eq_true rfl) ?_
  intro p e s m below meth c A ls hx hb hr hts hown hlocks hin hml hA hP hK hD hz hS hl
  have hl : lv_has ls 1 [(0, .ref h0)] := hl
  have hP : va_P G vwCl [(h0, .inr (3, [.ref h1, .int R.2])), (h1, .inl (cA, 5, .inl R.1))] s.heap := hP
  have hD : va_D A [(h0, .inr (3, [.ref h1, .int R.2])), (h1, .inl (cA, 5, .inl R.1))] := hD
  refine lv_aload_n hx hb dX3_number_0 rfl (lv_at hl 0 rfl) ?_
  refine va_get (D := G) (ci := 3) (v := .ref h1) (C := RX3) (T := TX3) (N := 2) hx hb hts iX3_number_X3 hown hK hP 0 rfl rfl 0 (by decide) (hts _ mX3_number_1) (fun _ h9 => h9) rfl dX3_number_1 ?_
  refine lv_iconst (v := 1) hx hb dX3_number_4 (by decide) ?_
  refine zz_iald hx hb hK hP 1 0 1 rfl rfl (by decide) (vp_lit (by decide)) dX3_number_5 ?_
  exact zz_ri (v := (R.1 1)) () hx hb hr hlocks hS hP hD (by first | rfl | (rfl) | (simp [])) dX3_number_6
theorem iX3_amount_X3 : ∀ w ∈ u_ws RX3 TX3 2, w ∈ wsX3_amount := by decide +kernel
theorem mX3_amount_1 : Cond.fieldLink RX3 11 "ChamberPacer$Frame" "bytes" "[I" ∈ wsX3_amount := by decide +kernel
abbrev rmX3_amount : Room := { frames := 0, cells := 0, slots := 0, locals := 0 }
abbrev QfX3_amount (G : va_G) (cA cB : ClassId) (h0 h1 : Nat) (R : tFr) : (Nat → Prop) → Array Value → State → Outcome → State → Prop := fun A => va_Qi (fun (r : Int32) (u : Unit) => r = R.1 2 * 256 + R.1 3) (zz_B G vwCl (fun _ : Unit => (wFr h0 h1 cA cB R)) A) A
set_option maxHeartbeats 1000000 in
set_option maxRecDepth 100000 in
theorem kX3_amount (l : Launch) (G : va_G) (cA cB : ClassId) (tb : Nat × Nat × Nat) (h0 h1 : Nat) (sz : Nat) (R : tFr) : Met l yX3_amount wsX3_amount rmX3_amount (zz_P (zS tb) G vwCl [(cA, .int), (cB, .boolean)] [.ref h0] (wFr h0 h1 cA cB R) sz) (QfX3_amount G cA cB h0 h1 R (va_A (wFr h0 h1 cA cB R) sz)) 0 0 (va_A (wFr h0 h1 cA cB R) sz) := by
  refine zz_Met (cc := cX3_amount) (maxL := 1) (ret := (some .int)) (Qf := QfX3_amount G cA cB h0 h1 R) (by decide) rfl (Nat.le_of_ble_eq_true rfl) ?_
  intro p e s m below meth c A ls hx hb hr hts hown hlocks hin hml hA hP hK hD hz hS hl
  have hl : lv_has ls 1 [(0, .ref h0)] := hl
  have hP : va_P G vwCl [(h0, .inr (3, [.ref h1, .int R.2])), (h1, .inl (cA, 5, .inl R.1))] s.heap := hP
  have hD : va_D A [(h0, .inr (3, [.ref h1, .int R.2])), (h1, .inl (cA, 5, .inl R.1))] := hD
  refine lv_aload_n hx hb dX3_amount_0 rfl (lv_at hl 0 rfl) ?_
  refine va_get (D := G) (ci := 3) (v := .ref h1) (C := RX3) (T := TX3) (N := 2) hx hb hts iX3_amount_X3 hown hK hP 0 rfl rfl 0 (by decide) (hts _ mX3_amount_1) (fun _ h9 => h9) rfl dX3_amount_1 ?_
  refine lv_iconst (v := 2) hx hb dX3_amount_4 (by decide) ?_
  refine zz_iald hx hb hK hP 1 0 2 rfl rfl (by decide) (vp_lit (by decide)) dX3_amount_5 ?_
  refine lv_sipush (v := 256) hx hb dX3_amount_6 (by decide) ?_
  refine lv_imul hx hb dX3_amount_9 ?_
  refine lv_aload_n hx hb dX3_amount_10 rfl (lv_at hl 0 rfl) ?_
  refine va_get (D := G) (ci := 3) (v := .ref h1) (C := RX3) (T := TX3) (N := 2) hx hb hts iX3_amount_X3 hown hK hP 0 rfl rfl 0 (by decide) (hts _ mX3_amount_1) (fun _ h9 => h9) rfl dX3_amount_11 ?_
  refine lv_iconst (v := 3) hx hb dX3_amount_14 (by decide) ?_
  refine zz_iald hx hb hK hP 1 0 3 rfl rfl (by decide) (vp_lit (by decide)) dX3_amount_15 ?_
  refine lv_iadd hx hb dX3_amount_16 ?_
  exact zz_ri (v := (((R.1 2) * 256) + (R.1 3))) () hx hb hr hlocks hS hP hD (by first | rfl | (rfl) | (simp [])) dX3_amount_17
theorem iX3_endsWith_X3 : ∀ w ∈ u_ws RX3 TX3 2, w ∈ wsX3_endsWith := by decide +kernel
theorem mX3_endsWith_1 : Cond.fieldLink RX3 15 "ChamberPacer$Frame" "got" "I" ∈ wsX3_endsWith := by decide +kernel
theorem mX3_endsWith_2 : Cond.fieldLink RX3 11 "ChamberPacer$Frame" "bytes" "[I" ∈ wsX3_endsWith := by decide +kernel
abbrev rmX3_endsWith : Room := { frames := 0, cells := 0, slots := 0, locals := 0 }
abbrev QfX3_endsWith (G : va_G) (cA cB : ClassId) (h0 h1 : Nat) (R : tFr) (b : Int32) : (Nat → Prop) → Array Value → State → Outcome → State → Prop := fun A => va_Qi (fun (r : Int32) (u : tFr) => r = bI (k_ends b R) ∧ u = k_gets b R) (zz_B G vwCl (fun u : tFr => (wFr h0 h1 cA cB u)) A) A
set_option maxHeartbeats 1000000 in
set_option maxRecDepth 100000 in
theorem kX3_endsWith (l : Launch) (G : va_G) (cA cB : ClassId) (tb : Nat × Nat × Nat) (h0 h1 : Nat) (sz : Nat) (R : tFr) (b : Int32) : Met l yX3_endsWith wsX3_endsWith rmX3_endsWith (zz_P (zS tb) G vwCl [(cA, .int), (cB, .boolean)] [.ref h0, .int b] (wFr h0 h1 cA cB R) sz) (QfX3_endsWith G cA cB h0 h1 R b (va_A (wFr h0 h1 cA cB R) sz)) 0 0 (va_A (wFr h0 h1 cA cB R) sz) := by
  refine zz_Met (cc := cX3_endsWith) (maxL := 2) (ret := (some .boolean)) (Qf := QfX3_endsWith G cA cB h0 h1 R b) (by decide) rfl (Nat.le_of_ble_eq_true rfl) ?_
  intro p e s m below meth c A ls hx hb hr hts hown hlocks hin hml hA hP hK hD hz hS hl
  have hl : lv_has ls 2 [(0, .ref h0), (1, .int b)] := hl
  have hP : va_P G vwCl [(h0, .inr (3, [.ref h1, .int R.2])), (h1, .inl (cA, 5, .inl R.1))] s.heap := hP
  have hD : va_D A [(h0, .inr (3, [.ref h1, .int R.2])), (h1, .inl (cA, 5, .inl R.1))] := hD
  refine lv_aload_n hx hb dX3_endsWith_0 rfl (lv_at hl 0 rfl) ?_
  refine va_get (D := G) (ci := 3) (v := .int R.2) (C := RX3) (T := TX3) (N := 2) hx hb hts iX3_endsWith_X3 hown hK hP 0 rfl rfl 1 (by decide) (hts _ mX3_endsWith_1) (fun _ h9 => h9) rfl dX3_endsWith_1 ?_
  refine lv_if_lt (tgt := 15) hx hb dX3_endsWith_4 (by decide) (fun c_1 => ?_) (fun c_1 => ?_)
  · have c_1 := zlt_t c_1
    refine lv_aload_n hx hb dX3_endsWith_15 rfl (lv_at hl 0 rfl) ?_
    refine lv_iload_n hx hb dX3_endsWith_16 rfl (lv_at hl 1 rfl) ?_
    refine lv_bipush (v := 126) hx hb dX3_endsWith_17 (by decide) ?_
    refine lv_icmp_ne (tgt := 26) hx hb dX3_endsWith_19 (by decide) (fun c_2 => ?_) (fun c_2 => ?_)
    · have c_2 := zeq_f c_2
      refine lv_iconst (v := (-1)) hx hb dX3_endsWith_26 (by decide) ?_
      refine va_put (D := G) (ci := 3) (v := .int (-1)) (ty := .int) (C := RX3) (T := TX3) (N := 2) hx hb hts iX3_endsWith_X3 tyX3 tyX3_ok nmX3 hown hK hP hD hS 0 rfl rfl 1 (by decide) (hts _ mX3_endsWith_1) (fun _ h9 => h9) rfl (by decide +kernel) rfl rfl (Nat.le_of_ble_eq_true rfl) dX3_endsWith_27 (fun H locs hP hD hS => ?_)
      have hP : va_P G vwCl [(h0, .inr (3, [.ref h1, .int (-1)])), (h1, .inl (cA, 5, .inl R.1))] H := hP
      have hD : va_D A [(h0, .inr (3, [.ref h1, .int (-1)])), (h1, .inl (cA, 5, .inl R.1))] := hD
      refine lv_iconst (v := 0) hx hb dX3_endsWith_30 (by decide) ?_
      exact zz_rz (v := 0) ((R.1, (-1)) : tFr) hx hb hr (by decide +kernel) hlocks hS hP hD ⟨by simp [k_ends, bI, c_1, c_2], by first | (simp [k_ends, k_gets, bI, c_1, c_2]; done) | (symm; (first | refine (if_pos c_1).trans ?_ | refine (if_neg c_1).trans ?_ | refine (if_fb c_1).trans ?_ | skip); (first | refine (if_pos c_2).trans ?_ | refine (if_neg c_2).trans ?_ | refine (if_fb c_2).trans ?_ | skip); rfl) | (try simp [k_ends, k_gets, bI] at c_1; try simp [k_ends, k_gets, bI] at c_2; simp [k_ends, k_gets, bI, c_1, c_2]; done) | rfl⟩ dX3_endsWith_31
    · have c_2 := zeq_t c_2
      refine lv_iconst (v := 0) hx hb dX3_endsWith_22 (by decide) ?_
      refine lv_goto (tgt := 27) hx hb dX3_endsWith_23 (by decide) ?_
      refine va_put (D := G) (ci := 3) (v := .int 0) (ty := .int) (C := RX3) (T := TX3) (N := 2) hx hb hts iX3_endsWith_X3 tyX3 tyX3_ok nmX3 hown hK hP hD hS 0 rfl rfl 1 (by decide) (hts _ mX3_endsWith_1) (fun _ h9 => h9) rfl (by decide +kernel) rfl rfl (Nat.le_of_ble_eq_true rfl) dX3_endsWith_27 (fun H locs hP hD hS => ?_)
      have hP : va_P G vwCl [(h0, .inr (3, [.ref h1, .int 0])), (h1, .inl (cA, 5, .inl R.1))] H := hP
      have hD : va_D A [(h0, .inr (3, [.ref h1, .int 0])), (h1, .inl (cA, 5, .inl R.1))] := hD
      refine lv_iconst (v := 0) hx hb dX3_endsWith_30 (by decide) ?_
      exact zz_rz (v := 0) ((R.1, 0) : tFr) hx hb hr (by decide +kernel) hlocks hS hP hD ⟨by simp [k_ends, bI, c_1, c_2], by first | (simp [k_ends, k_gets, bI, c_1, c_2]; done) | (symm; (first | refine (if_pos c_1).trans ?_ | refine (if_neg c_1).trans ?_ | refine (if_fb c_1).trans ?_ | skip); (first | refine (if_pos c_2).trans ?_ | refine (if_neg c_2).trans ?_ | refine (if_fb c_2).trans ?_ | skip); rfl) | (try simp [k_ends, k_gets, bI] at c_1; try simp [k_ends, k_gets, bI] at c_2; simp [k_ends, k_gets, bI, c_1, c_2]; done) | rfl⟩ dX3_endsWith_31
  · have c_1 := zlt_f c_1
    refine lv_aload_n hx hb dX3_endsWith_7 rfl (lv_at hl 0 rfl) ?_
    refine va_get (D := G) (ci := 3) (v := .int R.2) (C := RX3) (T := TX3) (N := 2) hx hb hts iX3_endsWith_X3 hown hK hP 0 rfl rfl 1 (by decide) (hts _ mX3_endsWith_1) (fun _ h9 => h9) rfl dX3_endsWith_8 ?_
    refine lv_iconst (v := 5) hx hb dX3_endsWith_11 (by decide) ?_
    refine lv_icmp_lt (tgt := 32) hx hb dX3_endsWith_12 (by decide) (fun c_3 => ?_) (fun c_3 => ?_)
    · have c_3 := zlt_t c_3
      refine lv_aload_n hx hb dX3_endsWith_32 rfl (lv_at hl 0 rfl) ?_
      refine va_get (D := G) (ci := 3) (v := .ref h1) (C := RX3) (T := TX3) (N := 2) hx hb hts iX3_endsWith_X3 hown hK hP 0 rfl rfl 0 (by decide) (hts _ mX3_endsWith_2) (fun _ h9 => h9) rfl dX3_endsWith_33 ?_
      refine lv_aload_n hx hb dX3_endsWith_36 rfl (lv_at hl 0 rfl) ?_
      refine va_get (D := G) (ci := 3) (v := .int R.2) (C := RX3) (T := TX3) (N := 2) hx hb hts iX3_endsWith_X3 hown hK hP 0 rfl rfl 1 (by decide) (hts _ mX3_endsWith_1) (fun _ h9 => h9) rfl dX3_endsWith_37 ?_
      refine lv_iload_n hx hb dX3_endsWith_40 rfl (lv_at hl 1 rfl) ?_
      refine zz_iast hx hb hK hP hD hS 1 0 R.2.toNatClampNeg rfl rfl rfl (vp_of (m := 5) (by decide) (by assumption) (zz_lt_le (by assumption))) dX3_endsWith_41 (fun H locs hP hD hS => ?_)
      have hP : va_P G vwCl [(h0, .inr (3, [.ref h1, .int R.2])), (h1, .inl (cA, 5, .inl (upd R.1 R.2.toNatClampNeg b)))] H := hP
      have hD : va_D A [(h0, .inr (3, [.ref h1, .int R.2])), (h1, .inl (cA, 5, .inl (upd R.1 R.2.toNatClampNeg b)))] := hD
      refine lv_aload_n hx hb dX3_endsWith_42 rfl (lv_at hl 0 rfl) ?_
      refine lv_dup hx hb dX3_endsWith_43 rfl ?_
      refine va_get (D := G) (ci := 3) (v := .int R.2) (C := RX3) (T := TX3) (N := 2) hx hb hts iX3_endsWith_X3 hown hK hP 0 rfl rfl 1 (by decide) (hts _ mX3_endsWith_1) (fun _ h9 => h9) rfl dX3_endsWith_44 ?_
      refine lv_iconst (v := 1) hx hb dX3_endsWith_47 (by decide) ?_
      refine lv_iadd hx hb dX3_endsWith_48 ?_
      refine va_put (D := G) (ci := 3) (v := .int (R.2 + 1)) (ty := .int) (C := RX3) (T := TX3) (N := 2) hx hb hts iX3_endsWith_X3 tyX3 tyX3_ok nmX3 hown hK hP hD hS 0 rfl rfl 1 (by decide) (hts _ mX3_endsWith_1) (fun _ h9 => h9) rfl (by decide +kernel) rfl rfl (Nat.le_of_ble_eq_true rfl) dX3_endsWith_49 (fun H locs hP hD hS => ?_)
      have hP : va_P G vwCl [(h0, .inr (3, [.ref h1, .int (R.2 + 1)])), (h1, .inl (cA, 5, .inl (upd R.1 R.2.toNatClampNeg b)))] H := hP
      have hD : va_D A [(h0, .inr (3, [.ref h1, .int (R.2 + 1)])), (h1, .inl (cA, 5, .inl (upd R.1 R.2.toNatClampNeg b)))] := hD
      refine lv_aload_n hx hb dX3_endsWith_52 rfl (lv_at hl 0 rfl) ?_
      refine va_get (D := G) (ci := 3) (v := .int (R.2 + 1)) (C := RX3) (T := TX3) (N := 2) hx hb hts iX3_endsWith_X3 hown hK hP 0 rfl rfl 1 (by decide) (hts _ mX3_endsWith_1) (fun _ h9 => h9) rfl dX3_endsWith_53 ?_
      refine lv_iconst (v := 5) hx hb dX3_endsWith_56 (by decide) ?_
      refine lv_icmp_ne (tgt := 64) hx hb dX3_endsWith_57 (by decide) (fun c_4 => ?_) (fun c_4 => ?_)
      · have c_4 := zeq_f c_4
        refine lv_iconst (v := 0) hx hb dX3_endsWith_64 (by decide) ?_
        exact zz_rz (v := 0) (((upd R.1 R.2.toNatClampNeg b), (R.2 + 1)) : tFr) hx hb hr (by decide +kernel) hlocks hS hP hD ⟨by simp [k_ends, bI, c_1, c_3, c_4], by first | (simp [k_ends, k_gets, bI, c_1, c_3, c_4]; done) | (symm; (first | refine (if_pos c_1).trans ?_ | refine (if_neg c_1).trans ?_ | refine (if_fb c_1).trans ?_ | skip); (first | refine (if_pos c_3).trans ?_ | refine (if_neg c_3).trans ?_ | refine (if_fb c_3).trans ?_ | skip); (first | refine (if_pos c_4).trans ?_ | refine (if_neg c_4).trans ?_ | refine (if_fb c_4).trans ?_ | skip); rfl) | (try simp [k_ends, k_gets, bI] at c_1; try simp [k_ends, k_gets, bI] at c_3; try simp [k_ends, k_gets, bI] at c_4; simp [k_ends, k_gets, bI, c_1, c_3, c_4]; done) | rfl⟩ dX3_endsWith_65
      · have c_4 := zeq_t c_4
        refine lv_iconst (v := 1) hx hb dX3_endsWith_60 (by decide) ?_
        refine lv_goto (tgt := 65) hx hb dX3_endsWith_61 (by decide) ?_
        exact zz_rz (v := 1) (((upd R.1 R.2.toNatClampNeg b), (R.2 + 1)) : tFr) hx hb hr (by decide +kernel) hlocks hS hP hD ⟨by simp [k_ends, bI, c_1, c_3, c_4], by first | (simp [k_ends, k_gets, bI, c_1, c_3, c_4]; done) | (symm; (first | refine (if_pos c_1).trans ?_ | refine (if_neg c_1).trans ?_ | refine (if_fb c_1).trans ?_ | skip); (first | refine (if_pos c_3).trans ?_ | refine (if_neg c_3).trans ?_ | refine (if_fb c_3).trans ?_ | skip); (first | refine (if_pos c_4).trans ?_ | refine (if_neg c_4).trans ?_ | refine (if_fb c_4).trans ?_ | skip); rfl) | (try simp [k_ends, k_gets, bI] at c_1; try simp [k_ends, k_gets, bI] at c_3; try simp [k_ends, k_gets, bI] at c_4; simp [k_ends, k_gets, bI, c_1, c_3, c_4]; done) | rfl⟩ dX3_endsWith_65
    · have c_3 := zlt_f c_3
      refine lv_aload_n hx hb dX3_endsWith_15 rfl (lv_at hl 0 rfl) ?_
      refine lv_iload_n hx hb dX3_endsWith_16 rfl (lv_at hl 1 rfl) ?_
      refine lv_bipush (v := 126) hx hb dX3_endsWith_17 (by decide) ?_
      refine lv_icmp_ne (tgt := 26) hx hb dX3_endsWith_19 (by decide) (fun c_5 => ?_) (fun c_5 => ?_)
      · have c_5 := zeq_f c_5
        refine lv_iconst (v := (-1)) hx hb dX3_endsWith_26 (by decide) ?_
        refine va_put (D := G) (ci := 3) (v := .int (-1)) (ty := .int) (C := RX3) (T := TX3) (N := 2) hx hb hts iX3_endsWith_X3 tyX3 tyX3_ok nmX3 hown hK hP hD hS 0 rfl rfl 1 (by decide) (hts _ mX3_endsWith_1) (fun _ h9 => h9) rfl (by decide +kernel) rfl rfl (Nat.le_of_ble_eq_true rfl) dX3_endsWith_27 (fun H locs hP hD hS => ?_)
        have hP : va_P G vwCl [(h0, .inr (3, [.ref h1, .int (-1)])), (h1, .inl (cA, 5, .inl R.1))] H := hP
        have hD : va_D A [(h0, .inr (3, [.ref h1, .int (-1)])), (h1, .inl (cA, 5, .inl R.1))] := hD
        refine lv_iconst (v := 0) hx hb dX3_endsWith_30 (by decide) ?_
        exact zz_rz (v := 0) ((R.1, (-1)) : tFr) hx hb hr (by decide +kernel) hlocks hS hP hD ⟨by simp [k_ends, bI, c_1, c_3, c_5], by first | (simp [k_ends, k_gets, bI, c_1, c_3, c_5]; done) | (symm; (first | refine (if_pos c_1).trans ?_ | refine (if_neg c_1).trans ?_ | refine (if_fb c_1).trans ?_ | skip); (first | refine (if_pos c_3).trans ?_ | refine (if_neg c_3).trans ?_ | refine (if_fb c_3).trans ?_ | skip); (first | refine (if_pos c_5).trans ?_ | refine (if_neg c_5).trans ?_ | refine (if_fb c_5).trans ?_ | skip); rfl) | (try simp [k_ends, k_gets, bI] at c_1; try simp [k_ends, k_gets, bI] at c_3; try simp [k_ends, k_gets, bI] at c_5; simp [k_ends, k_gets, bI, c_1, c_3, c_5]; done) | rfl⟩ dX3_endsWith_31
      · have c_5 := zeq_t c_5
        refine lv_iconst (v := 0) hx hb dX3_endsWith_22 (by decide) ?_
        refine lv_goto (tgt := 27) hx hb dX3_endsWith_23 (by decide) ?_
        refine va_put (D := G) (ci := 3) (v := .int 0) (ty := .int) (C := RX3) (T := TX3) (N := 2) hx hb hts iX3_endsWith_X3 tyX3 tyX3_ok nmX3 hown hK hP hD hS 0 rfl rfl 1 (by decide) (hts _ mX3_endsWith_1) (fun _ h9 => h9) rfl (by decide +kernel) rfl rfl (Nat.le_of_ble_eq_true rfl) dX3_endsWith_27 (fun H locs hP hD hS => ?_)
        have hP : va_P G vwCl [(h0, .inr (3, [.ref h1, .int 0])), (h1, .inl (cA, 5, .inl R.1))] H := hP
        have hD : va_D A [(h0, .inr (3, [.ref h1, .int 0])), (h1, .inl (cA, 5, .inl R.1))] := hD
        refine lv_iconst (v := 0) hx hb dX3_endsWith_30 (by decide) ?_
        exact zz_rz (v := 0) ((R.1, 0) : tFr) hx hb hr (by decide +kernel) hlocks hS hP hD ⟨by simp [k_ends, bI, c_1, c_3, c_5], by first | (simp [k_ends, k_gets, bI, c_1, c_3, c_5]; done) | (symm; (first | refine (if_pos c_1).trans ?_ | refine (if_neg c_1).trans ?_ | refine (if_fb c_1).trans ?_ | skip); (first | refine (if_pos c_3).trans ?_ | refine (if_neg c_3).trans ?_ | refine (if_fb c_3).trans ?_ | skip); (first | refine (if_pos c_5).trans ?_ | refine (if_neg c_5).trans ?_ | refine (if_fb c_5).trans ?_ | skip); rfl) | (try simp [k_ends, k_gets, bI] at c_1; try simp [k_ends, k_gets, bI] at c_3; try simp [k_ends, k_gets, bI] at c_5; simp [k_ends, k_gets, bI, c_1, c_3, c_5]; done) | rfl⟩ dX3_endsWith_31

theorem iX7_crosses_X7 : ∀ w ∈ u_ws RX7 TX7 2, w ∈ wsX7_crosses := by decide +kernel
theorem mX7_crosses_1 : Cond.fieldLink RX7 13 "ChamberPacer$Signal" "twoBefore" "I" ∈ wsX7_crosses := by decide +kernel
theorem mX7_crosses_2 : Cond.methodLink RX7 16 Lib.Math.abs.name ∈ wsX7_crosses := by decide +kernel
theorem mX7_crosses_3 : Cond.static Lib.Math.abs.name ∈ wsX7_crosses := by decide +kernel
theorem mX7_crosses_4 : Cond.initialized "java/lang/Math" ∈ wsX7_crosses := by decide +kernel
theorem mX7_crosses_5 : Cond.code Lib.Math.abs.name Lib.Math.abs.code 1 (some .int) ∈ wsX7_crosses := by decide +kernel
theorem mX7_crosses_6 : Cond.fieldLink RX7 7 "ChamberPacer$Signal" "oneBefore" "I" ∈ wsX7_crosses := by decide +kernel
abbrev rmX7_crosses : Room := { frames := 1, cells := 0, slots := 0, locals := 13 }
abbrev QfX7_crosses (G : va_G) (cA cB : ClassId) (h0 : Nat) (S : tSg) (x : Int32) (lim : Int32) : (Nat → Prop) → Array Value → State → Outcome → State → Prop := fun A => va_Qi (fun (r : Int32) (u : tSg) => r = bI (k_cross S x lim) ∧ u = k_take S x) (zz_B G vwCl (fun u : tSg => (wSg h0 cA cB u)) A) A
set_option maxHeartbeats 1000000 in
set_option maxRecDepth 100000 in
theorem kX7_crosses (l : Launch) (G : va_G) (cA cB : ClassId) (tb : Nat × Nat × Nat) (h0 : Nat) (sz : Nat) (S : tSg) (x : Int32) (lim : Int32) : Met l yX7_crosses wsX7_crosses rmX7_crosses (zz_P (zS tb) G vwCl [(cA, .int), (cB, .boolean)] [.ref h0, .int x, .int lim] (wSg h0 cA cB S) sz) (QfX7_crosses G cA cB h0 S x lim (va_A (wSg h0 cA cB S) sz)) 0 0 (va_A (wSg h0 cA cB S) sz) := by
  refine zz_Met (cc := cX7_crosses) (maxL := 4) (ret := (some .boolean)) (Qf := QfX7_crosses G cA cB h0 S x lim) (by decide) rfl (Nat.le_of_ble_eq_true rfl) ?_
  intro p e s m below meth c A ls hx hb hr hts hown hlocks hin hml hA hP hK hD hz hS hl
  have hl : lv_has ls 4 [(0, .ref h0), (1, .int x), (2, .int lim)] := hl
  have hP : va_P G vwCl [(h0, .inr (7, [.int S.1, .int S.2]))] s.heap := hP
  have hD : va_D A [(h0, .inr (7, [.int S.1, .int S.2]))] := hD
  refine lv_iload_n hx hb dX7_crosses_0 rfl (lv_at hl 1 rfl) ?_
  refine lv_aload_n hx hb dX7_crosses_1 rfl (lv_at hl 0 rfl) ?_
  refine va_get (D := G) (ci := 7) (v := .int S.2) (C := RX7) (T := TX7) (N := 2) hx hb hts iX7_crosses_X7 hown hK hP 0 rfl rfl 1 (by decide) (hts _ mX7_crosses_1) (fun _ h9 => h9) rfl dX7_crosses_2 ?_
  refine lv_isub hx hb dX7_crosses_5 ?_
  refine va_mabs hx hb (hml.trans hl.1.symm) hown (hts _ mX7_crosses_2) (hts _ mX7_crosses_3) (hts _ mX7_crosses_4) (hts _ mX7_crosses_5) (Nat.le_of_ble_eq_true rfl) (Nat.le_of_ble_eq_true rfl) (Nat.zero_le _) (Nat.zero_le _) dX7_crosses_6 ?_
  refine zz_topi (zabs_e _) ?_
  refine lv_istore_n (lv' := [(3, .int (zabs (x - S.2))), (0, .ref h0), (1, .int x), (2, .int lim)]) hx hb dX7_crosses_9 rfl hl (by decide) rfl (fun ls hl => ?_)
  refine lv_aload_n hx hb dX7_crosses_10 rfl (lv_at hl 1 rfl) ?_
  refine lv_aload_n hx hb dX7_crosses_11 rfl (lv_at hl 1 rfl) ?_
  refine va_get (D := G) (ci := 7) (v := .int S.1) (C := RX7) (T := TX7) (N := 2) hx hb hts iX7_crosses_X7 hown hK hP 0 rfl rfl 0 (by decide) (hts _ mX7_crosses_6) (fun _ h9 => h9) rfl dX7_crosses_12 ?_
  refine va_put (D := G) (ci := 7) (v := .int S.1) (ty := .int) (C := RX7) (T := TX7) (N := 2) hx hb hts iX7_crosses_X7 tyX7 tyX7_ok nmX7 hown hK hP hD hS 0 rfl rfl 1 (by decide) (hts _ mX7_crosses_1) (fun _ h9 => h9) rfl (by decide +kernel) rfl rfl (Nat.le_of_ble_eq_true rfl) dX7_crosses_15 (fun H locs hP hD hS => ?_)
  have hP : va_P G vwCl [(h0, .inr (7, [.int S.1, .int S.1]))] H := hP
  have hD : va_D A [(h0, .inr (7, [.int S.1, .int S.1]))] := hD
  refine lv_aload_n hx hb dX7_crosses_18 rfl (lv_at hl 1 rfl) ?_
  refine lv_iload_n hx hb dX7_crosses_19 rfl (lv_at hl 2 rfl) ?_
  refine va_put (D := G) (ci := 7) (v := .int x) (ty := .int) (C := RX7) (T := TX7) (N := 2) hx hb hts iX7_crosses_X7 tyX7 tyX7_ok nmX7 hown hK hP hD hS 0 rfl rfl 0 (by decide) (hts _ mX7_crosses_6) (fun _ h9 => h9) rfl (by decide +kernel) rfl rfl (Nat.le_of_ble_eq_true rfl) dX7_crosses_20 (fun H locs hP hD hS => ?_)
  have hP : va_P G vwCl [(h0, .inr (7, [.int x, .int S.1]))] H := hP
  have hD : va_D A [(h0, .inr (7, [.int x, .int S.1]))] := hD
  refine lv_iload_n hx hb dX7_crosses_23 rfl (lv_at hl 0 rfl) ?_
  refine lv_iload_n hx hb dX7_crosses_24 rfl (lv_at hl 3 rfl) ?_
  refine lv_icmp_lt (tgt := 32) hx hb dX7_crosses_25 (by decide) (fun c_1 => ?_) (fun c_1 => ?_)
  · have c_1 := zlt_t c_1
    refine lv_iconst (v := 0) hx hb dX7_crosses_32 (by decide) ?_
    exact zz_rz (v := 0) ((x, S.1) : tSg) hx hb hr (by decide +kernel) hlocks hS hP hD ⟨by simp [k_cross, bI, c_1], by rfl⟩ dX7_crosses_33
  · have c_1 := zlt_f c_1
    refine lv_iconst (v := 1) hx hb dX7_crosses_28 (by decide) ?_
    refine lv_goto (tgt := 33) hx hb dX7_crosses_29 (by decide) ?_
    exact zz_rz (v := 1) ((x, S.1) : tSg) hx hb hr (by decide +kernel) hlocks hS hP hD ⟨by simp [k_cross, bI, c_1], by rfl⟩ dX7_crosses_33
theorem iX2_count_X2 : ∀ w ∈ u_ws RX2 TX2 3, w ∈ wsX2_count := by decide +kernel
theorem mX2_count_1 : Cond.fieldLink RX2 7 "ChamberPacer$Follower" "fast" "I" ∈ wsX2_count := by decide +kernel
theorem mX2_count_2 : Cond.fieldLink RX2 13 "ChamberPacer$Follower" "slow" "I" ∈ wsX2_count := by decide +kernel
theorem mX2_count_3 : Cond.fieldLink RX2 16 "ChamberPacer$Follower" "gaveUp" "Z" ∈ wsX2_count := by decide +kernel
abbrev rmX2_count : Room := { frames := 0, cells := 0, slots := 0, locals := 0 }
abbrev QfX2_count (G : va_G) (cA cB : ClassId) (h0 : Nat) (F : tFo) (b : Bool) : (Nat → Prop) → Array Value → State → Outcome → State → Prop := fun A => va_Qv (fun u : tFo => u = k_count b F) (zz_B G vwCl (fun u : tFo => (wFo h0 cA cB u)) A) A
set_option maxHeartbeats 1000000 in
set_option maxRecDepth 100000 in
theorem kX2_count (l : Launch) (G : va_G) (cA cB : ClassId) (tb : Nat × Nat × Nat) (h0 : Nat) (sz : Nat) (F : tFo) (b : Bool) : Met l yX2_count wsX2_count rmX2_count (zz_P (zS tb) G vwCl [(cA, .int), (cB, .boolean)] [.ref h0, .int (bI b)] (wFo h0 cA cB F) sz) (QfX2_count G cA cB h0 F b (va_A (wFo h0 cA cB F) sz)) 0 0 (va_A (wFo h0 cA cB F) sz) := by
  cases b
  · refine zz_Met (cc := cX2_count) (maxL := 2) (ret := none) (Qf := QfX2_count G cA cB h0 F false) (by decide) rfl (Nat.le_of_ble_eq_true rfl) ?_
    intro p e s m below meth c A ls hx hb hr hts hown hlocks hin hml hA hP hK hD hz hS hl
    have hl : lv_has ls 2 [(0, .ref h0), (1, .int (bI false))] := hl
    have hP : va_P G vwCl [(h0, .inr (2, [.int F.1, .int F.2.1, .int (bI F.2.2)]))] s.heap := hP
    have hD : va_D A [(h0, .inr (2, [.int F.1, .int F.2.1, .int (bI F.2.2)]))] := hD
    refine lv_aload_n hx hb dX2_count_0 rfl (lv_at hl 0 rfl) ?_
    refine lv_iload_n hx hb dX2_count_1 rfl (lv_at hl 1 rfl) ?_
    refine lv_if_eq (tgt := 14) hx hb dX2_count_2 (by decide) (fun _ => ?_) (fun c => absurd (by decide) c)
    refine lv_iconst (v := 0) hx hb dX2_count_14 (by decide) ?_
    refine va_put (D := G) (ci := 2) (v := .int 0) (ty := .int) (C := RX2) (T := TX2) (N := 3) hx hb hts iX2_count_X2 tyX2 tyX2_ok nmX2 hown hK hP hD hS 0 rfl rfl 0 (by decide) (hts _ mX2_count_1) (fun _ h9 => h9) rfl (by decide +kernel) rfl rfl (Nat.le_of_ble_eq_true rfl) dX2_count_15 (fun H locs hP hD hS => ?_)
    have hP : va_P G vwCl [(h0, .inr (2, [.int 0, .int F.2.1, .int (bI F.2.2)]))] H := hP
    have hD : va_D A [(h0, .inr (2, [.int 0, .int F.2.1, .int (bI F.2.2)]))] := hD
    refine lv_aload_n hx hb dX2_count_18 rfl (lv_at hl 0 rfl) ?_
    refine lv_iload_n hx hb dX2_count_19 rfl (lv_at hl 1 rfl) ?_
    refine lv_if_eq (tgt := 27) hx hb dX2_count_20 (by decide) (fun _ => ?_) (fun c => absurd (by decide) c)
    refine lv_aload_n hx hb dX2_count_27 rfl (lv_at hl 0 rfl) ?_
    refine va_get (D := G) (ci := 2) (v := .int F.2.1) (C := RX2) (T := TX2) (N := 3) hx hb hts iX2_count_X2 hown hK hP 0 rfl rfl 1 (by decide) (hts _ mX2_count_2) (fun _ h9 => h9) rfl dX2_count_28 ?_
    refine lv_iconst (v := 1) hx hb dX2_count_31 (by decide) ?_
    refine lv_iadd hx hb dX2_count_32 ?_
    refine va_put (D := G) (ci := 2) (v := .int (F.2.1 + 1)) (ty := .int) (C := RX2) (T := TX2) (N := 3) hx hb hts iX2_count_X2 tyX2 tyX2_ok nmX2 hown hK hP hD hS 0 rfl rfl 1 (by decide) (hts _ mX2_count_2) (fun _ h9 => h9) rfl (by decide +kernel) rfl rfl (Nat.le_of_ble_eq_true rfl) dX2_count_33 (fun H locs hP hD hS => ?_)
    have hP : va_P G vwCl [(h0, .inr (2, [.int 0, .int (F.2.1 + 1), .int (bI F.2.2)]))] H := hP
    have hD : va_D A [(h0, .inr (2, [.int 0, .int (F.2.1 + 1), .int (bI F.2.2)]))] := hD
    refine lv_aload_n hx hb dX2_count_36 rfl (lv_at hl 0 rfl) ?_
    refine va_get (D := G) (ci := 2) (v := .int 0) (C := RX2) (T := TX2) (N := 3) hx hb hts iX2_count_X2 hown hK hP 0 rfl rfl 0 (by decide) (hts _ mX2_count_1) (fun _ h9 => h9) rfl dX2_count_37 ?_
    refine lv_iconst (v := 5) hx hb dX2_count_40 (by decide) ?_
    have J49_1 : ∀ (X_1 : tFo) (hX_1 : X_1 = (k_cntF false F, k_cntS false F, if zlt (k_cntF false F) 5 = true then F.2.2 else true)) (H : Heap) (locs : List Loc) (ls : Array Slot), va_P G vwCl [(h0, .inr (2, [.int X_1.1, .int X_1.2.1, .int (bI X_1.2.2)]))] H → va_D A [(h0, .inr (2, [.int X_1.1, .int X_1.2.1, .int (bI X_1.2.2)]))] → va_S A s.heap H locs → lv_has ls 2 [(0, .ref h0), (1, .int (bI false))] → W p l e rmX2_count s m ([.ref h0, .int (bI false)] : List Value).toArray below meth c H locs 0 0 (MQ below (va_Qv (fun u : tFo => u = k_count false F) (zz_B G vwCl (fun u : tFo => (wFo h0 cA cB u)) A) A) ([.ref h0, .int (bI false)] : List Value).toArray s 0 0 A) (F0 m 49 ls []) := by
      intro X_1 hX_1 H locs ls hP hD hS hl
      refine lv_aload_n hx hb dX2_count_49 rfl (lv_at hl 0 rfl) ?_
      refine va_get (D := G) (ci := 2) (v := .int X_1.2.1) (C := RX2) (T := TX2) (N := 3) hx hb hts iX2_count_X2 hown hK hP 0 rfl rfl 1 (by decide) (hts _ mX2_count_2) (fun _ h9 => h9) rfl dX2_count_50 ?_
      refine lv_iconst (v := 3) hx hb dX2_count_53 (by decide) ?_
      refine lv_icmp_lt (tgt := 62) hx hb dX2_count_54 (by decide) (fun c_2 => ?_) (fun c_2 => ?_)
      · have c_2 := zlt_t c_2
        exact zz_rv (X_1 : tFo) hx hb hr hlocks hS hP hD (by first | (have hX_1 := hX_1.symm; subst hX_1; simp [k_count, k_cntF, k_cntS, c_2]; done) | (have hX_1 := hX_1.symm; subst hX_1; symm; (first | refine (if_pos c_2).trans ?_ | refine (if_neg c_2).trans ?_ | refine (if_fb c_2).trans ?_ | skip); rfl) | (have hX_1 := hX_1.symm; subst hX_1; try simp [k_count, k_cntF, k_cntS] at c_2; simp [k_count, k_cntF, k_cntS, c_2]; done) | rfl) dX2_count_62
      · have c_2 := zlt_f c_2
        refine lv_aload_n hx hb dX2_count_57 rfl (lv_at hl 0 rfl) ?_
        refine lv_iconst (v := 0) hx hb dX2_count_58 (by decide) ?_
        refine va_put (D := G) (ci := 2) (v := .int 0) (ty := .boolean) (C := RX2) (T := TX2) (N := 3) hx hb hts iX2_count_X2 tyX2 tyX2_ok nmX2 hown hK hP hD hS 0 rfl rfl 2 (by decide) (hts _ mX2_count_3) (fun _ h9 => h9) rfl (by decide +kernel) rfl rfl (Nat.le_of_ble_eq_true rfl) dX2_count_59 (fun H locs hP hD hS => ?_)
        have hP : va_P G vwCl [(h0, .inr (2, [.int X_1.1, .int X_1.2.1, .int (bI false)]))] H := hP
        have hD : va_D A [(h0, .inr (2, [.int X_1.1, .int X_1.2.1, .int (bI false)]))] := hD
        exact zz_rv ((X_1.1, X_1.2.1, false) : tFo) hx hb hr hlocks hS hP hD (by first | (have hX_1 := hX_1.symm; subst hX_1; simp [k_count, k_cntF, k_cntS, c_2]; done) | (have hX_1 := hX_1.symm; subst hX_1; symm; (first | refine (if_pos c_2).trans ?_ | refine (if_neg c_2).trans ?_ | refine (if_fb c_2).trans ?_ | skip); rfl) | (have hX_1 := hX_1.symm; subst hX_1; try simp [k_count, k_cntF, k_cntS] at c_2; simp [k_count, k_cntF, k_cntS, c_2]; done) | rfl) dX2_count_62
    refine lv_icmp_lt (tgt := 49) hx hb dX2_count_41 (by decide) (fun c_3 => ?_) (fun c => absurd (by decide) c)
    have c_3 := zlt_t c_3
    exact J49_1 ((0, (F.2.1 + 1), F.2.2)) (by first | (simp [k_cntF, k_cntS, c_3]; done) | (symm; (first | refine (if_pos c_3).trans ?_ | refine (if_neg c_3).trans ?_ | refine (if_fb c_3).trans ?_ | skip); rfl) | (try simp [k_cntF, k_cntS] at c_3; simp [k_cntF, k_cntS, c_3]; done) | rfl) _ _ _ hP hD hS hl
  · refine zz_Met (cc := cX2_count) (maxL := 2) (ret := none) (Qf := QfX2_count G cA cB h0 F true) (by decide) rfl (Nat.le_of_ble_eq_true rfl) ?_
    intro p e s m below meth c A ls hx hb hr hts hown hlocks hin hml hA hP hK hD hz hS hl
    have hl : lv_has ls 2 [(0, .ref h0), (1, .int (bI true))] := hl
    have hP : va_P G vwCl [(h0, .inr (2, [.int F.1, .int F.2.1, .int (bI F.2.2)]))] s.heap := hP
    have hD : va_D A [(h0, .inr (2, [.int F.1, .int F.2.1, .int (bI F.2.2)]))] := hD
    refine lv_aload_n hx hb dX2_count_0 rfl (lv_at hl 0 rfl) ?_
    refine lv_iload_n hx hb dX2_count_1 rfl (lv_at hl 1 rfl) ?_
    refine lv_if_eq (tgt := 14) hx hb dX2_count_2 (by decide) (fun c => absurd c (by decide)) (fun _ => ?_)
    refine lv_aload_n hx hb dX2_count_5 rfl (lv_at hl 0 rfl) ?_
    refine va_get (D := G) (ci := 2) (v := .int F.1) (C := RX2) (T := TX2) (N := 3) hx hb hts iX2_count_X2 hown hK hP 0 rfl rfl 0 (by decide) (hts _ mX2_count_1) (fun _ h9 => h9) rfl dX2_count_6 ?_
    refine lv_iconst (v := 1) hx hb dX2_count_9 (by decide) ?_
    refine lv_iadd hx hb dX2_count_10 ?_
    refine lv_goto (tgt := 15) hx hb dX2_count_11 (by decide) ?_
    refine va_put (D := G) (ci := 2) (v := .int (F.1 + 1)) (ty := .int) (C := RX2) (T := TX2) (N := 3) hx hb hts iX2_count_X2 tyX2 tyX2_ok nmX2 hown hK hP hD hS 0 rfl rfl 0 (by decide) (hts _ mX2_count_1) (fun _ h9 => h9) rfl (by decide +kernel) rfl rfl (Nat.le_of_ble_eq_true rfl) dX2_count_15 (fun H locs hP hD hS => ?_)
    have hP : va_P G vwCl [(h0, .inr (2, [.int (F.1 + 1), .int F.2.1, .int (bI F.2.2)]))] H := hP
    have hD : va_D A [(h0, .inr (2, [.int (F.1 + 1), .int F.2.1, .int (bI F.2.2)]))] := hD
    refine lv_aload_n hx hb dX2_count_18 rfl (lv_at hl 0 rfl) ?_
    refine lv_iload_n hx hb dX2_count_19 rfl (lv_at hl 1 rfl) ?_
    refine lv_if_eq (tgt := 27) hx hb dX2_count_20 (by decide) (fun c => absurd c (by decide)) (fun _ => ?_)
    refine lv_iconst (v := 0) hx hb dX2_count_23 (by decide) ?_
    refine lv_goto (tgt := 33) hx hb dX2_count_24 (by decide) ?_
    refine va_put (D := G) (ci := 2) (v := .int 0) (ty := .int) (C := RX2) (T := TX2) (N := 3) hx hb hts iX2_count_X2 tyX2 tyX2_ok nmX2 hown hK hP hD hS 0 rfl rfl 1 (by decide) (hts _ mX2_count_2) (fun _ h9 => h9) rfl (by decide +kernel) rfl rfl (Nat.le_of_ble_eq_true rfl) dX2_count_33 (fun H locs hP hD hS => ?_)
    have hP : va_P G vwCl [(h0, .inr (2, [.int (F.1 + 1), .int 0, .int (bI F.2.2)]))] H := hP
    have hD : va_D A [(h0, .inr (2, [.int (F.1 + 1), .int 0, .int (bI F.2.2)]))] := hD
    refine lv_aload_n hx hb dX2_count_36 rfl (lv_at hl 0 rfl) ?_
    refine va_get (D := G) (ci := 2) (v := .int (F.1 + 1)) (C := RX2) (T := TX2) (N := 3) hx hb hts iX2_count_X2 hown hK hP 0 rfl rfl 0 (by decide) (hts _ mX2_count_1) (fun _ h9 => h9) rfl dX2_count_37 ?_
    refine lv_iconst (v := 5) hx hb dX2_count_40 (by decide) ?_
    have J49_4 : ∀ (X_4 : tFo) (hX_4 : X_4 = (k_cntF true F, k_cntS true F, if zlt (k_cntF true F) 5 = true then F.2.2 else true)) (H : Heap) (locs : List Loc) (ls : Array Slot), va_P G vwCl [(h0, .inr (2, [.int X_4.1, .int X_4.2.1, .int (bI X_4.2.2)]))] H → va_D A [(h0, .inr (2, [.int X_4.1, .int X_4.2.1, .int (bI X_4.2.2)]))] → va_S A s.heap H locs → lv_has ls 2 [(0, .ref h0), (1, .int (bI true))] → W p l e rmX2_count s m ([.ref h0, .int (bI true)] : List Value).toArray below meth c H locs 0 0 (MQ below (va_Qv (fun u : tFo => u = k_count true F) (zz_B G vwCl (fun u : tFo => (wFo h0 cA cB u)) A) A) ([.ref h0, .int (bI true)] : List Value).toArray s 0 0 A) (F0 m 49 ls []) := by
      intro X_4 hX_4 H locs ls hP hD hS hl
      refine lv_aload_n hx hb dX2_count_49 rfl (lv_at hl 0 rfl) ?_
      refine va_get (D := G) (ci := 2) (v := .int X_4.2.1) (C := RX2) (T := TX2) (N := 3) hx hb hts iX2_count_X2 hown hK hP 0 rfl rfl 1 (by decide) (hts _ mX2_count_2) (fun _ h9 => h9) rfl dX2_count_50 ?_
      refine lv_iconst (v := 3) hx hb dX2_count_53 (by decide) ?_
      refine lv_icmp_lt (tgt := 62) hx hb dX2_count_54 (by decide) (fun c_5 => ?_) (fun c_5 => ?_)
      · have c_5 := zlt_t c_5
        exact zz_rv (X_4 : tFo) hx hb hr hlocks hS hP hD (by first | (have hX_4 := hX_4.symm; subst hX_4; simp [k_count, k_cntF, k_cntS, c_5]; done) | (have hX_4 := hX_4.symm; subst hX_4; symm; (first | refine (if_pos c_5).trans ?_ | refine (if_neg c_5).trans ?_ | refine (if_fb c_5).trans ?_ | skip); rfl) | (have hX_4 := hX_4.symm; subst hX_4; try simp [k_count, k_cntF, k_cntS] at c_5; simp [k_count, k_cntF, k_cntS, c_5]; done) | rfl) dX2_count_62
      · have c_5 := zlt_f c_5
        refine lv_aload_n hx hb dX2_count_57 rfl (lv_at hl 0 rfl) ?_
        refine lv_iconst (v := 0) hx hb dX2_count_58 (by decide) ?_
        refine va_put (D := G) (ci := 2) (v := .int 0) (ty := .boolean) (C := RX2) (T := TX2) (N := 3) hx hb hts iX2_count_X2 tyX2 tyX2_ok nmX2 hown hK hP hD hS 0 rfl rfl 2 (by decide) (hts _ mX2_count_3) (fun _ h9 => h9) rfl (by decide +kernel) rfl rfl (Nat.le_of_ble_eq_true rfl) dX2_count_59 (fun H locs hP hD hS => ?_)
        have hP : va_P G vwCl [(h0, .inr (2, [.int X_4.1, .int X_4.2.1, .int (bI false)]))] H := hP
        have hD : va_D A [(h0, .inr (2, [.int X_4.1, .int X_4.2.1, .int (bI false)]))] := hD
        exact zz_rv ((X_4.1, X_4.2.1, false) : tFo) hx hb hr hlocks hS hP hD (by first | (have hX_4 := hX_4.symm; subst hX_4; simp [k_count, k_cntF, k_cntS, c_5]; done) | (have hX_4 := hX_4.symm; subst hX_4; symm; (first | refine (if_pos c_5).trans ?_ | refine (if_neg c_5).trans ?_ | refine (if_fb c_5).trans ?_ | skip); rfl) | (have hX_4 := hX_4.symm; subst hX_4; try simp [k_count, k_cntF, k_cntS] at c_5; simp [k_count, k_cntF, k_cntS, c_5]; done) | rfl) dX2_count_62
    refine lv_icmp_lt (tgt := 49) hx hb dX2_count_41 (by decide) (fun c_6 => ?_) (fun c_6 => ?_)
    · have c_6 := zlt_t c_6
      exact J49_4 (((F.1 + 1), 0, F.2.2)) (by first | (simp [k_cntF, k_cntS, c_6]; done) | (symm; (first | refine (if_pos c_6).trans ?_ | refine (if_neg c_6).trans ?_ | refine (if_fb c_6).trans ?_ | skip); rfl) | (try simp [k_cntF, k_cntS] at c_6; simp [k_cntF, k_cntS, c_6]; done) | rfl) _ _ _ hP hD hS hl
    · have c_6 := zlt_f c_6
      refine lv_aload_n hx hb dX2_count_44 rfl (lv_at hl 0 rfl) ?_
      refine lv_iconst (v := 1) hx hb dX2_count_45 (by decide) ?_
      refine va_put (D := G) (ci := 2) (v := .int 1) (ty := .boolean) (C := RX2) (T := TX2) (N := 3) hx hb hts iX2_count_X2 tyX2 tyX2_ok nmX2 hown hK hP hD hS 0 rfl rfl 2 (by decide) (hts _ mX2_count_3) (fun _ h9 => h9) rfl (by decide +kernel) rfl rfl (Nat.le_of_ble_eq_true rfl) dX2_count_46 (fun H locs hP hD hS => ?_)
      have hP : va_P G vwCl [(h0, .inr (2, [.int (F.1 + 1), .int 0, .int (bI true)]))] H := hP
      have hD : va_D A [(h0, .inr (2, [.int (F.1 + 1), .int 0, .int (bI true)]))] := hD
      exact J49_4 (((F.1 + 1), 0, true)) (by first | (simp [k_cntF, k_cntS, c_6]; done) | (symm; (first | refine (if_pos c_6).trans ?_ | refine (if_neg c_6).trans ?_ | refine (if_fb c_6).trans ?_ | skip); rfl) | (try simp [k_cntF, k_cntS] at c_6; simp [k_cntF, k_cntS, c_6]; done) | rfl) _ _ _ hP hD hS hl
theorem iX2_forget_X2 : ∀ w ∈ u_ws RX2 TX2 3, w ∈ wsX2_forget := by decide +kernel
theorem mX2_forget_1 : Cond.fieldLink RX2 7 "ChamberPacer$Follower" "fast" "I" ∈ wsX2_forget := by decide +kernel
theorem mX2_forget_2 : Cond.fieldLink RX2 13 "ChamberPacer$Follower" "slow" "I" ∈ wsX2_forget := by decide +kernel
theorem mX2_forget_3 : Cond.fieldLink RX2 16 "ChamberPacer$Follower" "gaveUp" "Z" ∈ wsX2_forget := by decide +kernel
abbrev rmX2_forget : Room := { frames := 0, cells := 0, slots := 0, locals := 0 }
abbrev QfX2_forget (G : va_G) (cA cB : ClassId) (h0 : Nat) (F : tFo) : (Nat → Prop) → Array Value → State → Outcome → State → Prop := fun A => va_Qv (fun u : tFo => u = k_forget F) (zz_B G vwCl (fun u : tFo => (wFo h0 cA cB u)) A) A
set_option maxHeartbeats 1000000 in
set_option maxRecDepth 100000 in
theorem kX2_forget (l : Launch) (G : va_G) (cA cB : ClassId) (tb : Nat × Nat × Nat) (h0 : Nat) (sz : Nat) (F : tFo) : Met l yX2_forget wsX2_forget rmX2_forget (zz_P (zS tb) G vwCl [(cA, .int), (cB, .boolean)] [.ref h0] (wFo h0 cA cB F) sz) (QfX2_forget G cA cB h0 F (va_A (wFo h0 cA cB F) sz)) 0 0 (va_A (wFo h0 cA cB F) sz) := by
  refine zz_Met (cc := cX2_forget) (maxL := 1) (ret := none) (Qf := QfX2_forget G cA cB h0 F) (by decide) rfl (Nat.le_of_ble_eq_true rfl) ?_
  intro p e s m below meth c A ls hx hb hr hts hown hlocks hin hml hA hP hK hD hz hS hl
  have hl : lv_has ls 1 [(0, .ref h0)] := hl
  have hP : va_P G vwCl [(h0, .inr (2, [.int F.1, .int F.2.1, .int (bI F.2.2)]))] s.heap := hP
  have hD : va_D A [(h0, .inr (2, [.int F.1, .int F.2.1, .int (bI F.2.2)]))] := hD
  refine lv_aload_n hx hb dX2_forget_0 rfl (lv_at hl 0 rfl) ?_
  refine lv_iconst (v := 0) hx hb dX2_forget_1 (by decide) ?_
  refine va_put (D := G) (ci := 2) (v := .int 0) (ty := .int) (C := RX2) (T := TX2) (N := 3) hx hb hts iX2_forget_X2 tyX2 tyX2_ok nmX2 hown hK hP hD hS 0 rfl rfl 0 (by decide) (hts _ mX2_forget_1) (fun _ h9 => h9) rfl (by decide +kernel) rfl rfl (Nat.le_of_ble_eq_true rfl) dX2_forget_2 (fun H locs hP hD hS => ?_)
  have hP : va_P G vwCl [(h0, .inr (2, [.int 0, .int F.2.1, .int (bI F.2.2)]))] H := hP
  have hD : va_D A [(h0, .inr (2, [.int 0, .int F.2.1, .int (bI F.2.2)]))] := hD
  refine lv_aload_n hx hb dX2_forget_5 rfl (lv_at hl 0 rfl) ?_
  refine lv_iconst (v := 0) hx hb dX2_forget_6 (by decide) ?_
  refine va_put (D := G) (ci := 2) (v := .int 0) (ty := .int) (C := RX2) (T := TX2) (N := 3) hx hb hts iX2_forget_X2 tyX2 tyX2_ok nmX2 hown hK hP hD hS 0 rfl rfl 1 (by decide) (hts _ mX2_forget_2) (fun _ h9 => h9) rfl (by decide +kernel) rfl rfl (Nat.le_of_ble_eq_true rfl) dX2_forget_7 (fun H locs hP hD hS => ?_)
  have hP : va_P G vwCl [(h0, .inr (2, [.int 0, .int 0, .int (bI F.2.2)]))] H := hP
  have hD : va_D A [(h0, .inr (2, [.int 0, .int 0, .int (bI F.2.2)]))] := hD
  refine lv_aload_n hx hb dX2_forget_10 rfl (lv_at hl 0 rfl) ?_
  refine lv_iconst (v := 0) hx hb dX2_forget_11 (by decide) ?_
  refine va_put (D := G) (ci := 2) (v := .int 0) (ty := .boolean) (C := RX2) (T := TX2) (N := 3) hx hb hts iX2_forget_X2 tyX2 tyX2_ok nmX2 hown hK hP hD hS 0 rfl rfl 2 (by decide) (hts _ mX2_forget_3) (fun _ h9 => h9) rfl (by decide +kernel) rfl rfl (Nat.le_of_ble_eq_true rfl) dX2_forget_12 (fun H locs hP hD hS => ?_)
  have hP : va_P G vwCl [(h0, .inr (2, [.int 0, .int 0, .int (bI false)]))] H := hP
  have hD : va_D A [(h0, .inr (2, [.int 0, .int 0, .int (bI false)]))] := hD
  exact zz_rv ((0, 0, false) : tFo) hx hb hr hlocks hS hP hD (by first | rfl | (rfl) | (simp [])) dX2_forget_15
theorem iX5_adapt_X5 : ∀ w ∈ u_ws RX5 TX5 3, w ∈ wsX5_adapt := by decide +kernel
theorem mX5_adapt_1 : Cond.fieldLink RX5 11 "ChamberPacer$Pace" "level" "I" ∈ wsX5_adapt := by decide +kernel
abbrev rmX5_adapt : Room := { frames := 0, cells := 0, slots := 0, locals := 0 }
abbrev QfX5_adapt (G : va_G) (cA cB : ClassId) (h0 : Nat) (P : tPa) (a : Int32) : (Nat → Prop) → Array Value → State → Outcome → State → Prop := fun A => va_Qv (fun u : tPa => u = k_adapt a P) (zz_B G vwCl (fun u : tPa => (wPa h0 cA cB u)) A) A
set_option maxHeartbeats 1000000 in
set_option maxRecDepth 100000 in
theorem kX5_adapt (l : Launch) (G : va_G) (cA cB : ClassId) (tb : Nat × Nat × Nat) (h0 : Nat) (sz : Nat) (P : tPa) (a : Int32) : Met l yX5_adapt wsX5_adapt rmX5_adapt (zz_P (zS tb) G vwCl [(cA, .int), (cB, .boolean)] [.ref h0, .int a] (wPa h0 cA cB P) sz) (QfX5_adapt G cA cB h0 P a (va_A (wPa h0 cA cB P) sz)) 0 0 (va_A (wPa h0 cA cB P) sz) := by
  refine zz_Met (cc := cX5_adapt) (maxL := 3) (ret := none) (Qf := QfX5_adapt G cA cB h0 P a) (by decide) rfl (Nat.le_of_ble_eq_true rfl) ?_
  intro p e s m below meth c A ls hx hb hr hts hown hlocks hin hml hA hP hK hD hz hS hl
  have hl : lv_has ls 3 [(0, .ref h0), (1, .int a)] := hl
  have hP : va_P G vwCl [(h0, .inr (5, [.int P.1, .int P.2.1, .int P.2.2]))] s.heap := hP
  have hD : va_D A [(h0, .inr (5, [.int P.1, .int P.2.1, .int P.2.2]))] := hD
  refine lv_bipush (v := 16) hx hb dX5_adapt_0 (by decide) ?_
  refine lv_iload_n hx hb dX5_adapt_2 rfl (lv_at hl 1 rfl) ?_
  refine lv_imul hx hb dX5_adapt_3 ?_
  refine lv_istore_n (lv' := [(2, .int (16 * a)), (0, .ref h0), (1, .int a)]) hx hb dX5_adapt_4 rfl hl (by decide) rfl (fun ls hl => ?_)
  refine lv_iload_n hx hb dX5_adapt_5 rfl (lv_at hl 0 rfl) ?_
  refine lv_aload_n hx hb dX5_adapt_6 rfl (lv_at hl 1 rfl) ?_
  refine va_get (D := G) (ci := 5) (v := .int P.1) (C := RX5) (T := TX5) (N := 3) hx hb hts iX5_adapt_X5 hown hK hP 0 rfl rfl 0 (by decide) (hts _ mX5_adapt_1) (fun _ h9 => h9) rfl dX5_adapt_7 ?_
  refine lv_icmp_le (tgt := 34) hx hb dX5_adapt_10 (by decide) (fun c_1 => ?_) (fun c_1 => ?_)
  · have c_1 := zle_t c_1
    refine lv_aload_n hx hb dX5_adapt_34 rfl (lv_at hl 1 rfl) ?_
    refine lv_dup hx hb dX5_adapt_35 rfl ?_
    refine va_get (D := G) (ci := 5) (v := .int P.1) (C := RX5) (T := TX5) (N := 3) hx hb hts iX5_adapt_X5 hown hK hP 0 rfl rfl 0 (by decide) (hts _ mX5_adapt_1) (fun _ h9 => h9) rfl dX5_adapt_36 ?_
    refine lv_aload_n hx hb dX5_adapt_39 rfl (lv_at hl 1 rfl) ?_
    refine va_get (D := G) (ci := 5) (v := .int P.1) (C := RX5) (T := TX5) (N := 3) hx hb hts iX5_adapt_X5 hown hK hP 0 rfl rfl 0 (by decide) (hts _ mX5_adapt_1) (fun _ h9 => h9) rfl dX5_adapt_40 ?_
    refine lv_iload_n hx hb dX5_adapt_43 rfl (lv_at hl 0 rfl) ?_
    refine lv_isub hx hb dX5_adapt_44 ?_
    refine lv_bipush (v := 32) hx hb dX5_adapt_45 (by decide) ?_
    refine lv_idiv hx hb dX5_adapt_47 (by decide) ?_
    refine lv_isub hx hb dX5_adapt_48 ?_
    refine va_put (D := G) (ci := 5) (v := .int (P.1 - ((P.1 - (16 * a)) / 32))) (ty := .int) (C := RX5) (T := TX5) (N := 3) hx hb hts iX5_adapt_X5 tyX5 tyX5_ok nmX5 hown hK hP hD hS 0 rfl rfl 0 (by decide) (hts _ mX5_adapt_1) (fun _ h9 => h9) rfl (by decide +kernel) rfl rfl (Nat.le_of_ble_eq_true rfl) dX5_adapt_49 (fun H locs hP hD hS => ?_)
    have hP : va_P G vwCl [(h0, .inr (5, [.int (P.1 - ((P.1 - (16 * a)) / 32)), .int P.2.1, .int P.2.2]))] H := hP
    have hD : va_D A [(h0, .inr (5, [.int (P.1 - ((P.1 - (16 * a)) / 32)), .int P.2.1, .int P.2.2]))] := hD
    exact zz_rv (((P.1 - ((P.1 - (16 * a)) / 32)), P.2.1, P.2.2) : tPa) hx hb hr hlocks hS hP hD (by first | (simp [k_adapt, c_1]; done) | (symm; (first | refine (if_pos c_1).trans ?_ | refine (if_neg c_1).trans ?_ | refine (if_fb c_1).trans ?_ | skip); rfl) | (try simp [k_adapt] at c_1; simp [k_adapt, c_1]; done) | rfl) dX5_adapt_52
  · have c_1 := zle_f c_1
    refine lv_aload_n hx hb dX5_adapt_13 rfl (lv_at hl 1 rfl) ?_
    refine lv_dup hx hb dX5_adapt_14 rfl ?_
    refine va_get (D := G) (ci := 5) (v := .int P.1) (C := RX5) (T := TX5) (N := 3) hx hb hts iX5_adapt_X5 hown hK hP 0 rfl rfl 0 (by decide) (hts _ mX5_adapt_1) (fun _ h9 => h9) rfl dX5_adapt_15 ?_
    refine lv_iload_n hx hb dX5_adapt_18 rfl (lv_at hl 0 rfl) ?_
    refine lv_aload_n hx hb dX5_adapt_19 rfl (lv_at hl 1 rfl) ?_
    refine va_get (D := G) (ci := 5) (v := .int P.1) (C := RX5) (T := TX5) (N := 3) hx hb hts iX5_adapt_X5 hown hK hP 0 rfl rfl 0 (by decide) (hts _ mX5_adapt_1) (fun _ h9 => h9) rfl dX5_adapt_20 ?_
    refine lv_isub hx hb dX5_adapt_23 ?_
    refine lv_bipush (v := 8) hx hb dX5_adapt_24 (by decide) ?_
    refine lv_idiv hx hb dX5_adapt_26 (by decide) ?_
    refine lv_iadd hx hb dX5_adapt_27 ?_
    refine va_put (D := G) (ci := 5) (v := .int (P.1 + (((16 * a) - P.1) / 8))) (ty := .int) (C := RX5) (T := TX5) (N := 3) hx hb hts iX5_adapt_X5 tyX5 tyX5_ok nmX5 hown hK hP hD hS 0 rfl rfl 0 (by decide) (hts _ mX5_adapt_1) (fun _ h9 => h9) rfl (by decide +kernel) rfl rfl (Nat.le_of_ble_eq_true rfl) dX5_adapt_28 (fun H locs hP hD hS => ?_)
    have hP : va_P G vwCl [(h0, .inr (5, [.int (P.1 + (((16 * a) - P.1) / 8)), .int P.2.1, .int P.2.2]))] H := hP
    have hD : va_D A [(h0, .inr (5, [.int (P.1 + (((16 * a) - P.1) / 8)), .int P.2.1, .int P.2.2]))] := hD
    refine lv_goto (tgt := 52) hx hb dX5_adapt_31 (by decide) ?_
    exact zz_rv (((P.1 + (((16 * a) - P.1) / 8)), P.2.1, P.2.2) : tPa) hx hb hr hlocks hS hP hD (by first | (simp [k_adapt, c_1]; done) | (symm; (first | refine (if_pos c_1).trans ?_ | refine (if_neg c_1).trans ?_ | refine (if_fb c_1).trans ?_ | skip); rfl) | (try simp [k_adapt] at c_1; simp [k_adapt, c_1]; done) | rfl) dX5_adapt_52
theorem iX5_approach_X5 : ∀ w ∈ u_ws RX5 TX5 3, w ∈ wsX5_approach := by decide +kernel
theorem mX5_approach_1 : Cond.fieldLink RX5 11 "ChamberPacer$Pace" "level" "I" ∈ wsX5_approach := by decide +kernel
theorem mX5_approach_2 : Cond.fieldLink RX5 15 "ChamberPacer$Pace" "interval" "I" ∈ wsX5_approach := by decide +kernel
theorem mX5_approach_4 : Cond.initialized RX8 ∈ wsX5_approach := by decide +kernel
theorem mX5_approach_3 : Cond.static yX8_nearest ∈ wsX5_approach := by decide +kernel
abbrev rmX5_approach : Room := { frames := 1, cells := 0, slots := 0, locals := 22 }
abbrev QfX5_approach (G : va_G) (cA cB : ClassId) (h0 : Nat) (P : tPa) (lo : Int32) (fa : Int32) : (Nat → Prop) → Array Value → State → Outcome → State → Prop := fun A => va_Qv (fun u : tPa => u = k_appr lo fa P) (zz_B G vwCl (fun u : tPa => (wPa h0 cA cB u)) A) A
set_option maxHeartbeats 1000000 in
set_option maxRecDepth 100000 in
theorem kX5_approach (l : Launch) (G : va_G) (cA cB : ClassId) (tb : Nat × Nat × Nat) (h0 : Nat) (sz : Nat) (P : tPa) (lo : Int32) (fa : Int32) : Met l yX5_approach wsX5_approach rmX5_approach (zz_P (zS tb) G vwCl [(cA, .int), (cB, .boolean)] [.ref h0, .int lo, .int fa] (wPa h0 cA cB P) sz) (QfX5_approach G cA cB h0 P lo fa (va_A (wPa h0 cA cB P) sz)) 0 0 (va_A (wPa h0 cA cB P) sz) := by
  refine zz_Met (cc := cX5_approach) (maxL := 4) (ret := none) (Qf := QfX5_approach G cA cB h0 P lo fa) (by decide) rfl (Nat.le_of_ble_eq_true rfl) ?_
  intro p e s m below meth c A ls hx hb hr hts hown hlocks hin hml hA hP hK hD hz hS hl
  have hl : lv_has ls 4 [(0, .ref h0), (1, .int lo), (2, .int fa)] := hl
  have hP : va_P G vwCl [(h0, .inr (5, [.int P.1, .int P.2.1, .int P.2.2]))] s.heap := hP
  have hD : va_D A [(h0, .inr (5, [.int P.1, .int P.2.1, .int P.2.2]))] := hD
  refine lv_iload_n hx hb dX5_approach_0 rfl (lv_at hl 1 rfl) ?_
  refine lv_iload_n hx hb dX5_approach_1 rfl (lv_at hl 1 rfl) ?_
  refine lv_iload_n hx hb dX5_approach_2 rfl (lv_at hl 2 rfl) ?_
  refine lv_isub hx hb dX5_approach_3 ?_
  refine lv_aload_n hx hb dX5_approach_4 rfl (lv_at hl 0 rfl) ?_
  refine va_get (D := G) (ci := 5) (v := .int P.1) (C := RX5) (T := TX5) (N := 3) hx hb hts iX5_approach_X5 hown hK hP 0 rfl rfl 0 (by decide) (hts _ mX5_approach_1) (fun _ h9 => h9) rfl dX5_approach_5 ?_
  refine lv_imul hx hb dX5_approach_8 ?_
  refine lv_sipush (v := 4080) hx hb dX5_approach_9 (by decide) ?_
  refine lv_idiv hx hb dX5_approach_12 (by decide) ?_
  refine lv_isub hx hb dX5_approach_13 ?_
  refine lv_istore_n (lv' := [(3, .int (lo - (((lo - fa) * P.1) / 4080))), (0, .ref h0), (1, .int lo), (2, .int fa)]) hx hb dX5_approach_14 rfl hl (by decide) rfl (fun ls hl => ?_)
  refine lv_aload_n hx hb dX5_approach_15 rfl (lv_at hl 1 rfl) ?_
  refine lv_dup hx hb dX5_approach_16 rfl ?_
  refine va_get (D := G) (ci := 5) (v := .int P.2.1) (C := RX5) (T := TX5) (N := 3) hx hb hts iX5_approach_X5 hown hK hP 0 rfl rfl 1 (by decide) (hts _ mX5_approach_2) (fun _ h9 => h9) rfl dX5_approach_17 ?_
  refine lv_iload_n hx hb dX5_approach_20 rfl (lv_at hl 0 rfl) ?_
  refine lv_aload_n hx hb dX5_approach_21 rfl (lv_at hl 1 rfl) ?_
  refine va_get (D := G) (ci := 5) (v := .int P.2.1) (C := RX5) (T := TX5) (N := 3) hx hb hts iX5_approach_X5 hown hK hP 0 rfl rfl 1 (by decide) (hts _ mX5_approach_2) (fun _ h9 => h9) rfl dX5_approach_22 ?_
  refine lv_isub hx hb dX5_approach_25 ?_
  refine lv_bipush (v := (-4)) hx hb dX5_approach_26 (by decide) ?_
  refine lv_iconst (v := 4) hx hb dX5_approach_28 (by decide) ?_
  refine zz_ci (wr := [(h0, .inr (5, [.int P.1, .int P.2.1, .int P.2.2]))]) (va_runSN (As := [.int ((lo - (((lo - fa) * P.1) / 4080)) - P.2.1), .int (-4), .int 4]) (rest := [.int P.2.1, .ref h0]) ⟨hx, hb, hml, hown, hts⟩ (kX8_nearest l G cA cB tb s.heap.size ((lo - (((lo - fa) * P.1) / 4080)) - P.2.1) (-4) 4) ⟨va_cnB 3 hts gX5_approach_X8_nearest_n21 rfl rfl rfl hz.2.2.2.2.2.2.2.1 (hts _ mX5_approach_4) (by decide +kernel) ⟨Nat.le_of_ble_eq_true rfl, Nat.le_of_ble_eq_true rfl⟩, (hts _ mX5_approach_3), trivial⟩ (zz_preS zS_ok hK hP hD hS hA hz [] rfl (by decide)) rfl rfl hl.1 rfl (lv_room (Nat.le_of_ble_eq_true rfl)) dX5_approach_29 ⟨Nat.zero_le _, Nat.zero_le _⟩) hP hD hS hA [] [0] rfl rfl (by decide) (by decide) (fun r u H locs hw hP hD hS => ?_)
  have hw := hw.symm; subst hw
  have hP : va_P G vwCl [(h0, .inr (5, [.int P.1, .int P.2.1, .int P.2.2]))] H := hP
  have hD : va_D A [(h0, .inr (5, [.int P.1, .int P.2.1, .int P.2.2]))] := hD
  refine lv_iadd hx hb dX5_approach_32 ?_
  refine va_put (D := G) (ci := 5) (v := .int (P.2.1 + (k_near ((lo - (((lo - fa) * P.1) / 4080)) - P.2.1) (-4) 4))) (ty := .int) (C := RX5) (T := TX5) (N := 3) hx hb hts iX5_approach_X5 tyX5 tyX5_ok nmX5 hown hK hP hD hS 0 rfl rfl 1 (by decide) (hts _ mX5_approach_2) (fun _ h9 => h9) rfl (by decide +kernel) rfl rfl (Nat.le_of_ble_eq_true rfl) dX5_approach_33 (fun H locs hP hD hS => ?_)
  have hP : va_P G vwCl [(h0, .inr (5, [.int P.1, .int (P.2.1 + (k_near ((lo - (((lo - fa) * P.1) / 4080)) - P.2.1) (-4) 4)), .int P.2.2]))] H := hP
  have hD : va_D A [(h0, .inr (5, [.int P.1, .int (P.2.1 + (k_near ((lo - (((lo - fa) * P.1) / 4080)) - P.2.1) (-4) 4)), .int P.2.2]))] := hD
  exact zz_rv ((P.1, (P.2.1 + (k_near ((lo - (((lo - fa) * P.1) / 4080)) - P.2.1) (-4) 4)), P.2.2) : tPa) hx hb hr hlocks hS hP hD (by first | rfl | (rfl) | (simp [])) dX5_approach_36
theorem iX5_beginCycle_X5 : ∀ w ∈ u_ws RX5 TX5 3, w ∈ wsX5_beginCycle := by decide +kernel
theorem mX5_beginCycle_6 : Cond.fieldLink RX5 18 "ChamberPacer$Pace" "longest" "I" ∈ wsX5_beginCycle := by decide +kernel
theorem mX5_beginCycle_1 : Cond.fieldLink RX5 15 "ChamberPacer$Pace" "interval" "I" ∈ wsX5_beginCycle := by decide +kernel
theorem mX5_beginCycle_2 : Cond.methodLink RX5 25 Lib.Math.min.name ∈ wsX5_beginCycle := by decide +kernel
theorem mX5_beginCycle_3 : Cond.static Lib.Math.min.name ∈ wsX5_beginCycle := by decide +kernel
theorem mX5_beginCycle_4 : Cond.initialized "java/lang/Math" ∈ wsX5_beginCycle := by decide +kernel
theorem mX5_beginCycle_5 : Cond.code Lib.Math.min.name Lib.Math.min.code 2 (some .int) ∈ wsX5_beginCycle := by decide +kernel
abbrev rmX5_beginCycle : Room := { frames := 1, cells := 0, slots := 0, locals := 14 }
abbrev QfX5_beginCycle (G : va_G) (cA cB : ClassId) (h0 : Nat) (P : tPa) (sl : Int32) (b : Bool) : (Nat → Prop) → Array Value → State → Outcome → State → Prop := fun A => va_Qv (fun u : tPa => u = k_begin sl b P) (zz_B G vwCl (fun u : tPa => (wPa h0 cA cB u)) A) A
set_option maxHeartbeats 1000000 in
set_option maxRecDepth 100000 in
theorem kX5_beginCycle (l : Launch) (G : va_G) (cA cB : ClassId) (tb : Nat × Nat × Nat) (h0 : Nat) (sz : Nat) (P : tPa) (sl : Int32) (b : Bool) : Met l yX5_beginCycle wsX5_beginCycle rmX5_beginCycle (zz_P (zS tb) G vwCl [(cA, .int), (cB, .boolean)] [.ref h0, .int sl, .int (bI b)] (wPa h0 cA cB P) sz) (QfX5_beginCycle G cA cB h0 P sl b (va_A (wPa h0 cA cB P) sz)) 0 0 (va_A (wPa h0 cA cB P) sz) := by
  cases b
  · refine zz_Met (cc := cX5_beginCycle) (maxL := 3) (ret := none) (Qf := QfX5_beginCycle G cA cB h0 P sl false) (by decide) rfl (Nat.le_of_ble_eq_true rfl) ?_
    intro p e s m below meth c A ls hx hb hr hts hown hlocks hin hml hA hP hK hD hz hS hl
    have hl : lv_has ls 3 [(0, .ref h0), (1, .int sl), (2, .int (bI false))] := hl
    have hP : va_P G vwCl [(h0, .inr (5, [.int P.1, .int P.2.1, .int P.2.2]))] s.heap := hP
    have hD : va_D A [(h0, .inr (5, [.int P.1, .int P.2.1, .int P.2.2]))] := hD
    refine lv_aload_n hx hb dX5_beginCycle_0 rfl (lv_at hl 0 rfl) ?_
    refine lv_iload_n hx hb dX5_beginCycle_1 rfl (lv_at hl 2 rfl) ?_
    refine lv_if_eq (tgt := 16) hx hb dX5_beginCycle_2 (by decide) (fun _ => ?_) (fun c => absurd (by decide) c)
    refine lv_iload_n hx hb dX5_beginCycle_16 rfl (lv_at hl 1 rfl) ?_
    refine va_put (D := G) (ci := 5) (v := .int sl) (ty := .int) (C := RX5) (T := TX5) (N := 3) hx hb hts iX5_beginCycle_X5 tyX5 tyX5_ok nmX5 hown hK hP hD hS 0 rfl rfl 2 (by decide) (hts _ mX5_beginCycle_6) (fun _ h9 => h9) rfl (by decide +kernel) rfl rfl (Nat.le_of_ble_eq_true rfl) dX5_beginCycle_17 (fun H locs hP hD hS => ?_)
    have hP : va_P G vwCl [(h0, .inr (5, [.int P.1, .int P.2.1, .int sl]))] H := hP
    have hD : va_D A [(h0, .inr (5, [.int P.1, .int P.2.1, .int sl]))] := hD
    exact zz_rv ((P.1, P.2.1, sl) : tPa) hx hb hr hlocks hS hP hD (by first | rfl | (rfl) | (simp [])) dX5_beginCycle_20
  · refine zz_Met (cc := cX5_beginCycle) (maxL := 3) (ret := none) (Qf := QfX5_beginCycle G cA cB h0 P sl true) (by decide) rfl (Nat.le_of_ble_eq_true rfl) ?_
    intro p e s m below meth c A ls hx hb hr hts hown hlocks hin hml hA hP hK hD hz hS hl
    have hl : lv_has ls 3 [(0, .ref h0), (1, .int sl), (2, .int (bI true))] := hl
    have hP : va_P G vwCl [(h0, .inr (5, [.int P.1, .int P.2.1, .int P.2.2]))] s.heap := hP
    have hD : va_D A [(h0, .inr (5, [.int P.1, .int P.2.1, .int P.2.2]))] := hD
    refine lv_aload_n hx hb dX5_beginCycle_0 rfl (lv_at hl 0 rfl) ?_
    refine lv_iload_n hx hb dX5_beginCycle_1 rfl (lv_at hl 2 rfl) ?_
    refine lv_if_eq (tgt := 16) hx hb dX5_beginCycle_2 (by decide) (fun c => absurd c (by decide)) (fun _ => ?_)
    refine lv_iload_n hx hb dX5_beginCycle_5 rfl (lv_at hl 1 rfl) ?_
    refine lv_aload_n hx hb dX5_beginCycle_6 rfl (lv_at hl 0 rfl) ?_
    refine va_get (D := G) (ci := 5) (v := .int P.2.1) (C := RX5) (T := TX5) (N := 3) hx hb hts iX5_beginCycle_X5 hown hK hP 0 rfl rfl 1 (by decide) (hts _ mX5_beginCycle_1) (fun _ h9 => h9) rfl dX5_beginCycle_7 ?_
    refine va_mmin hx hb (hml.trans hl.1.symm) hown (hts _ mX5_beginCycle_2) (hts _ mX5_beginCycle_3) (hts _ mX5_beginCycle_4) (hts _ mX5_beginCycle_5) (Nat.le_of_ble_eq_true rfl) (Nat.le_of_ble_eq_true rfl) (Nat.zero_le _) (Nat.zero_le _) dX5_beginCycle_10 ?_
    refine zz_topi (zmin_e _ _) ?_
    refine lv_goto (tgt := 17) hx hb dX5_beginCycle_13 (by decide) ?_
    refine va_put (D := G) (ci := 5) (v := .int (zmin sl P.2.1)) (ty := .int) (C := RX5) (T := TX5) (N := 3) hx hb hts iX5_beginCycle_X5 tyX5 tyX5_ok nmX5 hown hK hP hD hS 0 rfl rfl 2 (by decide) (hts _ mX5_beginCycle_6) (fun _ h9 => h9) rfl (by decide +kernel) rfl rfl (Nat.le_of_ble_eq_true rfl) dX5_beginCycle_17 (fun H locs hP hD hS => ?_)
    have hP : va_P G vwCl [(h0, .inr (5, [.int P.1, .int P.2.1, .int (zmin sl P.2.1)]))] H := hP
    have hD : va_D A [(h0, .inr (5, [.int P.1, .int P.2.1, .int (zmin sl P.2.1)]))] := hD
    exact zz_rv ((P.1, P.2.1, (zmin sl P.2.1)) : tPa) hx hb hr hlocks hS hP hD (by first | rfl | (rfl) | (simp [])) dX5_beginCycle_20
theorem iX1_end_X1 : ∀ w ∈ u_ws RX1 TX1 2, w ∈ wsX1_end := by decide +kernel
theorem mX1_end_1 : Cond.fieldLink RX1 11 "ChamberPacer$Cycles" "bins" "[I" ∈ wsX1_end := by decide +kernel
theorem mX1_end_2 : Cond.fieldLink RX1 15 "ChamberPacer$Cycles" "begun" "I" ∈ wsX1_end := by decide +kernel
theorem mX1_end_4 : Cond.initialized RX8 ∈ wsX1_end := by decide +kernel
theorem mX1_end_3 : Cond.static yX8_nearest ∈ wsX1_end := by decide +kernel
abbrev rmX1_end : Room := { frames := 1, cells := 0, slots := 0, locals := 22 }
abbrev QfX1_end (G : va_G) (cA cB : ClassId) (h0 h1 : Nat) (Y : tCy) (t : Int32) : (Nat → Prop) → Array Value → State → Outcome → State → Prop := fun A => va_Qv (fun u : tCy => u = k_end t Y) (zz_B G vwCl (fun u : tCy => (wCy h0 h1 cA cB u)) A) A
set_option maxHeartbeats 1000000 in
set_option maxRecDepth 100000 in
theorem kX1_end (l : Launch) (G : va_G) (cA cB : ClassId) (tb : Nat × Nat × Nat) (h0 h1 : Nat) (sz : Nat) (Y : tCy) (t : Int32) : Met l yX1_end wsX1_end rmX1_end (zz_P (zS tb) G vwCl [(cA, .int), (cB, .boolean)] [.ref h0, .int t] (wCy h0 h1 cA cB Y) sz) (QfX1_end G cA cB h0 h1 Y t (va_A (wCy h0 h1 cA cB Y) sz)) 0 0 (va_A (wCy h0 h1 cA cB Y) sz) := by
  refine zz_Met (cc := cX1_end) (maxL := 2) (ret := none) (Qf := QfX1_end G cA cB h0 h1 Y t) (by decide) rfl (Nat.le_of_ble_eq_true rfl) ?_
  intro p e s m below meth c A ls hx hb hr hts hown hlocks hin hml hA hP hK hD hz hS hl
  have hl : lv_has ls 2 [(0, .ref h0), (1, .int t)] := hl
  have hP : va_P G vwCl [(h0, .inr (1, [.ref h1, .int Y.2])), (h1, .inl (cA, 8, .inl Y.1))] s.heap := hP
  have hD : va_D A [(h0, .inr (1, [.ref h1, .int Y.2])), (h1, .inl (cA, 8, .inl Y.1))] := hD
  refine lv_aload_n hx hb dX1_end_0 rfl (lv_at hl 0 rfl) ?_
  refine va_get (D := G) (ci := 1) (v := .ref h1) (C := RX1) (T := TX1) (N := 2) hx hb hts iX1_end_X1 hown hK hP 0 rfl rfl 0 (by decide) (hts _ mX1_end_1) (fun _ h9 => h9) rfl dX1_end_1 ?_
  refine lv_iload_n hx hb dX1_end_4 rfl (lv_at hl 1 rfl) ?_
  refine lv_aload_n hx hb dX1_end_5 rfl (lv_at hl 0 rfl) ?_
  refine va_get (D := G) (ci := 1) (v := .int Y.2) (C := RX1) (T := TX1) (N := 2) hx hb hts iX1_end_X1 hown hK hP 0 rfl rfl 1 (by decide) (hts _ mX1_end_2) (fun _ h9 => h9) rfl dX1_end_6 ?_
  refine lv_isub hx hb dX1_end_9 ?_
  refine lv_bipush (v := 25) hx hb dX1_end_10 (by decide) ?_
  refine lv_idiv hx hb dX1_end_12 (by decide) ?_
  refine lv_iconst (v := 0) hx hb dX1_end_13 (by decide) ?_
  refine lv_bipush (v := 7) hx hb dX1_end_14 (by decide) ?_
  refine zz_ci (wr := [(h0, .inr (1, [.ref h1, .int Y.2])), (h1, .inl (cA, 8, .inl Y.1))]) (va_runSN (As := [.int ((t - Y.2) / 25), .int 0, .int 7]) (rest := [.ref h1]) ⟨hx, hb, hml, hown, hts⟩ (kX8_nearest l G cA cB tb s.heap.size ((t - Y.2) / 25) 0 7) ⟨va_cnB 3 hts gX1_end_X8_nearest_n19 rfl rfl rfl hz.2.2.2.2.2.2.1 (hts _ mX1_end_4) (by decide +kernel) ⟨Nat.le_of_ble_eq_true rfl, Nat.le_of_ble_eq_true rfl⟩, (hts _ mX1_end_3), trivial⟩ (zz_preS zS_ok hK hP hD hS hA hz [] rfl (by decide)) rfl rfl hl.1 rfl (lv_room (Nat.le_of_ble_eq_true rfl)) dX1_end_16 ⟨Nat.zero_le _, Nat.zero_le _⟩) hP hD hS hA [] [0, 1] rfl rfl (by decide) (by decide) (fun r u H locs hw hP hD hS => ?_)
  have hw := hw.symm; subst hw
  have hP : va_P G vwCl [(h0, .inr (1, [.ref h1, .int Y.2])), (h1, .inl (cA, 8, .inl Y.1))] H := hP
  have hD : va_D A [(h0, .inr (1, [.ref h1, .int Y.2])), (h1, .inl (cA, 8, .inl Y.1))] := hD
  refine lv_dup2_11 hx hb dX1_end_19 rfl rfl ?_
  refine zz_iald hx hb hK hP 1 0 ((k_near ((t - Y.2) / 25) 0 7).toNatClampNeg) rfl rfl rfl (vp_near7 _) dX1_end_20 ?_
  refine lv_iconst (v := 1) hx hb dX1_end_21 (by decide) ?_
  refine lv_iadd hx hb dX1_end_22 ?_
  refine zz_iast hx hb hK hP hD hS 1 0 ((k_near ((t - Y.2) / 25) 0 7).toNatClampNeg) rfl rfl rfl (vp_near7 _) dX1_end_23 (fun H locs hP hD hS => ?_)
  have hP : va_P G vwCl [(h0, .inr (1, [.ref h1, .int Y.2])), (h1, .inl (cA, 8, .inl (upd Y.1 ((k_near ((t - Y.2) / 25) 0 7).toNatClampNeg) ((Y.1 ((k_near ((t - Y.2) / 25) 0 7).toNatClampNeg)) + 1))))] H := hP
  have hD : va_D A [(h0, .inr (1, [.ref h1, .int Y.2])), (h1, .inl (cA, 8, .inl (upd Y.1 ((k_near ((t - Y.2) / 25) 0 7).toNatClampNeg) ((Y.1 ((k_near ((t - Y.2) / 25) 0 7).toNatClampNeg)) + 1))))] := hD
  refine lv_aload_n hx hb dX1_end_24 rfl (lv_at hl 0 rfl) ?_
  refine lv_iload_n hx hb dX1_end_25 rfl (lv_at hl 1 rfl) ?_
  refine va_put (D := G) (ci := 1) (v := .int t) (ty := .int) (C := RX1) (T := TX1) (N := 2) hx hb hts iX1_end_X1 tyX1 tyX1_ok nmX1 hown hK hP hD hS 0 rfl rfl 1 (by decide) (hts _ mX1_end_2) (fun _ h9 => h9) rfl (by decide +kernel) rfl rfl (Nat.le_of_ble_eq_true rfl) dX1_end_26 (fun H locs hP hD hS => ?_)
  have hP : va_P G vwCl [(h0, .inr (1, [.ref h1, .int t])), (h1, .inl (cA, 8, .inl (upd Y.1 ((k_near ((t - Y.2) / 25) 0 7).toNatClampNeg) ((Y.1 ((k_near ((t - Y.2) / 25) 0 7).toNatClampNeg)) + 1))))] H := hP
  have hD : va_D A [(h0, .inr (1, [.ref h1, .int t])), (h1, .inl (cA, 8, .inl (upd Y.1 ((k_near ((t - Y.2) / 25) 0 7).toNatClampNeg) ((Y.1 ((k_near ((t - Y.2) / 25) 0 7).toNatClampNeg)) + 1))))] := hD
  exact zz_rv (((upd Y.1 ((k_near ((t - Y.2) / 25) 0 7).toNatClampNeg) ((Y.1 ((k_near ((t - Y.2) / 25) 0 7).toNatClampNeg)) + 1)), t) : tCy) hx hb hr hlocks hS hP hD (by first | rfl | (rfl) | (simp [])) dX1_end_29
theorem iX1_inBin_X1 : ∀ w ∈ u_ws RX1 TX1 2, w ∈ wsX1_inBin := by decide +kernel
theorem mX1_inBin_1 : Cond.fieldLink RX1 11 "ChamberPacer$Cycles" "bins" "[I" ∈ wsX1_inBin := by decide +kernel
abbrev rmX1_inBin : Room := { frames := 0, cells := 0, slots := 0, locals := 0 }
abbrev QfX1_inBin (G : va_G) (cA cB : ClassId) (h0 h1 : Nat) (Y : tCy) (b : Int32) : (Nat → Prop) → Array Value → State → Outcome → State → Prop := fun A => va_Qi (fun (r : Int32) (u : Unit) => r = k_inBin Y b) (zz_B G vwCl (fun _ : Unit => (wCy h0 h1 cA cB Y)) A) A
set_option maxHeartbeats 1000000 in
set_option maxRecDepth 100000 in
theorem kX1_inBin (l : Launch) (G : va_G) (cA cB : ClassId) (tb : Nat × Nat × Nat) (h0 h1 : Nat) (sz : Nat) (Y : tCy) (b : Int32) : Met l yX1_inBin wsX1_inBin rmX1_inBin (zz_P (zS tb) G vwCl [(cA, .int), (cB, .boolean)] [.ref h0, .int b] (wCy h0 h1 cA cB Y) sz) (QfX1_inBin G cA cB h0 h1 Y b (va_A (wCy h0 h1 cA cB Y) sz)) 0 0 (va_A (wCy h0 h1 cA cB Y) sz) := by
  refine zz_Met (cc := cX1_inBin) (maxL := 2) (ret := (some .int)) (Qf := QfX1_inBin G cA cB h0 h1 Y b) (by decide) rfl (Nat.le_of_ble_eq_true rfl) ?_
  intro p e s m below meth c A ls hx hb hr hts hown hlocks hin hml hA hP hK hD hz hS hl
  have hl : lv_has ls 2 [(0, .ref h0), (1, .int b)] := hl
  have hP : va_P G vwCl [(h0, .inr (1, [.ref h1, .int Y.2])), (h1, .inl (cA, 8, .inl Y.1))] s.heap := hP
  have hD : va_D A [(h0, .inr (1, [.ref h1, .int Y.2])), (h1, .inl (cA, 8, .inl Y.1))] := hD
  refine lv_iload_n hx hb dX1_inBin_0 rfl (lv_at hl 1 rfl) ?_
  refine lv_if_lt (tgt := 19) hx hb dX1_inBin_1 (by decide) (fun c_1 => ?_) (fun c_1 => ?_)
  · have c_1 := zlt_t c_1
    refine lv_iconst (v := (-1)) hx hb dX1_inBin_19 (by decide) ?_
    exact zz_ri (v := (-1)) () hx hb hr hlocks hS hP hD (by first | (simp [k_inBin, c_1]; done) | (symm; (first | refine (if_pos c_1).trans ?_ | refine (if_neg c_1).trans ?_ | refine (if_fb c_1).trans ?_ | skip); rfl) | (try simp [k_inBin] at c_1; simp [k_inBin, c_1]; done) | rfl) dX1_inBin_20
  · have c_1 := zlt_f c_1
    refine lv_iload_n hx hb dX1_inBin_4 rfl (lv_at hl 1 rfl) ?_
    refine lv_bipush (v := 8) hx hb dX1_inBin_5 (by decide) ?_
    refine lv_icmp_ge (tgt := 19) hx hb dX1_inBin_7 (by decide) (fun c_2 => ?_) (fun c_2 => ?_)
    · have c_2 := zle_t c_2
      refine lv_iconst (v := (-1)) hx hb dX1_inBin_19 (by decide) ?_
      exact zz_ri (v := (-1)) () hx hb hr hlocks hS hP hD (by first | (simp [k_inBin, c_1, c_2]; done) | (symm; (first | refine (if_pos c_1).trans ?_ | refine (if_neg c_1).trans ?_ | refine (if_fb c_1).trans ?_ | skip); (first | refine (if_pos c_2).trans ?_ | refine (if_neg c_2).trans ?_ | refine (if_fb c_2).trans ?_ | skip); rfl) | (try simp [k_inBin] at c_1; try simp [k_inBin] at c_2; simp [k_inBin, c_1, c_2]; done) | rfl) dX1_inBin_20
    · have c_2 := zle_f c_2
      refine lv_aload_n hx hb dX1_inBin_10 rfl (lv_at hl 0 rfl) ?_
      refine va_get (D := G) (ci := 1) (v := .ref h1) (C := RX1) (T := TX1) (N := 2) hx hb hts iX1_inBin_X1 hown hK hP 0 rfl rfl 0 (by decide) (hts _ mX1_inBin_1) (fun _ h9 => h9) rfl dX1_inBin_11 ?_
      refine lv_iload_n hx hb dX1_inBin_14 rfl (lv_at hl 1 rfl) ?_
      refine zz_iald hx hb hK hP 1 0 b.toNatClampNeg rfl rfl rfl (vp_of (m := 8) (by decide) c_1 c_2) dX1_inBin_15 ?_
      refine lv_goto (tgt := 20) hx hb dX1_inBin_16 (by decide) ?_
      exact zz_ri (v := (Y.1 b.toNatClampNeg)) () hx hb hr hlocks hS hP hD (by first | (simp [k_inBin, c_1, c_2]; done) | (symm; (first | refine (if_pos c_1).trans ?_ | refine (if_neg c_1).trans ?_ | refine (if_fb c_1).trans ?_ | skip); (first | refine (if_pos c_2).trans ?_ | refine (if_neg c_2).trans ?_ | refine (if_fb c_2).trans ?_ | skip); rfl) | (try simp [k_inBin] at c_1; try simp [k_inBin] at c_2; simp [k_inBin, c_1, c_2]; done) | rfl) dX1_inBin_20

/-! Settings, Markers, Frame: rows on them -/
theorem vp_al {k a : Int32} (h : k_allows k a = true) : vp_in k 14 := by
  simp only [k_allows, Bool.and_eq_true] at h
  exact vp_ex h.1.1
theorem k_fillS (f : Nat → Int32) (n : Nat) (v : Int32) : upd (k_fill f n v) n v = k_fill f (n + 1) v := by
  funext j
  by_cases h : j = n
  · subst h; rw [pk_us]; simp [k_fill]
  · rw [pk_un h]
    unfold k_fill
    by_cases h2 : j < n
    · rw [if_pos h2, if_pos (by omega)]
    · rw [if_neg h2, if_neg (by omega)]
theorem k_fill0 (f : Nat → Int32) (v : Int32) : k_fill f 0 v = f := by funext j; simp [k_fill]
theorem k_pif0 (S : tSe) : (k_pifF S 0, k_pifA S 0) = S := by
  have a : k_pifF S 0 = S.1 := by funext j; simp [k_pifF]
  have b : k_pifA S 0 = S.2 := by funext j; simp [k_pifA]
  rw [a, b]
theorem k_pifS1 (S : tSe) (n : Nat) (h : zeq (k_pifA S n n) (-1) = true) : (k_pifF S n, k_pifA S n) = (k_pifF S (n + 1), k_pifA S (n + 1)) := by
  have h0 : S.2 n = -1 := by simpa [k_pifA] using zeq_p h
  have z0 : ¬ zeq (S.2 n) (-1) = false := by rw [zeq_t h0]; decide
  have z1 : zeq (S.2 n) (-1) = true := zeq_t h0
  have a : k_pifF S n = k_pifF S (n + 1) := by
    funext j
    unfold k_pifF
    by_cases hj : j = n
    · subst hj; rw [if_neg (by omega), if_neg (fun q => z0 q.2)]
    · by_cases h2 : j < n ∧ zeq (S.2 j) (-1) = false
      · rw [if_pos h2, if_pos ⟨by omega, h2.2⟩]
      · rw [if_neg h2, if_neg (fun q => h2 ⟨by omega, q.2⟩)]
  have b : k_pifA S n = k_pifA S (n + 1) := by
    funext j
    unfold k_pifA
    by_cases hj : j = n
    · subst hj; rw [if_neg (by omega), if_pos (by omega), h0]
    · by_cases h2 : j < n
      · rw [if_pos h2, if_pos (by omega)]
      · rw [if_neg h2, if_neg (by omega)]
  rw [a, b]
theorem k_pifS2 (S : tSe) (n : Nat) (h : zeq (k_pifA S n n) (-1) = false) : (upd (k_pifF S n) n (k_pifA S n n), upd (k_pifA S n) n (-1)) = (k_pifF S (n + 1), k_pifA S (n + 1)) := by
  have e0 : k_pifA S n n = S.2 n := by simp [k_pifA]
  have h0 : zeq (S.2 n) (-1) = false := by rw [← e0]; exact h
  have a : upd (k_pifF S n) n (k_pifA S n n) = k_pifF S (n + 1) := by
    funext j
    by_cases hj : j = n
    · subst hj; rw [pk_us, e0]; unfold k_pifF; rw [if_pos ⟨by omega, h0⟩]
    · rw [pk_un hj]
      unfold k_pifF
      by_cases h2 : j < n ∧ zeq (S.2 j) (-1) = false
      · rw [if_pos h2, if_pos ⟨by omega, h2.2⟩]
      · rw [if_neg h2, if_neg (fun q => h2 ⟨by omega, q.2⟩)]
  have b : upd (k_pifA S n) n (-1) = k_pifA S (n + 1) := by
    funext j
    by_cases hj : j = n
    · subst hj; rw [pk_us]; unfold k_pifA; rw [if_pos (by omega)]
    · rw [pk_un hj]
      unfold k_pifA
      by_cases h2 : j < n
      · rw [if_pos h2, if_pos (by omega)]
      · rw [if_neg h2, if_neg (by omega)]
  rw [a, b]
theorem k_anyS1 (S : tSe) (n : Nat) (h : zeq (k_pifA S n n) (-1) = true) : k_any S n = k_any S (n + 1) := by
  have h0 : S.2 n = -1 := by simpa [k_pifA] using zeq_p h
  have z0 : ¬ zeq (S.2 n) (-1) = false := by rw [zeq_t h0]; decide
  have z1 : zeq (S.2 n) (-1) = true := zeq_t h0
  show _ = if zeq (S.2 n) (-1) = true then k_any S n else true
  rw [if_pos z1]
theorem k_anyS2 (S : tSe) (n : Nat) (h : zeq (k_pifA S n n) (-1) = false) : true = k_any S (n + 1) := by
  have e0 : k_pifA S n n = S.2 n := by simp [k_pifA]
  rw [e0] at h
  show _ = if zeq (S.2 n) (-1) = true then k_any S n else true
  rw [if_fb h]
theorem nI_ge14 {k : Nat} (h : k < 14) : ¬ (14 : Int32) ≤ nI k := nI_ge (b := 14) h (by decide)
theorem nI_cl14 {k : Nat} (h : k < 14) : (nI k).toNatClampNeg = k := nI_clamp (by omega)
noncomputable def k_dstep (c : Int32) : Int32 := if zlt (2 * c) 256 = true then 2 * c else 2 * c ^^^ 263
noncomputable def k_divN (c : Int32) : Nat → Int32
  | 0 => c
  | n + 1 => k_dstep (k_divN c n)
theorem k_divE (c : Int32) : ∃ x : Int32, x = k_divN c 8 := ⟨_, rfl⟩
noncomputable def k_div (c : Int32) : Int32 := Classical.choose (k_divE c)
theorem k_div_eq (c : Int32) : k_div c = k_divN c 8 := Classical.choose_spec (k_divE c)
noncomputable def k_sumN (R : tFr) : Nat → Int32
  | 0 => 0
  | n + 1 => k_div (k_sumN R n ^^^ R.1 n)
noncomputable def k_sumOk (R : tFr) : Bool := zeq (k_sumN R 4) (R.1 4)
noncomputable def k_gets (b : Int32) (R : tFr) : tFr := if zlt R.2 0 = true then (R.1, if zeq b 126 = true then 0 else -1) else if zlt R.2 5 = true then (upd R.1 R.2.toNatClampNeg b, R.2 + 1) else (R.1, if zeq b 126 = true then 0 else -1)
noncomputable def k_ends (b : Int32) (R : tFr) : Bool := if zlt R.2 0 = true then false else if zlt R.2 5 = true then zeq (R.2 + 1) 5 else false
theorem kI_keep {kd t : Int32} {M : tMk} (h : kIM M) : kIM (k_keep kd t M) := by
  obtain ⟨h1, h2, h3⟩ := h
  obtain ⟨j, hj, e⟩ := vp_in_of h1 (by decide)
  refine ⟨?_, ?_, ?_⟩
  · show vp_in (k_rem (M.2.2.1 + 1) 12) 12
    unfold k_rem
    rw [e, nI_1, show (12 : Int32) = nI 12 from rfl, pk_rem (by omega) (by decide) (by decide)]
    exact vp_in_nI (Nat.mod_lt _ (by decide)) (by decide)
  · show 0 ≤ (if zle 12 M.2.2.2 = true then M.2.2.2 else M.2.2.2 + 1)
    obtain ⟨i, hi, ei⟩ := nI_of2 (M := 12) (n := 12) (by decide) (fun q => by rw [Int32.lt_iff_toInt_lt] at q; rw [Int32.le_iff_toInt_le] at h2; omega) h3
    split
    · exact h2
    · rw [ei, nI_1]; exact nI_pos' (by omega)
  · show (if zle 12 M.2.2.2 = true then M.2.2.2 else M.2.2.2 + 1) ≤ 12
    obtain ⟨i, hi, ei⟩ := nI_of2 (M := 12) (n := 12) (by decide) (fun q => by rw [Int32.lt_iff_toInt_lt] at q; rw [Int32.le_iff_toInt_le] at h2; omega) h3
    split
    · exact h3
    · rename_i hn
      have : i < 12 := by
        rcases Nat.lt_or_ge i 12 with q | q
        · exact q
        · exact absurd (zle_t (by rw [ei]; exact nI_le (a := 12) q (by omega))) hn
      rw [ei, nI_1]; exact nI_le (b := 12) (by omega) (by decide)
theorem vp_pl {M : tMk} {k : Int32} (h : kIM M) (hk : k_has M k = true) : vp_in (k_place M k) 12 := by
  obtain ⟨h1, h2, h3⟩ := h
  obtain ⟨j, hj, e⟩ := vp_in_of h1 (by decide)
  simp only [k_has, Bool.and_eq_true, Bool.not_eq_true'] at hk
  replace hk := And.intro (zlt_n hk.1) (zle_n hk.2)
  obtain ⟨i, hi, ei⟩ := nI_of2 (M := 12) (n := 12) (by decide) (fun q => by rw [Int32.lt_iff_toInt_lt] at q; rw [Int32.le_iff_toInt_le] at h2; omega) h3
  obtain ⟨a, ha, ea⟩ := nI_of hk.1
  have hai : a < i := by
    rcases Nat.lt_or_ge a i with q | q
    · exact q
    · exact absurd (by rw [ei, ea]; exact nI_le q (by omega)) hk.2
  unfold k_place k_rem
  have e2 : M.2.2.1 + 12 - 1 - k = nI (j + 12 - 1 - a) := by
    rw [e, ea, show (12 : Int32) = nI 12 from rfl, nI_add, show (1 : Int32) = nI 1 from rfl, pk_sub (by omega), pk_sub (by omega)]
  rw [e2, show (12 : Int32) = nI 12 from rfl, pk_rem (by omega) (by decide) (by decide)]
  exact vp_in_nI (Nat.mod_lt _ (by decide)) (by decide)
theorem zz_lt_le {x m : Int32} (h : zlt x m = true) : zle m x = false := by
  refine zle_f (fun q => ?_)
  replace h := zlt_p h
  rw [Int32.lt_iff_toInt_lt] at h
  rw [Int32.le_iff_toInt_le] at q
  omega

abbrev rmJ7_fill_53178 : Room := { frames := 0, cells := 0, slots := 0, locals := 0 }
abbrev QfJ7_fill_53178 (G : va_G) (cA cB : ClassId) (h0 : Nat) (f : (Nat → Int32)) (v : Int32) : (Nat → Prop) → Array Value → State → Outcome → State → Prop := fun A => va_Qv (fun u : (Nat → Int32) => u = k_fill f 14 v) (zz_B G vwCl (fun u : (Nat → Int32) => (wAr h0 cA cB u)) A) A
set_option maxHeartbeats 1000000 in
set_option maxRecDepth 100000 in
theorem kJ7_fill_53178 (l : Launch) (G : va_G) (cA cB : ClassId) (tb : Nat × Nat × Nat) (h0 : Nat) (sz : Nat) (f : (Nat → Int32)) (v : Int32) : Met l yJ7_fill_53178 wsJ7_fill_53178 rmJ7_fill_53178 (zz_P (zS tb) G vwCl [(cA, .int), (cB, .boolean)] [.ref h0, .int v] (wAr h0 cA cB f) sz) (QfJ7_fill_53178 G cA cB h0 f v (va_A (wAr h0 cA cB f) sz)) 0 0 (va_A (wAr h0 cA cB f) sz) := by
  refine zz_Met (cc := cJ7_fill_53178) (maxL := 4) (ret := none) (Qf := QfJ7_fill_53178 G cA cB h0 f v) (by decide) rfl (Nat.le_of_ble_eq_true rfl) ?_
  intro p e s m below meth c A ls hx hb hr hts hown hlocks hin hml hA hP hK hD hz hS hl
  have hl : lv_has ls 4 [(0, .ref h0), (1, .int v)] := hl
  have hP : va_P G vwCl [(h0, .inl (cA, 14, .inl f))] s.heap := hP
  have hD : va_D A [(h0, .inl (cA, 14, .inl f))] := hD
  refine lv_iconst (v := 0) hx hb dJ7_fill_53178_0 (by decide) ?_
  refine lv_istore_n (lv' := [(2, .int 0), (0, .ref h0), (1, .int v)]) hx hb dJ7_fill_53178_1 rfl hl (by decide) rfl (fun ls hl => ?_)
  refine lv_aload_n hx hb dJ7_fill_53178_2 rfl (lv_at hl 1 rfl) ?_
  refine va_alen hx hb hK hP 0 0 rfl rfl (v := 14) rfl dJ7_fill_53178_3 ?_
  refine lv_istore_n (lv' := [(3, .int 14), (2, .int 0), (0, .ref h0), (1, .int v)]) hx hb dJ7_fill_53178_4 rfl hl (by decide) rfl (fun ls hl => ?_)
  have L5_1 : ∀ (n k : Nat), k + n = 14 → ∀ (X_1 : (Nat → Int32)) (hX_1 : X_1 = k_fill f k v) (vi : Int32) (hvi : vi = nI k) (H : Heap) (locs : List Loc) (ls : Array Slot), va_P G vwCl [(h0, .inl (cA, 14, .inl X_1))] H → va_D A [(h0, .inl (cA, 14, .inl X_1))] → va_S A s.heap H locs → lv_has ls 4 [(2, .int vi), (3, .int 14), (0, .ref h0), (1, .int v)] → W p l e rmJ7_fill_53178 s m ([.ref h0, .int v] : List Value).toArray below meth c H locs 0 0 (MQ below (va_Qv (fun u : (Nat → Int32) => u = k_fill f 14 v) (zz_B G vwCl (fun u : (Nat → Int32) => (wAr h0 cA cB u)) A) A) ([.ref h0, .int v] : List Value).toArray s 0 0 A) (F0 m 5 ls []) := by
    intro n
    induction n with
    | zero =>
      intro k hk X_1 hX_1 vi hvi H locs ls hP hD hS hl
      have hk : k = 14 := by omega
      refine lv_iload_n hx hb dJ7_fill_53178_5 rfl (lv_at hl 0 rfl) ?_
      refine lv_iload_n hx hb dJ7_fill_53178_6 rfl (lv_at hl 1 rfl) ?_
      refine lv_icmp_ge (tgt := 20) hx hb dJ7_fill_53178_7 (by decide) (fun _ => ?_) (fun c => absurd (by rw [hvi, hk]; decide) c)
      exact zz_rv (X_1 : (Nat → Int32)) hx hb hr hlocks hS hP hD (by have hvi := hvi.symm; subst hvi; have hX_1 := hX_1.symm; subst hX_1; subst hk; rfl) dJ7_fill_53178_20
    | succ n ih =>
      intro k hk X_1 hX_1 vi hvi H locs ls hP hD hS hl
      have hlt : k < 14 := by omega
      refine lv_iload_n hx hb dJ7_fill_53178_5 rfl (lv_at hl 0 rfl) ?_
      refine lv_iload_n hx hb dJ7_fill_53178_6 rfl (lv_at hl 1 rfl) ?_
      refine lv_icmp_ge (tgt := 20) hx hb dJ7_fill_53178_7 (by decide) (fun c => absurd c (by rw [hvi]; exact nI_ge14 hlt)) (fun _ => ?_)
      refine lv_aload_n hx hb dJ7_fill_53178_10 rfl (lv_at hl 2 rfl) ?_
      refine lv_iload_n hx hb dJ7_fill_53178_11 rfl (lv_at hl 0 rfl) ?_
      refine lv_iload_n hx hb dJ7_fill_53178_12 rfl (lv_at hl 3 rfl) ?_
      refine zz_iast hx hb hK hP hD hS 0 0 k rfl rfl (by rw [hvi]; exact nI_cl14 hlt) (by rw [hvi]; exact vp_in_nI hlt (by decide)) dJ7_fill_53178_13 (fun H locs hP hD hS => ?_)
      have hP : va_P G vwCl [(h0, .inl (cA, 14, .inl (upd X_1 k v)))] H := hP
      have hD : va_D A [(h0, .inl (cA, 14, .inl (upd X_1 k v)))] := hD
      refine lv_iinc (v := (vi + 1)) (lv' := [(2, .int (vi + 1)), (3, .int 14), (0, .ref h0), (1, .int v)]) hx hb dJ7_fill_53178_14 hl (k := 0) rfl rfl (by decide) rfl (fun ls hl => ?_)
      refine lv_goto (tgt := 5) hx hb dJ7_fill_53178_17 (by decide) ?_
      exact ih (k + 1) (by omega) ((upd X_1 k v)) (by have hvi := hvi.symm; subst hvi; have hX_1 := hX_1.symm; subst hX_1; first | exact k_fillS _ _ _ | exact nI_1 k | (rw [hvi]; exact nI_1 k)) ((vi + 1)) (by have hvi := hvi.symm; subst hvi; have hX_1 := hX_1.symm; subst hX_1; first | exact k_fillS _ _ _ | exact nI_1 k | (rw [hvi]; exact nI_1 k)) _ _ _ hP hD hS hl
  have hl := lv_sub hl (l' := [(2, .int 0), (3, .int 14), (0, .ref h0), (1, .int v)]) [1, 0, 2, 3] rfl
  exact L5_1 14 0 (by omega) (f) (by first | exact (k_fill0 _ _).symm | rfl) (0) (by first | exact (k_fill0 _ _).symm | rfl) _ _ _ hP hD hS hl
theorem iX6_mode_X6 : ∀ w ∈ u_ws RX6 TX6 2, w ∈ wsX6_mode := by decide +kernel
theorem mX6_mode_1 : Cond.fieldLink RX6 18 "ChamberPacer$Settings" "forced" "[I" ∈ wsX6_mode := by decide +kernel
abbrev rmX6_mode : Room := { frames := 0, cells := 0, slots := 0, locals := 0 }
abbrev QfX6_mode (G : va_G) (cA cB : ClassId) (h0 h1 h2 : Nat) (S : tSe) : (Nat → Prop) → Array Value → State → Outcome → State → Prop := fun A => va_Qi (fun (r : Int32) (u : Unit) => r = k_mode S) (zz_B G vwCl (fun _ : Unit => (wSe h0 h1 h2 cA cB S)) A) A
set_option maxHeartbeats 1000000 in
set_option maxRecDepth 100000 in
theorem kX6_mode (l : Launch) (G : va_G) (cA cB : ClassId) (tb : Nat × Nat × Nat) (h0 h1 h2 : Nat) (sz : Nat) (S : tSe) : Met l yX6_mode wsX6_mode rmX6_mode (zz_P (zS tb) G vwCl [(cA, .int), (cB, .boolean)] [.ref h0] (wSe h0 h1 h2 cA cB S) sz) (QfX6_mode G cA cB h0 h1 h2 S (va_A (wSe h0 h1 h2 cA cB S) sz)) 0 0 (va_A (wSe h0 h1 h2 cA cB S) sz) := by
  refine zz_Met (cc := cX6_mode) (maxL := 1) (ret := (some .int)) (Qf := QfX6_mode G cA cB h0 h1 h2 S) (by decide) rfl (Nat.le_of_ble_eq_true rfl) ?_
  intro p e s m below meth c A ls hx hb hr hts hown hlocks hin hml hA hP hK hD hz hS hl
  have hl : lv_has ls 1 [(0, .ref h0)] := hl
  have hP : va_P G vwCl [(h0, .inr (6, [.ref h1, .ref h2])), (h1, .inl (cA, 14, .inl S.1)), (h2, .inl (cA, 14, .inl S.2))] s.heap := hP
  have hD : va_D A [(h0, .inr (6, [.ref h1, .ref h2])), (h1, .inl (cA, 14, .inl S.1)), (h2, .inl (cA, 14, .inl S.2))] := hD
  refine lv_aload_n hx hb dX6_mode_0 rfl (lv_at hl 0 rfl) ?_
  refine va_get (D := G) (ci := 6) (v := .ref h1) (C := RX6) (T := TX6) (N := 2) hx hb hts iX6_mode_X6 hown hK hP 0 rfl rfl 0 (by decide) (hts _ mX6_mode_1) (fun _ h9 => h9) rfl dX6_mode_1 ?_
  refine lv_iconst (v := 0) hx hb dX6_mode_4 (by decide) ?_
  refine zz_iald hx hb hK hP 1 0 0 rfl rfl (by decide) (vp_lit (by decide)) dX6_mode_5 ?_
  exact zz_ri (v := (S.1 0)) () hx hb hr hlocks hS hP hD (by first | rfl | (rfl) | (simp [])) dX6_mode_6
theorem iX6_inForce_X6 : ∀ w ∈ u_ws RX6 TX6 2, w ∈ wsX6_inForce := by decide +kernel
theorem mX6_inForce_1 : Cond.fieldLink RX6 18 "ChamberPacer$Settings" "forced" "[I" ∈ wsX6_inForce := by decide +kernel
abbrev rmX6_inForce : Room := { frames := 1, cells := 0, slots := 0, locals := 20 }
abbrev QfX6_inForce (G : va_G) (cA cB : ClassId) (h0 h1 h2 : Nat) (S : tSe) (k : Int32) : (Nat → Prop) → Array Value → State → Outcome → State → Prop := fun A => va_Qi (fun (r : Int32) (u : Unit) => r = k_inF S k) (zz_B G vwCl (fun _ : Unit => (wSe h0 h1 h2 cA cB S)) A) A
set_option maxHeartbeats 1000000 in
set_option maxRecDepth 100000 in
theorem kX6_inForce (l : Launch) (G : va_G) (cA cB : ClassId) (tb : Nat × Nat × Nat) (h0 h1 h2 : Nat) (sz : Nat) (S : tSe) (k : Int32) : Met l yX6_inForce wsX6_inForce rmX6_inForce (zz_P (zS tb) G vwCl [(cA, .int), (cB, .boolean)] [.ref h0, .int k] (wSe h0 h1 h2 cA cB S) sz) (QfX6_inForce G cA cB h0 h1 h2 S k (va_A (wSe h0 h1 h2 cA cB S) sz)) 0 0 (va_A (wSe h0 h1 h2 cA cB S) sz) := by
  refine zz_Met (cc := cX6_inForce) (maxL := 2) (ret := (some .int)) (Qf := QfX6_inForce G cA cB h0 h1 h2 S k) (by decide) rfl (Nat.le_of_ble_eq_true rfl) ?_
  intro p e s m below meth c A ls hx hb hr hts hown hlocks hin hml hA hP hK hD hz hS hl
  have hl : lv_has ls 2 [(0, .ref h0), (1, .int k)] := hl
  have hP : va_P G vwCl [(h0, .inr (6, [.ref h1, .ref h2])), (h1, .inl (cA, 14, .inl S.1)), (h2, .inl (cA, 14, .inl S.2))] s.heap := hP
  have hD : va_D A [(h0, .inr (6, [.ref h1, .ref h2])), (h1, .inl (cA, 14, .inl S.1)), (h2, .inl (cA, 14, .inl S.2))] := hD
  refine lv_iload_n hx hb dX6_inForce_0 rfl (lv_at hl 1 rfl) ?_
  refine zz_ci (wr := [(h0, .inr (6, [.ref h1, .ref h2])), (h1, .inl (cA, 14, .inl S.1)), (h2, .inl (cA, 14, .inl S.2))]) (va_runS (As := [.int k]) (rest := []) ⟨hx, hb, hml, hown, hts⟩ (kX6_exists l G cA cB tb s.heap.size k) (va_cwS 1 hts gX6_inForce_X6_exists rfl rfl rfl (by decide +kernel) ⟨Nat.le_of_ble_eq_true rfl, Nat.le_of_ble_eq_true rfl⟩) (zz_preS zS_ok hK hP hD hS hA hz [] rfl (by decide)) rfl rfl hl.1 rfl (lv_room (Nat.le_of_ble_eq_true rfl)) dX6_inForce_1 ⟨Nat.zero_le _, Nat.zero_le _⟩) hP hD hS hA [] [0, 1, 2] rfl rfl (by decide) (by decide) (fun r u H locs hw hP hD hS => ?_)
  have hw := hw.symm; subst hw
  have hP : va_P G vwCl [(h0, .inr (6, [.ref h1, .ref h2])), (h1, .inl (cA, 14, .inl S.1)), (h2, .inl (cA, 14, .inl S.2))] H := hP
  have hD : va_D A [(h0, .inr (6, [.ref h1, .ref h2])), (h1, .inl (cA, 14, .inl S.1)), (h2, .inl (cA, 14, .inl S.2))] := hD
  refine lv_if_eq (tgt := 16) hx hb dX6_inForce_4 (by decide) (fun c_1 => ?_) (fun c_1 => ?_)
  · have c_1 := bI_f c_1
    refine lv_iconst (v := (-1)) hx hb dX6_inForce_16 (by decide) ?_
    exact zz_ri (v := (-1)) () hx hb hr hlocks hS hP hD (by first | (simp [k_inF, c_1]; done) | (symm; (first | refine (if_pos c_1).trans ?_ | refine (if_neg c_1).trans ?_ | refine (if_fb c_1).trans ?_ | skip); rfl) | (try simp [k_inF] at c_1; simp [k_inF, c_1]; done) | rfl) dX6_inForce_17
  · have c_1 := bI_t c_1
    refine lv_aload_n hx hb dX6_inForce_7 rfl (lv_at hl 0 rfl) ?_
    refine va_get (D := G) (ci := 6) (v := .ref h1) (C := RX6) (T := TX6) (N := 2) hx hb hts iX6_inForce_X6 hown hK hP 0 rfl rfl 0 (by decide) (hts _ mX6_inForce_1) (fun _ h9 => h9) rfl dX6_inForce_8 ?_
    refine lv_iload_n hx hb dX6_inForce_11 rfl (lv_at hl 1 rfl) ?_
    refine zz_iald hx hb hK hP 1 0 k.toNatClampNeg rfl rfl rfl (vp_ex c_1) dX6_inForce_12 ?_
    refine lv_goto (tgt := 17) hx hb dX6_inForce_13 (by decide) ?_
    exact zz_ri (v := (S.1 k.toNatClampNeg)) () hx hb hr hlocks hS hP hD (by first | (simp [k_inF, c_1]; done) | (symm; (first | refine (if_pos c_1).trans ?_ | refine (if_neg c_1).trans ?_ | refine (if_fb c_1).trans ?_ | skip); rfl) | (try simp [k_inF] at c_1; simp [k_inF, c_1]; done) | rfl) dX6_inForce_17
theorem iX6_pending_X6 : ∀ w ∈ u_ws RX6 TX6 2, w ∈ wsX6_pending := by decide +kernel
theorem mX6_pending_1 : Cond.fieldLink RX6 23 "ChamberPacer$Settings" "asked" "[I" ∈ wsX6_pending := by decide +kernel
abbrev rmX6_pending : Room := { frames := 1, cells := 0, slots := 0, locals := 20 }
abbrev QfX6_pending (G : va_G) (cA cB : ClassId) (h0 h1 h2 : Nat) (S : tSe) (k : Int32) : (Nat → Prop) → Array Value → State → Outcome → State → Prop := fun A => va_Qi (fun (r : Int32) (u : Unit) => r = k_pend S k) (zz_B G vwCl (fun _ : Unit => (wSe h0 h1 h2 cA cB S)) A) A
set_option maxHeartbeats 1000000 in
set_option maxRecDepth 100000 in
theorem kX6_pending (l : Launch) (G : va_G) (cA cB : ClassId) (tb : Nat × Nat × Nat) (h0 h1 h2 : Nat) (sz : Nat) (S : tSe) (k : Int32) : Met l yX6_pending wsX6_pending rmX6_pending (zz_P (zS tb) G vwCl [(cA, .int), (cB, .boolean)] [.ref h0, .int k] (wSe h0 h1 h2 cA cB S) sz) (QfX6_pending G cA cB h0 h1 h2 S k (va_A (wSe h0 h1 h2 cA cB S) sz)) 0 0 (va_A (wSe h0 h1 h2 cA cB S) sz) := by
  refine zz_Met (cc := cX6_pending) (maxL := 2) (ret := (some .int)) (Qf := QfX6_pending G cA cB h0 h1 h2 S k) (by decide) rfl (Nat.le_of_ble_eq_true rfl) ?_
  intro p e s m below meth c A ls hx hb hr hts hown hlocks hin hml hA hP hK hD hz hS hl
  have hl : lv_has ls 2 [(0, .ref h0), (1, .int k)] := hl
  have hP : va_P G vwCl [(h0, .inr (6, [.ref h1, .ref h2])), (h1, .inl (cA, 14, .inl S.1)), (h2, .inl (cA, 14, .inl S.2))] s.heap := hP
  have hD : va_D A [(h0, .inr (6, [.ref h1, .ref h2])), (h1, .inl (cA, 14, .inl S.1)), (h2, .inl (cA, 14, .inl S.2))] := hD
  refine lv_iload_n hx hb dX6_pending_0 rfl (lv_at hl 1 rfl) ?_
  refine zz_ci (wr := [(h0, .inr (6, [.ref h1, .ref h2])), (h1, .inl (cA, 14, .inl S.1)), (h2, .inl (cA, 14, .inl S.2))]) (va_runS (As := [.int k]) (rest := []) ⟨hx, hb, hml, hown, hts⟩ (kX6_exists l G cA cB tb s.heap.size k) (va_cwS 1 hts gX6_pending_X6_exists rfl rfl rfl (by decide +kernel) ⟨Nat.le_of_ble_eq_true rfl, Nat.le_of_ble_eq_true rfl⟩) (zz_preS zS_ok hK hP hD hS hA hz [] rfl (by decide)) rfl rfl hl.1 rfl (lv_room (Nat.le_of_ble_eq_true rfl)) dX6_pending_1 ⟨Nat.zero_le _, Nat.zero_le _⟩) hP hD hS hA [] [0, 1, 2] rfl rfl (by decide) (by decide) (fun r u H locs hw hP hD hS => ?_)
  have hw := hw.symm; subst hw
  have hP : va_P G vwCl [(h0, .inr (6, [.ref h1, .ref h2])), (h1, .inl (cA, 14, .inl S.1)), (h2, .inl (cA, 14, .inl S.2))] H := hP
  have hD : va_D A [(h0, .inr (6, [.ref h1, .ref h2])), (h1, .inl (cA, 14, .inl S.1)), (h2, .inl (cA, 14, .inl S.2))] := hD
  refine lv_if_eq (tgt := 16) hx hb dX6_pending_4 (by decide) (fun c_1 => ?_) (fun c_1 => ?_)
  · have c_1 := bI_f c_1
    refine lv_iconst (v := (-1)) hx hb dX6_pending_16 (by decide) ?_
    exact zz_ri (v := (-1)) () hx hb hr hlocks hS hP hD (by first | (simp [k_pend, c_1]; done) | (symm; (first | refine (if_pos c_1).trans ?_ | refine (if_neg c_1).trans ?_ | refine (if_fb c_1).trans ?_ | skip); rfl) | (try simp [k_pend] at c_1; simp [k_pend, c_1]; done) | rfl) dX6_pending_17
  · have c_1 := bI_t c_1
    refine lv_aload_n hx hb dX6_pending_7 rfl (lv_at hl 0 rfl) ?_
    refine va_get (D := G) (ci := 6) (v := .ref h2) (C := RX6) (T := TX6) (N := 2) hx hb hts iX6_pending_X6 hown hK hP 0 rfl rfl 1 (by decide) (hts _ mX6_pending_1) (fun _ h9 => h9) rfl dX6_pending_8 ?_
    refine lv_iload_n hx hb dX6_pending_11 rfl (lv_at hl 1 rfl) ?_
    refine zz_iald hx hb hK hP 2 0 k.toNatClampNeg rfl rfl rfl (vp_ex c_1) dX6_pending_12 ?_
    refine lv_goto (tgt := 17) hx hb dX6_pending_13 (by decide) ?_
    exact zz_ri (v := (S.2 k.toNatClampNeg)) () hx hb hr hlocks hS hP hD (by first | (simp [k_pend, c_1]; done) | (symm; (first | refine (if_pos c_1).trans ?_ | refine (if_neg c_1).trans ?_ | refine (if_fb c_1).trans ?_ | skip); rfl) | (try simp [k_pend] at c_1; simp [k_pend, c_1]; done) | rfl) dX6_pending_17
abbrev rmX6_latest : Room := { frames := 2, cells := 0, slots := 0, locals := 41 }
abbrev QfX6_latest (G : va_G) (cA cB : ClassId) (h0 h1 h2 : Nat) (S : tSe) (k : Int32) : (Nat → Prop) → Array Value → State → Outcome → State → Prop := fun A => va_Qi (fun (r : Int32) (u : Unit) => r = k_latest S k) (zz_B G vwCl (fun _ : Unit => (wSe h0 h1 h2 cA cB S)) A) A
set_option maxHeartbeats 1000000 in
set_option maxRecDepth 100000 in
theorem kX6_latest (l : Launch) (G : va_G) (cA cB : ClassId) (tb : Nat × Nat × Nat) (h0 h1 h2 : Nat) (sz : Nat) (S : tSe) (k : Int32) : Met l yX6_latest wsX6_latest rmX6_latest (zz_P (zS tb) G vwCl [(cA, .int), (cB, .boolean)] [.ref h0, .int k] (wSe h0 h1 h2 cA cB S) sz) (QfX6_latest G cA cB h0 h1 h2 S k (va_A (wSe h0 h1 h2 cA cB S) sz)) 0 0 (va_A (wSe h0 h1 h2 cA cB S) sz) := by
  refine zz_Met (cc := cX6_latest) (maxL := 3) (ret := (some .int)) (Qf := QfX6_latest G cA cB h0 h1 h2 S k) (by decide) rfl (Nat.le_of_ble_eq_true rfl) ?_
  intro p e s m below meth c A ls hx hb hr hts hown hlocks hin hml hA hP hK hD hz hS hl
  have hl : lv_has ls 3 [(0, .ref h0), (1, .int k)] := hl
  have hP : va_P G vwCl [(h0, .inr (6, [.ref h1, .ref h2])), (h1, .inl (cA, 14, .inl S.1)), (h2, .inl (cA, 14, .inl S.2))] s.heap := hP
  have hD : va_D A [(h0, .inr (6, [.ref h1, .ref h2])), (h1, .inl (cA, 14, .inl S.1)), (h2, .inl (cA, 14, .inl S.2))] := hD
  refine lv_aload_n hx hb dX6_latest_0 rfl (lv_at hl 0 rfl) ?_
  refine lv_iload_n hx hb dX6_latest_1 rfl (lv_at hl 1 rfl) ?_
  refine zz_ci (wr := []) (va_runV (As := [.int k]) (rest := []) ⟨hx, hb, hml, hown, hts⟩ (kX6_pending l G cA cB tb h0 h1 h2 s.heap.size S k) (cwV 1 hts gX6_latest_X6_pending rfl rfl rfl (by decide +kernel) ⟨Nat.le_of_ble_eq_true rfl, Nat.le_of_ble_eq_true rfl⟩) (zz_preV zS_ok hK hP hD hS hA hz [0, 1, 2] rfl (by decide) (ci := 6) (q0 := 0) (C := RX6) rfl rfl) rfl rfl hl.1 rfl (lv_room (Nat.le_of_ble_eq_true rfl)) dX6_latest_2 ⟨Nat.zero_le _, Nat.zero_le _⟩) hP hD hS hA [0, 1, 2] [] rfl rfl (by decide) (by decide) (fun r u H locs hw hP hD hS => ?_)
  have hw := hw.symm; subst hw
  have hP : va_P G vwCl [(h0, .inr (6, [.ref h1, .ref h2])), (h1, .inl (cA, 14, .inl S.1)), (h2, .inl (cA, 14, .inl S.2))] H := hP
  have hD : va_D A [(h0, .inr (6, [.ref h1, .ref h2])), (h1, .inl (cA, 14, .inl S.1)), (h2, .inl (cA, 14, .inl S.2))] := hD
  refine lv_istore_n (lv' := [(2, .int (k_pend S k)), (0, .ref h0), (1, .int k)]) hx hb dX6_latest_5 rfl hl (by decide) rfl (fun ls hl => ?_)
  refine lv_iload_n hx hb dX6_latest_6 rfl (lv_at hl 0 rfl) ?_
  refine lv_iconst (v := (-1)) hx hb dX6_latest_7 (by decide) ?_
  refine lv_icmp_ne (tgt := 19) hx hb dX6_latest_8 (by decide) (fun c_1 => ?_) (fun c_1 => ?_)
  · have c_1 := zeq_f c_1
    refine lv_iload_n hx hb dX6_latest_19 rfl (lv_at hl 0 rfl) ?_
    exact zz_ri (v := (k_pend S k)) () hx hb hr hlocks hS hP hD (by first | (simp [k_latest, c_1]; done) | (symm; (first | refine (if_pos c_1).trans ?_ | refine (if_neg c_1).trans ?_ | refine (if_fb c_1).trans ?_ | skip); rfl) | (try simp [k_latest] at c_1; simp [k_latest, c_1]; done) | rfl) dX6_latest_20
  · have c_1 := zeq_t c_1
    refine lv_aload_n hx hb dX6_latest_11 rfl (lv_at hl 1 rfl) ?_
    refine lv_iload_n hx hb dX6_latest_12 rfl (lv_at hl 2 rfl) ?_
    refine zz_ci (wr := []) (va_runV (As := [.int k]) (rest := []) ⟨hx, hb, hml, hown, hts⟩ (kX6_inForce l G cA cB tb h0 h1 h2 H.size S k) (cwV 1 hts gX6_latest_X6_inForce rfl rfl rfl (by decide +kernel) ⟨Nat.le_of_ble_eq_true rfl, Nat.le_of_ble_eq_true rfl⟩) (zz_preV zS_ok hK hP hD hS hA hz [0, 1, 2] rfl (by decide) (ci := 6) (q0 := 0) (C := RX6) rfl rfl) rfl rfl hl.1 rfl (lv_room (Nat.le_of_ble_eq_true rfl)) dX6_latest_13 ⟨Nat.zero_le _, Nat.zero_le _⟩) hP hD hS hA [0, 1, 2] [] rfl rfl (by decide) (by decide) (fun r u H locs hw hP hD hS => ?_)
    have hw := hw.symm; subst hw
    have hP : va_P G vwCl [(h0, .inr (6, [.ref h1, .ref h2])), (h1, .inl (cA, 14, .inl S.1)), (h2, .inl (cA, 14, .inl S.2))] H := hP
    have hD : va_D A [(h0, .inr (6, [.ref h1, .ref h2])), (h1, .inl (cA, 14, .inl S.1)), (h2, .inl (cA, 14, .inl S.2))] := hD
    refine lv_goto (tgt := 20) hx hb dX6_latest_16 (by decide) ?_
    exact zz_ri (v := (k_inF S k)) () hx hb hr hlocks hS hP hD (by first | (simp [k_latest, c_1]; done) | (symm; (first | refine (if_pos c_1).trans ?_ | refine (if_neg c_1).trans ?_ | refine (if_fb c_1).trans ?_ | skip); rfl) | (try simp [k_latest] at c_1; simp [k_latest, c_1]; done) | rfl) dX6_latest_20
theorem iX6_ask_X6 : ∀ w ∈ u_ws RX6 TX6 2, w ∈ wsX6_ask := by decide +kernel
theorem mX6_ask_1 : Cond.fieldLink RX6 23 "ChamberPacer$Settings" "asked" "[I" ∈ wsX6_ask := by decide +kernel
abbrev rmX6_ask : Room := { frames := 2, cells := 0, slots := 0, locals := 41 }
abbrev QfX6_ask (G : va_G) (cA cB : ClassId) (h0 h1 h2 : Nat) (S : tSe) (k : Int32) (a : Int32) : (Nat → Prop) → Array Value → State → Outcome → State → Prop := fun A => va_Qv (fun u : tSe => u = k_ask S k a) (zz_B G vwCl (fun u : tSe => (wSe h0 h1 h2 cA cB u)) A) A
set_option maxHeartbeats 1000000 in
set_option maxRecDepth 100000 in
theorem kX6_ask (l : Launch) (G : va_G) (cA cB : ClassId) (tb : Nat × Nat × Nat) (h0 h1 h2 : Nat) (sz : Nat) (S : tSe) (k : Int32) (a : Int32) : Met l yX6_ask wsX6_ask rmX6_ask (zz_P (zS tb) G vwCl [(cA, .int), (cB, .boolean)] [.ref h0, .int k, .int a] (wSe h0 h1 h2 cA cB S) sz) (QfX6_ask G cA cB h0 h1 h2 S k a (va_A (wSe h0 h1 h2 cA cB S) sz)) 0 0 (va_A (wSe h0 h1 h2 cA cB S) sz) := by
  refine zz_Met (cc := cX6_ask) (maxL := 3) (ret := none) (Qf := QfX6_ask G cA cB h0 h1 h2 S k a) (by decide) rfl (Nat.le_of_ble_eq_true rfl) ?_
  intro p e s m below meth c A ls hx hb hr hts hown hlocks hin hml hA hP hK hD hz hS hl
  have hl : lv_has ls 3 [(0, .ref h0), (1, .int k), (2, .int a)] := hl
  have hP : va_P G vwCl [(h0, .inr (6, [.ref h1, .ref h2])), (h1, .inl (cA, 14, .inl S.1)), (h2, .inl (cA, 14, .inl S.2))] s.heap := hP
  have hD : va_D A [(h0, .inr (6, [.ref h1, .ref h2])), (h1, .inl (cA, 14, .inl S.1)), (h2, .inl (cA, 14, .inl S.2))] := hD
  refine lv_iload_n hx hb dX6_ask_0 rfl (lv_at hl 1 rfl) ?_
  refine lv_iload_n hx hb dX6_ask_1 rfl (lv_at hl 2 rfl) ?_
  refine zz_ci (wr := [(h0, .inr (6, [.ref h1, .ref h2])), (h1, .inl (cA, 14, .inl S.1)), (h2, .inl (cA, 14, .inl S.2))]) (va_runS (As := [.int k, .int a]) (rest := []) ⟨hx, hb, hml, hown, hts⟩ (kX6_allows l G cA cB tb s.heap.size k a) (va_cwS 2 hts gX6_ask_X6_allows rfl rfl rfl (by decide +kernel) ⟨Nat.le_of_ble_eq_true rfl, Nat.le_of_ble_eq_true rfl⟩) (zz_preS zS_ok hK hP hD hS hA hz [] rfl (by decide)) rfl rfl hl.1 rfl (lv_room (Nat.le_of_ble_eq_true rfl)) dX6_ask_2 ⟨Nat.zero_le _, Nat.zero_le _⟩) hP hD hS hA [] [0, 1, 2] rfl rfl (by decide) (by decide) (fun r u H locs hw hP hD hS => ?_)
  have hw := hw.symm; subst hw
  have hP : va_P G vwCl [(h0, .inr (6, [.ref h1, .ref h2])), (h1, .inl (cA, 14, .inl S.1)), (h2, .inl (cA, 14, .inl S.2))] H := hP
  have hD : va_D A [(h0, .inr (6, [.ref h1, .ref h2])), (h1, .inl (cA, 14, .inl S.1)), (h2, .inl (cA, 14, .inl S.2))] := hD
  refine lv_if_eq (tgt := 15) hx hb dX6_ask_5 (by decide) (fun c_1 => ?_) (fun c_1 => ?_)
  · have c_1 := bI_f c_1
    exact zz_rv (S : tSe) hx hb hr hlocks hS hP hD (by first | (simp [k_ask, c_1]; done) | (symm; (first | refine (if_pos c_1).trans ?_ | refine (if_neg c_1).trans ?_ | refine (if_fb c_1).trans ?_ | skip); rfl) | (try simp [k_ask] at c_1; simp [k_ask, c_1]; done) | rfl) dX6_ask_15
  · have c_1 := bI_t c_1
    refine lv_aload_n hx hb dX6_ask_8 rfl (lv_at hl 0 rfl) ?_
    refine va_get (D := G) (ci := 6) (v := .ref h2) (C := RX6) (T := TX6) (N := 2) hx hb hts iX6_ask_X6 hown hK hP 0 rfl rfl 1 (by decide) (hts _ mX6_ask_1) (fun _ h9 => h9) rfl dX6_ask_9 ?_
    refine lv_iload_n hx hb dX6_ask_12 rfl (lv_at hl 1 rfl) ?_
    refine lv_iload_n hx hb dX6_ask_13 rfl (lv_at hl 2 rfl) ?_
    refine zz_iast hx hb hK hP hD hS 2 0 k.toNatClampNeg rfl rfl rfl (vp_al c_1) dX6_ask_14 (fun H locs hP hD hS => ?_)
    have hP : va_P G vwCl [(h0, .inr (6, [.ref h1, .ref h2])), (h1, .inl (cA, 14, .inl S.1)), (h2, .inl (cA, 14, .inl (upd S.2 k.toNatClampNeg a)))] H := hP
    have hD : va_D A [(h0, .inr (6, [.ref h1, .ref h2])), (h1, .inl (cA, 14, .inl S.1)), (h2, .inl (cA, 14, .inl (upd S.2 k.toNatClampNeg a)))] := hD
    exact zz_rv ((S.1, (upd S.2 k.toNatClampNeg a)) : tSe) hx hb hr hlocks hS hP hD (by first | (simp [k_ask, c_1]; done) | (symm; (first | refine (if_pos c_1).trans ?_ | refine (if_neg c_1).trans ?_ | refine (if_fb c_1).trans ?_ | skip); rfl) | (try simp [k_ask] at c_1; simp [k_ask, c_1]; done) | rfl) dX6_ask_15
theorem iX6_dropPending_X6 : ∀ w ∈ u_ws RX6 TX6 2, w ∈ wsX6_dropPending := by decide +kernel
theorem mX6_dropPending_1 : Cond.fieldLink RX6 23 "ChamberPacer$Settings" "asked" "[I" ∈ wsX6_dropPending := by decide +kernel
abbrev rmX6_dropPending : Room := { frames := 1, cells := 0, slots := 0, locals := 23 }
abbrev QfX6_dropPending (G : va_G) (cA cB : ClassId) (h0 h1 h2 : Nat) (S : tSe) : (Nat → Prop) → Array Value → State → Outcome → State → Prop := fun A => va_Qv (fun u : tSe => u = k_drop S) (zz_B G vwCl (fun u : tSe => (wSe h0 h1 h2 cA cB u)) A) A
set_option maxHeartbeats 1000000 in
set_option maxRecDepth 100000 in
theorem kX6_dropPending (l : Launch) (G : va_G) (cA cB : ClassId) (tb : Nat × Nat × Nat) (h0 h1 h2 : Nat) (sz : Nat) (S : tSe) : Met l yX6_dropPending wsX6_dropPending rmX6_dropPending (zz_P (zS tb) G vwCl [(cA, .int), (cB, .boolean)] [.ref h0] (wSe h0 h1 h2 cA cB S) sz) (QfX6_dropPending G cA cB h0 h1 h2 S (va_A (wSe h0 h1 h2 cA cB S) sz)) 0 0 (va_A (wSe h0 h1 h2 cA cB S) sz) := by
  refine zz_Met (cc := cX6_dropPending) (maxL := 1) (ret := none) (Qf := QfX6_dropPending G cA cB h0 h1 h2 S) (by decide) rfl (Nat.le_of_ble_eq_true rfl) ?_
  intro p e s m below meth c A ls hx hb hr hts hown hlocks hin hml hA hP hK hD hz hS hl
  have hl : lv_has ls 1 [(0, .ref h0)] := hl
  have hP : va_P G vwCl [(h0, .inr (6, [.ref h1, .ref h2])), (h1, .inl (cA, 14, .inl S.1)), (h2, .inl (cA, 14, .inl S.2))] s.heap := hP
  have hD : va_D A [(h0, .inr (6, [.ref h1, .ref h2])), (h1, .inl (cA, 14, .inl S.1)), (h2, .inl (cA, 14, .inl S.2))] := hD
  refine lv_aload_n hx hb dX6_dropPending_0 rfl (lv_at hl 0 rfl) ?_
  refine va_get (D := G) (ci := 6) (v := .ref h2) (C := RX6) (T := TX6) (N := 2) hx hb hts iX6_dropPending_X6 hown hK hP 0 rfl rfl 1 (by decide) (hts _ mX6_dropPending_1) (fun _ h9 => h9) rfl dX6_dropPending_1 ?_
  refine lv_iconst (v := (-1)) hx hb dX6_dropPending_4 (by decide) ?_
  refine zz_cv (wr := [(h0, .inr (6, [.ref h1, .ref h2])), (h1, .inl (cA, 14, .inl S.1))]) (va_runS (As := [.ref h2, .int (-1)]) (rest := []) ⟨hx, hb, hml, hown, hts⟩ (kJ7_fill_53178 l G cA cB tb h2 s.heap.size S.2 (-1)) (va_cwS 2 hts gX6_dropPending_J7_fill_53178 rfl rfl rfl (by decide +kernel) ⟨Nat.le_of_ble_eq_true rfl, Nat.le_of_ble_eq_true rfl⟩) (zz_preS zS_ok hK hP hD hS hA hz [2] rfl (by decide)) rfl rfl hl.1 rfl (lv_room (Nat.le_of_ble_eq_true rfl)) dX6_dropPending_5 ⟨Nat.zero_le _, Nat.zero_le _⟩) hP hD hS hA [2] [0, 1] rfl rfl (by decide) (by decide) (fun u H locs hw hP hD hS => ?_)
  have hw := hw.symm; subst hw
  have hP : va_P G vwCl [(h0, .inr (6, [.ref h1, .ref h2])), (h1, .inl (cA, 14, .inl S.1)), (h2, .inl (cA, 14, .inl (k_fill S.2 14 (-1))))] H := hP
  have hD : va_D A [(h0, .inr (6, [.ref h1, .ref h2])), (h1, .inl (cA, 14, .inl S.1)), (h2, .inl (cA, 14, .inl (k_fill S.2 14 (-1))))] := hD
  exact zz_rv ((S.1, (k_fill S.2 14 (-1))) : tSe) hx hb hr hlocks hS hP hD (by first | rfl | (rfl) | (simp [])) dX6_dropPending_8
theorem iX6_putInForce_X6 : ∀ w ∈ u_ws RX6 TX6 2, w ∈ wsX6_putInForce := by decide +kernel
theorem mX6_putInForce_1 : Cond.fieldLink RX6 23 "ChamberPacer$Settings" "asked" "[I" ∈ wsX6_putInForce := by decide +kernel
theorem mX6_putInForce_2 : Cond.fieldLink RX6 18 "ChamberPacer$Settings" "forced" "[I" ∈ wsX6_putInForce := by decide +kernel
abbrev rmX6_putInForce : Room := { frames := 0, cells := 0, slots := 0, locals := 0 }
abbrev QfX6_putInForce (G : va_G) (cA cB : ClassId) (h0 h1 h2 : Nat) (S : tSe) : (Nat → Prop) → Array Value → State → Outcome → State → Prop := fun A => va_Qi (fun (r : Int32) (u : tSe) => r = bI (k_any S 14) ∧ u = k_pif S) (zz_B G vwCl (fun u : tSe => (wSe h0 h1 h2 cA cB u)) A) A
set_option maxHeartbeats 1000000 in
set_option maxRecDepth 100000 in
theorem kX6_putInForce (l : Launch) (G : va_G) (cA cB : ClassId) (tb : Nat × Nat × Nat) (h0 h1 h2 : Nat) (sz : Nat) (S : tSe) : Met l yX6_putInForce wsX6_putInForce rmX6_putInForce (zz_P (zS tb) G vwCl [(cA, .int), (cB, .boolean)] [.ref h0] (wSe h0 h1 h2 cA cB S) sz) (QfX6_putInForce G cA cB h0 h1 h2 S (va_A (wSe h0 h1 h2 cA cB S) sz)) 0 0 (va_A (wSe h0 h1 h2 cA cB S) sz) := by
  refine zz_Met (cc := cX6_putInForce) (maxL := 3) (ret := (some .boolean)) (Qf := QfX6_putInForce G cA cB h0 h1 h2 S) (by decide) rfl (Nat.le_of_ble_eq_true rfl) ?_
  intro p e s m below meth c A ls hx hb hr hts hown hlocks hin hml hA hP hK hD hz hS hl
  have hl : lv_has ls 3 [(0, .ref h0)] := hl
  have hP : va_P G vwCl [(h0, .inr (6, [.ref h1, .ref h2])), (h1, .inl (cA, 14, .inl S.1)), (h2, .inl (cA, 14, .inl S.2))] s.heap := hP
  have hD : va_D A [(h0, .inr (6, [.ref h1, .ref h2])), (h1, .inl (cA, 14, .inl S.1)), (h2, .inl (cA, 14, .inl S.2))] := hD
  refine lv_iconst (v := 0) hx hb dX6_putInForce_0 (by decide) ?_
  refine lv_istore_n (lv' := [(1, .int 0), (0, .ref h0)]) hx hb dX6_putInForce_1 rfl hl (by decide) rfl (fun ls hl => ?_)
  refine lv_iconst (v := 0) hx hb dX6_putInForce_2 (by decide) ?_
  refine lv_istore_n (lv' := [(2, .int 0), (1, .int 0), (0, .ref h0)]) hx hb dX6_putInForce_3 rfl hl (by decide) rfl (fun ls hl => ?_)
  have L4_1 : ∀ (n k : Nat), k + n = 14 → ∀ (X_1 : tSe) (hX_1 : X_1 = (k_pifF S k, k_pifA S k)) (vb : Bool) (hvb : vb = k_any S k) (vi : Int32) (hvi : vi = nI k) (H : Heap) (locs : List Loc) (ls : Array Slot), va_P G vwCl [(h0, .inr (6, [.ref h1, .ref h2])), (h1, .inl (cA, 14, .inl X_1.1)), (h2, .inl (cA, 14, .inl X_1.2))] H → va_D A [(h0, .inr (6, [.ref h1, .ref h2])), (h1, .inl (cA, 14, .inl X_1.1)), (h2, .inl (cA, 14, .inl X_1.2))] → va_S A s.heap H locs → lv_has ls 3 [(2, .int vi), (1, .int (bI vb)), (0, .ref h0)] → W p l e rmX6_putInForce s m ([.ref h0] : List Value).toArray below meth c H locs 0 0 (MQ below (va_Qi (fun (r : Int32) (u : tSe) => r = bI (k_any S 14) ∧ u = k_pif S) (zz_B G vwCl (fun u : tSe => (wSe h0 h1 h2 cA cB u)) A) A) ([.ref h0] : List Value).toArray s 0 0 A) (F0 m 4 ls []) := by
    intro n
    induction n with
    | zero =>
      intro k hk X_1 hX_1 vb hvb vi hvi H locs ls hP hD hS hl
      have hk : k = 14 := by omega
      refine lv_iload_n hx hb dX6_putInForce_4 rfl (lv_at hl 0 rfl) ?_
      refine lv_bipush (v := 14) hx hb dX6_putInForce_5 (by decide) ?_
      refine lv_icmp_ge (tgt := 47) hx hb dX6_putInForce_7 (by decide) (fun _ => ?_) (fun c => absurd (by rw [hvi, hk]; decide) c)
      refine lv_iload_n hx hb dX6_putInForce_47 rfl (lv_at hl 1 rfl) ?_
      exact zz_rz (v := (bI vb)) (X_1 : tSe) hx hb hr (bI_n _) hlocks hS hP hD ⟨by have hvi := hvi.symm; subst hvi; have hvb := hvb.symm; subst hvb; have hX_1 := hX_1.symm; subst hX_1; subst hk; rfl, by have hvi := hvi.symm; subst hvi; have hvb := hvb.symm; subst hvb; have hX_1 := hX_1.symm; subst hX_1; subst hk; rfl⟩ dX6_putInForce_48
    | succ n ih =>
      intro k hk X_1 hX_1 vb hvb vi hvi H locs ls hP hD hS hl
      have hlt : k < 14 := by omega
      refine lv_iload_n hx hb dX6_putInForce_4 rfl (lv_at hl 0 rfl) ?_
      refine lv_bipush (v := 14) hx hb dX6_putInForce_5 (by decide) ?_
      refine lv_icmp_ge (tgt := 47) hx hb dX6_putInForce_7 (by decide) (fun c => absurd c (by rw [hvi]; exact nI_ge14 hlt)) (fun _ => ?_)
      refine lv_aload_n hx hb dX6_putInForce_10 rfl (lv_at hl 2 rfl) ?_
      refine va_get (D := G) (ci := 6) (v := .ref h2) (C := RX6) (T := TX6) (N := 2) hx hb hts iX6_putInForce_X6 hown hK hP 0 rfl rfl 1 (by decide) (hts _ mX6_putInForce_1) (fun _ h9 => h9) rfl dX6_putInForce_11 ?_
      refine lv_iload_n hx hb dX6_putInForce_14 rfl (lv_at hl 0 rfl) ?_
      refine zz_iald hx hb hK hP 2 0 k rfl rfl (by rw [hvi]; exact nI_cl14 hlt) (by rw [hvi]; exact vp_in_nI hlt (by decide)) dX6_putInForce_15 ?_
      refine lv_iconst (v := (-1)) hx hb dX6_putInForce_16 (by decide) ?_
      refine lv_icmp_eq (tgt := 41) hx hb dX6_putInForce_17 (by decide) (fun c_2 => ?_) (fun c_2 => ?_)
      · have c_2 := zeq_t c_2
        refine lv_iinc (v := (vi + 1)) (lv' := [(2, .int (vi + 1)), (1, .int (bI vb)), (0, .ref h0)]) hx hb dX6_putInForce_41 hl (k := 0) rfl rfl (by decide) rfl (fun ls hl => ?_)
        refine lv_goto (tgt := 4) hx hb dX6_putInForce_44 (by decide) ?_
        exact ih (k + 1) (by omega) (X_1) (by have hvi := hvi.symm; subst hvi; have hvb := hvb.symm; subst hvb; have hX_1 := hX_1.symm; subst hX_1; first | exact nI_1 k | (rw [hvi]; exact nI_1 k) | exact k_pifS1 S k (by assumption) | exact k_pifS2 S k (by assumption) | exact k_anyS1 S k (by assumption) | exact k_anyS2 S k (by assumption)) (vb) (by have hvi := hvi.symm; subst hvi; have hvb := hvb.symm; subst hvb; have hX_1 := hX_1.symm; subst hX_1; first | exact nI_1 k | (rw [hvi]; exact nI_1 k) | exact k_pifS1 S k (by assumption) | exact k_pifS2 S k (by assumption) | exact k_anyS1 S k (by assumption) | exact k_anyS2 S k (by assumption)) ((vi + 1)) (by have hvi := hvi.symm; subst hvi; have hvb := hvb.symm; subst hvb; have hX_1 := hX_1.symm; subst hX_1; first | exact nI_1 k | (rw [hvi]; exact nI_1 k) | exact k_pifS1 S k (by assumption) | exact k_pifS2 S k (by assumption) | exact k_anyS1 S k (by assumption) | exact k_anyS2 S k (by assumption)) _ _ _ hP hD hS hl
      · have c_2 := zeq_f c_2
        refine lv_aload_n hx hb dX6_putInForce_20 rfl (lv_at hl 2 rfl) ?_
        refine va_get (D := G) (ci := 6) (v := .ref h1) (C := RX6) (T := TX6) (N := 2) hx hb hts iX6_putInForce_X6 hown hK hP 0 rfl rfl 0 (by decide) (hts _ mX6_putInForce_2) (fun _ h9 => h9) rfl dX6_putInForce_21 ?_
        refine lv_iload_n hx hb dX6_putInForce_24 rfl (lv_at hl 0 rfl) ?_
        refine lv_aload_n hx hb dX6_putInForce_25 rfl (lv_at hl 2 rfl) ?_
        refine va_get (D := G) (ci := 6) (v := .ref h2) (C := RX6) (T := TX6) (N := 2) hx hb hts iX6_putInForce_X6 hown hK hP 0 rfl rfl 1 (by decide) (hts _ mX6_putInForce_1) (fun _ h9 => h9) rfl dX6_putInForce_26 ?_
        refine lv_iload_n hx hb dX6_putInForce_29 rfl (lv_at hl 0 rfl) ?_
        refine zz_iald hx hb hK hP 2 0 k rfl rfl (by rw [hvi]; exact nI_cl14 hlt) (by rw [hvi]; exact vp_in_nI hlt (by decide)) dX6_putInForce_30 ?_
        refine zz_iast hx hb hK hP hD hS 1 0 k rfl rfl (by rw [hvi]; exact nI_cl14 hlt) (by rw [hvi]; exact vp_in_nI hlt (by decide)) dX6_putInForce_31 (fun H locs hP hD hS => ?_)
        have hP : va_P G vwCl [(h0, .inr (6, [.ref h1, .ref h2])), (h1, .inl (cA, 14, .inl (upd X_1.1 k (X_1.2 k)))), (h2, .inl (cA, 14, .inl X_1.2))] H := hP
        have hD : va_D A [(h0, .inr (6, [.ref h1, .ref h2])), (h1, .inl (cA, 14, .inl (upd X_1.1 k (X_1.2 k)))), (h2, .inl (cA, 14, .inl X_1.2))] := hD
        refine lv_aload_n hx hb dX6_putInForce_32 rfl (lv_at hl 2 rfl) ?_
        refine va_get (D := G) (ci := 6) (v := .ref h2) (C := RX6) (T := TX6) (N := 2) hx hb hts iX6_putInForce_X6 hown hK hP 0 rfl rfl 1 (by decide) (hts _ mX6_putInForce_1) (fun _ h9 => h9) rfl dX6_putInForce_33 ?_
        refine lv_iload_n hx hb dX6_putInForce_36 rfl (lv_at hl 0 rfl) ?_
        refine lv_iconst (v := (-1)) hx hb dX6_putInForce_37 (by decide) ?_
        refine zz_iast hx hb hK hP hD hS 2 0 k rfl rfl (by rw [hvi]; exact nI_cl14 hlt) (by rw [hvi]; exact vp_in_nI hlt (by decide)) dX6_putInForce_38 (fun H locs hP hD hS => ?_)
        have hP : va_P G vwCl [(h0, .inr (6, [.ref h1, .ref h2])), (h1, .inl (cA, 14, .inl (upd X_1.1 k (X_1.2 k)))), (h2, .inl (cA, 14, .inl (upd X_1.2 k (-1))))] H := hP
        have hD : va_D A [(h0, .inr (6, [.ref h1, .ref h2])), (h1, .inl (cA, 14, .inl (upd X_1.1 k (X_1.2 k)))), (h2, .inl (cA, 14, .inl (upd X_1.2 k (-1))))] := hD
        refine lv_iconst (v := 1) hx hb dX6_putInForce_39 (by decide) ?_
        refine lv_istore_n (lv' := [(1, .int 1), (2, .int vi), (0, .ref h0)]) hx hb dX6_putInForce_40 rfl hl (by decide) rfl (fun ls hl => ?_)
        refine lv_iinc (v := (vi + 1)) (lv' := [(2, .int (vi + 1)), (1, .int 1), (0, .ref h0)]) hx hb dX6_putInForce_41 hl (k := 1) rfl rfl (by decide) rfl (fun ls hl => ?_)
        refine lv_goto (tgt := 4) hx hb dX6_putInForce_44 (by decide) ?_
        exact ih (k + 1) (by omega) (((upd X_1.1 k (X_1.2 k)), (upd X_1.2 k (-1)))) (by have hvi := hvi.symm; subst hvi; have hvb := hvb.symm; subst hvb; have hX_1 := hX_1.symm; subst hX_1; first | exact nI_1 k | (rw [hvi]; exact nI_1 k) | exact k_pifS1 S k (by assumption) | exact k_pifS2 S k (by assumption) | exact k_anyS1 S k (by assumption) | exact k_anyS2 S k (by assumption)) (true) (by have hvi := hvi.symm; subst hvi; have hvb := hvb.symm; subst hvb; have hX_1 := hX_1.symm; subst hX_1; first | exact nI_1 k | (rw [hvi]; exact nI_1 k) | exact k_pifS1 S k (by assumption) | exact k_pifS2 S k (by assumption) | exact k_anyS1 S k (by assumption) | exact k_anyS2 S k (by assumption)) ((vi + 1)) (by have hvi := hvi.symm; subst hvi; have hvb := hvb.symm; subst hvb; have hX_1 := hX_1.symm; subst hX_1; first | exact nI_1 k | (rw [hvi]; exact nI_1 k) | exact k_pifS1 S k (by assumption) | exact k_pifS2 S k (by assumption) | exact k_anyS1 S k (by assumption) | exact k_anyS2 S k (by assumption)) _ _ _ hP hD hS hl
  exact L4_1 14 0 (by omega) (S) (by first | exact (k_pif0 S).symm | rfl) (false) (by first | exact (k_pif0 S).symm | rfl) (0) (by first | exact (k_pif0 S).symm | rfl) _ _ _ hP hD hS hl

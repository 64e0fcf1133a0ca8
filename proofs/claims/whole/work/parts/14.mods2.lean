/-! Settings, Markers, Frame: rows on them -/
theorem vp_al {k a : Int32} (h : k_allows k a = true) : vp_in k 14 := by
  simp only [k_allows, Bool.and_eq_true] at h
  exact vp_ex h.1.1
theorem k_fillS (f : Nat → Int32) (n : Nat) (v : Int32) : upd (k_fill f n v) n v = k_fill f (n + 1) v := by
  funext j
  by_cases h : j = n
  · subst h; rw [pk_us]; simp [k_fill]
  · rw [pk_un h]
    unfold k_fill
    by_cases h2 : j < n
    · rw [if_pos h2, if_pos (by omega)]
    · rw [if_neg h2, if_neg (by omega)]
theorem k_fill0 (f : Nat → Int32) (v : Int32) : k_fill f 0 v = f := by funext j; simp [k_fill]
theorem k_pif0 (S : tSe) : (k_pifF S 0, k_pifA S 0) = S := by
  have a : k_pifF S 0 = S.1 := by funext j; simp [k_pifF]
  have b : k_pifA S 0 = S.2 := by funext j; simp [k_pifA]
  rw [a, b]
theorem k_pifS1 (S : tSe) (n : Nat) (h : k_pifA S n n = -1) : (k_pifF S n, k_pifA S n) = (k_pifF S (n + 1), k_pifA S (n + 1)) := by
  have h0 : S.2 n = -1 := by simpa [k_pifA] using h
  have a : k_pifF S n = k_pifF S (n + 1) := by
    funext j
    unfold k_pifF
    by_cases hj : j = n
    · subst hj; rw [if_neg (by omega), if_neg (fun q => q.2 h0)]
    · by_cases h2 : j < n ∧ ¬ S.2 j = -1
      · rw [if_pos h2, if_pos ⟨by omega, h2.2⟩]
      · rw [if_neg h2, if_neg (fun q => h2 ⟨by omega, q.2⟩)]
  have b : k_pifA S n = k_pifA S (n + 1) := by
    funext j
    unfold k_pifA
    by_cases hj : j = n
    · subst hj; rw [if_neg (by omega), if_pos (by omega), h0]
    · by_cases h2 : j < n
      · rw [if_pos h2, if_pos (by omega)]
      · rw [if_neg h2, if_neg (by omega)]
  rw [a, b]
theorem k_pifS2 (S : tSe) (n : Nat) (h : ¬ k_pifA S n n = -1) : (upd (k_pifF S n) n (k_pifA S n n), upd (k_pifA S n) n (-1)) = (k_pifF S (n + 1), k_pifA S (n + 1)) := by
  have e0 : k_pifA S n n = S.2 n := by simp [k_pifA]
  have h0 : ¬ S.2 n = -1 := by rw [← e0]; exact h
  have a : upd (k_pifF S n) n (k_pifA S n n) = k_pifF S (n + 1) := by
    funext j
    by_cases hj : j = n
    · subst hj; rw [pk_us, e0]; unfold k_pifF; rw [if_pos ⟨by omega, h0⟩]
    · rw [pk_un hj]
      unfold k_pifF
      by_cases h2 : j < n ∧ ¬ S.2 j = -1
      · rw [if_pos h2, if_pos ⟨by omega, h2.2⟩]
      · rw [if_neg h2, if_neg (fun q => h2 ⟨by omega, q.2⟩)]
  have b : upd (k_pifA S n) n (-1) = k_pifA S (n + 1) := by
    funext j
    by_cases hj : j = n
    · subst hj; rw [pk_us]; unfold k_pifA; rw [if_pos (by omega)]
    · rw [pk_un hj]
      unfold k_pifA
      by_cases h2 : j < n
      · rw [if_pos h2, if_pos (by omega)]
      · rw [if_neg h2, if_neg (by omega)]
  rw [a, b]
theorem k_anyS1 (S : tSe) (n : Nat) (h : k_pifA S n n = -1) : k_any S n = k_any S (n + 1) := by
  have h0 : S.2 n = -1 := by simpa [k_pifA] using h
  show _ = if S.2 n = -1 then k_any S n else true
  rw [if_pos h0]
theorem k_anyS2 (S : tSe) (n : Nat) (h : ¬ k_pifA S n n = -1) : true = k_any S (n + 1) := by
  have h0 : ¬ S.2 n = -1 := by simpa [k_pifA] using h
  show _ = if S.2 n = -1 then k_any S n else true
  rw [if_neg h0]
theorem nI_ge14 {k : Nat} (h : k < 14) : ¬ (14 : Int32) ≤ nI k := nI_ge (b := 14) h (by decide)
theorem nI_cl14 {k : Nat} (h : k < 14) : (nI k).toNatClampNeg = k := nI_clamp (by omega)
def k_dstep (c : Int32) : Int32 := if 2 * c < 256 then 2 * c else 2 * c ^^^ 263
def k_divN (c : Int32) : Nat → Int32
  | 0 => c
  | n + 1 => k_dstep (k_divN c n)
def k_div (c : Int32) : Int32 := k_divN c 8
def k_sum (R : tFr) : Int32 := k_div (k_div (k_div (k_div (0 ^^^ R.1 0) ^^^ R.1 1) ^^^ R.1 2) ^^^ R.1 3)
def k_sumOk (R : tFr) : Bool := decide (k_sum R = R.1 4)
def k_gets (b : Int32) (R : tFr) : tFr := if R.2 < 0 then (R.1, if b = 126 then 0 else -1) else if R.2 < 5 then (upd R.1 R.2.toNatClampNeg b, R.2 + 1) else (R.1, if b = 126 then 0 else -1)
def k_ends (b : Int32) (R : tFr) : Bool := if R.2 < 0 then false else if R.2 < 5 then decide (R.2 + 1 = 5) else false
theorem kI_keep {kd t : Int32} {M : tMk} (h : kIM M) : kIM (k_keep kd t M) := by
  obtain ⟨h1, h2, h3⟩ := h
  obtain ⟨j, hj, e⟩ := vp_in_of h1 (by decide)
  refine ⟨?_, ?_, ?_⟩
  · show vp_in (k_rem (M.2.2.1 + 1) 12) 12
    unfold k_rem
    rw [e, nI_1, show (12 : Int32) = nI 12 from rfl, pk_rem (by omega) (by decide) (by decide)]
    exact vp_in_nI (Nat.mod_lt _ (by decide)) (by decide)
  · show 0 ≤ (if 12 ≤ M.2.2.2 then M.2.2.2 else M.2.2.2 + 1)
    obtain ⟨i, hi, ei⟩ := nI_of2 (M := 12) (n := 12) (by decide) (fun q => by rw [Int32.lt_iff_toInt_lt] at q; rw [Int32.le_iff_toInt_le] at h2; omega) h3
    split
    · exact h2
    · rw [ei, nI_1]; exact nI_pos' (by omega)
  · show (if 12 ≤ M.2.2.2 then M.2.2.2 else M.2.2.2 + 1) ≤ 12
    obtain ⟨i, hi, ei⟩ := nI_of2 (M := 12) (n := 12) (by decide) (fun q => by rw [Int32.lt_iff_toInt_lt] at q; rw [Int32.le_iff_toInt_le] at h2; omega) h3
    split
    · exact h3
    · rename_i hn
      have : i < 12 := by
        rcases Nat.lt_or_ge i 12 with q | q
        · exact q
        · exact absurd (by rw [ei]; exact nI_le (a := 12) q (by omega)) hn
      rw [ei, nI_1]; exact nI_le (b := 12) (by omega) (by decide)
theorem vp_pl {M : tMk} {k : Int32} (h : kIM M) (hk : k_has M k = true) : vp_in (k_place M k) 12 := by
  obtain ⟨h1, h2, h3⟩ := h
  obtain ⟨j, hj, e⟩ := vp_in_of h1 (by decide)
  simp only [k_has, Bool.and_eq_true, Bool.not_eq_true', decide_eq_false_iff_not] at hk
  obtain ⟨i, hi, ei⟩ := nI_of2 (M := 12) (n := 12) (by decide) (fun q => by rw [Int32.lt_iff_toInt_lt] at q; rw [Int32.le_iff_toInt_le] at h2; omega) h3
  obtain ⟨a, ha, ea⟩ := nI_of hk.1
  have hai : a < i := by
    rcases Nat.lt_or_ge a i with q | q
    · exact q
    · exact absurd (by rw [ei, ea]; exact nI_le q (by omega)) hk.2
  unfold k_place k_rem
  have e2 : M.2.2.1 + 12 - 1 - k = nI (j + 12 - 1 - a) := by
    rw [e, ea, show (12 : Int32) = nI 12 from rfl, nI_add, show (1 : Int32) = nI 1 from rfl, pk_sub (by omega), pk_sub (by omega)]
  rw [e2, show (12 : Int32) = nI 12 from rfl, pk_rem (by omega) (by decide) (by decide)]
  exact vp_in_nI (Nat.mod_lt _ (by decide)) (by decide)
theorem zz_lt_le {x m : Int32} (h : x < m) (q : m ≤ x) : False := by
  rw [Int32.lt_iff_toInt_lt] at h
  rw [Int32.le_iff_toInt_le] at q
  omega

abbrev rmJ7_fill_53178 : Room := { frames := 0, cells := 0, slots := 0, locals := 0 }
abbrev QfJ7_fill_53178 (G : va_G) (cA cB : ClassId) (h0 : Nat) (f : (Nat → Int32)) (v : Int32) : (Nat → Prop) → Array Value → State → Outcome → State → Prop := fun A => va_Qv (fun u : (Nat → Int32) => u = k_fill f 14 v) (zz_B G vwCl (fun u : (Nat → Int32) => (wAr h0 cA cB u)) A) A
set_option maxHeartbeats 4000000 in
set_option maxRecDepth 100000 in
theorem kJ7_fill_53178 (l : Launch) (G : va_G) (cA cB : ClassId) (tb : Nat × Nat × Nat) (h0 : Nat) (sz : Nat) (f : (Nat → Int32)) (v : Int32) : Met l yJ7_fill_53178 wsJ7_fill_53178 rmJ7_fill_53178 (zz_P (zS tb) G vwCl [(cA, .int), (cB, .boolean)] [.ref h0, .int v] (wAr h0 cA cB f) sz) (QfJ7_fill_53178 G cA cB h0 f v (va_A (wAr h0 cA cB f) sz)) 0 0 (va_A (wAr h0 cA cB f) sz) := by
  refine zz_Met (cc := cJ7_fill_53178) (maxL := 4) (ret := none) (Qf := QfJ7_fill_53178 G cA cB h0 f v) (by decide) rfl (Nat.le_of_ble_eq_true rfl) ?_
  intro p e s m below meth c A ls hx hb hr hts hown hlocks hin hml hA hP hK hD hz hS hl
  have hl : lv_has ls 4 [(0, .ref h0), (1, .int v)] := hl
  have hP : va_P G vwCl [(h0, .inl (cA, 14, .inl f))] s.heap := hP
  have hD : va_D A [(h0, .inl (cA, 14, .inl f))] := hD
  refine lv_iconst (v := 0) hx hb dJ7_fill_53178_0 (by decide) ?_
  refine lv_istore_n (lv' := [(2, .int 0), (0, .ref h0), (1, .int v)]) hx hb dJ7_fill_53178_1 rfl hl (by decide) rfl (fun ls hl => ?_)
  refine lv_aload_n hx hb dJ7_fill_53178_2 rfl (lv_at hl 1 rfl) ?_
  refine va_alen hx hb hK hP 0 0 rfl rfl (v := 14) (by decide) dJ7_fill_53178_3 ?_
  refine lv_istore_n (lv' := [(3, .int 14), (2, .int 0), (0, .ref h0), (1, .int v)]) hx hb dJ7_fill_53178_4 rfl hl (by decide) rfl (fun ls hl => ?_)
  have L5_1 : ∀ (n k : Nat), k + n = 14 → ∀ (X_1 : (Nat → Int32)) (hX_1 : X_1 = k_fill f k v) (i : Int32) (hi : i = nI k) (H : Heap) (locs : List Loc) (ls : Array Slot), va_P G vwCl [(h0, .inl (cA, 14, .inl X_1))] H → va_D A [(h0, .inl (cA, 14, .inl X_1))] → va_S A s.heap H locs → lv_has ls 4 [(2, .int i), (3, .int 14), (0, .ref h0), (1, .int v)] → W p l e rmJ7_fill_53178 s m ([.ref h0, .int v] : List Value).toArray below meth c H locs 0 0 (MQ below (QfJ7_fill_53178 G cA cB h0 f v A) ([.ref h0, .int v] : List Value).toArray s 0 0 A) (F0 m 5 ls []) := by
    intro n
    induction n with
    | zero =>
      intro k hk X_1 hX_1 i hi H locs ls hP hD hS hl
      have hk : k = 14 := by omega
      refine lv_iload_n hx hb dJ7_fill_53178_5 rfl (lv_at hl 0 rfl) ?_
      refine lv_iload_n hx hb dJ7_fill_53178_6 rfl (lv_at hl 1 rfl) ?_
      refine lv_icmp_ge (tgt := 20) hx hb dJ7_fill_53178_7 (by decide) (fun _ => ?_) (fun c => absurd (by rw [hi, hk]; decide) c)
      exact zz_rv (X_1 : (Nat → Int32)) hx hb hr hlocks hS hP hD (by subst hi; subst hX_1; subst hk; rfl) dJ7_fill_53178_20
    | succ n ih =>
      intro k hk X_1 hX_1 i hi H locs ls hP hD hS hl
      have hlt : k < 14 := by omega
      refine lv_iload_n hx hb dJ7_fill_53178_5 rfl (lv_at hl 0 rfl) ?_
      refine lv_iload_n hx hb dJ7_fill_53178_6 rfl (lv_at hl 1 rfl) ?_
      refine lv_icmp_ge (tgt := 20) hx hb dJ7_fill_53178_7 (by decide) (fun c => absurd c (by rw [hi]; exact nI_ge14 hlt)) (fun _ => ?_)
      refine lv_aload_n hx hb dJ7_fill_53178_10 rfl (lv_at hl 2 rfl) ?_
      refine lv_iload_n hx hb dJ7_fill_53178_11 rfl (lv_at hl 0 rfl) ?_
      refine lv_iload_n hx hb dJ7_fill_53178_12 rfl (lv_at hl 3 rfl) ?_
      refine va_iast hx hb hK hP hD hS 0 0 rfl rfl (by rw [hi]; exact vp_in_nI hlt (by decide)) dJ7_fill_53178_13 (fun H locs hP hD hS => ?_)
      have hP : va_P G vwCl [(h0, .inl (cA, 14, .inl (upd X_1 i.toNatClampNeg v)))] H := hP
      have hD : va_D A [(h0, .inl (cA, 14, .inl (upd X_1 i.toNatClampNeg v)))] := hD
      refine lv_iinc (v := (i + 1)) (lv' := [(2, .int (i + 1)), (3, .int 14), (0, .ref h0), (1, .int v)]) hx hb dJ7_fill_53178_14 hl (k := 0) rfl rfl (by decide) rfl (fun ls hl => ?_)
      refine lv_goto (tgt := 5) hx hb dJ7_fill_53178_17 (by decide) ?_
      exact ih (k + 1) (by omega) ((upd X_1 i.toNatClampNeg v)) (by subst hi; subst hX_1; first | (rw [nI_cl14 hlt]; exact k_fillS _ _ _) | exact nI_1 k) ((i + 1)) (by subst hi; subst hX_1; first | (rw [nI_cl14 hlt]; exact k_fillS _ _ _) | exact nI_1 k) _ _ _ hP hD hS hl
  have hl := lv_sub hl (l' := [(2, .int 0), (3, .int 14), (0, .ref h0), (1, .int v)]) [1, 0, 2, 3] rfl
  exact L5_1 14 0 (by omega) (f) (by first | exact (k_fill0 _ _).symm | rfl) (0) (by first | exact (k_fill0 _ _).symm | rfl) _ _ _ hP hD hS hl
theorem iX6_mode_X6 : ∀ w ∈ u_ws RX6 TX6 2, w ∈ wsX6_mode := by decide +kernel
theorem mX6_mode_1 : Cond.fieldLink RX6 18 "ChamberPacer$Settings" "forced" "[I" ∈ wsX6_mode := by decide +kernel
abbrev rmX6_mode : Room := { frames := 0, cells := 0, slots := 0, locals := 0 }
abbrev QfX6_mode (G : va_G) (cA cB : ClassId) (h0 h1 h2 : Nat) (S : tSe) : (Nat → Prop) → Array Value → State → Outcome → State → Prop := fun A => va_Qi (fun (r : Int32) (u : Unit) => r = k_mode S) (zz_B G vwCl (fun _ : Unit => (wSe h0 h1 h2 cA cB S)) A) A
set_option maxHeartbeats 4000000 in
set_option maxRecDepth 100000 in
theorem kX6_mode (l : Launch) (G : va_G) (cA cB : ClassId) (tb : Nat × Nat × Nat) (h0 h1 h2 : Nat) (sz : Nat) (S : tSe) : Met l yX6_mode wsX6_mode rmX6_mode (zz_P (zS tb) G vwCl [(cA, .int), (cB, .boolean)] [.ref h0] (wSe h0 h1 h2 cA cB S) sz) (QfX6_mode G cA cB h0 h1 h2 S (va_A (wSe h0 h1 h2 cA cB S) sz)) 0 0 (va_A (wSe h0 h1 h2 cA cB S) sz) := by
  refine zz_Met (cc := cX6_mode) (maxL := 1) (ret := (some .int)) (Qf := QfX6_mode G cA cB h0 h1 h2 S) (by decide) rfl (Nat.le_of_ble_eq_true rfl) ?_
  intro p e s m below meth c A ls hx hb hr hts hown hlocks hin hml hA hP hK hD hz hS hl
  have hl : lv_has ls 1 [(0, .ref h0)] := hl
  have hP : va_P G vwCl [(h0, .inr (6, [.ref h1, .ref h2])), (h1, .inl (cA, 14, .inl S.1)), (h2, .inl (cA, 14, .inl S.2))] s.heap := hP
  have hD : va_D A [(h0, .inr (6, [.ref h1, .ref h2])), (h1, .inl (cA, 14, .inl S.1)), (h2, .inl (cA, 14, .inl S.2))] := hD
  refine lv_aload_n hx hb dX6_mode_0 rfl (lv_at hl 0 rfl) ?_
  refine va_get (D := G) (ci := 6) (v := .ref h1) (C := RX6) (T := TX6) (N := 2) hx hb hts iX6_mode_X6 hown hK hP 0 rfl rfl 0 (by decide) (hts _ mX6_mode_1) (fun _ h9 => h9) rfl dX6_mode_1 ?_
  refine lv_iconst (v := 0) hx hb dX6_mode_4 (by decide) ?_
  refine va_iald hx hb hK hP 1 0 rfl rfl (by decide) dX6_mode_5 ?_
  exact zz_ri (v := (S.1 (0 : Int32).toNatClampNeg)) () hx hb hr hlocks hS hP hD (by first | rfl | (simp [])) dX6_mode_6
theorem iX6_inForce_X6 : ∀ w ∈ u_ws RX6 TX6 2, w ∈ wsX6_inForce := by decide +kernel
theorem mX6_inForce_1 : Cond.fieldLink RX6 18 "ChamberPacer$Settings" "forced" "[I" ∈ wsX6_inForce := by decide +kernel
abbrev rmX6_inForce : Room := { frames := 1, cells := 0, slots := 0, locals := 20 }
abbrev QfX6_inForce (G : va_G) (cA cB : ClassId) (h0 h1 h2 : Nat) (S : tSe) (k : Int32) : (Nat → Prop) → Array Value → State → Outcome → State → Prop := fun A => va_Qi (fun (r : Int32) (u : Unit) => r = k_inF S k) (zz_B G vwCl (fun _ : Unit => (wSe h0 h1 h2 cA cB S)) A) A
set_option maxHeartbeats 4000000 in
set_option maxRecDepth 100000 in
theorem kX6_inForce (l : Launch) (G : va_G) (cA cB : ClassId) (tb : Nat × Nat × Nat) (h0 h1 h2 : Nat) (sz : Nat) (S : tSe) (k : Int32) : Met l yX6_inForce wsX6_inForce rmX6_inForce (zz_P (zS tb) G vwCl [(cA, .int), (cB, .boolean)] [.ref h0, .int k] (wSe h0 h1 h2 cA cB S) sz) (QfX6_inForce G cA cB h0 h1 h2 S k (va_A (wSe h0 h1 h2 cA cB S) sz)) 0 0 (va_A (wSe h0 h1 h2 cA cB S) sz) := by
  refine zz_Met (cc := cX6_inForce) (maxL := 2) (ret := (some .int)) (Qf := QfX6_inForce G cA cB h0 h1 h2 S k) (by decide) rfl (Nat.le_of_ble_eq_true rfl) ?_
  intro p e s m below meth c A ls hx hb hr hts hown hlocks hin hml hA hP hK hD hz hS hl
  have hl : lv_has ls 2 [(0, .ref h0), (1, .int k)] := hl
  have hP : va_P G vwCl [(h0, .inr (6, [.ref h1, .ref h2])), (h1, .inl (cA, 14, .inl S.1)), (h2, .inl (cA, 14, .inl S.2))] s.heap := hP
  have hD : va_D A [(h0, .inr (6, [.ref h1, .ref h2])), (h1, .inl (cA, 14, .inl S.1)), (h2, .inl (cA, 14, .inl S.2))] := hD
  refine lv_iload_n hx hb dX6_inForce_0 rfl (lv_at hl 1 rfl) ?_
  refine zz_ci (va_runS (As := [.int k]) (rest := []) ⟨hx, hb, hml, hown, hts⟩ (kX6_exists l G cA cB tb s.heap.size k) (va_cwS 1 hts gX6_inForce_X6_exists rfl rfl rfl (by decide +kernel) ⟨Nat.le_of_ble_eq_true rfl, Nat.le_of_ble_eq_true rfl⟩) (zz_preS zS_ok hK hP hD hS hA hz [] rfl (by decide)) rfl rfl hl.1 rfl (lv_room (Nat.le_of_ble_eq_true rfl)) dX6_inForce_1 ⟨Nat.zero_le _, Nat.zero_le _⟩) hP hD hS hA [] [0, 1, 2] rfl rfl (by decide) (by decide) (fun r u H locs hw hP hD hS => ?_)
  subst hw
  have hP : va_P G vwCl [(h0, .inr (6, [.ref h1, .ref h2])), (h1, .inl (cA, 14, .inl S.1)), (h2, .inl (cA, 14, .inl S.2))] H := hP
  have hD : va_D A [(h0, .inr (6, [.ref h1, .ref h2])), (h1, .inl (cA, 14, .inl S.1)), (h2, .inl (cA, 14, .inl S.2))] := hD
  refine lv_if_eq (tgt := 16) hx hb dX6_inForce_4 (by decide) (fun c_1 => ?_) (fun c_1 => ?_)
  · have c_1 := bI_f c_1
    refine lv_iconst (v := (-1)) hx hb dX6_inForce_16 (by decide) ?_
    exact zz_ri (v := (-1)) () hx hb hr hlocks hS hP hD (by first | (simp [k_inF, c_1]; done) | rfl) dX6_inForce_17
  · have c_1 := bI_t c_1
    refine lv_aload_n hx hb dX6_inForce_7 rfl (lv_at hl 0 rfl) ?_
    refine va_get (D := G) (ci := 6) (v := .ref h1) (C := RX6) (T := TX6) (N := 2) hx hb hts iX6_inForce_X6 hown hK hP 0 rfl rfl 0 (by decide) (hts _ mX6_inForce_1) (fun _ h9 => h9) rfl dX6_inForce_8 ?_
    refine lv_iload_n hx hb dX6_inForce_11 rfl (lv_at hl 1 rfl) ?_
    refine va_iald hx hb hK hP 1 0 rfl rfl (vp_ex c_1) dX6_inForce_12 ?_
    refine lv_goto (tgt := 17) hx hb dX6_inForce_13 (by decide) ?_
    exact zz_ri (v := (S.1 k.toNatClampNeg)) () hx hb hr hlocks hS hP hD (by first | (simp [k_inF, c_1]; done) | rfl) dX6_inForce_17
theorem iX6_pending_X6 : ∀ w ∈ u_ws RX6 TX6 2, w ∈ wsX6_pending := by decide +kernel
theorem mX6_pending_1 : Cond.fieldLink RX6 23 "ChamberPacer$Settings" "asked" "[I" ∈ wsX6_pending := by decide +kernel
abbrev rmX6_pending : Room := { frames := 1, cells := 0, slots := 0, locals := 20 }
abbrev QfX6_pending (G : va_G) (cA cB : ClassId) (h0 h1 h2 : Nat) (S : tSe) (k : Int32) : (Nat → Prop) → Array Value → State → Outcome → State → Prop := fun A => va_Qi (fun (r : Int32) (u : Unit) => r = k_pend S k) (zz_B G vwCl (fun _ : Unit => (wSe h0 h1 h2 cA cB S)) A) A
set_option maxHeartbeats 4000000 in
set_option maxRecDepth 100000 in
theorem kX6_pending (l : Launch) (G : va_G) (cA cB : ClassId) (tb : Nat × Nat × Nat) (h0 h1 h2 : Nat) (sz : Nat) (S : tSe) (k : Int32) : Met l yX6_pending wsX6_pending rmX6_pending (zz_P (zS tb) G vwCl [(cA, .int), (cB, .boolean)] [.ref h0, .int k] (wSe h0 h1 h2 cA cB S) sz) (QfX6_pending G cA cB h0 h1 h2 S k (va_A (wSe h0 h1 h2 cA cB S) sz)) 0 0 (va_A (wSe h0 h1 h2 cA cB S) sz) := by
  refine zz_Met (cc := cX6_pending) (maxL := 2) (ret := (some .int)) (Qf := QfX6_pending G cA cB h0 h1 h2 S k) (by decide) rfl (Nat.le_of_ble_eq_true rfl) ?_
  intro p e s m below meth c A ls hx hb hr hts hown hlocks hin hml hA hP hK hD hz hS hl
  have hl : lv_has ls 2 [(0, .ref h0), (1, .int k)] := hl
  have hP : va_P G vwCl [(h0, .inr (6, [.ref h1, .ref h2])), (h1, .inl (cA, 14, .inl S.1)), (h2, .inl (cA, 14, .inl S.2))] s.heap := hP
  have hD : va_D A [(h0, .inr (6, [.ref h1, .ref h2])), (h1, .inl (cA, 14, .inl S.1)), (h2, .inl (cA, 14, .inl S.2))] := hD
  refine lv_iload_n hx hb dX6_pending_0 rfl (lv_at hl 1 rfl) ?_
  refine zz_ci (va_runS (As := [.int k]) (rest := []) ⟨hx, hb, hml, hown, hts⟩ (kX6_exists l G cA cB tb s.heap.size k) (va_cwS 1 hts gX6_pending_X6_exists rfl rfl rfl (by decide +kernel) ⟨Nat.le_of_ble_eq_true rfl, Nat.le_of_ble_eq_true rfl⟩) (zz_preS zS_ok hK hP hD hS hA hz [] rfl (by decide)) rfl rfl hl.1 rfl (lv_room (Nat.le_of_ble_eq_true rfl)) dX6_pending_1 ⟨Nat.zero_le _, Nat.zero_le _⟩) hP hD hS hA [] [0, 1, 2] rfl rfl (by decide) (by decide) (fun r u H locs hw hP hD hS => ?_)
  subst hw
  have hP : va_P G vwCl [(h0, .inr (6, [.ref h1, .ref h2])), (h1, .inl (cA, 14, .inl S.1)), (h2, .inl (cA, 14, .inl S.2))] H := hP
  have hD : va_D A [(h0, .inr (6, [.ref h1, .ref h2])), (h1, .inl (cA, 14, .inl S.1)), (h2, .inl (cA, 14, .inl S.2))] := hD
  refine lv_if_eq (tgt := 16) hx hb dX6_pending_4 (by decide) (fun c_1 => ?_) (fun c_1 => ?_)
  · have c_1 := bI_f c_1
    refine lv_iconst (v := (-1)) hx hb dX6_pending_16 (by decide) ?_
    exact zz_ri (v := (-1)) () hx hb hr hlocks hS hP hD (by first | (simp [k_pend, c_1]; done) | rfl) dX6_pending_17
  · have c_1 := bI_t c_1
    refine lv_aload_n hx hb dX6_pending_7 rfl (lv_at hl 0 rfl) ?_
    refine va_get (D := G) (ci := 6) (v := .ref h2) (C := RX6) (T := TX6) (N := 2) hx hb hts iX6_pending_X6 hown hK hP 0 rfl rfl 1 (by decide) (hts _ mX6_pending_1) (fun _ h9 => h9) rfl dX6_pending_8 ?_
    refine lv_iload_n hx hb dX6_pending_11 rfl (lv_at hl 1 rfl) ?_
    refine va_iald hx hb hK hP 2 0 rfl rfl (vp_ex c_1) dX6_pending_12 ?_
    refine lv_goto (tgt := 17) hx hb dX6_pending_13 (by decide) ?_
    exact zz_ri (v := (S.2 k.toNatClampNeg)) () hx hb hr hlocks hS hP hD (by first | (simp [k_pend, c_1]; done) | rfl) dX6_pending_17
abbrev rmX6_latest : Room := { frames := 2, cells := 0, slots := 0, locals := 41 }
abbrev QfX6_latest (G : va_G) (cA cB : ClassId) (h0 h1 h2 : Nat) (S : tSe) (k : Int32) : (Nat → Prop) → Array Value → State → Outcome → State → Prop := fun A => va_Qi (fun (r : Int32) (u : Unit) => r = k_latest S k) (zz_B G vwCl (fun _ : Unit => (wSe h0 h1 h2 cA cB S)) A) A
set_option maxHeartbeats 4000000 in
set_option maxRecDepth 100000 in
theorem kX6_latest (l : Launch) (G : va_G) (cA cB : ClassId) (tb : Nat × Nat × Nat) (h0 h1 h2 : Nat) (sz : Nat) (S : tSe) (k : Int32) : Met l yX6_latest wsX6_latest rmX6_latest (zz_P (zS tb) G vwCl [(cA, .int), (cB, .boolean)] [.ref h0, .int k] (wSe h0 h1 h2 cA cB S) sz) (QfX6_latest G cA cB h0 h1 h2 S k (va_A (wSe h0 h1 h2 cA cB S) sz)) 0 0 (va_A (wSe h0 h1 h2 cA cB S) sz) := by
  refine zz_Met (cc := cX6_latest) (maxL := 3) (ret := (some .int)) (Qf := QfX6_latest G cA cB h0 h1 h2 S k) (by decide) rfl (Nat.le_of_ble_eq_true rfl) ?_
  intro p e s m below meth c A ls hx hb hr hts hown hlocks hin hml hA hP hK hD hz hS hl
  have hl : lv_has ls 3 [(0, .ref h0), (1, .int k)] := hl
  have hP : va_P G vwCl [(h0, .inr (6, [.ref h1, .ref h2])), (h1, .inl (cA, 14, .inl S.1)), (h2, .inl (cA, 14, .inl S.2))] s.heap := hP
  have hD : va_D A [(h0, .inr (6, [.ref h1, .ref h2])), (h1, .inl (cA, 14, .inl S.1)), (h2, .inl (cA, 14, .inl S.2))] := hD
  refine lv_aload_n hx hb dX6_latest_0 rfl (lv_at hl 0 rfl) ?_
  refine lv_iload_n hx hb dX6_latest_1 rfl (lv_at hl 1 rfl) ?_
  refine zz_ci (va_runV (As := [.int k]) (rest := []) ⟨hx, hb, hml, hown, hts⟩ (kX6_pending l G cA cB tb h0 h1 h2 s.heap.size S k) (cwV 1 hts gX6_latest_X6_pending rfl rfl rfl (by decide +kernel) ⟨Nat.le_of_ble_eq_true rfl, Nat.le_of_ble_eq_true rfl⟩) (zz_preV zS_ok hK hP hD hS hA hz [0, 1, 2] rfl (by decide) (ci := 6) (q0 := 0) (C := RX6) rfl rfl) rfl rfl hl.1 rfl (lv_room (Nat.le_of_ble_eq_true rfl)) dX6_latest_2 ⟨Nat.zero_le _, Nat.zero_le _⟩) hP hD hS hA [0, 1, 2] [] rfl rfl (by decide) (by decide) (fun r u H locs hw hP hD hS => ?_)
  subst hw
  have hP : va_P G vwCl [(h0, .inr (6, [.ref h1, .ref h2])), (h1, .inl (cA, 14, .inl S.1)), (h2, .inl (cA, 14, .inl S.2))] H := hP
  have hD : va_D A [(h0, .inr (6, [.ref h1, .ref h2])), (h1, .inl (cA, 14, .inl S.1)), (h2, .inl (cA, 14, .inl S.2))] := hD
  refine lv_istore_n (lv' := [(2, .int (k_pend S k)), (0, .ref h0), (1, .int k)]) hx hb dX6_latest_5 rfl hl (by decide) rfl (fun ls hl => ?_)
  refine lv_iload_n hx hb dX6_latest_6 rfl (lv_at hl 0 rfl) ?_
  refine lv_iconst (v := (-1)) hx hb dX6_latest_7 (by decide) ?_
  refine lv_icmp_ne (tgt := 19) hx hb dX6_latest_8 (by decide) (fun c_1 => ?_) (fun c_1 => ?_)
  · refine lv_iload_n hx hb dX6_latest_19 rfl (lv_at hl 0 rfl) ?_
    exact zz_ri (v := (k_pend S k)) () hx hb hr hlocks hS hP hD (by first | (simp [k_latest, c_1]; done) | rfl) dX6_latest_20
  · refine lv_aload_n hx hb dX6_latest_11 rfl (lv_at hl 1 rfl) ?_
    refine lv_iload_n hx hb dX6_latest_12 rfl (lv_at hl 2 rfl) ?_
    refine zz_ci (va_runV (As := [.int k]) (rest := []) ⟨hx, hb, hml, hown, hts⟩ (kX6_inForce l G cA cB tb h0 h1 h2 H.size S k) (cwV 1 hts gX6_latest_X6_inForce rfl rfl rfl (by decide +kernel) ⟨Nat.le_of_ble_eq_true rfl, Nat.le_of_ble_eq_true rfl⟩) (zz_preV zS_ok hK hP hD hS hA hz [0, 1, 2] rfl (by decide) (ci := 6) (q0 := 0) (C := RX6) rfl rfl) rfl rfl hl.1 rfl (lv_room (Nat.le_of_ble_eq_true rfl)) dX6_latest_13 ⟨Nat.zero_le _, Nat.zero_le _⟩) hP hD hS hA [0, 1, 2] [] rfl rfl (by decide) (by decide) (fun r u H locs hw hP hD hS => ?_)
    subst hw
    have hP : va_P G vwCl [(h0, .inr (6, [.ref h1, .ref h2])), (h1, .inl (cA, 14, .inl S.1)), (h2, .inl (cA, 14, .inl S.2))] H := hP
    have hD : va_D A [(h0, .inr (6, [.ref h1, .ref h2])), (h1, .inl (cA, 14, .inl S.1)), (h2, .inl (cA, 14, .inl S.2))] := hD
    refine lv_goto (tgt := 20) hx hb dX6_latest_16 (by decide) ?_
    exact zz_ri (v := (k_inF S k)) () hx hb hr hlocks hS hP hD (by first | (simp [k_latest, c_1]; done) | rfl) dX6_latest_20
theorem iX6_ask_X6 : ∀ w ∈ u_ws RX6 TX6 2, w ∈ wsX6_ask := by decide +kernel
theorem mX6_ask_1 : Cond.fieldLink RX6 23 "ChamberPacer$Settings" "asked" "[I" ∈ wsX6_ask := by decide +kernel
abbrev rmX6_ask : Room := { frames := 2, cells := 0, slots := 0, locals := 41 }
abbrev QfX6_ask (G : va_G) (cA cB : ClassId) (h0 h1 h2 : Nat) (S : tSe) (k : Int32) (a : Int32) : (Nat → Prop) → Array Value → State → Outcome → State → Prop := fun A => va_Qv (fun u : tSe => u = k_ask S k a) (zz_B G vwCl (fun u : tSe => (wSe h0 h1 h2 cA cB u)) A) A
set_option maxHeartbeats 4000000 in
set_option maxRecDepth 100000 in
theorem kX6_ask (l : Launch) (G : va_G) (cA cB : ClassId) (tb : Nat × Nat × Nat) (h0 h1 h2 : Nat) (sz : Nat) (S : tSe) (k : Int32) (a : Int32) : Met l yX6_ask wsX6_ask rmX6_ask (zz_P (zS tb) G vwCl [(cA, .int), (cB, .boolean)] [.ref h0, .int k, .int a] (wSe h0 h1 h2 cA cB S) sz) (QfX6_ask G cA cB h0 h1 h2 S k a (va_A (wSe h0 h1 h2 cA cB S) sz)) 0 0 (va_A (wSe h0 h1 h2 cA cB S) sz) := by
  refine zz_Met (cc := cX6_ask) (maxL := 3) (ret := none) (Qf := QfX6_ask G cA cB h0 h1 h2 S k a) (by decide) rfl (Nat.le_of_ble_eq_true rfl) ?_
  intro p e s m below meth c A ls hx hb hr hts hown hlocks hin hml hA hP hK hD hz hS hl
  have hl : lv_has ls 3 [(0, .ref h0), (1, .int k), (2, .int a)] := hl
  have hP : va_P G vwCl [(h0, .inr (6, [.ref h1, .ref h2])), (h1, .inl (cA, 14, .inl S.1)), (h2, .inl (cA, 14, .inl S.2))] s.heap := hP
  have hD : va_D A [(h0, .inr (6, [.ref h1, .ref h2])), (h1, .inl (cA, 14, .inl S.1)), (h2, .inl (cA, 14, .inl S.2))] := hD
  refine lv_iload_n hx hb dX6_ask_0 rfl (lv_at hl 1 rfl) ?_
  refine lv_iload_n hx hb dX6_ask_1 rfl (lv_at hl 2 rfl) ?_
  refine zz_ci (va_runS (As := [.int k, .int a]) (rest := []) ⟨hx, hb, hml, hown, hts⟩ (kX6_allows l G cA cB tb s.heap.size k a) (va_cwS 2 hts gX6_ask_X6_allows rfl rfl rfl (by decide +kernel) ⟨Nat.le_of_ble_eq_true rfl, Nat.le_of_ble_eq_true rfl⟩) (zz_preS zS_ok hK hP hD hS hA hz [] rfl (by decide)) rfl rfl hl.1 rfl (lv_room (Nat.le_of_ble_eq_true rfl)) dX6_ask_2 ⟨Nat.zero_le _, Nat.zero_le _⟩) hP hD hS hA [] [0, 1, 2] rfl rfl (by decide) (by decide) (fun r u H locs hw hP hD hS => ?_)
  subst hw
  have hP : va_P G vwCl [(h0, .inr (6, [.ref h1, .ref h2])), (h1, .inl (cA, 14, .inl S.1)), (h2, .inl (cA, 14, .inl S.2))] H := hP
  have hD : va_D A [(h0, .inr (6, [.ref h1, .ref h2])), (h1, .inl (cA, 14, .inl S.1)), (h2, .inl (cA, 14, .inl S.2))] := hD
  refine lv_if_eq (tgt := 15) hx hb dX6_ask_5 (by decide) (fun c_1 => ?_) (fun c_1 => ?_)
  · have c_1 := bI_f c_1
    exact zz_rv (S : tSe) hx hb hr hlocks hS hP hD (by first | (simp [k_ask, c_1]; done) | rfl) dX6_ask_15
  · have c_1 := bI_t c_1
    refine lv_aload_n hx hb dX6_ask_8 rfl (lv_at hl 0 rfl) ?_
    refine va_get (D := G) (ci := 6) (v := .ref h2) (C := RX6) (T := TX6) (N := 2) hx hb hts iX6_ask_X6 hown hK hP 0 rfl rfl 1 (by decide) (hts _ mX6_ask_1) (fun _ h9 => h9) rfl dX6_ask_9 ?_
    refine lv_iload_n hx hb dX6_ask_12 rfl (lv_at hl 1 rfl) ?_
    refine lv_iload_n hx hb dX6_ask_13 rfl (lv_at hl 2 rfl) ?_
    refine va_iast hx hb hK hP hD hS 2 0 rfl rfl (vp_al c_1) dX6_ask_14 (fun H locs hP hD hS => ?_)
    have hP : va_P G vwCl [(h0, .inr (6, [.ref h1, .ref h2])), (h1, .inl (cA, 14, .inl S.1)), (h2, .inl (cA, 14, .inl (upd S.2 k.toNatClampNeg a)))] H := hP
    have hD : va_D A [(h0, .inr (6, [.ref h1, .ref h2])), (h1, .inl (cA, 14, .inl S.1)), (h2, .inl (cA, 14, .inl (upd S.2 k.toNatClampNeg a)))] := hD
    exact zz_rv ((S.1, (upd S.2 k.toNatClampNeg a)) : tSe) hx hb hr hlocks hS hP hD (by first | (simp [k_ask, c_1]; done) | rfl) dX6_ask_15
theorem iX6_dropPending_X6 : ∀ w ∈ u_ws RX6 TX6 2, w ∈ wsX6_dropPending := by decide +kernel
theorem mX6_dropPending_1 : Cond.fieldLink RX6 23 "ChamberPacer$Settings" "asked" "[I" ∈ wsX6_dropPending := by decide +kernel
abbrev rmX6_dropPending : Room := { frames := 1, cells := 0, slots := 0, locals := 23 }
abbrev QfX6_dropPending (G : va_G) (cA cB : ClassId) (h0 h1 h2 : Nat) (S : tSe) : (Nat → Prop) → Array Value → State → Outcome → State → Prop := fun A => va_Qv (fun u : tSe => u = k_drop S) (zz_B G vwCl (fun u : tSe => (wSe h0 h1 h2 cA cB u)) A) A
set_option maxHeartbeats 4000000 in
set_option maxRecDepth 100000 in
theorem kX6_dropPending (l : Launch) (G : va_G) (cA cB : ClassId) (tb : Nat × Nat × Nat) (h0 h1 h2 : Nat) (sz : Nat) (S : tSe) : Met l yX6_dropPending wsX6_dropPending rmX6_dropPending (zz_P (zS tb) G vwCl [(cA, .int), (cB, .boolean)] [.ref h0] (wSe h0 h1 h2 cA cB S) sz) (QfX6_dropPending G cA cB h0 h1 h2 S (va_A (wSe h0 h1 h2 cA cB S) sz)) 0 0 (va_A (wSe h0 h1 h2 cA cB S) sz) := by
  refine zz_Met (cc := cX6_dropPending) (maxL := 1) (ret := none) (Qf := QfX6_dropPending G cA cB h0 h1 h2 S) (by decide) rfl (Nat.le_of_ble_eq_true rfl) ?_
  intro p e s m below meth c A ls hx hb hr hts hown hlocks hin hml hA hP hK hD hz hS hl
  have hl : lv_has ls 1 [(0, .ref h0)] := hl
  have hP : va_P G vwCl [(h0, .inr (6, [.ref h1, .ref h2])), (h1, .inl (cA, 14, .inl S.1)), (h2, .inl (cA, 14, .inl S.2))] s.heap := hP
  have hD : va_D A [(h0, .inr (6, [.ref h1, .ref h2])), (h1, .inl (cA, 14, .inl S.1)), (h2, .inl (cA, 14, .inl S.2))] := hD
  refine lv_aload_n hx hb dX6_dropPending_0 rfl (lv_at hl 0 rfl) ?_
  refine va_get (D := G) (ci := 6) (v := .ref h2) (C := RX6) (T := TX6) (N := 2) hx hb hts iX6_dropPending_X6 hown hK hP 0 rfl rfl 1 (by decide) (hts _ mX6_dropPending_1) (fun _ h9 => h9) rfl dX6_dropPending_1 ?_
  refine lv_iconst (v := (-1)) hx hb dX6_dropPending_4 (by decide) ?_
  refine zz_cv (va_runS (As := [.ref h2, .int (-1)]) (rest := []) ⟨hx, hb, hml, hown, hts⟩ (kJ7_fill_53178 l G cA cB tb h2 s.heap.size S.2 (-1)) (va_cwS 2 hts gX6_dropPending_J7_fill_53178 rfl rfl rfl (by decide +kernel) ⟨Nat.le_of_ble_eq_true rfl, Nat.le_of_ble_eq_true rfl⟩) (zz_preS zS_ok hK hP hD hS hA hz [2] rfl (by decide)) rfl rfl hl.1 rfl (lv_room (Nat.le_of_ble_eq_true rfl)) dX6_dropPending_5 ⟨Nat.zero_le _, Nat.zero_le _⟩) hP hD hS hA [2] [0, 1] rfl rfl (by decide) (by decide) (fun u H locs hw hP hD hS => ?_)
  subst hw
  have hP : va_P G vwCl [(h0, .inr (6, [.ref h1, .ref h2])), (h1, .inl (cA, 14, .inl S.1)), (h2, .inl (cA, 14, .inl (k_fill S.2 14 (-1))))] H := hP
  have hD : va_D A [(h0, .inr (6, [.ref h1, .ref h2])), (h1, .inl (cA, 14, .inl S.1)), (h2, .inl (cA, 14, .inl (k_fill S.2 14 (-1))))] := hD
  exact zz_rv ((S.1, (k_fill S.2 14 (-1))) : tSe) hx hb hr hlocks hS hP hD (by first | rfl | (simp [])) dX6_dropPending_8
theorem iX6_putInForce_X6 : ∀ w ∈ u_ws RX6 TX6 2, w ∈ wsX6_putInForce := by decide +kernel
theorem mX6_putInForce_1 : Cond.fieldLink RX6 23 "ChamberPacer$Settings" "asked" "[I" ∈ wsX6_putInForce := by decide +kernel
theorem mX6_putInForce_2 : Cond.fieldLink RX6 18 "ChamberPacer$Settings" "forced" "[I" ∈ wsX6_putInForce := by decide +kernel
abbrev rmX6_putInForce : Room := { frames := 0, cells := 0, slots := 0, locals := 0 }
abbrev QfX6_putInForce (G : va_G) (cA cB : ClassId) (h0 h1 h2 : Nat) (S : tSe) : (Nat → Prop) → Array Value → State → Outcome → State → Prop := fun A => va_Qi (fun (r : Int32) (u : tSe) => r = bI (k_any S 14) ∧ u = k_pif S) (zz_B G vwCl (fun u : tSe => (wSe h0 h1 h2 cA cB u)) A) A
set_option maxHeartbeats 4000000 in
set_option maxRecDepth 100000 in
theorem kX6_putInForce (l : Launch) (G : va_G) (cA cB : ClassId) (tb : Nat × Nat × Nat) (h0 h1 h2 : Nat) (sz : Nat) (S : tSe) : Met l yX6_putInForce wsX6_putInForce rmX6_putInForce (zz_P (zS tb) G vwCl [(cA, .int), (cB, .boolean)] [.ref h0] (wSe h0 h1 h2 cA cB S) sz) (QfX6_putInForce G cA cB h0 h1 h2 S (va_A (wSe h0 h1 h2 cA cB S) sz)) 0 0 (va_A (wSe h0 h1 h2 cA cB S) sz) := by
  refine zz_Met (cc := cX6_putInForce) (maxL := 3) (ret := (some .boolean)) (Qf := QfX6_putInForce G cA cB h0 h1 h2 S) (by decide) rfl (Nat.le_of_ble_eq_true rfl) ?_
  intro p e s m below meth c A ls hx hb hr hts hown hlocks hin hml hA hP hK hD hz hS hl
  have hl : lv_has ls 3 [(0, .ref h0)] := hl
  have hP : va_P G vwCl [(h0, .inr (6, [.ref h1, .ref h2])), (h1, .inl (cA, 14, .inl S.1)), (h2, .inl (cA, 14, .inl S.2))] s.heap := hP
  have hD : va_D A [(h0, .inr (6, [.ref h1, .ref h2])), (h1, .inl (cA, 14, .inl S.1)), (h2, .inl (cA, 14, .inl S.2))] := hD
  refine lv_iconst (v := 0) hx hb dX6_putInForce_0 (by decide) ?_
  refine lv_istore_n (lv' := [(1, .int 0), (0, .ref h0)]) hx hb dX6_putInForce_1 rfl hl (by decide) rfl (fun ls hl => ?_)
  refine lv_iconst (v := 0) hx hb dX6_putInForce_2 (by decide) ?_
  refine lv_istore_n (lv' := [(2, .int 0), (1, .int 0), (0, .ref h0)]) hx hb dX6_putInForce_3 rfl hl (by decide) rfl (fun ls hl => ?_)
  have L4_1 : ∀ (n k : Nat), k + n = 14 → ∀ (X_1 : tSe) (hX_1 : X_1 = (k_pifF S k, k_pifA S k)) (b : Bool) (hb : b = k_any S k) (i : Int32) (hi : i = nI k) (H : Heap) (locs : List Loc) (ls : Array Slot), va_P G vwCl [(h0, .inr (6, [.ref h1, .ref h2])), (h1, .inl (cA, 14, .inl X_1.1)), (h2, .inl (cA, 14, .inl X_1.2))] H → va_D A [(h0, .inr (6, [.ref h1, .ref h2])), (h1, .inl (cA, 14, .inl X_1.1)), (h2, .inl (cA, 14, .inl X_1.2))] → va_S A s.heap H locs → lv_has ls 3 [(2, .int i), (1, .int (bI b)), (0, .ref h0)] → W p l e rmX6_putInForce s m ([.ref h0] : List Value).toArray below meth c H locs 0 0 (MQ below (QfX6_putInForce G cA cB h0 h1 h2 S A) ([.ref h0] : List Value).toArray s 0 0 A) (F0 m 4 ls []) := by
    intro n
    induction n with
    | zero =>
      intro k hk X_1 hX_1 b hb i hi H locs ls hP hD hS hl
      have hk : k = 14 := by omega
      refine lv_iload_n hx hb dX6_putInForce_4 rfl (lv_at hl 0 rfl) ?_
      refine lv_bipush (v := 14) hx hb dX6_putInForce_5 (by decide) ?_
      refine lv_icmp_ge (tgt := 47) hx hb dX6_putInForce_7 (by decide) (fun _ => ?_) (fun c => absurd (by rw [hi, hk]; decide) c)
      refine lv_iload_n hx hb dX6_putInForce_47 rfl (lv_at hl 1 rfl) ?_
      exact zz_rz (v := (bI b)) (X_1 : tSe) hx hb hr (bI_n _) hlocks hS hP hD ⟨by subst hi; subst hb; subst hX_1; subst hk; rfl, by subst hi; subst hb; subst hX_1; subst hk; rfl⟩ dX6_putInForce_48
    | succ n ih =>
      intro k hk X_1 hX_1 b hb i hi H locs ls hP hD hS hl
      have hlt : k < 14 := by omega
      refine lv_iload_n hx hb dX6_putInForce_4 rfl (lv_at hl 0 rfl) ?_
      refine lv_bipush (v := 14) hx hb dX6_putInForce_5 (by decide) ?_
      refine lv_icmp_ge (tgt := 47) hx hb dX6_putInForce_7 (by decide) (fun c => absurd c (by rw [hi]; exact nI_ge14 hlt)) (fun _ => ?_)
      refine lv_aload_n hx hb dX6_putInForce_10 rfl (lv_at hl 2 rfl) ?_
      refine va_get (D := G) (ci := 6) (v := .ref h2) (C := RX6) (T := TX6) (N := 2) hx hb hts iX6_putInForce_X6 hown hK hP 0 rfl rfl 1 (by decide) (hts _ mX6_putInForce_1) (fun _ h9 => h9) rfl dX6_putInForce_11 ?_
      refine lv_iload_n hx hb dX6_putInForce_14 rfl (lv_at hl 0 rfl) ?_
      refine va_iald hx hb hK hP 2 0 rfl rfl (by rw [hi]; exact vp_in_nI hlt (by decide)) dX6_putInForce_15 ?_
      refine lv_iconst (v := (-1)) hx hb dX6_putInForce_16 (by decide) ?_
      refine lv_icmp_eq (tgt := 41) hx hb dX6_putInForce_17 (by decide) (fun c_2 => ?_) (fun c_2 => ?_)
      · refine lv_iinc (v := (i + 1)) (lv' := [(2, .int (i + 1)), (1, .int (bI b)), (0, .ref h0)]) hx hb dX6_putInForce_41 hl (k := 0) rfl rfl (by decide) rfl (fun ls hl => ?_)
        refine lv_goto (tgt := 4) hx hb dX6_putInForce_44 (by decide) ?_
        exact ih (k + 1) (by omega) (X_1) (by subst hi; subst hb; subst hX_1; first | exact nI_1 k | exact k_pifS1 S k (by rw [← nI_cl14 hlt]; assumption) | exact k_pifS2 S k (by assumption) | (rw [nI_cl14 hlt] at *; first | exact k_pifS1 S k (by assumption) | exact k_pifS2 S k (by assumption) | exact k_anyS1 S k (by assumption) | exact k_anyS2 S k (by assumption))) (b) (by subst hi; subst hb; subst hX_1; first | exact nI_1 k | exact k_pifS1 S k (by rw [← nI_cl14 hlt]; assumption) | exact k_pifS2 S k (by assumption) | (rw [nI_cl14 hlt] at *; first | exact k_pifS1 S k (by assumption) | exact k_pifS2 S k (by assumption) | exact k_anyS1 S k (by assumption) | exact k_anyS2 S k (by assumption))) ((i + 1)) (by subst hi; subst hb; subst hX_1; first | exact nI_1 k | exact k_pifS1 S k (by rw [← nI_cl14 hlt]; assumption) | exact k_pifS2 S k (by assumption) | (rw [nI_cl14 hlt] at *; first | exact k_pifS1 S k (by assumption) | exact k_pifS2 S k (by assumption) | exact k_anyS1 S k (by assumption) | exact k_anyS2 S k (by assumption))) _ _ _ hP hD hS hl
      · refine lv_aload_n hx hb dX6_putInForce_20 rfl (lv_at hl 2 rfl) ?_
        refine va_get (D := G) (ci := 6) (v := .ref h1) (C := RX6) (T := TX6) (N := 2) hx hb hts iX6_putInForce_X6 hown hK hP 0 rfl rfl 0 (by decide) (hts _ mX6_putInForce_2) (fun _ h9 => h9) rfl dX6_putInForce_21 ?_
        refine lv_iload_n hx hb dX6_putInForce_24 rfl (lv_at hl 0 rfl) ?_
        refine lv_aload_n hx hb dX6_putInForce_25 rfl (lv_at hl 2 rfl) ?_
        refine va_get (D := G) (ci := 6) (v := .ref h2) (C := RX6) (T := TX6) (N := 2) hx hb hts iX6_putInForce_X6 hown hK hP 0 rfl rfl 1 (by decide) (hts _ mX6_putInForce_1) (fun _ h9 => h9) rfl dX6_putInForce_26 ?_
        refine lv_iload_n hx hb dX6_putInForce_29 rfl (lv_at hl 0 rfl) ?_
        refine va_iald hx hb hK hP 2 0 rfl rfl (by rw [hi]; exact vp_in_nI hlt (by decide)) dX6_putInForce_30 ?_
        refine va_iast hx hb hK hP hD hS 1 0 rfl rfl (by rw [hi]; exact vp_in_nI hlt (by decide)) dX6_putInForce_31 (fun H locs hP hD hS => ?_)
        have hP : va_P G vwCl [(h0, .inr (6, [.ref h1, .ref h2])), (h1, .inl (cA, 14, .inl (upd X_1.1 i.toNatClampNeg (X_1.2 i.toNatClampNeg)))), (h2, .inl (cA, 14, .inl X_1.2))] H := hP
        have hD : va_D A [(h0, .inr (6, [.ref h1, .ref h2])), (h1, .inl (cA, 14, .inl (upd X_1.1 i.toNatClampNeg (X_1.2 i.toNatClampNeg)))), (h2, .inl (cA, 14, .inl X_1.2))] := hD
        refine lv_aload_n hx hb dX6_putInForce_32 rfl (lv_at hl 2 rfl) ?_
        refine va_get (D := G) (ci := 6) (v := .ref h2) (C := RX6) (T := TX6) (N := 2) hx hb hts iX6_putInForce_X6 hown hK hP 0 rfl rfl 1 (by decide) (hts _ mX6_putInForce_1) (fun _ h9 => h9) rfl dX6_putInForce_33 ?_
        refine lv_iload_n hx hb dX6_putInForce_36 rfl (lv_at hl 0 rfl) ?_
        refine lv_iconst (v := (-1)) hx hb dX6_putInForce_37 (by decide) ?_
        refine va_iast hx hb hK hP hD hS 2 0 rfl rfl (by rw [hi]; exact vp_in_nI hlt (by decide)) dX6_putInForce_38 (fun H locs hP hD hS => ?_)
        have hP : va_P G vwCl [(h0, .inr (6, [.ref h1, .ref h2])), (h1, .inl (cA, 14, .inl (upd X_1.1 i.toNatClampNeg (X_1.2 i.toNatClampNeg)))), (h2, .inl (cA, 14, .inl (upd X_1.2 i.toNatClampNeg (-1))))] H := hP
        have hD : va_D A [(h0, .inr (6, [.ref h1, .ref h2])), (h1, .inl (cA, 14, .inl (upd X_1.1 i.toNatClampNeg (X_1.2 i.toNatClampNeg)))), (h2, .inl (cA, 14, .inl (upd X_1.2 i.toNatClampNeg (-1))))] := hD
        refine lv_iconst (v := 1) hx hb dX6_putInForce_39 (by decide) ?_
        refine lv_istore_n (lv' := [(1, .int 1), (2, .int i), (0, .ref h0)]) hx hb dX6_putInForce_40 rfl hl (by decide) rfl (fun ls hl => ?_)
        refine lv_iinc (v := (i + 1)) (lv' := [(2, .int (i + 1)), (1, .int 1), (0, .ref h0)]) hx hb dX6_putInForce_41 hl (k := 1) rfl rfl (by decide) rfl (fun ls hl => ?_)
        refine lv_goto (tgt := 4) hx hb dX6_putInForce_44 (by decide) ?_
        exact ih (k + 1) (by omega) (((upd X_1.1 i.toNatClampNeg (X_1.2 i.toNatClampNeg)), (upd X_1.2 i.toNatClampNeg (-1)))) (by subst hi; subst hb; subst hX_1; first | exact nI_1 k | exact k_pifS1 S k (by rw [← nI_cl14 hlt]; assumption) | exact k_pifS2 S k (by assumption) | (rw [nI_cl14 hlt] at *; first | exact k_pifS1 S k (by assumption) | exact k_pifS2 S k (by assumption) | exact k_anyS1 S k (by assumption) | exact k_anyS2 S k (by assumption))) (true) (by subst hi; subst hb; subst hX_1; first | exact nI_1 k | exact k_pifS1 S k (by rw [← nI_cl14 hlt]; assumption) | exact k_pifS2 S k (by assumption) | (rw [nI_cl14 hlt] at *; first | exact k_pifS1 S k (by assumption) | exact k_pifS2 S k (by assumption) | exact k_anyS1 S k (by assumption) | exact k_anyS2 S k (by assumption))) ((i + 1)) (by subst hi; subst hb; subst hX_1; first | exact nI_1 k | exact k_pifS1 S k (by rw [← nI_cl14 hlt]; assumption) | exact k_pifS2 S k (by assumption) | (rw [nI_cl14 hlt] at *; first | exact k_pifS1 S k (by assumption) | exact k_pifS2 S k (by assumption) | exact k_anyS1 S k (by assumption) | exact k_anyS2 S k (by assumption))) _ _ _ hP hD hS hl
  exact L4_1 14 0 (by omega) (S) (by first | exact (k_pif0 S).symm | rfl) (false) (by first | exact (k_pif0 S).symm | rfl) (0) (by first | exact (k_pif0 S).symm | rfl) _ _ _ hP hD hS hl
theorem iX4_keep_X4 : ∀ w ∈ u_ws RX4 TX4 4, w ∈ wsX4_keep := by decide +kernel
theorem mX4_keep_1 : Cond.fieldLink RX4 11 "ChamberPacer$Markers" "kinds" "[I" ∈ wsX4_keep := by decide +kernel
theorem mX4_keep_2 : Cond.fieldLink RX4 18 "ChamberPacer$Markers" "next" "I" ∈ wsX4_keep := by decide +kernel
theorem mX4_keep_3 : Cond.fieldLink RX4 15 "ChamberPacer$Markers" "times" "[I" ∈ wsX4_keep := by decide +kernel
theorem mX4_keep_4 : Cond.fieldLink RX4 22 "ChamberPacer$Markers" "count" "I" ∈ wsX4_keep := by decide +kernel
abbrev rmX4_keep : Room := { frames := 0, cells := 0, slots := 0, locals := 0 }
abbrev QfX4_keep (G : va_G) (cA cB : ClassId) (h0 h1 h2 : Nat) (M : tMk) (kd : Int32) (t : Int32) : (Nat → Prop) → Array Value → State → Outcome → State → Prop := fun A => va_Qv (fun u : tMk => u = k_keep kd t M) (zz_B G vwCl (fun u : tMk => (wMk h0 h1 h2 cA cB u)) A) A
set_option maxHeartbeats 4000000 in
set_option maxRecDepth 100000 in
theorem kX4_keep (l : Launch) (G : va_G) (cA cB : ClassId) (tb : Nat × Nat × Nat) (h0 h1 h2 : Nat) (sz : Nat) (M : tMk) (kd : Int32) (t : Int32) (hI : kIM M) : Met l yX4_keep wsX4_keep rmX4_keep (zz_P (zS tb) G vwCl [(cA, .int), (cB, .boolean)] [.ref h0, .int kd, .int t] (wMk h0 h1 h2 cA cB M) sz) (QfX4_keep G cA cB h0 h1 h2 M kd t (va_A (wMk h0 h1 h2 cA cB M) sz)) 0 0 (va_A (wMk h0 h1 h2 cA cB M) sz) := by
  refine zz_Met (cc := cX4_keep) (maxL := 3) (ret := none) (Qf := QfX4_keep G cA cB h0 h1 h2 M kd t) (by decide) rfl (Nat.le_of_ble_eq_true rfl) ?_
  intro p e s m below meth c A ls hx hb hr hts hown hlocks hin hml hA hP hK hD hz hS hl
  have hl : lv_has ls 3 [(0, .ref h0), (1, .int kd), (2, .int t)] := hl
  have hP : va_P G vwCl [(h0, .inr (4, [.ref h1, .ref h2, .int M.2.2.1, .int M.2.2.2])), (h1, .inl (cA, 12, .inl M.1)), (h2, .inl (cA, 12, .inl M.2.1))] s.heap := hP
  have hD : va_D A [(h0, .inr (4, [.ref h1, .ref h2, .int M.2.2.1, .int M.2.2.2])), (h1, .inl (cA, 12, .inl M.1)), (h2, .inl (cA, 12, .inl M.2.1))] := hD
  refine lv_aload_n hx hb dX4_keep_0 rfl (lv_at hl 0 rfl) ?_
  refine va_get (D := G) (ci := 4) (v := .ref h1) (C := RX4) (T := TX4) (N := 4) hx hb hts iX4_keep_X4 hown hK hP 0 rfl rfl 0 (by decide) (hts _ mX4_keep_1) (fun _ h9 => h9) rfl dX4_keep_1 ?_
  refine lv_aload_n hx hb dX4_keep_4 rfl (lv_at hl 0 rfl) ?_
  refine va_get (D := G) (ci := 4) (v := .int M.2.2.1) (C := RX4) (T := TX4) (N := 4) hx hb hts iX4_keep_X4 hown hK hP 0 rfl rfl 2 (by decide) (hts _ mX4_keep_2) (fun _ h9 => h9) rfl dX4_keep_5 ?_
  refine lv_iload_n hx hb dX4_keep_8 rfl (lv_at hl 1 rfl) ?_
  refine va_iast hx hb hK hP hD hS 1 0 rfl rfl (hI.1) dX4_keep_9 (fun H locs hP hD hS => ?_)
  have hP : va_P G vwCl [(h0, .inr (4, [.ref h1, .ref h2, .int M.2.2.1, .int M.2.2.2])), (h1, .inl (cA, 12, .inl (upd M.1 M.2.2.1.toNatClampNeg kd))), (h2, .inl (cA, 12, .inl M.2.1))] H := hP
  have hD : va_D A [(h0, .inr (4, [.ref h1, .ref h2, .int M.2.2.1, .int M.2.2.2])), (h1, .inl (cA, 12, .inl (upd M.1 M.2.2.1.toNatClampNeg kd))), (h2, .inl (cA, 12, .inl M.2.1))] := hD
  refine lv_aload_n hx hb dX4_keep_10 rfl (lv_at hl 0 rfl) ?_
  refine va_get (D := G) (ci := 4) (v := .ref h2) (C := RX4) (T := TX4) (N := 4) hx hb hts iX4_keep_X4 hown hK hP 0 rfl rfl 1 (by decide) (hts _ mX4_keep_3) (fun _ h9 => h9) rfl dX4_keep_11 ?_
  refine lv_aload_n hx hb dX4_keep_14 rfl (lv_at hl 0 rfl) ?_
  refine va_get (D := G) (ci := 4) (v := .int M.2.2.1) (C := RX4) (T := TX4) (N := 4) hx hb hts iX4_keep_X4 hown hK hP 0 rfl rfl 2 (by decide) (hts _ mX4_keep_2) (fun _ h9 => h9) rfl dX4_keep_15 ?_
  refine lv_iload_n hx hb dX4_keep_18 rfl (lv_at hl 2 rfl) ?_
  refine va_iast hx hb hK hP hD hS 2 0 rfl rfl (hI.1) dX4_keep_19 (fun H locs hP hD hS => ?_)
  have hP : va_P G vwCl [(h0, .inr (4, [.ref h1, .ref h2, .int M.2.2.1, .int M.2.2.2])), (h1, .inl (cA, 12, .inl (upd M.1 M.2.2.1.toNatClampNeg kd))), (h2, .inl (cA, 12, .inl (upd M.2.1 M.2.2.1.toNatClampNeg t)))] H := hP
  have hD : va_D A [(h0, .inr (4, [.ref h1, .ref h2, .int M.2.2.1, .int M.2.2.2])), (h1, .inl (cA, 12, .inl (upd M.1 M.2.2.1.toNatClampNeg kd))), (h2, .inl (cA, 12, .inl (upd M.2.1 M.2.2.1.toNatClampNeg t)))] := hD
  refine lv_aload_n hx hb dX4_keep_20 rfl (lv_at hl 0 rfl) ?_
  refine lv_aload_n hx hb dX4_keep_21 rfl (lv_at hl 0 rfl) ?_
  refine va_get (D := G) (ci := 4) (v := .int M.2.2.1) (C := RX4) (T := TX4) (N := 4) hx hb hts iX4_keep_X4 hown hK hP 0 rfl rfl 2 (by decide) (hts _ mX4_keep_2) (fun _ h9 => h9) rfl dX4_keep_22 ?_
  refine lv_iconst (v := 1) hx hb dX4_keep_25 (by decide) ?_
  refine lv_iadd hx hb dX4_keep_26 ?_
  refine lv_bipush (v := 12) hx hb dX4_keep_27 (by decide) ?_
  refine lv_irem hx hb dX4_keep_29 (by decide) ?_
  refine va_put (D := G) (ci := 4) (v := .int ((M.2.2.1 + 1) - (M.2.2.1 + 1) / 12 * 12)) (ty := .int) (C := RX4) (T := TX4) (N := 4) hx hb hts iX4_keep_X4 tyX4 tyX4_ok nmX4 hown hK hP hD hS 0 rfl rfl 2 (by decide) (hts _ mX4_keep_2) (fun _ h9 => h9) rfl (by decide +kernel) rfl rfl (Nat.le_of_ble_eq_true rfl) dX4_keep_30 (fun H locs hP hD hS => ?_)
  have hP : va_P G vwCl [(h0, .inr (4, [.ref h1, .ref h2, .int ((M.2.2.1 + 1) - (M.2.2.1 + 1) / 12 * 12), .int M.2.2.2])), (h1, .inl (cA, 12, .inl (upd M.1 M.2.2.1.toNatClampNeg kd))), (h2, .inl (cA, 12, .inl (upd M.2.1 M.2.2.1.toNatClampNeg t)))] H := hP
  have hD : va_D A [(h0, .inr (4, [.ref h1, .ref h2, .int ((M.2.2.1 + 1) - (M.2.2.1 + 1) / 12 * 12), .int M.2.2.2])), (h1, .inl (cA, 12, .inl (upd M.1 M.2.2.1.toNatClampNeg kd))), (h2, .inl (cA, 12, .inl (upd M.2.1 M.2.2.1.toNatClampNeg t)))] := hD
  refine lv_aload_n hx hb dX4_keep_33 rfl (lv_at hl 0 rfl) ?_
  refine va_get (D := G) (ci := 4) (v := .int M.2.2.2) (C := RX4) (T := TX4) (N := 4) hx hb hts iX4_keep_X4 hown hK hP 0 rfl rfl 3 (by decide) (hts _ mX4_keep_4) (fun _ h9 => h9) rfl dX4_keep_34 ?_
  refine lv_bipush (v := 12) hx hb dX4_keep_37 (by decide) ?_
  refine lv_icmp_ge (tgt := 52) hx hb dX4_keep_39 (by decide) (fun c_1 => ?_) (fun c_1 => ?_)
  · exact zz_rv (((upd M.1 M.2.2.1.toNatClampNeg kd), (upd M.2.1 M.2.2.1.toNatClampNeg t), ((M.2.2.1 + 1) - (M.2.2.1 + 1) / 12 * 12), M.2.2.2) : tMk) hx hb hr hlocks hS hP hD (by first | (simp [k_keep, k_rem, c_1]; done) | rfl) dX4_keep_52
  · refine lv_aload_n hx hb dX4_keep_42 rfl (lv_at hl 0 rfl) ?_
    refine lv_dup hx hb dX4_keep_43 rfl ?_
    refine va_get (D := G) (ci := 4) (v := .int M.2.2.2) (C := RX4) (T := TX4) (N := 4) hx hb hts iX4_keep_X4 hown hK hP 0 rfl rfl 3 (by decide) (hts _ mX4_keep_4) (fun _ h9 => h9) rfl dX4_keep_44 ?_
    refine lv_iconst (v := 1) hx hb dX4_keep_47 (by decide) ?_
    refine lv_iadd hx hb dX4_keep_48 ?_
    refine va_put (D := G) (ci := 4) (v := .int (M.2.2.2 + 1)) (ty := .int) (C := RX4) (T := TX4) (N := 4) hx hb hts iX4_keep_X4 tyX4 tyX4_ok nmX4 hown hK hP hD hS 0 rfl rfl 3 (by decide) (hts _ mX4_keep_4) (fun _ h9 => h9) rfl (by decide +kernel) rfl rfl (Nat.le_of_ble_eq_true rfl) dX4_keep_49 (fun H locs hP hD hS => ?_)
    have hP : va_P G vwCl [(h0, .inr (4, [.ref h1, .ref h2, .int ((M.2.2.1 + 1) - (M.2.2.1 + 1) / 12 * 12), .int (M.2.2.2 + 1)])), (h1, .inl (cA, 12, .inl (upd M.1 M.2.2.1.toNatClampNeg kd))), (h2, .inl (cA, 12, .inl (upd M.2.1 M.2.2.1.toNatClampNeg t)))] H := hP
    have hD : va_D A [(h0, .inr (4, [.ref h1, .ref h2, .int ((M.2.2.1 + 1) - (M.2.2.1 + 1) / 12 * 12), .int (M.2.2.2 + 1)])), (h1, .inl (cA, 12, .inl (upd M.1 M.2.2.1.toNatClampNeg kd))), (h2, .inl (cA, 12, .inl (upd M.2.1 M.2.2.1.toNatClampNeg t)))] := hD
    exact zz_rv (((upd M.1 M.2.2.1.toNatClampNeg kd), (upd M.2.1 M.2.2.1.toNatClampNeg t), ((M.2.2.1 + 1) - (M.2.2.1 + 1) / 12 * 12), (M.2.2.2 + 1)) : tMk) hx hb hr hlocks hS hP hD (by first | (simp [k_keep, k_rem, c_1]; done) | rfl) dX4_keep_52
theorem iX4_has_X4 : ∀ w ∈ u_ws RX4 TX4 4, w ∈ wsX4_has := by decide +kernel
theorem mX4_has_1 : Cond.fieldLink RX4 22 "ChamberPacer$Markers" "count" "I" ∈ wsX4_has := by decide +kernel
abbrev rmX4_has : Room := { frames := 0, cells := 0, slots := 0, locals := 0 }
abbrev QfX4_has (G : va_G) (cA cB : ClassId) (h0 h1 h2 : Nat) (M : tMk) (k : Int32) : (Nat → Prop) → Array Value → State → Outcome → State → Prop := fun A => va_Qi (fun (r : Int32) (u : Unit) => r = bI (k_has M k)) (zz_B G vwCl (fun _ : Unit => (wMk h0 h1 h2 cA cB M)) A) A
set_option maxHeartbeats 4000000 in
set_option maxRecDepth 100000 in
theorem kX4_has (l : Launch) (G : va_G) (cA cB : ClassId) (tb : Nat × Nat × Nat) (h0 h1 h2 : Nat) (sz : Nat) (M : tMk) (k : Int32) : Met l yX4_has wsX4_has rmX4_has (zz_P (zS tb) G vwCl [(cA, .int), (cB, .boolean)] [.ref h0, .int k] (wMk h0 h1 h2 cA cB M) sz) (QfX4_has G cA cB h0 h1 h2 M k (va_A (wMk h0 h1 h2 cA cB M) sz)) 0 0 (va_A (wMk h0 h1 h2 cA cB M) sz) := by
  refine zz_Met (cc := cX4_has) (maxL := 2) (ret := (some .boolean)) (Qf := QfX4_has G cA cB h0 h1 h2 M k) (by decide) rfl (Nat.le_of_ble_eq_true rfl) ?_
  intro p e s m below meth c A ls hx hb hr hts hown hlocks hin hml hA hP hK hD hz hS hl
  have hl : lv_has ls 2 [(0, .ref h0), (1, .int k)] := hl
  have hP : va_P G vwCl [(h0, .inr (4, [.ref h1, .ref h2, .int M.2.2.1, .int M.2.2.2])), (h1, .inl (cA, 12, .inl M.1)), (h2, .inl (cA, 12, .inl M.2.1))] s.heap := hP
  have hD : va_D A [(h0, .inr (4, [.ref h1, .ref h2, .int M.2.2.1, .int M.2.2.2])), (h1, .inl (cA, 12, .inl M.1)), (h2, .inl (cA, 12, .inl M.2.1))] := hD
  refine lv_iload_n hx hb dX4_has_0 rfl (lv_at hl 1 rfl) ?_
  refine lv_if_lt (tgt := 16) hx hb dX4_has_1 (by decide) (fun c_1 => ?_) (fun c_1 => ?_)
  · refine lv_iconst (v := 0) hx hb dX4_has_16 (by decide) ?_
    exact zz_rz (v := 0) () hx hb hr (by decide +kernel) hlocks hS hP hD (by first | (simp [k_has, bI, c_1]; done) | rfl) dX4_has_17
  · refine lv_iload_n hx hb dX4_has_4 rfl (lv_at hl 1 rfl) ?_
    refine lv_aload_n hx hb dX4_has_5 rfl (lv_at hl 0 rfl) ?_
    refine va_get (D := G) (ci := 4) (v := .int M.2.2.2) (C := RX4) (T := TX4) (N := 4) hx hb hts iX4_has_X4 hown hK hP 0 rfl rfl 3 (by decide) (hts _ mX4_has_1) (fun _ h9 => h9) rfl dX4_has_6 ?_
    refine lv_icmp_ge (tgt := 16) hx hb dX4_has_9 (by decide) (fun c_2 => ?_) (fun c_2 => ?_)
    · refine lv_iconst (v := 0) hx hb dX4_has_16 (by decide) ?_
      exact zz_rz (v := 0) () hx hb hr (by decide +kernel) hlocks hS hP hD (by first | (simp [k_has, bI, c_1, c_2]; done) | rfl) dX4_has_17
    · refine lv_iconst (v := 1) hx hb dX4_has_12 (by decide) ?_
      refine lv_goto (tgt := 17) hx hb dX4_has_13 (by decide) ?_
      exact zz_rz (v := 1) () hx hb hr (by decide +kernel) hlocks hS hP hD (by first | (simp [k_has, bI, c_1, c_2]; done) | rfl) dX4_has_17
theorem iX4_place_X4 : ∀ w ∈ u_ws RX4 TX4 4, w ∈ wsX4_place := by decide +kernel
theorem mX4_place_1 : Cond.fieldLink RX4 18 "ChamberPacer$Markers" "next" "I" ∈ wsX4_place := by decide +kernel
abbrev rmX4_place : Room := { frames := 0, cells := 0, slots := 0, locals := 0 }
abbrev QfX4_place (G : va_G) (cA cB : ClassId) (h0 h1 h2 : Nat) (M : tMk) (k : Int32) : (Nat → Prop) → Array Value → State → Outcome → State → Prop := fun A => va_Qi (fun (r : Int32) (u : Unit) => r = k_place M k) (zz_B G vwCl (fun _ : Unit => (wMk h0 h1 h2 cA cB M)) A) A
set_option maxHeartbeats 4000000 in
set_option maxRecDepth 100000 in
theorem kX4_place (l : Launch) (G : va_G) (cA cB : ClassId) (tb : Nat × Nat × Nat) (h0 h1 h2 : Nat) (sz : Nat) (M : tMk) (k : Int32) : Met l yX4_place wsX4_place rmX4_place (zz_P (zS tb) G vwCl [(cA, .int), (cB, .boolean)] [.ref h0, .int k] (wMk h0 h1 h2 cA cB M) sz) (QfX4_place G cA cB h0 h1 h2 M k (va_A (wMk h0 h1 h2 cA cB M) sz)) 0 0 (va_A (wMk h0 h1 h2 cA cB M) sz) := by
  refine zz_Met (cc := cX4_place) (maxL := 2) (ret := (some .int)) (Qf := QfX4_place G cA cB h0 h1 h2 M k) (by decide) rfl (Nat.le_of_ble_eq_true rfl) ?_
  intro p e s m below meth c A ls hx hb hr hts hown hlocks hin hml hA hP hK hD hz hS hl
  have hl : lv_has ls 2 [(0, .ref h0), (1, .int k)] := hl
  have hP : va_P G vwCl [(h0, .inr (4, [.ref h1, .ref h2, .int M.2.2.1, .int M.2.2.2])), (h1, .inl (cA, 12, .inl M.1)), (h2, .inl (cA, 12, .inl M.2.1))] s.heap := hP
  have hD : va_D A [(h0, .inr (4, [.ref h1, .ref h2, .int M.2.2.1, .int M.2.2.2])), (h1, .inl (cA, 12, .inl M.1)), (h2, .inl (cA, 12, .inl M.2.1))] := hD
  refine lv_aload_n hx hb dX4_place_0 rfl (lv_at hl 0 rfl) ?_
  refine va_get (D := G) (ci := 4) (v := .int M.2.2.1) (C := RX4) (T := TX4) (N := 4) hx hb hts iX4_place_X4 hown hK hP 0 rfl rfl 2 (by decide) (hts _ mX4_place_1) (fun _ h9 => h9) rfl dX4_place_1 ?_
  refine lv_bipush (v := 12) hx hb dX4_place_4 (by decide) ?_
  refine lv_iadd hx hb dX4_place_6 ?_
  refine lv_iconst (v := 1) hx hb dX4_place_7 (by decide) ?_
  refine lv_isub hx hb dX4_place_8 ?_
  refine lv_iload_n hx hb dX4_place_9 rfl (lv_at hl 1 rfl) ?_
  refine lv_isub hx hb dX4_place_10 ?_
  refine lv_bipush (v := 12) hx hb dX4_place_11 (by decide) ?_
  refine lv_irem hx hb dX4_place_13 (by decide) ?_
  exact zz_ri (v := ((((M.2.2.1 + 12) - 1) - k) - (((M.2.2.1 + 12) - 1) - k) / 12 * 12)) () hx hb hr hlocks hS hP hD (by first | rfl | (simp [])) dX4_place_14
theorem iX4_kind_X4 : ∀ w ∈ u_ws RX4 TX4 4, w ∈ wsX4_kind := by decide +kernel
theorem mX4_kind_1 : Cond.fieldLink RX4 11 "ChamberPacer$Markers" "kinds" "[I" ∈ wsX4_kind := by decide +kernel
abbrev rmX4_kind : Room := { frames := 1, cells := 0, slots := 0, locals := 21 }
abbrev QfX4_kind (G : va_G) (cA cB : ClassId) (h0 h1 h2 : Nat) (M : tMk) (k : Int32) : (Nat → Prop) → Array Value → State → Outcome → State → Prop := fun A => va_Qi (fun (r : Int32) (u : Unit) => r = k_kind M k) (zz_B G vwCl (fun _ : Unit => (wMk h0 h1 h2 cA cB M)) A) A
set_option maxHeartbeats 4000000 in
set_option maxRecDepth 100000 in
theorem kX4_kind (l : Launch) (G : va_G) (cA cB : ClassId) (tb : Nat × Nat × Nat) (h0 h1 h2 : Nat) (sz : Nat) (M : tMk) (k : Int32) (hI : kIM M) : Met l yX4_kind wsX4_kind rmX4_kind (zz_P (zS tb) G vwCl [(cA, .int), (cB, .boolean)] [.ref h0, .int k] (wMk h0 h1 h2 cA cB M) sz) (QfX4_kind G cA cB h0 h1 h2 M k (va_A (wMk h0 h1 h2 cA cB M) sz)) 0 0 (va_A (wMk h0 h1 h2 cA cB M) sz) := by
  refine zz_Met (cc := cX4_kind) (maxL := 2) (ret := (some .int)) (Qf := QfX4_kind G cA cB h0 h1 h2 M k) (by decide) rfl (Nat.le_of_ble_eq_true rfl) ?_
  intro p e s m below meth c A ls hx hb hr hts hown hlocks hin hml hA hP hK hD hz hS hl
  have hl : lv_has ls 2 [(0, .ref h0), (1, .int k)] := hl
  have hP : va_P G vwCl [(h0, .inr (4, [.ref h1, .ref h2, .int M.2.2.1, .int M.2.2.2])), (h1, .inl (cA, 12, .inl M.1)), (h2, .inl (cA, 12, .inl M.2.1))] s.heap := hP
  have hD : va_D A [(h0, .inr (4, [.ref h1, .ref h2, .int M.2.2.1, .int M.2.2.2])), (h1, .inl (cA, 12, .inl M.1)), (h2, .inl (cA, 12, .inl M.2.1))] := hD
  refine lv_aload_n hx hb dX4_kind_0 rfl (lv_at hl 0 rfl) ?_
  refine lv_iload_n hx hb dX4_kind_1 rfl (lv_at hl 1 rfl) ?_
  refine zz_ci (va_runV (As := [.int k]) (rest := []) ⟨hx, hb, hml, hown, hts⟩ (kX4_has l G cA cB tb h0 h1 h2 s.heap.size M k) (cwV 1 hts gX4_kind_X4_has rfl rfl rfl (by decide +kernel) ⟨Nat.le_of_ble_eq_true rfl, Nat.le_of_ble_eq_true rfl⟩) (zz_preV zS_ok hK hP hD hS hA hz [0, 1, 2] rfl (by decide) (ci := 4) (q0 := 0) (C := RX4) rfl rfl) rfl rfl hl.1 rfl (lv_room (Nat.le_of_ble_eq_true rfl)) dX4_kind_2 ⟨Nat.zero_le _, Nat.zero_le _⟩) hP hD hS hA [0, 1, 2] [] rfl rfl (by decide) (by decide) (fun r u H locs hw hP hD hS => ?_)
  subst hw
  have hP : va_P G vwCl [(h0, .inr (4, [.ref h1, .ref h2, .int M.2.2.1, .int M.2.2.2])), (h1, .inl (cA, 12, .inl M.1)), (h2, .inl (cA, 12, .inl M.2.1))] H := hP
  have hD : va_D A [(h0, .inr (4, [.ref h1, .ref h2, .int M.2.2.1, .int M.2.2.2])), (h1, .inl (cA, 12, .inl M.1)), (h2, .inl (cA, 12, .inl M.2.1))] := hD
  refine lv_if_eq (tgt := 21) hx hb dX4_kind_5 (by decide) (fun c_1 => ?_) (fun c_1 => ?_)
  · have c_1 := bI_f c_1
    refine lv_iconst (v := (-1)) hx hb dX4_kind_21 (by decide) ?_
    exact zz_ri (v := (-1)) () hx hb hr hlocks hS hP hD (by first | (simp [k_kind, c_1]; done) | rfl) dX4_kind_22
  · have c_1 := bI_t c_1
    refine lv_aload_n hx hb dX4_kind_8 rfl (lv_at hl 0 rfl) ?_
    refine va_get (D := G) (ci := 4) (v := .ref h1) (C := RX4) (T := TX4) (N := 4) hx hb hts iX4_kind_X4 hown hK hP 0 rfl rfl 0 (by decide) (hts _ mX4_kind_1) (fun _ h9 => h9) rfl dX4_kind_9 ?_
    refine lv_aload_n hx hb dX4_kind_12 rfl (lv_at hl 0 rfl) ?_
    refine lv_iload_n hx hb dX4_kind_13 rfl (lv_at hl 1 rfl) ?_
    refine zz_ci (va_runV (As := [.int k]) (rest := [.ref h1]) ⟨hx, hb, hml, hown, hts⟩ (kX4_place l G cA cB tb h0 h1 h2 H.size M k) (cwV 1 hts gX4_kind_X4_place rfl rfl rfl (by decide +kernel) ⟨Nat.le_of_ble_eq_true rfl, Nat.le_of_ble_eq_true rfl⟩) (zz_preV zS_ok hK hP hD hS hA hz [0, 1, 2] rfl (by decide) (ci := 4) (q0 := 0) (C := RX4) rfl rfl) rfl rfl hl.1 rfl (lv_room (Nat.le_of_ble_eq_true rfl)) dX4_kind_14 ⟨Nat.zero_le _, Nat.zero_le _⟩) hP hD hS hA [0, 1, 2] [] rfl rfl (by decide) (by decide) (fun r u H locs hw hP hD hS => ?_)
    subst hw
    have hP : va_P G vwCl [(h0, .inr (4, [.ref h1, .ref h2, .int M.2.2.1, .int M.2.2.2])), (h1, .inl (cA, 12, .inl M.1)), (h2, .inl (cA, 12, .inl M.2.1))] H := hP
    have hD : va_D A [(h0, .inr (4, [.ref h1, .ref h2, .int M.2.2.1, .int M.2.2.2])), (h1, .inl (cA, 12, .inl M.1)), (h2, .inl (cA, 12, .inl M.2.1))] := hD
    refine va_iald hx hb hK hP 1 0 rfl rfl (vp_pl hI c_1) dX4_kind_17 ?_
    refine lv_goto (tgt := 22) hx hb dX4_kind_18 (by decide) ?_
    exact zz_ri (v := (M.1 (k_place M k).toNatClampNeg)) () hx hb hr hlocks hS hP hD (by first | (simp [k_kind, c_1]; done) | rfl) dX4_kind_22
theorem iX4_time_X4 : ∀ w ∈ u_ws RX4 TX4 4, w ∈ wsX4_time := by decide +kernel
theorem mX4_time_1 : Cond.fieldLink RX4 15 "ChamberPacer$Markers" "times" "[I" ∈ wsX4_time := by decide +kernel
abbrev rmX4_time : Room := { frames := 1, cells := 0, slots := 0, locals := 21 }
abbrev QfX4_time (G : va_G) (cA cB : ClassId) (h0 h1 h2 : Nat) (M : tMk) (k : Int32) : (Nat → Prop) → Array Value → State → Outcome → State → Prop := fun A => va_Qi (fun (r : Int32) (u : Unit) => r = k_time M k) (zz_B G vwCl (fun _ : Unit => (wMk h0 h1 h2 cA cB M)) A) A
set_option maxHeartbeats 4000000 in
set_option maxRecDepth 100000 in
theorem kX4_time (l : Launch) (G : va_G) (cA cB : ClassId) (tb : Nat × Nat × Nat) (h0 h1 h2 : Nat) (sz : Nat) (M : tMk) (k : Int32) (hI : kIM M) : Met l yX4_time wsX4_time rmX4_time (zz_P (zS tb) G vwCl [(cA, .int), (cB, .boolean)] [.ref h0, .int k] (wMk h0 h1 h2 cA cB M) sz) (QfX4_time G cA cB h0 h1 h2 M k (va_A (wMk h0 h1 h2 cA cB M) sz)) 0 0 (va_A (wMk h0 h1 h2 cA cB M) sz) := by
  refine zz_Met (cc := cX4_time) (maxL := 2) (ret := (some .int)) (Qf := QfX4_time G cA cB h0 h1 h2 M k) (by decide) rfl (Nat.le_of_ble_eq_true rfl) ?_
  intro p e s m below meth c A ls hx hb hr hts hown hlocks hin hml hA hP hK hD hz hS hl
  have hl : lv_has ls 2 [(0, .ref h0), (1, .int k)] := hl
  have hP : va_P G vwCl [(h0, .inr (4, [.ref h1, .ref h2, .int M.2.2.1, .int M.2.2.2])), (h1, .inl (cA, 12, .inl M.1)), (h2, .inl (cA, 12, .inl M.2.1))] s.heap := hP
  have hD : va_D A [(h0, .inr (4, [.ref h1, .ref h2, .int M.2.2.1, .int M.2.2.2])), (h1, .inl (cA, 12, .inl M.1)), (h2, .inl (cA, 12, .inl M.2.1))] := hD
  refine lv_aload_n hx hb dX4_time_0 rfl (lv_at hl 0 rfl) ?_
  refine lv_iload_n hx hb dX4_time_1 rfl (lv_at hl 1 rfl) ?_
  refine zz_ci (va_runV (As := [.int k]) (rest := []) ⟨hx, hb, hml, hown, hts⟩ (kX4_has l G cA cB tb h0 h1 h2 s.heap.size M k) (cwV 1 hts gX4_time_X4_has rfl rfl rfl (by decide +kernel) ⟨Nat.le_of_ble_eq_true rfl, Nat.le_of_ble_eq_true rfl⟩) (zz_preV zS_ok hK hP hD hS hA hz [0, 1, 2] rfl (by decide) (ci := 4) (q0 := 0) (C := RX4) rfl rfl) rfl rfl hl.1 rfl (lv_room (Nat.le_of_ble_eq_true rfl)) dX4_time_2 ⟨Nat.zero_le _, Nat.zero_le _⟩) hP hD hS hA [0, 1, 2] [] rfl rfl (by decide) (by decide) (fun r u H locs hw hP hD hS => ?_)
  subst hw
  have hP : va_P G vwCl [(h0, .inr (4, [.ref h1, .ref h2, .int M.2.2.1, .int M.2.2.2])), (h1, .inl (cA, 12, .inl M.1)), (h2, .inl (cA, 12, .inl M.2.1))] H := hP
  have hD : va_D A [(h0, .inr (4, [.ref h1, .ref h2, .int M.2.2.1, .int M.2.2.2])), (h1, .inl (cA, 12, .inl M.1)), (h2, .inl (cA, 12, .inl M.2.1))] := hD
  refine lv_if_eq (tgt := 21) hx hb dX4_time_5 (by decide) (fun c_1 => ?_) (fun c_1 => ?_)
  · have c_1 := bI_f c_1
    refine lv_iconst (v := (-1)) hx hb dX4_time_21 (by decide) ?_
    exact zz_ri (v := (-1)) () hx hb hr hlocks hS hP hD (by first | (simp [k_time, c_1]; done) | rfl) dX4_time_22
  · have c_1 := bI_t c_1
    refine lv_aload_n hx hb dX4_time_8 rfl (lv_at hl 0 rfl) ?_
    refine va_get (D := G) (ci := 4) (v := .ref h2) (C := RX4) (T := TX4) (N := 4) hx hb hts iX4_time_X4 hown hK hP 0 rfl rfl 1 (by decide) (hts _ mX4_time_1) (fun _ h9 => h9) rfl dX4_time_9 ?_
    refine lv_aload_n hx hb dX4_time_12 rfl (lv_at hl 0 rfl) ?_
    refine lv_iload_n hx hb dX4_time_13 rfl (lv_at hl 1 rfl) ?_
    refine zz_ci (va_runV (As := [.int k]) (rest := [.ref h2]) ⟨hx, hb, hml, hown, hts⟩ (kX4_place l G cA cB tb h0 h1 h2 H.size M k) (cwV 1 hts gX4_time_X4_place rfl rfl rfl (by decide +kernel) ⟨Nat.le_of_ble_eq_true rfl, Nat.le_of_ble_eq_true rfl⟩) (zz_preV zS_ok hK hP hD hS hA hz [0, 1, 2] rfl (by decide) (ci := 4) (q0 := 0) (C := RX4) rfl rfl) rfl rfl hl.1 rfl (lv_room (Nat.le_of_ble_eq_true rfl)) dX4_time_14 ⟨Nat.zero_le _, Nat.zero_le _⟩) hP hD hS hA [0, 1, 2] [] rfl rfl (by decide) (by decide) (fun r u H locs hw hP hD hS => ?_)
    subst hw
    have hP : va_P G vwCl [(h0, .inr (4, [.ref h1, .ref h2, .int M.2.2.1, .int M.2.2.2])), (h1, .inl (cA, 12, .inl M.1)), (h2, .inl (cA, 12, .inl M.2.1))] H := hP
    have hD : va_D A [(h0, .inr (4, [.ref h1, .ref h2, .int M.2.2.1, .int M.2.2.2])), (h1, .inl (cA, 12, .inl M.1)), (h2, .inl (cA, 12, .inl M.2.1))] := hD
    refine va_iald hx hb hK hP 2 0 rfl rfl (vp_pl hI c_1) dX4_time_17 ?_
    refine lv_goto (tgt := 22) hx hb dX4_time_18 (by decide) ?_
    exact zz_ri (v := (M.2.1 (k_place M k).toNatClampNeg)) () hx hb hr hlocks hS hP hD (by first | (simp [k_time, c_1]; done) | rfl) dX4_time_22
abbrev rmX3_divide : Room := { frames := 0, cells := 0, slots := 0, locals := 0 }
abbrev QfX3_divide (G : va_G) (cA cB : ClassId) (c0 : Int32) : (Nat → Prop) → Array Value → State → Outcome → State → Prop := fun A => va_Qi (fun (r : Int32) (u : Unit) => r = k_div c0) (zz_B G vwCl (fun _ : Unit => []) A) A
set_option maxHeartbeats 4000000 in
set_option maxRecDepth 100000 in
theorem kX3_divide (l : Launch) (G : va_G) (cA cB : ClassId) (tb : Nat × Nat × Nat) (sz : Nat) (c0 : Int32) : Met l yX3_divide wsX3_divide rmX3_divide (zz_P (zS tb) G vwCl [(cA, .int), (cB, .boolean)] [.int c0] [] sz) (QfX3_divide G cA cB c0 (va_A [] sz)) 0 0 (va_A [] sz) := by
  refine zz_Met (cc := cX3_divide) (maxL := 3) (ret := (some .int)) (Qf := QfX3_divide G cA cB c0) (by decide) rfl (Nat.le_of_ble_eq_true rfl) ?_
  intro p e s m below meth c A ls hx hb hr hts hown hlocks hin hml hA hP hK hD hz hS hl
  have hl : lv_has ls 3 [(0, .int c0)] := hl
  have hP : va_P G vwCl [] s.heap := hP
  have hD : va_D A [] := hD
  refine lv_iload_n hx hb dX3_divide_0 rfl (lv_at hl 0 rfl) ?_
  refine lv_istore_n (lv' := [(1, .int c0), (0, .int c0)]) hx hb dX3_divide_1 rfl hl (by decide) rfl (fun ls hl => ?_)
  refine lv_iconst (v := 0) hx hb dX3_divide_2 (by decide) ?_
  refine lv_istore_n (lv' := [(2, .int 0), (1, .int c0), (0, .int c0)]) hx hb dX3_divide_3 rfl hl (by decide) rfl (fun ls hl => ?_)
  have L4_1 : ∀ (n k : Nat), k + n = 8 → ∀ (x : Int32) (hx : x = k_divN c0 k) (i : Int32) (hi : i = nI k) (H : Heap) (locs : List Loc) (ls : Array Slot), va_P G vwCl [] H → va_D A [] → va_S A s.heap H locs → lv_has ls 3 [(2, .int i), (1, .int x), (0, .int c0)] → W p l e rmX3_divide s m ([.int c0] : List Value).toArray below meth c H locs 0 0 (MQ below (QfX3_divide G cA cB c0 A) ([.int c0] : List Value).toArray s 0 0 A) (F0 m 4 ls []) := by
    intro n
    induction n with
    | zero =>
      intro k hk x hx i hi H locs ls hP hD hS hl
      have hk : k = 8 := by omega
      refine lv_iload_n hx hb dX3_divide_4 rfl (lv_at hl 0 rfl) ?_
      refine lv_bipush (v := 8) hx hb dX3_divide_5 (by decide) ?_
      refine lv_icmp_ge (tgt := 33) hx hb dX3_divide_7 (by decide) (fun _ => ?_) (fun c => absurd (by rw [hi, hk]; decide) c)
      refine lv_iload_n hx hb dX3_divide_33 rfl (lv_at hl 1 rfl) ?_
      exact zz_ri (v := x) () hx hb hr hlocks hS hP hD (by subst hi; subst hx; subst hk; rfl) dX3_divide_34
    | succ n ih =>
      intro k hk x hx i hi H locs ls hP hD hS hl
      have hlt : k < 8 := by omega
      refine lv_iload_n hx hb dX3_divide_4 rfl (lv_at hl 0 rfl) ?_
      refine lv_bipush (v := 8) hx hb dX3_divide_5 (by decide) ?_
      refine lv_icmp_ge (tgt := 33) hx hb dX3_divide_7 (by decide) (fun c => absurd c (by rw [hi]; exact nI_ge (b := 8) hlt (by decide))) (fun _ => ?_)
      refine lv_iconst (v := 2) hx hb dX3_divide_10 (by decide) ?_
      refine lv_iload_n hx hb dX3_divide_11 rfl (lv_at hl 1 rfl) ?_
      refine lv_imul hx hb dX3_divide_12 ?_
      refine lv_istore_n (lv' := [(1, .int (2 * x)), (2, .int i), (0, .int c0)]) hx hb dX3_divide_13 rfl hl (by decide) rfl (fun ls hl => ?_)
      refine lv_iload_n hx hb dX3_divide_14 rfl (lv_at hl 0 rfl) ?_
      refine lv_sipush (v := 256) hx hb dX3_divide_15 (by decide) ?_
      refine lv_icmp_lt (tgt := 27) hx hb dX3_divide_18 (by decide) (fun c_2 => ?_) (fun c_2 => ?_)
      · refine lv_iinc (v := (i + 1)) (lv' := [(2, .int (i + 1)), (1, .int (2 * x)), (0, .int c0)]) hx hb dX3_divide_27 hl (k := 1) rfl rfl (by decide) rfl (fun ls hl => ?_)
        refine lv_goto (tgt := 4) hx hb dX3_divide_30 (by decide) ?_
        exact ih (k + 1) (by omega) ((2 * x)) (by subst hi; subst hx; first | exact nI_1 k | (show _ = k_dstep (k_divN c0 k); simp [k_dstep, c_2])) ((i + 1)) (by subst hi; subst hx; first | exact nI_1 k | (show _ = k_dstep (k_divN c0 k); simp [k_dstep, c_2])) _ _ _ hP hD hS hl
      · refine lv_iload_n hx hb dX3_divide_21 rfl (lv_at hl 0 rfl) ?_
        refine lv_sipush (v := 263) hx hb dX3_divide_22 (by decide) ?_
        refine lv_ixor hx hb dX3_divide_25 ?_
        refine lv_istore_n (lv' := [(1, .int ((2 * x) ^^^ 263)), (2, .int i), (0, .int c0)]) hx hb dX3_divide_26 rfl hl (by decide) rfl (fun ls hl => ?_)
        refine lv_iinc (v := (i + 1)) (lv' := [(2, .int (i + 1)), (1, .int ((2 * x) ^^^ 263)), (0, .int c0)]) hx hb dX3_divide_27 hl (k := 1) rfl rfl (by decide) rfl (fun ls hl => ?_)
        refine lv_goto (tgt := 4) hx hb dX3_divide_30 (by decide) ?_
        exact ih (k + 1) (by omega) (((2 * x) ^^^ 263)) (by subst hi; subst hx; first | exact nI_1 k | (show _ = k_dstep (k_divN c0 k); simp [k_dstep, c_2])) ((i + 1)) (by subst hi; subst hx; first | exact nI_1 k | (show _ = k_dstep (k_divN c0 k); simp [k_dstep, c_2])) _ _ _ hP hD hS hl
  exact L4_1 8 0 (by omega) (c0) (by rfl) (0) (by rfl) _ _ _ hP hD hS hl
theorem iX3_sumIsRight_X3 : ∀ w ∈ u_ws RX3 TX3 2, w ∈ wsX3_sumIsRight := by decide +kernel
theorem mX3_sumIsRight_1 : Cond.fieldLink RX3 11 "ChamberPacer$Frame" "bytes" "[I" ∈ wsX3_sumIsRight := by decide +kernel
abbrev rmX3_sumIsRight : Room := { frames := 1, cells := 0, slots := 0, locals := 22 }
abbrev QfX3_sumIsRight (G : va_G) (cA cB : ClassId) (h0 h1 : Nat) (R : tFr) : (Nat → Prop) → Array Value → State → Outcome → State → Prop := fun A => va_Qi (fun (r : Int32) (u : Unit) => r = bI (k_sumOk R)) (zz_B G vwCl (fun _ : Unit => (wFr h0 h1 cA cB R)) A) A
set_option maxHeartbeats 4000000 in
set_option maxRecDepth 100000 in
theorem kX3_sumIsRight (l : Launch) (G : va_G) (cA cB : ClassId) (tb : Nat × Nat × Nat) (h0 h1 : Nat) (sz : Nat) (R : tFr) : Met l yX3_sumIsRight wsX3_sumIsRight rmX3_sumIsRight (zz_P (zS tb) G vwCl [(cA, .int), (cB, .boolean)] [.ref h0] (wFr h0 h1 cA cB R) sz) (QfX3_sumIsRight G cA cB h0 h1 R (va_A (wFr h0 h1 cA cB R) sz)) 0 0 (va_A (wFr h0 h1 cA cB R) sz) := by
  refine zz_Met (cc := cX3_sumIsRight) (maxL := 3) (ret := (some .boolean)) (Qf := QfX3_sumIsRight G cA cB h0 h1 R) (by decide) rfl (Nat.le_of_ble_eq_true rfl) ?_
  intro p e s m below meth c A ls hx hb hr hts hown hlocks hin hml hA hP hK hD hz hS hl
  have hl : lv_has ls 3 [(0, .ref h0)] := hl
  have hP : va_P G vwCl [(h0, .inr (3, [.ref h1, .int R.2])), (h1, .inl (cA, 5, .inl R.1))] s.heap := hP
  have hD : va_D A [(h0, .inr (3, [.ref h1, .int R.2])), (h1, .inl (cA, 5, .inl R.1))] := hD
  refine lv_iconst (v := 0) hx hb dX3_sumIsRight_0 (by decide) ?_
  refine lv_istore_n (lv' := [(1, .int 0), (0, .ref h0)]) hx hb dX3_sumIsRight_1 rfl hl (by decide) rfl (fun ls hl => ?_)
  refine lv_iconst (v := 0) hx hb dX3_sumIsRight_2 (by decide) ?_
  refine lv_istore_n (lv' := [(2, .int 0), (1, .int 0), (0, .ref h0)]) hx hb dX3_sumIsRight_3 rfl hl (by decide) rfl (fun ls hl => ?_)
  refine lv_iload_n hx hb dX3_sumIsRight_4 rfl (lv_at hl 0 rfl) ?_
  refine lv_iconst (v := 4) hx hb dX3_sumIsRight_5 (by decide) ?_
  refine lv_icmp_ge (tgt := 27) hx hb dX3_sumIsRight_6 (by decide) (fun c => absurd c (by decide)) (fun _ => ?_)
  refine lv_iload_n hx hb dX3_sumIsRight_9 rfl (lv_at hl 1 rfl) ?_
  refine lv_aload_n hx hb dX3_sumIsRight_10 rfl (lv_at hl 2 rfl) ?_
  refine va_get (D := G) (ci := 3) (v := .ref h1) (C := RX3) (T := TX3) (N := 2) hx hb hts iX3_sumIsRight_X3 hown hK hP 0 rfl rfl 0 (by decide) (hts _ mX3_sumIsRight_1) (fun _ h9 => h9) rfl dX3_sumIsRight_11 ?_
  refine lv_iload_n hx hb dX3_sumIsRight_14 rfl (lv_at hl 0 rfl) ?_
  refine va_iald hx hb hK hP 1 0 rfl rfl (by decide) dX3_sumIsRight_15 ?_
  refine lv_ixor hx hb dX3_sumIsRight_16 ?_
  refine zz_ci (va_runS (As := [.int (0 ^^^ (R.1 (0 : Int32).toNatClampNeg))]) (rest := []) ⟨hx, hb, hml, hown, hts⟩ (kX3_divide l G cA cB tb s.heap.size (0 ^^^ (R.1 (0 : Int32).toNatClampNeg))) (va_cwS 1 hts gX3_sumIsRight_X3_divide rfl rfl rfl (by decide +kernel) ⟨Nat.le_of_ble_eq_true rfl, Nat.le_of_ble_eq_true rfl⟩) (zz_preS zS_ok hK hP hD hS hA hz [] rfl (by decide)) rfl rfl hl.1 rfl (lv_room (Nat.le_of_ble_eq_true rfl)) dX3_sumIsRight_17 ⟨Nat.zero_le _, Nat.zero_le _⟩) hP hD hS hA [] [0, 1] rfl rfl (by decide) (by decide) (fun r u H locs hw hP hD hS => ?_)
  subst hw
  have hP : va_P G vwCl [(h0, .inr (3, [.ref h1, .int R.2])), (h1, .inl (cA, 5, .inl R.1))] H := hP
  have hD : va_D A [(h0, .inr (3, [.ref h1, .int R.2])), (h1, .inl (cA, 5, .inl R.1))] := hD
  refine lv_istore_n (lv' := [(1, .int (k_div (0 ^^^ (R.1 (0 : Int32).toNatClampNeg)))), (2, .int 0), (0, .ref h0)]) hx hb dX3_sumIsRight_20 rfl hl (by decide) rfl (fun ls hl => ?_)
  refine lv_iinc (v := 1) (lv' := [(2, .int 1), (1, .int (k_div (0 ^^^ (R.1 (0 : Int32).toNatClampNeg)))), (0, .ref h0)]) hx hb dX3_sumIsRight_21 hl (k := 1) rfl (by decide) (by decide) rfl (fun ls hl => ?_)
  refine lv_goto (tgt := 4) hx hb dX3_sumIsRight_24 (by decide) ?_
  refine lv_iload_n hx hb dX3_sumIsRight_4 rfl (lv_at hl 0 rfl) ?_
  refine lv_iconst (v := 4) hx hb dX3_sumIsRight_5 (by decide) ?_
  refine lv_icmp_ge (tgt := 27) hx hb dX3_sumIsRight_6 (by decide) (fun c => absurd c (by decide)) (fun _ => ?_)
  refine lv_iload_n hx hb dX3_sumIsRight_9 rfl (lv_at hl 1 rfl) ?_
  refine lv_aload_n hx hb dX3_sumIsRight_10 rfl (lv_at hl 2 rfl) ?_
  refine va_get (D := G) (ci := 3) (v := .ref h1) (C := RX3) (T := TX3) (N := 2) hx hb hts iX3_sumIsRight_X3 hown hK hP 0 rfl rfl 0 (by decide) (hts _ mX3_sumIsRight_1) (fun _ h9 => h9) rfl dX3_sumIsRight_11 ?_
  refine lv_iload_n hx hb dX3_sumIsRight_14 rfl (lv_at hl 0 rfl) ?_
  refine va_iald hx hb hK hP 1 0 rfl rfl (by decide) dX3_sumIsRight_15 ?_
  refine lv_ixor hx hb dX3_sumIsRight_16 ?_
  refine zz_ci (va_runS (As := [.int ((k_div (0 ^^^ (R.1 (0 : Int32).toNatClampNeg))) ^^^ (R.1 (1 : Int32).toNatClampNeg))]) (rest := []) ⟨hx, hb, hml, hown, hts⟩ (kX3_divide l G cA cB tb H.size ((k_div (0 ^^^ (R.1 (0 : Int32).toNatClampNeg))) ^^^ (R.1 (1 : Int32).toNatClampNeg))) (va_cwS 1 hts gX3_sumIsRight_X3_divide rfl rfl rfl (by decide +kernel) ⟨Nat.le_of_ble_eq_true rfl, Nat.le_of_ble_eq_true rfl⟩) (zz_preS zS_ok hK hP hD hS hA hz [] rfl (by decide)) rfl rfl hl.1 rfl (lv_room (Nat.le_of_ble_eq_true rfl)) dX3_sumIsRight_17 ⟨Nat.zero_le _, Nat.zero_le _⟩) hP hD hS hA [] [0, 1] rfl rfl (by decide) (by decide) (fun r u H locs hw hP hD hS => ?_)
  subst hw
  have hP : va_P G vwCl [(h0, .inr (3, [.ref h1, .int R.2])), (h1, .inl (cA, 5, .inl R.1))] H := hP
  have hD : va_D A [(h0, .inr (3, [.ref h1, .int R.2])), (h1, .inl (cA, 5, .inl R.1))] := hD
  refine lv_istore_n (lv' := [(1, .int (k_div ((k_div (0 ^^^ (R.1 (0 : Int32).toNatClampNeg))) ^^^ (R.1 (1 : Int32).toNatClampNeg)))), (2, .int 1), (0, .ref h0)]) hx hb dX3_sumIsRight_20 rfl hl (by decide) rfl (fun ls hl => ?_)
  refine lv_iinc (v := 2) (lv' := [(2, .int 2), (1, .int (k_div ((k_div (0 ^^^ (R.1 (0 : Int32).toNatClampNeg))) ^^^ (R.1 (1 : Int32).toNatClampNeg)))), (0, .ref h0)]) hx hb dX3_sumIsRight_21 hl (k := 1) rfl (by decide) (by decide) rfl (fun ls hl => ?_)
  refine lv_goto (tgt := 4) hx hb dX3_sumIsRight_24 (by decide) ?_
  refine lv_iload_n hx hb dX3_sumIsRight_4 rfl (lv_at hl 0 rfl) ?_
  refine lv_iconst (v := 4) hx hb dX3_sumIsRight_5 (by decide) ?_
  refine lv_icmp_ge (tgt := 27) hx hb dX3_sumIsRight_6 (by decide) (fun c => absurd c (by decide)) (fun _ => ?_)
  refine lv_iload_n hx hb dX3_sumIsRight_9 rfl (lv_at hl 1 rfl) ?_
  refine lv_aload_n hx hb dX3_sumIsRight_10 rfl (lv_at hl 2 rfl) ?_
  refine va_get (D := G) (ci := 3) (v := .ref h1) (C := RX3) (T := TX3) (N := 2) hx hb hts iX3_sumIsRight_X3 hown hK hP 0 rfl rfl 0 (by decide) (hts _ mX3_sumIsRight_1) (fun _ h9 => h9) rfl dX3_sumIsRight_11 ?_
  refine lv_iload_n hx hb dX3_sumIsRight_14 rfl (lv_at hl 0 rfl) ?_
  refine va_iald hx hb hK hP 1 0 rfl rfl (by decide) dX3_sumIsRight_15 ?_
  refine lv_ixor hx hb dX3_sumIsRight_16 ?_
  refine zz_ci (va_runS (As := [.int ((k_div ((k_div (0 ^^^ (R.1 (0 : Int32).toNatClampNeg))) ^^^ (R.1 (1 : Int32).toNatClampNeg))) ^^^ (R.1 (2 : Int32).toNatClampNeg))]) (rest := []) ⟨hx, hb, hml, hown, hts⟩ (kX3_divide l G cA cB tb H.size ((k_div ((k_div (0 ^^^ (R.1 (0 : Int32).toNatClampNeg))) ^^^ (R.1 (1 : Int32).toNatClampNeg))) ^^^ (R.1 (2 : Int32).toNatClampNeg))) (va_cwS 1 hts gX3_sumIsRight_X3_divide rfl rfl rfl (by decide +kernel) ⟨Nat.le_of_ble_eq_true rfl, Nat.le_of_ble_eq_true rfl⟩) (zz_preS zS_ok hK hP hD hS hA hz [] rfl (by decide)) rfl rfl hl.1 rfl (lv_room (Nat.le_of_ble_eq_true rfl)) dX3_sumIsRight_17 ⟨Nat.zero_le _, Nat.zero_le _⟩) hP hD hS hA [] [0, 1] rfl rfl (by decide) (by decide) (fun r u H locs hw hP hD hS => ?_)
  subst hw
  have hP : va_P G vwCl [(h0, .inr (3, [.ref h1, .int R.2])), (h1, .inl (cA, 5, .inl R.1))] H := hP
  have hD : va_D A [(h0, .inr (3, [.ref h1, .int R.2])), (h1, .inl (cA, 5, .inl R.1))] := hD
  refine lv_istore_n (lv' := [(1, .int (k_div ((k_div ((k_div (0 ^^^ (R.1 (0 : Int32).toNatClampNeg))) ^^^ (R.1 (1 : Int32).toNatClampNeg))) ^^^ (R.1 (2 : Int32).toNatClampNeg)))), (2, .int 2), (0, .ref h0)]) hx hb dX3_sumIsRight_20 rfl hl (by decide) rfl (fun ls hl => ?_)
  refine lv_iinc (v := 3) (lv' := [(2, .int 3), (1, .int (k_div ((k_div ((k_div (0 ^^^ (R.1 (0 : Int32).toNatClampNeg))) ^^^ (R.1 (1 : Int32).toNatClampNeg))) ^^^ (R.1 (2 : Int32).toNatClampNeg)))), (0, .ref h0)]) hx hb dX3_sumIsRight_21 hl (k := 1) rfl (by decide) (by decide) rfl (fun ls hl => ?_)
  refine lv_goto (tgt := 4) hx hb dX3_sumIsRight_24 (by decide) ?_
  refine lv_iload_n hx hb dX3_sumIsRight_4 rfl (lv_at hl 0 rfl) ?_
  refine lv_iconst (v := 4) hx hb dX3_sumIsRight_5 (by decide) ?_
  refine lv_icmp_ge (tgt := 27) hx hb dX3_sumIsRight_6 (by decide) (fun c => absurd c (by decide)) (fun _ => ?_)
  refine lv_iload_n hx hb dX3_sumIsRight_9 rfl (lv_at hl 1 rfl) ?_
  refine lv_aload_n hx hb dX3_sumIsRight_10 rfl (lv_at hl 2 rfl) ?_
  refine va_get (D := G) (ci := 3) (v := .ref h1) (C := RX3) (T := TX3) (N := 2) hx hb hts iX3_sumIsRight_X3 hown hK hP 0 rfl rfl 0 (by decide) (hts _ mX3_sumIsRight_1) (fun _ h9 => h9) rfl dX3_sumIsRight_11 ?_
  refine lv_iload_n hx hb dX3_sumIsRight_14 rfl (lv_at hl 0 rfl) ?_
  refine va_iald hx hb hK hP 1 0 rfl rfl (by decide) dX3_sumIsRight_15 ?_
  refine lv_ixor hx hb dX3_sumIsRight_16 ?_
  refine zz_ci (va_runS (As := [.int ((k_div ((k_div ((k_div (0 ^^^ (R.1 (0 : Int32).toNatClampNeg))) ^^^ (R.1 (1 : Int32).toNatClampNeg))) ^^^ (R.1 (2 : Int32).toNatClampNeg))) ^^^ (R.1 (3 : Int32).toNatClampNeg))]) (rest := []) ⟨hx, hb, hml, hown, hts⟩ (kX3_divide l G cA cB tb H.size ((k_div ((k_div ((k_div (0 ^^^ (R.1 (0 : Int32).toNatClampNeg))) ^^^ (R.1 (1 : Int32).toNatClampNeg))) ^^^ (R.1 (2 : Int32).toNatClampNeg))) ^^^ (R.1 (3 : Int32).toNatClampNeg))) (va_cwS 1 hts gX3_sumIsRight_X3_divide rfl rfl rfl (by decide +kernel) ⟨Nat.le_of_ble_eq_true rfl, Nat.le_of_ble_eq_true rfl⟩) (zz_preS zS_ok hK hP hD hS hA hz [] rfl (by decide)) rfl rfl hl.1 rfl (lv_room (Nat.le_of_ble_eq_true rfl)) dX3_sumIsRight_17 ⟨Nat.zero_le _, Nat.zero_le _⟩) hP hD hS hA [] [0, 1] rfl rfl (by decide) (by decide) (fun r u H locs hw hP hD hS => ?_)
  subst hw
  have hP : va_P G vwCl [(h0, .inr (3, [.ref h1, .int R.2])), (h1, .inl (cA, 5, .inl R.1))] H := hP
  have hD : va_D A [(h0, .inr (3, [.ref h1, .int R.2])), (h1, .inl (cA, 5, .inl R.1))] := hD
  refine lv_istore_n (lv' := [(1, .int (k_div ((k_div ((k_div ((k_div (0 ^^^ (R.1 (0 : Int32).toNatClampNeg))) ^^^ (R.1 (1 : Int32).toNatClampNeg))) ^^^ (R.1 (2 : Int32).toNatClampNeg))) ^^^ (R.1 (3 : Int32).toNatClampNeg)))), (2, .int 3), (0, .ref h0)]) hx hb dX3_sumIsRight_20 rfl hl (by decide) rfl (fun ls hl => ?_)
  refine lv_iinc (v := 4) (lv' := [(2, .int 4), (1, .int (k_div ((k_div ((k_div ((k_div (0 ^^^ (R.1 (0 : Int32).toNatClampNeg))) ^^^ (R.1 (1 : Int32).toNatClampNeg))) ^^^ (R.1 (2 : Int32).toNatClampNeg))) ^^^ (R.1 (3 : Int32).toNatClampNeg)))), (0, .ref h0)]) hx hb dX3_sumIsRight_21 hl (k := 1) rfl (by decide) (by decide) rfl (fun ls hl => ?_)
  refine lv_goto (tgt := 4) hx hb dX3_sumIsRight_24 (by decide) ?_
  refine lv_iload_n hx hb dX3_sumIsRight_4 rfl (lv_at hl 0 rfl) ?_
  refine lv_iconst (v := 4) hx hb dX3_sumIsRight_5 (by decide) ?_
  refine lv_icmp_ge (tgt := 27) hx hb dX3_sumIsRight_6 (by decide) (fun _ => ?_) (fun c => absurd (by decide) c)
  refine lv_iload_n hx hb dX3_sumIsRight_27 rfl (lv_at hl 1 rfl) ?_
  refine lv_aload_n hx hb dX3_sumIsRight_28 rfl (lv_at hl 2 rfl) ?_
  refine va_get (D := G) (ci := 3) (v := .ref h1) (C := RX3) (T := TX3) (N := 2) hx hb hts iX3_sumIsRight_X3 hown hK hP 0 rfl rfl 0 (by decide) (hts _ mX3_sumIsRight_1) (fun _ h9 => h9) rfl dX3_sumIsRight_29 ?_
  refine lv_iconst (v := 4) hx hb dX3_sumIsRight_32 (by decide) ?_
  refine va_iald hx hb hK hP 1 0 rfl rfl (by decide) dX3_sumIsRight_33 ?_
  refine lv_icmp_ne (tgt := 41) hx hb dX3_sumIsRight_34 (by decide) (fun c_1 => ?_) (fun c_1 => ?_)
  · refine lv_iconst (v := 0) hx hb dX3_sumIsRight_41 (by decide) ?_
    exact zz_rz (v := 0) () hx hb hr (by decide +kernel) hlocks hS hP hD (by first | (have e : k_sum R = R.1 4 := c_1; simp [k_sumOk, e, bI]) | (have e : ¬ k_sum R = R.1 4 := c_1; simp [k_sumOk, e, bI])) dX3_sumIsRight_42
  · refine lv_iconst (v := 1) hx hb dX3_sumIsRight_37 (by decide) ?_
    refine lv_goto (tgt := 42) hx hb dX3_sumIsRight_38 (by decide) ?_
    exact zz_rz (v := 1) () hx hb hr (by decide +kernel) hlocks hS hP hD (by first | (have e : k_sum R = R.1 4 := c_1; simp [k_sumOk, e, bI]) | (have e : ¬ k_sum R = R.1 4 := c_1; simp [k_sumOk, e, bI])) dX3_sumIsRight_42
theorem iX3_command_X3 : ∀ w ∈ u_ws RX3 TX3 2, w ∈ wsX3_command := by decide +kernel
theorem mX3_command_1 : Cond.fieldLink RX3 11 "ChamberPacer$Frame" "bytes" "[I" ∈ wsX3_command := by decide +kernel
abbrev rmX3_command : Room := { frames := 0, cells := 0, slots := 0, locals := 0 }
abbrev QfX3_command (G : va_G) (cA cB : ClassId) (h0 h1 : Nat) (R : tFr) : (Nat → Prop) → Array Value → State → Outcome → State → Prop := fun A => va_Qi (fun (r : Int32) (u : Unit) => r = R.1 0) (zz_B G vwCl (fun _ : Unit => (wFr h0 h1 cA cB R)) A) A
set_option maxHeartbeats 4000000 in
set_option maxRecDepth 100000 in
theorem kX3_command (l : Launch) (G : va_G) (cA cB : ClassId) (tb : Nat × Nat × Nat) (h0 h1 : Nat) (sz : Nat) (R : tFr) : Met l yX3_command wsX3_command rmX3_command (zz_P (zS tb) G vwCl [(cA, .int), (cB, .boolean)] [.ref h0] (wFr h0 h1 cA cB R) sz) (QfX3_command G cA cB h0 h1 R (va_A (wFr h0 h1 cA cB R) sz)) 0 0 (va_A (wFr h0 h1 cA cB R) sz) := by
  refine zz_Met (cc := cX3_command) (maxL := 1) (ret := (some .int)) (Qf := QfX3_command G cA cB h0 h1 R) (by decide) rfl (Nat.le_of_ble_eq_true rfl) ?_
  intro p e s m below meth c A ls hx hb hr hts hown hlocks hin hml hA hP hK hD hz hS hl
  have hl : lv_has ls 1 [(0, .ref h0)] := hl
  have hP : va_P G vwCl [(h0, .inr (3, [.ref h1, .int R.2])), (h1, .inl (cA, 5, .inl R.1))] s.heap := hP
  have hD : va_D A [(h0, .inr (3, [.ref h1, .int R.2])), (h1, .inl (cA, 5, .inl R.1))] := hD
  refine lv_aload_n hx hb dX3_command_0 rfl (lv_at hl 0 rfl) ?_
  refine va_get (D := G) (ci := 3) (v := .ref h1) (C := RX3) (T := TX3) (N := 2) hx hb hts iX3_command_X3 hown hK hP 0 rfl rfl 0 (by decide) (hts _ mX3_command_1) (fun _ h9 => h9) rfl dX3_command_1 ?_
  refine lv_iconst (v := 0) hx hb dX3_command_4 (by decide) ?_
  refine va_iald hx hb hK hP 1 0 rfl rfl (by decide) dX3_command_5 ?_
  exact zz_ri (v := (R.1 (0 : Int32).toNatClampNeg)) () hx hb hr hlocks hS hP hD (by first | rfl | (simp [])) dX3_command_6
theorem iX3_number_X3 : ∀ w ∈ u_ws RX3 TX3 2, w ∈ wsX3_number := by decide +kernel
theorem mX3_number_1 : Cond.fieldLink RX3 11 "ChamberPacer$Frame" "bytes" "[I" ∈ wsX3_number := by decide +kernel
abbrev rmX3_number : Room := { frames := 0, cells := 0, slots := 0, locals := 0 }
abbrev QfX3_number (G : va_G) (cA cB : ClassId) (h0 h1 : Nat) (R : tFr) : (Nat → Prop) → Array Value → State → Outcome → State → Prop := fun A => va_Qi (fun (r : Int32) (u : Unit) => r = R.1 1) (zz_B G vwCl (fun _ : Unit => (wFr h0 h1 cA cB R)) A) A
set_option maxHeartbeats 4000000 in
set_option maxRecDepth 100000 in
theorem kX3_number (l : Launch) (G : va_G) (cA cB : ClassId) (tb : Nat × Nat × Nat) (h0 h1 : Nat) (sz : Nat) (R : tFr) : Met l yX3_number wsX3_number rmX3_number (zz_P (zS tb) G vwCl [(cA, .int), (cB, .boolean)] [.ref h0] (wFr h0 h1 cA cB R) sz) (QfX3_number G cA cB h0 h1 R (va_A (wFr h0 h1 cA cB R) sz)) 0 0 (va_A (wFr h0 h1 cA cB R) sz) := by
  refine zz_Met (cc := cX3_number) (maxL := 1) (ret := (some .int)) (Qf := QfX3_number G cA cB h0 h1 R) (by decide) rfl (Nat.le_of_ble_eq_true rfl) ?_
  intro p e s m below meth c A ls hx hb hr hts hown hlocks hin hml hA hP hK hD hz hS hl
  have hl : lv_has ls 1 [(0, .ref h0)] := hl
  have hP : va_P G vwCl [(h0, .inr (3, [.ref h1, .int R.2])), (h1, .inl (cA, 5, .inl R.1))] s.heap := hP
  have hD : va_D A [(h0, .inr (3, [.ref h1, .int R.2])), (h1, .inl (cA, 5, .inl R.1))] := hD
  refine lv_aload_n hx hb dX3_number_0 rfl (lv_at hl 0 rfl) ?_
  refine va_get (D := G) (ci := 3) (v := .ref h1) (C := RX3) (T := TX3) (N := 2) hx hb hts iX3_number_X3 hown hK hP 0 rfl rfl 0 (by decide) (hts _ mX3_number_1) (fun _ h9 => h9) rfl dX3_number_1 ?_
  refine lv_iconst (v := 1) hx hb dX3_number_4 (by decide) ?_
  refine va_iald hx hb hK hP 1 0 rfl rfl (by decide) dX3_number_5 ?_
  exact zz_ri (v := (R.1 (1 : Int32).toNatClampNeg)) () hx hb hr hlocks hS hP hD (by first | rfl | (simp [])) dX3_number_6
theorem iX3_amount_X3 : ∀ w ∈ u_ws RX3 TX3 2, w ∈ wsX3_amount := by decide +kernel
theorem mX3_amount_1 : Cond.fieldLink RX3 11 "ChamberPacer$Frame" "bytes" "[I" ∈ wsX3_amount := by decide +kernel
abbrev rmX3_amount : Room := { frames := 0, cells := 0, slots := 0, locals := 0 }
abbrev QfX3_amount (G : va_G) (cA cB : ClassId) (h0 h1 : Nat) (R : tFr) : (Nat → Prop) → Array Value → State → Outcome → State → Prop := fun A => va_Qi (fun (r : Int32) (u : Unit) => r = R.1 2 * 256 + R.1 3) (zz_B G vwCl (fun _ : Unit => (wFr h0 h1 cA cB R)) A) A
set_option maxHeartbeats 4000000 in
set_option maxRecDepth 100000 in
theorem kX3_amount (l : Launch) (G : va_G) (cA cB : ClassId) (tb : Nat × Nat × Nat) (h0 h1 : Nat) (sz : Nat) (R : tFr) : Met l yX3_amount wsX3_amount rmX3_amount (zz_P (zS tb) G vwCl [(cA, .int), (cB, .boolean)] [.ref h0] (wFr h0 h1 cA cB R) sz) (QfX3_amount G cA cB h0 h1 R (va_A (wFr h0 h1 cA cB R) sz)) 0 0 (va_A (wFr h0 h1 cA cB R) sz) := by
  refine zz_Met (cc := cX3_amount) (maxL := 1) (ret := (some .int)) (Qf := QfX3_amount G cA cB h0 h1 R) (by decide) rfl (Nat.le_of_ble_eq_true rfl) ?_
  intro p e s m below meth c A ls hx hb hr hts hown hlocks hin hml hA hP hK hD hz hS hl
  have hl : lv_has ls 1 [(0, .ref h0)] := hl
  have hP : va_P G vwCl [(h0, .inr (3, [.ref h1, .int R.2])), (h1, .inl (cA, 5, .inl R.1))] s.heap := hP
  have hD : va_D A [(h0, .inr (3, [.ref h1, .int R.2])), (h1, .inl (cA, 5, .inl R.1))] := hD
  refine lv_aload_n hx hb dX3_amount_0 rfl (lv_at hl 0 rfl) ?_
  refine va_get (D := G) (ci := 3) (v := .ref h1) (C := RX3) (T := TX3) (N := 2) hx hb hts iX3_amount_X3 hown hK hP 0 rfl rfl 0 (by decide) (hts _ mX3_amount_1) (fun _ h9 => h9) rfl dX3_amount_1 ?_
  refine lv_iconst (v := 2) hx hb dX3_amount_4 (by decide) ?_
  refine va_iald hx hb hK hP 1 0 rfl rfl (by decide) dX3_amount_5 ?_
  refine lv_sipush (v := 256) hx hb dX3_amount_6 (by decide) ?_
  refine lv_imul hx hb dX3_amount_9 ?_
  refine lv_aload_n hx hb dX3_amount_10 rfl (lv_at hl 0 rfl) ?_
  refine va_get (D := G) (ci := 3) (v := .ref h1) (C := RX3) (T := TX3) (N := 2) hx hb hts iX3_amount_X3 hown hK hP 0 rfl rfl 0 (by decide) (hts _ mX3_amount_1) (fun _ h9 => h9) rfl dX3_amount_11 ?_
  refine lv_iconst (v := 3) hx hb dX3_amount_14 (by decide) ?_
  refine va_iald hx hb hK hP 1 0 rfl rfl (by decide) dX3_amount_15 ?_
  refine lv_iadd hx hb dX3_amount_16 ?_
  exact zz_ri (v := (((R.1 (2 : Int32).toNatClampNeg) * 256) + (R.1 (3 : Int32).toNatClampNeg))) () hx hb hr hlocks hS hP hD (by first | rfl | (simp [])) dX3_amount_17
theorem iX3_endsWith_X3 : ∀ w ∈ u_ws RX3 TX3 2, w ∈ wsX3_endsWith := by decide +kernel
theorem mX3_endsWith_1 : Cond.fieldLink RX3 15 "ChamberPacer$Frame" "got" "I" ∈ wsX3_endsWith := by decide +kernel
theorem mX3_endsWith_2 : Cond.fieldLink RX3 11 "ChamberPacer$Frame" "bytes" "[I" ∈ wsX3_endsWith := by decide +kernel
abbrev rmX3_endsWith : Room := { frames := 0, cells := 0, slots := 0, locals := 0 }
abbrev QfX3_endsWith (G : va_G) (cA cB : ClassId) (h0 h1 : Nat) (R : tFr) (b : Int32) : (Nat → Prop) → Array Value → State → Outcome → State → Prop := fun A => va_Qi (fun (r : Int32) (u : tFr) => r = bI (k_ends b R) ∧ u = k_gets b R) (zz_B G vwCl (fun u : tFr => (wFr h0 h1 cA cB u)) A) A
set_option maxHeartbeats 4000000 in
set_option maxRecDepth 100000 in
theorem kX3_endsWith (l : Launch) (G : va_G) (cA cB : ClassId) (tb : Nat × Nat × Nat) (h0 h1 : Nat) (sz : Nat) (R : tFr) (b : Int32) : Met l yX3_endsWith wsX3_endsWith rmX3_endsWith (zz_P (zS tb) G vwCl [(cA, .int), (cB, .boolean)] [.ref h0, .int b] (wFr h0 h1 cA cB R) sz) (QfX3_endsWith G cA cB h0 h1 R b (va_A (wFr h0 h1 cA cB R) sz)) 0 0 (va_A (wFr h0 h1 cA cB R) sz) := by
  refine zz_Met (cc := cX3_endsWith) (maxL := 2) (ret := (some .boolean)) (Qf := QfX3_endsWith G cA cB h0 h1 R b) (by decide) rfl (Nat.le_of_ble_eq_true rfl) ?_
  intro p e s m below meth c A ls hx hb hr hts hown hlocks hin hml hA hP hK hD hz hS hl
  have hl : lv_has ls 2 [(0, .ref h0), (1, .int b)] := hl
  have hP : va_P G vwCl [(h0, .inr (3, [.ref h1, .int R.2])), (h1, .inl (cA, 5, .inl R.1))] s.heap := hP
  have hD : va_D A [(h0, .inr (3, [.ref h1, .int R.2])), (h1, .inl (cA, 5, .inl R.1))] := hD
  refine lv_aload_n hx hb dX3_endsWith_0 rfl (lv_at hl 0 rfl) ?_
  refine va_get (D := G) (ci := 3) (v := .int R.2) (C := RX3) (T := TX3) (N := 2) hx hb hts iX3_endsWith_X3 hown hK hP 0 rfl rfl 1 (by decide) (hts _ mX3_endsWith_1) (fun _ h9 => h9) rfl dX3_endsWith_1 ?_
  refine lv_if_lt (tgt := 15) hx hb dX3_endsWith_4 (by decide) (fun c_1 => ?_) (fun c_1 => ?_)
  · refine lv_aload_n hx hb dX3_endsWith_15 rfl (lv_at hl 0 rfl) ?_
    refine lv_iload_n hx hb dX3_endsWith_16 rfl (lv_at hl 1 rfl) ?_
    refine lv_bipush (v := 126) hx hb dX3_endsWith_17 (by decide) ?_
    refine lv_icmp_ne (tgt := 26) hx hb dX3_endsWith_19 (by decide) (fun c_2 => ?_) (fun c_2 => ?_)
    · refine lv_iconst (v := (-1)) hx hb dX3_endsWith_26 (by decide) ?_
      refine va_put (D := G) (ci := 3) (v := .int (-1)) (ty := .int) (C := RX3) (T := TX3) (N := 2) hx hb hts iX3_endsWith_X3 tyX3 tyX3_ok nmX3 hown hK hP hD hS 0 rfl rfl 1 (by decide) (hts _ mX3_endsWith_1) (fun _ h9 => h9) rfl (by decide +kernel) rfl rfl (Nat.le_of_ble_eq_true rfl) dX3_endsWith_27 (fun H locs hP hD hS => ?_)
      have hP : va_P G vwCl [(h0, .inr (3, [.ref h1, .int (-1)])), (h1, .inl (cA, 5, .inl R.1))] H := hP
      have hD : va_D A [(h0, .inr (3, [.ref h1, .int (-1)])), (h1, .inl (cA, 5, .inl R.1))] := hD
      refine lv_iconst (v := 0) hx hb dX3_endsWith_30 (by decide) ?_
      exact zz_rz (v := 0) ((R.1, (-1)) : tFr) hx hb hr (by decide +kernel) hlocks hS hP hD ⟨by simp [k_ends, bI, c_1, c_2], by first | (simp [k_ends, k_gets, bI, c_1, c_2]; done) | rfl⟩ dX3_endsWith_31
    · refine lv_iconst (v := 0) hx hb dX3_endsWith_22 (by decide) ?_
      refine lv_goto (tgt := 27) hx hb dX3_endsWith_23 (by decide) ?_
      refine va_put (D := G) (ci := 3) (v := .int 0) (ty := .int) (C := RX3) (T := TX3) (N := 2) hx hb hts iX3_endsWith_X3 tyX3 tyX3_ok nmX3 hown hK hP hD hS 0 rfl rfl 1 (by decide) (hts _ mX3_endsWith_1) (fun _ h9 => h9) rfl (by decide +kernel) rfl rfl (Nat.le_of_ble_eq_true rfl) dX3_endsWith_27 (fun H locs hP hD hS => ?_)
      have hP : va_P G vwCl [(h0, .inr (3, [.ref h1, .int 0])), (h1, .inl (cA, 5, .inl R.1))] H := hP
      have hD : va_D A [(h0, .inr (3, [.ref h1, .int 0])), (h1, .inl (cA, 5, .inl R.1))] := hD
      refine lv_iconst (v := 0) hx hb dX3_endsWith_30 (by decide) ?_
      exact zz_rz (v := 0) ((R.1, 0) : tFr) hx hb hr (by decide +kernel) hlocks hS hP hD ⟨by simp [k_ends, bI, c_1, c_2], by first | (simp [k_ends, k_gets, bI, c_1, c_2]; done) | rfl⟩ dX3_endsWith_31
  · refine lv_aload_n hx hb dX3_endsWith_7 rfl (lv_at hl 0 rfl) ?_
    refine va_get (D := G) (ci := 3) (v := .int R.2) (C := RX3) (T := TX3) (N := 2) hx hb hts iX3_endsWith_X3 hown hK hP 0 rfl rfl 1 (by decide) (hts _ mX3_endsWith_1) (fun _ h9 => h9) rfl dX3_endsWith_8 ?_
    refine lv_iconst (v := 5) hx hb dX3_endsWith_11 (by decide) ?_
    refine lv_icmp_lt (tgt := 32) hx hb dX3_endsWith_12 (by decide) (fun c_3 => ?_) (fun c_3 => ?_)
    · refine lv_aload_n hx hb dX3_endsWith_32 rfl (lv_at hl 0 rfl) ?_
      refine va_get (D := G) (ci := 3) (v := .ref h1) (C := RX3) (T := TX3) (N := 2) hx hb hts iX3_endsWith_X3 hown hK hP 0 rfl rfl 0 (by decide) (hts _ mX3_endsWith_2) (fun _ h9 => h9) rfl dX3_endsWith_33 ?_
      refine lv_aload_n hx hb dX3_endsWith_36 rfl (lv_at hl 0 rfl) ?_
      refine va_get (D := G) (ci := 3) (v := .int R.2) (C := RX3) (T := TX3) (N := 2) hx hb hts iX3_endsWith_X3 hown hK hP 0 rfl rfl 1 (by decide) (hts _ mX3_endsWith_1) (fun _ h9 => h9) rfl dX3_endsWith_37 ?_
      refine lv_iload_n hx hb dX3_endsWith_40 rfl (lv_at hl 1 rfl) ?_
      refine va_iast hx hb hK hP hD hS 1 0 rfl rfl (vp_of (m := 5) (by decide) c_1 (fun q => zz_lt_le c_2 q)) dX3_endsWith_41 (fun H locs hP hD hS => ?_)
      have hP : va_P G vwCl [(h0, .inr (3, [.ref h1, .int R.2])), (h1, .inl (cA, 5, .inl (upd R.1 R.2.toNatClampNeg b)))] H := hP
      have hD : va_D A [(h0, .inr (3, [.ref h1, .int R.2])), (h1, .inl (cA, 5, .inl (upd R.1 R.2.toNatClampNeg b)))] := hD
      refine lv_aload_n hx hb dX3_endsWith_42 rfl (lv_at hl 0 rfl) ?_
      refine lv_dup hx hb dX3_endsWith_43 rfl ?_
      refine va_get (D := G) (ci := 3) (v := .int R.2) (C := RX3) (T := TX3) (N := 2) hx hb hts iX3_endsWith_X3 hown hK hP 0 rfl rfl 1 (by decide) (hts _ mX3_endsWith_1) (fun _ h9 => h9) rfl dX3_endsWith_44 ?_
      refine lv_iconst (v := 1) hx hb dX3_endsWith_47 (by decide) ?_
      refine lv_iadd hx hb dX3_endsWith_48 ?_
      refine va_put (D := G) (ci := 3) (v := .int (R.2 + 1)) (ty := .int) (C := RX3) (T := TX3) (N := 2) hx hb hts iX3_endsWith_X3 tyX3 tyX3_ok nmX3 hown hK hP hD hS 0 rfl rfl 1 (by decide) (hts _ mX3_endsWith_1) (fun _ h9 => h9) rfl (by decide +kernel) rfl rfl (Nat.le_of_ble_eq_true rfl) dX3_endsWith_49 (fun H locs hP hD hS => ?_)
      have hP : va_P G vwCl [(h0, .inr (3, [.ref h1, .int (R.2 + 1)])), (h1, .inl (cA, 5, .inl (upd R.1 R.2.toNatClampNeg b)))] H := hP
      have hD : va_D A [(h0, .inr (3, [.ref h1, .int (R.2 + 1)])), (h1, .inl (cA, 5, .inl (upd R.1 R.2.toNatClampNeg b)))] := hD
      refine lv_aload_n hx hb dX3_endsWith_52 rfl (lv_at hl 0 rfl) ?_
      refine va_get (D := G) (ci := 3) (v := .int (R.2 + 1)) (C := RX3) (T := TX3) (N := 2) hx hb hts iX3_endsWith_X3 hown hK hP 0 rfl rfl 1 (by decide) (hts _ mX3_endsWith_1) (fun _ h9 => h9) rfl dX3_endsWith_53 ?_
      refine lv_iconst (v := 5) hx hb dX3_endsWith_56 (by decide) ?_
      refine lv_icmp_ne (tgt := 64) hx hb dX3_endsWith_57 (by decide) (fun c_4 => ?_) (fun c_4 => ?_)
      · refine lv_iconst (v := 0) hx hb dX3_endsWith_64 (by decide) ?_
        exact zz_rz (v := 0) (((upd R.1 R.2.toNatClampNeg b), (R.2 + 1)) : tFr) hx hb hr (by decide +kernel) hlocks hS hP hD ⟨by simp [k_ends, bI, c_1, c_3, c_4], by first | (simp [k_ends, k_gets, bI, c_1, c_3, c_4]; done) | rfl⟩ dX3_endsWith_65
      · refine lv_iconst (v := 1) hx hb dX3_endsWith_60 (by decide) ?_
        refine lv_goto (tgt := 65) hx hb dX3_endsWith_61 (by decide) ?_
        exact zz_rz (v := 1) (((upd R.1 R.2.toNatClampNeg b), (R.2 + 1)) : tFr) hx hb hr (by decide +kernel) hlocks hS hP hD ⟨by simp [k_ends, bI, c_1, c_3, c_4], by first | (simp [k_ends, k_gets, bI, c_1, c_3, c_4]; done) | rfl⟩ dX3_endsWith_65
    · refine lv_aload_n hx hb dX3_endsWith_15 rfl (lv_at hl 0 rfl) ?_
      refine lv_iload_n hx hb dX3_endsWith_16 rfl (lv_at hl 1 rfl) ?_
      refine lv_bipush (v := 126) hx hb dX3_endsWith_17 (by decide) ?_
      refine lv_icmp_ne (tgt := 26) hx hb dX3_endsWith_19 (by decide) (fun c_5 => ?_) (fun c_5 => ?_)
      · refine lv_iconst (v := (-1)) hx hb dX3_endsWith_26 (by decide) ?_
        refine va_put (D := G) (ci := 3) (v := .int (-1)) (ty := .int) (C := RX3) (T := TX3) (N := 2) hx hb hts iX3_endsWith_X3 tyX3 tyX3_ok nmX3 hown hK hP hD hS 0 rfl rfl 1 (by decide) (hts _ mX3_endsWith_1) (fun _ h9 => h9) rfl (by decide +kernel) rfl rfl (Nat.le_of_ble_eq_true rfl) dX3_endsWith_27 (fun H locs hP hD hS => ?_)
        have hP : va_P G vwCl [(h0, .inr (3, [.ref h1, .int (-1)])), (h1, .inl (cA, 5, .inl R.1))] H := hP
        have hD : va_D A [(h0, .inr (3, [.ref h1, .int (-1)])), (h1, .inl (cA, 5, .inl R.1))] := hD
        refine lv_iconst (v := 0) hx hb dX3_endsWith_30 (by decide) ?_
        exact zz_rz (v := 0) ((R.1, (-1)) : tFr) hx hb hr (by decide +kernel) hlocks hS hP hD ⟨by simp [k_ends, bI, c_1, c_3, c_5], by first | (simp [k_ends, k_gets, bI, c_1, c_3, c_5]; done) | rfl⟩ dX3_endsWith_31
      · refine lv_iconst (v := 0) hx hb dX3_endsWith_22 (by decide) ?_
        refine lv_goto (tgt := 27) hx hb dX3_endsWith_23 (by decide) ?_
        refine va_put (D := G) (ci := 3) (v := .int 0) (ty := .int) (C := RX3) (T := TX3) (N := 2) hx hb hts iX3_endsWith_X3 tyX3 tyX3_ok nmX3 hown hK hP hD hS 0 rfl rfl 1 (by decide) (hts _ mX3_endsWith_1) (fun _ h9 => h9) rfl (by decide +kernel) rfl rfl (Nat.le_of_ble_eq_true rfl) dX3_endsWith_27 (fun H locs hP hD hS => ?_)
        have hP : va_P G vwCl [(h0, .inr (3, [.ref h1, .int 0])), (h1, .inl (cA, 5, .inl R.1))] H := hP
        have hD : va_D A [(h0, .inr (3, [.ref h1, .int 0])), (h1, .inl (cA, 5, .inl R.1))] := hD
        refine lv_iconst (v := 0) hx hb dX3_endsWith_30 (by decide) ?_
        exact zz_rz (v := 0) ((R.1, 0) : tFr) hx hb hr (by decide +kernel) hlocks hS hP hD ⟨by simp [k_ends, bI, c_1, c_3, c_5], by first | (simp [k_ends, k_gets, bI, c_1, c_3, c_5]; done) | rfl⟩ dX3_endsWith_31

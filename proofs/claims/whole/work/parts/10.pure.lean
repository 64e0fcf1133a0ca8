/-! The class ChamberPacer, as functions of its state -/
/-! comparisons that nothing unfolds -/
theorem zltE (a b : Int32) : ∃ x : Bool, x = decide (a < b) := ⟨_, rfl⟩
noncomputable def zlt (a b : Int32) : Bool := Classical.choose (zltE a b)
theorem zlt_d (a b : Int32) : zlt a b = decide (a < b) := Classical.choose_spec (zltE a b)
theorem zleE (a b : Int32) : ∃ x : Bool, x = decide (a ≤ b) := ⟨_, rfl⟩
noncomputable def zle (a b : Int32) : Bool := Classical.choose (zleE a b)
theorem zle_d (a b : Int32) : zle a b = decide (a ≤ b) := Classical.choose_spec (zleE a b)
theorem zeqE (a b : Int32) : ∃ x : Bool, x = decide (a = b) := ⟨_, rfl⟩
noncomputable def zeq (a b : Int32) : Bool := Classical.choose (zeqE a b)
theorem zeq_d (a b : Int32) : zeq a b = decide (a = b) := Classical.choose_spec (zeqE a b)
theorem zlt_t {a b : Int32} (h : a < b) : zlt a b = true := by rw [zlt_d]; exact decide_eq_true h
theorem zlt_f {a b : Int32} (h : ¬ a < b) : zlt a b = false := by rw [zlt_d]; exact decide_eq_false h
theorem zle_t {a b : Int32} (h : a ≤ b) : zle a b = true := by rw [zle_d]; exact decide_eq_true h
theorem zle_f {a b : Int32} (h : ¬ a ≤ b) : zle a b = false := by rw [zle_d]; exact decide_eq_false h
theorem zeq_t {a b : Int32} (h : a = b) : zeq a b = true := by rw [zeq_d]; exact decide_eq_true h
theorem zeq_f {a b : Int32} (h : ¬ a = b) : zeq a b = false := by rw [zeq_d]; exact decide_eq_false h
theorem zlt_p {a b : Int32} (h : zlt a b = true) : a < b := by rw [zlt_d] at h; exact of_decide_eq_true h
theorem zlt_n {a b : Int32} (h : zlt a b = false) : ¬ a < b := by rw [zlt_d] at h; exact of_decide_eq_false h
theorem zle_p {a b : Int32} (h : zle a b = true) : a ≤ b := by rw [zle_d] at h; exact of_decide_eq_true h
theorem zle_n {a b : Int32} (h : zle a b = false) : ¬ a ≤ b := by rw [zle_d] at h; exact of_decide_eq_false h
theorem zeq_p {a b : Int32} (h : zeq a b = true) : a = b := by rw [zeq_d] at h; exact of_decide_eq_true h
theorem zeq_n {a b : Int32} (h : zeq a b = false) : ¬ a = b := by rw [zeq_d] at h; exact of_decide_eq_false h
noncomputable def zmin (x y : Int32) : Int32 := if zlt y x = true then y else x
noncomputable def zmax (x y : Int32) : Int32 := if zlt x y = true then y else x
noncomputable def zabs (x : Int32) : Int32 := if zle 0 x = true then x else 0 - x
theorem zmin_e (x y : Int32) : (if y < x then y else x) = zmin x y := by
  unfold zmin; rw [zlt_d]; by_cases h : y < x <;> simp [h]
theorem zmax_e (x y : Int32) : (if x < y then y else x) = zmax x y := by
  unfold zmax; rw [zlt_d]; by_cases h : x < y <;> simp [h]
theorem zabs_e (x : Int32) : (if 0 ≤ x then x else 0 - x) = zabs x := by
  unfold zabs; rw [zle_d]; by_cases h : 0 ≤ x <;> simp [h]
theorem zz_topi {p : Program} {l : Launch} {e : Env} {R : Room} {s : State} {m : MethodId} {args : Array Value} {below : List Frame} {meth : Method} {c : Code} {H : Heap} {locs : List Loc} {cells slots : Nat} {Q : State → Prop} {pc : Nat} {ls : Array Slot} {rest : List Value} {x y : Int32} (h : x = y) (k : W p l e R s m args below meth c H locs cells slots Q (F0 m pc ls (.int y :: rest))) : W p l e R s m args below meth c H locs cells slots Q (F0 m pc ls (.int x :: rest)) := by rw [h]; exact k
def bI (b : Bool) : Int32 := match b with | true => 1 | false => 0
theorem bI_0 {b : Bool} : bI b = 0 ↔ b = false := by cases b <;> decide
theorem bI_1 {b : Bool} : bI b = 1 ↔ b = true := by cases b <;> decide
theorem bI_f {b : Bool} (h : bI b = 0) : b = false := bI_0.mp h
theorem bI_t {b : Bool} (h : ¬ bI b = 0) : b = true := by cases b with
  | true => rfl
  | false => exact absurd rfl h
theorem bI_n (b : Bool) : narrow .boolean (.int (bI b)) = .int (bI b) := by cases b <;> rfl
theorem bI_tt : bI true = 1 := rfl
theorem bI_ff : bI false = 0 := rfl
theorem if_fb {α : Sort _} {b : Bool} {x y : α} (h : b = false) : (if b = true then x else y) = y := if_neg (by rw [h]; decide)
theorem bI_d_t {p : Prop} {d : Decidable p} (h : p) : 1 = bI (decide p) := by rw [decide_eq_true h]; rfl
theorem bI_d_f {p : Prop} {d : Decidable p} (h : ¬ p) : 0 = bI (decide p) := by rw [decide_eq_false h]; rfl
theorem zz_nt {b : Bool} (h : b = true) : false = !b := by rw [h]; rfl
theorem zz_nf {b : Bool} (h : b = false) : true = !b := by rw [h]; rfl
theorem bI_nd_t {p : Prop} {d : Decidable p} (h : p) : 0 = bI (!decide p) := by rw [decide_eq_true h]; rfl
theorem bI_nd_f {p : Prop} {d : Decidable p} (h : ¬ p) : 1 = bI (!decide p) := by rw [decide_eq_false h]; rfl
abbrev tSe : Type := (Nat → Int32) × (Nat → Int32)
abbrev tCk : Type := Int32 × Int32 × Int32 × Int32 × Int32 × Bool
abbrev tSg : Type := Int32 × Int32
abbrev tFo : Type := Int32 × Int32 × Bool
abbrev tPa : Type := Int32 × Int32 × Int32
abbrev tCy : Type := (Nat → Int32) × Int32
abbrev tMk : Type := (Nat → Int32) × (Nat → Int32) × Int32 × Int32
abbrev tFr : Type := (Nat → Int32) × Int32
abbrev tCP : Type := tSe × tCk × tSg × tSg × tFo × tPa × tCy × tMk × tFr × Int32
def tLeast (k : Nat) : Int32 := [0, 30, 20, 5, 10, 10, 5, 0, 0, 1, 1, 0, 25, 10].getD k 0
def tMost (k : Nat) : Int32 := [7, 200, 120, 30, 60, 60, 60, 10, 60, 500, 500, 1, 150, 60].getD k 0
def tFirst (k : Nat) : Int32 := [7, 100, 50, 15, 25, 30, 20, 4, 0, 10, 20, 0, 50, 25].getD k 0
noncomputable def k_near (x lo hi : Int32) : Int32 := if zle lo x = true then (if zle x hi = true then x else hi) else lo
noncomputable def k_exists (k : Int32) : Bool := !zlt k 0 && !zle 14 k
noncomputable def k_allows (k a : Int32) : Bool := k_exists k && !zlt a (tLeast k.toNatClampNeg) && !zlt (tMost k.toNatClampNeg) a
noncomputable def k_mode (S : tSe) : Int32 := S.1 0
noncomputable def k_inF (S : tSe) (k : Int32) : Int32 := if k_exists k = true then S.1 k.toNatClampNeg else -1
noncomputable def k_pend (S : tSe) (k : Int32) : Int32 := if k_exists k = true then S.2 k.toNatClampNeg else -1
noncomputable def k_latest (S : tSe) (k : Int32) : Int32 := if zeq (k_pend S k) (-1) = true then k_inF S k else k_pend S k
noncomputable def k_ask (S : tSe) (k a : Int32) : tSe := if k_allows k a = true then (S.1, upd S.2 k.toNatClampNeg a) else S
noncomputable def k_fill (f : Nat → Int32) (n : Nat) (v : Int32) : Nat → Int32 := fun j => if j < n then v else f j
noncomputable def k_drop (S : tSe) : tSe := (S.1, k_fill S.2 14 (-1))
noncomputable def k_any (S : tSe) : Nat → Bool
  | 0 => false
  | n + 1 => if zeq (S.2 n) (-1) = true then k_any S n else true
noncomputable def k_pifF (S : tSe) (n : Nat) : Nat → Int32 := fun j => if j < n ∧ zeq (S.2 j) (-1) = false then S.2 j else S.1 j
noncomputable def k_pifA (S : tSe) (n : Nat) : Nat → Int32 := fun j => if j < n then -1 else S.2 j
noncomputable def k_pif (S : tSe) : tSe := (k_pifF S 14, k_pifA S 14)
noncomputable def k_avRuns (C : tCk) : Bool := !zeq C.2.2.2.2.1 (-1)
noncomputable def k_startAv (C : tCk) : tCk := (C.1, C.2.1, C.2.2.1, C.2.2.2.1, 0, C.2.2.2.2.2)
noncomputable def k_stopAv (C : tCk) : tCk := (C.1, C.2.1, C.2.2.1, C.2.2.2.1, -1, C.2.2.2.2.2)
noncomputable def k_grow1 (C : tCk) : tCk := (C.1 + 1, zmin (C.2.1 + 1) 1000, zmin (C.2.2.1 + 1) 1000, zmin (C.2.2.2.1 + 1) 1000, C.2.2.2.2.1, C.2.2.2.2.2)
noncomputable def k_grow (C : tCk) : tCk := if k_avRuns (k_grow1 C) = true then ((k_grow1 C).1, (k_grow1 C).2.1, (k_grow1 C).2.2.1, (k_grow1 C).2.2.2.1, C.2.2.2.2.1 + 1, C.2.2.2.2.2) else k_grow1 C
theorem k_growT {C : tCk} (h : k_avRuns (k_grow1 C) = true) : k_grow C = ((k_grow1 C).1, (k_grow1 C).2.1, (k_grow1 C).2.2.1, (k_grow1 C).2.2.2.1, C.2.2.2.2.1 + 1, C.2.2.2.2.2) := by
  unfold k_grow; exact if_pos h
theorem k_growF {C : tCk} (h : k_avRuns (k_grow1 C) = false) : k_grow C = k_grow1 C := by
  unfold k_grow; exact if_neg (by rw [h]; decide)
noncomputable def k_restA (b : Bool) (C : tCk) : tCk := (C.1, 0, C.2.2.1, (if b = true then 0 else C.2.2.2.1), C.2.2.2.2.1, true)
noncomputable def k_restV (C : tCk) : tCk := (C.1, C.2.1, 0, C.2.2.2.1, -1, false)
noncomputable def k_cross (S : tSg) (x lim : Int32) : Bool := !zlt (zabs (x - S.2)) lim
noncomputable def k_take (S : tSg) (x : Int32) : tSg := (x, S.1)
noncomputable def k_cntF (b : Bool) (F : tFo) : Int32 := if b = true then F.1 + 1 else 0
noncomputable def k_cntS (b : Bool) (F : tFo) : Int32 := if b = true then 0 else F.2.1 + 1
noncomputable def k_count (b : Bool) (F : tFo) : tFo := if zlt (k_cntS b F) 3 = true then (k_cntF b F, k_cntS b F, if zlt (k_cntF b F) 5 = true then F.2.2 else true) else (k_cntF b F, k_cntS b F, false)
noncomputable def k_forget (F : tFo) : tFo := (0, 0, false)
noncomputable def k_adapt (a : Int32) (P : tPa) : tPa := if zle (16 * a) P.1 = true then (P.1 - (P.1 - 16 * a) / 32, P.2.1, P.2.2) else (P.1 + (16 * a - P.1) / 8, P.2.1, P.2.2)
noncomputable def k_goal (lo fa lv : Int32) : Int32 := lo - (lo - fa) * lv / 4080
noncomputable def k_appr (lo fa : Int32) (P : tPa) : tPa := (P.1, P.2.1 + k_near (k_goal lo fa P.1 - P.2.1) (-4) 4, P.2.2)
noncomputable def k_begin (sl : Int32) (b : Bool) (P : tPa) : tPa := (P.1, P.2.1, if b = true then zmin sl P.2.1 else sl)
noncomputable def k_bin (t : Int32) (Y : tCy) : Int32 := k_near ((t - Y.2) / 25) 0 7
noncomputable def k_end (t : Int32) (Y : tCy) : tCy := (upd Y.1 (k_bin t Y).toNatClampNeg (Y.1 (k_bin t Y).toNatClampNeg + 1), t)
noncomputable def k_inBin (Y : tCy) (b : Int32) : Int32 := if zlt b 0 = true then -1 else if zle 8 b = true then -1 else Y.1 b.toNatClampNeg
noncomputable def k_rem (x y : Int32) : Int32 := x - x / y * y
noncomputable def k_keep (kd t : Int32) (M : tMk) : tMk := (upd M.1 M.2.2.1.toNatClampNeg kd, upd M.2.1 M.2.2.1.toNatClampNeg t, k_rem (M.2.2.1 + 1) 12, if zle 12 M.2.2.2 = true then M.2.2.2 else M.2.2.2 + 1)
noncomputable def k_has (M : tMk) (k : Int32) : Bool := !zlt k 0 && !zle M.2.2.2 k
noncomputable def k_place (M : tMk) (k : Int32) : Int32 := k_rem (M.2.2.1 + 12 - 1 - k) 12
noncomputable def k_kind (M : tMk) (k : Int32) : Int32 := if k_has M k = true then M.1 (k_place M k).toNatClampNeg else -1
noncomputable def k_time (M : tMk) (k : Int32) : Int32 := if k_has M k = true then M.2.1 (k_place M k).toNatClampNeg else -1
noncomputable def k_ledA (m : Int32) : Bool := zeq m 1 || zeq m 4
noncomputable def k_both (m : Int32) : Bool := zeq m 2 || zeq m 6 || zeq m 7
noncomputable def k_senA (m : Int32) : Bool := !zlt m 4
noncomputable def k_senV (m : Int32) : Bool := zeq m 3 || !zlt m 5
noncomputable def k_foll (m : Int32) : Bool := zeq m 5 || zeq m 7
noncomputable def k_stat (r : Int32) : Int32 := if zlt r 280 = true then (if zlt r 250 = true then (if zlt r 220 = true then 3 else 2) else 1) else 0
-- what keeps the markers' rows in their bounds
noncomputable def kIM (M : tMk) : Prop := vp_in M.2.2.1 12 ∧ 0 ≤ M.2.2.2 ∧ M.2.2.2 ≤ 12
abbrev wCk (h0 : Nat) (cA cB : ClassId) (X : tCk) : va_W := [(h0, .inr (0, [.int X.1, .int X.2.1, .int X.2.2.1, .int X.2.2.2.1, .int X.2.2.2.2.1, .int (bI X.2.2.2.2.2)]))]
abbrev wCy (h0 h1 : Nat) (cA cB : ClassId) (X : tCy) : va_W := [(h0, .inr (1, [.ref h1, .int X.2])), (h1, .inl (cA, 8, .inl X.1))]
abbrev wFo (h0 : Nat) (cA cB : ClassId) (X : tFo) : va_W := [(h0, .inr (2, [.int X.1, .int X.2.1, .int (bI X.2.2)]))]
abbrev wFr (h0 h1 : Nat) (cA cB : ClassId) (X : tFr) : va_W := [(h0, .inr (3, [.ref h1, .int X.2])), (h1, .inl (cA, 5, .inl X.1))]
abbrev wMk (h0 h1 h2 : Nat) (cA cB : ClassId) (X : tMk) : va_W := [(h0, .inr (4, [.ref h1, .ref h2, .int X.2.2.1, .int X.2.2.2])), (h1, .inl (cA, 12, .inl X.1)), (h2, .inl (cA, 12, .inl X.2.1))]
abbrev wPa (h0 : Nat) (cA cB : ClassId) (X : tPa) : va_W := [(h0, .inr (5, [.int X.1, .int X.2.1, .int X.2.2]))]
abbrev wSe (h0 h1 h2 : Nat) (cA cB : ClassId) (X : tSe) : va_W := [(h0, .inr (6, [.ref h1, .ref h2])), (h1, .inl (cA, 14, .inl X.1)), (h2, .inl (cA, 14, .inl X.2))]
abbrev wSg (h0 : Nat) (cA cB : ClassId) (X : tSg) : va_W := [(h0, .inr (7, [.int X.1, .int X.2]))]
abbrev wAr (h0 : Nat) (cA cB : ClassId) (X : Nat → Int32) : va_W := [(h0, .inl (cA, 14, .inl X))]
abbrev wCP (h : Nat → Nat) (cA cB : ClassId) (X : tCP) : va_W := [((h 0), .inr (8, [.ref (h 1), .ref (h 4), .ref (h 5), .ref (h 6), .ref (h 7), .ref (h 8), .ref (h 9), .ref (h 11), .ref (h 14), .int X.2.2.2.2.2.2.2.2.2])), ((h 1), .inr (6, [.ref (h 2), .ref (h 3)])), ((h 2), .inl (cA, 14, .inl X.1.1)), ((h 3), .inl (cA, 14, .inl X.1.2)), ((h 4), .inr (0, [.int X.2.1.1, .int X.2.1.2.1, .int X.2.1.2.2.1, .int X.2.1.2.2.2.1, .int X.2.1.2.2.2.2.1, .int (bI X.2.1.2.2.2.2.2)])), ((h 5), .inr (7, [.int X.2.2.1.1, .int X.2.2.1.2])), ((h 6), .inr (7, [.int X.2.2.2.1.1, .int X.2.2.2.1.2])), ((h 7), .inr (2, [.int X.2.2.2.2.1.1, .int X.2.2.2.2.1.2.1, .int (bI X.2.2.2.2.1.2.2)])), ((h 8), .inr (5, [.int X.2.2.2.2.2.1.1, .int X.2.2.2.2.2.1.2.1, .int X.2.2.2.2.2.1.2.2])), ((h 9), .inr (1, [.ref (h 10), .int X.2.2.2.2.2.2.1.2])), ((h 10), .inl (cA, 8, .inl X.2.2.2.2.2.2.1.1)), ((h 11), .inr (4, [.ref (h 12), .ref (h 13), .int X.2.2.2.2.2.2.2.1.2.2.1, .int X.2.2.2.2.2.2.2.1.2.2.2])), ((h 12), .inl (cA, 12, .inl X.2.2.2.2.2.2.2.1.1)), ((h 13), .inl (cA, 12, .inl X.2.2.2.2.2.2.2.1.2.1)), ((h 14), .inr (3, [.ref (h 15), .int X.2.2.2.2.2.2.2.2.1.2])), ((h 15), .inl (cA, 5, .inl X.2.2.2.2.2.2.2.2.1.1))]
def zS (tb : Nat × Nat × Nat) (A : Nat → Prop) (U : State) (H : Heap) : Prop :=
  (va_Z RX8 "LEAST" "[I" (.ref tb.1) A U H ∧ va_T .int tb.1 14 (fun j => .int (tLeast j)) A U H) ∧
  (va_Z RX8 "MOST" "[I" (.ref tb.2.1) A U H ∧ va_T .int tb.2.1 14 (fun j => .int (tMost j)) A U H) ∧
  (va_Z RX8 "AT_FIRST" "[I" (.ref tb.2.2) A U H ∧ va_T .int tb.2.2 14 (fun j => .int (tFirst j)) A U H) ∧
  va_Nw (.fieldLinkNest RX6 36 RX8 "LEAST" "[I" RX8) U ∧ va_Nw (.fieldLinkNest RX6 39 RX8 "MOST" "[I" RX8) U ∧ va_Nw (.fieldLinkNest RX6 9 RX8 "AT_FIRST" "[I" RX8) U ∧
  va_Nw (.methodLinkNest RX1 19 yX8_nearest RX8) U ∧ va_Nw (.methodLinkNest RX5 21 yX8_nearest RX8) U ∧
  va_Nw (.methodLinkNest RX8 18 yX0_init RX8) U ∧ va_Nw (.methodLinkNest RX8 25 yX7_init RX8) U ∧ va_Nw (.methodLinkNest RX8 35 yX2_init RX8) U ∧ va_Nw (.methodLinkNest RX8 42 yX5_init RX8) U ∧
  va_Nw (.methodLinkNest RX8 49 yX1_init RX8) U ∧ va_Nw (.methodLinkNest RX8 56 yX4_init RX8) U ∧ va_Nw (.methodLinkNest RX8 63 yX3_init RX8) U
theorem zS_ok {tb : Nat × Nat × Nat} : zz_Zok (zS tb) := by
  refine ⟨⟨?_, ?_⟩, ?_, ?_⟩
  · intro A u U H hv h
    obtain ⟨⟨a1, a2⟩, ⟨b1, b2⟩, ⟨c1, c2⟩, n1, n2, n3, n4, n5, n6, n7, n8, n9, n10, n11, n12⟩ := h
    have ha : u.vm.Alike U.vm := by rw [hv]; exact Vm.Alike.refl _
    exact ⟨⟨a1.moved ha, a2.moved ha⟩, ⟨b1.moved ha, b2.moved ha⟩, ⟨c1.moved ha, c2.moved ha⟩, n1.same rfl hv, n2.same rfl hv, n3.same rfl hv, n4.same rfl hv, n5.same rfl hv, n6.same rfl hv, n7.same rfl hv, n8.same rfl hv, n9.same rfl hv, n10.same rfl hv, n11.same rfl hv, n12.same rfl hv⟩
  · intro A u U H hW h
    obtain ⟨⟨a1, a2⟩, ⟨b1, b2⟩, ⟨c1, c2⟩, n1, n2, n3, n4, n5, n6, n7, n8, n9, n10, n11, n12⟩ := h
    have ha := hW.alike
    exact ⟨⟨a1.moved ha, a2.moved ha⟩, ⟨b1.moved ha, b2.moved ha⟩, ⟨c1.moved ha, c2.moved ha⟩, n1.warmF hW, n2.warmF hW, n3.warmF hW, n4.warmM hW, n5.warmM hW, n6.warmM hW, n7.warmM hW, n8.warmM hW, n9.warmM hW, n10.warmM hW, n11.warmM hW, n12.warmM hW⟩
  · intro A U H H1 h hk
    obtain ⟨⟨a1, a2⟩, ⟨b1, b2⟩, ⟨c1, c2⟩, n⟩ := h
    exact ⟨⟨a1.kept hk, a2.kept hk⟩, ⟨b1.kept hk, b2.kept hk⟩, ⟨c1.kept hk, c2.kept hk⟩, n⟩
  · intro A B U H h hAB
    obtain ⟨⟨a1, a2⟩, ⟨b1, b2⟩, ⟨c1, c2⟩, n⟩ := h
    exact ⟨⟨a1.narrow hAB, a2.narrow hAB⟩, ⟨b1.narrow hAB, b2.narrow hAB⟩, ⟨c1.narrow hAB, c2.narrow hAB⟩, n⟩
theorem zz_out3 {x : Int32} (a : ¬ x = 0) (b : ¬ x = 1) (c : ¬ x = 2) (d : ¬ x = 3) : x.toInt < 0 ∨ 3 < x.toInt := by
  have h0 := lv_neT a (k := 0) (a := 0) (by decide)
  have h1 := lv_neT b (k := 1) (a := 1) (by decide)
  have h2 := lv_neT c (k := 2) (a := 2) (by decide)
  have h3 := lv_neT d (k := 3) (a := 3) (by decide)
  omega
theorem zz_out5 {x : Int32} (a : ¬ x = 0) (b : ¬ x = 1) (c : ¬ x = 2) (d : ¬ x = 3) (e : ¬ x = 4) (f : ¬ x = 5) : x.toInt < 0 ∨ 5 < x.toInt := by
  have h0 := lv_neT a (k := 0) (a := 0) (by decide)
  have h1 := lv_neT b (k := 1) (a := 1) (by decide)
  have h2 := lv_neT c (k := 2) (a := 2) (by decide)
  have h3 := lv_neT d (k := 3) (a := 3) (by decide)
  have h4 := lv_neT e (k := 4) (a := 4) (by decide)
  have h5 := lv_neT f (k := 5) (a := 5) (by decide)
  omega
theorem vp_lit {x : Int32} {n : Nat} (h : ¬ (x < 0 ∨ n ≤ x.toNatClampNeg)) : vp_in x n := h
theorem vp_near7 (x : Int32) : vp_in (k_near x 0 7) 8 := by
  unfold k_near
  split
  · split
    · rename_i h1 h2
      rw [vp_in_iff]
      have a : (0 : Int32).toInt ≤ x.toInt := Int32.le_iff_toInt_le.mp (zle_p h1)
      have b : x.toInt ≤ (7 : Int32).toInt := Int32.le_iff_toInt_le.mp (zle_p h2)
      have c : (0 : Int32).toInt = 0 := by decide
      have d : (7 : Int32).toInt = 7 := by decide
      omega
    · exact vp_lit (by decide)
  · exact vp_lit (by decide)
theorem vp_of {x : Int32} {n : Nat} {m : Int32} (hm : m.toInt = n) (h1 : zlt x 0 = false) (h2 : zle m x = false) : vp_in x n := by
  rw [vp_in_iff]
  replace h1 := zlt_n h1
  replace h2 := zle_n h2
  have a : ¬ x.toInt < 0 := fun h => h1 (Int32.lt_iff_toInt_lt.mpr (by rw [show (0 : Int32).toInt = 0 by decide]; exact h))
  have b : ¬ m.toInt ≤ x.toInt := fun h => h2 (Int32.le_iff_toInt_le.mpr h)
  omega
theorem vp_ex {k : Int32} (h : k_exists k = true) : vp_in k 14 := by
  simp only [k_exists, Bool.and_eq_true, Bool.not_eq_true'] at h
  exact vp_of (m := 14) (by decide) h.1 h.2

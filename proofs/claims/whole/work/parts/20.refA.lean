/-! the reference ChamberPacerModel, as functions of its state -/
abbrev tMd : Type := ((Nat → Int32) × (Nat → Int32) × (Nat → Int32) × (Nat → Int32) × (Nat → Int32)) × (Int32 × Int32 × Int32 × Int32 × Bool × Int32 × Bool) × (Int32 × Int32) × (Int32 × Int32) × (Int32 × Int32 × Bool) × (Int32 × Int32 × Int32) × ((Nat → Int32) × Int32) × ((Nat → Int32) × (Nat → Int32) × Int32) × ((Nat → Int32) × Int32) × (Int32 × Int32)
abbrev wMD (g : Nat → Nat) (cA cB : ClassId) (X : tMd) : va_W := [((g 0), .inr (9, [.ref (g 1), .ref (g 2), .ref (g 3), .ref (g 4), .ref (g 5), .int X.2.1.1, .int X.2.2.2.2.2.1.1, .int X.2.1.2.1, .int X.2.1.2.2.1, .int X.2.1.2.2.2.1, .int (bI X.2.1.2.2.2.2.1), .int X.2.1.2.2.2.2.2.1, .int (bI X.2.1.2.2.2.2.2.2), .int X.2.2.1.1, .int X.2.2.1.2, .int X.2.2.2.1.1, .int X.2.2.2.1.2, .int X.2.2.2.2.1.1, .int X.2.2.2.2.1.2.1, .int (bI X.2.2.2.2.1.2.2), .int X.2.2.2.2.2.2.1.2, .int X.2.2.2.2.2.1.2.1, .int X.2.2.2.2.2.1.2.2, .ref (g 6), .int X.2.2.2.2.2.2.2.2.2.1, .int X.2.2.2.2.2.2.2.2.1.2, .ref (g 7), .int X.2.2.2.2.2.2.2.1.2.2, .ref (g 8), .ref (g 9), .int X.2.2.2.2.2.2.2.2.2.2])), ((g 1), .inl (cA, 14, .inl X.1.1)), ((g 2), .inl (cA, 14, .inl X.1.2.1)), ((g 3), .inl (cA, 14, .inl X.1.2.2.1)), ((g 4), .inl (cA, 14, .inl X.1.2.2.2.1)), ((g 5), .inl (cB, 14, .inl X.1.2.2.2.2)), ((g 6), .inl (cA, 8, .inl X.2.2.2.2.2.2.1.1)), ((g 7), .inl (cA, 6, .inl X.2.2.2.2.2.2.2.2.1.1)), ((g 8), .inl (cA, 12, .inl X.2.2.2.2.2.2.2.1.1)), ((g 9), .inl (cA, 12, .inl X.2.2.2.2.2.2.2.1.2.1))]
theorem vp_zb (b : Bool) : vp_nar .boolean (bI b) = bI b := by cases b <;> decide
noncomputable def m_mode (q : Int32) (Y : tMd) : Bool := zeq ((q >>> (Y.1.2.2.1 0 &&& 31)) &&& 1) 1
noncomputable def m_mi (Y : tMd) : Nat := (k_rem Y.2.2.2.2.2.2.2.1.2.2 12).toNatClampNeg
noncomputable def m_mark (q : Int32) (Y : tMd) : tMd := (Y.1, Y.2.1, Y.2.2.1, Y.2.2.2.1, Y.2.2.2.2.1, Y.2.2.2.2.2.1, Y.2.2.2.2.2.2.1, (upd Y.2.2.2.2.2.2.2.1.1 (m_mi Y) q, upd Y.2.2.2.2.2.2.2.1.2.1 (m_mi Y) Y.2.1.1, Y.2.2.2.2.2.2.2.1.2.2 + 1), Y.2.2.2.2.2.2.2.2.1, Y.2.2.2.2.2.2.2.2.2)
def mK (a b : Nat) (Y : tMd) : Prop := (∃ j : Nat, j + a < 2 ^ 30 ∧ Y.2.2.2.2.2.2.2.1.2.2 = nI j) ∧ ∃ i j : Nat, i ≤ j ∧ j + b < 2 ^ 30 ∧ Y.2.2.2.2.2.2.1.2 = nI i ∧ Y.2.1.1 = nI j
theorem mK_le {a b c d : Nat} {Y : tMd} (h : mK a b Y) (h1 : c ≤ a) (h2 : d ≤ b) : mK c d Y := by
  obtain ⟨⟨j, h3, h4⟩, i, k, h5, h6, h7, h8⟩ := h
  exact ⟨⟨j, by omega, h4⟩, i, k, h5, by omega, h7, h8⟩
theorem mK_mark {a b : Nat} {q : Int32} {Y : tMd} (h : mK (a + 1) b Y) : mK a b (m_mark q Y) := by
  obtain ⟨⟨j, h3, h4⟩, i, k, h5, h6, h7, h8⟩ := h
  refine ⟨⟨j + 1, by omega, ?_⟩, i, k, h5, h6, h7, h8⟩
  show Y.2.2.2.2.2.2.2.1.2.2 + 1 = _
  rw [h4]; exact nI_1 j
theorem mK_of {a b : Nat} {Y Z : tMd} (h : mK a b Y) (h1 : Z.2.2.2.2.2.2.2.1.2.2 = Y.2.2.2.2.2.2.2.1.2.2) (h2 : Z.2.2.2.2.2.2.1.2 = Y.2.2.2.2.2.2.1.2) (h3 : Z.2.1.1 = Y.2.1.1) : mK a b Z := by
  unfold mK
  rw [h1, h2, h3]
  exact h
theorem vp_mi {a b : Nat} {Y : tMd} (h : mK a b Y) : vp_in (k_rem Y.2.2.2.2.2.2.2.1.2.2 12) 12 := by
  obtain ⟨⟨j, h3, h4⟩, -⟩ := h
  unfold k_rem
  rw [h4, show (12 : Int32) = nI 12 from rfl, pk_rem (by omega) (by decide) (by decide)]
  exact vp_in_nI (Nat.mod_lt _ (by decide)) (by decide)
noncomputable def m_quick (Y : tMd) : Bool := !zle (Y.1.2.2.1 13) Y.2.1.2.1
noncomputable def m_tf1 (Y : tMd) : tMd := (Y.1, Y.2.1, Y.2.2.1, Y.2.2.2.1, ((if m_quick Y = true then Y.2.2.2.2.1.1 + 1 else 0), (if m_quick Y = true then 0 else Y.2.2.2.2.1.2.1 + 1), Y.2.2.2.2.1.2.2), Y.2.2.2.2.2.1, Y.2.2.2.2.2.2.1, Y.2.2.2.2.2.2.2.1, Y.2.2.2.2.2.2.2.2.1, Y.2.2.2.2.2.2.2.2.2)
noncomputable def m_tf2 (Y : tMd) : tMd := if zlt ((m_tf1 Y).2.2.2.2.1).1 5 = false ∧ ((m_tf1 Y).2.2.2.2.1).2.2 = false then m_mark 4 (((m_tf1 Y).1), ((m_tf1 Y).2.1), ((m_tf1 Y).2.2.1), ((m_tf1 Y).2.2.2.1), (((m_tf1 Y).2.2.2.2.1).1, ((m_tf1 Y).2.2.2.2.1).2.1, true), ((m_tf1 Y).2.2.2.2.2.1), ((m_tf1 Y).2.2.2.2.2.2.1), ((m_tf1 Y).2.2.2.2.2.2.2.1), ((m_tf1 Y).2.2.2.2.2.2.2.2.1), ((m_tf1 Y).2.2.2.2.2.2.2.2.2)) else m_tf1 Y
noncomputable def m_tf3 (Y : tMd) : tMd := if zlt ((m_tf2 Y).2.2.2.2.1).2.1 3 = false ∧ ((m_tf2 Y).2.2.2.2.1).2.2 = true then m_mark 5 (((m_tf2 Y).1), ((m_tf2 Y).2.1), ((m_tf2 Y).2.2.1), ((m_tf2 Y).2.2.2.1), (((m_tf2 Y).2.2.2.2.1).1, ((m_tf2 Y).2.2.2.2.1).2.1, false), ((m_tf2 Y).2.2.2.2.2.1), ((m_tf2 Y).2.2.2.2.2.2.1), ((m_tf2 Y).2.2.2.2.2.2.2.1), ((m_tf2 Y).2.2.2.2.2.2.2.2.1), ((m_tf2 Y).2.2.2.2.2.2.2.2.2)) else m_tf2 Y
noncomputable def m_tf (Y : tMd) : tMd := if m_mode 160 Y = true then m_tf3 Y else Y
noncomputable def m_pN (Y : tMd) (n : Nat) : Nat → Int32 := fun j => if j < n ∧ zeq (Y.1.2.2.2.2 j) 0 = false then Y.1.2.2.2.1 j else Y.1.2.2.1 j
noncomputable def m_pP (Y : tMd) (n : Nat) : Nat → Int32 := fun j => if j < n then 0 else Y.1.2.2.2.2 j
noncomputable def m_any (Y : tMd) : Nat → Bool
  | 0 => false
  | n + 1 => m_any Y n || !zeq (Y.1.2.2.2.2 n) 0
noncomputable def m_bdK (Y : tMd) (n : Nat) : tMd := ((Y.1.1, Y.1.2.1, m_pN Y n, Y.1.2.2.2.1, m_pP Y n), Y.2.1, Y.2.2.1, Y.2.2.2.1, Y.2.2.2.2.1, Y.2.2.2.2.2.1, Y.2.2.2.2.2.2.1, Y.2.2.2.2.2.2.2.1, Y.2.2.2.2.2.2.2.2.1, Y.2.2.2.2.2.2.2.2.2)
theorem m_pP_n (Y : tMd) (n : Nat) : m_pP Y n n = Y.1.2.2.2.2 n := by simp [m_pP]
theorem m_pN_n (Y : tMd) (n : Nat) : m_pN Y n n = Y.1.2.2.1 n := by simp [m_pN]
theorem m_bdS (Y : tMd) (n : Nat) (x : Int32) (hx : x = if zeq (Y.1.2.2.2.2 n) 0 = true then Y.1.2.2.1 n else Y.1.2.2.2.1 n) : (upd (m_pN Y n) n x, upd (m_pP Y n) n 0) = (m_pN Y (n + 1), m_pP Y (n + 1)) := by
  have a : upd (m_pN Y n) n x = m_pN Y (n + 1) := by
    funext j
    by_cases hj : j = n
    · subst hj; rw [pk_us, hx]; unfold m_pN
      cases hz : zeq (Y.1.2.2.2.2 j) 0
      · rw [if_neg (by decide), if_pos ⟨by omega, rfl⟩]
      · rw [if_pos rfl, if_neg (fun q => by cases q.2)]
    · rw [pk_un hj]; unfold m_pN
      by_cases h2 : j < n ∧ zeq (Y.1.2.2.2.2 j) 0 = false
      · rw [if_pos h2, if_pos ⟨by omega, h2.2⟩]
      · rw [if_neg h2, if_neg (fun q => h2 ⟨by omega, q.2⟩)]
  have b : upd (m_pP Y n) n 0 = m_pP Y (n + 1) := by
    funext j
    by_cases hj : j = n
    · subst hj; rw [pk_us]; unfold m_pP; rw [if_pos (by omega)]
    · rw [pk_un hj]; unfold m_pP
      by_cases h2 : j < n
      · rw [if_pos h2, if_pos (by omega)]
      · rw [if_neg h2, if_neg (by omega)]
  rw [a, b]
theorem m_bd0 (Y : tMd) : m_bdK Y 0 = Y := by
  have a : m_pN Y 0 = Y.1.2.2.1 := by funext j; simp [m_pN]
  have b : m_pP Y 0 = Y.1.2.2.2.2 := by funext j; simp [m_pP]
  unfold m_bdK
  rw [a, b]
theorem m_anyT1 {Y : tMd} {k : Nat} (h : m_any Y k = true) : true = m_any Y (k + 1) := by
  show _ = (m_any Y k || !zeq (Y.1.2.2.2.2 k) 0)
  rw [h]; rfl
theorem m_anyT2 {Y : tMd} {k : Nat} (h : m_any Y k = false) (h2 : zeq (((m_bdK Y k).1).2.2.2.2 k) 0 = true) : false = m_any Y (k + 1) := by
  show _ = (m_any Y k || !zeq (Y.1.2.2.2.2 k) 0)
  have h3 : zeq (m_pP Y k k) 0 = true := h2
  rw [m_pP_n] at h3
  rw [h, h3]; rfl
theorem m_anyT3 {Y : tMd} {k : Nat} (h : m_any Y k = false) (h2 : zeq (((m_bdK Y k).1).2.2.2.2 k) 0 = false) : true = m_any Y (k + 1) := by
  show _ = (m_any Y k || !zeq (Y.1.2.2.2.2 k) 0)
  have h3 : zeq (m_pP Y k k) 0 = false := h2
  rw [m_pP_n] at h3
  rw [h, h3]; rfl
theorem m_vnT {Y : tMd} {k : Nat} (h2 : zeq (((m_bdK Y k).1).2.2.2.2 k) 0 = true) : ((m_bdK Y k).1).2.2.1 k = if zeq (Y.1.2.2.2.2 k) 0 = true then Y.1.2.2.1 k else Y.1.2.2.2.1 k := by
  have h3 : zeq (m_pP Y k k) 0 = true := h2
  rw [m_pP_n] at h3
  rw [if_pos h3]
  exact m_pN_n Y k
theorem m_vnF {Y : tMd} {k : Nat} (h2 : zeq (((m_bdK Y k).1).2.2.2.2 k) 0 = false) : ((m_bdK Y k).1).2.2.2.1 k = if zeq (Y.1.2.2.2.2 k) 0 = true then Y.1.2.2.1 k else Y.1.2.2.2.1 k := by
  have h3 : zeq (m_pP Y k k) 0 = false := h2
  rw [m_pP_n] at h3
  rw [if_fb h3]
  rfl
noncomputable def m_bd1 (Y : tMd) : tMd := if m_any Y 14 = true then m_mark 6 (m_bdK Y 14) else m_bdK Y 14
noncomputable def m_lv1 (Y : tMd) : tMd := (Y.1, (Y.2.1.1, Y.2.1.2.1, Y.2.1.2.2.1, Y.2.1.2.2.2.1, false, Y.2.1.2.2.2.2.2.1, Y.2.1.2.2.2.2.2.2), Y.2.2.1, Y.2.2.2.1, (0, 0, Y.2.2.2.2.1.2.2), Y.2.2.2.2.2.1, Y.2.2.2.2.2.2.1, Y.2.2.2.2.2.2.2.1, Y.2.2.2.2.2.2.2.2.1, Y.2.2.2.2.2.2.2.2.2)
noncomputable def m_lv2 (Y : tMd) : tMd := if ((m_lv1 Y).2.2.2.2.1).2.2 = true then m_mark 5 (m_lv1 Y) else m_lv1 Y
noncomputable def m_bd2 (Y : tMd) : tMd := if zeq (((m_bd1 Y).1).2.2.1 0) (Y.1.2.2.1 0) = true then m_bd1 Y else (((m_lv2 (m_bd1 Y)).1), ((m_lv2 (m_bd1 Y)).2.1), ((m_lv2 (m_bd1 Y)).2.2.1), ((m_lv2 (m_bd1 Y)).2.2.2.1), (((m_lv2 (m_bd1 Y)).2.2.2.2.1).1, ((m_lv2 (m_bd1 Y)).2.2.2.2.1).2.1, false), ((m_lv2 (m_bd1 Y)).2.2.2.2.2.1), ((m_lv2 (m_bd1 Y)).2.2.2.2.2.2.1), ((m_lv2 (m_bd1 Y)).2.2.2.2.2.2.2.1), ((m_lv2 (m_bd1 Y)).2.2.2.2.2.2.2.2.1), ((m_lv2 (m_bd1 Y)).2.2.2.2.2.2.2.2.2))
noncomputable def m_q (Y : tMd) : Int32 := (Y.2.1.1 - Y.2.2.2.2.2.2.1.2) / 25
noncomputable def m_bin (Y : tMd) : Int32 := if zle 7 (m_q Y) = true then 7 else m_q Y
noncomputable def m_goal (Y : tMd) : Int32 := Y.1.2.2.1 1 - (Y.1.2.2.1 1 - Y.1.2.2.1 12) * Y.2.2.2.2.2.1.1 / 4080
noncomputable def m_int (Y : tMd) : Int32 := if zle (m_goal Y - Y.2.2.2.2.2.1.2.1) 4 = true then (if zle (-4) (m_goal Y - Y.2.2.2.2.2.1.2.1) = true then m_goal Y else Y.2.2.2.2.2.1.2.1 - 4) else Y.2.2.2.2.2.1.2.1 + 4
noncomputable def m_l0 (b : Bool) (Y : tMd) : Int32 := Y.1.2.2.1 1 + (if b = true then Y.1.2.2.1 8 else 0)
noncomputable def m_l1 (b : Bool) (Y : tMd) : Int32 := if zeq (Y.1.2.2.1 11) 1 = true then (if zle (m_l0 b Y) (m_int Y) = true then m_l0 b Y else m_int Y) else m_l0 b Y
noncomputable def m_bd3 (b : Bool) (Y : tMd) : tMd := (Y.1, Y.2.1, Y.2.2.1, Y.2.2.2.1, Y.2.2.2.2.1, (Y.2.2.2.2.2.1.1, m_int Y, m_l1 b Y), (upd Y.2.2.2.2.2.2.1.1 (m_bin Y).toNatClampNeg (Y.2.2.2.2.2.2.1.1 (m_bin Y).toNatClampNeg + 1), Y.2.1.1), Y.2.2.2.2.2.2.2.1, Y.2.2.2.2.2.2.2.2.1, Y.2.2.2.2.2.2.2.2.2)
noncomputable def m_bound (b : Bool) (Y : tMd) : tMd := m_bd3 b (m_bd2 Y)
theorem mK_bd1 {a b : Nat} {Y : tMd} (h : mK (a + 1) b Y) : mK a b (m_bd1 Y) := by
  unfold m_bd1
  split
  · exact mK_mark (Y := m_bdK Y 14) h
  · exact mK_le (a := a + 1) (b := b) (Y := m_bdK Y 14) h (by omega) (by omega)
theorem mK_lv2 {a b : Nat} {Y : tMd} (h : mK (a + 1) b Y) : mK a b (m_lv2 Y) := by
  unfold m_lv2
  split
  · exact mK_mark (Y := m_lv1 Y) h
  · exact mK_le (a := a + 1) (b := b) (Y := m_lv1 Y) h (by omega) (by omega)
theorem mK_bd2 {a b : Nat} {Y : tMd} (h : mK (a + 2) b Y) : mK a b (m_bd2 Y) := by
  unfold m_bd2
  split
  · exact mK_le (mK_bd1 (a := a + 1) h) (by omega) (by omega)
  · exact mK_lv2 (mK_bd1 (a := a + 1) h)
theorem mK_bound {a b : Nat} {c : Bool} {Y : tMd} (h : mK (a + 2) b Y) : mK a b (m_bound c Y) := by
  obtain ⟨h1, i, j, h5, h6, h7, h8⟩ := mK_bd2 h
  exact ⟨h1, j, j, Nat.le_refl j, h6, h8, h8⟩
theorem m_q_of {a b : Nat} {Y : tMd} (h : mK a b Y) : ∃ q : Nat, q < 2 ^ 30 ∧ m_q Y = nI q := by
  obtain ⟨-, i, j, h5, h6, h7, h8⟩ := h
  refine ⟨(j - i) / 25, by have := Nat.div_le_self (j - i) 25; omega, ?_⟩
  unfold m_q
  rw [h7, h8, pk_sub h5, show (25 : Int32) = nI 25 from rfl, pk_div (by omega) (by decide) (by decide)]
theorem vp_bin {a b : Nat} {Y : tMd} (h : mK a b Y) : vp_in (m_bin Y) 8 := by
  obtain ⟨q, h1, h2⟩ := m_q_of h
  unfold m_bin
  cases hz : zle 7 (m_q Y)
  · rw [if_neg (by decide), h2]
    refine vp_in_nI ?_ (by decide)
    rcases Nat.lt_or_ge q 7 with r | r
    · omega
    · exact absurd (by rw [h2]; exact nI_le (a := 7) r (by omega)) (zle_n hz)
  · rw [if_pos rfl]; exact vp_lit (by decide)
noncomputable def m_a1 (b : Bool) (Y : tMd) : tMd := m_mark (if b = true then 0 else 2) Y
noncomputable def m_a2 (b : Bool) (Y : tMd) : tMd := if b = true then m_tf (m_a1 b Y) else m_a1 b Y
noncomputable def m_a3 (b : Bool) (Y : tMd) : tMd := (((m_a2 b Y).1), (((m_a2 b Y).2.1).1, 0, ((m_a2 b Y).2.1).2.2.1, (if b = true then ((m_a2 b Y).2.1).2.2.2.1 else 0), ((m_a2 b Y).2.1).2.2.2.2.1, ((m_a2 b Y).2.1).2.2.2.2.2.1, true), ((m_a2 b Y).2.2.1), ((m_a2 b Y).2.2.2.1), ((m_a2 b Y).2.2.2.2.1), ((m_a2 b Y).2.2.2.2.2.1), ((m_a2 b Y).2.2.2.2.2.2.1), ((m_a2 b Y).2.2.2.2.2.2.2.1), ((m_a2 b Y).2.2.2.2.2.2.2.2.1), ((m_a2 b Y).2.2.2.2.2.2.2.2.2))
noncomputable def m_beg (b : Bool) (Y : tMd) : Bool := if b = true then m_mode 160 Y && !Y.2.2.2.2.1.2.2 && !Y.2.1.2.2.2.2.1 else m_mode 196 Y
noncomputable def m_a4 (b : Bool) (Y : tMd) : tMd := if m_beg b (m_a3 b Y) = true then (((m_a3 b Y).1), (((m_a3 b Y).2.1).1, ((m_a3 b Y).2.1).2.1, ((m_a3 b Y).2.1).2.2.1, ((m_a3 b Y).2.1).2.2.2.1, true, 0, ((m_a3 b Y).2.1).2.2.2.2.2.2), ((m_a3 b Y).2.2.1), ((m_a3 b Y).2.2.2.1), ((m_a3 b Y).2.2.2.2.1), ((m_a3 b Y).2.2.2.2.2.1), ((m_a3 b Y).2.2.2.2.2.2.1), ((m_a3 b Y).2.2.2.2.2.2.2.1), ((m_a3 b Y).2.2.2.2.2.2.2.2.1), ((m_a3 b Y).2.2.2.2.2.2.2.2.2)) else m_a3 b Y
noncomputable def m_atr (b : Bool) (Y : tMd) : tMd := if m_mode 18 Y = true then m_bound b (m_a4 b Y) else m_a4 b Y
noncomputable def m_v1 (b : Bool) (Y : tMd) : tMd := m_mark (if b = true then 1 else 3) Y
noncomputable def m_v2 (b : Bool) (Y : tMd) : tMd := (((m_v1 b Y).1), (((m_v1 b Y).2.1).1, ((m_v1 b Y).2.1).2.1, 0, ((m_v1 b Y).2.1).2.2.2.1, false, ((m_v1 b Y).2.1).2.2.2.2.2.1, false), ((m_v1 b Y).2.2.1), ((m_v1 b Y).2.2.2.1), ((m_v1 b Y).2.2.2.2.1), ((m_v1 b Y).2.2.2.2.2.1), ((m_v1 b Y).2.2.2.2.2.2.1), ((m_v1 b Y).2.2.2.2.2.2.2.1), ((m_v1 b Y).2.2.2.2.2.2.2.2.1), ((m_v1 b Y).2.2.2.2.2.2.2.2.2))
noncomputable def m_ven (b : Bool) (Y : tMd) : tMd := if m_mode 18 Y = false then m_bound b (m_v2 b Y) else m_v2 b Y
theorem mK_tf1 {a b : Nat} {Y : tMd} (h : mK a b Y) : mK a b (m_tf1 Y) := h
theorem mK_tf2 {a b : Nat} {Y : tMd} (h : mK (a + 1) b Y) : mK a b (m_tf2 Y) := by
  unfold m_tf2
  split
  · exact mK_mark (Y := (((m_tf1 Y).1), ((m_tf1 Y).2.1), ((m_tf1 Y).2.2.1), ((m_tf1 Y).2.2.2.1), (((m_tf1 Y).2.2.2.2.1).1, ((m_tf1 Y).2.2.2.2.1).2.1, true), ((m_tf1 Y).2.2.2.2.2.1), ((m_tf1 Y).2.2.2.2.2.2.1), ((m_tf1 Y).2.2.2.2.2.2.2.1), ((m_tf1 Y).2.2.2.2.2.2.2.2.1), ((m_tf1 Y).2.2.2.2.2.2.2.2.2))) h
  · exact mK_le (a := a + 1) (b := b) (Y := m_tf1 Y) h (by omega) (by omega)
theorem mK_tf3 {a b : Nat} {Y : tMd} (h : mK (a + 2) b Y) : mK a b (m_tf3 Y) := by
  unfold m_tf3
  split
  · exact mK_mark (Y := (((m_tf2 Y).1), ((m_tf2 Y).2.1), ((m_tf2 Y).2.2.1), ((m_tf2 Y).2.2.2.1), (((m_tf2 Y).2.2.2.2.1).1, ((m_tf2 Y).2.2.2.2.1).2.1, false), ((m_tf2 Y).2.2.2.2.2.1), ((m_tf2 Y).2.2.2.2.2.2.1), ((m_tf2 Y).2.2.2.2.2.2.2.1), ((m_tf2 Y).2.2.2.2.2.2.2.2.1), ((m_tf2 Y).2.2.2.2.2.2.2.2.2))) (mK_tf2 (a := a + 1) h)
  · exact mK_le (mK_tf2 (a := a + 1) h) (by omega) (by omega)
theorem mK_tf {a b : Nat} {Y : tMd} (h : mK (a + 2) b Y) : mK a b (m_tf Y) := by
  unfold m_tf
  split
  · exact mK_tf3 h
  · exact mK_le h (by omega) (by omega)
theorem mK_a2 {a b : Nat} {c : Bool} {Y : tMd} (h : mK (a + 3) b Y) : mK a b (m_a2 c Y) := by
  unfold m_a2
  split
  · exact mK_tf (mK_mark (a := a + 2) h)
  · exact mK_le (mK_mark (a := a + 2) h) (by omega) (by omega)
theorem mK_a4 {a b : Nat} {c : Bool} {Y : tMd} (h : mK (a + 3) b Y) : mK a b (m_a4 c Y) := by
  unfold m_a4
  split
  · exact mK_a2 (c := c) h
  · exact mK_a2 (c := c) h
theorem mK_atr {a b : Nat} {c : Bool} {Y : tMd} (h : mK (a + 5) b Y) : mK a b (m_atr c Y) := by
  unfold m_atr
  split
  · exact mK_bound (mK_a4 (a := a + 2) h)
  · exact mK_le (mK_a4 (a := a + 2) h) (by omega) (by omega)
theorem mK_ven {a b : Nat} {c : Bool} {Y : tMd} (h : mK (a + 3) b Y) : mK a b (m_ven c Y) := by
  unfold m_ven
  split
  · exact mK_bound (Y := m_v2 c Y) (mK_mark (a := a + 2) h)
  · exact mK_le (a := a + 2) (b := b) (Y := m_v2 c Y) (mK_mark (a := a + 2) h) (by omega) (by omega)
noncomputable def m_due (Y : tMd) : Bool := if m_mode 18 Y = true then !zlt Y.2.1.2.1 Y.2.2.2.2.2.1.2.2 else m_mode 196 Y && !Y.2.1.2.2.2.2.2.2 && !zlt Y.2.1.2.2.1 (Y.2.2.2.2.2.1.2.2 - Y.1.2.2.1 3)
noncomputable def m_pc1 (b : Bool) (Y : tMd) : tMd := if b = true ∧ m_due Y = true then m_atr false Y else Y
noncomputable def m_pw1 (b : Bool) (Y : tMd) : Int32 := if b = true ∧ m_due Y = true then 4 else 0
noncomputable def m_late (Y : tMd) : Bool := Y.2.1.2.2.2.2.1 && !zlt Y.2.1.2.2.2.2.2.1 (Y.1.2.2.1 3) && !zlt Y.2.1.2.2.1 (Y.1.2.2.1 2)
noncomputable def m_vd (Y : tMd) : Bool := !m_mode 18 Y && (zle Y.2.2.2.2.2.1.2.2 Y.2.1.2.2.1 || m_late Y)
noncomputable def m_pac (b : Bool) (Y : tMd) : tMd := if m_vd (m_pc1 b Y) = true then m_ven false (m_pc1 b Y) else m_pc1 b Y
noncomputable def m_pacR (b : Bool) (Y : tMd) : Int32 := if m_vd (m_pc1 b Y) = true then m_pw1 b Y + 8 else m_pw1 b Y
noncomputable def m_more (x : Int32) : Int32 := if zle 1000 x = true then 1000 else x + 1
noncomputable def m_apart (x y q : Int32) : Bool := zle q (x - y) || !zlt (y - x) q
noncomputable def m_av (Y : tMd) : Int32 := if Y.2.1.2.2.2.2.1 = true then Y.2.1.2.2.2.2.2.1 + 1 else Y.2.1.2.2.2.2.2.1
noncomputable def m_lev (t : Int32) (Y : tMd) : Int32 := if zle (16 * t) Y.2.2.2.2.2.1.1 = true then Y.2.2.2.2.2.1.1 - (Y.2.2.2.2.2.1.1 - 16 * t) / 32 else Y.2.2.2.2.2.1.1 + (16 * t - Y.2.2.2.2.2.1.1) / 8
noncomputable def m_s1 (a v t : Int32) (Y : tMd) : tMd := (Y.1, (Y.2.1.1 + 1, m_more Y.2.1.2.1, m_more Y.2.1.2.2.1, m_more Y.2.1.2.2.2.1, Y.2.1.2.2.2.2.1, m_av Y, Y.2.1.2.2.2.2.2.2), (a, Y.2.2.1.1), (v, Y.2.2.2.1.1), Y.2.2.2.2.1, (m_lev t Y, Y.2.2.2.2.2.1.2.1, Y.2.2.2.2.2.1.2.2), Y.2.2.2.2.2.2.1, Y.2.2.2.2.2.2.2.1, Y.2.2.2.2.2.2.2.2.1, Y.2.2.2.2.2.2.2.2.2)
noncomputable def m_cA (a : Int32) (Y : tMd) : Bool := m_apart a Y.2.2.1.2 (Y.1.2.2.1 9)
noncomputable def m_cV (v : Int32) (Y : tMd) : Bool := m_apart v Y.2.2.2.1.2 (Y.1.2.2.1 10)
noncomputable def m_vL (Y : tMd) : Bool := m_mode 232 Y && !zlt Y.2.1.2.2.1 (Y.1.2.2.1 5) && !zlt Y.2.1.2.2.2.1 (Y.1.2.2.1 7)
noncomputable def m_aL (Y : tMd) : Bool := m_mode 240 Y && !zlt Y.2.1.2.1 (Y.1.2.2.1 6) && (m_mode 18 Y || !zlt Y.2.1.2.2.1 (Y.1.2.2.1 4))
noncomputable def m_vs (a v t : Int32) (Y : tMd) : Bool := m_cV v Y && m_vL (m_s1 a v t Y)
noncomputable def m_s2 (a v t : Int32) (Y : tMd) : tMd := if m_vs a v t Y = true then m_ven true (m_s1 a v t Y) else m_s1 a v t Y
noncomputable def m_w2 (a v t : Int32) (Y : tMd) : Int32 := if m_vs a v t Y = true then 2 else 0
noncomputable def m_as (a v t : Int32) (Y : tMd) : Bool := m_cA a Y && m_aL (m_s2 a v t Y)
noncomputable def m_s3 (a v t : Int32) (Y : tMd) : tMd := if m_as a v t Y = true then m_atr true (m_s2 a v t Y) else m_s2 a v t Y
noncomputable def m_w3 (a v t : Int32) (Y : tMd) : Int32 := if m_as a v t Y = true then m_w2 a v t Y + 1 else m_w2 a v t Y
noncomputable def m_st (a v t : Int32) (Y : tMd) : tMd := if zeq (m_w3 a v t Y &&& 2) 2 = true then m_s3 a v t Y else m_pac (zeq (m_w3 a v t Y) 0) (m_s3 a v t Y)
noncomputable def m_stR (a v t : Int32) (Y : tMd) : Int32 := if zeq (m_w3 a v t Y &&& 2) 2 = true then m_w3 a v t Y else m_w3 a v t Y + m_pacR (zeq (m_w3 a v t Y) 0) (m_s3 a v t Y)
theorem mK_pc1 {a b : Nat} {c : Bool} {Y : tMd} (h : mK (a + 5) b Y) : mK a b (m_pc1 c Y) := by
  unfold m_pc1
  split
  · exact mK_atr h
  · exact mK_le h (by omega) (by omega)
theorem mK_pac {a b : Nat} {c : Bool} {Y : tMd} (h : mK (a + 8) b Y) : mK a b (m_pac c Y) := by
  unfold m_pac
  split
  · exact mK_ven (mK_pc1 (a := a + 3) h)
  · exact mK_le (mK_pc1 (a := a + 3) h) (by omega) (by omega)
theorem mK_s1 {a b : Nat} {x v t : Int32} {Y : tMd} (h : mK a (b + 1) Y) : mK a b (m_s1 x v t Y) := by
  obtain ⟨h1, i, j, h5, h6, h7, h8⟩ := h
  refine ⟨h1, i, j + 1, by omega, by omega, h7, ?_⟩
  show Y.2.1.1 + 1 = _
  rw [h8]; exact nI_1 j
theorem mK_s2 {a b : Nat} {x v t : Int32} {Y : tMd} (h : mK (a + 3) (b + 1) Y) : mK a b (m_s2 x v t Y) := by
  unfold m_s2
  split
  · exact mK_ven (mK_s1 h)
  · exact mK_le (mK_s1 (x := x) (v := v) (t := t) h) (by omega) (by omega)
theorem mK_s3 {a b : Nat} {x v t : Int32} {Y : tMd} (h : mK (a + 8) (b + 1) Y) : mK a b (m_s3 x v t Y) := by
  unfold m_s3
  split
  · exact mK_atr (mK_s2 (a := a + 5) h)
  · exact mK_le (mK_s2 (a := a + 5) (x := x) (v := v) (t := t) h) (by omega) (by omega)
theorem mK_st {a b : Nat} {x v t : Int32} {Y : tMd} (h : mK (a + 16) (b + 1) Y) : mK a b (m_st x v t Y) := by
  unfold m_st
  split
  · exact mK_le (mK_s3 (a := a + 8) (x := x) (v := v) (t := t) h) (by omega) (by omega)
  · exact mK_pac (mK_s3 (a := a + 8) h)

abbrev rmX9_near : Room := { frames := 0, cells := 0, slots := 0, locals := 0 }
abbrev QfX9_near (G : va_G) (cA cB : ClassId) (x : Int32) (lo : Int32) (hi : Int32) : (Nat → Prop) → Array Value → State → Outcome → State → Prop := fun A => va_Qi (fun (r : Int32) (u : Unit) => r = k_near x lo hi) (zz_B G vwCl (fun _ : Unit => []) A) A
set_option maxHeartbeats 1000000 in
set_option maxRecDepth 100000 in
theorem kX9_near (l : Launch) (G : va_G) (cA cB : ClassId) (tb : Nat × Nat × Nat) (sz : Nat) (x : Int32) (lo : Int32) (hi : Int32) : Met l yX9_near wsX9_near rmX9_near (zz_P (zS tb) G vwCl [(cA, .int), (cB, .boolean)] [.int x, .int lo, .int hi] [] sz) (QfX9_near G cA cB x lo hi (va_A [] sz)) 0 0 (va_A [] sz) := by
  refine zz_Met (cc := cX9_near) (maxL := 3) (ret := (some .int)) (Qf := QfX9_near G cA cB x lo hi) (by decide) rfl (Nat.le_of_ble_eq_true rfl) ?_
  intro p e s m below meth c A ls hx hb hr hts hown hlocks hin hml hA hP hK hD hz hS hl
  have hl : lv_has ls 3 [(0, .int x), (1, .int lo), (2, .int hi)] := hl
  have hP : va_P G vwCl [] s.heap := hP
  have hD : va_D A [] := hD
  refine lv_iload_n hx hb dX9_near_0 rfl (lv_at hl 0 rfl) ?_
  refine lv_iload_n hx hb dX9_near_1 rfl (lv_at hl 1 rfl) ?_
  refine lv_icmp_ge (tgt := 9) hx hb dX9_near_2 (by decide) (fun c_1 => ?_) (fun c_1 => ?_)
  · have c_1 := zle_t c_1
    refine lv_iload_n hx hb dX9_near_9 rfl (lv_at hl 0 rfl) ?_
    refine lv_iload_n hx hb dX9_near_10 rfl (lv_at hl 2 rfl) ?_
    refine lv_icmp_le (tgt := 18) hx hb dX9_near_11 (by decide) (fun c_2 => ?_) (fun c_2 => ?_)
    · have c_2 := zle_t c_2
      refine lv_iload_n hx hb dX9_near_18 rfl (lv_at hl 0 rfl) ?_
      exact zz_ri (v := x) () hx hb hr hlocks hS hP hD (by first | (simp [k_near, c_1, c_2]; done) | (symm; (first | refine (if_pos c_1).trans ?_ | refine (if_neg c_1).trans ?_ | refine (if_fb c_1).trans ?_ | skip); (first | refine (if_pos c_2).trans ?_ | refine (if_neg c_2).trans ?_ | refine (if_fb c_2).trans ?_ | skip); rfl) | (try simp [k_near] at c_1; try simp [k_near] at c_2; simp [k_near, c_1, c_2]; done) | rfl) dX9_near_19
    · have c_2 := zle_f c_2
      refine lv_iload_n hx hb dX9_near_14 rfl (lv_at hl 2 rfl) ?_
      refine lv_goto (tgt := 19) hx hb dX9_near_15 (by decide) ?_
      exact zz_ri (v := hi) () hx hb hr hlocks hS hP hD (by first | (simp [k_near, c_1, c_2]; done) | (symm; (first | refine (if_pos c_1).trans ?_ | refine (if_neg c_1).trans ?_ | refine (if_fb c_1).trans ?_ | skip); (first | refine (if_pos c_2).trans ?_ | refine (if_neg c_2).trans ?_ | refine (if_fb c_2).trans ?_ | skip); rfl) | (try simp [k_near] at c_1; try simp [k_near] at c_2; simp [k_near, c_1, c_2]; done) | rfl) dX9_near_19
  · have c_1 := zle_f c_1
    refine lv_iload_n hx hb dX9_near_5 rfl (lv_at hl 1 rfl) ?_
    refine lv_goto (tgt := 19) hx hb dX9_near_6 (by decide) ?_
    exact zz_ri (v := lo) () hx hb hr hlocks hS hP hD (by first | (simp [k_near, c_1]; done) | (symm; (first | refine (if_pos c_1).trans ?_ | refine (if_neg c_1).trans ?_ | refine (if_fb c_1).trans ?_ | skip); rfl) | (try simp [k_near] at c_1; simp [k_near, c_1]; done) | rfl) dX9_near_19
abbrev rmX9_more : Room := { frames := 0, cells := 0, slots := 0, locals := 0 }
abbrev QfX9_more (G : va_G) (cA cB : ClassId) (x : Int32) : (Nat → Prop) → Array Value → State → Outcome → State → Prop := fun A => va_Qi (fun (r : Int32) (u : Unit) => r = m_more x) (zz_B G vwCl (fun _ : Unit => []) A) A
set_option maxHeartbeats 1000000 in
set_option maxRecDepth 100000 in
theorem kX9_more (l : Launch) (G : va_G) (cA cB : ClassId) (tb : Nat × Nat × Nat) (sz : Nat) (x : Int32) : Met l yX9_more wsX9_more rmX9_more (zz_P (zS tb) G vwCl [(cA, .int), (cB, .boolean)] [.int x] [] sz) (QfX9_more G cA cB x (va_A [] sz)) 0 0 (va_A [] sz) := by
  refine zz_Met (cc := cX9_more) (maxL := 1) (ret := (some .int)) (Qf := QfX9_more G cA cB x) (by decide) rfl (Nat.le_of_ble_eq_true rfl) ?_
  intro p e s m below meth c A ls hx hb hr hts hown hlocks hin hml hA hP hK hD hz hS hl
  have hl : lv_has ls 1 [(0, .int x)] := hl
  have hP : va_P G vwCl [] s.heap := hP
  have hD : va_D A [] := hD
  refine lv_iload_n hx hb dX9_more_0 rfl (lv_at hl 0 rfl) ?_
  refine lv_sipush (v := 1000) hx hb dX9_more_1 (by decide) ?_
  refine lv_icmp_ge (tgt := 13) hx hb dX9_more_4 (by decide) (fun c_1 => ?_) (fun c_1 => ?_)
  · have c_1 := zle_t c_1
    refine lv_sipush (v := 1000) hx hb dX9_more_13 (by decide) ?_
    exact zz_ri (v := 1000) () hx hb hr hlocks hS hP hD (by first | (simp [m_more, c_1]; done) | (symm; (first | refine (if_pos c_1).trans ?_ | refine (if_neg c_1).trans ?_ | refine (if_fb c_1).trans ?_ | skip); rfl) | (try simp [m_more] at c_1; simp [m_more, c_1]; done) | rfl) dX9_more_16
  · have c_1 := zle_f c_1
    refine lv_iload_n hx hb dX9_more_7 rfl (lv_at hl 0 rfl) ?_
    refine lv_iconst (v := 1) hx hb dX9_more_8 (by decide) ?_
    refine lv_iadd hx hb dX9_more_9 ?_
    refine lv_goto (tgt := 16) hx hb dX9_more_10 (by decide) ?_
    exact zz_ri (v := (x + 1)) () hx hb hr hlocks hS hP hD (by first | (simp [m_more, c_1]; done) | (symm; (first | refine (if_pos c_1).trans ?_ | refine (if_neg c_1).trans ?_ | refine (if_fb c_1).trans ?_ | skip); rfl) | (try simp [m_more] at c_1; simp [m_more, c_1]; done) | rfl) dX9_more_16
abbrev rmX9_apart : Room := { frames := 0, cells := 0, slots := 0, locals := 0 }
abbrev QfX9_apart (G : va_G) (cA cB : ClassId) (x : Int32) (y : Int32) (q : Int32) : (Nat → Prop) → Array Value → State → Outcome → State → Prop := fun A => va_Qi (fun (r : Int32) (u : Unit) => r = bI (m_apart x y q)) (zz_B G vwCl (fun _ : Unit => []) A) A
set_option maxHeartbeats 1000000 in
set_option maxRecDepth 100000 in
theorem kX9_apart (l : Launch) (G : va_G) (cA cB : ClassId) (tb : Nat × Nat × Nat) (sz : Nat) (x : Int32) (y : Int32) (q : Int32) : Met l yX9_apart wsX9_apart rmX9_apart (zz_P (zS tb) G vwCl [(cA, .int), (cB, .boolean)] [.int x, .int y, .int q] [] sz) (QfX9_apart G cA cB x y q (va_A [] sz)) 0 0 (va_A [] sz) := by
  refine zz_Met (cc := cX9_apart) (maxL := 3) (ret := (some .boolean)) (Qf := QfX9_apart G cA cB x y q) (by decide) rfl (Nat.le_of_ble_eq_true rfl) ?_
  intro p e s m below meth c A ls hx hb hr hts hown hlocks hin hml hA hP hK hD hz hS hl
  have hl : lv_has ls 3 [(0, .int x), (1, .int y), (2, .int q)] := hl
  have hP : va_P G vwCl [] s.heap := hP
  have hD : va_D A [] := hD
  refine lv_iload_n hx hb dX9_apart_0 rfl (lv_at hl 0 rfl) ?_
  refine lv_iload_n hx hb dX9_apart_1 rfl (lv_at hl 1 rfl) ?_
  refine lv_isub hx hb dX9_apart_2 ?_
  refine lv_iload_n hx hb dX9_apart_3 rfl (lv_at hl 2 rfl) ?_
  refine lv_icmp_ge (tgt := 14) hx hb dX9_apart_4 (by decide) (fun c_1 => ?_) (fun c_1 => ?_)
  · have c_1 := zle_t c_1
    refine lv_iconst (v := 1) hx hb dX9_apart_14 (by decide) ?_
    refine lv_goto (tgt := 19) hx hb dX9_apart_15 (by decide) ?_
    exact zz_rz (v := 1) () hx hb hr (by decide +kernel) hlocks hS hP hD (by first | (simp [m_apart, bI, c_1]; done) | (symm; (first | refine (if_pos c_1).trans ?_ | refine (if_neg c_1).trans ?_ | refine (if_fb c_1).trans ?_ | skip); rfl) | (try simp [m_apart, bI] at c_1; simp [m_apart, bI, c_1]; done) | rfl) dX9_apart_19
  · have c_1 := zle_f c_1
    refine lv_iload_n hx hb dX9_apart_7 rfl (lv_at hl 1 rfl) ?_
    refine lv_iload_n hx hb dX9_apart_8 rfl (lv_at hl 0 rfl) ?_
    refine lv_isub hx hb dX9_apart_9 ?_
    refine lv_iload_n hx hb dX9_apart_10 rfl (lv_at hl 2 rfl) ?_
    refine lv_icmp_lt (tgt := 18) hx hb dX9_apart_11 (by decide) (fun c_2 => ?_) (fun c_2 => ?_)
    · have c_2 := zlt_t c_2
      refine lv_iconst (v := 0) hx hb dX9_apart_18 (by decide) ?_
      exact zz_rz (v := 0) () hx hb hr (by decide +kernel) hlocks hS hP hD (by first | (simp [m_apart, bI, c_1, c_2]; done) | (symm; (first | refine (if_pos c_1).trans ?_ | refine (if_neg c_1).trans ?_ | refine (if_fb c_1).trans ?_ | skip); (first | refine (if_pos c_2).trans ?_ | refine (if_neg c_2).trans ?_ | refine (if_fb c_2).trans ?_ | skip); rfl) | (try simp [m_apart, bI] at c_1; try simp [m_apart, bI] at c_2; simp [m_apart, bI, c_1, c_2]; done) | rfl) dX9_apart_19
    · have c_2 := zlt_f c_2
      refine lv_iconst (v := 1) hx hb dX9_apart_14 (by decide) ?_
      refine lv_goto (tgt := 19) hx hb dX9_apart_15 (by decide) ?_
      exact zz_rz (v := 1) () hx hb hr (by decide +kernel) hlocks hS hP hD (by first | (simp [m_apart, bI, c_1, c_2]; done) | (symm; (first | refine (if_pos c_1).trans ?_ | refine (if_neg c_1).trans ?_ | refine (if_fb c_1).trans ?_ | skip); (first | refine (if_pos c_2).trans ?_ | refine (if_neg c_2).trans ?_ | refine (if_fb c_2).trans ?_ | skip); rfl) | (try simp [m_apart, bI] at c_1; try simp [m_apart, bI] at c_2; simp [m_apart, bI, c_1, c_2]; done) | rfl) dX9_apart_19
theorem iX9_mode_X9 : ∀ w ∈ u_ws RX9 TX9 31, w ∈ wsX9_mode := by decide +kernel
theorem mX9_mode_1 : Cond.fieldLink RX9 16 "ChamberPacerModel" "now" "[I" ∈ wsX9_mode := by decide +kernel
abbrev rmX9_mode : Room := { frames := 0, cells := 0, slots := 0, locals := 0 }
abbrev QfX9_mode (G : va_G) (cA cB : ClassId) (g : Nat → Nat) (Y : tMd) (q : Int32) : (Nat → Prop) → Array Value → State → Outcome → State → Prop := fun A => va_Qi (fun (r : Int32) (u : Unit) => r = bI (m_mode q Y)) (zz_B G vwCl (fun _ : Unit => (wMD g cA cB Y)) A) A
set_option maxHeartbeats 1000000 in
set_option maxRecDepth 100000 in
theorem kX9_mode (l : Launch) (G : va_G) (cA cB : ClassId) (tb : Nat × Nat × Nat) (g : Nat → Nat) (sz : Nat) (Y : tMd) (q : Int32) : Met l yX9_mode wsX9_mode rmX9_mode (zz_P (zS tb) G vwCl [(cA, .int), (cB, .boolean)] [.ref (g 0), .int q] (wMD g cA cB Y) sz) (QfX9_mode G cA cB g Y q (va_A (wMD g cA cB Y) sz)) 0 0 (va_A (wMD g cA cB Y) sz) := by
  refine zz_Met (cc := cX9_mode) (maxL := 2) (ret := (some .boolean)) (Qf := QfX9_mode G cA cB g Y q) (by decide) rfl (Nat.le_of_ble_eq_true rfl) ?_
  intro p e s m below meth c A ls hx hb hr hts hown hlocks hin hml hA hP hK hD hz hS hl
  have hl : lv_has ls 2 [(0, .ref (g 0)), (1, .int q)] := hl
  have hP : va_P G vwCl [((g 0), .inr (9, [.ref (g 1), .ref (g 2), .ref (g 3), .ref (g 4), .ref (g 5), .int Y.2.1.1, .int Y.2.2.2.2.2.1.1, .int Y.2.1.2.1, .int Y.2.1.2.2.1, .int Y.2.1.2.2.2.1, .int (bI Y.2.1.2.2.2.2.1), .int Y.2.1.2.2.2.2.2.1, .int (bI Y.2.1.2.2.2.2.2.2), .int Y.2.2.1.1, .int Y.2.2.1.2, .int Y.2.2.2.1.1, .int Y.2.2.2.1.2, .int Y.2.2.2.2.1.1, .int Y.2.2.2.2.1.2.1, .int (bI Y.2.2.2.2.1.2.2), .int Y.2.2.2.2.2.2.1.2, .int Y.2.2.2.2.2.1.2.1, .int Y.2.2.2.2.2.1.2.2, .ref (g 6), .int Y.2.2.2.2.2.2.2.2.2.1, .int Y.2.2.2.2.2.2.2.2.1.2, .ref (g 7), .int Y.2.2.2.2.2.2.2.1.2.2, .ref (g 8), .ref (g 9), .int Y.2.2.2.2.2.2.2.2.2.2])), ((g 1), .inl (cA, 14, .inl Y.1.1)), ((g 2), .inl (cA, 14, .inl Y.1.2.1)), ((g 3), .inl (cA, 14, .inl Y.1.2.2.1)), ((g 4), .inl (cA, 14, .inl Y.1.2.2.2.1)), ((g 5), .inl (cB, 14, .inl Y.1.2.2.2.2)), ((g 6), .inl (cA, 8, .inl Y.2.2.2.2.2.2.1.1)), ((g 7), .inl (cA, 6, .inl Y.2.2.2.2.2.2.2.2.1.1)), ((g 8), .inl (cA, 12, .inl Y.2.2.2.2.2.2.2.1.1)), ((g 9), .inl (cA, 12, .inl Y.2.2.2.2.2.2.2.1.2.1))] s.heap := hP
  have hD : va_D A [((g 0), .inr (9, [.ref (g 1), .ref (g 2), .ref (g 3), .ref (g 4), .ref (g 5), .int Y.2.1.1, .int Y.2.2.2.2.2.1.1, .int Y.2.1.2.1, .int Y.2.1.2.2.1, .int Y.2.1.2.2.2.1, .int (bI Y.2.1.2.2.2.2.1), .int Y.2.1.2.2.2.2.2.1, .int (bI Y.2.1.2.2.2.2.2.2), .int Y.2.2.1.1, .int Y.2.2.1.2, .int Y.2.2.2.1.1, .int Y.2.2.2.1.2, .int Y.2.2.2.2.1.1, .int Y.2.2.2.2.1.2.1, .int (bI Y.2.2.2.2.1.2.2), .int Y.2.2.2.2.2.2.1.2, .int Y.2.2.2.2.2.1.2.1, .int Y.2.2.2.2.2.1.2.2, .ref (g 6), .int Y.2.2.2.2.2.2.2.2.2.1, .int Y.2.2.2.2.2.2.2.2.1.2, .ref (g 7), .int Y.2.2.2.2.2.2.2.1.2.2, .ref (g 8), .ref (g 9), .int Y.2.2.2.2.2.2.2.2.2.2])), ((g 1), .inl (cA, 14, .inl Y.1.1)), ((g 2), .inl (cA, 14, .inl Y.1.2.1)), ((g 3), .inl (cA, 14, .inl Y.1.2.2.1)), ((g 4), .inl (cA, 14, .inl Y.1.2.2.2.1)), ((g 5), .inl (cB, 14, .inl Y.1.2.2.2.2)), ((g 6), .inl (cA, 8, .inl Y.2.2.2.2.2.2.1.1)), ((g 7), .inl (cA, 6, .inl Y.2.2.2.2.2.2.2.2.1.1)), ((g 8), .inl (cA, 12, .inl Y.2.2.2.2.2.2.2.1.1)), ((g 9), .inl (cA, 12, .inl Y.2.2.2.2.2.2.2.1.2.1))] := hD
  refine lv_iload_n hx hb dX9_mode_0 rfl (lv_at hl 1 rfl) ?_
  refine lv_aload_n hx hb dX9_mode_1 rfl (lv_at hl 0 rfl) ?_
  refine va_get (D := G) (ci := 9) (v := .ref (g 3)) (C := RX9) (T := TX9) (N := 31) hx hb hts iX9_mode_X9 hown hK hP 0 rfl rfl 2 (by decide) (hts _ mX9_mode_1) (fun _ h9 => h9) rfl dX9_mode_2 ?_
  refine lv_iconst (v := 0) hx hb dX9_mode_5 (by decide) ?_
  refine zz_iald hx hb hK hP 3 0 0 rfl rfl (by decide) (vp_lit (by decide)) dX9_mode_6 ?_
  refine lv_ishr hx hb dX9_mode_7 ?_
  refine lv_iconst (v := 1) hx hb dX9_mode_8 (by decide) ?_
  refine lv_iand hx hb dX9_mode_9 ?_
  refine lv_iconst (v := 1) hx hb dX9_mode_10 (by decide) ?_
  refine lv_icmp_ne (tgt := 18) hx hb dX9_mode_11 (by decide) (fun c_1 => ?_) (fun c_1 => ?_)
  · have c_1 := zeq_f c_1
    refine lv_iconst (v := 0) hx hb dX9_mode_18 (by decide) ?_
    exact zz_rz (v := 0) () hx hb hr (by decide +kernel) hlocks hS hP hD (by first | (simp [m_mode, bI, c_1]; done) | (symm; (first | refine (if_pos c_1).trans ?_ | refine (if_neg c_1).trans ?_ | refine (if_fb c_1).trans ?_ | skip); rfl) | (try simp [m_mode, bI] at c_1; simp [m_mode, bI, c_1]; done) | rfl) dX9_mode_19
  · have c_1 := zeq_t c_1
    refine lv_iconst (v := 1) hx hb dX9_mode_14 (by decide) ?_
    refine lv_goto (tgt := 19) hx hb dX9_mode_15 (by decide) ?_
    exact zz_rz (v := 1) () hx hb hr (by decide +kernel) hlocks hS hP hD (by first | (simp [m_mode, bI, c_1]; done) | (symm; (first | refine (if_pos c_1).trans ?_ | refine (if_neg c_1).trans ?_ | refine (if_fb c_1).trans ?_ | skip); rfl) | (try simp [m_mode, bI] at c_1; simp [m_mode, bI, c_1]; done) | rfl) dX9_mode_19
theorem iX9_mark_X9 : ∀ w ∈ u_ws RX9 TX9 31, w ∈ wsX9_mark := by decide +kernel
theorem mX9_mark_1 : Cond.fieldLink RX9 39 "ChamberPacerModel" "marks" "[I" ∈ wsX9_mark := by decide +kernel
theorem mX9_mark_2 : Cond.fieldLink RX9 52 "ChamberPacerModel" "markers" "I" ∈ wsX9_mark := by decide +kernel
theorem mX9_mark_3 : Cond.fieldLink RX9 42 "ChamberPacerModel" "markTimes" "[I" ∈ wsX9_mark := by decide +kernel
theorem mX9_mark_4 : Cond.fieldLink RX9 55 "ChamberPacerModel" "time" "I" ∈ wsX9_mark := by decide +kernel
abbrev rmX9_mark : Room := { frames := 0, cells := 0, slots := 0, locals := 0 }
abbrev QfX9_mark (G : va_G) (cA cB : ClassId) (g : Nat → Nat) (Y : tMd) (q : Int32) : (Nat → Prop) → Array Value → State → Outcome → State → Prop := fun A => va_Qv (fun u : tMd => u = m_mark q Y) (zz_B G vwCl (fun u : tMd => (wMD g cA cB u)) A) A
set_option maxHeartbeats 1000000 in
set_option maxRecDepth 100000 in
theorem kX9_mark (l : Launch) (G : va_G) (cA cB : ClassId) (tb : Nat × Nat × Nat) (g : Nat → Nat) (sz : Nat) (Y : tMd) (q : Int32) (hI : mK 1 0 Y) : Met l yX9_mark wsX9_mark rmX9_mark (zz_P (zS tb) G vwCl [(cA, .int), (cB, .boolean)] [.ref (g 0), .int q] (wMD g cA cB Y) sz) (QfX9_mark G cA cB g Y q (va_A (wMD g cA cB Y) sz)) 0 0 (va_A (wMD g cA cB Y) sz) := by
  refine zz_Met (cc := cX9_mark) (maxL := 2) (ret := none) (Qf := QfX9_mark G cA cB g Y q) (by decide) rfl (Nat.le_of_ble_eq_true rfl) ?_
  intro p e s m below meth c A ls hx hb hr hts hown hlocks hin hml hA hP hK hD hz hS hl
  have hl : lv_has ls 2 [(0, .ref (g 0)), (1, .int q)] := hl
  have hP : va_P G vwCl [((g 0), .inr (9, [.ref (g 1), .ref (g 2), .ref (g 3), .ref (g 4), .ref (g 5), .int Y.2.1.1, .int Y.2.2.2.2.2.1.1, .int Y.2.1.2.1, .int Y.2.1.2.2.1, .int Y.2.1.2.2.2.1, .int (bI Y.2.1.2.2.2.2.1), .int Y.2.1.2.2.2.2.2.1, .int (bI Y.2.1.2.2.2.2.2.2), .int Y.2.2.1.1, .int Y.2.2.1.2, .int Y.2.2.2.1.1, .int Y.2.2.2.1.2, .int Y.2.2.2.2.1.1, .int Y.2.2.2.2.1.2.1, .int (bI Y.2.2.2.2.1.2.2), .int Y.2.2.2.2.2.2.1.2, .int Y.2.2.2.2.2.1.2.1, .int Y.2.2.2.2.2.1.2.2, .ref (g 6), .int Y.2.2.2.2.2.2.2.2.2.1, .int Y.2.2.2.2.2.2.2.2.1.2, .ref (g 7), .int Y.2.2.2.2.2.2.2.1.2.2, .ref (g 8), .ref (g 9), .int Y.2.2.2.2.2.2.2.2.2.2])), ((g 1), .inl (cA, 14, .inl Y.1.1)), ((g 2), .inl (cA, 14, .inl Y.1.2.1)), ((g 3), .inl (cA, 14, .inl Y.1.2.2.1)), ((g 4), .inl (cA, 14, .inl Y.1.2.2.2.1)), ((g 5), .inl (cB, 14, .inl Y.1.2.2.2.2)), ((g 6), .inl (cA, 8, .inl Y.2.2.2.2.2.2.1.1)), ((g 7), .inl (cA, 6, .inl Y.2.2.2.2.2.2.2.2.1.1)), ((g 8), .inl (cA, 12, .inl Y.2.2.2.2.2.2.2.1.1)), ((g 9), .inl (cA, 12, .inl Y.2.2.2.2.2.2.2.1.2.1))] s.heap := hP
  have hD : va_D A [((g 0), .inr (9, [.ref (g 1), .ref (g 2), .ref (g 3), .ref (g 4), .ref (g 5), .int Y.2.1.1, .int Y.2.2.2.2.2.1.1, .int Y.2.1.2.1, .int Y.2.1.2.2.1, .int Y.2.1.2.2.2.1, .int (bI Y.2.1.2.2.2.2.1), .int Y.2.1.2.2.2.2.2.1, .int (bI Y.2.1.2.2.2.2.2.2), .int Y.2.2.1.1, .int Y.2.2.1.2, .int Y.2.2.2.1.1, .int Y.2.2.2.1.2, .int Y.2.2.2.2.1.1, .int Y.2.2.2.2.1.2.1, .int (bI Y.2.2.2.2.1.2.2), .int Y.2.2.2.2.2.2.1.2, .int Y.2.2.2.2.2.1.2.1, .int Y.2.2.2.2.2.1.2.2, .ref (g 6), .int Y.2.2.2.2.2.2.2.2.2.1, .int Y.2.2.2.2.2.2.2.2.1.2, .ref (g 7), .int Y.2.2.2.2.2.2.2.1.2.2, .ref (g 8), .ref (g 9), .int Y.2.2.2.2.2.2.2.2.2.2])), ((g 1), .inl (cA, 14, .inl Y.1.1)), ((g 2), .inl (cA, 14, .inl Y.1.2.1)), ((g 3), .inl (cA, 14, .inl Y.1.2.2.1)), ((g 4), .inl (cA, 14, .inl Y.1.2.2.2.1)), ((g 5), .inl (cB, 14, .inl Y.1.2.2.2.2)), ((g 6), .inl (cA, 8, .inl Y.2.2.2.2.2.2.1.1)), ((g 7), .inl (cA, 6, .inl Y.2.2.2.2.2.2.2.2.1.1)), ((g 8), .inl (cA, 12, .inl Y.2.2.2.2.2.2.2.1.1)), ((g 9), .inl (cA, 12, .inl Y.2.2.2.2.2.2.2.1.2.1))] := hD
  refine lv_aload_n hx hb dX9_mark_0 rfl (lv_at hl 0 rfl) ?_
  refine va_get (D := G) (ci := 9) (v := .ref (g 8)) (C := RX9) (T := TX9) (N := 31) hx hb hts iX9_mark_X9 hown hK hP 0 rfl rfl 28 (by decide) (hts _ mX9_mark_1) (fun _ h9 => h9) rfl dX9_mark_1 ?_
  refine lv_aload_n hx hb dX9_mark_4 rfl (lv_at hl 0 rfl) ?_
  refine va_get (D := G) (ci := 9) (v := .int Y.2.2.2.2.2.2.2.1.2.2) (C := RX9) (T := TX9) (N := 31) hx hb hts iX9_mark_X9 hown hK hP 0 rfl rfl 27 (by decide) (hts _ mX9_mark_2) (fun _ h9 => h9) rfl dX9_mark_5 ?_
  refine lv_bipush (v := 12) hx hb dX9_mark_8 (by decide) ?_
  refine lv_irem hx hb dX9_mark_10 (by decide) ?_
  refine lv_iload_n hx hb dX9_mark_11 rfl (lv_at hl 1 rfl) ?_
  refine zz_iast hx hb hK hP hD hS 8 0 ((Y.2.2.2.2.2.2.2.1.2.2 - Y.2.2.2.2.2.2.2.1.2.2 / 12 * 12).toNatClampNeg) rfl rfl rfl (vp_mi hI) dX9_mark_12 (fun H locs hP hD hS => ?_)
  have hP : va_P G vwCl [((g 0), .inr (9, [.ref (g 1), .ref (g 2), .ref (g 3), .ref (g 4), .ref (g 5), .int Y.2.1.1, .int Y.2.2.2.2.2.1.1, .int Y.2.1.2.1, .int Y.2.1.2.2.1, .int Y.2.1.2.2.2.1, .int (bI Y.2.1.2.2.2.2.1), .int Y.2.1.2.2.2.2.2.1, .int (bI Y.2.1.2.2.2.2.2.2), .int Y.2.2.1.1, .int Y.2.2.1.2, .int Y.2.2.2.1.1, .int Y.2.2.2.1.2, .int Y.2.2.2.2.1.1, .int Y.2.2.2.2.1.2.1, .int (bI Y.2.2.2.2.1.2.2), .int Y.2.2.2.2.2.2.1.2, .int Y.2.2.2.2.2.1.2.1, .int Y.2.2.2.2.2.1.2.2, .ref (g 6), .int Y.2.2.2.2.2.2.2.2.2.1, .int Y.2.2.2.2.2.2.2.2.1.2, .ref (g 7), .int Y.2.2.2.2.2.2.2.1.2.2, .ref (g 8), .ref (g 9), .int Y.2.2.2.2.2.2.2.2.2.2])), ((g 1), .inl (cA, 14, .inl Y.1.1)), ((g 2), .inl (cA, 14, .inl Y.1.2.1)), ((g 3), .inl (cA, 14, .inl Y.1.2.2.1)), ((g 4), .inl (cA, 14, .inl Y.1.2.2.2.1)), ((g 5), .inl (cB, 14, .inl Y.1.2.2.2.2)), ((g 6), .inl (cA, 8, .inl Y.2.2.2.2.2.2.1.1)), ((g 7), .inl (cA, 6, .inl Y.2.2.2.2.2.2.2.2.1.1)), ((g 8), .inl (cA, 12, .inl (upd Y.2.2.2.2.2.2.2.1.1 ((Y.2.2.2.2.2.2.2.1.2.2 - Y.2.2.2.2.2.2.2.1.2.2 / 12 * 12).toNatClampNeg) q))), ((g 9), .inl (cA, 12, .inl Y.2.2.2.2.2.2.2.1.2.1))] H := hP
  have hD : va_D A [((g 0), .inr (9, [.ref (g 1), .ref (g 2), .ref (g 3), .ref (g 4), .ref (g 5), .int Y.2.1.1, .int Y.2.2.2.2.2.1.1, .int Y.2.1.2.1, .int Y.2.1.2.2.1, .int Y.2.1.2.2.2.1, .int (bI Y.2.1.2.2.2.2.1), .int Y.2.1.2.2.2.2.2.1, .int (bI Y.2.1.2.2.2.2.2.2), .int Y.2.2.1.1, .int Y.2.2.1.2, .int Y.2.2.2.1.1, .int Y.2.2.2.1.2, .int Y.2.2.2.2.1.1, .int Y.2.2.2.2.1.2.1, .int (bI Y.2.2.2.2.1.2.2), .int Y.2.2.2.2.2.2.1.2, .int Y.2.2.2.2.2.1.2.1, .int Y.2.2.2.2.2.1.2.2, .ref (g 6), .int Y.2.2.2.2.2.2.2.2.2.1, .int Y.2.2.2.2.2.2.2.2.1.2, .ref (g 7), .int Y.2.2.2.2.2.2.2.1.2.2, .ref (g 8), .ref (g 9), .int Y.2.2.2.2.2.2.2.2.2.2])), ((g 1), .inl (cA, 14, .inl Y.1.1)), ((g 2), .inl (cA, 14, .inl Y.1.2.1)), ((g 3), .inl (cA, 14, .inl Y.1.2.2.1)), ((g 4), .inl (cA, 14, .inl Y.1.2.2.2.1)), ((g 5), .inl (cB, 14, .inl Y.1.2.2.2.2)), ((g 6), .inl (cA, 8, .inl Y.2.2.2.2.2.2.1.1)), ((g 7), .inl (cA, 6, .inl Y.2.2.2.2.2.2.2.2.1.1)), ((g 8), .inl (cA, 12, .inl (upd Y.2.2.2.2.2.2.2.1.1 ((Y.2.2.2.2.2.2.2.1.2.2 - Y.2.2.2.2.2.2.2.1.2.2 / 12 * 12).toNatClampNeg) q))), ((g 9), .inl (cA, 12, .inl Y.2.2.2.2.2.2.2.1.2.1))] := hD
  refine lv_aload_n hx hb dX9_mark_13 rfl (lv_at hl 0 rfl) ?_
  refine va_get (D := G) (ci := 9) (v := .ref (g 9)) (C := RX9) (T := TX9) (N := 31) hx hb hts iX9_mark_X9 hown hK hP 0 rfl rfl 29 (by decide) (hts _ mX9_mark_3) (fun _ h9 => h9) rfl dX9_mark_14 ?_
  refine lv_aload_n hx hb dX9_mark_17 rfl (lv_at hl 0 rfl) ?_
  refine va_get (D := G) (ci := 9) (v := .int Y.2.2.2.2.2.2.2.1.2.2) (C := RX9) (T := TX9) (N := 31) hx hb hts iX9_mark_X9 hown hK hP 0 rfl rfl 27 (by decide) (hts _ mX9_mark_2) (fun _ h9 => h9) rfl dX9_mark_18 ?_
  refine lv_bipush (v := 12) hx hb dX9_mark_21 (by decide) ?_
  refine lv_irem hx hb dX9_mark_23 (by decide) ?_
  refine lv_aload_n hx hb dX9_mark_24 rfl (lv_at hl 0 rfl) ?_
  refine va_get (D := G) (ci := 9) (v := .int Y.2.1.1) (C := RX9) (T := TX9) (N := 31) hx hb hts iX9_mark_X9 hown hK hP 0 rfl rfl 5 (by decide) (hts _ mX9_mark_4) (fun _ h9 => h9) rfl dX9_mark_25 ?_
  refine zz_iast hx hb hK hP hD hS 9 0 ((Y.2.2.2.2.2.2.2.1.2.2 - Y.2.2.2.2.2.2.2.1.2.2 / 12 * 12).toNatClampNeg) rfl rfl rfl (vp_mi hI) dX9_mark_28 (fun H locs hP hD hS => ?_)
  have hP : va_P G vwCl [((g 0), .inr (9, [.ref (g 1), .ref (g 2), .ref (g 3), .ref (g 4), .ref (g 5), .int Y.2.1.1, .int Y.2.2.2.2.2.1.1, .int Y.2.1.2.1, .int Y.2.1.2.2.1, .int Y.2.1.2.2.2.1, .int (bI Y.2.1.2.2.2.2.1), .int Y.2.1.2.2.2.2.2.1, .int (bI Y.2.1.2.2.2.2.2.2), .int Y.2.2.1.1, .int Y.2.2.1.2, .int Y.2.2.2.1.1, .int Y.2.2.2.1.2, .int Y.2.2.2.2.1.1, .int Y.2.2.2.2.1.2.1, .int (bI Y.2.2.2.2.1.2.2), .int Y.2.2.2.2.2.2.1.2, .int Y.2.2.2.2.2.1.2.1, .int Y.2.2.2.2.2.1.2.2, .ref (g 6), .int Y.2.2.2.2.2.2.2.2.2.1, .int Y.2.2.2.2.2.2.2.2.1.2, .ref (g 7), .int Y.2.2.2.2.2.2.2.1.2.2, .ref (g 8), .ref (g 9), .int Y.2.2.2.2.2.2.2.2.2.2])), ((g 1), .inl (cA, 14, .inl Y.1.1)), ((g 2), .inl (cA, 14, .inl Y.1.2.1)), ((g 3), .inl (cA, 14, .inl Y.1.2.2.1)), ((g 4), .inl (cA, 14, .inl Y.1.2.2.2.1)), ((g 5), .inl (cB, 14, .inl Y.1.2.2.2.2)), ((g 6), .inl (cA, 8, .inl Y.2.2.2.2.2.2.1.1)), ((g 7), .inl (cA, 6, .inl Y.2.2.2.2.2.2.2.2.1.1)), ((g 8), .inl (cA, 12, .inl (upd Y.2.2.2.2.2.2.2.1.1 ((Y.2.2.2.2.2.2.2.1.2.2 - Y.2.2.2.2.2.2.2.1.2.2 / 12 * 12).toNatClampNeg) q))), ((g 9), .inl (cA, 12, .inl (upd Y.2.2.2.2.2.2.2.1.2.1 ((Y.2.2.2.2.2.2.2.1.2.2 - Y.2.2.2.2.2.2.2.1.2.2 / 12 * 12).toNatClampNeg) Y.2.1.1)))] H := hP
  have hD : va_D A [((g 0), .inr (9, [.ref (g 1), .ref (g 2), .ref (g 3), .ref (g 4), .ref (g 5), .int Y.2.1.1, .int Y.2.2.2.2.2.1.1, .int Y.2.1.2.1, .int Y.2.1.2.2.1, .int Y.2.1.2.2.2.1, .int (bI Y.2.1.2.2.2.2.1), .int Y.2.1.2.2.2.2.2.1, .int (bI Y.2.1.2.2.2.2.2.2), .int Y.2.2.1.1, .int Y.2.2.1.2, .int Y.2.2.2.1.1, .int Y.2.2.2.1.2, .int Y.2.2.2.2.1.1, .int Y.2.2.2.2.1.2.1, .int (bI Y.2.2.2.2.1.2.2), .int Y.2.2.2.2.2.2.1.2, .int Y.2.2.2.2.2.1.2.1, .int Y.2.2.2.2.2.1.2.2, .ref (g 6), .int Y.2.2.2.2.2.2.2.2.2.1, .int Y.2.2.2.2.2.2.2.2.1.2, .ref (g 7), .int Y.2.2.2.2.2.2.2.1.2.2, .ref (g 8), .ref (g 9), .int Y.2.2.2.2.2.2.2.2.2.2])), ((g 1), .inl (cA, 14, .inl Y.1.1)), ((g 2), .inl (cA, 14, .inl Y.1.2.1)), ((g 3), .inl (cA, 14, .inl Y.1.2.2.1)), ((g 4), .inl (cA, 14, .inl Y.1.2.2.2.1)), ((g 5), .inl (cB, 14, .inl Y.1.2.2.2.2)), ((g 6), .inl (cA, 8, .inl Y.2.2.2.2.2.2.1.1)), ((g 7), .inl (cA, 6, .inl Y.2.2.2.2.2.2.2.2.1.1)), ((g 8), .inl (cA, 12, .inl (upd Y.2.2.2.2.2.2.2.1.1 ((Y.2.2.2.2.2.2.2.1.2.2 - Y.2.2.2.2.2.2.2.1.2.2 / 12 * 12).toNatClampNeg) q))), ((g 9), .inl (cA, 12, .inl (upd Y.2.2.2.2.2.2.2.1.2.1 ((Y.2.2.2.2.2.2.2.1.2.2 - Y.2.2.2.2.2.2.2.1.2.2 / 12 * 12).toNatClampNeg) Y.2.1.1)))] := hD
  refine lv_aload_n hx hb dX9_mark_29 rfl (lv_at hl 0 rfl) ?_
  refine lv_dup hx hb dX9_mark_30 rfl ?_
  refine va_get (D := G) (ci := 9) (v := .int Y.2.2.2.2.2.2.2.1.2.2) (C := RX9) (T := TX9) (N := 31) hx hb hts iX9_mark_X9 hown hK hP 0 rfl rfl 27 (by decide) (hts _ mX9_mark_2) (fun _ h9 => h9) rfl dX9_mark_31 ?_
  refine lv_iconst (v := 1) hx hb dX9_mark_34 (by decide) ?_
  refine lv_iadd hx hb dX9_mark_35 ?_
  refine va_put (D := G) (ci := 9) (v := .int (Y.2.2.2.2.2.2.2.1.2.2 + 1)) (ty := .int) (C := RX9) (T := TX9) (N := 31) hx hb hts iX9_mark_X9 tyX9 tyX9_ok nmX9 hown hK hP hD hS 0 rfl rfl 27 (by decide) (hts _ mX9_mark_2) (fun _ h9 => h9) rfl (by decide +kernel) rfl rfl (Nat.le_of_ble_eq_true rfl) dX9_mark_36 (fun H locs hP hD hS => ?_)
  have hP : va_P G vwCl [((g 0), .inr (9, [.ref (g 1), .ref (g 2), .ref (g 3), .ref (g 4), .ref (g 5), .int Y.2.1.1, .int Y.2.2.2.2.2.1.1, .int Y.2.1.2.1, .int Y.2.1.2.2.1, .int Y.2.1.2.2.2.1, .int (bI Y.2.1.2.2.2.2.1), .int Y.2.1.2.2.2.2.2.1, .int (bI Y.2.1.2.2.2.2.2.2), .int Y.2.2.1.1, .int Y.2.2.1.2, .int Y.2.2.2.1.1, .int Y.2.2.2.1.2, .int Y.2.2.2.2.1.1, .int Y.2.2.2.2.1.2.1, .int (bI Y.2.2.2.2.1.2.2), .int Y.2.2.2.2.2.2.1.2, .int Y.2.2.2.2.2.1.2.1, .int Y.2.2.2.2.2.1.2.2, .ref (g 6), .int Y.2.2.2.2.2.2.2.2.2.1, .int Y.2.2.2.2.2.2.2.2.1.2, .ref (g 7), .int (Y.2.2.2.2.2.2.2.1.2.2 + 1), .ref (g 8), .ref (g 9), .int Y.2.2.2.2.2.2.2.2.2.2])), ((g 1), .inl (cA, 14, .inl Y.1.1)), ((g 2), .inl (cA, 14, .inl Y.1.2.1)), ((g 3), .inl (cA, 14, .inl Y.1.2.2.1)), ((g 4), .inl (cA, 14, .inl Y.1.2.2.2.1)), ((g 5), .inl (cB, 14, .inl Y.1.2.2.2.2)), ((g 6), .inl (cA, 8, .inl Y.2.2.2.2.2.2.1.1)), ((g 7), .inl (cA, 6, .inl Y.2.2.2.2.2.2.2.2.1.1)), ((g 8), .inl (cA, 12, .inl (upd Y.2.2.2.2.2.2.2.1.1 ((Y.2.2.2.2.2.2.2.1.2.2 - Y.2.2.2.2.2.2.2.1.2.2 / 12 * 12).toNatClampNeg) q))), ((g 9), .inl (cA, 12, .inl (upd Y.2.2.2.2.2.2.2.1.2.1 ((Y.2.2.2.2.2.2.2.1.2.2 - Y.2.2.2.2.2.2.2.1.2.2 / 12 * 12).toNatClampNeg) Y.2.1.1)))] H := hP
  have hD : va_D A [((g 0), .inr (9, [.ref (g 1), .ref (g 2), .ref (g 3), .ref (g 4), .ref (g 5), .int Y.2.1.1, .int Y.2.2.2.2.2.1.1, .int Y.2.1.2.1, .int Y.2.1.2.2.1, .int Y.2.1.2.2.2.1, .int (bI Y.2.1.2.2.2.2.1), .int Y.2.1.2.2.2.2.2.1, .int (bI Y.2.1.2.2.2.2.2.2), .int Y.2.2.1.1, .int Y.2.2.1.2, .int Y.2.2.2.1.1, .int Y.2.2.2.1.2, .int Y.2.2.2.2.1.1, .int Y.2.2.2.2.1.2.1, .int (bI Y.2.2.2.2.1.2.2), .int Y.2.2.2.2.2.2.1.2, .int Y.2.2.2.2.2.1.2.1, .int Y.2.2.2.2.2.1.2.2, .ref (g 6), .int Y.2.2.2.2.2.2.2.2.2.1, .int Y.2.2.2.2.2.2.2.2.1.2, .ref (g 7), .int (Y.2.2.2.2.2.2.2.1.2.2 + 1), .ref (g 8), .ref (g 9), .int Y.2.2.2.2.2.2.2.2.2.2])), ((g 1), .inl (cA, 14, .inl Y.1.1)), ((g 2), .inl (cA, 14, .inl Y.1.2.1)), ((g 3), .inl (cA, 14, .inl Y.1.2.2.1)), ((g 4), .inl (cA, 14, .inl Y.1.2.2.2.1)), ((g 5), .inl (cB, 14, .inl Y.1.2.2.2.2)), ((g 6), .inl (cA, 8, .inl Y.2.2.2.2.2.2.1.1)), ((g 7), .inl (cA, 6, .inl Y.2.2.2.2.2.2.2.2.1.1)), ((g 8), .inl (cA, 12, .inl (upd Y.2.2.2.2.2.2.2.1.1 ((Y.2.2.2.2.2.2.2.1.2.2 - Y.2.2.2.2.2.2.2.1.2.2 / 12 * 12).toNatClampNeg) q))), ((g 9), .inl (cA, 12, .inl (upd Y.2.2.2.2.2.2.2.1.2.1 ((Y.2.2.2.2.2.2.2.1.2.2 - Y.2.2.2.2.2.2.2.1.2.2 / 12 * 12).toNatClampNeg) Y.2.1.1)))] := hD
  exact zz_rv ((Y.1, Y.2.1, Y.2.2.1, Y.2.2.2.1, Y.2.2.2.2.1, Y.2.2.2.2.2.1, Y.2.2.2.2.2.2.1, ((upd Y.2.2.2.2.2.2.2.1.1 ((Y.2.2.2.2.2.2.2.1.2.2 - Y.2.2.2.2.2.2.2.1.2.2 / 12 * 12).toNatClampNeg) q), (upd Y.2.2.2.2.2.2.2.1.2.1 ((Y.2.2.2.2.2.2.2.1.2.2 - Y.2.2.2.2.2.2.2.1.2.2 / 12 * 12).toNatClampNeg) Y.2.1.1), (Y.2.2.2.2.2.2.2.1.2.2 + 1)), Y.2.2.2.2.2.2.2.2.1, Y.2.2.2.2.2.2.2.2.2) : tMd) hx hb hr hlocks hS hP hD (by first | rfl | (rfl) | (simp [])) dX9_mark_39
theorem iX9_tooFast_X9 : ∀ w ∈ u_ws RX9 TX9 31, w ∈ wsX9_tooFast := by decide +kernel
theorem mX9_tooFast_1 : Cond.fieldLink RX9 62 "ChamberPacerModel" "sinceA" "I" ∈ wsX9_tooFast := by decide +kernel
theorem mX9_tooFast_2 : Cond.fieldLink RX9 16 "ChamberPacerModel" "now" "[I" ∈ wsX9_tooFast := by decide +kernel
theorem mX9_tooFast_3 : Cond.fieldLink RX9 65 "ChamberPacerModel" "fast" "I" ∈ wsX9_tooFast := by decide +kernel
theorem mX9_tooFast_4 : Cond.fieldLink RX9 68 "ChamberPacerModel" "slow" "I" ∈ wsX9_tooFast := by decide +kernel
theorem mX9_tooFast_5 : Cond.fieldLink RX9 71 "ChamberPacerModel" "back" "Z" ∈ wsX9_tooFast := by decide +kernel
abbrev rmX9_tooFast : Room := { frames := 1, cells := 0, slots := 0, locals := 21 }
abbrev QfX9_tooFast (G : va_G) (cA cB : ClassId) (g : Nat → Nat) (Y : tMd) : (Nat → Prop) → Array Value → State → Outcome → State → Prop := fun A => va_Qv (fun u : tMd => u = m_tf Y) (zz_B G vwCl (fun u : tMd => (wMD g cA cB u)) A) A
set_option maxHeartbeats 1000000 in
set_option maxRecDepth 100000 in
theorem kX9_tooFast (l : Launch) (G : va_G) (cA cB : ClassId) (tb : Nat × Nat × Nat) (g : Nat → Nat) (sz : Nat) (Y : tMd) (hI : mK 2 0 Y) : Met l yX9_tooFast wsX9_tooFast rmX9_tooFast (zz_P (zS tb) G vwCl [(cA, .int), (cB, .boolean)] [.ref (g 0)] (wMD g cA cB Y) sz) (QfX9_tooFast G cA cB g Y (va_A (wMD g cA cB Y) sz)) 0 0 (va_A (wMD g cA cB Y) sz) := by
  refine zz_Met (cc := cX9_tooFast) (maxL := 2) (ret := none) (Qf := QfX9_tooFast G cA cB g Y) (by decide) rfl (Nat.le_of_ble_eq_true rfl) ?_
  intro p e s m below meth c A ls hx hb hr hts hown hlocks hin hml hA hP hK hD hz hS hl
  have hl : lv_has ls 2 [(0, .ref (g 0))] := hl
  have hP : va_P G vwCl [((g 0), .inr (9, [.ref (g 1), .ref (g 2), .ref (g 3), .ref (g 4), .ref (g 5), .int Y.2.1.1, .int Y.2.2.2.2.2.1.1, .int Y.2.1.2.1, .int Y.2.1.2.2.1, .int Y.2.1.2.2.2.1, .int (bI Y.2.1.2.2.2.2.1), .int Y.2.1.2.2.2.2.2.1, .int (bI Y.2.1.2.2.2.2.2.2), .int Y.2.2.1.1, .int Y.2.2.1.2, .int Y.2.2.2.1.1, .int Y.2.2.2.1.2, .int Y.2.2.2.2.1.1, .int Y.2.2.2.2.1.2.1, .int (bI Y.2.2.2.2.1.2.2), .int Y.2.2.2.2.2.2.1.2, .int Y.2.2.2.2.2.1.2.1, .int Y.2.2.2.2.2.1.2.2, .ref (g 6), .int Y.2.2.2.2.2.2.2.2.2.1, .int Y.2.2.2.2.2.2.2.2.1.2, .ref (g 7), .int Y.2.2.2.2.2.2.2.1.2.2, .ref (g 8), .ref (g 9), .int Y.2.2.2.2.2.2.2.2.2.2])), ((g 1), .inl (cA, 14, .inl Y.1.1)), ((g 2), .inl (cA, 14, .inl Y.1.2.1)), ((g 3), .inl (cA, 14, .inl Y.1.2.2.1)), ((g 4), .inl (cA, 14, .inl Y.1.2.2.2.1)), ((g 5), .inl (cB, 14, .inl Y.1.2.2.2.2)), ((g 6), .inl (cA, 8, .inl Y.2.2.2.2.2.2.1.1)), ((g 7), .inl (cA, 6, .inl Y.2.2.2.2.2.2.2.2.1.1)), ((g 8), .inl (cA, 12, .inl Y.2.2.2.2.2.2.2.1.1)), ((g 9), .inl (cA, 12, .inl Y.2.2.2.2.2.2.2.1.2.1))] s.heap := hP
  have hD : va_D A [((g 0), .inr (9, [.ref (g 1), .ref (g 2), .ref (g 3), .ref (g 4), .ref (g 5), .int Y.2.1.1, .int Y.2.2.2.2.2.1.1, .int Y.2.1.2.1, .int Y.2.1.2.2.1, .int Y.2.1.2.2.2.1, .int (bI Y.2.1.2.2.2.2.1), .int Y.2.1.2.2.2.2.2.1, .int (bI Y.2.1.2.2.2.2.2.2), .int Y.2.2.1.1, .int Y.2.2.1.2, .int Y.2.2.2.1.1, .int Y.2.2.2.1.2, .int Y.2.2.2.2.1.1, .int Y.2.2.2.2.1.2.1, .int (bI Y.2.2.2.2.1.2.2), .int Y.2.2.2.2.2.2.1.2, .int Y.2.2.2.2.2.1.2.1, .int Y.2.2.2.2.2.1.2.2, .ref (g 6), .int Y.2.2.2.2.2.2.2.2.2.1, .int Y.2.2.2.2.2.2.2.2.1.2, .ref (g 7), .int Y.2.2.2.2.2.2.2.1.2.2, .ref (g 8), .ref (g 9), .int Y.2.2.2.2.2.2.2.2.2.2])), ((g 1), .inl (cA, 14, .inl Y.1.1)), ((g 2), .inl (cA, 14, .inl Y.1.2.1)), ((g 3), .inl (cA, 14, .inl Y.1.2.2.1)), ((g 4), .inl (cA, 14, .inl Y.1.2.2.2.1)), ((g 5), .inl (cB, 14, .inl Y.1.2.2.2.2)), ((g 6), .inl (cA, 8, .inl Y.2.2.2.2.2.2.1.1)), ((g 7), .inl (cA, 6, .inl Y.2.2.2.2.2.2.2.2.1.1)), ((g 8), .inl (cA, 12, .inl Y.2.2.2.2.2.2.2.1.1)), ((g 9), .inl (cA, 12, .inl Y.2.2.2.2.2.2.2.1.2.1))] := hD
  refine lv_aload_n hx hb dX9_tooFast_0 rfl (lv_at hl 0 rfl) ?_
  refine lv_sipush (v := 160) hx hb dX9_tooFast_1 (by decide) ?_
  refine zz_ci (wr := []) (va_runV (As := [.int 160]) (rest := []) ⟨hx, hb, hml, hown, hts⟩ (kX9_mode l G cA cB tb g s.heap.size Y 160) (cwV 1 hts gX9_tooFast_X9_mode rfl rfl rfl (by decide +kernel) ⟨Nat.le_of_ble_eq_true rfl, Nat.le_of_ble_eq_true rfl⟩) (zz_preV zS_ok hK hP hD hS hA hz [0, 1, 2, 3, 4, 5, 6, 7, 8, 9] rfl (by decide) (ci := 9) (q0 := 0) (C := RX9) rfl rfl) rfl rfl hl.1 rfl (lv_room (Nat.le_of_ble_eq_true rfl)) dX9_tooFast_4 ⟨Nat.zero_le _, Nat.zero_le _⟩) hP hD hS hA [0, 1, 2, 3, 4, 5, 6, 7, 8, 9] [] rfl rfl (by decide) (by decide) (fun r u H locs hw hP hD hS => ?_)
  have hw := hw.symm; subst hw
  have hP : va_P G vwCl [((g 0), .inr (9, [.ref (g 1), .ref (g 2), .ref (g 3), .ref (g 4), .ref (g 5), .int Y.2.1.1, .int Y.2.2.2.2.2.1.1, .int Y.2.1.2.1, .int Y.2.1.2.2.1, .int Y.2.1.2.2.2.1, .int (bI Y.2.1.2.2.2.2.1), .int Y.2.1.2.2.2.2.2.1, .int (bI Y.2.1.2.2.2.2.2.2), .int Y.2.2.1.1, .int Y.2.2.1.2, .int Y.2.2.2.1.1, .int Y.2.2.2.1.2, .int Y.2.2.2.2.1.1, .int Y.2.2.2.2.1.2.1, .int (bI Y.2.2.2.2.1.2.2), .int Y.2.2.2.2.2.2.1.2, .int Y.2.2.2.2.2.1.2.1, .int Y.2.2.2.2.2.1.2.2, .ref (g 6), .int Y.2.2.2.2.2.2.2.2.2.1, .int Y.2.2.2.2.2.2.2.2.1.2, .ref (g 7), .int Y.2.2.2.2.2.2.2.1.2.2, .ref (g 8), .ref (g 9), .int Y.2.2.2.2.2.2.2.2.2.2])), ((g 1), .inl (cA, 14, .inl Y.1.1)), ((g 2), .inl (cA, 14, .inl Y.1.2.1)), ((g 3), .inl (cA, 14, .inl Y.1.2.2.1)), ((g 4), .inl (cA, 14, .inl Y.1.2.2.2.1)), ((g 5), .inl (cB, 14, .inl Y.1.2.2.2.2)), ((g 6), .inl (cA, 8, .inl Y.2.2.2.2.2.2.1.1)), ((g 7), .inl (cA, 6, .inl Y.2.2.2.2.2.2.2.2.1.1)), ((g 8), .inl (cA, 12, .inl Y.2.2.2.2.2.2.2.1.1)), ((g 9), .inl (cA, 12, .inl Y.2.2.2.2.2.2.2.1.2.1))] H := hP
  have hD : va_D A [((g 0), .inr (9, [.ref (g 1), .ref (g 2), .ref (g 3), .ref (g 4), .ref (g 5), .int Y.2.1.1, .int Y.2.2.2.2.2.1.1, .int Y.2.1.2.1, .int Y.2.1.2.2.1, .int Y.2.1.2.2.2.1, .int (bI Y.2.1.2.2.2.2.1), .int Y.2.1.2.2.2.2.2.1, .int (bI Y.2.1.2.2.2.2.2.2), .int Y.2.2.1.1, .int Y.2.2.1.2, .int Y.2.2.2.1.1, .int Y.2.2.2.1.2, .int Y.2.2.2.2.1.1, .int Y.2.2.2.2.1.2.1, .int (bI Y.2.2.2.2.1.2.2), .int Y.2.2.2.2.2.2.1.2, .int Y.2.2.2.2.2.1.2.1, .int Y.2.2.2.2.2.1.2.2, .ref (g 6), .int Y.2.2.2.2.2.2.2.2.2.1, .int Y.2.2.2.2.2.2.2.2.1.2, .ref (g 7), .int Y.2.2.2.2.2.2.2.1.2.2, .ref (g 8), .ref (g 9), .int Y.2.2.2.2.2.2.2.2.2.2])), ((g 1), .inl (cA, 14, .inl Y.1.1)), ((g 2), .inl (cA, 14, .inl Y.1.2.1)), ((g 3), .inl (cA, 14, .inl Y.1.2.2.1)), ((g 4), .inl (cA, 14, .inl Y.1.2.2.2.1)), ((g 5), .inl (cB, 14, .inl Y.1.2.2.2.2)), ((g 6), .inl (cA, 8, .inl Y.2.2.2.2.2.2.1.1)), ((g 7), .inl (cA, 6, .inl Y.2.2.2.2.2.2.2.2.1.1)), ((g 8), .inl (cA, 12, .inl Y.2.2.2.2.2.2.2.1.1)), ((g 9), .inl (cA, 12, .inl Y.2.2.2.2.2.2.2.1.2.1))] := hD
  refine lv_if_ne (tgt := 11) hx hb dX9_tooFast_7 (by decide) (fun c_1 => ?_) (fun c_1 => ?_)
  · have c_1 := bI_t c_1
    refine lv_aload_n hx hb dX9_tooFast_11 rfl (lv_at hl 0 rfl) ?_
    refine va_get (D := G) (ci := 9) (v := .int Y.2.1.2.1) (C := RX9) (T := TX9) (N := 31) hx hb hts iX9_tooFast_X9 hown hK hP 0 rfl rfl 7 (by decide) (hts _ mX9_tooFast_1) (fun _ h9 => h9) rfl dX9_tooFast_12 ?_
    refine lv_aload_n hx hb dX9_tooFast_15 rfl (lv_at hl 0 rfl) ?_
    refine va_get (D := G) (ci := 9) (v := .ref (g 3)) (C := RX9) (T := TX9) (N := 31) hx hb hts iX9_tooFast_X9 hown hK hP 0 rfl rfl 2 (by decide) (hts _ mX9_tooFast_2) (fun _ h9 => h9) rfl dX9_tooFast_16 ?_
    refine lv_bipush (v := 13) hx hb dX9_tooFast_19 (by decide) ?_
    refine zz_iald hx hb hK hP 3 0 13 rfl rfl (by decide) (vp_lit (by decide)) dX9_tooFast_21 ?_
    have J30_2 : ∀ (vq : Bool) (hvq : vq = m_quick Y) (H : Heap) (locs : List Loc) (ls : Array Slot), va_P G vwCl [((g 0), .inr (9, [.ref (g 1), .ref (g 2), .ref (g 3), .ref (g 4), .ref (g 5), .int Y.2.1.1, .int Y.2.2.2.2.2.1.1, .int Y.2.1.2.1, .int Y.2.1.2.2.1, .int Y.2.1.2.2.2.1, .int (bI Y.2.1.2.2.2.2.1), .int Y.2.1.2.2.2.2.2.1, .int (bI Y.2.1.2.2.2.2.2.2), .int Y.2.2.1.1, .int Y.2.2.1.2, .int Y.2.2.2.1.1, .int Y.2.2.2.1.2, .int Y.2.2.2.2.1.1, .int Y.2.2.2.2.1.2.1, .int (bI Y.2.2.2.2.1.2.2), .int Y.2.2.2.2.2.2.1.2, .int Y.2.2.2.2.2.1.2.1, .int Y.2.2.2.2.2.1.2.2, .ref (g 6), .int Y.2.2.2.2.2.2.2.2.2.1, .int Y.2.2.2.2.2.2.2.2.1.2, .ref (g 7), .int Y.2.2.2.2.2.2.2.1.2.2, .ref (g 8), .ref (g 9), .int Y.2.2.2.2.2.2.2.2.2.2])), ((g 1), .inl (cA, 14, .inl Y.1.1)), ((g 2), .inl (cA, 14, .inl Y.1.2.1)), ((g 3), .inl (cA, 14, .inl Y.1.2.2.1)), ((g 4), .inl (cA, 14, .inl Y.1.2.2.2.1)), ((g 5), .inl (cB, 14, .inl Y.1.2.2.2.2)), ((g 6), .inl (cA, 8, .inl Y.2.2.2.2.2.2.1.1)), ((g 7), .inl (cA, 6, .inl Y.2.2.2.2.2.2.2.2.1.1)), ((g 8), .inl (cA, 12, .inl Y.2.2.2.2.2.2.2.1.1)), ((g 9), .inl (cA, 12, .inl Y.2.2.2.2.2.2.2.1.2.1))] H → va_D A [((g 0), .inr (9, [.ref (g 1), .ref (g 2), .ref (g 3), .ref (g 4), .ref (g 5), .int Y.2.1.1, .int Y.2.2.2.2.2.1.1, .int Y.2.1.2.1, .int Y.2.1.2.2.1, .int Y.2.1.2.2.2.1, .int (bI Y.2.1.2.2.2.2.1), .int Y.2.1.2.2.2.2.2.1, .int (bI Y.2.1.2.2.2.2.2.2), .int Y.2.2.1.1, .int Y.2.2.1.2, .int Y.2.2.2.1.1, .int Y.2.2.2.1.2, .int Y.2.2.2.2.1.1, .int Y.2.2.2.2.1.2.1, .int (bI Y.2.2.2.2.1.2.2), .int Y.2.2.2.2.2.2.1.2, .int Y.2.2.2.2.2.1.2.1, .int Y.2.2.2.2.2.1.2.2, .ref (g 6), .int Y.2.2.2.2.2.2.2.2.2.1, .int Y.2.2.2.2.2.2.2.2.1.2, .ref (g 7), .int Y.2.2.2.2.2.2.2.1.2.2, .ref (g 8), .ref (g 9), .int Y.2.2.2.2.2.2.2.2.2.2])), ((g 1), .inl (cA, 14, .inl Y.1.1)), ((g 2), .inl (cA, 14, .inl Y.1.2.1)), ((g 3), .inl (cA, 14, .inl Y.1.2.2.1)), ((g 4), .inl (cA, 14, .inl Y.1.2.2.2.1)), ((g 5), .inl (cB, 14, .inl Y.1.2.2.2.2)), ((g 6), .inl (cA, 8, .inl Y.2.2.2.2.2.2.1.1)), ((g 7), .inl (cA, 6, .inl Y.2.2.2.2.2.2.2.2.1.1)), ((g 8), .inl (cA, 12, .inl Y.2.2.2.2.2.2.2.1.1)), ((g 9), .inl (cA, 12, .inl Y.2.2.2.2.2.2.2.1.2.1))] → va_S A s.heap H locs → lv_has ls 2 [(0, .ref (g 0))] → W p l e rmX9_tooFast s m ([.ref (g 0)] : List Value).toArray below meth c H locs 0 0 (MQ below (va_Qv (fun u : tMd => u = m_tf Y) (zz_B G vwCl (fun u : tMd => (wMD g cA cB u)) A) A) ([.ref (g 0)] : List Value).toArray s 0 0 A) (F0 m 30 ls [.int (bI vq)]) := by
      intro vq hvq H locs ls hP hD hS hl
      refine lv_istore_n (lv' := [(1, .int (bI vq)), (0, .ref (g 0))]) hx hb dX9_tooFast_30 rfl hl (by decide) rfl (fun ls hl => ?_)
      refine lv_aload_n hx hb dX9_tooFast_31 rfl (lv_at hl 1 rfl) ?_
      refine lv_iload_n hx hb dX9_tooFast_32 rfl (lv_at hl 0 rfl) ?_
      have J46_3 : ∀ (vf : Int32) (hvf : vf = (if m_quick Y = true then Y.2.2.2.2.1.1 + 1 else 0)) (H : Heap) (locs : List Loc) (ls : Array Slot), va_P G vwCl [((g 0), .inr (9, [.ref (g 1), .ref (g 2), .ref (g 3), .ref (g 4), .ref (g 5), .int Y.2.1.1, .int Y.2.2.2.2.2.1.1, .int Y.2.1.2.1, .int Y.2.1.2.2.1, .int Y.2.1.2.2.2.1, .int (bI Y.2.1.2.2.2.2.1), .int Y.2.1.2.2.2.2.2.1, .int (bI Y.2.1.2.2.2.2.2.2), .int Y.2.2.1.1, .int Y.2.2.1.2, .int Y.2.2.2.1.1, .int Y.2.2.2.1.2, .int Y.2.2.2.2.1.1, .int Y.2.2.2.2.1.2.1, .int (bI Y.2.2.2.2.1.2.2), .int Y.2.2.2.2.2.2.1.2, .int Y.2.2.2.2.2.1.2.1, .int Y.2.2.2.2.2.1.2.2, .ref (g 6), .int Y.2.2.2.2.2.2.2.2.2.1, .int Y.2.2.2.2.2.2.2.2.1.2, .ref (g 7), .int Y.2.2.2.2.2.2.2.1.2.2, .ref (g 8), .ref (g 9), .int Y.2.2.2.2.2.2.2.2.2.2])), ((g 1), .inl (cA, 14, .inl Y.1.1)), ((g 2), .inl (cA, 14, .inl Y.1.2.1)), ((g 3), .inl (cA, 14, .inl Y.1.2.2.1)), ((g 4), .inl (cA, 14, .inl Y.1.2.2.2.1)), ((g 5), .inl (cB, 14, .inl Y.1.2.2.2.2)), ((g 6), .inl (cA, 8, .inl Y.2.2.2.2.2.2.1.1)), ((g 7), .inl (cA, 6, .inl Y.2.2.2.2.2.2.2.2.1.1)), ((g 8), .inl (cA, 12, .inl Y.2.2.2.2.2.2.2.1.1)), ((g 9), .inl (cA, 12, .inl Y.2.2.2.2.2.2.2.1.2.1))] H → va_D A [((g 0), .inr (9, [.ref (g 1), .ref (g 2), .ref (g 3), .ref (g 4), .ref (g 5), .int Y.2.1.1, .int Y.2.2.2.2.2.1.1, .int Y.2.1.2.1, .int Y.2.1.2.2.1, .int Y.2.1.2.2.2.1, .int (bI Y.2.1.2.2.2.2.1), .int Y.2.1.2.2.2.2.2.1, .int (bI Y.2.1.2.2.2.2.2.2), .int Y.2.2.1.1, .int Y.2.2.1.2, .int Y.2.2.2.1.1, .int Y.2.2.2.1.2, .int Y.2.2.2.2.1.1, .int Y.2.2.2.2.1.2.1, .int (bI Y.2.2.2.2.1.2.2), .int Y.2.2.2.2.2.2.1.2, .int Y.2.2.2.2.2.1.2.1, .int Y.2.2.2.2.2.1.2.2, .ref (g 6), .int Y.2.2.2.2.2.2.2.2.2.1, .int Y.2.2.2.2.2.2.2.2.1.2, .ref (g 7), .int Y.2.2.2.2.2.2.2.1.2.2, .ref (g 8), .ref (g 9), .int Y.2.2.2.2.2.2.2.2.2.2])), ((g 1), .inl (cA, 14, .inl Y.1.1)), ((g 2), .inl (cA, 14, .inl Y.1.2.1)), ((g 3), .inl (cA, 14, .inl Y.1.2.2.1)), ((g 4), .inl (cA, 14, .inl Y.1.2.2.2.1)), ((g 5), .inl (cB, 14, .inl Y.1.2.2.2.2)), ((g 6), .inl (cA, 8, .inl Y.2.2.2.2.2.2.1.1)), ((g 7), .inl (cA, 6, .inl Y.2.2.2.2.2.2.2.2.1.1)), ((g 8), .inl (cA, 12, .inl Y.2.2.2.2.2.2.2.1.1)), ((g 9), .inl (cA, 12, .inl Y.2.2.2.2.2.2.2.1.2.1))] → va_S A s.heap H locs → lv_has ls 2 [(1, .int (bI vq)), (0, .ref (g 0))] → W p l e rmX9_tooFast s m ([.ref (g 0)] : List Value).toArray below meth c H locs 0 0 (MQ below (va_Qv (fun u : tMd => u = m_tf Y) (zz_B G vwCl (fun u : tMd => (wMD g cA cB u)) A) A) ([.ref (g 0)] : List Value).toArray s 0 0 A) (F0 m 46 ls [.int vf, .ref (g 0)]) := by
        intro vf hvf H locs ls hP hD hS hl
        refine va_put (D := G) (ci := 9) (v := .int vf) (ty := .int) (C := RX9) (T := TX9) (N := 31) hx hb hts iX9_tooFast_X9 tyX9 tyX9_ok nmX9 hown hK hP hD hS 0 rfl rfl 17 (by decide) (hts _ mX9_tooFast_3) (fun _ h9 => h9) rfl (by decide +kernel) rfl rfl (Nat.le_of_ble_eq_true rfl) dX9_tooFast_46 (fun H locs hP hD hS => ?_)
        have hP : va_P G vwCl [((g 0), .inr (9, [.ref (g 1), .ref (g 2), .ref (g 3), .ref (g 4), .ref (g 5), .int Y.2.1.1, .int Y.2.2.2.2.2.1.1, .int Y.2.1.2.1, .int Y.2.1.2.2.1, .int Y.2.1.2.2.2.1, .int (bI Y.2.1.2.2.2.2.1), .int Y.2.1.2.2.2.2.2.1, .int (bI Y.2.1.2.2.2.2.2.2), .int Y.2.2.1.1, .int Y.2.2.1.2, .int Y.2.2.2.1.1, .int Y.2.2.2.1.2, .int vf, .int Y.2.2.2.2.1.2.1, .int (bI Y.2.2.2.2.1.2.2), .int Y.2.2.2.2.2.2.1.2, .int Y.2.2.2.2.2.1.2.1, .int Y.2.2.2.2.2.1.2.2, .ref (g 6), .int Y.2.2.2.2.2.2.2.2.2.1, .int Y.2.2.2.2.2.2.2.2.1.2, .ref (g 7), .int Y.2.2.2.2.2.2.2.1.2.2, .ref (g 8), .ref (g 9), .int Y.2.2.2.2.2.2.2.2.2.2])), ((g 1), .inl (cA, 14, .inl Y.1.1)), ((g 2), .inl (cA, 14, .inl Y.1.2.1)), ((g 3), .inl (cA, 14, .inl Y.1.2.2.1)), ((g 4), .inl (cA, 14, .inl Y.1.2.2.2.1)), ((g 5), .inl (cB, 14, .inl Y.1.2.2.2.2)), ((g 6), .inl (cA, 8, .inl Y.2.2.2.2.2.2.1.1)), ((g 7), .inl (cA, 6, .inl Y.2.2.2.2.2.2.2.2.1.1)), ((g 8), .inl (cA, 12, .inl Y.2.2.2.2.2.2.2.1.1)), ((g 9), .inl (cA, 12, .inl Y.2.2.2.2.2.2.2.1.2.1))] H := hP
        have hD : va_D A [((g 0), .inr (9, [.ref (g 1), .ref (g 2), .ref (g 3), .ref (g 4), .ref (g 5), .int Y.2.1.1, .int Y.2.2.2.2.2.1.1, .int Y.2.1.2.1, .int Y.2.1.2.2.1, .int Y.2.1.2.2.2.1, .int (bI Y.2.1.2.2.2.2.1), .int Y.2.1.2.2.2.2.2.1, .int (bI Y.2.1.2.2.2.2.2.2), .int Y.2.2.1.1, .int Y.2.2.1.2, .int Y.2.2.2.1.1, .int Y.2.2.2.1.2, .int vf, .int Y.2.2.2.2.1.2.1, .int (bI Y.2.2.2.2.1.2.2), .int Y.2.2.2.2.2.2.1.2, .int Y.2.2.2.2.2.1.2.1, .int Y.2.2.2.2.2.1.2.2, .ref (g 6), .int Y.2.2.2.2.2.2.2.2.2.1, .int Y.2.2.2.2.2.2.2.2.1.2, .ref (g 7), .int Y.2.2.2.2.2.2.2.1.2.2, .ref (g 8), .ref (g 9), .int Y.2.2.2.2.2.2.2.2.2.2])), ((g 1), .inl (cA, 14, .inl Y.1.1)), ((g 2), .inl (cA, 14, .inl Y.1.2.1)), ((g 3), .inl (cA, 14, .inl Y.1.2.2.1)), ((g 4), .inl (cA, 14, .inl Y.1.2.2.2.1)), ((g 5), .inl (cB, 14, .inl Y.1.2.2.2.2)), ((g 6), .inl (cA, 8, .inl Y.2.2.2.2.2.2.1.1)), ((g 7), .inl (cA, 6, .inl Y.2.2.2.2.2.2.2.2.1.1)), ((g 8), .inl (cA, 12, .inl Y.2.2.2.2.2.2.2.1.1)), ((g 9), .inl (cA, 12, .inl Y.2.2.2.2.2.2.2.1.2.1))] := hD
        refine lv_aload_n hx hb dX9_tooFast_49 rfl (lv_at hl 1 rfl) ?_
        refine lv_iload_n hx hb dX9_tooFast_50 rfl (lv_at hl 0 rfl) ?_
        have J64_4 : ∀ (vs : Int32) (hvs : vs = (if m_quick Y = true then 0 else Y.2.2.2.2.1.2.1 + 1)) (H : Heap) (locs : List Loc) (ls : Array Slot), va_P G vwCl [((g 0), .inr (9, [.ref (g 1), .ref (g 2), .ref (g 3), .ref (g 4), .ref (g 5), .int Y.2.1.1, .int Y.2.2.2.2.2.1.1, .int Y.2.1.2.1, .int Y.2.1.2.2.1, .int Y.2.1.2.2.2.1, .int (bI Y.2.1.2.2.2.2.1), .int Y.2.1.2.2.2.2.2.1, .int (bI Y.2.1.2.2.2.2.2.2), .int Y.2.2.1.1, .int Y.2.2.1.2, .int Y.2.2.2.1.1, .int Y.2.2.2.1.2, .int vf, .int Y.2.2.2.2.1.2.1, .int (bI Y.2.2.2.2.1.2.2), .int Y.2.2.2.2.2.2.1.2, .int Y.2.2.2.2.2.1.2.1, .int Y.2.2.2.2.2.1.2.2, .ref (g 6), .int Y.2.2.2.2.2.2.2.2.2.1, .int Y.2.2.2.2.2.2.2.2.1.2, .ref (g 7), .int Y.2.2.2.2.2.2.2.1.2.2, .ref (g 8), .ref (g 9), .int Y.2.2.2.2.2.2.2.2.2.2])), ((g 1), .inl (cA, 14, .inl Y.1.1)), ((g 2), .inl (cA, 14, .inl Y.1.2.1)), ((g 3), .inl (cA, 14, .inl Y.1.2.2.1)), ((g 4), .inl (cA, 14, .inl Y.1.2.2.2.1)), ((g 5), .inl (cB, 14, .inl Y.1.2.2.2.2)), ((g 6), .inl (cA, 8, .inl Y.2.2.2.2.2.2.1.1)), ((g 7), .inl (cA, 6, .inl Y.2.2.2.2.2.2.2.2.1.1)), ((g 8), .inl (cA, 12, .inl Y.2.2.2.2.2.2.2.1.1)), ((g 9), .inl (cA, 12, .inl Y.2.2.2.2.2.2.2.1.2.1))] H → va_D A [((g 0), .inr (9, [.ref (g 1), .ref (g 2), .ref (g 3), .ref (g 4), .ref (g 5), .int Y.2.1.1, .int Y.2.2.2.2.2.1.1, .int Y.2.1.2.1, .int Y.2.1.2.2.1, .int Y.2.1.2.2.2.1, .int (bI Y.2.1.2.2.2.2.1), .int Y.2.1.2.2.2.2.2.1, .int (bI Y.2.1.2.2.2.2.2.2), .int Y.2.2.1.1, .int Y.2.2.1.2, .int Y.2.2.2.1.1, .int Y.2.2.2.1.2, .int vf, .int Y.2.2.2.2.1.2.1, .int (bI Y.2.2.2.2.1.2.2), .int Y.2.2.2.2.2.2.1.2, .int Y.2.2.2.2.2.1.2.1, .int Y.2.2.2.2.2.1.2.2, .ref (g 6), .int Y.2.2.2.2.2.2.2.2.2.1, .int Y.2.2.2.2.2.2.2.2.1.2, .ref (g 7), .int Y.2.2.2.2.2.2.2.1.2.2, .ref (g 8), .ref (g 9), .int Y.2.2.2.2.2.2.2.2.2.2])), ((g 1), .inl (cA, 14, .inl Y.1.1)), ((g 2), .inl (cA, 14, .inl Y.1.2.1)), ((g 3), .inl (cA, 14, .inl Y.1.2.2.1)), ((g 4), .inl (cA, 14, .inl Y.1.2.2.2.1)), ((g 5), .inl (cB, 14, .inl Y.1.2.2.2.2)), ((g 6), .inl (cA, 8, .inl Y.2.2.2.2.2.2.1.1)), ((g 7), .inl (cA, 6, .inl Y.2.2.2.2.2.2.2.2.1.1)), ((g 8), .inl (cA, 12, .inl Y.2.2.2.2.2.2.2.1.1)), ((g 9), .inl (cA, 12, .inl Y.2.2.2.2.2.2.2.1.2.1))] → va_S A s.heap H locs → lv_has ls 2 [(1, .int (bI vq)), (0, .ref (g 0))] → W p l e rmX9_tooFast s m ([.ref (g 0)] : List Value).toArray below meth c H locs 0 0 (MQ below (va_Qv (fun u : tMd => u = m_tf Y) (zz_B G vwCl (fun u : tMd => (wMD g cA cB u)) A) A) ([.ref (g 0)] : List Value).toArray s 0 0 A) (F0 m 64 ls [.int vs, .ref (g 0)]) := by
          intro vs hvs H locs ls hP hD hS hl
          refine va_put (D := G) (ci := 9) (v := .int vs) (ty := .int) (C := RX9) (T := TX9) (N := 31) hx hb hts iX9_tooFast_X9 tyX9 tyX9_ok nmX9 hown hK hP hD hS 0 rfl rfl 18 (by decide) (hts _ mX9_tooFast_4) (fun _ h9 => h9) rfl (by decide +kernel) rfl rfl (Nat.le_of_ble_eq_true rfl) dX9_tooFast_64 (fun H locs hP hD hS => ?_)
          have hP : va_P G vwCl [((g 0), .inr (9, [.ref (g 1), .ref (g 2), .ref (g 3), .ref (g 4), .ref (g 5), .int Y.2.1.1, .int Y.2.2.2.2.2.1.1, .int Y.2.1.2.1, .int Y.2.1.2.2.1, .int Y.2.1.2.2.2.1, .int (bI Y.2.1.2.2.2.2.1), .int Y.2.1.2.2.2.2.2.1, .int (bI Y.2.1.2.2.2.2.2.2), .int Y.2.2.1.1, .int Y.2.2.1.2, .int Y.2.2.2.1.1, .int Y.2.2.2.1.2, .int vf, .int vs, .int (bI Y.2.2.2.2.1.2.2), .int Y.2.2.2.2.2.2.1.2, .int Y.2.2.2.2.2.1.2.1, .int Y.2.2.2.2.2.1.2.2, .ref (g 6), .int Y.2.2.2.2.2.2.2.2.2.1, .int Y.2.2.2.2.2.2.2.2.1.2, .ref (g 7), .int Y.2.2.2.2.2.2.2.1.2.2, .ref (g 8), .ref (g 9), .int Y.2.2.2.2.2.2.2.2.2.2])), ((g 1), .inl (cA, 14, .inl Y.1.1)), ((g 2), .inl (cA, 14, .inl Y.1.2.1)), ((g 3), .inl (cA, 14, .inl Y.1.2.2.1)), ((g 4), .inl (cA, 14, .inl Y.1.2.2.2.1)), ((g 5), .inl (cB, 14, .inl Y.1.2.2.2.2)), ((g 6), .inl (cA, 8, .inl Y.2.2.2.2.2.2.1.1)), ((g 7), .inl (cA, 6, .inl Y.2.2.2.2.2.2.2.2.1.1)), ((g 8), .inl (cA, 12, .inl Y.2.2.2.2.2.2.2.1.1)), ((g 9), .inl (cA, 12, .inl Y.2.2.2.2.2.2.2.1.2.1))] H := hP
          have hD : va_D A [((g 0), .inr (9, [.ref (g 1), .ref (g 2), .ref (g 3), .ref (g 4), .ref (g 5), .int Y.2.1.1, .int Y.2.2.2.2.2.1.1, .int Y.2.1.2.1, .int Y.2.1.2.2.1, .int Y.2.1.2.2.2.1, .int (bI Y.2.1.2.2.2.2.1), .int Y.2.1.2.2.2.2.2.1, .int (bI Y.2.1.2.2.2.2.2.2), .int Y.2.2.1.1, .int Y.2.2.1.2, .int Y.2.2.2.1.1, .int Y.2.2.2.1.2, .int vf, .int vs, .int (bI Y.2.2.2.2.1.2.2), .int Y.2.2.2.2.2.2.1.2, .int Y.2.2.2.2.2.1.2.1, .int Y.2.2.2.2.2.1.2.2, .ref (g 6), .int Y.2.2.2.2.2.2.2.2.2.1, .int Y.2.2.2.2.2.2.2.2.1.2, .ref (g 7), .int Y.2.2.2.2.2.2.2.1.2.2, .ref (g 8), .ref (g 9), .int Y.2.2.2.2.2.2.2.2.2.2])), ((g 1), .inl (cA, 14, .inl Y.1.1)), ((g 2), .inl (cA, 14, .inl Y.1.2.1)), ((g 3), .inl (cA, 14, .inl Y.1.2.2.1)), ((g 4), .inl (cA, 14, .inl Y.1.2.2.2.1)), ((g 5), .inl (cB, 14, .inl Y.1.2.2.2.2)), ((g 6), .inl (cA, 8, .inl Y.2.2.2.2.2.2.1.1)), ((g 7), .inl (cA, 6, .inl Y.2.2.2.2.2.2.2.2.1.1)), ((g 8), .inl (cA, 12, .inl Y.2.2.2.2.2.2.2.1.1)), ((g 9), .inl (cA, 12, .inl Y.2.2.2.2.2.2.2.1.2.1))] := hD
          refine lv_aload_n hx hb dX9_tooFast_67 rfl (lv_at hl 1 rfl) ?_
          refine va_get (D := G) (ci := 9) (v := .int vf) (C := RX9) (T := TX9) (N := 31) hx hb hts iX9_tooFast_X9 hown hK hP 0 rfl rfl 17 (by decide) (hts _ mX9_tooFast_3) (fun _ h9 => h9) rfl dX9_tooFast_68 ?_
          refine lv_iconst (v := 5) hx hb dX9_tooFast_71 (by decide) ?_
          have J92_5 : ∀ (X_5 : tMd) (hX_5 : X_5 = m_tf2 Y) (H : Heap) (locs : List Loc) (ls : Array Slot), va_P G vwCl [((g 0), .inr (9, [.ref (g 1), .ref (g 2), .ref (g 3), .ref (g 4), .ref (g 5), .int X_5.2.1.1, .int X_5.2.2.2.2.2.1.1, .int X_5.2.1.2.1, .int X_5.2.1.2.2.1, .int X_5.2.1.2.2.2.1, .int (bI X_5.2.1.2.2.2.2.1), .int X_5.2.1.2.2.2.2.2.1, .int (bI X_5.2.1.2.2.2.2.2.2), .int X_5.2.2.1.1, .int X_5.2.2.1.2, .int X_5.2.2.2.1.1, .int X_5.2.2.2.1.2, .int X_5.2.2.2.2.1.1, .int X_5.2.2.2.2.1.2.1, .int (bI X_5.2.2.2.2.1.2.2), .int X_5.2.2.2.2.2.2.1.2, .int X_5.2.2.2.2.2.1.2.1, .int X_5.2.2.2.2.2.1.2.2, .ref (g 6), .int X_5.2.2.2.2.2.2.2.2.2.1, .int X_5.2.2.2.2.2.2.2.2.1.2, .ref (g 7), .int X_5.2.2.2.2.2.2.2.1.2.2, .ref (g 8), .ref (g 9), .int X_5.2.2.2.2.2.2.2.2.2.2])), ((g 1), .inl (cA, 14, .inl X_5.1.1)), ((g 2), .inl (cA, 14, .inl X_5.1.2.1)), ((g 3), .inl (cA, 14, .inl X_5.1.2.2.1)), ((g 4), .inl (cA, 14, .inl X_5.1.2.2.2.1)), ((g 5), .inl (cB, 14, .inl X_5.1.2.2.2.2)), ((g 6), .inl (cA, 8, .inl X_5.2.2.2.2.2.2.1.1)), ((g 7), .inl (cA, 6, .inl X_5.2.2.2.2.2.2.2.2.1.1)), ((g 8), .inl (cA, 12, .inl X_5.2.2.2.2.2.2.2.1.1)), ((g 9), .inl (cA, 12, .inl X_5.2.2.2.2.2.2.2.1.2.1))] H → va_D A [((g 0), .inr (9, [.ref (g 1), .ref (g 2), .ref (g 3), .ref (g 4), .ref (g 5), .int X_5.2.1.1, .int X_5.2.2.2.2.2.1.1, .int X_5.2.1.2.1, .int X_5.2.1.2.2.1, .int X_5.2.1.2.2.2.1, .int (bI X_5.2.1.2.2.2.2.1), .int X_5.2.1.2.2.2.2.2.1, .int (bI X_5.2.1.2.2.2.2.2.2), .int X_5.2.2.1.1, .int X_5.2.2.1.2, .int X_5.2.2.2.1.1, .int X_5.2.2.2.1.2, .int X_5.2.2.2.2.1.1, .int X_5.2.2.2.2.1.2.1, .int (bI X_5.2.2.2.2.1.2.2), .int X_5.2.2.2.2.2.2.1.2, .int X_5.2.2.2.2.2.1.2.1, .int X_5.2.2.2.2.2.1.2.2, .ref (g 6), .int X_5.2.2.2.2.2.2.2.2.2.1, .int X_5.2.2.2.2.2.2.2.2.1.2, .ref (g 7), .int X_5.2.2.2.2.2.2.2.1.2.2, .ref (g 8), .ref (g 9), .int X_5.2.2.2.2.2.2.2.2.2.2])), ((g 1), .inl (cA, 14, .inl X_5.1.1)), ((g 2), .inl (cA, 14, .inl X_5.1.2.1)), ((g 3), .inl (cA, 14, .inl X_5.1.2.2.1)), ((g 4), .inl (cA, 14, .inl X_5.1.2.2.2.1)), ((g 5), .inl (cB, 14, .inl X_5.1.2.2.2.2)), ((g 6), .inl (cA, 8, .inl X_5.2.2.2.2.2.2.1.1)), ((g 7), .inl (cA, 6, .inl X_5.2.2.2.2.2.2.2.2.1.1)), ((g 8), .inl (cA, 12, .inl X_5.2.2.2.2.2.2.2.1.1)), ((g 9), .inl (cA, 12, .inl X_5.2.2.2.2.2.2.2.1.2.1))] → va_S A s.heap H locs → lv_has ls 2 [(1, .int (bI vq)), (0, .ref (g 0))] → W p l e rmX9_tooFast s m ([.ref (g 0)] : List Value).toArray below meth c H locs 0 0 (MQ below (va_Qv (fun u : tMd => u = m_tf Y) (zz_B G vwCl (fun u : tMd => (wMD g cA cB u)) A) A) ([.ref (g 0)] : List Value).toArray s 0 0 A) (F0 m 92 ls []) := by
            intro X_5 hX_5 H locs ls hP hD hS hl
            have hI2 : mK 1 0 X_5 := by rw [hX_5]; exact mK_tf2 hI
            refine lv_aload_n hx hb dX9_tooFast_92 rfl (lv_at hl 1 rfl) ?_
            refine va_get (D := G) (ci := 9) (v := .int X_5.2.2.2.2.1.2.1) (C := RX9) (T := TX9) (N := 31) hx hb hts iX9_tooFast_X9 hown hK hP 0 rfl rfl 18 (by decide) (hts _ mX9_tooFast_4) (fun _ h9 => h9) rfl dX9_tooFast_93 ?_
            refine lv_iconst (v := 3) hx hb dX9_tooFast_96 (by decide) ?_
            refine lv_icmp_lt (tgt := 117) hx hb dX9_tooFast_97 (by decide) (fun c_6 => ?_) (fun c_6 => ?_)
            · have c_6 := zlt_t c_6
              exact zz_rv (X_5 : tMd) hx hb hr hlocks hS hP hD (by first | (have hX_5 := hX_5.symm; subst hX_5; have hvs := hvs.symm; subst hvs; have hvf := hvf.symm; subst hvf; have hvq := hvq.symm; subst hvq; simp [m_tf, m_tf3, c_1, c_6]; done) | (have hX_5 := hX_5.symm; subst hX_5; have hvs := hvs.symm; subst hvs; have hvf := hvf.symm; subst hvf; have hvq := hvq.symm; subst hvq; symm; (first | refine (if_pos c_1).trans ?_ | refine (if_neg c_1).trans ?_ | refine (if_fb c_1).trans ?_ | skip); (first | refine (if_pos c_6).trans ?_ | refine (if_neg c_6).trans ?_ | refine (if_fb c_6).trans ?_ | skip); rfl) | (have hX_5 := hX_5.symm; subst hX_5; have hvs := hvs.symm; subst hvs; have hvf := hvf.symm; subst hvf; have hvq := hvq.symm; subst hvq; try simp [m_tf, m_tf3] at c_1; try simp [m_tf, m_tf3] at c_6; simp [m_tf, m_tf3, c_1, c_6]; done) | rfl) dX9_tooFast_117
            · have c_6 := zlt_f c_6
              refine lv_aload_n hx hb dX9_tooFast_100 rfl (lv_at hl 1 rfl) ?_
              refine va_get (D := G) (ci := 9) (v := .int (bI X_5.2.2.2.2.1.2.2)) (C := RX9) (T := TX9) (N := 31) hx hb hts iX9_tooFast_X9 hown hK hP 0 rfl rfl 19 (by decide) (hts _ mX9_tooFast_5) (fun _ h9 => h9) rfl dX9_tooFast_101 ?_
              refine lv_if_eq (tgt := 117) hx hb dX9_tooFast_104 (by decide) (fun c_7 => ?_) (fun c_7 => ?_)
              · have c_7 := bI_f c_7
                exact zz_rv (X_5 : tMd) hx hb hr hlocks hS hP hD (by first | (have hX_5 := hX_5.symm; subst hX_5; have hvs := hvs.symm; subst hvs; have hvf := hvf.symm; subst hvf; have hvq := hvq.symm; subst hvq; simp [m_tf, m_tf3, c_1, c_6, c_7]; done) | (have hX_5 := hX_5.symm; subst hX_5; have hvs := hvs.symm; subst hvs; have hvf := hvf.symm; subst hvf; have hvq := hvq.symm; subst hvq; symm; (first | refine (if_pos c_1).trans ?_ | refine (if_neg c_1).trans ?_ | refine (if_fb c_1).trans ?_ | skip); (first | refine (if_pos c_6).trans ?_ | refine (if_neg c_6).trans ?_ | refine (if_fb c_6).trans ?_ | skip); (first | refine (if_pos c_7).trans ?_ | refine (if_neg c_7).trans ?_ | refine (if_fb c_7).trans ?_ | skip); rfl) | (have hX_5 := hX_5.symm; subst hX_5; have hvs := hvs.symm; subst hvs; have hvf := hvf.symm; subst hvf; have hvq := hvq.symm; subst hvq; try simp [m_tf, m_tf3] at c_1; try simp [m_tf, m_tf3] at c_6; try simp [m_tf, m_tf3] at c_7; simp [m_tf, m_tf3, c_1, c_6, c_7]; done) | rfl) dX9_tooFast_117
              · have c_7 := bI_t c_7
                refine lv_aload_n hx hb dX9_tooFast_107 rfl (lv_at hl 1 rfl) ?_
                refine lv_iconst (v := 0) hx hb dX9_tooFast_108 (by decide) ?_
                refine va_put (D := G) (ci := 9) (v := .int 0) (ty := .boolean) (C := RX9) (T := TX9) (N := 31) hx hb hts iX9_tooFast_X9 tyX9 tyX9_ok nmX9 hown hK hP hD hS 0 rfl rfl 19 (by decide) (hts _ mX9_tooFast_5) (fun _ h9 => h9) rfl (by decide +kernel) rfl rfl (Nat.le_of_ble_eq_true rfl) dX9_tooFast_109 (fun H locs hP hD hS => ?_)
                have hP : va_P G vwCl [((g 0), .inr (9, [.ref (g 1), .ref (g 2), .ref (g 3), .ref (g 4), .ref (g 5), .int X_5.2.1.1, .int X_5.2.2.2.2.2.1.1, .int X_5.2.1.2.1, .int X_5.2.1.2.2.1, .int X_5.2.1.2.2.2.1, .int (bI X_5.2.1.2.2.2.2.1), .int X_5.2.1.2.2.2.2.2.1, .int (bI X_5.2.1.2.2.2.2.2.2), .int X_5.2.2.1.1, .int X_5.2.2.1.2, .int X_5.2.2.2.1.1, .int X_5.2.2.2.1.2, .int X_5.2.2.2.2.1.1, .int X_5.2.2.2.2.1.2.1, .int (bI false), .int X_5.2.2.2.2.2.2.1.2, .int X_5.2.2.2.2.2.1.2.1, .int X_5.2.2.2.2.2.1.2.2, .ref (g 6), .int X_5.2.2.2.2.2.2.2.2.2.1, .int X_5.2.2.2.2.2.2.2.2.1.2, .ref (g 7), .int X_5.2.2.2.2.2.2.2.1.2.2, .ref (g 8), .ref (g 9), .int X_5.2.2.2.2.2.2.2.2.2.2])), ((g 1), .inl (cA, 14, .inl X_5.1.1)), ((g 2), .inl (cA, 14, .inl X_5.1.2.1)), ((g 3), .inl (cA, 14, .inl X_5.1.2.2.1)), ((g 4), .inl (cA, 14, .inl X_5.1.2.2.2.1)), ((g 5), .inl (cB, 14, .inl X_5.1.2.2.2.2)), ((g 6), .inl (cA, 8, .inl X_5.2.2.2.2.2.2.1.1)), ((g 7), .inl (cA, 6, .inl X_5.2.2.2.2.2.2.2.2.1.1)), ((g 8), .inl (cA, 12, .inl X_5.2.2.2.2.2.2.2.1.1)), ((g 9), .inl (cA, 12, .inl X_5.2.2.2.2.2.2.2.1.2.1))] H := hP
                have hD : va_D A [((g 0), .inr (9, [.ref (g 1), .ref (g 2), .ref (g 3), .ref (g 4), .ref (g 5), .int X_5.2.1.1, .int X_5.2.2.2.2.2.1.1, .int X_5.2.1.2.1, .int X_5.2.1.2.2.1, .int X_5.2.1.2.2.2.1, .int (bI X_5.2.1.2.2.2.2.1), .int X_5.2.1.2.2.2.2.2.1, .int (bI X_5.2.1.2.2.2.2.2.2), .int X_5.2.2.1.1, .int X_5.2.2.1.2, .int X_5.2.2.2.1.1, .int X_5.2.2.2.1.2, .int X_5.2.2.2.2.1.1, .int X_5.2.2.2.2.1.2.1, .int (bI false), .int X_5.2.2.2.2.2.2.1.2, .int X_5.2.2.2.2.2.1.2.1, .int X_5.2.2.2.2.2.1.2.2, .ref (g 6), .int X_5.2.2.2.2.2.2.2.2.2.1, .int X_5.2.2.2.2.2.2.2.2.1.2, .ref (g 7), .int X_5.2.2.2.2.2.2.2.1.2.2, .ref (g 8), .ref (g 9), .int X_5.2.2.2.2.2.2.2.2.2.2])), ((g 1), .inl (cA, 14, .inl X_5.1.1)), ((g 2), .inl (cA, 14, .inl X_5.1.2.1)), ((g 3), .inl (cA, 14, .inl X_5.1.2.2.1)), ((g 4), .inl (cA, 14, .inl X_5.1.2.2.2.1)), ((g 5), .inl (cB, 14, .inl X_5.1.2.2.2.2)), ((g 6), .inl (cA, 8, .inl X_5.2.2.2.2.2.2.1.1)), ((g 7), .inl (cA, 6, .inl X_5.2.2.2.2.2.2.2.2.1.1)), ((g 8), .inl (cA, 12, .inl X_5.2.2.2.2.2.2.2.1.1)), ((g 9), .inl (cA, 12, .inl X_5.2.2.2.2.2.2.2.1.2.1))] := hD
                refine lv_aload_n hx hb dX9_tooFast_112 rfl (lv_at hl 1 rfl) ?_
                refine lv_iconst (v := 5) hx hb dX9_tooFast_113 (by decide) ?_
                refine zz_cv (wr := []) (va_runV (As := [.int 5]) (rest := []) ⟨hx, hb, hml, hown, hts⟩ (kX9_mark l G cA cB tb g H.size (X_5.1, X_5.2.1, X_5.2.2.1, X_5.2.2.2.1, (X_5.2.2.2.2.1.1, X_5.2.2.2.2.1.2.1, false), X_5.2.2.2.2.2.1, X_5.2.2.2.2.2.2.1, X_5.2.2.2.2.2.2.2.1, X_5.2.2.2.2.2.2.2.2.1, X_5.2.2.2.2.2.2.2.2.2) 5 (by exact hI2)) (cwV 1 hts gX9_tooFast_X9_mark rfl rfl rfl (by decide +kernel) ⟨Nat.le_of_ble_eq_true rfl, Nat.le_of_ble_eq_true rfl⟩) (zz_preV zS_ok hK hP hD hS hA hz [0, 1, 2, 3, 4, 5, 6, 7, 8, 9] rfl (by decide) (ci := 9) (q0 := 0) (C := RX9) rfl rfl) rfl rfl hl.1 rfl (lv_room (Nat.le_of_ble_eq_true rfl)) dX9_tooFast_114 ⟨Nat.zero_le _, Nat.zero_le _⟩) hP hD hS hA [0, 1, 2, 3, 4, 5, 6, 7, 8, 9] [] rfl rfl (by decide) (by decide) (fun X_8 H locs hX_8 hP hD hS => ?_)
                have hP : va_P G vwCl [((g 0), .inr (9, [.ref (g 1), .ref (g 2), .ref (g 3), .ref (g 4), .ref (g 5), .int X_8.2.1.1, .int X_8.2.2.2.2.2.1.1, .int X_8.2.1.2.1, .int X_8.2.1.2.2.1, .int X_8.2.1.2.2.2.1, .int (bI X_8.2.1.2.2.2.2.1), .int X_8.2.1.2.2.2.2.2.1, .int (bI X_8.2.1.2.2.2.2.2.2), .int X_8.2.2.1.1, .int X_8.2.2.1.2, .int X_8.2.2.2.1.1, .int X_8.2.2.2.1.2, .int X_8.2.2.2.2.1.1, .int X_8.2.2.2.2.1.2.1, .int (bI X_8.2.2.2.2.1.2.2), .int X_8.2.2.2.2.2.2.1.2, .int X_8.2.2.2.2.2.1.2.1, .int X_8.2.2.2.2.2.1.2.2, .ref (g 6), .int X_8.2.2.2.2.2.2.2.2.2.1, .int X_8.2.2.2.2.2.2.2.2.1.2, .ref (g 7), .int X_8.2.2.2.2.2.2.2.1.2.2, .ref (g 8), .ref (g 9), .int X_8.2.2.2.2.2.2.2.2.2.2])), ((g 1), .inl (cA, 14, .inl X_8.1.1)), ((g 2), .inl (cA, 14, .inl X_8.1.2.1)), ((g 3), .inl (cA, 14, .inl X_8.1.2.2.1)), ((g 4), .inl (cA, 14, .inl X_8.1.2.2.2.1)), ((g 5), .inl (cB, 14, .inl X_8.1.2.2.2.2)), ((g 6), .inl (cA, 8, .inl X_8.2.2.2.2.2.2.1.1)), ((g 7), .inl (cA, 6, .inl X_8.2.2.2.2.2.2.2.2.1.1)), ((g 8), .inl (cA, 12, .inl X_8.2.2.2.2.2.2.2.1.1)), ((g 9), .inl (cA, 12, .inl X_8.2.2.2.2.2.2.2.1.2.1))] H := hP
                have hD : va_D A [((g 0), .inr (9, [.ref (g 1), .ref (g 2), .ref (g 3), .ref (g 4), .ref (g 5), .int X_8.2.1.1, .int X_8.2.2.2.2.2.1.1, .int X_8.2.1.2.1, .int X_8.2.1.2.2.1, .int X_8.2.1.2.2.2.1, .int (bI X_8.2.1.2.2.2.2.1), .int X_8.2.1.2.2.2.2.2.1, .int (bI X_8.2.1.2.2.2.2.2.2), .int X_8.2.2.1.1, .int X_8.2.2.1.2, .int X_8.2.2.2.1.1, .int X_8.2.2.2.1.2, .int X_8.2.2.2.2.1.1, .int X_8.2.2.2.2.1.2.1, .int (bI X_8.2.2.2.2.1.2.2), .int X_8.2.2.2.2.2.2.1.2, .int X_8.2.2.2.2.2.1.2.1, .int X_8.2.2.2.2.2.1.2.2, .ref (g 6), .int X_8.2.2.2.2.2.2.2.2.2.1, .int X_8.2.2.2.2.2.2.2.2.1.2, .ref (g 7), .int X_8.2.2.2.2.2.2.2.1.2.2, .ref (g 8), .ref (g 9), .int X_8.2.2.2.2.2.2.2.2.2.2])), ((g 1), .inl (cA, 14, .inl X_8.1.1)), ((g 2), .inl (cA, 14, .inl X_8.1.2.1)), ((g 3), .inl (cA, 14, .inl X_8.1.2.2.1)), ((g 4), .inl (cA, 14, .inl X_8.1.2.2.2.1)), ((g 5), .inl (cB, 14, .inl X_8.1.2.2.2.2)), ((g 6), .inl (cA, 8, .inl X_8.2.2.2.2.2.2.1.1)), ((g 7), .inl (cA, 6, .inl X_8.2.2.2.2.2.2.2.2.1.1)), ((g 8), .inl (cA, 12, .inl X_8.2.2.2.2.2.2.2.1.1)), ((g 9), .inl (cA, 12, .inl X_8.2.2.2.2.2.2.2.1.2.1))] := hD
                exact zz_rv (X_8 : tMd) hx hb hr hlocks hS hP hD (by first | (have hX_8 := hX_8.symm; subst hX_8; have hX_5 := hX_5.symm; subst hX_5; have hvs := hvs.symm; subst hvs; have hvf := hvf.symm; subst hvf; have hvq := hvq.symm; subst hvq; simp [m_tf, m_tf3, c_1, c_6, c_7]; done) | (have hX_8 := hX_8.symm; subst hX_8; have hX_5 := hX_5.symm; subst hX_5; have hvs := hvs.symm; subst hvs; have hvf := hvf.symm; subst hvf; have hvq := hvq.symm; subst hvq; symm; (first | refine (if_pos c_1).trans ?_ | refine (if_neg c_1).trans ?_ | refine (if_fb c_1).trans ?_ | skip); (first | refine (if_pos c_6).trans ?_ | refine (if_neg c_6).trans ?_ | refine (if_fb c_6).trans ?_ | skip); (first | refine (if_pos c_7).trans ?_ | refine (if_neg c_7).trans ?_ | refine (if_fb c_7).trans ?_ | skip); rfl) | (have hX_8 := hX_8.symm; subst hX_8; have hX_5 := hX_5.symm; subst hX_5; have hvs := hvs.symm; subst hvs; have hvf := hvf.symm; subst hvf; have hvq := hvq.symm; subst hvq; try simp [m_tf, m_tf3] at c_1; try simp [m_tf, m_tf3] at c_6; try simp [m_tf, m_tf3] at c_7; simp [m_tf, m_tf3, c_1, c_6, c_7]; done) | rfl) dX9_tooFast_117
          refine lv_icmp_lt (tgt := 92) hx hb dX9_tooFast_72 (by decide) (fun c_9 => ?_) (fun c_9 => ?_)
          · have c_9 := zlt_t c_9
            exact J92_5 ((Y.1, Y.2.1, Y.2.2.1, Y.2.2.2.1, (vf, vs, Y.2.2.2.2.1.2.2), Y.2.2.2.2.2.1, Y.2.2.2.2.2.2.1, Y.2.2.2.2.2.2.2.1, Y.2.2.2.2.2.2.2.2.1, Y.2.2.2.2.2.2.2.2.2)) (by first | (have hvs := hvs.symm; subst hvs; have hvf := hvf.symm; subst hvf; have hvq := hvq.symm; subst hvq; simp [m_tf2, m_tf1, c_1, c_9]; done) | (have hvs := hvs.symm; subst hvs; have hvf := hvf.symm; subst hvf; have hvq := hvq.symm; subst hvq; symm; (first | refine (if_pos c_1).trans ?_ | refine (if_neg c_1).trans ?_ | refine (if_fb c_1).trans ?_ | skip); (first | refine (if_pos c_9).trans ?_ | refine (if_neg c_9).trans ?_ | refine (if_fb c_9).trans ?_ | skip); rfl) | (have hvs := hvs.symm; subst hvs; have hvf := hvf.symm; subst hvf; have hvq := hvq.symm; subst hvq; try simp [m_tf2, m_tf1] at c_1; try simp [m_tf2, m_tf1] at c_9; simp [m_tf2, m_tf1, c_1, c_9]; done) | rfl) _ _ _ hP hD hS hl
          · have c_9 := zlt_f c_9
            refine lv_aload_n hx hb dX9_tooFast_75 rfl (lv_at hl 1 rfl) ?_
            refine va_get (D := G) (ci := 9) (v := .int (bI Y.2.2.2.2.1.2.2)) (C := RX9) (T := TX9) (N := 31) hx hb hts iX9_tooFast_X9 hown hK hP 0 rfl rfl 19 (by decide) (hts _ mX9_tooFast_5) (fun _ h9 => h9) rfl dX9_tooFast_76 ?_
            refine lv_if_ne (tgt := 92) hx hb dX9_tooFast_79 (by decide) (fun c_10 => ?_) (fun c_10 => ?_)
            · have c_10 := bI_t c_10
              exact J92_5 ((Y.1, Y.2.1, Y.2.2.1, Y.2.2.2.1, (vf, vs, Y.2.2.2.2.1.2.2), Y.2.2.2.2.2.1, Y.2.2.2.2.2.2.1, Y.2.2.2.2.2.2.2.1, Y.2.2.2.2.2.2.2.2.1, Y.2.2.2.2.2.2.2.2.2)) (by first | (have hvs := hvs.symm; subst hvs; have hvf := hvf.symm; subst hvf; have hvq := hvq.symm; subst hvq; simp [m_tf2, m_tf1, c_1, c_9, c_10]; done) | (have hvs := hvs.symm; subst hvs; have hvf := hvf.symm; subst hvf; have hvq := hvq.symm; subst hvq; symm; (first | refine (if_pos c_1).trans ?_ | refine (if_neg c_1).trans ?_ | refine (if_fb c_1).trans ?_ | skip); (first | refine (if_pos c_9).trans ?_ | refine (if_neg c_9).trans ?_ | refine (if_fb c_9).trans ?_ | skip); (first | refine (if_pos c_10).trans ?_ | refine (if_neg c_10).trans ?_ | refine (if_fb c_10).trans ?_ | skip); rfl) | (have hvs := hvs.symm; subst hvs; have hvf := hvf.symm; subst hvf; have hvq := hvq.symm; subst hvq; try simp [m_tf2, m_tf1] at c_1; try simp [m_tf2, m_tf1] at c_9; try simp [m_tf2, m_tf1] at c_10; simp [m_tf2, m_tf1, c_1, c_9, c_10]; done) | rfl) _ _ _ hP hD hS hl
            · have c_10 := bI_f c_10
              refine lv_aload_n hx hb dX9_tooFast_82 rfl (lv_at hl 1 rfl) ?_
              refine lv_iconst (v := 1) hx hb dX9_tooFast_83 (by decide) ?_
              refine va_put (D := G) (ci := 9) (v := .int 1) (ty := .boolean) (C := RX9) (T := TX9) (N := 31) hx hb hts iX9_tooFast_X9 tyX9 tyX9_ok nmX9 hown hK hP hD hS 0 rfl rfl 19 (by decide) (hts _ mX9_tooFast_5) (fun _ h9 => h9) rfl (by decide +kernel) rfl rfl (Nat.le_of_ble_eq_true rfl) dX9_tooFast_84 (fun H locs hP hD hS => ?_)
              have hP : va_P G vwCl [((g 0), .inr (9, [.ref (g 1), .ref (g 2), .ref (g 3), .ref (g 4), .ref (g 5), .int Y.2.1.1, .int Y.2.2.2.2.2.1.1, .int Y.2.1.2.1, .int Y.2.1.2.2.1, .int Y.2.1.2.2.2.1, .int (bI Y.2.1.2.2.2.2.1), .int Y.2.1.2.2.2.2.2.1, .int (bI Y.2.1.2.2.2.2.2.2), .int Y.2.2.1.1, .int Y.2.2.1.2, .int Y.2.2.2.1.1, .int Y.2.2.2.1.2, .int vf, .int vs, .int (bI true), .int Y.2.2.2.2.2.2.1.2, .int Y.2.2.2.2.2.1.2.1, .int Y.2.2.2.2.2.1.2.2, .ref (g 6), .int Y.2.2.2.2.2.2.2.2.2.1, .int Y.2.2.2.2.2.2.2.2.1.2, .ref (g 7), .int Y.2.2.2.2.2.2.2.1.2.2, .ref (g 8), .ref (g 9), .int Y.2.2.2.2.2.2.2.2.2.2])), ((g 1), .inl (cA, 14, .inl Y.1.1)), ((g 2), .inl (cA, 14, .inl Y.1.2.1)), ((g 3), .inl (cA, 14, .inl Y.1.2.2.1)), ((g 4), .inl (cA, 14, .inl Y.1.2.2.2.1)), ((g 5), .inl (cB, 14, .inl Y.1.2.2.2.2)), ((g 6), .inl (cA, 8, .inl Y.2.2.2.2.2.2.1.1)), ((g 7), .inl (cA, 6, .inl Y.2.2.2.2.2.2.2.2.1.1)), ((g 8), .inl (cA, 12, .inl Y.2.2.2.2.2.2.2.1.1)), ((g 9), .inl (cA, 12, .inl Y.2.2.2.2.2.2.2.1.2.1))] H := hP
              have hD : va_D A [((g 0), .inr (9, [.ref (g 1), .ref (g 2), .ref (g 3), .ref (g 4), .ref (g 5), .int Y.2.1.1, .int Y.2.2.2.2.2.1.1, .int Y.2.1.2.1, .int Y.2.1.2.2.1, .int Y.2.1.2.2.2.1, .int (bI Y.2.1.2.2.2.2.1), .int Y.2.1.2.2.2.2.2.1, .int (bI Y.2.1.2.2.2.2.2.2), .int Y.2.2.1.1, .int Y.2.2.1.2, .int Y.2.2.2.1.1, .int Y.2.2.2.1.2, .int vf, .int vs, .int (bI true), .int Y.2.2.2.2.2.2.1.2, .int Y.2.2.2.2.2.1.2.1, .int Y.2.2.2.2.2.1.2.2, .ref (g 6), .int Y.2.2.2.2.2.2.2.2.2.1, .int Y.2.2.2.2.2.2.2.2.1.2, .ref (g 7), .int Y.2.2.2.2.2.2.2.1.2.2, .ref (g 8), .ref (g 9), .int Y.2.2.2.2.2.2.2.2.2.2])), ((g 1), .inl (cA, 14, .inl Y.1.1)), ((g 2), .inl (cA, 14, .inl Y.1.2.1)), ((g 3), .inl (cA, 14, .inl Y.1.2.2.1)), ((g 4), .inl (cA, 14, .inl Y.1.2.2.2.1)), ((g 5), .inl (cB, 14, .inl Y.1.2.2.2.2)), ((g 6), .inl (cA, 8, .inl Y.2.2.2.2.2.2.1.1)), ((g 7), .inl (cA, 6, .inl Y.2.2.2.2.2.2.2.2.1.1)), ((g 8), .inl (cA, 12, .inl Y.2.2.2.2.2.2.2.1.1)), ((g 9), .inl (cA, 12, .inl Y.2.2.2.2.2.2.2.1.2.1))] := hD
              refine lv_aload_n hx hb dX9_tooFast_87 rfl (lv_at hl 1 rfl) ?_
              refine lv_iconst (v := 4) hx hb dX9_tooFast_88 (by decide) ?_
              refine zz_cv (wr := []) (va_runV (As := [.int 4]) (rest := []) ⟨hx, hb, hml, hown, hts⟩ (kX9_mark l G cA cB tb g H.size (Y.1, Y.2.1, Y.2.2.1, Y.2.2.2.1, (vf, vs, true), Y.2.2.2.2.2.1, Y.2.2.2.2.2.2.1, Y.2.2.2.2.2.2.2.1, Y.2.2.2.2.2.2.2.2.1, Y.2.2.2.2.2.2.2.2.2) 4 (by exact (mK_le hI (by decide) (by decide) : mK 1 0 Y))) (cwV 1 hts gX9_tooFast_X9_mark rfl rfl rfl (by decide +kernel) ⟨Nat.le_of_ble_eq_true rfl, Nat.le_of_ble_eq_true rfl⟩) (zz_preV zS_ok hK hP hD hS hA hz [0, 1, 2, 3, 4, 5, 6, 7, 8, 9] rfl (by decide) (ci := 9) (q0 := 0) (C := RX9) rfl rfl) rfl rfl hl.1 rfl (lv_room (Nat.le_of_ble_eq_true rfl)) dX9_tooFast_89 ⟨Nat.zero_le _, Nat.zero_le _⟩) hP hD hS hA [0, 1, 2, 3, 4, 5, 6, 7, 8, 9] [] rfl rfl (by decide) (by decide) (fun X_11 H locs hX_11 hP hD hS => ?_)
              have hP : va_P G vwCl [((g 0), .inr (9, [.ref (g 1), .ref (g 2), .ref (g 3), .ref (g 4), .ref (g 5), .int X_11.2.1.1, .int X_11.2.2.2.2.2.1.1, .int X_11.2.1.2.1, .int X_11.2.1.2.2.1, .int X_11.2.1.2.2.2.1, .int (bI X_11.2.1.2.2.2.2.1), .int X_11.2.1.2.2.2.2.2.1, .int (bI X_11.2.1.2.2.2.2.2.2), .int X_11.2.2.1.1, .int X_11.2.2.1.2, .int X_11.2.2.2.1.1, .int X_11.2.2.2.1.2, .int X_11.2.2.2.2.1.1, .int X_11.2.2.2.2.1.2.1, .int (bI X_11.2.2.2.2.1.2.2), .int X_11.2.2.2.2.2.2.1.2, .int X_11.2.2.2.2.2.1.2.1, .int X_11.2.2.2.2.2.1.2.2, .ref (g 6), .int X_11.2.2.2.2.2.2.2.2.2.1, .int X_11.2.2.2.2.2.2.2.2.1.2, .ref (g 7), .int X_11.2.2.2.2.2.2.2.1.2.2, .ref (g 8), .ref (g 9), .int X_11.2.2.2.2.2.2.2.2.2.2])), ((g 1), .inl (cA, 14, .inl X_11.1.1)), ((g 2), .inl (cA, 14, .inl X_11.1.2.1)), ((g 3), .inl (cA, 14, .inl X_11.1.2.2.1)), ((g 4), .inl (cA, 14, .inl X_11.1.2.2.2.1)), ((g 5), .inl (cB, 14, .inl X_11.1.2.2.2.2)), ((g 6), .inl (cA, 8, .inl X_11.2.2.2.2.2.2.1.1)), ((g 7), .inl (cA, 6, .inl X_11.2.2.2.2.2.2.2.2.1.1)), ((g 8), .inl (cA, 12, .inl X_11.2.2.2.2.2.2.2.1.1)), ((g 9), .inl (cA, 12, .inl X_11.2.2.2.2.2.2.2.1.2.1))] H := hP
              have hD : va_D A [((g 0), .inr (9, [.ref (g 1), .ref (g 2), .ref (g 3), .ref (g 4), .ref (g 5), .int X_11.2.1.1, .int X_11.2.2.2.2.2.1.1, .int X_11.2.1.2.1, .int X_11.2.1.2.2.1, .int X_11.2.1.2.2.2.1, .int (bI X_11.2.1.2.2.2.2.1), .int X_11.2.1.2.2.2.2.2.1, .int (bI X_11.2.1.2.2.2.2.2.2), .int X_11.2.2.1.1, .int X_11.2.2.1.2, .int X_11.2.2.2.1.1, .int X_11.2.2.2.1.2, .int X_11.2.2.2.2.1.1, .int X_11.2.2.2.2.1.2.1, .int (bI X_11.2.2.2.2.1.2.2), .int X_11.2.2.2.2.2.2.1.2, .int X_11.2.2.2.2.2.1.2.1, .int X_11.2.2.2.2.2.1.2.2, .ref (g 6), .int X_11.2.2.2.2.2.2.2.2.2.1, .int X_11.2.2.2.2.2.2.2.2.1.2, .ref (g 7), .int X_11.2.2.2.2.2.2.2.1.2.2, .ref (g 8), .ref (g 9), .int X_11.2.2.2.2.2.2.2.2.2.2])), ((g 1), .inl (cA, 14, .inl X_11.1.1)), ((g 2), .inl (cA, 14, .inl X_11.1.2.1)), ((g 3), .inl (cA, 14, .inl X_11.1.2.2.1)), ((g 4), .inl (cA, 14, .inl X_11.1.2.2.2.1)), ((g 5), .inl (cB, 14, .inl X_11.1.2.2.2.2)), ((g 6), .inl (cA, 8, .inl X_11.2.2.2.2.2.2.1.1)), ((g 7), .inl (cA, 6, .inl X_11.2.2.2.2.2.2.2.2.1.1)), ((g 8), .inl (cA, 12, .inl X_11.2.2.2.2.2.2.2.1.1)), ((g 9), .inl (cA, 12, .inl X_11.2.2.2.2.2.2.2.1.2.1))] := hD
              exact J92_5 (X_11) (by first | (have hX_11 := hX_11.symm; subst hX_11; have hvs := hvs.symm; subst hvs; have hvf := hvf.symm; subst hvf; have hvq := hvq.symm; subst hvq; simp [m_tf2, m_tf1, c_1, c_9, c_10]; done) | (have hX_11 := hX_11.symm; subst hX_11; have hvs := hvs.symm; subst hvs; have hvf := hvf.symm; subst hvf; have hvq := hvq.symm; subst hvq; symm; (first | refine (if_pos c_1).trans ?_ | refine (if_neg c_1).trans ?_ | refine (if_fb c_1).trans ?_ | skip); (first | refine (if_pos c_9).trans ?_ | refine (if_neg c_9).trans ?_ | refine (if_fb c_9).trans ?_ | skip); (first | refine (if_pos c_10).trans ?_ | refine (if_neg c_10).trans ?_ | refine (if_fb c_10).trans ?_ | skip); rfl) | (have hX_11 := hX_11.symm; subst hX_11; have hvs := hvs.symm; subst hvs; have hvf := hvf.symm; subst hvf; have hvq := hvq.symm; subst hvq; try simp [m_tf2, m_tf1] at c_1; try simp [m_tf2, m_tf1] at c_9; try simp [m_tf2, m_tf1] at c_10; simp [m_tf2, m_tf1, c_1, c_9, c_10]; done) | rfl) _ _ _ hP hD hS hl
        refine lv_if_eq (tgt := 58) hx hb dX9_tooFast_51 (by decide) (fun c_12 => ?_) (fun c_12 => ?_)
        · have c_12 := bI_f c_12
          refine lv_aload_n hx hb dX9_tooFast_58 rfl (lv_at hl 1 rfl) ?_
          refine va_get (D := G) (ci := 9) (v := .int Y.2.2.2.2.1.2.1) (C := RX9) (T := TX9) (N := 31) hx hb hts iX9_tooFast_X9 hown hK hP 0 rfl rfl 18 (by decide) (hts _ mX9_tooFast_4) (fun _ h9 => h9) rfl dX9_tooFast_59 ?_
          refine lv_iconst (v := 1) hx hb dX9_tooFast_62 (by decide) ?_
          refine lv_iadd hx hb dX9_tooFast_63 ?_
          exact J64_4 ((Y.2.2.2.2.1.2.1 + 1)) (by first | (have hvf := hvf.symm; subst hvf; have hvq := hvq.symm; subst hvq; simp [c_1, c_12]; done) | (have hvf := hvf.symm; subst hvf; have hvq := hvq.symm; subst hvq; symm; (first | refine (if_pos c_1).trans ?_ | refine (if_neg c_1).trans ?_ | refine (if_fb c_1).trans ?_ | skip); (first | refine (if_pos c_12).trans ?_ | refine (if_neg c_12).trans ?_ | refine (if_fb c_12).trans ?_ | skip); rfl) | (have hvf := hvf.symm; subst hvf; have hvq := hvq.symm; subst hvq; skip; skip; simp [c_1, c_12]; done) | rfl) _ _ _ hP hD hS hl
        · have c_12 := bI_t c_12
          refine lv_iconst (v := 0) hx hb dX9_tooFast_54 (by decide) ?_
          refine lv_goto (tgt := 64) hx hb dX9_tooFast_55 (by decide) ?_
          exact J64_4 (0) (by first | (have hvf := hvf.symm; subst hvf; have hvq := hvq.symm; subst hvq; simp [c_1, c_12]; done) | (have hvf := hvf.symm; subst hvf; have hvq := hvq.symm; subst hvq; symm; (first | refine (if_pos c_1).trans ?_ | refine (if_neg c_1).trans ?_ | refine (if_fb c_1).trans ?_ | skip); (first | refine (if_pos c_12).trans ?_ | refine (if_neg c_12).trans ?_ | refine (if_fb c_12).trans ?_ | skip); rfl) | (have hvf := hvf.symm; subst hvf; have hvq := hvq.symm; subst hvq; skip; skip; simp [c_1, c_12]; done) | rfl) _ _ _ hP hD hS hl
      refine lv_if_eq (tgt := 45) hx hb dX9_tooFast_33 (by decide) (fun c_13 => ?_) (fun c_13 => ?_)
      · have c_13 := bI_f c_13
        refine lv_iconst (v := 0) hx hb dX9_tooFast_45 (by decide) ?_
        exact J46_3 (0) (by first | (have hvq := hvq.symm; subst hvq; simp [c_1, c_13]; done) | (have hvq := hvq.symm; subst hvq; symm; (first | refine (if_pos c_1).trans ?_ | refine (if_neg c_1).trans ?_ | refine (if_fb c_1).trans ?_ | skip); (first | refine (if_pos c_13).trans ?_ | refine (if_neg c_13).trans ?_ | refine (if_fb c_13).trans ?_ | skip); rfl) | (have hvq := hvq.symm; subst hvq; skip; skip; simp [c_1, c_13]; done) | rfl) _ _ _ hP hD hS hl
      · have c_13 := bI_t c_13
        refine lv_aload_n hx hb dX9_tooFast_36 rfl (lv_at hl 1 rfl) ?_
        refine va_get (D := G) (ci := 9) (v := .int Y.2.2.2.2.1.1) (C := RX9) (T := TX9) (N := 31) hx hb hts iX9_tooFast_X9 hown hK hP 0 rfl rfl 17 (by decide) (hts _ mX9_tooFast_3) (fun _ h9 => h9) rfl dX9_tooFast_37 ?_
        refine lv_iconst (v := 1) hx hb dX9_tooFast_40 (by decide) ?_
        refine lv_iadd hx hb dX9_tooFast_41 ?_
        refine lv_goto (tgt := 46) hx hb dX9_tooFast_42 (by decide) ?_
        exact J46_3 ((Y.2.2.2.2.1.1 + 1)) (by first | (have hvq := hvq.symm; subst hvq; simp [c_1, c_13]; done) | (have hvq := hvq.symm; subst hvq; symm; (first | refine (if_pos c_1).trans ?_ | refine (if_neg c_1).trans ?_ | refine (if_fb c_1).trans ?_ | skip); (first | refine (if_pos c_13).trans ?_ | refine (if_neg c_13).trans ?_ | refine (if_fb c_13).trans ?_ | skip); rfl) | (have hvq := hvq.symm; subst hvq; skip; skip; simp [c_1, c_13]; done) | rfl) _ _ _ hP hD hS hl
    refine lv_icmp_ge (tgt := 29) hx hb dX9_tooFast_22 (by decide) (fun c_14 => ?_) (fun c_14 => ?_)
    · have c_14 := zle_t c_14
      refine lv_iconst (v := 0) hx hb dX9_tooFast_29 (by decide) ?_
      exact J30_2 (false) (by first | (simp [m_quick, c_1, c_14]; done) | (symm; (first | refine (if_pos c_1).trans ?_ | refine (if_neg c_1).trans ?_ | refine (if_fb c_1).trans ?_ | skip); (first | refine (if_pos c_14).trans ?_ | refine (if_neg c_14).trans ?_ | refine (if_fb c_14).trans ?_ | skip); rfl) | (try simp [m_quick] at c_1; try simp [m_quick] at c_14; simp [m_quick, c_1, c_14]; done) | rfl) _ _ _ hP hD hS hl
    · have c_14 := zle_f c_14
      refine lv_iconst (v := 1) hx hb dX9_tooFast_25 (by decide) ?_
      refine lv_goto (tgt := 30) hx hb dX9_tooFast_26 (by decide) ?_
      exact J30_2 (true) (by first | (simp [m_quick, c_1, c_14]; done) | (symm; (first | refine (if_pos c_1).trans ?_ | refine (if_neg c_1).trans ?_ | refine (if_fb c_1).trans ?_ | skip); (first | refine (if_pos c_14).trans ?_ | refine (if_neg c_14).trans ?_ | refine (if_fb c_14).trans ?_ | skip); rfl) | (try simp [m_quick] at c_1; try simp [m_quick] at c_14; simp [m_quick, c_1, c_14]; done) | rfl) _ _ _ hP hD hS hl
  · have c_1 := bI_f c_1
    exact zz_rv (Y : tMd) hx hb hr hlocks hS hP hD (by first | (simp [m_tf, m_tf3, c_1]; done) | (symm; (first | refine (if_pos c_1).trans ?_ | refine (if_neg c_1).trans ?_ | refine (if_fb c_1).trans ?_ | skip); rfl) | (try simp [m_tf, m_tf3] at c_1; simp [m_tf, m_tf3, c_1]; done) | rfl) dX9_tooFast_10

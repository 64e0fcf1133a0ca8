theorem zle_zlt (a b : Int32) : zle a b = !zlt b a := by
  rw [zle_d, zlt_d]
  by_cases h : b < a
  · have : ¬ a ≤ b := fun q => by rw [Int32.lt_iff_toInt_lt] at h; rw [Int32.le_iff_toInt_le] at q; omega
    simp [h, this]
  · have : a ≤ b := by rw [Int32.le_iff_toInt_le]; exact Int.not_lt.mp (fun q => h (Int32.lt_iff_toInt_lt.mpr q))
    simp [h, this]
theorem r_gap {x g : Int32} : x + (g - x) = g := by
  apply Int32.toBitVec_inj.mp
  simp only [Int32.toBitVec_add, Int32.toBitVec_sub]
  rw [BitVec.add_comm, BitVec.sub_add_cancel]
theorem r_int {X : tCP} {Y : tMd} (hS : r_S X.1 Y) (hP : r_P X.2.2.2.2.2.1 Y) : (k_appr (k_inF X.1 1) (k_inF X.1 12) X.2.2.2.2.2.1).2.1 = m_int Y := by
  obtain ⟨p1, p2, p3⟩ := hP
  have eg : k_goal (k_inF X.1 1) (k_inF X.1 12) X.2.2.2.2.2.1.1 = m_goal Y := by
    unfold k_goal m_goal
    rw [r_inFn hS (x := 1) (by decide : 1 < 14) rfl, r_inFn hS (x := 12) (by decide : 12 < 14) rfl, p1]
  show X.2.2.2.2.2.1.2.1 + k_near (k_goal (k_inF X.1 1) (k_inF X.1 12) X.2.2.2.2.2.1.1 - X.2.2.2.2.2.1.2.1) (-4) 4 = _
  rw [eg, p2]
  unfold k_near m_int
  cases h1 : zle (-4) (m_goal Y - Y.2.2.2.2.2.1.2.1) <;> cases h2 : zle (m_goal Y - Y.2.2.2.2.2.1.2.1) 4
  · exfalso
    replace h1 := zle_n h1
    replace h2 := zle_n h2
    rw [Int32.le_iff_toInt_le] at h1 h2
    have e1 : (-4 : Int32).toInt = -4 := by decide
    have e2 : (4 : Int32).toInt = 4 := by decide
    omega
  · simp only [Bool.false_eq_true, if_false, if_true]
    exact (Int32.sub_eq_add_neg _ _).symm
  · simp only [Bool.false_eq_true, if_false, if_true]
  · simp only [if_true]
    exact r_gap
theorem r_bin {C : tCy} {Y : tMd} {t : Nat} {tm : Int32} (h : r_Y C Y t) (h2 : Y.2.1.1 = nI t) (ht : tm = nI t) (hb : t < 2 ^ 31) : k_bin tm C = m_bin Y := by
  obtain ⟨-, i, hi, e1, e2⟩ := h
  have hd : (t - i) / 25 ≤ t := Nat.le_trans (Nat.div_le_self _ _) (by omega)
  have eq : (nI t - nI i) / 25 = nI ((t - i) / 25) := by
    rw [pk_sub hi, show (25 : Int32) = nI 25 from rfl, pk_div (by omega) (by decide) (by decide)]
  unfold k_bin m_bin m_q k_near
  rw [ht, h2, e1, e2, eq]
  generalize hn : (t - i) / 25 = n at *
  have h0 : zle 0 (nI n) = true := zle_t (by rw [show (0 : Int32) = nI 0 from rfl]; exact nI_le (Nat.zero_le n) (by omega))
  rw [h0, if_pos rfl, zle_zlt 7 (nI n), zle_zlt (nI n) 7]
  have e7 : (7 : Int32) = nI 7 := rfl
  rcases Nat.lt_trichotomy n 7 with q | q | q
  · rw [zlt_t (show nI n < 7 from nI_lt q (by decide)), zlt_f (show ¬ 7 < nI n from nI_nlt (Nat.le_of_lt q) (by decide))]; simp
  · subst q; rw [zlt_f (show ¬ nI 7 < 7 by decide), zlt_f (show ¬ 7 < nI 7 by decide)]; simp [e7]
  · rw [zlt_t (show 7 < nI n from nI_lt q (by omega)), zlt_f (show ¬ nI n < 7 from nI_nlt (Nat.le_of_lt q) (by omega))]; simp
theorem r_bd3 {X : tCP} {Y : tMd} {t q : Nat} {b : Bool} (h : r_X X Y t q) (hb : t < 2 ^ 31) : r_X (k_bd3 b X) (m_bd3 b Y) t q := by
  obtain ⟨hS, hC, hA, hV, hF, hP, hY, hM, hR, hQ, hI⟩ := h
  have ei := r_int (X := X) hS hP
  have eb := r_bin hY hC.1.2 hC.1.1 hb
  have el : (k_inF X.1 1) + (if b = true then (k_inF X.1 8) else 0) = m_l0 b Y := by
    unfold m_l0
    rw [r_inFn hS (x := 1) (by decide : 1 < 14) rfl, r_inFn hS (x := 8) (by decide : 8 < 14) rfl]
  refine ⟨hS, hC, hA, hV, hF, ⟨hP.1, ei, ?_⟩, ⟨?_, t, Nat.le_refl t, hC.1.1, hC.1.2⟩, hM, hR, hQ, hI⟩
  · show (if zeq (k_inF X.1 11) 1 = true then zmin ((k_inF X.1 1) + (if b = true then (k_inF X.1 8) else 0)) (k_appr (k_inF X.1 1) (k_inF X.1 12) X.2.2.2.2.2.1).2.1 else (k_inF X.1 1) + (if b = true then (k_inF X.1 8) else 0)) = m_l1 b Y
    rw [ei, el, r_inFn hS (x := 11) (by decide : 11 < 14) rfl]
    unfold m_l1 zmin
    rw [zle_zlt]
    cases zeq (Y.1.2.2.1 11) 1 <;> cases zlt (m_int Y) (m_l0 b Y) <;> simp
  · intro j hj
    show upd X.2.2.2.2.2.2.1.1 (k_bin X.2.1.1 X.2.2.2.2.2.2.1).toNatClampNeg (X.2.2.2.2.2.2.1.1 (k_bin X.2.1.1 X.2.2.2.2.2.2.1).toNatClampNeg + 1) j = upd Y.2.2.2.2.2.2.1.1 (m_bin Y).toNatClampNeg (Y.2.2.2.2.2.2.1.1 (m_bin Y).toNatClampNeg + 1) j
    rw [eb]
    have h8 : vp_in (m_bin Y) 8 := by rw [← eb]; exact vp_near7 _
    obtain ⟨i, hi, e⟩ := vp_in_of h8 (by decide)
    rw [e, nI_clamp (by omega)]
    by_cases hji : j = i
    · rw [hji, pk_us, pk_us, hY.1 i hi]
    · rw [pk_un hji, pk_un hji]; exact hY.1 j hj
theorem r_bound {X : tCP} {Y : tMd} {t q : Nat} {b : Bool} (h : r_X X Y t q) (hq : q + 2 < 2 ^ 31) (hb : t < 2 ^ 31) : ∃ q' : Nat, q' ≤ q + 2 ∧ r_X (k_bound b X) (m_bound b Y) t q' := by
  obtain ⟨q1, h1, h2⟩ := r_bd2 h hq
  exact ⟨q1, h1, r_bd3 h2 hb⟩

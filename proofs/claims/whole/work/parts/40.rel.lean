/-! the class's state beside the reference's -/
def r_S (S : tSe) (Y : tMd) : Prop := ∀ k : Nat, k < 14 → S.1 k = Y.1.2.2.1 k ∧ Y.1.1 k = tLeast k ∧ Y.1.2.1 k = tMost k ∧ tLeast k ≤ S.1 k ∧ S.1 k ≤ tMost k ∧ ((Y.1.2.2.2.2 k = 0 ∧ S.2 k = -1) ∨ (Y.1.2.2.2.2 k = 1 ∧ S.2 k = Y.1.2.2.2.1 k ∧ tLeast k ≤ S.2 k ∧ S.2 k ≤ tMost k))
def r_C (C : tCk) (Y : tMd) (t : Nat) : Prop := (C.1 = nI t ∧ Y.2.1.1 = nI t) ∧ (∃ a : Nat, a ≤ 1000 ∧ C.2.1 = nI a ∧ Y.2.1.2.1 = nI a) ∧ (∃ a : Nat, a ≤ 1000 ∧ C.2.2.1 = nI a ∧ Y.2.1.2.2.1 = nI a) ∧ (∃ a : Nat, a ≤ 1000 ∧ C.2.2.2.1 = nI a ∧ Y.2.1.2.2.2.1 = nI a) ∧ C.2.2.2.2.2 = Y.2.1.2.2.2.2.2.2 ∧ ((Y.2.1.2.2.2.2.1 = false ∧ C.2.2.2.2.1 = -1) ∨ (Y.2.1.2.2.2.2.1 = true ∧ ∃ a : Nat, a ≤ t ∧ C.2.2.2.2.1 = nI a ∧ Y.2.1.2.2.2.2.2.1 = nI a))
def r_b (x : Int32) : Prop := -1000 ≤ x.toInt ∧ x.toInt ≤ 1000
def r_A (S : tSg) (Y : tMd) : Prop := S.1 = Y.2.2.1.1 ∧ S.2 = Y.2.2.1.2 ∧ r_b S.1 ∧ r_b S.2
def r_V (S : tSg) (Y : tMd) : Prop := S.1 = Y.2.2.2.1.1 ∧ S.2 = Y.2.2.2.1.2 ∧ r_b S.1 ∧ r_b S.2
def r_F (F : tFo) (Y : tMd) : Prop := F.1 = Y.2.2.2.2.1.1 ∧ F.2.1 = Y.2.2.2.2.1.2.1 ∧ F.2.2 = Y.2.2.2.2.1.2.2
def r_P (P : tPa) (Y : tMd) : Prop := P.1 = Y.2.2.2.2.2.1.1 ∧ P.2.1 = Y.2.2.2.2.2.1.2.1 ∧ P.2.2 = Y.2.2.2.2.2.1.2.2
def r_Y (C : tCy) (Y : tMd) (t : Nat) : Prop := (∀ j : Nat, j < 8 → C.1 j = Y.2.2.2.2.2.2.1.1 j) ∧ ∃ i : Nat, i ≤ t ∧ C.2 = nI i ∧ Y.2.2.2.2.2.2.1.2 = nI i
def r_M (M : tMk) (Y : tMd) (q : Nat) : Prop := Y.2.2.2.2.2.2.2.1.2.2 = nI q ∧ M.2.2.1 = nI (q % 12) ∧ M.2.2.2 = nI (min q 12) ∧ ∀ j : Nat, j < 12 → M.1 j = Y.2.2.2.2.2.2.2.1.1 j ∧ M.2.1 j = Y.2.2.2.2.2.2.2.1.2.1 j
def r_R (R : tFr) (Y : tMd) : Prop := (∀ j : Nat, zlt (Y.2.2.2.2.2.2.2.2.1.1 j) 0 = false) ∧ ((Y.2.2.2.2.2.2.2.2.1.2 = 0 ∧ (R.2 = -1 ∨ R.2 = 5)) ∨ ∃ g : Nat, g < 5 ∧ R.2 = nI g ∧ Y.2.2.2.2.2.2.2.2.1.2 = nI (g + 1) ∧ ∀ j : Nat, j < g → R.1 j = Y.2.2.2.2.2.2.2.2.1.1 (j + 1))
def r_Q (q : Int32) (Y : tMd) : Prop := q = Y.2.2.2.2.2.2.2.2.2.1 ∧ ∃ a : Nat, a ≤ 3 ∧ q = nI a
def r_I (X : tCP) : Prop := k_ledA (k_mode X.1) = true → X.2.1.2.2.2.2.1 = -1
/-- the relation, with the time t and the number q of markers -/
def r_X (X : tCP) (Y : tMd) (t q : Nat) : Prop := r_S X.1 Y ∧ r_C X.2.1 Y t ∧ r_A X.2.2.1 Y ∧ r_V X.2.2.2.1 Y ∧ r_F X.2.2.2.2.1 Y ∧ r_P X.2.2.2.2.2.1 Y ∧ r_Y X.2.2.2.2.2.2.1 Y t ∧ r_M X.2.2.2.2.2.2.2.1 Y q ∧ r_R X.2.2.2.2.2.2.2.2.1 Y ∧ r_Q X.2.2.2.2.2.2.2.2.2 Y ∧ r_I X
theorem r_md {S : tSe} {Y : tMd} (h : r_S S Y) : ∃ j : Nat, j < 8 ∧ S.1 0 = nI j ∧ Y.1.2.2.1 0 = nI j := by
  obtain ⟨h1, -, -, h4, h5, -⟩ := h 0 (by decide)
  obtain ⟨j, hj, e⟩ := nI_of2 (x := S.1 0) (M := 7) (n := 7) (by decide) (fun q => by rw [Int32.lt_iff_toInt_lt] at q; rw [Int32.le_iff_toInt_le] at h4; exact absurd q (by simpa [tLeast] using h4)) (by simpa [tMost] using h5)
  exact ⟨j, by omega, e, by rw [← h1, e]⟩
theorem r_ex : ∀ k : Nat, k < 14 → k_exists (nI k) = true := by
  intro k hk
  simp only [k_exists, Bool.and_eq_true, Bool.not_eq_true']
  exact ⟨zlt_f (nI_pos (by omega)), zle_f (nI_ge (b := 14) hk (by decide))⟩
theorem r_inF (S : tSe) {k : Nat} (hk : k < 14) {x : Int32} (hx : x = nI k) : k_inF S x = S.1 k := by
  subst hx
  unfold k_inF
  rw [if_pos (r_ex k hk), nI_clamp (by omega)]
theorem r_mode (j : Nat) (hj : j < 8) : zeq (((18 : Int32) >>> (nI j &&& 31)) &&& 1) 1 = k_ledA (nI j) ∧ zeq (((196 : Int32) >>> (nI j &&& 31)) &&& 1) 1 = k_both (nI j) ∧ zeq (((240 : Int32) >>> (nI j &&& 31)) &&& 1) 1 = k_senA (nI j) ∧ zeq (((232 : Int32) >>> (nI j &&& 31)) &&& 1) 1 = k_senV (nI j) ∧ zeq (((160 : Int32) >>> (nI j &&& 31)) &&& 1) 1 = k_foll (nI j) := by
  simp only [k_ledA, k_both, k_senA, k_senV, k_foll, zeq_d, zlt_d]
  rcases (show j = 0 ∨ j = 1 ∨ j = 2 ∨ j = 3 ∨ j = 4 ∨ j = 5 ∨ j = 6 ∨ j = 7 by omega) with rfl | rfl | rfl | rfl | rfl | rfl | rfl | rfl <;> decide
theorem r_modes {S : tSe} {Y : tMd} (h : r_S S Y) : m_mode 18 Y = k_ledA (k_mode S) ∧ m_mode 196 Y = k_both (k_mode S) ∧ m_mode 240 Y = k_senA (k_mode S) ∧ m_mode 232 Y = k_senV (k_mode S) ∧ m_mode 160 Y = k_foll (k_mode S) := by
  obtain ⟨j, hj, e1, e2⟩ := r_md h
  unfold m_mode k_mode
  rw [e1, e2]
  exact r_mode j hj
theorem r_keep {M : tMk} {Y : tMd} {q : Nat} {kd tm : Int32} (h : r_M M Y q) (hq : q + 1 < 2 ^ 31) (ht : tm = Y.2.1.1) : r_M (k_keep kd tm M) (m_mark kd Y) (q + 1) := by
  obtain ⟨h1, h2, h3, h4⟩ := h
  have h12 : (12 : Int32) = nI 12 := rfl
  have hl : q % 12 < 12 := Nat.mod_lt _ (by decide)
  have e1 : m_mi Y = q % 12 := by
    unfold m_mi k_rem
    rw [h1, h12, pk_rem (by omega) (by decide) (by decide), nI_clamp (by omega)]
  have e2 : M.2.2.1.toNatClampNeg = q % 12 := by rw [h2, nI_clamp (by omega)]
  refine ⟨?_, ?_, ?_, ?_⟩
  · show Y.2.2.2.2.2.2.2.1.2.2 + 1 = _
    rw [h1, nI_1]
  · show k_rem (M.2.2.1 + 1) 12 = _
    unfold k_rem
    rw [h2, nI_1, h12, pk_rem (by omega) (by decide) (by decide)]
    congr 1
    omega
  · show (if zle 12 M.2.2.2 = true then M.2.2.2 else M.2.2.2 + 1) = _
    rw [h3]
    cases hz : zle 12 (nI (min q 12))
    · rw [if_neg (by decide), nI_1]
      congr 1
      have : ¬ 12 ≤ min q 12 := fun hh => absurd (nI_le (a := 12) (b := min q 12) hh (by omega)) (zle_n hz)
      omega
    · rw [if_pos rfl]
      congr 1
      have := zle_p hz
      rw [h12, nI_leI (by decide) (by omega)] at this
      omega
  · intro j hj
    show upd M.1 M.2.2.1.toNatClampNeg kd j = upd Y.2.2.2.2.2.2.2.1.1 (m_mi Y) kd j ∧ upd M.2.1 M.2.2.1.toNatClampNeg tm j = upd Y.2.2.2.2.2.2.2.1.2.1 (m_mi Y) Y.2.1.1 j
    rw [e1, e2, ht]
    by_cases hjq : j = q % 12
    · rw [hjq, pk_us, pk_us, pk_us, pk_us]; exact ⟨rfl, rfl⟩
    · rw [pk_un hjq, pk_un hjq, pk_un hjq, pk_un hjq]; exact h4 j hj
theorem r_tm {C : tCk} {Y : tMd} {t : Nat} (h : r_C C Y t) : C.1 = Y.2.1.1 := by rw [h.1.1, h.1.2]
theorem r_inFn {S : tSe} {Y : tMd} (h : r_S S Y) {k : Nat} (hk : k < 14) {x : Int32} (hx : x = nI k) : k_inF S x = Y.1.2.2.1 k := by
  rw [r_inF S hk hx]; exact (h k hk).1
theorem r_quick {X : tCP} {Y : tMd} {t q : Nat} (h : r_X X Y t q) : k_quick X = m_quick Y := by
  obtain ⟨hS, hC, -⟩ := h
  obtain ⟨a, -, e1, e2⟩ := hC.2.1
  unfold k_quick m_quick
  rw [r_inFn hS (x := 13) (by decide : 13 < 14) rfl, e1, e2]
theorem z03 : zlt (0 : Int32) 3 = true := zlt_t (by decide)
theorem z05 : zlt (0 : Int32) 5 = true := zlt_t (by decide)
theorem k_cT (F : tFo) : k_count true F = (F.1 + 1, 0, if zlt (F.1 + 1) 5 = true then F.2.2 else true) := by
  simp [k_count, k_cntF, k_cntS, z03]
theorem k_cF (F : tFo) : k_count false F = (0, F.2.1 + 1, if zlt (F.2.1 + 1) 3 = true then F.2.2 else false) := by
  unfold k_count k_cntF k_cntS
  cases hz : zlt (F.2.1 + 1) 3 <;> simp [hz, z05]
theorem r_tell {X : tCP} {Y : tMd} {t q : Nat} (h : r_X X Y t q) (hq : q + 1 < 2 ^ 31) : ∃ q' : Nat, q' ≤ q + 1 ∧ r_X (k_tell X) (m_tf3 Y) t q' := by
  have hk := r_quick h
  obtain ⟨hS, hC, hA, hV, ⟨f1, f2, f3⟩, hP, hY, hM, hR, hQ, hI⟩ := h
  have ht := r_tm hC
  cases hb : m_quick Y
  · have e1 : k_tel1 X = (0, X.2.2.2.2.1.2.1 + 1, if zlt (X.2.2.2.2.1.2.1 + 1) 3 = true then X.2.2.2.2.1.2.2 else false) := by
      unfold k_tel1; rw [hk, hb]; exact k_cF _
    have e2 : m_tf2 Y = m_tf1 Y := by unfold m_tf2 m_tf1; simp [hb, z05]
    have e3 : m_tf1 Y = (Y.1, Y.2.1, Y.2.2.1, Y.2.2.2.1, (0, Y.2.2.2.2.1.2.1 + 1, Y.2.2.2.2.1.2.2), Y.2.2.2.2.2.1, Y.2.2.2.2.2.2.1, Y.2.2.2.2.2.2.2.1, Y.2.2.2.2.2.2.2.2.1, Y.2.2.2.2.2.2.2.2.2) := by unfold m_tf1; simp [hb]
    cases hz : zlt (X.2.2.2.2.1.2.1 + 1) 3
    · cases hg : X.2.2.2.2.1.2.2
      · refine ⟨q, by omega, ?_⟩
        have ek : k_tell X = (X.1, X.2.1, X.2.2.1, X.2.2.2.1, (0, X.2.2.2.2.1.2.1 + 1, false), X.2.2.2.2.2.1, X.2.2.2.2.2.2.1, X.2.2.2.2.2.2.2.1, X.2.2.2.2.2.2.2.2.1, X.2.2.2.2.2.2.2.2.2) := by simp [k_tell, k_tel2, e1, hz, hg]
        have em : m_tf3 Y = m_tf1 Y := by unfold m_tf3; rw [e2, e3]; simp [← f3, hg]
        rw [ek, em, e3]
        exact ⟨hS, hC, hA, hV, ⟨rfl, by rw [f2], by rw [← f3, hg]⟩, hP, hY, hM, hR, hQ, hI⟩
      · refine ⟨q + 1, by omega, ?_⟩
        have ek : k_tell X = (X.1, X.2.1, X.2.2.1, X.2.2.2.1, (0, X.2.2.2.2.1.2.1 + 1, false), X.2.2.2.2.2.1, X.2.2.2.2.2.2.1, k_keep 5 X.2.1.1 X.2.2.2.2.2.2.2.1, X.2.2.2.2.2.2.2.2.1, X.2.2.2.2.2.2.2.2.2) := by simp [k_tell, k_tel2, e1, hz, hg]
        have em : m_tf3 Y = m_mark 5 (Y.1, Y.2.1, Y.2.2.1, Y.2.2.2.1, (0, Y.2.2.2.2.1.2.1 + 1, false), Y.2.2.2.2.2.1, Y.2.2.2.2.2.2.1, Y.2.2.2.2.2.2.2.1, Y.2.2.2.2.2.2.2.2.1, Y.2.2.2.2.2.2.2.2.2) := by unfold m_tf3; rw [e2, e3]; simp [← f3, hg, ← f2, hz]
        rw [ek, em]
        exact ⟨hS, hC, hA, hV, ⟨rfl, by rw [f2]; rfl, rfl⟩, hP, hY, r_keep (Y := (Y.1, Y.2.1, Y.2.2.1, Y.2.2.2.1, (0, Y.2.2.2.2.1.2.1 + 1, false), Y.2.2.2.2.2.1, Y.2.2.2.2.2.2.1, Y.2.2.2.2.2.2.2.1, Y.2.2.2.2.2.2.2.2.1, Y.2.2.2.2.2.2.2.2.2)) hM hq ht, hR, hQ, hI⟩
    · refine ⟨q, by omega, ?_⟩
      have ek : k_tell X = (X.1, X.2.1, X.2.2.1, X.2.2.2.1, (0, X.2.2.2.2.1.2.1 + 1, X.2.2.2.2.1.2.2), X.2.2.2.2.2.1, X.2.2.2.2.2.2.1, X.2.2.2.2.2.2.2.1, X.2.2.2.2.2.2.2.2.1, X.2.2.2.2.2.2.2.2.2) := by cases hg : X.2.2.2.2.1.2.2 <;> simp [k_tell, k_tel2, e1, hz, hg]
      have em : m_tf3 Y = m_tf1 Y := by unfold m_tf3; rw [e2, e3]; simp [← f2, hz]
      rw [ek, em, e3]
      exact ⟨hS, hC, hA, hV, ⟨rfl, by rw [f2], f3⟩, hP, hY, hM, hR, hQ, hI⟩
  · have e1 : k_tel1 X = (X.2.2.2.2.1.1 + 1, 0, if zlt (X.2.2.2.2.1.1 + 1) 5 = true then X.2.2.2.2.1.2.2 else true) := by
      unfold k_tel1; rw [hk, hb]; exact k_cT _
    have e3 : m_tf1 Y = (Y.1, Y.2.1, Y.2.2.1, Y.2.2.2.1, (Y.2.2.2.2.1.1 + 1, 0, Y.2.2.2.2.1.2.2), Y.2.2.2.2.2.1, Y.2.2.2.2.2.2.1, Y.2.2.2.2.2.2.2.1, Y.2.2.2.2.2.2.2.2.1, Y.2.2.2.2.2.2.2.2.2) := by unfold m_tf1; simp [hb]
    cases hz : zlt (X.2.2.2.2.1.1 + 1) 5
    · cases hg : X.2.2.2.2.1.2.2
      · refine ⟨q + 1, by omega, ?_⟩
        have ek : k_tell X = (X.1, X.2.1, X.2.2.1, X.2.2.2.1, (X.2.2.2.2.1.1 + 1, 0, true), X.2.2.2.2.2.1, X.2.2.2.2.2.2.1, k_keep 4 X.2.1.1 X.2.2.2.2.2.2.2.1, X.2.2.2.2.2.2.2.2.1, X.2.2.2.2.2.2.2.2.2) := by simp [k_tell, k_tel2, e1, hz, hg]
        have em : m_tf3 Y = m_mark 4 (Y.1, Y.2.1, Y.2.2.1, Y.2.2.2.1, (Y.2.2.2.2.1.1 + 1, 0, true), Y.2.2.2.2.2.1, Y.2.2.2.2.2.2.1, Y.2.2.2.2.2.2.2.1, Y.2.2.2.2.2.2.2.2.1, Y.2.2.2.2.2.2.2.2.2) := by
          have e4 : m_tf2 Y = m_mark 4 (Y.1, Y.2.1, Y.2.2.1, Y.2.2.2.1, (Y.2.2.2.2.1.1 + 1, 0, true), Y.2.2.2.2.2.1, Y.2.2.2.2.2.2.1, Y.2.2.2.2.2.2.2.1, Y.2.2.2.2.2.2.2.2.1, Y.2.2.2.2.2.2.2.2.2) := by unfold m_tf2; rw [e3]; simp [← f1, hz, ← f3, hg]
          unfold m_tf3; rw [e4]; simp [m_mark, z03]
        rw [ek, em]
        exact ⟨hS, hC, hA, hV, ⟨by rw [f1]; rfl, rfl, rfl⟩, hP, hY, r_keep (Y := (Y.1, Y.2.1, Y.2.2.1, Y.2.2.2.1, (Y.2.2.2.2.1.1 + 1, 0, true), Y.2.2.2.2.2.1, Y.2.2.2.2.2.2.1, Y.2.2.2.2.2.2.2.1, Y.2.2.2.2.2.2.2.2.1, Y.2.2.2.2.2.2.2.2.2)) hM hq ht, hR, hQ, hI⟩
      · refine ⟨q, by omega, ?_⟩
        have ek : k_tell X = (X.1, X.2.1, X.2.2.1, X.2.2.2.1, (X.2.2.2.2.1.1 + 1, 0, true), X.2.2.2.2.2.1, X.2.2.2.2.2.2.1, X.2.2.2.2.2.2.2.1, X.2.2.2.2.2.2.2.2.1, X.2.2.2.2.2.2.2.2.2) := by simp [k_tell, k_tel2, e1, hz, hg]
        have em : m_tf3 Y = m_tf1 Y := by
          have e4 : m_tf2 Y = m_tf1 Y := by unfold m_tf2; rw [e3]; simp [← f3, hg]
          unfold m_tf3; rw [e4, e3]; simp [z03]
        rw [ek, em, e3]
        exact ⟨hS, hC, hA, hV, ⟨by rw [f1], rfl, by rw [← f3, hg]⟩, hP, hY, hM, hR, hQ, hI⟩
    · refine ⟨q, by omega, ?_⟩
      have ek : k_tell X = (X.1, X.2.1, X.2.2.1, X.2.2.2.1, (X.2.2.2.2.1.1 + 1, 0, X.2.2.2.2.1.2.2), X.2.2.2.2.2.1, X.2.2.2.2.2.2.1, X.2.2.2.2.2.2.2.1, X.2.2.2.2.2.2.2.2.1, X.2.2.2.2.2.2.2.2.2) := by cases hg : X.2.2.2.2.1.2.2 <;> simp [k_tell, k_tel2, e1, hz, hg]
      have em : m_tf3 Y = m_tf1 Y := by
        have e4 : m_tf2 Y = m_tf1 Y := by unfold m_tf2; rw [e3]; simp [← f1, hz]
        unfold m_tf3; rw [e4, e3]; simp [z03]
      rw [ek, em, e3]
      exact ⟨hS, hC, hA, hV, ⟨by rw [f1], rfl, f3⟩, hP, hY, hM, hR, hQ, hI⟩

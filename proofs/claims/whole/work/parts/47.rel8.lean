theorem r_fits {S : tSe} {Y : tMd} (h : r_S S Y) (k a : Int32) : m_fits k a Y = k_allows k a := by
  unfold m_fits k_allows
  by_cases hk : k_exists k = true
  · obtain ⟨j, hj, e⟩ := vp_in_of (vp_ex hk) (by decide)
    subst e
    obtain ⟨-, h2, h3, -⟩ := h j hj
    rw [nI_clamp (by omega), h2, h3]
    rfl
  · have e : (!zlt k 0 && !zle 14 k) = false := by
      cases hz : (!zlt k 0 && !zle 14 k)
      · rfl
      · exact absurd hz hk
    have e2 : k_exists k = false := e
    rw [e, e2]
    simp
theorem r_ask {S : tSe} {Y : tMd} (h : r_S S Y) {k a : Int32} (ha : k_allows k a = true) : r_S (k_ask S k a) (m_put k a Y) := by
  obtain ⟨j, hj, e⟩ := vp_in_of (vp_al ha) (by decide)
  have hc : k.toNatClampNeg = j := by rw [e, nI_clamp (by omega)]
  have ek : k_ask S k a = (S.1, upd S.2 j a) := by unfold k_ask; rw [if_pos ha, hc]
  rw [ek]
  simp only [k_allows, Bool.and_eq_true, Bool.not_eq_true', hc] at ha
  have l1 : tLeast j ≤ a := by have := zlt_n ha.1.2; rw [Int32.lt_iff_toInt_lt] at this; rw [Int32.le_iff_toInt_le]; omega
  have l2 : a ≤ tMost j := by have := zlt_n ha.2; rw [Int32.lt_iff_toInt_lt] at this; rw [Int32.le_iff_toInt_le]; omega
  intro i hi
  obtain ⟨h1, h2, h3, h4, h5, h6⟩ := h i hi
  refine ⟨h1, h2, h3, h4, h5, ?_⟩
  show (upd Y.1.2.2.2.2 k.toNatClampNeg 1 i = 0 ∧ upd S.2 j a i = -1) ∨ (upd Y.1.2.2.2.2 k.toNatClampNeg 1 i = 1 ∧ upd S.2 j a i = upd Y.1.2.2.2.1 k.toNatClampNeg a i ∧ tLeast i ≤ upd S.2 j a i ∧ upd S.2 j a i ≤ tMost i)
  rw [hc]
  by_cases hij : i = j
  · subst hij
    rw [pk_us, pk_us, pk_us]
    exact Or.inr ⟨rfl, rfl, l1, l2⟩
  · rw [pk_un hij, pk_un hij, pk_un hij]
    exact h6
theorem r_lat {S : tSe} {Y : tMd} (h : r_S S Y) {k : Int32} (hk : k_exists k = true) : k_latest S k = m_putR k Y ∧ zle 0 (m_putR k Y) = true := by
  obtain ⟨j, hj, e⟩ := vp_in_of (vp_ex hk) (by decide)
  have hc : k.toNatClampNeg = j := by rw [e, nI_clamp (by omega)]
  obtain ⟨h1, h2, h3, h4, h5, h6⟩ := h j hj
  have l0 := tLeast0 j hj
  have le2 : ∀ x : Int32, tLeast j ≤ x → zle 0 x = true := fun x hx => zle_t (by rw [Int32.le_iff_toInt_le] at hx l0 ⊢; omega)
  unfold k_latest m_putR k_pend k_inF
  rw [if_pos hk, if_pos hk, hc]
  rcases h6 with ⟨e1, e2⟩ | ⟨e1, e2, e3, e4⟩
  · rw [e1, e2, zeq_t rfl, zeq_t rfl, if_pos rfl, if_pos rfl]
    exact ⟨h1, le2 _ (by rw [← h1]; exact h4)⟩
  · rw [e1, zeq_f (r_nm1 hj e3), zeq_f (by decide), if_neg (by decide), if_neg (by decide)]
    exact ⟨e2, le2 _ (by rw [← e2]; exact e3)⟩
-- markers
theorem r_hasM {M : tMk} {Y : tMd} {q : Nat} (h : r_M M Y q) (hq : q < 2 ^ 31) {j : Nat} (hj : j < 2 ^ 31) : k_has M (nI j) = true ↔ j < q ∧ j < 12 := by
  unfold k_has
  rw [h.2.2.1, zlt_f (nI_pos hj)]
  simp only [Bool.not_false, Bool.true_and, Bool.not_eq_true']
  constructor
  · intro hz
    have := zle_n hz
    rw [nI_leI (by omega) hj] at this
    omega
  · intro hz
    refine zle_f ?_
    rw [nI_leI (by omega) hj]
    omega
theorem r_plM {M : tMk} {Y : tMd} {q : Nat} (h : r_M M Y q) (hq : q < 2 ^ 31) {j : Nat} (h1 : j < q) (h2 : j < 12) : (k_place M (nI j)).toNatClampNeg = (q - 1 - j) % 12 ∧ (m_mix (nI j) Y).toNatClampNeg = (q - 1 - j) % 12 := by
  have h12 : (12 : Int32) = nI 12 := rfl
  have h1' : (1 : Int32) = nI 1 := rfl
  constructor
  · unfold k_place k_rem
    rw [h.2.1]
    have e : nI (q % 12) + 12 - 1 - nI j = nI (q % 12 + 12 - 1 - j) := by
      rw [h12, nI_add, h1', pk_sub (by omega), pk_sub (by omega)]
    rw [e, h12, pk_rem (by omega) (by decide) (by decide), nI_clamp (by omega)]
    omega
  · unfold m_mix k_rem
    rw [h.1, h1', pk_sub (by omega), pk_sub (by omega), h12, pk_rem (by omega) (by decide) (by decide), nI_clamp (by omega)]
theorem r_mrkA {M : tMk} {Y : tMd} {q : Nat} (h : r_M M Y q) (hq : q < 2 ^ 31) (k : Int32) : (k_has M k = true ∧ zlt k 0 = false ∧ zlt 11 k = false ∧ zle Y.2.2.2.2.2.2.2.1.2.2 k = false ∧ k_kind M k = Y.2.2.2.2.2.2.2.1.1 (m_mix k Y).toNatClampNeg ∧ k_time M k = Y.2.2.2.2.2.2.2.1.2.1 (m_mix k Y).toNatClampNeg) ∨ ((zlt k 0 = true ∨ zlt 11 k = true ∨ zle Y.2.2.2.2.2.2.2.1.2.2 k = true) ∧ k_kind M k = -1 ∧ k_time M k = -1) := by
  cases h0 : zlt k 0
  · obtain ⟨j, hj, e⟩ := nI_of (zlt_n h0)
    subst e
    by_cases hh : j < q ∧ j < 12
    · left
      have hk := (r_hasM h hq hj).mpr hh
      obtain ⟨p1, p2⟩ := r_plM h hq hh.1 hh.2
      refine ⟨hk, rfl, zlt_f (nI_nlt (a := 11) (by omega) (by decide)), zle_f (by rw [h.1]; exact nI_ge hh.1 hq), ?_, ?_⟩
      · unfold k_kind; rw [if_pos hk, p1, p2]; exact (h.2.2.2 _ (Nat.mod_lt _ (by decide))).1
      · unfold k_time; rw [if_pos hk, p1, p2]; exact (h.2.2.2 _ (Nat.mod_lt _ (by decide))).2
    · right
      have hk : ¬ k_has M (nI j) = true := fun z => hh ((r_hasM h hq hj).mp z)
      refine ⟨?_, by unfold k_kind; rw [if_neg hk], by unfold k_time; rw [if_neg hk]⟩
      rcases Nat.lt_or_ge j q with a | a
      · exact Or.inr (Or.inl (zlt_t (nI_lt (a := 11) (by omega) hj)))
      · exact Or.inr (Or.inr (zle_t (by rw [h.1]; exact nI_le a hj)))
  · right
    have hk : ¬ k_has M k = true := by unfold k_has; rw [h0]; simp
    exact ⟨Or.inl rfl, by unfold k_kind; rw [if_neg hk], by unfold k_time; rw [if_neg hk]⟩
theorem r_w01 {w : Int32} (h0 : zeq w 0 = false) (h1 : zeq w 1 = false) : zlt w 0 = true ∨ zle w 1 = false := by
  replace h0 := zeq_n h0
  replace h1 := zeq_n h1
  have e0 : (0 : Int32).toInt = 0 := by decide
  have e1 : (1 : Int32).toInt = 1 := by decide
  have n0 : ¬ w.toInt = 0 := fun q => h0 (Int32.toInt_inj.mp (by rw [q, e0]))
  have n1 : ¬ w.toInt = 1 := fun q => h1 (Int32.toInt_inj.mp (by rw [q, e1]))
  rcases Int.lt_or_le w.toInt 0 with a | a
  · exact Or.inl (zlt_t (by rw [Int32.lt_iff_toInt_lt, e0]; exact a))
  · exact Or.inr (zle_f (by rw [Int32.le_iff_toInt_le, e1]; omega))
theorem r_mrk {X : tCP} {Y : tMd} {t q : Nat} (h : r_X X Y t q) (hq : q < 2 ^ 31) (k w : Int32) : k_mark k w X = m_mrk k w Y := by
  have hM := h.2.2.2.2.2.2.2.1
  unfold k_mark m_mrk
  cases w0 : zeq w 0
  · cases w1 : zeq w 1
    · rcases r_w01 w0 w1 with e | e
      · rw [e]; simp
      · rw [e]; simp
    · have ew := zeq_p w1
      have z1 : zlt w 0 = false := zlt_f (by rw [ew]; decide)
      have z2 : zle w 1 = true := zle_t (by rw [ew]; decide)
      rw [z1, z2]
      rcases r_mrkA hM hq k with ⟨-, a1, a2, a3, -, a5⟩ | ⟨a1, a2, a3⟩
      · rw [a1, a2, a3, a5]; simp
      · rw [a3]; rcases a1 with a | a | a <;> rw [a] <;> simp
  · have ew := zeq_p w0
    have z1 : zlt w 0 = false := zlt_f (by rw [ew]; decide)
    have z2 : zle w 1 = true := zle_t (by rw [ew]; decide)
    rw [z1, z2]
    rcases r_mrkA hM hq k with ⟨-, a1, a2, a3, a4, -⟩ | ⟨a1, a2, a3⟩
    · rw [a1, a2, a3, a4]; simp
    · rw [a2]; rcases a1 with a | a | a <;> rw [a] <;> simp

theorem r_tick {X : tCP} {Y : tMd} {t q : Nat} {a v w : Int32} (h : r_X X Y t q) (hq : q + 16 < 2 ^ 31) (hb : t + 1 < 2 ^ 31) : k_tickR a v w X = m_tickR a v w Y ∧ ∃ q' : Nat, q' ≤ q + 16 ∧ r_X (k_tick a v w X) (m_tick a v w Y) (t + 1) q' := by
  have h0 : r_X X (m_c0 Y) t q := h
  exact r_st h0 hq hb
theorem m_w3V (a v w : Int32) (Y : tMd) : m_w3 a v w Y = 0 ∨ m_w3 a v w Y = 1 ∨ m_w3 a v w Y = 2 ∨ m_w3 a v w Y = 3 := by
  unfold m_w3 m_w2
  split <;> split <;> simp
theorem m_w3z {x : Int32} (h : x = 0 ∨ x = 1 ∨ x = 2 ∨ x = 3) : (zeq (x &&& 2) 2 = true ∧ (x = 2 ∨ x = 3)) ∨ (zeq (x &&& 2) 2 = false ∧ ((x = 0 ∧ zeq x 0 = true) ∨ (x = 1 ∧ zeq x 0 = false))) := by
  rcases h with e | e | e | e <;> subst e
  · exact Or.inr ⟨zeq_f (by decide), Or.inl ⟨rfl, zeq_t rfl⟩⟩
  · exact Or.inr ⟨zeq_f (by decide), Or.inr ⟨rfl, zeq_f (by decide)⟩⟩
  · exact Or.inl ⟨zeq_t (by decide), Or.inl rfl⟩
  · exact Or.inl ⟨zeq_t (by decide), Or.inr rfl⟩
/-- what a step answers, and how its paces are counted on either side -/
theorem r_bits (a v w : Int32) (Y : tMd) : k_bits (m_stR a v w Y &&& 12) = ((m_stR a v w Y >>> ((2 : Int32) &&& 31)) &&& 1) + ((m_stR a v w Y >>> ((3 : Int32) &&& 31)) &&& 1) := by
  have key : m_stR a v w Y = 0 ∨ m_stR a v w Y = 4 ∨ m_stR a v w Y = 8 ∨ m_stR a v w Y = 12 ∨ m_stR a v w Y = 1 ∨ m_stR a v w Y = 9 ∨ m_stR a v w Y = 2 ∨ m_stR a v w Y = 3 := by
    unfold m_stR
    rcases m_w3z (m_w3V a v w Y) with ⟨z, e⟩ | ⟨z, ⟨e, z2⟩ | ⟨e, z2⟩⟩
    · rw [if_pos z]
      rcases e with e | e <;> rw [e] <;> simp
    · rw [if_fb z, z2, e]
      rcases r_pacV true (m_s3 a v w Y) with f | f | f | f <;> rw [f] <;> decide
    · rw [if_fb z, z2, e]
      rcases r_pacF (m_s3 a v w Y) with f | f <;> rw [f] <;> decide
  rcases key with e | e | e | e | e | e | e | e <;> rw [e] <;> decide
theorem r_runN {X : tCP} {Y : tMd} {t q : Nat} {a v w : Int32} (h : r_X X Y t q) (hq : q + 1000 < 2 ^ 31) (hb : t + 60 < 2 ^ 31) : ∀ n : Nat, n ≤ 60 → k_runP a v w X n = m_runP a v w Y n ∧ ∃ q' : Nat, q' ≤ q + 16 * n ∧ r_X (k_runX a v w X n) (m_runY a v w Y n) (t + n) q'
  | 0, _ => ⟨rfl, q, by omega, h⟩
  | n + 1, hn => by
    obtain ⟨e1, q1, h1, h2⟩ := r_runN (a := a) (v := v) (w := w) h hq hb n (by omega)
    obtain ⟨e2, q2, h3, h4⟩ := r_st (a := a) (v := v) (w := w) h2 (by omega) (by omega)
    refine ⟨?_, q2, by omega, h4⟩
    show k_runP a v w X n + k_bits (k_tickR a v w (k_runX a v w X n) &&& 12) = m_runP a v w Y n + _ + _
    rw [e1, e2, r_bits, Int32.add_assoc]
    rfl
theorem r_runA {X : tCP} {Y : tMd} {t q : Nat} {c a v w : Int32} (h : r_X X Y t q) (hq : q + 1000 < 2 ^ 31) (hb : t + 60 < 2 ^ 31) : k_runR c a v w X = m_runR c a v w Y ∧ ∃ t' q' : Nat, t' ≤ t + 60 ∧ q' ≤ q + 960 ∧ r_X (k_run c a v w X) (m_run c a v w Y) t' q' := by
  unfold k_runR m_runR k_run m_run
  cases h1 : zlt c 1
  · cases h2 : zle c 60
    · simp only [Bool.false_eq_true, if_false]
      exact ⟨trivial, t, q, by omega, by omega, h⟩
    · simp only [Bool.false_eq_true, if_false, if_true]
      have hn := zz_60 h1 h2
      obtain ⟨e1, q1, h3, h4⟩ := r_runN (a := a) (v := v) (w := w) h hq hb c.toNatClampNeg hn
      exact ⟨e1, t + c.toNatClampNeg, q1, by omega, by omega, h4⟩
  · simp only [if_true]
    exact ⟨trivial, t, q, by omega, by omega, h⟩
-- reads
theorem r_ex13 {k : Int32} (h : ¬ k_exists k = true) : zlt k 0 = true ∨ (zlt k 0 = false ∧ zlt 13 k = true) := by
  cases h1 : zlt k 0
  · refine Or.inr ⟨rfl, ?_⟩
    cases h2 : zlt 13 k
    · exfalso
      apply h
      simp only [k_exists, Bool.and_eq_true, Bool.not_eq_true']
      refine ⟨h1, zle_f (fun q => zlt_n h2 ?_)⟩
      rw [Int32.le_iff_toInt_le] at q
      rw [Int32.lt_iff_toInt_lt]
      have e1 : (14 : Int32).toInt = 14 := by decide
      have e2 : (13 : Int32).toInt = 13 := by decide
      omega
    · rfl
  · exact Or.inl rfl
theorem r_par {X : tCP} {Y : tMd} {t q : Nat} (h : r_X X Y t q) (k : Int32) : k_inF X.1 k = m_par k Y := by
  unfold m_par
  by_cases hk : k_exists k = true
  · have hv := vp_ex hk
    obtain ⟨j, hj, e⟩ := vp_in_of hv (by decide)
    subst e
    rw [r_inFn h.1 hj rfl, zlt_f (nI_pos (by omega)), if_neg (by decide), zle_t (show nI j ≤ 13 from nI_le (b := 13) (by omega) (by decide)), if_pos rfl, nI_clamp (by omega)]
  · unfold k_inF
    rw [if_neg hk]
    rcases r_ex13 hk with e | ⟨e1, e2⟩
    · rw [e, if_pos rfl]
    · rw [e1, if_neg (by decide), zle_zlt, e2]; rfl
theorem r_wai {X : tCP} {Y : tMd} {t q : Nat} (h : r_X X Y t q) (k : Int32) : k_pend X.1 k = m_wai k Y := by
  unfold m_wai k_pend
  by_cases hk : k_exists k = true
  · have hv := vp_ex hk
    obtain ⟨j, hj, e⟩ := vp_in_of hv (by decide)
    subst e
    rw [if_pos hk, nI_clamp (by omega), zlt_f (nI_pos (by omega)), if_neg (by decide), zlt_f (show ¬ 13 < nI j from nI_nlt (a := 13) (by omega) (by decide)), if_neg (by decide)]
    rcases (h.1 j hj).2.2.2.2.2 with ⟨e1, e2⟩ | ⟨e1, e2, -, -⟩
    · rw [e1, e2, zeq_t rfl, if_pos rfl]
    · rw [e1, e2, zeq_f (by decide), if_neg (by decide)]
  · rw [if_neg hk]
    rcases r_ex13 hk with e | ⟨e1, e2⟩
    · rw [e, if_pos rfl]
    · rw [e1, if_neg (by decide), e2, if_pos rfl]
theorem r_sin {X : tCP} {Y : tMd} {t q : Nat} (h : r_X X Y t q) (k : Int32) : k_since k X = m_sin k Y := by
  have hC := h.2.1
  unfold k_since m_sin
  rw [r_sA hC, r_sV hC, r_sP hC]
  rcases hC.2.2.2.2.2 with ⟨e1, e2⟩ | ⟨e1, a, -, e2, e3⟩
  · rw [e1, e2]; simp
  · rw [e1, e2, e3]; simp
theorem r_val {X : tCP} {Y : tMd} {t q : Nat} (h : r_X X Y t q) (k : Int32) : k_value k X = m_val k Y := by
  obtain ⟨hS, hC, hA, hV, hF, hP, hY, hM, hR, hQ, hI⟩ := h
  unfold k_value m_val
  rw [hP.1, hP.2.1, hP.2.2, hF.1, hF.2.1, r_tm hC]
theorem r_his {X : tCP} {Y : tMd} {t q : Nat} (h : r_X X Y t q) (k : Int32) : k_inBin X.2.2.2.2.2.2.1 k = m_his k Y := by
  have hY := h.2.2.2.2.2.2.1
  unfold k_inBin m_his
  cases h1 : zlt k 0
  · simp only [Bool.false_eq_true, if_false]
    have e8 : zle 8 k = !zle k 7 := by
      rw [zle_zlt 8 k]
      congr 1
      rw [zlt_d, zle_d]
      have e1 : (8 : Int32).toInt = 8 := by decide
      have e2 : (7 : Int32).toInt = 7 := by decide
      by_cases hk : k ≤ 7
      · have : k < 8 := by rw [Int32.lt_iff_toInt_lt]; rw [Int32.le_iff_toInt_le] at hk; omega
        simp [hk, this]
      · have : ¬ k < 8 := by rw [Int32.lt_iff_toInt_lt]; rw [Int32.le_iff_toInt_le] at hk; omega
        simp [hk, this]
    rw [e8]
    cases h2 : zle k 7
    · simp
    · simp only [Bool.not_true, Bool.false_eq_true, if_false, if_true]
      obtain ⟨j, hj, e⟩ := vp_in_of (vp_le (q := 7) (n := 8) (by decide) h1 h2) (by decide)
      rw [e, nI_clamp (by omega)]
      exact hY.1 j hj
  · simp only [if_true]

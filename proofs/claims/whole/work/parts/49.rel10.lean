theorem r_stat (r : Int32) : ∃ a : Nat, a ≤ 3 ∧ k_stat r = nI a := by
  unfold k_stat
  split
  · split
    · split
      · exact ⟨3, by decide, rfl⟩
      · exact ⟨2, by decide, rfl⟩
    · exact ⟨1, by decide, rfl⟩
  · exact ⟨0, by decide, rfl⟩
theorem r_alw : k_allows 0 3 = true ∧ k_allows 1 100 = true ∧ k_allows 8 0 = true ∧ k_allows 11 0 = true := by
  simp only [k_allows, k_exists, zlt_d, zle_d]
  decide
theorem r_safe1 (S : tSe) : k_safe S = (S.1, upd (upd (upd (upd (k_fill S.2 14 (-1)) 0 3) 1 100) 8 0) 11 0) := by
  unfold k_safe k_ask k_drop
  rw [r_alw.1, r_alw.2.1, r_alw.2.2.1, r_alw.2.2.2]
  rfl
theorem r_safe {S : tSe} {Y : tMd} (h : r_S S Y) : r_S (k_safe S) ((((m_c0 Y).1).1, ((m_c0 Y).1).2.1, ((m_c0 Y).1).2.2.1, (m_sfN Y.1.2.2.2.1), (m_sfP Y.1.2.2.2.2)), ((m_c0 Y).2.1), ((m_c0 Y).2.2.1), ((m_c0 Y).2.2.2.1), ((m_c0 Y).2.2.2.2.1), ((m_c0 Y).2.2.2.2.2.1), ((m_c0 Y).2.2.2.2.2.2.1), ((m_c0 Y).2.2.2.2.2.2.2.1), ((m_c0 Y).2.2.2.2.2.2.2.2.1), ((m_c0 Y).2.2.2.2.2.2.2.2.2)) := by
  rw [r_safe1]
  intro k hk
  obtain ⟨h1, h2, h3, h4, h5, -⟩ := h k hk
  refine ⟨h1, h2, h3, h4, h5, ?_⟩
  show ((m_sfP Y.1.2.2.2.2) k = 0 ∧ upd (upd (upd (upd (k_fill S.2 14 (-1)) 0 3) 1 100) 8 0) 11 0 k = -1) ∨ ((m_sfP Y.1.2.2.2.2) k = 1 ∧ upd (upd (upd (upd (k_fill S.2 14 (-1)) 0 3) 1 100) 8 0) 11 0 k = (m_sfN Y.1.2.2.2.1) k ∧ tLeast k ≤ upd (upd (upd (upd (k_fill S.2 14 (-1)) 0 3) 1 100) 8 0) 11 0 k ∧ upd (upd (upd (upd (k_fill S.2 14 (-1)) 0 3) 1 100) 8 0) 11 0 k ≤ tMost k)
  unfold m_sfP m_sfN k_fill
  rcases (show k = 0 ∨ k = 1 ∨ k = 2 ∨ k = 3 ∨ k = 4 ∨ k = 5 ∨ k = 6 ∨ k = 7 ∨ k = 8 ∨ k = 9 ∨ k = 10 ∨ k = 11 ∨ k = 12 ∨ k = 13 by omega) with e | e | e | e | e | e | e | e | e | e | e | e | e | e <;> subst e <;> simp [upd, tLeast, tMost] <;> decide
theorem r_bat {X : tCP} {Y : tMd} {t q : Nat} {r : Int32} (h : r_X X Y t q) : k_batR r X = m_baR r Y ∧ r_X (k_bat r X) (m_ba r Y) t q := by
  obtain ⟨hS, hC, hA, hV, hF, hP, hY, hM, hR, ⟨hq, s, hs, es⟩, hI⟩ := h
  obtain ⟨a, ha, ea⟩ := r_stat r
  have e1 : k_batR r X = nI (max s a) := by
    unfold k_batR zmax
    rw [es, ea]
    rcases Nat.lt_or_ge s a with z | z
    · rw [zlt_t (nI_lt z (by omega)), if_pos rfl, Nat.max_eq_right (by omega)]
    · rw [zlt_f (nI_nlt z (by omega)), if_neg (by decide), Nat.max_eq_left z]
  have e2 : m_baR r Y = nI (max s a) := by
    unfold m_baR
    rw [← hq, es, ea]
    rcases Nat.lt_or_ge s a with z | z
    · rw [zle_f (nI_ge z (by omega)), if_neg (by decide), Nat.max_eq_right (by omega)]
    · rw [zle_t (nI_le z (by omega)), if_pos rfl, Nat.max_eq_left z]
  refine ⟨by rw [e1, e2], ?_⟩
  have h3 : (3 : Int32) = nI 3 := rfl
  have hQ' : ∀ Z : tMd, Z.2.2.2.2.2.2.2.2.2.1 = m_baR r Y → r_Q (k_batR r X) Z := fun Z hz => ⟨by rw [hz, e1, e2], max s a, by omega, e1⟩
  by_cases hc : a = 3 ∧ s < 3
  · obtain ⟨c1, c2⟩ := hc
    subst c1
    have ek : k_bat1 r X = k_safeX X := by
      unfold k_bat1
      rw [e1, Nat.max_eq_right (by omega)]
      exact if_pos ⟨zeq_t rfl, by rw [es]; exact zeq_f (by rw [h3, nI_eq (by omega) (by decide)]; omega)⟩
    have em : m_ba1 r Y = ((((m_c0 Y).1).1, ((m_c0 Y).1).2.1, ((m_c0 Y).1).2.2.1, m_sfN Y.1.2.2.2.1, m_sfP Y.1.2.2.2.2), ((m_c0 Y).2.1), ((m_c0 Y).2.2.1), ((m_c0 Y).2.2.2.1), ((m_c0 Y).2.2.2.2.1), ((m_c0 Y).2.2.2.2.2.1), ((m_c0 Y).2.2.2.2.2.2.1), ((m_c0 Y).2.2.2.2.2.2.2.1), ((m_c0 Y).2.2.2.2.2.2.2.2.1), ((m_c0 Y).2.2.2.2.2.2.2.2.2)) := by
      unfold m_ba1
      rw [ea, show zeq (nI 3) 3 = true from zeq_t rfl, if_pos rfl, ← hq, es, show zle 3 (nI s) = false from zle_f (nI_ge (b := 3) c2 (by decide)), if_neg (by decide)]
    unfold k_bat m_ba
    rw [ek, em]
    refine ⟨r_safe hS, hC, hA, hV, hF, hP, hY, hM, hR, hQ' _ rfl, ?_⟩
    intro hl
    have hl2 : k_ledA (k_mode (k_safe X.1)) = true := hl
    rw [r_safe1] at hl2
    exact hI hl2
  · have ek : k_bat1 r X = X := by
      unfold k_bat1
      refine if_neg (fun z => hc ?_)
      have z1 := zeq_p z.1
      have z2 := zeq_n z.2
      rw [e1, h3, nI_eq (by omega) (by decide)] at z1
      rw [es, h3, nI_eq (by omega) (by decide)] at z2
      omega
    have em : m_ba1 r Y = m_c0 Y := by
      unfold m_ba1
      rw [ea, ← hq, es]
      rcases Nat.lt_or_ge a 3 with z | z
      · rw [zeq_f (by rw [h3, nI_eq (by omega) (by decide)]; omega), if_neg (by decide)]
      · have : a = 3 := by omega
        subst this
        rw [show zeq (nI 3) 3 = true from zeq_t rfl, if_pos rfl, show zle 3 (nI s) = true from zle_t (nI_le (a := 3) (by omega) (by omega)), if_pos rfl]
    unfold k_bat m_ba
    rw [ek, em]
    exact ⟨hS, hC, hA, hV, hF, hP, hY, hM, hR, hQ' _ rfl, hI⟩
/-- program: what the reference answers, and what is left behind, where the class accepts or refuses -/
theorem r_prog {X : tCP} {Y : tMd} {t q : Nat} {k a : Int32} (h : r_X X Y t q) :
    (k_allows k a = false → m_pcd k a Y = 1 ∧ r_X X (m_prY k a Y) t q ∧ ((m_prY k a Y).2.2.2.2.2.2.2.2.2).2 = 1) ∧
    (k_allows k a = true → zeq X.2.2.2.2.2.2.2.2.2 3 = true → m_pcd k a Y = 2 ∧ r_X X (m_prY k a Y) t q ∧ ((m_prY k a Y).2.2.2.2.2.2.2.2.2).2 = 2) ∧
    (k_allows k a = true → zeq X.2.2.2.2.2.2.2.2.2 3 = false → m_prR k a Y = k_latest X.1 k ∧ r_X (k_ask X.1 k a, X.2.1, X.2.2.1, X.2.2.2.1, X.2.2.2.2.1, X.2.2.2.2.2.1, X.2.2.2.2.2.2.1, X.2.2.2.2.2.2.2.1, X.2.2.2.2.2.2.2.2.1, X.2.2.2.2.2.2.2.2.2) (m_prY k a Y) t q ∧ ((m_prY k a Y).2.2.2.2.2.2.2.2.2).2 = 0) := by
  obtain ⟨hS, hC, hA, hV, hF, hP, hY, hM, hR, hQ, hI⟩ := h
  have hf := r_fits hS k a
  have z10 : zeq (1 : Int32) 0 = false := zeq_f (by decide)
  have z20 : zeq (2 : Int32) 0 = false := zeq_f (by decide)
  have z00 : zeq (0 : Int32) 0 = true := zeq_t rfl
  refine ⟨fun ha => ?_, fun ha hs => ?_, fun ha hs => ?_⟩
  · have e : m_pcd k a Y = 1 := by unfold m_pcd; rw [hf, ha]; rfl
    have ey : m_prY k a Y = (Y.1, Y.2.1, Y.2.2.1, Y.2.2.2.1, Y.2.2.2.2.1, Y.2.2.2.2.2.1, Y.2.2.2.2.2.2.1, Y.2.2.2.2.2.2.2.1, Y.2.2.2.2.2.2.2.2.1, (Y.2.2.2.2.2.2.2.2.2.1, 1)) := by unfold m_prY; rw [e, z10]; rfl
    rw [ey]
    exact ⟨e, ⟨hS, hC, hA, hV, hF, hP, hY, hM, hR, hQ, hI⟩, rfl⟩
  · have e : m_pcd k a Y = 2 := by unfold m_pcd; rw [hf, ha, ← hQ.1, hs]; rfl
    have ey : m_prY k a Y = (Y.1, Y.2.1, Y.2.2.1, Y.2.2.2.1, Y.2.2.2.2.1, Y.2.2.2.2.2.1, Y.2.2.2.2.2.2.1, Y.2.2.2.2.2.2.2.1, Y.2.2.2.2.2.2.2.2.1, (Y.2.2.2.2.2.2.2.2.2.1, 2)) := by unfold m_prY; rw [e, z20]; rfl
    rw [ey]
    exact ⟨e, ⟨hS, hC, hA, hV, hF, hP, hY, hM, hR, hQ, hI⟩, rfl⟩
  · have e : m_pcd k a Y = 0 := by unfold m_pcd; rw [hf, ha, ← hQ.1, hs]; rfl
    have ey : m_prY k a Y = m_put k a (Y.1, Y.2.1, Y.2.2.1, Y.2.2.2.1, Y.2.2.2.2.1, Y.2.2.2.2.2.1, Y.2.2.2.2.2.2.1, Y.2.2.2.2.2.2.2.1, Y.2.2.2.2.2.2.2.2.1, (Y.2.2.2.2.2.2.2.2.2.1, 0)) := by unfold m_prY; rw [e, z00]; rfl
    have er : m_prR k a Y = m_putR k (Y.1, Y.2.1, Y.2.2.1, Y.2.2.2.1, Y.2.2.2.2.1, Y.2.2.2.2.2.1, Y.2.2.2.2.2.2.1, Y.2.2.2.2.2.2.2.1, Y.2.2.2.2.2.2.2.2.1, (Y.2.2.2.2.2.2.2.2.2.1, 0)) := by unfold m_prR; rw [e, z00]; rfl
    have hk : k_exists k = true := by
      have := ha
      simp only [k_allows, Bool.and_eq_true] at this
      exact this.1.1
    rw [ey, er]
    refine ⟨(r_lat (Y := (Y.1, Y.2.1, Y.2.2.1, Y.2.2.2.1, Y.2.2.2.2.1, Y.2.2.2.2.2.1, Y.2.2.2.2.2.2.1, Y.2.2.2.2.2.2.2.1, Y.2.2.2.2.2.2.2.2.1, (Y.2.2.2.2.2.2.2.2.2.1, 0))) hS hk).1.symm, ⟨r_ask (Y := (Y.1, Y.2.1, Y.2.2.1, Y.2.2.2.1, Y.2.2.2.2.1, Y.2.2.2.2.2.1, Y.2.2.2.2.2.2.1, Y.2.2.2.2.2.2.2.1, Y.2.2.2.2.2.2.2.2.1, (Y.2.2.2.2.2.2.2.2.2.1, 0))) hS ha, hC, hA, hV, hF, hP, hY, hM, hR, hQ, ?_⟩, rfl⟩
    have em : k_mode (k_ask X.1 k a) = k_mode X.1 := by unfold k_ask; split <;> rfl
    intro hl
    exact hI (show k_ledA (k_mode X.1) = true by rw [← em]; exact hl)

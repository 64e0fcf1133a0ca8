theorem zeq_comm (a b : Int32) : zeq a b = zeq b a := by
  rw [zeq_d, zeq_d]
  by_cases h : a = b
  · simp [h]
  · have : ¬ b = a := fun q => h q.symm
    simp [h, this]
theorem r_sum {R : tFr} {f : Nat → Int32} : ∀ n : Nat, (∀ j : Nat, j < n → R.1 j = f (j + 1)) → k_sumN R n = m_sumN f n
  | 0, _ => rfl
  | n + 1, h => by
    show k_div (k_sumN R n ^^^ R.1 n) = k_div (m_sumN f n ^^^ f (n + 1))
    rw [r_sum n (fun j hj => h j (by omega)), h n (by omega)]
theorem r_rx {Y : tMd} {b : Int32} {g : Nat} (ht : Y.2.2.2.2.2.2.2.2.1.2 = nI (g + 1)) (hg : g < 5) : m_rx b Y = upd Y.2.2.2.2.2.2.2.2.1.1 (g + 1) (b &&& 255) := by
  unfold m_rx
  rw [ht, nI_clamp (by omega)]
theorem r_byn {Y : tMd} {b : Int32} (h : ∀ j : Nat, zlt (Y.2.2.2.2.2.2.2.2.1.1 j) 0 = false) : ∀ j : Nat, zlt (m_rx b Y j) 0 = false := fun j => m_rx0 h j
/-- a byte that ends no frame, or one whose sum is wrong: what is left of receive, when the frame is whole -/
theorem r_obey {X : tCP} {Y : tMd} {t q : Nat} {b : Int32} (h : r_X (k_rc1 b X) (m_r0 b Y) t q) (hb : ∀ j : Nat, j < 5 → (k_rc1 b X).2.2.2.2.2.2.2.2.1.1 j = m_rx b Y (j + 1)) (hn : ∀ j : Nat, zlt (m_rx b Y j) 0 = false) (hst : X.2.2.2.2.2.2.2.2.2 = Y.2.2.2.2.2.2.2.2.2.1) (hnw : ∀ k : Nat, k < 14 → X.1.1 k = Y.1.2.2.1 k) :
    k_obR ((k_rc1 b X).2.2.2.2.2.2.2.2.1.1 0) ((k_rc1 b X).2.2.2.2.2.2.2.2.1.1 1) ((k_rc1 b X).2.2.2.2.2.2.2.2.1.1 2 * 256 + (k_rc1 b X).2.2.2.2.2.2.2.2.1.1 3) (k_rc1 b X) = m_rcR2 b Y ∧ r_X (k_obX ((k_rc1 b X).2.2.2.2.2.2.2.2.1.1 0) ((k_rc1 b X).2.2.2.2.2.2.2.2.1.1 1) ((k_rc1 b X).2.2.2.2.2.2.2.2.1.1 2 * 256 + (k_rc1 b X).2.2.2.2.2.2.2.2.1.1 3) (k_rc1 b X)) (m_rcY2 b Y) t q := by
  have e0 := hb 0 (by decide)
  have e1 := hb 1 (by decide)
  have e2 : (k_rc1 b X).2.2.2.2.2.2.2.2.1.1 2 * 256 + (k_rc1 b X).2.2.2.2.2.2.2.2.1.1 3 = m_rv b Y := by
    unfold m_rv
    rw [hb 2 (by decide), hb 3 (by decide), Int32.mul_comm]
  rw [e0, e1, e2]
  have hS : r_S X.1 (m_r0 b Y) := h.1
  have hf : m_fits (m_rk b Y) (m_rv b Y) (m_r0 b Y) = k_allows (m_rk b Y) (m_rv b Y) := r_fits hS _ _
  have hex : k_exists (m_rk b Y) = !zle 14 (m_rk b Y) := by unfold k_exists; rw [show zlt (m_rk b Y) 0 = false from hn 2]; rfl
  have hin : k_exists (m_rk b Y) = true → k_inF X.1 (m_rk b Y) = Y.1.2.2.1 (m_rk b Y).toNatClampNeg := by
    intro hk
    obtain ⟨j, hj, e⟩ := vp_in_of (vp_ex hk) (by decide)
    rw [e, r_inF _ hj rfl, nI_clamp (by omega)]
    exact hnw j hj
  have h3 : (if zeq (m_rx b Y 1) 1 = true ∧ k_allows (m_rk b Y) (m_rv b Y) = true then (if zeq X.2.2.2.2.2.2.2.2.2 3 = true then -4 else 0) else -3) = m_rcR3 b Y ∧ r_X (if zeq (m_rx b Y 1) 1 = true ∧ k_allows (m_rk b Y) (m_rv b Y) = true then (if zeq X.2.2.2.2.2.2.2.2.2 3 = true then k_rc1 b X else (k_ask (k_rc1 b X).1 (m_rk b Y) (m_rv b Y), (k_rc1 b X).2.1, (k_rc1 b X).2.2.1, (k_rc1 b X).2.2.2.1, (k_rc1 b X).2.2.2.2.1, (k_rc1 b X).2.2.2.2.2.1, (k_rc1 b X).2.2.2.2.2.2.1, (k_rc1 b X).2.2.2.2.2.2.2.1, (k_rc1 b X).2.2.2.2.2.2.2.2.1, (k_rc1 b X).2.2.2.2.2.2.2.2.2)) else k_rc1 b X) (m_rcY3 b Y) t q := by
    unfold m_rcR3 m_rcY3
    rw [hf, hst]
    cases z1 : zeq (m_rx b Y 1) 1
    · simp only [Bool.false_eq_true, false_and, if_false]
      exact ⟨trivial, h⟩
    · cases z2 : k_allows (m_rk b Y) (m_rv b Y)
      · simp only [Bool.false_eq_true, and_false, if_false, if_true]
        exact ⟨trivial, h⟩
      · cases z3 : zeq Y.2.2.2.2.2.2.2.2.2.1 3
        · simp only [Bool.false_eq_true, and_self, if_false, if_true]
          have hk : k_exists (m_rk b Y) = true := by
            simp only [k_allows, Bool.and_eq_true] at z2
            exact z2.1.1
          rw [(r_lat hS hk).2, if_pos rfl]
          refine ⟨rfl, ?_⟩
          obtain ⟨-, hC, hA, hV, hF, hP, hY, hM, hR, hQ, hI⟩ := h
          refine ⟨r_ask hS z2, hC, hA, hV, hF, hP, hY, hM, hR, hQ, ?_⟩
          have em : k_mode (k_ask X.1 (m_rk b Y) (m_rv b Y)) = k_mode X.1 := by unfold k_ask; split <;> rfl
          intro hl
          exact hI (show k_ledA (k_mode X.1) = true by rw [← em]; exact hl)
        · simp only [and_self, if_true]
          exact ⟨trivial, h⟩
  unfold k_obR k_obX m_rcR2 m_rcY2
  have hse : (k_rc1 b X).1 = X.1 := rfl
  have hq : (k_rc1 b X).2.2.2.2.2.2.2.2.2 = X.2.2.2.2.2.2.2.2.2 := rfl
  rw [hse, hq]
  cases z1 : zeq (m_rx b Y 1) 2
  · simp only [Bool.false_eq_true, false_and, if_false]
    exact h3
  · cases z2 : zle 14 (m_rk b Y)
    · have hk : k_exists (m_rk b Y) = true := by rw [hex, z2]; rfl
      have hk2 : k_exists (m_rx b Y (1 + 1)) = true := hk
      simp only [hk2, and_self, if_true, Bool.false_eq_true, if_false]
      exact ⟨hin hk, h⟩
    · have hk : k_exists (m_rx b Y (1 + 1)) = false := by show k_exists (m_rk b Y) = false; rw [hex, z2]; rfl
      simp only [hk, Bool.false_eq_true, and_false, if_false, if_true]
      exact h3
theorem r_recv {X : tCP} {Y : tMd} {t q : Nat} {b : Int32} (h : r_X X Y t q) : k_rcR b X = m_rcR b Y ∧ r_X (k_rcX b X) (m_rcY b Y) t q := by
  obtain ⟨hS, hC, hA, hV, hF, hP, hY, hM, ⟨hb, hR⟩, hQ, hI⟩ := h
  have n1 : (-1 : Int32) < 0 := by decide
  have h255 := m_255 b
  rcases hR with ⟨ht, hR⟩ | ⟨g, hg, eR, eT, hj⟩
  · have ee : k_ends (b &&& 255) X.2.2.2.2.2.2.2.2.1 = false := by
      unfold k_ends
      rcases hR with e | e
      · rw [e, zlt_t n1, if_pos rfl]
      · rw [e, zlt_f (by decide), if_neg (by decide), zlt_f (by decide), if_neg (by decide)]
    have eg : k_gets (b &&& 255) X.2.2.2.2.2.2.2.2.1 = (X.2.2.2.2.2.2.2.2.1.1, if zeq (b &&& 255) 126 = true then 0 else -1) := by
      unfold k_gets
      rcases hR with e | e
      · rw [e, zlt_t n1, if_pos rfl]
      · rw [e, zlt_f (by decide), if_neg (by decide), zlt_f (by decide), if_neg (by decide)]
    have z0 : zeq Y.2.2.2.2.2.2.2.2.1.2 0 = true := by rw [ht]; exact zeq_t rfl
    have z6 : zle 6 (Y.2.2.2.2.2.2.2.2.1.2 + 1) = false := by rw [ht]; exact zle_f (by decide)
    unfold k_rcR k_rcX m_rcR m_rcY m_rcR1 m_rcY1
    rw [ee, z0, z6]
    cases hz : zeq (b &&& 255) 126
    · simp only [Bool.false_eq_true, if_false, if_true]
      refine ⟨trivial, hS, hC, hA, hV, hF, hP, hY, hM, ⟨hb, Or.inl ⟨ht, Or.inl ?_⟩⟩, hQ, hI⟩
      show (k_gets (b &&& 255) X.2.2.2.2.2.2.2.2.1).2 = -1
      rw [eg, hz]; rfl
    · simp only [Bool.false_eq_true, if_false, if_true]
      refine ⟨trivial, hS, hC, hA, hV, hF, hP, hY, hM, ⟨r_byn hb, Or.inr ⟨0, by decide, ?_, ?_, fun j hj => absurd hj (by omega)⟩⟩, hQ, hI⟩
      · show (k_gets (b &&& 255) X.2.2.2.2.2.2.2.2.1).2 = nI 0
        rw [eg, hz]; rfl
      · show Y.2.2.2.2.2.2.2.2.1.2 + 1 = nI (0 + 1)
        rw [ht]; rfl
  · have z1 : zlt (nI g) 0 = false := zlt_f (nI_pos (by omega))
    have z2 : zlt (nI g) 5 = true := zlt_t (nI_lt (b := 5) hg (by decide))
    have ee : k_ends (b &&& 255) X.2.2.2.2.2.2.2.2.1 = zeq (nI (g + 1)) 5 := by
      unfold k_ends
      rw [eR, z1, if_neg (by decide), z2, if_pos rfl, nI_1]
    have eg : k_gets (b &&& 255) X.2.2.2.2.2.2.2.2.1 = (upd X.2.2.2.2.2.2.2.2.1.1 g (b &&& 255), nI (g + 1)) := by
      unfold k_gets
      rw [eR, z1, if_neg (by decide), z2, if_pos rfl, nI_1, nI_clamp (by omega)]
    have z0 : zeq Y.2.2.2.2.2.2.2.2.1.2 0 = false := by rw [eT]; exact zeq_f (nI_ne0 (by omega) (by omega))
    have et : Y.2.2.2.2.2.2.2.2.1.2 + 1 = nI (g + 2) := by rw [eT, nI_1]
    have hrx := r_rx (b := b) eT hg
    have hby : ∀ j : Nat, j < g + 1 → (k_rc1 b X).2.2.2.2.2.2.2.2.1.1 j = m_rx b Y (j + 1) := by
      intro j hj1
      show (k_gets (b &&& 255) X.2.2.2.2.2.2.2.2.1).1 j = _
      rw [eg, hrx]
      show upd X.2.2.2.2.2.2.2.2.1.1 g (b &&& 255) j = upd Y.2.2.2.2.2.2.2.2.1.1 (g + 1) (b &&& 255) (j + 1)
      by_cases hjg : j = g
      · rw [hjg, pk_us, pk_us]
      · rw [pk_un hjg, pk_un (by omega)]; exact hj j (by omega)
    unfold k_rcR k_rcX m_rcR m_rcY
    rw [ee, z0, if_neg (by decide : ¬ (false = true)), if_neg (by decide : ¬ (false = true))]
    unfold m_rcR1 m_rcY1
    rw [et]
    rcases Nat.lt_or_ge g 4 with g4 | g4
    · have w1 : zeq (nI (g + 1)) 5 = false := zeq_f (by rw [show (5 : Int32) = nI 5 from rfl, nI_eq (by omega) (by decide)]; omega)
      have w2 : zle 6 (nI (g + 2)) = false := zle_f (nI_ge (b := 6) (by omega) (by decide))
      rw [w1, w2]
      simp only [Bool.false_eq_true, if_false]
      refine ⟨trivial, hS, hC, hA, hV, hF, hP, hY, hM, ⟨r_byn hb, Or.inr ⟨g + 1, by omega, ?_, et, hby⟩⟩, hQ, hI⟩
      show (k_gets (b &&& 255) X.2.2.2.2.2.2.2.2.1).2 = _
      rw [eg]
    · have e4 : g = 4 := by omega
      subst e4
      have w1 : zeq (nI (4 + 1)) 5 = true := zeq_t rfl
      have w2 : zle 6 (nI (4 + 2)) = true := zle_t (by decide)
      rw [w1, w2]
      simp only [if_true]
      have hsum : k_sumOk (k_rc1 b X).2.2.2.2.2.2.2.2.1 = zeq (m_rx b Y 5) (m_sumN (m_rx b Y) 4) := by
        unfold k_sumOk
        rw [r_sum (f := m_rx b Y) 4 (fun j hj => hby j (by omega)), hby 4 (by decide), zeq_comm]
      rw [hsum]
      have h1 : r_X (k_rc1 b X) (m_r0 b Y) t q := by
        refine ⟨hS, hC, hA, hV, hF, hP, hY, hM, ⟨r_byn hb, Or.inl ⟨rfl, Or.inr ?_⟩⟩, hQ, hI⟩
        show (k_gets (b &&& 255) X.2.2.2.2.2.2.2.2.1).2 = 5
        rw [eg]; rfl
      cases hz : zeq (m_rx b Y 5) (m_sumN (m_rx b Y) 4)
      · simp only [Bool.false_eq_true, if_false]
        exact ⟨trivial, h1⟩
      · simp only [if_true]
        exact r_obey h1 hby (r_byn hb) hQ.1 (fun k hk => (hS k hk).1)

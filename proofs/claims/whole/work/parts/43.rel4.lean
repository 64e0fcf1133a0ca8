theorem r_m1 {a : Nat} (h : a < 2 ^ 31) : ¬ nI a = -1 := by
  intro e
  have h0 := nI_pos' h
  rw [e] at h0
  exact absurd h0 (by decide)
theorem r_run {C : tCk} {Y : tMd} {t : Nat} (h : r_C C Y t) (hb : t < 2 ^ 31) : k_avRuns C = Y.2.1.2.2.2.2.1 := by
  unfold k_avRuns
  rcases h.2.2.2.2.2 with ⟨e1, e2⟩ | ⟨e1, a, h1, e2, e3⟩
  · rw [e1, e2, zeq_t rfl]; rfl
  · rw [e1, e2, zeq_f (r_m1 (by omega))]; rfl
theorem r_fl (j : Nat) (hj : j < 8) : (k_foll (nI j) = true → k_ledA (nI j) = false) ∧ (k_both (nI j) = true → k_ledA (nI j) = false) := by
  simp only [k_ledA, k_both, k_foll, zeq_d]
  rcases (show j = 0 ∨ j = 1 ∨ j = 2 ∨ j = 3 ∨ j = 4 ∨ j = 5 ∨ j = 6 ∨ j = 7 by omega) with rfl | rfl | rfl | rfl | rfl | rfl | rfl | rfl <;> decide
theorem r_flS {S : tSe} {Y : tMd} (h : r_S S Y) : (k_foll (k_mode S) = true → k_ledA (k_mode S) = false) ∧ (k_both (k_mode S) = true → k_ledA (k_mode S) = false) := by
  obtain ⟨j, hj, e1, -⟩ := r_md h
  unfold k_mode
  rw [e1]
  exact r_fl j hj
theorem r_ven {X : tCP} {Y : tMd} {t q : Nat} {b : Bool} {kd : Int32} (hk : kd = if b = true then 1 else 3) (h : r_X X Y t q) (hq : q + 3 < 2 ^ 31) (hb : t < 2 ^ 31) : ∃ q' : Nat, q' ≤ q + 3 ∧ r_X (k_ven kd b X) (m_ven b Y) t q' := by
  obtain ⟨hS, hC, hA, hV, hF, hP, hY, hM, hR, hQ, hI⟩ := h
  have hm := (r_modes hS).1
  have h1 : r_X (k_ven1 kd X) (m_v2 b Y) t (q + 1) := by
    refine ⟨hS, ⟨hC.1, hC.2.1, ⟨0, by decide, rfl, rfl⟩, hC.2.2.2.1, rfl, Or.inl ⟨rfl, rfl⟩⟩, hA, hV, hF, hP, hY, ?_, hR, hQ, fun _ => rfl⟩
    rw [hk]
    exact r_keep (Y := Y) hM (by omega) (r_tm hC)
  cases hz : k_ledA (k_mode X.1)
  · obtain ⟨q1, h2, h3⟩ := r_bound (b := b) h1 (by omega) hb
    refine ⟨q1, by omega, ?_⟩
    have ek : k_ven kd b X = k_bound b (k_ven1 kd X) := by unfold k_ven; exact if_fb hz
    have em : m_ven b Y = m_bound b (m_v2 b Y) := by unfold m_ven; rw [hm, hz]; exact if_pos rfl
    rw [ek, em]; exact h3
  · refine ⟨q + 1, by omega, ?_⟩
    have ek : k_ven kd b X = k_ven1 kd X := by unfold k_ven; exact if_pos hz
    have em : m_ven b Y = m_v2 b Y := by unfold m_ven; rw [hm, hz]; exact if_neg (by decide)
    rw [ek, em]; exact h1
theorem r_a1 {X : tCP} {Y : tMd} {t q : Nat} {b : Bool} {kd : Int32} (hk : kd = if b = true then 0 else 2) (h : r_X X Y t q) (hq : q + 3 < 2 ^ 31) : ∃ q' : Nat, q' ≤ q + 2 ∧ r_X (k_at1 kd b X) (m_a2 b Y) t q' := by
  obtain ⟨hS, hC, hA, hV, hF, hP, hY, hM, hR, hQ, hI⟩ := h
  have hm := (r_modes hS).2.2.2.2
  have h1 : r_X (k_at0 kd X) (m_a1 b Y) t (q + 1) := by
    refine ⟨hS, hC, hA, hV, hF, hP, hY, ?_, hR, hQ, hI⟩
    rw [hk]
    exact r_keep (Y := Y) hM (by omega) (r_tm hC)
  cases b
  · refine ⟨q + 1, by omega, ?_⟩
    have ek : k_at1 kd false X = k_at0 kd X := by unfold k_at1; exact if_neg (fun q => by cases q.1)
    have em : m_a2 false Y = m_a1 false Y := by unfold m_a2; exact if_neg (by decide)
    rw [ek, em]; exact h1
  · have em0 : m_a2 true Y = m_tf (m_a1 true Y) := by unfold m_a2; exact if_pos rfl
    have hm1 : m_mode 160 (m_a1 true Y) = k_foll (k_mode X.1) := hm
    cases hz : k_foll (k_mode X.1)
    · refine ⟨q + 1, by omega, ?_⟩
      have ek : k_at1 kd true X = k_at0 kd X := by unfold k_at1; exact if_neg (fun q => by have := q.2; rw [show k_foll (k_mode (k_at0 kd X).1) = false from hz] at this; cases this)
      have em : m_tf (m_a1 true Y) = m_a1 true Y := by unfold m_tf; exact if_fb (hm1.trans hz)
      rw [ek, em0, em]; exact h1
    · obtain ⟨q1, h2, h3⟩ := r_tell h1 (by omega)
      refine ⟨q1, by omega, ?_⟩
      have ek : k_at1 kd true X = k_tell (k_at0 kd X) := by unfold k_at1; exact if_pos ⟨rfl, hz⟩
      have em : m_tf (m_a1 true Y) = m_tf3 (m_a1 true Y) := by unfold m_tf; exact if_pos (hm1.trans hz)
      rw [ek, em0, em]; exact h3
theorem r_a2 {X : tCP} {Y : tMd} {t q : Nat} {b : Bool} {kd : Int32} (h : r_X (k_at1 kd b X) (m_a2 b Y) t q) : r_X (k_at2 kd b X) (m_a3 b Y) t q := by
  obtain ⟨hS, hC, hA, hV, hF, hP, hY, hM, hR, hQ, hI⟩ := h
  refine ⟨hS, ⟨hC.1, ⟨0, by decide, rfl, rfl⟩, hC.2.2.1, ?_, rfl, hC.2.2.2.2.2⟩, hA, hV, hF, hP, hY, hM, hR, hQ, hI⟩
  obtain ⟨a, h1, h2, h3⟩ := hC.2.2.2.1
  cases b
  · exact ⟨0, by decide, rfl, rfl⟩
  · exact ⟨a, h1, h2, h3⟩
theorem r_beg {X : tCP} {Y : tMd} {t q : Nat} {b : Bool} (h : r_X X Y t q) (hb : t < 2 ^ 31) : k_begAv b X = m_beg b Y := by
  obtain ⟨hS, hC, hA, hV, hF, hP, hY, hM, hR, hQ, hI⟩ := h
  unfold k_begAv m_beg
  rw [(r_modes hS).2.2.2.2, (r_modes hS).2.1, r_run hC hb, hF.2.2]
theorem r_a3 {X : tCP} {Y : tMd} {t q : Nat} {b : Bool} {kd : Int32} (h : r_X (k_at2 kd b X) (m_a3 b Y) t q) (hb : t < 2 ^ 31) : r_X (k_at3 kd b X) (m_a4 b Y) t q := by
  have e := r_beg (b := b) h hb
  cases hz : m_beg b (m_a3 b Y)
  · have ek : k_at3 kd b X = k_at2 kd b X := by unfold k_at3; exact if_fb (e.trans hz)
    have em : m_a4 b Y = m_a3 b Y := by unfold m_a4; exact if_fb hz
    rw [ek, em]; exact h
  · have ek : k_at3 kd b X = ((k_at2 kd b X).1, k_startAv (k_at2 kd b X).2.1, (k_at2 kd b X).2.2.1, (k_at2 kd b X).2.2.2.1, (k_at2 kd b X).2.2.2.2.1, (k_at2 kd b X).2.2.2.2.2.1, (k_at2 kd b X).2.2.2.2.2.2.1, (k_at2 kd b X).2.2.2.2.2.2.2.1, (k_at2 kd b X).2.2.2.2.2.2.2.2.1, (k_at2 kd b X).2.2.2.2.2.2.2.2.2) := by unfold k_at3; exact if_pos (e.trans hz)
    have em : m_a4 b Y = (((m_a3 b Y).1), (((m_a3 b Y).2.1).1, ((m_a3 b Y).2.1).2.1, ((m_a3 b Y).2.1).2.2.1, ((m_a3 b Y).2.1).2.2.2.1, true, 0, ((m_a3 b Y).2.1).2.2.2.2.2.2), ((m_a3 b Y).2.2.1), ((m_a3 b Y).2.2.2.1), ((m_a3 b Y).2.2.2.2.1), ((m_a3 b Y).2.2.2.2.2.1), ((m_a3 b Y).2.2.2.2.2.2.1), ((m_a3 b Y).2.2.2.2.2.2.2.1), ((m_a3 b Y).2.2.2.2.2.2.2.2.1), ((m_a3 b Y).2.2.2.2.2.2.2.2.2)) := by unfold m_a4; exact if_pos hz
    rw [ek, em]
    obtain ⟨hS, hC, hA, hV, hF, hP, hY, hM, hR, hQ, hI⟩ := h
    refine ⟨hS, ⟨hC.1, hC.2.1, hC.2.2.1, hC.2.2.2.1, hC.2.2.2.2.1, Or.inr ⟨rfl, 0, Nat.zero_le t, rfl, rfl⟩⟩, hA, hV, hF, hP, hY, hM, hR, hQ, ?_⟩
    intro hl
    exfalso
    have hl2 : k_ledA (k_mode (k_at2 kd b X).1) = true := hl
    rw [← e] at hz
    unfold k_begAv at hz
    cases b
    · rw [if_neg (by decide)] at hz
      rw [(r_flS hS).2 hz] at hl2; cases hl2
    · rw [if_pos rfl] at hz
      simp only [Bool.and_eq_true] at hz
      rw [(r_flS hS).1 hz.1.1] at hl2; cases hl2
theorem r_atr {X : tCP} {Y : tMd} {t q : Nat} {b : Bool} {kd : Int32} (hk : kd = if b = true then 0 else 2) (h : r_X X Y t q) (hq : q + 5 < 2 ^ 31) (hb : t < 2 ^ 31) : ∃ q' : Nat, q' ≤ q + 4 ∧ r_X (k_atr kd b X) (m_atr b Y) t q' := by
  have hm := (r_modes h.1).1
  obtain ⟨q1, h1, h2⟩ := r_a1 hk h (by omega)
  have h3 := r_a3 (r_a2 h2) hb
  have hse : k_mode (k_at3 kd b X).1 = k_mode X.1 := by
    have e : (k_at3 kd b X).1 = X.1 := by
      unfold k_at3
      have e1 : (k_at1 kd b X).1 = X.1 := by
        unfold k_at1
        split
        · unfold k_tell; split <;> rfl
        · rfl
      split <;> exact e1
    rw [e]
  cases hz : k_ledA (k_mode X.1)
  · refine ⟨q1, by omega, ?_⟩
    have ek : k_atr kd b X = k_at3 kd b X := by unfold k_atr; rw [hse]; exact if_fb hz
    have em : m_atr b Y = m_a4 b Y := by unfold m_atr; exact if_fb (hm.trans hz)
    rw [ek, em]; exact h3
  · obtain ⟨q2, h4, h5⟩ := r_bound (b := b) h3 (by omega) hb
    refine ⟨q2, by omega, ?_⟩
    have ek : k_atr kd b X = k_bound b (k_at3 kd b X) := by unfold k_atr; rw [hse]; exact if_pos hz
    have em : m_atr b Y = m_bound b (m_a4 b Y) := by unfold m_atr; exact if_pos (hm.trans hz)
    rw [ek, em]; exact h5

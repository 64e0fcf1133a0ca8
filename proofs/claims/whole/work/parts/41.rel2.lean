def r_W (X : tCP) (Y : tMd) (t q : Nat) : Prop := r_S X.1 Y ∧ r_C X.2.1 Y t ∧ r_A X.2.2.1 Y ∧ r_V X.2.2.2.1 Y ∧ r_F X.2.2.2.2.1 Y ∧ r_P X.2.2.2.2.2.1 Y ∧ r_Y X.2.2.2.2.2.2.1 Y t ∧ r_M X.2.2.2.2.2.2.2.1 Y q ∧ r_R X.2.2.2.2.2.2.2.2.1 Y ∧ r_Q X.2.2.2.2.2.2.2.2.2 Y
theorem r_XW {X : tCP} {Y : tMd} {t q : Nat} (h : r_X X Y t q) : r_W X Y t q := ⟨h.1, h.2.1, h.2.2.1, h.2.2.2.1, h.2.2.2.2.1, h.2.2.2.2.2.1, h.2.2.2.2.2.2.1, h.2.2.2.2.2.2.2.1, h.2.2.2.2.2.2.2.2.1, h.2.2.2.2.2.2.2.2.2.1⟩
theorem r_WX {X : tCP} {Y : tMd} {t q : Nat} (h : r_W X Y t q) (hI : r_I X) : r_X X Y t q := ⟨h.1, h.2.1, h.2.2.1, h.2.2.2.1, h.2.2.2.2.1, h.2.2.2.2.2.1, h.2.2.2.2.2.2.1, h.2.2.2.2.2.2.2.1, h.2.2.2.2.2.2.2.2.1, h.2.2.2.2.2.2.2.2.2, hI⟩
theorem tLeast0 : ∀ k : Nat, k < 14 → (0 : Int32) ≤ tLeast k := by decide
theorem r_nm1 {x : Int32} {k : Nat} (hk : k < 14) (h : tLeast k ≤ x) : ¬ x = -1 := by
  intro e
  have h0 := tLeast0 k hk
  rw [e] at h
  rw [Int32.le_iff_toInt_le] at h h0
  have e1 : (-1 : Int32).toInt = -1 := by decide
  have e0 : (0 : Int32).toInt = 0 := by decide
  omega
theorem r_leave {X : tCP} {Y : tMd} {t q : Nat} (h : r_W X Y t q) (hq : q + 1 < 2 ^ 31) : ∃ q' : Nat, q' ≤ q + 1 ∧ r_X (k_leave X) (((m_lv2 Y).1), ((m_lv2 Y).2.1), ((m_lv2 Y).2.2.1), ((m_lv2 Y).2.2.2.1), (((m_lv2 Y).2.2.2.2.1).1, ((m_lv2 Y).2.2.2.2.1).2.1, false), ((m_lv2 Y).2.2.2.2.2.1), ((m_lv2 Y).2.2.2.2.2.2.1), ((m_lv2 Y).2.2.2.2.2.2.2.1), ((m_lv2 Y).2.2.2.2.2.2.2.2.1), ((m_lv2 Y).2.2.2.2.2.2.2.2.2)) t q' := by
  obtain ⟨hS, ⟨hC1, hC2, hC3, hC4, hC5, hC6⟩, hA, hV, ⟨f1, f2, f3⟩, hP, hY, hM, hR, hQ⟩ := h
  have ht : X.2.1.1 = Y.2.1.1 := by rw [hC1.1, hC1.2]
  have hC' : r_C (k_stopAv X.2.1) (m_lv1 Y) t := ⟨hC1, hC2, hC3, hC4, hC5, Or.inl ⟨rfl, rfl⟩⟩
  cases hg : X.2.2.2.2.1.2.2
  · refine ⟨q, by omega, ?_⟩
    have ek : k_leave X = (X.1, k_stopAv X.2.1, X.2.2.1, X.2.2.2.1, (0, 0, false), X.2.2.2.2.2.1, X.2.2.2.2.2.2.1, X.2.2.2.2.2.2.2.1, X.2.2.2.2.2.2.2.2.1, X.2.2.2.2.2.2.2.2.2) := by simp [k_leave, k_lea1, k_forget, k_stopAv, hg]
    have em : m_lv2 Y = m_lv1 Y := by unfold m_lv2 m_lv1; simp [← f3, hg]
    rw [ek, em]
    exact ⟨hS, hC', hA, hV, ⟨rfl, rfl, rfl⟩, hP, hY, hM, hR, hQ, fun _ => rfl⟩
  · refine ⟨q + 1, by omega, ?_⟩
    have ek : k_leave X = (X.1, k_stopAv X.2.1, X.2.2.1, X.2.2.2.1, (0, 0, false), X.2.2.2.2.2.1, X.2.2.2.2.2.2.1, k_keep 5 X.2.1.1 X.2.2.2.2.2.2.2.1, X.2.2.2.2.2.2.2.2.1, X.2.2.2.2.2.2.2.2.2) := by simp [k_leave, k_lea1, k_forget, k_stopAv, hg]
    have em : m_lv2 Y = m_mark 5 (m_lv1 Y) := by unfold m_lv2 m_lv1; simp [← f3, hg]
    rw [ek, em]
    exact ⟨hS, hC', hA, hV, ⟨rfl, rfl, rfl⟩, hP, hY, r_keep (Y := m_lv1 Y) hM hq ht, hR, hQ, fun _ => rfl⟩
theorem r_any {S : tSe} {Y : tMd} (h : r_S S Y) : ∀ n : Nat, n ≤ 14 → k_any S n = m_any Y n
  | 0, _ => rfl
  | n + 1, hn => by
    have ih := r_any h n (by omega)
    show (if zeq (S.2 n) (-1) = true then k_any S n else true) = (m_any Y n || !zeq (Y.1.2.2.2.2 n) 0)
    rcases (h n (by omega)).2.2.2.2.2 with ⟨e1, e2⟩ | ⟨e1, e2, e3, e4⟩
    · rw [e1, e2, zeq_t rfl, zeq_t rfl, if_pos rfl, ih]; simp
    · rw [if_fb (zeq_f (r_nm1 (by omega) e3)), e1, zeq_f (by decide)]; simp
theorem r_pif {S : tSe} {Y : tMd} (h : r_S S Y) : r_S (k_pif S) (m_bdK Y 14) := by
  intro k hk
  obtain ⟨h1, h2, h3, h4, h5, h6⟩ := h k hk
  have eA : (k_pif S).2 k = -1 := by show k_pifA S 14 k = -1; unfold k_pifA; rw [if_pos hk]
  have eP : ((m_bdK Y 14).1).2.2.2.2 k = 0 := by show m_pP Y 14 k = 0; unfold m_pP; rw [if_pos hk]
  rcases h6 with ⟨e1, e2⟩ | ⟨e1, e2, e3, e4⟩
  · have a1 : (k_pif S).1 k = S.1 k := by show k_pifF S 14 k = _; unfold k_pifF; rw [if_neg (fun q => by rw [e2, zeq_t rfl] at q; exact absurd q.2 (by decide))]
    have a2 : ((m_bdK Y 14).1).2.2.1 k = Y.1.2.2.1 k := by show m_pN Y 14 k = _; unfold m_pN; rw [if_neg (fun q => by rw [e1, zeq_t rfl] at q; exact absurd q.2 (by decide))]
    exact ⟨by rw [a1, a2, h1], h2, h3, by rw [a1]; exact h4, by rw [a1]; exact h5, Or.inl ⟨eP, eA⟩⟩
  · have a1 : (k_pif S).1 k = S.2 k := by show k_pifF S 14 k = _; unfold k_pifF; rw [if_pos ⟨hk, zeq_f (r_nm1 hk e3)⟩]
    have a2 : ((m_bdK Y 14).1).2.2.1 k = Y.1.2.2.2.1 k := by show m_pN Y 14 k = _; unfold m_pN; rw [if_pos ⟨hk, by rw [e1]; exact zeq_f (by decide)⟩]
    exact ⟨by rw [a1, a2, e2], h2, h3, by rw [a1]; exact e3, by rw [a1]; exact e4, Or.inl ⟨eP, eA⟩⟩
theorem r_bd1 {X : tCP} {Y : tMd} {t q : Nat} (h : r_X X Y t q) (hq : q + 1 < 2 ^ 31) : ∃ q' : Nat, q' ≤ q + 1 ∧ r_W (k_bd1 X) (m_bd1 Y) t q' := by
  obtain ⟨hS, hC, hA, hV, hF, hP, hY, hM, hR, hQ, hI⟩ := h
  have ht := r_tm hC
  have ha := r_any hS 14 (by decide)
  cases hg : m_any Y 14
  · refine ⟨q, by omega, ?_⟩
    have ek : k_bd1 X = (k_pif X.1, X.2.1, X.2.2.1, X.2.2.2.1, X.2.2.2.2.1, X.2.2.2.2.2.1, X.2.2.2.2.2.2.1, X.2.2.2.2.2.2.2.1, X.2.2.2.2.2.2.2.2.1, X.2.2.2.2.2.2.2.2.2) := by unfold k_bd1; rw [ha, hg]; simp
    have em : m_bd1 Y = m_bdK Y 14 := by unfold m_bd1; rw [hg]; simp
    rw [ek, em]
    exact ⟨r_pif hS, hC, hA, hV, hF, hP, hY, hM, hR, hQ⟩
  · refine ⟨q + 1, by omega, ?_⟩
    have ek : k_bd1 X = (k_pif X.1, X.2.1, X.2.2.1, X.2.2.2.1, X.2.2.2.2.1, X.2.2.2.2.2.1, X.2.2.2.2.2.2.1, k_keep 6 X.2.1.1 X.2.2.2.2.2.2.2.1, X.2.2.2.2.2.2.2.2.1, X.2.2.2.2.2.2.2.2.2) := by unfold k_bd1; rw [ha, hg]; simp
    have em : m_bd1 Y = m_mark 6 (m_bdK Y 14) := by unfold m_bd1; rw [hg]; simp
    rw [ek, em]
    exact ⟨r_pif hS, hC, hA, hV, hF, hP, hY, r_keep (Y := m_bdK Y 14) hM hq ht, hR, hQ⟩
theorem k_bd1_ck (X : tCP) : (k_bd1 X).2.1 = X.2.1 := rfl
theorem r_bd2 {X : tCP} {Y : tMd} {t q : Nat} (h : r_X X Y t q) (hq : q + 2 < 2 ^ 31) : ∃ q' : Nat, q' ≤ q + 2 ∧ r_X (k_bd2 X) (m_bd2 Y) t q' := by
  obtain ⟨q1, hq1, h1⟩ := r_bd1 h (by omega)
  have e0 : k_mode X.1 = Y.1.2.2.1 0 := (h.1 0 (by decide)).1
  have e1 : k_mode (k_bd1 X).1 = ((m_bd1 Y).1).2.2.1 0 := (h1.1 0 (by decide)).1
  cases hz : zeq (((m_bd1 Y).1).2.2.1 0) (Y.1.2.2.1 0)
  · obtain ⟨q2, hq2, h2⟩ := r_leave h1 (by omega)
    refine ⟨q2, by omega, ?_⟩
    have ek : k_bd2 X = k_leave (k_bd1 X) := by unfold k_bd2; rw [e0, e1, hz]; simp
    have em : m_bd2 Y = (((m_lv2 (m_bd1 Y)).1), ((m_lv2 (m_bd1 Y)).2.1), ((m_lv2 (m_bd1 Y)).2.2.1), ((m_lv2 (m_bd1 Y)).2.2.2.1), (((m_lv2 (m_bd1 Y)).2.2.2.2.1).1, ((m_lv2 (m_bd1 Y)).2.2.2.2.1).2.1, false), ((m_lv2 (m_bd1 Y)).2.2.2.2.2.1), ((m_lv2 (m_bd1 Y)).2.2.2.2.2.2.1), ((m_lv2 (m_bd1 Y)).2.2.2.2.2.2.2.1), ((m_lv2 (m_bd1 Y)).2.2.2.2.2.2.2.2.1), ((m_lv2 (m_bd1 Y)).2.2.2.2.2.2.2.2.2)) := by unfold m_bd2; rw [hz]; simp
    rw [ek, em]
    exact h2
  · refine ⟨q1, by omega, ?_⟩
    have ek : k_bd2 X = k_bd1 X := by unfold k_bd2; rw [e0, e1, hz]; simp
    have em : m_bd2 Y = m_bd1 Y := by unfold m_bd2; rw [hz]; simp
    rw [ek, em]
    refine r_WX h1 ?_
    intro hl
    rw [e1, zeq_p hz, ← e0] at hl
    exact h.2.2.2.2.2.2.2.2.2.2 hl

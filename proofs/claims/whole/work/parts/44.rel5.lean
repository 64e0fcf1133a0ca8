theorem r_sA {C : tCk} {Y : tMd} {t : Nat} (h : r_C C Y t) : C.2.1 = Y.2.1.2.1 := by obtain ⟨a, -, e1, e2⟩ := h.2.1; rw [e1, e2]
theorem r_sV {C : tCk} {Y : tMd} {t : Nat} (h : r_C C Y t) : C.2.2.1 = Y.2.1.2.2.1 := by obtain ⟨a, -, e1, e2⟩ := h.2.2.1; rw [e1, e2]
theorem r_sP {C : tCk} {Y : tMd} {t : Nat} (h : r_C C Y t) : C.2.2.2.1 = Y.2.1.2.2.2.1 := by obtain ⟨a, -, e1, e2⟩ := h.2.2.2.1; rw [e1, e2]
theorem r_vL {X : tCP} {Y : tMd} {t q : Nat} (h : r_X X Y t q) : k_vL X = m_vL Y := by
  obtain ⟨hS, hC, -⟩ := h
  unfold k_vL m_vL
  rw [(r_modes hS).2.2.2.1, r_inFn hS (x := 5) (by decide : 5 < 14) rfl, r_inFn hS (x := 7) (by decide : 7 < 14) rfl, r_sV hC, r_sP hC]
theorem r_aL {X : tCP} {Y : tMd} {t q : Nat} (h : r_X X Y t q) : k_aL X = m_aL Y := by
  obtain ⟨hS, hC, -⟩ := h
  unfold k_aL m_aL
  rw [(r_modes hS).2.2.1, (r_modes hS).1, r_inFn hS (x := 6) (by decide : 6 < 14) rfl, r_inFn hS (x := 4) (by decide : 4 < 14) rfl, r_sV hC, r_sA hC]
theorem r_due {X : tCP} {Y : tMd} {t q : Nat} (h : r_X X Y t q) : k_aDue X = m_due Y := by
  obtain ⟨hS, hC, -, -, -, hP, -⟩ := h
  unfold k_aDue m_due
  rw [(r_modes hS).1, (r_modes hS).2.1, r_inFn hS (x := 3) (by decide : 3 < 14) rfl, r_sV hC, r_sA hC, hC.2.2.2.2.1, hP.2.2]
theorem r_vd {X : tCP} {Y : tMd} {t q : Nat} (h : r_X X Y t q) (hb : t < 2 ^ 31) : k_vDue X = m_vd Y := by
  obtain ⟨hS, hC, -, -, -, hP, -, -, -, -, hI⟩ := h
  unfold k_vDue m_vd m_late
  rw [(r_modes hS).1, r_run hC hb, r_inFn hS (x := 3) (by decide : 3 < 14) rfl, r_inFn hS (x := 2) (by decide : 2 < 14) rfl, r_sV hC, hP.2.2, zle_zlt Y.2.2.2.2.2.1.2.2 Y.2.1.2.2.1]
  cases hz : k_ledA (k_mode X.1)
  · rcases hC.2.2.2.2.2 with ⟨e1, -⟩ | ⟨e1, a, -, e2, e3⟩
    · rw [e1]; simp
    · rw [e1, e2, e3]; simp
  · have e := hI hz
    rcases hC.2.2.2.2.2 with ⟨e1, -⟩ | ⟨e1, a, h1, e2, e3⟩
    · rw [e1]; simp
    · exact absurd (e2.symm.trans e) (r_m1 (by omega))
theorem r_sense {X : tCP} {Y : tMd} {t q : Nat} {a v : Bool} (h : r_X X Y t q) (hq : q + 9 < 2 ^ 31) (hb : t < 2 ^ 31) : (∃ q' : Nat, q' ≤ q + 3 ∧ r_X (k_seX1 v X) (if (v && m_vL Y) = true then m_ven true Y else Y) t q') := by
  have e : k_se1 v X = (v && m_vL Y) := by unfold k_se1; rw [r_vL h]
  unfold k_seX1
  rw [e]
  cases hz : (v && m_vL Y)
  · exact ⟨q, by omega, h⟩
  · exact r_ven rfl h (by omega) hb
theorem r_sns2 {X : tCP} {Y : tMd} {t q : Nat} {a : Bool} (h : r_X X Y t q) (hq : q + 5 < 2 ^ 31) (hb : t < 2 ^ 31) : (a && k_aL X) = (a && m_aL Y) ∧ ∃ q' : Nat, q' ≤ q + 4 ∧ r_X (if (a && k_aL X) = true then k_atr 0 true X else X) (if (a && m_aL Y) = true then m_atr true Y else Y) t q' := by
  have e : (a && k_aL X) = (a && m_aL Y) := by rw [r_aL h]
  refine ⟨e, ?_⟩
  rw [e]
  cases hz : (a && m_aL Y)
  · exact ⟨q, by omega, h⟩
  · exact r_atr rfl h hq hb
theorem r_pac {X : tCP} {Y : tMd} {t q : Nat} {a : Bool} (h : r_X X Y t q) (hq : q + 8 < 2 ^ 31) (hb : t < 2 ^ 31) : k_stimR a X = m_pacR (!a) Y ∧ ∃ q' : Nat, q' ≤ q + 7 ∧ r_X (k_stim a X) (m_pac (!a) Y) t q' := by
  have e : k_st1 a X = (!a && m_due Y) := by unfold k_st1; rw [r_due h]
  have h1 : ∃ q' : Nat, q' ≤ q + 4 ∧ r_X (k_stX1 a X) (m_pc1 (!a) Y) t q' := by
    unfold k_stX1 m_pc1
    rw [e]
    cases a <;> cases hz : m_due Y
    · exact ⟨q, by omega, by simpa using h⟩
    · simpa using r_atr (b := false) (kd := 2) rfl h (by omega) hb
    · exact ⟨q, by omega, by simpa using h⟩
    · exact ⟨q, by omega, by simpa using h⟩
  have ew : k_stE1 a X = m_pw1 (!a) Y := by
    unfold k_stE1 m_pw1
    rw [e]
    cases a <;> cases m_due Y <;> simp
  obtain ⟨q1, h2, h3⟩ := h1
  have ev := r_vd h3 hb
  unfold k_stimR m_pacR k_stim m_pac
  rw [ev, ew]
  cases hz : m_vd (m_pc1 (!a) Y)
  · exact ⟨by simp, q1, by omega, by simpa using h3⟩
  · refine ⟨?_, ?_⟩
    · simp only [if_true]
      unfold m_pw1
      split <;> decide
    · obtain ⟨q2, h4, h5⟩ := r_ven (b := false) (kd := 3) rfl h3 (by omega) hb
      exact ⟨q2, by omega, by simpa using h5⟩

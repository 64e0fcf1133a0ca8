theorem r_more {a : Nat} (h : a ≤ 1000) : zmin (nI a + 1) 1000 = nI (min (a + 1) 1000) ∧ m_more (nI a) = nI (min (a + 1) 1000) := by
  have ek : (1000 : Int32) = nI 1000 := rfl
  unfold zmin m_more
  rw [nI_1]
  rcases Nat.lt_or_ge a 1000 with q | q
  · rw [zlt_f (show ¬ 1000 < nI (a + 1) from nI_nlt (a := 1000) (b := a + 1) (by omega) (by decide)), zle_f (show ¬ 1000 ≤ nI a from nI_ge q (by decide)), if_neg (by decide), Nat.min_eq_left (by omega)]
    exact ⟨rfl, rfl⟩
  · have e : a = 1000 := by omega
    subst e
    rw [zlt_t (show 1000 < nI (1000 + 1) by decide), zle_t (show 1000 ≤ nI 1000 by decide), if_pos rfl]
    exact ⟨rfl, rfl⟩
theorem r_since {C : Int32} {D : Int32} (h : ∃ a : Nat, a ≤ 1000 ∧ C = nI a ∧ D = nI a) : ∃ a : Nat, a ≤ 1000 ∧ zmin (C + 1) 1000 = nI a ∧ m_more D = nI a := by
  obtain ⟨a, h1, h2, h3⟩ := h
  rw [h2, h3]
  exact ⟨min (a + 1) 1000, Nat.min_le_right _ _, (r_more h1).1, (r_more h1).2⟩
theorem r_grow {C : tCk} {Y : tMd} {t : Nat} {a v w : Int32} (h : r_C C Y t) (hb : t + 1 < 2 ^ 31) : r_C (k_grow C) (m_s1 a v w Y) (t + 1) := by
  obtain ⟨⟨h1, h2⟩, h3, h4, h5, h6, h7⟩ := h
  have ht : C.1 + 1 = nI (t + 1) := by rw [h1, nI_1]
  have hu : Y.2.1.1 + 1 = nI (t + 1) := by rw [h2, nI_1]
  rcases h7 with ⟨e1, e2⟩ | ⟨e1, n, hn, e2, e3⟩
  · have eg : k_grow C = k_grow1 C := k_growF (by show (!zeq C.2.2.2.2.1 (-1)) = false; rw [e2, zeq_t rfl]; rfl)
    rw [eg]
    exact ⟨⟨ht, hu⟩, r_since h3, r_since h4, r_since h5, h6, Or.inl ⟨e1, e2⟩⟩
  · have eg := k_growT (C := C) (by show (!zeq C.2.2.2.2.1 (-1)) = true; rw [e2, zeq_f (r_m1 (by omega))]; rfl)
    rw [eg]
    refine ⟨⟨ht, hu⟩, r_since h3, r_since h4, r_since h5, h6, Or.inr ⟨e1, n + 1, by omega, ?_, ?_⟩⟩
    · show C.2.2.2.2.1 + 1 = _
      rw [e2, nI_1]
    · show m_av Y = _
      unfold m_av
      rw [if_pos e1, e3, nI_1]
theorem r_nb (a : Int32) : r_b (k_near a (-1000) 1000) := by
  have e1 : (-1000 : Int32).toInt = -1000 := by decide
  have e2 : (1000 : Int32).toInt = 1000 := by decide
  unfold k_near r_b
  cases h1 : zle (-1000) a
  · rw [if_neg (by decide), e1]; omega
  · rw [if_pos rfl]
    replace h1 := zle_p h1
    rw [Int32.le_iff_toInt_le, e1] at h1
    cases h2 : zle a 1000
    · rw [if_neg (by decide), e2]; omega
    · rw [if_pos rfl]
      replace h2 := zle_p h2
      rw [Int32.le_iff_toInt_le, e2] at h2
      exact ⟨h1, h2⟩
theorem r_subI {x y : Int32} (hx : r_b x) (hy : r_b y) : (x - y).toInt = x.toInt - y.toInt := by
  obtain ⟨a, b⟩ := hx
  obtain ⟨c, d⟩ := hy
  rw [Int32.toInt_sub]
  simp only [Int.bmod]
  split <;> omega
theorem r_cr {x y lim : Int32} (hx : r_b x) (hy : r_b y) : (!zlt (zabs (x - y)) lim) = m_apart x y lim := by
  have e1 := r_subI hx hy
  have e2 := r_subI hy hx
  have e0 : (0 : Int32).toInt = 0 := by decide
  have hz : (0 - (x - y)) = y - x := by
    apply Int32.toBitVec_inj.mp
    simp only [Int32.toBitVec_sub]
    show (0#32) - (x.toBitVec - y.toBitVec) = _
    rw [BitVec.zero_sub, BitVec.neg_sub, BitVec.add_comm, ← BitVec.sub_eq_add_neg]
  unfold zabs m_apart
  rw [hz, zle_zlt lim (x - y)]
  cases h1 : zle 0 (x - y)
  · rw [if_neg (by decide)]
    replace h1 := zle_n h1
    rw [Int32.le_iff_toInt_le, e0, e1] at h1
    cases h2 : zlt (y - x) lim
    · simp
    · have h3 : zlt (x - y) lim = true := zlt_t (by replace h2 := zlt_p h2; rw [Int32.lt_iff_toInt_lt] at h2 ⊢; omega)
      rw [h3]; rfl
  · rw [if_pos rfl]
    replace h1 := zle_p h1
    rw [Int32.le_iff_toInt_le, e0, e1] at h1
    cases h2 : zlt (x - y) lim
    · simp
    · have h3 : zlt (y - x) lim = true := zlt_t (by replace h2 := zlt_p h2; rw [Int32.lt_iff_toInt_lt] at h2 ⊢; omega)
      rw [h3]; rfl
theorem r_adapt {P : tPa} {Y : tMd} {w : Int32} (h : r_P P Y) : (k_adapt w P).1 = m_lev w Y ∧ (k_adapt w P).2.1 = Y.2.2.2.2.2.1.2.1 ∧ (k_adapt w P).2.2 = Y.2.2.2.2.2.1.2.2 := by
  obtain ⟨h1, h2, h3⟩ := h
  unfold k_adapt m_lev
  rw [h1]
  cases zle (16 * w) Y.2.2.2.2.2.1.1
  · rw [if_neg (by decide)]; exact ⟨rfl, h2, h3⟩
  · rw [if_pos rfl]; exact ⟨rfl, h2, h3⟩
theorem k_grow_av {C : tCk} (h : C.2.2.2.2.1 = -1) : (k_grow C).2.2.2.2.1 = -1 := by
  have eg : k_grow C = k_grow1 C := k_growF (by show (!zeq C.2.2.2.2.1 (-1)) = false; rw [h, zeq_t rfl]; rfl)
  rw [eg]; exact h
theorem r_ti1 {X : tCP} {Y : tMd} {t q : Nat} {a v w : Int32} (h : r_X X Y t q) (hb : t + 1 < 2 ^ 31) : r_X (k_ti1 a v w X) (m_s1 (m_nr a) (m_nr v) (k_near w 0 255) Y) (t + 1) q := by
  obtain ⟨hS, hC, hA, hV, hF, hP, ⟨hY1, i, hi, hY2, hY3⟩, hM, hR, hQ, hI⟩ := h
  exact ⟨hS, r_grow hC hb, ⟨rfl, hA.1, r_nb a, hA.2.2.1⟩, ⟨rfl, hV.1, r_nb v, hV.2.2.1⟩, hF, r_adapt hP, ⟨hY1, i, by omega, hY2, hY3⟩, hM, hR, hQ, fun hl => k_grow_av (hI hl)⟩
theorem r_tiA {X : tCP} {Y : tMd} {t q : Nat} {a : Int32} (h : r_X X Y t q) : k_tiA a X = m_cA (m_nr a) Y := by
  obtain ⟨hS, -, hA, -⟩ := h
  unfold k_tiA m_cA k_cross
  rw [r_inFn hS (x := 9) (by decide : 9 < 14) rfl, r_cr (r_nb a) hA.2.2.2, hA.2.1]; rfl
theorem r_tiV {X : tCP} {Y : tMd} {t q : Nat} {v : Int32} (h : r_X X Y t q) : k_tiV v X = m_cV (m_nr v) Y := by
  obtain ⟨hS, -, -, hV, -⟩ := h
  unfold k_tiV m_cV k_cross
  rw [r_inFn hS (x := 10) (by decide : 10 < 14) rfl, r_cr (r_nb v) hV.2.2.2, hV.2.1]; rfl
theorem r_pacV (b : Bool) (Y : tMd) : m_pacR b Y = 0 ∨ m_pacR b Y = 4 ∨ m_pacR b Y = 8 ∨ m_pacR b Y = 12 := by
  unfold m_pacR m_pw1
  split <;> split <;> simp
theorem r_pacF (Y : tMd) : m_pacR false Y = 0 ∨ m_pacR false Y = 8 := by
  unfold m_pacR m_pw1
  simp only [Bool.false_eq_true, false_and, if_false]
  split
  · exact Or.inr rfl
  · exact Or.inl rfl
theorem r_st {X : tCP} {Y : tMd} {t q : Nat} {a v w : Int32} (h : r_X X Y t q) (hq : q + 16 < 2 ^ 31) (hb : t + 1 < 2 ^ 31) : k_tickR a v w X = m_stR (m_nr a) (m_nr v) (k_near w 0 255) Y ∧ ∃ q' : Nat, q' ≤ q + 16 ∧ r_X (k_tick a v w X) (m_st (m_nr a) (m_nr v) (k_near w 0 255) Y) (t + 1) q' := by
  have h1 := r_ti1 (a := a) (v := v) (w := w) h hb
  have eA := r_tiA (a := a) h
  have eV := r_tiV (v := v) h
  generalize hY1 : m_s1 (m_nr a) (m_nr v) (k_near w 0 255) Y = Y1 at h1
  generalize hX1 : k_ti1 a v w X = X1 at h1
  obtain ⟨q2, hq2, h2⟩ := r_sense (a := true) (v := k_tiV v X) h1 (by omega) hb
  have es2 : m_s2 (m_nr a) (m_nr v) (k_near w 0 255) Y = (if (k_tiV v X && m_vL Y1) = true then m_ven true Y1 else Y1) := by
    unfold m_s2 m_vs; rw [hY1, eV]
  have ew2 : m_w2 (m_nr a) (m_nr v) (k_near w 0 255) Y = if (k_tiV v X && m_vL Y1) = true then 2 else 0 := by
    unfold m_w2 m_vs; rw [hY1, eV]
  have eE1 : k_seE1 (k_tiV v X) X1 = if (k_tiV v X && m_vL Y1) = true then 2 else 0 := by
    unfold k_seE1 k_se1
    rw [r_vL h1]
    cases (k_tiV v X && m_vL Y1) <;> decide
  rw [← es2] at h2
  generalize hY2 : m_s2 (m_nr a) (m_nr v) (k_near w 0 255) Y = Y2 at h2
  generalize hX2 : k_seX1 (k_tiV v X) X1 = X2 at h2
  obtain ⟨e3, q3, hq3, h3⟩ := r_sns2 (a := k_tiA a X) h2 (by omega) hb
  have es3 : m_s3 (m_nr a) (m_nr v) (k_near w 0 255) Y = (if (k_tiA a X && m_aL Y2) = true then m_atr true Y2 else Y2) := by
    unfold m_s3 m_as; rw [hY2, eA]
  have ew3 : m_w3 (m_nr a) (m_nr v) (k_near w 0 255) Y = if (k_tiA a X && m_aL Y2) = true then (if (k_tiV v X && m_vL Y1) = true then 2 else 0) + 1 else (if (k_tiV v X && m_vL Y1) = true then 2 else 0) := by
    unfold m_w3 m_as; rw [hY2, eA, ew2]
  have ek2 : k_ti2 a v w X = (if (k_tiA a X && k_aL X2) = true then k_atr 0 true X2 else X2) := by
    unfold k_ti2 k_sense k_se2; rw [hX1, hX2]
  have ekR : k_ti2R a v w X = if (k_tiA a X && m_aL Y2) = true then (if (k_tiV v X && m_vL Y1) = true then 2 else 0) ||| 1 else (if (k_tiV v X && m_vL Y1) = true then 2 else 0) := by
    unfold k_ti2R k_senseR k_se2; rw [hX1, hX2, e3, eE1]
  rw [← es3, ← ek2] at h3
  generalize hY3 : m_s3 (m_nr a) (m_nr v) (k_near w 0 255) Y = Y3 at h3
  generalize hX3 : k_ti2 a v w X = X3 at h3
  unfold k_tickR k_tick m_stR m_st k_tiS
  rw [hX3, hY3, ekR, ew3]
  cases hvs : (k_tiV v X && m_vL Y1) <;> cases has : (k_tiA a X && m_aL Y2)
  · obtain ⟨e4, q4, hq4, h4⟩ := r_pac (a := false) h3 (by omega) hb
    have z1 : zeq ((0 : Int32) &&& 2) 0 = true := zeq_t (by decide)
    have z2 : zeq ((0 : Int32) &&& 2) 2 = false := zeq_f (by decide)
    have z3 : zeq ((0 : Int32) &&& 1) 0 = true := zeq_t (by decide)
    have z4 : zeq (0 : Int32) 0 = true := zeq_t rfl
    simp only [Bool.false_eq_true, if_false, z1, z2, z3, z4, if_true, Bool.not_true]
    rw [e4]
    refine ⟨?_, q4, by omega, h4⟩
    rcases r_pacV true Y3 with e | e | e | e <;> rw [show (!false) = true from rfl, e] <;> decide
  · obtain ⟨e4, q4, hq4, h4⟩ := r_pac (a := true) h3 (by omega) hb
    have z0 : (0 : Int32) ||| 1 = 1 := by decide
    have z5 : (0 : Int32) + 1 = 1 := by decide
    have z1 : zeq ((1 : Int32) &&& 2) 0 = true := zeq_t (by decide)
    have z2 : zeq ((1 : Int32) &&& 2) 2 = false := zeq_f (by decide)
    have z3 : zeq ((1 : Int32) &&& 1) 0 = false := zeq_f (by decide)
    have z4 : zeq (1 : Int32) 0 = false := zeq_f (by decide)
    simp only [Bool.false_eq_true, if_false, if_true, z0, z5, z1, z2, z3, z4, Bool.not_false]
    rw [e4]
    refine ⟨?_, q4, by omega, h4⟩
    rcases r_pacF Y3 with e | e <;> rw [show (!true) = false from rfl, e] <;> decide
  · have z1 : zeq ((2 : Int32) &&& 2) 0 = false := zeq_f (by decide)
    have z2 : zeq ((2 : Int32) &&& 2) 2 = true := zeq_t (by decide)
    simp only [Bool.false_eq_true, if_false, if_true, z1, z2]
    exact ⟨trivial, q3, by omega, h3⟩
  · have z0 : (2 : Int32) ||| 1 = 3 := by decide
    have z5 : (2 : Int32) + 1 = 3 := by decide
    have z1 : zeq ((3 : Int32) &&& 2) 0 = false := zeq_f (by decide)
    have z2 : zeq ((3 : Int32) &&& 2) 2 = true := zeq_t (by decide)
    simp only [Bool.false_eq_true, if_false, if_true, z0, z5, z1, z2]
    exact ⟨trivial, q3, by omega, h3⟩

section
-- ===== PART A: goes FIRST, ahead of the names: the tables' words, and 'selects' of the private methods out of them =====
/-- a private method of a class that the tables say can be made, by its rows of tables_1 -/
def lw_okq (q : MethodName × Nat) : Prop := (q.1.cls ≠ "java/lang/invoke/MethodHandle" ∧ q.1.cls ≠ "java/lang/invoke/VarHandle") ∧ Cond.instantiable q.1.cls q.2 ∈ tables_1 ∧ Cond.privateMethod q.1 ∈ tables_1 ∧ Cond.instanceMethod q.1 ∈ tables_1
theorem lw_p0 : lw_okq (⟨"ChamberPacer", "sense", "(ZZ)I"⟩, 10) := ⟨⟨by decide +kernel, by decide +kernel⟩, List.mem_of_getElem? (i := 20) (by decide +kernel), List.mem_of_getElem? (i := 248) (by decide +kernel), List.mem_of_getElem? (i := 249) (by decide +kernel)⟩
theorem lw_p1 : lw_okq (⟨"ChamberPacer", "vIsListenedTo", "()Z"⟩, 10) := ⟨⟨by decide +kernel, by decide +kernel⟩, List.mem_of_getElem? (i := 20) (by decide +kernel), List.mem_of_getElem? (i := 252) (by decide +kernel), List.mem_of_getElem? (i := 253) (by decide +kernel)⟩
theorem lw_p2 : lw_okq (⟨"ChamberPacer", "ventricularEvent", "(IZ)V"⟩, 10) := ⟨⟨by decide +kernel, by decide +kernel⟩, List.mem_of_getElem? (i := 20) (by decide +kernel), List.mem_of_getElem? (i := 263) (by decide +kernel), List.mem_of_getElem? (i := 264) (by decide +kernel)⟩
theorem lw_p3 : lw_okq (⟨"ChamberPacer", "boundary", "(Z)V"⟩, 10) := ⟨⟨by decide +kernel, by decide +kernel⟩, List.mem_of_getElem? (i := 20) (by decide +kernel), List.mem_of_getElem? (i := 282) (by decide +kernel), List.mem_of_getElem? (i := 283) (by decide +kernel)⟩
theorem lw_p4 : lw_okq (⟨"ChamberPacer", "leaveMode", "()V"⟩, 10) := ⟨⟨by decide +kernel, by decide +kernel⟩, List.mem_of_getElem? (i := 20) (by decide +kernel), List.mem_of_getElem? (i := 290) (by decide +kernel), List.mem_of_getElem? (i := 291) (by decide +kernel)⟩
theorem lw_p5 : lw_okq (⟨"ChamberPacer", "aIsListenedTo", "()Z"⟩, 10) := ⟨⟨by decide +kernel, by decide +kernel⟩, List.mem_of_getElem? (i := 20) (by decide +kernel), List.mem_of_getElem? (i := 314) (by decide +kernel), List.mem_of_getElem? (i := 315) (by decide +kernel)⟩
theorem lw_p6 : lw_okq (⟨"ChamberPacer", "atrialEvent", "(IZ)V"⟩, 10) := ⟨⟨by decide +kernel, by decide +kernel⟩, List.mem_of_getElem? (i := 20) (by decide +kernel), List.mem_of_getElem? (i := 321) (by decide +kernel), List.mem_of_getElem? (i := 322) (by decide +kernel)⟩
theorem lw_p7 : lw_okq (⟨"ChamberPacer", "tellTooFast", "()V"⟩, 10) := ⟨⟨by decide +kernel, by decide +kernel⟩, List.mem_of_getElem? (i := 20) (by decide +kernel), List.mem_of_getElem? (i := 328) (by decide +kernel), List.mem_of_getElem? (i := 329) (by decide +kernel)⟩
theorem lw_p8 : lw_okq (⟨"ChamberPacer", "beginsAv", "(Z)Z"⟩, 10) := ⟨⟨by decide +kernel, by decide +kernel⟩, List.mem_of_getElem? (i := 20) (by decide +kernel), List.mem_of_getElem? (i := 340) (by decide +kernel), List.mem_of_getElem? (i := 341) (by decide +kernel)⟩
theorem lw_p9 : lw_okq (⟨"ChamberPacer", "stimulate", "(Z)I"⟩, 10) := ⟨⟨by decide +kernel, by decide +kernel⟩, List.mem_of_getElem? (i := 20) (by decide +kernel), List.mem_of_getElem? (i := 352) (by decide +kernel), List.mem_of_getElem? (i := 353) (by decide +kernel)⟩
theorem lw_p10 : lw_okq (⟨"ChamberPacer", "aIsDue", "()Z"⟩, 10) := ⟨⟨by decide +kernel, by decide +kernel⟩, List.mem_of_getElem? (i := 20) (by decide +kernel), List.mem_of_getElem? (i := 356) (by decide +kernel), List.mem_of_getElem? (i := 357) (by decide +kernel)⟩
theorem lw_p11 : lw_okq (⟨"ChamberPacer", "vIsDue", "()Z"⟩, 10) := ⟨⟨by decide +kernel, by decide +kernel⟩, List.mem_of_getElem? (i := 20) (by decide +kernel), List.mem_of_getElem? (i := 360) (by decide +kernel), List.mem_of_getElem? (i := 361) (by decide +kernel)⟩
theorem lw_p12 : lw_okq (⟨"ChamberPacer", "obey", "(III)I"⟩, 10) := ⟨⟨by decide +kernel, by decide +kernel⟩, List.mem_of_getElem? (i := 20) (by decide +kernel), List.mem_of_getElem? (i := 402) (by decide +kernel), List.mem_of_getElem? (i := 403) (by decide +kernel)⟩
theorem lw_p13 : lw_okq (⟨"ChamberPacer", "askForSafety", "()V"⟩, 10) := ⟨⟨by decide +kernel, by decide +kernel⟩, List.mem_of_getElem? (i := 20) (by decide +kernel), List.mem_of_getElem? (i := 429) (by decide +kernel), List.mem_of_getElem? (i := 430) (by decide +kernel)⟩
theorem lw_p14 : lw_okq (⟨"ChamberPacer$Markers", "has", "(I)Z"⟩, 4) := ⟨⟨by decide +kernel, by decide +kernel⟩, List.mem_of_getElem? (i := 149) (by decide +kernel), List.mem_of_getElem? (i := 469) (by decide +kernel), List.mem_of_getElem? (i := 470) (by decide +kernel)⟩
theorem lw_p15 : lw_okq (⟨"ChamberPacer$Markers", "place", "(I)I"⟩, 4) := ⟨⟨by decide +kernel, by decide +kernel⟩, List.mem_of_getElem? (i := 149) (by decide +kernel), List.mem_of_getElem? (i := 473) (by decide +kernel), List.mem_of_getElem? (i := 474) (by decide +kernel)⟩
def lw_privs_1 : List (MethodName × Nat) := [(⟨"ChamberPacer", "sense", "(ZZ)I"⟩, 10), (⟨"ChamberPacer", "vIsListenedTo", "()Z"⟩, 10), (⟨"ChamberPacer", "ventricularEvent", "(IZ)V"⟩, 10), (⟨"ChamberPacer", "boundary", "(Z)V"⟩, 10), (⟨"ChamberPacer", "leaveMode", "()V"⟩, 10), (⟨"ChamberPacer", "aIsListenedTo", "()Z"⟩, 10), (⟨"ChamberPacer", "atrialEvent", "(IZ)V"⟩, 10), (⟨"ChamberPacer", "tellTooFast", "()V"⟩, 10), (⟨"ChamberPacer", "beginsAv", "(Z)Z"⟩, 10), (⟨"ChamberPacer", "stimulate", "(Z)I"⟩, 10), (⟨"ChamberPacer", "aIsDue", "()Z"⟩, 10), (⟨"ChamberPacer", "vIsDue", "()Z"⟩, 10), (⟨"ChamberPacer", "obey", "(III)I"⟩, 10), (⟨"ChamberPacer", "askForSafety", "()V"⟩, 10), (⟨"ChamberPacer$Markers", "has", "(I)Z"⟩, 4), (⟨"ChamberPacer$Markers", "place", "(I)I"⟩, 4)]
theorem lw_r1 : ∀ q ∈ lw_privs_1, lw_okq q := List.forall_mem_cons.mpr ⟨lw_p0, List.forall_mem_cons.mpr ⟨lw_p1, List.forall_mem_cons.mpr ⟨lw_p2, List.forall_mem_cons.mpr ⟨lw_p3, List.forall_mem_cons.mpr ⟨lw_p4, List.forall_mem_cons.mpr ⟨lw_p5, List.forall_mem_cons.mpr ⟨lw_p6, List.forall_mem_cons.mpr ⟨lw_p7, List.forall_mem_cons.mpr ⟨lw_p8, List.forall_mem_cons.mpr ⟨lw_p9, List.forall_mem_cons.mpr ⟨lw_p10, List.forall_mem_cons.mpr ⟨lw_p11, List.forall_mem_cons.mpr ⟨lw_p12, List.forall_mem_cons.mpr ⟨lw_p13, List.forall_mem_cons.mpr ⟨lw_p14, List.forall_mem_cons.mpr ⟨lw_p15, fun _ h => absurd h List.not_mem_nil⟩⟩⟩⟩⟩⟩⟩⟩⟩⟩⟩⟩⟩⟩⟩⟩
theorem lw_p16 : lw_okq (⟨"java/lang/Throwable", "fillInStackTrace", "(I)Ljava/lang/Throwable;"⟩, 6) := ⟨⟨by decide +kernel, by decide +kernel⟩, List.mem_of_getElem? (i := 535) (by decide +kernel), List.mem_of_getElem? (i := 533) (by decide +kernel), List.mem_of_getElem? (i := 534) (by decide +kernel)⟩
theorem lw_p17 : lw_okq (⟨"ChamberPacerModel", "range", "(IIII)V"⟩, 31) := ⟨⟨by decide +kernel, by decide +kernel⟩, List.mem_of_getElem? (i := 581) (by decide +kernel), List.mem_of_getElem? (i := 587) (by decide +kernel), List.mem_of_getElem? (i := 588) (by decide +kernel)⟩
theorem lw_p18 : lw_okq (⟨"ChamberPacerModel", "step", "(III)I"⟩, 31) := ⟨⟨by decide +kernel, by decide +kernel⟩, List.mem_of_getElem? (i := 581) (by decide +kernel), List.mem_of_getElem? (i := 697) (by decide +kernel), List.mem_of_getElem? (i := 698) (by decide +kernel)⟩
theorem lw_p19 : lw_okq (⟨"ChamberPacerModel", "mode", "(I)Z"⟩, 31) := ⟨⟨by decide +kernel, by decide +kernel⟩, List.mem_of_getElem? (i := 581) (by decide +kernel), List.mem_of_getElem? (i := 707) (by decide +kernel), List.mem_of_getElem? (i := 708) (by decide +kernel)⟩
theorem lw_p20 : lw_okq (⟨"ChamberPacerModel", "ventricularEvent", "(Z)V"⟩, 31) := ⟨⟨by decide +kernel, by decide +kernel⟩, List.mem_of_getElem? (i := 581) (by decide +kernel), List.mem_of_getElem? (i := 711) (by decide +kernel), List.mem_of_getElem? (i := 712) (by decide +kernel)⟩
theorem lw_p21 : lw_okq (⟨"ChamberPacerModel", "mark", "(I)V"⟩, 31) := ⟨⟨by decide +kernel, by decide +kernel⟩, List.mem_of_getElem? (i := 581) (by decide +kernel), List.mem_of_getElem? (i := 715) (by decide +kernel), List.mem_of_getElem? (i := 716) (by decide +kernel)⟩
theorem lw_p22 : lw_okq (⟨"ChamberPacerModel", "boundary", "(Z)V"⟩, 31) := ⟨⟨by decide +kernel, by decide +kernel⟩, List.mem_of_getElem? (i := 581) (by decide +kernel), List.mem_of_getElem? (i := 719) (by decide +kernel), List.mem_of_getElem? (i := 720) (by decide +kernel)⟩
theorem lw_p23 : lw_okq (⟨"ChamberPacerModel", "atrialEvent", "(Z)V"⟩, 31) := ⟨⟨by decide +kernel, by decide +kernel⟩, List.mem_of_getElem? (i := 581) (by decide +kernel), List.mem_of_getElem? (i := 723) (by decide +kernel), List.mem_of_getElem? (i := 724) (by decide +kernel)⟩
theorem lw_p24 : lw_okq (⟨"ChamberPacerModel", "tooFast", "()V"⟩, 31) := ⟨⟨by decide +kernel, by decide +kernel⟩, List.mem_of_getElem? (i := 581) (by decide +kernel), List.mem_of_getElem? (i := 727) (by decide +kernel), List.mem_of_getElem? (i := 728) (by decide +kernel)⟩
theorem lw_p25 : lw_okq (⟨"ChamberPacerModel", "pace", "(Z)I"⟩, 31) := ⟨⟨by decide +kernel, by decide +kernel⟩, List.mem_of_getElem? (i := 581) (by decide +kernel), List.mem_of_getElem? (i := 731) (by decide +kernel), List.mem_of_getElem? (i := 732) (by decide +kernel)⟩
theorem lw_p26 : lw_okq (⟨"ChamberPacerModel", "fits", "(II)Z"⟩, 31) := ⟨⟨by decide +kernel, by decide +kernel⟩, List.mem_of_getElem? (i := 581) (by decide +kernel), List.mem_of_getElem? (i := 743) (by decide +kernel), List.mem_of_getElem? (i := 744) (by decide +kernel)⟩
theorem lw_p27 : lw_okq (⟨"ChamberPacerModel", "put", "(II)I"⟩, 31) := ⟨⟨by decide +kernel, by decide +kernel⟩, List.mem_of_getElem? (i := 581) (by decide +kernel), List.mem_of_getElem? (i := 747) (by decide +kernel), List.mem_of_getElem? (i := 748) (by decide +kernel)⟩
theorem lw_p28 : lw_okq (⟨"ChamberPacerModel", "frameSum", "()I"⟩, 31) := ⟨⟨by decide +kernel, by decide +kernel⟩, List.mem_of_getElem? (i := 581) (by decide +kernel), List.mem_of_getElem? (i := 755) (by decide +kernel), List.mem_of_getElem? (i := 756) (by decide +kernel)⟩
def lw_privs_2 : List (MethodName × Nat) := [(⟨"java/lang/Throwable", "fillInStackTrace", "(I)Ljava/lang/Throwable;"⟩, 6), (⟨"ChamberPacerModel", "range", "(IIII)V"⟩, 31), (⟨"ChamberPacerModel", "step", "(III)I"⟩, 31), (⟨"ChamberPacerModel", "mode", "(I)Z"⟩, 31), (⟨"ChamberPacerModel", "ventricularEvent", "(Z)V"⟩, 31), (⟨"ChamberPacerModel", "mark", "(I)V"⟩, 31), (⟨"ChamberPacerModel", "boundary", "(Z)V"⟩, 31), (⟨"ChamberPacerModel", "atrialEvent", "(Z)V"⟩, 31), (⟨"ChamberPacerModel", "tooFast", "()V"⟩, 31), (⟨"ChamberPacerModel", "pace", "(Z)I"⟩, 31), (⟨"ChamberPacerModel", "fits", "(II)Z"⟩, 31), (⟨"ChamberPacerModel", "put", "(II)I"⟩, 31), (⟨"ChamberPacerModel", "frameSum", "()I"⟩, 31)]
theorem lw_r2 : ∀ q ∈ lw_privs_2, lw_okq q := List.forall_mem_cons.mpr ⟨lw_p16, List.forall_mem_cons.mpr ⟨lw_p17, List.forall_mem_cons.mpr ⟨lw_p18, List.forall_mem_cons.mpr ⟨lw_p19, List.forall_mem_cons.mpr ⟨lw_p20, List.forall_mem_cons.mpr ⟨lw_p21, List.forall_mem_cons.mpr ⟨lw_p22, List.forall_mem_cons.mpr ⟨lw_p23, List.forall_mem_cons.mpr ⟨lw_p24, List.forall_mem_cons.mpr ⟨lw_p25, List.forall_mem_cons.mpr ⟨lw_p26, List.forall_mem_cons.mpr ⟨lw_p27, List.forall_mem_cons.mpr ⟨lw_p28, fun _ h => absurd h List.not_mem_nil⟩⟩⟩⟩⟩⟩⟩⟩⟩⟩⟩⟩⟩
def lw_privs : List (MethodName × Nat) := lw_privs_1 ++ (lw_privs_2)
def lw_tbl : List Cond := k2_sels lw_privs ++ tables_1
theorem lw_privs_ok : ∀ q ∈ lw_privs, lw_okq q := by
  show ∀ q ∈ lw_privs_1 ++ (lw_privs_2), lw_okq q
  exact List.forall_mem_append.mpr ⟨lw_r1, lw_r2⟩
end
section
/-! ===== BEGIN words of one list among another's, by their places ===== -/
theorem goodIn_r {big : List Cond} (ws : List Cond) (ps : List Nat) (hp : ws = ps.filterMap (fun i => big[i]?)) (h : ws.all goodWord = true) : GoodIn big ws := by
  intro w hw
  have h1 := List.all_eq_true.mp h w hw
  rw [hp] at hw
  obtain ⟨i, -, hi⟩ := List.mem_filterMap.mp hw
  have hm : w ∈ big := by first | exact List.mem_of_getElem? hi | exact List.getElem?_mem hi
  exact ⟨hm, good_of_word h1⟩
theorem goodIn_app {big a b : List Cond} (ha : GoodIn big a) (hb : GoodIn big b) : GoodIn big (a ++ b) := fun w h => (List.mem_append.mp h).elim (ha w) (hb w)
theorem goodIn_ca {big a b : List Cond} {c : Cond} (ha : GoodIn big (c :: a)) (hb : GoodIn big b) : GoodIn big (c :: (a ++ b)) := fun w h => (List.mem_cons.mp h).elim (fun e => ha w (List.mem_cons.mpr (Or.inl e))) (fun h => (List.mem_append.mp h).elim (fun h => ha w (List.mem_cons.mpr (Or.inr h))) (hb w))
theorem goodIn_sub {big ws : List Cond} (hm : ∀ w ∈ ws, w ∈ big) (h : ws.all goodWord = true) : GoodIn big ws := fun w hw => ⟨hm w hw, good_of_word (List.all_eq_true.mp h w hw)⟩
/-! ===== END ===== -/
def vx_no (w : Cond) : Bool := decide (w ≠ .isRef (.static Bundle.tN "UNASSIGNED_STACK" Bundle.steD)) && decide (w ≠ .isRef (.static Bundle.tN "SUPPRESSED_SENTINEL" Bundle.listD)) && decide (w ≠ .laysStatic Bundle.tN "UNASSIGNED_STACK" Bundle.steD) && decide (w ≠ .laysStatic Bundle.tN "SUPPRESSED_SENTINEL" Bundle.listD)
def vx_at0 (own : String) (ic : Nat) (X : String) (names : List String) : List Cond := (Bundle.ownAtoms0 own ic X names).filter vx_no
end
section
def RX0 : String := "ChamberPacer$Clock"
def TX0 : u_T := fun k => match k with
  | 0 => ("ChamberPacer$Clock", "time", "I", false)
  | 1 => ("ChamberPacer$Clock", "sinceA", "I", false)
  | 2 => ("ChamberPacer$Clock", "sinceV", "I", false)
  | 3 => ("ChamberPacer$Clock", "sinceP", "I", false)
  | 4 => ("ChamberPacer$Clock", "av", "I", false)
  | _ => ("ChamberPacer$Clock", "atrialSinceVentricular", "Z", false)
def tyX0 : Nat → FieldType := fun k => match k with
  | 0 => .int
  | 1 => .int
  | 2 => .int
  | 3 => .int
  | 4 => .int
  | _ => .boolean
abbrev wsX00 : List Cond := u_ws RX0 TX0 6
theorem nmX0 : ∀ a, a < 6 → ∀ b, b < 6 → a ≠ b → (TX0 a).2.1 ≠ (TX0 b).2.1 := by decide +kernel
theorem tyX0_ok : ∀ k, k < 6 → parseFieldDescriptor (TX0 k).2.2.1 = some (tyX0 k) := by decide +kernel
abbrev cX0_init : ByteArray := prog_2_method_1_code
def yX0_init : MethodName := ⟨RX0, "<init>", "()V"⟩
abbrev cX0_grow : ByteArray := prog_2_method_2_code
def yX0_grow : MethodName := ⟨RX0, "grow", "()V"⟩
abbrev cX0_avRuns : ByteArray := prog_2_method_3_code
def yX0_avRuns : MethodName := ⟨RX0, "avRuns", "()Z"⟩
abbrev cX0_startAv : ByteArray := prog_2_method_4_code
def yX0_startAv : MethodName := ⟨RX0, "startAv", "()V"⟩
abbrev cX0_stopAv : ByteArray := prog_2_method_5_code
def yX0_stopAv : MethodName := ⟨RX0, "stopAv", "()V"⟩
abbrev cX0_restartA : ByteArray := prog_2_method_6_code
def yX0_restartA : MethodName := ⟨RX0, "restartA", "(Z)V"⟩
abbrev cX0_restartV : ByteArray := prog_2_method_7_code
def yX0_restartV : MethodName := ⟨RX0, "restartV", "()V"⟩
def RX1 : String := "ChamberPacer$Cycles"
def TX1 : u_T := fun k => match k with
  | 0 => ("ChamberPacer$Cycles", "bins", "[I", true)
  | _ => ("ChamberPacer$Cycles", "begun", "I", false)
def tyX1 : Nat → FieldType := fun k => match k with
  | 0 => .array .int
  | _ => .int
abbrev wsX10 : List Cond := u_ws RX1 TX1 2
theorem nmX1 : ∀ a, a < 2 → ∀ b, b < 2 → a ≠ b → (TX1 a).2.1 ≠ (TX1 b).2.1 := by decide +kernel
theorem tyX1_ok : ∀ k, k < 2 → parseFieldDescriptor (TX1 k).2.2.1 = some (tyX1 k) := by decide +kernel
abbrev cX1_init : ByteArray := prog_3_method_1_code
def yX1_init : MethodName := ⟨RX1, "<init>", "()V"⟩
abbrev cX1_end : ByteArray := prog_3_method_2_code
def yX1_end : MethodName := ⟨RX1, "end", "(I)V"⟩
abbrev cX1_inBin : ByteArray := prog_3_method_3_code
def yX1_inBin : MethodName := ⟨RX1, "inBin", "(I)I"⟩
def RX2 : String := "ChamberPacer$Follower"
def TX2 : u_T := fun k => match k with
  | 0 => ("ChamberPacer$Follower", "fast", "I", false)
  | 1 => ("ChamberPacer$Follower", "slow", "I", false)
  | _ => ("ChamberPacer$Follower", "gaveUp", "Z", false)
def tyX2 : Nat → FieldType := fun k => match k with
  | 0 => .int
  | 1 => .int
  | _ => .boolean
abbrev wsX20 : List Cond := u_ws RX2 TX2 3
theorem nmX2 : ∀ a, a < 3 → ∀ b, b < 3 → a ≠ b → (TX2 a).2.1 ≠ (TX2 b).2.1 := by decide +kernel
theorem tyX2_ok : ∀ k, k < 3 → parseFieldDescriptor (TX2 k).2.2.1 = some (tyX2 k) := by decide +kernel
abbrev cX2_init : ByteArray := prog_4_method_1_code
def yX2_init : MethodName := ⟨RX2, "<init>", "()V"⟩
abbrev cX2_count : ByteArray := prog_4_method_2_code
def yX2_count : MethodName := ⟨RX2, "count", "(Z)V"⟩
abbrev cX2_forget : ByteArray := prog_4_method_3_code
def yX2_forget : MethodName := ⟨RX2, "forget", "()V"⟩
def RX3 : String := "ChamberPacer$Frame"
def TX3 : u_T := fun k => match k with
  | 0 => ("ChamberPacer$Frame", "bytes", "[I", true)
  | _ => ("ChamberPacer$Frame", "got", "I", false)
def tyX3 : Nat → FieldType := fun k => match k with
  | 0 => .array .int
  | _ => .int
abbrev wsX30 : List Cond := u_ws RX3 TX3 2
theorem nmX3 : ∀ a, a < 2 → ∀ b, b < 2 → a ≠ b → (TX3 a).2.1 ≠ (TX3 b).2.1 := by decide +kernel
theorem tyX3_ok : ∀ k, k < 2 → parseFieldDescriptor (TX3 k).2.2.1 = some (tyX3 k) := by decide +kernel
abbrev cX3_init : ByteArray := prog_5_method_1_code
def yX3_init : MethodName := ⟨RX3, "<init>", "()V"⟩
abbrev cX3_endsWith : ByteArray := prog_5_method_2_code
def yX3_endsWith : MethodName := ⟨RX3, "endsWith", "(I)Z"⟩
abbrev cX3_sumIsRight : ByteArray := prog_5_method_3_code
def yX3_sumIsRight : MethodName := ⟨RX3, "sumIsRight", "()Z"⟩
abbrev cX3_command : ByteArray := prog_5_method_4_code
def yX3_command : MethodName := ⟨RX3, "command", "()I"⟩
abbrev cX3_number : ByteArray := prog_5_method_5_code
def yX3_number : MethodName := ⟨RX3, "number", "()I"⟩
abbrev cX3_amount : ByteArray := prog_5_method_6_code
def yX3_amount : MethodName := ⟨RX3, "amount", "()I"⟩
abbrev cX3_divide : ByteArray := prog_5_method_7_code
def yX3_divide : MethodName := ⟨RX3, "divide", "(I)I"⟩
def RX4 : String := "ChamberPacer$Markers"
def TX4 : u_T := fun k => match k with
  | 0 => ("ChamberPacer$Markers", "kinds", "[I", true)
  | 1 => ("ChamberPacer$Markers", "times", "[I", true)
  | 2 => ("ChamberPacer$Markers", "next", "I", false)
  | _ => ("ChamberPacer$Markers", "count", "I", false)
def tyX4 : Nat → FieldType := fun k => match k with
  | 0 => .array .int
  | 1 => .array .int
  | 2 => .int
  | _ => .int
abbrev wsX40 : List Cond := u_ws RX4 TX4 4
theorem nmX4 : ∀ a, a < 4 → ∀ b, b < 4 → a ≠ b → (TX4 a).2.1 ≠ (TX4 b).2.1 := by decide +kernel
theorem tyX4_ok : ∀ k, k < 4 → parseFieldDescriptor (TX4 k).2.2.1 = some (tyX4 k) := by decide +kernel
abbrev cX4_init : ByteArray := prog_6_method_1_code
def yX4_init : MethodName := ⟨RX4, "<init>", "()V"⟩
abbrev cX4_keep : ByteArray := prog_6_method_2_code
def yX4_keep : MethodName := ⟨RX4, "keep", "(II)V"⟩
abbrev cX4_kind : ByteArray := prog_6_method_3_code
def yX4_kind : MethodName := ⟨RX4, "kind", "(I)I"⟩
abbrev cX4_time : ByteArray := prog_6_method_4_code
def yX4_time : MethodName := ⟨RX4, "time", "(I)I"⟩
abbrev cX4_has : ByteArray := prog_6_method_5_code
def yX4_has : MethodName := ⟨RX4, "has", "(I)Z"⟩
abbrev cX4_place : ByteArray := prog_6_method_6_code
def yX4_place : MethodName := ⟨RX4, "place", "(I)I"⟩
def RX5 : String := "ChamberPacer$Pace"
def TX5 : u_T := fun k => match k with
  | 0 => ("ChamberPacer$Pace", "level", "I", false)
  | 1 => ("ChamberPacer$Pace", "interval", "I", false)
  | _ => ("ChamberPacer$Pace", "longest", "I", false)
def tyX5 : Nat → FieldType := fun k => match k with
  | 0 => .int
  | 1 => .int
  | _ => .int
abbrev wsX50 : List Cond := u_ws RX5 TX5 3
theorem nmX5 : ∀ a, a < 3 → ∀ b, b < 3 → a ≠ b → (TX5 a).2.1 ≠ (TX5 b).2.1 := by decide +kernel
theorem tyX5_ok : ∀ k, k < 3 → parseFieldDescriptor (TX5 k).2.2.1 = some (tyX5 k) := by decide +kernel
abbrev cX5_init : ByteArray := prog_7_method_1_code
def yX5_init : MethodName := ⟨RX5, "<init>", "()V"⟩
abbrev cX5_adapt : ByteArray := prog_7_method_2_code
def yX5_adapt : MethodName := ⟨RX5, "adapt", "(I)V"⟩
abbrev cX5_approach : ByteArray := prog_7_method_3_code
def yX5_approach : MethodName := ⟨RX5, "approach", "(II)V"⟩
abbrev cX5_beginCycle : ByteArray := prog_7_method_4_code
def yX5_beginCycle : MethodName := ⟨RX5, "beginCycle", "(IZ)V"⟩
def RX6 : String := "ChamberPacer$Settings"
def TX6 : u_T := fun k => match k with
  | 0 => ("ChamberPacer$Settings", "forced", "[I", true)
  | _ => ("ChamberPacer$Settings", "asked", "[I", true)
def tyX6 : Nat → FieldType := fun k => match k with
  | 0 => .array .int
  | _ => .array .int
abbrev wsX60 : List Cond := u_ws RX6 TX6 2
theorem nmX6 : ∀ a, a < 2 → ∀ b, b < 2 → a ≠ b → (TX6 a).2.1 ≠ (TX6 b).2.1 := by decide +kernel
theorem tyX6_ok : ∀ k, k < 2 → parseFieldDescriptor (TX6 k).2.2.1 = some (tyX6 k) := by decide +kernel
abbrev cX6_init : ByteArray := prog_8_method_1_code
def yX6_init : MethodName := ⟨RX6, "<init>", "()V"⟩
abbrev cX6_exists : ByteArray := prog_8_method_2_code
def yX6_exists : MethodName := ⟨RX6, "exists", "(I)Z"⟩
abbrev cX6_allows : ByteArray := prog_8_method_3_code
def yX6_allows : MethodName := ⟨RX6, "allows", "(II)Z"⟩
abbrev cX6_mode : ByteArray := prog_8_method_4_code
def yX6_mode : MethodName := ⟨RX6, "mode", "()I"⟩
abbrev cX6_inForce : ByteArray := prog_8_method_5_code
def yX6_inForce : MethodName := ⟨RX6, "inForce", "(I)I"⟩
abbrev cX6_pending : ByteArray := prog_8_method_6_code
def yX6_pending : MethodName := ⟨RX6, "pending", "(I)I"⟩
abbrev cX6_latest : ByteArray := prog_8_method_7_code
def yX6_latest : MethodName := ⟨RX6, "latest", "(I)I"⟩
abbrev cX6_ask : ByteArray := prog_8_method_8_code
def yX6_ask : MethodName := ⟨RX6, "ask", "(II)V"⟩
abbrev cX6_dropPending : ByteArray := prog_8_method_9_code
def yX6_dropPending : MethodName := ⟨RX6, "dropPending", "()V"⟩
abbrev cX6_putInForce : ByteArray := prog_8_method_10_code
def yX6_putInForce : MethodName := ⟨RX6, "putInForce", "()Z"⟩
def RX7 : String := "ChamberPacer$Signal"
def TX7 : u_T := fun k => match k with
  | 0 => ("ChamberPacer$Signal", "oneBefore", "I", false)
  | _ => ("ChamberPacer$Signal", "twoBefore", "I", false)
def tyX7 : Nat → FieldType := fun k => match k with
  | 0 => .int
  | _ => .int
abbrev wsX70 : List Cond := u_ws RX7 TX7 2
theorem nmX7 : ∀ a, a < 2 → ∀ b, b < 2 → a ≠ b → (TX7 a).2.1 ≠ (TX7 b).2.1 := by decide +kernel
theorem tyX7_ok : ∀ k, k < 2 → parseFieldDescriptor (TX7 k).2.2.1 = some (tyX7 k) := by decide +kernel
abbrev cX7_init : ByteArray := prog_9_method_1_code
def yX7_init : MethodName := ⟨RX7, "<init>", "()V"⟩
abbrev cX7_crosses : ByteArray := prog_9_method_2_code
def yX7_crosses : MethodName := ⟨RX7, "crosses", "(II)Z"⟩
def RX8 : String := "ChamberPacer"
def TX8 : u_T := fun k => match k with
  | 0 => ("ChamberPacer", "settings", "LChamberPacer$Settings;", true)
  | 1 => ("ChamberPacer", "clock", "LChamberPacer$Clock;", true)
  | 2 => ("ChamberPacer", "signalA", "LChamberPacer$Signal;", true)
  | 3 => ("ChamberPacer", "signalV", "LChamberPacer$Signal;", true)
  | 4 => ("ChamberPacer", "follower", "LChamberPacer$Follower;", true)
  | 5 => ("ChamberPacer", "pace", "LChamberPacer$Pace;", true)
  | 6 => ("ChamberPacer", "cycles", "LChamberPacer$Cycles;", true)
  | 7 => ("ChamberPacer", "markers", "LChamberPacer$Markers;", true)
  | 8 => ("ChamberPacer", "frame", "LChamberPacer$Frame;", true)
  | _ => ("ChamberPacer", "status", "I", false)
def tyX8 : Nat → FieldType := fun k => match k with
  | 0 => .object "ChamberPacer$Settings"
  | 1 => .object "ChamberPacer$Clock"
  | 2 => .object "ChamberPacer$Signal"
  | 3 => .object "ChamberPacer$Signal"
  | 4 => .object "ChamberPacer$Follower"
  | 5 => .object "ChamberPacer$Pace"
  | 6 => .object "ChamberPacer$Cycles"
  | 7 => .object "ChamberPacer$Markers"
  | 8 => .object "ChamberPacer$Frame"
  | _ => .int
abbrev wsX80 : List Cond := u_ws RX8 TX8 10
theorem nmX8 : ∀ a, a < 10 → ∀ b, b < 10 → a ≠ b → (TX8 a).2.1 ≠ (TX8 b).2.1 := by decide +kernel
theorem tyX8_ok : ∀ k, k < 10 → parseFieldDescriptor (TX8 k).2.2.1 = some (tyX8 k) := by decide +kernel
abbrev cX8_init : ByteArray := prog_1_method_1_code
def yX8_init : MethodName := ⟨RX8, "<init>", "()V"⟩
abbrev cX8_tick : ByteArray := prog_1_method_2_code
def yX8_tick : MethodName := ⟨RX8, "tick", "(III)I"⟩
abbrev cX8_run : ByteArray := prog_1_method_3_code
def yX8_run : MethodName := ⟨RX8, "run", "(IIII)I"⟩
abbrev cX8_program : ByteArray := prog_1_method_4_code
def yX8_program : MethodName := ⟨RX8, "program", "(II)I"⟩
abbrev cX8_receive : ByteArray := prog_1_method_5_code
def yX8_receive : MethodName := ⟨RX8, "receive", "(I)I"⟩
abbrev cX8_battery : ByteArray := prog_1_method_6_code
def yX8_battery : MethodName := ⟨RX8, "battery", "(I)I"⟩
abbrev cX8_parameter : ByteArray := prog_1_method_7_code
def yX8_parameter : MethodName := ⟨RX8, "parameter", "(I)I"⟩
abbrev cX8_waiting : ByteArray := prog_1_method_8_code
def yX8_waiting : MethodName := ⟨RX8, "waiting", "(I)I"⟩
abbrev cX8_since : ByteArray := prog_1_method_9_code
def yX8_since : MethodName := ⟨RX8, "since", "(I)I"⟩
abbrev cX8_value : ByteArray := prog_1_method_10_code
def yX8_value : MethodName := ⟨RX8, "value", "(I)I"⟩
abbrev cX8_fallback : ByteArray := prog_1_method_11_code
def yX8_fallback : MethodName := ⟨RX8, "fallback", "()Z"⟩
abbrev cX8_marker : ByteArray := prog_1_method_12_code
def yX8_marker : MethodName := ⟨RX8, "marker", "(II)I"⟩
abbrev cX8_histogram : ByteArray := prog_1_method_13_code
def yX8_histogram : MethodName := ⟨RX8, "histogram", "(I)I"⟩
abbrev cX8_sense : ByteArray := prog_1_method_14_code
def yX8_sense : MethodName := ⟨RX8, "sense", "(ZZ)I"⟩
abbrev cX8_stimulate : ByteArray := prog_1_method_15_code
def yX8_stimulate : MethodName := ⟨RX8, "stimulate", "(Z)I"⟩
abbrev cX8_vIsListenedTo : ByteArray := prog_1_method_16_code
def yX8_vIsListenedTo : MethodName := ⟨RX8, "vIsListenedTo", "()Z"⟩
abbrev cX8_aIsListenedTo : ByteArray := prog_1_method_17_code
def yX8_aIsListenedTo : MethodName := ⟨RX8, "aIsListenedTo", "()Z"⟩
abbrev cX8_aIsDue : ByteArray := prog_1_method_18_code
def yX8_aIsDue : MethodName := ⟨RX8, "aIsDue", "()Z"⟩
abbrev cX8_vIsDue : ByteArray := prog_1_method_19_code
def yX8_vIsDue : MethodName := ⟨RX8, "vIsDue", "()Z"⟩
abbrev cX8_atrialEvent : ByteArray := prog_1_method_20_code
def yX8_atrialEvent : MethodName := ⟨RX8, "atrialEvent", "(IZ)V"⟩
abbrev cX8_beginsAv : ByteArray := prog_1_method_21_code
def yX8_beginsAv : MethodName := ⟨RX8, "beginsAv", "(Z)Z"⟩
abbrev cX8_ventricularEvent : ByteArray := prog_1_method_22_code
def yX8_ventricularEvent : MethodName := ⟨RX8, "ventricularEvent", "(IZ)V"⟩
abbrev cX8_tellTooFast : ByteArray := prog_1_method_23_code
def yX8_tellTooFast : MethodName := ⟨RX8, "tellTooFast", "()V"⟩
abbrev cX8_boundary : ByteArray := prog_1_method_24_code
def yX8_boundary : MethodName := ⟨RX8, "boundary", "(Z)V"⟩
abbrev cX8_leaveMode : ByteArray := prog_1_method_25_code
def yX8_leaveMode : MethodName := ⟨RX8, "leaveMode", "()V"⟩
abbrev cX8_obey : ByteArray := prog_1_method_26_code
def yX8_obey : MethodName := ⟨RX8, "obey", "(III)I"⟩
abbrev cX8_askForSafety : ByteArray := prog_1_method_27_code
def yX8_askForSafety : MethodName := ⟨RX8, "askForSafety", "()V"⟩
abbrev cX8_isLedByA : ByteArray := prog_1_method_28_code
def yX8_isLedByA : MethodName := ⟨RX8, "isLedByA", "(I)Z"⟩
abbrev cX8_pacesBoth : ByteArray := prog_1_method_29_code
def yX8_pacesBoth : MethodName := ⟨RX8, "pacesBoth", "(I)Z"⟩
abbrev cX8_sensesA : ByteArray := prog_1_method_30_code
def yX8_sensesA : MethodName := ⟨RX8, "sensesA", "(I)Z"⟩
abbrev cX8_sensesV : ByteArray := prog_1_method_31_code
def yX8_sensesV : MethodName := ⟨RX8, "sensesV", "(I)Z"⟩
abbrev cX8_follows : ByteArray := prog_1_method_32_code
def yX8_follows : MethodName := ⟨RX8, "follows", "(I)Z"⟩
abbrev cX8_statusOf : ByteArray := prog_1_method_33_code
def yX8_statusOf : MethodName := ⟨RX8, "statusOf", "(I)I"⟩
abbrev cX8_nearest : ByteArray := prog_1_method_34_code
def yX8_nearest : MethodName := ⟨RX8, "nearest", "(III)I"⟩
def RX9 : String := "ChamberPacerModel"
def TX9 : u_T := fun k => match k with
  | 0 => ("ChamberPacerModel", "low", "[I", true)
  | 1 => ("ChamberPacerModel", "high", "[I", true)
  | 2 => ("ChamberPacerModel", "now", "[I", true)
  | 3 => ("ChamberPacerModel", "next", "[I", true)
  | 4 => ("ChamberPacerModel", "pending", "[Z", true)
  | 5 => ("ChamberPacerModel", "time", "I", false)
  | 6 => ("ChamberPacerModel", "level", "I", false)
  | 7 => ("ChamberPacerModel", "sinceA", "I", false)
  | 8 => ("ChamberPacerModel", "sinceV", "I", false)
  | 9 => ("ChamberPacerModel", "sinceP", "I", false)
  | 10 => ("ChamberPacerModel", "avRuns", "Z", false)
  | 11 => ("ChamberPacerModel", "av", "I", false)
  | 12 => ("ChamberPacerModel", "atrial", "Z", false)
  | 13 => ("ChamberPacerModel", "a1", "I", false)
  | 14 => ("ChamberPacerModel", "a2", "I", false)
  | 15 => ("ChamberPacerModel", "v1", "I", false)
  | 16 => ("ChamberPacerModel", "v2", "I", false)
  | 17 => ("ChamberPacerModel", "fast", "I", false)
  | 18 => ("ChamberPacerModel", "slow", "I", false)
  | 19 => ("ChamberPacerModel", "back", "Z", false)
  | 20 => ("ChamberPacerModel", "begun", "I", false)
  | 21 => ("ChamberPacerModel", "interval", "I", false)
  | 22 => ("ChamberPacerModel", "l", "I", false)
  | 23 => ("ChamberPacerModel", "bins", "[I", true)
  | 24 => ("ChamberPacerModel", "status", "I", false)
  | 25 => ("ChamberPacerModel", "taken", "I", false)
  | 26 => ("ChamberPacerModel", "bytes", "[I", true)
  | 27 => ("ChamberPacerModel", "markers", "I", false)
  | 28 => ("ChamberPacerModel", "marks", "[I", true)
  | 29 => ("ChamberPacerModel", "markTimes", "[I", true)
  | _ => ("ChamberPacerModel", "code", "I", false)
def tyX9 : Nat → FieldType := fun k => match k with
  | 0 => .array .int
  | 1 => .array .int
  | 2 => .array .int
  | 3 => .array .int
  | 4 => .array .boolean
  | 5 => .int
  | 6 => .int
  | 7 => .int
  | 8 => .int
  | 9 => .int
  | 10 => .boolean
  | 11 => .int
  | 12 => .boolean
  | 13 => .int
  | 14 => .int
  | 15 => .int
  | 16 => .int
  | 17 => .int
  | 18 => .int
  | 19 => .boolean
  | 20 => .int
  | 21 => .int
  | 22 => .int
  | 23 => .array .int
  | 24 => .int
  | 25 => .int
  | 26 => .array .int
  | 27 => .int
  | 28 => .array .int
  | 29 => .array .int
  | _ => .int
abbrev wsX90 : List Cond := u_ws RX9 TX9 31
theorem nmX9 : ∀ a, a < 31 → ∀ b, b < 31 → a ≠ b → (TX9 a).2.1 ≠ (TX9 b).2.1 := by decide +kernel
theorem tyX9_ok : ∀ k, k < 31 → parseFieldDescriptor (TX9 k).2.2.1 = some (tyX9 k) := by decide +kernel
abbrev cX9_init : ByteArray := prog_11_method_1_code
def yX9_init : MethodName := ⟨RX9, "<init>", "()V"⟩
abbrev cX9_range : ByteArray := prog_11_method_2_code
def yX9_range : MethodName := ⟨RX9, "range", "(IIII)V"⟩
abbrev cX9_thrown : ByteArray := prog_11_method_3_code
def yX9_thrown : MethodName := ⟨RX9, "thrown", "()I"⟩
abbrev cX9_mode : ByteArray := prog_11_method_4_code
def yX9_mode : MethodName := ⟨RX9, "mode", "(I)Z"⟩
abbrev cX9_mark : ByteArray := prog_11_method_5_code
def yX9_mark : MethodName := ⟨RX9, "mark", "(I)V"⟩
abbrev cX9_tooFast : ByteArray := prog_11_method_6_code
def yX9_tooFast : MethodName := ⟨RX9, "tooFast", "()V"⟩
abbrev cX9_boundary : ByteArray := prog_11_method_7_code
def yX9_boundary : MethodName := ⟨RX9, "boundary", "(Z)V"⟩
abbrev cX9_atrialEvent : ByteArray := prog_11_method_8_code
def yX9_atrialEvent : MethodName := ⟨RX9, "atrialEvent", "(Z)V"⟩
abbrev cX9_ventricularEvent : ByteArray := prog_11_method_9_code
def yX9_ventricularEvent : MethodName := ⟨RX9, "ventricularEvent", "(Z)V"⟩
abbrev cX9_near : ByteArray := prog_11_method_10_code
def yX9_near : MethodName := ⟨RX9, "near", "(III)I"⟩
abbrev cX9_more : ByteArray := prog_11_method_11_code
def yX9_more : MethodName := ⟨RX9, "more", "(I)I"⟩
abbrev cX9_apart : ByteArray := prog_11_method_12_code
def yX9_apart : MethodName := ⟨RX9, "apart", "(III)Z"⟩
abbrev cX9_step : ByteArray := prog_11_method_13_code
def yX9_step : MethodName := ⟨RX9, "step", "(III)I"⟩
abbrev cX9_pace : ByteArray := prog_11_method_14_code
def yX9_pace : MethodName := ⟨RX9, "pace", "(Z)I"⟩
abbrev cX9_tick : ByteArray := prog_11_method_15_code
def yX9_tick : MethodName := ⟨RX9, "tick", "(III)I"⟩
abbrev cX9_run : ByteArray := prog_11_method_16_code
def yX9_run : MethodName := ⟨RX9, "run", "(IIII)I"⟩
abbrev cX9_fits : ByteArray := prog_11_method_17_code
def yX9_fits : MethodName := ⟨RX9, "fits", "(II)Z"⟩
abbrev cX9_put : ByteArray := prog_11_method_18_code
def yX9_put : MethodName := ⟨RX9, "put", "(II)I"⟩
abbrev cX9_program : ByteArray := prog_11_method_19_code
def yX9_program : MethodName := ⟨RX9, "program", "(II)I"⟩
abbrev cX9_frameSum : ByteArray := prog_11_method_20_code
def yX9_frameSum : MethodName := ⟨RX9, "frameSum", "()I"⟩
abbrev cX9_receive : ByteArray := prog_11_method_21_code
def yX9_receive : MethodName := ⟨RX9, "receive", "(I)I"⟩
abbrev cX9_battery : ByteArray := prog_11_method_22_code
def yX9_battery : MethodName := ⟨RX9, "battery", "(I)I"⟩
abbrev cX9_parameter : ByteArray := prog_11_method_23_code
def yX9_parameter : MethodName := ⟨RX9, "parameter", "(I)I"⟩
abbrev cX9_waiting : ByteArray := prog_11_method_24_code
def yX9_waiting : MethodName := ⟨RX9, "waiting", "(I)I"⟩
abbrev cX9_since : ByteArray := prog_11_method_25_code
def yX9_since : MethodName := ⟨RX9, "since", "(I)I"⟩
abbrev cX9_value : ByteArray := prog_11_method_26_code
def yX9_value : MethodName := ⟨RX9, "value", "(I)I"⟩
abbrev cX9_fallback : ByteArray := prog_11_method_27_code
def yX9_fallback : MethodName := ⟨RX9, "fallback", "()Z"⟩
abbrev cX9_marker : ByteArray := prog_11_method_28_code
def yX9_marker : MethodName := ⟨RX9, "marker", "(II)I"⟩
abbrev cX9_histogram : ByteArray := prog_11_method_29_code
def yX9_histogram : MethodName := ⟨RX9, "histogram", "(I)I"⟩
def RJx8e188 : String := "java/lang/Cloneable"
def TJx8e188 : u_T := fun k => match k with
  | _ => ("", "", "", false)
def tyJx8e188 : Nat → FieldType := fun k => match k with
  | _ => .int
abbrev wsJx8e1880 : List Cond := u_ws RJx8e188 TJx8e188 0
theorem nmJx8e188 : ∀ a, a < 0 → ∀ b, b < 0 → a ≠ b → (TJx8e188 a).2.1 ≠ (TJx8e188 b).2.1 := by decide +kernel
theorem tyJx8e188_ok : ∀ k, k < 0 → parseFieldDescriptor (TJx8e188 k).2.2.1 = some (tyJx8e188 k) := by decide +kernel
def RJ6 : String := "java/lang/Integer"
def TJ6 : u_T := fun k => match k with
  | _ => ("", "", "", false)
def tyJ6 : Nat → FieldType := fun k => match k with
  | _ => .int
abbrev wsJ60 : List Cond := u_ws RJ6 TJ6 0
theorem nmJ6 : ∀ a, a < 0 → ∀ b, b < 0 → a ≠ b → (TJ6 a).2.1 ≠ (TJ6 b).2.1 := by decide +kernel
theorem tyJ6_ok : ∀ k, k < 0 → parseFieldDescriptor (TJ6 k).2.2.1 = some (tyJ6 k) := by decide +kernel
abbrev cJ6_bitCount_0f7a4 : ByteArray := prog_16_method_49_code
def yJ6_bitCount_0f7a4 : MethodName := ⟨RJ6, "bitCount", "(I)I"⟩
def RJ9 : String := "java/lang/Math"
def TJ9 : u_T := fun k => match k with
  | _ => ("", "", "", false)
def tyJ9 : Nat → FieldType := fun k => match k with
  | _ => .int
abbrev wsJ90 : List Cond := u_ws RJ9 TJ9 0
theorem nmJ9 : ∀ a, a < 0 → ∀ b, b < 0 → a ≠ b → (TJ9 a).2.1 ≠ (TJ9 b).2.1 := by decide +kernel
theorem tyJ9_ok : ∀ k, k < 0 → parseFieldDescriptor (TJ9 k).2.2.1 = some (tyJ9 k) := by decide +kernel
abbrev cJ9_abs_0f7a4 : ByteArray := prog_17_method_59_code
def yJ9_abs_0f7a4 : MethodName := ⟨RJ9, "abs", "(I)I"⟩
abbrev cJ9_max_7cf53 : ByteArray := prog_17_method_65_code
def yJ9_max_7cf53 : MethodName := ⟨RJ9, "max", "(II)I"⟩
abbrev cJ9_min_7cf53 : ByteArray := prog_17_method_69_code
def yJ9_min_7cf53 : MethodName := ⟨RJ9, "min", "(II)I"⟩
def RJ7 : String := "java/util/Arrays"
def TJ7 : u_T := fun k => match k with
  | _ => ("", "", "", false)
def tyJ7 : Nat → FieldType := fun k => match k with
  | _ => .int
abbrev wsJ70 : List Cond := u_ws RJ7 TJ7 0
theorem nmJ7 : ∀ a, a < 0 → ∀ b, b < 0 → a ≠ b → (TJ7 a).2.1 ≠ (TJ7 b).2.1 := by decide +kernel
theorem tyJ7_ok : ∀ k, k < 0 → parseFieldDescriptor (TJ7 k).2.2.1 = some (tyJ7 k) := by decide +kernel
abbrev cJ7_fill_53178 : ByteArray := prog_20_method_103_code
def yJ7_fill_53178 : MethodName := ⟨RJ7, "fill", "([II)V"⟩
def RL : String := "ChamberPacerLaw"
abbrev cL_program : ByteArray := method_3_code
def yL_program : MethodName := ⟨RL, "program", "(LChamberPacer;II[J)I"⟩
abbrev cL_law : ByteArray := code
def yL_law : MethodName := ⟨RL, "law", "([I)Z"⟩
def wsX0_init : List Cond := .code yX0_init cX0_init 1 none :: ([.methodLink RX0 3 objectInit, .instanceMethod objectInit, .code objectInit ⟨#[0xb1]⟩ 1 none, .fieldLink RX0 9 "ChamberPacer$Clock" "time" "I", .fieldLink RX0 15 "ChamberPacer$Clock" "sinceA" "I", .fieldLink RX0 18 "ChamberPacer$Clock" "sinceV" "I", .fieldLink RX0 21 "ChamberPacer$Clock" "sinceP" "I", .fieldLink RX0 24 "ChamberPacer$Clock" "av" "I", .fieldLink RX0 27 "ChamberPacer$Clock" "atrialSinceVentricular" "Z"] ++ wsX00)
def wsX0_avRuns : List Cond := .code yX0_avRuns cX0_avRuns 1 (some .boolean) :: ([.fieldLink RX0 24 "ChamberPacer$Clock" "av" "I"] ++ wsX00)
def wsX0_grow : List Cond := .code yX0_grow cX0_grow 1 none :: ([.fieldLink RX0 9 "ChamberPacer$Clock" "time" "I", .fieldLink RX0 15 "ChamberPacer$Clock" "sinceA" "I", .methodLink RX0 31 Lib.Math.min.name, .static Lib.Math.min.name, .initialized "java/lang/Math", .code Lib.Math.min.name Lib.Math.min.code 2 (some .int), .fieldLink RX0 18 "ChamberPacer$Clock" "sinceV" "I", .fieldLink RX0 21 "ChamberPacer$Clock" "sinceP" "I", .fieldLink RX0 24 "ChamberPacer$Clock" "av" "I", .methodLink RX0 37 yX0_avRuns, .instanceMethod yX0_avRuns, .selects RX0 yX0_avRuns yX0_avRuns, .initialized RX0, .code yX0_avRuns cX0_avRuns 1 (some .boolean)] ++ wsX00)
def wsX0_startAv : List Cond := .code yX0_startAv cX0_startAv 1 none :: ([.fieldLink RX0 24 "ChamberPacer$Clock" "av" "I"] ++ wsX00)
def wsX0_stopAv : List Cond := .code yX0_stopAv cX0_stopAv 1 none :: ([.fieldLink RX0 24 "ChamberPacer$Clock" "av" "I"] ++ wsX00)
def wsX0_restartA : List Cond := .code yX0_restartA cX0_restartA 2 none :: ([.fieldLink RX0 15 "ChamberPacer$Clock" "sinceA" "I", .fieldLink RX0 21 "ChamberPacer$Clock" "sinceP" "I", .fieldLink RX0 27 "ChamberPacer$Clock" "atrialSinceVentricular" "Z"] ++ wsX00)
def wsX0_restartV : List Cond := .code yX0_restartV cX0_restartV 1 none :: ([.fieldLink RX0 18 "ChamberPacer$Clock" "sinceV" "I", .fieldLink RX0 27 "ChamberPacer$Clock" "atrialSinceVentricular" "Z", .methodLink RX0 41 yX0_stopAv, .instanceMethod yX0_stopAv, .selects RX0 yX0_stopAv yX0_stopAv, .initialized RX0, .code yX0_stopAv cX0_stopAv 1 none, .fieldLink RX0 24 "ChamberPacer$Clock" "av" "I"] ++ wsX00)
def wsX1_init : List Cond := .code yX1_init cX1_init 1 none :: ([.methodLink RX1 3 objectInit, .instanceMethod objectInit, .code objectInit ⟨#[0xb1]⟩ 1 none, .arrayClass .int, .fieldLink RX1 11 "ChamberPacer$Cycles" "bins" "[I", .fieldLink RX1 15 "ChamberPacer$Cycles" "begun" "I"] ++ wsX10)
def wsX8_nearest : List Cond := .code yX8_nearest cX8_nearest 3 (some .int) :: ([])
def wsX1_end : List Cond := .code yX1_end cX1_end 2 none :: ([.fieldLink RX1 11 "ChamberPacer$Cycles" "bins" "[I", .fieldLink RX1 15 "ChamberPacer$Cycles" "begun" "I", .static yX8_nearest, .initialized RX8, .code yX8_nearest cX8_nearest 3 (some .int)] ++ wsX10)
def wsX1_inBin : List Cond := .code yX1_inBin cX1_inBin 2 (some .int) :: ([.fieldLink RX1 11 "ChamberPacer$Cycles" "bins" "[I"] ++ wsX10)
def wsX2_init : List Cond := .code yX2_init cX2_init 1 none :: ([.methodLink RX2 1 objectInit, .instanceMethod objectInit, .code objectInit ⟨#[0xb1]⟩ 1 none, .fieldLink RX2 7 "ChamberPacer$Follower" "fast" "I", .fieldLink RX2 13 "ChamberPacer$Follower" "slow" "I", .fieldLink RX2 16 "ChamberPacer$Follower" "gaveUp" "Z"] ++ wsX20)
def wsX2_count : List Cond := .code yX2_count cX2_count 2 none :: ([.fieldLink RX2 7 "ChamberPacer$Follower" "fast" "I", .fieldLink RX2 13 "ChamberPacer$Follower" "slow" "I", .fieldLink RX2 16 "ChamberPacer$Follower" "gaveUp" "Z"] ++ wsX20)
def wsX2_forget : List Cond := .code yX2_forget cX2_forget 1 none :: ([.fieldLink RX2 7 "ChamberPacer$Follower" "fast" "I", .fieldLink RX2 13 "ChamberPacer$Follower" "slow" "I", .fieldLink RX2 16 "ChamberPacer$Follower" "gaveUp" "Z"] ++ wsX20)
def wsX3_init : List Cond := .code yX3_init cX3_init 1 none :: ([.methodLink RX3 5 objectInit, .instanceMethod objectInit, .code objectInit ⟨#[0xb1]⟩ 1 none, .arrayClass .int, .fieldLink RX3 11 "ChamberPacer$Frame" "bytes" "[I", .fieldLink RX3 15 "ChamberPacer$Frame" "got" "I"] ++ wsX30)
def wsX3_endsWith : List Cond := .code yX3_endsWith cX3_endsWith 2 (some .boolean) :: ([.fieldLink RX3 15 "ChamberPacer$Frame" "got" "I", .fieldLink RX3 11 "ChamberPacer$Frame" "bytes" "[I"] ++ wsX30)
def wsX3_divide : List Cond := .code yX3_divide cX3_divide 3 (some .int) :: ([])
def wsX3_sumIsRight : List Cond := .code yX3_sumIsRight cX3_sumIsRight 3 (some .boolean) :: ([.fieldLink RX3 11 "ChamberPacer$Frame" "bytes" "[I", .methodLink RX3 19 yX3_divide, .static yX3_divide, .initialized RX3, .code yX3_divide cX3_divide 3 (some .int)] ++ wsX30)
def wsX3_command : List Cond := .code yX3_command cX3_command 1 (some .int) :: ([.fieldLink RX3 11 "ChamberPacer$Frame" "bytes" "[I"] ++ wsX30)
def wsX3_number : List Cond := .code yX3_number cX3_number 1 (some .int) :: ([.fieldLink RX3 11 "ChamberPacer$Frame" "bytes" "[I"] ++ wsX30)
def wsX3_amount : List Cond := .code yX3_amount cX3_amount 1 (some .int) :: ([.fieldLink RX3 11 "ChamberPacer$Frame" "bytes" "[I"] ++ wsX30)
def wsX4_init : List Cond := .code yX4_init cX4_init 1 none :: ([.methodLink RX4 3 objectInit, .instanceMethod objectInit, .code objectInit ⟨#[0xb1]⟩ 1 none, .arrayClass .int, .fieldLink RX4 11 "ChamberPacer$Markers" "kinds" "[I", .fieldLink RX4 15 "ChamberPacer$Markers" "times" "[I", .fieldLink RX4 18 "ChamberPacer$Markers" "next" "I", .fieldLink RX4 22 "ChamberPacer$Markers" "count" "I"] ++ wsX40)
def wsX4_keep : List Cond := .code yX4_keep cX4_keep 3 none :: ([.fieldLink RX4 11 "ChamberPacer$Markers" "kinds" "[I", .fieldLink RX4 18 "ChamberPacer$Markers" "next" "I", .fieldLink RX4 15 "ChamberPacer$Markers" "times" "[I", .fieldLink RX4 22 "ChamberPacer$Markers" "count" "I"] ++ wsX40)
def wsX4_has : List Cond := .code yX4_has cX4_has 2 (some .boolean) :: ([.fieldLink RX4 22 "ChamberPacer$Markers" "count" "I"] ++ wsX40)
def wsX4_place : List Cond := .code yX4_place cX4_place 2 (some .int) :: ([.fieldLink RX4 18 "ChamberPacer$Markers" "next" "I"] ++ wsX40)
def wsX4_kind : List Cond := .code yX4_kind cX4_kind 2 (some .int) :: ([.fieldLink RX4 11 "ChamberPacer$Markers" "kinds" "[I", .methodLink RX4 25 yX4_has, .instanceMethod yX4_has, .selects RX4 yX4_has yX4_has, .initialized RX4, .code yX4_has cX4_has 2 (some .boolean), .fieldLink RX4 22 "ChamberPacer$Markers" "count" "I", .methodLink RX4 29 yX4_place, .instanceMethod yX4_place, .selects RX4 yX4_place yX4_place, .code yX4_place cX4_place 2 (some .int), .fieldLink RX4 18 "ChamberPacer$Markers" "next" "I"] ++ wsX40)
def wsX4_time : List Cond := .code yX4_time cX4_time 2 (some .int) :: ([.fieldLink RX4 15 "ChamberPacer$Markers" "times" "[I", .methodLink RX4 25 yX4_has, .instanceMethod yX4_has, .selects RX4 yX4_has yX4_has, .initialized RX4, .code yX4_has cX4_has 2 (some .boolean), .fieldLink RX4 22 "ChamberPacer$Markers" "count" "I", .methodLink RX4 29 yX4_place, .instanceMethod yX4_place, .selects RX4 yX4_place yX4_place, .code yX4_place cX4_place 2 (some .int), .fieldLink RX4 18 "ChamberPacer$Markers" "next" "I"] ++ wsX40)
def wsX5_init : List Cond := .code yX5_init cX5_init 1 none :: ([.methodLink RX5 5 objectInit, .instanceMethod objectInit, .code objectInit ⟨#[0xb1]⟩ 1 none, .fieldLink RX5 11 "ChamberPacer$Pace" "level" "I", .fieldLink RX5 15 "ChamberPacer$Pace" "interval" "I", .fieldLink RX5 18 "ChamberPacer$Pace" "longest" "I"] ++ wsX50)
def wsX5_adapt : List Cond := .code yX5_adapt cX5_adapt 3 none :: ([.fieldLink RX5 11 "ChamberPacer$Pace" "level" "I"] ++ wsX50)
def wsX5_approach : List Cond := .code yX5_approach cX5_approach 4 none :: ([.fieldLink RX5 11 "ChamberPacer$Pace" "level" "I", .fieldLink RX5 15 "ChamberPacer$Pace" "interval" "I", .static yX8_nearest, .initialized RX8, .code yX8_nearest cX8_nearest 3 (some .int)] ++ wsX50)
def wsX5_beginCycle : List Cond := .code yX5_beginCycle cX5_beginCycle 3 none :: ([.fieldLink RX5 15 "ChamberPacer$Pace" "interval" "I", .methodLink RX5 25 Lib.Math.min.name, .static Lib.Math.min.name, .initialized "java/lang/Math", .code Lib.Math.min.name Lib.Math.min.code 2 (some .int), .fieldLink RX5 18 "ChamberPacer$Pace" "longest" "I"] ++ wsX50)
def wsJ7_fill_53178 : List Cond := .code yJ7_fill_53178 cJ7_fill_53178 4 none :: ([])
def wsX6_init : List Cond := .code yX6_init cX6_init 1 none :: ([.methodLink RX6 3 objectInit, .instanceMethod objectInit, .code objectInit ⟨#[0xb1]⟩ 1 none, .methodLink RX6 13 ⟨"[I", "clone", "()Ljava/lang/Object;"⟩, .sameMethod "[I" "java/lang/Object" "clone" "()Ljava/lang/Object;", .native ⟨"java/lang/Object", "clone", "()Ljava/lang/Object;"⟩, .instanceMethod ⟨"java/lang/Object", "clone", "()Ljava/lang/Object;"⟩, .selects "[I" ⟨"[I", "clone", "()Ljava/lang/Object;"⟩ ⟨"java/lang/Object", "clone", "()Ljava/lang/Object;"⟩, .classLink RX6 14 "[I", .fieldLink RX6 18 "ChamberPacer$Settings" "forced" "[I", .arrayClass .int, .fieldLink RX6 23 "ChamberPacer$Settings" "asked" "[I", .methodLink RX6 26 yJ7_fill_53178, .static yJ7_fill_53178, .initialized RJ7, .code yJ7_fill_53178 cJ7_fill_53178 4 none] ++ wsX60)
def wsX6_exists : List Cond := .code yX6_exists cX6_exists 1 (some .boolean) :: ([])
def wsX6_allows : List Cond := .code yX6_allows cX6_allows 2 (some .boolean) :: ([.methodLink RX6 32 yX6_exists, .static yX6_exists, .initialized RX6, .code yX6_exists cX6_exists 1 (some .boolean)])
def wsX6_mode : List Cond := .code yX6_mode cX6_mode 1 (some .int) :: ([.fieldLink RX6 18 "ChamberPacer$Settings" "forced" "[I"] ++ wsX60)
def wsX6_inForce : List Cond := .code yX6_inForce cX6_inForce 2 (some .int) :: ([.fieldLink RX6 18 "ChamberPacer$Settings" "forced" "[I", .methodLink RX6 32 yX6_exists, .static yX6_exists, .initialized RX6, .code yX6_exists cX6_exists 1 (some .boolean)] ++ wsX60)
def wsX6_pending : List Cond := .code yX6_pending cX6_pending 2 (some .int) :: ([.fieldLink RX6 23 "ChamberPacer$Settings" "asked" "[I", .methodLink RX6 32 yX6_exists, .static yX6_exists, .initialized RX6, .code yX6_exists cX6_exists 1 (some .boolean)] ++ wsX60)
def wsX6_latest : List Cond := .code yX6_latest cX6_latest 3 (some .int) :: ([.methodLink RX6 42 yX6_pending, .instanceMethod yX6_pending, .selects RX6 yX6_pending yX6_pending, .initialized RX6, .code yX6_pending cX6_pending 2 (some .int), .fieldLink RX6 23 "ChamberPacer$Settings" "asked" "[I", .methodLink RX6 32 yX6_exists, .static yX6_exists, .code yX6_exists cX6_exists 1 (some .boolean), .methodLink RX6 46 yX6_inForce, .instanceMethod yX6_inForce, .selects RX6 yX6_inForce yX6_inForce, .code yX6_inForce cX6_inForce 2 (some .int), .fieldLink RX6 18 "ChamberPacer$Settings" "forced" "[I"] ++ wsX60)
def wsX6_ask : List Cond := .code yX6_ask cX6_ask 3 none :: ([.fieldLink RX6 23 "ChamberPacer$Settings" "asked" "[I", .methodLink RX6 49 yX6_allows, .static yX6_allows, .initialized RX6, .code yX6_allows cX6_allows 2 (some .boolean), .methodLink RX6 32 yX6_exists, .static yX6_exists, .code yX6_exists cX6_exists 1 (some .boolean)] ++ wsX60)
def wsX6_dropPending : List Cond := .code yX6_dropPending cX6_dropPending 1 none :: ([.fieldLink RX6 23 "ChamberPacer$Settings" "asked" "[I", .methodLink RX6 26 yJ7_fill_53178, .static yJ7_fill_53178, .initialized RJ7, .code yJ7_fill_53178 cJ7_fill_53178 4 none] ++ wsX60)
def wsX6_putInForce : List Cond := .code yX6_putInForce cX6_putInForce 3 (some .boolean) :: ([.fieldLink RX6 23 "ChamberPacer$Settings" "asked" "[I", .fieldLink RX6 18 "ChamberPacer$Settings" "forced" "[I"] ++ wsX60)
def wsX7_init : List Cond := .code yX7_init cX7_init 1 none :: ([.methodLink RX7 1 objectInit, .instanceMethod objectInit, .code objectInit ⟨#[0xb1]⟩ 1 none, .fieldLink RX7 7 "ChamberPacer$Signal" "oneBefore" "I", .fieldLink RX7 13 "ChamberPacer$Signal" "twoBefore" "I"] ++ wsX70)
def wsX7_crosses : List Cond := .code yX7_crosses cX7_crosses 4 (some .boolean) :: ([.fieldLink RX7 13 "ChamberPacer$Signal" "twoBefore" "I", .methodLink RX7 16 Lib.Math.abs.name, .static Lib.Math.abs.name, .initialized "java/lang/Math", .code Lib.Math.abs.name Lib.Math.abs.code 1 (some .int), .fieldLink RX7 7 "ChamberPacer$Signal" "oneBefore" "I"] ++ wsX70)
def wsX8_init_r1 : List Cond := [Cond.methodLink RX8 1 objectInit, Cond.instanceMethod objectInit, Cond.code objectInit ⟨#[0xb1]⟩ 1 none, Cond.classLink RX8 7 RX6, Cond.instantiable RX6 2, Cond.initialized RX6, Cond.fieldLink RX8 10 "ChamberPacer" "settings" "LChamberPacer$Settings;", Cond.classLink RX8 16 RX0, Cond.instantiable RX0 6, Cond.initialized RX0, Cond.fieldLink RX8 19 "ChamberPacer" "clock" "LChamberPacer$Clock;", Cond.classLink RX8 23 RX7, Cond.instantiable RX7 2, Cond.initialized RX7, Cond.fieldLink RX8 26 "ChamberPacer" "signalA" "LChamberPacer$Signal;", Cond.fieldLink RX8 30 "ChamberPacer" "signalV" "LChamberPacer$Signal;", Cond.classLink RX8 33 RX2, Cond.instantiable RX2 3, Cond.initialized RX2, Cond.fieldLink RX8 36 "ChamberPacer" "follower" "LChamberPacer$Follower;", Cond.classLink RX8 40 RX5, Cond.instantiable RX5 3, Cond.initialized RX5, Cond.fieldLink RX8 43 "ChamberPacer" "pace" "LChamberPacer$Pace;"]
def wsX8_init_r2 : List Cond := [Cond.classLink RX8 47 RX1, Cond.instantiable RX1 2, Cond.initialized RX1, Cond.fieldLink RX8 50 "ChamberPacer" "cycles" "LChamberPacer$Cycles;", Cond.classLink RX8 54 RX4, Cond.instantiable RX4 4, Cond.initialized RX4, Cond.fieldLink RX8 57 "ChamberPacer" "markers" "LChamberPacer$Markers;", Cond.classLink RX8 61 RX3, Cond.instantiable RX3 2, Cond.initialized RX3, Cond.fieldLink RX8 64 "ChamberPacer" "frame" "LChamberPacer$Frame;", Cond.fieldLink RX8 68 "ChamberPacer" "status" "I", Cond.methodLink RX8 9 yX6_init, Cond.instanceMethod yX6_init, Cond.code yX6_init cX6_init 1 none, Cond.methodLink RX6 3 objectInit, Cond.methodLink RX6 13 ⟨"[I", "clone", "()Ljava/lang/Object;"⟩, Cond.sameMethod "[I" "java/lang/Object" "clone" "()Ljava/lang/Object;", Cond.native ⟨"java/lang/Object", "clone", "()Ljava/lang/Object;"⟩, Cond.instanceMethod ⟨"java/lang/Object", "clone", "()Ljava/lang/Object;"⟩, Cond.selects "[I" ⟨"[I", "clone", "()Ljava/lang/Object;"⟩ ⟨"java/lang/Object", "clone", "()Ljava/lang/Object;"⟩, Cond.classLink RX6 14 "[I", Cond.fieldLink RX6 18 "ChamberPacer$Settings" "forced" "[I"]
def wsX8_init_r3 : List Cond := [Cond.arrayClass .int, Cond.fieldLink RX6 23 "ChamberPacer$Settings" "asked" "[I", Cond.methodLink RX6 26 yJ7_fill_53178, Cond.static yJ7_fill_53178, Cond.initialized RJ7, Cond.code yJ7_fill_53178 cJ7_fill_53178 4 none, Cond.instanceMethod yX0_init, Cond.code yX0_init cX0_init 1 none, Cond.methodLink RX0 3 objectInit, Cond.fieldLink RX0 9 "ChamberPacer$Clock" "time" "I", Cond.fieldLink RX0 15 "ChamberPacer$Clock" "sinceA" "I", Cond.fieldLink RX0 18 "ChamberPacer$Clock" "sinceV" "I", Cond.fieldLink RX0 21 "ChamberPacer$Clock" "sinceP" "I", Cond.fieldLink RX0 24 "ChamberPacer$Clock" "av" "I", Cond.fieldLink RX0 27 "ChamberPacer$Clock" "atrialSinceVentricular" "Z", Cond.instanceMethod yX7_init, Cond.code yX7_init cX7_init 1 none, Cond.methodLink RX7 1 objectInit, Cond.fieldLink RX7 7 "ChamberPacer$Signal" "oneBefore" "I", Cond.fieldLink RX7 13 "ChamberPacer$Signal" "twoBefore" "I", Cond.instanceMethod yX2_init, Cond.code yX2_init cX2_init 1 none, Cond.methodLink RX2 1 objectInit, Cond.fieldLink RX2 7 "ChamberPacer$Follower" "fast" "I"]
def wsX8_init_r4 : List Cond := [Cond.fieldLink RX2 13 "ChamberPacer$Follower" "slow" "I", Cond.fieldLink RX2 16 "ChamberPacer$Follower" "gaveUp" "Z", Cond.instanceMethod yX5_init, Cond.code yX5_init cX5_init 1 none, Cond.methodLink RX5 5 objectInit, Cond.fieldLink RX5 11 "ChamberPacer$Pace" "level" "I", Cond.fieldLink RX5 15 "ChamberPacer$Pace" "interval" "I", Cond.fieldLink RX5 18 "ChamberPacer$Pace" "longest" "I", Cond.instanceMethod yX1_init, Cond.code yX1_init cX1_init 1 none, Cond.methodLink RX1 3 objectInit, Cond.fieldLink RX1 11 "ChamberPacer$Cycles" "bins" "[I", Cond.fieldLink RX1 15 "ChamberPacer$Cycles" "begun" "I", Cond.instanceMethod yX4_init, Cond.code yX4_init cX4_init 1 none, Cond.methodLink RX4 3 objectInit, Cond.fieldLink RX4 11 "ChamberPacer$Markers" "kinds" "[I", Cond.fieldLink RX4 15 "ChamberPacer$Markers" "times" "[I", Cond.fieldLink RX4 18 "ChamberPacer$Markers" "next" "I", Cond.fieldLink RX4 22 "ChamberPacer$Markers" "count" "I", Cond.instanceMethod yX3_init, Cond.code yX3_init cX3_init 1 none, Cond.methodLink RX3 5 objectInit, Cond.fieldLink RX3 11 "ChamberPacer$Frame" "bytes" "[I"]
def wsX8_init_r5 : List Cond := [Cond.fieldLink RX3 15 "ChamberPacer$Frame" "got" "I"]
def wsX8_init : List Cond := .code yX8_init cX8_init 1 none :: ((wsX8_init_r1 ++ (wsX8_init_r2 ++ (wsX8_init_r3 ++ (wsX8_init_r4 ++ wsX8_init_r5)))) ++ wsX60 ++ wsX80 ++ wsX00 ++ wsX70 ++ wsX20 ++ wsX50 ++ wsX10 ++ wsX40 ++ wsX30)
def wsX8_sensesV : List Cond := .code yX8_sensesV cX8_sensesV 1 (some .boolean) :: ([])
def wsX8_vIsListenedTo : List Cond := .code yX8_vIsListenedTo cX8_vIsListenedTo 1 (some .boolean) :: ([.fieldLink RX8 10 "ChamberPacer" "settings" "LChamberPacer$Settings;", .fieldLink RX8 19 "ChamberPacer" "clock" "LChamberPacer$Clock;", .fieldLink RX8 162 "ChamberPacer$Clock" "sinceV" "I", .fieldLink RX8 165 "ChamberPacer$Clock" "sinceP" "I", .methodLink RX8 220 yX6_mode, .instanceMethod yX6_mode, .selects RX6 yX6_mode yX6_mode, .initialized RX6, .code yX6_mode cX6_mode 1 (some .int), .fieldLink RX6 18 "ChamberPacer$Settings" "forced" "[I", .methodLink RX8 223 yX8_sensesV, .static yX8_sensesV, .initialized RX8, .code yX8_sensesV cX8_sensesV 1 (some .boolean), .methodLink RX8 83 yX6_inForce, .instanceMethod yX6_inForce, .selects RX6 yX6_inForce yX6_inForce, .code yX6_inForce cX6_inForce 2 (some .int), .methodLink RX6 32 yX6_exists, .static yX6_exists, .code yX6_exists cX6_exists 1 (some .boolean)] ++ wsX80 ++ wsX00 ++ wsX60)
def wsX8_isLedByA : List Cond := .code yX8_isLedByA cX8_isLedByA 1 (some .boolean) :: ([])
def wsX8_leaveMode_r1 : List Cond := [Cond.fieldLink RX8 19 "ChamberPacer" "clock" "LChamberPacer$Clock;", Cond.fieldLink RX8 36 "ChamberPacer" "follower" "LChamberPacer$Follower;", Cond.fieldLink RX8 189 "ChamberPacer$Follower" "gaveUp" "Z", Cond.fieldLink RX8 57 "ChamberPacer" "markers" "LChamberPacer$Markers;", Cond.fieldLink RX8 186 "ChamberPacer$Clock" "time" "I", Cond.methodLink RX8 285 yX0_stopAv, Cond.instanceMethod yX0_stopAv, Cond.selects RX0 yX0_stopAv yX0_stopAv, Cond.initialized RX0, Cond.code yX0_stopAv cX0_stopAv 1 none, Cond.fieldLink RX0 24 "ChamberPacer$Clock" "av" "I", Cond.methodLink RX8 241 yX4_keep, Cond.instanceMethod yX4_keep, Cond.selects RX4 yX4_keep yX4_keep, Cond.initialized RX4, Cond.code yX4_keep cX4_keep 3 none, Cond.fieldLink RX4 11 "ChamberPacer$Markers" "kinds" "[I", Cond.fieldLink RX4 18 "ChamberPacer$Markers" "next" "I", Cond.fieldLink RX4 15 "ChamberPacer$Markers" "times" "[I", Cond.fieldLink RX4 22 "ChamberPacer$Markers" "count" "I", Cond.methodLink RX8 288 yX2_forget, Cond.instanceMethod yX2_forget, Cond.selects RX2 yX2_forget yX2_forget, Cond.initialized RX2]
def wsX8_leaveMode_r2 : List Cond := [Cond.code yX2_forget cX2_forget 1 none, Cond.fieldLink RX2 7 "ChamberPacer$Follower" "fast" "I", Cond.fieldLink RX2 13 "ChamberPacer$Follower" "slow" "I", Cond.fieldLink RX2 16 "ChamberPacer$Follower" "gaveUp" "Z"]
def wsX8_leaveMode : List Cond := .code yX8_leaveMode cX8_leaveMode 1 none :: ((wsX8_leaveMode_r1 ++ wsX8_leaveMode_r2) ++ wsX80 ++ wsX20 ++ wsX00 ++ wsX40)
def wsX8_boundary_r1 : List Cond := [Cond.fieldLink RX8 10 "ChamberPacer" "settings" "LChamberPacer$Settings;", Cond.fieldLink RX8 57 "ChamberPacer" "markers" "LChamberPacer$Markers;", Cond.fieldLink RX8 19 "ChamberPacer" "clock" "LChamberPacer$Clock;", Cond.fieldLink RX8 186 "ChamberPacer$Clock" "time" "I", Cond.fieldLink RX8 50 "ChamberPacer" "cycles" "LChamberPacer$Cycles;", Cond.fieldLink RX8 43 "ChamberPacer" "pace" "LChamberPacer$Pace;", Cond.methodLink RX8 220 yX6_mode, Cond.instanceMethod yX6_mode, Cond.selects RX6 yX6_mode yX6_mode, Cond.initialized RX6, Cond.code yX6_mode cX6_mode 1 (some .int), Cond.fieldLink RX6 18 "ChamberPacer$Settings" "forced" "[I", Cond.methodLink RX8 270 yX6_putInForce, Cond.instanceMethod yX6_putInForce, Cond.selects RX6 yX6_putInForce yX6_putInForce, Cond.code yX6_putInForce cX6_putInForce 3 (some .boolean), Cond.fieldLink RX6 23 "ChamberPacer$Settings" "asked" "[I", Cond.methodLink RX8 241 yX4_keep, Cond.instanceMethod yX4_keep, Cond.selects RX4 yX4_keep yX4_keep, Cond.initialized RX4, Cond.code yX4_keep cX4_keep 3 none, Cond.fieldLink RX4 11 "ChamberPacer$Markers" "kinds" "[I", Cond.fieldLink RX4 18 "ChamberPacer$Markers" "next" "I"]
def wsX8_boundary_r2 : List Cond := [Cond.fieldLink RX4 15 "ChamberPacer$Markers" "times" "[I", Cond.fieldLink RX4 22 "ChamberPacer$Markers" "count" "I", Cond.methodLink RX8 273 yX8_leaveMode, Cond.instanceMethod yX8_leaveMode, Cond.selects RX8 yX8_leaveMode yX8_leaveMode, Cond.initialized RX8, Cond.code yX8_leaveMode cX8_leaveMode 1 none, Cond.fieldLink RX8 36 "ChamberPacer" "follower" "LChamberPacer$Follower;", Cond.fieldLink RX8 189 "ChamberPacer$Follower" "gaveUp" "Z", Cond.methodLink RX8 285 yX0_stopAv, Cond.instanceMethod yX0_stopAv, Cond.selects RX0 yX0_stopAv yX0_stopAv, Cond.initialized RX0, Cond.code yX0_stopAv cX0_stopAv 1 none, Cond.fieldLink RX0 24 "ChamberPacer$Clock" "av" "I", Cond.methodLink RX8 288 yX2_forget, Cond.instanceMethod yX2_forget, Cond.selects RX2 yX2_forget yX2_forget, Cond.initialized RX2, Cond.code yX2_forget cX2_forget 1 none, Cond.fieldLink RX2 7 "ChamberPacer$Follower" "fast" "I", Cond.fieldLink RX2 13 "ChamberPacer$Follower" "slow" "I", Cond.fieldLink RX2 16 "ChamberPacer$Follower" "gaveUp" "Z", Cond.methodLink RX8 276 yX1_end]
def wsX8_boundary_r3 : List Cond := [Cond.instanceMethod yX1_end, Cond.selects RX1 yX1_end yX1_end, Cond.initialized RX1, Cond.code yX1_end cX1_end 2 none, Cond.fieldLink RX1 11 "ChamberPacer$Cycles" "bins" "[I", Cond.fieldLink RX1 15 "ChamberPacer$Cycles" "begun" "I", Cond.static yX8_nearest, Cond.code yX8_nearest cX8_nearest 3 (some .int), Cond.methodLink RX8 83 yX6_inForce, Cond.instanceMethod yX6_inForce, Cond.selects RX6 yX6_inForce yX6_inForce, Cond.code yX6_inForce cX6_inForce 2 (some .int), Cond.methodLink RX6 32 yX6_exists, Cond.static yX6_exists, Cond.code yX6_exists cX6_exists 1 (some .boolean), Cond.methodLink RX8 279 yX5_approach, Cond.instanceMethod yX5_approach, Cond.selects RX5 yX5_approach yX5_approach, Cond.initialized RX5, Cond.code yX5_approach cX5_approach 4 none, Cond.fieldLink RX5 11 "ChamberPacer$Pace" "level" "I", Cond.fieldLink RX5 15 "ChamberPacer$Pace" "interval" "I", Cond.methodLink RX8 282 yX5_beginCycle, Cond.instanceMethod yX5_beginCycle]
def wsX8_boundary_r4 : List Cond := [Cond.selects RX5 yX5_beginCycle yX5_beginCycle, Cond.code yX5_beginCycle cX5_beginCycle 3 none, Cond.methodLink RX5 25 Lib.Math.min.name, Cond.static Lib.Math.min.name, Cond.initialized "java/lang/Math", Cond.code Lib.Math.min.name Lib.Math.min.code 2 (some .int), Cond.fieldLink RX5 18 "ChamberPacer$Pace" "longest" "I"]
def wsX8_boundary : List Cond := .code yX8_boundary cX8_boundary 5 none :: ((wsX8_boundary_r1 ++ (wsX8_boundary_r2 ++ (wsX8_boundary_r3 ++ wsX8_boundary_r4))) ++ wsX80 ++ wsX00 ++ wsX60 ++ wsX40 ++ wsX20 ++ wsX10 ++ wsX50)
def wsX8_ventricularEvent_r1 : List Cond := [Cond.fieldLink RX8 57 "ChamberPacer" "markers" "LChamberPacer$Markers;", Cond.fieldLink RX8 19 "ChamberPacer" "clock" "LChamberPacer$Clock;", Cond.fieldLink RX8 186 "ChamberPacer$Clock" "time" "I", Cond.fieldLink RX8 10 "ChamberPacer" "settings" "LChamberPacer$Settings;", Cond.methodLink RX8 241 yX4_keep, Cond.instanceMethod yX4_keep, Cond.selects RX4 yX4_keep yX4_keep, Cond.initialized RX4, Cond.code yX4_keep cX4_keep 3 none, Cond.fieldLink RX4 11 "ChamberPacer$Markers" "kinds" "[I", Cond.fieldLink RX4 18 "ChamberPacer$Markers" "next" "I", Cond.fieldLink RX4 15 "ChamberPacer$Markers" "times" "[I", Cond.fieldLink RX4 22 "ChamberPacer$Markers" "count" "I", Cond.methodLink RX8 264 yX0_restartV, Cond.instanceMethod yX0_restartV, Cond.selects RX0 yX0_restartV yX0_restartV, Cond.initialized RX0, Cond.code yX0_restartV cX0_restartV 1 none, Cond.fieldLink RX0 18 "ChamberPacer$Clock" "sinceV" "I", Cond.fieldLink RX0 27 "ChamberPacer$Clock" "atrialSinceVentricular" "Z", Cond.methodLink RX0 41 yX0_stopAv, Cond.instanceMethod yX0_stopAv, Cond.selects RX0 yX0_stopAv yX0_stopAv, Cond.code yX0_stopAv cX0_stopAv 1 none]
def wsX8_ventricularEvent_r2 : List Cond := [Cond.fieldLink RX0 24 "ChamberPacer$Clock" "av" "I", Cond.methodLink RX8 220 yX6_mode, Cond.instanceMethod yX6_mode, Cond.selects RX6 yX6_mode yX6_mode, Cond.initialized RX6, Cond.code yX6_mode cX6_mode 1 (some .int), Cond.fieldLink RX6 18 "ChamberPacer$Settings" "forced" "[I", Cond.methodLink RX8 229 yX8_isLedByA, Cond.static yX8_isLedByA, Cond.initialized RX8, Cond.code yX8_isLedByA cX8_isLedByA 1 (some .boolean), Cond.methodLink RX8 261 yX8_boundary, Cond.instanceMethod yX8_boundary, Cond.selects RX8 yX8_boundary yX8_boundary, Cond.code yX8_boundary cX8_boundary 5 none, Cond.fieldLink RX8 50 "ChamberPacer" "cycles" "LChamberPacer$Cycles;", Cond.fieldLink RX8 43 "ChamberPacer" "pace" "LChamberPacer$Pace;", Cond.methodLink RX8 270 yX6_putInForce, Cond.instanceMethod yX6_putInForce, Cond.selects RX6 yX6_putInForce yX6_putInForce, Cond.code yX6_putInForce cX6_putInForce 3 (some .boolean), Cond.fieldLink RX6 23 "ChamberPacer$Settings" "asked" "[I", Cond.methodLink RX8 273 yX8_leaveMode, Cond.instanceMethod yX8_leaveMode]
def wsX8_ventricularEvent_r3 : List Cond := [Cond.selects RX8 yX8_leaveMode yX8_leaveMode, Cond.code yX8_leaveMode cX8_leaveMode 1 none, Cond.fieldLink RX8 36 "ChamberPacer" "follower" "LChamberPacer$Follower;", Cond.fieldLink RX8 189 "ChamberPacer$Follower" "gaveUp" "Z", Cond.methodLink RX8 285 yX0_stopAv, Cond.methodLink RX8 288 yX2_forget, Cond.instanceMethod yX2_forget, Cond.selects RX2 yX2_forget yX2_forget, Cond.initialized RX2, Cond.code yX2_forget cX2_forget 1 none, Cond.fieldLink RX2 7 "ChamberPacer$Follower" "fast" "I", Cond.fieldLink RX2 13 "ChamberPacer$Follower" "slow" "I", Cond.fieldLink RX2 16 "ChamberPacer$Follower" "gaveUp" "Z", Cond.methodLink RX8 276 yX1_end, Cond.instanceMethod yX1_end, Cond.selects RX1 yX1_end yX1_end, Cond.initialized RX1, Cond.code yX1_end cX1_end 2 none, Cond.fieldLink RX1 11 "ChamberPacer$Cycles" "bins" "[I", Cond.fieldLink RX1 15 "ChamberPacer$Cycles" "begun" "I", Cond.static yX8_nearest, Cond.code yX8_nearest cX8_nearest 3 (some .int), Cond.methodLink RX8 83 yX6_inForce, Cond.instanceMethod yX6_inForce]
def wsX8_ventricularEvent_r4 : List Cond := [Cond.selects RX6 yX6_inForce yX6_inForce, Cond.code yX6_inForce cX6_inForce 2 (some .int), Cond.methodLink RX6 32 yX6_exists, Cond.static yX6_exists, Cond.code yX6_exists cX6_exists 1 (some .boolean), Cond.methodLink RX8 279 yX5_approach, Cond.instanceMethod yX5_approach, Cond.selects RX5 yX5_approach yX5_approach, Cond.initialized RX5, Cond.code yX5_approach cX5_approach 4 none, Cond.fieldLink RX5 11 "ChamberPacer$Pace" "level" "I", Cond.fieldLink RX5 15 "ChamberPacer$Pace" "interval" "I", Cond.methodLink RX8 282 yX5_beginCycle, Cond.instanceMethod yX5_beginCycle, Cond.selects RX5 yX5_beginCycle yX5_beginCycle, Cond.code yX5_beginCycle cX5_beginCycle 3 none, Cond.methodLink RX5 25 Lib.Math.min.name, Cond.static Lib.Math.min.name, Cond.initialized "java/lang/Math", Cond.code Lib.Math.min.name Lib.Math.min.code 2 (some .int), Cond.fieldLink RX5 18 "ChamberPacer$Pace" "longest" "I"]
def wsX8_ventricularEvent : List Cond := .code yX8_ventricularEvent cX8_ventricularEvent 3 none :: ((wsX8_ventricularEvent_r1 ++ (wsX8_ventricularEvent_r2 ++ (wsX8_ventricularEvent_r3 ++ wsX8_ventricularEvent_r4))) ++ wsX80 ++ wsX00 ++ wsX40 ++ wsX60 ++ wsX20 ++ wsX10 ++ wsX50)
def wsX8_sensesA : List Cond := .code yX8_sensesA cX8_sensesA 1 (some .boolean) :: ([])
def wsX8_aIsListenedTo : List Cond := .code yX8_aIsListenedTo cX8_aIsListenedTo 1 (some .boolean) :: ([.fieldLink RX8 10 "ChamberPacer" "settings" "LChamberPacer$Settings;", .fieldLink RX8 19 "ChamberPacer" "clock" "LChamberPacer$Clock;", .fieldLink RX8 159 "ChamberPacer$Clock" "sinceA" "I", .fieldLink RX8 162 "ChamberPacer$Clock" "sinceV" "I", .methodLink RX8 220 yX6_mode, .instanceMethod yX6_mode, .selects RX6 yX6_mode yX6_mode, .initialized RX6, .code yX6_mode cX6_mode 1 (some .int), .fieldLink RX6 18 "ChamberPacer$Settings" "forced" "[I", .methodLink RX8 226 yX8_sensesA, .static yX8_sensesA, .initialized RX8, .code yX8_sensesA cX8_sensesA 1 (some .boolean), .methodLink RX8 83 yX6_inForce, .instanceMethod yX6_inForce, .selects RX6 yX6_inForce yX6_inForce, .code yX6_inForce cX6_inForce 2 (some .int), .methodLink RX6 32 yX6_exists, .static yX6_exists, .code yX6_exists cX6_exists 1 (some .boolean), .methodLink RX8 229 yX8_isLedByA, .static yX8_isLedByA, .code yX8_isLedByA cX8_isLedByA 1 (some .boolean)] ++ wsX80 ++ wsX00 ++ wsX60)
def wsX8_follows : List Cond := .code yX8_follows cX8_follows 1 (some .boolean) :: ([])
def wsX8_tellTooFast_r1 : List Cond := [Cond.fieldLink RX8 36 "ChamberPacer" "follower" "LChamberPacer$Follower;", Cond.fieldLink RX8 189 "ChamberPacer$Follower" "gaveUp" "Z", Cond.fieldLink RX8 19 "ChamberPacer" "clock" "LChamberPacer$Clock;", Cond.fieldLink RX8 159 "ChamberPacer$Clock" "sinceA" "I", Cond.fieldLink RX8 10 "ChamberPacer" "settings" "LChamberPacer$Settings;", Cond.fieldLink RX8 57 "ChamberPacer" "markers" "LChamberPacer$Markers;", Cond.fieldLink RX8 186 "ChamberPacer$Clock" "time" "I", Cond.methodLink RX8 83 yX6_inForce, Cond.instanceMethod yX6_inForce, Cond.selects RX6 yX6_inForce yX6_inForce, Cond.initialized RX6, Cond.code yX6_inForce cX6_inForce 2 (some .int), Cond.fieldLink RX6 18 "ChamberPacer$Settings" "forced" "[I", Cond.methodLink RX6 32 yX6_exists, Cond.static yX6_exists, Cond.code yX6_exists cX6_exists 1 (some .boolean), Cond.methodLink RX8 267 yX2_count, Cond.instanceMethod yX2_count, Cond.selects RX2 yX2_count yX2_count, Cond.initialized RX2, Cond.code yX2_count cX2_count 2 none, Cond.fieldLink RX2 7 "ChamberPacer$Follower" "fast" "I", Cond.fieldLink RX2 13 "ChamberPacer$Follower" "slow" "I", Cond.fieldLink RX2 16 "ChamberPacer$Follower" "gaveUp" "Z"]
def wsX8_tellTooFast_r2 : List Cond := [Cond.methodLink RX8 241 yX4_keep, Cond.instanceMethod yX4_keep, Cond.selects RX4 yX4_keep yX4_keep, Cond.initialized RX4, Cond.code yX4_keep cX4_keep 3 none, Cond.fieldLink RX4 11 "ChamberPacer$Markers" "kinds" "[I", Cond.fieldLink RX4 18 "ChamberPacer$Markers" "next" "I", Cond.fieldLink RX4 15 "ChamberPacer$Markers" "times" "[I", Cond.fieldLink RX4 22 "ChamberPacer$Markers" "count" "I"]
def wsX8_tellTooFast : List Cond := .code yX8_tellTooFast cX8_tellTooFast 2 none :: ((wsX8_tellTooFast_r1 ++ wsX8_tellTooFast_r2) ++ wsX80 ++ wsX20 ++ wsX00 ++ wsX60 ++ wsX40)
def wsX8_pacesBoth : List Cond := .code yX8_pacesBoth cX8_pacesBoth 1 (some .boolean) :: ([])
def wsX8_beginsAv : List Cond := .code yX8_beginsAv cX8_beginsAv 2 (some .boolean) :: ([.fieldLink RX8 10 "ChamberPacer" "settings" "LChamberPacer$Settings;", .fieldLink RX8 36 "ChamberPacer" "follower" "LChamberPacer$Follower;", .fieldLink RX8 189 "ChamberPacer$Follower" "gaveUp" "Z", .fieldLink RX8 19 "ChamberPacer" "clock" "LChamberPacer$Clock;", .methodLink RX8 220 yX6_mode, .instanceMethod yX6_mode, .selects RX6 yX6_mode yX6_mode, .initialized RX6, .code yX6_mode cX6_mode 1 (some .int), .fieldLink RX6 18 "ChamberPacer$Settings" "forced" "[I", .methodLink RX8 244 yX8_follows, .static yX8_follows, .initialized RX8, .code yX8_follows cX8_follows 1 (some .boolean), .methodLink RX8 238 yX0_avRuns, .instanceMethod yX0_avRuns, .selects RX0 yX0_avRuns yX0_avRuns, .initialized RX0, .code yX0_avRuns cX0_avRuns 1 (some .boolean), .fieldLink RX0 24 "ChamberPacer$Clock" "av" "I", .methodLink RX8 232 yX8_pacesBoth, .static yX8_pacesBoth, .code yX8_pacesBoth cX8_pacesBoth 1 (some .boolean)] ++ wsX80 ++ wsX20 ++ wsX60 ++ wsX00)
def wsX8_atrialEvent_r1 : List Cond := [Cond.fieldLink RX8 57 "ChamberPacer" "markers" "LChamberPacer$Markers;", Cond.fieldLink RX8 19 "ChamberPacer" "clock" "LChamberPacer$Clock;", Cond.fieldLink RX8 186 "ChamberPacer$Clock" "time" "I", Cond.fieldLink RX8 10 "ChamberPacer" "settings" "LChamberPacer$Settings;", Cond.methodLink RX8 241 yX4_keep, Cond.instanceMethod yX4_keep, Cond.selects RX4 yX4_keep yX4_keep, Cond.initialized RX4, Cond.code yX4_keep cX4_keep 3 none, Cond.fieldLink RX4 11 "ChamberPacer$Markers" "kinds" "[I", Cond.fieldLink RX4 18 "ChamberPacer$Markers" "next" "I", Cond.fieldLink RX4 15 "ChamberPacer$Markers" "times" "[I", Cond.fieldLink RX4 22 "ChamberPacer$Markers" "count" "I", Cond.methodLink RX8 220 yX6_mode, Cond.instanceMethod yX6_mode, Cond.selects RX6 yX6_mode yX6_mode, Cond.initialized RX6, Cond.code yX6_mode cX6_mode 1 (some .int), Cond.fieldLink RX6 18 "ChamberPacer$Settings" "forced" "[I", Cond.methodLink RX8 244 yX8_follows, Cond.static yX8_follows, Cond.initialized RX8, Cond.code yX8_follows cX8_follows 1 (some .boolean), Cond.methodLink RX8 247 yX8_tellTooFast]
def wsX8_atrialEvent_r2 : List Cond := [Cond.instanceMethod yX8_tellTooFast, Cond.selects RX8 yX8_tellTooFast yX8_tellTooFast, Cond.code yX8_tellTooFast cX8_tellTooFast 2 none, Cond.fieldLink RX8 36 "ChamberPacer" "follower" "LChamberPacer$Follower;", Cond.fieldLink RX8 189 "ChamberPacer$Follower" "gaveUp" "Z", Cond.fieldLink RX8 159 "ChamberPacer$Clock" "sinceA" "I", Cond.methodLink RX8 83 yX6_inForce, Cond.instanceMethod yX6_inForce, Cond.selects RX6 yX6_inForce yX6_inForce, Cond.code yX6_inForce cX6_inForce 2 (some .int), Cond.methodLink RX6 32 yX6_exists, Cond.static yX6_exists, Cond.code yX6_exists cX6_exists 1 (some .boolean), Cond.methodLink RX8 267 yX2_count, Cond.instanceMethod yX2_count, Cond.selects RX2 yX2_count yX2_count, Cond.initialized RX2, Cond.code yX2_count cX2_count 2 none, Cond.fieldLink RX2 7 "ChamberPacer$Follower" "fast" "I", Cond.fieldLink RX2 13 "ChamberPacer$Follower" "slow" "I", Cond.fieldLink RX2 16 "ChamberPacer$Follower" "gaveUp" "Z", Cond.methodLink RX8 250 yX0_restartA, Cond.instanceMethod yX0_restartA, Cond.selects RX0 yX0_restartA yX0_restartA]
def wsX8_atrialEvent_r3 : List Cond := [Cond.initialized RX0, Cond.code yX0_restartA cX0_restartA 2 none, Cond.fieldLink RX0 15 "ChamberPacer$Clock" "sinceA" "I", Cond.fieldLink RX0 21 "ChamberPacer$Clock" "sinceP" "I", Cond.fieldLink RX0 27 "ChamberPacer$Clock" "atrialSinceVentricular" "Z", Cond.methodLink RX8 254 yX8_beginsAv, Cond.instanceMethod yX8_beginsAv, Cond.selects RX8 yX8_beginsAv yX8_beginsAv, Cond.code yX8_beginsAv cX8_beginsAv 2 (some .boolean), Cond.methodLink RX8 238 yX0_avRuns, Cond.instanceMethod yX0_avRuns, Cond.selects RX0 yX0_avRuns yX0_avRuns, Cond.code yX0_avRuns cX0_avRuns 1 (some .boolean), Cond.fieldLink RX0 24 "ChamberPacer$Clock" "av" "I", Cond.methodLink RX8 232 yX8_pacesBoth, Cond.static yX8_pacesBoth, Cond.code yX8_pacesBoth cX8_pacesBoth 1 (some .boolean), Cond.methodLink RX8 258 yX0_startAv, Cond.instanceMethod yX0_startAv, Cond.selects RX0 yX0_startAv yX0_startAv, Cond.code yX0_startAv cX0_startAv 1 none, Cond.methodLink RX8 229 yX8_isLedByA, Cond.static yX8_isLedByA, Cond.code yX8_isLedByA cX8_isLedByA 1 (some .boolean)]
def wsX8_atrialEvent_r4 : List Cond := [Cond.methodLink RX8 261 yX8_boundary, Cond.instanceMethod yX8_boundary, Cond.selects RX8 yX8_boundary yX8_boundary, Cond.code yX8_boundary cX8_boundary 5 none, Cond.fieldLink RX8 50 "ChamberPacer" "cycles" "LChamberPacer$Cycles;", Cond.fieldLink RX8 43 "ChamberPacer" "pace" "LChamberPacer$Pace;", Cond.methodLink RX8 270 yX6_putInForce, Cond.instanceMethod yX6_putInForce, Cond.selects RX6 yX6_putInForce yX6_putInForce, Cond.code yX6_putInForce cX6_putInForce 3 (some .boolean), Cond.fieldLink RX6 23 "ChamberPacer$Settings" "asked" "[I", Cond.methodLink RX8 273 yX8_leaveMode, Cond.instanceMethod yX8_leaveMode, Cond.selects RX8 yX8_leaveMode yX8_leaveMode, Cond.code yX8_leaveMode cX8_leaveMode 1 none, Cond.methodLink RX8 285 yX0_stopAv, Cond.instanceMethod yX0_stopAv, Cond.selects RX0 yX0_stopAv yX0_stopAv, Cond.code yX0_stopAv cX0_stopAv 1 none, Cond.methodLink RX8 288 yX2_forget, Cond.instanceMethod yX2_forget, Cond.selects RX2 yX2_forget yX2_forget, Cond.code yX2_forget cX2_forget 1 none, Cond.methodLink RX8 276 yX1_end]
def wsX8_atrialEvent_r5 : List Cond := [Cond.instanceMethod yX1_end, Cond.selects RX1 yX1_end yX1_end, Cond.initialized RX1, Cond.code yX1_end cX1_end 2 none, Cond.fieldLink RX1 11 "ChamberPacer$Cycles" "bins" "[I", Cond.fieldLink RX1 15 "ChamberPacer$Cycles" "begun" "I", Cond.static yX8_nearest, Cond.code yX8_nearest cX8_nearest 3 (some .int), Cond.methodLink RX8 279 yX5_approach, Cond.instanceMethod yX5_approach, Cond.selects RX5 yX5_approach yX5_approach, Cond.initialized RX5, Cond.code yX5_approach cX5_approach 4 none, Cond.fieldLink RX5 11 "ChamberPacer$Pace" "level" "I", Cond.fieldLink RX5 15 "ChamberPacer$Pace" "interval" "I", Cond.methodLink RX8 282 yX5_beginCycle, Cond.instanceMethod yX5_beginCycle, Cond.selects RX5 yX5_beginCycle yX5_beginCycle, Cond.code yX5_beginCycle cX5_beginCycle 3 none, Cond.methodLink RX5 25 Lib.Math.min.name, Cond.static Lib.Math.min.name, Cond.initialized "java/lang/Math", Cond.code Lib.Math.min.name Lib.Math.min.code 2 (some .int), Cond.fieldLink RX5 18 "ChamberPacer$Pace" "longest" "I"]
def wsX8_atrialEvent : List Cond := .code yX8_atrialEvent cX8_atrialEvent 3 none :: ((wsX8_atrialEvent_r1 ++ (wsX8_atrialEvent_r2 ++ (wsX8_atrialEvent_r3 ++ (wsX8_atrialEvent_r4 ++ wsX8_atrialEvent_r5)))) ++ wsX80 ++ wsX00 ++ wsX40 ++ wsX60 ++ wsX20 ++ wsX10 ++ wsX50)
def wsX8_sense_r1 : List Cond := [Cond.methodLink RX8 201 yX8_vIsListenedTo, Cond.instanceMethod yX8_vIsListenedTo, Cond.selects RX8 yX8_vIsListenedTo yX8_vIsListenedTo, Cond.initialized RX8, Cond.code yX8_vIsListenedTo cX8_vIsListenedTo 1 (some .boolean), Cond.fieldLink RX8 10 "ChamberPacer" "settings" "LChamberPacer$Settings;", Cond.fieldLink RX8 19 "ChamberPacer" "clock" "LChamberPacer$Clock;", Cond.fieldLink RX8 162 "ChamberPacer$Clock" "sinceV" "I", Cond.fieldLink RX8 165 "ChamberPacer$Clock" "sinceP" "I", Cond.methodLink RX8 220 yX6_mode, Cond.instanceMethod yX6_mode, Cond.selects RX6 yX6_mode yX6_mode, Cond.initialized RX6, Cond.code yX6_mode cX6_mode 1 (some .int), Cond.fieldLink RX6 18 "ChamberPacer$Settings" "forced" "[I", Cond.methodLink RX8 223 yX8_sensesV, Cond.static yX8_sensesV, Cond.code yX8_sensesV cX8_sensesV 1 (some .boolean), Cond.methodLink RX8 83 yX6_inForce, Cond.instanceMethod yX6_inForce, Cond.selects RX6 yX6_inForce yX6_inForce, Cond.code yX6_inForce cX6_inForce 2 (some .int), Cond.methodLink RX6 32 yX6_exists, Cond.static yX6_exists]
def wsX8_sense_r2 : List Cond := [Cond.code yX6_exists cX6_exists 1 (some .boolean), Cond.methodLink RX8 204 yX8_ventricularEvent, Cond.instanceMethod yX8_ventricularEvent, Cond.selects RX8 yX8_ventricularEvent yX8_ventricularEvent, Cond.code yX8_ventricularEvent cX8_ventricularEvent 3 none, Cond.fieldLink RX8 57 "ChamberPacer" "markers" "LChamberPacer$Markers;", Cond.fieldLink RX8 186 "ChamberPacer$Clock" "time" "I", Cond.methodLink RX8 241 yX4_keep, Cond.instanceMethod yX4_keep, Cond.selects RX4 yX4_keep yX4_keep, Cond.initialized RX4, Cond.code yX4_keep cX4_keep 3 none, Cond.fieldLink RX4 11 "ChamberPacer$Markers" "kinds" "[I", Cond.fieldLink RX4 18 "ChamberPacer$Markers" "next" "I", Cond.fieldLink RX4 15 "ChamberPacer$Markers" "times" "[I", Cond.fieldLink RX4 22 "ChamberPacer$Markers" "count" "I", Cond.methodLink RX8 264 yX0_restartV, Cond.instanceMethod yX0_restartV, Cond.selects RX0 yX0_restartV yX0_restartV, Cond.initialized RX0, Cond.code yX0_restartV cX0_restartV 1 none, Cond.fieldLink RX0 18 "ChamberPacer$Clock" "sinceV" "I", Cond.fieldLink RX0 27 "ChamberPacer$Clock" "atrialSinceVentricular" "Z", Cond.methodLink RX0 41 yX0_stopAv]
def wsX8_sense_r3 : List Cond := [Cond.instanceMethod yX0_stopAv, Cond.selects RX0 yX0_stopAv yX0_stopAv, Cond.code yX0_stopAv cX0_stopAv 1 none, Cond.fieldLink RX0 24 "ChamberPacer$Clock" "av" "I", Cond.methodLink RX8 229 yX8_isLedByA, Cond.static yX8_isLedByA, Cond.code yX8_isLedByA cX8_isLedByA 1 (some .boolean), Cond.methodLink RX8 261 yX8_boundary, Cond.instanceMethod yX8_boundary, Cond.selects RX8 yX8_boundary yX8_boundary, Cond.code yX8_boundary cX8_boundary 5 none, Cond.fieldLink RX8 50 "ChamberPacer" "cycles" "LChamberPacer$Cycles;", Cond.fieldLink RX8 43 "ChamberPacer" "pace" "LChamberPacer$Pace;", Cond.methodLink RX8 270 yX6_putInForce, Cond.instanceMethod yX6_putInForce, Cond.selects RX6 yX6_putInForce yX6_putInForce, Cond.code yX6_putInForce cX6_putInForce 3 (some .boolean), Cond.fieldLink RX6 23 "ChamberPacer$Settings" "asked" "[I", Cond.methodLink RX8 273 yX8_leaveMode, Cond.instanceMethod yX8_leaveMode, Cond.selects RX8 yX8_leaveMode yX8_leaveMode, Cond.code yX8_leaveMode cX8_leaveMode 1 none, Cond.fieldLink RX8 36 "ChamberPacer" "follower" "LChamberPacer$Follower;", Cond.fieldLink RX8 189 "ChamberPacer$Follower" "gaveUp" "Z"]
def wsX8_sense_r4 : List Cond := [Cond.methodLink RX8 285 yX0_stopAv, Cond.methodLink RX8 288 yX2_forget, Cond.instanceMethod yX2_forget, Cond.selects RX2 yX2_forget yX2_forget, Cond.initialized RX2, Cond.code yX2_forget cX2_forget 1 none, Cond.fieldLink RX2 7 "ChamberPacer$Follower" "fast" "I", Cond.fieldLink RX2 13 "ChamberPacer$Follower" "slow" "I", Cond.fieldLink RX2 16 "ChamberPacer$Follower" "gaveUp" "Z", Cond.methodLink RX8 276 yX1_end, Cond.instanceMethod yX1_end, Cond.selects RX1 yX1_end yX1_end, Cond.initialized RX1, Cond.code yX1_end cX1_end 2 none, Cond.fieldLink RX1 11 "ChamberPacer$Cycles" "bins" "[I", Cond.fieldLink RX1 15 "ChamberPacer$Cycles" "begun" "I", Cond.static yX8_nearest, Cond.code yX8_nearest cX8_nearest 3 (some .int), Cond.methodLink RX8 279 yX5_approach, Cond.instanceMethod yX5_approach, Cond.selects RX5 yX5_approach yX5_approach, Cond.initialized RX5, Cond.code yX5_approach cX5_approach 4 none, Cond.fieldLink RX5 11 "ChamberPacer$Pace" "level" "I"]
def wsX8_sense_r5 : List Cond := [Cond.fieldLink RX5 15 "ChamberPacer$Pace" "interval" "I", Cond.methodLink RX8 282 yX5_beginCycle, Cond.instanceMethod yX5_beginCycle, Cond.selects RX5 yX5_beginCycle yX5_beginCycle, Cond.code yX5_beginCycle cX5_beginCycle 3 none, Cond.methodLink RX5 25 Lib.Math.min.name, Cond.static Lib.Math.min.name, Cond.initialized "java/lang/Math", Cond.code Lib.Math.min.name Lib.Math.min.code 2 (some .int), Cond.fieldLink RX5 18 "ChamberPacer$Pace" "longest" "I", Cond.methodLink RX8 208 yX8_aIsListenedTo, Cond.instanceMethod yX8_aIsListenedTo, Cond.selects RX8 yX8_aIsListenedTo yX8_aIsListenedTo, Cond.code yX8_aIsListenedTo cX8_aIsListenedTo 1 (some .boolean), Cond.fieldLink RX8 159 "ChamberPacer$Clock" "sinceA" "I", Cond.methodLink RX8 226 yX8_sensesA, Cond.static yX8_sensesA, Cond.code yX8_sensesA cX8_sensesA 1 (some .boolean), Cond.methodLink RX8 211 yX8_atrialEvent, Cond.instanceMethod yX8_atrialEvent, Cond.selects RX8 yX8_atrialEvent yX8_atrialEvent, Cond.code yX8_atrialEvent cX8_atrialEvent 3 none, Cond.methodLink RX8 244 yX8_follows, Cond.static yX8_follows]
def wsX8_sense_r6 : List Cond := [Cond.code yX8_follows cX8_follows 1 (some .boolean), Cond.methodLink RX8 247 yX8_tellTooFast, Cond.instanceMethod yX8_tellTooFast, Cond.selects RX8 yX8_tellTooFast yX8_tellTooFast, Cond.code yX8_tellTooFast cX8_tellTooFast 2 none, Cond.methodLink RX8 267 yX2_count, Cond.instanceMethod yX2_count, Cond.selects RX2 yX2_count yX2_count, Cond.code yX2_count cX2_count 2 none, Cond.methodLink RX8 250 yX0_restartA, Cond.instanceMethod yX0_restartA, Cond.selects RX0 yX0_restartA yX0_restartA, Cond.code yX0_restartA cX0_restartA 2 none, Cond.fieldLink RX0 15 "ChamberPacer$Clock" "sinceA" "I", Cond.fieldLink RX0 21 "ChamberPacer$Clock" "sinceP" "I", Cond.methodLink RX8 254 yX8_beginsAv, Cond.instanceMethod yX8_beginsAv, Cond.selects RX8 yX8_beginsAv yX8_beginsAv, Cond.code yX8_beginsAv cX8_beginsAv 2 (some .boolean), Cond.methodLink RX8 238 yX0_avRuns, Cond.instanceMethod yX0_avRuns, Cond.selects RX0 yX0_avRuns yX0_avRuns, Cond.code yX0_avRuns cX0_avRuns 1 (some .boolean), Cond.methodLink RX8 232 yX8_pacesBoth]
def wsX8_sense_r7 : List Cond := [Cond.static yX8_pacesBoth, Cond.code yX8_pacesBoth cX8_pacesBoth 1 (some .boolean), Cond.methodLink RX8 258 yX0_startAv, Cond.instanceMethod yX0_startAv, Cond.selects RX0 yX0_startAv yX0_startAv, Cond.code yX0_startAv cX0_startAv 1 none]
def wsX8_sense : List Cond := .code yX8_sense cX8_sense 4 (some .int) :: ((wsX8_sense_r1 ++ (wsX8_sense_r2 ++ (wsX8_sense_r3 ++ (wsX8_sense_r4 ++ (wsX8_sense_r5 ++ (wsX8_sense_r6 ++ wsX8_sense_r7)))))) ++ wsX80 ++ wsX00 ++ wsX60 ++ wsX40 ++ wsX20 ++ wsX10 ++ wsX50)
def wsX8_aIsDue_r1 : List Cond := [Cond.fieldLink RX8 10 "ChamberPacer" "settings" "LChamberPacer$Settings;", Cond.fieldLink RX8 19 "ChamberPacer" "clock" "LChamberPacer$Clock;", Cond.fieldLink RX8 159 "ChamberPacer$Clock" "sinceA" "I", Cond.fieldLink RX8 43 "ChamberPacer" "pace" "LChamberPacer$Pace;", Cond.fieldLink RX8 171 "ChamberPacer$Pace" "longest" "I", Cond.fieldLink RX8 235 "ChamberPacer$Clock" "atrialSinceVentricular" "Z", Cond.fieldLink RX8 162 "ChamberPacer$Clock" "sinceV" "I", Cond.methodLink RX8 220 yX6_mode, Cond.instanceMethod yX6_mode, Cond.selects RX6 yX6_mode yX6_mode, Cond.initialized RX6, Cond.code yX6_mode cX6_mode 1 (some .int), Cond.fieldLink RX6 18 "ChamberPacer$Settings" "forced" "[I", Cond.methodLink RX8 229 yX8_isLedByA, Cond.static yX8_isLedByA, Cond.initialized RX8, Cond.code yX8_isLedByA cX8_isLedByA 1 (some .boolean), Cond.methodLink RX8 232 yX8_pacesBoth, Cond.static yX8_pacesBoth, Cond.code yX8_pacesBoth cX8_pacesBoth 1 (some .boolean), Cond.methodLink RX8 83 yX6_inForce, Cond.instanceMethod yX6_inForce, Cond.selects RX6 yX6_inForce yX6_inForce, Cond.code yX6_inForce cX6_inForce 2 (some .int)]
def wsX8_aIsDue_r2 : List Cond := [Cond.methodLink RX6 32 yX6_exists, Cond.static yX6_exists, Cond.code yX6_exists cX6_exists 1 (some .boolean)]
def wsX8_aIsDue : List Cond := .code yX8_aIsDue cX8_aIsDue 1 (some .boolean) :: ((wsX8_aIsDue_r1 ++ wsX8_aIsDue_r2) ++ wsX80 ++ wsX00 ++ wsX50 ++ wsX60)
def wsX8_vIsDue_r1 : List Cond := [Cond.fieldLink RX8 10 "ChamberPacer" "settings" "LChamberPacer$Settings;", Cond.fieldLink RX8 19 "ChamberPacer" "clock" "LChamberPacer$Clock;", Cond.fieldLink RX8 162 "ChamberPacer$Clock" "sinceV" "I", Cond.fieldLink RX8 43 "ChamberPacer" "pace" "LChamberPacer$Pace;", Cond.fieldLink RX8 171 "ChamberPacer$Pace" "longest" "I", Cond.fieldLink RX8 168 "ChamberPacer$Clock" "av" "I", Cond.methodLink RX8 220 yX6_mode, Cond.instanceMethod yX6_mode, Cond.selects RX6 yX6_mode yX6_mode, Cond.initialized RX6, Cond.code yX6_mode cX6_mode 1 (some .int), Cond.fieldLink RX6 18 "ChamberPacer$Settings" "forced" "[I", Cond.methodLink RX8 229 yX8_isLedByA, Cond.static yX8_isLedByA, Cond.initialized RX8, Cond.code yX8_isLedByA cX8_isLedByA 1 (some .boolean), Cond.methodLink RX8 238 yX0_avRuns, Cond.instanceMethod yX0_avRuns, Cond.selects RX0 yX0_avRuns yX0_avRuns, Cond.initialized RX0, Cond.code yX0_avRuns cX0_avRuns 1 (some .boolean), Cond.fieldLink RX0 24 "ChamberPacer$Clock" "av" "I", Cond.methodLink RX8 83 yX6_inForce, Cond.instanceMethod yX6_inForce]
def wsX8_vIsDue_r2 : List Cond := [Cond.selects RX6 yX6_inForce yX6_inForce, Cond.code yX6_inForce cX6_inForce 2 (some .int), Cond.methodLink RX6 32 yX6_exists, Cond.static yX6_exists, Cond.code yX6_exists cX6_exists 1 (some .boolean)]
def wsX8_vIsDue : List Cond := .code yX8_vIsDue cX8_vIsDue 1 (some .boolean) :: ((wsX8_vIsDue_r1 ++ wsX8_vIsDue_r2) ++ wsX80 ++ wsX00 ++ wsX50 ++ wsX60)
def wsX8_stimulate_r1 : List Cond := [Cond.methodLink RX8 214 yX8_aIsDue, Cond.instanceMethod yX8_aIsDue, Cond.selects RX8 yX8_aIsDue yX8_aIsDue, Cond.initialized RX8, Cond.code yX8_aIsDue cX8_aIsDue 1 (some .boolean), Cond.fieldLink RX8 10 "ChamberPacer" "settings" "LChamberPacer$Settings;", Cond.fieldLink RX8 19 "ChamberPacer" "clock" "LChamberPacer$Clock;", Cond.fieldLink RX8 159 "ChamberPacer$Clock" "sinceA" "I", Cond.fieldLink RX8 43 "ChamberPacer" "pace" "LChamberPacer$Pace;", Cond.fieldLink RX8 171 "ChamberPacer$Pace" "longest" "I", Cond.fieldLink RX8 235 "ChamberPacer$Clock" "atrialSinceVentricular" "Z", Cond.fieldLink RX8 162 "ChamberPacer$Clock" "sinceV" "I", Cond.methodLink RX8 220 yX6_mode, Cond.instanceMethod yX6_mode, Cond.selects RX6 yX6_mode yX6_mode, Cond.initialized RX6, Cond.code yX6_mode cX6_mode 1 (some .int), Cond.fieldLink RX6 18 "ChamberPacer$Settings" "forced" "[I", Cond.methodLink RX8 229 yX8_isLedByA, Cond.static yX8_isLedByA, Cond.code yX8_isLedByA cX8_isLedByA 1 (some .boolean), Cond.methodLink RX8 232 yX8_pacesBoth, Cond.static yX8_pacesBoth, Cond.code yX8_pacesBoth cX8_pacesBoth 1 (some .boolean)]
def wsX8_stimulate_r2 : List Cond := [Cond.methodLink RX8 83 yX6_inForce, Cond.instanceMethod yX6_inForce, Cond.selects RX6 yX6_inForce yX6_inForce, Cond.code yX6_inForce cX6_inForce 2 (some .int), Cond.methodLink RX6 32 yX6_exists, Cond.static yX6_exists, Cond.code yX6_exists cX6_exists 1 (some .boolean), Cond.methodLink RX8 211 yX8_atrialEvent, Cond.instanceMethod yX8_atrialEvent, Cond.selects RX8 yX8_atrialEvent yX8_atrialEvent, Cond.code yX8_atrialEvent cX8_atrialEvent 3 none, Cond.fieldLink RX8 57 "ChamberPacer" "markers" "LChamberPacer$Markers;", Cond.fieldLink RX8 186 "ChamberPacer$Clock" "time" "I", Cond.methodLink RX8 241 yX4_keep, Cond.instanceMethod yX4_keep, Cond.selects RX4 yX4_keep yX4_keep, Cond.initialized RX4, Cond.code yX4_keep cX4_keep 3 none, Cond.fieldLink RX4 11 "ChamberPacer$Markers" "kinds" "[I", Cond.fieldLink RX4 18 "ChamberPacer$Markers" "next" "I", Cond.fieldLink RX4 15 "ChamberPacer$Markers" "times" "[I", Cond.fieldLink RX4 22 "ChamberPacer$Markers" "count" "I", Cond.methodLink RX8 244 yX8_follows, Cond.static yX8_follows]
def wsX8_stimulate_r3 : List Cond := [Cond.code yX8_follows cX8_follows 1 (some .boolean), Cond.methodLink RX8 247 yX8_tellTooFast, Cond.instanceMethod yX8_tellTooFast, Cond.selects RX8 yX8_tellTooFast yX8_tellTooFast, Cond.code yX8_tellTooFast cX8_tellTooFast 2 none, Cond.fieldLink RX8 36 "ChamberPacer" "follower" "LChamberPacer$Follower;", Cond.fieldLink RX8 189 "ChamberPacer$Follower" "gaveUp" "Z", Cond.methodLink RX8 267 yX2_count, Cond.instanceMethod yX2_count, Cond.selects RX2 yX2_count yX2_count, Cond.initialized RX2, Cond.code yX2_count cX2_count 2 none, Cond.fieldLink RX2 7 "ChamberPacer$Follower" "fast" "I", Cond.fieldLink RX2 13 "ChamberPacer$Follower" "slow" "I", Cond.fieldLink RX2 16 "ChamberPacer$Follower" "gaveUp" "Z", Cond.methodLink RX8 250 yX0_restartA, Cond.instanceMethod yX0_restartA, Cond.selects RX0 yX0_restartA yX0_restartA, Cond.initialized RX0, Cond.code yX0_restartA cX0_restartA 2 none, Cond.fieldLink RX0 15 "ChamberPacer$Clock" "sinceA" "I", Cond.fieldLink RX0 21 "ChamberPacer$Clock" "sinceP" "I", Cond.fieldLink RX0 27 "ChamberPacer$Clock" "atrialSinceVentricular" "Z", Cond.methodLink RX8 254 yX8_beginsAv]
def wsX8_stimulate_r4 : List Cond := [Cond.instanceMethod yX8_beginsAv, Cond.selects RX8 yX8_beginsAv yX8_beginsAv, Cond.code yX8_beginsAv cX8_beginsAv 2 (some .boolean), Cond.methodLink RX8 238 yX0_avRuns, Cond.instanceMethod yX0_avRuns, Cond.selects RX0 yX0_avRuns yX0_avRuns, Cond.code yX0_avRuns cX0_avRuns 1 (some .boolean), Cond.fieldLink RX0 24 "ChamberPacer$Clock" "av" "I", Cond.methodLink RX8 258 yX0_startAv, Cond.instanceMethod yX0_startAv, Cond.selects RX0 yX0_startAv yX0_startAv, Cond.code yX0_startAv cX0_startAv 1 none, Cond.methodLink RX8 261 yX8_boundary, Cond.instanceMethod yX8_boundary, Cond.selects RX8 yX8_boundary yX8_boundary, Cond.code yX8_boundary cX8_boundary 5 none, Cond.fieldLink RX8 50 "ChamberPacer" "cycles" "LChamberPacer$Cycles;", Cond.methodLink RX8 270 yX6_putInForce, Cond.instanceMethod yX6_putInForce, Cond.selects RX6 yX6_putInForce yX6_putInForce, Cond.code yX6_putInForce cX6_putInForce 3 (some .boolean), Cond.fieldLink RX6 23 "ChamberPacer$Settings" "asked" "[I", Cond.methodLink RX8 273 yX8_leaveMode, Cond.instanceMethod yX8_leaveMode]
def wsX8_stimulate_r5 : List Cond := [Cond.selects RX8 yX8_leaveMode yX8_leaveMode, Cond.code yX8_leaveMode cX8_leaveMode 1 none, Cond.methodLink RX8 285 yX0_stopAv, Cond.instanceMethod yX0_stopAv, Cond.selects RX0 yX0_stopAv yX0_stopAv, Cond.code yX0_stopAv cX0_stopAv 1 none, Cond.methodLink RX8 288 yX2_forget, Cond.instanceMethod yX2_forget, Cond.selects RX2 yX2_forget yX2_forget, Cond.code yX2_forget cX2_forget 1 none, Cond.methodLink RX8 276 yX1_end, Cond.instanceMethod yX1_end, Cond.selects RX1 yX1_end yX1_end, Cond.initialized RX1, Cond.code yX1_end cX1_end 2 none, Cond.fieldLink RX1 11 "ChamberPacer$Cycles" "bins" "[I", Cond.fieldLink RX1 15 "ChamberPacer$Cycles" "begun" "I", Cond.static yX8_nearest, Cond.code yX8_nearest cX8_nearest 3 (some .int), Cond.methodLink RX8 279 yX5_approach, Cond.instanceMethod yX5_approach, Cond.selects RX5 yX5_approach yX5_approach, Cond.initialized RX5, Cond.code yX5_approach cX5_approach 4 none]
def wsX8_stimulate_r6 : List Cond := [Cond.fieldLink RX5 11 "ChamberPacer$Pace" "level" "I", Cond.fieldLink RX5 15 "ChamberPacer$Pace" "interval" "I", Cond.methodLink RX8 282 yX5_beginCycle, Cond.instanceMethod yX5_beginCycle, Cond.selects RX5 yX5_beginCycle yX5_beginCycle, Cond.code yX5_beginCycle cX5_beginCycle 3 none, Cond.methodLink RX5 25 Lib.Math.min.name, Cond.static Lib.Math.min.name, Cond.initialized "java/lang/Math", Cond.code Lib.Math.min.name Lib.Math.min.code 2 (some .int), Cond.fieldLink RX5 18 "ChamberPacer$Pace" "longest" "I", Cond.methodLink RX8 217 yX8_vIsDue, Cond.instanceMethod yX8_vIsDue, Cond.selects RX8 yX8_vIsDue yX8_vIsDue, Cond.code yX8_vIsDue cX8_vIsDue 1 (some .boolean), Cond.fieldLink RX8 168 "ChamberPacer$Clock" "av" "I", Cond.methodLink RX8 204 yX8_ventricularEvent, Cond.instanceMethod yX8_ventricularEvent, Cond.selects RX8 yX8_ventricularEvent yX8_ventricularEvent, Cond.code yX8_ventricularEvent cX8_ventricularEvent 3 none, Cond.methodLink RX8 264 yX0_restartV, Cond.instanceMethod yX0_restartV, Cond.selects RX0 yX0_restartV yX0_restartV, Cond.code yX0_restartV cX0_restartV 1 none]
def wsX8_stimulate_r7 : List Cond := [Cond.fieldLink RX0 18 "ChamberPacer$Clock" "sinceV" "I", Cond.methodLink RX0 41 yX0_stopAv]
def wsX8_stimulate : List Cond := .code yX8_stimulate cX8_stimulate 3 (some .int) :: ((wsX8_stimulate_r1 ++ (wsX8_stimulate_r2 ++ (wsX8_stimulate_r3 ++ (wsX8_stimulate_r4 ++ (wsX8_stimulate_r5 ++ (wsX8_stimulate_r6 ++ wsX8_stimulate_r7)))))) ++ wsX80 ++ wsX00 ++ wsX50 ++ wsX60 ++ wsX40 ++ wsX20 ++ wsX10)
def wsX8_tick_r1 : List Cond := [Cond.fieldLink RX8 19 "ChamberPacer" "clock" "LChamberPacer$Clock;", Cond.fieldLink RX8 43 "ChamberPacer" "pace" "LChamberPacer$Pace;", Cond.fieldLink RX8 26 "ChamberPacer" "signalA" "LChamberPacer$Signal;", Cond.fieldLink RX8 10 "ChamberPacer" "settings" "LChamberPacer$Settings;", Cond.fieldLink RX8 30 "ChamberPacer" "signalV" "LChamberPacer$Signal;", Cond.methodLink RX8 72 yX0_grow, Cond.instanceMethod yX0_grow, Cond.selects RX0 yX0_grow yX0_grow, Cond.initialized RX0, Cond.code yX0_grow cX0_grow 1 none, Cond.fieldLink RX0 9 "ChamberPacer$Clock" "time" "I", Cond.fieldLink RX0 15 "ChamberPacer$Clock" "sinceA" "I", Cond.methodLink RX0 31 Lib.Math.min.name, Cond.static Lib.Math.min.name, Cond.initialized "java/lang/Math", Cond.code Lib.Math.min.name Lib.Math.min.code 2 (some .int), Cond.fieldLink RX0 18 "ChamberPacer$Clock" "sinceV" "I", Cond.fieldLink RX0 21 "ChamberPacer$Clock" "sinceP" "I", Cond.fieldLink RX0 24 "ChamberPacer$Clock" "av" "I", Cond.methodLink RX0 37 yX0_avRuns, Cond.instanceMethod yX0_avRuns, Cond.selects RX0 yX0_avRuns yX0_avRuns, Cond.code yX0_avRuns cX0_avRuns 1 (some .boolean), Cond.methodLink RX8 75 yX8_nearest]
def wsX8_tick_r2 : List Cond := [Cond.static yX8_nearest, Cond.initialized RX8, Cond.code yX8_nearest cX8_nearest 3 (some .int), Cond.methodLink RX8 79 yX5_adapt, Cond.instanceMethod yX5_adapt, Cond.selects RX5 yX5_adapt yX5_adapt, Cond.initialized RX5, Cond.code yX5_adapt cX5_adapt 3 none, Cond.fieldLink RX5 11 "ChamberPacer$Pace" "level" "I", Cond.methodLink RX8 83 yX6_inForce, Cond.instanceMethod yX6_inForce, Cond.selects RX6 yX6_inForce yX6_inForce, Cond.initialized RX6, Cond.code yX6_inForce cX6_inForce 2 (some .int), Cond.fieldLink RX6 18 "ChamberPacer$Settings" "forced" "[I", Cond.methodLink RX6 32 yX6_exists, Cond.static yX6_exists, Cond.code yX6_exists cX6_exists 1 (some .boolean), Cond.methodLink RX8 87 yX7_crosses, Cond.instanceMethod yX7_crosses, Cond.selects RX7 yX7_crosses yX7_crosses, Cond.initialized RX7, Cond.code yX7_crosses cX7_crosses 4 (some .boolean), Cond.fieldLink RX7 13 "ChamberPacer$Signal" "twoBefore" "I"]
def wsX8_tick_r3 : List Cond := [Cond.methodLink RX7 16 Lib.Math.abs.name, Cond.static Lib.Math.abs.name, Cond.code Lib.Math.abs.name Lib.Math.abs.code 1 (some .int), Cond.fieldLink RX7 7 "ChamberPacer$Signal" "oneBefore" "I", Cond.methodLink RX8 91 yX8_sense, Cond.instanceMethod yX8_sense, Cond.selects RX8 yX8_sense yX8_sense, Cond.code yX8_sense cX8_sense 4 (some .int), Cond.methodLink RX8 201 yX8_vIsListenedTo, Cond.instanceMethod yX8_vIsListenedTo, Cond.selects RX8 yX8_vIsListenedTo yX8_vIsListenedTo, Cond.code yX8_vIsListenedTo cX8_vIsListenedTo 1 (some .boolean), Cond.fieldLink RX8 162 "ChamberPacer$Clock" "sinceV" "I", Cond.fieldLink RX8 165 "ChamberPacer$Clock" "sinceP" "I", Cond.methodLink RX8 220 yX6_mode, Cond.instanceMethod yX6_mode, Cond.selects RX6 yX6_mode yX6_mode, Cond.code yX6_mode cX6_mode 1 (some .int), Cond.methodLink RX8 223 yX8_sensesV, Cond.static yX8_sensesV, Cond.code yX8_sensesV cX8_sensesV 1 (some .boolean), Cond.methodLink RX8 204 yX8_ventricularEvent, Cond.instanceMethod yX8_ventricularEvent, Cond.selects RX8 yX8_ventricularEvent yX8_ventricularEvent]
def wsX8_tick_r4 : List Cond := [Cond.code yX8_ventricularEvent cX8_ventricularEvent 3 none, Cond.fieldLink RX8 57 "ChamberPacer" "markers" "LChamberPacer$Markers;", Cond.fieldLink RX8 186 "ChamberPacer$Clock" "time" "I", Cond.methodLink RX8 241 yX4_keep, Cond.instanceMethod yX4_keep, Cond.selects RX4 yX4_keep yX4_keep, Cond.initialized RX4, Cond.code yX4_keep cX4_keep 3 none, Cond.fieldLink RX4 11 "ChamberPacer$Markers" "kinds" "[I", Cond.fieldLink RX4 18 "ChamberPacer$Markers" "next" "I", Cond.fieldLink RX4 15 "ChamberPacer$Markers" "times" "[I", Cond.fieldLink RX4 22 "ChamberPacer$Markers" "count" "I", Cond.methodLink RX8 264 yX0_restartV, Cond.instanceMethod yX0_restartV, Cond.selects RX0 yX0_restartV yX0_restartV, Cond.code yX0_restartV cX0_restartV 1 none, Cond.fieldLink RX0 27 "ChamberPacer$Clock" "atrialSinceVentricular" "Z", Cond.methodLink RX0 41 yX0_stopAv, Cond.instanceMethod yX0_stopAv, Cond.selects RX0 yX0_stopAv yX0_stopAv, Cond.code yX0_stopAv cX0_stopAv 1 none, Cond.methodLink RX8 229 yX8_isLedByA, Cond.static yX8_isLedByA, Cond.code yX8_isLedByA cX8_isLedByA 1 (some .boolean)]
def wsX8_tick_r5 : List Cond := [Cond.methodLink RX8 261 yX8_boundary, Cond.instanceMethod yX8_boundary, Cond.selects RX8 yX8_boundary yX8_boundary, Cond.code yX8_boundary cX8_boundary 5 none, Cond.fieldLink RX8 50 "ChamberPacer" "cycles" "LChamberPacer$Cycles;", Cond.methodLink RX8 270 yX6_putInForce, Cond.instanceMethod yX6_putInForce, Cond.selects RX6 yX6_putInForce yX6_putInForce, Cond.code yX6_putInForce cX6_putInForce 3 (some .boolean), Cond.fieldLink RX6 23 "ChamberPacer$Settings" "asked" "[I", Cond.methodLink RX8 273 yX8_leaveMode, Cond.instanceMethod yX8_leaveMode, Cond.selects RX8 yX8_leaveMode yX8_leaveMode, Cond.code yX8_leaveMode cX8_leaveMode 1 none, Cond.fieldLink RX8 36 "ChamberPacer" "follower" "LChamberPacer$Follower;", Cond.fieldLink RX8 189 "ChamberPacer$Follower" "gaveUp" "Z", Cond.methodLink RX8 285 yX0_stopAv, Cond.methodLink RX8 288 yX2_forget, Cond.instanceMethod yX2_forget, Cond.selects RX2 yX2_forget yX2_forget, Cond.initialized RX2, Cond.code yX2_forget cX2_forget 1 none, Cond.fieldLink RX2 7 "ChamberPacer$Follower" "fast" "I", Cond.fieldLink RX2 13 "ChamberPacer$Follower" "slow" "I"]
def wsX8_tick_r6 : List Cond := [Cond.fieldLink RX2 16 "ChamberPacer$Follower" "gaveUp" "Z", Cond.methodLink RX8 276 yX1_end, Cond.instanceMethod yX1_end, Cond.selects RX1 yX1_end yX1_end, Cond.initialized RX1, Cond.code yX1_end cX1_end 2 none, Cond.fieldLink RX1 11 "ChamberPacer$Cycles" "bins" "[I", Cond.fieldLink RX1 15 "ChamberPacer$Cycles" "begun" "I", Cond.methodLink RX8 279 yX5_approach, Cond.instanceMethod yX5_approach, Cond.selects RX5 yX5_approach yX5_approach, Cond.code yX5_approach cX5_approach 4 none, Cond.fieldLink RX5 15 "ChamberPacer$Pace" "interval" "I", Cond.methodLink RX8 282 yX5_beginCycle, Cond.instanceMethod yX5_beginCycle, Cond.selects RX5 yX5_beginCycle yX5_beginCycle, Cond.code yX5_beginCycle cX5_beginCycle 3 none, Cond.methodLink RX5 25 Lib.Math.min.name, Cond.fieldLink RX5 18 "ChamberPacer$Pace" "longest" "I", Cond.methodLink RX8 208 yX8_aIsListenedTo, Cond.instanceMethod yX8_aIsListenedTo, Cond.selects RX8 yX8_aIsListenedTo yX8_aIsListenedTo, Cond.code yX8_aIsListenedTo cX8_aIsListenedTo 1 (some .boolean), Cond.fieldLink RX8 159 "ChamberPacer$Clock" "sinceA" "I"]
def wsX8_tick_r7 : List Cond := [Cond.methodLink RX8 226 yX8_sensesA, Cond.static yX8_sensesA, Cond.code yX8_sensesA cX8_sensesA 1 (some .boolean), Cond.methodLink RX8 211 yX8_atrialEvent, Cond.instanceMethod yX8_atrialEvent, Cond.selects RX8 yX8_atrialEvent yX8_atrialEvent, Cond.code yX8_atrialEvent cX8_atrialEvent 3 none, Cond.methodLink RX8 244 yX8_follows, Cond.static yX8_follows, Cond.code yX8_follows cX8_follows 1 (some .boolean), Cond.methodLink RX8 247 yX8_tellTooFast, Cond.instanceMethod yX8_tellTooFast, Cond.selects RX8 yX8_tellTooFast yX8_tellTooFast, Cond.code yX8_tellTooFast cX8_tellTooFast 2 none, Cond.methodLink RX8 267 yX2_count, Cond.instanceMethod yX2_count, Cond.selects RX2 yX2_count yX2_count, Cond.code yX2_count cX2_count 2 none, Cond.methodLink RX8 250 yX0_restartA, Cond.instanceMethod yX0_restartA, Cond.selects RX0 yX0_restartA yX0_restartA, Cond.code yX0_restartA cX0_restartA 2 none, Cond.methodLink RX8 254 yX8_beginsAv, Cond.instanceMethod yX8_beginsAv]
def wsX8_tick_r8 : List Cond := [Cond.selects RX8 yX8_beginsAv yX8_beginsAv, Cond.code yX8_beginsAv cX8_beginsAv 2 (some .boolean), Cond.methodLink RX8 238 yX0_avRuns, Cond.methodLink RX8 232 yX8_pacesBoth, Cond.static yX8_pacesBoth, Cond.code yX8_pacesBoth cX8_pacesBoth 1 (some .boolean), Cond.methodLink RX8 258 yX0_startAv, Cond.instanceMethod yX0_startAv, Cond.selects RX0 yX0_startAv yX0_startAv, Cond.code yX0_startAv cX0_startAv 1 none, Cond.methodLink RX8 95 yX8_stimulate, Cond.instanceMethod yX8_stimulate, Cond.selects RX8 yX8_stimulate yX8_stimulate, Cond.code yX8_stimulate cX8_stimulate 3 (some .int), Cond.methodLink RX8 214 yX8_aIsDue, Cond.instanceMethod yX8_aIsDue, Cond.selects RX8 yX8_aIsDue yX8_aIsDue, Cond.code yX8_aIsDue cX8_aIsDue 1 (some .boolean), Cond.fieldLink RX8 171 "ChamberPacer$Pace" "longest" "I", Cond.fieldLink RX8 235 "ChamberPacer$Clock" "atrialSinceVentricular" "Z", Cond.methodLink RX8 217 yX8_vIsDue, Cond.instanceMethod yX8_vIsDue, Cond.selects RX8 yX8_vIsDue yX8_vIsDue, Cond.code yX8_vIsDue cX8_vIsDue 1 (some .boolean)]
def wsX8_tick_r9 : List Cond := [Cond.fieldLink RX8 168 "ChamberPacer$Clock" "av" "I"]
def wsX8_tick : List Cond := .code yX8_tick cX8_tick 7 (some .int) :: ((wsX8_tick_r1 ++ (wsX8_tick_r2 ++ (wsX8_tick_r3 ++ (wsX8_tick_r4 ++ (wsX8_tick_r5 ++ (wsX8_tick_r6 ++ (wsX8_tick_r7 ++ (wsX8_tick_r8 ++ wsX8_tick_r9)))))))) ++ wsX80 ++ wsX00 ++ wsX50 ++ wsX60 ++ wsX70 ++ wsX40 ++ wsX20 ++ wsX10)
def wsJ6_bitCount_0f7a4 : List Cond := .code yJ6_bitCount_0f7a4 cJ6_bitCount_0f7a4 1 (some .int) :: ([.constant RJ6 265 (1431655765), .constant RJ6 266 (858993459), .constant RJ6 267 (252645135)])
def wsX8_run_r1 : List Cond := [Cond.methodLink RX8 99 yX8_tick, Cond.instanceMethod yX8_tick, Cond.selects RX8 yX8_tick yX8_tick, Cond.initialized RX8, Cond.code yX8_tick cX8_tick 7 (some .int), Cond.fieldLink RX8 19 "ChamberPacer" "clock" "LChamberPacer$Clock;", Cond.fieldLink RX8 43 "ChamberPacer" "pace" "LChamberPacer$Pace;", Cond.fieldLink RX8 26 "ChamberPacer" "signalA" "LChamberPacer$Signal;", Cond.fieldLink RX8 10 "ChamberPacer" "settings" "LChamberPacer$Settings;", Cond.fieldLink RX8 30 "ChamberPacer" "signalV" "LChamberPacer$Signal;", Cond.methodLink RX8 72 yX0_grow, Cond.instanceMethod yX0_grow, Cond.selects RX0 yX0_grow yX0_grow, Cond.initialized RX0, Cond.code yX0_grow cX0_grow 1 none, Cond.fieldLink RX0 9 "ChamberPacer$Clock" "time" "I", Cond.fieldLink RX0 15 "ChamberPacer$Clock" "sinceA" "I", Cond.methodLink RX0 31 Lib.Math.min.name, Cond.static Lib.Math.min.name, Cond.initialized "java/lang/Math", Cond.code Lib.Math.min.name Lib.Math.min.code 2 (some .int), Cond.fieldLink RX0 18 "ChamberPacer$Clock" "sinceV" "I", Cond.fieldLink RX0 21 "ChamberPacer$Clock" "sinceP" "I", Cond.fieldLink RX0 24 "ChamberPacer$Clock" "av" "I"]
def wsX8_run_r2 : List Cond := [Cond.methodLink RX0 37 yX0_avRuns, Cond.instanceMethod yX0_avRuns, Cond.selects RX0 yX0_avRuns yX0_avRuns, Cond.code yX0_avRuns cX0_avRuns 1 (some .boolean), Cond.methodLink RX8 75 yX8_nearest, Cond.static yX8_nearest, Cond.code yX8_nearest cX8_nearest 3 (some .int), Cond.methodLink RX8 79 yX5_adapt, Cond.instanceMethod yX5_adapt, Cond.selects RX5 yX5_adapt yX5_adapt, Cond.initialized RX5, Cond.code yX5_adapt cX5_adapt 3 none, Cond.fieldLink RX5 11 "ChamberPacer$Pace" "level" "I", Cond.methodLink RX8 83 yX6_inForce, Cond.instanceMethod yX6_inForce, Cond.selects RX6 yX6_inForce yX6_inForce, Cond.initialized RX6, Cond.code yX6_inForce cX6_inForce 2 (some .int), Cond.fieldLink RX6 18 "ChamberPacer$Settings" "forced" "[I", Cond.methodLink RX6 32 yX6_exists, Cond.static yX6_exists, Cond.code yX6_exists cX6_exists 1 (some .boolean), Cond.methodLink RX8 87 yX7_crosses, Cond.instanceMethod yX7_crosses]
def wsX8_run_r3 : List Cond := [Cond.selects RX7 yX7_crosses yX7_crosses, Cond.initialized RX7, Cond.code yX7_crosses cX7_crosses 4 (some .boolean), Cond.fieldLink RX7 13 "ChamberPacer$Signal" "twoBefore" "I", Cond.methodLink RX7 16 Lib.Math.abs.name, Cond.static Lib.Math.abs.name, Cond.code Lib.Math.abs.name Lib.Math.abs.code 1 (some .int), Cond.fieldLink RX7 7 "ChamberPacer$Signal" "oneBefore" "I", Cond.methodLink RX8 91 yX8_sense, Cond.instanceMethod yX8_sense, Cond.selects RX8 yX8_sense yX8_sense, Cond.code yX8_sense cX8_sense 4 (some .int), Cond.methodLink RX8 201 yX8_vIsListenedTo, Cond.instanceMethod yX8_vIsListenedTo, Cond.selects RX8 yX8_vIsListenedTo yX8_vIsListenedTo, Cond.code yX8_vIsListenedTo cX8_vIsListenedTo 1 (some .boolean), Cond.fieldLink RX8 162 "ChamberPacer$Clock" "sinceV" "I", Cond.fieldLink RX8 165 "ChamberPacer$Clock" "sinceP" "I", Cond.methodLink RX8 220 yX6_mode, Cond.instanceMethod yX6_mode, Cond.selects RX6 yX6_mode yX6_mode, Cond.code yX6_mode cX6_mode 1 (some .int), Cond.methodLink RX8 223 yX8_sensesV, Cond.static yX8_sensesV]
def wsX8_run_r4 : List Cond := [Cond.code yX8_sensesV cX8_sensesV 1 (some .boolean), Cond.methodLink RX8 204 yX8_ventricularEvent, Cond.instanceMethod yX8_ventricularEvent, Cond.selects RX8 yX8_ventricularEvent yX8_ventricularEvent, Cond.code yX8_ventricularEvent cX8_ventricularEvent 3 none, Cond.fieldLink RX8 57 "ChamberPacer" "markers" "LChamberPacer$Markers;", Cond.fieldLink RX8 186 "ChamberPacer$Clock" "time" "I", Cond.methodLink RX8 241 yX4_keep, Cond.instanceMethod yX4_keep, Cond.selects RX4 yX4_keep yX4_keep, Cond.initialized RX4, Cond.code yX4_keep cX4_keep 3 none, Cond.fieldLink RX4 11 "ChamberPacer$Markers" "kinds" "[I", Cond.fieldLink RX4 18 "ChamberPacer$Markers" "next" "I", Cond.fieldLink RX4 15 "ChamberPacer$Markers" "times" "[I", Cond.fieldLink RX4 22 "ChamberPacer$Markers" "count" "I", Cond.methodLink RX8 264 yX0_restartV, Cond.instanceMethod yX0_restartV, Cond.selects RX0 yX0_restartV yX0_restartV, Cond.code yX0_restartV cX0_restartV 1 none, Cond.fieldLink RX0 27 "ChamberPacer$Clock" "atrialSinceVentricular" "Z", Cond.methodLink RX0 41 yX0_stopAv, Cond.instanceMethod yX0_stopAv, Cond.selects RX0 yX0_stopAv yX0_stopAv]
def wsX8_run_r5 : List Cond := [Cond.code yX0_stopAv cX0_stopAv 1 none, Cond.methodLink RX8 229 yX8_isLedByA, Cond.static yX8_isLedByA, Cond.code yX8_isLedByA cX8_isLedByA 1 (some .boolean), Cond.methodLink RX8 261 yX8_boundary, Cond.instanceMethod yX8_boundary, Cond.selects RX8 yX8_boundary yX8_boundary, Cond.code yX8_boundary cX8_boundary 5 none, Cond.fieldLink RX8 50 "ChamberPacer" "cycles" "LChamberPacer$Cycles;", Cond.methodLink RX8 270 yX6_putInForce, Cond.instanceMethod yX6_putInForce, Cond.selects RX6 yX6_putInForce yX6_putInForce, Cond.code yX6_putInForce cX6_putInForce 3 (some .boolean), Cond.fieldLink RX6 23 "ChamberPacer$Settings" "asked" "[I", Cond.methodLink RX8 273 yX8_leaveMode, Cond.instanceMethod yX8_leaveMode, Cond.selects RX8 yX8_leaveMode yX8_leaveMode, Cond.code yX8_leaveMode cX8_leaveMode 1 none, Cond.fieldLink RX8 36 "ChamberPacer" "follower" "LChamberPacer$Follower;", Cond.fieldLink RX8 189 "ChamberPacer$Follower" "gaveUp" "Z", Cond.methodLink RX8 285 yX0_stopAv, Cond.methodLink RX8 288 yX2_forget, Cond.instanceMethod yX2_forget, Cond.selects RX2 yX2_forget yX2_forget]
def wsX8_run_r6 : List Cond := [Cond.initialized RX2, Cond.code yX2_forget cX2_forget 1 none, Cond.fieldLink RX2 7 "ChamberPacer$Follower" "fast" "I", Cond.fieldLink RX2 13 "ChamberPacer$Follower" "slow" "I", Cond.fieldLink RX2 16 "ChamberPacer$Follower" "gaveUp" "Z", Cond.methodLink RX8 276 yX1_end, Cond.instanceMethod yX1_end, Cond.selects RX1 yX1_end yX1_end, Cond.initialized RX1, Cond.code yX1_end cX1_end 2 none, Cond.fieldLink RX1 11 "ChamberPacer$Cycles" "bins" "[I", Cond.fieldLink RX1 15 "ChamberPacer$Cycles" "begun" "I", Cond.methodLink RX8 279 yX5_approach, Cond.instanceMethod yX5_approach, Cond.selects RX5 yX5_approach yX5_approach, Cond.code yX5_approach cX5_approach 4 none, Cond.fieldLink RX5 15 "ChamberPacer$Pace" "interval" "I", Cond.methodLink RX8 282 yX5_beginCycle, Cond.instanceMethod yX5_beginCycle, Cond.selects RX5 yX5_beginCycle yX5_beginCycle, Cond.code yX5_beginCycle cX5_beginCycle 3 none, Cond.methodLink RX5 25 Lib.Math.min.name, Cond.fieldLink RX5 18 "ChamberPacer$Pace" "longest" "I", Cond.methodLink RX8 208 yX8_aIsListenedTo]
def wsX8_run_r7 : List Cond := [Cond.instanceMethod yX8_aIsListenedTo, Cond.selects RX8 yX8_aIsListenedTo yX8_aIsListenedTo, Cond.code yX8_aIsListenedTo cX8_aIsListenedTo 1 (some .boolean), Cond.fieldLink RX8 159 "ChamberPacer$Clock" "sinceA" "I", Cond.methodLink RX8 226 yX8_sensesA, Cond.static yX8_sensesA, Cond.code yX8_sensesA cX8_sensesA 1 (some .boolean), Cond.methodLink RX8 211 yX8_atrialEvent, Cond.instanceMethod yX8_atrialEvent, Cond.selects RX8 yX8_atrialEvent yX8_atrialEvent, Cond.code yX8_atrialEvent cX8_atrialEvent 3 none, Cond.methodLink RX8 244 yX8_follows, Cond.static yX8_follows, Cond.code yX8_follows cX8_follows 1 (some .boolean), Cond.methodLink RX8 247 yX8_tellTooFast, Cond.instanceMethod yX8_tellTooFast, Cond.selects RX8 yX8_tellTooFast yX8_tellTooFast, Cond.code yX8_tellTooFast cX8_tellTooFast 2 none, Cond.methodLink RX8 267 yX2_count, Cond.instanceMethod yX2_count, Cond.selects RX2 yX2_count yX2_count, Cond.code yX2_count cX2_count 2 none, Cond.methodLink RX8 250 yX0_restartA, Cond.instanceMethod yX0_restartA]
def wsX8_run_r8 : List Cond := [Cond.selects RX0 yX0_restartA yX0_restartA, Cond.code yX0_restartA cX0_restartA 2 none, Cond.methodLink RX8 254 yX8_beginsAv, Cond.instanceMethod yX8_beginsAv, Cond.selects RX8 yX8_beginsAv yX8_beginsAv, Cond.code yX8_beginsAv cX8_beginsAv 2 (some .boolean), Cond.methodLink RX8 238 yX0_avRuns, Cond.methodLink RX8 232 yX8_pacesBoth, Cond.static yX8_pacesBoth, Cond.code yX8_pacesBoth cX8_pacesBoth 1 (some .boolean), Cond.methodLink RX8 258 yX0_startAv, Cond.instanceMethod yX0_startAv, Cond.selects RX0 yX0_startAv yX0_startAv, Cond.code yX0_startAv cX0_startAv 1 none, Cond.methodLink RX8 95 yX8_stimulate, Cond.instanceMethod yX8_stimulate, Cond.selects RX8 yX8_stimulate yX8_stimulate, Cond.code yX8_stimulate cX8_stimulate 3 (some .int), Cond.methodLink RX8 214 yX8_aIsDue, Cond.instanceMethod yX8_aIsDue, Cond.selects RX8 yX8_aIsDue yX8_aIsDue, Cond.code yX8_aIsDue cX8_aIsDue 1 (some .boolean), Cond.fieldLink RX8 171 "ChamberPacer$Pace" "longest" "I", Cond.fieldLink RX8 235 "ChamberPacer$Clock" "atrialSinceVentricular" "Z"]
def wsX8_run_r9 : List Cond := [Cond.methodLink RX8 217 yX8_vIsDue, Cond.instanceMethod yX8_vIsDue, Cond.selects RX8 yX8_vIsDue yX8_vIsDue, Cond.code yX8_vIsDue cX8_vIsDue 1 (some .boolean), Cond.fieldLink RX8 168 "ChamberPacer$Clock" "av" "I", Cond.methodLink RX8 102 yJ6_bitCount_0f7a4, Cond.static yJ6_bitCount_0f7a4, Cond.initialized RJ6, Cond.code yJ6_bitCount_0f7a4 cJ6_bitCount_0f7a4 1 (some .int), Cond.constant RJ6 265 (1431655765), Cond.constant RJ6 266 (858993459), Cond.constant RJ6 267 (252645135)]
def wsX8_run : List Cond := .code yX8_run cX8_run 7 (some .int) :: ((wsX8_run_r1 ++ (wsX8_run_r2 ++ (wsX8_run_r3 ++ (wsX8_run_r4 ++ (wsX8_run_r5 ++ (wsX8_run_r6 ++ (wsX8_run_r7 ++ (wsX8_run_r8 ++ wsX8_run_r9)))))))) ++ wsX80 ++ wsX00 ++ wsX50 ++ wsX60 ++ wsX70 ++ wsX40 ++ wsX20 ++ wsX10)
def wsX8_program_r1 : List Cond := [Cond.classLink RX8 110 "java/lang/IllegalArgumentException", Cond.initialized "java/lang/IllegalArgumentException", Cond.classLink RX8 113 "java/lang/IllegalStateException", Cond.initialized "java/lang/IllegalStateException", Cond.fieldLink RX8 68 "ChamberPacer" "status" "I", Cond.fieldLink RX8 10 "ChamberPacer" "settings" "LChamberPacer$Settings;", Cond.methodLink RX8 107 yX6_allows, Cond.static yX6_allows, Cond.initialized RX6, Cond.code yX6_allows cX6_allows 2 (some .boolean), Cond.methodLink RX6 32 yX6_exists, Cond.static yX6_exists, Cond.code yX6_exists cX6_exists 1 (some .boolean), Cond.methodLink RX8 116 yX6_latest, Cond.instanceMethod yX6_latest, Cond.selects RX6 yX6_latest yX6_latest, Cond.code yX6_latest cX6_latest 3 (some .int), Cond.methodLink RX6 42 yX6_pending, Cond.instanceMethod yX6_pending, Cond.selects RX6 yX6_pending yX6_pending, Cond.code yX6_pending cX6_pending 2 (some .int), Cond.fieldLink RX6 23 "ChamberPacer$Settings" "asked" "[I", Cond.methodLink RX6 46 yX6_inForce, Cond.instanceMethod yX6_inForce]
def wsX8_program_r2 : List Cond := [Cond.selects RX6 yX6_inForce yX6_inForce, Cond.code yX6_inForce cX6_inForce 2 (some .int), Cond.fieldLink RX6 18 "ChamberPacer$Settings" "forced" "[I", Cond.methodLink RX8 119 yX6_ask, Cond.instanceMethod yX6_ask, Cond.selects RX6 yX6_ask yX6_ask, Cond.code yX6_ask cX6_ask 3 none, Cond.methodLink RX6 49 yX6_allows]
def wsX8_program : List Cond := .code yX8_program cX8_program 4 (some .int) :: ((wsX8_program_r1 ++ wsX8_program_r2) ++ wsX80 ++ wsX60 ++ (vx_at0 RX8 112 "java/lang/IllegalArgumentException" ["java/lang/RuntimeException", "java/lang/Exception"]).filter goodWord ++ (vx_at0 RX8 115 "java/lang/IllegalStateException" ["java/lang/RuntimeException", "java/lang/Exception"]).filter goodWord)
def wsX8_obey : List Cond := .code yX8_obey cX8_obey 4 (some .int) :: ([.fieldLink RX8 10 "ChamberPacer" "settings" "LChamberPacer$Settings;", .fieldLink RX8 68 "ChamberPacer" "status" "I", .methodLink RX8 291 yX6_exists, .static yX6_exists, .initialized RX6, .code yX6_exists cX6_exists 1 (some .boolean), .methodLink RX8 83 yX6_inForce, .instanceMethod yX6_inForce, .selects RX6 yX6_inForce yX6_inForce, .code yX6_inForce cX6_inForce 2 (some .int), .fieldLink RX6 18 "ChamberPacer$Settings" "forced" "[I", .methodLink RX6 32 yX6_exists, .methodLink RX8 107 yX6_allows, .static yX6_allows, .code yX6_allows cX6_allows 2 (some .boolean), .methodLink RX8 119 yX6_ask, .instanceMethod yX6_ask, .selects RX6 yX6_ask yX6_ask, .code yX6_ask cX6_ask 3 none, .fieldLink RX6 23 "ChamberPacer$Settings" "asked" "[I", .methodLink RX6 49 yX6_allows] ++ wsX80 ++ wsX60)
def wsX8_receive_r1 : List Cond := [Cond.fieldLink RX8 64 "ChamberPacer" "frame" "LChamberPacer$Frame;", Cond.methodLink RX8 123 yX3_endsWith, Cond.instanceMethod yX3_endsWith, Cond.selects RX3 yX3_endsWith yX3_endsWith, Cond.initialized RX3, Cond.code yX3_endsWith cX3_endsWith 2 (some .boolean), Cond.fieldLink RX3 15 "ChamberPacer$Frame" "got" "I", Cond.fieldLink RX3 11 "ChamberPacer$Frame" "bytes" "[I", Cond.methodLink RX8 127 yX3_sumIsRight, Cond.instanceMethod yX3_sumIsRight, Cond.selects RX3 yX3_sumIsRight yX3_sumIsRight, Cond.code yX3_sumIsRight cX3_sumIsRight 3 (some .boolean), Cond.methodLink RX3 19 yX3_divide, Cond.static yX3_divide, Cond.code yX3_divide cX3_divide 3 (some .int), Cond.methodLink RX8 131 yX3_command, Cond.instanceMethod yX3_command, Cond.selects RX3 yX3_command yX3_command, Cond.code yX3_command cX3_command 1 (some .int), Cond.methodLink RX8 135 yX3_number, Cond.instanceMethod yX3_number, Cond.selects RX3 yX3_number yX3_number, Cond.code yX3_number cX3_number 1 (some .int), Cond.methodLink RX8 138 yX3_amount]
def wsX8_receive_r2 : List Cond := [Cond.instanceMethod yX3_amount, Cond.selects RX3 yX3_amount yX3_amount, Cond.code yX3_amount cX3_amount 1 (some .int), Cond.methodLink RX8 141 yX8_obey, Cond.instanceMethod yX8_obey, Cond.selects RX8 yX8_obey yX8_obey, Cond.initialized RX8, Cond.code yX8_obey cX8_obey 4 (some .int), Cond.fieldLink RX8 10 "ChamberPacer" "settings" "LChamberPacer$Settings;", Cond.fieldLink RX8 68 "ChamberPacer" "status" "I", Cond.methodLink RX8 291 yX6_exists, Cond.static yX6_exists, Cond.initialized RX6, Cond.code yX6_exists cX6_exists 1 (some .boolean), Cond.methodLink RX8 83 yX6_inForce, Cond.instanceMethod yX6_inForce, Cond.selects RX6 yX6_inForce yX6_inForce, Cond.code yX6_inForce cX6_inForce 2 (some .int), Cond.fieldLink RX6 18 "ChamberPacer$Settings" "forced" "[I", Cond.methodLink RX6 32 yX6_exists, Cond.methodLink RX8 107 yX6_allows, Cond.static yX6_allows, Cond.code yX6_allows cX6_allows 2 (some .boolean), Cond.methodLink RX8 119 yX6_ask]
def wsX8_receive_r3 : List Cond := [Cond.instanceMethod yX6_ask, Cond.selects RX6 yX6_ask yX6_ask, Cond.code yX6_ask cX6_ask 3 none, Cond.fieldLink RX6 23 "ChamberPacer$Settings" "asked" "[I", Cond.methodLink RX6 49 yX6_allows]
def wsX8_receive : List Cond := .code yX8_receive cX8_receive 2 (some .int) :: ((wsX8_receive_r1 ++ (wsX8_receive_r2 ++ wsX8_receive_r3)) ++ wsX80 ++ wsX30 ++ wsX60)
def wsX8_statusOf : List Cond := .code yX8_statusOf cX8_statusOf 1 (some .int) :: ([])
def wsX8_askForSafety : List Cond := .code yX8_askForSafety cX8_askForSafety 1 none :: ([.fieldLink RX8 10 "ChamberPacer" "settings" "LChamberPacer$Settings;", .methodLink RX8 294 yX6_dropPending, .instanceMethod yX6_dropPending, .selects RX6 yX6_dropPending yX6_dropPending, .initialized RX6, .code yX6_dropPending cX6_dropPending 1 none, .fieldLink RX6 23 "ChamberPacer$Settings" "asked" "[I", .methodLink RX6 26 yJ7_fill_53178, .static yJ7_fill_53178, .initialized RJ7, .code yJ7_fill_53178 cJ7_fill_53178 4 none, .methodLink RX8 119 yX6_ask, .instanceMethod yX6_ask, .selects RX6 yX6_ask yX6_ask, .code yX6_ask cX6_ask 3 none, .methodLink RX6 49 yX6_allows, .static yX6_allows, .code yX6_allows cX6_allows 2 (some .boolean), .methodLink RX6 32 yX6_exists, .static yX6_exists, .code yX6_exists cX6_exists 1 (some .boolean)] ++ wsX80 ++ wsX60)
def wsX8_battery_r1 : List Cond := [Cond.fieldLink RX8 68 "ChamberPacer" "status" "I", Cond.methodLink RX8 147 Lib.Math.max.name, Cond.static Lib.Math.max.name, Cond.initialized "java/lang/Math", Cond.code Lib.Math.max.name Lib.Math.max.code 2 (some .int), Cond.methodLink RX8 144 yX8_statusOf, Cond.static yX8_statusOf, Cond.initialized RX8, Cond.code yX8_statusOf cX8_statusOf 1 (some .int), Cond.methodLink RX8 153 yX8_askForSafety, Cond.instanceMethod yX8_askForSafety, Cond.selects RX8 yX8_askForSafety yX8_askForSafety, Cond.code yX8_askForSafety cX8_askForSafety 1 none, Cond.fieldLink RX8 10 "ChamberPacer" "settings" "LChamberPacer$Settings;", Cond.methodLink RX8 294 yX6_dropPending, Cond.instanceMethod yX6_dropPending, Cond.selects RX6 yX6_dropPending yX6_dropPending, Cond.initialized RX6, Cond.code yX6_dropPending cX6_dropPending 1 none, Cond.fieldLink RX6 23 "ChamberPacer$Settings" "asked" "[I", Cond.methodLink RX6 26 yJ7_fill_53178, Cond.static yJ7_fill_53178, Cond.initialized RJ7, Cond.code yJ7_fill_53178 cJ7_fill_53178 4 none]
def wsX8_battery_r2 : List Cond := [Cond.methodLink RX8 119 yX6_ask, Cond.instanceMethod yX6_ask, Cond.selects RX6 yX6_ask yX6_ask, Cond.code yX6_ask cX6_ask 3 none, Cond.methodLink RX6 49 yX6_allows, Cond.static yX6_allows, Cond.code yX6_allows cX6_allows 2 (some .boolean), Cond.methodLink RX6 32 yX6_exists, Cond.static yX6_exists, Cond.code yX6_exists cX6_exists 1 (some .boolean)]
def wsX8_battery : List Cond := .code yX8_battery cX8_battery 3 (some .int) :: ((wsX8_battery_r1 ++ wsX8_battery_r2) ++ wsX80 ++ wsX60)
def wsX8_parameter : List Cond := .code yX8_parameter cX8_parameter 2 (some .int) :: ([.fieldLink RX8 10 "ChamberPacer" "settings" "LChamberPacer$Settings;", .methodLink RX8 83 yX6_inForce, .instanceMethod yX6_inForce, .selects RX6 yX6_inForce yX6_inForce, .initialized RX6, .code yX6_inForce cX6_inForce 2 (some .int), .fieldLink RX6 18 "ChamberPacer$Settings" "forced" "[I", .methodLink RX6 32 yX6_exists, .static yX6_exists, .code yX6_exists cX6_exists 1 (some .boolean)] ++ wsX80 ++ wsX60)
def wsX8_waiting : List Cond := .code yX8_waiting cX8_waiting 2 (some .int) :: ([.fieldLink RX8 10 "ChamberPacer" "settings" "LChamberPacer$Settings;", .methodLink RX8 156 yX6_pending, .instanceMethod yX6_pending, .selects RX6 yX6_pending yX6_pending, .initialized RX6, .code yX6_pending cX6_pending 2 (some .int), .fieldLink RX6 23 "ChamberPacer$Settings" "asked" "[I", .methodLink RX6 32 yX6_exists, .static yX6_exists, .code yX6_exists cX6_exists 1 (some .boolean)] ++ wsX80 ++ wsX60)
def wsX8_since : List Cond := .code yX8_since cX8_since 2 (some .int) :: ([.fieldLink RX8 19 "ChamberPacer" "clock" "LChamberPacer$Clock;", .fieldLink RX8 159 "ChamberPacer$Clock" "sinceA" "I", .fieldLink RX8 162 "ChamberPacer$Clock" "sinceV" "I", .fieldLink RX8 165 "ChamberPacer$Clock" "sinceP" "I", .fieldLink RX8 168 "ChamberPacer$Clock" "av" "I"] ++ wsX80 ++ wsX00)
def wsX8_value : List Cond := .code yX8_value cX8_value 2 (some .int) :: ([.fieldLink RX8 43 "ChamberPacer" "pace" "LChamberPacer$Pace;", .fieldLink RX8 171 "ChamberPacer$Pace" "longest" "I", .fieldLink RX8 174 "ChamberPacer$Pace" "interval" "I", .fieldLink RX8 177 "ChamberPacer$Pace" "level" "I", .fieldLink RX8 36 "ChamberPacer" "follower" "LChamberPacer$Follower;", .fieldLink RX8 180 "ChamberPacer$Follower" "fast" "I", .fieldLink RX8 183 "ChamberPacer$Follower" "slow" "I", .fieldLink RX8 19 "ChamberPacer" "clock" "LChamberPacer$Clock;", .fieldLink RX8 186 "ChamberPacer$Clock" "time" "I"] ++ wsX80 ++ wsX50 ++ wsX20 ++ wsX00)
def wsX8_fallback : List Cond := .code yX8_fallback cX8_fallback 1 (some .boolean) :: ([.fieldLink RX8 36 "ChamberPacer" "follower" "LChamberPacer$Follower;", .fieldLink RX8 189 "ChamberPacer$Follower" "gaveUp" "Z"] ++ wsX80 ++ wsX20)
def wsX8_marker : List Cond := .code yX8_marker cX8_marker 3 (some .int) :: ([.fieldLink RX8 57 "ChamberPacer" "markers" "LChamberPacer$Markers;", .methodLink RX8 193 yX4_kind, .instanceMethod yX4_kind, .selects RX4 yX4_kind yX4_kind, .initialized RX4, .code yX4_kind cX4_kind 2 (some .int), .fieldLink RX4 11 "ChamberPacer$Markers" "kinds" "[I", .methodLink RX4 25 yX4_has, .instanceMethod yX4_has, .selects RX4 yX4_has yX4_has, .code yX4_has cX4_has 2 (some .boolean), .fieldLink RX4 22 "ChamberPacer$Markers" "count" "I", .methodLink RX4 29 yX4_place, .instanceMethod yX4_place, .selects RX4 yX4_place yX4_place, .code yX4_place cX4_place 2 (some .int), .fieldLink RX4 18 "ChamberPacer$Markers" "next" "I", .methodLink RX8 196 yX4_time, .instanceMethod yX4_time, .selects RX4 yX4_time yX4_time, .code yX4_time cX4_time 2 (some .int), .fieldLink RX4 15 "ChamberPacer$Markers" "times" "[I"] ++ wsX80 ++ wsX40)
def wsX8_histogram : List Cond := .code yX8_histogram cX8_histogram 2 (some .int) :: ([.fieldLink RX8 50 "ChamberPacer" "cycles" "LChamberPacer$Cycles;", .methodLink RX8 198 yX1_inBin, .instanceMethod yX1_inBin, .selects RX1 yX1_inBin yX1_inBin, .initialized RX1, .code yX1_inBin cX1_inBin 2 (some .int), .fieldLink RX1 11 "ChamberPacer$Cycles" "bins" "[I"] ++ wsX80 ++ wsX10)
def wsX9_range : List Cond := .code yX9_range cX9_range 5 none :: ([.fieldLink RX9 7 "ChamberPacerModel" "low" "[I", .fieldLink RX9 13 "ChamberPacerModel" "high" "[I", .fieldLink RX9 16 "ChamberPacerModel" "now" "[I"] ++ wsX90)
def wsX9_init : List Cond := .code yX9_init cX9_init 1 none :: ([.methodLink RX9 1 objectInit, .instanceMethod objectInit, .code objectInit ⟨#[0xb1]⟩ 1 none, .arrayClass .int, .fieldLink RX9 7 "ChamberPacerModel" "low" "[I", .fieldLink RX9 13 "ChamberPacerModel" "high" "[I", .fieldLink RX9 16 "ChamberPacerModel" "now" "[I", .fieldLink RX9 19 "ChamberPacerModel" "next" "[I", .arrayClass .boolean, .fieldLink RX9 22 "ChamberPacerModel" "pending" "[Z", .fieldLink RX9 26 "ChamberPacerModel" "interval" "I", .fieldLink RX9 30 "ChamberPacerModel" "l" "I", .fieldLink RX9 33 "ChamberPacerModel" "bins" "[I", .fieldLink RX9 36 "ChamberPacerModel" "bytes" "[I", .fieldLink RX9 39 "ChamberPacerModel" "marks" "[I", .fieldLink RX9 42 "ChamberPacerModel" "markTimes" "[I", .methodLink RX9 45 yX9_range, .instanceMethod yX9_range, .selects RX9 yX9_range yX9_range, .initialized RX9, .code yX9_range cX9_range 5 none] ++ wsX90)
def wsX9_thrown : List Cond := .code yX9_thrown cX9_thrown 1 (some .int) :: ([.fieldLink RX9 49 "ChamberPacerModel" "code" "I"] ++ wsX90)
def wsX9_mode : List Cond := .code yX9_mode cX9_mode 2 (some .boolean) :: ([.fieldLink RX9 16 "ChamberPacerModel" "now" "[I"] ++ wsX90)
def wsX9_mark : List Cond := .code yX9_mark cX9_mark 2 none :: ([.fieldLink RX9 39 "ChamberPacerModel" "marks" "[I", .fieldLink RX9 52 "ChamberPacerModel" "markers" "I", .fieldLink RX9 42 "ChamberPacerModel" "markTimes" "[I", .fieldLink RX9 55 "ChamberPacerModel" "time" "I"] ++ wsX90)
def wsX9_tooFast : List Cond := .code yX9_tooFast cX9_tooFast 2 none :: ([.fieldLink RX9 62 "ChamberPacerModel" "sinceA" "I", .fieldLink RX9 16 "ChamberPacerModel" "now" "[I", .fieldLink RX9 65 "ChamberPacerModel" "fast" "I", .fieldLink RX9 68 "ChamberPacerModel" "slow" "I", .fieldLink RX9 71 "ChamberPacerModel" "back" "Z", .methodLink RX9 58 yX9_mode, .instanceMethod yX9_mode, .selects RX9 yX9_mode yX9_mode, .initialized RX9, .code yX9_mode cX9_mode 2 (some .boolean), .methodLink RX9 75 yX9_mark, .instanceMethod yX9_mark, .selects RX9 yX9_mark yX9_mark, .code yX9_mark cX9_mark 2 none, .fieldLink RX9 39 "ChamberPacerModel" "marks" "[I", .fieldLink RX9 52 "ChamberPacerModel" "markers" "I", .fieldLink RX9 42 "ChamberPacerModel" "markTimes" "[I", .fieldLink RX9 55 "ChamberPacerModel" "time" "I"] ++ wsX90)
def wsX9_boundary : List Cond := .code yX9_boundary cX9_boundary 7 none :: ([.fieldLink RX9 16 "ChamberPacerModel" "now" "[I", .fieldLink RX9 22 "ChamberPacerModel" "pending" "[Z", .fieldLink RX9 19 "ChamberPacerModel" "next" "[I", .fieldLink RX9 79 "ChamberPacerModel" "avRuns" "Z", .fieldLink RX9 65 "ChamberPacerModel" "fast" "I", .fieldLink RX9 68 "ChamberPacerModel" "slow" "I", .fieldLink RX9 71 "ChamberPacerModel" "back" "Z", .fieldLink RX9 55 "ChamberPacerModel" "time" "I", .fieldLink RX9 82 "ChamberPacerModel" "begun" "I", .fieldLink RX9 33 "ChamberPacerModel" "bins" "[I", .fieldLink RX9 85 "ChamberPacerModel" "level" "I", .fieldLink RX9 26 "ChamberPacerModel" "interval" "I", .fieldLink RX9 30 "ChamberPacerModel" "l" "I", .methodLink RX9 75 yX9_mark, .instanceMethod yX9_mark, .selects RX9 yX9_mark yX9_mark, .initialized RX9, .code yX9_mark cX9_mark 2 none, .fieldLink RX9 39 "ChamberPacerModel" "marks" "[I", .fieldLink RX9 52 "ChamberPacerModel" "markers" "I", .fieldLink RX9 42 "ChamberPacerModel" "markTimes" "[I"] ++ wsX90)
def wsX9_atrialEvent_r1 : List Cond := [Cond.fieldLink RX9 62 "ChamberPacerModel" "sinceA" "I", Cond.fieldLink RX9 91 "ChamberPacerModel" "sinceP" "I", Cond.fieldLink RX9 94 "ChamberPacerModel" "atrial" "Z", Cond.fieldLink RX9 71 "ChamberPacerModel" "back" "Z", Cond.fieldLink RX9 79 "ChamberPacerModel" "avRuns" "Z", Cond.fieldLink RX9 97 "ChamberPacerModel" "av" "I", Cond.methodLink RX9 58 yX9_mode, Cond.instanceMethod yX9_mode, Cond.selects RX9 yX9_mode yX9_mode, Cond.initialized RX9, Cond.code yX9_mode cX9_mode 2 (some .boolean), Cond.fieldLink RX9 16 "ChamberPacerModel" "now" "[I", Cond.methodLink RX9 75 yX9_mark, Cond.instanceMethod yX9_mark, Cond.selects RX9 yX9_mark yX9_mark, Cond.code yX9_mark cX9_mark 2 none, Cond.fieldLink RX9 39 "ChamberPacerModel" "marks" "[I", Cond.fieldLink RX9 52 "ChamberPacerModel" "markers" "I", Cond.fieldLink RX9 42 "ChamberPacerModel" "markTimes" "[I", Cond.fieldLink RX9 55 "ChamberPacerModel" "time" "I", Cond.methodLink RX9 88 yX9_tooFast, Cond.instanceMethod yX9_tooFast, Cond.selects RX9 yX9_tooFast yX9_tooFast, Cond.code yX9_tooFast cX9_tooFast 2 none]
def wsX9_atrialEvent_r2 : List Cond := [Cond.fieldLink RX9 65 "ChamberPacerModel" "fast" "I", Cond.fieldLink RX9 68 "ChamberPacerModel" "slow" "I", Cond.methodLink RX9 100 yX9_boundary, Cond.instanceMethod yX9_boundary, Cond.selects RX9 yX9_boundary yX9_boundary, Cond.code yX9_boundary cX9_boundary 7 none, Cond.fieldLink RX9 22 "ChamberPacerModel" "pending" "[Z", Cond.fieldLink RX9 19 "ChamberPacerModel" "next" "[I", Cond.fieldLink RX9 82 "ChamberPacerModel" "begun" "I", Cond.fieldLink RX9 33 "ChamberPacerModel" "bins" "[I", Cond.fieldLink RX9 85 "ChamberPacerModel" "level" "I", Cond.fieldLink RX9 26 "ChamberPacerModel" "interval" "I", Cond.fieldLink RX9 30 "ChamberPacerModel" "l" "I"]
def wsX9_atrialEvent : List Cond := .code yX9_atrialEvent cX9_atrialEvent 4 none :: ((wsX9_atrialEvent_r1 ++ wsX9_atrialEvent_r2) ++ wsX90)
def wsX9_ventricularEvent_r1 : List Cond := [Cond.fieldLink RX9 104 "ChamberPacerModel" "sinceV" "I", Cond.fieldLink RX9 79 "ChamberPacerModel" "avRuns" "Z", Cond.fieldLink RX9 94 "ChamberPacerModel" "atrial" "Z", Cond.methodLink RX9 58 yX9_mode, Cond.instanceMethod yX9_mode, Cond.selects RX9 yX9_mode yX9_mode, Cond.initialized RX9, Cond.code yX9_mode cX9_mode 2 (some .boolean), Cond.fieldLink RX9 16 "ChamberPacerModel" "now" "[I", Cond.methodLink RX9 75 yX9_mark, Cond.instanceMethod yX9_mark, Cond.selects RX9 yX9_mark yX9_mark, Cond.code yX9_mark cX9_mark 2 none, Cond.fieldLink RX9 39 "ChamberPacerModel" "marks" "[I", Cond.fieldLink RX9 52 "ChamberPacerModel" "markers" "I", Cond.fieldLink RX9 42 "ChamberPacerModel" "markTimes" "[I", Cond.fieldLink RX9 55 "ChamberPacerModel" "time" "I", Cond.methodLink RX9 100 yX9_boundary, Cond.instanceMethod yX9_boundary, Cond.selects RX9 yX9_boundary yX9_boundary, Cond.code yX9_boundary cX9_boundary 7 none, Cond.fieldLink RX9 22 "ChamberPacerModel" "pending" "[Z", Cond.fieldLink RX9 19 "ChamberPacerModel" "next" "[I", Cond.fieldLink RX9 65 "ChamberPacerModel" "fast" "I"]
def wsX9_ventricularEvent_r2 : List Cond := [Cond.fieldLink RX9 68 "ChamberPacerModel" "slow" "I", Cond.fieldLink RX9 71 "ChamberPacerModel" "back" "Z", Cond.fieldLink RX9 82 "ChamberPacerModel" "begun" "I", Cond.fieldLink RX9 33 "ChamberPacerModel" "bins" "[I", Cond.fieldLink RX9 85 "ChamberPacerModel" "level" "I", Cond.fieldLink RX9 26 "ChamberPacerModel" "interval" "I", Cond.fieldLink RX9 30 "ChamberPacerModel" "l" "I"]
def wsX9_ventricularEvent : List Cond := .code yX9_ventricularEvent cX9_ventricularEvent 3 none :: ((wsX9_ventricularEvent_r1 ++ wsX9_ventricularEvent_r2) ++ wsX90)
def wsX9_near : List Cond := .code yX9_near cX9_near 3 (some .int) :: ([])
def wsX9_more : List Cond := .code yX9_more cX9_more 1 (some .int) :: ([])
def wsX9_apart : List Cond := .code yX9_apart cX9_apart 3 (some .boolean) :: ([])
def wsX9_pace_r1 : List Cond := [Cond.fieldLink RX9 62 "ChamberPacerModel" "sinceA" "I", Cond.fieldLink RX9 30 "ChamberPacerModel" "l" "I", Cond.fieldLink RX9 94 "ChamberPacerModel" "atrial" "Z", Cond.fieldLink RX9 104 "ChamberPacerModel" "sinceV" "I", Cond.fieldLink RX9 16 "ChamberPacerModel" "now" "[I", Cond.fieldLink RX9 79 "ChamberPacerModel" "avRuns" "Z", Cond.fieldLink RX9 97 "ChamberPacerModel" "av" "I", Cond.methodLink RX9 58 yX9_mode, Cond.instanceMethod yX9_mode, Cond.selects RX9 yX9_mode yX9_mode, Cond.initialized RX9, Cond.code yX9_mode cX9_mode 2 (some .boolean), Cond.methodLink RX9 130 yX9_atrialEvent, Cond.instanceMethod yX9_atrialEvent, Cond.selects RX9 yX9_atrialEvent yX9_atrialEvent, Cond.code yX9_atrialEvent cX9_atrialEvent 4 none, Cond.fieldLink RX9 91 "ChamberPacerModel" "sinceP" "I", Cond.fieldLink RX9 71 "ChamberPacerModel" "back" "Z", Cond.methodLink RX9 75 yX9_mark, Cond.instanceMethod yX9_mark, Cond.selects RX9 yX9_mark yX9_mark, Cond.code yX9_mark cX9_mark 2 none, Cond.fieldLink RX9 39 "ChamberPacerModel" "marks" "[I", Cond.fieldLink RX9 52 "ChamberPacerModel" "markers" "I"]
def wsX9_pace_r2 : List Cond := [Cond.fieldLink RX9 42 "ChamberPacerModel" "markTimes" "[I", Cond.fieldLink RX9 55 "ChamberPacerModel" "time" "I", Cond.methodLink RX9 88 yX9_tooFast, Cond.instanceMethod yX9_tooFast, Cond.selects RX9 yX9_tooFast yX9_tooFast, Cond.code yX9_tooFast cX9_tooFast 2 none, Cond.fieldLink RX9 65 "ChamberPacerModel" "fast" "I", Cond.fieldLink RX9 68 "ChamberPacerModel" "slow" "I", Cond.methodLink RX9 100 yX9_boundary, Cond.instanceMethod yX9_boundary, Cond.selects RX9 yX9_boundary yX9_boundary, Cond.code yX9_boundary cX9_boundary 7 none, Cond.fieldLink RX9 22 "ChamberPacerModel" "pending" "[Z", Cond.fieldLink RX9 19 "ChamberPacerModel" "next" "[I", Cond.fieldLink RX9 82 "ChamberPacerModel" "begun" "I", Cond.fieldLink RX9 33 "ChamberPacerModel" "bins" "[I", Cond.fieldLink RX9 85 "ChamberPacerModel" "level" "I", Cond.fieldLink RX9 26 "ChamberPacerModel" "interval" "I", Cond.methodLink RX9 127 yX9_ventricularEvent, Cond.instanceMethod yX9_ventricularEvent, Cond.selects RX9 yX9_ventricularEvent yX9_ventricularEvent, Cond.code yX9_ventricularEvent cX9_ventricularEvent 3 none]
def wsX9_pace : List Cond := .code yX9_pace cX9_pace 5 (some .int) :: ((wsX9_pace_r1 ++ wsX9_pace_r2) ++ wsX90)
def wsX9_step_r1 : List Cond := [Cond.fieldLink RX9 55 "ChamberPacerModel" "time" "I", Cond.fieldLink RX9 62 "ChamberPacerModel" "sinceA" "I", Cond.fieldLink RX9 104 "ChamberPacerModel" "sinceV" "I", Cond.fieldLink RX9 91 "ChamberPacerModel" "sinceP" "I", Cond.fieldLink RX9 79 "ChamberPacerModel" "avRuns" "Z", Cond.fieldLink RX9 97 "ChamberPacerModel" "av" "I", Cond.fieldLink RX9 85 "ChamberPacerModel" "level" "I", Cond.fieldLink RX9 111 "ChamberPacerModel" "a2" "I", Cond.fieldLink RX9 16 "ChamberPacerModel" "now" "[I", Cond.fieldLink RX9 118 "ChamberPacerModel" "v2" "I", Cond.fieldLink RX9 121 "ChamberPacerModel" "a1" "I", Cond.fieldLink RX9 124 "ChamberPacerModel" "v1" "I", Cond.methodLink RX9 107 yX9_more, Cond.static yX9_more, Cond.initialized RX9, Cond.code yX9_more cX9_more 1 (some .int), Cond.methodLink RX9 114 yX9_apart, Cond.static yX9_apart, Cond.code yX9_apart cX9_apart 3 (some .boolean), Cond.methodLink RX9 58 yX9_mode, Cond.instanceMethod yX9_mode, Cond.selects RX9 yX9_mode yX9_mode, Cond.code yX9_mode cX9_mode 2 (some .boolean), Cond.methodLink RX9 127 yX9_ventricularEvent]
def wsX9_step_r2 : List Cond := [Cond.instanceMethod yX9_ventricularEvent, Cond.selects RX9 yX9_ventricularEvent yX9_ventricularEvent, Cond.code yX9_ventricularEvent cX9_ventricularEvent 3 none, Cond.fieldLink RX9 94 "ChamberPacerModel" "atrial" "Z", Cond.methodLink RX9 75 yX9_mark, Cond.instanceMethod yX9_mark, Cond.selects RX9 yX9_mark yX9_mark, Cond.code yX9_mark cX9_mark 2 none, Cond.fieldLink RX9 39 "ChamberPacerModel" "marks" "[I", Cond.fieldLink RX9 52 "ChamberPacerModel" "markers" "I", Cond.fieldLink RX9 42 "ChamberPacerModel" "markTimes" "[I", Cond.methodLink RX9 100 yX9_boundary, Cond.instanceMethod yX9_boundary, Cond.selects RX9 yX9_boundary yX9_boundary, Cond.code yX9_boundary cX9_boundary 7 none, Cond.fieldLink RX9 22 "ChamberPacerModel" "pending" "[Z", Cond.fieldLink RX9 19 "ChamberPacerModel" "next" "[I", Cond.fieldLink RX9 65 "ChamberPacerModel" "fast" "I", Cond.fieldLink RX9 68 "ChamberPacerModel" "slow" "I", Cond.fieldLink RX9 71 "ChamberPacerModel" "back" "Z", Cond.fieldLink RX9 82 "ChamberPacerModel" "begun" "I", Cond.fieldLink RX9 33 "ChamberPacerModel" "bins" "[I", Cond.fieldLink RX9 26 "ChamberPacerModel" "interval" "I", Cond.fieldLink RX9 30 "ChamberPacerModel" "l" "I"]
def wsX9_step_r3 : List Cond := [Cond.methodLink RX9 130 yX9_atrialEvent, Cond.instanceMethod yX9_atrialEvent, Cond.selects RX9 yX9_atrialEvent yX9_atrialEvent, Cond.code yX9_atrialEvent cX9_atrialEvent 4 none, Cond.methodLink RX9 88 yX9_tooFast, Cond.instanceMethod yX9_tooFast, Cond.selects RX9 yX9_tooFast yX9_tooFast, Cond.code yX9_tooFast cX9_tooFast 2 none, Cond.methodLink RX9 133 yX9_pace, Cond.instanceMethod yX9_pace, Cond.selects RX9 yX9_pace yX9_pace, Cond.code yX9_pace cX9_pace 5 (some .int)]
def wsX9_step : List Cond := .code yX9_step cX9_step 8 (some .int) :: ((wsX9_step_r1 ++ (wsX9_step_r2 ++ wsX9_step_r3)) ++ wsX90)
def wsX9_tick_r1 : List Cond := [Cond.fieldLink RX9 49 "ChamberPacerModel" "code" "I", Cond.methodLink RX9 137 yX9_near, Cond.static yX9_near, Cond.initialized RX9, Cond.code yX9_near cX9_near 3 (some .int), Cond.methodLink RX9 141 yX9_step, Cond.instanceMethod yX9_step, Cond.selects RX9 yX9_step yX9_step, Cond.code yX9_step cX9_step 8 (some .int), Cond.fieldLink RX9 55 "ChamberPacerModel" "time" "I", Cond.fieldLink RX9 62 "ChamberPacerModel" "sinceA" "I", Cond.fieldLink RX9 104 "ChamberPacerModel" "sinceV" "I", Cond.fieldLink RX9 91 "ChamberPacerModel" "sinceP" "I", Cond.fieldLink RX9 79 "ChamberPacerModel" "avRuns" "Z", Cond.fieldLink RX9 97 "ChamberPacerModel" "av" "I", Cond.fieldLink RX9 85 "ChamberPacerModel" "level" "I", Cond.fieldLink RX9 111 "ChamberPacerModel" "a2" "I", Cond.fieldLink RX9 16 "ChamberPacerModel" "now" "[I", Cond.fieldLink RX9 118 "ChamberPacerModel" "v2" "I", Cond.fieldLink RX9 121 "ChamberPacerModel" "a1" "I", Cond.fieldLink RX9 124 "ChamberPacerModel" "v1" "I", Cond.methodLink RX9 107 yX9_more, Cond.static yX9_more, Cond.code yX9_more cX9_more 1 (some .int)]
def wsX9_tick_r2 : List Cond := [Cond.methodLink RX9 114 yX9_apart, Cond.static yX9_apart, Cond.code yX9_apart cX9_apart 3 (some .boolean), Cond.methodLink RX9 58 yX9_mode, Cond.instanceMethod yX9_mode, Cond.selects RX9 yX9_mode yX9_mode, Cond.code yX9_mode cX9_mode 2 (some .boolean), Cond.methodLink RX9 127 yX9_ventricularEvent, Cond.instanceMethod yX9_ventricularEvent, Cond.selects RX9 yX9_ventricularEvent yX9_ventricularEvent, Cond.code yX9_ventricularEvent cX9_ventricularEvent 3 none, Cond.fieldLink RX9 94 "ChamberPacerModel" "atrial" "Z", Cond.methodLink RX9 75 yX9_mark, Cond.instanceMethod yX9_mark, Cond.selects RX9 yX9_mark yX9_mark, Cond.code yX9_mark cX9_mark 2 none, Cond.fieldLink RX9 39 "ChamberPacerModel" "marks" "[I", Cond.fieldLink RX9 52 "ChamberPacerModel" "markers" "I", Cond.fieldLink RX9 42 "ChamberPacerModel" "markTimes" "[I", Cond.methodLink RX9 100 yX9_boundary, Cond.instanceMethod yX9_boundary, Cond.selects RX9 yX9_boundary yX9_boundary, Cond.code yX9_boundary cX9_boundary 7 none, Cond.fieldLink RX9 22 "ChamberPacerModel" "pending" "[Z"]
def wsX9_tick_r3 : List Cond := [Cond.fieldLink RX9 19 "ChamberPacerModel" "next" "[I", Cond.fieldLink RX9 65 "ChamberPacerModel" "fast" "I", Cond.fieldLink RX9 68 "ChamberPacerModel" "slow" "I", Cond.fieldLink RX9 71 "ChamberPacerModel" "back" "Z", Cond.fieldLink RX9 82 "ChamberPacerModel" "begun" "I", Cond.fieldLink RX9 33 "ChamberPacerModel" "bins" "[I", Cond.fieldLink RX9 26 "ChamberPacerModel" "interval" "I", Cond.fieldLink RX9 30 "ChamberPacerModel" "l" "I", Cond.methodLink RX9 130 yX9_atrialEvent, Cond.instanceMethod yX9_atrialEvent, Cond.selects RX9 yX9_atrialEvent yX9_atrialEvent, Cond.code yX9_atrialEvent cX9_atrialEvent 4 none, Cond.methodLink RX9 88 yX9_tooFast, Cond.instanceMethod yX9_tooFast, Cond.selects RX9 yX9_tooFast yX9_tooFast, Cond.code yX9_tooFast cX9_tooFast 2 none, Cond.methodLink RX9 133 yX9_pace, Cond.instanceMethod yX9_pace, Cond.selects RX9 yX9_pace yX9_pace, Cond.code yX9_pace cX9_pace 5 (some .int)]
def wsX9_tick : List Cond := .code yX9_tick cX9_tick 4 (some .int) :: ((wsX9_tick_r1 ++ (wsX9_tick_r2 ++ wsX9_tick_r3)) ++ wsX90)
def wsX9_run_r1 : List Cond := [Cond.fieldLink RX9 49 "ChamberPacerModel" "code" "I", Cond.methodLink RX9 137 yX9_near, Cond.static yX9_near, Cond.initialized RX9, Cond.code yX9_near cX9_near 3 (some .int), Cond.methodLink RX9 141 yX9_step, Cond.instanceMethod yX9_step, Cond.selects RX9 yX9_step yX9_step, Cond.code yX9_step cX9_step 8 (some .int), Cond.fieldLink RX9 55 "ChamberPacerModel" "time" "I", Cond.fieldLink RX9 62 "ChamberPacerModel" "sinceA" "I", Cond.fieldLink RX9 104 "ChamberPacerModel" "sinceV" "I", Cond.fieldLink RX9 91 "ChamberPacerModel" "sinceP" "I", Cond.fieldLink RX9 79 "ChamberPacerModel" "avRuns" "Z", Cond.fieldLink RX9 97 "ChamberPacerModel" "av" "I", Cond.fieldLink RX9 85 "ChamberPacerModel" "level" "I", Cond.fieldLink RX9 111 "ChamberPacerModel" "a2" "I", Cond.fieldLink RX9 16 "ChamberPacerModel" "now" "[I", Cond.fieldLink RX9 118 "ChamberPacerModel" "v2" "I", Cond.fieldLink RX9 121 "ChamberPacerModel" "a1" "I", Cond.fieldLink RX9 124 "ChamberPacerModel" "v1" "I", Cond.methodLink RX9 107 yX9_more, Cond.static yX9_more, Cond.code yX9_more cX9_more 1 (some .int)]
def wsX9_run_r2 : List Cond := [Cond.methodLink RX9 114 yX9_apart, Cond.static yX9_apart, Cond.code yX9_apart cX9_apart 3 (some .boolean), Cond.methodLink RX9 58 yX9_mode, Cond.instanceMethod yX9_mode, Cond.selects RX9 yX9_mode yX9_mode, Cond.code yX9_mode cX9_mode 2 (some .boolean), Cond.methodLink RX9 127 yX9_ventricularEvent, Cond.instanceMethod yX9_ventricularEvent, Cond.selects RX9 yX9_ventricularEvent yX9_ventricularEvent, Cond.code yX9_ventricularEvent cX9_ventricularEvent 3 none, Cond.fieldLink RX9 94 "ChamberPacerModel" "atrial" "Z", Cond.methodLink RX9 75 yX9_mark, Cond.instanceMethod yX9_mark, Cond.selects RX9 yX9_mark yX9_mark, Cond.code yX9_mark cX9_mark 2 none, Cond.fieldLink RX9 39 "ChamberPacerModel" "marks" "[I", Cond.fieldLink RX9 52 "ChamberPacerModel" "markers" "I", Cond.fieldLink RX9 42 "ChamberPacerModel" "markTimes" "[I", Cond.methodLink RX9 100 yX9_boundary, Cond.instanceMethod yX9_boundary, Cond.selects RX9 yX9_boundary yX9_boundary, Cond.code yX9_boundary cX9_boundary 7 none, Cond.fieldLink RX9 22 "ChamberPacerModel" "pending" "[Z"]
def wsX9_run_r3 : List Cond := [Cond.fieldLink RX9 19 "ChamberPacerModel" "next" "[I", Cond.fieldLink RX9 65 "ChamberPacerModel" "fast" "I", Cond.fieldLink RX9 68 "ChamberPacerModel" "slow" "I", Cond.fieldLink RX9 71 "ChamberPacerModel" "back" "Z", Cond.fieldLink RX9 82 "ChamberPacerModel" "begun" "I", Cond.fieldLink RX9 33 "ChamberPacerModel" "bins" "[I", Cond.fieldLink RX9 26 "ChamberPacerModel" "interval" "I", Cond.fieldLink RX9 30 "ChamberPacerModel" "l" "I", Cond.methodLink RX9 130 yX9_atrialEvent, Cond.instanceMethod yX9_atrialEvent, Cond.selects RX9 yX9_atrialEvent yX9_atrialEvent, Cond.code yX9_atrialEvent cX9_atrialEvent 4 none, Cond.methodLink RX9 88 yX9_tooFast, Cond.instanceMethod yX9_tooFast, Cond.selects RX9 yX9_tooFast yX9_tooFast, Cond.code yX9_tooFast cX9_tooFast 2 none, Cond.methodLink RX9 133 yX9_pace, Cond.instanceMethod yX9_pace, Cond.selects RX9 yX9_pace yX9_pace, Cond.code yX9_pace cX9_pace 5 (some .int)]
def wsX9_run : List Cond := .code yX9_run cX9_run 8 (some .int) :: ((wsX9_run_r1 ++ (wsX9_run_r2 ++ wsX9_run_r3)) ++ wsX90)
def wsX9_fits : List Cond := .code yX9_fits cX9_fits 3 (some .boolean) :: ([.fieldLink RX9 7 "ChamberPacerModel" "low" "[I", .fieldLink RX9 13 "ChamberPacerModel" "high" "[I"] ++ wsX90)
def wsX9_put : List Cond := .code yX9_put cX9_put 4 (some .int) :: ([.fieldLink RX9 22 "ChamberPacerModel" "pending" "[Z", .fieldLink RX9 19 "ChamberPacerModel" "next" "[I", .fieldLink RX9 16 "ChamberPacerModel" "now" "[I"] ++ wsX90)
def wsX9_program : List Cond := .code yX9_program cX9_program 3 (some .int) :: ([.fieldLink RX9 148 "ChamberPacerModel" "status" "I", .fieldLink RX9 49 "ChamberPacerModel" "code" "I", .methodLink RX9 144 yX9_fits, .instanceMethod yX9_fits, .selects RX9 yX9_fits yX9_fits, .initialized RX9, .code yX9_fits cX9_fits 3 (some .boolean), .fieldLink RX9 7 "ChamberPacerModel" "low" "[I", .fieldLink RX9 13 "ChamberPacerModel" "high" "[I", .methodLink RX9 151 yX9_put, .instanceMethod yX9_put, .selects RX9 yX9_put yX9_put, .code yX9_put cX9_put 4 (some .int), .fieldLink RX9 22 "ChamberPacerModel" "pending" "[Z", .fieldLink RX9 19 "ChamberPacerModel" "next" "[I", .fieldLink RX9 16 "ChamberPacerModel" "now" "[I"] ++ wsX90)
def wsX9_frameSum : List Cond := .code yX9_frameSum cX9_frameSum 4 (some .int) :: ([.fieldLink RX9 36 "ChamberPacerModel" "bytes" "[I"] ++ wsX90)
def wsX9_receive : List Cond := .code yX9_receive cX9_receive 7 (some .int) :: ([.fieldLink RX9 49 "ChamberPacerModel" "code" "I", .fieldLink RX9 155 "ChamberPacerModel" "taken" "I", .fieldLink RX9 36 "ChamberPacerModel" "bytes" "[I", .fieldLink RX9 16 "ChamberPacerModel" "now" "[I", .fieldLink RX9 148 "ChamberPacerModel" "status" "I", .methodLink RX9 158 yX9_frameSum, .instanceMethod yX9_frameSum, .selects RX9 yX9_frameSum yX9_frameSum, .initialized RX9, .code yX9_frameSum cX9_frameSum 4 (some .int), .methodLink RX9 144 yX9_fits, .instanceMethod yX9_fits, .selects RX9 yX9_fits yX9_fits, .code yX9_fits cX9_fits 3 (some .boolean), .fieldLink RX9 7 "ChamberPacerModel" "low" "[I", .fieldLink RX9 13 "ChamberPacerModel" "high" "[I", .methodLink RX9 151 yX9_put, .instanceMethod yX9_put, .selects RX9 yX9_put yX9_put, .code yX9_put cX9_put 4 (some .int), .fieldLink RX9 22 "ChamberPacerModel" "pending" "[Z", .fieldLink RX9 19 "ChamberPacerModel" "next" "[I"] ++ wsX90)
def wsX9_battery : List Cond := .code yX9_battery cX9_battery 4 (some .int) :: ([.fieldLink RX9 49 "ChamberPacerModel" "code" "I", .fieldLink RX9 148 "ChamberPacerModel" "status" "I", .fieldLink RX9 22 "ChamberPacerModel" "pending" "[Z", .fieldLink RX9 19 "ChamberPacerModel" "next" "[I"] ++ wsX90)
def wsX9_parameter : List Cond := .code yX9_parameter cX9_parameter 2 (some .int) :: ([.fieldLink RX9 49 "ChamberPacerModel" "code" "I", .fieldLink RX9 16 "ChamberPacerModel" "now" "[I"] ++ wsX90)
def wsX9_waiting : List Cond := .code yX9_waiting cX9_waiting 2 (some .int) :: ([.fieldLink RX9 49 "ChamberPacerModel" "code" "I", .fieldLink RX9 22 "ChamberPacerModel" "pending" "[Z", .fieldLink RX9 19 "ChamberPacerModel" "next" "[I"] ++ wsX90)
def wsX9_since : List Cond := .code yX9_since cX9_since 2 (some .int) :: ([.fieldLink RX9 49 "ChamberPacerModel" "code" "I", .fieldLink RX9 62 "ChamberPacerModel" "sinceA" "I", .fieldLink RX9 104 "ChamberPacerModel" "sinceV" "I", .fieldLink RX9 91 "ChamberPacerModel" "sinceP" "I", .fieldLink RX9 79 "ChamberPacerModel" "avRuns" "Z", .fieldLink RX9 97 "ChamberPacerModel" "av" "I"] ++ wsX90)
def wsX9_value : List Cond := .code yX9_value cX9_value 2 (some .int) :: ([.fieldLink RX9 49 "ChamberPacerModel" "code" "I", .fieldLink RX9 30 "ChamberPacerModel" "l" "I", .fieldLink RX9 26 "ChamberPacerModel" "interval" "I", .fieldLink RX9 85 "ChamberPacerModel" "level" "I", .fieldLink RX9 65 "ChamberPacerModel" "fast" "I", .fieldLink RX9 68 "ChamberPacerModel" "slow" "I", .fieldLink RX9 55 "ChamberPacerModel" "time" "I"] ++ wsX90)
def wsX9_fallback : List Cond := .code yX9_fallback cX9_fallback 1 (some .boolean) :: ([.fieldLink RX9 49 "ChamberPacerModel" "code" "I", .fieldLink RX9 71 "ChamberPacerModel" "back" "Z"] ++ wsX90)
def wsX9_marker : List Cond := .code yX9_marker cX9_marker 4 (some .int) :: ([.fieldLink RX9 49 "ChamberPacerModel" "code" "I", .fieldLink RX9 52 "ChamberPacerModel" "markers" "I", .fieldLink RX9 39 "ChamberPacerModel" "marks" "[I", .fieldLink RX9 42 "ChamberPacerModel" "markTimes" "[I"] ++ wsX90)
def wsX9_histogram : List Cond := .code yX9_histogram cX9_histogram 2 (some .int) :: ([.fieldLink RX9 49 "ChamberPacerModel" "code" "I", .fieldLink RX9 33 "ChamberPacerModel" "bins" "[I"] ++ wsX90)
def wsJ9_abs_0f7a4 : List Cond := .code yJ9_abs_0f7a4 cJ9_abs_0f7a4 1 (some .int) :: ([])
def wsJ9_max_7cf53 : List Cond := .code yJ9_max_7cf53 cJ9_max_7cf53 2 (some .int) :: ([])
def wsJ9_min_7cf53 : List Cond := .code yJ9_min_7cf53 cJ9_min_7cf53 2 (some .int) :: ([])
def wsL_program_r1 : List Cond := [Cond.classLink RL 13 "java/lang/IllegalArgumentException", Cond.classLink RL 15 "java/lang/IllegalStateException", Cond.methodLink RL 7 yX8_program, Cond.instanceMethod yX8_program, Cond.selects RX8 yX8_program yX8_program, Cond.initialized RX8, Cond.code yX8_program cX8_program 4 (some .int), Cond.classLink RX8 110 "java/lang/IllegalArgumentException", Cond.initialized "java/lang/IllegalArgumentException", Cond.classLink RX8 113 "java/lang/IllegalStateException", Cond.initialized "java/lang/IllegalStateException", Cond.fieldLink RX8 68 "ChamberPacer" "status" "I", Cond.fieldLink RX8 10 "ChamberPacer" "settings" "LChamberPacer$Settings;", Cond.methodLink RX8 107 yX6_allows, Cond.static yX6_allows, Cond.initialized RX6, Cond.code yX6_allows cX6_allows 2 (some .boolean), Cond.methodLink RX6 32 yX6_exists, Cond.static yX6_exists, Cond.code yX6_exists cX6_exists 1 (some .boolean), Cond.methodLink RX8 116 yX6_latest, Cond.instanceMethod yX6_latest, Cond.selects RX6 yX6_latest yX6_latest, Cond.code yX6_latest cX6_latest 3 (some .int)]
def wsL_program_r2 : List Cond := [Cond.methodLink RX6 42 yX6_pending, Cond.instanceMethod yX6_pending, Cond.selects RX6 yX6_pending yX6_pending, Cond.code yX6_pending cX6_pending 2 (some .int), Cond.fieldLink RX6 23 "ChamberPacer$Settings" "asked" "[I", Cond.methodLink RX6 46 yX6_inForce, Cond.instanceMethod yX6_inForce, Cond.selects RX6 yX6_inForce yX6_inForce, Cond.code yX6_inForce cX6_inForce 2 (some .int), Cond.fieldLink RX6 18 "ChamberPacer$Settings" "forced" "[I", Cond.methodLink RX8 119 yX6_ask, Cond.instanceMethod yX6_ask, Cond.selects RX6 yX6_ask yX6_ask, Cond.code yX6_ask cX6_ask 3 none, Cond.methodLink RX6 49 yX6_allows]
def wsL_program : List Cond := .codeWith yL_program cL_program 5 (some .int) [(0, 10, 13, 13), (0, 10, 17, 15)] :: ((wsL_program_r1 ++ wsL_program_r2) ++ wsX80 ++ wsX60 ++ (vx_at0 RX8 112 "java/lang/IllegalArgumentException" ["java/lang/RuntimeException", "java/lang/Exception"]).filter goodWord ++ (vx_at0 RX8 115 "java/lang/IllegalStateException" ["java/lang/RuntimeException", "java/lang/Exception"]).filter goodWord)
def wsL_law0_r1 : List Cond := [Cond.classLink RL 8 RX8, Cond.instantiable RX8 10, Cond.initialized RX8, Cond.classLink RL 18 RX9, Cond.instantiable RX9 31, Cond.initialized RX9, Cond.arrayClass .long, Cond.methodLink RL 17 yX8_init, Cond.instanceMethod yX8_init, Cond.code yX8_init cX8_init 1 none, Cond.methodLink RX8 1 objectInit, Cond.instanceMethod objectInit, Cond.code objectInit ⟨#[0xb1]⟩ 1 none, Cond.classLink RX8 7 RX6, Cond.instantiable RX6 2, Cond.initialized RX6, Cond.fieldLink RX8 10 "ChamberPacer" "settings" "LChamberPacer$Settings;", Cond.classLink RX8 16 RX0, Cond.instantiable RX0 6, Cond.initialized RX0, Cond.fieldLink RX8 19 "ChamberPacer" "clock" "LChamberPacer$Clock;", Cond.classLink RX8 23 RX7, Cond.instantiable RX7 2, Cond.initialized RX7]
def wsL_law0_r2 : List Cond := [Cond.fieldLink RX8 26 "ChamberPacer" "signalA" "LChamberPacer$Signal;", Cond.fieldLink RX8 30 "ChamberPacer" "signalV" "LChamberPacer$Signal;", Cond.classLink RX8 33 RX2, Cond.instantiable RX2 3, Cond.initialized RX2, Cond.fieldLink RX8 36 "ChamberPacer" "follower" "LChamberPacer$Follower;", Cond.classLink RX8 40 RX5, Cond.instantiable RX5 3, Cond.initialized RX5, Cond.fieldLink RX8 43 "ChamberPacer" "pace" "LChamberPacer$Pace;", Cond.classLink RX8 47 RX1, Cond.instantiable RX1 2, Cond.initialized RX1, Cond.fieldLink RX8 50 "ChamberPacer" "cycles" "LChamberPacer$Cycles;", Cond.classLink RX8 54 RX4, Cond.instantiable RX4 4, Cond.initialized RX4, Cond.fieldLink RX8 57 "ChamberPacer" "markers" "LChamberPacer$Markers;", Cond.classLink RX8 61 RX3, Cond.instantiable RX3 2, Cond.initialized RX3, Cond.fieldLink RX8 64 "ChamberPacer" "frame" "LChamberPacer$Frame;", Cond.fieldLink RX8 68 "ChamberPacer" "status" "I", Cond.methodLink RX8 9 yX6_init]
def wsL_law0_r3 : List Cond := [Cond.instanceMethod yX6_init, Cond.code yX6_init cX6_init 1 none, Cond.methodLink RX6 3 objectInit, Cond.methodLink RX6 13 ⟨"[I", "clone", "()Ljava/lang/Object;"⟩, Cond.sameMethod "[I" "java/lang/Object" "clone" "()Ljava/lang/Object;", Cond.native ⟨"java/lang/Object", "clone", "()Ljava/lang/Object;"⟩, Cond.instanceMethod ⟨"java/lang/Object", "clone", "()Ljava/lang/Object;"⟩, Cond.selects "[I" ⟨"[I", "clone", "()Ljava/lang/Object;"⟩ ⟨"java/lang/Object", "clone", "()Ljava/lang/Object;"⟩, Cond.classLink RX6 14 "[I", Cond.fieldLink RX6 18 "ChamberPacer$Settings" "forced" "[I", Cond.arrayClass .int, Cond.fieldLink RX6 23 "ChamberPacer$Settings" "asked" "[I", Cond.methodLink RX6 26 yJ7_fill_53178, Cond.static yJ7_fill_53178, Cond.initialized RJ7, Cond.code yJ7_fill_53178 cJ7_fill_53178 4 none, Cond.instanceMethod yX0_init, Cond.code yX0_init cX0_init 1 none, Cond.methodLink RX0 3 objectInit, Cond.fieldLink RX0 9 "ChamberPacer$Clock" "time" "I", Cond.fieldLink RX0 15 "ChamberPacer$Clock" "sinceA" "I", Cond.fieldLink RX0 18 "ChamberPacer$Clock" "sinceV" "I", Cond.fieldLink RX0 21 "ChamberPacer$Clock" "sinceP" "I", Cond.fieldLink RX0 24 "ChamberPacer$Clock" "av" "I"]
def wsL_law0_r4 : List Cond := [Cond.fieldLink RX0 27 "ChamberPacer$Clock" "atrialSinceVentricular" "Z", Cond.instanceMethod yX7_init, Cond.code yX7_init cX7_init 1 none, Cond.methodLink RX7 1 objectInit, Cond.fieldLink RX7 7 "ChamberPacer$Signal" "oneBefore" "I", Cond.fieldLink RX7 13 "ChamberPacer$Signal" "twoBefore" "I", Cond.instanceMethod yX2_init, Cond.code yX2_init cX2_init 1 none, Cond.methodLink RX2 1 objectInit, Cond.fieldLink RX2 7 "ChamberPacer$Follower" "fast" "I", Cond.fieldLink RX2 13 "ChamberPacer$Follower" "slow" "I", Cond.fieldLink RX2 16 "ChamberPacer$Follower" "gaveUp" "Z", Cond.instanceMethod yX5_init, Cond.code yX5_init cX5_init 1 none, Cond.methodLink RX5 5 objectInit, Cond.fieldLink RX5 11 "ChamberPacer$Pace" "level" "I", Cond.fieldLink RX5 15 "ChamberPacer$Pace" "interval" "I", Cond.fieldLink RX5 18 "ChamberPacer$Pace" "longest" "I", Cond.instanceMethod yX1_init, Cond.code yX1_init cX1_init 1 none, Cond.methodLink RX1 3 objectInit, Cond.fieldLink RX1 11 "ChamberPacer$Cycles" "bins" "[I", Cond.fieldLink RX1 15 "ChamberPacer$Cycles" "begun" "I", Cond.instanceMethod yX4_init]
def wsL_law0_r5 : List Cond := [Cond.code yX4_init cX4_init 1 none, Cond.methodLink RX4 3 objectInit, Cond.fieldLink RX4 11 "ChamberPacer$Markers" "kinds" "[I", Cond.fieldLink RX4 15 "ChamberPacer$Markers" "times" "[I", Cond.fieldLink RX4 18 "ChamberPacer$Markers" "next" "I", Cond.fieldLink RX4 22 "ChamberPacer$Markers" "count" "I", Cond.instanceMethod yX3_init, Cond.code yX3_init cX3_init 1 none, Cond.methodLink RX3 5 objectInit, Cond.fieldLink RX3 11 "ChamberPacer$Frame" "bytes" "[I", Cond.fieldLink RX3 15 "ChamberPacer$Frame" "got" "I", Cond.methodLink RL 20 yX9_init, Cond.instanceMethod yX9_init, Cond.code yX9_init cX9_init 1 none, Cond.methodLink RX9 1 objectInit, Cond.fieldLink RX9 7 "ChamberPacerModel" "low" "[I", Cond.fieldLink RX9 13 "ChamberPacerModel" "high" "[I", Cond.fieldLink RX9 16 "ChamberPacerModel" "now" "[I", Cond.fieldLink RX9 19 "ChamberPacerModel" "next" "[I", Cond.arrayClass .boolean, Cond.fieldLink RX9 22 "ChamberPacerModel" "pending" "[Z", Cond.fieldLink RX9 26 "ChamberPacerModel" "interval" "I", Cond.fieldLink RX9 30 "ChamberPacerModel" "l" "I", Cond.fieldLink RX9 33 "ChamberPacerModel" "bins" "[I"]
def wsL_law0_r6 : List Cond := [Cond.fieldLink RX9 36 "ChamberPacerModel" "bytes" "[I", Cond.fieldLink RX9 39 "ChamberPacerModel" "marks" "[I", Cond.fieldLink RX9 42 "ChamberPacerModel" "markTimes" "[I", Cond.methodLink RX9 45 yX9_range, Cond.instanceMethod yX9_range, Cond.selects RX9 yX9_range yX9_range, Cond.code yX9_range cX9_range 5 none, Cond.methodLink RL 21 yX8_tick, Cond.instanceMethod yX8_tick, Cond.selects RX8 yX8_tick yX8_tick, Cond.code yX8_tick cX8_tick 7 (some .int), Cond.methodLink RX8 72 yX0_grow, Cond.instanceMethod yX0_grow, Cond.selects RX0 yX0_grow yX0_grow, Cond.code yX0_grow cX0_grow 1 none, Cond.methodLink RX0 31 Lib.Math.min.name, Cond.static Lib.Math.min.name, Cond.initialized "java/lang/Math", Cond.code Lib.Math.min.name Lib.Math.min.code 2 (some .int), Cond.methodLink RX0 37 yX0_avRuns, Cond.instanceMethod yX0_avRuns, Cond.selects RX0 yX0_avRuns yX0_avRuns, Cond.code yX0_avRuns cX0_avRuns 1 (some .boolean), Cond.methodLink RX8 75 yX8_nearest]
def wsL_law0_r7 : List Cond := [Cond.static yX8_nearest, Cond.code yX8_nearest cX8_nearest 3 (some .int), Cond.methodLink RX8 79 yX5_adapt, Cond.instanceMethod yX5_adapt, Cond.selects RX5 yX5_adapt yX5_adapt, Cond.code yX5_adapt cX5_adapt 3 none, Cond.methodLink RX8 83 yX6_inForce, Cond.instanceMethod yX6_inForce, Cond.selects RX6 yX6_inForce yX6_inForce, Cond.code yX6_inForce cX6_inForce 2 (some .int), Cond.methodLink RX6 32 yX6_exists, Cond.static yX6_exists, Cond.code yX6_exists cX6_exists 1 (some .boolean), Cond.methodLink RX8 87 yX7_crosses, Cond.instanceMethod yX7_crosses, Cond.selects RX7 yX7_crosses yX7_crosses, Cond.code yX7_crosses cX7_crosses 4 (some .boolean), Cond.methodLink RX7 16 Lib.Math.abs.name, Cond.static Lib.Math.abs.name, Cond.code Lib.Math.abs.name Lib.Math.abs.code 1 (some .int), Cond.methodLink RX8 91 yX8_sense, Cond.instanceMethod yX8_sense, Cond.selects RX8 yX8_sense yX8_sense, Cond.code yX8_sense cX8_sense 4 (some .int)]
def wsL_law0_r8 : List Cond := [Cond.methodLink RX8 201 yX8_vIsListenedTo, Cond.instanceMethod yX8_vIsListenedTo, Cond.selects RX8 yX8_vIsListenedTo yX8_vIsListenedTo, Cond.code yX8_vIsListenedTo cX8_vIsListenedTo 1 (some .boolean), Cond.fieldLink RX8 162 "ChamberPacer$Clock" "sinceV" "I", Cond.fieldLink RX8 165 "ChamberPacer$Clock" "sinceP" "I", Cond.methodLink RX8 220 yX6_mode, Cond.instanceMethod yX6_mode, Cond.selects RX6 yX6_mode yX6_mode, Cond.code yX6_mode cX6_mode 1 (some .int), Cond.methodLink RX8 223 yX8_sensesV, Cond.static yX8_sensesV, Cond.code yX8_sensesV cX8_sensesV 1 (some .boolean), Cond.methodLink RX8 204 yX8_ventricularEvent, Cond.instanceMethod yX8_ventricularEvent, Cond.selects RX8 yX8_ventricularEvent yX8_ventricularEvent, Cond.code yX8_ventricularEvent cX8_ventricularEvent 3 none, Cond.fieldLink RX8 186 "ChamberPacer$Clock" "time" "I", Cond.methodLink RX8 241 yX4_keep, Cond.instanceMethod yX4_keep, Cond.selects RX4 yX4_keep yX4_keep, Cond.code yX4_keep cX4_keep 3 none, Cond.methodLink RX8 264 yX0_restartV, Cond.instanceMethod yX0_restartV]
def wsL_law0_r9 : List Cond := [Cond.selects RX0 yX0_restartV yX0_restartV, Cond.code yX0_restartV cX0_restartV 1 none, Cond.methodLink RX0 41 yX0_stopAv, Cond.instanceMethod yX0_stopAv, Cond.selects RX0 yX0_stopAv yX0_stopAv, Cond.code yX0_stopAv cX0_stopAv 1 none, Cond.methodLink RX8 229 yX8_isLedByA, Cond.static yX8_isLedByA, Cond.code yX8_isLedByA cX8_isLedByA 1 (some .boolean), Cond.methodLink RX8 261 yX8_boundary, Cond.instanceMethod yX8_boundary, Cond.selects RX8 yX8_boundary yX8_boundary, Cond.code yX8_boundary cX8_boundary 5 none, Cond.methodLink RX8 270 yX6_putInForce, Cond.instanceMethod yX6_putInForce, Cond.selects RX6 yX6_putInForce yX6_putInForce, Cond.code yX6_putInForce cX6_putInForce 3 (some .boolean), Cond.methodLink RX8 273 yX8_leaveMode, Cond.instanceMethod yX8_leaveMode, Cond.selects RX8 yX8_leaveMode yX8_leaveMode, Cond.code yX8_leaveMode cX8_leaveMode 1 none, Cond.fieldLink RX8 189 "ChamberPacer$Follower" "gaveUp" "Z", Cond.methodLink RX8 285 yX0_stopAv, Cond.methodLink RX8 288 yX2_forget]
def wsL_law0_r10 : List Cond := [Cond.instanceMethod yX2_forget, Cond.selects RX2 yX2_forget yX2_forget, Cond.code yX2_forget cX2_forget 1 none, Cond.methodLink RX8 276 yX1_end, Cond.instanceMethod yX1_end, Cond.selects RX1 yX1_end yX1_end, Cond.code yX1_end cX1_end 2 none, Cond.methodLink RX8 279 yX5_approach, Cond.instanceMethod yX5_approach, Cond.selects RX5 yX5_approach yX5_approach, Cond.code yX5_approach cX5_approach 4 none, Cond.methodLink RX8 282 yX5_beginCycle, Cond.instanceMethod yX5_beginCycle, Cond.selects RX5 yX5_beginCycle yX5_beginCycle, Cond.code yX5_beginCycle cX5_beginCycle 3 none, Cond.methodLink RX5 25 Lib.Math.min.name, Cond.methodLink RX8 208 yX8_aIsListenedTo, Cond.instanceMethod yX8_aIsListenedTo, Cond.selects RX8 yX8_aIsListenedTo yX8_aIsListenedTo, Cond.code yX8_aIsListenedTo cX8_aIsListenedTo 1 (some .boolean), Cond.fieldLink RX8 159 "ChamberPacer$Clock" "sinceA" "I", Cond.methodLink RX8 226 yX8_sensesA, Cond.static yX8_sensesA, Cond.code yX8_sensesA cX8_sensesA 1 (some .boolean)]
def wsL_law0_r11 : List Cond := [Cond.methodLink RX8 211 yX8_atrialEvent, Cond.instanceMethod yX8_atrialEvent, Cond.selects RX8 yX8_atrialEvent yX8_atrialEvent, Cond.code yX8_atrialEvent cX8_atrialEvent 3 none, Cond.methodLink RX8 244 yX8_follows, Cond.static yX8_follows, Cond.code yX8_follows cX8_follows 1 (some .boolean), Cond.methodLink RX8 247 yX8_tellTooFast, Cond.instanceMethod yX8_tellTooFast, Cond.selects RX8 yX8_tellTooFast yX8_tellTooFast, Cond.code yX8_tellTooFast cX8_tellTooFast 2 none, Cond.methodLink RX8 267 yX2_count, Cond.instanceMethod yX2_count, Cond.selects RX2 yX2_count yX2_count, Cond.code yX2_count cX2_count 2 none, Cond.methodLink RX8 250 yX0_restartA, Cond.instanceMethod yX0_restartA, Cond.selects RX0 yX0_restartA yX0_restartA, Cond.code yX0_restartA cX0_restartA 2 none, Cond.methodLink RX8 254 yX8_beginsAv, Cond.instanceMethod yX8_beginsAv, Cond.selects RX8 yX8_beginsAv yX8_beginsAv, Cond.code yX8_beginsAv cX8_beginsAv 2 (some .boolean), Cond.methodLink RX8 238 yX0_avRuns]
def wsL_law0_r12 : List Cond := [Cond.methodLink RX8 232 yX8_pacesBoth, Cond.static yX8_pacesBoth, Cond.code yX8_pacesBoth cX8_pacesBoth 1 (some .boolean), Cond.methodLink RX8 258 yX0_startAv, Cond.instanceMethod yX0_startAv, Cond.selects RX0 yX0_startAv yX0_startAv, Cond.code yX0_startAv cX0_startAv 1 none, Cond.methodLink RX8 95 yX8_stimulate, Cond.instanceMethod yX8_stimulate, Cond.selects RX8 yX8_stimulate yX8_stimulate, Cond.code yX8_stimulate cX8_stimulate 3 (some .int), Cond.methodLink RX8 214 yX8_aIsDue, Cond.instanceMethod yX8_aIsDue, Cond.selects RX8 yX8_aIsDue yX8_aIsDue, Cond.code yX8_aIsDue cX8_aIsDue 1 (some .boolean), Cond.fieldLink RX8 171 "ChamberPacer$Pace" "longest" "I", Cond.fieldLink RX8 235 "ChamberPacer$Clock" "atrialSinceVentricular" "Z", Cond.methodLink RX8 217 yX8_vIsDue, Cond.instanceMethod yX8_vIsDue, Cond.selects RX8 yX8_vIsDue yX8_vIsDue, Cond.code yX8_vIsDue cX8_vIsDue 1 (some .boolean), Cond.fieldLink RX8 168 "ChamberPacer$Clock" "av" "I", Cond.methodLink RL 25 yX9_tick, Cond.instanceMethod yX9_tick]
def wsL_law0_r13 : List Cond := [Cond.selects RX9 yX9_tick yX9_tick, Cond.code yX9_tick cX9_tick 4 (some .int), Cond.fieldLink RX9 49 "ChamberPacerModel" "code" "I", Cond.methodLink RX9 137 yX9_near, Cond.static yX9_near, Cond.code yX9_near cX9_near 3 (some .int), Cond.methodLink RX9 141 yX9_step, Cond.instanceMethod yX9_step, Cond.selects RX9 yX9_step yX9_step, Cond.code yX9_step cX9_step 8 (some .int), Cond.fieldLink RX9 55 "ChamberPacerModel" "time" "I", Cond.fieldLink RX9 62 "ChamberPacerModel" "sinceA" "I", Cond.fieldLink RX9 104 "ChamberPacerModel" "sinceV" "I", Cond.fieldLink RX9 91 "ChamberPacerModel" "sinceP" "I", Cond.fieldLink RX9 79 "ChamberPacerModel" "avRuns" "Z", Cond.fieldLink RX9 97 "ChamberPacerModel" "av" "I", Cond.fieldLink RX9 85 "ChamberPacerModel" "level" "I", Cond.fieldLink RX9 111 "ChamberPacerModel" "a2" "I", Cond.fieldLink RX9 118 "ChamberPacerModel" "v2" "I", Cond.fieldLink RX9 121 "ChamberPacerModel" "a1" "I", Cond.fieldLink RX9 124 "ChamberPacerModel" "v1" "I", Cond.methodLink RX9 107 yX9_more, Cond.static yX9_more, Cond.code yX9_more cX9_more 1 (some .int)]
def wsL_law0_r14 : List Cond := [Cond.methodLink RX9 114 yX9_apart, Cond.static yX9_apart, Cond.code yX9_apart cX9_apart 3 (some .boolean), Cond.methodLink RX9 58 yX9_mode, Cond.instanceMethod yX9_mode, Cond.selects RX9 yX9_mode yX9_mode, Cond.code yX9_mode cX9_mode 2 (some .boolean), Cond.methodLink RX9 127 yX9_ventricularEvent, Cond.instanceMethod yX9_ventricularEvent, Cond.selects RX9 yX9_ventricularEvent yX9_ventricularEvent, Cond.code yX9_ventricularEvent cX9_ventricularEvent 3 none, Cond.fieldLink RX9 94 "ChamberPacerModel" "atrial" "Z", Cond.methodLink RX9 75 yX9_mark, Cond.instanceMethod yX9_mark, Cond.selects RX9 yX9_mark yX9_mark, Cond.code yX9_mark cX9_mark 2 none, Cond.fieldLink RX9 52 "ChamberPacerModel" "markers" "I", Cond.methodLink RX9 100 yX9_boundary, Cond.instanceMethod yX9_boundary, Cond.selects RX9 yX9_boundary yX9_boundary, Cond.code yX9_boundary cX9_boundary 7 none, Cond.fieldLink RX9 65 "ChamberPacerModel" "fast" "I", Cond.fieldLink RX9 68 "ChamberPacerModel" "slow" "I", Cond.fieldLink RX9 71 "ChamberPacerModel" "back" "Z"]
def wsL_law0_r15 : List Cond := [Cond.fieldLink RX9 82 "ChamberPacerModel" "begun" "I", Cond.methodLink RX9 130 yX9_atrialEvent, Cond.instanceMethod yX9_atrialEvent, Cond.selects RX9 yX9_atrialEvent yX9_atrialEvent, Cond.code yX9_atrialEvent cX9_atrialEvent 4 none, Cond.methodLink RX9 88 yX9_tooFast, Cond.instanceMethod yX9_tooFast, Cond.selects RX9 yX9_tooFast yX9_tooFast, Cond.code yX9_tooFast cX9_tooFast 2 none, Cond.methodLink RX9 133 yX9_pace, Cond.instanceMethod yX9_pace, Cond.selects RX9 yX9_pace yX9_pace, Cond.code yX9_pace cX9_pace 5 (some .int), Cond.methodLink RL 26 yX8_run, Cond.instanceMethod yX8_run, Cond.selects RX8 yX8_run yX8_run, Cond.code yX8_run cX8_run 7 (some .int), Cond.methodLink RX8 99 yX8_tick, Cond.methodLink RX8 102 yJ6_bitCount_0f7a4, Cond.static yJ6_bitCount_0f7a4, Cond.initialized RJ6, Cond.code yJ6_bitCount_0f7a4 cJ6_bitCount_0f7a4 1 (some .int), Cond.constant RJ6 265 (1431655765), Cond.constant RJ6 266 (858993459)]
def wsL_law0_r16 : List Cond := [Cond.constant RJ6 267 (252645135), Cond.methodLink RL 30 yX9_run, Cond.instanceMethod yX9_run, Cond.selects RX9 yX9_run yX9_run, Cond.code yX9_run cX9_run 8 (some .int), Cond.methodLink RL 31 yL_program, Cond.static yL_program, Cond.initialized RL, Cond.codeWith yL_program cL_program 5 (some .int) [(0, 10, 13, 13), (0, 10, 17, 15)], Cond.classLink RL 13 "java/lang/IllegalArgumentException", Cond.classLink RL 15 "java/lang/IllegalStateException", Cond.methodLink RL 7 yX8_program, Cond.instanceMethod yX8_program, Cond.selects RX8 yX8_program yX8_program, Cond.code yX8_program cX8_program 4 (some .int), Cond.classLink RX8 110 "java/lang/IllegalArgumentException", Cond.initialized "java/lang/IllegalArgumentException", Cond.classLink RX8 113 "java/lang/IllegalStateException", Cond.initialized "java/lang/IllegalStateException", Cond.methodLink RX8 107 yX6_allows, Cond.static yX6_allows, Cond.code yX6_allows cX6_allows 2 (some .boolean), Cond.methodLink RX8 116 yX6_latest, Cond.instanceMethod yX6_latest]
def wsL_law0_r17 : List Cond := [Cond.selects RX6 yX6_latest yX6_latest, Cond.code yX6_latest cX6_latest 3 (some .int), Cond.methodLink RX6 42 yX6_pending, Cond.instanceMethod yX6_pending, Cond.selects RX6 yX6_pending yX6_pending, Cond.code yX6_pending cX6_pending 2 (some .int), Cond.methodLink RX6 46 yX6_inForce, Cond.methodLink RX8 119 yX6_ask, Cond.instanceMethod yX6_ask, Cond.selects RX6 yX6_ask yX6_ask, Cond.code yX6_ask cX6_ask 3 none, Cond.methodLink RX6 49 yX6_allows, Cond.methodLink RL 36 yX9_program, Cond.instanceMethod yX9_program, Cond.selects RX9 yX9_program yX9_program, Cond.code yX9_program cX9_program 3 (some .int), Cond.fieldLink RX9 148 "ChamberPacerModel" "status" "I", Cond.methodLink RX9 144 yX9_fits, Cond.instanceMethod yX9_fits, Cond.selects RX9 yX9_fits yX9_fits, Cond.code yX9_fits cX9_fits 3 (some .boolean), Cond.methodLink RX9 151 yX9_put, Cond.instanceMethod yX9_put, Cond.selects RX9 yX9_put yX9_put]
def wsL_law0_r18 : List Cond := [Cond.code yX9_put cX9_put 4 (some .int), Cond.methodLink RL 37 yX9_thrown, Cond.instanceMethod yX9_thrown, Cond.selects RX9 yX9_thrown yX9_thrown, Cond.code yX9_thrown cX9_thrown 1 (some .int), Cond.methodLink RL 41 yX8_receive, Cond.instanceMethod yX8_receive, Cond.selects RX8 yX8_receive yX8_receive, Cond.code yX8_receive cX8_receive 2 (some .int), Cond.methodLink RX8 123 yX3_endsWith, Cond.instanceMethod yX3_endsWith, Cond.selects RX3 yX3_endsWith yX3_endsWith, Cond.code yX3_endsWith cX3_endsWith 2 (some .boolean), Cond.methodLink RX8 127 yX3_sumIsRight, Cond.instanceMethod yX3_sumIsRight, Cond.selects RX3 yX3_sumIsRight yX3_sumIsRight, Cond.code yX3_sumIsRight cX3_sumIsRight 3 (some .boolean), Cond.methodLink RX3 19 yX3_divide, Cond.static yX3_divide, Cond.code yX3_divide cX3_divide 3 (some .int), Cond.methodLink RX8 131 yX3_command, Cond.instanceMethod yX3_command, Cond.selects RX3 yX3_command yX3_command, Cond.code yX3_command cX3_command 1 (some .int)]
def wsL_law0_r19 : List Cond := [Cond.methodLink RX8 135 yX3_number, Cond.instanceMethod yX3_number, Cond.selects RX3 yX3_number yX3_number, Cond.code yX3_number cX3_number 1 (some .int), Cond.methodLink RX8 138 yX3_amount, Cond.instanceMethod yX3_amount, Cond.selects RX3 yX3_amount yX3_amount, Cond.code yX3_amount cX3_amount 1 (some .int), Cond.methodLink RX8 141 yX8_obey, Cond.instanceMethod yX8_obey, Cond.selects RX8 yX8_obey yX8_obey, Cond.code yX8_obey cX8_obey 4 (some .int), Cond.methodLink RX8 291 yX6_exists, Cond.methodLink RL 45 yX9_receive, Cond.instanceMethod yX9_receive, Cond.selects RX9 yX9_receive yX9_receive, Cond.code yX9_receive cX9_receive 7 (some .int), Cond.fieldLink RX9 155 "ChamberPacerModel" "taken" "I", Cond.methodLink RX9 158 yX9_frameSum, Cond.instanceMethod yX9_frameSum, Cond.selects RX9 yX9_frameSum yX9_frameSum, Cond.code yX9_frameSum cX9_frameSum 4 (some .int), Cond.methodLink RL 46 yX8_battery, Cond.instanceMethod yX8_battery]
def wsL_law0_r20 : List Cond := [Cond.selects RX8 yX8_battery yX8_battery, Cond.code yX8_battery cX8_battery 3 (some .int), Cond.methodLink RX8 147 Lib.Math.max.name, Cond.static Lib.Math.max.name, Cond.code Lib.Math.max.name Lib.Math.max.code 2 (some .int), Cond.methodLink RX8 144 yX8_statusOf, Cond.static yX8_statusOf, Cond.code yX8_statusOf cX8_statusOf 1 (some .int), Cond.methodLink RX8 153 yX8_askForSafety, Cond.instanceMethod yX8_askForSafety, Cond.selects RX8 yX8_askForSafety yX8_askForSafety, Cond.code yX8_askForSafety cX8_askForSafety 1 none, Cond.methodLink RX8 294 yX6_dropPending, Cond.instanceMethod yX6_dropPending, Cond.selects RX6 yX6_dropPending yX6_dropPending, Cond.code yX6_dropPending cX6_dropPending 1 none, Cond.methodLink RL 49 yX9_battery, Cond.instanceMethod yX9_battery, Cond.selects RX9 yX9_battery yX9_battery, Cond.code yX9_battery cX9_battery 4 (some .int), Cond.methodLink RL 50 yX8_parameter, Cond.instanceMethod yX8_parameter, Cond.selects RX8 yX8_parameter yX8_parameter, Cond.code yX8_parameter cX8_parameter 2 (some .int)]
def wsL_law0_r21 : List Cond := [Cond.methodLink RL 53 yX9_parameter, Cond.instanceMethod yX9_parameter, Cond.selects RX9 yX9_parameter yX9_parameter, Cond.code yX9_parameter cX9_parameter 2 (some .int), Cond.methodLink RL 54 yX8_waiting, Cond.instanceMethod yX8_waiting, Cond.selects RX8 yX8_waiting yX8_waiting, Cond.code yX8_waiting cX8_waiting 2 (some .int), Cond.methodLink RX8 156 yX6_pending, Cond.methodLink RL 57 yX9_waiting, Cond.instanceMethod yX9_waiting, Cond.selects RX9 yX9_waiting yX9_waiting, Cond.code yX9_waiting cX9_waiting 2 (some .int), Cond.methodLink RL 58 yX8_since, Cond.instanceMethod yX8_since, Cond.selects RX8 yX8_since yX8_since, Cond.code yX8_since cX8_since 2 (some .int), Cond.methodLink RL 61 yX9_since, Cond.instanceMethod yX9_since, Cond.selects RX9 yX9_since yX9_since, Cond.code yX9_since cX9_since 2 (some .int), Cond.methodLink RL 62 yX8_value, Cond.instanceMethod yX8_value, Cond.selects RX8 yX8_value yX8_value]
def wsL_law0_r22 : List Cond := [Cond.code yX8_value cX8_value 2 (some .int), Cond.fieldLink RX8 174 "ChamberPacer$Pace" "interval" "I", Cond.fieldLink RX8 177 "ChamberPacer$Pace" "level" "I", Cond.fieldLink RX8 180 "ChamberPacer$Follower" "fast" "I", Cond.fieldLink RX8 183 "ChamberPacer$Follower" "slow" "I", Cond.methodLink RL 65 yX9_value, Cond.instanceMethod yX9_value, Cond.selects RX9 yX9_value yX9_value, Cond.code yX9_value cX9_value 2 (some .int), Cond.methodLink RL 66 yX8_fallback, Cond.instanceMethod yX8_fallback, Cond.selects RX8 yX8_fallback yX8_fallback, Cond.code yX8_fallback cX8_fallback 1 (some .boolean), Cond.methodLink RL 70 yX9_fallback, Cond.instanceMethod yX9_fallback, Cond.selects RX9 yX9_fallback yX9_fallback, Cond.code yX9_fallback cX9_fallback 1 (some .boolean), Cond.methodLink RL 71 yX8_marker, Cond.instanceMethod yX8_marker, Cond.selects RX8 yX8_marker yX8_marker, Cond.code yX8_marker cX8_marker 3 (some .int), Cond.methodLink RX8 193 yX4_kind, Cond.instanceMethod yX4_kind, Cond.selects RX4 yX4_kind yX4_kind]
def wsL_law0_r23 : List Cond := [Cond.code yX4_kind cX4_kind 2 (some .int), Cond.methodLink RX4 25 yX4_has, Cond.instanceMethod yX4_has, Cond.selects RX4 yX4_has yX4_has, Cond.code yX4_has cX4_has 2 (some .boolean), Cond.methodLink RX4 29 yX4_place, Cond.instanceMethod yX4_place, Cond.selects RX4 yX4_place yX4_place, Cond.code yX4_place cX4_place 2 (some .int), Cond.methodLink RX8 196 yX4_time, Cond.instanceMethod yX4_time, Cond.selects RX4 yX4_time yX4_time, Cond.code yX4_time cX4_time 2 (some .int), Cond.methodLink RL 74 yX9_marker, Cond.instanceMethod yX9_marker, Cond.selects RX9 yX9_marker yX9_marker, Cond.code yX9_marker cX9_marker 4 (some .int), Cond.methodLink RL 75 yX8_histogram, Cond.instanceMethod yX8_histogram, Cond.selects RX8 yX8_histogram yX8_histogram, Cond.code yX8_histogram cX8_histogram 2 (some .int), Cond.methodLink RX8 198 yX1_inBin, Cond.instanceMethod yX1_inBin, Cond.selects RX1 yX1_inBin yX1_inBin]
def wsL_law0_r24 : List Cond := [Cond.code yX1_inBin cX1_inBin 2 (some .int), Cond.methodLink RL 78 yX9_histogram, Cond.instanceMethod yX9_histogram, Cond.selects RX9 yX9_histogram yX9_histogram, Cond.code yX9_histogram cX9_histogram 2 (some .int)]
def wsL_law0 : List Cond := (wsL_law0_r1 ++ (wsL_law0_r2 ++ (wsL_law0_r3 ++ (wsL_law0_r4 ++ (wsL_law0_r5 ++ (wsL_law0_r6 ++ (wsL_law0_r7 ++ (wsL_law0_r8 ++ (wsL_law0_r9 ++ (wsL_law0_r10 ++ (wsL_law0_r11 ++ (wsL_law0_r12 ++ (wsL_law0_r13 ++ (wsL_law0_r14 ++ (wsL_law0_r15 ++ (wsL_law0_r16 ++ (wsL_law0_r17 ++ (wsL_law0_r18 ++ (wsL_law0_r19 ++ (wsL_law0_r20 ++ (wsL_law0_r21 ++ (wsL_law0_r22 ++ (wsL_law0_r23 ++ wsL_law0_r24))))))))))))))))))))))) ++ wsX80 ++ wsX90 ++ wsX60 ++ wsX00 ++ wsX70 ++ wsX20 ++ wsX50 ++ wsX10 ++ wsX40 ++ wsX30 ++ ([] : List Cond)
def wsL_law : List Cond := wsL_law0 ++ (vx_at0 RX8 112 "java/lang/IllegalArgumentException" ["java/lang/RuntimeException", "java/lang/Exception"]).filter goodWord ++ (vx_at0 RX8 115 "java/lang/IllegalStateException" ["java/lang/RuntimeException", "java/lang/Exception"]).filter goodWord
abbrev vwCl : List vw_C := [(RX0, TX0, 6), (RX1, TX1, 2), (RX2, TX2, 3), (RX3, TX3, 2), (RX4, TX4, 4), (RX5, TX5, 3), (RX6, TX6, 2), (RX7, TX7, 2), (RX8, TX8, 10), (RX9, TX9, 31)]
end
section
theorem dX0_init_0 : decode cX0_init 0 = .ok (.aload_n 0, 1) := by decide +kernel
theorem dX0_init_1 : decode cX0_init 1 = .ok (.invokespecial 3, 3) := by decide +kernel
theorem dX0_init_4 : decode cX0_init 4 = .ok (.aload_n 0, 1) := by decide +kernel
theorem dX0_init_5 : decode cX0_init 5 = .ok (.iconst 0, 1) := by decide +kernel
theorem dX0_init_6 : decode cX0_init 6 = .ok (.putfield 9, 3) := by decide +kernel
theorem dX0_init_9 : decode cX0_init 9 = .ok (.aload_n 0, 1) := by decide +kernel
theorem dX0_init_10 : decode cX0_init 10 = .ok (.iconst 0, 1) := by decide +kernel
theorem dX0_init_11 : decode cX0_init 11 = .ok (.putfield 15, 3) := by decide +kernel
theorem dX0_init_14 : decode cX0_init 14 = .ok (.aload_n 0, 1) := by decide +kernel
theorem dX0_init_15 : decode cX0_init 15 = .ok (.iconst 0, 1) := by decide +kernel
theorem dX0_init_16 : decode cX0_init 16 = .ok (.putfield 18, 3) := by decide +kernel
theorem dX0_init_19 : decode cX0_init 19 = .ok (.aload_n 0, 1) := by decide +kernel
theorem dX0_init_20 : decode cX0_init 20 = .ok (.iconst 0, 1) := by decide +kernel
theorem dX0_init_21 : decode cX0_init 21 = .ok (.putfield 21, 3) := by decide +kernel
theorem dX0_init_24 : decode cX0_init 24 = .ok (.aload_n 0, 1) := by decide +kernel
theorem dX0_init_25 : decode cX0_init 25 = .ok (.iconst (-1), 1) := by decide +kernel
theorem dX0_init_26 : decode cX0_init 26 = .ok (.putfield 24, 3) := by decide +kernel
theorem dX0_init_29 : decode cX0_init 29 = .ok (.aload_n 0, 1) := by decide +kernel
theorem dX0_init_30 : decode cX0_init 30 = .ok (.iconst 0, 1) := by decide +kernel
theorem dX0_init_31 : decode cX0_init 31 = .ok (.putfield 27, 3) := by decide +kernel
theorem dX0_init_34 : decode cX0_init 34 = .ok (.return_, 1) := by decide +kernel
set_option maxRecDepth 20000 in
theorem ggX0_grow_X0_avRuns : GoodIn wsX0_grow wsX0_avRuns := goodIn_r _ [14, 9, 15, 16, 17, 18, 19, 20] (by decide +kernel) (by decide +kernel)
set_option maxRecDepth 20000 in
theorem gX0_grow_X0_avRuns : GoodIn wsX0_grow (wsV RX0 37 RX0 yX0_avRuns wsX0_avRuns) := goodIn_app (goodIn_of _ (by decide +kernel)) ggX0_grow_X0_avRuns
theorem dX0_grow_0 : decode cX0_grow 0 = .ok (.aload_n 0, 1) := by decide +kernel
theorem dX0_grow_1 : decode cX0_grow 1 = .ok (.dup, 1) := by decide +kernel
theorem dX0_grow_2 : decode cX0_grow 2 = .ok (.getfield 9, 3) := by decide +kernel
theorem dX0_grow_5 : decode cX0_grow 5 = .ok (.iconst 1, 1) := by decide +kernel
theorem dX0_grow_6 : decode cX0_grow 6 = .ok (.iadd, 1) := by decide +kernel
theorem dX0_grow_7 : decode cX0_grow 7 = .ok (.putfield 9, 3) := by decide +kernel
theorem dX0_grow_10 : decode cX0_grow 10 = .ok (.aload_n 0, 1) := by decide +kernel
theorem dX0_grow_11 : decode cX0_grow 11 = .ok (.aload_n 0, 1) := by decide +kernel
theorem dX0_grow_12 : decode cX0_grow 12 = .ok (.getfield 15, 3) := by decide +kernel
theorem dX0_grow_15 : decode cX0_grow 15 = .ok (.iconst 1, 1) := by decide +kernel
theorem dX0_grow_16 : decode cX0_grow 16 = .ok (.iadd, 1) := by decide +kernel
theorem dX0_grow_17 : decode cX0_grow 17 = .ok (.sipush 1000, 3) := by decide +kernel
theorem dX0_grow_20 : decode cX0_grow 20 = .ok (.invokestatic 31, 3) := by decide +kernel
theorem dX0_grow_23 : decode cX0_grow 23 = .ok (.putfield 15, 3) := by decide +kernel
theorem dX0_grow_26 : decode cX0_grow 26 = .ok (.aload_n 0, 1) := by decide +kernel
theorem dX0_grow_27 : decode cX0_grow 27 = .ok (.aload_n 0, 1) := by decide +kernel
theorem dX0_grow_28 : decode cX0_grow 28 = .ok (.getfield 18, 3) := by decide +kernel
theorem dX0_grow_31 : decode cX0_grow 31 = .ok (.iconst 1, 1) := by decide +kernel
theorem dX0_grow_32 : decode cX0_grow 32 = .ok (.iadd, 1) := by decide +kernel
theorem dX0_grow_33 : decode cX0_grow 33 = .ok (.sipush 1000, 3) := by decide +kernel
theorem dX0_grow_36 : decode cX0_grow 36 = .ok (.invokestatic 31, 3) := by decide +kernel
theorem dX0_grow_39 : decode cX0_grow 39 = .ok (.putfield 18, 3) := by decide +kernel
theorem dX0_grow_42 : decode cX0_grow 42 = .ok (.aload_n 0, 1) := by decide +kernel
theorem dX0_grow_43 : decode cX0_grow 43 = .ok (.aload_n 0, 1) := by decide +kernel
theorem dX0_grow_44 : decode cX0_grow 44 = .ok (.getfield 21, 3) := by decide +kernel
theorem dX0_grow_47 : decode cX0_grow 47 = .ok (.iconst 1, 1) := by decide +kernel
theorem dX0_grow_48 : decode cX0_grow 48 = .ok (.iadd, 1) := by decide +kernel
theorem dX0_grow_49 : decode cX0_grow 49 = .ok (.sipush 1000, 3) := by decide +kernel
theorem dX0_grow_52 : decode cX0_grow 52 = .ok (.invokestatic 31, 3) := by decide +kernel
theorem dX0_grow_55 : decode cX0_grow 55 = .ok (.putfield 21, 3) := by decide +kernel
theorem dX0_grow_58 : decode cX0_grow 58 = .ok (.aload_n 0, 1) := by decide +kernel
theorem dX0_grow_59 : decode cX0_grow 59 = .ok (.invokevirtual 37, 3) := by decide +kernel
theorem dX0_grow_62 : decode cX0_grow 62 = .ok (.ifCond .eq 13, 3) := by decide +kernel
theorem dX0_grow_65 : decode cX0_grow 65 = .ok (.aload_n 0, 1) := by decide +kernel
theorem dX0_grow_66 : decode cX0_grow 66 = .ok (.dup, 1) := by decide +kernel
theorem dX0_grow_67 : decode cX0_grow 67 = .ok (.getfield 24, 3) := by decide +kernel
theorem dX0_grow_70 : decode cX0_grow 70 = .ok (.iconst 1, 1) := by decide +kernel
theorem dX0_grow_71 : decode cX0_grow 71 = .ok (.iadd, 1) := by decide +kernel
theorem dX0_grow_72 : decode cX0_grow 72 = .ok (.putfield 24, 3) := by decide +kernel
theorem dX0_grow_75 : decode cX0_grow 75 = .ok (.return_, 1) := by decide +kernel
theorem dX0_avRuns_0 : decode cX0_avRuns 0 = .ok (.aload_n 0, 1) := by decide +kernel
theorem dX0_avRuns_1 : decode cX0_avRuns 1 = .ok (.getfield 24, 3) := by decide +kernel
theorem dX0_avRuns_4 : decode cX0_avRuns 4 = .ok (.iconst (-1), 1) := by decide +kernel
theorem dX0_avRuns_5 : decode cX0_avRuns 5 = .ok (.if_icmp .eq 7, 3) := by decide +kernel
theorem dX0_avRuns_8 : decode cX0_avRuns 8 = .ok (.iconst 1, 1) := by decide +kernel
theorem dX0_avRuns_9 : decode cX0_avRuns 9 = .ok (.goto 4, 3) := by decide +kernel
theorem dX0_avRuns_12 : decode cX0_avRuns 12 = .ok (.iconst 0, 1) := by decide +kernel
theorem dX0_avRuns_13 : decode cX0_avRuns 13 = .ok (.ireturn, 1) := by decide +kernel
theorem dX0_startAv_0 : decode cX0_startAv 0 = .ok (.aload_n 0, 1) := by decide +kernel
theorem dX0_startAv_1 : decode cX0_startAv 1 = .ok (.iconst 0, 1) := by decide +kernel
theorem dX0_startAv_2 : decode cX0_startAv 2 = .ok (.putfield 24, 3) := by decide +kernel
theorem dX0_startAv_5 : decode cX0_startAv 5 = .ok (.return_, 1) := by decide +kernel
theorem dX0_stopAv_0 : decode cX0_stopAv 0 = .ok (.aload_n 0, 1) := by decide +kernel
theorem dX0_stopAv_1 : decode cX0_stopAv 1 = .ok (.iconst (-1), 1) := by decide +kernel
theorem dX0_stopAv_2 : decode cX0_stopAv 2 = .ok (.putfield 24, 3) := by decide +kernel
theorem dX0_stopAv_5 : decode cX0_stopAv 5 = .ok (.return_, 1) := by decide +kernel
theorem dX0_restartA_0 : decode cX0_restartA 0 = .ok (.aload_n 0, 1) := by decide +kernel
theorem dX0_restartA_1 : decode cX0_restartA 1 = .ok (.iconst 0, 1) := by decide +kernel
theorem dX0_restartA_2 : decode cX0_restartA 2 = .ok (.putfield 15, 3) := by decide +kernel
theorem dX0_restartA_5 : decode cX0_restartA 5 = .ok (.iload_n 1, 1) := by decide +kernel
theorem dX0_restartA_6 : decode cX0_restartA 6 = .ok (.ifCond .eq 8, 3) := by decide +kernel
theorem dX0_restartA_9 : decode cX0_restartA 9 = .ok (.aload_n 0, 1) := by decide +kernel
theorem dX0_restartA_10 : decode cX0_restartA 10 = .ok (.iconst 0, 1) := by decide +kernel
theorem dX0_restartA_11 : decode cX0_restartA 11 = .ok (.putfield 21, 3) := by decide +kernel
theorem dX0_restartA_14 : decode cX0_restartA 14 = .ok (.aload_n 0, 1) := by decide +kernel
theorem dX0_restartA_15 : decode cX0_restartA 15 = .ok (.iconst 1, 1) := by decide +kernel
theorem dX0_restartA_16 : decode cX0_restartA 16 = .ok (.putfield 27, 3) := by decide +kernel
theorem dX0_restartA_19 : decode cX0_restartA 19 = .ok (.return_, 1) := by decide +kernel
set_option maxRecDepth 20000 in
theorem ggX0_restartV_X0_stopAv : GoodIn wsX0_restartV wsX0_stopAv := goodIn_r _ [7, 8, 9, 10, 11, 12, 13, 14] (by decide +kernel) (by decide +kernel)
set_option maxRecDepth 20000 in
theorem gX0_restartV_X0_stopAv : GoodIn wsX0_restartV (wsV RX0 41 RX0 yX0_stopAv wsX0_stopAv) := goodIn_app (goodIn_of _ (by decide +kernel)) ggX0_restartV_X0_stopAv
theorem dX0_restartV_0 : decode cX0_restartV 0 = .ok (.aload_n 0, 1) := by decide +kernel
theorem dX0_restartV_1 : decode cX0_restartV 1 = .ok (.iconst 0, 1) := by decide +kernel
theorem dX0_restartV_2 : decode cX0_restartV 2 = .ok (.putfield 18, 3) := by decide +kernel
theorem dX0_restartV_5 : decode cX0_restartV 5 = .ok (.aload_n 0, 1) := by decide +kernel
theorem dX0_restartV_6 : decode cX0_restartV 6 = .ok (.invokevirtual 41, 3) := by decide +kernel
theorem dX0_restartV_9 : decode cX0_restartV 9 = .ok (.aload_n 0, 1) := by decide +kernel
theorem dX0_restartV_10 : decode cX0_restartV 10 = .ok (.iconst 0, 1) := by decide +kernel
theorem dX0_restartV_11 : decode cX0_restartV 11 = .ok (.putfield 27, 3) := by decide +kernel
theorem dX0_restartV_14 : decode cX0_restartV 14 = .ok (.return_, 1) := by decide +kernel
theorem dX1_init_0 : decode cX1_init 0 = .ok (.aload_n 0, 1) := by decide +kernel
theorem dX1_init_1 : decode cX1_init 1 = .ok (.invokespecial 3, 3) := by decide +kernel
theorem dX1_init_4 : decode cX1_init 4 = .ok (.aload_n 0, 1) := by decide +kernel
theorem dX1_init_5 : decode cX1_init 5 = .ok (.bipush 8, 2) := by decide +kernel
theorem dX1_init_7 : decode cX1_init 7 = .ok (.newarray .int, 2) := by decide +kernel
theorem dX1_init_9 : decode cX1_init 9 = .ok (.putfield 11, 3) := by decide +kernel
theorem dX1_init_12 : decode cX1_init 12 = .ok (.aload_n 0, 1) := by decide +kernel
theorem dX1_init_13 : decode cX1_init 13 = .ok (.iconst 0, 1) := by decide +kernel
theorem dX1_init_14 : decode cX1_init 14 = .ok (.putfield 15, 3) := by decide +kernel
theorem dX1_init_17 : decode cX1_init 17 = .ok (.return_, 1) := by decide +kernel
set_option maxRecDepth 20000 in
theorem ggX1_end_X8_nearest : GoodIn wsX1_end wsX8_nearest := goodIn_r _ [5] (by decide +kernel) (by decide +kernel)
set_option maxRecDepth 20000 in
theorem gX1_end_X8_nearest_n19 : GoodIn wsX1_end (wsX8_nearest) := ggX1_end_X8_nearest
theorem dX1_end_0 : decode cX1_end 0 = .ok (.aload_n 0, 1) := by decide +kernel
theorem dX1_end_1 : decode cX1_end 1 = .ok (.getfield 11, 3) := by decide +kernel
theorem dX1_end_4 : decode cX1_end 4 = .ok (.iload_n 1, 1) := by decide +kernel
theorem dX1_end_5 : decode cX1_end 5 = .ok (.aload_n 0, 1) := by decide +kernel
theorem dX1_end_6 : decode cX1_end 6 = .ok (.getfield 15, 3) := by decide +kernel
theorem dX1_end_9 : decode cX1_end 9 = .ok (.isub, 1) := by decide +kernel
theorem dX1_end_10 : decode cX1_end 10 = .ok (.bipush 25, 2) := by decide +kernel
theorem dX1_end_12 : decode cX1_end 12 = .ok (.idiv, 1) := by decide +kernel
theorem dX1_end_13 : decode cX1_end 13 = .ok (.iconst 0, 1) := by decide +kernel
theorem dX1_end_14 : decode cX1_end 14 = .ok (.bipush 7, 2) := by decide +kernel
theorem dX1_end_16 : decode cX1_end 16 = .ok (.invokestatic 19, 3) := by decide +kernel
theorem dX1_end_19 : decode cX1_end 19 = .ok (.dup2, 1) := by decide +kernel
theorem dX1_end_20 : decode cX1_end 20 = .ok (.iaload, 1) := by decide +kernel
theorem dX1_end_21 : decode cX1_end 21 = .ok (.iconst 1, 1) := by decide +kernel
theorem dX1_end_22 : decode cX1_end 22 = .ok (.iadd, 1) := by decide +kernel
theorem dX1_end_23 : decode cX1_end 23 = .ok (.iastore, 1) := by decide +kernel
theorem dX1_end_24 : decode cX1_end 24 = .ok (.aload_n 0, 1) := by decide +kernel
theorem dX1_end_25 : decode cX1_end 25 = .ok (.iload_n 1, 1) := by decide +kernel
theorem dX1_end_26 : decode cX1_end 26 = .ok (.putfield 15, 3) := by decide +kernel
theorem dX1_end_29 : decode cX1_end 29 = .ok (.return_, 1) := by decide +kernel
theorem dX1_inBin_0 : decode cX1_inBin 0 = .ok (.iload_n 1, 1) := by decide +kernel
theorem dX1_inBin_1 : decode cX1_inBin 1 = .ok (.ifCond .lt 18, 3) := by decide +kernel
theorem dX1_inBin_4 : decode cX1_inBin 4 = .ok (.iload_n 1, 1) := by decide +kernel
theorem dX1_inBin_5 : decode cX1_inBin 5 = .ok (.bipush 8, 2) := by decide +kernel
theorem dX1_inBin_7 : decode cX1_inBin 7 = .ok (.if_icmp .ge 12, 3) := by decide +kernel
theorem dX1_inBin_10 : decode cX1_inBin 10 = .ok (.aload_n 0, 1) := by decide +kernel
theorem dX1_inBin_11 : decode cX1_inBin 11 = .ok (.getfield 11, 3) := by decide +kernel
theorem dX1_inBin_14 : decode cX1_inBin 14 = .ok (.iload_n 1, 1) := by decide +kernel
theorem dX1_inBin_15 : decode cX1_inBin 15 = .ok (.iaload, 1) := by decide +kernel
theorem dX1_inBin_16 : decode cX1_inBin 16 = .ok (.goto 4, 3) := by decide +kernel
theorem dX1_inBin_19 : decode cX1_inBin 19 = .ok (.iconst (-1), 1) := by decide +kernel
theorem dX1_inBin_20 : decode cX1_inBin 20 = .ok (.ireturn, 1) := by decide +kernel
theorem dX2_init_0 : decode cX2_init 0 = .ok (.aload_n 0, 1) := by decide +kernel
theorem dX2_init_1 : decode cX2_init 1 = .ok (.invokespecial 1, 3) := by decide +kernel
theorem dX2_init_4 : decode cX2_init 4 = .ok (.aload_n 0, 1) := by decide +kernel
theorem dX2_init_5 : decode cX2_init 5 = .ok (.iconst 0, 1) := by decide +kernel
theorem dX2_init_6 : decode cX2_init 6 = .ok (.putfield 7, 3) := by decide +kernel
theorem dX2_init_9 : decode cX2_init 9 = .ok (.aload_n 0, 1) := by decide +kernel
theorem dX2_init_10 : decode cX2_init 10 = .ok (.iconst 0, 1) := by decide +kernel
theorem dX2_init_11 : decode cX2_init 11 = .ok (.putfield 13, 3) := by decide +kernel
theorem dX2_init_14 : decode cX2_init 14 = .ok (.aload_n 0, 1) := by decide +kernel
theorem dX2_init_15 : decode cX2_init 15 = .ok (.iconst 0, 1) := by decide +kernel
theorem dX2_init_16 : decode cX2_init 16 = .ok (.putfield 16, 3) := by decide +kernel
theorem dX2_init_19 : decode cX2_init 19 = .ok (.return_, 1) := by decide +kernel
theorem dX2_count_0 : decode cX2_count 0 = .ok (.aload_n 0, 1) := by decide +kernel
theorem dX2_count_1 : decode cX2_count 1 = .ok (.iload_n 1, 1) := by decide +kernel
theorem dX2_count_2 : decode cX2_count 2 = .ok (.ifCond .eq 12, 3) := by decide +kernel
theorem dX2_count_5 : decode cX2_count 5 = .ok (.aload_n 0, 1) := by decide +kernel
theorem dX2_count_6 : decode cX2_count 6 = .ok (.getfield 7, 3) := by decide +kernel
theorem dX2_count_9 : decode cX2_count 9 = .ok (.iconst 1, 1) := by decide +kernel
theorem dX2_count_10 : decode cX2_count 10 = .ok (.iadd, 1) := by decide +kernel
theorem dX2_count_11 : decode cX2_count 11 = .ok (.goto 4, 3) := by decide +kernel
theorem dX2_count_14 : decode cX2_count 14 = .ok (.iconst 0, 1) := by decide +kernel
theorem dX2_count_15 : decode cX2_count 15 = .ok (.putfield 7, 3) := by decide +kernel
theorem dX2_count_18 : decode cX2_count 18 = .ok (.aload_n 0, 1) := by decide +kernel
theorem dX2_count_19 : decode cX2_count 19 = .ok (.iload_n 1, 1) := by decide +kernel
theorem dX2_count_20 : decode cX2_count 20 = .ok (.ifCond .eq 7, 3) := by decide +kernel
theorem dX2_count_23 : decode cX2_count 23 = .ok (.iconst 0, 1) := by decide +kernel
theorem dX2_count_24 : decode cX2_count 24 = .ok (.goto 9, 3) := by decide +kernel
theorem dX2_count_27 : decode cX2_count 27 = .ok (.aload_n 0, 1) := by decide +kernel
theorem dX2_count_28 : decode cX2_count 28 = .ok (.getfield 13, 3) := by decide +kernel
theorem dX2_count_31 : decode cX2_count 31 = .ok (.iconst 1, 1) := by decide +kernel
theorem dX2_count_32 : decode cX2_count 32 = .ok (.iadd, 1) := by decide +kernel
theorem dX2_count_33 : decode cX2_count 33 = .ok (.putfield 13, 3) := by decide +kernel
theorem dX2_count_36 : decode cX2_count 36 = .ok (.aload_n 0, 1) := by decide +kernel
theorem dX2_count_37 : decode cX2_count 37 = .ok (.getfield 7, 3) := by decide +kernel
theorem dX2_count_40 : decode cX2_count 40 = .ok (.iconst 5, 1) := by decide +kernel
theorem dX2_count_41 : decode cX2_count 41 = .ok (.if_icmp .lt 8, 3) := by decide +kernel
theorem dX2_count_44 : decode cX2_count 44 = .ok (.aload_n 0, 1) := by decide +kernel
theorem dX2_count_45 : decode cX2_count 45 = .ok (.iconst 1, 1) := by decide +kernel
theorem dX2_count_46 : decode cX2_count 46 = .ok (.putfield 16, 3) := by decide +kernel
theorem dX2_count_49 : decode cX2_count 49 = .ok (.aload_n 0, 1) := by decide +kernel
theorem dX2_count_50 : decode cX2_count 50 = .ok (.getfield 13, 3) := by decide +kernel
theorem dX2_count_53 : decode cX2_count 53 = .ok (.iconst 3, 1) := by decide +kernel
theorem dX2_count_54 : decode cX2_count 54 = .ok (.if_icmp .lt 8, 3) := by decide +kernel
theorem dX2_count_57 : decode cX2_count 57 = .ok (.aload_n 0, 1) := by decide +kernel
theorem dX2_count_58 : decode cX2_count 58 = .ok (.iconst 0, 1) := by decide +kernel
theorem dX2_count_59 : decode cX2_count 59 = .ok (.putfield 16, 3) := by decide +kernel
theorem dX2_count_62 : decode cX2_count 62 = .ok (.return_, 1) := by decide +kernel
theorem dX2_forget_0 : decode cX2_forget 0 = .ok (.aload_n 0, 1) := by decide +kernel
theorem dX2_forget_1 : decode cX2_forget 1 = .ok (.iconst 0, 1) := by decide +kernel
theorem dX2_forget_2 : decode cX2_forget 2 = .ok (.putfield 7, 3) := by decide +kernel
theorem dX2_forget_5 : decode cX2_forget 5 = .ok (.aload_n 0, 1) := by decide +kernel
theorem dX2_forget_6 : decode cX2_forget 6 = .ok (.iconst 0, 1) := by decide +kernel
theorem dX2_forget_7 : decode cX2_forget 7 = .ok (.putfield 13, 3) := by decide +kernel
theorem dX2_forget_10 : decode cX2_forget 10 = .ok (.aload_n 0, 1) := by decide +kernel
theorem dX2_forget_11 : decode cX2_forget 11 = .ok (.iconst 0, 1) := by decide +kernel
theorem dX2_forget_12 : decode cX2_forget 12 = .ok (.putfield 16, 3) := by decide +kernel
theorem dX2_forget_15 : decode cX2_forget 15 = .ok (.return_, 1) := by decide +kernel
theorem dX3_init_0 : decode cX3_init 0 = .ok (.aload_n 0, 1) := by decide +kernel
theorem dX3_init_1 : decode cX3_init 1 = .ok (.invokespecial 5, 3) := by decide +kernel
theorem dX3_init_4 : decode cX3_init 4 = .ok (.aload_n 0, 1) := by decide +kernel
theorem dX3_init_5 : decode cX3_init 5 = .ok (.iconst 5, 1) := by decide +kernel
theorem dX3_init_6 : decode cX3_init 6 = .ok (.newarray .int, 2) := by decide +kernel
theorem dX3_init_8 : decode cX3_init 8 = .ok (.putfield 11, 3) := by decide +kernel
theorem dX3_init_11 : decode cX3_init 11 = .ok (.aload_n 0, 1) := by decide +kernel
theorem dX3_init_12 : decode cX3_init 12 = .ok (.iconst (-1), 1) := by decide +kernel
theorem dX3_init_13 : decode cX3_init 13 = .ok (.putfield 15, 3) := by decide +kernel
theorem dX3_init_16 : decode cX3_init 16 = .ok (.return_, 1) := by decide +kernel
theorem dX3_endsWith_0 : decode cX3_endsWith 0 = .ok (.aload_n 0, 1) := by decide +kernel
theorem dX3_endsWith_1 : decode cX3_endsWith 1 = .ok (.getfield 15, 3) := by decide +kernel
theorem dX3_endsWith_4 : decode cX3_endsWith 4 = .ok (.ifCond .lt 11, 3) := by decide +kernel
theorem dX3_endsWith_7 : decode cX3_endsWith 7 = .ok (.aload_n 0, 1) := by decide +kernel
theorem dX3_endsWith_8 : decode cX3_endsWith 8 = .ok (.getfield 15, 3) := by decide +kernel
theorem dX3_endsWith_11 : decode cX3_endsWith 11 = .ok (.iconst 5, 1) := by decide +kernel
theorem dX3_endsWith_12 : decode cX3_endsWith 12 = .ok (.if_icmp .lt 20, 3) := by decide +kernel
theorem dX3_endsWith_15 : decode cX3_endsWith 15 = .ok (.aload_n 0, 1) := by decide +kernel
theorem dX3_endsWith_16 : decode cX3_endsWith 16 = .ok (.iload_n 1, 1) := by decide +kernel
theorem dX3_endsWith_17 : decode cX3_endsWith 17 = .ok (.bipush 126, 2) := by decide +kernel
theorem dX3_endsWith_19 : decode cX3_endsWith 19 = .ok (.if_icmp .ne 7, 3) := by decide +kernel
theorem dX3_endsWith_22 : decode cX3_endsWith 22 = .ok (.iconst 0, 1) := by decide +kernel
theorem dX3_endsWith_23 : decode cX3_endsWith 23 = .ok (.goto 4, 3) := by decide +kernel
theorem dX3_endsWith_26 : decode cX3_endsWith 26 = .ok (.iconst (-1), 1) := by decide +kernel
theorem dX3_endsWith_27 : decode cX3_endsWith 27 = .ok (.putfield 15, 3) := by decide +kernel
theorem dX3_endsWith_30 : decode cX3_endsWith 30 = .ok (.iconst 0, 1) := by decide +kernel
theorem dX3_endsWith_31 : decode cX3_endsWith 31 = .ok (.ireturn, 1) := by decide +kernel
theorem dX3_endsWith_32 : decode cX3_endsWith 32 = .ok (.aload_n 0, 1) := by decide +kernel
theorem dX3_endsWith_33 : decode cX3_endsWith 33 = .ok (.getfield 11, 3) := by decide +kernel
theorem dX3_endsWith_36 : decode cX3_endsWith 36 = .ok (.aload_n 0, 1) := by decide +kernel
theorem dX3_endsWith_37 : decode cX3_endsWith 37 = .ok (.getfield 15, 3) := by decide +kernel
theorem dX3_endsWith_40 : decode cX3_endsWith 40 = .ok (.iload_n 1, 1) := by decide +kernel
theorem dX3_endsWith_41 : decode cX3_endsWith 41 = .ok (.iastore, 1) := by decide +kernel
theorem dX3_endsWith_42 : decode cX3_endsWith 42 = .ok (.aload_n 0, 1) := by decide +kernel
theorem dX3_endsWith_43 : decode cX3_endsWith 43 = .ok (.dup, 1) := by decide +kernel
theorem dX3_endsWith_44 : decode cX3_endsWith 44 = .ok (.getfield 15, 3) := by decide +kernel
theorem dX3_endsWith_47 : decode cX3_endsWith 47 = .ok (.iconst 1, 1) := by decide +kernel
theorem dX3_endsWith_48 : decode cX3_endsWith 48 = .ok (.iadd, 1) := by decide +kernel
theorem dX3_endsWith_49 : decode cX3_endsWith 49 = .ok (.putfield 15, 3) := by decide +kernel
theorem dX3_endsWith_52 : decode cX3_endsWith 52 = .ok (.aload_n 0, 1) := by decide +kernel
theorem dX3_endsWith_53 : decode cX3_endsWith 53 = .ok (.getfield 15, 3) := by decide +kernel
theorem dX3_endsWith_56 : decode cX3_endsWith 56 = .ok (.iconst 5, 1) := by decide +kernel
theorem dX3_endsWith_57 : decode cX3_endsWith 57 = .ok (.if_icmp .ne 7, 3) := by decide +kernel
theorem dX3_endsWith_60 : decode cX3_endsWith 60 = .ok (.iconst 1, 1) := by decide +kernel
theorem dX3_endsWith_61 : decode cX3_endsWith 61 = .ok (.goto 4, 3) := by decide +kernel
theorem dX3_endsWith_64 : decode cX3_endsWith 64 = .ok (.iconst 0, 1) := by decide +kernel
theorem dX3_endsWith_65 : decode cX3_endsWith 65 = .ok (.ireturn, 1) := by decide +kernel
set_option maxRecDepth 20000 in
theorem ggX3_sumIsRight_X3_divide : GoodIn wsX3_sumIsRight wsX3_divide := goodIn_r _ [5] (by decide +kernel) (by decide +kernel)
set_option maxRecDepth 20000 in
theorem gX3_sumIsRight_X3_divide : GoodIn wsX3_sumIsRight (va_wsS RX3 19 yX3_divide wsX3_divide) := goodIn_app (goodIn_of _ (by decide +kernel)) ggX3_sumIsRight_X3_divide
theorem dX3_sumIsRight_0 : decode cX3_sumIsRight 0 = .ok (.iconst 0, 1) := by decide +kernel
theorem dX3_sumIsRight_1 : decode cX3_sumIsRight 1 = .ok (.istore_n 1, 1) := by decide +kernel
theorem dX3_sumIsRight_2 : decode cX3_sumIsRight 2 = .ok (.iconst 0, 1) := by decide +kernel
theorem dX3_sumIsRight_3 : decode cX3_sumIsRight 3 = .ok (.istore_n 2, 1) := by decide +kernel
theorem dX3_sumIsRight_4 : decode cX3_sumIsRight 4 = .ok (.iload_n 2, 1) := by decide +kernel
theorem dX3_sumIsRight_5 : decode cX3_sumIsRight 5 = .ok (.iconst 4, 1) := by decide +kernel
theorem dX3_sumIsRight_6 : decode cX3_sumIsRight 6 = .ok (.if_icmp .ge 21, 3) := by decide +kernel
theorem dX3_sumIsRight_9 : decode cX3_sumIsRight 9 = .ok (.iload_n 1, 1) := by decide +kernel
theorem dX3_sumIsRight_10 : decode cX3_sumIsRight 10 = .ok (.aload_n 0, 1) := by decide +kernel
theorem dX3_sumIsRight_11 : decode cX3_sumIsRight 11 = .ok (.getfield 11, 3) := by decide +kernel
theorem dX3_sumIsRight_14 : decode cX3_sumIsRight 14 = .ok (.iload_n 2, 1) := by decide +kernel
theorem dX3_sumIsRight_15 : decode cX3_sumIsRight 15 = .ok (.iaload, 1) := by decide +kernel
theorem dX3_sumIsRight_16 : decode cX3_sumIsRight 16 = .ok (.ixor, 1) := by decide +kernel
theorem dX3_sumIsRight_17 : decode cX3_sumIsRight 17 = .ok (.invokestatic 19, 3) := by decide +kernel
theorem dX3_sumIsRight_20 : decode cX3_sumIsRight 20 = .ok (.istore_n 1, 1) := by decide +kernel
theorem dX3_sumIsRight_21 : decode cX3_sumIsRight 21 = .ok (.iinc 2 1, 3) := by decide +kernel
theorem dX3_sumIsRight_24 : decode cX3_sumIsRight 24 = .ok (.goto (-20), 3) := by decide +kernel
theorem dX3_sumIsRight_27 : decode cX3_sumIsRight 27 = .ok (.iload_n 1, 1) := by decide +kernel
theorem dX3_sumIsRight_28 : decode cX3_sumIsRight 28 = .ok (.aload_n 0, 1) := by decide +kernel
theorem dX3_sumIsRight_29 : decode cX3_sumIsRight 29 = .ok (.getfield 11, 3) := by decide +kernel
theorem dX3_sumIsRight_32 : decode cX3_sumIsRight 32 = .ok (.iconst 4, 1) := by decide +kernel
theorem dX3_sumIsRight_33 : decode cX3_sumIsRight 33 = .ok (.iaload, 1) := by decide +kernel
theorem dX3_sumIsRight_34 : decode cX3_sumIsRight 34 = .ok (.if_icmp .ne 7, 3) := by decide +kernel
theorem dX3_sumIsRight_37 : decode cX3_sumIsRight 37 = .ok (.iconst 1, 1) := by decide +kernel
theorem dX3_sumIsRight_38 : decode cX3_sumIsRight 38 = .ok (.goto 4, 3) := by decide +kernel
theorem dX3_sumIsRight_41 : decode cX3_sumIsRight 41 = .ok (.iconst 0, 1) := by decide +kernel
theorem dX3_sumIsRight_42 : decode cX3_sumIsRight 42 = .ok (.ireturn, 1) := by decide +kernel
theorem dX3_command_0 : decode cX3_command 0 = .ok (.aload_n 0, 1) := by decide +kernel
theorem dX3_command_1 : decode cX3_command 1 = .ok (.getfield 11, 3) := by decide +kernel
theorem dX3_command_4 : decode cX3_command 4 = .ok (.iconst 0, 1) := by decide +kernel
theorem dX3_command_5 : decode cX3_command 5 = .ok (.iaload, 1) := by decide +kernel
theorem dX3_command_6 : decode cX3_command 6 = .ok (.ireturn, 1) := by decide +kernel
theorem dX3_number_0 : decode cX3_number 0 = .ok (.aload_n 0, 1) := by decide +kernel
theorem dX3_number_1 : decode cX3_number 1 = .ok (.getfield 11, 3) := by decide +kernel
theorem dX3_number_4 : decode cX3_number 4 = .ok (.iconst 1, 1) := by decide +kernel
theorem dX3_number_5 : decode cX3_number 5 = .ok (.iaload, 1) := by decide +kernel
theorem dX3_number_6 : decode cX3_number 6 = .ok (.ireturn, 1) := by decide +kernel
theorem dX3_amount_0 : decode cX3_amount 0 = .ok (.aload_n 0, 1) := by decide +kernel
theorem dX3_amount_1 : decode cX3_amount 1 = .ok (.getfield 11, 3) := by decide +kernel
theorem dX3_amount_4 : decode cX3_amount 4 = .ok (.iconst 2, 1) := by decide +kernel
theorem dX3_amount_5 : decode cX3_amount 5 = .ok (.iaload, 1) := by decide +kernel
theorem dX3_amount_6 : decode cX3_amount 6 = .ok (.sipush 256, 3) := by decide +kernel
theorem dX3_amount_9 : decode cX3_amount 9 = .ok (.imul, 1) := by decide +kernel
theorem dX3_amount_10 : decode cX3_amount 10 = .ok (.aload_n 0, 1) := by decide +kernel
theorem dX3_amount_11 : decode cX3_amount 11 = .ok (.getfield 11, 3) := by decide +kernel
theorem dX3_amount_14 : decode cX3_amount 14 = .ok (.iconst 3, 1) := by decide +kernel
theorem dX3_amount_15 : decode cX3_amount 15 = .ok (.iaload, 1) := by decide +kernel
theorem dX3_amount_16 : decode cX3_amount 16 = .ok (.iadd, 1) := by decide +kernel
theorem dX3_amount_17 : decode cX3_amount 17 = .ok (.ireturn, 1) := by decide +kernel
theorem dX3_divide_0 : decode cX3_divide 0 = .ok (.iload_n 0, 1) := by decide +kernel
theorem dX3_divide_1 : decode cX3_divide 1 = .ok (.istore_n 1, 1) := by decide +kernel
theorem dX3_divide_2 : decode cX3_divide 2 = .ok (.iconst 0, 1) := by decide +kernel
theorem dX3_divide_3 : decode cX3_divide 3 = .ok (.istore_n 2, 1) := by decide +kernel
theorem dX3_divide_4 : decode cX3_divide 4 = .ok (.iload_n 2, 1) := by decide +kernel
theorem dX3_divide_5 : decode cX3_divide 5 = .ok (.bipush 8, 2) := by decide +kernel
theorem dX3_divide_7 : decode cX3_divide 7 = .ok (.if_icmp .ge 26, 3) := by decide +kernel
theorem dX3_divide_10 : decode cX3_divide 10 = .ok (.iconst 2, 1) := by decide +kernel
theorem dX3_divide_11 : decode cX3_divide 11 = .ok (.iload_n 1, 1) := by decide +kernel
theorem dX3_divide_12 : decode cX3_divide 12 = .ok (.imul, 1) := by decide +kernel
theorem dX3_divide_13 : decode cX3_divide 13 = .ok (.istore_n 1, 1) := by decide +kernel
theorem dX3_divide_14 : decode cX3_divide 14 = .ok (.iload_n 1, 1) := by decide +kernel
theorem dX3_divide_15 : decode cX3_divide 15 = .ok (.sipush 256, 3) := by decide +kernel
theorem dX3_divide_18 : decode cX3_divide 18 = .ok (.if_icmp .lt 9, 3) := by decide +kernel
theorem dX3_divide_21 : decode cX3_divide 21 = .ok (.iload_n 1, 1) := by decide +kernel
theorem dX3_divide_22 : decode cX3_divide 22 = .ok (.sipush 263, 3) := by decide +kernel
theorem dX3_divide_25 : decode cX3_divide 25 = .ok (.ixor, 1) := by decide +kernel
theorem dX3_divide_26 : decode cX3_divide 26 = .ok (.istore_n 1, 1) := by decide +kernel
theorem dX3_divide_27 : decode cX3_divide 27 = .ok (.iinc 2 1, 3) := by decide +kernel
theorem dX3_divide_30 : decode cX3_divide 30 = .ok (.goto (-26), 3) := by decide +kernel
theorem dX3_divide_33 : decode cX3_divide 33 = .ok (.iload_n 1, 1) := by decide +kernel
theorem dX3_divide_34 : decode cX3_divide 34 = .ok (.ireturn, 1) := by decide +kernel
theorem dX4_init_0 : decode cX4_init 0 = .ok (.aload_n 0, 1) := by decide +kernel
theorem dX4_init_1 : decode cX4_init 1 = .ok (.invokespecial 3, 3) := by decide +kernel
theorem dX4_init_4 : decode cX4_init 4 = .ok (.aload_n 0, 1) := by decide +kernel
theorem dX4_init_5 : decode cX4_init 5 = .ok (.bipush 12, 2) := by decide +kernel
theorem dX4_init_7 : decode cX4_init 7 = .ok (.newarray .int, 2) := by decide +kernel
theorem dX4_init_9 : decode cX4_init 9 = .ok (.putfield 11, 3) := by decide +kernel
theorem dX4_init_12 : decode cX4_init 12 = .ok (.aload_n 0, 1) := by decide +kernel
theorem dX4_init_13 : decode cX4_init 13 = .ok (.bipush 12, 2) := by decide +kernel
theorem dX4_init_15 : decode cX4_init 15 = .ok (.newarray .int, 2) := by decide +kernel
theorem dX4_init_17 : decode cX4_init 17 = .ok (.putfield 15, 3) := by decide +kernel
theorem dX4_init_20 : decode cX4_init 20 = .ok (.aload_n 0, 1) := by decide +kernel
theorem dX4_init_21 : decode cX4_init 21 = .ok (.iconst 0, 1) := by decide +kernel
theorem dX4_init_22 : decode cX4_init 22 = .ok (.putfield 18, 3) := by decide +kernel
theorem dX4_init_25 : decode cX4_init 25 = .ok (.aload_n 0, 1) := by decide +kernel
theorem dX4_init_26 : decode cX4_init 26 = .ok (.iconst 0, 1) := by decide +kernel
theorem dX4_init_27 : decode cX4_init 27 = .ok (.putfield 22, 3) := by decide +kernel
theorem dX4_init_30 : decode cX4_init 30 = .ok (.return_, 1) := by decide +kernel
theorem dX4_keep_0 : decode cX4_keep 0 = .ok (.aload_n 0, 1) := by decide +kernel
theorem dX4_keep_1 : decode cX4_keep 1 = .ok (.getfield 11, 3) := by decide +kernel
theorem dX4_keep_4 : decode cX4_keep 4 = .ok (.aload_n 0, 1) := by decide +kernel
theorem dX4_keep_5 : decode cX4_keep 5 = .ok (.getfield 18, 3) := by decide +kernel
theorem dX4_keep_8 : decode cX4_keep 8 = .ok (.iload_n 1, 1) := by decide +kernel
theorem dX4_keep_9 : decode cX4_keep 9 = .ok (.iastore, 1) := by decide +kernel
theorem dX4_keep_10 : decode cX4_keep 10 = .ok (.aload_n 0, 1) := by decide +kernel
theorem dX4_keep_11 : decode cX4_keep 11 = .ok (.getfield 15, 3) := by decide +kernel
theorem dX4_keep_14 : decode cX4_keep 14 = .ok (.aload_n 0, 1) := by decide +kernel
theorem dX4_keep_15 : decode cX4_keep 15 = .ok (.getfield 18, 3) := by decide +kernel
theorem dX4_keep_18 : decode cX4_keep 18 = .ok (.iload_n 2, 1) := by decide +kernel
theorem dX4_keep_19 : decode cX4_keep 19 = .ok (.iastore, 1) := by decide +kernel
theorem dX4_keep_20 : decode cX4_keep 20 = .ok (.aload_n 0, 1) := by decide +kernel
theorem dX4_keep_21 : decode cX4_keep 21 = .ok (.aload_n 0, 1) := by decide +kernel
theorem dX4_keep_22 : decode cX4_keep 22 = .ok (.getfield 18, 3) := by decide +kernel
theorem dX4_keep_25 : decode cX4_keep 25 = .ok (.iconst 1, 1) := by decide +kernel
theorem dX4_keep_26 : decode cX4_keep 26 = .ok (.iadd, 1) := by decide +kernel
theorem dX4_keep_27 : decode cX4_keep 27 = .ok (.bipush 12, 2) := by decide +kernel
theorem dX4_keep_29 : decode cX4_keep 29 = .ok (.irem, 1) := by decide +kernel
theorem dX4_keep_30 : decode cX4_keep 30 = .ok (.putfield 18, 3) := by decide +kernel
theorem dX4_keep_33 : decode cX4_keep 33 = .ok (.aload_n 0, 1) := by decide +kernel
theorem dX4_keep_34 : decode cX4_keep 34 = .ok (.getfield 22, 3) := by decide +kernel
theorem dX4_keep_37 : decode cX4_keep 37 = .ok (.bipush 12, 2) := by decide +kernel
theorem dX4_keep_39 : decode cX4_keep 39 = .ok (.if_icmp .ge 13, 3) := by decide +kernel
theorem dX4_keep_42 : decode cX4_keep 42 = .ok (.aload_n 0, 1) := by decide +kernel
theorem dX4_keep_43 : decode cX4_keep 43 = .ok (.dup, 1) := by decide +kernel
theorem dX4_keep_44 : decode cX4_keep 44 = .ok (.getfield 22, 3) := by decide +kernel
theorem dX4_keep_47 : decode cX4_keep 47 = .ok (.iconst 1, 1) := by decide +kernel
theorem dX4_keep_48 : decode cX4_keep 48 = .ok (.iadd, 1) := by decide +kernel
theorem dX4_keep_49 : decode cX4_keep 49 = .ok (.putfield 22, 3) := by decide +kernel
theorem dX4_keep_52 : decode cX4_keep 52 = .ok (.return_, 1) := by decide +kernel
set_option maxRecDepth 20000 in
theorem ggX4_kind_X4_has : GoodIn wsX4_kind wsX4_has := goodIn_r _ [6, 7, 13, 14, 15, 16] (by decide +kernel) (by decide +kernel)
set_option maxRecDepth 20000 in
theorem gX4_kind_X4_has : GoodIn wsX4_kind (wsV RX4 25 RX4 yX4_has wsX4_has) := goodIn_app (goodIn_of _ (by decide +kernel)) ggX4_kind_X4_has
set_option maxRecDepth 20000 in
theorem ggX4_kind_X4_place : GoodIn wsX4_kind wsX4_place := goodIn_r _ [11, 12, 13, 14, 15, 16] (by decide +kernel) (by decide +kernel)
set_option maxRecDepth 20000 in
theorem gX4_kind_X4_place : GoodIn wsX4_kind (wsV RX4 29 RX4 yX4_place wsX4_place) := goodIn_app (goodIn_of _ (by decide +kernel)) ggX4_kind_X4_place
theorem dX4_kind_0 : decode cX4_kind 0 = .ok (.aload_n 0, 1) := by decide +kernel
theorem dX4_kind_1 : decode cX4_kind 1 = .ok (.iload_n 1, 1) := by decide +kernel
theorem dX4_kind_2 : decode cX4_kind 2 = .ok (.invokevirtual 25, 3) := by decide +kernel
theorem dX4_kind_5 : decode cX4_kind 5 = .ok (.ifCond .eq 16, 3) := by decide +kernel
theorem dX4_kind_8 : decode cX4_kind 8 = .ok (.aload_n 0, 1) := by decide +kernel
theorem dX4_kind_9 : decode cX4_kind 9 = .ok (.getfield 11, 3) := by decide +kernel
theorem dX4_kind_12 : decode cX4_kind 12 = .ok (.aload_n 0, 1) := by decide +kernel
theorem dX4_kind_13 : decode cX4_kind 13 = .ok (.iload_n 1, 1) := by decide +kernel
theorem dX4_kind_14 : decode cX4_kind 14 = .ok (.invokevirtual 29, 3) := by decide +kernel
theorem dX4_kind_17 : decode cX4_kind 17 = .ok (.iaload, 1) := by decide +kernel
theorem dX4_kind_18 : decode cX4_kind 18 = .ok (.goto 4, 3) := by decide +kernel
theorem dX4_kind_21 : decode cX4_kind 21 = .ok (.iconst (-1), 1) := by decide +kernel
theorem dX4_kind_22 : decode cX4_kind 22 = .ok (.ireturn, 1) := by decide +kernel
set_option maxRecDepth 20000 in
theorem ggX4_time_X4_has : GoodIn wsX4_time wsX4_has := goodIn_r _ [6, 7, 13, 14, 15, 16] (by decide +kernel) (by decide +kernel)
set_option maxRecDepth 20000 in
theorem gX4_time_X4_has : GoodIn wsX4_time (wsV RX4 25 RX4 yX4_has wsX4_has) := goodIn_app (goodIn_of _ (by decide +kernel)) ggX4_time_X4_has
set_option maxRecDepth 20000 in
theorem ggX4_time_X4_place : GoodIn wsX4_time wsX4_place := goodIn_r _ [11, 12, 13, 14, 15, 16] (by decide +kernel) (by decide +kernel)
set_option maxRecDepth 20000 in
theorem gX4_time_X4_place : GoodIn wsX4_time (wsV RX4 29 RX4 yX4_place wsX4_place) := goodIn_app (goodIn_of _ (by decide +kernel)) ggX4_time_X4_place
theorem dX4_time_0 : decode cX4_time 0 = .ok (.aload_n 0, 1) := by decide +kernel
theorem dX4_time_1 : decode cX4_time 1 = .ok (.iload_n 1, 1) := by decide +kernel
theorem dX4_time_2 : decode cX4_time 2 = .ok (.invokevirtual 25, 3) := by decide +kernel
theorem dX4_time_5 : decode cX4_time 5 = .ok (.ifCond .eq 16, 3) := by decide +kernel
theorem dX4_time_8 : decode cX4_time 8 = .ok (.aload_n 0, 1) := by decide +kernel
theorem dX4_time_9 : decode cX4_time 9 = .ok (.getfield 15, 3) := by decide +kernel
theorem dX4_time_12 : decode cX4_time 12 = .ok (.aload_n 0, 1) := by decide +kernel
theorem dX4_time_13 : decode cX4_time 13 = .ok (.iload_n 1, 1) := by decide +kernel
theorem dX4_time_14 : decode cX4_time 14 = .ok (.invokevirtual 29, 3) := by decide +kernel
theorem dX4_time_17 : decode cX4_time 17 = .ok (.iaload, 1) := by decide +kernel
theorem dX4_time_18 : decode cX4_time 18 = .ok (.goto 4, 3) := by decide +kernel
theorem dX4_time_21 : decode cX4_time 21 = .ok (.iconst (-1), 1) := by decide +kernel
theorem dX4_time_22 : decode cX4_time 22 = .ok (.ireturn, 1) := by decide +kernel
theorem dX4_has_0 : decode cX4_has 0 = .ok (.iload_n 1, 1) := by decide +kernel
theorem dX4_has_1 : decode cX4_has 1 = .ok (.ifCond .lt 15, 3) := by decide +kernel
theorem dX4_has_4 : decode cX4_has 4 = .ok (.iload_n 1, 1) := by decide +kernel
theorem dX4_has_5 : decode cX4_has 5 = .ok (.aload_n 0, 1) := by decide +kernel
theorem dX4_has_6 : decode cX4_has 6 = .ok (.getfield 22, 3) := by decide +kernel
theorem dX4_has_9 : decode cX4_has 9 = .ok (.if_icmp .ge 7, 3) := by decide +kernel
theorem dX4_has_12 : decode cX4_has 12 = .ok (.iconst 1, 1) := by decide +kernel
theorem dX4_has_13 : decode cX4_has 13 = .ok (.goto 4, 3) := by decide +kernel
theorem dX4_has_16 : decode cX4_has 16 = .ok (.iconst 0, 1) := by decide +kernel
theorem dX4_has_17 : decode cX4_has 17 = .ok (.ireturn, 1) := by decide +kernel
theorem dX4_place_0 : decode cX4_place 0 = .ok (.aload_n 0, 1) := by decide +kernel
theorem dX4_place_1 : decode cX4_place 1 = .ok (.getfield 18, 3) := by decide +kernel
theorem dX4_place_4 : decode cX4_place 4 = .ok (.bipush 12, 2) := by decide +kernel
theorem dX4_place_6 : decode cX4_place 6 = .ok (.iadd, 1) := by decide +kernel
theorem dX4_place_7 : decode cX4_place 7 = .ok (.iconst 1, 1) := by decide +kernel
theorem dX4_place_8 : decode cX4_place 8 = .ok (.isub, 1) := by decide +kernel
theorem dX4_place_9 : decode cX4_place 9 = .ok (.iload_n 1, 1) := by decide +kernel
theorem dX4_place_10 : decode cX4_place 10 = .ok (.isub, 1) := by decide +kernel
theorem dX4_place_11 : decode cX4_place 11 = .ok (.bipush 12, 2) := by decide +kernel
theorem dX4_place_13 : decode cX4_place 13 = .ok (.irem, 1) := by decide +kernel
theorem dX4_place_14 : decode cX4_place 14 = .ok (.ireturn, 1) := by decide +kernel
theorem dX5_init_0 : decode cX5_init 0 = .ok (.aload_n 0, 1) := by decide +kernel
theorem dX5_init_1 : decode cX5_init 1 = .ok (.invokespecial 5, 3) := by decide +kernel
theorem dX5_init_4 : decode cX5_init 4 = .ok (.aload_n 0, 1) := by decide +kernel
theorem dX5_init_5 : decode cX5_init 5 = .ok (.iconst 0, 1) := by decide +kernel
theorem dX5_init_6 : decode cX5_init 6 = .ok (.putfield 11, 3) := by decide +kernel
theorem dX5_init_9 : decode cX5_init 9 = .ok (.aload_n 0, 1) := by decide +kernel
theorem dX5_init_10 : decode cX5_init 10 = .ok (.bipush 100, 2) := by decide +kernel
theorem dX5_init_12 : decode cX5_init 12 = .ok (.putfield 15, 3) := by decide +kernel
end
section
theorem dX5_init_15 : decode cX5_init 15 = .ok (.aload_n 0, 1) := by decide +kernel
theorem dX5_init_16 : decode cX5_init 16 = .ok (.bipush 100, 2) := by decide +kernel
theorem dX5_init_18 : decode cX5_init 18 = .ok (.putfield 18, 3) := by decide +kernel
theorem dX5_init_21 : decode cX5_init 21 = .ok (.return_, 1) := by decide +kernel
theorem dX5_adapt_0 : decode cX5_adapt 0 = .ok (.bipush 16, 2) := by decide +kernel
theorem dX5_adapt_2 : decode cX5_adapt 2 = .ok (.iload_n 1, 1) := by decide +kernel
theorem dX5_adapt_3 : decode cX5_adapt 3 = .ok (.imul, 1) := by decide +kernel
theorem dX5_adapt_4 : decode cX5_adapt 4 = .ok (.istore_n 2, 1) := by decide +kernel
theorem dX5_adapt_5 : decode cX5_adapt 5 = .ok (.iload_n 2, 1) := by decide +kernel
theorem dX5_adapt_6 : decode cX5_adapt 6 = .ok (.aload_n 0, 1) := by decide +kernel
theorem dX5_adapt_7 : decode cX5_adapt 7 = .ok (.getfield 11, 3) := by decide +kernel
theorem dX5_adapt_10 : decode cX5_adapt 10 = .ok (.if_icmp .le 24, 3) := by decide +kernel
theorem dX5_adapt_13 : decode cX5_adapt 13 = .ok (.aload_n 0, 1) := by decide +kernel
theorem dX5_adapt_14 : decode cX5_adapt 14 = .ok (.dup, 1) := by decide +kernel
theorem dX5_adapt_15 : decode cX5_adapt 15 = .ok (.getfield 11, 3) := by decide +kernel
theorem dX5_adapt_18 : decode cX5_adapt 18 = .ok (.iload_n 2, 1) := by decide +kernel
theorem dX5_adapt_19 : decode cX5_adapt 19 = .ok (.aload_n 0, 1) := by decide +kernel
theorem dX5_adapt_20 : decode cX5_adapt 20 = .ok (.getfield 11, 3) := by decide +kernel
theorem dX5_adapt_23 : decode cX5_adapt 23 = .ok (.isub, 1) := by decide +kernel
theorem dX5_adapt_24 : decode cX5_adapt 24 = .ok (.bipush 8, 2) := by decide +kernel
theorem dX5_adapt_26 : decode cX5_adapt 26 = .ok (.idiv, 1) := by decide +kernel
theorem dX5_adapt_27 : decode cX5_adapt 27 = .ok (.iadd, 1) := by decide +kernel
theorem dX5_adapt_28 : decode cX5_adapt 28 = .ok (.putfield 11, 3) := by decide +kernel
theorem dX5_adapt_31 : decode cX5_adapt 31 = .ok (.goto 21, 3) := by decide +kernel
theorem dX5_adapt_34 : decode cX5_adapt 34 = .ok (.aload_n 0, 1) := by decide +kernel
theorem dX5_adapt_35 : decode cX5_adapt 35 = .ok (.dup, 1) := by decide +kernel
theorem dX5_adapt_36 : decode cX5_adapt 36 = .ok (.getfield 11, 3) := by decide +kernel
theorem dX5_adapt_39 : decode cX5_adapt 39 = .ok (.aload_n 0, 1) := by decide +kernel
theorem dX5_adapt_40 : decode cX5_adapt 40 = .ok (.getfield 11, 3) := by decide +kernel
theorem dX5_adapt_43 : decode cX5_adapt 43 = .ok (.iload_n 2, 1) := by decide +kernel
theorem dX5_adapt_44 : decode cX5_adapt 44 = .ok (.isub, 1) := by decide +kernel
theorem dX5_adapt_45 : decode cX5_adapt 45 = .ok (.bipush 32, 2) := by decide +kernel
theorem dX5_adapt_47 : decode cX5_adapt 47 = .ok (.idiv, 1) := by decide +kernel
theorem dX5_adapt_48 : decode cX5_adapt 48 = .ok (.isub, 1) := by decide +kernel
theorem dX5_adapt_49 : decode cX5_adapt 49 = .ok (.putfield 11, 3) := by decide +kernel
theorem dX5_adapt_52 : decode cX5_adapt 52 = .ok (.return_, 1) := by decide +kernel
set_option maxRecDepth 20000 in
theorem ggX5_approach_X8_nearest : GoodIn wsX5_approach wsX8_nearest := goodIn_r _ [5] (by decide +kernel) (by decide +kernel)
set_option maxRecDepth 20000 in
theorem gX5_approach_X8_nearest_n21 : GoodIn wsX5_approach (wsX8_nearest) := ggX5_approach_X8_nearest
theorem dX5_approach_0 : decode cX5_approach 0 = .ok (.iload_n 1, 1) := by decide +kernel
theorem dX5_approach_1 : decode cX5_approach 1 = .ok (.iload_n 1, 1) := by decide +kernel
theorem dX5_approach_2 : decode cX5_approach 2 = .ok (.iload_n 2, 1) := by decide +kernel
theorem dX5_approach_3 : decode cX5_approach 3 = .ok (.isub, 1) := by decide +kernel
theorem dX5_approach_4 : decode cX5_approach 4 = .ok (.aload_n 0, 1) := by decide +kernel
theorem dX5_approach_5 : decode cX5_approach 5 = .ok (.getfield 11, 3) := by decide +kernel
theorem dX5_approach_8 : decode cX5_approach 8 = .ok (.imul, 1) := by decide +kernel
theorem dX5_approach_9 : decode cX5_approach 9 = .ok (.sipush 4080, 3) := by decide +kernel
theorem dX5_approach_12 : decode cX5_approach 12 = .ok (.idiv, 1) := by decide +kernel
theorem dX5_approach_13 : decode cX5_approach 13 = .ok (.isub, 1) := by decide +kernel
theorem dX5_approach_14 : decode cX5_approach 14 = .ok (.istore_n 3, 1) := by decide +kernel
theorem dX5_approach_15 : decode cX5_approach 15 = .ok (.aload_n 0, 1) := by decide +kernel
theorem dX5_approach_16 : decode cX5_approach 16 = .ok (.dup, 1) := by decide +kernel
theorem dX5_approach_17 : decode cX5_approach 17 = .ok (.getfield 15, 3) := by decide +kernel
theorem dX5_approach_20 : decode cX5_approach 20 = .ok (.iload_n 3, 1) := by decide +kernel
theorem dX5_approach_21 : decode cX5_approach 21 = .ok (.aload_n 0, 1) := by decide +kernel
theorem dX5_approach_22 : decode cX5_approach 22 = .ok (.getfield 15, 3) := by decide +kernel
theorem dX5_approach_25 : decode cX5_approach 25 = .ok (.isub, 1) := by decide +kernel
theorem dX5_approach_26 : decode cX5_approach 26 = .ok (.bipush (-4), 2) := by decide +kernel
theorem dX5_approach_28 : decode cX5_approach 28 = .ok (.iconst 4, 1) := by decide +kernel
theorem dX5_approach_29 : decode cX5_approach 29 = .ok (.invokestatic 21, 3) := by decide +kernel
theorem dX5_approach_32 : decode cX5_approach 32 = .ok (.iadd, 1) := by decide +kernel
theorem dX5_approach_33 : decode cX5_approach 33 = .ok (.putfield 15, 3) := by decide +kernel
theorem dX5_approach_36 : decode cX5_approach 36 = .ok (.return_, 1) := by decide +kernel
theorem dX5_beginCycle_0 : decode cX5_beginCycle 0 = .ok (.aload_n 0, 1) := by decide +kernel
theorem dX5_beginCycle_1 : decode cX5_beginCycle 1 = .ok (.iload_n 2, 1) := by decide +kernel
theorem dX5_beginCycle_2 : decode cX5_beginCycle 2 = .ok (.ifCond .eq 14, 3) := by decide +kernel
theorem dX5_beginCycle_5 : decode cX5_beginCycle 5 = .ok (.iload_n 1, 1) := by decide +kernel
theorem dX5_beginCycle_6 : decode cX5_beginCycle 6 = .ok (.aload_n 0, 1) := by decide +kernel
theorem dX5_beginCycle_7 : decode cX5_beginCycle 7 = .ok (.getfield 15, 3) := by decide +kernel
theorem dX5_beginCycle_10 : decode cX5_beginCycle 10 = .ok (.invokestatic 25, 3) := by decide +kernel
theorem dX5_beginCycle_13 : decode cX5_beginCycle 13 = .ok (.goto 4, 3) := by decide +kernel
theorem dX5_beginCycle_16 : decode cX5_beginCycle 16 = .ok (.iload_n 1, 1) := by decide +kernel
theorem dX5_beginCycle_17 : decode cX5_beginCycle 17 = .ok (.putfield 18, 3) := by decide +kernel
theorem dX5_beginCycle_20 : decode cX5_beginCycle 20 = .ok (.return_, 1) := by decide +kernel
set_option maxRecDepth 20000 in
theorem ggX6_init_J7_fill_53178 : GoodIn wsX6_init wsJ7_fill_53178 := goodIn_r _ [16] (by decide +kernel) (by decide +kernel)
set_option maxRecDepth 20000 in
theorem gX6_init_J7_fill_53178 : GoodIn wsX6_init (va_wsS RX6 26 yJ7_fill_53178 wsJ7_fill_53178) := goodIn_app (goodIn_of _ (by decide +kernel)) ggX6_init_J7_fill_53178
theorem dX6_init_0 : decode cX6_init 0 = .ok (.aload_n 0, 1) := by decide +kernel
theorem dX6_init_1 : decode cX6_init 1 = .ok (.invokespecial 3, 3) := by decide +kernel
theorem dX6_init_4 : decode cX6_init 4 = .ok (.aload_n 0, 1) := by decide +kernel
theorem dX6_init_5 : decode cX6_init 5 = .ok (.getstatic 9, 3) := by decide +kernel
theorem dX6_init_8 : decode cX6_init 8 = .ok (.invokevirtual 13, 3) := by decide +kernel
theorem dX6_init_11 : decode cX6_init 11 = .ok (.checkcast 14, 3) := by decide +kernel
theorem dX6_init_14 : decode cX6_init 14 = .ok (.putfield 18, 3) := by decide +kernel
theorem dX6_init_17 : decode cX6_init 17 = .ok (.aload_n 0, 1) := by decide +kernel
theorem dX6_init_18 : decode cX6_init 18 = .ok (.bipush 14, 2) := by decide +kernel
theorem dX6_init_20 : decode cX6_init 20 = .ok (.newarray .int, 2) := by decide +kernel
theorem dX6_init_22 : decode cX6_init 22 = .ok (.putfield 23, 3) := by decide +kernel
theorem dX6_init_25 : decode cX6_init 25 = .ok (.aload_n 0, 1) := by decide +kernel
theorem dX6_init_26 : decode cX6_init 26 = .ok (.getfield 23, 3) := by decide +kernel
theorem dX6_init_29 : decode cX6_init 29 = .ok (.iconst (-1), 1) := by decide +kernel
theorem dX6_init_30 : decode cX6_init 30 = .ok (.invokestatic 26, 3) := by decide +kernel
theorem dX6_init_33 : decode cX6_init 33 = .ok (.return_, 1) := by decide +kernel
theorem dX6_exists_0 : decode cX6_exists 0 = .ok (.iload_n 0, 1) := by decide +kernel
theorem dX6_exists_1 : decode cX6_exists 1 = .ok (.ifCond .lt 13, 3) := by decide +kernel
theorem dX6_exists_4 : decode cX6_exists 4 = .ok (.iload_n 0, 1) := by decide +kernel
theorem dX6_exists_5 : decode cX6_exists 5 = .ok (.bipush 14, 2) := by decide +kernel
theorem dX6_exists_7 : decode cX6_exists 7 = .ok (.if_icmp .ge 7, 3) := by decide +kernel
theorem dX6_exists_10 : decode cX6_exists 10 = .ok (.iconst 1, 1) := by decide +kernel
theorem dX6_exists_11 : decode cX6_exists 11 = .ok (.goto 4, 3) := by decide +kernel
theorem dX6_exists_14 : decode cX6_exists 14 = .ok (.iconst 0, 1) := by decide +kernel
theorem dX6_exists_15 : decode cX6_exists 15 = .ok (.ireturn, 1) := by decide +kernel
set_option maxRecDepth 20000 in
theorem ggX6_allows_X6_exists : GoodIn wsX6_allows wsX6_exists := goodIn_r _ [4] (by decide +kernel) (by decide +kernel)
set_option maxRecDepth 20000 in
theorem gX6_allows_X6_exists : GoodIn wsX6_allows (va_wsS RX6 32 yX6_exists wsX6_exists) := goodIn_app (goodIn_of _ (by decide +kernel)) ggX6_allows_X6_exists
theorem dX6_allows_0 : decode cX6_allows 0 = .ok (.iload_n 0, 1) := by decide +kernel
theorem dX6_allows_1 : decode cX6_allows 1 = .ok (.invokestatic 32, 3) := by decide +kernel
theorem dX6_allows_4 : decode cX6_allows 4 = .ok (.ifCond .eq 25, 3) := by decide +kernel
theorem dX6_allows_7 : decode cX6_allows 7 = .ok (.iload_n 1, 1) := by decide +kernel
theorem dX6_allows_8 : decode cX6_allows 8 = .ok (.getstatic 36, 3) := by decide +kernel
theorem dX6_allows_11 : decode cX6_allows 11 = .ok (.iload_n 0, 1) := by decide +kernel
theorem dX6_allows_12 : decode cX6_allows 12 = .ok (.iaload, 1) := by decide +kernel
theorem dX6_allows_13 : decode cX6_allows 13 = .ok (.if_icmp .lt 16, 3) := by decide +kernel
theorem dX6_allows_16 : decode cX6_allows 16 = .ok (.iload_n 1, 1) := by decide +kernel
theorem dX6_allows_17 : decode cX6_allows 17 = .ok (.getstatic 39, 3) := by decide +kernel
theorem dX6_allows_20 : decode cX6_allows 20 = .ok (.iload_n 0, 1) := by decide +kernel
theorem dX6_allows_21 : decode cX6_allows 21 = .ok (.iaload, 1) := by decide +kernel
theorem dX6_allows_22 : decode cX6_allows 22 = .ok (.if_icmp .gt 7, 3) := by decide +kernel
theorem dX6_allows_25 : decode cX6_allows 25 = .ok (.iconst 1, 1) := by decide +kernel
theorem dX6_allows_26 : decode cX6_allows 26 = .ok (.goto 4, 3) := by decide +kernel
theorem dX6_allows_29 : decode cX6_allows 29 = .ok (.iconst 0, 1) := by decide +kernel
theorem dX6_allows_30 : decode cX6_allows 30 = .ok (.ireturn, 1) := by decide +kernel
theorem dX6_mode_0 : decode cX6_mode 0 = .ok (.aload_n 0, 1) := by decide +kernel
theorem dX6_mode_1 : decode cX6_mode 1 = .ok (.getfield 18, 3) := by decide +kernel
theorem dX6_mode_4 : decode cX6_mode 4 = .ok (.iconst 0, 1) := by decide +kernel
theorem dX6_mode_5 : decode cX6_mode 5 = .ok (.iaload, 1) := by decide +kernel
theorem dX6_mode_6 : decode cX6_mode 6 = .ok (.ireturn, 1) := by decide +kernel
set_option maxRecDepth 20000 in
theorem ggX6_inForce_X6_exists : GoodIn wsX6_inForce wsX6_exists := goodIn_r _ [5] (by decide +kernel) (by decide +kernel)
set_option maxRecDepth 20000 in
theorem gX6_inForce_X6_exists : GoodIn wsX6_inForce (va_wsS RX6 32 yX6_exists wsX6_exists) := goodIn_app (goodIn_of _ (by decide +kernel)) ggX6_inForce_X6_exists
theorem dX6_inForce_0 : decode cX6_inForce 0 = .ok (.iload_n 1, 1) := by decide +kernel
theorem dX6_inForce_1 : decode cX6_inForce 1 = .ok (.invokestatic 32, 3) := by decide +kernel
theorem dX6_inForce_4 : decode cX6_inForce 4 = .ok (.ifCond .eq 12, 3) := by decide +kernel
theorem dX6_inForce_7 : decode cX6_inForce 7 = .ok (.aload_n 0, 1) := by decide +kernel
theorem dX6_inForce_8 : decode cX6_inForce 8 = .ok (.getfield 18, 3) := by decide +kernel
theorem dX6_inForce_11 : decode cX6_inForce 11 = .ok (.iload_n 1, 1) := by decide +kernel
theorem dX6_inForce_12 : decode cX6_inForce 12 = .ok (.iaload, 1) := by decide +kernel
theorem dX6_inForce_13 : decode cX6_inForce 13 = .ok (.goto 4, 3) := by decide +kernel
theorem dX6_inForce_16 : decode cX6_inForce 16 = .ok (.iconst (-1), 1) := by decide +kernel
theorem dX6_inForce_17 : decode cX6_inForce 17 = .ok (.ireturn, 1) := by decide +kernel
set_option maxRecDepth 20000 in
theorem ggX6_pending_X6_exists : GoodIn wsX6_pending wsX6_exists := goodIn_r _ [5] (by decide +kernel) (by decide +kernel)
set_option maxRecDepth 20000 in
theorem gX6_pending_X6_exists : GoodIn wsX6_pending (va_wsS RX6 32 yX6_exists wsX6_exists) := goodIn_app (goodIn_of _ (by decide +kernel)) ggX6_pending_X6_exists
theorem dX6_pending_0 : decode cX6_pending 0 = .ok (.iload_n 1, 1) := by decide +kernel
theorem dX6_pending_1 : decode cX6_pending 1 = .ok (.invokestatic 32, 3) := by decide +kernel
theorem dX6_pending_4 : decode cX6_pending 4 = .ok (.ifCond .eq 12, 3) := by decide +kernel
theorem dX6_pending_7 : decode cX6_pending 7 = .ok (.aload_n 0, 1) := by decide +kernel
theorem dX6_pending_8 : decode cX6_pending 8 = .ok (.getfield 23, 3) := by decide +kernel
theorem dX6_pending_11 : decode cX6_pending 11 = .ok (.iload_n 1, 1) := by decide +kernel
theorem dX6_pending_12 : decode cX6_pending 12 = .ok (.iaload, 1) := by decide +kernel
theorem dX6_pending_13 : decode cX6_pending 13 = .ok (.goto 4, 3) := by decide +kernel
theorem dX6_pending_16 : decode cX6_pending 16 = .ok (.iconst (-1), 1) := by decide +kernel
theorem dX6_pending_17 : decode cX6_pending 17 = .ok (.ireturn, 1) := by decide +kernel
set_option maxRecDepth 20000 in
theorem ggX6_latest_X6_pending : GoodIn wsX6_latest wsX6_pending := goodIn_r _ [5, 6, 7, 8, 4, 9, 15, 16] (by decide +kernel) (by decide +kernel)
set_option maxRecDepth 20000 in
theorem gX6_latest_X6_pending : GoodIn wsX6_latest (wsV RX6 42 RX6 yX6_pending wsX6_pending) := goodIn_app (goodIn_of _ (by decide +kernel)) ggX6_latest_X6_pending
set_option maxRecDepth 20000 in
theorem ggX6_latest_X6_inForce : GoodIn wsX6_latest wsX6_inForce := goodIn_r _ [13, 14, 7, 8, 4, 9, 15, 16] (by decide +kernel) (by decide +kernel)
set_option maxRecDepth 20000 in
theorem gX6_latest_X6_inForce : GoodIn wsX6_latest (wsV RX6 46 RX6 yX6_inForce wsX6_inForce) := goodIn_app (goodIn_of _ (by decide +kernel)) ggX6_latest_X6_inForce
theorem dX6_latest_0 : decode cX6_latest 0 = .ok (.aload_n 0, 1) := by decide +kernel
theorem dX6_latest_1 : decode cX6_latest 1 = .ok (.iload_n 1, 1) := by decide +kernel
theorem dX6_latest_2 : decode cX6_latest 2 = .ok (.invokevirtual 42, 3) := by decide +kernel
theorem dX6_latest_5 : decode cX6_latest 5 = .ok (.istore_n 2, 1) := by decide +kernel
theorem dX6_latest_6 : decode cX6_latest 6 = .ok (.iload_n 2, 1) := by decide +kernel
theorem dX6_latest_7 : decode cX6_latest 7 = .ok (.iconst (-1), 1) := by decide +kernel
theorem dX6_latest_8 : decode cX6_latest 8 = .ok (.if_icmp .ne 11, 3) := by decide +kernel
theorem dX6_latest_11 : decode cX6_latest 11 = .ok (.aload_n 0, 1) := by decide +kernel
theorem dX6_latest_12 : decode cX6_latest 12 = .ok (.iload_n 1, 1) := by decide +kernel
theorem dX6_latest_13 : decode cX6_latest 13 = .ok (.invokevirtual 46, 3) := by decide +kernel
theorem dX6_latest_16 : decode cX6_latest 16 = .ok (.goto 4, 3) := by decide +kernel
theorem dX6_latest_19 : decode cX6_latest 19 = .ok (.iload_n 2, 1) := by decide +kernel
theorem dX6_latest_20 : decode cX6_latest 20 = .ok (.ireturn, 1) := by decide +kernel
set_option maxRecDepth 20000 in
theorem ggX6_ask_X6_allows : GoodIn wsX6_ask wsX6_allows := goodIn_r _ [5, 6, 7, 4, 8] (by decide +kernel) (by decide +kernel)
set_option maxRecDepth 20000 in
theorem gX6_ask_X6_allows : GoodIn wsX6_ask (va_wsS RX6 49 yX6_allows wsX6_allows) := goodIn_app (goodIn_of _ (by decide +kernel)) ggX6_ask_X6_allows
theorem dX6_ask_0 : decode cX6_ask 0 = .ok (.iload_n 1, 1) := by decide +kernel
theorem dX6_ask_1 : decode cX6_ask 1 = .ok (.iload_n 2, 1) := by decide +kernel
theorem dX6_ask_2 : decode cX6_ask 2 = .ok (.invokestatic 49, 3) := by decide +kernel
theorem dX6_ask_5 : decode cX6_ask 5 = .ok (.ifCond .eq 10, 3) := by decide +kernel
theorem dX6_ask_8 : decode cX6_ask 8 = .ok (.aload_n 0, 1) := by decide +kernel
theorem dX6_ask_9 : decode cX6_ask 9 = .ok (.getfield 23, 3) := by decide +kernel
theorem dX6_ask_12 : decode cX6_ask 12 = .ok (.iload_n 1, 1) := by decide +kernel
theorem dX6_ask_13 : decode cX6_ask 13 = .ok (.iload_n 2, 1) := by decide +kernel
theorem dX6_ask_14 : decode cX6_ask 14 = .ok (.iastore, 1) := by decide +kernel
theorem dX6_ask_15 : decode cX6_ask 15 = .ok (.return_, 1) := by decide +kernel
set_option maxRecDepth 20000 in
theorem ggX6_dropPending_J7_fill_53178 : GoodIn wsX6_dropPending wsJ7_fill_53178 := goodIn_r _ [5] (by decide +kernel) (by decide +kernel)
set_option maxRecDepth 20000 in
theorem gX6_dropPending_J7_fill_53178 : GoodIn wsX6_dropPending (va_wsS RX6 26 yJ7_fill_53178 wsJ7_fill_53178) := goodIn_app (goodIn_of _ (by decide +kernel)) ggX6_dropPending_J7_fill_53178
theorem dX6_dropPending_0 : decode cX6_dropPending 0 = .ok (.aload_n 0, 1) := by decide +kernel
theorem dX6_dropPending_1 : decode cX6_dropPending 1 = .ok (.getfield 23, 3) := by decide +kernel
theorem dX6_dropPending_4 : decode cX6_dropPending 4 = .ok (.iconst (-1), 1) := by decide +kernel
theorem dX6_dropPending_5 : decode cX6_dropPending 5 = .ok (.invokestatic 26, 3) := by decide +kernel
theorem dX6_dropPending_8 : decode cX6_dropPending 8 = .ok (.return_, 1) := by decide +kernel
theorem dX6_putInForce_0 : decode cX6_putInForce 0 = .ok (.iconst 0, 1) := by decide +kernel
theorem dX6_putInForce_1 : decode cX6_putInForce 1 = .ok (.istore_n 1, 1) := by decide +kernel
theorem dX6_putInForce_2 : decode cX6_putInForce 2 = .ok (.iconst 0, 1) := by decide +kernel
theorem dX6_putInForce_3 : decode cX6_putInForce 3 = .ok (.istore_n 2, 1) := by decide +kernel
theorem dX6_putInForce_4 : decode cX6_putInForce 4 = .ok (.iload_n 2, 1) := by decide +kernel
theorem dX6_putInForce_5 : decode cX6_putInForce 5 = .ok (.bipush 14, 2) := by decide +kernel
theorem dX6_putInForce_7 : decode cX6_putInForce 7 = .ok (.if_icmp .ge 40, 3) := by decide +kernel
theorem dX6_putInForce_10 : decode cX6_putInForce 10 = .ok (.aload_n 0, 1) := by decide +kernel
theorem dX6_putInForce_11 : decode cX6_putInForce 11 = .ok (.getfield 23, 3) := by decide +kernel
theorem dX6_putInForce_14 : decode cX6_putInForce 14 = .ok (.iload_n 2, 1) := by decide +kernel
theorem dX6_putInForce_15 : decode cX6_putInForce 15 = .ok (.iaload, 1) := by decide +kernel
theorem dX6_putInForce_16 : decode cX6_putInForce 16 = .ok (.iconst (-1), 1) := by decide +kernel
theorem dX6_putInForce_17 : decode cX6_putInForce 17 = .ok (.if_icmp .eq 24, 3) := by decide +kernel
theorem dX6_putInForce_20 : decode cX6_putInForce 20 = .ok (.aload_n 0, 1) := by decide +kernel
theorem dX6_putInForce_21 : decode cX6_putInForce 21 = .ok (.getfield 18, 3) := by decide +kernel
theorem dX6_putInForce_24 : decode cX6_putInForce 24 = .ok (.iload_n 2, 1) := by decide +kernel
theorem dX6_putInForce_25 : decode cX6_putInForce 25 = .ok (.aload_n 0, 1) := by decide +kernel
theorem dX6_putInForce_26 : decode cX6_putInForce 26 = .ok (.getfield 23, 3) := by decide +kernel
theorem dX6_putInForce_29 : decode cX6_putInForce 29 = .ok (.iload_n 2, 1) := by decide +kernel
theorem dX6_putInForce_30 : decode cX6_putInForce 30 = .ok (.iaload, 1) := by decide +kernel
theorem dX6_putInForce_31 : decode cX6_putInForce 31 = .ok (.iastore, 1) := by decide +kernel
theorem dX6_putInForce_32 : decode cX6_putInForce 32 = .ok (.aload_n 0, 1) := by decide +kernel
theorem dX6_putInForce_33 : decode cX6_putInForce 33 = .ok (.getfield 23, 3) := by decide +kernel
theorem dX6_putInForce_36 : decode cX6_putInForce 36 = .ok (.iload_n 2, 1) := by decide +kernel
theorem dX6_putInForce_37 : decode cX6_putInForce 37 = .ok (.iconst (-1), 1) := by decide +kernel
theorem dX6_putInForce_38 : decode cX6_putInForce 38 = .ok (.iastore, 1) := by decide +kernel
theorem dX6_putInForce_39 : decode cX6_putInForce 39 = .ok (.iconst 1, 1) := by decide +kernel
theorem dX6_putInForce_40 : decode cX6_putInForce 40 = .ok (.istore_n 1, 1) := by decide +kernel
theorem dX6_putInForce_41 : decode cX6_putInForce 41 = .ok (.iinc 2 1, 3) := by decide +kernel
theorem dX6_putInForce_44 : decode cX6_putInForce 44 = .ok (.goto (-40), 3) := by decide +kernel
theorem dX6_putInForce_47 : decode cX6_putInForce 47 = .ok (.iload_n 1, 1) := by decide +kernel
theorem dX6_putInForce_48 : decode cX6_putInForce 48 = .ok (.ireturn, 1) := by decide +kernel
theorem dX7_init_0 : decode cX7_init 0 = .ok (.aload_n 0, 1) := by decide +kernel
theorem dX7_init_1 : decode cX7_init 1 = .ok (.invokespecial 1, 3) := by decide +kernel
theorem dX7_init_4 : decode cX7_init 4 = .ok (.aload_n 0, 1) := by decide +kernel
theorem dX7_init_5 : decode cX7_init 5 = .ok (.iconst 0, 1) := by decide +kernel
theorem dX7_init_6 : decode cX7_init 6 = .ok (.putfield 7, 3) := by decide +kernel
theorem dX7_init_9 : decode cX7_init 9 = .ok (.aload_n 0, 1) := by decide +kernel
theorem dX7_init_10 : decode cX7_init 10 = .ok (.iconst 0, 1) := by decide +kernel
theorem dX7_init_11 : decode cX7_init 11 = .ok (.putfield 13, 3) := by decide +kernel
theorem dX7_init_14 : decode cX7_init 14 = .ok (.return_, 1) := by decide +kernel
theorem dX7_crosses_0 : decode cX7_crosses 0 = .ok (.iload_n 1, 1) := by decide +kernel
theorem dX7_crosses_1 : decode cX7_crosses 1 = .ok (.aload_n 0, 1) := by decide +kernel
theorem dX7_crosses_2 : decode cX7_crosses 2 = .ok (.getfield 13, 3) := by decide +kernel
theorem dX7_crosses_5 : decode cX7_crosses 5 = .ok (.isub, 1) := by decide +kernel
theorem dX7_crosses_6 : decode cX7_crosses 6 = .ok (.invokestatic 16, 3) := by decide +kernel
theorem dX7_crosses_9 : decode cX7_crosses 9 = .ok (.istore_n 3, 1) := by decide +kernel
theorem dX7_crosses_10 : decode cX7_crosses 10 = .ok (.aload_n 0, 1) := by decide +kernel
theorem dX7_crosses_11 : decode cX7_crosses 11 = .ok (.aload_n 0, 1) := by decide +kernel
theorem dX7_crosses_12 : decode cX7_crosses 12 = .ok (.getfield 7, 3) := by decide +kernel
theorem dX7_crosses_15 : decode cX7_crosses 15 = .ok (.putfield 13, 3) := by decide +kernel
theorem dX7_crosses_18 : decode cX7_crosses 18 = .ok (.aload_n 0, 1) := by decide +kernel
theorem dX7_crosses_19 : decode cX7_crosses 19 = .ok (.iload_n 1, 1) := by decide +kernel
theorem dX7_crosses_20 : decode cX7_crosses 20 = .ok (.putfield 7, 3) := by decide +kernel
theorem dX7_crosses_23 : decode cX7_crosses 23 = .ok (.iload_n 3, 1) := by decide +kernel
theorem dX7_crosses_24 : decode cX7_crosses 24 = .ok (.iload_n 2, 1) := by decide +kernel
theorem dX7_crosses_25 : decode cX7_crosses 25 = .ok (.if_icmp .lt 7, 3) := by decide +kernel
theorem dX7_crosses_28 : decode cX7_crosses 28 = .ok (.iconst 1, 1) := by decide +kernel
theorem dX7_crosses_29 : decode cX7_crosses 29 = .ok (.goto 4, 3) := by decide +kernel
theorem dX7_crosses_32 : decode cX7_crosses 32 = .ok (.iconst 0, 1) := by decide +kernel
theorem dX7_crosses_33 : decode cX7_crosses 33 = .ok (.ireturn, 1) := by decide +kernel
set_option maxRecDepth 20000 in
theorem ggX8_init_X6_init : GoodIn wsX8_init wsX6_init := goodIn_r _ [40, 41, 2, 3, 42, 43, 44, 45, 46, 47, 48, 49, 50, 51, 52, 53, 54, 98, 99] (by decide +kernel) (by decide +kernel)
set_option maxRecDepth 20000 in
theorem gX8_init_X6_init : GoodIn wsX8_init (wsX6_init) := ggX8_init_X6_init
set_option maxRecDepth 20000 in
theorem ggX8_init_X0_init : GoodIn wsX8_init wsX0_init := goodIn_r _ [56, 57, 2, 3, 58, 59, 60, 61, 62, 63, 110, 111, 112, 113, 114, 115] (by decide +kernel) (by decide +kernel)
set_option maxRecDepth 20000 in
theorem gX8_init_X0_init_n18 : GoodIn wsX8_init (wsX0_init) := ggX8_init_X0_init
set_option maxRecDepth 20000 in
theorem ggX8_init_X7_init : GoodIn wsX8_init wsX7_init := goodIn_r _ [65, 66, 2, 3, 67, 68, 116, 117] (by decide +kernel) (by decide +kernel)
set_option maxRecDepth 20000 in
theorem gX8_init_X7_init_n25 : GoodIn wsX8_init (wsX7_init) := ggX8_init_X7_init
set_option maxRecDepth 20000 in
theorem ggX8_init_X2_init : GoodIn wsX8_init wsX2_init := goodIn_r _ [70, 71, 2, 3, 72, 73, 74, 118, 119, 120] (by decide +kernel) (by decide +kernel)
set_option maxRecDepth 20000 in
theorem gX8_init_X2_init_n35 : GoodIn wsX8_init (wsX2_init) := ggX8_init_X2_init
set_option maxRecDepth 20000 in
theorem ggX8_init_X5_init : GoodIn wsX8_init wsX5_init := goodIn_r _ [76, 77, 2, 3, 78, 79, 80, 121, 122, 123] (by decide +kernel) (by decide +kernel)
set_option maxRecDepth 20000 in
theorem gX8_init_X5_init_n42 : GoodIn wsX8_init (wsX5_init) := ggX8_init_X5_init
set_option maxRecDepth 20000 in
theorem ggX8_init_X1_init : GoodIn wsX8_init wsX1_init := goodIn_r _ [82, 83, 2, 3, 49, 84, 85, 124, 125] (by decide +kernel) (by decide +kernel)
set_option maxRecDepth 20000 in
theorem gX8_init_X1_init_n49 : GoodIn wsX8_init (wsX1_init) := ggX8_init_X1_init
set_option maxRecDepth 20000 in
theorem ggX8_init_X4_init : GoodIn wsX8_init wsX4_init := goodIn_r _ [87, 88, 2, 3, 49, 89, 90, 91, 92, 126, 127, 128, 129] (by decide +kernel) (by decide +kernel)
set_option maxRecDepth 20000 in
theorem gX8_init_X4_init_n56 : GoodIn wsX8_init (wsX4_init) := ggX8_init_X4_init
set_option maxRecDepth 20000 in
theorem ggX8_init_X3_init : GoodIn wsX8_init wsX3_init := goodIn_r _ [94, 95, 2, 3, 49, 96, 97, 130, 131] (by decide +kernel) (by decide +kernel)
set_option maxRecDepth 20000 in
theorem gX8_init_X3_init_n63 : GoodIn wsX8_init (wsX3_init) := ggX8_init_X3_init
theorem dX8_init_0 : decode cX8_init 0 = .ok (.aload_n 0, 1) := by decide +kernel
theorem dX8_init_1 : decode cX8_init 1 = .ok (.invokespecial 1, 3) := by decide +kernel
theorem dX8_init_4 : decode cX8_init 4 = .ok (.aload_n 0, 1) := by decide +kernel
theorem dX8_init_5 : decode cX8_init 5 = .ok (.new 7, 3) := by decide +kernel
theorem dX8_init_8 : decode cX8_init 8 = .ok (.dup, 1) := by decide +kernel
theorem dX8_init_9 : decode cX8_init 9 = .ok (.invokespecial 9, 3) := by decide +kernel
theorem dX8_init_12 : decode cX8_init 12 = .ok (.putfield 10, 3) := by decide +kernel
theorem dX8_init_15 : decode cX8_init 15 = .ok (.aload_n 0, 1) := by decide +kernel
theorem dX8_init_16 : decode cX8_init 16 = .ok (.new 16, 3) := by decide +kernel
theorem dX8_init_19 : decode cX8_init 19 = .ok (.dup, 1) := by decide +kernel
theorem dX8_init_20 : decode cX8_init 20 = .ok (.invokespecial 18, 3) := by decide +kernel
theorem dX8_init_23 : decode cX8_init 23 = .ok (.putfield 19, 3) := by decide +kernel
theorem dX8_init_26 : decode cX8_init 26 = .ok (.aload_n 0, 1) := by decide +kernel
theorem dX8_init_27 : decode cX8_init 27 = .ok (.new 23, 3) := by decide +kernel
theorem dX8_init_30 : decode cX8_init 30 = .ok (.dup, 1) := by decide +kernel
theorem dX8_init_31 : decode cX8_init 31 = .ok (.invokespecial 25, 3) := by decide +kernel
theorem dX8_init_34 : decode cX8_init 34 = .ok (.putfield 26, 3) := by decide +kernel
theorem dX8_init_37 : decode cX8_init 37 = .ok (.aload_n 0, 1) := by decide +kernel
theorem dX8_init_38 : decode cX8_init 38 = .ok (.new 23, 3) := by decide +kernel
theorem dX8_init_41 : decode cX8_init 41 = .ok (.dup, 1) := by decide +kernel
theorem dX8_init_42 : decode cX8_init 42 = .ok (.invokespecial 25, 3) := by decide +kernel
theorem dX8_init_45 : decode cX8_init 45 = .ok (.putfield 30, 3) := by decide +kernel
theorem dX8_init_48 : decode cX8_init 48 = .ok (.aload_n 0, 1) := by decide +kernel
theorem dX8_init_49 : decode cX8_init 49 = .ok (.new 33, 3) := by decide +kernel
theorem dX8_init_52 : decode cX8_init 52 = .ok (.dup, 1) := by decide +kernel
theorem dX8_init_53 : decode cX8_init 53 = .ok (.invokespecial 35, 3) := by decide +kernel
theorem dX8_init_56 : decode cX8_init 56 = .ok (.putfield 36, 3) := by decide +kernel
theorem dX8_init_59 : decode cX8_init 59 = .ok (.aload_n 0, 1) := by decide +kernel
theorem dX8_init_60 : decode cX8_init 60 = .ok (.new 40, 3) := by decide +kernel
theorem dX8_init_63 : decode cX8_init 63 = .ok (.dup, 1) := by decide +kernel
theorem dX8_init_64 : decode cX8_init 64 = .ok (.invokespecial 42, 3) := by decide +kernel
theorem dX8_init_67 : decode cX8_init 67 = .ok (.putfield 43, 3) := by decide +kernel
theorem dX8_init_70 : decode cX8_init 70 = .ok (.aload_n 0, 1) := by decide +kernel
theorem dX8_init_71 : decode cX8_init 71 = .ok (.new 47, 3) := by decide +kernel
theorem dX8_init_74 : decode cX8_init 74 = .ok (.dup, 1) := by decide +kernel
theorem dX8_init_75 : decode cX8_init 75 = .ok (.invokespecial 49, 3) := by decide +kernel
theorem dX8_init_78 : decode cX8_init 78 = .ok (.putfield 50, 3) := by decide +kernel
theorem dX8_init_81 : decode cX8_init 81 = .ok (.aload_n 0, 1) := by decide +kernel
theorem dX8_init_82 : decode cX8_init 82 = .ok (.new 54, 3) := by decide +kernel
theorem dX8_init_85 : decode cX8_init 85 = .ok (.dup, 1) := by decide +kernel
theorem dX8_init_86 : decode cX8_init 86 = .ok (.invokespecial 56, 3) := by decide +kernel
theorem dX8_init_89 : decode cX8_init 89 = .ok (.putfield 57, 3) := by decide +kernel
theorem dX8_init_92 : decode cX8_init 92 = .ok (.aload_n 0, 1) := by decide +kernel
theorem dX8_init_93 : decode cX8_init 93 = .ok (.new 61, 3) := by decide +kernel
theorem dX8_init_96 : decode cX8_init 96 = .ok (.dup, 1) := by decide +kernel
theorem dX8_init_97 : decode cX8_init 97 = .ok (.invokespecial 63, 3) := by decide +kernel
theorem dX8_init_100 : decode cX8_init 100 = .ok (.putfield 64, 3) := by decide +kernel
theorem dX8_init_103 : decode cX8_init 103 = .ok (.aload_n 0, 1) := by decide +kernel
theorem dX8_init_104 : decode cX8_init 104 = .ok (.iconst 0, 1) := by decide +kernel
theorem dX8_init_105 : decode cX8_init 105 = .ok (.putfield 68, 3) := by decide +kernel
theorem dX8_init_108 : decode cX8_init 108 = .ok (.return_, 1) := by decide +kernel
set_option maxRecDepth 20000 in
theorem ggX8_tick_X0_grow : GoodIn wsX8_tick wsX0_grow := goodIn_r _ [10, 11, 12, 13, 14, 15, 16, 17, 18, 19, 20, 21, 22, 9, 23, 204, 205, 206, 207, 208, 209] (by decide +kernel) (by decide +kernel)
set_option maxRecDepth 20000 in
theorem gX8_tick_X0_grow : GoodIn wsX8_tick (wsV RX8 72 RX0 yX0_grow wsX0_grow) := goodIn_app (goodIn_of _ (by decide +kernel)) ggX8_tick_X0_grow
set_option maxRecDepth 20000 in
theorem ggX8_tick_X8_nearest : GoodIn wsX8_tick wsX8_nearest := goodIn_r _ [27] (by decide +kernel) (by decide +kernel)
set_option maxRecDepth 20000 in
theorem gX8_tick_X8_nearest : GoodIn wsX8_tick (va_wsS RX8 75 yX8_nearest wsX8_nearest) := goodIn_app (goodIn_of _ (by decide +kernel)) ggX8_tick_X8_nearest
set_option maxRecDepth 20000 in
theorem ggX8_tick_X5_adapt : GoodIn wsX8_tick wsX5_adapt := goodIn_r _ [32, 33, 210, 211, 212] (by decide +kernel) (by decide +kernel)
set_option maxRecDepth 20000 in
theorem gX8_tick_X5_adapt : GoodIn wsX8_tick (wsV RX8 79 RX5 yX5_adapt wsX5_adapt) := goodIn_app (goodIn_of _ (by decide +kernel)) ggX8_tick_X5_adapt
set_option maxRecDepth 20000 in
theorem ggX8_tick_X6_inForce : GoodIn wsX8_tick wsX6_inForce := goodIn_r _ [38, 39, 40, 41, 37, 42, 213, 214] (by decide +kernel) (by decide +kernel)
set_option maxRecDepth 20000 in
theorem gX8_tick_X6_inForce : GoodIn wsX8_tick (wsV RX8 83 RX6 yX6_inForce wsX6_inForce) := goodIn_app (goodIn_of _ (by decide +kernel)) ggX8_tick_X6_inForce
set_option maxRecDepth 20000 in
theorem ggX8_tick_X7_crosses : GoodIn wsX8_tick wsX7_crosses := goodIn_r _ [47, 48, 49, 50, 15, 51, 52, 215, 216] (by decide +kernel) (by decide +kernel)
set_option maxRecDepth 20000 in
theorem gX8_tick_X7_crosses : GoodIn wsX8_tick (wsV RX8 87 RX7 yX7_crosses wsX7_crosses) := goodIn_app (goodIn_of _ (by decide +kernel)) ggX8_tick_X7_crosses
set_option maxRecDepth 20000 in
theorem ggX8_tick_X8_sense : GoodIn wsX8_tick wsX8_sense := goodIn_r _ [56, 57, 58, 59, 26, 60, 4, 1, 61, 62, 63, 64, 65, 37, 66, 39, 67, 68, 69, 34, 35, 36, 38, 40, 41, 42, 70, 71, 72, 73, 74, 75, 76, 77, 78, 79, 80, 81, 82, 83, 84, 85, 86, 87, 9, 88, 17, 89, 90, 91, 92, 93, 19, 94, 95, 96, 97, 98, 99, 100, 101, 2, 102, 103, 104, 105, 106, 107, 108, 109, 110, 111, 112, 113, 114, 115, 116, 117, 118, 119, 120, 121, 122, 123, 124, 125, 126, 127, 128, 25, 27, 129, 130, 131, 31, 132, 33, 133, 134, 135, 136, 137, 138, 14, 15, 16, 139, 140, 141, 142, 143, 144, 145, 146, 147, 148, 149, 150, 151, 152, 153, 154, 155, 156, 157, 158, 159, 160, 161, 162, 163, 164, 165, 166, 12, 18, 167, 168, 169, 170, 171, 21, 22, 23, 172, 173, 174, 175, 176, 177, 178, 194, 195, 196, 197, 198, 199, 200, 201, 202, 203, 204, 205, 206, 207, 208, 209, 213, 214, 217, 218, 219, 220, 221, 222, 223, 224, 225, 210, 211, 212] (by decide +kernel) (by decide +kernel)
set_option maxRecDepth 20000 in
theorem gX8_tick_X8_sense : GoodIn wsX8_tick (wsV RX8 91 RX8 yX8_sense wsX8_sense) := goodIn_app (goodIn_of _ (by decide +kernel)) ggX8_tick_X8_sense
set_option maxRecDepth 20000 in
theorem ggX8_tick_X8_stimulate : GoodIn wsX8_tick wsX8_stimulate := goodIn_r _ [182, 183, 184, 185, 26, 186, 4, 1, 144, 2, 187, 188, 61, 63, 64, 65, 37, 66, 39, 94, 95, 96, 172, 173, 174, 34, 35, 36, 38, 40, 41, 42, 148, 149, 150, 151, 74, 75, 76, 77, 78, 79, 80, 81, 82, 83, 84, 152, 153, 154, 155, 156, 157, 158, 111, 112, 159, 160, 161, 117, 162, 119, 120, 121, 163, 164, 165, 9, 166, 12, 18, 89, 167, 168, 169, 170, 171, 21, 22, 23, 19, 175, 176, 177, 178, 97, 98, 99, 100, 101, 102, 103, 104, 105, 106, 107, 108, 109, 110, 113, 91, 92, 93, 114, 115, 116, 118, 122, 123, 124, 125, 126, 127, 128, 25, 27, 129, 130, 131, 31, 132, 33, 133, 134, 135, 136, 137, 138, 14, 15, 16, 139, 189, 190, 191, 192, 193, 70, 71, 72, 73, 85, 86, 87, 88, 17, 90, 194, 195, 196, 197, 198, 199, 200, 201, 202, 203, 204, 205, 206, 207, 208, 209, 210, 211, 212, 213, 214, 217, 218, 219, 220, 221, 222, 223, 224, 225] (by decide +kernel) (by decide +kernel)
set_option maxRecDepth 20000 in
theorem gX8_tick_X8_stimulate : GoodIn wsX8_tick (wsV RX8 95 RX8 yX8_stimulate wsX8_stimulate) := goodIn_app (goodIn_of _ (by decide +kernel)) ggX8_tick_X8_stimulate
theorem dX8_tick_0 : decode cX8_tick 0 = .ok (.aload_n 0, 1) := by decide +kernel
theorem dX8_tick_1 : decode cX8_tick 1 = .ok (.getfield 19, 3) := by decide +kernel
theorem dX8_tick_4 : decode cX8_tick 4 = .ok (.invokevirtual 72, 3) := by decide +kernel
theorem dX8_tick_7 : decode cX8_tick 7 = .ok (.aload_n 0, 1) := by decide +kernel
theorem dX8_tick_8 : decode cX8_tick 8 = .ok (.getfield 43, 3) := by decide +kernel
theorem dX8_tick_11 : decode cX8_tick 11 = .ok (.iload_n 3, 1) := by decide +kernel
theorem dX8_tick_12 : decode cX8_tick 12 = .ok (.iconst 0, 1) := by decide +kernel
theorem dX8_tick_13 : decode cX8_tick 13 = .ok (.sipush 255, 3) := by decide +kernel
theorem dX8_tick_16 : decode cX8_tick 16 = .ok (.invokestatic 75, 3) := by decide +kernel
theorem dX8_tick_19 : decode cX8_tick 19 = .ok (.invokevirtual 79, 3) := by decide +kernel
theorem dX8_tick_22 : decode cX8_tick 22 = .ok (.aload_n 0, 1) := by decide +kernel
theorem dX8_tick_23 : decode cX8_tick 23 = .ok (.getfield 26, 3) := by decide +kernel
theorem dX8_tick_26 : decode cX8_tick 26 = .ok (.iload_n 1, 1) := by decide +kernel
theorem dX8_tick_27 : decode cX8_tick 27 = .ok (.sipush (-1000), 3) := by decide +kernel
theorem dX8_tick_30 : decode cX8_tick 30 = .ok (.sipush 1000, 3) := by decide +kernel
theorem dX8_tick_33 : decode cX8_tick 33 = .ok (.invokestatic 75, 3) := by decide +kernel
theorem dX8_tick_36 : decode cX8_tick 36 = .ok (.aload_n 0, 1) := by decide +kernel
theorem dX8_tick_37 : decode cX8_tick 37 = .ok (.getfield 10, 3) := by decide +kernel
theorem dX8_tick_40 : decode cX8_tick 40 = .ok (.bipush 9, 2) := by decide +kernel
theorem dX8_tick_42 : decode cX8_tick 42 = .ok (.invokevirtual 83, 3) := by decide +kernel
theorem dX8_tick_45 : decode cX8_tick 45 = .ok (.invokevirtual 87, 3) := by decide +kernel
theorem dX8_tick_48 : decode cX8_tick 48 = .ok (.istore 4, 2) := by decide +kernel
theorem dX8_tick_50 : decode cX8_tick 50 = .ok (.aload_n 0, 1) := by decide +kernel
theorem dX8_tick_51 : decode cX8_tick 51 = .ok (.getfield 30, 3) := by decide +kernel
theorem dX8_tick_54 : decode cX8_tick 54 = .ok (.iload_n 2, 1) := by decide +kernel
theorem dX8_tick_55 : decode cX8_tick 55 = .ok (.sipush (-1000), 3) := by decide +kernel
theorem dX8_tick_58 : decode cX8_tick 58 = .ok (.sipush 1000, 3) := by decide +kernel
theorem dX8_tick_61 : decode cX8_tick 61 = .ok (.invokestatic 75, 3) := by decide +kernel
theorem dX8_tick_64 : decode cX8_tick 64 = .ok (.aload_n 0, 1) := by decide +kernel
theorem dX8_tick_65 : decode cX8_tick 65 = .ok (.getfield 10, 3) := by decide +kernel
theorem dX8_tick_68 : decode cX8_tick 68 = .ok (.bipush 10, 2) := by decide +kernel
theorem dX8_tick_70 : decode cX8_tick 70 = .ok (.invokevirtual 83, 3) := by decide +kernel
theorem dX8_tick_73 : decode cX8_tick 73 = .ok (.invokevirtual 87, 3) := by decide +kernel
theorem dX8_tick_76 : decode cX8_tick 76 = .ok (.istore 5, 2) := by decide +kernel
theorem dX8_tick_78 : decode cX8_tick 78 = .ok (.aload_n 0, 1) := by decide +kernel
theorem dX8_tick_79 : decode cX8_tick 79 = .ok (.iload 4, 2) := by decide +kernel
theorem dX8_tick_81 : decode cX8_tick 81 = .ok (.iload 5, 2) := by decide +kernel
theorem dX8_tick_83 : decode cX8_tick 83 = .ok (.invokevirtual 91, 3) := by decide +kernel
theorem dX8_tick_86 : decode cX8_tick 86 = .ok (.istore 6, 2) := by decide +kernel
theorem dX8_tick_88 : decode cX8_tick 88 = .ok (.iload 6, 2) := by decide +kernel
theorem dX8_tick_90 : decode cX8_tick 90 = .ok (.iconst 2, 1) := by decide +kernel
theorem dX8_tick_91 : decode cX8_tick 91 = .ok (.iand, 1) := by decide +kernel
theorem dX8_tick_92 : decode cX8_tick 92 = .ok (.ifCond .eq 6, 3) := by decide +kernel
theorem dX8_tick_95 : decode cX8_tick 95 = .ok (.iload 6, 2) := by decide +kernel
theorem dX8_tick_97 : decode cX8_tick 97 = .ok (.ireturn, 1) := by decide +kernel
theorem dX8_tick_98 : decode cX8_tick 98 = .ok (.iload 6, 2) := by decide +kernel
theorem dX8_tick_100 : decode cX8_tick 100 = .ok (.aload_n 0, 1) := by decide +kernel
theorem dX8_tick_101 : decode cX8_tick 101 = .ok (.iload 6, 2) := by decide +kernel
theorem dX8_tick_103 : decode cX8_tick 103 = .ok (.iconst 1, 1) := by decide +kernel
theorem dX8_tick_104 : decode cX8_tick 104 = .ok (.iand, 1) := by decide +kernel
theorem dX8_tick_105 : decode cX8_tick 105 = .ok (.ifCond .eq 7, 3) := by decide +kernel
theorem dX8_tick_108 : decode cX8_tick 108 = .ok (.iconst 1, 1) := by decide +kernel
theorem dX8_tick_109 : decode cX8_tick 109 = .ok (.goto 4, 3) := by decide +kernel
theorem dX8_tick_112 : decode cX8_tick 112 = .ok (.iconst 0, 1) := by decide +kernel
theorem dX8_tick_113 : decode cX8_tick 113 = .ok (.invokevirtual 95, 3) := by decide +kernel
theorem dX8_tick_116 : decode cX8_tick 116 = .ok (.ior, 1) := by decide +kernel
theorem dX8_tick_117 : decode cX8_tick 117 = .ok (.ireturn, 1) := by decide +kernel
set_option maxRecDepth 20000 in
theorem ggX8_run_X8_tick : GoodIn wsX8_run wsX8_tick := goodIn_r _ [5, 6, 7, 8, 9, 10, 11, 12, 13, 14, 15, 16, 17, 18, 19, 20, 21, 22, 23, 24, 25, 26, 27, 28, 29, 30, 4, 31, 32, 33, 34, 35, 36, 37, 38, 39, 40, 41, 42, 43, 44, 45, 46, 47, 48, 49, 50, 51, 52, 53, 54, 55, 56, 57, 58, 59, 60, 61, 62, 63, 64, 65, 66, 67, 68, 69, 70, 71, 72, 73, 74, 75, 76, 77, 78, 79, 80, 81, 82, 83, 84, 85, 86, 87, 88, 89, 90, 91, 92, 93, 94, 95, 96, 97, 98, 99, 100, 101, 102, 103, 104, 105, 106, 107, 108, 109, 110, 111, 112, 113, 114, 115, 116, 117, 118, 119, 120, 121, 122, 123, 124, 125, 126, 127, 128, 129, 130, 131, 132, 133, 134, 135, 136, 137, 138, 139, 140, 141, 142, 143, 144, 145, 146, 147, 148, 149, 150, 151, 152, 153, 154, 155, 156, 157, 158, 159, 160, 161, 162, 163, 164, 165, 166, 167, 168, 169, 170, 171, 172, 173, 174, 175, 176, 177, 178, 179, 180, 181, 182, 183, 184, 185, 186, 187, 188, 189, 190, 191, 192, 193, 194, 195, 196, 197, 205, 206, 207, 208, 209, 210, 211, 212, 213, 214, 215, 216, 217, 218, 219, 220, 221, 222, 223, 224, 225, 226, 227, 228, 229, 230, 231, 232, 233, 234, 235, 236] (by decide +kernel) (by decide +kernel)
set_option maxRecDepth 20000 in
theorem gX8_run_X8_tick : GoodIn wsX8_run (wsV RX8 99 RX8 yX8_tick wsX8_tick) := goodIn_app (goodIn_of _ (by decide +kernel)) ggX8_run_X8_tick
set_option maxRecDepth 20000 in
theorem ggX8_run_J6_bitCount_0f7a4 : GoodIn wsX8_run wsJ6_bitCount_0f7a4 := goodIn_r _ [201, 202, 203, 204] (by decide +kernel) (by decide +kernel)
set_option maxRecDepth 20000 in
theorem gX8_run_J6_bitCount_0f7a4 : GoodIn wsX8_run (va_wsS RX8 102 yJ6_bitCount_0f7a4 wsJ6_bitCount_0f7a4) := goodIn_app (goodIn_of _ (by decide +kernel)) ggX8_run_J6_bitCount_0f7a4
theorem dX8_run_0 : decode cX8_run 0 = .ok (.iload_n 1, 1) := by decide +kernel
theorem dX8_run_1 : decode cX8_run 1 = .ok (.iconst 1, 1) := by decide +kernel
theorem dX8_run_2 : decode cX8_run 2 = .ok (.if_icmp .lt 9, 3) := by decide +kernel
theorem dX8_run_5 : decode cX8_run 5 = .ok (.iload_n 1, 1) := by decide +kernel
theorem dX8_run_6 : decode cX8_run 6 = .ok (.bipush 60, 2) := by decide +kernel
theorem dX8_run_8 : decode cX8_run 8 = .ok (.if_icmp .le 5, 3) := by decide +kernel
theorem dX8_run_11 : decode cX8_run 11 = .ok (.iconst (-1), 1) := by decide +kernel
theorem dX8_run_12 : decode cX8_run 12 = .ok (.ireturn, 1) := by decide +kernel
theorem dX8_run_13 : decode cX8_run 13 = .ok (.iconst 0, 1) := by decide +kernel
theorem dX8_run_14 : decode cX8_run 14 = .ok (.istore 5, 2) := by decide +kernel
theorem dX8_run_16 : decode cX8_run 16 = .ok (.iconst 0, 1) := by decide +kernel
end
section
theorem dX8_run_17 : decode cX8_run 17 = .ok (.istore 6, 2) := by decide +kernel
theorem dX8_run_19 : decode cX8_run 19 = .ok (.iload 6, 2) := by decide +kernel
theorem dX8_run_21 : decode cX8_run 21 = .ok (.iload_n 1, 1) := by decide +kernel
theorem dX8_run_22 : decode cX8_run 22 = .ok (.if_icmp .ge 28, 3) := by decide +kernel
theorem dX8_run_25 : decode cX8_run 25 = .ok (.iload 5, 2) := by decide +kernel
theorem dX8_run_27 : decode cX8_run 27 = .ok (.aload_n 0, 1) := by decide +kernel
theorem dX8_run_28 : decode cX8_run 28 = .ok (.iload_n 2, 1) := by decide +kernel
theorem dX8_run_29 : decode cX8_run 29 = .ok (.iload_n 3, 1) := by decide +kernel
theorem dX8_run_30 : decode cX8_run 30 = .ok (.iload 4, 2) := by decide +kernel
theorem dX8_run_32 : decode cX8_run 32 = .ok (.invokevirtual 99, 3) := by decide +kernel
theorem dX8_run_35 : decode cX8_run 35 = .ok (.bipush 12, 2) := by decide +kernel
theorem dX8_run_37 : decode cX8_run 37 = .ok (.iand, 1) := by decide +kernel
theorem dX8_run_38 : decode cX8_run 38 = .ok (.invokestatic 102, 3) := by decide +kernel
theorem dX8_run_41 : decode cX8_run 41 = .ok (.iadd, 1) := by decide +kernel
theorem dX8_run_42 : decode cX8_run 42 = .ok (.istore 5, 2) := by decide +kernel
theorem dX8_run_44 : decode cX8_run 44 = .ok (.iinc 6 1, 3) := by decide +kernel
theorem dX8_run_47 : decode cX8_run 47 = .ok (.goto (-28), 3) := by decide +kernel
theorem dX8_run_50 : decode cX8_run 50 = .ok (.iload 5, 2) := by decide +kernel
theorem dX8_run_52 : decode cX8_run 52 = .ok (.ireturn, 1) := by decide +kernel
set_option maxRecDepth 20000 in
theorem ggX8_program_X6_allows : GoodIn wsX8_program wsX6_allows := goodIn_r _ [10, 11, 12, 9, 13] (by decide +kernel) (by decide +kernel)
set_option maxRecDepth 20000 in
theorem gX8_program_X6_allows : GoodIn wsX8_program (va_wsS RX8 107 yX6_allows wsX6_allows) := goodIn_app (goodIn_of _ (by decide +kernel)) ggX8_program_X6_allows
set_option maxRecDepth 20000 in
theorem ggX8_program_X6_latest : GoodIn wsX8_program wsX6_latest := goodIn_r _ [17, 18, 19, 20, 9, 21, 22, 11, 12, 13, 23, 24, 25, 26, 27, 43, 44] (by decide +kernel) (by decide +kernel)
set_option maxRecDepth 20000 in
theorem gX8_program_X6_latest : GoodIn wsX8_program (wsV RX8 116 RX6 yX6_latest wsX6_latest) := goodIn_app (goodIn_of _ (by decide +kernel)) ggX8_program_X6_latest
set_option maxRecDepth 20000 in
theorem ggX8_program_X6_ask : GoodIn wsX8_program wsX6_ask := goodIn_r _ [31, 22, 32, 8, 9, 10, 11, 12, 13, 43, 44] (by decide +kernel) (by decide +kernel)
set_option maxRecDepth 20000 in
theorem gX8_program_X6_ask : GoodIn wsX8_program (wsV RX8 119 RX6 yX6_ask wsX6_ask) := goodIn_app (goodIn_of _ (by decide +kernel)) ggX8_program_X6_ask
theorem dX8_program_0 : decode cX8_program 0 = .ok (.iload_n 1, 1) := by decide +kernel
theorem dX8_program_1 : decode cX8_program 1 = .ok (.iload_n 2, 1) := by decide +kernel
theorem dX8_program_2 : decode cX8_program 2 = .ok (.invokestatic 107, 3) := by decide +kernel
theorem dX8_program_5 : decode cX8_program 5 = .ok (.ifCond .ne 11, 3) := by decide +kernel
theorem dX8_program_8 : decode cX8_program 8 = .ok (.new 110, 3) := by decide +kernel
theorem dX8_program_11 : decode cX8_program 11 = .ok (.dup, 1) := by decide +kernel
theorem dX8_program_12 : decode cX8_program 12 = .ok (.invokespecial 112, 3) := by decide +kernel
theorem dX8_program_15 : decode cX8_program 15 = .ok (.athrow, 1) := by decide +kernel
theorem dX8_program_16 : decode cX8_program 16 = .ok (.aload_n 0, 1) := by decide +kernel
theorem dX8_program_17 : decode cX8_program 17 = .ok (.getfield 68, 3) := by decide +kernel
theorem dX8_program_20 : decode cX8_program 20 = .ok (.iconst 3, 1) := by decide +kernel
theorem dX8_program_21 : decode cX8_program 21 = .ok (.if_icmp .ne 11, 3) := by decide +kernel
theorem dX8_program_24 : decode cX8_program 24 = .ok (.new 113, 3) := by decide +kernel
theorem dX8_program_27 : decode cX8_program 27 = .ok (.dup, 1) := by decide +kernel
theorem dX8_program_28 : decode cX8_program 28 = .ok (.invokespecial 115, 3) := by decide +kernel
theorem dX8_program_31 : decode cX8_program 31 = .ok (.athrow, 1) := by decide +kernel
theorem dX8_program_32 : decode cX8_program 32 = .ok (.aload_n 0, 1) := by decide +kernel
theorem dX8_program_33 : decode cX8_program 33 = .ok (.getfield 10, 3) := by decide +kernel
theorem dX8_program_36 : decode cX8_program 36 = .ok (.iload_n 1, 1) := by decide +kernel
theorem dX8_program_37 : decode cX8_program 37 = .ok (.invokevirtual 116, 3) := by decide +kernel
theorem dX8_program_40 : decode cX8_program 40 = .ok (.istore_n 3, 1) := by decide +kernel
theorem dX8_program_41 : decode cX8_program 41 = .ok (.aload_n 0, 1) := by decide +kernel
theorem dX8_program_42 : decode cX8_program 42 = .ok (.getfield 10, 3) := by decide +kernel
theorem dX8_program_45 : decode cX8_program 45 = .ok (.iload_n 1, 1) := by decide +kernel
theorem dX8_program_46 : decode cX8_program 46 = .ok (.iload_n 2, 1) := by decide +kernel
theorem dX8_program_47 : decode cX8_program 47 = .ok (.invokevirtual 119, 3) := by decide +kernel
theorem dX8_program_50 : decode cX8_program 50 = .ok (.iload_n 3, 1) := by decide +kernel
theorem dX8_program_51 : decode cX8_program 51 = .ok (.ireturn, 1) := by decide +kernel
set_option maxRecDepth 20000 in
theorem ggX8_receive_X3_endsWith : GoodIn wsX8_receive wsX3_endsWith := goodIn_r _ [6, 7, 8, 64, 65] (by decide +kernel) (by decide +kernel)
set_option maxRecDepth 20000 in
theorem gX8_receive_X3_endsWith : GoodIn wsX8_receive (wsV RX8 123 RX3 yX3_endsWith wsX3_endsWith) := goodIn_app (goodIn_of _ (by decide +kernel)) ggX8_receive_X3_endsWith
set_option maxRecDepth 20000 in
theorem ggX8_receive_X3_sumIsRight : GoodIn wsX8_receive wsX3_sumIsRight := goodIn_r _ [12, 8, 13, 14, 5, 15, 64, 65] (by decide +kernel) (by decide +kernel)
set_option maxRecDepth 20000 in
theorem gX8_receive_X3_sumIsRight : GoodIn wsX8_receive (wsV RX8 127 RX3 yX3_sumIsRight wsX3_sumIsRight) := goodIn_app (goodIn_of _ (by decide +kernel)) ggX8_receive_X3_sumIsRight
set_option maxRecDepth 20000 in
theorem ggX8_receive_X3_command : GoodIn wsX8_receive wsX3_command := goodIn_r _ [19, 8, 64, 65] (by decide +kernel) (by decide +kernel)
set_option maxRecDepth 20000 in
theorem gX8_receive_X3_command : GoodIn wsX8_receive (wsV RX8 131 RX3 yX3_command wsX3_command) := goodIn_app (goodIn_of _ (by decide +kernel)) ggX8_receive_X3_command
set_option maxRecDepth 20000 in
theorem ggX8_receive_X3_number : GoodIn wsX8_receive wsX3_number := goodIn_r _ [23, 8, 64, 65] (by decide +kernel) (by decide +kernel)
set_option maxRecDepth 20000 in
theorem gX8_receive_X3_number : GoodIn wsX8_receive (wsV RX8 135 RX3 yX3_number wsX3_number) := goodIn_app (goodIn_of _ (by decide +kernel)) ggX8_receive_X3_number
set_option maxRecDepth 20000 in
theorem ggX8_receive_X3_amount : GoodIn wsX8_receive wsX3_amount := goodIn_r _ [27, 8, 64, 65] (by decide +kernel) (by decide +kernel)
set_option maxRecDepth 20000 in
theorem gX8_receive_X3_amount : GoodIn wsX8_receive (wsV RX8 138 RX3 yX3_amount wsX3_amount) := goodIn_app (goodIn_of _ (by decide +kernel)) ggX8_receive_X3_amount
set_option maxRecDepth 20000 in
theorem ggX8_receive_X8_obey : GoodIn wsX8_receive wsX8_obey := goodIn_r _ [32, 33, 34, 35, 36, 37, 38, 39, 40, 41, 42, 43, 44, 45, 46, 47, 48, 49, 50, 51, 52, 53, 54, 55, 56, 57, 58, 59, 60, 61, 62, 63, 66, 67] (by decide +kernel) (by decide +kernel)
set_option maxRecDepth 20000 in
theorem gX8_receive_X8_obey : GoodIn wsX8_receive (wsV RX8 141 RX8 yX8_obey wsX8_obey) := goodIn_app (goodIn_of _ (by decide +kernel)) ggX8_receive_X8_obey
theorem dX8_receive_0 : decode cX8_receive 0 = .ok (.aload_n 0, 1) := by decide +kernel
theorem dX8_receive_1 : decode cX8_receive 1 = .ok (.getfield 64, 3) := by decide +kernel
theorem dX8_receive_4 : decode cX8_receive 4 = .ok (.iload_n 1, 1) := by decide +kernel
theorem dX8_receive_5 : decode cX8_receive 5 = .ok (.sipush 255, 3) := by decide +kernel
theorem dX8_receive_8 : decode cX8_receive 8 = .ok (.iand, 1) := by decide +kernel
theorem dX8_receive_9 : decode cX8_receive 9 = .ok (.invokevirtual 123, 3) := by decide +kernel
theorem dX8_receive_12 : decode cX8_receive 12 = .ok (.ifCond .ne 5, 3) := by decide +kernel
theorem dX8_receive_15 : decode cX8_receive 15 = .ok (.iconst (-1), 1) := by decide +kernel
theorem dX8_receive_16 : decode cX8_receive 16 = .ok (.ireturn, 1) := by decide +kernel
theorem dX8_receive_17 : decode cX8_receive 17 = .ok (.aload_n 0, 1) := by decide +kernel
theorem dX8_receive_18 : decode cX8_receive 18 = .ok (.getfield 64, 3) := by decide +kernel
theorem dX8_receive_21 : decode cX8_receive 21 = .ok (.invokevirtual 127, 3) := by decide +kernel
theorem dX8_receive_24 : decode cX8_receive 24 = .ok (.ifCond .ne 6, 3) := by decide +kernel
theorem dX8_receive_27 : decode cX8_receive 27 = .ok (.bipush (-2), 2) := by decide +kernel
theorem dX8_receive_29 : decode cX8_receive 29 = .ok (.ireturn, 1) := by decide +kernel
theorem dX8_receive_30 : decode cX8_receive 30 = .ok (.aload_n 0, 1) := by decide +kernel
theorem dX8_receive_31 : decode cX8_receive 31 = .ok (.aload_n 0, 1) := by decide +kernel
theorem dX8_receive_32 : decode cX8_receive 32 = .ok (.getfield 64, 3) := by decide +kernel
theorem dX8_receive_35 : decode cX8_receive 35 = .ok (.invokevirtual 131, 3) := by decide +kernel
theorem dX8_receive_38 : decode cX8_receive 38 = .ok (.aload_n 0, 1) := by decide +kernel
theorem dX8_receive_39 : decode cX8_receive 39 = .ok (.getfield 64, 3) := by decide +kernel
theorem dX8_receive_42 : decode cX8_receive 42 = .ok (.invokevirtual 135, 3) := by decide +kernel
theorem dX8_receive_45 : decode cX8_receive 45 = .ok (.aload_n 0, 1) := by decide +kernel
theorem dX8_receive_46 : decode cX8_receive 46 = .ok (.getfield 64, 3) := by decide +kernel
theorem dX8_receive_49 : decode cX8_receive 49 = .ok (.invokevirtual 138, 3) := by decide +kernel
theorem dX8_receive_52 : decode cX8_receive 52 = .ok (.invokevirtual 141, 3) := by decide +kernel
theorem dX8_receive_55 : decode cX8_receive 55 = .ok (.ireturn, 1) := by decide +kernel
set_option maxRecDepth 20000 in
theorem ggX8_battery_X8_statusOf : GoodIn wsX8_battery wsX8_statusOf := goodIn_r _ [9] (by decide +kernel) (by decide +kernel)
set_option maxRecDepth 20000 in
theorem gX8_battery_X8_statusOf : GoodIn wsX8_battery (va_wsS RX8 144 yX8_statusOf wsX8_statusOf) := goodIn_app (goodIn_of _ (by decide +kernel)) ggX8_battery_X8_statusOf
set_option maxRecDepth 20000 in
theorem ggX8_battery_X8_askForSafety : GoodIn wsX8_battery wsX8_askForSafety := goodIn_r _ [13, 14, 15, 16, 17, 18, 19, 20, 21, 22, 23, 24, 25, 26, 27, 28, 29, 30, 31, 32, 33, 34, 35, 36, 37, 38, 39, 40, 41, 42, 43, 44, 45, 46] (by decide +kernel) (by decide +kernel)
set_option maxRecDepth 20000 in
theorem gX8_battery_X8_askForSafety : GoodIn wsX8_battery (wsV RX8 153 RX8 yX8_askForSafety wsX8_askForSafety) := goodIn_app (goodIn_of _ (by decide +kernel)) ggX8_battery_X8_askForSafety
theorem dX8_battery_0 : decode cX8_battery 0 = .ok (.aload_n 0, 1) := by decide +kernel
theorem dX8_battery_1 : decode cX8_battery 1 = .ok (.getfield 68, 3) := by decide +kernel
theorem dX8_battery_4 : decode cX8_battery 4 = .ok (.iload_n 1, 1) := by decide +kernel
theorem dX8_battery_5 : decode cX8_battery 5 = .ok (.invokestatic 144, 3) := by decide +kernel
theorem dX8_battery_8 : decode cX8_battery 8 = .ok (.invokestatic 147, 3) := by decide +kernel
theorem dX8_battery_11 : decode cX8_battery 11 = .ok (.istore_n 2, 1) := by decide +kernel
theorem dX8_battery_12 : decode cX8_battery 12 = .ok (.iload_n 2, 1) := by decide +kernel
theorem dX8_battery_13 : decode cX8_battery 13 = .ok (.iconst 3, 1) := by decide +kernel
theorem dX8_battery_14 : decode cX8_battery 14 = .ok (.if_icmp .ne 15, 3) := by decide +kernel
theorem dX8_battery_17 : decode cX8_battery 17 = .ok (.aload_n 0, 1) := by decide +kernel
theorem dX8_battery_18 : decode cX8_battery 18 = .ok (.getfield 68, 3) := by decide +kernel
theorem dX8_battery_21 : decode cX8_battery 21 = .ok (.iconst 3, 1) := by decide +kernel
theorem dX8_battery_22 : decode cX8_battery 22 = .ok (.if_icmp .eq 7, 3) := by decide +kernel
theorem dX8_battery_25 : decode cX8_battery 25 = .ok (.aload_n 0, 1) := by decide +kernel
theorem dX8_battery_26 : decode cX8_battery 26 = .ok (.invokevirtual 153, 3) := by decide +kernel
theorem dX8_battery_29 : decode cX8_battery 29 = .ok (.aload_n 0, 1) := by decide +kernel
theorem dX8_battery_30 : decode cX8_battery 30 = .ok (.iload_n 2, 1) := by decide +kernel
theorem dX8_battery_31 : decode cX8_battery 31 = .ok (.putfield 68, 3) := by decide +kernel
theorem dX8_battery_34 : decode cX8_battery 34 = .ok (.aload_n 0, 1) := by decide +kernel
theorem dX8_battery_35 : decode cX8_battery 35 = .ok (.getfield 68, 3) := by decide +kernel
theorem dX8_battery_38 : decode cX8_battery 38 = .ok (.ireturn, 1) := by decide +kernel
set_option maxRecDepth 20000 in
theorem ggX8_parameter_X6_inForce : GoodIn wsX8_parameter wsX6_inForce := goodIn_r _ [6, 7, 8, 9, 5, 10, 21, 22] (by decide +kernel) (by decide +kernel)
set_option maxRecDepth 20000 in
theorem gX8_parameter_X6_inForce : GoodIn wsX8_parameter (wsV RX8 83 RX6 yX6_inForce wsX6_inForce) := goodIn_app (goodIn_of _ (by decide +kernel)) ggX8_parameter_X6_inForce
theorem dX8_parameter_0 : decode cX8_parameter 0 = .ok (.aload_n 0, 1) := by decide +kernel
theorem dX8_parameter_1 : decode cX8_parameter 1 = .ok (.getfield 10, 3) := by decide +kernel
theorem dX8_parameter_4 : decode cX8_parameter 4 = .ok (.iload_n 1, 1) := by decide +kernel
theorem dX8_parameter_5 : decode cX8_parameter 5 = .ok (.invokevirtual 83, 3) := by decide +kernel
theorem dX8_parameter_8 : decode cX8_parameter 8 = .ok (.ireturn, 1) := by decide +kernel
set_option maxRecDepth 20000 in
theorem ggX8_waiting_X6_pending : GoodIn wsX8_waiting wsX6_pending := goodIn_r _ [6, 7, 8, 9, 5, 10, 21, 22] (by decide +kernel) (by decide +kernel)
set_option maxRecDepth 20000 in
theorem gX8_waiting_X6_pending : GoodIn wsX8_waiting (wsV RX8 156 RX6 yX6_pending wsX6_pending) := goodIn_app (goodIn_of _ (by decide +kernel)) ggX8_waiting_X6_pending
theorem dX8_waiting_0 : decode cX8_waiting 0 = .ok (.aload_n 0, 1) := by decide +kernel
theorem dX8_waiting_1 : decode cX8_waiting 1 = .ok (.getfield 10, 3) := by decide +kernel
theorem dX8_waiting_4 : decode cX8_waiting 4 = .ok (.iload_n 1, 1) := by decide +kernel
theorem dX8_waiting_5 : decode cX8_waiting 5 = .ok (.invokevirtual 156, 3) := by decide +kernel
theorem dX8_waiting_8 : decode cX8_waiting 8 = .ok (.ireturn, 1) := by decide +kernel
theorem dX8_since_0 : decode cX8_since 0 = .ok (.iload_n 1, 1) := by decide +kernel
theorem dX8_since_1 : decode cX8_since 1 = .ok (.tableswitch 63 0 3 #[31, 39, 47, 55], 31) := by decide +kernel
theorem dX8_since_32 : decode cX8_since 32 = .ok (.aload_n 0, 1) := by decide +kernel
theorem dX8_since_33 : decode cX8_since 33 = .ok (.getfield 19, 3) := by decide +kernel
theorem dX8_since_36 : decode cX8_since 36 = .ok (.getfield 159, 3) := by decide +kernel
theorem dX8_since_39 : decode cX8_since 39 = .ok (.ireturn, 1) := by decide +kernel
theorem dX8_since_40 : decode cX8_since 40 = .ok (.aload_n 0, 1) := by decide +kernel
theorem dX8_since_41 : decode cX8_since 41 = .ok (.getfield 19, 3) := by decide +kernel
theorem dX8_since_44 : decode cX8_since 44 = .ok (.getfield 162, 3) := by decide +kernel
theorem dX8_since_47 : decode cX8_since 47 = .ok (.ireturn, 1) := by decide +kernel
theorem dX8_since_48 : decode cX8_since 48 = .ok (.aload_n 0, 1) := by decide +kernel
theorem dX8_since_49 : decode cX8_since 49 = .ok (.getfield 19, 3) := by decide +kernel
theorem dX8_since_52 : decode cX8_since 52 = .ok (.getfield 165, 3) := by decide +kernel
theorem dX8_since_55 : decode cX8_since 55 = .ok (.ireturn, 1) := by decide +kernel
theorem dX8_since_56 : decode cX8_since 56 = .ok (.aload_n 0, 1) := by decide +kernel
theorem dX8_since_57 : decode cX8_since 57 = .ok (.getfield 19, 3) := by decide +kernel
theorem dX8_since_60 : decode cX8_since 60 = .ok (.getfield 168, 3) := by decide +kernel
theorem dX8_since_63 : decode cX8_since 63 = .ok (.ireturn, 1) := by decide +kernel
theorem dX8_since_64 : decode cX8_since 64 = .ok (.iconst (-1), 1) := by decide +kernel
theorem dX8_since_65 : decode cX8_since 65 = .ok (.ireturn, 1) := by decide +kernel
theorem dX8_value_0 : decode cX8_value 0 = .ok (.iload_n 1, 1) := by decide +kernel
theorem dX8_value_1 : decode cX8_value 1 = .ok (.tableswitch 87 0 5 #[39, 47, 55, 63, 71, 79], 39) := by decide +kernel
theorem dX8_value_40 : decode cX8_value 40 = .ok (.aload_n 0, 1) := by decide +kernel
theorem dX8_value_41 : decode cX8_value 41 = .ok (.getfield 43, 3) := by decide +kernel
theorem dX8_value_44 : decode cX8_value 44 = .ok (.getfield 171, 3) := by decide +kernel
theorem dX8_value_47 : decode cX8_value 47 = .ok (.ireturn, 1) := by decide +kernel
theorem dX8_value_48 : decode cX8_value 48 = .ok (.aload_n 0, 1) := by decide +kernel
theorem dX8_value_49 : decode cX8_value 49 = .ok (.getfield 43, 3) := by decide +kernel
theorem dX8_value_52 : decode cX8_value 52 = .ok (.getfield 174, 3) := by decide +kernel
theorem dX8_value_55 : decode cX8_value 55 = .ok (.ireturn, 1) := by decide +kernel
theorem dX8_value_56 : decode cX8_value 56 = .ok (.aload_n 0, 1) := by decide +kernel
theorem dX8_value_57 : decode cX8_value 57 = .ok (.getfield 43, 3) := by decide +kernel
theorem dX8_value_60 : decode cX8_value 60 = .ok (.getfield 177, 3) := by decide +kernel
theorem dX8_value_63 : decode cX8_value 63 = .ok (.ireturn, 1) := by decide +kernel
theorem dX8_value_64 : decode cX8_value 64 = .ok (.aload_n 0, 1) := by decide +kernel
theorem dX8_value_65 : decode cX8_value 65 = .ok (.getfield 36, 3) := by decide +kernel
theorem dX8_value_68 : decode cX8_value 68 = .ok (.getfield 180, 3) := by decide +kernel
theorem dX8_value_71 : decode cX8_value 71 = .ok (.ireturn, 1) := by decide +kernel
theorem dX8_value_72 : decode cX8_value 72 = .ok (.aload_n 0, 1) := by decide +kernel
theorem dX8_value_73 : decode cX8_value 73 = .ok (.getfield 36, 3) := by decide +kernel
theorem dX8_value_76 : decode cX8_value 76 = .ok (.getfield 183, 3) := by decide +kernel
theorem dX8_value_79 : decode cX8_value 79 = .ok (.ireturn, 1) := by decide +kernel
theorem dX8_value_80 : decode cX8_value 80 = .ok (.aload_n 0, 1) := by decide +kernel
theorem dX8_value_81 : decode cX8_value 81 = .ok (.getfield 19, 3) := by decide +kernel
theorem dX8_value_84 : decode cX8_value 84 = .ok (.getfield 186, 3) := by decide +kernel
theorem dX8_value_87 : decode cX8_value 87 = .ok (.ireturn, 1) := by decide +kernel
theorem dX8_value_88 : decode cX8_value 88 = .ok (.iconst (-1), 1) := by decide +kernel
theorem dX8_value_89 : decode cX8_value 89 = .ok (.ireturn, 1) := by decide +kernel
theorem dX8_fallback_0 : decode cX8_fallback 0 = .ok (.aload_n 0, 1) := by decide +kernel
theorem dX8_fallback_1 : decode cX8_fallback 1 = .ok (.getfield 36, 3) := by decide +kernel
theorem dX8_fallback_4 : decode cX8_fallback 4 = .ok (.getfield 189, 3) := by decide +kernel
theorem dX8_fallback_7 : decode cX8_fallback 7 = .ok (.ireturn, 1) := by decide +kernel
set_option maxRecDepth 20000 in
theorem ggX8_marker_X4_kind : GoodIn wsX8_marker wsX4_kind := goodIn_r _ [6, 7, 8, 9, 10, 5, 11, 12, 13, 14, 15, 16, 17, 33, 34, 35, 36] (by decide +kernel) (by decide +kernel)
set_option maxRecDepth 20000 in
theorem gX8_marker_X4_kind : GoodIn wsX8_marker (wsV RX8 193 RX4 yX4_kind wsX4_kind) := goodIn_app (goodIn_of _ (by decide +kernel)) ggX8_marker_X4_kind
set_option maxRecDepth 20000 in
theorem ggX8_marker_X4_time : GoodIn wsX8_marker wsX4_time := goodIn_r _ [21, 22, 8, 9, 10, 5, 11, 12, 13, 14, 15, 16, 17, 33, 34, 35, 36] (by decide +kernel) (by decide +kernel)
set_option maxRecDepth 20000 in
theorem gX8_marker_X4_time : GoodIn wsX8_marker (wsV RX8 196 RX4 yX4_time wsX4_time) := goodIn_app (goodIn_of _ (by decide +kernel)) ggX8_marker_X4_time
theorem dX8_marker_0 : decode cX8_marker 0 = .ok (.iload_n 2, 1) := by decide +kernel
theorem dX8_marker_1 : decode cX8_marker 1 = .ok (.lookupswitch 45 #[(0, 27), (1, 36)], 27) := by decide +kernel
theorem dX8_marker_28 : decode cX8_marker 28 = .ok (.aload_n 0, 1) := by decide +kernel
theorem dX8_marker_29 : decode cX8_marker 29 = .ok (.getfield 57, 3) := by decide +kernel
theorem dX8_marker_32 : decode cX8_marker 32 = .ok (.iload_n 1, 1) := by decide +kernel
theorem dX8_marker_33 : decode cX8_marker 33 = .ok (.invokevirtual 193, 3) := by decide +kernel
theorem dX8_marker_36 : decode cX8_marker 36 = .ok (.ireturn, 1) := by decide +kernel
theorem dX8_marker_37 : decode cX8_marker 37 = .ok (.aload_n 0, 1) := by decide +kernel
theorem dX8_marker_38 : decode cX8_marker 38 = .ok (.getfield 57, 3) := by decide +kernel
theorem dX8_marker_41 : decode cX8_marker 41 = .ok (.iload_n 1, 1) := by decide +kernel
theorem dX8_marker_42 : decode cX8_marker 42 = .ok (.invokevirtual 196, 3) := by decide +kernel
theorem dX8_marker_45 : decode cX8_marker 45 = .ok (.ireturn, 1) := by decide +kernel
theorem dX8_marker_46 : decode cX8_marker 46 = .ok (.iconst (-1), 1) := by decide +kernel
theorem dX8_marker_47 : decode cX8_marker 47 = .ok (.ireturn, 1) := by decide +kernel
set_option maxRecDepth 20000 in
theorem ggX8_histogram_X1_inBin : GoodIn wsX8_histogram wsX1_inBin := goodIn_r _ [6, 7, 18, 19] (by decide +kernel) (by decide +kernel)
set_option maxRecDepth 20000 in
theorem gX8_histogram_X1_inBin : GoodIn wsX8_histogram (wsV RX8 198 RX1 yX1_inBin wsX1_inBin) := goodIn_app (goodIn_of _ (by decide +kernel)) ggX8_histogram_X1_inBin
theorem dX8_histogram_0 : decode cX8_histogram 0 = .ok (.aload_n 0, 1) := by decide +kernel
theorem dX8_histogram_1 : decode cX8_histogram 1 = .ok (.getfield 50, 3) := by decide +kernel
theorem dX8_histogram_4 : decode cX8_histogram 4 = .ok (.iload_n 1, 1) := by decide +kernel
theorem dX8_histogram_5 : decode cX8_histogram 5 = .ok (.invokevirtual 198, 3) := by decide +kernel
theorem dX8_histogram_8 : decode cX8_histogram 8 = .ok (.ireturn, 1) := by decide +kernel
set_option maxRecDepth 20000 in
theorem ggX8_sense_X8_vIsListenedTo : GoodIn wsX8_sense wsX8_vIsListenedTo := goodIn_r _ [5, 6, 7, 8, 9, 10, 11, 12, 13, 14, 15, 16, 17, 4, 18, 19, 20, 21, 22, 23, 24, 25, 151, 152, 153, 154, 155, 156, 157, 158, 159, 160, 161, 162, 163, 164, 165, 166, 167, 168] (by decide +kernel) (by decide +kernel)
set_option maxRecDepth 20000 in
theorem gX8_sense_X8_vIsListenedTo : GoodIn wsX8_sense (wsV RX8 201 RX8 yX8_vIsListenedTo wsX8_vIsListenedTo) := goodIn_app (goodIn_of _ (by decide +kernel)) ggX8_sense_X8_vIsListenedTo
set_option maxRecDepth 20000 in
theorem ggX8_sense_X8_ventricularEvent : GoodIn wsX8_sense wsX8_ventricularEvent := goodIn_r _ [29, 30, 7, 31, 6, 32, 33, 34, 35, 36, 37, 38, 39, 40, 41, 42, 43, 44, 45, 46, 47, 48, 49, 50, 51, 52, 10, 11, 12, 13, 14, 15, 53, 54, 4, 55, 56, 57, 58, 59, 60, 61, 62, 63, 64, 65, 66, 67, 68, 69, 70, 71, 72, 73, 74, 75, 76, 77, 78, 79, 80, 81, 82, 83, 84, 85, 86, 87, 88, 89, 90, 19, 20, 21, 22, 23, 24, 25, 91, 92, 93, 94, 95, 96, 97, 98, 99, 100, 101, 102, 103, 104, 105, 106, 151, 152, 153, 154, 155, 156, 157, 158, 159, 160, 161, 162, 163, 164, 165, 166, 169, 170, 171, 172, 167, 168, 173, 174, 175, 176, 177, 178, 179, 180] (by decide +kernel) (by decide +kernel)
set_option maxRecDepth 20000 in
theorem gX8_sense_X8_ventricularEvent : GoodIn wsX8_sense (wsV RX8 204 RX8 yX8_ventricularEvent wsX8_ventricularEvent) := goodIn_app (goodIn_of _ (by decide +kernel)) ggX8_sense_X8_ventricularEvent
set_option maxRecDepth 20000 in
theorem ggX8_sense_X8_aIsListenedTo : GoodIn wsX8_sense wsX8_aIsListenedTo := goodIn_r _ [110, 6, 7, 111, 8, 10, 11, 12, 13, 14, 15, 112, 113, 4, 114, 19, 20, 21, 22, 23, 24, 25, 53, 54, 55, 151, 152, 153, 154, 155, 156, 157, 158, 159, 160, 161, 162, 163, 164, 165, 166, 167, 168] (by decide +kernel) (by decide +kernel)
set_option maxRecDepth 20000 in
theorem gX8_sense_X8_aIsListenedTo : GoodIn wsX8_sense (wsV RX8 208 RX8 yX8_aIsListenedTo wsX8_aIsListenedTo) := goodIn_app (goodIn_of _ (by decide +kernel)) ggX8_sense_X8_aIsListenedTo
set_option maxRecDepth 20000 in
theorem ggX8_sense_X8_atrialEvent : GoodIn wsX8_sense wsX8_atrialEvent := goodIn_r _ [118, 30, 7, 31, 6, 32, 33, 34, 35, 36, 37, 38, 39, 40, 10, 11, 12, 13, 14, 15, 119, 120, 4, 121, 122, 123, 124, 125, 71, 72, 111, 19, 20, 21, 22, 23, 24, 25, 126, 127, 128, 77, 129, 79, 80, 81, 130, 131, 132, 44, 133, 134, 135, 47, 136, 137, 138, 139, 140, 141, 142, 143, 52, 144, 145, 146, 147, 148, 149, 150, 53, 54, 55, 56, 57, 58, 59, 60, 61, 62, 63, 64, 65, 66, 67, 68, 69, 70, 73, 49, 50, 51, 74, 75, 76, 78, 82, 83, 84, 85, 86, 87, 88, 89, 90, 91, 92, 93, 94, 95, 96, 97, 98, 99, 100, 101, 102, 103, 104, 105, 106, 151, 152, 153, 154, 155, 156, 157, 158, 159, 160, 161, 162, 163, 164, 165, 166, 169, 170, 171, 172, 167, 168, 173, 174, 175, 176, 177, 178, 179, 180] (by decide +kernel) (by decide +kernel)
set_option maxRecDepth 20000 in
theorem gX8_sense_X8_atrialEvent : GoodIn wsX8_sense (wsV RX8 211 RX8 yX8_atrialEvent wsX8_atrialEvent) := goodIn_app (goodIn_of _ (by decide +kernel)) ggX8_sense_X8_atrialEvent
theorem dX8_sense_0 : decode cX8_sense 0 = .ok (.iconst 0, 1) := by decide +kernel
theorem dX8_sense_1 : decode cX8_sense 1 = .ok (.istore_n 3, 1) := by decide +kernel
theorem dX8_sense_2 : decode cX8_sense 2 = .ok (.iload_n 2, 1) := by decide +kernel
theorem dX8_sense_3 : decode cX8_sense 3 = .ok (.ifCond .eq 20, 3) := by decide +kernel
theorem dX8_sense_6 : decode cX8_sense 6 = .ok (.aload_n 0, 1) := by decide +kernel
theorem dX8_sense_7 : decode cX8_sense 7 = .ok (.invokevirtual 201, 3) := by decide +kernel
theorem dX8_sense_10 : decode cX8_sense 10 = .ok (.ifCond .eq 13, 3) := by decide +kernel
theorem dX8_sense_13 : decode cX8_sense 13 = .ok (.aload_n 0, 1) := by decide +kernel
theorem dX8_sense_14 : decode cX8_sense 14 = .ok (.iconst 1, 1) := by decide +kernel
theorem dX8_sense_15 : decode cX8_sense 15 = .ok (.iconst 1, 1) := by decide +kernel
theorem dX8_sense_16 : decode cX8_sense 16 = .ok (.invokevirtual 204, 3) := by decide +kernel
theorem dX8_sense_19 : decode cX8_sense 19 = .ok (.iload_n 3, 1) := by decide +kernel
theorem dX8_sense_20 : decode cX8_sense 20 = .ok (.iconst 2, 1) := by decide +kernel
theorem dX8_sense_21 : decode cX8_sense 21 = .ok (.ior, 1) := by decide +kernel
theorem dX8_sense_22 : decode cX8_sense 22 = .ok (.istore_n 3, 1) := by decide +kernel
theorem dX8_sense_23 : decode cX8_sense 23 = .ok (.iload_n 1, 1) := by decide +kernel
theorem dX8_sense_24 : decode cX8_sense 24 = .ok (.ifCond .eq 20, 3) := by decide +kernel
theorem dX8_sense_27 : decode cX8_sense 27 = .ok (.aload_n 0, 1) := by decide +kernel
theorem dX8_sense_28 : decode cX8_sense 28 = .ok (.invokevirtual 208, 3) := by decide +kernel
theorem dX8_sense_31 : decode cX8_sense 31 = .ok (.ifCond .eq 13, 3) := by decide +kernel
theorem dX8_sense_34 : decode cX8_sense 34 = .ok (.aload_n 0, 1) := by decide +kernel
theorem dX8_sense_35 : decode cX8_sense 35 = .ok (.iconst 0, 1) := by decide +kernel
theorem dX8_sense_36 : decode cX8_sense 36 = .ok (.iconst 1, 1) := by decide +kernel
theorem dX8_sense_37 : decode cX8_sense 37 = .ok (.invokevirtual 211, 3) := by decide +kernel
theorem dX8_sense_40 : decode cX8_sense 40 = .ok (.iload_n 3, 1) := by decide +kernel
theorem dX8_sense_41 : decode cX8_sense 41 = .ok (.iconst 1, 1) := by decide +kernel
theorem dX8_sense_42 : decode cX8_sense 42 = .ok (.ior, 1) := by decide +kernel
theorem dX8_sense_43 : decode cX8_sense 43 = .ok (.istore_n 3, 1) := by decide +kernel
theorem dX8_sense_44 : decode cX8_sense 44 = .ok (.iload_n 3, 1) := by decide +kernel
theorem dX8_sense_45 : decode cX8_sense 45 = .ok (.ireturn, 1) := by decide +kernel
set_option maxRecDepth 20000 in
theorem ggX8_stimulate_X8_aIsDue : GoodIn wsX8_stimulate wsX8_aIsDue := goodIn_r _ [5, 6, 7, 8, 9, 10, 11, 12, 13, 14, 15, 16, 17, 18, 19, 20, 4, 21, 22, 23, 24, 25, 26, 27, 28, 29, 30, 31, 147, 148, 149, 150, 151, 152, 153, 154, 155, 156, 157, 158, 159, 160, 161, 162, 163, 164, 165, 166, 167] (by decide +kernel) (by decide +kernel)
set_option maxRecDepth 20000 in
theorem gX8_stimulate_X8_aIsDue : GoodIn wsX8_stimulate (wsV RX8 214 RX8 yX8_aIsDue wsX8_aIsDue) := goodIn_app (goodIn_of _ (by decide +kernel)) ggX8_stimulate_X8_aIsDue
set_option maxRecDepth 20000 in
theorem ggX8_stimulate_X8_atrialEvent : GoodIn wsX8_stimulate wsX8_atrialEvent := goodIn_r _ [35, 36, 7, 37, 6, 38, 39, 40, 41, 42, 43, 44, 45, 46, 13, 14, 15, 16, 17, 18, 47, 48, 4, 49, 50, 51, 52, 53, 54, 55, 8, 25, 26, 27, 28, 29, 30, 31, 56, 57, 58, 59, 60, 61, 62, 63, 64, 65, 66, 67, 68, 69, 70, 71, 72, 73, 74, 75, 76, 77, 78, 79, 80, 22, 23, 24, 81, 82, 83, 84, 19, 20, 21, 85, 86, 87, 88, 89, 9, 90, 91, 92, 93, 94, 95, 96, 97, 98, 99, 100, 101, 102, 103, 104, 105, 106, 107, 108, 109, 110, 111, 112, 113, 114, 115, 116, 117, 118, 119, 120, 121, 122, 123, 124, 125, 126, 127, 128, 129, 130, 131, 147, 148, 149, 150, 151, 152, 153, 154, 155, 156, 157, 158, 159, 160, 161, 162, 168, 169, 170, 171, 166, 167, 172, 173, 174, 175, 176, 163, 164, 165] (by decide +kernel) (by decide +kernel)
set_option maxRecDepth 20000 in
theorem gX8_stimulate_X8_atrialEvent : GoodIn wsX8_stimulate (wsV RX8 211 RX8 yX8_atrialEvent wsX8_atrialEvent) := goodIn_app (goodIn_of _ (by decide +kernel)) ggX8_stimulate_X8_atrialEvent
set_option maxRecDepth 20000 in
theorem ggX8_stimulate_X8_vIsDue : GoodIn wsX8_stimulate wsX8_vIsDue := goodIn_r _ [135, 6, 7, 12, 9, 10, 136, 13, 14, 15, 16, 17, 18, 19, 20, 4, 21, 76, 77, 78, 67, 79, 80, 25, 26, 27, 28, 29, 30, 31, 147, 148, 149, 150, 151, 152, 153, 154, 155, 156, 157, 158, 159, 160, 161, 162, 163, 164, 165, 166, 167] (by decide +kernel) (by decide +kernel)
set_option maxRecDepth 20000 in
theorem gX8_stimulate_X8_vIsDue : GoodIn wsX8_stimulate (wsV RX8 217 RX8 yX8_vIsDue wsX8_vIsDue) := goodIn_app (goodIn_of _ (by decide +kernel)) ggX8_stimulate_X8_vIsDue
set_option maxRecDepth 20000 in
theorem ggX8_stimulate_X8_ventricularEvent : GoodIn wsX8_stimulate wsX8_ventricularEvent := goodIn_r _ [140, 36, 7, 37, 6, 38, 39, 40, 41, 42, 43, 44, 45, 46, 141, 142, 143, 67, 144, 145, 71, 146, 100, 101, 102, 80, 13, 14, 15, 16, 17, 18, 19, 20, 4, 21, 85, 86, 87, 88, 89, 9, 90, 91, 92, 93, 94, 95, 96, 97, 98, 54, 55, 99, 103, 104, 105, 59, 106, 61, 62, 63, 107, 108, 109, 110, 111, 112, 113, 114, 115, 25, 26, 27, 28, 29, 30, 31, 116, 117, 118, 119, 120, 121, 122, 123, 124, 125, 126, 127, 128, 129, 130, 131, 147, 148, 149, 150, 151, 152, 153, 154, 155, 156, 157, 158, 159, 160, 161, 162, 168, 169, 170, 171, 166, 167, 172, 173, 174, 175, 176, 163, 164, 165] (by decide +kernel) (by decide +kernel)
set_option maxRecDepth 20000 in
theorem gX8_stimulate_X8_ventricularEvent : GoodIn wsX8_stimulate (wsV RX8 204 RX8 yX8_ventricularEvent wsX8_ventricularEvent) := goodIn_app (goodIn_of _ (by decide +kernel)) ggX8_stimulate_X8_ventricularEvent
theorem dX8_stimulate_0 : decode cX8_stimulate 0 = .ok (.iconst 0, 1) := by decide +kernel
theorem dX8_stimulate_1 : decode cX8_stimulate 1 = .ok (.istore_n 2, 1) := by decide +kernel
theorem dX8_stimulate_2 : decode cX8_stimulate 2 = .ok (.iload_n 1, 1) := by decide +kernel
theorem dX8_stimulate_3 : decode cX8_stimulate 3 = .ok (.ifCond .ne 20, 3) := by decide +kernel
theorem dX8_stimulate_6 : decode cX8_stimulate 6 = .ok (.aload_n 0, 1) := by decide +kernel
theorem dX8_stimulate_7 : decode cX8_stimulate 7 = .ok (.invokevirtual 214, 3) := by decide +kernel
theorem dX8_stimulate_10 : decode cX8_stimulate 10 = .ok (.ifCond .eq 13, 3) := by decide +kernel
theorem dX8_stimulate_13 : decode cX8_stimulate 13 = .ok (.aload_n 0, 1) := by decide +kernel
theorem dX8_stimulate_14 : decode cX8_stimulate 14 = .ok (.iconst 2, 1) := by decide +kernel
theorem dX8_stimulate_15 : decode cX8_stimulate 15 = .ok (.iconst 0, 1) := by decide +kernel
theorem dX8_stimulate_16 : decode cX8_stimulate 16 = .ok (.invokevirtual 211, 3) := by decide +kernel
theorem dX8_stimulate_19 : decode cX8_stimulate 19 = .ok (.iload_n 2, 1) := by decide +kernel
theorem dX8_stimulate_20 : decode cX8_stimulate 20 = .ok (.iconst 4, 1) := by decide +kernel
theorem dX8_stimulate_21 : decode cX8_stimulate 21 = .ok (.ior, 1) := by decide +kernel
theorem dX8_stimulate_22 : decode cX8_stimulate 22 = .ok (.istore_n 2, 1) := by decide +kernel
theorem dX8_stimulate_23 : decode cX8_stimulate 23 = .ok (.aload_n 0, 1) := by decide +kernel
theorem dX8_stimulate_24 : decode cX8_stimulate 24 = .ok (.invokevirtual 217, 3) := by decide +kernel
theorem dX8_stimulate_27 : decode cX8_stimulate 27 = .ok (.ifCond .eq 14, 3) := by decide +kernel
theorem dX8_stimulate_30 : decode cX8_stimulate 30 = .ok (.aload_n 0, 1) := by decide +kernel
theorem dX8_stimulate_31 : decode cX8_stimulate 31 = .ok (.iconst 3, 1) := by decide +kernel
theorem dX8_stimulate_32 : decode cX8_stimulate 32 = .ok (.iconst 0, 1) := by decide +kernel
theorem dX8_stimulate_33 : decode cX8_stimulate 33 = .ok (.invokevirtual 204, 3) := by decide +kernel
theorem dX8_stimulate_36 : decode cX8_stimulate 36 = .ok (.iload_n 2, 1) := by decide +kernel
theorem dX8_stimulate_37 : decode cX8_stimulate 37 = .ok (.bipush 8, 2) := by decide +kernel
theorem dX8_stimulate_39 : decode cX8_stimulate 39 = .ok (.ior, 1) := by decide +kernel
theorem dX8_stimulate_40 : decode cX8_stimulate 40 = .ok (.istore_n 2, 1) := by decide +kernel
theorem dX8_stimulate_41 : decode cX8_stimulate 41 = .ok (.iload_n 2, 1) := by decide +kernel
theorem dX8_stimulate_42 : decode cX8_stimulate 42 = .ok (.ireturn, 1) := by decide +kernel
set_option maxRecDepth 20000 in
theorem ggX8_vIsListenedTo_X6_mode : GoodIn wsX8_vIsListenedTo wsX6_mode := goodIn_r _ [9, 10, 38, 39] (by decide +kernel) (by decide +kernel)
set_option maxRecDepth 20000 in
theorem gX8_vIsListenedTo_X6_mode : GoodIn wsX8_vIsListenedTo (wsV RX8 220 RX6 yX6_mode wsX6_mode) := goodIn_app (goodIn_of _ (by decide +kernel)) ggX8_vIsListenedTo_X6_mode
set_option maxRecDepth 20000 in
theorem ggX8_vIsListenedTo_X8_sensesV : GoodIn wsX8_vIsListenedTo wsX8_sensesV := goodIn_r _ [14] (by decide +kernel) (by decide +kernel)
set_option maxRecDepth 20000 in
theorem gX8_vIsListenedTo_X8_sensesV : GoodIn wsX8_vIsListenedTo (va_wsS RX8 223 yX8_sensesV wsX8_sensesV) := goodIn_app (goodIn_of _ (by decide +kernel)) ggX8_vIsListenedTo_X8_sensesV
set_option maxRecDepth 20000 in
theorem ggX8_vIsListenedTo_X6_inForce : GoodIn wsX8_vIsListenedTo wsX6_inForce := goodIn_r _ [18, 10, 19, 20, 8, 21, 38, 39] (by decide +kernel) (by decide +kernel)
set_option maxRecDepth 20000 in
theorem gX8_vIsListenedTo_X6_inForce : GoodIn wsX8_vIsListenedTo (wsV RX8 83 RX6 yX6_inForce wsX6_inForce) := goodIn_app (goodIn_of _ (by decide +kernel)) ggX8_vIsListenedTo_X6_inForce
theorem dX8_vIsListenedTo_0 : decode cX8_vIsListenedTo 0 = .ok (.aload_n 0, 1) := by decide +kernel
theorem dX8_vIsListenedTo_1 : decode cX8_vIsListenedTo 1 = .ok (.getfield 10, 3) := by decide +kernel
theorem dX8_vIsListenedTo_4 : decode cX8_vIsListenedTo 4 = .ok (.invokevirtual 220, 3) := by decide +kernel
theorem dX8_vIsListenedTo_7 : decode cX8_vIsListenedTo 7 = .ok (.invokestatic 223, 3) := by decide +kernel
theorem dX8_vIsListenedTo_10 : decode cX8_vIsListenedTo 10 = .ok (.ifCond .eq 44, 3) := by decide +kernel
theorem dX8_vIsListenedTo_13 : decode cX8_vIsListenedTo 13 = .ok (.aload_n 0, 1) := by decide +kernel
theorem dX8_vIsListenedTo_14 : decode cX8_vIsListenedTo 14 = .ok (.getfield 19, 3) := by decide +kernel
theorem dX8_vIsListenedTo_17 : decode cX8_vIsListenedTo 17 = .ok (.getfield 162, 3) := by decide +kernel
theorem dX8_vIsListenedTo_20 : decode cX8_vIsListenedTo 20 = .ok (.aload_n 0, 1) := by decide +kernel
theorem dX8_vIsListenedTo_21 : decode cX8_vIsListenedTo 21 = .ok (.getfield 10, 3) := by decide +kernel
theorem dX8_vIsListenedTo_24 : decode cX8_vIsListenedTo 24 = .ok (.iconst 5, 1) := by decide +kernel
theorem dX8_vIsListenedTo_25 : decode cX8_vIsListenedTo 25 = .ok (.invokevirtual 83, 3) := by decide +kernel
theorem dX8_vIsListenedTo_28 : decode cX8_vIsListenedTo 28 = .ok (.if_icmp .lt 26, 3) := by decide +kernel
theorem dX8_vIsListenedTo_31 : decode cX8_vIsListenedTo 31 = .ok (.aload_n 0, 1) := by decide +kernel
theorem dX8_vIsListenedTo_32 : decode cX8_vIsListenedTo 32 = .ok (.getfield 19, 3) := by decide +kernel
theorem dX8_vIsListenedTo_35 : decode cX8_vIsListenedTo 35 = .ok (.getfield 165, 3) := by decide +kernel
theorem dX8_vIsListenedTo_38 : decode cX8_vIsListenedTo 38 = .ok (.aload_n 0, 1) := by decide +kernel
theorem dX8_vIsListenedTo_39 : decode cX8_vIsListenedTo 39 = .ok (.getfield 10, 3) := by decide +kernel
theorem dX8_vIsListenedTo_42 : decode cX8_vIsListenedTo 42 = .ok (.bipush 7, 2) := by decide +kernel
theorem dX8_vIsListenedTo_44 : decode cX8_vIsListenedTo 44 = .ok (.invokevirtual 83, 3) := by decide +kernel
theorem dX8_vIsListenedTo_47 : decode cX8_vIsListenedTo 47 = .ok (.if_icmp .lt 7, 3) := by decide +kernel
theorem dX8_vIsListenedTo_50 : decode cX8_vIsListenedTo 50 = .ok (.iconst 1, 1) := by decide +kernel
theorem dX8_vIsListenedTo_51 : decode cX8_vIsListenedTo 51 = .ok (.goto 4, 3) := by decide +kernel
theorem dX8_vIsListenedTo_54 : decode cX8_vIsListenedTo 54 = .ok (.iconst 0, 1) := by decide +kernel
theorem dX8_vIsListenedTo_55 : decode cX8_vIsListenedTo 55 = .ok (.ireturn, 1) := by decide +kernel
set_option maxRecDepth 20000 in
theorem ggX8_aIsListenedTo_X6_mode : GoodIn wsX8_aIsListenedTo wsX6_mode := goodIn_r _ [9, 10, 41, 42] (by decide +kernel) (by decide +kernel)
set_option maxRecDepth 20000 in
theorem gX8_aIsListenedTo_X6_mode : GoodIn wsX8_aIsListenedTo (wsV RX8 220 RX6 yX6_mode wsX6_mode) := goodIn_app (goodIn_of _ (by decide +kernel)) ggX8_aIsListenedTo_X6_mode
set_option maxRecDepth 20000 in
theorem ggX8_aIsListenedTo_X8_sensesA : GoodIn wsX8_aIsListenedTo wsX8_sensesA := goodIn_r _ [14] (by decide +kernel) (by decide +kernel)
set_option maxRecDepth 20000 in
theorem gX8_aIsListenedTo_X8_sensesA : GoodIn wsX8_aIsListenedTo (va_wsS RX8 226 yX8_sensesA wsX8_sensesA) := goodIn_app (goodIn_of _ (by decide +kernel)) ggX8_aIsListenedTo_X8_sensesA
set_option maxRecDepth 20000 in
theorem ggX8_aIsListenedTo_X6_inForce : GoodIn wsX8_aIsListenedTo wsX6_inForce := goodIn_r _ [18, 10, 19, 20, 8, 21, 41, 42] (by decide +kernel) (by decide +kernel)
set_option maxRecDepth 20000 in
theorem gX8_aIsListenedTo_X6_inForce : GoodIn wsX8_aIsListenedTo (wsV RX8 83 RX6 yX6_inForce wsX6_inForce) := goodIn_app (goodIn_of _ (by decide +kernel)) ggX8_aIsListenedTo_X6_inForce
set_option maxRecDepth 20000 in
theorem ggX8_aIsListenedTo_X8_isLedByA : GoodIn wsX8_aIsListenedTo wsX8_isLedByA := goodIn_r _ [24] (by decide +kernel) (by decide +kernel)
set_option maxRecDepth 20000 in
theorem gX8_aIsListenedTo_X8_isLedByA : GoodIn wsX8_aIsListenedTo (va_wsS RX8 229 yX8_isLedByA wsX8_isLedByA) := goodIn_app (goodIn_of _ (by decide +kernel)) ggX8_aIsListenedTo_X8_isLedByA
theorem dX8_aIsListenedTo_0 : decode cX8_aIsListenedTo 0 = .ok (.aload_n 0, 1) := by decide +kernel
theorem dX8_aIsListenedTo_1 : decode cX8_aIsListenedTo 1 = .ok (.getfield 10, 3) := by decide +kernel
theorem dX8_aIsListenedTo_4 : decode cX8_aIsListenedTo 4 = .ok (.invokevirtual 220, 3) := by decide +kernel
theorem dX8_aIsListenedTo_7 : decode cX8_aIsListenedTo 7 = .ok (.invokestatic 226, 3) := by decide +kernel
theorem dX8_aIsListenedTo_10 : decode cX8_aIsListenedTo 10 = .ok (.ifCond .eq 57, 3) := by decide +kernel
theorem dX8_aIsListenedTo_13 : decode cX8_aIsListenedTo 13 = .ok (.aload_n 0, 1) := by decide +kernel
theorem dX8_aIsListenedTo_14 : decode cX8_aIsListenedTo 14 = .ok (.getfield 19, 3) := by decide +kernel
theorem dX8_aIsListenedTo_17 : decode cX8_aIsListenedTo 17 = .ok (.getfield 159, 3) := by decide +kernel
theorem dX8_aIsListenedTo_20 : decode cX8_aIsListenedTo 20 = .ok (.aload_n 0, 1) := by decide +kernel
theorem dX8_aIsListenedTo_21 : decode cX8_aIsListenedTo 21 = .ok (.getfield 10, 3) := by decide +kernel
theorem dX8_aIsListenedTo_24 : decode cX8_aIsListenedTo 24 = .ok (.bipush 6, 2) := by decide +kernel
theorem dX8_aIsListenedTo_26 : decode cX8_aIsListenedTo 26 = .ok (.invokevirtual 83, 3) := by decide +kernel
theorem dX8_aIsListenedTo_29 : decode cX8_aIsListenedTo 29 = .ok (.if_icmp .lt 38, 3) := by decide +kernel
theorem dX8_aIsListenedTo_32 : decode cX8_aIsListenedTo 32 = .ok (.aload_n 0, 1) := by decide +kernel
theorem dX8_aIsListenedTo_33 : decode cX8_aIsListenedTo 33 = .ok (.getfield 10, 3) := by decide +kernel
theorem dX8_aIsListenedTo_36 : decode cX8_aIsListenedTo 36 = .ok (.invokevirtual 220, 3) := by decide +kernel
theorem dX8_aIsListenedTo_39 : decode cX8_aIsListenedTo 39 = .ok (.invokestatic 229, 3) := by decide +kernel
theorem dX8_aIsListenedTo_42 : decode cX8_aIsListenedTo 42 = .ok (.ifCond .ne 21, 3) := by decide +kernel
theorem dX8_aIsListenedTo_45 : decode cX8_aIsListenedTo 45 = .ok (.aload_n 0, 1) := by decide +kernel
theorem dX8_aIsListenedTo_46 : decode cX8_aIsListenedTo 46 = .ok (.getfield 19, 3) := by decide +kernel
theorem dX8_aIsListenedTo_49 : decode cX8_aIsListenedTo 49 = .ok (.getfield 162, 3) := by decide +kernel
theorem dX8_aIsListenedTo_52 : decode cX8_aIsListenedTo 52 = .ok (.aload_n 0, 1) := by decide +kernel
theorem dX8_aIsListenedTo_53 : decode cX8_aIsListenedTo 53 = .ok (.getfield 10, 3) := by decide +kernel
theorem dX8_aIsListenedTo_56 : decode cX8_aIsListenedTo 56 = .ok (.iconst 4, 1) := by decide +kernel
theorem dX8_aIsListenedTo_57 : decode cX8_aIsListenedTo 57 = .ok (.invokevirtual 83, 3) := by decide +kernel
theorem dX8_aIsListenedTo_60 : decode cX8_aIsListenedTo 60 = .ok (.if_icmp .lt 7, 3) := by decide +kernel
theorem dX8_aIsListenedTo_63 : decode cX8_aIsListenedTo 63 = .ok (.iconst 1, 1) := by decide +kernel
theorem dX8_aIsListenedTo_64 : decode cX8_aIsListenedTo 64 = .ok (.goto 4, 3) := by decide +kernel
theorem dX8_aIsListenedTo_67 : decode cX8_aIsListenedTo 67 = .ok (.iconst 0, 1) := by decide +kernel
theorem dX8_aIsListenedTo_68 : decode cX8_aIsListenedTo 68 = .ok (.ireturn, 1) := by decide +kernel
set_option maxRecDepth 20000 in
theorem ggX8_aIsDue_X6_mode : GoodIn wsX8_aIsDue wsX6_mode := goodIn_r _ [12, 13, 47, 48] (by decide +kernel) (by decide +kernel)
set_option maxRecDepth 20000 in
theorem gX8_aIsDue_X6_mode : GoodIn wsX8_aIsDue (wsV RX8 220 RX6 yX6_mode wsX6_mode) := goodIn_app (goodIn_of _ (by decide +kernel)) ggX8_aIsDue_X6_mode
set_option maxRecDepth 20000 in
theorem ggX8_aIsDue_X8_isLedByA : GoodIn wsX8_aIsDue wsX8_isLedByA := goodIn_r _ [17] (by decide +kernel) (by decide +kernel)
set_option maxRecDepth 20000 in
theorem gX8_aIsDue_X8_isLedByA : GoodIn wsX8_aIsDue (va_wsS RX8 229 yX8_isLedByA wsX8_isLedByA) := goodIn_app (goodIn_of _ (by decide +kernel)) ggX8_aIsDue_X8_isLedByA
set_option maxRecDepth 20000 in
theorem ggX8_aIsDue_X8_pacesBoth : GoodIn wsX8_aIsDue wsX8_pacesBoth := goodIn_r _ [20] (by decide +kernel) (by decide +kernel)
set_option maxRecDepth 20000 in
theorem gX8_aIsDue_X8_pacesBoth : GoodIn wsX8_aIsDue (va_wsS RX8 232 yX8_pacesBoth wsX8_pacesBoth) := goodIn_app (goodIn_of _ (by decide +kernel)) ggX8_aIsDue_X8_pacesBoth
set_option maxRecDepth 20000 in
theorem ggX8_aIsDue_X6_inForce : GoodIn wsX8_aIsDue wsX6_inForce := goodIn_r _ [24, 13, 25, 26, 11, 27, 47, 48] (by decide +kernel) (by decide +kernel)
set_option maxRecDepth 20000 in
theorem gX8_aIsDue_X6_inForce : GoodIn wsX8_aIsDue (wsV RX8 83 RX6 yX6_inForce wsX6_inForce) := goodIn_app (goodIn_of _ (by decide +kernel)) ggX8_aIsDue_X6_inForce
theorem dX8_aIsDue_0 : decode cX8_aIsDue 0 = .ok (.aload_n 0, 1) := by decide +kernel
theorem dX8_aIsDue_1 : decode cX8_aIsDue 1 = .ok (.getfield 10, 3) := by decide +kernel
theorem dX8_aIsDue_4 : decode cX8_aIsDue 4 = .ok (.invokevirtual 220, 3) := by decide +kernel
theorem dX8_aIsDue_7 : decode cX8_aIsDue 7 = .ok (.invokestatic 229, 3) := by decide +kernel
theorem dX8_aIsDue_10 : decode cX8_aIsDue 10 = .ok (.ifCond .eq 26, 3) := by decide +kernel
theorem dX8_aIsDue_13 : decode cX8_aIsDue 13 = .ok (.aload_n 0, 1) := by decide +kernel
theorem dX8_aIsDue_14 : decode cX8_aIsDue 14 = .ok (.getfield 19, 3) := by decide +kernel
theorem dX8_aIsDue_17 : decode cX8_aIsDue 17 = .ok (.getfield 159, 3) := by decide +kernel
theorem dX8_aIsDue_20 : decode cX8_aIsDue 20 = .ok (.aload_n 0, 1) := by decide +kernel
theorem dX8_aIsDue_21 : decode cX8_aIsDue 21 = .ok (.getfield 43, 3) := by decide +kernel
theorem dX8_aIsDue_24 : decode cX8_aIsDue 24 = .ok (.getfield 171, 3) := by decide +kernel
theorem dX8_aIsDue_27 : decode cX8_aIsDue 27 = .ok (.if_icmp .lt 7, 3) := by decide +kernel
theorem dX8_aIsDue_30 : decode cX8_aIsDue 30 = .ok (.iconst 1, 1) := by decide +kernel
theorem dX8_aIsDue_31 : decode cX8_aIsDue 31 = .ok (.goto 4, 3) := by decide +kernel
theorem dX8_aIsDue_34 : decode cX8_aIsDue 34 = .ok (.iconst 0, 1) := by decide +kernel
theorem dX8_aIsDue_35 : decode cX8_aIsDue 35 = .ok (.ireturn, 1) := by decide +kernel
theorem dX8_aIsDue_36 : decode cX8_aIsDue 36 = .ok (.aload_n 0, 1) := by decide +kernel
theorem dX8_aIsDue_37 : decode cX8_aIsDue 37 = .ok (.getfield 10, 3) := by decide +kernel
theorem dX8_aIsDue_40 : decode cX8_aIsDue 40 = .ok (.invokevirtual 220, 3) := by decide +kernel
theorem dX8_aIsDue_43 : decode cX8_aIsDue 43 = .ok (.invokestatic 232, 3) := by decide +kernel
theorem dX8_aIsDue_46 : decode cX8_aIsDue 46 = .ok (.ifCond .eq 43, 3) := by decide +kernel
end
section
theorem dX8_aIsDue_49 : decode cX8_aIsDue 49 = .ok (.aload_n 0, 1) := by decide +kernel
theorem dX8_aIsDue_50 : decode cX8_aIsDue 50 = .ok (.getfield 19, 3) := by decide +kernel
theorem dX8_aIsDue_53 : decode cX8_aIsDue 53 = .ok (.getfield 235, 3) := by decide +kernel
theorem dX8_aIsDue_56 : decode cX8_aIsDue 56 = .ok (.ifCond .ne 33, 3) := by decide +kernel
theorem dX8_aIsDue_59 : decode cX8_aIsDue 59 = .ok (.aload_n 0, 1) := by decide +kernel
theorem dX8_aIsDue_60 : decode cX8_aIsDue 60 = .ok (.getfield 19, 3) := by decide +kernel
theorem dX8_aIsDue_63 : decode cX8_aIsDue 63 = .ok (.getfield 162, 3) := by decide +kernel
theorem dX8_aIsDue_66 : decode cX8_aIsDue 66 = .ok (.aload_n 0, 1) := by decide +kernel
theorem dX8_aIsDue_67 : decode cX8_aIsDue 67 = .ok (.getfield 43, 3) := by decide +kernel
theorem dX8_aIsDue_70 : decode cX8_aIsDue 70 = .ok (.getfield 171, 3) := by decide +kernel
theorem dX8_aIsDue_73 : decode cX8_aIsDue 73 = .ok (.aload_n 0, 1) := by decide +kernel
theorem dX8_aIsDue_74 : decode cX8_aIsDue 74 = .ok (.getfield 10, 3) := by decide +kernel
theorem dX8_aIsDue_77 : decode cX8_aIsDue 77 = .ok (.iconst 3, 1) := by decide +kernel
theorem dX8_aIsDue_78 : decode cX8_aIsDue 78 = .ok (.invokevirtual 83, 3) := by decide +kernel
theorem dX8_aIsDue_81 : decode cX8_aIsDue 81 = .ok (.isub, 1) := by decide +kernel
theorem dX8_aIsDue_82 : decode cX8_aIsDue 82 = .ok (.if_icmp .lt 7, 3) := by decide +kernel
theorem dX8_aIsDue_85 : decode cX8_aIsDue 85 = .ok (.iconst 1, 1) := by decide +kernel
theorem dX8_aIsDue_86 : decode cX8_aIsDue 86 = .ok (.goto 4, 3) := by decide +kernel
theorem dX8_aIsDue_89 : decode cX8_aIsDue 89 = .ok (.iconst 0, 1) := by decide +kernel
theorem dX8_aIsDue_90 : decode cX8_aIsDue 90 = .ok (.ireturn, 1) := by decide +kernel
set_option maxRecDepth 20000 in
theorem ggX8_vIsDue_X6_mode : GoodIn wsX8_vIsDue wsX6_mode := goodIn_r _ [11, 12, 49, 50] (by decide +kernel) (by decide +kernel)
set_option maxRecDepth 20000 in
theorem gX8_vIsDue_X6_mode : GoodIn wsX8_vIsDue (wsV RX8 220 RX6 yX6_mode wsX6_mode) := goodIn_app (goodIn_of _ (by decide +kernel)) ggX8_vIsDue_X6_mode
set_option maxRecDepth 20000 in
theorem ggX8_vIsDue_X8_isLedByA : GoodIn wsX8_vIsDue wsX8_isLedByA := goodIn_r _ [16] (by decide +kernel) (by decide +kernel)
set_option maxRecDepth 20000 in
theorem gX8_vIsDue_X8_isLedByA : GoodIn wsX8_vIsDue (va_wsS RX8 229 yX8_isLedByA wsX8_isLedByA) := goodIn_app (goodIn_of _ (by decide +kernel)) ggX8_vIsDue_X8_isLedByA
set_option maxRecDepth 20000 in
theorem ggX8_vIsDue_X0_avRuns : GoodIn wsX8_vIsDue wsX0_avRuns := goodIn_r _ [21, 22, 40, 41, 42, 43, 44, 45] (by decide +kernel) (by decide +kernel)
set_option maxRecDepth 20000 in
theorem gX8_vIsDue_X0_avRuns : GoodIn wsX8_vIsDue (wsV RX8 238 RX0 yX0_avRuns wsX0_avRuns) := goodIn_app (goodIn_of _ (by decide +kernel)) ggX8_vIsDue_X0_avRuns
set_option maxRecDepth 20000 in
theorem ggX8_vIsDue_X6_inForce : GoodIn wsX8_vIsDue wsX6_inForce := goodIn_r _ [26, 12, 27, 28, 10, 29, 49, 50] (by decide +kernel) (by decide +kernel)
set_option maxRecDepth 20000 in
theorem gX8_vIsDue_X6_inForce : GoodIn wsX8_vIsDue (wsV RX8 83 RX6 yX6_inForce wsX6_inForce) := goodIn_app (goodIn_of _ (by decide +kernel)) ggX8_vIsDue_X6_inForce
theorem dX8_vIsDue_0 : decode cX8_vIsDue 0 = .ok (.aload_n 0, 1) := by decide +kernel
theorem dX8_vIsDue_1 : decode cX8_vIsDue 1 = .ok (.getfield 10, 3) := by decide +kernel
theorem dX8_vIsDue_4 : decode cX8_vIsDue 4 = .ok (.invokevirtual 220, 3) := by decide +kernel
theorem dX8_vIsDue_7 : decode cX8_vIsDue 7 = .ok (.invokestatic 229, 3) := by decide +kernel
theorem dX8_vIsDue_10 : decode cX8_vIsDue 10 = .ok (.ifCond .ne 22, 3) := by decide +kernel
theorem dX8_vIsDue_13 : decode cX8_vIsDue 13 = .ok (.aload_n 0, 1) := by decide +kernel
theorem dX8_vIsDue_14 : decode cX8_vIsDue 14 = .ok (.getfield 19, 3) := by decide +kernel
theorem dX8_vIsDue_17 : decode cX8_vIsDue 17 = .ok (.getfield 162, 3) := by decide +kernel
theorem dX8_vIsDue_20 : decode cX8_vIsDue 20 = .ok (.aload_n 0, 1) := by decide +kernel
theorem dX8_vIsDue_21 : decode cX8_vIsDue 21 = .ok (.getfield 43, 3) := by decide +kernel
theorem dX8_vIsDue_24 : decode cX8_vIsDue 24 = .ok (.getfield 171, 3) := by decide +kernel
theorem dX8_vIsDue_27 : decode cX8_vIsDue 27 = .ok (.if_icmp .lt 5, 3) := by decide +kernel
theorem dX8_vIsDue_30 : decode cX8_vIsDue 30 = .ok (.iconst 1, 1) := by decide +kernel
theorem dX8_vIsDue_31 : decode cX8_vIsDue 31 = .ok (.ireturn, 1) := by decide +kernel
theorem dX8_vIsDue_32 : decode cX8_vIsDue 32 = .ok (.aload_n 0, 1) := by decide +kernel
theorem dX8_vIsDue_33 : decode cX8_vIsDue 33 = .ok (.getfield 19, 3) := by decide +kernel
theorem dX8_vIsDue_36 : decode cX8_vIsDue 36 = .ok (.invokevirtual 238, 3) := by decide +kernel
theorem dX8_vIsDue_39 : decode cX8_vIsDue 39 = .ok (.ifCond .eq 43, 3) := by decide +kernel
theorem dX8_vIsDue_42 : decode cX8_vIsDue 42 = .ok (.aload_n 0, 1) := by decide +kernel
theorem dX8_vIsDue_43 : decode cX8_vIsDue 43 = .ok (.getfield 19, 3) := by decide +kernel
theorem dX8_vIsDue_46 : decode cX8_vIsDue 46 = .ok (.getfield 168, 3) := by decide +kernel
theorem dX8_vIsDue_49 : decode cX8_vIsDue 49 = .ok (.aload_n 0, 1) := by decide +kernel
theorem dX8_vIsDue_50 : decode cX8_vIsDue 50 = .ok (.getfield 10, 3) := by decide +kernel
theorem dX8_vIsDue_53 : decode cX8_vIsDue 53 = .ok (.iconst 3, 1) := by decide +kernel
theorem dX8_vIsDue_54 : decode cX8_vIsDue 54 = .ok (.invokevirtual 83, 3) := by decide +kernel
theorem dX8_vIsDue_57 : decode cX8_vIsDue 57 = .ok (.if_icmp .lt 25, 3) := by decide +kernel
theorem dX8_vIsDue_60 : decode cX8_vIsDue 60 = .ok (.aload_n 0, 1) := by decide +kernel
theorem dX8_vIsDue_61 : decode cX8_vIsDue 61 = .ok (.getfield 19, 3) := by decide +kernel
theorem dX8_vIsDue_64 : decode cX8_vIsDue 64 = .ok (.getfield 162, 3) := by decide +kernel
theorem dX8_vIsDue_67 : decode cX8_vIsDue 67 = .ok (.aload_n 0, 1) := by decide +kernel
theorem dX8_vIsDue_68 : decode cX8_vIsDue 68 = .ok (.getfield 10, 3) := by decide +kernel
theorem dX8_vIsDue_71 : decode cX8_vIsDue 71 = .ok (.iconst 2, 1) := by decide +kernel
theorem dX8_vIsDue_72 : decode cX8_vIsDue 72 = .ok (.invokevirtual 83, 3) := by decide +kernel
theorem dX8_vIsDue_75 : decode cX8_vIsDue 75 = .ok (.if_icmp .lt 7, 3) := by decide +kernel
theorem dX8_vIsDue_78 : decode cX8_vIsDue 78 = .ok (.iconst 1, 1) := by decide +kernel
theorem dX8_vIsDue_79 : decode cX8_vIsDue 79 = .ok (.goto 4, 3) := by decide +kernel
theorem dX8_vIsDue_82 : decode cX8_vIsDue 82 = .ok (.iconst 0, 1) := by decide +kernel
theorem dX8_vIsDue_83 : decode cX8_vIsDue 83 = .ok (.ireturn, 1) := by decide +kernel
set_option maxRecDepth 20000 in
theorem ggX8_atrialEvent_X4_keep : GoodIn wsX8_atrialEvent wsX4_keep := goodIn_r _ [9, 10, 11, 12, 13, 137, 138, 139, 140] (by decide +kernel) (by decide +kernel)
set_option maxRecDepth 20000 in
theorem gX8_atrialEvent_X4_keep : GoodIn wsX8_atrialEvent (wsV RX8 241 RX4 yX4_keep wsX4_keep) := goodIn_app (goodIn_of _ (by decide +kernel)) ggX8_atrialEvent_X4_keep
set_option maxRecDepth 20000 in
theorem ggX8_atrialEvent_X6_mode : GoodIn wsX8_atrialEvent wsX6_mode := goodIn_r _ [18, 19, 141, 142] (by decide +kernel) (by decide +kernel)
set_option maxRecDepth 20000 in
theorem gX8_atrialEvent_X6_mode : GoodIn wsX8_atrialEvent (wsV RX8 220 RX6 yX6_mode wsX6_mode) := goodIn_app (goodIn_of _ (by decide +kernel)) ggX8_atrialEvent_X6_mode
set_option maxRecDepth 20000 in
theorem ggX8_atrialEvent_X8_follows : GoodIn wsX8_atrialEvent wsX8_follows := goodIn_r _ [23] (by decide +kernel) (by decide +kernel)
set_option maxRecDepth 20000 in
theorem gX8_atrialEvent_X8_follows : GoodIn wsX8_atrialEvent (va_wsS RX8 244 yX8_follows wsX8_follows) := goodIn_app (goodIn_of _ (by decide +kernel)) ggX8_atrialEvent_X8_follows
set_option maxRecDepth 20000 in
theorem ggX8_atrialEvent_X8_tellTooFast : GoodIn wsX8_atrialEvent wsX8_tellTooFast := goodIn_r _ [27, 28, 29, 2, 30, 4, 1, 3, 31, 32, 33, 17, 34, 19, 35, 36, 37, 38, 39, 40, 41, 42, 43, 44, 45, 5, 6, 7, 8, 9, 10, 11, 12, 13, 121, 122, 123, 124, 125, 126, 127, 128, 129, 130, 143, 144, 145, 131, 132, 133, 134, 135, 136, 141, 142, 137, 138, 139, 140] (by decide +kernel) (by decide +kernel)
set_option maxRecDepth 20000 in
theorem gX8_atrialEvent_X8_tellTooFast : GoodIn wsX8_atrialEvent (wsV RX8 247 RX8 yX8_tellTooFast wsX8_tellTooFast) := goodIn_app (goodIn_of _ (by decide +kernel)) ggX8_atrialEvent_X8_tellTooFast
set_option maxRecDepth 20000 in
theorem ggX8_atrialEvent_X0_restartA : GoodIn wsX8_atrialEvent wsX0_restartA := goodIn_r _ [50, 51, 52, 53, 131, 132, 133, 134, 135, 136] (by decide +kernel) (by decide +kernel)
set_option maxRecDepth 20000 in
theorem gX8_atrialEvent_X0_restartA : GoodIn wsX8_atrialEvent (wsV RX8 250 RX0 yX0_restartA wsX0_restartA) := goodIn_app (goodIn_of _ (by decide +kernel)) ggX8_atrialEvent_X0_restartA
set_option maxRecDepth 20000 in
theorem ggX8_atrialEvent_X8_beginsAv : GoodIn wsX8_atrialEvent wsX8_beginsAv := goodIn_r _ [57, 4, 28, 29, 2, 14, 15, 16, 17, 18, 19, 20, 21, 22, 23, 58, 59, 60, 49, 61, 62, 63, 64, 65, 121, 122, 123, 124, 125, 126, 127, 128, 129, 130, 143, 144, 145, 141, 142, 131, 132, 133, 134, 135, 136] (by decide +kernel) (by decide +kernel)
set_option maxRecDepth 20000 in
theorem gX8_atrialEvent_X8_beginsAv : GoodIn wsX8_atrialEvent (wsV RX8 254 RX8 yX8_beginsAv wsX8_beginsAv) := goodIn_app (goodIn_of _ (by decide +kernel)) ggX8_atrialEvent_X8_beginsAv
set_option maxRecDepth 20000 in
theorem ggX8_atrialEvent_X0_startAv : GoodIn wsX8_atrialEvent wsX0_startAv := goodIn_r _ [69, 62, 131, 132, 133, 134, 135, 136] (by decide +kernel) (by decide +kernel)
set_option maxRecDepth 20000 in
theorem gX8_atrialEvent_X0_startAv : GoodIn wsX8_atrialEvent (wsV RX8 258 RX0 yX0_startAv wsX0_startAv) := goodIn_app (goodIn_of _ (by decide +kernel)) ggX8_atrialEvent_X0_startAv
set_option maxRecDepth 20000 in
theorem ggX8_atrialEvent_X8_isLedByA : GoodIn wsX8_atrialEvent wsX8_isLedByA := goodIn_r _ [72] (by decide +kernel) (by decide +kernel)
set_option maxRecDepth 20000 in
theorem gX8_atrialEvent_X8_isLedByA : GoodIn wsX8_atrialEvent (va_wsS RX8 229 yX8_isLedByA wsX8_isLedByA) := goodIn_app (goodIn_of _ (by decide +kernel)) ggX8_atrialEvent_X8_isLedByA
set_option maxRecDepth 20000 in
theorem ggX8_atrialEvent_X8_boundary : GoodIn wsX8_atrialEvent wsX8_boundary := goodIn_r _ [76, 4, 1, 2, 3, 77, 78, 14, 15, 16, 17, 18, 19, 79, 80, 81, 82, 83, 5, 6, 7, 8, 9, 10, 11, 12, 13, 84, 85, 86, 22, 87, 28, 29, 88, 89, 90, 49, 91, 62, 92, 93, 94, 41, 95, 43, 44, 45, 96, 97, 98, 99, 100, 101, 102, 103, 104, 31, 32, 33, 34, 35, 36, 37, 105, 106, 107, 108, 109, 110, 111, 112, 113, 114, 115, 116, 117, 118, 119, 120, 121, 122, 123, 124, 125, 126, 127, 128, 129, 130, 131, 132, 133, 134, 135, 136, 141, 142, 137, 138, 139, 140, 143, 144, 145, 146, 147, 148, 149, 150] (by decide +kernel) (by decide +kernel)
set_option maxRecDepth 20000 in
theorem gX8_atrialEvent_X8_boundary : GoodIn wsX8_atrialEvent (wsV RX8 261 RX8 yX8_boundary wsX8_boundary) := goodIn_app (goodIn_of _ (by decide +kernel)) ggX8_atrialEvent_X8_boundary
theorem dX8_atrialEvent_0 : decode cX8_atrialEvent 0 = .ok (.aload_n 0, 1) := by decide +kernel
theorem dX8_atrialEvent_1 : decode cX8_atrialEvent 1 = .ok (.getfield 57, 3) := by decide +kernel
theorem dX8_atrialEvent_4 : decode cX8_atrialEvent 4 = .ok (.iload_n 1, 1) := by decide +kernel
theorem dX8_atrialEvent_5 : decode cX8_atrialEvent 5 = .ok (.aload_n 0, 1) := by decide +kernel
theorem dX8_atrialEvent_6 : decode cX8_atrialEvent 6 = .ok (.getfield 19, 3) := by decide +kernel
theorem dX8_atrialEvent_9 : decode cX8_atrialEvent 9 = .ok (.getfield 186, 3) := by decide +kernel
theorem dX8_atrialEvent_12 : decode cX8_atrialEvent 12 = .ok (.invokevirtual 241, 3) := by decide +kernel
theorem dX8_atrialEvent_15 : decode cX8_atrialEvent 15 = .ok (.iload_n 2, 1) := by decide +kernel
theorem dX8_atrialEvent_16 : decode cX8_atrialEvent 16 = .ok (.ifCond .eq 20, 3) := by decide +kernel
theorem dX8_atrialEvent_19 : decode cX8_atrialEvent 19 = .ok (.aload_n 0, 1) := by decide +kernel
theorem dX8_atrialEvent_20 : decode cX8_atrialEvent 20 = .ok (.getfield 10, 3) := by decide +kernel
theorem dX8_atrialEvent_23 : decode cX8_atrialEvent 23 = .ok (.invokevirtual 220, 3) := by decide +kernel
theorem dX8_atrialEvent_26 : decode cX8_atrialEvent 26 = .ok (.invokestatic 244, 3) := by decide +kernel
theorem dX8_atrialEvent_29 : decode cX8_atrialEvent 29 = .ok (.ifCond .eq 7, 3) := by decide +kernel
theorem dX8_atrialEvent_32 : decode cX8_atrialEvent 32 = .ok (.aload_n 0, 1) := by decide +kernel
theorem dX8_atrialEvent_33 : decode cX8_atrialEvent 33 = .ok (.invokevirtual 247, 3) := by decide +kernel
theorem dX8_atrialEvent_36 : decode cX8_atrialEvent 36 = .ok (.aload_n 0, 1) := by decide +kernel
theorem dX8_atrialEvent_37 : decode cX8_atrialEvent 37 = .ok (.getfield 19, 3) := by decide +kernel
theorem dX8_atrialEvent_40 : decode cX8_atrialEvent 40 = .ok (.iload_n 2, 1) := by decide +kernel
theorem dX8_atrialEvent_41 : decode cX8_atrialEvent 41 = .ok (.ifCond .ne 7, 3) := by decide +kernel
theorem dX8_atrialEvent_44 : decode cX8_atrialEvent 44 = .ok (.iconst 1, 1) := by decide +kernel
theorem dX8_atrialEvent_45 : decode cX8_atrialEvent 45 = .ok (.goto 4, 3) := by decide +kernel
theorem dX8_atrialEvent_48 : decode cX8_atrialEvent 48 = .ok (.iconst 0, 1) := by decide +kernel
theorem dX8_atrialEvent_49 : decode cX8_atrialEvent 49 = .ok (.invokevirtual 250, 3) := by decide +kernel
theorem dX8_atrialEvent_52 : decode cX8_atrialEvent 52 = .ok (.aload_n 0, 1) := by decide +kernel
theorem dX8_atrialEvent_53 : decode cX8_atrialEvent 53 = .ok (.iload_n 2, 1) := by decide +kernel
theorem dX8_atrialEvent_54 : decode cX8_atrialEvent 54 = .ok (.invokevirtual 254, 3) := by decide +kernel
theorem dX8_atrialEvent_57 : decode cX8_atrialEvent 57 = .ok (.ifCond .eq 10, 3) := by decide +kernel
theorem dX8_atrialEvent_60 : decode cX8_atrialEvent 60 = .ok (.aload_n 0, 1) := by decide +kernel
theorem dX8_atrialEvent_61 : decode cX8_atrialEvent 61 = .ok (.getfield 19, 3) := by decide +kernel
theorem dX8_atrialEvent_64 : decode cX8_atrialEvent 64 = .ok (.invokevirtual 258, 3) := by decide +kernel
theorem dX8_atrialEvent_67 : decode cX8_atrialEvent 67 = .ok (.aload_n 0, 1) := by decide +kernel
theorem dX8_atrialEvent_68 : decode cX8_atrialEvent 68 = .ok (.getfield 10, 3) := by decide +kernel
theorem dX8_atrialEvent_71 : decode cX8_atrialEvent 71 = .ok (.invokevirtual 220, 3) := by decide +kernel
theorem dX8_atrialEvent_74 : decode cX8_atrialEvent 74 = .ok (.invokestatic 229, 3) := by decide +kernel
theorem dX8_atrialEvent_77 : decode cX8_atrialEvent 77 = .ok (.ifCond .eq 8, 3) := by decide +kernel
theorem dX8_atrialEvent_80 : decode cX8_atrialEvent 80 = .ok (.aload_n 0, 1) := by decide +kernel
theorem dX8_atrialEvent_81 : decode cX8_atrialEvent 81 = .ok (.iload_n 2, 1) := by decide +kernel
theorem dX8_atrialEvent_82 : decode cX8_atrialEvent 82 = .ok (.invokevirtual 261, 3) := by decide +kernel
theorem dX8_atrialEvent_85 : decode cX8_atrialEvent 85 = .ok (.return_, 1) := by decide +kernel
set_option maxRecDepth 20000 in
theorem ggX8_beginsAv_X6_mode : GoodIn wsX8_beginsAv wsX6_mode := goodIn_r _ [9, 10, 37, 38] (by decide +kernel) (by decide +kernel)
set_option maxRecDepth 20000 in
theorem gX8_beginsAv_X6_mode : GoodIn wsX8_beginsAv (wsV RX8 220 RX6 yX6_mode wsX6_mode) := goodIn_app (goodIn_of _ (by decide +kernel)) ggX8_beginsAv_X6_mode
set_option maxRecDepth 20000 in
theorem ggX8_beginsAv_X8_follows : GoodIn wsX8_beginsAv wsX8_follows := goodIn_r _ [14] (by decide +kernel) (by decide +kernel)
set_option maxRecDepth 20000 in
theorem gX8_beginsAv_X8_follows : GoodIn wsX8_beginsAv (va_wsS RX8 244 yX8_follows wsX8_follows) := goodIn_app (goodIn_of _ (by decide +kernel)) ggX8_beginsAv_X8_follows
set_option maxRecDepth 20000 in
theorem ggX8_beginsAv_X0_avRuns : GoodIn wsX8_beginsAv wsX0_avRuns := goodIn_r _ [19, 20, 39, 40, 41, 42, 43, 44] (by decide +kernel) (by decide +kernel)
set_option maxRecDepth 20000 in
theorem gX8_beginsAv_X0_avRuns : GoodIn wsX8_beginsAv (wsV RX8 238 RX0 yX0_avRuns wsX0_avRuns) := goodIn_app (goodIn_of _ (by decide +kernel)) ggX8_beginsAv_X0_avRuns
set_option maxRecDepth 20000 in
theorem ggX8_beginsAv_X8_pacesBoth : GoodIn wsX8_beginsAv wsX8_pacesBoth := goodIn_r _ [23] (by decide +kernel) (by decide +kernel)
set_option maxRecDepth 20000 in
theorem gX8_beginsAv_X8_pacesBoth : GoodIn wsX8_beginsAv (va_wsS RX8 232 yX8_pacesBoth wsX8_pacesBoth) := goodIn_app (goodIn_of _ (by decide +kernel)) ggX8_beginsAv_X8_pacesBoth
theorem dX8_beginsAv_0 : decode cX8_beginsAv 0 = .ok (.iload_n 1, 1) := by decide +kernel
theorem dX8_beginsAv_1 : decode cX8_beginsAv 1 = .ok (.ifCond .eq 42, 3) := by decide +kernel
theorem dX8_beginsAv_4 : decode cX8_beginsAv 4 = .ok (.aload_n 0, 1) := by decide +kernel
theorem dX8_beginsAv_5 : decode cX8_beginsAv 5 = .ok (.getfield 10, 3) := by decide +kernel
theorem dX8_beginsAv_8 : decode cX8_beginsAv 8 = .ok (.invokevirtual 220, 3) := by decide +kernel
theorem dX8_beginsAv_11 : decode cX8_beginsAv 11 = .ok (.invokestatic 244, 3) := by decide +kernel
theorem dX8_beginsAv_14 : decode cX8_beginsAv 14 = .ok (.ifCond .eq 27, 3) := by decide +kernel
theorem dX8_beginsAv_17 : decode cX8_beginsAv 17 = .ok (.aload_n 0, 1) := by decide +kernel
theorem dX8_beginsAv_18 : decode cX8_beginsAv 18 = .ok (.getfield 36, 3) := by decide +kernel
theorem dX8_beginsAv_21 : decode cX8_beginsAv 21 = .ok (.getfield 189, 3) := by decide +kernel
theorem dX8_beginsAv_24 : decode cX8_beginsAv 24 = .ok (.ifCond .ne 17, 3) := by decide +kernel
theorem dX8_beginsAv_27 : decode cX8_beginsAv 27 = .ok (.aload_n 0, 1) := by decide +kernel
theorem dX8_beginsAv_28 : decode cX8_beginsAv 28 = .ok (.getfield 19, 3) := by decide +kernel
theorem dX8_beginsAv_31 : decode cX8_beginsAv 31 = .ok (.invokevirtual 238, 3) := by decide +kernel
theorem dX8_beginsAv_34 : decode cX8_beginsAv 34 = .ok (.ifCond .ne 7, 3) := by decide +kernel
theorem dX8_beginsAv_37 : decode cX8_beginsAv 37 = .ok (.iconst 1, 1) := by decide +kernel
theorem dX8_beginsAv_38 : decode cX8_beginsAv 38 = .ok (.goto 4, 3) := by decide +kernel
theorem dX8_beginsAv_41 : decode cX8_beginsAv 41 = .ok (.iconst 0, 1) := by decide +kernel
theorem dX8_beginsAv_42 : decode cX8_beginsAv 42 = .ok (.ireturn, 1) := by decide +kernel
theorem dX8_beginsAv_43 : decode cX8_beginsAv 43 = .ok (.aload_n 0, 1) := by decide +kernel
theorem dX8_beginsAv_44 : decode cX8_beginsAv 44 = .ok (.getfield 10, 3) := by decide +kernel
theorem dX8_beginsAv_47 : decode cX8_beginsAv 47 = .ok (.invokevirtual 220, 3) := by decide +kernel
theorem dX8_beginsAv_50 : decode cX8_beginsAv 50 = .ok (.invokestatic 232, 3) := by decide +kernel
theorem dX8_beginsAv_53 : decode cX8_beginsAv 53 = .ok (.ireturn, 1) := by decide +kernel
set_option maxRecDepth 20000 in
theorem ggX8_ventricularEvent_X4_keep : GoodIn wsX8_ventricularEvent wsX4_keep := goodIn_r _ [9, 10, 11, 12, 13, 110, 111, 112, 113] (by decide +kernel) (by decide +kernel)
set_option maxRecDepth 20000 in
theorem gX8_ventricularEvent_X4_keep : GoodIn wsX8_ventricularEvent (wsV RX8 241 RX4 yX4_keep wsX4_keep) := goodIn_app (goodIn_of _ (by decide +kernel)) ggX8_ventricularEvent_X4_keep
set_option maxRecDepth 20000 in
theorem ggX8_ventricularEvent_X0_restartV : GoodIn wsX8_ventricularEvent wsX0_restartV := goodIn_r _ [18, 19, 20, 21, 22, 23, 17, 24, 25, 104, 105, 106, 107, 108, 109] (by decide +kernel) (by decide +kernel)
set_option maxRecDepth 20000 in
theorem gX8_ventricularEvent_X0_restartV : GoodIn wsX8_ventricularEvent (wsV RX8 264 RX0 yX0_restartV wsX0_restartV) := goodIn_app (goodIn_of _ (by decide +kernel)) ggX8_ventricularEvent_X0_restartV
set_option maxRecDepth 20000 in
theorem ggX8_ventricularEvent_X6_mode : GoodIn wsX8_ventricularEvent wsX6_mode := goodIn_r _ [30, 31, 114, 115] (by decide +kernel) (by decide +kernel)
set_option maxRecDepth 20000 in
theorem gX8_ventricularEvent_X6_mode : GoodIn wsX8_ventricularEvent (wsV RX8 220 RX6 yX6_mode wsX6_mode) := goodIn_app (goodIn_of _ (by decide +kernel)) ggX8_ventricularEvent_X6_mode
set_option maxRecDepth 20000 in
theorem ggX8_ventricularEvent_X8_isLedByA : GoodIn wsX8_ventricularEvent wsX8_isLedByA := goodIn_r _ [35] (by decide +kernel) (by decide +kernel)
set_option maxRecDepth 20000 in
theorem gX8_ventricularEvent_X8_isLedByA : GoodIn wsX8_ventricularEvent (va_wsS RX8 229 yX8_isLedByA wsX8_isLedByA) := goodIn_app (goodIn_of _ (by decide +kernel)) ggX8_ventricularEvent_X8_isLedByA
set_option maxRecDepth 20000 in
theorem ggX8_ventricularEvent_X8_boundary : GoodIn wsX8_ventricularEvent wsX8_boundary := goodIn_r _ [39, 4, 1, 2, 3, 40, 41, 26, 27, 28, 29, 30, 31, 42, 43, 44, 45, 46, 5, 6, 7, 8, 9, 10, 11, 12, 13, 47, 48, 49, 34, 50, 51, 52, 53, 22, 23, 17, 24, 25, 54, 55, 56, 57, 58, 59, 60, 61, 62, 63, 64, 65, 66, 67, 68, 69, 70, 71, 72, 73, 74, 75, 76, 77, 78, 79, 80, 81, 82, 83, 84, 85, 86, 87, 88, 89, 90, 91, 92, 93, 94, 95, 96, 97, 98, 99, 100, 101, 102, 103, 104, 105, 106, 107, 108, 109, 114, 115, 110, 111, 112, 113, 116, 117, 118, 119, 120, 121, 122, 123] (by decide +kernel) (by decide +kernel)
set_option maxRecDepth 20000 in
theorem gX8_ventricularEvent_X8_boundary : GoodIn wsX8_ventricularEvent (wsV RX8 261 RX8 yX8_boundary wsX8_boundary) := goodIn_app (goodIn_of _ (by decide +kernel)) ggX8_ventricularEvent_X8_boundary
theorem dX8_ventricularEvent_0 : decode cX8_ventricularEvent 0 = .ok (.aload_n 0, 1) := by decide +kernel
theorem dX8_ventricularEvent_1 : decode cX8_ventricularEvent 1 = .ok (.getfield 57, 3) := by decide +kernel
theorem dX8_ventricularEvent_4 : decode cX8_ventricularEvent 4 = .ok (.iload_n 1, 1) := by decide +kernel
theorem dX8_ventricularEvent_5 : decode cX8_ventricularEvent 5 = .ok (.aload_n 0, 1) := by decide +kernel
theorem dX8_ventricularEvent_6 : decode cX8_ventricularEvent 6 = .ok (.getfield 19, 3) := by decide +kernel
theorem dX8_ventricularEvent_9 : decode cX8_ventricularEvent 9 = .ok (.getfield 186, 3) := by decide +kernel
theorem dX8_ventricularEvent_12 : decode cX8_ventricularEvent 12 = .ok (.invokevirtual 241, 3) := by decide +kernel
theorem dX8_ventricularEvent_15 : decode cX8_ventricularEvent 15 = .ok (.aload_n 0, 1) := by decide +kernel
theorem dX8_ventricularEvent_16 : decode cX8_ventricularEvent 16 = .ok (.getfield 19, 3) := by decide +kernel
theorem dX8_ventricularEvent_19 : decode cX8_ventricularEvent 19 = .ok (.invokevirtual 264, 3) := by decide +kernel
theorem dX8_ventricularEvent_22 : decode cX8_ventricularEvent 22 = .ok (.aload_n 0, 1) := by decide +kernel
theorem dX8_ventricularEvent_23 : decode cX8_ventricularEvent 23 = .ok (.getfield 10, 3) := by decide +kernel
theorem dX8_ventricularEvent_26 : decode cX8_ventricularEvent 26 = .ok (.invokevirtual 220, 3) := by decide +kernel
theorem dX8_ventricularEvent_29 : decode cX8_ventricularEvent 29 = .ok (.invokestatic 229, 3) := by decide +kernel
theorem dX8_ventricularEvent_32 : decode cX8_ventricularEvent 32 = .ok (.ifCond .ne 8, 3) := by decide +kernel
theorem dX8_ventricularEvent_35 : decode cX8_ventricularEvent 35 = .ok (.aload_n 0, 1) := by decide +kernel
theorem dX8_ventricularEvent_36 : decode cX8_ventricularEvent 36 = .ok (.iload_n 2, 1) := by decide +kernel
theorem dX8_ventricularEvent_37 : decode cX8_ventricularEvent 37 = .ok (.invokevirtual 261, 3) := by decide +kernel
theorem dX8_ventricularEvent_40 : decode cX8_ventricularEvent 40 = .ok (.return_, 1) := by decide +kernel
set_option maxRecDepth 20000 in
theorem ggX8_tellTooFast_X6_inForce : GoodIn wsX8_tellTooFast wsX6_inForce := goodIn_r _ [12, 13, 14, 15, 11, 16, 53, 54] (by decide +kernel) (by decide +kernel)
set_option maxRecDepth 20000 in
theorem gX8_tellTooFast_X6_inForce : GoodIn wsX8_tellTooFast (wsV RX8 83 RX6 yX6_inForce wsX6_inForce) := goodIn_app (goodIn_of _ (by decide +kernel)) ggX8_tellTooFast_X6_inForce
set_option maxRecDepth 20000 in
theorem ggX8_tellTooFast_X2_count : GoodIn wsX8_tellTooFast wsX2_count := goodIn_r _ [21, 22, 23, 24, 44, 45, 46] (by decide +kernel) (by decide +kernel)
set_option maxRecDepth 20000 in
theorem gX8_tellTooFast_X2_count : GoodIn wsX8_tellTooFast (wsV RX8 267 RX2 yX2_count wsX2_count) := goodIn_app (goodIn_of _ (by decide +kernel)) ggX8_tellTooFast_X2_count
set_option maxRecDepth 20000 in
theorem ggX8_tellTooFast_X4_keep : GoodIn wsX8_tellTooFast wsX4_keep := goodIn_r _ [29, 30, 31, 32, 33, 55, 56, 57, 58] (by decide +kernel) (by decide +kernel)
set_option maxRecDepth 20000 in
theorem gX8_tellTooFast_X4_keep : GoodIn wsX8_tellTooFast (wsV RX8 241 RX4 yX4_keep wsX4_keep) := goodIn_app (goodIn_of _ (by decide +kernel)) ggX8_tellTooFast_X4_keep
theorem dX8_tellTooFast_0 : decode cX8_tellTooFast 0 = .ok (.aload_n 0, 1) := by decide +kernel
theorem dX8_tellTooFast_1 : decode cX8_tellTooFast 1 = .ok (.getfield 36, 3) := by decide +kernel
theorem dX8_tellTooFast_4 : decode cX8_tellTooFast 4 = .ok (.getfield 189, 3) := by decide +kernel
theorem dX8_tellTooFast_7 : decode cX8_tellTooFast 7 = .ok (.istore_n 1, 1) := by decide +kernel
theorem dX8_tellTooFast_8 : decode cX8_tellTooFast 8 = .ok (.aload_n 0, 1) := by decide +kernel
theorem dX8_tellTooFast_9 : decode cX8_tellTooFast 9 = .ok (.getfield 36, 3) := by decide +kernel
theorem dX8_tellTooFast_12 : decode cX8_tellTooFast 12 = .ok (.aload_n 0, 1) := by decide +kernel
theorem dX8_tellTooFast_13 : decode cX8_tellTooFast 13 = .ok (.getfield 19, 3) := by decide +kernel
theorem dX8_tellTooFast_16 : decode cX8_tellTooFast 16 = .ok (.getfield 159, 3) := by decide +kernel
theorem dX8_tellTooFast_19 : decode cX8_tellTooFast 19 = .ok (.aload_n 0, 1) := by decide +kernel
theorem dX8_tellTooFast_20 : decode cX8_tellTooFast 20 = .ok (.getfield 10, 3) := by decide +kernel
theorem dX8_tellTooFast_23 : decode cX8_tellTooFast 23 = .ok (.bipush 13, 2) := by decide +kernel
theorem dX8_tellTooFast_25 : decode cX8_tellTooFast 25 = .ok (.invokevirtual 83, 3) := by decide +kernel
theorem dX8_tellTooFast_28 : decode cX8_tellTooFast 28 = .ok (.if_icmp .ge 7, 3) := by decide +kernel
theorem dX8_tellTooFast_31 : decode cX8_tellTooFast 31 = .ok (.iconst 1, 1) := by decide +kernel
theorem dX8_tellTooFast_32 : decode cX8_tellTooFast 32 = .ok (.goto 4, 3) := by decide +kernel
theorem dX8_tellTooFast_35 : decode cX8_tellTooFast 35 = .ok (.iconst 0, 1) := by decide +kernel
theorem dX8_tellTooFast_36 : decode cX8_tellTooFast 36 = .ok (.invokevirtual 267, 3) := by decide +kernel
theorem dX8_tellTooFast_39 : decode cX8_tellTooFast 39 = .ok (.iload_n 1, 1) := by decide +kernel
theorem dX8_tellTooFast_40 : decode cX8_tellTooFast 40 = .ok (.ifCond .ne 28, 3) := by decide +kernel
theorem dX8_tellTooFast_43 : decode cX8_tellTooFast 43 = .ok (.aload_n 0, 1) := by decide +kernel
theorem dX8_tellTooFast_44 : decode cX8_tellTooFast 44 = .ok (.getfield 36, 3) := by decide +kernel
theorem dX8_tellTooFast_47 : decode cX8_tellTooFast 47 = .ok (.getfield 189, 3) := by decide +kernel
theorem dX8_tellTooFast_50 : decode cX8_tellTooFast 50 = .ok (.ifCond .eq 18, 3) := by decide +kernel
theorem dX8_tellTooFast_53 : decode cX8_tellTooFast 53 = .ok (.aload_n 0, 1) := by decide +kernel
theorem dX8_tellTooFast_54 : decode cX8_tellTooFast 54 = .ok (.getfield 57, 3) := by decide +kernel
theorem dX8_tellTooFast_57 : decode cX8_tellTooFast 57 = .ok (.iconst 4, 1) := by decide +kernel
theorem dX8_tellTooFast_58 : decode cX8_tellTooFast 58 = .ok (.aload_n 0, 1) := by decide +kernel
theorem dX8_tellTooFast_59 : decode cX8_tellTooFast 59 = .ok (.getfield 19, 3) := by decide +kernel
theorem dX8_tellTooFast_62 : decode cX8_tellTooFast 62 = .ok (.getfield 186, 3) := by decide +kernel
theorem dX8_tellTooFast_65 : decode cX8_tellTooFast 65 = .ok (.invokevirtual 241, 3) := by decide +kernel
theorem dX8_tellTooFast_68 : decode cX8_tellTooFast 68 = .ok (.iload_n 1, 1) := by decide +kernel
theorem dX8_tellTooFast_69 : decode cX8_tellTooFast 69 = .ok (.ifCond .eq 28, 3) := by decide +kernel
theorem dX8_tellTooFast_72 : decode cX8_tellTooFast 72 = .ok (.aload_n 0, 1) := by decide +kernel
theorem dX8_tellTooFast_73 : decode cX8_tellTooFast 73 = .ok (.getfield 36, 3) := by decide +kernel
theorem dX8_tellTooFast_76 : decode cX8_tellTooFast 76 = .ok (.getfield 189, 3) := by decide +kernel
theorem dX8_tellTooFast_79 : decode cX8_tellTooFast 79 = .ok (.ifCond .ne 18, 3) := by decide +kernel
theorem dX8_tellTooFast_82 : decode cX8_tellTooFast 82 = .ok (.aload_n 0, 1) := by decide +kernel
theorem dX8_tellTooFast_83 : decode cX8_tellTooFast 83 = .ok (.getfield 57, 3) := by decide +kernel
theorem dX8_tellTooFast_86 : decode cX8_tellTooFast 86 = .ok (.iconst 5, 1) := by decide +kernel
theorem dX8_tellTooFast_87 : decode cX8_tellTooFast 87 = .ok (.aload_n 0, 1) := by decide +kernel
theorem dX8_tellTooFast_88 : decode cX8_tellTooFast 88 = .ok (.getfield 19, 3) := by decide +kernel
theorem dX8_tellTooFast_91 : decode cX8_tellTooFast 91 = .ok (.getfield 186, 3) := by decide +kernel
theorem dX8_tellTooFast_94 : decode cX8_tellTooFast 94 = .ok (.invokevirtual 241, 3) := by decide +kernel
theorem dX8_tellTooFast_97 : decode cX8_tellTooFast 97 = .ok (.return_, 1) := by decide +kernel
set_option maxRecDepth 20000 in
theorem ggX8_boundary_X6_mode : GoodIn wsX8_boundary wsX6_mode := goodIn_r _ [11, 12, 96, 97] (by decide +kernel) (by decide +kernel)
set_option maxRecDepth 20000 in
theorem gX8_boundary_X6_mode : GoodIn wsX8_boundary (wsV RX8 220 RX6 yX6_mode wsX6_mode) := goodIn_app (goodIn_of _ (by decide +kernel)) ggX8_boundary_X6_mode
set_option maxRecDepth 20000 in
theorem ggX8_boundary_X6_putInForce : GoodIn wsX8_boundary wsX6_putInForce := goodIn_r _ [16, 17, 12, 96, 97] (by decide +kernel) (by decide +kernel)
set_option maxRecDepth 20000 in
theorem gX8_boundary_X6_putInForce : GoodIn wsX8_boundary (wsV RX8 270 RX6 yX6_putInForce wsX6_putInForce) := goodIn_app (goodIn_of _ (by decide +kernel)) ggX8_boundary_X6_putInForce
set_option maxRecDepth 20000 in
theorem ggX8_boundary_X4_keep : GoodIn wsX8_boundary wsX4_keep := goodIn_r _ [22, 23, 24, 25, 26, 98, 99, 100, 101] (by decide +kernel) (by decide +kernel)
set_option maxRecDepth 20000 in
theorem gX8_boundary_X4_keep : GoodIn wsX8_boundary (wsV RX8 241 RX4 yX4_keep wsX4_keep) := goodIn_app (goodIn_of _ (by decide +kernel)) ggX8_boundary_X4_keep
set_option maxRecDepth 20000 in
theorem ggX8_boundary_X8_leaveMode : GoodIn wsX8_boundary wsX8_leaveMode := goodIn_r _ [31, 3, 32, 33, 2, 4, 34, 35, 36, 37, 38, 39, 18, 19, 20, 21, 22, 23, 24, 25, 26, 40, 41, 42, 43, 44, 45, 46, 47, 80, 81, 82, 83, 84, 85, 86, 87, 88, 89, 102, 103, 104, 90, 91, 92, 93, 94, 95, 98, 99, 100, 101] (by decide +kernel) (by decide +kernel)
set_option maxRecDepth 20000 in
theorem gX8_boundary_X8_leaveMode : GoodIn wsX8_boundary (wsV RX8 273 RX8 yX8_leaveMode wsX8_leaveMode) := goodIn_app (goodIn_of _ (by decide +kernel)) ggX8_boundary_X8_leaveMode
set_option maxRecDepth 20000 in
theorem ggX8_boundary_X1_end : GoodIn wsX8_boundary wsX1_end := goodIn_r _ [52, 53, 54, 55, 30, 56, 105, 106] (by decide +kernel) (by decide +kernel)
set_option maxRecDepth 20000 in
theorem gX8_boundary_X1_end : GoodIn wsX8_boundary (wsV RX8 276 RX1 yX1_end wsX1_end) := goodIn_app (goodIn_of _ (by decide +kernel)) ggX8_boundary_X1_end
set_option maxRecDepth 20000 in
theorem ggX8_boundary_X6_inForce : GoodIn wsX8_boundary wsX6_inForce := goodIn_r _ [60, 12, 61, 62, 10, 63, 96, 97] (by decide +kernel) (by decide +kernel)
set_option maxRecDepth 20000 in
theorem gX8_boundary_X6_inForce : GoodIn wsX8_boundary (wsV RX8 83 RX6 yX6_inForce wsX6_inForce) := goodIn_app (goodIn_of _ (by decide +kernel)) ggX8_boundary_X6_inForce
set_option maxRecDepth 20000 in
theorem ggX8_boundary_X5_approach : GoodIn wsX8_boundary wsX5_approach := goodIn_r _ [68, 69, 70, 55, 30, 56, 107, 108, 109] (by decide +kernel) (by decide +kernel)
set_option maxRecDepth 20000 in
theorem gX8_boundary_X5_approach : GoodIn wsX8_boundary (wsV RX8 279 RX5 yX5_approach wsX5_approach) := goodIn_app (goodIn_of _ (by decide +kernel)) ggX8_boundary_X5_approach
set_option maxRecDepth 20000 in
theorem ggX8_boundary_X5_beginCycle : GoodIn wsX8_boundary wsX5_beginCycle := goodIn_r _ [74, 70, 75, 76, 77, 78, 79, 107, 108, 109] (by decide +kernel) (by decide +kernel)
set_option maxRecDepth 20000 in
theorem gX8_boundary_X5_beginCycle : GoodIn wsX8_boundary (wsV RX8 282 RX5 yX5_beginCycle wsX5_beginCycle) := goodIn_app (goodIn_of _ (by decide +kernel)) ggX8_boundary_X5_beginCycle
theorem dX8_boundary_0 : decode cX8_boundary 0 = .ok (.aload_n 0, 1) := by decide +kernel
theorem dX8_boundary_1 : decode cX8_boundary 1 = .ok (.getfield 10, 3) := by decide +kernel
theorem dX8_boundary_4 : decode cX8_boundary 4 = .ok (.invokevirtual 220, 3) := by decide +kernel
theorem dX8_boundary_7 : decode cX8_boundary 7 = .ok (.istore_n 2, 1) := by decide +kernel
theorem dX8_boundary_8 : decode cX8_boundary 8 = .ok (.aload_n 0, 1) := by decide +kernel
theorem dX8_boundary_9 : decode cX8_boundary 9 = .ok (.getfield 10, 3) := by decide +kernel
theorem dX8_boundary_12 : decode cX8_boundary 12 = .ok (.invokevirtual 270, 3) := by decide +kernel
theorem dX8_boundary_15 : decode cX8_boundary 15 = .ok (.ifCond .eq 19, 3) := by decide +kernel
theorem dX8_boundary_18 : decode cX8_boundary 18 = .ok (.aload_n 0, 1) := by decide +kernel
theorem dX8_boundary_19 : decode cX8_boundary 19 = .ok (.getfield 57, 3) := by decide +kernel
theorem dX8_boundary_22 : decode cX8_boundary 22 = .ok (.bipush 6, 2) := by decide +kernel
theorem dX8_boundary_24 : decode cX8_boundary 24 = .ok (.aload_n 0, 1) := by decide +kernel
theorem dX8_boundary_25 : decode cX8_boundary 25 = .ok (.getfield 19, 3) := by decide +kernel
theorem dX8_boundary_28 : decode cX8_boundary 28 = .ok (.getfield 186, 3) := by decide +kernel
theorem dX8_boundary_31 : decode cX8_boundary 31 = .ok (.invokevirtual 241, 3) := by decide +kernel
theorem dX8_boundary_34 : decode cX8_boundary 34 = .ok (.aload_n 0, 1) := by decide +kernel
theorem dX8_boundary_35 : decode cX8_boundary 35 = .ok (.getfield 10, 3) := by decide +kernel
theorem dX8_boundary_38 : decode cX8_boundary 38 = .ok (.invokevirtual 220, 3) := by decide +kernel
theorem dX8_boundary_41 : decode cX8_boundary 41 = .ok (.iload_n 2, 1) := by decide +kernel
theorem dX8_boundary_42 : decode cX8_boundary 42 = .ok (.if_icmp .eq 7, 3) := by decide +kernel
theorem dX8_boundary_45 : decode cX8_boundary 45 = .ok (.aload_n 0, 1) := by decide +kernel
theorem dX8_boundary_46 : decode cX8_boundary 46 = .ok (.invokevirtual 273, 3) := by decide +kernel
theorem dX8_boundary_49 : decode cX8_boundary 49 = .ok (.aload_n 0, 1) := by decide +kernel
theorem dX8_boundary_50 : decode cX8_boundary 50 = .ok (.getfield 50, 3) := by decide +kernel
theorem dX8_boundary_53 : decode cX8_boundary 53 = .ok (.aload_n 0, 1) := by decide +kernel
theorem dX8_boundary_54 : decode cX8_boundary 54 = .ok (.getfield 19, 3) := by decide +kernel
theorem dX8_boundary_57 : decode cX8_boundary 57 = .ok (.getfield 186, 3) := by decide +kernel
theorem dX8_boundary_60 : decode cX8_boundary 60 = .ok (.invokevirtual 276, 3) := by decide +kernel
theorem dX8_boundary_63 : decode cX8_boundary 63 = .ok (.aload_n 0, 1) := by decide +kernel
theorem dX8_boundary_64 : decode cX8_boundary 64 = .ok (.getfield 10, 3) := by decide +kernel
theorem dX8_boundary_67 : decode cX8_boundary 67 = .ok (.iconst 1, 1) := by decide +kernel
theorem dX8_boundary_68 : decode cX8_boundary 68 = .ok (.invokevirtual 83, 3) := by decide +kernel
theorem dX8_boundary_71 : decode cX8_boundary 71 = .ok (.istore_n 3, 1) := by decide +kernel
theorem dX8_boundary_72 : decode cX8_boundary 72 = .ok (.aload_n 0, 1) := by decide +kernel
theorem dX8_boundary_73 : decode cX8_boundary 73 = .ok (.getfield 43, 3) := by decide +kernel
theorem dX8_boundary_76 : decode cX8_boundary 76 = .ok (.iload_n 3, 1) := by decide +kernel
theorem dX8_boundary_77 : decode cX8_boundary 77 = .ok (.aload_n 0, 1) := by decide +kernel
theorem dX8_boundary_78 : decode cX8_boundary 78 = .ok (.getfield 10, 3) := by decide +kernel
theorem dX8_boundary_81 : decode cX8_boundary 81 = .ok (.bipush 12, 2) := by decide +kernel
theorem dX8_boundary_83 : decode cX8_boundary 83 = .ok (.invokevirtual 83, 3) := by decide +kernel
theorem dX8_boundary_86 : decode cX8_boundary 86 = .ok (.invokevirtual 279, 3) := by decide +kernel
theorem dX8_boundary_89 : decode cX8_boundary 89 = .ok (.iload_n 1, 1) := by decide +kernel
theorem dX8_boundary_90 : decode cX8_boundary 90 = .ok (.ifCond .eq 15, 3) := by decide +kernel
theorem dX8_boundary_93 : decode cX8_boundary 93 = .ok (.aload_n 0, 1) := by decide +kernel
theorem dX8_boundary_94 : decode cX8_boundary 94 = .ok (.getfield 10, 3) := by decide +kernel
theorem dX8_boundary_97 : decode cX8_boundary 97 = .ok (.bipush 8, 2) := by decide +kernel
theorem dX8_boundary_99 : decode cX8_boundary 99 = .ok (.invokevirtual 83, 3) := by decide +kernel
theorem dX8_boundary_102 : decode cX8_boundary 102 = .ok (.goto 4, 3) := by decide +kernel
theorem dX8_boundary_105 : decode cX8_boundary 105 = .ok (.iconst 0, 1) := by decide +kernel
theorem dX8_boundary_106 : decode cX8_boundary 106 = .ok (.istore 4, 2) := by decide +kernel
theorem dX8_boundary_108 : decode cX8_boundary 108 = .ok (.aload_n 0, 1) := by decide +kernel
theorem dX8_boundary_109 : decode cX8_boundary 109 = .ok (.getfield 43, 3) := by decide +kernel
theorem dX8_boundary_112 : decode cX8_boundary 112 = .ok (.iload_n 3, 1) := by decide +kernel
theorem dX8_boundary_113 : decode cX8_boundary 113 = .ok (.iload 4, 2) := by decide +kernel
theorem dX8_boundary_115 : decode cX8_boundary 115 = .ok (.iadd, 1) := by decide +kernel
theorem dX8_boundary_116 : decode cX8_boundary 116 = .ok (.aload_n 0, 1) := by decide +kernel
theorem dX8_boundary_117 : decode cX8_boundary 117 = .ok (.getfield 10, 3) := by decide +kernel
theorem dX8_boundary_120 : decode cX8_boundary 120 = .ok (.bipush 11, 2) := by decide +kernel
theorem dX8_boundary_122 : decode cX8_boundary 122 = .ok (.invokevirtual 83, 3) := by decide +kernel
theorem dX8_boundary_125 : decode cX8_boundary 125 = .ok (.iconst 1, 1) := by decide +kernel
theorem dX8_boundary_126 : decode cX8_boundary 126 = .ok (.if_icmp .ne 7, 3) := by decide +kernel
theorem dX8_boundary_129 : decode cX8_boundary 129 = .ok (.iconst 1, 1) := by decide +kernel
theorem dX8_boundary_130 : decode cX8_boundary 130 = .ok (.goto 4, 3) := by decide +kernel
theorem dX8_boundary_133 : decode cX8_boundary 133 = .ok (.iconst 0, 1) := by decide +kernel
theorem dX8_boundary_134 : decode cX8_boundary 134 = .ok (.invokevirtual 282, 3) := by decide +kernel
theorem dX8_boundary_137 : decode cX8_boundary 137 = .ok (.return_, 1) := by decide +kernel
set_option maxRecDepth 20000 in
theorem ggX8_leaveMode_X0_stopAv : GoodIn wsX8_leaveMode wsX0_stopAv := goodIn_r _ [10, 11, 42, 43, 44, 45, 46, 47] (by decide +kernel) (by decide +kernel)
set_option maxRecDepth 20000 in
theorem gX8_leaveMode_X0_stopAv : GoodIn wsX8_leaveMode (wsV RX8 285 RX0 yX0_stopAv wsX0_stopAv) := goodIn_app (goodIn_of _ (by decide +kernel)) ggX8_leaveMode_X0_stopAv
set_option maxRecDepth 20000 in
theorem ggX8_leaveMode_X4_keep : GoodIn wsX8_leaveMode wsX4_keep := goodIn_r _ [16, 17, 18, 19, 20, 48, 49, 50, 51] (by decide +kernel) (by decide +kernel)
set_option maxRecDepth 20000 in
theorem gX8_leaveMode_X4_keep : GoodIn wsX8_leaveMode (wsV RX8 241 RX4 yX4_keep wsX4_keep) := goodIn_app (goodIn_of _ (by decide +kernel)) ggX8_leaveMode_X4_keep
set_option maxRecDepth 20000 in
theorem ggX8_leaveMode_X2_forget : GoodIn wsX8_leaveMode wsX2_forget := goodIn_r _ [25, 26, 27, 28, 39, 40, 41] (by decide +kernel) (by decide +kernel)
set_option maxRecDepth 20000 in
theorem gX8_leaveMode_X2_forget : GoodIn wsX8_leaveMode (wsV RX8 288 RX2 yX2_forget wsX2_forget) := goodIn_app (goodIn_of _ (by decide +kernel)) ggX8_leaveMode_X2_forget
theorem dX8_leaveMode_0 : decode cX8_leaveMode 0 = .ok (.aload_n 0, 1) := by decide +kernel
theorem dX8_leaveMode_1 : decode cX8_leaveMode 1 = .ok (.getfield 19, 3) := by decide +kernel
theorem dX8_leaveMode_4 : decode cX8_leaveMode 4 = .ok (.invokevirtual 285, 3) := by decide +kernel
theorem dX8_leaveMode_7 : decode cX8_leaveMode 7 = .ok (.aload_n 0, 1) := by decide +kernel
theorem dX8_leaveMode_8 : decode cX8_leaveMode 8 = .ok (.getfield 36, 3) := by decide +kernel
theorem dX8_leaveMode_11 : decode cX8_leaveMode 11 = .ok (.getfield 189, 3) := by decide +kernel
theorem dX8_leaveMode_14 : decode cX8_leaveMode 14 = .ok (.ifCond .eq 18, 3) := by decide +kernel
theorem dX8_leaveMode_17 : decode cX8_leaveMode 17 = .ok (.aload_n 0, 1) := by decide +kernel
theorem dX8_leaveMode_18 : decode cX8_leaveMode 18 = .ok (.getfield 57, 3) := by decide +kernel
theorem dX8_leaveMode_21 : decode cX8_leaveMode 21 = .ok (.iconst 5, 1) := by decide +kernel
theorem dX8_leaveMode_22 : decode cX8_leaveMode 22 = .ok (.aload_n 0, 1) := by decide +kernel
theorem dX8_leaveMode_23 : decode cX8_leaveMode 23 = .ok (.getfield 19, 3) := by decide +kernel
theorem dX8_leaveMode_26 : decode cX8_leaveMode 26 = .ok (.getfield 186, 3) := by decide +kernel
theorem dX8_leaveMode_29 : decode cX8_leaveMode 29 = .ok (.invokevirtual 241, 3) := by decide +kernel
theorem dX8_leaveMode_32 : decode cX8_leaveMode 32 = .ok (.aload_n 0, 1) := by decide +kernel
theorem dX8_leaveMode_33 : decode cX8_leaveMode 33 = .ok (.getfield 36, 3) := by decide +kernel
theorem dX8_leaveMode_36 : decode cX8_leaveMode 36 = .ok (.invokevirtual 288, 3) := by decide +kernel
theorem dX8_leaveMode_39 : decode cX8_leaveMode 39 = .ok (.return_, 1) := by decide +kernel
set_option maxRecDepth 20000 in
theorem ggX8_obey_X6_exists : GoodIn wsX8_obey wsX6_exists := goodIn_r _ [6] (by decide +kernel) (by decide +kernel)
set_option maxRecDepth 20000 in
theorem gX8_obey_X6_exists : GoodIn wsX8_obey (va_wsS RX8 291 yX6_exists wsX6_exists) := goodIn_app (goodIn_of _ (by decide +kernel)) ggX8_obey_X6_exists
set_option maxRecDepth 20000 in
theorem ggX8_obey_X6_inForce : GoodIn wsX8_obey wsX6_inForce := goodIn_r _ [10, 11, 12, 4, 5, 6, 32, 33] (by decide +kernel) (by decide +kernel)
set_option maxRecDepth 20000 in
theorem gX8_obey_X6_inForce : GoodIn wsX8_obey (wsV RX8 83 RX6 yX6_inForce wsX6_inForce) := goodIn_app (goodIn_of _ (by decide +kernel)) ggX8_obey_X6_inForce
set_option maxRecDepth 20000 in
theorem ggX8_obey_X6_allows : GoodIn wsX8_obey wsX6_allows := goodIn_r _ [15, 12, 4, 5, 6] (by decide +kernel) (by decide +kernel)
set_option maxRecDepth 20000 in
theorem gX8_obey_X6_allows : GoodIn wsX8_obey (va_wsS RX8 107 yX6_allows wsX6_allows) := goodIn_app (goodIn_of _ (by decide +kernel)) ggX8_obey_X6_allows
set_option maxRecDepth 20000 in
theorem ggX8_obey_X6_ask : GoodIn wsX8_obey wsX6_ask := goodIn_r _ [19, 20, 21, 14, 5, 15, 12, 4, 6, 32, 33] (by decide +kernel) (by decide +kernel)
set_option maxRecDepth 20000 in
theorem gX8_obey_X6_ask : GoodIn wsX8_obey (wsV RX8 119 RX6 yX6_ask wsX6_ask) := goodIn_app (goodIn_of _ (by decide +kernel)) ggX8_obey_X6_ask
theorem dX8_obey_0 : decode cX8_obey 0 = .ok (.iload_n 1, 1) := by decide +kernel
theorem dX8_obey_1 : decode cX8_obey 1 = .ok (.iconst 2, 1) := by decide +kernel
theorem dX8_obey_2 : decode cX8_obey 2 = .ok (.if_icmp .ne 19, 3) := by decide +kernel
theorem dX8_obey_5 : decode cX8_obey 5 = .ok (.iload_n 2, 1) := by decide +kernel
theorem dX8_obey_6 : decode cX8_obey 6 = .ok (.invokestatic 291, 3) := by decide +kernel
theorem dX8_obey_9 : decode cX8_obey 9 = .ok (.ifCond .eq 12, 3) := by decide +kernel
theorem dX8_obey_12 : decode cX8_obey 12 = .ok (.aload_n 0, 1) := by decide +kernel
theorem dX8_obey_13 : decode cX8_obey 13 = .ok (.getfield 10, 3) := by decide +kernel
theorem dX8_obey_16 : decode cX8_obey 16 = .ok (.iload_n 2, 1) := by decide +kernel
theorem dX8_obey_17 : decode cX8_obey 17 = .ok (.invokevirtual 83, 3) := by decide +kernel
theorem dX8_obey_20 : decode cX8_obey 20 = .ok (.ireturn, 1) := by decide +kernel
theorem dX8_obey_21 : decode cX8_obey 21 = .ok (.iload_n 1, 1) := by decide +kernel
theorem dX8_obey_22 : decode cX8_obey 22 = .ok (.iconst 1, 1) := by decide +kernel
theorem dX8_obey_23 : decode cX8_obey 23 = .ok (.if_icmp .ne 11, 3) := by decide +kernel
theorem dX8_obey_26 : decode cX8_obey 26 = .ok (.iload_n 2, 1) := by decide +kernel
theorem dX8_obey_27 : decode cX8_obey 27 = .ok (.iload_n 3, 1) := by decide +kernel
theorem dX8_obey_28 : decode cX8_obey 28 = .ok (.invokestatic 107, 3) := by decide +kernel
theorem dX8_obey_31 : decode cX8_obey 31 = .ok (.ifCond .ne 6, 3) := by decide +kernel
theorem dX8_obey_34 : decode cX8_obey 34 = .ok (.bipush (-3), 2) := by decide +kernel
theorem dX8_obey_36 : decode cX8_obey 36 = .ok (.ireturn, 1) := by decide +kernel
end
section
theorem dX8_obey_37 : decode cX8_obey 37 = .ok (.aload_n 0, 1) := by decide +kernel
theorem dX8_obey_38 : decode cX8_obey 38 = .ok (.getfield 68, 3) := by decide +kernel
theorem dX8_obey_41 : decode cX8_obey 41 = .ok (.iconst 3, 1) := by decide +kernel
theorem dX8_obey_42 : decode cX8_obey 42 = .ok (.if_icmp .ne 6, 3) := by decide +kernel
theorem dX8_obey_45 : decode cX8_obey 45 = .ok (.bipush (-4), 2) := by decide +kernel
theorem dX8_obey_47 : decode cX8_obey 47 = .ok (.ireturn, 1) := by decide +kernel
theorem dX8_obey_48 : decode cX8_obey 48 = .ok (.aload_n 0, 1) := by decide +kernel
theorem dX8_obey_49 : decode cX8_obey 49 = .ok (.getfield 10, 3) := by decide +kernel
theorem dX8_obey_52 : decode cX8_obey 52 = .ok (.iload_n 2, 1) := by decide +kernel
theorem dX8_obey_53 : decode cX8_obey 53 = .ok (.iload_n 3, 1) := by decide +kernel
theorem dX8_obey_54 : decode cX8_obey 54 = .ok (.invokevirtual 119, 3) := by decide +kernel
theorem dX8_obey_57 : decode cX8_obey 57 = .ok (.iconst 0, 1) := by decide +kernel
theorem dX8_obey_58 : decode cX8_obey 58 = .ok (.ireturn, 1) := by decide +kernel
set_option maxRecDepth 20000 in
theorem ggX8_askForSafety_X6_dropPending : GoodIn wsX8_askForSafety wsX6_dropPending := goodIn_r _ [6, 7, 8, 9, 10, 11, 32, 33] (by decide +kernel) (by decide +kernel)
set_option maxRecDepth 20000 in
theorem gX8_askForSafety_X6_dropPending : GoodIn wsX8_askForSafety (wsV RX8 294 RX6 yX6_dropPending wsX6_dropPending) := goodIn_app (goodIn_of _ (by decide +kernel)) ggX8_askForSafety_X6_dropPending
set_option maxRecDepth 20000 in
theorem ggX8_askForSafety_X6_ask : GoodIn wsX8_askForSafety wsX6_ask := goodIn_r _ [15, 7, 16, 17, 5, 18, 19, 20, 21, 32, 33] (by decide +kernel) (by decide +kernel)
set_option maxRecDepth 20000 in
theorem gX8_askForSafety_X6_ask : GoodIn wsX8_askForSafety (wsV RX8 119 RX6 yX6_ask wsX6_ask) := goodIn_app (goodIn_of _ (by decide +kernel)) ggX8_askForSafety_X6_ask
theorem dX8_askForSafety_0 : decode cX8_askForSafety 0 = .ok (.aload_n 0, 1) := by decide +kernel
theorem dX8_askForSafety_1 : decode cX8_askForSafety 1 = .ok (.getfield 10, 3) := by decide +kernel
theorem dX8_askForSafety_4 : decode cX8_askForSafety 4 = .ok (.invokevirtual 294, 3) := by decide +kernel
theorem dX8_askForSafety_7 : decode cX8_askForSafety 7 = .ok (.aload_n 0, 1) := by decide +kernel
theorem dX8_askForSafety_8 : decode cX8_askForSafety 8 = .ok (.getfield 10, 3) := by decide +kernel
theorem dX8_askForSafety_11 : decode cX8_askForSafety 11 = .ok (.iconst 0, 1) := by decide +kernel
theorem dX8_askForSafety_12 : decode cX8_askForSafety 12 = .ok (.iconst 3, 1) := by decide +kernel
theorem dX8_askForSafety_13 : decode cX8_askForSafety 13 = .ok (.invokevirtual 119, 3) := by decide +kernel
theorem dX8_askForSafety_16 : decode cX8_askForSafety 16 = .ok (.aload_n 0, 1) := by decide +kernel
theorem dX8_askForSafety_17 : decode cX8_askForSafety 17 = .ok (.getfield 10, 3) := by decide +kernel
theorem dX8_askForSafety_20 : decode cX8_askForSafety 20 = .ok (.iconst 1, 1) := by decide +kernel
theorem dX8_askForSafety_21 : decode cX8_askForSafety 21 = .ok (.bipush 100, 2) := by decide +kernel
theorem dX8_askForSafety_23 : decode cX8_askForSafety 23 = .ok (.invokevirtual 119, 3) := by decide +kernel
theorem dX8_askForSafety_26 : decode cX8_askForSafety 26 = .ok (.aload_n 0, 1) := by decide +kernel
theorem dX8_askForSafety_27 : decode cX8_askForSafety 27 = .ok (.getfield 10, 3) := by decide +kernel
theorem dX8_askForSafety_30 : decode cX8_askForSafety 30 = .ok (.bipush 8, 2) := by decide +kernel
theorem dX8_askForSafety_32 : decode cX8_askForSafety 32 = .ok (.iconst 0, 1) := by decide +kernel
theorem dX8_askForSafety_33 : decode cX8_askForSafety 33 = .ok (.invokevirtual 119, 3) := by decide +kernel
theorem dX8_askForSafety_36 : decode cX8_askForSafety 36 = .ok (.aload_n 0, 1) := by decide +kernel
theorem dX8_askForSafety_37 : decode cX8_askForSafety 37 = .ok (.getfield 10, 3) := by decide +kernel
theorem dX8_askForSafety_40 : decode cX8_askForSafety 40 = .ok (.bipush 11, 2) := by decide +kernel
theorem dX8_askForSafety_42 : decode cX8_askForSafety 42 = .ok (.iconst 0, 1) := by decide +kernel
theorem dX8_askForSafety_43 : decode cX8_askForSafety 43 = .ok (.invokevirtual 119, 3) := by decide +kernel
theorem dX8_askForSafety_46 : decode cX8_askForSafety 46 = .ok (.return_, 1) := by decide +kernel
theorem dX8_isLedByA_0 : decode cX8_isLedByA 0 = .ok (.iload_n 0, 1) := by decide +kernel
theorem dX8_isLedByA_1 : decode cX8_isLedByA 1 = .ok (.iconst 1, 1) := by decide +kernel
theorem dX8_isLedByA_2 : decode cX8_isLedByA 2 = .ok (.if_icmp .eq 8, 3) := by decide +kernel
theorem dX8_isLedByA_5 : decode cX8_isLedByA 5 = .ok (.iload_n 0, 1) := by decide +kernel
theorem dX8_isLedByA_6 : decode cX8_isLedByA 6 = .ok (.iconst 4, 1) := by decide +kernel
theorem dX8_isLedByA_7 : decode cX8_isLedByA 7 = .ok (.if_icmp .ne 7, 3) := by decide +kernel
theorem dX8_isLedByA_10 : decode cX8_isLedByA 10 = .ok (.iconst 1, 1) := by decide +kernel
theorem dX8_isLedByA_11 : decode cX8_isLedByA 11 = .ok (.goto 4, 3) := by decide +kernel
theorem dX8_isLedByA_14 : decode cX8_isLedByA 14 = .ok (.iconst 0, 1) := by decide +kernel
theorem dX8_isLedByA_15 : decode cX8_isLedByA 15 = .ok (.ireturn, 1) := by decide +kernel
theorem dX8_pacesBoth_0 : decode cX8_pacesBoth 0 = .ok (.iload_n 0, 1) := by decide +kernel
theorem dX8_pacesBoth_1 : decode cX8_pacesBoth 1 = .ok (.iconst 2, 1) := by decide +kernel
theorem dX8_pacesBoth_2 : decode cX8_pacesBoth 2 = .ok (.if_icmp .eq 15, 3) := by decide +kernel
theorem dX8_pacesBoth_5 : decode cX8_pacesBoth 5 = .ok (.iload_n 0, 1) := by decide +kernel
theorem dX8_pacesBoth_6 : decode cX8_pacesBoth 6 = .ok (.bipush 6, 2) := by decide +kernel
theorem dX8_pacesBoth_8 : decode cX8_pacesBoth 8 = .ok (.if_icmp .eq 9, 3) := by decide +kernel
theorem dX8_pacesBoth_11 : decode cX8_pacesBoth 11 = .ok (.iload_n 0, 1) := by decide +kernel
theorem dX8_pacesBoth_12 : decode cX8_pacesBoth 12 = .ok (.bipush 7, 2) := by decide +kernel
theorem dX8_pacesBoth_14 : decode cX8_pacesBoth 14 = .ok (.if_icmp .ne 7, 3) := by decide +kernel
theorem dX8_pacesBoth_17 : decode cX8_pacesBoth 17 = .ok (.iconst 1, 1) := by decide +kernel
theorem dX8_pacesBoth_18 : decode cX8_pacesBoth 18 = .ok (.goto 4, 3) := by decide +kernel
theorem dX8_pacesBoth_21 : decode cX8_pacesBoth 21 = .ok (.iconst 0, 1) := by decide +kernel
theorem dX8_pacesBoth_22 : decode cX8_pacesBoth 22 = .ok (.ireturn, 1) := by decide +kernel
theorem dX8_sensesA_0 : decode cX8_sensesA 0 = .ok (.iload_n 0, 1) := by decide +kernel
theorem dX8_sensesA_1 : decode cX8_sensesA 1 = .ok (.iconst 4, 1) := by decide +kernel
theorem dX8_sensesA_2 : decode cX8_sensesA 2 = .ok (.if_icmp .lt 7, 3) := by decide +kernel
theorem dX8_sensesA_5 : decode cX8_sensesA 5 = .ok (.iconst 1, 1) := by decide +kernel
theorem dX8_sensesA_6 : decode cX8_sensesA 6 = .ok (.goto 4, 3) := by decide +kernel
theorem dX8_sensesA_9 : decode cX8_sensesA 9 = .ok (.iconst 0, 1) := by decide +kernel
theorem dX8_sensesA_10 : decode cX8_sensesA 10 = .ok (.ireturn, 1) := by decide +kernel
theorem dX8_sensesV_0 : decode cX8_sensesV 0 = .ok (.iload_n 0, 1) := by decide +kernel
theorem dX8_sensesV_1 : decode cX8_sensesV 1 = .ok (.iconst 3, 1) := by decide +kernel
theorem dX8_sensesV_2 : decode cX8_sensesV 2 = .ok (.if_icmp .eq 8, 3) := by decide +kernel
theorem dX8_sensesV_5 : decode cX8_sensesV 5 = .ok (.iload_n 0, 1) := by decide +kernel
theorem dX8_sensesV_6 : decode cX8_sensesV 6 = .ok (.iconst 5, 1) := by decide +kernel
theorem dX8_sensesV_7 : decode cX8_sensesV 7 = .ok (.if_icmp .lt 7, 3) := by decide +kernel
theorem dX8_sensesV_10 : decode cX8_sensesV 10 = .ok (.iconst 1, 1) := by decide +kernel
theorem dX8_sensesV_11 : decode cX8_sensesV 11 = .ok (.goto 4, 3) := by decide +kernel
theorem dX8_sensesV_14 : decode cX8_sensesV 14 = .ok (.iconst 0, 1) := by decide +kernel
theorem dX8_sensesV_15 : decode cX8_sensesV 15 = .ok (.ireturn, 1) := by decide +kernel
theorem dX8_follows_0 : decode cX8_follows 0 = .ok (.iload_n 0, 1) := by decide +kernel
theorem dX8_follows_1 : decode cX8_follows 1 = .ok (.iconst 5, 1) := by decide +kernel
theorem dX8_follows_2 : decode cX8_follows 2 = .ok (.if_icmp .eq 9, 3) := by decide +kernel
theorem dX8_follows_5 : decode cX8_follows 5 = .ok (.iload_n 0, 1) := by decide +kernel
theorem dX8_follows_6 : decode cX8_follows 6 = .ok (.bipush 7, 2) := by decide +kernel
theorem dX8_follows_8 : decode cX8_follows 8 = .ok (.if_icmp .ne 7, 3) := by decide +kernel
theorem dX8_follows_11 : decode cX8_follows 11 = .ok (.iconst 1, 1) := by decide +kernel
theorem dX8_follows_12 : decode cX8_follows 12 = .ok (.goto 4, 3) := by decide +kernel
theorem dX8_follows_15 : decode cX8_follows 15 = .ok (.iconst 0, 1) := by decide +kernel
theorem dX8_follows_16 : decode cX8_follows 16 = .ok (.ireturn, 1) := by decide +kernel
theorem dX8_statusOf_0 : decode cX8_statusOf 0 = .ok (.iload_n 0, 1) := by decide +kernel
theorem dX8_statusOf_1 : decode cX8_statusOf 1 = .ok (.sipush 280, 3) := by decide +kernel
theorem dX8_statusOf_4 : decode cX8_statusOf 4 = .ok (.if_icmp .lt 5, 3) := by decide +kernel
theorem dX8_statusOf_7 : decode cX8_statusOf 7 = .ok (.iconst 0, 1) := by decide +kernel
theorem dX8_statusOf_8 : decode cX8_statusOf 8 = .ok (.ireturn, 1) := by decide +kernel
theorem dX8_statusOf_9 : decode cX8_statusOf 9 = .ok (.iload_n 0, 1) := by decide +kernel
theorem dX8_statusOf_10 : decode cX8_statusOf 10 = .ok (.sipush 250, 3) := by decide +kernel
theorem dX8_statusOf_13 : decode cX8_statusOf 13 = .ok (.if_icmp .lt 5, 3) := by decide +kernel
theorem dX8_statusOf_16 : decode cX8_statusOf 16 = .ok (.iconst 1, 1) := by decide +kernel
theorem dX8_statusOf_17 : decode cX8_statusOf 17 = .ok (.ireturn, 1) := by decide +kernel
theorem dX8_statusOf_18 : decode cX8_statusOf 18 = .ok (.iload_n 0, 1) := by decide +kernel
theorem dX8_statusOf_19 : decode cX8_statusOf 19 = .ok (.sipush 220, 3) := by decide +kernel
theorem dX8_statusOf_22 : decode cX8_statusOf 22 = .ok (.if_icmp .lt 7, 3) := by decide +kernel
theorem dX8_statusOf_25 : decode cX8_statusOf 25 = .ok (.iconst 2, 1) := by decide +kernel
theorem dX8_statusOf_26 : decode cX8_statusOf 26 = .ok (.goto 4, 3) := by decide +kernel
theorem dX8_statusOf_29 : decode cX8_statusOf 29 = .ok (.iconst 3, 1) := by decide +kernel
theorem dX8_statusOf_30 : decode cX8_statusOf 30 = .ok (.ireturn, 1) := by decide +kernel
theorem dX8_nearest_0 : decode cX8_nearest 0 = .ok (.iload_n 0, 1) := by decide +kernel
theorem dX8_nearest_1 : decode cX8_nearest 1 = .ok (.iload_n 1, 1) := by decide +kernel
theorem dX8_nearest_2 : decode cX8_nearest 2 = .ok (.if_icmp .ge 5, 3) := by decide +kernel
theorem dX8_nearest_5 : decode cX8_nearest 5 = .ok (.iload_n 1, 1) := by decide +kernel
theorem dX8_nearest_6 : decode cX8_nearest 6 = .ok (.ireturn, 1) := by decide +kernel
theorem dX8_nearest_7 : decode cX8_nearest 7 = .ok (.iload_n 0, 1) := by decide +kernel
theorem dX8_nearest_8 : decode cX8_nearest 8 = .ok (.iload_n 2, 1) := by decide +kernel
theorem dX8_nearest_9 : decode cX8_nearest 9 = .ok (.if_icmp .le 7, 3) := by decide +kernel
theorem dX8_nearest_12 : decode cX8_nearest 12 = .ok (.iload_n 2, 1) := by decide +kernel
theorem dX8_nearest_13 : decode cX8_nearest 13 = .ok (.goto 4, 3) := by decide +kernel
theorem dX8_nearest_16 : decode cX8_nearest 16 = .ok (.iload_n 0, 1) := by decide +kernel
theorem dX8_nearest_17 : decode cX8_nearest 17 = .ok (.ireturn, 1) := by decide +kernel
set_option maxRecDepth 20000 in
theorem ggX9_init_X9_range : GoodIn wsX9_init wsX9_range := goodIn_r _ [21, 5, 6, 7, 22, 23, 24, 25, 26, 27, 28, 29, 30, 31, 32, 33, 34, 35, 36, 37, 38, 39, 40, 41, 42, 43, 44, 45, 46, 47, 48, 49, 50, 51, 52] (by decide +kernel) (by decide +kernel)
set_option maxRecDepth 20000 in
theorem gX9_init_X9_range : GoodIn wsX9_init (wsV RX9 45 RX9 yX9_range wsX9_range) := goodIn_app (goodIn_of _ (by decide +kernel)) ggX9_init_X9_range
theorem dX9_init_0 : decode cX9_init 0 = .ok (.aload_n 0, 1) := by decide +kernel
theorem dX9_init_1 : decode cX9_init 1 = .ok (.invokespecial 1, 3) := by decide +kernel
theorem dX9_init_4 : decode cX9_init 4 = .ok (.aload_n 0, 1) := by decide +kernel
theorem dX9_init_5 : decode cX9_init 5 = .ok (.bipush 14, 2) := by decide +kernel
theorem dX9_init_7 : decode cX9_init 7 = .ok (.newarray .int, 2) := by decide +kernel
theorem dX9_init_9 : decode cX9_init 9 = .ok (.putfield 7, 3) := by decide +kernel
theorem dX9_init_12 : decode cX9_init 12 = .ok (.aload_n 0, 1) := by decide +kernel
theorem dX9_init_13 : decode cX9_init 13 = .ok (.bipush 14, 2) := by decide +kernel
theorem dX9_init_15 : decode cX9_init 15 = .ok (.newarray .int, 2) := by decide +kernel
theorem dX9_init_17 : decode cX9_init 17 = .ok (.putfield 13, 3) := by decide +kernel
theorem dX9_init_20 : decode cX9_init 20 = .ok (.aload_n 0, 1) := by decide +kernel
theorem dX9_init_21 : decode cX9_init 21 = .ok (.bipush 14, 2) := by decide +kernel
theorem dX9_init_23 : decode cX9_init 23 = .ok (.newarray .int, 2) := by decide +kernel
theorem dX9_init_25 : decode cX9_init 25 = .ok (.putfield 16, 3) := by decide +kernel
theorem dX9_init_28 : decode cX9_init 28 = .ok (.aload_n 0, 1) := by decide +kernel
theorem dX9_init_29 : decode cX9_init 29 = .ok (.bipush 14, 2) := by decide +kernel
theorem dX9_init_31 : decode cX9_init 31 = .ok (.newarray .int, 2) := by decide +kernel
theorem dX9_init_33 : decode cX9_init 33 = .ok (.putfield 19, 3) := by decide +kernel
theorem dX9_init_36 : decode cX9_init 36 = .ok (.aload_n 0, 1) := by decide +kernel
theorem dX9_init_37 : decode cX9_init 37 = .ok (.bipush 14, 2) := by decide +kernel
theorem dX9_init_39 : decode cX9_init 39 = .ok (.newarray .boolean, 2) := by decide +kernel
theorem dX9_init_41 : decode cX9_init 41 = .ok (.putfield 22, 3) := by decide +kernel
theorem dX9_init_44 : decode cX9_init 44 = .ok (.aload_n 0, 1) := by decide +kernel
theorem dX9_init_45 : decode cX9_init 45 = .ok (.bipush 100, 2) := by decide +kernel
theorem dX9_init_47 : decode cX9_init 47 = .ok (.putfield 26, 3) := by decide +kernel
theorem dX9_init_50 : decode cX9_init 50 = .ok (.aload_n 0, 1) := by decide +kernel
theorem dX9_init_51 : decode cX9_init 51 = .ok (.bipush 100, 2) := by decide +kernel
theorem dX9_init_53 : decode cX9_init 53 = .ok (.putfield 30, 3) := by decide +kernel
theorem dX9_init_56 : decode cX9_init 56 = .ok (.aload_n 0, 1) := by decide +kernel
theorem dX9_init_57 : decode cX9_init 57 = .ok (.bipush 8, 2) := by decide +kernel
theorem dX9_init_59 : decode cX9_init 59 = .ok (.newarray .int, 2) := by decide +kernel
theorem dX9_init_61 : decode cX9_init 61 = .ok (.putfield 33, 3) := by decide +kernel
theorem dX9_init_64 : decode cX9_init 64 = .ok (.aload_n 0, 1) := by decide +kernel
theorem dX9_init_65 : decode cX9_init 65 = .ok (.bipush 6, 2) := by decide +kernel
theorem dX9_init_67 : decode cX9_init 67 = .ok (.newarray .int, 2) := by decide +kernel
theorem dX9_init_69 : decode cX9_init 69 = .ok (.putfield 36, 3) := by decide +kernel
theorem dX9_init_72 : decode cX9_init 72 = .ok (.aload_n 0, 1) := by decide +kernel
theorem dX9_init_73 : decode cX9_init 73 = .ok (.bipush 12, 2) := by decide +kernel
theorem dX9_init_75 : decode cX9_init 75 = .ok (.newarray .int, 2) := by decide +kernel
theorem dX9_init_77 : decode cX9_init 77 = .ok (.putfield 39, 3) := by decide +kernel
theorem dX9_init_80 : decode cX9_init 80 = .ok (.aload_n 0, 1) := by decide +kernel
theorem dX9_init_81 : decode cX9_init 81 = .ok (.bipush 12, 2) := by decide +kernel
theorem dX9_init_83 : decode cX9_init 83 = .ok (.newarray .int, 2) := by decide +kernel
theorem dX9_init_85 : decode cX9_init 85 = .ok (.putfield 42, 3) := by decide +kernel
theorem dX9_init_88 : decode cX9_init 88 = .ok (.aload_n 0, 1) := by decide +kernel
theorem dX9_init_89 : decode cX9_init 89 = .ok (.iconst 0, 1) := by decide +kernel
theorem dX9_init_90 : decode cX9_init 90 = .ok (.iconst 0, 1) := by decide +kernel
theorem dX9_init_91 : decode cX9_init 91 = .ok (.bipush 7, 2) := by decide +kernel
theorem dX9_init_93 : decode cX9_init 93 = .ok (.bipush 7, 2) := by decide +kernel
theorem dX9_init_95 : decode cX9_init 95 = .ok (.invokevirtual 45, 3) := by decide +kernel
theorem dX9_init_98 : decode cX9_init 98 = .ok (.aload_n 0, 1) := by decide +kernel
theorem dX9_init_99 : decode cX9_init 99 = .ok (.iconst 1, 1) := by decide +kernel
theorem dX9_init_100 : decode cX9_init 100 = .ok (.bipush 30, 2) := by decide +kernel
theorem dX9_init_102 : decode cX9_init 102 = .ok (.sipush 200, 3) := by decide +kernel
theorem dX9_init_105 : decode cX9_init 105 = .ok (.bipush 100, 2) := by decide +kernel
theorem dX9_init_107 : decode cX9_init 107 = .ok (.invokevirtual 45, 3) := by decide +kernel
theorem dX9_init_110 : decode cX9_init 110 = .ok (.aload_n 0, 1) := by decide +kernel
theorem dX9_init_111 : decode cX9_init 111 = .ok (.iconst 2, 1) := by decide +kernel
theorem dX9_init_112 : decode cX9_init 112 = .ok (.bipush 20, 2) := by decide +kernel
theorem dX9_init_114 : decode cX9_init 114 = .ok (.bipush 120, 2) := by decide +kernel
theorem dX9_init_116 : decode cX9_init 116 = .ok (.bipush 50, 2) := by decide +kernel
theorem dX9_init_118 : decode cX9_init 118 = .ok (.invokevirtual 45, 3) := by decide +kernel
theorem dX9_init_121 : decode cX9_init 121 = .ok (.aload_n 0, 1) := by decide +kernel
theorem dX9_init_122 : decode cX9_init 122 = .ok (.iconst 3, 1) := by decide +kernel
theorem dX9_init_123 : decode cX9_init 123 = .ok (.iconst 5, 1) := by decide +kernel
theorem dX9_init_124 : decode cX9_init 124 = .ok (.bipush 30, 2) := by decide +kernel
theorem dX9_init_126 : decode cX9_init 126 = .ok (.bipush 15, 2) := by decide +kernel
theorem dX9_init_128 : decode cX9_init 128 = .ok (.invokevirtual 45, 3) := by decide +kernel
theorem dX9_init_131 : decode cX9_init 131 = .ok (.aload_n 0, 1) := by decide +kernel
theorem dX9_init_132 : decode cX9_init 132 = .ok (.iconst 4, 1) := by decide +kernel
theorem dX9_init_133 : decode cX9_init 133 = .ok (.bipush 10, 2) := by decide +kernel
theorem dX9_init_135 : decode cX9_init 135 = .ok (.bipush 60, 2) := by decide +kernel
theorem dX9_init_137 : decode cX9_init 137 = .ok (.bipush 25, 2) := by decide +kernel
theorem dX9_init_139 : decode cX9_init 139 = .ok (.invokevirtual 45, 3) := by decide +kernel
theorem dX9_init_142 : decode cX9_init 142 = .ok (.aload_n 0, 1) := by decide +kernel
theorem dX9_init_143 : decode cX9_init 143 = .ok (.iconst 5, 1) := by decide +kernel
theorem dX9_init_144 : decode cX9_init 144 = .ok (.bipush 10, 2) := by decide +kernel
theorem dX9_init_146 : decode cX9_init 146 = .ok (.bipush 60, 2) := by decide +kernel
theorem dX9_init_148 : decode cX9_init 148 = .ok (.bipush 30, 2) := by decide +kernel
theorem dX9_init_150 : decode cX9_init 150 = .ok (.invokevirtual 45, 3) := by decide +kernel
theorem dX9_init_153 : decode cX9_init 153 = .ok (.aload_n 0, 1) := by decide +kernel
theorem dX9_init_154 : decode cX9_init 154 = .ok (.bipush 6, 2) := by decide +kernel
theorem dX9_init_156 : decode cX9_init 156 = .ok (.iconst 5, 1) := by decide +kernel
theorem dX9_init_157 : decode cX9_init 157 = .ok (.bipush 60, 2) := by decide +kernel
theorem dX9_init_159 : decode cX9_init 159 = .ok (.bipush 20, 2) := by decide +kernel
theorem dX9_init_161 : decode cX9_init 161 = .ok (.invokevirtual 45, 3) := by decide +kernel
theorem dX9_init_164 : decode cX9_init 164 = .ok (.aload_n 0, 1) := by decide +kernel
theorem dX9_init_165 : decode cX9_init 165 = .ok (.bipush 7, 2) := by decide +kernel
theorem dX9_init_167 : decode cX9_init 167 = .ok (.iconst 0, 1) := by decide +kernel
theorem dX9_init_168 : decode cX9_init 168 = .ok (.bipush 10, 2) := by decide +kernel
theorem dX9_init_170 : decode cX9_init 170 = .ok (.iconst 4, 1) := by decide +kernel
theorem dX9_init_171 : decode cX9_init 171 = .ok (.invokevirtual 45, 3) := by decide +kernel
theorem dX9_init_174 : decode cX9_init 174 = .ok (.aload_n 0, 1) := by decide +kernel
theorem dX9_init_175 : decode cX9_init 175 = .ok (.bipush 8, 2) := by decide +kernel
theorem dX9_init_177 : decode cX9_init 177 = .ok (.iconst 0, 1) := by decide +kernel
theorem dX9_init_178 : decode cX9_init 178 = .ok (.bipush 60, 2) := by decide +kernel
theorem dX9_init_180 : decode cX9_init 180 = .ok (.iconst 0, 1) := by decide +kernel
theorem dX9_init_181 : decode cX9_init 181 = .ok (.invokevirtual 45, 3) := by decide +kernel
theorem dX9_init_184 : decode cX9_init 184 = .ok (.aload_n 0, 1) := by decide +kernel
theorem dX9_init_185 : decode cX9_init 185 = .ok (.bipush 9, 2) := by decide +kernel
theorem dX9_init_187 : decode cX9_init 187 = .ok (.iconst 1, 1) := by decide +kernel
theorem dX9_init_188 : decode cX9_init 188 = .ok (.sipush 500, 3) := by decide +kernel
theorem dX9_init_191 : decode cX9_init 191 = .ok (.bipush 10, 2) := by decide +kernel
theorem dX9_init_193 : decode cX9_init 193 = .ok (.invokevirtual 45, 3) := by decide +kernel
theorem dX9_init_196 : decode cX9_init 196 = .ok (.aload_n 0, 1) := by decide +kernel
theorem dX9_init_197 : decode cX9_init 197 = .ok (.bipush 10, 2) := by decide +kernel
theorem dX9_init_199 : decode cX9_init 199 = .ok (.iconst 1, 1) := by decide +kernel
theorem dX9_init_200 : decode cX9_init 200 = .ok (.sipush 500, 3) := by decide +kernel
theorem dX9_init_203 : decode cX9_init 203 = .ok (.bipush 20, 2) := by decide +kernel
theorem dX9_init_205 : decode cX9_init 205 = .ok (.invokevirtual 45, 3) := by decide +kernel
theorem dX9_init_208 : decode cX9_init 208 = .ok (.aload_n 0, 1) := by decide +kernel
theorem dX9_init_209 : decode cX9_init 209 = .ok (.bipush 11, 2) := by decide +kernel
theorem dX9_init_211 : decode cX9_init 211 = .ok (.iconst 0, 1) := by decide +kernel
theorem dX9_init_212 : decode cX9_init 212 = .ok (.iconst 1, 1) := by decide +kernel
theorem dX9_init_213 : decode cX9_init 213 = .ok (.iconst 0, 1) := by decide +kernel
theorem dX9_init_214 : decode cX9_init 214 = .ok (.invokevirtual 45, 3) := by decide +kernel
theorem dX9_init_217 : decode cX9_init 217 = .ok (.aload_n 0, 1) := by decide +kernel
theorem dX9_init_218 : decode cX9_init 218 = .ok (.bipush 12, 2) := by decide +kernel
theorem dX9_init_220 : decode cX9_init 220 = .ok (.bipush 25, 2) := by decide +kernel
theorem dX9_init_222 : decode cX9_init 222 = .ok (.sipush 150, 3) := by decide +kernel
theorem dX9_init_225 : decode cX9_init 225 = .ok (.bipush 50, 2) := by decide +kernel
theorem dX9_init_227 : decode cX9_init 227 = .ok (.invokevirtual 45, 3) := by decide +kernel
theorem dX9_init_230 : decode cX9_init 230 = .ok (.aload_n 0, 1) := by decide +kernel
theorem dX9_init_231 : decode cX9_init 231 = .ok (.bipush 13, 2) := by decide +kernel
theorem dX9_init_233 : decode cX9_init 233 = .ok (.bipush 10, 2) := by decide +kernel
theorem dX9_init_235 : decode cX9_init 235 = .ok (.bipush 60, 2) := by decide +kernel
theorem dX9_init_237 : decode cX9_init 237 = .ok (.bipush 25, 2) := by decide +kernel
theorem dX9_init_239 : decode cX9_init 239 = .ok (.invokevirtual 45, 3) := by decide +kernel
theorem dX9_init_242 : decode cX9_init 242 = .ok (.return_, 1) := by decide +kernel
theorem dX9_range_0 : decode cX9_range 0 = .ok (.aload_n 0, 1) := by decide +kernel
theorem dX9_range_1 : decode cX9_range 1 = .ok (.getfield 7, 3) := by decide +kernel
theorem dX9_range_4 : decode cX9_range 4 = .ok (.iload_n 1, 1) := by decide +kernel
theorem dX9_range_5 : decode cX9_range 5 = .ok (.iload_n 2, 1) := by decide +kernel
theorem dX9_range_6 : decode cX9_range 6 = .ok (.iastore, 1) := by decide +kernel
theorem dX9_range_7 : decode cX9_range 7 = .ok (.aload_n 0, 1) := by decide +kernel
theorem dX9_range_8 : decode cX9_range 8 = .ok (.getfield 13, 3) := by decide +kernel
theorem dX9_range_11 : decode cX9_range 11 = .ok (.iload_n 1, 1) := by decide +kernel
theorem dX9_range_12 : decode cX9_range 12 = .ok (.iload_n 3, 1) := by decide +kernel
theorem dX9_range_13 : decode cX9_range 13 = .ok (.iastore, 1) := by decide +kernel
theorem dX9_range_14 : decode cX9_range 14 = .ok (.aload_n 0, 1) := by decide +kernel
theorem dX9_range_15 : decode cX9_range 15 = .ok (.getfield 16, 3) := by decide +kernel
theorem dX9_range_18 : decode cX9_range 18 = .ok (.iload_n 1, 1) := by decide +kernel
theorem dX9_range_19 : decode cX9_range 19 = .ok (.iload 4, 2) := by decide +kernel
theorem dX9_range_21 : decode cX9_range 21 = .ok (.iastore, 1) := by decide +kernel
theorem dX9_range_22 : decode cX9_range 22 = .ok (.return_, 1) := by decide +kernel
theorem dX9_thrown_0 : decode cX9_thrown 0 = .ok (.aload_n 0, 1) := by decide +kernel
theorem dX9_thrown_1 : decode cX9_thrown 1 = .ok (.getfield 49, 3) := by decide +kernel
theorem dX9_thrown_4 : decode cX9_thrown 4 = .ok (.ireturn, 1) := by decide +kernel
theorem dX9_mode_0 : decode cX9_mode 0 = .ok (.iload_n 1, 1) := by decide +kernel
theorem dX9_mode_1 : decode cX9_mode 1 = .ok (.aload_n 0, 1) := by decide +kernel
theorem dX9_mode_2 : decode cX9_mode 2 = .ok (.getfield 16, 3) := by decide +kernel
theorem dX9_mode_5 : decode cX9_mode 5 = .ok (.iconst 0, 1) := by decide +kernel
theorem dX9_mode_6 : decode cX9_mode 6 = .ok (.iaload, 1) := by decide +kernel
theorem dX9_mode_7 : decode cX9_mode 7 = .ok (.ishr, 1) := by decide +kernel
theorem dX9_mode_8 : decode cX9_mode 8 = .ok (.iconst 1, 1) := by decide +kernel
theorem dX9_mode_9 : decode cX9_mode 9 = .ok (.iand, 1) := by decide +kernel
theorem dX9_mode_10 : decode cX9_mode 10 = .ok (.iconst 1, 1) := by decide +kernel
theorem dX9_mode_11 : decode cX9_mode 11 = .ok (.if_icmp .ne 7, 3) := by decide +kernel
theorem dX9_mode_14 : decode cX9_mode 14 = .ok (.iconst 1, 1) := by decide +kernel
theorem dX9_mode_15 : decode cX9_mode 15 = .ok (.goto 4, 3) := by decide +kernel
theorem dX9_mode_18 : decode cX9_mode 18 = .ok (.iconst 0, 1) := by decide +kernel
theorem dX9_mode_19 : decode cX9_mode 19 = .ok (.ireturn, 1) := by decide +kernel
theorem dX9_mark_0 : decode cX9_mark 0 = .ok (.aload_n 0, 1) := by decide +kernel
theorem dX9_mark_1 : decode cX9_mark 1 = .ok (.getfield 39, 3) := by decide +kernel
theorem dX9_mark_4 : decode cX9_mark 4 = .ok (.aload_n 0, 1) := by decide +kernel
theorem dX9_mark_5 : decode cX9_mark 5 = .ok (.getfield 52, 3) := by decide +kernel
theorem dX9_mark_8 : decode cX9_mark 8 = .ok (.bipush 12, 2) := by decide +kernel
theorem dX9_mark_10 : decode cX9_mark 10 = .ok (.irem, 1) := by decide +kernel
theorem dX9_mark_11 : decode cX9_mark 11 = .ok (.iload_n 1, 1) := by decide +kernel
theorem dX9_mark_12 : decode cX9_mark 12 = .ok (.iastore, 1) := by decide +kernel
theorem dX9_mark_13 : decode cX9_mark 13 = .ok (.aload_n 0, 1) := by decide +kernel
theorem dX9_mark_14 : decode cX9_mark 14 = .ok (.getfield 42, 3) := by decide +kernel
theorem dX9_mark_17 : decode cX9_mark 17 = .ok (.aload_n 0, 1) := by decide +kernel
theorem dX9_mark_18 : decode cX9_mark 18 = .ok (.getfield 52, 3) := by decide +kernel
theorem dX9_mark_21 : decode cX9_mark 21 = .ok (.bipush 12, 2) := by decide +kernel
theorem dX9_mark_23 : decode cX9_mark 23 = .ok (.irem, 1) := by decide +kernel
theorem dX9_mark_24 : decode cX9_mark 24 = .ok (.aload_n 0, 1) := by decide +kernel
theorem dX9_mark_25 : decode cX9_mark 25 = .ok (.getfield 55, 3) := by decide +kernel
theorem dX9_mark_28 : decode cX9_mark 28 = .ok (.iastore, 1) := by decide +kernel
theorem dX9_mark_29 : decode cX9_mark 29 = .ok (.aload_n 0, 1) := by decide +kernel
theorem dX9_mark_30 : decode cX9_mark 30 = .ok (.dup, 1) := by decide +kernel
theorem dX9_mark_31 : decode cX9_mark 31 = .ok (.getfield 52, 3) := by decide +kernel
theorem dX9_mark_34 : decode cX9_mark 34 = .ok (.iconst 1, 1) := by decide +kernel
theorem dX9_mark_35 : decode cX9_mark 35 = .ok (.iadd, 1) := by decide +kernel
theorem dX9_mark_36 : decode cX9_mark 36 = .ok (.putfield 52, 3) := by decide +kernel
theorem dX9_mark_39 : decode cX9_mark 39 = .ok (.return_, 1) := by decide +kernel
set_option maxRecDepth 20000 in
theorem ggX9_tooFast_X9_mode : GoodIn wsX9_tooFast wsX9_mode := goodIn_r _ [10, 2, 19, 20, 21, 22, 23, 24, 25, 26, 27, 28, 29, 30, 31, 32, 33, 34, 35, 36, 37, 38, 39, 40, 41, 42, 43, 44, 45, 46, 47, 48, 49] (by decide +kernel) (by decide +kernel)
set_option maxRecDepth 20000 in
theorem gX9_tooFast_X9_mode : GoodIn wsX9_tooFast (wsV RX9 58 RX9 yX9_mode wsX9_mode) := goodIn_app (goodIn_of _ (by decide +kernel)) ggX9_tooFast_X9_mode
set_option maxRecDepth 20000 in
theorem ggX9_tooFast_X9_mark : GoodIn wsX9_tooFast wsX9_mark := goodIn_r _ [14, 15, 16, 17, 18, 19, 20, 21, 22, 23, 24, 25, 26, 27, 28, 29, 30, 31, 32, 33, 34, 35, 36, 37, 38, 39, 40, 41, 42, 43, 44, 45, 46, 47, 48, 49] (by decide +kernel) (by decide +kernel)
set_option maxRecDepth 20000 in
theorem gX9_tooFast_X9_mark : GoodIn wsX9_tooFast (wsV RX9 75 RX9 yX9_mark wsX9_mark) := goodIn_app (goodIn_of _ (by decide +kernel)) ggX9_tooFast_X9_mark
theorem dX9_tooFast_0 : decode cX9_tooFast 0 = .ok (.aload_n 0, 1) := by decide +kernel
theorem dX9_tooFast_1 : decode cX9_tooFast 1 = .ok (.sipush 160, 3) := by decide +kernel
theorem dX9_tooFast_4 : decode cX9_tooFast 4 = .ok (.invokevirtual 58, 3) := by decide +kernel
theorem dX9_tooFast_7 : decode cX9_tooFast 7 = .ok (.ifCond .ne 4, 3) := by decide +kernel
theorem dX9_tooFast_10 : decode cX9_tooFast 10 = .ok (.return_, 1) := by decide +kernel
theorem dX9_tooFast_11 : decode cX9_tooFast 11 = .ok (.aload_n 0, 1) := by decide +kernel
theorem dX9_tooFast_12 : decode cX9_tooFast 12 = .ok (.getfield 62, 3) := by decide +kernel
theorem dX9_tooFast_15 : decode cX9_tooFast 15 = .ok (.aload_n 0, 1) := by decide +kernel
theorem dX9_tooFast_16 : decode cX9_tooFast 16 = .ok (.getfield 16, 3) := by decide +kernel
theorem dX9_tooFast_19 : decode cX9_tooFast 19 = .ok (.bipush 13, 2) := by decide +kernel
theorem dX9_tooFast_21 : decode cX9_tooFast 21 = .ok (.iaload, 1) := by decide +kernel
theorem dX9_tooFast_22 : decode cX9_tooFast 22 = .ok (.if_icmp .ge 7, 3) := by decide +kernel
theorem dX9_tooFast_25 : decode cX9_tooFast 25 = .ok (.iconst 1, 1) := by decide +kernel
theorem dX9_tooFast_26 : decode cX9_tooFast 26 = .ok (.goto 4, 3) := by decide +kernel
theorem dX9_tooFast_29 : decode cX9_tooFast 29 = .ok (.iconst 0, 1) := by decide +kernel
theorem dX9_tooFast_30 : decode cX9_tooFast 30 = .ok (.istore_n 1, 1) := by decide +kernel
theorem dX9_tooFast_31 : decode cX9_tooFast 31 = .ok (.aload_n 0, 1) := by decide +kernel
theorem dX9_tooFast_32 : decode cX9_tooFast 32 = .ok (.iload_n 1, 1) := by decide +kernel
theorem dX9_tooFast_33 : decode cX9_tooFast 33 = .ok (.ifCond .eq 12, 3) := by decide +kernel
theorem dX9_tooFast_36 : decode cX9_tooFast 36 = .ok (.aload_n 0, 1) := by decide +kernel
theorem dX9_tooFast_37 : decode cX9_tooFast 37 = .ok (.getfield 65, 3) := by decide +kernel
theorem dX9_tooFast_40 : decode cX9_tooFast 40 = .ok (.iconst 1, 1) := by decide +kernel
theorem dX9_tooFast_41 : decode cX9_tooFast 41 = .ok (.iadd, 1) := by decide +kernel
theorem dX9_tooFast_42 : decode cX9_tooFast 42 = .ok (.goto 4, 3) := by decide +kernel
theorem dX9_tooFast_45 : decode cX9_tooFast 45 = .ok (.iconst 0, 1) := by decide +kernel
theorem dX9_tooFast_46 : decode cX9_tooFast 46 = .ok (.putfield 65, 3) := by decide +kernel
theorem dX9_tooFast_49 : decode cX9_tooFast 49 = .ok (.aload_n 0, 1) := by decide +kernel
theorem dX9_tooFast_50 : decode cX9_tooFast 50 = .ok (.iload_n 1, 1) := by decide +kernel
theorem dX9_tooFast_51 : decode cX9_tooFast 51 = .ok (.ifCond .eq 7, 3) := by decide +kernel
theorem dX9_tooFast_54 : decode cX9_tooFast 54 = .ok (.iconst 0, 1) := by decide +kernel
theorem dX9_tooFast_55 : decode cX9_tooFast 55 = .ok (.goto 9, 3) := by decide +kernel
theorem dX9_tooFast_58 : decode cX9_tooFast 58 = .ok (.aload_n 0, 1) := by decide +kernel
theorem dX9_tooFast_59 : decode cX9_tooFast 59 = .ok (.getfield 68, 3) := by decide +kernel
theorem dX9_tooFast_62 : decode cX9_tooFast 62 = .ok (.iconst 1, 1) := by decide +kernel
theorem dX9_tooFast_63 : decode cX9_tooFast 63 = .ok (.iadd, 1) := by decide +kernel
theorem dX9_tooFast_64 : decode cX9_tooFast 64 = .ok (.putfield 68, 3) := by decide +kernel
theorem dX9_tooFast_67 : decode cX9_tooFast 67 = .ok (.aload_n 0, 1) := by decide +kernel
theorem dX9_tooFast_68 : decode cX9_tooFast 68 = .ok (.getfield 65, 3) := by decide +kernel
theorem dX9_tooFast_71 : decode cX9_tooFast 71 = .ok (.iconst 5, 1) := by decide +kernel
theorem dX9_tooFast_72 : decode cX9_tooFast 72 = .ok (.if_icmp .lt 20, 3) := by decide +kernel
theorem dX9_tooFast_75 : decode cX9_tooFast 75 = .ok (.aload_n 0, 1) := by decide +kernel
theorem dX9_tooFast_76 : decode cX9_tooFast 76 = .ok (.getfield 71, 3) := by decide +kernel
theorem dX9_tooFast_79 : decode cX9_tooFast 79 = .ok (.ifCond .ne 13, 3) := by decide +kernel
theorem dX9_tooFast_82 : decode cX9_tooFast 82 = .ok (.aload_n 0, 1) := by decide +kernel
theorem dX9_tooFast_83 : decode cX9_tooFast 83 = .ok (.iconst 1, 1) := by decide +kernel
theorem dX9_tooFast_84 : decode cX9_tooFast 84 = .ok (.putfield 71, 3) := by decide +kernel
theorem dX9_tooFast_87 : decode cX9_tooFast 87 = .ok (.aload_n 0, 1) := by decide +kernel
theorem dX9_tooFast_88 : decode cX9_tooFast 88 = .ok (.iconst 4, 1) := by decide +kernel
theorem dX9_tooFast_89 : decode cX9_tooFast 89 = .ok (.invokevirtual 75, 3) := by decide +kernel
theorem dX9_tooFast_92 : decode cX9_tooFast 92 = .ok (.aload_n 0, 1) := by decide +kernel
theorem dX9_tooFast_93 : decode cX9_tooFast 93 = .ok (.getfield 68, 3) := by decide +kernel
theorem dX9_tooFast_96 : decode cX9_tooFast 96 = .ok (.iconst 3, 1) := by decide +kernel
theorem dX9_tooFast_97 : decode cX9_tooFast 97 = .ok (.if_icmp .lt 20, 3) := by decide +kernel
theorem dX9_tooFast_100 : decode cX9_tooFast 100 = .ok (.aload_n 0, 1) := by decide +kernel
theorem dX9_tooFast_101 : decode cX9_tooFast 101 = .ok (.getfield 71, 3) := by decide +kernel
theorem dX9_tooFast_104 : decode cX9_tooFast 104 = .ok (.ifCond .eq 13, 3) := by decide +kernel
theorem dX9_tooFast_107 : decode cX9_tooFast 107 = .ok (.aload_n 0, 1) := by decide +kernel
theorem dX9_tooFast_108 : decode cX9_tooFast 108 = .ok (.iconst 0, 1) := by decide +kernel
theorem dX9_tooFast_109 : decode cX9_tooFast 109 = .ok (.putfield 71, 3) := by decide +kernel
theorem dX9_tooFast_112 : decode cX9_tooFast 112 = .ok (.aload_n 0, 1) := by decide +kernel
theorem dX9_tooFast_113 : decode cX9_tooFast 113 = .ok (.iconst 5, 1) := by decide +kernel
theorem dX9_tooFast_114 : decode cX9_tooFast 114 = .ok (.invokevirtual 75, 3) := by decide +kernel
theorem dX9_tooFast_117 : decode cX9_tooFast 117 = .ok (.return_, 1) := by decide +kernel
set_option maxRecDepth 20000 in
theorem ggX9_boundary_X9_mark : GoodIn wsX9_boundary wsX9_mark := goodIn_r _ [18, 19, 20, 21, 8, 22, 23, 24, 25, 26, 27, 28, 29, 30, 31, 32, 33, 34, 35, 36, 37, 38, 39, 40, 41, 42, 43, 44, 45, 46, 47, 48, 49, 50, 51, 52] (by decide +kernel) (by decide +kernel)
set_option maxRecDepth 20000 in
theorem gX9_boundary_X9_mark : GoodIn wsX9_boundary (wsV RX9 75 RX9 yX9_mark wsX9_mark) := goodIn_app (goodIn_of _ (by decide +kernel)) ggX9_boundary_X9_mark
theorem dX9_boundary_0 : decode cX9_boundary 0 = .ok (.aload_n 0, 1) := by decide +kernel
theorem dX9_boundary_1 : decode cX9_boundary 1 = .ok (.getfield 16, 3) := by decide +kernel
theorem dX9_boundary_4 : decode cX9_boundary 4 = .ok (.iconst 0, 1) := by decide +kernel
theorem dX9_boundary_5 : decode cX9_boundary 5 = .ok (.iaload, 1) := by decide +kernel
theorem dX9_boundary_6 : decode cX9_boundary 6 = .ok (.istore_n 2, 1) := by decide +kernel
theorem dX9_boundary_7 : decode cX9_boundary 7 = .ok (.iconst 0, 1) := by decide +kernel
theorem dX9_boundary_8 : decode cX9_boundary 8 = .ok (.istore_n 3, 1) := by decide +kernel
theorem dX9_boundary_9 : decode cX9_boundary 9 = .ok (.iconst 0, 1) := by decide +kernel
theorem dX9_boundary_10 : decode cX9_boundary 10 = .ok (.istore 4, 2) := by decide +kernel
theorem dX9_boundary_12 : decode cX9_boundary 12 = .ok (.iload 4, 2) := by decide +kernel
theorem dX9_boundary_14 : decode cX9_boundary 14 = .ok (.bipush 14, 2) := by decide +kernel
theorem dX9_boundary_16 : decode cX9_boundary 16 = .ok (.if_icmp .ge 71, 3) := by decide +kernel
theorem dX9_boundary_19 : decode cX9_boundary 19 = .ok (.iload_n 3, 1) := by decide +kernel
theorem dX9_boundary_20 : decode cX9_boundary 20 = .ok (.ifCond .ne 13, 3) := by decide +kernel
theorem dX9_boundary_23 : decode cX9_boundary 23 = .ok (.aload_n 0, 1) := by decide +kernel
theorem dX9_boundary_24 : decode cX9_boundary 24 = .ok (.getfield 22, 3) := by decide +kernel
theorem dX9_boundary_27 : decode cX9_boundary 27 = .ok (.iload 4, 2) := by decide +kernel
theorem dX9_boundary_29 : decode cX9_boundary 29 = .ok (.baload, 1) := by decide +kernel
theorem dX9_boundary_30 : decode cX9_boundary 30 = .ok (.ifCond .eq 7, 3) := by decide +kernel
theorem dX9_boundary_33 : decode cX9_boundary 33 = .ok (.iconst 1, 1) := by decide +kernel
theorem dX9_boundary_34 : decode cX9_boundary 34 = .ok (.goto 4, 3) := by decide +kernel
theorem dX9_boundary_37 : decode cX9_boundary 37 = .ok (.iconst 0, 1) := by decide +kernel
theorem dX9_boundary_38 : decode cX9_boundary 38 = .ok (.istore_n 3, 1) := by decide +kernel
theorem dX9_boundary_39 : decode cX9_boundary 39 = .ok (.aload_n 0, 1) := by decide +kernel
theorem dX9_boundary_40 : decode cX9_boundary 40 = .ok (.getfield 16, 3) := by decide +kernel
theorem dX9_boundary_43 : decode cX9_boundary 43 = .ok (.iload 4, 2) := by decide +kernel
theorem dX9_boundary_45 : decode cX9_boundary 45 = .ok (.aload_n 0, 1) := by decide +kernel
theorem dX9_boundary_46 : decode cX9_boundary 46 = .ok (.getfield 22, 3) := by decide +kernel
theorem dX9_boundary_49 : decode cX9_boundary 49 = .ok (.iload 4, 2) := by decide +kernel
theorem dX9_boundary_51 : decode cX9_boundary 51 = .ok (.baload, 1) := by decide +kernel
theorem dX9_boundary_52 : decode cX9_boundary 52 = .ok (.ifCond .eq 13, 3) := by decide +kernel
theorem dX9_boundary_55 : decode cX9_boundary 55 = .ok (.aload_n 0, 1) := by decide +kernel
theorem dX9_boundary_56 : decode cX9_boundary 56 = .ok (.getfield 19, 3) := by decide +kernel
theorem dX9_boundary_59 : decode cX9_boundary 59 = .ok (.iload 4, 2) := by decide +kernel
theorem dX9_boundary_61 : decode cX9_boundary 61 = .ok (.iaload, 1) := by decide +kernel
theorem dX9_boundary_62 : decode cX9_boundary 62 = .ok (.goto 10, 3) := by decide +kernel
theorem dX9_boundary_65 : decode cX9_boundary 65 = .ok (.aload_n 0, 1) := by decide +kernel
theorem dX9_boundary_66 : decode cX9_boundary 66 = .ok (.getfield 16, 3) := by decide +kernel
theorem dX9_boundary_69 : decode cX9_boundary 69 = .ok (.iload 4, 2) := by decide +kernel
theorem dX9_boundary_71 : decode cX9_boundary 71 = .ok (.iaload, 1) := by decide +kernel
theorem dX9_boundary_72 : decode cX9_boundary 72 = .ok (.iastore, 1) := by decide +kernel
theorem dX9_boundary_73 : decode cX9_boundary 73 = .ok (.aload_n 0, 1) := by decide +kernel
theorem dX9_boundary_74 : decode cX9_boundary 74 = .ok (.getfield 22, 3) := by decide +kernel
theorem dX9_boundary_77 : decode cX9_boundary 77 = .ok (.iload 4, 2) := by decide +kernel
theorem dX9_boundary_79 : decode cX9_boundary 79 = .ok (.iconst 0, 1) := by decide +kernel
theorem dX9_boundary_80 : decode cX9_boundary 80 = .ok (.bastore, 1) := by decide +kernel
theorem dX9_boundary_81 : decode cX9_boundary 81 = .ok (.iinc 4 1, 3) := by decide +kernel
theorem dX9_boundary_84 : decode cX9_boundary 84 = .ok (.goto (-72), 3) := by decide +kernel
theorem dX9_boundary_87 : decode cX9_boundary 87 = .ok (.iload_n 3, 1) := by decide +kernel
theorem dX9_boundary_88 : decode cX9_boundary 88 = .ok (.ifCond .eq 9, 3) := by decide +kernel
theorem dX9_boundary_91 : decode cX9_boundary 91 = .ok (.aload_n 0, 1) := by decide +kernel
theorem dX9_boundary_92 : decode cX9_boundary 92 = .ok (.bipush 6, 2) := by decide +kernel
theorem dX9_boundary_94 : decode cX9_boundary 94 = .ok (.invokevirtual 75, 3) := by decide +kernel
theorem dX9_boundary_97 : decode cX9_boundary 97 = .ok (.aload_n 0, 1) := by decide +kernel
theorem dX9_boundary_98 : decode cX9_boundary 98 = .ok (.getfield 16, 3) := by decide +kernel
theorem dX9_boundary_101 : decode cX9_boundary 101 = .ok (.iconst 0, 1) := by decide +kernel
theorem dX9_boundary_102 : decode cX9_boundary 102 = .ok (.iaload, 1) := by decide +kernel
theorem dX9_boundary_103 : decode cX9_boundary 103 = .ok (.iload_n 2, 1) := by decide +kernel
theorem dX9_boundary_104 : decode cX9_boundary 104 = .ok (.if_icmp .eq 35, 3) := by decide +kernel
theorem dX9_boundary_107 : decode cX9_boundary 107 = .ok (.aload_n 0, 1) := by decide +kernel
theorem dX9_boundary_108 : decode cX9_boundary 108 = .ok (.iconst 0, 1) := by decide +kernel
end
section
theorem dX9_boundary_109 : decode cX9_boundary 109 = .ok (.putfield 79, 3) := by decide +kernel
theorem dX9_boundary_112 : decode cX9_boundary 112 = .ok (.aload_n 0, 1) := by decide +kernel
theorem dX9_boundary_113 : decode cX9_boundary 113 = .ok (.iconst 0, 1) := by decide +kernel
theorem dX9_boundary_114 : decode cX9_boundary 114 = .ok (.putfield 65, 3) := by decide +kernel
theorem dX9_boundary_117 : decode cX9_boundary 117 = .ok (.aload_n 0, 1) := by decide +kernel
theorem dX9_boundary_118 : decode cX9_boundary 118 = .ok (.iconst 0, 1) := by decide +kernel
theorem dX9_boundary_119 : decode cX9_boundary 119 = .ok (.putfield 68, 3) := by decide +kernel
theorem dX9_boundary_122 : decode cX9_boundary 122 = .ok (.aload_n 0, 1) := by decide +kernel
theorem dX9_boundary_123 : decode cX9_boundary 123 = .ok (.getfield 71, 3) := by decide +kernel
theorem dX9_boundary_126 : decode cX9_boundary 126 = .ok (.ifCond .eq 8, 3) := by decide +kernel
theorem dX9_boundary_129 : decode cX9_boundary 129 = .ok (.aload_n 0, 1) := by decide +kernel
theorem dX9_boundary_130 : decode cX9_boundary 130 = .ok (.iconst 5, 1) := by decide +kernel
theorem dX9_boundary_131 : decode cX9_boundary 131 = .ok (.invokevirtual 75, 3) := by decide +kernel
theorem dX9_boundary_134 : decode cX9_boundary 134 = .ok (.aload_n 0, 1) := by decide +kernel
theorem dX9_boundary_135 : decode cX9_boundary 135 = .ok (.iconst 0, 1) := by decide +kernel
theorem dX9_boundary_136 : decode cX9_boundary 136 = .ok (.putfield 71, 3) := by decide +kernel
theorem dX9_boundary_139 : decode cX9_boundary 139 = .ok (.aload_n 0, 1) := by decide +kernel
theorem dX9_boundary_140 : decode cX9_boundary 140 = .ok (.getfield 55, 3) := by decide +kernel
theorem dX9_boundary_143 : decode cX9_boundary 143 = .ok (.aload_n 0, 1) := by decide +kernel
theorem dX9_boundary_144 : decode cX9_boundary 144 = .ok (.getfield 82, 3) := by decide +kernel
theorem dX9_boundary_147 : decode cX9_boundary 147 = .ok (.isub, 1) := by decide +kernel
theorem dX9_boundary_148 : decode cX9_boundary 148 = .ok (.bipush 25, 2) := by decide +kernel
theorem dX9_boundary_150 : decode cX9_boundary 150 = .ok (.idiv, 1) := by decide +kernel
theorem dX9_boundary_151 : decode cX9_boundary 151 = .ok (.istore 4, 2) := by decide +kernel
theorem dX9_boundary_153 : decode cX9_boundary 153 = .ok (.aload_n 0, 1) := by decide +kernel
theorem dX9_boundary_154 : decode cX9_boundary 154 = .ok (.getfield 33, 3) := by decide +kernel
theorem dX9_boundary_157 : decode cX9_boundary 157 = .ok (.iload 4, 2) := by decide +kernel
theorem dX9_boundary_159 : decode cX9_boundary 159 = .ok (.bipush 7, 2) := by decide +kernel
theorem dX9_boundary_161 : decode cX9_boundary 161 = .ok (.if_icmp .ge 8, 3) := by decide +kernel
theorem dX9_boundary_164 : decode cX9_boundary 164 = .ok (.iload 4, 2) := by decide +kernel
theorem dX9_boundary_166 : decode cX9_boundary 166 = .ok (.goto 5, 3) := by decide +kernel
theorem dX9_boundary_169 : decode cX9_boundary 169 = .ok (.bipush 7, 2) := by decide +kernel
theorem dX9_boundary_171 : decode cX9_boundary 171 = .ok (.dup2, 1) := by decide +kernel
theorem dX9_boundary_172 : decode cX9_boundary 172 = .ok (.iaload, 1) := by decide +kernel
theorem dX9_boundary_173 : decode cX9_boundary 173 = .ok (.iconst 1, 1) := by decide +kernel
theorem dX9_boundary_174 : decode cX9_boundary 174 = .ok (.iadd, 1) := by decide +kernel
theorem dX9_boundary_175 : decode cX9_boundary 175 = .ok (.iastore, 1) := by decide +kernel
theorem dX9_boundary_176 : decode cX9_boundary 176 = .ok (.aload_n 0, 1) := by decide +kernel
theorem dX9_boundary_177 : decode cX9_boundary 177 = .ok (.aload_n 0, 1) := by decide +kernel
theorem dX9_boundary_178 : decode cX9_boundary 178 = .ok (.getfield 55, 3) := by decide +kernel
theorem dX9_boundary_181 : decode cX9_boundary 181 = .ok (.putfield 82, 3) := by decide +kernel
theorem dX9_boundary_184 : decode cX9_boundary 184 = .ok (.aload_n 0, 1) := by decide +kernel
theorem dX9_boundary_185 : decode cX9_boundary 185 = .ok (.getfield 16, 3) := by decide +kernel
theorem dX9_boundary_188 : decode cX9_boundary 188 = .ok (.iconst 1, 1) := by decide +kernel
theorem dX9_boundary_189 : decode cX9_boundary 189 = .ok (.iaload, 1) := by decide +kernel
theorem dX9_boundary_190 : decode cX9_boundary 190 = .ok (.aload_n 0, 1) := by decide +kernel
theorem dX9_boundary_191 : decode cX9_boundary 191 = .ok (.getfield 16, 3) := by decide +kernel
theorem dX9_boundary_194 : decode cX9_boundary 194 = .ok (.iconst 1, 1) := by decide +kernel
theorem dX9_boundary_195 : decode cX9_boundary 195 = .ok (.iaload, 1) := by decide +kernel
theorem dX9_boundary_196 : decode cX9_boundary 196 = .ok (.aload_n 0, 1) := by decide +kernel
theorem dX9_boundary_197 : decode cX9_boundary 197 = .ok (.getfield 16, 3) := by decide +kernel
theorem dX9_boundary_200 : decode cX9_boundary 200 = .ok (.bipush 12, 2) := by decide +kernel
theorem dX9_boundary_202 : decode cX9_boundary 202 = .ok (.iaload, 1) := by decide +kernel
theorem dX9_boundary_203 : decode cX9_boundary 203 = .ok (.isub, 1) := by decide +kernel
theorem dX9_boundary_204 : decode cX9_boundary 204 = .ok (.aload_n 0, 1) := by decide +kernel
theorem dX9_boundary_205 : decode cX9_boundary 205 = .ok (.getfield 85, 3) := by decide +kernel
theorem dX9_boundary_208 : decode cX9_boundary 208 = .ok (.imul, 1) := by decide +kernel
theorem dX9_boundary_209 : decode cX9_boundary 209 = .ok (.sipush 4080, 3) := by decide +kernel
theorem dX9_boundary_212 : decode cX9_boundary 212 = .ok (.idiv, 1) := by decide +kernel
theorem dX9_boundary_213 : decode cX9_boundary 213 = .ok (.isub, 1) := by decide +kernel
theorem dX9_boundary_214 : decode cX9_boundary 214 = .ok (.istore 5, 2) := by decide +kernel
theorem dX9_boundary_216 : decode cX9_boundary 216 = .ok (.iload 5, 2) := by decide +kernel
theorem dX9_boundary_218 : decode cX9_boundary 218 = .ok (.aload_n 0, 1) := by decide +kernel
theorem dX9_boundary_219 : decode cX9_boundary 219 = .ok (.getfield 26, 3) := by decide +kernel
theorem dX9_boundary_222 : decode cX9_boundary 222 = .ok (.isub, 1) := by decide +kernel
theorem dX9_boundary_223 : decode cX9_boundary 223 = .ok (.istore 6, 2) := by decide +kernel
theorem dX9_boundary_225 : decode cX9_boundary 225 = .ok (.aload_n 0, 1) := by decide +kernel
theorem dX9_boundary_226 : decode cX9_boundary 226 = .ok (.iload 6, 2) := by decide +kernel
theorem dX9_boundary_228 : decode cX9_boundary 228 = .ok (.iconst 4, 1) := by decide +kernel
theorem dX9_boundary_229 : decode cX9_boundary 229 = .ok (.if_icmp .le 12, 3) := by decide +kernel
theorem dX9_boundary_232 : decode cX9_boundary 232 = .ok (.aload_n 0, 1) := by decide +kernel
theorem dX9_boundary_233 : decode cX9_boundary 233 = .ok (.getfield 26, 3) := by decide +kernel
theorem dX9_boundary_236 : decode cX9_boundary 236 = .ok (.iconst 4, 1) := by decide +kernel
theorem dX9_boundary_237 : decode cX9_boundary 237 = .ok (.iadd, 1) := by decide +kernel
theorem dX9_boundary_238 : decode cX9_boundary 238 = .ok (.goto 21, 3) := by decide +kernel
theorem dX9_boundary_241 : decode cX9_boundary 241 = .ok (.iload 6, 2) := by decide +kernel
theorem dX9_boundary_243 : decode cX9_boundary 243 = .ok (.bipush (-4), 2) := by decide +kernel
theorem dX9_boundary_245 : decode cX9_boundary 245 = .ok (.if_icmp .ge 12, 3) := by decide +kernel
theorem dX9_boundary_248 : decode cX9_boundary 248 = .ok (.aload_n 0, 1) := by decide +kernel
theorem dX9_boundary_249 : decode cX9_boundary 249 = .ok (.getfield 26, 3) := by decide +kernel
theorem dX9_boundary_252 : decode cX9_boundary 252 = .ok (.iconst 4, 1) := by decide +kernel
theorem dX9_boundary_253 : decode cX9_boundary 253 = .ok (.isub, 1) := by decide +kernel
theorem dX9_boundary_254 : decode cX9_boundary 254 = .ok (.goto 5, 3) := by decide +kernel
theorem dX9_boundary_257 : decode cX9_boundary 257 = .ok (.iload 5, 2) := by decide +kernel
theorem dX9_boundary_259 : decode cX9_boundary 259 = .ok (.putfield 26, 3) := by decide +kernel
theorem dX9_boundary_262 : decode cX9_boundary 262 = .ok (.aload_n 0, 1) := by decide +kernel
theorem dX9_boundary_263 : decode cX9_boundary 263 = .ok (.aload_n 0, 1) := by decide +kernel
theorem dX9_boundary_264 : decode cX9_boundary 264 = .ok (.getfield 16, 3) := by decide +kernel
theorem dX9_boundary_267 : decode cX9_boundary 267 = .ok (.iconst 1, 1) := by decide +kernel
theorem dX9_boundary_268 : decode cX9_boundary 268 = .ok (.iaload, 1) := by decide +kernel
theorem dX9_boundary_269 : decode cX9_boundary 269 = .ok (.iload_n 1, 1) := by decide +kernel
theorem dX9_boundary_270 : decode cX9_boundary 270 = .ok (.ifCond .eq 13, 3) := by decide +kernel
theorem dX9_boundary_273 : decode cX9_boundary 273 = .ok (.aload_n 0, 1) := by decide +kernel
theorem dX9_boundary_274 : decode cX9_boundary 274 = .ok (.getfield 16, 3) := by decide +kernel
theorem dX9_boundary_277 : decode cX9_boundary 277 = .ok (.bipush 8, 2) := by decide +kernel
theorem dX9_boundary_279 : decode cX9_boundary 279 = .ok (.iaload, 1) := by decide +kernel
theorem dX9_boundary_280 : decode cX9_boundary 280 = .ok (.goto 4, 3) := by decide +kernel
theorem dX9_boundary_283 : decode cX9_boundary 283 = .ok (.iconst 0, 1) := by decide +kernel
theorem dX9_boundary_284 : decode cX9_boundary 284 = .ok (.iadd, 1) := by decide +kernel
theorem dX9_boundary_285 : decode cX9_boundary 285 = .ok (.putfield 30, 3) := by decide +kernel
theorem dX9_boundary_288 : decode cX9_boundary 288 = .ok (.aload_n 0, 1) := by decide +kernel
theorem dX9_boundary_289 : decode cX9_boundary 289 = .ok (.aload_n 0, 1) := by decide +kernel
theorem dX9_boundary_290 : decode cX9_boundary 290 = .ok (.getfield 16, 3) := by decide +kernel
theorem dX9_boundary_293 : decode cX9_boundary 293 = .ok (.bipush 11, 2) := by decide +kernel
theorem dX9_boundary_295 : decode cX9_boundary 295 = .ok (.iaload, 1) := by decide +kernel
theorem dX9_boundary_296 : decode cX9_boundary 296 = .ok (.iconst 1, 1) := by decide +kernel
theorem dX9_boundary_297 : decode cX9_boundary 297 = .ok (.if_icmp .ne 21, 3) := by decide +kernel
theorem dX9_boundary_300 : decode cX9_boundary 300 = .ok (.aload_n 0, 1) := by decide +kernel
theorem dX9_boundary_301 : decode cX9_boundary 301 = .ok (.getfield 26, 3) := by decide +kernel
theorem dX9_boundary_304 : decode cX9_boundary 304 = .ok (.aload_n 0, 1) := by decide +kernel
theorem dX9_boundary_305 : decode cX9_boundary 305 = .ok (.getfield 30, 3) := by decide +kernel
theorem dX9_boundary_308 : decode cX9_boundary 308 = .ok (.if_icmp .ge 10, 3) := by decide +kernel
theorem dX9_boundary_311 : decode cX9_boundary 311 = .ok (.aload_n 0, 1) := by decide +kernel
theorem dX9_boundary_312 : decode cX9_boundary 312 = .ok (.getfield 26, 3) := by decide +kernel
theorem dX9_boundary_315 : decode cX9_boundary 315 = .ok (.goto 7, 3) := by decide +kernel
theorem dX9_boundary_318 : decode cX9_boundary 318 = .ok (.aload_n 0, 1) := by decide +kernel
theorem dX9_boundary_319 : decode cX9_boundary 319 = .ok (.getfield 30, 3) := by decide +kernel
theorem dX9_boundary_322 : decode cX9_boundary 322 = .ok (.putfield 30, 3) := by decide +kernel
theorem dX9_boundary_325 : decode cX9_boundary 325 = .ok (.return_, 1) := by decide +kernel
set_option maxRecDepth 20000 in
theorem ggX9_atrialEvent_X9_mode : GoodIn wsX9_atrialEvent wsX9_mode := goodIn_r _ [11, 12, 38, 39, 40, 41, 42, 43, 44, 45, 46, 47, 48, 49, 50, 51, 52, 53, 54, 55, 56, 57, 58, 59, 60, 61, 62, 63, 64, 65, 66, 67, 68] (by decide +kernel) (by decide +kernel)
set_option maxRecDepth 20000 in
theorem gX9_atrialEvent_X9_mode : GoodIn wsX9_atrialEvent (wsV RX9 58 RX9 yX9_mode wsX9_mode) := goodIn_app (goodIn_of _ (by decide +kernel)) ggX9_atrialEvent_X9_mode
set_option maxRecDepth 20000 in
theorem ggX9_atrialEvent_X9_mark : GoodIn wsX9_atrialEvent wsX9_mark := goodIn_r _ [16, 17, 18, 19, 20, 38, 39, 40, 41, 42, 43, 44, 45, 46, 47, 48, 49, 50, 51, 52, 53, 54, 55, 56, 57, 58, 59, 60, 61, 62, 63, 64, 65, 66, 67, 68] (by decide +kernel) (by decide +kernel)
set_option maxRecDepth 20000 in
theorem gX9_atrialEvent_X9_mark : GoodIn wsX9_atrialEvent (wsV RX9 75 RX9 yX9_mark wsX9_mark) := goodIn_app (goodIn_of _ (by decide +kernel)) ggX9_atrialEvent_X9_mark
set_option maxRecDepth 20000 in
theorem ggX9_atrialEvent_X9_tooFast : GoodIn wsX9_atrialEvent wsX9_tooFast := goodIn_r _ [24, 1, 12, 25, 26, 4, 7, 8, 9, 10, 11, 13, 14, 15, 16, 17, 18, 19, 20, 38, 39, 40, 41, 42, 43, 44, 45, 46, 47, 48, 49, 50, 51, 52, 53, 54, 55, 56, 57, 58, 59, 60, 61, 62, 63, 64, 65, 66, 67, 68] (by decide +kernel) (by decide +kernel)
set_option maxRecDepth 20000 in
theorem gX9_atrialEvent_X9_tooFast : GoodIn wsX9_atrialEvent (wsV RX9 88 RX9 yX9_tooFast wsX9_tooFast) := goodIn_app (goodIn_of _ (by decide +kernel)) ggX9_atrialEvent_X9_tooFast
set_option maxRecDepth 20000 in
theorem ggX9_atrialEvent_X9_boundary : GoodIn wsX9_atrialEvent wsX9_boundary := goodIn_r _ [30, 12, 31, 32, 5, 25, 26, 4, 20, 33, 34, 35, 36, 37, 13, 14, 15, 10, 16, 17, 18, 19, 38, 39, 40, 41, 42, 43, 44, 45, 46, 47, 48, 49, 50, 51, 52, 53, 54, 55, 56, 57, 58, 59, 60, 61, 62, 63, 64, 65, 66, 67, 68] (by decide +kernel) (by decide +kernel)
set_option maxRecDepth 20000 in
theorem gX9_atrialEvent_X9_boundary : GoodIn wsX9_atrialEvent (wsV RX9 100 RX9 yX9_boundary wsX9_boundary) := goodIn_app (goodIn_of _ (by decide +kernel)) ggX9_atrialEvent_X9_boundary
theorem dX9_atrialEvent_0 : decode cX9_atrialEvent 0 = .ok (.aload_n 0, 1) := by decide +kernel
theorem dX9_atrialEvent_1 : decode cX9_atrialEvent 1 = .ok (.bipush 18, 2) := by decide +kernel
theorem dX9_atrialEvent_3 : decode cX9_atrialEvent 3 = .ok (.invokevirtual 58, 3) := by decide +kernel
theorem dX9_atrialEvent_6 : decode cX9_atrialEvent 6 = .ok (.istore_n 2, 1) := by decide +kernel
theorem dX9_atrialEvent_7 : decode cX9_atrialEvent 7 = .ok (.aload_n 0, 1) := by decide +kernel
theorem dX9_atrialEvent_8 : decode cX9_atrialEvent 8 = .ok (.iload_n 1, 1) := by decide +kernel
theorem dX9_atrialEvent_9 : decode cX9_atrialEvent 9 = .ok (.ifCond .eq 7, 3) := by decide +kernel
theorem dX9_atrialEvent_12 : decode cX9_atrialEvent 12 = .ok (.iconst 0, 1) := by decide +kernel
theorem dX9_atrialEvent_13 : decode cX9_atrialEvent 13 = .ok (.goto 4, 3) := by decide +kernel
theorem dX9_atrialEvent_16 : decode cX9_atrialEvent 16 = .ok (.iconst 2, 1) := by decide +kernel
theorem dX9_atrialEvent_17 : decode cX9_atrialEvent 17 = .ok (.invokevirtual 75, 3) := by decide +kernel
theorem dX9_atrialEvent_20 : decode cX9_atrialEvent 20 = .ok (.iload_n 1, 1) := by decide +kernel
theorem dX9_atrialEvent_21 : decode cX9_atrialEvent 21 = .ok (.ifCond .eq 7, 3) := by decide +kernel
theorem dX9_atrialEvent_24 : decode cX9_atrialEvent 24 = .ok (.aload_n 0, 1) := by decide +kernel
theorem dX9_atrialEvent_25 : decode cX9_atrialEvent 25 = .ok (.invokevirtual 88, 3) := by decide +kernel
theorem dX9_atrialEvent_28 : decode cX9_atrialEvent 28 = .ok (.aload_n 0, 1) := by decide +kernel
theorem dX9_atrialEvent_29 : decode cX9_atrialEvent 29 = .ok (.iconst 0, 1) := by decide +kernel
theorem dX9_atrialEvent_30 : decode cX9_atrialEvent 30 = .ok (.putfield 62, 3) := by decide +kernel
theorem dX9_atrialEvent_33 : decode cX9_atrialEvent 33 = .ok (.aload_n 0, 1) := by decide +kernel
theorem dX9_atrialEvent_34 : decode cX9_atrialEvent 34 = .ok (.iload_n 1, 1) := by decide +kernel
theorem dX9_atrialEvent_35 : decode cX9_atrialEvent 35 = .ok (.ifCond .eq 10, 3) := by decide +kernel
theorem dX9_atrialEvent_38 : decode cX9_atrialEvent 38 = .ok (.aload_n 0, 1) := by decide +kernel
theorem dX9_atrialEvent_39 : decode cX9_atrialEvent 39 = .ok (.getfield 91, 3) := by decide +kernel
theorem dX9_atrialEvent_42 : decode cX9_atrialEvent 42 = .ok (.goto 4, 3) := by decide +kernel
theorem dX9_atrialEvent_45 : decode cX9_atrialEvent 45 = .ok (.iconst 0, 1) := by decide +kernel
theorem dX9_atrialEvent_46 : decode cX9_atrialEvent 46 = .ok (.putfield 91, 3) := by decide +kernel
theorem dX9_atrialEvent_49 : decode cX9_atrialEvent 49 = .ok (.aload_n 0, 1) := by decide +kernel
theorem dX9_atrialEvent_50 : decode cX9_atrialEvent 50 = .ok (.iconst 1, 1) := by decide +kernel
theorem dX9_atrialEvent_51 : decode cX9_atrialEvent 51 = .ok (.putfield 94, 3) := by decide +kernel
theorem dX9_atrialEvent_54 : decode cX9_atrialEvent 54 = .ok (.iload_n 1, 1) := by decide +kernel
theorem dX9_atrialEvent_55 : decode cX9_atrialEvent 55 = .ok (.ifCond .eq 35, 3) := by decide +kernel
theorem dX9_atrialEvent_58 : decode cX9_atrialEvent 58 = .ok (.aload_n 0, 1) := by decide +kernel
theorem dX9_atrialEvent_59 : decode cX9_atrialEvent 59 = .ok (.sipush 160, 3) := by decide +kernel
theorem dX9_atrialEvent_62 : decode cX9_atrialEvent 62 = .ok (.invokevirtual 58, 3) := by decide +kernel
theorem dX9_atrialEvent_65 : decode cX9_atrialEvent 65 = .ok (.ifCond .eq 21, 3) := by decide +kernel
theorem dX9_atrialEvent_68 : decode cX9_atrialEvent 68 = .ok (.aload_n 0, 1) := by decide +kernel
theorem dX9_atrialEvent_69 : decode cX9_atrialEvent 69 = .ok (.getfield 71, 3) := by decide +kernel
theorem dX9_atrialEvent_72 : decode cX9_atrialEvent 72 = .ok (.ifCond .ne 14, 3) := by decide +kernel
theorem dX9_atrialEvent_75 : decode cX9_atrialEvent 75 = .ok (.aload_n 0, 1) := by decide +kernel
theorem dX9_atrialEvent_76 : decode cX9_atrialEvent 76 = .ok (.getfield 79, 3) := by decide +kernel
theorem dX9_atrialEvent_79 : decode cX9_atrialEvent 79 = .ok (.ifCond .ne 7, 3) := by decide +kernel
theorem dX9_atrialEvent_82 : decode cX9_atrialEvent 82 = .ok (.iconst 1, 1) := by decide +kernel
theorem dX9_atrialEvent_83 : decode cX9_atrialEvent 83 = .ok (.goto 14, 3) := by decide +kernel
theorem dX9_atrialEvent_86 : decode cX9_atrialEvent 86 = .ok (.iconst 0, 1) := by decide +kernel
theorem dX9_atrialEvent_87 : decode cX9_atrialEvent 87 = .ok (.goto 10, 3) := by decide +kernel
theorem dX9_atrialEvent_90 : decode cX9_atrialEvent 90 = .ok (.aload_n 0, 1) := by decide +kernel
theorem dX9_atrialEvent_91 : decode cX9_atrialEvent 91 = .ok (.sipush 196, 3) := by decide +kernel
theorem dX9_atrialEvent_94 : decode cX9_atrialEvent 94 = .ok (.invokevirtual 58, 3) := by decide +kernel
theorem dX9_atrialEvent_97 : decode cX9_atrialEvent 97 = .ok (.istore_n 3, 1) := by decide +kernel
theorem dX9_atrialEvent_98 : decode cX9_atrialEvent 98 = .ok (.iload_n 3, 1) := by decide +kernel
theorem dX9_atrialEvent_99 : decode cX9_atrialEvent 99 = .ok (.ifCond .eq 13, 3) := by decide +kernel
theorem dX9_atrialEvent_102 : decode cX9_atrialEvent 102 = .ok (.aload_n 0, 1) := by decide +kernel
theorem dX9_atrialEvent_103 : decode cX9_atrialEvent 103 = .ok (.iconst 1, 1) := by decide +kernel
theorem dX9_atrialEvent_104 : decode cX9_atrialEvent 104 = .ok (.putfield 79, 3) := by decide +kernel
theorem dX9_atrialEvent_107 : decode cX9_atrialEvent 107 = .ok (.aload_n 0, 1) := by decide +kernel
theorem dX9_atrialEvent_108 : decode cX9_atrialEvent 108 = .ok (.iconst 0, 1) := by decide +kernel
theorem dX9_atrialEvent_109 : decode cX9_atrialEvent 109 = .ok (.putfield 97, 3) := by decide +kernel
theorem dX9_atrialEvent_112 : decode cX9_atrialEvent 112 = .ok (.iload_n 2, 1) := by decide +kernel
theorem dX9_atrialEvent_113 : decode cX9_atrialEvent 113 = .ok (.ifCond .eq 8, 3) := by decide +kernel
theorem dX9_atrialEvent_116 : decode cX9_atrialEvent 116 = .ok (.aload_n 0, 1) := by decide +kernel
theorem dX9_atrialEvent_117 : decode cX9_atrialEvent 117 = .ok (.iload_n 1, 1) := by decide +kernel
theorem dX9_atrialEvent_118 : decode cX9_atrialEvent 118 = .ok (.invokevirtual 100, 3) := by decide +kernel
theorem dX9_atrialEvent_121 : decode cX9_atrialEvent 121 = .ok (.return_, 1) := by decide +kernel
set_option maxRecDepth 20000 in
theorem ggX9_ventricularEvent_X9_mode : GoodIn wsX9_ventricularEvent wsX9_mode := goodIn_r _ [8, 9, 32, 33, 34, 35, 36, 37, 38, 39, 40, 41, 42, 43, 44, 45, 46, 47, 48, 49, 50, 51, 52, 53, 54, 55, 56, 57, 58, 59, 60, 61, 62] (by decide +kernel) (by decide +kernel)
set_option maxRecDepth 20000 in
theorem gX9_ventricularEvent_X9_mode : GoodIn wsX9_ventricularEvent (wsV RX9 58 RX9 yX9_mode wsX9_mode) := goodIn_app (goodIn_of _ (by decide +kernel)) ggX9_ventricularEvent_X9_mode
set_option maxRecDepth 20000 in
theorem ggX9_ventricularEvent_X9_mark : GoodIn wsX9_ventricularEvent wsX9_mark := goodIn_r _ [13, 14, 15, 16, 17, 32, 33, 34, 35, 36, 37, 38, 39, 40, 41, 42, 43, 44, 45, 46, 47, 48, 49, 50, 51, 52, 53, 54, 55, 56, 57, 58, 59, 60, 61, 62] (by decide +kernel) (by decide +kernel)
set_option maxRecDepth 20000 in
theorem gX9_ventricularEvent_X9_mark : GoodIn wsX9_ventricularEvent (wsV RX9 75 RX9 yX9_mark wsX9_mark) := goodIn_app (goodIn_of _ (by decide +kernel)) ggX9_ventricularEvent_X9_mark
set_option maxRecDepth 20000 in
theorem ggX9_ventricularEvent_X9_boundary : GoodIn wsX9_ventricularEvent wsX9_boundary := goodIn_r _ [21, 9, 22, 23, 2, 24, 25, 26, 17, 27, 28, 29, 30, 31, 10, 11, 12, 7, 13, 14, 15, 16, 32, 33, 34, 35, 36, 37, 38, 39, 40, 41, 42, 43, 44, 45, 46, 47, 48, 49, 50, 51, 52, 53, 54, 55, 56, 57, 58, 59, 60, 61, 62] (by decide +kernel) (by decide +kernel)
set_option maxRecDepth 20000 in
theorem gX9_ventricularEvent_X9_boundary : GoodIn wsX9_ventricularEvent (wsV RX9 100 RX9 yX9_boundary wsX9_boundary) := goodIn_app (goodIn_of _ (by decide +kernel)) ggX9_ventricularEvent_X9_boundary
theorem dX9_ventricularEvent_0 : decode cX9_ventricularEvent 0 = .ok (.aload_n 0, 1) := by decide +kernel
theorem dX9_ventricularEvent_1 : decode cX9_ventricularEvent 1 = .ok (.bipush 18, 2) := by decide +kernel
theorem dX9_ventricularEvent_3 : decode cX9_ventricularEvent 3 = .ok (.invokevirtual 58, 3) := by decide +kernel
theorem dX9_ventricularEvent_6 : decode cX9_ventricularEvent 6 = .ok (.ifCond .ne 7, 3) := by decide +kernel
theorem dX9_ventricularEvent_9 : decode cX9_ventricularEvent 9 = .ok (.iconst 1, 1) := by decide +kernel
theorem dX9_ventricularEvent_10 : decode cX9_ventricularEvent 10 = .ok (.goto 4, 3) := by decide +kernel
theorem dX9_ventricularEvent_13 : decode cX9_ventricularEvent 13 = .ok (.iconst 0, 1) := by decide +kernel
theorem dX9_ventricularEvent_14 : decode cX9_ventricularEvent 14 = .ok (.istore_n 2, 1) := by decide +kernel
theorem dX9_ventricularEvent_15 : decode cX9_ventricularEvent 15 = .ok (.aload_n 0, 1) := by decide +kernel
theorem dX9_ventricularEvent_16 : decode cX9_ventricularEvent 16 = .ok (.iload_n 1, 1) := by decide +kernel
theorem dX9_ventricularEvent_17 : decode cX9_ventricularEvent 17 = .ok (.ifCond .eq 7, 3) := by decide +kernel
theorem dX9_ventricularEvent_20 : decode cX9_ventricularEvent 20 = .ok (.iconst 1, 1) := by decide +kernel
theorem dX9_ventricularEvent_21 : decode cX9_ventricularEvent 21 = .ok (.goto 4, 3) := by decide +kernel
theorem dX9_ventricularEvent_24 : decode cX9_ventricularEvent 24 = .ok (.iconst 3, 1) := by decide +kernel
theorem dX9_ventricularEvent_25 : decode cX9_ventricularEvent 25 = .ok (.invokevirtual 75, 3) := by decide +kernel
theorem dX9_ventricularEvent_28 : decode cX9_ventricularEvent 28 = .ok (.aload_n 0, 1) := by decide +kernel
theorem dX9_ventricularEvent_29 : decode cX9_ventricularEvent 29 = .ok (.iconst 0, 1) := by decide +kernel
theorem dX9_ventricularEvent_30 : decode cX9_ventricularEvent 30 = .ok (.putfield 104, 3) := by decide +kernel
theorem dX9_ventricularEvent_33 : decode cX9_ventricularEvent 33 = .ok (.aload_n 0, 1) := by decide +kernel
theorem dX9_ventricularEvent_34 : decode cX9_ventricularEvent 34 = .ok (.iconst 0, 1) := by decide +kernel
theorem dX9_ventricularEvent_35 : decode cX9_ventricularEvent 35 = .ok (.putfield 79, 3) := by decide +kernel
theorem dX9_ventricularEvent_38 : decode cX9_ventricularEvent 38 = .ok (.aload_n 0, 1) := by decide +kernel
theorem dX9_ventricularEvent_39 : decode cX9_ventricularEvent 39 = .ok (.iconst 0, 1) := by decide +kernel
theorem dX9_ventricularEvent_40 : decode cX9_ventricularEvent 40 = .ok (.putfield 94, 3) := by decide +kernel
theorem dX9_ventricularEvent_43 : decode cX9_ventricularEvent 43 = .ok (.iload_n 2, 1) := by decide +kernel
theorem dX9_ventricularEvent_44 : decode cX9_ventricularEvent 44 = .ok (.ifCond .eq 8, 3) := by decide +kernel
theorem dX9_ventricularEvent_47 : decode cX9_ventricularEvent 47 = .ok (.aload_n 0, 1) := by decide +kernel
theorem dX9_ventricularEvent_48 : decode cX9_ventricularEvent 48 = .ok (.iload_n 1, 1) := by decide +kernel
theorem dX9_ventricularEvent_49 : decode cX9_ventricularEvent 49 = .ok (.invokevirtual 100, 3) := by decide +kernel
theorem dX9_ventricularEvent_52 : decode cX9_ventricularEvent 52 = .ok (.return_, 1) := by decide +kernel
theorem dX9_near_0 : decode cX9_near 0 = .ok (.iload_n 0, 1) := by decide +kernel
theorem dX9_near_1 : decode cX9_near 1 = .ok (.iload_n 1, 1) := by decide +kernel
theorem dX9_near_2 : decode cX9_near 2 = .ok (.if_icmp .ge 7, 3) := by decide +kernel
theorem dX9_near_5 : decode cX9_near 5 = .ok (.iload_n 1, 1) := by decide +kernel
theorem dX9_near_6 : decode cX9_near 6 = .ok (.goto 13, 3) := by decide +kernel
theorem dX9_near_9 : decode cX9_near 9 = .ok (.iload_n 0, 1) := by decide +kernel
theorem dX9_near_10 : decode cX9_near 10 = .ok (.iload_n 2, 1) := by decide +kernel
theorem dX9_near_11 : decode cX9_near 11 = .ok (.if_icmp .le 7, 3) := by decide +kernel
theorem dX9_near_14 : decode cX9_near 14 = .ok (.iload_n 2, 1) := by decide +kernel
theorem dX9_near_15 : decode cX9_near 15 = .ok (.goto 4, 3) := by decide +kernel
theorem dX9_near_18 : decode cX9_near 18 = .ok (.iload_n 0, 1) := by decide +kernel
theorem dX9_near_19 : decode cX9_near 19 = .ok (.ireturn, 1) := by decide +kernel
theorem dX9_more_0 : decode cX9_more 0 = .ok (.iload_n 0, 1) := by decide +kernel
theorem dX9_more_1 : decode cX9_more 1 = .ok (.sipush 1000, 3) := by decide +kernel
theorem dX9_more_4 : decode cX9_more 4 = .ok (.if_icmp .ge 9, 3) := by decide +kernel
theorem dX9_more_7 : decode cX9_more 7 = .ok (.iload_n 0, 1) := by decide +kernel
theorem dX9_more_8 : decode cX9_more 8 = .ok (.iconst 1, 1) := by decide +kernel
theorem dX9_more_9 : decode cX9_more 9 = .ok (.iadd, 1) := by decide +kernel
theorem dX9_more_10 : decode cX9_more 10 = .ok (.goto 6, 3) := by decide +kernel
theorem dX9_more_13 : decode cX9_more 13 = .ok (.sipush 1000, 3) := by decide +kernel
theorem dX9_more_16 : decode cX9_more 16 = .ok (.ireturn, 1) := by decide +kernel
theorem dX9_apart_0 : decode cX9_apart 0 = .ok (.iload_n 0, 1) := by decide +kernel
theorem dX9_apart_1 : decode cX9_apart 1 = .ok (.iload_n 1, 1) := by decide +kernel
theorem dX9_apart_2 : decode cX9_apart 2 = .ok (.isub, 1) := by decide +kernel
theorem dX9_apart_3 : decode cX9_apart 3 = .ok (.iload_n 2, 1) := by decide +kernel
theorem dX9_apart_4 : decode cX9_apart 4 = .ok (.if_icmp .ge 10, 3) := by decide +kernel
theorem dX9_apart_7 : decode cX9_apart 7 = .ok (.iload_n 1, 1) := by decide +kernel
theorem dX9_apart_8 : decode cX9_apart 8 = .ok (.iload_n 0, 1) := by decide +kernel
theorem dX9_apart_9 : decode cX9_apart 9 = .ok (.isub, 1) := by decide +kernel
theorem dX9_apart_10 : decode cX9_apart 10 = .ok (.iload_n 2, 1) := by decide +kernel
theorem dX9_apart_11 : decode cX9_apart 11 = .ok (.if_icmp .lt 7, 3) := by decide +kernel
theorem dX9_apart_14 : decode cX9_apart 14 = .ok (.iconst 1, 1) := by decide +kernel
theorem dX9_apart_15 : decode cX9_apart 15 = .ok (.goto 4, 3) := by decide +kernel
theorem dX9_apart_18 : decode cX9_apart 18 = .ok (.iconst 0, 1) := by decide +kernel
theorem dX9_apart_19 : decode cX9_apart 19 = .ok (.ireturn, 1) := by decide +kernel
set_option maxRecDepth 20000 in
theorem ggX9_step_X9_more : GoodIn wsX9_step wsX9_more := goodIn_r _ [16] (by decide +kernel) (by decide +kernel)
set_option maxRecDepth 20000 in
theorem gX9_step_X9_more : GoodIn wsX9_step (va_wsS RX9 107 yX9_more wsX9_more) := goodIn_app (goodIn_of _ (by decide +kernel)) ggX9_step_X9_more
set_option maxRecDepth 20000 in
theorem ggX9_step_X9_apart : GoodIn wsX9_step wsX9_apart := goodIn_r _ [19] (by decide +kernel) (by decide +kernel)
set_option maxRecDepth 20000 in
theorem gX9_step_X9_apart : GoodIn wsX9_step (va_wsS RX9 114 yX9_apart wsX9_apart) := goodIn_app (goodIn_of _ (by decide +kernel)) ggX9_step_X9_apart
set_option maxRecDepth 20000 in
theorem ggX9_step_X9_mode : GoodIn wsX9_step wsX9_mode := goodIn_r _ [23, 9, 61, 62, 63, 64, 65, 66, 67, 68, 69, 70, 71, 72, 73, 74, 75, 76, 77, 78, 79, 80, 81, 82, 83, 84, 85, 86, 87, 88, 89, 90, 91] (by decide +kernel) (by decide +kernel)
set_option maxRecDepth 20000 in
theorem gX9_step_X9_mode : GoodIn wsX9_step (wsV RX9 58 RX9 yX9_mode wsX9_mode) := goodIn_app (goodIn_of _ (by decide +kernel)) ggX9_step_X9_mode
set_option maxRecDepth 20000 in
theorem ggX9_step_X9_ventricularEvent : GoodIn wsX9_step wsX9_ventricularEvent := goodIn_r _ [27, 3, 5, 28, 20, 21, 22, 15, 23, 9, 29, 30, 31, 32, 33, 34, 35, 1, 36, 37, 38, 39, 40, 41, 42, 43, 44, 45, 46, 7, 47, 48, 61, 62, 63, 64, 65, 66, 67, 68, 69, 70, 71, 72, 73, 74, 75, 76, 77, 78, 79, 80, 81, 82, 83, 84, 85, 86, 87, 88, 89, 90, 91] (by decide +kernel) (by decide +kernel)
set_option maxRecDepth 20000 in
theorem gX9_step_X9_ventricularEvent : GoodIn wsX9_step (wsV RX9 127 RX9 yX9_ventricularEvent wsX9_ventricularEvent) := goodIn_app (goodIn_of _ (by decide +kernel)) ggX9_step_X9_ventricularEvent
set_option maxRecDepth 20000 in
theorem ggX9_step_X9_atrialEvent : GoodIn wsX9_step wsX9_atrialEvent := goodIn_r _ [52, 2, 4, 28, 44, 5, 6, 20, 21, 22, 15, 23, 9, 29, 30, 31, 32, 33, 34, 35, 1, 53, 54, 55, 56, 42, 43, 36, 37, 38, 39, 40, 41, 45, 46, 7, 47, 48, 61, 62, 63, 64, 65, 66, 67, 68, 69, 70, 71, 72, 73, 74, 75, 76, 77, 78, 79, 80, 81, 82, 83, 84, 85, 86, 87, 88, 89, 90, 91] (by decide +kernel) (by decide +kernel)
set_option maxRecDepth 20000 in
theorem gX9_step_X9_atrialEvent : GoodIn wsX9_step (wsV RX9 130 RX9 yX9_atrialEvent wsX9_atrialEvent) := goodIn_app (goodIn_of _ (by decide +kernel)) ggX9_step_X9_atrialEvent
set_option maxRecDepth 20000 in
theorem ggX9_step_X9_pace : GoodIn wsX9_step wsX9_pace := goodIn_r _ [60, 2, 48, 28, 3, 9, 5, 6, 20, 21, 22, 15, 23, 49, 50, 51, 52, 4, 44, 29, 30, 31, 32, 33, 34, 35, 1, 53, 54, 55, 56, 42, 43, 36, 37, 38, 39, 40, 41, 45, 46, 7, 47, 24, 25, 26, 27, 61, 62, 63, 64, 65, 66, 67, 68, 69, 70, 71, 72, 73, 74, 75, 76, 77, 78, 79, 80, 81, 82, 83, 84, 85, 86, 87, 88, 89, 90, 91] (by decide +kernel) (by decide +kernel)
set_option maxRecDepth 20000 in
theorem gX9_step_X9_pace : GoodIn wsX9_step (wsV RX9 133 RX9 yX9_pace wsX9_pace) := goodIn_app (goodIn_of _ (by decide +kernel)) ggX9_step_X9_pace
theorem dX9_step_0 : decode cX9_step 0 = .ok (.aload_n 0, 1) := by decide +kernel
theorem dX9_step_1 : decode cX9_step 1 = .ok (.dup, 1) := by decide +kernel
theorem dX9_step_2 : decode cX9_step 2 = .ok (.getfield 55, 3) := by decide +kernel
theorem dX9_step_5 : decode cX9_step 5 = .ok (.iconst 1, 1) := by decide +kernel
theorem dX9_step_6 : decode cX9_step 6 = .ok (.iadd, 1) := by decide +kernel
theorem dX9_step_7 : decode cX9_step 7 = .ok (.putfield 55, 3) := by decide +kernel
theorem dX9_step_10 : decode cX9_step 10 = .ok (.aload_n 0, 1) := by decide +kernel
theorem dX9_step_11 : decode cX9_step 11 = .ok (.aload_n 0, 1) := by decide +kernel
theorem dX9_step_12 : decode cX9_step 12 = .ok (.getfield 62, 3) := by decide +kernel
theorem dX9_step_15 : decode cX9_step 15 = .ok (.invokestatic 107, 3) := by decide +kernel
theorem dX9_step_18 : decode cX9_step 18 = .ok (.putfield 62, 3) := by decide +kernel
theorem dX9_step_21 : decode cX9_step 21 = .ok (.aload_n 0, 1) := by decide +kernel
theorem dX9_step_22 : decode cX9_step 22 = .ok (.aload_n 0, 1) := by decide +kernel
theorem dX9_step_23 : decode cX9_step 23 = .ok (.getfield 104, 3) := by decide +kernel
theorem dX9_step_26 : decode cX9_step 26 = .ok (.invokestatic 107, 3) := by decide +kernel
theorem dX9_step_29 : decode cX9_step 29 = .ok (.putfield 104, 3) := by decide +kernel
theorem dX9_step_32 : decode cX9_step 32 = .ok (.aload_n 0, 1) := by decide +kernel
theorem dX9_step_33 : decode cX9_step 33 = .ok (.aload_n 0, 1) := by decide +kernel
theorem dX9_step_34 : decode cX9_step 34 = .ok (.getfield 91, 3) := by decide +kernel
theorem dX9_step_37 : decode cX9_step 37 = .ok (.invokestatic 107, 3) := by decide +kernel
theorem dX9_step_40 : decode cX9_step 40 = .ok (.putfield 91, 3) := by decide +kernel
theorem dX9_step_43 : decode cX9_step 43 = .ok (.aload_n 0, 1) := by decide +kernel
theorem dX9_step_44 : decode cX9_step 44 = .ok (.aload_n 0, 1) := by decide +kernel
theorem dX9_step_45 : decode cX9_step 45 = .ok (.getfield 79, 3) := by decide +kernel
theorem dX9_step_48 : decode cX9_step 48 = .ok (.ifCond .eq 12, 3) := by decide +kernel
theorem dX9_step_51 : decode cX9_step 51 = .ok (.aload_n 0, 1) := by decide +kernel
theorem dX9_step_52 : decode cX9_step 52 = .ok (.getfield 97, 3) := by decide +kernel
theorem dX9_step_55 : decode cX9_step 55 = .ok (.iconst 1, 1) := by decide +kernel
theorem dX9_step_56 : decode cX9_step 56 = .ok (.iadd, 1) := by decide +kernel
theorem dX9_step_57 : decode cX9_step 57 = .ok (.goto 7, 3) := by decide +kernel
theorem dX9_step_60 : decode cX9_step 60 = .ok (.aload_n 0, 1) := by decide +kernel
theorem dX9_step_61 : decode cX9_step 61 = .ok (.getfield 97, 3) := by decide +kernel
theorem dX9_step_64 : decode cX9_step 64 = .ok (.putfield 97, 3) := by decide +kernel
theorem dX9_step_67 : decode cX9_step 67 = .ok (.bipush 16, 2) := by decide +kernel
theorem dX9_step_69 : decode cX9_step 69 = .ok (.iload_n 3, 1) := by decide +kernel
theorem dX9_step_70 : decode cX9_step 70 = .ok (.imul, 1) := by decide +kernel
theorem dX9_step_71 : decode cX9_step 71 = .ok (.istore 4, 2) := by decide +kernel
theorem dX9_step_73 : decode cX9_step 73 = .ok (.aload_n 0, 1) := by decide +kernel
theorem dX9_step_74 : decode cX9_step 74 = .ok (.iload 4, 2) := by decide +kernel
theorem dX9_step_76 : decode cX9_step 76 = .ok (.aload_n 0, 1) := by decide +kernel
theorem dX9_step_77 : decode cX9_step 77 = .ok (.getfield 85, 3) := by decide +kernel
theorem dX9_step_80 : decode cX9_step 80 = .ok (.if_icmp .le 21, 3) := by decide +kernel
theorem dX9_step_83 : decode cX9_step 83 = .ok (.aload_n 0, 1) := by decide +kernel
theorem dX9_step_84 : decode cX9_step 84 = .ok (.getfield 85, 3) := by decide +kernel
theorem dX9_step_87 : decode cX9_step 87 = .ok (.iload 4, 2) := by decide +kernel
theorem dX9_step_89 : decode cX9_step 89 = .ok (.aload_n 0, 1) := by decide +kernel
theorem dX9_step_90 : decode cX9_step 90 = .ok (.getfield 85, 3) := by decide +kernel
theorem dX9_step_93 : decode cX9_step 93 = .ok (.isub, 1) := by decide +kernel
theorem dX9_step_94 : decode cX9_step 94 = .ok (.bipush 8, 2) := by decide +kernel
theorem dX9_step_96 : decode cX9_step 96 = .ok (.idiv, 1) := by decide +kernel
theorem dX9_step_97 : decode cX9_step 97 = .ok (.iadd, 1) := by decide +kernel
theorem dX9_step_98 : decode cX9_step 98 = .ok (.goto 18, 3) := by decide +kernel
theorem dX9_step_101 : decode cX9_step 101 = .ok (.aload_n 0, 1) := by decide +kernel
theorem dX9_step_102 : decode cX9_step 102 = .ok (.getfield 85, 3) := by decide +kernel
theorem dX9_step_105 : decode cX9_step 105 = .ok (.aload_n 0, 1) := by decide +kernel
theorem dX9_step_106 : decode cX9_step 106 = .ok (.getfield 85, 3) := by decide +kernel
theorem dX9_step_109 : decode cX9_step 109 = .ok (.iload 4, 2) := by decide +kernel
theorem dX9_step_111 : decode cX9_step 111 = .ok (.isub, 1) := by decide +kernel
theorem dX9_step_112 : decode cX9_step 112 = .ok (.bipush 32, 2) := by decide +kernel
theorem dX9_step_114 : decode cX9_step 114 = .ok (.idiv, 1) := by decide +kernel
theorem dX9_step_115 : decode cX9_step 115 = .ok (.isub, 1) := by decide +kernel
theorem dX9_step_116 : decode cX9_step 116 = .ok (.putfield 85, 3) := by decide +kernel
theorem dX9_step_119 : decode cX9_step 119 = .ok (.iload_n 1, 1) := by decide +kernel
theorem dX9_step_120 : decode cX9_step 120 = .ok (.aload_n 0, 1) := by decide +kernel
theorem dX9_step_121 : decode cX9_step 121 = .ok (.getfield 111, 3) := by decide +kernel
theorem dX9_step_124 : decode cX9_step 124 = .ok (.aload_n 0, 1) := by decide +kernel
theorem dX9_step_125 : decode cX9_step 125 = .ok (.getfield 16, 3) := by decide +kernel
theorem dX9_step_128 : decode cX9_step 128 = .ok (.bipush 9, 2) := by decide +kernel
theorem dX9_step_130 : decode cX9_step 130 = .ok (.iaload, 1) := by decide +kernel
theorem dX9_step_131 : decode cX9_step 131 = .ok (.invokestatic 114, 3) := by decide +kernel
theorem dX9_step_134 : decode cX9_step 134 = .ok (.istore 5, 2) := by decide +kernel
theorem dX9_step_136 : decode cX9_step 136 = .ok (.iload_n 2, 1) := by decide +kernel
theorem dX9_step_137 : decode cX9_step 137 = .ok (.aload_n 0, 1) := by decide +kernel
theorem dX9_step_138 : decode cX9_step 138 = .ok (.getfield 118, 3) := by decide +kernel
theorem dX9_step_141 : decode cX9_step 141 = .ok (.aload_n 0, 1) := by decide +kernel
theorem dX9_step_142 : decode cX9_step 142 = .ok (.getfield 16, 3) := by decide +kernel
theorem dX9_step_145 : decode cX9_step 145 = .ok (.bipush 10, 2) := by decide +kernel
theorem dX9_step_147 : decode cX9_step 147 = .ok (.iaload, 1) := by decide +kernel
theorem dX9_step_148 : decode cX9_step 148 = .ok (.invokestatic 114, 3) := by decide +kernel
theorem dX9_step_151 : decode cX9_step 151 = .ok (.istore 6, 2) := by decide +kernel
theorem dX9_step_153 : decode cX9_step 153 = .ok (.aload_n 0, 1) := by decide +kernel
theorem dX9_step_154 : decode cX9_step 154 = .ok (.aload_n 0, 1) := by decide +kernel
theorem dX9_step_155 : decode cX9_step 155 = .ok (.getfield 121, 3) := by decide +kernel
theorem dX9_step_158 : decode cX9_step 158 = .ok (.putfield 111, 3) := by decide +kernel
theorem dX9_step_161 : decode cX9_step 161 = .ok (.aload_n 0, 1) := by decide +kernel
theorem dX9_step_162 : decode cX9_step 162 = .ok (.iload_n 1, 1) := by decide +kernel
theorem dX9_step_163 : decode cX9_step 163 = .ok (.putfield 121, 3) := by decide +kernel
theorem dX9_step_166 : decode cX9_step 166 = .ok (.aload_n 0, 1) := by decide +kernel
theorem dX9_step_167 : decode cX9_step 167 = .ok (.aload_n 0, 1) := by decide +kernel
theorem dX9_step_168 : decode cX9_step 168 = .ok (.getfield 124, 3) := by decide +kernel
theorem dX9_step_171 : decode cX9_step 171 = .ok (.putfield 118, 3) := by decide +kernel
theorem dX9_step_174 : decode cX9_step 174 = .ok (.aload_n 0, 1) := by decide +kernel
theorem dX9_step_175 : decode cX9_step 175 = .ok (.iload_n 2, 1) := by decide +kernel
theorem dX9_step_176 : decode cX9_step 176 = .ok (.putfield 124, 3) := by decide +kernel
theorem dX9_step_179 : decode cX9_step 179 = .ok (.iconst 0, 1) := by decide +kernel
theorem dX9_step_180 : decode cX9_step 180 = .ok (.istore 7, 2) := by decide +kernel
theorem dX9_step_182 : decode cX9_step 182 = .ok (.iload 6, 2) := by decide +kernel
theorem dX9_step_184 : decode cX9_step 184 = .ok (.ifCond .eq 48, 3) := by decide +kernel
theorem dX9_step_187 : decode cX9_step 187 = .ok (.aload_n 0, 1) := by decide +kernel
theorem dX9_step_188 : decode cX9_step 188 = .ok (.sipush 232, 3) := by decide +kernel
theorem dX9_step_191 : decode cX9_step 191 = .ok (.invokevirtual 58, 3) := by decide +kernel
theorem dX9_step_194 : decode cX9_step 194 = .ok (.ifCond .eq 38, 3) := by decide +kernel
theorem dX9_step_197 : decode cX9_step 197 = .ok (.aload_n 0, 1) := by decide +kernel
theorem dX9_step_198 : decode cX9_step 198 = .ok (.getfield 104, 3) := by decide +kernel
theorem dX9_step_201 : decode cX9_step 201 = .ok (.aload_n 0, 1) := by decide +kernel
theorem dX9_step_202 : decode cX9_step 202 = .ok (.getfield 16, 3) := by decide +kernel
theorem dX9_step_205 : decode cX9_step 205 = .ok (.iconst 5, 1) := by decide +kernel
theorem dX9_step_206 : decode cX9_step 206 = .ok (.iaload, 1) := by decide +kernel
theorem dX9_step_207 : decode cX9_step 207 = .ok (.if_icmp .lt 25, 3) := by decide +kernel
theorem dX9_step_210 : decode cX9_step 210 = .ok (.aload_n 0, 1) := by decide +kernel
theorem dX9_step_211 : decode cX9_step 211 = .ok (.getfield 91, 3) := by decide +kernel
theorem dX9_step_214 : decode cX9_step 214 = .ok (.aload_n 0, 1) := by decide +kernel
theorem dX9_step_215 : decode cX9_step 215 = .ok (.getfield 16, 3) := by decide +kernel
theorem dX9_step_218 : decode cX9_step 218 = .ok (.bipush 7, 2) := by decide +kernel
theorem dX9_step_220 : decode cX9_step 220 = .ok (.iaload, 1) := by decide +kernel
theorem dX9_step_221 : decode cX9_step 221 = .ok (.if_icmp .lt 11, 3) := by decide +kernel
theorem dX9_step_224 : decode cX9_step 224 = .ok (.aload_n 0, 1) := by decide +kernel
theorem dX9_step_225 : decode cX9_step 225 = .ok (.iconst 1, 1) := by decide +kernel
theorem dX9_step_226 : decode cX9_step 226 = .ok (.invokevirtual 127, 3) := by decide +kernel
theorem dX9_step_229 : decode cX9_step 229 = .ok (.iconst 2, 1) := by decide +kernel
theorem dX9_step_230 : decode cX9_step 230 = .ok (.istore 7, 2) := by decide +kernel
theorem dX9_step_232 : decode cX9_step 232 = .ok (.iload 5, 2) := by decide +kernel
theorem dX9_step_234 : decode cX9_step 234 = .ok (.ifCond .eq 60, 3) := by decide +kernel
theorem dX9_step_237 : decode cX9_step 237 = .ok (.aload_n 0, 1) := by decide +kernel
theorem dX9_step_238 : decode cX9_step 238 = .ok (.sipush 240, 3) := by decide +kernel
theorem dX9_step_241 : decode cX9_step 241 = .ok (.invokevirtual 58, 3) := by decide +kernel
theorem dX9_step_244 : decode cX9_step 244 = .ok (.ifCond .eq 50, 3) := by decide +kernel
theorem dX9_step_247 : decode cX9_step 247 = .ok (.aload_n 0, 1) := by decide +kernel
theorem dX9_step_248 : decode cX9_step 248 = .ok (.getfield 62, 3) := by decide +kernel
theorem dX9_step_251 : decode cX9_step 251 = .ok (.aload_n 0, 1) := by decide +kernel
theorem dX9_step_252 : decode cX9_step 252 = .ok (.getfield 16, 3) := by decide +kernel
theorem dX9_step_255 : decode cX9_step 255 = .ok (.bipush 6, 2) := by decide +kernel
theorem dX9_step_257 : decode cX9_step 257 = .ok (.iaload, 1) := by decide +kernel
theorem dX9_step_258 : decode cX9_step 258 = .ok (.if_icmp .lt 36, 3) := by decide +kernel
theorem dX9_step_261 : decode cX9_step 261 = .ok (.aload_n 0, 1) := by decide +kernel
theorem dX9_step_262 : decode cX9_step 262 = .ok (.bipush 18, 2) := by decide +kernel
theorem dX9_step_264 : decode cX9_step 264 = .ok (.invokevirtual 58, 3) := by decide +kernel
theorem dX9_step_267 : decode cX9_step 267 = .ok (.ifCond .ne 16, 3) := by decide +kernel
theorem dX9_step_270 : decode cX9_step 270 = .ok (.aload_n 0, 1) := by decide +kernel
theorem dX9_step_271 : decode cX9_step 271 = .ok (.getfield 104, 3) := by decide +kernel
theorem dX9_step_274 : decode cX9_step 274 = .ok (.aload_n 0, 1) := by decide +kernel
theorem dX9_step_275 : decode cX9_step 275 = .ok (.getfield 16, 3) := by decide +kernel
theorem dX9_step_278 : decode cX9_step 278 = .ok (.iconst 4, 1) := by decide +kernel
theorem dX9_step_279 : decode cX9_step 279 = .ok (.iaload, 1) := by decide +kernel
theorem dX9_step_280 : decode cX9_step 280 = .ok (.if_icmp .lt 14, 3) := by decide +kernel
theorem dX9_step_283 : decode cX9_step 283 = .ok (.aload_n 0, 1) := by decide +kernel
theorem dX9_step_284 : decode cX9_step 284 = .ok (.iconst 1, 1) := by decide +kernel
theorem dX9_step_285 : decode cX9_step 285 = .ok (.invokevirtual 130, 3) := by decide +kernel
theorem dX9_step_288 : decode cX9_step 288 = .ok (.iload 7, 2) := by decide +kernel
theorem dX9_step_290 : decode cX9_step 290 = .ok (.iconst 1, 1) := by decide +kernel
theorem dX9_step_291 : decode cX9_step 291 = .ok (.iadd, 1) := by decide +kernel
end
section
theorem dX9_step_292 : decode cX9_step 292 = .ok (.istore 7, 2) := by decide +kernel
theorem dX9_step_294 : decode cX9_step 294 = .ok (.iload 7, 2) := by decide +kernel
theorem dX9_step_296 : decode cX9_step 296 = .ok (.iconst 2, 1) := by decide +kernel
theorem dX9_step_297 : decode cX9_step 297 = .ok (.iand, 1) := by decide +kernel
theorem dX9_step_298 : decode cX9_step 298 = .ok (.iconst 2, 1) := by decide +kernel
theorem dX9_step_299 : decode cX9_step 299 = .ok (.if_icmp .ne 8, 3) := by decide +kernel
theorem dX9_step_302 : decode cX9_step 302 = .ok (.iload 7, 2) := by decide +kernel
theorem dX9_step_304 : decode cX9_step 304 = .ok (.goto 20, 3) := by decide +kernel
theorem dX9_step_307 : decode cX9_step 307 = .ok (.iload 7, 2) := by decide +kernel
theorem dX9_step_309 : decode cX9_step 309 = .ok (.aload_n 0, 1) := by decide +kernel
theorem dX9_step_310 : decode cX9_step 310 = .ok (.iload 7, 2) := by decide +kernel
theorem dX9_step_312 : decode cX9_step 312 = .ok (.ifCond .ne 7, 3) := by decide +kernel
theorem dX9_step_315 : decode cX9_step 315 = .ok (.iconst 1, 1) := by decide +kernel
theorem dX9_step_316 : decode cX9_step 316 = .ok (.goto 4, 3) := by decide +kernel
theorem dX9_step_319 : decode cX9_step 319 = .ok (.iconst 0, 1) := by decide +kernel
theorem dX9_step_320 : decode cX9_step 320 = .ok (.invokevirtual 133, 3) := by decide +kernel
theorem dX9_step_323 : decode cX9_step 323 = .ok (.iadd, 1) := by decide +kernel
theorem dX9_step_324 : decode cX9_step 324 = .ok (.ireturn, 1) := by decide +kernel
set_option maxRecDepth 20000 in
theorem ggX9_pace_X9_mode : GoodIn wsX9_pace wsX9_mode := goodIn_r _ [12, 5, 47, 48, 49, 50, 51, 52, 53, 54, 55, 56, 57, 58, 59, 60, 61, 62, 63, 64, 65, 66, 67, 68, 69, 70, 71, 72, 73, 74, 75, 76, 77] (by decide +kernel) (by decide +kernel)
set_option maxRecDepth 20000 in
theorem gX9_pace_X9_mode : GoodIn wsX9_pace (wsV RX9 58 RX9 yX9_mode wsX9_mode) := goodIn_app (goodIn_of _ (by decide +kernel)) ggX9_pace_X9_mode
set_option maxRecDepth 20000 in
theorem ggX9_pace_X9_atrialEvent : GoodIn wsX9_pace wsX9_atrialEvent := goodIn_r _ [16, 1, 17, 3, 18, 6, 7, 8, 9, 10, 11, 12, 5, 19, 20, 21, 22, 23, 24, 25, 26, 27, 28, 29, 30, 31, 32, 33, 34, 35, 36, 37, 38, 39, 40, 41, 42, 2, 47, 48, 49, 50, 51, 52, 53, 54, 55, 56, 57, 58, 59, 60, 61, 62, 63, 64, 65, 66, 67, 68, 69, 70, 71, 72, 73, 74, 75, 76, 77] (by decide +kernel) (by decide +kernel)
set_option maxRecDepth 20000 in
theorem gX9_pace_X9_atrialEvent : GoodIn wsX9_pace (wsV RX9 130 RX9 yX9_atrialEvent wsX9_atrialEvent) := goodIn_app (goodIn_of _ (by decide +kernel)) ggX9_pace_X9_atrialEvent
set_option maxRecDepth 20000 in
theorem ggX9_pace_X9_ventricularEvent : GoodIn wsX9_pace wsX9_ventricularEvent := goodIn_r _ [46, 4, 6, 3, 8, 9, 10, 11, 12, 5, 19, 20, 21, 22, 23, 24, 25, 26, 33, 34, 35, 36, 37, 38, 31, 32, 18, 39, 40, 41, 42, 2, 47, 48, 49, 50, 51, 52, 53, 54, 55, 56, 57, 58, 59, 60, 61, 62, 63, 64, 65, 66, 67, 68, 69, 70, 71, 72, 73, 74, 75, 76, 77] (by decide +kernel) (by decide +kernel)
set_option maxRecDepth 20000 in
theorem gX9_pace_X9_ventricularEvent : GoodIn wsX9_pace (wsV RX9 127 RX9 yX9_ventricularEvent wsX9_ventricularEvent) := goodIn_app (goodIn_of _ (by decide +kernel)) ggX9_pace_X9_ventricularEvent
theorem dX9_pace_0 : decode cX9_pace 0 = .ok (.iconst 0, 1) := by decide +kernel
theorem dX9_pace_1 : decode cX9_pace 1 = .ok (.istore_n 2, 1) := by decide +kernel
theorem dX9_pace_2 : decode cX9_pace 2 = .ok (.aload_n 0, 1) := by decide +kernel
theorem dX9_pace_3 : decode cX9_pace 3 = .ok (.bipush 18, 2) := by decide +kernel
theorem dX9_pace_5 : decode cX9_pace 5 = .ok (.invokevirtual 58, 3) := by decide +kernel
theorem dX9_pace_8 : decode cX9_pace 8 = .ok (.ifCond .eq 22, 3) := by decide +kernel
theorem dX9_pace_11 : decode cX9_pace 11 = .ok (.aload_n 0, 1) := by decide +kernel
theorem dX9_pace_12 : decode cX9_pace 12 = .ok (.getfield 62, 3) := by decide +kernel
theorem dX9_pace_15 : decode cX9_pace 15 = .ok (.aload_n 0, 1) := by decide +kernel
theorem dX9_pace_16 : decode cX9_pace 16 = .ok (.getfield 30, 3) := by decide +kernel
theorem dX9_pace_19 : decode cX9_pace 19 = .ok (.if_icmp .lt 7, 3) := by decide +kernel
theorem dX9_pace_22 : decode cX9_pace 22 = .ok (.iconst 1, 1) := by decide +kernel
theorem dX9_pace_23 : decode cX9_pace 23 = .ok (.goto 47, 3) := by decide +kernel
theorem dX9_pace_26 : decode cX9_pace 26 = .ok (.iconst 0, 1) := by decide +kernel
theorem dX9_pace_27 : decode cX9_pace 27 = .ok (.goto 43, 3) := by decide +kernel
theorem dX9_pace_30 : decode cX9_pace 30 = .ok (.aload_n 0, 1) := by decide +kernel
theorem dX9_pace_31 : decode cX9_pace 31 = .ok (.sipush 196, 3) := by decide +kernel
theorem dX9_pace_34 : decode cX9_pace 34 = .ok (.invokevirtual 58, 3) := by decide +kernel
theorem dX9_pace_37 : decode cX9_pace 37 = .ok (.ifCond .eq 32, 3) := by decide +kernel
theorem dX9_pace_40 : decode cX9_pace 40 = .ok (.aload_n 0, 1) := by decide +kernel
theorem dX9_pace_41 : decode cX9_pace 41 = .ok (.getfield 94, 3) := by decide +kernel
theorem dX9_pace_44 : decode cX9_pace 44 = .ok (.ifCond .ne 25, 3) := by decide +kernel
theorem dX9_pace_47 : decode cX9_pace 47 = .ok (.aload_n 0, 1) := by decide +kernel
theorem dX9_pace_48 : decode cX9_pace 48 = .ok (.getfield 104, 3) := by decide +kernel
theorem dX9_pace_51 : decode cX9_pace 51 = .ok (.aload_n 0, 1) := by decide +kernel
theorem dX9_pace_52 : decode cX9_pace 52 = .ok (.getfield 30, 3) := by decide +kernel
theorem dX9_pace_55 : decode cX9_pace 55 = .ok (.aload_n 0, 1) := by decide +kernel
theorem dX9_pace_56 : decode cX9_pace 56 = .ok (.getfield 16, 3) := by decide +kernel
theorem dX9_pace_59 : decode cX9_pace 59 = .ok (.iconst 3, 1) := by decide +kernel
theorem dX9_pace_60 : decode cX9_pace 60 = .ok (.iaload, 1) := by decide +kernel
theorem dX9_pace_61 : decode cX9_pace 61 = .ok (.isub, 1) := by decide +kernel
theorem dX9_pace_62 : decode cX9_pace 62 = .ok (.if_icmp .lt 7, 3) := by decide +kernel
theorem dX9_pace_65 : decode cX9_pace 65 = .ok (.iconst 1, 1) := by decide +kernel
theorem dX9_pace_66 : decode cX9_pace 66 = .ok (.goto 4, 3) := by decide +kernel
theorem dX9_pace_69 : decode cX9_pace 69 = .ok (.iconst 0, 1) := by decide +kernel
theorem dX9_pace_70 : decode cX9_pace 70 = .ok (.istore_n 3, 1) := by decide +kernel
theorem dX9_pace_71 : decode cX9_pace 71 = .ok (.iload_n 1, 1) := by decide +kernel
theorem dX9_pace_72 : decode cX9_pace 72 = .ok (.ifCond .eq 14, 3) := by decide +kernel
theorem dX9_pace_75 : decode cX9_pace 75 = .ok (.iload_n 3, 1) := by decide +kernel
theorem dX9_pace_76 : decode cX9_pace 76 = .ok (.ifCond .eq 10, 3) := by decide +kernel
theorem dX9_pace_79 : decode cX9_pace 79 = .ok (.aload_n 0, 1) := by decide +kernel
theorem dX9_pace_80 : decode cX9_pace 80 = .ok (.iconst 0, 1) := by decide +kernel
theorem dX9_pace_81 : decode cX9_pace 81 = .ok (.invokevirtual 130, 3) := by decide +kernel
theorem dX9_pace_84 : decode cX9_pace 84 = .ok (.iconst 4, 1) := by decide +kernel
theorem dX9_pace_85 : decode cX9_pace 85 = .ok (.istore_n 2, 1) := by decide +kernel
theorem dX9_pace_86 : decode cX9_pace 86 = .ok (.aload_n 0, 1) := by decide +kernel
theorem dX9_pace_87 : decode cX9_pace 87 = .ok (.getfield 79, 3) := by decide +kernel
theorem dX9_pace_90 : decode cX9_pace 90 = .ok (.ifCond .eq 33, 3) := by decide +kernel
theorem dX9_pace_93 : decode cX9_pace 93 = .ok (.aload_n 0, 1) := by decide +kernel
theorem dX9_pace_94 : decode cX9_pace 94 = .ok (.getfield 97, 3) := by decide +kernel
theorem dX9_pace_97 : decode cX9_pace 97 = .ok (.aload_n 0, 1) := by decide +kernel
theorem dX9_pace_98 : decode cX9_pace 98 = .ok (.getfield 16, 3) := by decide +kernel
theorem dX9_pace_101 : decode cX9_pace 101 = .ok (.iconst 3, 1) := by decide +kernel
theorem dX9_pace_102 : decode cX9_pace 102 = .ok (.iaload, 1) := by decide +kernel
theorem dX9_pace_103 : decode cX9_pace 103 = .ok (.if_icmp .lt 20, 3) := by decide +kernel
theorem dX9_pace_106 : decode cX9_pace 106 = .ok (.aload_n 0, 1) := by decide +kernel
theorem dX9_pace_107 : decode cX9_pace 107 = .ok (.getfield 104, 3) := by decide +kernel
theorem dX9_pace_110 : decode cX9_pace 110 = .ok (.aload_n 0, 1) := by decide +kernel
theorem dX9_pace_111 : decode cX9_pace 111 = .ok (.getfield 16, 3) := by decide +kernel
theorem dX9_pace_114 : decode cX9_pace 114 = .ok (.iconst 2, 1) := by decide +kernel
theorem dX9_pace_115 : decode cX9_pace 115 = .ok (.iaload, 1) := by decide +kernel
theorem dX9_pace_116 : decode cX9_pace 116 = .ok (.if_icmp .lt 7, 3) := by decide +kernel
theorem dX9_pace_119 : decode cX9_pace 119 = .ok (.iconst 1, 1) := by decide +kernel
theorem dX9_pace_120 : decode cX9_pace 120 = .ok (.goto 4, 3) := by decide +kernel
theorem dX9_pace_123 : decode cX9_pace 123 = .ok (.iconst 0, 1) := by decide +kernel
theorem dX9_pace_124 : decode cX9_pace 124 = .ok (.istore 4, 2) := by decide +kernel
theorem dX9_pace_126 : decode cX9_pace 126 = .ok (.aload_n 0, 1) := by decide +kernel
theorem dX9_pace_127 : decode cX9_pace 127 = .ok (.bipush 18, 2) := by decide +kernel
theorem dX9_pace_129 : decode cX9_pace 129 = .ok (.invokevirtual 58, 3) := by decide +kernel
theorem dX9_pace_132 : decode cX9_pace 132 = .ok (.ifCond .ne 29, 3) := by decide +kernel
theorem dX9_pace_135 : decode cX9_pace 135 = .ok (.aload_n 0, 1) := by decide +kernel
theorem dX9_pace_136 : decode cX9_pace 136 = .ok (.getfield 104, 3) := by decide +kernel
theorem dX9_pace_139 : decode cX9_pace 139 = .ok (.aload_n 0, 1) := by decide +kernel
theorem dX9_pace_140 : decode cX9_pace 140 = .ok (.getfield 30, 3) := by decide +kernel
theorem dX9_pace_143 : decode cX9_pace 143 = .ok (.if_icmp .ge 8, 3) := by decide +kernel
theorem dX9_pace_146 : decode cX9_pace 146 = .ok (.iload 4, 2) := by decide +kernel
theorem dX9_pace_148 : decode cX9_pace 148 = .ok (.ifCond .eq 13, 3) := by decide +kernel
theorem dX9_pace_151 : decode cX9_pace 151 = .ok (.aload_n 0, 1) := by decide +kernel
theorem dX9_pace_152 : decode cX9_pace 152 = .ok (.iconst 0, 1) := by decide +kernel
theorem dX9_pace_153 : decode cX9_pace 153 = .ok (.invokevirtual 127, 3) := by decide +kernel
theorem dX9_pace_156 : decode cX9_pace 156 = .ok (.iload_n 2, 1) := by decide +kernel
theorem dX9_pace_157 : decode cX9_pace 157 = .ok (.bipush 8, 2) := by decide +kernel
theorem dX9_pace_159 : decode cX9_pace 159 = .ok (.iadd, 1) := by decide +kernel
theorem dX9_pace_160 : decode cX9_pace 160 = .ok (.istore_n 2, 1) := by decide +kernel
theorem dX9_pace_161 : decode cX9_pace 161 = .ok (.iload_n 2, 1) := by decide +kernel
theorem dX9_pace_162 : decode cX9_pace 162 = .ok (.ireturn, 1) := by decide +kernel
set_option maxRecDepth 20000 in
theorem ggX9_tick_X9_near : GoodIn wsX9_tick wsX9_near := goodIn_r _ [5] (by decide +kernel) (by decide +kernel)
set_option maxRecDepth 20000 in
theorem gX9_tick_X9_near : GoodIn wsX9_tick (va_wsS RX9 137 yX9_near wsX9_near) := goodIn_app (goodIn_of _ (by decide +kernel)) ggX9_tick_X9_near
set_option maxRecDepth 20000 in
theorem ggX9_tick_X9_step : GoodIn wsX9_tick wsX9_step := goodIn_r _ [9, 10, 11, 12, 13, 14, 15, 16, 17, 18, 19, 20, 21, 22, 23, 4, 24, 25, 26, 27, 28, 29, 30, 31, 32, 33, 34, 35, 36, 37, 38, 39, 40, 41, 42, 43, 44, 45, 46, 47, 48, 49, 50, 51, 52, 53, 54, 55, 56, 57, 58, 59, 60, 61, 62, 63, 64, 65, 66, 67, 68, 69, 70, 71, 72, 73, 74, 75, 76, 77, 78, 79, 80, 81, 82, 83, 84, 85, 86, 87, 88, 89, 90, 91, 92, 93, 94, 95, 96, 97, 98, 99] (by decide +kernel) (by decide +kernel)
set_option maxRecDepth 20000 in
theorem gX9_tick_X9_step : GoodIn wsX9_tick (wsV RX9 141 RX9 yX9_step wsX9_step) := goodIn_app (goodIn_of _ (by decide +kernel)) ggX9_tick_X9_step
theorem dX9_tick_0 : decode cX9_tick 0 = .ok (.aload_n 0, 1) := by decide +kernel
theorem dX9_tick_1 : decode cX9_tick 1 = .ok (.iconst 0, 1) := by decide +kernel
theorem dX9_tick_2 : decode cX9_tick 2 = .ok (.putfield 49, 3) := by decide +kernel
theorem dX9_tick_5 : decode cX9_tick 5 = .ok (.aload_n 0, 1) := by decide +kernel
theorem dX9_tick_6 : decode cX9_tick 6 = .ok (.iload_n 1, 1) := by decide +kernel
theorem dX9_tick_7 : decode cX9_tick 7 = .ok (.sipush (-1000), 3) := by decide +kernel
theorem dX9_tick_10 : decode cX9_tick 10 = .ok (.sipush 1000, 3) := by decide +kernel
theorem dX9_tick_13 : decode cX9_tick 13 = .ok (.invokestatic 137, 3) := by decide +kernel
theorem dX9_tick_16 : decode cX9_tick 16 = .ok (.iload_n 2, 1) := by decide +kernel
theorem dX9_tick_17 : decode cX9_tick 17 = .ok (.sipush (-1000), 3) := by decide +kernel
theorem dX9_tick_20 : decode cX9_tick 20 = .ok (.sipush 1000, 3) := by decide +kernel
theorem dX9_tick_23 : decode cX9_tick 23 = .ok (.invokestatic 137, 3) := by decide +kernel
theorem dX9_tick_26 : decode cX9_tick 26 = .ok (.iload_n 3, 1) := by decide +kernel
theorem dX9_tick_27 : decode cX9_tick 27 = .ok (.iconst 0, 1) := by decide +kernel
theorem dX9_tick_28 : decode cX9_tick 28 = .ok (.sipush 255, 3) := by decide +kernel
theorem dX9_tick_31 : decode cX9_tick 31 = .ok (.invokestatic 137, 3) := by decide +kernel
theorem dX9_tick_34 : decode cX9_tick 34 = .ok (.invokevirtual 141, 3) := by decide +kernel
theorem dX9_tick_37 : decode cX9_tick 37 = .ok (.ireturn, 1) := by decide +kernel
set_option maxRecDepth 20000 in
theorem ggX9_run_X9_near : GoodIn wsX9_run wsX9_near := goodIn_r _ [5] (by decide +kernel) (by decide +kernel)
set_option maxRecDepth 20000 in
theorem gX9_run_X9_near : GoodIn wsX9_run (va_wsS RX9 137 yX9_near wsX9_near) := goodIn_app (goodIn_of _ (by decide +kernel)) ggX9_run_X9_near
set_option maxRecDepth 20000 in
theorem ggX9_run_X9_step : GoodIn wsX9_run wsX9_step := goodIn_r _ [9, 10, 11, 12, 13, 14, 15, 16, 17, 18, 19, 20, 21, 22, 23, 4, 24, 25, 26, 27, 28, 29, 30, 31, 32, 33, 34, 35, 36, 37, 38, 39, 40, 41, 42, 43, 44, 45, 46, 47, 48, 49, 50, 51, 52, 53, 54, 55, 56, 57, 58, 59, 60, 61, 62, 63, 64, 65, 66, 67, 68, 69, 70, 71, 72, 73, 74, 75, 76, 77, 78, 79, 80, 81, 82, 83, 84, 85, 86, 87, 88, 89, 90, 91, 92, 93, 94, 95, 96, 97, 98, 99] (by decide +kernel) (by decide +kernel)
set_option maxRecDepth 20000 in
theorem gX9_run_X9_step : GoodIn wsX9_run (wsV RX9 141 RX9 yX9_step wsX9_step) := goodIn_app (goodIn_of _ (by decide +kernel)) ggX9_run_X9_step
theorem dX9_run_0 : decode cX9_run 0 = .ok (.aload_n 0, 1) := by decide +kernel
theorem dX9_run_1 : decode cX9_run 1 = .ok (.iconst 0, 1) := by decide +kernel
theorem dX9_run_2 : decode cX9_run 2 = .ok (.putfield 49, 3) := by decide +kernel
theorem dX9_run_5 : decode cX9_run 5 = .ok (.iload_n 1, 1) := by decide +kernel
theorem dX9_run_6 : decode cX9_run 6 = .ok (.iconst 1, 1) := by decide +kernel
theorem dX9_run_7 : decode cX9_run 7 = .ok (.if_icmp .lt 9, 3) := by decide +kernel
theorem dX9_run_10 : decode cX9_run 10 = .ok (.iload_n 1, 1) := by decide +kernel
theorem dX9_run_11 : decode cX9_run 11 = .ok (.bipush 60, 2) := by decide +kernel
theorem dX9_run_13 : decode cX9_run 13 = .ok (.if_icmp .le 5, 3) := by decide +kernel
theorem dX9_run_16 : decode cX9_run 16 = .ok (.iconst (-1), 1) := by decide +kernel
theorem dX9_run_17 : decode cX9_run 17 = .ok (.ireturn, 1) := by decide +kernel
theorem dX9_run_18 : decode cX9_run 18 = .ok (.iconst 0, 1) := by decide +kernel
theorem dX9_run_19 : decode cX9_run 19 = .ok (.istore 5, 2) := by decide +kernel
theorem dX9_run_21 : decode cX9_run 21 = .ok (.iconst 0, 1) := by decide +kernel
theorem dX9_run_22 : decode cX9_run 22 = .ok (.istore 6, 2) := by decide +kernel
theorem dX9_run_24 : decode cX9_run 24 = .ok (.iload 6, 2) := by decide +kernel
theorem dX9_run_26 : decode cX9_run 26 = .ok (.iload_n 1, 1) := by decide +kernel
theorem dX9_run_27 : decode cX9_run 27 = .ok (.if_icmp .ge 62, 3) := by decide +kernel
theorem dX9_run_30 : decode cX9_run 30 = .ok (.aload_n 0, 1) := by decide +kernel
theorem dX9_run_31 : decode cX9_run 31 = .ok (.iload_n 2, 1) := by decide +kernel
theorem dX9_run_32 : decode cX9_run 32 = .ok (.sipush (-1000), 3) := by decide +kernel
theorem dX9_run_35 : decode cX9_run 35 = .ok (.sipush 1000, 3) := by decide +kernel
theorem dX9_run_38 : decode cX9_run 38 = .ok (.invokestatic 137, 3) := by decide +kernel
theorem dX9_run_41 : decode cX9_run 41 = .ok (.iload_n 3, 1) := by decide +kernel
theorem dX9_run_42 : decode cX9_run 42 = .ok (.sipush (-1000), 3) := by decide +kernel
theorem dX9_run_45 : decode cX9_run 45 = .ok (.sipush 1000, 3) := by decide +kernel
theorem dX9_run_48 : decode cX9_run 48 = .ok (.invokestatic 137, 3) := by decide +kernel
theorem dX9_run_51 : decode cX9_run 51 = .ok (.iload 4, 2) := by decide +kernel
theorem dX9_run_53 : decode cX9_run 53 = .ok (.iconst 0, 1) := by decide +kernel
theorem dX9_run_54 : decode cX9_run 54 = .ok (.sipush 255, 3) := by decide +kernel
theorem dX9_run_57 : decode cX9_run 57 = .ok (.invokestatic 137, 3) := by decide +kernel
theorem dX9_run_60 : decode cX9_run 60 = .ok (.invokevirtual 141, 3) := by decide +kernel
theorem dX9_run_63 : decode cX9_run 63 = .ok (.istore 7, 2) := by decide +kernel
theorem dX9_run_65 : decode cX9_run 65 = .ok (.iload 5, 2) := by decide +kernel
theorem dX9_run_67 : decode cX9_run 67 = .ok (.iload 7, 2) := by decide +kernel
theorem dX9_run_69 : decode cX9_run 69 = .ok (.iconst 2, 1) := by decide +kernel
theorem dX9_run_70 : decode cX9_run 70 = .ok (.ishr, 1) := by decide +kernel
theorem dX9_run_71 : decode cX9_run 71 = .ok (.iconst 1, 1) := by decide +kernel
theorem dX9_run_72 : decode cX9_run 72 = .ok (.iand, 1) := by decide +kernel
theorem dX9_run_73 : decode cX9_run 73 = .ok (.iadd, 1) := by decide +kernel
theorem dX9_run_74 : decode cX9_run 74 = .ok (.iload 7, 2) := by decide +kernel
theorem dX9_run_76 : decode cX9_run 76 = .ok (.iconst 3, 1) := by decide +kernel
theorem dX9_run_77 : decode cX9_run 77 = .ok (.ishr, 1) := by decide +kernel
theorem dX9_run_78 : decode cX9_run 78 = .ok (.iconst 1, 1) := by decide +kernel
theorem dX9_run_79 : decode cX9_run 79 = .ok (.iand, 1) := by decide +kernel
theorem dX9_run_80 : decode cX9_run 80 = .ok (.iadd, 1) := by decide +kernel
theorem dX9_run_81 : decode cX9_run 81 = .ok (.istore 5, 2) := by decide +kernel
theorem dX9_run_83 : decode cX9_run 83 = .ok (.iinc 6 1, 3) := by decide +kernel
theorem dX9_run_86 : decode cX9_run 86 = .ok (.goto (-62), 3) := by decide +kernel
theorem dX9_run_89 : decode cX9_run 89 = .ok (.iload 5, 2) := by decide +kernel
theorem dX9_run_91 : decode cX9_run 91 = .ok (.ireturn, 1) := by decide +kernel
theorem dX9_fits_0 : decode cX9_fits 0 = .ok (.iload_n 1, 1) := by decide +kernel
theorem dX9_fits_1 : decode cX9_fits 1 = .ok (.ifCond .lt 33, 3) := by decide +kernel
theorem dX9_fits_4 : decode cX9_fits 4 = .ok (.iload_n 1, 1) := by decide +kernel
theorem dX9_fits_5 : decode cX9_fits 5 = .ok (.bipush 14, 2) := by decide +kernel
theorem dX9_fits_7 : decode cX9_fits 7 = .ok (.if_icmp .ge 27, 3) := by decide +kernel
theorem dX9_fits_10 : decode cX9_fits 10 = .ok (.iload_n 2, 1) := by decide +kernel
theorem dX9_fits_11 : decode cX9_fits 11 = .ok (.aload_n 0, 1) := by decide +kernel
theorem dX9_fits_12 : decode cX9_fits 12 = .ok (.getfield 7, 3) := by decide +kernel
theorem dX9_fits_15 : decode cX9_fits 15 = .ok (.iload_n 1, 1) := by decide +kernel
theorem dX9_fits_16 : decode cX9_fits 16 = .ok (.iaload, 1) := by decide +kernel
theorem dX9_fits_17 : decode cX9_fits 17 = .ok (.if_icmp .lt 17, 3) := by decide +kernel
theorem dX9_fits_20 : decode cX9_fits 20 = .ok (.iload_n 2, 1) := by decide +kernel
theorem dX9_fits_21 : decode cX9_fits 21 = .ok (.aload_n 0, 1) := by decide +kernel
theorem dX9_fits_22 : decode cX9_fits 22 = .ok (.getfield 13, 3) := by decide +kernel
theorem dX9_fits_25 : decode cX9_fits 25 = .ok (.iload_n 1, 1) := by decide +kernel
theorem dX9_fits_26 : decode cX9_fits 26 = .ok (.iaload, 1) := by decide +kernel
theorem dX9_fits_27 : decode cX9_fits 27 = .ok (.if_icmp .gt 7, 3) := by decide +kernel
theorem dX9_fits_30 : decode cX9_fits 30 = .ok (.iconst 1, 1) := by decide +kernel
theorem dX9_fits_31 : decode cX9_fits 31 = .ok (.goto 4, 3) := by decide +kernel
theorem dX9_fits_34 : decode cX9_fits 34 = .ok (.iconst 0, 1) := by decide +kernel
theorem dX9_fits_35 : decode cX9_fits 35 = .ok (.ireturn, 1) := by decide +kernel
theorem dX9_put_0 : decode cX9_put 0 = .ok (.aload_n 0, 1) := by decide +kernel
theorem dX9_put_1 : decode cX9_put 1 = .ok (.getfield 22, 3) := by decide +kernel
theorem dX9_put_4 : decode cX9_put 4 = .ok (.iload_n 1, 1) := by decide +kernel
theorem dX9_put_5 : decode cX9_put 5 = .ok (.baload, 1) := by decide +kernel
theorem dX9_put_6 : decode cX9_put 6 = .ok (.ifCond .eq 12, 3) := by decide +kernel
theorem dX9_put_9 : decode cX9_put 9 = .ok (.aload_n 0, 1) := by decide +kernel
theorem dX9_put_10 : decode cX9_put 10 = .ok (.getfield 19, 3) := by decide +kernel
theorem dX9_put_13 : decode cX9_put 13 = .ok (.iload_n 1, 1) := by decide +kernel
theorem dX9_put_14 : decode cX9_put 14 = .ok (.iaload, 1) := by decide +kernel
theorem dX9_put_15 : decode cX9_put 15 = .ok (.goto 9, 3) := by decide +kernel
theorem dX9_put_18 : decode cX9_put 18 = .ok (.aload_n 0, 1) := by decide +kernel
theorem dX9_put_19 : decode cX9_put 19 = .ok (.getfield 16, 3) := by decide +kernel
theorem dX9_put_22 : decode cX9_put 22 = .ok (.iload_n 1, 1) := by decide +kernel
theorem dX9_put_23 : decode cX9_put 23 = .ok (.iaload, 1) := by decide +kernel
theorem dX9_put_24 : decode cX9_put 24 = .ok (.istore_n 3, 1) := by decide +kernel
theorem dX9_put_25 : decode cX9_put 25 = .ok (.aload_n 0, 1) := by decide +kernel
theorem dX9_put_26 : decode cX9_put 26 = .ok (.getfield 22, 3) := by decide +kernel
theorem dX9_put_29 : decode cX9_put 29 = .ok (.iload_n 1, 1) := by decide +kernel
theorem dX9_put_30 : decode cX9_put 30 = .ok (.iconst 1, 1) := by decide +kernel
theorem dX9_put_31 : decode cX9_put 31 = .ok (.bastore, 1) := by decide +kernel
theorem dX9_put_32 : decode cX9_put 32 = .ok (.aload_n 0, 1) := by decide +kernel
theorem dX9_put_33 : decode cX9_put 33 = .ok (.getfield 19, 3) := by decide +kernel
theorem dX9_put_36 : decode cX9_put 36 = .ok (.iload_n 1, 1) := by decide +kernel
theorem dX9_put_37 : decode cX9_put 37 = .ok (.iload_n 2, 1) := by decide +kernel
theorem dX9_put_38 : decode cX9_put 38 = .ok (.iastore, 1) := by decide +kernel
theorem dX9_put_39 : decode cX9_put 39 = .ok (.iload_n 3, 1) := by decide +kernel
theorem dX9_put_40 : decode cX9_put 40 = .ok (.ireturn, 1) := by decide +kernel
set_option maxRecDepth 20000 in
theorem ggX9_program_X9_fits : GoodIn wsX9_program wsX9_fits := goodIn_r _ [7, 8, 9, 17, 18, 19, 20, 21, 22, 23, 24, 25, 26, 27, 28, 29, 30, 31, 32, 33, 34, 35, 36, 37, 38, 39, 40, 41, 42, 43, 44, 45, 46, 47] (by decide +kernel) (by decide +kernel)
set_option maxRecDepth 20000 in
theorem gX9_program_X9_fits : GoodIn wsX9_program (wsV RX9 144 RX9 yX9_fits wsX9_fits) := goodIn_app (goodIn_of _ (by decide +kernel)) ggX9_program_X9_fits
set_option maxRecDepth 20000 in
theorem ggX9_program_X9_put : GoodIn wsX9_program wsX9_put := goodIn_r _ [13, 14, 15, 16, 17, 18, 19, 20, 21, 22, 23, 24, 25, 26, 27, 28, 29, 30, 31, 32, 33, 34, 35, 36, 37, 38, 39, 40, 41, 42, 43, 44, 45, 46, 47] (by decide +kernel) (by decide +kernel)
set_option maxRecDepth 20000 in
theorem gX9_program_X9_put : GoodIn wsX9_program (wsV RX9 151 RX9 yX9_put wsX9_put) := goodIn_app (goodIn_of _ (by decide +kernel)) ggX9_program_X9_put
theorem dX9_program_0 : decode cX9_program 0 = .ok (.aload_n 0, 1) := by decide +kernel
theorem dX9_program_1 : decode cX9_program 1 = .ok (.aload_n 0, 1) := by decide +kernel
theorem dX9_program_2 : decode cX9_program 2 = .ok (.iload_n 1, 1) := by decide +kernel
theorem dX9_program_3 : decode cX9_program 3 = .ok (.iload_n 2, 1) := by decide +kernel
theorem dX9_program_4 : decode cX9_program 4 = .ok (.invokevirtual 144, 3) := by decide +kernel
theorem dX9_program_7 : decode cX9_program 7 = .ok (.ifCond .ne 7, 3) := by decide +kernel
theorem dX9_program_10 : decode cX9_program 10 = .ok (.iconst 1, 1) := by decide +kernel
theorem dX9_program_11 : decode cX9_program 11 = .ok (.goto 16, 3) := by decide +kernel
theorem dX9_program_14 : decode cX9_program 14 = .ok (.aload_n 0, 1) := by decide +kernel
theorem dX9_program_15 : decode cX9_program 15 = .ok (.getfield 148, 3) := by decide +kernel
theorem dX9_program_18 : decode cX9_program 18 = .ok (.iconst 3, 1) := by decide +kernel
theorem dX9_program_19 : decode cX9_program 19 = .ok (.if_icmp .ne 7, 3) := by decide +kernel
theorem dX9_program_22 : decode cX9_program 22 = .ok (.iconst 2, 1) := by decide +kernel
theorem dX9_program_23 : decode cX9_program 23 = .ok (.goto 4, 3) := by decide +kernel
theorem dX9_program_26 : decode cX9_program 26 = .ok (.iconst 0, 1) := by decide +kernel
theorem dX9_program_27 : decode cX9_program 27 = .ok (.putfield 49, 3) := by decide +kernel
theorem dX9_program_30 : decode cX9_program 30 = .ok (.aload_n 0, 1) := by decide +kernel
theorem dX9_program_31 : decode cX9_program 31 = .ok (.getfield 49, 3) := by decide +kernel
theorem dX9_program_34 : decode cX9_program 34 = .ok (.ifCond .ne 12, 3) := by decide +kernel
theorem dX9_program_37 : decode cX9_program 37 = .ok (.aload_n 0, 1) := by decide +kernel
theorem dX9_program_38 : decode cX9_program 38 = .ok (.iload_n 1, 1) := by decide +kernel
theorem dX9_program_39 : decode cX9_program 39 = .ok (.iload_n 2, 1) := by decide +kernel
theorem dX9_program_40 : decode cX9_program 40 = .ok (.invokevirtual 151, 3) := by decide +kernel
theorem dX9_program_43 : decode cX9_program 43 = .ok (.goto 4, 3) := by decide +kernel
theorem dX9_program_46 : decode cX9_program 46 = .ok (.iconst 0, 1) := by decide +kernel
theorem dX9_program_47 : decode cX9_program 47 = .ok (.ireturn, 1) := by decide +kernel
theorem dX9_frameSum_0 : decode cX9_frameSum 0 = .ok (.iconst 0, 1) := by decide +kernel
theorem dX9_frameSum_1 : decode cX9_frameSum 1 = .ok (.istore_n 1, 1) := by decide +kernel
theorem dX9_frameSum_2 : decode cX9_frameSum 2 = .ok (.iconst 1, 1) := by decide +kernel
theorem dX9_frameSum_3 : decode cX9_frameSum 3 = .ok (.istore_n 2, 1) := by decide +kernel
theorem dX9_frameSum_4 : decode cX9_frameSum 4 = .ok (.iload_n 2, 1) := by decide +kernel
theorem dX9_frameSum_5 : decode cX9_frameSum 5 = .ok (.iconst 5, 1) := by decide +kernel
theorem dX9_frameSum_6 : decode cX9_frameSum 6 = .ok (.if_icmp .ge 53, 3) := by decide +kernel
theorem dX9_frameSum_9 : decode cX9_frameSum 9 = .ok (.iload_n 1, 1) := by decide +kernel
theorem dX9_frameSum_10 : decode cX9_frameSum 10 = .ok (.aload_n 0, 1) := by decide +kernel
theorem dX9_frameSum_11 : decode cX9_frameSum 11 = .ok (.getfield 36, 3) := by decide +kernel
theorem dX9_frameSum_14 : decode cX9_frameSum 14 = .ok (.iload_n 2, 1) := by decide +kernel
theorem dX9_frameSum_15 : decode cX9_frameSum 15 = .ok (.iaload, 1) := by decide +kernel
theorem dX9_frameSum_16 : decode cX9_frameSum 16 = .ok (.ixor, 1) := by decide +kernel
theorem dX9_frameSum_17 : decode cX9_frameSum 17 = .ok (.istore_n 1, 1) := by decide +kernel
theorem dX9_frameSum_18 : decode cX9_frameSum 18 = .ok (.iconst 0, 1) := by decide +kernel
theorem dX9_frameSum_19 : decode cX9_frameSum 19 = .ok (.istore_n 3, 1) := by decide +kernel
theorem dX9_frameSum_20 : decode cX9_frameSum 20 = .ok (.iload_n 3, 1) := by decide +kernel
theorem dX9_frameSum_21 : decode cX9_frameSum 21 = .ok (.bipush 8, 2) := by decide +kernel
theorem dX9_frameSum_23 : decode cX9_frameSum 23 = .ok (.if_icmp .ge 30, 3) := by decide +kernel
theorem dX9_frameSum_26 : decode cX9_frameSum 26 = .ok (.iconst 2, 1) := by decide +kernel
theorem dX9_frameSum_27 : decode cX9_frameSum 27 = .ok (.iload_n 1, 1) := by decide +kernel
theorem dX9_frameSum_28 : decode cX9_frameSum 28 = .ok (.imul, 1) := by decide +kernel
theorem dX9_frameSum_29 : decode cX9_frameSum 29 = .ok (.istore_n 1, 1) := by decide +kernel
theorem dX9_frameSum_30 : decode cX9_frameSum 30 = .ok (.iload_n 1, 1) := by decide +kernel
theorem dX9_frameSum_31 : decode cX9_frameSum 31 = .ok (.sipush 256, 3) := by decide +kernel
theorem dX9_frameSum_34 : decode cX9_frameSum 34 = .ok (.if_icmp .lt 11, 3) := by decide +kernel
theorem dX9_frameSum_37 : decode cX9_frameSum 37 = .ok (.iload_n 1, 1) := by decide +kernel
theorem dX9_frameSum_38 : decode cX9_frameSum 38 = .ok (.sipush 263, 3) := by decide +kernel
theorem dX9_frameSum_41 : decode cX9_frameSum 41 = .ok (.ixor, 1) := by decide +kernel
theorem dX9_frameSum_42 : decode cX9_frameSum 42 = .ok (.goto 4, 3) := by decide +kernel
theorem dX9_frameSum_45 : decode cX9_frameSum 45 = .ok (.iload_n 1, 1) := by decide +kernel
theorem dX9_frameSum_46 : decode cX9_frameSum 46 = .ok (.istore_n 1, 1) := by decide +kernel
theorem dX9_frameSum_47 : decode cX9_frameSum 47 = .ok (.iinc 3 1, 3) := by decide +kernel
theorem dX9_frameSum_50 : decode cX9_frameSum 50 = .ok (.goto (-30), 3) := by decide +kernel
theorem dX9_frameSum_53 : decode cX9_frameSum 53 = .ok (.iinc 2 1, 3) := by decide +kernel
theorem dX9_frameSum_56 : decode cX9_frameSum 56 = .ok (.goto (-52), 3) := by decide +kernel
theorem dX9_frameSum_59 : decode cX9_frameSum 59 = .ok (.iload_n 1, 1) := by decide +kernel
theorem dX9_frameSum_60 : decode cX9_frameSum 60 = .ok (.ireturn, 1) := by decide +kernel
set_option maxRecDepth 20000 in
theorem ggX9_receive_X9_frameSum : GoodIn wsX9_receive wsX9_frameSum := goodIn_r _ [10, 3, 23, 24, 25, 26, 27, 28, 29, 30, 31, 32, 33, 34, 35, 36, 37, 38, 39, 40, 41, 42, 43, 44, 45, 46, 47, 48, 49, 50, 51, 52, 53] (by decide +kernel) (by decide +kernel)
set_option maxRecDepth 20000 in
theorem gX9_receive_X9_frameSum : GoodIn wsX9_receive (wsV RX9 158 RX9 yX9_frameSum wsX9_frameSum) := goodIn_app (goodIn_of _ (by decide +kernel)) ggX9_receive_X9_frameSum
set_option maxRecDepth 20000 in
theorem ggX9_receive_X9_fits : GoodIn wsX9_receive wsX9_fits := goodIn_r _ [14, 15, 16, 23, 24, 25, 26, 27, 28, 29, 30, 31, 32, 33, 34, 35, 36, 37, 38, 39, 40, 41, 42, 43, 44, 45, 46, 47, 48, 49, 50, 51, 52, 53] (by decide +kernel) (by decide +kernel)
set_option maxRecDepth 20000 in
theorem gX9_receive_X9_fits : GoodIn wsX9_receive (wsV RX9 144 RX9 yX9_fits wsX9_fits) := goodIn_app (goodIn_of _ (by decide +kernel)) ggX9_receive_X9_fits
set_option maxRecDepth 20000 in
theorem ggX9_receive_X9_put : GoodIn wsX9_receive wsX9_put := goodIn_r _ [20, 21, 22, 4, 23, 24, 25, 26, 27, 28, 29, 30, 31, 32, 33, 34, 35, 36, 37, 38, 39, 40, 41, 42, 43, 44, 45, 46, 47, 48, 49, 50, 51, 52, 53] (by decide +kernel) (by decide +kernel)
set_option maxRecDepth 20000 in
theorem gX9_receive_X9_put : GoodIn wsX9_receive (wsV RX9 151 RX9 yX9_put wsX9_put) := goodIn_app (goodIn_of _ (by decide +kernel)) ggX9_receive_X9_put
theorem dX9_receive_0 : decode cX9_receive 0 = .ok (.aload_n 0, 1) := by decide +kernel
theorem dX9_receive_1 : decode cX9_receive 1 = .ok (.iconst 0, 1) := by decide +kernel
theorem dX9_receive_2 : decode cX9_receive 2 = .ok (.putfield 49, 3) := by decide +kernel
theorem dX9_receive_5 : decode cX9_receive 5 = .ok (.iload_n 1, 1) := by decide +kernel
theorem dX9_receive_6 : decode cX9_receive 6 = .ok (.sipush 255, 3) := by decide +kernel
theorem dX9_receive_9 : decode cX9_receive 9 = .ok (.iand, 1) := by decide +kernel
theorem dX9_receive_10 : decode cX9_receive 10 = .ok (.istore_n 2, 1) := by decide +kernel
theorem dX9_receive_11 : decode cX9_receive 11 = .ok (.aload_n 0, 1) := by decide +kernel
theorem dX9_receive_12 : decode cX9_receive 12 = .ok (.getfield 155, 3) := by decide +kernel
theorem dX9_receive_15 : decode cX9_receive 15 = .ok (.ifCond .ne 11, 3) := by decide +kernel
theorem dX9_receive_18 : decode cX9_receive 18 = .ok (.iload_n 2, 1) := by decide +kernel
theorem dX9_receive_19 : decode cX9_receive 19 = .ok (.bipush 126, 2) := by decide +kernel
theorem dX9_receive_21 : decode cX9_receive 21 = .ok (.if_icmp .eq 5, 3) := by decide +kernel
theorem dX9_receive_24 : decode cX9_receive 24 = .ok (.iconst (-1), 1) := by decide +kernel
theorem dX9_receive_25 : decode cX9_receive 25 = .ok (.ireturn, 1) := by decide +kernel
theorem dX9_receive_26 : decode cX9_receive 26 = .ok (.aload_n 0, 1) := by decide +kernel
theorem dX9_receive_27 : decode cX9_receive 27 = .ok (.getfield 36, 3) := by decide +kernel
theorem dX9_receive_30 : decode cX9_receive 30 = .ok (.aload_n 0, 1) := by decide +kernel
theorem dX9_receive_31 : decode cX9_receive 31 = .ok (.getfield 155, 3) := by decide +kernel
theorem dX9_receive_34 : decode cX9_receive 34 = .ok (.iload_n 2, 1) := by decide +kernel
theorem dX9_receive_35 : decode cX9_receive 35 = .ok (.iastore, 1) := by decide +kernel
theorem dX9_receive_36 : decode cX9_receive 36 = .ok (.aload_n 0, 1) := by decide +kernel
theorem dX9_receive_37 : decode cX9_receive 37 = .ok (.dup, 1) := by decide +kernel
theorem dX9_receive_38 : decode cX9_receive 38 = .ok (.getfield 155, 3) := by decide +kernel
theorem dX9_receive_41 : decode cX9_receive 41 = .ok (.iconst 1, 1) := by decide +kernel
theorem dX9_receive_42 : decode cX9_receive 42 = .ok (.iadd, 1) := by decide +kernel
theorem dX9_receive_43 : decode cX9_receive 43 = .ok (.putfield 155, 3) := by decide +kernel
theorem dX9_receive_46 : decode cX9_receive 46 = .ok (.aload_n 0, 1) := by decide +kernel
theorem dX9_receive_47 : decode cX9_receive 47 = .ok (.getfield 155, 3) := by decide +kernel
theorem dX9_receive_50 : decode cX9_receive 50 = .ok (.bipush 6, 2) := by decide +kernel
theorem dX9_receive_52 : decode cX9_receive 52 = .ok (.if_icmp .ge 5, 3) := by decide +kernel
theorem dX9_receive_55 : decode cX9_receive 55 = .ok (.iconst (-1), 1) := by decide +kernel
theorem dX9_receive_56 : decode cX9_receive 56 = .ok (.ireturn, 1) := by decide +kernel
theorem dX9_receive_57 : decode cX9_receive 57 = .ok (.aload_n 0, 1) := by decide +kernel
theorem dX9_receive_58 : decode cX9_receive 58 = .ok (.iconst 0, 1) := by decide +kernel
theorem dX9_receive_59 : decode cX9_receive 59 = .ok (.putfield 155, 3) := by decide +kernel
theorem dX9_receive_62 : decode cX9_receive 62 = .ok (.aload_n 0, 1) := by decide +kernel
theorem dX9_receive_63 : decode cX9_receive 63 = .ok (.getfield 36, 3) := by decide +kernel
theorem dX9_receive_66 : decode cX9_receive 66 = .ok (.iconst 2, 1) := by decide +kernel
theorem dX9_receive_67 : decode cX9_receive 67 = .ok (.iaload, 1) := by decide +kernel
theorem dX9_receive_68 : decode cX9_receive 68 = .ok (.istore_n 3, 1) := by decide +kernel
theorem dX9_receive_69 : decode cX9_receive 69 = .ok (.sipush 256, 3) := by decide +kernel
theorem dX9_receive_72 : decode cX9_receive 72 = .ok (.aload_n 0, 1) := by decide +kernel
theorem dX9_receive_73 : decode cX9_receive 73 = .ok (.getfield 36, 3) := by decide +kernel
theorem dX9_receive_76 : decode cX9_receive 76 = .ok (.iconst 3, 1) := by decide +kernel
theorem dX9_receive_77 : decode cX9_receive 77 = .ok (.iaload, 1) := by decide +kernel
theorem dX9_receive_78 : decode cX9_receive 78 = .ok (.imul, 1) := by decide +kernel
theorem dX9_receive_79 : decode cX9_receive 79 = .ok (.aload_n 0, 1) := by decide +kernel
theorem dX9_receive_80 : decode cX9_receive 80 = .ok (.getfield 36, 3) := by decide +kernel
theorem dX9_receive_83 : decode cX9_receive 83 = .ok (.iconst 4, 1) := by decide +kernel
theorem dX9_receive_84 : decode cX9_receive 84 = .ok (.iaload, 1) := by decide +kernel
theorem dX9_receive_85 : decode cX9_receive 85 = .ok (.iadd, 1) := by decide +kernel
theorem dX9_receive_86 : decode cX9_receive 86 = .ok (.istore 4, 2) := by decide +kernel
theorem dX9_receive_88 : decode cX9_receive 88 = .ok (.aload_n 0, 1) := by decide +kernel
theorem dX9_receive_89 : decode cX9_receive 89 = .ok (.getfield 36, 3) := by decide +kernel
theorem dX9_receive_92 : decode cX9_receive 92 = .ok (.iconst 5, 1) := by decide +kernel
theorem dX9_receive_93 : decode cX9_receive 93 = .ok (.iaload, 1) := by decide +kernel
theorem dX9_receive_94 : decode cX9_receive 94 = .ok (.aload_n 0, 1) := by decide +kernel
theorem dX9_receive_95 : decode cX9_receive 95 = .ok (.invokevirtual 158, 3) := by decide +kernel
theorem dX9_receive_98 : decode cX9_receive 98 = .ok (.if_icmp .eq 6, 3) := by decide +kernel
theorem dX9_receive_101 : decode cX9_receive 101 = .ok (.bipush (-2), 2) := by decide +kernel
theorem dX9_receive_103 : decode cX9_receive 103 = .ok (.ireturn, 1) := by decide +kernel
theorem dX9_receive_104 : decode cX9_receive 104 = .ok (.aload_n 0, 1) := by decide +kernel
theorem dX9_receive_105 : decode cX9_receive 105 = .ok (.getfield 36, 3) := by decide +kernel
theorem dX9_receive_108 : decode cX9_receive 108 = .ok (.iconst 1, 1) := by decide +kernel
theorem dX9_receive_109 : decode cX9_receive 109 = .ok (.iaload, 1) := by decide +kernel
theorem dX9_receive_110 : decode cX9_receive 110 = .ok (.iconst 2, 1) := by decide +kernel
theorem dX9_receive_111 : decode cX9_receive 111 = .ok (.if_icmp .ne 13, 3) := by decide +kernel
theorem dX9_receive_114 : decode cX9_receive 114 = .ok (.iload_n 3, 1) := by decide +kernel
theorem dX9_receive_115 : decode cX9_receive 115 = .ok (.bipush 14, 2) := by decide +kernel
theorem dX9_receive_117 : decode cX9_receive 117 = .ok (.if_icmp .ge 7, 3) := by decide +kernel
theorem dX9_receive_120 : decode cX9_receive 120 = .ok (.iconst 1, 1) := by decide +kernel
theorem dX9_receive_121 : decode cX9_receive 121 = .ok (.goto 4, 3) := by decide +kernel
theorem dX9_receive_124 : decode cX9_receive 124 = .ok (.iconst 0, 1) := by decide +kernel
theorem dX9_receive_125 : decode cX9_receive 125 = .ok (.istore 5, 2) := by decide +kernel
theorem dX9_receive_127 : decode cX9_receive 127 = .ok (.iload 5, 2) := by decide +kernel
theorem dX9_receive_129 : decode cX9_receive 129 = .ok (.ifCond .eq 10, 3) := by decide +kernel
theorem dX9_receive_132 : decode cX9_receive 132 = .ok (.aload_n 0, 1) := by decide +kernel
theorem dX9_receive_133 : decode cX9_receive 133 = .ok (.getfield 16, 3) := by decide +kernel
theorem dX9_receive_136 : decode cX9_receive 136 = .ok (.iload_n 3, 1) := by decide +kernel
theorem dX9_receive_137 : decode cX9_receive 137 = .ok (.iaload, 1) := by decide +kernel
theorem dX9_receive_138 : decode cX9_receive 138 = .ok (.ireturn, 1) := by decide +kernel
theorem dX9_receive_139 : decode cX9_receive 139 = .ok (.aload_n 0, 1) := by decide +kernel
theorem dX9_receive_140 : decode cX9_receive 140 = .ok (.getfield 36, 3) := by decide +kernel
theorem dX9_receive_143 : decode cX9_receive 143 = .ok (.iconst 1, 1) := by decide +kernel
theorem dX9_receive_144 : decode cX9_receive 144 = .ok (.iaload, 1) := by decide +kernel
theorem dX9_receive_145 : decode cX9_receive 145 = .ok (.iconst 1, 1) := by decide +kernel
theorem dX9_receive_146 : decode cX9_receive 146 = .ok (.if_icmp .ne 13, 3) := by decide +kernel
theorem dX9_receive_149 : decode cX9_receive 149 = .ok (.aload_n 0, 1) := by decide +kernel
theorem dX9_receive_150 : decode cX9_receive 150 = .ok (.iload_n 3, 1) := by decide +kernel
theorem dX9_receive_151 : decode cX9_receive 151 = .ok (.iload 4, 2) := by decide +kernel
theorem dX9_receive_153 : decode cX9_receive 153 = .ok (.invokevirtual 144, 3) := by decide +kernel
theorem dX9_receive_156 : decode cX9_receive 156 = .ok (.ifCond .ne 6, 3) := by decide +kernel
theorem dX9_receive_159 : decode cX9_receive 159 = .ok (.bipush (-3), 2) := by decide +kernel
theorem dX9_receive_161 : decode cX9_receive 161 = .ok (.ireturn, 1) := by decide +kernel
theorem dX9_receive_162 : decode cX9_receive 162 = .ok (.aload_n 0, 1) := by decide +kernel
theorem dX9_receive_163 : decode cX9_receive 163 = .ok (.getfield 148, 3) := by decide +kernel
theorem dX9_receive_166 : decode cX9_receive 166 = .ok (.iconst 3, 1) := by decide +kernel
theorem dX9_receive_167 : decode cX9_receive 167 = .ok (.if_icmp .ne 6, 3) := by decide +kernel
theorem dX9_receive_170 : decode cX9_receive 170 = .ok (.bipush (-4), 2) := by decide +kernel
theorem dX9_receive_172 : decode cX9_receive 172 = .ok (.ireturn, 1) := by decide +kernel
theorem dX9_receive_173 : decode cX9_receive 173 = .ok (.aload_n 0, 1) := by decide +kernel
theorem dX9_receive_174 : decode cX9_receive 174 = .ok (.iload_n 3, 1) := by decide +kernel
theorem dX9_receive_175 : decode cX9_receive 175 = .ok (.iload 4, 2) := by decide +kernel
theorem dX9_receive_177 : decode cX9_receive 177 = .ok (.invokevirtual 151, 3) := by decide +kernel
theorem dX9_receive_180 : decode cX9_receive 180 = .ok (.istore 6, 2) := by decide +kernel
theorem dX9_receive_182 : decode cX9_receive 182 = .ok (.iload 6, 2) := by decide +kernel
theorem dX9_receive_184 : decode cX9_receive 184 = .ok (.ifCond .ge 8, 3) := by decide +kernel
theorem dX9_receive_187 : decode cX9_receive 187 = .ok (.iload 6, 2) := by decide +kernel
theorem dX9_receive_189 : decode cX9_receive 189 = .ok (.goto 4, 3) := by decide +kernel
theorem dX9_receive_192 : decode cX9_receive 192 = .ok (.iconst 0, 1) := by decide +kernel
theorem dX9_receive_193 : decode cX9_receive 193 = .ok (.ireturn, 1) := by decide +kernel
theorem dX9_battery_0 : decode cX9_battery 0 = .ok (.aload_n 0, 1) := by decide +kernel
theorem dX9_battery_1 : decode cX9_battery 1 = .ok (.iconst 0, 1) := by decide +kernel
theorem dX9_battery_2 : decode cX9_battery 2 = .ok (.putfield 49, 3) := by decide +kernel
theorem dX9_battery_5 : decode cX9_battery 5 = .ok (.iload_n 1, 1) := by decide +kernel
theorem dX9_battery_6 : decode cX9_battery 6 = .ok (.sipush 280, 3) := by decide +kernel
end
section
theorem dX9_battery_9 : decode cX9_battery 9 = .ok (.if_icmp .lt 7, 3) := by decide +kernel
theorem dX9_battery_12 : decode cX9_battery 12 = .ok (.iconst 0, 1) := by decide +kernel
theorem dX9_battery_13 : decode cX9_battery 13 = .ok (.goto 26, 3) := by decide +kernel
theorem dX9_battery_16 : decode cX9_battery 16 = .ok (.iload_n 1, 1) := by decide +kernel
theorem dX9_battery_17 : decode cX9_battery 17 = .ok (.sipush 250, 3) := by decide +kernel
theorem dX9_battery_20 : decode cX9_battery 20 = .ok (.if_icmp .lt 7, 3) := by decide +kernel
theorem dX9_battery_23 : decode cX9_battery 23 = .ok (.iconst 1, 1) := by decide +kernel
theorem dX9_battery_24 : decode cX9_battery 24 = .ok (.goto 15, 3) := by decide +kernel
theorem dX9_battery_27 : decode cX9_battery 27 = .ok (.iload_n 1, 1) := by decide +kernel
theorem dX9_battery_28 : decode cX9_battery 28 = .ok (.sipush 220, 3) := by decide +kernel
theorem dX9_battery_31 : decode cX9_battery 31 = .ok (.if_icmp .lt 7, 3) := by decide +kernel
theorem dX9_battery_34 : decode cX9_battery 34 = .ok (.iconst 2, 1) := by decide +kernel
theorem dX9_battery_35 : decode cX9_battery 35 = .ok (.goto 4, 3) := by decide +kernel
theorem dX9_battery_38 : decode cX9_battery 38 = .ok (.iconst 3, 1) := by decide +kernel
theorem dX9_battery_39 : decode cX9_battery 39 = .ok (.istore_n 2, 1) := by decide +kernel
theorem dX9_battery_40 : decode cX9_battery 40 = .ok (.iload_n 2, 1) := by decide +kernel
theorem dX9_battery_41 : decode cX9_battery 41 = .ok (.iconst 3, 1) := by decide +kernel
theorem dX9_battery_42 : decode cX9_battery 42 = .ok (.if_icmp .ne 82, 3) := by decide +kernel
theorem dX9_battery_45 : decode cX9_battery 45 = .ok (.aload_n 0, 1) := by decide +kernel
theorem dX9_battery_46 : decode cX9_battery 46 = .ok (.getfield 148, 3) := by decide +kernel
theorem dX9_battery_49 : decode cX9_battery 49 = .ok (.iconst 3, 1) := by decide +kernel
theorem dX9_battery_50 : decode cX9_battery 50 = .ok (.if_icmp .ge 74, 3) := by decide +kernel
theorem dX9_battery_53 : decode cX9_battery 53 = .ok (.iconst 0, 1) := by decide +kernel
theorem dX9_battery_54 : decode cX9_battery 54 = .ok (.istore_n 3, 1) := by decide +kernel
theorem dX9_battery_55 : decode cX9_battery 55 = .ok (.iload_n 3, 1) := by decide +kernel
theorem dX9_battery_56 : decode cX9_battery 56 = .ok (.bipush 14, 2) := by decide +kernel
theorem dX9_battery_58 : decode cX9_battery 58 = .ok (.if_icmp .ge 66, 3) := by decide +kernel
theorem dX9_battery_61 : decode cX9_battery 61 = .ok (.aload_n 0, 1) := by decide +kernel
theorem dX9_battery_62 : decode cX9_battery 62 = .ok (.getfield 22, 3) := by decide +kernel
theorem dX9_battery_65 : decode cX9_battery 65 = .ok (.iload_n 3, 1) := by decide +kernel
theorem dX9_battery_66 : decode cX9_battery 66 = .ok (.iload_n 3, 1) := by decide +kernel
theorem dX9_battery_67 : decode cX9_battery 67 = .ok (.ifCond .eq 20, 3) := by decide +kernel
theorem dX9_battery_70 : decode cX9_battery 70 = .ok (.iload_n 3, 1) := by decide +kernel
theorem dX9_battery_71 : decode cX9_battery 71 = .ok (.iconst 1, 1) := by decide +kernel
theorem dX9_battery_72 : decode cX9_battery 72 = .ok (.if_icmp .eq 15, 3) := by decide +kernel
theorem dX9_battery_75 : decode cX9_battery 75 = .ok (.iload_n 3, 1) := by decide +kernel
theorem dX9_battery_76 : decode cX9_battery 76 = .ok (.bipush 8, 2) := by decide +kernel
theorem dX9_battery_78 : decode cX9_battery 78 = .ok (.if_icmp .eq 9, 3) := by decide +kernel
theorem dX9_battery_81 : decode cX9_battery 81 = .ok (.iload_n 3, 1) := by decide +kernel
theorem dX9_battery_82 : decode cX9_battery 82 = .ok (.bipush 11, 2) := by decide +kernel
theorem dX9_battery_84 : decode cX9_battery 84 = .ok (.if_icmp .ne 7, 3) := by decide +kernel
theorem dX9_battery_87 : decode cX9_battery 87 = .ok (.iconst 1, 1) := by decide +kernel
theorem dX9_battery_88 : decode cX9_battery 88 = .ok (.goto 4, 3) := by decide +kernel
theorem dX9_battery_91 : decode cX9_battery 91 = .ok (.iconst 0, 1) := by decide +kernel
theorem dX9_battery_92 : decode cX9_battery 92 = .ok (.bastore, 1) := by decide +kernel
theorem dX9_battery_93 : decode cX9_battery 93 = .ok (.aload_n 0, 1) := by decide +kernel
theorem dX9_battery_94 : decode cX9_battery 94 = .ok (.getfield 19, 3) := by decide +kernel
theorem dX9_battery_97 : decode cX9_battery 97 = .ok (.iload_n 3, 1) := by decide +kernel
theorem dX9_battery_98 : decode cX9_battery 98 = .ok (.iload_n 3, 1) := by decide +kernel
theorem dX9_battery_99 : decode cX9_battery 99 = .ok (.ifCond .ne 7, 3) := by decide +kernel
theorem dX9_battery_102 : decode cX9_battery 102 = .ok (.iconst 3, 1) := by decide +kernel
theorem dX9_battery_103 : decode cX9_battery 103 = .ok (.goto 14, 3) := by decide +kernel
theorem dX9_battery_106 : decode cX9_battery 106 = .ok (.iload_n 3, 1) := by decide +kernel
theorem dX9_battery_107 : decode cX9_battery 107 = .ok (.iconst 1, 1) := by decide +kernel
theorem dX9_battery_108 : decode cX9_battery 108 = .ok (.if_icmp .ne 8, 3) := by decide +kernel
theorem dX9_battery_111 : decode cX9_battery 111 = .ok (.bipush 100, 2) := by decide +kernel
theorem dX9_battery_113 : decode cX9_battery 113 = .ok (.goto 4, 3) := by decide +kernel
theorem dX9_battery_116 : decode cX9_battery 116 = .ok (.iconst 0, 1) := by decide +kernel
theorem dX9_battery_117 : decode cX9_battery 117 = .ok (.iastore, 1) := by decide +kernel
theorem dX9_battery_118 : decode cX9_battery 118 = .ok (.iinc 3 1, 3) := by decide +kernel
theorem dX9_battery_121 : decode cX9_battery 121 = .ok (.goto (-66), 3) := by decide +kernel
theorem dX9_battery_124 : decode cX9_battery 124 = .ok (.aload_n 0, 1) := by decide +kernel
theorem dX9_battery_125 : decode cX9_battery 125 = .ok (.iload_n 2, 1) := by decide +kernel
theorem dX9_battery_126 : decode cX9_battery 126 = .ok (.aload_n 0, 1) := by decide +kernel
theorem dX9_battery_127 : decode cX9_battery 127 = .ok (.getfield 148, 3) := by decide +kernel
theorem dX9_battery_130 : decode cX9_battery 130 = .ok (.if_icmp .le 7, 3) := by decide +kernel
theorem dX9_battery_133 : decode cX9_battery 133 = .ok (.iload_n 2, 1) := by decide +kernel
theorem dX9_battery_134 : decode cX9_battery 134 = .ok (.goto 7, 3) := by decide +kernel
theorem dX9_battery_137 : decode cX9_battery 137 = .ok (.aload_n 0, 1) := by decide +kernel
theorem dX9_battery_138 : decode cX9_battery 138 = .ok (.getfield 148, 3) := by decide +kernel
theorem dX9_battery_141 : decode cX9_battery 141 = .ok (.putfield 148, 3) := by decide +kernel
theorem dX9_battery_144 : decode cX9_battery 144 = .ok (.aload_n 0, 1) := by decide +kernel
theorem dX9_battery_145 : decode cX9_battery 145 = .ok (.getfield 148, 3) := by decide +kernel
theorem dX9_battery_148 : decode cX9_battery 148 = .ok (.ireturn, 1) := by decide +kernel
theorem dX9_parameter_0 : decode cX9_parameter 0 = .ok (.aload_n 0, 1) := by decide +kernel
theorem dX9_parameter_1 : decode cX9_parameter 1 = .ok (.iconst 0, 1) := by decide +kernel
theorem dX9_parameter_2 : decode cX9_parameter 2 = .ok (.putfield 49, 3) := by decide +kernel
theorem dX9_parameter_5 : decode cX9_parameter 5 = .ok (.iload_n 1, 1) := by decide +kernel
theorem dX9_parameter_6 : decode cX9_parameter 6 = .ok (.ifCond .lt 9, 3) := by decide +kernel
theorem dX9_parameter_9 : decode cX9_parameter 9 = .ok (.iload_n 1, 1) := by decide +kernel
theorem dX9_parameter_10 : decode cX9_parameter 10 = .ok (.bipush 13, 2) := by decide +kernel
theorem dX9_parameter_12 : decode cX9_parameter 12 = .ok (.if_icmp .le 7, 3) := by decide +kernel
theorem dX9_parameter_15 : decode cX9_parameter 15 = .ok (.iconst (-1), 1) := by decide +kernel
theorem dX9_parameter_16 : decode cX9_parameter 16 = .ok (.goto 9, 3) := by decide +kernel
theorem dX9_parameter_19 : decode cX9_parameter 19 = .ok (.aload_n 0, 1) := by decide +kernel
theorem dX9_parameter_20 : decode cX9_parameter 20 = .ok (.getfield 16, 3) := by decide +kernel
theorem dX9_parameter_23 : decode cX9_parameter 23 = .ok (.iload_n 1, 1) := by decide +kernel
theorem dX9_parameter_24 : decode cX9_parameter 24 = .ok (.iaload, 1) := by decide +kernel
theorem dX9_parameter_25 : decode cX9_parameter 25 = .ok (.ireturn, 1) := by decide +kernel
theorem dX9_waiting_0 : decode cX9_waiting 0 = .ok (.aload_n 0, 1) := by decide +kernel
theorem dX9_waiting_1 : decode cX9_waiting 1 = .ok (.iconst 0, 1) := by decide +kernel
theorem dX9_waiting_2 : decode cX9_waiting 2 = .ok (.putfield 49, 3) := by decide +kernel
theorem dX9_waiting_5 : decode cX9_waiting 5 = .ok (.iload_n 1, 1) := by decide +kernel
theorem dX9_waiting_6 : decode cX9_waiting 6 = .ok (.ifCond .lt 18, 3) := by decide +kernel
theorem dX9_waiting_9 : decode cX9_waiting 9 = .ok (.iload_n 1, 1) := by decide +kernel
theorem dX9_waiting_10 : decode cX9_waiting 10 = .ok (.bipush 13, 2) := by decide +kernel
theorem dX9_waiting_12 : decode cX9_waiting 12 = .ok (.if_icmp .gt 12, 3) := by decide +kernel
theorem dX9_waiting_15 : decode cX9_waiting 15 = .ok (.aload_n 0, 1) := by decide +kernel
theorem dX9_waiting_16 : decode cX9_waiting 16 = .ok (.getfield 22, 3) := by decide +kernel
theorem dX9_waiting_19 : decode cX9_waiting 19 = .ok (.iload_n 1, 1) := by decide +kernel
theorem dX9_waiting_20 : decode cX9_waiting 20 = .ok (.baload, 1) := by decide +kernel
theorem dX9_waiting_21 : decode cX9_waiting 21 = .ok (.ifCond .ne 7, 3) := by decide +kernel
theorem dX9_waiting_24 : decode cX9_waiting 24 = .ok (.iconst (-1), 1) := by decide +kernel
theorem dX9_waiting_25 : decode cX9_waiting 25 = .ok (.goto 9, 3) := by decide +kernel
theorem dX9_waiting_28 : decode cX9_waiting 28 = .ok (.aload_n 0, 1) := by decide +kernel
theorem dX9_waiting_29 : decode cX9_waiting 29 = .ok (.getfield 19, 3) := by decide +kernel
theorem dX9_waiting_32 : decode cX9_waiting 32 = .ok (.iload_n 1, 1) := by decide +kernel
theorem dX9_waiting_33 : decode cX9_waiting 33 = .ok (.iaload, 1) := by decide +kernel
theorem dX9_waiting_34 : decode cX9_waiting 34 = .ok (.ireturn, 1) := by decide +kernel
theorem dX9_since_0 : decode cX9_since 0 = .ok (.aload_n 0, 1) := by decide +kernel
theorem dX9_since_1 : decode cX9_since 1 = .ok (.iconst 0, 1) := by decide +kernel
theorem dX9_since_2 : decode cX9_since 2 = .ok (.putfield 49, 3) := by decide +kernel
theorem dX9_since_5 : decode cX9_since 5 = .ok (.iload_n 1, 1) := by decide +kernel
theorem dX9_since_6 : decode cX9_since 6 = .ok (.ifCond .ne 10, 3) := by decide +kernel
theorem dX9_since_9 : decode cX9_since 9 = .ok (.aload_n 0, 1) := by decide +kernel
theorem dX9_since_10 : decode cX9_since 10 = .ok (.getfield 62, 3) := by decide +kernel
theorem dX9_since_13 : decode cX9_since 13 = .ok (.goto 47, 3) := by decide +kernel
theorem dX9_since_16 : decode cX9_since 16 = .ok (.iload_n 1, 1) := by decide +kernel
theorem dX9_since_17 : decode cX9_since 17 = .ok (.iconst 1, 1) := by decide +kernel
theorem dX9_since_18 : decode cX9_since 18 = .ok (.if_icmp .ne 10, 3) := by decide +kernel
theorem dX9_since_21 : decode cX9_since 21 = .ok (.aload_n 0, 1) := by decide +kernel
theorem dX9_since_22 : decode cX9_since 22 = .ok (.getfield 104, 3) := by decide +kernel
theorem dX9_since_25 : decode cX9_since 25 = .ok (.goto 35, 3) := by decide +kernel
theorem dX9_since_28 : decode cX9_since 28 = .ok (.iload_n 1, 1) := by decide +kernel
theorem dX9_since_29 : decode cX9_since 29 = .ok (.iconst 2, 1) := by decide +kernel
theorem dX9_since_30 : decode cX9_since 30 = .ok (.if_icmp .ne 10, 3) := by decide +kernel
theorem dX9_since_33 : decode cX9_since 33 = .ok (.aload_n 0, 1) := by decide +kernel
theorem dX9_since_34 : decode cX9_since 34 = .ok (.getfield 91, 3) := by decide +kernel
theorem dX9_since_37 : decode cX9_since 37 = .ok (.goto 23, 3) := by decide +kernel
theorem dX9_since_40 : decode cX9_since 40 = .ok (.iload_n 1, 1) := by decide +kernel
theorem dX9_since_41 : decode cX9_since 41 = .ok (.iconst 3, 1) := by decide +kernel
theorem dX9_since_42 : decode cX9_since 42 = .ok (.if_icmp .ne 17, 3) := by decide +kernel
theorem dX9_since_45 : decode cX9_since 45 = .ok (.aload_n 0, 1) := by decide +kernel
theorem dX9_since_46 : decode cX9_since 46 = .ok (.getfield 79, 3) := by decide +kernel
theorem dX9_since_49 : decode cX9_since 49 = .ok (.ifCond .eq 10, 3) := by decide +kernel
theorem dX9_since_52 : decode cX9_since 52 = .ok (.aload_n 0, 1) := by decide +kernel
theorem dX9_since_53 : decode cX9_since 53 = .ok (.getfield 97, 3) := by decide +kernel
theorem dX9_since_56 : decode cX9_since 56 = .ok (.goto 4, 3) := by decide +kernel
theorem dX9_since_59 : decode cX9_since 59 = .ok (.iconst (-1), 1) := by decide +kernel
theorem dX9_since_60 : decode cX9_since 60 = .ok (.ireturn, 1) := by decide +kernel
theorem dX9_value_0 : decode cX9_value 0 = .ok (.aload_n 0, 1) := by decide +kernel
theorem dX9_value_1 : decode cX9_value 1 = .ok (.iconst 0, 1) := by decide +kernel
theorem dX9_value_2 : decode cX9_value 2 = .ok (.putfield 49, 3) := by decide +kernel
theorem dX9_value_5 : decode cX9_value 5 = .ok (.iload_n 1, 1) := by decide +kernel
theorem dX9_value_6 : decode cX9_value 6 = .ok (.tableswitch 68 0 5 #[38, 43, 48, 53, 58, 63], 38) := by decide +kernel
theorem dX9_value_44 : decode cX9_value 44 = .ok (.aload_n 0, 1) := by decide +kernel
theorem dX9_value_45 : decode cX9_value 45 = .ok (.getfield 30, 3) := by decide +kernel
theorem dX9_value_48 : decode cX9_value 48 = .ok (.ireturn, 1) := by decide +kernel
theorem dX9_value_49 : decode cX9_value 49 = .ok (.aload_n 0, 1) := by decide +kernel
theorem dX9_value_50 : decode cX9_value 50 = .ok (.getfield 26, 3) := by decide +kernel
theorem dX9_value_53 : decode cX9_value 53 = .ok (.ireturn, 1) := by decide +kernel
theorem dX9_value_54 : decode cX9_value 54 = .ok (.aload_n 0, 1) := by decide +kernel
theorem dX9_value_55 : decode cX9_value 55 = .ok (.getfield 85, 3) := by decide +kernel
theorem dX9_value_58 : decode cX9_value 58 = .ok (.ireturn, 1) := by decide +kernel
theorem dX9_value_59 : decode cX9_value 59 = .ok (.aload_n 0, 1) := by decide +kernel
theorem dX9_value_60 : decode cX9_value 60 = .ok (.getfield 65, 3) := by decide +kernel
theorem dX9_value_63 : decode cX9_value 63 = .ok (.ireturn, 1) := by decide +kernel
theorem dX9_value_64 : decode cX9_value 64 = .ok (.aload_n 0, 1) := by decide +kernel
theorem dX9_value_65 : decode cX9_value 65 = .ok (.getfield 68, 3) := by decide +kernel
theorem dX9_value_68 : decode cX9_value 68 = .ok (.ireturn, 1) := by decide +kernel
theorem dX9_value_69 : decode cX9_value 69 = .ok (.aload_n 0, 1) := by decide +kernel
theorem dX9_value_70 : decode cX9_value 70 = .ok (.getfield 55, 3) := by decide +kernel
theorem dX9_value_73 : decode cX9_value 73 = .ok (.ireturn, 1) := by decide +kernel
theorem dX9_value_74 : decode cX9_value 74 = .ok (.iconst (-1), 1) := by decide +kernel
theorem dX9_value_75 : decode cX9_value 75 = .ok (.ireturn, 1) := by decide +kernel
theorem dX9_fallback_0 : decode cX9_fallback 0 = .ok (.aload_n 0, 1) := by decide +kernel
theorem dX9_fallback_1 : decode cX9_fallback 1 = .ok (.iconst 0, 1) := by decide +kernel
theorem dX9_fallback_2 : decode cX9_fallback 2 = .ok (.putfield 49, 3) := by decide +kernel
theorem dX9_fallback_5 : decode cX9_fallback 5 = .ok (.aload_n 0, 1) := by decide +kernel
theorem dX9_fallback_6 : decode cX9_fallback 6 = .ok (.getfield 71, 3) := by decide +kernel
theorem dX9_fallback_9 : decode cX9_fallback 9 = .ok (.ireturn, 1) := by decide +kernel
theorem dX9_marker_0 : decode cX9_marker 0 = .ok (.aload_n 0, 1) := by decide +kernel
theorem dX9_marker_1 : decode cX9_marker 1 = .ok (.iconst 0, 1) := by decide +kernel
theorem dX9_marker_2 : decode cX9_marker 2 = .ok (.putfield 49, 3) := by decide +kernel
theorem dX9_marker_5 : decode cX9_marker 5 = .ok (.iload_n 1, 1) := by decide +kernel
theorem dX9_marker_6 : decode cX9_marker 6 = .ok (.ifCond .lt 26, 3) := by decide +kernel
theorem dX9_marker_9 : decode cX9_marker 9 = .ok (.iload_n 1, 1) := by decide +kernel
theorem dX9_marker_10 : decode cX9_marker 10 = .ok (.bipush 11, 2) := by decide +kernel
theorem dX9_marker_12 : decode cX9_marker 12 = .ok (.if_icmp .gt 20, 3) := by decide +kernel
theorem dX9_marker_15 : decode cX9_marker 15 = .ok (.iload_n 1, 1) := by decide +kernel
theorem dX9_marker_16 : decode cX9_marker 16 = .ok (.aload_n 0, 1) := by decide +kernel
theorem dX9_marker_17 : decode cX9_marker 17 = .ok (.getfield 52, 3) := by decide +kernel
theorem dX9_marker_20 : decode cX9_marker 20 = .ok (.if_icmp .ge 12, 3) := by decide +kernel
theorem dX9_marker_23 : decode cX9_marker 23 = .ok (.iload_n 2, 1) := by decide +kernel
theorem dX9_marker_24 : decode cX9_marker 24 = .ok (.ifCond .lt 8, 3) := by decide +kernel
theorem dX9_marker_27 : decode cX9_marker 27 = .ok (.iload_n 2, 1) := by decide +kernel
theorem dX9_marker_28 : decode cX9_marker 28 = .ok (.iconst 1, 1) := by decide +kernel
theorem dX9_marker_29 : decode cX9_marker 29 = .ok (.if_icmp .le 5, 3) := by decide +kernel
theorem dX9_marker_32 : decode cX9_marker 32 = .ok (.iconst (-1), 1) := by decide +kernel
theorem dX9_marker_33 : decode cX9_marker 33 = .ok (.ireturn, 1) := by decide +kernel
theorem dX9_marker_34 : decode cX9_marker 34 = .ok (.aload_n 0, 1) := by decide +kernel
theorem dX9_marker_35 : decode cX9_marker 35 = .ok (.getfield 52, 3) := by decide +kernel
theorem dX9_marker_38 : decode cX9_marker 38 = .ok (.iconst 1, 1) := by decide +kernel
theorem dX9_marker_39 : decode cX9_marker 39 = .ok (.isub, 1) := by decide +kernel
theorem dX9_marker_40 : decode cX9_marker 40 = .ok (.iload_n 1, 1) := by decide +kernel
theorem dX9_marker_41 : decode cX9_marker 41 = .ok (.isub, 1) := by decide +kernel
theorem dX9_marker_42 : decode cX9_marker 42 = .ok (.bipush 12, 2) := by decide +kernel
theorem dX9_marker_44 : decode cX9_marker 44 = .ok (.irem, 1) := by decide +kernel
theorem dX9_marker_45 : decode cX9_marker 45 = .ok (.istore_n 3, 1) := by decide +kernel
theorem dX9_marker_46 : decode cX9_marker 46 = .ok (.iload_n 2, 1) := by decide +kernel
theorem dX9_marker_47 : decode cX9_marker 47 = .ok (.ifCond .ne 12, 3) := by decide +kernel
theorem dX9_marker_50 : decode cX9_marker 50 = .ok (.aload_n 0, 1) := by decide +kernel
theorem dX9_marker_51 : decode cX9_marker 51 = .ok (.getfield 39, 3) := by decide +kernel
theorem dX9_marker_54 : decode cX9_marker 54 = .ok (.iload_n 3, 1) := by decide +kernel
theorem dX9_marker_55 : decode cX9_marker 55 = .ok (.iaload, 1) := by decide +kernel
theorem dX9_marker_56 : decode cX9_marker 56 = .ok (.goto 9, 3) := by decide +kernel
theorem dX9_marker_59 : decode cX9_marker 59 = .ok (.aload_n 0, 1) := by decide +kernel
theorem dX9_marker_60 : decode cX9_marker 60 = .ok (.getfield 42, 3) := by decide +kernel
theorem dX9_marker_63 : decode cX9_marker 63 = .ok (.iload_n 3, 1) := by decide +kernel
theorem dX9_marker_64 : decode cX9_marker 64 = .ok (.iaload, 1) := by decide +kernel
theorem dX9_marker_65 : decode cX9_marker 65 = .ok (.ireturn, 1) := by decide +kernel
theorem dX9_histogram_0 : decode cX9_histogram 0 = .ok (.aload_n 0, 1) := by decide +kernel
theorem dX9_histogram_1 : decode cX9_histogram 1 = .ok (.iconst 0, 1) := by decide +kernel
theorem dX9_histogram_2 : decode cX9_histogram 2 = .ok (.putfield 49, 3) := by decide +kernel
theorem dX9_histogram_5 : decode cX9_histogram 5 = .ok (.iload_n 1, 1) := by decide +kernel
theorem dX9_histogram_6 : decode cX9_histogram 6 = .ok (.ifCond .lt 9, 3) := by decide +kernel
theorem dX9_histogram_9 : decode cX9_histogram 9 = .ok (.iload_n 1, 1) := by decide +kernel
theorem dX9_histogram_10 : decode cX9_histogram 10 = .ok (.bipush 7, 2) := by decide +kernel
theorem dX9_histogram_12 : decode cX9_histogram 12 = .ok (.if_icmp .le 7, 3) := by decide +kernel
theorem dX9_histogram_15 : decode cX9_histogram 15 = .ok (.iconst (-1), 1) := by decide +kernel
theorem dX9_histogram_16 : decode cX9_histogram 16 = .ok (.goto 9, 3) := by decide +kernel
theorem dX9_histogram_19 : decode cX9_histogram 19 = .ok (.aload_n 0, 1) := by decide +kernel
theorem dX9_histogram_20 : decode cX9_histogram 20 = .ok (.getfield 33, 3) := by decide +kernel
theorem dX9_histogram_23 : decode cX9_histogram 23 = .ok (.iload_n 1, 1) := by decide +kernel
theorem dX9_histogram_24 : decode cX9_histogram 24 = .ok (.iaload, 1) := by decide +kernel
theorem dX9_histogram_25 : decode cX9_histogram 25 = .ok (.ireturn, 1) := by decide +kernel
theorem dJ6_bitCount_0f7a4_0 : decode cJ6_bitCount_0f7a4 0 = .ok (.iload_n 0, 1) := by decide +kernel
theorem dJ6_bitCount_0f7a4_1 : decode cJ6_bitCount_0f7a4 1 = .ok (.iload_n 0, 1) := by decide +kernel
theorem dJ6_bitCount_0f7a4_2 : decode cJ6_bitCount_0f7a4 2 = .ok (.iconst 1, 1) := by decide +kernel
theorem dJ6_bitCount_0f7a4_3 : decode cJ6_bitCount_0f7a4 3 = .ok (.iushr, 1) := by decide +kernel
theorem dJ6_bitCount_0f7a4_4 : decode cJ6_bitCount_0f7a4 4 = .ok (.ldc_w 265, 3) := by decide +kernel
theorem dJ6_bitCount_0f7a4_7 : decode cJ6_bitCount_0f7a4 7 = .ok (.iand, 1) := by decide +kernel
theorem dJ6_bitCount_0f7a4_8 : decode cJ6_bitCount_0f7a4 8 = .ok (.isub, 1) := by decide +kernel
theorem dJ6_bitCount_0f7a4_9 : decode cJ6_bitCount_0f7a4 9 = .ok (.istore_n 0, 1) := by decide +kernel
theorem dJ6_bitCount_0f7a4_10 : decode cJ6_bitCount_0f7a4 10 = .ok (.iload_n 0, 1) := by decide +kernel
theorem dJ6_bitCount_0f7a4_11 : decode cJ6_bitCount_0f7a4 11 = .ok (.ldc_w 266, 3) := by decide +kernel
theorem dJ6_bitCount_0f7a4_14 : decode cJ6_bitCount_0f7a4 14 = .ok (.iand, 1) := by decide +kernel
theorem dJ6_bitCount_0f7a4_15 : decode cJ6_bitCount_0f7a4 15 = .ok (.iload_n 0, 1) := by decide +kernel
theorem dJ6_bitCount_0f7a4_16 : decode cJ6_bitCount_0f7a4 16 = .ok (.iconst 2, 1) := by decide +kernel
theorem dJ6_bitCount_0f7a4_17 : decode cJ6_bitCount_0f7a4 17 = .ok (.iushr, 1) := by decide +kernel
theorem dJ6_bitCount_0f7a4_18 : decode cJ6_bitCount_0f7a4 18 = .ok (.ldc_w 266, 3) := by decide +kernel
theorem dJ6_bitCount_0f7a4_21 : decode cJ6_bitCount_0f7a4 21 = .ok (.iand, 1) := by decide +kernel
theorem dJ6_bitCount_0f7a4_22 : decode cJ6_bitCount_0f7a4 22 = .ok (.iadd, 1) := by decide +kernel
theorem dJ6_bitCount_0f7a4_23 : decode cJ6_bitCount_0f7a4 23 = .ok (.istore_n 0, 1) := by decide +kernel
theorem dJ6_bitCount_0f7a4_24 : decode cJ6_bitCount_0f7a4 24 = .ok (.iload_n 0, 1) := by decide +kernel
theorem dJ6_bitCount_0f7a4_25 : decode cJ6_bitCount_0f7a4 25 = .ok (.iload_n 0, 1) := by decide +kernel
theorem dJ6_bitCount_0f7a4_26 : decode cJ6_bitCount_0f7a4 26 = .ok (.iconst 4, 1) := by decide +kernel
theorem dJ6_bitCount_0f7a4_27 : decode cJ6_bitCount_0f7a4 27 = .ok (.iushr, 1) := by decide +kernel
theorem dJ6_bitCount_0f7a4_28 : decode cJ6_bitCount_0f7a4 28 = .ok (.iadd, 1) := by decide +kernel
theorem dJ6_bitCount_0f7a4_29 : decode cJ6_bitCount_0f7a4 29 = .ok (.ldc_w 267, 3) := by decide +kernel
theorem dJ6_bitCount_0f7a4_32 : decode cJ6_bitCount_0f7a4 32 = .ok (.iand, 1) := by decide +kernel
theorem dJ6_bitCount_0f7a4_33 : decode cJ6_bitCount_0f7a4 33 = .ok (.istore_n 0, 1) := by decide +kernel
theorem dJ6_bitCount_0f7a4_34 : decode cJ6_bitCount_0f7a4 34 = .ok (.iload_n 0, 1) := by decide +kernel
theorem dJ6_bitCount_0f7a4_35 : decode cJ6_bitCount_0f7a4 35 = .ok (.iload_n 0, 1) := by decide +kernel
theorem dJ6_bitCount_0f7a4_36 : decode cJ6_bitCount_0f7a4 36 = .ok (.bipush 8, 2) := by decide +kernel
theorem dJ6_bitCount_0f7a4_38 : decode cJ6_bitCount_0f7a4 38 = .ok (.iushr, 1) := by decide +kernel
theorem dJ6_bitCount_0f7a4_39 : decode cJ6_bitCount_0f7a4 39 = .ok (.iadd, 1) := by decide +kernel
theorem dJ6_bitCount_0f7a4_40 : decode cJ6_bitCount_0f7a4 40 = .ok (.istore_n 0, 1) := by decide +kernel
theorem dJ6_bitCount_0f7a4_41 : decode cJ6_bitCount_0f7a4 41 = .ok (.iload_n 0, 1) := by decide +kernel
theorem dJ6_bitCount_0f7a4_42 : decode cJ6_bitCount_0f7a4 42 = .ok (.iload_n 0, 1) := by decide +kernel
theorem dJ6_bitCount_0f7a4_43 : decode cJ6_bitCount_0f7a4 43 = .ok (.bipush 16, 2) := by decide +kernel
theorem dJ6_bitCount_0f7a4_45 : decode cJ6_bitCount_0f7a4 45 = .ok (.iushr, 1) := by decide +kernel
theorem dJ6_bitCount_0f7a4_46 : decode cJ6_bitCount_0f7a4 46 = .ok (.iadd, 1) := by decide +kernel
theorem dJ6_bitCount_0f7a4_47 : decode cJ6_bitCount_0f7a4 47 = .ok (.istore_n 0, 1) := by decide +kernel
theorem dJ6_bitCount_0f7a4_48 : decode cJ6_bitCount_0f7a4 48 = .ok (.iload_n 0, 1) := by decide +kernel
theorem dJ6_bitCount_0f7a4_49 : decode cJ6_bitCount_0f7a4 49 = .ok (.bipush 63, 2) := by decide +kernel
theorem dJ6_bitCount_0f7a4_51 : decode cJ6_bitCount_0f7a4 51 = .ok (.iand, 1) := by decide +kernel
theorem dJ6_bitCount_0f7a4_52 : decode cJ6_bitCount_0f7a4 52 = .ok (.ireturn, 1) := by decide +kernel
theorem dJ9_abs_0f7a4_0 : decode cJ9_abs_0f7a4 0 = .ok (.iload_n 0, 1) := by decide +kernel
theorem dJ9_abs_0f7a4_1 : decode cJ9_abs_0f7a4 1 = .ok (.ifCond .ge 8, 3) := by decide +kernel
theorem dJ9_abs_0f7a4_4 : decode cJ9_abs_0f7a4 4 = .ok (.iload_n 0, 1) := by decide +kernel
theorem dJ9_abs_0f7a4_5 : decode cJ9_abs_0f7a4 5 = .ok (.ineg, 1) := by decide +kernel
theorem dJ9_abs_0f7a4_6 : decode cJ9_abs_0f7a4 6 = .ok (.goto 4, 3) := by decide +kernel
theorem dJ9_abs_0f7a4_9 : decode cJ9_abs_0f7a4 9 = .ok (.iload_n 0, 1) := by decide +kernel
theorem dJ9_abs_0f7a4_10 : decode cJ9_abs_0f7a4 10 = .ok (.ireturn, 1) := by decide +kernel
theorem dJ9_max_7cf53_0 : decode cJ9_max_7cf53 0 = .ok (.iload_n 0, 1) := by decide +kernel
theorem dJ9_max_7cf53_1 : decode cJ9_max_7cf53 1 = .ok (.iload_n 1, 1) := by decide +kernel
theorem dJ9_max_7cf53_2 : decode cJ9_max_7cf53 2 = .ok (.if_icmp .lt 7, 3) := by decide +kernel
theorem dJ9_max_7cf53_5 : decode cJ9_max_7cf53 5 = .ok (.iload_n 0, 1) := by decide +kernel
theorem dJ9_max_7cf53_6 : decode cJ9_max_7cf53 6 = .ok (.goto 4, 3) := by decide +kernel
theorem dJ9_max_7cf53_9 : decode cJ9_max_7cf53 9 = .ok (.iload_n 1, 1) := by decide +kernel
theorem dJ9_max_7cf53_10 : decode cJ9_max_7cf53 10 = .ok (.ireturn, 1) := by decide +kernel
theorem dJ9_min_7cf53_0 : decode cJ9_min_7cf53 0 = .ok (.iload_n 0, 1) := by decide +kernel
theorem dJ9_min_7cf53_1 : decode cJ9_min_7cf53 1 = .ok (.iload_n 1, 1) := by decide +kernel
theorem dJ9_min_7cf53_2 : decode cJ9_min_7cf53 2 = .ok (.if_icmp .gt 7, 3) := by decide +kernel
theorem dJ9_min_7cf53_5 : decode cJ9_min_7cf53 5 = .ok (.iload_n 0, 1) := by decide +kernel
theorem dJ9_min_7cf53_6 : decode cJ9_min_7cf53 6 = .ok (.goto 4, 3) := by decide +kernel
theorem dJ9_min_7cf53_9 : decode cJ9_min_7cf53 9 = .ok (.iload_n 1, 1) := by decide +kernel
theorem dJ9_min_7cf53_10 : decode cJ9_min_7cf53 10 = .ok (.ireturn, 1) := by decide +kernel
theorem dJ7_fill_53178_0 : decode cJ7_fill_53178 0 = .ok (.iconst 0, 1) := by decide +kernel
theorem dJ7_fill_53178_1 : decode cJ7_fill_53178 1 = .ok (.istore_n 2, 1) := by decide +kernel
theorem dJ7_fill_53178_2 : decode cJ7_fill_53178 2 = .ok (.aload_n 0, 1) := by decide +kernel
theorem dJ7_fill_53178_3 : decode cJ7_fill_53178 3 = .ok (.arraylength, 1) := by decide +kernel
theorem dJ7_fill_53178_4 : decode cJ7_fill_53178 4 = .ok (.istore_n 3, 1) := by decide +kernel
theorem dJ7_fill_53178_5 : decode cJ7_fill_53178 5 = .ok (.iload_n 2, 1) := by decide +kernel
theorem dJ7_fill_53178_6 : decode cJ7_fill_53178 6 = .ok (.iload_n 3, 1) := by decide +kernel
theorem dJ7_fill_53178_7 : decode cJ7_fill_53178 7 = .ok (.if_icmp .ge 13, 3) := by decide +kernel
theorem dJ7_fill_53178_10 : decode cJ7_fill_53178 10 = .ok (.aload_n 0, 1) := by decide +kernel
theorem dJ7_fill_53178_11 : decode cJ7_fill_53178 11 = .ok (.iload_n 2, 1) := by decide +kernel
theorem dJ7_fill_53178_12 : decode cJ7_fill_53178 12 = .ok (.iload_n 1, 1) := by decide +kernel
theorem dJ7_fill_53178_13 : decode cJ7_fill_53178 13 = .ok (.iastore, 1) := by decide +kernel
theorem dJ7_fill_53178_14 : decode cJ7_fill_53178 14 = .ok (.iinc 2 1, 3) := by decide +kernel
theorem dJ7_fill_53178_17 : decode cJ7_fill_53178 17 = .ok (.goto (-12), 3) := by decide +kernel
theorem dJ7_fill_53178_20 : decode cJ7_fill_53178 20 = .ok (.return_, 1) := by decide +kernel
end
section
/-! My own base: a contract's start and end in one form, calls in one row -/
abbrev zz_P (Z : (Nat → Prop) → State → Heap → Prop) (G : va_G) (cl : List vw_C) (ty : List (ClassId × FieldType)) (av : List Value) (ws : va_W) (sz : Nat) : Array Value → State → Prop :=
  va_Pc av (fun U => U.heap.size = sz ∧ va_P G cl ws U.heap ∧ va_K G cl ty U ∧ va_D (fun _ => True) ws ∧ Z (va_A ws sz) U U.heap)
abbrev zz_B {S : Type} (G : va_G) (cl : List vw_C) (w1 : S → va_W) (A : Nat → Prop) : S → State → Prop := fun u t => va_P G cl (w1 u) t.heap ∧ va_D A (w1 u)
/-- what is asked of the words on static things -/
def zz_Zok (Z : (Nat → Prop) → State → Heap → Prop) : Prop :=
  ((∀ (A : Nat → Prop) (u U : State) (H : Heap), u.vm = U.vm → Z A u H → Z A U H) ∧ ∀ (A : Nat → Prop) (u U : State) (H : Heap), u.WarmedH U.vm → Z A u H → Z A U H) ∧
  (∀ (A : Nat → Prop) (U : State) (H H1 : Heap), Z A U H → (∀ a : Nat, a < H.size → ¬ A a → H1[a]? = H[a]?) → Z A U H1) ∧
  (∀ (A B : Nat → Prop) (U : State) (H : Heap), Z A U H → (∀ q, B q → A q) → Z B U H)
theorem zz_fm {α β : Type} (f : α → Option β) : ∀ (is : List α) (w : List β), is.map f = w.map some → is.filterMap f = w
  | [], [], _ => rfl
  | [], _ :: _, h => by simp at h
  | _ :: _, [], h => by simp at h
  | i :: is, b :: w, h => by
    simp only [List.map_cons, List.cons.injEq] at h
    rw [List.filterMap_cons, h.1]
    exact congrArg _ (zz_fm f is w h.2)
section ZZA
variable {p : Program} {l : Launch} {e : Env} {R : Room} {s : State} {m : MethodId} {args : Array Value} {below : List Frame} {meth : Method} {c : Code} {H : Heap} {locs : List Loc} {cells slots : Nat} {Q : State → Prop}
variable {pc : Nat} {ls : Array Slot} {rest st0 : List Value} {a : Array Value} {A0 : Nat → Prop} {H0 : Heap} {mc ms : Nat}
variable {Z : (Nat → Prop) → State → Heap → Prop} {G : va_G} {cl : List vw_C} {ty : List (ClassId × FieldType)} {ws wc wr : va_W}
theorem zz_blind (hZ : zz_Zok Z) {av : List Value} {sz : Nat} : FrameBlind (zz_P Z G cl ty av ws sz) := fun a U g mk q => by
  obtain ⟨q0, q1, qP, qK, qD, qZ⟩ := q
  exact ⟨q0, q1, qP, va_K.moved (u := U) (U := U.calling g mk a) (Vm.Alike.refl U.vm) qK, qD, hZ.1.1 _ U (U.calling g mk a) _ rfl qZ⟩
theorem zz_preS (hZ : zz_Zok Z) {As : List Value} (hK : va_K G cl ty s) (hP : va_P G cl ws H) (hD : va_D A0 ws) (hS : va_S A0 s.heap H locs) (hA : ∀ q, s.heap.size ≤ q → A0 q) (hz : Z A0 s s.heap)
    (isC : List Nat) (hC : isC.map (fun i => ws[i]?) = wc.map some) (hn : va_nd isC = true) : PreS s H (zz_P Z G cl ty As wc H.size) As := by
  refine ⟨zz_blind hZ, fun U hU hW => ⟨rfl, by rw [hU], ?_, va_K.moved hW.alike hK, ?_, ?_⟩⟩
  · rw [hU]; exact hP.sub isC (zz_fm _ _ _ hC)
  · exact (hD.sub isC hn hC).weaken (fun _ _ _ _ => trivial)
  · rw [hU]
    refine hZ.1.2 _ s U _ hW (hZ.2.2 _ _ _ _ (hZ.2.1 _ _ _ _ hz (fun q h1 h2 => hS.2.1 q h1 h2)) ?_)
    exact va_free hD hS hA isC hC
theorem zz_preV (hZ : zz_Zok Z) {As : List Value} {b ci q0 : Nat} {q : vw_C} {fs : List Value} (hK : va_K G cl ty s) (hP : va_P G cl ws H) (hD : va_D A0 ws) (hS : va_S A0 s.heap H locs) (hA : ∀ q, s.heap.size ≤ q → A0 q) (hz : Z A0 s s.heap)
    (isC : List Nat) (hC : isC.map (fun i => ws[i]?) = wc.map some) (hn : va_nd isC = true) (hc : cl[ci]? = some q) (he : ws[q0]? = some (b, .inr (ci, fs))) : PreV s H q.1 b (zz_P Z G cl ty (.ref b :: As) wc H.size) As :=
  ⟨zz_blind hZ, va_recv hK hP hc he, (zz_preS hZ hK hP hD hS hA hz isC hC hn).2⟩
/-- behind a call that answers an int -/
theorem zz_ci {S : Type} {post : Int32 → S → Prop} {w1 : S → va_W} (hr : va_Run p l e R s m args below meth c H locs cells slots mc ms (F0 m pc ls st0) rest (va_Qi post (zz_B G cl w1 (va_A wc H.size)) (va_A wc H.size) a) (va_A wc H.size))
    (hP : va_P G cl ws H) (hD : va_D A0 ws) (hS : va_S A0 H0 H locs) (hA : ∀ q, H0.size ≤ q → A0 q) (isC isR : List Nat) (hC : isC.map (fun i => ws[i]?) = wc.map some) (hR : isR.map (fun i => ws[i]?) = wr.map some) (hn : va_nd isR = true) (hdis : ∀ i ∈ isR, i ∉ isC)
    (kk : ∀ (r : Int32) (u : S) (H1 : Heap) (locs1 : List Loc), post r u → va_P G cl (wr ++ w1 u) H1 → va_D A0 (wr ++ w1 u) → va_S A0 H0 H1 locs1 → W p l e R s m args below meth c H1 locs1 (cells + mc) (slots + ms) Q (F0 m (pc + 3) ls (.int r :: rest))) :
    W p l e R s m args below meth c H locs cells slots Q (F0 m pc ls st0) := by
  have hF := va_free (wc := wc) hD hS hA isC hC
  refine va_calli hr hS (fun q _ h => hF q h) hF (fun r u t H1 locs1 ht hvm hp hb hz1 hk1 hS1 => ?_)
  obtain ⟨hP1, hD1⟩ := hb
  rw [ht] at hP1
  obtain ⟨h1, h2⟩ := va_join hP hD isC isR hC hR hn hdis hk1 hF hP1 hD1
  exact kk r u H1 locs1 hp h1 h2 hS1
/-- behind a call that answers nothing -/
theorem zz_cv {S : Type} {post : S → Prop} {w1 : S → va_W} (hr : va_Run p l e R s m args below meth c H locs cells slots mc ms (F0 m pc ls st0) rest (va_Qv post (zz_B G cl w1 (va_A wc H.size)) (va_A wc H.size) a) (va_A wc H.size))
    (hP : va_P G cl ws H) (hD : va_D A0 ws) (hS : va_S A0 H0 H locs) (hA : ∀ q, H0.size ≤ q → A0 q) (isC isR : List Nat) (hC : isC.map (fun i => ws[i]?) = wc.map some) (hR : isR.map (fun i => ws[i]?) = wr.map some) (hn : va_nd isR = true) (hdis : ∀ i ∈ isR, i ∉ isC)
    (kk : ∀ (u : S) (H1 : Heap) (locs1 : List Loc), post u → va_P G cl (wr ++ w1 u) H1 → va_D A0 (wr ++ w1 u) → va_S A0 H0 H1 locs1 → W p l e R s m args below meth c H1 locs1 (cells + mc) (slots + ms) Q (F0 m (pc + 3) ls rest)) :
    W p l e R s m args below meth c H locs cells slots Q (F0 m pc ls st0) := by
  have hF := va_free (wc := wc) hD hS hA isC hC
  refine va_callv hr hS (fun q _ h => hF q h) hF (fun u t H1 locs1 ht hvm hp hb hz1 hk1 hS1 => ?_)
  obtain ⟨hP1, hD1⟩ := hb
  rw [ht] at hP1
  obtain ⟨h1, h2⟩ := va_join hP hD isC isR hC hR hn hdis hk1 hF hP1 hD1
  exact kk u H1 locs1 hp h1 h2 hS1
end ZZA
/-- a contract out of its walk -/
theorem zz_Met {l : Launch} {y : MethodName} {ws ws' : List Cond} {rm : Room} {cc : ByteArray} {maxL : Nat} {ret : Option FieldType} {Z : (Nat → Prop) → State → Heap → Prop} {G : va_G} {cl : List vw_C} {ty : List (ClassId × FieldType)} {av : List Value} {wl : va_W} {sz mc ms : Nat}
    {Qf : (Nat → Prop) → Array Value → State → Outcome → State → Prop} (hy : plainName y.cls = true) (hw : ws = Cond.code y cc maxL ret :: ws') (hn : (lg_sl av).length ≤ maxL)
    (body : ∀ (p : Program) (e : Env) (s : State) (m : MethodId) (below : List Frame) (meth : Method) (c : Code) (A : Nat → Prop) (ls : Array Slot), p.tables.exec = Jvm.exec → c.code = cc → meth.sig.returnType = ret → (∀ w ∈ ws, w.before av.toArray s = true) → s.vm.findClass y.cls = some m.cls → meth.locks = false → meth.name = y.name → c.maxLocals = maxL →
      (∀ q : Nat, s.heap.size ≤ q → A q) → va_P G cl wl s.heap → va_K G cl ty s → va_D A wl → Z A s s.heap → va_S A s.heap s.heap [] → lv_has ls maxL (lv_args 0 av) →
      W p l e rm s m av.toArray below meth c s.heap [] 0 0 (MQ below (Qf A) av.toArray s mc ms A) (F0 m 0 ls [])) :
    Met l y ws rm (zz_P Z G cl ty av wl sz) (Qf (va_A wl sz)) mc ms (va_A wl sz) := by
  refine Met.ofW (cc := cc) (maxL := maxL) (ret := ret) hy hw ?_
  intro p e s m args below meth c s₁ B hml hv
  obtain ⟨rfl, hsz, hP, hK, hD0, hZ⟩ := hv
  have hts := atoms_spec (ws := ws) B.pre
  subst hsz
  rw [lg_entry_eq]
  exact body p e s m below meth c _ _ B.exec B.bytes B.returns hts (findClass_of_methodNamed B.named) B.notSynchronized (name_of_methodNamed B.named B.method).1 hml (fun q h => Or.inr h) hP hK (hD0.self (sz := s.heap.size)) hZ va_S.rf (lv_entry av hn)
section ZZB
variable {p : Program} {l : Launch} {e : Env} {R : Room} {s : State} {m : MethodId} {args : Array Value} {below : List Frame} {meth : Method} {c : Code} {H : Heap} {locs : List Loc} {cells slots : Nat}
variable {pc : Nat} {ls : Array Slot} {A : Nat → Prop} {cc : ByteArray} {G : va_G} {cl : List vw_C}
theorem zz_ri {S : Type} {post : Int32 → S → Prop} {w1 : S → va_W} {v : Int32} (u : S) (hx : p.tables.exec = Jvm.exec) (hb : c.code = cc) (hr : meth.sig.returnType = some .int) (hlocks : meth.locks = false) (hS : va_S A s.heap H locs) (hP : va_P G cl (w1 u) H) (hD : va_D A (w1 u)) (hp : post v u) (hdg : decode cc pc = .ok (.ireturn, 1)) :
    W p l e R s m args below meth c H locs cells slots (MQ below (va_Qi post (zz_B G cl w1 A) A) args s cells slots A) (F0 m pc ls [.int v]) :=
  W.iret (v := v) hx hb hr (fun t ht hW => ⟨⟨v, u, rfl, hp, by rw [ht]; exact hP, hD⟩, hS.F ht⟩) hS.2.2 hdg hlocks
theorem zz_rz {S : Type} {post : Int32 → S → Prop} {w1 : S → va_W} {v : Int32} (u : S) (hx : p.tables.exec = Jvm.exec) (hb : c.code = cc) (hr : meth.sig.returnType = some .boolean) (hn : narrow .boolean (.int v) = .int v) (hlocks : meth.locks = false) (hS : va_S A s.heap H locs) (hP : va_P G cl (w1 u) H) (hD : va_D A (w1 u)) (hp : post v u) (hdg : decode cc pc = .ok (.ireturn, 1)) :
    W p l e R s m args below meth c H locs cells slots (MQ below (va_Qi post (zz_B G cl w1 A) A) args s cells slots A) (F0 m pc ls [.int v]) :=
  W.zret (v := v) hx hb hr hn (fun t ht hW => ⟨⟨v, u, rfl, hp, by rw [ht]; exact hP, hD⟩, hS.F ht⟩) hS.2.2 hdg hlocks
theorem zz_rv {S : Type} {post : S → Prop} {w1 : S → va_W} (u : S) (hx : p.tables.exec = Jvm.exec) (hb : c.code = cc) (hr : meth.sig.returnType = none) (hlocks : meth.locks = false) (hS : va_S A s.heap H locs) (hP : va_P G cl (w1 u) H) (hD : va_D A (w1 u)) (hp : post u) (hdg : decode cc pc = .ok (.return_, 1)) :
    W p l e R s m args below meth c H locs cells slots (MQ below (va_Qv post (zz_B G cl w1 A) A) args s cells slots A) (F0 m pc ls []) :=
  W.vret hx hb hr (fun t ht hW => ⟨⟨u, rfl, hp, by rw [ht]; exact hP, hD⟩, hS.F ht⟩) hS.2.2 hdg hlocks
end ZZB
end
section
/-! The class ChamberPacer, as functions of its state -/
def bI (b : Bool) : Int32 := match b with | true => 1 | false => 0
theorem bI_0 {b : Bool} : bI b = 0 ↔ b = false := by cases b <;> decide
theorem bI_1 {b : Bool} : bI b = 1 ↔ b = true := by cases b <;> decide
theorem bI_f {b : Bool} (h : bI b = 0) : b = false := bI_0.mp h
theorem bI_t {b : Bool} (h : ¬ bI b = 0) : b = true := by cases b with
  | true => rfl
  | false => exact absurd rfl h
theorem bI_n (b : Bool) : narrow .boolean (.int (bI b)) = .int (bI b) := by cases b <;> rfl
theorem bI_tt : bI true = 1 := rfl
theorem bI_ff : bI false = 0 := rfl
abbrev tSe : Type := (Nat → Int32) × (Nat → Int32)
abbrev tCk : Type := Int32 × Int32 × Int32 × Int32 × Int32 × Bool
abbrev tSg : Type := Int32 × Int32
abbrev tFo : Type := Int32 × Int32 × Bool
abbrev tPa : Type := Int32 × Int32 × Int32
abbrev tCy : Type := (Nat → Int32) × Int32
abbrev tMk : Type := (Nat → Int32) × (Nat → Int32) × Int32 × Int32
abbrev tFr : Type := (Nat → Int32) × Int32
abbrev tCP : Type := tSe × tCk × tSg × tSg × tFo × tPa × tCy × tMk × tFr × Int32
def tLeast (k : Nat) : Int32 := [0, 30, 20, 5, 10, 10, 5, 0, 0, 1, 1, 0, 25, 10].getD k 0
def tMost (k : Nat) : Int32 := [7, 200, 120, 30, 60, 60, 60, 10, 60, 500, 500, 1, 150, 60].getD k 0
def tFirst (k : Nat) : Int32 := [7, 100, 50, 15, 25, 30, 20, 4, 0, 10, 20, 0, 50, 25].getD k 0
def k_near (x lo hi : Int32) : Int32 := if lo ≤ x then (if x ≤ hi then x else hi) else lo
def k_exists (k : Int32) : Bool := !decide (k < 0) && !decide (14 ≤ k)
def k_allows (k a : Int32) : Bool := k_exists k && !decide (a < tLeast k.toNatClampNeg) && !decide (tMost k.toNatClampNeg < a)
def k_mode (S : tSe) : Int32 := S.1 0
def k_inF (S : tSe) (k : Int32) : Int32 := if k_exists k = true then S.1 k.toNatClampNeg else -1
def k_pend (S : tSe) (k : Int32) : Int32 := if k_exists k = true then S.2 k.toNatClampNeg else -1
def k_latest (S : tSe) (k : Int32) : Int32 := if k_pend S k = -1 then k_inF S k else k_pend S k
def k_ask (S : tSe) (k a : Int32) : tSe := if k_allows k a = true then (S.1, upd S.2 k.toNatClampNeg a) else S
def k_fill (f : Nat → Int32) (n : Nat) (v : Int32) : Nat → Int32 := fun j => if j < n then v else f j
def k_drop (S : tSe) : tSe := (S.1, k_fill S.2 14 (-1))
def k_any (S : tSe) : Nat → Bool
  | 0 => false
  | n + 1 => if S.2 n = -1 then k_any S n else true
def k_pifF (S : tSe) (n : Nat) : Nat → Int32 := fun j => if j < n ∧ ¬ S.2 j = -1 then S.2 j else S.1 j
def k_pifA (S : tSe) (n : Nat) : Nat → Int32 := fun j => if j < n then -1 else S.2 j
def k_pif (S : tSe) : tSe := (k_pifF S 14, k_pifA S 14)
def k_avRuns (C : tCk) : Bool := !decide (C.2.2.2.2.1 = -1)
def k_startAv (C : tCk) : tCk := (C.1, C.2.1, C.2.2.1, C.2.2.2.1, 0, C.2.2.2.2.2)
def k_stopAv (C : tCk) : tCk := (C.1, C.2.1, C.2.2.1, C.2.2.2.1, -1, C.2.2.2.2.2)
def k_grow1 (C : tCk) : tCk := (C.1 + 1, (if 1000 < C.2.1 + 1 then 1000 else C.2.1 + 1), (if 1000 < C.2.2.1 + 1 then 1000 else C.2.2.1 + 1), (if 1000 < C.2.2.2.1 + 1 then 1000 else C.2.2.2.1 + 1), C.2.2.2.2.1, C.2.2.2.2.2)
def k_grow (C : tCk) : tCk := if k_avRuns (k_grow1 C) = true then ((k_grow1 C).1, (k_grow1 C).2.1, (k_grow1 C).2.2.1, (k_grow1 C).2.2.2.1, C.2.2.2.2.1 + 1, C.2.2.2.2.2) else k_grow1 C
def k_restA (b : Bool) (C : tCk) : tCk := (C.1, 0, C.2.2.1, (if b = true then 0 else C.2.2.2.1), C.2.2.2.2.1, true)
def k_restV (C : tCk) : tCk := (C.1, C.2.1, 0, C.2.2.2.1, -1, false)
def k_cross (S : tSg) (x lim : Int32) : Bool := !decide ((if 0 ≤ x - S.2 then x - S.2 else 0 - (x - S.2)) < lim)
def k_take (S : tSg) (x : Int32) : tSg := (x, S.1)
def k_cntF (b : Bool) (F : tFo) : Int32 := if b = true then F.1 + 1 else 0
def k_cntS (b : Bool) (F : tFo) : Int32 := if b = true then 0 else F.2.1 + 1
def k_count (b : Bool) (F : tFo) : tFo := (k_cntF b F, k_cntS b F, if k_cntS b F < 3 then (if k_cntF b F < 5 then F.2.2 else true) else false)
def k_forget (F : tFo) : tFo := (0, 0, false)
def k_adapt (a : Int32) (P : tPa) : tPa := if 16 * a ≤ P.1 then (P.1 - (P.1 - 16 * a) / 32, P.2.1, P.2.2) else (P.1 + (16 * a - P.1) / 8, P.2.1, P.2.2)
def k_goal (lo fa lv : Int32) : Int32 := lo - (lo - fa) * lv / 4080
def k_appr (lo fa : Int32) (P : tPa) : tPa := (P.1, P.2.1 + k_near (k_goal lo fa P.1 - P.2.1) (-4) 4, P.2.2)
def k_begin (sl : Int32) (b : Bool) (P : tPa) : tPa := (P.1, P.2.1, if b = true then (if P.2.1 < sl then P.2.1 else sl) else sl)
def k_bin (t : Int32) (Y : tCy) : Int32 := k_near ((t - Y.2) / 25) 0 7
def k_end (t : Int32) (Y : tCy) : tCy := (upd Y.1 (k_bin t Y).toNatClampNeg (Y.1 (k_bin t Y).toNatClampNeg + 1), t)
def k_inBin (Y : tCy) (b : Int32) : Int32 := if b < 0 then -1 else if 8 ≤ b then -1 else Y.1 b.toNatClampNeg
def k_rem (x y : Int32) : Int32 := x - x / y * y
def k_keep (kd t : Int32) (M : tMk) : tMk := (upd M.1 M.2.2.1.toNatClampNeg kd, upd M.2.1 M.2.2.1.toNatClampNeg t, k_rem (M.2.2.1 + 1) 12, if 12 ≤ M.2.2.2 then M.2.2.2 else M.2.2.2 + 1)
def k_has (M : tMk) (k : Int32) : Bool := !decide (k < 0) && !decide (M.2.2.2 ≤ k)
def k_place (M : tMk) (k : Int32) : Int32 := k_rem (M.2.2.1 + 12 - 1 - k) 12
def k_kind (M : tMk) (k : Int32) : Int32 := if k_has M k = true then M.1 (k_place M k).toNatClampNeg else -1
def k_time (M : tMk) (k : Int32) : Int32 := if k_has M k = true then M.2.1 (k_place M k).toNatClampNeg else -1
def k_ledA (m : Int32) : Bool := decide (m = 1) || decide (m = 4)
def k_both (m : Int32) : Bool := decide (m = 2) || decide (m = 6) || decide (m = 7)
def k_senA (m : Int32) : Bool := !decide (m < 4)
def k_senV (m : Int32) : Bool := decide (m = 3) || !decide (m < 5)
def k_foll (m : Int32) : Bool := decide (m = 5) || decide (m = 7)
def k_stat (r : Int32) : Int32 := if r < 280 then (if r < 250 then (if r < 220 then 3 else 2) else 1) else 0
-- what keeps the markers' rows in their bounds
def kIM (M : tMk) : Prop := vp_in M.2.2.1 12 ∧ 0 ≤ M.2.2.2 ∧ M.2.2.2 ≤ 12
abbrev wCk (h0 : Nat) (cA cB : ClassId) (X : tCk) : va_W := [(h0, .inr (0, [.int X.1, .int X.2.1, .int X.2.2.1, .int X.2.2.2.1, .int X.2.2.2.2.1, .int (bI X.2.2.2.2.2)]))]
abbrev wCy (h0 h1 : Nat) (cA cB : ClassId) (X : tCy) : va_W := [(h0, .inr (1, [.ref h1, .int X.2])), (h1, .inl (cA, 8, .inl X.1))]
abbrev wFo (h0 : Nat) (cA cB : ClassId) (X : tFo) : va_W := [(h0, .inr (2, [.int X.1, .int X.2.1, .int (bI X.2.2)]))]
abbrev wFr (h0 h1 : Nat) (cA cB : ClassId) (X : tFr) : va_W := [(h0, .inr (3, [.ref h1, .int X.2])), (h1, .inl (cA, 5, .inl X.1))]
abbrev wMk (h0 h1 h2 : Nat) (cA cB : ClassId) (X : tMk) : va_W := [(h0, .inr (4, [.ref h1, .ref h2, .int X.2.2.1, .int X.2.2.2])), (h1, .inl (cA, 12, .inl X.1)), (h2, .inl (cA, 12, .inl X.2.1))]
abbrev wPa (h0 : Nat) (cA cB : ClassId) (X : tPa) : va_W := [(h0, .inr (5, [.int X.1, .int X.2.1, .int X.2.2]))]
abbrev wSe (h0 h1 h2 : Nat) (cA cB : ClassId) (X : tSe) : va_W := [(h0, .inr (6, [.ref h1, .ref h2])), (h1, .inl (cA, 14, .inl X.1)), (h2, .inl (cA, 14, .inl X.2))]
abbrev wSg (h0 : Nat) (cA cB : ClassId) (X : tSg) : va_W := [(h0, .inr (7, [.int X.1, .int X.2]))]
abbrev wCP (h : Nat → Nat) (cA cB : ClassId) (X : tCP) : va_W := [((h 0), .inr (8, [.ref (h 1), .ref (h 4), .ref (h 5), .ref (h 6), .ref (h 7), .ref (h 8), .ref (h 9), .ref (h 11), .ref (h 14), .int X.2.2.2.2.2.2.2.2.2])), ((h 1), .inr (6, [.ref (h 2), .ref (h 3)])), ((h 2), .inl (cA, 14, .inl X.1.1)), ((h 3), .inl (cA, 14, .inl X.1.2)), ((h 4), .inr (0, [.int X.2.1.1, .int X.2.1.2.1, .int X.2.1.2.2.1, .int X.2.1.2.2.2.1, .int X.2.1.2.2.2.2.1, .int (bI X.2.1.2.2.2.2.2)])), ((h 5), .inr (7, [.int X.2.2.1.1, .int X.2.2.1.2])), ((h 6), .inr (7, [.int X.2.2.2.1.1, .int X.2.2.2.1.2])), ((h 7), .inr (2, [.int X.2.2.2.2.1.1, .int X.2.2.2.2.1.2.1, .int (bI X.2.2.2.2.1.2.2)])), ((h 8), .inr (5, [.int X.2.2.2.2.2.1.1, .int X.2.2.2.2.2.1.2.1, .int X.2.2.2.2.2.1.2.2])), ((h 9), .inr (1, [.ref (h 10), .int X.2.2.2.2.2.2.1.2])), ((h 10), .inl (cA, 8, .inl X.2.2.2.2.2.2.1.1)), ((h 11), .inr (4, [.ref (h 12), .ref (h 13), .int X.2.2.2.2.2.2.2.1.2.2.1, .int X.2.2.2.2.2.2.2.1.2.2.2])), ((h 12), .inl (cA, 12, .inl X.2.2.2.2.2.2.2.1.1)), ((h 13), .inl (cA, 12, .inl X.2.2.2.2.2.2.2.1.2.1)), ((h 14), .inr (3, [.ref (h 15), .int X.2.2.2.2.2.2.2.2.1.2])), ((h 15), .inl (cA, 5, .inl X.2.2.2.2.2.2.2.2.1.1))]
def zS (tb : Nat × Nat × Nat) (A : Nat → Prop) (U : State) (H : Heap) : Prop :=
  (va_Z RX8 "LEAST" "[I" (.ref tb.1) A U H ∧ va_T .int tb.1 14 (fun j => .int (tLeast j)) A U H) ∧
  (va_Z RX8 "MOST" "[I" (.ref tb.2.1) A U H ∧ va_T .int tb.2.1 14 (fun j => .int (tMost j)) A U H) ∧
  (va_Z RX8 "AT_FIRST" "[I" (.ref tb.2.2) A U H ∧ va_T .int tb.2.2 14 (fun j => .int (tFirst j)) A U H) ∧
  va_Nw (.fieldLinkNest RX6 36 RX8 "LEAST" "[I" RX8) U ∧ va_Nw (.fieldLinkNest RX6 39 RX8 "MOST" "[I" RX8) U ∧ va_Nw (.fieldLinkNest RX6 9 RX8 "AT_FIRST" "[I" RX8) U ∧
  va_Nw (.methodLinkNest RX1 19 yX8_nearest RX8) U ∧ va_Nw (.methodLinkNest RX5 21 yX8_nearest RX8) U ∧
  va_Nw (.methodLinkNest RX8 18 yX0_init RX8) U ∧ va_Nw (.methodLinkNest RX8 25 yX7_init RX8) U ∧ va_Nw (.methodLinkNest RX8 35 yX2_init RX8) U ∧ va_Nw (.methodLinkNest RX8 42 yX5_init RX8) U ∧
  va_Nw (.methodLinkNest RX8 49 yX1_init RX8) U ∧ va_Nw (.methodLinkNest RX8 56 yX4_init RX8) U ∧ va_Nw (.methodLinkNest RX8 63 yX3_init RX8) U
theorem zS_ok {tb : Nat × Nat × Nat} : zz_Zok (zS tb) := by
  refine ⟨⟨?_, ?_⟩, ?_, ?_⟩
  · intro A u U H hv h
    obtain ⟨⟨a1, a2⟩, ⟨b1, b2⟩, ⟨c1, c2⟩, n1, n2, n3, n4, n5, n6, n7, n8, n9, n10, n11, n12⟩ := h
    have ha : u.vm.Alike U.vm := by rw [hv]; exact Vm.Alike.refl _
    exact ⟨⟨a1.moved ha, a2.moved ha⟩, ⟨b1.moved ha, b2.moved ha⟩, ⟨c1.moved ha, c2.moved ha⟩, n1.same rfl hv, n2.same rfl hv, n3.same rfl hv, n4.same rfl hv, n5.same rfl hv, n6.same rfl hv, n7.same rfl hv, n8.same rfl hv, n9.same rfl hv, n10.same rfl hv, n11.same rfl hv, n12.same rfl hv⟩
  · intro A u U H hW h
    obtain ⟨⟨a1, a2⟩, ⟨b1, b2⟩, ⟨c1, c2⟩, n1, n2, n3, n4, n5, n6, n7, n8, n9, n10, n11, n12⟩ := h
    have ha := hW.alike
    exact ⟨⟨a1.moved ha, a2.moved ha⟩, ⟨b1.moved ha, b2.moved ha⟩, ⟨c1.moved ha, c2.moved ha⟩, n1.warmF hW, n2.warmF hW, n3.warmF hW, n4.warmM hW, n5.warmM hW, n6.warmM hW, n7.warmM hW, n8.warmM hW, n9.warmM hW, n10.warmM hW, n11.warmM hW, n12.warmM hW⟩
  · intro A U H H1 h hk
    obtain ⟨⟨a1, a2⟩, ⟨b1, b2⟩, ⟨c1, c2⟩, n⟩ := h
    exact ⟨⟨a1.kept hk, a2.kept hk⟩, ⟨b1.kept hk, b2.kept hk⟩, ⟨c1.kept hk, c2.kept hk⟩, n⟩
  · intro A B U H h hAB
    obtain ⟨⟨a1, a2⟩, ⟨b1, b2⟩, ⟨c1, c2⟩, n⟩ := h
    exact ⟨⟨a1.narrow hAB, a2.narrow hAB⟩, ⟨b1.narrow hAB, b2.narrow hAB⟩, ⟨c1.narrow hAB, c2.narrow hAB⟩, n⟩
theorem zz_out3 {x : Int32} (a : ¬ x = 0) (b : ¬ x = 1) (c : ¬ x = 2) (d : ¬ x = 3) : x.toInt < 0 ∨ 3 < x.toInt := by
  have h0 := lv_neT a (k := 0) (a := 0) (by decide)
  have h1 := lv_neT b (k := 1) (a := 1) (by decide)
  have h2 := lv_neT c (k := 2) (a := 2) (by decide)
  have h3 := lv_neT d (k := 3) (a := 3) (by decide)
  omega
theorem zz_out5 {x : Int32} (a : ¬ x = 0) (b : ¬ x = 1) (c : ¬ x = 2) (d : ¬ x = 3) (e : ¬ x = 4) (f : ¬ x = 5) : x.toInt < 0 ∨ 5 < x.toInt := by
  have h0 := lv_neT a (k := 0) (a := 0) (by decide)
  have h1 := lv_neT b (k := 1) (a := 1) (by decide)
  have h2 := lv_neT c (k := 2) (a := 2) (by decide)
  have h3 := lv_neT d (k := 3) (a := 3) (by decide)
  have h4 := lv_neT e (k := 4) (a := 4) (by decide)
  have h5 := lv_neT f (k := 5) (a := 5) (by decide)
  omega
theorem vp_near7 (x : Int32) : vp_in (k_near x 0 7) 8 := by
  unfold k_near
  split
  · split
    · rename_i h1 h2
      rw [vp_in_iff]
      have a : (0 : Int32).toInt ≤ x.toInt := Int32.le_iff_toInt_le.mp h1
      have b : x.toInt ≤ (7 : Int32).toInt := Int32.le_iff_toInt_le.mp h2
      have c : (0 : Int32).toInt = 0 := by decide
      have d : (7 : Int32).toInt = 7 := by decide
      omega
    · decide
  · decide
theorem vp_of {x : Int32} {n : Nat} {m : Int32} (hm : m.toInt = n) (h1 : ¬ x < 0) (h2 : ¬ m ≤ x) : vp_in x n := by
  rw [vp_in_iff]
  have a : ¬ x.toInt < 0 := fun h => h1 (Int32.lt_iff_toInt_lt.mpr (by rw [show (0 : Int32).toInt = 0 by decide]; exact h))
  have b : ¬ m.toInt ≤ x.toInt := fun h => h2 (Int32.le_iff_toInt_le.mpr h)
  omega
theorem vp_ex {k : Int32} (h : k_exists k = true) : vp_in k 14 := by
  simp only [k_exists, Bool.and_eq_true, Bool.not_eq_true', decide_eq_false_iff_not] at h
  exact vp_of (m := 14) (by decide) h.1 h.2
end
section
abbrev rmX8_nearest : Room := { frames := 0, cells := 0, slots := 0, locals := 0 }
abbrev QfX8_nearest (G : va_G) (cA cB : ClassId) (x : Int32) (lo : Int32) (hi : Int32) : (Nat → Prop) → Array Value → State → Outcome → State → Prop := fun A => va_Qi (fun (r : Int32) (u : Unit) => r = k_near x lo hi) (zz_B G vwCl (fun _ : Unit => []) A) A
set_option maxHeartbeats 4000000 in
set_option maxRecDepth 100000 in
theorem kX8_nearest (l : Launch) (G : va_G) (cA cB : ClassId) (tb : Nat × Nat × Nat) (sz : Nat) (x : Int32) (lo : Int32) (hi : Int32) : Met l yX8_nearest wsX8_nearest rmX8_nearest (zz_P (zS tb) G vwCl [(cA, .int), (cB, .boolean)] [.int x, .int lo, .int hi] [] sz) (QfX8_nearest G cA cB x lo hi (va_A [] sz)) 0 0 (va_A [] sz) := by
  refine zz_Met (cc := cX8_nearest) (maxL := 3) (ret := (some .int)) (Qf := QfX8_nearest G cA cB x lo hi) (by decide) rfl (Nat.le_of_ble_eq_true rfl) ?_
  intro p e s m below meth c A ls hx hb hr hts hown hlocks hin hml hA hP hK hD hz hS hl
  have hl : lv_has ls 3 [(0, .int x), (1, .int lo), (2, .int hi)] := hl
  have hP : va_P G vwCl [] s.heap := hP
  have hD : va_D A [] := hD
  refine lv_iload_n hx hb dX8_nearest_0 rfl (lv_at hl 0 rfl) ?_
  refine lv_iload_n hx hb dX8_nearest_1 rfl (lv_at hl 1 rfl) ?_
  refine lv_icmp_ge (tgt := 7) hx hb dX8_nearest_2 (by decide) (fun c_1 => ?_) (fun c_1 => ?_)
  · refine lv_iload_n hx hb dX8_nearest_7 rfl (lv_at hl 0 rfl) ?_
    refine lv_iload_n hx hb dX8_nearest_8 rfl (lv_at hl 2 rfl) ?_
    refine lv_icmp_le (tgt := 16) hx hb dX8_nearest_9 (by decide) (fun c_2 => ?_) (fun c_2 => ?_)
    · refine lv_iload_n hx hb dX8_nearest_16 rfl (lv_at hl 0 rfl) ?_
      exact zz_ri (v := x) () hx hb hr hlocks hS hP hD (by first | rfl | (simp [k_near, c_1, c_2])) dX8_nearest_17
    · refine lv_iload_n hx hb dX8_nearest_12 rfl (lv_at hl 2 rfl) ?_
      refine lv_goto (tgt := 17) hx hb dX8_nearest_13 (by decide) ?_
      exact zz_ri (v := hi) () hx hb hr hlocks hS hP hD (by first | rfl | (simp [k_near, c_1, c_2])) dX8_nearest_17
  · refine lv_iload_n hx hb dX8_nearest_5 rfl (lv_at hl 1 rfl) ?_
    exact zz_ri (v := lo) () hx hb hr hlocks hS hP hD (by first | rfl | (simp [k_near, c_1])) dX8_nearest_6
abbrev rmX8_isLedByA : Room := { frames := 0, cells := 0, slots := 0, locals := 0 }
abbrev QfX8_isLedByA (G : va_G) (cA cB : ClassId) (q : Int32) : (Nat → Prop) → Array Value → State → Outcome → State → Prop := fun A => va_Qi (fun (r : Int32) (u : Unit) => r = bI (k_ledA q)) (zz_B G vwCl (fun _ : Unit => []) A) A
set_option maxHeartbeats 4000000 in
set_option maxRecDepth 100000 in
theorem kX8_isLedByA (l : Launch) (G : va_G) (cA cB : ClassId) (tb : Nat × Nat × Nat) (sz : Nat) (q : Int32) : Met l yX8_isLedByA wsX8_isLedByA rmX8_isLedByA (zz_P (zS tb) G vwCl [(cA, .int), (cB, .boolean)] [.int q] [] sz) (QfX8_isLedByA G cA cB q (va_A [] sz)) 0 0 (va_A [] sz) := by
  refine zz_Met (cc := cX8_isLedByA) (maxL := 1) (ret := (some .boolean)) (Qf := QfX8_isLedByA G cA cB q) (by decide) rfl (Nat.le_of_ble_eq_true rfl) ?_
  intro p e s m below meth c A ls hx hb hr hts hown hlocks hin hml hA hP hK hD hz hS hl
  have hl : lv_has ls 1 [(0, .int q)] := hl
  have hP : va_P G vwCl [] s.heap := hP
  have hD : va_D A [] := hD
  refine lv_iload_n hx hb dX8_isLedByA_0 rfl (lv_at hl 0 rfl) ?_
  refine lv_iconst (v := 1) hx hb dX8_isLedByA_1 (by decide) ?_
  refine lv_icmp_eq (tgt := 10) hx hb dX8_isLedByA_2 (by decide) (fun c_1 => ?_) (fun c_1 => ?_)
  · refine lv_iconst (v := 1) hx hb dX8_isLedByA_10 (by decide) ?_
    refine lv_goto (tgt := 15) hx hb dX8_isLedByA_11 (by decide) ?_
    exact zz_rz (v := 1) () hx hb hr (by decide +kernel) hlocks hS hP hD (by first | rfl | (simp [k_ledA, bI, c_1])) dX8_isLedByA_15
  · refine lv_iload_n hx hb dX8_isLedByA_5 rfl (lv_at hl 0 rfl) ?_
    refine lv_iconst (v := 4) hx hb dX8_isLedByA_6 (by decide) ?_
    refine lv_icmp_ne (tgt := 14) hx hb dX8_isLedByA_7 (by decide) (fun c_2 => ?_) (fun c_2 => ?_)
    · refine lv_iconst (v := 0) hx hb dX8_isLedByA_14 (by decide) ?_
      exact zz_rz (v := 0) () hx hb hr (by decide +kernel) hlocks hS hP hD (by first | rfl | (simp [k_ledA, bI, c_1, c_2])) dX8_isLedByA_15
    · refine lv_iconst (v := 1) hx hb dX8_isLedByA_10 (by decide) ?_
      refine lv_goto (tgt := 15) hx hb dX8_isLedByA_11 (by decide) ?_
      exact zz_rz (v := 1) () hx hb hr (by decide +kernel) hlocks hS hP hD (by first | rfl | (simp [k_ledA, bI, c_1, c_2])) dX8_isLedByA_15
abbrev rmX8_pacesBoth : Room := { frames := 0, cells := 0, slots := 0, locals := 0 }
abbrev QfX8_pacesBoth (G : va_G) (cA cB : ClassId) (q : Int32) : (Nat → Prop) → Array Value → State → Outcome → State → Prop := fun A => va_Qi (fun (r : Int32) (u : Unit) => r = bI (k_both q)) (zz_B G vwCl (fun _ : Unit => []) A) A
set_option maxHeartbeats 4000000 in
set_option maxRecDepth 100000 in
theorem kX8_pacesBoth (l : Launch) (G : va_G) (cA cB : ClassId) (tb : Nat × Nat × Nat) (sz : Nat) (q : Int32) : Met l yX8_pacesBoth wsX8_pacesBoth rmX8_pacesBoth (zz_P (zS tb) G vwCl [(cA, .int), (cB, .boolean)] [.int q] [] sz) (QfX8_pacesBoth G cA cB q (va_A [] sz)) 0 0 (va_A [] sz) := by
  refine zz_Met (cc := cX8_pacesBoth) (maxL := 1) (ret := (some .boolean)) (Qf := QfX8_pacesBoth G cA cB q) (by decide) rfl (Nat.le_of_ble_eq_true rfl) ?_
  intro p e s m below meth c A ls hx hb hr hts hown hlocks hin hml hA hP hK hD hz hS hl
  have hl : lv_has ls 1 [(0, .int q)] := hl
  have hP : va_P G vwCl [] s.heap := hP
  have hD : va_D A [] := hD
  refine lv_iload_n hx hb dX8_pacesBoth_0 rfl (lv_at hl 0 rfl) ?_
  refine lv_iconst (v := 2) hx hb dX8_pacesBoth_1 (by decide) ?_
  refine lv_icmp_eq (tgt := 17) hx hb dX8_pacesBoth_2 (by decide) (fun c_1 => ?_) (fun c_1 => ?_)
  · refine lv_iconst (v := 1) hx hb dX8_pacesBoth_17 (by decide) ?_
    refine lv_goto (tgt := 22) hx hb dX8_pacesBoth_18 (by decide) ?_
    exact zz_rz (v := 1) () hx hb hr (by decide +kernel) hlocks hS hP hD (by first | rfl | (simp [k_both, bI, c_1])) dX8_pacesBoth_22
  · refine lv_iload_n hx hb dX8_pacesBoth_5 rfl (lv_at hl 0 rfl) ?_
    refine lv_bipush (v := 6) hx hb dX8_pacesBoth_6 (by decide) ?_
    refine lv_icmp_eq (tgt := 17) hx hb dX8_pacesBoth_8 (by decide) (fun c_2 => ?_) (fun c_2 => ?_)
    · refine lv_iconst (v := 1) hx hb dX8_pacesBoth_17 (by decide) ?_
      refine lv_goto (tgt := 22) hx hb dX8_pacesBoth_18 (by decide) ?_
      exact zz_rz (v := 1) () hx hb hr (by decide +kernel) hlocks hS hP hD (by first | rfl | (simp [k_both, bI, c_1, c_2])) dX8_pacesBoth_22
    · refine lv_iload_n hx hb dX8_pacesBoth_11 rfl (lv_at hl 0 rfl) ?_
      refine lv_bipush (v := 7) hx hb dX8_pacesBoth_12 (by decide) ?_
      refine lv_icmp_ne (tgt := 21) hx hb dX8_pacesBoth_14 (by decide) (fun c_3 => ?_) (fun c_3 => ?_)
      · refine lv_iconst (v := 0) hx hb dX8_pacesBoth_21 (by decide) ?_
        exact zz_rz (v := 0) () hx hb hr (by decide +kernel) hlocks hS hP hD (by first | rfl | (simp [k_both, bI, c_1, c_2, c_3])) dX8_pacesBoth_22
      · refine lv_iconst (v := 1) hx hb dX8_pacesBoth_17 (by decide) ?_
        refine lv_goto (tgt := 22) hx hb dX8_pacesBoth_18 (by decide) ?_
        exact zz_rz (v := 1) () hx hb hr (by decide +kernel) hlocks hS hP hD (by first | rfl | (simp [k_both, bI, c_1, c_2, c_3])) dX8_pacesBoth_22
abbrev rmX8_sensesA : Room := { frames := 0, cells := 0, slots := 0, locals := 0 }
abbrev QfX8_sensesA (G : va_G) (cA cB : ClassId) (q : Int32) : (Nat → Prop) → Array Value → State → Outcome → State → Prop := fun A => va_Qi (fun (r : Int32) (u : Unit) => r = bI (k_senA q)) (zz_B G vwCl (fun _ : Unit => []) A) A
set_option maxHeartbeats 4000000 in
set_option maxRecDepth 100000 in
theorem kX8_sensesA (l : Launch) (G : va_G) (cA cB : ClassId) (tb : Nat × Nat × Nat) (sz : Nat) (q : Int32) : Met l yX8_sensesA wsX8_sensesA rmX8_sensesA (zz_P (zS tb) G vwCl [(cA, .int), (cB, .boolean)] [.int q] [] sz) (QfX8_sensesA G cA cB q (va_A [] sz)) 0 0 (va_A [] sz) := by
  refine zz_Met (cc := cX8_sensesA) (maxL := 1) (ret := (some .boolean)) (Qf := QfX8_sensesA G cA cB q) (by decide) rfl (Nat.le_of_ble_eq_true rfl) ?_
  intro p e s m below meth c A ls hx hb hr hts hown hlocks hin hml hA hP hK hD hz hS hl
  have hl : lv_has ls 1 [(0, .int q)] := hl
  have hP : va_P G vwCl [] s.heap := hP
  have hD : va_D A [] := hD
  refine lv_iload_n hx hb dX8_sensesA_0 rfl (lv_at hl 0 rfl) ?_
  refine lv_iconst (v := 4) hx hb dX8_sensesA_1 (by decide) ?_
  refine lv_icmp_lt (tgt := 9) hx hb dX8_sensesA_2 (by decide) (fun c_1 => ?_) (fun c_1 => ?_)
  · refine lv_iconst (v := 0) hx hb dX8_sensesA_9 (by decide) ?_
    exact zz_rz (v := 0) () hx hb hr (by decide +kernel) hlocks hS hP hD (by first | rfl | (simp [k_senA, bI, c_1])) dX8_sensesA_10
  · refine lv_iconst (v := 1) hx hb dX8_sensesA_5 (by decide) ?_
    refine lv_goto (tgt := 10) hx hb dX8_sensesA_6 (by decide) ?_
    exact zz_rz (v := 1) () hx hb hr (by decide +kernel) hlocks hS hP hD (by first | rfl | (simp [k_senA, bI, c_1])) dX8_sensesA_10
abbrev rmX8_sensesV : Room := { frames := 0, cells := 0, slots := 0, locals := 0 }
abbrev QfX8_sensesV (G : va_G) (cA cB : ClassId) (q : Int32) : (Nat → Prop) → Array Value → State → Outcome → State → Prop := fun A => va_Qi (fun (r : Int32) (u : Unit) => r = bI (k_senV q)) (zz_B G vwCl (fun _ : Unit => []) A) A
set_option maxHeartbeats 4000000 in
set_option maxRecDepth 100000 in
theorem kX8_sensesV (l : Launch) (G : va_G) (cA cB : ClassId) (tb : Nat × Nat × Nat) (sz : Nat) (q : Int32) : Met l yX8_sensesV wsX8_sensesV rmX8_sensesV (zz_P (zS tb) G vwCl [(cA, .int), (cB, .boolean)] [.int q] [] sz) (QfX8_sensesV G cA cB q (va_A [] sz)) 0 0 (va_A [] sz) := by
  refine zz_Met (cc := cX8_sensesV) (maxL := 1) (ret := (some .boolean)) (Qf := QfX8_sensesV G cA cB q) (by decide) rfl (Nat.le_of_ble_eq_true rfl) ?_
  intro p e s m below meth c A ls hx hb hr hts hown hlocks hin hml hA hP hK hD hz hS hl
  have hl : lv_has ls 1 [(0, .int q)] := hl
  have hP : va_P G vwCl [] s.heap := hP
  have hD : va_D A [] := hD
  refine lv_iload_n hx hb dX8_sensesV_0 rfl (lv_at hl 0 rfl) ?_
  refine lv_iconst (v := 3) hx hb dX8_sensesV_1 (by decide) ?_
  refine lv_icmp_eq (tgt := 10) hx hb dX8_sensesV_2 (by decide) (fun c_1 => ?_) (fun c_1 => ?_)
  · refine lv_iconst (v := 1) hx hb dX8_sensesV_10 (by decide) ?_
    refine lv_goto (tgt := 15) hx hb dX8_sensesV_11 (by decide) ?_
    exact zz_rz (v := 1) () hx hb hr (by decide +kernel) hlocks hS hP hD (by first | rfl | (simp [k_senV, bI, c_1])) dX8_sensesV_15
  · refine lv_iload_n hx hb dX8_sensesV_5 rfl (lv_at hl 0 rfl) ?_
    refine lv_iconst (v := 5) hx hb dX8_sensesV_6 (by decide) ?_
    refine lv_icmp_lt (tgt := 14) hx hb dX8_sensesV_7 (by decide) (fun c_2 => ?_) (fun c_2 => ?_)
    · refine lv_iconst (v := 0) hx hb dX8_sensesV_14 (by decide) ?_
      exact zz_rz (v := 0) () hx hb hr (by decide +kernel) hlocks hS hP hD (by first | rfl | (simp [k_senV, bI, c_1, c_2])) dX8_sensesV_15
    · refine lv_iconst (v := 1) hx hb dX8_sensesV_10 (by decide) ?_
      refine lv_goto (tgt := 15) hx hb dX8_sensesV_11 (by decide) ?_
      exact zz_rz (v := 1) () hx hb hr (by decide +kernel) hlocks hS hP hD (by first | rfl | (simp [k_senV, bI, c_1, c_2])) dX8_sensesV_15
abbrev rmX8_follows : Room := { frames := 0, cells := 0, slots := 0, locals := 0 }
abbrev QfX8_follows (G : va_G) (cA cB : ClassId) (q : Int32) : (Nat → Prop) → Array Value → State → Outcome → State → Prop := fun A => va_Qi (fun (r : Int32) (u : Unit) => r = bI (k_foll q)) (zz_B G vwCl (fun _ : Unit => []) A) A
set_option maxHeartbeats 4000000 in
set_option maxRecDepth 100000 in
theorem kX8_follows (l : Launch) (G : va_G) (cA cB : ClassId) (tb : Nat × Nat × Nat) (sz : Nat) (q : Int32) : Met l yX8_follows wsX8_follows rmX8_follows (zz_P (zS tb) G vwCl [(cA, .int), (cB, .boolean)] [.int q] [] sz) (QfX8_follows G cA cB q (va_A [] sz)) 0 0 (va_A [] sz) := by
  refine zz_Met (cc := cX8_follows) (maxL := 1) (ret := (some .boolean)) (Qf := QfX8_follows G cA cB q) (by decide) rfl (Nat.le_of_ble_eq_true rfl) ?_
  intro p e s m below meth c A ls hx hb hr hts hown hlocks hin hml hA hP hK hD hz hS hl
  have hl : lv_has ls 1 [(0, .int q)] := hl
  have hP : va_P G vwCl [] s.heap := hP
  have hD : va_D A [] := hD
  refine lv_iload_n hx hb dX8_follows_0 rfl (lv_at hl 0 rfl) ?_
  refine lv_iconst (v := 5) hx hb dX8_follows_1 (by decide) ?_
  refine lv_icmp_eq (tgt := 11) hx hb dX8_follows_2 (by decide) (fun c_1 => ?_) (fun c_1 => ?_)
  · refine lv_iconst (v := 1) hx hb dX8_follows_11 (by decide) ?_
    refine lv_goto (tgt := 16) hx hb dX8_follows_12 (by decide) ?_
    exact zz_rz (v := 1) () hx hb hr (by decide +kernel) hlocks hS hP hD (by first | rfl | (simp [k_foll, bI, c_1])) dX8_follows_16
  · refine lv_iload_n hx hb dX8_follows_5 rfl (lv_at hl 0 rfl) ?_
    refine lv_bipush (v := 7) hx hb dX8_follows_6 (by decide) ?_
    refine lv_icmp_ne (tgt := 15) hx hb dX8_follows_8 (by decide) (fun c_2 => ?_) (fun c_2 => ?_)
    · refine lv_iconst (v := 0) hx hb dX8_follows_15 (by decide) ?_
      exact zz_rz (v := 0) () hx hb hr (by decide +kernel) hlocks hS hP hD (by first | rfl | (simp [k_foll, bI, c_1, c_2])) dX8_follows_16
    · refine lv_iconst (v := 1) hx hb dX8_follows_11 (by decide) ?_
      refine lv_goto (tgt := 16) hx hb dX8_follows_12 (by decide) ?_
      exact zz_rz (v := 1) () hx hb hr (by decide +kernel) hlocks hS hP hD (by first | rfl | (simp [k_foll, bI, c_1, c_2])) dX8_follows_16
abbrev rmX8_statusOf : Room := { frames := 0, cells := 0, slots := 0, locals := 0 }
abbrev QfX8_statusOf (G : va_G) (cA cB : ClassId) (q : Int32) : (Nat → Prop) → Array Value → State → Outcome → State → Prop := fun A => va_Qi (fun (r : Int32) (u : Unit) => r = k_stat q) (zz_B G vwCl (fun _ : Unit => []) A) A
set_option maxHeartbeats 4000000 in
set_option maxRecDepth 100000 in
theorem kX8_statusOf (l : Launch) (G : va_G) (cA cB : ClassId) (tb : Nat × Nat × Nat) (sz : Nat) (q : Int32) : Met l yX8_statusOf wsX8_statusOf rmX8_statusOf (zz_P (zS tb) G vwCl [(cA, .int), (cB, .boolean)] [.int q] [] sz) (QfX8_statusOf G cA cB q (va_A [] sz)) 0 0 (va_A [] sz) := by
  refine zz_Met (cc := cX8_statusOf) (maxL := 1) (ret := (some .int)) (Qf := QfX8_statusOf G cA cB q) (by decide) rfl (Nat.le_of_ble_eq_true rfl) ?_
  intro p e s m below meth c A ls hx hb hr hts hown hlocks hin hml hA hP hK hD hz hS hl
  have hl : lv_has ls 1 [(0, .int q)] := hl
  have hP : va_P G vwCl [] s.heap := hP
  have hD : va_D A [] := hD
  refine lv_iload_n hx hb dX8_statusOf_0 rfl (lv_at hl 0 rfl) ?_
  refine lv_sipush (v := 280) hx hb dX8_statusOf_1 (by decide) ?_
  refine lv_icmp_lt (tgt := 9) hx hb dX8_statusOf_4 (by decide) (fun c_1 => ?_) (fun c_1 => ?_)
  · refine lv_iload_n hx hb dX8_statusOf_9 rfl (lv_at hl 0 rfl) ?_
    refine lv_sipush (v := 250) hx hb dX8_statusOf_10 (by decide) ?_
    refine lv_icmp_lt (tgt := 18) hx hb dX8_statusOf_13 (by decide) (fun c_2 => ?_) (fun c_2 => ?_)
    · refine lv_iload_n hx hb dX8_statusOf_18 rfl (lv_at hl 0 rfl) ?_
      refine lv_sipush (v := 220) hx hb dX8_statusOf_19 (by decide) ?_
      refine lv_icmp_lt (tgt := 29) hx hb dX8_statusOf_22 (by decide) (fun c_3 => ?_) (fun c_3 => ?_)
      · refine lv_iconst (v := 3) hx hb dX8_statusOf_29 (by decide) ?_
        exact zz_ri (v := 3) () hx hb hr hlocks hS hP hD (by first | rfl | (simp [k_stat, c_1, c_2, c_3])) dX8_statusOf_30
      · refine lv_iconst (v := 2) hx hb dX8_statusOf_25 (by decide) ?_
        refine lv_goto (tgt := 30) hx hb dX8_statusOf_26 (by decide) ?_
        exact zz_ri (v := 2) () hx hb hr hlocks hS hP hD (by first | rfl | (simp [k_stat, c_1, c_2, c_3])) dX8_statusOf_30
    · refine lv_iconst (v := 1) hx hb dX8_statusOf_16 (by decide) ?_
      exact zz_ri (v := 1) () hx hb hr hlocks hS hP hD (by first | rfl | (simp [k_stat, c_1, c_2])) dX8_statusOf_17
  · refine lv_iconst (v := 0) hx hb dX8_statusOf_7 (by decide) ?_
    exact zz_ri (v := 0) () hx hb hr hlocks hS hP hD (by first | rfl | (simp [k_stat, c_1])) dX8_statusOf_8
abbrev rmX6_exists : Room := { frames := 0, cells := 0, slots := 0, locals := 0 }
abbrev QfX6_exists (G : va_G) (cA cB : ClassId) (k : Int32) : (Nat → Prop) → Array Value → State → Outcome → State → Prop := fun A => va_Qi (fun (r : Int32) (u : Unit) => r = bI (k_exists k)) (zz_B G vwCl (fun _ : Unit => []) A) A
set_option maxHeartbeats 4000000 in
set_option maxRecDepth 100000 in
theorem kX6_exists (l : Launch) (G : va_G) (cA cB : ClassId) (tb : Nat × Nat × Nat) (sz : Nat) (k : Int32) : Met l yX6_exists wsX6_exists rmX6_exists (zz_P (zS tb) G vwCl [(cA, .int), (cB, .boolean)] [.int k] [] sz) (QfX6_exists G cA cB k (va_A [] sz)) 0 0 (va_A [] sz) := by
  refine zz_Met (cc := cX6_exists) (maxL := 1) (ret := (some .boolean)) (Qf := QfX6_exists G cA cB k) (by decide) rfl (Nat.le_of_ble_eq_true rfl) ?_
  intro p e s m below meth c A ls hx hb hr hts hown hlocks hin hml hA hP hK hD hz hS hl
  have hl : lv_has ls 1 [(0, .int k)] := hl
  have hP : va_P G vwCl [] s.heap := hP
  have hD : va_D A [] := hD
  refine lv_iload_n hx hb dX6_exists_0 rfl (lv_at hl 0 rfl) ?_
  refine lv_if_lt (tgt := 14) hx hb dX6_exists_1 (by decide) (fun c_1 => ?_) (fun c_1 => ?_)
  · refine lv_iconst (v := 0) hx hb dX6_exists_14 (by decide) ?_
    exact zz_rz (v := 0) () hx hb hr (by decide +kernel) hlocks hS hP hD (by first | rfl | (simp [k_exists, bI, c_1])) dX6_exists_15
  · refine lv_iload_n hx hb dX6_exists_4 rfl (lv_at hl 0 rfl) ?_
    refine lv_bipush (v := 14) hx hb dX6_exists_5 (by decide) ?_
    refine lv_icmp_ge (tgt := 14) hx hb dX6_exists_7 (by decide) (fun c_2 => ?_) (fun c_2 => ?_)
    · refine lv_iconst (v := 0) hx hb dX6_exists_14 (by decide) ?_
      exact zz_rz (v := 0) () hx hb hr (by decide +kernel) hlocks hS hP hD (by first | rfl | (simp [k_exists, bI, c_1, c_2])) dX6_exists_15
    · refine lv_iconst (v := 1) hx hb dX6_exists_10 (by decide) ?_
      refine lv_goto (tgt := 15) hx hb dX6_exists_11 (by decide) ?_
      exact zz_rz (v := 1) () hx hb hr (by decide +kernel) hlocks hS hP hD (by first | rfl | (simp [k_exists, bI, c_1, c_2])) dX6_exists_15
abbrev rmX6_allows : Room := { frames := 1, cells := 0, slots := 0, locals := 20 }
abbrev QfX6_allows (G : va_G) (cA cB : ClassId) (k : Int32) (a : Int32) : (Nat → Prop) → Array Value → State → Outcome → State → Prop := fun A => va_Qi (fun (r : Int32) (u : Unit) => r = bI (k_allows k a)) (zz_B G vwCl (fun _ : Unit => []) A) A
set_option maxHeartbeats 4000000 in
set_option maxRecDepth 100000 in
theorem kX6_allows (l : Launch) (G : va_G) (cA cB : ClassId) (tb : Nat × Nat × Nat) (sz : Nat) (k : Int32) (a : Int32) : Met l yX6_allows wsX6_allows rmX6_allows (zz_P (zS tb) G vwCl [(cA, .int), (cB, .boolean)] [.int k, .int a] [] sz) (QfX6_allows G cA cB k a (va_A [] sz)) 0 0 (va_A [] sz) := by
  refine zz_Met (cc := cX6_allows) (maxL := 2) (ret := (some .boolean)) (Qf := QfX6_allows G cA cB k a) (by decide) rfl (Nat.le_of_ble_eq_true rfl) ?_
  intro p e s m below meth c A ls hx hb hr hts hown hlocks hin hml hA hP hK hD hz hS hl
  have hl : lv_has ls 2 [(0, .int k), (1, .int a)] := hl
  have hP : va_P G vwCl [] s.heap := hP
  have hD : va_D A [] := hD
  refine lv_iload_n hx hb dX6_allows_0 rfl (lv_at hl 0 rfl) ?_
  refine zz_ci (va_runS (As := [.int k]) (rest := []) ⟨hx, hb, hml, hown, hts⟩ (kX6_exists l G cA cB tb s.heap.size k) (va_cwS 1 hts gX6_allows_X6_exists rfl rfl rfl (by decide +kernel) ⟨Nat.le_of_ble_eq_true rfl, Nat.le_of_ble_eq_true rfl⟩) (zz_preS zS_ok hK hP hD hS hA hz [] rfl (by decide)) rfl rfl hl.1 rfl (lv_room (Nat.le_of_ble_eq_true rfl)) dX6_allows_1 ⟨Nat.zero_le _, Nat.zero_le _⟩) hP hD hS hA [] [] rfl rfl (by decide) (by decide) (fun r u H locs hw hP hD hS => ?_)
  subst hw
  have hP : va_P G vwCl [] H := hP
  have hD : va_D A [] := hD
  refine lv_if_eq (tgt := 29) hx hb dX6_allows_4 (by decide) (fun c_1 => ?_) (fun c_1 => ?_)
  · have c_1 := bI_f c_1
    refine lv_iconst (v := 0) hx hb dX6_allows_29 (by decide) ?_
    exact zz_rz (v := 0) () hx hb hr (by decide +kernel) hlocks hS hP hD (by first | rfl | (simp [k_allows, bI, c_1])) dX6_allows_30
  · have c_1 := bI_t c_1
    refine lv_iload_n hx hb dX6_allows_7 rfl (lv_at hl 1 rfl) ?_
    refine va_getsN hx hb hz.1.1 hS hown (va_Nw.use rfl hz.2.2.2.1) (fun _ h9 => h9) dX6_allows_8 ?_
    refine lv_iload_n hx hb dX6_allows_11 rfl (lv_at hl 0 rfl) ?_
    refine va_ti hx hb hz.1.2 hS (vp_ex c_1) (v := .int (tLeast k.toNatClampNeg)) rfl dX6_allows_12 ?_
    refine lv_icmp_lt (tgt := 29) hx hb dX6_allows_13 (by decide) (fun c_2 => ?_) (fun c_2 => ?_)
    · refine lv_iconst (v := 0) hx hb dX6_allows_29 (by decide) ?_
      exact zz_rz (v := 0) () hx hb hr (by decide +kernel) hlocks hS hP hD (by first | rfl | (simp [k_allows, bI, c_1, c_2])) dX6_allows_30
    · refine lv_iload_n hx hb dX6_allows_16 rfl (lv_at hl 1 rfl) ?_
      refine va_getsN hx hb hz.2.1.1 hS hown (va_Nw.use rfl hz.2.2.2.2.1) (fun _ h9 => h9) dX6_allows_17 ?_
      refine lv_iload_n hx hb dX6_allows_20 rfl (lv_at hl 0 rfl) ?_
      refine va_ti hx hb hz.2.1.2 hS (vp_ex c_1) (v := .int (tMost k.toNatClampNeg)) rfl dX6_allows_21 ?_
      refine lv_icmp_gt (tgt := 29) hx hb dX6_allows_22 (by decide) (fun c_3 => ?_) (fun c_3 => ?_)
      · refine lv_iconst (v := 0) hx hb dX6_allows_29 (by decide) ?_
        exact zz_rz (v := 0) () hx hb hr (by decide +kernel) hlocks hS hP hD (by first | rfl | (simp [k_allows, bI, c_1, c_2, c_3])) dX6_allows_30
      · refine lv_iconst (v := 1) hx hb dX6_allows_25 (by decide) ?_
        refine lv_goto (tgt := 30) hx hb dX6_allows_26 (by decide) ?_
        exact zz_rz (v := 1) () hx hb hr (by decide +kernel) hlocks hS hP hD (by first | rfl | (simp [k_allows, bI, c_1, c_2, c_3])) dX6_allows_30
end
section
theorem iX0_avRuns_X0 : ∀ w ∈ u_ws RX0 TX0 6, w ∈ wsX0_avRuns := by decide +kernel
theorem mX0_avRuns_1 : Cond.fieldLink RX0 24 "ChamberPacer$Clock" "av" "I" ∈ wsX0_avRuns := by decide +kernel
abbrev rmX0_avRuns : Room := { frames := 0, cells := 0, slots := 0, locals := 0 }
abbrev QfX0_avRuns (G : va_G) (cA cB : ClassId) (h0 : Nat) (C : tCk) : (Nat → Prop) → Array Value → State → Outcome → State → Prop := fun A => va_Qi (fun (r : Int32) (u : Unit) => r = bI (k_avRuns C)) (zz_B G vwCl (fun _ : Unit => (wCk h0 cA cB C)) A) A
set_option maxHeartbeats 4000000 in
set_option maxRecDepth 100000 in
theorem kX0_avRuns (l : Launch) (G : va_G) (cA cB : ClassId) (tb : Nat × Nat × Nat) (h0 : Nat) (sz : Nat) (C : tCk) : Met l yX0_avRuns wsX0_avRuns rmX0_avRuns (zz_P (zS tb) G vwCl [(cA, .int), (cB, .boolean)] [.ref h0] (wCk h0 cA cB C) sz) (QfX0_avRuns G cA cB h0 C (va_A (wCk h0 cA cB C) sz)) 0 0 (va_A (wCk h0 cA cB C) sz) := by
  refine zz_Met (cc := cX0_avRuns) (maxL := 1) (ret := (some .boolean)) (Qf := QfX0_avRuns G cA cB h0 C) (by decide) rfl (Nat.le_of_ble_eq_true rfl) ?_
  intro p e s m below meth c A ls hx hb hr hts hown hlocks hin hml hA hP hK hD hz hS hl
  have hl : lv_has ls 1 [(0, .ref h0)] := hl
  have hP : va_P G vwCl [(h0, .inr (0, [.int C.1, .int C.2.1, .int C.2.2.1, .int C.2.2.2.1, .int C.2.2.2.2.1, .int (bI C.2.2.2.2.2)]))] s.heap := hP
  have hD : va_D A [(h0, .inr (0, [.int C.1, .int C.2.1, .int C.2.2.1, .int C.2.2.2.1, .int C.2.2.2.2.1, .int (bI C.2.2.2.2.2)]))] := hD
  refine lv_aload_n hx hb dX0_avRuns_0 rfl (lv_at hl 0 rfl) ?_
  refine va_get (D := G) (ci := 0) (v := .int C.2.2.2.2.1) (C := RX0) (T := TX0) (N := 6) hx hb hts iX0_avRuns_X0 hown hK hP 0 rfl rfl 4 (by decide) (hts _ mX0_avRuns_1) (fun _ h9 => h9) rfl dX0_avRuns_1 ?_
  refine lv_iconst (v := (-1)) hx hb dX0_avRuns_4 (by decide) ?_
  refine lv_icmp_eq (tgt := 12) hx hb dX0_avRuns_5 (by decide) (fun c_1 => ?_) (fun c_1 => ?_)
  · refine lv_iconst (v := 0) hx hb dX0_avRuns_12 (by decide) ?_
    exact zz_rz (v := 0) () hx hb hr (by decide +kernel) hlocks hS hP hD (by first | rfl | (simp [k_avRuns, bI, c_1])) dX0_avRuns_13
  · refine lv_iconst (v := 1) hx hb dX0_avRuns_8 (by decide) ?_
    refine lv_goto (tgt := 13) hx hb dX0_avRuns_9 (by decide) ?_
    exact zz_rz (v := 1) () hx hb hr (by decide +kernel) hlocks hS hP hD (by first | rfl | (simp [k_avRuns, bI, c_1])) dX0_avRuns_13
theorem iX0_startAv_X0 : ∀ w ∈ u_ws RX0 TX0 6, w ∈ wsX0_startAv := by decide +kernel
theorem mX0_startAv_1 : Cond.fieldLink RX0 24 "ChamberPacer$Clock" "av" "I" ∈ wsX0_startAv := by decide +kernel
abbrev rmX0_startAv : Room := { frames := 0, cells := 0, slots := 0, locals := 0 }
abbrev QfX0_startAv (G : va_G) (cA cB : ClassId) (h0 : Nat) (C : tCk) : (Nat → Prop) → Array Value → State → Outcome → State → Prop := fun A => va_Qv (fun u : tCk => u = k_startAv C) (zz_B G vwCl (fun u : tCk => (wCk h0 cA cB u)) A) A
set_option maxHeartbeats 4000000 in
set_option maxRecDepth 100000 in
theorem kX0_startAv (l : Launch) (G : va_G) (cA cB : ClassId) (tb : Nat × Nat × Nat) (h0 : Nat) (sz : Nat) (C : tCk) : Met l yX0_startAv wsX0_startAv rmX0_startAv (zz_P (zS tb) G vwCl [(cA, .int), (cB, .boolean)] [.ref h0] (wCk h0 cA cB C) sz) (QfX0_startAv G cA cB h0 C (va_A (wCk h0 cA cB C) sz)) 0 0 (va_A (wCk h0 cA cB C) sz) := by
  refine zz_Met (cc := cX0_startAv) (maxL := 1) (ret := none) (Qf := QfX0_startAv G cA cB h0 C) (by decide) rfl (Nat.le_of_ble_eq_true rfl) ?_
  intro p e s m below meth c A ls hx hb hr hts hown hlocks hin hml hA hP hK hD hz hS hl
  have hl : lv_has ls 1 [(0, .ref h0)] := hl
  have hP : va_P G vwCl [(h0, .inr (0, [.int C.1, .int C.2.1, .int C.2.2.1, .int C.2.2.2.1, .int C.2.2.2.2.1, .int (bI C.2.2.2.2.2)]))] s.heap := hP
  have hD : va_D A [(h0, .inr (0, [.int C.1, .int C.2.1, .int C.2.2.1, .int C.2.2.2.1, .int C.2.2.2.2.1, .int (bI C.2.2.2.2.2)]))] := hD
  refine lv_aload_n hx hb dX0_startAv_0 rfl (lv_at hl 0 rfl) ?_
  refine lv_iconst (v := 0) hx hb dX0_startAv_1 (by decide) ?_
  refine va_put (D := G) (ci := 0) (v := .int 0) (ty := .int) (C := RX0) (T := TX0) (N := 6) hx hb hts iX0_startAv_X0 tyX0 tyX0_ok nmX0 hown hK hP hD hS 0 rfl rfl 4 (by decide) (hts _ mX0_startAv_1) (fun _ h9 => h9) rfl (by decide +kernel) rfl rfl (Nat.le_of_ble_eq_true rfl) dX0_startAv_2 (fun H locs hP hD hS => ?_)
  have hP : va_P G vwCl [(h0, .inr (0, [.int C.1, .int C.2.1, .int C.2.2.1, .int C.2.2.2.1, .int 0, .int (bI C.2.2.2.2.2)]))] H := hP
  have hD : va_D A [(h0, .inr (0, [.int C.1, .int C.2.1, .int C.2.2.1, .int C.2.2.2.1, .int 0, .int (bI C.2.2.2.2.2)]))] := hD
  exact zz_rv ((C.1, C.2.1, C.2.2.1, C.2.2.2.1, 0, C.2.2.2.2.2) : tCk) hx hb hr hlocks hS hP hD (by first | rfl | (simp [])) dX0_startAv_5
theorem iX0_stopAv_X0 : ∀ w ∈ u_ws RX0 TX0 6, w ∈ wsX0_stopAv := by decide +kernel
theorem mX0_stopAv_1 : Cond.fieldLink RX0 24 "ChamberPacer$Clock" "av" "I" ∈ wsX0_stopAv := by decide +kernel
abbrev rmX0_stopAv : Room := { frames := 0, cells := 0, slots := 0, locals := 0 }
abbrev QfX0_stopAv (G : va_G) (cA cB : ClassId) (h0 : Nat) (C : tCk) : (Nat → Prop) → Array Value → State → Outcome → State → Prop := fun A => va_Qv (fun u : tCk => u = k_stopAv C) (zz_B G vwCl (fun u : tCk => (wCk h0 cA cB u)) A) A
set_option maxHeartbeats 4000000 in
set_option maxRecDepth 100000 in
theorem kX0_stopAv (l : Launch) (G : va_G) (cA cB : ClassId) (tb : Nat × Nat × Nat) (h0 : Nat) (sz : Nat) (C : tCk) : Met l yX0_stopAv wsX0_stopAv rmX0_stopAv (zz_P (zS tb) G vwCl [(cA, .int), (cB, .boolean)] [.ref h0] (wCk h0 cA cB C) sz) (QfX0_stopAv G cA cB h0 C (va_A (wCk h0 cA cB C) sz)) 0 0 (va_A (wCk h0 cA cB C) sz) := by
  refine zz_Met (cc := cX0_stopAv) (maxL := 1) (ret := none) (Qf := QfX0_stopAv G cA cB h0 C) (by decide) rfl (Nat.le_of_ble_eq_true rfl) ?_
  intro p e s m below meth c A ls hx hb hr hts hown hlocks hin hml hA hP hK hD hz hS hl
  have hl : lv_has ls 1 [(0, .ref h0)] := hl
  have hP : va_P G vwCl [(h0, .inr (0, [.int C.1, .int C.2.1, .int C.2.2.1, .int C.2.2.2.1, .int C.2.2.2.2.1, .int (bI C.2.2.2.2.2)]))] s.heap := hP
  have hD : va_D A [(h0, .inr (0, [.int C.1, .int C.2.1, .int C.2.2.1, .int C.2.2.2.1, .int C.2.2.2.2.1, .int (bI C.2.2.2.2.2)]))] := hD
  refine lv_aload_n hx hb dX0_stopAv_0 rfl (lv_at hl 0 rfl) ?_
  refine lv_iconst (v := (-1)) hx hb dX0_stopAv_1 (by decide) ?_
  refine va_put (D := G) (ci := 0) (v := .int (-1)) (ty := .int) (C := RX0) (T := TX0) (N := 6) hx hb hts iX0_stopAv_X0 tyX0 tyX0_ok nmX0 hown hK hP hD hS 0 rfl rfl 4 (by decide) (hts _ mX0_stopAv_1) (fun _ h9 => h9) rfl (by decide +kernel) rfl rfl (Nat.le_of_ble_eq_true rfl) dX0_stopAv_2 (fun H locs hP hD hS => ?_)
  have hP : va_P G vwCl [(h0, .inr (0, [.int C.1, .int C.2.1, .int C.2.2.1, .int C.2.2.2.1, .int (-1), .int (bI C.2.2.2.2.2)]))] H := hP
  have hD : va_D A [(h0, .inr (0, [.int C.1, .int C.2.1, .int C.2.2.1, .int C.2.2.2.1, .int (-1), .int (bI C.2.2.2.2.2)]))] := hD
  exact zz_rv ((C.1, C.2.1, C.2.2.1, C.2.2.2.1, (-1), C.2.2.2.2.2) : tCk) hx hb hr hlocks hS hP hD (by first | rfl | (simp [])) dX0_stopAv_5
theorem iX0_grow_X0 : ∀ w ∈ u_ws RX0 TX0 6, w ∈ wsX0_grow := by decide +kernel
theorem mX0_grow_1 : Cond.fieldLink RX0 9 "ChamberPacer$Clock" "time" "I" ∈ wsX0_grow := by decide +kernel
theorem mX0_grow_2 : Cond.fieldLink RX0 15 "ChamberPacer$Clock" "sinceA" "I" ∈ wsX0_grow := by decide +kernel
theorem mX0_grow_3 : Cond.methodLink RX0 31 Lib.Math.min.name ∈ wsX0_grow := by decide +kernel
theorem mX0_grow_4 : Cond.static Lib.Math.min.name ∈ wsX0_grow := by decide +kernel
theorem mX0_grow_5 : Cond.initialized "java/lang/Math" ∈ wsX0_grow := by decide +kernel
theorem mX0_grow_6 : Cond.code Lib.Math.min.name Lib.Math.min.code 2 (some .int) ∈ wsX0_grow := by decide +kernel
theorem mX0_grow_7 : Cond.fieldLink RX0 18 "ChamberPacer$Clock" "sinceV" "I" ∈ wsX0_grow := by decide +kernel
theorem mX0_grow_8 : Cond.fieldLink RX0 21 "ChamberPacer$Clock" "sinceP" "I" ∈ wsX0_grow := by decide +kernel
theorem mX0_grow_9 : Cond.fieldLink RX0 24 "ChamberPacer$Clock" "av" "I" ∈ wsX0_grow := by decide +kernel
abbrev rmX0_grow : Room := { frames := 1, cells := 0, slots := 0, locals := 20 }
abbrev QfX0_grow (G : va_G) (cA cB : ClassId) (h0 : Nat) (C : tCk) : (Nat → Prop) → Array Value → State → Outcome → State → Prop := fun A => va_Qv (fun u : tCk => u = k_grow C) (zz_B G vwCl (fun u : tCk => (wCk h0 cA cB u)) A) A
set_option maxHeartbeats 4000000 in
set_option maxRecDepth 100000 in
theorem kX0_grow (l : Launch) (G : va_G) (cA cB : ClassId) (tb : Nat × Nat × Nat) (h0 : Nat) (sz : Nat) (C : tCk) : Met l yX0_grow wsX0_grow rmX0_grow (zz_P (zS tb) G vwCl [(cA, .int), (cB, .boolean)] [.ref h0] (wCk h0 cA cB C) sz) (QfX0_grow G cA cB h0 C (va_A (wCk h0 cA cB C) sz)) 0 0 (va_A (wCk h0 cA cB C) sz) := by
  refine zz_Met (cc := cX0_grow) (maxL := 1) (ret := none) (Qf := QfX0_grow G cA cB h0 C) (by decide) rfl (Nat.le_of_ble_eq_true rfl) ?_
  intro p e s m below meth c A ls hx hb hr hts hown hlocks hin hml hA hP hK hD hz hS hl
  have hl : lv_has ls 1 [(0, .ref h0)] := hl
  have hP : va_P G vwCl [(h0, .inr (0, [.int C.1, .int C.2.1, .int C.2.2.1, .int C.2.2.2.1, .int C.2.2.2.2.1, .int (bI C.2.2.2.2.2)]))] s.heap := hP
  have hD : va_D A [(h0, .inr (0, [.int C.1, .int C.2.1, .int C.2.2.1, .int C.2.2.2.1, .int C.2.2.2.2.1, .int (bI C.2.2.2.2.2)]))] := hD
  refine lv_aload_n hx hb dX0_grow_0 rfl (lv_at hl 0 rfl) ?_
  refine lv_dup hx hb dX0_grow_1 rfl ?_
  refine va_get (D := G) (ci := 0) (v := .int C.1) (C := RX0) (T := TX0) (N := 6) hx hb hts iX0_grow_X0 hown hK hP 0 rfl rfl 0 (by decide) (hts _ mX0_grow_1) (fun _ h9 => h9) rfl dX0_grow_2 ?_
  refine lv_iconst (v := 1) hx hb dX0_grow_5 (by decide) ?_
  refine lv_iadd hx hb dX0_grow_6 ?_
  refine va_put (D := G) (ci := 0) (v := .int (C.1 + 1)) (ty := .int) (C := RX0) (T := TX0) (N := 6) hx hb hts iX0_grow_X0 tyX0 tyX0_ok nmX0 hown hK hP hD hS 0 rfl rfl 0 (by decide) (hts _ mX0_grow_1) (fun _ h9 => h9) rfl (by decide +kernel) rfl rfl (Nat.le_of_ble_eq_true rfl) dX0_grow_7 (fun H locs hP hD hS => ?_)
  have hP : va_P G vwCl [(h0, .inr (0, [.int (C.1 + 1), .int C.2.1, .int C.2.2.1, .int C.2.2.2.1, .int C.2.2.2.2.1, .int (bI C.2.2.2.2.2)]))] H := hP
  have hD : va_D A [(h0, .inr (0, [.int (C.1 + 1), .int C.2.1, .int C.2.2.1, .int C.2.2.2.1, .int C.2.2.2.2.1, .int (bI C.2.2.2.2.2)]))] := hD
  refine lv_aload_n hx hb dX0_grow_10 rfl (lv_at hl 0 rfl) ?_
  refine lv_aload_n hx hb dX0_grow_11 rfl (lv_at hl 0 rfl) ?_
  refine va_get (D := G) (ci := 0) (v := .int C.2.1) (C := RX0) (T := TX0) (N := 6) hx hb hts iX0_grow_X0 hown hK hP 0 rfl rfl 1 (by decide) (hts _ mX0_grow_2) (fun _ h9 => h9) rfl dX0_grow_12 ?_
  refine lv_iconst (v := 1) hx hb dX0_grow_15 (by decide) ?_
  refine lv_iadd hx hb dX0_grow_16 ?_
  refine lv_sipush (v := 1000) hx hb dX0_grow_17 (by decide) ?_
  refine va_mmin hx hb (hml.trans hl.1.symm) hown (hts _ mX0_grow_3) (hts _ mX0_grow_4) (hts _ mX0_grow_5) (hts _ mX0_grow_6) (by decide) (by decide) (Nat.zero_le _) (Nat.zero_le _) dX0_grow_20 ?_
  refine va_put (D := G) (ci := 0) (v := .int (if 1000 < (C.2.1 + 1) then 1000 else (C.2.1 + 1))) (ty := .int) (C := RX0) (T := TX0) (N := 6) hx hb hts iX0_grow_X0 tyX0 tyX0_ok nmX0 hown hK hP hD hS 0 rfl rfl 1 (by decide) (hts _ mX0_grow_2) (fun _ h9 => h9) rfl (by decide +kernel) rfl rfl (Nat.le_of_ble_eq_true rfl) dX0_grow_23 (fun H locs hP hD hS => ?_)
  have hP : va_P G vwCl [(h0, .inr (0, [.int (C.1 + 1), .int (if 1000 < (C.2.1 + 1) then 1000 else (C.2.1 + 1)), .int C.2.2.1, .int C.2.2.2.1, .int C.2.2.2.2.1, .int (bI C.2.2.2.2.2)]))] H := hP
  have hD : va_D A [(h0, .inr (0, [.int (C.1 + 1), .int (if 1000 < (C.2.1 + 1) then 1000 else (C.2.1 + 1)), .int C.2.2.1, .int C.2.2.2.1, .int C.2.2.2.2.1, .int (bI C.2.2.2.2.2)]))] := hD
  refine lv_aload_n hx hb dX0_grow_26 rfl (lv_at hl 0 rfl) ?_
  refine lv_aload_n hx hb dX0_grow_27 rfl (lv_at hl 0 rfl) ?_
  refine va_get (D := G) (ci := 0) (v := .int C.2.2.1) (C := RX0) (T := TX0) (N := 6) hx hb hts iX0_grow_X0 hown hK hP 0 rfl rfl 2 (by decide) (hts _ mX0_grow_7) (fun _ h9 => h9) rfl dX0_grow_28 ?_
  refine lv_iconst (v := 1) hx hb dX0_grow_31 (by decide) ?_
  refine lv_iadd hx hb dX0_grow_32 ?_
  refine lv_sipush (v := 1000) hx hb dX0_grow_33 (by decide) ?_
  refine va_mmin hx hb (hml.trans hl.1.symm) hown (hts _ mX0_grow_3) (hts _ mX0_grow_4) (hts _ mX0_grow_5) (hts _ mX0_grow_6) (by decide) (by decide) (Nat.zero_le _) (Nat.zero_le _) dX0_grow_36 ?_
  refine va_put (D := G) (ci := 0) (v := .int (if 1000 < (C.2.2.1 + 1) then 1000 else (C.2.2.1 + 1))) (ty := .int) (C := RX0) (T := TX0) (N := 6) hx hb hts iX0_grow_X0 tyX0 tyX0_ok nmX0 hown hK hP hD hS 0 rfl rfl 2 (by decide) (hts _ mX0_grow_7) (fun _ h9 => h9) rfl (by decide +kernel) rfl rfl (Nat.le_of_ble_eq_true rfl) dX0_grow_39 (fun H locs hP hD hS => ?_)
  have hP : va_P G vwCl [(h0, .inr (0, [.int (C.1 + 1), .int (if 1000 < (C.2.1 + 1) then 1000 else (C.2.1 + 1)), .int (if 1000 < (C.2.2.1 + 1) then 1000 else (C.2.2.1 + 1)), .int C.2.2.2.1, .int C.2.2.2.2.1, .int (bI C.2.2.2.2.2)]))] H := hP
  have hD : va_D A [(h0, .inr (0, [.int (C.1 + 1), .int (if 1000 < (C.2.1 + 1) then 1000 else (C.2.1 + 1)), .int (if 1000 < (C.2.2.1 + 1) then 1000 else (C.2.2.1 + 1)), .int C.2.2.2.1, .int C.2.2.2.2.1, .int (bI C.2.2.2.2.2)]))] := hD
  refine lv_aload_n hx hb dX0_grow_42 rfl (lv_at hl 0 rfl) ?_
  refine lv_aload_n hx hb dX0_grow_43 rfl (lv_at hl 0 rfl) ?_
  refine va_get (D := G) (ci := 0) (v := .int C.2.2.2.1) (C := RX0) (T := TX0) (N := 6) hx hb hts iX0_grow_X0 hown hK hP 0 rfl rfl 3 (by decide) (hts _ mX0_grow_8) (fun _ h9 => h9) rfl dX0_grow_44 ?_
  refine lv_iconst (v := 1) hx hb dX0_grow_47 (by decide) ?_
  refine lv_iadd hx hb dX0_grow_48 ?_
  refine lv_sipush (v := 1000) hx hb dX0_grow_49 (by decide) ?_
  refine va_mmin hx hb (hml.trans hl.1.symm) hown (hts _ mX0_grow_3) (hts _ mX0_grow_4) (hts _ mX0_grow_5) (hts _ mX0_grow_6) (by decide) (by decide) (Nat.zero_le _) (Nat.zero_le _) dX0_grow_52 ?_
  refine va_put (D := G) (ci := 0) (v := .int (if 1000 < (C.2.2.2.1 + 1) then 1000 else (C.2.2.2.1 + 1))) (ty := .int) (C := RX0) (T := TX0) (N := 6) hx hb hts iX0_grow_X0 tyX0 tyX0_ok nmX0 hown hK hP hD hS 0 rfl rfl 3 (by decide) (hts _ mX0_grow_8) (fun _ h9 => h9) rfl (by decide +kernel) rfl rfl (Nat.le_of_ble_eq_true rfl) dX0_grow_55 (fun H locs hP hD hS => ?_)
  have hP : va_P G vwCl [(h0, .inr (0, [.int (C.1 + 1), .int (if 1000 < (C.2.1 + 1) then 1000 else (C.2.1 + 1)), .int (if 1000 < (C.2.2.1 + 1) then 1000 else (C.2.2.1 + 1)), .int (if 1000 < (C.2.2.2.1 + 1) then 1000 else (C.2.2.2.1 + 1)), .int C.2.2.2.2.1, .int (bI C.2.2.2.2.2)]))] H := hP
  have hD : va_D A [(h0, .inr (0, [.int (C.1 + 1), .int (if 1000 < (C.2.1 + 1) then 1000 else (C.2.1 + 1)), .int (if 1000 < (C.2.2.1 + 1) then 1000 else (C.2.2.1 + 1)), .int (if 1000 < (C.2.2.2.1 + 1) then 1000 else (C.2.2.2.1 + 1)), .int C.2.2.2.2.1, .int (bI C.2.2.2.2.2)]))] := hD
  refine lv_aload_n hx hb dX0_grow_58 rfl (lv_at hl 0 rfl) ?_
  refine zz_ci (va_runV (As := []) (rest := []) ⟨hx, hb, hml, hown, hts⟩ (kX0_avRuns l G cA cB tb h0 H.size ((C.1 + 1), (if 1000 < (C.2.1 + 1) then 1000 else (C.2.1 + 1)), (if 1000 < (C.2.2.1 + 1) then 1000 else (C.2.2.1 + 1)), (if 1000 < (C.2.2.2.1 + 1) then 1000 else (C.2.2.2.1 + 1)), C.2.2.2.2.1, C.2.2.2.2.2)) (cwV 0 hts gX0_grow_X0_avRuns rfl rfl rfl (by decide +kernel) ⟨Nat.le_of_ble_eq_true rfl, Nat.le_of_ble_eq_true rfl⟩) (zz_preV zS_ok hK hP hD hS hA hz [0] rfl (by decide) (ci := 0) (q0 := 0) (C := RX0) rfl rfl) rfl rfl hl.1 rfl (lv_room (Nat.le_of_ble_eq_true rfl)) dX0_grow_59 ⟨Nat.zero_le _, Nat.zero_le _⟩) hP hD hS hA [0] [] rfl rfl (by decide) (by decide) (fun r u H locs hw hP hD hS => ?_)
  subst hw
  have hP : va_P G vwCl [(h0, .inr (0, [.int (C.1 + 1), .int (if 1000 < (C.2.1 + 1) then 1000 else (C.2.1 + 1)), .int (if 1000 < (C.2.2.1 + 1) then 1000 else (C.2.2.1 + 1)), .int (if 1000 < (C.2.2.2.1 + 1) then 1000 else (C.2.2.2.1 + 1)), .int C.2.2.2.2.1, .int (bI C.2.2.2.2.2)]))] H := hP
  have hD : va_D A [(h0, .inr (0, [.int (C.1 + 1), .int (if 1000 < (C.2.1 + 1) then 1000 else (C.2.1 + 1)), .int (if 1000 < (C.2.2.1 + 1) then 1000 else (C.2.2.1 + 1)), .int (if 1000 < (C.2.2.2.1 + 1) then 1000 else (C.2.2.2.1 + 1)), .int C.2.2.2.2.1, .int (bI C.2.2.2.2.2)]))] := hD
  refine lv_if_eq (tgt := 75) hx hb dX0_grow_62 (by decide) (fun c_1 => ?_) (fun c_1 => ?_)
  · have c_1 := bI_f c_1
    exact zz_rv (((C.1 + 1), (if 1000 < (C.2.1 + 1) then 1000 else (C.2.1 + 1)), (if 1000 < (C.2.2.1 + 1) then 1000 else (C.2.2.1 + 1)), (if 1000 < (C.2.2.2.1 + 1) then 1000 else (C.2.2.2.1 + 1)), C.2.2.2.2.1, C.2.2.2.2.2) : tCk) hx hb hr hlocks hS hP hD (by simp only [k_grow]; first | rw [if_pos (show k_avRuns (k_grow1 C) = true from c_1)]; rfl | (rw [if_neg (by rw [show k_avRuns (k_grow1 C) = false from c_1]; decide)]; rfl)) dX0_grow_75
  · have c_1 := bI_t c_1
    refine lv_aload_n hx hb dX0_grow_65 rfl (lv_at hl 0 rfl) ?_
    refine lv_dup hx hb dX0_grow_66 rfl ?_
    refine va_get (D := G) (ci := 0) (v := .int C.2.2.2.2.1) (C := RX0) (T := TX0) (N := 6) hx hb hts iX0_grow_X0 hown hK hP 0 rfl rfl 4 (by decide) (hts _ mX0_grow_9) (fun _ h9 => h9) rfl dX0_grow_67 ?_
    refine lv_iconst (v := 1) hx hb dX0_grow_70 (by decide) ?_
    refine lv_iadd hx hb dX0_grow_71 ?_
    refine va_put (D := G) (ci := 0) (v := .int (C.2.2.2.2.1 + 1)) (ty := .int) (C := RX0) (T := TX0) (N := 6) hx hb hts iX0_grow_X0 tyX0 tyX0_ok nmX0 hown hK hP hD hS 0 rfl rfl 4 (by decide) (hts _ mX0_grow_9) (fun _ h9 => h9) rfl (by decide +kernel) rfl rfl (Nat.le_of_ble_eq_true rfl) dX0_grow_72 (fun H locs hP hD hS => ?_)
    have hP : va_P G vwCl [(h0, .inr (0, [.int (C.1 + 1), .int (if 1000 < (C.2.1 + 1) then 1000 else (C.2.1 + 1)), .int (if 1000 < (C.2.2.1 + 1) then 1000 else (C.2.2.1 + 1)), .int (if 1000 < (C.2.2.2.1 + 1) then 1000 else (C.2.2.2.1 + 1)), .int (C.2.2.2.2.1 + 1), .int (bI C.2.2.2.2.2)]))] H := hP
    have hD : va_D A [(h0, .inr (0, [.int (C.1 + 1), .int (if 1000 < (C.2.1 + 1) then 1000 else (C.2.1 + 1)), .int (if 1000 < (C.2.2.1 + 1) then 1000 else (C.2.2.1 + 1)), .int (if 1000 < (C.2.2.2.1 + 1) then 1000 else (C.2.2.2.1 + 1)), .int (C.2.2.2.2.1 + 1), .int (bI C.2.2.2.2.2)]))] := hD
    exact zz_rv (((C.1 + 1), (if 1000 < (C.2.1 + 1) then 1000 else (C.2.1 + 1)), (if 1000 < (C.2.2.1 + 1) then 1000 else (C.2.2.1 + 1)), (if 1000 < (C.2.2.2.1 + 1) then 1000 else (C.2.2.2.1 + 1)), (C.2.2.2.2.1 + 1), C.2.2.2.2.2) : tCk) hx hb hr hlocks hS hP hD (by simp only [k_grow]; first | rw [if_pos (show k_avRuns (k_grow1 C) = true from c_1)]; rfl | (rw [if_neg (by rw [show k_avRuns (k_grow1 C) = false from c_1]; decide)]; rfl)) dX0_grow_75
theorem iX0_restartA_X0 : ∀ w ∈ u_ws RX0 TX0 6, w ∈ wsX0_restartA := by decide +kernel
theorem mX0_restartA_1 : Cond.fieldLink RX0 15 "ChamberPacer$Clock" "sinceA" "I" ∈ wsX0_restartA := by decide +kernel
theorem mX0_restartA_3 : Cond.fieldLink RX0 27 "ChamberPacer$Clock" "atrialSinceVentricular" "Z" ∈ wsX0_restartA := by decide +kernel
theorem mX0_restartA_2 : Cond.fieldLink RX0 21 "ChamberPacer$Clock" "sinceP" "I" ∈ wsX0_restartA := by decide +kernel
abbrev rmX0_restartA : Room := { frames := 0, cells := 0, slots := 0, locals := 0 }
abbrev QfX0_restartA (G : va_G) (cA cB : ClassId) (h0 : Nat) (C : tCk) (b : Bool) : (Nat → Prop) → Array Value → State → Outcome → State → Prop := fun A => va_Qv (fun u : tCk => u = k_restA b C) (zz_B G vwCl (fun u : tCk => (wCk h0 cA cB u)) A) A
set_option maxHeartbeats 4000000 in
set_option maxRecDepth 100000 in
theorem kX0_restartA (l : Launch) (G : va_G) (cA cB : ClassId) (tb : Nat × Nat × Nat) (h0 : Nat) (sz : Nat) (C : tCk) (b : Bool) : Met l yX0_restartA wsX0_restartA rmX0_restartA (zz_P (zS tb) G vwCl [(cA, .int), (cB, .boolean)] [.ref h0, .int (bI b)] (wCk h0 cA cB C) sz) (QfX0_restartA G cA cB h0 C b (va_A (wCk h0 cA cB C) sz)) 0 0 (va_A (wCk h0 cA cB C) sz) := by
  cases b
  · refine zz_Met (cc := cX0_restartA) (maxL := 2) (ret := none) (Qf := QfX0_restartA G cA cB h0 C false) (by decide) rfl (Nat.le_of_ble_eq_true rfl) ?_
    intro p e s m below meth c A ls hx hb hr hts hown hlocks hin hml hA hP hK hD hz hS hl
    have hl : lv_has ls 2 [(0, .ref h0), (1, .int (bI false))] := hl
    have hP : va_P G vwCl [(h0, .inr (0, [.int C.1, .int C.2.1, .int C.2.2.1, .int C.2.2.2.1, .int C.2.2.2.2.1, .int (bI C.2.2.2.2.2)]))] s.heap := hP
    have hD : va_D A [(h0, .inr (0, [.int C.1, .int C.2.1, .int C.2.2.1, .int C.2.2.2.1, .int C.2.2.2.2.1, .int (bI C.2.2.2.2.2)]))] := hD
    refine lv_aload_n hx hb dX0_restartA_0 rfl (lv_at hl 0 rfl) ?_
    refine lv_iconst (v := 0) hx hb dX0_restartA_1 (by decide) ?_
    refine va_put (D := G) (ci := 0) (v := .int 0) (ty := .int) (C := RX0) (T := TX0) (N := 6) hx hb hts iX0_restartA_X0 tyX0 tyX0_ok nmX0 hown hK hP hD hS 0 rfl rfl 1 (by decide) (hts _ mX0_restartA_1) (fun _ h9 => h9) rfl (by decide +kernel) rfl rfl (Nat.le_of_ble_eq_true rfl) dX0_restartA_2 (fun H locs hP hD hS => ?_)
    have hP : va_P G vwCl [(h0, .inr (0, [.int C.1, .int 0, .int C.2.2.1, .int C.2.2.2.1, .int C.2.2.2.2.1, .int (bI C.2.2.2.2.2)]))] H := hP
    have hD : va_D A [(h0, .inr (0, [.int C.1, .int 0, .int C.2.2.1, .int C.2.2.2.1, .int C.2.2.2.2.1, .int (bI C.2.2.2.2.2)]))] := hD
    refine lv_iload_n hx hb dX0_restartA_5 rfl (lv_at hl 1 rfl) ?_
    refine lv_if_eq (tgt := 14) hx hb dX0_restartA_6 (by decide) (fun _ => ?_) (fun c => absurd (by decide) c)
    refine lv_aload_n hx hb dX0_restartA_14 rfl (lv_at hl 0 rfl) ?_
    refine lv_iconst (v := 1) hx hb dX0_restartA_15 (by decide) ?_
    refine va_put (D := G) (ci := 0) (v := .int 1) (ty := .boolean) (C := RX0) (T := TX0) (N := 6) hx hb hts iX0_restartA_X0 tyX0 tyX0_ok nmX0 hown hK hP hD hS 0 rfl rfl 5 (by decide) (hts _ mX0_restartA_3) (fun _ h9 => h9) rfl (by decide +kernel) rfl rfl (Nat.le_of_ble_eq_true rfl) dX0_restartA_16 (fun H locs hP hD hS => ?_)
    have hP : va_P G vwCl [(h0, .inr (0, [.int C.1, .int 0, .int C.2.2.1, .int C.2.2.2.1, .int C.2.2.2.2.1, .int (bI true)]))] H := hP
    have hD : va_D A [(h0, .inr (0, [.int C.1, .int 0, .int C.2.2.1, .int C.2.2.2.1, .int C.2.2.2.2.1, .int (bI true)]))] := hD
    exact zz_rv ((C.1, 0, C.2.2.1, C.2.2.2.1, C.2.2.2.2.1, true) : tCk) hx hb hr hlocks hS hP hD (by first | rfl | (simp [])) dX0_restartA_19
  · refine zz_Met (cc := cX0_restartA) (maxL := 2) (ret := none) (Qf := QfX0_restartA G cA cB h0 C true) (by decide) rfl (Nat.le_of_ble_eq_true rfl) ?_
    intro p e s m below meth c A ls hx hb hr hts hown hlocks hin hml hA hP hK hD hz hS hl
    have hl : lv_has ls 2 [(0, .ref h0), (1, .int (bI true))] := hl
    have hP : va_P G vwCl [(h0, .inr (0, [.int C.1, .int C.2.1, .int C.2.2.1, .int C.2.2.2.1, .int C.2.2.2.2.1, .int (bI C.2.2.2.2.2)]))] s.heap := hP
    have hD : va_D A [(h0, .inr (0, [.int C.1, .int C.2.1, .int C.2.2.1, .int C.2.2.2.1, .int C.2.2.2.2.1, .int (bI C.2.2.2.2.2)]))] := hD
    refine lv_aload_n hx hb dX0_restartA_0 rfl (lv_at hl 0 rfl) ?_
    refine lv_iconst (v := 0) hx hb dX0_restartA_1 (by decide) ?_
    refine va_put (D := G) (ci := 0) (v := .int 0) (ty := .int) (C := RX0) (T := TX0) (N := 6) hx hb hts iX0_restartA_X0 tyX0 tyX0_ok nmX0 hown hK hP hD hS 0 rfl rfl 1 (by decide) (hts _ mX0_restartA_1) (fun _ h9 => h9) rfl (by decide +kernel) rfl rfl (Nat.le_of_ble_eq_true rfl) dX0_restartA_2 (fun H locs hP hD hS => ?_)
    have hP : va_P G vwCl [(h0, .inr (0, [.int C.1, .int 0, .int C.2.2.1, .int C.2.2.2.1, .int C.2.2.2.2.1, .int (bI C.2.2.2.2.2)]))] H := hP
    have hD : va_D A [(h0, .inr (0, [.int C.1, .int 0, .int C.2.2.1, .int C.2.2.2.1, .int C.2.2.2.2.1, .int (bI C.2.2.2.2.2)]))] := hD
    refine lv_iload_n hx hb dX0_restartA_5 rfl (lv_at hl 1 rfl) ?_
    refine lv_if_eq (tgt := 14) hx hb dX0_restartA_6 (by decide) (fun c => absurd c (by decide)) (fun _ => ?_)
    refine lv_aload_n hx hb dX0_restartA_9 rfl (lv_at hl 0 rfl) ?_
    refine lv_iconst (v := 0) hx hb dX0_restartA_10 (by decide) ?_
    refine va_put (D := G) (ci := 0) (v := .int 0) (ty := .int) (C := RX0) (T := TX0) (N := 6) hx hb hts iX0_restartA_X0 tyX0 tyX0_ok nmX0 hown hK hP hD hS 0 rfl rfl 3 (by decide) (hts _ mX0_restartA_2) (fun _ h9 => h9) rfl (by decide +kernel) rfl rfl (Nat.le_of_ble_eq_true rfl) dX0_restartA_11 (fun H locs hP hD hS => ?_)
    have hP : va_P G vwCl [(h0, .inr (0, [.int C.1, .int 0, .int C.2.2.1, .int 0, .int C.2.2.2.2.1, .int (bI C.2.2.2.2.2)]))] H := hP
    have hD : va_D A [(h0, .inr (0, [.int C.1, .int 0, .int C.2.2.1, .int 0, .int C.2.2.2.2.1, .int (bI C.2.2.2.2.2)]))] := hD
    refine lv_aload_n hx hb dX0_restartA_14 rfl (lv_at hl 0 rfl) ?_
    refine lv_iconst (v := 1) hx hb dX0_restartA_15 (by decide) ?_
    refine va_put (D := G) (ci := 0) (v := .int 1) (ty := .boolean) (C := RX0) (T := TX0) (N := 6) hx hb hts iX0_restartA_X0 tyX0 tyX0_ok nmX0 hown hK hP hD hS 0 rfl rfl 5 (by decide) (hts _ mX0_restartA_3) (fun _ h9 => h9) rfl (by decide +kernel) rfl rfl (Nat.le_of_ble_eq_true rfl) dX0_restartA_16 (fun H locs hP hD hS => ?_)
    have hP : va_P G vwCl [(h0, .inr (0, [.int C.1, .int 0, .int C.2.2.1, .int 0, .int C.2.2.2.2.1, .int (bI true)]))] H := hP
    have hD : va_D A [(h0, .inr (0, [.int C.1, .int 0, .int C.2.2.1, .int 0, .int C.2.2.2.2.1, .int (bI true)]))] := hD
    exact zz_rv ((C.1, 0, C.2.2.1, 0, C.2.2.2.2.1, true) : tCk) hx hb hr hlocks hS hP hD (by first | rfl | (simp [])) dX0_restartA_19
theorem iX0_restartV_X0 : ∀ w ∈ u_ws RX0 TX0 6, w ∈ wsX0_restartV := by decide +kernel
theorem mX0_restartV_1 : Cond.fieldLink RX0 18 "ChamberPacer$Clock" "sinceV" "I" ∈ wsX0_restartV := by decide +kernel
theorem mX0_restartV_2 : Cond.fieldLink RX0 27 "ChamberPacer$Clock" "atrialSinceVentricular" "Z" ∈ wsX0_restartV := by decide +kernel
abbrev rmX0_restartV : Room := { frames := 1, cells := 0, slots := 0, locals := 20 }
abbrev QfX0_restartV (G : va_G) (cA cB : ClassId) (h0 : Nat) (C : tCk) : (Nat → Prop) → Array Value → State → Outcome → State → Prop := fun A => va_Qv (fun u : tCk => u = k_restV C) (zz_B G vwCl (fun u : tCk => (wCk h0 cA cB u)) A) A
set_option maxHeartbeats 4000000 in
set_option maxRecDepth 100000 in
theorem kX0_restartV (l : Launch) (G : va_G) (cA cB : ClassId) (tb : Nat × Nat × Nat) (h0 : Nat) (sz : Nat) (C : tCk) : Met l yX0_restartV wsX0_restartV rmX0_restartV (zz_P (zS tb) G vwCl [(cA, .int), (cB, .boolean)] [.ref h0] (wCk h0 cA cB C) sz) (QfX0_restartV G cA cB h0 C (va_A (wCk h0 cA cB C) sz)) 0 0 (va_A (wCk h0 cA cB C) sz) := by
  refine zz_Met (cc := cX0_restartV) (maxL := 1) (ret := none) (Qf := QfX0_restartV G cA cB h0 C) (by decide) rfl (Nat.le_of_ble_eq_true rfl) ?_
  intro p e s m below meth c A ls hx hb hr hts hown hlocks hin hml hA hP hK hD hz hS hl
  have hl : lv_has ls 1 [(0, .ref h0)] := hl
  have hP : va_P G vwCl [(h0, .inr (0, [.int C.1, .int C.2.1, .int C.2.2.1, .int C.2.2.2.1, .int C.2.2.2.2.1, .int (bI C.2.2.2.2.2)]))] s.heap := hP
  have hD : va_D A [(h0, .inr (0, [.int C.1, .int C.2.1, .int C.2.2.1, .int C.2.2.2.1, .int C.2.2.2.2.1, .int (bI C.2.2.2.2.2)]))] := hD
  refine lv_aload_n hx hb dX0_restartV_0 rfl (lv_at hl 0 rfl) ?_
  refine lv_iconst (v := 0) hx hb dX0_restartV_1 (by decide) ?_
  refine va_put (D := G) (ci := 0) (v := .int 0) (ty := .int) (C := RX0) (T := TX0) (N := 6) hx hb hts iX0_restartV_X0 tyX0 tyX0_ok nmX0 hown hK hP hD hS 0 rfl rfl 2 (by decide) (hts _ mX0_restartV_1) (fun _ h9 => h9) rfl (by decide +kernel) rfl rfl (Nat.le_of_ble_eq_true rfl) dX0_restartV_2 (fun H locs hP hD hS => ?_)
  have hP : va_P G vwCl [(h0, .inr (0, [.int C.1, .int C.2.1, .int 0, .int C.2.2.2.1, .int C.2.2.2.2.1, .int (bI C.2.2.2.2.2)]))] H := hP
  have hD : va_D A [(h0, .inr (0, [.int C.1, .int C.2.1, .int 0, .int C.2.2.2.1, .int C.2.2.2.2.1, .int (bI C.2.2.2.2.2)]))] := hD
  refine lv_aload_n hx hb dX0_restartV_5 rfl (lv_at hl 0 rfl) ?_
  refine zz_cv (va_runV (As := []) (rest := []) ⟨hx, hb, hml, hown, hts⟩ (kX0_stopAv l G cA cB tb h0 H.size (C.1, C.2.1, 0, C.2.2.2.1, C.2.2.2.2.1, C.2.2.2.2.2)) (cwV 0 hts gX0_restartV_X0_stopAv rfl rfl rfl (by decide +kernel) ⟨Nat.le_of_ble_eq_true rfl, Nat.le_of_ble_eq_true rfl⟩) (zz_preV zS_ok hK hP hD hS hA hz [0] rfl (by decide) (ci := 0) (q0 := 0) (C := RX0) rfl rfl) rfl rfl hl.1 rfl (lv_room (Nat.le_of_ble_eq_true rfl)) dX0_restartV_6 ⟨Nat.zero_le _, Nat.zero_le _⟩) hP hD hS hA [0] [] rfl rfl (by decide) (by decide) (fun u H locs hw hP hD hS => ?_)
  subst hw
  have hP : va_P G vwCl [(h0, .inr (0, [.int ((k_stopAv (C.1, C.2.1, 0, C.2.2.2.1, C.2.2.2.2.1, C.2.2.2.2.2)).1), .int ((k_stopAv (C.1, C.2.1, 0, C.2.2.2.1, C.2.2.2.2.1, C.2.2.2.2.2)).2.1), .int ((k_stopAv (C.1, C.2.1, 0, C.2.2.2.1, C.2.2.2.2.1, C.2.2.2.2.2)).2.2.1), .int ((k_stopAv (C.1, C.2.1, 0, C.2.2.2.1, C.2.2.2.2.1, C.2.2.2.2.2)).2.2.2.1), .int ((k_stopAv (C.1, C.2.1, 0, C.2.2.2.1, C.2.2.2.2.1, C.2.2.2.2.2)).2.2.2.2.1), .int (bI ((k_stopAv (C.1, C.2.1, 0, C.2.2.2.1, C.2.2.2.2.1, C.2.2.2.2.2)).2.2.2.2.2))]))] H := hP
  have hD : va_D A [(h0, .inr (0, [.int ((k_stopAv (C.1, C.2.1, 0, C.2.2.2.1, C.2.2.2.2.1, C.2.2.2.2.2)).1), .int ((k_stopAv (C.1, C.2.1, 0, C.2.2.2.1, C.2.2.2.2.1, C.2.2.2.2.2)).2.1), .int ((k_stopAv (C.1, C.2.1, 0, C.2.2.2.1, C.2.2.2.2.1, C.2.2.2.2.2)).2.2.1), .int ((k_stopAv (C.1, C.2.1, 0, C.2.2.2.1, C.2.2.2.2.1, C.2.2.2.2.2)).2.2.2.1), .int ((k_stopAv (C.1, C.2.1, 0, C.2.2.2.1, C.2.2.2.2.1, C.2.2.2.2.2)).2.2.2.2.1), .int (bI ((k_stopAv (C.1, C.2.1, 0, C.2.2.2.1, C.2.2.2.2.1, C.2.2.2.2.2)).2.2.2.2.2))]))] := hD
  refine lv_aload_n hx hb dX0_restartV_9 rfl (lv_at hl 0 rfl) ?_
  refine lv_iconst (v := 0) hx hb dX0_restartV_10 (by decide) ?_
  refine va_put (D := G) (ci := 0) (v := .int 0) (ty := .boolean) (C := RX0) (T := TX0) (N := 6) hx hb hts iX0_restartV_X0 tyX0 tyX0_ok nmX0 hown hK hP hD hS 0 rfl rfl 5 (by decide) (hts _ mX0_restartV_2) (fun _ h9 => h9) rfl (by decide +kernel) rfl rfl (Nat.le_of_ble_eq_true rfl) dX0_restartV_11 (fun H locs hP hD hS => ?_)
  have hP : va_P G vwCl [(h0, .inr (0, [.int ((k_stopAv (C.1, C.2.1, 0, C.2.2.2.1, C.2.2.2.2.1, C.2.2.2.2.2)).1), .int ((k_stopAv (C.1, C.2.1, 0, C.2.2.2.1, C.2.2.2.2.1, C.2.2.2.2.2)).2.1), .int ((k_stopAv (C.1, C.2.1, 0, C.2.2.2.1, C.2.2.2.2.1, C.2.2.2.2.2)).2.2.1), .int ((k_stopAv (C.1, C.2.1, 0, C.2.2.2.1, C.2.2.2.2.1, C.2.2.2.2.2)).2.2.2.1), .int ((k_stopAv (C.1, C.2.1, 0, C.2.2.2.1, C.2.2.2.2.1, C.2.2.2.2.2)).2.2.2.2.1), .int (bI false)]))] H := hP
  have hD : va_D A [(h0, .inr (0, [.int ((k_stopAv (C.1, C.2.1, 0, C.2.2.2.1, C.2.2.2.2.1, C.2.2.2.2.2)).1), .int ((k_stopAv (C.1, C.2.1, 0, C.2.2.2.1, C.2.2.2.2.1, C.2.2.2.2.2)).2.1), .int ((k_stopAv (C.1, C.2.1, 0, C.2.2.2.1, C.2.2.2.2.1, C.2.2.2.2.2)).2.2.1), .int ((k_stopAv (C.1, C.2.1, 0, C.2.2.2.1, C.2.2.2.2.1, C.2.2.2.2.2)).2.2.2.1), .int ((k_stopAv (C.1, C.2.1, 0, C.2.2.2.1, C.2.2.2.2.1, C.2.2.2.2.2)).2.2.2.2.1), .int (bI false)]))] := hD
  exact zz_rv (((k_stopAv (C.1, C.2.1, 0, C.2.2.2.1, C.2.2.2.2.1, C.2.2.2.2.2)).1, (k_stopAv (C.1, C.2.1, 0, C.2.2.2.1, C.2.2.2.2.1, C.2.2.2.2.2)).2.1, (k_stopAv (C.1, C.2.1, 0, C.2.2.2.1, C.2.2.2.2.1, C.2.2.2.2.2)).2.2.1, (k_stopAv (C.1, C.2.1, 0, C.2.2.2.1, C.2.2.2.2.1, C.2.2.2.2.2)).2.2.2.1, (k_stopAv (C.1, C.2.1, 0, C.2.2.2.1, C.2.2.2.2.1, C.2.2.2.2.2)).2.2.2.2.1, false) : tCk) hx hb hr hlocks hS hP hD (by first | rfl | (simp [])) dX0_restartV_14
end
section
theorem iX7_crosses_X7 : ∀ w ∈ u_ws RX7 TX7 2, w ∈ wsX7_crosses := by decide +kernel
theorem mX7_crosses_1 : Cond.fieldLink RX7 13 "ChamberPacer$Signal" "twoBefore" "I" ∈ wsX7_crosses := by decide +kernel
theorem mX7_crosses_2 : Cond.methodLink RX7 16 Lib.Math.abs.name ∈ wsX7_crosses := by decide +kernel
theorem mX7_crosses_3 : Cond.static Lib.Math.abs.name ∈ wsX7_crosses := by decide +kernel
theorem mX7_crosses_4 : Cond.initialized "java/lang/Math" ∈ wsX7_crosses := by decide +kernel
theorem mX7_crosses_5 : Cond.code Lib.Math.abs.name Lib.Math.abs.code 1 (some .int) ∈ wsX7_crosses := by decide +kernel
theorem mX7_crosses_6 : Cond.fieldLink RX7 7 "ChamberPacer$Signal" "oneBefore" "I" ∈ wsX7_crosses := by decide +kernel
abbrev rmX7_crosses : Room := { frames := 1, cells := 0, slots := 0, locals := 13 }
abbrev QfX7_crosses (G : va_G) (cA cB : ClassId) (h0 : Nat) (S : tSg) (x : Int32) (lim : Int32) : (Nat → Prop) → Array Value → State → Outcome → State → Prop := fun A => va_Qi (fun (r : Int32) (u : tSg) => r = bI (k_cross S x lim) ∧ u = k_take S x) (zz_B G vwCl (fun u : tSg => (wSg h0 cA cB u)) A) A
set_option maxHeartbeats 4000000 in
set_option maxRecDepth 100000 in
theorem kX7_crosses (l : Launch) (G : va_G) (cA cB : ClassId) (tb : Nat × Nat × Nat) (h0 : Nat) (sz : Nat) (S : tSg) (x : Int32) (lim : Int32) : Met l yX7_crosses wsX7_crosses rmX7_crosses (zz_P (zS tb) G vwCl [(cA, .int), (cB, .boolean)] [.ref h0, .int x, .int lim] (wSg h0 cA cB S) sz) (QfX7_crosses G cA cB h0 S x lim (va_A (wSg h0 cA cB S) sz)) 0 0 (va_A (wSg h0 cA cB S) sz) := by
  refine zz_Met (cc := cX7_crosses) (maxL := 4) (ret := (some .boolean)) (Qf := QfX7_crosses G cA cB h0 S x lim) (by decide) rfl (Nat.le_of_ble_eq_true rfl) ?_
  intro p e s m below meth c A ls hx hb hr hts hown hlocks hin hml hA hP hK hD hz hS hl
  have hl : lv_has ls 4 [(0, .ref h0), (1, .int x), (2, .int lim)] := hl
  have hP : va_P G vwCl [(h0, .inr (7, [.int S.1, .int S.2]))] s.heap := hP
  have hD : va_D A [(h0, .inr (7, [.int S.1, .int S.2]))] := hD
  refine lv_iload_n hx hb dX7_crosses_0 rfl (lv_at hl 1 rfl) ?_
  refine lv_aload_n hx hb dX7_crosses_1 rfl (lv_at hl 0 rfl) ?_
  refine va_get (D := G) (ci := 7) (v := .int S.2) (C := RX7) (T := TX7) (N := 2) hx hb hts iX7_crosses_X7 hown hK hP 0 rfl rfl 1 (by decide) (hts _ mX7_crosses_1) (fun _ h9 => h9) rfl dX7_crosses_2 ?_
  refine lv_isub hx hb dX7_crosses_5 ?_
  refine va_mabs hx hb (hml.trans hl.1.symm) hown (hts _ mX7_crosses_2) (hts _ mX7_crosses_3) (hts _ mX7_crosses_4) (hts _ mX7_crosses_5) (by decide) (by decide) (Nat.zero_le _) (Nat.zero_le _) dX7_crosses_6 ?_
  refine lv_istore_n (lv' := [(3, .int (if 0 ≤ (x - S.2) then (x - S.2) else 0 - (x - S.2))), (0, .ref h0), (1, .int x), (2, .int lim)]) hx hb dX7_crosses_9 rfl hl (by decide) rfl (fun ls hl => ?_)
  refine lv_aload_n hx hb dX7_crosses_10 rfl (lv_at hl 1 rfl) ?_
  refine lv_aload_n hx hb dX7_crosses_11 rfl (lv_at hl 1 rfl) ?_
  refine va_get (D := G) (ci := 7) (v := .int S.1) (C := RX7) (T := TX7) (N := 2) hx hb hts iX7_crosses_X7 hown hK hP 0 rfl rfl 0 (by decide) (hts _ mX7_crosses_6) (fun _ h9 => h9) rfl dX7_crosses_12 ?_
  refine va_put (D := G) (ci := 7) (v := .int S.1) (ty := .int) (C := RX7) (T := TX7) (N := 2) hx hb hts iX7_crosses_X7 tyX7 tyX7_ok nmX7 hown hK hP hD hS 0 rfl rfl 1 (by decide) (hts _ mX7_crosses_1) (fun _ h9 => h9) rfl (by decide +kernel) rfl rfl (Nat.le_of_ble_eq_true rfl) dX7_crosses_15 (fun H locs hP hD hS => ?_)
  have hP : va_P G vwCl [(h0, .inr (7, [.int S.1, .int S.1]))] H := hP
  have hD : va_D A [(h0, .inr (7, [.int S.1, .int S.1]))] := hD
  refine lv_aload_n hx hb dX7_crosses_18 rfl (lv_at hl 1 rfl) ?_
  refine lv_iload_n hx hb dX7_crosses_19 rfl (lv_at hl 2 rfl) ?_
  refine va_put (D := G) (ci := 7) (v := .int x) (ty := .int) (C := RX7) (T := TX7) (N := 2) hx hb hts iX7_crosses_X7 tyX7 tyX7_ok nmX7 hown hK hP hD hS 0 rfl rfl 0 (by decide) (hts _ mX7_crosses_6) (fun _ h9 => h9) rfl (by decide +kernel) rfl rfl (Nat.le_of_ble_eq_true rfl) dX7_crosses_20 (fun H locs hP hD hS => ?_)
  have hP : va_P G vwCl [(h0, .inr (7, [.int x, .int S.1]))] H := hP
  have hD : va_D A [(h0, .inr (7, [.int x, .int S.1]))] := hD
  refine lv_iload_n hx hb dX7_crosses_23 rfl (lv_at hl 0 rfl) ?_
  refine lv_iload_n hx hb dX7_crosses_24 rfl (lv_at hl 3 rfl) ?_
  refine lv_icmp_lt (tgt := 32) hx hb dX7_crosses_25 (by decide) (fun c_1 => ?_) (fun c_1 => ?_)
  · refine lv_iconst (v := 0) hx hb dX7_crosses_32 (by decide) ?_
    exact zz_rz (v := 0) ((x, S.1) : tSg) hx hb hr (by decide +kernel) hlocks hS hP hD ⟨by simp [k_cross, bI, c_1], by first | rfl | (simp [c_1])⟩ dX7_crosses_33
  · refine lv_iconst (v := 1) hx hb dX7_crosses_28 (by decide) ?_
    refine lv_goto (tgt := 33) hx hb dX7_crosses_29 (by decide) ?_
    exact zz_rz (v := 1) ((x, S.1) : tSg) hx hb hr (by decide +kernel) hlocks hS hP hD ⟨by simp [k_cross, bI, c_1], by first | rfl | (simp [c_1])⟩ dX7_crosses_33
theorem iX2_count_X2 : ∀ w ∈ u_ws RX2 TX2 3, w ∈ wsX2_count := by decide +kernel
theorem mX2_count_1 : Cond.fieldLink RX2 7 "ChamberPacer$Follower" "fast" "I" ∈ wsX2_count := by decide +kernel
theorem mX2_count_2 : Cond.fieldLink RX2 13 "ChamberPacer$Follower" "slow" "I" ∈ wsX2_count := by decide +kernel
theorem mX2_count_3 : Cond.fieldLink RX2 16 "ChamberPacer$Follower" "gaveUp" "Z" ∈ wsX2_count := by decide +kernel
abbrev rmX2_count : Room := { frames := 0, cells := 0, slots := 0, locals := 0 }
abbrev QfX2_count (G : va_G) (cA cB : ClassId) (h0 : Nat) (F : tFo) (b : Bool) : (Nat → Prop) → Array Value → State → Outcome → State → Prop := fun A => va_Qv (fun u : tFo => u = k_count b F) (zz_B G vwCl (fun u : tFo => (wFo h0 cA cB u)) A) A
set_option maxHeartbeats 4000000 in
set_option maxRecDepth 100000 in
theorem kX2_count (l : Launch) (G : va_G) (cA cB : ClassId) (tb : Nat × Nat × Nat) (h0 : Nat) (sz : Nat) (F : tFo) (b : Bool) : Met l yX2_count wsX2_count rmX2_count (zz_P (zS tb) G vwCl [(cA, .int), (cB, .boolean)] [.ref h0, .int (bI b)] (wFo h0 cA cB F) sz) (QfX2_count G cA cB h0 F b (va_A (wFo h0 cA cB F) sz)) 0 0 (va_A (wFo h0 cA cB F) sz) := by
  cases b
  · refine zz_Met (cc := cX2_count) (maxL := 2) (ret := none) (Qf := QfX2_count G cA cB h0 F false) (by decide) rfl (Nat.le_of_ble_eq_true rfl) ?_
    intro p e s m below meth c A ls hx hb hr hts hown hlocks hin hml hA hP hK hD hz hS hl
    have hl : lv_has ls 2 [(0, .ref h0), (1, .int (bI false))] := hl
    have hP : va_P G vwCl [(h0, .inr (2, [.int F.1, .int F.2.1, .int (bI F.2.2)]))] s.heap := hP
    have hD : va_D A [(h0, .inr (2, [.int F.1, .int F.2.1, .int (bI F.2.2)]))] := hD
    refine lv_aload_n hx hb dX2_count_0 rfl (lv_at hl 0 rfl) ?_
    refine lv_iload_n hx hb dX2_count_1 rfl (lv_at hl 1 rfl) ?_
    refine lv_if_eq (tgt := 14) hx hb dX2_count_2 (by decide) (fun _ => ?_) (fun c => absurd (by decide) c)
    refine lv_iconst (v := 0) hx hb dX2_count_14 (by decide) ?_
    refine va_put (D := G) (ci := 2) (v := .int 0) (ty := .int) (C := RX2) (T := TX2) (N := 3) hx hb hts iX2_count_X2 tyX2 tyX2_ok nmX2 hown hK hP hD hS 0 rfl rfl 0 (by decide) (hts _ mX2_count_1) (fun _ h9 => h9) rfl (by decide +kernel) rfl rfl (Nat.le_of_ble_eq_true rfl) dX2_count_15 (fun H locs hP hD hS => ?_)
    have hP : va_P G vwCl [(h0, .inr (2, [.int 0, .int F.2.1, .int (bI F.2.2)]))] H := hP
    have hD : va_D A [(h0, .inr (2, [.int 0, .int F.2.1, .int (bI F.2.2)]))] := hD
    refine lv_aload_n hx hb dX2_count_18 rfl (lv_at hl 0 rfl) ?_
    refine lv_iload_n hx hb dX2_count_19 rfl (lv_at hl 1 rfl) ?_
    refine lv_if_eq (tgt := 27) hx hb dX2_count_20 (by decide) (fun _ => ?_) (fun c => absurd (by decide) c)
    refine lv_aload_n hx hb dX2_count_27 rfl (lv_at hl 0 rfl) ?_
    refine va_get (D := G) (ci := 2) (v := .int F.2.1) (C := RX2) (T := TX2) (N := 3) hx hb hts iX2_count_X2 hown hK hP 0 rfl rfl 1 (by decide) (hts _ mX2_count_2) (fun _ h9 => h9) rfl dX2_count_28 ?_
    refine lv_iconst (v := 1) hx hb dX2_count_31 (by decide) ?_
    refine lv_iadd hx hb dX2_count_32 ?_
    refine va_put (D := G) (ci := 2) (v := .int (F.2.1 + 1)) (ty := .int) (C := RX2) (T := TX2) (N := 3) hx hb hts iX2_count_X2 tyX2 tyX2_ok nmX2 hown hK hP hD hS 0 rfl rfl 1 (by decide) (hts _ mX2_count_2) (fun _ h9 => h9) rfl (by decide +kernel) rfl rfl (Nat.le_of_ble_eq_true rfl) dX2_count_33 (fun H locs hP hD hS => ?_)
    have hP : va_P G vwCl [(h0, .inr (2, [.int 0, .int (F.2.1 + 1), .int (bI F.2.2)]))] H := hP
    have hD : va_D A [(h0, .inr (2, [.int 0, .int (F.2.1 + 1), .int (bI F.2.2)]))] := hD
    refine lv_aload_n hx hb dX2_count_36 rfl (lv_at hl 0 rfl) ?_
    refine va_get (D := G) (ci := 2) (v := .int 0) (C := RX2) (T := TX2) (N := 3) hx hb hts iX2_count_X2 hown hK hP 0 rfl rfl 0 (by decide) (hts _ mX2_count_1) (fun _ h9 => h9) rfl dX2_count_37 ?_
    refine lv_iconst (v := 5) hx hb dX2_count_40 (by decide) ?_
    have J49_1 : ∀ (X_1 : tFo) (hX_1 : X_1 = (k_cntF false F, k_cntS false F, if k_cntF false F < 5 then F.2.2 else true)) (H : Heap) (locs : List Loc) (ls : Array Slot), va_P G vwCl [(h0, .inr (2, [.int X_1.1, .int X_1.2.1, .int (bI X_1.2.2)]))] H → va_D A [(h0, .inr (2, [.int X_1.1, .int X_1.2.1, .int (bI X_1.2.2)]))] → va_S A s.heap H locs → lv_has ls 2 [(0, .ref h0), (1, .int (bI false))] → W p l e rmX2_count s m ([.ref h0, .int (bI false)] : List Value).toArray below meth c H locs 0 0 (MQ below (QfX2_count G cA cB h0 F false A) ([.ref h0, .int (bI false)] : List Value).toArray s 0 0 A) (F0 m 49 ls [.int 5, .int 0]) := by
      intro X_1 hX_1 H locs ls hP hD hS hl
      refine lv_aload_n hx hb dX2_count_49 rfl (lv_at hl 0 rfl) ?_
      refine va_get (D := G) (ci := 2) (v := .int X_1.2.1) (C := RX2) (T := TX2) (N := 3) hx hb hts iX2_count_X2 hown hK hP 0 rfl rfl 1 (by decide) (hts _ mX2_count_2) (fun _ h9 => h9) rfl dX2_count_50 ?_
      refine lv_iconst (v := 3) hx hb dX2_count_53 (by decide) ?_
      refine lv_icmp_lt (tgt := 62) hx hb dX2_count_54 (by decide) (fun c_2 => ?_) (fun c_2 => ?_)
      · exact zz_rv (X_1 : tFo) hx hb hr hlocks hS hP hD (by first | rfl | (subst hX_1; simp [k_count, k_cntF, k_cntS, c_2])) dX2_count_62
      · refine lv_aload_n hx hb dX2_count_57 rfl (lv_at hl 0 rfl) ?_
        refine lv_iconst (v := 0) hx hb dX2_count_58 (by decide) ?_
        refine va_put (D := G) (ci := 2) (v := .int 0) (ty := .boolean) (C := RX2) (T := TX2) (N := 3) hx hb hts iX2_count_X2 tyX2 tyX2_ok nmX2 hown hK hP hD hS 0 rfl rfl 2 (by decide) (hts _ mX2_count_3) (fun _ h9 => h9) rfl (by decide +kernel) rfl rfl (Nat.le_of_ble_eq_true rfl) dX2_count_59 (fun H locs hP hD hS => ?_)
        have hP : va_P G vwCl [(h0, .inr (2, [.int X_1.1, .int X_1.2.1, .int (bI false)]))] H := hP
        have hD : va_D A [(h0, .inr (2, [.int X_1.1, .int X_1.2.1, .int (bI false)]))] := hD
        exact zz_rv ((X_1.1, X_1.2.1, false) : tFo) hx hb hr hlocks hS hP hD (by first | rfl | (subst hX_1; simp [k_count, k_cntF, k_cntS, c_2])) dX2_count_62
    refine lv_icmp_lt (tgt := 49) hx hb dX2_count_41 (by decide) (fun _ => ?_) (fun c => absurd (by decide) c)
    exact J49_1 ((0, (F.2.1 + 1), F.2.2)) (by first | rfl | (simp [k_cntF, k_cntS])) _ _ _ hP hD hS hl
  · refine zz_Met (cc := cX2_count) (maxL := 2) (ret := none) (Qf := QfX2_count G cA cB h0 F true) (by decide) rfl (Nat.le_of_ble_eq_true rfl) ?_
    intro p e s m below meth c A ls hx hb hr hts hown hlocks hin hml hA hP hK hD hz hS hl
    have hl : lv_has ls 2 [(0, .ref h0), (1, .int (bI true))] := hl
    have hP : va_P G vwCl [(h0, .inr (2, [.int F.1, .int F.2.1, .int (bI F.2.2)]))] s.heap := hP
    have hD : va_D A [(h0, .inr (2, [.int F.1, .int F.2.1, .int (bI F.2.2)]))] := hD
    refine lv_aload_n hx hb dX2_count_0 rfl (lv_at hl 0 rfl) ?_
    refine lv_iload_n hx hb dX2_count_1 rfl (lv_at hl 1 rfl) ?_
    refine lv_if_eq (tgt := 14) hx hb dX2_count_2 (by decide) (fun c => absurd c (by decide)) (fun _ => ?_)
    refine lv_aload_n hx hb dX2_count_5 rfl (lv_at hl 0 rfl) ?_
    refine va_get (D := G) (ci := 2) (v := .int F.1) (C := RX2) (T := TX2) (N := 3) hx hb hts iX2_count_X2 hown hK hP 0 rfl rfl 0 (by decide) (hts _ mX2_count_1) (fun _ h9 => h9) rfl dX2_count_6 ?_
    refine lv_iconst (v := 1) hx hb dX2_count_9 (by decide) ?_
    refine lv_iadd hx hb dX2_count_10 ?_
    refine lv_goto (tgt := 15) hx hb dX2_count_11 (by decide) ?_
    refine va_put (D := G) (ci := 2) (v := .int (F.1 + 1)) (ty := .int) (C := RX2) (T := TX2) (N := 3) hx hb hts iX2_count_X2 tyX2 tyX2_ok nmX2 hown hK hP hD hS 0 rfl rfl 0 (by decide) (hts _ mX2_count_1) (fun _ h9 => h9) rfl (by decide +kernel) rfl rfl (Nat.le_of_ble_eq_true rfl) dX2_count_15 (fun H locs hP hD hS => ?_)
    have hP : va_P G vwCl [(h0, .inr (2, [.int (F.1 + 1), .int F.2.1, .int (bI F.2.2)]))] H := hP
    have hD : va_D A [(h0, .inr (2, [.int (F.1 + 1), .int F.2.1, .int (bI F.2.2)]))] := hD
    refine lv_aload_n hx hb dX2_count_18 rfl (lv_at hl 0 rfl) ?_
    refine lv_iload_n hx hb dX2_count_19 rfl (lv_at hl 1 rfl) ?_
    refine lv_if_eq (tgt := 27) hx hb dX2_count_20 (by decide) (fun c => absurd c (by decide)) (fun _ => ?_)
    refine lv_iconst (v := 0) hx hb dX2_count_23 (by decide) ?_
    refine lv_goto (tgt := 33) hx hb dX2_count_24 (by decide) ?_
    refine va_put (D := G) (ci := 2) (v := .int 0) (ty := .int) (C := RX2) (T := TX2) (N := 3) hx hb hts iX2_count_X2 tyX2 tyX2_ok nmX2 hown hK hP hD hS 0 rfl rfl 1 (by decide) (hts _ mX2_count_2) (fun _ h9 => h9) rfl (by decide +kernel) rfl rfl (Nat.le_of_ble_eq_true rfl) dX2_count_33 (fun H locs hP hD hS => ?_)
    have hP : va_P G vwCl [(h0, .inr (2, [.int (F.1 + 1), .int 0, .int (bI F.2.2)]))] H := hP
    have hD : va_D A [(h0, .inr (2, [.int (F.1 + 1), .int 0, .int (bI F.2.2)]))] := hD
    refine lv_aload_n hx hb dX2_count_36 rfl (lv_at hl 0 rfl) ?_
    refine va_get (D := G) (ci := 2) (v := .int (F.1 + 1)) (C := RX2) (T := TX2) (N := 3) hx hb hts iX2_count_X2 hown hK hP 0 rfl rfl 0 (by decide) (hts _ mX2_count_1) (fun _ h9 => h9) rfl dX2_count_37 ?_
    refine lv_iconst (v := 5) hx hb dX2_count_40 (by decide) ?_
    have J49_3 : ∀ (X_3 : tFo) (hX_3 : X_3 = (k_cntF true F, k_cntS true F, if k_cntF true F < 5 then F.2.2 else true)) (H : Heap) (locs : List Loc) (ls : Array Slot), va_P G vwCl [(h0, .inr (2, [.int X_3.1, .int X_3.2.1, .int (bI X_3.2.2)]))] H → va_D A [(h0, .inr (2, [.int X_3.1, .int X_3.2.1, .int (bI X_3.2.2)]))] → va_S A s.heap H locs → lv_has ls 2 [(0, .ref h0), (1, .int (bI true))] → W p l e rmX2_count s m ([.ref h0, .int (bI true)] : List Value).toArray below meth c H locs 0 0 (MQ below (QfX2_count G cA cB h0 F true A) ([.ref h0, .int (bI true)] : List Value).toArray s 0 0 A) (F0 m 49 ls [.int 5, .int (F.1 + 1)]) := by
      intro X_3 hX_3 H locs ls hP hD hS hl
      refine lv_aload_n hx hb dX2_count_49 rfl (lv_at hl 0 rfl) ?_
      refine va_get (D := G) (ci := 2) (v := .int X_3.2.1) (C := RX2) (T := TX2) (N := 3) hx hb hts iX2_count_X2 hown hK hP 0 rfl rfl 1 (by decide) (hts _ mX2_count_2) (fun _ h9 => h9) rfl dX2_count_50 ?_
      refine lv_iconst (v := 3) hx hb dX2_count_53 (by decide) ?_
      refine lv_icmp_lt (tgt := 62) hx hb dX2_count_54 (by decide) (fun c_4 => ?_) (fun c_4 => ?_)
      · exact zz_rv (X_3 : tFo) hx hb hr hlocks hS hP hD (by first | rfl | (subst hX_3; simp [k_count, k_cntF, k_cntS, c_4])) dX2_count_62
      · refine lv_aload_n hx hb dX2_count_57 rfl (lv_at hl 0 rfl) ?_
        refine lv_iconst (v := 0) hx hb dX2_count_58 (by decide) ?_
        refine va_put (D := G) (ci := 2) (v := .int 0) (ty := .boolean) (C := RX2) (T := TX2) (N := 3) hx hb hts iX2_count_X2 tyX2 tyX2_ok nmX2 hown hK hP hD hS 0 rfl rfl 2 (by decide) (hts _ mX2_count_3) (fun _ h9 => h9) rfl (by decide +kernel) rfl rfl (Nat.le_of_ble_eq_true rfl) dX2_count_59 (fun H locs hP hD hS => ?_)
        have hP : va_P G vwCl [(h0, .inr (2, [.int X_3.1, .int X_3.2.1, .int (bI false)]))] H := hP
        have hD : va_D A [(h0, .inr (2, [.int X_3.1, .int X_3.2.1, .int (bI false)]))] := hD
        exact zz_rv ((X_3.1, X_3.2.1, false) : tFo) hx hb hr hlocks hS hP hD (by first | rfl | (subst hX_3; simp [k_count, k_cntF, k_cntS, c_4])) dX2_count_62
    refine lv_icmp_lt (tgt := 49) hx hb dX2_count_41 (by decide) (fun c_5 => ?_) (fun c_5 => ?_)
    · exact J49_3 (((F.1 + 1), 0, F.2.2)) (by first | rfl | (simp [k_cntF, k_cntS, c_5])) _ _ _ hP hD hS hl
    · refine lv_aload_n hx hb dX2_count_44 rfl (lv_at hl 0 rfl) ?_
      refine lv_iconst (v := 1) hx hb dX2_count_45 (by decide) ?_
      refine va_put (D := G) (ci := 2) (v := .int 1) (ty := .boolean) (C := RX2) (T := TX2) (N := 3) hx hb hts iX2_count_X2 tyX2 tyX2_ok nmX2 hown hK hP hD hS 0 rfl rfl 2 (by decide) (hts _ mX2_count_3) (fun _ h9 => h9) rfl (by decide +kernel) rfl rfl (Nat.le_of_ble_eq_true rfl) dX2_count_46 (fun H locs hP hD hS => ?_)
      have hP : va_P G vwCl [(h0, .inr (2, [.int (F.1 + 1), .int 0, .int (bI true)]))] H := hP
      have hD : va_D A [(h0, .inr (2, [.int (F.1 + 1), .int 0, .int (bI true)]))] := hD
      exact J49_3 (((F.1 + 1), 0, true)) (by first | rfl | (simp [k_cntF, k_cntS, c_5])) _ _ _ hP hD hS hl
theorem iX2_forget_X2 : ∀ w ∈ u_ws RX2 TX2 3, w ∈ wsX2_forget := by decide +kernel
theorem mX2_forget_1 : Cond.fieldLink RX2 7 "ChamberPacer$Follower" "fast" "I" ∈ wsX2_forget := by decide +kernel
theorem mX2_forget_2 : Cond.fieldLink RX2 13 "ChamberPacer$Follower" "slow" "I" ∈ wsX2_forget := by decide +kernel
theorem mX2_forget_3 : Cond.fieldLink RX2 16 "ChamberPacer$Follower" "gaveUp" "Z" ∈ wsX2_forget := by decide +kernel
abbrev rmX2_forget : Room := { frames := 0, cells := 0, slots := 0, locals := 0 }
abbrev QfX2_forget (G : va_G) (cA cB : ClassId) (h0 : Nat) (F : tFo) : (Nat → Prop) → Array Value → State → Outcome → State → Prop := fun A => va_Qv (fun u : tFo => u = k_forget F) (zz_B G vwCl (fun u : tFo => (wFo h0 cA cB u)) A) A
set_option maxHeartbeats 4000000 in
set_option maxRecDepth 100000 in
theorem kX2_forget (l : Launch) (G : va_G) (cA cB : ClassId) (tb : Nat × Nat × Nat) (h0 : Nat) (sz : Nat) (F : tFo) : Met l yX2_forget wsX2_forget rmX2_forget (zz_P (zS tb) G vwCl [(cA, .int), (cB, .boolean)] [.ref h0] (wFo h0 cA cB F) sz) (QfX2_forget G cA cB h0 F (va_A (wFo h0 cA cB F) sz)) 0 0 (va_A (wFo h0 cA cB F) sz) := by
  refine zz_Met (cc := cX2_forget) (maxL := 1) (ret := none) (Qf := QfX2_forget G cA cB h0 F) (by decide) rfl (Nat.le_of_ble_eq_true rfl) ?_
  intro p e s m below meth c A ls hx hb hr hts hown hlocks hin hml hA hP hK hD hz hS hl
  have hl : lv_has ls 1 [(0, .ref h0)] := hl
  have hP : va_P G vwCl [(h0, .inr (2, [.int F.1, .int F.2.1, .int (bI F.2.2)]))] s.heap := hP
  have hD : va_D A [(h0, .inr (2, [.int F.1, .int F.2.1, .int (bI F.2.2)]))] := hD
  refine lv_aload_n hx hb dX2_forget_0 rfl (lv_at hl 0 rfl) ?_
  refine lv_iconst (v := 0) hx hb dX2_forget_1 (by decide) ?_
  refine va_put (D := G) (ci := 2) (v := .int 0) (ty := .int) (C := RX2) (T := TX2) (N := 3) hx hb hts iX2_forget_X2 tyX2 tyX2_ok nmX2 hown hK hP hD hS 0 rfl rfl 0 (by decide) (hts _ mX2_forget_1) (fun _ h9 => h9) rfl (by decide +kernel) rfl rfl (Nat.le_of_ble_eq_true rfl) dX2_forget_2 (fun H locs hP hD hS => ?_)
  have hP : va_P G vwCl [(h0, .inr (2, [.int 0, .int F.2.1, .int (bI F.2.2)]))] H := hP
  have hD : va_D A [(h0, .inr (2, [.int 0, .int F.2.1, .int (bI F.2.2)]))] := hD
  refine lv_aload_n hx hb dX2_forget_5 rfl (lv_at hl 0 rfl) ?_
  refine lv_iconst (v := 0) hx hb dX2_forget_6 (by decide) ?_
  refine va_put (D := G) (ci := 2) (v := .int 0) (ty := .int) (C := RX2) (T := TX2) (N := 3) hx hb hts iX2_forget_X2 tyX2 tyX2_ok nmX2 hown hK hP hD hS 0 rfl rfl 1 (by decide) (hts _ mX2_forget_2) (fun _ h9 => h9) rfl (by decide +kernel) rfl rfl (Nat.le_of_ble_eq_true rfl) dX2_forget_7 (fun H locs hP hD hS => ?_)
  have hP : va_P G vwCl [(h0, .inr (2, [.int 0, .int 0, .int (bI F.2.2)]))] H := hP
  have hD : va_D A [(h0, .inr (2, [.int 0, .int 0, .int (bI F.2.2)]))] := hD
  refine lv_aload_n hx hb dX2_forget_10 rfl (lv_at hl 0 rfl) ?_
  refine lv_iconst (v := 0) hx hb dX2_forget_11 (by decide) ?_
  refine va_put (D := G) (ci := 2) (v := .int 0) (ty := .boolean) (C := RX2) (T := TX2) (N := 3) hx hb hts iX2_forget_X2 tyX2 tyX2_ok nmX2 hown hK hP hD hS 0 rfl rfl 2 (by decide) (hts _ mX2_forget_3) (fun _ h9 => h9) rfl (by decide +kernel) rfl rfl (Nat.le_of_ble_eq_true rfl) dX2_forget_12 (fun H locs hP hD hS => ?_)
  have hP : va_P G vwCl [(h0, .inr (2, [.int 0, .int 0, .int (bI false)]))] H := hP
  have hD : va_D A [(h0, .inr (2, [.int 0, .int 0, .int (bI false)]))] := hD
  exact zz_rv ((0, 0, false) : tFo) hx hb hr hlocks hS hP hD (by first | rfl | (simp [])) dX2_forget_15
theorem iX5_adapt_X5 : ∀ w ∈ u_ws RX5 TX5 3, w ∈ wsX5_adapt := by decide +kernel
theorem mX5_adapt_1 : Cond.fieldLink RX5 11 "ChamberPacer$Pace" "level" "I" ∈ wsX5_adapt := by decide +kernel
abbrev rmX5_adapt : Room := { frames := 0, cells := 0, slots := 0, locals := 0 }
abbrev QfX5_adapt (G : va_G) (cA cB : ClassId) (h0 : Nat) (P : tPa) (a : Int32) : (Nat → Prop) → Array Value → State → Outcome → State → Prop := fun A => va_Qv (fun u : tPa => u = k_adapt a P) (zz_B G vwCl (fun u : tPa => (wPa h0 cA cB u)) A) A
set_option maxHeartbeats 4000000 in
set_option maxRecDepth 100000 in
theorem kX5_adapt (l : Launch) (G : va_G) (cA cB : ClassId) (tb : Nat × Nat × Nat) (h0 : Nat) (sz : Nat) (P : tPa) (a : Int32) : Met l yX5_adapt wsX5_adapt rmX5_adapt (zz_P (zS tb) G vwCl [(cA, .int), (cB, .boolean)] [.ref h0, .int a] (wPa h0 cA cB P) sz) (QfX5_adapt G cA cB h0 P a (va_A (wPa h0 cA cB P) sz)) 0 0 (va_A (wPa h0 cA cB P) sz) := by
  refine zz_Met (cc := cX5_adapt) (maxL := 3) (ret := none) (Qf := QfX5_adapt G cA cB h0 P a) (by decide) rfl (Nat.le_of_ble_eq_true rfl) ?_
  intro p e s m below meth c A ls hx hb hr hts hown hlocks hin hml hA hP hK hD hz hS hl
  have hl : lv_has ls 3 [(0, .ref h0), (1, .int a)] := hl
  have hP : va_P G vwCl [(h0, .inr (5, [.int P.1, .int P.2.1, .int P.2.2]))] s.heap := hP
  have hD : va_D A [(h0, .inr (5, [.int P.1, .int P.2.1, .int P.2.2]))] := hD
  refine lv_bipush (v := 16) hx hb dX5_adapt_0 (by decide) ?_
  refine lv_iload_n hx hb dX5_adapt_2 rfl (lv_at hl 1 rfl) ?_
  refine lv_imul hx hb dX5_adapt_3 ?_
  refine lv_istore_n (lv' := [(2, .int (16 * a)), (0, .ref h0), (1, .int a)]) hx hb dX5_adapt_4 rfl hl (by decide) rfl (fun ls hl => ?_)
  refine lv_iload_n hx hb dX5_adapt_5 rfl (lv_at hl 0 rfl) ?_
  refine lv_aload_n hx hb dX5_adapt_6 rfl (lv_at hl 1 rfl) ?_
  refine va_get (D := G) (ci := 5) (v := .int P.1) (C := RX5) (T := TX5) (N := 3) hx hb hts iX5_adapt_X5 hown hK hP 0 rfl rfl 0 (by decide) (hts _ mX5_adapt_1) (fun _ h9 => h9) rfl dX5_adapt_7 ?_
  refine lv_icmp_le (tgt := 34) hx hb dX5_adapt_10 (by decide) (fun c_1 => ?_) (fun c_1 => ?_)
  · refine lv_aload_n hx hb dX5_adapt_34 rfl (lv_at hl 1 rfl) ?_
    refine lv_dup hx hb dX5_adapt_35 rfl ?_
    refine va_get (D := G) (ci := 5) (v := .int P.1) (C := RX5) (T := TX5) (N := 3) hx hb hts iX5_adapt_X5 hown hK hP 0 rfl rfl 0 (by decide) (hts _ mX5_adapt_1) (fun _ h9 => h9) rfl dX5_adapt_36 ?_
    refine lv_aload_n hx hb dX5_adapt_39 rfl (lv_at hl 1 rfl) ?_
    refine va_get (D := G) (ci := 5) (v := .int P.1) (C := RX5) (T := TX5) (N := 3) hx hb hts iX5_adapt_X5 hown hK hP 0 rfl rfl 0 (by decide) (hts _ mX5_adapt_1) (fun _ h9 => h9) rfl dX5_adapt_40 ?_
    refine lv_iload_n hx hb dX5_adapt_43 rfl (lv_at hl 0 rfl) ?_
    refine lv_isub hx hb dX5_adapt_44 ?_
    refine lv_bipush (v := 32) hx hb dX5_adapt_45 (by decide) ?_
    refine lv_idiv hx hb dX5_adapt_47 (by decide) ?_
    refine lv_isub hx hb dX5_adapt_48 ?_
    refine va_put (D := G) (ci := 5) (v := .int (P.1 - ((P.1 - (16 * a)) / 32))) (ty := .int) (C := RX5) (T := TX5) (N := 3) hx hb hts iX5_adapt_X5 tyX5 tyX5_ok nmX5 hown hK hP hD hS 0 rfl rfl 0 (by decide) (hts _ mX5_adapt_1) (fun _ h9 => h9) rfl (by decide +kernel) rfl rfl (Nat.le_of_ble_eq_true rfl) dX5_adapt_49 (fun H locs hP hD hS => ?_)
    have hP : va_P G vwCl [(h0, .inr (5, [.int (P.1 - ((P.1 - (16 * a)) / 32)), .int P.2.1, .int P.2.2]))] H := hP
    have hD : va_D A [(h0, .inr (5, [.int (P.1 - ((P.1 - (16 * a)) / 32)), .int P.2.1, .int P.2.2]))] := hD
    exact zz_rv (((P.1 - ((P.1 - (16 * a)) / 32)), P.2.1, P.2.2) : tPa) hx hb hr hlocks hS hP hD (by first | rfl | (simp [k_adapt, c_1])) dX5_adapt_52
  · refine lv_aload_n hx hb dX5_adapt_13 rfl (lv_at hl 1 rfl) ?_
    refine lv_dup hx hb dX5_adapt_14 rfl ?_
    refine va_get (D := G) (ci := 5) (v := .int P.1) (C := RX5) (T := TX5) (N := 3) hx hb hts iX5_adapt_X5 hown hK hP 0 rfl rfl 0 (by decide) (hts _ mX5_adapt_1) (fun _ h9 => h9) rfl dX5_adapt_15 ?_
    refine lv_iload_n hx hb dX5_adapt_18 rfl (lv_at hl 0 rfl) ?_
    refine lv_aload_n hx hb dX5_adapt_19 rfl (lv_at hl 1 rfl) ?_
    refine va_get (D := G) (ci := 5) (v := .int P.1) (C := RX5) (T := TX5) (N := 3) hx hb hts iX5_adapt_X5 hown hK hP 0 rfl rfl 0 (by decide) (hts _ mX5_adapt_1) (fun _ h9 => h9) rfl dX5_adapt_20 ?_
    refine lv_isub hx hb dX5_adapt_23 ?_
    refine lv_bipush (v := 8) hx hb dX5_adapt_24 (by decide) ?_
    refine lv_idiv hx hb dX5_adapt_26 (by decide) ?_
    refine lv_iadd hx hb dX5_adapt_27 ?_
    refine va_put (D := G) (ci := 5) (v := .int (P.1 + (((16 * a) - P.1) / 8))) (ty := .int) (C := RX5) (T := TX5) (N := 3) hx hb hts iX5_adapt_X5 tyX5 tyX5_ok nmX5 hown hK hP hD hS 0 rfl rfl 0 (by decide) (hts _ mX5_adapt_1) (fun _ h9 => h9) rfl (by decide +kernel) rfl rfl (Nat.le_of_ble_eq_true rfl) dX5_adapt_28 (fun H locs hP hD hS => ?_)
    have hP : va_P G vwCl [(h0, .inr (5, [.int (P.1 + (((16 * a) - P.1) / 8)), .int P.2.1, .int P.2.2]))] H := hP
    have hD : va_D A [(h0, .inr (5, [.int (P.1 + (((16 * a) - P.1) / 8)), .int P.2.1, .int P.2.2]))] := hD
    refine lv_goto (tgt := 52) hx hb dX5_adapt_31 (by decide) ?_
    exact zz_rv (((P.1 + (((16 * a) - P.1) / 8)), P.2.1, P.2.2) : tPa) hx hb hr hlocks hS hP hD (by first | rfl | (simp [k_adapt, c_1])) dX5_adapt_52
theorem iX5_approach_X5 : ∀ w ∈ u_ws RX5 TX5 3, w ∈ wsX5_approach := by decide +kernel
theorem mX5_approach_1 : Cond.fieldLink RX5 11 "ChamberPacer$Pace" "level" "I" ∈ wsX5_approach := by decide +kernel
theorem mX5_approach_2 : Cond.fieldLink RX5 15 "ChamberPacer$Pace" "interval" "I" ∈ wsX5_approach := by decide +kernel
theorem mX5_approach_4 : Cond.initialized RX8 ∈ wsX5_approach := by decide +kernel
theorem mX5_approach_3 : Cond.static yX8_nearest ∈ wsX5_approach := by decide +kernel
abbrev rmX5_approach : Room := { frames := 1, cells := 0, slots := 0, locals := 22 }
abbrev QfX5_approach (G : va_G) (cA cB : ClassId) (h0 : Nat) (P : tPa) (lo : Int32) (fa : Int32) : (Nat → Prop) → Array Value → State → Outcome → State → Prop := fun A => va_Qv (fun u : tPa => u = k_appr lo fa P) (zz_B G vwCl (fun u : tPa => (wPa h0 cA cB u)) A) A
set_option maxHeartbeats 4000000 in
set_option maxRecDepth 100000 in
theorem kX5_approach (l : Launch) (G : va_G) (cA cB : ClassId) (tb : Nat × Nat × Nat) (h0 : Nat) (sz : Nat) (P : tPa) (lo : Int32) (fa : Int32) : Met l yX5_approach wsX5_approach rmX5_approach (zz_P (zS tb) G vwCl [(cA, .int), (cB, .boolean)] [.ref h0, .int lo, .int fa] (wPa h0 cA cB P) sz) (QfX5_approach G cA cB h0 P lo fa (va_A (wPa h0 cA cB P) sz)) 0 0 (va_A (wPa h0 cA cB P) sz) := by
  refine zz_Met (cc := cX5_approach) (maxL := 4) (ret := none) (Qf := QfX5_approach G cA cB h0 P lo fa) (by decide) rfl (Nat.le_of_ble_eq_true rfl) ?_
  intro p e s m below meth c A ls hx hb hr hts hown hlocks hin hml hA hP hK hD hz hS hl
  have hl : lv_has ls 4 [(0, .ref h0), (1, .int lo), (2, .int fa)] := hl
  have hP : va_P G vwCl [(h0, .inr (5, [.int P.1, .int P.2.1, .int P.2.2]))] s.heap := hP
  have hD : va_D A [(h0, .inr (5, [.int P.1, .int P.2.1, .int P.2.2]))] := hD
  refine lv_iload_n hx hb dX5_approach_0 rfl (lv_at hl 1 rfl) ?_
  refine lv_iload_n hx hb dX5_approach_1 rfl (lv_at hl 1 rfl) ?_
  refine lv_iload_n hx hb dX5_approach_2 rfl (lv_at hl 2 rfl) ?_
  refine lv_isub hx hb dX5_approach_3 ?_
  refine lv_aload_n hx hb dX5_approach_4 rfl (lv_at hl 0 rfl) ?_
  refine va_get (D := G) (ci := 5) (v := .int P.1) (C := RX5) (T := TX5) (N := 3) hx hb hts iX5_approach_X5 hown hK hP 0 rfl rfl 0 (by decide) (hts _ mX5_approach_1) (fun _ h9 => h9) rfl dX5_approach_5 ?_
  refine lv_imul hx hb dX5_approach_8 ?_
  refine lv_sipush (v := 4080) hx hb dX5_approach_9 (by decide) ?_
  refine lv_idiv hx hb dX5_approach_12 (by decide) ?_
  refine lv_isub hx hb dX5_approach_13 ?_
  refine lv_istore_n (lv' := [(3, .int (lo - (((lo - fa) * P.1) / 4080))), (0, .ref h0), (1, .int lo), (2, .int fa)]) hx hb dX5_approach_14 rfl hl (by decide) rfl (fun ls hl => ?_)
  refine lv_aload_n hx hb dX5_approach_15 rfl (lv_at hl 1 rfl) ?_
  refine lv_dup hx hb dX5_approach_16 rfl ?_
  refine va_get (D := G) (ci := 5) (v := .int P.2.1) (C := RX5) (T := TX5) (N := 3) hx hb hts iX5_approach_X5 hown hK hP 0 rfl rfl 1 (by decide) (hts _ mX5_approach_2) (fun _ h9 => h9) rfl dX5_approach_17 ?_
  refine lv_iload_n hx hb dX5_approach_20 rfl (lv_at hl 0 rfl) ?_
  refine lv_aload_n hx hb dX5_approach_21 rfl (lv_at hl 1 rfl) ?_
  refine va_get (D := G) (ci := 5) (v := .int P.2.1) (C := RX5) (T := TX5) (N := 3) hx hb hts iX5_approach_X5 hown hK hP 0 rfl rfl 1 (by decide) (hts _ mX5_approach_2) (fun _ h9 => h9) rfl dX5_approach_22 ?_
  refine lv_isub hx hb dX5_approach_25 ?_
  refine lv_bipush (v := (-4)) hx hb dX5_approach_26 (by decide) ?_
  refine lv_iconst (v := 4) hx hb dX5_approach_28 (by decide) ?_
  refine zz_ci (va_runSN (As := [.int ((lo - (((lo - fa) * P.1) / 4080)) - P.2.1), .int (-4), .int 4]) (rest := [.int P.2.1, .ref h0]) ⟨hx, hb, hml, hown, hts⟩ (kX8_nearest l G cA cB tb s.heap.size ((lo - (((lo - fa) * P.1) / 4080)) - P.2.1) (-4) 4) ⟨va_cnB 3 hts gX5_approach_X8_nearest_n21 rfl rfl rfl hz.2.2.2.2.2.2.2.1 (hts _ mX5_approach_4) (by decide +kernel) ⟨Nat.le_of_ble_eq_true rfl, Nat.le_of_ble_eq_true rfl⟩, (hts _ mX5_approach_3), trivial⟩ (zz_preS zS_ok hK hP hD hS hA hz [] rfl (by decide)) rfl rfl hl.1 rfl (lv_room (Nat.le_of_ble_eq_true rfl)) dX5_approach_29 ⟨Nat.zero_le _, Nat.zero_le _⟩) hP hD hS hA [] [0] rfl rfl (by decide) (by decide) (fun r u H locs hw hP hD hS => ?_)
  subst hw
  have hP : va_P G vwCl [(h0, .inr (5, [.int P.1, .int P.2.1, .int P.2.2]))] H := hP
  have hD : va_D A [(h0, .inr (5, [.int P.1, .int P.2.1, .int P.2.2]))] := hD
  refine lv_iadd hx hb dX5_approach_32 ?_
  refine va_put (D := G) (ci := 5) (v := .int (P.2.1 + (k_near ((lo - (((lo - fa) * P.1) / 4080)) - P.2.1) (-4) 4))) (ty := .int) (C := RX5) (T := TX5) (N := 3) hx hb hts iX5_approach_X5 tyX5 tyX5_ok nmX5 hown hK hP hD hS 0 rfl rfl 1 (by decide) (hts _ mX5_approach_2) (fun _ h9 => h9) rfl (by decide +kernel) rfl rfl (Nat.le_of_ble_eq_true rfl) dX5_approach_33 (fun H locs hP hD hS => ?_)
  have hP : va_P G vwCl [(h0, .inr (5, [.int P.1, .int (P.2.1 + (k_near ((lo - (((lo - fa) * P.1) / 4080)) - P.2.1) (-4) 4)), .int P.2.2]))] H := hP
  have hD : va_D A [(h0, .inr (5, [.int P.1, .int (P.2.1 + (k_near ((lo - (((lo - fa) * P.1) / 4080)) - P.2.1) (-4) 4)), .int P.2.2]))] := hD
  exact zz_rv ((P.1, (P.2.1 + (k_near ((lo - (((lo - fa) * P.1) / 4080)) - P.2.1) (-4) 4)), P.2.2) : tPa) hx hb hr hlocks hS hP hD (by first | rfl | (simp [])) dX5_approach_36
theorem iX5_beginCycle_X5 : ∀ w ∈ u_ws RX5 TX5 3, w ∈ wsX5_beginCycle := by decide +kernel
theorem mX5_beginCycle_6 : Cond.fieldLink RX5 18 "ChamberPacer$Pace" "longest" "I" ∈ wsX5_beginCycle := by decide +kernel
theorem mX5_beginCycle_1 : Cond.fieldLink RX5 15 "ChamberPacer$Pace" "interval" "I" ∈ wsX5_beginCycle := by decide +kernel
theorem mX5_beginCycle_2 : Cond.methodLink RX5 25 Lib.Math.min.name ∈ wsX5_beginCycle := by decide +kernel
theorem mX5_beginCycle_3 : Cond.static Lib.Math.min.name ∈ wsX5_beginCycle := by decide +kernel
theorem mX5_beginCycle_4 : Cond.initialized "java/lang/Math" ∈ wsX5_beginCycle := by decide +kernel
theorem mX5_beginCycle_5 : Cond.code Lib.Math.min.name Lib.Math.min.code 2 (some .int) ∈ wsX5_beginCycle := by decide +kernel
abbrev rmX5_beginCycle : Room := { frames := 1, cells := 0, slots := 0, locals := 14 }
abbrev QfX5_beginCycle (G : va_G) (cA cB : ClassId) (h0 : Nat) (P : tPa) (sl : Int32) (b : Bool) : (Nat → Prop) → Array Value → State → Outcome → State → Prop := fun A => va_Qv (fun u : tPa => u = k_begin sl b P) (zz_B G vwCl (fun u : tPa => (wPa h0 cA cB u)) A) A
set_option maxHeartbeats 4000000 in
set_option maxRecDepth 100000 in
theorem kX5_beginCycle (l : Launch) (G : va_G) (cA cB : ClassId) (tb : Nat × Nat × Nat) (h0 : Nat) (sz : Nat) (P : tPa) (sl : Int32) (b : Bool) : Met l yX5_beginCycle wsX5_beginCycle rmX5_beginCycle (zz_P (zS tb) G vwCl [(cA, .int), (cB, .boolean)] [.ref h0, .int sl, .int (bI b)] (wPa h0 cA cB P) sz) (QfX5_beginCycle G cA cB h0 P sl b (va_A (wPa h0 cA cB P) sz)) 0 0 (va_A (wPa h0 cA cB P) sz) := by
  cases b
  · refine zz_Met (cc := cX5_beginCycle) (maxL := 3) (ret := none) (Qf := QfX5_beginCycle G cA cB h0 P sl false) (by decide) rfl (Nat.le_of_ble_eq_true rfl) ?_
    intro p e s m below meth c A ls hx hb hr hts hown hlocks hin hml hA hP hK hD hz hS hl
    have hl : lv_has ls 3 [(0, .ref h0), (1, .int sl), (2, .int (bI false))] := hl
    have hP : va_P G vwCl [(h0, .inr (5, [.int P.1, .int P.2.1, .int P.2.2]))] s.heap := hP
    have hD : va_D A [(h0, .inr (5, [.int P.1, .int P.2.1, .int P.2.2]))] := hD
    refine lv_aload_n hx hb dX5_beginCycle_0 rfl (lv_at hl 0 rfl) ?_
    refine lv_iload_n hx hb dX5_beginCycle_1 rfl (lv_at hl 2 rfl) ?_
    refine lv_if_eq (tgt := 16) hx hb dX5_beginCycle_2 (by decide) (fun _ => ?_) (fun c => absurd (by decide) c)
    refine lv_iload_n hx hb dX5_beginCycle_16 rfl (lv_at hl 1 rfl) ?_
    refine va_put (D := G) (ci := 5) (v := .int sl) (ty := .int) (C := RX5) (T := TX5) (N := 3) hx hb hts iX5_beginCycle_X5 tyX5 tyX5_ok nmX5 hown hK hP hD hS 0 rfl rfl 2 (by decide) (hts _ mX5_beginCycle_6) (fun _ h9 => h9) rfl (by decide +kernel) rfl rfl (Nat.le_of_ble_eq_true rfl) dX5_beginCycle_17 (fun H locs hP hD hS => ?_)
    have hP : va_P G vwCl [(h0, .inr (5, [.int P.1, .int P.2.1, .int sl]))] H := hP
    have hD : va_D A [(h0, .inr (5, [.int P.1, .int P.2.1, .int sl]))] := hD
    exact zz_rv ((P.1, P.2.1, sl) : tPa) hx hb hr hlocks hS hP hD (by first | rfl | (simp [])) dX5_beginCycle_20
  · refine zz_Met (cc := cX5_beginCycle) (maxL := 3) (ret := none) (Qf := QfX5_beginCycle G cA cB h0 P sl true) (by decide) rfl (Nat.le_of_ble_eq_true rfl) ?_
    intro p e s m below meth c A ls hx hb hr hts hown hlocks hin hml hA hP hK hD hz hS hl
    have hl : lv_has ls 3 [(0, .ref h0), (1, .int sl), (2, .int (bI true))] := hl
    have hP : va_P G vwCl [(h0, .inr (5, [.int P.1, .int P.2.1, .int P.2.2]))] s.heap := hP
    have hD : va_D A [(h0, .inr (5, [.int P.1, .int P.2.1, .int P.2.2]))] := hD
    refine lv_aload_n hx hb dX5_beginCycle_0 rfl (lv_at hl 0 rfl) ?_
    refine lv_iload_n hx hb dX5_beginCycle_1 rfl (lv_at hl 2 rfl) ?_
    refine lv_if_eq (tgt := 16) hx hb dX5_beginCycle_2 (by decide) (fun c => absurd c (by decide)) (fun _ => ?_)
    refine lv_iload_n hx hb dX5_beginCycle_5 rfl (lv_at hl 1 rfl) ?_
    refine lv_aload_n hx hb dX5_beginCycle_6 rfl (lv_at hl 0 rfl) ?_
    refine va_get (D := G) (ci := 5) (v := .int P.2.1) (C := RX5) (T := TX5) (N := 3) hx hb hts iX5_beginCycle_X5 hown hK hP 0 rfl rfl 1 (by decide) (hts _ mX5_beginCycle_1) (fun _ h9 => h9) rfl dX5_beginCycle_7 ?_
    refine va_mmin hx hb (hml.trans hl.1.symm) hown (hts _ mX5_beginCycle_2) (hts _ mX5_beginCycle_3) (hts _ mX5_beginCycle_4) (hts _ mX5_beginCycle_5) (by decide) (by decide) (Nat.zero_le _) (Nat.zero_le _) dX5_beginCycle_10 ?_
    refine lv_goto (tgt := 17) hx hb dX5_beginCycle_13 (by decide) ?_
    refine va_put (D := G) (ci := 5) (v := .int (if P.2.1 < sl then P.2.1 else sl)) (ty := .int) (C := RX5) (T := TX5) (N := 3) hx hb hts iX5_beginCycle_X5 tyX5 tyX5_ok nmX5 hown hK hP hD hS 0 rfl rfl 2 (by decide) (hts _ mX5_beginCycle_6) (fun _ h9 => h9) rfl (by decide +kernel) rfl rfl (Nat.le_of_ble_eq_true rfl) dX5_beginCycle_17 (fun H locs hP hD hS => ?_)
    have hP : va_P G vwCl [(h0, .inr (5, [.int P.1, .int P.2.1, .int (if P.2.1 < sl then P.2.1 else sl)]))] H := hP
    have hD : va_D A [(h0, .inr (5, [.int P.1, .int P.2.1, .int (if P.2.1 < sl then P.2.1 else sl)]))] := hD
    exact zz_rv ((P.1, P.2.1, (if P.2.1 < sl then P.2.1 else sl)) : tPa) hx hb hr hlocks hS hP hD (by first | rfl | (simp [])) dX5_beginCycle_20
theorem iX1_end_X1 : ∀ w ∈ u_ws RX1 TX1 2, w ∈ wsX1_end := by decide +kernel
theorem mX1_end_1 : Cond.fieldLink RX1 11 "ChamberPacer$Cycles" "bins" "[I" ∈ wsX1_end := by decide +kernel
theorem mX1_end_2 : Cond.fieldLink RX1 15 "ChamberPacer$Cycles" "begun" "I" ∈ wsX1_end := by decide +kernel
theorem mX1_end_4 : Cond.initialized RX8 ∈ wsX1_end := by decide +kernel
theorem mX1_end_3 : Cond.static yX8_nearest ∈ wsX1_end := by decide +kernel
abbrev rmX1_end : Room := { frames := 1, cells := 0, slots := 0, locals := 22 }
abbrev QfX1_end (G : va_G) (cA cB : ClassId) (h0 h1 : Nat) (Y : tCy) (t : Int32) : (Nat → Prop) → Array Value → State → Outcome → State → Prop := fun A => va_Qv (fun u : tCy => u = k_end t Y) (zz_B G vwCl (fun u : tCy => (wCy h0 h1 cA cB u)) A) A
set_option maxHeartbeats 4000000 in
set_option maxRecDepth 100000 in
theorem kX1_end (l : Launch) (G : va_G) (cA cB : ClassId) (tb : Nat × Nat × Nat) (h0 h1 : Nat) (sz : Nat) (Y : tCy) (t : Int32) : Met l yX1_end wsX1_end rmX1_end (zz_P (zS tb) G vwCl [(cA, .int), (cB, .boolean)] [.ref h0, .int t] (wCy h0 h1 cA cB Y) sz) (QfX1_end G cA cB h0 h1 Y t (va_A (wCy h0 h1 cA cB Y) sz)) 0 0 (va_A (wCy h0 h1 cA cB Y) sz) := by
  refine zz_Met (cc := cX1_end) (maxL := 2) (ret := none) (Qf := QfX1_end G cA cB h0 h1 Y t) (by decide) rfl (Nat.le_of_ble_eq_true rfl) ?_
  intro p e s m below meth c A ls hx hb hr hts hown hlocks hin hml hA hP hK hD hz hS hl
  have hl : lv_has ls 2 [(0, .ref h0), (1, .int t)] := hl
  have hP : va_P G vwCl [(h0, .inr (1, [.ref h1, .int Y.2])), (h1, .inl (cA, 8, .inl Y.1))] s.heap := hP
  have hD : va_D A [(h0, .inr (1, [.ref h1, .int Y.2])), (h1, .inl (cA, 8, .inl Y.1))] := hD
  refine lv_aload_n hx hb dX1_end_0 rfl (lv_at hl 0 rfl) ?_
  refine va_get (D := G) (ci := 1) (v := .ref h1) (C := RX1) (T := TX1) (N := 2) hx hb hts iX1_end_X1 hown hK hP 0 rfl rfl 0 (by decide) (hts _ mX1_end_1) (fun _ h9 => h9) rfl dX1_end_1 ?_
  refine lv_iload_n hx hb dX1_end_4 rfl (lv_at hl 1 rfl) ?_
  refine lv_aload_n hx hb dX1_end_5 rfl (lv_at hl 0 rfl) ?_
  refine va_get (D := G) (ci := 1) (v := .int Y.2) (C := RX1) (T := TX1) (N := 2) hx hb hts iX1_end_X1 hown hK hP 0 rfl rfl 1 (by decide) (hts _ mX1_end_2) (fun _ h9 => h9) rfl dX1_end_6 ?_
  refine lv_isub hx hb dX1_end_9 ?_
  refine lv_bipush (v := 25) hx hb dX1_end_10 (by decide) ?_
  refine lv_idiv hx hb dX1_end_12 (by decide) ?_
  refine lv_iconst (v := 0) hx hb dX1_end_13 (by decide) ?_
  refine lv_bipush (v := 7) hx hb dX1_end_14 (by decide) ?_
  refine zz_ci (va_runSN (As := [.int ((t - Y.2) / 25), .int 0, .int 7]) (rest := [.ref h1]) ⟨hx, hb, hml, hown, hts⟩ (kX8_nearest l G cA cB tb s.heap.size ((t - Y.2) / 25) 0 7) ⟨va_cnB 3 hts gX1_end_X8_nearest_n19 rfl rfl rfl hz.2.2.2.2.2.2.1 (hts _ mX1_end_4) (by decide +kernel) ⟨Nat.le_of_ble_eq_true rfl, Nat.le_of_ble_eq_true rfl⟩, (hts _ mX1_end_3), trivial⟩ (zz_preS zS_ok hK hP hD hS hA hz [] rfl (by decide)) rfl rfl hl.1 rfl (lv_room (Nat.le_of_ble_eq_true rfl)) dX1_end_16 ⟨Nat.zero_le _, Nat.zero_le _⟩) hP hD hS hA [] [0, 1] rfl rfl (by decide) (by decide) (fun r u H locs hw hP hD hS => ?_)
  subst hw
  have hP : va_P G vwCl [(h0, .inr (1, [.ref h1, .int Y.2])), (h1, .inl (cA, 8, .inl Y.1))] H := hP
  have hD : va_D A [(h0, .inr (1, [.ref h1, .int Y.2])), (h1, .inl (cA, 8, .inl Y.1))] := hD
  refine lv_dup2_11 hx hb dX1_end_19 rfl rfl ?_
  refine va_iald hx hb hK hP 1 0 rfl rfl (vp_near7 _) dX1_end_20 ?_
  refine lv_iconst (v := 1) hx hb dX1_end_21 (by decide) ?_
  refine lv_iadd hx hb dX1_end_22 ?_
  refine va_iast hx hb hK hP hD hS 1 0 rfl rfl (vp_near7 _) dX1_end_23 (fun H locs hP hD hS => ?_)
  have hP : va_P G vwCl [(h0, .inr (1, [.ref h1, .int Y.2])), (h1, .inl (cA, 8, .inl (upd Y.1 ((k_near ((t - Y.2) / 25) 0 7).toNatClampNeg) ((Y.1 (k_near ((t - Y.2) / 25) 0 7).toNatClampNeg) + 1))))] H := hP
  have hD : va_D A [(h0, .inr (1, [.ref h1, .int Y.2])), (h1, .inl (cA, 8, .inl (upd Y.1 ((k_near ((t - Y.2) / 25) 0 7).toNatClampNeg) ((Y.1 (k_near ((t - Y.2) / 25) 0 7).toNatClampNeg) + 1))))] := hD
  refine lv_aload_n hx hb dX1_end_24 rfl (lv_at hl 0 rfl) ?_
  refine lv_iload_n hx hb dX1_end_25 rfl (lv_at hl 1 rfl) ?_
  refine va_put (D := G) (ci := 1) (v := .int t) (ty := .int) (C := RX1) (T := TX1) (N := 2) hx hb hts iX1_end_X1 tyX1 tyX1_ok nmX1 hown hK hP hD hS 0 rfl rfl 1 (by decide) (hts _ mX1_end_2) (fun _ h9 => h9) rfl (by decide +kernel) rfl rfl (Nat.le_of_ble_eq_true rfl) dX1_end_26 (fun H locs hP hD hS => ?_)
  have hP : va_P G vwCl [(h0, .inr (1, [.ref h1, .int t])), (h1, .inl (cA, 8, .inl (upd Y.1 ((k_near ((t - Y.2) / 25) 0 7).toNatClampNeg) ((Y.1 (k_near ((t - Y.2) / 25) 0 7).toNatClampNeg) + 1))))] H := hP
  have hD : va_D A [(h0, .inr (1, [.ref h1, .int t])), (h1, .inl (cA, 8, .inl (upd Y.1 ((k_near ((t - Y.2) / 25) 0 7).toNatClampNeg) ((Y.1 (k_near ((t - Y.2) / 25) 0 7).toNatClampNeg) + 1))))] := hD
  exact zz_rv (((upd Y.1 ((k_near ((t - Y.2) / 25) 0 7).toNatClampNeg) ((Y.1 (k_near ((t - Y.2) / 25) 0 7).toNatClampNeg) + 1)), t) : tCy) hx hb hr hlocks hS hP hD (by first | rfl | (simp [])) dX1_end_29
theorem iX1_inBin_X1 : ∀ w ∈ u_ws RX1 TX1 2, w ∈ wsX1_inBin := by decide +kernel
theorem mX1_inBin_1 : Cond.fieldLink RX1 11 "ChamberPacer$Cycles" "bins" "[I" ∈ wsX1_inBin := by decide +kernel
abbrev rmX1_inBin : Room := { frames := 0, cells := 0, slots := 0, locals := 0 }
abbrev QfX1_inBin (G : va_G) (cA cB : ClassId) (h0 h1 : Nat) (Y : tCy) (b : Int32) : (Nat → Prop) → Array Value → State → Outcome → State → Prop := fun A => va_Qi (fun (r : Int32) (u : Unit) => r = k_inBin Y b) (zz_B G vwCl (fun _ : Unit => (wCy h0 h1 cA cB Y)) A) A
set_option maxHeartbeats 4000000 in
set_option maxRecDepth 100000 in
theorem kX1_inBin (l : Launch) (G : va_G) (cA cB : ClassId) (tb : Nat × Nat × Nat) (h0 h1 : Nat) (sz : Nat) (Y : tCy) (b : Int32) : Met l yX1_inBin wsX1_inBin rmX1_inBin (zz_P (zS tb) G vwCl [(cA, .int), (cB, .boolean)] [.ref h0, .int b] (wCy h0 h1 cA cB Y) sz) (QfX1_inBin G cA cB h0 h1 Y b (va_A (wCy h0 h1 cA cB Y) sz)) 0 0 (va_A (wCy h0 h1 cA cB Y) sz) := by
  refine zz_Met (cc := cX1_inBin) (maxL := 2) (ret := (some .int)) (Qf := QfX1_inBin G cA cB h0 h1 Y b) (by decide) rfl (Nat.le_of_ble_eq_true rfl) ?_
  intro p e s m below meth c A ls hx hb hr hts hown hlocks hin hml hA hP hK hD hz hS hl
  have hl : lv_has ls 2 [(0, .ref h0), (1, .int b)] := hl
  have hP : va_P G vwCl [(h0, .inr (1, [.ref h1, .int Y.2])), (h1, .inl (cA, 8, .inl Y.1))] s.heap := hP
  have hD : va_D A [(h0, .inr (1, [.ref h1, .int Y.2])), (h1, .inl (cA, 8, .inl Y.1))] := hD
  refine lv_iload_n hx hb dX1_inBin_0 rfl (lv_at hl 1 rfl) ?_
  refine lv_if_lt (tgt := 19) hx hb dX1_inBin_1 (by decide) (fun c_1 => ?_) (fun c_1 => ?_)
  · refine lv_iconst (v := (-1)) hx hb dX1_inBin_19 (by decide) ?_
    exact zz_ri (v := (-1)) () hx hb hr hlocks hS hP hD (by first | rfl | (simp [k_inBin, c_1])) dX1_inBin_20
  · refine lv_iload_n hx hb dX1_inBin_4 rfl (lv_at hl 1 rfl) ?_
    refine lv_bipush (v := 8) hx hb dX1_inBin_5 (by decide) ?_
    refine lv_icmp_ge (tgt := 19) hx hb dX1_inBin_7 (by decide) (fun c_2 => ?_) (fun c_2 => ?_)
    · refine lv_iconst (v := (-1)) hx hb dX1_inBin_19 (by decide) ?_
      exact zz_ri (v := (-1)) () hx hb hr hlocks hS hP hD (by first | rfl | (simp [k_inBin, c_1, c_2])) dX1_inBin_20
    · refine lv_aload_n hx hb dX1_inBin_10 rfl (lv_at hl 0 rfl) ?_
      refine va_get (D := G) (ci := 1) (v := .ref h1) (C := RX1) (T := TX1) (N := 2) hx hb hts iX1_inBin_X1 hown hK hP 0 rfl rfl 0 (by decide) (hts _ mX1_inBin_1) (fun _ h9 => h9) rfl dX1_inBin_11 ?_
      refine lv_iload_n hx hb dX1_inBin_14 rfl (lv_at hl 1 rfl) ?_
      refine va_iald hx hb hK hP 1 0 rfl rfl (vp_of (m := 8) (by decide) c_1 c_2) dX1_inBin_15 ?_
      refine lv_goto (tgt := 20) hx hb dX1_inBin_16 (by decide) ?_
      exact zz_ri (v := (Y.1 b.toNatClampNeg)) () hx hb hr hlocks hS hP hD (by first | rfl | (simp [k_inBin, c_1, c_2])) dX1_inBin_20
end


theorem k_top {p : Program} {l : Launch} {e : Env} {R : Room} {s : State} {m : MethodId} {args : Array Value} {below : List Frame} {meth : Method} {c : Code} {H : Heap} {locs : List Loc} {cells slots : Nat} {Q : State → Prop} {pc : Nat} {ls : Array Slot} {rest : List Value} {x y : Int32} (h : x = y) (k : W p l e R s m args below meth c H locs cells slots Q (F0 m pc ls (.int y :: rest))) : W p l e R s m args below meth c H locs cells slots Q (F0 m pc ls (.int x :: rest)) := h ▸ k
theorem vin {i : Int32} {n : Nat} (h : ¬ (i < 0 ∨ n ≤ i.toNatClampNeg)) : vp_in i n := h
theorem ite0 {b : Bool} (h : (if b = true then (1 : Int32) else 0) = 0) : b = false := by cases b <;> simp_all
theorem ite1 {b : Bool} (h : ¬ (if b = true then (1 : Int32) else 0) = 0) : b = true := by cases b <;> simp_all
theorem nar_ite (b : Bool) : narrow .boolean (.int (if b = true then (1 : Int32) else 0)) = .int (if b = true then (1 : Int32) else 0) := by cases b <;> rfl
def inB (a lo hi : Int32) : Bool := decide (lo ≤ a) && decide (a ≤ hi)
theorem inB_t {a lo hi : Int32} (h1 : ¬ a < lo) (h2 : ¬ hi < a) : inB a lo hi = true := by
  simp [inB, Int32.not_lt.mp h1, Int32.not_lt.mp h2]
theorem inB_f1 {a lo hi : Int32} (h : a < lo) : inB a lo hi = false := by
  have : ¬ lo ≤ a := Int32.not_le.mpr h
  simp [inB, this]
theorem inB_f2 {a lo hi : Int32} (h : hi < a) : inB a lo hi = false := by
  have : ¬ a ≤ hi := Int32.not_le.mpr h
  simp [inB, this]
theorem inB_neg (a : Int32) : inB a 0 (-1) = false := by
  cases h : inB a 0 (-1)
  · rfl
  · simp only [inB, Bool.and_eq_true, decide_eq_true_eq, Int32.le_iff_toInt_le] at h
    have e1 : (0 : Int32).toInt = 0 := by decide
    have e2 : (-1 : Int32).toInt = -1 := by decide
    rw [e1, e2] at h
    omega
theorem inB_int {x lo hi : Int32} (h : inB x lo hi = true) : lo.toInt ≤ x.toInt ∧ x.toInt ≤ hi.toInt := by
  simpa only [inB, Bool.and_eq_true, decide_eq_true_eq, Int32.le_iff_toInt_le] using h
theorem vinB {x lo hi : Int32} {n : Nat} (h : inB x lo hi = true) (h1 : 0 ≤ lo.toInt) (h2 : hi.toInt < n) : vp_in x n := by
  have := inB_int h
  exact vp_in_iff.mpr ⟨by omega, by omega⟩
theorem inB_nat {x lo hi : Int32} {a b : Nat} (h : inB x lo hi = true) (h1 : lo.toInt = a) (h2 : hi.toInt = b) : ∃ j : Nat, a ≤ j ∧ j ≤ b ∧ x = nI j := by
  have t := inB_int h
  have hb : b < 2 ^ 31 := by have := Int32.toInt_lt hi; omega
  refine ⟨x.toInt.toNat, by omega, by omega, ?_⟩
  apply Int32.toInt_inj.mp
  rw [nI_toInt (by omega)]
  omega

theorem nf_X10_97 : (RX10, 97, "LuteFingers$Lute", "courses", "I", "LuteFingers") ∈ nF := List.mem_of_getElem? (i := 0) rfl
theorem nf_X7_45 : (RX7, 45, "LuteFingers$Lute", "courses", "I", "LuteFingers") ∈ nF := List.mem_of_getElem? (i := 1) rfl
theorem nf_X3_69 : (RX3, 69, "LuteFingers$Lute", "courses", "I", "LuteFingers") ∈ nF := List.mem_of_getElem? (i := 2) rfl
theorem nf_X10_121 : (RX10, 121, "LuteFingers$Lute", "barsMay", "Z", "LuteFingers") ∈ nF := List.mem_of_getElem? (i := 3) rfl
theorem nf_X3_121 : (RX3, 121, "LuteFingers$Lute", "barsMay", "Z", "LuteFingers") ∈ nF := List.mem_of_getElem? (i := 4) rfl
theorem nf_X10_111 : (RX10, 111, "LuteFingers$Lute", "tunes", "[I", "LuteFingers") ∈ nF := List.mem_of_getElem? (i := 5) rfl
theorem nf_X7_80 : (RX7, 80, "LuteFingers$Lute", "tunes", "[I", "LuteFingers") ∈ nF := List.mem_of_getElem? (i := 6) rfl
theorem nf_X7_73 : (RX7, 73, "LuteFingers$Lute", "frets", "[I", "LuteFingers") ∈ nF := List.mem_of_getElem? (i := 7) rfl
theorem nf_X10_118 : (RX10, 118, "LuteFingers$Lute", "slacks", "[I", "LuteFingers") ∈ nF := List.mem_of_getElem? (i := 8) rfl
theorem nf_X10_124 : (RX10, 124, "LuteFingers$Lute", "weights", "[I", "LuteFingers") ∈ nF := List.mem_of_getElem? (i := 9) rfl
theorem nf_X3_137 : (RX3, 137, "LuteFingers$Lute", "weights", "[I", "LuteFingers") ∈ nF := List.mem_of_getElem? (i := 10) rfl
theorem nf_X10_277 : (RX10, 277, "LuteFingers$Lute", "tunings", "[I", "LuteFingers") ∈ nF := List.mem_of_getElem? (i := 11) rfl
theorem nf_X0_46 : (RX0, 46, "LuteFingers$Piece", "ticks", "I", "LuteFingers") ∈ nF := List.mem_of_getElem? (i := 12) rfl
theorem nf_X9_40 : (RX9, 40, "LuteFingers$Piece", "ticks", "I", "LuteFingers") ∈ nF := List.mem_of_getElem? (i := 13) rfl
theorem nf_X10_94 : (RX10, 94, "LuteFingers$Piece", "ticks", "I", "LuteFingers") ∈ nF := List.mem_of_getElem? (i := 14) rfl
theorem nf_X7_61 : (RX7, 61, "LuteFingers$Piece", "ticks", "I", "LuteFingers") ∈ nF := List.mem_of_getElem? (i := 15) rfl
theorem nf_X2_48 : (RX2, 48, "LuteFingers$Piece", "ticks", "I", "LuteFingers") ∈ nF := List.mem_of_getElem? (i := 16) rfl
theorem nf_X3_52 : (RX3, 52, "LuteFingers$Piece", "sizes", "[I", "LuteFingers") ∈ nF := List.mem_of_getElem? (i := 17) rfl
theorem nf_X7_57 : (RX7, 57, "LuteFingers$Piece", "sizes", "[I", "LuteFingers") ∈ nF := List.mem_of_getElem? (i := 18) rfl
theorem nf_X0_91 : (RX0, 91, "LuteFingers$Piece", "sizes", "[I", "LuteFingers") ∈ nF := List.mem_of_getElem? (i := 19) rfl
theorem nf_X10_136 : (RX10, 136, "LuteFingers$Piece", "sizes", "[I", "LuteFingers") ∈ nF := List.mem_of_getElem? (i := 20) rfl
theorem nf_X3_73 : (RX3, 73, "LuteFingers$Piece", "pitches", "[I", "LuteFingers") ∈ nF := List.mem_of_getElem? (i := 21) rfl
theorem nf_X7_91 : (RX7, 91, "LuteFingers$Piece", "pitches", "[I", "LuteFingers") ∈ nF := List.mem_of_getElem? (i := 22) rfl
theorem nf_X10_166 : (RX10, 166, "LuteFingers$Piece", "pitches", "[I", "LuteFingers") ∈ nF := List.mem_of_getElem? (i := 23) rfl
theorem nf_X3_79 : (RX3, 79, "LuteFingers$Piece", "kinds", "[I", "LuteFingers") ∈ nF := List.mem_of_getElem? (i := 24) rfl
theorem nf_X10_169 : (RX10, 169, "LuteFingers$Piece", "kinds", "[I", "LuteFingers") ∈ nF := List.mem_of_getElem? (i := 25) rfl
theorem nf_X0_92 : (RX0, 92, "LuteFingers$Piece", "prices", "[I", "LuteFingers") ∈ nF := List.mem_of_getElem? (i := 26) rfl
theorem nf_X10_172 : (RX10, 172, "LuteFingers$Piece", "prices", "[I", "LuteFingers") ∈ nF := List.mem_of_getElem? (i := 27) rfl
theorem nf_X10_175 : (RX10, 175, "LuteFingers$Piece", "fores", "[I", "LuteFingers") ∈ nF := List.mem_of_getElem? (i := 28) rfl
theorem nf_X3_82 : (RX3, 82, "LuteFingers$Piece", "fixed", "[I", "LuteFingers") ∈ nF := List.mem_of_getElem? (i := 29) rfl
theorem nf_X7_94 : (RX7, 94, "LuteFingers$Piece", "fixed", "[I", "LuteFingers") ∈ nF := List.mem_of_getElem? (i := 30) rfl
theorem nf_X10_163 : (RX10, 163, "LuteFingers$Piece", "fixed", "[I", "LuteFingers") ∈ nF := List.mem_of_getElem? (i := 31) rfl
theorem nf_X7_67 : (RX7, 67, "LuteFingers$Tape", "bytes", "[I", "LuteFingers") ∈ nF := List.mem_of_getElem? (i := 32) rfl
theorem nf_X10_289 : (RX10, 289, "LuteFingers$Tape", "bytes", "[I", "LuteFingers") ∈ nF := List.mem_of_getElem? (i := 33) rfl
theorem nf_X7_32 : (RX7, 32, "LuteFingers$Tape", "length", "I", "LuteFingers") ∈ nF := List.mem_of_getElem? (i := 34) rfl
theorem nf_X10_283 : (RX10, 283, "LuteFingers$Tape", "length", "I", "LuteFingers") ∈ nF := List.mem_of_getElem? (i := 35) rfl
theorem nf_X10_240 : (RX10, 240, "LuteFingers$WayList", "numbers", "[I", "LuteFingers") ∈ nF := List.mem_of_getElem? (i := 36) rfl
theorem nf_X10_231 : (RX10, 231, "LuteFingers$WayList", "costs", "[I", "LuteFingers") ∈ nF := List.mem_of_getElem? (i := 37) rfl
theorem nf_X10_237 : (RX10, 237, "LuteFingers$WayList", "known", "I", "LuteFingers") ∈ nF := List.mem_of_getElem? (i := 38) rfl
theorem nf_X10_228 : (RX10, 228, "LuteFingers$WayList", "which", "I", "LuteFingers") ∈ nF := List.mem_of_getElem? (i := 39) rfl
theorem nf_X10_234 : (RX10, 234, "LuteFingers$WayList", "complete", "Z", "LuteFingers") ∈ nF := List.mem_of_getElem? (i := 40) rfl
theorem nf_X10_267 : (RX10, 267, "LuteFingers$Arranger", "leftMasks", "[I", "LuteFingers") ∈ nF := List.mem_of_getElem? (i := 41) rfl
theorem nm_X10_9 : (RX10, 9, yX4_init, "LuteFingers") ∈ nM := List.mem_of_getElem? (i := 0) rfl
theorem nm_X10_18 : (RX10, 18, yX5_init, "LuteFingers") ∈ nM := List.mem_of_getElem? (i := 1) rfl
theorem nm_X10_25 : (RX10, 25, yX6_init, "LuteFingers") ∈ nM := List.mem_of_getElem? (i := 2) rfl
theorem nm_X10_32 : (RX10, 32, yX3_init, "LuteFingers") ∈ nM := List.mem_of_getElem? (i := 3) rfl
theorem nm_X10_41 : (RX10, 41, yX2_init, "LuteFingers") ∈ nM := List.mem_of_getElem? (i := 4) rfl
theorem nm_X10_53 : (RX10, 53, yX9_init, "LuteFingers") ∈ nM := List.mem_of_getElem? (i := 5) rfl
theorem nm_X10_60 : (RX10, 60, yX8_init, "LuteFingers") ∈ nM := List.mem_of_getElem? (i := 6) rfl
theorem nm_X10_311 : (RX10, 311, yX8_drop, "LuteFingers") ∈ nM := List.mem_of_getElem? (i := 7) rfl
theorem nm_X10_157 : (RX10, 157, yX2_forgetAll, "LuteFingers") ∈ nM := List.mem_of_getElem? (i := 8) rfl
theorem nm_X10_103 : (RX10, 103, yX4_addCourse, "LuteFingers") ∈ nM := List.mem_of_getElem? (i := 9) rfl
theorem nm_X10_107 : (RX10, 107, yX4_hasCourse, "LuteFingers") ∈ nM := List.mem_of_getElem? (i := 10) rfl
theorem nm_X10_127 : (RX10, 127, yX5_noteOfPitch, "LuteFingers") ∈ nM := List.mem_of_getElem? (i := 11) rfl
theorem nm_X10_130 : (RX10, 130, yX5_foreOf, "LuteFingers") ∈ nM := List.mem_of_getElem? (i := 12) rfl
theorem nm_X10_133 : (RX10, 133, yX5_isTied, "LuteFingers") ∈ nM := List.mem_of_getElem? (i := 13) rfl
theorem nm_X10_139 : (RX10, 139, yX5_addNote, "LuteFingers") ∈ nM := List.mem_of_getElem? (i := 14) rfl
theorem nm_X10_146 : (RX10, 146, yX5_closeTick, "LuteFingers") ∈ nM := List.mem_of_getElem? (i := 15) rfl
theorem nm_X10_150 : (RX10, 150, yX2_forget, "LuteFingers") ∈ nM := List.mem_of_getElem? (i := 16) rfl
theorem nm_X10_154 : (RX10, 154, yX5_removeAll, "LuteFingers") ∈ nM := List.mem_of_getElem? (i := 17) rfl
theorem nm_X10_160 : (RX10, 160, yX5_hasNote, "LuteFingers") ∈ nM := List.mem_of_getElem? (i := 18) rfl
theorem nm_X10_178 : (RX10, 178, yX5_hasTick, "LuteFingers") ∈ nM := List.mem_of_getElem? (i := 19) rfl
theorem nm_X10_181 : (RX10, 181, yX2_keep, "LuteFingers") ∈ nM := List.mem_of_getElem? (i := 20) rfl
theorem nm_X2_38 : (RX2, 38, yX5_allNotes, "LuteFingers") ∈ nM := List.mem_of_getElem? (i := 21) rfl
theorem nm_X2_33 : (RX2, 33, yX3_search, "LuteFingers") ∈ nM := List.mem_of_getElem? (i := 22) rfl
theorem nm_X3_76 : (RX3, 76, yX4_fretFor, "LuteFingers") ∈ nM := List.mem_of_getElem? (i := 23) rfl
theorem nm_X4_45 : (RX4, 45, yX10_within, "LuteFingers") ∈ nM := List.mem_of_getElem? (i := 24) rfl
theorem nm_X3_85 : (RX3, 85, yX4_placesFor, "LuteFingers") ∈ nM := List.mem_of_getElem? (i := 25) rfl
theorem nm_X3_111 : (RX3, 111, yX1_finger, "LuteFingers") ∈ nM := List.mem_of_getElem? (i := 26) rfl
theorem nm_X3_115 : (RX3, 115, yX1_fret, "LuteFingers") ∈ nM := List.mem_of_getElem? (i := 27) rfl
theorem nm_X3_145 : (RX3, 145, yX1_wholeOf, "LuteFingers") ∈ nM := List.mem_of_getElem? (i := 28) rfl
theorem nm_X3_97 : (RX3, 97, yX1_partOf, "LuteFingers") ∈ nM := List.mem_of_getElem? (i := 29) rfl
theorem nm_X3_103 : (RX3, 103, yX4_reaches, "LuteFingers") ∈ nM := List.mem_of_getElem? (i := 30) rfl
theorem nm_X3_118 : (RX3, 118, yX1_courseAt, "LuteFingers") ∈ nM := List.mem_of_getElem? (i := 31) rfl
theorem nm_X10_184 : (RX10, 184, yX2_isSpent, "LuteFingers") ∈ nM := List.mem_of_getElem? (i := 32) rfl
theorem nm_X10_187 : (RX10, 187, yX2_size, "LuteFingers") ∈ nM := List.mem_of_getElem? (i := 33) rfl
theorem nm_X10_191 : (RX10, 191, yX2_get, "LuteFingers") ∈ nM := List.mem_of_getElem? (i := 34) rfl
theorem nm_X10_195 : (RX10, 195, yX1_ofAll, "LuteFingers") ∈ nM := List.mem_of_getElem? (i := 35) rfl
theorem nm_X10_201 : (RX10, 201, yX1_ofNote, "LuteFingers") ∈ nM := List.mem_of_getElem? (i := 36) rfl
theorem nm_X10_205 : (RX10, 205, yX5_allNotes, "LuteFingers") ∈ nM := List.mem_of_getElem? (i := 37) rfl
theorem nm_X10_314 : (RX10, 314, yX3_search, "LuteFingers") ∈ nM := List.mem_of_getElem? (i := 38) rfl
theorem nm_X10_214 : (RX10, 214, yX8_atHand, "LuteFingers") ∈ nM := List.mem_of_getElem? (i := 39) rfl
theorem nm_X10_218 : (RX10, 218, yX2_keepAll, "LuteFingers") ∈ nM := List.mem_of_getElem? (i := 40) rfl
theorem nm_X10_221 : (RX10, 221, yX9_lookThrough, "LuteFingers") ∈ nM := List.mem_of_getElem? (i := 41) rfl
theorem nm_X9_55 : (RX9, 55, yX2_size, "LuteFingers") ∈ nM := List.mem_of_getElem? (i := 42) rfl
theorem nm_X9_66 : (RX9, 66, yX2_get, "LuteFingers") ∈ nM := List.mem_of_getElem? (i := 43) rfl
theorem nm_X9_70 : (RX9, 70, yX5_tieMask, "LuteFingers") ∈ nM := List.mem_of_getElem? (i := 44) rfl
theorem nm_X5_51 : (RX5, 51, yX1_hasNote, "LuteFingers") ∈ nM := List.mem_of_getElem? (i := 45) rfl
theorem nm_X9_74 : (RX9, 74, yX5_tieBits, "LuteFingers") ∈ nM := List.mem_of_getElem? (i := 46) rfl
theorem nm_X9_81 : (RX9, 81, yX1_place, "LuteFingers") ∈ nM := List.mem_of_getElem? (i := 47) rfl
theorem nm_X10_318 : (RX10, 318, yX9_findBest, "LuteFingers") ∈ nM := List.mem_of_getElem? (i := 48) rfl
theorem nm_X9_117 : (RX9, 117, yX1_cost, "LuteFingers") ∈ nM := List.mem_of_getElem? (i := 49) rfl
theorem nm_X9_120 : (RX9, 120, yX4_stepCost, "LuteFingers") ∈ nM := List.mem_of_getElem? (i := 50) rfl
theorem nm_X4_49 : (RX4, 49, yX1_place, "LuteFingers") ∈ nM := List.mem_of_getElem? (i := 51) rfl
theorem nm_X4_61 : (RX4, 61, yX1_leadCourse, "LuteFingers") ∈ nM := List.mem_of_getElem? (i := 52) rfl
theorem nm_X10_321 : (RX10, 321, yX9_trace, "LuteFingers") ∈ nM := List.mem_of_getElem? (i := 53) rfl
theorem nm_X10_243 : (RX10, 243, yX8_start, "LuteFingers") ∈ nM := List.mem_of_getElem? (i := 54) rfl
theorem nm_X10_246 : (RX10, 246, yX9_costOfSpan, "LuteFingers") ∈ nM := List.mem_of_getElem? (i := 55) rfl
theorem nm_X10_325 : (RX10, 325, yX5_tieMask, "LuteFingers") ∈ nM := List.mem_of_getElem? (i := 56) rfl
theorem nm_X10_329 : (RX10, 329, yX5_tieBits, "LuteFingers") ∈ nM := List.mem_of_getElem? (i := 57) rfl
theorem nm_X10_260 : (RX10, 260, yX0_init, "LuteFingers") ∈ nM := List.mem_of_getElem? (i := 58) rfl
theorem nm_X10_261 : (RX10, 261, yX0_listGrips, "LuteFingers") ∈ nM := List.mem_of_getElem? (i := 59) rfl
theorem nm_X0_51 : (RX0, 51, yX5_allNotes, "LuteFingers") ∈ nM := List.mem_of_getElem? (i := 60) rfl
theorem nm_X0_55 : (RX0, 55, yX3_search, "LuteFingers") ∈ nM := List.mem_of_getElem? (i := 61) rfl
theorem nm_X10_264 : (RX10, 264, yX0_chooseLeft, "LuteFingers") ∈ nM := List.mem_of_getElem? (i := 62) rfl
theorem nm_X0_100 : (RX0, 100, yX5_tieBits, "LuteFingers") ∈ nM := List.mem_of_getElem? (i := 63) rfl
theorem nm_X0_106 : (RX0, 106, yX5_tieMask, "LuteFingers") ∈ nM := List.mem_of_getElem? (i := 64) rfl
theorem nm_X10_270 : (RX10, 270, yX2_list, "LuteFingers") ∈ nM := List.mem_of_getElem? (i := 65) rfl
theorem nm_X10_335 : (RX10, 335, yX9_headCost, "LuteFingers") ∈ nM := List.mem_of_getElem? (i := 66) rfl
theorem nm_X10_332 : (RX10, 332, yX4_swapTuning, "LuteFingers") ∈ nM := List.mem_of_getElem? (i := 67) rfl
theorem nm_X4_41 : (RX4, 41, yX10_exchange, "LuteFingers") ∈ nM := List.mem_of_getElem? (i := 68) rfl
theorem nm_X10_286 : (RX10, 286, yX6_append, "LuteFingers") ∈ nM := List.mem_of_getElem? (i := 69) rfl
theorem nm_X10_292 : (RX10, 292, yX6_appendLine, "LuteFingers") ∈ nM := List.mem_of_getElem? (i := 70) rfl
theorem nm_X6_35 : (RX6, 35, yX1_courseAt, "LuteFingers") ∈ nM := List.mem_of_getElem? (i := 71) rfl
theorem nm_X6_23 : (RX6, 23, yX1_fret, "LuteFingers") ∈ nM := List.mem_of_getElem? (i := 72) rfl
theorem nm_X6_32 : (RX6, 32, yX1_finger, "LuteFingers") ∈ nM := List.mem_of_getElem? (i := 73) rfl
theorem nm_X10_298 : (RX10, 298, yX7_init, "LuteFingers") ∈ nM := List.mem_of_getElem? (i := 74) rfl
theorem nm_X10_301 : (RX10, 301, yX7_findFault, "LuteFingers") ∈ nM := List.mem_of_getElem? (i := 75) rfl
theorem nm_X7_27 : (RX7, 27, yX5_removeAll, "LuteFingers") ∈ nM := List.mem_of_getElem? (i := 76) rfl
theorem nm_X7_76 : (RX7, 76, yX10_within, "LuteFingers") ∈ nM := List.mem_of_getElem? (i := 77) rfl
theorem nm_X7_83 : (RX7, 83, yX5_noteOfPitch, "LuteFingers") ∈ nM := List.mem_of_getElem? (i := 78) rfl
theorem nm_X7_87 : (RX7, 87, yX5_addNote, "LuteFingers") ∈ nM := List.mem_of_getElem? (i := 79) rfl
theorem nm_X7_41 : (RX7, 41, yX5_closeTick, "LuteFingers") ∈ nM := List.mem_of_getElem? (i := 80) rfl
theorem nm_X10_304 : (RX10, 304, yX5_copyFrom, "LuteFingers") ∈ nM := List.mem_of_getElem? (i := 81) rfl
theorem nm_X10_308 : (RX10, 308, yX5_notesOfTicks, "LuteFingers") ∈ nM := List.mem_of_getElem? (i := 82) rfl
set_option maxRecDepth 20000 in
theorem nF_in : ∀ q ∈ nF, Cond.fieldLinkNest q.1 q.2.1 q.2.2.1 q.2.2.2.1 q.2.2.2.2.1 q.2.2.2.2.2 ∈ lw_tbl := List.forall_mem_cons.mpr ⟨tb_1 (List.mem_of_getElem? (i := 35) (by decide +kernel)), List.forall_mem_cons.mpr ⟨tb_1 (List.mem_of_getElem? (i := 36) (by decide +kernel)), List.forall_mem_cons.mpr ⟨tb_1 (List.mem_of_getElem? (i := 37) (by decide +kernel)), List.forall_mem_cons.mpr ⟨tb_1 (List.mem_of_getElem? (i := 39) (by decide +kernel)), List.forall_mem_cons.mpr ⟨tb_1 (List.mem_of_getElem? (i := 40) (by decide +kernel)), List.forall_mem_cons.mpr ⟨tb_1 (List.mem_of_getElem? (i := 42) (by decide +kernel)), List.forall_mem_cons.mpr ⟨tb_1 (List.mem_of_getElem? (i := 43) (by decide +kernel)), List.forall_mem_cons.mpr ⟨tb_1 (List.mem_of_getElem? (i := 45) (by decide +kernel)), List.forall_mem_cons.mpr ⟨tb_1 (List.mem_of_getElem? (i := 47) (by decide +kernel)), List.forall_mem_cons.mpr ⟨tb_1 (List.mem_of_getElem? (i := 49) (by decide +kernel)), List.forall_mem_cons.mpr ⟨tb_1 (List.mem_of_getElem? (i := 50) (by decide +kernel)), List.forall_mem_cons.mpr ⟨tb_1 (List.mem_of_getElem? (i := 52) (by decide +kernel)), List.forall_mem_cons.mpr ⟨tb_1 (List.mem_of_getElem? (i := 76) (by decide +kernel)), List.forall_mem_cons.mpr ⟨tb_1 (List.mem_of_getElem? (i := 77) (by decide +kernel)), List.forall_mem_cons.mpr ⟨tb_1 (List.mem_of_getElem? (i := 78) (by decide +kernel)), List.forall_mem_cons.mpr ⟨tb_1 (List.mem_of_getElem? (i := 79) (by decide +kernel)), List.forall_mem_cons.mpr ⟨tb_1 (List.mem_of_getElem? (i := 80) (by decide +kernel)), List.forall_mem_cons.mpr ⟨tb_1 (List.mem_of_getElem? (i := 82) (by decide +kernel)), List.forall_mem_cons.mpr ⟨tb_1 (List.mem_of_getElem? (i := 83) (by decide +kernel)), List.forall_mem_cons.mpr ⟨tb_1 (List.mem_of_getElem? (i := 84) (by decide +kernel)), List.forall_mem_cons.mpr ⟨tb_1 (List.mem_of_getElem? (i := 85) (by decide +kernel)), List.forall_mem_cons.mpr ⟨tb_1 (List.mem_of_getElem? (i := 87) (by decide +kernel)), List.forall_mem_cons.mpr ⟨tb_1 (List.mem_of_getElem? (i := 88) (by decide +kernel)), List.forall_mem_cons.mpr ⟨tb_1 (List.mem_of_getElem? (i := 89) (by decide +kernel)), List.forall_mem_cons.mpr ⟨tb_1 (List.mem_of_getElem? (i := 91) (by decide +kernel)), List.forall_mem_cons.mpr ⟨tb_1 (List.mem_of_getElem? (i := 92) (by decide +kernel)), List.forall_mem_cons.mpr ⟨tb_1 (List.mem_of_getElem? (i := 94) (by decide +kernel)), List.forall_mem_cons.mpr ⟨tb_1 (List.mem_of_getElem? (i := 95) (by decide +kernel)), List.forall_mem_cons.mpr ⟨tb_1 (List.mem_of_getElem? (i := 97) (by decide +kernel)), List.forall_mem_cons.mpr ⟨tb_1 (List.mem_of_getElem? (i := 99) (by decide +kernel)), List.forall_mem_cons.mpr ⟨tb_1 (List.mem_of_getElem? (i := 100) (by decide +kernel)), List.forall_mem_cons.mpr ⟨tb_1 (List.mem_of_getElem? (i := 101) (by decide +kernel)), List.forall_mem_cons.mpr ⟨tb_1 (List.mem_of_getElem? (i := 124) (by decide +kernel)), List.forall_mem_cons.mpr ⟨tb_1 (List.mem_of_getElem? (i := 125) (by decide +kernel)), List.forall_mem_cons.mpr ⟨tb_1 (List.mem_of_getElem? (i := 127) (by decide +kernel)), List.forall_mem_cons.mpr ⟨tb_1 (List.mem_of_getElem? (i := 128) (by decide +kernel)), List.forall_mem_cons.mpr ⟨tb_1 (List.mem_of_getElem? (i := 236) (by decide +kernel)), List.forall_mem_cons.mpr ⟨tb_1 (List.mem_of_getElem? (i := 238) (by decide +kernel)), List.forall_mem_cons.mpr ⟨tb_2 (List.mem_of_getElem? (i := 0) (by decide +kernel)), List.forall_mem_cons.mpr ⟨tb_2 (List.mem_of_getElem? (i := 2) (by decide +kernel)), List.forall_mem_cons.mpr ⟨tb_2 (List.mem_of_getElem? (i := 4) (by decide +kernel)), List.forall_mem_cons.mpr ⟨tb_3 (List.mem_of_getElem? (i := 231) (by decide +kernel)), fun _ h => absurd h List.not_mem_nil⟩⟩⟩⟩⟩⟩⟩⟩⟩⟩⟩⟩⟩⟩⟩⟩⟩⟩⟩⟩⟩⟩⟩⟩⟩⟩⟩⟩⟩⟩⟩⟩⟩⟩⟩⟩⟩⟩⟩⟩⟩⟩
set_option maxRecDepth 20000 in
theorem nM_in : ∀ q ∈ nM, Cond.methodLinkNest q.1 q.2.1 q.2.2.1 q.2.2.2 ∈ lw_tbl := List.forall_mem_cons.mpr ⟨tb_1 (List.mem_of_getElem? (i := 27) (by decide +kernel)), List.forall_mem_cons.mpr ⟨tb_1 (List.mem_of_getElem? (i := 71) (by decide +kernel)), List.forall_mem_cons.mpr ⟨tb_1 (List.mem_of_getElem? (i := 119) (by decide +kernel)), List.forall_mem_cons.mpr ⟨tb_1 (List.mem_of_getElem? (i := 136) (by decide +kernel)), List.forall_mem_cons.mpr ⟨tb_1 (List.mem_of_getElem? (i := 179) (by decide +kernel)), List.forall_mem_cons.mpr ⟨tb_1 (List.mem_of_getElem? (i := 200) (by decide +kernel)), List.forall_mem_cons.mpr ⟨tb_1 (List.mem_of_getElem? (i := 231) (by decide +kernel)), List.forall_mem_cons.mpr ⟨tb_2 (List.mem_of_getElem? (i := 77) (by decide +kernel)), List.forall_mem_cons.mpr ⟨tb_2 (List.mem_of_getElem? (i := 81) (by decide +kernel)), List.forall_mem_cons.mpr ⟨tb_2 (List.mem_of_getElem? (i := 85) (by decide +kernel)), List.forall_mem_cons.mpr ⟨tb_2 (List.mem_of_getElem? (i := 93) (by decide +kernel)), List.forall_mem_cons.mpr ⟨tb_2 (List.mem_of_getElem? (i := 116) (by decide +kernel)), List.forall_mem_cons.mpr ⟨tb_2 (List.mem_of_getElem? (i := 120) (by decide +kernel)), List.forall_mem_cons.mpr ⟨tb_2 (List.mem_of_getElem? (i := 128) (by decide +kernel)), List.forall_mem_cons.mpr ⟨tb_2 (List.mem_of_getElem? (i := 129) (by decide +kernel)), List.forall_mem_cons.mpr ⟨tb_2 (List.mem_of_getElem? (i := 137) (by decide +kernel)), List.forall_mem_cons.mpr ⟨tb_2 (List.mem_of_getElem? (i := 141) (by decide +kernel)), List.forall_mem_cons.mpr ⟨tb_2 (List.mem_of_getElem? (i := 149) (by decide +kernel)), List.forall_mem_cons.mpr ⟨tb_2 (List.mem_of_getElem? (i := 157) (by decide +kernel)), List.forall_mem_cons.mpr ⟨tb_2 (List.mem_of_getElem? (i := 173) (by decide +kernel)), List.forall_mem_cons.mpr ⟨tb_2 (List.mem_of_getElem? (i := 174) (by decide +kernel)), List.forall_mem_cons.mpr ⟨tb_2 (List.mem_of_getElem? (i := 178) (by decide +kernel)), List.forall_mem_cons.mpr ⟨tb_2 (List.mem_of_getElem? (i := 186) (by decide +kernel)), List.forall_mem_cons.mpr ⟨tb_2 (List.mem_of_getElem? (i := 198) (by decide +kernel)), List.forall_mem_cons.mpr ⟨tb_2 (List.mem_of_getElem? (i := 202) (by decide +kernel)), List.forall_mem_cons.mpr ⟨tb_2 (List.mem_of_getElem? (i := 203) (by decide +kernel)), List.forall_mem_cons.mpr ⟨tb_2 (List.mem_of_getElem? (i := 215) (by decide +kernel)), List.forall_mem_cons.mpr ⟨tb_2 (List.mem_of_getElem? (i := 219) (by decide +kernel)), List.forall_mem_cons.mpr ⟨tb_2 (List.mem_of_getElem? (i := 235) (by decide +kernel)), List.forall_mem_cons.mpr ⟨tb_3 (List.mem_of_getElem? (i := 2) (by decide +kernel)), List.forall_mem_cons.mpr ⟨tb_3 (List.mem_of_getElem? (i := 5) (by decide +kernel)), List.forall_mem_cons.mpr ⟨tb_3 (List.mem_of_getElem? (i := 13) (by decide +kernel)), List.forall_mem_cons.mpr ⟨tb_3 (List.mem_of_getElem? (i := 19) (by decide +kernel)), List.forall_mem_cons.mpr ⟨tb_3 (List.mem_of_getElem? (i := 23) (by decide +kernel)), List.forall_mem_cons.mpr ⟨tb_3 (List.mem_of_getElem? (i := 33) (by decide +kernel)), List.forall_mem_cons.mpr ⟨tb_3 (List.mem_of_getElem? (i := 37) (by decide +kernel)), List.forall_mem_cons.mpr ⟨tb_3 (List.mem_of_getElem? (i := 49) (by decide +kernel)), List.forall_mem_cons.mpr ⟨tb_3 (List.mem_of_getElem? (i := 59) (by decide +kernel)), List.forall_mem_cons.mpr ⟨tb_3 (List.mem_of_getElem? (i := 64) (by decide +kernel)), List.forall_mem_cons.mpr ⟨tb_3 (List.mem_of_getElem? (i := 71) (by decide +kernel)), List.forall_mem_cons.mpr ⟨tb_3 (List.mem_of_getElem? (i := 75) (by decide +kernel)), List.forall_mem_cons.mpr ⟨tb_3 (List.mem_of_getElem? (i := 79) (by decide +kernel)), List.forall_mem_cons.mpr ⟨tb_3 (List.mem_of_getElem? (i := 87) (by decide +kernel)), List.forall_mem_cons.mpr ⟨tb_3 (List.mem_of_getElem? (i := 98) (by decide +kernel)), List.forall_mem_cons.mpr ⟨tb_3 (List.mem_of_getElem? (i := 99) (by decide +kernel)), List.forall_mem_cons.mpr ⟨tb_3 (List.mem_of_getElem? (i := 103) (by decide +kernel)), List.forall_mem_cons.mpr ⟨tb_3 (List.mem_of_getElem? (i := 111) (by decide +kernel)), List.forall_mem_cons.mpr ⟨tb_3 (List.mem_of_getElem? (i := 124) (by decide +kernel)), List.forall_mem_cons.mpr ⟨tb_3 (List.mem_of_getElem? (i := 129) (by decide +kernel)), List.forall_mem_cons.mpr ⟨tb_3 (List.mem_of_getElem? (i := 148) (by decide +kernel)), List.forall_mem_cons.mpr ⟨tb_3 (List.mem_of_getElem? (i := 149) (by decide +kernel)), List.forall_mem_cons.mpr ⟨tb_3 (List.mem_of_getElem? (i := 153) (by decide +kernel)), List.forall_mem_cons.mpr ⟨tb_3 (List.mem_of_getElem? (i := 157) (by decide +kernel)), List.forall_mem_cons.mpr ⟨tb_3 (List.mem_of_getElem? (i := 172) (by decide +kernel)), List.forall_mem_cons.mpr ⟨tb_3 (List.mem_of_getElem? (i := 184) (by decide +kernel)), List.forall_mem_cons.mpr ⟨tb_3 (List.mem_of_getElem? (i := 192) (by decide +kernel)), List.forall_mem_cons.mpr ⟨tb_3 (List.mem_of_getElem? (i := 209) (by decide +kernel)), List.forall_mem_cons.mpr ⟨tb_3 (List.mem_of_getElem? (i := 210) (by decide +kernel)), List.forall_mem_cons.mpr ⟨tb_3 (List.mem_of_getElem? (i := 217) (by decide +kernel)), List.forall_mem_cons.mpr ⟨tb_4 (List.mem_of_getElem? (i := 13) (by decide +kernel)), List.forall_mem_cons.mpr ⟨tb_4 (List.mem_of_getElem? (i := 17) (by decide +kernel)), List.forall_mem_cons.mpr ⟨tb_4 (List.mem_of_getElem? (i := 18) (by decide +kernel)), List.forall_mem_cons.mpr ⟨tb_4 (List.mem_of_getElem? (i := 19) (by decide +kernel)), List.forall_mem_cons.mpr ⟨tb_4 (List.mem_of_getElem? (i := 46) (by decide +kernel)), List.forall_mem_cons.mpr ⟨tb_4 (List.mem_of_getElem? (i := 48) (by decide +kernel)), List.forall_mem_cons.mpr ⟨tb_4 (List.mem_of_getElem? (i := 65) (by decide +kernel)), List.forall_mem_cons.mpr ⟨tb_4 (List.mem_of_getElem? (i := 70) (by decide +kernel)), List.forall_mem_cons.mpr ⟨tb_4 (List.mem_of_getElem? (i := 94) (by decide +kernel)), List.forall_mem_cons.mpr ⟨tb_4 (List.mem_of_getElem? (i := 98) (by decide +kernel)), List.forall_mem_cons.mpr ⟨tb_4 (List.mem_of_getElem? (i := 103) (by decide +kernel)), List.forall_mem_cons.mpr ⟨tb_4 (List.mem_of_getElem? (i := 119) (by decide +kernel)), List.forall_mem_cons.mpr ⟨tb_4 (List.mem_of_getElem? (i := 126) (by decide +kernel)), List.forall_mem_cons.mpr ⟨tb_4 (List.mem_of_getElem? (i := 127) (by decide +kernel)), List.forall_mem_cons.mpr ⟨tb_4 (List.mem_of_getElem? (i := 129) (by decide +kernel)), List.forall_mem_cons.mpr ⟨tb_4 (List.mem_of_getElem? (i := 136) (by decide +kernel)), List.forall_mem_cons.mpr ⟨tb_4 (List.mem_of_getElem? (i := 153) (by decide +kernel)), List.forall_mem_cons.mpr ⟨tb_4 (List.mem_of_getElem? (i := 157) (by decide +kernel)), List.forall_mem_cons.mpr ⟨tb_4 (List.mem_of_getElem? (i := 174) (by decide +kernel)), List.forall_mem_cons.mpr ⟨tb_4 (List.mem_of_getElem? (i := 175) (by decide +kernel)), List.forall_mem_cons.mpr ⟨tb_4 (List.mem_of_getElem? (i := 176) (by decide +kernel)), List.forall_mem_cons.mpr ⟨tb_4 (List.mem_of_getElem? (i := 181) (by decide +kernel)), List.forall_mem_cons.mpr ⟨tb_4 (List.mem_of_getElem? (i := 182) (by decide +kernel)), List.forall_mem_cons.mpr ⟨tb_4 (List.mem_of_getElem? (i := 193) (by decide +kernel)), fun _ h => absurd h List.not_mem_nil⟩⟩⟩⟩⟩⟩⟩⟩⟩⟩⟩⟩⟩⟩⟩⟩⟩⟩⟩⟩⟩⟩⟩⟩⟩⟩⟩⟩⟩⟩⟩⟩⟩⟩⟩⟩⟩⟩⟩⟩⟩⟩⟩⟩⟩⟩⟩⟩⟩⟩⟩⟩⟩⟩⟩⟩⟩⟩⟩⟩⟩⟩⟩⟩⟩⟩⟩⟩⟩⟩⟩⟩⟩⟩⟩⟩⟩⟩⟩⟩⟩⟩⟩

theorem nw_of {args : Array Value} {s : State} (h : ∀ w ∈ lw_tbl, w.before args s = true) : nw s := ⟨fun q hq => va_Nw.of rfl (h _ (nF_in q hq)), fun q hq => va_Nw.of rfl (h _ (nM_in q hq))⟩
theorem P_congr {D : va_G} {H : Heap} {a : Nat} {cA : ClassId} {n : Nat} {f g : Nat → Int32} (h : ∀ j, j < n → f j = g j) (hP : va_P D vwCl [(a, .inl (cA, n, .inl f))] H) : va_P D vwCl [(a, .inl (cA, n, .inl g))] H := by
  intro k q hk
  match k, hk with
  | 0, hk =>
    cases hk
    have h0 : va_at D vwCl (a, .inl (cA, n, .inl f)) H := hP 0 _ rfl
    have h1 : H[a]? = some (vp_cell cA (n, .inl f)) := h0
    show H[a]? = some (vp_cell cA (n, .inl g))
    rw [h1, arr_congr h]
  | k + 1, hk => simp at hk
theorem D_one {A : Nat → Prop} {a : Nat} {x y : va_E} (hD : va_D A [(a, x)]) : va_D A [(a, y)] := by
  have ha : A a := hD.2 0 _ rfl
  refine ⟨fun i j p q hi hj _ => ?_, fun k q hk => ?_⟩
  · match i, j, hi, hj with
    | 0, 0, _, _ => rfl
    | 0, j + 1, _, hj => simp at hj
    | i + 1, _, hi, _ => simp at hi
  · match k, hk with
    | 0, hk => cases hk; exact ha
    | k + 1, hk => simp at hk


abbrev zLF (q : Nat → Nat) (k : Nat → ClassId) : Nat × va_E := (q 0, .inr (9, [.ref (q 1), .ref (q 2), .ref (q 3), .ref (q 4), .ref (q 5), .ref (q 6), .ref (q 7), .ref (q 8), .ref (q 9), .int 0, .null, .null, .int 0, .int 0, .int 0]))
abbrev zlu (q : Nat → Nat) (k : Nat → ClassId) : Nat × va_E := (q 1, .inr (3, [.int 0, .int 0, .ref (q 10), .ref (q 11), .ref (q 12), .ref (q 13), .ref (q 14)]))
abbrev zpi (q : Nat → Nat) (k : Nat → ClassId) : Nat × va_E := (q 2, .inr (4, [.int 0, .ref (q 20), .ref (q 21), .ref (q 22), .ref (q 23), .ref (q 24), .ref (q 25)]))
abbrev ztp (q : Nat → Nat) (k : Nat → ClassId) : Nat × va_E := (q 3, .inr (5, [.ref (q 30), .int 0]))
abbrev zbk (q : Nat → Nat) (k : Nat → ClassId) : Nat × va_E := (q 5, .inr (1, [.ref (q 2), .ref (q 4), .ref (q 31), .ref (q 32)]))
abbrev zwl (q : Nat → Nat) (k : Nat → ClassId) : Nat × va_E := (q 8, .inr (7, [.ref (q 33), .ref (q 34), .int 0, .int (-1), .int 0]))
abbrev zrw (q : Nat → Nat) (k : Nat → ClassId) : Nat × va_E := (q 9, .inl (k 9, 16, .inl (fun _ => 0)))
abbrev ztu (q : Nat → Nat) (k : Nat → ClassId) : Nat × va_E := (q 10, .inl (k 10, 6, .inl (fun _ => 0)))
abbrev zfr (q : Nat → Nat) (k : Nat → ClassId) : Nat × va_E := (q 11, .inl (k 11, 6, .inl (fun _ => 0)))
abbrev zsl (q : Nat → Nat) (k : Nat → ClassId) : Nat × va_E := (q 12, .inl (k 12, 5, .inl (fun _ => 1)))
abbrev zwe (q : Nat → Nat) (k : Nat → ClassId) : Nat × va_E := (q 13, .inl (k 13, 5, .inl (fun _ => 1)))
abbrev ztn (q : Nat → Nat) (k : Nat → ClassId) : Nat × va_E := (q 14, .inl (k 14, 24, .inl (fun _ => 0)))
abbrev zsz (q : Nat → Nat) (k : Nat → ClassId) : Nat × va_E := (q 20, .inl (k 20, 17, .inl (fun _ => 0)))
abbrev zpt (q : Nat → Nat) (k : Nat → ClassId) : Nat × va_E := (q 21, .inl (k 21, 68, .inl (fun _ => 0)))
abbrev zkd (q : Nat → Nat) (k : Nat → ClassId) : Nat × va_E := (q 22, .inl (k 22, 68, .inl (fun _ => 0)))
abbrev zpr (q : Nat → Nat) (k : Nat → ClassId) : Nat × va_E := (q 23, .inl (k 23, 68, .inl (fun _ => 0)))
abbrev zfo (q : Nat → Nat) (k : Nat → ClassId) : Nat × va_E := (q 24, .inl (k 24, 68, .inl (fun _ => 0)))
abbrev zfx (q : Nat → Nat) (k : Nat → ClassId) : Nat × va_E := (q 25, .inl (k 25, 68, .inl (fun _ => 0)))
abbrev zby (q : Nat → Nat) (k : Nat → ClassId) : Nat × va_E := (q 30, .inl (k 30, 600, .inl (fun _ => 0)))
abbrev zbs (q : Nat → Nat) (k : Nat → ClassId) : Nat × va_E := (q 32, .inl (k 32, 16, .inl (fun _ => (-1))))
abbrev zM (g : Nat → Nat) (h : Nat → ClassId) : Nat × va_E := (g 47, .inr (10, [.int 0, .int 0, .ref (g 2), .ref (g 3), .ref (g 4), .ref (g 5), .ref (g 6), .int 0, .int 0, .ref (g 9), .ref (g 10), .ref (g 11), .ref (g 12), .ref (g 13), .int 0, .int 0, .ref (g 16), .ref (g 17), .ref (g 18), .ref (g 19), .ref (g 20), .ref (g 21), .ref (g 22), .ref (g 23), .ref (g 24), .ref (g 25), .ref (g 26), .ref (g 27), .ref (g 28), .ref (g 29), .int 0, .ref (g 31), .ref (g 32), .int 0, .int 0, .ref (g 35), .int 0, .ref (g 37), .ref (g 38), .int 0, .ref (g 40), .ref (g 41), .int 0, .ref (g 43), .ref (g 44), .ref (g 45), .int 0]))
abbrev zMtune (g : Nat → Nat) (h : Nat → ClassId) : Nat × va_E := (g 2, .inl (h 2, 6, .inl (fun _ => 0)))
abbrev zMfrets (g : Nat → Nat) (h : Nat → ClassId) : Nat × va_E := (g 3, .inl (h 3, 6, .inl (fun _ => 0)))
abbrev zMslack (g : Nat → Nat) (h : Nat → ClassId) : Nat × va_E := (g 4, .inl (h 4, 5, .inl (upd (upd (upd (upd (upd (fun _ => 0) 0 0) 1 1) 2 1) 3 1) 4 1)))
abbrev zMweight (g : Nat → Nat) (h : Nat → ClassId) : Nat × va_E := (g 5, .inl (h 5, 5, .inl (upd (upd (upd (upd (upd (fun _ => 0) 0 1) 1 1) 2 1) 3 1) 4 1)))
abbrev zMtuning (g : Nat → Nat) (h : Nat → ClassId) : Nat × va_E := (g 6, .inl (h 6, 24, .inl (fun _ => 0)))
abbrev zMpitch (g : Nat → Nat) (h : Nat → ClassId) : Nat × va_E := (g 10, .inl (h 10, 68, .inl (fun _ => 0)))
abbrev zMkind (g : Nat → Nat) (h : Nat → ClassId) : Nat × va_E := (g 11, .inl (h 11, 68, .inl (fun _ => 0)))
abbrev zMprice (g : Nat → Nat) (h : Nat → ClassId) : Nat × va_E := (g 12, .inl (h 12, 68, .inl (fun _ => 0)))
abbrev zMfixed (g : Nat → Nat) (h : Nat → ClassId) : Nat × va_E := (g 13, .inl (h 13, 68, .inl (fun _ => 0)))
abbrev zMrow (g : Nat → Nat) (h : Nat → ClassId) : Nat × va_E := (g 35, .inl (h 35, 16, .inl (fun _ => 0)))
abbrev zMtape (g : Nat → Nat) (h : Nat → ClassId) : Nat × va_E := (g 41, .inl (h 41, 600, .inl (fun _ => 0)))
def tiedB (a : Int32) : Bool := decide (a = 1) || decide (a = 2)
def sp_course (a b : Int32) : Int32 := if inB a 0 99 && inB b 0 12 then 0 else (-2)
def sp_slack (a b : Int32) : Int32 := if inB a 1 4 then (if inB b 0 2 then 1 else (-2)) else (-1)
def sp_bars (a : Int32) : Int32 := if inB a 0 1 then 0 else (-2)
def sp_weight (a b : Int32) : Int32 := if inB a 0 4 then (if inB b 0 9 then 1 else (-2)) else (-1)
def sp_note (a b c : Int32) : Int32 := if inB a 0 120 && inB b 0 3 && inB c 0 100 then (if tiedB b then (-3) else 1) else (-2)
def sp_say (a : Int32) : Int32 := if a < 0 then (-2) else 1
def sp_feed (a : Int32) : Int32 := if inB a 0 255 then 1 else (-2)
def sp_count (a : Int32) : Int32 := if a = 0 ∨ a = 1 ∨ a = 2 ∨ a = 3 ∨ a = 4 then 0 else (-1)
abbrev fSl : Nat → Int32 := upd (upd (upd (upd (upd (fun _ => 0) 0 0) 1 1) 2 1) 3 1) 4 1
abbrev fWe : Nat → Int32 := upd (upd (upd (upd (upd (fun _ => 0) 0 1) 1 1) 2 1) 3 1) 4 1
theorem fSl_v {x : Int32} (h : inB x 1 4 = true) : fSl x.toNatClampNeg = 1 := by
  obtain ⟨j, h1, h2, rfl⟩ := inB_nat (a := 1) (b := 4) h (by decide) (by decide)
  rw [nI_clamp (by omega)]
  rcases (show j = 1 ∨ j = 2 ∨ j = 3 ∨ j = 4 by omega) with rfl | rfl | rfl | rfl <;> rfl
theorem fWe_v {x : Int32} (h : inB x 0 4 = true) : fWe x.toNatClampNeg = 1 := by
  obtain ⟨j, h1, h2, rfl⟩ := inB_nat (a := 0) (b := 4) h (by decide) (by decide)
  rw [nI_clamp (by omega)]
  rcases (show j = 0 ∨ j = 1 ∨ j = 2 ∨ j = 3 ∨ j = 4 by omega) with rfl | rfl | rfl | rfl | rfl <;> rfl
theorem cnt_cases (x : Int32) : x = 0 ∨ x = 1 ∨ x = 2 ∨ x = 3 ∨ x = 4 ∨ x = 5 ∨ (x.toInt < 0 ∨ 5 < x.toInt) := by
  rcases (show x.toInt < 0 ∨ 0 ≤ x.toInt by omega) with h | h
  · exact Or.inr (Or.inr (Or.inr (Or.inr (Or.inr (Or.inr (Or.inl h))))))
  · rcases (show 5 < x.toInt ∨ x.toInt ≤ 5 by omega) with h5 | h5
    · exact Or.inr (Or.inr (Or.inr (Or.inr (Or.inr (Or.inr (Or.inr h5))))))
    · obtain ⟨j, -, h2, rfl⟩ := inB_nat (x := x) (lo := 0) (hi := 5) (a := 0) (b := 5) (by simp only [inB, Bool.and_eq_true, decide_eq_true_eq, Int32.le_iff_toInt_le]; exact ⟨h, h5⟩) (by decide) (by decide)
      rcases (show j = 0 ∨ j = 1 ∨ j = 2 ∨ j = 3 ∨ j = 4 ∨ j = 5 by omega) with rfl | rfl | rfl | rfl | rfl | rfl <;> decide
theorem sp_count_out {x : Int32} (h : x.toInt < 0 ∨ 5 < x.toInt) : sp_count x = (-1) := by
  unfold sp_count
  rw [if_neg]
  rintro (rfl | rfl | rfl | rfl | rfl) <;> revert h <;> decide

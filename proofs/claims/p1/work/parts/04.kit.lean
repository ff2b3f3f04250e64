-- the nest words: fields and methods of nest mates that are linked
def nF : List (String × Nat × String × String × String × String) := [(RX10, 97, "LuteFingers$Lute", "courses", "I", "LuteFingers"), (RX7, 45, "LuteFingers$Lute", "courses", "I", "LuteFingers"), (RX3, 69, "LuteFingers$Lute", "courses", "I", "LuteFingers"), (RX10, 121, "LuteFingers$Lute", "barsMay", "Z", "LuteFingers"), (RX3, 121, "LuteFingers$Lute", "barsMay", "Z", "LuteFingers"), (RX10, 111, "LuteFingers$Lute", "tunes", "[I", "LuteFingers"), (RX7, 80, "LuteFingers$Lute", "tunes", "[I", "LuteFingers"), (RX7, 73, "LuteFingers$Lute", "frets", "[I", "LuteFingers"), (RX10, 118, "LuteFingers$Lute", "slacks", "[I", "LuteFingers"), (RX10, 124, "LuteFingers$Lute", "weights", "[I", "LuteFingers"), (RX3, 137, "LuteFingers$Lute", "weights", "[I", "LuteFingers"), (RX10, 277, "LuteFingers$Lute", "tunings", "[I", "LuteFingers"), (RX0, 46, "LuteFingers$Piece", "ticks", "I", "LuteFingers"), (RX9, 40, "LuteFingers$Piece", "ticks", "I", "LuteFingers"), (RX10, 94, "LuteFingers$Piece", "ticks", "I", "LuteFingers"), (RX7, 61, "LuteFingers$Piece", "ticks", "I", "LuteFingers"), (RX2, 48, "LuteFingers$Piece", "ticks", "I", "LuteFingers"), (RX3, 52, "LuteFingers$Piece", "sizes", "[I", "LuteFingers"), (RX7, 57, "LuteFingers$Piece", "sizes", "[I", "LuteFingers"), (RX0, 91, "LuteFingers$Piece", "sizes", "[I", "LuteFingers"), (RX10, 136, "LuteFingers$Piece", "sizes", "[I", "LuteFingers"), (RX3, 73, "LuteFingers$Piece", "pitches", "[I", "LuteFingers"), (RX7, 91, "LuteFingers$Piece", "pitches", "[I", "LuteFingers"), (RX10, 166, "LuteFingers$Piece", "pitches", "[I", "LuteFingers"), (RX3, 79, "LuteFingers$Piece", "kinds", "[I", "LuteFingers"), (RX10, 169, "LuteFingers$Piece", "kinds", "[I", "LuteFingers"), (RX0, 92, "LuteFingers$Piece", "prices", "[I", "LuteFingers"), (RX10, 172, "LuteFingers$Piece", "prices", "[I", "LuteFingers"), (RX10, 175, "LuteFingers$Piece", "fores", "[I", "LuteFingers"), (RX3, 82, "LuteFingers$Piece", "fixed", "[I", "LuteFingers"), (RX7, 94, "LuteFingers$Piece", "fixed", "[I", "LuteFingers"), (RX10, 163, "LuteFingers$Piece", "fixed", "[I", "LuteFingers"), (RX7, 67, "LuteFingers$Tape", "bytes", "[I", "LuteFingers"), (RX10, 289, "LuteFingers$Tape", "bytes", "[I", "LuteFingers"), (RX7, 32, "LuteFingers$Tape", "length", "I", "LuteFingers"), (RX10, 283, "LuteFingers$Tape", "length", "I", "LuteFingers"), (RX10, 240, "LuteFingers$WayList", "numbers", "[I", "LuteFingers"), (RX10, 231, "LuteFingers$WayList", "costs", "[I", "LuteFingers"), (RX10, 237, "LuteFingers$WayList", "known", "I", "LuteFingers"), (RX10, 228, "LuteFingers$WayList", "which", "I", "LuteFingers"), (RX10, 234, "LuteFingers$WayList", "complete", "Z", "LuteFingers"), (RX10, 267, "LuteFingers$Arranger", "leftMasks", "[I", "LuteFingers")]
def nM : List (String × Nat × MethodName × String) := [(RX10, 9, yX4_init, "LuteFingers"), (RX10, 18, yX5_init, "LuteFingers"), (RX10, 25, yX6_init, "LuteFingers"), (RX10, 32, yX3_init, "LuteFingers"), (RX10, 41, yX2_init, "LuteFingers"), (RX10, 53, yX9_init, "LuteFingers"), (RX10, 60, yX8_init, "LuteFingers"), (RX10, 311, yX8_drop, "LuteFingers"), (RX10, 157, yX2_forgetAll, "LuteFingers"), (RX10, 103, yX4_addCourse, "LuteFingers"), (RX10, 107, yX4_hasCourse, "LuteFingers"), (RX10, 127, yX5_noteOfPitch, "LuteFingers"), (RX10, 130, yX5_foreOf, "LuteFingers"), (RX10, 133, yX5_isTied, "LuteFingers"), (RX10, 139, yX5_addNote, "LuteFingers"), (RX10, 146, yX5_closeTick, "LuteFingers"), (RX10, 150, yX2_forget, "LuteFingers"), (RX10, 154, yX5_removeAll, "LuteFingers"), (RX10, 160, yX5_hasNote, "LuteFingers"), (RX10, 178, yX5_hasTick, "LuteFingers"), (RX10, 181, yX2_keep, "LuteFingers"), (RX2, 38, yX5_allNotes, "LuteFingers"), (RX2, 33, yX3_search, "LuteFingers"), (RX3, 76, yX4_fretFor, "LuteFingers"), (RX4, 45, yX10_within, "LuteFingers"), (RX3, 85, yX4_placesFor, "LuteFingers"), (RX3, 111, yX1_finger, "LuteFingers"), (RX3, 115, yX1_fret, "LuteFingers"), (RX3, 145, yX1_wholeOf, "LuteFingers"), (RX3, 97, yX1_partOf, "LuteFingers"), (RX3, 103, yX4_reaches, "LuteFingers"), (RX3, 118, yX1_courseAt, "LuteFingers"), (RX10, 184, yX2_isSpent, "LuteFingers"), (RX10, 187, yX2_size, "LuteFingers"), (RX10, 191, yX2_get, "LuteFingers"), (RX10, 195, yX1_ofAll, "LuteFingers"), (RX10, 201, yX1_ofNote, "LuteFingers"), (RX10, 205, yX5_allNotes, "LuteFingers"), (RX10, 314, yX3_search, "LuteFingers"), (RX10, 214, yX8_atHand, "LuteFingers"), (RX10, 218, yX2_keepAll, "LuteFingers"), (RX10, 221, yX9_lookThrough, "LuteFingers"), (RX9, 55, yX2_size, "LuteFingers"), (RX9, 66, yX2_get, "LuteFingers"), (RX9, 70, yX5_tieMask, "LuteFingers"), (RX5, 51, yX1_hasNote, "LuteFingers"), (RX9, 74, yX5_tieBits, "LuteFingers"), (RX9, 81, yX1_place, "LuteFingers"), (RX10, 318, yX9_findBest, "LuteFingers"), (RX9, 117, yX1_cost, "LuteFingers"), (RX9, 120, yX4_stepCost, "LuteFingers"), (RX4, 49, yX1_place, "LuteFingers"), (RX4, 61, yX1_leadCourse, "LuteFingers"), (RX10, 321, yX9_trace, "LuteFingers"), (RX10, 243, yX8_start, "LuteFingers"), (RX10, 246, yX9_costOfSpan, "LuteFingers"), (RX10, 325, yX5_tieMask, "LuteFingers"), (RX10, 329, yX5_tieBits, "LuteFingers"), (RX10, 260, yX0_init, "LuteFingers"), (RX10, 261, yX0_listGrips, "LuteFingers"), (RX0, 51, yX5_allNotes, "LuteFingers"), (RX0, 55, yX3_search, "LuteFingers"), (RX10, 264, yX0_chooseLeft, "LuteFingers"), (RX0, 100, yX5_tieBits, "LuteFingers"), (RX0, 106, yX5_tieMask, "LuteFingers"), (RX10, 270, yX2_list, "LuteFingers"), (RX10, 335, yX9_headCost, "LuteFingers"), (RX10, 332, yX4_swapTuning, "LuteFingers"), (RX4, 41, yX10_exchange, "LuteFingers"), (RX10, 286, yX6_append, "LuteFingers"), (RX10, 292, yX6_appendLine, "LuteFingers"), (RX6, 35, yX1_courseAt, "LuteFingers"), (RX6, 23, yX1_fret, "LuteFingers"), (RX6, 32, yX1_finger, "LuteFingers"), (RX10, 298, yX7_init, "LuteFingers"), (RX10, 301, yX7_findFault, "LuteFingers"), (RX7, 27, yX5_removeAll, "LuteFingers"), (RX7, 76, yX10_within, "LuteFingers"), (RX7, 83, yX5_noteOfPitch, "LuteFingers"), (RX7, 87, yX5_addNote, "LuteFingers"), (RX7, 41, yX5_closeTick, "LuteFingers"), (RX10, 304, yX5_copyFrom, "LuteFingers"), (RX10, 308, yX5_notesOfTicks, "LuteFingers")]

def nw (U : State) : Prop := (∀ q ∈ nF, va_Nw (.fieldLinkNest q.1 q.2.1 q.2.2.1 q.2.2.2.1 q.2.2.2.2.1 q.2.2.2.2.2) U) ∧ ∀ q ∈ nM, va_Nw (.methodLinkNest q.1 q.2.1 q.2.2.1 q.2.2.2) U
theorem nw.warm {s U : State} (hW : s.WarmedH U.vm) (h : nw s) : nw U := ⟨fun q hq => va_Nw.warmF hW (h.1 q hq), fun q hq => va_Nw.warmM hW (h.2 q hq)⟩
theorem nw.same {u U : State} (e : u.vm = U.vm) (h : nw u) : nw U := ⟨fun q hq => va_Nw.same rfl e (h.1 q hq), fun q hq => va_Nw.same rfl e (h.2 q hq)⟩
theorem nw.f {s : State} (h : nw s) {own : String} {i : Nat} {rf n d host : String} (hm : (own, i, rf, n, d, host) ∈ nF) {args : Array Value} : (Cond.fieldLinkNest own i rf n d host).before args s = true := va_Nw.use rfl (h.1 _ hm)
theorem nw.m {s : State} (h : nw s) {own : String} {i : Nat} {y : MethodName} {host : String} (hm : (own, i, y, host) ∈ nM) : va_Nw (.methodLinkNest own i y host) s := h.2 _ hm
set_option maxRecDepth 20000 in
theorem gd_all : wsL_law.all goodWord = true := by decide +kernel
abbrev wsM (y : MethodName) (cc : ByteArray) (n : Nat) (r : Option FieldType) : List Cond := .code y cc n r :: wsL_law
theorem gd_M {y : MethodName} {cc : ByteArray} {n : Nat} {r : Option FieldType} (h : Cond.code y cc n r ∈ wsL_law) : GoodIn wsL_law (wsM y cc n r) := fun w hw => by
  have hm : w ∈ wsL_law := (List.mem_cons.mp hw).elim (fun e => e ▸ h) id
  exact ⟨hm, good_of_word (List.all_eq_true.mp gd_all w hm)⟩
-- what a method starts from, and what it leaves
def pre0 (D : va_G) (tys : List (ClassId × FieldType)) (ws : va_W) (sz : Nat) (U : State) : Prop := U.heap.size = sz ∧ nw U ∧ va_P D vwCl ws U.heap ∧ va_K D vwCl tys U ∧ va_D (fun _ => True) ws
def pst (D : va_G) (A : Nat → Prop) (wo : va_W) (to : List (ClassId × FieldType)) (t : State) : Prop := va_P D vwCl wo t.heap ∧ va_K D vwCl to t ∧ va_D A wo
abbrev Ci (l : Launch) (D : va_G) (y : MethodName) (cc : ByteArray) (n : Nat) (r : Option FieldType) (rm : Room) (av : List Value) (tys : List (ClassId × FieldType)) (ws : va_W) (sz mc ms : Nat) (S : Type) (post : Int32 → S → Prop) (wo : S → va_W) (to : S → List (ClassId × FieldType)) : Prop :=
  Met l y (wsM y cc n r) rm (va_Pc av (pre0 D tys ws sz)) (va_Qi post (fun (u : S) t => pst D (va_A ws sz) (wo u) (to u) t) (va_A ws sz)) mc ms (va_A ws sz)
abbrev Cv (l : Launch) (D : va_G) (y : MethodName) (cc : ByteArray) (n : Nat) (rm : Room) (av : List Value) (tys : List (ClassId × FieldType)) (ws : va_W) (sz mc ms : Nat) (S : Type) (post : S → Prop) (wo : S → va_W) (to : S → List (ClassId × FieldType)) : Prop :=
  Met l y (wsM y cc n none) rm (va_Pc av (pre0 D tys ws sz)) (va_Qv post (fun (u : S) t => pst D (va_A ws sz) (wo u) (to u) t) (va_A ws sz)) mc ms (va_A ws sz)
theorem pre0.blind {D : va_G} {tys : List (ClassId × FieldType)} {ws : va_W} {sz : Nat} {av : List Value} : FrameBlind (va_Pc av (pre0 D tys ws sz)) := fun a U g mk q => by
  obtain ⟨q0, q1, qn, qP, qK, qD⟩ := q
  exact ⟨q0, q1, nw.same (u := U) rfl qn, qP, va_K.moved (u := U) (U := U.calling g mk a) (Vm.Alike.refl U.vm) qK, qD⟩
theorem pre0.at {D : va_G} {tys : List (ClassId × FieldType)} {ws : va_W} {A : Nat → Prop} {s U : State} {H : Heap} (hn : nw s) (hP : va_P D vwCl ws H) (hK : va_K D vwCl tys s) (hD : va_D A ws) (hU : U.heap = H) (hW : s.WarmedH U.vm) : pre0 D tys ws H.size U :=
  ⟨by rw [hU], hn.warm hW, by rw [hU]; exact hP, va_K.moved hW.alike hK, hD.weaken (fun _ _ _ _ => trivial)⟩
theorem fm_of_map {α β : Type} {f : α → Option β} : ∀ {l : List α} {w : List β}, l.map f = w.map some → l.filterMap f = w
  | [], [], _ => rfl
  | [], _ :: _, h => by simp at h
  | _ :: _, [], h => by simp at h
  | a :: l, b :: w, h => by
    simp only [List.map_cons, List.cons.injEq] at h
    rw [List.filterMap_cons, h.1]
    simp only
    rw [fm_of_map h.2]


theorem Ci_of {l : Launch} {D : va_G} {y : MethodName} {cc : ByteArray} {n : Nat} {r : Option FieldType} {rm : Room} {av : List Value} {tys : List (ClassId × FieldType)} {ws : va_W} {sz mc ms : Nat} {S : Type} {post : Int32 → S → Prop} {wo : S → va_W} {to : S → List (ClassId × FieldType)} {lv : List (Nat × Value)} (hy : plainName y.cls = true) (hle : Nat.ble (lg_sl av).length n = true) (hlv : lv_args 0 av = lv)
    (body : ∀ (p : Program) (e : Env) (s : State) (m : MethodId) (below : List Frame) (meth : Method) (c : Code) (A : Nat → Prop) (ls : Array Slot), p.tables.exec = Jvm.exec → c.code = cc → c.maxLocals = n → meth.sig.returnType = r → s.vm.findClass y.cls = some m.cls → (∀ w ∈ wsL_law, w.before av.toArray s = true) → meth.locks = false → meth.name = y.name → nw s → va_P D vwCl ws s.heap → va_D A ws → va_K D vwCl tys s → va_S A s.heap s.heap [] → (∀ q : Nat, s.heap.size ≤ q → A q) → lv_has ls n lv →
      W p l e rm s m av.toArray below meth c s.heap [] 0 0 (MQ below (va_Qi post (fun (u : S) t => pst D A (wo u) (to u) t) A) av.toArray s mc ms A) (F0 m 0 ls [])) :
    Ci l D y cc n r rm av tys ws sz mc ms S post wo to := by
  refine Met.ofW (cc := cc) (maxL := n) (ret := r) hy rfl ?_
  intro p e s m args below meth c s₁ B hml hv
  obtain ⟨rfl, hsz, hn, hP, hK, hD0⟩ := hv
  have hts := atoms_spec (ws := wsM y cc n r) B.pre
  have hown : s.vm.findClass y.cls = some m.cls := findClass_of_methodNamed B.named
  subst hsz
  have hl := lv_entry av (n := n) (Nat.le_of_ble_eq_true hle)
  rw [lg_entry_eq]
  rw [hlv] at hl
  exact body p e s m below meth c _ _ B.exec B.bytes hml B.returns hown (fun w hw => hts w (List.mem_cons_of_mem _ hw)) B.notSynchronized (name_of_methodNamed B.named B.method).1 hn hP hD0.self hK va_S.rf (fun q h => Or.inr h) hl


theorem Cv_of {l : Launch} {D : va_G} {y : MethodName} {cc : ByteArray} {n : Nat} {rm : Room} {av : List Value} {tys : List (ClassId × FieldType)} {ws : va_W} {sz mc ms : Nat} {S : Type} {post : S → Prop} {wo : S → va_W} {to : S → List (ClassId × FieldType)} {lv : List (Nat × Value)} (hy : plainName y.cls = true) (hle : Nat.ble (lg_sl av).length n = true) (hlv : lv_args 0 av = lv)
    (body : ∀ (p : Program) (e : Env) (s : State) (m : MethodId) (below : List Frame) (meth : Method) (c : Code) (A : Nat → Prop) (ls : Array Slot), p.tables.exec = Jvm.exec → c.code = cc → c.maxLocals = n → meth.sig.returnType = none → s.vm.findClass y.cls = some m.cls → (∀ w ∈ wsL_law, w.before av.toArray s = true) → meth.locks = false → meth.name = y.name → nw s → va_P D vwCl ws s.heap → va_D A ws → va_K D vwCl tys s → va_S A s.heap s.heap [] → (∀ q : Nat, s.heap.size ≤ q → A q) → lv_has ls n lv →
      W p l e rm s m av.toArray below meth c s.heap [] 0 0 (MQ below (va_Qv post (fun (u : S) t => pst D A (wo u) (to u) t) A) av.toArray s mc ms A) (F0 m 0 ls [])) :
    Cv l D y cc n rm av tys ws sz mc ms S post wo to := by
  refine Met.ofW (cc := cc) (maxL := n) (ret := none) hy rfl ?_
  intro p e s m args below meth c s₁ B hml hv
  obtain ⟨rfl, hsz, hn, hP, hK, hD0⟩ := hv
  have hts := atoms_spec (ws := wsM y cc n none) B.pre
  have hown : s.vm.findClass y.cls = some m.cls := findClass_of_methodNamed B.named
  subst hsz
  have hl := lv_entry av (n := n) (Nat.le_of_ble_eq_true hle)
  rw [lg_entry_eq]
  rw [hlv] at hl
  exact body p e s m below meth c _ _ B.exec B.bytes hml B.returns hown (fun w hw => hts w (List.mem_cons_of_mem _ hw)) B.notSynchronized (name_of_methodNamed B.named B.method).1 hn hP hD0.self hK va_S.rf (fun q h => Or.inr h) hl


section KR
variable {p : Program} {l : Launch} {e : Env} {R : Room} {s : State} {m : MethodId} {args : Array Value} {below : List Frame} {meth : Method} {c : Code} {H : Heap} {locs : List Loc} {cells slots : Nat} {cc : ByteArray} {D : va_G} {A : Nat → Prop} {S : Type} {wo : S → va_W} {to : S → List (ClassId × FieldType)} {pc : Nat} {ls : Array Slot}
theorem k_iret {post : Int32 → S → Prop} {v : Int32} {ty : FieldType} (u : S) (hx : p.tables.exec = Jvm.exec) (hb : c.code = cc) (hr : meth.sig.returnType = some ty) (hlocks : meth.locks = false) (hn : narrow ty (.int v) = .int v) (hP : va_P D vwCl (wo u) H) (hD : va_D A (wo u)) (hK : va_K D vwCl (to u) s) (hS : va_S A s.heap H locs) (hpost : post v u) (hdg : decode cc pc = .ok (.ireturn, 1)) :
    W p l e R s m args below meth c H locs cells slots (MQ below (va_Qi post (fun (u : S) t => pst D A (wo u) (to u) t) A) args s cells slots A) (F0 m pc ls [.int v]) :=
  W.zret (v := v) hx hb hr hn (fun t ht hW => ⟨⟨v, u, rfl, hpost, by rw [ht]; exact hP, va_K.moved hW.alike hK, hD⟩, hS.F ht⟩) hS.2.2 hdg hlocks
theorem k_vret {post : S → Prop} (u : S) (hx : p.tables.exec = Jvm.exec) (hb : c.code = cc) (hr : meth.sig.returnType = none) (hlocks : meth.locks = false) (hP : va_P D vwCl (wo u) H) (hD : va_D A (wo u)) (hK : va_K D vwCl (to u) s) (hS : va_S A s.heap H locs) (hpost : post u) (hdg : decode cc pc = .ok (.return_, 1)) :
    W p l e R s m args below meth c H locs cells slots (MQ below (va_Qv post (fun (u : S) t => pst D A (wo u) (to u) t) A) args s cells slots A) (F0 m pc ls []) :=
  W.vret hx hb hr (fun t ht hW => ⟨⟨u, rfl, hpost, by rw [ht]; exact hP, va_K.moved hW.alike hK, hD⟩, hS.F ht⟩) hS.2.2 hdg hlocks
theorem k_objInit {own : String} {idx : Nat} {a : Nat} {rest : List Value} (hx : p.tables.exec = Jvm.exec) (hb : c.code = cc) (hml : c.maxLocals = ls.size) (hown : s.vm.findClass own = some m.cls) (hts : ∀ w ∈ wsL_law, w.before args s = true) (hl : Cond.methodLink own idx objectInit ∈ wsL_law) (hi : Cond.instanceMethod objectInit ∈ wsL_law) (hc : Cond.code objectInit ⟨#[0xb1]⟩ 1 none ∈ wsL_law) (hf : 1 ≤ R.frames) (hlo : (rest.map fun v => v.category).sum + 12 ≤ R.locals) (hdg : decode cc pc = .ok (.invokespecial idx, 3)) {Q : State → Prop}
    (kk : W p l e R s m args below meth c H locs cells slots Q (F0 m (pc + 3) ls rest)) : W p l e R s m args below meth c H locs cells slots Q (F0 m pc ls (.ref a :: rest)) :=
  W.objInit hx hb hown (hts _ hl) (hts _ hi) (hts _ hc) rfl hml.symm rfl hdg hf (by show 2 * 0 + _ + 12 ≤ _; rw [Nat.mul_zero, Nat.zero_add]; exact hlo) kk
end KR

set_option maxHeartbeats 1000000 in
theorem kVi {p : Program} {l : Launch} {e : Env} {R : Room} {s : State} {m : MethodId} {args : Array Value} {below : List Frame} {meth : Method} {c : Code} {H : Heap} {locs : List Loc} {cells slots : Nat} {Q : State → Prop} {cc cy : ByteArray} {nL ny idx mc ms n : Nat} {own : String} {y : MethodName} {r0 : Option FieldType} {rm : Room} {D : va_G} {A0 : Nat → Prop} {H0 : Heap} {S : Type} {post : Int32 → S → Prop} {wo : S → va_W} {to : S → List (ClassId × FieldType)} {pc : Nat} {ls : Array Slot} {st0 rest As : List Value} {b : Nat} {ws wc : va_W} {tys tyc : List (ClassId × FieldType)} {C : String} {ci : Nat} {T : u_T} {NN : Nat} {fs : List Value}
    (E : CallFix p m c cc nL s args wsL_law own) (hn : nw s) (hM : Ci l D y cy ny r0 rm (.ref b :: As) tyc wc H.size mc ms S post wo to)
    (hcd : Cond.code y cy ny r0 ∈ wsL_law) (hini : Cond.initialized y.cls ∈ wsL_law) (hli : Cond.methodLink own idx y ∈ wsL_law) (hin : Cond.instanceMethod y ∈ wsL_law) (hse : Cond.selects C y y ∈ wsL_law)
    (hd : y.cls ≠ "java/lang/invoke/MethodHandle" ∧ y.cls ≠ "java/lang/invoke/VarHandle" ∧ (parseMethodDescriptor y.desc).map (fun d => d.parameters.length) = some n) (hAs : As.length = n)
    (hfr : rm.frames + 1 ≤ R.frames) (hlo : 8 + (ny + 11) + rm.locals ≤ R.locals) (hmc : rm.cells = mc) (hms : rm.slots = ms) (hcs : cells + mc ≤ R.cells) (hss : slots + ms ≤ R.slots)
    (hP : va_P D vwCl ws H) (hD : va_D A0 ws) (hK : va_K D vwCl tys s) (hS : va_S A0 H0 H locs) (hA : ∀ q, H0.size ≤ q → A0 q)
    (isC isR isK : List Nat) (hC : isC.map (fun i => ws[i]?) = wc.map some) {wr : va_W} (hR : isR.map (fun i => ws[i]?) = wr.map some) (hnc : va_nd isC = true) (hnr : va_nd isR = true) (hdis : ∀ i ∈ isR, i ∉ isC) (hk : isK.filterMap (fun i => tys[i]?) = tyc) (hcl : vwCl[ci]? = some (C, T, NN)) (iB : Nat) (hrec : wc[iB]? = some (b, .inr (ci, fs)))
    (hsz : ls.size = nL) (hst : st0 = As.reverse ++ .ref b :: rest) (hrm : (rest.map fun v => v.category).sum ≤ 8) (hdg : decode cc pc = .ok (.invokevirtual idx, 3))
    (kk : ∀ (r : Int32) (u : S) (H1 : Heap) (locs1 : List Loc), post r u → va_P D vwCl (wr ++ wo u) H1 → va_D A0 (wr ++ wo u) → va_K D vwCl (tys ++ to u) s → va_S A0 H0 H1 locs1 → W p l e R s m args below meth c H1 locs1 (cells + mc) (slots + ms) Q (F0 m (pc + 3) ls (.int r :: rest))) :
    W p l e R s m args below meth c H locs cells slots Q (F0 m pc ls st0) := by
  have hPc := hP.sub (ws' := wc) isC (fm_of_map hC)
  have hDc := hD.sub (ws' := wc) isC hnc hC
  have hKc := hK.sub (tys' := tyc) isK hk
  have hFc := va_free (wc := wc) hD hS hA isC hC
  refine va_calli (va_runV (As := As) (rest := rest) E hM ⟨callB_of n E.2.2.2.2 (gd_M hcd) rfl hmc hms (E.2.2.2.2 _ hini) (E.2.2.2.2 _ hli) hd ⟨hfr, hlo⟩, E.2.2.2.2 _ hin, E.2.2.2.2 _ hse⟩ ⟨pre0.blind, va_recv hKc hPc (ci := ci) (q0 := iB) hcl hrec, fun U hU hW => ⟨rfl, pre0.at hn hPc hKc hDc hU hW⟩⟩ rfl hAs hsz hst (lv_room hrm) hdg ⟨hcs, hss⟩) hS (fun q _ h => hFc q h) hFc (fun r u t H1 locs1 ht hvm hw hB hz1 hk1 hS1 => ?_)
  obtain ⟨hP1, hK1, hD1⟩ := hB
  rw [ht] at hP1
  have hK1 := va_K.moved hvm.symm hK1
  obtain ⟨hPn, hDn⟩ := va_join (wr := wr) (w1 := wo u) hP hD isC isR hC hR hnr hdis hk1 hFc hP1 hD1
  exact kk r u H1 locs1 hw hPn hDn (hK.app hK1) hS1

set_option maxHeartbeats 1000000 in
theorem kVv {p : Program} {l : Launch} {e : Env} {R : Room} {s : State} {m : MethodId} {args : Array Value} {below : List Frame} {meth : Method} {c : Code} {H : Heap} {locs : List Loc} {cells slots : Nat} {Q : State → Prop} {cc cy : ByteArray} {nL ny idx mc ms n : Nat} {own : String} {y : MethodName} {rm : Room} {D : va_G} {A0 : Nat → Prop} {H0 : Heap} {S : Type} {post : S → Prop} {wo : S → va_W} {to : S → List (ClassId × FieldType)} {pc : Nat} {ls : Array Slot} {st0 rest As : List Value} {b : Nat} {ws wc : va_W} {tys tyc : List (ClassId × FieldType)} {C : String} {ci : Nat} {T : u_T} {NN : Nat} {fs : List Value}
    (E : CallFix p m c cc nL s args wsL_law own) (hn : nw s) (hM : Cv l D y cy ny rm (.ref b :: As) tyc wc H.size mc ms S post wo to)
    (hcd : Cond.code y cy ny none ∈ wsL_law) (hini : Cond.initialized y.cls ∈ wsL_law) (hli : Cond.methodLink own idx y ∈ wsL_law) (hin : Cond.instanceMethod y ∈ wsL_law) (hse : Cond.selects C y y ∈ wsL_law)
    (hd : y.cls ≠ "java/lang/invoke/MethodHandle" ∧ y.cls ≠ "java/lang/invoke/VarHandle" ∧ (parseMethodDescriptor y.desc).map (fun d => d.parameters.length) = some n) (hAs : As.length = n)
    (hfr : rm.frames + 1 ≤ R.frames) (hlo : 8 + (ny + 11) + rm.locals ≤ R.locals) (hmc : rm.cells = mc) (hms : rm.slots = ms) (hcs : cells + mc ≤ R.cells) (hss : slots + ms ≤ R.slots)
    (hP : va_P D vwCl ws H) (hD : va_D A0 ws) (hK : va_K D vwCl tys s) (hS : va_S A0 H0 H locs) (hA : ∀ q, H0.size ≤ q → A0 q)
    (isC isR isK : List Nat) (hC : isC.map (fun i => ws[i]?) = wc.map some) {wr : va_W} (hR : isR.map (fun i => ws[i]?) = wr.map some) (hnc : va_nd isC = true) (hnr : va_nd isR = true) (hdis : ∀ i ∈ isR, i ∉ isC) (hk : isK.filterMap (fun i => tys[i]?) = tyc) (hcl : vwCl[ci]? = some (C, T, NN)) (iB : Nat) (hrec : wc[iB]? = some (b, .inr (ci, fs)))
    (hsz : ls.size = nL) (hst : st0 = As.reverse ++ .ref b :: rest) (hrm : (rest.map fun v => v.category).sum ≤ 8) (hdg : decode cc pc = .ok (.invokevirtual idx, 3))
    (kk : ∀ (u : S) (H1 : Heap) (locs1 : List Loc), post u → va_P D vwCl (wr ++ wo u) H1 → va_D A0 (wr ++ wo u) → va_K D vwCl (tys ++ to u) s → va_S A0 H0 H1 locs1 → W p l e R s m args below meth c H1 locs1 (cells + mc) (slots + ms) Q (F0 m (pc + 3) ls (rest))) :
    W p l e R s m args below meth c H locs cells slots Q (F0 m pc ls st0) := by
  have hPc := hP.sub (ws' := wc) isC (fm_of_map hC)
  have hDc := hD.sub (ws' := wc) isC hnc hC
  have hKc := hK.sub (tys' := tyc) isK hk
  have hFc := va_free (wc := wc) hD hS hA isC hC
  refine va_callv (va_runV (As := As) (rest := rest) E hM ⟨callB_of n E.2.2.2.2 (gd_M hcd) rfl hmc hms (E.2.2.2.2 _ hini) (E.2.2.2.2 _ hli) hd ⟨hfr, hlo⟩, E.2.2.2.2 _ hin, E.2.2.2.2 _ hse⟩ ⟨pre0.blind, va_recv hKc hPc (ci := ci) (q0 := iB) hcl hrec, fun U hU hW => ⟨rfl, pre0.at hn hPc hKc hDc hU hW⟩⟩ rfl hAs hsz hst (lv_room hrm) hdg ⟨hcs, hss⟩) hS (fun q _ h => hFc q h) hFc (fun u t H1 locs1 ht hvm hw hB hz1 hk1 hS1 => ?_)
  obtain ⟨hP1, hK1, hD1⟩ := hB
  rw [ht] at hP1
  have hK1 := va_K.moved hvm.symm hK1
  obtain ⟨hPn, hDn⟩ := va_join (wr := wr) (w1 := wo u) hP hD isC isR hC hR hnr hdis hk1 hFc hP1 hD1
  exact kk u H1 locs1 hw hPn hDn (hK.app hK1) hS1

set_option maxHeartbeats 1000000 in
theorem kVNi {p : Program} {l : Launch} {e : Env} {R : Room} {s : State} {m : MethodId} {args : Array Value} {below : List Frame} {meth : Method} {c : Code} {H : Heap} {locs : List Loc} {cells slots : Nat} {Q : State → Prop} {cc cy : ByteArray} {nL ny idx mc ms n : Nat} {own : String} {y : MethodName} {host : String} {r0 : Option FieldType} {rm : Room} {D : va_G} {A0 : Nat → Prop} {H0 : Heap} {S : Type} {post : Int32 → S → Prop} {wo : S → va_W} {to : S → List (ClassId × FieldType)} {pc : Nat} {ls : Array Slot} {st0 rest As : List Value} {b : Nat} {ws wc : va_W} {tys tyc : List (ClassId × FieldType)} {C : String} {ci : Nat} {T : u_T} {NN : Nat} {fs : List Value}
    (E : CallFix p m c cc nL s args wsL_law own) (hn : nw s) (hM : Ci l D y cy ny r0 rm (.ref b :: As) tyc wc H.size mc ms S post wo to)
    (hcd : Cond.code y cy ny r0 ∈ wsL_law) (hini : Cond.initialized y.cls ∈ wsL_law) (hli : (own, idx, y, host) ∈ nM) (hin : Cond.instanceMethod y ∈ wsL_law) (hse : Cond.selects C y y ∈ wsL_law)
    (hd : y.cls ≠ "java/lang/invoke/MethodHandle" ∧ y.cls ≠ "java/lang/invoke/VarHandle" ∧ (parseMethodDescriptor y.desc).map (fun d => d.parameters.length) = some n) (hAs : As.length = n)
    (hfr : rm.frames + 1 ≤ R.frames) (hlo : 8 + (ny + 11) + rm.locals ≤ R.locals) (hmc : rm.cells = mc) (hms : rm.slots = ms) (hcs : cells + mc ≤ R.cells) (hss : slots + ms ≤ R.slots)
    (hP : va_P D vwCl ws H) (hD : va_D A0 ws) (hK : va_K D vwCl tys s) (hS : va_S A0 H0 H locs) (hA : ∀ q, H0.size ≤ q → A0 q)
    (isC isR isK : List Nat) (hC : isC.map (fun i => ws[i]?) = wc.map some) {wr : va_W} (hR : isR.map (fun i => ws[i]?) = wr.map some) (hnc : va_nd isC = true) (hnr : va_nd isR = true) (hdis : ∀ i ∈ isR, i ∉ isC) (hk : isK.filterMap (fun i => tys[i]?) = tyc) (hcl : vwCl[ci]? = some (C, T, NN)) (iB : Nat) (hrec : wc[iB]? = some (b, .inr (ci, fs)))
    (hsz : ls.size = nL) (hst : st0 = As.reverse ++ .ref b :: rest) (hrm : (rest.map fun v => v.category).sum ≤ 8) (hdg : decode cc pc = .ok (.invokevirtual idx, 3))
    (kk : ∀ (r : Int32) (u : S) (H1 : Heap) (locs1 : List Loc), post r u → va_P D vwCl (wr ++ wo u) H1 → va_D A0 (wr ++ wo u) → va_K D vwCl (tys ++ to u) s → va_S A0 H0 H1 locs1 → W p l e R s m args below meth c H1 locs1 (cells + mc) (slots + ms) Q (F0 m (pc + 3) ls (.int r :: rest))) :
    W p l e R s m args below meth c H locs cells slots Q (F0 m pc ls st0) := by
  have hPc := hP.sub (ws' := wc) isC (fm_of_map hC)
  have hDc := hD.sub (ws' := wc) isC hnc hC
  have hKc := hK.sub (tys' := tyc) isK hk
  have hFc := va_free (wc := wc) hD hS hA isC hC
  refine va_calli (va_runVN (As := As) (rest := rest) E hM ⟨va_cnB n E.2.2.2.2 (gd_M hcd) rfl hmc hms (hn.m hli) (E.2.2.2.2 _ hini) hd ⟨hfr, hlo⟩, E.2.2.2.2 _ hin, E.2.2.2.2 _ hse⟩ ⟨pre0.blind, va_recv hKc hPc (ci := ci) (q0 := iB) hcl hrec, fun U hU hW => ⟨rfl, pre0.at hn hPc hKc hDc hU hW⟩⟩ rfl hAs hsz hst (lv_room hrm) hdg ⟨hcs, hss⟩) hS (fun q _ h => hFc q h) hFc (fun r u t H1 locs1 ht hvm hw hB hz1 hk1 hS1 => ?_)
  obtain ⟨hP1, hK1, hD1⟩ := hB
  rw [ht] at hP1
  have hK1 := va_K.moved hvm.symm hK1
  obtain ⟨hPn, hDn⟩ := va_join (wr := wr) (w1 := wo u) hP hD isC isR hC hR hnr hdis hk1 hFc hP1 hD1
  exact kk r u H1 locs1 hw hPn hDn (hK.app hK1) hS1

set_option maxHeartbeats 1000000 in
theorem kVNv {p : Program} {l : Launch} {e : Env} {R : Room} {s : State} {m : MethodId} {args : Array Value} {below : List Frame} {meth : Method} {c : Code} {H : Heap} {locs : List Loc} {cells slots : Nat} {Q : State → Prop} {cc cy : ByteArray} {nL ny idx mc ms n : Nat} {own : String} {y : MethodName} {host : String} {rm : Room} {D : va_G} {A0 : Nat → Prop} {H0 : Heap} {S : Type} {post : S → Prop} {wo : S → va_W} {to : S → List (ClassId × FieldType)} {pc : Nat} {ls : Array Slot} {st0 rest As : List Value} {b : Nat} {ws wc : va_W} {tys tyc : List (ClassId × FieldType)} {C : String} {ci : Nat} {T : u_T} {NN : Nat} {fs : List Value}
    (E : CallFix p m c cc nL s args wsL_law own) (hn : nw s) (hM : Cv l D y cy ny rm (.ref b :: As) tyc wc H.size mc ms S post wo to)
    (hcd : Cond.code y cy ny none ∈ wsL_law) (hini : Cond.initialized y.cls ∈ wsL_law) (hli : (own, idx, y, host) ∈ nM) (hin : Cond.instanceMethod y ∈ wsL_law) (hse : Cond.selects C y y ∈ wsL_law)
    (hd : y.cls ≠ "java/lang/invoke/MethodHandle" ∧ y.cls ≠ "java/lang/invoke/VarHandle" ∧ (parseMethodDescriptor y.desc).map (fun d => d.parameters.length) = some n) (hAs : As.length = n)
    (hfr : rm.frames + 1 ≤ R.frames) (hlo : 8 + (ny + 11) + rm.locals ≤ R.locals) (hmc : rm.cells = mc) (hms : rm.slots = ms) (hcs : cells + mc ≤ R.cells) (hss : slots + ms ≤ R.slots)
    (hP : va_P D vwCl ws H) (hD : va_D A0 ws) (hK : va_K D vwCl tys s) (hS : va_S A0 H0 H locs) (hA : ∀ q, H0.size ≤ q → A0 q)
    (isC isR isK : List Nat) (hC : isC.map (fun i => ws[i]?) = wc.map some) {wr : va_W} (hR : isR.map (fun i => ws[i]?) = wr.map some) (hnc : va_nd isC = true) (hnr : va_nd isR = true) (hdis : ∀ i ∈ isR, i ∉ isC) (hk : isK.filterMap (fun i => tys[i]?) = tyc) (hcl : vwCl[ci]? = some (C, T, NN)) (iB : Nat) (hrec : wc[iB]? = some (b, .inr (ci, fs)))
    (hsz : ls.size = nL) (hst : st0 = As.reverse ++ .ref b :: rest) (hrm : (rest.map fun v => v.category).sum ≤ 8) (hdg : decode cc pc = .ok (.invokevirtual idx, 3))
    (kk : ∀ (u : S) (H1 : Heap) (locs1 : List Loc), post u → va_P D vwCl (wr ++ wo u) H1 → va_D A0 (wr ++ wo u) → va_K D vwCl (tys ++ to u) s → va_S A0 H0 H1 locs1 → W p l e R s m args below meth c H1 locs1 (cells + mc) (slots + ms) Q (F0 m (pc + 3) ls (rest))) :
    W p l e R s m args below meth c H locs cells slots Q (F0 m pc ls st0) := by
  have hPc := hP.sub (ws' := wc) isC (fm_of_map hC)
  have hDc := hD.sub (ws' := wc) isC hnc hC
  have hKc := hK.sub (tys' := tyc) isK hk
  have hFc := va_free (wc := wc) hD hS hA isC hC
  refine va_callv (va_runVN (As := As) (rest := rest) E hM ⟨va_cnB n E.2.2.2.2 (gd_M hcd) rfl hmc hms (hn.m hli) (E.2.2.2.2 _ hini) hd ⟨hfr, hlo⟩, E.2.2.2.2 _ hin, E.2.2.2.2 _ hse⟩ ⟨pre0.blind, va_recv hKc hPc (ci := ci) (q0 := iB) hcl hrec, fun U hU hW => ⟨rfl, pre0.at hn hPc hKc hDc hU hW⟩⟩ rfl hAs hsz hst (lv_room hrm) hdg ⟨hcs, hss⟩) hS (fun q _ h => hFc q h) hFc (fun u t H1 locs1 ht hvm hw hB hz1 hk1 hS1 => ?_)
  obtain ⟨hP1, hK1, hD1⟩ := hB
  rw [ht] at hP1
  have hK1 := va_K.moved hvm.symm hK1
  obtain ⟨hPn, hDn⟩ := va_join (wr := wr) (w1 := wo u) hP hD isC isR hC hR hnr hdis hk1 hFc hP1 hD1
  exact kk u H1 locs1 hw hPn hDn (hK.app hK1) hS1

set_option maxHeartbeats 1000000 in
theorem kSi {p : Program} {l : Launch} {e : Env} {R : Room} {s : State} {m : MethodId} {args : Array Value} {below : List Frame} {meth : Method} {c : Code} {H : Heap} {locs : List Loc} {cells slots : Nat} {Q : State → Prop} {cc cy : ByteArray} {nL ny idx mc ms n : Nat} {own : String} {y : MethodName} {r0 : Option FieldType} {rm : Room} {D : va_G} {A0 : Nat → Prop} {H0 : Heap} {S : Type} {post : Int32 → S → Prop} {wo : S → va_W} {to : S → List (ClassId × FieldType)} {pc : Nat} {ls : Array Slot} {st0 rest As : List Value} {b : Nat} {ws wc : va_W} {tys tyc : List (ClassId × FieldType)} 
    (E : CallFix p m c cc nL s args wsL_law own) (hn : nw s) (hM : Ci l D y cy ny r0 rm (As) tyc wc H.size mc ms S post wo to)
    (hcd : Cond.code y cy ny r0 ∈ wsL_law) (hini : Cond.initialized y.cls ∈ wsL_law) (hli : Cond.methodLink own idx y ∈ wsL_law) (hstt : Cond.static y ∈ wsL_law)
    (hd : y.cls ≠ "java/lang/invoke/MethodHandle" ∧ y.cls ≠ "java/lang/invoke/VarHandle" ∧ (parseMethodDescriptor y.desc).map (fun d => d.parameters.length) = some n) (hAs : As.length = n)
    (hfr : rm.frames + 1 ≤ R.frames) (hlo : 8 + (ny + 11) + rm.locals ≤ R.locals) (hmc : rm.cells = mc) (hms : rm.slots = ms) (hcs : cells + mc ≤ R.cells) (hss : slots + ms ≤ R.slots)
    (hP : va_P D vwCl ws H) (hD : va_D A0 ws) (hK : va_K D vwCl tys s) (hS : va_S A0 H0 H locs) (hA : ∀ q, H0.size ≤ q → A0 q)
    (isC isR isK : List Nat) (hC : isC.map (fun i => ws[i]?) = wc.map some) {wr : va_W} (hR : isR.map (fun i => ws[i]?) = wr.map some) (hnc : va_nd isC = true) (hnr : va_nd isR = true) (hdis : ∀ i ∈ isR, i ∉ isC) (hk : isK.filterMap (fun i => tys[i]?) = tyc) 
    (hsz : ls.size = nL) (hst : st0 = As.reverse ++ rest) (hrm : (rest.map fun v => v.category).sum ≤ 8) (hdg : decode cc pc = .ok (.invokestatic idx, 3))
    (kk : ∀ (r : Int32) (u : S) (H1 : Heap) (locs1 : List Loc), post r u → va_P D vwCl (wr ++ wo u) H1 → va_D A0 (wr ++ wo u) → va_K D vwCl (tys ++ to u) s → va_S A0 H0 H1 locs1 → W p l e R s m args below meth c H1 locs1 (cells + mc) (slots + ms) Q (F0 m (pc + 3) ls (.int r :: rest))) :
    W p l e R s m args below meth c H locs cells slots Q (F0 m pc ls st0) := by
  have hPc := hP.sub (ws' := wc) isC (fm_of_map hC)
  have hDc := hD.sub (ws' := wc) isC hnc hC
  have hKc := hK.sub (tys' := tyc) isK hk
  have hFc := va_free (wc := wc) hD hS hA isC hC
  refine va_calli (va_runS (As := As) (rest := rest) E hM ⟨callB_of n E.2.2.2.2 (gd_M hcd) rfl hmc hms (E.2.2.2.2 _ hini) (E.2.2.2.2 _ hli) hd ⟨hfr, hlo⟩, E.2.2.2.2 _ hstt⟩ ⟨pre0.blind, fun U hU hW => ⟨rfl, pre0.at hn hPc hKc hDc hU hW⟩⟩ rfl hAs hsz hst (lv_room hrm) hdg ⟨hcs, hss⟩) hS (fun q _ h => hFc q h) hFc (fun r u t H1 locs1 ht hvm hw hB hz1 hk1 hS1 => ?_)
  obtain ⟨hP1, hK1, hD1⟩ := hB
  rw [ht] at hP1
  have hK1 := va_K.moved hvm.symm hK1
  obtain ⟨hPn, hDn⟩ := va_join (wr := wr) (w1 := wo u) hP hD isC isR hC hR hnr hdis hk1 hFc hP1 hD1
  exact kk r u H1 locs1 hw hPn hDn (hK.app hK1) hS1

set_option maxHeartbeats 1000000 in
theorem kSv {p : Program} {l : Launch} {e : Env} {R : Room} {s : State} {m : MethodId} {args : Array Value} {below : List Frame} {meth : Method} {c : Code} {H : Heap} {locs : List Loc} {cells slots : Nat} {Q : State → Prop} {cc cy : ByteArray} {nL ny idx mc ms n : Nat} {own : String} {y : MethodName} {rm : Room} {D : va_G} {A0 : Nat → Prop} {H0 : Heap} {S : Type} {post : S → Prop} {wo : S → va_W} {to : S → List (ClassId × FieldType)} {pc : Nat} {ls : Array Slot} {st0 rest As : List Value} {b : Nat} {ws wc : va_W} {tys tyc : List (ClassId × FieldType)} 
    (E : CallFix p m c cc nL s args wsL_law own) (hn : nw s) (hM : Cv l D y cy ny rm (As) tyc wc H.size mc ms S post wo to)
    (hcd : Cond.code y cy ny none ∈ wsL_law) (hini : Cond.initialized y.cls ∈ wsL_law) (hli : Cond.methodLink own idx y ∈ wsL_law) (hstt : Cond.static y ∈ wsL_law)
    (hd : y.cls ≠ "java/lang/invoke/MethodHandle" ∧ y.cls ≠ "java/lang/invoke/VarHandle" ∧ (parseMethodDescriptor y.desc).map (fun d => d.parameters.length) = some n) (hAs : As.length = n)
    (hfr : rm.frames + 1 ≤ R.frames) (hlo : 8 + (ny + 11) + rm.locals ≤ R.locals) (hmc : rm.cells = mc) (hms : rm.slots = ms) (hcs : cells + mc ≤ R.cells) (hss : slots + ms ≤ R.slots)
    (hP : va_P D vwCl ws H) (hD : va_D A0 ws) (hK : va_K D vwCl tys s) (hS : va_S A0 H0 H locs) (hA : ∀ q, H0.size ≤ q → A0 q)
    (isC isR isK : List Nat) (hC : isC.map (fun i => ws[i]?) = wc.map some) {wr : va_W} (hR : isR.map (fun i => ws[i]?) = wr.map some) (hnc : va_nd isC = true) (hnr : va_nd isR = true) (hdis : ∀ i ∈ isR, i ∉ isC) (hk : isK.filterMap (fun i => tys[i]?) = tyc) 
    (hsz : ls.size = nL) (hst : st0 = As.reverse ++ rest) (hrm : (rest.map fun v => v.category).sum ≤ 8) (hdg : decode cc pc = .ok (.invokestatic idx, 3))
    (kk : ∀ (u : S) (H1 : Heap) (locs1 : List Loc), post u → va_P D vwCl (wr ++ wo u) H1 → va_D A0 (wr ++ wo u) → va_K D vwCl (tys ++ to u) s → va_S A0 H0 H1 locs1 → W p l e R s m args below meth c H1 locs1 (cells + mc) (slots + ms) Q (F0 m (pc + 3) ls (rest))) :
    W p l e R s m args below meth c H locs cells slots Q (F0 m pc ls st0) := by
  have hPc := hP.sub (ws' := wc) isC (fm_of_map hC)
  have hDc := hD.sub (ws' := wc) isC hnc hC
  have hKc := hK.sub (tys' := tyc) isK hk
  have hFc := va_free (wc := wc) hD hS hA isC hC
  refine va_callv (va_runS (As := As) (rest := rest) E hM ⟨callB_of n E.2.2.2.2 (gd_M hcd) rfl hmc hms (E.2.2.2.2 _ hini) (E.2.2.2.2 _ hli) hd ⟨hfr, hlo⟩, E.2.2.2.2 _ hstt⟩ ⟨pre0.blind, fun U hU hW => ⟨rfl, pre0.at hn hPc hKc hDc hU hW⟩⟩ rfl hAs hsz hst (lv_room hrm) hdg ⟨hcs, hss⟩) hS (fun q _ h => hFc q h) hFc (fun u t H1 locs1 ht hvm hw hB hz1 hk1 hS1 => ?_)
  obtain ⟨hP1, hK1, hD1⟩ := hB
  rw [ht] at hP1
  have hK1 := va_K.moved hvm.symm hK1
  obtain ⟨hPn, hDn⟩ := va_join (wr := wr) (w1 := wo u) hP hD isC isR hC hR hnr hdis hk1 hFc hP1 hD1
  exact kk u H1 locs1 hw hPn hDn (hK.app hK1) hS1

set_option maxHeartbeats 1000000 in
theorem kSNi {p : Program} {l : Launch} {e : Env} {R : Room} {s : State} {m : MethodId} {args : Array Value} {below : List Frame} {meth : Method} {c : Code} {H : Heap} {locs : List Loc} {cells slots : Nat} {Q : State → Prop} {cc cy : ByteArray} {nL ny idx mc ms n : Nat} {own : String} {y : MethodName} {host : String} {r0 : Option FieldType} {rm : Room} {D : va_G} {A0 : Nat → Prop} {H0 : Heap} {S : Type} {post : Int32 → S → Prop} {wo : S → va_W} {to : S → List (ClassId × FieldType)} {pc : Nat} {ls : Array Slot} {st0 rest As : List Value} {b : Nat} {ws wc : va_W} {tys tyc : List (ClassId × FieldType)} 
    (E : CallFix p m c cc nL s args wsL_law own) (hn : nw s) (hM : Ci l D y cy ny r0 rm (As) tyc wc H.size mc ms S post wo to)
    (hcd : Cond.code y cy ny r0 ∈ wsL_law) (hini : Cond.initialized y.cls ∈ wsL_law) (hli : (own, idx, y, host) ∈ nM) (hstt : Cond.static y ∈ wsL_law)
    (hd : y.cls ≠ "java/lang/invoke/MethodHandle" ∧ y.cls ≠ "java/lang/invoke/VarHandle" ∧ (parseMethodDescriptor y.desc).map (fun d => d.parameters.length) = some n) (hAs : As.length = n)
    (hfr : rm.frames + 1 ≤ R.frames) (hlo : 8 + (ny + 11) + rm.locals ≤ R.locals) (hmc : rm.cells = mc) (hms : rm.slots = ms) (hcs : cells + mc ≤ R.cells) (hss : slots + ms ≤ R.slots)
    (hP : va_P D vwCl ws H) (hD : va_D A0 ws) (hK : va_K D vwCl tys s) (hS : va_S A0 H0 H locs) (hA : ∀ q, H0.size ≤ q → A0 q)
    (isC isR isK : List Nat) (hC : isC.map (fun i => ws[i]?) = wc.map some) {wr : va_W} (hR : isR.map (fun i => ws[i]?) = wr.map some) (hnc : va_nd isC = true) (hnr : va_nd isR = true) (hdis : ∀ i ∈ isR, i ∉ isC) (hk : isK.filterMap (fun i => tys[i]?) = tyc) 
    (hsz : ls.size = nL) (hst : st0 = As.reverse ++ rest) (hrm : (rest.map fun v => v.category).sum ≤ 8) (hdg : decode cc pc = .ok (.invokestatic idx, 3))
    (kk : ∀ (r : Int32) (u : S) (H1 : Heap) (locs1 : List Loc), post r u → va_P D vwCl (wr ++ wo u) H1 → va_D A0 (wr ++ wo u) → va_K D vwCl (tys ++ to u) s → va_S A0 H0 H1 locs1 → W p l e R s m args below meth c H1 locs1 (cells + mc) (slots + ms) Q (F0 m (pc + 3) ls (.int r :: rest))) :
    W p l e R s m args below meth c H locs cells slots Q (F0 m pc ls st0) := by
  have hPc := hP.sub (ws' := wc) isC (fm_of_map hC)
  have hDc := hD.sub (ws' := wc) isC hnc hC
  have hKc := hK.sub (tys' := tyc) isK hk
  have hFc := va_free (wc := wc) hD hS hA isC hC
  refine va_calli (va_runSN (As := As) (rest := rest) E hM ⟨va_cnB n E.2.2.2.2 (gd_M hcd) rfl hmc hms (hn.m hli) (E.2.2.2.2 _ hini) hd ⟨hfr, hlo⟩, E.2.2.2.2 _ hstt, trivial⟩ ⟨pre0.blind, fun U hU hW => ⟨rfl, pre0.at hn hPc hKc hDc hU hW⟩⟩ rfl hAs hsz hst (lv_room hrm) hdg ⟨hcs, hss⟩) hS (fun q _ h => hFc q h) hFc (fun r u t H1 locs1 ht hvm hw hB hz1 hk1 hS1 => ?_)
  obtain ⟨hP1, hK1, hD1⟩ := hB
  rw [ht] at hP1
  have hK1 := va_K.moved hvm.symm hK1
  obtain ⟨hPn, hDn⟩ := va_join (wr := wr) (w1 := wo u) hP hD isC isR hC hR hnr hdis hk1 hFc hP1 hD1
  exact kk r u H1 locs1 hw hPn hDn (hK.app hK1) hS1

set_option maxHeartbeats 1000000 in
theorem kSNv {p : Program} {l : Launch} {e : Env} {R : Room} {s : State} {m : MethodId} {args : Array Value} {below : List Frame} {meth : Method} {c : Code} {H : Heap} {locs : List Loc} {cells slots : Nat} {Q : State → Prop} {cc cy : ByteArray} {nL ny idx mc ms n : Nat} {own : String} {y : MethodName} {host : String} {rm : Room} {D : va_G} {A0 : Nat → Prop} {H0 : Heap} {S : Type} {post : S → Prop} {wo : S → va_W} {to : S → List (ClassId × FieldType)} {pc : Nat} {ls : Array Slot} {st0 rest As : List Value} {b : Nat} {ws wc : va_W} {tys tyc : List (ClassId × FieldType)} 
    (E : CallFix p m c cc nL s args wsL_law own) (hn : nw s) (hM : Cv l D y cy ny rm (As) tyc wc H.size mc ms S post wo to)
    (hcd : Cond.code y cy ny none ∈ wsL_law) (hini : Cond.initialized y.cls ∈ wsL_law) (hli : (own, idx, y, host) ∈ nM) (hstt : Cond.static y ∈ wsL_law)
    (hd : y.cls ≠ "java/lang/invoke/MethodHandle" ∧ y.cls ≠ "java/lang/invoke/VarHandle" ∧ (parseMethodDescriptor y.desc).map (fun d => d.parameters.length) = some n) (hAs : As.length = n)
    (hfr : rm.frames + 1 ≤ R.frames) (hlo : 8 + (ny + 11) + rm.locals ≤ R.locals) (hmc : rm.cells = mc) (hms : rm.slots = ms) (hcs : cells + mc ≤ R.cells) (hss : slots + ms ≤ R.slots)
    (hP : va_P D vwCl ws H) (hD : va_D A0 ws) (hK : va_K D vwCl tys s) (hS : va_S A0 H0 H locs) (hA : ∀ q, H0.size ≤ q → A0 q)
    (isC isR isK : List Nat) (hC : isC.map (fun i => ws[i]?) = wc.map some) {wr : va_W} (hR : isR.map (fun i => ws[i]?) = wr.map some) (hnc : va_nd isC = true) (hnr : va_nd isR = true) (hdis : ∀ i ∈ isR, i ∉ isC) (hk : isK.filterMap (fun i => tys[i]?) = tyc) 
    (hsz : ls.size = nL) (hst : st0 = As.reverse ++ rest) (hrm : (rest.map fun v => v.category).sum ≤ 8) (hdg : decode cc pc = .ok (.invokestatic idx, 3))
    (kk : ∀ (u : S) (H1 : Heap) (locs1 : List Loc), post u → va_P D vwCl (wr ++ wo u) H1 → va_D A0 (wr ++ wo u) → va_K D vwCl (tys ++ to u) s → va_S A0 H0 H1 locs1 → W p l e R s m args below meth c H1 locs1 (cells + mc) (slots + ms) Q (F0 m (pc + 3) ls (rest))) :
    W p l e R s m args below meth c H locs cells slots Q (F0 m pc ls st0) := by
  have hPc := hP.sub (ws' := wc) isC (fm_of_map hC)
  have hDc := hD.sub (ws' := wc) isC hnc hC
  have hKc := hK.sub (tys' := tyc) isK hk
  have hFc := va_free (wc := wc) hD hS hA isC hC
  refine va_callv (va_runSN (As := As) (rest := rest) E hM ⟨va_cnB n E.2.2.2.2 (gd_M hcd) rfl hmc hms (hn.m hli) (E.2.2.2.2 _ hini) hd ⟨hfr, hlo⟩, E.2.2.2.2 _ hstt, trivial⟩ ⟨pre0.blind, fun U hU hW => ⟨rfl, pre0.at hn hPc hKc hDc hU hW⟩⟩ rfl hAs hsz hst (lv_room hrm) hdg ⟨hcs, hss⟩) hS (fun q _ h => hFc q h) hFc (fun u t H1 locs1 ht hvm hw hB hz1 hk1 hS1 => ?_)
  obtain ⟨hP1, hK1, hD1⟩ := hB
  rw [ht] at hP1
  have hK1 := va_K.moved hvm.symm hK1
  obtain ⟨hPn, hDn⟩ := va_join (wr := wr) (w1 := wo u) hP hD isC isR hC hR hnr hdis hk1 hFc hP1 hD1
  exact kk u H1 locs1 hw hPn hDn (hK.app hK1) hS1

set_option maxHeartbeats 1000000 in
theorem kIv {p : Program} {l : Launch} {e : Env} {R : Room} {s : State} {m : MethodId} {args : Array Value} {below : List Frame} {meth : Method} {c : Code} {H : Heap} {locs : List Loc} {cells slots : Nat} {Q : State → Prop} {cc cy : ByteArray} {nL ny idx mc ms n : Nat} {own : String} {y : MethodName} {rm : Room} {D : va_G} {A0 : Nat → Prop} {H0 : Heap} {S : Type} {post : S → Prop} {wo : S → va_W} {to : S → List (ClassId × FieldType)} {pc : Nat} {ls : Array Slot} {st0 rest As : List Value} {b : Nat} {ws wc : va_W} {tys tyc : List (ClassId × FieldType)} 
    (E : CallFix p m c cc nL s args wsL_law own) (hn : nw s) (hM : Cv l D y cy ny rm (.ref b :: As) tyc wc H.size mc ms S post wo to)
    (hcd : Cond.code y cy ny none ∈ wsL_law) (hini : Cond.initialized y.cls ∈ wsL_law) (hli : Cond.methodLink own idx y ∈ wsL_law) (hin : Cond.instanceMethod y ∈ wsL_law) (hnm : y.name = "<init>")
    (hd : y.cls ≠ "java/lang/invoke/MethodHandle" ∧ y.cls ≠ "java/lang/invoke/VarHandle" ∧ (parseMethodDescriptor y.desc).map (fun d => d.parameters.length) = some n) (hAs : As.length = n)
    (hfr : rm.frames + 1 ≤ R.frames) (hlo : 8 + (ny + 11) + rm.locals ≤ R.locals) (hmc : rm.cells = mc) (hms : rm.slots = ms) (hcs : cells + mc ≤ R.cells) (hss : slots + ms ≤ R.slots)
    (hP : va_P D vwCl ws H) (hD : va_D A0 ws) (hK : va_K D vwCl tys s) (hS : va_S A0 H0 H locs) (hA : ∀ q, H0.size ≤ q → A0 q)
    (isC isR isK : List Nat) (hC : isC.map (fun i => ws[i]?) = wc.map some) {wr : va_W} (hR : isR.map (fun i => ws[i]?) = wr.map some) (hnc : va_nd isC = true) (hnr : va_nd isR = true) (hdis : ∀ i ∈ isR, i ∉ isC) (hk : isK.filterMap (fun i => tys[i]?) = tyc) 
    (hsz : ls.size = nL) (hst : st0 = As.reverse ++ .ref b :: rest) (hrm : (rest.map fun v => v.category).sum ≤ 8) (hdg : decode cc pc = .ok (.invokespecial idx, 3))
    (kk : ∀ (u : S) (H1 : Heap) (locs1 : List Loc), post u → va_P D vwCl (wr ++ wo u) H1 → va_D A0 (wr ++ wo u) → va_K D vwCl (tys ++ to u) s → va_S A0 H0 H1 locs1 → W p l e R s m args below meth c H1 locs1 (cells + mc) (slots + ms) Q (F0 m (pc + 3) ls (rest))) :
    W p l e R s m args below meth c H locs cells slots Q (F0 m pc ls st0) := by
  have hPc := hP.sub (ws' := wc) isC (fm_of_map hC)
  have hDc := hD.sub (ws' := wc) isC hnc hC
  have hKc := hK.sub (tys' := tyc) isK hk
  have hFc := va_free (wc := wc) hD hS hA isC hC
  refine va_callv (va_runI (As := As) (rest := rest) E hM ⟨callB_of n E.2.2.2.2 (gd_M hcd) rfl hmc hms (E.2.2.2.2 _ hini) (E.2.2.2.2 _ hli) hd ⟨hfr, hlo⟩, hnm, E.2.2.2.2 _ hin⟩ ⟨pre0.blind, fun U hU hW => ⟨rfl, pre0.at hn hPc hKc hDc hU hW⟩⟩ rfl hAs hsz hst (lv_room hrm) hdg ⟨hcs, hss⟩) hS (fun q _ h => hFc q h) hFc (fun u t H1 locs1 ht hvm hw hB hz1 hk1 hS1 => ?_)
  obtain ⟨hP1, hK1, hD1⟩ := hB
  rw [ht] at hP1
  have hK1 := va_K.moved hvm.symm hK1
  obtain ⟨hPn, hDn⟩ := va_join (wr := wr) (w1 := wo u) hP hD isC isR hC hR hnr hdis hk1 hFc hP1 hD1
  exact kk u H1 locs1 hw hPn hDn (hK.app hK1) hS1

set_option maxHeartbeats 1000000 in
theorem kINv {p : Program} {l : Launch} {e : Env} {R : Room} {s : State} {m : MethodId} {args : Array Value} {below : List Frame} {meth : Method} {c : Code} {H : Heap} {locs : List Loc} {cells slots : Nat} {Q : State → Prop} {cc cy : ByteArray} {nL ny idx mc ms n : Nat} {own : String} {y : MethodName} {host : String} {rm : Room} {D : va_G} {A0 : Nat → Prop} {H0 : Heap} {S : Type} {post : S → Prop} {wo : S → va_W} {to : S → List (ClassId × FieldType)} {pc : Nat} {ls : Array Slot} {st0 rest As : List Value} {b : Nat} {ws wc : va_W} {tys tyc : List (ClassId × FieldType)} 
    (E : CallFix p m c cc nL s args wsL_law own) (hn : nw s) (hM : Cv l D y cy ny rm (.ref b :: As) tyc wc H.size mc ms S post wo to)
    (hcd : Cond.code y cy ny none ∈ wsL_law) (hini : Cond.initialized y.cls ∈ wsL_law) (hli : (own, idx, y, host) ∈ nM) (hin : Cond.instanceMethod y ∈ wsL_law) (hnm : y.name = "<init>")
    (hd : y.cls ≠ "java/lang/invoke/MethodHandle" ∧ y.cls ≠ "java/lang/invoke/VarHandle" ∧ (parseMethodDescriptor y.desc).map (fun d => d.parameters.length) = some n) (hAs : As.length = n)
    (hfr : rm.frames + 1 ≤ R.frames) (hlo : 8 + (ny + 11) + rm.locals ≤ R.locals) (hmc : rm.cells = mc) (hms : rm.slots = ms) (hcs : cells + mc ≤ R.cells) (hss : slots + ms ≤ R.slots)
    (hP : va_P D vwCl ws H) (hD : va_D A0 ws) (hK : va_K D vwCl tys s) (hS : va_S A0 H0 H locs) (hA : ∀ q, H0.size ≤ q → A0 q)
    (isC isR isK : List Nat) (hC : isC.map (fun i => ws[i]?) = wc.map some) {wr : va_W} (hR : isR.map (fun i => ws[i]?) = wr.map some) (hnc : va_nd isC = true) (hnr : va_nd isR = true) (hdis : ∀ i ∈ isR, i ∉ isC) (hk : isK.filterMap (fun i => tys[i]?) = tyc) 
    (hsz : ls.size = nL) (hst : st0 = As.reverse ++ .ref b :: rest) (hrm : (rest.map fun v => v.category).sum ≤ 8) (hdg : decode cc pc = .ok (.invokespecial idx, 3))
    (kk : ∀ (u : S) (H1 : Heap) (locs1 : List Loc), post u → va_P D vwCl (wr ++ wo u) H1 → va_D A0 (wr ++ wo u) → va_K D vwCl (tys ++ to u) s → va_S A0 H0 H1 locs1 → W p l e R s m args below meth c H1 locs1 (cells + mc) (slots + ms) Q (F0 m (pc + 3) ls (rest))) :
    W p l e R s m args below meth c H locs cells slots Q (F0 m pc ls st0) := by
  have hPc := hP.sub (ws' := wc) isC (fm_of_map hC)
  have hDc := hD.sub (ws' := wc) isC hnc hC
  have hKc := hK.sub (tys' := tyc) isK hk
  have hFc := va_free (wc := wc) hD hS hA isC hC
  refine va_callv (va_runIN (As := As) (rest := rest) E hM ⟨va_cnB n E.2.2.2.2 (gd_M hcd) rfl hmc hms (hn.m hli) (E.2.2.2.2 _ hini) hd ⟨hfr, hlo⟩, hnm, E.2.2.2.2 _ hin⟩ ⟨pre0.blind, fun U hU hW => ⟨rfl, pre0.at hn hPc hKc hDc hU hW⟩⟩ rfl hAs hsz hst (lv_room hrm) hdg ⟨hcs, hss⟩) hS (fun q _ h => hFc q h) hFc (fun u t H1 locs1 ht hvm hw hB hz1 hk1 hS1 => ?_)
  obtain ⟨hP1, hK1, hD1⟩ := hB
  rw [ht] at hP1
  have hK1 := va_K.moved hvm.symm hK1
  obtain ⟨hPn, hDn⟩ := va_join (wr := wr) (w1 := wo u) hP hD isC isR hC hR hnr hdis hk1 hFc hP1 hD1
  exact kk u H1 locs1 hw hPn hDn (hK.app hK1) hS1


theorem P_nil {D : va_G} {H : Heap} : va_P D vwCl [] H := fun k q h => by simp at h
theorem D_nil {A : Nat → Prop} : va_D A [] := ⟨fun i j p q h => by simp at h, fun k q h => by simp at h⟩
theorem arr_congr {cA : ClassId} {n : Nat} {f g : Nat → Int32} (h : ∀ j, j < n → f j = g j) : vp_cell cA (n, .inl f) = vp_cell cA (n, .inl g) := by
  rw [vp_cell_i, vp_cell_i]
  unfold arrV
  congr 1
  apply Array.ext
  · simp
  · intro i h1 h2
    simp only [Array.getElem_ofFn]
    rw [h i (by simpa using h1)]
theorem fb_prop {cd : Prop} [Decidable cd] {r : Int32} (h : r = if cd then 1 else 0) : (r = 0 ↔ ¬ cd) := by
  by_cases hc : cd
  · simp [h, hc]
  · simp [h, hc]
def inR (a lo hi : Int32) : Prop := lo ≤ a ∧ a ≤ hi


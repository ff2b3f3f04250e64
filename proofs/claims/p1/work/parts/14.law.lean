-- ===== end of PART A; then your names; then what follows =====
/-! THE CLAIM OUT OF ONE WALK OF THE LAW'S BODY. Your part is whole_start (and what it stands on); all else here is the same for every law, but numbers. -/
def R_law : String := "LuteFingersLaw"
def lw_P (b : Addr) (xs : List Int32) (args : Array Value) (s : State) : Prop := args = #[.ref b] ∧ s.IntsAt b xs ∧ xs.length ≤ 5 ∧ (Jvm.Cond.and given_1 narrow_1).before args s = true
def lw_Q (_ : Array Value) (s : State) (o : Outcome) (t : State) : Prop := o = .returned (some (.int 1)) ∧ Framed s o t [] 600000 7302250
def lw_Z (below : List Frame) (a : Array Value) (s : State) : State → Prop := fun t => ∃ o, t.status = .running ∧ Ended t below o ∧ lw_Q a s o t
/-- the law's own end, with 1 on the stack, nothing written that was there before, its room as the claim has it -/
theorem lw_ret {p : Program} {l : Launch} {e : Env} {s : State} {m : MethodId} {below : List Frame} {meth : Method} {c : Code} {b : Nat} (hx : p.tables.exec = Jvm.exec) (hb : c.code = code) (hr : meth.sig.returnType = ret) (hlocks : meth.locks = false) {pc : Nat} {H : Heap} {ls : Array Slot} (hdg : decode code pc = .ok (.ireturn, 1)) : W p l e room_1 s m #[Value.ref b] below meth c H [] 600000 7302250 (lw_Z below #[Value.ref b] s) (F0 m pc ls [.int 1]) := by
  intro T hT X
  obtain ⟨fs, hret, hrun, hended, hW, hframe⟩ := X.leave (v := some (.int 1)) (hlocks := hlocks) (fun h => by rw [hr] at h; cases h)
  have hmeth' : T.vm.method? m = some meth := X.method'
  refine ⟨T.setFrames fs, ?_, .returned (some (.int 1)), hrun, hended, rfl, ⟨_, rfl⟩, hW, hframe⟩
  jvm_step X.here [X.here.top, hx, hb, hdg, hmeth', hr, ret, narrow_b1]
  (try refine ⟨rfl, ?_⟩); (try refine ⟨rfl, ?_⟩)
  first | (intro acts; rw [hret _ acts rfl rfl rfl]) | rw [hret _ _ rfl rfl rfl]
  exact Steps.refl _
/-- what holds at the law's entry: the machine, the code, the tables' words (any of lw_tbl by 'hts w (by decide +kernel)'), the script of L ints xs at the cell b, what the Statement gives of the start (any of its parts by flat_of_before) -/
def lw_At (p : Program) (s : State) (m : MethodId) (meth : Method) (c : Code) (b L : Nat) (xs : Nat → Int32) : Prop :=
  p.tables.exec = Jvm.exec ∧ c.code = code ∧ meth.sig.returnType = ret ∧ c.maxLocals = 4 ∧ s.vm.findClass R_law = some m.cls ∧ (∀ w ∈ lw_tbl, w.before #[Value.ref b] s = true) ∧ va_X b L xs s s.heap ∧ b < s.heap.size ∧ meth.locks = false ∧ (Jvm.Cond.and given_1 narrow_1).before #[Value.ref b] s = true

set_option maxHeartbeats 4000000 in
set_option maxRecDepth 100000 in
theorem law_end {p : Program} {l : Launch} {e : Env} {s : State} {m : MethodId} {below : List Frame} {meth : Method} {c : Code} {b : Nat} {xs : Nat → Int32} (C0 : lw_At p s m meth c b 5 xs) {H : Heap} {locs : List Loc} {ls : Array Slot} {r1 r2 : Nat} (hS : va_S (fun q : Nat => s.heap.size ≤ q) s.heap H locs) (hl : lv_has ls 4 [(3, .int 0), (2, .ref r2), (1, .ref r1), (0, .ref b)]) : W p l e room_1 s m #[Value.ref b] below meth c H locs 70 271976 (lw_Z below #[Value.ref b] s) (F0 m 898 ls []) := by
  obtain ⟨hx, hb, hr, hml, hown, hts, hX, hbl, hlocks, hgv⟩ := id C0
  have hown : s.vm.findClass RL = some m.cls := hown
  have hA : ∀ q : Nat, s.heap.size ≤ q → (fun q : Nat => s.heap.size ≤ q) q := fun _ h => h
  have hbA : ¬ (fun q : Nat => s.heap.size ≤ q) b := Nat.not_le.mpr hbl
  have hta : ∀ w ∈ wsL_law, w.before #[Value.ref b] s = true := fun w h => hts w (wsL_law_in w h)
  have hnw : nw s := nw_of hts
  refine lv_iinc (v := 5) (lv' := [(3, .int 5), (2, .ref r2), (1, .ref r1), (0, .ref b)]) hx hb dL_law_898 hl (k := 0) rfl (by decide) (by decide) rfl (fun ls hl => ?_)
  refine lv_goto (tgt := 18) hx hb dL_law_901 (by decide) ?_
  refine lv_iload_n hx hb dL_law_18 rfl (lv_at hl 0 rfl) ?_
  refine lv_aload_n hx hb dL_law_19 rfl (lv_at hl 3 rfl) ?_
  refine va_slen hx hb hX hbl hbA hS dL_law_20 ?_
  refine k_top (y := 5) rfl ?_
  refine lv_iconst (v := 5) hx hb dL_law_21 (by decide) ?_
  refine lv_isub hx hb dL_law_22 ?_
  refine k_top (y := 0) (by decide) ?_
  refine lv_icmp_gt (tgt := 904) hx hb dL_law_23 (by decide) (fun _ => ?_) (fun c => absurd (by decide) c)
  refine lv_iconst (v := 1) hx hb dL_law_904 (by decide) ?_
  refine va_forget (fun q hq => hS.2.2 q hq) ?_
  refine W.widen (k := 600000) (n := 7302250) (Nat.le_of_ble_eq_true rfl) (Nat.le_of_ble_eq_true rfl) ?_
  exact lw_ret hx hb hr hlocks dL_law_905
set_option maxHeartbeats 4000000 in
set_option maxRecDepth 100000 in
theorem law_0 {p : Program} {l : Launch} {e : Env} {s : State} {m : MethodId} {below : List Frame} {meth : Method} {c : Code} {b : Nat} {xs : Nat → Int32} (C0 : lw_At p s m meth c b 5 xs) {dC : Nat → ClassId} {dI : Nat → Nat → Nat} (q : Nat → Nat) (k : Nat → ClassId) (g : Nat → Nat) (h : Nat → ClassId) (hK : va_K (dC, dI) vwCl [(k 9, .int), (k 10, .int), (k 11, .int), (k 12, .int), (k 13, .int), (k 14, .int), (k 20, .int), (k 21, .int), (k 22, .int), (k 23, .int), (k 24, .int), (k 25, .int), (k 30, .int), (k 32, .int), (h 2, .int), (h 3, .int), (h 4, .int), (h 5, .int), (h 6, .int), (h 10, .int), (h 11, .int), (h 12, .int), (h 13, .int), (h 35, .int), (h 41, .int)] s) {H : Heap} {locs : List Loc} {ls : Array Slot} (hP : va_P (dC, dI) vwCl [zLF q k, zlu q k, zpi q k, ztp q k, zbk q k, zwl q k, zrw q k, ztu q k, zfr q k, zsl q k, zwe q k, ztn q k, zsz q k, zpt q k, zkd q k, zpr q k, zfo q k, zfx q k, zby q k, zbs q k, zM g h, zMtune g h, zMfrets g h, zMslack g h, zMweight g h, zMtuning g h, zMpitch g h, zMkind g h, zMprice g h, zMfixed g h, zMrow g h, zMtape g h] H) (hD : va_D (fun q : Nat => s.heap.size ≤ q) [zLF q k, zlu q k, zpi q k, ztp q k, zbk q k, zwl q k, zrw q k, ztu q k, zfr q k, zsl q k, zwe q k, ztn q k, zsz q k, zpt q k, zkd q k, zpr q k, zfo q k, zfx q k, zby q k, zbs q k, zM g h, zMtune g h, zMfrets g h, zMslack g h, zMweight g h, zMtuning g h, zMpitch g h, zMkind g h, zMprice g h, zMfixed g h, zMrow g h, zMtape g h]) (hS : va_S (fun q : Nat => s.heap.size ≤ q) s.heap H locs) (hl : lv_has ls 4 [(3, .int 0), (2, .ref (g 47)), (1, .ref (q 0)), (0, .ref b)]) : W p l e room_1 s m #[Value.ref b] below meth c H locs 70 271976 (lw_Z below #[Value.ref b] s) (F0 m 168 ls []) := by
  obtain ⟨hx, hb, hr, hml, hown, hts, hX, hbl, hlocks, hgv⟩ := id C0
  have hown : s.vm.findClass RL = some m.cls := hown
  have hA : ∀ q : Nat, s.heap.size ≤ q → (fun q : Nat => s.heap.size ≤ q) q := fun _ h => h
  have hbA : ¬ (fun q : Nat => s.heap.size ≤ q) b := Nat.not_le.mpr hbl
  have hta : ∀ w ∈ wsL_law, w.before #[Value.ref b] s = true := fun w h => hts w (wsL_law_in w h)
  have hnw : nw s := nw_of hts
  refine lv_aload_n hx hb dL_law_168 rfl (lv_at hl 2 rfl) ?_
  refine lv_aload_n hx hb dL_law_169 rfl (lv_at hl 3 rfl) ?_
  refine lv_iload_n hx hb dL_law_170 rfl (lv_at hl 0 rfl) ?_
  refine lv_iconst (v := 1) hx hb dL_law_171 (by decide) ?_
  refine lv_iadd hx hb dL_law_172 ?_
  refine k_top (y := 1) (by decide) ?_
  refine va_sld hx hb hX hbl hbA hS (vin (by decide)) dL_law_173 ?_
  refine k_top (y := xs 1) rfl ?_
  refine lv_aload_n hx hb dL_law_174 rfl (lv_at hl 3 rfl) ?_
  refine lv_iload_n hx hb dL_law_175 rfl (lv_at hl 0 rfl) ?_
  refine lv_iconst (v := 2) hx hb dL_law_176 (by decide) ?_
  refine lv_iadd hx hb dL_law_177 ?_
  refine k_top (y := 2) (by decide) ?_
  refine va_sld hx hb hX hbl hbA hS (vin (by decide)) dL_law_178 ?_
  refine k_top (y := xs 2) rfl ?_
  refine kVi (b := (q 0)) (n := 2) (As := [.int (xs 1), .int (xs 2)]) (rest := []) ⟨hx, hb, hml, hown, hta⟩ hnw (x_course l dC dI q k (xs 1) (xs 2)  H.size) cd_X10_course iz_X10 ml_L_13 im_X10_course se_X10_X10_course (by decide +kernel) rfl (Nat.le_of_ble_eq_true rfl) (Nat.le_of_ble_eq_true rfl) rfl rfl (Nat.le_of_ble_eq_true rfl) (Nat.le_of_ble_eq_true rfl) hP hD hK hS hA [0, 1, 2, 5, 4, 19, 7, 8, 11] [3, 6, 9, 10, 12, 13, 14, 15, 16, 17, 18, 20, 21, 22, 23, 24, 25, 26, 27, 28, 29, 30, 31] [13, 1, 2, 5] rfl (wr := [ztp q k, zrw q k, zsl q k, zwe q k, zsz q k, zpt q k, zkd q k, zpr q k, zfo q k, zfx q k, zby q k, zM g h, zMtune g h, zMfrets g h, zMslack g h, zMweight g h, zMtuning g h, zMpitch g h, zMkind g h, zMprice g h, zMfixed g h, zMrow g h, zMtape g h]) rfl (by decide) (by decide) (by decide) rfl rfl 0 rfl hl.1 rfl (Nat.le_of_ble_eq_true rfl) dL_law_179 (fun r3 u1 H locs hw2 hP hD hK hS => ?_)
  have hP : va_P (dC, dI) vwCl [ztp q k, zrw q k, zsl q k, zwe q k, zsz q k, zpt q k, zkd q k, zpr q k, zfo q k, zfx q k, zby q k, zM g h, zMtune g h, zMfrets g h, zMslack g h, zMweight g h, zMtuning g h, zMpitch g h, zMkind g h, zMprice g h, zMfixed g h, zMrow g h, zMtape g h] H := hP
  have hD : va_D (fun q : Nat => s.heap.size ≤ q) [ztp q k, zrw q k, zsl q k, zwe q k, zsz q k, zpt q k, zkd q k, zpr q k, zfo q k, zfx q k, zby q k, zM g h, zMtune g h, zMfrets g h, zMslack g h, zMweight g h, zMtuning g h, zMpitch g h, zMkind g h, zMprice g h, zMfixed g h, zMrow g h, zMtape g h] := hD
  have hK : va_K (dC, dI) vwCl [(k 9, .int), (k 10, .int), (k 11, .int), (k 12, .int), (k 13, .int), (k 14, .int), (k 20, .int), (k 21, .int), (k 22, .int), (k 23, .int), (k 24, .int), (k 25, .int), (k 30, .int), (k 32, .int), (h 2, .int), (h 3, .int), (h 4, .int), (h 5, .int), (h 6, .int), (h 10, .int), (h 11, .int), (h 12, .int), (h 13, .int), (h 35, .int), (h 41, .int)] s := hK
  obtain rfl : r3 = sp_course (xs 1) (xs 2) := hw2
  refine lv_aload_n hx hb dL_law_182 rfl (lv_at hl 1 rfl) ?_
  refine lv_aload_n hx hb dL_law_183 rfl (lv_at hl 3 rfl) ?_
  refine lv_iload_n hx hb dL_law_184 rfl (lv_at hl 0 rfl) ?_
  refine lv_iconst (v := 1) hx hb dL_law_185 (by decide) ?_
  refine lv_iadd hx hb dL_law_186 ?_
  refine k_top (y := 1) (by decide) ?_
  refine va_sld hx hb hX hbl hbA hS (vin (by decide)) dL_law_187 ?_
  refine k_top (y := xs 1) rfl ?_
  refine lv_aload_n hx hb dL_law_188 rfl (lv_at hl 3 rfl) ?_
  refine lv_iload_n hx hb dL_law_189 rfl (lv_at hl 0 rfl) ?_
  refine lv_iconst (v := 2) hx hb dL_law_190 (by decide) ?_
  refine lv_iadd hx hb dL_law_191 ?_
  refine k_top (y := 2) (by decide) ?_
  refine va_sld hx hb hX hbl hbA hS (vin (by decide)) dL_law_192 ?_
  refine k_top (y := xs 2) rfl ?_
  refine kVi (b := (g 47)) (n := 2) (As := [.int (xs 1), .int (xs 2)]) (rest := [.int (sp_course (xs 1) (xs 2))]) ⟨hx, hb, hml, hown, hta⟩ hnw (y_course l dC dI g h (xs 1) (xs 2)  H.size) cd_X11_course iz_X11 ml_L_17 im_X11_course se_X11_X11_course (by decide +kernel) rfl (Nat.le_of_ble_eq_true rfl) (Nat.le_of_ble_eq_true rfl) rfl rfl (Nat.le_of_ble_eq_true rfl) (Nat.le_of_ble_eq_true rfl) hP hD hK hS hA [11, 12, 13, 16] [0, 1, 2, 3, 4, 5, 6, 7, 8, 9, 10, 14, 15, 17, 18, 19, 20, 21, 22] [14, 15, 18] rfl (wr := [ztp q k, zrw q k, zsl q k, zwe q k, zsz q k, zpt q k, zkd q k, zpr q k, zfo q k, zfx q k, zby q k, zMslack g h, zMweight g h, zMpitch g h, zMkind g h, zMprice g h, zMfixed g h, zMrow g h, zMtape g h]) rfl (by decide) (by decide) (by decide) rfl rfl 0 rfl hl.1 rfl (Nat.le_of_ble_eq_true rfl) dL_law_193 (fun r6 u4 H locs hw5 hP hD hK hS => ?_)
  have hP : va_P (dC, dI) vwCl [ztp q k, zrw q k, zsl q k, zwe q k, zsz q k, zpt q k, zkd q k, zpr q k, zfo q k, zfx q k, zby q k, zMslack g h, zMweight g h, zMpitch g h, zMkind g h, zMprice g h, zMfixed g h, zMrow g h, zMtape g h] H := hP
  have hD : va_D (fun q : Nat => s.heap.size ≤ q) [ztp q k, zrw q k, zsl q k, zwe q k, zsz q k, zpt q k, zkd q k, zpr q k, zfo q k, zfx q k, zby q k, zMslack g h, zMweight g h, zMpitch g h, zMkind g h, zMprice g h, zMfixed g h, zMrow g h, zMtape g h] := hD
  have hK : va_K (dC, dI) vwCl [(k 9, .int), (k 10, .int), (k 11, .int), (k 12, .int), (k 13, .int), (k 14, .int), (k 20, .int), (k 21, .int), (k 22, .int), (k 23, .int), (k 24, .int), (k 25, .int), (k 30, .int), (k 32, .int), (h 2, .int), (h 3, .int), (h 4, .int), (h 5, .int), (h 6, .int), (h 10, .int), (h 11, .int), (h 12, .int), (h 13, .int), (h 35, .int), (h 41, .int)] s := hK
  obtain rfl : r6 = sp_course (xs 1) (xs 2) := hw5
  refine lv_icmp_eq (tgt := 898) hx hb dL_law_196 (by decide) (fun _ => ?_) (fun c => absurd rfl c)
  exact law_end C0 hS hl
set_option maxHeartbeats 4000000 in
set_option maxRecDepth 100000 in
theorem law_1 {p : Program} {l : Launch} {e : Env} {s : State} {m : MethodId} {below : List Frame} {meth : Method} {c : Code} {b : Nat} {xs : Nat → Int32} (C0 : lw_At p s m meth c b 5 xs) {dC : Nat → ClassId} {dI : Nat → Nat → Nat} (q : Nat → Nat) (k : Nat → ClassId) (g : Nat → Nat) (h : Nat → ClassId) (hK : va_K (dC, dI) vwCl [(k 9, .int), (k 10, .int), (k 11, .int), (k 12, .int), (k 13, .int), (k 14, .int), (k 20, .int), (k 21, .int), (k 22, .int), (k 23, .int), (k 24, .int), (k 25, .int), (k 30, .int), (k 32, .int), (h 2, .int), (h 3, .int), (h 4, .int), (h 5, .int), (h 6, .int), (h 10, .int), (h 11, .int), (h 12, .int), (h 13, .int), (h 35, .int), (h 41, .int)] s) {H : Heap} {locs : List Loc} {ls : Array Slot} (hP : va_P (dC, dI) vwCl [zLF q k, zlu q k, zpi q k, ztp q k, zbk q k, zwl q k, zrw q k, ztu q k, zfr q k, zsl q k, zwe q k, ztn q k, zsz q k, zpt q k, zkd q k, zpr q k, zfo q k, zfx q k, zby q k, zbs q k, zM g h, zMtune g h, zMfrets g h, zMslack g h, zMweight g h, zMtuning g h, zMpitch g h, zMkind g h, zMprice g h, zMfixed g h, zMrow g h, zMtape g h] H) (hD : va_D (fun q : Nat => s.heap.size ≤ q) [zLF q k, zlu q k, zpi q k, ztp q k, zbk q k, zwl q k, zrw q k, ztu q k, zfr q k, zsl q k, zwe q k, ztn q k, zsz q k, zpt q k, zkd q k, zpr q k, zfo q k, zfx q k, zby q k, zbs q k, zM g h, zMtune g h, zMfrets g h, zMslack g h, zMweight g h, zMtuning g h, zMpitch g h, zMkind g h, zMprice g h, zMfixed g h, zMrow g h, zMtape g h]) (hS : va_S (fun q : Nat => s.heap.size ≤ q) s.heap H locs) (hl : lv_has ls 4 [(3, .int 0), (2, .ref (g 47)), (1, .ref (q 0)), (0, .ref b)]) : W p l e room_1 s m #[Value.ref b] below meth c H locs 70 271976 (lw_Z below #[Value.ref b] s) (F0 m 201 ls []) := by
  obtain ⟨hx, hb, hr, hml, hown, hts, hX, hbl, hlocks, hgv⟩ := id C0
  have hown : s.vm.findClass RL = some m.cls := hown
  have hA : ∀ q : Nat, s.heap.size ≤ q → (fun q : Nat => s.heap.size ≤ q) q := fun _ h => h
  have hbA : ¬ (fun q : Nat => s.heap.size ≤ q) b := Nat.not_le.mpr hbl
  have hta : ∀ w ∈ wsL_law, w.before #[Value.ref b] s = true := fun w h => hts w (wsL_law_in w h)
  have hnw : nw s := nw_of hts
  refine lv_aload_n hx hb dL_law_201 rfl (lv_at hl 2 rfl) ?_
  refine lv_aload_n hx hb dL_law_202 rfl (lv_at hl 3 rfl) ?_
  refine lv_iload_n hx hb dL_law_203 rfl (lv_at hl 0 rfl) ?_
  refine lv_iconst (v := 1) hx hb dL_law_204 (by decide) ?_
  refine lv_iadd hx hb dL_law_205 ?_
  refine k_top (y := 1) (by decide) ?_
  refine va_sld hx hb hX hbl hbA hS (vin (by decide)) dL_law_206 ?_
  refine k_top (y := xs 1) rfl ?_
  refine lv_aload_n hx hb dL_law_207 rfl (lv_at hl 3 rfl) ?_
  refine lv_iload_n hx hb dL_law_208 rfl (lv_at hl 0 rfl) ?_
  refine lv_iconst (v := 2) hx hb dL_law_209 (by decide) ?_
  refine lv_iadd hx hb dL_law_210 ?_
  refine k_top (y := 2) (by decide) ?_
  refine va_sld hx hb hX hbl hbA hS (vin (by decide)) dL_law_211 ?_
  refine k_top (y := xs 2) rfl ?_
  refine kVi (b := (q 0)) (n := 2) (As := [.int (xs 1), .int (xs 2)]) (rest := []) ⟨hx, hb, hml, hown, hta⟩ hnw (x_tune l dC dI q k (xs 1) (xs 2)  H.size) cd_X10_tune iz_X10 ml_L_18 im_X10_tune se_X10_X10_tune (by decide +kernel) rfl (Nat.le_of_ble_eq_true rfl) (Nat.le_of_ble_eq_true rfl) rfl rfl (Nat.le_of_ble_eq_true rfl) (Nat.le_of_ble_eq_true rfl) hP hD hK hS hA [0, 1] [2, 3, 4, 5, 6, 7, 8, 9, 10, 11, 12, 13, 14, 15, 16, 17, 18, 19, 20, 21, 22, 23, 24, 25, 26, 27, 28, 29, 30, 31] [] rfl (wr := [zpi q k, ztp q k, zbk q k, zwl q k, zrw q k, ztu q k, zfr q k, zsl q k, zwe q k, ztn q k, zsz q k, zpt q k, zkd q k, zpr q k, zfo q k, zfx q k, zby q k, zbs q k, zM g h, zMtune g h, zMfrets g h, zMslack g h, zMweight g h, zMtuning g h, zMpitch g h, zMkind g h, zMprice g h, zMfixed g h, zMrow g h, zMtape g h]) rfl (by decide) (by decide) (by decide) rfl rfl 0 rfl hl.1 rfl (Nat.le_of_ble_eq_true rfl) dL_law_212 (fun r3 u1 H locs hw2 hP hD hK hS => ?_)
  have hP : va_P (dC, dI) vwCl [zpi q k, ztp q k, zbk q k, zwl q k, zrw q k, ztu q k, zfr q k, zsl q k, zwe q k, ztn q k, zsz q k, zpt q k, zkd q k, zpr q k, zfo q k, zfx q k, zby q k, zbs q k, zM g h, zMtune g h, zMfrets g h, zMslack g h, zMweight g h, zMtuning g h, zMpitch g h, zMkind g h, zMprice g h, zMfixed g h, zMrow g h, zMtape g h] H := hP
  have hD : va_D (fun q : Nat => s.heap.size ≤ q) [zpi q k, ztp q k, zbk q k, zwl q k, zrw q k, ztu q k, zfr q k, zsl q k, zwe q k, ztn q k, zsz q k, zpt q k, zkd q k, zpr q k, zfo q k, zfx q k, zby q k, zbs q k, zM g h, zMtune g h, zMfrets g h, zMslack g h, zMweight g h, zMtuning g h, zMpitch g h, zMkind g h, zMprice g h, zMfixed g h, zMrow g h, zMtape g h] := hD
  have hK : va_K (dC, dI) vwCl [(k 9, .int), (k 10, .int), (k 11, .int), (k 12, .int), (k 13, .int), (k 14, .int), (k 20, .int), (k 21, .int), (k 22, .int), (k 23, .int), (k 24, .int), (k 25, .int), (k 30, .int), (k 32, .int), (h 2, .int), (h 3, .int), (h 4, .int), (h 5, .int), (h 6, .int), (h 10, .int), (h 11, .int), (h 12, .int), (h 13, .int), (h 35, .int), (h 41, .int)] s := hK
  obtain rfl : r3 = (-1) := hw2
  refine lv_aload_n hx hb dL_law_215 rfl (lv_at hl 1 rfl) ?_
  refine lv_aload_n hx hb dL_law_216 rfl (lv_at hl 3 rfl) ?_
  refine lv_iload_n hx hb dL_law_217 rfl (lv_at hl 0 rfl) ?_
  refine lv_iconst (v := 1) hx hb dL_law_218 (by decide) ?_
  refine lv_iadd hx hb dL_law_219 ?_
  refine k_top (y := 1) (by decide) ?_
  refine va_sld hx hb hX hbl hbA hS (vin (by decide)) dL_law_220 ?_
  refine k_top (y := xs 1) rfl ?_
  refine lv_aload_n hx hb dL_law_221 rfl (lv_at hl 3 rfl) ?_
  refine lv_iload_n hx hb dL_law_222 rfl (lv_at hl 0 rfl) ?_
  refine lv_iconst (v := 2) hx hb dL_law_223 (by decide) ?_
  refine lv_iadd hx hb dL_law_224 ?_
  refine k_top (y := 2) (by decide) ?_
  refine va_sld hx hb hX hbl hbA hS (vin (by decide)) dL_law_225 ?_
  refine k_top (y := xs 2) rfl ?_
  refine kVi (b := (g 47)) (n := 2) (As := [.int (xs 1), .int (xs 2)]) (rest := [.int (-1)]) ⟨hx, hb, hml, hown, hta⟩ hnw (y_tune l dC dI g h (xs 1) (xs 2)  H.size) cd_X11_tune iz_X11 ml_L_21 im_X11_tune se_X11_X11_tune (by decide +kernel) rfl (Nat.le_of_ble_eq_true rfl) (Nat.le_of_ble_eq_true rfl) rfl rfl (Nat.le_of_ble_eq_true rfl) (Nat.le_of_ble_eq_true rfl) hP hD hK hS hA [18] [0, 1, 2, 3, 4, 5, 6, 7, 8, 9, 10, 11, 12, 13, 14, 15, 16, 17, 19, 20, 21, 22, 23, 24, 25, 26, 27, 28, 29] [] rfl (wr := [zpi q k, ztp q k, zbk q k, zwl q k, zrw q k, ztu q k, zfr q k, zsl q k, zwe q k, ztn q k, zsz q k, zpt q k, zkd q k, zpr q k, zfo q k, zfx q k, zby q k, zbs q k, zMtune g h, zMfrets g h, zMslack g h, zMweight g h, zMtuning g h, zMpitch g h, zMkind g h, zMprice g h, zMfixed g h, zMrow g h, zMtape g h]) rfl (by decide) (by decide) (by decide) rfl rfl 0 rfl hl.1 rfl (Nat.le_of_ble_eq_true rfl) dL_law_226 (fun r6 u4 H locs hw5 hP hD hK hS => ?_)
  have hP : va_P (dC, dI) vwCl [zpi q k, ztp q k, zbk q k, zwl q k, zrw q k, ztu q k, zfr q k, zsl q k, zwe q k, ztn q k, zsz q k, zpt q k, zkd q k, zpr q k, zfo q k, zfx q k, zby q k, zbs q k, zMtune g h, zMfrets g h, zMslack g h, zMweight g h, zMtuning g h, zMpitch g h, zMkind g h, zMprice g h, zMfixed g h, zMrow g h, zMtape g h] H := hP
  have hD : va_D (fun q : Nat => s.heap.size ≤ q) [zpi q k, ztp q k, zbk q k, zwl q k, zrw q k, ztu q k, zfr q k, zsl q k, zwe q k, ztn q k, zsz q k, zpt q k, zkd q k, zpr q k, zfo q k, zfx q k, zby q k, zbs q k, zMtune g h, zMfrets g h, zMslack g h, zMweight g h, zMtuning g h, zMpitch g h, zMkind g h, zMprice g h, zMfixed g h, zMrow g h, zMtape g h] := hD
  have hK : va_K (dC, dI) vwCl [(k 9, .int), (k 10, .int), (k 11, .int), (k 12, .int), (k 13, .int), (k 14, .int), (k 20, .int), (k 21, .int), (k 22, .int), (k 23, .int), (k 24, .int), (k 25, .int), (k 30, .int), (k 32, .int), (h 2, .int), (h 3, .int), (h 4, .int), (h 5, .int), (h 6, .int), (h 10, .int), (h 11, .int), (h 12, .int), (h 13, .int), (h 35, .int), (h 41, .int)] s := hK
  obtain rfl : r6 = (-1) := hw5
  refine lv_icmp_eq (tgt := 898) hx hb dL_law_229 (by decide) (fun _ => ?_) (fun c => absurd (by decide) c)
  exact law_end C0 hS hl
set_option maxHeartbeats 4000000 in
set_option maxRecDepth 100000 in
theorem law_2 {p : Program} {l : Launch} {e : Env} {s : State} {m : MethodId} {below : List Frame} {meth : Method} {c : Code} {b : Nat} {xs : Nat → Int32} (C0 : lw_At p s m meth c b 5 xs) {dC : Nat → ClassId} {dI : Nat → Nat → Nat} (q : Nat → Nat) (k : Nat → ClassId) (g : Nat → Nat) (h : Nat → ClassId) (hK : va_K (dC, dI) vwCl [(k 9, .int), (k 10, .int), (k 11, .int), (k 12, .int), (k 13, .int), (k 14, .int), (k 20, .int), (k 21, .int), (k 22, .int), (k 23, .int), (k 24, .int), (k 25, .int), (k 30, .int), (k 32, .int), (h 2, .int), (h 3, .int), (h 4, .int), (h 5, .int), (h 6, .int), (h 10, .int), (h 11, .int), (h 12, .int), (h 13, .int), (h 35, .int), (h 41, .int)] s) {H : Heap} {locs : List Loc} {ls : Array Slot} (hP : va_P (dC, dI) vwCl [zLF q k, zlu q k, zpi q k, ztp q k, zbk q k, zwl q k, zrw q k, ztu q k, zfr q k, zsl q k, zwe q k, ztn q k, zsz q k, zpt q k, zkd q k, zpr q k, zfo q k, zfx q k, zby q k, zbs q k, zM g h, zMtune g h, zMfrets g h, zMslack g h, zMweight g h, zMtuning g h, zMpitch g h, zMkind g h, zMprice g h, zMfixed g h, zMrow g h, zMtape g h] H) (hD : va_D (fun q : Nat => s.heap.size ≤ q) [zLF q k, zlu q k, zpi q k, ztp q k, zbk q k, zwl q k, zrw q k, ztu q k, zfr q k, zsl q k, zwe q k, ztn q k, zsz q k, zpt q k, zkd q k, zpr q k, zfo q k, zfx q k, zby q k, zbs q k, zM g h, zMtune g h, zMfrets g h, zMslack g h, zMweight g h, zMtuning g h, zMpitch g h, zMkind g h, zMprice g h, zMfixed g h, zMrow g h, zMtape g h]) (hS : va_S (fun q : Nat => s.heap.size ≤ q) s.heap H locs) (hl : lv_has ls 4 [(3, .int 0), (2, .ref (g 47)), (1, .ref (q 0)), (0, .ref b)]) : W p l e room_1 s m #[Value.ref b] below meth c H locs 70 271976 (lw_Z below #[Value.ref b] s) (F0 m 234 ls []) := by
  obtain ⟨hx, hb, hr, hml, hown, hts, hX, hbl, hlocks, hgv⟩ := id C0
  have hown : s.vm.findClass RL = some m.cls := hown
  have hA : ∀ q : Nat, s.heap.size ≤ q → (fun q : Nat => s.heap.size ≤ q) q := fun _ h => h
  have hbA : ¬ (fun q : Nat => s.heap.size ≤ q) b := Nat.not_le.mpr hbl
  have hta : ∀ w ∈ wsL_law, w.before #[Value.ref b] s = true := fun w h => hts w (wsL_law_in w h)
  have hnw : nw s := nw_of hts
  refine lv_aload_n hx hb dL_law_234 rfl (lv_at hl 2 rfl) ?_
  refine lv_aload_n hx hb dL_law_235 rfl (lv_at hl 3 rfl) ?_
  refine lv_iload_n hx hb dL_law_236 rfl (lv_at hl 0 rfl) ?_
  refine lv_iconst (v := 1) hx hb dL_law_237 (by decide) ?_
  refine lv_iadd hx hb dL_law_238 ?_
  refine k_top (y := 1) (by decide) ?_
  refine va_sld hx hb hX hbl hbA hS (vin (by decide)) dL_law_239 ?_
  refine k_top (y := xs 1) rfl ?_
  refine lv_aload_n hx hb dL_law_240 rfl (lv_at hl 3 rfl) ?_
  refine lv_iload_n hx hb dL_law_241 rfl (lv_at hl 0 rfl) ?_
  refine lv_iconst (v := 2) hx hb dL_law_242 (by decide) ?_
  refine lv_iadd hx hb dL_law_243 ?_
  refine k_top (y := 2) (by decide) ?_
  refine va_sld hx hb hX hbl hbA hS (vin (by decide)) dL_law_244 ?_
  refine k_top (y := xs 2) rfl ?_
  refine kVi (b := (q 0)) (n := 2) (As := [.int (xs 1), .int (xs 2)]) (rest := []) ⟨hx, hb, hml, hown, hta⟩ hnw (x_slack l dC dI q k (xs 1) (xs 2)  H.size) cd_X10_slack iz_X10 ml_L_22 im_X10_slack se_X10_X10_slack (by decide +kernel) rfl (Nat.le_of_ble_eq_true rfl) (Nat.le_of_ble_eq_true rfl) rfl rfl (Nat.le_of_ble_eq_true rfl) (Nat.le_of_ble_eq_true rfl) hP hD hK hS hA [0, 1, 5, 4, 19, 9] [2, 3, 6, 7, 8, 10, 11, 12, 13, 14, 15, 16, 17, 18, 20, 21, 22, 23, 24, 25, 26, 27, 28, 29, 30, 31] [13, 3] rfl (wr := [zpi q k, ztp q k, zrw q k, ztu q k, zfr q k, zwe q k, ztn q k, zsz q k, zpt q k, zkd q k, zpr q k, zfo q k, zfx q k, zby q k, zM g h, zMtune g h, zMfrets g h, zMslack g h, zMweight g h, zMtuning g h, zMpitch g h, zMkind g h, zMprice g h, zMfixed g h, zMrow g h, zMtape g h]) rfl (by decide) (by decide) (by decide) rfl rfl 0 rfl hl.1 rfl (Nat.le_of_ble_eq_true rfl) dL_law_245 (fun r3 u1 H locs hw2 hP hD hK hS => ?_)
  have hP : va_P (dC, dI) vwCl [zpi q k, ztp q k, zrw q k, ztu q k, zfr q k, zwe q k, ztn q k, zsz q k, zpt q k, zkd q k, zpr q k, zfo q k, zfx q k, zby q k, zM g h, zMtune g h, zMfrets g h, zMslack g h, zMweight g h, zMtuning g h, zMpitch g h, zMkind g h, zMprice g h, zMfixed g h, zMrow g h, zMtape g h] H := hP
  have hD : va_D (fun q : Nat => s.heap.size ≤ q) [zpi q k, ztp q k, zrw q k, ztu q k, zfr q k, zwe q k, ztn q k, zsz q k, zpt q k, zkd q k, zpr q k, zfo q k, zfx q k, zby q k, zM g h, zMtune g h, zMfrets g h, zMslack g h, zMweight g h, zMtuning g h, zMpitch g h, zMkind g h, zMprice g h, zMfixed g h, zMrow g h, zMtape g h] := hD
  have hK : va_K (dC, dI) vwCl [(k 9, .int), (k 10, .int), (k 11, .int), (k 12, .int), (k 13, .int), (k 14, .int), (k 20, .int), (k 21, .int), (k 22, .int), (k 23, .int), (k 24, .int), (k 25, .int), (k 30, .int), (k 32, .int), (h 2, .int), (h 3, .int), (h 4, .int), (h 5, .int), (h 6, .int), (h 10, .int), (h 11, .int), (h 12, .int), (h 13, .int), (h 35, .int), (h 41, .int)] s := hK
  obtain rfl : r3 = sp_slack (xs 1) (xs 2) := hw2
  refine lv_aload_n hx hb dL_law_248 rfl (lv_at hl 1 rfl) ?_
  refine lv_aload_n hx hb dL_law_249 rfl (lv_at hl 3 rfl) ?_
  refine lv_iload_n hx hb dL_law_250 rfl (lv_at hl 0 rfl) ?_
  refine lv_iconst (v := 1) hx hb dL_law_251 (by decide) ?_
  refine lv_iadd hx hb dL_law_252 ?_
  refine k_top (y := 1) (by decide) ?_
  refine va_sld hx hb hX hbl hbA hS (vin (by decide)) dL_law_253 ?_
  refine k_top (y := xs 1) rfl ?_
  refine lv_aload_n hx hb dL_law_254 rfl (lv_at hl 3 rfl) ?_
  refine lv_iload_n hx hb dL_law_255 rfl (lv_at hl 0 rfl) ?_
  refine lv_iconst (v := 2) hx hb dL_law_256 (by decide) ?_
  refine lv_iadd hx hb dL_law_257 ?_
  refine k_top (y := 2) (by decide) ?_
  refine va_sld hx hb hX hbl hbA hS (vin (by decide)) dL_law_258 ?_
  refine k_top (y := xs 2) rfl ?_
  refine kVi (b := (g 47)) (n := 2) (As := [.int (xs 1), .int (xs 2)]) (rest := [.int (sp_slack (xs 1) (xs 2))]) ⟨hx, hb, hml, hown, hta⟩ hnw (y_slack l dC dI g h (xs 1) (xs 2)  H.size) cd_X11_slack iz_X11 ml_L_25 im_X11_slack se_X11_X11_slack (by decide +kernel) rfl (Nat.le_of_ble_eq_true rfl) (Nat.le_of_ble_eq_true rfl) rfl rfl (Nat.le_of_ble_eq_true rfl) (Nat.le_of_ble_eq_true rfl) hP hD hK hS hA [14, 17] [0, 1, 2, 3, 4, 5, 6, 7, 8, 9, 10, 11, 12, 13, 15, 16, 18, 19, 20, 21, 22, 23, 24, 25] [16] rfl (wr := [zpi q k, ztp q k, zrw q k, ztu q k, zfr q k, zwe q k, ztn q k, zsz q k, zpt q k, zkd q k, zpr q k, zfo q k, zfx q k, zby q k, zMtune g h, zMfrets g h, zMweight g h, zMtuning g h, zMpitch g h, zMkind g h, zMprice g h, zMfixed g h, zMrow g h, zMtape g h]) rfl (by decide) (by decide) (by decide) rfl rfl 0 rfl hl.1 rfl (Nat.le_of_ble_eq_true rfl) dL_law_259 (fun r6 u4 H locs hw5 hP hD hK hS => ?_)
  have hP : va_P (dC, dI) vwCl [zpi q k, ztp q k, zrw q k, ztu q k, zfr q k, zwe q k, ztn q k, zsz q k, zpt q k, zkd q k, zpr q k, zfo q k, zfx q k, zby q k, zMtune g h, zMfrets g h, zMweight g h, zMtuning g h, zMpitch g h, zMkind g h, zMprice g h, zMfixed g h, zMrow g h, zMtape g h] H := hP
  have hD : va_D (fun q : Nat => s.heap.size ≤ q) [zpi q k, ztp q k, zrw q k, ztu q k, zfr q k, zwe q k, ztn q k, zsz q k, zpt q k, zkd q k, zpr q k, zfo q k, zfx q k, zby q k, zMtune g h, zMfrets g h, zMweight g h, zMtuning g h, zMpitch g h, zMkind g h, zMprice g h, zMfixed g h, zMrow g h, zMtape g h] := hD
  have hK : va_K (dC, dI) vwCl [(k 9, .int), (k 10, .int), (k 11, .int), (k 12, .int), (k 13, .int), (k 14, .int), (k 20, .int), (k 21, .int), (k 22, .int), (k 23, .int), (k 24, .int), (k 25, .int), (k 30, .int), (k 32, .int), (h 2, .int), (h 3, .int), (h 4, .int), (h 5, .int), (h 6, .int), (h 10, .int), (h 11, .int), (h 12, .int), (h 13, .int), (h 35, .int), (h 41, .int)] s := hK
  obtain rfl : r6 = sp_slack (xs 1) (xs 2) := hw5
  refine lv_icmp_eq (tgt := 898) hx hb dL_law_262 (by decide) (fun _ => ?_) (fun c => absurd rfl c)
  exact law_end C0 hS hl
set_option maxHeartbeats 4000000 in
set_option maxRecDepth 100000 in
theorem law_3 {p : Program} {l : Launch} {e : Env} {s : State} {m : MethodId} {below : List Frame} {meth : Method} {c : Code} {b : Nat} {xs : Nat → Int32} (C0 : lw_At p s m meth c b 5 xs) {dC : Nat → ClassId} {dI : Nat → Nat → Nat} (q : Nat → Nat) (k : Nat → ClassId) (g : Nat → Nat) (h : Nat → ClassId) (hK : va_K (dC, dI) vwCl [(k 9, .int), (k 10, .int), (k 11, .int), (k 12, .int), (k 13, .int), (k 14, .int), (k 20, .int), (k 21, .int), (k 22, .int), (k 23, .int), (k 24, .int), (k 25, .int), (k 30, .int), (k 32, .int), (h 2, .int), (h 3, .int), (h 4, .int), (h 5, .int), (h 6, .int), (h 10, .int), (h 11, .int), (h 12, .int), (h 13, .int), (h 35, .int), (h 41, .int)] s) {H : Heap} {locs : List Loc} {ls : Array Slot} (hP : va_P (dC, dI) vwCl [zLF q k, zlu q k, zpi q k, ztp q k, zbk q k, zwl q k, zrw q k, ztu q k, zfr q k, zsl q k, zwe q k, ztn q k, zsz q k, zpt q k, zkd q k, zpr q k, zfo q k, zfx q k, zby q k, zbs q k, zM g h, zMtune g h, zMfrets g h, zMslack g h, zMweight g h, zMtuning g h, zMpitch g h, zMkind g h, zMprice g h, zMfixed g h, zMrow g h, zMtape g h] H) (hD : va_D (fun q : Nat => s.heap.size ≤ q) [zLF q k, zlu q k, zpi q k, ztp q k, zbk q k, zwl q k, zrw q k, ztu q k, zfr q k, zsl q k, zwe q k, ztn q k, zsz q k, zpt q k, zkd q k, zpr q k, zfo q k, zfx q k, zby q k, zbs q k, zM g h, zMtune g h, zMfrets g h, zMslack g h, zMweight g h, zMtuning g h, zMpitch g h, zMkind g h, zMprice g h, zMfixed g h, zMrow g h, zMtape g h]) (hS : va_S (fun q : Nat => s.heap.size ≤ q) s.heap H locs) (hl : lv_has ls 4 [(3, .int 0), (2, .ref (g 47)), (1, .ref (q 0)), (0, .ref b)]) : W p l e room_1 s m #[Value.ref b] below meth c H locs 70 271976 (lw_Z below #[Value.ref b] s) (F0 m 267 ls []) := by
  obtain ⟨hx, hb, hr, hml, hown, hts, hX, hbl, hlocks, hgv⟩ := id C0
  have hown : s.vm.findClass RL = some m.cls := hown
  have hA : ∀ q : Nat, s.heap.size ≤ q → (fun q : Nat => s.heap.size ≤ q) q := fun _ h => h
  have hbA : ¬ (fun q : Nat => s.heap.size ≤ q) b := Nat.not_le.mpr hbl
  have hta : ∀ w ∈ wsL_law, w.before #[Value.ref b] s = true := fun w h => hts w (wsL_law_in w h)
  have hnw : nw s := nw_of hts
  refine lv_aload_n hx hb dL_law_267 rfl (lv_at hl 2 rfl) ?_
  refine lv_aload_n hx hb dL_law_268 rfl (lv_at hl 3 rfl) ?_
  refine lv_iload_n hx hb dL_law_269 rfl (lv_at hl 0 rfl) ?_
  refine lv_iconst (v := 1) hx hb dL_law_270 (by decide) ?_
  refine lv_iadd hx hb dL_law_271 ?_
  refine k_top (y := 1) (by decide) ?_
  refine va_sld hx hb hX hbl hbA hS (vin (by decide)) dL_law_272 ?_
  refine k_top (y := xs 1) rfl ?_
  refine kVi (b := (q 0)) (n := 1) (As := [.int (xs 1)]) (rest := []) ⟨hx, hb, hml, hown, hta⟩ hnw (x_bars l dC dI q k (xs 1)  H.size) cd_X10_bars iz_X10 ml_L_26 im_X10_bars se_X10_X10_bars (by decide +kernel) rfl (Nat.le_of_ble_eq_true rfl) (Nat.le_of_ble_eq_true rfl) rfl rfl (Nat.le_of_ble_eq_true rfl) (Nat.le_of_ble_eq_true rfl) hP hD hK hS hA [0, 1, 5, 4, 19] [2, 3, 6, 7, 8, 9, 10, 11, 12, 13, 14, 15, 16, 17, 18, 20, 21, 22, 23, 24, 25, 26, 27, 28, 29, 30, 31] [13] rfl (wr := [zpi q k, ztp q k, zrw q k, ztu q k, zfr q k, zsl q k, zwe q k, ztn q k, zsz q k, zpt q k, zkd q k, zpr q k, zfo q k, zfx q k, zby q k, zM g h, zMtune g h, zMfrets g h, zMslack g h, zMweight g h, zMtuning g h, zMpitch g h, zMkind g h, zMprice g h, zMfixed g h, zMrow g h, zMtape g h]) rfl (by decide) (by decide) (by decide) rfl rfl 0 rfl hl.1 rfl (Nat.le_of_ble_eq_true rfl) dL_law_273 (fun r3 u1 H locs hw2 hP hD hK hS => ?_)
  have hP : va_P (dC, dI) vwCl [zpi q k, ztp q k, zrw q k, ztu q k, zfr q k, zsl q k, zwe q k, ztn q k, zsz q k, zpt q k, zkd q k, zpr q k, zfo q k, zfx q k, zby q k, zM g h, zMtune g h, zMfrets g h, zMslack g h, zMweight g h, zMtuning g h, zMpitch g h, zMkind g h, zMprice g h, zMfixed g h, zMrow g h, zMtape g h] H := hP
  have hD : va_D (fun q : Nat => s.heap.size ≤ q) [zpi q k, ztp q k, zrw q k, ztu q k, zfr q k, zsl q k, zwe q k, ztn q k, zsz q k, zpt q k, zkd q k, zpr q k, zfo q k, zfx q k, zby q k, zM g h, zMtune g h, zMfrets g h, zMslack g h, zMweight g h, zMtuning g h, zMpitch g h, zMkind g h, zMprice g h, zMfixed g h, zMrow g h, zMtape g h] := hD
  have hK : va_K (dC, dI) vwCl [(k 9, .int), (k 10, .int), (k 11, .int), (k 12, .int), (k 13, .int), (k 14, .int), (k 20, .int), (k 21, .int), (k 22, .int), (k 23, .int), (k 24, .int), (k 25, .int), (k 30, .int), (k 32, .int), (h 2, .int), (h 3, .int), (h 4, .int), (h 5, .int), (h 6, .int), (h 10, .int), (h 11, .int), (h 12, .int), (h 13, .int), (h 35, .int), (h 41, .int)] s := hK
  obtain rfl : r3 = sp_bars (xs 1) := hw2
  refine lv_aload_n hx hb dL_law_276 rfl (lv_at hl 1 rfl) ?_
  refine lv_aload_n hx hb dL_law_277 rfl (lv_at hl 3 rfl) ?_
  refine lv_iload_n hx hb dL_law_278 rfl (lv_at hl 0 rfl) ?_
  refine lv_iconst (v := 1) hx hb dL_law_279 (by decide) ?_
  refine lv_iadd hx hb dL_law_280 ?_
  refine k_top (y := 1) (by decide) ?_
  refine va_sld hx hb hX hbl hbA hS (vin (by decide)) dL_law_281 ?_
  refine k_top (y := xs 1) rfl ?_
  refine kVi (b := (g 47)) (n := 1) (As := [.int (xs 1)]) (rest := [.int (sp_bars (xs 1))]) ⟨hx, hb, hml, hown, hta⟩ hnw (y_bars l dC dI g h (xs 1)  H.size) cd_X11_bars iz_X11 ml_L_30 im_X11_bars se_X11_X11_bars (by decide +kernel) rfl (Nat.le_of_ble_eq_true rfl) (Nat.le_of_ble_eq_true rfl) rfl rfl (Nat.le_of_ble_eq_true rfl) (Nat.le_of_ble_eq_true rfl) hP hD hK hS hA [15] [0, 1, 2, 3, 4, 5, 6, 7, 8, 9, 10, 11, 12, 13, 14, 16, 17, 18, 19, 20, 21, 22, 23, 24, 25, 26] [] rfl (wr := [zpi q k, ztp q k, zrw q k, ztu q k, zfr q k, zsl q k, zwe q k, ztn q k, zsz q k, zpt q k, zkd q k, zpr q k, zfo q k, zfx q k, zby q k, zMtune g h, zMfrets g h, zMslack g h, zMweight g h, zMtuning g h, zMpitch g h, zMkind g h, zMprice g h, zMfixed g h, zMrow g h, zMtape g h]) rfl (by decide) (by decide) (by decide) rfl rfl 0 rfl hl.1 rfl (Nat.le_of_ble_eq_true rfl) dL_law_282 (fun r6 u4 H locs hw5 hP hD hK hS => ?_)
  have hP : va_P (dC, dI) vwCl [zpi q k, ztp q k, zrw q k, ztu q k, zfr q k, zsl q k, zwe q k, ztn q k, zsz q k, zpt q k, zkd q k, zpr q k, zfo q k, zfx q k, zby q k, zMtune g h, zMfrets g h, zMslack g h, zMweight g h, zMtuning g h, zMpitch g h, zMkind g h, zMprice g h, zMfixed g h, zMrow g h, zMtape g h] H := hP
  have hD : va_D (fun q : Nat => s.heap.size ≤ q) [zpi q k, ztp q k, zrw q k, ztu q k, zfr q k, zsl q k, zwe q k, ztn q k, zsz q k, zpt q k, zkd q k, zpr q k, zfo q k, zfx q k, zby q k, zMtune g h, zMfrets g h, zMslack g h, zMweight g h, zMtuning g h, zMpitch g h, zMkind g h, zMprice g h, zMfixed g h, zMrow g h, zMtape g h] := hD
  have hK : va_K (dC, dI) vwCl [(k 9, .int), (k 10, .int), (k 11, .int), (k 12, .int), (k 13, .int), (k 14, .int), (k 20, .int), (k 21, .int), (k 22, .int), (k 23, .int), (k 24, .int), (k 25, .int), (k 30, .int), (k 32, .int), (h 2, .int), (h 3, .int), (h 4, .int), (h 5, .int), (h 6, .int), (h 10, .int), (h 11, .int), (h 12, .int), (h 13, .int), (h 35, .int), (h 41, .int)] s := hK
  obtain rfl : r6 = sp_bars (xs 1) := hw5
  refine lv_icmp_eq (tgt := 898) hx hb dL_law_285 (by decide) (fun _ => ?_) (fun c => absurd rfl c)
  exact law_end C0 hS hl
set_option maxHeartbeats 4000000 in
set_option maxRecDepth 100000 in
theorem law_4 {p : Program} {l : Launch} {e : Env} {s : State} {m : MethodId} {below : List Frame} {meth : Method} {c : Code} {b : Nat} {xs : Nat → Int32} (C0 : lw_At p s m meth c b 5 xs) {dC : Nat → ClassId} {dI : Nat → Nat → Nat} (q : Nat → Nat) (k : Nat → ClassId) (g : Nat → Nat) (h : Nat → ClassId) (hK : va_K (dC, dI) vwCl [(k 9, .int), (k 10, .int), (k 11, .int), (k 12, .int), (k 13, .int), (k 14, .int), (k 20, .int), (k 21, .int), (k 22, .int), (k 23, .int), (k 24, .int), (k 25, .int), (k 30, .int), (k 32, .int), (h 2, .int), (h 3, .int), (h 4, .int), (h 5, .int), (h 6, .int), (h 10, .int), (h 11, .int), (h 12, .int), (h 13, .int), (h 35, .int), (h 41, .int)] s) {H : Heap} {locs : List Loc} {ls : Array Slot} (hP : va_P (dC, dI) vwCl [zLF q k, zlu q k, zpi q k, ztp q k, zbk q k, zwl q k, zrw q k, ztu q k, zfr q k, zsl q k, zwe q k, ztn q k, zsz q k, zpt q k, zkd q k, zpr q k, zfo q k, zfx q k, zby q k, zbs q k, zM g h, zMtune g h, zMfrets g h, zMslack g h, zMweight g h, zMtuning g h, zMpitch g h, zMkind g h, zMprice g h, zMfixed g h, zMrow g h, zMtape g h] H) (hD : va_D (fun q : Nat => s.heap.size ≤ q) [zLF q k, zlu q k, zpi q k, ztp q k, zbk q k, zwl q k, zrw q k, ztu q k, zfr q k, zsl q k, zwe q k, ztn q k, zsz q k, zpt q k, zkd q k, zpr q k, zfo q k, zfx q k, zby q k, zbs q k, zM g h, zMtune g h, zMfrets g h, zMslack g h, zMweight g h, zMtuning g h, zMpitch g h, zMkind g h, zMprice g h, zMfixed g h, zMrow g h, zMtape g h]) (hS : va_S (fun q : Nat => s.heap.size ≤ q) s.heap H locs) (hl : lv_has ls 4 [(3, .int 0), (2, .ref (g 47)), (1, .ref (q 0)), (0, .ref b)]) : W p l e room_1 s m #[Value.ref b] below meth c H locs 70 271976 (lw_Z below #[Value.ref b] s) (F0 m 290 ls []) := by
  obtain ⟨hx, hb, hr, hml, hown, hts, hX, hbl, hlocks, hgv⟩ := id C0
  have hown : s.vm.findClass RL = some m.cls := hown
  have hA : ∀ q : Nat, s.heap.size ≤ q → (fun q : Nat => s.heap.size ≤ q) q := fun _ h => h
  have hbA : ¬ (fun q : Nat => s.heap.size ≤ q) b := Nat.not_le.mpr hbl
  have hta : ∀ w ∈ wsL_law, w.before #[Value.ref b] s = true := fun w h => hts w (wsL_law_in w h)
  have hnw : nw s := nw_of hts
  refine lv_aload_n hx hb dL_law_290 rfl (lv_at hl 2 rfl) ?_
  refine lv_aload_n hx hb dL_law_291 rfl (lv_at hl 3 rfl) ?_
  refine lv_iload_n hx hb dL_law_292 rfl (lv_at hl 0 rfl) ?_
  refine lv_iconst (v := 1) hx hb dL_law_293 (by decide) ?_
  refine lv_iadd hx hb dL_law_294 ?_
  refine k_top (y := 1) (by decide) ?_
  refine va_sld hx hb hX hbl hbA hS (vin (by decide)) dL_law_295 ?_
  refine k_top (y := xs 1) rfl ?_
  refine lv_aload_n hx hb dL_law_296 rfl (lv_at hl 3 rfl) ?_
  refine lv_iload_n hx hb dL_law_297 rfl (lv_at hl 0 rfl) ?_
  refine lv_iconst (v := 2) hx hb dL_law_298 (by decide) ?_
  refine lv_iadd hx hb dL_law_299 ?_
  refine k_top (y := 2) (by decide) ?_
  refine va_sld hx hb hX hbl hbA hS (vin (by decide)) dL_law_300 ?_
  refine k_top (y := xs 2) rfl ?_
  refine kVi (b := (q 0)) (n := 2) (As := [.int (xs 1), .int (xs 2)]) (rest := []) ⟨hx, hb, hml, hown, hta⟩ hnw (x_weight l dC dI q k (xs 1) (xs 2)  H.size) cd_X10_weight iz_X10 ml_L_31 im_X10_weight se_X10_X10_weight (by decide +kernel) rfl (Nat.le_of_ble_eq_true rfl) (Nat.le_of_ble_eq_true rfl) rfl rfl (Nat.le_of_ble_eq_true rfl) (Nat.le_of_ble_eq_true rfl) hP hD hK hS hA [0, 1, 5, 4, 19, 10] [2, 3, 6, 7, 8, 9, 11, 12, 13, 14, 15, 16, 17, 18, 20, 21, 22, 23, 24, 25, 26, 27, 28, 29, 30, 31] [13, 4] rfl (wr := [zpi q k, ztp q k, zrw q k, ztu q k, zfr q k, zsl q k, ztn q k, zsz q k, zpt q k, zkd q k, zpr q k, zfo q k, zfx q k, zby q k, zM g h, zMtune g h, zMfrets g h, zMslack g h, zMweight g h, zMtuning g h, zMpitch g h, zMkind g h, zMprice g h, zMfixed g h, zMrow g h, zMtape g h]) rfl (by decide) (by decide) (by decide) rfl rfl 0 rfl hl.1 rfl (Nat.le_of_ble_eq_true rfl) dL_law_301 (fun r3 u1 H locs hw2 hP hD hK hS => ?_)
  have hP : va_P (dC, dI) vwCl [zpi q k, ztp q k, zrw q k, ztu q k, zfr q k, zsl q k, ztn q k, zsz q k, zpt q k, zkd q k, zpr q k, zfo q k, zfx q k, zby q k, zM g h, zMtune g h, zMfrets g h, zMslack g h, zMweight g h, zMtuning g h, zMpitch g h, zMkind g h, zMprice g h, zMfixed g h, zMrow g h, zMtape g h] H := hP
  have hD : va_D (fun q : Nat => s.heap.size ≤ q) [zpi q k, ztp q k, zrw q k, ztu q k, zfr q k, zsl q k, ztn q k, zsz q k, zpt q k, zkd q k, zpr q k, zfo q k, zfx q k, zby q k, zM g h, zMtune g h, zMfrets g h, zMslack g h, zMweight g h, zMtuning g h, zMpitch g h, zMkind g h, zMprice g h, zMfixed g h, zMrow g h, zMtape g h] := hD
  have hK : va_K (dC, dI) vwCl [(k 9, .int), (k 10, .int), (k 11, .int), (k 12, .int), (k 13, .int), (k 14, .int), (k 20, .int), (k 21, .int), (k 22, .int), (k 23, .int), (k 24, .int), (k 25, .int), (k 30, .int), (k 32, .int), (h 2, .int), (h 3, .int), (h 4, .int), (h 5, .int), (h 6, .int), (h 10, .int), (h 11, .int), (h 12, .int), (h 13, .int), (h 35, .int), (h 41, .int)] s := hK
  obtain rfl : r3 = sp_weight (xs 1) (xs 2) := hw2
  refine lv_aload_n hx hb dL_law_304 rfl (lv_at hl 1 rfl) ?_
  refine lv_aload_n hx hb dL_law_305 rfl (lv_at hl 3 rfl) ?_
  refine lv_iload_n hx hb dL_law_306 rfl (lv_at hl 0 rfl) ?_
  refine lv_iconst (v := 1) hx hb dL_law_307 (by decide) ?_
  refine lv_iadd hx hb dL_law_308 ?_
  refine k_top (y := 1) (by decide) ?_
  refine va_sld hx hb hX hbl hbA hS (vin (by decide)) dL_law_309 ?_
  refine k_top (y := xs 1) rfl ?_
  refine lv_aload_n hx hb dL_law_310 rfl (lv_at hl 3 rfl) ?_
  refine lv_iload_n hx hb dL_law_311 rfl (lv_at hl 0 rfl) ?_
  refine lv_iconst (v := 2) hx hb dL_law_312 (by decide) ?_
  refine lv_iadd hx hb dL_law_313 ?_
  refine k_top (y := 2) (by decide) ?_
  refine va_sld hx hb hX hbl hbA hS (vin (by decide)) dL_law_314 ?_
  refine k_top (y := xs 2) rfl ?_
  refine kVi (b := (g 47)) (n := 2) (As := [.int (xs 1), .int (xs 2)]) (rest := [.int (sp_weight (xs 1) (xs 2))]) ⟨hx, hb, hml, hown, hta⟩ hnw (y_weight l dC dI g h (xs 1) (xs 2)  H.size) cd_X11_weight iz_X11 ml_L_34 im_X11_weight se_X11_X11_weight (by decide +kernel) rfl (Nat.le_of_ble_eq_true rfl) (Nat.le_of_ble_eq_true rfl) rfl rfl (Nat.le_of_ble_eq_true rfl) (Nat.le_of_ble_eq_true rfl) hP hD hK hS hA [14, 18] [0, 1, 2, 3, 4, 5, 6, 7, 8, 9, 10, 11, 12, 13, 15, 16, 17, 19, 20, 21, 22, 23, 24, 25] [17] rfl (wr := [zpi q k, ztp q k, zrw q k, ztu q k, zfr q k, zsl q k, ztn q k, zsz q k, zpt q k, zkd q k, zpr q k, zfo q k, zfx q k, zby q k, zMtune g h, zMfrets g h, zMslack g h, zMtuning g h, zMpitch g h, zMkind g h, zMprice g h, zMfixed g h, zMrow g h, zMtape g h]) rfl (by decide) (by decide) (by decide) rfl rfl 0 rfl hl.1 rfl (Nat.le_of_ble_eq_true rfl) dL_law_315 (fun r6 u4 H locs hw5 hP hD hK hS => ?_)
  have hP : va_P (dC, dI) vwCl [zpi q k, ztp q k, zrw q k, ztu q k, zfr q k, zsl q k, ztn q k, zsz q k, zpt q k, zkd q k, zpr q k, zfo q k, zfx q k, zby q k, zMtune g h, zMfrets g h, zMslack g h, zMtuning g h, zMpitch g h, zMkind g h, zMprice g h, zMfixed g h, zMrow g h, zMtape g h] H := hP
  have hD : va_D (fun q : Nat => s.heap.size ≤ q) [zpi q k, ztp q k, zrw q k, ztu q k, zfr q k, zsl q k, ztn q k, zsz q k, zpt q k, zkd q k, zpr q k, zfo q k, zfx q k, zby q k, zMtune g h, zMfrets g h, zMslack g h, zMtuning g h, zMpitch g h, zMkind g h, zMprice g h, zMfixed g h, zMrow g h, zMtape g h] := hD
  have hK : va_K (dC, dI) vwCl [(k 9, .int), (k 10, .int), (k 11, .int), (k 12, .int), (k 13, .int), (k 14, .int), (k 20, .int), (k 21, .int), (k 22, .int), (k 23, .int), (k 24, .int), (k 25, .int), (k 30, .int), (k 32, .int), (h 2, .int), (h 3, .int), (h 4, .int), (h 5, .int), (h 6, .int), (h 10, .int), (h 11, .int), (h 12, .int), (h 13, .int), (h 35, .int), (h 41, .int)] s := hK
  obtain rfl : r6 = sp_weight (xs 1) (xs 2) := hw5
  refine lv_icmp_eq (tgt := 898) hx hb dL_law_318 (by decide) (fun _ => ?_) (fun c => absurd rfl c)
  exact law_end C0 hS hl
set_option maxHeartbeats 4000000 in
set_option maxRecDepth 100000 in
theorem law_5 {p : Program} {l : Launch} {e : Env} {s : State} {m : MethodId} {below : List Frame} {meth : Method} {c : Code} {b : Nat} {xs : Nat → Int32} (C0 : lw_At p s m meth c b 5 xs) {dC : Nat → ClassId} {dI : Nat → Nat → Nat} (q : Nat → Nat) (k : Nat → ClassId) (g : Nat → Nat) (h : Nat → ClassId) (hK : va_K (dC, dI) vwCl [(k 9, .int), (k 10, .int), (k 11, .int), (k 12, .int), (k 13, .int), (k 14, .int), (k 20, .int), (k 21, .int), (k 22, .int), (k 23, .int), (k 24, .int), (k 25, .int), (k 30, .int), (k 32, .int), (h 2, .int), (h 3, .int), (h 4, .int), (h 5, .int), (h 6, .int), (h 10, .int), (h 11, .int), (h 12, .int), (h 13, .int), (h 35, .int), (h 41, .int)] s) {H : Heap} {locs : List Loc} {ls : Array Slot} (hP : va_P (dC, dI) vwCl [zLF q k, zlu q k, zpi q k, ztp q k, zbk q k, zwl q k, zrw q k, ztu q k, zfr q k, zsl q k, zwe q k, ztn q k, zsz q k, zpt q k, zkd q k, zpr q k, zfo q k, zfx q k, zby q k, zbs q k, zM g h, zMtune g h, zMfrets g h, zMslack g h, zMweight g h, zMtuning g h, zMpitch g h, zMkind g h, zMprice g h, zMfixed g h, zMrow g h, zMtape g h] H) (hD : va_D (fun q : Nat => s.heap.size ≤ q) [zLF q k, zlu q k, zpi q k, ztp q k, zbk q k, zwl q k, zrw q k, ztu q k, zfr q k, zsl q k, zwe q k, ztn q k, zsz q k, zpt q k, zkd q k, zpr q k, zfo q k, zfx q k, zby q k, zbs q k, zM g h, zMtune g h, zMfrets g h, zMslack g h, zMweight g h, zMtuning g h, zMpitch g h, zMkind g h, zMprice g h, zMfixed g h, zMrow g h, zMtape g h]) (hS : va_S (fun q : Nat => s.heap.size ≤ q) s.heap H locs) (hl : lv_has ls 4 [(3, .int 0), (2, .ref (g 47)), (1, .ref (q 0)), (0, .ref b)]) : W p l e room_1 s m #[Value.ref b] below meth c H locs 70 271976 (lw_Z below #[Value.ref b] s) (F0 m 323 ls []) := by
  obtain ⟨hx, hb, hr, hml, hown, hts, hX, hbl, hlocks, hgv⟩ := id C0
  have hown : s.vm.findClass RL = some m.cls := hown
  have hA : ∀ q : Nat, s.heap.size ≤ q → (fun q : Nat => s.heap.size ≤ q) q := fun _ h => h
  have hbA : ¬ (fun q : Nat => s.heap.size ≤ q) b := Nat.not_le.mpr hbl
  have hta : ∀ w ∈ wsL_law, w.before #[Value.ref b] s = true := fun w h => hts w (wsL_law_in w h)
  have hnw : nw s := nw_of hts
  refine lv_aload_n hx hb dL_law_323 rfl (lv_at hl 2 rfl) ?_
  refine lv_aload_n hx hb dL_law_324 rfl (lv_at hl 3 rfl) ?_
  refine lv_iload_n hx hb dL_law_325 rfl (lv_at hl 0 rfl) ?_
  refine lv_iconst (v := 1) hx hb dL_law_326 (by decide) ?_
  refine lv_iadd hx hb dL_law_327 ?_
  refine k_top (y := 1) (by decide) ?_
  refine va_sld hx hb hX hbl hbA hS (vin (by decide)) dL_law_328 ?_
  refine k_top (y := xs 1) rfl ?_
  refine lv_aload_n hx hb dL_law_329 rfl (lv_at hl 3 rfl) ?_
  refine lv_iload_n hx hb dL_law_330 rfl (lv_at hl 0 rfl) ?_
  refine lv_iconst (v := 2) hx hb dL_law_331 (by decide) ?_
  refine lv_iadd hx hb dL_law_332 ?_
  refine k_top (y := 2) (by decide) ?_
  refine va_sld hx hb hX hbl hbA hS (vin (by decide)) dL_law_333 ?_
  refine k_top (y := xs 2) rfl ?_
  refine lv_aload_n hx hb dL_law_334 rfl (lv_at hl 3 rfl) ?_
  refine lv_iload_n hx hb dL_law_335 rfl (lv_at hl 0 rfl) ?_
  refine lv_iconst (v := 3) hx hb dL_law_336 (by decide) ?_
  refine lv_iadd hx hb dL_law_337 ?_
  refine k_top (y := 3) (by decide) ?_
  refine va_sld hx hb hX hbl hbA hS (vin (by decide)) dL_law_338 ?_
  refine k_top (y := xs 3) rfl ?_
  refine kVi (b := (q 0)) (n := 3) (As := [.int (xs 1), .int (xs 2), .int (xs 3)]) (rest := []) ⟨hx, hb, hml, hown, hta⟩ hnw (x_note l dC dI q k (xs 1) (xs 2) (xs 3)  H.size) cd_X10_note iz_X10 ml_L_35 im_X10_note se_X10_X10_note (by decide +kernel) rfl (Nat.le_of_ble_eq_true rfl) (Nat.le_of_ble_eq_true rfl) rfl rfl (Nat.le_of_ble_eq_true rfl) (Nat.le_of_ble_eq_true rfl) hP hD hK hS hA [0, 2, 12, 13, 14, 15, 16, 17] [1, 3, 4, 5, 6, 7, 8, 9, 10, 11, 18, 19, 20, 21, 22, 23, 24, 25, 26, 27, 28, 29, 30, 31] [6, 7, 8, 9, 10, 11] rfl (wr := [zlu q k, ztp q k, zbk q k, zwl q k, zrw q k, ztu q k, zfr q k, zsl q k, zwe q k, ztn q k, zby q k, zbs q k, zM g h, zMtune g h, zMfrets g h, zMslack g h, zMweight g h, zMtuning g h, zMpitch g h, zMkind g h, zMprice g h, zMfixed g h, zMrow g h, zMtape g h]) rfl (by decide) (by decide) (by decide) rfl rfl 0 rfl hl.1 rfl (Nat.le_of_ble_eq_true rfl) dL_law_339 (fun r3 u1 H locs hw2 hP hD hK hS => ?_)
  have hP : va_P (dC, dI) vwCl [zlu q k, ztp q k, zbk q k, zwl q k, zrw q k, ztu q k, zfr q k, zsl q k, zwe q k, ztn q k, zby q k, zbs q k, zM g h, zMtune g h, zMfrets g h, zMslack g h, zMweight g h, zMtuning g h, zMpitch g h, zMkind g h, zMprice g h, zMfixed g h, zMrow g h, zMtape g h] H := hP
  have hD : va_D (fun q : Nat => s.heap.size ≤ q) [zlu q k, ztp q k, zbk q k, zwl q k, zrw q k, ztu q k, zfr q k, zsl q k, zwe q k, ztn q k, zby q k, zbs q k, zM g h, zMtune g h, zMfrets g h, zMslack g h, zMweight g h, zMtuning g h, zMpitch g h, zMkind g h, zMprice g h, zMfixed g h, zMrow g h, zMtape g h] := hD
  have hK : va_K (dC, dI) vwCl [(k 9, .int), (k 10, .int), (k 11, .int), (k 12, .int), (k 13, .int), (k 14, .int), (k 20, .int), (k 21, .int), (k 22, .int), (k 23, .int), (k 24, .int), (k 25, .int), (k 30, .int), (k 32, .int), (h 2, .int), (h 3, .int), (h 4, .int), (h 5, .int), (h 6, .int), (h 10, .int), (h 11, .int), (h 12, .int), (h 13, .int), (h 35, .int), (h 41, .int)] s := hK
  obtain rfl : r3 = sp_note (xs 1) (xs 2) (xs 3) := hw2
  refine lv_aload_n hx hb dL_law_342 rfl (lv_at hl 1 rfl) ?_
  refine lv_aload_n hx hb dL_law_343 rfl (lv_at hl 3 rfl) ?_
  refine lv_iload_n hx hb dL_law_344 rfl (lv_at hl 0 rfl) ?_
  refine lv_iconst (v := 1) hx hb dL_law_345 (by decide) ?_
  refine lv_iadd hx hb dL_law_346 ?_
  refine k_top (y := 1) (by decide) ?_
  refine va_sld hx hb hX hbl hbA hS (vin (by decide)) dL_law_347 ?_
  refine k_top (y := xs 1) rfl ?_
  refine lv_aload_n hx hb dL_law_348 rfl (lv_at hl 3 rfl) ?_
  refine lv_iload_n hx hb dL_law_349 rfl (lv_at hl 0 rfl) ?_
  refine lv_iconst (v := 2) hx hb dL_law_350 (by decide) ?_
  refine lv_iadd hx hb dL_law_351 ?_
  refine k_top (y := 2) (by decide) ?_
  refine va_sld hx hb hX hbl hbA hS (vin (by decide)) dL_law_352 ?_
  refine k_top (y := xs 2) rfl ?_
  refine lv_aload_n hx hb dL_law_353 rfl (lv_at hl 3 rfl) ?_
  refine lv_iload_n hx hb dL_law_354 rfl (lv_at hl 0 rfl) ?_
  refine lv_iconst (v := 3) hx hb dL_law_355 (by decide) ?_
  refine lv_iadd hx hb dL_law_356 ?_
  refine k_top (y := 3) (by decide) ?_
  refine va_sld hx hb hX hbl hbA hS (vin (by decide)) dL_law_357 ?_
  refine k_top (y := xs 3) rfl ?_
  refine kVi (b := (g 47)) (n := 3) (As := [.int (xs 1), .int (xs 2), .int (xs 3)]) (rest := [.int (sp_note (xs 1) (xs 2) (xs 3))]) ⟨hx, hb, hml, hown, hta⟩ hnw (y_note l dC dI g h (xs 1) (xs 2) (xs 3)  H.size) cd_X11_note iz_X11 ml_L_39 im_X11_note se_X11_X11_note (by decide +kernel) rfl (Nat.le_of_ble_eq_true rfl) (Nat.le_of_ble_eq_true rfl) rfl rfl (Nat.le_of_ble_eq_true rfl) (Nat.le_of_ble_eq_true rfl) hP hD hK hS hA [12, 18, 19, 20, 21] [0, 1, 2, 3, 4, 5, 6, 7, 8, 9, 10, 11, 13, 14, 15, 16, 17, 22, 23] [19, 20, 21, 22] rfl (wr := [zlu q k, ztp q k, zbk q k, zwl q k, zrw q k, ztu q k, zfr q k, zsl q k, zwe q k, ztn q k, zby q k, zbs q k, zMtune g h, zMfrets g h, zMslack g h, zMweight g h, zMtuning g h, zMrow g h, zMtape g h]) rfl (by decide) (by decide) (by decide) rfl rfl 0 rfl hl.1 rfl (Nat.le_of_ble_eq_true rfl) dL_law_358 (fun r6 u4 H locs hw5 hP hD hK hS => ?_)
  have hP : va_P (dC, dI) vwCl [zlu q k, ztp q k, zbk q k, zwl q k, zrw q k, ztu q k, zfr q k, zsl q k, zwe q k, ztn q k, zby q k, zbs q k, zMtune g h, zMfrets g h, zMslack g h, zMweight g h, zMtuning g h, zMrow g h, zMtape g h] H := hP
  have hD : va_D (fun q : Nat => s.heap.size ≤ q) [zlu q k, ztp q k, zbk q k, zwl q k, zrw q k, ztu q k, zfr q k, zsl q k, zwe q k, ztn q k, zby q k, zbs q k, zMtune g h, zMfrets g h, zMslack g h, zMweight g h, zMtuning g h, zMrow g h, zMtape g h] := hD
  have hK : va_K (dC, dI) vwCl [(k 9, .int), (k 10, .int), (k 11, .int), (k 12, .int), (k 13, .int), (k 14, .int), (k 20, .int), (k 21, .int), (k 22, .int), (k 23, .int), (k 24, .int), (k 25, .int), (k 30, .int), (k 32, .int), (h 2, .int), (h 3, .int), (h 4, .int), (h 5, .int), (h 6, .int), (h 10, .int), (h 11, .int), (h 12, .int), (h 13, .int), (h 35, .int), (h 41, .int)] s := hK
  obtain rfl : r6 = sp_note (xs 1) (xs 2) (xs 3) := hw5
  refine lv_icmp_eq (tgt := 898) hx hb dL_law_361 (by decide) (fun _ => ?_) (fun c => absurd rfl c)
  exact law_end C0 hS hl
set_option maxHeartbeats 4000000 in
set_option maxRecDepth 100000 in
theorem law_6 {p : Program} {l : Launch} {e : Env} {s : State} {m : MethodId} {below : List Frame} {meth : Method} {c : Code} {b : Nat} {xs : Nat → Int32} (C0 : lw_At p s m meth c b 5 xs) {dC : Nat → ClassId} {dI : Nat → Nat → Nat} (q : Nat → Nat) (k : Nat → ClassId) (g : Nat → Nat) (h : Nat → ClassId) (hK : va_K (dC, dI) vwCl [(k 9, .int), (k 10, .int), (k 11, .int), (k 12, .int), (k 13, .int), (k 14, .int), (k 20, .int), (k 21, .int), (k 22, .int), (k 23, .int), (k 24, .int), (k 25, .int), (k 30, .int), (k 32, .int), (h 2, .int), (h 3, .int), (h 4, .int), (h 5, .int), (h 6, .int), (h 10, .int), (h 11, .int), (h 12, .int), (h 13, .int), (h 35, .int), (h 41, .int)] s) {H : Heap} {locs : List Loc} {ls : Array Slot} (hP : va_P (dC, dI) vwCl [zLF q k, zlu q k, zpi q k, ztp q k, zbk q k, zwl q k, zrw q k, ztu q k, zfr q k, zsl q k, zwe q k, ztn q k, zsz q k, zpt q k, zkd q k, zpr q k, zfo q k, zfx q k, zby q k, zbs q k, zM g h, zMtune g h, zMfrets g h, zMslack g h, zMweight g h, zMtuning g h, zMpitch g h, zMkind g h, zMprice g h, zMfixed g h, zMrow g h, zMtape g h] H) (hD : va_D (fun q : Nat => s.heap.size ≤ q) [zLF q k, zlu q k, zpi q k, ztp q k, zbk q k, zwl q k, zrw q k, ztu q k, zfr q k, zsl q k, zwe q k, ztn q k, zsz q k, zpt q k, zkd q k, zpr q k, zfo q k, zfx q k, zby q k, zbs q k, zM g h, zMtune g h, zMfrets g h, zMslack g h, zMweight g h, zMtuning g h, zMpitch g h, zMkind g h, zMprice g h, zMfixed g h, zMrow g h, zMtape g h]) (hS : va_S (fun q : Nat => s.heap.size ≤ q) s.heap H locs) (hl : lv_has ls 4 [(3, .int 0), (2, .ref (g 47)), (1, .ref (q 0)), (0, .ref b)]) : W p l e room_1 s m #[Value.ref b] below meth c H locs 70 271976 (lw_Z below #[Value.ref b] s) (F0 m 366 ls []) := by
  obtain ⟨hx, hb, hr, hml, hown, hts, hX, hbl, hlocks, hgv⟩ := id C0
  have hown : s.vm.findClass RL = some m.cls := hown
  have hA : ∀ q : Nat, s.heap.size ≤ q → (fun q : Nat => s.heap.size ≤ q) q := fun _ h => h
  have hbA : ¬ (fun q : Nat => s.heap.size ≤ q) b := Nat.not_le.mpr hbl
  have hta : ∀ w ∈ wsL_law, w.before #[Value.ref b] s = true := fun w h => hts w (wsL_law_in w h)
  have hnw : nw s := nw_of hts
  refine lv_aload_n hx hb dL_law_366 rfl (lv_at hl 2 rfl) ?_
  refine kVi (b := (q 0)) (n := 0) (As := []) (rest := []) ⟨hx, hb, hml, hown, hta⟩ hnw (x_tick l dC dI q k  H.size) cd_X10_tick iz_X10 ml_L_40 im_X10_tick se_X10_X10_tick (by decide +kernel) rfl (Nat.le_of_ble_eq_true rfl) (Nat.le_of_ble_eq_true rfl) rfl rfl (Nat.le_of_ble_eq_true rfl) (Nat.le_of_ble_eq_true rfl) hP hD hK hS hA [0, 1] [2, 3, 4, 5, 6, 7, 8, 9, 10, 11, 12, 13, 14, 15, 16, 17, 18, 19, 20, 21, 22, 23, 24, 25, 26, 27, 28, 29, 30, 31] [] rfl (wr := [zpi q k, ztp q k, zbk q k, zwl q k, zrw q k, ztu q k, zfr q k, zsl q k, zwe q k, ztn q k, zsz q k, zpt q k, zkd q k, zpr q k, zfo q k, zfx q k, zby q k, zbs q k, zM g h, zMtune g h, zMfrets g h, zMslack g h, zMweight g h, zMtuning g h, zMpitch g h, zMkind g h, zMprice g h, zMfixed g h, zMrow g h, zMtape g h]) rfl (by decide) (by decide) (by decide) rfl rfl 0 rfl hl.1 rfl (Nat.le_of_ble_eq_true rfl) dL_law_367 (fun r3 u1 H locs hw2 hP hD hK hS => ?_)
  have hP : va_P (dC, dI) vwCl [zpi q k, ztp q k, zbk q k, zwl q k, zrw q k, ztu q k, zfr q k, zsl q k, zwe q k, ztn q k, zsz q k, zpt q k, zkd q k, zpr q k, zfo q k, zfx q k, zby q k, zbs q k, zM g h, zMtune g h, zMfrets g h, zMslack g h, zMweight g h, zMtuning g h, zMpitch g h, zMkind g h, zMprice g h, zMfixed g h, zMrow g h, zMtape g h] H := hP
  have hD : va_D (fun q : Nat => s.heap.size ≤ q) [zpi q k, ztp q k, zbk q k, zwl q k, zrw q k, ztu q k, zfr q k, zsl q k, zwe q k, ztn q k, zsz q k, zpt q k, zkd q k, zpr q k, zfo q k, zfx q k, zby q k, zbs q k, zM g h, zMtune g h, zMfrets g h, zMslack g h, zMweight g h, zMtuning g h, zMpitch g h, zMkind g h, zMprice g h, zMfixed g h, zMrow g h, zMtape g h] := hD
  have hK : va_K (dC, dI) vwCl [(k 9, .int), (k 10, .int), (k 11, .int), (k 12, .int), (k 13, .int), (k 14, .int), (k 20, .int), (k 21, .int), (k 22, .int), (k 23, .int), (k 24, .int), (k 25, .int), (k 30, .int), (k 32, .int), (h 2, .int), (h 3, .int), (h 4, .int), (h 5, .int), (h 6, .int), (h 10, .int), (h 11, .int), (h 12, .int), (h 13, .int), (h 35, .int), (h 41, .int)] s := hK
  obtain rfl : r3 = (-3) := hw2
  refine lv_aload_n hx hb dL_law_370 rfl (lv_at hl 1 rfl) ?_
  refine kVi (b := (g 47)) (n := 0) (As := []) (rest := [.int (-3)]) ⟨hx, hb, hml, hown, hta⟩ hnw (y_tick l dC dI g h  H.size) cd_X11_tick iz_X11 ml_L_44 im_X11_tick se_X11_X11_tick (by decide +kernel) rfl (Nat.le_of_ble_eq_true rfl) (Nat.le_of_ble_eq_true rfl) rfl rfl (Nat.le_of_ble_eq_true rfl) (Nat.le_of_ble_eq_true rfl) hP hD hK hS hA [18] [0, 1, 2, 3, 4, 5, 6, 7, 8, 9, 10, 11, 12, 13, 14, 15, 16, 17, 19, 20, 21, 22, 23, 24, 25, 26, 27, 28, 29] [] rfl (wr := [zpi q k, ztp q k, zbk q k, zwl q k, zrw q k, ztu q k, zfr q k, zsl q k, zwe q k, ztn q k, zsz q k, zpt q k, zkd q k, zpr q k, zfo q k, zfx q k, zby q k, zbs q k, zMtune g h, zMfrets g h, zMslack g h, zMweight g h, zMtuning g h, zMpitch g h, zMkind g h, zMprice g h, zMfixed g h, zMrow g h, zMtape g h]) rfl (by decide) (by decide) (by decide) rfl rfl 0 rfl hl.1 rfl (Nat.le_of_ble_eq_true rfl) dL_law_371 (fun r6 u4 H locs hw5 hP hD hK hS => ?_)
  have hP : va_P (dC, dI) vwCl [zpi q k, ztp q k, zbk q k, zwl q k, zrw q k, ztu q k, zfr q k, zsl q k, zwe q k, ztn q k, zsz q k, zpt q k, zkd q k, zpr q k, zfo q k, zfx q k, zby q k, zbs q k, zMtune g h, zMfrets g h, zMslack g h, zMweight g h, zMtuning g h, zMpitch g h, zMkind g h, zMprice g h, zMfixed g h, zMrow g h, zMtape g h] H := hP
  have hD : va_D (fun q : Nat => s.heap.size ≤ q) [zpi q k, ztp q k, zbk q k, zwl q k, zrw q k, ztu q k, zfr q k, zsl q k, zwe q k, ztn q k, zsz q k, zpt q k, zkd q k, zpr q k, zfo q k, zfx q k, zby q k, zbs q k, zMtune g h, zMfrets g h, zMslack g h, zMweight g h, zMtuning g h, zMpitch g h, zMkind g h, zMprice g h, zMfixed g h, zMrow g h, zMtape g h] := hD
  have hK : va_K (dC, dI) vwCl [(k 9, .int), (k 10, .int), (k 11, .int), (k 12, .int), (k 13, .int), (k 14, .int), (k 20, .int), (k 21, .int), (k 22, .int), (k 23, .int), (k 24, .int), (k 25, .int), (k 30, .int), (k 32, .int), (h 2, .int), (h 3, .int), (h 4, .int), (h 5, .int), (h 6, .int), (h 10, .int), (h 11, .int), (h 12, .int), (h 13, .int), (h 35, .int), (h 41, .int)] s := hK
  obtain rfl : r6 = (-3) := hw5
  refine lv_icmp_eq (tgt := 898) hx hb dL_law_374 (by decide) (fun _ => ?_) (fun c => absurd (by decide) c)
  exact law_end C0 hS hl
set_option maxHeartbeats 4000000 in
set_option maxRecDepth 100000 in
theorem law_7 {p : Program} {l : Launch} {e : Env} {s : State} {m : MethodId} {below : List Frame} {meth : Method} {c : Code} {b : Nat} {xs : Nat → Int32} (C0 : lw_At p s m meth c b 5 xs) {dC : Nat → ClassId} {dI : Nat → Nat → Nat} (q : Nat → Nat) (k : Nat → ClassId) (g : Nat → Nat) (h : Nat → ClassId) (hK : va_K (dC, dI) vwCl [(k 9, .int), (k 10, .int), (k 11, .int), (k 12, .int), (k 13, .int), (k 14, .int), (k 20, .int), (k 21, .int), (k 22, .int), (k 23, .int), (k 24, .int), (k 25, .int), (k 30, .int), (k 32, .int), (h 2, .int), (h 3, .int), (h 4, .int), (h 5, .int), (h 6, .int), (h 10, .int), (h 11, .int), (h 12, .int), (h 13, .int), (h 35, .int), (h 41, .int)] s) {H : Heap} {locs : List Loc} {ls : Array Slot} (hP : va_P (dC, dI) vwCl [zLF q k, zlu q k, zpi q k, ztp q k, zbk q k, zwl q k, zrw q k, ztu q k, zfr q k, zsl q k, zwe q k, ztn q k, zsz q k, zpt q k, zkd q k, zpr q k, zfo q k, zfx q k, zby q k, zbs q k, zM g h, zMtune g h, zMfrets g h, zMslack g h, zMweight g h, zMtuning g h, zMpitch g h, zMkind g h, zMprice g h, zMfixed g h, zMrow g h, zMtape g h] H) (hD : va_D (fun q : Nat => s.heap.size ≤ q) [zLF q k, zlu q k, zpi q k, ztp q k, zbk q k, zwl q k, zrw q k, ztu q k, zfr q k, zsl q k, zwe q k, ztn q k, zsz q k, zpt q k, zkd q k, zpr q k, zfo q k, zfx q k, zby q k, zbs q k, zM g h, zMtune g h, zMfrets g h, zMslack g h, zMweight g h, zMtuning g h, zMpitch g h, zMkind g h, zMprice g h, zMfixed g h, zMrow g h, zMtape g h]) (hS : va_S (fun q : Nat => s.heap.size ≤ q) s.heap H locs) (hl : lv_has ls 4 [(3, .int 0), (2, .ref (g 47)), (1, .ref (q 0)), (0, .ref b)]) : W p l e room_1 s m #[Value.ref b] below meth c H locs 70 271976 (lw_Z below #[Value.ref b] s) (F0 m 379 ls []) := by
  obtain ⟨hx, hb, hr, hml, hown, hts, hX, hbl, hlocks, hgv⟩ := id C0
  have hown : s.vm.findClass RL = some m.cls := hown
  have hA : ∀ q : Nat, s.heap.size ≤ q → (fun q : Nat => s.heap.size ≤ q) q := fun _ h => h
  have hbA : ¬ (fun q : Nat => s.heap.size ≤ q) b := Nat.not_le.mpr hbl
  have hta : ∀ w ∈ wsL_law, w.before #[Value.ref b] s = true := fun w h => hts w (wsL_law_in w h)
  have hnw : nw s := nw_of hts
  refine lv_aload_n hx hb dL_law_379 rfl (lv_at hl 2 rfl) ?_
  refine kVi (b := (q 0)) (n := 0) (As := []) (rest := []) ⟨hx, hb, hml, hown, hta⟩ hnw (x_clear l dC dI q k  H.size) cd_X10_clear iz_X10 ml_L_45 im_X10_clear se_X10_X10_clear (by decide +kernel) rfl (Nat.le_of_ble_eq_true rfl) (Nat.le_of_ble_eq_true rfl) rfl rfl (Nat.le_of_ble_eq_true rfl) (Nat.le_of_ble_eq_true rfl) hP hD hK hS hA [0, 2, 5, 4, 19, 12] [1, 3, 6, 7, 8, 9, 10, 11, 13, 14, 15, 16, 17, 18, 20, 21, 22, 23, 24, 25, 26, 27, 28, 29, 30, 31] [13, 6] rfl (wr := [zlu q k, ztp q k, zrw q k, ztu q k, zfr q k, zsl q k, zwe q k, ztn q k, zpt q k, zkd q k, zpr q k, zfo q k, zfx q k, zby q k, zM g h, zMtune g h, zMfrets g h, zMslack g h, zMweight g h, zMtuning g h, zMpitch g h, zMkind g h, zMprice g h, zMfixed g h, zMrow g h, zMtape g h]) rfl (by decide) (by decide) (by decide) rfl rfl 0 rfl hl.1 rfl (Nat.le_of_ble_eq_true rfl) dL_law_380 (fun r3 u1 H locs hw2 hP hD hK hS => ?_)
  have hP : va_P (dC, dI) vwCl [zlu q k, ztp q k, zrw q k, ztu q k, zfr q k, zsl q k, zwe q k, ztn q k, zpt q k, zkd q k, zpr q k, zfo q k, zfx q k, zby q k, zM g h, zMtune g h, zMfrets g h, zMslack g h, zMweight g h, zMtuning g h, zMpitch g h, zMkind g h, zMprice g h, zMfixed g h, zMrow g h, zMtape g h] H := hP
  have hD : va_D (fun q : Nat => s.heap.size ≤ q) [zlu q k, ztp q k, zrw q k, ztu q k, zfr q k, zsl q k, zwe q k, ztn q k, zpt q k, zkd q k, zpr q k, zfo q k, zfx q k, zby q k, zM g h, zMtune g h, zMfrets g h, zMslack g h, zMweight g h, zMtuning g h, zMpitch g h, zMkind g h, zMprice g h, zMfixed g h, zMrow g h, zMtape g h] := hD
  have hK : va_K (dC, dI) vwCl [(k 9, .int), (k 10, .int), (k 11, .int), (k 12, .int), (k 13, .int), (k 14, .int), (k 20, .int), (k 21, .int), (k 22, .int), (k 23, .int), (k 24, .int), (k 25, .int), (k 30, .int), (k 32, .int), (h 2, .int), (h 3, .int), (h 4, .int), (h 5, .int), (h 6, .int), (h 10, .int), (h 11, .int), (h 12, .int), (h 13, .int), (h 35, .int), (h 41, .int)] s := hK
  obtain rfl : r3 = 0 := hw2
  refine lv_aload_n hx hb dL_law_383 rfl (lv_at hl 1 rfl) ?_
  refine kVi (b := (g 47)) (n := 0) (As := []) (rest := [.int 0]) ⟨hx, hb, hml, hown, hta⟩ hnw (y_clear l dC dI g h  H.size) cd_X11_clear iz_X11 ml_L_48 im_X11_clear se_X11_X11_clear (by decide +kernel) rfl (Nat.le_of_ble_eq_true rfl) (Nat.le_of_ble_eq_true rfl) rfl rfl (Nat.le_of_ble_eq_true rfl) (Nat.le_of_ble_eq_true rfl) hP hD hK hS hA [14] [0, 1, 2, 3, 4, 5, 6, 7, 8, 9, 10, 11, 12, 13, 15, 16, 17, 18, 19, 20, 21, 22, 23, 24, 25] [] rfl (wr := [zlu q k, ztp q k, zrw q k, ztu q k, zfr q k, zsl q k, zwe q k, ztn q k, zpt q k, zkd q k, zpr q k, zfo q k, zfx q k, zby q k, zMtune g h, zMfrets g h, zMslack g h, zMweight g h, zMtuning g h, zMpitch g h, zMkind g h, zMprice g h, zMfixed g h, zMrow g h, zMtape g h]) rfl (by decide) (by decide) (by decide) rfl rfl 0 rfl hl.1 rfl (Nat.le_of_ble_eq_true rfl) dL_law_384 (fun r6 u4 H locs hw5 hP hD hK hS => ?_)
  have hP : va_P (dC, dI) vwCl [zlu q k, ztp q k, zrw q k, ztu q k, zfr q k, zsl q k, zwe q k, ztn q k, zpt q k, zkd q k, zpr q k, zfo q k, zfx q k, zby q k, zMtune g h, zMfrets g h, zMslack g h, zMweight g h, zMtuning g h, zMpitch g h, zMkind g h, zMprice g h, zMfixed g h, zMrow g h, zMtape g h] H := hP
  have hD : va_D (fun q : Nat => s.heap.size ≤ q) [zlu q k, ztp q k, zrw q k, ztu q k, zfr q k, zsl q k, zwe q k, ztn q k, zpt q k, zkd q k, zpr q k, zfo q k, zfx q k, zby q k, zMtune g h, zMfrets g h, zMslack g h, zMweight g h, zMtuning g h, zMpitch g h, zMkind g h, zMprice g h, zMfixed g h, zMrow g h, zMtape g h] := hD
  have hK : va_K (dC, dI) vwCl [(k 9, .int), (k 10, .int), (k 11, .int), (k 12, .int), (k 13, .int), (k 14, .int), (k 20, .int), (k 21, .int), (k 22, .int), (k 23, .int), (k 24, .int), (k 25, .int), (k 30, .int), (k 32, .int), (h 2, .int), (h 3, .int), (h 4, .int), (h 5, .int), (h 6, .int), (h 10, .int), (h 11, .int), (h 12, .int), (h 13, .int), (h 35, .int), (h 41, .int)] s := hK
  obtain rfl : r6 = 0 := hw5
  refine lv_icmp_eq (tgt := 898) hx hb dL_law_387 (by decide) (fun _ => ?_) (fun c => absurd (by decide) c)
  exact law_end C0 hS hl
set_option maxHeartbeats 4000000 in
set_option maxRecDepth 100000 in
theorem law_8 {p : Program} {l : Launch} {e : Env} {s : State} {m : MethodId} {below : List Frame} {meth : Method} {c : Code} {b : Nat} {xs : Nat → Int32} (C0 : lw_At p s m meth c b 5 xs) {dC : Nat → ClassId} {dI : Nat → Nat → Nat} (q : Nat → Nat) (k : Nat → ClassId) (g : Nat → Nat) (h : Nat → ClassId) (hK : va_K (dC, dI) vwCl [(k 9, .int), (k 10, .int), (k 11, .int), (k 12, .int), (k 13, .int), (k 14, .int), (k 20, .int), (k 21, .int), (k 22, .int), (k 23, .int), (k 24, .int), (k 25, .int), (k 30, .int), (k 32, .int), (h 2, .int), (h 3, .int), (h 4, .int), (h 5, .int), (h 6, .int), (h 10, .int), (h 11, .int), (h 12, .int), (h 13, .int), (h 35, .int), (h 41, .int)] s) {H : Heap} {locs : List Loc} {ls : Array Slot} (hP : va_P (dC, dI) vwCl [zLF q k, zlu q k, zpi q k, ztp q k, zbk q k, zwl q k, zrw q k, ztu q k, zfr q k, zsl q k, zwe q k, ztn q k, zsz q k, zpt q k, zkd q k, zpr q k, zfo q k, zfx q k, zby q k, zbs q k, zM g h, zMtune g h, zMfrets g h, zMslack g h, zMweight g h, zMtuning g h, zMpitch g h, zMkind g h, zMprice g h, zMfixed g h, zMrow g h, zMtape g h] H) (hD : va_D (fun q : Nat => s.heap.size ≤ q) [zLF q k, zlu q k, zpi q k, ztp q k, zbk q k, zwl q k, zrw q k, ztu q k, zfr q k, zsl q k, zwe q k, ztn q k, zsz q k, zpt q k, zkd q k, zpr q k, zfo q k, zfx q k, zby q k, zbs q k, zM g h, zMtune g h, zMfrets g h, zMslack g h, zMweight g h, zMtuning g h, zMpitch g h, zMkind g h, zMprice g h, zMfixed g h, zMrow g h, zMtape g h]) (hS : va_S (fun q : Nat => s.heap.size ≤ q) s.heap H locs) (hl : lv_has ls 4 [(3, .int 0), (2, .ref (g 47)), (1, .ref (q 0)), (0, .ref b)]) : W p l e room_1 s m #[Value.ref b] below meth c H locs 70 271976 (lw_Z below #[Value.ref b] s) (F0 m 392 ls []) := by
  obtain ⟨hx, hb, hr, hml, hown, hts, hX, hbl, hlocks, hgv⟩ := id C0
  have hown : s.vm.findClass RL = some m.cls := hown
  have hA : ∀ q : Nat, s.heap.size ≤ q → (fun q : Nat => s.heap.size ≤ q) q := fun _ h => h
  have hbA : ¬ (fun q : Nat => s.heap.size ≤ q) b := Nat.not_le.mpr hbl
  have hta : ∀ w ∈ wsL_law, w.before #[Value.ref b] s = true := fun w h => hts w (wsL_law_in w h)
  have hnw : nw s := nw_of hts
  refine lv_aload_n hx hb dL_law_392 rfl (lv_at hl 2 rfl) ?_
  refine lv_aload_n hx hb dL_law_393 rfl (lv_at hl 3 rfl) ?_
  refine lv_iload_n hx hb dL_law_394 rfl (lv_at hl 0 rfl) ?_
  refine lv_iconst (v := 1) hx hb dL_law_395 (by decide) ?_
  refine lv_iadd hx hb dL_law_396 ?_
  refine k_top (y := 1) (by decide) ?_
  refine va_sld hx hb hX hbl hbA hS (vin (by decide)) dL_law_397 ?_
  refine k_top (y := xs 1) rfl ?_
  refine lv_aload_n hx hb dL_law_398 rfl (lv_at hl 3 rfl) ?_
  refine lv_iload_n hx hb dL_law_399 rfl (lv_at hl 0 rfl) ?_
  refine lv_iconst (v := 2) hx hb dL_law_400 (by decide) ?_
  refine lv_iadd hx hb dL_law_401 ?_
  refine k_top (y := 2) (by decide) ?_
  refine va_sld hx hb hX hbl hbA hS (vin (by decide)) dL_law_402 ?_
  refine k_top (y := xs 2) rfl ?_
  refine lv_aload_n hx hb dL_law_403 rfl (lv_at hl 3 rfl) ?_
  refine lv_iload_n hx hb dL_law_404 rfl (lv_at hl 0 rfl) ?_
  refine lv_iconst (v := 3) hx hb dL_law_405 (by decide) ?_
  refine lv_iadd hx hb dL_law_406 ?_
  refine k_top (y := 3) (by decide) ?_
  refine va_sld hx hb hX hbl hbA hS (vin (by decide)) dL_law_407 ?_
  refine k_top (y := xs 3) rfl ?_
  refine kVi (b := (q 0)) (n := 3) (As := [.int (xs 1), .int (xs 2), .int (xs 3)]) (rest := []) ⟨hx, hb, hml, hown, hta⟩ hnw (x_fix l dC dI q k (xs 1) (xs 2) (xs 3)  H.size) cd_X10_fix iz_X10 ml_L_49 im_X10_fix se_X10_X10_fix (by decide +kernel) rfl (Nat.le_of_ble_eq_true rfl) (Nat.le_of_ble_eq_true rfl) rfl rfl (Nat.le_of_ble_eq_true rfl) (Nat.le_of_ble_eq_true rfl) hP hD hK hS hA [0, 2] [1, 3, 4, 5, 6, 7, 8, 9, 10, 11, 12, 13, 14, 15, 16, 17, 18, 19, 20, 21, 22, 23, 24, 25, 26, 27, 28, 29, 30, 31] [] rfl (wr := [zlu q k, ztp q k, zbk q k, zwl q k, zrw q k, ztu q k, zfr q k, zsl q k, zwe q k, ztn q k, zsz q k, zpt q k, zkd q k, zpr q k, zfo q k, zfx q k, zby q k, zbs q k, zM g h, zMtune g h, zMfrets g h, zMslack g h, zMweight g h, zMtuning g h, zMpitch g h, zMkind g h, zMprice g h, zMfixed g h, zMrow g h, zMtape g h]) rfl (by decide) (by decide) (by decide) rfl rfl 0 rfl hl.1 rfl (Nat.le_of_ble_eq_true rfl) dL_law_408 (fun r3 u1 H locs hw2 hP hD hK hS => ?_)
  have hP : va_P (dC, dI) vwCl [zlu q k, ztp q k, zbk q k, zwl q k, zrw q k, ztu q k, zfr q k, zsl q k, zwe q k, ztn q k, zsz q k, zpt q k, zkd q k, zpr q k, zfo q k, zfx q k, zby q k, zbs q k, zM g h, zMtune g h, zMfrets g h, zMslack g h, zMweight g h, zMtuning g h, zMpitch g h, zMkind g h, zMprice g h, zMfixed g h, zMrow g h, zMtape g h] H := hP
  have hD : va_D (fun q : Nat => s.heap.size ≤ q) [zlu q k, ztp q k, zbk q k, zwl q k, zrw q k, ztu q k, zfr q k, zsl q k, zwe q k, ztn q k, zsz q k, zpt q k, zkd q k, zpr q k, zfo q k, zfx q k, zby q k, zbs q k, zM g h, zMtune g h, zMfrets g h, zMslack g h, zMweight g h, zMtuning g h, zMpitch g h, zMkind g h, zMprice g h, zMfixed g h, zMrow g h, zMtape g h] := hD
  have hK : va_K (dC, dI) vwCl [(k 9, .int), (k 10, .int), (k 11, .int), (k 12, .int), (k 13, .int), (k 14, .int), (k 20, .int), (k 21, .int), (k 22, .int), (k 23, .int), (k 24, .int), (k 25, .int), (k 30, .int), (k 32, .int), (h 2, .int), (h 3, .int), (h 4, .int), (h 5, .int), (h 6, .int), (h 10, .int), (h 11, .int), (h 12, .int), (h 13, .int), (h 35, .int), (h 41, .int)] s := hK
  obtain rfl : r3 = (-1) := hw2
  refine lv_aload_n hx hb dL_law_411 rfl (lv_at hl 1 rfl) ?_
  refine lv_aload_n hx hb dL_law_412 rfl (lv_at hl 3 rfl) ?_
  refine lv_iload_n hx hb dL_law_413 rfl (lv_at hl 0 rfl) ?_
  refine lv_iconst (v := 1) hx hb dL_law_414 (by decide) ?_
  refine lv_iadd hx hb dL_law_415 ?_
  refine k_top (y := 1) (by decide) ?_
  refine va_sld hx hb hX hbl hbA hS (vin (by decide)) dL_law_416 ?_
  refine k_top (y := xs 1) rfl ?_
  refine lv_aload_n hx hb dL_law_417 rfl (lv_at hl 3 rfl) ?_
  refine lv_iload_n hx hb dL_law_418 rfl (lv_at hl 0 rfl) ?_
  refine lv_iconst (v := 2) hx hb dL_law_419 (by decide) ?_
  refine lv_iadd hx hb dL_law_420 ?_
  refine k_top (y := 2) (by decide) ?_
  refine va_sld hx hb hX hbl hbA hS (vin (by decide)) dL_law_421 ?_
  refine k_top (y := xs 2) rfl ?_
  refine lv_aload_n hx hb dL_law_422 rfl (lv_at hl 3 rfl) ?_
  refine lv_iload_n hx hb dL_law_423 rfl (lv_at hl 0 rfl) ?_
  refine lv_iconst (v := 3) hx hb dL_law_424 (by decide) ?_
  refine lv_iadd hx hb dL_law_425 ?_
  refine k_top (y := 3) (by decide) ?_
  refine va_sld hx hb hX hbl hbA hS (vin (by decide)) dL_law_426 ?_
  refine k_top (y := xs 3) rfl ?_
  refine kVi (b := (g 47)) (n := 3) (As := [.int (xs 1), .int (xs 2), .int (xs 3)]) (rest := [.int (-1)]) ⟨hx, hb, hml, hown, hta⟩ hnw (y_fix l dC dI g h (xs 1) (xs 2) (xs 3)  H.size) cd_X11_fix iz_X11 ml_L_52 im_X11_fix se_X11_X11_fix (by decide +kernel) rfl (Nat.le_of_ble_eq_true rfl) (Nat.le_of_ble_eq_true rfl) rfl rfl (Nat.le_of_ble_eq_true rfl) (Nat.le_of_ble_eq_true rfl) hP hD hK hS hA [18] [0, 1, 2, 3, 4, 5, 6, 7, 8, 9, 10, 11, 12, 13, 14, 15, 16, 17, 19, 20, 21, 22, 23, 24, 25, 26, 27, 28, 29] [] rfl (wr := [zlu q k, ztp q k, zbk q k, zwl q k, zrw q k, ztu q k, zfr q k, zsl q k, zwe q k, ztn q k, zsz q k, zpt q k, zkd q k, zpr q k, zfo q k, zfx q k, zby q k, zbs q k, zMtune g h, zMfrets g h, zMslack g h, zMweight g h, zMtuning g h, zMpitch g h, zMkind g h, zMprice g h, zMfixed g h, zMrow g h, zMtape g h]) rfl (by decide) (by decide) (by decide) rfl rfl 0 rfl hl.1 rfl (Nat.le_of_ble_eq_true rfl) dL_law_427 (fun r6 u4 H locs hw5 hP hD hK hS => ?_)
  have hP : va_P (dC, dI) vwCl [zlu q k, ztp q k, zbk q k, zwl q k, zrw q k, ztu q k, zfr q k, zsl q k, zwe q k, ztn q k, zsz q k, zpt q k, zkd q k, zpr q k, zfo q k, zfx q k, zby q k, zbs q k, zMtune g h, zMfrets g h, zMslack g h, zMweight g h, zMtuning g h, zMpitch g h, zMkind g h, zMprice g h, zMfixed g h, zMrow g h, zMtape g h] H := hP
  have hD : va_D (fun q : Nat => s.heap.size ≤ q) [zlu q k, ztp q k, zbk q k, zwl q k, zrw q k, ztu q k, zfr q k, zsl q k, zwe q k, ztn q k, zsz q k, zpt q k, zkd q k, zpr q k, zfo q k, zfx q k, zby q k, zbs q k, zMtune g h, zMfrets g h, zMslack g h, zMweight g h, zMtuning g h, zMpitch g h, zMkind g h, zMprice g h, zMfixed g h, zMrow g h, zMtape g h] := hD
  have hK : va_K (dC, dI) vwCl [(k 9, .int), (k 10, .int), (k 11, .int), (k 12, .int), (k 13, .int), (k 14, .int), (k 20, .int), (k 21, .int), (k 22, .int), (k 23, .int), (k 24, .int), (k 25, .int), (k 30, .int), (k 32, .int), (h 2, .int), (h 3, .int), (h 4, .int), (h 5, .int), (h 6, .int), (h 10, .int), (h 11, .int), (h 12, .int), (h 13, .int), (h 35, .int), (h 41, .int)] s := hK
  obtain rfl : r6 = (-1) := hw5
  refine lv_icmp_eq (tgt := 898) hx hb dL_law_430 (by decide) (fun _ => ?_) (fun c => absurd (by decide) c)
  exact law_end C0 hS hl
set_option maxHeartbeats 4000000 in
set_option maxRecDepth 100000 in
theorem law_9 {p : Program} {l : Launch} {e : Env} {s : State} {m : MethodId} {below : List Frame} {meth : Method} {c : Code} {b : Nat} {xs : Nat → Int32} (C0 : lw_At p s m meth c b 5 xs) {dC : Nat → ClassId} {dI : Nat → Nat → Nat} (q : Nat → Nat) (k : Nat → ClassId) (g : Nat → Nat) (h : Nat → ClassId) (hK : va_K (dC, dI) vwCl [(k 9, .int), (k 10, .int), (k 11, .int), (k 12, .int), (k 13, .int), (k 14, .int), (k 20, .int), (k 21, .int), (k 22, .int), (k 23, .int), (k 24, .int), (k 25, .int), (k 30, .int), (k 32, .int), (h 2, .int), (h 3, .int), (h 4, .int), (h 5, .int), (h 6, .int), (h 10, .int), (h 11, .int), (h 12, .int), (h 13, .int), (h 35, .int), (h 41, .int)] s) {H : Heap} {locs : List Loc} {ls : Array Slot} (hP : va_P (dC, dI) vwCl [zLF q k, zlu q k, zpi q k, ztp q k, zbk q k, zwl q k, zrw q k, ztu q k, zfr q k, zsl q k, zwe q k, ztn q k, zsz q k, zpt q k, zkd q k, zpr q k, zfo q k, zfx q k, zby q k, zbs q k, zM g h, zMtune g h, zMfrets g h, zMslack g h, zMweight g h, zMtuning g h, zMpitch g h, zMkind g h, zMprice g h, zMfixed g h, zMrow g h, zMtape g h] H) (hD : va_D (fun q : Nat => s.heap.size ≤ q) [zLF q k, zlu q k, zpi q k, ztp q k, zbk q k, zwl q k, zrw q k, ztu q k, zfr q k, zsl q k, zwe q k, ztn q k, zsz q k, zpt q k, zkd q k, zpr q k, zfo q k, zfx q k, zby q k, zbs q k, zM g h, zMtune g h, zMfrets g h, zMslack g h, zMweight g h, zMtuning g h, zMpitch g h, zMkind g h, zMprice g h, zMfixed g h, zMrow g h, zMtape g h]) (hS : va_S (fun q : Nat => s.heap.size ≤ q) s.heap H locs) (hl : lv_has ls 4 [(3, .int 0), (2, .ref (g 47)), (1, .ref (q 0)), (0, .ref b)]) : W p l e room_1 s m #[Value.ref b] below meth c H locs 70 271976 (lw_Z below #[Value.ref b] s) (F0 m 435 ls []) := by
  obtain ⟨hx, hb, hr, hml, hown, hts, hX, hbl, hlocks, hgv⟩ := id C0
  have hown : s.vm.findClass RL = some m.cls := hown
  have hA : ∀ q : Nat, s.heap.size ≤ q → (fun q : Nat => s.heap.size ≤ q) q := fun _ h => h
  have hbA : ¬ (fun q : Nat => s.heap.size ≤ q) b := Nat.not_le.mpr hbl
  have hta : ∀ w ∈ wsL_law, w.before #[Value.ref b] s = true := fun w h => hts w (wsL_law_in w h)
  have hnw : nw s := nw_of hts
  refine lv_aload_n hx hb dL_law_435 rfl (lv_at hl 2 rfl) ?_
  refine lv_aload_n hx hb dL_law_436 rfl (lv_at hl 3 rfl) ?_
  refine lv_iload_n hx hb dL_law_437 rfl (lv_at hl 0 rfl) ?_
  refine lv_iconst (v := 1) hx hb dL_law_438 (by decide) ?_
  refine lv_iadd hx hb dL_law_439 ?_
  refine k_top (y := 1) (by decide) ?_
  refine va_sld hx hb hX hbl hbA hS (vin (by decide)) dL_law_440 ?_
  refine k_top (y := xs 1) rfl ?_
  refine lv_aload_n hx hb dL_law_441 rfl (lv_at hl 3 rfl) ?_
  refine lv_iload_n hx hb dL_law_442 rfl (lv_at hl 0 rfl) ?_
  refine lv_iconst (v := 2) hx hb dL_law_443 (by decide) ?_
  refine lv_iadd hx hb dL_law_444 ?_
  refine k_top (y := 2) (by decide) ?_
  refine va_sld hx hb hX hbl hbA hS (vin (by decide)) dL_law_445 ?_
  refine k_top (y := xs 2) rfl ?_
  refine lv_aload_n hx hb dL_law_446 rfl (lv_at hl 3 rfl) ?_
  refine lv_iload_n hx hb dL_law_447 rfl (lv_at hl 0 rfl) ?_
  refine lv_iconst (v := 3) hx hb dL_law_448 (by decide) ?_
  refine lv_iadd hx hb dL_law_449 ?_
  refine k_top (y := 3) (by decide) ?_
  refine va_sld hx hb hX hbl hbA hS (vin (by decide)) dL_law_450 ?_
  refine k_top (y := xs 3) rfl ?_
  refine kVi (b := (q 0)) (n := 3) (As := [.int (xs 1), .int (xs 2), .int (xs 3)]) (rest := []) ⟨hx, hb, hml, hown, hta⟩ hnw (x_told l dC dI q k (xs 1) (xs 2) (xs 3)  H.size) cd_X10_told iz_X10 ml_L_53 im_X10_told se_X10_X10_told (by decide +kernel) rfl (Nat.le_of_ble_eq_true rfl) (Nat.le_of_ble_eq_true rfl) rfl rfl (Nat.le_of_ble_eq_true rfl) (Nat.le_of_ble_eq_true rfl) hP hD hK hS hA [0, 2] [1, 3, 4, 5, 6, 7, 8, 9, 10, 11, 12, 13, 14, 15, 16, 17, 18, 19, 20, 21, 22, 23, 24, 25, 26, 27, 28, 29, 30, 31] [] rfl (wr := [zlu q k, ztp q k, zbk q k, zwl q k, zrw q k, ztu q k, zfr q k, zsl q k, zwe q k, ztn q k, zsz q k, zpt q k, zkd q k, zpr q k, zfo q k, zfx q k, zby q k, zbs q k, zM g h, zMtune g h, zMfrets g h, zMslack g h, zMweight g h, zMtuning g h, zMpitch g h, zMkind g h, zMprice g h, zMfixed g h, zMrow g h, zMtape g h]) rfl (by decide) (by decide) (by decide) rfl rfl 0 rfl hl.1 rfl (Nat.le_of_ble_eq_true rfl) dL_law_451 (fun r3 u1 H locs hw2 hP hD hK hS => ?_)
  have hP : va_P (dC, dI) vwCl [zlu q k, ztp q k, zbk q k, zwl q k, zrw q k, ztu q k, zfr q k, zsl q k, zwe q k, ztn q k, zsz q k, zpt q k, zkd q k, zpr q k, zfo q k, zfx q k, zby q k, zbs q k, zM g h, zMtune g h, zMfrets g h, zMslack g h, zMweight g h, zMtuning g h, zMpitch g h, zMkind g h, zMprice g h, zMfixed g h, zMrow g h, zMtape g h] H := hP
  have hD : va_D (fun q : Nat => s.heap.size ≤ q) [zlu q k, ztp q k, zbk q k, zwl q k, zrw q k, ztu q k, zfr q k, zsl q k, zwe q k, ztn q k, zsz q k, zpt q k, zkd q k, zpr q k, zfo q k, zfx q k, zby q k, zbs q k, zM g h, zMtune g h, zMfrets g h, zMslack g h, zMweight g h, zMtuning g h, zMpitch g h, zMkind g h, zMprice g h, zMfixed g h, zMrow g h, zMtape g h] := hD
  have hK : va_K (dC, dI) vwCl [(k 9, .int), (k 10, .int), (k 11, .int), (k 12, .int), (k 13, .int), (k 14, .int), (k 20, .int), (k 21, .int), (k 22, .int), (k 23, .int), (k 24, .int), (k 25, .int), (k 30, .int), (k 32, .int), (h 2, .int), (h 3, .int), (h 4, .int), (h 5, .int), (h 6, .int), (h 10, .int), (h 11, .int), (h 12, .int), (h 13, .int), (h 35, .int), (h 41, .int)] s := hK
  obtain rfl : r3 = (-1) := hw2
  refine lv_aload_n hx hb dL_law_454 rfl (lv_at hl 1 rfl) ?_
  refine lv_aload_n hx hb dL_law_455 rfl (lv_at hl 3 rfl) ?_
  refine lv_iload_n hx hb dL_law_456 rfl (lv_at hl 0 rfl) ?_
  refine lv_iconst (v := 1) hx hb dL_law_457 (by decide) ?_
  refine lv_iadd hx hb dL_law_458 ?_
  refine k_top (y := 1) (by decide) ?_
  refine va_sld hx hb hX hbl hbA hS (vin (by decide)) dL_law_459 ?_
  refine k_top (y := xs 1) rfl ?_
  refine lv_aload_n hx hb dL_law_460 rfl (lv_at hl 3 rfl) ?_
  refine lv_iload_n hx hb dL_law_461 rfl (lv_at hl 0 rfl) ?_
  refine lv_iconst (v := 2) hx hb dL_law_462 (by decide) ?_
  refine lv_iadd hx hb dL_law_463 ?_
  refine k_top (y := 2) (by decide) ?_
  refine va_sld hx hb hX hbl hbA hS (vin (by decide)) dL_law_464 ?_
  refine k_top (y := xs 2) rfl ?_
  refine lv_aload_n hx hb dL_law_465 rfl (lv_at hl 3 rfl) ?_
  refine lv_iload_n hx hb dL_law_466 rfl (lv_at hl 0 rfl) ?_
  refine lv_iconst (v := 3) hx hb dL_law_467 (by decide) ?_
  refine lv_iadd hx hb dL_law_468 ?_
  refine k_top (y := 3) (by decide) ?_
  refine va_sld hx hb hX hbl hbA hS (vin (by decide)) dL_law_469 ?_
  refine k_top (y := xs 3) rfl ?_
  refine kVi (b := (g 47)) (n := 3) (As := [.int (xs 1), .int (xs 2), .int (xs 3)]) (rest := [.int (-1)]) ⟨hx, hb, hml, hown, hta⟩ hnw (y_told l dC dI g h (xs 1) (xs 2) (xs 3)  H.size) cd_X11_told iz_X11 ml_L_56 im_X11_told se_X11_X11_told (by decide +kernel) rfl (Nat.le_of_ble_eq_true rfl) (Nat.le_of_ble_eq_true rfl) rfl rfl (Nat.le_of_ble_eq_true rfl) (Nat.le_of_ble_eq_true rfl) hP hD hK hS hA [18] [0, 1, 2, 3, 4, 5, 6, 7, 8, 9, 10, 11, 12, 13, 14, 15, 16, 17, 19, 20, 21, 22, 23, 24, 25, 26, 27, 28, 29] [] rfl (wr := [zlu q k, ztp q k, zbk q k, zwl q k, zrw q k, ztu q k, zfr q k, zsl q k, zwe q k, ztn q k, zsz q k, zpt q k, zkd q k, zpr q k, zfo q k, zfx q k, zby q k, zbs q k, zMtune g h, zMfrets g h, zMslack g h, zMweight g h, zMtuning g h, zMpitch g h, zMkind g h, zMprice g h, zMfixed g h, zMrow g h, zMtape g h]) rfl (by decide) (by decide) (by decide) rfl rfl 0 rfl hl.1 rfl (Nat.le_of_ble_eq_true rfl) dL_law_470 (fun r6 u4 H locs hw5 hP hD hK hS => ?_)
  have hP : va_P (dC, dI) vwCl [zlu q k, ztp q k, zbk q k, zwl q k, zrw q k, ztu q k, zfr q k, zsl q k, zwe q k, ztn q k, zsz q k, zpt q k, zkd q k, zpr q k, zfo q k, zfx q k, zby q k, zbs q k, zMtune g h, zMfrets g h, zMslack g h, zMweight g h, zMtuning g h, zMpitch g h, zMkind g h, zMprice g h, zMfixed g h, zMrow g h, zMtape g h] H := hP
  have hD : va_D (fun q : Nat => s.heap.size ≤ q) [zlu q k, ztp q k, zbk q k, zwl q k, zrw q k, ztu q k, zfr q k, zsl q k, zwe q k, ztn q k, zsz q k, zpt q k, zkd q k, zpr q k, zfo q k, zfx q k, zby q k, zbs q k, zMtune g h, zMfrets g h, zMslack g h, zMweight g h, zMtuning g h, zMpitch g h, zMkind g h, zMprice g h, zMfixed g h, zMrow g h, zMtape g h] := hD
  have hK : va_K (dC, dI) vwCl [(k 9, .int), (k 10, .int), (k 11, .int), (k 12, .int), (k 13, .int), (k 14, .int), (k 20, .int), (k 21, .int), (k 22, .int), (k 23, .int), (k 24, .int), (k 25, .int), (k 30, .int), (k 32, .int), (h 2, .int), (h 3, .int), (h 4, .int), (h 5, .int), (h 6, .int), (h 10, .int), (h 11, .int), (h 12, .int), (h 13, .int), (h 35, .int), (h 41, .int)] s := hK
  obtain rfl : r6 = (-1) := hw5
  refine lv_icmp_eq (tgt := 898) hx hb dL_law_473 (by decide) (fun _ => ?_) (fun c => absurd (by decide) c)
  exact law_end C0 hS hl
set_option maxHeartbeats 4000000 in
set_option maxRecDepth 100000 in
theorem law_10 {p : Program} {l : Launch} {e : Env} {s : State} {m : MethodId} {below : List Frame} {meth : Method} {c : Code} {b : Nat} {xs : Nat → Int32} (C0 : lw_At p s m meth c b 5 xs) {dC : Nat → ClassId} {dI : Nat → Nat → Nat} (q : Nat → Nat) (k : Nat → ClassId) (g : Nat → Nat) (h : Nat → ClassId) (hK : va_K (dC, dI) vwCl [(k 9, .int), (k 10, .int), (k 11, .int), (k 12, .int), (k 13, .int), (k 14, .int), (k 20, .int), (k 21, .int), (k 22, .int), (k 23, .int), (k 24, .int), (k 25, .int), (k 30, .int), (k 32, .int), (h 2, .int), (h 3, .int), (h 4, .int), (h 5, .int), (h 6, .int), (h 10, .int), (h 11, .int), (h 12, .int), (h 13, .int), (h 35, .int), (h 41, .int)] s) {H : Heap} {locs : List Loc} {ls : Array Slot} (hP : va_P (dC, dI) vwCl [zLF q k, zlu q k, zpi q k, ztp q k, zbk q k, zwl q k, zrw q k, ztu q k, zfr q k, zsl q k, zwe q k, ztn q k, zsz q k, zpt q k, zkd q k, zpr q k, zfo q k, zfx q k, zby q k, zbs q k, zM g h, zMtune g h, zMfrets g h, zMslack g h, zMweight g h, zMtuning g h, zMpitch g h, zMkind g h, zMprice g h, zMfixed g h, zMrow g h, zMtape g h] H) (hD : va_D (fun q : Nat => s.heap.size ≤ q) [zLF q k, zlu q k, zpi q k, ztp q k, zbk q k, zwl q k, zrw q k, ztu q k, zfr q k, zsl q k, zwe q k, ztn q k, zsz q k, zpt q k, zkd q k, zpr q k, zfo q k, zfx q k, zby q k, zbs q k, zM g h, zMtune g h, zMfrets g h, zMslack g h, zMweight g h, zMtuning g h, zMpitch g h, zMkind g h, zMprice g h, zMfixed g h, zMrow g h, zMtape g h]) (hS : va_S (fun q : Nat => s.heap.size ≤ q) s.heap H locs) (hl : lv_has ls 4 [(3, .int 0), (2, .ref (g 47)), (1, .ref (q 0)), (0, .ref b)]) : W p l e room_1 s m #[Value.ref b] below meth c H locs 70 271976 (lw_Z below #[Value.ref b] s) (F0 m 478 ls []) := by
  obtain ⟨hx, hb, hr, hml, hown, hts, hX, hbl, hlocks, hgv⟩ := id C0
  have hown : s.vm.findClass RL = some m.cls := hown
  have hA : ∀ q : Nat, s.heap.size ≤ q → (fun q : Nat => s.heap.size ≤ q) q := fun _ h => h
  have hbA : ¬ (fun q : Nat => s.heap.size ≤ q) b := Nat.not_le.mpr hbl
  have hta : ∀ w ∈ wsL_law, w.before #[Value.ref b] s = true := fun w h => hts w (wsL_law_in w h)
  have hnw : nw s := nw_of hts
  refine lv_aload_n hx hb dL_law_478 rfl (lv_at hl 2 rfl) ?_
  refine lv_aload_n hx hb dL_law_479 rfl (lv_at hl 3 rfl) ?_
  refine lv_iload_n hx hb dL_law_480 rfl (lv_at hl 0 rfl) ?_
  refine lv_iconst (v := 1) hx hb dL_law_481 (by decide) ?_
  refine lv_iadd hx hb dL_law_482 ?_
  refine k_top (y := 1) (by decide) ?_
  refine va_sld hx hb hX hbl hbA hS (vin (by decide)) dL_law_483 ?_
  refine k_top (y := xs 1) rfl ?_
  refine kVi (b := (q 0)) (n := 1) (As := [.int (xs 1)]) (rest := []) ⟨hx, hb, hml, hown, hta⟩ hnw (x_grips l dC dI q k (xs 1)  H.size) cd_X10_grips iz_X10 ml_L_57 im_X10_grips se_X10_X10_grips (by decide +kernel) rfl (Nat.le_of_ble_eq_true rfl) (Nat.le_of_ble_eq_true rfl) rfl rfl (Nat.le_of_ble_eq_true rfl) (Nat.le_of_ble_eq_true rfl) hP hD hK hS hA [0, 2] [1, 3, 4, 5, 6, 7, 8, 9, 10, 11, 12, 13, 14, 15, 16, 17, 18, 19, 20, 21, 22, 23, 24, 25, 26, 27, 28, 29, 30, 31] [] rfl (wr := [zlu q k, ztp q k, zbk q k, zwl q k, zrw q k, ztu q k, zfr q k, zsl q k, zwe q k, ztn q k, zsz q k, zpt q k, zkd q k, zpr q k, zfo q k, zfx q k, zby q k, zbs q k, zM g h, zMtune g h, zMfrets g h, zMslack g h, zMweight g h, zMtuning g h, zMpitch g h, zMkind g h, zMprice g h, zMfixed g h, zMrow g h, zMtape g h]) rfl (by decide) (by decide) (by decide) rfl rfl 0 rfl hl.1 rfl (Nat.le_of_ble_eq_true rfl) dL_law_484 (fun r3 u1 H locs hw2 hP hD hK hS => ?_)
  have hP : va_P (dC, dI) vwCl [zlu q k, ztp q k, zbk q k, zwl q k, zrw q k, ztu q k, zfr q k, zsl q k, zwe q k, ztn q k, zsz q k, zpt q k, zkd q k, zpr q k, zfo q k, zfx q k, zby q k, zbs q k, zM g h, zMtune g h, zMfrets g h, zMslack g h, zMweight g h, zMtuning g h, zMpitch g h, zMkind g h, zMprice g h, zMfixed g h, zMrow g h, zMtape g h] H := hP
  have hD : va_D (fun q : Nat => s.heap.size ≤ q) [zlu q k, ztp q k, zbk q k, zwl q k, zrw q k, ztu q k, zfr q k, zsl q k, zwe q k, ztn q k, zsz q k, zpt q k, zkd q k, zpr q k, zfo q k, zfx q k, zby q k, zbs q k, zM g h, zMtune g h, zMfrets g h, zMslack g h, zMweight g h, zMtuning g h, zMpitch g h, zMkind g h, zMprice g h, zMfixed g h, zMrow g h, zMtape g h] := hD
  have hK : va_K (dC, dI) vwCl [(k 9, .int), (k 10, .int), (k 11, .int), (k 12, .int), (k 13, .int), (k 14, .int), (k 20, .int), (k 21, .int), (k 22, .int), (k 23, .int), (k 24, .int), (k 25, .int), (k 30, .int), (k 32, .int), (h 2, .int), (h 3, .int), (h 4, .int), (h 5, .int), (h 6, .int), (h 10, .int), (h 11, .int), (h 12, .int), (h 13, .int), (h 35, .int), (h 41, .int)] s := hK
  obtain rfl : r3 = (-1) := hw2
  refine lv_aload_n hx hb dL_law_487 rfl (lv_at hl 1 rfl) ?_
  refine lv_aload_n hx hb dL_law_488 rfl (lv_at hl 3 rfl) ?_
  refine lv_iload_n hx hb dL_law_489 rfl (lv_at hl 0 rfl) ?_
  refine lv_iconst (v := 1) hx hb dL_law_490 (by decide) ?_
  refine lv_iadd hx hb dL_law_491 ?_
  refine k_top (y := 1) (by decide) ?_
  refine va_sld hx hb hX hbl hbA hS (vin (by decide)) dL_law_492 ?_
  refine k_top (y := xs 1) rfl ?_
  refine kVi (b := (g 47)) (n := 1) (As := [.int (xs 1)]) (rest := [.int (-1)]) ⟨hx, hb, hml, hown, hta⟩ hnw (y_grips l dC dI g h (xs 1)  H.size) cd_X11_grips iz_X11 ml_L_60 im_X11_grips se_X11_X11_grips (by decide +kernel) rfl (Nat.le_of_ble_eq_true rfl) (Nat.le_of_ble_eq_true rfl) rfl rfl (Nat.le_of_ble_eq_true rfl) (Nat.le_of_ble_eq_true rfl) hP hD hK hS hA [18] [0, 1, 2, 3, 4, 5, 6, 7, 8, 9, 10, 11, 12, 13, 14, 15, 16, 17, 19, 20, 21, 22, 23, 24, 25, 26, 27, 28, 29] [] rfl (wr := [zlu q k, ztp q k, zbk q k, zwl q k, zrw q k, ztu q k, zfr q k, zsl q k, zwe q k, ztn q k, zsz q k, zpt q k, zkd q k, zpr q k, zfo q k, zfx q k, zby q k, zbs q k, zMtune g h, zMfrets g h, zMslack g h, zMweight g h, zMtuning g h, zMpitch g h, zMkind g h, zMprice g h, zMfixed g h, zMrow g h, zMtape g h]) rfl (by decide) (by decide) (by decide) rfl rfl 0 rfl hl.1 rfl (Nat.le_of_ble_eq_true rfl) dL_law_493 (fun r6 u4 H locs hw5 hP hD hK hS => ?_)
  have hP : va_P (dC, dI) vwCl [zlu q k, ztp q k, zbk q k, zwl q k, zrw q k, ztu q k, zfr q k, zsl q k, zwe q k, ztn q k, zsz q k, zpt q k, zkd q k, zpr q k, zfo q k, zfx q k, zby q k, zbs q k, zMtune g h, zMfrets g h, zMslack g h, zMweight g h, zMtuning g h, zMpitch g h, zMkind g h, zMprice g h, zMfixed g h, zMrow g h, zMtape g h] H := hP
  have hD : va_D (fun q : Nat => s.heap.size ≤ q) [zlu q k, ztp q k, zbk q k, zwl q k, zrw q k, ztu q k, zfr q k, zsl q k, zwe q k, ztn q k, zsz q k, zpt q k, zkd q k, zpr q k, zfo q k, zfx q k, zby q k, zbs q k, zMtune g h, zMfrets g h, zMslack g h, zMweight g h, zMtuning g h, zMpitch g h, zMkind g h, zMprice g h, zMfixed g h, zMrow g h, zMtape g h] := hD
  have hK : va_K (dC, dI) vwCl [(k 9, .int), (k 10, .int), (k 11, .int), (k 12, .int), (k 13, .int), (k 14, .int), (k 20, .int), (k 21, .int), (k 22, .int), (k 23, .int), (k 24, .int), (k 25, .int), (k 30, .int), (k 32, .int), (h 2, .int), (h 3, .int), (h 4, .int), (h 5, .int), (h 6, .int), (h 10, .int), (h 11, .int), (h 12, .int), (h 13, .int), (h 35, .int), (h 41, .int)] s := hK
  obtain rfl : r6 = (-1) := hw5
  refine lv_icmp_eq (tgt := 898) hx hb dL_law_496 (by decide) (fun _ => ?_) (fun c => absurd (by decide) c)
  exact law_end C0 hS hl
set_option maxHeartbeats 4000000 in
set_option maxRecDepth 100000 in
theorem law_11 {p : Program} {l : Launch} {e : Env} {s : State} {m : MethodId} {below : List Frame} {meth : Method} {c : Code} {b : Nat} {xs : Nat → Int32} (C0 : lw_At p s m meth c b 5 xs) {dC : Nat → ClassId} {dI : Nat → Nat → Nat} (q : Nat → Nat) (k : Nat → ClassId) (g : Nat → Nat) (h : Nat → ClassId) (hK : va_K (dC, dI) vwCl [(k 9, .int), (k 10, .int), (k 11, .int), (k 12, .int), (k 13, .int), (k 14, .int), (k 20, .int), (k 21, .int), (k 22, .int), (k 23, .int), (k 24, .int), (k 25, .int), (k 30, .int), (k 32, .int), (h 2, .int), (h 3, .int), (h 4, .int), (h 5, .int), (h 6, .int), (h 10, .int), (h 11, .int), (h 12, .int), (h 13, .int), (h 35, .int), (h 41, .int)] s) {H : Heap} {locs : List Loc} {ls : Array Slot} (hP : va_P (dC, dI) vwCl [zLF q k, zlu q k, zpi q k, ztp q k, zbk q k, zwl q k, zrw q k, ztu q k, zfr q k, zsl q k, zwe q k, ztn q k, zsz q k, zpt q k, zkd q k, zpr q k, zfo q k, zfx q k, zby q k, zbs q k, zM g h, zMtune g h, zMfrets g h, zMslack g h, zMweight g h, zMtuning g h, zMpitch g h, zMkind g h, zMprice g h, zMfixed g h, zMrow g h, zMtape g h] H) (hD : va_D (fun q : Nat => s.heap.size ≤ q) [zLF q k, zlu q k, zpi q k, ztp q k, zbk q k, zwl q k, zrw q k, ztu q k, zfr q k, zsl q k, zwe q k, ztn q k, zsz q k, zpt q k, zkd q k, zpr q k, zfo q k, zfx q k, zby q k, zbs q k, zM g h, zMtune g h, zMfrets g h, zMslack g h, zMweight g h, zMtuning g h, zMpitch g h, zMkind g h, zMprice g h, zMfixed g h, zMrow g h, zMtape g h]) (hS : va_S (fun q : Nat => s.heap.size ≤ q) s.heap H locs) (hl : lv_has ls 4 [(3, .int 0), (2, .ref (g 47)), (1, .ref (q 0)), (0, .ref b)]) : W p l e room_1 s m #[Value.ref b] below meth c H locs 70 271976 (lw_Z below #[Value.ref b] s) (F0 m 501 ls []) := by
  obtain ⟨hx, hb, hr, hml, hown, hts, hX, hbl, hlocks, hgv⟩ := id C0
  have hown : s.vm.findClass RL = some m.cls := hown
  have hA : ∀ q : Nat, s.heap.size ≤ q → (fun q : Nat => s.heap.size ≤ q) q := fun _ h => h
  have hbA : ¬ (fun q : Nat => s.heap.size ≤ q) b := Nat.not_le.mpr hbl
  have hta : ∀ w ∈ wsL_law, w.before #[Value.ref b] s = true := fun w h => hts w (wsL_law_in w h)
  have hnw : nw s := nw_of hts
  refine lv_aload_n hx hb dL_law_501 rfl (lv_at hl 2 rfl) ?_
  refine lv_aload_n hx hb dL_law_502 rfl (lv_at hl 3 rfl) ?_
  refine lv_iload_n hx hb dL_law_503 rfl (lv_at hl 0 rfl) ?_
  refine lv_iconst (v := 1) hx hb dL_law_504 (by decide) ?_
  refine lv_iadd hx hb dL_law_505 ?_
  refine k_top (y := 1) (by decide) ?_
  refine va_sld hx hb hX hbl hbA hS (vin (by decide)) dL_law_506 ?_
  refine k_top (y := xs 1) rfl ?_
  refine lv_aload_n hx hb dL_law_507 rfl (lv_at hl 3 rfl) ?_
  refine lv_iload_n hx hb dL_law_508 rfl (lv_at hl 0 rfl) ?_
  refine lv_iconst (v := 2) hx hb dL_law_509 (by decide) ?_
  refine lv_iadd hx hb dL_law_510 ?_
  refine k_top (y := 2) (by decide) ?_
  refine va_sld hx hb hX hbl hbA hS (vin (by decide)) dL_law_511 ?_
  refine k_top (y := xs 2) rfl ?_
  refine lv_aload_n hx hb dL_law_512 rfl (lv_at hl 3 rfl) ?_
  refine lv_iload_n hx hb dL_law_513 rfl (lv_at hl 0 rfl) ?_
  refine lv_iconst (v := 3) hx hb dL_law_514 (by decide) ?_
  refine lv_iadd hx hb dL_law_515 ?_
  refine k_top (y := 3) (by decide) ?_
  refine va_sld hx hb hX hbl hbA hS (vin (by decide)) dL_law_516 ?_
  refine k_top (y := xs 3) rfl ?_
  refine lv_aload_n hx hb dL_law_517 rfl (lv_at hl 3 rfl) ?_
  refine lv_iload_n hx hb dL_law_518 rfl (lv_at hl 0 rfl) ?_
  refine lv_iconst (v := 4) hx hb dL_law_519 (by decide) ?_
  refine lv_iadd hx hb dL_law_520 ?_
  refine k_top (y := 4) (by decide) ?_
  refine va_sld hx hb hX hbl hbA hS (vin (by decide)) dL_law_521 ?_
  refine k_top (y := xs 4) rfl ?_
  refine kVi (b := (q 0)) (n := 4) (As := [.int (xs 1), .int (xs 2), .int (xs 3), .int (xs 4)]) (rest := []) ⟨hx, hb, hml, hown, hta⟩ hnw (x_grip l dC dI q k (xs 1) (xs 2) (xs 3) (xs 4)  H.size) cd_X10_grip iz_X10 ml_L_61 im_X10_grip se_X10_X10_grip (by decide +kernel) rfl (Nat.le_of_ble_eq_true rfl) (Nat.le_of_ble_eq_true rfl) rfl rfl (Nat.le_of_ble_eq_true rfl) (Nat.le_of_ble_eq_true rfl) hP hD hK hS hA [0, 2] [1, 3, 4, 5, 6, 7, 8, 9, 10, 11, 12, 13, 14, 15, 16, 17, 18, 19, 20, 21, 22, 23, 24, 25, 26, 27, 28, 29, 30, 31] [] rfl (wr := [zlu q k, ztp q k, zbk q k, zwl q k, zrw q k, ztu q k, zfr q k, zsl q k, zwe q k, ztn q k, zsz q k, zpt q k, zkd q k, zpr q k, zfo q k, zfx q k, zby q k, zbs q k, zM g h, zMtune g h, zMfrets g h, zMslack g h, zMweight g h, zMtuning g h, zMpitch g h, zMkind g h, zMprice g h, zMfixed g h, zMrow g h, zMtape g h]) rfl (by decide) (by decide) (by decide) rfl rfl 0 rfl hl.1 rfl (Nat.le_of_ble_eq_true rfl) dL_law_522 (fun r3 u1 H locs hw2 hP hD hK hS => ?_)
  have hP : va_P (dC, dI) vwCl [zlu q k, ztp q k, zbk q k, zwl q k, zrw q k, ztu q k, zfr q k, zsl q k, zwe q k, ztn q k, zsz q k, zpt q k, zkd q k, zpr q k, zfo q k, zfx q k, zby q k, zbs q k, zM g h, zMtune g h, zMfrets g h, zMslack g h, zMweight g h, zMtuning g h, zMpitch g h, zMkind g h, zMprice g h, zMfixed g h, zMrow g h, zMtape g h] H := hP
  have hD : va_D (fun q : Nat => s.heap.size ≤ q) [zlu q k, ztp q k, zbk q k, zwl q k, zrw q k, ztu q k, zfr q k, zsl q k, zwe q k, ztn q k, zsz q k, zpt q k, zkd q k, zpr q k, zfo q k, zfx q k, zby q k, zbs q k, zM g h, zMtune g h, zMfrets g h, zMslack g h, zMweight g h, zMtuning g h, zMpitch g h, zMkind g h, zMprice g h, zMfixed g h, zMrow g h, zMtape g h] := hD
  have hK : va_K (dC, dI) vwCl [(k 9, .int), (k 10, .int), (k 11, .int), (k 12, .int), (k 13, .int), (k 14, .int), (k 20, .int), (k 21, .int), (k 22, .int), (k 23, .int), (k 24, .int), (k 25, .int), (k 30, .int), (k 32, .int), (h 2, .int), (h 3, .int), (h 4, .int), (h 5, .int), (h 6, .int), (h 10, .int), (h 11, .int), (h 12, .int), (h 13, .int), (h 35, .int), (h 41, .int)] s := hK
  obtain rfl : r3 = (-1) := hw2
  refine lv_aload_n hx hb dL_law_525 rfl (lv_at hl 1 rfl) ?_
  refine lv_aload_n hx hb dL_law_526 rfl (lv_at hl 3 rfl) ?_
  refine lv_iload_n hx hb dL_law_527 rfl (lv_at hl 0 rfl) ?_
  refine lv_iconst (v := 1) hx hb dL_law_528 (by decide) ?_
  refine lv_iadd hx hb dL_law_529 ?_
  refine k_top (y := 1) (by decide) ?_
  refine va_sld hx hb hX hbl hbA hS (vin (by decide)) dL_law_530 ?_
  refine k_top (y := xs 1) rfl ?_
  refine lv_aload_n hx hb dL_law_531 rfl (lv_at hl 3 rfl) ?_
  refine lv_iload_n hx hb dL_law_532 rfl (lv_at hl 0 rfl) ?_
  refine lv_iconst (v := 2) hx hb dL_law_533 (by decide) ?_
  refine lv_iadd hx hb dL_law_534 ?_
  refine k_top (y := 2) (by decide) ?_
  refine va_sld hx hb hX hbl hbA hS (vin (by decide)) dL_law_535 ?_
  refine k_top (y := xs 2) rfl ?_
  refine lv_aload_n hx hb dL_law_536 rfl (lv_at hl 3 rfl) ?_
  refine lv_iload_n hx hb dL_law_537 rfl (lv_at hl 0 rfl) ?_
  refine lv_iconst (v := 3) hx hb dL_law_538 (by decide) ?_
  refine lv_iadd hx hb dL_law_539 ?_
  refine k_top (y := 3) (by decide) ?_
  refine va_sld hx hb hX hbl hbA hS (vin (by decide)) dL_law_540 ?_
  refine k_top (y := xs 3) rfl ?_
  refine lv_aload_n hx hb dL_law_541 rfl (lv_at hl 3 rfl) ?_
  refine lv_iload_n hx hb dL_law_542 rfl (lv_at hl 0 rfl) ?_
  refine lv_iconst (v := 4) hx hb dL_law_543 (by decide) ?_
  refine lv_iadd hx hb dL_law_544 ?_
  refine k_top (y := 4) (by decide) ?_
  refine va_sld hx hb hX hbl hbA hS (vin (by decide)) dL_law_545 ?_
  refine k_top (y := xs 4) rfl ?_
  refine kVi (b := (g 47)) (n := 4) (As := [.int (xs 1), .int (xs 2), .int (xs 3), .int (xs 4)]) (rest := [.int (-1)]) ⟨hx, hb, hml, hown, hta⟩ hnw (y_grip l dC dI g h (xs 1) (xs 2) (xs 3) (xs 4)  H.size) cd_X11_grip iz_X11 ml_L_65 im_X11_grip se_X11_X11_grip (by decide +kernel) rfl (Nat.le_of_ble_eq_true rfl) (Nat.le_of_ble_eq_true rfl) rfl rfl (Nat.le_of_ble_eq_true rfl) (Nat.le_of_ble_eq_true rfl) hP hD hK hS hA [18] [0, 1, 2, 3, 4, 5, 6, 7, 8, 9, 10, 11, 12, 13, 14, 15, 16, 17, 19, 20, 21, 22, 23, 24, 25, 26, 27, 28, 29] [] rfl (wr := [zlu q k, ztp q k, zbk q k, zwl q k, zrw q k, ztu q k, zfr q k, zsl q k, zwe q k, ztn q k, zsz q k, zpt q k, zkd q k, zpr q k, zfo q k, zfx q k, zby q k, zbs q k, zMtune g h, zMfrets g h, zMslack g h, zMweight g h, zMtuning g h, zMpitch g h, zMkind g h, zMprice g h, zMfixed g h, zMrow g h, zMtape g h]) rfl (by decide) (by decide) (by decide) rfl rfl 0 rfl hl.1 rfl (Nat.le_of_ble_eq_true rfl) dL_law_546 (fun r6 u4 H locs hw5 hP hD hK hS => ?_)
  have hP : va_P (dC, dI) vwCl [zlu q k, ztp q k, zbk q k, zwl q k, zrw q k, ztu q k, zfr q k, zsl q k, zwe q k, ztn q k, zsz q k, zpt q k, zkd q k, zpr q k, zfo q k, zfx q k, zby q k, zbs q k, zMtune g h, zMfrets g h, zMslack g h, zMweight g h, zMtuning g h, zMpitch g h, zMkind g h, zMprice g h, zMfixed g h, zMrow g h, zMtape g h] H := hP
  have hD : va_D (fun q : Nat => s.heap.size ≤ q) [zlu q k, ztp q k, zbk q k, zwl q k, zrw q k, ztu q k, zfr q k, zsl q k, zwe q k, ztn q k, zsz q k, zpt q k, zkd q k, zpr q k, zfo q k, zfx q k, zby q k, zbs q k, zMtune g h, zMfrets g h, zMslack g h, zMweight g h, zMtuning g h, zMpitch g h, zMkind g h, zMprice g h, zMfixed g h, zMrow g h, zMtape g h] := hD
  have hK : va_K (dC, dI) vwCl [(k 9, .int), (k 10, .int), (k 11, .int), (k 12, .int), (k 13, .int), (k 14, .int), (k 20, .int), (k 21, .int), (k 22, .int), (k 23, .int), (k 24, .int), (k 25, .int), (k 30, .int), (k 32, .int), (h 2, .int), (h 3, .int), (h 4, .int), (h 5, .int), (h 6, .int), (h 10, .int), (h 11, .int), (h 12, .int), (h 13, .int), (h 35, .int), (h 41, .int)] s := hK
  obtain rfl : r6 = (-1) := hw5
  refine lv_icmp_eq (tgt := 898) hx hb dL_law_549 (by decide) (fun _ => ?_) (fun c => absurd (by decide) c)
  exact law_end C0 hS hl
set_option maxHeartbeats 4000000 in
set_option maxRecDepth 100000 in
theorem law_12 {p : Program} {l : Launch} {e : Env} {s : State} {m : MethodId} {below : List Frame} {meth : Method} {c : Code} {b : Nat} {xs : Nat → Int32} (C0 : lw_At p s m meth c b 5 xs) {dC : Nat → ClassId} {dI : Nat → Nat → Nat} (q : Nat → Nat) (k : Nat → ClassId) (g : Nat → Nat) (h : Nat → ClassId) (hK : va_K (dC, dI) vwCl [(k 9, .int), (k 10, .int), (k 11, .int), (k 12, .int), (k 13, .int), (k 14, .int), (k 20, .int), (k 21, .int), (k 22, .int), (k 23, .int), (k 24, .int), (k 25, .int), (k 30, .int), (k 32, .int), (h 2, .int), (h 3, .int), (h 4, .int), (h 5, .int), (h 6, .int), (h 10, .int), (h 11, .int), (h 12, .int), (h 13, .int), (h 35, .int), (h 41, .int)] s) {H : Heap} {locs : List Loc} {ls : Array Slot} (hP : va_P (dC, dI) vwCl [zLF q k, zlu q k, zpi q k, ztp q k, zbk q k, zwl q k, zrw q k, ztu q k, zfr q k, zsl q k, zwe q k, ztn q k, zsz q k, zpt q k, zkd q k, zpr q k, zfo q k, zfx q k, zby q k, zbs q k, zM g h, zMtune g h, zMfrets g h, zMslack g h, zMweight g h, zMtuning g h, zMpitch g h, zMkind g h, zMprice g h, zMfixed g h, zMrow g h, zMtape g h] H) (hD : va_D (fun q : Nat => s.heap.size ≤ q) [zLF q k, zlu q k, zpi q k, ztp q k, zbk q k, zwl q k, zrw q k, ztu q k, zfr q k, zsl q k, zwe q k, ztn q k, zsz q k, zpt q k, zkd q k, zpr q k, zfo q k, zfx q k, zby q k, zbs q k, zM g h, zMtune g h, zMfrets g h, zMslack g h, zMweight g h, zMtuning g h, zMpitch g h, zMkind g h, zMprice g h, zMfixed g h, zMrow g h, zMtape g h]) (hS : va_S (fun q : Nat => s.heap.size ≤ q) s.heap H locs) (hl : lv_has ls 4 [(3, .int 0), (2, .ref (g 47)), (1, .ref (q 0)), (0, .ref b)]) : W p l e room_1 s m #[Value.ref b] below meth c H locs 70 271976 (lw_Z below #[Value.ref b] s) (F0 m 554 ls []) := by
  obtain ⟨hx, hb, hr, hml, hown, hts, hX, hbl, hlocks, hgv⟩ := id C0
  have hown : s.vm.findClass RL = some m.cls := hown
  have hA : ∀ q : Nat, s.heap.size ≤ q → (fun q : Nat => s.heap.size ≤ q) q := fun _ h => h
  have hbA : ¬ (fun q : Nat => s.heap.size ≤ q) b := Nat.not_le.mpr hbl
  have hta : ∀ w ∈ wsL_law, w.before #[Value.ref b] s = true := fun w h => hts w (wsL_law_in w h)
  have hnw : nw s := nw_of hts
  refine lv_aload_n hx hb dL_law_554 rfl (lv_at hl 2 rfl) ?_
  refine lv_aload_n hx hb dL_law_555 rfl (lv_at hl 3 rfl) ?_
  refine lv_iload_n hx hb dL_law_556 rfl (lv_at hl 0 rfl) ?_
  refine lv_iconst (v := 1) hx hb dL_law_557 (by decide) ?_
  refine lv_iadd hx hb dL_law_558 ?_
  refine k_top (y := 1) (by decide) ?_
  refine va_sld hx hb hX hbl hbA hS (vin (by decide)) dL_law_559 ?_
  refine k_top (y := xs 1) rfl ?_
  refine kVi (b := (q 0)) (n := 1) (As := [.int (xs 1)]) (rest := []) ⟨hx, hb, hml, hown, hta⟩ hnw (x_why l dC dI q k (xs 1)  H.size) cd_X10_why iz_X10 ml_L_66 im_X10_why se_X10_X10_why (by decide +kernel) rfl (Nat.le_of_ble_eq_true rfl) (Nat.le_of_ble_eq_true rfl) rfl rfl (Nat.le_of_ble_eq_true rfl) (Nat.le_of_ble_eq_true rfl) hP hD hK hS hA [0, 2] [1, 3, 4, 5, 6, 7, 8, 9, 10, 11, 12, 13, 14, 15, 16, 17, 18, 19, 20, 21, 22, 23, 24, 25, 26, 27, 28, 29, 30, 31] [] rfl (wr := [zlu q k, ztp q k, zbk q k, zwl q k, zrw q k, ztu q k, zfr q k, zsl q k, zwe q k, ztn q k, zsz q k, zpt q k, zkd q k, zpr q k, zfo q k, zfx q k, zby q k, zbs q k, zM g h, zMtune g h, zMfrets g h, zMslack g h, zMweight g h, zMtuning g h, zMpitch g h, zMkind g h, zMprice g h, zMfixed g h, zMrow g h, zMtape g h]) rfl (by decide) (by decide) (by decide) rfl rfl 0 rfl hl.1 rfl (Nat.le_of_ble_eq_true rfl) dL_law_560 (fun r3 u1 H locs hw2 hP hD hK hS => ?_)
  have hP : va_P (dC, dI) vwCl [zlu q k, ztp q k, zbk q k, zwl q k, zrw q k, ztu q k, zfr q k, zsl q k, zwe q k, ztn q k, zsz q k, zpt q k, zkd q k, zpr q k, zfo q k, zfx q k, zby q k, zbs q k, zM g h, zMtune g h, zMfrets g h, zMslack g h, zMweight g h, zMtuning g h, zMpitch g h, zMkind g h, zMprice g h, zMfixed g h, zMrow g h, zMtape g h] H := hP
  have hD : va_D (fun q : Nat => s.heap.size ≤ q) [zlu q k, ztp q k, zbk q k, zwl q k, zrw q k, ztu q k, zfr q k, zsl q k, zwe q k, ztn q k, zsz q k, zpt q k, zkd q k, zpr q k, zfo q k, zfx q k, zby q k, zbs q k, zM g h, zMtune g h, zMfrets g h, zMslack g h, zMweight g h, zMtuning g h, zMpitch g h, zMkind g h, zMprice g h, zMfixed g h, zMrow g h, zMtape g h] := hD
  have hK : va_K (dC, dI) vwCl [(k 9, .int), (k 10, .int), (k 11, .int), (k 12, .int), (k 13, .int), (k 14, .int), (k 20, .int), (k 21, .int), (k 22, .int), (k 23, .int), (k 24, .int), (k 25, .int), (k 30, .int), (k 32, .int), (h 2, .int), (h 3, .int), (h 4, .int), (h 5, .int), (h 6, .int), (h 10, .int), (h 11, .int), (h 12, .int), (h 13, .int), (h 35, .int), (h 41, .int)] s := hK
  obtain rfl : r3 = (-1) := hw2
  refine lv_aload_n hx hb dL_law_563 rfl (lv_at hl 1 rfl) ?_
  refine lv_aload_n hx hb dL_law_564 rfl (lv_at hl 3 rfl) ?_
  refine lv_iload_n hx hb dL_law_565 rfl (lv_at hl 0 rfl) ?_
  refine lv_iconst (v := 1) hx hb dL_law_566 (by decide) ?_
  refine lv_iadd hx hb dL_law_567 ?_
  refine k_top (y := 1) (by decide) ?_
  refine va_sld hx hb hX hbl hbA hS (vin (by decide)) dL_law_568 ?_
  refine k_top (y := xs 1) rfl ?_
  refine kVi (b := (g 47)) (n := 1) (As := [.int (xs 1)]) (rest := [.int (-1)]) ⟨hx, hb, hml, hown, hta⟩ hnw (y_why l dC dI g h (xs 1)  H.size) cd_X11_why iz_X11 ml_L_69 im_X11_why se_X11_X11_why (by decide +kernel) rfl (Nat.le_of_ble_eq_true rfl) (Nat.le_of_ble_eq_true rfl) rfl rfl (Nat.le_of_ble_eq_true rfl) (Nat.le_of_ble_eq_true rfl) hP hD hK hS hA [18] [0, 1, 2, 3, 4, 5, 6, 7, 8, 9, 10, 11, 12, 13, 14, 15, 16, 17, 19, 20, 21, 22, 23, 24, 25, 26, 27, 28, 29] [] rfl (wr := [zlu q k, ztp q k, zbk q k, zwl q k, zrw q k, ztu q k, zfr q k, zsl q k, zwe q k, ztn q k, zsz q k, zpt q k, zkd q k, zpr q k, zfo q k, zfx q k, zby q k, zbs q k, zMtune g h, zMfrets g h, zMslack g h, zMweight g h, zMtuning g h, zMpitch g h, zMkind g h, zMprice g h, zMfixed g h, zMrow g h, zMtape g h]) rfl (by decide) (by decide) (by decide) rfl rfl 0 rfl hl.1 rfl (Nat.le_of_ble_eq_true rfl) dL_law_569 (fun r6 u4 H locs hw5 hP hD hK hS => ?_)
  have hP : va_P (dC, dI) vwCl [zlu q k, ztp q k, zbk q k, zwl q k, zrw q k, ztu q k, zfr q k, zsl q k, zwe q k, ztn q k, zsz q k, zpt q k, zkd q k, zpr q k, zfo q k, zfx q k, zby q k, zbs q k, zMtune g h, zMfrets g h, zMslack g h, zMweight g h, zMtuning g h, zMpitch g h, zMkind g h, zMprice g h, zMfixed g h, zMrow g h, zMtape g h] H := hP
  have hD : va_D (fun q : Nat => s.heap.size ≤ q) [zlu q k, ztp q k, zbk q k, zwl q k, zrw q k, ztu q k, zfr q k, zsl q k, zwe q k, ztn q k, zsz q k, zpt q k, zkd q k, zpr q k, zfo q k, zfx q k, zby q k, zbs q k, zMtune g h, zMfrets g h, zMslack g h, zMweight g h, zMtuning g h, zMpitch g h, zMkind g h, zMprice g h, zMfixed g h, zMrow g h, zMtape g h] := hD
  have hK : va_K (dC, dI) vwCl [(k 9, .int), (k 10, .int), (k 11, .int), (k 12, .int), (k 13, .int), (k 14, .int), (k 20, .int), (k 21, .int), (k 22, .int), (k 23, .int), (k 24, .int), (k 25, .int), (k 30, .int), (k 32, .int), (h 2, .int), (h 3, .int), (h 4, .int), (h 5, .int), (h 6, .int), (h 10, .int), (h 11, .int), (h 12, .int), (h 13, .int), (h 35, .int), (h 41, .int)] s := hK
  obtain rfl : r6 = (-1) := hw5
  refine lv_icmp_eq (tgt := 898) hx hb dL_law_572 (by decide) (fun _ => ?_) (fun c => absurd (by decide) c)
  exact law_end C0 hS hl
set_option maxHeartbeats 4000000 in
set_option maxRecDepth 100000 in
theorem law_13 {p : Program} {l : Launch} {e : Env} {s : State} {m : MethodId} {below : List Frame} {meth : Method} {c : Code} {b : Nat} {xs : Nat → Int32} (C0 : lw_At p s m meth c b 5 xs) {dC : Nat → ClassId} {dI : Nat → Nat → Nat} (q : Nat → Nat) (k : Nat → ClassId) (g : Nat → Nat) (h : Nat → ClassId) (hK : va_K (dC, dI) vwCl [(k 9, .int), (k 10, .int), (k 11, .int), (k 12, .int), (k 13, .int), (k 14, .int), (k 20, .int), (k 21, .int), (k 22, .int), (k 23, .int), (k 24, .int), (k 25, .int), (k 30, .int), (k 32, .int), (h 2, .int), (h 3, .int), (h 4, .int), (h 5, .int), (h 6, .int), (h 10, .int), (h 11, .int), (h 12, .int), (h 13, .int), (h 35, .int), (h 41, .int)] s) {H : Heap} {locs : List Loc} {ls : Array Slot} (hP : va_P (dC, dI) vwCl [zLF q k, zlu q k, zpi q k, ztp q k, zbk q k, zwl q k, zrw q k, ztu q k, zfr q k, zsl q k, zwe q k, ztn q k, zsz q k, zpt q k, zkd q k, zpr q k, zfo q k, zfx q k, zby q k, zbs q k, zM g h, zMtune g h, zMfrets g h, zMslack g h, zMweight g h, zMtuning g h, zMpitch g h, zMkind g h, zMprice g h, zMfixed g h, zMrow g h, zMtape g h] H) (hD : va_D (fun q : Nat => s.heap.size ≤ q) [zLF q k, zlu q k, zpi q k, ztp q k, zbk q k, zwl q k, zrw q k, ztu q k, zfr q k, zsl q k, zwe q k, ztn q k, zsz q k, zpt q k, zkd q k, zpr q k, zfo q k, zfx q k, zby q k, zbs q k, zM g h, zMtune g h, zMfrets g h, zMslack g h, zMweight g h, zMtuning g h, zMpitch g h, zMkind g h, zMprice g h, zMfixed g h, zMrow g h, zMtape g h]) (hS : va_S (fun q : Nat => s.heap.size ≤ q) s.heap H locs) (hl : lv_has ls 4 [(3, .int 0), (2, .ref (g 47)), (1, .ref (q 0)), (0, .ref b)]) : W p l e room_1 s m #[Value.ref b] below meth c H locs 70 271976 (lw_Z below #[Value.ref b] s) (F0 m 577 ls []) := by
  obtain ⟨hx, hb, hr, hml, hown, hts, hX, hbl, hlocks, hgv⟩ := id C0
  have hown : s.vm.findClass RL = some m.cls := hown
  have hA : ∀ q : Nat, s.heap.size ≤ q → (fun q : Nat => s.heap.size ≤ q) q := fun _ h => h
  have hbA : ¬ (fun q : Nat => s.heap.size ≤ q) b := Nat.not_le.mpr hbl
  have hta : ∀ w ∈ wsL_law, w.before #[Value.ref b] s = true := fun w h => hts w (wsL_law_in w h)
  have hnw : nw s := nw_of hts
  refine lv_aload_n hx hb dL_law_577 rfl (lv_at hl 2 rfl) ?_
  refine kVi (b := (q 0)) (n := 0) (As := []) (rest := []) ⟨hx, hb, hml, hown, hta⟩ hnw (x_way l dC dI q k  H.size) cd_X10_way iz_X10 ml_L_70 im_X10_way se_X10_X10_way (by decide +kernel) rfl (Nat.le_of_ble_eq_true rfl) (Nat.le_of_ble_eq_true rfl) rfl rfl (Nat.le_of_ble_eq_true rfl) (Nat.le_of_ble_eq_true rfl) hP hD hK hS hA [0, 2] [1, 3, 4, 5, 6, 7, 8, 9, 10, 11, 12, 13, 14, 15, 16, 17, 18, 19, 20, 21, 22, 23, 24, 25, 26, 27, 28, 29, 30, 31] [] rfl (wr := [zlu q k, ztp q k, zbk q k, zwl q k, zrw q k, ztu q k, zfr q k, zsl q k, zwe q k, ztn q k, zsz q k, zpt q k, zkd q k, zpr q k, zfo q k, zfx q k, zby q k, zbs q k, zM g h, zMtune g h, zMfrets g h, zMslack g h, zMweight g h, zMtuning g h, zMpitch g h, zMkind g h, zMprice g h, zMfixed g h, zMrow g h, zMtape g h]) rfl (by decide) (by decide) (by decide) rfl rfl 0 rfl hl.1 rfl (Nat.le_of_ble_eq_true rfl) dL_law_578 (fun r3 u1 H locs hw2 hP hD hK hS => ?_)
  have hP : va_P (dC, dI) vwCl [zlu q k, ztp q k, zbk q k, zwl q k, zrw q k, ztu q k, zfr q k, zsl q k, zwe q k, ztn q k, zsz q k, zpt q k, zkd q k, zpr q k, zfo q k, zfx q k, zby q k, zbs q k, zM g h, zMtune g h, zMfrets g h, zMslack g h, zMweight g h, zMtuning g h, zMpitch g h, zMkind g h, zMprice g h, zMfixed g h, zMrow g h, zMtape g h] H := hP
  have hD : va_D (fun q : Nat => s.heap.size ≤ q) [zlu q k, ztp q k, zbk q k, zwl q k, zrw q k, ztu q k, zfr q k, zsl q k, zwe q k, ztn q k, zsz q k, zpt q k, zkd q k, zpr q k, zfo q k, zfx q k, zby q k, zbs q k, zM g h, zMtune g h, zMfrets g h, zMslack g h, zMweight g h, zMtuning g h, zMpitch g h, zMkind g h, zMprice g h, zMfixed g h, zMrow g h, zMtape g h] := hD
  have hK : va_K (dC, dI) vwCl [(k 9, .int), (k 10, .int), (k 11, .int), (k 12, .int), (k 13, .int), (k 14, .int), (k 20, .int), (k 21, .int), (k 22, .int), (k 23, .int), (k 24, .int), (k 25, .int), (k 30, .int), (k 32, .int), (h 2, .int), (h 3, .int), (h 4, .int), (h 5, .int), (h 6, .int), (h 10, .int), (h 11, .int), (h 12, .int), (h 13, .int), (h 35, .int), (h 41, .int)] s := hK
  obtain rfl : r3 = (-3) := hw2
  refine lv_aload_n hx hb dL_law_581 rfl (lv_at hl 1 rfl) ?_
  refine kVi (b := (g 47)) (n := 0) (As := []) (rest := [.int (-3)]) ⟨hx, hb, hml, hown, hta⟩ hnw (y_way l dC dI g h  H.size) cd_X11_way iz_X11 ml_L_73 im_X11_way se_X11_X11_way (by decide +kernel) rfl (Nat.le_of_ble_eq_true rfl) (Nat.le_of_ble_eq_true rfl) rfl rfl (Nat.le_of_ble_eq_true rfl) (Nat.le_of_ble_eq_true rfl) hP hD hK hS hA [18] [0, 1, 2, 3, 4, 5, 6, 7, 8, 9, 10, 11, 12, 13, 14, 15, 16, 17, 19, 20, 21, 22, 23, 24, 25, 26, 27, 28, 29] [] rfl (wr := [zlu q k, ztp q k, zbk q k, zwl q k, zrw q k, ztu q k, zfr q k, zsl q k, zwe q k, ztn q k, zsz q k, zpt q k, zkd q k, zpr q k, zfo q k, zfx q k, zby q k, zbs q k, zMtune g h, zMfrets g h, zMslack g h, zMweight g h, zMtuning g h, zMpitch g h, zMkind g h, zMprice g h, zMfixed g h, zMrow g h, zMtape g h]) rfl (by decide) (by decide) (by decide) rfl rfl 0 rfl hl.1 rfl (Nat.le_of_ble_eq_true rfl) dL_law_582 (fun r6 u4 H locs hw5 hP hD hK hS => ?_)
  have hP : va_P (dC, dI) vwCl [zlu q k, ztp q k, zbk q k, zwl q k, zrw q k, ztu q k, zfr q k, zsl q k, zwe q k, ztn q k, zsz q k, zpt q k, zkd q k, zpr q k, zfo q k, zfx q k, zby q k, zbs q k, zMtune g h, zMfrets g h, zMslack g h, zMweight g h, zMtuning g h, zMpitch g h, zMkind g h, zMprice g h, zMfixed g h, zMrow g h, zMtape g h] H := hP
  have hD : va_D (fun q : Nat => s.heap.size ≤ q) [zlu q k, ztp q k, zbk q k, zwl q k, zrw q k, ztu q k, zfr q k, zsl q k, zwe q k, ztn q k, zsz q k, zpt q k, zkd q k, zpr q k, zfo q k, zfx q k, zby q k, zbs q k, zMtune g h, zMfrets g h, zMslack g h, zMweight g h, zMtuning g h, zMpitch g h, zMkind g h, zMprice g h, zMfixed g h, zMrow g h, zMtape g h] := hD
  have hK : va_K (dC, dI) vwCl [(k 9, .int), (k 10, .int), (k 11, .int), (k 12, .int), (k 13, .int), (k 14, .int), (k 20, .int), (k 21, .int), (k 22, .int), (k 23, .int), (k 24, .int), (k 25, .int), (k 30, .int), (k 32, .int), (h 2, .int), (h 3, .int), (h 4, .int), (h 5, .int), (h 6, .int), (h 10, .int), (h 11, .int), (h 12, .int), (h 13, .int), (h 35, .int), (h 41, .int)] s := hK
  obtain rfl : r6 = (-3) := hw5
  refine lv_icmp_eq (tgt := 898) hx hb dL_law_585 (by decide) (fun _ => ?_) (fun c => absurd (by decide) c)
  exact law_end C0 hS hl
set_option maxHeartbeats 4000000 in
set_option maxRecDepth 100000 in
theorem law_14 {p : Program} {l : Launch} {e : Env} {s : State} {m : MethodId} {below : List Frame} {meth : Method} {c : Code} {b : Nat} {xs : Nat → Int32} (C0 : lw_At p s m meth c b 5 xs) {dC : Nat → ClassId} {dI : Nat → Nat → Nat} (q : Nat → Nat) (k : Nat → ClassId) (g : Nat → Nat) (h : Nat → ClassId) (hK : va_K (dC, dI) vwCl [(k 9, .int), (k 10, .int), (k 11, .int), (k 12, .int), (k 13, .int), (k 14, .int), (k 20, .int), (k 21, .int), (k 22, .int), (k 23, .int), (k 24, .int), (k 25, .int), (k 30, .int), (k 32, .int), (h 2, .int), (h 3, .int), (h 4, .int), (h 5, .int), (h 6, .int), (h 10, .int), (h 11, .int), (h 12, .int), (h 13, .int), (h 35, .int), (h 41, .int)] s) {H : Heap} {locs : List Loc} {ls : Array Slot} (hP : va_P (dC, dI) vwCl [zLF q k, zlu q k, zpi q k, ztp q k, zbk q k, zwl q k, zrw q k, ztu q k, zfr q k, zsl q k, zwe q k, ztn q k, zsz q k, zpt q k, zkd q k, zpr q k, zfo q k, zfx q k, zby q k, zbs q k, zM g h, zMtune g h, zMfrets g h, zMslack g h, zMweight g h, zMtuning g h, zMpitch g h, zMkind g h, zMprice g h, zMfixed g h, zMrow g h, zMtape g h] H) (hD : va_D (fun q : Nat => s.heap.size ≤ q) [zLF q k, zlu q k, zpi q k, ztp q k, zbk q k, zwl q k, zrw q k, ztu q k, zfr q k, zsl q k, zwe q k, ztn q k, zsz q k, zpt q k, zkd q k, zpr q k, zfo q k, zfx q k, zby q k, zbs q k, zM g h, zMtune g h, zMfrets g h, zMslack g h, zMweight g h, zMtuning g h, zMpitch g h, zMkind g h, zMprice g h, zMfixed g h, zMrow g h, zMtape g h]) (hS : va_S (fun q : Nat => s.heap.size ≤ q) s.heap H locs) (hl : lv_has ls 4 [(3, .int 0), (2, .ref (g 47)), (1, .ref (q 0)), (0, .ref b)]) : W p l e room_1 s m #[Value.ref b] below meth c H locs 70 271976 (lw_Z below #[Value.ref b] s) (F0 m 590 ls []) := by
  obtain ⟨hx, hb, hr, hml, hown, hts, hX, hbl, hlocks, hgv⟩ := id C0
  have hown : s.vm.findClass RL = some m.cls := hown
  have hA : ∀ q : Nat, s.heap.size ≤ q → (fun q : Nat => s.heap.size ≤ q) q := fun _ h => h
  have hbA : ¬ (fun q : Nat => s.heap.size ≤ q) b := Nat.not_le.mpr hbl
  have hta : ∀ w ∈ wsL_law, w.before #[Value.ref b] s = true := fun w h => hts w (wsL_law_in w h)
  have hnw : nw s := nw_of hts
  refine lv_aload_n hx hb dL_law_590 rfl (lv_at hl 2 rfl) ?_
  refine kVi (b := (q 0)) (n := 0) (As := []) (rest := []) ⟨hx, hb, hml, hown, hta⟩ hnw (x_next l dC dI q k  H.size) cd_X10_next iz_X10 ml_L_74 im_X10_next se_X10_X10_next (by decide +kernel) rfl (Nat.le_of_ble_eq_true rfl) (Nat.le_of_ble_eq_true rfl) rfl rfl (Nat.le_of_ble_eq_true rfl) (Nat.le_of_ble_eq_true rfl) hP hD hK hS hA [0, 5] [1, 2, 3, 4, 6, 7, 8, 9, 10, 11, 12, 13, 14, 15, 16, 17, 18, 19, 20, 21, 22, 23, 24, 25, 26, 27, 28, 29, 30, 31] [] rfl (wr := [zlu q k, zpi q k, ztp q k, zbk q k, zrw q k, ztu q k, zfr q k, zsl q k, zwe q k, ztn q k, zsz q k, zpt q k, zkd q k, zpr q k, zfo q k, zfx q k, zby q k, zbs q k, zM g h, zMtune g h, zMfrets g h, zMslack g h, zMweight g h, zMtuning g h, zMpitch g h, zMkind g h, zMprice g h, zMfixed g h, zMrow g h, zMtape g h]) rfl (by decide) (by decide) (by decide) rfl rfl 0 rfl hl.1 rfl (Nat.le_of_ble_eq_true rfl) dL_law_591 (fun r3 u1 H locs hw2 hP hD hK hS => ?_)
  have hP : va_P (dC, dI) vwCl [zlu q k, zpi q k, ztp q k, zbk q k, zrw q k, ztu q k, zfr q k, zsl q k, zwe q k, ztn q k, zsz q k, zpt q k, zkd q k, zpr q k, zfo q k, zfx q k, zby q k, zbs q k, zM g h, zMtune g h, zMfrets g h, zMslack g h, zMweight g h, zMtuning g h, zMpitch g h, zMkind g h, zMprice g h, zMfixed g h, zMrow g h, zMtape g h] H := hP
  have hD : va_D (fun q : Nat => s.heap.size ≤ q) [zlu q k, zpi q k, ztp q k, zbk q k, zrw q k, ztu q k, zfr q k, zsl q k, zwe q k, ztn q k, zsz q k, zpt q k, zkd q k, zpr q k, zfo q k, zfx q k, zby q k, zbs q k, zM g h, zMtune g h, zMfrets g h, zMslack g h, zMweight g h, zMtuning g h, zMpitch g h, zMkind g h, zMprice g h, zMfixed g h, zMrow g h, zMtape g h] := hD
  have hK : va_K (dC, dI) vwCl [(k 9, .int), (k 10, .int), (k 11, .int), (k 12, .int), (k 13, .int), (k 14, .int), (k 20, .int), (k 21, .int), (k 22, .int), (k 23, .int), (k 24, .int), (k 25, .int), (k 30, .int), (k 32, .int), (h 2, .int), (h 3, .int), (h 4, .int), (h 5, .int), (h 6, .int), (h 10, .int), (h 11, .int), (h 12, .int), (h 13, .int), (h 35, .int), (h 41, .int)] s := hK
  obtain rfl : r3 = (-3) := hw2
  refine lv_aload_n hx hb dL_law_594 rfl (lv_at hl 1 rfl) ?_
  refine kVi (b := (g 47)) (n := 0) (As := []) (rest := [.int (-3)]) ⟨hx, hb, hml, hown, hta⟩ hnw (y_next l dC dI g h  H.size) cd_X11_next iz_X11 ml_L_77 im_X11_next se_X11_X11_next (by decide +kernel) rfl (Nat.le_of_ble_eq_true rfl) (Nat.le_of_ble_eq_true rfl) rfl rfl (Nat.le_of_ble_eq_true rfl) (Nat.le_of_ble_eq_true rfl) hP hD hK hS hA [18] [0, 1, 2, 3, 4, 5, 6, 7, 8, 9, 10, 11, 12, 13, 14, 15, 16, 17, 19, 20, 21, 22, 23, 24, 25, 26, 27, 28, 29] [] rfl (wr := [zlu q k, zpi q k, ztp q k, zbk q k, zrw q k, ztu q k, zfr q k, zsl q k, zwe q k, ztn q k, zsz q k, zpt q k, zkd q k, zpr q k, zfo q k, zfx q k, zby q k, zbs q k, zMtune g h, zMfrets g h, zMslack g h, zMweight g h, zMtuning g h, zMpitch g h, zMkind g h, zMprice g h, zMfixed g h, zMrow g h, zMtape g h]) rfl (by decide) (by decide) (by decide) rfl rfl 0 rfl hl.1 rfl (Nat.le_of_ble_eq_true rfl) dL_law_595 (fun r6 u4 H locs hw5 hP hD hK hS => ?_)
  have hP : va_P (dC, dI) vwCl [zlu q k, zpi q k, ztp q k, zbk q k, zrw q k, ztu q k, zfr q k, zsl q k, zwe q k, ztn q k, zsz q k, zpt q k, zkd q k, zpr q k, zfo q k, zfx q k, zby q k, zbs q k, zMtune g h, zMfrets g h, zMslack g h, zMweight g h, zMtuning g h, zMpitch g h, zMkind g h, zMprice g h, zMfixed g h, zMrow g h, zMtape g h] H := hP
  have hD : va_D (fun q : Nat => s.heap.size ≤ q) [zlu q k, zpi q k, ztp q k, zbk q k, zrw q k, ztu q k, zfr q k, zsl q k, zwe q k, ztn q k, zsz q k, zpt q k, zkd q k, zpr q k, zfo q k, zfx q k, zby q k, zbs q k, zMtune g h, zMfrets g h, zMslack g h, zMweight g h, zMtuning g h, zMpitch g h, zMkind g h, zMprice g h, zMfixed g h, zMrow g h, zMtape g h] := hD
  have hK : va_K (dC, dI) vwCl [(k 9, .int), (k 10, .int), (k 11, .int), (k 12, .int), (k 13, .int), (k 14, .int), (k 20, .int), (k 21, .int), (k 22, .int), (k 23, .int), (k 24, .int), (k 25, .int), (k 30, .int), (k 32, .int), (h 2, .int), (h 3, .int), (h 4, .int), (h 5, .int), (h 6, .int), (h 10, .int), (h 11, .int), (h 12, .int), (h 13, .int), (h 35, .int), (h 41, .int)] s := hK
  obtain rfl : r6 = (-3) := hw5
  refine lv_icmp_eq (tgt := 898) hx hb dL_law_598 (by decide) (fun _ => ?_) (fun c => absurd (by decide) c)
  exact law_end C0 hS hl
set_option maxHeartbeats 4000000 in
set_option maxRecDepth 100000 in
theorem law_15 {p : Program} {l : Launch} {e : Env} {s : State} {m : MethodId} {below : List Frame} {meth : Method} {c : Code} {b : Nat} {xs : Nat → Int32} (C0 : lw_At p s m meth c b 5 xs) {dC : Nat → ClassId} {dI : Nat → Nat → Nat} (q : Nat → Nat) (k : Nat → ClassId) (g : Nat → Nat) (h : Nat → ClassId) (hK : va_K (dC, dI) vwCl [(k 9, .int), (k 10, .int), (k 11, .int), (k 12, .int), (k 13, .int), (k 14, .int), (k 20, .int), (k 21, .int), (k 22, .int), (k 23, .int), (k 24, .int), (k 25, .int), (k 30, .int), (k 32, .int), (h 2, .int), (h 3, .int), (h 4, .int), (h 5, .int), (h 6, .int), (h 10, .int), (h 11, .int), (h 12, .int), (h 13, .int), (h 35, .int), (h 41, .int)] s) {H : Heap} {locs : List Loc} {ls : Array Slot} (hP : va_P (dC, dI) vwCl [zLF q k, zlu q k, zpi q k, ztp q k, zbk q k, zwl q k, zrw q k, ztu q k, zfr q k, zsl q k, zwe q k, ztn q k, zsz q k, zpt q k, zkd q k, zpr q k, zfo q k, zfx q k, zby q k, zbs q k, zM g h, zMtune g h, zMfrets g h, zMslack g h, zMweight g h, zMtuning g h, zMpitch g h, zMkind g h, zMprice g h, zMfixed g h, zMrow g h, zMtape g h] H) (hD : va_D (fun q : Nat => s.heap.size ≤ q) [zLF q k, zlu q k, zpi q k, ztp q k, zbk q k, zwl q k, zrw q k, ztu q k, zfr q k, zsl q k, zwe q k, ztn q k, zsz q k, zpt q k, zkd q k, zpr q k, zfo q k, zfx q k, zby q k, zbs q k, zM g h, zMtune g h, zMfrets g h, zMslack g h, zMweight g h, zMtuning g h, zMpitch g h, zMkind g h, zMprice g h, zMfixed g h, zMrow g h, zMtape g h]) (hS : va_S (fun q : Nat => s.heap.size ≤ q) s.heap H locs) (hl : lv_has ls 4 [(3, .int 0), (2, .ref (g 47)), (1, .ref (q 0)), (0, .ref b)]) : W p l e room_1 s m #[Value.ref b] below meth c H locs 70 271976 (lw_Z below #[Value.ref b] s) (F0 m 603 ls []) := by
  obtain ⟨hx, hb, hr, hml, hown, hts, hX, hbl, hlocks, hgv⟩ := id C0
  have hown : s.vm.findClass RL = some m.cls := hown
  have hA : ∀ q : Nat, s.heap.size ≤ q → (fun q : Nat => s.heap.size ≤ q) q := fun _ h => h
  have hbA : ¬ (fun q : Nat => s.heap.size ≤ q) b := Nat.not_le.mpr hbl
  have hta : ∀ w ∈ wsL_law, w.before #[Value.ref b] s = true := fun w h => hts w (wsL_law_in w h)
  have hnw : nw s := nw_of hts
  refine lv_aload_n hx hb dL_law_603 rfl (lv_at hl 2 rfl) ?_
  refine lv_aload_n hx hb dL_law_604 rfl (lv_at hl 3 rfl) ?_
  refine lv_iload_n hx hb dL_law_605 rfl (lv_at hl 0 rfl) ?_
  refine lv_iconst (v := 1) hx hb dL_law_606 (by decide) ?_
  refine lv_iadd hx hb dL_law_607 ?_
  refine k_top (y := 1) (by decide) ?_
  refine va_sld hx hb hX hbl hbA hS (vin (by decide)) dL_law_608 ?_
  refine k_top (y := xs 1) rfl ?_
  refine kVi (b := (q 0)) (n := 1) (As := [.int (xs 1)]) (rest := []) ⟨hx, hb, hml, hown, hta⟩ hnw (x_at l dC dI q k (xs 1)  H.size) cd_X10_at iz_X10 ml_L_78 im_X10_at se_X10_X10_at (by decide +kernel) rfl (Nat.le_of_ble_eq_true rfl) (Nat.le_of_ble_eq_true rfl) rfl rfl (Nat.le_of_ble_eq_true rfl) (Nat.le_of_ble_eq_true rfl) hP hD hK hS hA [0, 2] [1, 3, 4, 5, 6, 7, 8, 9, 10, 11, 12, 13, 14, 15, 16, 17, 18, 19, 20, 21, 22, 23, 24, 25, 26, 27, 28, 29, 30, 31] [] rfl (wr := [zlu q k, ztp q k, zbk q k, zwl q k, zrw q k, ztu q k, zfr q k, zsl q k, zwe q k, ztn q k, zsz q k, zpt q k, zkd q k, zpr q k, zfo q k, zfx q k, zby q k, zbs q k, zM g h, zMtune g h, zMfrets g h, zMslack g h, zMweight g h, zMtuning g h, zMpitch g h, zMkind g h, zMprice g h, zMfixed g h, zMrow g h, zMtape g h]) rfl (by decide) (by decide) (by decide) rfl rfl 0 rfl hl.1 rfl (Nat.le_of_ble_eq_true rfl) dL_law_609 (fun r3 u1 H locs hw2 hP hD hK hS => ?_)
  have hP : va_P (dC, dI) vwCl [zlu q k, ztp q k, zbk q k, zwl q k, zrw q k, ztu q k, zfr q k, zsl q k, zwe q k, ztn q k, zsz q k, zpt q k, zkd q k, zpr q k, zfo q k, zfx q k, zby q k, zbs q k, zM g h, zMtune g h, zMfrets g h, zMslack g h, zMweight g h, zMtuning g h, zMpitch g h, zMkind g h, zMprice g h, zMfixed g h, zMrow g h, zMtape g h] H := hP
  have hD : va_D (fun q : Nat => s.heap.size ≤ q) [zlu q k, ztp q k, zbk q k, zwl q k, zrw q k, ztu q k, zfr q k, zsl q k, zwe q k, ztn q k, zsz q k, zpt q k, zkd q k, zpr q k, zfo q k, zfx q k, zby q k, zbs q k, zM g h, zMtune g h, zMfrets g h, zMslack g h, zMweight g h, zMtuning g h, zMpitch g h, zMkind g h, zMprice g h, zMfixed g h, zMrow g h, zMtape g h] := hD
  have hK : va_K (dC, dI) vwCl [(k 9, .int), (k 10, .int), (k 11, .int), (k 12, .int), (k 13, .int), (k 14, .int), (k 20, .int), (k 21, .int), (k 22, .int), (k 23, .int), (k 24, .int), (k 25, .int), (k 30, .int), (k 32, .int), (h 2, .int), (h 3, .int), (h 4, .int), (h 5, .int), (h 6, .int), (h 10, .int), (h 11, .int), (h 12, .int), (h 13, .int), (h 35, .int), (h 41, .int)] s := hK
  obtain rfl : r3 = (-1) := hw2
  refine lv_aload_n hx hb dL_law_612 rfl (lv_at hl 1 rfl) ?_
  refine lv_aload_n hx hb dL_law_613 rfl (lv_at hl 3 rfl) ?_
  refine lv_iload_n hx hb dL_law_614 rfl (lv_at hl 0 rfl) ?_
  refine lv_iconst (v := 1) hx hb dL_law_615 (by decide) ?_
  refine lv_iadd hx hb dL_law_616 ?_
  refine k_top (y := 1) (by decide) ?_
  refine va_sld hx hb hX hbl hbA hS (vin (by decide)) dL_law_617 ?_
  refine k_top (y := xs 1) rfl ?_
  refine kVi (b := (g 47)) (n := 1) (As := [.int (xs 1)]) (rest := [.int (-1)]) ⟨hx, hb, hml, hown, hta⟩ hnw (y_at l dC dI g h (xs 1)  H.size) cd_X11_at iz_X11 ml_L_81 im_X11_at se_X11_X11_at (by decide +kernel) rfl (Nat.le_of_ble_eq_true rfl) (Nat.le_of_ble_eq_true rfl) rfl rfl (Nat.le_of_ble_eq_true rfl) (Nat.le_of_ble_eq_true rfl) hP hD hK hS hA [18] [0, 1, 2, 3, 4, 5, 6, 7, 8, 9, 10, 11, 12, 13, 14, 15, 16, 17, 19, 20, 21, 22, 23, 24, 25, 26, 27, 28, 29] [] rfl (wr := [zlu q k, ztp q k, zbk q k, zwl q k, zrw q k, ztu q k, zfr q k, zsl q k, zwe q k, ztn q k, zsz q k, zpt q k, zkd q k, zpr q k, zfo q k, zfx q k, zby q k, zbs q k, zMtune g h, zMfrets g h, zMslack g h, zMweight g h, zMtuning g h, zMpitch g h, zMkind g h, zMprice g h, zMfixed g h, zMrow g h, zMtape g h]) rfl (by decide) (by decide) (by decide) rfl rfl 0 rfl hl.1 rfl (Nat.le_of_ble_eq_true rfl) dL_law_618 (fun r6 u4 H locs hw5 hP hD hK hS => ?_)
  have hP : va_P (dC, dI) vwCl [zlu q k, ztp q k, zbk q k, zwl q k, zrw q k, ztu q k, zfr q k, zsl q k, zwe q k, ztn q k, zsz q k, zpt q k, zkd q k, zpr q k, zfo q k, zfx q k, zby q k, zbs q k, zMtune g h, zMfrets g h, zMslack g h, zMweight g h, zMtuning g h, zMpitch g h, zMkind g h, zMprice g h, zMfixed g h, zMrow g h, zMtape g h] H := hP
  have hD : va_D (fun q : Nat => s.heap.size ≤ q) [zlu q k, ztp q k, zbk q k, zwl q k, zrw q k, ztu q k, zfr q k, zsl q k, zwe q k, ztn q k, zsz q k, zpt q k, zkd q k, zpr q k, zfo q k, zfx q k, zby q k, zbs q k, zMtune g h, zMfrets g h, zMslack g h, zMweight g h, zMtuning g h, zMpitch g h, zMkind g h, zMprice g h, zMfixed g h, zMrow g h, zMtape g h] := hD
  have hK : va_K (dC, dI) vwCl [(k 9, .int), (k 10, .int), (k 11, .int), (k 12, .int), (k 13, .int), (k 14, .int), (k 20, .int), (k 21, .int), (k 22, .int), (k 23, .int), (k 24, .int), (k 25, .int), (k 30, .int), (k 32, .int), (h 2, .int), (h 3, .int), (h 4, .int), (h 5, .int), (h 6, .int), (h 10, .int), (h 11, .int), (h 12, .int), (h 13, .int), (h 35, .int), (h 41, .int)] s := hK
  obtain rfl : r6 = (-1) := hw5
  refine lv_icmp_eq (tgt := 898) hx hb dL_law_621 (by decide) (fun _ => ?_) (fun c => absurd (by decide) c)
  exact law_end C0 hS hl
set_option maxHeartbeats 4000000 in
set_option maxRecDepth 100000 in
theorem law_16 {p : Program} {l : Launch} {e : Env} {s : State} {m : MethodId} {below : List Frame} {meth : Method} {c : Code} {b : Nat} {xs : Nat → Int32} (C0 : lw_At p s m meth c b 5 xs) {dC : Nat → ClassId} {dI : Nat → Nat → Nat} (q : Nat → Nat) (k : Nat → ClassId) (g : Nat → Nat) (h : Nat → ClassId) (hK : va_K (dC, dI) vwCl [(k 9, .int), (k 10, .int), (k 11, .int), (k 12, .int), (k 13, .int), (k 14, .int), (k 20, .int), (k 21, .int), (k 22, .int), (k 23, .int), (k 24, .int), (k 25, .int), (k 30, .int), (k 32, .int), (h 2, .int), (h 3, .int), (h 4, .int), (h 5, .int), (h 6, .int), (h 10, .int), (h 11, .int), (h 12, .int), (h 13, .int), (h 35, .int), (h 41, .int)] s) {H : Heap} {locs : List Loc} {ls : Array Slot} (hP : va_P (dC, dI) vwCl [zLF q k, zlu q k, zpi q k, ztp q k, zbk q k, zwl q k, zrw q k, ztu q k, zfr q k, zsl q k, zwe q k, ztn q k, zsz q k, zpt q k, zkd q k, zpr q k, zfo q k, zfx q k, zby q k, zbs q k, zM g h, zMtune g h, zMfrets g h, zMslack g h, zMweight g h, zMtuning g h, zMpitch g h, zMkind g h, zMprice g h, zMfixed g h, zMrow g h, zMtape g h] H) (hD : va_D (fun q : Nat => s.heap.size ≤ q) [zLF q k, zlu q k, zpi q k, ztp q k, zbk q k, zwl q k, zrw q k, ztu q k, zfr q k, zsl q k, zwe q k, ztn q k, zsz q k, zpt q k, zkd q k, zpr q k, zfo q k, zfx q k, zby q k, zbs q k, zM g h, zMtune g h, zMfrets g h, zMslack g h, zMweight g h, zMtuning g h, zMpitch g h, zMkind g h, zMprice g h, zMfixed g h, zMrow g h, zMtape g h]) (hS : va_S (fun q : Nat => s.heap.size ≤ q) s.heap H locs) (hl : lv_has ls 4 [(3, .int 0), (2, .ref (g 47)), (1, .ref (q 0)), (0, .ref b)]) : W p l e room_1 s m #[Value.ref b] below meth c H locs 70 271976 (lw_Z below #[Value.ref b] s) (F0 m 626 ls []) := by
  obtain ⟨hx, hb, hr, hml, hown, hts, hX, hbl, hlocks, hgv⟩ := id C0
  have hown : s.vm.findClass RL = some m.cls := hown
  have hA : ∀ q : Nat, s.heap.size ≤ q → (fun q : Nat => s.heap.size ≤ q) q := fun _ h => h
  have hbA : ¬ (fun q : Nat => s.heap.size ≤ q) b := Nat.not_le.mpr hbl
  have hta : ∀ w ∈ wsL_law, w.before #[Value.ref b] s = true := fun w h => hts w (wsL_law_in w h)
  have hnw : nw s := nw_of hts
  refine lv_aload_n hx hb dL_law_626 rfl (lv_at hl 2 rfl) ?_
  refine lv_aload_n hx hb dL_law_627 rfl (lv_at hl 3 rfl) ?_
  refine lv_iload_n hx hb dL_law_628 rfl (lv_at hl 0 rfl) ?_
  refine lv_iconst (v := 1) hx hb dL_law_629 (by decide) ?_
  refine lv_iadd hx hb dL_law_630 ?_
  refine k_top (y := 1) (by decide) ?_
  refine va_sld hx hb hX hbl hbA hS (vin (by decide)) dL_law_631 ?_
  refine k_top (y := xs 1) rfl ?_
  refine kVi (b := (q 0)) (n := 1) (As := [.int (xs 1)]) (rest := []) ⟨hx, hb, hml, hown, hta⟩ hnw (x_rank l dC dI q k (xs 1)  H.size) cd_X10_rank iz_X10 ml_L_82 im_X10_rank se_X10_X10_rank (by decide +kernel) rfl (Nat.le_of_ble_eq_true rfl) (Nat.le_of_ble_eq_true rfl) rfl rfl (Nat.le_of_ble_eq_true rfl) (Nat.le_of_ble_eq_true rfl) hP hD hK hS hA [0, 5] [1, 2, 3, 4, 6, 7, 8, 9, 10, 11, 12, 13, 14, 15, 16, 17, 18, 19, 20, 21, 22, 23, 24, 25, 26, 27, 28, 29, 30, 31] [] rfl (wr := [zlu q k, zpi q k, ztp q k, zbk q k, zrw q k, ztu q k, zfr q k, zsl q k, zwe q k, ztn q k, zsz q k, zpt q k, zkd q k, zpr q k, zfo q k, zfx q k, zby q k, zbs q k, zM g h, zMtune g h, zMfrets g h, zMslack g h, zMweight g h, zMtuning g h, zMpitch g h, zMkind g h, zMprice g h, zMfixed g h, zMrow g h, zMtape g h]) rfl (by decide) (by decide) (by decide) rfl rfl 0 rfl hl.1 rfl (Nat.le_of_ble_eq_true rfl) dL_law_632 (fun r3 u1 H locs hw2 hP hD hK hS => ?_)
  have hP : va_P (dC, dI) vwCl [zlu q k, zpi q k, ztp q k, zbk q k, zrw q k, ztu q k, zfr q k, zsl q k, zwe q k, ztn q k, zsz q k, zpt q k, zkd q k, zpr q k, zfo q k, zfx q k, zby q k, zbs q k, zM g h, zMtune g h, zMfrets g h, zMslack g h, zMweight g h, zMtuning g h, zMpitch g h, zMkind g h, zMprice g h, zMfixed g h, zMrow g h, zMtape g h] H := hP
  have hD : va_D (fun q : Nat => s.heap.size ≤ q) [zlu q k, zpi q k, ztp q k, zbk q k, zrw q k, ztu q k, zfr q k, zsl q k, zwe q k, ztn q k, zsz q k, zpt q k, zkd q k, zpr q k, zfo q k, zfx q k, zby q k, zbs q k, zM g h, zMtune g h, zMfrets g h, zMslack g h, zMweight g h, zMtuning g h, zMpitch g h, zMkind g h, zMprice g h, zMfixed g h, zMrow g h, zMtape g h] := hD
  have hK : va_K (dC, dI) vwCl [(k 9, .int), (k 10, .int), (k 11, .int), (k 12, .int), (k 13, .int), (k 14, .int), (k 20, .int), (k 21, .int), (k 22, .int), (k 23, .int), (k 24, .int), (k 25, .int), (k 30, .int), (k 32, .int), (h 2, .int), (h 3, .int), (h 4, .int), (h 5, .int), (h 6, .int), (h 10, .int), (h 11, .int), (h 12, .int), (h 13, .int), (h 35, .int), (h 41, .int)] s := hK
  obtain rfl : r3 = (-3) := hw2
  refine lv_aload_n hx hb dL_law_635 rfl (lv_at hl 1 rfl) ?_
  refine lv_aload_n hx hb dL_law_636 rfl (lv_at hl 3 rfl) ?_
  refine lv_iload_n hx hb dL_law_637 rfl (lv_at hl 0 rfl) ?_
  refine lv_iconst (v := 1) hx hb dL_law_638 (by decide) ?_
  refine lv_iadd hx hb dL_law_639 ?_
  refine k_top (y := 1) (by decide) ?_
  refine va_sld hx hb hX hbl hbA hS (vin (by decide)) dL_law_640 ?_
  refine k_top (y := xs 1) rfl ?_
  refine kVi (b := (g 47)) (n := 1) (As := [.int (xs 1)]) (rest := [.int (-3)]) ⟨hx, hb, hml, hown, hta⟩ hnw (y_rank l dC dI g h (xs 1)  H.size) cd_X11_rank iz_X11 ml_L_85 im_X11_rank se_X11_X11_rank (by decide +kernel) rfl (Nat.le_of_ble_eq_true rfl) (Nat.le_of_ble_eq_true rfl) rfl rfl (Nat.le_of_ble_eq_true rfl) (Nat.le_of_ble_eq_true rfl) hP hD hK hS hA [18] [0, 1, 2, 3, 4, 5, 6, 7, 8, 9, 10, 11, 12, 13, 14, 15, 16, 17, 19, 20, 21, 22, 23, 24, 25, 26, 27, 28, 29] [] rfl (wr := [zlu q k, zpi q k, ztp q k, zbk q k, zrw q k, ztu q k, zfr q k, zsl q k, zwe q k, ztn q k, zsz q k, zpt q k, zkd q k, zpr q k, zfo q k, zfx q k, zby q k, zbs q k, zMtune g h, zMfrets g h, zMslack g h, zMweight g h, zMtuning g h, zMpitch g h, zMkind g h, zMprice g h, zMfixed g h, zMrow g h, zMtape g h]) rfl (by decide) (by decide) (by decide) rfl rfl 0 rfl hl.1 rfl (Nat.le_of_ble_eq_true rfl) dL_law_641 (fun r6 u4 H locs hw5 hP hD hK hS => ?_)
  have hP : va_P (dC, dI) vwCl [zlu q k, zpi q k, ztp q k, zbk q k, zrw q k, ztu q k, zfr q k, zsl q k, zwe q k, ztn q k, zsz q k, zpt q k, zkd q k, zpr q k, zfo q k, zfx q k, zby q k, zbs q k, zMtune g h, zMfrets g h, zMslack g h, zMweight g h, zMtuning g h, zMpitch g h, zMkind g h, zMprice g h, zMfixed g h, zMrow g h, zMtape g h] H := hP
  have hD : va_D (fun q : Nat => s.heap.size ≤ q) [zlu q k, zpi q k, ztp q k, zbk q k, zrw q k, ztu q k, zfr q k, zsl q k, zwe q k, ztn q k, zsz q k, zpt q k, zkd q k, zpr q k, zfo q k, zfx q k, zby q k, zbs q k, zMtune g h, zMfrets g h, zMslack g h, zMweight g h, zMtuning g h, zMpitch g h, zMkind g h, zMprice g h, zMfixed g h, zMrow g h, zMtape g h] := hD
  have hK : va_K (dC, dI) vwCl [(k 9, .int), (k 10, .int), (k 11, .int), (k 12, .int), (k 13, .int), (k 14, .int), (k 20, .int), (k 21, .int), (k 22, .int), (k 23, .int), (k 24, .int), (k 25, .int), (k 30, .int), (k 32, .int), (h 2, .int), (h 3, .int), (h 4, .int), (h 5, .int), (h 6, .int), (h 10, .int), (h 11, .int), (h 12, .int), (h 13, .int), (h 35, .int), (h 41, .int)] s := hK
  obtain rfl : r6 = (-3) := hw5
  refine lv_icmp_eq (tgt := 898) hx hb dL_law_644 (by decide) (fun _ => ?_) (fun c => absurd (by decide) c)
  exact law_end C0 hS hl
set_option maxHeartbeats 4000000 in
set_option maxRecDepth 100000 in
theorem law_17 {p : Program} {l : Launch} {e : Env} {s : State} {m : MethodId} {below : List Frame} {meth : Method} {c : Code} {b : Nat} {xs : Nat → Int32} (C0 : lw_At p s m meth c b 5 xs) {dC : Nat → ClassId} {dI : Nat → Nat → Nat} (q : Nat → Nat) (k : Nat → ClassId) (g : Nat → Nat) (h : Nat → ClassId) (hK : va_K (dC, dI) vwCl [(k 9, .int), (k 10, .int), (k 11, .int), (k 12, .int), (k 13, .int), (k 14, .int), (k 20, .int), (k 21, .int), (k 22, .int), (k 23, .int), (k 24, .int), (k 25, .int), (k 30, .int), (k 32, .int), (h 2, .int), (h 3, .int), (h 4, .int), (h 5, .int), (h 6, .int), (h 10, .int), (h 11, .int), (h 12, .int), (h 13, .int), (h 35, .int), (h 41, .int)] s) {H : Heap} {locs : List Loc} {ls : Array Slot} (hP : va_P (dC, dI) vwCl [zLF q k, zlu q k, zpi q k, ztp q k, zbk q k, zwl q k, zrw q k, ztu q k, zfr q k, zsl q k, zwe q k, ztn q k, zsz q k, zpt q k, zkd q k, zpr q k, zfo q k, zfx q k, zby q k, zbs q k, zM g h, zMtune g h, zMfrets g h, zMslack g h, zMweight g h, zMtuning g h, zMpitch g h, zMkind g h, zMprice g h, zMfixed g h, zMrow g h, zMtape g h] H) (hD : va_D (fun q : Nat => s.heap.size ≤ q) [zLF q k, zlu q k, zpi q k, ztp q k, zbk q k, zwl q k, zrw q k, ztu q k, zfr q k, zsl q k, zwe q k, ztn q k, zsz q k, zpt q k, zkd q k, zpr q k, zfo q k, zfx q k, zby q k, zbs q k, zM g h, zMtune g h, zMfrets g h, zMslack g h, zMweight g h, zMtuning g h, zMpitch g h, zMkind g h, zMprice g h, zMfixed g h, zMrow g h, zMtape g h]) (hS : va_S (fun q : Nat => s.heap.size ≤ q) s.heap H locs) (hl : lv_has ls 4 [(3, .int 0), (2, .ref (g 47)), (1, .ref (q 0)), (0, .ref b)]) : W p l e room_1 s m #[Value.ref b] below meth c H locs 70 271976 (lw_Z below #[Value.ref b] s) (F0 m 649 ls []) := by
  obtain ⟨hx, hb, hr, hml, hown, hts, hX, hbl, hlocks, hgv⟩ := id C0
  have hown : s.vm.findClass RL = some m.cls := hown
  have hA : ∀ q : Nat, s.heap.size ≤ q → (fun q : Nat => s.heap.size ≤ q) q := fun _ h => h
  have hbA : ¬ (fun q : Nat => s.heap.size ≤ q) b := Nat.not_le.mpr hbl
  have hta : ∀ w ∈ wsL_law, w.before #[Value.ref b] s = true := fun w h => hts w (wsL_law_in w h)
  have hnw : nw s := nw_of hts
  refine lv_aload_n hx hb dL_law_649 rfl (lv_at hl 2 rfl) ?_
  refine lv_aload_n hx hb dL_law_650 rfl (lv_at hl 3 rfl) ?_
  refine lv_iload_n hx hb dL_law_651 rfl (lv_at hl 0 rfl) ?_
  refine lv_iconst (v := 1) hx hb dL_law_652 (by decide) ?_
  refine lv_iadd hx hb dL_law_653 ?_
  refine k_top (y := 1) (by decide) ?_
  refine va_sld hx hb hX hbl hbA hS (vin (by decide)) dL_law_654 ?_
  refine k_top (y := xs 1) rfl ?_
  refine kVi (b := (q 0)) (n := 1) (As := [.int (xs 1)]) (rest := []) ⟨hx, hb, hml, hown, hta⟩ hnw (x_say l dC dI q k (xs 1)  H.size) cd_X10_say iz_X10 ml_L_86 im_X10_say se_X10_X10_say (by decide +kernel) rfl (Nat.le_of_ble_eq_true rfl) (Nat.le_of_ble_eq_true rfl) rfl rfl (Nat.le_of_ble_eq_true rfl) (Nat.le_of_ble_eq_true rfl) hP hD hK hS hA [0, 6] [1, 2, 3, 4, 5, 7, 8, 9, 10, 11, 12, 13, 14, 15, 16, 17, 18, 19, 20, 21, 22, 23, 24, 25, 26, 27, 28, 29, 30, 31] [0] rfl (wr := [zlu q k, zpi q k, ztp q k, zbk q k, zwl q k, ztu q k, zfr q k, zsl q k, zwe q k, ztn q k, zsz q k, zpt q k, zkd q k, zpr q k, zfo q k, zfx q k, zby q k, zbs q k, zM g h, zMtune g h, zMfrets g h, zMslack g h, zMweight g h, zMtuning g h, zMpitch g h, zMkind g h, zMprice g h, zMfixed g h, zMrow g h, zMtape g h]) rfl (by decide) (by decide) (by decide) rfl rfl 0 rfl hl.1 rfl (Nat.le_of_ble_eq_true rfl) dL_law_655 (fun r3 u1 H locs hw2 hP hD hK hS => ?_)
  have hP : va_P (dC, dI) vwCl [zlu q k, zpi q k, ztp q k, zbk q k, zwl q k, ztu q k, zfr q k, zsl q k, zwe q k, ztn q k, zsz q k, zpt q k, zkd q k, zpr q k, zfo q k, zfx q k, zby q k, zbs q k, zM g h, zMtune g h, zMfrets g h, zMslack g h, zMweight g h, zMtuning g h, zMpitch g h, zMkind g h, zMprice g h, zMfixed g h, zMrow g h, zMtape g h] H := hP
  have hD : va_D (fun q : Nat => s.heap.size ≤ q) [zlu q k, zpi q k, ztp q k, zbk q k, zwl q k, ztu q k, zfr q k, zsl q k, zwe q k, ztn q k, zsz q k, zpt q k, zkd q k, zpr q k, zfo q k, zfx q k, zby q k, zbs q k, zM g h, zMtune g h, zMfrets g h, zMslack g h, zMweight g h, zMtuning g h, zMpitch g h, zMkind g h, zMprice g h, zMfixed g h, zMrow g h, zMtape g h] := hD
  have hK : va_K (dC, dI) vwCl [(k 9, .int), (k 10, .int), (k 11, .int), (k 12, .int), (k 13, .int), (k 14, .int), (k 20, .int), (k 21, .int), (k 22, .int), (k 23, .int), (k 24, .int), (k 25, .int), (k 30, .int), (k 32, .int), (h 2, .int), (h 3, .int), (h 4, .int), (h 5, .int), (h 6, .int), (h 10, .int), (h 11, .int), (h 12, .int), (h 13, .int), (h 35, .int), (h 41, .int)] s := hK
  obtain rfl : r3 = sp_say (xs 1) := hw2
  refine lv_aload_n hx hb dL_law_658 rfl (lv_at hl 1 rfl) ?_
  refine lv_aload_n hx hb dL_law_659 rfl (lv_at hl 3 rfl) ?_
  refine lv_iload_n hx hb dL_law_660 rfl (lv_at hl 0 rfl) ?_
  refine lv_iconst (v := 1) hx hb dL_law_661 (by decide) ?_
  refine lv_iadd hx hb dL_law_662 ?_
  refine k_top (y := 1) (by decide) ?_
  refine va_sld hx hb hX hbl hbA hS (vin (by decide)) dL_law_663 ?_
  refine k_top (y := xs 1) rfl ?_
  refine kVi (b := (g 47)) (n := 1) (As := [.int (xs 1)]) (rest := [.int (sp_say (xs 1))]) ⟨hx, hb, hml, hown, hta⟩ hnw (y_say l dC dI g h (xs 1)  H.size) cd_X11_say iz_X11 ml_L_89 im_X11_say se_X11_X11_say (by decide +kernel) rfl (Nat.le_of_ble_eq_true rfl) (Nat.le_of_ble_eq_true rfl) rfl rfl (Nat.le_of_ble_eq_true rfl) (Nat.le_of_ble_eq_true rfl) hP hD hK hS hA [18, 28] [0, 1, 2, 3, 4, 5, 6, 7, 8, 9, 10, 11, 12, 13, 14, 15, 16, 17, 19, 20, 21, 22, 23, 24, 25, 26, 27, 29] [23] rfl (wr := [zlu q k, zpi q k, ztp q k, zbk q k, zwl q k, ztu q k, zfr q k, zsl q k, zwe q k, ztn q k, zsz q k, zpt q k, zkd q k, zpr q k, zfo q k, zfx q k, zby q k, zbs q k, zMtune g h, zMfrets g h, zMslack g h, zMweight g h, zMtuning g h, zMpitch g h, zMkind g h, zMprice g h, zMfixed g h, zMtape g h]) rfl (by decide) (by decide) (by decide) rfl rfl 0 rfl hl.1 rfl (Nat.le_of_ble_eq_true rfl) dL_law_664 (fun r6 u4 H locs hw5 hP hD hK hS => ?_)
  have hP : va_P (dC, dI) vwCl [zlu q k, zpi q k, ztp q k, zbk q k, zwl q k, ztu q k, zfr q k, zsl q k, zwe q k, ztn q k, zsz q k, zpt q k, zkd q k, zpr q k, zfo q k, zfx q k, zby q k, zbs q k, zMtune g h, zMfrets g h, zMslack g h, zMweight g h, zMtuning g h, zMpitch g h, zMkind g h, zMprice g h, zMfixed g h, zMtape g h] H := hP
  have hD : va_D (fun q : Nat => s.heap.size ≤ q) [zlu q k, zpi q k, ztp q k, zbk q k, zwl q k, ztu q k, zfr q k, zsl q k, zwe q k, ztn q k, zsz q k, zpt q k, zkd q k, zpr q k, zfo q k, zfx q k, zby q k, zbs q k, zMtune g h, zMfrets g h, zMslack g h, zMweight g h, zMtuning g h, zMpitch g h, zMkind g h, zMprice g h, zMfixed g h, zMtape g h] := hD
  have hK : va_K (dC, dI) vwCl [(k 9, .int), (k 10, .int), (k 11, .int), (k 12, .int), (k 13, .int), (k 14, .int), (k 20, .int), (k 21, .int), (k 22, .int), (k 23, .int), (k 24, .int), (k 25, .int), (k 30, .int), (k 32, .int), (h 2, .int), (h 3, .int), (h 4, .int), (h 5, .int), (h 6, .int), (h 10, .int), (h 11, .int), (h 12, .int), (h 13, .int), (h 35, .int), (h 41, .int)] s := hK
  obtain rfl : r6 = sp_say (xs 1) := hw5
  refine lv_icmp_eq (tgt := 898) hx hb dL_law_667 (by decide) (fun _ => ?_) (fun c => absurd rfl c)
  exact law_end C0 hS hl
set_option maxHeartbeats 4000000 in
set_option maxRecDepth 100000 in
theorem law_18 {p : Program} {l : Launch} {e : Env} {s : State} {m : MethodId} {below : List Frame} {meth : Method} {c : Code} {b : Nat} {xs : Nat → Int32} (C0 : lw_At p s m meth c b 5 xs) {dC : Nat → ClassId} {dI : Nat → Nat → Nat} (q : Nat → Nat) (k : Nat → ClassId) (g : Nat → Nat) (h : Nat → ClassId) (hK : va_K (dC, dI) vwCl [(k 9, .int), (k 10, .int), (k 11, .int), (k 12, .int), (k 13, .int), (k 14, .int), (k 20, .int), (k 21, .int), (k 22, .int), (k 23, .int), (k 24, .int), (k 25, .int), (k 30, .int), (k 32, .int), (h 2, .int), (h 3, .int), (h 4, .int), (h 5, .int), (h 6, .int), (h 10, .int), (h 11, .int), (h 12, .int), (h 13, .int), (h 35, .int), (h 41, .int)] s) {H : Heap} {locs : List Loc} {ls : Array Slot} (hP : va_P (dC, dI) vwCl [zLF q k, zlu q k, zpi q k, ztp q k, zbk q k, zwl q k, zrw q k, ztu q k, zfr q k, zsl q k, zwe q k, ztn q k, zsz q k, zpt q k, zkd q k, zpr q k, zfo q k, zfx q k, zby q k, zbs q k, zM g h, zMtune g h, zMfrets g h, zMslack g h, zMweight g h, zMtuning g h, zMpitch g h, zMkind g h, zMprice g h, zMfixed g h, zMrow g h, zMtape g h] H) (hD : va_D (fun q : Nat => s.heap.size ≤ q) [zLF q k, zlu q k, zpi q k, ztp q k, zbk q k, zwl q k, zrw q k, ztu q k, zfr q k, zsl q k, zwe q k, ztn q k, zsz q k, zpt q k, zkd q k, zpr q k, zfo q k, zfx q k, zby q k, zbs q k, zM g h, zMtune g h, zMfrets g h, zMslack g h, zMweight g h, zMtuning g h, zMpitch g h, zMkind g h, zMprice g h, zMfixed g h, zMrow g h, zMtape g h]) (hS : va_S (fun q : Nat => s.heap.size ≤ q) s.heap H locs) (hl : lv_has ls 4 [(3, .int 0), (2, .ref (g 47)), (1, .ref (q 0)), (0, .ref b)]) : W p l e room_1 s m #[Value.ref b] below meth c H locs 70 271976 (lw_Z below #[Value.ref b] s) (F0 m 672 ls []) := by
  obtain ⟨hx, hb, hr, hml, hown, hts, hX, hbl, hlocks, hgv⟩ := id C0
  have hown : s.vm.findClass RL = some m.cls := hown
  have hA : ∀ q : Nat, s.heap.size ≤ q → (fun q : Nat => s.heap.size ≤ q) q := fun _ h => h
  have hbA : ¬ (fun q : Nat => s.heap.size ≤ q) b := Nat.not_le.mpr hbl
  have hta : ∀ w ∈ wsL_law, w.before #[Value.ref b] s = true := fun w h => hts w (wsL_law_in w h)
  have hnw : nw s := nw_of hts
  refine lv_aload_n hx hb dL_law_672 rfl (lv_at hl 2 rfl) ?_
  refine kVi (b := (q 0)) (n := 0) (As := []) (rest := []) ⟨hx, hb, hml, hown, hta⟩ hnw (x_check l dC dI q k  H.size) cd_X10_check iz_X10 ml_L_90 im_X10_check se_X10_X10_check (by decide +kernel) rfl (Nat.le_of_ble_eq_true rfl) (Nat.le_of_ble_eq_true rfl) rfl rfl (Nat.le_of_ble_eq_true rfl) (Nat.le_of_ble_eq_true rfl) hP hD hK hS hA [0, 2] [1, 3, 4, 5, 6, 7, 8, 9, 10, 11, 12, 13, 14, 15, 16, 17, 18, 19, 20, 21, 22, 23, 24, 25, 26, 27, 28, 29, 30, 31] [] rfl (wr := [zlu q k, ztp q k, zbk q k, zwl q k, zrw q k, ztu q k, zfr q k, zsl q k, zwe q k, ztn q k, zsz q k, zpt q k, zkd q k, zpr q k, zfo q k, zfx q k, zby q k, zbs q k, zM g h, zMtune g h, zMfrets g h, zMslack g h, zMweight g h, zMtuning g h, zMpitch g h, zMkind g h, zMprice g h, zMfixed g h, zMrow g h, zMtape g h]) rfl (by decide) (by decide) (by decide) rfl rfl 0 rfl hl.1 rfl (Nat.le_of_ble_eq_true rfl) dL_law_673 (fun r3 u1 H locs hw2 hP hD hK hS => ?_)
  have hP : va_P (dC, dI) vwCl [zlu q k, ztp q k, zbk q k, zwl q k, zrw q k, ztu q k, zfr q k, zsl q k, zwe q k, ztn q k, zsz q k, zpt q k, zkd q k, zpr q k, zfo q k, zfx q k, zby q k, zbs q k, zM g h, zMtune g h, zMfrets g h, zMslack g h, zMweight g h, zMtuning g h, zMpitch g h, zMkind g h, zMprice g h, zMfixed g h, zMrow g h, zMtape g h] H := hP
  have hD : va_D (fun q : Nat => s.heap.size ≤ q) [zlu q k, ztp q k, zbk q k, zwl q k, zrw q k, ztu q k, zfr q k, zsl q k, zwe q k, ztn q k, zsz q k, zpt q k, zkd q k, zpr q k, zfo q k, zfx q k, zby q k, zbs q k, zM g h, zMtune g h, zMfrets g h, zMslack g h, zMweight g h, zMtuning g h, zMpitch g h, zMkind g h, zMprice g h, zMfixed g h, zMrow g h, zMtape g h] := hD
  have hK : va_K (dC, dI) vwCl [(k 9, .int), (k 10, .int), (k 11, .int), (k 12, .int), (k 13, .int), (k 14, .int), (k 20, .int), (k 21, .int), (k 22, .int), (k 23, .int), (k 24, .int), (k 25, .int), (k 30, .int), (k 32, .int), (h 2, .int), (h 3, .int), (h 4, .int), (h 5, .int), (h 6, .int), (h 10, .int), (h 11, .int), (h 12, .int), (h 13, .int), (h 35, .int), (h 41, .int)] s := hK
  obtain rfl : r3 = (-3) := hw2
  refine lv_aload_n hx hb dL_law_676 rfl (lv_at hl 1 rfl) ?_
  refine kVi (b := (g 47)) (n := 0) (As := []) (rest := [.int (-3)]) ⟨hx, hb, hml, hown, hta⟩ hnw (y_check l dC dI g h  H.size) cd_X11_check iz_X11 ml_L_93 im_X11_check se_X11_X11_check (by decide +kernel) rfl (Nat.le_of_ble_eq_true rfl) (Nat.le_of_ble_eq_true rfl) rfl rfl (Nat.le_of_ble_eq_true rfl) (Nat.le_of_ble_eq_true rfl) hP hD hK hS hA [18] [0, 1, 2, 3, 4, 5, 6, 7, 8, 9, 10, 11, 12, 13, 14, 15, 16, 17, 19, 20, 21, 22, 23, 24, 25, 26, 27, 28, 29] [] rfl (wr := [zlu q k, ztp q k, zbk q k, zwl q k, zrw q k, ztu q k, zfr q k, zsl q k, zwe q k, ztn q k, zsz q k, zpt q k, zkd q k, zpr q k, zfo q k, zfx q k, zby q k, zbs q k, zMtune g h, zMfrets g h, zMslack g h, zMweight g h, zMtuning g h, zMpitch g h, zMkind g h, zMprice g h, zMfixed g h, zMrow g h, zMtape g h]) rfl (by decide) (by decide) (by decide) rfl rfl 0 rfl hl.1 rfl (Nat.le_of_ble_eq_true rfl) dL_law_677 (fun r6 u4 H locs hw5 hP hD hK hS => ?_)
  have hP : va_P (dC, dI) vwCl [zlu q k, ztp q k, zbk q k, zwl q k, zrw q k, ztu q k, zfr q k, zsl q k, zwe q k, ztn q k, zsz q k, zpt q k, zkd q k, zpr q k, zfo q k, zfx q k, zby q k, zbs q k, zMtune g h, zMfrets g h, zMslack g h, zMweight g h, zMtuning g h, zMpitch g h, zMkind g h, zMprice g h, zMfixed g h, zMrow g h, zMtape g h] H := hP
  have hD : va_D (fun q : Nat => s.heap.size ≤ q) [zlu q k, ztp q k, zbk q k, zwl q k, zrw q k, ztu q k, zfr q k, zsl q k, zwe q k, ztn q k, zsz q k, zpt q k, zkd q k, zpr q k, zfo q k, zfx q k, zby q k, zbs q k, zMtune g h, zMfrets g h, zMslack g h, zMweight g h, zMtuning g h, zMpitch g h, zMkind g h, zMprice g h, zMfixed g h, zMrow g h, zMtape g h] := hD
  have hK : va_K (dC, dI) vwCl [(k 9, .int), (k 10, .int), (k 11, .int), (k 12, .int), (k 13, .int), (k 14, .int), (k 20, .int), (k 21, .int), (k 22, .int), (k 23, .int), (k 24, .int), (k 25, .int), (k 30, .int), (k 32, .int), (h 2, .int), (h 3, .int), (h 4, .int), (h 5, .int), (h 6, .int), (h 10, .int), (h 11, .int), (h 12, .int), (h 13, .int), (h 35, .int), (h 41, .int)] s := hK
  obtain rfl : r6 = (-3) := hw5
  refine lv_icmp_eq (tgt := 898) hx hb dL_law_680 (by decide) (fun _ => ?_) (fun c => absurd (by decide) c)
  exact law_end C0 hS hl
set_option maxHeartbeats 4000000 in
set_option maxRecDepth 100000 in
theorem law_19 {p : Program} {l : Launch} {e : Env} {s : State} {m : MethodId} {below : List Frame} {meth : Method} {c : Code} {b : Nat} {xs : Nat → Int32} (C0 : lw_At p s m meth c b 5 xs) {dC : Nat → ClassId} {dI : Nat → Nat → Nat} (q : Nat → Nat) (k : Nat → ClassId) (g : Nat → Nat) (h : Nat → ClassId) (hK : va_K (dC, dI) vwCl [(k 9, .int), (k 10, .int), (k 11, .int), (k 12, .int), (k 13, .int), (k 14, .int), (k 20, .int), (k 21, .int), (k 22, .int), (k 23, .int), (k 24, .int), (k 25, .int), (k 30, .int), (k 32, .int), (h 2, .int), (h 3, .int), (h 4, .int), (h 5, .int), (h 6, .int), (h 10, .int), (h 11, .int), (h 12, .int), (h 13, .int), (h 35, .int), (h 41, .int)] s) {H : Heap} {locs : List Loc} {ls : Array Slot} (hP : va_P (dC, dI) vwCl [zLF q k, zlu q k, zpi q k, ztp q k, zbk q k, zwl q k, zrw q k, ztu q k, zfr q k, zsl q k, zwe q k, ztn q k, zsz q k, zpt q k, zkd q k, zpr q k, zfo q k, zfx q k, zby q k, zbs q k, zM g h, zMtune g h, zMfrets g h, zMslack g h, zMweight g h, zMtuning g h, zMpitch g h, zMkind g h, zMprice g h, zMfixed g h, zMrow g h, zMtape g h] H) (hD : va_D (fun q : Nat => s.heap.size ≤ q) [zLF q k, zlu q k, zpi q k, ztp q k, zbk q k, zwl q k, zrw q k, ztu q k, zfr q k, zsl q k, zwe q k, ztn q k, zsz q k, zpt q k, zkd q k, zpr q k, zfo q k, zfx q k, zby q k, zbs q k, zM g h, zMtune g h, zMfrets g h, zMslack g h, zMweight g h, zMtuning g h, zMpitch g h, zMkind g h, zMprice g h, zMfixed g h, zMrow g h, zMtape g h]) (hS : va_S (fun q : Nat => s.heap.size ≤ q) s.heap H locs) (hl : lv_has ls 4 [(3, .int 0), (2, .ref (g 47)), (1, .ref (q 0)), (0, .ref b)]) : W p l e room_1 s m #[Value.ref b] below meth c H locs 70 271976 (lw_Z below #[Value.ref b] s) (F0 m 685 ls []) := by
  obtain ⟨hx, hb, hr, hml, hown, hts, hX, hbl, hlocks, hgv⟩ := id C0
  have hown : s.vm.findClass RL = some m.cls := hown
  have hA : ∀ q : Nat, s.heap.size ≤ q → (fun q : Nat => s.heap.size ≤ q) q := fun _ h => h
  have hbA : ¬ (fun q : Nat => s.heap.size ≤ q) b := Nat.not_le.mpr hbl
  have hta : ∀ w ∈ wsL_law, w.before #[Value.ref b] s = true := fun w h => hts w (wsL_law_in w h)
  have hnw : nw s := nw_of hts
  refine lv_aload_n hx hb dL_law_685 rfl (lv_at hl 2 rfl) ?_
  refine kVi (b := (q 0)) (n := 0) (As := []) (rest := []) ⟨hx, hb, hml, hown, hta⟩ hnw (x_arrange l dC dI q k  H.size) cd_X10_arrange iz_X10 ml_L_94 im_X10_arrange se_X10_X10_arrange (by decide +kernel) rfl (Nat.le_of_ble_eq_true rfl) (Nat.le_of_ble_eq_true rfl) rfl rfl (Nat.le_of_ble_eq_true rfl) (Nat.le_of_ble_eq_true rfl) hP hD hK hS hA [0, 2] [1, 3, 4, 5, 6, 7, 8, 9, 10, 11, 12, 13, 14, 15, 16, 17, 18, 19, 20, 21, 22, 23, 24, 25, 26, 27, 28, 29, 30, 31] [] rfl (wr := [zlu q k, ztp q k, zbk q k, zwl q k, zrw q k, ztu q k, zfr q k, zsl q k, zwe q k, ztn q k, zsz q k, zpt q k, zkd q k, zpr q k, zfo q k, zfx q k, zby q k, zbs q k, zM g h, zMtune g h, zMfrets g h, zMslack g h, zMweight g h, zMtuning g h, zMpitch g h, zMkind g h, zMprice g h, zMfixed g h, zMrow g h, zMtape g h]) rfl (by decide) (by decide) (by decide) rfl rfl 0 rfl hl.1 rfl (Nat.le_of_ble_eq_true rfl) dL_law_686 (fun r3 u1 H locs hw2 hP hD hK hS => ?_)
  have hP : va_P (dC, dI) vwCl [zlu q k, ztp q k, zbk q k, zwl q k, zrw q k, ztu q k, zfr q k, zsl q k, zwe q k, ztn q k, zsz q k, zpt q k, zkd q k, zpr q k, zfo q k, zfx q k, zby q k, zbs q k, zM g h, zMtune g h, zMfrets g h, zMslack g h, zMweight g h, zMtuning g h, zMpitch g h, zMkind g h, zMprice g h, zMfixed g h, zMrow g h, zMtape g h] H := hP
  have hD : va_D (fun q : Nat => s.heap.size ≤ q) [zlu q k, ztp q k, zbk q k, zwl q k, zrw q k, ztu q k, zfr q k, zsl q k, zwe q k, ztn q k, zsz q k, zpt q k, zkd q k, zpr q k, zfo q k, zfx q k, zby q k, zbs q k, zM g h, zMtune g h, zMfrets g h, zMslack g h, zMweight g h, zMtuning g h, zMpitch g h, zMkind g h, zMprice g h, zMfixed g h, zMrow g h, zMtape g h] := hD
  have hK : va_K (dC, dI) vwCl [(k 9, .int), (k 10, .int), (k 11, .int), (k 12, .int), (k 13, .int), (k 14, .int), (k 20, .int), (k 21, .int), (k 22, .int), (k 23, .int), (k 24, .int), (k 25, .int), (k 30, .int), (k 32, .int), (h 2, .int), (h 3, .int), (h 4, .int), (h 5, .int), (h 6, .int), (h 10, .int), (h 11, .int), (h 12, .int), (h 13, .int), (h 35, .int), (h 41, .int)] s := hK
  obtain rfl : r3 = (-3) := hw2
  refine lv_aload_n hx hb dL_law_689 rfl (lv_at hl 1 rfl) ?_
  refine kVi (b := (g 47)) (n := 0) (As := []) (rest := [.int (-3)]) ⟨hx, hb, hml, hown, hta⟩ hnw (y_arrange l dC dI g h  H.size) cd_X11_arrange iz_X11 ml_L_97 im_X11_arrange se_X11_X11_arrange (by decide +kernel) rfl (Nat.le_of_ble_eq_true rfl) (Nat.le_of_ble_eq_true rfl) rfl rfl (Nat.le_of_ble_eq_true rfl) (Nat.le_of_ble_eq_true rfl) hP hD hK hS hA [18] [0, 1, 2, 3, 4, 5, 6, 7, 8, 9, 10, 11, 12, 13, 14, 15, 16, 17, 19, 20, 21, 22, 23, 24, 25, 26, 27, 28, 29] [] rfl (wr := [zlu q k, ztp q k, zbk q k, zwl q k, zrw q k, ztu q k, zfr q k, zsl q k, zwe q k, ztn q k, zsz q k, zpt q k, zkd q k, zpr q k, zfo q k, zfx q k, zby q k, zbs q k, zMtune g h, zMfrets g h, zMslack g h, zMweight g h, zMtuning g h, zMpitch g h, zMkind g h, zMprice g h, zMfixed g h, zMrow g h, zMtape g h]) rfl (by decide) (by decide) (by decide) rfl rfl 0 rfl hl.1 rfl (Nat.le_of_ble_eq_true rfl) dL_law_690 (fun r6 u4 H locs hw5 hP hD hK hS => ?_)
  have hP : va_P (dC, dI) vwCl [zlu q k, ztp q k, zbk q k, zwl q k, zrw q k, ztu q k, zfr q k, zsl q k, zwe q k, ztn q k, zsz q k, zpt q k, zkd q k, zpr q k, zfo q k, zfx q k, zby q k, zbs q k, zMtune g h, zMfrets g h, zMslack g h, zMweight g h, zMtuning g h, zMpitch g h, zMkind g h, zMprice g h, zMfixed g h, zMrow g h, zMtape g h] H := hP
  have hD : va_D (fun q : Nat => s.heap.size ≤ q) [zlu q k, ztp q k, zbk q k, zwl q k, zrw q k, ztu q k, zfr q k, zsl q k, zwe q k, ztn q k, zsz q k, zpt q k, zkd q k, zpr q k, zfo q k, zfx q k, zby q k, zbs q k, zMtune g h, zMfrets g h, zMslack g h, zMweight g h, zMtuning g h, zMpitch g h, zMkind g h, zMprice g h, zMfixed g h, zMrow g h, zMtape g h] := hD
  have hK : va_K (dC, dI) vwCl [(k 9, .int), (k 10, .int), (k 11, .int), (k 12, .int), (k 13, .int), (k 14, .int), (k 20, .int), (k 21, .int), (k 22, .int), (k 23, .int), (k 24, .int), (k 25, .int), (k 30, .int), (k 32, .int), (h 2, .int), (h 3, .int), (h 4, .int), (h 5, .int), (h 6, .int), (h 10, .int), (h 11, .int), (h 12, .int), (h 13, .int), (h 35, .int), (h 41, .int)] s := hK
  obtain rfl : r6 = (-3) := hw5
  refine lv_icmp_eq (tgt := 898) hx hb dL_law_693 (by decide) (fun _ => ?_) (fun c => absurd (by decide) c)
  exact law_end C0 hS hl
set_option maxHeartbeats 4000000 in
set_option maxRecDepth 100000 in
theorem law_20 {p : Program} {l : Launch} {e : Env} {s : State} {m : MethodId} {below : List Frame} {meth : Method} {c : Code} {b : Nat} {xs : Nat → Int32} (C0 : lw_At p s m meth c b 5 xs) {dC : Nat → ClassId} {dI : Nat → Nat → Nat} (q : Nat → Nat) (k : Nat → ClassId) (g : Nat → Nat) (h : Nat → ClassId) (hK : va_K (dC, dI) vwCl [(k 9, .int), (k 10, .int), (k 11, .int), (k 12, .int), (k 13, .int), (k 14, .int), (k 20, .int), (k 21, .int), (k 22, .int), (k 23, .int), (k 24, .int), (k 25, .int), (k 30, .int), (k 32, .int), (h 2, .int), (h 3, .int), (h 4, .int), (h 5, .int), (h 6, .int), (h 10, .int), (h 11, .int), (h 12, .int), (h 13, .int), (h 35, .int), (h 41, .int)] s) {H : Heap} {locs : List Loc} {ls : Array Slot} (hP : va_P (dC, dI) vwCl [zLF q k, zlu q k, zpi q k, ztp q k, zbk q k, zwl q k, zrw q k, ztu q k, zfr q k, zsl q k, zwe q k, ztn q k, zsz q k, zpt q k, zkd q k, zpr q k, zfo q k, zfx q k, zby q k, zbs q k, zM g h, zMtune g h, zMfrets g h, zMslack g h, zMweight g h, zMtuning g h, zMpitch g h, zMkind g h, zMprice g h, zMfixed g h, zMrow g h, zMtape g h] H) (hD : va_D (fun q : Nat => s.heap.size ≤ q) [zLF q k, zlu q k, zpi q k, ztp q k, zbk q k, zwl q k, zrw q k, ztu q k, zfr q k, zsl q k, zwe q k, ztn q k, zsz q k, zpt q k, zkd q k, zpr q k, zfo q k, zfx q k, zby q k, zbs q k, zM g h, zMtune g h, zMfrets g h, zMslack g h, zMweight g h, zMtuning g h, zMpitch g h, zMkind g h, zMprice g h, zMfixed g h, zMrow g h, zMtape g h]) (hS : va_S (fun q : Nat => s.heap.size ≤ q) s.heap H locs) (hl : lv_has ls 4 [(3, .int 0), (2, .ref (g 47)), (1, .ref (q 0)), (0, .ref b)]) : W p l e room_1 s m #[Value.ref b] below meth c H locs 70 271976 (lw_Z below #[Value.ref b] s) (F0 m 698 ls []) := by
  obtain ⟨hx, hb, hr, hml, hown, hts, hX, hbl, hlocks, hgv⟩ := id C0
  have hown : s.vm.findClass RL = some m.cls := hown
  have hA : ∀ q : Nat, s.heap.size ≤ q → (fun q : Nat => s.heap.size ≤ q) q := fun _ h => h
  have hbA : ¬ (fun q : Nat => s.heap.size ≤ q) b := Nat.not_le.mpr hbl
  have hta : ∀ w ∈ wsL_law, w.before #[Value.ref b] s = true := fun w h => hts w (wsL_law_in w h)
  have hnw : nw s := nw_of hts
  refine lv_aload_n hx hb dL_law_698 rfl (lv_at hl 2 rfl) ?_
  refine lv_aload_n hx hb dL_law_699 rfl (lv_at hl 3 rfl) ?_
  refine lv_iload_n hx hb dL_law_700 rfl (lv_at hl 0 rfl) ?_
  refine lv_iconst (v := 1) hx hb dL_law_701 (by decide) ?_
  refine lv_iadd hx hb dL_law_702 ?_
  refine k_top (y := 1) (by decide) ?_
  refine va_sld hx hb hX hbl hbA hS (vin (by decide)) dL_law_703 ?_
  refine k_top (y := xs 1) rfl ?_
  refine kVi (b := (q 0)) (n := 1) (As := [.int (xs 1)]) (rest := []) ⟨hx, hb, hml, hown, hta⟩ hnw (x_left l dC dI q k (xs 1)  H.size) cd_X10_left iz_X10 ml_L_98 im_X10_left se_X10_X10_left (by decide +kernel) rfl (Nat.le_of_ble_eq_true rfl) (Nat.le_of_ble_eq_true rfl) rfl rfl (Nat.le_of_ble_eq_true rfl) (Nat.le_of_ble_eq_true rfl) hP hD hK hS hA [0] [1, 2, 3, 4, 5, 6, 7, 8, 9, 10, 11, 12, 13, 14, 15, 16, 17, 18, 19, 20, 21, 22, 23, 24, 25, 26, 27, 28, 29, 30, 31] [] rfl (wr := [zlu q k, zpi q k, ztp q k, zbk q k, zwl q k, zrw q k, ztu q k, zfr q k, zsl q k, zwe q k, ztn q k, zsz q k, zpt q k, zkd q k, zpr q k, zfo q k, zfx q k, zby q k, zbs q k, zM g h, zMtune g h, zMfrets g h, zMslack g h, zMweight g h, zMtuning g h, zMpitch g h, zMkind g h, zMprice g h, zMfixed g h, zMrow g h, zMtape g h]) rfl (by decide) (by decide) (by decide) rfl rfl 0 rfl hl.1 rfl (Nat.le_of_ble_eq_true rfl) dL_law_704 (fun r3 u1 H locs hw2 hP hD hK hS => ?_)
  have hP : va_P (dC, dI) vwCl [zlu q k, zpi q k, ztp q k, zbk q k, zwl q k, zrw q k, ztu q k, zfr q k, zsl q k, zwe q k, ztn q k, zsz q k, zpt q k, zkd q k, zpr q k, zfo q k, zfx q k, zby q k, zbs q k, zM g h, zMtune g h, zMfrets g h, zMslack g h, zMweight g h, zMtuning g h, zMpitch g h, zMkind g h, zMprice g h, zMfixed g h, zMrow g h, zMtape g h] H := hP
  have hD : va_D (fun q : Nat => s.heap.size ≤ q) [zlu q k, zpi q k, ztp q k, zbk q k, zwl q k, zrw q k, ztu q k, zfr q k, zsl q k, zwe q k, ztn q k, zsz q k, zpt q k, zkd q k, zpr q k, zfo q k, zfx q k, zby q k, zbs q k, zM g h, zMtune g h, zMfrets g h, zMslack g h, zMweight g h, zMtuning g h, zMpitch g h, zMkind g h, zMprice g h, zMfixed g h, zMrow g h, zMtape g h] := hD
  have hK : va_K (dC, dI) vwCl [(k 9, .int), (k 10, .int), (k 11, .int), (k 12, .int), (k 13, .int), (k 14, .int), (k 20, .int), (k 21, .int), (k 22, .int), (k 23, .int), (k 24, .int), (k 25, .int), (k 30, .int), (k 32, .int), (h 2, .int), (h 3, .int), (h 4, .int), (h 5, .int), (h 6, .int), (h 10, .int), (h 11, .int), (h 12, .int), (h 13, .int), (h 35, .int), (h 41, .int)] s := hK
  obtain rfl : r3 = (-1) := hw2
  refine lv_aload_n hx hb dL_law_707 rfl (lv_at hl 1 rfl) ?_
  refine lv_aload_n hx hb dL_law_708 rfl (lv_at hl 3 rfl) ?_
  refine lv_iload_n hx hb dL_law_709 rfl (lv_at hl 0 rfl) ?_
  refine lv_iconst (v := 1) hx hb dL_law_710 (by decide) ?_
  refine lv_iadd hx hb dL_law_711 ?_
  refine k_top (y := 1) (by decide) ?_
  refine va_sld hx hb hX hbl hbA hS (vin (by decide)) dL_law_712 ?_
  refine k_top (y := xs 1) rfl ?_
  refine kVi (b := (g 47)) (n := 1) (As := [.int (xs 1)]) (rest := [.int (-1)]) ⟨hx, hb, hml, hown, hta⟩ hnw (y_left l dC dI g h (xs 1)  H.size) cd_X11_left iz_X11 ml_L_101 im_X11_left se_X11_X11_left (by decide +kernel) rfl (Nat.le_of_ble_eq_true rfl) (Nat.le_of_ble_eq_true rfl) rfl rfl (Nat.le_of_ble_eq_true rfl) (Nat.le_of_ble_eq_true rfl) hP hD hK hS hA [19] [0, 1, 2, 3, 4, 5, 6, 7, 8, 9, 10, 11, 12, 13, 14, 15, 16, 17, 18, 20, 21, 22, 23, 24, 25, 26, 27, 28, 29, 30] [] rfl (wr := [zlu q k, zpi q k, ztp q k, zbk q k, zwl q k, zrw q k, ztu q k, zfr q k, zsl q k, zwe q k, ztn q k, zsz q k, zpt q k, zkd q k, zpr q k, zfo q k, zfx q k, zby q k, zbs q k, zMtune g h, zMfrets g h, zMslack g h, zMweight g h, zMtuning g h, zMpitch g h, zMkind g h, zMprice g h, zMfixed g h, zMrow g h, zMtape g h]) rfl (by decide) (by decide) (by decide) rfl rfl 0 rfl hl.1 rfl (Nat.le_of_ble_eq_true rfl) dL_law_713 (fun r6 u4 H locs hw5 hP hD hK hS => ?_)
  have hP : va_P (dC, dI) vwCl [zlu q k, zpi q k, ztp q k, zbk q k, zwl q k, zrw q k, ztu q k, zfr q k, zsl q k, zwe q k, ztn q k, zsz q k, zpt q k, zkd q k, zpr q k, zfo q k, zfx q k, zby q k, zbs q k, zMtune g h, zMfrets g h, zMslack g h, zMweight g h, zMtuning g h, zMpitch g h, zMkind g h, zMprice g h, zMfixed g h, zMrow g h, zMtape g h] H := hP
  have hD : va_D (fun q : Nat => s.heap.size ≤ q) [zlu q k, zpi q k, ztp q k, zbk q k, zwl q k, zrw q k, ztu q k, zfr q k, zsl q k, zwe q k, ztn q k, zsz q k, zpt q k, zkd q k, zpr q k, zfo q k, zfx q k, zby q k, zbs q k, zMtune g h, zMfrets g h, zMslack g h, zMweight g h, zMtuning g h, zMpitch g h, zMkind g h, zMprice g h, zMfixed g h, zMrow g h, zMtape g h] := hD
  have hK : va_K (dC, dI) vwCl [(k 9, .int), (k 10, .int), (k 11, .int), (k 12, .int), (k 13, .int), (k 14, .int), (k 20, .int), (k 21, .int), (k 22, .int), (k 23, .int), (k 24, .int), (k 25, .int), (k 30, .int), (k 32, .int), (h 2, .int), (h 3, .int), (h 4, .int), (h 5, .int), (h 6, .int), (h 10, .int), (h 11, .int), (h 12, .int), (h 13, .int), (h 35, .int), (h 41, .int)] s := hK
  obtain rfl : r6 = (-1) := hw5
  refine lv_icmp_eq (tgt := 898) hx hb dL_law_716 (by decide) (fun _ => ?_) (fun c => absurd (by decide) c)
  exact law_end C0 hS hl
set_option maxHeartbeats 4000000 in
set_option maxRecDepth 100000 in
theorem law_21 {p : Program} {l : Launch} {e : Env} {s : State} {m : MethodId} {below : List Frame} {meth : Method} {c : Code} {b : Nat} {xs : Nat → Int32} (C0 : lw_At p s m meth c b 5 xs) {dC : Nat → ClassId} {dI : Nat → Nat → Nat} (q : Nat → Nat) (k : Nat → ClassId) (g : Nat → Nat) (h : Nat → ClassId) (hK : va_K (dC, dI) vwCl [(k 9, .int), (k 10, .int), (k 11, .int), (k 12, .int), (k 13, .int), (k 14, .int), (k 20, .int), (k 21, .int), (k 22, .int), (k 23, .int), (k 24, .int), (k 25, .int), (k 30, .int), (k 32, .int), (h 2, .int), (h 3, .int), (h 4, .int), (h 5, .int), (h 6, .int), (h 10, .int), (h 11, .int), (h 12, .int), (h 13, .int), (h 35, .int), (h 41, .int)] s) {H : Heap} {locs : List Loc} {ls : Array Slot} (hP : va_P (dC, dI) vwCl [zLF q k, zlu q k, zpi q k, ztp q k, zbk q k, zwl q k, zrw q k, ztu q k, zfr q k, zsl q k, zwe q k, ztn q k, zsz q k, zpt q k, zkd q k, zpr q k, zfo q k, zfx q k, zby q k, zbs q k, zM g h, zMtune g h, zMfrets g h, zMslack g h, zMweight g h, zMtuning g h, zMpitch g h, zMkind g h, zMprice g h, zMfixed g h, zMrow g h, zMtape g h] H) (hD : va_D (fun q : Nat => s.heap.size ≤ q) [zLF q k, zlu q k, zpi q k, ztp q k, zbk q k, zwl q k, zrw q k, ztu q k, zfr q k, zsl q k, zwe q k, ztn q k, zsz q k, zpt q k, zkd q k, zpr q k, zfo q k, zfx q k, zby q k, zbs q k, zM g h, zMtune g h, zMfrets g h, zMslack g h, zMweight g h, zMtuning g h, zMpitch g h, zMkind g h, zMprice g h, zMfixed g h, zMrow g h, zMtape g h]) (hS : va_S (fun q : Nat => s.heap.size ≤ q) s.heap H locs) (hl : lv_has ls 4 [(3, .int 0), (2, .ref (g 47)), (1, .ref (q 0)), (0, .ref b)]) : W p l e room_1 s m #[Value.ref b] below meth c H locs 70 271976 (lw_Z below #[Value.ref b] s) (F0 m 721 ls []) := by
  obtain ⟨hx, hb, hr, hml, hown, hts, hX, hbl, hlocks, hgv⟩ := id C0
  have hown : s.vm.findClass RL = some m.cls := hown
  have hA : ∀ q : Nat, s.heap.size ≤ q → (fun q : Nat => s.heap.size ≤ q) q := fun _ h => h
  have hbA : ¬ (fun q : Nat => s.heap.size ≤ q) b := Nat.not_le.mpr hbl
  have hta : ∀ w ∈ wsL_law, w.before #[Value.ref b] s = true := fun w h => hts w (wsL_law_in w h)
  have hnw : nw s := nw_of hts
  refine lv_aload_n hx hb dL_law_721 rfl (lv_at hl 2 rfl) ?_
  refine kVi (b := (q 0)) (n := 0) (As := []) (rest := []) ⟨hx, hb, hml, hown, hta⟩ hnw (x_rest l dC dI q k  H.size) cd_X10_rest iz_X10 ml_L_102 im_X10_rest se_X10_X10_rest (by decide +kernel) rfl (Nat.le_of_ble_eq_true rfl) (Nat.le_of_ble_eq_true rfl) rfl rfl (Nat.le_of_ble_eq_true rfl) (Nat.le_of_ble_eq_true rfl) hP hD hK hS hA [0] [1, 2, 3, 4, 5, 6, 7, 8, 9, 10, 11, 12, 13, 14, 15, 16, 17, 18, 19, 20, 21, 22, 23, 24, 25, 26, 27, 28, 29, 30, 31] [] rfl (wr := [zlu q k, zpi q k, ztp q k, zbk q k, zwl q k, zrw q k, ztu q k, zfr q k, zsl q k, zwe q k, ztn q k, zsz q k, zpt q k, zkd q k, zpr q k, zfo q k, zfx q k, zby q k, zbs q k, zM g h, zMtune g h, zMfrets g h, zMslack g h, zMweight g h, zMtuning g h, zMpitch g h, zMkind g h, zMprice g h, zMfixed g h, zMrow g h, zMtape g h]) rfl (by decide) (by decide) (by decide) rfl rfl 0 rfl hl.1 rfl (Nat.le_of_ble_eq_true rfl) dL_law_722 (fun r3 u1 H locs hw2 hP hD hK hS => ?_)
  have hP : va_P (dC, dI) vwCl [zlu q k, zpi q k, ztp q k, zbk q k, zwl q k, zrw q k, ztu q k, zfr q k, zsl q k, zwe q k, ztn q k, zsz q k, zpt q k, zkd q k, zpr q k, zfo q k, zfx q k, zby q k, zbs q k, zM g h, zMtune g h, zMfrets g h, zMslack g h, zMweight g h, zMtuning g h, zMpitch g h, zMkind g h, zMprice g h, zMfixed g h, zMrow g h, zMtape g h] H := hP
  have hD : va_D (fun q : Nat => s.heap.size ≤ q) [zlu q k, zpi q k, ztp q k, zbk q k, zwl q k, zrw q k, ztu q k, zfr q k, zsl q k, zwe q k, ztn q k, zsz q k, zpt q k, zkd q k, zpr q k, zfo q k, zfx q k, zby q k, zbs q k, zM g h, zMtune g h, zMfrets g h, zMslack g h, zMweight g h, zMtuning g h, zMpitch g h, zMkind g h, zMprice g h, zMfixed g h, zMrow g h, zMtape g h] := hD
  have hK : va_K (dC, dI) vwCl [(k 9, .int), (k 10, .int), (k 11, .int), (k 12, .int), (k 13, .int), (k 14, .int), (k 20, .int), (k 21, .int), (k 22, .int), (k 23, .int), (k 24, .int), (k 25, .int), (k 30, .int), (k 32, .int), (h 2, .int), (h 3, .int), (h 4, .int), (h 5, .int), (h 6, .int), (h 10, .int), (h 11, .int), (h 12, .int), (h 13, .int), (h 35, .int), (h 41, .int)] s := hK
  obtain rfl : r3 = (-1) := hw2
  refine lv_aload_n hx hb dL_law_725 rfl (lv_at hl 1 rfl) ?_
  refine kVi (b := (g 47)) (n := 0) (As := []) (rest := [.int (-1)]) ⟨hx, hb, hml, hown, hta⟩ hnw (y_rest l dC dI g h  H.size) cd_X11_rest iz_X11 ml_L_105 im_X11_rest se_X11_X11_rest (by decide +kernel) rfl (Nat.le_of_ble_eq_true rfl) (Nat.le_of_ble_eq_true rfl) rfl rfl (Nat.le_of_ble_eq_true rfl) (Nat.le_of_ble_eq_true rfl) hP hD hK hS hA [19] [0, 1, 2, 3, 4, 5, 6, 7, 8, 9, 10, 11, 12, 13, 14, 15, 16, 17, 18, 20, 21, 22, 23, 24, 25, 26, 27, 28, 29, 30] [] rfl (wr := [zlu q k, zpi q k, ztp q k, zbk q k, zwl q k, zrw q k, ztu q k, zfr q k, zsl q k, zwe q k, ztn q k, zsz q k, zpt q k, zkd q k, zpr q k, zfo q k, zfx q k, zby q k, zbs q k, zMtune g h, zMfrets g h, zMslack g h, zMweight g h, zMtuning g h, zMpitch g h, zMkind g h, zMprice g h, zMfixed g h, zMrow g h, zMtape g h]) rfl (by decide) (by decide) (by decide) rfl rfl 0 rfl hl.1 rfl (Nat.le_of_ble_eq_true rfl) dL_law_726 (fun r6 u4 H locs hw5 hP hD hK hS => ?_)
  have hP : va_P (dC, dI) vwCl [zlu q k, zpi q k, ztp q k, zbk q k, zwl q k, zrw q k, ztu q k, zfr q k, zsl q k, zwe q k, ztn q k, zsz q k, zpt q k, zkd q k, zpr q k, zfo q k, zfx q k, zby q k, zbs q k, zMtune g h, zMfrets g h, zMslack g h, zMweight g h, zMtuning g h, zMpitch g h, zMkind g h, zMprice g h, zMfixed g h, zMrow g h, zMtape g h] H := hP
  have hD : va_D (fun q : Nat => s.heap.size ≤ q) [zlu q k, zpi q k, ztp q k, zbk q k, zwl q k, zrw q k, ztu q k, zfr q k, zsl q k, zwe q k, ztn q k, zsz q k, zpt q k, zkd q k, zpr q k, zfo q k, zfx q k, zby q k, zbs q k, zMtune g h, zMfrets g h, zMslack g h, zMweight g h, zMtuning g h, zMpitch g h, zMkind g h, zMprice g h, zMfixed g h, zMrow g h, zMtape g h] := hD
  have hK : va_K (dC, dI) vwCl [(k 9, .int), (k 10, .int), (k 11, .int), (k 12, .int), (k 13, .int), (k 14, .int), (k 20, .int), (k 21, .int), (k 22, .int), (k 23, .int), (k 24, .int), (k 25, .int), (k 30, .int), (k 32, .int), (h 2, .int), (h 3, .int), (h 4, .int), (h 5, .int), (h 6, .int), (h 10, .int), (h 11, .int), (h 12, .int), (h 13, .int), (h 35, .int), (h 41, .int)] s := hK
  obtain rfl : r6 = (-1) := hw5
  refine lv_icmp_eq (tgt := 898) hx hb dL_law_729 (by decide) (fun _ => ?_) (fun c => absurd (by decide) c)
  exact law_end C0 hS hl
set_option maxHeartbeats 4000000 in
set_option maxRecDepth 100000 in
theorem law_22 {p : Program} {l : Launch} {e : Env} {s : State} {m : MethodId} {below : List Frame} {meth : Method} {c : Code} {b : Nat} {xs : Nat → Int32} (C0 : lw_At p s m meth c b 5 xs) {dC : Nat → ClassId} {dI : Nat → Nat → Nat} (q : Nat → Nat) (k : Nat → ClassId) (g : Nat → Nat) (h : Nat → ClassId) (hK : va_K (dC, dI) vwCl [(k 9, .int), (k 10, .int), (k 11, .int), (k 12, .int), (k 13, .int), (k 14, .int), (k 20, .int), (k 21, .int), (k 22, .int), (k 23, .int), (k 24, .int), (k 25, .int), (k 30, .int), (k 32, .int), (h 2, .int), (h 3, .int), (h 4, .int), (h 5, .int), (h 6, .int), (h 10, .int), (h 11, .int), (h 12, .int), (h 13, .int), (h 35, .int), (h 41, .int)] s) {H : Heap} {locs : List Loc} {ls : Array Slot} (hP : va_P (dC, dI) vwCl [zLF q k, zlu q k, zpi q k, ztp q k, zbk q k, zwl q k, zrw q k, ztu q k, zfr q k, zsl q k, zwe q k, ztn q k, zsz q k, zpt q k, zkd q k, zpr q k, zfo q k, zfx q k, zby q k, zbs q k, zM g h, zMtune g h, zMfrets g h, zMslack g h, zMweight g h, zMtuning g h, zMpitch g h, zMkind g h, zMprice g h, zMfixed g h, zMrow g h, zMtape g h] H) (hD : va_D (fun q : Nat => s.heap.size ≤ q) [zLF q k, zlu q k, zpi q k, ztp q k, zbk q k, zwl q k, zrw q k, ztu q k, zfr q k, zsl q k, zwe q k, ztn q k, zsz q k, zpt q k, zkd q k, zpr q k, zfo q k, zfx q k, zby q k, zbs q k, zM g h, zMtune g h, zMfrets g h, zMslack g h, zMweight g h, zMtuning g h, zMpitch g h, zMkind g h, zMprice g h, zMfixed g h, zMrow g h, zMtape g h]) (hS : va_S (fun q : Nat => s.heap.size ≤ q) s.heap H locs) (hl : lv_has ls 4 [(3, .int 0), (2, .ref (g 47)), (1, .ref (q 0)), (0, .ref b)]) : W p l e room_1 s m #[Value.ref b] below meth c H locs 70 271976 (lw_Z below #[Value.ref b] s) (F0 m 734 ls []) := by
  obtain ⟨hx, hb, hr, hml, hown, hts, hX, hbl, hlocks, hgv⟩ := id C0
  have hown : s.vm.findClass RL = some m.cls := hown
  have hA : ∀ q : Nat, s.heap.size ≤ q → (fun q : Nat => s.heap.size ≤ q) q := fun _ h => h
  have hbA : ¬ (fun q : Nat => s.heap.size ≤ q) b := Nat.not_le.mpr hbl
  have hta : ∀ w ∈ wsL_law, w.before #[Value.ref b] s = true := fun w h => hts w (wsL_law_in w h)
  have hnw : nw s := nw_of hts
  refine lv_aload_n hx hb dL_law_734 rfl (lv_at hl 2 rfl) ?_
  refine lv_aload_n hx hb dL_law_735 rfl (lv_at hl 3 rfl) ?_
  refine lv_iload_n hx hb dL_law_736 rfl (lv_at hl 0 rfl) ?_
  refine lv_iconst (v := 1) hx hb dL_law_737 (by decide) ?_
  refine lv_iadd hx hb dL_law_738 ?_
  refine k_top (y := 1) (by decide) ?_
  refine va_sld hx hb hX hbl hbA hS (vin (by decide)) dL_law_739 ?_
  refine k_top (y := xs 1) rfl ?_
  refine lv_aload_n hx hb dL_law_740 rfl (lv_at hl 3 rfl) ?_
  refine lv_iload_n hx hb dL_law_741 rfl (lv_at hl 0 rfl) ?_
  refine lv_iconst (v := 2) hx hb dL_law_742 (by decide) ?_
  refine lv_iadd hx hb dL_law_743 ?_
  refine k_top (y := 2) (by decide) ?_
  refine va_sld hx hb hX hbl hbA hS (vin (by decide)) dL_law_744 ?_
  refine k_top (y := xs 2) rfl ?_
  refine lv_aload_n hx hb dL_law_745 rfl (lv_at hl 3 rfl) ?_
  refine lv_iload_n hx hb dL_law_746 rfl (lv_at hl 0 rfl) ?_
  refine lv_iconst (v := 3) hx hb dL_law_747 (by decide) ?_
  refine lv_iadd hx hb dL_law_748 ?_
  refine k_top (y := 3) (by decide) ?_
  refine va_sld hx hb hX hbl hbA hS (vin (by decide)) dL_law_749 ?_
  refine k_top (y := xs 3) rfl ?_
  refine kVi (b := (q 0)) (n := 3) (As := [.int (xs 1), .int (xs 2), .int (xs 3)]) (rest := []) ⟨hx, hb, hml, hown, hta⟩ hnw (x_tuning l dC dI q k (xs 1) (xs 2) (xs 3)  H.size) cd_X10_tuning iz_X10 ml_L_106 im_X10_tuning se_X10_X10_tuning (by decide +kernel) rfl (Nat.le_of_ble_eq_true rfl) (Nat.le_of_ble_eq_true rfl) rfl rfl (Nat.le_of_ble_eq_true rfl) (Nat.le_of_ble_eq_true rfl) hP hD hK hS hA [0, 1] [2, 3, 4, 5, 6, 7, 8, 9, 10, 11, 12, 13, 14, 15, 16, 17, 18, 19, 20, 21, 22, 23, 24, 25, 26, 27, 28, 29, 30, 31] [] rfl (wr := [zpi q k, ztp q k, zbk q k, zwl q k, zrw q k, ztu q k, zfr q k, zsl q k, zwe q k, ztn q k, zsz q k, zpt q k, zkd q k, zpr q k, zfo q k, zfx q k, zby q k, zbs q k, zM g h, zMtune g h, zMfrets g h, zMslack g h, zMweight g h, zMtuning g h, zMpitch g h, zMkind g h, zMprice g h, zMfixed g h, zMrow g h, zMtape g h]) rfl (by decide) (by decide) (by decide) rfl rfl 0 rfl hl.1 rfl (Nat.le_of_ble_eq_true rfl) dL_law_750 (fun r3 u1 H locs hw2 hP hD hK hS => ?_)
  have hP : va_P (dC, dI) vwCl [zpi q k, ztp q k, zbk q k, zwl q k, zrw q k, ztu q k, zfr q k, zsl q k, zwe q k, ztn q k, zsz q k, zpt q k, zkd q k, zpr q k, zfo q k, zfx q k, zby q k, zbs q k, zM g h, zMtune g h, zMfrets g h, zMslack g h, zMweight g h, zMtuning g h, zMpitch g h, zMkind g h, zMprice g h, zMfixed g h, zMrow g h, zMtape g h] H := hP
  have hD : va_D (fun q : Nat => s.heap.size ≤ q) [zpi q k, ztp q k, zbk q k, zwl q k, zrw q k, ztu q k, zfr q k, zsl q k, zwe q k, ztn q k, zsz q k, zpt q k, zkd q k, zpr q k, zfo q k, zfx q k, zby q k, zbs q k, zM g h, zMtune g h, zMfrets g h, zMslack g h, zMweight g h, zMtuning g h, zMpitch g h, zMkind g h, zMprice g h, zMfixed g h, zMrow g h, zMtape g h] := hD
  have hK : va_K (dC, dI) vwCl [(k 9, .int), (k 10, .int), (k 11, .int), (k 12, .int), (k 13, .int), (k 14, .int), (k 20, .int), (k 21, .int), (k 22, .int), (k 23, .int), (k 24, .int), (k 25, .int), (k 30, .int), (k 32, .int), (h 2, .int), (h 3, .int), (h 4, .int), (h 5, .int), (h 6, .int), (h 10, .int), (h 11, .int), (h 12, .int), (h 13, .int), (h 35, .int), (h 41, .int)] s := hK
  obtain rfl : r3 = (-1) := hw2
  refine lv_aload_n hx hb dL_law_753 rfl (lv_at hl 1 rfl) ?_
  refine lv_aload_n hx hb dL_law_754 rfl (lv_at hl 3 rfl) ?_
  refine lv_iload_n hx hb dL_law_755 rfl (lv_at hl 0 rfl) ?_
  refine lv_iconst (v := 1) hx hb dL_law_756 (by decide) ?_
  refine lv_iadd hx hb dL_law_757 ?_
  refine k_top (y := 1) (by decide) ?_
  refine va_sld hx hb hX hbl hbA hS (vin (by decide)) dL_law_758 ?_
  refine k_top (y := xs 1) rfl ?_
  refine lv_aload_n hx hb dL_law_759 rfl (lv_at hl 3 rfl) ?_
  refine lv_iload_n hx hb dL_law_760 rfl (lv_at hl 0 rfl) ?_
  refine lv_iconst (v := 2) hx hb dL_law_761 (by decide) ?_
  refine lv_iadd hx hb dL_law_762 ?_
  refine k_top (y := 2) (by decide) ?_
  refine va_sld hx hb hX hbl hbA hS (vin (by decide)) dL_law_763 ?_
  refine k_top (y := xs 2) rfl ?_
  refine lv_aload_n hx hb dL_law_764 rfl (lv_at hl 3 rfl) ?_
  refine lv_iload_n hx hb dL_law_765 rfl (lv_at hl 0 rfl) ?_
  refine lv_iconst (v := 3) hx hb dL_law_766 (by decide) ?_
  refine lv_iadd hx hb dL_law_767 ?_
  refine k_top (y := 3) (by decide) ?_
  refine va_sld hx hb hX hbl hbA hS (vin (by decide)) dL_law_768 ?_
  refine k_top (y := xs 3) rfl ?_
  refine kVi (b := (g 47)) (n := 3) (As := [.int (xs 1), .int (xs 2), .int (xs 3)]) (rest := [.int (-1)]) ⟨hx, hb, hml, hown, hta⟩ hnw (y_tuning l dC dI g h (xs 1) (xs 2) (xs 3)  H.size) cd_X11_tuning iz_X11 ml_L_109 im_X11_tuning se_X11_X11_tuning (by decide +kernel) rfl (Nat.le_of_ble_eq_true rfl) (Nat.le_of_ble_eq_true rfl) rfl rfl (Nat.le_of_ble_eq_true rfl) (Nat.le_of_ble_eq_true rfl) hP hD hK hS hA [18] [0, 1, 2, 3, 4, 5, 6, 7, 8, 9, 10, 11, 12, 13, 14, 15, 16, 17, 19, 20, 21, 22, 23, 24, 25, 26, 27, 28, 29] [] rfl (wr := [zpi q k, ztp q k, zbk q k, zwl q k, zrw q k, ztu q k, zfr q k, zsl q k, zwe q k, ztn q k, zsz q k, zpt q k, zkd q k, zpr q k, zfo q k, zfx q k, zby q k, zbs q k, zMtune g h, zMfrets g h, zMslack g h, zMweight g h, zMtuning g h, zMpitch g h, zMkind g h, zMprice g h, zMfixed g h, zMrow g h, zMtape g h]) rfl (by decide) (by decide) (by decide) rfl rfl 0 rfl hl.1 rfl (Nat.le_of_ble_eq_true rfl) dL_law_769 (fun r6 u4 H locs hw5 hP hD hK hS => ?_)
  have hP : va_P (dC, dI) vwCl [zpi q k, ztp q k, zbk q k, zwl q k, zrw q k, ztu q k, zfr q k, zsl q k, zwe q k, ztn q k, zsz q k, zpt q k, zkd q k, zpr q k, zfo q k, zfx q k, zby q k, zbs q k, zMtune g h, zMfrets g h, zMslack g h, zMweight g h, zMtuning g h, zMpitch g h, zMkind g h, zMprice g h, zMfixed g h, zMrow g h, zMtape g h] H := hP
  have hD : va_D (fun q : Nat => s.heap.size ≤ q) [zpi q k, ztp q k, zbk q k, zwl q k, zrw q k, ztu q k, zfr q k, zsl q k, zwe q k, ztn q k, zsz q k, zpt q k, zkd q k, zpr q k, zfo q k, zfx q k, zby q k, zbs q k, zMtune g h, zMfrets g h, zMslack g h, zMweight g h, zMtuning g h, zMpitch g h, zMkind g h, zMprice g h, zMfixed g h, zMrow g h, zMtape g h] := hD
  have hK : va_K (dC, dI) vwCl [(k 9, .int), (k 10, .int), (k 11, .int), (k 12, .int), (k 13, .int), (k 14, .int), (k 20, .int), (k 21, .int), (k 22, .int), (k 23, .int), (k 24, .int), (k 25, .int), (k 30, .int), (k 32, .int), (h 2, .int), (h 3, .int), (h 4, .int), (h 5, .int), (h 6, .int), (h 10, .int), (h 11, .int), (h 12, .int), (h 13, .int), (h 35, .int), (h 41, .int)] s := hK
  obtain rfl : r6 = (-1) := hw5
  refine lv_icmp_eq (tgt := 898) hx hb dL_law_772 (by decide) (fun _ => ?_) (fun c => absurd (by decide) c)
  exact law_end C0 hS hl
set_option maxHeartbeats 4000000 in
set_option maxRecDepth 100000 in
theorem law_23 {p : Program} {l : Launch} {e : Env} {s : State} {m : MethodId} {below : List Frame} {meth : Method} {c : Code} {b : Nat} {xs : Nat → Int32} (C0 : lw_At p s m meth c b 5 xs) {dC : Nat → ClassId} {dI : Nat → Nat → Nat} (q : Nat → Nat) (k : Nat → ClassId) (g : Nat → Nat) (h : Nat → ClassId) (hK : va_K (dC, dI) vwCl [(k 9, .int), (k 10, .int), (k 11, .int), (k 12, .int), (k 13, .int), (k 14, .int), (k 20, .int), (k 21, .int), (k 22, .int), (k 23, .int), (k 24, .int), (k 25, .int), (k 30, .int), (k 32, .int), (h 2, .int), (h 3, .int), (h 4, .int), (h 5, .int), (h 6, .int), (h 10, .int), (h 11, .int), (h 12, .int), (h 13, .int), (h 35, .int), (h 41, .int)] s) {H : Heap} {locs : List Loc} {ls : Array Slot} (hP : va_P (dC, dI) vwCl [zLF q k, zlu q k, zpi q k, ztp q k, zbk q k, zwl q k, zrw q k, ztu q k, zfr q k, zsl q k, zwe q k, ztn q k, zsz q k, zpt q k, zkd q k, zpr q k, zfo q k, zfx q k, zby q k, zbs q k, zM g h, zMtune g h, zMfrets g h, zMslack g h, zMweight g h, zMtuning g h, zMpitch g h, zMkind g h, zMprice g h, zMfixed g h, zMrow g h, zMtape g h] H) (hD : va_D (fun q : Nat => s.heap.size ≤ q) [zLF q k, zlu q k, zpi q k, ztp q k, zbk q k, zwl q k, zrw q k, ztu q k, zfr q k, zsl q k, zwe q k, ztn q k, zsz q k, zpt q k, zkd q k, zpr q k, zfo q k, zfx q k, zby q k, zbs q k, zM g h, zMtune g h, zMfrets g h, zMslack g h, zMweight g h, zMtuning g h, zMpitch g h, zMkind g h, zMprice g h, zMfixed g h, zMrow g h, zMtape g h]) (hS : va_S (fun q : Nat => s.heap.size ≤ q) s.heap H locs) (hl : lv_has ls 4 [(3, .int 0), (2, .ref (g 47)), (1, .ref (q 0)), (0, .ref b)]) : W p l e room_1 s m #[Value.ref b] below meth c H locs 70 271976 (lw_Z below #[Value.ref b] s) (F0 m 777 ls []) := by
  obtain ⟨hx, hb, hr, hml, hown, hts, hX, hbl, hlocks, hgv⟩ := id C0
  have hown : s.vm.findClass RL = some m.cls := hown
  have hA : ∀ q : Nat, s.heap.size ≤ q → (fun q : Nat => s.heap.size ≤ q) q := fun _ h => h
  have hbA : ¬ (fun q : Nat => s.heap.size ≤ q) b := Nat.not_le.mpr hbl
  have hta : ∀ w ∈ wsL_law, w.before #[Value.ref b] s = true := fun w h => hts w (wsL_law_in w h)
  have hnw : nw s := nw_of hts
  refine lv_aload_n hx hb dL_law_777 rfl (lv_at hl 2 rfl) ?_
  refine kVi (b := (q 0)) (n := 0) (As := []) (rest := []) ⟨hx, hb, hml, hown, hta⟩ hnw (x_choose l dC dI q k  H.size) cd_X10_choose iz_X10 ml_L_110 im_X10_choose se_X10_X10_choose (by decide +kernel) rfl (Nat.le_of_ble_eq_true rfl) (Nat.le_of_ble_eq_true rfl) rfl rfl (Nat.le_of_ble_eq_true rfl) (Nat.le_of_ble_eq_true rfl) hP hD hK hS hA [0, 2] [1, 3, 4, 5, 6, 7, 8, 9, 10, 11, 12, 13, 14, 15, 16, 17, 18, 19, 20, 21, 22, 23, 24, 25, 26, 27, 28, 29, 30, 31] [] rfl (wr := [zlu q k, ztp q k, zbk q k, zwl q k, zrw q k, ztu q k, zfr q k, zsl q k, zwe q k, ztn q k, zsz q k, zpt q k, zkd q k, zpr q k, zfo q k, zfx q k, zby q k, zbs q k, zM g h, zMtune g h, zMfrets g h, zMslack g h, zMweight g h, zMtuning g h, zMpitch g h, zMkind g h, zMprice g h, zMfixed g h, zMrow g h, zMtape g h]) rfl (by decide) (by decide) (by decide) rfl rfl 0 rfl hl.1 rfl (Nat.le_of_ble_eq_true rfl) dL_law_778 (fun r3 u1 H locs hw2 hP hD hK hS => ?_)
  have hP : va_P (dC, dI) vwCl [zlu q k, ztp q k, zbk q k, zwl q k, zrw q k, ztu q k, zfr q k, zsl q k, zwe q k, ztn q k, zsz q k, zpt q k, zkd q k, zpr q k, zfo q k, zfx q k, zby q k, zbs q k, zM g h, zMtune g h, zMfrets g h, zMslack g h, zMweight g h, zMtuning g h, zMpitch g h, zMkind g h, zMprice g h, zMfixed g h, zMrow g h, zMtape g h] H := hP
  have hD : va_D (fun q : Nat => s.heap.size ≤ q) [zlu q k, ztp q k, zbk q k, zwl q k, zrw q k, ztu q k, zfr q k, zsl q k, zwe q k, ztn q k, zsz q k, zpt q k, zkd q k, zpr q k, zfo q k, zfx q k, zby q k, zbs q k, zM g h, zMtune g h, zMfrets g h, zMslack g h, zMweight g h, zMtuning g h, zMpitch g h, zMkind g h, zMprice g h, zMfixed g h, zMrow g h, zMtape g h] := hD
  have hK : va_K (dC, dI) vwCl [(k 9, .int), (k 10, .int), (k 11, .int), (k 12, .int), (k 13, .int), (k 14, .int), (k 20, .int), (k 21, .int), (k 22, .int), (k 23, .int), (k 24, .int), (k 25, .int), (k 30, .int), (k 32, .int), (h 2, .int), (h 3, .int), (h 4, .int), (h 5, .int), (h 6, .int), (h 10, .int), (h 11, .int), (h 12, .int), (h 13, .int), (h 35, .int), (h 41, .int)] s := hK
  obtain rfl : r3 = (-3) := hw2
  refine lv_aload_n hx hb dL_law_781 rfl (lv_at hl 1 rfl) ?_
  refine kVi (b := (g 47)) (n := 0) (As := []) (rest := [.int (-3)]) ⟨hx, hb, hml, hown, hta⟩ hnw (y_choose l dC dI g h  H.size) cd_X11_choose iz_X11 ml_L_113 im_X11_choose se_X11_X11_choose (by decide +kernel) rfl (Nat.le_of_ble_eq_true rfl) (Nat.le_of_ble_eq_true rfl) rfl rfl (Nat.le_of_ble_eq_true rfl) (Nat.le_of_ble_eq_true rfl) hP hD hK hS hA [18] [0, 1, 2, 3, 4, 5, 6, 7, 8, 9, 10, 11, 12, 13, 14, 15, 16, 17, 19, 20, 21, 22, 23, 24, 25, 26, 27, 28, 29] [] rfl (wr := [zlu q k, ztp q k, zbk q k, zwl q k, zrw q k, ztu q k, zfr q k, zsl q k, zwe q k, ztn q k, zsz q k, zpt q k, zkd q k, zpr q k, zfo q k, zfx q k, zby q k, zbs q k, zMtune g h, zMfrets g h, zMslack g h, zMweight g h, zMtuning g h, zMpitch g h, zMkind g h, zMprice g h, zMfixed g h, zMrow g h, zMtape g h]) rfl (by decide) (by decide) (by decide) rfl rfl 0 rfl hl.1 rfl (Nat.le_of_ble_eq_true rfl) dL_law_782 (fun r6 u4 H locs hw5 hP hD hK hS => ?_)
  have hP : va_P (dC, dI) vwCl [zlu q k, ztp q k, zbk q k, zwl q k, zrw q k, ztu q k, zfr q k, zsl q k, zwe q k, ztn q k, zsz q k, zpt q k, zkd q k, zpr q k, zfo q k, zfx q k, zby q k, zbs q k, zMtune g h, zMfrets g h, zMslack g h, zMweight g h, zMtuning g h, zMpitch g h, zMkind g h, zMprice g h, zMfixed g h, zMrow g h, zMtape g h] H := hP
  have hD : va_D (fun q : Nat => s.heap.size ≤ q) [zlu q k, ztp q k, zbk q k, zwl q k, zrw q k, ztu q k, zfr q k, zsl q k, zwe q k, ztn q k, zsz q k, zpt q k, zkd q k, zpr q k, zfo q k, zfx q k, zby q k, zbs q k, zMtune g h, zMfrets g h, zMslack g h, zMweight g h, zMtuning g h, zMpitch g h, zMkind g h, zMprice g h, zMfixed g h, zMrow g h, zMtape g h] := hD
  have hK : va_K (dC, dI) vwCl [(k 9, .int), (k 10, .int), (k 11, .int), (k 12, .int), (k 13, .int), (k 14, .int), (k 20, .int), (k 21, .int), (k 22, .int), (k 23, .int), (k 24, .int), (k 25, .int), (k 30, .int), (k 32, .int), (h 2, .int), (h 3, .int), (h 4, .int), (h 5, .int), (h 6, .int), (h 10, .int), (h 11, .int), (h 12, .int), (h 13, .int), (h 35, .int), (h 41, .int)] s := hK
  obtain rfl : r6 = (-3) := hw5
  refine lv_icmp_eq (tgt := 898) hx hb dL_law_785 (by decide) (fun _ => ?_) (fun c => absurd (by decide) c)
  exact law_end C0 hS hl
set_option maxHeartbeats 4000000 in
set_option maxRecDepth 100000 in
theorem law_24 {p : Program} {l : Launch} {e : Env} {s : State} {m : MethodId} {below : List Frame} {meth : Method} {c : Code} {b : Nat} {xs : Nat → Int32} (C0 : lw_At p s m meth c b 5 xs) {dC : Nat → ClassId} {dI : Nat → Nat → Nat} (q : Nat → Nat) (k : Nat → ClassId) (g : Nat → Nat) (h : Nat → ClassId) (hK : va_K (dC, dI) vwCl [(k 9, .int), (k 10, .int), (k 11, .int), (k 12, .int), (k 13, .int), (k 14, .int), (k 20, .int), (k 21, .int), (k 22, .int), (k 23, .int), (k 24, .int), (k 25, .int), (k 30, .int), (k 32, .int), (h 2, .int), (h 3, .int), (h 4, .int), (h 5, .int), (h 6, .int), (h 10, .int), (h 11, .int), (h 12, .int), (h 13, .int), (h 35, .int), (h 41, .int)] s) {H : Heap} {locs : List Loc} {ls : Array Slot} (hP : va_P (dC, dI) vwCl [zLF q k, zlu q k, zpi q k, ztp q k, zbk q k, zwl q k, zrw q k, ztu q k, zfr q k, zsl q k, zwe q k, ztn q k, zsz q k, zpt q k, zkd q k, zpr q k, zfo q k, zfx q k, zby q k, zbs q k, zM g h, zMtune g h, zMfrets g h, zMslack g h, zMweight g h, zMtuning g h, zMpitch g h, zMkind g h, zMprice g h, zMfixed g h, zMrow g h, zMtape g h] H) (hD : va_D (fun q : Nat => s.heap.size ≤ q) [zLF q k, zlu q k, zpi q k, ztp q k, zbk q k, zwl q k, zrw q k, ztu q k, zfr q k, zsl q k, zwe q k, ztn q k, zsz q k, zpt q k, zkd q k, zpr q k, zfo q k, zfx q k, zby q k, zbs q k, zM g h, zMtune g h, zMfrets g h, zMslack g h, zMweight g h, zMtuning g h, zMpitch g h, zMkind g h, zMprice g h, zMfixed g h, zMrow g h, zMtape g h]) (hS : va_S (fun q : Nat => s.heap.size ≤ q) s.heap H locs) (hl : lv_has ls 4 [(3, .int 0), (2, .ref (g 47)), (1, .ref (q 0)), (0, .ref b)]) : W p l e room_1 s m #[Value.ref b] below meth c H locs 70 271976 (lw_Z below #[Value.ref b] s) (F0 m 790 ls []) := by
  obtain ⟨hx, hb, hr, hml, hown, hts, hX, hbl, hlocks, hgv⟩ := id C0
  have hown : s.vm.findClass RL = some m.cls := hown
  have hA : ∀ q : Nat, s.heap.size ≤ q → (fun q : Nat => s.heap.size ≤ q) q := fun _ h => h
  have hbA : ¬ (fun q : Nat => s.heap.size ≤ q) b := Nat.not_le.mpr hbl
  have hta : ∀ w ∈ wsL_law, w.before #[Value.ref b] s = true := fun w h => hts w (wsL_law_in w h)
  have hnw : nw s := nw_of hts
  refine lv_aload_n hx hb dL_law_790 rfl (lv_at hl 2 rfl) ?_
  refine lv_aload_n hx hb dL_law_791 rfl (lv_at hl 3 rfl) ?_
  refine lv_iload_n hx hb dL_law_792 rfl (lv_at hl 0 rfl) ?_
  refine lv_iconst (v := 1) hx hb dL_law_793 (by decide) ?_
  refine lv_iadd hx hb dL_law_794 ?_
  refine k_top (y := 1) (by decide) ?_
  refine va_sld hx hb hX hbl hbA hS (vin (by decide)) dL_law_795 ?_
  refine k_top (y := xs 1) rfl ?_
  refine kVi (b := (q 0)) (n := 1) (As := [.int (xs 1)]) (rest := []) ⟨hx, hb, hml, hown, hta⟩ hnw (x_feed l dC dI q k (xs 1)  H.size) cd_X10_feed iz_X10 ml_L_114 im_X10_feed se_X10_X10_feed (by decide +kernel) rfl (Nat.le_of_ble_eq_true rfl) (Nat.le_of_ble_eq_true rfl) rfl rfl (Nat.le_of_ble_eq_true rfl) (Nat.le_of_ble_eq_true rfl) hP hD hK hS hA [0, 3, 18] [1, 2, 4, 5, 6, 7, 8, 9, 10, 11, 12, 13, 14, 15, 16, 17, 19, 20, 21, 22, 23, 24, 25, 26, 27, 28, 29, 30, 31] [12] rfl (wr := [zlu q k, zpi q k, zbk q k, zwl q k, zrw q k, ztu q k, zfr q k, zsl q k, zwe q k, ztn q k, zsz q k, zpt q k, zkd q k, zpr q k, zfo q k, zfx q k, zbs q k, zM g h, zMtune g h, zMfrets g h, zMslack g h, zMweight g h, zMtuning g h, zMpitch g h, zMkind g h, zMprice g h, zMfixed g h, zMrow g h, zMtape g h]) rfl (by decide) (by decide) (by decide) rfl rfl 0 rfl hl.1 rfl (Nat.le_of_ble_eq_true rfl) dL_law_796 (fun r3 u1 H locs hw2 hP hD hK hS => ?_)
  have hP : va_P (dC, dI) vwCl [zlu q k, zpi q k, zbk q k, zwl q k, zrw q k, ztu q k, zfr q k, zsl q k, zwe q k, ztn q k, zsz q k, zpt q k, zkd q k, zpr q k, zfo q k, zfx q k, zbs q k, zM g h, zMtune g h, zMfrets g h, zMslack g h, zMweight g h, zMtuning g h, zMpitch g h, zMkind g h, zMprice g h, zMfixed g h, zMrow g h, zMtape g h] H := hP
  have hD : va_D (fun q : Nat => s.heap.size ≤ q) [zlu q k, zpi q k, zbk q k, zwl q k, zrw q k, ztu q k, zfr q k, zsl q k, zwe q k, ztn q k, zsz q k, zpt q k, zkd q k, zpr q k, zfo q k, zfx q k, zbs q k, zM g h, zMtune g h, zMfrets g h, zMslack g h, zMweight g h, zMtuning g h, zMpitch g h, zMkind g h, zMprice g h, zMfixed g h, zMrow g h, zMtape g h] := hD
  have hK : va_K (dC, dI) vwCl [(k 9, .int), (k 10, .int), (k 11, .int), (k 12, .int), (k 13, .int), (k 14, .int), (k 20, .int), (k 21, .int), (k 22, .int), (k 23, .int), (k 24, .int), (k 25, .int), (k 30, .int), (k 32, .int), (h 2, .int), (h 3, .int), (h 4, .int), (h 5, .int), (h 6, .int), (h 10, .int), (h 11, .int), (h 12, .int), (h 13, .int), (h 35, .int), (h 41, .int)] s := hK
  obtain rfl : r3 = sp_feed (xs 1) := hw2
  refine lv_aload_n hx hb dL_law_799 rfl (lv_at hl 1 rfl) ?_
  refine lv_aload_n hx hb dL_law_800 rfl (lv_at hl 3 rfl) ?_
  refine lv_iload_n hx hb dL_law_801 rfl (lv_at hl 0 rfl) ?_
  refine lv_iconst (v := 1) hx hb dL_law_802 (by decide) ?_
  refine lv_iadd hx hb dL_law_803 ?_
  refine k_top (y := 1) (by decide) ?_
  refine va_sld hx hb hX hbl hbA hS (vin (by decide)) dL_law_804 ?_
  refine k_top (y := xs 1) rfl ?_
  refine kVi (b := (g 47)) (n := 1) (As := [.int (xs 1)]) (rest := [.int (sp_feed (xs 1))]) ⟨hx, hb, hml, hown, hta⟩ hnw (y_feed l dC dI g h (xs 1)  H.size) cd_X11_feed iz_X11 ml_L_117 im_X11_feed se_X11_X11_feed (by decide +kernel) rfl (Nat.le_of_ble_eq_true rfl) (Nat.le_of_ble_eq_true rfl) rfl rfl (Nat.le_of_ble_eq_true rfl) (Nat.le_of_ble_eq_true rfl) hP hD hK hS hA [17, 28] [0, 1, 2, 3, 4, 5, 6, 7, 8, 9, 10, 11, 12, 13, 14, 15, 16, 18, 19, 20, 21, 22, 23, 24, 25, 26, 27] [24] rfl (wr := [zlu q k, zpi q k, zbk q k, zwl q k, zrw q k, ztu q k, zfr q k, zsl q k, zwe q k, ztn q k, zsz q k, zpt q k, zkd q k, zpr q k, zfo q k, zfx q k, zbs q k, zMtune g h, zMfrets g h, zMslack g h, zMweight g h, zMtuning g h, zMpitch g h, zMkind g h, zMprice g h, zMfixed g h, zMrow g h]) rfl (by decide) (by decide) (by decide) rfl rfl 0 rfl hl.1 rfl (Nat.le_of_ble_eq_true rfl) dL_law_805 (fun r6 u4 H locs hw5 hP hD hK hS => ?_)
  have hP : va_P (dC, dI) vwCl [zlu q k, zpi q k, zbk q k, zwl q k, zrw q k, ztu q k, zfr q k, zsl q k, zwe q k, ztn q k, zsz q k, zpt q k, zkd q k, zpr q k, zfo q k, zfx q k, zbs q k, zMtune g h, zMfrets g h, zMslack g h, zMweight g h, zMtuning g h, zMpitch g h, zMkind g h, zMprice g h, zMfixed g h, zMrow g h] H := hP
  have hD : va_D (fun q : Nat => s.heap.size ≤ q) [zlu q k, zpi q k, zbk q k, zwl q k, zrw q k, ztu q k, zfr q k, zsl q k, zwe q k, ztn q k, zsz q k, zpt q k, zkd q k, zpr q k, zfo q k, zfx q k, zbs q k, zMtune g h, zMfrets g h, zMslack g h, zMweight g h, zMtuning g h, zMpitch g h, zMkind g h, zMprice g h, zMfixed g h, zMrow g h] := hD
  have hK : va_K (dC, dI) vwCl [(k 9, .int), (k 10, .int), (k 11, .int), (k 12, .int), (k 13, .int), (k 14, .int), (k 20, .int), (k 21, .int), (k 22, .int), (k 23, .int), (k 24, .int), (k 25, .int), (k 30, .int), (k 32, .int), (h 2, .int), (h 3, .int), (h 4, .int), (h 5, .int), (h 6, .int), (h 10, .int), (h 11, .int), (h 12, .int), (h 13, .int), (h 35, .int), (h 41, .int)] s := hK
  obtain rfl : r6 = sp_feed (xs 1) := hw5
  refine lv_icmp_eq (tgt := 898) hx hb dL_law_808 (by decide) (fun _ => ?_) (fun c => absurd rfl c)
  exact law_end C0 hS hl
set_option maxHeartbeats 4000000 in
set_option maxRecDepth 100000 in
theorem law_25 {p : Program} {l : Launch} {e : Env} {s : State} {m : MethodId} {below : List Frame} {meth : Method} {c : Code} {b : Nat} {xs : Nat → Int32} (C0 : lw_At p s m meth c b 5 xs) {dC : Nat → ClassId} {dI : Nat → Nat → Nat} (q : Nat → Nat) (k : Nat → ClassId) (g : Nat → Nat) (h : Nat → ClassId) (hK : va_K (dC, dI) vwCl [(k 9, .int), (k 10, .int), (k 11, .int), (k 12, .int), (k 13, .int), (k 14, .int), (k 20, .int), (k 21, .int), (k 22, .int), (k 23, .int), (k 24, .int), (k 25, .int), (k 30, .int), (k 32, .int), (h 2, .int), (h 3, .int), (h 4, .int), (h 5, .int), (h 6, .int), (h 10, .int), (h 11, .int), (h 12, .int), (h 13, .int), (h 35, .int), (h 41, .int)] s) {H : Heap} {locs : List Loc} {ls : Array Slot} (hP : va_P (dC, dI) vwCl [zLF q k, zlu q k, zpi q k, ztp q k, zbk q k, zwl q k, zrw q k, ztu q k, zfr q k, zsl q k, zwe q k, ztn q k, zsz q k, zpt q k, zkd q k, zpr q k, zfo q k, zfx q k, zby q k, zbs q k, zM g h, zMtune g h, zMfrets g h, zMslack g h, zMweight g h, zMtuning g h, zMpitch g h, zMkind g h, zMprice g h, zMfixed g h, zMrow g h, zMtape g h] H) (hD : va_D (fun q : Nat => s.heap.size ≤ q) [zLF q k, zlu q k, zpi q k, ztp q k, zbk q k, zwl q k, zrw q k, ztu q k, zfr q k, zsl q k, zwe q k, ztn q k, zsz q k, zpt q k, zkd q k, zpr q k, zfo q k, zfx q k, zby q k, zbs q k, zM g h, zMtune g h, zMfrets g h, zMslack g h, zMweight g h, zMtuning g h, zMpitch g h, zMkind g h, zMprice g h, zMfixed g h, zMrow g h, zMtape g h]) (hS : va_S (fun q : Nat => s.heap.size ≤ q) s.heap H locs) (hl : lv_has ls 4 [(3, .int 0), (2, .ref (g 47)), (1, .ref (q 0)), (0, .ref b)]) : W p l e room_1 s m #[Value.ref b] below meth c H locs 70 271976 (lw_Z below #[Value.ref b] s) (F0 m 813 ls []) := by
  obtain ⟨hx, hb, hr, hml, hown, hts, hX, hbl, hlocks, hgv⟩ := id C0
  have hown : s.vm.findClass RL = some m.cls := hown
  have hA : ∀ q : Nat, s.heap.size ≤ q → (fun q : Nat => s.heap.size ≤ q) q := fun _ h => h
  have hbA : ¬ (fun q : Nat => s.heap.size ≤ q) b := Nat.not_le.mpr hbl
  have hta : ∀ w ∈ wsL_law, w.before #[Value.ref b] s = true := fun w h => hts w (wsL_law_in w h)
  have hnw : nw s := nw_of hts
  refine lv_aload_n hx hb dL_law_813 rfl (lv_at hl 2 rfl) ?_
  refine kVi (b := (q 0)) (n := 0) (As := []) (rest := []) ⟨hx, hb, hml, hown, hta⟩ hnw (x_wipe l dC dI q k  H.size) cd_X10_wipe iz_X10 ml_L_118 im_X10_wipe se_X10_X10_wipe (by decide +kernel) rfl (Nat.le_of_ble_eq_true rfl) (Nat.le_of_ble_eq_true rfl) rfl rfl (Nat.le_of_ble_eq_true rfl) (Nat.le_of_ble_eq_true rfl) hP hD hK hS hA [0, 3] [1, 2, 4, 5, 6, 7, 8, 9, 10, 11, 12, 13, 14, 15, 16, 17, 18, 19, 20, 21, 22, 23, 24, 25, 26, 27, 28, 29, 30, 31] [] rfl (wr := [zlu q k, zpi q k, zbk q k, zwl q k, zrw q k, ztu q k, zfr q k, zsl q k, zwe q k, ztn q k, zsz q k, zpt q k, zkd q k, zpr q k, zfo q k, zfx q k, zby q k, zbs q k, zM g h, zMtune g h, zMfrets g h, zMslack g h, zMweight g h, zMtuning g h, zMpitch g h, zMkind g h, zMprice g h, zMfixed g h, zMrow g h, zMtape g h]) rfl (by decide) (by decide) (by decide) rfl rfl 0 rfl hl.1 rfl (Nat.le_of_ble_eq_true rfl) dL_law_814 (fun r3 u1 H locs hw2 hP hD hK hS => ?_)
  have hP : va_P (dC, dI) vwCl [zlu q k, zpi q k, zbk q k, zwl q k, zrw q k, ztu q k, zfr q k, zsl q k, zwe q k, ztn q k, zsz q k, zpt q k, zkd q k, zpr q k, zfo q k, zfx q k, zby q k, zbs q k, zM g h, zMtune g h, zMfrets g h, zMslack g h, zMweight g h, zMtuning g h, zMpitch g h, zMkind g h, zMprice g h, zMfixed g h, zMrow g h, zMtape g h] H := hP
  have hD : va_D (fun q : Nat => s.heap.size ≤ q) [zlu q k, zpi q k, zbk q k, zwl q k, zrw q k, ztu q k, zfr q k, zsl q k, zwe q k, ztn q k, zsz q k, zpt q k, zkd q k, zpr q k, zfo q k, zfx q k, zby q k, zbs q k, zM g h, zMtune g h, zMfrets g h, zMslack g h, zMweight g h, zMtuning g h, zMpitch g h, zMkind g h, zMprice g h, zMfixed g h, zMrow g h, zMtape g h] := hD
  have hK : va_K (dC, dI) vwCl [(k 9, .int), (k 10, .int), (k 11, .int), (k 12, .int), (k 13, .int), (k 14, .int), (k 20, .int), (k 21, .int), (k 22, .int), (k 23, .int), (k 24, .int), (k 25, .int), (k 30, .int), (k 32, .int), (h 2, .int), (h 3, .int), (h 4, .int), (h 5, .int), (h 6, .int), (h 10, .int), (h 11, .int), (h 12, .int), (h 13, .int), (h 35, .int), (h 41, .int)] s := hK
  obtain rfl : r3 = 0 := hw2
  refine lv_aload_n hx hb dL_law_817 rfl (lv_at hl 1 rfl) ?_
  refine kVi (b := (g 47)) (n := 0) (As := []) (rest := [.int 0]) ⟨hx, hb, hml, hown, hta⟩ hnw (y_wipe l dC dI g h  H.size) cd_X11_wipe iz_X11 ml_L_121 im_X11_wipe se_X11_X11_wipe (by decide +kernel) rfl (Nat.le_of_ble_eq_true rfl) (Nat.le_of_ble_eq_true rfl) rfl rfl (Nat.le_of_ble_eq_true rfl) (Nat.le_of_ble_eq_true rfl) hP hD hK hS hA [18] [0, 1, 2, 3, 4, 5, 6, 7, 8, 9, 10, 11, 12, 13, 14, 15, 16, 17, 19, 20, 21, 22, 23, 24, 25, 26, 27, 28, 29] [] rfl (wr := [zlu q k, zpi q k, zbk q k, zwl q k, zrw q k, ztu q k, zfr q k, zsl q k, zwe q k, ztn q k, zsz q k, zpt q k, zkd q k, zpr q k, zfo q k, zfx q k, zby q k, zbs q k, zMtune g h, zMfrets g h, zMslack g h, zMweight g h, zMtuning g h, zMpitch g h, zMkind g h, zMprice g h, zMfixed g h, zMrow g h, zMtape g h]) rfl (by decide) (by decide) (by decide) rfl rfl 0 rfl hl.1 rfl (Nat.le_of_ble_eq_true rfl) dL_law_818 (fun r6 u4 H locs hw5 hP hD hK hS => ?_)
  have hP : va_P (dC, dI) vwCl [zlu q k, zpi q k, zbk q k, zwl q k, zrw q k, ztu q k, zfr q k, zsl q k, zwe q k, ztn q k, zsz q k, zpt q k, zkd q k, zpr q k, zfo q k, zfx q k, zby q k, zbs q k, zMtune g h, zMfrets g h, zMslack g h, zMweight g h, zMtuning g h, zMpitch g h, zMkind g h, zMprice g h, zMfixed g h, zMrow g h, zMtape g h] H := hP
  have hD : va_D (fun q : Nat => s.heap.size ≤ q) [zlu q k, zpi q k, zbk q k, zwl q k, zrw q k, ztu q k, zfr q k, zsl q k, zwe q k, ztn q k, zsz q k, zpt q k, zkd q k, zpr q k, zfo q k, zfx q k, zby q k, zbs q k, zMtune g h, zMfrets g h, zMslack g h, zMweight g h, zMtuning g h, zMpitch g h, zMkind g h, zMprice g h, zMfixed g h, zMrow g h, zMtape g h] := hD
  have hK : va_K (dC, dI) vwCl [(k 9, .int), (k 10, .int), (k 11, .int), (k 12, .int), (k 13, .int), (k 14, .int), (k 20, .int), (k 21, .int), (k 22, .int), (k 23, .int), (k 24, .int), (k 25, .int), (k 30, .int), (k 32, .int), (h 2, .int), (h 3, .int), (h 4, .int), (h 5, .int), (h 6, .int), (h 10, .int), (h 11, .int), (h 12, .int), (h 13, .int), (h 35, .int), (h 41, .int)] s := hK
  obtain rfl : r6 = 0 := hw5
  refine lv_icmp_eq (tgt := 898) hx hb dL_law_821 (by decide) (fun _ => ?_) (fun c => absurd (by decide) c)
  exact law_end C0 hS hl
set_option maxHeartbeats 4000000 in
set_option maxRecDepth 100000 in
theorem law_26 {p : Program} {l : Launch} {e : Env} {s : State} {m : MethodId} {below : List Frame} {meth : Method} {c : Code} {b : Nat} {xs : Nat → Int32} (C0 : lw_At p s m meth c b 5 xs) {dC : Nat → ClassId} {dI : Nat → Nat → Nat} (q : Nat → Nat) (k : Nat → ClassId) (g : Nat → Nat) (h : Nat → ClassId) (hK : va_K (dC, dI) vwCl [(k 9, .int), (k 10, .int), (k 11, .int), (k 12, .int), (k 13, .int), (k 14, .int), (k 20, .int), (k 21, .int), (k 22, .int), (k 23, .int), (k 24, .int), (k 25, .int), (k 30, .int), (k 32, .int), (h 2, .int), (h 3, .int), (h 4, .int), (h 5, .int), (h 6, .int), (h 10, .int), (h 11, .int), (h 12, .int), (h 13, .int), (h 35, .int), (h 41, .int)] s) {H : Heap} {locs : List Loc} {ls : Array Slot} (hP : va_P (dC, dI) vwCl [zLF q k, zlu q k, zpi q k, ztp q k, zbk q k, zwl q k, zrw q k, ztu q k, zfr q k, zsl q k, zwe q k, ztn q k, zsz q k, zpt q k, zkd q k, zpr q k, zfo q k, zfx q k, zby q k, zbs q k, zM g h, zMtune g h, zMfrets g h, zMslack g h, zMweight g h, zMtuning g h, zMpitch g h, zMkind g h, zMprice g h, zMfixed g h, zMrow g h, zMtape g h] H) (hD : va_D (fun q : Nat => s.heap.size ≤ q) [zLF q k, zlu q k, zpi q k, ztp q k, zbk q k, zwl q k, zrw q k, ztu q k, zfr q k, zsl q k, zwe q k, ztn q k, zsz q k, zpt q k, zkd q k, zpr q k, zfo q k, zfx q k, zby q k, zbs q k, zM g h, zMtune g h, zMfrets g h, zMslack g h, zMweight g h, zMtuning g h, zMpitch g h, zMkind g h, zMprice g h, zMfixed g h, zMrow g h, zMtape g h]) (hS : va_S (fun q : Nat => s.heap.size ≤ q) s.heap H locs) (hl : lv_has ls 4 [(3, .int 0), (2, .ref (g 47)), (1, .ref (q 0)), (0, .ref b)]) : W p l e room_1 s m #[Value.ref b] below meth c H locs 70 271976 (lw_Z below #[Value.ref b] s) (F0 m 826 ls []) := by
  obtain ⟨hx, hb, hr, hml, hown, hts, hX, hbl, hlocks, hgv⟩ := id C0
  have hown : s.vm.findClass RL = some m.cls := hown
  have hA : ∀ q : Nat, s.heap.size ≤ q → (fun q : Nat => s.heap.size ≤ q) q := fun _ h => h
  have hbA : ¬ (fun q : Nat => s.heap.size ≤ q) b := Nat.not_le.mpr hbl
  have hta : ∀ w ∈ wsL_law, w.before #[Value.ref b] s = true := fun w h => hts w (wsL_law_in w h)
  have hnw : nw s := nw_of hts
  refine lv_aload_n hx hb dL_law_826 rfl (lv_at hl 2 rfl) ?_
  refine lv_aload_n hx hb dL_law_827 rfl (lv_at hl 3 rfl) ?_
  refine lv_iload_n hx hb dL_law_828 rfl (lv_at hl 0 rfl) ?_
  refine lv_iconst (v := 1) hx hb dL_law_829 (by decide) ?_
  refine lv_iadd hx hb dL_law_830 ?_
  refine k_top (y := 1) (by decide) ?_
  refine va_sld hx hb hX hbl hbA hS (vin (by decide)) dL_law_831 ?_
  refine k_top (y := xs 1) rfl ?_
  refine kVi (b := (q 0)) (n := 1) (As := [.int (xs 1)]) (rest := []) ⟨hx, hb, hml, hown, hta⟩ hnw (x_tape l dC dI q k (xs 1)  H.size) cd_X10_tape iz_X10 ml_L_122 im_X10_tape se_X10_X10_tape (by decide +kernel) rfl (Nat.le_of_ble_eq_true rfl) (Nat.le_of_ble_eq_true rfl) rfl rfl (Nat.le_of_ble_eq_true rfl) (Nat.le_of_ble_eq_true rfl) hP hD hK hS hA [0, 3] [1, 2, 4, 5, 6, 7, 8, 9, 10, 11, 12, 13, 14, 15, 16, 17, 18, 19, 20, 21, 22, 23, 24, 25, 26, 27, 28, 29, 30, 31] [] rfl (wr := [zlu q k, zpi q k, zbk q k, zwl q k, zrw q k, ztu q k, zfr q k, zsl q k, zwe q k, ztn q k, zsz q k, zpt q k, zkd q k, zpr q k, zfo q k, zfx q k, zby q k, zbs q k, zM g h, zMtune g h, zMfrets g h, zMslack g h, zMweight g h, zMtuning g h, zMpitch g h, zMkind g h, zMprice g h, zMfixed g h, zMrow g h, zMtape g h]) rfl (by decide) (by decide) (by decide) rfl rfl 0 rfl hl.1 rfl (Nat.le_of_ble_eq_true rfl) dL_law_832 (fun r3 u1 H locs hw2 hP hD hK hS => ?_)
  have hP : va_P (dC, dI) vwCl [zlu q k, zpi q k, zbk q k, zwl q k, zrw q k, ztu q k, zfr q k, zsl q k, zwe q k, ztn q k, zsz q k, zpt q k, zkd q k, zpr q k, zfo q k, zfx q k, zby q k, zbs q k, zM g h, zMtune g h, zMfrets g h, zMslack g h, zMweight g h, zMtuning g h, zMpitch g h, zMkind g h, zMprice g h, zMfixed g h, zMrow g h, zMtape g h] H := hP
  have hD : va_D (fun q : Nat => s.heap.size ≤ q) [zlu q k, zpi q k, zbk q k, zwl q k, zrw q k, ztu q k, zfr q k, zsl q k, zwe q k, ztn q k, zsz q k, zpt q k, zkd q k, zpr q k, zfo q k, zfx q k, zby q k, zbs q k, zM g h, zMtune g h, zMfrets g h, zMslack g h, zMweight g h, zMtuning g h, zMpitch g h, zMkind g h, zMprice g h, zMfixed g h, zMrow g h, zMtape g h] := hD
  have hK : va_K (dC, dI) vwCl [(k 9, .int), (k 10, .int), (k 11, .int), (k 12, .int), (k 13, .int), (k 14, .int), (k 20, .int), (k 21, .int), (k 22, .int), (k 23, .int), (k 24, .int), (k 25, .int), (k 30, .int), (k 32, .int), (h 2, .int), (h 3, .int), (h 4, .int), (h 5, .int), (h 6, .int), (h 10, .int), (h 11, .int), (h 12, .int), (h 13, .int), (h 35, .int), (h 41, .int)] s := hK
  obtain rfl : r3 = (-1) := hw2
  refine lv_aload_n hx hb dL_law_835 rfl (lv_at hl 1 rfl) ?_
  refine lv_aload_n hx hb dL_law_836 rfl (lv_at hl 3 rfl) ?_
  refine lv_iload_n hx hb dL_law_837 rfl (lv_at hl 0 rfl) ?_
  refine lv_iconst (v := 1) hx hb dL_law_838 (by decide) ?_
  refine lv_iadd hx hb dL_law_839 ?_
  refine k_top (y := 1) (by decide) ?_
  refine va_sld hx hb hX hbl hbA hS (vin (by decide)) dL_law_840 ?_
  refine k_top (y := xs 1) rfl ?_
  refine kVi (b := (g 47)) (n := 1) (As := [.int (xs 1)]) (rest := [.int (-1)]) ⟨hx, hb, hml, hown, hta⟩ hnw (y_tape l dC dI g h (xs 1)  H.size) cd_X11_tape iz_X11 ml_L_125 im_X11_tape se_X11_X11_tape (by decide +kernel) rfl (Nat.le_of_ble_eq_true rfl) (Nat.le_of_ble_eq_true rfl) rfl rfl (Nat.le_of_ble_eq_true rfl) (Nat.le_of_ble_eq_true rfl) hP hD hK hS hA [18] [0, 1, 2, 3, 4, 5, 6, 7, 8, 9, 10, 11, 12, 13, 14, 15, 16, 17, 19, 20, 21, 22, 23, 24, 25, 26, 27, 28, 29] [] rfl (wr := [zlu q k, zpi q k, zbk q k, zwl q k, zrw q k, ztu q k, zfr q k, zsl q k, zwe q k, ztn q k, zsz q k, zpt q k, zkd q k, zpr q k, zfo q k, zfx q k, zby q k, zbs q k, zMtune g h, zMfrets g h, zMslack g h, zMweight g h, zMtuning g h, zMpitch g h, zMkind g h, zMprice g h, zMfixed g h, zMrow g h, zMtape g h]) rfl (by decide) (by decide) (by decide) rfl rfl 0 rfl hl.1 rfl (Nat.le_of_ble_eq_true rfl) dL_law_841 (fun r6 u4 H locs hw5 hP hD hK hS => ?_)
  have hP : va_P (dC, dI) vwCl [zlu q k, zpi q k, zbk q k, zwl q k, zrw q k, ztu q k, zfr q k, zsl q k, zwe q k, ztn q k, zsz q k, zpt q k, zkd q k, zpr q k, zfo q k, zfx q k, zby q k, zbs q k, zMtune g h, zMfrets g h, zMslack g h, zMweight g h, zMtuning g h, zMpitch g h, zMkind g h, zMprice g h, zMfixed g h, zMrow g h, zMtape g h] H := hP
  have hD : va_D (fun q : Nat => s.heap.size ≤ q) [zlu q k, zpi q k, zbk q k, zwl q k, zrw q k, ztu q k, zfr q k, zsl q k, zwe q k, ztn q k, zsz q k, zpt q k, zkd q k, zpr q k, zfo q k, zfx q k, zby q k, zbs q k, zMtune g h, zMfrets g h, zMslack g h, zMweight g h, zMtuning g h, zMpitch g h, zMkind g h, zMprice g h, zMfixed g h, zMrow g h, zMtape g h] := hD
  have hK : va_K (dC, dI) vwCl [(k 9, .int), (k 10, .int), (k 11, .int), (k 12, .int), (k 13, .int), (k 14, .int), (k 20, .int), (k 21, .int), (k 22, .int), (k 23, .int), (k 24, .int), (k 25, .int), (k 30, .int), (k 32, .int), (h 2, .int), (h 3, .int), (h 4, .int), (h 5, .int), (h 6, .int), (h 10, .int), (h 11, .int), (h 12, .int), (h 13, .int), (h 35, .int), (h 41, .int)] s := hK
  obtain rfl : r6 = (-1) := hw5
  refine lv_icmp_eq (tgt := 898) hx hb dL_law_844 (by decide) (fun _ => ?_) (fun c => absurd (by decide) c)
  exact law_end C0 hS hl
set_option maxHeartbeats 4000000 in
set_option maxRecDepth 100000 in
theorem law_27 {p : Program} {l : Launch} {e : Env} {s : State} {m : MethodId} {below : List Frame} {meth : Method} {c : Code} {b : Nat} {xs : Nat → Int32} (C0 : lw_At p s m meth c b 5 xs) {dC : Nat → ClassId} {dI : Nat → Nat → Nat} (q : Nat → Nat) (k : Nat → ClassId) (g : Nat → Nat) (h : Nat → ClassId) (hK : va_K (dC, dI) vwCl [(k 9, .int), (k 10, .int), (k 11, .int), (k 12, .int), (k 13, .int), (k 14, .int), (k 20, .int), (k 21, .int), (k 22, .int), (k 23, .int), (k 24, .int), (k 25, .int), (k 30, .int), (k 32, .int), (h 2, .int), (h 3, .int), (h 4, .int), (h 5, .int), (h 6, .int), (h 10, .int), (h 11, .int), (h 12, .int), (h 13, .int), (h 35, .int), (h 41, .int)] s) {H : Heap} {locs : List Loc} {ls : Array Slot} (hP : va_P (dC, dI) vwCl [zLF q k, zlu q k, zpi q k, ztp q k, zbk q k, zwl q k, zrw q k, ztu q k, zfr q k, zsl q k, zwe q k, ztn q k, zsz q k, zpt q k, zkd q k, zpr q k, zfo q k, zfx q k, zby q k, zbs q k, zM g h, zMtune g h, zMfrets g h, zMslack g h, zMweight g h, zMtuning g h, zMpitch g h, zMkind g h, zMprice g h, zMfixed g h, zMrow g h, zMtape g h] H) (hD : va_D (fun q : Nat => s.heap.size ≤ q) [zLF q k, zlu q k, zpi q k, ztp q k, zbk q k, zwl q k, zrw q k, ztu q k, zfr q k, zsl q k, zwe q k, ztn q k, zsz q k, zpt q k, zkd q k, zpr q k, zfo q k, zfx q k, zby q k, zbs q k, zM g h, zMtune g h, zMfrets g h, zMslack g h, zMweight g h, zMtuning g h, zMpitch g h, zMkind g h, zMprice g h, zMfixed g h, zMrow g h, zMtape g h]) (hS : va_S (fun q : Nat => s.heap.size ≤ q) s.heap H locs) (hl : lv_has ls 4 [(3, .int 0), (2, .ref (g 47)), (1, .ref (q 0)), (0, .ref b)]) : W p l e room_1 s m #[Value.ref b] below meth c H locs 70 271976 (lw_Z below #[Value.ref b] s) (F0 m 849 ls []) := by
  obtain ⟨hx, hb, hr, hml, hown, hts, hX, hbl, hlocks, hgv⟩ := id C0
  have hown : s.vm.findClass RL = some m.cls := hown
  have hA : ∀ q : Nat, s.heap.size ≤ q → (fun q : Nat => s.heap.size ≤ q) q := fun _ h => h
  have hbA : ¬ (fun q : Nat => s.heap.size ≤ q) b := Nat.not_le.mpr hbl
  have hta : ∀ w ∈ wsL_law, w.before #[Value.ref b] s = true := fun w h => hts w (wsL_law_in w h)
  have hnw : nw s := nw_of hts
  refine lv_aload_n hx hb dL_law_849 rfl (lv_at hl 2 rfl) ?_
  refine kVi (b := (q 0)) (n := 0) (As := []) (rest := []) ⟨hx, hb, hml, hown, hta⟩ hnw (x_write l dC dI q k  H.size) cd_X10_write iz_X10 ml_L_126 im_X10_write se_X10_X10_write (by decide +kernel) rfl (Nat.le_of_ble_eq_true rfl) (Nat.le_of_ble_eq_true rfl) rfl rfl (Nat.le_of_ble_eq_true rfl) (Nat.le_of_ble_eq_true rfl) hP hD hK hS hA [0, 5] [1, 2, 3, 4, 6, 7, 8, 9, 10, 11, 12, 13, 14, 15, 16, 17, 18, 19, 20, 21, 22, 23, 24, 25, 26, 27, 28, 29, 30, 31] [] rfl (wr := [zlu q k, zpi q k, ztp q k, zbk q k, zrw q k, ztu q k, zfr q k, zsl q k, zwe q k, ztn q k, zsz q k, zpt q k, zkd q k, zpr q k, zfo q k, zfx q k, zby q k, zbs q k, zM g h, zMtune g h, zMfrets g h, zMslack g h, zMweight g h, zMtuning g h, zMpitch g h, zMkind g h, zMprice g h, zMfixed g h, zMrow g h, zMtape g h]) rfl (by decide) (by decide) (by decide) rfl rfl 0 rfl hl.1 rfl (Nat.le_of_ble_eq_true rfl) dL_law_850 (fun r3 u1 H locs hw2 hP hD hK hS => ?_)
  have hP : va_P (dC, dI) vwCl [zlu q k, zpi q k, ztp q k, zbk q k, zrw q k, ztu q k, zfr q k, zsl q k, zwe q k, ztn q k, zsz q k, zpt q k, zkd q k, zpr q k, zfo q k, zfx q k, zby q k, zbs q k, zM g h, zMtune g h, zMfrets g h, zMslack g h, zMweight g h, zMtuning g h, zMpitch g h, zMkind g h, zMprice g h, zMfixed g h, zMrow g h, zMtape g h] H := hP
  have hD : va_D (fun q : Nat => s.heap.size ≤ q) [zlu q k, zpi q k, ztp q k, zbk q k, zrw q k, ztu q k, zfr q k, zsl q k, zwe q k, ztn q k, zsz q k, zpt q k, zkd q k, zpr q k, zfo q k, zfx q k, zby q k, zbs q k, zM g h, zMtune g h, zMfrets g h, zMslack g h, zMweight g h, zMtuning g h, zMpitch g h, zMkind g h, zMprice g h, zMfixed g h, zMrow g h, zMtape g h] := hD
  have hK : va_K (dC, dI) vwCl [(k 9, .int), (k 10, .int), (k 11, .int), (k 12, .int), (k 13, .int), (k 14, .int), (k 20, .int), (k 21, .int), (k 22, .int), (k 23, .int), (k 24, .int), (k 25, .int), (k 30, .int), (k 32, .int), (h 2, .int), (h 3, .int), (h 4, .int), (h 5, .int), (h 6, .int), (h 10, .int), (h 11, .int), (h 12, .int), (h 13, .int), (h 35, .int), (h 41, .int)] s := hK
  obtain rfl : r3 = (-3) := hw2
  refine lv_aload_n hx hb dL_law_853 rfl (lv_at hl 1 rfl) ?_
  refine kVi (b := (g 47)) (n := 0) (As := []) (rest := [.int (-3)]) ⟨hx, hb, hml, hown, hta⟩ hnw (y_write l dC dI g h  H.size) cd_X11_write iz_X11 ml_L_129 im_X11_write se_X11_X11_write (by decide +kernel) rfl (Nat.le_of_ble_eq_true rfl) (Nat.le_of_ble_eq_true rfl) rfl rfl (Nat.le_of_ble_eq_true rfl) (Nat.le_of_ble_eq_true rfl) hP hD hK hS hA [18] [0, 1, 2, 3, 4, 5, 6, 7, 8, 9, 10, 11, 12, 13, 14, 15, 16, 17, 19, 20, 21, 22, 23, 24, 25, 26, 27, 28, 29] [] rfl (wr := [zlu q k, zpi q k, ztp q k, zbk q k, zrw q k, ztu q k, zfr q k, zsl q k, zwe q k, ztn q k, zsz q k, zpt q k, zkd q k, zpr q k, zfo q k, zfx q k, zby q k, zbs q k, zMtune g h, zMfrets g h, zMslack g h, zMweight g h, zMtuning g h, zMpitch g h, zMkind g h, zMprice g h, zMfixed g h, zMrow g h, zMtape g h]) rfl (by decide) (by decide) (by decide) rfl rfl 0 rfl hl.1 rfl (Nat.le_of_ble_eq_true rfl) dL_law_854 (fun r6 u4 H locs hw5 hP hD hK hS => ?_)
  have hP : va_P (dC, dI) vwCl [zlu q k, zpi q k, ztp q k, zbk q k, zrw q k, ztu q k, zfr q k, zsl q k, zwe q k, ztn q k, zsz q k, zpt q k, zkd q k, zpr q k, zfo q k, zfx q k, zby q k, zbs q k, zMtune g h, zMfrets g h, zMslack g h, zMweight g h, zMtuning g h, zMpitch g h, zMkind g h, zMprice g h, zMfixed g h, zMrow g h, zMtape g h] H := hP
  have hD : va_D (fun q : Nat => s.heap.size ≤ q) [zlu q k, zpi q k, ztp q k, zbk q k, zrw q k, ztu q k, zfr q k, zsl q k, zwe q k, ztn q k, zsz q k, zpt q k, zkd q k, zpr q k, zfo q k, zfx q k, zby q k, zbs q k, zMtune g h, zMfrets g h, zMslack g h, zMweight g h, zMtuning g h, zMpitch g h, zMkind g h, zMprice g h, zMfixed g h, zMrow g h, zMtape g h] := hD
  have hK : va_K (dC, dI) vwCl [(k 9, .int), (k 10, .int), (k 11, .int), (k 12, .int), (k 13, .int), (k 14, .int), (k 20, .int), (k 21, .int), (k 22, .int), (k 23, .int), (k 24, .int), (k 25, .int), (k 30, .int), (k 32, .int), (h 2, .int), (h 3, .int), (h 4, .int), (h 5, .int), (h 6, .int), (h 10, .int), (h 11, .int), (h 12, .int), (h 13, .int), (h 35, .int), (h 41, .int)] s := hK
  obtain rfl : r6 = (-3) := hw5
  refine lv_icmp_eq (tgt := 898) hx hb dL_law_857 (by decide) (fun _ => ?_) (fun c => absurd (by decide) c)
  exact law_end C0 hS hl
set_option maxHeartbeats 4000000 in
set_option maxRecDepth 100000 in
theorem law_28 {p : Program} {l : Launch} {e : Env} {s : State} {m : MethodId} {below : List Frame} {meth : Method} {c : Code} {b : Nat} {xs : Nat → Int32} (C0 : lw_At p s m meth c b 5 xs) {dC : Nat → ClassId} {dI : Nat → Nat → Nat} (q : Nat → Nat) (k : Nat → ClassId) (g : Nat → Nat) (h : Nat → ClassId) (hK : va_K (dC, dI) vwCl [(k 9, .int), (k 10, .int), (k 11, .int), (k 12, .int), (k 13, .int), (k 14, .int), (k 20, .int), (k 21, .int), (k 22, .int), (k 23, .int), (k 24, .int), (k 25, .int), (k 30, .int), (k 32, .int), (h 2, .int), (h 3, .int), (h 4, .int), (h 5, .int), (h 6, .int), (h 10, .int), (h 11, .int), (h 12, .int), (h 13, .int), (h 35, .int), (h 41, .int)] s) {H : Heap} {locs : List Loc} {ls : Array Slot} (hP : va_P (dC, dI) vwCl [zLF q k, zlu q k, zpi q k, ztp q k, zbk q k, zwl q k, zrw q k, ztu q k, zfr q k, zsl q k, zwe q k, ztn q k, zsz q k, zpt q k, zkd q k, zpr q k, zfo q k, zfx q k, zby q k, zbs q k, zM g h, zMtune g h, zMfrets g h, zMslack g h, zMweight g h, zMtuning g h, zMpitch g h, zMkind g h, zMprice g h, zMfixed g h, zMrow g h, zMtape g h] H) (hD : va_D (fun q : Nat => s.heap.size ≤ q) [zLF q k, zlu q k, zpi q k, ztp q k, zbk q k, zwl q k, zrw q k, ztu q k, zfr q k, zsl q k, zwe q k, ztn q k, zsz q k, zpt q k, zkd q k, zpr q k, zfo q k, zfx q k, zby q k, zbs q k, zM g h, zMtune g h, zMfrets g h, zMslack g h, zMweight g h, zMtuning g h, zMpitch g h, zMkind g h, zMprice g h, zMfixed g h, zMrow g h, zMtape g h]) (hS : va_S (fun q : Nat => s.heap.size ≤ q) s.heap H locs) (hl : lv_has ls 4 [(3, .int 0), (2, .ref (g 47)), (1, .ref (q 0)), (0, .ref b)]) : W p l e room_1 s m #[Value.ref b] below meth c H locs 70 271976 (lw_Z below #[Value.ref b] s) (F0 m 862 ls []) := by
  obtain ⟨hx, hb, hr, hml, hown, hts, hX, hbl, hlocks, hgv⟩ := id C0
  have hown : s.vm.findClass RL = some m.cls := hown
  have hA : ∀ q : Nat, s.heap.size ≤ q → (fun q : Nat => s.heap.size ≤ q) q := fun _ h => h
  have hbA : ¬ (fun q : Nat => s.heap.size ≤ q) b := Nat.not_le.mpr hbl
  have hta : ∀ w ∈ wsL_law, w.before #[Value.ref b] s = true := fun w h => hts w (wsL_law_in w h)
  have hnw : nw s := nw_of hts
  refine lv_aload_n hx hb dL_law_862 rfl (lv_at hl 2 rfl) ?_
  refine kVi (b := (q 0)) (n := 0) (As := []) (rest := []) ⟨hx, hb, hml, hown, hta⟩ hnw (x_read l dC dI q k  H.size) cd_X10_read iz_X10 ml_L_130 im_X10_read se_X10_X10_read (by decide +kernel) rfl (Nat.le_of_ble_eq_true rfl) (Nat.le_of_ble_eq_true rfl) rfl rfl (Nat.le_of_ble_eq_true rfl) (Nat.le_of_ble_eq_true rfl) hP hD hK hS hA [0, 1] [2, 3, 4, 5, 6, 7, 8, 9, 10, 11, 12, 13, 14, 15, 16, 17, 18, 19, 20, 21, 22, 23, 24, 25, 26, 27, 28, 29, 30, 31] [] rfl (wr := [zpi q k, ztp q k, zbk q k, zwl q k, zrw q k, ztu q k, zfr q k, zsl q k, zwe q k, ztn q k, zsz q k, zpt q k, zkd q k, zpr q k, zfo q k, zfx q k, zby q k, zbs q k, zM g h, zMtune g h, zMfrets g h, zMslack g h, zMweight g h, zMtuning g h, zMpitch g h, zMkind g h, zMprice g h, zMfixed g h, zMrow g h, zMtape g h]) rfl (by decide) (by decide) (by decide) rfl rfl 0 rfl hl.1 rfl (Nat.le_of_ble_eq_true rfl) dL_law_863 (fun r3 u1 H locs hw2 hP hD hK hS => ?_)
  have hP : va_P (dC, dI) vwCl [zpi q k, ztp q k, zbk q k, zwl q k, zrw q k, ztu q k, zfr q k, zsl q k, zwe q k, ztn q k, zsz q k, zpt q k, zkd q k, zpr q k, zfo q k, zfx q k, zby q k, zbs q k, zM g h, zMtune g h, zMfrets g h, zMslack g h, zMweight g h, zMtuning g h, zMpitch g h, zMkind g h, zMprice g h, zMfixed g h, zMrow g h, zMtape g h] H := hP
  have hD : va_D (fun q : Nat => s.heap.size ≤ q) [zpi q k, ztp q k, zbk q k, zwl q k, zrw q k, ztu q k, zfr q k, zsl q k, zwe q k, ztn q k, zsz q k, zpt q k, zkd q k, zpr q k, zfo q k, zfx q k, zby q k, zbs q k, zM g h, zMtune g h, zMfrets g h, zMslack g h, zMweight g h, zMtuning g h, zMpitch g h, zMkind g h, zMprice g h, zMfixed g h, zMrow g h, zMtape g h] := hD
  have hK : va_K (dC, dI) vwCl [(k 9, .int), (k 10, .int), (k 11, .int), (k 12, .int), (k 13, .int), (k 14, .int), (k 20, .int), (k 21, .int), (k 22, .int), (k 23, .int), (k 24, .int), (k 25, .int), (k 30, .int), (k 32, .int), (h 2, .int), (h 3, .int), (h 4, .int), (h 5, .int), (h 6, .int), (h 10, .int), (h 11, .int), (h 12, .int), (h 13, .int), (h 35, .int), (h 41, .int)] s := hK
  obtain rfl : r3 = (-3) := hw2
  refine lv_aload_n hx hb dL_law_866 rfl (lv_at hl 1 rfl) ?_
  refine kVi (b := (g 47)) (n := 0) (As := []) (rest := [.int (-3)]) ⟨hx, hb, hml, hown, hta⟩ hnw (y_read l dC dI g h  H.size) cd_X11_read iz_X11 ml_L_133 im_X11_read se_X11_X11_read (by decide +kernel) rfl (Nat.le_of_ble_eq_true rfl) (Nat.le_of_ble_eq_true rfl) rfl rfl (Nat.le_of_ble_eq_true rfl) (Nat.le_of_ble_eq_true rfl) hP hD hK hS hA [18] [0, 1, 2, 3, 4, 5, 6, 7, 8, 9, 10, 11, 12, 13, 14, 15, 16, 17, 19, 20, 21, 22, 23, 24, 25, 26, 27, 28, 29] [] rfl (wr := [zpi q k, ztp q k, zbk q k, zwl q k, zrw q k, ztu q k, zfr q k, zsl q k, zwe q k, ztn q k, zsz q k, zpt q k, zkd q k, zpr q k, zfo q k, zfx q k, zby q k, zbs q k, zMtune g h, zMfrets g h, zMslack g h, zMweight g h, zMtuning g h, zMpitch g h, zMkind g h, zMprice g h, zMfixed g h, zMrow g h, zMtape g h]) rfl (by decide) (by decide) (by decide) rfl rfl 0 rfl hl.1 rfl (Nat.le_of_ble_eq_true rfl) dL_law_867 (fun r6 u4 H locs hw5 hP hD hK hS => ?_)
  have hP : va_P (dC, dI) vwCl [zpi q k, ztp q k, zbk q k, zwl q k, zrw q k, ztu q k, zfr q k, zsl q k, zwe q k, ztn q k, zsz q k, zpt q k, zkd q k, zpr q k, zfo q k, zfx q k, zby q k, zbs q k, zMtune g h, zMfrets g h, zMslack g h, zMweight g h, zMtuning g h, zMpitch g h, zMkind g h, zMprice g h, zMfixed g h, zMrow g h, zMtape g h] H := hP
  have hD : va_D (fun q : Nat => s.heap.size ≤ q) [zpi q k, ztp q k, zbk q k, zwl q k, zrw q k, ztu q k, zfr q k, zsl q k, zwe q k, ztn q k, zsz q k, zpt q k, zkd q k, zpr q k, zfo q k, zfx q k, zby q k, zbs q k, zMtune g h, zMfrets g h, zMslack g h, zMweight g h, zMtuning g h, zMpitch g h, zMkind g h, zMprice g h, zMfixed g h, zMrow g h, zMtape g h] := hD
  have hK : va_K (dC, dI) vwCl [(k 9, .int), (k 10, .int), (k 11, .int), (k 12, .int), (k 13, .int), (k 14, .int), (k 20, .int), (k 21, .int), (k 22, .int), (k 23, .int), (k 24, .int), (k 25, .int), (k 30, .int), (k 32, .int), (h 2, .int), (h 3, .int), (h 4, .int), (h 5, .int), (h 6, .int), (h 10, .int), (h 11, .int), (h 12, .int), (h 13, .int), (h 35, .int), (h 41, .int)] s := hK
  obtain rfl : r6 = (-3) := hw5
  refine lv_icmp_eq (tgt := 898) hx hb dL_law_870 (by decide) (fun _ => ?_) (fun c => absurd (by decide) c)
  exact law_end C0 hS hl
set_option maxHeartbeats 4000000 in
set_option maxRecDepth 100000 in
theorem law_29 {p : Program} {l : Launch} {e : Env} {s : State} {m : MethodId} {below : List Frame} {meth : Method} {c : Code} {b : Nat} {xs : Nat → Int32} (C0 : lw_At p s m meth c b 5 xs) {dC : Nat → ClassId} {dI : Nat → Nat → Nat} (q : Nat → Nat) (k : Nat → ClassId) (g : Nat → Nat) (h : Nat → ClassId) (hK : va_K (dC, dI) vwCl [(k 9, .int), (k 10, .int), (k 11, .int), (k 12, .int), (k 13, .int), (k 14, .int), (k 20, .int), (k 21, .int), (k 22, .int), (k 23, .int), (k 24, .int), (k 25, .int), (k 30, .int), (k 32, .int), (h 2, .int), (h 3, .int), (h 4, .int), (h 5, .int), (h 6, .int), (h 10, .int), (h 11, .int), (h 12, .int), (h 13, .int), (h 35, .int), (h 41, .int)] s) {H : Heap} {locs : List Loc} {ls : Array Slot} (hP : va_P (dC, dI) vwCl [zLF q k, zlu q k, zpi q k, ztp q k, zbk q k, zwl q k, zrw q k, ztu q k, zfr q k, zsl q k, zwe q k, ztn q k, zsz q k, zpt q k, zkd q k, zpr q k, zfo q k, zfx q k, zby q k, zbs q k, zM g h, zMtune g h, zMfrets g h, zMslack g h, zMweight g h, zMtuning g h, zMpitch g h, zMkind g h, zMprice g h, zMfixed g h, zMrow g h, zMtape g h] H) (hD : va_D (fun q : Nat => s.heap.size ≤ q) [zLF q k, zlu q k, zpi q k, ztp q k, zbk q k, zwl q k, zrw q k, ztu q k, zfr q k, zsl q k, zwe q k, ztn q k, zsz q k, zpt q k, zkd q k, zpr q k, zfo q k, zfx q k, zby q k, zbs q k, zM g h, zMtune g h, zMfrets g h, zMslack g h, zMweight g h, zMtuning g h, zMpitch g h, zMkind g h, zMprice g h, zMfixed g h, zMrow g h, zMtape g h]) (hS : va_S (fun q : Nat => s.heap.size ≤ q) s.heap H locs) (hl : lv_has ls 4 [(3, .int 0), (2, .ref (g 47)), (1, .ref (q 0)), (0, .ref b)]) : W p l e room_1 s m #[Value.ref b] below meth c H locs 70 271976 (lw_Z below #[Value.ref b] s) (F0 m 875 ls []) := by
  obtain ⟨hx, hb, hr, hml, hown, hts, hX, hbl, hlocks, hgv⟩ := id C0
  have hown : s.vm.findClass RL = some m.cls := hown
  have hA : ∀ q : Nat, s.heap.size ≤ q → (fun q : Nat => s.heap.size ≤ q) q := fun _ h => h
  have hbA : ¬ (fun q : Nat => s.heap.size ≤ q) b := Nat.not_le.mpr hbl
  have hta : ∀ w ∈ wsL_law, w.before #[Value.ref b] s = true := fun w h => hts w (wsL_law_in w h)
  have hnw : nw s := nw_of hts
  refine lv_aload_n hx hb dL_law_875 rfl (lv_at hl 2 rfl) ?_
  refine lv_aload_n hx hb dL_law_876 rfl (lv_at hl 3 rfl) ?_
  refine lv_iload_n hx hb dL_law_877 rfl (lv_at hl 0 rfl) ?_
  refine lv_iconst (v := 1) hx hb dL_law_878 (by decide) ?_
  refine lv_iadd hx hb dL_law_879 ?_
  refine k_top (y := 1) (by decide) ?_
  refine va_sld hx hb hX hbl hbA hS (vin (by decide)) dL_law_880 ?_
  refine k_top (y := xs 1) rfl ?_
  refine kVi (b := (q 0)) (n := 1) (As := [.int (xs 1)]) (rest := []) ⟨hx, hb, hml, hown, hta⟩ hnw (x_count l dC dI q k (xs 1)  H.size) cd_X10_count iz_X10 ml_L_134 im_X10_count se_X10_X10_count (by decide +kernel) rfl (Nat.le_of_ble_eq_true rfl) (Nat.le_of_ble_eq_true rfl) rfl rfl (Nat.le_of_ble_eq_true rfl) (Nat.le_of_ble_eq_true rfl) hP hD hK hS hA [0, 1, 2, 12, 5] [3, 4, 6, 7, 8, 9, 10, 11, 13, 14, 15, 16, 17, 18, 19, 20, 21, 22, 23, 24, 25, 26, 27, 28, 29, 30, 31] [6] rfl (wr := [ztp q k, zbk q k, zrw q k, ztu q k, zfr q k, zsl q k, zwe q k, ztn q k, zpt q k, zkd q k, zpr q k, zfo q k, zfx q k, zby q k, zbs q k, zM g h, zMtune g h, zMfrets g h, zMslack g h, zMweight g h, zMtuning g h, zMpitch g h, zMkind g h, zMprice g h, zMfixed g h, zMrow g h, zMtape g h]) rfl (by decide) (by decide) (by decide) rfl rfl 0 rfl hl.1 rfl (Nat.le_of_ble_eq_true rfl) dL_law_881 (fun r3 u1 H locs hw2 hP hD hK hS => ?_)
  have hP : va_P (dC, dI) vwCl [ztp q k, zbk q k, zrw q k, ztu q k, zfr q k, zsl q k, zwe q k, ztn q k, zpt q k, zkd q k, zpr q k, zfo q k, zfx q k, zby q k, zbs q k, zM g h, zMtune g h, zMfrets g h, zMslack g h, zMweight g h, zMtuning g h, zMpitch g h, zMkind g h, zMprice g h, zMfixed g h, zMrow g h, zMtape g h] H := hP
  have hD : va_D (fun q : Nat => s.heap.size ≤ q) [ztp q k, zbk q k, zrw q k, ztu q k, zfr q k, zsl q k, zwe q k, ztn q k, zpt q k, zkd q k, zpr q k, zfo q k, zfx q k, zby q k, zbs q k, zM g h, zMtune g h, zMfrets g h, zMslack g h, zMweight g h, zMtuning g h, zMpitch g h, zMkind g h, zMprice g h, zMfixed g h, zMrow g h, zMtape g h] := hD
  have hK : va_K (dC, dI) vwCl [(k 9, .int), (k 10, .int), (k 11, .int), (k 12, .int), (k 13, .int), (k 14, .int), (k 20, .int), (k 21, .int), (k 22, .int), (k 23, .int), (k 24, .int), (k 25, .int), (k 30, .int), (k 32, .int), (h 2, .int), (h 3, .int), (h 4, .int), (h 5, .int), (h 6, .int), (h 10, .int), (h 11, .int), (h 12, .int), (h 13, .int), (h 35, .int), (h 41, .int)] s := hK
  obtain rfl : r3 = sp_count (xs 1) := hw2
  refine lv_aload_n hx hb dL_law_884 rfl (lv_at hl 1 rfl) ?_
  refine lv_aload_n hx hb dL_law_885 rfl (lv_at hl 3 rfl) ?_
  refine lv_iload_n hx hb dL_law_886 rfl (lv_at hl 0 rfl) ?_
  refine lv_iconst (v := 1) hx hb dL_law_887 (by decide) ?_
  refine lv_iadd hx hb dL_law_888 ?_
  refine k_top (y := 1) (by decide) ?_
  refine va_sld hx hb hX hbl hbA hS (vin (by decide)) dL_law_889 ?_
  refine k_top (y := xs 1) rfl ?_
  refine kVi (b := (g 47)) (n := 1) (As := [.int (xs 1)]) (rest := [.int (sp_count (xs 1))]) ⟨hx, hb, hml, hown, hta⟩ hnw (y_count l dC dI g h (xs 1)  H.size) cd_X11_count_ iz_X11 ml_L_137 im_X11_count_ se_X11_X11_count_ (by decide +kernel) rfl (Nat.le_of_ble_eq_true rfl) (Nat.le_of_ble_eq_true rfl) rfl rfl (Nat.le_of_ble_eq_true rfl) (Nat.le_of_ble_eq_true rfl) hP hD hK hS hA [15] [0, 1, 2, 3, 4, 5, 6, 7, 8, 9, 10, 11, 12, 13, 14, 16, 17, 18, 19, 20, 21, 22, 23, 24, 25, 26] [] rfl (wr := [ztp q k, zbk q k, zrw q k, ztu q k, zfr q k, zsl q k, zwe q k, ztn q k, zpt q k, zkd q k, zpr q k, zfo q k, zfx q k, zby q k, zbs q k, zMtune g h, zMfrets g h, zMslack g h, zMweight g h, zMtuning g h, zMpitch g h, zMkind g h, zMprice g h, zMfixed g h, zMrow g h, zMtape g h]) rfl (by decide) (by decide) (by decide) rfl rfl 0 rfl hl.1 rfl (Nat.le_of_ble_eq_true rfl) dL_law_890 (fun r6 u4 H locs hw5 hP hD hK hS => ?_)
  have hP : va_P (dC, dI) vwCl [ztp q k, zbk q k, zrw q k, ztu q k, zfr q k, zsl q k, zwe q k, ztn q k, zpt q k, zkd q k, zpr q k, zfo q k, zfx q k, zby q k, zbs q k, zMtune g h, zMfrets g h, zMslack g h, zMweight g h, zMtuning g h, zMpitch g h, zMkind g h, zMprice g h, zMfixed g h, zMrow g h, zMtape g h] H := hP
  have hD : va_D (fun q : Nat => s.heap.size ≤ q) [ztp q k, zbk q k, zrw q k, ztu q k, zfr q k, zsl q k, zwe q k, ztn q k, zpt q k, zkd q k, zpr q k, zfo q k, zfx q k, zby q k, zbs q k, zMtune g h, zMfrets g h, zMslack g h, zMweight g h, zMtuning g h, zMpitch g h, zMkind g h, zMprice g h, zMfixed g h, zMrow g h, zMtape g h] := hD
  have hK : va_K (dC, dI) vwCl [(k 9, .int), (k 10, .int), (k 11, .int), (k 12, .int), (k 13, .int), (k 14, .int), (k 20, .int), (k 21, .int), (k 22, .int), (k 23, .int), (k 24, .int), (k 25, .int), (k 30, .int), (k 32, .int), (h 2, .int), (h 3, .int), (h 4, .int), (h 5, .int), (h 6, .int), (h 10, .int), (h 11, .int), (h 12, .int), (h 13, .int), (h 35, .int), (h 41, .int)] s := hK
  obtain rfl : r6 = sp_count (xs 1) := hw5
  refine lv_icmp_eq (tgt := 898) hx hb dL_law_893 (by decide) (fun _ => ?_) (fun c => absurd rfl c)
  exact law_end C0 hS hl
set_option maxHeartbeats 4000000 in
set_option maxRecDepth 100000 in
theorem whole_start {p : Program} {e : Env} {s : State} {m : MethodId} {below : List Frame} {meth : Method} {c : Code} (l : Launch) {b L : Nat} {xs : Nat → Int32} (hL : L ≤ 5) (C0 : lw_At p s m meth c b L xs) : W p l e room_1 s m #[Value.ref b] below meth c s.heap [] 0 0 (lw_Z below #[Value.ref b] s) (entryFrame m ([Value.ref b] : List Value).toArray 4) := by
  have hs : s.vm.findClass RL = some m.cls := C0.2.2.2.2.1
  obtain ⟨hx, hb, hr, hml, hown, hts, hX, hbl, hlocks, hgv⟩ := id C0
  have hown : s.vm.findClass RL = some m.cls := hown
  have hA : ∀ q : Nat, s.heap.size ≤ q → (fun q : Nat => s.heap.size ≤ q) q := fun _ h => h
  have hbA : ¬ (fun q : Nat => s.heap.size ≤ q) b := Nat.not_le.mpr hbl
  have hta : ∀ w ∈ wsL_law, w.before #[Value.ref b] s = true := fun w h => hts w (wsL_law_in w h)
  have hnw : nw s := nw_of hts
  obtain ⟨c0, iS0, hKn0⟩ := u_known (C := RX0) (T := TX0) (N := 10) (n := 10) hta inlX0 (hta _ is_X0)
  obtain ⟨c1, iS1, hKn1⟩ := u_known (C := RX2) (T := TX2) (N := 4) (n := 4) hta inlX2 (hta _ is_X2)
  obtain ⟨c2, iS2, hKn2⟩ := u_known (C := RX3) (T := TX3) (N := 12) (n := 12) hta inlX3 (hta _ is_X3)
  obtain ⟨c3, iS3, hKn3⟩ := u_known (C := RX4) (T := TX4) (N := 7) (n := 7) hta inlX4 (hta _ is_X4)
  obtain ⟨c4, iS4, hKn4⟩ := u_known (C := RX5) (T := TX5) (N := 7) (n := 7) hta inlX5 (hta _ is_X5)
  obtain ⟨c5, iS5, hKn5⟩ := u_known (C := RX6) (T := TX6) (N := 2) (n := 2) hta inlX6 (hta _ is_X6)
  obtain ⟨c6, iS6, hKn6⟩ := u_known (C := RX7) (T := TX7) (N := 4) (n := 4) hta inlX7 (hta _ is_X7)
  obtain ⟨c7, iS7, hKn7⟩ := u_known (C := RX8) (T := TX8) (N := 5) (n := 5) hta inlX8 (hta _ is_X8)
  obtain ⟨c8, iS8, hKn8⟩ := u_known (C := RX9) (T := TX9) (N := 8) (n := 8) hta inlX9 (hta _ is_X9)
  obtain ⟨c9, iS9, hKn9⟩ := u_known (C := RX10) (T := TX10) (N := 15) (n := 15) hta inlX10 (hta _ is_X10)
  obtain ⟨c10, iS10, hKn10⟩ := u_known (C := RX11) (T := TX11) (N := 47) (n := 47) hta inlX11 (hta _ is_X11)
  obtain ⟨dC, dI, hKc⟩ : ∃ (dC : Nat → ClassId) (dI : Nat → Nat → Nat), ∀ (k : Nat) (q : vw_C), vwCl[k]? = some q → u_Kn s q.1 q.2.1 q.2.2 (dC k) (dI k) := by
    refine ⟨fun k => match k with | 0 => c0 | 1 => c1 | 2 => c2 | 3 => c3 | 4 => c4 | 5 => c5 | 6 => c6 | 7 => c7 | 8 => c8 | 9 => c9 | 10 => c10 | _ => c0, fun k => match k with | 0 => iS0 | 1 => iS1 | 2 => iS2 | 3 => iS3 | 4 => iS4 | 5 => iS5 | 6 => iS6 | 7 => iS7 | 8 => iS8 | 9 => iS9 | 10 => iS10 | _ => iS0, ?_⟩
    intro k q hq
    match k, hq with
    | 0, hq => cases hq; exact hKn0
    | 1, hq => cases hq; exact hKn1
    | 2, hq => cases hq; exact hKn2
    | 3, hq => cases hq; exact hKn3
    | 4, hq => cases hq; exact hKn4
    | 5, hq => cases hq; exact hKn5
    | 6, hq => cases hq; exact hKn6
    | 7, hq => cases hq; exact hKn7
    | 8, hq => cases hq; exact hKn8
    | 9, hq => cases hq; exact hKn9
    | 10, hq => cases hq; exact hKn10
    | k + 11, hq => simp [vwCl] at hq
  have hS : va_S (fun q : Nat => s.heap.size ≤ q) s.heap s.heap [] := va_S.rf
  have hK : va_K (dC, dI) vwCl [] s := ⟨hKc, fun k q h => by simp at h⟩
  have hP : va_P (dC, dI) vwCl [] s.heap := P_nil
  have hD : va_D (fun q : Nat => s.heap.size ≤ q) [] := D_nil
  have hl := lv_entry ([.ref b]) (n := 4) (Nat.le_of_ble_eq_true rfl)
  rw [lg_entry_eq]
  generalize (lg_sl ([.ref b]) ++ List.replicate (4 - (lg_sl ([.ref b])).length) Slot.unset).toArray = ls at hl ⊢
  have hl : lv_has ls 4 [(0, .ref b)] := hl
  refine va_new (ci := 9) (fs := [.null, .null, .null, .null, .null, .null, .null, .null, .null, .int 0, .null, .null, .int 0, .int 0, .int 0]) (C := RX10) (T := TX10) (N := 15) hx hb hta inlX10 tyX10 tyX10_ok hown (hta _ cl_L_7) (hta _ is_X10) (hta _ iz_X10) hK hP hD hS hA rfl (fun j hj => by rcases (show j = 0 ∨ j = 1 ∨ j = 2 ∨ j = 3 ∨ j = 4 ∨ j = 5 ∨ j = 6 ∨ j = 7 ∨ j = 8 ∨ j = 9 ∨ j = 10 ∨ j = 11 ∨ j = 12 ∨ j = 13 ∨ j = 14 by omega) with rfl | rfl | rfl | rfl | rfl | rfl | rfl | rfl | rfl | rfl | rfl | rfl | rfl | rfl | rfl <;> rfl) (Nat.le_of_ble_eq_true rfl) (Nat.le_of_ble_eq_true rfl) dL_law_0 (fun q1 H hP hD hS => ?_)
  refine W.widen (k := 1) (n := 15) (Nat.le_of_ble_eq_true rfl) (Nat.le_of_ble_eq_true rfl) ?_
  have hP : va_P (dC, dI) vwCl [(q1, .inr (9, [.null, .null, .null, .null, .null, .null, .null, .null, .null, .int 0, .null, .null, .int 0, .int 0, .int 0]))] H := hP
  have hD : va_D (fun q : Nat => s.heap.size ≤ q) [(q1, .inr (9, [.null, .null, .null, .null, .null, .null, .null, .null, .null, .int 0, .null, .null, .int 0, .int 0, .int 0]))] := hD
  refine lv_dup hx hb dL_law_3 rfl ?_
  refine kIv (b := q1) (n := 0) (As := []) (rest := [.ref q1]) ⟨hx, hb, hml, hown, hta⟩ hnw (n_LF l dC dI q1  H.size) cd_X10_init iz_X10 ml_L_9 im_X10_init rfl (by decide +kernel) rfl (Nat.le_of_ble_eq_true rfl) (Nat.le_of_ble_eq_true rfl) rfl rfl (Nat.le_of_ble_eq_true rfl) (Nat.le_of_ble_eq_true rfl) hP hD hK hS hA [0] [] [] rfl (wr := []) rfl (by decide) (by decide) (by decide) rfl hl.1 rfl (Nat.le_of_ble_eq_true rfl) dL_law_4 (fun u2 H locs hw3 hP hD hK hS => ?_)
  refine W.widen (k := 35) (n := 5256) (Nat.le_of_ble_eq_true rfl) (Nat.le_of_ble_eq_true rfl) ?_
  have hP : va_P (dC, dI) vwCl [(q1, .inr (9, [.ref (u2.1 1), .ref (u2.1 2), .ref (u2.1 3), .ref (u2.1 4), .ref (u2.1 5), .ref (u2.1 6), .ref (u2.1 7), .ref (u2.1 8), .ref (u2.1 9), .int 0, .null, .null, .int 0, .int 0, .int 0])), (u2.1 1, .inr (3, [.int 0, .int 0, .ref (u2.1 10), .ref (u2.1 11), .ref (u2.1 12), .ref (u2.1 13), .ref (u2.1 14)])), (u2.1 2, .inr (4, [.int 0, .ref (u2.1 20), .ref (u2.1 21), .ref (u2.1 22), .ref (u2.1 23), .ref (u2.1 24), .ref (u2.1 25)])), (u2.1 3, .inr (5, [.ref (u2.1 30), .int 0])), (u2.1 5, .inr (1, [.ref (u2.1 2), .ref (u2.1 4), .ref (u2.1 31), .ref (u2.1 32)])), (u2.1 8, .inr (7, [.ref (u2.1 33), .ref (u2.1 34), .int 0, .int (-1), .int 0])), (u2.1 9, .inl (u2.2 9, 16, .inl (fun _ => 0))), (u2.1 10, .inl (u2.2 10, 6, .inl (fun _ => 0))), (u2.1 11, .inl (u2.2 11, 6, .inl (fun _ => 0))), (u2.1 12, .inl (u2.2 12, 5, .inl (fun _ => 1))), (u2.1 13, .inl (u2.2 13, 5, .inl (fun _ => 1))), (u2.1 14, .inl (u2.2 14, 24, .inl (fun _ => 0))), (u2.1 20, .inl (u2.2 20, 17, .inl (fun _ => 0))), (u2.1 21, .inl (u2.2 21, 68, .inl (fun _ => 0))), (u2.1 22, .inl (u2.2 22, 68, .inl (fun _ => 0))), (u2.1 23, .inl (u2.2 23, 68, .inl (fun _ => 0))), (u2.1 24, .inl (u2.2 24, 68, .inl (fun _ => 0))), (u2.1 25, .inl (u2.2 25, 68, .inl (fun _ => 0))), (u2.1 30, .inl (u2.2 30, 600, .inl (fun _ => 0))), (u2.1 32, .inl (u2.2 32, 16, .inl (fun _ => (-1))))] H := hP
  have hD : va_D (fun q : Nat => s.heap.size ≤ q) [(q1, .inr (9, [.ref (u2.1 1), .ref (u2.1 2), .ref (u2.1 3), .ref (u2.1 4), .ref (u2.1 5), .ref (u2.1 6), .ref (u2.1 7), .ref (u2.1 8), .ref (u2.1 9), .int 0, .null, .null, .int 0, .int 0, .int 0])), (u2.1 1, .inr (3, [.int 0, .int 0, .ref (u2.1 10), .ref (u2.1 11), .ref (u2.1 12), .ref (u2.1 13), .ref (u2.1 14)])), (u2.1 2, .inr (4, [.int 0, .ref (u2.1 20), .ref (u2.1 21), .ref (u2.1 22), .ref (u2.1 23), .ref (u2.1 24), .ref (u2.1 25)])), (u2.1 3, .inr (5, [.ref (u2.1 30), .int 0])), (u2.1 5, .inr (1, [.ref (u2.1 2), .ref (u2.1 4), .ref (u2.1 31), .ref (u2.1 32)])), (u2.1 8, .inr (7, [.ref (u2.1 33), .ref (u2.1 34), .int 0, .int (-1), .int 0])), (u2.1 9, .inl (u2.2 9, 16, .inl (fun _ => 0))), (u2.1 10, .inl (u2.2 10, 6, .inl (fun _ => 0))), (u2.1 11, .inl (u2.2 11, 6, .inl (fun _ => 0))), (u2.1 12, .inl (u2.2 12, 5, .inl (fun _ => 1))), (u2.1 13, .inl (u2.2 13, 5, .inl (fun _ => 1))), (u2.1 14, .inl (u2.2 14, 24, .inl (fun _ => 0))), (u2.1 20, .inl (u2.2 20, 17, .inl (fun _ => 0))), (u2.1 21, .inl (u2.2 21, 68, .inl (fun _ => 0))), (u2.1 22, .inl (u2.2 22, 68, .inl (fun _ => 0))), (u2.1 23, .inl (u2.2 23, 68, .inl (fun _ => 0))), (u2.1 24, .inl (u2.2 24, 68, .inl (fun _ => 0))), (u2.1 25, .inl (u2.2 25, 68, .inl (fun _ => 0))), (u2.1 30, .inl (u2.2 30, 600, .inl (fun _ => 0))), (u2.1 32, .inl (u2.2 32, 16, .inl (fun _ => (-1))))] := hD
  have hK : va_K (dC, dI) vwCl [(u2.2 9, .int), (u2.2 10, .int), (u2.2 11, .int), (u2.2 12, .int), (u2.2 13, .int), (u2.2 14, .int), (u2.2 20, .int), (u2.2 21, .int), (u2.2 22, .int), (u2.2 23, .int), (u2.2 24, .int), (u2.2 25, .int), (u2.2 30, .int), (u2.2 32, .int)] s := hK
  refine lv_astore_n (lv' := [(1, .ref q1), (0, .ref b)]) hx hb dL_law_7 rfl hl (by decide) rfl (fun ls hl => ?_)
  refine va_new (ci := 10) (fs := [.int 0, .int 0, .null, .null, .null, .null, .null, .int 0, .int 0, .null, .null, .null, .null, .null, .int 0, .int 0, .null, .null, .null, .null, .null, .null, .null, .null, .null, .null, .null, .null, .null, .null, .int 0, .null, .null, .int 0, .int 0, .null, .int 0, .null, .null, .int 0, .null, .null, .int 0, .null, .null, .null, .int 0]) (C := RX11) (T := TX11) (N := 47) hx hb hta inlX11 tyX11 tyX11_ok hown (hta _ cl_L_10) (hta _ is_X11) (hta _ iz_X11) hK hP hD hS hA rfl (fun j hj => by rcases (show j = 0 ∨ j = 1 ∨ j = 2 ∨ j = 3 ∨ j = 4 ∨ j = 5 ∨ j = 6 ∨ j = 7 ∨ j = 8 ∨ j = 9 ∨ j = 10 ∨ j = 11 ∨ j = 12 ∨ j = 13 ∨ j = 14 ∨ j = 15 ∨ j = 16 ∨ j = 17 ∨ j = 18 ∨ j = 19 ∨ j = 20 ∨ j = 21 ∨ j = 22 ∨ j = 23 ∨ j = 24 ∨ j = 25 ∨ j = 26 ∨ j = 27 ∨ j = 28 ∨ j = 29 ∨ j = 30 ∨ j = 31 ∨ j = 32 ∨ j = 33 ∨ j = 34 ∨ j = 35 ∨ j = 36 ∨ j = 37 ∨ j = 38 ∨ j = 39 ∨ j = 40 ∨ j = 41 ∨ j = 42 ∨ j = 43 ∨ j = 44 ∨ j = 45 ∨ j = 46 by omega) with rfl | rfl | rfl | rfl | rfl | rfl | rfl | rfl | rfl | rfl | rfl | rfl | rfl | rfl | rfl | rfl | rfl | rfl | rfl | rfl | rfl | rfl | rfl | rfl | rfl | rfl | rfl | rfl | rfl | rfl | rfl | rfl | rfl | rfl | rfl | rfl | rfl | rfl | rfl | rfl | rfl | rfl | rfl | rfl | rfl | rfl | rfl <;> rfl) (Nat.le_of_ble_eq_true rfl) (Nat.le_of_ble_eq_true rfl) dL_law_8 (fun q5 H hP hD hS => ?_)
  refine W.widen (k := 36) (n := 5303) (Nat.le_of_ble_eq_true rfl) (Nat.le_of_ble_eq_true rfl) ?_
  have hP : va_P (dC, dI) vwCl [(q1, .inr (9, [.ref (u2.1 1), .ref (u2.1 2), .ref (u2.1 3), .ref (u2.1 4), .ref (u2.1 5), .ref (u2.1 6), .ref (u2.1 7), .ref (u2.1 8), .ref (u2.1 9), .int 0, .null, .null, .int 0, .int 0, .int 0])), (u2.1 1, .inr (3, [.int 0, .int 0, .ref (u2.1 10), .ref (u2.1 11), .ref (u2.1 12), .ref (u2.1 13), .ref (u2.1 14)])), (u2.1 2, .inr (4, [.int 0, .ref (u2.1 20), .ref (u2.1 21), .ref (u2.1 22), .ref (u2.1 23), .ref (u2.1 24), .ref (u2.1 25)])), (u2.1 3, .inr (5, [.ref (u2.1 30), .int 0])), (u2.1 5, .inr (1, [.ref (u2.1 2), .ref (u2.1 4), .ref (u2.1 31), .ref (u2.1 32)])), (u2.1 8, .inr (7, [.ref (u2.1 33), .ref (u2.1 34), .int 0, .int (-1), .int 0])), (u2.1 9, .inl (u2.2 9, 16, .inl (fun _ => 0))), (u2.1 10, .inl (u2.2 10, 6, .inl (fun _ => 0))), (u2.1 11, .inl (u2.2 11, 6, .inl (fun _ => 0))), (u2.1 12, .inl (u2.2 12, 5, .inl (fun _ => 1))), (u2.1 13, .inl (u2.2 13, 5, .inl (fun _ => 1))), (u2.1 14, .inl (u2.2 14, 24, .inl (fun _ => 0))), (u2.1 20, .inl (u2.2 20, 17, .inl (fun _ => 0))), (u2.1 21, .inl (u2.2 21, 68, .inl (fun _ => 0))), (u2.1 22, .inl (u2.2 22, 68, .inl (fun _ => 0))), (u2.1 23, .inl (u2.2 23, 68, .inl (fun _ => 0))), (u2.1 24, .inl (u2.2 24, 68, .inl (fun _ => 0))), (u2.1 25, .inl (u2.2 25, 68, .inl (fun _ => 0))), (u2.1 30, .inl (u2.2 30, 600, .inl (fun _ => 0))), (u2.1 32, .inl (u2.2 32, 16, .inl (fun _ => (-1)))), (q5, .inr (10, [.int 0, .int 0, .null, .null, .null, .null, .null, .int 0, .int 0, .null, .null, .null, .null, .null, .int 0, .int 0, .null, .null, .null, .null, .null, .null, .null, .null, .null, .null, .null, .null, .null, .null, .int 0, .null, .null, .int 0, .int 0, .null, .int 0, .null, .null, .int 0, .null, .null, .int 0, .null, .null, .null, .int 0]))] H := hP
  have hD : va_D (fun q : Nat => s.heap.size ≤ q) [(q1, .inr (9, [.ref (u2.1 1), .ref (u2.1 2), .ref (u2.1 3), .ref (u2.1 4), .ref (u2.1 5), .ref (u2.1 6), .ref (u2.1 7), .ref (u2.1 8), .ref (u2.1 9), .int 0, .null, .null, .int 0, .int 0, .int 0])), (u2.1 1, .inr (3, [.int 0, .int 0, .ref (u2.1 10), .ref (u2.1 11), .ref (u2.1 12), .ref (u2.1 13), .ref (u2.1 14)])), (u2.1 2, .inr (4, [.int 0, .ref (u2.1 20), .ref (u2.1 21), .ref (u2.1 22), .ref (u2.1 23), .ref (u2.1 24), .ref (u2.1 25)])), (u2.1 3, .inr (5, [.ref (u2.1 30), .int 0])), (u2.1 5, .inr (1, [.ref (u2.1 2), .ref (u2.1 4), .ref (u2.1 31), .ref (u2.1 32)])), (u2.1 8, .inr (7, [.ref (u2.1 33), .ref (u2.1 34), .int 0, .int (-1), .int 0])), (u2.1 9, .inl (u2.2 9, 16, .inl (fun _ => 0))), (u2.1 10, .inl (u2.2 10, 6, .inl (fun _ => 0))), (u2.1 11, .inl (u2.2 11, 6, .inl (fun _ => 0))), (u2.1 12, .inl (u2.2 12, 5, .inl (fun _ => 1))), (u2.1 13, .inl (u2.2 13, 5, .inl (fun _ => 1))), (u2.1 14, .inl (u2.2 14, 24, .inl (fun _ => 0))), (u2.1 20, .inl (u2.2 20, 17, .inl (fun _ => 0))), (u2.1 21, .inl (u2.2 21, 68, .inl (fun _ => 0))), (u2.1 22, .inl (u2.2 22, 68, .inl (fun _ => 0))), (u2.1 23, .inl (u2.2 23, 68, .inl (fun _ => 0))), (u2.1 24, .inl (u2.2 24, 68, .inl (fun _ => 0))), (u2.1 25, .inl (u2.2 25, 68, .inl (fun _ => 0))), (u2.1 30, .inl (u2.2 30, 600, .inl (fun _ => 0))), (u2.1 32, .inl (u2.2 32, 16, .inl (fun _ => (-1)))), (q5, .inr (10, [.int 0, .int 0, .null, .null, .null, .null, .null, .int 0, .int 0, .null, .null, .null, .null, .null, .int 0, .int 0, .null, .null, .null, .null, .null, .null, .null, .null, .null, .null, .null, .null, .null, .null, .int 0, .null, .null, .int 0, .int 0, .null, .int 0, .null, .null, .int 0, .null, .null, .int 0, .null, .null, .null, .int 0]))] := hD
  refine lv_dup hx hb dL_law_11 rfl ?_
  refine kIv (b := q5) (n := 0) (As := []) (rest := [.ref q5]) ⟨hx, hb, hml, hown, hta⟩ hnw (n_M l dC dI q5  H.size) cd_X11_init iz_X11 ml_L_12 im_X11_init rfl (by decide +kernel) rfl (Nat.le_of_ble_eq_true rfl) (Nat.le_of_ble_eq_true rfl) rfl rfl (Nat.le_of_ble_eq_true rfl) (Nat.le_of_ble_eq_true rfl) hP hD hK hS hA [20] [0, 1, 2, 3, 4, 5, 6, 7, 8, 9, 10, 11, 12, 13, 14, 15, 16, 17, 18, 19] [] rfl (wr := [(q1, .inr (9, [.ref (u2.1 1), .ref (u2.1 2), .ref (u2.1 3), .ref (u2.1 4), .ref (u2.1 5), .ref (u2.1 6), .ref (u2.1 7), .ref (u2.1 8), .ref (u2.1 9), .int 0, .null, .null, .int 0, .int 0, .int 0])), (u2.1 1, .inr (3, [.int 0, .int 0, .ref (u2.1 10), .ref (u2.1 11), .ref (u2.1 12), .ref (u2.1 13), .ref (u2.1 14)])), (u2.1 2, .inr (4, [.int 0, .ref (u2.1 20), .ref (u2.1 21), .ref (u2.1 22), .ref (u2.1 23), .ref (u2.1 24), .ref (u2.1 25)])), (u2.1 3, .inr (5, [.ref (u2.1 30), .int 0])), (u2.1 5, .inr (1, [.ref (u2.1 2), .ref (u2.1 4), .ref (u2.1 31), .ref (u2.1 32)])), (u2.1 8, .inr (7, [.ref (u2.1 33), .ref (u2.1 34), .int 0, .int (-1), .int 0])), (u2.1 9, .inl (u2.2 9, 16, .inl (fun _ => 0))), (u2.1 10, .inl (u2.2 10, 6, .inl (fun _ => 0))), (u2.1 11, .inl (u2.2 11, 6, .inl (fun _ => 0))), (u2.1 12, .inl (u2.2 12, 5, .inl (fun _ => 1))), (u2.1 13, .inl (u2.2 13, 5, .inl (fun _ => 1))), (u2.1 14, .inl (u2.2 14, 24, .inl (fun _ => 0))), (u2.1 20, .inl (u2.2 20, 17, .inl (fun _ => 0))), (u2.1 21, .inl (u2.2 21, 68, .inl (fun _ => 0))), (u2.1 22, .inl (u2.2 22, 68, .inl (fun _ => 0))), (u2.1 23, .inl (u2.2 23, 68, .inl (fun _ => 0))), (u2.1 24, .inl (u2.2 24, 68, .inl (fun _ => 0))), (u2.1 25, .inl (u2.2 25, 68, .inl (fun _ => 0))), (u2.1 30, .inl (u2.2 30, 600, .inl (fun _ => 0))), (u2.1 32, .inl (u2.2 32, 16, .inl (fun _ => (-1))))]) rfl (by decide) (by decide) (by decide) rfl hl.1 rfl (Nat.le_of_ble_eq_true rfl) dL_law_12 (fun u6 H locs hw7 hP hD hK hS => ?_)
  refine W.widen (k := 70) (n := 271976) (Nat.le_of_ble_eq_true rfl) (Nat.le_of_ble_eq_true rfl) ?_
  have hP : va_P (dC, dI) vwCl [(q1, .inr (9, [.ref (u2.1 1), .ref (u2.1 2), .ref (u2.1 3), .ref (u2.1 4), .ref (u2.1 5), .ref (u2.1 6), .ref (u2.1 7), .ref (u2.1 8), .ref (u2.1 9), .int 0, .null, .null, .int 0, .int 0, .int 0])), (u2.1 1, .inr (3, [.int 0, .int 0, .ref (u2.1 10), .ref (u2.1 11), .ref (u2.1 12), .ref (u2.1 13), .ref (u2.1 14)])), (u2.1 2, .inr (4, [.int 0, .ref (u2.1 20), .ref (u2.1 21), .ref (u2.1 22), .ref (u2.1 23), .ref (u2.1 24), .ref (u2.1 25)])), (u2.1 3, .inr (5, [.ref (u2.1 30), .int 0])), (u2.1 5, .inr (1, [.ref (u2.1 2), .ref (u2.1 4), .ref (u2.1 31), .ref (u2.1 32)])), (u2.1 8, .inr (7, [.ref (u2.1 33), .ref (u2.1 34), .int 0, .int (-1), .int 0])), (u2.1 9, .inl (u2.2 9, 16, .inl (fun _ => 0))), (u2.1 10, .inl (u2.2 10, 6, .inl (fun _ => 0))), (u2.1 11, .inl (u2.2 11, 6, .inl (fun _ => 0))), (u2.1 12, .inl (u2.2 12, 5, .inl (fun _ => 1))), (u2.1 13, .inl (u2.2 13, 5, .inl (fun _ => 1))), (u2.1 14, .inl (u2.2 14, 24, .inl (fun _ => 0))), (u2.1 20, .inl (u2.2 20, 17, .inl (fun _ => 0))), (u2.1 21, .inl (u2.2 21, 68, .inl (fun _ => 0))), (u2.1 22, .inl (u2.2 22, 68, .inl (fun _ => 0))), (u2.1 23, .inl (u2.2 23, 68, .inl (fun _ => 0))), (u2.1 24, .inl (u2.2 24, 68, .inl (fun _ => 0))), (u2.1 25, .inl (u2.2 25, 68, .inl (fun _ => 0))), (u2.1 30, .inl (u2.2 30, 600, .inl (fun _ => 0))), (u2.1 32, .inl (u2.2 32, 16, .inl (fun _ => (-1)))), (q5, .inr (10, [.int 0, .int 0, .ref (u6.1 2), .ref (u6.1 3), .ref (u6.1 4), .ref (u6.1 5), .ref (u6.1 6), .int 0, .int 0, .ref (u6.1 9), .ref (u6.1 10), .ref (u6.1 11), .ref (u6.1 12), .ref (u6.1 13), .int 0, .int 0, .ref (u6.1 16), .ref (u6.1 17), .ref (u6.1 18), .ref (u6.1 19), .ref (u6.1 20), .ref (u6.1 21), .ref (u6.1 22), .ref (u6.1 23), .ref (u6.1 24), .ref (u6.1 25), .ref (u6.1 26), .ref (u6.1 27), .ref (u6.1 28), .ref (u6.1 29), .int 0, .ref (u6.1 31), .ref (u6.1 32), .int 0, .int 0, .ref (u6.1 35), .int 0, .ref (u6.1 37), .ref (u6.1 38), .int 0, .ref (u6.1 40), .ref (u6.1 41), .int 0, .ref (u6.1 43), .ref (u6.1 44), .ref (u6.1 45), .int 0])), (u6.1 2, .inl (u6.2 2, 6, .inl (fun _ => 0))), (u6.1 3, .inl (u6.2 3, 6, .inl (fun _ => 0))), (u6.1 4, .inl (u6.2 4, 5, .inl (upd (upd (upd (upd (upd (fun _ => 0) 0 0) 1 1) 2 1) 3 1) 4 1))), (u6.1 5, .inl (u6.2 5, 5, .inl (upd (upd (upd (upd (upd (fun _ => 0) 0 1) 1 1) 2 1) 3 1) 4 1))), (u6.1 6, .inl (u6.2 6, 24, .inl (fun _ => 0))), (u6.1 10, .inl (u6.2 10, 68, .inl (fun _ => 0))), (u6.1 11, .inl (u6.2 11, 68, .inl (fun _ => 0))), (u6.1 12, .inl (u6.2 12, 68, .inl (fun _ => 0))), (u6.1 13, .inl (u6.2 13, 68, .inl (fun _ => 0))), (u6.1 35, .inl (u6.2 35, 16, .inl (fun _ => 0))), (u6.1 41, .inl (u6.2 41, 600, .inl (fun _ => 0)))] H := hP
  have hD : va_D (fun q : Nat => s.heap.size ≤ q) [(q1, .inr (9, [.ref (u2.1 1), .ref (u2.1 2), .ref (u2.1 3), .ref (u2.1 4), .ref (u2.1 5), .ref (u2.1 6), .ref (u2.1 7), .ref (u2.1 8), .ref (u2.1 9), .int 0, .null, .null, .int 0, .int 0, .int 0])), (u2.1 1, .inr (3, [.int 0, .int 0, .ref (u2.1 10), .ref (u2.1 11), .ref (u2.1 12), .ref (u2.1 13), .ref (u2.1 14)])), (u2.1 2, .inr (4, [.int 0, .ref (u2.1 20), .ref (u2.1 21), .ref (u2.1 22), .ref (u2.1 23), .ref (u2.1 24), .ref (u2.1 25)])), (u2.1 3, .inr (5, [.ref (u2.1 30), .int 0])), (u2.1 5, .inr (1, [.ref (u2.1 2), .ref (u2.1 4), .ref (u2.1 31), .ref (u2.1 32)])), (u2.1 8, .inr (7, [.ref (u2.1 33), .ref (u2.1 34), .int 0, .int (-1), .int 0])), (u2.1 9, .inl (u2.2 9, 16, .inl (fun _ => 0))), (u2.1 10, .inl (u2.2 10, 6, .inl (fun _ => 0))), (u2.1 11, .inl (u2.2 11, 6, .inl (fun _ => 0))), (u2.1 12, .inl (u2.2 12, 5, .inl (fun _ => 1))), (u2.1 13, .inl (u2.2 13, 5, .inl (fun _ => 1))), (u2.1 14, .inl (u2.2 14, 24, .inl (fun _ => 0))), (u2.1 20, .inl (u2.2 20, 17, .inl (fun _ => 0))), (u2.1 21, .inl (u2.2 21, 68, .inl (fun _ => 0))), (u2.1 22, .inl (u2.2 22, 68, .inl (fun _ => 0))), (u2.1 23, .inl (u2.2 23, 68, .inl (fun _ => 0))), (u2.1 24, .inl (u2.2 24, 68, .inl (fun _ => 0))), (u2.1 25, .inl (u2.2 25, 68, .inl (fun _ => 0))), (u2.1 30, .inl (u2.2 30, 600, .inl (fun _ => 0))), (u2.1 32, .inl (u2.2 32, 16, .inl (fun _ => (-1)))), (q5, .inr (10, [.int 0, .int 0, .ref (u6.1 2), .ref (u6.1 3), .ref (u6.1 4), .ref (u6.1 5), .ref (u6.1 6), .int 0, .int 0, .ref (u6.1 9), .ref (u6.1 10), .ref (u6.1 11), .ref (u6.1 12), .ref (u6.1 13), .int 0, .int 0, .ref (u6.1 16), .ref (u6.1 17), .ref (u6.1 18), .ref (u6.1 19), .ref (u6.1 20), .ref (u6.1 21), .ref (u6.1 22), .ref (u6.1 23), .ref (u6.1 24), .ref (u6.1 25), .ref (u6.1 26), .ref (u6.1 27), .ref (u6.1 28), .ref (u6.1 29), .int 0, .ref (u6.1 31), .ref (u6.1 32), .int 0, .int 0, .ref (u6.1 35), .int 0, .ref (u6.1 37), .ref (u6.1 38), .int 0, .ref (u6.1 40), .ref (u6.1 41), .int 0, .ref (u6.1 43), .ref (u6.1 44), .ref (u6.1 45), .int 0])), (u6.1 2, .inl (u6.2 2, 6, .inl (fun _ => 0))), (u6.1 3, .inl (u6.2 3, 6, .inl (fun _ => 0))), (u6.1 4, .inl (u6.2 4, 5, .inl (upd (upd (upd (upd (upd (fun _ => 0) 0 0) 1 1) 2 1) 3 1) 4 1))), (u6.1 5, .inl (u6.2 5, 5, .inl (upd (upd (upd (upd (upd (fun _ => 0) 0 1) 1 1) 2 1) 3 1) 4 1))), (u6.1 6, .inl (u6.2 6, 24, .inl (fun _ => 0))), (u6.1 10, .inl (u6.2 10, 68, .inl (fun _ => 0))), (u6.1 11, .inl (u6.2 11, 68, .inl (fun _ => 0))), (u6.1 12, .inl (u6.2 12, 68, .inl (fun _ => 0))), (u6.1 13, .inl (u6.2 13, 68, .inl (fun _ => 0))), (u6.1 35, .inl (u6.2 35, 16, .inl (fun _ => 0))), (u6.1 41, .inl (u6.2 41, 600, .inl (fun _ => 0)))] := hD
  have hK : va_K (dC, dI) vwCl [(u2.2 9, .int), (u2.2 10, .int), (u2.2 11, .int), (u2.2 12, .int), (u2.2 13, .int), (u2.2 14, .int), (u2.2 20, .int), (u2.2 21, .int), (u2.2 22, .int), (u2.2 23, .int), (u2.2 24, .int), (u2.2 25, .int), (u2.2 30, .int), (u2.2 32, .int), (u6.2 2, .int), (u6.2 3, .int), (u6.2 4, .int), (u6.2 5, .int), (u6.2 6, .int), (u6.2 10, .int), (u6.2 11, .int), (u6.2 12, .int), (u6.2 13, .int), (u6.2 35, .int), (u6.2 41, .int)] s := hK
  refine lv_astore_n (lv' := [(2, .ref q5), (1, .ref q1), (0, .ref b)]) hx hb dL_law_15 rfl hl (by decide) rfl (fun ls hl => ?_)
  refine lv_iconst (v := 0) hx hb dL_law_16 (by decide) ?_
  refine lv_istore_n (lv' := [(3, .int 0), (2, .ref q5), (1, .ref q1), (0, .ref b)]) hx hb dL_law_17 rfl hl (by decide) rfl (fun ls hl => ?_)
  rcases (show L < 5 ∨ L = 5 by omega) with hL5 | hL5
  · refine lv_iload_n hx hb dL_law_18 rfl (lv_at hl 0 rfl) ?_
    refine lv_aload_n hx hb dL_law_19 rfl (lv_at hl 3 rfl) ?_
    refine va_slen hx hb hX hbl hbA hS dL_law_20 ?_
    refine lv_iconst (v := 5) hx hb dL_law_21 (by decide) ?_
    refine lv_isub hx hb dL_law_22 ?_
    refine lv_icmp_gt (tgt := 904) hx hb dL_law_23 (by decide) (fun _ => ?_) (fun c => absurd (by rcases (show L = 0 ∨ L = 1 ∨ L = 2 ∨ L = 3 ∨ L = 4 by omega) with rfl | rfl | rfl | rfl | rfl <;> decide) c)
    refine lv_iconst (v := 1) hx hb dL_law_904 (by decide) ?_
    refine va_forget (fun q hq => hS.2.2 q hq) ?_
    refine W.widen (k := 600000) (n := 7302250) (Nat.le_of_ble_eq_true rfl) (Nat.le_of_ble_eq_true rfl) ?_
    exact lw_ret hx hb hr hlocks dL_law_905
  · subst hL5
    refine lv_iload_n hx hb dL_law_18 rfl (lv_at hl 0 rfl) ?_
    refine lv_aload_n hx hb dL_law_19 rfl (lv_at hl 3 rfl) ?_
    refine va_slen hx hb hX hbl hbA hS dL_law_20 ?_
    refine k_top (y := 5) rfl ?_
    refine lv_iconst (v := 5) hx hb dL_law_21 (by decide) ?_
    refine lv_isub hx hb dL_law_22 ?_
    refine k_top (y := 0) (by decide) ?_
    refine lv_icmp_gt (tgt := 904) hx hb dL_law_23 (by decide) (fun c => absurd c (by decide)) (fun _ => ?_)
    refine lv_aload_n hx hb dL_law_26 rfl (lv_at hl 3 rfl) ?_
    refine lv_iload_n hx hb dL_law_27 rfl (lv_at hl 0 rfl) ?_
    refine va_sld hx hb hX hbl hbA hS (vin (by decide)) dL_law_28 ?_
    refine k_top (y := xs 0) rfl ?_
    refine lv_bipush (v := 31) hx hb dL_law_29 (by decide) ?_
    refine lv_iand hx hb dL_law_31 ?_
    obtain ⟨j, hj, ej⟩ := pk_andE (xs 0) (m := 31) 5 (by decide)
    refine k_top ej ?_
    have hPn := hP.sub (ws' := [zLF (fun i => match i with | 0 => q1 | j + 1 => u2.1 (j + 1)) u2.2, zlu (fun i => match i with | 0 => q1 | j + 1 => u2.1 (j + 1)) u2.2, zpi (fun i => match i with | 0 => q1 | j + 1 => u2.1 (j + 1)) u2.2, ztp (fun i => match i with | 0 => q1 | j + 1 => u2.1 (j + 1)) u2.2, zbk (fun i => match i with | 0 => q1 | j + 1 => u2.1 (j + 1)) u2.2, zwl (fun i => match i with | 0 => q1 | j + 1 => u2.1 (j + 1)) u2.2, zrw (fun i => match i with | 0 => q1 | j + 1 => u2.1 (j + 1)) u2.2, ztu (fun i => match i with | 0 => q1 | j + 1 => u2.1 (j + 1)) u2.2, zfr (fun i => match i with | 0 => q1 | j + 1 => u2.1 (j + 1)) u2.2, zsl (fun i => match i with | 0 => q1 | j + 1 => u2.1 (j + 1)) u2.2, zwe (fun i => match i with | 0 => q1 | j + 1 => u2.1 (j + 1)) u2.2, ztn (fun i => match i with | 0 => q1 | j + 1 => u2.1 (j + 1)) u2.2, zsz (fun i => match i with | 0 => q1 | j + 1 => u2.1 (j + 1)) u2.2, zpt (fun i => match i with | 0 => q1 | j + 1 => u2.1 (j + 1)) u2.2, zkd (fun i => match i with | 0 => q1 | j + 1 => u2.1 (j + 1)) u2.2, zpr (fun i => match i with | 0 => q1 | j + 1 => u2.1 (j + 1)) u2.2, zfo (fun i => match i with | 0 => q1 | j + 1 => u2.1 (j + 1)) u2.2, zfx (fun i => match i with | 0 => q1 | j + 1 => u2.1 (j + 1)) u2.2, zby (fun i => match i with | 0 => q1 | j + 1 => u2.1 (j + 1)) u2.2, zbs (fun i => match i with | 0 => q1 | j + 1 => u2.1 (j + 1)) u2.2, zM (fun i => if i = 47 then q5 else u6.1 i) u6.2, zMtune (fun i => if i = 47 then q5 else u6.1 i) u6.2, zMfrets (fun i => if i = 47 then q5 else u6.1 i) u6.2, zMslack (fun i => if i = 47 then q5 else u6.1 i) u6.2, zMweight (fun i => if i = 47 then q5 else u6.1 i) u6.2, zMtuning (fun i => if i = 47 then q5 else u6.1 i) u6.2, zMpitch (fun i => if i = 47 then q5 else u6.1 i) u6.2, zMkind (fun i => if i = 47 then q5 else u6.1 i) u6.2, zMprice (fun i => if i = 47 then q5 else u6.1 i) u6.2, zMfixed (fun i => if i = 47 then q5 else u6.1 i) u6.2, zMrow (fun i => if i = 47 then q5 else u6.1 i) u6.2, zMtape (fun i => if i = 47 then q5 else u6.1 i) u6.2]) [0, 1, 2, 3, 4, 5, 6, 7, 8, 9, 10, 11, 12, 13, 14, 15, 16, 17, 18, 19, 20, 21, 22, 23, 24, 25, 26, 27, 28, 29, 30, 31] rfl
    have hDn := hD.sub (ws' := [zLF (fun i => match i with | 0 => q1 | j + 1 => u2.1 (j + 1)) u2.2, zlu (fun i => match i with | 0 => q1 | j + 1 => u2.1 (j + 1)) u2.2, zpi (fun i => match i with | 0 => q1 | j + 1 => u2.1 (j + 1)) u2.2, ztp (fun i => match i with | 0 => q1 | j + 1 => u2.1 (j + 1)) u2.2, zbk (fun i => match i with | 0 => q1 | j + 1 => u2.1 (j + 1)) u2.2, zwl (fun i => match i with | 0 => q1 | j + 1 => u2.1 (j + 1)) u2.2, zrw (fun i => match i with | 0 => q1 | j + 1 => u2.1 (j + 1)) u2.2, ztu (fun i => match i with | 0 => q1 | j + 1 => u2.1 (j + 1)) u2.2, zfr (fun i => match i with | 0 => q1 | j + 1 => u2.1 (j + 1)) u2.2, zsl (fun i => match i with | 0 => q1 | j + 1 => u2.1 (j + 1)) u2.2, zwe (fun i => match i with | 0 => q1 | j + 1 => u2.1 (j + 1)) u2.2, ztn (fun i => match i with | 0 => q1 | j + 1 => u2.1 (j + 1)) u2.2, zsz (fun i => match i with | 0 => q1 | j + 1 => u2.1 (j + 1)) u2.2, zpt (fun i => match i with | 0 => q1 | j + 1 => u2.1 (j + 1)) u2.2, zkd (fun i => match i with | 0 => q1 | j + 1 => u2.1 (j + 1)) u2.2, zpr (fun i => match i with | 0 => q1 | j + 1 => u2.1 (j + 1)) u2.2, zfo (fun i => match i with | 0 => q1 | j + 1 => u2.1 (j + 1)) u2.2, zfx (fun i => match i with | 0 => q1 | j + 1 => u2.1 (j + 1)) u2.2, zby (fun i => match i with | 0 => q1 | j + 1 => u2.1 (j + 1)) u2.2, zbs (fun i => match i with | 0 => q1 | j + 1 => u2.1 (j + 1)) u2.2, zM (fun i => if i = 47 then q5 else u6.1 i) u6.2, zMtune (fun i => if i = 47 then q5 else u6.1 i) u6.2, zMfrets (fun i => if i = 47 then q5 else u6.1 i) u6.2, zMslack (fun i => if i = 47 then q5 else u6.1 i) u6.2, zMweight (fun i => if i = 47 then q5 else u6.1 i) u6.2, zMtuning (fun i => if i = 47 then q5 else u6.1 i) u6.2, zMpitch (fun i => if i = 47 then q5 else u6.1 i) u6.2, zMkind (fun i => if i = 47 then q5 else u6.1 i) u6.2, zMprice (fun i => if i = 47 then q5 else u6.1 i) u6.2, zMfixed (fun i => if i = 47 then q5 else u6.1 i) u6.2, zMrow (fun i => if i = 47 then q5 else u6.1 i) u6.2, zMtape (fun i => if i = 47 then q5 else u6.1 i) u6.2]) [0, 1, 2, 3, 4, 5, 6, 7, 8, 9, 10, 11, 12, 13, 14, 15, 16, 17, 18, 19, 20, 21, 22, 23, 24, 25, 26, 27, 28, 29, 30, 31] (by decide) rfl
    have hKn := hK.sub (tys' := [(u2.2 9, .int), (u2.2 10, .int), (u2.2 11, .int), (u2.2 12, .int), (u2.2 13, .int), (u2.2 14, .int), (u2.2 20, .int), (u2.2 21, .int), (u2.2 22, .int), (u2.2 23, .int), (u2.2 24, .int), (u2.2 25, .int), (u2.2 30, .int), (u2.2 32, .int), (u6.2 2, .int), (u6.2 3, .int), (u6.2 4, .int), (u6.2 5, .int), (u6.2 6, .int), (u6.2 10, .int), (u6.2 11, .int), (u6.2 12, .int), (u6.2 13, .int), (u6.2 35, .int), (u6.2 41, .int)]) [0, 1, 2, 3, 4, 5, 6, 7, 8, 9, 10, 11, 12, 13, 14, 15, 16, 17, 18, 19, 20, 21, 22, 23, 24] rfl
    rcases (show j = 0 ∨ j = 1 ∨ j = 2 ∨ j = 3 ∨ j = 4 ∨ j = 5 ∨ j = 6 ∨ j = 7 ∨ j = 8 ∨ j = 9 ∨ j = 10 ∨ j = 11 ∨ j = 12 ∨ j = 13 ∨ j = 14 ∨ j = 15 ∨ j = 16 ∨ j = 17 ∨ j = 18 ∨ j = 19 ∨ j = 20 ∨ j = 21 ∨ j = 22 ∨ j = 23 ∨ j = 24 ∨ j = 25 ∨ j = 26 ∨ j = 27 ∨ j = 28 ∨ j = 29 ∨ j = 30 ∨ j = 31 by omega) with rfl | rfl | rfl | rfl | rfl | rfl | rfl | rfl | rfl | rfl | rfl | rfl | rfl | rfl | rfl | rfl | rfl | rfl | rfl | rfl | rfl | rfl | rfl | rfl | rfl | rfl | rfl | rfl | rfl | rfl | rfl | rfl
    · refine lv_tableIn (tgt := 168) hx hb dL_law_32 (by decide) (by decide) rfl (by decide) ?_
      exact law_0 C0 (fun i => match i with | 0 => q1 | j + 1 => u2.1 (j + 1)) u2.2 (fun i => if i = 47 then q5 else u6.1 i) u6.2 hKn hPn hDn hS hl
    · refine lv_tableIn (tgt := 201) hx hb dL_law_32 (by decide) (by decide) rfl (by decide) ?_
      exact law_1 C0 (fun i => match i with | 0 => q1 | j + 1 => u2.1 (j + 1)) u2.2 (fun i => if i = 47 then q5 else u6.1 i) u6.2 hKn hPn hDn hS hl
    · refine lv_tableIn (tgt := 234) hx hb dL_law_32 (by decide) (by decide) rfl (by decide) ?_
      exact law_2 C0 (fun i => match i with | 0 => q1 | j + 1 => u2.1 (j + 1)) u2.2 (fun i => if i = 47 then q5 else u6.1 i) u6.2 hKn hPn hDn hS hl
    · refine lv_tableIn (tgt := 267) hx hb dL_law_32 (by decide) (by decide) rfl (by decide) ?_
      exact law_3 C0 (fun i => match i with | 0 => q1 | j + 1 => u2.1 (j + 1)) u2.2 (fun i => if i = 47 then q5 else u6.1 i) u6.2 hKn hPn hDn hS hl
    · refine lv_tableIn (tgt := 290) hx hb dL_law_32 (by decide) (by decide) rfl (by decide) ?_
      exact law_4 C0 (fun i => match i with | 0 => q1 | j + 1 => u2.1 (j + 1)) u2.2 (fun i => if i = 47 then q5 else u6.1 i) u6.2 hKn hPn hDn hS hl
    · refine lv_tableIn (tgt := 323) hx hb dL_law_32 (by decide) (by decide) rfl (by decide) ?_
      exact law_5 C0 (fun i => match i with | 0 => q1 | j + 1 => u2.1 (j + 1)) u2.2 (fun i => if i = 47 then q5 else u6.1 i) u6.2 hKn hPn hDn hS hl
    · refine lv_tableIn (tgt := 366) hx hb dL_law_32 (by decide) (by decide) rfl (by decide) ?_
      exact law_6 C0 (fun i => match i with | 0 => q1 | j + 1 => u2.1 (j + 1)) u2.2 (fun i => if i = 47 then q5 else u6.1 i) u6.2 hKn hPn hDn hS hl
    · refine lv_tableIn (tgt := 379) hx hb dL_law_32 (by decide) (by decide) rfl (by decide) ?_
      exact law_7 C0 (fun i => match i with | 0 => q1 | j + 1 => u2.1 (j + 1)) u2.2 (fun i => if i = 47 then q5 else u6.1 i) u6.2 hKn hPn hDn hS hl
    · refine lv_tableIn (tgt := 392) hx hb dL_law_32 (by decide) (by decide) rfl (by decide) ?_
      exact law_8 C0 (fun i => match i with | 0 => q1 | j + 1 => u2.1 (j + 1)) u2.2 (fun i => if i = 47 then q5 else u6.1 i) u6.2 hKn hPn hDn hS hl
    · refine lv_tableIn (tgt := 435) hx hb dL_law_32 (by decide) (by decide) rfl (by decide) ?_
      exact law_9 C0 (fun i => match i with | 0 => q1 | j + 1 => u2.1 (j + 1)) u2.2 (fun i => if i = 47 then q5 else u6.1 i) u6.2 hKn hPn hDn hS hl
    · refine lv_tableIn (tgt := 478) hx hb dL_law_32 (by decide) (by decide) rfl (by decide) ?_
      exact law_10 C0 (fun i => match i with | 0 => q1 | j + 1 => u2.1 (j + 1)) u2.2 (fun i => if i = 47 then q5 else u6.1 i) u6.2 hKn hPn hDn hS hl
    · refine lv_tableIn (tgt := 501) hx hb dL_law_32 (by decide) (by decide) rfl (by decide) ?_
      exact law_11 C0 (fun i => match i with | 0 => q1 | j + 1 => u2.1 (j + 1)) u2.2 (fun i => if i = 47 then q5 else u6.1 i) u6.2 hKn hPn hDn hS hl
    · refine lv_tableIn (tgt := 554) hx hb dL_law_32 (by decide) (by decide) rfl (by decide) ?_
      exact law_12 C0 (fun i => match i with | 0 => q1 | j + 1 => u2.1 (j + 1)) u2.2 (fun i => if i = 47 then q5 else u6.1 i) u6.2 hKn hPn hDn hS hl
    · refine lv_tableIn (tgt := 577) hx hb dL_law_32 (by decide) (by decide) rfl (by decide) ?_
      exact law_13 C0 (fun i => match i with | 0 => q1 | j + 1 => u2.1 (j + 1)) u2.2 (fun i => if i = 47 then q5 else u6.1 i) u6.2 hKn hPn hDn hS hl
    · refine lv_tableIn (tgt := 590) hx hb dL_law_32 (by decide) (by decide) rfl (by decide) ?_
      exact law_14 C0 (fun i => match i with | 0 => q1 | j + 1 => u2.1 (j + 1)) u2.2 (fun i => if i = 47 then q5 else u6.1 i) u6.2 hKn hPn hDn hS hl
    · refine lv_tableIn (tgt := 603) hx hb dL_law_32 (by decide) (by decide) rfl (by decide) ?_
      exact law_15 C0 (fun i => match i with | 0 => q1 | j + 1 => u2.1 (j + 1)) u2.2 (fun i => if i = 47 then q5 else u6.1 i) u6.2 hKn hPn hDn hS hl
    · refine lv_tableIn (tgt := 626) hx hb dL_law_32 (by decide) (by decide) rfl (by decide) ?_
      exact law_16 C0 (fun i => match i with | 0 => q1 | j + 1 => u2.1 (j + 1)) u2.2 (fun i => if i = 47 then q5 else u6.1 i) u6.2 hKn hPn hDn hS hl
    · refine lv_tableIn (tgt := 649) hx hb dL_law_32 (by decide) (by decide) rfl (by decide) ?_
      exact law_17 C0 (fun i => match i with | 0 => q1 | j + 1 => u2.1 (j + 1)) u2.2 (fun i => if i = 47 then q5 else u6.1 i) u6.2 hKn hPn hDn hS hl
    · refine lv_tableIn (tgt := 672) hx hb dL_law_32 (by decide) (by decide) rfl (by decide) ?_
      exact law_18 C0 (fun i => match i with | 0 => q1 | j + 1 => u2.1 (j + 1)) u2.2 (fun i => if i = 47 then q5 else u6.1 i) u6.2 hKn hPn hDn hS hl
    · refine lv_tableIn (tgt := 685) hx hb dL_law_32 (by decide) (by decide) rfl (by decide) ?_
      exact law_19 C0 (fun i => match i with | 0 => q1 | j + 1 => u2.1 (j + 1)) u2.2 (fun i => if i = 47 then q5 else u6.1 i) u6.2 hKn hPn hDn hS hl
    · refine lv_tableIn (tgt := 698) hx hb dL_law_32 (by decide) (by decide) rfl (by decide) ?_
      exact law_20 C0 (fun i => match i with | 0 => q1 | j + 1 => u2.1 (j + 1)) u2.2 (fun i => if i = 47 then q5 else u6.1 i) u6.2 hKn hPn hDn hS hl
    · refine lv_tableIn (tgt := 721) hx hb dL_law_32 (by decide) (by decide) rfl (by decide) ?_
      exact law_21 C0 (fun i => match i with | 0 => q1 | j + 1 => u2.1 (j + 1)) u2.2 (fun i => if i = 47 then q5 else u6.1 i) u6.2 hKn hPn hDn hS hl
    · refine lv_tableIn (tgt := 734) hx hb dL_law_32 (by decide) (by decide) rfl (by decide) ?_
      exact law_22 C0 (fun i => match i with | 0 => q1 | j + 1 => u2.1 (j + 1)) u2.2 (fun i => if i = 47 then q5 else u6.1 i) u6.2 hKn hPn hDn hS hl
    · refine lv_tableIn (tgt := 777) hx hb dL_law_32 (by decide) (by decide) rfl (by decide) ?_
      exact law_23 C0 (fun i => match i with | 0 => q1 | j + 1 => u2.1 (j + 1)) u2.2 (fun i => if i = 47 then q5 else u6.1 i) u6.2 hKn hPn hDn hS hl
    · refine lv_tableIn (tgt := 790) hx hb dL_law_32 (by decide) (by decide) rfl (by decide) ?_
      exact law_24 C0 (fun i => match i with | 0 => q1 | j + 1 => u2.1 (j + 1)) u2.2 (fun i => if i = 47 then q5 else u6.1 i) u6.2 hKn hPn hDn hS hl
    · refine lv_tableIn (tgt := 813) hx hb dL_law_32 (by decide) (by decide) rfl (by decide) ?_
      exact law_25 C0 (fun i => match i with | 0 => q1 | j + 1 => u2.1 (j + 1)) u2.2 (fun i => if i = 47 then q5 else u6.1 i) u6.2 hKn hPn hDn hS hl
    · refine lv_tableIn (tgt := 826) hx hb dL_law_32 (by decide) (by decide) rfl (by decide) ?_
      exact law_26 C0 (fun i => match i with | 0 => q1 | j + 1 => u2.1 (j + 1)) u2.2 (fun i => if i = 47 then q5 else u6.1 i) u6.2 hKn hPn hDn hS hl
    · refine lv_tableIn (tgt := 849) hx hb dL_law_32 (by decide) (by decide) rfl (by decide) ?_
      exact law_27 C0 (fun i => match i with | 0 => q1 | j + 1 => u2.1 (j + 1)) u2.2 (fun i => if i = 47 then q5 else u6.1 i) u6.2 hKn hPn hDn hS hl
    · refine lv_tableIn (tgt := 862) hx hb dL_law_32 (by decide) (by decide) rfl (by decide) ?_
      exact law_28 C0 (fun i => match i with | 0 => q1 | j + 1 => u2.1 (j + 1)) u2.2 (fun i => if i = 47 then q5 else u6.1 i) u6.2 hKn hPn hDn hS hl
    · refine lv_tableIn (tgt := 875) hx hb dL_law_32 (by decide) (by decide) rfl (by decide) ?_
      exact law_29 C0 (fun i => match i with | 0 => q1 | j + 1 => u2.1 (j + 1)) u2.2 (fun i => if i = 47 then q5 else u6.1 i) u6.2 hKn hPn hDn hS hl
    · refine lv_tableOut (tgt := 898) hx hb dL_law_32 (by decide) (by decide) ?_
      exact law_end C0 hS hl
    · refine lv_tableOut (tgt := 898) hx hb dL_law_32 (by decide) (by decide) ?_
      exact law_end C0 hS hl
-- ===== YOUR PART ENDS =====
set_option maxHeartbeats 4000000 in
theorem lw_walk (l : Launch) (b : Addr) (xs : List Int32) : MetFree l x (headSpec (Jvm.Cond.code x code maxLocals ret :: tables_1) room_1) (lw_P b xs) (fun _ _ _ _ _ => True) lw_Q := by
  refine MetFree.of_bodyS (code := code) (maxLocals := maxLocals) (ret := ret) (by decide) ?_ ?_
  · intro args s m h hn
    obtain ⟨meth, c, h1, h2, h3, h4, h5, h6, -, -⟩ := Cond.code_spec hn (atoms_spec (ws := Jvm.Cond.code x code maxLocals ret :: tables_1) h _ List.mem_cons_self)
    exact ⟨meth, c, h1, h2, h3, h4, h5, h6⟩
  · intro p e s m args below meth c s₁ B hml0 hP _
    obtain ⟨rfl, hx, hbd, hgv⟩ := hP
    obtain ⟨scr, harrAt, hlist, hof, hsmall⟩ := hx
    obtain ⟨hcb, hkn, -, -⟩ := State.arrayAt?_spec harrAt
    have hown : s.vm.findClass R_law = some m.cls := findClass_of_methodNamed B.named
    have hts0 : ∀ c ∈ (Jvm.Cond.code x code maxLocals ret :: tables_1), c.before #[Value.ref b] s = true := atoms_spec (ws := Jvm.Cond.code x code maxLocals ret :: tables_1) B.pre
    have hts : ∀ w ∈ lw_tbl, w.before #[Value.ref b] s = true := k2_hts_sels lw_privs (fun w hw => hts0 w (List.mem_cons_of_mem _ hw)) lw_privs_ok
    have hml : c.maxLocals = 4 := B.maxLocals_eq (hts0 _ List.mem_cons_self)
    have X₀ : Stand p l e room_1 s m #[Value.ref b] below meth c s₁ [] 0 0 := Stand.of_body B
    have hh0 : s₁.heap = s.heap := by rw [B.state]; rfl
    have hsz : scr.slots.size = xs.length := by rw [← Array.length_toList, hlist, List.length_map]
    have hval : ∀ j : Nat, j < xs.length → scr.slots[j]? = some (.int (xs.getD j 0)) := fun j hj => by
      rw [← Array.getElem?_toList, hlist]
      simp [hj]
    have hbl : b < s.heap.size := (Array.getElem?_eq_some_iff.mp hcb).1
    have hX : va_X b xs.length (fun j => xs.getD j 0) s s.heap := ⟨scr, hcb, hof, hkn, hsz, hval⟩
    have K : W p l e room_1 s m #[Value.ref b] below meth c s₁.heap [] 0 0 (lw_Z below #[Value.ref b] s) (entryFrame m ([Value.ref b] : List Value).toArray 4) := by
      rw [hh0]
      exact whole_start l hbd ⟨B.exec, B.bytes, B.returns, hml, hown, hts, hX, hbl, B.notSynchronized, hgv⟩
    obtain ⟨t, a1, o, b1, b2, b3⟩ := K s₁ rfl X₀
    exact ⟨t, o, a1, b1, b2, b3⟩
theorem lw_pre_spec {args : Array Value} {s : State} (h : (Jvm.Cond.and given_1 narrow_1).before args s = true) (hr : rest_1_c.before args s = true) : ∃ (b : Addr) (xs : List Int32), lw_P b xs args s := by
  have hs := flat_of_before _ h
  have hq := flat_of_before _ hr
  have hc : (Cond.count 1).before args s = true := hs _ (by decide +kernel)
  have harr : (Cond.arrayOf (.arg 0) .int).before args s = true := hs _ (by decide +kernel)
  have hle : (Cond.le (.length (.arg 0)) (.int 5)).before args s = true := hs _ (by decide +kernel)
  have hlen : (Cond.isInt (.length (.arg 0))).before args s = true := hq _ (by decide +kernel)
  have hall : (Cond.all (.arg 0) (.isInt (.elem (.arg 0) (.index 0)))).before args s = true := hq _ (by decide +kernel)
  obtain ⟨b, xs, hb, hx⟩ := State.ints_of_pre rfl harr hlen hall
  have hsm : xs.length < 2 ^ 31 := hx.choose_spec.2.2.2
  have hev : (Term.length (.arg 0)).eval args s none [] s = some (.int xs.length.toInt32) := hx.length_eval hb
  have hv := Cond.le_ints hev (show (Term.int 5).eval args s none [] s = some (.int 5) from rfl)
  have hd : xs.length.toInt32 ≤ 5 := by
    simpa [Cond.before, Cond.holds, hv] using hle
  have hN : xs.length ≤ 5 := (Int32.ofNat_le_ofNat hsm (by decide)).mp (show Int32.ofNat xs.length ≤ Int32.ofNat 5 from hd)
  exact ⟨b, xs, Cond.one_arg hc (show args[0]? = some (.ref b) from hb), hx, hN, h⟩
theorem lw_comes (l : Launch) : Comes l x (Jvm.Cond.code x code maxLocals ret :: tables_1) room_1 (fun tb e args s => Calls_1 tb e args s ∧ rest_1 tb e args s ∧ Pre_1 tb e args s)
    (fun _ _ args s o t => lw_Q args s o t) := by
  intro p e ha hc hk s m args below hf hfit hheap happ hpre
  obtain ⟨b, xs, hP⟩ := lw_pre_spec hpre.2.2 hpre.2.1
  obtain ⟨k, o, h1, h2, h3, hQ⟩ := lw_walk l b xs p e ha hc hk s m args below hf ((Spec.applies_iff_loose hf).mp happ).1 hP trivial
  exact ⟨k, o, h1, h2, h3, hQ⟩
theorem lw_frame {s t : State} {o : Outcome} {args : Array Value} (h : Framed s o t [] 600000 7302250) :
    Framed s o t (fieldLocs frame_1_writes args s ++ arrayLocs frame_1_arrays args s ++ staticLocs frame_1_statics s) 600000 7302250 := h
theorem lw_limb (L : Cond) (hL : ∀ (args : Array Value) (s t : State), L.after args s (.returned (some (.int 1))) t = true) :
    ArmFor flags0 classFile x code maxLocals ret World_1 tables_1 room_1 Calls_1 rest_1 Pre_1
      (fun tb e a s o t => postC L tb e a s o t ∧ Framed s o t (fieldLocs frame_1_writes a s ++ arrayLocs frame_1_arrays a s ++ staticLocs frame_1_statics s) 600000 7302250) := by
  intro l _ _ _ p e ha hc hk s m args below hf hfit hheap happ hpre
  obtain ⟨k, o, h1, h2, h3, rfl, hF⟩ := lw_comes l p e ha hc hk s m args below hf hfit hheap happ hpre
  exact ⟨k, _, h1, h2, h3, hL args s _, lw_frame hF⟩
theorem i_vc : Claimed_1_1 ∧ Claimed_1_2 := ⟨lw_limb limb_1_1 (fun args s t => by simp [limb_1_1, Cond.after, Cond.holds, Cond.value]), lw_limb limb_1_2 (fun args s t => Cond.after_iff.mpr (by
  first | (rw [show limb_1_2 = Cond.eq .result (.int 1) from rfl, Cond.eq_ints (x := 1) (y := 1) rfl rfl]; simp; done) | (simp [limb_1_2, Cond.value, Term.eval]; done)))⟩


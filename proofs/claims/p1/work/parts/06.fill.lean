theorem dF_0 : decode cJ7_fill_53178 0 = .ok (.iconst 0, 1) := by decide +kernel
theorem dF_1 : decode cJ7_fill_53178 1 = .ok (.istore_n 2, 1) := by decide +kernel
theorem dF_2 : decode cJ7_fill_53178 2 = .ok (.aload_n 0, 1) := by decide +kernel
theorem dF_3 : decode cJ7_fill_53178 3 = .ok (.arraylength, 1) := by decide +kernel
theorem dF_4 : decode cJ7_fill_53178 4 = .ok (.istore_n 3, 1) := by decide +kernel
theorem dF_5 : decode cJ7_fill_53178 5 = .ok (.iload_n 2, 1) := by decide +kernel
theorem dF_6 : decode cJ7_fill_53178 6 = .ok (.iload_n 3, 1) := by decide +kernel
theorem dF_7 : decode cJ7_fill_53178 7 = .ok (.if_icmp .ge 13, 3) := by decide +kernel
theorem dF_10 : decode cJ7_fill_53178 10 = .ok (.aload_n 0, 1) := by decide +kernel
theorem dF_11 : decode cJ7_fill_53178 11 = .ok (.iload_n 2, 1) := by decide +kernel
theorem dF_12 : decode cJ7_fill_53178 12 = .ok (.iload_n 1, 1) := by decide +kernel
theorem dF_13 : decode cJ7_fill_53178 13 = .ok (.iastore, 1) := by decide +kernel
theorem dF_14 : decode cJ7_fill_53178 14 = .ok (.iinc 2 1, 3) := by decide +kernel
theorem dF_17 : decode cJ7_fill_53178 17 = .ok (.goto (-12), 3) := by decide +kernel
theorem dF_20 : decode cJ7_fill_53178 20 = .ok (.return_, 1) := by decide +kernel
set_option maxHeartbeats 4000000 in
set_option maxRecDepth 100000 in
/-- Arrays.fill(a, v): every place of a is v -/
theorem c_fill (l : Launch) (dC : Nat → ClassId) (dI : Nat → Nat → Nat) (h0 : Nat) (cA : ClassId) (n : Nat) (f : Nat → Int32) (v : Int32) (hn : n < 2 ^ 31) (sz : Nat) : Cv l (dC, dI) yJ7_fill_53178 cJ7_fill_53178 4 { frames := 0, cells := 0, slots := 0, locals := 0 } [.ref h0, .int v] [(cA, .int)] [(h0, .inl (cA, n, .inl f))] sz 0 0 Unit (fun _ => True) (fun _ => [(h0, .inl (cA, n, .inl (fun _ => v)))]) (fun _ => [(cA, .int)]) := by
  refine Cv_of (lv := [(0, .ref h0), (1, .int v)]) (by decide) rfl rfl ?_
  intro p e s m below meth c A ls hx hb hml hr hown hta hlocks hnm hnw hP hD hK hS hA hl
  have loop : ∀ (d i : Nat) (g : Nat → Int32) (H : Heap) (locs : List Loc) (ls : Array Slot), i + d = n → (∀ j, j < i → g j = v) → va_P (dC, dI) vwCl [(h0, .inl (cA, n, .inl g))] H → va_D A [(h0, .inl (cA, n, .inl g))] → va_S A s.heap H locs → lv_has ls 4 [(2, .int (nI i)), (3, .int (nI n)), (0, .ref h0), (1, .int v)] →
      W p l e { frames := 0, cells := 0, slots := 0, locals := 0 } s m [.ref h0, .int v].toArray below meth c H locs 0 0 (MQ below (va_Qv (fun _ => True) (fun (u : Unit) t => pst (dC, dI) A ((fun _ => [(h0, .inl (cA, n, .inl (fun _ => v)))]) u) ((fun _ => [(cA, .int)]) u) t) A) [.ref h0, .int v].toArray s 0 0 A) (F0 m 5 ls []) := by
    intro d
    induction d with
    | zero =>
      intro i g H locs ls hi hg hP hD hS hl
      have hi : i = n := hi
      subst hi
      refine lv_iload_n hx hb dF_5 rfl (lv_at hl 0 rfl) ?_
      refine lv_iload_n hx hb dF_6 rfl (lv_at hl 1 rfl) ?_
      refine lv_icmp_ge (tgt := 20) hx hb dF_7 (by decide) (fun _ => ?_) (fun c => absurd (nI_le (Nat.le_refl i) hn) c)
      exact k_vret () hx hb hr hlocks (P_congr hg hP) (D_one hD) (hK.sub (tys' := [(cA, .int)]) [0] rfl) hS trivial dF_20
    | succ d ih =>
      intro i g H locs ls hi hg hP hD hS hl
      have hlt : i < n := by omega
      refine lv_iload_n hx hb dF_5 rfl (lv_at hl 0 rfl) ?_
      refine lv_iload_n hx hb dF_6 rfl (lv_at hl 1 rfl) ?_
      refine lv_icmp_ge (tgt := 20) hx hb dF_7 (by decide) (fun c => absurd c (nI_ge hlt hn)) (fun _ => ?_)
      refine lv_aload_n hx hb dF_10 rfl (lv_at hl 2 rfl) ?_
      refine lv_iload_n hx hb dF_11 rfl (lv_at hl 0 rfl) ?_
      refine lv_iload_n hx hb dF_12 rfl (lv_at hl 3 rfl) ?_
      refine va_iast hx hb hK hP hD hS 0 0 rfl rfl (vp_in_nI hlt hn) dF_13 (fun H locs hP hD hS => ?_)
      rw [nI_clamp (show i < 2 ^ 31 by omega)] at hP hD
      have hP : va_P (dC, dI) vwCl [(h0, .inl (cA, n, .inl (upd g i v)))] H := hP
      have hD : va_D A [(h0, .inl (cA, n, .inl (upd g i v)))] := hD
      refine lv_iinc (v := nI (i + 1)) (lv' := [(2, .int (nI (i + 1))), (3, .int (nI n)), (0, .ref h0), (1, .int v)]) hx hb dF_14 hl (k := 0) rfl (nI_1 i) (by decide) rfl (fun ls hl => ?_)
      refine lv_goto (tgt := 5) hx hb dF_17 (by decide) ?_
      refine ih (i + 1) (upd g i v) H locs ls (by omega) (fun j hj => ?_) hP hD hS hl
      unfold upd
      by_cases h : j = i
      · rw [if_pos h]
      · rw [if_neg h]; exact hg j (by omega)
  refine lv_iconst (v := 0) hx hb dF_0 (by decide) ?_
  refine lv_istore_n (lv' := [(2, .int 0), (0, .ref h0), (1, .int v)]) hx hb dF_1 rfl hl (by decide) rfl (fun ls hl => ?_)
  refine lv_aload_n hx hb dF_2 rfl (lv_at hl 1 rfl) ?_
  refine va_alen hx hb hK hP 0 0 rfl rfl (v := nI n) rfl dF_3 ?_
  refine lv_istore_n (lv' := [(3, .int (nI n)), (2, .int 0), (0, .ref h0), (1, .int v)]) hx hb dF_4 rfl hl (by decide) rfl (fun ls hl => ?_)
  exact loop n 0 f s.heap [] ls (by omega) (fun j hj => absurd hj (Nat.not_lt_zero j)) hP hD hS (lv_sub (l' := [(2, .int (nI 0)), (3, .int (nI n)), (0, .ref h0), (1, .int v)]) hl [1, 0, 2, 3] rfl)

set_option maxHeartbeats 4000000 in
set_option maxRecDepth 100000 in
theorem c_within (l : Launch) (dC : Nat → ClassId) (dI : Nat → Nat → Nat) (p0 : Int32) (p1 : Int32) (sz : Nat) : Ci l (dC, dI) yX10_within cX10_within 2 (some .boolean) { frames := 0, cells := 0, slots := 0, locals := 0 } [.int p0, .int p1] [] [] sz 0 0 Unit (fun r _ => r = if inB p0 0 p1 then 1 else 0) (fun _ => []) (fun _ => []) := by
  refine Ci_of (lv := [(0, .int p0), (1, .int p1)]) (by decide) rfl rfl ?_
  intro p e s m below meth c A ls hx hb hml hr hown hta hlocks hnm hnw hP hD hK hS hA hl
  have hown : s.vm.findClass RX10 = some m.cls := hown
  refine lv_iload_n hx hb dX10_within_0 rfl (lv_at hl 0 rfl) ?_
  refine lv_if_lt (tgt := 13) hx hb dX10_within_1 (by decide) (fun c_1 => ?_) (fun c_1 => ?_)
  · refine lv_iconst (v := 0) hx hb dX10_within_13 (by decide) ?_
    refine W.widen (k := 0) (n := 0) (Nat.le_of_ble_eq_true rfl) (Nat.le_of_ble_eq_true rfl) ?_
    exact k_iret () hx hb hr hlocks rfl P_nil D_nil (hK.sub (tys' := []) [] rfl) hS (by rw [inB_f1 c_1]; rfl) dX10_within_14
  · refine lv_iload_n hx hb dX10_within_4 rfl (lv_at hl 0 rfl) ?_
    refine lv_iload_n hx hb dX10_within_5 rfl (lv_at hl 1 rfl) ?_
    refine lv_icmp_gt (tgt := 13) hx hb dX10_within_6 (by decide) (fun c_2 => ?_) (fun c_2 => ?_)
    · refine lv_iconst (v := 0) hx hb dX10_within_13 (by decide) ?_
      refine W.widen (k := 0) (n := 0) (Nat.le_of_ble_eq_true rfl) (Nat.le_of_ble_eq_true rfl) ?_
      exact k_iret () hx hb hr hlocks rfl P_nil D_nil (hK.sub (tys' := []) [] rfl) hS (by rw [inB_f2 c_2]; rfl) dX10_within_14
    · refine lv_iconst (v := 1) hx hb dX10_within_9 (by decide) ?_
      refine lv_goto (tgt := 14) hx hb dX10_within_10 (by decide) ?_
      refine W.widen (k := 0) (n := 0) (Nat.le_of_ble_eq_true rfl) (Nat.le_of_ble_eq_true rfl) ?_
      exact k_iret () hx hb hr hlocks rfl P_nil D_nil (hK.sub (tys' := []) [] rfl) hS (by rw [inB_t c_1 c_2]; rfl) dX10_within_14
set_option maxHeartbeats 4000000 in
set_option maxRecDepth 100000 in
theorem m_in (l : Launch) (dC : Nat → ClassId) (dI : Nat → Nat → Nat) (g : Nat → Nat) (h : Nat → ClassId) (p0 : Int32) (p1 : Int32) (p2 : Int32) (sz : Nat) : Ci l (dC, dI) yX11_in cX11_in 4 (some .boolean) { frames := 0, cells := 0, slots := 0, locals := 0 } [.ref (g 47), .int p0, .int p1, .int p2] [] [zM g h] sz 0 0 Unit (fun r _ => r = if inB p0 p1 p2 then 1 else 0) (fun u => [zM g h]) (fun _ => []) := by
  refine Ci_of (lv := [(0, .ref (g 47)), (1, .int p0), (2, .int p1), (3, .int p2)]) (by decide) rfl rfl ?_
  intro p e s m below meth c A ls hx hb hml hr hown hta hlocks hnm hnw hP hD hK hS hA hl
  have hown : s.vm.findClass RX11 = some m.cls := hown
  refine lv_iload_n hx hb dX11_in_0 rfl (lv_at hl 1 rfl) ?_
  refine lv_iload_n hx hb dX11_in_1 rfl (lv_at hl 2 rfl) ?_
  refine lv_icmp_lt (tgt := 14) hx hb dX11_in_2 (by decide) (fun c_1 => ?_) (fun c_1 => ?_)
  · refine lv_iconst (v := 0) hx hb dX11_in_14 (by decide) ?_
    have hP9 := hP.sub (ws' := [zM g h]) [0] rfl
    have hD9 := hD.sub (ws' := [zM g h]) [0] (by decide) rfl
    have hK9 := hK.sub (tys' := []) [] rfl
    refine W.widen (k := 0) (n := 0) (Nat.le_of_ble_eq_true rfl) (Nat.le_of_ble_eq_true rfl) ?_
    exact k_iret () hx hb hr hlocks rfl hP9 hD9 hK9 hS (by rw [inB_f1 c_1]; rfl) dX11_in_15
  · refine lv_iload_n hx hb dX11_in_5 rfl (lv_at hl 1 rfl) ?_
    refine lv_iload_n hx hb dX11_in_6 rfl (lv_at hl 3 rfl) ?_
    refine lv_icmp_gt (tgt := 14) hx hb dX11_in_7 (by decide) (fun c_2 => ?_) (fun c_2 => ?_)
    · refine lv_iconst (v := 0) hx hb dX11_in_14 (by decide) ?_
      have hP9 := hP.sub (ws' := [zM g h]) [0] rfl
      have hD9 := hD.sub (ws' := [zM g h]) [0] (by decide) rfl
      have hK9 := hK.sub (tys' := []) [] rfl
      refine W.widen (k := 0) (n := 0) (Nat.le_of_ble_eq_true rfl) (Nat.le_of_ble_eq_true rfl) ?_
      exact k_iret () hx hb hr hlocks rfl hP9 hD9 hK9 hS (by rw [inB_f2 c_2]; rfl) dX11_in_15
    · refine lv_iconst (v := 1) hx hb dX11_in_10 (by decide) ?_
      refine lv_goto (tgt := 15) hx hb dX11_in_11 (by decide) ?_
      have hP9 := hP.sub (ws' := [zM g h]) [0] rfl
      have hD9 := hD.sub (ws' := [zM g h]) [0] (by decide) rfl
      have hK9 := hK.sub (tys' := []) [] rfl
      refine W.widen (k := 0) (n := 0) (Nat.le_of_ble_eq_true rfl) (Nat.le_of_ble_eq_true rfl) ?_
      exact k_iret () hx hb hr hlocks rfl hP9 hD9 hK9 hS (by rw [inB_t c_1 c_2]; rfl) dX11_in_15
set_option maxHeartbeats 4000000 in
set_option maxRecDepth 100000 in
theorem c_exch (l : Launch) (dC : Nat → ClassId) (dI : Nat → Nat → Nat) (h0 : Nat) (cA : ClassId) (n : Nat) (f : Nat → Int32) (p0 : Int32) (p1 : Int32) (hi : vp_in p0 n) (sz : Nat) : Ci l (dC, dI) yX10_exchange cX10_exchange 4 (some .int) { frames := 0, cells := 0, slots := 0, locals := 0 } [.ref h0, .int p0, .int p1] [(cA, .int)] [(h0, .inl (cA, n, .inl f))] sz 0 0 Unit (fun r _ => r = f p0.toNatClampNeg) (fun _ => []) (fun _ => []) := by
  refine Ci_of (lv := [(0, .ref h0), (1, .int p0), (2, .int p1)]) (by decide) rfl rfl ?_
  intro p e s m below meth c A ls hx hb hml hr hown hta hlocks hnm hnw hP hD hK hS hA hl
  have hown : s.vm.findClass RX10 = some m.cls := hown
  refine lv_aload_n hx hb dX10_exchange_0 rfl (lv_at hl 0 rfl) ?_
  refine lv_iload_n hx hb dX10_exchange_1 rfl (lv_at hl 1 rfl) ?_
  refine va_iald hx hb hK hP 0 0 rfl rfl hi dX10_exchange_2 ?_
  refine lv_istore_n (lv' := [(3, .int (f (p0).toNatClampNeg)), (0, .ref h0), (1, .int p0), (2, .int p1)]) hx hb dX10_exchange_3 rfl hl (by decide) rfl (fun ls hl => ?_)
  refine lv_aload_n hx hb dX10_exchange_4 rfl (lv_at hl 1 rfl) ?_
  refine lv_iload_n hx hb dX10_exchange_5 rfl (lv_at hl 2 rfl) ?_
  refine lv_iload_n hx hb dX10_exchange_6 rfl (lv_at hl 3 rfl) ?_
  refine va_iast hx hb hK hP hD hS 0 0 rfl rfl hi dX10_exchange_7 (fun H locs hP hD hS => ?_)
  have hP : va_P (dC, dI) vwCl [(h0, .inl (cA, n, .inl (upd f ((p0 : Int32).toNatClampNeg) p1)))] H := hP
  have hD : va_D A [(h0, .inl (cA, n, .inl (upd f ((p0 : Int32).toNatClampNeg) p1)))] := hD
  refine lv_iload_n hx hb dX10_exchange_8 rfl (lv_at hl 0 rfl) ?_
  refine W.widen (k := 0) (n := 0) (Nat.le_of_ble_eq_true rfl) (Nat.le_of_ble_eq_true rfl) ?_
  exact k_iret () hx hb hr hlocks rfl P_nil D_nil (hK.sub (tys' := []) [] rfl) hS rfl dX10_exchange_9
set_option maxHeartbeats 4000000 in
set_option maxRecDepth 100000 in
theorem c_drop (l : Launch) (dC : Nat → ClassId) (dI : Nat → Nat → Nat) (q : Nat → Nat) (k : Nat → ClassId) (sz : Nat) : Cv l (dC, dI) yX8_drop cX8_drop 1 { frames := 0, cells := 0, slots := 0, locals := 0 } [.ref (q 8)] [] [zwl q k] sz 0 0 Unit (fun _ => True) (fun _ => []) (fun _ => []) := by
  refine Cv_of (lv := [(0, .ref (q 8))]) (by decide) rfl rfl ?_
  intro p e s m below meth c A ls hx hb hml hr hown hta hlocks hnm hnw hP hD hK hS hA hl
  have hown : s.vm.findClass RX8 = some m.cls := hown
  refine lv_aload_n hx hb dX8_drop_0 rfl (lv_at hl 0 rfl) ?_
  refine lv_iconst (v := 0) hx hb dX8_drop_1 (by decide) ?_
  refine va_put (D := (dC, dI)) (ci := 7) (v := .int 0) (ty := .int) (C := RX8) (T := TX8) (N := 5) hx hb hta inlX8 tyX8 tyX8_ok nmX8 hown hK hP hD hS 0 rfl rfl 2 (by decide) (hta _ fl_X8_18) (fun _ h9 => h9) rfl (by decide +kernel) rfl rfl (Nat.le_of_ble_eq_true rfl) dX8_drop_2 (fun H locs hP hD hS => ?_)
  have hP : va_P (dC, dI) vwCl [(q 8, .inr (7, [.ref (q 33), .ref (q 34), .int 0, .int (-1), .int 0]))] H := hP
  have hD : va_D A [(q 8, .inr (7, [.ref (q 33), .ref (q 34), .int 0, .int (-1), .int 0]))] := hD
  refine lv_aload_n hx hb dX8_drop_5 rfl (lv_at hl 0 rfl) ?_
  refine lv_iconst (v := (-1)) hx hb dX8_drop_6 (by decide) ?_
  refine va_put (D := (dC, dI)) (ci := 7) (v := .int (-1)) (ty := .int) (C := RX8) (T := TX8) (N := 5) hx hb hta inlX8 tyX8 tyX8_ok nmX8 hown hK hP hD hS 0 rfl rfl 3 (by decide) (hta _ fl_X8_22) (fun _ h9 => h9) rfl (by decide +kernel) rfl rfl (Nat.le_of_ble_eq_true rfl) dX8_drop_7 (fun H locs hP hD hS => ?_)
  have hP : va_P (dC, dI) vwCl [(q 8, .inr (7, [.ref (q 33), .ref (q 34), .int 0, .int (-1), .int 0]))] H := hP
  have hD : va_D A [(q 8, .inr (7, [.ref (q 33), .ref (q 34), .int 0, .int (-1), .int 0]))] := hD
  refine lv_aload_n hx hb dX8_drop_10 rfl (lv_at hl 0 rfl) ?_
  refine lv_iconst (v := 0) hx hb dX8_drop_11 (by decide) ?_
  refine va_put (D := (dC, dI)) (ci := 7) (v := .int 0) (ty := .boolean) (C := RX8) (T := TX8) (N := 5) hx hb hta inlX8 tyX8 tyX8_ok nmX8 hown hK hP hD hS 0 rfl rfl 4 (by decide) (hta _ fl_X8_25) (fun _ h9 => h9) rfl (by decide +kernel) rfl rfl (Nat.le_of_ble_eq_true rfl) dX8_drop_12 (fun H locs hP hD hS => ?_)
  have hP : va_P (dC, dI) vwCl [(q 8, .inr (7, [.ref (q 33), .ref (q 34), .int 0, .int (-1), .int 0]))] H := hP
  have hD : va_D A [(q 8, .inr (7, [.ref (q 33), .ref (q 34), .int 0, .int (-1), .int 0]))] := hD
  refine W.widen (k := 0) (n := 0) (Nat.le_of_ble_eq_true rfl) (Nat.le_of_ble_eq_true rfl) ?_
  exact k_vret () hx hb hr hlocks P_nil D_nil (hK.sub (tys' := []) [] rfl) hS trivial dX8_drop_15
set_option maxHeartbeats 4000000 in
set_option maxRecDepth 100000 in
theorem c_atHand (l : Launch) (dC : Nat → ClassId) (dI : Nat → Nat → Nat) (q : Nat → Nat) (k : Nat → ClassId) (sz : Nat) : Ci l (dC, dI) yX8_atHand cX8_atHand 1 (some .boolean) { frames := 0, cells := 0, slots := 0, locals := 0 } [.ref (q 8)] [] [zwl q k] sz 0 0 Unit (fun r _ => r = 0) (fun _ => []) (fun _ => []) := by
  refine Ci_of (lv := [(0, .ref (q 8))]) (by decide) rfl rfl ?_
  intro p e s m below meth c A ls hx hb hml hr hown hta hlocks hnm hnw hP hD hK hS hA hl
  have hown : s.vm.findClass RX8 = some m.cls := hown
  refine lv_aload_n hx hb dX8_atHand_0 rfl (lv_at hl 0 rfl) ?_
  refine va_get (D := (dC, dI)) (ci := 7) (v := .int (-1)) (C := RX8) (T := TX8) (N := 5) hx hb hta inlX8 hown hK hP 0 rfl rfl 3 (by decide) (hta _ fl_X8_22) (fun _ h9 => h9) rfl dX8_atHand_1 ?_
  refine lv_iconst (v := (-1)) hx hb dX8_atHand_4 (by decide) ?_
  refine lv_icmp_eq (tgt := 12) hx hb dX8_atHand_5 (by decide) (fun _ => ?_) (fun c => absurd (by decide) c)
  refine lv_iconst (v := 0) hx hb dX8_atHand_12 (by decide) ?_
  refine W.widen (k := 0) (n := 0) (Nat.le_of_ble_eq_true rfl) (Nat.le_of_ble_eq_true rfl) ?_
  exact k_iret () hx hb hr hlocks rfl P_nil D_nil (hK.sub (tys' := []) [] rfl) hS rfl dX8_atHand_13
set_option maxHeartbeats 4000000 in
set_option maxRecDepth 100000 in
theorem c_forgetAnswers (l : Launch) (dC : Nat → ClassId) (dI : Nat → Nat → Nat) (q : Nat → Nat) (k : Nat → ClassId) (sz : Nat) : Cv l (dC, dI) yX10_forgetAnswers cX10_forgetAnswers 1 { frames := 1, cells := 0, slots := 0, locals := 20 } [.ref (q 0)] [] [zLF q k, zwl q k] sz 0 0 Unit (fun _ => True) (fun u => [zLF q k]) (fun _ => []) := by
  refine Cv_of (lv := [(0, .ref (q 0))]) (by decide) rfl rfl ?_
  intro p e s m below meth c A ls hx hb hml hr hown hta hlocks hnm hnw hP hD hK hS hA hl
  have hown : s.vm.findClass RX10 = some m.cls := hown
  refine lv_aload_n hx hb dX10_forgetAnswers_0 rfl (lv_at hl 0 rfl) ?_
  refine va_get (D := (dC, dI)) (ci := 9) (v := .ref (q 8)) (C := RX10) (T := TX10) (N := 15) hx hb hta inlX10 hown hK hP 0 rfl rfl 7 (by decide) (hta _ fl_X10_61) (fun _ h9 => h9) rfl dX10_forgetAnswers_1 ?_
  refine kVNv (b := (q 8)) (n := 0) (As := []) (rest := []) ⟨hx, hb, hml, hown, hta⟩ hnw (c_drop l dC dI q k  s.heap.size) cd_X8_drop iz_X8 nm_X10_311 im_X8_drop se_X8_X8_drop (by decide +kernel) rfl (Nat.le_of_ble_eq_true rfl) (Nat.le_of_ble_eq_true rfl) rfl rfl (Nat.le_of_ble_eq_true rfl) (Nat.le_of_ble_eq_true rfl) hP hD hK hS hA [1] [0] [] rfl (wr := [zLF q k]) rfl (by decide) (by decide) (by decide) rfl rfl 0 rfl hl.1 rfl (Nat.le_of_ble_eq_true rfl) dX10_forgetAnswers_4 (fun u1 H locs hw2 hP hD hK hS => ?_)
  have hP : va_P (dC, dI) vwCl [zLF q k] H := hP
  have hD : va_D A [zLF q k] := hD
  have hK : va_K (dC, dI) vwCl [] s := hK
  refine lv_aload_n hx hb dX10_forgetAnswers_7 rfl (lv_at hl 0 rfl) ?_
  refine lv_iconst (v := 0) hx hb dX10_forgetAnswers_8 (by decide) ?_
  refine va_put (D := (dC, dI)) (ci := 9) (v := .int 0) (ty := .boolean) (C := RX10) (T := TX10) (N := 15) hx hb hta inlX10 tyX10 tyX10_ok nmX10 hown hK hP hD hS 0 rfl rfl 12 (by decide) (hta _ fl_X10_80) (fun _ h9 => h9) rfl (by decide +kernel) rfl rfl (Nat.le_of_ble_eq_true rfl) dX10_forgetAnswers_9 (fun H locs hP hD hS => ?_)
  have hP : va_P (dC, dI) vwCl [(q 0, .inr (9, [.ref (q 1), .ref (q 2), .ref (q 3), .ref (q 4), .ref (q 5), .ref (q 6), .ref (q 7), .ref (q 8), .ref (q 9), .int 0, .null, .null, .int 0, .int 0, .int 0]))] H := hP
  have hD : va_D A [(q 0, .inr (9, [.ref (q 1), .ref (q 2), .ref (q 3), .ref (q 4), .ref (q 5), .ref (q 6), .ref (q 7), .ref (q 8), .ref (q 9), .int 0, .null, .null, .int 0, .int 0, .int 0]))] := hD
  have hP9 := hP.sub (ws' := [(q 0, .inr (9, [.ref (q 1), .ref (q 2), .ref (q 3), .ref (q 4), .ref (q 5), .ref (q 6), .ref (q 7), .ref (q 8), .ref (q 9), .int 0, .null, .null, .int 0, .int 0, .int 0]))]) [0] rfl
  have hD9 := hD.sub (ws' := [(q 0, .inr (9, [.ref (q 1), .ref (q 2), .ref (q 3), .ref (q 4), .ref (q 5), .ref (q 6), .ref (q 7), .ref (q 8), .ref (q 9), .int 0, .null, .null, .int 0, .int 0, .int 0]))]) [0] (by decide) rfl
  have hK9 := hK.sub (tys' := []) [] rfl
  refine W.widen (k := 0) (n := 0) (Nat.le_of_ble_eq_true rfl) (Nat.le_of_ble_eq_true rfl) ?_
  exact k_vret () hx hb hr hlocks hP9 hD9 hK9 hS trivial dX10_forgetAnswers_12
set_option maxHeartbeats 4000000 in
set_option maxRecDepth 100000 in
theorem c_forgetAll (l : Launch) (dC : Nat → ClassId) (dI : Nat → Nat → Nat) (q : Nat → Nat) (k : Nat → ClassId) (sz : Nat) : Cv l (dC, dI) yX2_forgetAll cX2_forgetAll 1 { frames := 1, cells := 0, slots := 0, locals := 23 } [.ref (q 5)] [(k 32, .int)] [zbk q k, zbs q k] sz 0 0 Unit (fun _ => True) (fun _ => []) (fun _ => []) := by
  refine Cv_of (lv := [(0, .ref (q 5))]) (by decide) rfl rfl ?_
  intro p e s m below meth c A ls hx hb hml hr hown hta hlocks hnm hnw hP hD hK hS hA hl
  have hown : s.vm.findClass RX2 = some m.cls := hown
  refine lv_aload_n hx hb dX2_forgetAll_0 rfl (lv_at hl 0 rfl) ?_
  refine va_get (D := (dC, dI)) (ci := 1) (v := .ref (q 32)) (C := RX2) (T := TX2) (N := 4) hx hb hta inlX2 hown hK hP 0 rfl rfl 3 (by decide) (hta _ fl_X2_15) (fun _ h9 => h9) rfl dX2_forgetAll_1 ?_
  refine lv_iconst (v := (-1)) hx hb dX2_forgetAll_4 (by decide) ?_
  refine kSv (b := 0) (n := 2) (As := [.ref (q 32), .int (-1)]) (rest := []) ⟨hx, hb, hml, hown, hta⟩ hnw (c_fill l dC dI (q 32) (k 32) 16 (fun _ => (-1)) (-1) (by decide) s.heap.size) cd_J7_fill_53178 iz_J7 ml_X2_27 st_J7_fill_53178 (by decide +kernel) rfl (Nat.le_of_ble_eq_true rfl) (Nat.le_of_ble_eq_true rfl) rfl rfl (Nat.le_of_ble_eq_true rfl) (Nat.le_of_ble_eq_true rfl) hP hD hK hS hA [1] [0] [0] rfl (wr := [zbk q k]) rfl (by decide) (by decide) (by decide) rfl hl.1 rfl (Nat.le_of_ble_eq_true rfl) dX2_forgetAll_5 (fun u1 H locs hw2 hP hD hK hS => ?_)
  have hP : va_P (dC, dI) vwCl [zbk q k, (q 32, .inl (k 32, 16, .inl (fun _ => (-1))))] H := hP
  have hD : va_D A [zbk q k, (q 32, .inl (k 32, 16, .inl (fun _ => (-1))))] := hD
  have hK : va_K (dC, dI) vwCl [(k 32, .int), (k 32, .int)] s := hK
  refine W.widen (k := 0) (n := 0) (Nat.le_of_ble_eq_true rfl) (Nat.le_of_ble_eq_true rfl) ?_
  exact k_vret () hx hb hr hlocks P_nil D_nil (hK.sub (tys' := []) [] rfl) hS trivial dX2_forgetAll_8
set_option maxHeartbeats 4000000 in
set_option maxRecDepth 100000 in
theorem c_instrumentChanged (l : Launch) (dC : Nat → ClassId) (dI : Nat → Nat → Nat) (q : Nat → Nat) (k : Nat → ClassId) (sz : Nat) : Cv l (dC, dI) yX10_instrumentChanged cX10_instrumentChanged 1 { frames := 2, cells := 0, slots := 0, locals := 43 } [.ref (q 0)] [(k 32, .int)] [zLF q k, zwl q k, zbk q k, zbs q k] sz 0 0 Unit (fun _ => True) (fun u => [zLF q k]) (fun _ => []) := by
  refine Cv_of (lv := [(0, .ref (q 0))]) (by decide) rfl rfl ?_
  intro p e s m below meth c A ls hx hb hml hr hown hta hlocks hnm hnw hP hD hK hS hA hl
  have hown : s.vm.findClass RX10 = some m.cls := hown
  refine lv_aload_n hx hb dX10_instrumentChanged_0 rfl (lv_at hl 0 rfl) ?_
  refine kVv (b := (q 0)) (n := 0) (As := []) (rest := []) ⟨hx, hb, hml, hown, hta⟩ hnw (c_forgetAnswers l dC dI q k  s.heap.size) cd_X10_forgetAnswers iz_X10 ml_X10_143 im_X10_forgetAnswers se_X10_X10_forgetAnswers (by decide +kernel) rfl (Nat.le_of_ble_eq_true rfl) (Nat.le_of_ble_eq_true rfl) rfl rfl (Nat.le_of_ble_eq_true rfl) (Nat.le_of_ble_eq_true rfl) hP hD hK hS hA [0, 1] [2, 3] [] rfl (wr := [zbk q k, zbs q k]) rfl (by decide) (by decide) (by decide) rfl rfl 0 rfl hl.1 rfl (Nat.le_of_ble_eq_true rfl) dX10_instrumentChanged_1 (fun u1 H locs hw2 hP hD hK hS => ?_)
  have hP : va_P (dC, dI) vwCl [zbk q k, zbs q k, zLF q k] H := hP
  have hD : va_D A [zbk q k, zbs q k, zLF q k] := hD
  have hK : va_K (dC, dI) vwCl [(k 32, .int)] s := hK
  refine lv_aload_n hx hb dX10_instrumentChanged_4 rfl (lv_at hl 0 rfl) ?_
  refine va_get (D := (dC, dI)) (ci := 9) (v := .ref (q 5)) (C := RX10) (T := TX10) (N := 15) hx hb hta inlX10 hown hK hP 2 rfl rfl 4 (by decide) (hta _ fl_X10_44) (fun _ h9 => h9) rfl dX10_instrumentChanged_5 ?_
  refine kVNv (b := (q 5)) (n := 0) (As := []) (rest := []) ⟨hx, hb, hml, hown, hta⟩ hnw (c_forgetAll l dC dI q k  H.size) cd_X2_forgetAll iz_X2 nm_X10_157 im_X2_forgetAll se_X2_X2_forgetAll (by decide +kernel) rfl (Nat.le_of_ble_eq_true rfl) (Nat.le_of_ble_eq_true rfl) rfl rfl (Nat.le_of_ble_eq_true rfl) (Nat.le_of_ble_eq_true rfl) hP hD hK hS hA [0, 1] [2] [0] rfl (wr := [zLF q k]) rfl (by decide) (by decide) (by decide) rfl rfl 0 rfl hl.1 rfl (Nat.le_of_ble_eq_true rfl) dX10_instrumentChanged_8 (fun u4 H locs hw5 hP hD hK hS => ?_)
  have hP : va_P (dC, dI) vwCl [zLF q k] H := hP
  have hD : va_D A [zLF q k] := hD
  have hK : va_K (dC, dI) vwCl [(k 32, .int)] s := hK
  have hP9 := hP.sub (ws' := [zLF q k]) [0] rfl
  have hD9 := hD.sub (ws' := [zLF q k]) [0] (by decide) rfl
  have hK9 := hK.sub (tys' := []) [] rfl
  refine W.widen (k := 0) (n := 0) (Nat.le_of_ble_eq_true rfl) (Nat.le_of_ble_eq_true rfl) ?_
  exact k_vret () hx hb hr hlocks hP9 hD9 hK9 hS trivial dX10_instrumentChanged_11
set_option maxHeartbeats 4000000 in
set_option maxRecDepth 100000 in
theorem c_hasCourse (l : Launch) (dC : Nat → ClassId) (dI : Nat → Nat → Nat) (q : Nat → Nat) (k : Nat → ClassId) (p0 : Int32) (sz : Nat) : Ci l (dC, dI) yX4_hasCourse cX4_hasCourse 2 (some .boolean) { frames := 0, cells := 0, slots := 0, locals := 0 } [.ref (q 1), .int p0] [] [zlu q k] sz 0 0 Unit (fun r _ => r = 0) (fun _ => []) (fun _ => []) := by
  refine Ci_of (lv := [(0, .ref (q 1)), (1, .int p0)]) (by decide) rfl rfl ?_
  intro p e s m below meth c A ls hx hb hml hr hown hta hlocks hnm hnw hP hD hK hS hA hl
  have hown : s.vm.findClass RX4 = some m.cls := hown
  refine lv_iload_n hx hb dX4_hasCourse_0 rfl (lv_at hl 1 rfl) ?_
  refine lv_if_lt (tgt := 16) hx hb dX4_hasCourse_1 (by decide) (fun c_1 => ?_) (fun c_1 => ?_)
  · refine lv_iconst (v := 0) hx hb dX4_hasCourse_16 (by decide) ?_
    refine W.widen (k := 0) (n := 0) (Nat.le_of_ble_eq_true rfl) (Nat.le_of_ble_eq_true rfl) ?_
    exact k_iret () hx hb hr hlocks rfl P_nil D_nil (hK.sub (tys' := []) [] rfl) hS rfl dX4_hasCourse_17
  · refine lv_iload_n hx hb dX4_hasCourse_4 rfl (lv_at hl 1 rfl) ?_
    refine lv_aload_n hx hb dX4_hasCourse_5 rfl (lv_at hl 0 rfl) ?_
    refine va_get (D := (dC, dI)) (ci := 3) (v := .int 0) (C := RX4) (T := TX4) (N := 7) hx hb hta inlX4 hown hK hP 0 rfl rfl 0 (by decide) (hta _ fl_X4_9) (fun _ h9 => h9) rfl dX4_hasCourse_6 ?_
    refine lv_icmp_ge (tgt := 16) hx hb dX4_hasCourse_9 (by decide) (fun c_2 => ?_) (fun c => absurd (Int32.not_lt.mp c_1) c)
    refine lv_iconst (v := 0) hx hb dX4_hasCourse_16 (by decide) ?_
    refine W.widen (k := 0) (n := 0) (Nat.le_of_ble_eq_true rfl) (Nat.le_of_ble_eq_true rfl) ?_
    exact k_iret () hx hb hr hlocks rfl P_nil D_nil (hK.sub (tys' := []) [] rfl) hS rfl dX4_hasCourse_17
set_option maxHeartbeats 4000000 in
set_option maxRecDepth 100000 in
theorem c_hasTick (l : Launch) (dC : Nat → ClassId) (dI : Nat → Nat → Nat) (q : Nat → Nat) (k : Nat → ClassId) (p0 : Int32) (sz : Nat) : Ci l (dC, dI) yX5_hasTick cX5_hasTick 2 (some .boolean) { frames := 0, cells := 0, slots := 0, locals := 0 } [.ref (q 2), .int p0] [] [zpi q k] sz 0 0 Unit (fun r _ => r = 0) (fun _ => []) (fun _ => []) := by
  refine Ci_of (lv := [(0, .ref (q 2)), (1, .int p0)]) (by decide) rfl rfl ?_
  intro p e s m below meth c A ls hx hb hml hr hown hta hlocks hnm hnw hP hD hK hS hA hl
  have hown : s.vm.findClass RX5 = some m.cls := hown
  refine lv_iload_n hx hb dX5_hasTick_0 rfl (lv_at hl 1 rfl) ?_
  refine lv_if_lt (tgt := 16) hx hb dX5_hasTick_1 (by decide) (fun c_1 => ?_) (fun c_1 => ?_)
  · refine lv_iconst (v := 0) hx hb dX5_hasTick_16 (by decide) ?_
    refine W.widen (k := 0) (n := 0) (Nat.le_of_ble_eq_true rfl) (Nat.le_of_ble_eq_true rfl) ?_
    exact k_iret () hx hb hr hlocks rfl P_nil D_nil (hK.sub (tys' := []) [] rfl) hS rfl dX5_hasTick_17
  · refine lv_iload_n hx hb dX5_hasTick_4 rfl (lv_at hl 1 rfl) ?_
    refine lv_aload_n hx hb dX5_hasTick_5 rfl (lv_at hl 0 rfl) ?_
    refine va_get (D := (dC, dI)) (ci := 4) (v := .int 0) (C := RX5) (T := TX5) (N := 7) hx hb hta inlX5 hown hK hP 0 rfl rfl 0 (by decide) (hta _ fl_X5_9) (fun _ h9 => h9) rfl dX5_hasTick_6 ?_
    refine lv_icmp_ge (tgt := 16) hx hb dX5_hasTick_9 (by decide) (fun c_2 => ?_) (fun c => absurd (Int32.not_lt.mp c_1) c)
    refine lv_iconst (v := 0) hx hb dX5_hasTick_16 (by decide) ?_
    refine W.widen (k := 0) (n := 0) (Nat.le_of_ble_eq_true rfl) (Nat.le_of_ble_eq_true rfl) ?_
    exact k_iret () hx hb hr hlocks rfl P_nil D_nil (hK.sub (tys' := []) [] rfl) hS rfl dX5_hasTick_17
set_option maxHeartbeats 4000000 in
set_option maxRecDepth 100000 in
theorem c_hasNote (l : Launch) (dC : Nat → ClassId) (dI : Nat → Nat → Nat) (q : Nat → Nat) (k : Nat → ClassId) (p0 : Int32) (p1 : Int32) (sz : Nat) : Ci l (dC, dI) yX5_hasNote cX5_hasNote 3 (some .boolean) { frames := 1, cells := 0, slots := 0, locals := 21 } [.ref (q 2), .int p0, .int p1] [] [zpi q k] sz 0 0 Unit (fun r _ => r = 0) (fun _ => []) (fun _ => []) := by
  refine Ci_of (lv := [(0, .ref (q 2)), (1, .int p0), (2, .int p1)]) (by decide) rfl rfl ?_
  intro p e s m below meth c A ls hx hb hml hr hown hta hlocks hnm hnw hP hD hK hS hA hl
  have hown : s.vm.findClass RX5 = some m.cls := hown
  refine lv_aload_n hx hb dX5_hasNote_0 rfl (lv_at hl 0 rfl) ?_
  refine lv_iload_n hx hb dX5_hasNote_1 rfl (lv_at hl 1 rfl) ?_
  refine kVi (b := (q 2)) (n := 1) (As := [.int p0]) (rest := []) ⟨hx, hb, hml, hown, hta⟩ hnw (c_hasTick l dC dI q k p0  s.heap.size) cd_X5_hasTick iz_X5 ml_X5_34 im_X5_hasTick se_X5_X5_hasTick (by decide +kernel) rfl (Nat.le_of_ble_eq_true rfl) (Nat.le_of_ble_eq_true rfl) rfl rfl (Nat.le_of_ble_eq_true rfl) (Nat.le_of_ble_eq_true rfl) hP hD hK hS hA [0] [] [] rfl (wr := []) rfl (by decide) (by decide) (by decide) rfl rfl 0 rfl hl.1 rfl (Nat.le_of_ble_eq_true rfl) dX5_hasNote_2 (fun r3 u1 H locs hw2 hP hD hK hS => ?_)
  have hP : va_P (dC, dI) vwCl [] H := hP
  have hD : va_D A [] := hD
  have hK : va_K (dC, dI) vwCl [] s := hK
  obtain rfl : r3 = 0 := hw2
  refine lv_if_eq (tgt := 26) hx hb dX5_hasNote_5 (by decide) (fun _ => ?_) (fun c => absurd (by decide) c)
  refine lv_iconst (v := 0) hx hb dX5_hasNote_26 (by decide) ?_
  refine W.widen (k := 0) (n := 0) (Nat.le_of_ble_eq_true rfl) (Nat.le_of_ble_eq_true rfl) ?_
  exact k_iret () hx hb hr hlocks rfl P_nil D_nil (hK.sub (tys' := []) [] rfl) hS rfl dX5_hasNote_27
set_option maxHeartbeats 4000000 in
set_option maxRecDepth 100000 in
theorem c_isTied (l : Launch) (dC : Nat → ClassId) (dI : Nat → Nat → Nat) (p0 : Int32) (sz : Nat) : Ci l (dC, dI) yX5_isTied cX5_isTied 1 (some .boolean) { frames := 0, cells := 0, slots := 0, locals := 0 } [.int p0] [] [] sz 0 0 Unit (fun r _ => r = if tiedB p0 then 1 else 0) (fun _ => []) (fun _ => []) := by
  refine Ci_of (lv := [(0, .int p0)]) (by decide) rfl rfl ?_
  intro p e s m below meth c A ls hx hb hml hr hown hta hlocks hnm hnw hP hD hK hS hA hl
  have hown : s.vm.findClass RX5 = some m.cls := hown
  refine lv_iload_n hx hb dX5_isTied_0 rfl (lv_at hl 0 rfl) ?_
  refine lv_iconst (v := 1) hx hb dX5_isTied_1 (by decide) ?_
  refine lv_icmp_eq (tgt := 10) hx hb dX5_isTied_2 (by decide) (fun c_1 => ?_) (fun c_1 => ?_)
  · refine lv_iconst (v := 1) hx hb dX5_isTied_10 (by decide) ?_
    refine lv_goto (tgt := 15) hx hb dX5_isTied_11 (by decide) ?_
    refine W.widen (k := 0) (n := 0) (Nat.le_of_ble_eq_true rfl) (Nat.le_of_ble_eq_true rfl) ?_
    exact k_iret () hx hb hr hlocks rfl P_nil D_nil (hK.sub (tys' := []) [] rfl) hS (by simp [tiedB, c_1]) dX5_isTied_15
  · refine lv_iload_n hx hb dX5_isTied_5 rfl (lv_at hl 0 rfl) ?_
    refine lv_iconst (v := 2) hx hb dX5_isTied_6 (by decide) ?_
    refine lv_icmp_ne (tgt := 14) hx hb dX5_isTied_7 (by decide) (fun c_2 => ?_) (fun c_2 => ?_)
    · refine lv_iconst (v := 0) hx hb dX5_isTied_14 (by decide) ?_
      refine W.widen (k := 0) (n := 0) (Nat.le_of_ble_eq_true rfl) (Nat.le_of_ble_eq_true rfl) ?_
      exact k_iret () hx hb hr hlocks rfl P_nil D_nil (hK.sub (tys' := []) [] rfl) hS (by simp [tiedB, c_1, c_2]) dX5_isTied_15
    · refine lv_iconst (v := 1) hx hb dX5_isTied_10 (by decide) ?_
      refine lv_goto (tgt := 15) hx hb dX5_isTied_11 (by decide) ?_
      refine W.widen (k := 0) (n := 0) (Nat.le_of_ble_eq_true rfl) (Nat.le_of_ble_eq_true rfl) ?_
      exact k_iret () hx hb hr hlocks rfl P_nil D_nil (hK.sub (tys' := []) [] rfl) hS (by simp [tiedB, c_1, c_2]) dX5_isTied_15
set_option maxHeartbeats 4000000 in
set_option maxRecDepth 100000 in
theorem c_noteOfPitch (l : Launch) (dC : Nat → ClassId) (dI : Nat → Nat → Nat) (q : Nat → Nat) (k : Nat → ClassId) (p0 : Int32) (sz : Nat) : Ci l (dC, dI) yX5_noteOfPitch cX5_noteOfPitch 4 (some .int) { frames := 0, cells := 0, slots := 0, locals := 0 } [.ref (q 2), .int 0, .int p0] [(k 20, .int)] [zpi q k, zsz q k] sz 0 0 Unit (fun r _ => r = (-1)) (fun u => [zpi q k, zsz q k]) (fun u => [(k 20, .int)]) := by
  refine Ci_of (lv := [(0, .ref (q 2)), (1, .int 0), (2, .int p0)]) (by decide) rfl rfl ?_
  intro p e s m below meth c A ls hx hb hml hr hown hta hlocks hnm hnw hP hD hK hS hA hl
  have hown : s.vm.findClass RX5 = some m.cls := hown
  refine lv_iconst (v := 0) hx hb dX5_noteOfPitch_0 (by decide) ?_
  refine lv_istore_n (lv' := [(3, .int 0), (0, .ref (q 2)), (1, .int 0), (2, .int p0)]) hx hb dX5_noteOfPitch_1 rfl hl (by decide) rfl (fun ls hl => ?_)
  refine lv_iload_n hx hb dX5_noteOfPitch_2 rfl (lv_at hl 0 rfl) ?_
  refine lv_aload_n hx hb dX5_noteOfPitch_3 rfl (lv_at hl 1 rfl) ?_
  refine va_get (D := (dC, dI)) (ci := 4) (v := .ref (q 20)) (C := RX5) (T := TX5) (N := 7) hx hb hta inlX5 hown hK hP 0 rfl rfl 1 (by decide) (hta _ fl_X5_15) (fun _ h9 => h9) rfl dX5_noteOfPitch_4 ?_
  refine lv_iload_n hx hb dX5_noteOfPitch_7 rfl (lv_at hl 2 rfl) ?_
  refine va_iald hx hb hK hP 1 0 rfl rfl (vin (by decide)) dX5_noteOfPitch_8 ?_
  refine k_top (y := 0) rfl ?_
  refine lv_icmp_ge (tgt := 34) hx hb dX5_noteOfPitch_9 (by decide) (fun _ => ?_) (fun c => absurd (by decide) c)
  refine lv_iconst (v := (-1)) hx hb dX5_noteOfPitch_34 (by decide) ?_
  have hP9 := hP.sub (ws' := [zpi q k, zsz q k]) [0, 1] rfl
  have hD9 := hD.sub (ws' := [zpi q k, zsz q k]) [0, 1] (by decide) rfl
  have hK9 := hK.sub (tys' := [(k 20, .int)]) [0] rfl
  refine W.widen (k := 0) (n := 0) (Nat.le_of_ble_eq_true rfl) (Nat.le_of_ble_eq_true rfl) ?_
  exact k_iret () hx hb hr hlocks rfl hP9 hD9 hK9 hS rfl dX5_noteOfPitch_35
set_option maxHeartbeats 4000000 in
set_option maxRecDepth 100000 in
theorem c_foreOf (l : Launch) (dC : Nat → ClassId) (dI : Nat → Nat → Nat) (q : Nat → Nat) (k : Nat → ClassId) (p0 : Int32) (p1 : Int32) (sz : Nat) : Ci l (dC, dI) yX5_foreOf cX5_foreOf 3 (some .int) { frames := 1, cells := 0, slots := 0, locals := 20 } [.ref (q 2), .int p0, .int p1] [] [zpi q k] sz 0 0 Unit (fun r _ => r = (-1)) (fun u => [zpi q k]) (fun _ => []) := by
  refine Ci_of (lv := [(0, .ref (q 2)), (1, .int p0), (2, .int p1)]) (by decide) rfl rfl ?_
  intro p e s m below meth c A ls hx hb hml hr hown hta hlocks hnm hnw hP hD hK hS hA hl
  have hown : s.vm.findClass RX5 = some m.cls := hown
  refine lv_iload_n hx hb dX5_foreOf_0 rfl (lv_at hl 2 rfl) ?_
  refine kSi (b := 0) (n := 1) (As := [.int p1]) (rest := []) ⟨hx, hb, hml, hown, hta⟩ hnw (c_isTied l dC dI p1  s.heap.size) cd_X5_isTied iz_X5 ml_X5_38 st_X5_isTied (by decide +kernel) rfl (Nat.le_of_ble_eq_true rfl) (Nat.le_of_ble_eq_true rfl) rfl rfl (Nat.le_of_ble_eq_true rfl) (Nat.le_of_ble_eq_true rfl) hP hD hK hS hA [] [0] [] rfl (wr := [zpi q k]) rfl (by decide) (by decide) (by decide) rfl hl.1 rfl (Nat.le_of_ble_eq_true rfl) dX5_foreOf_1 (fun r3 u1 H locs hw2 hP hD hK hS => ?_)
  have hP : va_P (dC, dI) vwCl [zpi q k] H := hP
  have hD : va_D A [zpi q k] := hD
  have hK : va_K (dC, dI) vwCl [] s := hK
  obtain rfl : r3 = if tiedB p1 then 1 else 0 := hw2
  refine lv_if_eq (tgt := 14) hx hb dX5_foreOf_4 (by decide) (fun c_4 => ?_) (fun c_4 => ?_)
  · have n_5 : (tiedB p1) = false := ite0 c_4
    refine lv_iconst (v := (-1)) hx hb dX5_foreOf_14 (by decide) ?_
    have hP9 := hP.sub (ws' := [zpi q k]) [0] rfl
    have hD9 := hD.sub (ws' := [zpi q k]) [0] (by decide) rfl
    have hK9 := hK.sub (tys' := []) [] rfl
    refine W.widen (k := 0) (n := 0) (Nat.le_of_ble_eq_true rfl) (Nat.le_of_ble_eq_true rfl) ?_
    exact k_iret () hx hb hr hlocks rfl hP9 hD9 hK9 hS rfl dX5_foreOf_15
  · have n_6 : (tiedB p1) = true := ite1 c_4
    refine lv_aload_n hx hb dX5_foreOf_7 rfl (lv_at hl 0 rfl) ?_
    refine va_get (D := (dC, dI)) (ci := 4) (v := .int 0) (C := RX5) (T := TX5) (N := 7) hx hb hta inlX5 hown hK hP 0 rfl rfl 0 (by decide) (hta _ fl_X5_9) (fun _ h9 => h9) rfl dX5_foreOf_8 ?_
    refine lv_if_ne (tgt := 16) hx hb dX5_foreOf_11 (by decide) (fun c => absurd c (by decide)) (fun _ => ?_)
    refine lv_iconst (v := (-1)) hx hb dX5_foreOf_14 (by decide) ?_
    have hP9 := hP.sub (ws' := [zpi q k]) [0] rfl
    have hD9 := hD.sub (ws' := [zpi q k]) [0] (by decide) rfl
    have hK9 := hK.sub (tys' := []) [] rfl
    refine W.widen (k := 0) (n := 0) (Nat.le_of_ble_eq_true rfl) (Nat.le_of_ble_eq_true rfl) ?_
    exact k_iret () hx hb hr hlocks rfl hP9 hD9 hK9 hS rfl dX5_foreOf_15
set_option maxHeartbeats 4000000 in
set_option maxRecDepth 100000 in
theorem c_addNote (l : Launch) (dC : Nat → ClassId) (dI : Nat → Nat → Nat) (q : Nat → Nat) (k : Nat → ClassId) (p0 : Int32) (p1 : Int32) (p2 : Int32) (p3 : Int32) (p4 : Int32) (sz : Nat) : Ci l (dC, dI) yX5_addNote cX5_addNote 8 (some .int) { frames := 0, cells := 0, slots := 0, locals := 0 } [.ref (q 2), .int p0, .int p1, .int p2, .int p3, .int p4] [(k 20, .int), (k 21, .int), (k 22, .int), (k 23, .int), (k 24, .int), (k 25, .int)] [zpi q k, zsz q k, zpt q k, zkd q k, zpr q k, zfo q k, zfx q k] sz 0 0 Unit (fun r _ => r = 1) (fun _ => []) (fun _ => []) := by
  refine Ci_of (lv := [(0, .ref (q 2)), (1, .int p0), (2, .int p1), (3, .int p2), (4, .int p3), (5, .int p4)]) (by decide) rfl rfl ?_
  intro p e s m below meth c A ls hx hb hml hr hown hta hlocks hnm hnw hP hD hK hS hA hl
  have hown : s.vm.findClass RX5 = some m.cls := hown
  refine lv_aload_n hx hb dX5_addNote_0 rfl (lv_at hl 0 rfl) ?_
  refine va_get (D := (dC, dI)) (ci := 4) (v := .ref (q 20)) (C := RX5) (T := TX5) (N := 7) hx hb hta inlX5 hown hK hP 0 rfl rfl 1 (by decide) (hta _ fl_X5_15) (fun _ h9 => h9) rfl dX5_addNote_1 ?_
  refine lv_aload_n hx hb dX5_addNote_4 rfl (lv_at hl 0 rfl) ?_
  refine va_get (D := (dC, dI)) (ci := 4) (v := .int 0) (C := RX5) (T := TX5) (N := 7) hx hb hta inlX5 hown hK hP 0 rfl rfl 0 (by decide) (hta _ fl_X5_9) (fun _ h9 => h9) rfl dX5_addNote_5 ?_
  refine va_iald hx hb hK hP 1 0 rfl rfl (vin (by decide)) dX5_addNote_8 ?_
  refine k_top (y := 0) rfl ?_
  refine lv_istore (lv' := [(6, .int 0), (0, .ref (q 2)), (1, .int p0), (2, .int p1), (3, .int p2), (4, .int p3), (5, .int p4)]) hx hb dX5_addNote_9 hl (by decide) rfl (fun ls hl => ?_)
  refine lv_aload_n hx hb dX5_addNote_11 rfl (lv_at hl 1 rfl) ?_
  refine va_get (D := (dC, dI)) (ci := 4) (v := .int 0) (C := RX5) (T := TX5) (N := 7) hx hb hta inlX5 hown hK hP 0 rfl rfl 0 (by decide) (hta _ fl_X5_9) (fun _ h9 => h9) rfl dX5_addNote_12 ?_
  refine lv_iconst (v := 4) hx hb dX5_addNote_15 (by decide) ?_
  refine lv_imul hx hb dX5_addNote_16 ?_
  refine k_top (y := 0) (by decide) ?_
  refine lv_iload hx hb dX5_addNote_17 (lv_at hl 0 rfl) ?_
  refine lv_iadd hx hb dX5_addNote_19 ?_
  refine k_top (y := 0) (by decide) ?_
  refine lv_istore (lv' := [(7, .int 0), (6, .int 0), (0, .ref (q 2)), (1, .int p0), (2, .int p1), (3, .int p2), (4, .int p3), (5, .int p4)]) hx hb dX5_addNote_20 hl (by decide) rfl (fun ls hl => ?_)
  refine lv_aload_n hx hb dX5_addNote_22 rfl (lv_at hl 2 rfl) ?_
  refine va_get (D := (dC, dI)) (ci := 4) (v := .ref (q 21)) (C := RX5) (T := TX5) (N := 7) hx hb hta inlX5 hown hK hP 0 rfl rfl 2 (by decide) (hta _ fl_X5_19) (fun _ h9 => h9) rfl dX5_addNote_23 ?_
  refine lv_iload hx hb dX5_addNote_26 (lv_at hl 0 rfl) ?_
  refine lv_iload_n hx hb dX5_addNote_28 rfl (lv_at hl 3 rfl) ?_
  refine va_iast hx hb hK hP hD hS 2 1 rfl rfl (vin (by decide)) dX5_addNote_29 (fun H locs hP hD hS => ?_)
  have hP : va_P (dC, dI) vwCl [zpi q k, zsz q k, (q 21, .inl (k 21, 68, .inl (upd (fun _ => 0) 0 p0))), zkd q k, zpr q k, zfo q k, zfx q k] H := hP
  have hD : va_D A [zpi q k, zsz q k, (q 21, .inl (k 21, 68, .inl (upd (fun _ => 0) 0 p0))), zkd q k, zpr q k, zfo q k, zfx q k] := hD
  refine lv_aload_n hx hb dX5_addNote_30 rfl (lv_at hl 2 rfl) ?_
  refine va_get (D := (dC, dI)) (ci := 4) (v := .ref (q 22)) (C := RX5) (T := TX5) (N := 7) hx hb hta inlX5 hown hK hP 0 rfl rfl 3 (by decide) (hta _ fl_X5_22) (fun _ h9 => h9) rfl dX5_addNote_31 ?_
  refine lv_iload hx hb dX5_addNote_34 (lv_at hl 0 rfl) ?_
  refine lv_iload_n hx hb dX5_addNote_36 rfl (lv_at hl 4 rfl) ?_
  refine va_iast hx hb hK hP hD hS 3 2 rfl rfl (vin (by decide)) dX5_addNote_37 (fun H locs hP hD hS => ?_)
  have hP : va_P (dC, dI) vwCl [zpi q k, zsz q k, (q 21, .inl (k 21, 68, .inl (upd (fun _ => 0) 0 p0))), (q 22, .inl (k 22, 68, .inl (upd (fun _ => 0) 0 p1))), zpr q k, zfo q k, zfx q k] H := hP
  have hD : va_D A [zpi q k, zsz q k, (q 21, .inl (k 21, 68, .inl (upd (fun _ => 0) 0 p0))), (q 22, .inl (k 22, 68, .inl (upd (fun _ => 0) 0 p1))), zpr q k, zfo q k, zfx q k] := hD
  refine lv_aload_n hx hb dX5_addNote_38 rfl (lv_at hl 2 rfl) ?_
  refine va_get (D := (dC, dI)) (ci := 4) (v := .ref (q 23)) (C := RX5) (T := TX5) (N := 7) hx hb hta inlX5 hown hK hP 0 rfl rfl 4 (by decide) (hta _ fl_X5_25) (fun _ h9 => h9) rfl dX5_addNote_39 ?_
  refine lv_iload hx hb dX5_addNote_42 (lv_at hl 0 rfl) ?_
  refine lv_iload_n hx hb dX5_addNote_44 rfl (lv_at hl 5 rfl) ?_
  refine va_iast hx hb hK hP hD hS 4 3 rfl rfl (vin (by decide)) dX5_addNote_45 (fun H locs hP hD hS => ?_)
  have hP : va_P (dC, dI) vwCl [zpi q k, zsz q k, (q 21, .inl (k 21, 68, .inl (upd (fun _ => 0) 0 p0))), (q 22, .inl (k 22, 68, .inl (upd (fun _ => 0) 0 p1))), (q 23, .inl (k 23, 68, .inl (upd (fun _ => 0) 0 p2))), zfo q k, zfx q k] H := hP
  have hD : va_D A [zpi q k, zsz q k, (q 21, .inl (k 21, 68, .inl (upd (fun _ => 0) 0 p0))), (q 22, .inl (k 22, 68, .inl (upd (fun _ => 0) 0 p1))), (q 23, .inl (k 23, 68, .inl (upd (fun _ => 0) 0 p2))), zfo q k, zfx q k] := hD
  refine lv_aload_n hx hb dX5_addNote_46 rfl (lv_at hl 2 rfl) ?_
  refine va_get (D := (dC, dI)) (ci := 4) (v := .ref (q 24)) (C := RX5) (T := TX5) (N := 7) hx hb hta inlX5 hown hK hP 0 rfl rfl 5 (by decide) (hta _ fl_X5_28) (fun _ h9 => h9) rfl dX5_addNote_47 ?_
  refine lv_iload hx hb dX5_addNote_50 (lv_at hl 0 rfl) ?_
  refine lv_iload hx hb dX5_addNote_52 (lv_at hl 6 rfl) ?_
  refine va_iast hx hb hK hP hD hS 5 4 rfl rfl (vin (by decide)) dX5_addNote_54 (fun H locs hP hD hS => ?_)
  have hP : va_P (dC, dI) vwCl [zpi q k, zsz q k, (q 21, .inl (k 21, 68, .inl (upd (fun _ => 0) 0 p0))), (q 22, .inl (k 22, 68, .inl (upd (fun _ => 0) 0 p1))), (q 23, .inl (k 23, 68, .inl (upd (fun _ => 0) 0 p2))), (q 24, .inl (k 24, 68, .inl (upd (fun _ => 0) 0 p3))), zfx q k] H := hP
  have hD : va_D A [zpi q k, zsz q k, (q 21, .inl (k 21, 68, .inl (upd (fun _ => 0) 0 p0))), (q 22, .inl (k 22, 68, .inl (upd (fun _ => 0) 0 p1))), (q 23, .inl (k 23, 68, .inl (upd (fun _ => 0) 0 p2))), (q 24, .inl (k 24, 68, .inl (upd (fun _ => 0) 0 p3))), zfx q k] := hD
  refine lv_aload_n hx hb dX5_addNote_55 rfl (lv_at hl 2 rfl) ?_
  refine va_get (D := (dC, dI)) (ci := 4) (v := .ref (q 25)) (C := RX5) (T := TX5) (N := 7) hx hb hta inlX5 hown hK hP 0 rfl rfl 6 (by decide) (hta _ fl_X5_31) (fun _ h9 => h9) rfl dX5_addNote_56 ?_
  refine lv_iload hx hb dX5_addNote_59 (lv_at hl 0 rfl) ?_
  refine lv_iload hx hb dX5_addNote_61 (lv_at hl 7 rfl) ?_
  refine va_iast hx hb hK hP hD hS 6 5 rfl rfl (vin (by decide)) dX5_addNote_63 (fun H locs hP hD hS => ?_)
  have hP : va_P (dC, dI) vwCl [zpi q k, zsz q k, (q 21, .inl (k 21, 68, .inl (upd (fun _ => 0) 0 p0))), (q 22, .inl (k 22, 68, .inl (upd (fun _ => 0) 0 p1))), (q 23, .inl (k 23, 68, .inl (upd (fun _ => 0) 0 p2))), (q 24, .inl (k 24, 68, .inl (upd (fun _ => 0) 0 p3))), (q 25, .inl (k 25, 68, .inl (upd (fun _ => 0) 0 p4)))] H := hP
  have hD : va_D A [zpi q k, zsz q k, (q 21, .inl (k 21, 68, .inl (upd (fun _ => 0) 0 p0))), (q 22, .inl (k 22, 68, .inl (upd (fun _ => 0) 0 p1))), (q 23, .inl (k 23, 68, .inl (upd (fun _ => 0) 0 p2))), (q 24, .inl (k 24, 68, .inl (upd (fun _ => 0) 0 p3))), (q 25, .inl (k 25, 68, .inl (upd (fun _ => 0) 0 p4)))] := hD
  refine lv_aload_n hx hb dX5_addNote_64 rfl (lv_at hl 2 rfl) ?_
  refine va_get (D := (dC, dI)) (ci := 4) (v := .ref (q 20)) (C := RX5) (T := TX5) (N := 7) hx hb hta inlX5 hown hK hP 0 rfl rfl 1 (by decide) (hta _ fl_X5_15) (fun _ h9 => h9) rfl dX5_addNote_65 ?_
  refine lv_aload_n hx hb dX5_addNote_68 rfl (lv_at hl 2 rfl) ?_
  refine va_get (D := (dC, dI)) (ci := 4) (v := .int 0) (C := RX5) (T := TX5) (N := 7) hx hb hta inlX5 hown hK hP 0 rfl rfl 0 (by decide) (hta _ fl_X5_9) (fun _ h9 => h9) rfl dX5_addNote_69 ?_
  refine lv_iload hx hb dX5_addNote_72 (lv_at hl 1 rfl) ?_
  refine lv_iconst (v := 1) hx hb dX5_addNote_74 (by decide) ?_
  refine lv_iadd hx hb dX5_addNote_75 ?_
  refine k_top (y := 1) (by decide) ?_
  refine va_iast hx hb hK hP hD hS 1 0 rfl rfl (vin (by decide)) dX5_addNote_76 (fun H locs hP hD hS => ?_)
  have hP : va_P (dC, dI) vwCl [zpi q k, (q 20, .inl (k 20, 17, .inl (upd (fun _ => 0) 0 1))), (q 21, .inl (k 21, 68, .inl (upd (fun _ => 0) 0 p0))), (q 22, .inl (k 22, 68, .inl (upd (fun _ => 0) 0 p1))), (q 23, .inl (k 23, 68, .inl (upd (fun _ => 0) 0 p2))), (q 24, .inl (k 24, 68, .inl (upd (fun _ => 0) 0 p3))), (q 25, .inl (k 25, 68, .inl (upd (fun _ => 0) 0 p4)))] H := hP
  have hD : va_D A [zpi q k, (q 20, .inl (k 20, 17, .inl (upd (fun _ => 0) 0 1))), (q 21, .inl (k 21, 68, .inl (upd (fun _ => 0) 0 p0))), (q 22, .inl (k 22, 68, .inl (upd (fun _ => 0) 0 p1))), (q 23, .inl (k 23, 68, .inl (upd (fun _ => 0) 0 p2))), (q 24, .inl (k 24, 68, .inl (upd (fun _ => 0) 0 p3))), (q 25, .inl (k 25, 68, .inl (upd (fun _ => 0) 0 p4)))] := hD
  refine lv_iload hx hb dX5_addNote_77 (lv_at hl 1 rfl) ?_
  refine lv_iconst (v := 1) hx hb dX5_addNote_79 (by decide) ?_
  refine lv_iadd hx hb dX5_addNote_80 ?_
  refine k_top (y := 1) (by decide) ?_
  refine W.widen (k := 0) (n := 0) (Nat.le_of_ble_eq_true rfl) (Nat.le_of_ble_eq_true rfl) ?_
  exact k_iret () hx hb hr hlocks rfl P_nil D_nil (hK.sub (tys' := []) [] rfl) hS rfl dX5_addNote_81
set_option maxHeartbeats 4000000 in
set_option maxRecDepth 100000 in
theorem c_notesOfTicks (l : Launch) (dC : Nat → ClassId) (dI : Nat → Nat → Nat) (q : Nat → Nat) (k : Nat → ClassId) (sz : Nat) : Ci l (dC, dI) yX5_notesOfTicks cX5_notesOfTicks 3 (some .int) { frames := 0, cells := 0, slots := 0, locals := 0 } [.ref (q 2)] [] [zpi q k] sz 0 0 Unit (fun r _ => r = 0) (fun _ => []) (fun _ => []) := by
  refine Ci_of (lv := [(0, .ref (q 2))]) (by decide) rfl rfl ?_
  intro p e s m below meth c A ls hx hb hml hr hown hta hlocks hnm hnw hP hD hK hS hA hl
  have hown : s.vm.findClass RX5 = some m.cls := hown
  refine lv_iconst (v := 0) hx hb dX5_notesOfTicks_0 (by decide) ?_
  refine lv_istore_n (lv' := [(1, .int 0), (0, .ref (q 2))]) hx hb dX5_notesOfTicks_1 rfl hl (by decide) rfl (fun ls hl => ?_)
  refine lv_iconst (v := 0) hx hb dX5_notesOfTicks_2 (by decide) ?_
  refine lv_istore_n (lv' := [(2, .int 0), (1, .int 0), (0, .ref (q 2))]) hx hb dX5_notesOfTicks_3 rfl hl (by decide) rfl (fun ls hl => ?_)
  refine lv_iload_n hx hb dX5_notesOfTicks_4 rfl (lv_at hl 0 rfl) ?_
  refine lv_aload_n hx hb dX5_notesOfTicks_5 rfl (lv_at hl 2 rfl) ?_
  refine va_get (D := (dC, dI)) (ci := 4) (v := .int 0) (C := RX5) (T := TX5) (N := 7) hx hb hta inlX5 hown hK hP 0 rfl rfl 0 (by decide) (hta _ fl_X5_9) (fun _ h9 => h9) rfl dX5_notesOfTicks_6 ?_
  refine lv_icmp_ge (tgt := 27) hx hb dX5_notesOfTicks_9 (by decide) (fun _ => ?_) (fun c => absurd (by decide) c)
  refine lv_iload_n hx hb dX5_notesOfTicks_27 rfl (lv_at hl 1 rfl) ?_
  refine W.widen (k := 0) (n := 0) (Nat.le_of_ble_eq_true rfl) (Nat.le_of_ble_eq_true rfl) ?_
  exact k_iret () hx hb hr hlocks rfl P_nil D_nil (hK.sub (tys' := []) [] rfl) hS rfl dX5_notesOfTicks_28
set_option maxHeartbeats 4000000 in
set_option maxRecDepth 100000 in
theorem c_removeAll (l : Launch) (dC : Nat → ClassId) (dI : Nat → Nat → Nat) (q : Nat → Nat) (k : Nat → ClassId) (sz : Nat) : Cv l (dC, dI) yX5_removeAll cX5_removeAll 1 { frames := 0, cells := 0, slots := 0, locals := 0 } [.ref (q 2)] [(k 20, .int)] [zpi q k, zsz q k] sz 0 0 Unit (fun _ => True) (fun _ => []) (fun _ => []) := by
  refine Cv_of (lv := [(0, .ref (q 2))]) (by decide) rfl rfl ?_
  intro p e s m below meth c A ls hx hb hml hr hown hta hlocks hnm hnw hP hD hK hS hA hl
  have hown : s.vm.findClass RX5 = some m.cls := hown
  refine lv_aload_n hx hb dX5_removeAll_0 rfl (lv_at hl 0 rfl) ?_
  refine lv_iconst (v := 0) hx hb dX5_removeAll_1 (by decide) ?_
  refine va_put (D := (dC, dI)) (ci := 4) (v := .int 0) (ty := .int) (C := RX5) (T := TX5) (N := 7) hx hb hta inlX5 tyX5 tyX5_ok nmX5 hown hK hP hD hS 0 rfl rfl 0 (by decide) (hta _ fl_X5_9) (fun _ h9 => h9) rfl (by decide +kernel) rfl rfl (Nat.le_of_ble_eq_true rfl) dX5_removeAll_2 (fun H locs hP hD hS => ?_)
  have hP : va_P (dC, dI) vwCl [(q 2, .inr (4, [.int 0, .ref (q 20), .ref (q 21), .ref (q 22), .ref (q 23), .ref (q 24), .ref (q 25)])), zsz q k] H := hP
  have hD : va_D A [(q 2, .inr (4, [.int 0, .ref (q 20), .ref (q 21), .ref (q 22), .ref (q 23), .ref (q 24), .ref (q 25)])), zsz q k] := hD
  refine lv_aload_n hx hb dX5_removeAll_5 rfl (lv_at hl 0 rfl) ?_
  refine va_get (D := (dC, dI)) (ci := 4) (v := .ref (q 20)) (C := RX5) (T := TX5) (N := 7) hx hb hta inlX5 hown hK hP 0 rfl rfl 1 (by decide) (hta _ fl_X5_15) (fun _ h9 => h9) rfl dX5_removeAll_6 ?_
  refine lv_iconst (v := 0) hx hb dX5_removeAll_9 (by decide) ?_
  refine lv_iconst (v := 0) hx hb dX5_removeAll_10 (by decide) ?_
  refine va_iast hx hb hK hP hD hS 1 0 rfl rfl (vin (by decide)) dX5_removeAll_11 (fun H locs hP hD hS => ?_)
  have hP : va_P (dC, dI) vwCl [(q 2, .inr (4, [.int 0, .ref (q 20), .ref (q 21), .ref (q 22), .ref (q 23), .ref (q 24), .ref (q 25)])), (q 20, .inl (k 20, 17, .inl (upd (fun _ => 0) 0 0)))] H := hP
  have hD : va_D A [(q 2, .inr (4, [.int 0, .ref (q 20), .ref (q 21), .ref (q 22), .ref (q 23), .ref (q 24), .ref (q 25)])), (q 20, .inl (k 20, 17, .inl (upd (fun _ => 0) 0 0)))] := hD
  refine W.widen (k := 0) (n := 0) (Nat.le_of_ble_eq_true rfl) (Nat.le_of_ble_eq_true rfl) ?_
  exact k_vret () hx hb hr hlocks P_nil D_nil (hK.sub (tys' := []) [] rfl) hS trivial dX5_removeAll_12
set_option maxHeartbeats 4000000 in
set_option maxRecDepth 100000 in
theorem c_addCourse (l : Launch) (dC : Nat → ClassId) (dI : Nat → Nat → Nat) (q : Nat → Nat) (k : Nat → ClassId) (p0 : Int32) (p1 : Int32) (sz : Nat) : Ci l (dC, dI) yX4_addCourse cX4_addCourse 5 (some .int) { frames := 0, cells := 0, slots := 0, locals := 0 } [.ref (q 1), .int p0, .int p1] [(k 10, .int), (k 11, .int), (k 14, .int)] [zlu q k, ztu q k, zfr q k, ztn q k] sz 0 0 Unit (fun r _ => r = 0) (fun _ => []) (fun _ => []) := by
  refine Ci_of (lv := [(0, .ref (q 1)), (1, .int p0), (2, .int p1)]) (by decide) rfl rfl ?_
  intro p e s m below meth c A ls hx hb hml hr hown hta hlocks hnm hnw hP hD hK hS hA hl
  have hown : s.vm.findClass RX4 = some m.cls := hown
  refine lv_aload_n hx hb dX4_addCourse_0 rfl (lv_at hl 0 rfl) ?_
  refine va_get (D := (dC, dI)) (ci := 3) (v := .int 0) (C := RX4) (T := TX4) (N := 7) hx hb hta inlX4 hown hK hP 0 rfl rfl 0 (by decide) (hta _ fl_X4_9) (fun _ h9 => h9) rfl dX4_addCourse_1 ?_
  refine lv_istore_n (lv' := [(3, .int 0), (0, .ref (q 1)), (1, .int p0), (2, .int p1)]) hx hb dX4_addCourse_4 rfl hl (by decide) rfl (fun ls hl => ?_)
  refine lv_aload_n hx hb dX4_addCourse_5 rfl (lv_at hl 1 rfl) ?_
  refine va_get (D := (dC, dI)) (ci := 3) (v := .ref (q 10)) (C := RX4) (T := TX4) (N := 7) hx hb hta inlX4 hown hK hP 0 rfl rfl 2 (by decide) (hta _ fl_X4_19) (fun _ h9 => h9) rfl dX4_addCourse_6 ?_
  refine lv_iload_n hx hb dX4_addCourse_9 rfl (lv_at hl 0 rfl) ?_
  refine lv_iload_n hx hb dX4_addCourse_10 rfl (lv_at hl 2 rfl) ?_
  refine va_iast hx hb hK hP hD hS 1 0 rfl rfl (vin (by decide)) dX4_addCourse_11 (fun H locs hP hD hS => ?_)
  have hP : va_P (dC, dI) vwCl [zlu q k, (q 10, .inl (k 10, 6, .inl (upd (fun _ => 0) 0 p0))), zfr q k, ztn q k] H := hP
  have hD : va_D A [zlu q k, (q 10, .inl (k 10, 6, .inl (upd (fun _ => 0) 0 p0))), zfr q k, ztn q k] := hD
  refine lv_aload_n hx hb dX4_addCourse_12 rfl (lv_at hl 1 rfl) ?_
  refine va_get (D := (dC, dI)) (ci := 3) (v := .ref (q 11)) (C := RX4) (T := TX4) (N := 7) hx hb hta inlX4 hown hK hP 0 rfl rfl 3 (by decide) (hta _ fl_X4_23) (fun _ h9 => h9) rfl dX4_addCourse_13 ?_
  refine lv_iload_n hx hb dX4_addCourse_16 rfl (lv_at hl 0 rfl) ?_
  refine lv_iload_n hx hb dX4_addCourse_17 rfl (lv_at hl 3 rfl) ?_
  refine va_iast hx hb hK hP hD hS 2 1 rfl rfl (vin (by decide)) dX4_addCourse_18 (fun H locs hP hD hS => ?_)
  have hP : va_P (dC, dI) vwCl [zlu q k, (q 10, .inl (k 10, 6, .inl (upd (fun _ => 0) 0 p0))), (q 11, .inl (k 11, 6, .inl (upd (fun _ => 0) 0 p1))), ztn q k] H := hP
  have hD : va_D A [zlu q k, (q 10, .inl (k 10, 6, .inl (upd (fun _ => 0) 0 p0))), (q 11, .inl (k 11, 6, .inl (upd (fun _ => 0) 0 p1))), ztn q k] := hD
  refine lv_iconst (v := 0) hx hb dX4_addCourse_19 (by decide) ?_
  refine lv_istore (lv' := [(4, .int 0), (3, .int 0), (0, .ref (q 1)), (1, .int p0), (2, .int p1)]) hx hb dX4_addCourse_20 hl (by decide) rfl (fun ls hl => ?_)
  refine lv_iload hx hb dX4_addCourse_22 (lv_at hl 0 rfl) ?_
  refine lv_iconst (v := 4) hx hb dX4_addCourse_24 (by decide) ?_
  refine lv_icmp_ge (tgt := 47) hx hb dX4_addCourse_25 (by decide) (fun c => absurd c (by decide)) (fun _ => ?_)
  refine lv_aload_n hx hb dX4_addCourse_28 rfl (lv_at hl 2 rfl) ?_
  refine va_get (D := (dC, dI)) (ci := 3) (v := .ref (q 14)) (C := RX4) (T := TX4) (N := 7) hx hb hta inlX4 hown hK hP 0 rfl rfl 6 (by decide) (hta _ fl_X4_32) (fun _ h9 => h9) rfl dX4_addCourse_29 ?_
  refine lv_iload hx hb dX4_addCourse_32 (lv_at hl 0 rfl) ?_
  refine lv_bipush (v := 6) hx hb dX4_addCourse_34 (by decide) ?_
  refine lv_imul hx hb dX4_addCourse_36 ?_
  refine k_top (y := 0) (by decide) ?_
  refine lv_iload_n hx hb dX4_addCourse_37 rfl (lv_at hl 1 rfl) ?_
  refine lv_iadd hx hb dX4_addCourse_38 ?_
  refine k_top (y := 0) (by decide) ?_
  refine lv_iload_n hx hb dX4_addCourse_39 rfl (lv_at hl 3 rfl) ?_
  refine va_iast hx hb hK hP hD hS 3 2 rfl rfl (vin (by decide)) dX4_addCourse_40 (fun H locs hP hD hS => ?_)
  have hP : va_P (dC, dI) vwCl [zlu q k, (q 10, .inl (k 10, 6, .inl (upd (fun _ => 0) 0 p0))), (q 11, .inl (k 11, 6, .inl (upd (fun _ => 0) 0 p1))), (q 14, .inl (k 14, 24, .inl (upd (fun _ => 0) 0 p0)))] H := hP
  have hD : va_D A [zlu q k, (q 10, .inl (k 10, 6, .inl (upd (fun _ => 0) 0 p0))), (q 11, .inl (k 11, 6, .inl (upd (fun _ => 0) 0 p1))), (q 14, .inl (k 14, 24, .inl (upd (fun _ => 0) 0 p0)))] := hD
  refine lv_iinc (v := 1) (lv' := [(4, .int 1), (3, .int 0), (0, .ref (q 1)), (1, .int p0), (2, .int p1)]) hx hb dX4_addCourse_41 hl (k := 0) rfl (by decide) (by decide) rfl (fun ls hl => ?_)
  refine lv_goto (tgt := 22) hx hb dX4_addCourse_44 (by decide) ?_
  refine lv_iload hx hb dX4_addCourse_22 (lv_at hl 0 rfl) ?_
  refine lv_iconst (v := 4) hx hb dX4_addCourse_24 (by decide) ?_
  refine lv_icmp_ge (tgt := 47) hx hb dX4_addCourse_25 (by decide) (fun c => absurd c (by decide)) (fun _ => ?_)
  refine lv_aload_n hx hb dX4_addCourse_28 rfl (lv_at hl 2 rfl) ?_
  refine va_get (D := (dC, dI)) (ci := 3) (v := .ref (q 14)) (C := RX4) (T := TX4) (N := 7) hx hb hta inlX4 hown hK hP 0 rfl rfl 6 (by decide) (hta _ fl_X4_32) (fun _ h9 => h9) rfl dX4_addCourse_29 ?_
  refine lv_iload hx hb dX4_addCourse_32 (lv_at hl 0 rfl) ?_
  refine lv_bipush (v := 6) hx hb dX4_addCourse_34 (by decide) ?_
  refine lv_imul hx hb dX4_addCourse_36 ?_
  refine k_top (y := 6) (by decide) ?_
  refine lv_iload_n hx hb dX4_addCourse_37 rfl (lv_at hl 1 rfl) ?_
  refine lv_iadd hx hb dX4_addCourse_38 ?_
  refine k_top (y := 6) (by decide) ?_
  refine lv_iload_n hx hb dX4_addCourse_39 rfl (lv_at hl 3 rfl) ?_
  refine va_iast hx hb hK hP hD hS 3 2 rfl rfl (vin (by decide)) dX4_addCourse_40 (fun H locs hP hD hS => ?_)
  have hP : va_P (dC, dI) vwCl [zlu q k, (q 10, .inl (k 10, 6, .inl (upd (fun _ => 0) 0 p0))), (q 11, .inl (k 11, 6, .inl (upd (fun _ => 0) 0 p1))), (q 14, .inl (k 14, 24, .inl (upd (upd (fun _ => 0) 0 p0) 6 p0)))] H := hP
  have hD : va_D A [zlu q k, (q 10, .inl (k 10, 6, .inl (upd (fun _ => 0) 0 p0))), (q 11, .inl (k 11, 6, .inl (upd (fun _ => 0) 0 p1))), (q 14, .inl (k 14, 24, .inl (upd (upd (fun _ => 0) 0 p0) 6 p0)))] := hD
  refine lv_iinc (v := 2) (lv' := [(4, .int 2), (3, .int 0), (0, .ref (q 1)), (1, .int p0), (2, .int p1)]) hx hb dX4_addCourse_41 hl (k := 0) rfl (by decide) (by decide) rfl (fun ls hl => ?_)
  refine lv_goto (tgt := 22) hx hb dX4_addCourse_44 (by decide) ?_
  refine lv_iload hx hb dX4_addCourse_22 (lv_at hl 0 rfl) ?_
  refine lv_iconst (v := 4) hx hb dX4_addCourse_24 (by decide) ?_
  refine lv_icmp_ge (tgt := 47) hx hb dX4_addCourse_25 (by decide) (fun c => absurd c (by decide)) (fun _ => ?_)
  refine lv_aload_n hx hb dX4_addCourse_28 rfl (lv_at hl 2 rfl) ?_
  refine va_get (D := (dC, dI)) (ci := 3) (v := .ref (q 14)) (C := RX4) (T := TX4) (N := 7) hx hb hta inlX4 hown hK hP 0 rfl rfl 6 (by decide) (hta _ fl_X4_32) (fun _ h9 => h9) rfl dX4_addCourse_29 ?_
  refine lv_iload hx hb dX4_addCourse_32 (lv_at hl 0 rfl) ?_
  refine lv_bipush (v := 6) hx hb dX4_addCourse_34 (by decide) ?_
  refine lv_imul hx hb dX4_addCourse_36 ?_
  refine k_top (y := 12) (by decide) ?_
  refine lv_iload_n hx hb dX4_addCourse_37 rfl (lv_at hl 1 rfl) ?_
  refine lv_iadd hx hb dX4_addCourse_38 ?_
  refine k_top (y := 12) (by decide) ?_
  refine lv_iload_n hx hb dX4_addCourse_39 rfl (lv_at hl 3 rfl) ?_
  refine va_iast hx hb hK hP hD hS 3 2 rfl rfl (vin (by decide)) dX4_addCourse_40 (fun H locs hP hD hS => ?_)
  have hP : va_P (dC, dI) vwCl [zlu q k, (q 10, .inl (k 10, 6, .inl (upd (fun _ => 0) 0 p0))), (q 11, .inl (k 11, 6, .inl (upd (fun _ => 0) 0 p1))), (q 14, .inl (k 14, 24, .inl (upd (upd (upd (fun _ => 0) 0 p0) 6 p0) 12 p0)))] H := hP
  have hD : va_D A [zlu q k, (q 10, .inl (k 10, 6, .inl (upd (fun _ => 0) 0 p0))), (q 11, .inl (k 11, 6, .inl (upd (fun _ => 0) 0 p1))), (q 14, .inl (k 14, 24, .inl (upd (upd (upd (fun _ => 0) 0 p0) 6 p0) 12 p0)))] := hD
  refine lv_iinc (v := 3) (lv' := [(4, .int 3), (3, .int 0), (0, .ref (q 1)), (1, .int p0), (2, .int p1)]) hx hb dX4_addCourse_41 hl (k := 0) rfl (by decide) (by decide) rfl (fun ls hl => ?_)
  refine lv_goto (tgt := 22) hx hb dX4_addCourse_44 (by decide) ?_
  refine lv_iload hx hb dX4_addCourse_22 (lv_at hl 0 rfl) ?_
  refine lv_iconst (v := 4) hx hb dX4_addCourse_24 (by decide) ?_
  refine lv_icmp_ge (tgt := 47) hx hb dX4_addCourse_25 (by decide) (fun c => absurd c (by decide)) (fun _ => ?_)
  refine lv_aload_n hx hb dX4_addCourse_28 rfl (lv_at hl 2 rfl) ?_
  refine va_get (D := (dC, dI)) (ci := 3) (v := .ref (q 14)) (C := RX4) (T := TX4) (N := 7) hx hb hta inlX4 hown hK hP 0 rfl rfl 6 (by decide) (hta _ fl_X4_32) (fun _ h9 => h9) rfl dX4_addCourse_29 ?_
  refine lv_iload hx hb dX4_addCourse_32 (lv_at hl 0 rfl) ?_
  refine lv_bipush (v := 6) hx hb dX4_addCourse_34 (by decide) ?_
  refine lv_imul hx hb dX4_addCourse_36 ?_
  refine k_top (y := 18) (by decide) ?_
  refine lv_iload_n hx hb dX4_addCourse_37 rfl (lv_at hl 1 rfl) ?_
  refine lv_iadd hx hb dX4_addCourse_38 ?_
  refine k_top (y := 18) (by decide) ?_
  refine lv_iload_n hx hb dX4_addCourse_39 rfl (lv_at hl 3 rfl) ?_
  refine va_iast hx hb hK hP hD hS 3 2 rfl rfl (vin (by decide)) dX4_addCourse_40 (fun H locs hP hD hS => ?_)
  have hP : va_P (dC, dI) vwCl [zlu q k, (q 10, .inl (k 10, 6, .inl (upd (fun _ => 0) 0 p0))), (q 11, .inl (k 11, 6, .inl (upd (fun _ => 0) 0 p1))), (q 14, .inl (k 14, 24, .inl (upd (upd (upd (upd (fun _ => 0) 0 p0) 6 p0) 12 p0) 18 p0)))] H := hP
  have hD : va_D A [zlu q k, (q 10, .inl (k 10, 6, .inl (upd (fun _ => 0) 0 p0))), (q 11, .inl (k 11, 6, .inl (upd (fun _ => 0) 0 p1))), (q 14, .inl (k 14, 24, .inl (upd (upd (upd (upd (fun _ => 0) 0 p0) 6 p0) 12 p0) 18 p0)))] := hD
  refine lv_iinc (v := 4) (lv' := [(4, .int 4), (3, .int 0), (0, .ref (q 1)), (1, .int p0), (2, .int p1)]) hx hb dX4_addCourse_41 hl (k := 0) rfl (by decide) (by decide) rfl (fun ls hl => ?_)
  refine lv_goto (tgt := 22) hx hb dX4_addCourse_44 (by decide) ?_
  refine lv_iload hx hb dX4_addCourse_22 (lv_at hl 0 rfl) ?_
  refine lv_iconst (v := 4) hx hb dX4_addCourse_24 (by decide) ?_
  refine lv_icmp_ge (tgt := 47) hx hb dX4_addCourse_25 (by decide) (fun _ => ?_) (fun c => absurd (by decide) c)
  refine lv_aload_n hx hb dX4_addCourse_47 rfl (lv_at hl 2 rfl) ?_
  refine lv_dup hx hb dX4_addCourse_48 rfl ?_
  refine va_get (D := (dC, dI)) (ci := 3) (v := .int 0) (C := RX4) (T := TX4) (N := 7) hx hb hta inlX4 hown hK hP 0 rfl rfl 0 (by decide) (hta _ fl_X4_9) (fun _ h9 => h9) rfl dX4_addCourse_49 ?_
  refine lv_iconst (v := 1) hx hb dX4_addCourse_52 (by decide) ?_
  refine lv_iadd hx hb dX4_addCourse_53 ?_
  refine k_top (y := 1) (by decide) ?_
  refine va_put (D := (dC, dI)) (ci := 3) (v := .int 1) (ty := .int) (C := RX4) (T := TX4) (N := 7) hx hb hta inlX4 tyX4 tyX4_ok nmX4 hown hK hP hD hS 0 rfl rfl 0 (by decide) (hta _ fl_X4_9) (fun _ h9 => h9) rfl (by decide +kernel) rfl rfl (Nat.le_of_ble_eq_true rfl) dX4_addCourse_54 (fun H locs hP hD hS => ?_)
  have hP : va_P (dC, dI) vwCl [(q 1, .inr (3, [.int 1, .int 0, .ref (q 10), .ref (q 11), .ref (q 12), .ref (q 13), .ref (q 14)])), (q 10, .inl (k 10, 6, .inl (upd (fun _ => 0) 0 p0))), (q 11, .inl (k 11, 6, .inl (upd (fun _ => 0) 0 p1))), (q 14, .inl (k 14, 24, .inl (upd (upd (upd (upd (fun _ => 0) 0 p0) 6 p0) 12 p0) 18 p0)))] H := hP
  have hD : va_D A [(q 1, .inr (3, [.int 1, .int 0, .ref (q 10), .ref (q 11), .ref (q 12), .ref (q 13), .ref (q 14)])), (q 10, .inl (k 10, 6, .inl (upd (fun _ => 0) 0 p0))), (q 11, .inl (k 11, 6, .inl (upd (fun _ => 0) 0 p1))), (q 14, .inl (k 14, 24, .inl (upd (upd (upd (upd (fun _ => 0) 0 p0) 6 p0) 12 p0) 18 p0)))] := hD
  refine lv_iload_n hx hb dX4_addCourse_57 rfl (lv_at hl 1 rfl) ?_
  refine W.widen (k := 0) (n := 0) (Nat.le_of_ble_eq_true rfl) (Nat.le_of_ble_eq_true rfl) ?_
  exact k_iret () hx hb hr hlocks rfl P_nil D_nil (hK.sub (tys' := []) [] rfl) hS rfl dX4_addCourse_58
set_option maxHeartbeats 4000000 in
set_option maxRecDepth 100000 in
theorem c_append (l : Launch) (dC : Nat → ClassId) (dI : Nat → Nat → Nat) (q : Nat → Nat) (k : Nat → ClassId) (p0 : Int32) (sz : Nat) : Cv l (dC, dI) yX6_append cX6_append 2 { frames := 0, cells := 0, slots := 0, locals := 0 } [.ref (q 3), .int p0] [(k 30, .int)] [ztp q k, zby q k] sz 0 0 Unit (fun _ => True) (fun u => [(q 3, .inr (5, [.ref (q 30), .int 1]))]) (fun _ => []) := by
  refine Cv_of (lv := [(0, .ref (q 3)), (1, .int p0)]) (by decide) rfl rfl ?_
  intro p e s m below meth c A ls hx hb hml hr hown hta hlocks hnm hnw hP hD hK hS hA hl
  have hown : s.vm.findClass RX6 = some m.cls := hown
  refine lv_aload_n hx hb dX6_append_0 rfl (lv_at hl 0 rfl) ?_
  refine va_get (D := (dC, dI)) (ci := 5) (v := .int 0) (C := RX6) (T := TX6) (N := 2) hx hb hta inlX6 hown hK hP 0 rfl rfl 1 (by decide) (hta _ fl_X6_15) (fun _ h9 => h9) rfl dX6_append_1 ?_
  refine lv_sipush (v := 600) hx hb dX6_append_4 (by decide) ?_
  refine lv_icmp_lt (tgt := 11) hx hb dX6_append_7 (by decide) (fun _ => ?_) (fun c => absurd (by decide) c)
  refine lv_aload_n hx hb dX6_append_11 rfl (lv_at hl 0 rfl) ?_
  refine va_get (D := (dC, dI)) (ci := 5) (v := .ref (q 30)) (C := RX6) (T := TX6) (N := 2) hx hb hta inlX6 hown hK hP 0 rfl rfl 0 (by decide) (hta _ fl_X6_9) (fun _ h9 => h9) rfl dX6_append_12 ?_
  refine lv_aload_n hx hb dX6_append_15 rfl (lv_at hl 0 rfl) ?_
  refine va_get (D := (dC, dI)) (ci := 5) (v := .int 0) (C := RX6) (T := TX6) (N := 2) hx hb hta inlX6 hown hK hP 0 rfl rfl 1 (by decide) (hta _ fl_X6_15) (fun _ h9 => h9) rfl dX6_append_16 ?_
  refine lv_iload_n hx hb dX6_append_19 rfl (lv_at hl 1 rfl) ?_
  refine va_iast hx hb hK hP hD hS 1 0 rfl rfl (vin (by decide)) dX6_append_20 (fun H locs hP hD hS => ?_)
  have hP : va_P (dC, dI) vwCl [ztp q k, (q 30, .inl (k 30, 600, .inl (upd (fun _ => 0) 0 p0)))] H := hP
  have hD : va_D A [ztp q k, (q 30, .inl (k 30, 600, .inl (upd (fun _ => 0) 0 p0)))] := hD
  refine lv_aload_n hx hb dX6_append_21 rfl (lv_at hl 0 rfl) ?_
  refine lv_dup hx hb dX6_append_22 rfl ?_
  refine va_get (D := (dC, dI)) (ci := 5) (v := .int 0) (C := RX6) (T := TX6) (N := 2) hx hb hta inlX6 hown hK hP 0 rfl rfl 1 (by decide) (hta _ fl_X6_15) (fun _ h9 => h9) rfl dX6_append_23 ?_
  refine lv_iconst (v := 1) hx hb dX6_append_26 (by decide) ?_
  refine lv_iadd hx hb dX6_append_27 ?_
  refine k_top (y := 1) (by decide) ?_
  refine va_put (D := (dC, dI)) (ci := 5) (v := .int 1) (ty := .int) (C := RX6) (T := TX6) (N := 2) hx hb hta inlX6 tyX6 tyX6_ok nmX6 hown hK hP hD hS 0 rfl rfl 1 (by decide) (hta _ fl_X6_15) (fun _ h9 => h9) rfl (by decide +kernel) rfl rfl (Nat.le_of_ble_eq_true rfl) dX6_append_28 (fun H locs hP hD hS => ?_)
  have hP : va_P (dC, dI) vwCl [(q 3, .inr (5, [.ref (q 30), .int 1])), (q 30, .inl (k 30, 600, .inl (upd (fun _ => 0) 0 p0)))] H := hP
  have hD : va_D A [(q 3, .inr (5, [.ref (q 30), .int 1])), (q 30, .inl (k 30, 600, .inl (upd (fun _ => 0) 0 p0)))] := hD
  have hP9 := hP.sub (ws' := [(q 3, .inr (5, [.ref (q 30), .int 1]))]) [0] rfl
  have hD9 := hD.sub (ws' := [(q 3, .inr (5, [.ref (q 30), .int 1]))]) [0] (by decide) rfl
  have hK9 := hK.sub (tys' := []) [] rfl
  refine W.widen (k := 0) (n := 0) (Nat.le_of_ble_eq_true rfl) (Nat.le_of_ble_eq_true rfl) ?_
  exact k_vret () hx hb hr hlocks hP9 hD9 hK9 hS trivial dX6_append_31
set_option maxHeartbeats 4000000 in
set_option maxRecDepth 100000 in
theorem m_forget (l : Launch) (dC : Nat → ClassId) (dI : Nat → Nat → Nat) (g : Nat → Nat) (h : Nat → ClassId) (x0 : Int32) (x1 : Int32) (sz : Nat) : Cv l (dC, dI) yX11_forget cX11_forget 1 { frames := 0, cells := 0, slots := 0, locals := 0 } [.ref (g 47)] [] [(g 47, .inr (10, [.int x0, .int x1, .ref (g 2), .ref (g 3), .ref (g 4), .ref (g 5), .ref (g 6), .int 0, .int 0, .ref (g 9), .ref (g 10), .ref (g 11), .ref (g 12), .ref (g 13), .int 0, .int 0, .ref (g 16), .ref (g 17), .ref (g 18), .ref (g 19), .ref (g 20), .ref (g 21), .ref (g 22), .ref (g 23), .ref (g 24), .ref (g 25), .ref (g 26), .ref (g 27), .ref (g 28), .ref (g 29), .int 0, .ref (g 31), .ref (g 32), .int 0, .int 0, .ref (g 35), .int 0, .ref (g 37), .ref (g 38), .int 0, .ref (g 40), .ref (g 41), .int 0, .ref (g 43), .ref (g 44), .ref (g 45), .int 0]))] sz 0 0 Unit (fun _ => True) (fun u => [(g 47, .inr (10, [.int x0, .int x1, .ref (g 2), .ref (g 3), .ref (g 4), .ref (g 5), .ref (g 6), .int 0, .int 0, .ref (g 9), .ref (g 10), .ref (g 11), .ref (g 12), .ref (g 13), .int 0, .int 0, .ref (g 16), .ref (g 17), .ref (g 18), .ref (g 19), .ref (g 20), .ref (g 21), .ref (g 22), .ref (g 23), .ref (g 24), .ref (g 25), .ref (g 26), .ref (g 27), .ref (g 28), .ref (g 29), .int 0, .ref (g 31), .ref (g 32), .int 0, .int 0, .ref (g 35), .int 0, .ref (g 37), .ref (g 38), .int 0, .ref (g 40), .ref (g 41), .int 0, .ref (g 43), .ref (g 44), .ref (g 45), .int 0]))]) (fun _ => []) := by
  refine Cv_of (lv := [(0, .ref (g 47))]) (by decide) rfl rfl ?_
  intro p e s m below meth c A ls hx hb hml hr hown hta hlocks hnm hnw hP hD hK hS hA hl
  have hown : s.vm.findClass RX11 = some m.cls := hown
  refine lv_aload_n hx hb dX11_forget_0 rfl (lv_at hl 0 rfl) ?_
  refine lv_iconst (v := 0) hx hb dX11_forget_1 (by decide) ?_
  refine va_put (D := (dC, dI)) (ci := 10) (v := .int 0) (ty := .boolean) (C := RX11) (T := TX11) (N := 47) hx hb hta inlX11 tyX11 tyX11_ok nmX11 hown hK hP hD hS 0 rfl rfl 14 (by decide) (hta _ fl_X11_53) (fun _ h9 => h9) rfl (by decide +kernel) rfl rfl (Nat.le_of_ble_eq_true rfl) dX11_forget_2 (fun H locs hP hD hS => ?_)
  have hP : va_P (dC, dI) vwCl [(g 47, .inr (10, [.int x0, .int x1, .ref (g 2), .ref (g 3), .ref (g 4), .ref (g 5), .ref (g 6), .int 0, .int 0, .ref (g 9), .ref (g 10), .ref (g 11), .ref (g 12), .ref (g 13), .int 0, .int 0, .ref (g 16), .ref (g 17), .ref (g 18), .ref (g 19), .ref (g 20), .ref (g 21), .ref (g 22), .ref (g 23), .ref (g 24), .ref (g 25), .ref (g 26), .ref (g 27), .ref (g 28), .ref (g 29), .int 0, .ref (g 31), .ref (g 32), .int 0, .int 0, .ref (g 35), .int 0, .ref (g 37), .ref (g 38), .int 0, .ref (g 40), .ref (g 41), .int 0, .ref (g 43), .ref (g 44), .ref (g 45), .int 0]))] H := hP
  have hD : va_D A [(g 47, .inr (10, [.int x0, .int x1, .ref (g 2), .ref (g 3), .ref (g 4), .ref (g 5), .ref (g 6), .int 0, .int 0, .ref (g 9), .ref (g 10), .ref (g 11), .ref (g 12), .ref (g 13), .int 0, .int 0, .ref (g 16), .ref (g 17), .ref (g 18), .ref (g 19), .ref (g 20), .ref (g 21), .ref (g 22), .ref (g 23), .ref (g 24), .ref (g 25), .ref (g 26), .ref (g 27), .ref (g 28), .ref (g 29), .int 0, .ref (g 31), .ref (g 32), .int 0, .int 0, .ref (g 35), .int 0, .ref (g 37), .ref (g 38), .int 0, .ref (g 40), .ref (g 41), .int 0, .ref (g 43), .ref (g 44), .ref (g 45), .int 0]))] := hD
  refine lv_aload_n hx hb dX11_forget_5 rfl (lv_at hl 0 rfl) ?_
  refine lv_iconst (v := 0) hx hb dX11_forget_6 (by decide) ?_
  refine va_put (D := (dC, dI)) (ci := 10) (v := .int 0) (ty := .boolean) (C := RX11) (T := TX11) (N := 47) hx hb hta inlX11 tyX11 tyX11_ok nmX11 hown hK hP hD hS 0 rfl rfl 15 (by decide) (hta _ fl_X11_57) (fun _ h9 => h9) rfl (by decide +kernel) rfl rfl (Nat.le_of_ble_eq_true rfl) dX11_forget_7 (fun H locs hP hD hS => ?_)
  have hP : va_P (dC, dI) vwCl [(g 47, .inr (10, [.int x0, .int x1, .ref (g 2), .ref (g 3), .ref (g 4), .ref (g 5), .ref (g 6), .int 0, .int 0, .ref (g 9), .ref (g 10), .ref (g 11), .ref (g 12), .ref (g 13), .int 0, .int 0, .ref (g 16), .ref (g 17), .ref (g 18), .ref (g 19), .ref (g 20), .ref (g 21), .ref (g 22), .ref (g 23), .ref (g 24), .ref (g 25), .ref (g 26), .ref (g 27), .ref (g 28), .ref (g 29), .int 0, .ref (g 31), .ref (g 32), .int 0, .int 0, .ref (g 35), .int 0, .ref (g 37), .ref (g 38), .int 0, .ref (g 40), .ref (g 41), .int 0, .ref (g 43), .ref (g 44), .ref (g 45), .int 0]))] H := hP
  have hD : va_D A [(g 47, .inr (10, [.int x0, .int x1, .ref (g 2), .ref (g 3), .ref (g 4), .ref (g 5), .ref (g 6), .int 0, .int 0, .ref (g 9), .ref (g 10), .ref (g 11), .ref (g 12), .ref (g 13), .int 0, .int 0, .ref (g 16), .ref (g 17), .ref (g 18), .ref (g 19), .ref (g 20), .ref (g 21), .ref (g 22), .ref (g 23), .ref (g 24), .ref (g 25), .ref (g 26), .ref (g 27), .ref (g 28), .ref (g 29), .int 0, .ref (g 31), .ref (g 32), .int 0, .int 0, .ref (g 35), .int 0, .ref (g 37), .ref (g 38), .int 0, .ref (g 40), .ref (g 41), .int 0, .ref (g 43), .ref (g 44), .ref (g 45), .int 0]))] := hD
  have hP9 := hP.sub (ws' := [(g 47, .inr (10, [.int x0, .int x1, .ref (g 2), .ref (g 3), .ref (g 4), .ref (g 5), .ref (g 6), .int 0, .int 0, .ref (g 9), .ref (g 10), .ref (g 11), .ref (g 12), .ref (g 13), .int 0, .int 0, .ref (g 16), .ref (g 17), .ref (g 18), .ref (g 19), .ref (g 20), .ref (g 21), .ref (g 22), .ref (g 23), .ref (g 24), .ref (g 25), .ref (g 26), .ref (g 27), .ref (g 28), .ref (g 29), .int 0, .ref (g 31), .ref (g 32), .int 0, .int 0, .ref (g 35), .int 0, .ref (g 37), .ref (g 38), .int 0, .ref (g 40), .ref (g 41), .int 0, .ref (g 43), .ref (g 44), .ref (g 45), .int 0]))]) [0] rfl
  have hD9 := hD.sub (ws' := [(g 47, .inr (10, [.int x0, .int x1, .ref (g 2), .ref (g 3), .ref (g 4), .ref (g 5), .ref (g 6), .int 0, .int 0, .ref (g 9), .ref (g 10), .ref (g 11), .ref (g 12), .ref (g 13), .int 0, .int 0, .ref (g 16), .ref (g 17), .ref (g 18), .ref (g 19), .ref (g 20), .ref (g 21), .ref (g 22), .ref (g 23), .ref (g 24), .ref (g 25), .ref (g 26), .ref (g 27), .ref (g 28), .ref (g 29), .int 0, .ref (g 31), .ref (g 32), .int 0, .int 0, .ref (g 35), .int 0, .ref (g 37), .ref (g 38), .int 0, .ref (g 40), .ref (g 41), .int 0, .ref (g 43), .ref (g 44), .ref (g 45), .int 0]))]) [0] (by decide) rfl
  have hK9 := hK.sub (tys' := []) [] rfl
  refine W.widen (k := 0) (n := 0) (Nat.le_of_ble_eq_true rfl) (Nat.le_of_ble_eq_true rfl) ?_
  exact k_vret () hx hb hr hlocks hP9 hD9 hK9 hS trivial dX11_forget_10
set_option maxHeartbeats 4000000 in
set_option maxRecDepth 100000 in
theorem m_isCourse (l : Launch) (dC : Nat → ClassId) (dI : Nat → Nat → Nat) (g : Nat → Nat) (h : Nat → ClassId) (p0 : Int32) (sz : Nat) : Ci l (dC, dI) yX11_isCourse cX11_isCourse 2 (some .boolean) { frames := 1, cells := 0, slots := 0, locals := 23 } [.ref (g 47), .int p0] [] [zM g h] sz 0 0 Unit (fun r _ => r = 0) (fun u => [zM g h]) (fun _ => []) := by
  refine Ci_of (lv := [(0, .ref (g 47)), (1, .int p0)]) (by decide) rfl rfl ?_
  intro p e s m below meth c A ls hx hb hml hr hown hta hlocks hnm hnw hP hD hK hS hA hl
  have hown : s.vm.findClass RX11 = some m.cls := hown
  refine lv_aload_n hx hb dX11_isCourse_0 rfl (lv_at hl 0 rfl) ?_
  refine lv_iload_n hx hb dX11_isCourse_1 rfl (lv_at hl 1 rfl) ?_
  refine lv_iconst (v := 0) hx hb dX11_isCourse_2 (by decide) ?_
  refine lv_aload_n hx hb dX11_isCourse_3 rfl (lv_at hl 0 rfl) ?_
  refine va_get (D := (dC, dI)) (ci := 10) (v := .int 0) (C := RX11) (T := TX11) (N := 47) hx hb hta inlX11 hown hK hP 0 rfl rfl 0 (by decide) (hta _ fl_X11_7) (fun _ h9 => h9) rfl dX11_isCourse_4 ?_
  refine lv_iconst (v := 1) hx hb dX11_isCourse_7 (by decide) ?_
  refine lv_isub hx hb dX11_isCourse_8 ?_
  refine k_top (y := (-1)) (by decide) ?_
  refine kVi (b := (g 47)) (n := 3) (As := [.int p0, .int 0, .int (-1)]) (rest := []) ⟨hx, hb, hml, hown, hta⟩ hnw (m_in l dC dI g h p0 0 (-1)  s.heap.size) cd_X11_in iz_X11 ml_X11_156 im_X11_in se_X11_X11_in (by decide +kernel) rfl (Nat.le_of_ble_eq_true rfl) (Nat.le_of_ble_eq_true rfl) rfl rfl (Nat.le_of_ble_eq_true rfl) (Nat.le_of_ble_eq_true rfl) hP hD hK hS hA [0] [] [] rfl (wr := []) rfl (by decide) (by decide) (by decide) rfl rfl 0 rfl hl.1 rfl (Nat.le_of_ble_eq_true rfl) dX11_isCourse_9 (fun r3 u1 H locs hw2 hP hD hK hS => ?_)
  have hP : va_P (dC, dI) vwCl [zM g h] H := hP
  have hD : va_D A [zM g h] := hD
  have hK : va_K (dC, dI) vwCl [] s := hK
  obtain rfl : r3 = 0 := hw2.trans (by rw [inB_neg]; rfl)
  have hP9 := hP.sub (ws' := [zM g h]) [0] rfl
  have hD9 := hD.sub (ws' := [zM g h]) [0] (by decide) rfl
  have hK9 := hK.sub (tys' := []) [] rfl
  refine W.widen (k := 0) (n := 0) (Nat.le_of_ble_eq_true rfl) (Nat.le_of_ble_eq_true rfl) ?_
  exact k_iret () hx hb hr hlocks rfl hP9 hD9 hK9 hS rfl dX11_isCourse_12
set_option maxHeartbeats 4000000 in
set_option maxRecDepth 100000 in
theorem m_isTick (l : Launch) (dC : Nat → ClassId) (dI : Nat → Nat → Nat) (g : Nat → Nat) (h : Nat → ClassId) (p0 : Int32) (sz : Nat) : Ci l (dC, dI) yX11_isTick cX11_isTick 2 (some .boolean) { frames := 1, cells := 0, slots := 0, locals := 23 } [.ref (g 47), .int p0] [] [zM g h] sz 0 0 Unit (fun r _ => r = 0) (fun u => [zM g h]) (fun _ => []) := by
  refine Ci_of (lv := [(0, .ref (g 47)), (1, .int p0)]) (by decide) rfl rfl ?_
  intro p e s m below meth c A ls hx hb hml hr hown hta hlocks hnm hnw hP hD hK hS hA hl
  have hown : s.vm.findClass RX11 = some m.cls := hown
  refine lv_aload_n hx hb dX11_isTick_0 rfl (lv_at hl 0 rfl) ?_
  refine lv_iload_n hx hb dX11_isTick_1 rfl (lv_at hl 1 rfl) ?_
  refine lv_iconst (v := 0) hx hb dX11_isTick_2 (by decide) ?_
  refine lv_aload_n hx hb dX11_isTick_3 rfl (lv_at hl 0 rfl) ?_
  refine va_get (D := (dC, dI)) (ci := 10) (v := .int 0) (C := RX11) (T := TX11) (N := 47) hx hb hta inlX11 hown hK hP 0 rfl rfl 7 (by decide) (hta _ fl_X11_32) (fun _ h9 => h9) rfl dX11_isTick_4 ?_
  refine lv_iconst (v := 1) hx hb dX11_isTick_7 (by decide) ?_
  refine lv_isub hx hb dX11_isTick_8 ?_
  refine k_top (y := (-1)) (by decide) ?_
  refine kVi (b := (g 47)) (n := 3) (As := [.int p0, .int 0, .int (-1)]) (rest := []) ⟨hx, hb, hml, hown, hta⟩ hnw (m_in l dC dI g h p0 0 (-1)  s.heap.size) cd_X11_in iz_X11 ml_X11_156 im_X11_in se_X11_X11_in (by decide +kernel) rfl (Nat.le_of_ble_eq_true rfl) (Nat.le_of_ble_eq_true rfl) rfl rfl (Nat.le_of_ble_eq_true rfl) (Nat.le_of_ble_eq_true rfl) hP hD hK hS hA [0] [] [] rfl (wr := []) rfl (by decide) (by decide) (by decide) rfl rfl 0 rfl hl.1 rfl (Nat.le_of_ble_eq_true rfl) dX11_isTick_9 (fun r3 u1 H locs hw2 hP hD hK hS => ?_)
  have hP : va_P (dC, dI) vwCl [zM g h] H := hP
  have hD : va_D A [zM g h] := hD
  have hK : va_K (dC, dI) vwCl [] s := hK
  obtain rfl : r3 = 0 := hw2.trans (by rw [inB_neg]; rfl)
  have hP9 := hP.sub (ws' := [zM g h]) [0] rfl
  have hD9 := hD.sub (ws' := [zM g h]) [0] (by decide) rfl
  have hK9 := hK.sub (tys' := []) [] rfl
  refine W.widen (k := 0) (n := 0) (Nat.le_of_ble_eq_true rfl) (Nat.le_of_ble_eq_true rfl) ?_
  exact k_iret () hx hb hr hlocks rfl hP9 hD9 hK9 hS rfl dX11_isTick_12
set_option maxHeartbeats 4000000 in
set_option maxRecDepth 100000 in
theorem m_isNote (l : Launch) (dC : Nat → ClassId) (dI : Nat → Nat → Nat) (g : Nat → Nat) (h : Nat → ClassId) (p0 : Int32) (p1 : Int32) (sz : Nat) : Ci l (dC, dI) yX11_isNote cX11_isNote 3 (some .boolean) { frames := 2, cells := 0, slots := 0, locals := 44 } [.ref (g 47), .int p0, .int p1] [] [zM g h] sz 0 0 Unit (fun r _ => r = 0) (fun u => [zM g h]) (fun _ => []) := by
  refine Ci_of (lv := [(0, .ref (g 47)), (1, .int p0), (2, .int p1)]) (by decide) rfl rfl ?_
  intro p e s m below meth c A ls hx hb hml hr hown hta hlocks hnm hnw hP hD hK hS hA hl
  have hown : s.vm.findClass RX11 = some m.cls := hown
  refine lv_aload_n hx hb dX11_isNote_0 rfl (lv_at hl 0 rfl) ?_
  refine lv_iload_n hx hb dX11_isNote_1 rfl (lv_at hl 1 rfl) ?_
  refine kVi (b := (g 47)) (n := 1) (As := [.int p0]) (rest := []) ⟨hx, hb, hml, hown, hta⟩ hnw (m_isTick l dC dI g h p0  s.heap.size) cd_X11_isTick iz_X11 ml_X11_160 im_X11_isTick se_X11_X11_isTick (by decide +kernel) rfl (Nat.le_of_ble_eq_true rfl) (Nat.le_of_ble_eq_true rfl) rfl rfl (Nat.le_of_ble_eq_true rfl) (Nat.le_of_ble_eq_true rfl) hP hD hK hS hA [0] [] [] rfl (wr := []) rfl (by decide) (by decide) (by decide) rfl rfl 0 rfl hl.1 rfl (Nat.le_of_ble_eq_true rfl) dX11_isNote_2 (fun r3 u1 H locs hw2 hP hD hK hS => ?_)
  have hP : va_P (dC, dI) vwCl [zM g h] H := hP
  have hD : va_D A [zM g h] := hD
  have hK : va_K (dC, dI) vwCl [] s := hK
  obtain rfl : r3 = 0 := hw2
  refine lv_if_eq (tgt := 29) hx hb dX11_isNote_5 (by decide) (fun _ => ?_) (fun c => absurd (by decide) c)
  refine lv_iconst (v := 0) hx hb dX11_isNote_29 (by decide) ?_
  have hP9 := hP.sub (ws' := [zM g h]) [0] rfl
  have hD9 := hD.sub (ws' := [zM g h]) [0] (by decide) rfl
  have hK9 := hK.sub (tys' := []) [] rfl
  refine W.widen (k := 0) (n := 0) (Nat.le_of_ble_eq_true rfl) (Nat.le_of_ble_eq_true rfl) ?_
  exact k_iret () hx hb hr hlocks rfl hP9 hD9 hK9 hS rfl dX11_isNote_30
set_option maxHeartbeats 4000000 in
set_option maxRecDepth 100000 in
theorem m_spot (l : Launch) (dC : Nat → ClassId) (dI : Nat → Nat → Nat) (g : Nat → Nat) (h : Nat → ClassId) (p0 : Int32) (p1 : Int32) (sz : Nat) : Ci l (dC, dI) yX11_spot cX11_spot 3 (some .int) { frames := 0, cells := 0, slots := 0, locals := 0 } [.ref (g 47), .int p0, .int p1] [] [zM g h] sz 0 0 Unit (fun r _ => r = 4 * p0 + p1) (fun u => [zM g h]) (fun _ => []) := by
  refine Ci_of (lv := [(0, .ref (g 47)), (1, .int p0), (2, .int p1)]) (by decide) rfl rfl ?_
  intro p e s m below meth c A ls hx hb hml hr hown hta hlocks hnm hnw hP hD hK hS hA hl
  have hown : s.vm.findClass RX11 = some m.cls := hown
  refine lv_iconst (v := 4) hx hb dX11_spot_0 (by decide) ?_
  refine lv_iload_n hx hb dX11_spot_1 rfl (lv_at hl 1 rfl) ?_
  refine lv_imul hx hb dX11_spot_2 ?_
  refine lv_iload_n hx hb dX11_spot_3 rfl (lv_at hl 2 rfl) ?_
  refine lv_iadd hx hb dX11_spot_4 ?_
  have hP9 := hP.sub (ws' := [zM g h]) [0] rfl
  have hD9 := hD.sub (ws' := [zM g h]) [0] (by decide) rfl
  have hK9 := hK.sub (tys' := []) [] rfl
  refine W.widen (k := 0) (n := 0) (Nat.le_of_ble_eq_true rfl) (Nat.le_of_ble_eq_true rfl) ?_
  exact k_iret () hx hb hr hlocks rfl hP9 hD9 hK9 hS rfl dX11_spot_5

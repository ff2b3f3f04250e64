set_option maxHeartbeats 4000000 in
set_option maxRecDepth 100000 in
theorem y_course (l : Launch) (dC : Nat → ClassId) (dI : Nat → Nat → Nat) (g : Nat → Nat) (h : Nat → ClassId) (p0 : Int32) (p1 : Int32) (sz : Nat) : Ci l (dC, dI) yX11_course cX11_course 4 (some .int) { frames := 1, cells := 0, slots := 0, locals := 23 } [.ref (g 47), .int p0, .int p1] [(h 2, .int), (h 3, .int), (h 6, .int)] [zM g h, zMtune g h, zMfrets g h, zMtuning g h] sz 0 0 Unit (fun r _ => r = sp_course p0 p1) (fun _ => []) (fun _ => []) := by
  refine Ci_of (lv := [(0, .ref (g 47)), (1, .int p0), (2, .int p1)]) (by decide) rfl rfl ?_
  intro p e s m below meth c A ls hx hb hml hr hown hta hlocks hnm hnw hP hD hK hS hA hl
  have hown : s.vm.findClass RX11 = some m.cls := hown
  refine lv_aload_n hx hb dX11_course_0 rfl (lv_at hl 0 rfl) ?_
  refine lv_iload_n hx hb dX11_course_1 rfl (lv_at hl 1 rfl) ?_
  refine lv_iconst (v := 0) hx hb dX11_course_2 (by decide) ?_
  refine lv_bipush (v := 99) hx hb dX11_course_3 (by decide) ?_
  refine kVi (b := (g 47)) (n := 3) (As := [.int p0, .int 0, .int 99]) (rest := []) ⟨hx, hb, hml, hown, hta⟩ hnw (m_in l dC dI g h p0 0 99  s.heap.size) cd_X11_in iz_X11 ml_X11_156 im_X11_in se_X11_X11_in (by decide +kernel) rfl (Nat.le_of_ble_eq_true rfl) (Nat.le_of_ble_eq_true rfl) rfl rfl (Nat.le_of_ble_eq_true rfl) (Nat.le_of_ble_eq_true rfl) hP hD hK hS hA [0] [1, 2, 3] [] rfl (wr := [zMtune g h, zMfrets g h, zMtuning g h]) rfl (by decide) (by decide) (by decide) rfl rfl 0 rfl hl.1 rfl (Nat.le_of_ble_eq_true rfl) dX11_course_5 (fun r3 u1 H locs hw2 hP hD hK hS => ?_)
  have hP : va_P (dC, dI) vwCl [zMtune g h, zMfrets g h, zMtuning g h, zM g h] H := hP
  have hD : va_D A [zMtune g h, zMfrets g h, zMtuning g h, zM g h] := hD
  have hK : va_K (dC, dI) vwCl [(h 2, .int), (h 3, .int), (h 6, .int)] s := hK
  obtain rfl : r3 = if inB p0 0 99 then 1 else 0 := hw2
  refine lv_if_eq (tgt := 22) hx hb dX11_course_8 (by decide) (fun c_4 => ?_) (fun c_4 => ?_)
  · have n_5 : (inB p0 0 99) = false := ite0 c_4
    refine lv_bipush (v := (-2)) hx hb dX11_course_22 (by decide) ?_
    refine W.widen (k := 0) (n := 0) (Nat.le_of_ble_eq_true rfl) (Nat.le_of_ble_eq_true rfl) ?_
    exact k_iret () hx hb hr hlocks rfl P_nil D_nil (hK.sub (tys' := []) [] rfl) hS (by first | rfl | (simp [sp_course, n_5]; done) | (simp [sp_course, c_4, n_5]; done)) dX11_course_24
  · have n_6 : (inB p0 0 99) = true := ite1 c_4
    refine lv_aload_n hx hb dX11_course_11 rfl (lv_at hl 0 rfl) ?_
    refine lv_iload_n hx hb dX11_course_12 rfl (lv_at hl 2 rfl) ?_
    refine lv_iconst (v := 0) hx hb dX11_course_13 (by decide) ?_
    refine lv_bipush (v := 12) hx hb dX11_course_14 (by decide) ?_
    refine kVi (b := (g 47)) (n := 3) (As := [.int p1, .int 0, .int 12]) (rest := []) ⟨hx, hb, hml, hown, hta⟩ hnw (m_in l dC dI g h p1 0 12  H.size) cd_X11_in iz_X11 ml_X11_156 im_X11_in se_X11_X11_in (by decide +kernel) rfl (Nat.le_of_ble_eq_true rfl) (Nat.le_of_ble_eq_true rfl) rfl rfl (Nat.le_of_ble_eq_true rfl) (Nat.le_of_ble_eq_true rfl) hP hD hK hS hA [3] [0, 1, 2] [] rfl (wr := [zMtune g h, zMfrets g h, zMtuning g h]) rfl (by decide) (by decide) (by decide) rfl rfl 0 rfl hl.1 rfl (Nat.le_of_ble_eq_true rfl) dX11_course_16 (fun r9 u7 H locs hw8 hP hD hK hS => ?_)
    have hP : va_P (dC, dI) vwCl [zMtune g h, zMfrets g h, zMtuning g h, zM g h] H := hP
    have hD : va_D A [zMtune g h, zMfrets g h, zMtuning g h, zM g h] := hD
    have hK : va_K (dC, dI) vwCl [(h 2, .int), (h 3, .int), (h 6, .int)] s := hK
    obtain rfl : r9 = if inB p1 0 12 then 1 else 0 := hw8
    refine lv_if_ne (tgt := 25) hx hb dX11_course_19 (by decide) (fun c_10 => ?_) (fun c_10 => ?_)
    · have n_11 : (inB p1 0 12) = true := ite1 c_10
      refine lv_aload_n hx hb dX11_course_25 rfl (lv_at hl 0 rfl) ?_
      refine va_get (D := (dC, dI)) (ci := 10) (v := .int 0) (C := RX11) (T := TX11) (N := 47) hx hb hta inlX11 hown hK hP 3 rfl rfl 7 (by decide) (hta _ fl_X11_32) (fun _ h9 => h9) rfl dX11_course_26 ?_
      refine lv_if_le (tgt := 35) hx hb dX11_course_29 (by decide) (fun _ => ?_) (fun c => absurd (by decide) c)
      refine lv_aload_n hx hb dX11_course_35 rfl (lv_at hl 0 rfl) ?_
      refine va_get (D := (dC, dI)) (ci := 10) (v := .int 0) (C := RX11) (T := TX11) (N := 47) hx hb hta inlX11 hown hK hP 3 rfl rfl 0 (by decide) (hta _ fl_X11_7) (fun _ h9 => h9) rfl dX11_course_36 ?_
      refine lv_bipush (v := 6) hx hb dX11_course_39 (by decide) ?_
      refine lv_icmp_ne (tgt := 47) hx hb dX11_course_41 (by decide) (fun _ => ?_) (fun c => absurd c (by decide))
      refine lv_aload_n hx hb dX11_course_47 rfl (lv_at hl 0 rfl) ?_
      refine va_get (D := (dC, dI)) (ci := 10) (v := .ref (g 2)) (C := RX11) (T := TX11) (N := 47) hx hb hta inlX11 hown hK hP 3 rfl rfl 2 (by decide) (hta _ fl_X11_16) (fun _ h9 => h9) rfl dX11_course_48 ?_
      refine lv_aload_n hx hb dX11_course_51 rfl (lv_at hl 0 rfl) ?_
      refine va_get (D := (dC, dI)) (ci := 10) (v := .int 0) (C := RX11) (T := TX11) (N := 47) hx hb hta inlX11 hown hK hP 3 rfl rfl 0 (by decide) (hta _ fl_X11_7) (fun _ h9 => h9) rfl dX11_course_52 ?_
      refine lv_iload_n hx hb dX11_course_55 rfl (lv_at hl 1 rfl) ?_
      refine va_iast hx hb hK hP hD hS 0 0 rfl rfl (vin (by decide)) dX11_course_56 (fun H locs hP hD hS => ?_)
      have hP : va_P (dC, dI) vwCl [(g 2, .inl (h 2, 6, .inl (upd (fun _ => 0) 0 p0))), zMfrets g h, zMtuning g h, zM g h] H := hP
      have hD : va_D A [(g 2, .inl (h 2, 6, .inl (upd (fun _ => 0) 0 p0))), zMfrets g h, zMtuning g h, zM g h] := hD
      refine lv_aload_n hx hb dX11_course_57 rfl (lv_at hl 0 rfl) ?_
      refine va_get (D := (dC, dI)) (ci := 10) (v := .ref (g 3)) (C := RX11) (T := TX11) (N := 47) hx hb hta inlX11 hown hK hP 3 rfl rfl 3 (by decide) (hta _ fl_X11_20) (fun _ h9 => h9) rfl dX11_course_58 ?_
      refine lv_aload_n hx hb dX11_course_61 rfl (lv_at hl 0 rfl) ?_
      refine va_get (D := (dC, dI)) (ci := 10) (v := .int 0) (C := RX11) (T := TX11) (N := 47) hx hb hta inlX11 hown hK hP 3 rfl rfl 0 (by decide) (hta _ fl_X11_7) (fun _ h9 => h9) rfl dX11_course_62 ?_
      refine lv_iload_n hx hb dX11_course_65 rfl (lv_at hl 2 rfl) ?_
      refine va_iast hx hb hK hP hD hS 1 1 rfl rfl (vin (by decide)) dX11_course_66 (fun H locs hP hD hS => ?_)
      have hP : va_P (dC, dI) vwCl [(g 2, .inl (h 2, 6, .inl (upd (fun _ => 0) 0 p0))), (g 3, .inl (h 3, 6, .inl (upd (fun _ => 0) 0 p1))), zMtuning g h, zM g h] H := hP
      have hD : va_D A [(g 2, .inl (h 2, 6, .inl (upd (fun _ => 0) 0 p0))), (g 3, .inl (h 3, 6, .inl (upd (fun _ => 0) 0 p1))), zMtuning g h, zM g h] := hD
      refine lv_iconst (v := 0) hx hb dX11_course_67 (by decide) ?_
      refine lv_istore_n (lv' := [(3, .int 0), (0, .ref (g 47)), (1, .int p0), (2, .int p1)]) hx hb dX11_course_68 rfl hl (by decide) rfl (fun ls hl => ?_)
      refine lv_iload_n hx hb dX11_course_69 rfl (lv_at hl 0 rfl) ?_
      refine lv_iconst (v := 4) hx hb dX11_course_70 (by decide) ?_
      refine lv_icmp_ge (tgt := 95) hx hb dX11_course_71 (by decide) (fun c => absurd c (by decide)) (fun _ => ?_)
      refine lv_aload_n hx hb dX11_course_74 rfl (lv_at hl 1 rfl) ?_
      refine va_get (D := (dC, dI)) (ci := 10) (v := .ref (g 6)) (C := RX11) (T := TX11) (N := 47) hx hb hta inlX11 hown hK hP 3 rfl rfl 6 (by decide) (hta _ fl_X11_29) (fun _ h9 => h9) rfl dX11_course_75 ?_
      refine lv_bipush (v := 6) hx hb dX11_course_78 (by decide) ?_
      refine lv_iload_n hx hb dX11_course_80 rfl (lv_at hl 0 rfl) ?_
      refine lv_imul hx hb dX11_course_81 ?_
      refine k_top (y := 0) (by decide) ?_
      refine lv_aload_n hx hb dX11_course_82 rfl (lv_at hl 1 rfl) ?_
      refine va_get (D := (dC, dI)) (ci := 10) (v := .int 0) (C := RX11) (T := TX11) (N := 47) hx hb hta inlX11 hown hK hP 3 rfl rfl 0 (by decide) (hta _ fl_X11_7) (fun _ h9 => h9) rfl dX11_course_83 ?_
      refine lv_iadd hx hb dX11_course_86 ?_
      refine k_top (y := 0) (by decide) ?_
      refine lv_iload_n hx hb dX11_course_87 rfl (lv_at hl 2 rfl) ?_
      refine va_iast hx hb hK hP hD hS 2 2 rfl rfl (vin (by decide)) dX11_course_88 (fun H locs hP hD hS => ?_)
      have hP : va_P (dC, dI) vwCl [(g 2, .inl (h 2, 6, .inl (upd (fun _ => 0) 0 p0))), (g 3, .inl (h 3, 6, .inl (upd (fun _ => 0) 0 p1))), (g 6, .inl (h 6, 24, .inl (upd (fun _ => 0) 0 p0))), zM g h] H := hP
      have hD : va_D A [(g 2, .inl (h 2, 6, .inl (upd (fun _ => 0) 0 p0))), (g 3, .inl (h 3, 6, .inl (upd (fun _ => 0) 0 p1))), (g 6, .inl (h 6, 24, .inl (upd (fun _ => 0) 0 p0))), zM g h] := hD
      refine lv_iinc (v := 1) (lv' := [(3, .int 1), (0, .ref (g 47)), (1, .int p0), (2, .int p1)]) hx hb dX11_course_89 hl (k := 0) rfl (by decide) (by decide) rfl (fun ls hl => ?_)
      refine lv_goto (tgt := 69) hx hb dX11_course_92 (by decide) ?_
      refine lv_iload_n hx hb dX11_course_69 rfl (lv_at hl 0 rfl) ?_
      refine lv_iconst (v := 4) hx hb dX11_course_70 (by decide) ?_
      refine lv_icmp_ge (tgt := 95) hx hb dX11_course_71 (by decide) (fun c => absurd c (by decide)) (fun _ => ?_)
      refine lv_aload_n hx hb dX11_course_74 rfl (lv_at hl 1 rfl) ?_
      refine va_get (D := (dC, dI)) (ci := 10) (v := .ref (g 6)) (C := RX11) (T := TX11) (N := 47) hx hb hta inlX11 hown hK hP 3 rfl rfl 6 (by decide) (hta _ fl_X11_29) (fun _ h9 => h9) rfl dX11_course_75 ?_
      refine lv_bipush (v := 6) hx hb dX11_course_78 (by decide) ?_
      refine lv_iload_n hx hb dX11_course_80 rfl (lv_at hl 0 rfl) ?_
      refine lv_imul hx hb dX11_course_81 ?_
      refine k_top (y := 6) (by decide) ?_
      refine lv_aload_n hx hb dX11_course_82 rfl (lv_at hl 1 rfl) ?_
      refine va_get (D := (dC, dI)) (ci := 10) (v := .int 0) (C := RX11) (T := TX11) (N := 47) hx hb hta inlX11 hown hK hP 3 rfl rfl 0 (by decide) (hta _ fl_X11_7) (fun _ h9 => h9) rfl dX11_course_83 ?_
      refine lv_iadd hx hb dX11_course_86 ?_
      refine k_top (y := 6) (by decide) ?_
      refine lv_iload_n hx hb dX11_course_87 rfl (lv_at hl 2 rfl) ?_
      refine va_iast hx hb hK hP hD hS 2 2 rfl rfl (vin (by decide)) dX11_course_88 (fun H locs hP hD hS => ?_)
      have hP : va_P (dC, dI) vwCl [(g 2, .inl (h 2, 6, .inl (upd (fun _ => 0) 0 p0))), (g 3, .inl (h 3, 6, .inl (upd (fun _ => 0) 0 p1))), (g 6, .inl (h 6, 24, .inl (upd (upd (fun _ => 0) 0 p0) 6 p0))), zM g h] H := hP
      have hD : va_D A [(g 2, .inl (h 2, 6, .inl (upd (fun _ => 0) 0 p0))), (g 3, .inl (h 3, 6, .inl (upd (fun _ => 0) 0 p1))), (g 6, .inl (h 6, 24, .inl (upd (upd (fun _ => 0) 0 p0) 6 p0))), zM g h] := hD
      refine lv_iinc (v := 2) (lv' := [(3, .int 2), (0, .ref (g 47)), (1, .int p0), (2, .int p1)]) hx hb dX11_course_89 hl (k := 0) rfl (by decide) (by decide) rfl (fun ls hl => ?_)
      refine lv_goto (tgt := 69) hx hb dX11_course_92 (by decide) ?_
      refine lv_iload_n hx hb dX11_course_69 rfl (lv_at hl 0 rfl) ?_
      refine lv_iconst (v := 4) hx hb dX11_course_70 (by decide) ?_
      refine lv_icmp_ge (tgt := 95) hx hb dX11_course_71 (by decide) (fun c => absurd c (by decide)) (fun _ => ?_)
      refine lv_aload_n hx hb dX11_course_74 rfl (lv_at hl 1 rfl) ?_
      refine va_get (D := (dC, dI)) (ci := 10) (v := .ref (g 6)) (C := RX11) (T := TX11) (N := 47) hx hb hta inlX11 hown hK hP 3 rfl rfl 6 (by decide) (hta _ fl_X11_29) (fun _ h9 => h9) rfl dX11_course_75 ?_
      refine lv_bipush (v := 6) hx hb dX11_course_78 (by decide) ?_
      refine lv_iload_n hx hb dX11_course_80 rfl (lv_at hl 0 rfl) ?_
      refine lv_imul hx hb dX11_course_81 ?_
      refine k_top (y := 12) (by decide) ?_
      refine lv_aload_n hx hb dX11_course_82 rfl (lv_at hl 1 rfl) ?_
      refine va_get (D := (dC, dI)) (ci := 10) (v := .int 0) (C := RX11) (T := TX11) (N := 47) hx hb hta inlX11 hown hK hP 3 rfl rfl 0 (by decide) (hta _ fl_X11_7) (fun _ h9 => h9) rfl dX11_course_83 ?_
      refine lv_iadd hx hb dX11_course_86 ?_
      refine k_top (y := 12) (by decide) ?_
      refine lv_iload_n hx hb dX11_course_87 rfl (lv_at hl 2 rfl) ?_
      refine va_iast hx hb hK hP hD hS 2 2 rfl rfl (vin (by decide)) dX11_course_88 (fun H locs hP hD hS => ?_)
      have hP : va_P (dC, dI) vwCl [(g 2, .inl (h 2, 6, .inl (upd (fun _ => 0) 0 p0))), (g 3, .inl (h 3, 6, .inl (upd (fun _ => 0) 0 p1))), (g 6, .inl (h 6, 24, .inl (upd (upd (upd (fun _ => 0) 0 p0) 6 p0) 12 p0))), zM g h] H := hP
      have hD : va_D A [(g 2, .inl (h 2, 6, .inl (upd (fun _ => 0) 0 p0))), (g 3, .inl (h 3, 6, .inl (upd (fun _ => 0) 0 p1))), (g 6, .inl (h 6, 24, .inl (upd (upd (upd (fun _ => 0) 0 p0) 6 p0) 12 p0))), zM g h] := hD
      refine lv_iinc (v := 3) (lv' := [(3, .int 3), (0, .ref (g 47)), (1, .int p0), (2, .int p1)]) hx hb dX11_course_89 hl (k := 0) rfl (by decide) (by decide) rfl (fun ls hl => ?_)
      refine lv_goto (tgt := 69) hx hb dX11_course_92 (by decide) ?_
      refine lv_iload_n hx hb dX11_course_69 rfl (lv_at hl 0 rfl) ?_
      refine lv_iconst (v := 4) hx hb dX11_course_70 (by decide) ?_
      refine lv_icmp_ge (tgt := 95) hx hb dX11_course_71 (by decide) (fun c => absurd c (by decide)) (fun _ => ?_)
      refine lv_aload_n hx hb dX11_course_74 rfl (lv_at hl 1 rfl) ?_
      refine va_get (D := (dC, dI)) (ci := 10) (v := .ref (g 6)) (C := RX11) (T := TX11) (N := 47) hx hb hta inlX11 hown hK hP 3 rfl rfl 6 (by decide) (hta _ fl_X11_29) (fun _ h9 => h9) rfl dX11_course_75 ?_
      refine lv_bipush (v := 6) hx hb dX11_course_78 (by decide) ?_
      refine lv_iload_n hx hb dX11_course_80 rfl (lv_at hl 0 rfl) ?_
      refine lv_imul hx hb dX11_course_81 ?_
      refine k_top (y := 18) (by decide) ?_
      refine lv_aload_n hx hb dX11_course_82 rfl (lv_at hl 1 rfl) ?_
      refine va_get (D := (dC, dI)) (ci := 10) (v := .int 0) (C := RX11) (T := TX11) (N := 47) hx hb hta inlX11 hown hK hP 3 rfl rfl 0 (by decide) (hta _ fl_X11_7) (fun _ h9 => h9) rfl dX11_course_83 ?_
      refine lv_iadd hx hb dX11_course_86 ?_
      refine k_top (y := 18) (by decide) ?_
      refine lv_iload_n hx hb dX11_course_87 rfl (lv_at hl 2 rfl) ?_
      refine va_iast hx hb hK hP hD hS 2 2 rfl rfl (vin (by decide)) dX11_course_88 (fun H locs hP hD hS => ?_)
      have hP : va_P (dC, dI) vwCl [(g 2, .inl (h 2, 6, .inl (upd (fun _ => 0) 0 p0))), (g 3, .inl (h 3, 6, .inl (upd (fun _ => 0) 0 p1))), (g 6, .inl (h 6, 24, .inl (upd (upd (upd (upd (fun _ => 0) 0 p0) 6 p0) 12 p0) 18 p0))), zM g h] H := hP
      have hD : va_D A [(g 2, .inl (h 2, 6, .inl (upd (fun _ => 0) 0 p0))), (g 3, .inl (h 3, 6, .inl (upd (fun _ => 0) 0 p1))), (g 6, .inl (h 6, 24, .inl (upd (upd (upd (upd (fun _ => 0) 0 p0) 6 p0) 12 p0) 18 p0))), zM g h] := hD
      refine lv_iinc (v := 4) (lv' := [(3, .int 4), (0, .ref (g 47)), (1, .int p0), (2, .int p1)]) hx hb dX11_course_89 hl (k := 0) rfl (by decide) (by decide) rfl (fun ls hl => ?_)
      refine lv_goto (tgt := 69) hx hb dX11_course_92 (by decide) ?_
      refine lv_iload_n hx hb dX11_course_69 rfl (lv_at hl 0 rfl) ?_
      refine lv_iconst (v := 4) hx hb dX11_course_70 (by decide) ?_
      refine lv_icmp_ge (tgt := 95) hx hb dX11_course_71 (by decide) (fun _ => ?_) (fun c => absurd (by decide) c)
      refine lv_aload_n hx hb dX11_course_95 rfl (lv_at hl 1 rfl) ?_
      refine lv_dup hx hb dX11_course_96 rfl ?_
      refine va_get (D := (dC, dI)) (ci := 10) (v := .int 0) (C := RX11) (T := TX11) (N := 47) hx hb hta inlX11 hown hK hP 3 rfl rfl 0 (by decide) (hta _ fl_X11_7) (fun _ h9 => h9) rfl dX11_course_97 ?_
      refine lv_iconst (v := 1) hx hb dX11_course_100 (by decide) ?_
      refine lv_iadd hx hb dX11_course_101 ?_
      refine k_top (y := 1) (by decide) ?_
      refine va_put (D := (dC, dI)) (ci := 10) (v := .int 1) (ty := .int) (C := RX11) (T := TX11) (N := 47) hx hb hta inlX11 tyX11 tyX11_ok nmX11 hown hK hP hD hS 3 rfl rfl 0 (by decide) (hta _ fl_X11_7) (fun _ h9 => h9) rfl (by decide +kernel) rfl rfl (Nat.le_of_ble_eq_true rfl) dX11_course_102 (fun H locs hP hD hS => ?_)
      have hP : va_P (dC, dI) vwCl [(g 2, .inl (h 2, 6, .inl (upd (fun _ => 0) 0 p0))), (g 3, .inl (h 3, 6, .inl (upd (fun _ => 0) 0 p1))), (g 6, .inl (h 6, 24, .inl (upd (upd (upd (upd (fun _ => 0) 0 p0) 6 p0) 12 p0) 18 p0))), (g 47, .inr (10, [.int 1, .int 0, .ref (g 2), .ref (g 3), .ref (g 4), .ref (g 5), .ref (g 6), .int 0, .int 0, .ref (g 9), .ref (g 10), .ref (g 11), .ref (g 12), .ref (g 13), .int 0, .int 0, .ref (g 16), .ref (g 17), .ref (g 18), .ref (g 19), .ref (g 20), .ref (g 21), .ref (g 22), .ref (g 23), .ref (g 24), .ref (g 25), .ref (g 26), .ref (g 27), .ref (g 28), .ref (g 29), .int 0, .ref (g 31), .ref (g 32), .int 0, .int 0, .ref (g 35), .int 0, .ref (g 37), .ref (g 38), .int 0, .ref (g 40), .ref (g 41), .int 0, .ref (g 43), .ref (g 44), .ref (g 45), .int 0]))] H := hP
      have hD : va_D A [(g 2, .inl (h 2, 6, .inl (upd (fun _ => 0) 0 p0))), (g 3, .inl (h 3, 6, .inl (upd (fun _ => 0) 0 p1))), (g 6, .inl (h 6, 24, .inl (upd (upd (upd (upd (fun _ => 0) 0 p0) 6 p0) 12 p0) 18 p0))), (g 47, .inr (10, [.int 1, .int 0, .ref (g 2), .ref (g 3), .ref (g 4), .ref (g 5), .ref (g 6), .int 0, .int 0, .ref (g 9), .ref (g 10), .ref (g 11), .ref (g 12), .ref (g 13), .int 0, .int 0, .ref (g 16), .ref (g 17), .ref (g 18), .ref (g 19), .ref (g 20), .ref (g 21), .ref (g 22), .ref (g 23), .ref (g 24), .ref (g 25), .ref (g 26), .ref (g 27), .ref (g 28), .ref (g 29), .int 0, .ref (g 31), .ref (g 32), .int 0, .int 0, .ref (g 35), .int 0, .ref (g 37), .ref (g 38), .int 0, .ref (g 40), .ref (g 41), .int 0, .ref (g 43), .ref (g 44), .ref (g 45), .int 0]))] := hD
      refine lv_aload_n hx hb dX11_course_105 rfl (lv_at hl 1 rfl) ?_
      refine kVv (b := (g 47)) (n := 0) (As := []) (rest := []) ⟨hx, hb, hml, hown, hta⟩ hnw (m_forget l dC dI g h 1 0  H.size) cd_X11_forget iz_X11 ml_X11_164 im_X11_forget se_X11_X11_forget (by decide +kernel) rfl (Nat.le_of_ble_eq_true rfl) (Nat.le_of_ble_eq_true rfl) rfl rfl (Nat.le_of_ble_eq_true rfl) (Nat.le_of_ble_eq_true rfl) hP hD hK hS hA [3] [0, 1, 2] [] rfl (wr := [(g 2, .inl (h 2, 6, .inl (upd (fun _ => 0) 0 p0))), (g 3, .inl (h 3, 6, .inl (upd (fun _ => 0) 0 p1))), (g 6, .inl (h 6, 24, .inl (upd (upd (upd (upd (fun _ => 0) 0 p0) 6 p0) 12 p0) 18 p0)))]) rfl (by decide) (by decide) (by decide) rfl rfl 0 rfl hl.1 rfl (Nat.le_of_ble_eq_true rfl) dX11_course_106 (fun u12 H locs hw13 hP hD hK hS => ?_)
      have hP : va_P (dC, dI) vwCl [(g 2, .inl (h 2, 6, .inl (upd (fun _ => 0) 0 p0))), (g 3, .inl (h 3, 6, .inl (upd (fun _ => 0) 0 p1))), (g 6, .inl (h 6, 24, .inl (upd (upd (upd (upd (fun _ => 0) 0 p0) 6 p0) 12 p0) 18 p0))), (g 47, .inr (10, [.int 1, .int 0, .ref (g 2), .ref (g 3), .ref (g 4), .ref (g 5), .ref (g 6), .int 0, .int 0, .ref (g 9), .ref (g 10), .ref (g 11), .ref (g 12), .ref (g 13), .int 0, .int 0, .ref (g 16), .ref (g 17), .ref (g 18), .ref (g 19), .ref (g 20), .ref (g 21), .ref (g 22), .ref (g 23), .ref (g 24), .ref (g 25), .ref (g 26), .ref (g 27), .ref (g 28), .ref (g 29), .int 0, .ref (g 31), .ref (g 32), .int 0, .int 0, .ref (g 35), .int 0, .ref (g 37), .ref (g 38), .int 0, .ref (g 40), .ref (g 41), .int 0, .ref (g 43), .ref (g 44), .ref (g 45), .int 0]))] H := hP
      have hD : va_D A [(g 2, .inl (h 2, 6, .inl (upd (fun _ => 0) 0 p0))), (g 3, .inl (h 3, 6, .inl (upd (fun _ => 0) 0 p1))), (g 6, .inl (h 6, 24, .inl (upd (upd (upd (upd (fun _ => 0) 0 p0) 6 p0) 12 p0) 18 p0))), (g 47, .inr (10, [.int 1, .int 0, .ref (g 2), .ref (g 3), .ref (g 4), .ref (g 5), .ref (g 6), .int 0, .int 0, .ref (g 9), .ref (g 10), .ref (g 11), .ref (g 12), .ref (g 13), .int 0, .int 0, .ref (g 16), .ref (g 17), .ref (g 18), .ref (g 19), .ref (g 20), .ref (g 21), .ref (g 22), .ref (g 23), .ref (g 24), .ref (g 25), .ref (g 26), .ref (g 27), .ref (g 28), .ref (g 29), .int 0, .ref (g 31), .ref (g 32), .int 0, .int 0, .ref (g 35), .int 0, .ref (g 37), .ref (g 38), .int 0, .ref (g 40), .ref (g 41), .int 0, .ref (g 43), .ref (g 44), .ref (g 45), .int 0]))] := hD
      have hK : va_K (dC, dI) vwCl [(h 2, .int), (h 3, .int), (h 6, .int)] s := hK
      refine lv_aload_n hx hb dX11_course_109 rfl (lv_at hl 1 rfl) ?_
      refine va_get (D := (dC, dI)) (ci := 10) (v := .int 1) (C := RX11) (T := TX11) (N := 47) hx hb hta inlX11 hown hK hP 3 rfl rfl 0 (by decide) (hta _ fl_X11_7) (fun _ h9 => h9) rfl dX11_course_110 ?_
      refine lv_iconst (v := 1) hx hb dX11_course_113 (by decide) ?_
      refine lv_isub hx hb dX11_course_114 ?_
      refine k_top (y := 0) (by decide) ?_
      refine W.widen (k := 0) (n := 0) (Nat.le_of_ble_eq_true rfl) (Nat.le_of_ble_eq_true rfl) ?_
      exact k_iret () hx hb hr hlocks rfl P_nil D_nil (hK.sub (tys' := []) [] rfl) hS (by first | rfl | (simp [sp_course, n_6, n_11]; done) | (simp [sp_course, c_4, n_6, c_10, n_11]; done)) dX11_course_115
    · have n_15 : (inB p1 0 12) = false := ite0 c_10
      refine lv_bipush (v := (-2)) hx hb dX11_course_22 (by decide) ?_
      refine W.widen (k := 0) (n := 0) (Nat.le_of_ble_eq_true rfl) (Nat.le_of_ble_eq_true rfl) ?_
      exact k_iret () hx hb hr hlocks rfl P_nil D_nil (hK.sub (tys' := []) [] rfl) hS (by first | rfl | (simp [sp_course, n_6, n_15]; done) | (simp [sp_course, c_4, n_6, c_10, n_15]; done)) dX11_course_24
set_option maxHeartbeats 4000000 in
set_option maxRecDepth 100000 in
theorem y_tune (l : Launch) (dC : Nat → ClassId) (dI : Nat → Nat → Nat) (g : Nat → Nat) (h : Nat → ClassId) (p0 : Int32) (p1 : Int32) (sz : Nat) : Ci l (dC, dI) yX11_tune cX11_tune 4 (some .int) { frames := 2, cells := 0, slots := 0, locals := 44 } [.ref (g 47), .int p0, .int p1] [] [zM g h] sz 0 0 Unit (fun r _ => r = (-1)) (fun _ => []) (fun _ => []) := by
  refine Ci_of (lv := [(0, .ref (g 47)), (1, .int p0), (2, .int p1)]) (by decide) rfl rfl ?_
  intro p e s m below meth c A ls hx hb hml hr hown hta hlocks hnm hnw hP hD hK hS hA hl
  have hown : s.vm.findClass RX11 = some m.cls := hown
  refine lv_aload_n hx hb dX11_tune_0 rfl (lv_at hl 0 rfl) ?_
  refine lv_iload_n hx hb dX11_tune_1 rfl (lv_at hl 1 rfl) ?_
  refine kVi (b := (g 47)) (n := 1) (As := [.int p0]) (rest := []) ⟨hx, hb, hml, hown, hta⟩ hnw (m_isCourse l dC dI g h p0  s.heap.size) cd_X11_isCourse iz_X11 ml_X11_167 im_X11_isCourse se_X11_X11_isCourse (by decide +kernel) rfl (Nat.le_of_ble_eq_true rfl) (Nat.le_of_ble_eq_true rfl) rfl rfl (Nat.le_of_ble_eq_true rfl) (Nat.le_of_ble_eq_true rfl) hP hD hK hS hA [0] [] [] rfl (wr := []) rfl (by decide) (by decide) (by decide) rfl rfl 0 rfl hl.1 rfl (Nat.le_of_ble_eq_true rfl) dX11_tune_2 (fun r3 u1 H locs hw2 hP hD hK hS => ?_)
  have hP : va_P (dC, dI) vwCl [zM g h] H := hP
  have hD : va_D A [zM g h] := hD
  have hK : va_K (dC, dI) vwCl [] s := hK
  obtain rfl : r3 = 0 := hw2
  refine lv_if_ne (tgt := 10) hx hb dX11_tune_5 (by decide) (fun c => absurd c (by decide)) (fun _ => ?_)
  refine lv_iconst (v := (-1)) hx hb dX11_tune_8 (by decide) ?_
  refine W.widen (k := 0) (n := 0) (Nat.le_of_ble_eq_true rfl) (Nat.le_of_ble_eq_true rfl) ?_
  exact k_iret () hx hb hr hlocks rfl P_nil D_nil (hK.sub (tys' := []) [] rfl) hS rfl dX11_tune_9
set_option maxHeartbeats 4000000 in
set_option maxRecDepth 100000 in
theorem y_slack (l : Launch) (dC : Nat → ClassId) (dI : Nat → Nat → Nat) (g : Nat → Nat) (h : Nat → ClassId) (p0 : Int32) (p1 : Int32) (sz : Nat) : Ci l (dC, dI) yX11_slack cX11_slack 4 (some .int) { frames := 1, cells := 0, slots := 0, locals := 23 } [.ref (g 47), .int p0, .int p1] [(h 4, .int)] [zM g h, zMslack g h] sz 0 0 Unit (fun r _ => r = sp_slack p0 p1) (fun _ => []) (fun _ => []) := by
  refine Ci_of (lv := [(0, .ref (g 47)), (1, .int p0), (2, .int p1)]) (by decide) rfl rfl ?_
  intro p e s m below meth c A ls hx hb hml hr hown hta hlocks hnm hnw hP hD hK hS hA hl
  have hown : s.vm.findClass RX11 = some m.cls := hown
  refine lv_aload_n hx hb dX11_slack_0 rfl (lv_at hl 0 rfl) ?_
  refine lv_iload_n hx hb dX11_slack_1 rfl (lv_at hl 1 rfl) ?_
  refine lv_iconst (v := 1) hx hb dX11_slack_2 (by decide) ?_
  refine lv_iconst (v := 4) hx hb dX11_slack_3 (by decide) ?_
  refine kVi (b := (g 47)) (n := 3) (As := [.int p0, .int 1, .int 4]) (rest := []) ⟨hx, hb, hml, hown, hta⟩ hnw (m_in l dC dI g h p0 1 4  s.heap.size) cd_X11_in iz_X11 ml_X11_156 im_X11_in se_X11_X11_in (by decide +kernel) rfl (Nat.le_of_ble_eq_true rfl) (Nat.le_of_ble_eq_true rfl) rfl rfl (Nat.le_of_ble_eq_true rfl) (Nat.le_of_ble_eq_true rfl) hP hD hK hS hA [0] [1] [] rfl (wr := [zMslack g h]) rfl (by decide) (by decide) (by decide) rfl rfl 0 rfl hl.1 rfl (Nat.le_of_ble_eq_true rfl) dX11_slack_4 (fun r3 u1 H locs hw2 hP hD hK hS => ?_)
  have hP : va_P (dC, dI) vwCl [zMslack g h, zM g h] H := hP
  have hD : va_D A [zMslack g h, zM g h] := hD
  have hK : va_K (dC, dI) vwCl [(h 4, .int)] s := hK
  obtain rfl : r3 = if inB p0 1 4 then 1 else 0 := hw2
  refine lv_if_ne (tgt := 12) hx hb dX11_slack_7 (by decide) (fun c_4 => ?_) (fun c_4 => ?_)
  · have n_5 : (inB p0 1 4) = true := ite1 c_4
    refine lv_aload_n hx hb dX11_slack_12 rfl (lv_at hl 0 rfl) ?_
    refine lv_iload_n hx hb dX11_slack_13 rfl (lv_at hl 2 rfl) ?_
    refine lv_iconst (v := 0) hx hb dX11_slack_14 (by decide) ?_
    refine lv_iconst (v := 2) hx hb dX11_slack_15 (by decide) ?_
    refine kVi (b := (g 47)) (n := 3) (As := [.int p1, .int 0, .int 2]) (rest := []) ⟨hx, hb, hml, hown, hta⟩ hnw (m_in l dC dI g h p1 0 2  H.size) cd_X11_in iz_X11 ml_X11_156 im_X11_in se_X11_X11_in (by decide +kernel) rfl (Nat.le_of_ble_eq_true rfl) (Nat.le_of_ble_eq_true rfl) rfl rfl (Nat.le_of_ble_eq_true rfl) (Nat.le_of_ble_eq_true rfl) hP hD hK hS hA [1] [0] [] rfl (wr := [zMslack g h]) rfl (by decide) (by decide) (by decide) rfl rfl 0 rfl hl.1 rfl (Nat.le_of_ble_eq_true rfl) dX11_slack_16 (fun r8 u6 H locs hw7 hP hD hK hS => ?_)
    have hP : va_P (dC, dI) vwCl [zMslack g h, zM g h] H := hP
    have hD : va_D A [zMslack g h, zM g h] := hD
    have hK : va_K (dC, dI) vwCl [(h 4, .int)] s := hK
    obtain rfl : r8 = if inB p1 0 2 then 1 else 0 := hw7
    refine lv_if_ne (tgt := 25) hx hb dX11_slack_19 (by decide) (fun c_9 => ?_) (fun c_9 => ?_)
    · have n_10 : (inB p1 0 2) = true := ite1 c_9
      refine lv_aload_n hx hb dX11_slack_25 rfl (lv_at hl 0 rfl) ?_
      refine va_get (D := (dC, dI)) (ci := 10) (v := .ref (g 4)) (C := RX11) (T := TX11) (N := 47) hx hb hta inlX11 hown hK hP 1 rfl rfl 4 (by decide) (hta _ fl_X11_23) (fun _ h9 => h9) rfl dX11_slack_26 ?_
      refine lv_iload_n hx hb dX11_slack_29 rfl (lv_at hl 1 rfl) ?_
      refine va_iald hx hb hK hP 0 0 rfl rfl (vinB n_5 (by decide) (by decide)) dX11_slack_30 ?_
      refine k_top (y := 1) (fSl_v n_5) ?_
      refine lv_istore_n (lv' := [(3, .int 1), (0, .ref (g 47)), (1, .int p0), (2, .int p1)]) hx hb dX11_slack_31 rfl hl (by decide) rfl (fun ls hl => ?_)
      refine lv_aload_n hx hb dX11_slack_32 rfl (lv_at hl 1 rfl) ?_
      refine va_get (D := (dC, dI)) (ci := 10) (v := .ref (g 4)) (C := RX11) (T := TX11) (N := 47) hx hb hta inlX11 hown hK hP 1 rfl rfl 4 (by decide) (hta _ fl_X11_23) (fun _ h9 => h9) rfl dX11_slack_33 ?_
      refine lv_iload_n hx hb dX11_slack_36 rfl (lv_at hl 2 rfl) ?_
      refine lv_iload_n hx hb dX11_slack_37 rfl (lv_at hl 3 rfl) ?_
      refine va_iast hx hb hK hP hD hS 0 0 rfl rfl (vinB n_5 (by decide) (by decide)) dX11_slack_38 (fun H locs hP hD hS => ?_)
      have hP : va_P (dC, dI) vwCl [(g 4, .inl (h 4, 5, .inl (upd (upd (upd (upd (upd (upd (fun _ => 0) 0 0) 1 1) 2 1) 3 1) 4 1) ((p0 : Int32).toNatClampNeg) p1))), zM g h] H := hP
      have hD : va_D A [(g 4, .inl (h 4, 5, .inl (upd (upd (upd (upd (upd (upd (fun _ => 0) 0 0) 1 1) 2 1) 3 1) 4 1) ((p0 : Int32).toNatClampNeg) p1))), zM g h] := hD
      refine lv_aload_n hx hb dX11_slack_39 rfl (lv_at hl 1 rfl) ?_
      refine kVv (b := (g 47)) (n := 0) (As := []) (rest := []) ⟨hx, hb, hml, hown, hta⟩ hnw (m_forget l dC dI g h 0 0  H.size) cd_X11_forget iz_X11 ml_X11_164 im_X11_forget se_X11_X11_forget (by decide +kernel) rfl (Nat.le_of_ble_eq_true rfl) (Nat.le_of_ble_eq_true rfl) rfl rfl (Nat.le_of_ble_eq_true rfl) (Nat.le_of_ble_eq_true rfl) hP hD hK hS hA [1] [0] [] rfl (wr := [(g 4, .inl (h 4, 5, .inl (upd (upd (upd (upd (upd (upd (fun _ => 0) 0 0) 1 1) 2 1) 3 1) 4 1) ((p0 : Int32).toNatClampNeg) p1)))]) rfl (by decide) (by decide) (by decide) rfl rfl 0 rfl hl.1 rfl (Nat.le_of_ble_eq_true rfl) dX11_slack_40 (fun u11 H locs hw12 hP hD hK hS => ?_)
      have hP : va_P (dC, dI) vwCl [(g 4, .inl (h 4, 5, .inl (upd (upd (upd (upd (upd (upd (fun _ => 0) 0 0) 1 1) 2 1) 3 1) 4 1) ((p0 : Int32).toNatClampNeg) p1))), (g 47, .inr (10, [.int 0, .int 0, .ref (g 2), .ref (g 3), .ref (g 4), .ref (g 5), .ref (g 6), .int 0, .int 0, .ref (g 9), .ref (g 10), .ref (g 11), .ref (g 12), .ref (g 13), .int 0, .int 0, .ref (g 16), .ref (g 17), .ref (g 18), .ref (g 19), .ref (g 20), .ref (g 21), .ref (g 22), .ref (g 23), .ref (g 24), .ref (g 25), .ref (g 26), .ref (g 27), .ref (g 28), .ref (g 29), .int 0, .ref (g 31), .ref (g 32), .int 0, .int 0, .ref (g 35), .int 0, .ref (g 37), .ref (g 38), .int 0, .ref (g 40), .ref (g 41), .int 0, .ref (g 43), .ref (g 44), .ref (g 45), .int 0]))] H := hP
      have hD : va_D A [(g 4, .inl (h 4, 5, .inl (upd (upd (upd (upd (upd (upd (fun _ => 0) 0 0) 1 1) 2 1) 3 1) 4 1) ((p0 : Int32).toNatClampNeg) p1))), (g 47, .inr (10, [.int 0, .int 0, .ref (g 2), .ref (g 3), .ref (g 4), .ref (g 5), .ref (g 6), .int 0, .int 0, .ref (g 9), .ref (g 10), .ref (g 11), .ref (g 12), .ref (g 13), .int 0, .int 0, .ref (g 16), .ref (g 17), .ref (g 18), .ref (g 19), .ref (g 20), .ref (g 21), .ref (g 22), .ref (g 23), .ref (g 24), .ref (g 25), .ref (g 26), .ref (g 27), .ref (g 28), .ref (g 29), .int 0, .ref (g 31), .ref (g 32), .int 0, .int 0, .ref (g 35), .int 0, .ref (g 37), .ref (g 38), .int 0, .ref (g 40), .ref (g 41), .int 0, .ref (g 43), .ref (g 44), .ref (g 45), .int 0]))] := hD
      have hK : va_K (dC, dI) vwCl [(h 4, .int)] s := hK
      refine lv_iload_n hx hb dX11_slack_43 rfl (lv_at hl 0 rfl) ?_
      refine W.widen (k := 0) (n := 0) (Nat.le_of_ble_eq_true rfl) (Nat.le_of_ble_eq_true rfl) ?_
      exact k_iret () hx hb hr hlocks rfl P_nil D_nil (hK.sub (tys' := []) [] rfl) hS (by first | rfl | (simp [sp_slack, n_5, n_10]; done) | (simp [sp_slack, c_4, n_5, c_9, n_10]; done)) dX11_slack_44
    · have n_14 : (inB p1 0 2) = false := ite0 c_9
      refine lv_bipush (v := (-2)) hx hb dX11_slack_22 (by decide) ?_
      refine W.widen (k := 0) (n := 0) (Nat.le_of_ble_eq_true rfl) (Nat.le_of_ble_eq_true rfl) ?_
      exact k_iret () hx hb hr hlocks rfl P_nil D_nil (hK.sub (tys' := []) [] rfl) hS (by first | rfl | (simp [sp_slack, n_5, n_14]; done) | (simp [sp_slack, c_4, n_5, c_9, n_14]; done)) dX11_slack_24
  · have n_15 : (inB p0 1 4) = false := ite0 c_4
    refine lv_iconst (v := (-1)) hx hb dX11_slack_10 (by decide) ?_
    refine W.widen (k := 0) (n := 0) (Nat.le_of_ble_eq_true rfl) (Nat.le_of_ble_eq_true rfl) ?_
    exact k_iret () hx hb hr hlocks rfl P_nil D_nil (hK.sub (tys' := []) [] rfl) hS (by first | rfl | (simp [sp_slack, n_15]; done) | (simp [sp_slack, c_4, n_15]; done)) dX11_slack_11
set_option maxHeartbeats 4000000 in
set_option maxRecDepth 100000 in
theorem y_bars (l : Launch) (dC : Nat → ClassId) (dI : Nat → Nat → Nat) (g : Nat → Nat) (h : Nat → ClassId) (p0 : Int32) (sz : Nat) : Ci l (dC, dI) yX11_bars cX11_bars 3 (some .int) { frames := 1, cells := 0, slots := 0, locals := 23 } [.ref (g 47), .int p0] [] [zM g h] sz 0 0 Unit (fun r _ => r = sp_bars p0) (fun _ => []) (fun _ => []) := by
  refine Ci_of (lv := [(0, .ref (g 47)), (1, .int p0)]) (by decide) rfl rfl ?_
  intro p e s m below meth c A ls hx hb hml hr hown hta hlocks hnm hnw hP hD hK hS hA hl
  have hown : s.vm.findClass RX11 = some m.cls := hown
  refine lv_aload_n hx hb dX11_bars_0 rfl (lv_at hl 0 rfl) ?_
  refine lv_iload_n hx hb dX11_bars_1 rfl (lv_at hl 1 rfl) ?_
  refine lv_iconst (v := 0) hx hb dX11_bars_2 (by decide) ?_
  refine lv_iconst (v := 1) hx hb dX11_bars_3 (by decide) ?_
  refine kVi (b := (g 47)) (n := 3) (As := [.int p0, .int 0, .int 1]) (rest := []) ⟨hx, hb, hml, hown, hta⟩ hnw (m_in l dC dI g h p0 0 1  s.heap.size) cd_X11_in iz_X11 ml_X11_156 im_X11_in se_X11_X11_in (by decide +kernel) rfl (Nat.le_of_ble_eq_true rfl) (Nat.le_of_ble_eq_true rfl) rfl rfl (Nat.le_of_ble_eq_true rfl) (Nat.le_of_ble_eq_true rfl) hP hD hK hS hA [0] [] [] rfl (wr := []) rfl (by decide) (by decide) (by decide) rfl rfl 0 rfl hl.1 rfl (Nat.le_of_ble_eq_true rfl) dX11_bars_4 (fun r3 u1 H locs hw2 hP hD hK hS => ?_)
  have hP : va_P (dC, dI) vwCl [zM g h] H := hP
  have hD : va_D A [zM g h] := hD
  have hK : va_K (dC, dI) vwCl [] s := hK
  obtain rfl : r3 = if inB p0 0 1 then 1 else 0 := hw2
  refine lv_if_ne (tgt := 13) hx hb dX11_bars_7 (by decide) (fun c_4 => ?_) (fun c_4 => ?_)
  · have n_5 : (inB p0 0 1) = true := ite1 c_4
    refine lv_aload_n hx hb dX11_bars_13 rfl (lv_at hl 0 rfl) ?_
    refine va_get (D := (dC, dI)) (ci := 10) (v := .int 0) (C := RX11) (T := TX11) (N := 47) hx hb hta inlX11 hown hK hP 0 rfl rfl 1 (by decide) (hta _ fl_X11_13) (fun _ h9 => h9) rfl dX11_bars_14 ?_
    refine lv_istore_n (lv' := [(2, .int 0), (0, .ref (g 47)), (1, .int p0)]) hx hb dX11_bars_17 rfl hl (by decide) rfl (fun ls hl => ?_)
    refine lv_aload_n hx hb dX11_bars_18 rfl (lv_at hl 1 rfl) ?_
    refine lv_iload_n hx hb dX11_bars_19 rfl (lv_at hl 2 rfl) ?_
    refine va_put (D := (dC, dI)) (ci := 10) (v := .int p0) (ty := .int) (C := RX11) (T := TX11) (N := 47) hx hb hta inlX11 tyX11 tyX11_ok nmX11 hown hK hP hD hS 0 rfl rfl 1 (by decide) (hta _ fl_X11_13) (fun _ h9 => h9) rfl (by decide +kernel) rfl rfl (Nat.le_of_ble_eq_true rfl) dX11_bars_20 (fun H locs hP hD hS => ?_)
    have hP : va_P (dC, dI) vwCl [(g 47, .inr (10, [.int 0, .int p0, .ref (g 2), .ref (g 3), .ref (g 4), .ref (g 5), .ref (g 6), .int 0, .int 0, .ref (g 9), .ref (g 10), .ref (g 11), .ref (g 12), .ref (g 13), .int 0, .int 0, .ref (g 16), .ref (g 17), .ref (g 18), .ref (g 19), .ref (g 20), .ref (g 21), .ref (g 22), .ref (g 23), .ref (g 24), .ref (g 25), .ref (g 26), .ref (g 27), .ref (g 28), .ref (g 29), .int 0, .ref (g 31), .ref (g 32), .int 0, .int 0, .ref (g 35), .int 0, .ref (g 37), .ref (g 38), .int 0, .ref (g 40), .ref (g 41), .int 0, .ref (g 43), .ref (g 44), .ref (g 45), .int 0]))] H := hP
    have hD : va_D A [(g 47, .inr (10, [.int 0, .int p0, .ref (g 2), .ref (g 3), .ref (g 4), .ref (g 5), .ref (g 6), .int 0, .int 0, .ref (g 9), .ref (g 10), .ref (g 11), .ref (g 12), .ref (g 13), .int 0, .int 0, .ref (g 16), .ref (g 17), .ref (g 18), .ref (g 19), .ref (g 20), .ref (g 21), .ref (g 22), .ref (g 23), .ref (g 24), .ref (g 25), .ref (g 26), .ref (g 27), .ref (g 28), .ref (g 29), .int 0, .ref (g 31), .ref (g 32), .int 0, .int 0, .ref (g 35), .int 0, .ref (g 37), .ref (g 38), .int 0, .ref (g 40), .ref (g 41), .int 0, .ref (g 43), .ref (g 44), .ref (g 45), .int 0]))] := hD
    refine lv_aload_n hx hb dX11_bars_23 rfl (lv_at hl 1 rfl) ?_
    refine kVv (b := (g 47)) (n := 0) (As := []) (rest := []) ⟨hx, hb, hml, hown, hta⟩ hnw (m_forget l dC dI g h 0 p0  H.size) cd_X11_forget iz_X11 ml_X11_164 im_X11_forget se_X11_X11_forget (by decide +kernel) rfl (Nat.le_of_ble_eq_true rfl) (Nat.le_of_ble_eq_true rfl) rfl rfl (Nat.le_of_ble_eq_true rfl) (Nat.le_of_ble_eq_true rfl) hP hD hK hS hA [0] [] [] rfl (wr := []) rfl (by decide) (by decide) (by decide) rfl rfl 0 rfl hl.1 rfl (Nat.le_of_ble_eq_true rfl) dX11_bars_24 (fun u6 H locs hw7 hP hD hK hS => ?_)
    have hP : va_P (dC, dI) vwCl [(g 47, .inr (10, [.int 0, .int p0, .ref (g 2), .ref (g 3), .ref (g 4), .ref (g 5), .ref (g 6), .int 0, .int 0, .ref (g 9), .ref (g 10), .ref (g 11), .ref (g 12), .ref (g 13), .int 0, .int 0, .ref (g 16), .ref (g 17), .ref (g 18), .ref (g 19), .ref (g 20), .ref (g 21), .ref (g 22), .ref (g 23), .ref (g 24), .ref (g 25), .ref (g 26), .ref (g 27), .ref (g 28), .ref (g 29), .int 0, .ref (g 31), .ref (g 32), .int 0, .int 0, .ref (g 35), .int 0, .ref (g 37), .ref (g 38), .int 0, .ref (g 40), .ref (g 41), .int 0, .ref (g 43), .ref (g 44), .ref (g 45), .int 0]))] H := hP
    have hD : va_D A [(g 47, .inr (10, [.int 0, .int p0, .ref (g 2), .ref (g 3), .ref (g 4), .ref (g 5), .ref (g 6), .int 0, .int 0, .ref (g 9), .ref (g 10), .ref (g 11), .ref (g 12), .ref (g 13), .int 0, .int 0, .ref (g 16), .ref (g 17), .ref (g 18), .ref (g 19), .ref (g 20), .ref (g 21), .ref (g 22), .ref (g 23), .ref (g 24), .ref (g 25), .ref (g 26), .ref (g 27), .ref (g 28), .ref (g 29), .int 0, .ref (g 31), .ref (g 32), .int 0, .int 0, .ref (g 35), .int 0, .ref (g 37), .ref (g 38), .int 0, .ref (g 40), .ref (g 41), .int 0, .ref (g 43), .ref (g 44), .ref (g 45), .int 0]))] := hD
    have hK : va_K (dC, dI) vwCl [] s := hK
    refine lv_iload_n hx hb dX11_bars_27 rfl (lv_at hl 0 rfl) ?_
    refine W.widen (k := 0) (n := 0) (Nat.le_of_ble_eq_true rfl) (Nat.le_of_ble_eq_true rfl) ?_
    exact k_iret () hx hb hr hlocks rfl P_nil D_nil (hK.sub (tys' := []) [] rfl) hS (by first | rfl | (simp [sp_bars, n_5]; done) | (simp [sp_bars, c_4, n_5]; done)) dX11_bars_28
  · have n_9 : (inB p0 0 1) = false := ite0 c_4
    refine lv_bipush (v := (-2)) hx hb dX11_bars_10 (by decide) ?_
    refine W.widen (k := 0) (n := 0) (Nat.le_of_ble_eq_true rfl) (Nat.le_of_ble_eq_true rfl) ?_
    exact k_iret () hx hb hr hlocks rfl P_nil D_nil (hK.sub (tys' := []) [] rfl) hS (by first | rfl | (simp [sp_bars, n_9]; done) | (simp [sp_bars, c_4, n_9]; done)) dX11_bars_12
set_option maxHeartbeats 4000000 in
set_option maxRecDepth 100000 in
theorem y_weight (l : Launch) (dC : Nat → ClassId) (dI : Nat → Nat → Nat) (g : Nat → Nat) (h : Nat → ClassId) (p0 : Int32) (p1 : Int32) (sz : Nat) : Ci l (dC, dI) yX11_weight cX11_weight 4 (some .int) { frames := 1, cells := 0, slots := 0, locals := 23 } [.ref (g 47), .int p0, .int p1] [(h 5, .int)] [zM g h, zMweight g h] sz 0 0 Unit (fun r _ => r = sp_weight p0 p1) (fun _ => []) (fun _ => []) := by
  refine Ci_of (lv := [(0, .ref (g 47)), (1, .int p0), (2, .int p1)]) (by decide) rfl rfl ?_
  intro p e s m below meth c A ls hx hb hml hr hown hta hlocks hnm hnw hP hD hK hS hA hl
  have hown : s.vm.findClass RX11 = some m.cls := hown
  refine lv_aload_n hx hb dX11_weight_0 rfl (lv_at hl 0 rfl) ?_
  refine lv_iload_n hx hb dX11_weight_1 rfl (lv_at hl 1 rfl) ?_
  refine lv_iconst (v := 0) hx hb dX11_weight_2 (by decide) ?_
  refine lv_iconst (v := 4) hx hb dX11_weight_3 (by decide) ?_
  refine kVi (b := (g 47)) (n := 3) (As := [.int p0, .int 0, .int 4]) (rest := []) ⟨hx, hb, hml, hown, hta⟩ hnw (m_in l dC dI g h p0 0 4  s.heap.size) cd_X11_in iz_X11 ml_X11_156 im_X11_in se_X11_X11_in (by decide +kernel) rfl (Nat.le_of_ble_eq_true rfl) (Nat.le_of_ble_eq_true rfl) rfl rfl (Nat.le_of_ble_eq_true rfl) (Nat.le_of_ble_eq_true rfl) hP hD hK hS hA [0] [1] [] rfl (wr := [zMweight g h]) rfl (by decide) (by decide) (by decide) rfl rfl 0 rfl hl.1 rfl (Nat.le_of_ble_eq_true rfl) dX11_weight_4 (fun r3 u1 H locs hw2 hP hD hK hS => ?_)
  have hP : va_P (dC, dI) vwCl [zMweight g h, zM g h] H := hP
  have hD : va_D A [zMweight g h, zM g h] := hD
  have hK : va_K (dC, dI) vwCl [(h 5, .int)] s := hK
  obtain rfl : r3 = if inB p0 0 4 then 1 else 0 := hw2
  refine lv_if_ne (tgt := 12) hx hb dX11_weight_7 (by decide) (fun c_4 => ?_) (fun c_4 => ?_)
  · have n_5 : (inB p0 0 4) = true := ite1 c_4
    refine lv_aload_n hx hb dX11_weight_12 rfl (lv_at hl 0 rfl) ?_
    refine lv_iload_n hx hb dX11_weight_13 rfl (lv_at hl 2 rfl) ?_
    refine lv_iconst (v := 0) hx hb dX11_weight_14 (by decide) ?_
    refine lv_bipush (v := 9) hx hb dX11_weight_15 (by decide) ?_
    refine kVi (b := (g 47)) (n := 3) (As := [.int p1, .int 0, .int 9]) (rest := []) ⟨hx, hb, hml, hown, hta⟩ hnw (m_in l dC dI g h p1 0 9  H.size) cd_X11_in iz_X11 ml_X11_156 im_X11_in se_X11_X11_in (by decide +kernel) rfl (Nat.le_of_ble_eq_true rfl) (Nat.le_of_ble_eq_true rfl) rfl rfl (Nat.le_of_ble_eq_true rfl) (Nat.le_of_ble_eq_true rfl) hP hD hK hS hA [1] [0] [] rfl (wr := [zMweight g h]) rfl (by decide) (by decide) (by decide) rfl rfl 0 rfl hl.1 rfl (Nat.le_of_ble_eq_true rfl) dX11_weight_17 (fun r8 u6 H locs hw7 hP hD hK hS => ?_)
    have hP : va_P (dC, dI) vwCl [zMweight g h, zM g h] H := hP
    have hD : va_D A [zMweight g h, zM g h] := hD
    have hK : va_K (dC, dI) vwCl [(h 5, .int)] s := hK
    obtain rfl : r8 = if inB p1 0 9 then 1 else 0 := hw7
    refine lv_if_ne (tgt := 26) hx hb dX11_weight_20 (by decide) (fun c_9 => ?_) (fun c_9 => ?_)
    · have n_10 : (inB p1 0 9) = true := ite1 c_9
      refine lv_aload_n hx hb dX11_weight_26 rfl (lv_at hl 0 rfl) ?_
      refine va_get (D := (dC, dI)) (ci := 10) (v := .ref (g 5)) (C := RX11) (T := TX11) (N := 47) hx hb hta inlX11 hown hK hP 1 rfl rfl 5 (by decide) (hta _ fl_X11_26) (fun _ h9 => h9) rfl dX11_weight_27 ?_
      refine lv_iload_n hx hb dX11_weight_30 rfl (lv_at hl 1 rfl) ?_
      refine va_iald hx hb hK hP 0 0 rfl rfl (vinB n_5 (by decide) (by decide)) dX11_weight_31 ?_
      refine k_top (y := 1) (fWe_v n_5) ?_
      refine lv_istore_n (lv' := [(3, .int 1), (0, .ref (g 47)), (1, .int p0), (2, .int p1)]) hx hb dX11_weight_32 rfl hl (by decide) rfl (fun ls hl => ?_)
      refine lv_aload_n hx hb dX11_weight_33 rfl (lv_at hl 1 rfl) ?_
      refine va_get (D := (dC, dI)) (ci := 10) (v := .ref (g 5)) (C := RX11) (T := TX11) (N := 47) hx hb hta inlX11 hown hK hP 1 rfl rfl 5 (by decide) (hta _ fl_X11_26) (fun _ h9 => h9) rfl dX11_weight_34 ?_
      refine lv_iload_n hx hb dX11_weight_37 rfl (lv_at hl 2 rfl) ?_
      refine lv_iload_n hx hb dX11_weight_38 rfl (lv_at hl 3 rfl) ?_
      refine va_iast hx hb hK hP hD hS 0 0 rfl rfl (vinB n_5 (by decide) (by decide)) dX11_weight_39 (fun H locs hP hD hS => ?_)
      have hP : va_P (dC, dI) vwCl [(g 5, .inl (h 5, 5, .inl (upd (upd (upd (upd (upd (upd (fun _ => 0) 0 1) 1 1) 2 1) 3 1) 4 1) ((p0 : Int32).toNatClampNeg) p1))), zM g h] H := hP
      have hD : va_D A [(g 5, .inl (h 5, 5, .inl (upd (upd (upd (upd (upd (upd (fun _ => 0) 0 1) 1 1) 2 1) 3 1) 4 1) ((p0 : Int32).toNatClampNeg) p1))), zM g h] := hD
      refine lv_aload_n hx hb dX11_weight_40 rfl (lv_at hl 1 rfl) ?_
      refine kVv (b := (g 47)) (n := 0) (As := []) (rest := []) ⟨hx, hb, hml, hown, hta⟩ hnw (m_forget l dC dI g h 0 0  H.size) cd_X11_forget iz_X11 ml_X11_164 im_X11_forget se_X11_X11_forget (by decide +kernel) rfl (Nat.le_of_ble_eq_true rfl) (Nat.le_of_ble_eq_true rfl) rfl rfl (Nat.le_of_ble_eq_true rfl) (Nat.le_of_ble_eq_true rfl) hP hD hK hS hA [1] [0] [] rfl (wr := [(g 5, .inl (h 5, 5, .inl (upd (upd (upd (upd (upd (upd (fun _ => 0) 0 1) 1 1) 2 1) 3 1) 4 1) ((p0 : Int32).toNatClampNeg) p1)))]) rfl (by decide) (by decide) (by decide) rfl rfl 0 rfl hl.1 rfl (Nat.le_of_ble_eq_true rfl) dX11_weight_41 (fun u11 H locs hw12 hP hD hK hS => ?_)
      have hP : va_P (dC, dI) vwCl [(g 5, .inl (h 5, 5, .inl (upd (upd (upd (upd (upd (upd (fun _ => 0) 0 1) 1 1) 2 1) 3 1) 4 1) ((p0 : Int32).toNatClampNeg) p1))), (g 47, .inr (10, [.int 0, .int 0, .ref (g 2), .ref (g 3), .ref (g 4), .ref (g 5), .ref (g 6), .int 0, .int 0, .ref (g 9), .ref (g 10), .ref (g 11), .ref (g 12), .ref (g 13), .int 0, .int 0, .ref (g 16), .ref (g 17), .ref (g 18), .ref (g 19), .ref (g 20), .ref (g 21), .ref (g 22), .ref (g 23), .ref (g 24), .ref (g 25), .ref (g 26), .ref (g 27), .ref (g 28), .ref (g 29), .int 0, .ref (g 31), .ref (g 32), .int 0, .int 0, .ref (g 35), .int 0, .ref (g 37), .ref (g 38), .int 0, .ref (g 40), .ref (g 41), .int 0, .ref (g 43), .ref (g 44), .ref (g 45), .int 0]))] H := hP
      have hD : va_D A [(g 5, .inl (h 5, 5, .inl (upd (upd (upd (upd (upd (upd (fun _ => 0) 0 1) 1 1) 2 1) 3 1) 4 1) ((p0 : Int32).toNatClampNeg) p1))), (g 47, .inr (10, [.int 0, .int 0, .ref (g 2), .ref (g 3), .ref (g 4), .ref (g 5), .ref (g 6), .int 0, .int 0, .ref (g 9), .ref (g 10), .ref (g 11), .ref (g 12), .ref (g 13), .int 0, .int 0, .ref (g 16), .ref (g 17), .ref (g 18), .ref (g 19), .ref (g 20), .ref (g 21), .ref (g 22), .ref (g 23), .ref (g 24), .ref (g 25), .ref (g 26), .ref (g 27), .ref (g 28), .ref (g 29), .int 0, .ref (g 31), .ref (g 32), .int 0, .int 0, .ref (g 35), .int 0, .ref (g 37), .ref (g 38), .int 0, .ref (g 40), .ref (g 41), .int 0, .ref (g 43), .ref (g 44), .ref (g 45), .int 0]))] := hD
      have hK : va_K (dC, dI) vwCl [(h 5, .int)] s := hK
      refine lv_iload_n hx hb dX11_weight_44 rfl (lv_at hl 0 rfl) ?_
      refine W.widen (k := 0) (n := 0) (Nat.le_of_ble_eq_true rfl) (Nat.le_of_ble_eq_true rfl) ?_
      exact k_iret () hx hb hr hlocks rfl P_nil D_nil (hK.sub (tys' := []) [] rfl) hS (by first | rfl | (simp [sp_weight, n_5, n_10]; done) | (simp [sp_weight, c_4, n_5, c_9, n_10]; done)) dX11_weight_45
    · have n_14 : (inB p1 0 9) = false := ite0 c_9
      refine lv_bipush (v := (-2)) hx hb dX11_weight_23 (by decide) ?_
      refine W.widen (k := 0) (n := 0) (Nat.le_of_ble_eq_true rfl) (Nat.le_of_ble_eq_true rfl) ?_
      exact k_iret () hx hb hr hlocks rfl P_nil D_nil (hK.sub (tys' := []) [] rfl) hS (by first | rfl | (simp [sp_weight, n_5, n_14]; done) | (simp [sp_weight, c_4, n_5, c_9, n_14]; done)) dX11_weight_25
  · have n_15 : (inB p0 0 4) = false := ite0 c_4
    refine lv_iconst (v := (-1)) hx hb dX11_weight_10 (by decide) ?_
    refine W.widen (k := 0) (n := 0) (Nat.le_of_ble_eq_true rfl) (Nat.le_of_ble_eq_true rfl) ?_
    exact k_iret () hx hb hr hlocks rfl P_nil D_nil (hK.sub (tys' := []) [] rfl) hS (by first | rfl | (simp [sp_weight, n_15]; done) | (simp [sp_weight, c_4, n_15]; done)) dX11_weight_11
set_option maxHeartbeats 4000000 in
set_option maxRecDepth 100000 in
theorem y_note (l : Launch) (dC : Nat → ClassId) (dI : Nat → Nat → Nat) (g : Nat → Nat) (h : Nat → ClassId) (p0 : Int32) (p1 : Int32) (p2 : Int32) (sz : Nat) : Ci l (dC, dI) yX11_note cX11_note 5 (some .int) { frames := 1, cells := 0, slots := 0, locals := 23 } [.ref (g 47), .int p0, .int p1, .int p2] [(h 10, .int), (h 11, .int), (h 12, .int), (h 13, .int)] [zM g h, zMpitch g h, zMkind g h, zMprice g h, zMfixed g h] sz 0 0 Unit (fun r _ => r = sp_note p0 p1 p2) (fun _ => []) (fun _ => []) := by
  refine Ci_of (lv := [(0, .ref (g 47)), (1, .int p0), (2, .int p1), (3, .int p2)]) (by decide) rfl rfl ?_
  intro p e s m below meth c A ls hx hb hml hr hown hta hlocks hnm hnw hP hD hK hS hA hl
  have hown : s.vm.findClass RX11 = some m.cls := hown
  refine lv_aload_n hx hb dX11_note_0 rfl (lv_at hl 0 rfl) ?_
  refine lv_iload_n hx hb dX11_note_1 rfl (lv_at hl 1 rfl) ?_
  refine lv_iconst (v := 0) hx hb dX11_note_2 (by decide) ?_
  refine lv_bipush (v := 120) hx hb dX11_note_3 (by decide) ?_
  refine kVi (b := (g 47)) (n := 3) (As := [.int p0, .int 0, .int 120]) (rest := []) ⟨hx, hb, hml, hown, hta⟩ hnw (m_in l dC dI g h p0 0 120  s.heap.size) cd_X11_in iz_X11 ml_X11_156 im_X11_in se_X11_X11_in (by decide +kernel) rfl (Nat.le_of_ble_eq_true rfl) (Nat.le_of_ble_eq_true rfl) rfl rfl (Nat.le_of_ble_eq_true rfl) (Nat.le_of_ble_eq_true rfl) hP hD hK hS hA [0] [1, 2, 3, 4] [] rfl (wr := [zMpitch g h, zMkind g h, zMprice g h, zMfixed g h]) rfl (by decide) (by decide) (by decide) rfl rfl 0 rfl hl.1 rfl (Nat.le_of_ble_eq_true rfl) dX11_note_5 (fun r3 u1 H locs hw2 hP hD hK hS => ?_)
  have hP : va_P (dC, dI) vwCl [zMpitch g h, zMkind g h, zMprice g h, zMfixed g h, zM g h] H := hP
  have hD : va_D A [zMpitch g h, zMkind g h, zMprice g h, zMfixed g h, zM g h] := hD
  have hK : va_K (dC, dI) vwCl [(h 10, .int), (h 11, .int), (h 12, .int), (h 13, .int)] s := hK
  obtain rfl : r3 = if inB p0 0 120 then 1 else 0 := hw2
  refine lv_if_eq (tgt := 32) hx hb dX11_note_8 (by decide) (fun c_4 => ?_) (fun c_4 => ?_)
  · have n_5 : (inB p0 0 120) = false := ite0 c_4
    refine lv_bipush (v := (-2)) hx hb dX11_note_32 (by decide) ?_
    refine W.widen (k := 0) (n := 0) (Nat.le_of_ble_eq_true rfl) (Nat.le_of_ble_eq_true rfl) ?_
    exact k_iret () hx hb hr hlocks rfl P_nil D_nil (hK.sub (tys' := []) [] rfl) hS (by simp [sp_note, n_5]) dX11_note_34
  · have n_6 : (inB p0 0 120) = true := ite1 c_4
    refine lv_aload_n hx hb dX11_note_11 rfl (lv_at hl 0 rfl) ?_
    refine lv_iload_n hx hb dX11_note_12 rfl (lv_at hl 2 rfl) ?_
    refine lv_iconst (v := 0) hx hb dX11_note_13 (by decide) ?_
    refine lv_iconst (v := 3) hx hb dX11_note_14 (by decide) ?_
    refine kVi (b := (g 47)) (n := 3) (As := [.int p1, .int 0, .int 3]) (rest := []) ⟨hx, hb, hml, hown, hta⟩ hnw (m_in l dC dI g h p1 0 3  H.size) cd_X11_in iz_X11 ml_X11_156 im_X11_in se_X11_X11_in (by decide +kernel) rfl (Nat.le_of_ble_eq_true rfl) (Nat.le_of_ble_eq_true rfl) rfl rfl (Nat.le_of_ble_eq_true rfl) (Nat.le_of_ble_eq_true rfl) hP hD hK hS hA [4] [0, 1, 2, 3] [] rfl (wr := [zMpitch g h, zMkind g h, zMprice g h, zMfixed g h]) rfl (by decide) (by decide) (by decide) rfl rfl 0 rfl hl.1 rfl (Nat.le_of_ble_eq_true rfl) dX11_note_15 (fun r9 u7 H locs hw8 hP hD hK hS => ?_)
    have hP : va_P (dC, dI) vwCl [zMpitch g h, zMkind g h, zMprice g h, zMfixed g h, zM g h] H := hP
    have hD : va_D A [zMpitch g h, zMkind g h, zMprice g h, zMfixed g h, zM g h] := hD
    have hK : va_K (dC, dI) vwCl [(h 10, .int), (h 11, .int), (h 12, .int), (h 13, .int)] s := hK
    obtain rfl : r9 = if inB p1 0 3 then 1 else 0 := hw8
    refine lv_if_eq (tgt := 32) hx hb dX11_note_18 (by decide) (fun c_10 => ?_) (fun c_10 => ?_)
    · have n_11 : (inB p1 0 3) = false := ite0 c_10
      refine lv_bipush (v := (-2)) hx hb dX11_note_32 (by decide) ?_
      refine W.widen (k := 0) (n := 0) (Nat.le_of_ble_eq_true rfl) (Nat.le_of_ble_eq_true rfl) ?_
      exact k_iret () hx hb hr hlocks rfl P_nil D_nil (hK.sub (tys' := []) [] rfl) hS (by simp [sp_note, n_6, n_11]) dX11_note_34
    · have n_12 : (inB p1 0 3) = true := ite1 c_10
      refine lv_aload_n hx hb dX11_note_21 rfl (lv_at hl 0 rfl) ?_
      refine lv_iload_n hx hb dX11_note_22 rfl (lv_at hl 3 rfl) ?_
      refine lv_iconst (v := 0) hx hb dX11_note_23 (by decide) ?_
      refine lv_bipush (v := 100) hx hb dX11_note_24 (by decide) ?_
      refine kVi (b := (g 47)) (n := 3) (As := [.int p2, .int 0, .int 100]) (rest := []) ⟨hx, hb, hml, hown, hta⟩ hnw (m_in l dC dI g h p2 0 100  H.size) cd_X11_in iz_X11 ml_X11_156 im_X11_in se_X11_X11_in (by decide +kernel) rfl (Nat.le_of_ble_eq_true rfl) (Nat.le_of_ble_eq_true rfl) rfl rfl (Nat.le_of_ble_eq_true rfl) (Nat.le_of_ble_eq_true rfl) hP hD hK hS hA [4] [0, 1, 2, 3] [] rfl (wr := [zMpitch g h, zMkind g h, zMprice g h, zMfixed g h]) rfl (by decide) (by decide) (by decide) rfl rfl 0 rfl hl.1 rfl (Nat.le_of_ble_eq_true rfl) dX11_note_26 (fun r15 u13 H locs hw14 hP hD hK hS => ?_)
      have hP : va_P (dC, dI) vwCl [zMpitch g h, zMkind g h, zMprice g h, zMfixed g h, zM g h] H := hP
      have hD : va_D A [zMpitch g h, zMkind g h, zMprice g h, zMfixed g h, zM g h] := hD
      have hK : va_K (dC, dI) vwCl [(h 10, .int), (h 11, .int), (h 12, .int), (h 13, .int)] s := hK
      obtain rfl : r15 = if inB p2 0 100 then 1 else 0 := hw14
      refine lv_if_ne (tgt := 35) hx hb dX11_note_29 (by decide) (fun c_16 => ?_) (fun c_16 => ?_)
      · have n_17 : (inB p2 0 100) = true := ite1 c_16
        refine lv_iconst (v := 0) hx hb dX11_note_35 (by decide) ?_
        refine lv_istore (lv' := [(4, .int 0), (0, .ref (g 47)), (1, .int p0), (2, .int p1), (3, .int p2)]) hx hb dX11_note_36 hl (by decide) rfl (fun ls hl => ?_)
        refine lv_iload hx hb dX11_note_38 (lv_at hl 0 rfl) ?_
        refine lv_aload_n hx hb dX11_note_40 rfl (lv_at hl 1 rfl) ?_
        refine va_get (D := (dC, dI)) (ci := 10) (v := .int 0) (C := RX11) (T := TX11) (N := 47) hx hb hta inlX11 hown hK hP 4 rfl rfl 8 (by decide) (hta _ fl_X11_35) (fun _ h9 => h9) rfl dX11_note_41 ?_
        refine lv_icmp_ge (tgt := 75) hx hb dX11_note_44 (by decide) (fun _ => ?_) (fun c => absurd (by decide) c)
        refine lv_iload_n hx hb dX11_note_75 rfl (lv_at hl 3 rfl) ?_
        refine lv_iconst (v := 1) hx hb dX11_note_76 (by decide) ?_
        refine lv_icmp_ne (tgt := 101) hx hb dX11_note_77 (by decide) (fun c_18 => ?_) (fun c_18 => ?_)
        · refine lv_iload_n hx hb dX11_note_101 rfl (lv_at hl 3 rfl) ?_
          refine lv_iconst (v := 2) hx hb dX11_note_102 (by decide) ?_
          refine lv_icmp_ne (tgt := 130) hx hb dX11_note_103 (by decide) (fun c_19 => ?_) (fun c_19 => ?_)
          · refine lv_aload_n hx hb dX11_note_130 rfl (lv_at hl 1 rfl) ?_
            refine va_get (D := (dC, dI)) (ci := 10) (v := .int 0) (C := RX11) (T := TX11) (N := 47) hx hb hta inlX11 hown hK hP 4 rfl rfl 8 (by decide) (hta _ fl_X11_35) (fun _ h9 => h9) rfl dX11_note_131 ?_
            refine lv_iconst (v := 4) hx hb dX11_note_134 (by decide) ?_
            refine lv_icmp_ne (tgt := 141) hx hb dX11_note_135 (by decide) (fun _ => ?_) (fun c => absurd c (by decide))
            refine lv_aload_n hx hb dX11_note_141 rfl (lv_at hl 1 rfl) ?_
            refine lv_aload_n hx hb dX11_note_142 rfl (lv_at hl 1 rfl) ?_
            refine va_get (D := (dC, dI)) (ci := 10) (v := .int 0) (C := RX11) (T := TX11) (N := 47) hx hb hta inlX11 hown hK hP 4 rfl rfl 7 (by decide) (hta _ fl_X11_32) (fun _ h9 => h9) rfl dX11_note_143 ?_
            refine lv_aload_n hx hb dX11_note_146 rfl (lv_at hl 1 rfl) ?_
            refine va_get (D := (dC, dI)) (ci := 10) (v := .int 0) (C := RX11) (T := TX11) (N := 47) hx hb hta inlX11 hown hK hP 4 rfl rfl 8 (by decide) (hta _ fl_X11_35) (fun _ h9 => h9) rfl dX11_note_147 ?_
            refine kVi (b := (g 47)) (n := 2) (As := [.int 0, .int 0]) (rest := []) ⟨hx, hb, hml, hown, hta⟩ hnw (m_spot l dC dI g h 0 0  H.size) cd_X11_spot iz_X11 ml_X11_170 im_X11_spot se_X11_X11_spot (by decide +kernel) rfl (Nat.le_of_ble_eq_true rfl) (Nat.le_of_ble_eq_true rfl) rfl rfl (Nat.le_of_ble_eq_true rfl) (Nat.le_of_ble_eq_true rfl) hP hD hK hS hA [4] [0, 1, 2, 3] [] rfl (wr := [zMpitch g h, zMkind g h, zMprice g h, zMfixed g h]) rfl (by decide) (by decide) (by decide) rfl rfl 0 rfl hl.1 rfl (Nat.le_of_ble_eq_true rfl) dX11_note_150 (fun r22 u20 H locs hw21 hP hD hK hS => ?_)
            have hP : va_P (dC, dI) vwCl [zMpitch g h, zMkind g h, zMprice g h, zMfixed g h, zM g h] H := hP
            have hD : va_D A [zMpitch g h, zMkind g h, zMprice g h, zMfixed g h, zM g h] := hD
            have hK : va_K (dC, dI) vwCl [(h 10, .int), (h 11, .int), (h 12, .int), (h 13, .int)] s := hK
            obtain rfl : r22 = 0 := hw21.trans (by decide)
            refine lv_istore (lv' := [(4, .int 0), (0, .ref (g 47)), (1, .int p0), (2, .int p1), (3, .int p2)]) hx hb dX11_note_153 hl (by decide) rfl (fun ls hl => ?_)
            refine lv_aload_n hx hb dX11_note_155 rfl (lv_at hl 1 rfl) ?_
            refine va_get (D := (dC, dI)) (ci := 10) (v := .ref (g 10)) (C := RX11) (T := TX11) (N := 47) hx hb hta inlX11 hown hK hP 4 rfl rfl 10 (by decide) (hta _ fl_X11_41) (fun _ h9 => h9) rfl dX11_note_156 ?_
            refine lv_iload hx hb dX11_note_159 (lv_at hl 0 rfl) ?_
            refine lv_iload_n hx hb dX11_note_161 rfl (lv_at hl 2 rfl) ?_
            refine va_iast hx hb hK hP hD hS 0 0 rfl rfl (vin (by decide)) dX11_note_162 (fun H locs hP hD hS => ?_)
            have hP : va_P (dC, dI) vwCl [(g 10, .inl (h 10, 68, .inl (upd (fun _ => 0) 0 p0))), zMkind g h, zMprice g h, zMfixed g h, zM g h] H := hP
            have hD : va_D A [(g 10, .inl (h 10, 68, .inl (upd (fun _ => 0) 0 p0))), zMkind g h, zMprice g h, zMfixed g h, zM g h] := hD
            refine lv_aload_n hx hb dX11_note_163 rfl (lv_at hl 1 rfl) ?_
            refine va_get (D := (dC, dI)) (ci := 10) (v := .ref (g 11)) (C := RX11) (T := TX11) (N := 47) hx hb hta inlX11 hown hK hP 4 rfl rfl 11 (by decide) (hta _ fl_X11_44) (fun _ h9 => h9) rfl dX11_note_164 ?_
            refine lv_iload hx hb dX11_note_167 (lv_at hl 0 rfl) ?_
            refine lv_iload_n hx hb dX11_note_169 rfl (lv_at hl 3 rfl) ?_
            refine va_iast hx hb hK hP hD hS 1 1 rfl rfl (vin (by decide)) dX11_note_170 (fun H locs hP hD hS => ?_)
            have hP : va_P (dC, dI) vwCl [(g 10, .inl (h 10, 68, .inl (upd (fun _ => 0) 0 p0))), (g 11, .inl (h 11, 68, .inl (upd (fun _ => 0) 0 p1))), zMprice g h, zMfixed g h, zM g h] H := hP
            have hD : va_D A [(g 10, .inl (h 10, 68, .inl (upd (fun _ => 0) 0 p0))), (g 11, .inl (h 11, 68, .inl (upd (fun _ => 0) 0 p1))), zMprice g h, zMfixed g h, zM g h] := hD
            refine lv_aload_n hx hb dX11_note_171 rfl (lv_at hl 1 rfl) ?_
            refine va_get (D := (dC, dI)) (ci := 10) (v := .ref (g 12)) (C := RX11) (T := TX11) (N := 47) hx hb hta inlX11 hown hK hP 4 rfl rfl 12 (by decide) (hta _ fl_X11_47) (fun _ h9 => h9) rfl dX11_note_172 ?_
            refine lv_iload hx hb dX11_note_175 (lv_at hl 0 rfl) ?_
            refine lv_iload_n hx hb dX11_note_177 rfl (lv_at hl 4 rfl) ?_
            refine va_iast hx hb hK hP hD hS 2 2 rfl rfl (vin (by decide)) dX11_note_178 (fun H locs hP hD hS => ?_)
            have hP : va_P (dC, dI) vwCl [(g 10, .inl (h 10, 68, .inl (upd (fun _ => 0) 0 p0))), (g 11, .inl (h 11, 68, .inl (upd (fun _ => 0) 0 p1))), (g 12, .inl (h 12, 68, .inl (upd (fun _ => 0) 0 p2))), zMfixed g h, zM g h] H := hP
            have hD : va_D A [(g 10, .inl (h 10, 68, .inl (upd (fun _ => 0) 0 p0))), (g 11, .inl (h 11, 68, .inl (upd (fun _ => 0) 0 p1))), (g 12, .inl (h 12, 68, .inl (upd (fun _ => 0) 0 p2))), zMfixed g h, zM g h] := hD
            refine lv_aload_n hx hb dX11_note_179 rfl (lv_at hl 1 rfl) ?_
            refine va_get (D := (dC, dI)) (ci := 10) (v := .ref (g 13)) (C := RX11) (T := TX11) (N := 47) hx hb hta inlX11 hown hK hP 4 rfl rfl 13 (by decide) (hta _ fl_X11_50) (fun _ h9 => h9) rfl dX11_note_180 ?_
            refine lv_iload hx hb dX11_note_183 (lv_at hl 0 rfl) ?_
            refine lv_iconst (v := (-1)) hx hb dX11_note_185 (by decide) ?_
            refine va_iast hx hb hK hP hD hS 3 3 rfl rfl (vin (by decide)) dX11_note_186 (fun H locs hP hD hS => ?_)
            have hP : va_P (dC, dI) vwCl [(g 10, .inl (h 10, 68, .inl (upd (fun _ => 0) 0 p0))), (g 11, .inl (h 11, 68, .inl (upd (fun _ => 0) 0 p1))), (g 12, .inl (h 12, 68, .inl (upd (fun _ => 0) 0 p2))), (g 13, .inl (h 13, 68, .inl (upd (fun _ => 0) 0 (-1)))), zM g h] H := hP
            have hD : va_D A [(g 10, .inl (h 10, 68, .inl (upd (fun _ => 0) 0 p0))), (g 11, .inl (h 11, 68, .inl (upd (fun _ => 0) 0 p1))), (g 12, .inl (h 12, 68, .inl (upd (fun _ => 0) 0 p2))), (g 13, .inl (h 13, 68, .inl (upd (fun _ => 0) 0 (-1)))), zM g h] := hD
            refine lv_aload_n hx hb dX11_note_187 rfl (lv_at hl 1 rfl) ?_
            refine lv_dup hx hb dX11_note_188 rfl ?_
            refine va_get (D := (dC, dI)) (ci := 10) (v := .int 0) (C := RX11) (T := TX11) (N := 47) hx hb hta inlX11 hown hK hP 4 rfl rfl 8 (by decide) (hta _ fl_X11_35) (fun _ h9 => h9) rfl dX11_note_189 ?_
            refine lv_iconst (v := 1) hx hb dX11_note_192 (by decide) ?_
            refine lv_iadd hx hb dX11_note_193 ?_
            refine k_top (y := 1) (by decide) ?_
            refine va_put (D := (dC, dI)) (ci := 10) (v := .int 1) (ty := .int) (C := RX11) (T := TX11) (N := 47) hx hb hta inlX11 tyX11 tyX11_ok nmX11 hown hK hP hD hS 4 rfl rfl 8 (by decide) (hta _ fl_X11_35) (fun _ h9 => h9) rfl (by decide +kernel) rfl rfl (Nat.le_of_ble_eq_true rfl) dX11_note_194 (fun H locs hP hD hS => ?_)
            have hP : va_P (dC, dI) vwCl [(g 10, .inl (h 10, 68, .inl (upd (fun _ => 0) 0 p0))), (g 11, .inl (h 11, 68, .inl (upd (fun _ => 0) 0 p1))), (g 12, .inl (h 12, 68, .inl (upd (fun _ => 0) 0 p2))), (g 13, .inl (h 13, 68, .inl (upd (fun _ => 0) 0 (-1)))), (g 47, .inr (10, [.int 0, .int 0, .ref (g 2), .ref (g 3), .ref (g 4), .ref (g 5), .ref (g 6), .int 0, .int 1, .ref (g 9), .ref (g 10), .ref (g 11), .ref (g 12), .ref (g 13), .int 0, .int 0, .ref (g 16), .ref (g 17), .ref (g 18), .ref (g 19), .ref (g 20), .ref (g 21), .ref (g 22), .ref (g 23), .ref (g 24), .ref (g 25), .ref (g 26), .ref (g 27), .ref (g 28), .ref (g 29), .int 0, .ref (g 31), .ref (g 32), .int 0, .int 0, .ref (g 35), .int 0, .ref (g 37), .ref (g 38), .int 0, .ref (g 40), .ref (g 41), .int 0, .ref (g 43), .ref (g 44), .ref (g 45), .int 0]))] H := hP
            have hD : va_D A [(g 10, .inl (h 10, 68, .inl (upd (fun _ => 0) 0 p0))), (g 11, .inl (h 11, 68, .inl (upd (fun _ => 0) 0 p1))), (g 12, .inl (h 12, 68, .inl (upd (fun _ => 0) 0 p2))), (g 13, .inl (h 13, 68, .inl (upd (fun _ => 0) 0 (-1)))), (g 47, .inr (10, [.int 0, .int 0, .ref (g 2), .ref (g 3), .ref (g 4), .ref (g 5), .ref (g 6), .int 0, .int 1, .ref (g 9), .ref (g 10), .ref (g 11), .ref (g 12), .ref (g 13), .int 0, .int 0, .ref (g 16), .ref (g 17), .ref (g 18), .ref (g 19), .ref (g 20), .ref (g 21), .ref (g 22), .ref (g 23), .ref (g 24), .ref (g 25), .ref (g 26), .ref (g 27), .ref (g 28), .ref (g 29), .int 0, .ref (g 31), .ref (g 32), .int 0, .int 0, .ref (g 35), .int 0, .ref (g 37), .ref (g 38), .int 0, .ref (g 40), .ref (g 41), .int 0, .ref (g 43), .ref (g 44), .ref (g 45), .int 0]))] := hD
            refine lv_aload_n hx hb dX11_note_197 rfl (lv_at hl 1 rfl) ?_
            refine va_get (D := (dC, dI)) (ci := 10) (v := .int 1) (C := RX11) (T := TX11) (N := 47) hx hb hta inlX11 hown hK hP 4 rfl rfl 8 (by decide) (hta _ fl_X11_35) (fun _ h9 => h9) rfl dX11_note_198 ?_
            refine W.widen (k := 0) (n := 0) (Nat.le_of_ble_eq_true rfl) (Nat.le_of_ble_eq_true rfl) ?_
            exact k_iret () hx hb hr hlocks rfl P_nil D_nil (hK.sub (tys' := []) [] rfl) hS (by have ht : tiedB p1 = false := (by simp [tiedB, c_18, c_19]); simp [sp_note, ht, n_6, n_12, n_17]) dX11_note_201
          · refine lv_aload_n hx hb dX11_note_106 rfl (lv_at hl 1 rfl) ?_
            refine va_get (D := (dC, dI)) (ci := 10) (v := .int 0) (C := RX11) (T := TX11) (N := 47) hx hb hta inlX11 hown hK hP 4 rfl rfl 7 (by decide) (hta _ fl_X11_32) (fun _ h9 => h9) rfl dX11_note_107 ?_
            refine lv_if_eq (tgt := 127) hx hb dX11_note_110 (by decide) (fun _ => ?_) (fun c => absurd (by decide) c)
            refine lv_bipush (v := (-3)) hx hb dX11_note_127 (by decide) ?_
            refine W.widen (k := 0) (n := 0) (Nat.le_of_ble_eq_true rfl) (Nat.le_of_ble_eq_true rfl) ?_
            exact k_iret () hx hb hr hlocks rfl P_nil D_nil (hK.sub (tys' := []) [] rfl) hS (by have ht : tiedB p1 = true := (by simp [tiedB, c_18, c_19]); simp [sp_note, ht, n_6, n_12, n_17]) dX11_note_129
        · refine lv_aload_n hx hb dX11_note_80 rfl (lv_at hl 1 rfl) ?_
          refine va_get (D := (dC, dI)) (ci := 10) (v := .int 0) (C := RX11) (T := TX11) (N := 47) hx hb hta inlX11 hown hK hP 4 rfl rfl 7 (by decide) (hta _ fl_X11_32) (fun _ h9 => h9) rfl dX11_note_81 ?_
          refine lv_if_eq (tgt := 127) hx hb dX11_note_84 (by decide) (fun _ => ?_) (fun c => absurd (by decide) c)
          refine lv_bipush (v := (-3)) hx hb dX11_note_127 (by decide) ?_
          refine W.widen (k := 0) (n := 0) (Nat.le_of_ble_eq_true rfl) (Nat.le_of_ble_eq_true rfl) ?_
          exact k_iret () hx hb hr hlocks rfl P_nil D_nil (hK.sub (tys' := []) [] rfl) hS (by have ht : tiedB p1 = true := (by simp [tiedB, c_18]); simp [sp_note, ht, n_6, n_12, n_17]) dX11_note_129
      · have n_23 : (inB p2 0 100) = false := ite0 c_16
        refine lv_bipush (v := (-2)) hx hb dX11_note_32 (by decide) ?_
        refine W.widen (k := 0) (n := 0) (Nat.le_of_ble_eq_true rfl) (Nat.le_of_ble_eq_true rfl) ?_
        exact k_iret () hx hb hr hlocks rfl P_nil D_nil (hK.sub (tys' := []) [] rfl) hS (by simp [sp_note, n_6, n_12, n_23]) dX11_note_34
set_option maxHeartbeats 4000000 in
set_option maxRecDepth 100000 in
theorem y_tick (l : Launch) (dC : Nat → ClassId) (dI : Nat → Nat → Nat) (g : Nat → Nat) (h : Nat → ClassId) (sz : Nat) : Ci l (dC, dI) yX11_tick cX11_tick 1 (some .int) { frames := 0, cells := 0, slots := 0, locals := 0 } [.ref (g 47)] [] [zM g h] sz 0 0 Unit (fun r _ => r = (-3)) (fun _ => []) (fun _ => []) := by
  refine Ci_of (lv := [(0, .ref (g 47))]) (by decide) rfl rfl ?_
  intro p e s m below meth c A ls hx hb hml hr hown hta hlocks hnm hnw hP hD hK hS hA hl
  have hown : s.vm.findClass RX11 = some m.cls := hown
  refine lv_aload_n hx hb dX11_tick_0 rfl (lv_at hl 0 rfl) ?_
  refine va_get (D := (dC, dI)) (ci := 10) (v := .int 0) (C := RX11) (T := TX11) (N := 47) hx hb hta inlX11 hown hK hP 0 rfl rfl 0 (by decide) (hta _ fl_X11_7) (fun _ h9 => h9) rfl dX11_tick_1 ?_
  refine lv_if_ne (tgt := 10) hx hb dX11_tick_4 (by decide) (fun c => absurd c (by decide)) (fun _ => ?_)
  refine lv_bipush (v := (-3)) hx hb dX11_tick_7 (by decide) ?_
  refine W.widen (k := 0) (n := 0) (Nat.le_of_ble_eq_true rfl) (Nat.le_of_ble_eq_true rfl) ?_
  exact k_iret () hx hb hr hlocks rfl P_nil D_nil (hK.sub (tys' := []) [] rfl) hS rfl dX11_tick_9
set_option maxHeartbeats 4000000 in
set_option maxRecDepth 100000 in
theorem y_clear (l : Launch) (dC : Nat → ClassId) (dI : Nat → Nat → Nat) (g : Nat → Nat) (h : Nat → ClassId) (sz : Nat) : Ci l (dC, dI) yX11_clear cX11_clear 2 (some .int) { frames := 1, cells := 0, slots := 0, locals := 20 } [.ref (g 47)] [] [zM g h] sz 0 0 Unit (fun r _ => r = 0) (fun _ => []) (fun _ => []) := by
  refine Ci_of (lv := [(0, .ref (g 47))]) (by decide) rfl rfl ?_
  intro p e s m below meth c A ls hx hb hml hr hown hta hlocks hnm hnw hP hD hK hS hA hl
  have hown : s.vm.findClass RX11 = some m.cls := hown
  refine lv_aload_n hx hb dX11_clear_0 rfl (lv_at hl 0 rfl) ?_
  refine va_get (D := (dC, dI)) (ci := 10) (v := .int 0) (C := RX11) (T := TX11) (N := 47) hx hb hta inlX11 hown hK hP 0 rfl rfl 7 (by decide) (hta _ fl_X11_32) (fun _ h9 => h9) rfl dX11_clear_1 ?_
  refine lv_istore_n (lv' := [(1, .int 0), (0, .ref (g 47))]) hx hb dX11_clear_4 rfl hl (by decide) rfl (fun ls hl => ?_)
  refine lv_aload_n hx hb dX11_clear_5 rfl (lv_at hl 1 rfl) ?_
  refine lv_iconst (v := 0) hx hb dX11_clear_6 (by decide) ?_
  refine va_put (D := (dC, dI)) (ci := 10) (v := .int 0) (ty := .int) (C := RX11) (T := TX11) (N := 47) hx hb hta inlX11 tyX11 tyX11_ok nmX11 hown hK hP hD hS 0 rfl rfl 7 (by decide) (hta _ fl_X11_32) (fun _ h9 => h9) rfl (by decide +kernel) rfl rfl (Nat.le_of_ble_eq_true rfl) dX11_clear_7 (fun H locs hP hD hS => ?_)
  have hP : va_P (dC, dI) vwCl [(g 47, .inr (10, [.int 0, .int 0, .ref (g 2), .ref (g 3), .ref (g 4), .ref (g 5), .ref (g 6), .int 0, .int 0, .ref (g 9), .ref (g 10), .ref (g 11), .ref (g 12), .ref (g 13), .int 0, .int 0, .ref (g 16), .ref (g 17), .ref (g 18), .ref (g 19), .ref (g 20), .ref (g 21), .ref (g 22), .ref (g 23), .ref (g 24), .ref (g 25), .ref (g 26), .ref (g 27), .ref (g 28), .ref (g 29), .int 0, .ref (g 31), .ref (g 32), .int 0, .int 0, .ref (g 35), .int 0, .ref (g 37), .ref (g 38), .int 0, .ref (g 40), .ref (g 41), .int 0, .ref (g 43), .ref (g 44), .ref (g 45), .int 0]))] H := hP
  have hD : va_D A [(g 47, .inr (10, [.int 0, .int 0, .ref (g 2), .ref (g 3), .ref (g 4), .ref (g 5), .ref (g 6), .int 0, .int 0, .ref (g 9), .ref (g 10), .ref (g 11), .ref (g 12), .ref (g 13), .int 0, .int 0, .ref (g 16), .ref (g 17), .ref (g 18), .ref (g 19), .ref (g 20), .ref (g 21), .ref (g 22), .ref (g 23), .ref (g 24), .ref (g 25), .ref (g 26), .ref (g 27), .ref (g 28), .ref (g 29), .int 0, .ref (g 31), .ref (g 32), .int 0, .int 0, .ref (g 35), .int 0, .ref (g 37), .ref (g 38), .int 0, .ref (g 40), .ref (g 41), .int 0, .ref (g 43), .ref (g 44), .ref (g 45), .int 0]))] := hD
  refine lv_aload_n hx hb dX11_clear_10 rfl (lv_at hl 1 rfl) ?_
  refine lv_iconst (v := 0) hx hb dX11_clear_11 (by decide) ?_
  refine va_put (D := (dC, dI)) (ci := 10) (v := .int 0) (ty := .int) (C := RX11) (T := TX11) (N := 47) hx hb hta inlX11 tyX11 tyX11_ok nmX11 hown hK hP hD hS 0 rfl rfl 8 (by decide) (hta _ fl_X11_35) (fun _ h9 => h9) rfl (by decide +kernel) rfl rfl (Nat.le_of_ble_eq_true rfl) dX11_clear_12 (fun H locs hP hD hS => ?_)
  have hP : va_P (dC, dI) vwCl [(g 47, .inr (10, [.int 0, .int 0, .ref (g 2), .ref (g 3), .ref (g 4), .ref (g 5), .ref (g 6), .int 0, .int 0, .ref (g 9), .ref (g 10), .ref (g 11), .ref (g 12), .ref (g 13), .int 0, .int 0, .ref (g 16), .ref (g 17), .ref (g 18), .ref (g 19), .ref (g 20), .ref (g 21), .ref (g 22), .ref (g 23), .ref (g 24), .ref (g 25), .ref (g 26), .ref (g 27), .ref (g 28), .ref (g 29), .int 0, .ref (g 31), .ref (g 32), .int 0, .int 0, .ref (g 35), .int 0, .ref (g 37), .ref (g 38), .int 0, .ref (g 40), .ref (g 41), .int 0, .ref (g 43), .ref (g 44), .ref (g 45), .int 0]))] H := hP
  have hD : va_D A [(g 47, .inr (10, [.int 0, .int 0, .ref (g 2), .ref (g 3), .ref (g 4), .ref (g 5), .ref (g 6), .int 0, .int 0, .ref (g 9), .ref (g 10), .ref (g 11), .ref (g 12), .ref (g 13), .int 0, .int 0, .ref (g 16), .ref (g 17), .ref (g 18), .ref (g 19), .ref (g 20), .ref (g 21), .ref (g 22), .ref (g 23), .ref (g 24), .ref (g 25), .ref (g 26), .ref (g 27), .ref (g 28), .ref (g 29), .int 0, .ref (g 31), .ref (g 32), .int 0, .int 0, .ref (g 35), .int 0, .ref (g 37), .ref (g 38), .int 0, .ref (g 40), .ref (g 41), .int 0, .ref (g 43), .ref (g 44), .ref (g 45), .int 0]))] := hD
  refine lv_aload_n hx hb dX11_clear_15 rfl (lv_at hl 1 rfl) ?_
  refine kVv (b := (g 47)) (n := 0) (As := []) (rest := []) ⟨hx, hb, hml, hown, hta⟩ hnw (m_forget l dC dI g h 0 0  H.size) cd_X11_forget iz_X11 ml_X11_164 im_X11_forget se_X11_X11_forget (by decide +kernel) rfl (Nat.le_of_ble_eq_true rfl) (Nat.le_of_ble_eq_true rfl) rfl rfl (Nat.le_of_ble_eq_true rfl) (Nat.le_of_ble_eq_true rfl) hP hD hK hS hA [0] [] [] rfl (wr := []) rfl (by decide) (by decide) (by decide) rfl rfl 0 rfl hl.1 rfl (Nat.le_of_ble_eq_true rfl) dX11_clear_16 (fun u1 H locs hw2 hP hD hK hS => ?_)
  have hP : va_P (dC, dI) vwCl [(g 47, .inr (10, [.int 0, .int 0, .ref (g 2), .ref (g 3), .ref (g 4), .ref (g 5), .ref (g 6), .int 0, .int 0, .ref (g 9), .ref (g 10), .ref (g 11), .ref (g 12), .ref (g 13), .int 0, .int 0, .ref (g 16), .ref (g 17), .ref (g 18), .ref (g 19), .ref (g 20), .ref (g 21), .ref (g 22), .ref (g 23), .ref (g 24), .ref (g 25), .ref (g 26), .ref (g 27), .ref (g 28), .ref (g 29), .int 0, .ref (g 31), .ref (g 32), .int 0, .int 0, .ref (g 35), .int 0, .ref (g 37), .ref (g 38), .int 0, .ref (g 40), .ref (g 41), .int 0, .ref (g 43), .ref (g 44), .ref (g 45), .int 0]))] H := hP
  have hD : va_D A [(g 47, .inr (10, [.int 0, .int 0, .ref (g 2), .ref (g 3), .ref (g 4), .ref (g 5), .ref (g 6), .int 0, .int 0, .ref (g 9), .ref (g 10), .ref (g 11), .ref (g 12), .ref (g 13), .int 0, .int 0, .ref (g 16), .ref (g 17), .ref (g 18), .ref (g 19), .ref (g 20), .ref (g 21), .ref (g 22), .ref (g 23), .ref (g 24), .ref (g 25), .ref (g 26), .ref (g 27), .ref (g 28), .ref (g 29), .int 0, .ref (g 31), .ref (g 32), .int 0, .int 0, .ref (g 35), .int 0, .ref (g 37), .ref (g 38), .int 0, .ref (g 40), .ref (g 41), .int 0, .ref (g 43), .ref (g 44), .ref (g 45), .int 0]))] := hD
  have hK : va_K (dC, dI) vwCl [] s := hK
  refine lv_iload_n hx hb dX11_clear_19 rfl (lv_at hl 0 rfl) ?_
  refine W.widen (k := 0) (n := 0) (Nat.le_of_ble_eq_true rfl) (Nat.le_of_ble_eq_true rfl) ?_
  exact k_iret () hx hb hr hlocks rfl P_nil D_nil (hK.sub (tys' := []) [] rfl) hS rfl dX11_clear_20
set_option maxHeartbeats 4000000 in
set_option maxRecDepth 100000 in
theorem y_fix (l : Launch) (dC : Nat → ClassId) (dI : Nat → Nat → Nat) (g : Nat → Nat) (h : Nat → ClassId) (p0 : Int32) (p1 : Int32) (p2 : Int32) (sz : Nat) : Ci l (dC, dI) yX11_fix cX11_fix 5 (some .int) { frames := 3, cells := 0, slots := 0, locals := 66 } [.ref (g 47), .int p0, .int p1, .int p2] [] [zM g h] sz 0 0 Unit (fun r _ => r = (-1)) (fun _ => []) (fun _ => []) := by
  refine Ci_of (lv := [(0, .ref (g 47)), (1, .int p0), (2, .int p1), (3, .int p2)]) (by decide) rfl rfl ?_
  intro p e s m below meth c A ls hx hb hml hr hown hta hlocks hnm hnw hP hD hK hS hA hl
  have hown : s.vm.findClass RX11 = some m.cls := hown
  refine lv_aload_n hx hb dX11_fix_0 rfl (lv_at hl 0 rfl) ?_
  refine lv_iload_n hx hb dX11_fix_1 rfl (lv_at hl 1 rfl) ?_
  refine lv_iload_n hx hb dX11_fix_2 rfl (lv_at hl 2 rfl) ?_
  refine kVi (b := (g 47)) (n := 2) (As := [.int p0, .int p1]) (rest := []) ⟨hx, hb, hml, hown, hta⟩ hnw (m_isNote l dC dI g h p0 p1  s.heap.size) cd_X11_isNote iz_X11 ml_X11_177 im_X11_isNote se_X11_X11_isNote (by decide +kernel) rfl (Nat.le_of_ble_eq_true rfl) (Nat.le_of_ble_eq_true rfl) rfl rfl (Nat.le_of_ble_eq_true rfl) (Nat.le_of_ble_eq_true rfl) hP hD hK hS hA [0] [] [] rfl (wr := []) rfl (by decide) (by decide) (by decide) rfl rfl 0 rfl hl.1 rfl (Nat.le_of_ble_eq_true rfl) dX11_fix_3 (fun r3 u1 H locs hw2 hP hD hK hS => ?_)
  have hP : va_P (dC, dI) vwCl [zM g h] H := hP
  have hD : va_D A [zM g h] := hD
  have hK : va_K (dC, dI) vwCl [] s := hK
  obtain rfl : r3 = 0 := hw2
  refine lv_if_eq (tgt := 22) hx hb dX11_fix_6 (by decide) (fun _ => ?_) (fun c => absurd (by decide) c)
  refine lv_iconst (v := (-1)) hx hb dX11_fix_22 (by decide) ?_
  refine W.widen (k := 0) (n := 0) (Nat.le_of_ble_eq_true rfl) (Nat.le_of_ble_eq_true rfl) ?_
  exact k_iret () hx hb hr hlocks rfl P_nil D_nil (hK.sub (tys' := []) [] rfl) hS rfl dX11_fix_23
set_option maxHeartbeats 4000000 in
set_option maxRecDepth 100000 in
theorem y_told (l : Launch) (dC : Nat → ClassId) (dI : Nat → Nat → Nat) (g : Nat → Nat) (h : Nat → ClassId) (p0 : Int32) (p1 : Int32) (p2 : Int32) (sz : Nat) : Ci l (dC, dI) yX11_told cX11_told 4 (some .int) { frames := 3, cells := 0, slots := 0, locals := 66 } [.ref (g 47), .int p0, .int p1, .int p2] [] [zM g h] sz 0 0 Unit (fun r _ => r = (-1)) (fun _ => []) (fun _ => []) := by
  refine Ci_of (lv := [(0, .ref (g 47)), (1, .int p0), (2, .int p1), (3, .int p2)]) (by decide) rfl rfl ?_
  intro p e s m below meth c A ls hx hb hml hr hown hta hlocks hnm hnw hP hD hK hS hA hl
  have hown : s.vm.findClass RX11 = some m.cls := hown
  refine lv_aload_n hx hb dX11_told_0 rfl (lv_at hl 0 rfl) ?_
  refine lv_iload_n hx hb dX11_told_1 rfl (lv_at hl 1 rfl) ?_
  refine lv_iload_n hx hb dX11_told_2 rfl (lv_at hl 2 rfl) ?_
  refine kVi (b := (g 47)) (n := 2) (As := [.int p0, .int p1]) (rest := []) ⟨hx, hb, hml, hown, hta⟩ hnw (m_isNote l dC dI g h p0 p1  s.heap.size) cd_X11_isNote iz_X11 ml_X11_177 im_X11_isNote se_X11_X11_isNote (by decide +kernel) rfl (Nat.le_of_ble_eq_true rfl) (Nat.le_of_ble_eq_true rfl) rfl rfl (Nat.le_of_ble_eq_true rfl) (Nat.le_of_ble_eq_true rfl) hP hD hK hS hA [0] [] [] rfl (wr := []) rfl (by decide) (by decide) (by decide) rfl rfl 0 rfl hl.1 rfl (Nat.le_of_ble_eq_true rfl) dX11_told_3 (fun r3 u1 H locs hw2 hP hD hK hS => ?_)
  have hP : va_P (dC, dI) vwCl [zM g h] H := hP
  have hD : va_D A [zM g h] := hD
  have hK : va_K (dC, dI) vwCl [] s := hK
  obtain rfl : r3 = 0 := hw2
  refine lv_if_ne (tgt := 11) hx hb dX11_told_6 (by decide) (fun c => absurd c (by decide)) (fun _ => ?_)
  refine lv_iconst (v := (-1)) hx hb dX11_told_9 (by decide) ?_
  refine W.widen (k := 0) (n := 0) (Nat.le_of_ble_eq_true rfl) (Nat.le_of_ble_eq_true rfl) ?_
  exact k_iret () hx hb hr hlocks rfl P_nil D_nil (hK.sub (tys' := []) [] rfl) hS rfl dX11_told_10
set_option maxHeartbeats 4000000 in
set_option maxRecDepth 100000 in
theorem y_grips (l : Launch) (dC : Nat → ClassId) (dI : Nat → Nat → Nat) (g : Nat → Nat) (h : Nat → ClassId) (p0 : Int32) (sz : Nat) : Ci l (dC, dI) yX11_grips cX11_grips 2 (some .int) { frames := 2, cells := 0, slots := 0, locals := 44 } [.ref (g 47), .int p0] [] [zM g h] sz 0 0 Unit (fun r _ => r = (-1)) (fun _ => []) (fun _ => []) := by
  refine Ci_of (lv := [(0, .ref (g 47)), (1, .int p0)]) (by decide) rfl rfl ?_
  intro p e s m below meth c A ls hx hb hml hr hown hta hlocks hnm hnw hP hD hK hS hA hl
  have hown : s.vm.findClass RX11 = some m.cls := hown
  refine lv_aload_n hx hb dX11_grips_0 rfl (lv_at hl 0 rfl) ?_
  refine lv_iload_n hx hb dX11_grips_1 rfl (lv_at hl 1 rfl) ?_
  refine kVi (b := (g 47)) (n := 1) (As := [.int p0]) (rest := []) ⟨hx, hb, hml, hown, hta⟩ hnw (m_isTick l dC dI g h p0  s.heap.size) cd_X11_isTick iz_X11 ml_X11_160 im_X11_isTick se_X11_X11_isTick (by decide +kernel) rfl (Nat.le_of_ble_eq_true rfl) (Nat.le_of_ble_eq_true rfl) rfl rfl (Nat.le_of_ble_eq_true rfl) (Nat.le_of_ble_eq_true rfl) hP hD hK hS hA [0] [] [] rfl (wr := []) rfl (by decide) (by decide) (by decide) rfl rfl 0 rfl hl.1 rfl (Nat.le_of_ble_eq_true rfl) dX11_grips_2 (fun r3 u1 H locs hw2 hP hD hK hS => ?_)
  have hP : va_P (dC, dI) vwCl [zM g h] H := hP
  have hD : va_D A [zM g h] := hD
  have hK : va_K (dC, dI) vwCl [] s := hK
  obtain rfl : r3 = 0 := hw2
  refine lv_if_ne (tgt := 10) hx hb dX11_grips_5 (by decide) (fun c => absurd c (by decide)) (fun _ => ?_)
  refine lv_iconst (v := (-1)) hx hb dX11_grips_8 (by decide) ?_
  refine W.widen (k := 0) (n := 0) (Nat.le_of_ble_eq_true rfl) (Nat.le_of_ble_eq_true rfl) ?_
  exact k_iret () hx hb hr hlocks rfl P_nil D_nil (hK.sub (tys' := []) [] rfl) hS rfl dX11_grips_9
set_option maxHeartbeats 4000000 in
set_option maxRecDepth 100000 in
theorem y_grip (l : Launch) (dC : Nat → ClassId) (dI : Nat → Nat → Nat) (g : Nat → Nat) (h : Nat → ClassId) (p0 : Int32) (p1 : Int32) (p2 : Int32) (p3 : Int32) (sz : Nat) : Ci l (dC, dI) yX11_grip cX11_grip 7 (some .int) { frames := 2, cells := 0, slots := 0, locals := 44 } [.ref (g 47), .int p0, .int p1, .int p2, .int p3] [] [zM g h] sz 0 0 Unit (fun r _ => r = (-1)) (fun _ => []) (fun _ => []) := by
  refine Ci_of (lv := [(0, .ref (g 47)), (1, .int p0), (2, .int p1), (3, .int p2), (4, .int p3)]) (by decide) rfl rfl ?_
  intro p e s m below meth c A ls hx hb hml hr hown hta hlocks hnm hnw hP hD hK hS hA hl
  have hown : s.vm.findClass RX11 = some m.cls := hown
  refine lv_aload_n hx hb dX11_grip_0 rfl (lv_at hl 0 rfl) ?_
  refine lv_iload_n hx hb dX11_grip_1 rfl (lv_at hl 1 rfl) ?_
  refine kVi (b := (g 47)) (n := 1) (As := [.int p0]) (rest := []) ⟨hx, hb, hml, hown, hta⟩ hnw (m_isTick l dC dI g h p0  s.heap.size) cd_X11_isTick iz_X11 ml_X11_160 im_X11_isTick se_X11_X11_isTick (by decide +kernel) rfl (Nat.le_of_ble_eq_true rfl) (Nat.le_of_ble_eq_true rfl) rfl rfl (Nat.le_of_ble_eq_true rfl) (Nat.le_of_ble_eq_true rfl) hP hD hK hS hA [0] [] [] rfl (wr := []) rfl (by decide) (by decide) (by decide) rfl rfl 0 rfl hl.1 rfl (Nat.le_of_ble_eq_true rfl) dX11_grip_2 (fun r3 u1 H locs hw2 hP hD hK hS => ?_)
  have hP : va_P (dC, dI) vwCl [zM g h] H := hP
  have hD : va_D A [zM g h] := hD
  have hK : va_K (dC, dI) vwCl [] s := hK
  obtain rfl : r3 = 0 := hw2
  refine lv_if_eq (tgt := 36) hx hb dX11_grip_5 (by decide) (fun _ => ?_) (fun c => absurd (by decide) c)
  refine lv_iconst (v := (-1)) hx hb dX11_grip_36 (by decide) ?_
  refine W.widen (k := 0) (n := 0) (Nat.le_of_ble_eq_true rfl) (Nat.le_of_ble_eq_true rfl) ?_
  exact k_iret () hx hb hr hlocks rfl P_nil D_nil (hK.sub (tys' := []) [] rfl) hS rfl dX11_grip_37
set_option maxHeartbeats 4000000 in
set_option maxRecDepth 100000 in
theorem y_why (l : Launch) (dC : Nat → ClassId) (dI : Nat → Nat → Nat) (g : Nat → Nat) (h : Nat → ClassId) (p0 : Int32) (sz : Nat) : Ci l (dC, dI) yX11_why cX11_why 5 (some .int) { frames := 2, cells := 0, slots := 0, locals := 44 } [.ref (g 47), .int p0] [] [zM g h] sz 0 0 Unit (fun r _ => r = (-1)) (fun _ => []) (fun _ => []) := by
  refine Ci_of (lv := [(0, .ref (g 47)), (1, .int p0)]) (by decide) rfl rfl ?_
  intro p e s m below meth c A ls hx hb hml hr hown hta hlocks hnm hnw hP hD hK hS hA hl
  have hown : s.vm.findClass RX11 = some m.cls := hown
  refine lv_aload_n hx hb dX11_why_0 rfl (lv_at hl 0 rfl) ?_
  refine lv_iload_n hx hb dX11_why_1 rfl (lv_at hl 1 rfl) ?_
  refine kVi (b := (g 47)) (n := 1) (As := [.int p0]) (rest := []) ⟨hx, hb, hml, hown, hta⟩ hnw (m_isTick l dC dI g h p0  s.heap.size) cd_X11_isTick iz_X11 ml_X11_160 im_X11_isTick se_X11_X11_isTick (by decide +kernel) rfl (Nat.le_of_ble_eq_true rfl) (Nat.le_of_ble_eq_true rfl) rfl rfl (Nat.le_of_ble_eq_true rfl) (Nat.le_of_ble_eq_true rfl) hP hD hK hS hA [0] [] [] rfl (wr := []) rfl (by decide) (by decide) (by decide) rfl rfl 0 rfl hl.1 rfl (Nat.le_of_ble_eq_true rfl) dX11_why_2 (fun r3 u1 H locs hw2 hP hD hK hS => ?_)
  have hP : va_P (dC, dI) vwCl [zM g h] H := hP
  have hD : va_D A [zM g h] := hD
  have hK : va_K (dC, dI) vwCl [] s := hK
  obtain rfl : r3 = 0 := hw2
  refine lv_if_ne (tgt := 10) hx hb dX11_why_5 (by decide) (fun c => absurd c (by decide)) (fun _ => ?_)
  refine lv_iconst (v := (-1)) hx hb dX11_why_8 (by decide) ?_
  refine W.widen (k := 0) (n := 0) (Nat.le_of_ble_eq_true rfl) (Nat.le_of_ble_eq_true rfl) ?_
  exact k_iret () hx hb hr hlocks rfl P_nil D_nil (hK.sub (tys' := []) [] rfl) hS rfl dX11_why_9
set_option maxHeartbeats 4000000 in
set_option maxRecDepth 100000 in
theorem y_way (l : Launch) (dC : Nat → ClassId) (dI : Nat → Nat → Nat) (g : Nat → Nat) (h : Nat → ClassId) (sz : Nat) : Ci l (dC, dI) yX11_way cX11_way 1 (some .int) { frames := 0, cells := 0, slots := 0, locals := 0 } [.ref (g 47)] [] [zM g h] sz 0 0 Unit (fun r _ => r = (-3)) (fun _ => []) (fun _ => []) := by
  refine Ci_of (lv := [(0, .ref (g 47))]) (by decide) rfl rfl ?_
  intro p e s m below meth c A ls hx hb hml hr hown hta hlocks hnm hnw hP hD hK hS hA hl
  have hown : s.vm.findClass RX11 = some m.cls := hown
  refine lv_aload_n hx hb dX11_way_0 rfl (lv_at hl 0 rfl) ?_
  refine va_get (D := (dC, dI)) (ci := 10) (v := .int 0) (C := RX11) (T := TX11) (N := 47) hx hb hta inlX11 hown hK hP 0 rfl rfl 7 (by decide) (hta _ fl_X11_32) (fun _ h9 => h9) rfl dX11_way_1 ?_
  refine lv_if_ne (tgt := 10) hx hb dX11_way_4 (by decide) (fun c => absurd c (by decide)) (fun _ => ?_)
  refine lv_bipush (v := (-3)) hx hb dX11_way_7 (by decide) ?_
  refine W.widen (k := 0) (n := 0) (Nat.le_of_ble_eq_true rfl) (Nat.le_of_ble_eq_true rfl) ?_
  exact k_iret () hx hb hr hlocks rfl P_nil D_nil (hK.sub (tys' := []) [] rfl) hS rfl dX11_way_9
set_option maxHeartbeats 4000000 in
set_option maxRecDepth 100000 in
theorem y_next (l : Launch) (dC : Nat → ClassId) (dI : Nat → Nat → Nat) (g : Nat → Nat) (h : Nat → ClassId) (sz : Nat) : Ci l (dC, dI) yX11_next cX11_next 1 (some .int) { frames := 0, cells := 0, slots := 0, locals := 0 } [.ref (g 47)] [] [zM g h] sz 0 0 Unit (fun r _ => r = (-3)) (fun _ => []) (fun _ => []) := by
  refine Ci_of (lv := [(0, .ref (g 47))]) (by decide) rfl rfl ?_
  intro p e s m below meth c A ls hx hb hml hr hown hta hlocks hnm hnw hP hD hK hS hA hl
  have hown : s.vm.findClass RX11 = some m.cls := hown
  refine lv_aload_n hx hb dX11_next_0 rfl (lv_at hl 0 rfl) ?_
  refine va_get (D := (dC, dI)) (ci := 10) (v := .int 0) (C := RX11) (T := TX11) (N := 47) hx hb hta inlX11 hown hK hP 0 rfl rfl 14 (by decide) (hta _ fl_X11_53) (fun _ h9 => h9) rfl dX11_next_1 ?_
  refine lv_if_eq (tgt := 16) hx hb dX11_next_4 (by decide) (fun _ => ?_) (fun c => absurd (by decide) c)
  refine lv_bipush (v := (-3)) hx hb dX11_next_16 (by decide) ?_
  refine W.widen (k := 0) (n := 0) (Nat.le_of_ble_eq_true rfl) (Nat.le_of_ble_eq_true rfl) ?_
  exact k_iret () hx hb hr hlocks rfl P_nil D_nil (hK.sub (tys' := []) [] rfl) hS rfl dX11_next_18
set_option maxHeartbeats 4000000 in
set_option maxRecDepth 100000 in
theorem y_at (l : Launch) (dC : Nat → ClassId) (dI : Nat → Nat → Nat) (g : Nat → Nat) (h : Nat → ClassId) (p0 : Int32) (sz : Nat) : Ci l (dC, dI) yX11_at cX11_at 2 (some .int) { frames := 0, cells := 0, slots := 0, locals := 0 } [.ref (g 47), .int p0] [] [zM g h] sz 0 0 Unit (fun r _ => r = (-1)) (fun _ => []) (fun _ => []) := by
  refine Ci_of (lv := [(0, .ref (g 47)), (1, .int p0)]) (by decide) rfl rfl ?_
  intro p e s m below meth c A ls hx hb hml hr hown hta hlocks hnm hnw hP hD hK hS hA hl
  have hown : s.vm.findClass RX11 = some m.cls := hown
  refine lv_aload_n hx hb dX11_at_0 rfl (lv_at hl 0 rfl) ?_
  refine va_get (D := (dC, dI)) (ci := 10) (v := .int 0) (C := RX11) (T := TX11) (N := 47) hx hb hta inlX11 hown hK hP 0 rfl rfl 14 (by decide) (hta _ fl_X11_53) (fun _ h9 => h9) rfl dX11_at_1 ?_
  refine lv_if_eq (tgt := 24) hx hb dX11_at_4 (by decide) (fun _ => ?_) (fun c => absurd (by decide) c)
  refine lv_iconst (v := (-1)) hx hb dX11_at_24 (by decide) ?_
  refine W.widen (k := 0) (n := 0) (Nat.le_of_ble_eq_true rfl) (Nat.le_of_ble_eq_true rfl) ?_
  exact k_iret () hx hb hr hlocks rfl P_nil D_nil (hK.sub (tys' := []) [] rfl) hS rfl dX11_at_25
set_option maxHeartbeats 4000000 in
set_option maxRecDepth 100000 in
theorem y_rank (l : Launch) (dC : Nat → ClassId) (dI : Nat → Nat → Nat) (g : Nat → Nat) (h : Nat → ClassId) (p0 : Int32) (sz : Nat) : Ci l (dC, dI) yX11_rank cX11_rank 5 (some .int) { frames := 0, cells := 0, slots := 0, locals := 0 } [.ref (g 47), .int p0] [] [zM g h] sz 0 0 Unit (fun r _ => r = (-3)) (fun _ => []) (fun _ => []) := by
  refine Ci_of (lv := [(0, .ref (g 47)), (1, .int p0)]) (by decide) rfl rfl ?_
  intro p e s m below meth c A ls hx hb hml hr hown hta hlocks hnm hnw hP hD hK hS hA hl
  have hown : s.vm.findClass RX11 = some m.cls := hown
  refine lv_aload_n hx hb dX11_rank_0 rfl (lv_at hl 0 rfl) ?_
  refine va_get (D := (dC, dI)) (ci := 10) (v := .int 0) (C := RX11) (T := TX11) (N := 47) hx hb hta inlX11 hown hK hP 0 rfl rfl 14 (by decide) (hta _ fl_X11_53) (fun _ h9 => h9) rfl dX11_rank_1 ?_
  refine lv_if_ne (tgt := 10) hx hb dX11_rank_4 (by decide) (fun c => absurd c (by decide)) (fun _ => ?_)
  refine lv_bipush (v := (-3)) hx hb dX11_rank_7 (by decide) ?_
  refine W.widen (k := 0) (n := 0) (Nat.le_of_ble_eq_true rfl) (Nat.le_of_ble_eq_true rfl) ?_
  exact k_iret () hx hb hr hlocks rfl P_nil D_nil (hK.sub (tys' := []) [] rfl) hS rfl dX11_rank_9
set_option maxHeartbeats 4000000 in
set_option maxRecDepth 100000 in
theorem y_say (l : Launch) (dC : Nat → ClassId) (dI : Nat → Nat → Nat) (g : Nat → Nat) (h : Nat → ClassId) (p0 : Int32) (sz : Nat) : Ci l (dC, dI) yX11_say cX11_say 2 (some .int) { frames := 0, cells := 0, slots := 0, locals := 0 } [.ref (g 47), .int p0] [(h 35, .int)] [zM g h, zMrow g h] sz 0 0 Unit (fun r _ => r = sp_say p0) (fun _ => []) (fun _ => []) := by
  refine Ci_of (lv := [(0, .ref (g 47)), (1, .int p0)]) (by decide) rfl rfl ?_
  intro p e s m below meth c A ls hx hb hml hr hown hta hlocks hnm hnw hP hD hK hS hA hl
  have hown : s.vm.findClass RX11 = some m.cls := hown
  refine lv_iload_n hx hb dX11_say_0 rfl (lv_at hl 1 rfl) ?_
  refine lv_if_ge (tgt := 7) hx hb dX11_say_1 (by decide) (fun c_1 => ?_) (fun c_1 => ?_)
  · refine lv_aload_n hx hb dX11_say_7 rfl (lv_at hl 0 rfl) ?_
    refine va_get (D := (dC, dI)) (ci := 10) (v := .int 0) (C := RX11) (T := TX11) (N := 47) hx hb hta inlX11 hown hK hP 0 rfl rfl 36 (by decide) (hta _ fl_X11_123) (fun _ h9 => h9) rfl dX11_say_8 ?_
    refine lv_bipush (v := 16) hx hb dX11_say_11 (by decide) ?_
    refine lv_icmp_ne (tgt := 19) hx hb dX11_say_13 (by decide) (fun _ => ?_) (fun c => absurd c (by decide))
    refine lv_aload_n hx hb dX11_say_19 rfl (lv_at hl 0 rfl) ?_
    refine va_get (D := (dC, dI)) (ci := 10) (v := .ref (g 35)) (C := RX11) (T := TX11) (N := 47) hx hb hta inlX11 hown hK hP 0 rfl rfl 35 (by decide) (hta _ fl_X11_120) (fun _ h9 => h9) rfl dX11_say_20 ?_
    refine lv_aload_n hx hb dX11_say_23 rfl (lv_at hl 0 rfl) ?_
    refine va_get (D := (dC, dI)) (ci := 10) (v := .int 0) (C := RX11) (T := TX11) (N := 47) hx hb hta inlX11 hown hK hP 0 rfl rfl 36 (by decide) (hta _ fl_X11_123) (fun _ h9 => h9) rfl dX11_say_24 ?_
    refine lv_iload_n hx hb dX11_say_27 rfl (lv_at hl 1 rfl) ?_
    refine va_iast hx hb hK hP hD hS 1 0 rfl rfl (vin (by decide)) dX11_say_28 (fun H locs hP hD hS => ?_)
    have hP : va_P (dC, dI) vwCl [zM g h, (g 35, .inl (h 35, 16, .inl (upd (fun _ => 0) 0 p0)))] H := hP
    have hD : va_D A [zM g h, (g 35, .inl (h 35, 16, .inl (upd (fun _ => 0) 0 p0)))] := hD
    refine lv_aload_n hx hb dX11_say_29 rfl (lv_at hl 0 rfl) ?_
    refine lv_dup hx hb dX11_say_30 rfl ?_
    refine va_get (D := (dC, dI)) (ci := 10) (v := .int 0) (C := RX11) (T := TX11) (N := 47) hx hb hta inlX11 hown hK hP 0 rfl rfl 36 (by decide) (hta _ fl_X11_123) (fun _ h9 => h9) rfl dX11_say_31 ?_
    refine lv_iconst (v := 1) hx hb dX11_say_34 (by decide) ?_
    refine lv_iadd hx hb dX11_say_35 ?_
    refine k_top (y := 1) (by decide) ?_
    refine va_put (D := (dC, dI)) (ci := 10) (v := .int 1) (ty := .int) (C := RX11) (T := TX11) (N := 47) hx hb hta inlX11 tyX11 tyX11_ok nmX11 hown hK hP hD hS 0 rfl rfl 36 (by decide) (hta _ fl_X11_123) (fun _ h9 => h9) rfl (by decide +kernel) rfl rfl (Nat.le_of_ble_eq_true rfl) dX11_say_36 (fun H locs hP hD hS => ?_)
    have hP : va_P (dC, dI) vwCl [(g 47, .inr (10, [.int 0, .int 0, .ref (g 2), .ref (g 3), .ref (g 4), .ref (g 5), .ref (g 6), .int 0, .int 0, .ref (g 9), .ref (g 10), .ref (g 11), .ref (g 12), .ref (g 13), .int 0, .int 0, .ref (g 16), .ref (g 17), .ref (g 18), .ref (g 19), .ref (g 20), .ref (g 21), .ref (g 22), .ref (g 23), .ref (g 24), .ref (g 25), .ref (g 26), .ref (g 27), .ref (g 28), .ref (g 29), .int 0, .ref (g 31), .ref (g 32), .int 0, .int 0, .ref (g 35), .int 1, .ref (g 37), .ref (g 38), .int 0, .ref (g 40), .ref (g 41), .int 0, .ref (g 43), .ref (g 44), .ref (g 45), .int 0])), (g 35, .inl (h 35, 16, .inl (upd (fun _ => 0) 0 p0)))] H := hP
    have hD : va_D A [(g 47, .inr (10, [.int 0, .int 0, .ref (g 2), .ref (g 3), .ref (g 4), .ref (g 5), .ref (g 6), .int 0, .int 0, .ref (g 9), .ref (g 10), .ref (g 11), .ref (g 12), .ref (g 13), .int 0, .int 0, .ref (g 16), .ref (g 17), .ref (g 18), .ref (g 19), .ref (g 20), .ref (g 21), .ref (g 22), .ref (g 23), .ref (g 24), .ref (g 25), .ref (g 26), .ref (g 27), .ref (g 28), .ref (g 29), .int 0, .ref (g 31), .ref (g 32), .int 0, .int 0, .ref (g 35), .int 1, .ref (g 37), .ref (g 38), .int 0, .ref (g 40), .ref (g 41), .int 0, .ref (g 43), .ref (g 44), .ref (g 45), .int 0])), (g 35, .inl (h 35, 16, .inl (upd (fun _ => 0) 0 p0)))] := hD
    refine lv_aload_n hx hb dX11_say_39 rfl (lv_at hl 0 rfl) ?_
    refine va_get (D := (dC, dI)) (ci := 10) (v := .int 1) (C := RX11) (T := TX11) (N := 47) hx hb hta inlX11 hown hK hP 0 rfl rfl 36 (by decide) (hta _ fl_X11_123) (fun _ h9 => h9) rfl dX11_say_40 ?_
    refine W.widen (k := 0) (n := 0) (Nat.le_of_ble_eq_true rfl) (Nat.le_of_ble_eq_true rfl) ?_
    exact k_iret () hx hb hr hlocks rfl P_nil D_nil (hK.sub (tys' := []) [] rfl) hS (by first | rfl | (simp [sp_say]; done) | (simp [sp_say, c_1]; done)) dX11_say_43
  · refine lv_bipush (v := (-2)) hx hb dX11_say_4 (by decide) ?_
    refine W.widen (k := 0) (n := 0) (Nat.le_of_ble_eq_true rfl) (Nat.le_of_ble_eq_true rfl) ?_
    exact k_iret () hx hb hr hlocks rfl P_nil D_nil (hK.sub (tys' := []) [] rfl) hS (by first | rfl | (simp [sp_say]; done) | (simp [sp_say, c_1]; done)) dX11_say_6
set_option maxHeartbeats 4000000 in
set_option maxRecDepth 100000 in
theorem y_check (l : Launch) (dC : Nat → ClassId) (dI : Nat → Nat → Nat) (g : Nat → Nat) (h : Nat → ClassId) (sz : Nat) : Ci l (dC, dI) yX11_check cX11_check 3 (some .int) { frames := 0, cells := 0, slots := 0, locals := 0 } [.ref (g 47)] [] [zM g h] sz 0 0 Unit (fun r _ => r = (-3)) (fun _ => []) (fun _ => []) := by
  refine Ci_of (lv := [(0, .ref (g 47))]) (by decide) rfl rfl ?_
  intro p e s m below meth c A ls hx hb hml hr hown hta hlocks hnm hnw hP hD hK hS hA hl
  have hown : s.vm.findClass RX11 = some m.cls := hown
  refine lv_aload_n hx hb dX11_check_0 rfl (lv_at hl 0 rfl) ?_
  refine va_get (D := (dC, dI)) (ci := 10) (v := .int 0) (C := RX11) (T := TX11) (N := 47) hx hb hta inlX11 hown hK hP 0 rfl rfl 7 (by decide) (hta _ fl_X11_32) (fun _ h9 => h9) rfl dX11_check_1 ?_
  refine lv_if_ne (tgt := 10) hx hb dX11_check_4 (by decide) (fun c => absurd c (by decide)) (fun _ => ?_)
  refine lv_bipush (v := (-3)) hx hb dX11_check_7 (by decide) ?_
  refine W.widen (k := 0) (n := 0) (Nat.le_of_ble_eq_true rfl) (Nat.le_of_ble_eq_true rfl) ?_
  exact k_iret () hx hb hr hlocks rfl P_nil D_nil (hK.sub (tys' := []) [] rfl) hS rfl dX11_check_9
set_option maxHeartbeats 4000000 in
set_option maxRecDepth 100000 in
theorem y_arrange (l : Launch) (dC : Nat → ClassId) (dI : Nat → Nat → Nat) (g : Nat → Nat) (h : Nat → ClassId) (sz : Nat) : Ci l (dC, dI) yX11_arrange cX11_arrange 6 (some .int) { frames := 0, cells := 0, slots := 0, locals := 0 } [.ref (g 47)] [] [zM g h] sz 0 0 Unit (fun r _ => r = (-3)) (fun _ => []) (fun _ => []) := by
  refine Ci_of (lv := [(0, .ref (g 47))]) (by decide) rfl rfl ?_
  intro p e s m below meth c A ls hx hb hml hr hown hta hlocks hnm hnw hP hD hK hS hA hl
  have hown : s.vm.findClass RX11 = some m.cls := hown
  refine lv_aload_n hx hb dX11_arrange_0 rfl (lv_at hl 0 rfl) ?_
  refine va_get (D := (dC, dI)) (ci := 10) (v := .int 0) (C := RX11) (T := TX11) (N := 47) hx hb hta inlX11 hown hK hP 0 rfl rfl 7 (by decide) (hta _ fl_X11_32) (fun _ h9 => h9) rfl dX11_arrange_1 ?_
  refine lv_if_ne (tgt := 10) hx hb dX11_arrange_4 (by decide) (fun c => absurd c (by decide)) (fun _ => ?_)
  refine lv_bipush (v := (-3)) hx hb dX11_arrange_7 (by decide) ?_
  refine W.widen (k := 0) (n := 0) (Nat.le_of_ble_eq_true rfl) (Nat.le_of_ble_eq_true rfl) ?_
  exact k_iret () hx hb hr hlocks rfl P_nil D_nil (hK.sub (tys' := []) [] rfl) hS rfl dX11_arrange_9
set_option maxHeartbeats 4000000 in
set_option maxRecDepth 100000 in
theorem y_left (l : Launch) (dC : Nat → ClassId) (dI : Nat → Nat → Nat) (g : Nat → Nat) (h : Nat → ClassId) (p0 : Int32) (sz : Nat) : Ci l (dC, dI) yX11_left cX11_left 2 (some .int) { frames := 0, cells := 0, slots := 0, locals := 0 } [.ref (g 47), .int p0] [] [zM g h] sz 0 0 Unit (fun r _ => r = (-1)) (fun _ => []) (fun _ => []) := by
  refine Ci_of (lv := [(0, .ref (g 47)), (1, .int p0)]) (by decide) rfl rfl ?_
  intro p e s m below meth c A ls hx hb hml hr hown hta hlocks hnm hnw hP hD hK hS hA hl
  have hown : s.vm.findClass RX11 = some m.cls := hown
  refine lv_aload_n hx hb dX11_left_0 rfl (lv_at hl 0 rfl) ?_
  refine va_get (D := (dC, dI)) (ci := 10) (v := .int 0) (C := RX11) (T := TX11) (N := 47) hx hb hta inlX11 hown hK hP 0 rfl rfl 15 (by decide) (hta _ fl_X11_57) (fun _ h9 => h9) rfl dX11_left_1 ?_
  refine lv_if_eq (tgt := 24) hx hb dX11_left_4 (by decide) (fun _ => ?_) (fun c => absurd (by decide) c)
  refine lv_iconst (v := (-1)) hx hb dX11_left_24 (by decide) ?_
  refine W.widen (k := 0) (n := 0) (Nat.le_of_ble_eq_true rfl) (Nat.le_of_ble_eq_true rfl) ?_
  exact k_iret () hx hb hr hlocks rfl P_nil D_nil (hK.sub (tys' := []) [] rfl) hS rfl dX11_left_25
set_option maxHeartbeats 4000000 in
set_option maxRecDepth 100000 in
theorem y_rest (l : Launch) (dC : Nat → ClassId) (dI : Nat → Nat → Nat) (g : Nat → Nat) (h : Nat → ClassId) (sz : Nat) : Ci l (dC, dI) yX11_rest cX11_rest 1 (some .int) { frames := 0, cells := 0, slots := 0, locals := 0 } [.ref (g 47)] [] [zM g h] sz 0 0 Unit (fun r _ => r = (-1)) (fun _ => []) (fun _ => []) := by
  refine Ci_of (lv := [(0, .ref (g 47))]) (by decide) rfl rfl ?_
  intro p e s m below meth c A ls hx hb hml hr hown hta hlocks hnm hnw hP hD hK hS hA hl
  have hown : s.vm.findClass RX11 = some m.cls := hown
  refine lv_aload_n hx hb dX11_rest_0 rfl (lv_at hl 0 rfl) ?_
  refine va_get (D := (dC, dI)) (ci := 10) (v := .int 0) (C := RX11) (T := TX11) (N := 47) hx hb hta inlX11 hown hK hP 0 rfl rfl 15 (by decide) (hta _ fl_X11_57) (fun _ h9 => h9) rfl dX11_rest_1 ?_
  refine lv_if_eq (tgt := 14) hx hb dX11_rest_4 (by decide) (fun _ => ?_) (fun c => absurd (by decide) c)
  refine lv_iconst (v := (-1)) hx hb dX11_rest_14 (by decide) ?_
  refine W.widen (k := 0) (n := 0) (Nat.le_of_ble_eq_true rfl) (Nat.le_of_ble_eq_true rfl) ?_
  exact k_iret () hx hb hr hlocks rfl P_nil D_nil (hK.sub (tys' := []) [] rfl) hS rfl dX11_rest_15
set_option maxHeartbeats 4000000 in
set_option maxRecDepth 100000 in
theorem y_tuning (l : Launch) (dC : Nat → ClassId) (dI : Nat → Nat → Nat) (g : Nat → Nat) (h : Nat → ClassId) (p0 : Int32) (p1 : Int32) (p2 : Int32) (sz : Nat) : Ci l (dC, dI) yX11_tuning cX11_tuning 5 (some .int) { frames := 2, cells := 0, slots := 0, locals := 44 } [.ref (g 47), .int p0, .int p1, .int p2] [] [zM g h] sz 0 0 Unit (fun r _ => r = (-1)) (fun _ => []) (fun _ => []) := by
  refine Ci_of (lv := [(0, .ref (g 47)), (1, .int p0), (2, .int p1), (3, .int p2)]) (by decide) rfl rfl ?_
  intro p e s m below meth c A ls hx hb hml hr hown hta hlocks hnm hnw hP hD hK hS hA hl
  have hown : s.vm.findClass RX11 = some m.cls := hown
  refine lv_aload_n hx hb dX11_tuning_0 rfl (lv_at hl 0 rfl) ?_
  refine lv_iload_n hx hb dX11_tuning_1 rfl (lv_at hl 1 rfl) ?_
  refine lv_iconst (v := 0) hx hb dX11_tuning_2 (by decide) ?_
  refine lv_iconst (v := 3) hx hb dX11_tuning_3 (by decide) ?_
  refine kVi (b := (g 47)) (n := 3) (As := [.int p0, .int 0, .int 3]) (rest := []) ⟨hx, hb, hml, hown, hta⟩ hnw (m_in l dC dI g h p0 0 3  s.heap.size) cd_X11_in iz_X11 ml_X11_156 im_X11_in se_X11_X11_in (by decide +kernel) rfl (Nat.le_of_ble_eq_true rfl) (Nat.le_of_ble_eq_true rfl) rfl rfl (Nat.le_of_ble_eq_true rfl) (Nat.le_of_ble_eq_true rfl) hP hD hK hS hA [0] [] [] rfl (wr := []) rfl (by decide) (by decide) (by decide) rfl rfl 0 rfl hl.1 rfl (Nat.le_of_ble_eq_true rfl) dX11_tuning_4 (fun r3 u1 H locs hw2 hP hD hK hS => ?_)
  have hP : va_P (dC, dI) vwCl [zM g h] H := hP
  have hD : va_D A [zM g h] := hD
  have hK : va_K (dC, dI) vwCl [] s := hK
  obtain rfl : r3 = if inB p0 0 3 then 1 else 0 := hw2
  refine lv_if_eq (tgt := 18) hx hb dX11_tuning_7 (by decide) (fun c_4 => ?_) (fun c_4 => ?_)
  · have n_5 : (inB p0 0 3) = false := ite0 c_4
    refine lv_iconst (v := (-1)) hx hb dX11_tuning_18 (by decide) ?_
    refine W.widen (k := 0) (n := 0) (Nat.le_of_ble_eq_true rfl) (Nat.le_of_ble_eq_true rfl) ?_
    exact k_iret () hx hb hr hlocks rfl P_nil D_nil (hK.sub (tys' := []) [] rfl) hS rfl dX11_tuning_19
  · have n_6 : (inB p0 0 3) = true := ite1 c_4
    refine lv_aload_n hx hb dX11_tuning_10 rfl (lv_at hl 0 rfl) ?_
    refine lv_iload_n hx hb dX11_tuning_11 rfl (lv_at hl 2 rfl) ?_
    refine kVi (b := (g 47)) (n := 1) (As := [.int p1]) (rest := []) ⟨hx, hb, hml, hown, hta⟩ hnw (m_isCourse l dC dI g h p1  H.size) cd_X11_isCourse iz_X11 ml_X11_167 im_X11_isCourse se_X11_X11_isCourse (by decide +kernel) rfl (Nat.le_of_ble_eq_true rfl) (Nat.le_of_ble_eq_true rfl) rfl rfl (Nat.le_of_ble_eq_true rfl) (Nat.le_of_ble_eq_true rfl) hP hD hK hS hA [0] [] [] rfl (wr := []) rfl (by decide) (by decide) (by decide) rfl rfl 0 rfl hl.1 rfl (Nat.le_of_ble_eq_true rfl) dX11_tuning_12 (fun r9 u7 H locs hw8 hP hD hK hS => ?_)
    have hP : va_P (dC, dI) vwCl [zM g h] H := hP
    have hD : va_D A [zM g h] := hD
    have hK : va_K (dC, dI) vwCl [] s := hK
    obtain rfl : r9 = 0 := hw8
    refine lv_if_ne (tgt := 20) hx hb dX11_tuning_15 (by decide) (fun c => absurd c (by decide)) (fun _ => ?_)
    refine lv_iconst (v := (-1)) hx hb dX11_tuning_18 (by decide) ?_
    refine W.widen (k := 0) (n := 0) (Nat.le_of_ble_eq_true rfl) (Nat.le_of_ble_eq_true rfl) ?_
    exact k_iret () hx hb hr hlocks rfl P_nil D_nil (hK.sub (tys' := []) [] rfl) hS rfl dX11_tuning_19
set_option maxHeartbeats 4000000 in
set_option maxRecDepth 100000 in
theorem y_choose (l : Launch) (dC : Nat → ClassId) (dI : Nat → Nat → Nat) (g : Nat → Nat) (h : Nat → ClassId) (sz : Nat) : Ci l (dC, dI) yX11_choose cX11_choose 5 (some .int) { frames := 0, cells := 0, slots := 0, locals := 0 } [.ref (g 47)] [] [zM g h] sz 0 0 Unit (fun r _ => r = (-3)) (fun _ => []) (fun _ => []) := by
  refine Ci_of (lv := [(0, .ref (g 47))]) (by decide) rfl rfl ?_
  intro p e s m below meth c A ls hx hb hml hr hown hta hlocks hnm hnw hP hD hK hS hA hl
  have hown : s.vm.findClass RX11 = some m.cls := hown
  refine lv_aload_n hx hb dX11_choose_0 rfl (lv_at hl 0 rfl) ?_
  refine va_get (D := (dC, dI)) (ci := 10) (v := .int 0) (C := RX11) (T := TX11) (N := 47) hx hb hta inlX11 hown hK hP 0 rfl rfl 7 (by decide) (hta _ fl_X11_32) (fun _ h9 => h9) rfl dX11_choose_1 ?_
  refine lv_if_ne (tgt := 10) hx hb dX11_choose_4 (by decide) (fun c => absurd c (by decide)) (fun _ => ?_)
  refine lv_bipush (v := (-3)) hx hb dX11_choose_7 (by decide) ?_
  refine W.widen (k := 0) (n := 0) (Nat.le_of_ble_eq_true rfl) (Nat.le_of_ble_eq_true rfl) ?_
  exact k_iret () hx hb hr hlocks rfl P_nil D_nil (hK.sub (tys' := []) [] rfl) hS rfl dX11_choose_9
set_option maxHeartbeats 4000000 in
set_option maxRecDepth 100000 in
theorem y_feed (l : Launch) (dC : Nat → ClassId) (dI : Nat → Nat → Nat) (g : Nat → Nat) (h : Nat → ClassId) (p0 : Int32) (sz : Nat) : Ci l (dC, dI) yX11_feed cX11_feed 2 (some .int) { frames := 1, cells := 0, slots := 0, locals := 23 } [.ref (g 47), .int p0] [(h 41, .int)] [zM g h, zMtape g h] sz 0 0 Unit (fun r _ => r = sp_feed p0) (fun _ => []) (fun _ => []) := by
  refine Ci_of (lv := [(0, .ref (g 47)), (1, .int p0)]) (by decide) rfl rfl ?_
  intro p e s m below meth c A ls hx hb hml hr hown hta hlocks hnm hnw hP hD hK hS hA hl
  have hown : s.vm.findClass RX11 = some m.cls := hown
  refine lv_aload_n hx hb dX11_feed_0 rfl (lv_at hl 0 rfl) ?_
  refine lv_iload_n hx hb dX11_feed_1 rfl (lv_at hl 1 rfl) ?_
  refine lv_iconst (v := 0) hx hb dX11_feed_2 (by decide) ?_
  refine lv_sipush (v := 255) hx hb dX11_feed_3 (by decide) ?_
  refine kVi (b := (g 47)) (n := 3) (As := [.int p0, .int 0, .int 255]) (rest := []) ⟨hx, hb, hml, hown, hta⟩ hnw (m_in l dC dI g h p0 0 255  s.heap.size) cd_X11_in iz_X11 ml_X11_156 im_X11_in se_X11_X11_in (by decide +kernel) rfl (Nat.le_of_ble_eq_true rfl) (Nat.le_of_ble_eq_true rfl) rfl rfl (Nat.le_of_ble_eq_true rfl) (Nat.le_of_ble_eq_true rfl) hP hD hK hS hA [0] [1] [] rfl (wr := [zMtape g h]) rfl (by decide) (by decide) (by decide) rfl rfl 0 rfl hl.1 rfl (Nat.le_of_ble_eq_true rfl) dX11_feed_6 (fun r3 u1 H locs hw2 hP hD hK hS => ?_)
  have hP : va_P (dC, dI) vwCl [zMtape g h, zM g h] H := hP
  have hD : va_D A [zMtape g h, zM g h] := hD
  have hK : va_K (dC, dI) vwCl [(h 41, .int)] s := hK
  obtain rfl : r3 = if inB p0 0 255 then 1 else 0 := hw2
  refine lv_if_ne (tgt := 15) hx hb dX11_feed_9 (by decide) (fun c_4 => ?_) (fun c_4 => ?_)
  · have n_5 : (inB p0 0 255) = true := ite1 c_4
    refine lv_aload_n hx hb dX11_feed_15 rfl (lv_at hl 0 rfl) ?_
    refine va_get (D := (dC, dI)) (ci := 10) (v := .int 0) (C := RX11) (T := TX11) (N := 47) hx hb hta inlX11 hown hK hP 1 rfl rfl 42 (by decide) (hta _ fl_X11_141) (fun _ h9 => h9) rfl dX11_feed_16 ?_
    refine lv_sipush (v := 600) hx hb dX11_feed_19 (by decide) ?_
    refine lv_icmp_ne (tgt := 28) hx hb dX11_feed_22 (by decide) (fun _ => ?_) (fun c => absurd c (by decide))
    refine lv_aload_n hx hb dX11_feed_28 rfl (lv_at hl 0 rfl) ?_
    refine va_get (D := (dC, dI)) (ci := 10) (v := .ref (g 41)) (C := RX11) (T := TX11) (N := 47) hx hb hta inlX11 hown hK hP 1 rfl rfl 41 (by decide) (hta _ fl_X11_138) (fun _ h9 => h9) rfl dX11_feed_29 ?_
    refine lv_aload_n hx hb dX11_feed_32 rfl (lv_at hl 0 rfl) ?_
    refine va_get (D := (dC, dI)) (ci := 10) (v := .int 0) (C := RX11) (T := TX11) (N := 47) hx hb hta inlX11 hown hK hP 1 rfl rfl 42 (by decide) (hta _ fl_X11_141) (fun _ h9 => h9) rfl dX11_feed_33 ?_
    refine lv_iload_n hx hb dX11_feed_36 rfl (lv_at hl 1 rfl) ?_
    refine va_iast hx hb hK hP hD hS 0 0 rfl rfl (vin (by decide)) dX11_feed_37 (fun H locs hP hD hS => ?_)
    have hP : va_P (dC, dI) vwCl [(g 41, .inl (h 41, 600, .inl (upd (fun _ => 0) 0 p0))), zM g h] H := hP
    have hD : va_D A [(g 41, .inl (h 41, 600, .inl (upd (fun _ => 0) 0 p0))), zM g h] := hD
    refine lv_aload_n hx hb dX11_feed_38 rfl (lv_at hl 0 rfl) ?_
    refine lv_dup hx hb dX11_feed_39 rfl ?_
    refine va_get (D := (dC, dI)) (ci := 10) (v := .int 0) (C := RX11) (T := TX11) (N := 47) hx hb hta inlX11 hown hK hP 1 rfl rfl 42 (by decide) (hta _ fl_X11_141) (fun _ h9 => h9) rfl dX11_feed_40 ?_
    refine lv_iconst (v := 1) hx hb dX11_feed_43 (by decide) ?_
    refine lv_iadd hx hb dX11_feed_44 ?_
    refine k_top (y := 1) (by decide) ?_
    refine va_put (D := (dC, dI)) (ci := 10) (v := .int 1) (ty := .int) (C := RX11) (T := TX11) (N := 47) hx hb hta inlX11 tyX11 tyX11_ok nmX11 hown hK hP hD hS 1 rfl rfl 42 (by decide) (hta _ fl_X11_141) (fun _ h9 => h9) rfl (by decide +kernel) rfl rfl (Nat.le_of_ble_eq_true rfl) dX11_feed_45 (fun H locs hP hD hS => ?_)
    have hP : va_P (dC, dI) vwCl [(g 41, .inl (h 41, 600, .inl (upd (fun _ => 0) 0 p0))), (g 47, .inr (10, [.int 0, .int 0, .ref (g 2), .ref (g 3), .ref (g 4), .ref (g 5), .ref (g 6), .int 0, .int 0, .ref (g 9), .ref (g 10), .ref (g 11), .ref (g 12), .ref (g 13), .int 0, .int 0, .ref (g 16), .ref (g 17), .ref (g 18), .ref (g 19), .ref (g 20), .ref (g 21), .ref (g 22), .ref (g 23), .ref (g 24), .ref (g 25), .ref (g 26), .ref (g 27), .ref (g 28), .ref (g 29), .int 0, .ref (g 31), .ref (g 32), .int 0, .int 0, .ref (g 35), .int 0, .ref (g 37), .ref (g 38), .int 0, .ref (g 40), .ref (g 41), .int 1, .ref (g 43), .ref (g 44), .ref (g 45), .int 0]))] H := hP
    have hD : va_D A [(g 41, .inl (h 41, 600, .inl (upd (fun _ => 0) 0 p0))), (g 47, .inr (10, [.int 0, .int 0, .ref (g 2), .ref (g 3), .ref (g 4), .ref (g 5), .ref (g 6), .int 0, .int 0, .ref (g 9), .ref (g 10), .ref (g 11), .ref (g 12), .ref (g 13), .int 0, .int 0, .ref (g 16), .ref (g 17), .ref (g 18), .ref (g 19), .ref (g 20), .ref (g 21), .ref (g 22), .ref (g 23), .ref (g 24), .ref (g 25), .ref (g 26), .ref (g 27), .ref (g 28), .ref (g 29), .int 0, .ref (g 31), .ref (g 32), .int 0, .int 0, .ref (g 35), .int 0, .ref (g 37), .ref (g 38), .int 0, .ref (g 40), .ref (g 41), .int 1, .ref (g 43), .ref (g 44), .ref (g 45), .int 0]))] := hD
    refine lv_aload_n hx hb dX11_feed_48 rfl (lv_at hl 0 rfl) ?_
    refine va_get (D := (dC, dI)) (ci := 10) (v := .int 1) (C := RX11) (T := TX11) (N := 47) hx hb hta inlX11 hown hK hP 1 rfl rfl 42 (by decide) (hta _ fl_X11_141) (fun _ h9 => h9) rfl dX11_feed_49 ?_
    refine W.widen (k := 0) (n := 0) (Nat.le_of_ble_eq_true rfl) (Nat.le_of_ble_eq_true rfl) ?_
    exact k_iret () hx hb hr hlocks rfl P_nil D_nil (hK.sub (tys' := []) [] rfl) hS (by first | rfl | (simp [sp_feed, n_5]; done) | (simp [sp_feed, c_4, n_5]; done)) dX11_feed_52
  · have n_6 : (inB p0 0 255) = false := ite0 c_4
    refine lv_bipush (v := (-2)) hx hb dX11_feed_12 (by decide) ?_
    refine W.widen (k := 0) (n := 0) (Nat.le_of_ble_eq_true rfl) (Nat.le_of_ble_eq_true rfl) ?_
    exact k_iret () hx hb hr hlocks rfl P_nil D_nil (hK.sub (tys' := []) [] rfl) hS (by first | rfl | (simp [sp_feed, n_6]; done) | (simp [sp_feed, c_4, n_6]; done)) dX11_feed_14
set_option maxHeartbeats 4000000 in
set_option maxRecDepth 100000 in
theorem y_wipe (l : Launch) (dC : Nat → ClassId) (dI : Nat → Nat → Nat) (g : Nat → Nat) (h : Nat → ClassId) (sz : Nat) : Ci l (dC, dI) yX11_wipe cX11_wipe 2 (some .int) { frames := 0, cells := 0, slots := 0, locals := 0 } [.ref (g 47)] [] [zM g h] sz 0 0 Unit (fun r _ => r = 0) (fun _ => []) (fun _ => []) := by
  refine Ci_of (lv := [(0, .ref (g 47))]) (by decide) rfl rfl ?_
  intro p e s m below meth c A ls hx hb hml hr hown hta hlocks hnm hnw hP hD hK hS hA hl
  have hown : s.vm.findClass RX11 = some m.cls := hown
  refine lv_aload_n hx hb dX11_wipe_0 rfl (lv_at hl 0 rfl) ?_
  refine va_get (D := (dC, dI)) (ci := 10) (v := .int 0) (C := RX11) (T := TX11) (N := 47) hx hb hta inlX11 hown hK hP 0 rfl rfl 42 (by decide) (hta _ fl_X11_141) (fun _ h9 => h9) rfl dX11_wipe_1 ?_
  refine lv_istore_n (lv' := [(1, .int 0), (0, .ref (g 47))]) hx hb dX11_wipe_4 rfl hl (by decide) rfl (fun ls hl => ?_)
  refine lv_aload_n hx hb dX11_wipe_5 rfl (lv_at hl 1 rfl) ?_
  refine lv_iconst (v := 0) hx hb dX11_wipe_6 (by decide) ?_
  refine va_put (D := (dC, dI)) (ci := 10) (v := .int 0) (ty := .int) (C := RX11) (T := TX11) (N := 47) hx hb hta inlX11 tyX11 tyX11_ok nmX11 hown hK hP hD hS 0 rfl rfl 42 (by decide) (hta _ fl_X11_141) (fun _ h9 => h9) rfl (by decide +kernel) rfl rfl (Nat.le_of_ble_eq_true rfl) dX11_wipe_7 (fun H locs hP hD hS => ?_)
  have hP : va_P (dC, dI) vwCl [(g 47, .inr (10, [.int 0, .int 0, .ref (g 2), .ref (g 3), .ref (g 4), .ref (g 5), .ref (g 6), .int 0, .int 0, .ref (g 9), .ref (g 10), .ref (g 11), .ref (g 12), .ref (g 13), .int 0, .int 0, .ref (g 16), .ref (g 17), .ref (g 18), .ref (g 19), .ref (g 20), .ref (g 21), .ref (g 22), .ref (g 23), .ref (g 24), .ref (g 25), .ref (g 26), .ref (g 27), .ref (g 28), .ref (g 29), .int 0, .ref (g 31), .ref (g 32), .int 0, .int 0, .ref (g 35), .int 0, .ref (g 37), .ref (g 38), .int 0, .ref (g 40), .ref (g 41), .int 0, .ref (g 43), .ref (g 44), .ref (g 45), .int 0]))] H := hP
  have hD : va_D A [(g 47, .inr (10, [.int 0, .int 0, .ref (g 2), .ref (g 3), .ref (g 4), .ref (g 5), .ref (g 6), .int 0, .int 0, .ref (g 9), .ref (g 10), .ref (g 11), .ref (g 12), .ref (g 13), .int 0, .int 0, .ref (g 16), .ref (g 17), .ref (g 18), .ref (g 19), .ref (g 20), .ref (g 21), .ref (g 22), .ref (g 23), .ref (g 24), .ref (g 25), .ref (g 26), .ref (g 27), .ref (g 28), .ref (g 29), .int 0, .ref (g 31), .ref (g 32), .int 0, .int 0, .ref (g 35), .int 0, .ref (g 37), .ref (g 38), .int 0, .ref (g 40), .ref (g 41), .int 0, .ref (g 43), .ref (g 44), .ref (g 45), .int 0]))] := hD
  refine lv_iload_n hx hb dX11_wipe_10 rfl (lv_at hl 0 rfl) ?_
  refine W.widen (k := 0) (n := 0) (Nat.le_of_ble_eq_true rfl) (Nat.le_of_ble_eq_true rfl) ?_
  exact k_iret () hx hb hr hlocks rfl P_nil D_nil (hK.sub (tys' := []) [] rfl) hS rfl dX11_wipe_11
set_option maxHeartbeats 4000000 in
set_option maxRecDepth 100000 in
theorem y_tape (l : Launch) (dC : Nat → ClassId) (dI : Nat → Nat → Nat) (g : Nat → Nat) (h : Nat → ClassId) (p0 : Int32) (sz : Nat) : Ci l (dC, dI) yX11_tape cX11_tape 2 (some .int) { frames := 1, cells := 0, slots := 0, locals := 23 } [.ref (g 47), .int p0] [] [zM g h] sz 0 0 Unit (fun r _ => r = (-1)) (fun _ => []) (fun _ => []) := by
  refine Ci_of (lv := [(0, .ref (g 47)), (1, .int p0)]) (by decide) rfl rfl ?_
  intro p e s m below meth c A ls hx hb hml hr hown hta hlocks hnm hnw hP hD hK hS hA hl
  have hown : s.vm.findClass RX11 = some m.cls := hown
  refine lv_aload_n hx hb dX11_tape_0 rfl (lv_at hl 0 rfl) ?_
  refine lv_iload_n hx hb dX11_tape_1 rfl (lv_at hl 1 rfl) ?_
  refine lv_iconst (v := 0) hx hb dX11_tape_2 (by decide) ?_
  refine lv_aload_n hx hb dX11_tape_3 rfl (lv_at hl 0 rfl) ?_
  refine va_get (D := (dC, dI)) (ci := 10) (v := .int 0) (C := RX11) (T := TX11) (N := 47) hx hb hta inlX11 hown hK hP 0 rfl rfl 42 (by decide) (hta _ fl_X11_141) (fun _ h9 => h9) rfl dX11_tape_4 ?_
  refine lv_iconst (v := 1) hx hb dX11_tape_7 (by decide) ?_
  refine lv_isub hx hb dX11_tape_8 ?_
  refine k_top (y := (-1)) (by decide) ?_
  refine kVi (b := (g 47)) (n := 3) (As := [.int p0, .int 0, .int (-1)]) (rest := []) ⟨hx, hb, hml, hown, hta⟩ hnw (m_in l dC dI g h p0 0 (-1)  s.heap.size) cd_X11_in iz_X11 ml_X11_156 im_X11_in se_X11_X11_in (by decide +kernel) rfl (Nat.le_of_ble_eq_true rfl) (Nat.le_of_ble_eq_true rfl) rfl rfl (Nat.le_of_ble_eq_true rfl) (Nat.le_of_ble_eq_true rfl) hP hD hK hS hA [0] [] [] rfl (wr := []) rfl (by decide) (by decide) (by decide) rfl rfl 0 rfl hl.1 rfl (Nat.le_of_ble_eq_true rfl) dX11_tape_9 (fun r3 u1 H locs hw2 hP hD hK hS => ?_)
  have hP : va_P (dC, dI) vwCl [zM g h] H := hP
  have hD : va_D A [zM g h] := hD
  have hK : va_K (dC, dI) vwCl [] s := hK
  obtain rfl : r3 = 0 := hw2.trans (by rw [inB_neg]; rfl)
  refine lv_if_eq (tgt := 24) hx hb dX11_tape_12 (by decide) (fun _ => ?_) (fun c => absurd (by decide) c)
  refine lv_iconst (v := (-1)) hx hb dX11_tape_24 (by decide) ?_
  refine W.widen (k := 0) (n := 0) (Nat.le_of_ble_eq_true rfl) (Nat.le_of_ble_eq_true rfl) ?_
  exact k_iret () hx hb hr hlocks rfl P_nil D_nil (hK.sub (tys' := []) [] rfl) hS rfl dX11_tape_25
set_option maxHeartbeats 4000000 in
set_option maxRecDepth 100000 in
theorem y_write (l : Launch) (dC : Nat → ClassId) (dI : Nat → Nat → Nat) (g : Nat → Nat) (h : Nat → ClassId) (sz : Nat) : Ci l (dC, dI) yX11_write cX11_write 5 (some .int) { frames := 0, cells := 0, slots := 0, locals := 0 } [.ref (g 47)] [] [zM g h] sz 0 0 Unit (fun r _ => r = (-3)) (fun _ => []) (fun _ => []) := by
  refine Ci_of (lv := [(0, .ref (g 47))]) (by decide) rfl rfl ?_
  intro p e s m below meth c A ls hx hb hml hr hown hta hlocks hnm hnw hP hD hK hS hA hl
  have hown : s.vm.findClass RX11 = some m.cls := hown
  refine lv_aload_n hx hb dX11_write_0 rfl (lv_at hl 0 rfl) ?_
  refine va_get (D := (dC, dI)) (ci := 10) (v := .int 0) (C := RX11) (T := TX11) (N := 47) hx hb hta inlX11 hown hK hP 0 rfl rfl 14 (by decide) (hta _ fl_X11_53) (fun _ h9 => h9) rfl dX11_write_1 ?_
  refine lv_if_ne (tgt := 10) hx hb dX11_write_4 (by decide) (fun c => absurd c (by decide)) (fun _ => ?_)
  refine lv_bipush (v := (-3)) hx hb dX11_write_7 (by decide) ?_
  refine W.widen (k := 0) (n := 0) (Nat.le_of_ble_eq_true rfl) (Nat.le_of_ble_eq_true rfl) ?_
  exact k_iret () hx hb hr hlocks rfl P_nil D_nil (hK.sub (tys' := []) [] rfl) hS rfl dX11_write_9
set_option maxHeartbeats 4000000 in
set_option maxRecDepth 100000 in
theorem y_read (l : Launch) (dC : Nat → ClassId) (dI : Nat → Nat → Nat) (g : Nat → Nat) (h : Nat → ClassId) (sz : Nat) : Ci l (dC, dI) yX11_read cX11_read 6 (some .int) { frames := 0, cells := 0, slots := 0, locals := 0 } [.ref (g 47)] [] [zM g h] sz 0 0 Unit (fun r _ => r = (-3)) (fun _ => []) (fun _ => []) := by
  refine Ci_of (lv := [(0, .ref (g 47))]) (by decide) rfl rfl ?_
  intro p e s m below meth c A ls hx hb hml hr hown hta hlocks hnm hnw hP hD hK hS hA hl
  have hown : s.vm.findClass RX11 = some m.cls := hown
  refine lv_aload_n hx hb dX11_read_0 rfl (lv_at hl 0 rfl) ?_
  refine va_get (D := (dC, dI)) (ci := 10) (v := .int 0) (C := RX11) (T := TX11) (N := 47) hx hb hta inlX11 hown hK hP 0 rfl rfl 0 (by decide) (hta _ fl_X11_7) (fun _ h9 => h9) rfl dX11_read_1 ?_
  refine lv_if_ne (tgt := 10) hx hb dX11_read_4 (by decide) (fun c => absurd c (by decide)) (fun _ => ?_)
  refine lv_bipush (v := (-3)) hx hb dX11_read_7 (by decide) ?_
  refine W.widen (k := 0) (n := 0) (Nat.le_of_ble_eq_true rfl) (Nat.le_of_ble_eq_true rfl) ?_
  exact k_iret () hx hb hr hlocks rfl P_nil D_nil (hK.sub (tys' := []) [] rfl) hS rfl dX11_read_9
set_option maxHeartbeats 4000000 in
set_option maxRecDepth 100000 in
theorem y_count (l : Launch) (dC : Nat → ClassId) (dI : Nat → Nat → Nat) (g : Nat → Nat) (h : Nat → ClassId) (p0 : Int32) (sz : Nat) : Ci l (dC, dI) yX11_count_ cX11_count_ 4 (some .int) { frames := 0, cells := 0, slots := 0, locals := 0 } [.ref (g 47), .int p0] [] [zM g h] sz 0 0 Unit (fun r _ => r = sp_count p0) (fun _ => []) (fun _ => []) := by
  refine Ci_of (lv := [(0, .ref (g 47)), (1, .int p0)]) (by decide) rfl rfl ?_
  intro p e s m below meth c A ls hx hb hml hr hown hta hlocks hnm hnw hP hD hK hS hA hl
  have hown : s.vm.findClass RX11 = some m.cls := hown
  refine lv_iconst (v := 0) hx hb dX11_count__0 (by decide) ?_
  refine lv_istore_n (lv' := [(2, .int 0), (0, .ref (g 47)), (1, .int p0)]) hx hb dX11_count__1 rfl hl (by decide) rfl (fun ls hl => ?_)
  refine lv_iload_n hx hb dX11_count__2 rfl (lv_at hl 2 rfl) ?_
  rcases cnt_cases p0 with rfl | rfl | rfl | rfl | rfl | rfl | hc1
  · refine lv_tableIn (tgt := 40) hx hb dX11_count__3 (by decide) (by decide) rfl (by decide) ?_
    refine lv_aload_n hx hb dX11_count__40 rfl (lv_at hl 1 rfl) ?_
    refine va_get (D := (dC, dI)) (ci := 10) (v := .int 0) (C := RX11) (T := TX11) (N := 47) hx hb hta inlX11 hown hK hP 0 rfl rfl 0 (by decide) (hta _ fl_X11_7) (fun _ h9 => h9) rfl dX11_count__41 ?_
    refine W.widen (k := 0) (n := 0) (Nat.le_of_ble_eq_true rfl) (Nat.le_of_ble_eq_true rfl) ?_
    exact k_iret () hx hb hr hlocks rfl P_nil D_nil (hK.sub (tys' := []) [] rfl) hS (by decide) dX11_count__44
  · refine lv_tableIn (tgt := 45) hx hb dX11_count__3 (by decide) (by decide) rfl (by decide) ?_
    refine lv_aload_n hx hb dX11_count__45 rfl (lv_at hl 1 rfl) ?_
    refine va_get (D := (dC, dI)) (ci := 10) (v := .int 0) (C := RX11) (T := TX11) (N := 47) hx hb hta inlX11 hown hK hP 0 rfl rfl 7 (by decide) (hta _ fl_X11_32) (fun _ h9 => h9) rfl dX11_count__46 ?_
    refine W.widen (k := 0) (n := 0) (Nat.le_of_ble_eq_true rfl) (Nat.le_of_ble_eq_true rfl) ?_
    exact k_iret () hx hb hr hlocks rfl P_nil D_nil (hK.sub (tys' := []) [] rfl) hS (by decide) dX11_count__49
  · refine lv_tableIn (tgt := 50) hx hb dX11_count__3 (by decide) (by decide) rfl (by decide) ?_
    refine lv_iconst (v := 0) hx hb dX11_count__50 (by decide) ?_
    refine lv_istore_n (lv' := [(3, .int 0), (2, .int 0), (0, .ref (g 47)), (1, .int 2)]) hx hb dX11_count__51 rfl hl (by decide) rfl (fun ls hl => ?_)
    refine lv_iload_n hx hb dX11_count__52 rfl (lv_at hl 0 rfl) ?_
    refine lv_aload_n hx hb dX11_count__53 rfl (lv_at hl 2 rfl) ?_
    refine va_get (D := (dC, dI)) (ci := 10) (v := .int 0) (C := RX11) (T := TX11) (N := 47) hx hb hta inlX11 hown hK hP 0 rfl rfl 7 (by decide) (hta _ fl_X11_32) (fun _ h9 => h9) rfl dX11_count__54 ?_
    refine lv_icmp_ge (tgt := 75) hx hb dX11_count__57 (by decide) (fun _ => ?_) (fun c => absurd (by decide) c)
    refine lv_iload_n hx hb dX11_count__75 rfl (lv_at hl 1 rfl) ?_
    refine W.widen (k := 0) (n := 0) (Nat.le_of_ble_eq_true rfl) (Nat.le_of_ble_eq_true rfl) ?_
    exact k_iret () hx hb hr hlocks rfl P_nil D_nil (hK.sub (tys' := []) [] rfl) hS (by decide) dX11_count__76
  · refine lv_tableIn (tgt := 77) hx hb dX11_count__3 (by decide) (by decide) rfl (by decide) ?_
    refine lv_aload_n hx hb dX11_count__77 rfl (lv_at hl 1 rfl) ?_
    refine va_get (D := (dC, dI)) (ci := 10) (v := .int 0) (C := RX11) (T := TX11) (N := 47) hx hb hta inlX11 hown hK hP 0 rfl rfl 8 (by decide) (hta _ fl_X11_35) (fun _ h9 => h9) rfl dX11_count__78 ?_
    refine W.widen (k := 0) (n := 0) (Nat.le_of_ble_eq_true rfl) (Nat.le_of_ble_eq_true rfl) ?_
    exact k_iret () hx hb hr hlocks rfl P_nil D_nil (hK.sub (tys' := []) [] rfl) hS (by decide) dX11_count__81
  · refine lv_tableIn (tgt := 82) hx hb dX11_count__3 (by decide) (by decide) rfl (by decide) ?_
    refine lv_aload_n hx hb dX11_count__82 rfl (lv_at hl 1 rfl) ?_
    refine va_get (D := (dC, dI)) (ci := 10) (v := .int 0) (C := RX11) (T := TX11) (N := 47) hx hb hta inlX11 hown hK hP 0 rfl rfl 14 (by decide) (hta _ fl_X11_53) (fun _ h9 => h9) rfl dX11_count__83 ?_
    refine lv_if_eq (tgt := 93) hx hb dX11_count__86 (by decide) (fun _ => ?_) (fun c => absurd (by decide) c)
    refine lv_iconst (v := 0) hx hb dX11_count__93 (by decide) ?_
    refine W.widen (k := 0) (n := 0) (Nat.le_of_ble_eq_true rfl) (Nat.le_of_ble_eq_true rfl) ?_
    exact k_iret () hx hb hr hlocks rfl P_nil D_nil (hK.sub (tys' := []) [] rfl) hS (by decide) dX11_count__94
  · refine lv_tableIn (tgt := 95) hx hb dX11_count__3 (by decide) (by decide) rfl (by decide) ?_
    refine lv_aload_n hx hb dX11_count__95 rfl (lv_at hl 1 rfl) ?_
    refine va_get (D := (dC, dI)) (ci := 10) (v := .int 0) (C := RX11) (T := TX11) (N := 47) hx hb hta inlX11 hown hK hP 0 rfl rfl 14 (by decide) (hta _ fl_X11_53) (fun _ h9 => h9) rfl dX11_count__96 ?_
    refine lv_if_eq (tgt := 109) hx hb dX11_count__99 (by decide) (fun _ => ?_) (fun c => absurd (by decide) c)
    refine lv_iconst (v := (-1)) hx hb dX11_count__109 (by decide) ?_
    refine W.widen (k := 0) (n := 0) (Nat.le_of_ble_eq_true rfl) (Nat.le_of_ble_eq_true rfl) ?_
    exact k_iret () hx hb hr hlocks rfl P_nil D_nil (hK.sub (tys' := []) [] rfl) hS (by decide) dX11_count__110
  · refine lv_tableOut (tgt := 111) hx hb dX11_count__3 hc1 (by decide) ?_
    refine lv_iconst (v := (-1)) hx hb dX11_count__111 (by decide) ?_
    refine W.widen (k := 0) (n := 0) (Nat.le_of_ble_eq_true rfl) (Nat.le_of_ble_eq_true rfl) ?_
    exact k_iret () hx hb hr hlocks rfl P_nil D_nil (hK.sub (tys' := []) [] rfl) hS ((sp_count_out hc1).symm) dX11_count__112

set_option maxHeartbeats 4000000 in
set_option maxRecDepth 100000 in
theorem x_course (l : Launch) (dC : Nat → ClassId) (dI : Nat → Nat → Nat) (q : Nat → Nat) (k : Nat → ClassId) (p0 : Int32) (p1 : Int32) (sz : Nat) : Ci l (dC, dI) yX10_course cX10_course 3 (some .int) { frames := 3, cells := 0, slots := 0, locals := 63 } [.ref (q 0), .int p0, .int p1] [(k 32, .int), (k 10, .int), (k 11, .int), (k 14, .int)] [zLF q k, zlu q k, zpi q k, zwl q k, zbk q k, zbs q k, ztu q k, zfr q k, ztn q k] sz 0 0 Unit (fun r _ => r = sp_course p0 p1) (fun _ => []) (fun _ => []) := by
  refine Ci_of (lv := [(0, .ref (q 0)), (1, .int p0), (2, .int p1)]) (by decide) rfl rfl ?_
  intro p e s m below meth c A ls hx hb hml hr hown hta hlocks hnm hnw hP hD hK hS hA hl
  have hown : s.vm.findClass RX10 = some m.cls := hown
  refine lv_iload_n hx hb dX10_course_0 rfl (lv_at hl 1 rfl) ?_
  refine lv_bipush (v := 99) hx hb dX10_course_1 (by decide) ?_
  refine kSi (b := 0) (n := 2) (As := [.int p0, .int 99]) (rest := []) ⟨hx, hb, hml, hown, hta⟩ hnw (c_within l dC dI p0 99  s.heap.size) cd_X10_within iz_X10 ml_X10_90 st_X10_within (by decide +kernel) rfl (Nat.le_of_ble_eq_true rfl) (Nat.le_of_ble_eq_true rfl) rfl rfl (Nat.le_of_ble_eq_true rfl) (Nat.le_of_ble_eq_true rfl) hP hD hK hS hA [] [0, 1, 2, 3, 4, 5, 6, 7, 8] [] rfl (wr := [zLF q k, zlu q k, zpi q k, zwl q k, zbk q k, zbs q k, ztu q k, zfr q k, ztn q k]) rfl (by decide) (by decide) (by decide) rfl hl.1 rfl (Nat.le_of_ble_eq_true rfl) dX10_course_3 (fun r3 u1 H locs hw2 hP hD hK hS => ?_)
  have hP : va_P (dC, dI) vwCl [zLF q k, zlu q k, zpi q k, zwl q k, zbk q k, zbs q k, ztu q k, zfr q k, ztn q k] H := hP
  have hD : va_D A [zLF q k, zlu q k, zpi q k, zwl q k, zbk q k, zbs q k, ztu q k, zfr q k, ztn q k] := hD
  have hK : va_K (dC, dI) vwCl [(k 32, .int), (k 10, .int), (k 11, .int), (k 14, .int)] s := hK
  obtain rfl : r3 = if inB p0 0 99 then 1 else 0 := hw2
  refine lv_if_eq (tgt := 18) hx hb dX10_course_6 (by decide) (fun c_4 => ?_) (fun c_4 => ?_)
  · have n_5 : (inB p0 0 99) = false := ite0 c_4
    refine lv_bipush (v := (-2)) hx hb dX10_course_18 (by decide) ?_
    refine W.widen (k := 0) (n := 0) (Nat.le_of_ble_eq_true rfl) (Nat.le_of_ble_eq_true rfl) ?_
    exact k_iret () hx hb hr hlocks rfl P_nil D_nil (hK.sub (tys' := []) [] rfl) hS (by first | rfl | (simp [sp_course, n_5]; done) | (simp [sp_course, c_4, n_5]; done)) dX10_course_20
  · have n_6 : (inB p0 0 99) = true := ite1 c_4
    refine lv_iload_n hx hb dX10_course_9 rfl (lv_at hl 2 rfl) ?_
    refine lv_bipush (v := 12) hx hb dX10_course_10 (by decide) ?_
    refine kSi (b := 0) (n := 2) (As := [.int p1, .int 12]) (rest := []) ⟨hx, hb, hml, hown, hta⟩ hnw (c_within l dC dI p1 12  H.size) cd_X10_within iz_X10 ml_X10_90 st_X10_within (by decide +kernel) rfl (Nat.le_of_ble_eq_true rfl) (Nat.le_of_ble_eq_true rfl) rfl rfl (Nat.le_of_ble_eq_true rfl) (Nat.le_of_ble_eq_true rfl) hP hD hK hS hA [] [0, 1, 2, 3, 4, 5, 6, 7, 8] [] rfl (wr := [zLF q k, zlu q k, zpi q k, zwl q k, zbk q k, zbs q k, ztu q k, zfr q k, ztn q k]) rfl (by decide) (by decide) (by decide) rfl hl.1 rfl (Nat.le_of_ble_eq_true rfl) dX10_course_12 (fun r9 u7 H locs hw8 hP hD hK hS => ?_)
    have hP : va_P (dC, dI) vwCl [zLF q k, zlu q k, zpi q k, zwl q k, zbk q k, zbs q k, ztu q k, zfr q k, ztn q k] H := hP
    have hD : va_D A [zLF q k, zlu q k, zpi q k, zwl q k, zbk q k, zbs q k, ztu q k, zfr q k, ztn q k] := hD
    have hK : va_K (dC, dI) vwCl [(k 32, .int), (k 10, .int), (k 11, .int), (k 14, .int)] s := hK
    obtain rfl : r9 = if inB p1 0 12 then 1 else 0 := hw8
    refine lv_if_ne (tgt := 21) hx hb dX10_course_15 (by decide) (fun c_10 => ?_) (fun c_10 => ?_)
    · have n_11 : (inB p1 0 12) = true := ite1 c_10
      refine lv_aload_n hx hb dX10_course_21 rfl (lv_at hl 0 rfl) ?_
      refine va_get (D := (dC, dI)) (ci := 9) (v := .ref (q 2)) (C := RX10) (T := TX10) (N := 15) hx hb hta inlX10 hown hK hP 0 rfl rfl 1 (by decide) (hta _ fl_X10_19) (fun _ h9 => h9) rfl dX10_course_22 ?_
      refine va_getN (D := (dC, dI)) (ci := 4) (v := .int 0) (C := RX5) (T := TX5) (N := 7) hx hb hta inlX5 hown hK hP 2 rfl rfl 0 (by decide) (hnw.f nf_X10_94) (fun _ h9 => h9) rfl dX10_course_25 ?_
      refine lv_if_le (tgt := 34) hx hb dX10_course_28 (by decide) (fun _ => ?_) (fun c => absurd (by decide) c)
      refine lv_aload_n hx hb dX10_course_34 rfl (lv_at hl 0 rfl) ?_
      refine va_get (D := (dC, dI)) (ci := 9) (v := .ref (q 1)) (C := RX10) (T := TX10) (N := 15) hx hb hta inlX10 hown hK hP 0 rfl rfl 0 (by decide) (hta _ fl_X10_10) (fun _ h9 => h9) rfl dX10_course_35 ?_
      refine va_getN (D := (dC, dI)) (ci := 3) (v := .int 0) (C := RX4) (T := TX4) (N := 7) hx hb hta inlX4 hown hK hP 1 rfl rfl 0 (by decide) (hnw.f nf_X10_97) (fun _ h9 => h9) rfl dX10_course_38 ?_
      refine lv_bipush (v := 6) hx hb dX10_course_41 (by decide) ?_
      refine lv_icmp_lt (tgt := 49) hx hb dX10_course_43 (by decide) (fun _ => ?_) (fun c => absurd (by decide) c)
      refine lv_aload_n hx hb dX10_course_49 rfl (lv_at hl 0 rfl) ?_
      refine kVv (b := (q 0)) (n := 0) (As := []) (rest := []) ⟨hx, hb, hml, hown, hta⟩ hnw (c_instrumentChanged l dC dI q k  H.size) cd_X10_instrumentChanged iz_X10 ml_X10_100 im_X10_instrumentChanged se_X10_X10_instrumentChanged (by decide +kernel) rfl (Nat.le_of_ble_eq_true rfl) (Nat.le_of_ble_eq_true rfl) rfl rfl (Nat.le_of_ble_eq_true rfl) (Nat.le_of_ble_eq_true rfl) hP hD hK hS hA [0, 3, 4, 5] [1, 2, 6, 7, 8] [0] rfl (wr := [zlu q k, zpi q k, ztu q k, zfr q k, ztn q k]) rfl (by decide) (by decide) (by decide) rfl rfl 0 rfl hl.1 rfl (Nat.le_of_ble_eq_true rfl) dX10_course_50 (fun u12 H locs hw13 hP hD hK hS => ?_)
      have hP : va_P (dC, dI) vwCl [zlu q k, zpi q k, ztu q k, zfr q k, ztn q k, zLF q k] H := hP
      have hD : va_D A [zlu q k, zpi q k, ztu q k, zfr q k, ztn q k, zLF q k] := hD
      have hK : va_K (dC, dI) vwCl [(k 32, .int), (k 10, .int), (k 11, .int), (k 14, .int)] s := hK
      refine lv_aload_n hx hb dX10_course_53 rfl (lv_at hl 0 rfl) ?_
      refine va_get (D := (dC, dI)) (ci := 9) (v := .ref (q 1)) (C := RX10) (T := TX10) (N := 15) hx hb hta inlX10 hown hK hP 5 rfl rfl 0 (by decide) (hta _ fl_X10_10) (fun _ h9 => h9) rfl dX10_course_54 ?_
      refine lv_iload_n hx hb dX10_course_57 rfl (lv_at hl 1 rfl) ?_
      refine lv_iload_n hx hb dX10_course_58 rfl (lv_at hl 2 rfl) ?_
      refine kVNi (b := (q 1)) (n := 2) (As := [.int p0, .int p1]) (rest := []) ⟨hx, hb, hml, hown, hta⟩ hnw (c_addCourse l dC dI q k p0 p1  H.size) cd_X4_addCourse iz_X4 nm_X10_103 im_X4_addCourse se_X4_X4_addCourse (by decide +kernel) rfl (Nat.le_of_ble_eq_true rfl) (Nat.le_of_ble_eq_true rfl) rfl rfl (Nat.le_of_ble_eq_true rfl) (Nat.le_of_ble_eq_true rfl) hP hD hK hS hA [0, 2, 3, 4] [1, 5] [1, 2, 3] rfl (wr := [zpi q k, zLF q k]) rfl (by decide) (by decide) (by decide) rfl rfl 0 rfl hl.1 rfl (Nat.le_of_ble_eq_true rfl) dX10_course_59 (fun r17 u15 H locs hw16 hP hD hK hS => ?_)
      have hP : va_P (dC, dI) vwCl [zpi q k, zLF q k] H := hP
      have hD : va_D A [zpi q k, zLF q k] := hD
      have hK : va_K (dC, dI) vwCl [(k 32, .int), (k 10, .int), (k 11, .int), (k 14, .int)] s := hK
      obtain rfl : r17 = 0 := hw16
      refine W.widen (k := 0) (n := 0) (Nat.le_of_ble_eq_true rfl) (Nat.le_of_ble_eq_true rfl) ?_
      exact k_iret () hx hb hr hlocks rfl P_nil D_nil (hK.sub (tys' := []) [] rfl) hS (by first | rfl | (simp [sp_course, n_6, n_11]; done) | (simp [sp_course, c_4, n_6, c_10, n_11]; done)) dX10_course_62
    · have n_18 : (inB p1 0 12) = false := ite0 c_10
      refine lv_bipush (v := (-2)) hx hb dX10_course_18 (by decide) ?_
      refine W.widen (k := 0) (n := 0) (Nat.le_of_ble_eq_true rfl) (Nat.le_of_ble_eq_true rfl) ?_
      exact k_iret () hx hb hr hlocks rfl P_nil D_nil (hK.sub (tys' := []) [] rfl) hS (by first | rfl | (simp [sp_course, n_6, n_18]; done) | (simp [sp_course, c_4, n_6, c_10, n_18]; done)) dX10_course_20
set_option maxHeartbeats 4000000 in
set_option maxRecDepth 100000 in
theorem x_tune (l : Launch) (dC : Nat → ClassId) (dI : Nat → Nat → Nat) (q : Nat → Nat) (k : Nat → ClassId) (p0 : Int32) (p1 : Int32) (sz : Nat) : Ci l (dC, dI) yX10_tune cX10_tune 3 (some .int) { frames := 1, cells := 0, slots := 0, locals := 21 } [.ref (q 0), .int p0, .int p1] [] [zLF q k, zlu q k] sz 0 0 Unit (fun r _ => r = (-1)) (fun _ => []) (fun _ => []) := by
  refine Ci_of (lv := [(0, .ref (q 0)), (1, .int p0), (2, .int p1)]) (by decide) rfl rfl ?_
  intro p e s m below meth c A ls hx hb hml hr hown hta hlocks hnm hnw hP hD hK hS hA hl
  have hown : s.vm.findClass RX10 = some m.cls := hown
  refine lv_aload_n hx hb dX10_tune_0 rfl (lv_at hl 0 rfl) ?_
  refine va_get (D := (dC, dI)) (ci := 9) (v := .ref (q 1)) (C := RX10) (T := TX10) (N := 15) hx hb hta inlX10 hown hK hP 0 rfl rfl 0 (by decide) (hta _ fl_X10_10) (fun _ h9 => h9) rfl dX10_tune_1 ?_
  refine lv_iload_n hx hb dX10_tune_4 rfl (lv_at hl 1 rfl) ?_
  refine kVNi (b := (q 1)) (n := 1) (As := [.int p0]) (rest := []) ⟨hx, hb, hml, hown, hta⟩ hnw (c_hasCourse l dC dI q k p0  s.heap.size) cd_X4_hasCourse iz_X4 nm_X10_107 im_X4_hasCourse se_X4_X4_hasCourse (by decide +kernel) rfl (Nat.le_of_ble_eq_true rfl) (Nat.le_of_ble_eq_true rfl) rfl rfl (Nat.le_of_ble_eq_true rfl) (Nat.le_of_ble_eq_true rfl) hP hD hK hS hA [1] [0] [] rfl (wr := [zLF q k]) rfl (by decide) (by decide) (by decide) rfl rfl 0 rfl hl.1 rfl (Nat.le_of_ble_eq_true rfl) dX10_tune_5 (fun r3 u1 H locs hw2 hP hD hK hS => ?_)
  have hP : va_P (dC, dI) vwCl [zLF q k] H := hP
  have hD : va_D A [zLF q k] := hD
  have hK : va_K (dC, dI) vwCl [] s := hK
  obtain rfl : r3 = 0 := hw2
  refine lv_if_ne (tgt := 13) hx hb dX10_tune_8 (by decide) (fun c => absurd c (by decide)) (fun _ => ?_)
  refine lv_iconst (v := (-1)) hx hb dX10_tune_11 (by decide) ?_
  refine W.widen (k := 0) (n := 0) (Nat.le_of_ble_eq_true rfl) (Nat.le_of_ble_eq_true rfl) ?_
  exact k_iret () hx hb hr hlocks rfl P_nil D_nil (hK.sub (tys' := []) [] rfl) hS rfl dX10_tune_12
set_option maxHeartbeats 4000000 in
set_option maxRecDepth 100000 in
theorem x_slack (l : Launch) (dC : Nat → ClassId) (dI : Nat → Nat → Nat) (q : Nat → Nat) (k : Nat → ClassId) (p0 : Int32) (p1 : Int32) (sz : Nat) : Ci l (dC, dI) yX10_slack cX10_slack 3 (some .int) { frames := 3, cells := 0, slots := 0, locals := 63 } [.ref (q 0), .int p0, .int p1] [(k 32, .int), (k 12, .int)] [zLF q k, zlu q k, zwl q k, zbk q k, zbs q k, zsl q k] sz 0 0 Unit (fun r _ => r = sp_slack p0 p1) (fun _ => []) (fun _ => []) := by
  refine Ci_of (lv := [(0, .ref (q 0)), (1, .int p0), (2, .int p1)]) (by decide) rfl rfl ?_
  intro p e s m below meth c A ls hx hb hml hr hown hta hlocks hnm hnw hP hD hK hS hA hl
  have hown : s.vm.findClass RX10 = some m.cls := hown
  refine lv_iload_n hx hb dX10_slack_0 rfl (lv_at hl 1 rfl) ?_
  refine lv_iconst (v := 1) hx hb dX10_slack_1 (by decide) ?_
  refine lv_icmp_lt (tgt := 10) hx hb dX10_slack_2 (by decide) (fun c_1 => ?_) (fun c_1 => ?_)
  · refine lv_iconst (v := (-1)) hx hb dX10_slack_10 (by decide) ?_
    refine W.widen (k := 0) (n := 0) (Nat.le_of_ble_eq_true rfl) (Nat.le_of_ble_eq_true rfl) ?_
    exact k_iret () hx hb hr hlocks rfl P_nil D_nil (hK.sub (tys' := []) [] rfl) hS (by simp [sp_slack, inB_f1 (hi := 4) c_1]) dX10_slack_11
  · refine lv_iload_n hx hb dX10_slack_5 rfl (lv_at hl 1 rfl) ?_
    refine lv_iconst (v := 4) hx hb dX10_slack_6 (by decide) ?_
    refine lv_icmp_le (tgt := 12) hx hb dX10_slack_7 (by decide) (fun c_2 => ?_) (fun c_2 => ?_)
    · refine lv_iload_n hx hb dX10_slack_12 rfl (lv_at hl 2 rfl) ?_
      refine lv_iconst (v := 2) hx hb dX10_slack_13 (by decide) ?_
      refine kSi (b := 0) (n := 2) (As := [.int p1, .int 2]) (rest := []) ⟨hx, hb, hml, hown, hta⟩ hnw (c_within l dC dI p1 2  s.heap.size) cd_X10_within iz_X10 ml_X10_90 st_X10_within (by decide +kernel) rfl (Nat.le_of_ble_eq_true rfl) (Nat.le_of_ble_eq_true rfl) rfl rfl (Nat.le_of_ble_eq_true rfl) (Nat.le_of_ble_eq_true rfl) hP hD hK hS hA [] [0, 1, 2, 3, 4, 5] [] rfl (wr := [zLF q k, zlu q k, zwl q k, zbk q k, zbs q k, zsl q k]) rfl (by decide) (by decide) (by decide) rfl hl.1 rfl (Nat.le_of_ble_eq_true rfl) dX10_slack_14 (fun r5 u3 H locs hw4 hP hD hK hS => ?_)
      have hP : va_P (dC, dI) vwCl [zLF q k, zlu q k, zwl q k, zbk q k, zbs q k, zsl q k] H := hP
      have hD : va_D A [zLF q k, zlu q k, zwl q k, zbk q k, zbs q k, zsl q k] := hD
      have hK : va_K (dC, dI) vwCl [(k 32, .int), (k 12, .int)] s := hK
      obtain rfl : r5 = if inB p1 0 2 then 1 else 0 := hw4
      refine lv_if_ne (tgt := 23) hx hb dX10_slack_17 (by decide) (fun c_6 => ?_) (fun c_6 => ?_)
      · have n_7 : (inB p1 0 2) = true := ite1 c_6
        refine lv_aload_n hx hb dX10_slack_23 rfl (lv_at hl 0 rfl) ?_
        refine kVv (b := (q 0)) (n := 0) (As := []) (rest := []) ⟨hx, hb, hml, hown, hta⟩ hnw (c_instrumentChanged l dC dI q k  H.size) cd_X10_instrumentChanged iz_X10 ml_X10_100 im_X10_instrumentChanged se_X10_X10_instrumentChanged (by decide +kernel) rfl (Nat.le_of_ble_eq_true rfl) (Nat.le_of_ble_eq_true rfl) rfl rfl (Nat.le_of_ble_eq_true rfl) (Nat.le_of_ble_eq_true rfl) hP hD hK hS hA [0, 2, 3, 4] [1, 5] [0] rfl (wr := [zlu q k, zsl q k]) rfl (by decide) (by decide) (by decide) rfl rfl 0 rfl hl.1 rfl (Nat.le_of_ble_eq_true rfl) dX10_slack_24 (fun u8 H locs hw9 hP hD hK hS => ?_)
        have hP : va_P (dC, dI) vwCl [zlu q k, zsl q k, zLF q k] H := hP
        have hD : va_D A [zlu q k, zsl q k, zLF q k] := hD
        have hK : va_K (dC, dI) vwCl [(k 32, .int), (k 12, .int)] s := hK
        refine lv_aload_n hx hb dX10_slack_27 rfl (lv_at hl 0 rfl) ?_
        refine va_get (D := (dC, dI)) (ci := 9) (v := .ref (q 1)) (C := RX10) (T := TX10) (N := 15) hx hb hta inlX10 hown hK hP 2 rfl rfl 0 (by decide) (hta _ fl_X10_10) (fun _ h9 => h9) rfl dX10_slack_28 ?_
        refine va_getN (D := (dC, dI)) (ci := 3) (v := .ref (q 12)) (C := RX4) (T := TX4) (N := 7) hx hb hta inlX4 hown hK hP 0 rfl rfl 4 (by decide) (hnw.f nf_X10_118) (fun _ h9 => h9) rfl dX10_slack_31 ?_
        refine lv_iload_n hx hb dX10_slack_34 rfl (lv_at hl 1 rfl) ?_
        refine lv_iload_n hx hb dX10_slack_35 rfl (lv_at hl 2 rfl) ?_
        refine kSi (b := 0) (n := 3) (As := [.ref (q 12), .int p0, .int p1]) (rest := []) ⟨hx, hb, hml, hown, hta⟩ hnw (c_exch l dC dI (q 12) (k 12) 5 (fun _ => 1) p0 p1 (vinB (inB_t c_1 (Int32.not_lt.mpr c_2)) (by decide) (by decide)) H.size) cd_X10_exchange iz_X10 ml_X10_114 st_X10_exchange (by decide +kernel) rfl (Nat.le_of_ble_eq_true rfl) (Nat.le_of_ble_eq_true rfl) rfl rfl (Nat.le_of_ble_eq_true rfl) (Nat.le_of_ble_eq_true rfl) hP hD hK hS hA [1] [0, 2] [1] rfl (wr := [zlu q k, zLF q k]) rfl (by decide) (by decide) (by decide) rfl hl.1 rfl (Nat.le_of_ble_eq_true rfl) dX10_slack_36 (fun r13 u11 H locs hw12 hP hD hK hS => ?_)
        have hP : va_P (dC, dI) vwCl [zlu q k, zLF q k] H := hP
        have hD : va_D A [zlu q k, zLF q k] := hD
        have hK : va_K (dC, dI) vwCl [(k 32, .int), (k 12, .int)] s := hK
        obtain rfl : r13 = 1 := hw12
        refine W.widen (k := 0) (n := 0) (Nat.le_of_ble_eq_true rfl) (Nat.le_of_ble_eq_true rfl) ?_
        exact k_iret () hx hb hr hlocks rfl P_nil D_nil (hK.sub (tys' := []) [] rfl) hS (by simp [sp_slack, inB_t c_1 (Int32.not_lt.mpr c_2), c_6, n_7]) dX10_slack_39
      · have n_14 : (inB p1 0 2) = false := ite0 c_6
        refine lv_bipush (v := (-2)) hx hb dX10_slack_20 (by decide) ?_
        refine W.widen (k := 0) (n := 0) (Nat.le_of_ble_eq_true rfl) (Nat.le_of_ble_eq_true rfl) ?_
        exact k_iret () hx hb hr hlocks rfl P_nil D_nil (hK.sub (tys' := []) [] rfl) hS (by simp [sp_slack, inB_t c_1 (Int32.not_lt.mpr c_2), c_6, n_14]) dX10_slack_22
    · refine lv_iconst (v := (-1)) hx hb dX10_slack_10 (by decide) ?_
      refine W.widen (k := 0) (n := 0) (Nat.le_of_ble_eq_true rfl) (Nat.le_of_ble_eq_true rfl) ?_
      exact k_iret () hx hb hr hlocks rfl P_nil D_nil (hK.sub (tys' := []) [] rfl) hS (by simp [sp_slack, inB_f2 (lo := 1) (Int32.not_le.mp c_2)]) dX10_slack_11
set_option maxHeartbeats 4000000 in
set_option maxRecDepth 100000 in
theorem x_bars (l : Launch) (dC : Nat → ClassId) (dI : Nat → Nat → Nat) (q : Nat → Nat) (k : Nat → ClassId) (p0 : Int32) (sz : Nat) : Ci l (dC, dI) yX10_bars cX10_bars 3 (some .int) { frames := 3, cells := 0, slots := 0, locals := 63 } [.ref (q 0), .int p0] [(k 32, .int)] [zLF q k, zlu q k, zwl q k, zbk q k, zbs q k] sz 0 0 Unit (fun r _ => r = sp_bars p0) (fun _ => []) (fun _ => []) := by
  refine Ci_of (lv := [(0, .ref (q 0)), (1, .int p0)]) (by decide) rfl rfl ?_
  intro p e s m below meth c A ls hx hb hml hr hown hta hlocks hnm hnw hP hD hK hS hA hl
  have hown : s.vm.findClass RX10 = some m.cls := hown
  refine lv_iload_n hx hb dX10_bars_0 rfl (lv_at hl 1 rfl) ?_
  refine lv_iconst (v := 1) hx hb dX10_bars_1 (by decide) ?_
  refine kSi (b := 0) (n := 2) (As := [.int p0, .int 1]) (rest := []) ⟨hx, hb, hml, hown, hta⟩ hnw (c_within l dC dI p0 1  s.heap.size) cd_X10_within iz_X10 ml_X10_90 st_X10_within (by decide +kernel) rfl (Nat.le_of_ble_eq_true rfl) (Nat.le_of_ble_eq_true rfl) rfl rfl (Nat.le_of_ble_eq_true rfl) (Nat.le_of_ble_eq_true rfl) hP hD hK hS hA [] [0, 1, 2, 3, 4] [] rfl (wr := [zLF q k, zlu q k, zwl q k, zbk q k, zbs q k]) rfl (by decide) (by decide) (by decide) rfl hl.1 rfl (Nat.le_of_ble_eq_true rfl) dX10_bars_2 (fun r3 u1 H locs hw2 hP hD hK hS => ?_)
  have hP : va_P (dC, dI) vwCl [zLF q k, zlu q k, zwl q k, zbk q k, zbs q k] H := hP
  have hD : va_D A [zLF q k, zlu q k, zwl q k, zbk q k, zbs q k] := hD
  have hK : va_K (dC, dI) vwCl [(k 32, .int)] s := hK
  obtain rfl : r3 = if inB p0 0 1 then 1 else 0 := hw2
  refine lv_if_ne (tgt := 11) hx hb dX10_bars_5 (by decide) (fun c_4 => ?_) (fun c_4 => ?_)
  · have n_5 : (inB p0 0 1) = true := ite1 c_4
    refine lv_aload_n hx hb dX10_bars_11 rfl (lv_at hl 0 rfl) ?_
    refine kVv (b := (q 0)) (n := 0) (As := []) (rest := []) ⟨hx, hb, hml, hown, hta⟩ hnw (c_instrumentChanged l dC dI q k  H.size) cd_X10_instrumentChanged iz_X10 ml_X10_100 im_X10_instrumentChanged se_X10_X10_instrumentChanged (by decide +kernel) rfl (Nat.le_of_ble_eq_true rfl) (Nat.le_of_ble_eq_true rfl) rfl rfl (Nat.le_of_ble_eq_true rfl) (Nat.le_of_ble_eq_true rfl) hP hD hK hS hA [0, 2, 3, 4] [1] [0] rfl (wr := [zlu q k]) rfl (by decide) (by decide) (by decide) rfl rfl 0 rfl hl.1 rfl (Nat.le_of_ble_eq_true rfl) dX10_bars_12 (fun u6 H locs hw7 hP hD hK hS => ?_)
    have hP : va_P (dC, dI) vwCl [zlu q k, zLF q k] H := hP
    have hD : va_D A [zlu q k, zLF q k] := hD
    have hK : va_K (dC, dI) vwCl [(k 32, .int)] s := hK
    refine lv_aload_n hx hb dX10_bars_15 rfl (lv_at hl 0 rfl) ?_
    refine va_get (D := (dC, dI)) (ci := 9) (v := .ref (q 1)) (C := RX10) (T := TX10) (N := 15) hx hb hta inlX10 hown hK hP 1 rfl rfl 0 (by decide) (hta _ fl_X10_10) (fun _ h9 => h9) rfl dX10_bars_16 ?_
    refine va_getN (D := (dC, dI)) (ci := 3) (v := .int 0) (C := RX4) (T := TX4) (N := 7) hx hb hta inlX4 hown hK hP 0 rfl rfl 1 (by decide) (hnw.f nf_X10_121) (fun _ h9 => h9) rfl dX10_bars_19 ?_
    refine lv_if_eq (tgt := 29) hx hb dX10_bars_22 (by decide) (fun _ => ?_) (fun c => absurd (by decide) c)
    refine lv_iconst (v := 0) hx hb dX10_bars_29 (by decide) ?_
    refine lv_istore_n (lv' := [(2, .int 0), (0, .ref (q 0)), (1, .int p0)]) hx hb dX10_bars_30 rfl hl (by decide) rfl (fun ls hl => ?_)
    refine lv_aload_n hx hb dX10_bars_31 rfl (lv_at hl 1 rfl) ?_
    refine va_get (D := (dC, dI)) (ci := 9) (v := .ref (q 1)) (C := RX10) (T := TX10) (N := 15) hx hb hta inlX10 hown hK hP 1 rfl rfl 0 (by decide) (hta _ fl_X10_10) (fun _ h9 => h9) rfl dX10_bars_32 ?_
    refine lv_iload_n hx hb dX10_bars_35 rfl (lv_at hl 2 rfl) ?_
    refine lv_iconst (v := 1) hx hb dX10_bars_36 (by decide) ?_
    refine lv_icmp_ne (tgt := 44) hx hb dX10_bars_37 (by decide) (fun c_9 => ?_) (fun c_9 => ?_)
    · refine lv_iconst (v := 0) hx hb dX10_bars_44 (by decide) ?_
      refine va_putN (D := (dC, dI)) (ci := 3) (v := .int 0) (ty := .boolean) (C := RX4) (T := TX4) (N := 7) hx hb hta inlX4 tyX4 tyX4_ok nmX4 hown hK hP hD hS 0 rfl rfl 1 (by decide) (hnw.f nf_X10_121) (fun _ h9 => h9) rfl (by decide +kernel) rfl rfl (Nat.le_of_ble_eq_true rfl) dX10_bars_45 (fun H locs hP hD hS => ?_)
      have hP : va_P (dC, dI) vwCl [(q 1, .inr (3, [.int 0, .int 0, .ref (q 10), .ref (q 11), .ref (q 12), .ref (q 13), .ref (q 14)])), zLF q k] H := hP
      have hD : va_D A [(q 1, .inr (3, [.int 0, .int 0, .ref (q 10), .ref (q 11), .ref (q 12), .ref (q 13), .ref (q 14)])), zLF q k] := hD
      refine lv_iload_n hx hb dX10_bars_48 rfl (lv_at hl 0 rfl) ?_
      refine W.widen (k := 0) (n := 0) (Nat.le_of_ble_eq_true rfl) (Nat.le_of_ble_eq_true rfl) ?_
      exact k_iret () hx hb hr hlocks rfl P_nil D_nil (hK.sub (tys' := []) [] rfl) hS (by first | rfl | (simp [sp_bars, n_5]; done) | (simp [sp_bars, c_4, n_5, c_9]; done)) dX10_bars_49
    · refine lv_iconst (v := 1) hx hb dX10_bars_40 (by decide) ?_
      refine lv_goto (tgt := 45) hx hb dX10_bars_41 (by decide) ?_
      refine va_putN (D := (dC, dI)) (ci := 3) (v := .int 1) (ty := .boolean) (C := RX4) (T := TX4) (N := 7) hx hb hta inlX4 tyX4 tyX4_ok nmX4 hown hK hP hD hS 0 rfl rfl 1 (by decide) (hnw.f nf_X10_121) (fun _ h9 => h9) rfl (by decide +kernel) rfl rfl (Nat.le_of_ble_eq_true rfl) dX10_bars_45 (fun H locs hP hD hS => ?_)
      have hP : va_P (dC, dI) vwCl [(q 1, .inr (3, [.int 0, .int 1, .ref (q 10), .ref (q 11), .ref (q 12), .ref (q 13), .ref (q 14)])), zLF q k] H := hP
      have hD : va_D A [(q 1, .inr (3, [.int 0, .int 1, .ref (q 10), .ref (q 11), .ref (q 12), .ref (q 13), .ref (q 14)])), zLF q k] := hD
      refine lv_iload_n hx hb dX10_bars_48 rfl (lv_at hl 0 rfl) ?_
      refine W.widen (k := 0) (n := 0) (Nat.le_of_ble_eq_true rfl) (Nat.le_of_ble_eq_true rfl) ?_
      exact k_iret () hx hb hr hlocks rfl P_nil D_nil (hK.sub (tys' := []) [] rfl) hS (by first | rfl | (simp [sp_bars, n_5]; done) | (simp [sp_bars, c_4, n_5, c_9]; done)) dX10_bars_49
  · have n_10 : (inB p0 0 1) = false := ite0 c_4
    refine lv_bipush (v := (-2)) hx hb dX10_bars_8 (by decide) ?_
    refine W.widen (k := 0) (n := 0) (Nat.le_of_ble_eq_true rfl) (Nat.le_of_ble_eq_true rfl) ?_
    exact k_iret () hx hb hr hlocks rfl P_nil D_nil (hK.sub (tys' := []) [] rfl) hS (by first | rfl | (simp [sp_bars, n_10]; done) | (simp [sp_bars, c_4, n_10]; done)) dX10_bars_10
set_option maxHeartbeats 4000000 in
set_option maxRecDepth 100000 in
theorem x_weight (l : Launch) (dC : Nat → ClassId) (dI : Nat → Nat → Nat) (q : Nat → Nat) (k : Nat → ClassId) (p0 : Int32) (p1 : Int32) (sz : Nat) : Ci l (dC, dI) yX10_weight cX10_weight 3 (some .int) { frames := 3, cells := 0, slots := 0, locals := 63 } [.ref (q 0), .int p0, .int p1] [(k 32, .int), (k 13, .int)] [zLF q k, zlu q k, zwl q k, zbk q k, zbs q k, zwe q k] sz 0 0 Unit (fun r _ => r = sp_weight p0 p1) (fun _ => []) (fun _ => []) := by
  refine Ci_of (lv := [(0, .ref (q 0)), (1, .int p0), (2, .int p1)]) (by decide) rfl rfl ?_
  intro p e s m below meth c A ls hx hb hml hr hown hta hlocks hnm hnw hP hD hK hS hA hl
  have hown : s.vm.findClass RX10 = some m.cls := hown
  refine lv_iload_n hx hb dX10_weight_0 rfl (lv_at hl 1 rfl) ?_
  refine lv_iconst (v := 4) hx hb dX10_weight_1 (by decide) ?_
  refine kSi (b := 0) (n := 2) (As := [.int p0, .int 4]) (rest := []) ⟨hx, hb, hml, hown, hta⟩ hnw (c_within l dC dI p0 4  s.heap.size) cd_X10_within iz_X10 ml_X10_90 st_X10_within (by decide +kernel) rfl (Nat.le_of_ble_eq_true rfl) (Nat.le_of_ble_eq_true rfl) rfl rfl (Nat.le_of_ble_eq_true rfl) (Nat.le_of_ble_eq_true rfl) hP hD hK hS hA [] [0, 1, 2, 3, 4, 5] [] rfl (wr := [zLF q k, zlu q k, zwl q k, zbk q k, zbs q k, zwe q k]) rfl (by decide) (by decide) (by decide) rfl hl.1 rfl (Nat.le_of_ble_eq_true rfl) dX10_weight_2 (fun r3 u1 H locs hw2 hP hD hK hS => ?_)
  have hP : va_P (dC, dI) vwCl [zLF q k, zlu q k, zwl q k, zbk q k, zbs q k, zwe q k] H := hP
  have hD : va_D A [zLF q k, zlu q k, zwl q k, zbk q k, zbs q k, zwe q k] := hD
  have hK : va_K (dC, dI) vwCl [(k 32, .int), (k 13, .int)] s := hK
  obtain rfl : r3 = if inB p0 0 4 then 1 else 0 := hw2
  refine lv_if_ne (tgt := 10) hx hb dX10_weight_5 (by decide) (fun c_4 => ?_) (fun c_4 => ?_)
  · have n_5 : (inB p0 0 4) = true := ite1 c_4
    refine lv_iload_n hx hb dX10_weight_10 rfl (lv_at hl 2 rfl) ?_
    refine lv_bipush (v := 9) hx hb dX10_weight_11 (by decide) ?_
    refine kSi (b := 0) (n := 2) (As := [.int p1, .int 9]) (rest := []) ⟨hx, hb, hml, hown, hta⟩ hnw (c_within l dC dI p1 9  H.size) cd_X10_within iz_X10 ml_X10_90 st_X10_within (by decide +kernel) rfl (Nat.le_of_ble_eq_true rfl) (Nat.le_of_ble_eq_true rfl) rfl rfl (Nat.le_of_ble_eq_true rfl) (Nat.le_of_ble_eq_true rfl) hP hD hK hS hA [] [0, 1, 2, 3, 4, 5] [] rfl (wr := [zLF q k, zlu q k, zwl q k, zbk q k, zbs q k, zwe q k]) rfl (by decide) (by decide) (by decide) rfl hl.1 rfl (Nat.le_of_ble_eq_true rfl) dX10_weight_13 (fun r8 u6 H locs hw7 hP hD hK hS => ?_)
    have hP : va_P (dC, dI) vwCl [zLF q k, zlu q k, zwl q k, zbk q k, zbs q k, zwe q k] H := hP
    have hD : va_D A [zLF q k, zlu q k, zwl q k, zbk q k, zbs q k, zwe q k] := hD
    have hK : va_K (dC, dI) vwCl [(k 32, .int), (k 13, .int)] s := hK
    obtain rfl : r8 = if inB p1 0 9 then 1 else 0 := hw7
    refine lv_if_ne (tgt := 22) hx hb dX10_weight_16 (by decide) (fun c_9 => ?_) (fun c_9 => ?_)
    · have n_10 : (inB p1 0 9) = true := ite1 c_9
      refine lv_aload_n hx hb dX10_weight_22 rfl (lv_at hl 0 rfl) ?_
      refine kVv (b := (q 0)) (n := 0) (As := []) (rest := []) ⟨hx, hb, hml, hown, hta⟩ hnw (c_instrumentChanged l dC dI q k  H.size) cd_X10_instrumentChanged iz_X10 ml_X10_100 im_X10_instrumentChanged se_X10_X10_instrumentChanged (by decide +kernel) rfl (Nat.le_of_ble_eq_true rfl) (Nat.le_of_ble_eq_true rfl) rfl rfl (Nat.le_of_ble_eq_true rfl) (Nat.le_of_ble_eq_true rfl) hP hD hK hS hA [0, 2, 3, 4] [1, 5] [0] rfl (wr := [zlu q k, zwe q k]) rfl (by decide) (by decide) (by decide) rfl rfl 0 rfl hl.1 rfl (Nat.le_of_ble_eq_true rfl) dX10_weight_23 (fun u11 H locs hw12 hP hD hK hS => ?_)
      have hP : va_P (dC, dI) vwCl [zlu q k, zwe q k, zLF q k] H := hP
      have hD : va_D A [zlu q k, zwe q k, zLF q k] := hD
      have hK : va_K (dC, dI) vwCl [(k 32, .int), (k 13, .int)] s := hK
      refine lv_aload_n hx hb dX10_weight_26 rfl (lv_at hl 0 rfl) ?_
      refine va_get (D := (dC, dI)) (ci := 9) (v := .ref (q 1)) (C := RX10) (T := TX10) (N := 15) hx hb hta inlX10 hown hK hP 2 rfl rfl 0 (by decide) (hta _ fl_X10_10) (fun _ h9 => h9) rfl dX10_weight_27 ?_
      refine va_getN (D := (dC, dI)) (ci := 3) (v := .ref (q 13)) (C := RX4) (T := TX4) (N := 7) hx hb hta inlX4 hown hK hP 0 rfl rfl 5 (by decide) (hnw.f nf_X10_124) (fun _ h9 => h9) rfl dX10_weight_30 ?_
      refine lv_iload_n hx hb dX10_weight_33 rfl (lv_at hl 1 rfl) ?_
      refine lv_iload_n hx hb dX10_weight_34 rfl (lv_at hl 2 rfl) ?_
      refine kSi (b := 0) (n := 3) (As := [.ref (q 13), .int p0, .int p1]) (rest := []) ⟨hx, hb, hml, hown, hta⟩ hnw (c_exch l dC dI (q 13) (k 13) 5 (fun _ => 1) p0 p1 (vinB n_5 (by decide) (by decide)) H.size) cd_X10_exchange iz_X10 ml_X10_114 st_X10_exchange (by decide +kernel) rfl (Nat.le_of_ble_eq_true rfl) (Nat.le_of_ble_eq_true rfl) rfl rfl (Nat.le_of_ble_eq_true rfl) (Nat.le_of_ble_eq_true rfl) hP hD hK hS hA [1] [0, 2] [1] rfl (wr := [zlu q k, zLF q k]) rfl (by decide) (by decide) (by decide) rfl hl.1 rfl (Nat.le_of_ble_eq_true rfl) dX10_weight_35 (fun r16 u14 H locs hw15 hP hD hK hS => ?_)
      have hP : va_P (dC, dI) vwCl [zlu q k, zLF q k] H := hP
      have hD : va_D A [zlu q k, zLF q k] := hD
      have hK : va_K (dC, dI) vwCl [(k 32, .int), (k 13, .int)] s := hK
      obtain rfl : r16 = 1 := hw15
      refine W.widen (k := 0) (n := 0) (Nat.le_of_ble_eq_true rfl) (Nat.le_of_ble_eq_true rfl) ?_
      exact k_iret () hx hb hr hlocks rfl P_nil D_nil (hK.sub (tys' := []) [] rfl) hS (by first | rfl | (simp [sp_weight, n_5, n_10]; done) | (simp [sp_weight, c_4, n_5, c_9, n_10]; done)) dX10_weight_38
    · have n_17 : (inB p1 0 9) = false := ite0 c_9
      refine lv_bipush (v := (-2)) hx hb dX10_weight_19 (by decide) ?_
      refine W.widen (k := 0) (n := 0) (Nat.le_of_ble_eq_true rfl) (Nat.le_of_ble_eq_true rfl) ?_
      exact k_iret () hx hb hr hlocks rfl P_nil D_nil (hK.sub (tys' := []) [] rfl) hS (by first | rfl | (simp [sp_weight, n_5, n_17]; done) | (simp [sp_weight, c_4, n_5, c_9, n_17]; done)) dX10_weight_21
  · have n_18 : (inB p0 0 4) = false := ite0 c_4
    refine lv_iconst (v := (-1)) hx hb dX10_weight_8 (by decide) ?_
    refine W.widen (k := 0) (n := 0) (Nat.le_of_ble_eq_true rfl) (Nat.le_of_ble_eq_true rfl) ?_
    exact k_iret () hx hb hr hlocks rfl P_nil D_nil (hK.sub (tys' := []) [] rfl) hS (by first | rfl | (simp [sp_weight, n_18]; done) | (simp [sp_weight, c_4, n_18]; done)) dX10_weight_9
set_option maxHeartbeats 4000000 in
set_option maxRecDepth 100000 in
theorem x_note (l : Launch) (dC : Nat → ClassId) (dI : Nat → Nat → Nat) (q : Nat → Nat) (k : Nat → ClassId) (p0 : Int32) (p1 : Int32) (p2 : Int32) (sz : Nat) : Ci l (dC, dI) yX10_note cX10_note 5 (some .int) { frames := 2, cells := 0, slots := 0, locals := 42 } [.ref (q 0), .int p0, .int p1, .int p2] [(k 20, .int), (k 21, .int), (k 22, .int), (k 23, .int), (k 24, .int), (k 25, .int)] [zLF q k, zpi q k, zsz q k, zpt q k, zkd q k, zpr q k, zfo q k, zfx q k] sz 0 0 Unit (fun r _ => r = sp_note p0 p1 p2) (fun _ => []) (fun _ => []) := by
  refine Ci_of (lv := [(0, .ref (q 0)), (1, .int p0), (2, .int p1), (3, .int p2)]) (by decide) rfl rfl ?_
  intro p e s m below meth c A ls hx hb hml hr hown hta hlocks hnm hnw hP hD hK hS hA hl
  have hown : s.vm.findClass RX10 = some m.cls := hown
  refine lv_iload_n hx hb dX10_note_0 rfl (lv_at hl 1 rfl) ?_
  refine lv_bipush (v := 120) hx hb dX10_note_1 (by decide) ?_
  refine kSi (b := 0) (n := 2) (As := [.int p0, .int 120]) (rest := []) ⟨hx, hb, hml, hown, hta⟩ hnw (c_within l dC dI p0 120  s.heap.size) cd_X10_within iz_X10 ml_X10_90 st_X10_within (by decide +kernel) rfl (Nat.le_of_ble_eq_true rfl) (Nat.le_of_ble_eq_true rfl) rfl rfl (Nat.le_of_ble_eq_true rfl) (Nat.le_of_ble_eq_true rfl) hP hD hK hS hA [] [0, 1, 2, 3, 4, 5, 6, 7] [] rfl (wr := [zLF q k, zpi q k, zsz q k, zpt q k, zkd q k, zpr q k, zfo q k, zfx q k]) rfl (by decide) (by decide) (by decide) rfl hl.1 rfl (Nat.le_of_ble_eq_true rfl) dX10_note_3 (fun r3 u1 H locs hw2 hP hD hK hS => ?_)
  have hP : va_P (dC, dI) vwCl [zLF q k, zpi q k, zsz q k, zpt q k, zkd q k, zpr q k, zfo q k, zfx q k] H := hP
  have hD : va_D A [zLF q k, zpi q k, zsz q k, zpt q k, zkd q k, zpr q k, zfo q k, zfx q k] := hD
  have hK : va_K (dC, dI) vwCl [(k 20, .int), (k 21, .int), (k 22, .int), (k 23, .int), (k 24, .int), (k 25, .int)] s := hK
  obtain rfl : r3 = if inB p0 0 120 then 1 else 0 := hw2
  refine lv_if_eq (tgt := 26) hx hb dX10_note_6 (by decide) (fun c_4 => ?_) (fun c_4 => ?_)
  · have n_5 : (inB p0 0 120) = false := ite0 c_4
    refine lv_bipush (v := (-2)) hx hb dX10_note_26 (by decide) ?_
    refine W.widen (k := 0) (n := 0) (Nat.le_of_ble_eq_true rfl) (Nat.le_of_ble_eq_true rfl) ?_
    exact k_iret () hx hb hr hlocks rfl P_nil D_nil (hK.sub (tys' := []) [] rfl) hS (by first | rfl | (simp [sp_note, n_5]; done) | (simp [sp_note, c_4, n_5]; done)) dX10_note_28
  · have n_6 : (inB p0 0 120) = true := ite1 c_4
    refine lv_iload_n hx hb dX10_note_9 rfl (lv_at hl 2 rfl) ?_
    refine lv_iconst (v := 3) hx hb dX10_note_10 (by decide) ?_
    refine kSi (b := 0) (n := 2) (As := [.int p1, .int 3]) (rest := []) ⟨hx, hb, hml, hown, hta⟩ hnw (c_within l dC dI p1 3  H.size) cd_X10_within iz_X10 ml_X10_90 st_X10_within (by decide +kernel) rfl (Nat.le_of_ble_eq_true rfl) (Nat.le_of_ble_eq_true rfl) rfl rfl (Nat.le_of_ble_eq_true rfl) (Nat.le_of_ble_eq_true rfl) hP hD hK hS hA [] [0, 1, 2, 3, 4, 5, 6, 7] [] rfl (wr := [zLF q k, zpi q k, zsz q k, zpt q k, zkd q k, zpr q k, zfo q k, zfx q k]) rfl (by decide) (by decide) (by decide) rfl hl.1 rfl (Nat.le_of_ble_eq_true rfl) dX10_note_11 (fun r9 u7 H locs hw8 hP hD hK hS => ?_)
    have hP : va_P (dC, dI) vwCl [zLF q k, zpi q k, zsz q k, zpt q k, zkd q k, zpr q k, zfo q k, zfx q k] H := hP
    have hD : va_D A [zLF q k, zpi q k, zsz q k, zpt q k, zkd q k, zpr q k, zfo q k, zfx q k] := hD
    have hK : va_K (dC, dI) vwCl [(k 20, .int), (k 21, .int), (k 22, .int), (k 23, .int), (k 24, .int), (k 25, .int)] s := hK
    obtain rfl : r9 = if inB p1 0 3 then 1 else 0 := hw8
    refine lv_if_eq (tgt := 26) hx hb dX10_note_14 (by decide) (fun c_10 => ?_) (fun c_10 => ?_)
    · have n_11 : (inB p1 0 3) = false := ite0 c_10
      refine lv_bipush (v := (-2)) hx hb dX10_note_26 (by decide) ?_
      refine W.widen (k := 0) (n := 0) (Nat.le_of_ble_eq_true rfl) (Nat.le_of_ble_eq_true rfl) ?_
      exact k_iret () hx hb hr hlocks rfl P_nil D_nil (hK.sub (tys' := []) [] rfl) hS (by first | rfl | (simp [sp_note, n_6, n_11]; done) | (simp [sp_note, c_4, n_6, c_10, n_11]; done)) dX10_note_28
    · have n_12 : (inB p1 0 3) = true := ite1 c_10
      refine lv_iload_n hx hb dX10_note_17 rfl (lv_at hl 3 rfl) ?_
      refine lv_bipush (v := 100) hx hb dX10_note_18 (by decide) ?_
      refine kSi (b := 0) (n := 2) (As := [.int p2, .int 100]) (rest := []) ⟨hx, hb, hml, hown, hta⟩ hnw (c_within l dC dI p2 100  H.size) cd_X10_within iz_X10 ml_X10_90 st_X10_within (by decide +kernel) rfl (Nat.le_of_ble_eq_true rfl) (Nat.le_of_ble_eq_true rfl) rfl rfl (Nat.le_of_ble_eq_true rfl) (Nat.le_of_ble_eq_true rfl) hP hD hK hS hA [] [0, 1, 2, 3, 4, 5, 6, 7] [] rfl (wr := [zLF q k, zpi q k, zsz q k, zpt q k, zkd q k, zpr q k, zfo q k, zfx q k]) rfl (by decide) (by decide) (by decide) rfl hl.1 rfl (Nat.le_of_ble_eq_true rfl) dX10_note_20 (fun r15 u13 H locs hw14 hP hD hK hS => ?_)
      have hP : va_P (dC, dI) vwCl [zLF q k, zpi q k, zsz q k, zpt q k, zkd q k, zpr q k, zfo q k, zfx q k] H := hP
      have hD : va_D A [zLF q k, zpi q k, zsz q k, zpt q k, zkd q k, zpr q k, zfo q k, zfx q k] := hD
      have hK : va_K (dC, dI) vwCl [(k 20, .int), (k 21, .int), (k 22, .int), (k 23, .int), (k 24, .int), (k 25, .int)] s := hK
      obtain rfl : r15 = if inB p2 0 100 then 1 else 0 := hw14
      refine lv_if_ne (tgt := 29) hx hb dX10_note_23 (by decide) (fun c_16 => ?_) (fun c_16 => ?_)
      · have n_17 : (inB p2 0 100) = true := ite1 c_16
        refine lv_aload_n hx hb dX10_note_29 rfl (lv_at hl 0 rfl) ?_
        refine va_get (D := (dC, dI)) (ci := 9) (v := .ref (q 2)) (C := RX10) (T := TX10) (N := 15) hx hb hta inlX10 hown hK hP 0 rfl rfl 1 (by decide) (hta _ fl_X10_19) (fun _ h9 => h9) rfl dX10_note_30 ?_
        refine lv_aload_n hx hb dX10_note_33 rfl (lv_at hl 0 rfl) ?_
        refine va_get (D := (dC, dI)) (ci := 9) (v := .ref (q 2)) (C := RX10) (T := TX10) (N := 15) hx hb hta inlX10 hown hK hP 0 rfl rfl 1 (by decide) (hta _ fl_X10_19) (fun _ h9 => h9) rfl dX10_note_34 ?_
        refine va_getN (D := (dC, dI)) (ci := 4) (v := .int 0) (C := RX5) (T := TX5) (N := 7) hx hb hta inlX5 hown hK hP 1 rfl rfl 0 (by decide) (hnw.f nf_X10_94) (fun _ h9 => h9) rfl dX10_note_37 ?_
        refine lv_iload_n hx hb dX10_note_40 rfl (lv_at hl 1 rfl) ?_
        refine kVNi (b := (q 2)) (n := 2) (As := [.int 0, .int p0]) (rest := []) ⟨hx, hb, hml, hown, hta⟩ hnw (c_noteOfPitch l dC dI q k p0  H.size) cd_X5_noteOfPitch iz_X5 nm_X10_127 im_X5_noteOfPitch se_X5_X5_noteOfPitch (by decide +kernel) rfl (Nat.le_of_ble_eq_true rfl) (Nat.le_of_ble_eq_true rfl) rfl rfl (Nat.le_of_ble_eq_true rfl) (Nat.le_of_ble_eq_true rfl) hP hD hK hS hA [1, 2] [0, 3, 4, 5, 6, 7] [0] rfl (wr := [zLF q k, zpt q k, zkd q k, zpr q k, zfo q k, zfx q k]) rfl (by decide) (by decide) (by decide) rfl rfl 0 rfl hl.1 rfl (Nat.le_of_ble_eq_true rfl) dX10_note_41 (fun r20 u18 H locs hw19 hP hD hK hS => ?_)
        have hP : va_P (dC, dI) vwCl [zLF q k, zpt q k, zkd q k, zpr q k, zfo q k, zfx q k, zpi q k, zsz q k] H := hP
        have hD : va_D A [zLF q k, zpt q k, zkd q k, zpr q k, zfo q k, zfx q k, zpi q k, zsz q k] := hD
        have hK : va_K (dC, dI) vwCl [(k 20, .int), (k 21, .int), (k 22, .int), (k 23, .int), (k 24, .int), (k 25, .int), (k 20, .int)] s := hK
        obtain rfl : r20 = (-1) := hw19
        refine lv_iconst (v := (-1)) hx hb dX10_note_44 (by decide) ?_
        refine lv_icmp_eq (tgt := 51) hx hb dX10_note_45 (by decide) (fun _ => ?_) (fun c => absurd (by decide) c)
        refine lv_aload_n hx hb dX10_note_51 rfl (lv_at hl 0 rfl) ?_
        refine va_get (D := (dC, dI)) (ci := 9) (v := .ref (q 2)) (C := RX10) (T := TX10) (N := 15) hx hb hta inlX10 hown hK hP 0 rfl rfl 1 (by decide) (hta _ fl_X10_19) (fun _ h9 => h9) rfl dX10_note_52 ?_
        refine lv_iload_n hx hb dX10_note_55 rfl (lv_at hl 1 rfl) ?_
        refine lv_iload_n hx hb dX10_note_56 rfl (lv_at hl 2 rfl) ?_
        refine kVNi (b := (q 2)) (n := 2) (As := [.int p0, .int p1]) (rest := []) ⟨hx, hb, hml, hown, hta⟩ hnw (c_foreOf l dC dI q k p0 p1  H.size) cd_X5_foreOf iz_X5 nm_X10_130 im_X5_foreOf se_X5_X5_foreOf (by decide +kernel) rfl (Nat.le_of_ble_eq_true rfl) (Nat.le_of_ble_eq_true rfl) rfl rfl (Nat.le_of_ble_eq_true rfl) (Nat.le_of_ble_eq_true rfl) hP hD hK hS hA [6] [0, 1, 2, 3, 4, 5, 7] [] rfl (wr := [zLF q k, zpt q k, zkd q k, zpr q k, zfo q k, zfx q k, zsz q k]) rfl (by decide) (by decide) (by decide) rfl rfl 0 rfl hl.1 rfl (Nat.le_of_ble_eq_true rfl) dX10_note_57 (fun r23 u21 H locs hw22 hP hD hK hS => ?_)
        have hP : va_P (dC, dI) vwCl [zLF q k, zpt q k, zkd q k, zpr q k, zfo q k, zfx q k, zsz q k, zpi q k] H := hP
        have hD : va_D A [zLF q k, zpt q k, zkd q k, zpr q k, zfo q k, zfx q k, zsz q k, zpi q k] := hD
        have hK : va_K (dC, dI) vwCl [(k 20, .int), (k 21, .int), (k 22, .int), (k 23, .int), (k 24, .int), (k 25, .int), (k 20, .int)] s := hK
        obtain rfl : r23 = (-1) := hw22
        refine lv_istore (lv' := [(4, .int (-1)), (0, .ref (q 0)), (1, .int p0), (2, .int p1), (3, .int p2)]) hx hb dX10_note_60 hl (by decide) rfl (fun ls hl => ?_)
        refine lv_iload_n hx hb dX10_note_62 rfl (lv_at hl 3 rfl) ?_
        refine kSNi (b := 0) (n := 1) (As := [.int p1]) (rest := []) ⟨hx, hb, hml, hown, hta⟩ hnw (c_isTied l dC dI p1  H.size) cd_X5_isTied iz_X5 nm_X10_133 st_X5_isTied (by decide +kernel) rfl (Nat.le_of_ble_eq_true rfl) (Nat.le_of_ble_eq_true rfl) rfl rfl (Nat.le_of_ble_eq_true rfl) (Nat.le_of_ble_eq_true rfl) hP hD hK hS hA [] [0, 1, 2, 3, 4, 5, 6, 7] [] rfl (wr := [zLF q k, zpt q k, zkd q k, zpr q k, zfo q k, zfx q k, zsz q k, zpi q k]) rfl (by decide) (by decide) (by decide) rfl hl.1 rfl (Nat.le_of_ble_eq_true rfl) dX10_note_63 (fun r26 u24 H locs hw25 hP hD hK hS => ?_)
        have hP : va_P (dC, dI) vwCl [zLF q k, zpt q k, zkd q k, zpr q k, zfo q k, zfx q k, zsz q k, zpi q k] H := hP
        have hD : va_D A [zLF q k, zpt q k, zkd q k, zpr q k, zfo q k, zfx q k, zsz q k, zpi q k] := hD
        have hK : va_K (dC, dI) vwCl [(k 20, .int), (k 21, .int), (k 22, .int), (k 23, .int), (k 24, .int), (k 25, .int), (k 20, .int)] s := hK
        obtain rfl : r26 = if tiedB p1 then 1 else 0 := hw25
        refine lv_if_eq (tgt := 78) hx hb dX10_note_66 (by decide) (fun c_27 => ?_) (fun c_27 => ?_)
        · have n_28 : (tiedB p1) = false := ite0 c_27
          refine lv_aload_n hx hb dX10_note_78 rfl (lv_at hl 1 rfl) ?_
          refine va_get (D := (dC, dI)) (ci := 9) (v := .ref (q 2)) (C := RX10) (T := TX10) (N := 15) hx hb hta inlX10 hown hK hP 0 rfl rfl 1 (by decide) (hta _ fl_X10_19) (fun _ h9 => h9) rfl dX10_note_79 ?_
          refine va_getN (D := (dC, dI)) (ci := 4) (v := .ref (q 20)) (C := RX5) (T := TX5) (N := 7) hx hb hta inlX5 hown hK hP 7 rfl rfl 1 (by decide) (hnw.f nf_X10_136) (fun _ h9 => h9) rfl dX10_note_82 ?_
          refine lv_aload_n hx hb dX10_note_85 rfl (lv_at hl 1 rfl) ?_
          refine va_get (D := (dC, dI)) (ci := 9) (v := .ref (q 2)) (C := RX10) (T := TX10) (N := 15) hx hb hta inlX10 hown hK hP 0 rfl rfl 1 (by decide) (hta _ fl_X10_19) (fun _ h9 => h9) rfl dX10_note_86 ?_
          refine va_getN (D := (dC, dI)) (ci := 4) (v := .int 0) (C := RX5) (T := TX5) (N := 7) hx hb hta inlX5 hown hK hP 7 rfl rfl 0 (by decide) (hnw.f nf_X10_94) (fun _ h9 => h9) rfl dX10_note_89 ?_
          refine va_iald hx hb hK hP 6 0 rfl rfl (vin (by decide)) dX10_note_92 ?_
          refine k_top (y := 0) rfl ?_
          refine lv_iconst (v := 4) hx hb dX10_note_93 (by decide) ?_
          refine lv_icmp_lt (tgt := 100) hx hb dX10_note_94 (by decide) (fun _ => ?_) (fun c => absurd (by decide) c)
          refine lv_aload_n hx hb dX10_note_100 rfl (lv_at hl 1 rfl) ?_
          refine va_get (D := (dC, dI)) (ci := 9) (v := .ref (q 2)) (C := RX10) (T := TX10) (N := 15) hx hb hta inlX10 hown hK hP 0 rfl rfl 1 (by decide) (hta _ fl_X10_19) (fun _ h9 => h9) rfl dX10_note_101 ?_
          refine lv_iload_n hx hb dX10_note_104 rfl (lv_at hl 2 rfl) ?_
          refine lv_iload_n hx hb dX10_note_105 rfl (lv_at hl 3 rfl) ?_
          refine lv_iload_n hx hb dX10_note_106 rfl (lv_at hl 4 rfl) ?_
          refine lv_iload hx hb dX10_note_107 (lv_at hl 0 rfl) ?_
          refine lv_iconst (v := (-1)) hx hb dX10_note_109 (by decide) ?_
          refine kVNi (b := (q 2)) (n := 5) (As := [.int p0, .int p1, .int p2, .int (-1), .int (-1)]) (rest := []) ⟨hx, hb, hml, hown, hta⟩ hnw (c_addNote l dC dI q k p0 p1 p2 (-1) (-1)  H.size) cd_X5_addNote iz_X5 nm_X10_139 im_X5_addNote se_X5_X5_addNote (by decide +kernel) rfl (Nat.le_of_ble_eq_true rfl) (Nat.le_of_ble_eq_true rfl) rfl rfl (Nat.le_of_ble_eq_true rfl) (Nat.le_of_ble_eq_true rfl) hP hD hK hS hA [7, 6, 1, 2, 3, 4, 5] [0] [0, 1, 2, 3, 4, 5] rfl (wr := [zLF q k]) rfl (by decide) (by decide) (by decide) rfl rfl 0 rfl hl.1 rfl (Nat.le_of_ble_eq_true rfl) dX10_note_110 (fun r31 u29 H locs hw30 hP hD hK hS => ?_)
          have hP : va_P (dC, dI) vwCl [zLF q k] H := hP
          have hD : va_D A [zLF q k] := hD
          have hK : va_K (dC, dI) vwCl [(k 20, .int), (k 21, .int), (k 22, .int), (k 23, .int), (k 24, .int), (k 25, .int), (k 20, .int)] s := hK
          obtain rfl : r31 = 1 := hw30
          refine W.widen (k := 0) (n := 0) (Nat.le_of_ble_eq_true rfl) (Nat.le_of_ble_eq_true rfl) ?_
          exact k_iret () hx hb hr hlocks rfl P_nil D_nil (hK.sub (tys' := []) [] rfl) hS (by first | rfl | (simp [sp_note, n_6, n_12, n_17, n_28]; done) | (simp [sp_note, c_4, n_6, c_10, n_12, c_16, n_17, c_27, n_28]; done)) dX10_note_113
        · have n_32 : (tiedB p1) = true := ite1 c_27
          refine lv_iload hx hb dX10_note_69 (lv_at hl 0 rfl) ?_
          refine lv_iconst (v := (-1)) hx hb dX10_note_71 (by decide) ?_
          refine lv_icmp_ne (tgt := 78) hx hb dX10_note_72 (by decide) (fun c => absurd c (by decide)) (fun _ => ?_)
          refine lv_bipush (v := (-3)) hx hb dX10_note_75 (by decide) ?_
          refine W.widen (k := 0) (n := 0) (Nat.le_of_ble_eq_true rfl) (Nat.le_of_ble_eq_true rfl) ?_
          exact k_iret () hx hb hr hlocks rfl P_nil D_nil (hK.sub (tys' := []) [] rfl) hS (by first | rfl | (simp [sp_note, n_6, n_12, n_17, n_32]; done) | (simp [sp_note, c_4, n_6, c_10, n_12, c_16, n_17, c_27, n_32]; done)) dX10_note_77
      · have n_33 : (inB p2 0 100) = false := ite0 c_16
        refine lv_bipush (v := (-2)) hx hb dX10_note_26 (by decide) ?_
        refine W.widen (k := 0) (n := 0) (Nat.le_of_ble_eq_true rfl) (Nat.le_of_ble_eq_true rfl) ?_
        exact k_iret () hx hb hr hlocks rfl P_nil D_nil (hK.sub (tys' := []) [] rfl) hS (by first | rfl | (simp [sp_note, n_6, n_12, n_33]; done) | (simp [sp_note, c_4, n_6, c_10, n_12, c_16, n_33]; done)) dX10_note_28
set_option maxHeartbeats 4000000 in
set_option maxRecDepth 100000 in
theorem x_tick (l : Launch) (dC : Nat → ClassId) (dI : Nat → Nat → Nat) (q : Nat → Nat) (k : Nat → ClassId) (sz : Nat) : Ci l (dC, dI) yX10_tick cX10_tick 2 (some .int) { frames := 0, cells := 0, slots := 0, locals := 0 } [.ref (q 0)] [] [zLF q k, zlu q k] sz 0 0 Unit (fun r _ => r = (-3)) (fun _ => []) (fun _ => []) := by
  refine Ci_of (lv := [(0, .ref (q 0))]) (by decide) rfl rfl ?_
  intro p e s m below meth c A ls hx hb hml hr hown hta hlocks hnm hnw hP hD hK hS hA hl
  have hown : s.vm.findClass RX10 = some m.cls := hown
  refine lv_aload_n hx hb dX10_tick_0 rfl (lv_at hl 0 rfl) ?_
  refine va_get (D := (dC, dI)) (ci := 9) (v := .ref (q 1)) (C := RX10) (T := TX10) (N := 15) hx hb hta inlX10 hown hK hP 0 rfl rfl 0 (by decide) (hta _ fl_X10_10) (fun _ h9 => h9) rfl dX10_tick_1 ?_
  refine va_getN (D := (dC, dI)) (ci := 3) (v := .int 0) (C := RX4) (T := TX4) (N := 7) hx hb hta inlX4 hown hK hP 1 rfl rfl 0 (by decide) (hnw.f nf_X10_97) (fun _ h9 => h9) rfl dX10_tick_4 ?_
  refine lv_if_ne (tgt := 13) hx hb dX10_tick_7 (by decide) (fun c => absurd c (by decide)) (fun _ => ?_)
  refine lv_bipush (v := (-3)) hx hb dX10_tick_10 (by decide) ?_
  refine W.widen (k := 0) (n := 0) (Nat.le_of_ble_eq_true rfl) (Nat.le_of_ble_eq_true rfl) ?_
  exact k_iret () hx hb hr hlocks rfl P_nil D_nil (hK.sub (tys' := []) [] rfl) hS rfl dX10_tick_12
set_option maxHeartbeats 4000000 in
set_option maxRecDepth 100000 in
theorem x_clear (l : Launch) (dC : Nat → ClassId) (dI : Nat → Nat → Nat) (q : Nat → Nat) (k : Nat → ClassId) (sz : Nat) : Ci l (dC, dI) yX10_clear cX10_clear 2 (some .int) { frames := 2, cells := 0, slots := 0, locals := 43 } [.ref (q 0)] [(k 32, .int), (k 20, .int)] [zLF q k, zpi q k, zwl q k, zbk q k, zbs q k, zsz q k] sz 0 0 Unit (fun r _ => r = 0) (fun _ => []) (fun _ => []) := by
  refine Ci_of (lv := [(0, .ref (q 0))]) (by decide) rfl rfl ?_
  intro p e s m below meth c A ls hx hb hml hr hown hta hlocks hnm hnw hP hD hK hS hA hl
  have hown : s.vm.findClass RX10 = some m.cls := hown
  refine lv_aload_n hx hb dX10_clear_0 rfl (lv_at hl 0 rfl) ?_
  refine kVv (b := (q 0)) (n := 0) (As := []) (rest := []) ⟨hx, hb, hml, hown, hta⟩ hnw (c_forgetAnswers l dC dI q k  s.heap.size) cd_X10_forgetAnswers iz_X10 ml_X10_143 im_X10_forgetAnswers se_X10_X10_forgetAnswers (by decide +kernel) rfl (Nat.le_of_ble_eq_true rfl) (Nat.le_of_ble_eq_true rfl) rfl rfl (Nat.le_of_ble_eq_true rfl) (Nat.le_of_ble_eq_true rfl) hP hD hK hS hA [0, 2] [1, 3, 4, 5] [] rfl (wr := [zpi q k, zbk q k, zbs q k, zsz q k]) rfl (by decide) (by decide) (by decide) rfl rfl 0 rfl hl.1 rfl (Nat.le_of_ble_eq_true rfl) dX10_clear_1 (fun u1 H locs hw2 hP hD hK hS => ?_)
  have hP : va_P (dC, dI) vwCl [zpi q k, zbk q k, zbs q k, zsz q k, zLF q k] H := hP
  have hD : va_D A [zpi q k, zbk q k, zbs q k, zsz q k, zLF q k] := hD
  have hK : va_K (dC, dI) vwCl [(k 32, .int), (k 20, .int)] s := hK
  refine lv_aload_n hx hb dX10_clear_4 rfl (lv_at hl 0 rfl) ?_
  refine va_get (D := (dC, dI)) (ci := 9) (v := .ref (q 2)) (C := RX10) (T := TX10) (N := 15) hx hb hta inlX10 hown hK hP 4 rfl rfl 1 (by decide) (hta _ fl_X10_19) (fun _ h9 => h9) rfl dX10_clear_5 ?_
  refine va_getN (D := (dC, dI)) (ci := 4) (v := .int 0) (C := RX5) (T := TX5) (N := 7) hx hb hta inlX5 hown hK hP 0 rfl rfl 0 (by decide) (hnw.f nf_X10_94) (fun _ h9 => h9) rfl dX10_clear_8 ?_
  refine lv_istore_n (lv' := [(1, .int 0), (0, .ref (q 0))]) hx hb dX10_clear_11 rfl hl (by decide) rfl (fun ls hl => ?_)
  refine lv_aload_n hx hb dX10_clear_12 rfl (lv_at hl 1 rfl) ?_
  refine va_get (D := (dC, dI)) (ci := 9) (v := .ref (q 2)) (C := RX10) (T := TX10) (N := 15) hx hb hta inlX10 hown hK hP 4 rfl rfl 1 (by decide) (hta _ fl_X10_19) (fun _ h9 => h9) rfl dX10_clear_13 ?_
  refine kVNv (b := (q 2)) (n := 0) (As := []) (rest := []) ⟨hx, hb, hml, hown, hta⟩ hnw (c_removeAll l dC dI q k  H.size) cd_X5_removeAll iz_X5 nm_X10_154 im_X5_removeAll se_X5_X5_removeAll (by decide +kernel) rfl (Nat.le_of_ble_eq_true rfl) (Nat.le_of_ble_eq_true rfl) rfl rfl (Nat.le_of_ble_eq_true rfl) (Nat.le_of_ble_eq_true rfl) hP hD hK hS hA [0, 3] [1, 2, 4] [1] rfl (wr := [zbk q k, zbs q k, zLF q k]) rfl (by decide) (by decide) (by decide) rfl rfl 0 rfl hl.1 rfl (Nat.le_of_ble_eq_true rfl) dX10_clear_16 (fun u4 H locs hw5 hP hD hK hS => ?_)
  have hP : va_P (dC, dI) vwCl [zbk q k, zbs q k, zLF q k] H := hP
  have hD : va_D A [zbk q k, zbs q k, zLF q k] := hD
  have hK : va_K (dC, dI) vwCl [(k 32, .int), (k 20, .int)] s := hK
  refine lv_aload_n hx hb dX10_clear_19 rfl (lv_at hl 1 rfl) ?_
  refine va_get (D := (dC, dI)) (ci := 9) (v := .ref (q 5)) (C := RX10) (T := TX10) (N := 15) hx hb hta inlX10 hown hK hP 2 rfl rfl 4 (by decide) (hta _ fl_X10_44) (fun _ h9 => h9) rfl dX10_clear_20 ?_
  refine kVNv (b := (q 5)) (n := 0) (As := []) (rest := []) ⟨hx, hb, hml, hown, hta⟩ hnw (c_forgetAll l dC dI q k  H.size) cd_X2_forgetAll iz_X2 nm_X10_157 im_X2_forgetAll se_X2_X2_forgetAll (by decide +kernel) rfl (Nat.le_of_ble_eq_true rfl) (Nat.le_of_ble_eq_true rfl) rfl rfl (Nat.le_of_ble_eq_true rfl) (Nat.le_of_ble_eq_true rfl) hP hD hK hS hA [0, 1] [2] [0] rfl (wr := [zLF q k]) rfl (by decide) (by decide) (by decide) rfl rfl 0 rfl hl.1 rfl (Nat.le_of_ble_eq_true rfl) dX10_clear_23 (fun u7 H locs hw8 hP hD hK hS => ?_)
  have hP : va_P (dC, dI) vwCl [zLF q k] H := hP
  have hD : va_D A [zLF q k] := hD
  have hK : va_K (dC, dI) vwCl [(k 32, .int), (k 20, .int)] s := hK
  refine lv_iload_n hx hb dX10_clear_26 rfl (lv_at hl 0 rfl) ?_
  refine W.widen (k := 0) (n := 0) (Nat.le_of_ble_eq_true rfl) (Nat.le_of_ble_eq_true rfl) ?_
  exact k_iret () hx hb hr hlocks rfl P_nil D_nil (hK.sub (tys' := []) [] rfl) hS rfl dX10_clear_27
set_option maxHeartbeats 4000000 in
set_option maxRecDepth 100000 in
theorem x_fix (l : Launch) (dC : Nat → ClassId) (dI : Nat → Nat → Nat) (q : Nat → Nat) (k : Nat → ClassId) (p0 : Int32) (p1 : Int32) (p2 : Int32) (sz : Nat) : Ci l (dC, dI) yX10_fix cX10_fix 4 (some .int) { frames := 2, cells := 0, slots := 0, locals := 43 } [.ref (q 0), .int p0, .int p1, .int p2] [] [zLF q k, zpi q k] sz 0 0 Unit (fun r _ => r = (-1)) (fun _ => []) (fun _ => []) := by
  refine Ci_of (lv := [(0, .ref (q 0)), (1, .int p0), (2, .int p1), (3, .int p2)]) (by decide) rfl rfl ?_
  intro p e s m below meth c A ls hx hb hml hr hown hta hlocks hnm hnw hP hD hK hS hA hl
  have hown : s.vm.findClass RX10 = some m.cls := hown
  refine lv_aload_n hx hb dX10_fix_0 rfl (lv_at hl 0 rfl) ?_
  refine va_get (D := (dC, dI)) (ci := 9) (v := .ref (q 2)) (C := RX10) (T := TX10) (N := 15) hx hb hta inlX10 hown hK hP 0 rfl rfl 1 (by decide) (hta _ fl_X10_19) (fun _ h9 => h9) rfl dX10_fix_1 ?_
  refine lv_iload_n hx hb dX10_fix_4 rfl (lv_at hl 1 rfl) ?_
  refine lv_iload_n hx hb dX10_fix_5 rfl (lv_at hl 2 rfl) ?_
  refine kVNi (b := (q 2)) (n := 2) (As := [.int p0, .int p1]) (rest := []) ⟨hx, hb, hml, hown, hta⟩ hnw (c_hasNote l dC dI q k p0 p1  s.heap.size) cd_X5_hasNote iz_X5 nm_X10_160 im_X5_hasNote se_X5_X5_hasNote (by decide +kernel) rfl (Nat.le_of_ble_eq_true rfl) (Nat.le_of_ble_eq_true rfl) rfl rfl (Nat.le_of_ble_eq_true rfl) (Nat.le_of_ble_eq_true rfl) hP hD hK hS hA [1] [0] [] rfl (wr := [zLF q k]) rfl (by decide) (by decide) (by decide) rfl rfl 0 rfl hl.1 rfl (Nat.le_of_ble_eq_true rfl) dX10_fix_6 (fun r3 u1 H locs hw2 hP hD hK hS => ?_)
  have hP : va_P (dC, dI) vwCl [zLF q k] H := hP
  have hD : va_D A [zLF q k] := hD
  have hK : va_K (dC, dI) vwCl [] s := hK
  obtain rfl : r3 = 0 := hw2
  refine lv_if_ne (tgt := 14) hx hb dX10_fix_9 (by decide) (fun c => absurd c (by decide)) (fun _ => ?_)
  refine lv_iconst (v := (-1)) hx hb dX10_fix_12 (by decide) ?_
  refine W.widen (k := 0) (n := 0) (Nat.le_of_ble_eq_true rfl) (Nat.le_of_ble_eq_true rfl) ?_
  exact k_iret () hx hb hr hlocks rfl P_nil D_nil (hK.sub (tys' := []) [] rfl) hS rfl dX10_fix_13
set_option maxHeartbeats 4000000 in
set_option maxRecDepth 100000 in
theorem x_told (l : Launch) (dC : Nat → ClassId) (dI : Nat → Nat → Nat) (q : Nat → Nat) (k : Nat → ClassId) (p0 : Int32) (p1 : Int32) (p2 : Int32) (sz : Nat) : Ci l (dC, dI) yX10_told cX10_told 5 (some .int) { frames := 2, cells := 0, slots := 0, locals := 43 } [.ref (q 0), .int p0, .int p1, .int p2] [] [zLF q k, zpi q k] sz 0 0 Unit (fun r _ => r = (-1)) (fun _ => []) (fun _ => []) := by
  refine Ci_of (lv := [(0, .ref (q 0)), (1, .int p0), (2, .int p1), (3, .int p2)]) (by decide) rfl rfl ?_
  intro p e s m below meth c A ls hx hb hml hr hown hta hlocks hnm hnw hP hD hK hS hA hl
  have hown : s.vm.findClass RX10 = some m.cls := hown
  refine lv_aload_n hx hb dX10_told_0 rfl (lv_at hl 0 rfl) ?_
  refine va_get (D := (dC, dI)) (ci := 9) (v := .ref (q 2)) (C := RX10) (T := TX10) (N := 15) hx hb hta inlX10 hown hK hP 0 rfl rfl 1 (by decide) (hta _ fl_X10_19) (fun _ h9 => h9) rfl dX10_told_1 ?_
  refine lv_iload_n hx hb dX10_told_4 rfl (lv_at hl 1 rfl) ?_
  refine lv_iload_n hx hb dX10_told_5 rfl (lv_at hl 2 rfl) ?_
  refine kVNi (b := (q 2)) (n := 2) (As := [.int p0, .int p1]) (rest := []) ⟨hx, hb, hml, hown, hta⟩ hnw (c_hasNote l dC dI q k p0 p1  s.heap.size) cd_X5_hasNote iz_X5 nm_X10_160 im_X5_hasNote se_X5_X5_hasNote (by decide +kernel) rfl (Nat.le_of_ble_eq_true rfl) (Nat.le_of_ble_eq_true rfl) rfl rfl (Nat.le_of_ble_eq_true rfl) (Nat.le_of_ble_eq_true rfl) hP hD hK hS hA [1] [0] [] rfl (wr := [zLF q k]) rfl (by decide) (by decide) (by decide) rfl rfl 0 rfl hl.1 rfl (Nat.le_of_ble_eq_true rfl) dX10_told_6 (fun r3 u1 H locs hw2 hP hD hK hS => ?_)
  have hP : va_P (dC, dI) vwCl [zLF q k] H := hP
  have hD : va_D A [zLF q k] := hD
  have hK : va_K (dC, dI) vwCl [] s := hK
  obtain rfl : r3 = 0 := hw2
  refine lv_if_ne (tgt := 14) hx hb dX10_told_9 (by decide) (fun c => absurd c (by decide)) (fun _ => ?_)
  refine lv_iconst (v := (-1)) hx hb dX10_told_12 (by decide) ?_
  refine W.widen (k := 0) (n := 0) (Nat.le_of_ble_eq_true rfl) (Nat.le_of_ble_eq_true rfl) ?_
  exact k_iret () hx hb hr hlocks rfl P_nil D_nil (hK.sub (tys' := []) [] rfl) hS rfl dX10_told_13
set_option maxHeartbeats 4000000 in
set_option maxRecDepth 100000 in
theorem x_grips (l : Launch) (dC : Nat → ClassId) (dI : Nat → Nat → Nat) (q : Nat → Nat) (k : Nat → ClassId) (p0 : Int32) (sz : Nat) : Ci l (dC, dI) yX10_grips cX10_grips 2 (some .int) { frames := 1, cells := 0, slots := 0, locals := 21 } [.ref (q 0), .int p0] [] [zLF q k, zpi q k] sz 0 0 Unit (fun r _ => r = (-1)) (fun _ => []) (fun _ => []) := by
  refine Ci_of (lv := [(0, .ref (q 0)), (1, .int p0)]) (by decide) rfl rfl ?_
  intro p e s m below meth c A ls hx hb hml hr hown hta hlocks hnm hnw hP hD hK hS hA hl
  have hown : s.vm.findClass RX10 = some m.cls := hown
  refine lv_aload_n hx hb dX10_grips_0 rfl (lv_at hl 0 rfl) ?_
  refine va_get (D := (dC, dI)) (ci := 9) (v := .ref (q 2)) (C := RX10) (T := TX10) (N := 15) hx hb hta inlX10 hown hK hP 0 rfl rfl 1 (by decide) (hta _ fl_X10_19) (fun _ h9 => h9) rfl dX10_grips_1 ?_
  refine lv_iload_n hx hb dX10_grips_4 rfl (lv_at hl 1 rfl) ?_
  refine kVNi (b := (q 2)) (n := 1) (As := [.int p0]) (rest := []) ⟨hx, hb, hml, hown, hta⟩ hnw (c_hasTick l dC dI q k p0  s.heap.size) cd_X5_hasTick iz_X5 nm_X10_178 im_X5_hasTick se_X5_X5_hasTick (by decide +kernel) rfl (Nat.le_of_ble_eq_true rfl) (Nat.le_of_ble_eq_true rfl) rfl rfl (Nat.le_of_ble_eq_true rfl) (Nat.le_of_ble_eq_true rfl) hP hD hK hS hA [1] [0] [] rfl (wr := [zLF q k]) rfl (by decide) (by decide) (by decide) rfl rfl 0 rfl hl.1 rfl (Nat.le_of_ble_eq_true rfl) dX10_grips_5 (fun r3 u1 H locs hw2 hP hD hK hS => ?_)
  have hP : va_P (dC, dI) vwCl [zLF q k] H := hP
  have hD : va_D A [zLF q k] := hD
  have hK : va_K (dC, dI) vwCl [] s := hK
  obtain rfl : r3 = 0 := hw2
  refine lv_if_ne (tgt := 13) hx hb dX10_grips_8 (by decide) (fun c => absurd c (by decide)) (fun _ => ?_)
  refine lv_iconst (v := (-1)) hx hb dX10_grips_11 (by decide) ?_
  refine W.widen (k := 0) (n := 0) (Nat.le_of_ble_eq_true rfl) (Nat.le_of_ble_eq_true rfl) ?_
  exact k_iret () hx hb hr hlocks rfl P_nil D_nil (hK.sub (tys' := []) [] rfl) hS rfl dX10_grips_12
set_option maxHeartbeats 4000000 in
set_option maxRecDepth 100000 in
theorem x_grip (l : Launch) (dC : Nat → ClassId) (dI : Nat → Nat → Nat) (q : Nat → Nat) (k : Nat → ClassId) (p0 : Int32) (p1 : Int32) (p2 : Int32) (p3 : Int32) (sz : Nat) : Ci l (dC, dI) yX10_grip cX10_grip 7 (some .int) { frames := 1, cells := 0, slots := 0, locals := 21 } [.ref (q 0), .int p0, .int p1, .int p2, .int p3] [] [zLF q k, zpi q k] sz 0 0 Unit (fun r _ => r = (-1)) (fun _ => []) (fun _ => []) := by
  refine Ci_of (lv := [(0, .ref (q 0)), (1, .int p0), (2, .int p1), (3, .int p2), (4, .int p3)]) (by decide) rfl rfl ?_
  intro p e s m below meth c A ls hx hb hml hr hown hta hlocks hnm hnw hP hD hK hS hA hl
  have hown : s.vm.findClass RX10 = some m.cls := hown
  refine lv_aload_n hx hb dX10_grip_0 rfl (lv_at hl 0 rfl) ?_
  refine va_get (D := (dC, dI)) (ci := 9) (v := .ref (q 2)) (C := RX10) (T := TX10) (N := 15) hx hb hta inlX10 hown hK hP 0 rfl rfl 1 (by decide) (hta _ fl_X10_19) (fun _ h9 => h9) rfl dX10_grip_1 ?_
  refine lv_iload_n hx hb dX10_grip_4 rfl (lv_at hl 1 rfl) ?_
  refine kVNi (b := (q 2)) (n := 1) (As := [.int p0]) (rest := []) ⟨hx, hb, hml, hown, hta⟩ hnw (c_hasTick l dC dI q k p0  s.heap.size) cd_X5_hasTick iz_X5 nm_X10_178 im_X5_hasTick se_X5_X5_hasTick (by decide +kernel) rfl (Nat.le_of_ble_eq_true rfl) (Nat.le_of_ble_eq_true rfl) rfl rfl (Nat.le_of_ble_eq_true rfl) (Nat.le_of_ble_eq_true rfl) hP hD hK hS hA [1] [0] [] rfl (wr := [zLF q k]) rfl (by decide) (by decide) (by decide) rfl rfl 0 rfl hl.1 rfl (Nat.le_of_ble_eq_true rfl) dX10_grip_5 (fun r3 u1 H locs hw2 hP hD hK hS => ?_)
  have hP : va_P (dC, dI) vwCl [zLF q k] H := hP
  have hD : va_D A [zLF q k] := hD
  have hK : va_K (dC, dI) vwCl [] s := hK
  obtain rfl : r3 = 0 := hw2
  refine lv_if_ne (tgt := 13) hx hb dX10_grip_8 (by decide) (fun c => absurd c (by decide)) (fun _ => ?_)
  refine lv_iconst (v := (-1)) hx hb dX10_grip_11 (by decide) ?_
  refine W.widen (k := 0) (n := 0) (Nat.le_of_ble_eq_true rfl) (Nat.le_of_ble_eq_true rfl) ?_
  exact k_iret () hx hb hr hlocks rfl P_nil D_nil (hK.sub (tys' := []) [] rfl) hS rfl dX10_grip_12
set_option maxHeartbeats 4000000 in
set_option maxRecDepth 100000 in
theorem x_why (l : Launch) (dC : Nat → ClassId) (dI : Nat → Nat → Nat) (q : Nat → Nat) (k : Nat → ClassId) (p0 : Int32) (sz : Nat) : Ci l (dC, dI) yX10_why cX10_why 7 (some .int) { frames := 1, cells := 0, slots := 0, locals := 21 } [.ref (q 0), .int p0] [] [zLF q k, zpi q k] sz 0 0 Unit (fun r _ => r = (-1)) (fun _ => []) (fun _ => []) := by
  refine Ci_of (lv := [(0, .ref (q 0)), (1, .int p0)]) (by decide) rfl rfl ?_
  intro p e s m below meth c A ls hx hb hml hr hown hta hlocks hnm hnw hP hD hK hS hA hl
  have hown : s.vm.findClass RX10 = some m.cls := hown
  refine lv_aload_n hx hb dX10_why_0 rfl (lv_at hl 0 rfl) ?_
  refine va_get (D := (dC, dI)) (ci := 9) (v := .ref (q 2)) (C := RX10) (T := TX10) (N := 15) hx hb hta inlX10 hown hK hP 0 rfl rfl 1 (by decide) (hta _ fl_X10_19) (fun _ h9 => h9) rfl dX10_why_1 ?_
  refine lv_iload_n hx hb dX10_why_4 rfl (lv_at hl 1 rfl) ?_
  refine kVNi (b := (q 2)) (n := 1) (As := [.int p0]) (rest := []) ⟨hx, hb, hml, hown, hta⟩ hnw (c_hasTick l dC dI q k p0  s.heap.size) cd_X5_hasTick iz_X5 nm_X10_178 im_X5_hasTick se_X5_X5_hasTick (by decide +kernel) rfl (Nat.le_of_ble_eq_true rfl) (Nat.le_of_ble_eq_true rfl) rfl rfl (Nat.le_of_ble_eq_true rfl) (Nat.le_of_ble_eq_true rfl) hP hD hK hS hA [1] [0] [] rfl (wr := [zLF q k]) rfl (by decide) (by decide) (by decide) rfl rfl 0 rfl hl.1 rfl (Nat.le_of_ble_eq_true rfl) dX10_why_5 (fun r3 u1 H locs hw2 hP hD hK hS => ?_)
  have hP : va_P (dC, dI) vwCl [zLF q k] H := hP
  have hD : va_D A [zLF q k] := hD
  have hK : va_K (dC, dI) vwCl [] s := hK
  obtain rfl : r3 = 0 := hw2
  refine lv_if_ne (tgt := 13) hx hb dX10_why_8 (by decide) (fun c => absurd c (by decide)) (fun _ => ?_)
  refine lv_iconst (v := (-1)) hx hb dX10_why_11 (by decide) ?_
  refine W.widen (k := 0) (n := 0) (Nat.le_of_ble_eq_true rfl) (Nat.le_of_ble_eq_true rfl) ?_
  exact k_iret () hx hb hr hlocks rfl P_nil D_nil (hK.sub (tys' := []) [] rfl) hS rfl dX10_why_12
set_option maxHeartbeats 4000000 in
set_option maxRecDepth 100000 in
theorem x_way (l : Launch) (dC : Nat → ClassId) (dI : Nat → Nat → Nat) (q : Nat → Nat) (k : Nat → ClassId) (sz : Nat) : Ci l (dC, dI) yX10_way cX10_way 2 (some .int) { frames := 0, cells := 0, slots := 0, locals := 0 } [.ref (q 0)] [] [zLF q k, zpi q k] sz 0 0 Unit (fun r _ => r = (-3)) (fun _ => []) (fun _ => []) := by
  refine Ci_of (lv := [(0, .ref (q 0))]) (by decide) rfl rfl ?_
  intro p e s m below meth c A ls hx hb hml hr hown hta hlocks hnm hnw hP hD hK hS hA hl
  have hown : s.vm.findClass RX10 = some m.cls := hown
  refine lv_aload_n hx hb dX10_way_0 rfl (lv_at hl 0 rfl) ?_
  refine va_get (D := (dC, dI)) (ci := 9) (v := .ref (q 2)) (C := RX10) (T := TX10) (N := 15) hx hb hta inlX10 hown hK hP 0 rfl rfl 1 (by decide) (hta _ fl_X10_19) (fun _ h9 => h9) rfl dX10_way_1 ?_
  refine va_getN (D := (dC, dI)) (ci := 4) (v := .int 0) (C := RX5) (T := TX5) (N := 7) hx hb hta inlX5 hown hK hP 1 rfl rfl 0 (by decide) (hnw.f nf_X10_94) (fun _ h9 => h9) rfl dX10_way_4 ?_
  refine lv_if_ne (tgt := 13) hx hb dX10_way_7 (by decide) (fun c => absurd c (by decide)) (fun _ => ?_)
  refine lv_bipush (v := (-3)) hx hb dX10_way_10 (by decide) ?_
  refine W.widen (k := 0) (n := 0) (Nat.le_of_ble_eq_true rfl) (Nat.le_of_ble_eq_true rfl) ?_
  exact k_iret () hx hb hr hlocks rfl P_nil D_nil (hK.sub (tys' := []) [] rfl) hS rfl dX10_way_12
set_option maxHeartbeats 4000000 in
set_option maxRecDepth 100000 in
theorem x_next (l : Launch) (dC : Nat → ClassId) (dI : Nat → Nat → Nat) (q : Nat → Nat) (k : Nat → ClassId) (sz : Nat) : Ci l (dC, dI) yX10_next cX10_next 1 (some .int) { frames := 1, cells := 0, slots := 0, locals := 20 } [.ref (q 0)] [] [zLF q k, zwl q k] sz 0 0 Unit (fun r _ => r = (-3)) (fun _ => []) (fun _ => []) := by
  refine Ci_of (lv := [(0, .ref (q 0))]) (by decide) rfl rfl ?_
  intro p e s m below meth c A ls hx hb hml hr hown hta hlocks hnm hnw hP hD hK hS hA hl
  have hown : s.vm.findClass RX10 = some m.cls := hown
  refine lv_aload_n hx hb dX10_next_0 rfl (lv_at hl 0 rfl) ?_
  refine va_get (D := (dC, dI)) (ci := 9) (v := .ref (q 8)) (C := RX10) (T := TX10) (N := 15) hx hb hta inlX10 hown hK hP 0 rfl rfl 7 (by decide) (hta _ fl_X10_61) (fun _ h9 => h9) rfl dX10_next_1 ?_
  refine kVNi (b := (q 8)) (n := 0) (As := []) (rest := []) ⟨hx, hb, hml, hown, hta⟩ hnw (c_atHand l dC dI q k  s.heap.size) cd_X8_atHand iz_X8 nm_X10_214 im_X8_atHand se_X8_X8_atHand (by decide +kernel) rfl (Nat.le_of_ble_eq_true rfl) (Nat.le_of_ble_eq_true rfl) rfl rfl (Nat.le_of_ble_eq_true rfl) (Nat.le_of_ble_eq_true rfl) hP hD hK hS hA [1] [0] [] rfl (wr := [zLF q k]) rfl (by decide) (by decide) (by decide) rfl rfl 0 rfl hl.1 rfl (Nat.le_of_ble_eq_true rfl) dX10_next_4 (fun r3 u1 H locs hw2 hP hD hK hS => ?_)
  have hP : va_P (dC, dI) vwCl [zLF q k] H := hP
  have hD : va_D A [zLF q k] := hD
  have hK : va_K (dC, dI) vwCl [] s := hK
  obtain rfl : r3 = 0 := hw2
  refine lv_if_eq (tgt := 22) hx hb dX10_next_7 (by decide) (fun _ => ?_) (fun c => absurd (by decide) c)
  refine lv_bipush (v := (-3)) hx hb dX10_next_22 (by decide) ?_
  refine W.widen (k := 0) (n := 0) (Nat.le_of_ble_eq_true rfl) (Nat.le_of_ble_eq_true rfl) ?_
  exact k_iret () hx hb hr hlocks rfl P_nil D_nil (hK.sub (tys' := []) [] rfl) hS rfl dX10_next_24
set_option maxHeartbeats 4000000 in
set_option maxRecDepth 100000 in
theorem x_at (l : Launch) (dC : Nat → ClassId) (dI : Nat → Nat → Nat) (q : Nat → Nat) (k : Nat → ClassId) (p0 : Int32) (sz : Nat) : Ci l (dC, dI) yX10_at cX10_at 2 (some .int) { frames := 1, cells := 0, slots := 0, locals := 21 } [.ref (q 0), .int p0] [] [zLF q k, zpi q k] sz 0 0 Unit (fun r _ => r = (-1)) (fun _ => []) (fun _ => []) := by
  refine Ci_of (lv := [(0, .ref (q 0)), (1, .int p0)]) (by decide) rfl rfl ?_
  intro p e s m below meth c A ls hx hb hml hr hown hta hlocks hnm hnw hP hD hK hS hA hl
  have hown : s.vm.findClass RX10 = some m.cls := hown
  refine lv_aload_n hx hb dX10_at_0 rfl (lv_at hl 0 rfl) ?_
  refine va_get (D := (dC, dI)) (ci := 9) (v := .ref (q 2)) (C := RX10) (T := TX10) (N := 15) hx hb hta inlX10 hown hK hP 0 rfl rfl 1 (by decide) (hta _ fl_X10_19) (fun _ h9 => h9) rfl dX10_at_1 ?_
  refine lv_iload_n hx hb dX10_at_4 rfl (lv_at hl 1 rfl) ?_
  refine kVNi (b := (q 2)) (n := 1) (As := [.int p0]) (rest := []) ⟨hx, hb, hml, hown, hta⟩ hnw (c_hasTick l dC dI q k p0  s.heap.size) cd_X5_hasTick iz_X5 nm_X10_178 im_X5_hasTick se_X5_X5_hasTick (by decide +kernel) rfl (Nat.le_of_ble_eq_true rfl) (Nat.le_of_ble_eq_true rfl) rfl rfl (Nat.le_of_ble_eq_true rfl) (Nat.le_of_ble_eq_true rfl) hP hD hK hS hA [1] [0] [] rfl (wr := [zLF q k]) rfl (by decide) (by decide) (by decide) rfl rfl 0 rfl hl.1 rfl (Nat.le_of_ble_eq_true rfl) dX10_at_5 (fun r3 u1 H locs hw2 hP hD hK hS => ?_)
  have hP : va_P (dC, dI) vwCl [zLF q k] H := hP
  have hD : va_D A [zLF q k] := hD
  have hK : va_K (dC, dI) vwCl [] s := hK
  obtain rfl : r3 = 0 := hw2
  refine lv_if_eq (tgt := 21) hx hb dX10_at_8 (by decide) (fun _ => ?_) (fun c => absurd (by decide) c)
  refine lv_iconst (v := (-1)) hx hb dX10_at_21 (by decide) ?_
  refine W.widen (k := 0) (n := 0) (Nat.le_of_ble_eq_true rfl) (Nat.le_of_ble_eq_true rfl) ?_
  exact k_iret () hx hb hr hlocks rfl P_nil D_nil (hK.sub (tys' := []) [] rfl) hS rfl dX10_at_22
set_option maxHeartbeats 4000000 in
set_option maxRecDepth 100000 in
theorem x_rank (l : Launch) (dC : Nat → ClassId) (dI : Nat → Nat → Nat) (q : Nat → Nat) (k : Nat → ClassId) (p0 : Int32) (sz : Nat) : Ci l (dC, dI) yX10_rank cX10_rank 4 (some .int) { frames := 1, cells := 0, slots := 0, locals := 20 } [.ref (q 0), .int p0] [] [zLF q k, zwl q k] sz 0 0 Unit (fun r _ => r = (-3)) (fun _ => []) (fun _ => []) := by
  refine Ci_of (lv := [(0, .ref (q 0)), (1, .int p0)]) (by decide) rfl rfl ?_
  intro p e s m below meth c A ls hx hb hml hr hown hta hlocks hnm hnw hP hD hK hS hA hl
  have hown : s.vm.findClass RX10 = some m.cls := hown
  refine lv_aload_n hx hb dX10_rank_0 rfl (lv_at hl 0 rfl) ?_
  refine va_get (D := (dC, dI)) (ci := 9) (v := .ref (q 8)) (C := RX10) (T := TX10) (N := 15) hx hb hta inlX10 hown hK hP 0 rfl rfl 7 (by decide) (hta _ fl_X10_61) (fun _ h9 => h9) rfl dX10_rank_1 ?_
  refine kVNi (b := (q 8)) (n := 0) (As := []) (rest := []) ⟨hx, hb, hml, hown, hta⟩ hnw (c_atHand l dC dI q k  s.heap.size) cd_X8_atHand iz_X8 nm_X10_214 im_X8_atHand se_X8_X8_atHand (by decide +kernel) rfl (Nat.le_of_ble_eq_true rfl) (Nat.le_of_ble_eq_true rfl) rfl rfl (Nat.le_of_ble_eq_true rfl) (Nat.le_of_ble_eq_true rfl) hP hD hK hS hA [1] [0] [] rfl (wr := [zLF q k]) rfl (by decide) (by decide) (by decide) rfl rfl 0 rfl hl.1 rfl (Nat.le_of_ble_eq_true rfl) dX10_rank_4 (fun r3 u1 H locs hw2 hP hD hK hS => ?_)
  have hP : va_P (dC, dI) vwCl [zLF q k] H := hP
  have hD : va_D A [zLF q k] := hD
  have hK : va_K (dC, dI) vwCl [] s := hK
  obtain rfl : r3 = 0 := hw2
  refine lv_if_ne (tgt := 13) hx hb dX10_rank_7 (by decide) (fun c => absurd c (by decide)) (fun _ => ?_)
  refine lv_bipush (v := (-3)) hx hb dX10_rank_10 (by decide) ?_
  refine W.widen (k := 0) (n := 0) (Nat.le_of_ble_eq_true rfl) (Nat.le_of_ble_eq_true rfl) ?_
  exact k_iret () hx hb hr hlocks rfl P_nil D_nil (hK.sub (tys' := []) [] rfl) hS rfl dX10_rank_12
set_option maxHeartbeats 4000000 in
set_option maxRecDepth 100000 in
theorem x_say (l : Launch) (dC : Nat → ClassId) (dI : Nat → Nat → Nat) (q : Nat → Nat) (k : Nat → ClassId) (p0 : Int32) (sz : Nat) : Ci l (dC, dI) yX10_say cX10_say 2 (some .int) { frames := 0, cells := 0, slots := 0, locals := 0 } [.ref (q 0), .int p0] [(k 9, .int)] [zLF q k, zrw q k] sz 0 0 Unit (fun r _ => r = sp_say p0) (fun _ => []) (fun _ => []) := by
  refine Ci_of (lv := [(0, .ref (q 0)), (1, .int p0)]) (by decide) rfl rfl ?_
  intro p e s m below meth c A ls hx hb hml hr hown hta hlocks hnm hnw hP hD hK hS hA hl
  have hown : s.vm.findClass RX10 = some m.cls := hown
  refine lv_iload_n hx hb dX10_say_0 rfl (lv_at hl 1 rfl) ?_
  refine lv_if_ge (tgt := 7) hx hb dX10_say_1 (by decide) (fun c_1 => ?_) (fun c_1 => ?_)
  · refine lv_aload_n hx hb dX10_say_7 rfl (lv_at hl 0 rfl) ?_
    refine va_get (D := (dC, dI)) (ci := 9) (v := .int 0) (C := RX10) (T := TX10) (N := 15) hx hb hta inlX10 hown hK hP 0 rfl rfl 9 (by decide) (hta _ fl_X10_69) (fun _ h9 => h9) rfl dX10_say_8 ?_
    refine lv_bipush (v := 16) hx hb dX10_say_11 (by decide) ?_
    refine lv_icmp_lt (tgt := 19) hx hb dX10_say_13 (by decide) (fun _ => ?_) (fun c => absurd (by decide) c)
    refine lv_aload_n hx hb dX10_say_19 rfl (lv_at hl 0 rfl) ?_
    refine va_get (D := (dC, dI)) (ci := 9) (v := .ref (q 9)) (C := RX10) (T := TX10) (N := 15) hx hb hta inlX10 hown hK hP 0 rfl rfl 8 (by decide) (hta _ fl_X10_65) (fun _ h9 => h9) rfl dX10_say_20 ?_
    refine lv_aload_n hx hb dX10_say_23 rfl (lv_at hl 0 rfl) ?_
    refine va_get (D := (dC, dI)) (ci := 9) (v := .int 0) (C := RX10) (T := TX10) (N := 15) hx hb hta inlX10 hown hK hP 0 rfl rfl 9 (by decide) (hta _ fl_X10_69) (fun _ h9 => h9) rfl dX10_say_24 ?_
    refine lv_iload_n hx hb dX10_say_27 rfl (lv_at hl 1 rfl) ?_
    refine va_iast hx hb hK hP hD hS 1 0 rfl rfl (vin (by decide)) dX10_say_28 (fun H locs hP hD hS => ?_)
    have hP : va_P (dC, dI) vwCl [zLF q k, (q 9, .inl (k 9, 16, .inl (upd (fun _ => 0) 0 p0)))] H := hP
    have hD : va_D A [zLF q k, (q 9, .inl (k 9, 16, .inl (upd (fun _ => 0) 0 p0)))] := hD
    refine lv_aload_n hx hb dX10_say_29 rfl (lv_at hl 0 rfl) ?_
    refine lv_dup hx hb dX10_say_30 rfl ?_
    refine va_get (D := (dC, dI)) (ci := 9) (v := .int 0) (C := RX10) (T := TX10) (N := 15) hx hb hta inlX10 hown hK hP 0 rfl rfl 9 (by decide) (hta _ fl_X10_69) (fun _ h9 => h9) rfl dX10_say_31 ?_
    refine lv_iconst (v := 1) hx hb dX10_say_34 (by decide) ?_
    refine lv_iadd hx hb dX10_say_35 ?_
    refine k_top (y := 1) (by decide) ?_
    refine va_put (D := (dC, dI)) (ci := 9) (v := .int 1) (ty := .int) (C := RX10) (T := TX10) (N := 15) hx hb hta inlX10 tyX10 tyX10_ok nmX10 hown hK hP hD hS 0 rfl rfl 9 (by decide) (hta _ fl_X10_69) (fun _ h9 => h9) rfl (by decide +kernel) rfl rfl (Nat.le_of_ble_eq_true rfl) dX10_say_36 (fun H locs hP hD hS => ?_)
    have hP : va_P (dC, dI) vwCl [(q 0, .inr (9, [.ref (q 1), .ref (q 2), .ref (q 3), .ref (q 4), .ref (q 5), .ref (q 6), .ref (q 7), .ref (q 8), .ref (q 9), .int 1, .null, .null, .int 0, .int 0, .int 0])), (q 9, .inl (k 9, 16, .inl (upd (fun _ => 0) 0 p0)))] H := hP
    have hD : va_D A [(q 0, .inr (9, [.ref (q 1), .ref (q 2), .ref (q 3), .ref (q 4), .ref (q 5), .ref (q 6), .ref (q 7), .ref (q 8), .ref (q 9), .int 1, .null, .null, .int 0, .int 0, .int 0])), (q 9, .inl (k 9, 16, .inl (upd (fun _ => 0) 0 p0)))] := hD
    refine lv_aload_n hx hb dX10_say_39 rfl (lv_at hl 0 rfl) ?_
    refine va_get (D := (dC, dI)) (ci := 9) (v := .int 1) (C := RX10) (T := TX10) (N := 15) hx hb hta inlX10 hown hK hP 0 rfl rfl 9 (by decide) (hta _ fl_X10_69) (fun _ h9 => h9) rfl dX10_say_40 ?_
    refine W.widen (k := 0) (n := 0) (Nat.le_of_ble_eq_true rfl) (Nat.le_of_ble_eq_true rfl) ?_
    exact k_iret () hx hb hr hlocks rfl P_nil D_nil (hK.sub (tys' := []) [] rfl) hS (by first | rfl | (simp [sp_say]; done) | (simp [sp_say, c_1]; done)) dX10_say_43
  · refine lv_bipush (v := (-2)) hx hb dX10_say_4 (by decide) ?_
    refine W.widen (k := 0) (n := 0) (Nat.le_of_ble_eq_true rfl) (Nat.le_of_ble_eq_true rfl) ?_
    exact k_iret () hx hb hr hlocks rfl P_nil D_nil (hK.sub (tys' := []) [] rfl) hS (by first | rfl | (simp [sp_say]; done) | (simp [sp_say, c_1]; done)) dX10_say_6
set_option maxHeartbeats 4000000 in
set_option maxRecDepth 100000 in
theorem x_check (l : Launch) (dC : Nat → ClassId) (dI : Nat → Nat → Nat) (q : Nat → Nat) (k : Nat → ClassId) (sz : Nat) : Ci l (dC, dI) yX10_check cX10_check 3 (some .int) { frames := 0, cells := 0, slots := 0, locals := 0 } [.ref (q 0)] [] [zLF q k, zpi q k] sz 0 0 Unit (fun r _ => r = (-3)) (fun _ => []) (fun _ => []) := by
  refine Ci_of (lv := [(0, .ref (q 0))]) (by decide) rfl rfl ?_
  intro p e s m below meth c A ls hx hb hml hr hown hta hlocks hnm hnw hP hD hK hS hA hl
  have hown : s.vm.findClass RX10 = some m.cls := hown
  refine lv_aload_n hx hb dX10_check_0 rfl (lv_at hl 0 rfl) ?_
  refine va_get (D := (dC, dI)) (ci := 9) (v := .ref (q 2)) (C := RX10) (T := TX10) (N := 15) hx hb hta inlX10 hown hK hP 0 rfl rfl 1 (by decide) (hta _ fl_X10_19) (fun _ h9 => h9) rfl dX10_check_1 ?_
  refine va_getN (D := (dC, dI)) (ci := 4) (v := .int 0) (C := RX5) (T := TX5) (N := 7) hx hb hta inlX5 hown hK hP 1 rfl rfl 0 (by decide) (hnw.f nf_X10_94) (fun _ h9 => h9) rfl dX10_check_4 ?_
  refine lv_if_ne (tgt := 13) hx hb dX10_check_7 (by decide) (fun c => absurd c (by decide)) (fun _ => ?_)
  refine lv_bipush (v := (-3)) hx hb dX10_check_10 (by decide) ?_
  refine W.widen (k := 0) (n := 0) (Nat.le_of_ble_eq_true rfl) (Nat.le_of_ble_eq_true rfl) ?_
  exact k_iret () hx hb hr hlocks rfl P_nil D_nil (hK.sub (tys' := []) [] rfl) hS rfl dX10_check_12
set_option maxHeartbeats 4000000 in
set_option maxRecDepth 100000 in
theorem x_arrange (l : Launch) (dC : Nat → ClassId) (dI : Nat → Nat → Nat) (q : Nat → Nat) (k : Nat → ClassId) (sz : Nat) : Ci l (dC, dI) yX10_arrange cX10_arrange 2 (some .int) { frames := 0, cells := 0, slots := 0, locals := 0 } [.ref (q 0)] [] [zLF q k, zpi q k] sz 0 0 Unit (fun r _ => r = (-3)) (fun _ => []) (fun _ => []) := by
  refine Ci_of (lv := [(0, .ref (q 0))]) (by decide) rfl rfl ?_
  intro p e s m below meth c A ls hx hb hml hr hown hta hlocks hnm hnw hP hD hK hS hA hl
  have hown : s.vm.findClass RX10 = some m.cls := hown
  refine lv_aload_n hx hb dX10_arrange_0 rfl (lv_at hl 0 rfl) ?_
  refine va_get (D := (dC, dI)) (ci := 9) (v := .ref (q 2)) (C := RX10) (T := TX10) (N := 15) hx hb hta inlX10 hown hK hP 0 rfl rfl 1 (by decide) (hta _ fl_X10_19) (fun _ h9 => h9) rfl dX10_arrange_1 ?_
  refine va_getN (D := (dC, dI)) (ci := 4) (v := .int 0) (C := RX5) (T := TX5) (N := 7) hx hb hta inlX5 hown hK hP 1 rfl rfl 0 (by decide) (hnw.f nf_X10_94) (fun _ h9 => h9) rfl dX10_arrange_4 ?_
  refine lv_if_ne (tgt := 13) hx hb dX10_arrange_7 (by decide) (fun c => absurd c (by decide)) (fun _ => ?_)
  refine lv_bipush (v := (-3)) hx hb dX10_arrange_10 (by decide) ?_
  refine W.widen (k := 0) (n := 0) (Nat.le_of_ble_eq_true rfl) (Nat.le_of_ble_eq_true rfl) ?_
  exact k_iret () hx hb hr hlocks rfl P_nil D_nil (hK.sub (tys' := []) [] rfl) hS rfl dX10_arrange_12
set_option maxHeartbeats 4000000 in
set_option maxRecDepth 100000 in
theorem x_left (l : Launch) (dC : Nat → ClassId) (dI : Nat → Nat → Nat) (q : Nat → Nat) (k : Nat → ClassId) (p0 : Int32) (sz : Nat) : Ci l (dC, dI) yX10_left cX10_left 2 (some .int) { frames := 0, cells := 0, slots := 0, locals := 0 } [.ref (q 0), .int p0] [] [zLF q k] sz 0 0 Unit (fun r _ => r = (-1)) (fun _ => []) (fun _ => []) := by
  refine Ci_of (lv := [(0, .ref (q 0)), (1, .int p0)]) (by decide) rfl rfl ?_
  intro p e s m below meth c A ls hx hb hml hr hown hta hlocks hnm hnw hP hD hK hS hA hl
  have hown : s.vm.findClass RX10 = some m.cls := hown
  refine lv_aload_n hx hb dX10_left_0 rfl (lv_at hl 0 rfl) ?_
  refine va_get (D := (dC, dI)) (ci := 9) (v := .int 0) (C := RX10) (T := TX10) (N := 15) hx hb hta inlX10 hown hK hP 0 rfl rfl 12 (by decide) (hta _ fl_X10_80) (fun _ h9 => h9) rfl dX10_left_1 ?_
  refine lv_if_eq (tgt := 25) hx hb dX10_left_4 (by decide) (fun _ => ?_) (fun c => absurd (by decide) c)
  refine lv_iconst (v := (-1)) hx hb dX10_left_25 (by decide) ?_
  refine W.widen (k := 0) (n := 0) (Nat.le_of_ble_eq_true rfl) (Nat.le_of_ble_eq_true rfl) ?_
  exact k_iret () hx hb hr hlocks rfl P_nil D_nil (hK.sub (tys' := []) [] rfl) hS rfl dX10_left_26
set_option maxHeartbeats 4000000 in
set_option maxRecDepth 100000 in
theorem x_rest (l : Launch) (dC : Nat → ClassId) (dI : Nat → Nat → Nat) (q : Nat → Nat) (k : Nat → ClassId) (sz : Nat) : Ci l (dC, dI) yX10_rest cX10_rest 1 (some .int) { frames := 0, cells := 0, slots := 0, locals := 0 } [.ref (q 0)] [] [zLF q k] sz 0 0 Unit (fun r _ => r = (-1)) (fun _ => []) (fun _ => []) := by
  refine Ci_of (lv := [(0, .ref (q 0))]) (by decide) rfl rfl ?_
  intro p e s m below meth c A ls hx hb hml hr hown hta hlocks hnm hnw hP hD hK hS hA hl
  have hown : s.vm.findClass RX10 = some m.cls := hown
  refine lv_aload_n hx hb dX10_rest_0 rfl (lv_at hl 0 rfl) ?_
  refine va_get (D := (dC, dI)) (ci := 9) (v := .int 0) (C := RX10) (T := TX10) (N := 15) hx hb hta inlX10 hown hK hP 0 rfl rfl 12 (by decide) (hta _ fl_X10_80) (fun _ h9 => h9) rfl dX10_rest_1 ?_
  refine lv_if_eq (tgt := 14) hx hb dX10_rest_4 (by decide) (fun _ => ?_) (fun c => absurd (by decide) c)
  refine lv_iconst (v := (-1)) hx hb dX10_rest_14 (by decide) ?_
  refine W.widen (k := 0) (n := 0) (Nat.le_of_ble_eq_true rfl) (Nat.le_of_ble_eq_true rfl) ?_
  exact k_iret () hx hb hr hlocks rfl P_nil D_nil (hK.sub (tys' := []) [] rfl) hS rfl dX10_rest_15
set_option maxHeartbeats 4000000 in
set_option maxRecDepth 100000 in
theorem x_tuning (l : Launch) (dC : Nat → ClassId) (dI : Nat → Nat → Nat) (q : Nat → Nat) (k : Nat → ClassId) (p0 : Int32) (p1 : Int32) (p2 : Int32) (sz : Nat) : Ci l (dC, dI) yX10_tuning cX10_tuning 4 (some .int) { frames := 1, cells := 0, slots := 0, locals := 21 } [.ref (q 0), .int p0, .int p1, .int p2] [] [zLF q k, zlu q k] sz 0 0 Unit (fun r _ => r = (-1)) (fun _ => []) (fun _ => []) := by
  refine Ci_of (lv := [(0, .ref (q 0)), (1, .int p0), (2, .int p1), (3, .int p2)]) (by decide) rfl rfl ?_
  intro p e s m below meth c A ls hx hb hml hr hown hta hlocks hnm hnw hP hD hK hS hA hl
  have hown : s.vm.findClass RX10 = some m.cls := hown
  refine lv_iload_n hx hb dX10_tuning_0 rfl (lv_at hl 1 rfl) ?_
  refine lv_iconst (v := 3) hx hb dX10_tuning_1 (by decide) ?_
  refine kSi (b := 0) (n := 2) (As := [.int p0, .int 3]) (rest := []) ⟨hx, hb, hml, hown, hta⟩ hnw (c_within l dC dI p0 3  s.heap.size) cd_X10_within iz_X10 ml_X10_90 st_X10_within (by decide +kernel) rfl (Nat.le_of_ble_eq_true rfl) (Nat.le_of_ble_eq_true rfl) rfl rfl (Nat.le_of_ble_eq_true rfl) (Nat.le_of_ble_eq_true rfl) hP hD hK hS hA [] [0, 1] [] rfl (wr := [zLF q k, zlu q k]) rfl (by decide) (by decide) (by decide) rfl hl.1 rfl (Nat.le_of_ble_eq_true rfl) dX10_tuning_2 (fun r3 u1 H locs hw2 hP hD hK hS => ?_)
  have hP : va_P (dC, dI) vwCl [zLF q k, zlu q k] H := hP
  have hD : va_D A [zLF q k, zlu q k] := hD
  have hK : va_K (dC, dI) vwCl [] s := hK
  obtain rfl : r3 = if inB p0 0 3 then 1 else 0 := hw2
  refine lv_if_eq (tgt := 19) hx hb dX10_tuning_5 (by decide) (fun c_4 => ?_) (fun c_4 => ?_)
  · have n_5 : (inB p0 0 3) = false := ite0 c_4
    refine lv_iconst (v := (-1)) hx hb dX10_tuning_19 (by decide) ?_
    refine W.widen (k := 0) (n := 0) (Nat.le_of_ble_eq_true rfl) (Nat.le_of_ble_eq_true rfl) ?_
    exact k_iret () hx hb hr hlocks rfl P_nil D_nil (hK.sub (tys' := []) [] rfl) hS rfl dX10_tuning_20
  · have n_6 : (inB p0 0 3) = true := ite1 c_4
    refine lv_aload_n hx hb dX10_tuning_8 rfl (lv_at hl 0 rfl) ?_
    refine va_get (D := (dC, dI)) (ci := 9) (v := .ref (q 1)) (C := RX10) (T := TX10) (N := 15) hx hb hta inlX10 hown hK hP 0 rfl rfl 0 (by decide) (hta _ fl_X10_10) (fun _ h9 => h9) rfl dX10_tuning_9 ?_
    refine lv_iload_n hx hb dX10_tuning_12 rfl (lv_at hl 2 rfl) ?_
    refine kVNi (b := (q 1)) (n := 1) (As := [.int p1]) (rest := []) ⟨hx, hb, hml, hown, hta⟩ hnw (c_hasCourse l dC dI q k p1  H.size) cd_X4_hasCourse iz_X4 nm_X10_107 im_X4_hasCourse se_X4_X4_hasCourse (by decide +kernel) rfl (Nat.le_of_ble_eq_true rfl) (Nat.le_of_ble_eq_true rfl) rfl rfl (Nat.le_of_ble_eq_true rfl) (Nat.le_of_ble_eq_true rfl) hP hD hK hS hA [1] [0] [] rfl (wr := [zLF q k]) rfl (by decide) (by decide) (by decide) rfl rfl 0 rfl hl.1 rfl (Nat.le_of_ble_eq_true rfl) dX10_tuning_13 (fun r9 u7 H locs hw8 hP hD hK hS => ?_)
    have hP : va_P (dC, dI) vwCl [zLF q k] H := hP
    have hD : va_D A [zLF q k] := hD
    have hK : va_K (dC, dI) vwCl [] s := hK
    obtain rfl : r9 = 0 := hw8
    refine lv_if_ne (tgt := 21) hx hb dX10_tuning_16 (by decide) (fun c => absurd c (by decide)) (fun _ => ?_)
    refine lv_iconst (v := (-1)) hx hb dX10_tuning_19 (by decide) ?_
    refine W.widen (k := 0) (n := 0) (Nat.le_of_ble_eq_true rfl) (Nat.le_of_ble_eq_true rfl) ?_
    exact k_iret () hx hb hr hlocks rfl P_nil D_nil (hK.sub (tys' := []) [] rfl) hS rfl dX10_tuning_20
set_option maxHeartbeats 4000000 in
set_option maxRecDepth 100000 in
theorem x_choose (l : Launch) (dC : Nat → ClassId) (dI : Nat → Nat → Nat) (q : Nat → Nat) (k : Nat → ClassId) (sz : Nat) : Ci l (dC, dI) yX10_choose cX10_choose 5 (some .int) { frames := 0, cells := 0, slots := 0, locals := 0 } [.ref (q 0)] [] [zLF q k, zpi q k] sz 0 0 Unit (fun r _ => r = (-3)) (fun _ => []) (fun _ => []) := by
  refine Ci_of (lv := [(0, .ref (q 0))]) (by decide) rfl rfl ?_
  intro p e s m below meth c A ls hx hb hml hr hown hta hlocks hnm hnw hP hD hK hS hA hl
  have hown : s.vm.findClass RX10 = some m.cls := hown
  refine lv_aload_n hx hb dX10_choose_0 rfl (lv_at hl 0 rfl) ?_
  refine va_get (D := (dC, dI)) (ci := 9) (v := .ref (q 2)) (C := RX10) (T := TX10) (N := 15) hx hb hta inlX10 hown hK hP 0 rfl rfl 1 (by decide) (hta _ fl_X10_19) (fun _ h9 => h9) rfl dX10_choose_1 ?_
  refine va_getN (D := (dC, dI)) (ci := 4) (v := .int 0) (C := RX5) (T := TX5) (N := 7) hx hb hta inlX5 hown hK hP 1 rfl rfl 0 (by decide) (hnw.f nf_X10_94) (fun _ h9 => h9) rfl dX10_choose_4 ?_
  refine lv_if_ne (tgt := 13) hx hb dX10_choose_7 (by decide) (fun c => absurd c (by decide)) (fun _ => ?_)
  refine lv_bipush (v := (-3)) hx hb dX10_choose_10 (by decide) ?_
  refine W.widen (k := 0) (n := 0) (Nat.le_of_ble_eq_true rfl) (Nat.le_of_ble_eq_true rfl) ?_
  exact k_iret () hx hb hr hlocks rfl P_nil D_nil (hK.sub (tys' := []) [] rfl) hS rfl dX10_choose_12
set_option maxHeartbeats 4000000 in
set_option maxRecDepth 100000 in
theorem x_feed (l : Launch) (dC : Nat → ClassId) (dI : Nat → Nat → Nat) (q : Nat → Nat) (k : Nat → ClassId) (p0 : Int32) (sz : Nat) : Ci l (dC, dI) yX10_feed cX10_feed 2 (some .int) { frames := 1, cells := 0, slots := 0, locals := 21 } [.ref (q 0), .int p0] [(k 30, .int)] [zLF q k, ztp q k, zby q k] sz 0 0 Unit (fun r _ => r = sp_feed p0) (fun _ => []) (fun _ => []) := by
  refine Ci_of (lv := [(0, .ref (q 0)), (1, .int p0)]) (by decide) rfl rfl ?_
  intro p e s m below meth c A ls hx hb hml hr hown hta hlocks hnm hnw hP hD hK hS hA hl
  have hown : s.vm.findClass RX10 = some m.cls := hown
  refine lv_iload_n hx hb dX10_feed_0 rfl (lv_at hl 1 rfl) ?_
  refine lv_sipush (v := 255) hx hb dX10_feed_1 (by decide) ?_
  refine kSi (b := 0) (n := 2) (As := [.int p0, .int 255]) (rest := []) ⟨hx, hb, hml, hown, hta⟩ hnw (c_within l dC dI p0 255  s.heap.size) cd_X10_within iz_X10 ml_X10_90 st_X10_within (by decide +kernel) rfl (Nat.le_of_ble_eq_true rfl) (Nat.le_of_ble_eq_true rfl) rfl rfl (Nat.le_of_ble_eq_true rfl) (Nat.le_of_ble_eq_true rfl) hP hD hK hS hA [] [0, 1, 2] [] rfl (wr := [zLF q k, ztp q k, zby q k]) rfl (by decide) (by decide) (by decide) rfl hl.1 rfl (Nat.le_of_ble_eq_true rfl) dX10_feed_4 (fun r3 u1 H locs hw2 hP hD hK hS => ?_)
  have hP : va_P (dC, dI) vwCl [zLF q k, ztp q k, zby q k] H := hP
  have hD : va_D A [zLF q k, ztp q k, zby q k] := hD
  have hK : va_K (dC, dI) vwCl [(k 30, .int)] s := hK
  obtain rfl : r3 = if inB p0 0 255 then 1 else 0 := hw2
  refine lv_if_ne (tgt := 13) hx hb dX10_feed_7 (by decide) (fun c_4 => ?_) (fun c_4 => ?_)
  · have n_5 : (inB p0 0 255) = true := ite1 c_4
    refine lv_aload_n hx hb dX10_feed_13 rfl (lv_at hl 0 rfl) ?_
    refine va_get (D := (dC, dI)) (ci := 9) (v := .ref (q 3)) (C := RX10) (T := TX10) (N := 15) hx hb hta inlX10 hown hK hP 0 rfl rfl 2 (by decide) (hta _ fl_X10_26) (fun _ h9 => h9) rfl dX10_feed_14 ?_
    refine va_getN (D := (dC, dI)) (ci := 5) (v := .int 0) (C := RX6) (T := TX6) (N := 2) hx hb hta inlX6 hown hK hP 1 rfl rfl 1 (by decide) (hnw.f nf_X10_283) (fun _ h9 => h9) rfl dX10_feed_17 ?_
    refine lv_sipush (v := 600) hx hb dX10_feed_20 (by decide) ?_
    refine lv_icmp_lt (tgt := 29) hx hb dX10_feed_23 (by decide) (fun _ => ?_) (fun c => absurd (by decide) c)
    refine lv_aload_n hx hb dX10_feed_29 rfl (lv_at hl 0 rfl) ?_
    refine va_get (D := (dC, dI)) (ci := 9) (v := .ref (q 3)) (C := RX10) (T := TX10) (N := 15) hx hb hta inlX10 hown hK hP 0 rfl rfl 2 (by decide) (hta _ fl_X10_26) (fun _ h9 => h9) rfl dX10_feed_30 ?_
    refine lv_iload_n hx hb dX10_feed_33 rfl (lv_at hl 1 rfl) ?_
    refine kVNv (b := (q 3)) (n := 1) (As := [.int p0]) (rest := []) ⟨hx, hb, hml, hown, hta⟩ hnw (c_append l dC dI q k p0  H.size) cd_X6_append iz_X6 nm_X10_286 im_X6_append se_X6_X6_append (by decide +kernel) rfl (Nat.le_of_ble_eq_true rfl) (Nat.le_of_ble_eq_true rfl) rfl rfl (Nat.le_of_ble_eq_true rfl) (Nat.le_of_ble_eq_true rfl) hP hD hK hS hA [1, 2] [0] [0] rfl (wr := [zLF q k]) rfl (by decide) (by decide) (by decide) rfl rfl 0 rfl hl.1 rfl (Nat.le_of_ble_eq_true rfl) dX10_feed_34 (fun u6 H locs hw7 hP hD hK hS => ?_)
    have hP : va_P (dC, dI) vwCl [zLF q k, (q 3, .inr (5, [.ref (q 30), .int 1]))] H := hP
    have hD : va_D A [zLF q k, (q 3, .inr (5, [.ref (q 30), .int 1]))] := hD
    have hK : va_K (dC, dI) vwCl [(k 30, .int)] s := hK
    refine lv_aload_n hx hb dX10_feed_37 rfl (lv_at hl 0 rfl) ?_
    refine va_get (D := (dC, dI)) (ci := 9) (v := .ref (q 3)) (C := RX10) (T := TX10) (N := 15) hx hb hta inlX10 hown hK hP 0 rfl rfl 2 (by decide) (hta _ fl_X10_26) (fun _ h9 => h9) rfl dX10_feed_38 ?_
    refine va_getN (D := (dC, dI)) (ci := 5) (v := .int 1) (C := RX6) (T := TX6) (N := 2) hx hb hta inlX6 hown hK hP 1 rfl rfl 1 (by decide) (hnw.f nf_X10_283) (fun _ h9 => h9) rfl dX10_feed_41 ?_
    refine W.widen (k := 0) (n := 0) (Nat.le_of_ble_eq_true rfl) (Nat.le_of_ble_eq_true rfl) ?_
    exact k_iret () hx hb hr hlocks rfl P_nil D_nil (hK.sub (tys' := []) [] rfl) hS (by first | rfl | (simp [sp_feed, n_5]; done) | (simp [sp_feed, c_4, n_5]; done)) dX10_feed_44
  · have n_9 : (inB p0 0 255) = false := ite0 c_4
    refine lv_bipush (v := (-2)) hx hb dX10_feed_10 (by decide) ?_
    refine W.widen (k := 0) (n := 0) (Nat.le_of_ble_eq_true rfl) (Nat.le_of_ble_eq_true rfl) ?_
    exact k_iret () hx hb hr hlocks rfl P_nil D_nil (hK.sub (tys' := []) [] rfl) hS (by first | rfl | (simp [sp_feed, n_9]; done) | (simp [sp_feed, c_4, n_9]; done)) dX10_feed_12
set_option maxHeartbeats 4000000 in
set_option maxRecDepth 100000 in
theorem x_wipe (l : Launch) (dC : Nat → ClassId) (dI : Nat → Nat → Nat) (q : Nat → Nat) (k : Nat → ClassId) (sz : Nat) : Ci l (dC, dI) yX10_wipe cX10_wipe 2 (some .int) { frames := 0, cells := 0, slots := 0, locals := 0 } [.ref (q 0)] [] [zLF q k, ztp q k] sz 0 0 Unit (fun r _ => r = 0) (fun _ => []) (fun _ => []) := by
  refine Ci_of (lv := [(0, .ref (q 0))]) (by decide) rfl rfl ?_
  intro p e s m below meth c A ls hx hb hml hr hown hta hlocks hnm hnw hP hD hK hS hA hl
  have hown : s.vm.findClass RX10 = some m.cls := hown
  refine lv_aload_n hx hb dX10_wipe_0 rfl (lv_at hl 0 rfl) ?_
  refine va_get (D := (dC, dI)) (ci := 9) (v := .ref (q 3)) (C := RX10) (T := TX10) (N := 15) hx hb hta inlX10 hown hK hP 0 rfl rfl 2 (by decide) (hta _ fl_X10_26) (fun _ h9 => h9) rfl dX10_wipe_1 ?_
  refine va_getN (D := (dC, dI)) (ci := 5) (v := .int 0) (C := RX6) (T := TX6) (N := 2) hx hb hta inlX6 hown hK hP 1 rfl rfl 1 (by decide) (hnw.f nf_X10_283) (fun _ h9 => h9) rfl dX10_wipe_4 ?_
  refine lv_istore_n (lv' := [(1, .int 0), (0, .ref (q 0))]) hx hb dX10_wipe_7 rfl hl (by decide) rfl (fun ls hl => ?_)
  refine lv_aload_n hx hb dX10_wipe_8 rfl (lv_at hl 1 rfl) ?_
  refine va_get (D := (dC, dI)) (ci := 9) (v := .ref (q 3)) (C := RX10) (T := TX10) (N := 15) hx hb hta inlX10 hown hK hP 0 rfl rfl 2 (by decide) (hta _ fl_X10_26) (fun _ h9 => h9) rfl dX10_wipe_9 ?_
  refine lv_iconst (v := 0) hx hb dX10_wipe_12 (by decide) ?_
  refine va_putN (D := (dC, dI)) (ci := 5) (v := .int 0) (ty := .int) (C := RX6) (T := TX6) (N := 2) hx hb hta inlX6 tyX6 tyX6_ok nmX6 hown hK hP hD hS 1 rfl rfl 1 (by decide) (hnw.f nf_X10_283) (fun _ h9 => h9) rfl (by decide +kernel) rfl rfl (Nat.le_of_ble_eq_true rfl) dX10_wipe_13 (fun H locs hP hD hS => ?_)
  have hP : va_P (dC, dI) vwCl [zLF q k, (q 3, .inr (5, [.ref (q 30), .int 0]))] H := hP
  have hD : va_D A [zLF q k, (q 3, .inr (5, [.ref (q 30), .int 0]))] := hD
  refine lv_iload_n hx hb dX10_wipe_16 rfl (lv_at hl 0 rfl) ?_
  refine W.widen (k := 0) (n := 0) (Nat.le_of_ble_eq_true rfl) (Nat.le_of_ble_eq_true rfl) ?_
  exact k_iret () hx hb hr hlocks rfl P_nil D_nil (hK.sub (tys' := []) [] rfl) hS rfl dX10_wipe_17
set_option maxHeartbeats 4000000 in
set_option maxRecDepth 100000 in
theorem x_tape (l : Launch) (dC : Nat → ClassId) (dI : Nat → Nat → Nat) (q : Nat → Nat) (k : Nat → ClassId) (p0 : Int32) (sz : Nat) : Ci l (dC, dI) yX10_tape cX10_tape 2 (some .int) { frames := 0, cells := 0, slots := 0, locals := 0 } [.ref (q 0), .int p0] [] [zLF q k, ztp q k] sz 0 0 Unit (fun r _ => r = (-1)) (fun _ => []) (fun _ => []) := by
  refine Ci_of (lv := [(0, .ref (q 0)), (1, .int p0)]) (by decide) rfl rfl ?_
  intro p e s m below meth c A ls hx hb hml hr hown hta hlocks hnm hnw hP hD hK hS hA hl
  have hown : s.vm.findClass RX10 = some m.cls := hown
  refine lv_iload_n hx hb dX10_tape_0 rfl (lv_at hl 1 rfl) ?_
  refine lv_if_lt (tgt := 27) hx hb dX10_tape_1 (by decide) (fun c_1 => ?_) (fun c_1 => ?_)
  · refine lv_iconst (v := (-1)) hx hb dX10_tape_27 (by decide) ?_
    refine W.widen (k := 0) (n := 0) (Nat.le_of_ble_eq_true rfl) (Nat.le_of_ble_eq_true rfl) ?_
    exact k_iret () hx hb hr hlocks rfl P_nil D_nil (hK.sub (tys' := []) [] rfl) hS rfl dX10_tape_28
  · refine lv_iload_n hx hb dX10_tape_4 rfl (lv_at hl 1 rfl) ?_
    refine lv_aload_n hx hb dX10_tape_5 rfl (lv_at hl 0 rfl) ?_
    refine va_get (D := (dC, dI)) (ci := 9) (v := .ref (q 3)) (C := RX10) (T := TX10) (N := 15) hx hb hta inlX10 hown hK hP 0 rfl rfl 2 (by decide) (hta _ fl_X10_26) (fun _ h9 => h9) rfl dX10_tape_6 ?_
    refine va_getN (D := (dC, dI)) (ci := 5) (v := .int 0) (C := RX6) (T := TX6) (N := 2) hx hb hta inlX6 hown hK hP 1 rfl rfl 1 (by decide) (hnw.f nf_X10_283) (fun _ h9 => h9) rfl dX10_tape_9 ?_
    refine lv_icmp_ge (tgt := 27) hx hb dX10_tape_12 (by decide) (fun c_2 => ?_) (fun c => absurd (Int32.not_lt.mp c_1) c)
    refine lv_iconst (v := (-1)) hx hb dX10_tape_27 (by decide) ?_
    refine W.widen (k := 0) (n := 0) (Nat.le_of_ble_eq_true rfl) (Nat.le_of_ble_eq_true rfl) ?_
    exact k_iret () hx hb hr hlocks rfl P_nil D_nil (hK.sub (tys' := []) [] rfl) hS rfl dX10_tape_28
set_option maxHeartbeats 4000000 in
set_option maxRecDepth 100000 in
theorem x_write (l : Launch) (dC : Nat → ClassId) (dI : Nat → Nat → Nat) (q : Nat → Nat) (k : Nat → ClassId) (sz : Nat) : Ci l (dC, dI) yX10_write cX10_write 2 (some .int) { frames := 1, cells := 0, slots := 0, locals := 20 } [.ref (q 0)] [] [zLF q k, zwl q k] sz 0 0 Unit (fun r _ => r = (-3)) (fun _ => []) (fun _ => []) := by
  refine Ci_of (lv := [(0, .ref (q 0))]) (by decide) rfl rfl ?_
  intro p e s m below meth c A ls hx hb hml hr hown hta hlocks hnm hnw hP hD hK hS hA hl
  have hown : s.vm.findClass RX10 = some m.cls := hown
  refine lv_aload_n hx hb dX10_write_0 rfl (lv_at hl 0 rfl) ?_
  refine va_get (D := (dC, dI)) (ci := 9) (v := .ref (q 8)) (C := RX10) (T := TX10) (N := 15) hx hb hta inlX10 hown hK hP 0 rfl rfl 7 (by decide) (hta _ fl_X10_61) (fun _ h9 => h9) rfl dX10_write_1 ?_
  refine kVNi (b := (q 8)) (n := 0) (As := []) (rest := []) ⟨hx, hb, hml, hown, hta⟩ hnw (c_atHand l dC dI q k  s.heap.size) cd_X8_atHand iz_X8 nm_X10_214 im_X8_atHand se_X8_X8_atHand (by decide +kernel) rfl (Nat.le_of_ble_eq_true rfl) (Nat.le_of_ble_eq_true rfl) rfl rfl (Nat.le_of_ble_eq_true rfl) (Nat.le_of_ble_eq_true rfl) hP hD hK hS hA [1] [0] [] rfl (wr := [zLF q k]) rfl (by decide) (by decide) (by decide) rfl rfl 0 rfl hl.1 rfl (Nat.le_of_ble_eq_true rfl) dX10_write_4 (fun r3 u1 H locs hw2 hP hD hK hS => ?_)
  have hP : va_P (dC, dI) vwCl [zLF q k] H := hP
  have hD : va_D A [zLF q k] := hD
  have hK : va_K (dC, dI) vwCl [] s := hK
  obtain rfl : r3 = 0 := hw2
  refine lv_if_ne (tgt := 13) hx hb dX10_write_7 (by decide) (fun c => absurd c (by decide)) (fun _ => ?_)
  refine lv_bipush (v := (-3)) hx hb dX10_write_10 (by decide) ?_
  refine W.widen (k := 0) (n := 0) (Nat.le_of_ble_eq_true rfl) (Nat.le_of_ble_eq_true rfl) ?_
  exact k_iret () hx hb hr hlocks rfl P_nil D_nil (hK.sub (tys' := []) [] rfl) hS rfl dX10_write_12
set_option maxHeartbeats 4000000 in
set_option maxRecDepth 100000 in
theorem x_read (l : Launch) (dC : Nat → ClassId) (dI : Nat → Nat → Nat) (q : Nat → Nat) (k : Nat → ClassId) (sz : Nat) : Ci l (dC, dI) yX10_read cX10_read 2 (some .int) { frames := 0, cells := 0, slots := 0, locals := 0 } [.ref (q 0)] [] [zLF q k, zlu q k] sz 0 0 Unit (fun r _ => r = (-3)) (fun _ => []) (fun _ => []) := by
  refine Ci_of (lv := [(0, .ref (q 0))]) (by decide) rfl rfl ?_
  intro p e s m below meth c A ls hx hb hml hr hown hta hlocks hnm hnw hP hD hK hS hA hl
  have hown : s.vm.findClass RX10 = some m.cls := hown
  refine lv_aload_n hx hb dX10_read_0 rfl (lv_at hl 0 rfl) ?_
  refine va_get (D := (dC, dI)) (ci := 9) (v := .ref (q 1)) (C := RX10) (T := TX10) (N := 15) hx hb hta inlX10 hown hK hP 0 rfl rfl 0 (by decide) (hta _ fl_X10_10) (fun _ h9 => h9) rfl dX10_read_1 ?_
  refine va_getN (D := (dC, dI)) (ci := 3) (v := .int 0) (C := RX4) (T := TX4) (N := 7) hx hb hta inlX4 hown hK hP 1 rfl rfl 0 (by decide) (hnw.f nf_X10_97) (fun _ h9 => h9) rfl dX10_read_4 ?_
  refine lv_if_ne (tgt := 13) hx hb dX10_read_7 (by decide) (fun c => absurd c (by decide)) (fun _ => ?_)
  refine lv_bipush (v := (-3)) hx hb dX10_read_10 (by decide) ?_
  refine W.widen (k := 0) (n := 0) (Nat.le_of_ble_eq_true rfl) (Nat.le_of_ble_eq_true rfl) ?_
  exact k_iret () hx hb hr hlocks rfl P_nil D_nil (hK.sub (tys' := []) [] rfl) hS rfl dX10_read_12
set_option maxHeartbeats 4000000 in
set_option maxRecDepth 100000 in
theorem x_count (l : Launch) (dC : Nat → ClassId) (dI : Nat → Nat → Nat) (q : Nat → Nat) (k : Nat → ClassId) (p0 : Int32) (sz : Nat) : Ci l (dC, dI) yX10_count cX10_count 2 (some .int) { frames := 1, cells := 0, slots := 0, locals := 22 } [.ref (q 0), .int p0] [(k 20, .int)] [zLF q k, zlu q k, zpi q k, zsz q k, zwl q k] sz 0 0 Unit (fun r _ => r = sp_count p0) (fun _ => []) (fun _ => []) := by
  refine Ci_of (lv := [(0, .ref (q 0)), (1, .int p0)]) (by decide) rfl rfl ?_
  intro p e s m below meth c A ls hx hb hml hr hown hta hlocks hnm hnw hP hD hK hS hA hl
  have hown : s.vm.findClass RX10 = some m.cls := hown
  refine lv_iload_n hx hb dX10_count_0 rfl (lv_at hl 1 rfl) ?_
  rcases cnt_cases p0 with rfl | rfl | rfl | rfl | rfl | rfl | hc1
  · refine lv_tableIn (tgt := 40) hx hb dX10_count_1 (by decide) (by decide) rfl (by decide) ?_
    refine lv_aload_n hx hb dX10_count_40 rfl (lv_at hl 0 rfl) ?_
    refine va_get (D := (dC, dI)) (ci := 9) (v := .ref (q 1)) (C := RX10) (T := TX10) (N := 15) hx hb hta inlX10 hown hK hP 0 rfl rfl 0 (by decide) (hta _ fl_X10_10) (fun _ h9 => h9) rfl dX10_count_41 ?_
    refine va_getN (D := (dC, dI)) (ci := 3) (v := .int 0) (C := RX4) (T := TX4) (N := 7) hx hb hta inlX4 hown hK hP 1 rfl rfl 0 (by decide) (hnw.f nf_X10_97) (fun _ h9 => h9) rfl dX10_count_44 ?_
    refine W.widen (k := 0) (n := 0) (Nat.le_of_ble_eq_true rfl) (Nat.le_of_ble_eq_true rfl) ?_
    exact k_iret () hx hb hr hlocks rfl P_nil D_nil (hK.sub (tys' := []) [] rfl) hS (by decide) dX10_count_47
  · refine lv_tableIn (tgt := 48) hx hb dX10_count_1 (by decide) (by decide) rfl (by decide) ?_
    refine lv_aload_n hx hb dX10_count_48 rfl (lv_at hl 0 rfl) ?_
    refine va_get (D := (dC, dI)) (ci := 9) (v := .ref (q 2)) (C := RX10) (T := TX10) (N := 15) hx hb hta inlX10 hown hK hP 0 rfl rfl 1 (by decide) (hta _ fl_X10_19) (fun _ h9 => h9) rfl dX10_count_49 ?_
    refine va_getN (D := (dC, dI)) (ci := 4) (v := .int 0) (C := RX5) (T := TX5) (N := 7) hx hb hta inlX5 hown hK hP 2 rfl rfl 0 (by decide) (hnw.f nf_X10_94) (fun _ h9 => h9) rfl dX10_count_52 ?_
    refine W.widen (k := 0) (n := 0) (Nat.le_of_ble_eq_true rfl) (Nat.le_of_ble_eq_true rfl) ?_
    exact k_iret () hx hb hr hlocks rfl P_nil D_nil (hK.sub (tys' := []) [] rfl) hS (by decide) dX10_count_55
  · refine lv_tableIn (tgt := 56) hx hb dX10_count_1 (by decide) (by decide) rfl (by decide) ?_
    refine lv_aload_n hx hb dX10_count_56 rfl (lv_at hl 0 rfl) ?_
    refine va_get (D := (dC, dI)) (ci := 9) (v := .ref (q 2)) (C := RX10) (T := TX10) (N := 15) hx hb hta inlX10 hown hK hP 0 rfl rfl 1 (by decide) (hta _ fl_X10_19) (fun _ h9 => h9) rfl dX10_count_57 ?_
    refine kVNi (b := (q 2)) (n := 0) (As := []) (rest := []) ⟨hx, hb, hml, hown, hta⟩ hnw (c_notesOfTicks l dC dI q k  s.heap.size) cd_X5_notesOfTicks iz_X5 nm_X10_308 im_X5_notesOfTicks se_X5_X5_notesOfTicks (by decide +kernel) rfl (Nat.le_of_ble_eq_true rfl) (Nat.le_of_ble_eq_true rfl) rfl rfl (Nat.le_of_ble_eq_true rfl) (Nat.le_of_ble_eq_true rfl) hP hD hK hS hA [2] [0, 1, 3, 4] [] rfl (wr := [zLF q k, zlu q k, zsz q k, zwl q k]) rfl (by decide) (by decide) (by decide) rfl rfl 0 rfl hl.1 rfl (Nat.le_of_ble_eq_true rfl) dX10_count_60 (fun r4 u2 H locs hw3 hP hD hK hS => ?_)
    have hP : va_P (dC, dI) vwCl [zLF q k, zlu q k, zsz q k, zwl q k] H := hP
    have hD : va_D A [zLF q k, zlu q k, zsz q k, zwl q k] := hD
    have hK : va_K (dC, dI) vwCl [(k 20, .int)] s := hK
    obtain rfl : r4 = 0 := hw3
    refine W.widen (k := 0) (n := 0) (Nat.le_of_ble_eq_true rfl) (Nat.le_of_ble_eq_true rfl) ?_
    exact k_iret () hx hb hr hlocks rfl P_nil D_nil (hK.sub (tys' := []) [] rfl) hS (by decide) dX10_count_63
  · refine lv_tableIn (tgt := 64) hx hb dX10_count_1 (by decide) (by decide) rfl (by decide) ?_
    refine lv_aload_n hx hb dX10_count_64 rfl (lv_at hl 0 rfl) ?_
    refine va_get (D := (dC, dI)) (ci := 9) (v := .ref (q 2)) (C := RX10) (T := TX10) (N := 15) hx hb hta inlX10 hown hK hP 0 rfl rfl 1 (by decide) (hta _ fl_X10_19) (fun _ h9 => h9) rfl dX10_count_65 ?_
    refine va_getN (D := (dC, dI)) (ci := 4) (v := .ref (q 20)) (C := RX5) (T := TX5) (N := 7) hx hb hta inlX5 hown hK hP 2 rfl rfl 1 (by decide) (hnw.f nf_X10_136) (fun _ h9 => h9) rfl dX10_count_68 ?_
    refine lv_aload_n hx hb dX10_count_71 rfl (lv_at hl 0 rfl) ?_
    refine va_get (D := (dC, dI)) (ci := 9) (v := .ref (q 2)) (C := RX10) (T := TX10) (N := 15) hx hb hta inlX10 hown hK hP 0 rfl rfl 1 (by decide) (hta _ fl_X10_19) (fun _ h9 => h9) rfl dX10_count_72 ?_
    refine va_getN (D := (dC, dI)) (ci := 4) (v := .int 0) (C := RX5) (T := TX5) (N := 7) hx hb hta inlX5 hown hK hP 2 rfl rfl 0 (by decide) (hnw.f nf_X10_94) (fun _ h9 => h9) rfl dX10_count_75 ?_
    refine va_iald hx hb hK hP 3 0 rfl rfl (vin (by decide)) dX10_count_78 ?_
    refine k_top (y := 0) rfl ?_
    refine W.widen (k := 0) (n := 0) (Nat.le_of_ble_eq_true rfl) (Nat.le_of_ble_eq_true rfl) ?_
    exact k_iret () hx hb hr hlocks rfl P_nil D_nil (hK.sub (tys' := []) [] rfl) hS (by decide) dX10_count_79
  · refine lv_tableIn (tgt := 80) hx hb dX10_count_1 (by decide) (by decide) rfl (by decide) ?_
    refine lv_aload_n hx hb dX10_count_80 rfl (lv_at hl 0 rfl) ?_
    refine va_get (D := (dC, dI)) (ci := 9) (v := .ref (q 8)) (C := RX10) (T := TX10) (N := 15) hx hb hta inlX10 hown hK hP 0 rfl rfl 7 (by decide) (hta _ fl_X10_61) (fun _ h9 => h9) rfl dX10_count_81 ?_
    refine kVNi (b := (q 8)) (n := 0) (As := []) (rest := []) ⟨hx, hb, hml, hown, hta⟩ hnw (c_atHand l dC dI q k  s.heap.size) cd_X8_atHand iz_X8 nm_X10_214 im_X8_atHand se_X8_X8_atHand (by decide +kernel) rfl (Nat.le_of_ble_eq_true rfl) (Nat.le_of_ble_eq_true rfl) rfl rfl (Nat.le_of_ble_eq_true rfl) (Nat.le_of_ble_eq_true rfl) hP hD hK hS hA [4] [0, 1, 2, 3] [] rfl (wr := [zLF q k, zlu q k, zpi q k, zsz q k]) rfl (by decide) (by decide) (by decide) rfl rfl 0 rfl hl.1 rfl (Nat.le_of_ble_eq_true rfl) dX10_count_84 (fun r7 u5 H locs hw6 hP hD hK hS => ?_)
    have hP : va_P (dC, dI) vwCl [zLF q k, zlu q k, zpi q k, zsz q k] H := hP
    have hD : va_D A [zLF q k, zlu q k, zpi q k, zsz q k] := hD
    have hK : va_K (dC, dI) vwCl [(k 20, .int)] s := hK
    obtain rfl : r7 = 0 := hw6
    refine lv_if_eq (tgt := 94) hx hb dX10_count_87 (by decide) (fun _ => ?_) (fun c => absurd (by decide) c)
    refine lv_iconst (v := 0) hx hb dX10_count_94 (by decide) ?_
    refine W.widen (k := 0) (n := 0) (Nat.le_of_ble_eq_true rfl) (Nat.le_of_ble_eq_true rfl) ?_
    exact k_iret () hx hb hr hlocks rfl P_nil D_nil (hK.sub (tys' := []) [] rfl) hS (by decide) dX10_count_95
  · refine lv_tableIn (tgt := 96) hx hb dX10_count_1 (by decide) (by decide) rfl (by decide) ?_
    refine lv_aload_n hx hb dX10_count_96 rfl (lv_at hl 0 rfl) ?_
    refine va_get (D := (dC, dI)) (ci := 9) (v := .ref (q 8)) (C := RX10) (T := TX10) (N := 15) hx hb hta inlX10 hown hK hP 0 rfl rfl 7 (by decide) (hta _ fl_X10_61) (fun _ h9 => h9) rfl dX10_count_97 ?_
    refine va_getN (D := (dC, dI)) (ci := 7) (v := .int (-1)) (C := RX8) (T := TX8) (N := 5) hx hb hta inlX8 hown hK hP 4 rfl rfl 3 (by decide) (hnw.f nf_X10_228) (fun _ h9 => h9) rfl dX10_count_100 ?_
    refine W.widen (k := 0) (n := 0) (Nat.le_of_ble_eq_true rfl) (Nat.le_of_ble_eq_true rfl) ?_
    exact k_iret () hx hb hr hlocks rfl P_nil D_nil (hK.sub (tys' := []) [] rfl) hS (by decide) dX10_count_103
  · refine lv_tableOut (tgt := 104) hx hb dX10_count_1 hc1 (by decide) ?_
    refine lv_iconst (v := (-1)) hx hb dX10_count_104 (by decide) ?_
    refine W.widen (k := 0) (n := 0) (Nat.le_of_ble_eq_true rfl) (Nat.le_of_ble_eq_true rfl) ?_
    exact k_iret () hx hb hr hlocks rfl P_nil D_nil (hK.sub (tys' := []) [] rfl) hS ((sp_count_out hc1).symm) dX10_count_105

set_option maxHeartbeats 4000000 in
set_option maxRecDepth 100000 in
theorem c_X0_dayNumber (l : Launch) (dC : Nat → ClassId) (dI : Nat → Nat → Nat) (cI : ClassId) (k : Nat → Nat) (M : sS) (i x : Int32) (hC : vp_in i 30) : zI l yX0_dayNumber wsX0_dayNumber { frames := 0, cells := 0, slots := 0, locals := 0 } (dC, dI) cI [.ref (k 1), .int i, .int x] (kW cI k M) (kW cI k M) (cal_num M i x) := by
  refine zI_of (cc := cX0_dayNumber) (maxL := 3) (ret := (some .int)) (by decide) rfl (Nat.le_of_ble_eq_true rfl) ?_
  intro p e s m below meth c A ls C0 hl
  obtain ⟨hx, hb, hr, hml, hown, hts, hlocks, hK, hN, hA, hP, hD, hS⟩ := C0
  have hown : s.vm.findClass RX0 = some m.cls := hown
  have hl : lv_has ls 3 [(0, .ref (k 1)), (1, .int i), (2, .int x)] := hl
  have hf9 := hts (.fieldLink RX0 9 "PaddyTerraces$Calendar" "rain" "[I") (by decide +kernel)
  have hf15 := hts (.fieldLink RX0 15 "PaddyTerraces$Calendar" "spring" "[I") (by decide +kernel)
  have hf18 := hts (.fieldLink RX0 18 "PaddyTerraces$Calendar" "draught" "[I") (by decide +kernel)
  have hinX0 : ∀ w ∈ wsX00, w ∈ wsX0_dayNumber := by decide +kernel
  have hS0 := hS
  refine lv_iload_n hx hb dX0_dayNumber_0 rfl (lv_at hl 2 rfl) ?_
  by_cases c_1 : x = 0
  · refine lv_lookup (off := 27) (tgt := 28) hx hb dX0_dayNumber_1 rfl (by rw [c_1]; rfl) (by decide) ?_
    refine lv_aload_n hx hb dX0_dayNumber_28 rfl (lv_at hl 0 rfl) ?_
    refine va_get (D := (dC, dI)) (ci := 0) (v := .ref (k 2)) (C := RX0) (T := TX0) (N := 3) hx hb hts hinX0 hown hK hP 0 rfl rfl 0 (by decide) hf9 (fun _ h9 => h9) rfl dX0_dayNumber_29 ?_
    refine lv_iload_n hx hb dX0_dayNumber_32 rfl (lv_at hl 1 rfl) ?_
    refine va_iald (cA := cI) (n := 30) (f := M 1) hx hb hK hP 1 0 rfl rfl hC dX0_dayNumber_33 ?_
    exact zI_ret hx hb hr hlocks hP hD hS rfl (by first | done | rfl | (simp only [cal_num, if_pos c_1]; done)) dX0_dayNumber_34
  by_cases c_2 : x = 1
  · refine lv_lookup (off := 34) (tgt := 35) hx hb dX0_dayNumber_1 rfl (by rw [c_2]; rfl) (by decide) ?_
    refine lv_aload_n hx hb dX0_dayNumber_35 rfl (lv_at hl 0 rfl) ?_
    refine va_get (D := (dC, dI)) (ci := 0) (v := .ref (k 3)) (C := RX0) (T := TX0) (N := 3) hx hb hts hinX0 hown hK hP 0 rfl rfl 1 (by decide) hf15 (fun _ h9 => h9) rfl dX0_dayNumber_36 ?_
    refine lv_iload_n hx hb dX0_dayNumber_39 rfl (lv_at hl 1 rfl) ?_
    refine va_iald (cA := cI) (n := 30) (f := M 2) hx hb hK hP 2 0 rfl rfl hC dX0_dayNumber_40 ?_
    exact zI_ret hx hb hr hlocks hP hD hS rfl (by first | done | rfl | (simp only [cal_num, if_neg c_1, if_pos c_2]; done)) dX0_dayNumber_41
  refine lv_lookup (off := 41) (tgt := 42) hx hb dX0_dayNumber_1 rfl (by show Op.lookupswitch.offset _ _ _ = _; rw [lv_osw c_1 (by rfl), lv_osw c_2 (by rfl)]; rfl) (by decide) ?_
  refine lv_aload_n hx hb dX0_dayNumber_42 rfl (lv_at hl 0 rfl) ?_
  refine va_get (D := (dC, dI)) (ci := 0) (v := .ref (k 4)) (C := RX0) (T := TX0) (N := 3) hx hb hts hinX0 hown hK hP 0 rfl rfl 2 (by decide) hf18 (fun _ h9 => h9) rfl dX0_dayNumber_43 ?_
  refine lv_iload_n hx hb dX0_dayNumber_46 rfl (lv_at hl 1 rfl) ?_
  refine va_iald (cA := cI) (n := 30) (f := M 3) hx hb hK hP 3 0 rfl rfl hC dX0_dayNumber_47 ?_
  exact zI_ret hx hb hr hlocks hP hD hS rfl (by first | done | rfl | (simp only [cal_num, if_neg c_1, if_neg c_2]; done)) dX0_dayNumber_48
set_option maxHeartbeats 4000000 in
set_option maxRecDepth 100000 in
theorem c_X1_become (l : Launch) (dC : Nat → ClassId) (dI : Nat → Nat → Nat) (cI : ClassId) (k : Nat → Nat) (M : sS) (t f x u v : Int32) : zV l yX1_become wsX1_become { frames := 0, cells := 0, slots := 0, locals := 0 } (dC, dI) cI [.ref (k 5), .int t, .int f, .int x, .int u, .int v] (bW k M) (bW k (mv_set M t f x u v)) := by
  refine zV_of (cc := cX1_become) (maxL := 6) (ret := none) (by decide) rfl (Nat.le_of_ble_eq_true rfl) ?_
  intro p e s m below meth c A ls C0 hl
  obtain ⟨hx, hb, hr, hml, hown, hts, hlocks, hK, hN, hA, hP, hD, hS⟩ := C0
  have hown : s.vm.findClass RX1 = some m.cls := hown
  have hl : lv_has ls 6 [(0, .ref (k 5)), (1, .int t), (2, .int f), (3, .int x), (4, .int u), (5, .int v)] := hl
  have hf15 := hts (.fieldLink RX1 15 "PaddyTerraces$Move" "crops" "I") (by decide +kernel)
  have hf19 := hts (.fieldLink RX1 19 "PaddyTerraces$Move" "hardness" "I") (by decide +kernel)
  have hf22 := hts (.fieldLink RX1 22 "PaddyTerraces$Move" "terrace" "I") (by decide +kernel)
  have hf25 := hts (.fieldLink RX1 25 "PaddyTerraces$Move" "column" "I") (by decide +kernel)
  have hf28 := hts (.fieldLink RX1 28 "PaddyTerraces$Move" "height" "I") (by decide +kernel)
  have hinX1 : ∀ w ∈ wsX10, w ∈ wsX1_become := by decide +kernel
  have hS0 := hS
  refine lv_aload_n hx hb dX1_become_0 rfl (lv_at hl 0 rfl) ?_
  refine lv_iload_n hx hb dX1_become_1 rfl (lv_at hl 1 rfl) ?_
  obtain ⟨S1, eS1⟩ : ∃ z : sS, z = s_put M 4 0 t := ⟨_, rfl⟩
  refine va_put (D := (dC, dI)) (ci := 1) (v := .int t) (ty := .int) (C := RX1) (T := TX1) (N := 5) hx hb hts hinX1 tyX1 tyX1_ok nmX1 hown hK hP hD hS 0 rfl rfl 0 (by decide) hf22 (fun _ h9 => h9) rfl (by decide +kernel) rfl rfl (Nat.le_of_ble_eq_true rfl) dX1_become_2 (fun H locs hP hD hS => ?_)
  have hP : va_P (dC, dI) vwCl (bW k S1) H := by rw [eS1]; exact hP
  have hD : va_D A (bW k S1) := by rw [eS1]; exact hD
  refine lv_aload_n hx hb dX1_become_5 rfl (lv_at hl 0 rfl) ?_
  refine lv_iload_n hx hb dX1_become_6 rfl (lv_at hl 2 rfl) ?_
  obtain ⟨S2, eS2⟩ : ∃ z : sS, z = s_put S1 4 1 f := ⟨_, rfl⟩
  refine va_put (D := (dC, dI)) (ci := 1) (v := .int f) (ty := .int) (C := RX1) (T := TX1) (N := 5) hx hb hts hinX1 tyX1 tyX1_ok nmX1 hown hK hP hD hS 0 rfl rfl 1 (by decide) hf25 (fun _ h9 => h9) rfl (by decide +kernel) rfl rfl (Nat.le_of_ble_eq_true rfl) dX1_become_7 (fun H locs hP hD hS => ?_)
  have hP : va_P (dC, dI) vwCl (bW k S2) H := by rw [eS2]; exact hP
  have hD : va_D A (bW k S2) := by rw [eS2]; exact hD
  refine lv_aload_n hx hb dX1_become_10 rfl (lv_at hl 0 rfl) ?_
  refine lv_iload_n hx hb dX1_become_11 rfl (lv_at hl 3 rfl) ?_
  obtain ⟨S3, eS3⟩ : ∃ z : sS, z = s_put S2 4 2 x := ⟨_, rfl⟩
  refine va_put (D := (dC, dI)) (ci := 1) (v := .int x) (ty := .int) (C := RX1) (T := TX1) (N := 5) hx hb hts hinX1 tyX1 tyX1_ok nmX1 hown hK hP hD hS 0 rfl rfl 2 (by decide) hf28 (fun _ h9 => h9) rfl (by decide +kernel) rfl rfl (Nat.le_of_ble_eq_true rfl) dX1_become_12 (fun H locs hP hD hS => ?_)
  have hP : va_P (dC, dI) vwCl (bW k S3) H := by rw [eS3]; exact hP
  have hD : va_D A (bW k S3) := by rw [eS3]; exact hD
  refine lv_aload_n hx hb dX1_become_15 rfl (lv_at hl 0 rfl) ?_
  refine lv_iload hx hb dX1_become_16 (lv_at hl 4 rfl) ?_
  obtain ⟨S4, eS4⟩ : ∃ z : sS, z = s_put S3 4 3 u := ⟨_, rfl⟩
  refine va_put (D := (dC, dI)) (ci := 1) (v := .int u) (ty := .int) (C := RX1) (T := TX1) (N := 5) hx hb hts hinX1 tyX1 tyX1_ok nmX1 hown hK hP hD hS 0 rfl rfl 3 (by decide) hf15 (fun _ h9 => h9) rfl (by decide +kernel) rfl rfl (Nat.le_of_ble_eq_true rfl) dX1_become_18 (fun H locs hP hD hS => ?_)
  have hP : va_P (dC, dI) vwCl (bW k S4) H := by rw [eS4]; exact hP
  have hD : va_D A (bW k S4) := by rw [eS4]; exact hD
  refine lv_aload_n hx hb dX1_become_21 rfl (lv_at hl 0 rfl) ?_
  refine lv_iload hx hb dX1_become_22 (lv_at hl 5 rfl) ?_
  obtain ⟨S5, eS5⟩ : ∃ z : sS, z = s_put S4 4 4 v := ⟨_, rfl⟩
  refine va_put (D := (dC, dI)) (ci := 1) (v := .int v) (ty := .int) (C := RX1) (T := TX1) (N := 5) hx hb hts hinX1 tyX1 tyX1_ok nmX1 hown hK hP hD hS 0 rfl rfl 4 (by decide) hf19 (fun _ h9 => h9) rfl (by decide +kernel) rfl rfl (Nat.le_of_ble_eq_true rfl) dX1_become_24 (fun H locs hP hD hS => ?_)
  have hP : va_P (dC, dI) vwCl (bW k S5) H := by rw [eS5]; exact hP
  have hD : va_D A (bW k S5) := by rw [eS5]; exact hD
  have hZ : S5 = mv_set M t f x u v := (by (try rw [eS5]); (try rw [eS4]); (try rw [eS3]); (try rw [eS2]); (try rw [eS1]); first | done | rfl | (simp only [mv_set]; done))
  rw [hZ] at hP hD
  exact zV_ret hx hb hr hlocks hP hD hS dX1_become_27
set_option maxHeartbeats 4000000 in
set_option maxRecDepth 100000 in
theorem c_X1_becomeLeaving (l : Launch) (dC : Nat → ClassId) (dI : Nat → Nat → Nat) (cI : ClassId) (k : Nat → Nat) (M : sS) (u v : Int32) : zV l yX1_becomeLeaving wsX1_becomeLeaving { frames := 1, cells := 0, slots := 0, locals := 25 } (dC, dI) cI [.ref (k 5), .int u, .int v] (bW k M) (bW k (mv_set M (-1) (-1) (-1) u v)) := by
  refine zV_of (cc := cX1_becomeLeaving) (maxL := 3) (ret := none) (by decide) rfl (Nat.le_of_ble_eq_true rfl) ?_
  intro p e s m below meth c A ls C0 hl
  obtain ⟨hx, hb, hr, hml, hown, hts, hlocks, hK, hN, hA, hP, hD, hS⟩ := C0
  have hown : s.vm.findClass RX1 = some m.cls := hown
  have hl : lv_has ls 3 [(0, .ref (k 5)), (1, .int u), (2, .int v)] := hl
  have hS0 := hS
  refine lv_aload_n hx hb dX1_becomeLeaving_0 rfl (lv_at hl 0 rfl) ?_
  refine lv_iconst (v := (-1)) hx hb dX1_becomeLeaving_1 (by decide) ?_
  refine lv_iconst (v := (-1)) hx hb dX1_becomeLeaving_2 (by decide) ?_
  refine lv_iconst (v := (-1)) hx hb dX1_becomeLeaving_3 (by decide) ?_
  refine lv_iload_n hx hb dX1_becomeLeaving_4 rfl (lv_at hl 1 rfl) ?_
  refine lv_iload_n hx hb dX1_becomeLeaving_5 rfl (lv_at hl 2 rfl) ?_
  obtain ⟨S1, eS1⟩ : ∃ z : sS, z = mv_set M (-1) (-1) (-1) u v := ⟨_, rfl⟩
  refine zV_V (pre := ([] : va_W)) (wc := bW k M) (post := ([] : va_W)) (w1 := bW k S1) ⟨hx, hb, hml, hown, hts⟩ (by rw [eS1]; exact c_X1_become l dC dI cI k M (-1) (-1) (-1) u v) (cwV 5 hts gX1_becomeLeaving_X1_become rfl rfl rfl (by decide +kernel) ⟨Nat.le_of_ble_eq_true rfl, Nat.le_of_ble_eq_true rfl⟩) (by simp only [List.append_assoc, List.append_nil, List.nil_append]) hK hN (ci := 1) (q0 := 0) rfl rfl rfl hP hD hS hA rfl hl.1 rfl (Nat.le_of_ble_eq_true rfl) dX1_becomeLeaving_6 ⟨Nat.le_of_ble_eq_true rfl, Nat.le_of_ble_eq_true rfl⟩ (fun H locs hP hD hS => ?_)
  have hP : va_P (dC, dI) vwCl (bW k S1) H := by simpa only [List.append_assoc, List.append_nil, List.nil_append] using hP
  have hD : va_D A (bW k S1) := by simpa only [List.append_assoc, List.append_nil, List.nil_append] using hD
  have hZ : S1 = mv_set M (-1) (-1) (-1) u v := (by (try rw [eS1]); first | done | rfl)
  rw [hZ] at hP hD
  exact zV_ret hx hb hr hlocks hP hD hS dX1_becomeLeaving_9
set_option maxHeartbeats 4000000 in
set_option maxRecDepth 100000 in
theorem c_X1_becomeIfBetter (l : Launch) (dC : Nat → ClassId) (dI : Nat → Nat → Nat) (cI : ClassId) (k : Nat → Nat) (M : sS) (t f x u v : Int32) : zV l yX1_becomeIfBetter wsX1_becomeIfBetter { frames := 1, cells := 0, slots := 0, locals := 25 } (dC, dI) cI [.ref (k 5), .int t, .int f, .int x, .int u, .int v] (bW k M) (bW k (mv_better M t f x u v)) := by
  refine zV_of (cc := cX1_becomeIfBetter) (maxL := 6) (ret := none) (by decide) rfl (Nat.le_of_ble_eq_true rfl) ?_
  intro p e s m below meth c A ls C0 hl
  obtain ⟨hx, hb, hr, hml, hown, hts, hlocks, hK, hN, hA, hP, hD, hS⟩ := C0
  have hown : s.vm.findClass RX1 = some m.cls := hown
  have hl : lv_has ls 6 [(0, .ref (k 5)), (1, .int t), (2, .int f), (3, .int x), (4, .int u), (5, .int v)] := hl
  have hf15 := hts (.fieldLink RX1 15 "PaddyTerraces$Move" "crops" "I") (by decide +kernel)
  have hf19 := hts (.fieldLink RX1 19 "PaddyTerraces$Move" "hardness" "I") (by decide +kernel)
  have hinX1 : ∀ w ∈ wsX10, w ∈ wsX1_becomeIfBetter := by decide +kernel
  have hS0 := hS
  refine lv_iload hx hb dX1_becomeIfBetter_0 (lv_at hl 4 rfl) ?_
  refine lv_aload_n hx hb dX1_becomeIfBetter_2 rfl (lv_at hl 0 rfl) ?_
  refine va_get (D := (dC, dI)) (ci := 1) (v := .int (M 4 3)) (C := RX1) (T := TX1) (N := 5) hx hb hts hinX1 hown hK hP 0 rfl rfl 3 (by decide) hf15 (fun _ h9 => h9) rfl dX1_becomeIfBetter_3 ?_
  refine lv_icmp_gt (tgt := 27) hx hb dX1_becomeIfBetter_6 (by decide) (fun c_1 => ?_) (fun c_1 => ?_)
  · refine lv_aload_n hx hb dX1_becomeIfBetter_27 rfl (lv_at hl 0 rfl) ?_
    refine lv_iload_n hx hb dX1_becomeIfBetter_28 rfl (lv_at hl 1 rfl) ?_
    refine lv_iload_n hx hb dX1_becomeIfBetter_29 rfl (lv_at hl 2 rfl) ?_
    refine lv_iload_n hx hb dX1_becomeIfBetter_30 rfl (lv_at hl 3 rfl) ?_
    refine lv_iload hx hb dX1_becomeIfBetter_31 (lv_at hl 4 rfl) ?_
    refine lv_iload hx hb dX1_becomeIfBetter_33 (lv_at hl 5 rfl) ?_
    obtain ⟨S2, eS2⟩ : ∃ z : sS, z = mv_set M t f x u v := ⟨_, rfl⟩
    refine zV_V (pre := ([] : va_W)) (wc := bW k M) (post := ([] : va_W)) (w1 := bW k S2) ⟨hx, hb, hml, hown, hts⟩ (by rw [eS2]; exact c_X1_become l dC dI cI k M t f x u v) (cwV 5 hts gX1_becomeIfBetter_X1_become rfl rfl rfl (by decide +kernel) ⟨Nat.le_of_ble_eq_true rfl, Nat.le_of_ble_eq_true rfl⟩) (by simp only [List.append_assoc, List.append_nil, List.nil_append]) hK hN (ci := 1) (q0 := 0) rfl rfl rfl hP hD hS hA rfl hl.1 rfl (Nat.le_of_ble_eq_true rfl) dX1_becomeIfBetter_35 ⟨Nat.le_of_ble_eq_true rfl, Nat.le_of_ble_eq_true rfl⟩ (fun H locs hP hD hS => ?_)
    have hP : va_P (dC, dI) vwCl (bW k S2) H := by simpa only [List.append_assoc, List.append_nil, List.nil_append] using hP
    have hD : va_D A (bW k S2) := by simpa only [List.append_assoc, List.append_nil, List.nil_append] using hD
    have hZ : S2 = mv_better M t f x u v := (by (try rw [eS2]); first | done | rfl | (simp only [mv_better, if_pos c_1]; done) | (unfold mv_better; simp only [if_pos c_1]; done))
    rw [hZ] at hP hD
    exact zV_ret hx hb hr hlocks hP hD hS dX1_becomeIfBetter_38
  · refine lv_iload hx hb dX1_becomeIfBetter_9 (lv_at hl 4 rfl) ?_
    refine lv_aload_n hx hb dX1_becomeIfBetter_11 rfl (lv_at hl 0 rfl) ?_
    refine va_get (D := (dC, dI)) (ci := 1) (v := .int (M 4 3)) (C := RX1) (T := TX1) (N := 5) hx hb hts hinX1 hown hK hP 0 rfl rfl 3 (by decide) hf15 (fun _ h9 => h9) rfl dX1_becomeIfBetter_12 ?_
    refine lv_icmp_ne (tgt := 38) hx hb dX1_becomeIfBetter_15 (by decide) (fun c_3 => ?_) (fun c_3 => ?_)
    · have hZ : M = mv_better M t f x u v := (by first | done | rfl | (simp only [mv_better, if_neg c_1, if_neg c_3]; done) | (unfold mv_better; simp only [if_neg c_1, if_neg c_3]; done))
      rw [hZ] at hP hD
      exact zV_ret hx hb hr hlocks hP hD hS dX1_becomeIfBetter_38
    · refine lv_iload hx hb dX1_becomeIfBetter_18 (lv_at hl 5 rfl) ?_
      refine lv_aload_n hx hb dX1_becomeIfBetter_20 rfl (lv_at hl 0 rfl) ?_
      refine va_get (D := (dC, dI)) (ci := 1) (v := .int (M 4 4)) (C := RX1) (T := TX1) (N := 5) hx hb hts hinX1 hown hK hP 0 rfl rfl 4 (by decide) hf19 (fun _ h9 => h9) rfl dX1_becomeIfBetter_21 ?_
      refine lv_icmp_le (tgt := 38) hx hb dX1_becomeIfBetter_24 (by decide) (fun c_4 => ?_) (fun c_4 => ?_)
      · have hZ : M = mv_better M t f x u v := (by first | done | rfl | (simp only [mv_better, if_neg c_1, if_pos c_3, if_pos c_4]; done) | (unfold mv_better; simp only [if_neg c_1, if_pos c_3, if_pos c_4]; done))
        rw [hZ] at hP hD
        exact zV_ret hx hb hr hlocks hP hD hS dX1_becomeIfBetter_38
      · refine lv_aload_n hx hb dX1_becomeIfBetter_27 rfl (lv_at hl 0 rfl) ?_
        refine lv_iload_n hx hb dX1_becomeIfBetter_28 rfl (lv_at hl 1 rfl) ?_
        refine lv_iload_n hx hb dX1_becomeIfBetter_29 rfl (lv_at hl 2 rfl) ?_
        refine lv_iload_n hx hb dX1_becomeIfBetter_30 rfl (lv_at hl 3 rfl) ?_
        refine lv_iload hx hb dX1_becomeIfBetter_31 (lv_at hl 4 rfl) ?_
        refine lv_iload hx hb dX1_becomeIfBetter_33 (lv_at hl 5 rfl) ?_
        obtain ⟨S5, eS5⟩ : ∃ z : sS, z = mv_set M t f x u v := ⟨_, rfl⟩
        refine zV_V (pre := ([] : va_W)) (wc := bW k M) (post := ([] : va_W)) (w1 := bW k S5) ⟨hx, hb, hml, hown, hts⟩ (by rw [eS5]; exact c_X1_become l dC dI cI k M t f x u v) (cwV 5 hts gX1_becomeIfBetter_X1_become rfl rfl rfl (by decide +kernel) ⟨Nat.le_of_ble_eq_true rfl, Nat.le_of_ble_eq_true rfl⟩) (by simp only [List.append_assoc, List.append_nil, List.nil_append]) hK hN (ci := 1) (q0 := 0) rfl rfl rfl hP hD hS hA rfl hl.1 rfl (Nat.le_of_ble_eq_true rfl) dX1_becomeIfBetter_35 ⟨Nat.le_of_ble_eq_true rfl, Nat.le_of_ble_eq_true rfl⟩ (fun H locs hP hD hS => ?_)
        have hP : va_P (dC, dI) vwCl (bW k S5) H := by simpa only [List.append_assoc, List.append_nil, List.nil_append] using hP
        have hD : va_D A (bW k S5) := by simpa only [List.append_assoc, List.append_nil, List.nil_append] using hD
        have hZ : S5 = mv_better M t f x u v := (by (try rw [eS5]); first | done | rfl | (simp only [mv_better, if_neg c_1, if_pos c_3, if_neg c_4]; done) | (unfold mv_better; simp only [if_neg c_1, if_pos c_3, if_neg c_4]; done))
        rw [hZ] at hP hD
        exact zV_ret hx hb hr hlocks hP hD hS dX1_becomeIfBetter_38
set_option maxHeartbeats 4000000 in
set_option maxRecDepth 100000 in
theorem c_X1_moveNumber (l : Launch) (dC : Nat → ClassId) (dI : Nat → Nat → Nat) (cI : ClassId) (k : Nat → Nat) (M : sS) (x : Int32) : zI l yX1_moveNumber wsX1_moveNumber { frames := 0, cells := 0, slots := 0, locals := 0 } (dC, dI) cI [.ref (k 5), .int x] (bW k M) (bW k M) (mv_num M x) := by
  refine zI_of (cc := cX1_moveNumber) (maxL := 2) (ret := (some .int)) (by decide) rfl (Nat.le_of_ble_eq_true rfl) ?_
  intro p e s m below meth c A ls C0 hl
  obtain ⟨hx, hb, hr, hml, hown, hts, hlocks, hK, hN, hA, hP, hD, hS⟩ := C0
  have hown : s.vm.findClass RX1 = some m.cls := hown
  have hl : lv_has ls 2 [(0, .ref (k 5)), (1, .int x)] := hl
  have hf22 := hts (.fieldLink RX1 22 "PaddyTerraces$Move" "terrace" "I") (by decide +kernel)
  have hf25 := hts (.fieldLink RX1 25 "PaddyTerraces$Move" "column" "I") (by decide +kernel)
  have hf28 := hts (.fieldLink RX1 28 "PaddyTerraces$Move" "height" "I") (by decide +kernel)
  have hinX1 : ∀ w ∈ wsX10, w ∈ wsX1_moveNumber := by decide +kernel
  have hS0 := hS
  refine lv_iload_n hx hb dX1_moveNumber_0 rfl (lv_at hl 1 rfl) ?_
  by_cases c_1 : x = 0
  · refine lv_lookup (off := 27) (tgt := 28) hx hb dX1_moveNumber_1 rfl (by rw [c_1]; rfl) (by decide) ?_
    refine lv_aload_n hx hb dX1_moveNumber_28 rfl (lv_at hl 0 rfl) ?_
    refine va_get (D := (dC, dI)) (ci := 1) (v := .int (M 4 0)) (C := RX1) (T := TX1) (N := 5) hx hb hts hinX1 hown hK hP 0 rfl rfl 0 (by decide) hf22 (fun _ h9 => h9) rfl dX1_moveNumber_29 ?_
    exact zI_ret hx hb hr hlocks hP hD hS rfl (by first | done | rfl | (simp only [mv_num, if_pos c_1]; done)) dX1_moveNumber_32
  by_cases c_2 : x = 1
  · refine lv_lookup (off := 32) (tgt := 33) hx hb dX1_moveNumber_1 rfl (by rw [c_2]; rfl) (by decide) ?_
    refine lv_aload_n hx hb dX1_moveNumber_33 rfl (lv_at hl 0 rfl) ?_
    refine va_get (D := (dC, dI)) (ci := 1) (v := .int (M 4 1)) (C := RX1) (T := TX1) (N := 5) hx hb hts hinX1 hown hK hP 0 rfl rfl 1 (by decide) hf25 (fun _ h9 => h9) rfl dX1_moveNumber_34 ?_
    exact zI_ret hx hb hr hlocks hP hD hS rfl (by first | done | rfl | (simp only [mv_num, if_neg c_1, if_pos c_2]; done)) dX1_moveNumber_37
  refine lv_lookup (off := 37) (tgt := 38) hx hb dX1_moveNumber_1 rfl (by show Op.lookupswitch.offset _ _ _ = _; rw [lv_osw c_1 (by rfl), lv_osw c_2 (by rfl)]; rfl) (by decide) ?_
  refine lv_aload_n hx hb dX1_moveNumber_38 rfl (lv_at hl 0 rfl) ?_
  refine va_get (D := (dC, dI)) (ci := 1) (v := .int (M 4 2)) (C := RX1) (T := TX1) (N := 5) hx hb hts hinX1 hown hK hP 0 rfl rfl 2 (by decide) hf28 (fun _ h9 => h9) rfl dX1_moveNumber_39 ?_
  exact zI_ret hx hb hr hlocks hP hD hS rfl (by first | done | rfl | (simp only [mv_num, if_neg c_1, if_neg c_2]; done)) dX1_moveNumber_42

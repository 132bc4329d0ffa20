set_option maxHeartbeats 4000000 in
set_option maxRecDepth 100000 in
theorem c_X3_lay (l : Launch) (dC : Nat → ClassId) (dI : Nat → Nat → Nat) (cI : ClassId) (k b t : Nat → Nat) (h w : Nat) (M B S T : sS) (u v : Int32)  (hT : lay_T u v = 0) : zI l yX3_lay wsX3_lay { frames := 2, cells := 0, slots := 0, locals := 46 } (dC, dI) cI [.ref (k 0), .int u, .int v] (oW k b t M ++ kW cI k M ++ bW k B ++ sW cI b S ++ sW cI t T) (oW k b t (lay_M M) ++ kW cI k (lay_M M) ++ bW k B ++ sW cI b (sl_new u v) ++ sW cI t T) (sl_cells (sl_new u v)) := by
  refine zI_of (cc := cX3_lay) (maxL := 3) (ret := (some .int)) (by decide) rfl (Nat.le_of_ble_eq_true rfl) ?_
  intro p e s m below meth c A ls C0 hl
  obtain ⟨hx, hb, hr, hml, hown, hts, hlocks, hK, hN, hA, hP, hD, hS⟩ := C0
  have hown : s.vm.findClass RX3 = some m.cls := hown
  have hl : lv_has ls 3 [(0, .ref (k 0)), (1, .int u), (2, .int v)] := hl
  have hf21 := hts (.fieldLink RX3 21 "PaddyTerraces" "slope" "LPaddyTerraces$Slope;") (by decide +kernel)
  have hf49 := hts (.fieldLink RX3 49 "PaddyTerraces" "reaped" "I") (by decide +kernel)
  have hf53 := hts (.fieldLink RX3 53 "PaddyTerraces" "moved" "I") (by decide +kernel)
  have hinX3 : ∀ w ∈ wsX30, w ∈ wsX3_lay := by decide +kernel
  have hS0 := hS
  refine lv_iload_n hx hb dX3_lay_0 rfl (lv_at hl 1 rfl) ?_
  refine lv_iconst (v := 2) hx hb dX3_lay_1 (by decide) ?_
  refine lv_bipush (v := 8) hx hb dX3_lay_2 (by decide) ?_
  refine zI_S (pre := (oW k b t M ++ kW cI k M ++ bW k B ++ sW cI b S ++ sW cI t T)) (wc := ([] : va_W)) (post := ([] : va_W)) (w1 := ([] : va_W)) ⟨hx, hb, hml, hown, hts⟩ (c_X3_isWithin l dC dI cI u 2 8) (va_cwS 3 hts gX3_lay_X3_isWithin rfl rfl rfl (by decide +kernel) ⟨Nat.le_of_ble_eq_true rfl, Nat.le_of_ble_eq_true rfl⟩) (by simp only [List.append_assoc, List.append_nil, List.nil_append]) hK hN hP hD hS hA rfl hl.1 rfl (Nat.le_of_ble_eq_true rfl) dX3_lay_4 ⟨Nat.le_of_ble_eq_true rfl, Nat.le_of_ble_eq_true rfl⟩ (fun H locs hP hD hS => ?_)
  have hP : va_P (dC, dI) vwCl (oW k b t M ++ kW cI k M ++ bW k B ++ sW cI b S ++ sW cI t T) H := by simpa only [List.append_assoc, List.append_nil, List.nil_append] using hP
  have hD : va_D A (oW k b t M ++ kW cI k M ++ bW k B ++ sW cI b S ++ sW cI t T) := by simpa only [List.append_assoc, List.append_nil, List.nil_append] using hD
  refine lv_if_eq (tgt := 20) hx hb dX3_lay_7 (by decide) (fun c_1 => ?_) (fun c_1 => ?_)
  · have hT9 : lay_T u v = 1 := by simp only [lay_T, if_pos c_1]
    exact absurd (hT.symm.trans hT9) (by decide)
  · refine lv_iload_n hx hb dX3_lay_10 rfl (lv_at hl 2 rfl) ?_
    refine lv_iconst (v := 2) hx hb dX3_lay_11 (by decide) ?_
    refine lv_bipush (v := 8) hx hb dX3_lay_12 (by decide) ?_
    refine zI_S (pre := (oW k b t M ++ kW cI k M ++ bW k B ++ sW cI b S ++ sW cI t T)) (wc := ([] : va_W)) (post := ([] : va_W)) (w1 := ([] : va_W)) ⟨hx, hb, hml, hown, hts⟩ (c_X3_isWithin l dC dI cI v 2 8) (va_cwS 3 hts gX3_lay_X3_isWithin rfl rfl rfl (by decide +kernel) ⟨Nat.le_of_ble_eq_true rfl, Nat.le_of_ble_eq_true rfl⟩) (by simp only [List.append_assoc, List.append_nil, List.nil_append]) hK hN hP hD hS hA rfl hl.1 rfl (Nat.le_of_ble_eq_true rfl) dX3_lay_14 ⟨Nat.le_of_ble_eq_true rfl, Nat.le_of_ble_eq_true rfl⟩ (fun H locs hP hD hS => ?_)
    have hP : va_P (dC, dI) vwCl (oW k b t M ++ kW cI k M ++ bW k B ++ sW cI b S ++ sW cI t T) H := by simpa only [List.append_assoc, List.append_nil, List.nil_append] using hP
    have hD : va_D A (oW k b t M ++ kW cI k M ++ bW k B ++ sW cI b S ++ sW cI t T) := by simpa only [List.append_assoc, List.append_nil, List.nil_append] using hD
    refine lv_if_ne (tgt := 30) hx hb dX3_lay_17 (by decide) (fun c_2 => ?_) (fun c_2 => ?_)
    · refine lv_aload_n hx hb dX3_lay_30 rfl (lv_at hl 0 rfl) ?_
      refine va_get (D := (dC, dI)) (ci := 3) (v := .ref (b 0)) (C := RX3) (T := TX3) (N := 6) hx hb hts hinX3 hown hK hP 0 rfl rfl 1 (by decide) hf21 (fun _ h9 => h9) rfl dX3_lay_31 ?_
      refine lv_iload_n hx hb dX3_lay_34 rfl (lv_at hl 1 rfl) ?_
      refine lv_iload_n hx hb dX3_lay_35 rfl (lv_at hl 2 rfl) ?_
      obtain ⟨S3, eS3⟩ : ∃ z : sS, z = sl_new u v := ⟨_, rfl⟩
      refine zV_V (pre := (oW k b t M ++ kW cI k M ++ bW k B)) (wc := sW cI b S) (post := (sW cI t T)) (w1 := sW cI b S3) ⟨hx, hb, hml, hown, hts⟩ (by rw [eS3]; exact c_X2_startAnew l dC dI cI b S u v) (cwV 2 hts gX3_lay_X2_startAnew rfl rfl rfl (by decide +kernel) ⟨Nat.le_of_ble_eq_true rfl, Nat.le_of_ble_eq_true rfl⟩) (by simp only [List.append_assoc, List.append_nil, List.nil_append]) hK hN (ci := 2) (q0 := 0) rfl rfl rfl hP hD hS hA rfl hl.1 rfl (Nat.le_of_ble_eq_true rfl) dX3_lay_36 ⟨Nat.le_of_ble_eq_true rfl, Nat.le_of_ble_eq_true rfl⟩ (fun H locs hP hD hS => ?_)
      have hP : va_P (dC, dI) vwCl (oW k b t M ++ kW cI k M ++ bW k B ++ sW cI b S3 ++ sW cI t T) H := by simpa only [List.append_assoc, List.append_nil, List.nil_append] using hP
      have hD : va_D A (oW k b t M ++ kW cI k M ++ bW k B ++ sW cI b S3 ++ sW cI t T) := by simpa only [List.append_assoc, List.append_nil, List.nil_append] using hD
      refine lv_aload_n hx hb dX3_lay_39 rfl (lv_at hl 0 rfl) ?_
      refine lv_iconst (v := 0) hx hb dX3_lay_40 (by decide) ?_
      obtain ⟨S4, eS4⟩ : ∃ z : sS, z = s_put M 0 0 0 := ⟨_, rfl⟩
      refine va_put (D := (dC, dI)) (ci := 3) (v := .int 0) (ty := .int) (C := RX3) (T := TX3) (N := 6) hx hb hts hinX3 tyX3 tyX3_ok nmX3 hown hK hP hD hS 0 rfl rfl 4 (by decide) hf49 (fun _ h9 => h9) rfl (by decide +kernel) rfl rfl (Nat.le_of_ble_eq_true rfl) dX3_lay_41 (fun H locs hP hD hS => ?_)
      have hP : va_P (dC, dI) vwCl (oW k b t S4 ++ kW cI k S4 ++ bW k B ++ sW cI b S3 ++ sW cI t T) H := by rw [eS4]; exact hP
      have hD : va_D A (oW k b t S4 ++ kW cI k S4 ++ bW k B ++ sW cI b S3 ++ sW cI t T) := by rw [eS4]; exact hD
      refine lv_aload_n hx hb dX3_lay_44 rfl (lv_at hl 0 rfl) ?_
      refine lv_iconst (v := 0) hx hb dX3_lay_45 (by decide) ?_
      obtain ⟨S5, eS5⟩ : ∃ z : sS, z = s_put S4 0 1 0 := ⟨_, rfl⟩
      refine va_put (D := (dC, dI)) (ci := 3) (v := .int 0) (ty := .int) (C := RX3) (T := TX3) (N := 6) hx hb hts hinX3 tyX3 tyX3_ok nmX3 hown hK hP hD hS 0 rfl rfl 5 (by decide) hf53 (fun _ h9 => h9) rfl (by decide +kernel) rfl rfl (Nat.le_of_ble_eq_true rfl) dX3_lay_46 (fun H locs hP hD hS => ?_)
      have hP : va_P (dC, dI) vwCl (oW k b t S5 ++ kW cI k S5 ++ bW k B ++ sW cI b S3 ++ sW cI t T) H := by rw [eS5]; exact hP
      have hD : va_D A (oW k b t S5 ++ kW cI k S5 ++ bW k B ++ sW cI b S3 ++ sW cI t T) := by rw [eS5]; exact hD
      refine lv_aload_n hx hb dX3_lay_49 rfl (lv_at hl 0 rfl) ?_
      refine va_get (D := (dC, dI)) (ci := 3) (v := .ref (b 0)) (C := RX3) (T := TX3) (N := 6) hx hb hts hinX3 hown hK hP 0 rfl rfl 1 (by decide) hf21 (fun _ h9 => h9) rfl dX3_lay_50 ?_
      refine zI_V (pre := (oW k b t S5 ++ kW cI k S5 ++ bW k B)) (wc := sW cI b S3) (post := (sW cI t T)) (w1 := sW cI b S3) ⟨hx, hb, hml, hown, hts⟩ (c_X2_cells l dC dI cI b S3) (cwV 0 hts gX3_lay_X2_cells rfl rfl rfl (by decide +kernel) ⟨Nat.le_of_ble_eq_true rfl, Nat.le_of_ble_eq_true rfl⟩) (by simp only [List.append_assoc, List.append_nil, List.nil_append]) hK hN (ci := 2) (q0 := 0) rfl rfl rfl hP hD hS hA rfl hl.1 rfl (Nat.le_of_ble_eq_true rfl) dX3_lay_53 ⟨Nat.le_of_ble_eq_true rfl, Nat.le_of_ble_eq_true rfl⟩ (fun H locs hP hD hS => ?_)
      have hP : va_P (dC, dI) vwCl (oW k b t S5 ++ kW cI k S5 ++ bW k B ++ sW cI b S3 ++ sW cI t T) H := by simpa only [List.append_assoc, List.append_nil, List.nil_append] using hP
      have hD : va_D A (oW k b t S5 ++ kW cI k S5 ++ bW k B ++ sW cI b S3 ++ sW cI t T) := by simpa only [List.append_assoc, List.append_nil, List.nil_append] using hD
      have hZ : S3 = sl_new u v := (by (try rw [eS5]); (try rw [eS4]); (try rw [eS3]); first | done | rfl | (simp only [lay_M, if_neg c_1, if_neg c_2]; done) | (unfold lay_M; simp only [if_neg c_1, if_neg c_2]; done))
      rw [hZ] at hP hD
      have hZ : S5 = lay_M M := (by (try rw [eS5]); (try rw [eS4]); (try rw [eS3]); first | done | rfl | (simp only [lay_M, if_neg c_1, if_neg c_2]; done) | (unfold lay_M; simp only [if_neg c_1, if_neg c_2]; done))
      rw [hZ] at hP hD
      exact zI_ret hx hb hr hlocks hP hD hS rfl (by (try rw [eS5]); (try rw [eS4]); (try rw [eS3]); first | done | rfl | (simp only [lay_M, if_neg c_1, if_neg c_2]; done)) dX3_lay_56
    · have hT9 : lay_T u v = 1 := by simp only [lay_T, if_neg c_1, if_pos c_2]
      exact absurd (hT.symm.trans hT9) (by decide)
set_option maxHeartbeats 4000000 in
set_option maxRecDepth 100000 in
theorem c_X3_setField (l : Launch) (dC : Nat → ClassId) (dI : Nat → Nat → Nat) (cI : ClassId) (k b t : Nat → Nat) (h w : Nat) (M B S T : sS) (y f u v : Int32) (hG0 : geo h w S) (hT : set_T S y f u v = 0) : zI l yX3_setField wsX3_setField { frames := 1, cells := 0, slots := 0, locals := 22 } (dC, dI) cI [.ref (k 0), .int y, .int f, .int u, .int v] (oW k b t M ++ kW cI k M ++ bW k B ++ sW cI b S ++ sW cI t T) (oW k b t M ++ kW cI k M ++ bW k B ++ sW cI b (set_S S y f u v) ++ sW cI t T) (S 3 (sl_k S y f)) := by
  refine zI_of (cc := cX3_setField) (maxL := 7) (ret := (some .int)) (by decide) rfl (Nat.le_of_ble_eq_true rfl) ?_
  intro p e s m below meth c A ls C0 hl
  obtain ⟨hx, hb, hr, hml, hown, hts, hlocks, hK, hN, hA, hP, hD, hS⟩ := C0
  have hown : s.vm.findClass RX3 = some m.cls := hown
  have hl : lv_has ls 7 [(0, .ref (k 0)), (1, .int y), (2, .int f), (3, .int u), (4, .int v)] := hl
  have hf21 := hts (.fieldLink RX3 21 "PaddyTerraces" "slope" "LPaddyTerraces$Slope;") (by decide +kernel)
  have hf75 := hts (.fieldLink RX3 75 "PaddyTerraces$Slope" "bank" "[I") (by decide +kernel)
  have hf79 := hts (.fieldLink RX3 79 "PaddyTerraces$Slope" "seepage" "[I") (by decide +kernel)
  have hf82 := hts (.fieldLink RX3 82 "PaddyTerraces$Slope" "stone" "[I") (by decide +kernel)
  have hc_min := hts (.code Lib.Math.min.name Lib.Math.min.code 2 (some .int)) (by decide +kernel)
  have hi_Math := hts (.initialized "java/lang/Math") (by decide +kernel)
  have hm85 := hts (.methodLink RX3 85 Lib.Math.min.name) (by decide +kernel)
  have hs_min := hts (.static Lib.Math.min.name) (by decide +kernel)
  have hinX2 : ∀ w ∈ wsX20, w ∈ wsX3_setField := by decide +kernel
  have hinX3 : ∀ w ∈ wsX30, w ∈ wsX3_setField := by decide +kernel
  have hS0 := hS
  have hN64 := geo_hw hG0
  obtain ⟨-, -, hh2, hh8, hw2, hw8⟩ := id hG0
  refine lv_aload_n hx hb dX3_setField_0 rfl (lv_at hl 0 rfl) ?_
  refine va_get (D := (dC, dI)) (ci := 3) (v := .ref (b 0)) (C := RX3) (T := TX3) (N := 6) hx hb hts hinX3 hown hK hP 0 rfl rfl 1 (by decide) hf21 (fun _ h9 => h9) rfl dX3_setField_1 ?_
  refine lv_iload_n hx hb dX3_setField_4 rfl (lv_at hl 1 rfl) ?_
  refine lv_iload_n hx hb dX3_setField_5 rfl (lv_at hl 2 rfl) ?_
  refine zI_V (pre := (oW k b t M ++ kW cI k M ++ bW k B)) (wc := sW cI b S) (post := (sW cI t T)) (w1 := sW cI b S) ⟨hx, hb, hml, hown, hts⟩ (c_X2_hasField l dC dI cI b S y f) (cwV 2 hts gX3_setField_X2_hasField rfl rfl rfl (by decide +kernel) ⟨Nat.le_of_ble_eq_true rfl, Nat.le_of_ble_eq_true rfl⟩) (by simp only [List.append_assoc, List.append_nil, List.nil_append]) hK hN (ci := 2) (q0 := 0) rfl rfl rfl hP hD hS hA rfl hl.1 rfl (Nat.le_of_ble_eq_true rfl) dX3_setField_6 ⟨Nat.le_of_ble_eq_true rfl, Nat.le_of_ble_eq_true rfl⟩ (fun H locs hP hD hS => ?_)
  have hP : va_P (dC, dI) vwCl (oW k b t M ++ kW cI k M ++ bW k B ++ sW cI b S ++ sW cI t T) H := by simpa only [List.append_assoc, List.append_nil, List.nil_append] using hP
  have hD : va_D A (oW k b t M ++ kW cI k M ++ bW k B ++ sW cI b S ++ sW cI t T) := by simpa only [List.append_assoc, List.append_nil, List.nil_append] using hD
  refine lv_if_ne (tgt := 22) hx hb dX3_setField_9 (by decide) (fun c_1 => ?_) (fun c_1 => ?_)
  · refine lv_iload_n hx hb dX3_setField_22 rfl (lv_at hl 3 rfl) ?_
    refine lv_bipush (v := 20) hx hb dX3_setField_23 (by decide) ?_
    refine lv_bipush (v := 120) hx hb dX3_setField_25 (by decide) ?_
    refine zI_S (pre := (oW k b t M ++ kW cI k M ++ bW k B ++ sW cI b S ++ sW cI t T)) (wc := ([] : va_W)) (post := ([] : va_W)) (w1 := ([] : va_W)) ⟨hx, hb, hml, hown, hts⟩ (c_X3_isWithin l dC dI cI u 20 120) (va_cwS 3 hts gX3_setField_X3_isWithin rfl rfl rfl (by decide +kernel) ⟨Nat.le_of_ble_eq_true rfl, Nat.le_of_ble_eq_true rfl⟩) (by simp only [List.append_assoc, List.append_nil, List.nil_append]) hK hN hP hD hS hA rfl hl.1 rfl (Nat.le_of_ble_eq_true rfl) dX3_setField_27 ⟨Nat.le_of_ble_eq_true rfl, Nat.le_of_ble_eq_true rfl⟩ (fun H locs hP hD hS => ?_)
    have hP : va_P (dC, dI) vwCl (oW k b t M ++ kW cI k M ++ bW k B ++ sW cI b S ++ sW cI t T) H := by simpa only [List.append_assoc, List.append_nil, List.nil_append] using hP
    have hD : va_D A (oW k b t M ++ kW cI k M ++ bW k B ++ sW cI b S ++ sW cI t T) := by simpa only [List.append_assoc, List.append_nil, List.nil_append] using hD
    refine lv_if_eq (tgt := 44) hx hb dX3_setField_30 (by decide) (fun c_2 => ?_) (fun c_2 => ?_)
    · have hT9 : set_T S y f u v = 2 := by simp only [set_T, if_neg c_1, if_pos c_2]
      exact absurd (hT.symm.trans hT9) (by decide)
    · refine lv_iload hx hb dX3_setField_33 (lv_at hl 4 rfl) ?_
      refine lv_iconst (v := 0) hx hb dX3_setField_35 (by decide) ?_
      refine lv_bipush (v := 9) hx hb dX3_setField_36 (by decide) ?_
      refine zI_S (pre := (oW k b t M ++ kW cI k M ++ bW k B ++ sW cI b S ++ sW cI t T)) (wc := ([] : va_W)) (post := ([] : va_W)) (w1 := ([] : va_W)) ⟨hx, hb, hml, hown, hts⟩ (c_X3_isWithin l dC dI cI v 0 9) (va_cwS 3 hts gX3_setField_X3_isWithin rfl rfl rfl (by decide +kernel) ⟨Nat.le_of_ble_eq_true rfl, Nat.le_of_ble_eq_true rfl⟩) (by simp only [List.append_assoc, List.append_nil, List.nil_append]) hK hN hP hD hS hA rfl hl.1 rfl (Nat.le_of_ble_eq_true rfl) dX3_setField_38 ⟨Nat.le_of_ble_eq_true rfl, Nat.le_of_ble_eq_true rfl⟩ (fun H locs hP hD hS => ?_)
      have hP : va_P (dC, dI) vwCl (oW k b t M ++ kW cI k M ++ bW k B ++ sW cI b S ++ sW cI t T) H := by simpa only [List.append_assoc, List.append_nil, List.nil_append] using hP
      have hD : va_D A (oW k b t M ++ kW cI k M ++ bW k B ++ sW cI b S ++ sW cI t T) := by simpa only [List.append_assoc, List.append_nil, List.nil_append] using hD
      refine lv_if_ne (tgt := 54) hx hb dX3_setField_41 (by decide) (fun c_3 => ?_) (fun c_3 => ?_)
      · refine lv_aload_n hx hb dX3_setField_54 rfl (lv_at hl 0 rfl) ?_
        refine va_get (D := (dC, dI)) (ci := 3) (v := .ref (b 0)) (C := RX3) (T := TX3) (N := 6) hx hb hts hinX3 hown hK hP 0 rfl rfl 1 (by decide) hf21 (fun _ h9 => h9) rfl dX3_setField_55 ?_
        refine lv_iload_n hx hb dX3_setField_58 rfl (lv_at hl 1 rfl) ?_
        refine lv_iload_n hx hb dX3_setField_59 rfl (lv_at hl 2 rfl) ?_
        refine zI_V (pre := (oW k b t M ++ kW cI k M ++ bW k B)) (wc := sW cI b S) (post := (sW cI t T)) (w1 := sW cI b S) ⟨hx, hb, hml, hown, hts⟩ (c_X2_cellOf l dC dI cI b S y f) (cwV 2 hts gX3_setField_X2_cellOf rfl rfl rfl (by decide +kernel) ⟨Nat.le_of_ble_eq_true rfl, Nat.le_of_ble_eq_true rfl⟩) (by simp only [List.append_assoc, List.append_nil, List.nil_append]) hK hN (ci := 2) (q0 := 0) rfl rfl rfl hP hD hS hA rfl hl.1 rfl (Nat.le_of_ble_eq_true rfl) dX3_setField_60 ⟨Nat.le_of_ble_eq_true rfl, Nat.le_of_ble_eq_true rfl⟩ (fun H locs hP hD hS => ?_)
        have hP : va_P (dC, dI) vwCl (oW k b t M ++ kW cI k M ++ bW k B ++ sW cI b S ++ sW cI t T) H := by simpa only [List.append_assoc, List.append_nil, List.nil_append] using hP
        have hD : va_D A (oW k b t M ++ kW cI k M ++ bW k B ++ sW cI b S ++ sW cI t T) := by simpa only [List.append_assoc, List.append_nil, List.nil_append] using hD
        refine lv_istore (lv' := [(5, .int (sl_at S y f)), (0, .ref (k 0)), (1, .int y), (2, .int f), (3, .int u), (4, .int v)]) hx hb dX3_setField_63 hl (by decide) rfl (fun ls hl => ?_)
        refine lv_aload_n hx hb dX3_setField_65 rfl (lv_at hl 1 rfl) ?_
        refine va_get (D := (dC, dI)) (ci := 3) (v := .ref (b 0)) (C := RX3) (T := TX3) (N := 6) hx hb hts hinX3 hown hK hP 0 rfl rfl 1 (by decide) hf21 (fun _ h9 => h9) rfl dX3_setField_66 ?_
        refine va_get (D := (dC, dI)) (ci := 2) (v := .ref (b 3)) (C := RX2) (T := TX2) (N := 18) hx hb hts hinX2 hown hK hP 6 rfl rfl 7 (by decide) hf75 (fun _ h9 => h9) rfl dX3_setField_69 ?_
        refine lv_iload hx hb dX3_setField_72 (lv_at hl 0 rfl) ?_
        refine va_iald (cA := cI) (n := 64) (f := S 3) hx hb hK hP 9 0 rfl rfl (geo_in hG0 c_1) dX3_setField_74 ?_
        refine lv_istore (lv' := [(6, .int (S 3 (sl_at S y f).toNatClampNeg)), (5, .int (sl_at S y f)), (0, .ref (k 0)), (1, .int y), (2, .int f), (3, .int u), (4, .int v)]) hx hb dX3_setField_75 hl (by decide) rfl (fun ls hl => ?_)
        refine lv_aload_n hx hb dX3_setField_77 rfl (lv_at hl 2 rfl) ?_
        refine va_get (D := (dC, dI)) (ci := 3) (v := .ref (b 0)) (C := RX3) (T := TX3) (N := 6) hx hb hts hinX3 hown hK hP 0 rfl rfl 1 (by decide) hf21 (fun _ h9 => h9) rfl dX3_setField_78 ?_
        refine va_get (D := (dC, dI)) (ci := 2) (v := .ref (b 3)) (C := RX2) (T := TX2) (N := 18) hx hb hts hinX2 hown hK hP 6 rfl rfl 7 (by decide) hf75 (fun _ h9 => h9) rfl dX3_setField_81 ?_
        refine lv_iload hx hb dX3_setField_84 (lv_at hl 1 rfl) ?_
        refine lv_iload_n hx hb dX3_setField_86 rfl (lv_at hl 5 rfl) ?_
        obtain ⟨S4, eS4⟩ : ∃ z : sS, z = s_put S 3 ((sl_at S y f).toNatClampNeg) u := ⟨_, rfl⟩
        refine va_iast (cA := cI) (n := 64) (f := S 3) hx hb hK hP hD hS 9 0 rfl rfl (geo_in hG0 c_1) dX3_setField_87 (fun H locs hP hD hS => ?_)
        have hP : va_P (dC, dI) vwCl (oW k b t M ++ kW cI k M ++ bW k B ++ sW cI b S4 ++ sW cI t T) H := by rw [eS4]; exact hP
        have hD : va_D A (oW k b t M ++ kW cI k M ++ bW k B ++ sW cI b S4 ++ sW cI t T) := by rw [eS4]; exact hD
        have hGS4 : geo h w S4 := by rw [eS4]; exact geo_put hG0 (Or.inl (by decide)) _
        refine lv_aload_n hx hb dX3_setField_88 rfl (lv_at hl 2 rfl) ?_
        refine va_get (D := (dC, dI)) (ci := 3) (v := .ref (b 0)) (C := RX3) (T := TX3) (N := 6) hx hb hts hinX3 hown hK hP 0 rfl rfl 1 (by decide) hf21 (fun _ h9 => h9) rfl dX3_setField_89 ?_
        refine va_get (D := (dC, dI)) (ci := 2) (v := .ref (b 4)) (C := RX2) (T := TX2) (N := 18) hx hb hts hinX2 hown hK hP 6 rfl rfl 8 (by decide) hf79 (fun _ h9 => h9) rfl dX3_setField_92 ?_
        refine lv_iload hx hb dX3_setField_95 (lv_at hl 1 rfl) ?_
        refine lv_iload hx hb dX3_setField_97 (lv_at hl 6 rfl) ?_
        obtain ⟨S5, eS5⟩ : ∃ z : sS, z = s_put S4 4 ((sl_at S y f).toNatClampNeg) v := ⟨_, rfl⟩
        refine va_iast (cA := cI) (n := 64) (f := S4 4) hx hb hK hP hD hS 10 0 rfl rfl (geo_in hG0 c_1) dX3_setField_99 (fun H locs hP hD hS => ?_)
        have hP : va_P (dC, dI) vwCl (oW k b t M ++ kW cI k M ++ bW k B ++ sW cI b S5 ++ sW cI t T) H := by rw [eS5]; exact hP
        have hD : va_D A (oW k b t M ++ kW cI k M ++ bW k B ++ sW cI b S5 ++ sW cI t T) := by rw [eS5]; exact hD
        have hGS5 : geo h w S5 := by rw [eS5]; exact geo_put hGS4 (Or.inl (by decide)) _
        refine lv_aload_n hx hb dX3_setField_100 rfl (lv_at hl 2 rfl) ?_
        refine va_get (D := (dC, dI)) (ci := 3) (v := .ref (b 0)) (C := RX3) (T := TX3) (N := 6) hx hb hts hinX3 hown hK hP 0 rfl rfl 1 (by decide) hf21 (fun _ h9 => h9) rfl dX3_setField_101 ?_
        refine va_get (D := (dC, dI)) (ci := 2) (v := .ref (b 5)) (C := RX2) (T := TX2) (N := 18) hx hb hts hinX2 hown hK hP 6 rfl rfl 9 (by decide) hf82 (fun _ h9 => h9) rfl dX3_setField_104 ?_
        refine lv_iload hx hb dX3_setField_107 (lv_at hl 1 rfl) ?_
        refine lv_aload_n hx hb dX3_setField_109 rfl (lv_at hl 2 rfl) ?_
        refine va_get (D := (dC, dI)) (ci := 3) (v := .ref (b 0)) (C := RX3) (T := TX3) (N := 6) hx hb hts hinX3 hown hK hP 0 rfl rfl 1 (by decide) hf21 (fun _ h9 => h9) rfl dX3_setField_110 ?_
        refine va_get (D := (dC, dI)) (ci := 2) (v := .ref (b 5)) (C := RX2) (T := TX2) (N := 18) hx hb hts hinX2 hown hK hP 6 rfl rfl 9 (by decide) hf82 (fun _ h9 => h9) rfl dX3_setField_113 ?_
        refine lv_iload hx hb dX3_setField_116 (lv_at hl 1 rfl) ?_
        refine va_iald (cA := cI) (n := 64) (f := S5 5) hx hb hK hP 11 0 rfl rfl (geo_in hG0 c_1) dX3_setField_118 ?_
        refine lv_iload_n hx hb dX3_setField_119 rfl (lv_at hl 5 rfl) ?_
        refine va_mmin hx hb (hml.trans hl.1.symm) hown hm85 hs_min hi_Math hc_min (Nat.le_of_ble_eq_true rfl) (Nat.le_of_ble_eq_true rfl) (Nat.le_of_ble_eq_true rfl) (Nat.le_of_ble_eq_true rfl) dX3_setField_120 ?_
        obtain ⟨S6, eS6⟩ : ∃ z : sS, z = s_put S5 5 ((sl_at S y f).toNatClampNeg) (zmin (S5 5 (sl_at S y f).toNatClampNeg) u) := ⟨_, rfl⟩
        refine va_iast (cA := cI) (n := 64) (f := S5 5) hx hb hK hP hD hS 11 0 rfl rfl (geo_in hG0 c_1) dX3_setField_123 (fun H locs hP hD hS => ?_)
        have hP : va_P (dC, dI) vwCl (oW k b t M ++ kW cI k M ++ bW k B ++ sW cI b S6 ++ sW cI t T) H := by rw [eS6]; exact hP
        have hD : va_D A (oW k b t M ++ kW cI k M ++ bW k B ++ sW cI b S6 ++ sW cI t T) := by rw [eS6]; exact hD
        have hGS6 : geo h w S6 := by rw [eS6]; exact geo_put hGS5 (Or.inl (by decide)) _
        refine lv_iload hx hb dX3_setField_124 (lv_at hl 0 rfl) ?_
        have hZ : S6 = set_S S y f u v := (by (try rw [eS6]); (try rw [eS5]); (try rw [eS4]); first | done | rfl | (simp only [set_S, if_neg c_1, if_neg c_2, if_neg c_3]; done) | (unfold set_S; simp only [if_neg c_1, if_neg c_2, if_neg c_3]; done))
        rw [hZ] at hP hD
        exact zI_ret hx hb hr hlocks hP hD hS rfl (by (try rw [eS6]); (try rw [eS5]); (try rw [eS4]); first | done | rfl | (simp only [set_S, if_neg c_1, if_neg c_2, if_neg c_3]; done)) dX3_setField_126
      · have hT9 : set_T S y f u v = 2 := by simp only [set_T, if_neg c_1, if_neg c_2, if_pos c_3]
        exact absurd (hT.symm.trans hT9) (by decide)
  · have hT9 : set_T S y f u v = 1 := by simp only [set_T, if_pos c_1]
    exact absurd (hT.symm.trans hT9) (by decide)
set_option maxHeartbeats 4000000 in
set_option maxRecDepth 100000 in
theorem c_X3_moveStone (l : Launch) (dC : Nat → ClassId) (dI : Nat → Nat → Nat) (cI : ClassId) (k b t : Nat → Nat) (h w : Nat) (M B S T : sS) (y f x : Int32) (hG0 : geo h w S) (hT : mov_T S y f x = 0) : zI l yX3_moveStone wsX3_moveStone { frames := 1, cells := 0, slots := 0, locals := 22 } (dC, dI) cI [.ref (k 0), .int y, .int f, .int x] (oW k b t M ++ kW cI k M ++ bW k B ++ sW cI b S ++ sW cI t T) (oW k b t (mov_M M S y f x) ++ kW cI k (mov_M M S y f x) ++ bW k B ++ sW cI b (mov_S S y f x) ++ sW cI t T) (mov_V S y f x) := by
  refine zI_of (cc := cX3_moveStone) (maxL := 6) (ret := (some .int)) (by decide) rfl (Nat.le_of_ble_eq_true rfl) ?_
  intro p e s m below meth c A ls C0 hl
  obtain ⟨hx, hb, hr, hml, hown, hts, hlocks, hK, hN, hA, hP, hD, hS⟩ := C0
  have hown : s.vm.findClass RX3 = some m.cls := hown
  have hl : lv_has ls 6 [(0, .ref (k 0)), (1, .int y), (2, .int f), (3, .int x)] := hl
  have hf21 := hts (.fieldLink RX3 21 "PaddyTerraces" "slope" "LPaddyTerraces$Slope;") (by decide +kernel)
  have hf53 := hts (.fieldLink RX3 53 "PaddyTerraces" "moved" "I") (by decide +kernel)
  have hf75 := hts (.fieldLink RX3 75 "PaddyTerraces$Slope" "bank" "[I") (by decide +kernel)
  have hf82 := hts (.fieldLink RX3 82 "PaddyTerraces$Slope" "stone" "[I") (by decide +kernel)
  have hc_abs := hts (.code Lib.Math.abs.name Lib.Math.abs.code 1 (some .int)) (by decide +kernel)
  have hi_Math := hts (.initialized "java/lang/Math") (by decide +kernel)
  have hm92 := hts (.methodLink RX3 92 Lib.Math.abs.name) (by decide +kernel)
  have hs_abs := hts (.static Lib.Math.abs.name) (by decide +kernel)
  have hinX2 : ∀ w ∈ wsX20, w ∈ wsX3_moveStone := by decide +kernel
  have hinX3 : ∀ w ∈ wsX30, w ∈ wsX3_moveStone := by decide +kernel
  have hS0 := hS
  have hN64 := geo_hw hG0
  obtain ⟨-, -, hh2, hh8, hw2, hw8⟩ := id hG0
  refine lv_aload_n hx hb dX3_moveStone_0 rfl (lv_at hl 0 rfl) ?_
  refine va_get (D := (dC, dI)) (ci := 3) (v := .ref (b 0)) (C := RX3) (T := TX3) (N := 6) hx hb hts hinX3 hown hK hP 0 rfl rfl 1 (by decide) hf21 (fun _ h9 => h9) rfl dX3_moveStone_1 ?_
  refine lv_iload_n hx hb dX3_moveStone_4 rfl (lv_at hl 1 rfl) ?_
  refine lv_iload_n hx hb dX3_moveStone_5 rfl (lv_at hl 2 rfl) ?_
  refine zI_V (pre := (oW k b t M ++ kW cI k M ++ bW k B)) (wc := sW cI b S) (post := (sW cI t T)) (w1 := sW cI b S) ⟨hx, hb, hml, hown, hts⟩ (c_X2_hasField l dC dI cI b S y f) (cwV 2 hts gX3_moveStone_X2_hasField rfl rfl rfl (by decide +kernel) ⟨Nat.le_of_ble_eq_true rfl, Nat.le_of_ble_eq_true rfl⟩) (by simp only [List.append_assoc, List.append_nil, List.nil_append]) hK hN (ci := 2) (q0 := 0) rfl rfl rfl hP hD hS hA rfl hl.1 rfl (Nat.le_of_ble_eq_true rfl) dX3_moveStone_6 ⟨Nat.le_of_ble_eq_true rfl, Nat.le_of_ble_eq_true rfl⟩ (fun H locs hP hD hS => ?_)
  have hP : va_P (dC, dI) vwCl (oW k b t M ++ kW cI k M ++ bW k B ++ sW cI b S ++ sW cI t T) H := by simpa only [List.append_assoc, List.append_nil, List.nil_append] using hP
  have hD : va_D A (oW k b t M ++ kW cI k M ++ bW k B ++ sW cI b S ++ sW cI t T) := by simpa only [List.append_assoc, List.append_nil, List.nil_append] using hD
  refine lv_if_ne (tgt := 22) hx hb dX3_moveStone_9 (by decide) (fun c_1 => ?_) (fun c_1 => ?_)
  · refine lv_aload_n hx hb dX3_moveStone_22 rfl (lv_at hl 0 rfl) ?_
    refine va_get (D := (dC, dI)) (ci := 3) (v := .ref (b 0)) (C := RX3) (T := TX3) (N := 6) hx hb hts hinX3 hown hK hP 0 rfl rfl 1 (by decide) hf21 (fun _ h9 => h9) rfl dX3_moveStone_23 ?_
    refine lv_iload_n hx hb dX3_moveStone_26 rfl (lv_at hl 1 rfl) ?_
    refine lv_iload_n hx hb dX3_moveStone_27 rfl (lv_at hl 2 rfl) ?_
    refine zI_V (pre := (oW k b t M ++ kW cI k M ++ bW k B)) (wc := sW cI b S) (post := (sW cI t T)) (w1 := sW cI b S) ⟨hx, hb, hml, hown, hts⟩ (c_X2_cellOf l dC dI cI b S y f) (cwV 2 hts gX3_moveStone_X2_cellOf rfl rfl rfl (by decide +kernel) ⟨Nat.le_of_ble_eq_true rfl, Nat.le_of_ble_eq_true rfl⟩) (by simp only [List.append_assoc, List.append_nil, List.nil_append]) hK hN (ci := 2) (q0 := 0) rfl rfl rfl hP hD hS hA rfl hl.1 rfl (Nat.le_of_ble_eq_true rfl) dX3_moveStone_28 ⟨Nat.le_of_ble_eq_true rfl, Nat.le_of_ble_eq_true rfl⟩ (fun H locs hP hD hS => ?_)
    have hP : va_P (dC, dI) vwCl (oW k b t M ++ kW cI k M ++ bW k B ++ sW cI b S ++ sW cI t T) H := by simpa only [List.append_assoc, List.append_nil, List.nil_append] using hP
    have hD : va_D A (oW k b t M ++ kW cI k M ++ bW k B ++ sW cI b S ++ sW cI t T) := by simpa only [List.append_assoc, List.append_nil, List.nil_append] using hD
    refine lv_istore (lv' := [(4, .int (sl_at S y f)), (0, .ref (k 0)), (1, .int y), (2, .int f), (3, .int x)]) hx hb dX3_moveStone_31 hl (by decide) rfl (fun ls hl => ?_)
    refine lv_iload_n hx hb dX3_moveStone_33 rfl (lv_at hl 4 rfl) ?_
    refine lv_iconst (v := 0) hx hb dX3_moveStone_34 (by decide) ?_
    refine lv_aload_n hx hb dX3_moveStone_35 rfl (lv_at hl 1 rfl) ?_
    refine va_get (D := (dC, dI)) (ci := 3) (v := .ref (b 0)) (C := RX3) (T := TX3) (N := 6) hx hb hts hinX3 hown hK hP 0 rfl rfl 1 (by decide) hf21 (fun _ h9 => h9) rfl dX3_moveStone_36 ?_
    refine va_get (D := (dC, dI)) (ci := 2) (v := .ref (b 3)) (C := RX2) (T := TX2) (N := 18) hx hb hts hinX2 hown hK hP 6 rfl rfl 7 (by decide) hf75 (fun _ h9 => h9) rfl dX3_moveStone_39 ?_
    refine lv_iload hx hb dX3_moveStone_42 (lv_at hl 0 rfl) ?_
    refine va_iald (cA := cI) (n := 64) (f := S 3) hx hb hK hP 9 0 rfl rfl (geo_in hG0 c_1) dX3_moveStone_44 ?_
    refine zI_S (pre := (oW k b t M ++ kW cI k M ++ bW k B ++ sW cI b S ++ sW cI t T)) (wc := ([] : va_W)) (post := ([] : va_W)) (w1 := ([] : va_W)) ⟨hx, hb, hml, hown, hts⟩ (c_X3_isWithin l dC dI cI x 0 (S 3 (sl_at S y f).toNatClampNeg)) (va_cwS 3 hts gX3_moveStone_X3_isWithin rfl rfl rfl (by decide +kernel) ⟨Nat.le_of_ble_eq_true rfl, Nat.le_of_ble_eq_true rfl⟩) (by simp only [List.append_assoc, List.append_nil, List.nil_append]) hK hN hP hD hS hA rfl hl.1 rfl (Nat.le_of_ble_eq_true rfl) dX3_moveStone_45 ⟨Nat.le_of_ble_eq_true rfl, Nat.le_of_ble_eq_true rfl⟩ (fun H locs hP hD hS => ?_)
    have hP : va_P (dC, dI) vwCl (oW k b t M ++ kW cI k M ++ bW k B ++ sW cI b S ++ sW cI t T) H := by simpa only [List.append_assoc, List.append_nil, List.nil_append] using hP
    have hD : va_D A (oW k b t M ++ kW cI k M ++ bW k B ++ sW cI b S ++ sW cI t T) := by simpa only [List.append_assoc, List.append_nil, List.nil_append] using hD
    refine lv_if_ne (tgt := 61) hx hb dX3_moveStone_48 (by decide) (fun c_2 => ?_) (fun c_2 => ?_)
    · refine lv_iload_n hx hb dX3_moveStone_61 rfl (lv_at hl 4 rfl) ?_
      refine lv_aload_n hx hb dX3_moveStone_62 rfl (lv_at hl 1 rfl) ?_
      refine va_get (D := (dC, dI)) (ci := 3) (v := .ref (b 0)) (C := RX3) (T := TX3) (N := 6) hx hb hts hinX3 hown hK hP 0 rfl rfl 1 (by decide) hf21 (fun _ h9 => h9) rfl dX3_moveStone_63 ?_
      refine va_get (D := (dC, dI)) (ci := 2) (v := .ref (b 5)) (C := RX2) (T := TX2) (N := 18) hx hb hts hinX2 hown hK hP 6 rfl rfl 9 (by decide) hf82 (fun _ h9 => h9) rfl dX3_moveStone_66 ?_
      refine lv_iload hx hb dX3_moveStone_69 (lv_at hl 0 rfl) ?_
      refine va_iald (cA := cI) (n := 64) (f := S 5) hx hb hK hP 11 0 rfl rfl (geo_in hG0 c_1) dX3_moveStone_71 ?_
      refine lv_isub hx hb dX3_moveStone_72 ?_
      refine lv_istore (lv' := [(5, .int (x - (S 5 (sl_at S y f).toNatClampNeg))), (4, .int (sl_at S y f)), (0, .ref (k 0)), (1, .int y), (2, .int f), (3, .int x)]) hx hb dX3_moveStone_73 hl (by decide) rfl (fun ls hl => ?_)
      refine lv_aload_n hx hb dX3_moveStone_75 rfl (lv_at hl 2 rfl) ?_
      refine va_get (D := (dC, dI)) (ci := 3) (v := .ref (b 0)) (C := RX3) (T := TX3) (N := 6) hx hb hts hinX3 hown hK hP 0 rfl rfl 1 (by decide) hf21 (fun _ h9 => h9) rfl dX3_moveStone_76 ?_
      refine va_get (D := (dC, dI)) (ci := 2) (v := .ref (b 5)) (C := RX2) (T := TX2) (N := 18) hx hb hts hinX2 hown hK hP 6 rfl rfl 9 (by decide) hf82 (fun _ h9 => h9) rfl dX3_moveStone_79 ?_
      refine lv_iload hx hb dX3_moveStone_82 (lv_at hl 1 rfl) ?_
      refine lv_iload_n hx hb dX3_moveStone_84 rfl (lv_at hl 5 rfl) ?_
      obtain ⟨S3, eS3⟩ : ∃ z : sS, z = s_put S 5 ((sl_at S y f).toNatClampNeg) x := ⟨_, rfl⟩
      refine va_iast (cA := cI) (n := 64) (f := S 5) hx hb hK hP hD hS 11 0 rfl rfl (geo_in hG0 c_1) dX3_moveStone_85 (fun H locs hP hD hS => ?_)
      have hP : va_P (dC, dI) vwCl (oW k b t M ++ kW cI k M ++ bW k B ++ sW cI b S3 ++ sW cI t T) H := by rw [eS3]; exact hP
      have hD : va_D A (oW k b t M ++ kW cI k M ++ bW k B ++ sW cI b S3 ++ sW cI t T) := by rw [eS3]; exact hD
      have hGS3 : geo h w S3 := by rw [eS3]; exact geo_put hG0 (Or.inl (by decide)) _
      refine lv_aload_n hx hb dX3_moveStone_86 rfl (lv_at hl 2 rfl) ?_
      refine lv_dup hx hb dX3_moveStone_87 rfl ?_
      refine va_get (D := (dC, dI)) (ci := 3) (v := .int (M 0 1)) (C := RX3) (T := TX3) (N := 6) hx hb hts hinX3 hown hK hP 0 rfl rfl 5 (by decide) hf53 (fun _ h9 => h9) rfl dX3_moveStone_88 ?_
      refine lv_iload hx hb dX3_moveStone_91 (lv_at hl 0 rfl) ?_
      refine va_mabs hx hb (hml.trans hl.1.symm) hown hm92 hs_abs hi_Math hc_abs (Nat.le_of_ble_eq_true rfl) (Nat.le_of_ble_eq_true rfl) (Nat.le_of_ble_eq_true rfl) (Nat.le_of_ble_eq_true rfl) dX3_moveStone_93 ?_
      refine lv_iadd hx hb dX3_moveStone_96 ?_
      obtain ⟨S4, eS4⟩ : ∃ z : sS, z = s_put M 0 1 ((M 0 1) + (zabs (x - (S 5 (sl_at S y f).toNatClampNeg)))) := ⟨_, rfl⟩
      refine va_put (D := (dC, dI)) (ci := 3) (v := .int ((M 0 1) + (zabs (x - (S 5 (sl_at S y f).toNatClampNeg))))) (ty := .int) (C := RX3) (T := TX3) (N := 6) hx hb hts hinX3 tyX3 tyX3_ok nmX3 hown hK hP hD hS 0 rfl rfl 5 (by decide) hf53 (fun _ h9 => h9) rfl (by decide +kernel) rfl rfl (Nat.le_of_ble_eq_true rfl) dX3_moveStone_97 (fun H locs hP hD hS => ?_)
      have hP : va_P (dC, dI) vwCl (oW k b t S4 ++ kW cI k S4 ++ bW k B ++ sW cI b S3 ++ sW cI t T) H := by rw [eS4]; exact hP
      have hD : va_D A (oW k b t S4 ++ kW cI k S4 ++ bW k B ++ sW cI b S3 ++ sW cI t T) := by rw [eS4]; exact hD
      refine lv_iload hx hb dX3_moveStone_100 (lv_at hl 0 rfl) ?_
      have hZ : S3 = mov_S S y f x := (by (try rw [eS4]); (try rw [eS3]); first | done | rfl | (simp only [mov_S, mov_M, mov_V, if_neg c_1, if_neg c_2]; done) | (unfold mov_S; simp only [if_neg c_1, if_neg c_2]; done))
      rw [hZ] at hP hD
      have hZ : S4 = mov_M M S y f x := (by (try rw [eS4]); (try rw [eS3]); first | done | rfl | (simp only [mov_S, mov_M, mov_V, if_neg c_1, if_neg c_2]; done) | (unfold mov_S; simp only [if_neg c_1, if_neg c_2]; done))
      rw [hZ] at hP hD
      exact zI_ret hx hb hr hlocks hP hD hS rfl (by (try rw [eS4]); (try rw [eS3]); first | done | rfl | (simp only [mov_S, mov_M, mov_V, if_neg c_1, if_neg c_2]; done)) dX3_moveStone_102
    · have hT9 : mov_T S y f x = 2 := by simp only [mov_T, if_neg c_1, if_pos c_2]
      exact absurd (hT.symm.trans hT9) (by decide)
  · have hT9 : mov_T S y f x = 1 := by simp only [mov_T, if_pos c_1]
    exact absurd (hT.symm.trans hT9) (by decide)
set_option maxHeartbeats 4000000 in
set_option maxRecDepth 100000 in
theorem c_X3_turn (l : Launch) (dC : Nat → ClassId) (dI : Nat → Nat → Nat) (cI : ClassId) (k b t : Nat → Nat) (h w : Nat) (M B S T : sS) (y f x : Int32) (hG0 : geo h w S) (hT : trn_T S y f x = 0) : zI l yX3_turn wsX3_turn { frames := 1, cells := 0, slots := 0, locals := 22 } (dC, dI) cI [.ref (k 0), .int y, .int f, .int x] (oW k b t M ++ kW cI k M ++ bW k B ++ sW cI b S ++ sW cI t T) (oW k b t M ++ kW cI k M ++ bW k B ++ sW cI b (trn_S S y f x) ++ sW cI t T) (S 6 (sl_k S y f)) := by
  refine zI_of (cc := cX3_turn) (maxL := 6) (ret := (some .int)) (by decide) rfl (Nat.le_of_ble_eq_true rfl) ?_
  intro p e s m below meth c A ls C0 hl
  obtain ⟨hx, hb, hr, hml, hown, hts, hlocks, hK, hN, hA, hP, hD, hS⟩ := C0
  have hown : s.vm.findClass RX3 = some m.cls := hown
  have hl : lv_has ls 6 [(0, .ref (k 0)), (1, .int y), (2, .int f), (3, .int x)] := hl
  have hf21 := hts (.fieldLink RX3 21 "PaddyTerraces" "slope" "LPaddyTerraces$Slope;") (by decide +kernel)
  have hf98 := hts (.fieldLink RX3 98 "PaddyTerraces$Slope" "side" "[I") (by decide +kernel)
  have hinX2 : ∀ w ∈ wsX20, w ∈ wsX3_turn := by decide +kernel
  have hinX3 : ∀ w ∈ wsX30, w ∈ wsX3_turn := by decide +kernel
  have hS0 := hS
  have hN64 := geo_hw hG0
  obtain ⟨-, -, hh2, hh8, hw2, hw8⟩ := id hG0
  refine lv_aload_n hx hb dX3_turn_0 rfl (lv_at hl 0 rfl) ?_
  refine va_get (D := (dC, dI)) (ci := 3) (v := .ref (b 0)) (C := RX3) (T := TX3) (N := 6) hx hb hts hinX3 hown hK hP 0 rfl rfl 1 (by decide) hf21 (fun _ h9 => h9) rfl dX3_turn_1 ?_
  refine lv_iload_n hx hb dX3_turn_4 rfl (lv_at hl 1 rfl) ?_
  refine lv_iload_n hx hb dX3_turn_5 rfl (lv_at hl 2 rfl) ?_
  refine zI_V (pre := (oW k b t M ++ kW cI k M ++ bW k B)) (wc := sW cI b S) (post := (sW cI t T)) (w1 := sW cI b S) ⟨hx, hb, hml, hown, hts⟩ (c_X2_hasField l dC dI cI b S y f) (cwV 2 hts gX3_turn_X2_hasField rfl rfl rfl (by decide +kernel) ⟨Nat.le_of_ble_eq_true rfl, Nat.le_of_ble_eq_true rfl⟩) (by simp only [List.append_assoc, List.append_nil, List.nil_append]) hK hN (ci := 2) (q0 := 0) rfl rfl rfl hP hD hS hA rfl hl.1 rfl (Nat.le_of_ble_eq_true rfl) dX3_turn_6 ⟨Nat.le_of_ble_eq_true rfl, Nat.le_of_ble_eq_true rfl⟩ (fun H locs hP hD hS => ?_)
  have hP : va_P (dC, dI) vwCl (oW k b t M ++ kW cI k M ++ bW k B ++ sW cI b S ++ sW cI t T) H := by simpa only [List.append_assoc, List.append_nil, List.nil_append] using hP
  have hD : va_D A (oW k b t M ++ kW cI k M ++ bW k B ++ sW cI b S ++ sW cI t T) := by simpa only [List.append_assoc, List.append_nil, List.nil_append] using hD
  refine lv_if_ne (tgt := 22) hx hb dX3_turn_9 (by decide) (fun c_1 => ?_) (fun c_1 => ?_)
  · refine lv_iload_n hx hb dX3_turn_22 rfl (lv_at hl 3 rfl) ?_
    refine lv_iconst (v := (-1)) hx hb dX3_turn_23 (by decide) ?_
    refine lv_iconst (v := 1) hx hb dX3_turn_24 (by decide) ?_
    refine zI_S (pre := (oW k b t M ++ kW cI k M ++ bW k B ++ sW cI b S ++ sW cI t T)) (wc := ([] : va_W)) (post := ([] : va_W)) (w1 := ([] : va_W)) ⟨hx, hb, hml, hown, hts⟩ (c_X3_isWithin l dC dI cI x (-1) 1) (va_cwS 3 hts gX3_turn_X3_isWithin rfl rfl rfl (by decide +kernel) ⟨Nat.le_of_ble_eq_true rfl, Nat.le_of_ble_eq_true rfl⟩) (by simp only [List.append_assoc, List.append_nil, List.nil_append]) hK hN hP hD hS hA rfl hl.1 rfl (Nat.le_of_ble_eq_true rfl) dX3_turn_25 ⟨Nat.le_of_ble_eq_true rfl, Nat.le_of_ble_eq_true rfl⟩ (fun H locs hP hD hS => ?_)
    have hP : va_P (dC, dI) vwCl (oW k b t M ++ kW cI k M ++ bW k B ++ sW cI b S ++ sW cI t T) H := by simpa only [List.append_assoc, List.append_nil, List.nil_append] using hP
    have hD : va_D A (oW k b t M ++ kW cI k M ++ bW k B ++ sW cI b S ++ sW cI t T) := by simpa only [List.append_assoc, List.append_nil, List.nil_append] using hD
    refine lv_if_ne (tgt := 41) hx hb dX3_turn_28 (by decide) (fun c_2 => ?_) (fun c_2 => ?_)
    · refine lv_aload_n hx hb dX3_turn_41 rfl (lv_at hl 0 rfl) ?_
      refine va_get (D := (dC, dI)) (ci := 3) (v := .ref (b 0)) (C := RX3) (T := TX3) (N := 6) hx hb hts hinX3 hown hK hP 0 rfl rfl 1 (by decide) hf21 (fun _ h9 => h9) rfl dX3_turn_42 ?_
      refine lv_iload_n hx hb dX3_turn_45 rfl (lv_at hl 1 rfl) ?_
      refine lv_iload_n hx hb dX3_turn_46 rfl (lv_at hl 2 rfl) ?_
      refine zI_V (pre := (oW k b t M ++ kW cI k M ++ bW k B)) (wc := sW cI b S) (post := (sW cI t T)) (w1 := sW cI b S) ⟨hx, hb, hml, hown, hts⟩ (c_X2_cellOf l dC dI cI b S y f) (cwV 2 hts gX3_turn_X2_cellOf rfl rfl rfl (by decide +kernel) ⟨Nat.le_of_ble_eq_true rfl, Nat.le_of_ble_eq_true rfl⟩) (by simp only [List.append_assoc, List.append_nil, List.nil_append]) hK hN (ci := 2) (q0 := 0) rfl rfl rfl hP hD hS hA rfl hl.1 rfl (Nat.le_of_ble_eq_true rfl) dX3_turn_47 ⟨Nat.le_of_ble_eq_true rfl, Nat.le_of_ble_eq_true rfl⟩ (fun H locs hP hD hS => ?_)
      have hP : va_P (dC, dI) vwCl (oW k b t M ++ kW cI k M ++ bW k B ++ sW cI b S ++ sW cI t T) H := by simpa only [List.append_assoc, List.append_nil, List.nil_append] using hP
      have hD : va_D A (oW k b t M ++ kW cI k M ++ bW k B ++ sW cI b S ++ sW cI t T) := by simpa only [List.append_assoc, List.append_nil, List.nil_append] using hD
      refine lv_istore (lv' := [(4, .int (sl_at S y f)), (0, .ref (k 0)), (1, .int y), (2, .int f), (3, .int x)]) hx hb dX3_turn_50 hl (by decide) rfl (fun ls hl => ?_)
      refine lv_aload_n hx hb dX3_turn_52 rfl (lv_at hl 1 rfl) ?_
      refine va_get (D := (dC, dI)) (ci := 3) (v := .ref (b 0)) (C := RX3) (T := TX3) (N := 6) hx hb hts hinX3 hown hK hP 0 rfl rfl 1 (by decide) hf21 (fun _ h9 => h9) rfl dX3_turn_53 ?_
      refine va_get (D := (dC, dI)) (ci := 2) (v := .ref (b 6)) (C := RX2) (T := TX2) (N := 18) hx hb hts hinX2 hown hK hP 6 rfl rfl 10 (by decide) hf98 (fun _ h9 => h9) rfl dX3_turn_56 ?_
      refine lv_iload hx hb dX3_turn_59 (lv_at hl 0 rfl) ?_
      refine va_iald (cA := cI) (n := 64) (f := S 6) hx hb hK hP 12 0 rfl rfl (geo_in hG0 c_1) dX3_turn_61 ?_
      refine lv_istore (lv' := [(5, .int (S 6 (sl_at S y f).toNatClampNeg)), (4, .int (sl_at S y f)), (0, .ref (k 0)), (1, .int y), (2, .int f), (3, .int x)]) hx hb dX3_turn_62 hl (by decide) rfl (fun ls hl => ?_)
      refine lv_aload_n hx hb dX3_turn_64 rfl (lv_at hl 2 rfl) ?_
      refine va_get (D := (dC, dI)) (ci := 3) (v := .ref (b 0)) (C := RX3) (T := TX3) (N := 6) hx hb hts hinX3 hown hK hP 0 rfl rfl 1 (by decide) hf21 (fun _ h9 => h9) rfl dX3_turn_65 ?_
      refine va_get (D := (dC, dI)) (ci := 2) (v := .ref (b 6)) (C := RX2) (T := TX2) (N := 18) hx hb hts hinX2 hown hK hP 6 rfl rfl 10 (by decide) hf98 (fun _ h9 => h9) rfl dX3_turn_68 ?_
      refine lv_iload hx hb dX3_turn_71 (lv_at hl 1 rfl) ?_
      refine lv_iload_n hx hb dX3_turn_73 rfl (lv_at hl 5 rfl) ?_
      obtain ⟨S3, eS3⟩ : ∃ z : sS, z = s_put S 6 ((sl_at S y f).toNatClampNeg) x := ⟨_, rfl⟩
      refine va_iast (cA := cI) (n := 64) (f := S 6) hx hb hK hP hD hS 12 0 rfl rfl (geo_in hG0 c_1) dX3_turn_74 (fun H locs hP hD hS => ?_)
      have hP : va_P (dC, dI) vwCl (oW k b t M ++ kW cI k M ++ bW k B ++ sW cI b S3 ++ sW cI t T) H := by rw [eS3]; exact hP
      have hD : va_D A (oW k b t M ++ kW cI k M ++ bW k B ++ sW cI b S3 ++ sW cI t T) := by rw [eS3]; exact hD
      have hGS3 : geo h w S3 := by rw [eS3]; exact geo_put hG0 (Or.inl (by decide)) _
      refine lv_iload hx hb dX3_turn_75 (lv_at hl 0 rfl) ?_
      have hZ : S3 = trn_S S y f x := (by (try rw [eS3]); first | done | rfl | (simp only [trn_S, if_neg c_1, if_neg c_2]; done) | (unfold trn_S; simp only [if_neg c_1, if_neg c_2]; done))
      rw [hZ] at hP hD
      exact zI_ret hx hb hr hlocks hP hD hS rfl (by (try rw [eS3]); first | done | rfl | (simp only [trn_S, if_neg c_1, if_neg c_2]; done)) dX3_turn_77
    · have hT9 : trn_T S y f x = 2 := by simp only [trn_T, if_neg c_1, if_pos c_2]
      exact absurd (hT.symm.trans hT9) (by decide)
  · have hT9 : trn_T S y f x = 1 := by simp only [trn_T, if_pos c_1]
    exact absurd (hT.symm.trans hT9) (by decide)
set_option maxHeartbeats 4000000 in
set_option maxRecDepth 100000 in
theorem c_X3_setShare (l : Launch) (dC : Nat → ClassId) (dI : Nat → Nat → Nat) (cI : ClassId) (k b t : Nat → Nat) (h w : Nat) (M B S T : sS) (f x : Int32) (hG0 : geo h w S) (hT : shr_T S f x = 0) : zI l yX3_setShare wsX3_setShare { frames := 1, cells := 0, slots := 0, locals := 22 } (dC, dI) cI [.ref (k 0), .int f, .int x] (oW k b t M ++ kW cI k M ++ bW k B ++ sW cI b S ++ sW cI t T) (oW k b t M ++ kW cI k M ++ bW k B ++ sW cI b (shr_S S f x) ++ sW cI t T) (S 1 f.toNatClampNeg) := by
  refine zI_of (cc := cX3_setShare) (maxL := 4) (ret := (some .int)) (by decide) rfl (Nat.le_of_ble_eq_true rfl) ?_
  intro p e s m below meth c A ls C0 hl
  obtain ⟨hx, hb, hr, hml, hown, hts, hlocks, hK, hN, hA, hP, hD, hS⟩ := C0
  have hown : s.vm.findClass RX3 = some m.cls := hown
  have hl : lv_has ls 4 [(0, .ref (k 0)), (1, .int f), (2, .int x)] := hl
  have hf21 := hts (.fieldLink RX3 21 "PaddyTerraces" "slope" "LPaddyTerraces$Slope;") (by decide +kernel)
  have hf105 := hts (.fieldLink RX3 105 "PaddyTerraces$Slope" "share" "[I") (by decide +kernel)
  have hinX2 : ∀ w ∈ wsX20, w ∈ wsX3_setShare := by decide +kernel
  have hinX3 : ∀ w ∈ wsX30, w ∈ wsX3_setShare := by decide +kernel
  have hS0 := hS
  have hN64 := geo_hw hG0
  obtain ⟨-, -, hh2, hh8, hw2, hw8⟩ := id hG0
  refine lv_aload_n hx hb dX3_setShare_0 rfl (lv_at hl 0 rfl) ?_
  refine va_get (D := (dC, dI)) (ci := 3) (v := .ref (b 0)) (C := RX3) (T := TX3) (N := 6) hx hb hts hinX3 hown hK hP 0 rfl rfl 1 (by decide) hf21 (fun _ h9 => h9) rfl dX3_setShare_1 ?_
  refine lv_iconst (v := 0) hx hb dX3_setShare_4 (by decide) ?_
  refine lv_iload_n hx hb dX3_setShare_5 rfl (lv_at hl 1 rfl) ?_
  refine zI_V (pre := (oW k b t M ++ kW cI k M ++ bW k B)) (wc := sW cI b S) (post := (sW cI t T)) (w1 := sW cI b S) ⟨hx, hb, hml, hown, hts⟩ (c_X2_hasField l dC dI cI b S 0 f) (cwV 2 hts gX3_setShare_X2_hasField rfl rfl rfl (by decide +kernel) ⟨Nat.le_of_ble_eq_true rfl, Nat.le_of_ble_eq_true rfl⟩) (by simp only [List.append_assoc, List.append_nil, List.nil_append]) hK hN (ci := 2) (q0 := 0) rfl rfl rfl hP hD hS hA rfl hl.1 rfl (Nat.le_of_ble_eq_true rfl) dX3_setShare_6 ⟨Nat.le_of_ble_eq_true rfl, Nat.le_of_ble_eq_true rfl⟩ (fun H locs hP hD hS => ?_)
  have hP : va_P (dC, dI) vwCl (oW k b t M ++ kW cI k M ++ bW k B ++ sW cI b S ++ sW cI t T) H := by simpa only [List.append_assoc, List.append_nil, List.nil_append] using hP
  have hD : va_D A (oW k b t M ++ kW cI k M ++ bW k B ++ sW cI b S ++ sW cI t T) := by simpa only [List.append_assoc, List.append_nil, List.nil_append] using hD
  refine lv_if_ne (tgt := 22) hx hb dX3_setShare_9 (by decide) (fun c_1 => ?_) (fun c_1 => ?_)
  · refine lv_iload_n hx hb dX3_setShare_22 rfl (lv_at hl 2 rfl) ?_
    refine lv_iconst (v := 0) hx hb dX3_setShare_23 (by decide) ?_
    refine lv_bipush (v := 9) hx hb dX3_setShare_24 (by decide) ?_
    refine zI_S (pre := (oW k b t M ++ kW cI k M ++ bW k B ++ sW cI b S ++ sW cI t T)) (wc := ([] : va_W)) (post := ([] : va_W)) (w1 := ([] : va_W)) ⟨hx, hb, hml, hown, hts⟩ (c_X3_isWithin l dC dI cI x 0 9) (va_cwS 3 hts gX3_setShare_X3_isWithin rfl rfl rfl (by decide +kernel) ⟨Nat.le_of_ble_eq_true rfl, Nat.le_of_ble_eq_true rfl⟩) (by simp only [List.append_assoc, List.append_nil, List.nil_append]) hK hN hP hD hS hA rfl hl.1 rfl (Nat.le_of_ble_eq_true rfl) dX3_setShare_26 ⟨Nat.le_of_ble_eq_true rfl, Nat.le_of_ble_eq_true rfl⟩ (fun H locs hP hD hS => ?_)
    have hP : va_P (dC, dI) vwCl (oW k b t M ++ kW cI k M ++ bW k B ++ sW cI b S ++ sW cI t T) H := by simpa only [List.append_assoc, List.append_nil, List.nil_append] using hP
    have hD : va_D A (oW k b t M ++ kW cI k M ++ bW k B ++ sW cI b S ++ sW cI t T) := by simpa only [List.append_assoc, List.append_nil, List.nil_append] using hD
    refine lv_if_ne (tgt := 42) hx hb dX3_setShare_29 (by decide) (fun c_2 => ?_) (fun c_2 => ?_)
    · refine lv_aload_n hx hb dX3_setShare_42 rfl (lv_at hl 0 rfl) ?_
      refine va_get (D := (dC, dI)) (ci := 3) (v := .ref (b 0)) (C := RX3) (T := TX3) (N := 6) hx hb hts hinX3 hown hK hP 0 rfl rfl 1 (by decide) hf21 (fun _ h9 => h9) rfl dX3_setShare_43 ?_
      refine va_get (D := (dC, dI)) (ci := 2) (v := .ref (b 1)) (C := RX2) (T := TX2) (N := 18) hx hb hts hinX2 hown hK hP 6 rfl rfl 5 (by decide) hf105 (fun _ h9 => h9) rfl dX3_setShare_46 ?_
      refine lv_iload_n hx hb dX3_setShare_49 rfl (lv_at hl 1 rfl) ?_
      refine va_iald (cA := cI) (n := 8) (f := S 1) hx hb hK hP 7 0 rfl rfl (has_in hG0 c_1) dX3_setShare_50 ?_
      refine lv_istore_n (lv' := [(3, .int (S 1 f.toNatClampNeg)), (0, .ref (k 0)), (1, .int f), (2, .int x)]) hx hb dX3_setShare_51 rfl hl (by decide) rfl (fun ls hl => ?_)
      refine lv_aload_n hx hb dX3_setShare_52 rfl (lv_at hl 1 rfl) ?_
      refine va_get (D := (dC, dI)) (ci := 3) (v := .ref (b 0)) (C := RX3) (T := TX3) (N := 6) hx hb hts hinX3 hown hK hP 0 rfl rfl 1 (by decide) hf21 (fun _ h9 => h9) rfl dX3_setShare_53 ?_
      refine va_get (D := (dC, dI)) (ci := 2) (v := .ref (b 1)) (C := RX2) (T := TX2) (N := 18) hx hb hts hinX2 hown hK hP 6 rfl rfl 5 (by decide) hf105 (fun _ h9 => h9) rfl dX3_setShare_56 ?_
      refine lv_iload_n hx hb dX3_setShare_59 rfl (lv_at hl 2 rfl) ?_
      refine lv_iload_n hx hb dX3_setShare_60 rfl (lv_at hl 3 rfl) ?_
      obtain ⟨S3, eS3⟩ : ∃ z : sS, z = s_put S 1 f.toNatClampNeg x := ⟨_, rfl⟩
      refine va_iast (cA := cI) (n := 8) (f := S 1) hx hb hK hP hD hS 7 0 rfl rfl (has_in hG0 c_1) dX3_setShare_61 (fun H locs hP hD hS => ?_)
      have hP : va_P (dC, dI) vwCl (oW k b t M ++ kW cI k M ++ bW k B ++ sW cI b S3 ++ sW cI t T) H := by rw [eS3]; exact hP
      have hD : va_D A (oW k b t M ++ kW cI k M ++ bW k B ++ sW cI b S3 ++ sW cI t T) := by rw [eS3]; exact hD
      have hGS3 : geo h w S3 := by rw [eS3]; exact geo_put hG0 (Or.inl (by decide)) _
      refine lv_iload_n hx hb dX3_setShare_62 rfl (lv_at hl 0 rfl) ?_
      have hZ : S3 = shr_S S f x := (by (try rw [eS3]); first | done | rfl | (simp only [shr_S, if_neg c_1, if_neg c_2]; done) | (unfold shr_S; simp only [if_neg c_1, if_neg c_2]; done))
      rw [hZ] at hP hD
      exact zI_ret hx hb hr hlocks hP hD hS rfl rfl dX3_setShare_63
    · have hT9 : shr_T S f x = 2 := by simp only [shr_T, if_neg c_1, if_pos c_2]
      exact absurd (hT.symm.trans hT9) (by decide)
  · have hT9 : shr_T S f x = 1 := by simp only [shr_T, if_pos c_1]
    exact absurd (hT.symm.trans hT9) (by decide)
set_option maxHeartbeats 4000000 in
set_option maxRecDepth 100000 in
theorem c_X3_setDay (l : Launch) (dC : Nat → ClassId) (dI : Nat → Nat → Nat) (cI : ClassId) (k b t : Nat → Nat) (h w : Nat) (M B S T : sS) (i u v x : Int32)  (hT : day_T i u v x = 0) : zI l yX3_setDay wsX3_setDay { frames := 1, cells := 0, slots := 0, locals := 22 } (dC, dI) cI [.ref (k 0), .int i, .int u, .int v, .int x] (oW k b t M ++ kW cI k M ++ bW k B ++ sW cI b S ++ sW cI t T) (oW k b t (day_M M i u v x) ++ kW cI k (day_M M i u v x) ++ bW k B ++ sW cI b S ++ sW cI t T) (M 2 i.toNatClampNeg) := by
  refine zI_of (cc := cX3_setDay) (maxL := 6) (ret := (some .int)) (by decide) rfl (Nat.le_of_ble_eq_true rfl) ?_
  intro p e s m below meth c A ls C0 hl
  obtain ⟨hx, hb, hr, hml, hown, hts, hlocks, hK, hN, hA, hP, hD, hS⟩ := C0
  have hown : s.vm.findClass RX3 = some m.cls := hown
  have hl : lv_has ls 6 [(0, .ref (k 0)), (1, .int i), (2, .int u), (3, .int v), (4, .int x)] := hl
  have hf10 := hts (.fieldLink RX3 10 "PaddyTerraces" "calendar" "LPaddyTerraces$Calendar;") (by decide +kernel)
  have hf112 := hts (.fieldLink RX3 112 "PaddyTerraces$Calendar" "spring" "[I") (by decide +kernel)
  have hf115 := hts (.fieldLink RX3 115 "PaddyTerraces$Calendar" "rain" "[I") (by decide +kernel)
  have hf118 := hts (.fieldLink RX3 118 "PaddyTerraces$Calendar" "draught" "[I") (by decide +kernel)
  have hinX0 : ∀ w ∈ wsX00, w ∈ wsX3_setDay := by decide +kernel
  have hinX3 : ∀ w ∈ wsX30, w ∈ wsX3_setDay := by decide +kernel
  have hS0 := hS
  refine lv_iload_n hx hb dX3_setDay_0 rfl (lv_at hl 1 rfl) ?_
  refine lv_iconst (v := 0) hx hb dX3_setDay_1 (by decide) ?_
  refine lv_bipush (v := 29) hx hb dX3_setDay_2 (by decide) ?_
  refine zI_S (pre := (oW k b t M ++ kW cI k M ++ bW k B ++ sW cI b S ++ sW cI t T)) (wc := ([] : va_W)) (post := ([] : va_W)) (w1 := ([] : va_W)) ⟨hx, hb, hml, hown, hts⟩ (c_X3_isWithin l dC dI cI i 0 29) (va_cwS 3 hts gX3_setDay_X3_isWithin rfl rfl rfl (by decide +kernel) ⟨Nat.le_of_ble_eq_true rfl, Nat.le_of_ble_eq_true rfl⟩) (by simp only [List.append_assoc, List.append_nil, List.nil_append]) hK hN hP hD hS hA rfl hl.1 rfl (Nat.le_of_ble_eq_true rfl) dX3_setDay_4 ⟨Nat.le_of_ble_eq_true rfl, Nat.le_of_ble_eq_true rfl⟩ (fun H locs hP hD hS => ?_)
  have hP : va_P (dC, dI) vwCl (oW k b t M ++ kW cI k M ++ bW k B ++ sW cI b S ++ sW cI t T) H := by simpa only [List.append_assoc, List.append_nil, List.nil_append] using hP
  have hD : va_D A (oW k b t M ++ kW cI k M ++ bW k B ++ sW cI b S ++ sW cI t T) := by simpa only [List.append_assoc, List.append_nil, List.nil_append] using hD
  refine lv_if_ne (tgt := 20) hx hb dX3_setDay_7 (by decide) (fun c_1 => ?_) (fun c_1 => ?_)
  · refine lv_iload_n hx hb dX3_setDay_20 rfl (lv_at hl 2 rfl) ?_
    refine lv_iconst (v := 0) hx hb dX3_setDay_21 (by decide) ?_
    refine lv_bipush (v := 60) hx hb dX3_setDay_22 (by decide) ?_
    refine zI_S (pre := (oW k b t M ++ kW cI k M ++ bW k B ++ sW cI b S ++ sW cI t T)) (wc := ([] : va_W)) (post := ([] : va_W)) (w1 := ([] : va_W)) ⟨hx, hb, hml, hown, hts⟩ (c_X3_isWithin l dC dI cI u 0 60) (va_cwS 3 hts gX3_setDay_X3_isWithin rfl rfl rfl (by decide +kernel) ⟨Nat.le_of_ble_eq_true rfl, Nat.le_of_ble_eq_true rfl⟩) (by simp only [List.append_assoc, List.append_nil, List.nil_append]) hK hN hP hD hS hA rfl hl.1 rfl (Nat.le_of_ble_eq_true rfl) dX3_setDay_24 ⟨Nat.le_of_ble_eq_true rfl, Nat.le_of_ble_eq_true rfl⟩ (fun H locs hP hD hS => ?_)
    have hP : va_P (dC, dI) vwCl (oW k b t M ++ kW cI k M ++ bW k B ++ sW cI b S ++ sW cI t T) H := by simpa only [List.append_assoc, List.append_nil, List.nil_append] using hP
    have hD : va_D A (oW k b t M ++ kW cI k M ++ bW k B ++ sW cI b S ++ sW cI t T) := by simpa only [List.append_assoc, List.append_nil, List.nil_append] using hD
    refine lv_if_eq (tgt := 52) hx hb dX3_setDay_27 (by decide) (fun c_2 => ?_) (fun c_2 => ?_)
    · have hT9 : day_T i u v x = 2 := by simp only [day_T, if_neg c_1, if_pos c_2]
      exact absurd (hT.symm.trans hT9) (by decide)
    · refine lv_iload_n hx hb dX3_setDay_30 rfl (lv_at hl 3 rfl) ?_
      refine lv_iconst (v := 0) hx hb dX3_setDay_31 (by decide) ?_
      refine lv_sipush (v := 400) hx hb dX3_setDay_32 (by decide) ?_
      refine zI_S (pre := (oW k b t M ++ kW cI k M ++ bW k B ++ sW cI b S ++ sW cI t T)) (wc := ([] : va_W)) (post := ([] : va_W)) (w1 := ([] : va_W)) ⟨hx, hb, hml, hown, hts⟩ (c_X3_isWithin l dC dI cI v 0 400) (va_cwS 3 hts gX3_setDay_X3_isWithin rfl rfl rfl (by decide +kernel) ⟨Nat.le_of_ble_eq_true rfl, Nat.le_of_ble_eq_true rfl⟩) (by simp only [List.append_assoc, List.append_nil, List.nil_append]) hK hN hP hD hS hA rfl hl.1 rfl (Nat.le_of_ble_eq_true rfl) dX3_setDay_35 ⟨Nat.le_of_ble_eq_true rfl, Nat.le_of_ble_eq_true rfl⟩ (fun H locs hP hD hS => ?_)
      have hP : va_P (dC, dI) vwCl (oW k b t M ++ kW cI k M ++ bW k B ++ sW cI b S ++ sW cI t T) H := by simpa only [List.append_assoc, List.append_nil, List.nil_append] using hP
      have hD : va_D A (oW k b t M ++ kW cI k M ++ bW k B ++ sW cI b S ++ sW cI t T) := by simpa only [List.append_assoc, List.append_nil, List.nil_append] using hD
      refine lv_if_eq (tgt := 52) hx hb dX3_setDay_38 (by decide) (fun c_3 => ?_) (fun c_3 => ?_)
      · have hT9 : day_T i u v x = 2 := by simp only [day_T, if_neg c_1, if_neg c_2, if_pos c_3]
        exact absurd (hT.symm.trans hT9) (by decide)
      · refine lv_iload hx hb dX3_setDay_41 (lv_at hl 4 rfl) ?_
        refine lv_iconst (v := 0) hx hb dX3_setDay_43 (by decide) ?_
        refine lv_bipush (v := 20) hx hb dX3_setDay_44 (by decide) ?_
        refine zI_S (pre := (oW k b t M ++ kW cI k M ++ bW k B ++ sW cI b S ++ sW cI t T)) (wc := ([] : va_W)) (post := ([] : va_W)) (w1 := ([] : va_W)) ⟨hx, hb, hml, hown, hts⟩ (c_X3_isWithin l dC dI cI x 0 20) (va_cwS 3 hts gX3_setDay_X3_isWithin rfl rfl rfl (by decide +kernel) ⟨Nat.le_of_ble_eq_true rfl, Nat.le_of_ble_eq_true rfl⟩) (by simp only [List.append_assoc, List.append_nil, List.nil_append]) hK hN hP hD hS hA rfl hl.1 rfl (Nat.le_of_ble_eq_true rfl) dX3_setDay_46 ⟨Nat.le_of_ble_eq_true rfl, Nat.le_of_ble_eq_true rfl⟩ (fun H locs hP hD hS => ?_)
        have hP : va_P (dC, dI) vwCl (oW k b t M ++ kW cI k M ++ bW k B ++ sW cI b S ++ sW cI t T) H := by simpa only [List.append_assoc, List.append_nil, List.nil_append] using hP
        have hD : va_D A (oW k b t M ++ kW cI k M ++ bW k B ++ sW cI b S ++ sW cI t T) := by simpa only [List.append_assoc, List.append_nil, List.nil_append] using hD
        refine lv_if_ne (tgt := 62) hx hb dX3_setDay_49 (by decide) (fun c_4 => ?_) (fun c_4 => ?_)
        · refine lv_aload_n hx hb dX3_setDay_62 rfl (lv_at hl 0 rfl) ?_
          refine va_get (D := (dC, dI)) (ci := 3) (v := .ref (k 1)) (C := RX3) (T := TX3) (N := 6) hx hb hts hinX3 hown hK hP 0 rfl rfl 0 (by decide) hf10 (fun _ h9 => h9) rfl dX3_setDay_63 ?_
          refine va_get (D := (dC, dI)) (ci := 0) (v := .ref (k 3)) (C := RX0) (T := TX0) (N := 3) hx hb hts hinX0 hown hK hP 1 rfl rfl 1 (by decide) hf112 (fun _ h9 => h9) rfl dX3_setDay_66 ?_
          refine lv_iload_n hx hb dX3_setDay_69 rfl (lv_at hl 1 rfl) ?_
          refine va_iald (cA := cI) (n := 30) (f := M 2) hx hb hK hP 3 0 rfl rfl (isw_in c_1 (by decide) (by decide)) dX3_setDay_70 ?_
          refine lv_istore (lv' := [(5, .int (M 2 i.toNatClampNeg)), (0, .ref (k 0)), (1, .int i), (2, .int u), (3, .int v), (4, .int x)]) hx hb dX3_setDay_71 hl (by decide) rfl (fun ls hl => ?_)
          refine lv_aload_n hx hb dX3_setDay_73 rfl (lv_at hl 1 rfl) ?_
          refine va_get (D := (dC, dI)) (ci := 3) (v := .ref (k 1)) (C := RX3) (T := TX3) (N := 6) hx hb hts hinX3 hown hK hP 0 rfl rfl 0 (by decide) hf10 (fun _ h9 => h9) rfl dX3_setDay_74 ?_
          refine va_get (D := (dC, dI)) (ci := 0) (v := .ref (k 2)) (C := RX0) (T := TX0) (N := 3) hx hb hts hinX0 hown hK hP 1 rfl rfl 0 (by decide) hf115 (fun _ h9 => h9) rfl dX3_setDay_77 ?_
          refine lv_iload_n hx hb dX3_setDay_80 rfl (lv_at hl 2 rfl) ?_
          refine lv_iload_n hx hb dX3_setDay_81 rfl (lv_at hl 3 rfl) ?_
          obtain ⟨S5, eS5⟩ : ∃ z : sS, z = s_put M 1 i.toNatClampNeg u := ⟨_, rfl⟩
          refine va_iast (cA := cI) (n := 30) (f := M 1) hx hb hK hP hD hS 2 0 rfl rfl (isw_in c_1 (by decide) (by decide)) dX3_setDay_82 (fun H locs hP hD hS => ?_)
          have hP : va_P (dC, dI) vwCl (oW k b t S5 ++ kW cI k S5 ++ bW k B ++ sW cI b S ++ sW cI t T) H := by rw [eS5]; exact hP
          have hD : va_D A (oW k b t S5 ++ kW cI k S5 ++ bW k B ++ sW cI b S ++ sW cI t T) := by rw [eS5]; exact hD
          refine lv_aload_n hx hb dX3_setDay_83 rfl (lv_at hl 1 rfl) ?_
          refine va_get (D := (dC, dI)) (ci := 3) (v := .ref (k 1)) (C := RX3) (T := TX3) (N := 6) hx hb hts hinX3 hown hK hP 0 rfl rfl 0 (by decide) hf10 (fun _ h9 => h9) rfl dX3_setDay_84 ?_
          refine va_get (D := (dC, dI)) (ci := 0) (v := .ref (k 3)) (C := RX0) (T := TX0) (N := 3) hx hb hts hinX0 hown hK hP 1 rfl rfl 1 (by decide) hf112 (fun _ h9 => h9) rfl dX3_setDay_87 ?_
          refine lv_iload_n hx hb dX3_setDay_90 rfl (lv_at hl 2 rfl) ?_
          refine lv_iload_n hx hb dX3_setDay_91 rfl (lv_at hl 4 rfl) ?_
          obtain ⟨S6, eS6⟩ : ∃ z : sS, z = s_put S5 2 i.toNatClampNeg v := ⟨_, rfl⟩
          refine va_iast (cA := cI) (n := 30) (f := S5 2) hx hb hK hP hD hS 3 0 rfl rfl (isw_in c_1 (by decide) (by decide)) dX3_setDay_92 (fun H locs hP hD hS => ?_)
          have hP : va_P (dC, dI) vwCl (oW k b t S6 ++ kW cI k S6 ++ bW k B ++ sW cI b S ++ sW cI t T) H := by rw [eS6]; exact hP
          have hD : va_D A (oW k b t S6 ++ kW cI k S6 ++ bW k B ++ sW cI b S ++ sW cI t T) := by rw [eS6]; exact hD
          refine lv_aload_n hx hb dX3_setDay_93 rfl (lv_at hl 1 rfl) ?_
          refine va_get (D := (dC, dI)) (ci := 3) (v := .ref (k 1)) (C := RX3) (T := TX3) (N := 6) hx hb hts hinX3 hown hK hP 0 rfl rfl 0 (by decide) hf10 (fun _ h9 => h9) rfl dX3_setDay_94 ?_
          refine va_get (D := (dC, dI)) (ci := 0) (v := .ref (k 4)) (C := RX0) (T := TX0) (N := 3) hx hb hts hinX0 hown hK hP 1 rfl rfl 2 (by decide) hf118 (fun _ h9 => h9) rfl dX3_setDay_97 ?_
          refine lv_iload_n hx hb dX3_setDay_100 rfl (lv_at hl 2 rfl) ?_
          refine lv_iload hx hb dX3_setDay_101 (lv_at hl 5 rfl) ?_
          obtain ⟨S7, eS7⟩ : ∃ z : sS, z = s_put S6 3 i.toNatClampNeg x := ⟨_, rfl⟩
          refine va_iast (cA := cI) (n := 30) (f := S6 3) hx hb hK hP hD hS 4 0 rfl rfl (isw_in c_1 (by decide) (by decide)) dX3_setDay_103 (fun H locs hP hD hS => ?_)
          have hP : va_P (dC, dI) vwCl (oW k b t S7 ++ kW cI k S7 ++ bW k B ++ sW cI b S ++ sW cI t T) H := by rw [eS7]; exact hP
          have hD : va_D A (oW k b t S7 ++ kW cI k S7 ++ bW k B ++ sW cI b S ++ sW cI t T) := by rw [eS7]; exact hD
          refine lv_iload hx hb dX3_setDay_104 (lv_at hl 0 rfl) ?_
          have hZ : S7 = day_M M i u v x := (by (try rw [eS7]); (try rw [eS6]); (try rw [eS5]); first | done | rfl | (simp only [day_M, if_neg c_1, if_neg c_2, if_neg c_3, if_neg c_4]; done) | (unfold day_M; simp only [if_neg c_1, if_neg c_2, if_neg c_3, if_neg c_4]; done))
          rw [hZ] at hP hD
          exact zI_ret hx hb hr hlocks hP hD hS rfl rfl dX3_setDay_106
        · have hT9 : day_T i u v x = 2 := by simp only [day_T, if_neg c_1, if_neg c_2, if_neg c_3, if_pos c_4]
          exact absurd (hT.symm.trans hT9) (by decide)
  · have hT9 : day_T i u v x = 1 := by simp only [day_T, if_pos c_1]
    exact absurd (hT.symm.trans hT9) (by decide)
set_option maxHeartbeats 4000000 in
set_option maxRecDepth 100000 in
theorem c_X3_plant (l : Launch) (dC : Nat → ClassId) (dI : Nat → Nat → Nat) (cI : ClassId) (k b t : Nat → Nat) (h w : Nat) (M B S T : sS) (y f x : Int32) (hG0 : geo h w S) (hT : pla_T S y f x = 0) : zI l yX3_plant wsX3_plant { frames := 3, cells := 0, slots := 0, locals := 63 } (dC, dI) cI [.ref (k 0), .int y, .int f, .int x] (oW k b t M ++ kW cI k M ++ bW k B ++ sW cI b S ++ sW cI t T) (oW k b t M ++ kW cI k M ++ bW k B ++ sW cI b (pla_S S y f x) ++ sW cI t T) (sl_sum h w (pla_S S y f x) 7) := by
  refine zI_of (cc := cX3_plant) (maxL := 5) (ret := (some .int)) (by decide) rfl (Nat.le_of_ble_eq_true rfl) ?_
  intro p e s m below meth c A ls C0 hl
  obtain ⟨hx, hb, hr, hml, hown, hts, hlocks, hK, hN, hA, hP, hD, hS⟩ := C0
  have hown : s.vm.findClass RX3 = some m.cls := hown
  have hl : lv_has ls 5 [(0, .ref (k 0)), (1, .int y), (2, .int f), (3, .int x)] := hl
  have hf21 := hts (.fieldLink RX3 21 "PaddyTerraces" "slope" "LPaddyTerraces$Slope;") (by decide +kernel)
  have hf123 := hts (.fieldLink RX3 123 "PaddyTerraces$Slope" "crop" "[I") (by decide +kernel)
  have hf126 := hts (.fieldLink RX3 126 "PaddyTerraces$Slope" "depth" "[I") (by decide +kernel)
  have hf134 := hts (.fieldLink RX3 134 "PaddyTerraces$Slope" "age" "[I") (by decide +kernel)
  have hinX2 : ∀ w ∈ wsX20, w ∈ wsX3_plant := by decide +kernel
  have hinX3 : ∀ w ∈ wsX30, w ∈ wsX3_plant := by decide +kernel
  have hS0 := hS
  have hN64 := geo_hw hG0
  obtain ⟨-, -, hh2, hh8, hw2, hw8⟩ := id hG0
  refine lv_aload_n hx hb dX3_plant_0 rfl (lv_at hl 0 rfl) ?_
  refine va_get (D := (dC, dI)) (ci := 3) (v := .ref (b 0)) (C := RX3) (T := TX3) (N := 6) hx hb hts hinX3 hown hK hP 0 rfl rfl 1 (by decide) hf21 (fun _ h9 => h9) rfl dX3_plant_1 ?_
  refine lv_iload_n hx hb dX3_plant_4 rfl (lv_at hl 1 rfl) ?_
  refine lv_iload_n hx hb dX3_plant_5 rfl (lv_at hl 2 rfl) ?_
  refine zI_V (pre := (oW k b t M ++ kW cI k M ++ bW k B)) (wc := sW cI b S) (post := (sW cI t T)) (w1 := sW cI b S) ⟨hx, hb, hml, hown, hts⟩ (c_X2_hasField l dC dI cI b S y f) (cwV 2 hts gX3_plant_X2_hasField rfl rfl rfl (by decide +kernel) ⟨Nat.le_of_ble_eq_true rfl, Nat.le_of_ble_eq_true rfl⟩) (by simp only [List.append_assoc, List.append_nil, List.nil_append]) hK hN (ci := 2) (q0 := 0) rfl rfl rfl hP hD hS hA rfl hl.1 rfl (Nat.le_of_ble_eq_true rfl) dX3_plant_6 ⟨Nat.le_of_ble_eq_true rfl, Nat.le_of_ble_eq_true rfl⟩ (fun H locs hP hD hS => ?_)
  have hP : va_P (dC, dI) vwCl (oW k b t M ++ kW cI k M ++ bW k B ++ sW cI b S ++ sW cI t T) H := by simpa only [List.append_assoc, List.append_nil, List.nil_append] using hP
  have hD : va_D A (oW k b t M ++ kW cI k M ++ bW k B ++ sW cI b S ++ sW cI t T) := by simpa only [List.append_assoc, List.append_nil, List.nil_append] using hD
  refine lv_if_ne (tgt := 22) hx hb dX3_plant_9 (by decide) (fun c_1 => ?_) (fun c_1 => ?_)
  · refine lv_iload_n hx hb dX3_plant_22 rfl (lv_at hl 3 rfl) ?_
    refine lv_iconst (v := 0) hx hb dX3_plant_23 (by decide) ?_
    refine lv_bipush (v := 20) hx hb dX3_plant_24 (by decide) ?_
    refine zI_S (pre := (oW k b t M ++ kW cI k M ++ bW k B ++ sW cI b S ++ sW cI t T)) (wc := ([] : va_W)) (post := ([] : va_W)) (w1 := ([] : va_W)) ⟨hx, hb, hml, hown, hts⟩ (c_X3_isWithin l dC dI cI x 0 20) (va_cwS 3 hts gX3_plant_X3_isWithin rfl rfl rfl (by decide +kernel) ⟨Nat.le_of_ble_eq_true rfl, Nat.le_of_ble_eq_true rfl⟩) (by simp only [List.append_assoc, List.append_nil, List.nil_append]) hK hN hP hD hS hA rfl hl.1 rfl (Nat.le_of_ble_eq_true rfl) dX3_plant_26 ⟨Nat.le_of_ble_eq_true rfl, Nat.le_of_ble_eq_true rfl⟩ (fun H locs hP hD hS => ?_)
    have hP : va_P (dC, dI) vwCl (oW k b t M ++ kW cI k M ++ bW k B ++ sW cI b S ++ sW cI t T) H := by simpa only [List.append_assoc, List.append_nil, List.nil_append] using hP
    have hD : va_D A (oW k b t M ++ kW cI k M ++ bW k B ++ sW cI b S ++ sW cI t T) := by simpa only [List.append_assoc, List.append_nil, List.nil_append] using hD
    refine lv_if_ne (tgt := 42) hx hb dX3_plant_29 (by decide) (fun c_2 => ?_) (fun c_2 => ?_)
    · refine lv_aload_n hx hb dX3_plant_42 rfl (lv_at hl 0 rfl) ?_
      refine va_get (D := (dC, dI)) (ci := 3) (v := .ref (b 0)) (C := RX3) (T := TX3) (N := 6) hx hb hts hinX3 hown hK hP 0 rfl rfl 1 (by decide) hf21 (fun _ h9 => h9) rfl dX3_plant_43 ?_
      refine lv_iload_n hx hb dX3_plant_46 rfl (lv_at hl 1 rfl) ?_
      refine lv_iload_n hx hb dX3_plant_47 rfl (lv_at hl 2 rfl) ?_
      refine zI_V (pre := (oW k b t M ++ kW cI k M ++ bW k B)) (wc := sW cI b S) (post := (sW cI t T)) (w1 := sW cI b S) ⟨hx, hb, hml, hown, hts⟩ (c_X2_cellOf l dC dI cI b S y f) (cwV 2 hts gX3_plant_X2_cellOf rfl rfl rfl (by decide +kernel) ⟨Nat.le_of_ble_eq_true rfl, Nat.le_of_ble_eq_true rfl⟩) (by simp only [List.append_assoc, List.append_nil, List.nil_append]) hK hN (ci := 2) (q0 := 0) rfl rfl rfl hP hD hS hA rfl hl.1 rfl (Nat.le_of_ble_eq_true rfl) dX3_plant_48 ⟨Nat.le_of_ble_eq_true rfl, Nat.le_of_ble_eq_true rfl⟩ (fun H locs hP hD hS => ?_)
      have hP : va_P (dC, dI) vwCl (oW k b t M ++ kW cI k M ++ bW k B ++ sW cI b S ++ sW cI t T) H := by simpa only [List.append_assoc, List.append_nil, List.nil_append] using hP
      have hD : va_D A (oW k b t M ++ kW cI k M ++ bW k B ++ sW cI b S ++ sW cI t T) := by simpa only [List.append_assoc, List.append_nil, List.nil_append] using hD
      refine lv_istore (lv' := [(4, .int (sl_at S y f)), (0, .ref (k 0)), (1, .int y), (2, .int f), (3, .int x)]) hx hb dX3_plant_51 hl (by decide) rfl (fun ls hl => ?_)
      refine lv_aload_n hx hb dX3_plant_53 rfl (lv_at hl 1 rfl) ?_
      refine va_get (D := (dC, dI)) (ci := 3) (v := .ref (b 0)) (C := RX3) (T := TX3) (N := 6) hx hb hts hinX3 hown hK hP 0 rfl rfl 1 (by decide) hf21 (fun _ h9 => h9) rfl dX3_plant_54 ?_
      refine va_get (D := (dC, dI)) (ci := 2) (v := .ref (b 7)) (C := RX2) (T := TX2) (N := 18) hx hb hts hinX2 hown hK hP 6 rfl rfl 11 (by decide) hf123 (fun _ h9 => h9) rfl dX3_plant_57 ?_
      refine lv_iload hx hb dX3_plant_60 (lv_at hl 0 rfl) ?_
      refine va_iald (cA := cI) (n := 64) (f := S 7) hx hb hK hP 13 0 rfl rfl (geo_in hG0 c_1) dX3_plant_62 ?_
      refine lv_if_ne (tgt := 81) hx hb dX3_plant_63 (by decide) (fun c_3 => ?_) (fun c_3 => ?_)
      · have hT9 : pla_T S y f x = 3 := by simp only [pla_T, if_neg c_1, if_neg c_2, if_neg c_3]
        exact absurd (hT.symm.trans hT9) (by decide)
      · refine lv_aload_n hx hb dX3_plant_66 rfl (lv_at hl 1 rfl) ?_
        refine va_get (D := (dC, dI)) (ci := 3) (v := .ref (b 0)) (C := RX3) (T := TX3) (N := 6) hx hb hts hinX3 hown hK hP 0 rfl rfl 1 (by decide) hf21 (fun _ h9 => h9) rfl dX3_plant_67 ?_
        refine va_get (D := (dC, dI)) (ci := 2) (v := .ref (b 2)) (C := RX2) (T := TX2) (N := 18) hx hb hts hinX2 hown hK hP 6 rfl rfl 6 (by decide) hf126 (fun _ h9 => h9) rfl dX3_plant_70 ?_
        refine lv_iload hx hb dX3_plant_73 (lv_at hl 0 rfl) ?_
        refine va_iald (cA := cI) (n := 64) (f := S 2) hx hb hK hP 8 0 rfl rfl (geo_in hG0 c_1) dX3_plant_75 ?_
        refine lv_bipush (v := 40) hx hb dX3_plant_76 (by decide) ?_
        refine lv_icmp_le (tgt := 91) hx hb dX3_plant_78 (by decide) (fun c_4 => ?_) (fun c_4 => ?_)
        · refine lv_aload_n hx hb dX3_plant_91 rfl (lv_at hl 1 rfl) ?_
          refine va_get (D := (dC, dI)) (ci := 3) (v := .ref (b 0)) (C := RX3) (T := TX3) (N := 6) hx hb hts hinX3 hown hK hP 0 rfl rfl 1 (by decide) hf21 (fun _ h9 => h9) rfl dX3_plant_92 ?_
          refine va_get (D := (dC, dI)) (ci := 2) (v := .ref (b 7)) (C := RX2) (T := TX2) (N := 18) hx hb hts hinX2 hown hK hP 6 rfl rfl 11 (by decide) hf123 (fun _ h9 => h9) rfl dX3_plant_95 ?_
          refine lv_iload hx hb dX3_plant_98 (lv_at hl 0 rfl) ?_
          refine lv_iconst (v := 1) hx hb dX3_plant_100 (by decide) ?_
          obtain ⟨S5, eS5⟩ : ∃ z : sS, z = s_put S 7 ((sl_at S y f).toNatClampNeg) 1 := ⟨_, rfl⟩
          refine va_iast (cA := cI) (n := 64) (f := S 7) hx hb hK hP hD hS 13 0 rfl rfl (geo_in hG0 c_1) dX3_plant_101 (fun H locs hP hD hS => ?_)
          have hP : va_P (dC, dI) vwCl (oW k b t M ++ kW cI k M ++ bW k B ++ sW cI b S5 ++ sW cI t T) H := by rw [eS5]; exact hP
          have hD : va_D A (oW k b t M ++ kW cI k M ++ bW k B ++ sW cI b S5 ++ sW cI t T) := by rw [eS5]; exact hD
          have hGS5 : geo h w S5 := by rw [eS5]; exact geo_put hG0 (Or.inl (by decide)) _
          refine lv_aload_n hx hb dX3_plant_102 rfl (lv_at hl 1 rfl) ?_
          refine va_get (D := (dC, dI)) (ci := 3) (v := .ref (b 0)) (C := RX3) (T := TX3) (N := 6) hx hb hts hinX3 hown hK hP 0 rfl rfl 1 (by decide) hf21 (fun _ h9 => h9) rfl dX3_plant_103 ?_
          refine va_get (D := (dC, dI)) (ci := 2) (v := .ref (b 8)) (C := RX2) (T := TX2) (N := 18) hx hb hts hinX2 hown hK hP 6 rfl rfl 12 (by decide) hf134 (fun _ h9 => h9) rfl dX3_plant_106 ?_
          refine lv_iload hx hb dX3_plant_109 (lv_at hl 0 rfl) ?_
          refine lv_iload_n hx hb dX3_plant_111 rfl (lv_at hl 4 rfl) ?_
          obtain ⟨S6, eS6⟩ : ∃ z : sS, z = s_put S5 8 ((sl_at S y f).toNatClampNeg) x := ⟨_, rfl⟩
          refine va_iast (cA := cI) (n := 64) (f := S5 8) hx hb hK hP hD hS 14 0 rfl rfl (geo_in hG0 c_1) dX3_plant_112 (fun H locs hP hD hS => ?_)
          have hP : va_P (dC, dI) vwCl (oW k b t M ++ kW cI k M ++ bW k B ++ sW cI b S6 ++ sW cI t T) H := by rw [eS6]; exact hP
          have hD : va_D A (oW k b t M ++ kW cI k M ++ bW k B ++ sW cI b S6 ++ sW cI t T) := by rw [eS6]; exact hD
          have hGS6 : geo h w S6 := by rw [eS6]; exact geo_put hGS5 (Or.inl (by decide)) _
          refine lv_aload_n hx hb dX3_plant_113 rfl (lv_at hl 1 rfl) ?_
          refine va_get (D := (dC, dI)) (ci := 3) (v := .ref (b 0)) (C := RX3) (T := TX3) (N := 6) hx hb hts hinX3 hown hK hP 0 rfl rfl 1 (by decide) hf21 (fun _ h9 => h9) rfl dX3_plant_114 ?_
          refine zI_V (pre := (oW k b t M ++ kW cI k M ++ bW k B)) (wc := sW cI b S6) (post := (sW cI t T)) (w1 := sW cI b S6) ⟨hx, hb, hml, hown, hts⟩ (c_X2_crops l dC dI cI b h w S6 hGS6) (cwV 0 hts gX3_plant_X2_crops rfl rfl rfl (by decide +kernel) ⟨Nat.le_of_ble_eq_true rfl, Nat.le_of_ble_eq_true rfl⟩) (by simp only [List.append_assoc, List.append_nil, List.nil_append]) hK hN (ci := 2) (q0 := 0) rfl rfl rfl hP hD hS hA rfl hl.1 rfl (Nat.le_of_ble_eq_true rfl) dX3_plant_117 ⟨Nat.le_of_ble_eq_true rfl, Nat.le_of_ble_eq_true rfl⟩ (fun H locs hP hD hS => ?_)
          have hP : va_P (dC, dI) vwCl (oW k b t M ++ kW cI k M ++ bW k B ++ sW cI b S6 ++ sW cI t T) H := by simpa only [List.append_assoc, List.append_nil, List.nil_append] using hP
          have hD : va_D A (oW k b t M ++ kW cI k M ++ bW k B ++ sW cI b S6 ++ sW cI t T) := by simpa only [List.append_assoc, List.append_nil, List.nil_append] using hD
          have hZ : S6 = pla_S S y f x := (by (try rw [eS6]); (try rw [eS5]); first | done | rfl | (simp only [pla_S, if_neg c_1, if_neg c_2, if_pos c_3, if_pos c_4]; done) | (unfold pla_S; simp only [if_neg c_1, if_neg c_2, if_pos c_3, if_pos c_4]; done))
          rw [hZ] at hP hD
          exact zI_ret hx hb hr hlocks hP hD hS rfl (by (try rw [eS6]); (try rw [eS5]); first | done | rfl | (simp only [pla_S, if_neg c_1, if_neg c_2, if_pos c_3, if_pos c_4]; done)) dX3_plant_120
        · have hT9 : pla_T S y f x = 3 := by simp only [pla_T, if_neg c_1, if_neg c_2, if_pos c_3, if_neg c_4]
          exact absurd (hT.symm.trans hT9) (by decide)
    · have hT9 : pla_T S y f x = 2 := by simp only [pla_T, if_neg c_1, if_pos c_2]
      exact absurd (hT.symm.trans hT9) (by decide)
  · have hT9 : pla_T S y f x = 1 := by simp only [pla_T, if_pos c_1]
    exact absurd (hT.symm.trans hT9) (by decide)
set_option maxHeartbeats 4000000 in
set_option maxRecDepth 100000 in
theorem c_X3_reap (l : Launch) (dC : Nat → ClassId) (dI : Nat → Nat → Nat) (cI : ClassId) (k b t : Nat → Nat) (h w : Nat) (M B S T : sS) (y f : Int32) (hG0 : geo h w S) (hT : rea_T S y f = 0) : zI l yX3_reap wsX3_reap { frames := 1, cells := 0, slots := 0, locals := 22 } (dC, dI) cI [.ref (k 0), .int y, .int f] (oW k b t M ++ kW cI k M ++ bW k B ++ sW cI b S ++ sW cI t T) (oW k b t (rea_M M S y f) ++ kW cI k (rea_M M S y f) ++ bW k B ++ sW cI b (rea_S S y f) ++ sW cI t T) (rea_V S y f) := by
  refine zI_of (cc := cX3_reap) (maxL := 5) (ret := (some .int)) (by decide) rfl (Nat.le_of_ble_eq_true rfl) ?_
  intro p e s m below meth c A ls C0 hl
  obtain ⟨hx, hb, hr, hml, hown, hts, hlocks, hK, hN, hA, hP, hD, hS⟩ := C0
  have hown : s.vm.findClass RX3 = some m.cls := hown
  have hl : lv_has ls 5 [(0, .ref (k 0)), (1, .int y), (2, .int f)] := hl
  have hf21 := hts (.fieldLink RX3 21 "PaddyTerraces" "slope" "LPaddyTerraces$Slope;") (by decide +kernel)
  have hf49 := hts (.fieldLink RX3 49 "PaddyTerraces" "reaped" "I") (by decide +kernel)
  have hf123 := hts (.fieldLink RX3 123 "PaddyTerraces$Slope" "crop" "[I") (by decide +kernel)
  have hf126 := hts (.fieldLink RX3 126 "PaddyTerraces$Slope" "depth" "[I") (by decide +kernel)
  have hf134 := hts (.fieldLink RX3 134 "PaddyTerraces$Slope" "age" "[I") (by decide +kernel)
  have hf142 := hts (.fieldLink RX3 142 "PaddyTerraces$Slope" "hardness" "[I") (by decide +kernel)
  have hinX2 : ∀ w ∈ wsX20, w ∈ wsX3_reap := by decide +kernel
  have hinX3 : ∀ w ∈ wsX30, w ∈ wsX3_reap := by decide +kernel
  have hS0 := hS
  have hN64 := geo_hw hG0
  obtain ⟨-, -, hh2, hh8, hw2, hw8⟩ := id hG0
  refine lv_aload_n hx hb dX3_reap_0 rfl (lv_at hl 0 rfl) ?_
  refine va_get (D := (dC, dI)) (ci := 3) (v := .ref (b 0)) (C := RX3) (T := TX3) (N := 6) hx hb hts hinX3 hown hK hP 0 rfl rfl 1 (by decide) hf21 (fun _ h9 => h9) rfl dX3_reap_1 ?_
  refine lv_iload_n hx hb dX3_reap_4 rfl (lv_at hl 1 rfl) ?_
  refine lv_iload_n hx hb dX3_reap_5 rfl (lv_at hl 2 rfl) ?_
  refine zI_V (pre := (oW k b t M ++ kW cI k M ++ bW k B)) (wc := sW cI b S) (post := (sW cI t T)) (w1 := sW cI b S) ⟨hx, hb, hml, hown, hts⟩ (c_X2_hasField l dC dI cI b S y f) (cwV 2 hts gX3_reap_X2_hasField rfl rfl rfl (by decide +kernel) ⟨Nat.le_of_ble_eq_true rfl, Nat.le_of_ble_eq_true rfl⟩) (by simp only [List.append_assoc, List.append_nil, List.nil_append]) hK hN (ci := 2) (q0 := 0) rfl rfl rfl hP hD hS hA rfl hl.1 rfl (Nat.le_of_ble_eq_true rfl) dX3_reap_6 ⟨Nat.le_of_ble_eq_true rfl, Nat.le_of_ble_eq_true rfl⟩ (fun H locs hP hD hS => ?_)
  have hP : va_P (dC, dI) vwCl (oW k b t M ++ kW cI k M ++ bW k B ++ sW cI b S ++ sW cI t T) H := by simpa only [List.append_assoc, List.append_nil, List.nil_append] using hP
  have hD : va_D A (oW k b t M ++ kW cI k M ++ bW k B ++ sW cI b S ++ sW cI t T) := by simpa only [List.append_assoc, List.append_nil, List.nil_append] using hD
  refine lv_if_ne (tgt := 22) hx hb dX3_reap_9 (by decide) (fun c_1 => ?_) (fun c_1 => ?_)
  · refine lv_aload_n hx hb dX3_reap_22 rfl (lv_at hl 0 rfl) ?_
    refine va_get (D := (dC, dI)) (ci := 3) (v := .ref (b 0)) (C := RX3) (T := TX3) (N := 6) hx hb hts hinX3 hown hK hP 0 rfl rfl 1 (by decide) hf21 (fun _ h9 => h9) rfl dX3_reap_23 ?_
    refine lv_iload_n hx hb dX3_reap_26 rfl (lv_at hl 1 rfl) ?_
    refine lv_iload_n hx hb dX3_reap_27 rfl (lv_at hl 2 rfl) ?_
    refine zI_V (pre := (oW k b t M ++ kW cI k M ++ bW k B)) (wc := sW cI b S) (post := (sW cI t T)) (w1 := sW cI b S) ⟨hx, hb, hml, hown, hts⟩ (c_X2_cellOf l dC dI cI b S y f) (cwV 2 hts gX3_reap_X2_cellOf rfl rfl rfl (by decide +kernel) ⟨Nat.le_of_ble_eq_true rfl, Nat.le_of_ble_eq_true rfl⟩) (by simp only [List.append_assoc, List.append_nil, List.nil_append]) hK hN (ci := 2) (q0 := 0) rfl rfl rfl hP hD hS hA rfl hl.1 rfl (Nat.le_of_ble_eq_true rfl) dX3_reap_28 ⟨Nat.le_of_ble_eq_true rfl, Nat.le_of_ble_eq_true rfl⟩ (fun H locs hP hD hS => ?_)
    have hP : va_P (dC, dI) vwCl (oW k b t M ++ kW cI k M ++ bW k B ++ sW cI b S ++ sW cI t T) H := by simpa only [List.append_assoc, List.append_nil, List.nil_append] using hP
    have hD : va_D A (oW k b t M ++ kW cI k M ++ bW k B ++ sW cI b S ++ sW cI t T) := by simpa only [List.append_assoc, List.append_nil, List.nil_append] using hD
    refine lv_istore_n (lv' := [(3, .int (sl_at S y f)), (0, .ref (k 0)), (1, .int y), (2, .int f)]) hx hb dX3_reap_31 rfl hl (by decide) rfl (fun ls hl => ?_)
    refine lv_aload_n hx hb dX3_reap_32 rfl (lv_at hl 1 rfl) ?_
    refine va_get (D := (dC, dI)) (ci := 3) (v := .ref (b 0)) (C := RX3) (T := TX3) (N := 6) hx hb hts hinX3 hown hK hP 0 rfl rfl 1 (by decide) hf21 (fun _ h9 => h9) rfl dX3_reap_33 ?_
    refine va_get (D := (dC, dI)) (ci := 2) (v := .ref (b 7)) (C := RX2) (T := TX2) (N := 18) hx hb hts hinX2 hown hK hP 6 rfl rfl 11 (by decide) hf123 (fun _ h9 => h9) rfl dX3_reap_36 ?_
    refine lv_iload_n hx hb dX3_reap_39 rfl (lv_at hl 0 rfl) ?_
    refine va_iald (cA := cI) (n := 64) (f := S 7) hx hb hK hP 13 0 rfl rfl (geo_in hG0 c_1) dX3_reap_40 ?_
    refine lv_if_eq (tgt := 58) hx hb dX3_reap_41 (by decide) (fun c_2 => ?_) (fun c_2 => ?_)
    · have hT9 : rea_T S y f = 2 := by simp only [rea_T, if_neg c_1, if_pos c_2]
      exact absurd (hT.symm.trans hT9) (by decide)
    · refine lv_aload_n hx hb dX3_reap_44 rfl (lv_at hl 1 rfl) ?_
      refine va_get (D := (dC, dI)) (ci := 3) (v := .ref (b 0)) (C := RX3) (T := TX3) (N := 6) hx hb hts hinX3 hown hK hP 0 rfl rfl 1 (by decide) hf21 (fun _ h9 => h9) rfl dX3_reap_45 ?_
      refine va_get (D := (dC, dI)) (ci := 2) (v := .ref (b 8)) (C := RX2) (T := TX2) (N := 18) hx hb hts hinX2 hown hK hP 6 rfl rfl 12 (by decide) hf134 (fun _ h9 => h9) rfl dX3_reap_48 ?_
      refine lv_iload_n hx hb dX3_reap_51 rfl (lv_at hl 0 rfl) ?_
      refine va_iald (cA := cI) (n := 64) (f := S 8) hx hb hK hP 14 0 rfl rfl (geo_in hG0 c_1) dX3_reap_52 ?_
      refine lv_bipush (v := 40) hx hb dX3_reap_53 (by decide) ?_
      refine lv_icmp_ge (tgt := 68) hx hb dX3_reap_55 (by decide) (fun c_3 => ?_) (fun c_3 => ?_)
      · refine lv_aload_n hx hb dX3_reap_68 rfl (lv_at hl 1 rfl) ?_
        refine va_get (D := (dC, dI)) (ci := 3) (v := .ref (b 0)) (C := RX3) (T := TX3) (N := 6) hx hb hts hinX3 hown hK hP 0 rfl rfl 1 (by decide) hf21 (fun _ h9 => h9) rfl dX3_reap_69 ?_
        refine va_get (D := (dC, dI)) (ci := 2) (v := .ref (b 8)) (C := RX2) (T := TX2) (N := 18) hx hb hts hinX2 hown hK hP 6 rfl rfl 12 (by decide) hf134 (fun _ h9 => h9) rfl dX3_reap_72 ?_
        refine lv_iload_n hx hb dX3_reap_75 rfl (lv_at hl 0 rfl) ?_
        refine va_iald (cA := cI) (n := 64) (f := S 8) hx hb hK hP 14 0 rfl rfl (geo_in hG0 c_1) dX3_reap_76 ?_
        refine lv_aload_n hx hb dX3_reap_77 rfl (lv_at hl 1 rfl) ?_
        refine va_get (D := (dC, dI)) (ci := 3) (v := .ref (b 0)) (C := RX3) (T := TX3) (N := 6) hx hb hts hinX3 hown hK hP 0 rfl rfl 1 (by decide) hf21 (fun _ h9 => h9) rfl dX3_reap_78 ?_
        refine va_get (D := (dC, dI)) (ci := 2) (v := .ref (b 9)) (C := RX2) (T := TX2) (N := 18) hx hb hts hinX2 hown hK hP 6 rfl rfl 13 (by decide) hf142 (fun _ h9 => h9) rfl dX3_reap_81 ?_
        refine lv_iload_n hx hb dX3_reap_84 rfl (lv_at hl 0 rfl) ?_
        refine va_iald (cA := cI) (n := 64) (f := S 9) hx hb hK hP 15 0 rfl rfl (geo_in hG0 c_1) dX3_reap_85 ?_
        refine lv_imul hx hb dX3_reap_86 ?_
        refine lv_bipush (v := 100) hx hb dX3_reap_87 (by decide) ?_
        refine lv_idiv hx hb dX3_reap_89 (by decide) ?_
        refine lv_istore (lv' := [(4, .int (((S 8 (sl_at S y f).toNatClampNeg) * (S 9 (sl_at S y f).toNatClampNeg)) / 100)), (3, .int (sl_at S y f)), (0, .ref (k 0)), (1, .int y), (2, .int f)]) hx hb dX3_reap_90 hl (by decide) rfl (fun ls hl => ?_)
        refine lv_aload_n hx hb dX3_reap_92 rfl (lv_at hl 2 rfl) ?_
        refine va_get (D := (dC, dI)) (ci := 3) (v := .ref (b 0)) (C := RX3) (T := TX3) (N := 6) hx hb hts hinX3 hown hK hP 0 rfl rfl 1 (by decide) hf21 (fun _ h9 => h9) rfl dX3_reap_93 ?_
        refine va_get (D := (dC, dI)) (ci := 2) (v := .ref (b 2)) (C := RX2) (T := TX2) (N := 18) hx hb hts hinX2 hown hK hP 6 rfl rfl 6 (by decide) hf126 (fun _ h9 => h9) rfl dX3_reap_96 ?_
        refine lv_iload_n hx hb dX3_reap_99 rfl (lv_at hl 1 rfl) ?_
        refine va_iald (cA := cI) (n := 64) (f := S 2) hx hb hK hP 8 0 rfl rfl (geo_in hG0 c_1) dX3_reap_100 ?_
        refine lv_if_ne (tgt := 113) hx hb dX3_reap_101 (by decide) (fun c_4 => ?_) (fun c_4 => ?_)
        · refine lv_aload_n hx hb dX3_reap_113 rfl (lv_at hl 2 rfl) ?_
          refine va_get (D := (dC, dI)) (ci := 3) (v := .ref (b 0)) (C := RX3) (T := TX3) (N := 6) hx hb hts hinX3 hown hK hP 0 rfl rfl 1 (by decide) hf21 (fun _ h9 => h9) rfl dX3_reap_114 ?_
          refine lv_iload_n hx hb dX3_reap_117 rfl (lv_at hl 1 rfl) ?_
          obtain ⟨S5, eS5⟩ : ∃ z : sS, z = sl_clear S (sl_at S y f) := ⟨_, rfl⟩
          refine zV_V (pre := (oW k b t M ++ kW cI k M ++ bW k B)) (wc := sW cI b S) (post := (sW cI t T)) (w1 := sW cI b S5) ⟨hx, hb, hml, hown, hts⟩ (by rw [eS5]; exact c_X2_clearCrop l dC dI cI b S (sl_at S y f) (geo_in hG0 c_1)) (cwV 1 hts gX3_reap_X2_clearCrop rfl rfl rfl (by decide +kernel) ⟨Nat.le_of_ble_eq_true rfl, Nat.le_of_ble_eq_true rfl⟩) (by simp only [List.append_assoc, List.append_nil, List.nil_append]) hK hN (ci := 2) (q0 := 0) rfl rfl rfl hP hD hS hA rfl hl.1 rfl (Nat.le_of_ble_eq_true rfl) dX3_reap_118 ⟨Nat.le_of_ble_eq_true rfl, Nat.le_of_ble_eq_true rfl⟩ (fun H locs hP hD hS => ?_)
          have hP : va_P (dC, dI) vwCl (oW k b t M ++ kW cI k M ++ bW k B ++ sW cI b S5 ++ sW cI t T) H := by simpa only [List.append_assoc, List.append_nil, List.nil_append] using hP
          have hD : va_D A (oW k b t M ++ kW cI k M ++ bW k B ++ sW cI b S5 ++ sW cI t T) := by simpa only [List.append_assoc, List.append_nil, List.nil_append] using hD
          have hGS5 : geo h w S5 := by rw [eS5]; exact geo_sam hG0 (sam_clear S (sl_at S y f))
          refine lv_aload_n hx hb dX3_reap_121 rfl (lv_at hl 2 rfl) ?_
          refine lv_dup hx hb dX3_reap_122 rfl ?_
          refine va_get (D := (dC, dI)) (ci := 3) (v := .int (M 0 0)) (C := RX3) (T := TX3) (N := 6) hx hb hts hinX3 hown hK hP 0 rfl rfl 4 (by decide) hf49 (fun _ h9 => h9) rfl dX3_reap_123 ?_
          refine lv_iload hx hb dX3_reap_126 (lv_at hl 0 rfl) ?_
          refine lv_iadd hx hb dX3_reap_128 ?_
          obtain ⟨S6, eS6⟩ : ∃ z : sS, z = s_put M 0 0 ((M 0 0) + (((S 8 (sl_at S y f).toNatClampNeg) * (S 9 (sl_at S y f).toNatClampNeg)) / 100)) := ⟨_, rfl⟩
          refine va_put (D := (dC, dI)) (ci := 3) (v := .int ((M 0 0) + (((S 8 (sl_at S y f).toNatClampNeg) * (S 9 (sl_at S y f).toNatClampNeg)) / 100))) (ty := .int) (C := RX3) (T := TX3) (N := 6) hx hb hts hinX3 tyX3 tyX3_ok nmX3 hown hK hP hD hS 0 rfl rfl 4 (by decide) hf49 (fun _ h9 => h9) rfl (by decide +kernel) rfl rfl (Nat.le_of_ble_eq_true rfl) dX3_reap_129 (fun H locs hP hD hS => ?_)
          have hP : va_P (dC, dI) vwCl (oW k b t S6 ++ kW cI k S6 ++ bW k B ++ sW cI b S5 ++ sW cI t T) H := by rw [eS6]; exact hP
          have hD : va_D A (oW k b t S6 ++ kW cI k S6 ++ bW k B ++ sW cI b S5 ++ sW cI t T) := by rw [eS6]; exact hD
          refine lv_iload hx hb dX3_reap_132 (lv_at hl 0 rfl) ?_
          have hZ : S5 = rea_S S y f := (by (try rw [eS6]); (try rw [eS5]); first | done | rfl | (simp only [rea_M, rea_S, rea_V, rea_b, if_neg c_1, if_neg c_2, if_pos c_3, if_neg c_4]; done) | (unfold rea_M; simp only [if_neg c_1, if_neg c_2, if_pos c_3, if_neg c_4]; done))
          rw [hZ] at hP hD
          have hZ : S6 = rea_M M S y f := (by (try rw [eS6]); (try rw [eS5]); first | done | rfl | (simp only [rea_M, rea_S, rea_V, rea_b, if_neg c_1, if_neg c_2, if_pos c_3, if_neg c_4]; done) | (unfold rea_M; simp only [if_neg c_1, if_neg c_2, if_pos c_3, if_neg c_4]; done))
          rw [hZ] at hP hD
          exact zI_ret hx hb hr hlocks hP hD hS rfl (by (try rw [eS6]); (try rw [eS5]); first | done | rfl | (simp only [rea_M, rea_S, rea_V, rea_b, if_neg c_1, if_neg c_2, if_pos c_3, if_neg c_4]; done)) dX3_reap_134
        · refine lv_iload hx hb dX3_reap_104 (lv_at hl 0 rfl) ?_
          refine lv_iload hx hb dX3_reap_106 (lv_at hl 0 rfl) ?_
          refine lv_iconst (v := 2) hx hb dX3_reap_108 (by decide) ?_
          refine lv_idiv hx hb dX3_reap_109 (by decide) ?_
          refine lv_iadd hx hb dX3_reap_110 ?_
          refine lv_istore (lv' := [(4, .int ((((S 8 (sl_at S y f).toNatClampNeg) * (S 9 (sl_at S y f).toNatClampNeg)) / 100) + ((((S 8 (sl_at S y f).toNatClampNeg) * (S 9 (sl_at S y f).toNatClampNeg)) / 100) / 2))), (3, .int (sl_at S y f)), (0, .ref (k 0)), (1, .int y), (2, .int f)]) hx hb dX3_reap_111 hl (by decide) rfl (fun ls hl => ?_)
          refine lv_aload_n hx hb dX3_reap_113 rfl (lv_at hl 2 rfl) ?_
          refine va_get (D := (dC, dI)) (ci := 3) (v := .ref (b 0)) (C := RX3) (T := TX3) (N := 6) hx hb hts hinX3 hown hK hP 0 rfl rfl 1 (by decide) hf21 (fun _ h9 => h9) rfl dX3_reap_114 ?_
          refine lv_iload_n hx hb dX3_reap_117 rfl (lv_at hl 1 rfl) ?_
          obtain ⟨S7, eS7⟩ : ∃ z : sS, z = sl_clear S (sl_at S y f) := ⟨_, rfl⟩
          refine zV_V (pre := (oW k b t M ++ kW cI k M ++ bW k B)) (wc := sW cI b S) (post := (sW cI t T)) (w1 := sW cI b S7) ⟨hx, hb, hml, hown, hts⟩ (by rw [eS7]; exact c_X2_clearCrop l dC dI cI b S (sl_at S y f) (geo_in hG0 c_1)) (cwV 1 hts gX3_reap_X2_clearCrop rfl rfl rfl (by decide +kernel) ⟨Nat.le_of_ble_eq_true rfl, Nat.le_of_ble_eq_true rfl⟩) (by simp only [List.append_assoc, List.append_nil, List.nil_append]) hK hN (ci := 2) (q0 := 0) rfl rfl rfl hP hD hS hA rfl hl.1 rfl (Nat.le_of_ble_eq_true rfl) dX3_reap_118 ⟨Nat.le_of_ble_eq_true rfl, Nat.le_of_ble_eq_true rfl⟩ (fun H locs hP hD hS => ?_)
          have hP : va_P (dC, dI) vwCl (oW k b t M ++ kW cI k M ++ bW k B ++ sW cI b S7 ++ sW cI t T) H := by simpa only [List.append_assoc, List.append_nil, List.nil_append] using hP
          have hD : va_D A (oW k b t M ++ kW cI k M ++ bW k B ++ sW cI b S7 ++ sW cI t T) := by simpa only [List.append_assoc, List.append_nil, List.nil_append] using hD
          have hGS7 : geo h w S7 := by rw [eS7]; exact geo_sam hG0 (sam_clear S (sl_at S y f))
          refine lv_aload_n hx hb dX3_reap_121 rfl (lv_at hl 2 rfl) ?_
          refine lv_dup hx hb dX3_reap_122 rfl ?_
          refine va_get (D := (dC, dI)) (ci := 3) (v := .int (M 0 0)) (C := RX3) (T := TX3) (N := 6) hx hb hts hinX3 hown hK hP 0 rfl rfl 4 (by decide) hf49 (fun _ h9 => h9) rfl dX3_reap_123 ?_
          refine lv_iload hx hb dX3_reap_126 (lv_at hl 0 rfl) ?_
          refine lv_iadd hx hb dX3_reap_128 ?_
          obtain ⟨S8, eS8⟩ : ∃ z : sS, z = s_put M 0 0 ((M 0 0) + ((((S 8 (sl_at S y f).toNatClampNeg) * (S 9 (sl_at S y f).toNatClampNeg)) / 100) + ((((S 8 (sl_at S y f).toNatClampNeg) * (S 9 (sl_at S y f).toNatClampNeg)) / 100) / 2))) := ⟨_, rfl⟩
          refine va_put (D := (dC, dI)) (ci := 3) (v := .int ((M 0 0) + ((((S 8 (sl_at S y f).toNatClampNeg) * (S 9 (sl_at S y f).toNatClampNeg)) / 100) + ((((S 8 (sl_at S y f).toNatClampNeg) * (S 9 (sl_at S y f).toNatClampNeg)) / 100) / 2)))) (ty := .int) (C := RX3) (T := TX3) (N := 6) hx hb hts hinX3 tyX3 tyX3_ok nmX3 hown hK hP hD hS 0 rfl rfl 4 (by decide) hf49 (fun _ h9 => h9) rfl (by decide +kernel) rfl rfl (Nat.le_of_ble_eq_true rfl) dX3_reap_129 (fun H locs hP hD hS => ?_)
          have hP : va_P (dC, dI) vwCl (oW k b t S8 ++ kW cI k S8 ++ bW k B ++ sW cI b S7 ++ sW cI t T) H := by rw [eS8]; exact hP
          have hD : va_D A (oW k b t S8 ++ kW cI k S8 ++ bW k B ++ sW cI b S7 ++ sW cI t T) := by rw [eS8]; exact hD
          refine lv_iload hx hb dX3_reap_132 (lv_at hl 0 rfl) ?_
          have hZ : S7 = rea_S S y f := (by (try rw [eS8]); (try rw [eS7]); first | done | rfl | (simp only [rea_M, rea_S, rea_V, rea_b, if_neg c_1, if_neg c_2, if_pos c_3, if_pos c_4]; done) | (unfold rea_M; simp only [if_neg c_1, if_neg c_2, if_pos c_3, if_pos c_4]; done))
          rw [hZ] at hP hD
          have hZ : S8 = rea_M M S y f := (by (try rw [eS8]); (try rw [eS7]); first | done | rfl | (simp only [rea_M, rea_S, rea_V, rea_b, if_neg c_1, if_neg c_2, if_pos c_3, if_pos c_4]; done) | (unfold rea_M; simp only [if_neg c_1, if_neg c_2, if_pos c_3, if_pos c_4]; done))
          rw [hZ] at hP hD
          exact zI_ret hx hb hr hlocks hP hD hS rfl (by (try rw [eS8]); (try rw [eS7]); first | done | rfl | (simp only [rea_M, rea_S, rea_V, rea_b, if_neg c_1, if_neg c_2, if_pos c_3, if_pos c_4]; done)) dX3_reap_134
      · have hT9 : rea_T S y f = 2 := by simp only [rea_T, if_neg c_1, if_neg c_2, if_neg c_3]
        exact absurd (hT.symm.trans hT9) (by decide)
  · have hT9 : rea_T S y f = 1 := by simp only [rea_T, if_pos c_1]
    exact absurd (hT.symm.trans hT9) (by decide)
set_option maxHeartbeats 4000000 in
set_option maxRecDepth 100000 in
theorem c_X3_pass (l : Launch) (dC : Nat → ClassId) (dI : Nat → Nat → Nat) (cI : ClassId) (k b t : Nat → Nat) (h w : Nat) (M B S T : sS) (x : Int32) (d : Nat) (hG0 : geo h w S) (hd : S 0 2 = nI d) (hd2 : d ≤ 2000) (hT : pas_T S x = 0) : zI l yX3_pass wsX3_pass { frames := 5, cells := 0, slots := 0, locals := 116 } (dC, dI) cI [.ref (k 0), .int x] (oW k b t M ++ kW cI k M ++ bW k B ++ sW cI b S ++ sW cI t T) (oW k b t M ++ kW cI k M ++ bW k B ++ sW cI b (pas_S h w M S x) ++ sW cI t T) (sl_sum h w (pas_S h w M S x) 7) := by
  refine zI_of (cc := cX3_pass) (maxL := 2) (ret := (some .int)) (by decide) rfl (Nat.le_of_ble_eq_true rfl) ?_
  intro p e s m below meth c A ls C0 hl
  obtain ⟨hx, hb, hr, hml, hown, hts, hlocks, hK, hN, hA, hP, hD, hS⟩ := C0
  have hown : s.vm.findClass RX3 = some m.cls := hown
  have hl : lv_has ls 2 [(0, .ref (k 0)), (1, .int x)] := hl
  have hf10 := hts (.fieldLink RX3 10 "PaddyTerraces" "calendar" "LPaddyTerraces$Calendar;") (by decide +kernel)
  have hf21 := hts (.fieldLink RX3 21 "PaddyTerraces" "slope" "LPaddyTerraces$Slope;") (by decide +kernel)
  have hf151 := hts (.fieldLink RX3 151 "PaddyTerraces$Slope" "day" "I") (by decide +kernel)
  have hinX2 : ∀ w ∈ wsX20, w ∈ wsX3_pass := by decide +kernel
  have hinX3 : ∀ w ∈ wsX30, w ∈ wsX3_pass := by decide +kernel
  have hS0 := hS
  have hN64 := geo_hw hG0
  obtain ⟨-, -, hh2, hh8, hw2, hw8⟩ := id hG0
  refine lv_iload_n hx hb dX3_pass_0 rfl (lv_at hl 1 rfl) ?_
  refine lv_iconst (v := 1) hx hb dX3_pass_1 (by decide) ?_
  refine lv_bipush (v := 60) hx hb dX3_pass_2 (by decide) ?_
  refine zI_S (pre := (oW k b t M ++ kW cI k M ++ bW k B ++ sW cI b S ++ sW cI t T)) (wc := ([] : va_W)) (post := ([] : va_W)) (w1 := ([] : va_W)) ⟨hx, hb, hml, hown, hts⟩ (c_X3_isWithin l dC dI cI x 1 60) (va_cwS 3 hts gX3_pass_X3_isWithin rfl rfl rfl (by decide +kernel) ⟨Nat.le_of_ble_eq_true rfl, Nat.le_of_ble_eq_true rfl⟩) (by simp only [List.append_assoc, List.append_nil, List.nil_append]) hK hN hP hD hS hA rfl hl.1 rfl (Nat.le_of_ble_eq_true rfl) dX3_pass_4 ⟨Nat.le_of_ble_eq_true rfl, Nat.le_of_ble_eq_true rfl⟩ (fun H locs hP hD hS => ?_)
  have hP : va_P (dC, dI) vwCl (oW k b t M ++ kW cI k M ++ bW k B ++ sW cI b S ++ sW cI t T) H := by simpa only [List.append_assoc, List.append_nil, List.nil_append] using hP
  have hD : va_D A (oW k b t M ++ kW cI k M ++ bW k B ++ sW cI b S ++ sW cI t T) := by simpa only [List.append_assoc, List.append_nil, List.nil_append] using hD
  refine lv_if_ne (tgt := 20) hx hb dX3_pass_7 (by decide) (fun c_1 => ?_) (fun c_1 => ?_)
  · refine lv_aload_n hx hb dX3_pass_20 rfl (lv_at hl 0 rfl) ?_
    refine va_get (D := (dC, dI)) (ci := 3) (v := .ref (b 0)) (C := RX3) (T := TX3) (N := 6) hx hb hts hinX3 hown hK hP 0 rfl rfl 1 (by decide) hf21 (fun _ h9 => h9) rfl dX3_pass_21 ?_
    refine va_get (D := (dC, dI)) (ci := 2) (v := .int (S 0 2)) (C := RX2) (T := TX2) (N := 18) hx hb hts hinX2 hown hK hP 6 rfl rfl 2 (by decide) hf151 (fun _ h9 => h9) rfl dX3_pass_24 ?_
    refine lv_iload_n hx hb dX3_pass_27 rfl (lv_at hl 1 rfl) ?_
    refine lv_iadd hx hb dX3_pass_28 ?_
    refine lv_sipush (v := 2000) hx hb dX3_pass_29 (by decide) ?_
    refine lv_icmp_le (tgt := 45) hx hb dX3_pass_32 (by decide) (fun c_2 => ?_) (fun c_2 => ?_)
    · refine lv_aload_n hx hb dX3_pass_45 rfl (lv_at hl 0 rfl) ?_
      refine va_get (D := (dC, dI)) (ci := 3) (v := .ref (b 0)) (C := RX3) (T := TX3) (N := 6) hx hb hts hinX3 hown hK hP 0 rfl rfl 1 (by decide) hf21 (fun _ h9 => h9) rfl dX3_pass_46 ?_
      refine lv_iload_n hx hb dX3_pass_49 rfl (lv_at hl 1 rfl) ?_
      refine lv_aload_n hx hb dX3_pass_50 rfl (lv_at hl 0 rfl) ?_
      refine va_get (D := (dC, dI)) (ci := 3) (v := .ref (k 1)) (C := RX3) (T := TX3) (N := 6) hx hb hts hinX3 hown hK hP 0 rfl rfl 0 (by decide) hf10 (fun _ h9 => h9) rfl dX3_pass_51 ?_
      have hP : va_P (dC, dI) vwCl (oW k b t M ++ bW k B ++ sW cI t T ++ sW cI b S ++ kW cI k M) _ := hP.sub (ws' := oW k b t M ++ bW k B ++ sW cI t T ++ sW cI b S ++ kW cI k M) [0, 5, 20, 21, 22, 23, 24, 25, 26, 27, 28, 29, 30, 31, 32, 33, 6, 7, 8, 9, 10, 11, 12, 13, 14, 15, 16, 17, 18, 19, 1, 2, 3, 4] rfl
      have hD : va_D A (oW k b t M ++ bW k B ++ sW cI t T ++ sW cI b S ++ kW cI k M) := hD.sub (ws' := oW k b t M ++ bW k B ++ sW cI t T ++ sW cI b S ++ kW cI k M) [0, 5, 20, 21, 22, 23, 24, 25, 26, 27, 28, 29, 30, 31, 32, 33, 6, 7, 8, 9, 10, 11, 12, 13, 14, 15, 16, 17, 18, 19, 1, 2, 3, 4] (by decide +kernel) rfl
      obtain ⟨S3, eS3⟩ : ∃ z : sS, z = sl_days h w M S x.toNatClampNeg := ⟨_, rfl⟩
      refine zV_V (pre := (oW k b t M ++ bW k B ++ sW cI t T)) (wc := sW cI b S ++ kW cI k M) (post := ([] : va_W)) (w1 := sW cI b S3 ++ kW cI k M) ⟨hx, hb, hml, hown, hts⟩ (by rw [eS3]; exact c_X2_letDaysGoByX l dC dI cI b k h w d x S M hG0 hd (isw_n c_1 (by decide)).1 (by have h9 : (x.toNatClampNeg : Int) ≤ 60 := (isw_n c_1 (by decide)).2.1; omega)) (cwV 2 hts gX3_pass_X2_letDaysGoBy rfl rfl rfl (by decide +kernel) ⟨Nat.le_of_ble_eq_true rfl, Nat.le_of_ble_eq_true rfl⟩) (by simp only [List.append_assoc, List.append_nil, List.nil_append]) hK hN (ci := 2) (q0 := 0) rfl rfl rfl hP hD hS hA rfl hl.1 rfl (Nat.le_of_ble_eq_true rfl) dX3_pass_54 ⟨Nat.le_of_ble_eq_true rfl, Nat.le_of_ble_eq_true rfl⟩ (fun H locs hP hD hS => ?_)
      have hP : va_P (dC, dI) vwCl (oW k b t M ++ bW k B ++ sW cI t T ++ sW cI b S3 ++ kW cI k M) H := by simpa only [List.append_assoc, List.append_nil, List.nil_append] using hP
      have hD : va_D A (oW k b t M ++ bW k B ++ sW cI t T ++ sW cI b S3 ++ kW cI k M) := by simpa only [List.append_assoc, List.append_nil, List.nil_append] using hD
      have hGS3 : geo h w S3 := by rw [eS3]; exact geo_days hG0 M _
      refine lv_aload_n hx hb dX3_pass_57 rfl (lv_at hl 0 rfl) ?_
      refine va_get (D := (dC, dI)) (ci := 3) (v := .ref (b 0)) (C := RX3) (T := TX3) (N := 6) hx hb hts hinX3 hown hK hP 0 rfl rfl 1 (by decide) hf21 (fun _ h9 => h9) rfl dX3_pass_58 ?_
      refine zI_V (pre := (oW k b t M ++ bW k B ++ sW cI t T)) (wc := sW cI b S3) (post := (kW cI k M)) (w1 := sW cI b S3) ⟨hx, hb, hml, hown, hts⟩ (c_X2_crops l dC dI cI b h w S3 hGS3) (cwV 0 hts gX3_pass_X2_crops rfl rfl rfl (by decide +kernel) ⟨Nat.le_of_ble_eq_true rfl, Nat.le_of_ble_eq_true rfl⟩) (by simp only [List.append_assoc, List.append_nil, List.nil_append]) hK hN (ci := 2) (q0 := 0) rfl rfl rfl hP hD hS hA rfl hl.1 rfl (Nat.le_of_ble_eq_true rfl) dX3_pass_61 ⟨Nat.le_of_ble_eq_true rfl, Nat.le_of_ble_eq_true rfl⟩ (fun H locs hP hD hS => ?_)
      have hP : va_P (dC, dI) vwCl (oW k b t M ++ bW k B ++ sW cI t T ++ sW cI b S3 ++ kW cI k M) H := by simpa only [List.append_assoc, List.append_nil, List.nil_append] using hP
      have hD : va_D A (oW k b t M ++ bW k B ++ sW cI t T ++ sW cI b S3 ++ kW cI k M) := by simpa only [List.append_assoc, List.append_nil, List.nil_append] using hD
      have hP : va_P (dC, dI) vwCl (oW k b t M ++ kW cI k M ++ bW k B ++ sW cI b S3 ++ sW cI t T) _ := hP.sub (ws' := oW k b t M ++ kW cI k M ++ bW k B ++ sW cI b S3 ++ sW cI t T) [0, 30, 31, 32, 33, 1, 16, 17, 18, 19, 20, 21, 22, 23, 24, 25, 26, 27, 28, 29, 2, 3, 4, 5, 6, 7, 8, 9, 10, 11, 12, 13, 14, 15] rfl
      have hD : va_D A (oW k b t M ++ kW cI k M ++ bW k B ++ sW cI b S3 ++ sW cI t T) := hD.sub (ws' := oW k b t M ++ kW cI k M ++ bW k B ++ sW cI b S3 ++ sW cI t T) [0, 30, 31, 32, 33, 1, 16, 17, 18, 19, 20, 21, 22, 23, 24, 25, 26, 27, 28, 29, 2, 3, 4, 5, 6, 7, 8, 9, 10, 11, 12, 13, 14, 15] (by decide +kernel) rfl
      have hZ : S3 = pas_S h w M S x := (by (try rw [eS3]); first | done | rfl | (simp only [pas_S, if_neg c_1, if_pos c_2]; done) | (unfold pas_S; simp only [if_neg c_1, if_pos c_2]; done))
      rw [hZ] at hP hD
      exact zI_ret hx hb hr hlocks hP hD hS rfl (by (try rw [eS3]); first | done | rfl | (simp only [pas_S, if_neg c_1, if_pos c_2]; done)) dX3_pass_64
    · have hT9 : pas_T S x = 2 := by simp only [pas_T, if_neg c_1, if_neg c_2]
      exact absurd (hT.symm.trans hT9) (by decide)
  · have hT9 : pas_T S x = 1 := by simp only [pas_T, if_pos c_1]
    exact absurd (hT.symm.trans hT9) (by decide)
set_option maxHeartbeats 4000000 in
set_option maxRecDepth 100000 in
theorem c_X3_field (l : Launch) (dC : Nat → ClassId) (dI : Nat → Nat → Nat) (cI : ClassId) (k b t : Nat → Nat) (h w : Nat) (M B S T : sS) (y f x : Int32) (hG0 : geo h w S) (hT : fld_T S y f x = 0) : zI l yX3_field wsX3_field { frames := 1, cells := 0, slots := 0, locals := 22 } (dC, dI) cI [.ref (k 0), .int y, .int f, .int x] (oW k b t M ++ kW cI k M ++ bW k B ++ sW cI b S ++ sW cI t T) (oW k b t M ++ kW cI k M ++ bW k B ++ sW cI b S ++ sW cI t T) (sl_field S (sl_at S y f) x) := by
  refine zI_of (cc := cX3_field) (maxL := 4) (ret := (some .int)) (by decide) rfl (Nat.le_of_ble_eq_true rfl) ?_
  intro p e s m below meth c A ls C0 hl
  obtain ⟨hx, hb, hr, hml, hown, hts, hlocks, hK, hN, hA, hP, hD, hS⟩ := C0
  have hown : s.vm.findClass RX3 = some m.cls := hown
  have hl : lv_has ls 4 [(0, .ref (k 0)), (1, .int y), (2, .int f), (3, .int x)] := hl
  have hf21 := hts (.fieldLink RX3 21 "PaddyTerraces" "slope" "LPaddyTerraces$Slope;") (by decide +kernel)
  have hinX3 : ∀ w ∈ wsX30, w ∈ wsX3_field := by decide +kernel
  have hS0 := hS
  have hN64 := geo_hw hG0
  obtain ⟨-, -, hh2, hh8, hw2, hw8⟩ := id hG0
  refine lv_aload_n hx hb dX3_field_0 rfl (lv_at hl 0 rfl) ?_
  refine va_get (D := (dC, dI)) (ci := 3) (v := .ref (b 0)) (C := RX3) (T := TX3) (N := 6) hx hb hts hinX3 hown hK hP 0 rfl rfl 1 (by decide) hf21 (fun _ h9 => h9) rfl dX3_field_1 ?_
  refine lv_iload_n hx hb dX3_field_4 rfl (lv_at hl 1 rfl) ?_
  refine lv_iload_n hx hb dX3_field_5 rfl (lv_at hl 2 rfl) ?_
  refine zI_V (pre := (oW k b t M ++ kW cI k M ++ bW k B)) (wc := sW cI b S) (post := (sW cI t T)) (w1 := sW cI b S) ⟨hx, hb, hml, hown, hts⟩ (c_X2_hasField l dC dI cI b S y f) (cwV 2 hts gX3_field_X2_hasField rfl rfl rfl (by decide +kernel) ⟨Nat.le_of_ble_eq_true rfl, Nat.le_of_ble_eq_true rfl⟩) (by simp only [List.append_assoc, List.append_nil, List.nil_append]) hK hN (ci := 2) (q0 := 0) rfl rfl rfl hP hD hS hA rfl hl.1 rfl (Nat.le_of_ble_eq_true rfl) dX3_field_6 ⟨Nat.le_of_ble_eq_true rfl, Nat.le_of_ble_eq_true rfl⟩ (fun H locs hP hD hS => ?_)
  have hP : va_P (dC, dI) vwCl (oW k b t M ++ kW cI k M ++ bW k B ++ sW cI b S ++ sW cI t T) H := by simpa only [List.append_assoc, List.append_nil, List.nil_append] using hP
  have hD : va_D A (oW k b t M ++ kW cI k M ++ bW k B ++ sW cI b S ++ sW cI t T) := by simpa only [List.append_assoc, List.append_nil, List.nil_append] using hD
  refine lv_if_eq (tgt := 22) hx hb dX3_field_9 (by decide) (fun c_1 => ?_) (fun c_1 => ?_)
  · have hT9 : fld_T S y f x = 1 := by simp only [fld_T, if_pos c_1]
    exact absurd (hT.symm.trans hT9) (by decide)
  · refine lv_iload_n hx hb dX3_field_12 rfl (lv_at hl 3 rfl) ?_
    refine lv_iconst (v := 0) hx hb dX3_field_13 (by decide) ?_
    refine lv_bipush (v := 11) hx hb dX3_field_14 (by decide) ?_
    refine zI_S (pre := (oW k b t M ++ kW cI k M ++ bW k B ++ sW cI b S ++ sW cI t T)) (wc := ([] : va_W)) (post := ([] : va_W)) (w1 := ([] : va_W)) ⟨hx, hb, hml, hown, hts⟩ (c_X3_isWithin l dC dI cI x 0 11) (va_cwS 3 hts gX3_field_X3_isWithin rfl rfl rfl (by decide +kernel) ⟨Nat.le_of_ble_eq_true rfl, Nat.le_of_ble_eq_true rfl⟩) (by simp only [List.append_assoc, List.append_nil, List.nil_append]) hK hN hP hD hS hA rfl hl.1 rfl (Nat.le_of_ble_eq_true rfl) dX3_field_16 ⟨Nat.le_of_ble_eq_true rfl, Nat.le_of_ble_eq_true rfl⟩ (fun H locs hP hD hS => ?_)
    have hP : va_P (dC, dI) vwCl (oW k b t M ++ kW cI k M ++ bW k B ++ sW cI b S ++ sW cI t T) H := by simpa only [List.append_assoc, List.append_nil, List.nil_append] using hP
    have hD : va_D A (oW k b t M ++ kW cI k M ++ bW k B ++ sW cI b S ++ sW cI t T) := by simpa only [List.append_assoc, List.append_nil, List.nil_append] using hD
    refine lv_if_ne (tgt := 32) hx hb dX3_field_19 (by decide) (fun c_2 => ?_) (fun c_2 => ?_)
    · refine lv_aload_n hx hb dX3_field_32 rfl (lv_at hl 0 rfl) ?_
      refine va_get (D := (dC, dI)) (ci := 3) (v := .ref (b 0)) (C := RX3) (T := TX3) (N := 6) hx hb hts hinX3 hown hK hP 0 rfl rfl 1 (by decide) hf21 (fun _ h9 => h9) rfl dX3_field_33 ?_
      refine lv_aload_n hx hb dX3_field_36 rfl (lv_at hl 0 rfl) ?_
      refine va_get (D := (dC, dI)) (ci := 3) (v := .ref (b 0)) (C := RX3) (T := TX3) (N := 6) hx hb hts hinX3 hown hK hP 0 rfl rfl 1 (by decide) hf21 (fun _ h9 => h9) rfl dX3_field_37 ?_
      refine lv_iload_n hx hb dX3_field_40 rfl (lv_at hl 1 rfl) ?_
      refine lv_iload_n hx hb dX3_field_41 rfl (lv_at hl 2 rfl) ?_
      refine zI_V (pre := (oW k b t M ++ kW cI k M ++ bW k B)) (wc := sW cI b S) (post := (sW cI t T)) (w1 := sW cI b S) ⟨hx, hb, hml, hown, hts⟩ (c_X2_cellOf l dC dI cI b S y f) (cwV 2 hts gX3_field_X2_cellOf rfl rfl rfl (by decide +kernel) ⟨Nat.le_of_ble_eq_true rfl, Nat.le_of_ble_eq_true rfl⟩) (by simp only [List.append_assoc, List.append_nil, List.nil_append]) hK hN (ci := 2) (q0 := 0) rfl rfl rfl hP hD hS hA rfl hl.1 rfl (Nat.le_of_ble_eq_true rfl) dX3_field_42 ⟨Nat.le_of_ble_eq_true rfl, Nat.le_of_ble_eq_true rfl⟩ (fun H locs hP hD hS => ?_)
      have hP : va_P (dC, dI) vwCl (oW k b t M ++ kW cI k M ++ bW k B ++ sW cI b S ++ sW cI t T) H := by simpa only [List.append_assoc, List.append_nil, List.nil_append] using hP
      have hD : va_D A (oW k b t M ++ kW cI k M ++ bW k B ++ sW cI b S ++ sW cI t T) := by simpa only [List.append_assoc, List.append_nil, List.nil_append] using hD
      refine lv_iload_n hx hb dX3_field_45 rfl (lv_at hl 3 rfl) ?_
      refine zI_V (pre := (oW k b t M ++ kW cI k M ++ bW k B)) (wc := sW cI b S) (post := (sW cI t T)) (w1 := sW cI b S) ⟨hx, hb, hml, hown, hts⟩ (c_X2_fieldNumber l dC dI cI b S (sl_at S y f) x (geo_in hG0 c_1)) (cwV 2 hts gX3_field_X2_fieldNumber rfl rfl rfl (by decide +kernel) ⟨Nat.le_of_ble_eq_true rfl, Nat.le_of_ble_eq_true rfl⟩) (by simp only [List.append_assoc, List.append_nil, List.nil_append]) hK hN (ci := 2) (q0 := 0) rfl rfl rfl hP hD hS hA rfl hl.1 rfl (Nat.le_of_ble_eq_true rfl) dX3_field_46 ⟨Nat.le_of_ble_eq_true rfl, Nat.le_of_ble_eq_true rfl⟩ (fun H locs hP hD hS => ?_)
      have hP : va_P (dC, dI) vwCl (oW k b t M ++ kW cI k M ++ bW k B ++ sW cI b S ++ sW cI t T) H := by simpa only [List.append_assoc, List.append_nil, List.nil_append] using hP
      have hD : va_D A (oW k b t M ++ kW cI k M ++ bW k B ++ sW cI b S ++ sW cI t T) := by simpa only [List.append_assoc, List.append_nil, List.nil_append] using hD
      exact zI_ret hx hb hr hlocks hP hD hS rfl rfl dX3_field_49
    · have hT9 : fld_T S y f x = 1 := by simp only [fld_T, if_neg c_1, if_pos c_2]
      exact absurd (hT.symm.trans hT9) (by decide)
set_option maxHeartbeats 4000000 in
set_option maxRecDepth 100000 in
theorem c_X3_count (l : Launch) (dC : Nat → ClassId) (dI : Nat → Nat → Nat) (cI : ClassId) (k b t : Nat → Nat) (h w : Nat) (M B S T : sS) (x : Int32) (hG0 : geo h w S) (hT : cnt_T x = 0) : zI l yX3_count wsX3_count { frames := 4, cells := 0, slots := 0, locals := 84 } (dC, dI) cI [.ref (k 0), .int x] (oW k b t M ++ kW cI k M ++ bW k B ++ sW cI b S ++ sW cI t T) (oW k b t M ++ kW cI k M ++ bW k B ++ sW cI b S ++ sW cI t T) (x3_count h w M S x) := by
  refine zI_of (cc := cX3_count) (maxL := 2) (ret := (some .int)) (by decide) rfl (Nat.le_of_ble_eq_true rfl) ?_
  intro p e s m below meth c A ls C0 hl
  obtain ⟨hx, hb, hr, hml, hown, hts, hlocks, hK, hN, hA, hP, hD, hS⟩ := C0
  have hown : s.vm.findClass RX3 = some m.cls := hown
  have hl : lv_has ls 2 [(0, .ref (k 0)), (1, .int x)] := hl
  have hS0 := hS
  have hN64 := geo_hw hG0
  obtain ⟨-, -, hh2, hh8, hw2, hw8⟩ := id hG0
  refine lv_iload_n hx hb dX3_count_0 rfl (lv_at hl 1 rfl) ?_
  refine lv_iconst (v := 0) hx hb dX3_count_1 (by decide) ?_
  refine lv_bipush (v := 8) hx hb dX3_count_2 (by decide) ?_
  refine zI_S (pre := (oW k b t M ++ kW cI k M ++ bW k B ++ sW cI b S ++ sW cI t T)) (wc := ([] : va_W)) (post := ([] : va_W)) (w1 := ([] : va_W)) ⟨hx, hb, hml, hown, hts⟩ (c_X3_isWithin l dC dI cI x 0 8) (va_cwS 3 hts gX3_count_X3_isWithin rfl rfl rfl (by decide +kernel) ⟨Nat.le_of_ble_eq_true rfl, Nat.le_of_ble_eq_true rfl⟩) (by simp only [List.append_assoc, List.append_nil, List.nil_append]) hK hN hP hD hS hA rfl hl.1 rfl (Nat.le_of_ble_eq_true rfl) dX3_count_4 ⟨Nat.le_of_ble_eq_true rfl, Nat.le_of_ble_eq_true rfl⟩ (fun H locs hP hD hS => ?_)
  have hP : va_P (dC, dI) vwCl (oW k b t M ++ kW cI k M ++ bW k B ++ sW cI b S ++ sW cI t T) H := by simpa only [List.append_assoc, List.append_nil, List.nil_append] using hP
  have hD : va_D A (oW k b t M ++ kW cI k M ++ bW k B ++ sW cI b S ++ sW cI t T) := by simpa only [List.append_assoc, List.append_nil, List.nil_append] using hD
  refine lv_if_ne (tgt := 20) hx hb dX3_count_7 (by decide) (fun c_1 => ?_) (fun c_1 => ?_)
  · refine lv_aload_n hx hb dX3_count_20 rfl (lv_at hl 0 rfl) ?_
    refine lv_iload_n hx hb dX3_count_21 rfl (lv_at hl 1 rfl) ?_
    refine zI_V (pre := ([] : va_W)) (wc := oW k b t M ++ kW cI k M ++ bW k B ++ sW cI b S ++ sW cI t T) (post := ([] : va_W)) (w1 := oW k b t M ++ kW cI k M ++ bW k B ++ sW cI b S ++ sW cI t T) ⟨hx, hb, hml, hown, hts⟩ (c_X3_countNumber l dC dI cI k b t h w M B S T x hG0) (cwV 1 hts gX3_count_X3_countNumber rfl rfl rfl (by decide +kernel) ⟨Nat.le_of_ble_eq_true rfl, Nat.le_of_ble_eq_true rfl⟩) (by simp only [List.append_assoc, List.append_nil, List.nil_append]) hK hN (ci := 3) (q0 := 0) rfl rfl rfl hP hD hS hA rfl hl.1 rfl (Nat.le_of_ble_eq_true rfl) dX3_count_22 ⟨Nat.le_of_ble_eq_true rfl, Nat.le_of_ble_eq_true rfl⟩ (fun H locs hP hD hS => ?_)
    have hP : va_P (dC, dI) vwCl (oW k b t M ++ kW cI k M ++ bW k B ++ sW cI b S ++ sW cI t T) H := by simpa only [List.append_assoc, List.append_nil, List.nil_append] using hP
    have hD : va_D A (oW k b t M ++ kW cI k M ++ bW k B ++ sW cI b S ++ sW cI t T) := by simpa only [List.append_assoc, List.append_nil, List.nil_append] using hD
    exact zI_ret hx hb hr hlocks hP hD hS rfl rfl dX3_count_25
  · have hT9 : cnt_T x = 1 := by simp only [cnt_T, if_pos c_1]
    exact absurd (hT.symm.trans hT9) (by decide)
set_option maxHeartbeats 4000000 in
set_option maxRecDepth 100000 in
theorem c_X3_foresee (l : Launch) (dC : Nat → ClassId) (dI : Nat → Nat → Nat) (cI : ClassId) (k b t : Nat → Nat) (h w : Nat) (M B S T : sS) (i x : Int32) (d : Nat) (hG0 : geo h w S) (hd : S 0 2 = nI d) (hd2 : d ≤ 2000) (hT : for_T S i x = 0) : zI l yX3_foresee wsX3_foresee { frames := 5, cells := 0, slots := 0, locals := 116 } (dC, dI) cI [.ref (k 0), .int i, .int x] (oW k b t M ++ kW cI k M ++ bW k B ++ sW cI b S ++ sW cI t T) (oW k b t M ++ kW cI k M ++ bW k B ++ sW cI b S ++ sW cI t (pas_S h w M S i)) (x3_fore h w S (pas_S h w M S i) x) := by
  refine zI_of (cc := cX3_foresee) (maxL := 3) (ret := (some .int)) (by decide) rfl (Nat.le_of_ble_eq_true rfl) ?_
  intro p e s m below meth c A ls C0 hl
  obtain ⟨hx, hb, hr, hml, hown, hts, hlocks, hK, hN, hA, hP, hD, hS⟩ := C0
  have hown : s.vm.findClass RX3 = some m.cls := hown
  have hl : lv_has ls 3 [(0, .ref (k 0)), (1, .int i), (2, .int x)] := hl
  have hf10 := hts (.fieldLink RX3 10 "PaddyTerraces" "calendar" "LPaddyTerraces$Calendar;") (by decide +kernel)
  have hf21 := hts (.fieldLink RX3 21 "PaddyTerraces" "slope" "LPaddyTerraces$Slope;") (by decide +kernel)
  have hf25 := hts (.fieldLink RX3 25 "PaddyTerraces" "trial" "LPaddyTerraces$Slope;") (by decide +kernel)
  have hf151 := hts (.fieldLink RX3 151 "PaddyTerraces$Slope" "day" "I") (by decide +kernel)
  have hinX2 : ∀ w ∈ wsX20, w ∈ wsX3_foresee := by decide +kernel
  have hinX3 : ∀ w ∈ wsX30, w ∈ wsX3_foresee := by decide +kernel
  have hS0 := hS
  have hN64 := geo_hw hG0
  obtain ⟨-, -, hh2, hh8, hw2, hw8⟩ := id hG0
  refine lv_iload_n hx hb dX3_foresee_0 rfl (lv_at hl 1 rfl) ?_
  refine lv_iconst (v := 1) hx hb dX3_foresee_1 (by decide) ?_
  refine lv_bipush (v := 20) hx hb dX3_foresee_2 (by decide) ?_
  refine zI_S (pre := (oW k b t M ++ kW cI k M ++ bW k B ++ sW cI b S ++ sW cI t T)) (wc := ([] : va_W)) (post := ([] : va_W)) (w1 := ([] : va_W)) ⟨hx, hb, hml, hown, hts⟩ (c_X3_isWithin l dC dI cI i 1 20) (va_cwS 3 hts gX3_foresee_X3_isWithin rfl rfl rfl (by decide +kernel) ⟨Nat.le_of_ble_eq_true rfl, Nat.le_of_ble_eq_true rfl⟩) (by simp only [List.append_assoc, List.append_nil, List.nil_append]) hK hN hP hD hS hA rfl hl.1 rfl (Nat.le_of_ble_eq_true rfl) dX3_foresee_4 ⟨Nat.le_of_ble_eq_true rfl, Nat.le_of_ble_eq_true rfl⟩ (fun H locs hP hD hS => ?_)
  have hP : va_P (dC, dI) vwCl (oW k b t M ++ kW cI k M ++ bW k B ++ sW cI b S ++ sW cI t T) H := by simpa only [List.append_assoc, List.append_nil, List.nil_append] using hP
  have hD : va_D A (oW k b t M ++ kW cI k M ++ bW k B ++ sW cI b S ++ sW cI t T) := by simpa only [List.append_assoc, List.append_nil, List.nil_append] using hD
  refine lv_if_ne (tgt := 20) hx hb dX3_foresee_7 (by decide) (fun c_1 => ?_) (fun c_1 => ?_)
  · refine lv_iload_n hx hb dX3_foresee_20 rfl (lv_at hl 2 rfl) ?_
    refine lv_iconst (v := 0) hx hb dX3_foresee_21 (by decide) ?_
    refine lv_iconst (v := 3) hx hb dX3_foresee_22 (by decide) ?_
    refine zI_S (pre := (oW k b t M ++ kW cI k M ++ bW k B ++ sW cI b S ++ sW cI t T)) (wc := ([] : va_W)) (post := ([] : va_W)) (w1 := ([] : va_W)) ⟨hx, hb, hml, hown, hts⟩ (c_X3_isWithin l dC dI cI x 0 3) (va_cwS 3 hts gX3_foresee_X3_isWithin rfl rfl rfl (by decide +kernel) ⟨Nat.le_of_ble_eq_true rfl, Nat.le_of_ble_eq_true rfl⟩) (by simp only [List.append_assoc, List.append_nil, List.nil_append]) hK hN hP hD hS hA rfl hl.1 rfl (Nat.le_of_ble_eq_true rfl) dX3_foresee_23 ⟨Nat.le_of_ble_eq_true rfl, Nat.le_of_ble_eq_true rfl⟩ (fun H locs hP hD hS => ?_)
    have hP : va_P (dC, dI) vwCl (oW k b t M ++ kW cI k M ++ bW k B ++ sW cI b S ++ sW cI t T) H := by simpa only [List.append_assoc, List.append_nil, List.nil_append] using hP
    have hD : va_D A (oW k b t M ++ kW cI k M ++ bW k B ++ sW cI b S ++ sW cI t T) := by simpa only [List.append_assoc, List.append_nil, List.nil_append] using hD
    refine lv_if_ne (tgt := 39) hx hb dX3_foresee_26 (by decide) (fun c_2 => ?_) (fun c_2 => ?_)
    · refine lv_aload_n hx hb dX3_foresee_39 rfl (lv_at hl 0 rfl) ?_
      refine va_get (D := (dC, dI)) (ci := 3) (v := .ref (b 0)) (C := RX3) (T := TX3) (N := 6) hx hb hts hinX3 hown hK hP 0 rfl rfl 1 (by decide) hf21 (fun _ h9 => h9) rfl dX3_foresee_40 ?_
      refine va_get (D := (dC, dI)) (ci := 2) (v := .int (S 0 2)) (C := RX2) (T := TX2) (N := 18) hx hb hts hinX2 hown hK hP 6 rfl rfl 2 (by decide) hf151 (fun _ h9 => h9) rfl dX3_foresee_43 ?_
      refine lv_iload_n hx hb dX3_foresee_46 rfl (lv_at hl 1 rfl) ?_
      refine lv_iadd hx hb dX3_foresee_47 ?_
      refine lv_sipush (v := 2000) hx hb dX3_foresee_48 (by decide) ?_
      refine lv_icmp_le (tgt := 64) hx hb dX3_foresee_51 (by decide) (fun c_3 => ?_) (fun c_3 => ?_)
      · refine lv_aload_n hx hb dX3_foresee_64 rfl (lv_at hl 0 rfl) ?_
        refine va_get (D := (dC, dI)) (ci := 3) (v := .ref (t 0)) (C := RX3) (T := TX3) (N := 6) hx hb hts hinX3 hown hK hP 0 rfl rfl 2 (by decide) hf25 (fun _ h9 => h9) rfl dX3_foresee_65 ?_
        refine lv_aload_n hx hb dX3_foresee_68 rfl (lv_at hl 0 rfl) ?_
        refine va_get (D := (dC, dI)) (ci := 3) (v := .ref (b 0)) (C := RX3) (T := TX3) (N := 6) hx hb hts hinX3 hown hK hP 0 rfl rfl 1 (by decide) hf21 (fun _ h9 => h9) rfl dX3_foresee_69 ?_
        have hP : va_P (dC, dI) vwCl (oW k b t M ++ kW cI k M ++ bW k B ++ sW cI t T ++ sW cI b S) _ := hP.sub (ws' := oW k b t M ++ kW cI k M ++ bW k B ++ sW cI t T ++ sW cI b S) [0, 1, 2, 3, 4, 5, 20, 21, 22, 23, 24, 25, 26, 27, 28, 29, 30, 31, 32, 33, 6, 7, 8, 9, 10, 11, 12, 13, 14, 15, 16, 17, 18, 19] rfl
        have hD : va_D A (oW k b t M ++ kW cI k M ++ bW k B ++ sW cI t T ++ sW cI b S) := hD.sub (ws' := oW k b t M ++ kW cI k M ++ bW k B ++ sW cI t T ++ sW cI b S) [0, 1, 2, 3, 4, 5, 20, 21, 22, 23, 24, 25, 26, 27, 28, 29, 30, 31, 32, 33, 6, 7, 8, 9, 10, 11, 12, 13, 14, 15, 16, 17, 18, 19] (by decide +kernel) rfl
        obtain ⟨S4, eS4⟩ : ∃ z : sS, z = S := ⟨_, rfl⟩
        refine zV_V (pre := (oW k b t M ++ kW cI k M ++ bW k B)) (wc := sW cI t T ++ sW cI b S) (post := ([] : va_W)) (w1 := sW cI t S4 ++ sW cI b S) ⟨hx, hb, hml, hown, hts⟩ (by rw [eS4]; exact c_X2_copyFrom l dC dI cI t b S T) (cwV 1 hts gX3_foresee_X2_copyFrom rfl rfl rfl (by decide +kernel) ⟨Nat.le_of_ble_eq_true rfl, Nat.le_of_ble_eq_true rfl⟩) (by simp only [List.append_assoc, List.append_nil, List.nil_append]) hK hN (ci := 2) (q0 := 0) rfl rfl rfl hP hD hS hA rfl hl.1 rfl (Nat.le_of_ble_eq_true rfl) dX3_foresee_72 ⟨Nat.le_of_ble_eq_true rfl, Nat.le_of_ble_eq_true rfl⟩ (fun H locs hP hD hS => ?_)
        have hP : va_P (dC, dI) vwCl (oW k b t M ++ kW cI k M ++ bW k B ++ sW cI t S4 ++ sW cI b S) H := by simpa only [List.append_assoc, List.append_nil, List.nil_append] using hP
        have hD : va_D A (oW k b t M ++ kW cI k M ++ bW k B ++ sW cI t S4 ++ sW cI b S) := by simpa only [List.append_assoc, List.append_nil, List.nil_append] using hD
        have hGS4 : geo h w S4 := by rw [eS4]; exact hG0
        refine lv_aload_n hx hb dX3_foresee_75 rfl (lv_at hl 0 rfl) ?_
        refine va_get (D := (dC, dI)) (ci := 3) (v := .ref (t 0)) (C := RX3) (T := TX3) (N := 6) hx hb hts hinX3 hown hK hP 0 rfl rfl 2 (by decide) hf25 (fun _ h9 => h9) rfl dX3_foresee_76 ?_
        refine lv_iload_n hx hb dX3_foresee_79 rfl (lv_at hl 1 rfl) ?_
        refine lv_aload_n hx hb dX3_foresee_80 rfl (lv_at hl 0 rfl) ?_
        refine va_get (D := (dC, dI)) (ci := 3) (v := .ref (k 1)) (C := RX3) (T := TX3) (N := 6) hx hb hts hinX3 hown hK hP 0 rfl rfl 0 (by decide) hf10 (fun _ h9 => h9) rfl dX3_foresee_81 ?_
        have hP : va_P (dC, dI) vwCl (oW k b t M ++ bW k B ++ sW cI b S ++ sW cI t S4 ++ kW cI k M) _ := hP.sub (ws' := oW k b t M ++ bW k B ++ sW cI b S ++ sW cI t S4 ++ kW cI k M) [0, 5, 20, 21, 22, 23, 24, 25, 26, 27, 28, 29, 30, 31, 32, 33, 6, 7, 8, 9, 10, 11, 12, 13, 14, 15, 16, 17, 18, 19, 1, 2, 3, 4] rfl
        have hD : va_D A (oW k b t M ++ bW k B ++ sW cI b S ++ sW cI t S4 ++ kW cI k M) := hD.sub (ws' := oW k b t M ++ bW k B ++ sW cI b S ++ sW cI t S4 ++ kW cI k M) [0, 5, 20, 21, 22, 23, 24, 25, 26, 27, 28, 29, 30, 31, 32, 33, 6, 7, 8, 9, 10, 11, 12, 13, 14, 15, 16, 17, 18, 19, 1, 2, 3, 4] (by decide +kernel) rfl
        obtain ⟨S5, eS5⟩ : ∃ z : sS, z = sl_days h w M S4 i.toNatClampNeg := ⟨_, rfl⟩
        refine zV_V (pre := (oW k b t M ++ bW k B ++ sW cI b S)) (wc := sW cI t S4 ++ kW cI k M) (post := ([] : va_W)) (w1 := sW cI t S5 ++ kW cI k M) ⟨hx, hb, hml, hown, hts⟩ (by rw [eS5]; exact c_X2_letDaysGoByX l dC dI cI t k h w d i S4 M hGS4 (by rw [eS4]; exact hd) (isw_n c_1 (by decide)).1 (by have h9 : (i.toNatClampNeg : Int) ≤ 20 := (isw_n c_1 (by decide)).2.1; omega)) (cwV 2 hts gX3_foresee_X2_letDaysGoBy rfl rfl rfl (by decide +kernel) ⟨Nat.le_of_ble_eq_true rfl, Nat.le_of_ble_eq_true rfl⟩) (by simp only [List.append_assoc, List.append_nil, List.nil_append]) hK hN (ci := 2) (q0 := 0) rfl rfl rfl hP hD hS hA rfl hl.1 rfl (Nat.le_of_ble_eq_true rfl) dX3_foresee_84 ⟨Nat.le_of_ble_eq_true rfl, Nat.le_of_ble_eq_true rfl⟩ (fun H locs hP hD hS => ?_)
        have hP : va_P (dC, dI) vwCl (oW k b t M ++ bW k B ++ sW cI b S ++ sW cI t S5 ++ kW cI k M) H := by simpa only [List.append_assoc, List.append_nil, List.nil_append] using hP
        have hD : va_D A (oW k b t M ++ bW k B ++ sW cI b S ++ sW cI t S5 ++ kW cI k M) := by simpa only [List.append_assoc, List.append_nil, List.nil_append] using hD
        have hGS5 : geo h w S5 := by rw [eS5]; exact geo_days hGS4 M _
        refine lv_aload_n hx hb dX3_foresee_87 rfl (lv_at hl 0 rfl) ?_
        refine lv_iload_n hx hb dX3_foresee_88 rfl (lv_at hl 2 rfl) ?_
        have hP : va_P (dC, dI) vwCl (oW k b t M ++ kW cI k M ++ bW k B ++ sW cI b S ++ sW cI t S5) _ := hP.sub (ws' := oW k b t M ++ kW cI k M ++ bW k B ++ sW cI b S ++ sW cI t S5) [0, 30, 31, 32, 33, 1, 2, 3, 4, 5, 6, 7, 8, 9, 10, 11, 12, 13, 14, 15, 16, 17, 18, 19, 20, 21, 22, 23, 24, 25, 26, 27, 28, 29] rfl
        have hD : va_D A (oW k b t M ++ kW cI k M ++ bW k B ++ sW cI b S ++ sW cI t S5) := hD.sub (ws' := oW k b t M ++ kW cI k M ++ bW k B ++ sW cI b S ++ sW cI t S5) [0, 30, 31, 32, 33, 1, 2, 3, 4, 5, 6, 7, 8, 9, 10, 11, 12, 13, 14, 15, 16, 17, 18, 19, 20, 21, 22, 23, 24, 25, 26, 27, 28, 29] (by decide +kernel) rfl
        refine zI_V (pre := ([] : va_W)) (wc := oW k b t M ++ kW cI k M ++ bW k B ++ sW cI b S ++ sW cI t S5) (post := ([] : va_W)) (w1 := oW k b t M ++ kW cI k M ++ bW k B ++ sW cI b S ++ sW cI t S5) ⟨hx, hb, hml, hown, hts⟩ (c_X3_foreseenNumber l dC dI cI k b t h w M B S S5 x hG0 hGS5) (cwV 1 hts gX3_foresee_X3_foreseenNumber rfl rfl rfl (by decide +kernel) ⟨Nat.le_of_ble_eq_true rfl, Nat.le_of_ble_eq_true rfl⟩) (by simp only [List.append_assoc, List.append_nil, List.nil_append]) hK hN (ci := 3) (q0 := 0) rfl rfl rfl hP hD hS hA rfl hl.1 rfl (Nat.le_of_ble_eq_true rfl) dX3_foresee_89 ⟨Nat.le_of_ble_eq_true rfl, Nat.le_of_ble_eq_true rfl⟩ (fun H locs hP hD hS => ?_)
        have hP : va_P (dC, dI) vwCl (oW k b t M ++ kW cI k M ++ bW k B ++ sW cI b S ++ sW cI t S5) H := by simpa only [List.append_assoc, List.append_nil, List.nil_append] using hP
        have hD : va_D A (oW k b t M ++ kW cI k M ++ bW k B ++ sW cI b S ++ sW cI t S5) := by simpa only [List.append_assoc, List.append_nil, List.nil_append] using hD
        have hZ : S5 = pas_S h w M S i := (by (try rw [eS5]); (try rw [eS4]); first | done | rfl | (simp only [pas_S, if_neg c_1, if_neg c_2, if_pos c_3]; done) | (unfold pas_S; simp only [if_neg c_1, if_neg c_2, if_pos c_3]; done))
        rw [hZ] at hP hD
        exact zI_ret hx hb hr hlocks hP hD hS rfl (by (try rw [eS5]); (try rw [eS4]); first | done | rfl | (simp only [pas_S, if_neg c_1, if_neg c_2, if_pos c_3]; done)) dX3_foresee_92
      · have hT9 : for_T S i x = 3 := by simp only [for_T, if_neg c_1, if_neg c_2, if_neg c_3]
        exact absurd (hT.symm.trans hT9) (by decide)
    · have hT9 : for_T S i x = 2 := by simp only [for_T, if_neg c_1, if_pos c_2]
      exact absurd (hT.symm.trans hT9) (by decide)
  · have hT9 : for_T S i x = 1 := by simp only [for_T, if_pos c_1]
    exact absurd (hT.symm.trans hT9) (by decide)

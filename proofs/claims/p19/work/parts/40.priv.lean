set_option maxHeartbeats 4000000 in
set_option maxRecDepth 100000 in
theorem c_X3_countNumber (l : Launch) (dC : Nat → ClassId) (dI : Nat → Nat → Nat) (cI : ClassId) (k b t : Nat → Nat) (h w : Nat) (M B S T : sS) (x : Int32) (hG0 : geo h w S) : zI l yX3_countNumber wsX3_countNumber { frames := 3, cells := 0, slots := 0, locals := 63 } (dC, dI) cI [.ref (k 0), .int x] (oW k b t M ++ kW cI k M ++ bW k B ++ sW cI b S ++ sW cI t T) (oW k b t M ++ kW cI k M ++ bW k B ++ sW cI b S ++ sW cI t T) (x3_count h w M S x) := by
  refine zI_of (cc := cX3_countNumber) (maxL := 2) (ret := (some .int)) (by decide) rfl (Nat.le_of_ble_eq_true rfl) ?_
  intro p e s m below meth c A ls C0 hl
  obtain ⟨hx, hb, hr, hml, hown, hts, hlocks, hK, hN, hA, hP, hD, hS⟩ := C0
  have hown : s.vm.findClass RX3 = some m.cls := hown
  have hl : lv_has ls 2 [(0, .ref (k 0)), (1, .int x)] := hl
  have hf21 := hts (.fieldLink RX3 21 "PaddyTerraces" "slope" "LPaddyTerraces$Slope;") (by decide +kernel)
  have hf49 := hts (.fieldLink RX3 49 "PaddyTerraces" "reaped" "I") (by decide +kernel)
  have hf53 := hts (.fieldLink RX3 53 "PaddyTerraces" "moved" "I") (by decide +kernel)
  have hf151 := hts (.fieldLink RX3 151 "PaddyTerraces$Slope" "day" "I") (by decide +kernel)
  have hf203 := hts (.fieldLink RX3 203 "PaddyTerraces$Slope" "w" "I") (by decide +kernel)
  have hf206 := hts (.fieldLink RX3 206 "PaddyTerraces$Slope" "h" "I") (by decide +kernel)
  have hf209 := hts (.fieldLink RX3 209 "PaddyTerraces$Slope" "brook" "I") (by decide +kernel)
  have hf212 := hts (.fieldLink RX3 212 "PaddyTerraces$Slope" "died" "I") (by decide +kernel)
  have hinX2 : ∀ w ∈ wsX20, w ∈ wsX3_countNumber := by decide +kernel
  have hinX3 : ∀ w ∈ wsX30, w ∈ wsX3_countNumber := by decide +kernel
  have hS0 := hS
  have hN64 := geo_hw hG0
  obtain ⟨-, -, hh2, hh8, hw2, hw8⟩ := id hG0
  refine lv_iload_n hx hb dX3_countNumber_0 rfl (lv_at hl 1 rfl) ?_
  by_cases c_1 : x = 0
  · refine lv_tableIn (off := 47) (tgt := 48) hx hb dX3_countNumber_1 (by rw [c_1]; decide) (by rw [c_1]; decide) (by rw [c_1]; rfl) (by decide) ?_
    refine lv_aload_n hx hb dX3_countNumber_48 rfl (lv_at hl 0 rfl) ?_
    refine va_get (D := (dC, dI)) (ci := 3) (v := .ref (b 0)) (C := RX3) (T := TX3) (N := 6) hx hb hts hinX3 hown hK hP 0 rfl rfl 1 (by decide) hf21 (fun _ h9 => h9) rfl dX3_countNumber_49 ?_
    refine va_get (D := (dC, dI)) (ci := 2) (v := .int (S 0 0)) (C := RX2) (T := TX2) (N := 18) hx hb hts hinX2 hown hK hP 6 rfl rfl 0 (by decide) hf206 (fun _ h9 => h9) rfl dX3_countNumber_52 ?_
    exact zI_ret hx hb hr hlocks hP hD hS rfl (by first | done | rfl | (simp only [x3_count, if_pos c_1]; done)) dX3_countNumber_55
  by_cases c_2 : x = 1
  · refine lv_tableIn (off := 55) (tgt := 56) hx hb dX3_countNumber_1 (by rw [c_2]; decide) (by rw [c_2]; decide) (by rw [c_2]; rfl) (by decide) ?_
    refine lv_aload_n hx hb dX3_countNumber_56 rfl (lv_at hl 0 rfl) ?_
    refine va_get (D := (dC, dI)) (ci := 3) (v := .ref (b 0)) (C := RX3) (T := TX3) (N := 6) hx hb hts hinX3 hown hK hP 0 rfl rfl 1 (by decide) hf21 (fun _ h9 => h9) rfl dX3_countNumber_57 ?_
    refine va_get (D := (dC, dI)) (ci := 2) (v := .int (S 0 1)) (C := RX2) (T := TX2) (N := 18) hx hb hts hinX2 hown hK hP 6 rfl rfl 1 (by decide) hf203 (fun _ h9 => h9) rfl dX3_countNumber_60 ?_
    exact zI_ret hx hb hr hlocks hP hD hS rfl (by first | done | rfl | (simp only [x3_count, if_neg c_1, if_pos c_2]; done)) dX3_countNumber_63
  by_cases c_3 : x = 2
  · refine lv_tableIn (off := 63) (tgt := 64) hx hb dX3_countNumber_1 (by rw [c_3]; decide) (by rw [c_3]; decide) (by rw [c_3]; rfl) (by decide) ?_
    refine lv_aload_n hx hb dX3_countNumber_64 rfl (lv_at hl 0 rfl) ?_
    refine va_get (D := (dC, dI)) (ci := 3) (v := .ref (b 0)) (C := RX3) (T := TX3) (N := 6) hx hb hts hinX3 hown hK hP 0 rfl rfl 1 (by decide) hf21 (fun _ h9 => h9) rfl dX3_countNumber_65 ?_
    refine va_get (D := (dC, dI)) (ci := 2) (v := .int (S 0 2)) (C := RX2) (T := TX2) (N := 18) hx hb hts hinX2 hown hK hP 6 rfl rfl 2 (by decide) hf151 (fun _ h9 => h9) rfl dX3_countNumber_68 ?_
    exact zI_ret hx hb hr hlocks hP hD hS rfl (by first | done | rfl | (simp only [x3_count, if_neg c_1, if_neg c_2, if_pos c_3]; done)) dX3_countNumber_71
  by_cases c_4 : x = 3
  · refine lv_tableIn (off := 71) (tgt := 72) hx hb dX3_countNumber_1 (by rw [c_4]; decide) (by rw [c_4]; decide) (by rw [c_4]; rfl) (by decide) ?_
    refine lv_aload_n hx hb dX3_countNumber_72 rfl (lv_at hl 0 rfl) ?_
    refine va_get (D := (dC, dI)) (ci := 3) (v := .ref (b 0)) (C := RX3) (T := TX3) (N := 6) hx hb hts hinX3 hown hK hP 0 rfl rfl 1 (by decide) hf21 (fun _ h9 => h9) rfl dX3_countNumber_73 ?_
    refine zI_V (pre := (oW k b t M ++ kW cI k M ++ bW k B)) (wc := sW cI b S) (post := (sW cI t T)) (w1 := sW cI b S) ⟨hx, hb, hml, hown, hts⟩ (c_X2_crops l dC dI cI b h w S hG0) (cwV 0 hts gX3_countNumber_X2_crops rfl rfl rfl (by decide +kernel) ⟨Nat.le_of_ble_eq_true rfl, Nat.le_of_ble_eq_true rfl⟩) (by simp only [List.append_assoc, List.append_nil, List.nil_append]) hK hN (ci := 2) (q0 := 0) rfl rfl rfl hP hD hS hA rfl hl.1 rfl (Nat.le_of_ble_eq_true rfl) dX3_countNumber_76 ⟨Nat.le_of_ble_eq_true rfl, Nat.le_of_ble_eq_true rfl⟩ (fun H locs hP hD hS => ?_)
    have hP : va_P (dC, dI) vwCl (oW k b t M ++ kW cI k M ++ bW k B ++ sW cI b S ++ sW cI t T) H := by simpa only [List.append_assoc, List.append_nil, List.nil_append] using hP
    have hD : va_D A (oW k b t M ++ kW cI k M ++ bW k B ++ sW cI b S ++ sW cI t T) := by simpa only [List.append_assoc, List.append_nil, List.nil_append] using hD
    exact zI_ret hx hb hr hlocks hP hD hS rfl (by first | done | rfl | (simp only [x3_count, if_neg c_1, if_neg c_2, if_neg c_3, if_pos c_4]; done)) dX3_countNumber_79
  by_cases c_5 : x = 4
  · refine lv_tableIn (off := 79) (tgt := 80) hx hb dX3_countNumber_1 (by rw [c_5]; decide) (by rw [c_5]; decide) (by rw [c_5]; rfl) (by decide) ?_
    refine lv_aload_n hx hb dX3_countNumber_80 rfl (lv_at hl 0 rfl) ?_
    refine va_get (D := (dC, dI)) (ci := 3) (v := .ref (b 0)) (C := RX3) (T := TX3) (N := 6) hx hb hts hinX3 hown hK hP 0 rfl rfl 1 (by decide) hf21 (fun _ h9 => h9) rfl dX3_countNumber_81 ?_
    refine zI_V (pre := (oW k b t M ++ kW cI k M ++ bW k B)) (wc := sW cI b S) (post := (sW cI t T)) (w1 := sW cI b S) ⟨hx, hb, hml, hown, hts⟩ (c_X2_allDepths l dC dI cI b h w S hG0) (cwV 0 hts gX3_countNumber_X2_allDepths rfl rfl rfl (by decide +kernel) ⟨Nat.le_of_ble_eq_true rfl, Nat.le_of_ble_eq_true rfl⟩) (by simp only [List.append_assoc, List.append_nil, List.nil_append]) hK hN (ci := 2) (q0 := 0) rfl rfl rfl hP hD hS hA rfl hl.1 rfl (Nat.le_of_ble_eq_true rfl) dX3_countNumber_84 ⟨Nat.le_of_ble_eq_true rfl, Nat.le_of_ble_eq_true rfl⟩ (fun H locs hP hD hS => ?_)
    have hP : va_P (dC, dI) vwCl (oW k b t M ++ kW cI k M ++ bW k B ++ sW cI b S ++ sW cI t T) H := by simpa only [List.append_assoc, List.append_nil, List.nil_append] using hP
    have hD : va_D A (oW k b t M ++ kW cI k M ++ bW k B ++ sW cI b S ++ sW cI t T) := by simpa only [List.append_assoc, List.append_nil, List.nil_append] using hD
    exact zI_ret hx hb hr hlocks hP hD hS rfl (by first | done | rfl | (simp only [x3_count, if_neg c_1, if_neg c_2, if_neg c_3, if_neg c_4, if_pos c_5]; done)) dX3_countNumber_87
  by_cases c_6 : x = 5
  · refine lv_tableIn (off := 87) (tgt := 88) hx hb dX3_countNumber_1 (by rw [c_6]; decide) (by rw [c_6]; decide) (by rw [c_6]; rfl) (by decide) ?_
    refine lv_aload_n hx hb dX3_countNumber_88 rfl (lv_at hl 0 rfl) ?_
    refine va_get (D := (dC, dI)) (ci := 3) (v := .ref (b 0)) (C := RX3) (T := TX3) (N := 6) hx hb hts hinX3 hown hK hP 0 rfl rfl 1 (by decide) hf21 (fun _ h9 => h9) rfl dX3_countNumber_89 ?_
    refine va_get (D := (dC, dI)) (ci := 2) (v := .int (S 0 3)) (C := RX2) (T := TX2) (N := 18) hx hb hts hinX2 hown hK hP 6 rfl rfl 3 (by decide) hf209 (fun _ h9 => h9) rfl dX3_countNumber_92 ?_
    exact zI_ret hx hb hr hlocks hP hD hS rfl (by first | done | rfl | (simp only [x3_count, if_neg c_1, if_neg c_2, if_neg c_3, if_neg c_4, if_neg c_5, if_pos c_6]; done)) dX3_countNumber_95
  by_cases c_7 : x = 6
  · refine lv_tableIn (off := 95) (tgt := 96) hx hb dX3_countNumber_1 (by rw [c_7]; decide) (by rw [c_7]; decide) (by rw [c_7]; rfl) (by decide) ?_
    refine lv_aload_n hx hb dX3_countNumber_96 rfl (lv_at hl 0 rfl) ?_
    refine va_get (D := (dC, dI)) (ci := 3) (v := .int (M 0 0)) (C := RX3) (T := TX3) (N := 6) hx hb hts hinX3 hown hK hP 0 rfl rfl 4 (by decide) hf49 (fun _ h9 => h9) rfl dX3_countNumber_97 ?_
    exact zI_ret hx hb hr hlocks hP hD hS rfl (by first | done | rfl | (simp only [x3_count, if_neg c_1, if_neg c_2, if_neg c_3, if_neg c_4, if_neg c_5, if_neg c_6, if_pos c_7]; done)) dX3_countNumber_100
  by_cases c_8 : x = 7
  · refine lv_tableIn (off := 100) (tgt := 101) hx hb dX3_countNumber_1 (by rw [c_8]; decide) (by rw [c_8]; decide) (by rw [c_8]; rfl) (by decide) ?_
    refine lv_aload_n hx hb dX3_countNumber_101 rfl (lv_at hl 0 rfl) ?_
    refine va_get (D := (dC, dI)) (ci := 3) (v := .ref (b 0)) (C := RX3) (T := TX3) (N := 6) hx hb hts hinX3 hown hK hP 0 rfl rfl 1 (by decide) hf21 (fun _ h9 => h9) rfl dX3_countNumber_102 ?_
    refine va_get (D := (dC, dI)) (ci := 2) (v := .int (S 0 4)) (C := RX2) (T := TX2) (N := 18) hx hb hts hinX2 hown hK hP 6 rfl rfl 4 (by decide) hf212 (fun _ h9 => h9) rfl dX3_countNumber_105 ?_
    exact zI_ret hx hb hr hlocks hP hD hS rfl (by first | done | rfl | (simp only [x3_count, if_neg c_1, if_neg c_2, if_neg c_3, if_neg c_4, if_neg c_5, if_neg c_6, if_neg c_7, if_pos c_8]; done)) dX3_countNumber_108
  refine lv_tableOut (tgt := 109) hx hb dX3_countNumber_1 (by have h90 := lv_neT c_1 (a := 0) rfl; have h91 := lv_neT c_2 (a := 1) rfl; have h92 := lv_neT c_3 (a := 2) rfl; have h93 := lv_neT c_4 (a := 3) rfl; have h94 := lv_neT c_5 (a := 4) rfl; have h95 := lv_neT c_6 (a := 5) rfl; have h96 := lv_neT c_7 (a := 6) rfl; have h97 := lv_neT c_8 (a := 7) rfl; omega) (by decide) ?_
  refine lv_aload_n hx hb dX3_countNumber_109 rfl (lv_at hl 0 rfl) ?_
  refine va_get (D := (dC, dI)) (ci := 3) (v := .int (M 0 1)) (C := RX3) (T := TX3) (N := 6) hx hb hts hinX3 hown hK hP 0 rfl rfl 5 (by decide) hf53 (fun _ h9 => h9) rfl dX3_countNumber_110 ?_
  exact zI_ret hx hb hr hlocks hP hD hS rfl (by first | done | rfl | (simp only [x3_count, if_neg c_1, if_neg c_2, if_neg c_3, if_neg c_4, if_neg c_5, if_neg c_6, if_neg c_7, if_neg c_8]; done)) dX3_countNumber_113
set_option maxHeartbeats 4000000 in
set_option maxRecDepth 100000 in
theorem c_X3_foreseenNumber (l : Launch) (dC : Nat → ClassId) (dI : Nat → Nat → Nat) (cI : ClassId) (k b t : Nat → Nat) (h w : Nat) (M B S T : sS) (x : Int32) (hG0 : geo h w S) (hGT : geo h w T) : zI l yX3_foreseenNumber wsX3_foreseenNumber { frames := 3, cells := 0, slots := 0, locals := 63 } (dC, dI) cI [.ref (k 0), .int x] (oW k b t M ++ kW cI k M ++ bW k B ++ sW cI b S ++ sW cI t T) (oW k b t M ++ kW cI k M ++ bW k B ++ sW cI b S ++ sW cI t T) (x3_fore h w S T x) := by
  refine zI_of (cc := cX3_foreseenNumber) (maxL := 2) (ret := (some .int)) (by decide) rfl (Nat.le_of_ble_eq_true rfl) ?_
  intro p e s m below meth c A ls C0 hl
  obtain ⟨hx, hb, hr, hml, hown, hts, hlocks, hK, hN, hA, hP, hD, hS⟩ := C0
  have hown : s.vm.findClass RX3 = some m.cls := hown
  have hl : lv_has ls 2 [(0, .ref (k 0)), (1, .int x)] := hl
  have hf21 := hts (.fieldLink RX3 21 "PaddyTerraces" "slope" "LPaddyTerraces$Slope;") (by decide +kernel)
  have hf25 := hts (.fieldLink RX3 25 "PaddyTerraces" "trial" "LPaddyTerraces$Slope;") (by decide +kernel)
  have hf209 := hts (.fieldLink RX3 209 "PaddyTerraces$Slope" "brook" "I") (by decide +kernel)
  have hinX2 : ∀ w ∈ wsX20, w ∈ wsX3_foreseenNumber := by decide +kernel
  have hinX3 : ∀ w ∈ wsX30, w ∈ wsX3_foreseenNumber := by decide +kernel
  have hS0 := hS
  have hN64 := geo_hw hG0
  obtain ⟨-, -, hh2, hh8, hw2, hw8⟩ := id hG0
  refine lv_iload_n hx hb dX3_foreseenNumber_0 rfl (lv_at hl 1 rfl) ?_
  by_cases c_1 : x = 0
  · refine lv_tableIn (off := 27) (tgt := 28) hx hb dX3_foreseenNumber_1 (by rw [c_1]; decide) (by rw [c_1]; decide) (by rw [c_1]; rfl) (by decide) ?_
    refine lv_aload_n hx hb dX3_foreseenNumber_28 rfl (lv_at hl 0 rfl) ?_
    refine va_get (D := (dC, dI)) (ci := 3) (v := .ref (t 0)) (C := RX3) (T := TX3) (N := 6) hx hb hts hinX3 hown hK hP 0 rfl rfl 2 (by decide) hf25 (fun _ h9 => h9) rfl dX3_foreseenNumber_29 ?_
    refine zI_V (pre := (oW k b t M ++ kW cI k M ++ bW k B ++ sW cI b S)) (wc := sW cI t T) (post := ([] : va_W)) (w1 := sW cI t T) ⟨hx, hb, hml, hown, hts⟩ (c_X2_crops l dC dI cI t h w T hGT) (cwV 0 hts gX3_foreseenNumber_X2_crops rfl rfl rfl (by decide +kernel) ⟨Nat.le_of_ble_eq_true rfl, Nat.le_of_ble_eq_true rfl⟩) (by simp only [List.append_assoc, List.append_nil, List.nil_append]) hK hN (ci := 2) (q0 := 0) rfl rfl rfl hP hD hS hA rfl hl.1 rfl (Nat.le_of_ble_eq_true rfl) dX3_foreseenNumber_32 ⟨Nat.le_of_ble_eq_true rfl, Nat.le_of_ble_eq_true rfl⟩ (fun H locs hP hD hS => ?_)
    have hP : va_P (dC, dI) vwCl (oW k b t M ++ kW cI k M ++ bW k B ++ sW cI b S ++ sW cI t T) H := by simpa only [List.append_assoc, List.append_nil, List.nil_append] using hP
    have hD : va_D A (oW k b t M ++ kW cI k M ++ bW k B ++ sW cI b S ++ sW cI t T) := by simpa only [List.append_assoc, List.append_nil, List.nil_append] using hD
    exact zI_ret hx hb hr hlocks hP hD hS rfl (by first | done | rfl | (simp only [x3_fore, if_pos c_1]; done)) dX3_foreseenNumber_35
  by_cases c_2 : x = 1
  · refine lv_tableIn (off := 35) (tgt := 36) hx hb dX3_foreseenNumber_1 (by rw [c_2]; decide) (by rw [c_2]; decide) (by rw [c_2]; rfl) (by decide) ?_
    refine lv_aload_n hx hb dX3_foreseenNumber_36 rfl (lv_at hl 0 rfl) ?_
    refine va_get (D := (dC, dI)) (ci := 3) (v := .ref (t 0)) (C := RX3) (T := TX3) (N := 6) hx hb hts hinX3 hown hK hP 0 rfl rfl 2 (by decide) hf25 (fun _ h9 => h9) rfl dX3_foreseenNumber_37 ?_
    refine zI_V (pre := (oW k b t M ++ kW cI k M ++ bW k B ++ sW cI b S)) (wc := sW cI t T) (post := ([] : va_W)) (w1 := sW cI t T) ⟨hx, hb, hml, hown, hts⟩ (c_X2_allHardness l dC dI cI t h w T hGT) (cwV 0 hts gX3_foreseenNumber_X2_allHardness rfl rfl rfl (by decide +kernel) ⟨Nat.le_of_ble_eq_true rfl, Nat.le_of_ble_eq_true rfl⟩) (by simp only [List.append_assoc, List.append_nil, List.nil_append]) hK hN (ci := 2) (q0 := 0) rfl rfl rfl hP hD hS hA rfl hl.1 rfl (Nat.le_of_ble_eq_true rfl) dX3_foreseenNumber_40 ⟨Nat.le_of_ble_eq_true rfl, Nat.le_of_ble_eq_true rfl⟩ (fun H locs hP hD hS => ?_)
    have hP : va_P (dC, dI) vwCl (oW k b t M ++ kW cI k M ++ bW k B ++ sW cI b S ++ sW cI t T) H := by simpa only [List.append_assoc, List.append_nil, List.nil_append] using hP
    have hD : va_D A (oW k b t M ++ kW cI k M ++ bW k B ++ sW cI b S ++ sW cI t T) := by simpa only [List.append_assoc, List.append_nil, List.nil_append] using hD
    exact zI_ret hx hb hr hlocks hP hD hS rfl (by first | done | rfl | (simp only [x3_fore, if_neg c_1, if_pos c_2]; done)) dX3_foreseenNumber_43
  by_cases c_3 : x = 2
  · refine lv_tableIn (off := 43) (tgt := 44) hx hb dX3_foreseenNumber_1 (by rw [c_3]; decide) (by rw [c_3]; decide) (by rw [c_3]; rfl) (by decide) ?_
    refine lv_aload_n hx hb dX3_foreseenNumber_44 rfl (lv_at hl 0 rfl) ?_
    refine va_get (D := (dC, dI)) (ci := 3) (v := .ref (t 0)) (C := RX3) (T := TX3) (N := 6) hx hb hts hinX3 hown hK hP 0 rfl rfl 2 (by decide) hf25 (fun _ h9 => h9) rfl dX3_foreseenNumber_45 ?_
    refine va_get (D := (dC, dI)) (ci := 2) (v := .int (T 0 3)) (C := RX2) (T := TX2) (N := 18) hx hb hts hinX2 hown hK hP 20 rfl rfl 3 (by decide) hf209 (fun _ h9 => h9) rfl dX3_foreseenNumber_48 ?_
    refine lv_aload_n hx hb dX3_foreseenNumber_51 rfl (lv_at hl 0 rfl) ?_
    refine va_get (D := (dC, dI)) (ci := 3) (v := .ref (b 0)) (C := RX3) (T := TX3) (N := 6) hx hb hts hinX3 hown hK hP 0 rfl rfl 1 (by decide) hf21 (fun _ h9 => h9) rfl dX3_foreseenNumber_52 ?_
    refine va_get (D := (dC, dI)) (ci := 2) (v := .int (S 0 3)) (C := RX2) (T := TX2) (N := 18) hx hb hts hinX2 hown hK hP 6 rfl rfl 3 (by decide) hf209 (fun _ h9 => h9) rfl dX3_foreseenNumber_55 ?_
    refine lv_isub hx hb dX3_foreseenNumber_58 ?_
    exact zI_ret hx hb hr hlocks hP hD hS rfl (by first | done | rfl | (simp only [x3_fore, if_neg c_1, if_neg c_2, if_pos c_3]; done)) dX3_foreseenNumber_59
  refine lv_tableOut (tgt := 60) hx hb dX3_foreseenNumber_1 (by have h90 := lv_neT c_1 (a := 0) rfl; have h91 := lv_neT c_2 (a := 1) rfl; have h92 := lv_neT c_3 (a := 2) rfl; omega) (by decide) ?_
  refine lv_aload_n hx hb dX3_foreseenNumber_60 rfl (lv_at hl 0 rfl) ?_
  refine va_get (D := (dC, dI)) (ci := 3) (v := .ref (t 0)) (C := RX3) (T := TX3) (N := 6) hx hb hts hinX3 hown hK hP 0 rfl rfl 2 (by decide) hf25 (fun _ h9 => h9) rfl dX3_foreseenNumber_61 ?_
  refine zI_V (pre := (oW k b t M ++ kW cI k M ++ bW k B ++ sW cI b S)) (wc := sW cI t T) (post := ([] : va_W)) (w1 := sW cI t T) ⟨hx, hb, hml, hown, hts⟩ (c_X2_allDepths l dC dI cI t h w T hGT) (cwV 0 hts gX3_foreseenNumber_X2_allDepths rfl rfl rfl (by decide +kernel) ⟨Nat.le_of_ble_eq_true rfl, Nat.le_of_ble_eq_true rfl⟩) (by simp only [List.append_assoc, List.append_nil, List.nil_append]) hK hN (ci := 2) (q0 := 0) rfl rfl rfl hP hD hS hA rfl hl.1 rfl (Nat.le_of_ble_eq_true rfl) dX3_foreseenNumber_64 ⟨Nat.le_of_ble_eq_true rfl, Nat.le_of_ble_eq_true rfl⟩ (fun H locs hP hD hS => ?_)
  have hP : va_P (dC, dI) vwCl (oW k b t M ++ kW cI k M ++ bW k B ++ sW cI b S ++ sW cI t T) H := by simpa only [List.append_assoc, List.append_nil, List.nil_append] using hP
  have hD : va_D A (oW k b t M ++ kW cI k M ++ bW k B ++ sW cI b S ++ sW cI t T) := by simpa only [List.append_assoc, List.append_nil, List.nil_append] using hD
  exact zI_ret hx hb hr hlocks hP hD hS rfl (by first | done | rfl | (simp only [x3_fore, if_neg c_1, if_neg c_2, if_neg c_3]; done)) dX3_foreseenNumber_67

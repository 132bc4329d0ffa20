set_option maxHeartbeats 4000000 in
set_option maxRecDepth 100000 in
theorem c_X3_depth (l : Launch) (dC : Nat → ClassId) (dI : Nat → Nat → Nat) (cI : ClassId) (k b t : Nat → Nat) (h w : Nat) (M B S T : sS) (hG0 : geo h w S) : zD l yX3_depth wsX3_depth { frames := 3, cells := 0, slots := 0, locals := 63 } (dC, dI) cI [.ref (k 0)] (oW k b t M ++ kW cI k M ++ bW k B ++ sW cI b S ++ sW cI t T) (oW k b t M ++ kW cI k M ++ bW k B ++ sW cI b S ++ sW cI t T) (FP.ddiv (FP.i2d (sl_sum h w S 2)) (FP.i2d (sl_cells S))) := by
  refine zD_of (cc := cX3_depth) (maxL := 2) (ret := (some .double)) (by decide) rfl (Nat.le_of_ble_eq_true rfl) ?_
  intro p e s m below meth c A ls C0 hd0 hl
  obtain ⟨hx, hb, hr, hml, hown, hts, hlocks, hK, hN, hA, hP, hD, hS⟩ := C0
  have hown : s.vm.findClass RX3 = some m.cls := hown
  have hl : lv_has ls 2 [(0, .ref (k 0))] := hl
  have hf21 := hts (.fieldLink RX3 21 "PaddyTerraces" "slope" "LPaddyTerraces$Slope;") (by decide +kernel)
  have hinX3 : ∀ w ∈ wsX30, w ∈ wsX3_depth := by decide +kernel
  have hS0 := hS
  have hN64 := geo_hw hG0
  obtain ⟨-, -, hh2, hh8, hw2, hw8⟩ := id hG0
  refine lv_aload_n hx hb dX3_depth_0 rfl (lv_at hl 0 rfl) ?_
  refine va_get (D := (dC, dI)) (ci := 3) (v := .ref (b 0)) (C := RX3) (T := TX3) (N := 6) hx hb hts hinX3 hown hK hP 0 rfl rfl 1 (by decide) hf21 (fun _ h9 => h9) rfl dX3_depth_1 ?_
  refine zI_V (pre := (oW k b t M ++ kW cI k M ++ bW k B)) (wc := sW cI b S) (post := (sW cI t T)) (w1 := sW cI b S) ⟨hx, hb, hml, hown, hts⟩ (c_X2_cells l dC dI cI b S) (cwV 0 hts gX3_depth_X2_cells rfl rfl rfl (by decide +kernel) ⟨Nat.le_of_ble_eq_true rfl, Nat.le_of_ble_eq_true rfl⟩) (by simp only [List.append_assoc, List.append_nil, List.nil_append]) hK hN (ci := 2) (q0 := 0) rfl rfl rfl hP hD hS hA rfl hl.1 rfl (Nat.le_of_ble_eq_true rfl) dX3_depth_4 ⟨Nat.le_of_ble_eq_true rfl, Nat.le_of_ble_eq_true rfl⟩ (fun H locs hP hD hS => ?_)
  have hP : va_P (dC, dI) vwCl (oW k b t M ++ kW cI k M ++ bW k B ++ sW cI b S ++ sW cI t T) H := by simpa only [List.append_assoc, List.append_nil, List.nil_append] using hP
  have hD : va_D A (oW k b t M ++ kW cI k M ++ bW k B ++ sW cI b S ++ sW cI t T) := by simpa only [List.append_assoc, List.append_nil, List.nil_append] using hD
  refine lv_istore_n (lv' := [(1, .int (sl_cells S)), (0, .ref (k 0))]) hx hb dX3_depth_7 rfl hl (by decide) rfl (fun ls hl => ?_)
  refine lv_iload_n hx hb dX3_depth_8 rfl (lv_at hl 0 rfl) ?_
  refine lv_iconst (v := 1) hx hb dX3_depth_9 (by decide) ?_
  refine lv_icmp_ge (tgt := 17) hx hb dX3_depth_10 (by decide) (fun c_1 => ?_) (fun c_1 => ?_)
  · refine lv_aload_n hx hb dX3_depth_17 rfl (lv_at hl 1 rfl) ?_
    refine va_get (D := (dC, dI)) (ci := 3) (v := .ref (b 0)) (C := RX3) (T := TX3) (N := 6) hx hb hts hinX3 hown hK hP 0 rfl rfl 1 (by decide) hf21 (fun _ h9 => h9) rfl dX3_depth_18 ?_
    refine zI_V (pre := (oW k b t M ++ kW cI k M ++ bW k B)) (wc := sW cI b S) (post := (sW cI t T)) (w1 := sW cI b S) ⟨hx, hb, hml, hown, hts⟩ (c_X2_allDepths l dC dI cI b h w S hG0) (cwV 0 hts gX3_depth_X2_allDepths rfl rfl rfl (by decide +kernel) ⟨Nat.le_of_ble_eq_true rfl, Nat.le_of_ble_eq_true rfl⟩) (by simp only [List.append_assoc, List.append_nil, List.nil_append]) hK hN (ci := 2) (q0 := 0) rfl rfl rfl hP hD hS hA rfl hl.1 rfl (Nat.le_of_ble_eq_true rfl) dX3_depth_21 ⟨Nat.le_of_ble_eq_true rfl, Nat.le_of_ble_eq_true rfl⟩ (fun H locs hP hD hS => ?_)
    have hP : va_P (dC, dI) vwCl (oW k b t M ++ kW cI k M ++ bW k B ++ sW cI b S ++ sW cI t T) H := by simpa only [List.append_assoc, List.append_nil, List.nil_append] using hP
    have hD : va_D A (oW k b t M ++ kW cI k M ++ bW k B ++ sW cI b S ++ sW cI t T) := by simpa only [List.append_assoc, List.append_nil, List.nil_append] using hD
    refine lv_i2d hx hb dX3_depth_24 ?_
    refine lv_iload_n hx hb dX3_depth_25 rfl (lv_at hl 0 rfl) ?_
    refine lv_i2d hx hb dX3_depth_26 ?_
    refine lv_ddiv_any (s := s) hd0 lw_bits hx hb dX3_depth_27 (fun r d1 hal hd1 => ?_)
    exact zD_ret hd1 hx hb hr hlocks hP hD hS hal dX3_depth_28
  · exact absurd (by rw [show sl_cells S = nI (h * w) from geo_cells hG0]; exact (show nI 1 ≤ nI (h * w) from nI_le (by have := geo_w hG0; omega) (by omega))) c_1

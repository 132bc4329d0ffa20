set_option maxHeartbeats 4000000 in
set_option maxRecDepth 100000 in
theorem c_X3_init (l : Launch) (dC : Nat → ClassId) (dI : Nat → Nat → Nat) (cI : ClassId) (q : Nat) : zM l yX3_init wsX3_init { frames := 3, cells := 33, slots := 1686, locals := 68 } (dC, dI) cI [.ref q] (([(q, .inr (3, [.null, .null, .null, .null, .int 0, .int 0]))] : va_W)) (fun u : (Nat → Nat) × (Nat → Nat) × (Nat → Nat) => oW u.1 u.2.1 u.2.2 cal0 ++ kW cI u.1 cal0 ++ bW u.1 bst0 ++ sW cI u.2.1 (sl_new 4 4) ++ sW cI u.2.2 (sl_new 4 4)) (fun u => u.1 0 = q) 33 1686 := by
  refine zM_of (cc := cX3_init) (maxL := 1) (ret := none) (by decide) rfl (Nat.le_of_ble_eq_true rfl) rfl ?_
  intro p e s m below meth c A ls C0 hinit hl
  obtain ⟨hx, hb, hr, hml, hown, hts, hlocks, hK, hN, hA, hP, hD, hS⟩ := C0
  have hown : s.vm.findClass RX3 = some m.cls := hown
  have hl : lv_has ls 1 [(0, .ref q)] := hl
  have hf10 := hts (.fieldLink RX3 10 "PaddyTerraces" "calendar" "LPaddyTerraces$Calendar;") (by decide +kernel)
  have hf21 := hts (.fieldLink RX3 21 "PaddyTerraces" "slope" "LPaddyTerraces$Slope;") (by decide +kernel)
  have hf25 := hts (.fieldLink RX3 25 "PaddyTerraces" "trial" "LPaddyTerraces$Slope;") (by decide +kernel)
  have hf31 := hts (.fieldLink RX3 31 "PaddyTerraces" "best" "LPaddyTerraces$Move;") (by decide +kernel)
  have hc_oi := hts (.code objectInit ⟨#[0xb1]⟩ 1 none) (by decide +kernel)
  have hi16 := hts (.initialized RX2) (by decide +kernel)
  have hi28 := hts (.initialized RX1) (by decide +kernel)
  have hi7 := hts (.initialized RX0) (by decide +kernel)
  have hi_X0 := hts (.initialized RX0) (by decide +kernel)
  have hi_X1 := hts (.initialized RX1) (by decide +kernel)
  have hi_X2 := hts (.initialized RX2) (by decide +kernel)
  have him_X0 := hts (.instanceMethod yX0_init) (by decide +kernel)
  have him_X1 := hts (.instanceMethod yX1_init) (by decide +kernel)
  have him_X2 := hts (.instanceMethod yX2_init) (by decide +kernel)
  have hk16 := hts (.classLink RX3 16 RX2) (by decide +kernel)
  have hk28 := hts (.classLink RX3 28 RX1) (by decide +kernel)
  have hk7 := hts (.classLink RX3 7 RX0) (by decide +kernel)
  have hm_oi := hts (.methodLink RX3 1 objectInit) (by decide +kernel)
  have hml18 := hts (.methodLink RX3 18 yX2_init) (by decide +kernel)
  have hml9 := hts (.methodLink RX3 9 yX0_init) (by decide +kernel)
  have hn16 := hts (.instantiable RX2 18) (by decide +kernel)
  have hn28 := hts (.instantiable RX1 5) (by decide +kernel)
  have hn7 := hts (.instantiable RX0 3) (by decide +kernel)
  have hs_oi := hts (.instanceMethod objectInit) (by decide +kernel)
  have hinX0 : ∀ w ∈ wsX00, w ∈ wsX3_init := by decide +kernel
  have hinX1 : ∀ w ∈ wsX10, w ∈ wsX3_init := by decide +kernel
  have hinX2 : ∀ w ∈ wsX20, w ∈ wsX3_init := by decide +kernel
  have hinX3 : ∀ w ∈ wsX30, w ∈ wsX3_init := by decide +kernel
  have hS0 := hS
  refine lv_aload_n hx hb dX3_init_0 rfl (lv_at hl 0 rfl) ?_
  refine W.objInit hx hb hown hm_oi hs_oi hc_oi rfl (by rw [hml]; exact hl.1) rfl dX3_init_1 (Nat.le_of_ble_eq_true rfl) (Nat.le_of_ble_eq_true rfl) ?_
  refine W.eq (g2 := F0 m 4 ls []) rfl ?_
  refine lv_aload_n hx hb dX3_init_4 rfl (lv_at hl 0 rfl) ?_
  refine va_new (ci := 0) (fs := [.null, .null, .null]) (C := RX0) (T := TX0) (N := 3) hx hb hts hinX0 tyX0 tyX0_ok hown hk7 hn7 hi7 hK hP hD hS hA rfl (fun j hj => by rcases (show j = 0 ∨ j = 1 ∨ j = 2 by omega) with rfl | rfl | rfl <;> rfl) (Nat.le_of_ble_eq_true rfl) (Nat.le_of_ble_eq_true rfl) dX3_init_5 (fun q1 H hP hD hS => ?_)
  have hP : va_P (dC, dI) vwCl (([(q, .inr (3, [.null, .null, .null, .null, .int 0, .int 0]))] : va_W) ++ ([(q1, .inr (0, [.null, .null, .null]))] : va_W)) H := hP
  have hD : va_D A (([(q, .inr (3, [.null, .null, .null, .null, .int 0, .int 0]))] : va_W) ++ ([(q1, .inr (0, [.null, .null, .null]))] : va_W)) := hD
  refine lv_dup hx hb dX3_init_8 rfl ?_
  refine zM_I (pre := ([(q, .inr (3, [.null, .null, .null, .null, .int 0, .int 0]))] : va_W)) (wc := ([(q1, .inr (0, [.null, .null, .null]))] : va_W)) (post := []) ⟨hx, hb, hml, hown, hts⟩ (c_X0_init l dC dI cI q1) (cwI 0 hts gX3_init_X0_init rfl rfl rfl hi_X0 hml9 him_X0 rfl (by decide +kernel) ⟨Nat.le_of_ble_eq_true rfl, Nat.le_of_ble_eq_true rfl⟩) (List.append_nil _ |>.symm) hK hN hP hD hS hA rfl hl.1 rfl (Nat.le_of_ble_eq_true rfl) dX3_init_9 ⟨Nat.le_of_ble_eq_true rfl, Nat.le_of_ble_eq_true rfl⟩ (fun u2 H locs hu hP hD hS => ?_)
  rw [List.append_nil] at hP hD
  have hP : va_P (dC, dI) vwCl (([(q, .inr (3, [.null, .null, .null, .null, .int 0, .int 0]))] : va_W) ++ kW cI (kad q1 u2) cal0) H := hP
  have hD : va_D A (([(q, .inr (3, [.null, .null, .null, .null, .int 0, .int 0]))] : va_W) ++ kW cI (kad q1 u2) cal0) := hD
  refine va_putF (D := (dC, dI)) (ci := 3) (v := .ref q1) (ty := (.object "PaddyTerraces$Calendar")) (C := RX3) (T := TX3) (N := 6) hx hb hts hinX3 tyX3 tyX3_ok nmX3 hown hK hP hD hS 0 rfl rfl 0 (by decide) hf10 (fun _ h9 => h9) rfl hinit rfl (by decide +kernel) rfl rfl (Nat.le_of_ble_eq_true rfl) dX3_init_12 (fun H locs hP hD hS => ?_)
  have hP : va_P (dC, dI) vwCl (([(q, .inr (3, [.ref q1, .null, .null, .null, .int 0, .int 0]))] : va_W) ++ kW cI (kad q1 u2) cal0) H := hP
  have hD : va_D A (([(q, .inr (3, [.ref q1, .null, .null, .null, .int 0, .int 0]))] : va_W) ++ kW cI (kad q1 u2) cal0) := hD
  refine lv_aload_n hx hb dX3_init_15 rfl (lv_at hl 0 rfl) ?_
  refine va_new (ci := 2) (fs := [.int 0, .int 0, .int 0, .int 0, .int 0, .null, .null, .null, .null, .null, .null, .null, .null, .null, .null, .null, .null, .null]) (C := RX2) (T := TX2) (N := 18) hx hb hts hinX2 tyX2 tyX2_ok hown hk16 hn16 hi16 hK hP hD hS hA rfl (fun j hj => by rcases (show j = 0 ∨ j = 1 ∨ j = 2 ∨ j = 3 ∨ j = 4 ∨ j = 5 ∨ j = 6 ∨ j = 7 ∨ j = 8 ∨ j = 9 ∨ j = 10 ∨ j = 11 ∨ j = 12 ∨ j = 13 ∨ j = 14 ∨ j = 15 ∨ j = 16 ∨ j = 17 by omega) with rfl | rfl | rfl | rfl | rfl | rfl | rfl | rfl | rfl | rfl | rfl | rfl | rfl | rfl | rfl | rfl | rfl | rfl <;> rfl) (Nat.le_of_ble_eq_true rfl) (Nat.le_of_ble_eq_true rfl) dX3_init_16 (fun q3 H hP hD hS => ?_)
  have hP : va_P (dC, dI) vwCl (([(q, .inr (3, [.ref q1, .null, .null, .null, .int 0, .int 0]))] : va_W) ++ kW cI (kad q1 u2) cal0 ++ ([(q3, .inr (2, [.int 0, .int 0, .int 0, .int 0, .int 0, .null, .null, .null, .null, .null, .null, .null, .null, .null, .null, .null, .null, .null]))] : va_W)) H := hP
  have hD : va_D A (([(q, .inr (3, [.ref q1, .null, .null, .null, .int 0, .int 0]))] : va_W) ++ kW cI (kad q1 u2) cal0 ++ ([(q3, .inr (2, [.int 0, .int 0, .int 0, .int 0, .int 0, .null, .null, .null, .null, .null, .null, .null, .null, .null, .null, .null, .null, .null]))] : va_W)) := hD
  refine lv_dup hx hb dX3_init_19 rfl ?_
  refine lv_iconst (v := 4) hx hb dX3_init_20 (by decide) ?_
  refine lv_iconst (v := 4) hx hb dX3_init_21 (by decide) ?_
  refine zM_I (pre := ([(q, .inr (3, [.ref q1, .null, .null, .null, .int 0, .int 0]))] : va_W) ++ kW cI (kad q1 u2) cal0) (wc := ([(q3, .inr (2, [.int 0, .int 0, .int 0, .int 0, .int 0, .null, .null, .null, .null, .null, .null, .null, .null, .null, .null, .null, .null, .null]))] : va_W)) (post := []) ⟨hx, hb, hml, hown, hts⟩ (c_X2_init l dC dI cI q3 4 4) (cwI 2 hts gX3_init_X2_init rfl rfl rfl hi_X2 hml18 him_X2 rfl (by decide +kernel) ⟨Nat.le_of_ble_eq_true rfl, Nat.le_of_ble_eq_true rfl⟩) (List.append_nil _ |>.symm) hK hN hP hD hS hA rfl hl.1 rfl (Nat.le_of_ble_eq_true rfl) dX3_init_22 ⟨Nat.le_of_ble_eq_true rfl, Nat.le_of_ble_eq_true rfl⟩ (fun u4 H locs hu hP hD hS => ?_)
  rw [List.append_nil] at hP hD
  have hP : va_P (dC, dI) vwCl (([(q, .inr (3, [.ref q1, .null, .null, .null, .int 0, .int 0]))] : va_W) ++ kW cI (kad q1 u2) cal0 ++ sW cI (zad q3 u4) (sl_new 4 4)) H := hP
  have hD : va_D A (([(q, .inr (3, [.ref q1, .null, .null, .null, .int 0, .int 0]))] : va_W) ++ kW cI (kad q1 u2) cal0 ++ sW cI (zad q3 u4) (sl_new 4 4)) := hD
  refine va_putF (D := (dC, dI)) (ci := 3) (v := .ref q3) (ty := (.object "PaddyTerraces$Slope")) (C := RX3) (T := TX3) (N := 6) hx hb hts hinX3 tyX3 tyX3_ok nmX3 hown hK hP hD hS 0 rfl rfl 1 (by decide) hf21 (fun _ h9 => h9) rfl hinit rfl (by decide +kernel) rfl rfl (Nat.le_of_ble_eq_true rfl) dX3_init_25 (fun H locs hP hD hS => ?_)
  have hP : va_P (dC, dI) vwCl (([(q, .inr (3, [.ref q1, .ref q3, .null, .null, .int 0, .int 0]))] : va_W) ++ kW cI (kad q1 u2) cal0 ++ sW cI (zad q3 u4) (sl_new 4 4)) H := hP
  have hD : va_D A (([(q, .inr (3, [.ref q1, .ref q3, .null, .null, .int 0, .int 0]))] : va_W) ++ kW cI (kad q1 u2) cal0 ++ sW cI (zad q3 u4) (sl_new 4 4)) := hD
  refine lv_aload_n hx hb dX3_init_28 rfl (lv_at hl 0 rfl) ?_
  refine va_new (ci := 2) (fs := [.int 0, .int 0, .int 0, .int 0, .int 0, .null, .null, .null, .null, .null, .null, .null, .null, .null, .null, .null, .null, .null]) (C := RX2) (T := TX2) (N := 18) hx hb hts hinX2 tyX2 tyX2_ok hown hk16 hn16 hi16 hK hP hD hS hA rfl (fun j hj => by rcases (show j = 0 ∨ j = 1 ∨ j = 2 ∨ j = 3 ∨ j = 4 ∨ j = 5 ∨ j = 6 ∨ j = 7 ∨ j = 8 ∨ j = 9 ∨ j = 10 ∨ j = 11 ∨ j = 12 ∨ j = 13 ∨ j = 14 ∨ j = 15 ∨ j = 16 ∨ j = 17 by omega) with rfl | rfl | rfl | rfl | rfl | rfl | rfl | rfl | rfl | rfl | rfl | rfl | rfl | rfl | rfl | rfl | rfl | rfl <;> rfl) (Nat.le_of_ble_eq_true rfl) (Nat.le_of_ble_eq_true rfl) dX3_init_29 (fun q5 H hP hD hS => ?_)
  have hP : va_P (dC, dI) vwCl (([(q, .inr (3, [.ref q1, .ref q3, .null, .null, .int 0, .int 0]))] : va_W) ++ kW cI (kad q1 u2) cal0 ++ sW cI (zad q3 u4) (sl_new 4 4) ++ ([(q5, .inr (2, [.int 0, .int 0, .int 0, .int 0, .int 0, .null, .null, .null, .null, .null, .null, .null, .null, .null, .null, .null, .null, .null]))] : va_W)) H := hP
  have hD : va_D A (([(q, .inr (3, [.ref q1, .ref q3, .null, .null, .int 0, .int 0]))] : va_W) ++ kW cI (kad q1 u2) cal0 ++ sW cI (zad q3 u4) (sl_new 4 4) ++ ([(q5, .inr (2, [.int 0, .int 0, .int 0, .int 0, .int 0, .null, .null, .null, .null, .null, .null, .null, .null, .null, .null, .null, .null, .null]))] : va_W)) := hD
  refine lv_dup hx hb dX3_init_32 rfl ?_
  refine lv_iconst (v := 4) hx hb dX3_init_33 (by decide) ?_
  refine lv_iconst (v := 4) hx hb dX3_init_34 (by decide) ?_
  refine zM_I (pre := ([(q, .inr (3, [.ref q1, .ref q3, .null, .null, .int 0, .int 0]))] : va_W) ++ kW cI (kad q1 u2) cal0 ++ sW cI (zad q3 u4) (sl_new 4 4)) (wc := ([(q5, .inr (2, [.int 0, .int 0, .int 0, .int 0, .int 0, .null, .null, .null, .null, .null, .null, .null, .null, .null, .null, .null, .null, .null]))] : va_W)) (post := []) ⟨hx, hb, hml, hown, hts⟩ (c_X2_init l dC dI cI q5 4 4) (cwI 2 hts gX3_init_X2_init rfl rfl rfl hi_X2 hml18 him_X2 rfl (by decide +kernel) ⟨Nat.le_of_ble_eq_true rfl, Nat.le_of_ble_eq_true rfl⟩) (List.append_nil _ |>.symm) hK hN hP hD hS hA rfl hl.1 rfl (Nat.le_of_ble_eq_true rfl) dX3_init_35 ⟨Nat.le_of_ble_eq_true rfl, Nat.le_of_ble_eq_true rfl⟩ (fun u6 H locs hu hP hD hS => ?_)
  rw [List.append_nil] at hP hD
  have hP : va_P (dC, dI) vwCl (([(q, .inr (3, [.ref q1, .ref q3, .null, .null, .int 0, .int 0]))] : va_W) ++ kW cI (kad q1 u2) cal0 ++ sW cI (zad q3 u4) (sl_new 4 4) ++ sW cI (zad q5 u6) (sl_new 4 4)) H := hP
  have hD : va_D A (([(q, .inr (3, [.ref q1, .ref q3, .null, .null, .int 0, .int 0]))] : va_W) ++ kW cI (kad q1 u2) cal0 ++ sW cI (zad q3 u4) (sl_new 4 4) ++ sW cI (zad q5 u6) (sl_new 4 4)) := hD
  refine va_putF (D := (dC, dI)) (ci := 3) (v := .ref q5) (ty := (.object "PaddyTerraces$Slope")) (C := RX3) (T := TX3) (N := 6) hx hb hts hinX3 tyX3 tyX3_ok nmX3 hown hK hP hD hS 0 rfl rfl 2 (by decide) hf25 (fun _ h9 => h9) rfl hinit rfl (by decide +kernel) rfl rfl (Nat.le_of_ble_eq_true rfl) dX3_init_38 (fun H locs hP hD hS => ?_)
  have hP : va_P (dC, dI) vwCl (([(q, .inr (3, [.ref q1, .ref q3, .ref q5, .null, .int 0, .int 0]))] : va_W) ++ kW cI (kad q1 u2) cal0 ++ sW cI (zad q3 u4) (sl_new 4 4) ++ sW cI (zad q5 u6) (sl_new 4 4)) H := hP
  have hD : va_D A (([(q, .inr (3, [.ref q1, .ref q3, .ref q5, .null, .int 0, .int 0]))] : va_W) ++ kW cI (kad q1 u2) cal0 ++ sW cI (zad q3 u4) (sl_new 4 4) ++ sW cI (zad q5 u6) (sl_new 4 4)) := hD
  refine lv_aload_n hx hb dX3_init_41 rfl (lv_at hl 0 rfl) ?_
  refine va_new (ci := 1) (fs := [.int 0, .int 0, .int 0, .int 0, .int 0]) (C := RX1) (T := TX1) (N := 5) hx hb hts hinX1 tyX1 tyX1_ok hown hk28 hn28 hi28 hK hP hD hS hA rfl (fun j hj => by rcases (show j = 0 ∨ j = 1 ∨ j = 2 ∨ j = 3 ∨ j = 4 by omega) with rfl | rfl | rfl | rfl | rfl <;> rfl) (Nat.le_of_ble_eq_true rfl) (Nat.le_of_ble_eq_true rfl) dX3_init_42 (fun q7 H hP hD hS => ?_)
  have hP : va_P (dC, dI) vwCl (([(q, .inr (3, [.ref q1, .ref q3, .ref q5, .null, .int 0, .int 0]))] : va_W) ++ kW cI (kad q1 u2) cal0 ++ sW cI (zad q3 u4) (sl_new 4 4) ++ sW cI (zad q5 u6) (sl_new 4 4) ++ ([(q7, .inr (1, [.int 0, .int 0, .int 0, .int 0, .int 0]))] : va_W)) H := hP
  have hD : va_D A (([(q, .inr (3, [.ref q1, .ref q3, .ref q5, .null, .int 0, .int 0]))] : va_W) ++ kW cI (kad q1 u2) cal0 ++ sW cI (zad q3 u4) (sl_new 4 4) ++ sW cI (zad q5 u6) (sl_new 4 4) ++ ([(q7, .inr (1, [.int 0, .int 0, .int 0, .int 0, .int 0]))] : va_W)) := hD
  refine lv_dup hx hb dX3_init_45 rfl ?_
  refine zM_IN (pre := ([(q, .inr (3, [.ref q1, .ref q3, .ref q5, .null, .int 0, .int 0]))] : va_W) ++ kW cI (kad q1 u2) cal0 ++ sW cI (zad q3 u4) (sl_new 4 4) ++ sW cI (zad q5 u6) (sl_new 4 4)) (wc := ([(q7, .inr (1, [.int 0, .int 0, .int 0, .int 0, .int 0]))] : va_W)) (post := []) ⟨hx, hb, hml, hown, hts⟩ (c_X1_init l dC dI cI q7) ⟨va_cnB 0 hts gX3_init_X1_init_n30 rfl rfl rfl hN.2 hi_X1 (by decide +kernel) ⟨Nat.le_of_ble_eq_true rfl, Nat.le_of_ble_eq_true rfl⟩, rfl, him_X1⟩ (List.append_nil _ |>.symm) hK hN hP hD hS hA rfl hl.1 rfl (Nat.le_of_ble_eq_true rfl) dX3_init_46 ⟨Nat.le_of_ble_eq_true rfl, Nat.le_of_ble_eq_true rfl⟩ (fun u8 H locs hu hP hD hS => ?_)
  rw [List.append_nil] at hP hD
  have hP : va_P (dC, dI) vwCl (([(q, .inr (3, [.ref q1, .ref q3, .ref q5, .null, .int 0, .int 0]))] : va_W) ++ kW cI (kad q1 u2) cal0 ++ sW cI (zad q3 u4) (sl_new 4 4) ++ sW cI (zad q5 u6) (sl_new 4 4) ++ [(q7, .inr (1, [.int 0, .int 0, .int 0, .int 0, .int 0]))]) H := hP
  have hD : va_D A (([(q, .inr (3, [.ref q1, .ref q3, .ref q5, .null, .int 0, .int 0]))] : va_W) ++ kW cI (kad q1 u2) cal0 ++ sW cI (zad q3 u4) (sl_new 4 4) ++ sW cI (zad q5 u6) (sl_new 4 4) ++ [(q7, .inr (1, [.int 0, .int 0, .int 0, .int 0, .int 0]))]) := hD
  refine va_putF (D := (dC, dI)) (ci := 3) (v := .ref q7) (ty := (.object "PaddyTerraces$Move")) (C := RX3) (T := TX3) (N := 6) hx hb hts hinX3 tyX3 tyX3_ok nmX3 hown hK hP hD hS 0 rfl rfl 3 (by decide) hf31 (fun _ h9 => h9) rfl hinit rfl (by decide +kernel) rfl rfl (Nat.le_of_ble_eq_true rfl) dX3_init_49 (fun H locs hP hD hS => ?_)
  have hP : va_P (dC, dI) vwCl (([(q, .inr (3, [.ref q1, .ref q3, .ref q5, .ref q7, .int 0, .int 0]))] : va_W) ++ kW cI (kad q1 u2) cal0 ++ sW cI (zad q3 u4) (sl_new 4 4) ++ sW cI (zad q5 u6) (sl_new 4 4) ++ [(q7, .inr (1, [.int 0, .int 0, .int 0, .int 0, .int 0]))]) H := hP
  have hD : va_D A (([(q, .inr (3, [.ref q1, .ref q3, .ref q5, .ref q7, .int 0, .int 0]))] : va_W) ++ kW cI (kad q1 u2) cal0 ++ sW cI (zad q3 u4) (sl_new 4 4) ++ sW cI (zad q5 u6) (sl_new 4 4) ++ [(q7, .inr (1, [.int 0, .int 0, .int 0, .int 0, .int 0]))]) := hD
  have hP : va_P (dC, dI) vwCl (oW (oad q q1 q7 u2) (zad q3 u4) (zad q5 u6) cal0 ++ kW cI (oad q q1 q7 u2) cal0 ++ bW (oad q q1 q7 u2) bst0 ++ sW cI (zad q3 u4) (sl_new 4 4) ++ sW cI (zad q5 u6) (sl_new 4 4)) H := hP.sub [0, 1, 2, 3, 4, 33, 5, 6, 7, 8, 9, 10, 11, 12, 13, 14, 15, 16, 17, 18, 19, 20, 21, 22, 23, 24, 25, 26, 27, 28, 29, 30, 31, 32] rfl
  have hD : va_D A (oW (oad q q1 q7 u2) (zad q3 u4) (zad q5 u6) cal0 ++ kW cI (oad q q1 q7 u2) cal0 ++ bW (oad q q1 q7 u2) bst0 ++ sW cI (zad q3 u4) (sl_new 4 4) ++ sW cI (zad q5 u6) (sl_new 4 4)) := hD.sub [0, 1, 2, 3, 4, 33, 5, 6, 7, 8, 9, 10, 11, 12, 13, 14, 15, 16, 17, 18, 19, 20, 21, 22, 23, 24, 25, 26, 27, 28, 29, 30, 31, 32] (by decide +kernel) rfl
  exact zM_ret (w1 := fun u : (Nat → Nat) × (Nat → Nat) × (Nat → Nat) => oW u.1 u.2.1 u.2.2 cal0 ++ kW cI u.1 cal0 ++ bW u.1 bst0 ++ sW cI u.2.1 (sl_new 4 4) ++ sW cI u.2.2 (sl_new 4 4)) (oad q q1 q7 u2, zad q3 u4, zad q5 u6) rfl hx hb hr hlocks hP hD hS dX3_init_52

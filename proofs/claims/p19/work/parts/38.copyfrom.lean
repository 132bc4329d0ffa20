set_option maxHeartbeats 4000000 in
set_option maxRecDepth 100000 in
theorem c_X2_copyFrom (l : Launch) (dC : Nat → ClassId) (dI : Nat → Nat → Nat) (cI : ClassId) (a b : Nat → Nat) (S T : sS) : zV l yX2_copyFrom wsX2_copyFrom { frames := 2, cells := 0, slots := 0, locals := 81 } (dC, dI) cI [.ref (a 0), .ref (b 0)] (sW cI a T ++ sW cI b S) (sW cI a S ++ sW cI b S) := by
  refine zV_of (cc := cX2_copyFrom) (maxL := 2) (ret := none) (by decide) rfl (Nat.le_of_ble_eq_true rfl) ?_
  intro p e s m below meth c A ls C0 hl
  obtain ⟨hx, hb, hr, hml, hown, hts, hlocks, hK, hN, hA, hP, hD, hS⟩ := C0
  have hown : s.vm.findClass RX2 = some m.cls := hown
  have hl : lv_has ls 2 [(0, .ref (a 0)), (1, .ref (b 0))] := hl
  have hf9 := hts (.fieldLink RX2 9 "PaddyTerraces$Slope" "share" "[I") (by decide +kernel)
  have hf15 := hts (.fieldLink RX2 15 "PaddyTerraces$Slope" "depth" "[I") (by decide +kernel)
  have hf18 := hts (.fieldLink RX2 18 "PaddyTerraces$Slope" "bank" "[I") (by decide +kernel)
  have hf21 := hts (.fieldLink RX2 21 "PaddyTerraces$Slope" "seepage" "[I") (by decide +kernel)
  have hf24 := hts (.fieldLink RX2 24 "PaddyTerraces$Slope" "stone" "[I") (by decide +kernel)
  have hf27 := hts (.fieldLink RX2 27 "PaddyTerraces$Slope" "side" "[I") (by decide +kernel)
  have hf30 := hts (.fieldLink RX2 30 "PaddyTerraces$Slope" "crop" "[I") (by decide +kernel)
  have hf33 := hts (.fieldLink RX2 33 "PaddyTerraces$Slope" "age" "[I") (by decide +kernel)
  have hf36 := hts (.fieldLink RX2 36 "PaddyTerraces$Slope" "hardness" "[I") (by decide +kernel)
  have hf39 := hts (.fieldLink RX2 39 "PaddyTerraces$Slope" "drowned" "[I") (by decide +kernel)
  have hf42 := hts (.fieldLink RX2 42 "PaddyTerraces$Slope" "dry" "[I") (by decide +kernel)
  have hf45 := hts (.fieldLink RX2 45 "PaddyTerraces$Slope" "wentOut" "[I") (by decide +kernel)
  have hf48 := hts (.fieldLink RX2 48 "PaddyTerraces$Slope" "spilled" "[I") (by decide +kernel)
  have hf55 := hts (.fieldLink RX2 55 "PaddyTerraces$Slope" "h" "I") (by decide +kernel)
  have hf59 := hts (.fieldLink RX2 59 "PaddyTerraces$Slope" "w" "I") (by decide +kernel)
  have hf62 := hts (.fieldLink RX2 62 "PaddyTerraces$Slope" "day" "I") (by decide +kernel)
  have hf65 := hts (.fieldLink RX2 65 "PaddyTerraces$Slope" "brook" "I") (by decide +kernel)
  have hf68 := hts (.fieldLink RX2 68 "PaddyTerraces$Slope" "died" "I") (by decide +kernel)
  have hi_Sys := hts (.initialized "java/lang/System") (by decide +kernel)
  have hm81 := hts (.methodLink RX2 81 arraycopyName) (by decide +kernel)
  have hn_acp := hts (.native arraycopyName) (by decide +kernel)
  have hs_acp := hts (.static arraycopyName) (by decide +kernel)
  have hinX2 : ∀ w ∈ wsX20, w ∈ wsX2_copyFrom := by decide +kernel
  have hS0 := hS
  refine lv_aload_n hx hb dX2_copyFrom_0 rfl (lv_at hl 0 rfl) ?_
  refine lv_aload_n hx hb dX2_copyFrom_1 rfl (lv_at hl 1 rfl) ?_
  refine va_get (D := (dC, dI)) (ci := 2) (v := .int (S 0 0)) (C := RX2) (T := TX2) (N := 18) hx hb hts hinX2 hown hK hP 14 rfl rfl 0 (by decide) hf55 (fun _ h9 => h9) rfl dX2_copyFrom_2 ?_
  obtain ⟨S1, eS1⟩ : ∃ z : sS, z = s_put T 0 0 (S 0 0) := ⟨_, rfl⟩
  refine va_put (D := (dC, dI)) (ci := 2) (v := .int (S 0 0)) (ty := .int) (C := RX2) (T := TX2) (N := 18) hx hb hts hinX2 tyX2 tyX2_ok nmX2 hown hK hP hD hS 0 rfl rfl 0 (by decide) hf55 (fun _ h9 => h9) rfl (by decide +kernel) rfl rfl (Nat.le_of_ble_eq_true rfl) dX2_copyFrom_5 (fun H locs hP hD hS => ?_)
  have hP : va_P (dC, dI) vwCl (sW cI a S1 ++ sW cI b S) H := by rw [eS1]; exact hP
  have hD : va_D A (sW cI a S1 ++ sW cI b S) := by rw [eS1]; exact hD
  refine lv_aload_n hx hb dX2_copyFrom_8 rfl (lv_at hl 0 rfl) ?_
  refine lv_aload_n hx hb dX2_copyFrom_9 rfl (lv_at hl 1 rfl) ?_
  refine va_get (D := (dC, dI)) (ci := 2) (v := .int (S 0 1)) (C := RX2) (T := TX2) (N := 18) hx hb hts hinX2 hown hK hP 14 rfl rfl 1 (by decide) hf59 (fun _ h9 => h9) rfl dX2_copyFrom_10 ?_
  obtain ⟨S2, eS2⟩ : ∃ z : sS, z = s_put S1 0 1 (S 0 1) := ⟨_, rfl⟩
  refine va_put (D := (dC, dI)) (ci := 2) (v := .int (S 0 1)) (ty := .int) (C := RX2) (T := TX2) (N := 18) hx hb hts hinX2 tyX2 tyX2_ok nmX2 hown hK hP hD hS 0 rfl rfl 1 (by decide) hf59 (fun _ h9 => h9) rfl (by decide +kernel) rfl rfl (Nat.le_of_ble_eq_true rfl) dX2_copyFrom_13 (fun H locs hP hD hS => ?_)
  have hP : va_P (dC, dI) vwCl (sW cI a S2 ++ sW cI b S) H := by rw [eS2]; exact hP
  have hD : va_D A (sW cI a S2 ++ sW cI b S) := by rw [eS2]; exact hD
  refine lv_aload_n hx hb dX2_copyFrom_16 rfl (lv_at hl 0 rfl) ?_
  refine lv_aload_n hx hb dX2_copyFrom_17 rfl (lv_at hl 1 rfl) ?_
  refine va_get (D := (dC, dI)) (ci := 2) (v := .int (S 0 2)) (C := RX2) (T := TX2) (N := 18) hx hb hts hinX2 hown hK hP 14 rfl rfl 2 (by decide) hf62 (fun _ h9 => h9) rfl dX2_copyFrom_18 ?_
  obtain ⟨S3, eS3⟩ : ∃ z : sS, z = s_put S2 0 2 (S 0 2) := ⟨_, rfl⟩
  refine va_put (D := (dC, dI)) (ci := 2) (v := .int (S 0 2)) (ty := .int) (C := RX2) (T := TX2) (N := 18) hx hb hts hinX2 tyX2 tyX2_ok nmX2 hown hK hP hD hS 0 rfl rfl 2 (by decide) hf62 (fun _ h9 => h9) rfl (by decide +kernel) rfl rfl (Nat.le_of_ble_eq_true rfl) dX2_copyFrom_21 (fun H locs hP hD hS => ?_)
  have hP : va_P (dC, dI) vwCl (sW cI a S3 ++ sW cI b S) H := by rw [eS3]; exact hP
  have hD : va_D A (sW cI a S3 ++ sW cI b S) := by rw [eS3]; exact hD
  refine lv_aload_n hx hb dX2_copyFrom_24 rfl (lv_at hl 0 rfl) ?_
  refine lv_aload_n hx hb dX2_copyFrom_25 rfl (lv_at hl 1 rfl) ?_
  refine va_get (D := (dC, dI)) (ci := 2) (v := .int (S 0 3)) (C := RX2) (T := TX2) (N := 18) hx hb hts hinX2 hown hK hP 14 rfl rfl 3 (by decide) hf65 (fun _ h9 => h9) rfl dX2_copyFrom_26 ?_
  obtain ⟨S4, eS4⟩ : ∃ z : sS, z = s_put S3 0 3 (S 0 3) := ⟨_, rfl⟩
  refine va_put (D := (dC, dI)) (ci := 2) (v := .int (S 0 3)) (ty := .int) (C := RX2) (T := TX2) (N := 18) hx hb hts hinX2 tyX2 tyX2_ok nmX2 hown hK hP hD hS 0 rfl rfl 3 (by decide) hf65 (fun _ h9 => h9) rfl (by decide +kernel) rfl rfl (Nat.le_of_ble_eq_true rfl) dX2_copyFrom_29 (fun H locs hP hD hS => ?_)
  have hP : va_P (dC, dI) vwCl (sW cI a S4 ++ sW cI b S) H := by rw [eS4]; exact hP
  have hD : va_D A (sW cI a S4 ++ sW cI b S) := by rw [eS4]; exact hD
  refine lv_aload_n hx hb dX2_copyFrom_32 rfl (lv_at hl 0 rfl) ?_
  refine lv_aload_n hx hb dX2_copyFrom_33 rfl (lv_at hl 1 rfl) ?_
  refine va_get (D := (dC, dI)) (ci := 2) (v := .int (S 0 4)) (C := RX2) (T := TX2) (N := 18) hx hb hts hinX2 hown hK hP 14 rfl rfl 4 (by decide) hf68 (fun _ h9 => h9) rfl dX2_copyFrom_34 ?_
  obtain ⟨S5, eS5⟩ : ∃ z : sS, z = s_put S4 0 4 (S 0 4) := ⟨_, rfl⟩
  refine va_put (D := (dC, dI)) (ci := 2) (v := .int (S 0 4)) (ty := .int) (C := RX2) (T := TX2) (N := 18) hx hb hts hinX2 tyX2 tyX2_ok nmX2 hown hK hP hD hS 0 rfl rfl 4 (by decide) hf68 (fun _ h9 => h9) rfl (by decide +kernel) rfl rfl (Nat.le_of_ble_eq_true rfl) dX2_copyFrom_37 (fun H locs hP hD hS => ?_)
  have hP : va_P (dC, dI) vwCl (sW cI a S5 ++ sW cI b S) H := by rw [eS5]; exact hP
  have hD : va_D A (sW cI a S5 ++ sW cI b S) := by rw [eS5]; exact hD
  refine lv_aload_n hx hb dX2_copyFrom_40 rfl (lv_at hl 1 rfl) ?_
  refine va_get (D := (dC, dI)) (ci := 2) (v := .ref (b 1)) (C := RX2) (T := TX2) (N := 18) hx hb hts hinX2 hown hK hP 14 rfl rfl 5 (by decide) hf9 (fun _ h9 => h9) rfl dX2_copyFrom_41 ?_
  refine lv_iconst (v := 0) hx hb dX2_copyFrom_44 (by decide) ?_
  refine lv_aload_n hx hb dX2_copyFrom_45 rfl (lv_at hl 0 rfl) ?_
  refine va_get (D := (dC, dI)) (ci := 2) (v := .ref (a 1)) (C := RX2) (T := TX2) (N := 18) hx hb hts hinX2 hown hK hP 0 rfl rfl 5 (by decide) hf9 (fun _ h9 => h9) rfl dX2_copyFrom_46 ?_
  refine lv_iconst (v := 0) hx hb dX2_copyFrom_49 (by decide) ?_
  refine lv_bipush (v := 8) hx hb dX2_copyFrom_50 (by decide) ?_
  obtain ⟨S6, eS6⟩ : ∃ z : sS, z = s_row S5 1 (va_cpy (S 1) (S5 1) (0 : Int32).toNatClampNeg (0 : Int32).toNatClampNeg (8 : Int32).toNatClampNeg) := ⟨_, rfl⟩
  refine va_copyi (c0 := cI) (c1 := cI) (n0 := 8) (n1 := 8) (f := S 1) (g := S5 1) (ty := .int) (sp := 0) (dp := 0) (n := 8) hx hb (hml.trans hl.1.symm) hown hm81 hn_acp hs_acp hi_Sys hK hP hD hS 15 1 0 0 rfl rfl rfl rfl rfl (by decide) (by decide) (by decide) (by decide) (by decide) (fun _ _ => rfl) (Nat.le_of_ble_eq_true rfl) (Nat.le_of_ble_eq_true rfl) dX2_copyFrom_52 (fun H locs hP hD hS => ?_)
  have hP : va_P (dC, dI) vwCl (sW cI a S6 ++ sW cI b S) H := by rw [eS6]; exact hP
  have hD : va_D A (sW cI a S6 ++ sW cI b S) := by rw [eS6]; exact hD
  refine lv_aload_n hx hb dX2_copyFrom_55 rfl (lv_at hl 1 rfl) ?_
  refine va_get (D := (dC, dI)) (ci := 2) (v := .ref (b 2)) (C := RX2) (T := TX2) (N := 18) hx hb hts hinX2 hown hK hP 14 rfl rfl 6 (by decide) hf15 (fun _ h9 => h9) rfl dX2_copyFrom_56 ?_
  refine lv_aload_n hx hb dX2_copyFrom_59 rfl (lv_at hl 0 rfl) ?_
  refine va_get (D := (dC, dI)) (ci := 2) (v := .ref (a 2)) (C := RX2) (T := TX2) (N := 18) hx hb hts hinX2 hown hK hP 0 rfl rfl 6 (by decide) hf15 (fun _ h9 => h9) rfl dX2_copyFrom_60 ?_
  obtain ⟨S7, eS7⟩ : ∃ z : sS, z = s_row S6 2 (S 2) := ⟨_, rfl⟩
  have hP9 := hP.sub (ws' := zpk (sW cI a S6 ++ sW cI b S) [0, 1, 3, 4, 5, 6, 7, 8, 9, 10, 11, 12, 13, 14, 15, 17, 18, 19, 20, 21, 22, 23, 24, 25, 26, 27] ++ [((b 2), .inl (cI, 64, .inl (S 2))), ((a 2), .inl (cI, 64, .inl (S6 2)))]) [0, 1, 3, 4, 5, 6, 7, 8, 9, 10, 11, 12, 13, 14, 15, 17, 18, 19, 20, 21, 22, 23, 24, 25, 26, 27, 16, 2] rfl
  have hD9 := hD.sub (ws' := zpk (sW cI a S6 ++ sW cI b S) [0, 1, 3, 4, 5, 6, 7, 8, 9, 10, 11, 12, 13, 14, 15, 17, 18, 19, 20, 21, 22, 23, 24, 25, 26, 27] ++ [((b 2), .inl (cI, 64, .inl (S 2))), ((a 2), .inl (cI, 64, .inl (S6 2)))]) [0, 1, 3, 4, 5, 6, 7, 8, 9, 10, 11, 12, 13, 14, 15, 17, 18, 19, 20, 21, 22, 23, 24, 25, 26, 27, 16, 2] (by decide +kernel) rfl
  refine zV_S (pre := zpk (sW cI a S6 ++ sW cI b S) [0, 1, 3, 4, 5, 6, 7, 8, 9, 10, 11, 12, 13, 14, 15, 17, 18, 19, 20, 21, 22, 23, 24, 25, 26, 27]) (wc := [((b 2), .inl (cI, 64, .inl (S 2))), ((a 2), .inl (cI, 64, .inl (S6 2)))]) (post := []) (w1 := [((b 2), .inl (cI, 64, .inl (S 2))), ((a 2), .inl (cI, 64, .inl (S 2)))]) ⟨hx, hb, hml, hown, hts⟩ (c_X2_copyRow l dC dI cI (b 2) (a 2) (S 2) (S6 2)) (va_cwS 2 hts gX2_copyFrom_X2_copyRow rfl rfl rfl (by decide +kernel) ⟨Nat.le_of_ble_eq_true rfl, Nat.le_of_ble_eq_true rfl⟩) (List.append_nil _).symm hK hN hP9 hD9 hS hA rfl hl.1 rfl (Nat.le_of_ble_eq_true rfl) dX2_copyFrom_63 ⟨Nat.le_of_ble_eq_true rfl, Nat.le_of_ble_eq_true rfl⟩ (fun H locs hP hD hS => ?_)
  rw [List.append_nil] at hP hD
  have hP : va_P (dC, dI) vwCl (sW cI a S7 ++ sW cI b S) H := by rw [eS7]; exact hP.sub [0, 1, 27, 2, 3, 4, 5, 6, 7, 8, 9, 10, 11, 12, 13, 14, 26, 15, 16, 17, 18, 19, 20, 21, 22, 23, 24, 25] rfl
  have hD : va_D A (sW cI a S7 ++ sW cI b S) := by rw [eS7]; exact hD.sub [0, 1, 27, 2, 3, 4, 5, 6, 7, 8, 9, 10, 11, 12, 13, 14, 26, 15, 16, 17, 18, 19, 20, 21, 22, 23, 24, 25] (by decide +kernel) rfl
  refine lv_aload_n hx hb dX2_copyFrom_66 rfl (lv_at hl 1 rfl) ?_
  refine va_get (D := (dC, dI)) (ci := 2) (v := .ref (b 3)) (C := RX2) (T := TX2) (N := 18) hx hb hts hinX2 hown hK hP 14 rfl rfl 7 (by decide) hf18 (fun _ h9 => h9) rfl dX2_copyFrom_67 ?_
  refine lv_aload_n hx hb dX2_copyFrom_70 rfl (lv_at hl 0 rfl) ?_
  refine va_get (D := (dC, dI)) (ci := 2) (v := .ref (a 3)) (C := RX2) (T := TX2) (N := 18) hx hb hts hinX2 hown hK hP 0 rfl rfl 7 (by decide) hf18 (fun _ h9 => h9) rfl dX2_copyFrom_71 ?_
  obtain ⟨S8, eS8⟩ : ∃ z : sS, z = s_row S7 3 (S 3) := ⟨_, rfl⟩
  have hP9 := hP.sub (ws' := zpk (sW cI a S7 ++ sW cI b S) [0, 1, 2, 4, 5, 6, 7, 8, 9, 10, 11, 12, 13, 14, 15, 16, 18, 19, 20, 21, 22, 23, 24, 25, 26, 27] ++ [((b 3), .inl (cI, 64, .inl (S 3))), ((a 3), .inl (cI, 64, .inl (S7 3)))]) [0, 1, 2, 4, 5, 6, 7, 8, 9, 10, 11, 12, 13, 14, 15, 16, 18, 19, 20, 21, 22, 23, 24, 25, 26, 27, 17, 3] rfl
  have hD9 := hD.sub (ws' := zpk (sW cI a S7 ++ sW cI b S) [0, 1, 2, 4, 5, 6, 7, 8, 9, 10, 11, 12, 13, 14, 15, 16, 18, 19, 20, 21, 22, 23, 24, 25, 26, 27] ++ [((b 3), .inl (cI, 64, .inl (S 3))), ((a 3), .inl (cI, 64, .inl (S7 3)))]) [0, 1, 2, 4, 5, 6, 7, 8, 9, 10, 11, 12, 13, 14, 15, 16, 18, 19, 20, 21, 22, 23, 24, 25, 26, 27, 17, 3] (by decide +kernel) rfl
  refine zV_S (pre := zpk (sW cI a S7 ++ sW cI b S) [0, 1, 2, 4, 5, 6, 7, 8, 9, 10, 11, 12, 13, 14, 15, 16, 18, 19, 20, 21, 22, 23, 24, 25, 26, 27]) (wc := [((b 3), .inl (cI, 64, .inl (S 3))), ((a 3), .inl (cI, 64, .inl (S7 3)))]) (post := []) (w1 := [((b 3), .inl (cI, 64, .inl (S 3))), ((a 3), .inl (cI, 64, .inl (S 3)))]) ⟨hx, hb, hml, hown, hts⟩ (c_X2_copyRow l dC dI cI (b 3) (a 3) (S 3) (S7 3)) (va_cwS 2 hts gX2_copyFrom_X2_copyRow rfl rfl rfl (by decide +kernel) ⟨Nat.le_of_ble_eq_true rfl, Nat.le_of_ble_eq_true rfl⟩) (List.append_nil _).symm hK hN hP9 hD9 hS hA rfl hl.1 rfl (Nat.le_of_ble_eq_true rfl) dX2_copyFrom_74 ⟨Nat.le_of_ble_eq_true rfl, Nat.le_of_ble_eq_true rfl⟩ (fun H locs hP hD hS => ?_)
  rw [List.append_nil] at hP hD
  have hP : va_P (dC, dI) vwCl (sW cI a S8 ++ sW cI b S) H := by rw [eS8]; exact hP.sub [0, 1, 2, 27, 3, 4, 5, 6, 7, 8, 9, 10, 11, 12, 13, 14, 15, 26, 16, 17, 18, 19, 20, 21, 22, 23, 24, 25] rfl
  have hD : va_D A (sW cI a S8 ++ sW cI b S) := by rw [eS8]; exact hD.sub [0, 1, 2, 27, 3, 4, 5, 6, 7, 8, 9, 10, 11, 12, 13, 14, 15, 26, 16, 17, 18, 19, 20, 21, 22, 23, 24, 25] (by decide +kernel) rfl
  refine lv_aload_n hx hb dX2_copyFrom_77 rfl (lv_at hl 1 rfl) ?_
  refine va_get (D := (dC, dI)) (ci := 2) (v := .ref (b 4)) (C := RX2) (T := TX2) (N := 18) hx hb hts hinX2 hown hK hP 14 rfl rfl 8 (by decide) hf21 (fun _ h9 => h9) rfl dX2_copyFrom_78 ?_
  refine lv_aload_n hx hb dX2_copyFrom_81 rfl (lv_at hl 0 rfl) ?_
  refine va_get (D := (dC, dI)) (ci := 2) (v := .ref (a 4)) (C := RX2) (T := TX2) (N := 18) hx hb hts hinX2 hown hK hP 0 rfl rfl 8 (by decide) hf21 (fun _ h9 => h9) rfl dX2_copyFrom_82 ?_
  obtain ⟨S9, eS9⟩ : ∃ z : sS, z = s_row S8 4 (S 4) := ⟨_, rfl⟩
  have hP9 := hP.sub (ws' := zpk (sW cI a S8 ++ sW cI b S) [0, 1, 2, 3, 5, 6, 7, 8, 9, 10, 11, 12, 13, 14, 15, 16, 17, 19, 20, 21, 22, 23, 24, 25, 26, 27] ++ [((b 4), .inl (cI, 64, .inl (S 4))), ((a 4), .inl (cI, 64, .inl (S8 4)))]) [0, 1, 2, 3, 5, 6, 7, 8, 9, 10, 11, 12, 13, 14, 15, 16, 17, 19, 20, 21, 22, 23, 24, 25, 26, 27, 18, 4] rfl
  have hD9 := hD.sub (ws' := zpk (sW cI a S8 ++ sW cI b S) [0, 1, 2, 3, 5, 6, 7, 8, 9, 10, 11, 12, 13, 14, 15, 16, 17, 19, 20, 21, 22, 23, 24, 25, 26, 27] ++ [((b 4), .inl (cI, 64, .inl (S 4))), ((a 4), .inl (cI, 64, .inl (S8 4)))]) [0, 1, 2, 3, 5, 6, 7, 8, 9, 10, 11, 12, 13, 14, 15, 16, 17, 19, 20, 21, 22, 23, 24, 25, 26, 27, 18, 4] (by decide +kernel) rfl
  refine zV_S (pre := zpk (sW cI a S8 ++ sW cI b S) [0, 1, 2, 3, 5, 6, 7, 8, 9, 10, 11, 12, 13, 14, 15, 16, 17, 19, 20, 21, 22, 23, 24, 25, 26, 27]) (wc := [((b 4), .inl (cI, 64, .inl (S 4))), ((a 4), .inl (cI, 64, .inl (S8 4)))]) (post := []) (w1 := [((b 4), .inl (cI, 64, .inl (S 4))), ((a 4), .inl (cI, 64, .inl (S 4)))]) ⟨hx, hb, hml, hown, hts⟩ (c_X2_copyRow l dC dI cI (b 4) (a 4) (S 4) (S8 4)) (va_cwS 2 hts gX2_copyFrom_X2_copyRow rfl rfl rfl (by decide +kernel) ⟨Nat.le_of_ble_eq_true rfl, Nat.le_of_ble_eq_true rfl⟩) (List.append_nil _).symm hK hN hP9 hD9 hS hA rfl hl.1 rfl (Nat.le_of_ble_eq_true rfl) dX2_copyFrom_85 ⟨Nat.le_of_ble_eq_true rfl, Nat.le_of_ble_eq_true rfl⟩ (fun H locs hP hD hS => ?_)
  rw [List.append_nil] at hP hD
  have hP : va_P (dC, dI) vwCl (sW cI a S9 ++ sW cI b S) H := by rw [eS9]; exact hP.sub [0, 1, 2, 3, 27, 4, 5, 6, 7, 8, 9, 10, 11, 12, 13, 14, 15, 16, 26, 17, 18, 19, 20, 21, 22, 23, 24, 25] rfl
  have hD : va_D A (sW cI a S9 ++ sW cI b S) := by rw [eS9]; exact hD.sub [0, 1, 2, 3, 27, 4, 5, 6, 7, 8, 9, 10, 11, 12, 13, 14, 15, 16, 26, 17, 18, 19, 20, 21, 22, 23, 24, 25] (by decide +kernel) rfl
  refine lv_aload_n hx hb dX2_copyFrom_88 rfl (lv_at hl 1 rfl) ?_
  refine va_get (D := (dC, dI)) (ci := 2) (v := .ref (b 5)) (C := RX2) (T := TX2) (N := 18) hx hb hts hinX2 hown hK hP 14 rfl rfl 9 (by decide) hf24 (fun _ h9 => h9) rfl dX2_copyFrom_89 ?_
  refine lv_aload_n hx hb dX2_copyFrom_92 rfl (lv_at hl 0 rfl) ?_
  refine va_get (D := (dC, dI)) (ci := 2) (v := .ref (a 5)) (C := RX2) (T := TX2) (N := 18) hx hb hts hinX2 hown hK hP 0 rfl rfl 9 (by decide) hf24 (fun _ h9 => h9) rfl dX2_copyFrom_93 ?_
  obtain ⟨S10, eS10⟩ : ∃ z : sS, z = s_row S9 5 (S 5) := ⟨_, rfl⟩
  have hP9 := hP.sub (ws' := zpk (sW cI a S9 ++ sW cI b S) [0, 1, 2, 3, 4, 6, 7, 8, 9, 10, 11, 12, 13, 14, 15, 16, 17, 18, 20, 21, 22, 23, 24, 25, 26, 27] ++ [((b 5), .inl (cI, 64, .inl (S 5))), ((a 5), .inl (cI, 64, .inl (S9 5)))]) [0, 1, 2, 3, 4, 6, 7, 8, 9, 10, 11, 12, 13, 14, 15, 16, 17, 18, 20, 21, 22, 23, 24, 25, 26, 27, 19, 5] rfl
  have hD9 := hD.sub (ws' := zpk (sW cI a S9 ++ sW cI b S) [0, 1, 2, 3, 4, 6, 7, 8, 9, 10, 11, 12, 13, 14, 15, 16, 17, 18, 20, 21, 22, 23, 24, 25, 26, 27] ++ [((b 5), .inl (cI, 64, .inl (S 5))), ((a 5), .inl (cI, 64, .inl (S9 5)))]) [0, 1, 2, 3, 4, 6, 7, 8, 9, 10, 11, 12, 13, 14, 15, 16, 17, 18, 20, 21, 22, 23, 24, 25, 26, 27, 19, 5] (by decide +kernel) rfl
  refine zV_S (pre := zpk (sW cI a S9 ++ sW cI b S) [0, 1, 2, 3, 4, 6, 7, 8, 9, 10, 11, 12, 13, 14, 15, 16, 17, 18, 20, 21, 22, 23, 24, 25, 26, 27]) (wc := [((b 5), .inl (cI, 64, .inl (S 5))), ((a 5), .inl (cI, 64, .inl (S9 5)))]) (post := []) (w1 := [((b 5), .inl (cI, 64, .inl (S 5))), ((a 5), .inl (cI, 64, .inl (S 5)))]) ⟨hx, hb, hml, hown, hts⟩ (c_X2_copyRow l dC dI cI (b 5) (a 5) (S 5) (S9 5)) (va_cwS 2 hts gX2_copyFrom_X2_copyRow rfl rfl rfl (by decide +kernel) ⟨Nat.le_of_ble_eq_true rfl, Nat.le_of_ble_eq_true rfl⟩) (List.append_nil _).symm hK hN hP9 hD9 hS hA rfl hl.1 rfl (Nat.le_of_ble_eq_true rfl) dX2_copyFrom_96 ⟨Nat.le_of_ble_eq_true rfl, Nat.le_of_ble_eq_true rfl⟩ (fun H locs hP hD hS => ?_)
  rw [List.append_nil] at hP hD
  have hP : va_P (dC, dI) vwCl (sW cI a S10 ++ sW cI b S) H := by rw [eS10]; exact hP.sub [0, 1, 2, 3, 4, 27, 5, 6, 7, 8, 9, 10, 11, 12, 13, 14, 15, 16, 17, 26, 18, 19, 20, 21, 22, 23, 24, 25] rfl
  have hD : va_D A (sW cI a S10 ++ sW cI b S) := by rw [eS10]; exact hD.sub [0, 1, 2, 3, 4, 27, 5, 6, 7, 8, 9, 10, 11, 12, 13, 14, 15, 16, 17, 26, 18, 19, 20, 21, 22, 23, 24, 25] (by decide +kernel) rfl
  refine lv_aload_n hx hb dX2_copyFrom_99 rfl (lv_at hl 1 rfl) ?_
  refine va_get (D := (dC, dI)) (ci := 2) (v := .ref (b 6)) (C := RX2) (T := TX2) (N := 18) hx hb hts hinX2 hown hK hP 14 rfl rfl 10 (by decide) hf27 (fun _ h9 => h9) rfl dX2_copyFrom_100 ?_
  refine lv_aload_n hx hb dX2_copyFrom_103 rfl (lv_at hl 0 rfl) ?_
  refine va_get (D := (dC, dI)) (ci := 2) (v := .ref (a 6)) (C := RX2) (T := TX2) (N := 18) hx hb hts hinX2 hown hK hP 0 rfl rfl 10 (by decide) hf27 (fun _ h9 => h9) rfl dX2_copyFrom_104 ?_
  obtain ⟨S11, eS11⟩ : ∃ z : sS, z = s_row S10 6 (S 6) := ⟨_, rfl⟩
  have hP9 := hP.sub (ws' := zpk (sW cI a S10 ++ sW cI b S) [0, 1, 2, 3, 4, 5, 7, 8, 9, 10, 11, 12, 13, 14, 15, 16, 17, 18, 19, 21, 22, 23, 24, 25, 26, 27] ++ [((b 6), .inl (cI, 64, .inl (S 6))), ((a 6), .inl (cI, 64, .inl (S10 6)))]) [0, 1, 2, 3, 4, 5, 7, 8, 9, 10, 11, 12, 13, 14, 15, 16, 17, 18, 19, 21, 22, 23, 24, 25, 26, 27, 20, 6] rfl
  have hD9 := hD.sub (ws' := zpk (sW cI a S10 ++ sW cI b S) [0, 1, 2, 3, 4, 5, 7, 8, 9, 10, 11, 12, 13, 14, 15, 16, 17, 18, 19, 21, 22, 23, 24, 25, 26, 27] ++ [((b 6), .inl (cI, 64, .inl (S 6))), ((a 6), .inl (cI, 64, .inl (S10 6)))]) [0, 1, 2, 3, 4, 5, 7, 8, 9, 10, 11, 12, 13, 14, 15, 16, 17, 18, 19, 21, 22, 23, 24, 25, 26, 27, 20, 6] (by decide +kernel) rfl
  refine zV_S (pre := zpk (sW cI a S10 ++ sW cI b S) [0, 1, 2, 3, 4, 5, 7, 8, 9, 10, 11, 12, 13, 14, 15, 16, 17, 18, 19, 21, 22, 23, 24, 25, 26, 27]) (wc := [((b 6), .inl (cI, 64, .inl (S 6))), ((a 6), .inl (cI, 64, .inl (S10 6)))]) (post := []) (w1 := [((b 6), .inl (cI, 64, .inl (S 6))), ((a 6), .inl (cI, 64, .inl (S 6)))]) ⟨hx, hb, hml, hown, hts⟩ (c_X2_copyRow l dC dI cI (b 6) (a 6) (S 6) (S10 6)) (va_cwS 2 hts gX2_copyFrom_X2_copyRow rfl rfl rfl (by decide +kernel) ⟨Nat.le_of_ble_eq_true rfl, Nat.le_of_ble_eq_true rfl⟩) (List.append_nil _).symm hK hN hP9 hD9 hS hA rfl hl.1 rfl (Nat.le_of_ble_eq_true rfl) dX2_copyFrom_107 ⟨Nat.le_of_ble_eq_true rfl, Nat.le_of_ble_eq_true rfl⟩ (fun H locs hP hD hS => ?_)
  rw [List.append_nil] at hP hD
  have hP : va_P (dC, dI) vwCl (sW cI a S11 ++ sW cI b S) H := by rw [eS11]; exact hP.sub [0, 1, 2, 3, 4, 5, 27, 6, 7, 8, 9, 10, 11, 12, 13, 14, 15, 16, 17, 18, 26, 19, 20, 21, 22, 23, 24, 25] rfl
  have hD : va_D A (sW cI a S11 ++ sW cI b S) := by rw [eS11]; exact hD.sub [0, 1, 2, 3, 4, 5, 27, 6, 7, 8, 9, 10, 11, 12, 13, 14, 15, 16, 17, 18, 26, 19, 20, 21, 22, 23, 24, 25] (by decide +kernel) rfl
  refine lv_aload_n hx hb dX2_copyFrom_110 rfl (lv_at hl 1 rfl) ?_
  refine va_get (D := (dC, dI)) (ci := 2) (v := .ref (b 7)) (C := RX2) (T := TX2) (N := 18) hx hb hts hinX2 hown hK hP 14 rfl rfl 11 (by decide) hf30 (fun _ h9 => h9) rfl dX2_copyFrom_111 ?_
  refine lv_aload_n hx hb dX2_copyFrom_114 rfl (lv_at hl 0 rfl) ?_
  refine va_get (D := (dC, dI)) (ci := 2) (v := .ref (a 7)) (C := RX2) (T := TX2) (N := 18) hx hb hts hinX2 hown hK hP 0 rfl rfl 11 (by decide) hf30 (fun _ h9 => h9) rfl dX2_copyFrom_115 ?_
  obtain ⟨S12, eS12⟩ : ∃ z : sS, z = s_row S11 7 (S 7) := ⟨_, rfl⟩
  have hP9 := hP.sub (ws' := zpk (sW cI a S11 ++ sW cI b S) [0, 1, 2, 3, 4, 5, 6, 8, 9, 10, 11, 12, 13, 14, 15, 16, 17, 18, 19, 20, 22, 23, 24, 25, 26, 27] ++ [((b 7), .inl (cI, 64, .inl (S 7))), ((a 7), .inl (cI, 64, .inl (S11 7)))]) [0, 1, 2, 3, 4, 5, 6, 8, 9, 10, 11, 12, 13, 14, 15, 16, 17, 18, 19, 20, 22, 23, 24, 25, 26, 27, 21, 7] rfl
  have hD9 := hD.sub (ws' := zpk (sW cI a S11 ++ sW cI b S) [0, 1, 2, 3, 4, 5, 6, 8, 9, 10, 11, 12, 13, 14, 15, 16, 17, 18, 19, 20, 22, 23, 24, 25, 26, 27] ++ [((b 7), .inl (cI, 64, .inl (S 7))), ((a 7), .inl (cI, 64, .inl (S11 7)))]) [0, 1, 2, 3, 4, 5, 6, 8, 9, 10, 11, 12, 13, 14, 15, 16, 17, 18, 19, 20, 22, 23, 24, 25, 26, 27, 21, 7] (by decide +kernel) rfl
  refine zV_S (pre := zpk (sW cI a S11 ++ sW cI b S) [0, 1, 2, 3, 4, 5, 6, 8, 9, 10, 11, 12, 13, 14, 15, 16, 17, 18, 19, 20, 22, 23, 24, 25, 26, 27]) (wc := [((b 7), .inl (cI, 64, .inl (S 7))), ((a 7), .inl (cI, 64, .inl (S11 7)))]) (post := []) (w1 := [((b 7), .inl (cI, 64, .inl (S 7))), ((a 7), .inl (cI, 64, .inl (S 7)))]) ⟨hx, hb, hml, hown, hts⟩ (c_X2_copyRow l dC dI cI (b 7) (a 7) (S 7) (S11 7)) (va_cwS 2 hts gX2_copyFrom_X2_copyRow rfl rfl rfl (by decide +kernel) ⟨Nat.le_of_ble_eq_true rfl, Nat.le_of_ble_eq_true rfl⟩) (List.append_nil _).symm hK hN hP9 hD9 hS hA rfl hl.1 rfl (Nat.le_of_ble_eq_true rfl) dX2_copyFrom_118 ⟨Nat.le_of_ble_eq_true rfl, Nat.le_of_ble_eq_true rfl⟩ (fun H locs hP hD hS => ?_)
  rw [List.append_nil] at hP hD
  have hP : va_P (dC, dI) vwCl (sW cI a S12 ++ sW cI b S) H := by rw [eS12]; exact hP.sub [0, 1, 2, 3, 4, 5, 6, 27, 7, 8, 9, 10, 11, 12, 13, 14, 15, 16, 17, 18, 19, 26, 20, 21, 22, 23, 24, 25] rfl
  have hD : va_D A (sW cI a S12 ++ sW cI b S) := by rw [eS12]; exact hD.sub [0, 1, 2, 3, 4, 5, 6, 27, 7, 8, 9, 10, 11, 12, 13, 14, 15, 16, 17, 18, 19, 26, 20, 21, 22, 23, 24, 25] (by decide +kernel) rfl
  refine lv_aload_n hx hb dX2_copyFrom_121 rfl (lv_at hl 1 rfl) ?_
  refine va_get (D := (dC, dI)) (ci := 2) (v := .ref (b 8)) (C := RX2) (T := TX2) (N := 18) hx hb hts hinX2 hown hK hP 14 rfl rfl 12 (by decide) hf33 (fun _ h9 => h9) rfl dX2_copyFrom_122 ?_
  refine lv_aload_n hx hb dX2_copyFrom_125 rfl (lv_at hl 0 rfl) ?_
  refine va_get (D := (dC, dI)) (ci := 2) (v := .ref (a 8)) (C := RX2) (T := TX2) (N := 18) hx hb hts hinX2 hown hK hP 0 rfl rfl 12 (by decide) hf33 (fun _ h9 => h9) rfl dX2_copyFrom_126 ?_
  obtain ⟨S13, eS13⟩ : ∃ z : sS, z = s_row S12 8 (S 8) := ⟨_, rfl⟩
  have hP9 := hP.sub (ws' := zpk (sW cI a S12 ++ sW cI b S) [0, 1, 2, 3, 4, 5, 6, 7, 9, 10, 11, 12, 13, 14, 15, 16, 17, 18, 19, 20, 21, 23, 24, 25, 26, 27] ++ [((b 8), .inl (cI, 64, .inl (S 8))), ((a 8), .inl (cI, 64, .inl (S12 8)))]) [0, 1, 2, 3, 4, 5, 6, 7, 9, 10, 11, 12, 13, 14, 15, 16, 17, 18, 19, 20, 21, 23, 24, 25, 26, 27, 22, 8] rfl
  have hD9 := hD.sub (ws' := zpk (sW cI a S12 ++ sW cI b S) [0, 1, 2, 3, 4, 5, 6, 7, 9, 10, 11, 12, 13, 14, 15, 16, 17, 18, 19, 20, 21, 23, 24, 25, 26, 27] ++ [((b 8), .inl (cI, 64, .inl (S 8))), ((a 8), .inl (cI, 64, .inl (S12 8)))]) [0, 1, 2, 3, 4, 5, 6, 7, 9, 10, 11, 12, 13, 14, 15, 16, 17, 18, 19, 20, 21, 23, 24, 25, 26, 27, 22, 8] (by decide +kernel) rfl
  refine zV_S (pre := zpk (sW cI a S12 ++ sW cI b S) [0, 1, 2, 3, 4, 5, 6, 7, 9, 10, 11, 12, 13, 14, 15, 16, 17, 18, 19, 20, 21, 23, 24, 25, 26, 27]) (wc := [((b 8), .inl (cI, 64, .inl (S 8))), ((a 8), .inl (cI, 64, .inl (S12 8)))]) (post := []) (w1 := [((b 8), .inl (cI, 64, .inl (S 8))), ((a 8), .inl (cI, 64, .inl (S 8)))]) ⟨hx, hb, hml, hown, hts⟩ (c_X2_copyRow l dC dI cI (b 8) (a 8) (S 8) (S12 8)) (va_cwS 2 hts gX2_copyFrom_X2_copyRow rfl rfl rfl (by decide +kernel) ⟨Nat.le_of_ble_eq_true rfl, Nat.le_of_ble_eq_true rfl⟩) (List.append_nil _).symm hK hN hP9 hD9 hS hA rfl hl.1 rfl (Nat.le_of_ble_eq_true rfl) dX2_copyFrom_129 ⟨Nat.le_of_ble_eq_true rfl, Nat.le_of_ble_eq_true rfl⟩ (fun H locs hP hD hS => ?_)
  rw [List.append_nil] at hP hD
  have hP : va_P (dC, dI) vwCl (sW cI a S13 ++ sW cI b S) H := by rw [eS13]; exact hP.sub [0, 1, 2, 3, 4, 5, 6, 7, 27, 8, 9, 10, 11, 12, 13, 14, 15, 16, 17, 18, 19, 20, 26, 21, 22, 23, 24, 25] rfl
  have hD : va_D A (sW cI a S13 ++ sW cI b S) := by rw [eS13]; exact hD.sub [0, 1, 2, 3, 4, 5, 6, 7, 27, 8, 9, 10, 11, 12, 13, 14, 15, 16, 17, 18, 19, 20, 26, 21, 22, 23, 24, 25] (by decide +kernel) rfl
  refine lv_aload_n hx hb dX2_copyFrom_132 rfl (lv_at hl 1 rfl) ?_
  refine va_get (D := (dC, dI)) (ci := 2) (v := .ref (b 9)) (C := RX2) (T := TX2) (N := 18) hx hb hts hinX2 hown hK hP 14 rfl rfl 13 (by decide) hf36 (fun _ h9 => h9) rfl dX2_copyFrom_133 ?_
  refine lv_aload_n hx hb dX2_copyFrom_136 rfl (lv_at hl 0 rfl) ?_
  refine va_get (D := (dC, dI)) (ci := 2) (v := .ref (a 9)) (C := RX2) (T := TX2) (N := 18) hx hb hts hinX2 hown hK hP 0 rfl rfl 13 (by decide) hf36 (fun _ h9 => h9) rfl dX2_copyFrom_137 ?_
  obtain ⟨S14, eS14⟩ : ∃ z : sS, z = s_row S13 9 (S 9) := ⟨_, rfl⟩
  have hP9 := hP.sub (ws' := zpk (sW cI a S13 ++ sW cI b S) [0, 1, 2, 3, 4, 5, 6, 7, 8, 10, 11, 12, 13, 14, 15, 16, 17, 18, 19, 20, 21, 22, 24, 25, 26, 27] ++ [((b 9), .inl (cI, 64, .inl (S 9))), ((a 9), .inl (cI, 64, .inl (S13 9)))]) [0, 1, 2, 3, 4, 5, 6, 7, 8, 10, 11, 12, 13, 14, 15, 16, 17, 18, 19, 20, 21, 22, 24, 25, 26, 27, 23, 9] rfl
  have hD9 := hD.sub (ws' := zpk (sW cI a S13 ++ sW cI b S) [0, 1, 2, 3, 4, 5, 6, 7, 8, 10, 11, 12, 13, 14, 15, 16, 17, 18, 19, 20, 21, 22, 24, 25, 26, 27] ++ [((b 9), .inl (cI, 64, .inl (S 9))), ((a 9), .inl (cI, 64, .inl (S13 9)))]) [0, 1, 2, 3, 4, 5, 6, 7, 8, 10, 11, 12, 13, 14, 15, 16, 17, 18, 19, 20, 21, 22, 24, 25, 26, 27, 23, 9] (by decide +kernel) rfl
  refine zV_S (pre := zpk (sW cI a S13 ++ sW cI b S) [0, 1, 2, 3, 4, 5, 6, 7, 8, 10, 11, 12, 13, 14, 15, 16, 17, 18, 19, 20, 21, 22, 24, 25, 26, 27]) (wc := [((b 9), .inl (cI, 64, .inl (S 9))), ((a 9), .inl (cI, 64, .inl (S13 9)))]) (post := []) (w1 := [((b 9), .inl (cI, 64, .inl (S 9))), ((a 9), .inl (cI, 64, .inl (S 9)))]) ⟨hx, hb, hml, hown, hts⟩ (c_X2_copyRow l dC dI cI (b 9) (a 9) (S 9) (S13 9)) (va_cwS 2 hts gX2_copyFrom_X2_copyRow rfl rfl rfl (by decide +kernel) ⟨Nat.le_of_ble_eq_true rfl, Nat.le_of_ble_eq_true rfl⟩) (List.append_nil _).symm hK hN hP9 hD9 hS hA rfl hl.1 rfl (Nat.le_of_ble_eq_true rfl) dX2_copyFrom_140 ⟨Nat.le_of_ble_eq_true rfl, Nat.le_of_ble_eq_true rfl⟩ (fun H locs hP hD hS => ?_)
  rw [List.append_nil] at hP hD
  have hP : va_P (dC, dI) vwCl (sW cI a S14 ++ sW cI b S) H := by rw [eS14]; exact hP.sub [0, 1, 2, 3, 4, 5, 6, 7, 8, 27, 9, 10, 11, 12, 13, 14, 15, 16, 17, 18, 19, 20, 21, 26, 22, 23, 24, 25] rfl
  have hD : va_D A (sW cI a S14 ++ sW cI b S) := by rw [eS14]; exact hD.sub [0, 1, 2, 3, 4, 5, 6, 7, 8, 27, 9, 10, 11, 12, 13, 14, 15, 16, 17, 18, 19, 20, 21, 26, 22, 23, 24, 25] (by decide +kernel) rfl
  refine lv_aload_n hx hb dX2_copyFrom_143 rfl (lv_at hl 1 rfl) ?_
  refine va_get (D := (dC, dI)) (ci := 2) (v := .ref (b 10)) (C := RX2) (T := TX2) (N := 18) hx hb hts hinX2 hown hK hP 14 rfl rfl 14 (by decide) hf39 (fun _ h9 => h9) rfl dX2_copyFrom_144 ?_
  refine lv_aload_n hx hb dX2_copyFrom_147 rfl (lv_at hl 0 rfl) ?_
  refine va_get (D := (dC, dI)) (ci := 2) (v := .ref (a 10)) (C := RX2) (T := TX2) (N := 18) hx hb hts hinX2 hown hK hP 0 rfl rfl 14 (by decide) hf39 (fun _ h9 => h9) rfl dX2_copyFrom_148 ?_
  obtain ⟨S15, eS15⟩ : ∃ z : sS, z = s_row S14 10 (S 10) := ⟨_, rfl⟩
  have hP9 := hP.sub (ws' := zpk (sW cI a S14 ++ sW cI b S) [0, 1, 2, 3, 4, 5, 6, 7, 8, 9, 11, 12, 13, 14, 15, 16, 17, 18, 19, 20, 21, 22, 23, 25, 26, 27] ++ [((b 10), .inl (cI, 64, .inl (S 10))), ((a 10), .inl (cI, 64, .inl (S14 10)))]) [0, 1, 2, 3, 4, 5, 6, 7, 8, 9, 11, 12, 13, 14, 15, 16, 17, 18, 19, 20, 21, 22, 23, 25, 26, 27, 24, 10] rfl
  have hD9 := hD.sub (ws' := zpk (sW cI a S14 ++ sW cI b S) [0, 1, 2, 3, 4, 5, 6, 7, 8, 9, 11, 12, 13, 14, 15, 16, 17, 18, 19, 20, 21, 22, 23, 25, 26, 27] ++ [((b 10), .inl (cI, 64, .inl (S 10))), ((a 10), .inl (cI, 64, .inl (S14 10)))]) [0, 1, 2, 3, 4, 5, 6, 7, 8, 9, 11, 12, 13, 14, 15, 16, 17, 18, 19, 20, 21, 22, 23, 25, 26, 27, 24, 10] (by decide +kernel) rfl
  refine zV_S (pre := zpk (sW cI a S14 ++ sW cI b S) [0, 1, 2, 3, 4, 5, 6, 7, 8, 9, 11, 12, 13, 14, 15, 16, 17, 18, 19, 20, 21, 22, 23, 25, 26, 27]) (wc := [((b 10), .inl (cI, 64, .inl (S 10))), ((a 10), .inl (cI, 64, .inl (S14 10)))]) (post := []) (w1 := [((b 10), .inl (cI, 64, .inl (S 10))), ((a 10), .inl (cI, 64, .inl (S 10)))]) ⟨hx, hb, hml, hown, hts⟩ (c_X2_copyRow l dC dI cI (b 10) (a 10) (S 10) (S14 10)) (va_cwS 2 hts gX2_copyFrom_X2_copyRow rfl rfl rfl (by decide +kernel) ⟨Nat.le_of_ble_eq_true rfl, Nat.le_of_ble_eq_true rfl⟩) (List.append_nil _).symm hK hN hP9 hD9 hS hA rfl hl.1 rfl (Nat.le_of_ble_eq_true rfl) dX2_copyFrom_151 ⟨Nat.le_of_ble_eq_true rfl, Nat.le_of_ble_eq_true rfl⟩ (fun H locs hP hD hS => ?_)
  rw [List.append_nil] at hP hD
  have hP : va_P (dC, dI) vwCl (sW cI a S15 ++ sW cI b S) H := by rw [eS15]; exact hP.sub [0, 1, 2, 3, 4, 5, 6, 7, 8, 9, 27, 10, 11, 12, 13, 14, 15, 16, 17, 18, 19, 20, 21, 22, 26, 23, 24, 25] rfl
  have hD : va_D A (sW cI a S15 ++ sW cI b S) := by rw [eS15]; exact hD.sub [0, 1, 2, 3, 4, 5, 6, 7, 8, 9, 27, 10, 11, 12, 13, 14, 15, 16, 17, 18, 19, 20, 21, 22, 26, 23, 24, 25] (by decide +kernel) rfl
  refine lv_aload_n hx hb dX2_copyFrom_154 rfl (lv_at hl 1 rfl) ?_
  refine va_get (D := (dC, dI)) (ci := 2) (v := .ref (b 11)) (C := RX2) (T := TX2) (N := 18) hx hb hts hinX2 hown hK hP 14 rfl rfl 15 (by decide) hf42 (fun _ h9 => h9) rfl dX2_copyFrom_155 ?_
  refine lv_aload_n hx hb dX2_copyFrom_158 rfl (lv_at hl 0 rfl) ?_
  refine va_get (D := (dC, dI)) (ci := 2) (v := .ref (a 11)) (C := RX2) (T := TX2) (N := 18) hx hb hts hinX2 hown hK hP 0 rfl rfl 15 (by decide) hf42 (fun _ h9 => h9) rfl dX2_copyFrom_159 ?_
  obtain ⟨S16, eS16⟩ : ∃ z : sS, z = s_row S15 11 (S 11) := ⟨_, rfl⟩
  have hP9 := hP.sub (ws' := zpk (sW cI a S15 ++ sW cI b S) [0, 1, 2, 3, 4, 5, 6, 7, 8, 9, 10, 12, 13, 14, 15, 16, 17, 18, 19, 20, 21, 22, 23, 24, 26, 27] ++ [((b 11), .inl (cI, 64, .inl (S 11))), ((a 11), .inl (cI, 64, .inl (S15 11)))]) [0, 1, 2, 3, 4, 5, 6, 7, 8, 9, 10, 12, 13, 14, 15, 16, 17, 18, 19, 20, 21, 22, 23, 24, 26, 27, 25, 11] rfl
  have hD9 := hD.sub (ws' := zpk (sW cI a S15 ++ sW cI b S) [0, 1, 2, 3, 4, 5, 6, 7, 8, 9, 10, 12, 13, 14, 15, 16, 17, 18, 19, 20, 21, 22, 23, 24, 26, 27] ++ [((b 11), .inl (cI, 64, .inl (S 11))), ((a 11), .inl (cI, 64, .inl (S15 11)))]) [0, 1, 2, 3, 4, 5, 6, 7, 8, 9, 10, 12, 13, 14, 15, 16, 17, 18, 19, 20, 21, 22, 23, 24, 26, 27, 25, 11] (by decide +kernel) rfl
  refine zV_S (pre := zpk (sW cI a S15 ++ sW cI b S) [0, 1, 2, 3, 4, 5, 6, 7, 8, 9, 10, 12, 13, 14, 15, 16, 17, 18, 19, 20, 21, 22, 23, 24, 26, 27]) (wc := [((b 11), .inl (cI, 64, .inl (S 11))), ((a 11), .inl (cI, 64, .inl (S15 11)))]) (post := []) (w1 := [((b 11), .inl (cI, 64, .inl (S 11))), ((a 11), .inl (cI, 64, .inl (S 11)))]) ⟨hx, hb, hml, hown, hts⟩ (c_X2_copyRow l dC dI cI (b 11) (a 11) (S 11) (S15 11)) (va_cwS 2 hts gX2_copyFrom_X2_copyRow rfl rfl rfl (by decide +kernel) ⟨Nat.le_of_ble_eq_true rfl, Nat.le_of_ble_eq_true rfl⟩) (List.append_nil _).symm hK hN hP9 hD9 hS hA rfl hl.1 rfl (Nat.le_of_ble_eq_true rfl) dX2_copyFrom_162 ⟨Nat.le_of_ble_eq_true rfl, Nat.le_of_ble_eq_true rfl⟩ (fun H locs hP hD hS => ?_)
  rw [List.append_nil] at hP hD
  have hP : va_P (dC, dI) vwCl (sW cI a S16 ++ sW cI b S) H := by rw [eS16]; exact hP.sub [0, 1, 2, 3, 4, 5, 6, 7, 8, 9, 10, 27, 11, 12, 13, 14, 15, 16, 17, 18, 19, 20, 21, 22, 23, 26, 24, 25] rfl
  have hD : va_D A (sW cI a S16 ++ sW cI b S) := by rw [eS16]; exact hD.sub [0, 1, 2, 3, 4, 5, 6, 7, 8, 9, 10, 27, 11, 12, 13, 14, 15, 16, 17, 18, 19, 20, 21, 22, 23, 26, 24, 25] (by decide +kernel) rfl
  refine lv_aload_n hx hb dX2_copyFrom_165 rfl (lv_at hl 1 rfl) ?_
  refine va_get (D := (dC, dI)) (ci := 2) (v := .ref (b 12)) (C := RX2) (T := TX2) (N := 18) hx hb hts hinX2 hown hK hP 14 rfl rfl 16 (by decide) hf45 (fun _ h9 => h9) rfl dX2_copyFrom_166 ?_
  refine lv_aload_n hx hb dX2_copyFrom_169 rfl (lv_at hl 0 rfl) ?_
  refine va_get (D := (dC, dI)) (ci := 2) (v := .ref (a 12)) (C := RX2) (T := TX2) (N := 18) hx hb hts hinX2 hown hK hP 0 rfl rfl 16 (by decide) hf45 (fun _ h9 => h9) rfl dX2_copyFrom_170 ?_
  obtain ⟨S17, eS17⟩ : ∃ z : sS, z = s_row S16 12 (S 12) := ⟨_, rfl⟩
  have hP9 := hP.sub (ws' := zpk (sW cI a S16 ++ sW cI b S) [0, 1, 2, 3, 4, 5, 6, 7, 8, 9, 10, 11, 13, 14, 15, 16, 17, 18, 19, 20, 21, 22, 23, 24, 25, 27] ++ [((b 12), .inl (cI, 64, .inl (S 12))), ((a 12), .inl (cI, 64, .inl (S16 12)))]) [0, 1, 2, 3, 4, 5, 6, 7, 8, 9, 10, 11, 13, 14, 15, 16, 17, 18, 19, 20, 21, 22, 23, 24, 25, 27, 26, 12] rfl
  have hD9 := hD.sub (ws' := zpk (sW cI a S16 ++ sW cI b S) [0, 1, 2, 3, 4, 5, 6, 7, 8, 9, 10, 11, 13, 14, 15, 16, 17, 18, 19, 20, 21, 22, 23, 24, 25, 27] ++ [((b 12), .inl (cI, 64, .inl (S 12))), ((a 12), .inl (cI, 64, .inl (S16 12)))]) [0, 1, 2, 3, 4, 5, 6, 7, 8, 9, 10, 11, 13, 14, 15, 16, 17, 18, 19, 20, 21, 22, 23, 24, 25, 27, 26, 12] (by decide +kernel) rfl
  refine zV_S (pre := zpk (sW cI a S16 ++ sW cI b S) [0, 1, 2, 3, 4, 5, 6, 7, 8, 9, 10, 11, 13, 14, 15, 16, 17, 18, 19, 20, 21, 22, 23, 24, 25, 27]) (wc := [((b 12), .inl (cI, 64, .inl (S 12))), ((a 12), .inl (cI, 64, .inl (S16 12)))]) (post := []) (w1 := [((b 12), .inl (cI, 64, .inl (S 12))), ((a 12), .inl (cI, 64, .inl (S 12)))]) ⟨hx, hb, hml, hown, hts⟩ (c_X2_copyRow l dC dI cI (b 12) (a 12) (S 12) (S16 12)) (va_cwS 2 hts gX2_copyFrom_X2_copyRow rfl rfl rfl (by decide +kernel) ⟨Nat.le_of_ble_eq_true rfl, Nat.le_of_ble_eq_true rfl⟩) (List.append_nil _).symm hK hN hP9 hD9 hS hA rfl hl.1 rfl (Nat.le_of_ble_eq_true rfl) dX2_copyFrom_173 ⟨Nat.le_of_ble_eq_true rfl, Nat.le_of_ble_eq_true rfl⟩ (fun H locs hP hD hS => ?_)
  rw [List.append_nil] at hP hD
  have hP : va_P (dC, dI) vwCl (sW cI a S17 ++ sW cI b S) H := by rw [eS17]; exact hP.sub [0, 1, 2, 3, 4, 5, 6, 7, 8, 9, 10, 11, 27, 12, 13, 14, 15, 16, 17, 18, 19, 20, 21, 22, 23, 24, 26, 25] rfl
  have hD : va_D A (sW cI a S17 ++ sW cI b S) := by rw [eS17]; exact hD.sub [0, 1, 2, 3, 4, 5, 6, 7, 8, 9, 10, 11, 27, 12, 13, 14, 15, 16, 17, 18, 19, 20, 21, 22, 23, 24, 26, 25] (by decide +kernel) rfl
  refine lv_aload_n hx hb dX2_copyFrom_176 rfl (lv_at hl 1 rfl) ?_
  refine va_get (D := (dC, dI)) (ci := 2) (v := .ref (b 13)) (C := RX2) (T := TX2) (N := 18) hx hb hts hinX2 hown hK hP 14 rfl rfl 17 (by decide) hf48 (fun _ h9 => h9) rfl dX2_copyFrom_177 ?_
  refine lv_aload_n hx hb dX2_copyFrom_180 rfl (lv_at hl 0 rfl) ?_
  refine va_get (D := (dC, dI)) (ci := 2) (v := .ref (a 13)) (C := RX2) (T := TX2) (N := 18) hx hb hts hinX2 hown hK hP 0 rfl rfl 17 (by decide) hf48 (fun _ h9 => h9) rfl dX2_copyFrom_181 ?_
  obtain ⟨S18, eS18⟩ : ∃ z : sS, z = s_row S17 13 (S 13) := ⟨_, rfl⟩
  have hP9 := hP.sub (ws' := zpk (sW cI a S17 ++ sW cI b S) [0, 1, 2, 3, 4, 5, 6, 7, 8, 9, 10, 11, 12, 14, 15, 16, 17, 18, 19, 20, 21, 22, 23, 24, 25, 26] ++ [((b 13), .inl (cI, 64, .inl (S 13))), ((a 13), .inl (cI, 64, .inl (S17 13)))]) [0, 1, 2, 3, 4, 5, 6, 7, 8, 9, 10, 11, 12, 14, 15, 16, 17, 18, 19, 20, 21, 22, 23, 24, 25, 26, 27, 13] rfl
  have hD9 := hD.sub (ws' := zpk (sW cI a S17 ++ sW cI b S) [0, 1, 2, 3, 4, 5, 6, 7, 8, 9, 10, 11, 12, 14, 15, 16, 17, 18, 19, 20, 21, 22, 23, 24, 25, 26] ++ [((b 13), .inl (cI, 64, .inl (S 13))), ((a 13), .inl (cI, 64, .inl (S17 13)))]) [0, 1, 2, 3, 4, 5, 6, 7, 8, 9, 10, 11, 12, 14, 15, 16, 17, 18, 19, 20, 21, 22, 23, 24, 25, 26, 27, 13] (by decide +kernel) rfl
  refine zV_S (pre := zpk (sW cI a S17 ++ sW cI b S) [0, 1, 2, 3, 4, 5, 6, 7, 8, 9, 10, 11, 12, 14, 15, 16, 17, 18, 19, 20, 21, 22, 23, 24, 25, 26]) (wc := [((b 13), .inl (cI, 64, .inl (S 13))), ((a 13), .inl (cI, 64, .inl (S17 13)))]) (post := []) (w1 := [((b 13), .inl (cI, 64, .inl (S 13))), ((a 13), .inl (cI, 64, .inl (S 13)))]) ⟨hx, hb, hml, hown, hts⟩ (c_X2_copyRow l dC dI cI (b 13) (a 13) (S 13) (S17 13)) (va_cwS 2 hts gX2_copyFrom_X2_copyRow rfl rfl rfl (by decide +kernel) ⟨Nat.le_of_ble_eq_true rfl, Nat.le_of_ble_eq_true rfl⟩) (List.append_nil _).symm hK hN hP9 hD9 hS hA rfl hl.1 rfl (Nat.le_of_ble_eq_true rfl) dX2_copyFrom_184 ⟨Nat.le_of_ble_eq_true rfl, Nat.le_of_ble_eq_true rfl⟩ (fun H locs hP hD hS => ?_)
  rw [List.append_nil] at hP hD
  have hP : va_P (dC, dI) vwCl (sW cI a S18 ++ sW cI b S) H := by rw [eS18]; exact hP.sub [0, 1, 2, 3, 4, 5, 6, 7, 8, 9, 10, 11, 12, 27, 13, 14, 15, 16, 17, 18, 19, 20, 21, 22, 23, 24, 25, 26] rfl
  have hD : va_D A (sW cI a S18 ++ sW cI b S) := by rw [eS18]; exact hD.sub [0, 1, 2, 3, 4, 5, 6, 7, 8, 9, 10, 11, 12, 27, 13, 14, 15, 16, 17, 18, 19, 20, 21, 22, 23, 24, 25, 26] (by decide +kernel) rfl
  have hE : sEq S18 S := by
    refine cpy_eq (T := T) ?_
    rw [eS18, eS17, eS16, eS15, eS14, eS13, eS12, eS11, eS10, eS9, eS8, eS7, eS6, eS5, eS4, eS3, eS2, eS1]; rfl
  have hP : va_P (dC, dI) vwCl (sW cI a S ++ sW cI b S) H := z_Pap (sW_eq hE (z_Pl hP)) (z_Pr hP)
  have hD : va_D A (sW cI a S ++ sW cI b S) := z_Dmap hD rfl
  exact zV_ret hx hb hr hlocks hP hD hS dX2_copyFrom_187

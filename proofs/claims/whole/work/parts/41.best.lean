set_option maxHeartbeats 4000000 in
set_option maxRecDepth 100000 in
theorem c_X3_findBestMove (l : Launch) (dC : Nat → ClassId) (dI : Nat → Nat → Nat) (cI : ClassId) (k b t : Nat → Nat) (h w : Nat) (M B S T : sS) (d n : Nat) (hG0 : geo h w S) (hd : S 0 2 = nI d) (hdn : d + n < 1000000) (hbk : bkok S) : zV l yX3_findBestMove wsX3_findBestMove { frames := 5, cells := 0, slots := 0, locals := 116 } (dC, dI) cI [.ref (k 0), .int (nI n)] (oW k b t M ++ kW cI k M ++ bW k B ++ sW cI b S ++ sW cI t T) (oW k b t M ++ kW cI k M ++ bW k ((x3_best h w M B S n).1) ++ sW cI b S ++ sW cI t ((x3_best h w M B S n).2)) := by
  refine zV_of (cc := cX3_findBestMove) (maxL := 6) (ret := none) (by decide) rfl (Nat.le_of_ble_eq_true rfl) ?_
  intro p e s m below meth c A ls C0 hl
  obtain ⟨hx, hb, hr, hml, hown, hts, hlocks, hK, hN, hA, hP, hD, hS⟩ := C0
  have hown : s.vm.findClass RX3 = some m.cls := hown
  have hl : lv_has ls 6 [(0, .ref (k 0)), (1, .int (nI n))] := hl
  have hf10 := hts (.fieldLink RX3 10 "PaddyTerraces" "calendar" "LPaddyTerraces$Calendar;") (by decide +kernel)
  have hf21 := hts (.fieldLink RX3 21 "PaddyTerraces" "slope" "LPaddyTerraces$Slope;") (by decide +kernel)
  have hf25 := hts (.fieldLink RX3 25 "PaddyTerraces" "trial" "LPaddyTerraces$Slope;") (by decide +kernel)
  have hf31 := hts (.fieldLink RX3 31 "PaddyTerraces" "best" "LPaddyTerraces$Move;") (by decide +kernel)
  have hf75 := hts (.fieldLink RX3 75 "PaddyTerraces$Slope" "bank" "[I") (by decide +kernel)
  have hf82 := hts (.fieldLink RX3 82 "PaddyTerraces$Slope" "stone" "[I") (by decide +kernel)
  have hf203 := hts (.fieldLink RX3 203 "PaddyTerraces$Slope" "w" "I") (by decide +kernel)
  have hf206 := hts (.fieldLink RX3 206 "PaddyTerraces$Slope" "h" "I") (by decide +kernel)
  have hinX2 : ∀ w ∈ wsX20, w ∈ wsX3_findBestMove := by decide +kernel
  have hinX3 : ∀ w ∈ wsX30, w ∈ wsX3_findBestMove := by decide +kernel
  have hS0 := hS
  have hN64 := geo_hw hG0
  obtain ⟨-, -, hh2, hh8, hw2, hw8⟩ := id hG0
  refine lv_aload_n hx hb dX3_findBestMove_0 rfl (lv_at hl 0 rfl) ?_
  refine va_get (D := (dC, dI)) (ci := 3) (v := .ref (t 0)) (C := RX3) (T := TX3) (N := 6) hx hb hts hinX3 hown hK hP 0 rfl rfl 2 (by decide) hf25 (fun _ h9 => h9) rfl dX3_findBestMove_1 ?_
  refine lv_aload_n hx hb dX3_findBestMove_4 rfl (lv_at hl 0 rfl) ?_
  refine va_get (D := (dC, dI)) (ci := 3) (v := .ref (b 0)) (C := RX3) (T := TX3) (N := 6) hx hb hts hinX3 hown hK hP 0 rfl rfl 1 (by decide) hf21 (fun _ h9 => h9) rfl dX3_findBestMove_5 ?_
  have hP : va_P (dC, dI) vwCl (oW k b t M ++ kW cI k M ++ bW k B ++ sW cI t T ++ sW cI b S) _ := hP.sub (ws' := oW k b t M ++ kW cI k M ++ bW k B ++ sW cI t T ++ sW cI b S) [0, 1, 2, 3, 4, 5, 20, 21, 22, 23, 24, 25, 26, 27, 28, 29, 30, 31, 32, 33, 6, 7, 8, 9, 10, 11, 12, 13, 14, 15, 16, 17, 18, 19] rfl
  have hD : va_D A (oW k b t M ++ kW cI k M ++ bW k B ++ sW cI t T ++ sW cI b S) := hD.sub (ws' := oW k b t M ++ kW cI k M ++ bW k B ++ sW cI t T ++ sW cI b S) [0, 1, 2, 3, 4, 5, 20, 21, 22, 23, 24, 25, 26, 27, 28, 29, 30, 31, 32, 33, 6, 7, 8, 9, 10, 11, 12, 13, 14, 15, 16, 17, 18, 19] (by decide +kernel) rfl
  obtain ⟨S1, eS1⟩ : ∃ z : sS, z = S := ⟨_, rfl⟩
  refine zV_V (pre := (oW k b t M ++ kW cI k M ++ bW k B)) (wc := sW cI t T ++ sW cI b S) (post := ([] : va_W)) (w1 := sW cI t S1 ++ sW cI b S) ⟨hx, hb, hml, hown, hts⟩ (by rw [eS1]; exact c_X2_copyFrom l dC dI cI t b S T) (cwV 1 hts gX3_findBestMove_X2_copyFrom rfl rfl rfl (by decide +kernel) ⟨Nat.le_of_ble_eq_true rfl, Nat.le_of_ble_eq_true rfl⟩) (by simp only [List.append_assoc, List.append_nil, List.nil_append]) hK hN (ci := 2) (q0 := 0) rfl rfl rfl hP hD hS hA rfl hl.1 rfl (Nat.le_of_ble_eq_true rfl) dX3_findBestMove_8 ⟨Nat.le_of_ble_eq_true rfl, Nat.le_of_ble_eq_true rfl⟩ (fun H locs hP hD hS => ?_)
  have hP : va_P (dC, dI) vwCl (oW k b t M ++ kW cI k M ++ bW k B ++ sW cI t S1 ++ sW cI b S) H := by simpa only [List.append_assoc, List.append_nil, List.nil_append] using hP
  have hD : va_D A (oW k b t M ++ kW cI k M ++ bW k B ++ sW cI t S1 ++ sW cI b S) := by simpa only [List.append_assoc, List.append_nil, List.nil_append] using hD
  have hGS1 : geo h w S1 := by rw [eS1]; exact hG0
  refine lv_aload_n hx hb dX3_findBestMove_11 rfl (lv_at hl 0 rfl) ?_
  refine va_get (D := (dC, dI)) (ci := 3) (v := .ref (t 0)) (C := RX3) (T := TX3) (N := 6) hx hb hts hinX3 hown hK hP 0 rfl rfl 2 (by decide) hf25 (fun _ h9 => h9) rfl dX3_findBestMove_12 ?_
  refine lv_iload_n hx hb dX3_findBestMove_15 rfl (lv_at hl 1 rfl) ?_
  refine lv_aload_n hx hb dX3_findBestMove_16 rfl (lv_at hl 0 rfl) ?_
  refine va_get (D := (dC, dI)) (ci := 3) (v := .ref (k 1)) (C := RX3) (T := TX3) (N := 6) hx hb hts hinX3 hown hK hP 0 rfl rfl 0 (by decide) hf10 (fun _ h9 => h9) rfl dX3_findBestMove_17 ?_
  have hP : va_P (dC, dI) vwCl (oW k b t M ++ bW k B ++ sW cI b S ++ sW cI t S1 ++ kW cI k M) _ := hP.sub (ws' := oW k b t M ++ bW k B ++ sW cI b S ++ sW cI t S1 ++ kW cI k M) [0, 5, 20, 21, 22, 23, 24, 25, 26, 27, 28, 29, 30, 31, 32, 33, 6, 7, 8, 9, 10, 11, 12, 13, 14, 15, 16, 17, 18, 19, 1, 2, 3, 4] rfl
  have hD : va_D A (oW k b t M ++ bW k B ++ sW cI b S ++ sW cI t S1 ++ kW cI k M) := hD.sub (ws' := oW k b t M ++ bW k B ++ sW cI b S ++ sW cI t S1 ++ kW cI k M) [0, 5, 20, 21, 22, 23, 24, 25, 26, 27, 28, 29, 30, 31, 32, 33, 6, 7, 8, 9, 10, 11, 12, 13, 14, 15, 16, 17, 18, 19, 1, 2, 3, 4] (by decide +kernel) rfl
  obtain ⟨S2, eS2⟩ : ∃ z : sS, z = sl_days h w M S1 n := ⟨_, rfl⟩
  refine zV_V (pre := (oW k b t M ++ bW k B ++ sW cI b S)) (wc := sW cI t S1 ++ kW cI k M) (post := ([] : va_W)) (w1 := sW cI t S2 ++ kW cI k M) ⟨hx, hb, hml, hown, hts⟩ (by rw [eS2]; exact c_X2_letDaysGoBy l dC dI cI t k h w d n S1 M hGS1 (by rw [eS1]; exact hd) hdn) (cwV 2 hts gX3_findBestMove_X2_letDaysGoBy rfl rfl rfl (by decide +kernel) ⟨Nat.le_of_ble_eq_true rfl, Nat.le_of_ble_eq_true rfl⟩) (by simp only [List.append_assoc, List.append_nil, List.nil_append]) hK hN (ci := 2) (q0 := 0) rfl rfl rfl hP hD hS hA rfl hl.1 rfl (Nat.le_of_ble_eq_true rfl) dX3_findBestMove_20 ⟨Nat.le_of_ble_eq_true rfl, Nat.le_of_ble_eq_true rfl⟩ (fun H locs hP hD hS => ?_)
  have hP : va_P (dC, dI) vwCl (oW k b t M ++ bW k B ++ sW cI b S ++ sW cI t S2 ++ kW cI k M) H := by simpa only [List.append_assoc, List.append_nil, List.nil_append] using hP
  have hD : va_D A (oW k b t M ++ bW k B ++ sW cI b S ++ sW cI t S2 ++ kW cI k M) := by simpa only [List.append_assoc, List.append_nil, List.nil_append] using hD
  have hGS2 : geo h w S2 := by rw [eS2]; exact geo_days hGS1 M n
  refine lv_aload_n hx hb dX3_findBestMove_23 rfl (lv_at hl 0 rfl) ?_
  refine va_get (D := (dC, dI)) (ci := 3) (v := .ref (k 5)) (C := RX3) (T := TX3) (N := 6) hx hb hts hinX3 hown hK hP 0 rfl rfl 3 (by decide) hf31 (fun _ h9 => h9) rfl dX3_findBestMove_24 ?_
  refine lv_aload_n hx hb dX3_findBestMove_27 rfl (lv_at hl 0 rfl) ?_
  refine va_get (D := (dC, dI)) (ci := 3) (v := .ref (t 0)) (C := RX3) (T := TX3) (N := 6) hx hb hts hinX3 hown hK hP 0 rfl rfl 2 (by decide) hf25 (fun _ h9 => h9) rfl dX3_findBestMove_28 ?_
  refine zI_V (pre := (oW k b t M ++ bW k B ++ sW cI b S)) (wc := sW cI t S2) (post := (kW cI k M)) (w1 := sW cI t S2) ⟨hx, hb, hml, hown, hts⟩ (c_X2_crops l dC dI cI t h w S2 hGS2) (cwV 0 hts gX3_findBestMove_X2_crops rfl rfl rfl (by decide +kernel) ⟨Nat.le_of_ble_eq_true rfl, Nat.le_of_ble_eq_true rfl⟩) (by simp only [List.append_assoc, List.append_nil, List.nil_append]) hK hN (ci := 2) (q0 := 0) rfl rfl rfl hP hD hS hA rfl hl.1 rfl (Nat.le_of_ble_eq_true rfl) dX3_findBestMove_31 ⟨Nat.le_of_ble_eq_true rfl, Nat.le_of_ble_eq_true rfl⟩ (fun H locs hP hD hS => ?_)
  have hP : va_P (dC, dI) vwCl (oW k b t M ++ bW k B ++ sW cI b S ++ sW cI t S2 ++ kW cI k M) H := by simpa only [List.append_assoc, List.append_nil, List.nil_append] using hP
  have hD : va_D A (oW k b t M ++ bW k B ++ sW cI b S ++ sW cI t S2 ++ kW cI k M) := by simpa only [List.append_assoc, List.append_nil, List.nil_append] using hD
  refine lv_aload_n hx hb dX3_findBestMove_34 rfl (lv_at hl 0 rfl) ?_
  refine va_get (D := (dC, dI)) (ci := 3) (v := .ref (t 0)) (C := RX3) (T := TX3) (N := 6) hx hb hts hinX3 hown hK hP 0 rfl rfl 2 (by decide) hf25 (fun _ h9 => h9) rfl dX3_findBestMove_35 ?_
  refine zI_V (pre := (oW k b t M ++ bW k B ++ sW cI b S)) (wc := sW cI t S2) (post := (kW cI k M)) (w1 := sW cI t S2) ⟨hx, hb, hml, hown, hts⟩ (c_X2_allHardness l dC dI cI t h w S2 hGS2) (cwV 0 hts gX3_findBestMove_X2_allHardness rfl rfl rfl (by decide +kernel) ⟨Nat.le_of_ble_eq_true rfl, Nat.le_of_ble_eq_true rfl⟩) (by simp only [List.append_assoc, List.append_nil, List.nil_append]) hK hN (ci := 2) (q0 := 0) rfl rfl rfl hP hD hS hA rfl hl.1 rfl (Nat.le_of_ble_eq_true rfl) dX3_findBestMove_38 ⟨Nat.le_of_ble_eq_true rfl, Nat.le_of_ble_eq_true rfl⟩ (fun H locs hP hD hS => ?_)
  have hP : va_P (dC, dI) vwCl (oW k b t M ++ bW k B ++ sW cI b S ++ sW cI t S2 ++ kW cI k M) H := by simpa only [List.append_assoc, List.append_nil, List.nil_append] using hP
  have hD : va_D A (oW k b t M ++ bW k B ++ sW cI b S ++ sW cI t S2 ++ kW cI k M) := by simpa only [List.append_assoc, List.append_nil, List.nil_append] using hD
  obtain ⟨S3, eS3⟩ : ∃ z : sS, z = mv_set B (-1) (-1) (-1) (sl_sum h w S2 7) (sl_sum h w S2 9) := ⟨_, rfl⟩
  refine zV_V (pre := (oW k b t M)) (wc := bW k B) (post := (sW cI b S ++ sW cI t S2 ++ kW cI k M)) (w1 := bW k S3) ⟨hx, hb, hml, hown, hts⟩ (by rw [eS3]; exact c_X1_becomeLeaving l dC dI cI k B (sl_sum h w S2 7) (sl_sum h w S2 9)) (cwV 2 hts gX3_findBestMove_X1_becomeLeaving rfl rfl rfl (by decide +kernel) ⟨Nat.le_of_ble_eq_true rfl, Nat.le_of_ble_eq_true rfl⟩) (by simp only [List.append_assoc, List.append_nil, List.nil_append]) hK hN (ci := 1) (q0 := 0) rfl rfl rfl hP hD hS hA rfl hl.1 rfl (Nat.le_of_ble_eq_true rfl) dX3_findBestMove_41 ⟨Nat.le_of_ble_eq_true rfl, Nat.le_of_ble_eq_true rfl⟩ (fun H locs hP hD hS => ?_)
  have hP : va_P (dC, dI) vwCl (oW k b t M ++ bW k S3 ++ sW cI b S ++ sW cI t S2 ++ kW cI k M) H := by simpa only [List.append_assoc, List.append_nil, List.nil_append] using hP
  have hD : va_D A (oW k b t M ++ bW k S3 ++ sW cI b S ++ sW cI t S2 ++ kW cI k M) := by simpa only [List.append_assoc, List.append_nil, List.nil_append] using hD
  refine lv_iconst (v := 0) hx hb dX3_findBestMove_44 (by decide) ?_
  refine lv_istore_n (lv' := [(2, .int 0), (0, .ref (k 0)), (1, .int (nI n))]) hx hb dX3_findBestMove_45 rfl hl (by decide) rfl (fun ls hl => ?_)
  have lp46 : ∀ (n46 i46 : Nat) (T46_0 : sS) (T46_1 : sS) (H : Heap) (locs : List Loc) (ls : Array Slot), i46 + n46 = h → (T46_0, T46_1) = itr (x3_t h w M S n) i46 (S3, S2) → va_P (dC, dI) vwCl (oW k b t M ++ bW k T46_0 ++ sW cI b S ++ sW cI t T46_1 ++ kW cI k M) H → va_D A (oW k b t M ++ bW k T46_0 ++ sW cI b S ++ sW cI t T46_1 ++ kW cI k M) → va_S A s.heap H locs → lv_has ls 6 [(0, .ref (k 0)), (1, .int (nI n)), (2, .int (nI i46))] → W p l e ({ frames := 5, cells := 0, slots := 0, locals := 116 } : Room) s m [.ref (k 0), .int (nI n)].toArray below meth c H locs 0 0 (zVq (dC, dI) A (oW k b t M ++ kW cI k M ++ bW k ((x3_best h w M B S n).1) ++ sW cI b S ++ sW cI t ((x3_best h w M B S n).2)) below [.ref (k 0), .int (nI n)].toArray s 0 0) (F0 m 46 ls []) := by
    intro n46
    induction n46 with
    | zero =>
      intro i46 T46_0 T46_1 H locs ls hi46 eT46_0 hP hD hS hl
      have hi46 : i46 = h := by omega
      rw [hi46] at eT46_0
      refine lv_iload_n hx hb dX3_findBestMove_46 rfl (lv_at hl 2 rfl) ?_
      refine lv_aload_n hx hb dX3_findBestMove_47 rfl (lv_at hl 0 rfl) ?_
      refine va_get (D := (dC, dI)) (ci := 3) (v := .ref (b 0)) (C := RX3) (T := TX3) (N := 6) hx hb hts hinX3 hown hK hP 0 rfl rfl 1 (by decide) hf21 (fun _ h9 => h9) rfl dX3_findBestMove_48 ?_
      refine va_get (D := (dC, dI)) (ci := 2) (v := .int (S 0 0)) (C := RX2) (T := TX2) (N := 18) hx hb hts hinX2 hown hK hP 2 rfl rfl 0 (by decide) hf206 (fun _ h9 => h9) rfl dX3_findBestMove_51 ?_
      refine lv_icmp_ge (tgt := 177) hx hb dX3_findBestMove_54 (by decide) (fun c_4 => ?_) (fun c_4 => ?_)
      · have hP : va_P (dC, dI) vwCl (oW k b t M ++ kW cI k M ++ bW k T46_0 ++ sW cI b S ++ sW cI t T46_1) _ := hP.sub (ws' := oW k b t M ++ kW cI k M ++ bW k T46_0 ++ sW cI b S ++ sW cI t T46_1) [0, 30, 31, 32, 33, 1, 2, 3, 4, 5, 6, 7, 8, 9, 10, 11, 12, 13, 14, 15, 16, 17, 18, 19, 20, 21, 22, 23, 24, 25, 26, 27, 28, 29] rfl
        have hD : va_D A (oW k b t M ++ kW cI k M ++ bW k T46_0 ++ sW cI b S ++ sW cI t T46_1) := hD.sub (ws' := oW k b t M ++ kW cI k M ++ bW k T46_0 ++ sW cI b S ++ sW cI t T46_1) [0, 30, 31, 32, 33, 1, 2, 3, 4, 5, 6, 7, 8, 9, 10, 11, 12, 13, 14, 15, 16, 17, 18, 19, 20, 21, 22, 23, 24, 25, 26, 27, 28, 29] (by decide +kernel) rfl
        have hZ : T46_0 = (x3_best h w M B S n).1 := (by have h9 : (T46_0, T46_1) = x3_best h w M B S n := (by rw [eT46_0, eS3, eS2, eS1]; rfl); exact congrArg Prod.fst h9)
        rw [hZ] at hP hD
        have hZ : T46_1 = (x3_best h w M B S n).2 := (by have h9 : (T46_0, T46_1) = x3_best h w M B S n := (by rw [eT46_0, eS3, eS2, eS1]; rfl); exact congrArg Prod.snd h9)
        rw [hZ] at hP hD
        exact zV_ret hx hb hr hlocks hP hD hS dX3_findBestMove_177
      · exact absurd (by rw [show _ = nI (h) from hG0.1]; exact nI_le (by omega) (by omega)) c_4
    | succ n46 ih46 =>
      intro i46 T46_0 T46_1 H locs ls hi46 eT46_0 hP hD hS hl
      refine lv_iload_n hx hb dX3_findBestMove_46 rfl (lv_at hl 2 rfl) ?_
      refine lv_aload_n hx hb dX3_findBestMove_47 rfl (lv_at hl 0 rfl) ?_
      refine va_get (D := (dC, dI)) (ci := 3) (v := .ref (b 0)) (C := RX3) (T := TX3) (N := 6) hx hb hts hinX3 hown hK hP 0 rfl rfl 1 (by decide) hf21 (fun _ h9 => h9) rfl dX3_findBestMove_48 ?_
      refine va_get (D := (dC, dI)) (ci := 2) (v := .int (S 0 0)) (C := RX2) (T := TX2) (N := 18) hx hb hts hinX2 hown hK hP 2 rfl rfl 0 (by decide) hf206 (fun _ h9 => h9) rfl dX3_findBestMove_51 ?_
      refine lv_icmp_ge (tgt := 177) hx hb dX3_findBestMove_54 (by decide) (fun c_5 => ?_) (fun c_5 => ?_)
      · exact absurd c_5 (by rw [show _ = nI (h) from hG0.1]; exact nI_ge (by omega) (by omega))
      · refine lv_iconst (v := 0) hx hb dX3_findBestMove_57 (by decide) ?_
        refine lv_istore_n (lv' := [(3, .int 0), (0, .ref (k 0)), (1, .int (nI n)), (2, .int (nI i46))]) hx hb dX3_findBestMove_58 rfl hl (by decide) rfl (fun ls hl => ?_)
        have lp59 : ∀ (n59 i59 : Nat) (T59_0 : sS) (T59_1 : sS) (H : Heap) (locs : List Loc) (ls : Array Slot), i59 + n59 = w → (T59_0, T59_1) = itr (x3_f h w M S n (nI i46)) i59 (T46_0, T46_1) → va_P (dC, dI) vwCl (oW k b t M ++ bW k T59_0 ++ sW cI b S ++ sW cI t T59_1 ++ kW cI k M) H → va_D A (oW k b t M ++ bW k T59_0 ++ sW cI b S ++ sW cI t T59_1 ++ kW cI k M) → va_S A s.heap H locs → lv_has ls 6 [(0, .ref (k 0)), (1, .int (nI n)), (2, .int (nI i46)), (3, .int (nI i59))] → W p l e ({ frames := 5, cells := 0, slots := 0, locals := 116 } : Room) s m [.ref (k 0), .int (nI n)].toArray below meth c H locs 0 0 (zVq (dC, dI) A (oW k b t M ++ kW cI k M ++ bW k ((x3_best h w M B S n).1) ++ sW cI b S ++ sW cI t ((x3_best h w M B S n).2)) below [.ref (k 0), .int (nI n)].toArray s 0 0) (F0 m 59 ls []) := by
          intro n59
          induction n59 with
          | zero =>
            intro i59 T59_0 T59_1 H locs ls hi59 eT59_0 hP hD hS hl
            have hi59 : i59 = w := by omega
            rw [hi59] at eT59_0
            refine lv_iload_n hx hb dX3_findBestMove_59 rfl (lv_at hl 3 rfl) ?_
            refine lv_aload_n hx hb dX3_findBestMove_60 rfl (lv_at hl 0 rfl) ?_
            refine va_get (D := (dC, dI)) (ci := 3) (v := .ref (b 0)) (C := RX3) (T := TX3) (N := 6) hx hb hts hinX3 hown hK hP 0 rfl rfl 1 (by decide) hf21 (fun _ h9 => h9) rfl dX3_findBestMove_61 ?_
            refine va_get (D := (dC, dI)) (ci := 2) (v := .int (S 0 1)) (C := RX2) (T := TX2) (N := 18) hx hb hts hinX2 hown hK hP 2 rfl rfl 1 (by decide) hf203 (fun _ h9 => h9) rfl dX3_findBestMove_64 ?_
            refine lv_icmp_ge (tgt := 171) hx hb dX3_findBestMove_67 (by decide) (fun c_6 => ?_) (fun c_6 => ?_)
            · refine lv_iinc (v := nI (i46 + 1)) (lv' := [(2, .int (nI (i46 + 1))), (0, .ref (k 0)), (1, .int (nI n)), (3, .int (nI i59))]) hx hb dX3_findBestMove_171 hl (k := 2) rfl (show nI i46 + Int32.ofInt 1 = nI (i46 + 1) from nI_1 i46) (by decide) rfl (fun ls hl => ?_)
              refine lv_goto (tgt := 46) hx hb dX3_findBestMove_174 (by decide) ?_
              exact ih46 (i46 + 1) T59_0 T59_1 _ _ ls (by omega) (by rw [itr_s, ← eT46_0]; exact eT59_0) hP hD hS (lv_sub hl [1, 2, 0] rfl)
            · exact absurd (by rw [show _ = nI (w) from hG0.2.1]; exact nI_le (by omega) (by omega)) c_6
          | succ n59 ih59 =>
            intro i59 T59_0 T59_1 H locs ls hi59 eT59_0 hP hD hS hl
            refine lv_iload_n hx hb dX3_findBestMove_59 rfl (lv_at hl 3 rfl) ?_
            refine lv_aload_n hx hb dX3_findBestMove_60 rfl (lv_at hl 0 rfl) ?_
            refine va_get (D := (dC, dI)) (ci := 3) (v := .ref (b 0)) (C := RX3) (T := TX3) (N := 6) hx hb hts hinX3 hown hK hP 0 rfl rfl 1 (by decide) hf21 (fun _ h9 => h9) rfl dX3_findBestMove_61 ?_
            refine va_get (D := (dC, dI)) (ci := 2) (v := .int (S 0 1)) (C := RX2) (T := TX2) (N := 18) hx hb hts hinX2 hown hK hP 2 rfl rfl 1 (by decide) hf203 (fun _ h9 => h9) rfl dX3_findBestMove_64 ?_
            refine lv_icmp_ge (tgt := 171) hx hb dX3_findBestMove_67 (by decide) (fun c_7 => ?_) (fun c_7 => ?_)
            · exact absurd c_7 (by rw [show _ = nI (w) from hG0.2.1]; exact nI_ge (by omega) (by omega))
            · refine lv_aload_n hx hb dX3_findBestMove_70 rfl (lv_at hl 0 rfl) ?_
              refine va_get (D := (dC, dI)) (ci := 3) (v := .ref (b 0)) (C := RX3) (T := TX3) (N := 6) hx hb hts hinX3 hown hK hP 0 rfl rfl 1 (by decide) hf21 (fun _ h9 => h9) rfl dX3_findBestMove_71 ?_
              refine lv_iload_n hx hb dX3_findBestMove_74 rfl (lv_at hl 2 rfl) ?_
              refine lv_iload_n hx hb dX3_findBestMove_75 rfl (lv_at hl 3 rfl) ?_
              refine zI_V (pre := (oW k b t M ++ bW k T59_0)) (wc := sW cI b S) (post := (sW cI t T59_1 ++ kW cI k M)) (w1 := sW cI b S) ⟨hx, hb, hml, hown, hts⟩ (c_X2_cellOf l dC dI cI b S (nI i46) (nI i59)) (cwV 2 hts gX3_findBestMove_X2_cellOf rfl rfl rfl (by decide +kernel) ⟨Nat.le_of_ble_eq_true rfl, Nat.le_of_ble_eq_true rfl⟩) (by simp only [List.append_assoc, List.append_nil, List.nil_append]) hK hN (ci := 2) (q0 := 0) rfl rfl rfl hP hD hS hA rfl hl.1 rfl (Nat.le_of_ble_eq_true rfl) dX3_findBestMove_76 ⟨Nat.le_of_ble_eq_true rfl, Nat.le_of_ble_eq_true rfl⟩ (fun H locs hP hD hS => ?_)
              have hP : va_P (dC, dI) vwCl (oW k b t M ++ bW k T59_0 ++ sW cI b S ++ sW cI t T59_1 ++ kW cI k M) H := by simpa only [List.append_assoc, List.append_nil, List.nil_append] using hP
              have hD : va_D A (oW k b t M ++ bW k T59_0 ++ sW cI b S ++ sW cI t T59_1 ++ kW cI k M) := by simpa only [List.append_assoc, List.append_nil, List.nil_append] using hD
              refine lv_istore (lv' := [(4, .int (sl_at S (nI i46) (nI i59))), (0, .ref (k 0)), (1, .int (nI n)), (2, .int (nI i46)), (3, .int (nI i59))]) hx hb dX3_findBestMove_79 hl (by decide) rfl (fun ls hl => ?_)
              refine lv_iconst (v := 0) hx hb dX3_findBestMove_81 (by decide) ?_
              refine lv_istore (lv' := [(5, .int 0), (4, .int (sl_at S (nI i46) (nI i59))), (0, .ref (k 0)), (1, .int (nI n)), (2, .int (nI i46)), (3, .int (nI i59))]) hx hb dX3_findBestMove_82 hl (by decide) rfl (fun ls hl => ?_)
              have lp84 : ∀ (n84 i84 : Nat) (T84_0 : sS) (T84_1 : sS) (H : Heap) (locs : List Loc) (ls : Array Slot), i84 + n84 = (x3_rounds (S 3 (sl_at S (nI i46) (nI i59)).toNatClampNeg)) → (T84_0, T84_1) = itr (x3_h h w M S n (nI i46) (nI i59)) i84 (T59_0, T59_1) → va_P (dC, dI) vwCl (oW k b t M ++ bW k T84_0 ++ sW cI b S ++ sW cI t T84_1 ++ kW cI k M) H → va_D A (oW k b t M ++ bW k T84_0 ++ sW cI b S ++ sW cI t T84_1 ++ kW cI k M) → va_S A s.heap H locs → lv_has ls 6 [(0, .ref (k 0)), (1, .int (nI n)), (2, .int (nI i46)), (3, .int (nI i59)), (4, .int (sl_at S (nI i46) (nI i59))), (5, .int (nI i84 * 10))] → W p l e ({ frames := 5, cells := 0, slots := 0, locals := 116 } : Room) s m [.ref (k 0), .int (nI n)].toArray below meth c H locs 0 0 (zVq (dC, dI) A (oW k b t M ++ kW cI k M ++ bW k ((x3_best h w M B S n).1) ++ sW cI b S ++ sW cI t ((x3_best h w M B S n).2)) below [.ref (k 0), .int (nI n)].toArray s 0 0) (F0 m 84 ls []) := by
                intro n84
                induction n84 with
                | zero =>
                  intro i84 T84_0 T84_1 H locs ls hi84 eT84_0 hP hD hS hl
                  have hi84 : i84 = (x3_rounds (S 3 (sl_at S (nI i46) (nI i59)).toNatClampNeg)) := by omega
                  rw [hi84] at eT84_0
                  refine lv_iload hx hb dX3_findBestMove_84 (lv_at hl 5 rfl) ?_
                  refine lv_aload_n hx hb dX3_findBestMove_86 rfl (lv_at hl 0 rfl) ?_
                  refine va_get (D := (dC, dI)) (ci := 3) (v := .ref (b 0)) (C := RX3) (T := TX3) (N := 6) hx hb hts hinX3 hown hK hP 0 rfl rfl 1 (by decide) hf21 (fun _ h9 => h9) rfl dX3_findBestMove_87 ?_
                  refine va_get (D := (dC, dI)) (ci := 2) (v := .ref (b 3)) (C := RX2) (T := TX2) (N := 18) hx hb hts hinX2 hown hK hP 2 rfl rfl 7 (by decide) hf75 (fun _ h9 => h9) rfl dX3_findBestMove_90 ?_
                  refine lv_iload hx hb dX3_findBestMove_93 (lv_at hl 4 rfl) ?_
                  refine va_iald (cA := cI) (n := 64) (f := S 3) hx hb hK hP 5 0 rfl rfl (geo_in hG0 (geo_has hG0 (by omega) (by omega))) dX3_findBestMove_95 ?_
                  refine lv_icmp_gt (tgt := 165) hx hb dX3_findBestMove_96 (by decide) (fun c_8 => ?_) (fun c_8 => ?_)
                  · refine lv_iinc (v := nI (i59 + 1)) (lv' := [(3, .int (nI (i59 + 1))), (0, .ref (k 0)), (1, .int (nI n)), (2, .int (nI i46)), (4, .int (sl_at S (nI i46) (nI i59))), (5, .int (nI i84 * 10))]) hx hb dX3_findBestMove_165 hl (k := 3) rfl (show nI i59 + Int32.ofInt 1 = nI (i59 + 1) from nI_1 i59) (by decide) rfl (fun ls hl => ?_)
                    refine lv_goto (tgt := 59) hx hb dX3_findBestMove_168 (by decide) ?_
                    exact ih59 (i59 + 1) T84_0 T84_1 _ _ ls (by omega) (by rw [itr_s, ← eT59_0]; exact eT84_0) hP hD hS (lv_sub hl [1, 2, 3, 0] rfl)
                  · exact absurd (ht_out (bk_at hG0 hbk (i := i46) (j := i59) (by omega) (by omega)) (by omega)) c_8
                | succ n84 ih84 =>
                  intro i84 T84_0 T84_1 H locs ls hi84 eT84_0 hP hD hS hl
                  refine lv_iload hx hb dX3_findBestMove_84 (lv_at hl 5 rfl) ?_
                  refine lv_aload_n hx hb dX3_findBestMove_86 rfl (lv_at hl 0 rfl) ?_
                  refine va_get (D := (dC, dI)) (ci := 3) (v := .ref (b 0)) (C := RX3) (T := TX3) (N := 6) hx hb hts hinX3 hown hK hP 0 rfl rfl 1 (by decide) hf21 (fun _ h9 => h9) rfl dX3_findBestMove_87 ?_
                  refine va_get (D := (dC, dI)) (ci := 2) (v := .ref (b 3)) (C := RX2) (T := TX2) (N := 18) hx hb hts hinX2 hown hK hP 2 rfl rfl 7 (by decide) hf75 (fun _ h9 => h9) rfl dX3_findBestMove_90 ?_
                  refine lv_iload hx hb dX3_findBestMove_93 (lv_at hl 4 rfl) ?_
                  refine va_iald (cA := cI) (n := 64) (f := S 3) hx hb hK hP 5 0 rfl rfl (geo_in hG0 (geo_has hG0 (by omega) (by omega))) dX3_findBestMove_95 ?_
                  refine lv_icmp_gt (tgt := 165) hx hb dX3_findBestMove_96 (by decide) (fun c_9 => ?_) (fun c_9 => ?_)
                  · exact absurd c_9 (ht_in (bk_at hG0 hbk (i := i46) (j := i59) (by omega) (by omega)) (by omega))
                  · refine lv_aload_n hx hb dX3_findBestMove_99 rfl (lv_at hl 0 rfl) ?_
                    refine va_get (D := (dC, dI)) (ci := 3) (v := .ref (t 0)) (C := RX3) (T := TX3) (N := 6) hx hb hts hinX3 hown hK hP 0 rfl rfl 2 (by decide) hf25 (fun _ h9 => h9) rfl dX3_findBestMove_100 ?_
                    refine lv_aload_n hx hb dX3_findBestMove_103 rfl (lv_at hl 0 rfl) ?_
                    refine va_get (D := (dC, dI)) (ci := 3) (v := .ref (b 0)) (C := RX3) (T := TX3) (N := 6) hx hb hts hinX3 hown hK hP 0 rfl rfl 1 (by decide) hf21 (fun _ h9 => h9) rfl dX3_findBestMove_104 ?_
                    have hP : va_P (dC, dI) vwCl (oW k b t M ++ bW k T84_0 ++ kW cI k M ++ sW cI t T84_1 ++ sW cI b S) _ := hP.sub (ws' := oW k b t M ++ bW k T84_0 ++ kW cI k M ++ sW cI t T84_1 ++ sW cI b S) [0, 1, 30, 31, 32, 33, 16, 17, 18, 19, 20, 21, 22, 23, 24, 25, 26, 27, 28, 29, 2, 3, 4, 5, 6, 7, 8, 9, 10, 11, 12, 13, 14, 15] rfl
                    have hD : va_D A (oW k b t M ++ bW k T84_0 ++ kW cI k M ++ sW cI t T84_1 ++ sW cI b S) := hD.sub (ws' := oW k b t M ++ bW k T84_0 ++ kW cI k M ++ sW cI t T84_1 ++ sW cI b S) [0, 1, 30, 31, 32, 33, 16, 17, 18, 19, 20, 21, 22, 23, 24, 25, 26, 27, 28, 29, 2, 3, 4, 5, 6, 7, 8, 9, 10, 11, 12, 13, 14, 15] (by decide +kernel) rfl
                    obtain ⟨S10, eS10⟩ : ∃ z : sS, z = S := ⟨_, rfl⟩
                    refine zV_V (pre := (oW k b t M ++ bW k T84_0 ++ kW cI k M)) (wc := sW cI t T84_1 ++ sW cI b S) (post := ([] : va_W)) (w1 := sW cI t S10 ++ sW cI b S) ⟨hx, hb, hml, hown, hts⟩ (by rw [eS10]; exact c_X2_copyFrom l dC dI cI t b S T84_1) (cwV 1 hts gX3_findBestMove_X2_copyFrom rfl rfl rfl (by decide +kernel) ⟨Nat.le_of_ble_eq_true rfl, Nat.le_of_ble_eq_true rfl⟩) (by simp only [List.append_assoc, List.append_nil, List.nil_append]) hK hN (ci := 2) (q0 := 0) rfl rfl rfl hP hD hS hA rfl hl.1 rfl (Nat.le_of_ble_eq_true rfl) dX3_findBestMove_107 ⟨Nat.le_of_ble_eq_true rfl, Nat.le_of_ble_eq_true rfl⟩ (fun H locs hP hD hS => ?_)
                    have hP : va_P (dC, dI) vwCl (oW k b t M ++ bW k T84_0 ++ kW cI k M ++ sW cI t S10 ++ sW cI b S) H := by simpa only [List.append_assoc, List.append_nil, List.nil_append] using hP
                    have hD : va_D A (oW k b t M ++ bW k T84_0 ++ kW cI k M ++ sW cI t S10 ++ sW cI b S) := by simpa only [List.append_assoc, List.append_nil, List.nil_append] using hD
                    have hGS10 : geo h w S10 := by rw [eS10]; exact hG0
                    refine lv_aload_n hx hb dX3_findBestMove_110 rfl (lv_at hl 0 rfl) ?_
                    refine va_get (D := (dC, dI)) (ci := 3) (v := .ref (t 0)) (C := RX3) (T := TX3) (N := 6) hx hb hts hinX3 hown hK hP 0 rfl rfl 2 (by decide) hf25 (fun _ h9 => h9) rfl dX3_findBestMove_111 ?_
                    refine va_get (D := (dC, dI)) (ci := 2) (v := .ref (t 5)) (C := RX2) (T := TX2) (N := 18) hx hb hts hinX2 hown hK hP 6 rfl rfl 9 (by decide) hf82 (fun _ h9 => h9) rfl dX3_findBestMove_114 ?_
                    refine lv_iload hx hb dX3_findBestMove_117 (lv_at hl 4 rfl) ?_
                    refine lv_iload hx hb dX3_findBestMove_119 (lv_at hl 5 rfl) ?_
                    obtain ⟨S11, eS11⟩ : ∃ z : sS, z = s_put S10 5 ((sl_at S (nI i46) (nI i59)).toNatClampNeg) (nI i84 * 10) := ⟨_, rfl⟩
                    refine va_iast (cA := cI) (n := 64) (f := S10 5) hx hb hK hP hD hS 11 0 rfl rfl (geo_in hG0 (geo_has hG0 (by omega) (by omega))) dX3_findBestMove_121 (fun H locs hP hD hS => ?_)
                    have hP : va_P (dC, dI) vwCl (oW k b t M ++ bW k T84_0 ++ kW cI k M ++ sW cI t S11 ++ sW cI b S) H := by rw [eS11]; exact hP
                    have hD : va_D A (oW k b t M ++ bW k T84_0 ++ kW cI k M ++ sW cI t S11 ++ sW cI b S) := by rw [eS11]; exact hD
                    have hGS11 : geo h w S11 := by rw [eS11]; exact geo_put hGS10 (Or.inl (by decide)) _
                    refine lv_aload_n hx hb dX3_findBestMove_122 rfl (lv_at hl 0 rfl) ?_
                    refine va_get (D := (dC, dI)) (ci := 3) (v := .ref (t 0)) (C := RX3) (T := TX3) (N := 6) hx hb hts hinX3 hown hK hP 0 rfl rfl 2 (by decide) hf25 (fun _ h9 => h9) rfl dX3_findBestMove_123 ?_
                    refine lv_iload_n hx hb dX3_findBestMove_126 rfl (lv_at hl 1 rfl) ?_
                    refine lv_aload_n hx hb dX3_findBestMove_127 rfl (lv_at hl 0 rfl) ?_
                    refine va_get (D := (dC, dI)) (ci := 3) (v := .ref (k 1)) (C := RX3) (T := TX3) (N := 6) hx hb hts hinX3 hown hK hP 0 rfl rfl 0 (by decide) hf10 (fun _ h9 => h9) rfl dX3_findBestMove_128 ?_
                    have hP : va_P (dC, dI) vwCl (oW k b t M ++ bW k T84_0 ++ sW cI b S ++ sW cI t S11 ++ kW cI k M) _ := hP.sub (ws' := oW k b t M ++ bW k T84_0 ++ sW cI b S ++ sW cI t S11 ++ kW cI k M) [0, 1, 20, 21, 22, 23, 24, 25, 26, 27, 28, 29, 30, 31, 32, 33, 6, 7, 8, 9, 10, 11, 12, 13, 14, 15, 16, 17, 18, 19, 2, 3, 4, 5] rfl
                    have hD : va_D A (oW k b t M ++ bW k T84_0 ++ sW cI b S ++ sW cI t S11 ++ kW cI k M) := hD.sub (ws' := oW k b t M ++ bW k T84_0 ++ sW cI b S ++ sW cI t S11 ++ kW cI k M) [0, 1, 20, 21, 22, 23, 24, 25, 26, 27, 28, 29, 30, 31, 32, 33, 6, 7, 8, 9, 10, 11, 12, 13, 14, 15, 16, 17, 18, 19, 2, 3, 4, 5] (by decide +kernel) rfl
                    obtain ⟨S12, eS12⟩ : ∃ z : sS, z = sl_days h w M S11 n := ⟨_, rfl⟩
                    refine zV_V (pre := (oW k b t M ++ bW k T84_0 ++ sW cI b S)) (wc := sW cI t S11 ++ kW cI k M) (post := ([] : va_W)) (w1 := sW cI t S12 ++ kW cI k M) ⟨hx, hb, hml, hown, hts⟩ (by rw [eS12]; exact c_X2_letDaysGoBy l dC dI cI t k h w d n S11 M hGS11 (by rw [eS11, eS10]; exact hd) hdn) (cwV 2 hts gX3_findBestMove_X2_letDaysGoBy rfl rfl rfl (by decide +kernel) ⟨Nat.le_of_ble_eq_true rfl, Nat.le_of_ble_eq_true rfl⟩) (by simp only [List.append_assoc, List.append_nil, List.nil_append]) hK hN (ci := 2) (q0 := 0) rfl rfl rfl hP hD hS hA rfl hl.1 rfl (Nat.le_of_ble_eq_true rfl) dX3_findBestMove_131 ⟨Nat.le_of_ble_eq_true rfl, Nat.le_of_ble_eq_true rfl⟩ (fun H locs hP hD hS => ?_)
                    have hP : va_P (dC, dI) vwCl (oW k b t M ++ bW k T84_0 ++ sW cI b S ++ sW cI t S12 ++ kW cI k M) H := by simpa only [List.append_assoc, List.append_nil, List.nil_append] using hP
                    have hD : va_D A (oW k b t M ++ bW k T84_0 ++ sW cI b S ++ sW cI t S12 ++ kW cI k M) := by simpa only [List.append_assoc, List.append_nil, List.nil_append] using hD
                    have hGS12 : geo h w S12 := by rw [eS12]; exact geo_days hGS11 M n
                    refine lv_aload_n hx hb dX3_findBestMove_134 rfl (lv_at hl 0 rfl) ?_
                    refine va_get (D := (dC, dI)) (ci := 3) (v := .ref (k 5)) (C := RX3) (T := TX3) (N := 6) hx hb hts hinX3 hown hK hP 0 rfl rfl 3 (by decide) hf31 (fun _ h9 => h9) rfl dX3_findBestMove_135 ?_
                    refine lv_iload_n hx hb dX3_findBestMove_138 rfl (lv_at hl 2 rfl) ?_
                    refine lv_iload_n hx hb dX3_findBestMove_139 rfl (lv_at hl 3 rfl) ?_
                    refine lv_iload hx hb dX3_findBestMove_140 (lv_at hl 5 rfl) ?_
                    refine lv_aload_n hx hb dX3_findBestMove_142 rfl (lv_at hl 0 rfl) ?_
                    refine va_get (D := (dC, dI)) (ci := 3) (v := .ref (t 0)) (C := RX3) (T := TX3) (N := 6) hx hb hts hinX3 hown hK hP 0 rfl rfl 2 (by decide) hf25 (fun _ h9 => h9) rfl dX3_findBestMove_143 ?_
                    refine zI_V (pre := (oW k b t M ++ bW k T84_0 ++ sW cI b S)) (wc := sW cI t S12) (post := (kW cI k M)) (w1 := sW cI t S12) ⟨hx, hb, hml, hown, hts⟩ (c_X2_crops l dC dI cI t h w S12 hGS12) (cwV 0 hts gX3_findBestMove_X2_crops rfl rfl rfl (by decide +kernel) ⟨Nat.le_of_ble_eq_true rfl, Nat.le_of_ble_eq_true rfl⟩) (by simp only [List.append_assoc, List.append_nil, List.nil_append]) hK hN (ci := 2) (q0 := 0) rfl rfl rfl hP hD hS hA rfl hl.1 rfl (Nat.le_of_ble_eq_true rfl) dX3_findBestMove_146 ⟨Nat.le_of_ble_eq_true rfl, Nat.le_of_ble_eq_true rfl⟩ (fun H locs hP hD hS => ?_)
                    have hP : va_P (dC, dI) vwCl (oW k b t M ++ bW k T84_0 ++ sW cI b S ++ sW cI t S12 ++ kW cI k M) H := by simpa only [List.append_assoc, List.append_nil, List.nil_append] using hP
                    have hD : va_D A (oW k b t M ++ bW k T84_0 ++ sW cI b S ++ sW cI t S12 ++ kW cI k M) := by simpa only [List.append_assoc, List.append_nil, List.nil_append] using hD
                    refine lv_aload_n hx hb dX3_findBestMove_149 rfl (lv_at hl 0 rfl) ?_
                    refine va_get (D := (dC, dI)) (ci := 3) (v := .ref (t 0)) (C := RX3) (T := TX3) (N := 6) hx hb hts hinX3 hown hK hP 0 rfl rfl 2 (by decide) hf25 (fun _ h9 => h9) rfl dX3_findBestMove_150 ?_
                    refine zI_V (pre := (oW k b t M ++ bW k T84_0 ++ sW cI b S)) (wc := sW cI t S12) (post := (kW cI k M)) (w1 := sW cI t S12) ⟨hx, hb, hml, hown, hts⟩ (c_X2_allHardness l dC dI cI t h w S12 hGS12) (cwV 0 hts gX3_findBestMove_X2_allHardness rfl rfl rfl (by decide +kernel) ⟨Nat.le_of_ble_eq_true rfl, Nat.le_of_ble_eq_true rfl⟩) (by simp only [List.append_assoc, List.append_nil, List.nil_append]) hK hN (ci := 2) (q0 := 0) rfl rfl rfl hP hD hS hA rfl hl.1 rfl (Nat.le_of_ble_eq_true rfl) dX3_findBestMove_153 ⟨Nat.le_of_ble_eq_true rfl, Nat.le_of_ble_eq_true rfl⟩ (fun H locs hP hD hS => ?_)
                    have hP : va_P (dC, dI) vwCl (oW k b t M ++ bW k T84_0 ++ sW cI b S ++ sW cI t S12 ++ kW cI k M) H := by simpa only [List.append_assoc, List.append_nil, List.nil_append] using hP
                    have hD : va_D A (oW k b t M ++ bW k T84_0 ++ sW cI b S ++ sW cI t S12 ++ kW cI k M) := by simpa only [List.append_assoc, List.append_nil, List.nil_append] using hD
                    obtain ⟨S13, eS13⟩ : ∃ z : sS, z = mv_better T84_0 (nI i46) (nI i59) (nI i84 * 10) (sl_sum h w S12 7) (sl_sum h w S12 9) := ⟨_, rfl⟩
                    refine zV_V (pre := (oW k b t M)) (wc := bW k T84_0) (post := (sW cI b S ++ sW cI t S12 ++ kW cI k M)) (w1 := bW k S13) ⟨hx, hb, hml, hown, hts⟩ (by rw [eS13]; exact c_X1_becomeIfBetter l dC dI cI k T84_0 (nI i46) (nI i59) (nI i84 * 10) (sl_sum h w S12 7) (sl_sum h w S12 9)) (cwV 5 hts gX3_findBestMove_X1_becomeIfBetter rfl rfl rfl (by decide +kernel) ⟨Nat.le_of_ble_eq_true rfl, Nat.le_of_ble_eq_true rfl⟩) (by simp only [List.append_assoc, List.append_nil, List.nil_append]) hK hN (ci := 1) (q0 := 0) rfl rfl rfl hP hD hS hA rfl hl.1 rfl (Nat.le_of_ble_eq_true rfl) dX3_findBestMove_156 ⟨Nat.le_of_ble_eq_true rfl, Nat.le_of_ble_eq_true rfl⟩ (fun H locs hP hD hS => ?_)
                    have hP : va_P (dC, dI) vwCl (oW k b t M ++ bW k S13 ++ sW cI b S ++ sW cI t S12 ++ kW cI k M) H := by simpa only [List.append_assoc, List.append_nil, List.nil_append] using hP
                    have hD : va_D A (oW k b t M ++ bW k S13 ++ sW cI b S ++ sW cI t S12 ++ kW cI k M) := by simpa only [List.append_assoc, List.append_nil, List.nil_append] using hD
                    refine lv_iinc (v := nI (i84 + 1) * 10) (lv' := [(5, .int (nI (i84 + 1) * 10)), (0, .ref (k 0)), (1, .int (nI n)), (2, .int (nI i46)), (3, .int (nI i59)), (4, .int (sl_at S (nI i46) (nI i59)))]) hx hb dX3_findBestMove_159 hl (k := 5) rfl (z_ten i84) (by decide) rfl (fun ls hl => ?_)
                    refine lv_goto (tgt := 84) hx hb dX3_findBestMove_162 (by decide) ?_
                    exact ih84 (i84 + 1) S13 S12 _ _ ls (by omega) (by rw [itr_s, ← eT84_0, eS13, eS12, eS11, eS10]; rfl) hP hD hS (lv_sub hl [1, 2, 3, 4, 5, 0] rfl)
              exact lp84 ((x3_rounds (S 3 (sl_at S (nI i46) (nI i59)).toNatClampNeg))) 0 T59_0 T59_1 _ _ ls (by omega) rfl hP hD hS (lv_sub hl [2, 3, 4, 5, 1, 0] rfl)
        exact lp59 (w) 0 T46_0 T46_1 _ _ ls (by omega) rfl hP hD hS (lv_sub hl [1, 2, 3, 0] rfl)
  exact lp46 (h) 0 S3 S2 _ _ ls (by omega) rfl hP hD hS (lv_sub hl [1, 2, 0] rfl)

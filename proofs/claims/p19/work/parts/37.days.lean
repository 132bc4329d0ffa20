set_option maxHeartbeats 4000000 in
set_option maxRecDepth 100000 in
theorem c_X2_letDaysGoBy (l : Launch) (dC : Nat → ClassId) (dI : Nat → Nat → Nat) (cI : ClassId) (a k : Nat → Nat) (h w d n : Nat) (S M : sS) (hG0 : geo h w S) (hd : S 0 2 = nI d) (hdn : d + n < 1000000) : zV l yX2_letDaysGoBy wsX2_letDaysGoBy { frames := 4, cells := 0, slots := 0, locals := 92 } (dC, dI) cI [.ref (a 0), .int (nI n), .ref (k 1)] (sW cI a S ++ kW cI k M) (sW cI a (sl_days h w M S n) ++ kW cI k M) := by
  refine zV_of (cc := cX2_letDaysGoBy) (maxL := 5) (ret := none) (by decide) rfl (Nat.le_of_ble_eq_true rfl) ?_
  intro p e s m below meth c A ls C0 hl
  obtain ⟨hx, hb, hr, hml, hown, hts, hlocks, hK, hN, hA, hP, hD, hS⟩ := C0
  have hown : s.vm.findClass RX2 = some m.cls := hown
  have hl : lv_has ls 5 [(0, .ref (a 0)), (1, .int (nI n)), (2, .ref (k 1))] := hl
  have hf62 := hts (.fieldLink RX2 62 "PaddyTerraces$Slope" "day" "I") (by decide +kernel)
  have hf99 := hts (.fieldLink RX2 99 "PaddyTerraces$Calendar" "rain" "[I") (by decide +kernel)
  have hf107 := hts (.fieldLink RX2 107 "PaddyTerraces$Calendar" "spring" "[I") (by decide +kernel)
  have hf116 := hts (.fieldLink RX2 116 "PaddyTerraces$Calendar" "draught" "[I") (by decide +kernel)
  have hinX0 : ∀ w ∈ wsX00, w ∈ wsX2_letDaysGoBy := by decide +kernel
  have hinX2 : ∀ w ∈ wsX20, w ∈ wsX2_letDaysGoBy := by decide +kernel
  have hS0 := hS
  have hN64 := geo_hw hG0
  have hW9 := geo_w hG0
  obtain ⟨-, -, hh2, hh8, hw2, hw8⟩ := id hG0
  refine lv_iconst (v := 0) hx hb dX2_letDaysGoBy_0 (by decide) ?_
  refine lv_istore_n (lv' := [(3, .int 0), (0, .ref (a 0)), (1, .int (nI n)), (2, .ref (k 1))]) hx hb dX2_letDaysGoBy_1 rfl hl (by decide) rfl (fun ls hl => ?_)
  have lp2 : ∀ (n2 i2 : Nat) (T2_0 : sS) (H : Heap) (locs : List Loc) (ls : Array Slot), i2 + n2 = n → T2_0 = itr (fun _ T => sl_day h w M T) i2 S → geo h w T2_0 → T2_0 0 2 = nI (d + i2) → va_P (dC, dI) vwCl (sW cI a T2_0 ++ kW cI k M) H → va_D A (sW cI a T2_0 ++ kW cI k M) → va_S A s.heap H locs → lv_has ls 5 [(0, .ref (a 0)), (1, .int (nI n)), (2, .ref (k 1)), (3, .int (nI i2))] → W p l e ({ frames := 4, cells := 0, slots := 0, locals := 92 } : Room) s m [.ref (a 0), .int (nI n), .ref (k 1)].toArray below meth c H locs 0 0 (zVq (dC, dI) A (sW cI a (sl_days h w M S n) ++ kW cI k M) below [.ref (a 0), .int (nI n), .ref (k 1)].toArray s 0 0) (F0 m 2 ls []) := by
    intro n2
    induction n2 with
    | zero =>
      intro i2 T2_0 H locs ls hi2 eT2_0 hGT2_0 hdT2_0 hP hD hS hl
      have hi2 : i2 = n := by omega
      rw [hi2] at eT2_0
      refine lv_iload_n hx hb dX2_letDaysGoBy_2 rfl (lv_at hl 3 rfl) ?_
      refine lv_iload_n hx hb dX2_letDaysGoBy_3 rfl (lv_at hl 1 rfl) ?_
      refine lv_icmp_ge (tgt := 73) hx hb dX2_letDaysGoBy_4 (by decide) (fun c_1 => ?_) (fun c_1 => ?_)
      · have hZ : T2_0 = sl_days h w M S n := (by (try rw [eT2_0]); first | done | rfl | (simp only [sl_days, if_pos c_1]; done) | (unfold sl_days; simp only [if_pos c_1]; done))
        rw [hZ] at hP hD
        exact zV_ret hx hb hr hlocks hP hD hS dX2_letDaysGoBy_73
      · exact absurd (show nI (n) ≤ nI i2 from nI_le (by omega) (by omega)) c_1
    | succ n2 ih2 =>
      intro i2 T2_0 H locs ls hi2 eT2_0 hGT2_0 hdT2_0 hP hD hS hl
      refine lv_iload_n hx hb dX2_letDaysGoBy_2 rfl (lv_at hl 3 rfl) ?_
      refine lv_iload_n hx hb dX2_letDaysGoBy_3 rfl (lv_at hl 1 rfl) ?_
      refine lv_icmp_ge (tgt := 73) hx hb dX2_letDaysGoBy_4 (by decide) (fun c_2 => ?_) (fun c_2 => ?_)
      · exact absurd c_2 (show ¬ nI (n) ≤ nI i2 from nI_ge (by omega) (by omega))
      · refine lv_aload_n hx hb dX2_letDaysGoBy_7 rfl (lv_at hl 0 rfl) ?_
        refine va_get (D := (dC, dI)) (ci := 2) (v := .int (T2_0 0 2)) (C := RX2) (T := TX2) (N := 18) hx hb hts hinX2 hown hK hP 0 rfl rfl 2 (by decide) hf62 (fun _ h9 => h9) rfl dX2_letDaysGoBy_8 ?_
        refine lv_bipush (v := 30) hx hb dX2_letDaysGoBy_11 (by decide) ?_
        refine lv_irem hx hb dX2_letDaysGoBy_13 (by decide) ?_
        refine lv_istore (lv' := [(4, .int ((T2_0 0 2) - (T2_0 0 2) / 30 * 30)), (0, .ref (a 0)), (1, .int (nI n)), (2, .ref (k 1)), (3, .int (nI i2))]) hx hb dX2_letDaysGoBy_14 hl (by decide) rfl (fun ls hl => ?_)
        refine lv_aload_n hx hb dX2_letDaysGoBy_16 rfl (lv_at hl 1 rfl) ?_
        refine lv_dup hx hb dX2_letDaysGoBy_17 rfl ?_
        refine va_get (D := (dC, dI)) (ci := 2) (v := .int (T2_0 0 2)) (C := RX2) (T := TX2) (N := 18) hx hb hts hinX2 hown hK hP 0 rfl rfl 2 (by decide) hf62 (fun _ h9 => h9) rfl dX2_letDaysGoBy_18 ?_
        refine lv_iconst (v := 1) hx hb dX2_letDaysGoBy_21 (by decide) ?_
        refine lv_iadd hx hb dX2_letDaysGoBy_22 ?_
        obtain ⟨S3, eS3⟩ : ∃ z : sS, z = s_put T2_0 0 2 ((T2_0 0 2) + 1) := ⟨_, rfl⟩
        refine va_put (D := (dC, dI)) (ci := 2) (v := .int ((T2_0 0 2) + 1)) (ty := .int) (C := RX2) (T := TX2) (N := 18) hx hb hts hinX2 tyX2 tyX2_ok nmX2 hown hK hP hD hS 0 rfl rfl 2 (by decide) hf62 (fun _ h9 => h9) rfl (by decide +kernel) rfl rfl (Nat.le_of_ble_eq_true rfl) dX2_letDaysGoBy_23 (fun H locs hP hD hS => ?_)
        have hP : va_P (dC, dI) vwCl (sW cI a S3 ++ kW cI k M) H := by rw [eS3]; exact hP
        have hD : va_D A (sW cI a S3 ++ kW cI k M) := by rw [eS3]; exact hD
        have hGS3 : geo h w S3 := by rw [eS3]; exact geo_put hGT2_0 (Or.inr (by decide)) _
        refine lv_aload_n hx hb dX2_letDaysGoBy_26 rfl (lv_at hl 1 rfl) ?_
        refine lv_aload_n hx hb dX2_letDaysGoBy_27 rfl (lv_at hl 3 rfl) ?_
        refine va_get (D := (dC, dI)) (ci := 0) (v := .ref (k 2)) (C := RX0) (T := TX0) (N := 3) hx hb hts hinX0 hown hK hP 14 rfl rfl 0 (by decide) hf99 (fun _ h9 => h9) rfl dX2_letDaysGoBy_28 ?_
        refine lv_iload hx hb dX2_letDaysGoBy_31 (lv_at hl 0 rfl) ?_
        refine va_iald (cA := cI) (n := 30) (f := M 1) hx hb hK hP 15 0 rfl rfl (date_in hdT2_0 (by omega)) dX2_letDaysGoBy_33 ?_
        obtain ⟨S4, eS4⟩ : ∃ z : sS, z = sl_rain h w S3 (M 1 ((T2_0 0 2) - (T2_0 0 2) / 30 * 30).toNatClampNeg) := ⟨_, rfl⟩
        refine zV_V (pre := ([] : va_W)) (wc := sW cI a S3) (post := (kW cI k M)) (w1 := sW cI a S4) ⟨hx, hb, hml, hown, hts⟩ (by rw [eS4]; exact c_X2_takeRain l dC dI cI a h w S3 (M 1 ((T2_0 0 2) - (T2_0 0 2) / 30 * 30).toNatClampNeg) hGS3) (cwV 1 hts gX2_letDaysGoBy_X2_takeRain rfl rfl rfl (by decide +kernel) ⟨Nat.le_of_ble_eq_true rfl, Nat.le_of_ble_eq_true rfl⟩) (by simp only [List.append_assoc, List.append_nil, List.nil_append]) hK hN (ci := 2) (q0 := 0) rfl rfl rfl hP hD hS hA rfl hl.1 rfl (Nat.le_of_ble_eq_true rfl) dX2_letDaysGoBy_34 ⟨Nat.le_of_ble_eq_true rfl, Nat.le_of_ble_eq_true rfl⟩ (fun H locs hP hD hS => ?_)
        have hP : va_P (dC, dI) vwCl (sW cI a S4 ++ kW cI k M) H := by simpa only [List.append_assoc, List.append_nil, List.nil_append] using hP
        have hD : va_D A (sW cI a S4 ++ kW cI k M) := by simpa only [List.append_assoc, List.append_nil, List.nil_append] using hD
        have hGS4 : geo h w S4 := by rw [eS4]; exact geo_sam hGS3 (sam_rain h w S3 (M 1 ((T2_0 0 2) - (T2_0 0 2) / 30 * 30).toNatClampNeg))
        refine lv_aload_n hx hb dX2_letDaysGoBy_37 rfl (lv_at hl 1 rfl) ?_
        refine lv_aload_n hx hb dX2_letDaysGoBy_38 rfl (lv_at hl 3 rfl) ?_
        refine va_get (D := (dC, dI)) (ci := 0) (v := .ref (k 3)) (C := RX0) (T := TX0) (N := 3) hx hb hts hinX0 hown hK hP 14 rfl rfl 1 (by decide) hf107 (fun _ h9 => h9) rfl dX2_letDaysGoBy_39 ?_
        refine lv_iload hx hb dX2_letDaysGoBy_42 (lv_at hl 0 rfl) ?_
        refine va_iald (cA := cI) (n := 30) (f := M 2) hx hb hK hP 16 0 rfl rfl (date_in hdT2_0 (by omega)) dX2_letDaysGoBy_44 ?_
        obtain ⟨S5, eS5⟩ : ∃ z : sS, z = sl_spring w S4 (M 2 ((T2_0 0 2) - (T2_0 0 2) / 30 * 30).toNatClampNeg) := ⟨_, rfl⟩
        refine zV_V (pre := ([] : va_W)) (wc := sW cI a S4) (post := (kW cI k M)) (w1 := sW cI a S5) ⟨hx, hb, hml, hown, hts⟩ (by rw [eS5]; exact c_X2_takeSpring l dC dI cI a h w S4 (M 2 ((T2_0 0 2) - (T2_0 0 2) / 30 * 30).toNatClampNeg) hGS4) (cwV 1 hts gX2_letDaysGoBy_X2_takeSpring rfl rfl rfl (by decide +kernel) ⟨Nat.le_of_ble_eq_true rfl, Nat.le_of_ble_eq_true rfl⟩) (by simp only [List.append_assoc, List.append_nil, List.nil_append]) hK hN (ci := 2) (q0 := 0) rfl rfl rfl hP hD hS hA rfl hl.1 rfl (Nat.le_of_ble_eq_true rfl) dX2_letDaysGoBy_45 ⟨Nat.le_of_ble_eq_true rfl, Nat.le_of_ble_eq_true rfl⟩ (fun H locs hP hD hS => ?_)
        have hP : va_P (dC, dI) vwCl (sW cI a S5 ++ kW cI k M) H := by simpa only [List.append_assoc, List.append_nil, List.nil_append] using hP
        have hD : va_D A (sW cI a S5 ++ kW cI k M) := by simpa only [List.append_assoc, List.append_nil, List.nil_append] using hD
        have hGS5 : geo h w S5 := by rw [eS5]; exact geo_sam hGS4 (sam_spring w S4 (M 2 ((T2_0 0 2) - (T2_0 0 2) / 30 * 30).toNatClampNeg))
        refine lv_aload_n hx hb dX2_letDaysGoBy_48 rfl (lv_at hl 1 rfl) ?_
        obtain ⟨S6, eS6⟩ : ∃ z : sS, z = sl_flowAll h w S5 := ⟨_, rfl⟩
        refine zV_V (pre := ([] : va_W)) (wc := sW cI a S5) (post := (kW cI k M)) (w1 := sW cI a S6) ⟨hx, hb, hml, hown, hts⟩ (by rw [eS6]; exact c_X2_letWaterFlow l dC dI cI a h w S5 hGS5) (cwV 0 hts gX2_letDaysGoBy_X2_letWaterFlow rfl rfl rfl (by decide +kernel) ⟨Nat.le_of_ble_eq_true rfl, Nat.le_of_ble_eq_true rfl⟩) (by simp only [List.append_assoc, List.append_nil, List.nil_append]) hK hN (ci := 2) (q0 := 0) rfl rfl rfl hP hD hS hA rfl hl.1 rfl (Nat.le_of_ble_eq_true rfl) dX2_letDaysGoBy_49 ⟨Nat.le_of_ble_eq_true rfl, Nat.le_of_ble_eq_true rfl⟩ (fun H locs hP hD hS => ?_)
        have hP : va_P (dC, dI) vwCl (sW cI a S6 ++ kW cI k M) H := by simpa only [List.append_assoc, List.append_nil, List.nil_append] using hP
        have hD : va_D A (sW cI a S6 ++ kW cI k M) := by simpa only [List.append_assoc, List.append_nil, List.nil_append] using hD
        have hGS6 : geo h w S6 := by rw [eS6]; exact geo_sam hGS5 (sam_flowAll h w S5)
        refine lv_aload_n hx hb dX2_letDaysGoBy_52 rfl (lv_at hl 1 rfl) ?_
        refine lv_aload_n hx hb dX2_letDaysGoBy_53 rfl (lv_at hl 3 rfl) ?_
        refine va_get (D := (dC, dI)) (ci := 0) (v := .ref (k 4)) (C := RX0) (T := TX0) (N := 3) hx hb hts hinX0 hown hK hP 14 rfl rfl 2 (by decide) hf116 (fun _ h9 => h9) rfl dX2_letDaysGoBy_54 ?_
        refine lv_iload hx hb dX2_letDaysGoBy_57 (lv_at hl 0 rfl) ?_
        refine va_iald (cA := cI) (n := 30) (f := M 3) hx hb hK hP 17 0 rfl rfl (date_in hdT2_0 (by omega)) dX2_letDaysGoBy_59 ?_
        obtain ⟨S7, eS7⟩ : ∃ z : sS, z = sl_lose h w S6 (M 3 ((T2_0 0 2) - (T2_0 0 2) / 30 * 30).toNatClampNeg) := ⟨_, rfl⟩
        refine zV_V (pre := ([] : va_W)) (wc := sW cI a S6) (post := (kW cI k M)) (w1 := sW cI a S7) ⟨hx, hb, hml, hown, hts⟩ (by rw [eS7]; exact c_X2_loseWater l dC dI cI a h w S6 (M 3 ((T2_0 0 2) - (T2_0 0 2) / 30 * 30).toNatClampNeg) hGS6) (cwV 1 hts gX2_letDaysGoBy_X2_loseWater rfl rfl rfl (by decide +kernel) ⟨Nat.le_of_ble_eq_true rfl, Nat.le_of_ble_eq_true rfl⟩) (by simp only [List.append_assoc, List.append_nil, List.nil_append]) hK hN (ci := 2) (q0 := 0) rfl rfl rfl hP hD hS hA rfl hl.1 rfl (Nat.le_of_ble_eq_true rfl) dX2_letDaysGoBy_60 ⟨Nat.le_of_ble_eq_true rfl, Nat.le_of_ble_eq_true rfl⟩ (fun H locs hP hD hS => ?_)
        have hP : va_P (dC, dI) vwCl (sW cI a S7 ++ kW cI k M) H := by simpa only [List.append_assoc, List.append_nil, List.nil_append] using hP
        have hD : va_D A (sW cI a S7 ++ kW cI k M) := by simpa only [List.append_assoc, List.append_nil, List.nil_append] using hD
        have hGS7 : geo h w S7 := by rw [eS7]; exact geo_sam hGS6 (sam_lose h w S6 (M 3 ((T2_0 0 2) - (T2_0 0 2) / 30 * 30).toNatClampNeg))
        refine lv_aload_n hx hb dX2_letDaysGoBy_63 rfl (lv_at hl 1 rfl) ?_
        obtain ⟨S8, eS8⟩ : ∃ z : sS, z = sl_rice h w S7 := ⟨_, rfl⟩
        refine zV_V (pre := ([] : va_W)) (wc := sW cI a S7) (post := (kW cI k M)) (w1 := sW cI a S8) ⟨hx, hb, hml, hown, hts⟩ (by rw [eS8]; exact c_X2_growRice l dC dI cI a h w S7 hGS7) (cwV 0 hts gX2_letDaysGoBy_X2_growRice rfl rfl rfl (by decide +kernel) ⟨Nat.le_of_ble_eq_true rfl, Nat.le_of_ble_eq_true rfl⟩) (by simp only [List.append_assoc, List.append_nil, List.nil_append]) hK hN (ci := 2) (q0 := 0) rfl rfl rfl hP hD hS hA rfl hl.1 rfl (Nat.le_of_ble_eq_true rfl) dX2_letDaysGoBy_64 ⟨Nat.le_of_ble_eq_true rfl, Nat.le_of_ble_eq_true rfl⟩ (fun H locs hP hD hS => ?_)
        have hP : va_P (dC, dI) vwCl (sW cI a S8 ++ kW cI k M) H := by simpa only [List.append_assoc, List.append_nil, List.nil_append] using hP
        have hD : va_D A (sW cI a S8 ++ kW cI k M) := by simpa only [List.append_assoc, List.append_nil, List.nil_append] using hD
        have hGS8 : geo h w S8 := by rw [eS8]; exact geo_sam hGS7 (sam_rice h w S7)
        refine lv_iinc (v := nI (i2 + 1)) (lv' := [(3, .int (nI (i2 + 1))), (4, .int ((T2_0 0 2) - (T2_0 0 2) / 30 * 30)), (0, .ref (a 0)), (1, .int (nI n)), (2, .ref (k 1))]) hx hb dX2_letDaysGoBy_67 hl (k := 4) rfl (show nI i2 + Int32.ofInt 1 = nI (i2 + 1) from nI_1 i2) (by decide) rfl (fun ls hl => ?_)
        refine lv_goto (tgt := 2) hx hb dX2_letDaysGoBy_70 (by decide) ?_
        exact ih2 (i2 + 1) S8 _ _ ls (by omega) (by rw [show S8 = sl_day h w M T2_0 from (by rw [eS8, eS7, eS6, eS5, eS4, eS3]; rfl), eT2_0]; rfl) (by rw [show S8 = sl_day h w M T2_0 from (by rw [eS8, eS7, eS6, eS5, eS4, eS3]; rfl)]; exact geo_day hGT2_0 M) (by rw [show S8 = sl_day h w M T2_0 from (by rw [eS8, eS7, eS6, eS5, eS4, eS3]; rfl)]; exact day_day hdT2_0 M) hP hD hS (lv_sub hl [2, 3, 4, 0] rfl)
  exact lp2 (n) 0 S _ _ ls (by omega) rfl (hG0) (hd) hP hD hS (lv_sub hl [1, 2, 3, 0] rfl)

set_option maxHeartbeats 4000000 in
set_option maxRecDepth 100000 in
theorem c_X2_letFieldFlow (l : Launch) (dC : Nat → ClassId) (dI : Nat → Nat → Nat) (cI : ClassId) (a : Nat → Nat) (h w : Nat) (S : sS) (t f : Int32) (hG0 : geo h w S) (hH : ¬ sl_has S t f = 0) : zV l yX2_letFieldFlow wsX2_letFieldFlow { frames := 2, cells := 0, slots := 0, locals := 45 } (dC, dI) cI [.ref (a 0), .int t, .int f] (sW cI a S) (sW cI a (sl_flow S t f)) := by
  refine zV_of (cc := cX2_letFieldFlow) (maxL := 6) (ret := none) (by decide) rfl (Nat.le_of_ble_eq_true rfl) ?_
  intro p e s m below meth c A ls C0 hl
  obtain ⟨hx, hb, hr, hml, hown, hts, hlocks, hK, hN, hA, hP, hD, hS⟩ := C0
  have hown : s.vm.findClass RX2 = some m.cls := hown
  have hl : lv_has ls 6 [(0, .ref (a 0)), (1, .int t), (2, .int f)] := hl
  have hf15 := hts (.fieldLink RX2 15 "PaddyTerraces$Slope" "depth" "[I") (by decide +kernel)
  have hf18 := hts (.fieldLink RX2 18 "PaddyTerraces$Slope" "bank" "[I") (by decide +kernel)
  have hf24 := hts (.fieldLink RX2 24 "PaddyTerraces$Slope" "stone" "[I") (by decide +kernel)
  have hf27 := hts (.fieldLink RX2 27 "PaddyTerraces$Slope" "side" "[I") (by decide +kernel)
  have hf45 := hts (.fieldLink RX2 45 "PaddyTerraces$Slope" "wentOut" "[I") (by decide +kernel)
  have hf48 := hts (.fieldLink RX2 48 "PaddyTerraces$Slope" "spilled" "[I") (by decide +kernel)
  have hc_max := hts (.code Lib.Math.max.name Lib.Math.max.code 2 (some .int)) (by decide +kernel)
  have hc_min := hts (.code Lib.Math.min.name Lib.Math.min.code 2 (some .int)) (by decide +kernel)
  have hi_Math := hts (.initialized "java/lang/Math") (by decide +kernel)
  have hm132 := hts (.methodLink RX2 132 Lib.Math.max.name) (by decide +kernel)
  have hm137 := hts (.methodLink RX2 137 Lib.Math.min.name) (by decide +kernel)
  have hs_max := hts (.static Lib.Math.max.name) (by decide +kernel)
  have hs_min := hts (.static Lib.Math.min.name) (by decide +kernel)
  have hinX2 : ∀ w ∈ wsX20, w ∈ wsX2_letFieldFlow := by decide +kernel
  have hS0 := hS
  have hN64 := geo_hw hG0
  have hW9 := geo_w hG0
  obtain ⟨-, -, hh2, hh8, hw2, hw8⟩ := id hG0
  refine lv_aload_n hx hb dX2_letFieldFlow_0 rfl (lv_at hl 0 rfl) ?_
  refine lv_iload_n hx hb dX2_letFieldFlow_1 rfl (lv_at hl 1 rfl) ?_
  refine lv_iload_n hx hb dX2_letFieldFlow_2 rfl (lv_at hl 2 rfl) ?_
  refine zI_V (pre := ([] : va_W)) (wc := sW cI a S) (post := ([] : va_W)) (w1 := sW cI a S) ⟨hx, hb, hml, hown, hts⟩ (c_X2_cellOf l dC dI cI a S t f) (cwV 2 hts gX2_letFieldFlow_X2_cellOf rfl rfl rfl (by decide +kernel) ⟨Nat.le_of_ble_eq_true rfl, Nat.le_of_ble_eq_true rfl⟩) (by simp only [List.append_assoc, List.append_nil, List.nil_append]) hK hN (ci := 2) (q0 := 0) rfl rfl rfl hP hD hS hA rfl hl.1 rfl (Nat.le_of_ble_eq_true rfl) dX2_letFieldFlow_3 ⟨Nat.le_of_ble_eq_true rfl, Nat.le_of_ble_eq_true rfl⟩ (fun H locs hP hD hS => ?_)
  have hP : va_P (dC, dI) vwCl (sW cI a S) H := by simpa only [List.append_assoc, List.append_nil, List.nil_append] using hP
  have hD : va_D A (sW cI a S) := by simpa only [List.append_assoc, List.append_nil, List.nil_append] using hD
  refine lv_istore_n (lv' := [(3, .int (sl_at S t f)), (0, .ref (a 0)), (1, .int t), (2, .int f)]) hx hb dX2_letFieldFlow_6 rfl hl (by decide) rfl (fun ls hl => ?_)
  refine lv_aload_n hx hb dX2_letFieldFlow_7 rfl (lv_at hl 1 rfl) ?_
  refine va_get (D := (dC, dI)) (ci := 2) (v := .ref (a 2)) (C := RX2) (T := TX2) (N := 18) hx hb hts hinX2 hown hK hP 0 rfl rfl 6 (by decide) hf15 (fun _ h9 => h9) rfl dX2_letFieldFlow_8 ?_
  refine lv_iload_n hx hb dX2_letFieldFlow_11 rfl (lv_at hl 0 rfl) ?_
  refine va_iald (cA := cI) (n := 64) (f := S 2) hx hb hK hP 2 0 rfl rfl (geo_in hG0 hH) dX2_letFieldFlow_12 ?_
  refine lv_aload_n hx hb dX2_letFieldFlow_13 rfl (lv_at hl 1 rfl) ?_
  refine va_get (D := (dC, dI)) (ci := 2) (v := .ref (a 5)) (C := RX2) (T := TX2) (N := 18) hx hb hts hinX2 hown hK hP 0 rfl rfl 9 (by decide) hf24 (fun _ h9 => h9) rfl dX2_letFieldFlow_14 ?_
  refine lv_iload_n hx hb dX2_letFieldFlow_17 rfl (lv_at hl 0 rfl) ?_
  refine va_iald (cA := cI) (n := 64) (f := S 5) hx hb hK hP 5 0 rfl rfl (geo_in hG0 hH) dX2_letFieldFlow_18 ?_
  refine lv_isub hx hb dX2_letFieldFlow_19 ?_
  refine lv_iconst (v := 0) hx hb dX2_letFieldFlow_20 (by decide) ?_
  refine va_mmax hx hb (hml.trans hl.1.symm) hown hm132 hs_max hi_Math hc_max (Nat.le_of_ble_eq_true rfl) (Nat.le_of_ble_eq_true rfl) (Nat.le_of_ble_eq_true rfl) (Nat.le_of_ble_eq_true rfl) dX2_letFieldFlow_21 ?_
  refine lv_bipush (v := 40) hx hb dX2_letFieldFlow_24 (by decide) ?_
  refine va_mmin hx hb (hml.trans hl.1.symm) hown hm137 hs_min hi_Math hc_min (Nat.le_of_ble_eq_true rfl) (Nat.le_of_ble_eq_true rfl) (Nat.le_of_ble_eq_true rfl) (Nat.le_of_ble_eq_true rfl) dX2_letFieldFlow_26 ?_
  refine lv_istore (lv' := [(4, .int (zmin (zmax ((S 2 (sl_at S t f).toNatClampNeg) - (S 5 (sl_at S t f).toNatClampNeg)) 0) 40)), (3, .int (sl_at S t f)), (0, .ref (a 0)), (1, .int t), (2, .int f)]) hx hb dX2_letFieldFlow_29 hl (by decide) rfl (fun ls hl => ?_)
  refine lv_aload_n hx hb dX2_letFieldFlow_31 rfl (lv_at hl 2 rfl) ?_
  refine va_get (D := (dC, dI)) (ci := 2) (v := .ref (a 12)) (C := RX2) (T := TX2) (N := 18) hx hb hts hinX2 hown hK hP 0 rfl rfl 16 (by decide) hf45 (fun _ h9 => h9) rfl dX2_letFieldFlow_32 ?_
  refine lv_iload_n hx hb dX2_letFieldFlow_35 rfl (lv_at hl 1 rfl) ?_
  refine lv_iload hx hb dX2_letFieldFlow_36 (lv_at hl 0 rfl) ?_
  obtain ⟨S1, eS1⟩ : ∃ z : sS, z = s_put S 12 ((sl_at S t f).toNatClampNeg) (zmin (zmax ((S 2 (sl_at S t f).toNatClampNeg) - (S 5 (sl_at S t f).toNatClampNeg)) 0) 40) := ⟨_, rfl⟩
  refine va_iast (cA := cI) (n := 64) (f := S 12) hx hb hK hP hD hS 12 0 rfl rfl (geo_in hG0 hH) dX2_letFieldFlow_38 (fun H locs hP hD hS => ?_)
  have hP : va_P (dC, dI) vwCl (sW cI a S1) H := by rw [eS1]; exact hP
  have hD : va_D A (sW cI a S1) := by rw [eS1]; exact hD
  have hGS1 : geo h w S1 := by rw [eS1]; exact geo_put hG0 (Or.inl (by decide)) _
  refine lv_aload_n hx hb dX2_letFieldFlow_39 rfl (lv_at hl 2 rfl) ?_
  refine va_get (D := (dC, dI)) (ci := 2) (v := .ref (a 2)) (C := RX2) (T := TX2) (N := 18) hx hb hts hinX2 hown hK hP 0 rfl rfl 6 (by decide) hf15 (fun _ h9 => h9) rfl dX2_letFieldFlow_40 ?_
  refine lv_iload_n hx hb dX2_letFieldFlow_43 rfl (lv_at hl 1 rfl) ?_
  refine lv_dup2_11 hx hb dX2_letFieldFlow_44 rfl rfl ?_
  refine va_iald (cA := cI) (n := 64) (f := S1 2) hx hb hK hP 2 0 rfl rfl (geo_in hG0 hH) dX2_letFieldFlow_45 ?_
  refine lv_iload hx hb dX2_letFieldFlow_46 (lv_at hl 0 rfl) ?_
  refine lv_isub hx hb dX2_letFieldFlow_48 ?_
  obtain ⟨S2, eS2⟩ : ∃ z : sS, z = s_put S1 2 ((sl_at S t f).toNatClampNeg) ((S1 2 (sl_at S t f).toNatClampNeg) - (zmin (zmax ((S 2 (sl_at S t f).toNatClampNeg) - (S 5 (sl_at S t f).toNatClampNeg)) 0) 40)) := ⟨_, rfl⟩
  refine va_iast (cA := cI) (n := 64) (f := S1 2) hx hb hK hP hD hS 2 0 rfl rfl (geo_in hG0 hH) dX2_letFieldFlow_49 (fun H locs hP hD hS => ?_)
  have hP : va_P (dC, dI) vwCl (sW cI a S2) H := by rw [eS2]; exact hP
  have hD : va_D A (sW cI a S2) := by rw [eS2]; exact hD
  have hGS2 : geo h w S2 := by rw [eS2]; exact geo_put hGS1 (Or.inl (by decide)) _
  refine lv_aload_n hx hb dX2_letFieldFlow_50 rfl (lv_at hl 2 rfl) ?_
  refine lv_iload_n hx hb dX2_letFieldFlow_51 rfl (lv_at hl 3 rfl) ?_
  refine lv_iconst (v := 1) hx hb dX2_letFieldFlow_52 (by decide) ?_
  refine lv_iadd hx hb dX2_letFieldFlow_53 ?_
  refine lv_iload_n hx hb dX2_letFieldFlow_54 rfl (lv_at hl 4 rfl) ?_
  refine lv_aload_n hx hb dX2_letFieldFlow_55 rfl (lv_at hl 2 rfl) ?_
  refine va_get (D := (dC, dI)) (ci := 2) (v := .ref (a 6)) (C := RX2) (T := TX2) (N := 18) hx hb hts hinX2 hown hK hP 0 rfl rfl 10 (by decide) hf27 (fun _ h9 => h9) rfl dX2_letFieldFlow_56 ?_
  refine lv_iload_n hx hb dX2_letFieldFlow_59 rfl (lv_at hl 1 rfl) ?_
  refine va_iald (cA := cI) (n := 64) (f := S2 6) hx hb hK hP 6 0 rfl rfl (geo_in hG0 hH) dX2_letFieldFlow_60 ?_
  refine lv_iadd hx hb dX2_letFieldFlow_61 ?_
  refine lv_iload hx hb dX2_letFieldFlow_62 (lv_at hl 0 rfl) ?_
  obtain ⟨S3, eS3⟩ : ∃ z : sS, z = sl_bring S2 (t + 1) (f + (S2 6 (sl_at S t f).toNatClampNeg)) (zmin (zmax ((S 2 (sl_at S t f).toNatClampNeg) - (S 5 (sl_at S t f).toNatClampNeg)) 0) 40) := ⟨_, rfl⟩
  refine zV_V (pre := ([] : va_W)) (wc := sW cI a S2) (post := ([] : va_W)) (w1 := sW cI a S3) ⟨hx, hb, hml, hown, hts⟩ (by rw [eS3]; exact c_X2_bringWater l dC dI cI a h w S2 (t + 1) (f + (S2 6 (sl_at S t f).toNatClampNeg)) (zmin (zmax ((S 2 (sl_at S t f).toNatClampNeg) - (S 5 (sl_at S t f).toNatClampNeg)) 0) 40) hGS2) (cwV 3 hts gX2_letFieldFlow_X2_bringWater rfl rfl rfl (by decide +kernel) ⟨Nat.le_of_ble_eq_true rfl, Nat.le_of_ble_eq_true rfl⟩) (by simp only [List.append_assoc, List.append_nil, List.nil_append]) hK hN (ci := 2) (q0 := 0) rfl rfl rfl hP hD hS hA rfl hl.1 rfl (Nat.le_of_ble_eq_true rfl) dX2_letFieldFlow_64 ⟨Nat.le_of_ble_eq_true rfl, Nat.le_of_ble_eq_true rfl⟩ (fun H locs hP hD hS => ?_)
  have hP : va_P (dC, dI) vwCl (sW cI a S3) H := by simpa only [List.append_assoc, List.append_nil, List.nil_append] using hP
  have hD : va_D A (sW cI a S3) := by simpa only [List.append_assoc, List.append_nil, List.nil_append] using hD
  have hGS3 : geo h w S3 := by rw [eS3]; exact geo_sam hGS2 (sam_bring S2 (t + 1) (f + (S2 6 (sl_at S t f).toNatClampNeg)) (zmin (zmax ((S 2 (sl_at S t f).toNatClampNeg) - (S 5 (sl_at S t f).toNatClampNeg)) 0) 40))
  refine lv_aload_n hx hb dX2_letFieldFlow_67 rfl (lv_at hl 2 rfl) ?_
  refine va_get (D := (dC, dI)) (ci := 2) (v := .ref (a 2)) (C := RX2) (T := TX2) (N := 18) hx hb hts hinX2 hown hK hP 0 rfl rfl 6 (by decide) hf15 (fun _ h9 => h9) rfl dX2_letFieldFlow_68 ?_
  refine lv_iload_n hx hb dX2_letFieldFlow_71 rfl (lv_at hl 1 rfl) ?_
  refine va_iald (cA := cI) (n := 64) (f := S3 2) hx hb hK hP 2 0 rfl rfl (geo_in hG0 hH) dX2_letFieldFlow_72 ?_
  refine lv_aload_n hx hb dX2_letFieldFlow_73 rfl (lv_at hl 2 rfl) ?_
  refine va_get (D := (dC, dI)) (ci := 2) (v := .ref (a 3)) (C := RX2) (T := TX2) (N := 18) hx hb hts hinX2 hown hK hP 0 rfl rfl 7 (by decide) hf18 (fun _ h9 => h9) rfl dX2_letFieldFlow_74 ?_
  refine lv_iload_n hx hb dX2_letFieldFlow_77 rfl (lv_at hl 1 rfl) ?_
  refine va_iald (cA := cI) (n := 64) (f := S3 3) hx hb hK hP 3 0 rfl rfl (geo_in hG0 hH) dX2_letFieldFlow_78 ?_
  refine lv_isub hx hb dX2_letFieldFlow_79 ?_
  refine lv_iconst (v := 0) hx hb dX2_letFieldFlow_80 (by decide) ?_
  refine va_mmax hx hb (hml.trans hl.1.symm) hown hm132 hs_max hi_Math hc_max (Nat.le_of_ble_eq_true rfl) (Nat.le_of_ble_eq_true rfl) (Nat.le_of_ble_eq_true rfl) (Nat.le_of_ble_eq_true rfl) dX2_letFieldFlow_81 ?_
  refine lv_istore (lv' := [(5, .int (zmax ((S3 2 (sl_at S t f).toNatClampNeg) - (S3 3 (sl_at S t f).toNatClampNeg)) 0)), (4, .int (zmin (zmax ((S 2 (sl_at S t f).toNatClampNeg) - (S 5 (sl_at S t f).toNatClampNeg)) 0) 40)), (3, .int (sl_at S t f)), (0, .ref (a 0)), (1, .int t), (2, .int f)]) hx hb dX2_letFieldFlow_84 hl (by decide) rfl (fun ls hl => ?_)
  refine lv_aload_n hx hb dX2_letFieldFlow_86 rfl (lv_at hl 3 rfl) ?_
  refine va_get (D := (dC, dI)) (ci := 2) (v := .ref (a 13)) (C := RX2) (T := TX2) (N := 18) hx hb hts hinX2 hown hK hP 0 rfl rfl 17 (by decide) hf48 (fun _ h9 => h9) rfl dX2_letFieldFlow_87 ?_
  refine lv_iload_n hx hb dX2_letFieldFlow_90 rfl (lv_at hl 2 rfl) ?_
  refine lv_iload hx hb dX2_letFieldFlow_91 (lv_at hl 0 rfl) ?_
  obtain ⟨S4, eS4⟩ : ∃ z : sS, z = s_put S3 13 ((sl_at S t f).toNatClampNeg) (zmax ((S3 2 (sl_at S t f).toNatClampNeg) - (S3 3 (sl_at S t f).toNatClampNeg)) 0) := ⟨_, rfl⟩
  refine va_iast (cA := cI) (n := 64) (f := S3 13) hx hb hK hP hD hS 13 0 rfl rfl (geo_in hG0 hH) dX2_letFieldFlow_93 (fun H locs hP hD hS => ?_)
  have hP : va_P (dC, dI) vwCl (sW cI a S4) H := by rw [eS4]; exact hP
  have hD : va_D A (sW cI a S4) := by rw [eS4]; exact hD
  have hGS4 : geo h w S4 := by rw [eS4]; exact geo_put hGS3 (Or.inl (by decide)) _
  refine lv_aload_n hx hb dX2_letFieldFlow_94 rfl (lv_at hl 3 rfl) ?_
  refine va_get (D := (dC, dI)) (ci := 2) (v := .ref (a 2)) (C := RX2) (T := TX2) (N := 18) hx hb hts hinX2 hown hK hP 0 rfl rfl 6 (by decide) hf15 (fun _ h9 => h9) rfl dX2_letFieldFlow_95 ?_
  refine lv_iload_n hx hb dX2_letFieldFlow_98 rfl (lv_at hl 2 rfl) ?_
  refine lv_dup2_11 hx hb dX2_letFieldFlow_99 rfl rfl ?_
  refine va_iald (cA := cI) (n := 64) (f := S4 2) hx hb hK hP 2 0 rfl rfl (geo_in hG0 hH) dX2_letFieldFlow_100 ?_
  refine lv_iload hx hb dX2_letFieldFlow_101 (lv_at hl 0 rfl) ?_
  refine lv_isub hx hb dX2_letFieldFlow_103 ?_
  obtain ⟨S5, eS5⟩ : ∃ z : sS, z = s_put S4 2 ((sl_at S t f).toNatClampNeg) ((S4 2 (sl_at S t f).toNatClampNeg) - (zmax ((S3 2 (sl_at S t f).toNatClampNeg) - (S3 3 (sl_at S t f).toNatClampNeg)) 0)) := ⟨_, rfl⟩
  refine va_iast (cA := cI) (n := 64) (f := S4 2) hx hb hK hP hD hS 2 0 rfl rfl (geo_in hG0 hH) dX2_letFieldFlow_104 (fun H locs hP hD hS => ?_)
  have hP : va_P (dC, dI) vwCl (sW cI a S5) H := by rw [eS5]; exact hP
  have hD : va_D A (sW cI a S5) := by rw [eS5]; exact hD
  have hGS5 : geo h w S5 := by rw [eS5]; exact geo_put hGS4 (Or.inl (by decide)) _
  refine lv_aload_n hx hb dX2_letFieldFlow_105 rfl (lv_at hl 3 rfl) ?_
  refine lv_iload_n hx hb dX2_letFieldFlow_106 rfl (lv_at hl 4 rfl) ?_
  refine lv_iload_n hx hb dX2_letFieldFlow_107 rfl (lv_at hl 5 rfl) ?_
  refine lv_iconst (v := 1) hx hb dX2_letFieldFlow_108 (by decide) ?_
  refine lv_isub hx hb dX2_letFieldFlow_109 ?_
  refine lv_iload hx hb dX2_letFieldFlow_110 (lv_at hl 0 rfl) ?_
  refine lv_iconst (v := 2) hx hb dX2_letFieldFlow_112 (by decide) ?_
  refine lv_idiv hx hb dX2_letFieldFlow_113 (by decide) ?_
  obtain ⟨S6, eS6⟩ : ∃ z : sS, z = sl_bring S5 t (f - 1) ((zmax ((S3 2 (sl_at S t f).toNatClampNeg) - (S3 3 (sl_at S t f).toNatClampNeg)) 0) / 2) := ⟨_, rfl⟩
  refine zV_V (pre := ([] : va_W)) (wc := sW cI a S5) (post := ([] : va_W)) (w1 := sW cI a S6) ⟨hx, hb, hml, hown, hts⟩ (by rw [eS6]; exact c_X2_bringWater l dC dI cI a h w S5 t (f - 1) ((zmax ((S3 2 (sl_at S t f).toNatClampNeg) - (S3 3 (sl_at S t f).toNatClampNeg)) 0) / 2) hGS5) (cwV 3 hts gX2_letFieldFlow_X2_bringWater rfl rfl rfl (by decide +kernel) ⟨Nat.le_of_ble_eq_true rfl, Nat.le_of_ble_eq_true rfl⟩) (by simp only [List.append_assoc, List.append_nil, List.nil_append]) hK hN (ci := 2) (q0 := 0) rfl rfl rfl hP hD hS hA rfl hl.1 rfl (Nat.le_of_ble_eq_true rfl) dX2_letFieldFlow_114 ⟨Nat.le_of_ble_eq_true rfl, Nat.le_of_ble_eq_true rfl⟩ (fun H locs hP hD hS => ?_)
  have hP : va_P (dC, dI) vwCl (sW cI a S6) H := by simpa only [List.append_assoc, List.append_nil, List.nil_append] using hP
  have hD : va_D A (sW cI a S6) := by simpa only [List.append_assoc, List.append_nil, List.nil_append] using hD
  have hGS6 : geo h w S6 := by rw [eS6]; exact geo_sam hGS5 (sam_bring S5 t (f - 1) ((zmax ((S3 2 (sl_at S t f).toNatClampNeg) - (S3 3 (sl_at S t f).toNatClampNeg)) 0) / 2))
  refine lv_aload_n hx hb dX2_letFieldFlow_117 rfl (lv_at hl 3 rfl) ?_
  refine lv_iload_n hx hb dX2_letFieldFlow_118 rfl (lv_at hl 4 rfl) ?_
  refine lv_iload_n hx hb dX2_letFieldFlow_119 rfl (lv_at hl 5 rfl) ?_
  refine lv_iconst (v := 1) hx hb dX2_letFieldFlow_120 (by decide) ?_
  refine lv_iadd hx hb dX2_letFieldFlow_121 ?_
  refine lv_iload hx hb dX2_letFieldFlow_122 (lv_at hl 0 rfl) ?_
  refine lv_iload hx hb dX2_letFieldFlow_124 (lv_at hl 0 rfl) ?_
  refine lv_iconst (v := 2) hx hb dX2_letFieldFlow_126 (by decide) ?_
  refine lv_idiv hx hb dX2_letFieldFlow_127 (by decide) ?_
  refine lv_isub hx hb dX2_letFieldFlow_128 ?_
  obtain ⟨S7, eS7⟩ : ∃ z : sS, z = sl_bring S6 t (f + 1) ((zmax ((S3 2 (sl_at S t f).toNatClampNeg) - (S3 3 (sl_at S t f).toNatClampNeg)) 0) - ((zmax ((S3 2 (sl_at S t f).toNatClampNeg) - (S3 3 (sl_at S t f).toNatClampNeg)) 0) / 2)) := ⟨_, rfl⟩
  refine zV_V (pre := ([] : va_W)) (wc := sW cI a S6) (post := ([] : va_W)) (w1 := sW cI a S7) ⟨hx, hb, hml, hown, hts⟩ (by rw [eS7]; exact c_X2_bringWater l dC dI cI a h w S6 t (f + 1) ((zmax ((S3 2 (sl_at S t f).toNatClampNeg) - (S3 3 (sl_at S t f).toNatClampNeg)) 0) - ((zmax ((S3 2 (sl_at S t f).toNatClampNeg) - (S3 3 (sl_at S t f).toNatClampNeg)) 0) / 2)) hGS6) (cwV 3 hts gX2_letFieldFlow_X2_bringWater rfl rfl rfl (by decide +kernel) ⟨Nat.le_of_ble_eq_true rfl, Nat.le_of_ble_eq_true rfl⟩) (by simp only [List.append_assoc, List.append_nil, List.nil_append]) hK hN (ci := 2) (q0 := 0) rfl rfl rfl hP hD hS hA rfl hl.1 rfl (Nat.le_of_ble_eq_true rfl) dX2_letFieldFlow_129 ⟨Nat.le_of_ble_eq_true rfl, Nat.le_of_ble_eq_true rfl⟩ (fun H locs hP hD hS => ?_)
  have hP : va_P (dC, dI) vwCl (sW cI a S7) H := by simpa only [List.append_assoc, List.append_nil, List.nil_append] using hP
  have hD : va_D A (sW cI a S7) := by simpa only [List.append_assoc, List.append_nil, List.nil_append] using hD
  have hGS7 : geo h w S7 := by rw [eS7]; exact geo_sam hGS6 (sam_bring S6 t (f + 1) ((zmax ((S3 2 (sl_at S t f).toNatClampNeg) - (S3 3 (sl_at S t f).toNatClampNeg)) 0) - ((zmax ((S3 2 (sl_at S t f).toNatClampNeg) - (S3 3 (sl_at S t f).toNatClampNeg)) 0) / 2)))
  have hZ : S7 = sl_flow S t f := (by (try rw [eS7]); (try rw [eS6]); (try rw [eS5]); (try rw [eS4]); (try rw [eS3]); (try rw [eS2]); (try rw [eS1]); first | done | rfl | (simp only [sl_flow, sl_flowA, sl_flowB, sl_flow1, sl_flow2, sl_out, sl_over]; done))
  rw [hZ] at hP hD
  exact zV_ret hx hb hr hlocks hP hD hS dX2_letFieldFlow_132

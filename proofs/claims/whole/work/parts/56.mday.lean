set_option maxHeartbeats 4000000 in
set_option maxRecDepth 100000 in
theorem c_X4_flow (l : Launch) (dC : Nat → ClassId) (dI : Nat → Nat → Nat) (cI : ClassId) (d : Nat → Nat) (h w : Nat) (O : sS) (t f : Int32) (hG0 : gem h w O) (hH : ¬ mi_isField O t f = 0) : zV l yX4_flow wsX4_flow { frames := 3, cells := 0, slots := 0, locals := 67 } (dC, dI) cI [.ref (d 0), .int t, .int f] (mW cI d O) (mW cI d (mi_flow O t f)) := by
  refine zV_of (cc := cX4_flow) (maxL := 6) (ret := none) (by decide) rfl (Nat.le_of_ble_eq_true rfl) ?_
  intro p e s m below meth c A ls C0 hl
  obtain ⟨hx, hb, hr, hml, hown, hts, hlocks, hK, hN, hA, hP, hD, hS⟩ := C0
  have hown : s.vm.findClass RX4 = some m.cls := hown
  have hl : lv_has ls 6 [(0, .ref (d 0)), (1, .int t), (2, .int f)] := hl
  have hf16 := hts (.fieldLink RX4 16 "PaddyTerracesModel" "fields" "[I") (by decide +kernel)
  have hc_max := hts (.code Lib.Math.max.name Lib.Math.max.code 2 (some .int)) (by decide +kernel)
  have hc_min := hts (.code Lib.Math.min.name Lib.Math.min.code 2 (some .int)) (by decide +kernel)
  have hi_Math := hts (.initialized "java/lang/Math") (by decide +kernel)
  have hm58 := hts (.methodLink RX4 58 Lib.Math.min.name) (by decide +kernel)
  have hm80 := hts (.methodLink RX4 80 Lib.Math.max.name) (by decide +kernel)
  have hs_max := hts (.static Lib.Math.max.name) (by decide +kernel)
  have hs_min := hts (.static Lib.Math.min.name) (by decide +kernel)
  have hinX4 : ∀ w ∈ wsX40, w ∈ wsX4_flow := by decide +kernel
  have hS0 := hS
  have hN64 := gem_hw hG0
  have hW9 := gem_w hG0
  obtain ⟨-, -, hh2, hh8, hw2, hw8⟩ := id hG0
  refine lv_aload_n hx hb dX4_flow_0 rfl (lv_at hl 0 rfl) ?_
  refine lv_iload_n hx hb dX4_flow_1 rfl (lv_at hl 1 rfl) ?_
  refine lv_iload_n hx hb dX4_flow_2 rfl (lv_at hl 2 rfl) ?_
  refine zI_V (pre := ([] : va_W)) (wc := mW cI d O) (post := ([] : va_W)) (w1 := mW cI d O) ⟨hx, hb, hml, hown, hts⟩ (c_X4_at l dC dI cI d O t f) (cwV 2 hts gX4_flow_X4_at rfl rfl rfl (by decide +kernel) ⟨Nat.le_of_ble_eq_true rfl, Nat.le_of_ble_eq_true rfl⟩) (by simp only [List.append_assoc, List.append_nil, List.nil_append]) hK hN (ci := 4) (q0 := 0) rfl rfl rfl hP hD hS hA rfl hl.1 rfl (Nat.le_of_ble_eq_true rfl) dX4_flow_3 ⟨Nat.le_of_ble_eq_true rfl, Nat.le_of_ble_eq_true rfl⟩ (fun H locs hP hD hS => ?_)
  have hP : va_P (dC, dI) vwCl (mW cI d O) H := by simpa only [List.append_assoc, List.append_nil, List.nil_append] using hP
  have hD : va_D A (mW cI d O) := by simpa only [List.append_assoc, List.append_nil, List.nil_append] using hD
  refine lv_istore_n (lv' := [(3, .int (mi_at O t f)), (0, .ref (d 0)), (1, .int t), (2, .int f)]) hx hb dX4_flow_6 rfl hl (by decide) rfl (fun ls hl => ?_)
  refine lv_iconst (v := 0) hx hb dX4_flow_7 (by decide) ?_
  refine lv_bipush (v := 40) hx hb dX4_flow_8 (by decide) ?_
  refine lv_aload_n hx hb dX4_flow_10 rfl (lv_at hl 1 rfl) ?_
  refine va_get (D := (dC, dI)) (ci := 4) (v := .ref (d 3)) (C := RX4) (T := TX4) (N := 7) hx hb hts hinX4 hown hK hP 0 rfl rfl 3 (by decide) hf16 (fun _ h9 => h9) rfl dX4_flow_11 ?_
  refine lv_iload_n hx hb dX4_flow_14 rfl (lv_at hl 0 rfl) ?_
  refine lv_iconst (v := 0) hx hb dX4_flow_15 (by decide) ?_
  refine lv_iadd hx hb dX4_flow_16 ?_
  refine va_iald (cA := cI) (n := 768) (f := O 3) hx hb hK hP 3 0 rfl rfl (frm_in (gem_frm hG0 hH) (j := 0) (by decide)) dX4_flow_17 ?_
  refine lv_aload_n hx hb dX4_flow_18 rfl (lv_at hl 1 rfl) ?_
  refine va_get (D := (dC, dI)) (ci := 4) (v := .ref (d 3)) (C := RX4) (T := TX4) (N := 7) hx hb hts hinX4 hown hK hP 0 rfl rfl 3 (by decide) hf16 (fun _ h9 => h9) rfl dX4_flow_19 ?_
  refine lv_iload_n hx hb dX4_flow_22 rfl (lv_at hl 0 rfl) ?_
  refine lv_iconst (v := 3) hx hb dX4_flow_23 (by decide) ?_
  refine lv_iadd hx hb dX4_flow_24 ?_
  refine va_iald (cA := cI) (n := 768) (f := O 3) hx hb hK hP 3 0 rfl rfl (frm_in (gem_frm hG0 hH) (j := 3) (by decide)) dX4_flow_25 ?_
  refine lv_isub hx hb dX4_flow_26 ?_
  refine va_mminz hx hb (hml.trans hl.1.symm) hown hm58 hs_min hi_Math hc_min (Nat.le_of_ble_eq_true rfl) (Nat.le_of_ble_eq_true rfl) (Nat.le_of_ble_eq_true rfl) (Nat.le_of_ble_eq_true rfl) dX4_flow_27 ?_
  refine va_mmaxz hx hb (hml.trans hl.1.symm) hown hm80 hs_max hi_Math hc_max (Nat.le_of_ble_eq_true rfl) (Nat.le_of_ble_eq_true rfl) (Nat.le_of_ble_eq_true rfl) (Nat.le_of_ble_eq_true rfl) dX4_flow_30 ?_
  refine lv_istore (lv' := [(4, .int (zmax 0 (zmin 40 ((O 3 ((mi_at O t f) + 0).toNatClampNeg) - (O 3 ((mi_at O t f) + 3).toNatClampNeg))))), (3, .int (mi_at O t f)), (0, .ref (d 0)), (1, .int t), (2, .int f)]) hx hb dX4_flow_33 hl (by decide) rfl (fun ls hl => ?_)
  refine lv_aload_n hx hb dX4_flow_35 rfl (lv_at hl 2 rfl) ?_
  refine va_get (D := (dC, dI)) (ci := 4) (v := .ref (d 3)) (C := RX4) (T := TX4) (N := 7) hx hb hts hinX4 hown hK hP 0 rfl rfl 3 (by decide) hf16 (fun _ h9 => h9) rfl dX4_flow_36 ?_
  refine lv_iload_n hx hb dX4_flow_39 rfl (lv_at hl 1 rfl) ?_
  refine lv_iconst (v := 0) hx hb dX4_flow_40 (by decide) ?_
  refine lv_iadd hx hb dX4_flow_41 ?_
  refine lv_dup2_11 hx hb dX4_flow_42 rfl rfl ?_
  refine va_iald (cA := cI) (n := 768) (f := O 3) hx hb hK hP 3 0 rfl rfl (frm_in (gem_frm hG0 hH) (j := 0) (by decide)) dX4_flow_43 ?_
  refine lv_iload hx hb dX4_flow_44 (lv_at hl 0 rfl) ?_
  refine lv_isub hx hb dX4_flow_46 ?_
  obtain ⟨S1, eS1⟩ : ∃ z : sS, z = s_put O 3 (((mi_at O t f) + 0).toNatClampNeg) ((O 3 ((mi_at O t f) + 0).toNatClampNeg) - (zmax 0 (zmin 40 ((O 3 ((mi_at O t f) + 0).toNatClampNeg) - (O 3 ((mi_at O t f) + 3).toNatClampNeg))))) := ⟨_, rfl⟩
  refine va_iast (cA := cI) (n := 768) (f := O 3) hx hb hK hP hD hS 3 0 rfl rfl (frm_in (gem_frm hG0 hH) (j := 0) (by decide)) dX4_flow_47 (fun H locs hP hD hS => ?_)
  have hP : va_P (dC, dI) vwCl (mW cI d S1) H := by rw [eS1]; exact hP
  have hD : va_D A (mW cI d S1) := by rw [eS1]; exact hD
  have hGS1 : gem h w S1 := by rw [eS1]; exact gem_put hG0 (Or.inl (by decide)) _
  refine lv_aload_n hx hb dX4_flow_48 rfl (lv_at hl 2 rfl) ?_
  refine va_get (D := (dC, dI)) (ci := 4) (v := .ref (d 3)) (C := RX4) (T := TX4) (N := 7) hx hb hts hinX4 hown hK hP 0 rfl rfl 3 (by decide) hf16 (fun _ h9 => h9) rfl dX4_flow_49 ?_
  refine lv_iload_n hx hb dX4_flow_52 rfl (lv_at hl 1 rfl) ?_
  refine lv_bipush (v := 10) hx hb dX4_flow_53 (by decide) ?_
  refine lv_iadd hx hb dX4_flow_55 ?_
  refine lv_iload hx hb dX4_flow_56 (lv_at hl 0 rfl) ?_
  obtain ⟨S2, eS2⟩ : ∃ z : sS, z = s_put S1 3 (((mi_at O t f) + 10).toNatClampNeg) (zmax 0 (zmin 40 ((O 3 ((mi_at O t f) + 0).toNatClampNeg) - (O 3 ((mi_at O t f) + 3).toNatClampNeg)))) := ⟨_, rfl⟩
  refine va_iast (cA := cI) (n := 768) (f := S1 3) hx hb hK hP hD hS 3 0 rfl rfl (frm_in (gem_frm hG0 hH) (j := 10) (by decide)) dX4_flow_58 (fun H locs hP hD hS => ?_)
  have hP : va_P (dC, dI) vwCl (mW cI d S2) H := by rw [eS2]; exact hP
  have hD : va_D A (mW cI d S2) := by rw [eS2]; exact hD
  have hGS2 : gem h w S2 := by rw [eS2]; exact gem_put hGS1 (Or.inl (by decide)) _
  refine lv_aload_n hx hb dX4_flow_59 rfl (lv_at hl 2 rfl) ?_
  refine lv_iload_n hx hb dX4_flow_60 rfl (lv_at hl 3 rfl) ?_
  refine lv_iconst (v := 1) hx hb dX4_flow_61 (by decide) ?_
  refine lv_iadd hx hb dX4_flow_62 ?_
  refine lv_iload_n hx hb dX4_flow_63 rfl (lv_at hl 4 rfl) ?_
  refine lv_aload_n hx hb dX4_flow_64 rfl (lv_at hl 2 rfl) ?_
  refine va_get (D := (dC, dI)) (ci := 4) (v := .ref (d 3)) (C := RX4) (T := TX4) (N := 7) hx hb hts hinX4 hown hK hP 0 rfl rfl 3 (by decide) hf16 (fun _ h9 => h9) rfl dX4_flow_65 ?_
  refine lv_iload_n hx hb dX4_flow_68 rfl (lv_at hl 1 rfl) ?_
  refine lv_iconst (v := 4) hx hb dX4_flow_69 (by decide) ?_
  refine lv_iadd hx hb dX4_flow_70 ?_
  refine va_iald (cA := cI) (n := 768) (f := S2 3) hx hb hK hP 3 0 rfl rfl (frm_in (gem_frm hG0 hH) (j := 4) (by decide)) dX4_flow_71 ?_
  refine lv_iadd hx hb dX4_flow_72 ?_
  refine lv_iload hx hb dX4_flow_73 (lv_at hl 0 rfl) ?_
  obtain ⟨S3, eS3⟩ : ∃ z : sS, z = mi_come S2 (t + 1) (f + (S2 3 ((mi_at O t f) + 4).toNatClampNeg)) (zmax 0 (zmin 40 ((O 3 ((mi_at O t f) + 0).toNatClampNeg) - (O 3 ((mi_at O t f) + 3).toNatClampNeg)))) := ⟨_, rfl⟩
  refine zV_V (pre := ([] : va_W)) (wc := mW cI d S2) (post := ([] : va_W)) (w1 := mW cI d S3) ⟨hx, hb, hml, hown, hts⟩ (by rw [eS3]; exact c_X4_come l dC dI cI d h w S2 (t + 1) (f + (S2 3 ((mi_at O t f) + 4).toNatClampNeg)) (zmax 0 (zmin 40 ((O 3 ((mi_at O t f) + 0).toNatClampNeg) - (O 3 ((mi_at O t f) + 3).toNatClampNeg)))) hGS2) (cwV 3 hts gX4_flow_X4_come rfl rfl rfl (by decide +kernel) ⟨Nat.le_of_ble_eq_true rfl, Nat.le_of_ble_eq_true rfl⟩) (by simp only [List.append_assoc, List.append_nil, List.nil_append]) hK hN (ci := 4) (q0 := 0) rfl rfl rfl hP hD hS hA rfl hl.1 rfl (Nat.le_of_ble_eq_true rfl) dX4_flow_75 ⟨Nat.le_of_ble_eq_true rfl, Nat.le_of_ble_eq_true rfl⟩ (fun H locs hP hD hS => ?_)
  have hP : va_P (dC, dI) vwCl (mW cI d S3) H := by simpa only [List.append_assoc, List.append_nil, List.nil_append] using hP
  have hD : va_D A (mW cI d S3) := by simpa only [List.append_assoc, List.append_nil, List.nil_append] using hD
  have hGS3 : gem h w S3 := by rw [eS3]; exact gem_sam hGS2 (sam4_come S2 (t + 1) (f + (S2 3 ((mi_at O t f) + 4).toNatClampNeg)) (zmax 0 (zmin 40 ((O 3 ((mi_at O t f) + 0).toNatClampNeg) - (O 3 ((mi_at O t f) + 3).toNatClampNeg)))))
  refine lv_iconst (v := 0) hx hb dX4_flow_78 (by decide) ?_
  refine lv_aload_n hx hb dX4_flow_79 rfl (lv_at hl 2 rfl) ?_
  refine va_get (D := (dC, dI)) (ci := 4) (v := .ref (d 3)) (C := RX4) (T := TX4) (N := 7) hx hb hts hinX4 hown hK hP 0 rfl rfl 3 (by decide) hf16 (fun _ h9 => h9) rfl dX4_flow_80 ?_
  refine lv_iload_n hx hb dX4_flow_83 rfl (lv_at hl 1 rfl) ?_
  refine lv_iconst (v := 0) hx hb dX4_flow_84 (by decide) ?_
  refine lv_iadd hx hb dX4_flow_85 ?_
  refine va_iald (cA := cI) (n := 768) (f := S3 3) hx hb hK hP 3 0 rfl rfl (frm_in (gem_frm hG0 hH) (j := 0) (by decide)) dX4_flow_86 ?_
  refine lv_aload_n hx hb dX4_flow_87 rfl (lv_at hl 2 rfl) ?_
  refine va_get (D := (dC, dI)) (ci := 4) (v := .ref (d 3)) (C := RX4) (T := TX4) (N := 7) hx hb hts hinX4 hown hK hP 0 rfl rfl 3 (by decide) hf16 (fun _ h9 => h9) rfl dX4_flow_88 ?_
  refine lv_iload_n hx hb dX4_flow_91 rfl (lv_at hl 1 rfl) ?_
  refine lv_iconst (v := 1) hx hb dX4_flow_92 (by decide) ?_
  refine lv_iadd hx hb dX4_flow_93 ?_
  refine va_iald (cA := cI) (n := 768) (f := S3 3) hx hb hK hP 3 0 rfl rfl (frm_in (gem_frm hG0 hH) (j := 1) (by decide)) dX4_flow_94 ?_
  refine lv_isub hx hb dX4_flow_95 ?_
  refine va_mmaxz hx hb (hml.trans hl.1.symm) hown hm80 hs_max hi_Math hc_max (Nat.le_of_ble_eq_true rfl) (Nat.le_of_ble_eq_true rfl) (Nat.le_of_ble_eq_true rfl) (Nat.le_of_ble_eq_true rfl) dX4_flow_96 ?_
  refine lv_istore (lv' := [(5, .int (zmax 0 ((S3 3 ((mi_at O t f) + 0).toNatClampNeg) - (S3 3 ((mi_at O t f) + 1).toNatClampNeg)))), (4, .int (zmax 0 (zmin 40 ((O 3 ((mi_at O t f) + 0).toNatClampNeg) - (O 3 ((mi_at O t f) + 3).toNatClampNeg))))), (3, .int (mi_at O t f)), (0, .ref (d 0)), (1, .int t), (2, .int f)]) hx hb dX4_flow_99 hl (by decide) rfl (fun ls hl => ?_)
  refine lv_aload_n hx hb dX4_flow_101 rfl (lv_at hl 3 rfl) ?_
  refine va_get (D := (dC, dI)) (ci := 4) (v := .ref (d 3)) (C := RX4) (T := TX4) (N := 7) hx hb hts hinX4 hown hK hP 0 rfl rfl 3 (by decide) hf16 (fun _ h9 => h9) rfl dX4_flow_102 ?_
  refine lv_iload_n hx hb dX4_flow_105 rfl (lv_at hl 2 rfl) ?_
  refine lv_iconst (v := 0) hx hb dX4_flow_106 (by decide) ?_
  refine lv_iadd hx hb dX4_flow_107 ?_
  refine lv_dup2_11 hx hb dX4_flow_108 rfl rfl ?_
  refine va_iald (cA := cI) (n := 768) (f := S3 3) hx hb hK hP 3 0 rfl rfl (frm_in (gem_frm hG0 hH) (j := 0) (by decide)) dX4_flow_109 ?_
  refine lv_iload hx hb dX4_flow_110 (lv_at hl 0 rfl) ?_
  refine lv_isub hx hb dX4_flow_112 ?_
  obtain ⟨S4, eS4⟩ : ∃ z : sS, z = s_put S3 3 (((mi_at O t f) + 0).toNatClampNeg) ((S3 3 ((mi_at O t f) + 0).toNatClampNeg) - (zmax 0 ((S3 3 ((mi_at O t f) + 0).toNatClampNeg) - (S3 3 ((mi_at O t f) + 1).toNatClampNeg)))) := ⟨_, rfl⟩
  refine va_iast (cA := cI) (n := 768) (f := S3 3) hx hb hK hP hD hS 3 0 rfl rfl (frm_in (gem_frm hG0 hH) (j := 0) (by decide)) dX4_flow_113 (fun H locs hP hD hS => ?_)
  have hP : va_P (dC, dI) vwCl (mW cI d S4) H := by rw [eS4]; exact hP
  have hD : va_D A (mW cI d S4) := by rw [eS4]; exact hD
  have hGS4 : gem h w S4 := by rw [eS4]; exact gem_put hGS3 (Or.inl (by decide)) _
  refine lv_aload_n hx hb dX4_flow_114 rfl (lv_at hl 3 rfl) ?_
  refine va_get (D := (dC, dI)) (ci := 4) (v := .ref (d 3)) (C := RX4) (T := TX4) (N := 7) hx hb hts hinX4 hown hK hP 0 rfl rfl 3 (by decide) hf16 (fun _ h9 => h9) rfl dX4_flow_115 ?_
  refine lv_iload_n hx hb dX4_flow_118 rfl (lv_at hl 2 rfl) ?_
  refine lv_bipush (v := 11) hx hb dX4_flow_119 (by decide) ?_
  refine lv_iadd hx hb dX4_flow_121 ?_
  refine lv_iload hx hb dX4_flow_122 (lv_at hl 0 rfl) ?_
  obtain ⟨S5, eS5⟩ : ∃ z : sS, z = s_put S4 3 (((mi_at O t f) + 11).toNatClampNeg) (zmax 0 ((S3 3 ((mi_at O t f) + 0).toNatClampNeg) - (S3 3 ((mi_at O t f) + 1).toNatClampNeg))) := ⟨_, rfl⟩
  refine va_iast (cA := cI) (n := 768) (f := S4 3) hx hb hK hP hD hS 3 0 rfl rfl (frm_in (gem_frm hG0 hH) (j := 11) (by decide)) dX4_flow_124 (fun H locs hP hD hS => ?_)
  have hP : va_P (dC, dI) vwCl (mW cI d S5) H := by rw [eS5]; exact hP
  have hD : va_D A (mW cI d S5) := by rw [eS5]; exact hD
  have hGS5 : gem h w S5 := by rw [eS5]; exact gem_put hGS4 (Or.inl (by decide)) _
  refine lv_aload_n hx hb dX4_flow_125 rfl (lv_at hl 3 rfl) ?_
  refine lv_iload_n hx hb dX4_flow_126 rfl (lv_at hl 4 rfl) ?_
  refine lv_iload_n hx hb dX4_flow_127 rfl (lv_at hl 5 rfl) ?_
  refine lv_iconst (v := 1) hx hb dX4_flow_128 (by decide) ?_
  refine lv_isub hx hb dX4_flow_129 ?_
  refine lv_iload hx hb dX4_flow_130 (lv_at hl 0 rfl) ?_
  refine lv_iconst (v := 2) hx hb dX4_flow_132 (by decide) ?_
  refine lv_idiv hx hb dX4_flow_133 (by decide) ?_
  obtain ⟨S6, eS6⟩ : ∃ z : sS, z = mi_come S5 t (f - 1) ((zmax 0 ((S3 3 ((mi_at O t f) + 0).toNatClampNeg) - (S3 3 ((mi_at O t f) + 1).toNatClampNeg))) / 2) := ⟨_, rfl⟩
  refine zV_V (pre := ([] : va_W)) (wc := mW cI d S5) (post := ([] : va_W)) (w1 := mW cI d S6) ⟨hx, hb, hml, hown, hts⟩ (by rw [eS6]; exact c_X4_come l dC dI cI d h w S5 t (f - 1) ((zmax 0 ((S3 3 ((mi_at O t f) + 0).toNatClampNeg) - (S3 3 ((mi_at O t f) + 1).toNatClampNeg))) / 2) hGS5) (cwV 3 hts gX4_flow_X4_come rfl rfl rfl (by decide +kernel) ⟨Nat.le_of_ble_eq_true rfl, Nat.le_of_ble_eq_true rfl⟩) (by simp only [List.append_assoc, List.append_nil, List.nil_append]) hK hN (ci := 4) (q0 := 0) rfl rfl rfl hP hD hS hA rfl hl.1 rfl (Nat.le_of_ble_eq_true rfl) dX4_flow_134 ⟨Nat.le_of_ble_eq_true rfl, Nat.le_of_ble_eq_true rfl⟩ (fun H locs hP hD hS => ?_)
  have hP : va_P (dC, dI) vwCl (mW cI d S6) H := by simpa only [List.append_assoc, List.append_nil, List.nil_append] using hP
  have hD : va_D A (mW cI d S6) := by simpa only [List.append_assoc, List.append_nil, List.nil_append] using hD
  have hGS6 : gem h w S6 := by rw [eS6]; exact gem_sam hGS5 (sam4_come S5 t (f - 1) ((zmax 0 ((S3 3 ((mi_at O t f) + 0).toNatClampNeg) - (S3 3 ((mi_at O t f) + 1).toNatClampNeg))) / 2))
  refine lv_aload_n hx hb dX4_flow_137 rfl (lv_at hl 3 rfl) ?_
  refine lv_iload_n hx hb dX4_flow_138 rfl (lv_at hl 4 rfl) ?_
  refine lv_iload_n hx hb dX4_flow_139 rfl (lv_at hl 5 rfl) ?_
  refine lv_iconst (v := 1) hx hb dX4_flow_140 (by decide) ?_
  refine lv_iadd hx hb dX4_flow_141 ?_
  refine lv_iload hx hb dX4_flow_142 (lv_at hl 0 rfl) ?_
  refine lv_iload hx hb dX4_flow_144 (lv_at hl 0 rfl) ?_
  refine lv_iconst (v := 2) hx hb dX4_flow_146 (by decide) ?_
  refine lv_idiv hx hb dX4_flow_147 (by decide) ?_
  refine lv_isub hx hb dX4_flow_148 ?_
  obtain ⟨S7, eS7⟩ : ∃ z : sS, z = mi_come S6 t (f + 1) ((zmax 0 ((S3 3 ((mi_at O t f) + 0).toNatClampNeg) - (S3 3 ((mi_at O t f) + 1).toNatClampNeg))) - ((zmax 0 ((S3 3 ((mi_at O t f) + 0).toNatClampNeg) - (S3 3 ((mi_at O t f) + 1).toNatClampNeg))) / 2)) := ⟨_, rfl⟩
  refine zV_V (pre := ([] : va_W)) (wc := mW cI d S6) (post := ([] : va_W)) (w1 := mW cI d S7) ⟨hx, hb, hml, hown, hts⟩ (by rw [eS7]; exact c_X4_come l dC dI cI d h w S6 t (f + 1) ((zmax 0 ((S3 3 ((mi_at O t f) + 0).toNatClampNeg) - (S3 3 ((mi_at O t f) + 1).toNatClampNeg))) - ((zmax 0 ((S3 3 ((mi_at O t f) + 0).toNatClampNeg) - (S3 3 ((mi_at O t f) + 1).toNatClampNeg))) / 2)) hGS6) (cwV 3 hts gX4_flow_X4_come rfl rfl rfl (by decide +kernel) ⟨Nat.le_of_ble_eq_true rfl, Nat.le_of_ble_eq_true rfl⟩) (by simp only [List.append_assoc, List.append_nil, List.nil_append]) hK hN (ci := 4) (q0 := 0) rfl rfl rfl hP hD hS hA rfl hl.1 rfl (Nat.le_of_ble_eq_true rfl) dX4_flow_149 ⟨Nat.le_of_ble_eq_true rfl, Nat.le_of_ble_eq_true rfl⟩ (fun H locs hP hD hS => ?_)
  have hP : va_P (dC, dI) vwCl (mW cI d S7) H := by simpa only [List.append_assoc, List.append_nil, List.nil_append] using hP
  have hD : va_D A (mW cI d S7) := by simpa only [List.append_assoc, List.append_nil, List.nil_append] using hD
  have hGS7 : gem h w S7 := by rw [eS7]; exact gem_sam hGS6 (sam4_come S6 t (f + 1) ((zmax 0 ((S3 3 ((mi_at O t f) + 0).toNatClampNeg) - (S3 3 ((mi_at O t f) + 1).toNatClampNeg))) - ((zmax 0 ((S3 3 ((mi_at O t f) + 0).toNatClampNeg) - (S3 3 ((mi_at O t f) + 1).toNatClampNeg))) / 2)))
  have hZ : S7 = mi_flow O t f := (by (try rw [eS7]); (try rw [eS6]); (try rw [eS5]); (try rw [eS4]); (try rw [eS3]); (try rw [eS2]); (try rw [eS1]); first | done | rfl | (simp only [mi_flow]; done))
  rw [hZ] at hP hD
  exact zV_ret hx hb hr hlocks hP hD hS dX4_flow_152
set_option maxHeartbeats 4000000 in
set_option maxRecDepth 100000 in
theorem c_X4_growRice (l : Launch) (dC : Nat → ClassId) (dI : Nat → Nat → Nat) (cI : ClassId) (d : Nat → Nat) (h w : Nat) (O : sS) (x : Int32) (hG0 : gem h w O) (hF : frm x) : zV l yX4_growRice wsX4_growRice { frames := 1, cells := 0, slots := 0, locals := 22 } (dC, dI) cI [.ref (d 0), .int x] (mW cI d O) (mW cI d (mi_grow O x)) := by
  refine zV_of (cc := cX4_growRice) (maxL := 6) (ret := none) (by decide) rfl (Nat.le_of_ble_eq_true rfl) ?_
  intro p e s m below meth c A ls C0 hl
  obtain ⟨hx, hb, hr, hml, hown, hts, hlocks, hK, hN, hA, hP, hD, hS⟩ := C0
  have hown : s.vm.findClass RX4 = some m.cls := hown
  have hl : lv_has ls 6 [(0, .ref (d 0)), (1, .int x)] := hl
  have hf9 := hts (.fieldLink RX4 9 "PaddyTerracesModel" "n" "[I") (by decide +kernel)
  have hf16 := hts (.fieldLink RX4 16 "PaddyTerracesModel" "fields" "[I") (by decide +kernel)
  have hc_max := hts (.code Lib.Math.max.name Lib.Math.max.code 2 (some .int)) (by decide +kernel)
  have hc_min := hts (.code Lib.Math.min.name Lib.Math.min.code 2 (some .int)) (by decide +kernel)
  have hi_Math := hts (.initialized "java/lang/Math") (by decide +kernel)
  have hm58 := hts (.methodLink RX4 58 Lib.Math.min.name) (by decide +kernel)
  have hm80 := hts (.methodLink RX4 80 Lib.Math.max.name) (by decide +kernel)
  have hs_max := hts (.static Lib.Math.max.name) (by decide +kernel)
  have hs_min := hts (.static Lib.Math.min.name) (by decide +kernel)
  have hinX4 : ∀ w ∈ wsX40, w ∈ wsX4_growRice := by decide +kernel
  have hS0 := hS
  have hN64 := gem_hw hG0
  have hW9 := gem_w hG0
  obtain ⟨-, -, hh2, hh8, hw2, hw8⟩ := id hG0
  refine lv_aload_n hx hb dX4_growRice_0 rfl (lv_at hl 0 rfl) ?_
  refine va_get (D := (dC, dI)) (ci := 4) (v := .ref (d 3)) (C := RX4) (T := TX4) (N := 7) hx hb hts hinX4 hown hK hP 0 rfl rfl 3 (by decide) hf16 (fun _ h9 => h9) rfl dX4_growRice_1 ?_
  refine lv_iload_n hx hb dX4_growRice_4 rfl (lv_at hl 1 rfl) ?_
  refine lv_bipush (v := 6) hx hb dX4_growRice_5 (by decide) ?_
  refine lv_iadd hx hb dX4_growRice_7 ?_
  refine lv_dup2_11 hx hb dX4_growRice_8 rfl rfl ?_
  refine va_iald (cA := cI) (n := 768) (f := O 3) hx hb hK hP 3 0 rfl rfl (frm_in hF (j := 6) (by decide)) dX4_growRice_9 ?_
  refine lv_iconst (v := 1) hx hb dX4_growRice_10 (by decide) ?_
  refine lv_iadd hx hb dX4_growRice_11 ?_
  obtain ⟨S1, eS1⟩ : ∃ z : sS, z = s_put O 3 ((x + 6).toNatClampNeg) ((O 3 (x + 6).toNatClampNeg) + 1) := ⟨_, rfl⟩
  refine va_iast (cA := cI) (n := 768) (f := O 3) hx hb hK hP hD hS 3 0 rfl rfl (frm_in hF (j := 6) (by decide)) dX4_growRice_12 (fun H locs hP hD hS => ?_)
  have hP : va_P (dC, dI) vwCl (mW cI d S1) H := by rw [eS1]; exact hP
  have hD : va_D A (mW cI d S1) := by rw [eS1]; exact hD
  have hGS1 : gem h w S1 := by rw [eS1]; exact gem_put hG0 (Or.inl (by decide)) _
  refine lv_aload_n hx hb dX4_growRice_13 rfl (lv_at hl 0 rfl) ?_
  refine va_get (D := (dC, dI)) (ci := 4) (v := .ref (d 3)) (C := RX4) (T := TX4) (N := 7) hx hb hts hinX4 hown hK hP 0 rfl rfl 3 (by decide) hf16 (fun _ h9 => h9) rfl dX4_growRice_14 ?_
  refine lv_iload_n hx hb dX4_growRice_17 rfl (lv_at hl 1 rfl) ?_
  refine lv_iconst (v := 0) hx hb dX4_growRice_18 (by decide) ?_
  refine lv_iadd hx hb dX4_growRice_19 ?_
  refine va_iald (cA := cI) (n := 768) (f := S1 3) hx hb hK hP 3 0 rfl rfl (frm_in hF (j := 0) (by decide)) dX4_growRice_20 ?_
  refine lv_istore_n (lv' := [(2, .int (S1 3 (x + 0).toNatClampNeg)), (0, .ref (d 0)), (1, .int x)]) hx hb dX4_growRice_21 rfl hl (by decide) rfl (fun ls hl => ?_)
  refine lv_iload_n hx hb dX4_growRice_22 rfl (lv_at hl 0 rfl) ?_
  refine lv_bipush (v := 45) hx hb dX4_growRice_23 (by decide) ?_
  refine lv_iconst (v := 5) hx hb dX4_growRice_25 (by decide) ?_
  refine lv_aload_n hx hb dX4_growRice_26 rfl (lv_at hl 1 rfl) ?_
  refine va_get (D := (dC, dI)) (ci := 4) (v := .ref (d 3)) (C := RX4) (T := TX4) (N := 7) hx hb hts hinX4 hown hK hP 0 rfl rfl 3 (by decide) hf16 (fun _ h9 => h9) rfl dX4_growRice_27 ?_
  refine lv_iload_n hx hb dX4_growRice_30 rfl (lv_at hl 2 rfl) ?_
  refine lv_bipush (v := 6) hx hb dX4_growRice_31 (by decide) ?_
  refine lv_iadd hx hb dX4_growRice_33 ?_
  refine va_iald (cA := cI) (n := 768) (f := S1 3) hx hb hK hP 3 0 rfl rfl (frm_in hF (j := 6) (by decide)) dX4_growRice_34 ?_
  refine lv_iconst (v := 2) hx hb dX4_growRice_35 (by decide) ?_
  refine lv_imul hx hb dX4_growRice_36 ?_
  refine lv_iconst (v := 3) hx hb dX4_growRice_37 (by decide) ?_
  refine lv_idiv hx hb dX4_growRice_38 (by decide) ?_
  refine lv_iadd hx hb dX4_growRice_39 ?_
  refine va_mminz hx hb (hml.trans hl.1.symm) hown hm58 hs_min hi_Math hc_min (Nat.le_of_ble_eq_true rfl) (Nat.le_of_ble_eq_true rfl) (Nat.le_of_ble_eq_true rfl) (Nat.le_of_ble_eq_true rfl) dX4_growRice_40 ?_
  have hjv2 : ∀ (v2 : Int32) (H : Heap) (locs : List Loc), v2 = (if (S1 3 (x + 0).toNatClampNeg) ≤ (zmin 45 (5 + (((S1 3 (x + 6).toNatClampNeg) * 2) / 3))) then 0 else 1) → va_P (dC, dI) vwCl (mW cI d S1) H → va_D A (mW cI d S1) → va_S A s.heap H locs → W p l e ({ frames := 1, cells := 0, slots := 0, locals := 22 } : Room) s m [.ref (d 0), .int x].toArray below meth c H locs 0 0 (zVq (dC, dI) A (mW cI d (mi_grow O x)) below [.ref (d 0), .int x].toArray s 0 0) (F0 m 51 ls (.int v2 :: [])) := by
    intro v2 H locs ev2 hP hD hS
    refine lv_istore_n (lv' := [(3, .int v2), (2, .int (S1 3 (x + 0).toNatClampNeg)), (0, .ref (d 0)), (1, .int x)]) hx hb dX4_growRice_51 rfl hl (by decide) rfl (fun ls hl => ?_)
    refine lv_iload_n hx hb dX4_growRice_52 rfl (lv_at hl 1 rfl) ?_
    have hjv3 : ∀ (v3 : Int32) (H : Heap) (locs : List Loc), v3 = (if (S1 3 (x + 0).toNatClampNeg) = 0 then 1 else 0) → va_P (dC, dI) vwCl (mW cI d S1) H → va_D A (mW cI d S1) → va_S A s.heap H locs → W p l e ({ frames := 1, cells := 0, slots := 0, locals := 22 } : Room) s m [.ref (d 0), .int x].toArray below meth c H locs 0 0 (zVq (dC, dI) A (mW cI d (mi_grow O x)) below [.ref (d 0), .int x].toArray s 0 0) (F0 m 61 ls (.int v3 :: [])) := by
      intro v3 H locs ev3 hP hD hS
      refine lv_istore (lv' := [(4, .int v3), (3, .int v2), (2, .int (S1 3 (x + 0).toNatClampNeg)), (0, .ref (d 0)), (1, .int x)]) hx hb dX4_growRice_61 hl (by decide) rfl (fun ls hl => ?_)
      refine lv_aload_n hx hb dX4_growRice_63 rfl (lv_at hl 3 rfl) ?_
      refine va_get (D := (dC, dI)) (ci := 4) (v := .ref (d 3)) (C := RX4) (T := TX4) (N := 7) hx hb hts hinX4 hown hK hP 0 rfl rfl 3 (by decide) hf16 (fun _ h9 => h9) rfl dX4_growRice_64 ?_
      refine lv_iload_n hx hb dX4_growRice_67 rfl (lv_at hl 4 rfl) ?_
      refine lv_bipush (v := 8) hx hb dX4_growRice_68 (by decide) ?_
      refine lv_iadd hx hb dX4_growRice_70 ?_
      refine lv_iload_n hx hb dX4_growRice_71 rfl (lv_at hl 1 rfl) ?_
      have hjv4 : ∀ (v4 : Int32) (H : Heap) (locs : List Loc), v4 = (if v2 = 0 then 0 else ((S1 3 (x + 8).toNatClampNeg) + 1)) → va_P (dC, dI) vwCl (mW cI d S1) H → va_D A (mW cI d S1) → va_S A s.heap H locs → W p l e ({ frames := 1, cells := 0, slots := 0, locals := 22 } : Room) s m [.ref (d 0), .int x].toArray below meth c H locs 0 0 (zVq (dC, dI) A (mW cI d (mi_grow O x)) below [.ref (d 0), .int x].toArray s 0 0) (F0 m 90 ls (.int v4 :: [.int (x + 8), .ref (d 3)])) := by
        intro v4 H locs ev4 hP hD hS
        obtain ⟨S5, eS5⟩ : ∃ z : sS, z = s_put S1 3 ((x + 8).toNatClampNeg) v4 := ⟨_, rfl⟩
        refine va_iast (cA := cI) (n := 768) (f := S1 3) hx hb hK hP hD hS 3 0 rfl rfl (frm_in hF (j := 8) (by decide)) dX4_growRice_90 (fun H locs hP hD hS => ?_)
        have hP : va_P (dC, dI) vwCl (mW cI d S5) H := by rw [eS5]; exact hP
        have hD : va_D A (mW cI d S5) := by rw [eS5]; exact hD
        have hGS5 : gem h w S5 := by rw [eS5]; exact gem_put hGS1 (Or.inl (by decide)) _
        refine lv_aload_n hx hb dX4_growRice_91 rfl (lv_at hl 3 rfl) ?_
        refine va_get (D := (dC, dI)) (ci := 4) (v := .ref (d 3)) (C := RX4) (T := TX4) (N := 7) hx hb hts hinX4 hown hK hP 0 rfl rfl 3 (by decide) hf16 (fun _ h9 => h9) rfl dX4_growRice_92 ?_
        refine lv_iload_n hx hb dX4_growRice_95 rfl (lv_at hl 4 rfl) ?_
        refine lv_bipush (v := 9) hx hb dX4_growRice_96 (by decide) ?_
        refine lv_iadd hx hb dX4_growRice_98 ?_
        refine lv_iload hx hb dX4_growRice_99 (lv_at hl 0 rfl) ?_
        have hjv6 : ∀ (v6 : Int32) (H : Heap) (locs : List Loc), v6 = (if v3 = 0 then 0 else ((S5 3 (x + 9).toNatClampNeg) + 1)) → va_P (dC, dI) vwCl (mW cI d S5) H → va_D A (mW cI d S5) → va_S A s.heap H locs → W p l e ({ frames := 1, cells := 0, slots := 0, locals := 22 } : Room) s m [.ref (d 0), .int x].toArray below meth c H locs 0 0 (zVq (dC, dI) A (mW cI d (mi_grow O x)) below [.ref (d 0), .int x].toArray s 0 0) (F0 m 119 ls (.int v6 :: [.int (x + 9), .ref (d 3)])) := by
          intro v6 H locs ev6 hP hD hS
          obtain ⟨S7, eS7⟩ : ∃ z : sS, z = s_put S5 3 ((x + 9).toNatClampNeg) v6 := ⟨_, rfl⟩
          refine va_iast (cA := cI) (n := 768) (f := S5 3) hx hb hK hP hD hS 3 0 rfl rfl (frm_in hF (j := 9) (by decide)) dX4_growRice_119 (fun H locs hP hD hS => ?_)
          have hP : va_P (dC, dI) vwCl (mW cI d S7) H := by rw [eS7]; exact hP
          have hD : va_D A (mW cI d S7) := by rw [eS7]; exact hD
          have hGS7 : gem h w S7 := by rw [eS7]; exact gem_put hGS5 (Or.inl (by decide)) _
          refine lv_iload_n hx hb dX4_growRice_120 rfl (lv_at hl 1 rfl) ?_
          have hjv8 : ∀ (v8 : Int32) (H : Heap) (locs : List Loc), v8 = (if v2 = 0 then (if v3 = 0 then (if (is_w (S1 3 (x + 0).toNatClampNeg) 5 25) = 0 then 1 else 2) else (-3)) else (-3)) → va_P (dC, dI) vwCl (mW cI d S7) H → va_D A (mW cI d S7) → va_S A s.heap H locs → W p l e ({ frames := 1, cells := 0, slots := 0, locals := 22 } : Room) s m [.ref (d 0), .int x].toArray below meth c H locs 0 0 (zVq (dC, dI) A (mW cI d (mi_grow O x)) below [.ref (d 0), .int x].toArray s 0 0) (F0 m 149 ls (.int v8 :: [])) := by
            intro v8 H locs ev8 hP hD hS
            refine lv_istore (lv' := [(5, .int v8), (4, .int v3), (3, .int v2), (2, .int (S1 3 (x + 0).toNatClampNeg)), (0, .ref (d 0)), (1, .int x)]) hx hb dX4_growRice_149 hl (by decide) rfl (fun ls hl => ?_)
            refine lv_aload_n hx hb dX4_growRice_151 rfl (lv_at hl 4 rfl) ?_
            refine va_get (D := (dC, dI)) (ci := 4) (v := .ref (d 3)) (C := RX4) (T := TX4) (N := 7) hx hb hts hinX4 hown hK hP 0 rfl rfl 3 (by decide) hf16 (fun _ h9 => h9) rfl dX4_growRice_152 ?_
            refine lv_iload_n hx hb dX4_growRice_155 rfl (lv_at hl 5 rfl) ?_
            refine lv_bipush (v := 7) hx hb dX4_growRice_156 (by decide) ?_
            refine lv_iadd hx hb dX4_growRice_158 ?_
            refine lv_iconst (v := 0) hx hb dX4_growRice_159 (by decide) ?_
            refine lv_bipush (v := 100) hx hb dX4_growRice_160 (by decide) ?_
            refine lv_aload_n hx hb dX4_growRice_162 rfl (lv_at hl 4 rfl) ?_
            refine va_get (D := (dC, dI)) (ci := 4) (v := .ref (d 3)) (C := RX4) (T := TX4) (N := 7) hx hb hts hinX4 hown hK hP 0 rfl rfl 3 (by decide) hf16 (fun _ h9 => h9) rfl dX4_growRice_163 ?_
            refine lv_iload_n hx hb dX4_growRice_166 rfl (lv_at hl 5 rfl) ?_
            refine lv_bipush (v := 7) hx hb dX4_growRice_167 (by decide) ?_
            refine lv_iadd hx hb dX4_growRice_169 ?_
            refine va_iald (cA := cI) (n := 768) (f := S7 3) hx hb hK hP 3 0 rfl rfl (frm_in hF (j := 7) (by decide)) dX4_growRice_170 ?_
            refine lv_iload hx hb dX4_growRice_171 (lv_at hl 0 rfl) ?_
            refine lv_iadd hx hb dX4_growRice_173 ?_
            refine va_mminz hx hb (hml.trans hl.1.symm) hown hm58 hs_min hi_Math hc_min (Nat.le_of_ble_eq_true rfl) (Nat.le_of_ble_eq_true rfl) (Nat.le_of_ble_eq_true rfl) (Nat.le_of_ble_eq_true rfl) dX4_growRice_174 ?_
            refine va_mmaxz hx hb (hml.trans hl.1.symm) hown hm80 hs_max hi_Math hc_max (Nat.le_of_ble_eq_true rfl) (Nat.le_of_ble_eq_true rfl) (Nat.le_of_ble_eq_true rfl) (Nat.le_of_ble_eq_true rfl) dX4_growRice_177 ?_
            obtain ⟨S9, eS9⟩ : ∃ z : sS, z = s_put S7 3 ((x + 7).toNatClampNeg) (zmax 0 (zmin 100 ((S7 3 (x + 7).toNatClampNeg) + v8))) := ⟨_, rfl⟩
            refine va_iast (cA := cI) (n := 768) (f := S7 3) hx hb hK hP hD hS 3 0 rfl rfl (frm_in hF (j := 7) (by decide)) dX4_growRice_180 (fun H locs hP hD hS => ?_)
            have hP : va_P (dC, dI) vwCl (mW cI d S9) H := by rw [eS9]; exact hP
            have hD : va_D A (mW cI d S9) := by rw [eS9]; exact hD
            have hGS9 : gem h w S9 := by rw [eS9]; exact gem_put hGS7 (Or.inl (by decide)) _
            refine lv_aload_n hx hb dX4_growRice_181 rfl (lv_at hl 4 rfl) ?_
            refine va_get (D := (dC, dI)) (ci := 4) (v := .ref (d 3)) (C := RX4) (T := TX4) (N := 7) hx hb hts hinX4 hown hK hP 0 rfl rfl 3 (by decide) hf16 (fun _ h9 => h9) rfl dX4_growRice_182 ?_
            refine lv_iload_n hx hb dX4_growRice_185 rfl (lv_at hl 5 rfl) ?_
            refine lv_bipush (v := 8) hx hb dX4_growRice_186 (by decide) ?_
            refine lv_iadd hx hb dX4_growRice_188 ?_
            refine va_iald (cA := cI) (n := 768) (f := S9 3) hx hb hK hP 3 0 rfl rfl (frm_in hF (j := 8) (by decide)) dX4_growRice_189 ?_
            refine lv_iconst (v := 4) hx hb dX4_growRice_190 (by decide) ?_
            refine lv_icmp_ge (tgt := 208) hx hb dX4_growRice_191 (by decide) (fun c_10 => ?_) (fun c_10 => ?_)
            · refine lv_aload_n hx hb dX4_growRice_208 rfl (lv_at hl 4 rfl) ?_
              refine lv_iload_n hx hb dX4_growRice_209 rfl (lv_at hl 5 rfl) ?_
              obtain ⟨S11, eS11⟩ : ∃ z : sS, z = mi_fallow S9 x := ⟨_, rfl⟩
              refine zV_V (pre := ([] : va_W)) (wc := mW cI d S9) (post := ([] : va_W)) (w1 := mW cI d S11) ⟨hx, hb, hml, hown, hts⟩ (by rw [eS11]; exact c_X4_fallow l dC dI cI d S9 x hF) (cwV 1 hts gX4_growRice_X4_fallow rfl rfl rfl (by decide +kernel) ⟨Nat.le_of_ble_eq_true rfl, Nat.le_of_ble_eq_true rfl⟩) (by simp only [List.append_assoc, List.append_nil, List.nil_append]) hK hN (ci := 4) (q0 := 0) rfl rfl rfl hP hD hS hA rfl hl.1 rfl (Nat.le_of_ble_eq_true rfl) dX4_growRice_210 ⟨Nat.le_of_ble_eq_true rfl, Nat.le_of_ble_eq_true rfl⟩ (fun H locs hP hD hS => ?_)
              have hP : va_P (dC, dI) vwCl (mW cI d S11) H := by simpa only [List.append_assoc, List.append_nil, List.nil_append] using hP
              have hD : va_D A (mW cI d S11) := by simpa only [List.append_assoc, List.append_nil, List.nil_append] using hD
              have hGS11 : gem h w S11 := by rw [eS11]; exact gem_sam hGS9 (sam4_fallow S9 x)
              refine lv_aload_n hx hb dX4_growRice_213 rfl (lv_at hl 4 rfl) ?_
              refine va_get (D := (dC, dI)) (ci := 4) (v := .ref (d 1)) (C := RX4) (T := TX4) (N := 7) hx hb hts hinX4 hown hK hP 0 rfl rfl 1 (by decide) hf9 (fun _ h9 => h9) rfl dX4_growRice_214 ?_
              refine lv_iconst (v := 5) hx hb dX4_growRice_217 (by decide) ?_
              refine lv_dup2_11 hx hb dX4_growRice_218 rfl rfl ?_
              refine va_ialdk 5 (cA := cI) (n := 7) (f := S11 1) hx hb hK hP 1 0 rfl rfl rfl (by decide) (by decide) dX4_growRice_219 ?_
              refine lv_iconst (v := 1) hx hb dX4_growRice_220 (by decide) ?_
              refine lv_iadd hx hb dX4_growRice_221 ?_
              obtain ⟨S12, eS12⟩ : ∃ z : sS, z = s_put S11 1 5 ((S11 1 5) + 1) := ⟨_, rfl⟩
              refine va_iastk 5 (cA := cI) (n := 7) (f := S11 1) hx hb hK hP hD hS 1 0 rfl rfl rfl (by decide) (by decide) dX4_growRice_222 (fun H locs hP hD hS => ?_)
              have hP : va_P (dC, dI) vwCl (mW cI d S12) H := by rw [eS12]; exact hP
              have hD : va_D A (mW cI d S12) := by rw [eS12]; exact hD
              have hGS12 : gem h w S12 := by rw [eS12]; exact gem_put hGS11 (Or.inr (by decide)) _
              have hZ : S12 = mi_grow O x := (by have e9 : S9 = mi_g5 O x := (by (try rw [eS9]); (try rw [ev8]); (try rw [eS7]); (try rw [ev6]); (try rw [eS5]); (try rw [ev4]); (try rw [ev3]); (try rw [ev2]); (try rw [eS1]); first | done | rfl); unfold mi_grow; rw [← e9]; unfold mi_end; simp only [if_pos c_10]; (try rw [eS12]); (try rw [eS11]); first | done | rfl)
              rw [hZ] at hP hD
              exact zV_ret hx hb hr hlocks hP hD hS dX4_growRice_223
            · refine lv_aload_n hx hb dX4_growRice_194 rfl (lv_at hl 4 rfl) ?_
              refine va_get (D := (dC, dI)) (ci := 4) (v := .ref (d 3)) (C := RX4) (T := TX4) (N := 7) hx hb hts hinX4 hown hK hP 0 rfl rfl 3 (by decide) hf16 (fun _ h9 => h9) rfl dX4_growRice_195 ?_
              refine lv_iload_n hx hb dX4_growRice_198 rfl (lv_at hl 5 rfl) ?_
              refine lv_bipush (v := 9) hx hb dX4_growRice_199 (by decide) ?_
              refine lv_iadd hx hb dX4_growRice_201 ?_
              refine va_iald (cA := cI) (n := 768) (f := S9 3) hx hb hK hP 3 0 rfl rfl (frm_in hF (j := 9) (by decide)) dX4_growRice_202 ?_
              refine lv_iconst (v := 5) hx hb dX4_growRice_203 (by decide) ?_
              refine lv_icmp_ge (tgt := 208) hx hb dX4_growRice_204 (by decide) (fun c_13 => ?_) (fun c_13 => ?_)
              · refine lv_aload_n hx hb dX4_growRice_208 rfl (lv_at hl 4 rfl) ?_
                refine lv_iload_n hx hb dX4_growRice_209 rfl (lv_at hl 5 rfl) ?_
                obtain ⟨S14, eS14⟩ : ∃ z : sS, z = mi_fallow S9 x := ⟨_, rfl⟩
                refine zV_V (pre := ([] : va_W)) (wc := mW cI d S9) (post := ([] : va_W)) (w1 := mW cI d S14) ⟨hx, hb, hml, hown, hts⟩ (by rw [eS14]; exact c_X4_fallow l dC dI cI d S9 x hF) (cwV 1 hts gX4_growRice_X4_fallow rfl rfl rfl (by decide +kernel) ⟨Nat.le_of_ble_eq_true rfl, Nat.le_of_ble_eq_true rfl⟩) (by simp only [List.append_assoc, List.append_nil, List.nil_append]) hK hN (ci := 4) (q0 := 0) rfl rfl rfl hP hD hS hA rfl hl.1 rfl (Nat.le_of_ble_eq_true rfl) dX4_growRice_210 ⟨Nat.le_of_ble_eq_true rfl, Nat.le_of_ble_eq_true rfl⟩ (fun H locs hP hD hS => ?_)
                have hP : va_P (dC, dI) vwCl (mW cI d S14) H := by simpa only [List.append_assoc, List.append_nil, List.nil_append] using hP
                have hD : va_D A (mW cI d S14) := by simpa only [List.append_assoc, List.append_nil, List.nil_append] using hD
                have hGS14 : gem h w S14 := by rw [eS14]; exact gem_sam hGS9 (sam4_fallow S9 x)
                refine lv_aload_n hx hb dX4_growRice_213 rfl (lv_at hl 4 rfl) ?_
                refine va_get (D := (dC, dI)) (ci := 4) (v := .ref (d 1)) (C := RX4) (T := TX4) (N := 7) hx hb hts hinX4 hown hK hP 0 rfl rfl 1 (by decide) hf9 (fun _ h9 => h9) rfl dX4_growRice_214 ?_
                refine lv_iconst (v := 5) hx hb dX4_growRice_217 (by decide) ?_
                refine lv_dup2_11 hx hb dX4_growRice_218 rfl rfl ?_
                refine va_ialdk 5 (cA := cI) (n := 7) (f := S14 1) hx hb hK hP 1 0 rfl rfl rfl (by decide) (by decide) dX4_growRice_219 ?_
                refine lv_iconst (v := 1) hx hb dX4_growRice_220 (by decide) ?_
                refine lv_iadd hx hb dX4_growRice_221 ?_
                obtain ⟨S15, eS15⟩ : ∃ z : sS, z = s_put S14 1 5 ((S14 1 5) + 1) := ⟨_, rfl⟩
                refine va_iastk 5 (cA := cI) (n := 7) (f := S14 1) hx hb hK hP hD hS 1 0 rfl rfl rfl (by decide) (by decide) dX4_growRice_222 (fun H locs hP hD hS => ?_)
                have hP : va_P (dC, dI) vwCl (mW cI d S15) H := by rw [eS15]; exact hP
                have hD : va_D A (mW cI d S15) := by rw [eS15]; exact hD
                have hGS15 : gem h w S15 := by rw [eS15]; exact gem_put hGS14 (Or.inr (by decide)) _
                have hZ : S15 = mi_grow O x := (by have e9 : S9 = mi_g5 O x := (by (try rw [eS9]); (try rw [ev8]); (try rw [eS7]); (try rw [ev6]); (try rw [eS5]); (try rw [ev4]); (try rw [ev3]); (try rw [ev2]); (try rw [eS1]); first | done | rfl); unfold mi_grow; rw [← e9]; unfold mi_end; simp only [if_neg c_10, if_pos c_13]; (try rw [eS15]); (try rw [eS14]); first | done | rfl)
                rw [hZ] at hP hD
                exact zV_ret hx hb hr hlocks hP hD hS dX4_growRice_223
              · have hZ : S9 = mi_grow O x := (by have e9 : S9 = mi_g5 O x := (by (try rw [eS9]); (try rw [ev8]); (try rw [eS7]); (try rw [ev6]); (try rw [eS5]); (try rw [ev4]); (try rw [ev3]); (try rw [ev2]); (try rw [eS1]); first | done | rfl); unfold mi_grow; rw [← e9]; unfold mi_end; simp only [if_neg c_10, if_neg c_13];  first | done | rfl)
                rw [hZ] at hP hD
                exact zV_ret hx hb hr hlocks hP hD hS dX4_growRice_207
          refine lv_if_ne (tgt := 129) hx hb dX4_growRice_121 (by decide) (fun c_16 => ?_) (fun c_16 => ?_)
          · refine lv_bipush (v := (-3)) hx hb dX4_growRice_129 (by decide) ?_
            refine lv_goto (tgt := 149) hx hb dX4_growRice_131 (by decide) ?_
            exact hjv8 _ _ _ (by simp only [if_neg c_16]) hP hD hS
          · refine lv_iload hx hb dX4_growRice_124 (lv_at hl 0 rfl) ?_
            refine lv_if_eq (tgt := 134) hx hb dX4_growRice_126 (by decide) (fun c_17 => ?_) (fun c_17 => ?_)
            · refine lv_iload_n hx hb dX4_growRice_134 rfl (lv_at hl 2 rfl) ?_
              refine lv_iconst (v := 5) hx hb dX4_growRice_135 (by decide) ?_
              refine lv_bipush (v := 25) hx hb dX4_growRice_136 (by decide) ?_
              refine zI_S (pre := (mW cI d S7)) (wc := ([] : va_W)) (post := ([] : va_W)) (w1 := ([] : va_W)) ⟨hx, hb, hml, hown, hts⟩ (c_X4_isIn l dC dI cI (S1 3 (x + 0).toNatClampNeg) 5 25) (va_cwS 3 hts gX4_growRice_X4_isIn rfl rfl rfl (by decide +kernel) ⟨Nat.le_of_ble_eq_true rfl, Nat.le_of_ble_eq_true rfl⟩) (by simp only [List.append_assoc, List.append_nil, List.nil_append]) hK hN hP hD hS hA rfl hl.1 rfl (Nat.le_of_ble_eq_true rfl) dX4_growRice_138 ⟨Nat.le_of_ble_eq_true rfl, Nat.le_of_ble_eq_true rfl⟩ (fun H locs hP hD hS => ?_)
              have hP : va_P (dC, dI) vwCl (mW cI d S7) H := by simpa only [List.append_assoc, List.append_nil, List.nil_append] using hP
              have hD : va_D A (mW cI d S7) := by simpa only [List.append_assoc, List.append_nil, List.nil_append] using hD
              refine lv_if_eq (tgt := 148) hx hb dX4_growRice_141 (by decide) (fun c_18 => ?_) (fun c_18 => ?_)
              · refine lv_iconst (v := 1) hx hb dX4_growRice_148 (by decide) ?_
                exact hjv8 _ _ _ (by simp only [if_pos c_16, if_pos c_17, if_pos c_18]) hP hD hS
              · refine lv_iconst (v := 2) hx hb dX4_growRice_144 (by decide) ?_
                refine lv_goto (tgt := 149) hx hb dX4_growRice_145 (by decide) ?_
                exact hjv8 _ _ _ (by simp only [if_pos c_16, if_pos c_17, if_neg c_18]) hP hD hS
            · refine lv_bipush (v := (-3)) hx hb dX4_growRice_129 (by decide) ?_
              refine lv_goto (tgt := 149) hx hb dX4_growRice_131 (by decide) ?_
              exact hjv8 _ _ _ (by simp only [if_pos c_16, if_neg c_17]) hP hD hS
        refine lv_if_eq (tgt := 118) hx hb dX4_growRice_101 (by decide) (fun c_19 => ?_) (fun c_19 => ?_)
        · refine lv_iconst (v := 0) hx hb dX4_growRice_118 (by decide) ?_
          exact hjv6 _ _ _ (by simp only [if_pos c_19]) hP hD hS
        · refine lv_aload_n hx hb dX4_growRice_104 rfl (lv_at hl 3 rfl) ?_
          refine va_get (D := (dC, dI)) (ci := 4) (v := .ref (d 3)) (C := RX4) (T := TX4) (N := 7) hx hb hts hinX4 hown hK hP 0 rfl rfl 3 (by decide) hf16 (fun _ h9 => h9) rfl dX4_growRice_105 ?_
          refine lv_iload_n hx hb dX4_growRice_108 rfl (lv_at hl 4 rfl) ?_
          refine lv_bipush (v := 9) hx hb dX4_growRice_109 (by decide) ?_
          refine lv_iadd hx hb dX4_growRice_111 ?_
          refine va_iald (cA := cI) (n := 768) (f := S5 3) hx hb hK hP 3 0 rfl rfl (frm_in hF (j := 9) (by decide)) dX4_growRice_112 ?_
          refine lv_iconst (v := 1) hx hb dX4_growRice_113 (by decide) ?_
          refine lv_iadd hx hb dX4_growRice_114 ?_
          refine lv_goto (tgt := 119) hx hb dX4_growRice_115 (by decide) ?_
          exact hjv6 _ _ _ (by simp only [if_neg c_19]) hP hD hS
      refine lv_if_eq (tgt := 89) hx hb dX4_growRice_72 (by decide) (fun c_20 => ?_) (fun c_20 => ?_)
      · refine lv_iconst (v := 0) hx hb dX4_growRice_89 (by decide) ?_
        exact hjv4 _ _ _ (by simp only [if_pos c_20]) hP hD hS
      · refine lv_aload_n hx hb dX4_growRice_75 rfl (lv_at hl 3 rfl) ?_
        refine va_get (D := (dC, dI)) (ci := 4) (v := .ref (d 3)) (C := RX4) (T := TX4) (N := 7) hx hb hts hinX4 hown hK hP 0 rfl rfl 3 (by decide) hf16 (fun _ h9 => h9) rfl dX4_growRice_76 ?_
        refine lv_iload_n hx hb dX4_growRice_79 rfl (lv_at hl 4 rfl) ?_
        refine lv_bipush (v := 8) hx hb dX4_growRice_80 (by decide) ?_
        refine lv_iadd hx hb dX4_growRice_82 ?_
        refine va_iald (cA := cI) (n := 768) (f := S1 3) hx hb hK hP 3 0 rfl rfl (frm_in hF (j := 8) (by decide)) dX4_growRice_83 ?_
        refine lv_iconst (v := 1) hx hb dX4_growRice_84 (by decide) ?_
        refine lv_iadd hx hb dX4_growRice_85 ?_
        refine lv_goto (tgt := 90) hx hb dX4_growRice_86 (by decide) ?_
        exact hjv4 _ _ _ (by simp only [if_neg c_20]) hP hD hS
    refine lv_if_ne (tgt := 60) hx hb dX4_growRice_53 (by decide) (fun c_21 => ?_) (fun c_21 => ?_)
    · refine lv_iconst (v := 0) hx hb dX4_growRice_60 (by decide) ?_
      exact hjv3 _ _ _ (by simp only [if_neg c_21]) hP hD hS
    · refine lv_iconst (v := 1) hx hb dX4_growRice_56 (by decide) ?_
      refine lv_goto (tgt := 61) hx hb dX4_growRice_57 (by decide) ?_
      exact hjv3 _ _ _ (by simp only [if_pos c_21]) hP hD hS
  refine lv_icmp_le (tgt := 50) hx hb dX4_growRice_43 (by decide) (fun c_22 => ?_) (fun c_22 => ?_)
  · refine lv_iconst (v := 0) hx hb dX4_growRice_50 (by decide) ?_
    exact hjv2 _ _ _ (by simp only [if_pos c_22]) hP hD hS
  · refine lv_iconst (v := 1) hx hb dX4_growRice_46 (by decide) ?_
    refine lv_goto (tgt := 51) hx hb dX4_growRice_47 (by decide) ?_
    exact hjv2 _ _ _ (by simp only [if_neg c_22]) hP hD hS

set_option maxHeartbeats 4000000 in
set_option maxRecDepth 100000 in
theorem c_X2_clearCrop (l : Launch) (dC : Nat → ClassId) (dI : Nat → Nat → Nat) (cI : ClassId) (a : Nat → Nat) (S : sS) (i : Int32) (hC : vp_in i 64) : zV l yX2_clearCrop wsX2_clearCrop { frames := 0, cells := 0, slots := 0, locals := 0 } (dC, dI) cI [.ref (a 0), .int i] (sW cI a S) (sW cI a (sl_clear S i)) := by
  refine zV_of (cc := cX2_clearCrop) (maxL := 2) (ret := none) (by decide) rfl (Nat.le_of_ble_eq_true rfl) ?_
  intro p e s m below meth c A ls C0 hl
  obtain ⟨hx, hb, hr, hml, hown, hts, hlocks, hK, hN, hA, hP, hD, hS⟩ := C0
  have hown : s.vm.findClass RX2 = some m.cls := hown
  have hl : lv_has ls 2 [(0, .ref (a 0)), (1, .int i)] := hl
  have hf30 := hts (.fieldLink RX2 30 "PaddyTerraces$Slope" "crop" "[I") (by decide +kernel)
  have hf33 := hts (.fieldLink RX2 33 "PaddyTerraces$Slope" "age" "[I") (by decide +kernel)
  have hf36 := hts (.fieldLink RX2 36 "PaddyTerraces$Slope" "hardness" "[I") (by decide +kernel)
  have hf39 := hts (.fieldLink RX2 39 "PaddyTerraces$Slope" "drowned" "[I") (by decide +kernel)
  have hf42 := hts (.fieldLink RX2 42 "PaddyTerraces$Slope" "dry" "[I") (by decide +kernel)
  have hinX2 : ∀ w ∈ wsX20, w ∈ wsX2_clearCrop := by decide +kernel
  have hS0 := hS
  refine lv_aload_n hx hb dX2_clearCrop_0 rfl (lv_at hl 0 rfl) ?_
  refine va_get (D := (dC, dI)) (ci := 2) (v := .ref (a 7)) (C := RX2) (T := TX2) (N := 18) hx hb hts hinX2 hown hK hP 0 rfl rfl 11 (by decide) hf30 (fun _ h9 => h9) rfl dX2_clearCrop_1 ?_
  refine lv_iload_n hx hb dX2_clearCrop_4 rfl (lv_at hl 1 rfl) ?_
  refine lv_iconst (v := 0) hx hb dX2_clearCrop_5 (by decide) ?_
  obtain ⟨S1, eS1⟩ : ∃ z : sS, z = s_put S 7 i.toNatClampNeg 0 := ⟨_, rfl⟩
  refine va_iast (cA := cI) (n := 64) (f := S 7) hx hb hK hP hD hS 7 0 rfl rfl hC dX2_clearCrop_6 (fun H locs hP hD hS => ?_)
  have hP : va_P (dC, dI) vwCl (sW cI a S1) H := by rw [eS1]; exact hP
  have hD : va_D A (sW cI a S1) := by rw [eS1]; exact hD
  refine lv_aload_n hx hb dX2_clearCrop_7 rfl (lv_at hl 0 rfl) ?_
  refine va_get (D := (dC, dI)) (ci := 2) (v := .ref (a 8)) (C := RX2) (T := TX2) (N := 18) hx hb hts hinX2 hown hK hP 0 rfl rfl 12 (by decide) hf33 (fun _ h9 => h9) rfl dX2_clearCrop_8 ?_
  refine lv_iload_n hx hb dX2_clearCrop_11 rfl (lv_at hl 1 rfl) ?_
  refine lv_iconst (v := 0) hx hb dX2_clearCrop_12 (by decide) ?_
  obtain ⟨S2, eS2⟩ : ∃ z : sS, z = s_put S1 8 i.toNatClampNeg 0 := ⟨_, rfl⟩
  refine va_iast (cA := cI) (n := 64) (f := S1 8) hx hb hK hP hD hS 8 0 rfl rfl hC dX2_clearCrop_13 (fun H locs hP hD hS => ?_)
  have hP : va_P (dC, dI) vwCl (sW cI a S2) H := by rw [eS2]; exact hP
  have hD : va_D A (sW cI a S2) := by rw [eS2]; exact hD
  refine lv_aload_n hx hb dX2_clearCrop_14 rfl (lv_at hl 0 rfl) ?_
  refine va_get (D := (dC, dI)) (ci := 2) (v := .ref (a 9)) (C := RX2) (T := TX2) (N := 18) hx hb hts hinX2 hown hK hP 0 rfl rfl 13 (by decide) hf36 (fun _ h9 => h9) rfl dX2_clearCrop_15 ?_
  refine lv_iload_n hx hb dX2_clearCrop_18 rfl (lv_at hl 1 rfl) ?_
  refine lv_iconst (v := 0) hx hb dX2_clearCrop_19 (by decide) ?_
  obtain ⟨S3, eS3⟩ : ∃ z : sS, z = s_put S2 9 i.toNatClampNeg 0 := ⟨_, rfl⟩
  refine va_iast (cA := cI) (n := 64) (f := S2 9) hx hb hK hP hD hS 9 0 rfl rfl hC dX2_clearCrop_20 (fun H locs hP hD hS => ?_)
  have hP : va_P (dC, dI) vwCl (sW cI a S3) H := by rw [eS3]; exact hP
  have hD : va_D A (sW cI a S3) := by rw [eS3]; exact hD
  refine lv_aload_n hx hb dX2_clearCrop_21 rfl (lv_at hl 0 rfl) ?_
  refine va_get (D := (dC, dI)) (ci := 2) (v := .ref (a 10)) (C := RX2) (T := TX2) (N := 18) hx hb hts hinX2 hown hK hP 0 rfl rfl 14 (by decide) hf39 (fun _ h9 => h9) rfl dX2_clearCrop_22 ?_
  refine lv_iload_n hx hb dX2_clearCrop_25 rfl (lv_at hl 1 rfl) ?_
  refine lv_iconst (v := 0) hx hb dX2_clearCrop_26 (by decide) ?_
  obtain ⟨S4, eS4⟩ : ∃ z : sS, z = s_put S3 10 i.toNatClampNeg 0 := ⟨_, rfl⟩
  refine va_iast (cA := cI) (n := 64) (f := S3 10) hx hb hK hP hD hS 10 0 rfl rfl hC dX2_clearCrop_27 (fun H locs hP hD hS => ?_)
  have hP : va_P (dC, dI) vwCl (sW cI a S4) H := by rw [eS4]; exact hP
  have hD : va_D A (sW cI a S4) := by rw [eS4]; exact hD
  refine lv_aload_n hx hb dX2_clearCrop_28 rfl (lv_at hl 0 rfl) ?_
  refine va_get (D := (dC, dI)) (ci := 2) (v := .ref (a 11)) (C := RX2) (T := TX2) (N := 18) hx hb hts hinX2 hown hK hP 0 rfl rfl 15 (by decide) hf42 (fun _ h9 => h9) rfl dX2_clearCrop_29 ?_
  refine lv_iload_n hx hb dX2_clearCrop_32 rfl (lv_at hl 1 rfl) ?_
  refine lv_iconst (v := 0) hx hb dX2_clearCrop_33 (by decide) ?_
  obtain ⟨S5, eS5⟩ : ∃ z : sS, z = s_put S4 11 i.toNatClampNeg 0 := ⟨_, rfl⟩
  refine va_iast (cA := cI) (n := 64) (f := S4 11) hx hb hK hP hD hS 11 0 rfl rfl hC dX2_clearCrop_34 (fun H locs hP hD hS => ?_)
  have hP : va_P (dC, dI) vwCl (sW cI a S5) H := by rw [eS5]; exact hP
  have hD : va_D A (sW cI a S5) := by rw [eS5]; exact hD
  have hZ : S5 = sl_clear S i := (by (try rw [eS5]); (try rw [eS4]); (try rw [eS3]); (try rw [eS2]); (try rw [eS1]); first | done | rfl | (simp only [sl_clear]; done))
  rw [hZ] at hP hD
  exact zV_ret hx hb hr hlocks hP hD hS dX2_clearCrop_35
set_option maxHeartbeats 4000000 in
set_option maxRecDepth 100000 in
theorem c_X2_hardening (l : Launch) (dC : Nat → ClassId) (dI : Nat → Nat → Nat) (cI : ClassId) (a : Nat → Nat) (S : sS) (i : Int32) (hC : vp_in i 64) : zI l yX2_hardening wsX2_hardening { frames := 1, cells := 0, slots := 0, locals := 22 } (dC, dI) cI [.ref (a 0), .int i] (sW cI a S) (sW cI a S) (sl_hard S i) := by
  refine zI_of (cc := cX2_hardening) (maxL := 2) (ret := (some .int)) (by decide) rfl (Nat.le_of_ble_eq_true rfl) ?_
  intro p e s m below meth c A ls C0 hl
  obtain ⟨hx, hb, hr, hml, hown, hts, hlocks, hK, hN, hA, hP, hD, hS⟩ := C0
  have hown : s.vm.findClass RX2 = some m.cls := hown
  have hl : lv_has ls 2 [(0, .ref (a 0)), (1, .int i)] := hl
  have hf15 := hts (.fieldLink RX2 15 "PaddyTerraces$Slope" "depth" "[I") (by decide +kernel)
  have hf39 := hts (.fieldLink RX2 39 "PaddyTerraces$Slope" "drowned" "[I") (by decide +kernel)
  have hf42 := hts (.fieldLink RX2 42 "PaddyTerraces$Slope" "dry" "[I") (by decide +kernel)
  have hi_X3 := hts (.initialized RX3) (by decide +kernel)
  have hst_isWithin := hts (.static yX3_isWithin) (by decide +kernel)
  have hinX2 : ∀ w ∈ wsX20, w ∈ wsX2_hardening := by decide +kernel
  have hS0 := hS
  refine lv_aload_n hx hb dX2_hardening_0 rfl (lv_at hl 0 rfl) ?_
  refine va_get (D := (dC, dI)) (ci := 2) (v := .ref (a 10)) (C := RX2) (T := TX2) (N := 18) hx hb hts hinX2 hown hK hP 0 rfl rfl 14 (by decide) hf39 (fun _ h9 => h9) rfl dX2_hardening_1 ?_
  refine lv_iload_n hx hb dX2_hardening_4 rfl (lv_at hl 1 rfl) ?_
  refine va_iald (cA := cI) (n := 64) (f := S 10) hx hb hK hP 10 0 rfl rfl hC dX2_hardening_5 ?_
  refine lv_if_gt (tgt := 18) hx hb dX2_hardening_6 (by decide) (fun c_1 => ?_) (fun c_1 => ?_)
  · refine lv_bipush (v := (-3)) hx hb dX2_hardening_18 (by decide) ?_
    exact zI_ret hx hb hr hlocks hP hD hS rfl (by first | done | rfl | (simp only [sl_hard, if_pos c_1]; done)) dX2_hardening_20
  · refine lv_aload_n hx hb dX2_hardening_9 rfl (lv_at hl 0 rfl) ?_
    refine va_get (D := (dC, dI)) (ci := 2) (v := .ref (a 11)) (C := RX2) (T := TX2) (N := 18) hx hb hts hinX2 hown hK hP 0 rfl rfl 15 (by decide) hf42 (fun _ h9 => h9) rfl dX2_hardening_10 ?_
    refine lv_iload_n hx hb dX2_hardening_13 rfl (lv_at hl 1 rfl) ?_
    refine va_iald (cA := cI) (n := 64) (f := S 11) hx hb hK hP 11 0 rfl rfl hC dX2_hardening_14 ?_
    refine lv_if_le (tgt := 21) hx hb dX2_hardening_15 (by decide) (fun c_2 => ?_) (fun c_2 => ?_)
    · refine lv_aload_n hx hb dX2_hardening_21 rfl (lv_at hl 0 rfl) ?_
      refine va_get (D := (dC, dI)) (ci := 2) (v := .ref (a 2)) (C := RX2) (T := TX2) (N := 18) hx hb hts hinX2 hown hK hP 0 rfl rfl 6 (by decide) hf15 (fun _ h9 => h9) rfl dX2_hardening_22 ?_
      refine lv_iload_n hx hb dX2_hardening_25 rfl (lv_at hl 1 rfl) ?_
      refine va_iald (cA := cI) (n := 64) (f := S 2) hx hb hK hP 2 0 rfl rfl hC dX2_hardening_26 ?_
      refine lv_iconst (v := 5) hx hb dX2_hardening_27 (by decide) ?_
      refine lv_bipush (v := 25) hx hb dX2_hardening_28 (by decide) ?_
      refine zI_SN (pre := (sW cI a S)) (wc := ([] : va_W)) (post := ([] : va_W)) (w1 := ([] : va_W)) ⟨hx, hb, hml, hown, hts⟩ (c_X3_isWithin l dC dI cI (S 2 i.toNatClampNeg) 5 25) ⟨va_cnB 3 hts gX2_hardening_X3_isWithin_n155 rfl rfl rfl hN.1 hi_X3 (by decide +kernel) ⟨Nat.le_of_ble_eq_true rfl, Nat.le_of_ble_eq_true rfl⟩, hst_isWithin, trivial⟩ (by simp only [List.append_assoc, List.append_nil, List.nil_append]) hK hN hP hD hS hA rfl hl.1 rfl (Nat.le_of_ble_eq_true rfl) dX2_hardening_30 ⟨Nat.le_of_ble_eq_true rfl, Nat.le_of_ble_eq_true rfl⟩ (fun H locs hP hD hS => ?_)
      have hP : va_P (dC, dI) vwCl (sW cI a S) H := by simpa only [List.append_assoc, List.append_nil, List.nil_append] using hP
      have hD : va_D A (sW cI a S) := by simpa only [List.append_assoc, List.append_nil, List.nil_append] using hD
      refine lv_if_eq (tgt := 40) hx hb dX2_hardening_33 (by decide) (fun c_3 => ?_) (fun c_3 => ?_)
      · refine lv_iconst (v := 1) hx hb dX2_hardening_40 (by decide) ?_
        exact zI_ret hx hb hr hlocks hP hD hS rfl (by first | done | rfl | (simp only [sl_hard, if_neg c_1, if_pos c_2, if_pos c_3]; done)) dX2_hardening_41
      · refine lv_iconst (v := 2) hx hb dX2_hardening_36 (by decide) ?_
        refine lv_goto (tgt := 41) hx hb dX2_hardening_37 (by decide) ?_
        exact zI_ret hx hb hr hlocks hP hD hS rfl (by first | done | rfl | (simp only [sl_hard, if_neg c_1, if_pos c_2, if_neg c_3]; done)) dX2_hardening_41
    · refine lv_bipush (v := (-3)) hx hb dX2_hardening_18 (by decide) ?_
      exact zI_ret hx hb hr hlocks hP hD hS rfl (by first | done | rfl | (simp only [sl_hard, if_neg c_1, if_neg c_2]; done)) dX2_hardening_20
set_option maxHeartbeats 4000000 in
set_option maxRecDepth 100000 in
theorem c_X2_growCrop (l : Launch) (dC : Nat → ClassId) (dI : Nat → Nat → Nat) (cI : ClassId) (a : Nat → Nat) (h w : Nat) (S : sS) (i : Int32) (hG0 : geo h w S) (hC : vp_in i 64) : zV l yX2_growCrop wsX2_growCrop { frames := 2, cells := 0, slots := 0, locals := 43 } (dC, dI) cI [.ref (a 0), .int i] (sW cI a S) (sW cI a (sl_grow S i)) := by
  refine zV_of (cc := cX2_growCrop) (maxL := 4) (ret := none) (by decide) rfl (Nat.le_of_ble_eq_true rfl) ?_
  intro p e s m below meth c A ls C0 hl
  obtain ⟨hx, hb, hr, hml, hown, hts, hlocks, hK, hN, hA, hP, hD, hS⟩ := C0
  have hown : s.vm.findClass RX2 = some m.cls := hown
  have hl : lv_has ls 4 [(0, .ref (a 0)), (1, .int i)] := hl
  have hf15 := hts (.fieldLink RX2 15 "PaddyTerraces$Slope" "depth" "[I") (by decide +kernel)
  have hf33 := hts (.fieldLink RX2 33 "PaddyTerraces$Slope" "age" "[I") (by decide +kernel)
  have hf36 := hts (.fieldLink RX2 36 "PaddyTerraces$Slope" "hardness" "[I") (by decide +kernel)
  have hf39 := hts (.fieldLink RX2 39 "PaddyTerraces$Slope" "drowned" "[I") (by decide +kernel)
  have hf42 := hts (.fieldLink RX2 42 "PaddyTerraces$Slope" "dry" "[I") (by decide +kernel)
  have hf68 := hts (.fieldLink RX2 68 "PaddyTerraces$Slope" "died" "I") (by decide +kernel)
  have hc_max := hts (.code Lib.Math.max.name Lib.Math.max.code 2 (some .int)) (by decide +kernel)
  have hc_min := hts (.code Lib.Math.min.name Lib.Math.min.code 2 (some .int)) (by decide +kernel)
  have hi_Math := hts (.initialized "java/lang/Math") (by decide +kernel)
  have hm132 := hts (.methodLink RX2 132 Lib.Math.max.name) (by decide +kernel)
  have hm137 := hts (.methodLink RX2 137 Lib.Math.min.name) (by decide +kernel)
  have hs_max := hts (.static Lib.Math.max.name) (by decide +kernel)
  have hs_min := hts (.static Lib.Math.min.name) (by decide +kernel)
  have hinX2 : ∀ w ∈ wsX20, w ∈ wsX2_growCrop := by decide +kernel
  have hS0 := hS
  have hN64 := geo_hw hG0
  have hW9 := geo_w hG0
  obtain ⟨-, -, hh2, hh8, hw2, hw8⟩ := id hG0
  refine lv_aload_n hx hb dX2_growCrop_0 rfl (lv_at hl 0 rfl) ?_
  refine va_get (D := (dC, dI)) (ci := 2) (v := .ref (a 8)) (C := RX2) (T := TX2) (N := 18) hx hb hts hinX2 hown hK hP 0 rfl rfl 12 (by decide) hf33 (fun _ h9 => h9) rfl dX2_growCrop_1 ?_
  refine lv_iload_n hx hb dX2_growCrop_4 rfl (lv_at hl 1 rfl) ?_
  refine lv_dup2_11 hx hb dX2_growCrop_5 rfl rfl ?_
  refine va_iald (cA := cI) (n := 64) (f := S 8) hx hb hK hP 8 0 rfl rfl hC dX2_growCrop_6 ?_
  refine lv_iconst (v := 1) hx hb dX2_growCrop_7 (by decide) ?_
  refine lv_iadd hx hb dX2_growCrop_8 ?_
  obtain ⟨S1, eS1⟩ : ∃ z : sS, z = s_put S 8 i.toNatClampNeg ((S 8 i.toNatClampNeg) + 1) := ⟨_, rfl⟩
  refine va_iast (cA := cI) (n := 64) (f := S 8) hx hb hK hP hD hS 8 0 rfl rfl hC dX2_growCrop_9 (fun H locs hP hD hS => ?_)
  have hP : va_P (dC, dI) vwCl (sW cI a S1) H := by rw [eS1]; exact hP
  have hD : va_D A (sW cI a S1) := by rw [eS1]; exact hD
  have hGS1 : geo h w S1 := by rw [eS1]; exact geo_put hG0 (Or.inl (by decide)) _
  refine lv_iconst (v := 5) hx hb dX2_growCrop_10 (by decide) ?_
  refine lv_aload_n hx hb dX2_growCrop_11 rfl (lv_at hl 0 rfl) ?_
  refine va_get (D := (dC, dI)) (ci := 2) (v := .ref (a 8)) (C := RX2) (T := TX2) (N := 18) hx hb hts hinX2 hown hK hP 0 rfl rfl 12 (by decide) hf33 (fun _ h9 => h9) rfl dX2_growCrop_12 ?_
  refine lv_iload_n hx hb dX2_growCrop_15 rfl (lv_at hl 1 rfl) ?_
  refine va_iald (cA := cI) (n := 64) (f := S1 8) hx hb hK hP 8 0 rfl rfl hC dX2_growCrop_16 ?_
  refine lv_iconst (v := 2) hx hb dX2_growCrop_17 (by decide) ?_
  refine lv_imul hx hb dX2_growCrop_18 ?_
  refine lv_iconst (v := 3) hx hb dX2_growCrop_19 (by decide) ?_
  refine lv_idiv hx hb dX2_growCrop_20 (by decide) ?_
  refine lv_iadd hx hb dX2_growCrop_21 ?_
  refine lv_bipush (v := 45) hx hb dX2_growCrop_22 (by decide) ?_
  refine va_mmin hx hb (hml.trans hl.1.symm) hown hm137 hs_min hi_Math hc_min (Nat.le_of_ble_eq_true rfl) (Nat.le_of_ble_eq_true rfl) (Nat.le_of_ble_eq_true rfl) (Nat.le_of_ble_eq_true rfl) dX2_growCrop_24 ?_
  refine lv_istore_n (lv' := [(2, .int (zmin (5 + (((S1 8 i.toNatClampNeg) * 2) / 3)) 45)), (0, .ref (a 0)), (1, .int i)]) hx hb dX2_growCrop_27 rfl hl (by decide) rfl (fun ls hl => ?_)
  refine lv_aload_n hx hb dX2_growCrop_28 rfl (lv_at hl 1 rfl) ?_
  refine va_get (D := (dC, dI)) (ci := 2) (v := .ref (a 10)) (C := RX2) (T := TX2) (N := 18) hx hb hts hinX2 hown hK hP 0 rfl rfl 14 (by decide) hf39 (fun _ h9 => h9) rfl dX2_growCrop_29 ?_
  refine lv_iload_n hx hb dX2_growCrop_32 rfl (lv_at hl 2 rfl) ?_
  refine lv_aload_n hx hb dX2_growCrop_33 rfl (lv_at hl 1 rfl) ?_
  refine va_get (D := (dC, dI)) (ci := 2) (v := .ref (a 2)) (C := RX2) (T := TX2) (N := 18) hx hb hts hinX2 hown hK hP 0 rfl rfl 6 (by decide) hf15 (fun _ h9 => h9) rfl dX2_growCrop_34 ?_
  refine lv_iload_n hx hb dX2_growCrop_37 rfl (lv_at hl 2 rfl) ?_
  refine va_iald (cA := cI) (n := 64) (f := S1 2) hx hb hK hP 2 0 rfl rfl hC dX2_growCrop_38 ?_
  refine lv_iload_n hx hb dX2_growCrop_39 rfl (lv_at hl 0 rfl) ?_
  have hjv2 : ∀ (v2 : Int32) (H : Heap) (locs : List Loc), v2 = (if (S1 2 i.toNatClampNeg) ≤ (zmin (5 + (((S1 8 i.toNatClampNeg) * 2) / 3)) 45) then 0 else ((S1 10 i.toNatClampNeg) + 1)) → va_P (dC, dI) vwCl (sW cI a S1) H → va_D A (sW cI a S1) → va_S A s.heap H locs → W p l e ({ frames := 2, cells := 0, slots := 0, locals := 43 } : Room) s m [.ref (a 0), .int i].toArray below meth c H locs 0 0 (zVq (dC, dI) A (sW cI a (sl_grow S i)) below [.ref (a 0), .int i].toArray s 0 0) (F0 m 55 ls (.int v2 :: [.int i, .ref (a 10)])) := by
    intro v2 H locs ev2 hP hD hS
    obtain ⟨S3, eS3⟩ : ∃ z : sS, z = s_put S1 10 i.toNatClampNeg v2 := ⟨_, rfl⟩
    refine va_iast (cA := cI) (n := 64) (f := S1 10) hx hb hK hP hD hS 10 0 rfl rfl hC dX2_growCrop_55 (fun H locs hP hD hS => ?_)
    have hP : va_P (dC, dI) vwCl (sW cI a S3) H := by rw [eS3]; exact hP
    have hD : va_D A (sW cI a S3) := by rw [eS3]; exact hD
    have hGS3 : geo h w S3 := by rw [eS3]; exact geo_put hGS1 (Or.inl (by decide)) _
    refine lv_aload_n hx hb dX2_growCrop_56 rfl (lv_at hl 1 rfl) ?_
    refine va_get (D := (dC, dI)) (ci := 2) (v := .ref (a 11)) (C := RX2) (T := TX2) (N := 18) hx hb hts hinX2 hown hK hP 0 rfl rfl 15 (by decide) hf42 (fun _ h9 => h9) rfl dX2_growCrop_57 ?_
    refine lv_iload_n hx hb dX2_growCrop_60 rfl (lv_at hl 2 rfl) ?_
    refine lv_aload_n hx hb dX2_growCrop_61 rfl (lv_at hl 1 rfl) ?_
    refine va_get (D := (dC, dI)) (ci := 2) (v := .ref (a 2)) (C := RX2) (T := TX2) (N := 18) hx hb hts hinX2 hown hK hP 0 rfl rfl 6 (by decide) hf15 (fun _ h9 => h9) rfl dX2_growCrop_62 ?_
    refine lv_iload_n hx hb dX2_growCrop_65 rfl (lv_at hl 2 rfl) ?_
    refine va_iald (cA := cI) (n := 64) (f := S3 2) hx hb hK hP 2 0 rfl rfl hC dX2_growCrop_66 ?_
    have hjv4 : ∀ (v4 : Int32) (H : Heap) (locs : List Loc), v4 = (if (S3 2 i.toNatClampNeg) = 0 then ((S3 11 i.toNatClampNeg) + 1) else 0) → va_P (dC, dI) vwCl (sW cI a S3) H → va_D A (sW cI a S3) → va_S A s.heap H locs → W p l e ({ frames := 2, cells := 0, slots := 0, locals := 43 } : Room) s m [.ref (a 0), .int i].toArray below meth c H locs 0 0 (zVq (dC, dI) A (sW cI a (sl_grow S i)) below [.ref (a 0), .int i].toArray s 0 0) (F0 m 82 ls (.int v4 :: [.int i, .ref (a 11)])) := by
      intro v4 H locs ev4 hP hD hS
      obtain ⟨S5, eS5⟩ : ∃ z : sS, z = s_put S3 11 i.toNatClampNeg v4 := ⟨_, rfl⟩
      refine va_iast (cA := cI) (n := 64) (f := S3 11) hx hb hK hP hD hS 11 0 rfl rfl hC dX2_growCrop_82 (fun H locs hP hD hS => ?_)
      have hP : va_P (dC, dI) vwCl (sW cI a S5) H := by rw [eS5]; exact hP
      have hD : va_D A (sW cI a S5) := by rw [eS5]; exact hD
      have hGS5 : geo h w S5 := by rw [eS5]; exact geo_put hGS3 (Or.inl (by decide)) _
      refine lv_aload_n hx hb dX2_growCrop_83 rfl (lv_at hl 1 rfl) ?_
      refine va_get (D := (dC, dI)) (ci := 2) (v := .ref (a 10)) (C := RX2) (T := TX2) (N := 18) hx hb hts hinX2 hown hK hP 0 rfl rfl 14 (by decide) hf39 (fun _ h9 => h9) rfl dX2_growCrop_84 ?_
      refine lv_iload_n hx hb dX2_growCrop_87 rfl (lv_at hl 2 rfl) ?_
      refine va_iald (cA := cI) (n := 64) (f := S5 10) hx hb hK hP 10 0 rfl rfl hC dX2_growCrop_88 ?_
      refine lv_iconst (v := 4) hx hb dX2_growCrop_89 (by decide) ?_
      refine lv_icmp_ge (tgt := 103) hx hb dX2_growCrop_90 (by decide) (fun c_6 => ?_) (fun c_6 => ?_)
      · refine lv_aload_n hx hb dX2_growCrop_103 rfl (lv_at hl 1 rfl) ?_
        refine lv_iload_n hx hb dX2_growCrop_104 rfl (lv_at hl 2 rfl) ?_
        obtain ⟨S7, eS7⟩ : ∃ z : sS, z = sl_clear S5 i := ⟨_, rfl⟩
        refine zV_V (pre := ([] : va_W)) (wc := sW cI a S5) (post := ([] : va_W)) (w1 := sW cI a S7) ⟨hx, hb, hml, hown, hts⟩ (by rw [eS7]; exact c_X2_clearCrop l dC dI cI a S5 i hC) (cwV 1 hts gX2_growCrop_X2_clearCrop rfl rfl rfl (by decide +kernel) ⟨Nat.le_of_ble_eq_true rfl, Nat.le_of_ble_eq_true rfl⟩) (by simp only [List.append_assoc, List.append_nil, List.nil_append]) hK hN (ci := 2) (q0 := 0) rfl rfl rfl hP hD hS hA rfl hl.1 rfl (Nat.le_of_ble_eq_true rfl) dX2_growCrop_105 ⟨Nat.le_of_ble_eq_true rfl, Nat.le_of_ble_eq_true rfl⟩ (fun H locs hP hD hS => ?_)
        have hP : va_P (dC, dI) vwCl (sW cI a S7) H := by simpa only [List.append_assoc, List.append_nil, List.nil_append] using hP
        have hD : va_D A (sW cI a S7) := by simpa only [List.append_assoc, List.append_nil, List.nil_append] using hD
        have hGS7 : geo h w S7 := by rw [eS7]; exact geo_sam hGS5 (sam_clear S5 i)
        refine lv_aload_n hx hb dX2_growCrop_108 rfl (lv_at hl 1 rfl) ?_
        refine lv_dup hx hb dX2_growCrop_109 rfl ?_
        refine va_get (D := (dC, dI)) (ci := 2) (v := .int (S7 0 4)) (C := RX2) (T := TX2) (N := 18) hx hb hts hinX2 hown hK hP 0 rfl rfl 4 (by decide) hf68 (fun _ h9 => h9) rfl dX2_growCrop_110 ?_
        refine lv_iconst (v := 1) hx hb dX2_growCrop_113 (by decide) ?_
        refine lv_iadd hx hb dX2_growCrop_114 ?_
        obtain ⟨S8, eS8⟩ : ∃ z : sS, z = s_put S7 0 4 ((S7 0 4) + 1) := ⟨_, rfl⟩
        refine va_put (D := (dC, dI)) (ci := 2) (v := .int ((S7 0 4) + 1)) (ty := .int) (C := RX2) (T := TX2) (N := 18) hx hb hts hinX2 tyX2 tyX2_ok nmX2 hown hK hP hD hS 0 rfl rfl 4 (by decide) hf68 (fun _ h9 => h9) rfl (by decide +kernel) rfl rfl (Nat.le_of_ble_eq_true rfl) dX2_growCrop_115 (fun H locs hP hD hS => ?_)
        have hP : va_P (dC, dI) vwCl (sW cI a S8) H := by rw [eS8]; exact hP
        have hD : va_D A (sW cI a S8) := by rw [eS8]; exact hD
        have hGS8 : geo h w S8 := by rw [eS8]; exact geo_put hGS7 (Or.inr (by decide)) _
        refine lv_goto (tgt := 150) hx hb dX2_growCrop_118 (by decide) ?_
        have hZ : S8 = sl_grow S i := (by have e9 : S5 = sl_dry (sl_wet (s_put S 8 i.toNatClampNeg (S 8 i.toNatClampNeg + 1)) i.toNatClampNeg) i.toNatClampNeg := (by rw [eS5, ev4, eS3, ev2, eS1]; rfl); unfold sl_grow; rw [← e9]; unfold sl_end; simp only [if_pos c_6]; rw [eS8, eS7]; first | done | rfl)
        rw [hZ] at hP hD
        exact zV_ret hx hb hr hlocks hP hD hS dX2_growCrop_150
      · refine lv_aload_n hx hb dX2_growCrop_93 rfl (lv_at hl 1 rfl) ?_
        refine va_get (D := (dC, dI)) (ci := 2) (v := .ref (a 11)) (C := RX2) (T := TX2) (N := 18) hx hb hts hinX2 hown hK hP 0 rfl rfl 15 (by decide) hf42 (fun _ h9 => h9) rfl dX2_growCrop_94 ?_
        refine lv_iload_n hx hb dX2_growCrop_97 rfl (lv_at hl 2 rfl) ?_
        refine va_iald (cA := cI) (n := 64) (f := S5 11) hx hb hK hP 11 0 rfl rfl hC dX2_growCrop_98 ?_
        refine lv_iconst (v := 5) hx hb dX2_growCrop_99 (by decide) ?_
        refine lv_icmp_lt (tgt := 121) hx hb dX2_growCrop_100 (by decide) (fun c_9 => ?_) (fun c_9 => ?_)
        · refine lv_aload_n hx hb dX2_growCrop_121 rfl (lv_at hl 1 rfl) ?_
          refine va_get (D := (dC, dI)) (ci := 2) (v := .ref (a 9)) (C := RX2) (T := TX2) (N := 18) hx hb hts hinX2 hown hK hP 0 rfl rfl 13 (by decide) hf36 (fun _ h9 => h9) rfl dX2_growCrop_122 ?_
          refine lv_iload_n hx hb dX2_growCrop_125 rfl (lv_at hl 2 rfl) ?_
          refine va_iald (cA := cI) (n := 64) (f := S5 9) hx hb hK hP 9 0 rfl rfl hC dX2_growCrop_126 ?_
          refine lv_aload_n hx hb dX2_growCrop_127 rfl (lv_at hl 1 rfl) ?_
          refine lv_iload_n hx hb dX2_growCrop_128 rfl (lv_at hl 2 rfl) ?_
          refine zI_V (pre := ([] : va_W)) (wc := sW cI a S5) (post := ([] : va_W)) (w1 := sW cI a S5) ⟨hx, hb, hml, hown, hts⟩ (c_X2_hardening l dC dI cI a S5 i hC) (cwV 1 hts gX2_growCrop_X2_hardening rfl rfl rfl (by decide +kernel) ⟨Nat.le_of_ble_eq_true rfl, Nat.le_of_ble_eq_true rfl⟩) (by simp only [List.append_assoc, List.append_nil, List.nil_append]) hK hN (ci := 2) (q0 := 0) rfl rfl rfl hP hD hS hA rfl hl.1 rfl (Nat.le_of_ble_eq_true rfl) dX2_growCrop_129 ⟨Nat.le_of_ble_eq_true rfl, Nat.le_of_ble_eq_true rfl⟩ (fun H locs hP hD hS => ?_)
          have hP : va_P (dC, dI) vwCl (sW cI a S5) H := by simpa only [List.append_assoc, List.append_nil, List.nil_append] using hP
          have hD : va_D A (sW cI a S5) := by simpa only [List.append_assoc, List.append_nil, List.nil_append] using hD
          refine lv_iadd hx hb dX2_growCrop_132 ?_
          refine lv_istore_n (lv' := [(3, .int ((S5 9 i.toNatClampNeg) + (sl_hard S5 i))), (2, .int (zmin (5 + (((S1 8 i.toNatClampNeg) * 2) / 3)) 45)), (0, .ref (a 0)), (1, .int i)]) hx hb dX2_growCrop_133 rfl hl (by decide) rfl (fun ls hl => ?_)
          refine lv_aload_n hx hb dX2_growCrop_134 rfl (lv_at hl 2 rfl) ?_
          refine va_get (D := (dC, dI)) (ci := 2) (v := .ref (a 9)) (C := RX2) (T := TX2) (N := 18) hx hb hts hinX2 hown hK hP 0 rfl rfl 13 (by decide) hf36 (fun _ h9 => h9) rfl dX2_growCrop_135 ?_
          refine lv_iload_n hx hb dX2_growCrop_138 rfl (lv_at hl 3 rfl) ?_
          refine lv_iload_n hx hb dX2_growCrop_139 rfl (lv_at hl 0 rfl) ?_
          refine lv_iconst (v := 0) hx hb dX2_growCrop_140 (by decide) ?_
          refine va_mmax hx hb (hml.trans hl.1.symm) hown hm132 hs_max hi_Math hc_max (Nat.le_of_ble_eq_true rfl) (Nat.le_of_ble_eq_true rfl) (Nat.le_of_ble_eq_true rfl) (Nat.le_of_ble_eq_true rfl) dX2_growCrop_141 ?_
          refine lv_bipush (v := 100) hx hb dX2_growCrop_144 (by decide) ?_
          refine va_mmin hx hb (hml.trans hl.1.symm) hown hm137 hs_min hi_Math hc_min (Nat.le_of_ble_eq_true rfl) (Nat.le_of_ble_eq_true rfl) (Nat.le_of_ble_eq_true rfl) (Nat.le_of_ble_eq_true rfl) dX2_growCrop_146 ?_
          obtain ⟨S10, eS10⟩ : ∃ z : sS, z = s_put S5 9 i.toNatClampNeg (zmin (zmax ((S5 9 i.toNatClampNeg) + (sl_hard S5 i)) 0) 100) := ⟨_, rfl⟩
          refine va_iast (cA := cI) (n := 64) (f := S5 9) hx hb hK hP hD hS 9 0 rfl rfl hC dX2_growCrop_149 (fun H locs hP hD hS => ?_)
          have hP : va_P (dC, dI) vwCl (sW cI a S10) H := by rw [eS10]; exact hP
          have hD : va_D A (sW cI a S10) := by rw [eS10]; exact hD
          have hGS10 : geo h w S10 := by rw [eS10]; exact geo_put hGS5 (Or.inl (by decide)) _
          have hZ : S10 = sl_grow S i := (by have e9 : S5 = sl_dry (sl_wet (s_put S 8 i.toNatClampNeg (S 8 i.toNatClampNeg + 1)) i.toNatClampNeg) i.toNatClampNeg := (by rw [eS5, ev4, eS3, ev2, eS1]; rfl); unfold sl_grow; rw [← e9]; unfold sl_end; simp only [if_neg c_6, if_pos c_9]; rw [eS10]; first | done | rfl)
          rw [hZ] at hP hD
          exact zV_ret hx hb hr hlocks hP hD hS dX2_growCrop_150
        · refine lv_aload_n hx hb dX2_growCrop_103 rfl (lv_at hl 1 rfl) ?_
          refine lv_iload_n hx hb dX2_growCrop_104 rfl (lv_at hl 2 rfl) ?_
          obtain ⟨S11, eS11⟩ : ∃ z : sS, z = sl_clear S5 i := ⟨_, rfl⟩
          refine zV_V (pre := ([] : va_W)) (wc := sW cI a S5) (post := ([] : va_W)) (w1 := sW cI a S11) ⟨hx, hb, hml, hown, hts⟩ (by rw [eS11]; exact c_X2_clearCrop l dC dI cI a S5 i hC) (cwV 1 hts gX2_growCrop_X2_clearCrop rfl rfl rfl (by decide +kernel) ⟨Nat.le_of_ble_eq_true rfl, Nat.le_of_ble_eq_true rfl⟩) (by simp only [List.append_assoc, List.append_nil, List.nil_append]) hK hN (ci := 2) (q0 := 0) rfl rfl rfl hP hD hS hA rfl hl.1 rfl (Nat.le_of_ble_eq_true rfl) dX2_growCrop_105 ⟨Nat.le_of_ble_eq_true rfl, Nat.le_of_ble_eq_true rfl⟩ (fun H locs hP hD hS => ?_)
          have hP : va_P (dC, dI) vwCl (sW cI a S11) H := by simpa only [List.append_assoc, List.append_nil, List.nil_append] using hP
          have hD : va_D A (sW cI a S11) := by simpa only [List.append_assoc, List.append_nil, List.nil_append] using hD
          have hGS11 : geo h w S11 := by rw [eS11]; exact geo_sam hGS5 (sam_clear S5 i)
          refine lv_aload_n hx hb dX2_growCrop_108 rfl (lv_at hl 1 rfl) ?_
          refine lv_dup hx hb dX2_growCrop_109 rfl ?_
          refine va_get (D := (dC, dI)) (ci := 2) (v := .int (S11 0 4)) (C := RX2) (T := TX2) (N := 18) hx hb hts hinX2 hown hK hP 0 rfl rfl 4 (by decide) hf68 (fun _ h9 => h9) rfl dX2_growCrop_110 ?_
          refine lv_iconst (v := 1) hx hb dX2_growCrop_113 (by decide) ?_
          refine lv_iadd hx hb dX2_growCrop_114 ?_
          obtain ⟨S12, eS12⟩ : ∃ z : sS, z = s_put S11 0 4 ((S11 0 4) + 1) := ⟨_, rfl⟩
          refine va_put (D := (dC, dI)) (ci := 2) (v := .int ((S11 0 4) + 1)) (ty := .int) (C := RX2) (T := TX2) (N := 18) hx hb hts hinX2 tyX2 tyX2_ok nmX2 hown hK hP hD hS 0 rfl rfl 4 (by decide) hf68 (fun _ h9 => h9) rfl (by decide +kernel) rfl rfl (Nat.le_of_ble_eq_true rfl) dX2_growCrop_115 (fun H locs hP hD hS => ?_)
          have hP : va_P (dC, dI) vwCl (sW cI a S12) H := by rw [eS12]; exact hP
          have hD : va_D A (sW cI a S12) := by rw [eS12]; exact hD
          have hGS12 : geo h w S12 := by rw [eS12]; exact geo_put hGS11 (Or.inr (by decide)) _
          refine lv_goto (tgt := 150) hx hb dX2_growCrop_118 (by decide) ?_
          have hZ : S12 = sl_grow S i := (by have e9 : S5 = sl_dry (sl_wet (s_put S 8 i.toNatClampNeg (S 8 i.toNatClampNeg + 1)) i.toNatClampNeg) i.toNatClampNeg := (by rw [eS5, ev4, eS3, ev2, eS1]; rfl); unfold sl_grow; rw [← e9]; unfold sl_end; simp only [if_neg c_6, if_neg c_9]; rw [eS12, eS11]; first | done | rfl)
          rw [hZ] at hP hD
          exact zV_ret hx hb hr hlocks hP hD hS dX2_growCrop_150
    refine lv_if_ne (tgt := 81) hx hb dX2_growCrop_67 (by decide) (fun c_13 => ?_) (fun c_13 => ?_)
    · refine lv_iconst (v := 0) hx hb dX2_growCrop_81 (by decide) ?_
      exact hjv4 _ _ _ (by simp only [if_neg c_13]) hP hD hS
    · refine lv_aload_n hx hb dX2_growCrop_70 rfl (lv_at hl 1 rfl) ?_
      refine va_get (D := (dC, dI)) (ci := 2) (v := .ref (a 11)) (C := RX2) (T := TX2) (N := 18) hx hb hts hinX2 hown hK hP 0 rfl rfl 15 (by decide) hf42 (fun _ h9 => h9) rfl dX2_growCrop_71 ?_
      refine lv_iload_n hx hb dX2_growCrop_74 rfl (lv_at hl 2 rfl) ?_
      refine va_iald (cA := cI) (n := 64) (f := S3 11) hx hb hK hP 11 0 rfl rfl hC dX2_growCrop_75 ?_
      refine lv_iconst (v := 1) hx hb dX2_growCrop_76 (by decide) ?_
      refine lv_iadd hx hb dX2_growCrop_77 ?_
      refine lv_goto (tgt := 82) hx hb dX2_growCrop_78 (by decide) ?_
      exact hjv4 _ _ _ (by simp only [if_pos c_13]) hP hD hS
  refine lv_icmp_le (tgt := 54) hx hb dX2_growCrop_40 (by decide) (fun c_14 => ?_) (fun c_14 => ?_)
  · refine lv_iconst (v := 0) hx hb dX2_growCrop_54 (by decide) ?_
    exact hjv2 _ _ _ (by simp only [if_pos c_14]) hP hD hS
  · refine lv_aload_n hx hb dX2_growCrop_43 rfl (lv_at hl 1 rfl) ?_
    refine va_get (D := (dC, dI)) (ci := 2) (v := .ref (a 10)) (C := RX2) (T := TX2) (N := 18) hx hb hts hinX2 hown hK hP 0 rfl rfl 14 (by decide) hf39 (fun _ h9 => h9) rfl dX2_growCrop_44 ?_
    refine lv_iload_n hx hb dX2_growCrop_47 rfl (lv_at hl 2 rfl) ?_
    refine va_iald (cA := cI) (n := 64) (f := S1 10) hx hb hK hP 10 0 rfl rfl hC dX2_growCrop_48 ?_
    refine lv_iconst (v := 1) hx hb dX2_growCrop_49 (by decide) ?_
    refine lv_iadd hx hb dX2_growCrop_50 ?_
    refine lv_goto (tgt := 55) hx hb dX2_growCrop_51 (by decide) ?_
    exact hjv2 _ _ _ (by simp only [if_neg c_14]) hP hD hS
set_option maxHeartbeats 4000000 in
set_option maxRecDepth 100000 in
theorem c_X2_growRice (l : Launch) (dC : Nat → ClassId) (dI : Nat → Nat → Nat) (cI : ClassId) (a : Nat → Nat) (h w : Nat) (S : sS) (hG0 : geo h w S) : zV l yX2_growRice wsX2_growRice { frames := 3, cells := 0, slots := 0, locals := 66 } (dC, dI) cI [.ref (a 0)] (sW cI a S) (sW cI a (sl_rice h w S)) := by
  refine zV_of (cc := cX2_growRice) (maxL := 2) (ret := none) (by decide) rfl (Nat.le_of_ble_eq_true rfl) ?_
  intro p e s m below meth c A ls C0 hl
  obtain ⟨hx, hb, hr, hml, hown, hts, hlocks, hK, hN, hA, hP, hD, hS⟩ := C0
  have hown : s.vm.findClass RX2 = some m.cls := hown
  have hl : lv_has ls 2 [(0, .ref (a 0))] := hl
  have hf30 := hts (.fieldLink RX2 30 "PaddyTerraces$Slope" "crop" "[I") (by decide +kernel)
  have hinX2 : ∀ w ∈ wsX20, w ∈ wsX2_growRice := by decide +kernel
  have hS0 := hS
  have hN64 := geo_hw hG0
  have hW9 := geo_w hG0
  obtain ⟨-, -, hh2, hh8, hw2, hw8⟩ := id hG0
  refine lv_iconst (v := 0) hx hb dX2_growRice_0 (by decide) ?_
  refine lv_istore_n (lv' := [(1, .int 0), (0, .ref (a 0))]) hx hb dX2_growRice_1 rfl hl (by decide) rfl (fun ls hl => ?_)
  have lp2 : ∀ (n2 i2 : Nat) (T2_0 : sS) (H : Heap) (locs : List Loc) (ls : Array Slot), i2 + n2 = h * w → T2_0 = itr (fun i T => sl_rice1 T i) i2 S → geo h w T2_0 → va_P (dC, dI) vwCl (sW cI a T2_0) H → va_D A (sW cI a T2_0) → va_S A s.heap H locs → lv_has ls 2 [(0, .ref (a 0)), (1, .int (nI i2))] → W p l e ({ frames := 3, cells := 0, slots := 0, locals := 66 } : Room) s m [.ref (a 0)].toArray below meth c H locs 0 0 (zVq (dC, dI) A (sW cI a (sl_rice h w S)) below [.ref (a 0)].toArray s 0 0) (F0 m 2 ls []) := by
    intro n2
    induction n2 with
    | zero =>
      intro i2 T2_0 H locs ls hi2 eT2_0 hGT2_0 hP hD hS hl
      have hi2 : i2 = h * w := by omega
      rw [hi2] at eT2_0
      refine lv_iload_n hx hb dX2_growRice_2 rfl (lv_at hl 1 rfl) ?_
      refine lv_aload_n hx hb dX2_growRice_3 rfl (lv_at hl 0 rfl) ?_
      refine zI_V (pre := ([] : va_W)) (wc := sW cI a T2_0) (post := ([] : va_W)) (w1 := sW cI a T2_0) ⟨hx, hb, hml, hown, hts⟩ (c_X2_cells l dC dI cI a T2_0) (cwV 0 hts gX2_growRice_X2_cells rfl rfl rfl (by decide +kernel) ⟨Nat.le_of_ble_eq_true rfl, Nat.le_of_ble_eq_true rfl⟩) (by simp only [List.append_assoc, List.append_nil, List.nil_append]) hK hN (ci := 2) (q0 := 0) rfl rfl rfl hP hD hS hA rfl hl.1 rfl (Nat.le_of_ble_eq_true rfl) dX2_growRice_4 ⟨Nat.le_of_ble_eq_true rfl, Nat.le_of_ble_eq_true rfl⟩ (fun H locs hP hD hS => ?_)
      have hP : va_P (dC, dI) vwCl (sW cI a T2_0) H := by simpa only [List.append_assoc, List.append_nil, List.nil_append] using hP
      have hD : va_D A (sW cI a T2_0) := by simpa only [List.append_assoc, List.append_nil, List.nil_append] using hD
      refine lv_icmp_ge (tgt := 30) hx hb dX2_growRice_7 (by decide) (fun c_1 => ?_) (fun c_1 => ?_)
      · have hZ : T2_0 = sl_rice h w S := (by (try rw [eT2_0]); first | done | rfl | (simp only [sl_rice, if_pos c_1]; done) | (unfold sl_rice; simp only [if_pos c_1]; done))
        rw [hZ] at hP hD
        exact zV_ret hx hb hr hlocks hP hD hS dX2_growRice_30
      · exact absurd (by rw [show _ = nI (h * w) from (geo_cells hGT2_0)]; exact nI_le (by omega) (by omega)) c_1
    | succ n2 ih2 =>
      intro i2 T2_0 H locs ls hi2 eT2_0 hGT2_0 hP hD hS hl
      refine lv_iload_n hx hb dX2_growRice_2 rfl (lv_at hl 1 rfl) ?_
      refine lv_aload_n hx hb dX2_growRice_3 rfl (lv_at hl 0 rfl) ?_
      refine zI_V (pre := ([] : va_W)) (wc := sW cI a T2_0) (post := ([] : va_W)) (w1 := sW cI a T2_0) ⟨hx, hb, hml, hown, hts⟩ (c_X2_cells l dC dI cI a T2_0) (cwV 0 hts gX2_growRice_X2_cells rfl rfl rfl (by decide +kernel) ⟨Nat.le_of_ble_eq_true rfl, Nat.le_of_ble_eq_true rfl⟩) (by simp only [List.append_assoc, List.append_nil, List.nil_append]) hK hN (ci := 2) (q0 := 0) rfl rfl rfl hP hD hS hA rfl hl.1 rfl (Nat.le_of_ble_eq_true rfl) dX2_growRice_4 ⟨Nat.le_of_ble_eq_true rfl, Nat.le_of_ble_eq_true rfl⟩ (fun H locs hP hD hS => ?_)
      have hP : va_P (dC, dI) vwCl (sW cI a T2_0) H := by simpa only [List.append_assoc, List.append_nil, List.nil_append] using hP
      have hD : va_D A (sW cI a T2_0) := by simpa only [List.append_assoc, List.append_nil, List.nil_append] using hD
      refine lv_icmp_ge (tgt := 30) hx hb dX2_growRice_7 (by decide) (fun c_2 => ?_) (fun c_2 => ?_)
      · exact absurd c_2 (by rw [show _ = nI (h * w) from (geo_cells hGT2_0)]; exact nI_ge (by omega) (by omega))
      · refine lv_aload_n hx hb dX2_growRice_10 rfl (lv_at hl 0 rfl) ?_
        refine va_get (D := (dC, dI)) (ci := 2) (v := .ref (a 7)) (C := RX2) (T := TX2) (N := 18) hx hb hts hinX2 hown hK hP 0 rfl rfl 11 (by decide) hf30 (fun _ h9 => h9) rfl dX2_growRice_11 ?_
        refine lv_iload_n hx hb dX2_growRice_14 rfl (lv_at hl 1 rfl) ?_
        refine va_iald (cA := cI) (n := 64) (f := T2_0 7) hx hb hK hP 7 0 rfl rfl (vp_in_nI (by omega) (by decide)) dX2_growRice_15 ?_
        refine lv_if_eq (tgt := 24) hx hb dX2_growRice_16 (by decide) (fun c_3 => ?_) (fun c_3 => ?_)
        · refine lv_iinc (v := nI (i2 + 1)) (lv' := [(1, .int (nI (i2 + 1))), (0, .ref (a 0))]) hx hb dX2_growRice_24 hl (k := 1) rfl (show nI i2 + Int32.ofInt 1 = nI (i2 + 1) from nI_1 i2) (by decide) rfl (fun ls hl => ?_)
          refine lv_goto (tgt := 2) hx hb dX2_growRice_27 (by decide) ?_
          exact ih2 (i2 + 1) T2_0 _ _ ls (by omega) (by rw [itr_s, ← eT2_0]; simp only [sl_rice1, if_neg c_2, if_pos c_3]; first | done | rfl | ( first | done | rfl)) (hGT2_0) hP hD hS (lv_sub hl [1, 0] rfl)
        · refine lv_aload_n hx hb dX2_growRice_19 rfl (lv_at hl 0 rfl) ?_
          refine lv_iload_n hx hb dX2_growRice_20 rfl (lv_at hl 1 rfl) ?_
          obtain ⟨S4, eS4⟩ : ∃ z : sS, z = sl_grow T2_0 (nI i2) := ⟨_, rfl⟩
          refine zV_V (pre := ([] : va_W)) (wc := sW cI a T2_0) (post := ([] : va_W)) (w1 := sW cI a S4) ⟨hx, hb, hml, hown, hts⟩ (by rw [eS4]; exact c_X2_growCrop l dC dI cI a h w T2_0 (nI i2) hGT2_0 (vp_in_nI (by omega) (by decide))) (cwV 1 hts gX2_growRice_X2_growCrop rfl rfl rfl (by decide +kernel) ⟨Nat.le_of_ble_eq_true rfl, Nat.le_of_ble_eq_true rfl⟩) (by simp only [List.append_assoc, List.append_nil, List.nil_append]) hK hN (ci := 2) (q0 := 0) rfl rfl rfl hP hD hS hA rfl hl.1 rfl (Nat.le_of_ble_eq_true rfl) dX2_growRice_21 ⟨Nat.le_of_ble_eq_true rfl, Nat.le_of_ble_eq_true rfl⟩ (fun H locs hP hD hS => ?_)
          have hP : va_P (dC, dI) vwCl (sW cI a S4) H := by simpa only [List.append_assoc, List.append_nil, List.nil_append] using hP
          have hD : va_D A (sW cI a S4) := by simpa only [List.append_assoc, List.append_nil, List.nil_append] using hD
          have hGS4 : geo h w S4 := by rw [eS4]; exact geo_sam hGT2_0 (sam_grow T2_0 (nI i2))
          refine lv_iinc (v := nI (i2 + 1)) (lv' := [(1, .int (nI (i2 + 1))), (0, .ref (a 0))]) hx hb dX2_growRice_24 hl (k := 1) rfl (show nI i2 + Int32.ofInt 1 = nI (i2 + 1) from nI_1 i2) (by decide) rfl (fun ls hl => ?_)
          refine lv_goto (tgt := 2) hx hb dX2_growRice_27 (by decide) ?_
          exact ih2 (i2 + 1) S4 _ _ ls (by omega) (by rw [itr_s, ← eT2_0]; simp only [sl_rice1, if_neg c_2, if_neg c_3]; first | done | rfl | ((try rw [eS4]); first | done | rfl)) (hGS4) hP hD hS (lv_sub hl [1, 0] rfl)
  exact lp2 (h * w) 0 S _ _ ls (by omega) rfl (hG0) hP hD hS (lv_sub hl [1, 0] rfl)

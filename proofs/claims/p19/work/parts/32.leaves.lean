set_option maxHeartbeats 4000000 in
set_option maxRecDepth 100000 in
theorem c_X3_isWithin (l : Launch) (dC : Nat → ClassId) (dI : Nat → Nat → Nat) (cI : ClassId) (x u v : Int32) : zI l yX3_isWithin wsX3_isWithin { frames := 0, cells := 0, slots := 0, locals := 0 } (dC, dI) cI [.int x, .int u, .int v] (([] : va_W)) (([] : va_W)) (is_w x u v) := by
  refine zI_of (cc := cX3_isWithin) (maxL := 3) (ret := (some .boolean)) (by decide) rfl (Nat.le_of_ble_eq_true rfl) ?_
  intro p e s m below meth c A ls C0 hl
  obtain ⟨hx, hb, hr, hml, hown, hts, hlocks, hK, hN, hA, hP, hD, hS⟩ := C0
  have hown : s.vm.findClass RX3 = some m.cls := hown
  have hl : lv_has ls 3 [(0, .int x), (1, .int u), (2, .int v)] := hl
  have hS0 := hS
  refine lv_iload_n hx hb dX3_isWithin_0 rfl (lv_at hl 0 rfl) ?_
  refine lv_iload_n hx hb dX3_isWithin_1 rfl (lv_at hl 1 rfl) ?_
  refine lv_icmp_lt (tgt := 14) hx hb dX3_isWithin_2 (by decide) (fun c_1 => ?_) (fun c_1 => ?_)
  · refine lv_iconst (v := 0) hx hb dX3_isWithin_14 (by decide) ?_
    exact zI_ret hx hb hr hlocks hP hD hS rfl (by first | done | rfl | (simp only [is_w, if_pos c_1]; done)) dX3_isWithin_15
  · refine lv_iload_n hx hb dX3_isWithin_5 rfl (lv_at hl 0 rfl) ?_
    refine lv_iload_n hx hb dX3_isWithin_6 rfl (lv_at hl 2 rfl) ?_
    refine lv_icmp_gt (tgt := 14) hx hb dX3_isWithin_7 (by decide) (fun c_2 => ?_) (fun c_2 => ?_)
    · refine lv_iconst (v := 0) hx hb dX3_isWithin_14 (by decide) ?_
      exact zI_ret hx hb hr hlocks hP hD hS rfl (by first | done | rfl | (simp only [is_w, if_neg c_1, if_pos c_2]; done)) dX3_isWithin_15
    · refine lv_iconst (v := 1) hx hb dX3_isWithin_10 (by decide) ?_
      refine lv_goto (tgt := 15) hx hb dX3_isWithin_11 (by decide) ?_
      exact zI_ret hx hb hr hlocks hP hD hS rfl (by first | done | rfl | (simp only [is_w, if_neg c_1, if_neg c_2]; done)) dX3_isWithin_15
set_option maxHeartbeats 4000000 in
set_option maxRecDepth 100000 in
theorem c_X2_cells (l : Launch) (dC : Nat → ClassId) (dI : Nat → Nat → Nat) (cI : ClassId) (a : Nat → Nat) (S : sS) : zI l yX2_cells wsX2_cells { frames := 0, cells := 0, slots := 0, locals := 0 } (dC, dI) cI [.ref (a 0)] (sW cI a S) (sW cI a S) (sl_cells S) := by
  refine zI_of (cc := cX2_cells) (maxL := 1) (ret := (some .int)) (by decide) rfl (Nat.le_of_ble_eq_true rfl) ?_
  intro p e s m below meth c A ls C0 hl
  obtain ⟨hx, hb, hr, hml, hown, hts, hlocks, hK, hN, hA, hP, hD, hS⟩ := C0
  have hown : s.vm.findClass RX2 = some m.cls := hown
  have hl : lv_has ls 1 [(0, .ref (a 0))] := hl
  have hf55 := hts (.fieldLink RX2 55 "PaddyTerraces$Slope" "h" "I") (by decide +kernel)
  have hf59 := hts (.fieldLink RX2 59 "PaddyTerraces$Slope" "w" "I") (by decide +kernel)
  have hinX2 : ∀ w ∈ wsX20, w ∈ wsX2_cells := by decide +kernel
  have hS0 := hS
  refine lv_aload_n hx hb dX2_cells_0 rfl (lv_at hl 0 rfl) ?_
  refine va_get (D := (dC, dI)) (ci := 2) (v := .int (S 0 0)) (C := RX2) (T := TX2) (N := 18) hx hb hts hinX2 hown hK hP 0 rfl rfl 0 (by decide) hf55 (fun _ h9 => h9) rfl dX2_cells_1 ?_
  refine lv_aload_n hx hb dX2_cells_4 rfl (lv_at hl 0 rfl) ?_
  refine va_get (D := (dC, dI)) (ci := 2) (v := .int (S 0 1)) (C := RX2) (T := TX2) (N := 18) hx hb hts hinX2 hown hK hP 0 rfl rfl 1 (by decide) hf59 (fun _ h9 => h9) rfl dX2_cells_5 ?_
  refine lv_imul hx hb dX2_cells_8 ?_
  exact zI_ret hx hb hr hlocks hP hD hS rfl (by first | done | rfl) dX2_cells_9
set_option maxHeartbeats 4000000 in
set_option maxRecDepth 100000 in
theorem c_X2_hasField (l : Launch) (dC : Nat → ClassId) (dI : Nat → Nat → Nat) (cI : ClassId) (a : Nat → Nat) (S : sS) (t f : Int32) : zI l yX2_hasField wsX2_hasField { frames := 0, cells := 0, slots := 0, locals := 0 } (dC, dI) cI [.ref (a 0), .int t, .int f] (sW cI a S) (sW cI a S) (sl_has S t f) := by
  refine zI_of (cc := cX2_hasField) (maxL := 3) (ret := (some .boolean)) (by decide) rfl (Nat.le_of_ble_eq_true rfl) ?_
  intro p e s m below meth c A ls C0 hl
  obtain ⟨hx, hb, hr, hml, hown, hts, hlocks, hK, hN, hA, hP, hD, hS⟩ := C0
  have hown : s.vm.findClass RX2 = some m.cls := hown
  have hl : lv_has ls 3 [(0, .ref (a 0)), (1, .int t), (2, .int f)] := hl
  have hf55 := hts (.fieldLink RX2 55 "PaddyTerraces$Slope" "h" "I") (by decide +kernel)
  have hf59 := hts (.fieldLink RX2 59 "PaddyTerraces$Slope" "w" "I") (by decide +kernel)
  have hinX2 : ∀ w ∈ wsX20, w ∈ wsX2_hasField := by decide +kernel
  have hS0 := hS
  refine lv_iload_n hx hb dX2_hasField_0 rfl (lv_at hl 1 rfl) ?_
  refine lv_if_lt (tgt := 28) hx hb dX2_hasField_1 (by decide) (fun c_1 => ?_) (fun c_1 => ?_)
  · refine lv_iconst (v := 0) hx hb dX2_hasField_28 (by decide) ?_
    exact zI_ret hx hb hr hlocks hP hD hS rfl (by first | done | rfl | (simp only [sl_has, if_pos c_1]; done)) dX2_hasField_29
  · refine lv_iload_n hx hb dX2_hasField_4 rfl (lv_at hl 1 rfl) ?_
    refine lv_aload_n hx hb dX2_hasField_5 rfl (lv_at hl 0 rfl) ?_
    refine va_get (D := (dC, dI)) (ci := 2) (v := .int (S 0 0)) (C := RX2) (T := TX2) (N := 18) hx hb hts hinX2 hown hK hP 0 rfl rfl 0 (by decide) hf55 (fun _ h9 => h9) rfl dX2_hasField_6 ?_
    refine lv_icmp_ge (tgt := 28) hx hb dX2_hasField_9 (by decide) (fun c_2 => ?_) (fun c_2 => ?_)
    · refine lv_iconst (v := 0) hx hb dX2_hasField_28 (by decide) ?_
      exact zI_ret hx hb hr hlocks hP hD hS rfl (by first | done | rfl | (simp only [sl_has, if_neg c_1, if_pos c_2]; done)) dX2_hasField_29
    · refine lv_iload_n hx hb dX2_hasField_12 rfl (lv_at hl 2 rfl) ?_
      refine lv_if_lt (tgt := 28) hx hb dX2_hasField_13 (by decide) (fun c_3 => ?_) (fun c_3 => ?_)
      · refine lv_iconst (v := 0) hx hb dX2_hasField_28 (by decide) ?_
        exact zI_ret hx hb hr hlocks hP hD hS rfl (by first | done | rfl | (simp only [sl_has, if_neg c_1, if_neg c_2, if_pos c_3]; done)) dX2_hasField_29
      · refine lv_iload_n hx hb dX2_hasField_16 rfl (lv_at hl 2 rfl) ?_
        refine lv_aload_n hx hb dX2_hasField_17 rfl (lv_at hl 0 rfl) ?_
        refine va_get (D := (dC, dI)) (ci := 2) (v := .int (S 0 1)) (C := RX2) (T := TX2) (N := 18) hx hb hts hinX2 hown hK hP 0 rfl rfl 1 (by decide) hf59 (fun _ h9 => h9) rfl dX2_hasField_18 ?_
        refine lv_icmp_ge (tgt := 28) hx hb dX2_hasField_21 (by decide) (fun c_4 => ?_) (fun c_4 => ?_)
        · refine lv_iconst (v := 0) hx hb dX2_hasField_28 (by decide) ?_
          exact zI_ret hx hb hr hlocks hP hD hS rfl (by first | done | rfl | (simp only [sl_has, if_neg c_1, if_neg c_2, if_neg c_3, if_pos c_4]; done)) dX2_hasField_29
        · refine lv_iconst (v := 1) hx hb dX2_hasField_24 (by decide) ?_
          refine lv_goto (tgt := 29) hx hb dX2_hasField_25 (by decide) ?_
          exact zI_ret hx hb hr hlocks hP hD hS rfl (by first | done | rfl | (simp only [sl_has, if_neg c_1, if_neg c_2, if_neg c_3, if_neg c_4]; done)) dX2_hasField_29
set_option maxHeartbeats 4000000 in
set_option maxRecDepth 100000 in
theorem c_X2_cellOf (l : Launch) (dC : Nat → ClassId) (dI : Nat → Nat → Nat) (cI : ClassId) (a : Nat → Nat) (S : sS) (t f : Int32) : zI l yX2_cellOf wsX2_cellOf { frames := 0, cells := 0, slots := 0, locals := 0 } (dC, dI) cI [.ref (a 0), .int t, .int f] (sW cI a S) (sW cI a S) (sl_at S t f) := by
  refine zI_of (cc := cX2_cellOf) (maxL := 3) (ret := (some .int)) (by decide) rfl (Nat.le_of_ble_eq_true rfl) ?_
  intro p e s m below meth c A ls C0 hl
  obtain ⟨hx, hb, hr, hml, hown, hts, hlocks, hK, hN, hA, hP, hD, hS⟩ := C0
  have hown : s.vm.findClass RX2 = some m.cls := hown
  have hl : lv_has ls 3 [(0, .ref (a 0)), (1, .int t), (2, .int f)] := hl
  have hf59 := hts (.fieldLink RX2 59 "PaddyTerraces$Slope" "w" "I") (by decide +kernel)
  have hinX2 : ∀ w ∈ wsX20, w ∈ wsX2_cellOf := by decide +kernel
  have hS0 := hS
  refine lv_iload_n hx hb dX2_cellOf_0 rfl (lv_at hl 1 rfl) ?_
  refine lv_aload_n hx hb dX2_cellOf_1 rfl (lv_at hl 0 rfl) ?_
  refine va_get (D := (dC, dI)) (ci := 2) (v := .int (S 0 1)) (C := RX2) (T := TX2) (N := 18) hx hb hts hinX2 hown hK hP 0 rfl rfl 1 (by decide) hf59 (fun _ h9 => h9) rfl dX2_cellOf_2 ?_
  refine lv_imul hx hb dX2_cellOf_5 ?_
  refine lv_iload_n hx hb dX2_cellOf_6 rfl (lv_at hl 2 rfl) ?_
  refine lv_iadd hx hb dX2_cellOf_7 ?_
  exact zI_ret hx hb hr hlocks hP hD hS rfl (by first | done | rfl) dX2_cellOf_8
set_option maxHeartbeats 4000000 in
set_option maxRecDepth 100000 in
theorem c_X2_bringWater (l : Launch) (dC : Nat → ClassId) (dI : Nat → Nat → Nat) (cI : ClassId) (a : Nat → Nat) (h w : Nat) (S : sS) (t f x : Int32) (hG0 : geo h w S) : zV l yX2_bringWater wsX2_bringWater { frames := 1, cells := 0, slots := 0, locals := 22 } (dC, dI) cI [.ref (a 0), .int t, .int f, .int x] (sW cI a S) (sW cI a (sl_bring S t f x)) := by
  refine zV_of (cc := cX2_bringWater) (maxL := 4) (ret := none) (by decide) rfl (Nat.le_of_ble_eq_true rfl) ?_
  intro p e s m below meth c A ls C0 hl
  obtain ⟨hx, hb, hr, hml, hown, hts, hlocks, hK, hN, hA, hP, hD, hS⟩ := C0
  have hown : s.vm.findClass RX2 = some m.cls := hown
  have hl : lv_has ls 4 [(0, .ref (a 0)), (1, .int t), (2, .int f), (3, .int x)] := hl
  have hf15 := hts (.fieldLink RX2 15 "PaddyTerraces$Slope" "depth" "[I") (by decide +kernel)
  have hf65 := hts (.fieldLink RX2 65 "PaddyTerraces$Slope" "brook" "I") (by decide +kernel)
  have hinX2 : ∀ w ∈ wsX20, w ∈ wsX2_bringWater := by decide +kernel
  have hS0 := hS
  have hN64 := geo_hw hG0
  have hW9 := geo_w hG0
  obtain ⟨-, -, hh2, hh8, hw2, hw8⟩ := id hG0
  refine lv_aload_n hx hb dX2_bringWater_0 rfl (lv_at hl 0 rfl) ?_
  refine lv_iload_n hx hb dX2_bringWater_1 rfl (lv_at hl 1 rfl) ?_
  refine lv_iload_n hx hb dX2_bringWater_2 rfl (lv_at hl 2 rfl) ?_
  refine zI_V (pre := ([] : va_W)) (wc := sW cI a S) (post := ([] : va_W)) (w1 := sW cI a S) ⟨hx, hb, hml, hown, hts⟩ (c_X2_hasField l dC dI cI a S t f) (cwV 2 hts gX2_bringWater_X2_hasField rfl rfl rfl (by decide +kernel) ⟨Nat.le_of_ble_eq_true rfl, Nat.le_of_ble_eq_true rfl⟩) (by simp only [List.append_assoc, List.append_nil, List.nil_append]) hK hN (ci := 2) (q0 := 0) rfl rfl rfl hP hD hS hA rfl hl.1 rfl (Nat.le_of_ble_eq_true rfl) dX2_bringWater_3 ⟨Nat.le_of_ble_eq_true rfl, Nat.le_of_ble_eq_true rfl⟩ (fun H locs hP hD hS => ?_)
  have hP : va_P (dC, dI) vwCl (sW cI a S) H := by simpa only [List.append_assoc, List.append_nil, List.nil_append] using hP
  have hD : va_D A (sW cI a S) := by simpa only [List.append_assoc, List.append_nil, List.nil_append] using hD
  refine lv_if_eq (tgt := 27) hx hb dX2_bringWater_6 (by decide) (fun c_1 => ?_) (fun c_1 => ?_)
  · refine lv_aload_n hx hb dX2_bringWater_27 rfl (lv_at hl 0 rfl) ?_
    refine lv_dup hx hb dX2_bringWater_28 rfl ?_
    refine va_get (D := (dC, dI)) (ci := 2) (v := .int (S 0 3)) (C := RX2) (T := TX2) (N := 18) hx hb hts hinX2 hown hK hP 0 rfl rfl 3 (by decide) hf65 (fun _ h9 => h9) rfl dX2_bringWater_29 ?_
    refine lv_iload_n hx hb dX2_bringWater_32 rfl (lv_at hl 3 rfl) ?_
    refine lv_iadd hx hb dX2_bringWater_33 ?_
    obtain ⟨S2, eS2⟩ : ∃ z : sS, z = s_put S 0 3 ((S 0 3) + x) := ⟨_, rfl⟩
    refine va_put (D := (dC, dI)) (ci := 2) (v := .int ((S 0 3) + x)) (ty := .int) (C := RX2) (T := TX2) (N := 18) hx hb hts hinX2 tyX2 tyX2_ok nmX2 hown hK hP hD hS 0 rfl rfl 3 (by decide) hf65 (fun _ h9 => h9) rfl (by decide +kernel) rfl rfl (Nat.le_of_ble_eq_true rfl) dX2_bringWater_34 (fun H locs hP hD hS => ?_)
    have hP : va_P (dC, dI) vwCl (sW cI a S2) H := by rw [eS2]; exact hP
    have hD : va_D A (sW cI a S2) := by rw [eS2]; exact hD
    have hGS2 : geo h w S2 := by rw [eS2]; exact geo_put hG0 (Or.inr (by decide)) _
    have hZ : S2 = sl_bring S t f x := (by (try rw [eS2]); first | done | rfl | (simp only [sl_bring, if_pos c_1]; done) | (unfold sl_bring; simp only [if_pos c_1]; done))
    rw [hZ] at hP hD
    exact zV_ret hx hb hr hlocks hP hD hS dX2_bringWater_37
  · refine lv_aload_n hx hb dX2_bringWater_9 rfl (lv_at hl 0 rfl) ?_
    refine va_get (D := (dC, dI)) (ci := 2) (v := .ref (a 2)) (C := RX2) (T := TX2) (N := 18) hx hb hts hinX2 hown hK hP 0 rfl rfl 6 (by decide) hf15 (fun _ h9 => h9) rfl dX2_bringWater_10 ?_
    refine lv_aload_n hx hb dX2_bringWater_13 rfl (lv_at hl 0 rfl) ?_
    refine lv_iload_n hx hb dX2_bringWater_14 rfl (lv_at hl 1 rfl) ?_
    refine lv_iload_n hx hb dX2_bringWater_15 rfl (lv_at hl 2 rfl) ?_
    refine zI_V (pre := ([] : va_W)) (wc := sW cI a S) (post := ([] : va_W)) (w1 := sW cI a S) ⟨hx, hb, hml, hown, hts⟩ (c_X2_cellOf l dC dI cI a S t f) (cwV 2 hts gX2_bringWater_X2_cellOf rfl rfl rfl (by decide +kernel) ⟨Nat.le_of_ble_eq_true rfl, Nat.le_of_ble_eq_true rfl⟩) (by simp only [List.append_assoc, List.append_nil, List.nil_append]) hK hN (ci := 2) (q0 := 0) rfl rfl rfl hP hD hS hA rfl hl.1 rfl (Nat.le_of_ble_eq_true rfl) dX2_bringWater_16 ⟨Nat.le_of_ble_eq_true rfl, Nat.le_of_ble_eq_true rfl⟩ (fun H locs hP hD hS => ?_)
    have hP : va_P (dC, dI) vwCl (sW cI a S) H := by simpa only [List.append_assoc, List.append_nil, List.nil_append] using hP
    have hD : va_D A (sW cI a S) := by simpa only [List.append_assoc, List.append_nil, List.nil_append] using hD
    refine lv_dup2_11 hx hb dX2_bringWater_19 rfl rfl ?_
    refine va_iald (cA := cI) (n := 64) (f := S 2) hx hb hK hP 2 0 rfl rfl (geo_in hG0 c_1) dX2_bringWater_20 ?_
    refine lv_iload_n hx hb dX2_bringWater_21 rfl (lv_at hl 3 rfl) ?_
    refine lv_iadd hx hb dX2_bringWater_22 ?_
    obtain ⟨S3, eS3⟩ : ∃ z : sS, z = s_put S 2 ((sl_at S t f).toNatClampNeg) ((S 2 (sl_at S t f).toNatClampNeg) + x) := ⟨_, rfl⟩
    refine va_iast (cA := cI) (n := 64) (f := S 2) hx hb hK hP hD hS 2 0 rfl rfl (geo_in hG0 c_1) dX2_bringWater_23 (fun H locs hP hD hS => ?_)
    have hP : va_P (dC, dI) vwCl (sW cI a S3) H := by rw [eS3]; exact hP
    have hD : va_D A (sW cI a S3) := by rw [eS3]; exact hD
    have hGS3 : geo h w S3 := by rw [eS3]; exact geo_put hG0 (Or.inl (by decide)) _
    refine lv_goto (tgt := 37) hx hb dX2_bringWater_24 (by decide) ?_
    have hZ : S3 = sl_bring S t f x := (by (try rw [eS3]); first | done | rfl | (simp only [sl_bring, if_neg c_1]; done) | (unfold sl_bring; simp only [if_neg c_1]; done))
    rw [hZ] at hP hD
    exact zV_ret hx hb hr hlocks hP hD hS dX2_bringWater_37

set_option maxHeartbeats 4000000 in
set_option maxRecDepth 100000 in
theorem c_X4_setField (l : Launch) (dC : Nat → ClassId) (dI : Nat → Nat → Nat) (cI : ClassId) (d : Nat → Nat) (h w : Nat) (O : sS) (t f u v : Int32) (hG0 : gem h w O) : zI l yX4_setField wsX4_setField { frames := 2, cells := 0, slots := 0, locals := 44 } (dC, dI) cI [.ref (d 0), .int t, .int f, .int u, .int v] (mW cI d O) (mW cI d (mset_S (s_put O 0 0 0) t f u v)) (mset_V (s_put O 0 0 0) t f u v) := by
  refine zI_of (cc := cX4_setField) (maxL := 6) (ret := (some .int)) (by decide) rfl (Nat.le_of_ble_eq_true rfl) ?_
  intro p e s m below meth c A ls C0 hl
  obtain ⟨hx, hb, hr, hml, hown, hts, hlocks, hK, hN, hA, hP, hD, hS⟩ := C0
  have hown : s.vm.findClass RX4 = some m.cls := hown
  have hl : lv_has ls 6 [(0, .ref (d 0)), (1, .int t), (2, .int f), (3, .int u), (4, .int v)] := hl
  have hf16 := hts (.fieldLink RX4 16 "PaddyTerracesModel" "fields" "[I") (by decide +kernel)
  have hf38 := hts (.fieldLink RX4 38 "PaddyTerracesModel" "thrown" "I") (by decide +kernel)
  have hc_min := hts (.code Lib.Math.min.name Lib.Math.min.code 2 (some .int)) (by decide +kernel)
  have hi_Math := hts (.initialized "java/lang/Math") (by decide +kernel)
  have hm58 := hts (.methodLink RX4 58 Lib.Math.min.name) (by decide +kernel)
  have hs_min := hts (.static Lib.Math.min.name) (by decide +kernel)
  have hinX4 : ∀ w ∈ wsX40, w ∈ wsX4_setField := by decide +kernel
  have hS0 := hS
  have hN64 := gem_hw hG0
  have hW9 := gem_w hG0
  obtain ⟨-, -, hh2, hh8, hw2, hw8⟩ := id hG0
  refine lv_aload_n hx hb dX4_setField_0 rfl (lv_at hl 0 rfl) ?_
  refine lv_iconst (v := 0) hx hb dX4_setField_1 (by decide) ?_
  refine va_put (D := (dC, dI)) (ci := 4) (v := .int 0) (ty := .int) (C := RX4) (T := TX4) (N := 7) hx hb hts hinX4 tyX4 tyX4_ok nmX4 hown hK hP hD hS 0 rfl rfl 0 (by decide) hf38 (fun _ h9 => h9) rfl (by decide +kernel) rfl rfl (Nat.le_of_ble_eq_true rfl) dX4_setField_2 (fun H locs hP hD hS => ?_)
  have hP : va_P (dC, dI) vwCl (mW cI d (s_put O 0 0 0)) H := hP
  have hD : va_D A (mW cI d (s_put O 0 0 0)) := hD
  have hGz : gem h w (s_put O 0 0 0) := gem_put hG0 (Or.inl (by decide)) _
  refine lv_aload_n hx hb dX4_setField_5 rfl (lv_at hl 0 rfl) ?_
  refine lv_iload_n hx hb dX4_setField_6 rfl (lv_at hl 1 rfl) ?_
  refine lv_iload_n hx hb dX4_setField_7 rfl (lv_at hl 2 rfl) ?_
  refine zI_V (pre := ([] : va_W)) (wc := mW cI d (s_put O 0 0 0)) (post := ([] : va_W)) (w1 := mW cI d (s_put O 0 0 0)) ⟨hx, hb, hml, hown, hts⟩ (c_X4_isField l dC dI cI d (s_put O 0 0 0) t f) (cwV 2 hts gX4_setField_X4_isField rfl rfl rfl (by decide +kernel) ⟨Nat.le_of_ble_eq_true rfl, Nat.le_of_ble_eq_true rfl⟩) (by simp only [List.append_assoc, List.append_nil, List.nil_append]) hK hN (ci := 4) (q0 := 0) rfl rfl rfl hP hD hS hA rfl hl.1 rfl (Nat.le_of_ble_eq_true rfl) dX4_setField_8 ⟨Nat.le_of_ble_eq_true rfl, Nat.le_of_ble_eq_true rfl⟩ (fun H locs hP hD hS => ?_)
  have hP : va_P (dC, dI) vwCl (mW cI d (s_put O 0 0 0)) H := by simpa only [List.append_assoc, List.append_nil, List.nil_append] using hP
  have hD : va_D A (mW cI d (s_put O 0 0 0)) := by simpa only [List.append_assoc, List.append_nil, List.nil_append] using hD
  refine lv_if_ne (tgt := 20) hx hb dX4_setField_11 (by decide) (fun c_1 => ?_) (fun c_1 => ?_)
  · refine lv_iload_n hx hb dX4_setField_20 rfl (lv_at hl 3 rfl) ?_
    refine lv_bipush (v := 20) hx hb dX4_setField_21 (by decide) ?_
    refine lv_bipush (v := 120) hx hb dX4_setField_23 (by decide) ?_
    refine zI_S (pre := (mW cI d (s_put O 0 0 0))) (wc := ([] : va_W)) (post := ([] : va_W)) (w1 := ([] : va_W)) ⟨hx, hb, hml, hown, hts⟩ (c_X4_isIn l dC dI cI u 20 120) (va_cwS 3 hts gX4_setField_X4_isIn rfl rfl rfl (by decide +kernel) ⟨Nat.le_of_ble_eq_true rfl, Nat.le_of_ble_eq_true rfl⟩) (by simp only [List.append_assoc, List.append_nil, List.nil_append]) hK hN hP hD hS hA rfl hl.1 rfl (Nat.le_of_ble_eq_true rfl) dX4_setField_25 ⟨Nat.le_of_ble_eq_true rfl, Nat.le_of_ble_eq_true rfl⟩ (fun H locs hP hD hS => ?_)
    have hP : va_P (dC, dI) vwCl (mW cI d (s_put O 0 0 0)) H := by simpa only [List.append_assoc, List.append_nil, List.nil_append] using hP
    have hD : va_D A (mW cI d (s_put O 0 0 0)) := by simpa only [List.append_assoc, List.append_nil, List.nil_append] using hD
    refine lv_if_eq (tgt := 42) hx hb dX4_setField_28 (by decide) (fun c_2 => ?_) (fun c_2 => ?_)
    · refine lv_aload_n hx hb dX4_setField_42 rfl (lv_at hl 0 rfl) ?_
      refine lv_iconst (v := 2) hx hb dX4_setField_43 (by decide) ?_
      obtain ⟨S3, eS3⟩ : ∃ z : sS, z = mfail (s_put O 0 0 0) 2 := ⟨_, rfl⟩
      refine zI_V (pre := ([] : va_W)) (wc := mW cI d (s_put O 0 0 0)) (post := ([] : va_W)) (w1 := mW cI d S3) ⟨hx, hb, hml, hown, hts⟩ (by rw [eS3]; exact c_X4_fail l dC dI cI d (s_put O 0 0 0) 2) (cwV 1 hts gX4_setField_X4_fail rfl rfl rfl (by decide +kernel) ⟨Nat.le_of_ble_eq_true rfl, Nat.le_of_ble_eq_true rfl⟩) (by simp only [List.append_assoc, List.append_nil, List.nil_append]) hK hN (ci := 4) (q0 := 0) rfl rfl rfl hP hD hS hA rfl hl.1 rfl (Nat.le_of_ble_eq_true rfl) dX4_setField_44 ⟨Nat.le_of_ble_eq_true rfl, Nat.le_of_ble_eq_true rfl⟩ (fun H locs hP hD hS => ?_)
      have hP : va_P (dC, dI) vwCl (mW cI d S3) H := by simpa only [List.append_assoc, List.append_nil, List.nil_append] using hP
      have hD : va_D A (mW cI d S3) := by simpa only [List.append_assoc, List.append_nil, List.nil_append] using hD
      have hZ : S3 = mset_S (s_put O 0 0 0) t f u v := (by (try rw [eS3]); first | done | rfl | (simp only [mset_S, mset_V, mset_b, mset_a, if_neg c_1, if_pos c_2]; done) | (unfold mset_S; simp only [if_neg c_1, if_pos c_2]; done))
      rw [hZ] at hP hD
      exact zI_ret hx hb hr hlocks hP hD hS rfl (by (try rw [eS3]); first | done | rfl | (simp only [mset_S, mset_V, mset_b, mset_a, if_neg c_1, if_pos c_2]; done)) dX4_setField_47
    · refine lv_iload hx hb dX4_setField_31 (lv_at hl 4 rfl) ?_
      refine lv_iconst (v := 0) hx hb dX4_setField_33 (by decide) ?_
      refine lv_bipush (v := 9) hx hb dX4_setField_34 (by decide) ?_
      refine zI_S (pre := (mW cI d (s_put O 0 0 0))) (wc := ([] : va_W)) (post := ([] : va_W)) (w1 := ([] : va_W)) ⟨hx, hb, hml, hown, hts⟩ (c_X4_isIn l dC dI cI v 0 9) (va_cwS 3 hts gX4_setField_X4_isIn rfl rfl rfl (by decide +kernel) ⟨Nat.le_of_ble_eq_true rfl, Nat.le_of_ble_eq_true rfl⟩) (by simp only [List.append_assoc, List.append_nil, List.nil_append]) hK hN hP hD hS hA rfl hl.1 rfl (Nat.le_of_ble_eq_true rfl) dX4_setField_36 ⟨Nat.le_of_ble_eq_true rfl, Nat.le_of_ble_eq_true rfl⟩ (fun H locs hP hD hS => ?_)
      have hP : va_P (dC, dI) vwCl (mW cI d (s_put O 0 0 0)) H := by simpa only [List.append_assoc, List.append_nil, List.nil_append] using hP
      have hD : va_D A (mW cI d (s_put O 0 0 0)) := by simpa only [List.append_assoc, List.append_nil, List.nil_append] using hD
      refine lv_if_ne (tgt := 48) hx hb dX4_setField_39 (by decide) (fun c_4 => ?_) (fun c_4 => ?_)
      · refine lv_aload_n hx hb dX4_setField_48 rfl (lv_at hl 0 rfl) ?_
        refine lv_iload_n hx hb dX4_setField_49 rfl (lv_at hl 1 rfl) ?_
        refine lv_iload_n hx hb dX4_setField_50 rfl (lv_at hl 2 rfl) ?_
        refine zI_V (pre := ([] : va_W)) (wc := mW cI d (s_put O 0 0 0)) (post := ([] : va_W)) (w1 := mW cI d (s_put O 0 0 0)) ⟨hx, hb, hml, hown, hts⟩ (c_X4_at l dC dI cI d (s_put O 0 0 0) t f) (cwV 2 hts gX4_setField_X4_at rfl rfl rfl (by decide +kernel) ⟨Nat.le_of_ble_eq_true rfl, Nat.le_of_ble_eq_true rfl⟩) (by simp only [List.append_assoc, List.append_nil, List.nil_append]) hK hN (ci := 4) (q0 := 0) rfl rfl rfl hP hD hS hA rfl hl.1 rfl (Nat.le_of_ble_eq_true rfl) dX4_setField_51 ⟨Nat.le_of_ble_eq_true rfl, Nat.le_of_ble_eq_true rfl⟩ (fun H locs hP hD hS => ?_)
        have hP : va_P (dC, dI) vwCl (mW cI d (s_put O 0 0 0)) H := by simpa only [List.append_assoc, List.append_nil, List.nil_append] using hP
        have hD : va_D A (mW cI d (s_put O 0 0 0)) := by simpa only [List.append_assoc, List.append_nil, List.nil_append] using hD
        refine lv_istore (lv' := [(5, .int (mi_at (s_put O 0 0 0) t f)), (0, .ref (d 0)), (1, .int t), (2, .int f), (3, .int u), (4, .int v)]) hx hb dX4_setField_54 hl (by decide) rfl (fun ls hl => ?_)
        refine lv_aload_n hx hb dX4_setField_56 rfl (lv_at hl 1 rfl) ?_
        refine va_get (D := (dC, dI)) (ci := 4) (v := .ref (d 3)) (C := RX4) (T := TX4) (N := 7) hx hb hts hinX4 hown hK hP 0 rfl rfl 3 (by decide) hf16 (fun _ h9 => h9) rfl dX4_setField_57 ?_
        refine lv_iload hx hb dX4_setField_60 (lv_at hl 0 rfl) ?_
        refine lv_iconst (v := 2) hx hb dX4_setField_62 (by decide) ?_
        refine lv_iadd hx hb dX4_setField_63 ?_
        refine lv_iload hx hb dX4_setField_64 (lv_at hl 5 rfl) ?_
        obtain ⟨S5, eS5⟩ : ∃ z : sS, z = s_put (s_put O 0 0 0) 3 (((mi_at (s_put O 0 0 0) t f) + 2).toNatClampNeg) v := ⟨_, rfl⟩
        refine va_iast (cA := cI) (n := 768) (f := (s_put O 0 0 0) 3) hx hb hK hP hD hS 3 0 rfl rfl (frm_in (gem_frm hGz c_1) (j := 2) (by decide)) dX4_setField_66 (fun H locs hP hD hS => ?_)
        have hP : va_P (dC, dI) vwCl (mW cI d S5) H := by rw [eS5]; exact hP
        have hD : va_D A (mW cI d S5) := by rw [eS5]; exact hD
        have hGS5 : gem h w S5 := by rw [eS5]; exact gem_put hGz (Or.inl (by decide)) _
        refine lv_aload_n hx hb dX4_setField_67 rfl (lv_at hl 1 rfl) ?_
        refine va_get (D := (dC, dI)) (ci := 4) (v := .ref (d 3)) (C := RX4) (T := TX4) (N := 7) hx hb hts hinX4 hown hK hP 0 rfl rfl 3 (by decide) hf16 (fun _ h9 => h9) rfl dX4_setField_68 ?_
        refine lv_iload hx hb dX4_setField_71 (lv_at hl 0 rfl) ?_
        refine lv_iconst (v := 3) hx hb dX4_setField_73 (by decide) ?_
        refine lv_iadd hx hb dX4_setField_74 ?_
        refine lv_iload_n hx hb dX4_setField_75 rfl (lv_at hl 4 rfl) ?_
        refine lv_aload_n hx hb dX4_setField_76 rfl (lv_at hl 1 rfl) ?_
        refine va_get (D := (dC, dI)) (ci := 4) (v := .ref (d 3)) (C := RX4) (T := TX4) (N := 7) hx hb hts hinX4 hown hK hP 0 rfl rfl 3 (by decide) hf16 (fun _ h9 => h9) rfl dX4_setField_77 ?_
        refine lv_iload hx hb dX4_setField_80 (lv_at hl 0 rfl) ?_
        refine lv_iconst (v := 3) hx hb dX4_setField_82 (by decide) ?_
        refine lv_iadd hx hb dX4_setField_83 ?_
        refine va_iald (cA := cI) (n := 768) (f := S5 3) hx hb hK hP 3 0 rfl rfl (frm_in (gem_frm hGz c_1) (j := 3) (by decide)) dX4_setField_84 ?_
        refine va_mminz hx hb (hml.trans hl.1.symm) hown hm58 hs_min hi_Math hc_min (Nat.le_of_ble_eq_true rfl) (Nat.le_of_ble_eq_true rfl) (Nat.le_of_ble_eq_true rfl) (Nat.le_of_ble_eq_true rfl) dX4_setField_85 ?_
        obtain ⟨S6, eS6⟩ : ∃ z : sS, z = s_put S5 3 (((mi_at (s_put O 0 0 0) t f) + 3).toNatClampNeg) (zmin u (S5 3 ((mi_at (s_put O 0 0 0) t f) + 3).toNatClampNeg)) := ⟨_, rfl⟩
        refine va_iast (cA := cI) (n := 768) (f := S5 3) hx hb hK hP hD hS 3 0 rfl rfl (frm_in (gem_frm hGz c_1) (j := 3) (by decide)) dX4_setField_88 (fun H locs hP hD hS => ?_)
        have hP : va_P (dC, dI) vwCl (mW cI d S6) H := by rw [eS6]; exact hP
        have hD : va_D A (mW cI d S6) := by rw [eS6]; exact hD
        have hGS6 : gem h w S6 := by rw [eS6]; exact gem_put hGS5 (Or.inl (by decide)) _
        refine lv_aload_n hx hb dX4_setField_89 rfl (lv_at hl 1 rfl) ?_
        refine lv_iload hx hb dX4_setField_90 (lv_at hl 0 rfl) ?_
        refine lv_iconst (v := 1) hx hb dX4_setField_92 (by decide) ?_
        refine lv_iadd hx hb dX4_setField_93 ?_
        refine lv_iload_n hx hb dX4_setField_94 rfl (lv_at hl 4 rfl) ?_
        obtain ⟨S7, eS7⟩ : ∃ z : sS, z = mi_set S6 ((mi_at (s_put O 0 0 0) t f) + 1) u := ⟨_, rfl⟩
        refine zI_V (pre := ([] : va_W)) (wc := mW cI d S6) (post := ([] : va_W)) (w1 := mW cI d S7) ⟨hx, hb, hml, hown, hts⟩ (by rw [eS7]; exact c_X4_set l dC dI cI d S6 ((mi_at (s_put O 0 0 0) t f) + 1) u (frm_in (gem_frm hGz c_1) (j := 1) (by decide))) (cwV 2 hts gX4_setField_X4_set rfl rfl rfl (by decide +kernel) ⟨Nat.le_of_ble_eq_true rfl, Nat.le_of_ble_eq_true rfl⟩) (by simp only [List.append_assoc, List.append_nil, List.nil_append]) hK hN (ci := 4) (q0 := 0) rfl rfl rfl hP hD hS hA rfl hl.1 rfl (Nat.le_of_ble_eq_true rfl) dX4_setField_95 ⟨Nat.le_of_ble_eq_true rfl, Nat.le_of_ble_eq_true rfl⟩ (fun H locs hP hD hS => ?_)
        have hP : va_P (dC, dI) vwCl (mW cI d S7) H := by simpa only [List.append_assoc, List.append_nil, List.nil_append] using hP
        have hD : va_D A (mW cI d S7) := by simpa only [List.append_assoc, List.append_nil, List.nil_append] using hD
        have hZ : S7 = mset_S (s_put O 0 0 0) t f u v := (by (try rw [eS7]); (try rw [eS6]); (try rw [eS5]); first | done | rfl | (simp only [mset_S, mset_V, mset_b, mset_a, if_neg c_1, if_neg c_2, if_neg c_4]; done) | (unfold mset_S; simp only [if_neg c_1, if_neg c_2, if_neg c_4]; done))
        rw [hZ] at hP hD
        exact zI_ret hx hb hr hlocks hP hD hS rfl (by (try rw [eS7]); (try rw [eS6]); (try rw [eS5]); first | done | rfl | (simp only [mset_S, mset_V, mset_b, mset_a, if_neg c_1, if_neg c_2, if_neg c_4]; done)) dX4_setField_98
      · refine lv_aload_n hx hb dX4_setField_42 rfl (lv_at hl 0 rfl) ?_
        refine lv_iconst (v := 2) hx hb dX4_setField_43 (by decide) ?_
        obtain ⟨S8, eS8⟩ : ∃ z : sS, z = mfail (s_put O 0 0 0) 2 := ⟨_, rfl⟩
        refine zI_V (pre := ([] : va_W)) (wc := mW cI d (s_put O 0 0 0)) (post := ([] : va_W)) (w1 := mW cI d S8) ⟨hx, hb, hml, hown, hts⟩ (by rw [eS8]; exact c_X4_fail l dC dI cI d (s_put O 0 0 0) 2) (cwV 1 hts gX4_setField_X4_fail rfl rfl rfl (by decide +kernel) ⟨Nat.le_of_ble_eq_true rfl, Nat.le_of_ble_eq_true rfl⟩) (by simp only [List.append_assoc, List.append_nil, List.nil_append]) hK hN (ci := 4) (q0 := 0) rfl rfl rfl hP hD hS hA rfl hl.1 rfl (Nat.le_of_ble_eq_true rfl) dX4_setField_44 ⟨Nat.le_of_ble_eq_true rfl, Nat.le_of_ble_eq_true rfl⟩ (fun H locs hP hD hS => ?_)
        have hP : va_P (dC, dI) vwCl (mW cI d S8) H := by simpa only [List.append_assoc, List.append_nil, List.nil_append] using hP
        have hD : va_D A (mW cI d S8) := by simpa only [List.append_assoc, List.append_nil, List.nil_append] using hD
        have hZ : S8 = mset_S (s_put O 0 0 0) t f u v := (by (try rw [eS8]); first | done | rfl | (simp only [mset_S, mset_V, mset_b, mset_a, if_neg c_1, if_neg c_2, if_pos c_4]; done) | (unfold mset_S; simp only [if_neg c_1, if_neg c_2, if_pos c_4]; done))
        rw [hZ] at hP hD
        exact zI_ret hx hb hr hlocks hP hD hS rfl (by (try rw [eS8]); first | done | rfl | (simp only [mset_S, mset_V, mset_b, mset_a, if_neg c_1, if_neg c_2, if_pos c_4]; done)) dX4_setField_47
  · refine lv_aload_n hx hb dX4_setField_14 rfl (lv_at hl 0 rfl) ?_
    refine lv_iconst (v := 1) hx hb dX4_setField_15 (by decide) ?_
    obtain ⟨S9, eS9⟩ : ∃ z : sS, z = mfail (s_put O 0 0 0) 1 := ⟨_, rfl⟩
    refine zI_V (pre := ([] : va_W)) (wc := mW cI d (s_put O 0 0 0)) (post := ([] : va_W)) (w1 := mW cI d S9) ⟨hx, hb, hml, hown, hts⟩ (by rw [eS9]; exact c_X4_fail l dC dI cI d (s_put O 0 0 0) 1) (cwV 1 hts gX4_setField_X4_fail rfl rfl rfl (by decide +kernel) ⟨Nat.le_of_ble_eq_true rfl, Nat.le_of_ble_eq_true rfl⟩) (by simp only [List.append_assoc, List.append_nil, List.nil_append]) hK hN (ci := 4) (q0 := 0) rfl rfl rfl hP hD hS hA rfl hl.1 rfl (Nat.le_of_ble_eq_true rfl) dX4_setField_16 ⟨Nat.le_of_ble_eq_true rfl, Nat.le_of_ble_eq_true rfl⟩ (fun H locs hP hD hS => ?_)
    have hP : va_P (dC, dI) vwCl (mW cI d S9) H := by simpa only [List.append_assoc, List.append_nil, List.nil_append] using hP
    have hD : va_D A (mW cI d S9) := by simpa only [List.append_assoc, List.append_nil, List.nil_append] using hD
    have hZ : S9 = mset_S (s_put O 0 0 0) t f u v := (by (try rw [eS9]); first | done | rfl | (simp only [mset_S, mset_V, mset_b, mset_a, if_pos c_1]; done) | (unfold mset_S; simp only [if_pos c_1]; done))
    rw [hZ] at hP hD
    exact zI_ret hx hb hr hlocks hP hD hS rfl (by (try rw [eS9]); first | done | rfl | (simp only [mset_S, mset_V, mset_b, mset_a, if_pos c_1]; done)) dX4_setField_19
set_option maxHeartbeats 4000000 in
set_option maxRecDepth 100000 in
theorem c_X4_moveStone (l : Launch) (dC : Nat → ClassId) (dI : Nat → Nat → Nat) (cI : ClassId) (d : Nat → Nat) (h w : Nat) (O : sS) (t f x : Int32) (hG0 : gem h w O) : zI l yX4_moveStone wsX4_moveStone { frames := 2, cells := 0, slots := 0, locals := 44 } (dC, dI) cI [.ref (d 0), .int t, .int f, .int x] (mW cI d O) (mW cI d (mmov_S (s_put O 0 0 0) t f x)) (mmov_V (s_put O 0 0 0) t f x) := by
  refine zI_of (cc := cX4_moveStone) (maxL := 5) (ret := (some .int)) (by decide) rfl (Nat.le_of_ble_eq_true rfl) ?_
  intro p e s m below meth c A ls C0 hl
  obtain ⟨hx, hb, hr, hml, hown, hts, hlocks, hK, hN, hA, hP, hD, hS⟩ := C0
  have hown : s.vm.findClass RX4 = some m.cls := hown
  have hl : lv_has ls 5 [(0, .ref (d 0)), (1, .int t), (2, .int f), (3, .int x)] := hl
  have hf9 := hts (.fieldLink RX4 9 "PaddyTerracesModel" "n" "[I") (by decide +kernel)
  have hf16 := hts (.fieldLink RX4 16 "PaddyTerracesModel" "fields" "[I") (by decide +kernel)
  have hf38 := hts (.fieldLink RX4 38 "PaddyTerracesModel" "thrown" "I") (by decide +kernel)
  have hc_abs := hts (.code Lib.Math.abs.name Lib.Math.abs.code 1 (some .int)) (by decide +kernel)
  have hi_Math := hts (.initialized "java/lang/Math") (by decide +kernel)
  have hm66 := hts (.methodLink RX4 66 Lib.Math.abs.name) (by decide +kernel)
  have hs_abs := hts (.static Lib.Math.abs.name) (by decide +kernel)
  have hinX4 : ∀ w ∈ wsX40, w ∈ wsX4_moveStone := by decide +kernel
  have hS0 := hS
  have hN64 := gem_hw hG0
  have hW9 := gem_w hG0
  obtain ⟨-, -, hh2, hh8, hw2, hw8⟩ := id hG0
  refine lv_aload_n hx hb dX4_moveStone_0 rfl (lv_at hl 0 rfl) ?_
  refine lv_iconst (v := 0) hx hb dX4_moveStone_1 (by decide) ?_
  refine va_put (D := (dC, dI)) (ci := 4) (v := .int 0) (ty := .int) (C := RX4) (T := TX4) (N := 7) hx hb hts hinX4 tyX4 tyX4_ok nmX4 hown hK hP hD hS 0 rfl rfl 0 (by decide) hf38 (fun _ h9 => h9) rfl (by decide +kernel) rfl rfl (Nat.le_of_ble_eq_true rfl) dX4_moveStone_2 (fun H locs hP hD hS => ?_)
  have hP : va_P (dC, dI) vwCl (mW cI d (s_put O 0 0 0)) H := hP
  have hD : va_D A (mW cI d (s_put O 0 0 0)) := hD
  have hGz : gem h w (s_put O 0 0 0) := gem_put hG0 (Or.inl (by decide)) _
  refine lv_aload_n hx hb dX4_moveStone_5 rfl (lv_at hl 0 rfl) ?_
  refine lv_iload_n hx hb dX4_moveStone_6 rfl (lv_at hl 1 rfl) ?_
  refine lv_iload_n hx hb dX4_moveStone_7 rfl (lv_at hl 2 rfl) ?_
  refine zI_V (pre := ([] : va_W)) (wc := mW cI d (s_put O 0 0 0)) (post := ([] : va_W)) (w1 := mW cI d (s_put O 0 0 0)) ⟨hx, hb, hml, hown, hts⟩ (c_X4_isField l dC dI cI d (s_put O 0 0 0) t f) (cwV 2 hts gX4_moveStone_X4_isField rfl rfl rfl (by decide +kernel) ⟨Nat.le_of_ble_eq_true rfl, Nat.le_of_ble_eq_true rfl⟩) (by simp only [List.append_assoc, List.append_nil, List.nil_append]) hK hN (ci := 4) (q0 := 0) rfl rfl rfl hP hD hS hA rfl hl.1 rfl (Nat.le_of_ble_eq_true rfl) dX4_moveStone_8 ⟨Nat.le_of_ble_eq_true rfl, Nat.le_of_ble_eq_true rfl⟩ (fun H locs hP hD hS => ?_)
  have hP : va_P (dC, dI) vwCl (mW cI d (s_put O 0 0 0)) H := by simpa only [List.append_assoc, List.append_nil, List.nil_append] using hP
  have hD : va_D A (mW cI d (s_put O 0 0 0)) := by simpa only [List.append_assoc, List.append_nil, List.nil_append] using hD
  refine lv_if_ne (tgt := 20) hx hb dX4_moveStone_11 (by decide) (fun c_1 => ?_) (fun c_1 => ?_)
  · refine lv_iload_n hx hb dX4_moveStone_20 rfl (lv_at hl 3 rfl) ?_
    refine lv_iconst (v := 0) hx hb dX4_moveStone_21 (by decide) ?_
    refine lv_aload_n hx hb dX4_moveStone_22 rfl (lv_at hl 0 rfl) ?_
    refine va_get (D := (dC, dI)) (ci := 4) (v := .ref (d 3)) (C := RX4) (T := TX4) (N := 7) hx hb hts hinX4 hown hK hP 0 rfl rfl 3 (by decide) hf16 (fun _ h9 => h9) rfl dX4_moveStone_23 ?_
    refine lv_aload_n hx hb dX4_moveStone_26 rfl (lv_at hl 0 rfl) ?_
    refine lv_iload_n hx hb dX4_moveStone_27 rfl (lv_at hl 1 rfl) ?_
    refine lv_iload_n hx hb dX4_moveStone_28 rfl (lv_at hl 2 rfl) ?_
    refine zI_V (pre := ([] : va_W)) (wc := mW cI d (s_put O 0 0 0)) (post := ([] : va_W)) (w1 := mW cI d (s_put O 0 0 0)) ⟨hx, hb, hml, hown, hts⟩ (c_X4_at l dC dI cI d (s_put O 0 0 0) t f) (cwV 2 hts gX4_moveStone_X4_at rfl rfl rfl (by decide +kernel) ⟨Nat.le_of_ble_eq_true rfl, Nat.le_of_ble_eq_true rfl⟩) (by simp only [List.append_assoc, List.append_nil, List.nil_append]) hK hN (ci := 4) (q0 := 0) rfl rfl rfl hP hD hS hA rfl hl.1 rfl (Nat.le_of_ble_eq_true rfl) dX4_moveStone_29 ⟨Nat.le_of_ble_eq_true rfl, Nat.le_of_ble_eq_true rfl⟩ (fun H locs hP hD hS => ?_)
    have hP : va_P (dC, dI) vwCl (mW cI d (s_put O 0 0 0)) H := by simpa only [List.append_assoc, List.append_nil, List.nil_append] using hP
    have hD : va_D A (mW cI d (s_put O 0 0 0)) := by simpa only [List.append_assoc, List.append_nil, List.nil_append] using hD
    refine lv_iconst (v := 1) hx hb dX4_moveStone_32 (by decide) ?_
    refine lv_iadd hx hb dX4_moveStone_33 ?_
    refine va_iald (cA := cI) (n := 768) (f := (s_put O 0 0 0) 3) hx hb hK hP 3 0 rfl rfl (frm_in (gem_frm hGz c_1) (j := 1) (by decide)) dX4_moveStone_34 ?_
    refine zI_S (pre := (mW cI d (s_put O 0 0 0))) (wc := ([] : va_W)) (post := ([] : va_W)) (w1 := ([] : va_W)) ⟨hx, hb, hml, hown, hts⟩ (c_X4_isIn l dC dI cI x 0 ((s_put O 0 0 0) 3 ((mi_at (s_put O 0 0 0) t f) + 1).toNatClampNeg)) (va_cwS 3 hts gX4_moveStone_X4_isIn rfl rfl rfl (by decide +kernel) ⟨Nat.le_of_ble_eq_true rfl, Nat.le_of_ble_eq_true rfl⟩) (by simp only [List.append_assoc, List.append_nil, List.nil_append]) hK hN hP hD hS hA rfl hl.1 rfl (Nat.le_of_ble_eq_true rfl) dX4_moveStone_35 ⟨Nat.le_of_ble_eq_true rfl, Nat.le_of_ble_eq_true rfl⟩ (fun H locs hP hD hS => ?_)
    have hP : va_P (dC, dI) vwCl (mW cI d (s_put O 0 0 0)) H := by simpa only [List.append_assoc, List.append_nil, List.nil_append] using hP
    have hD : va_D A (mW cI d (s_put O 0 0 0)) := by simpa only [List.append_assoc, List.append_nil, List.nil_append] using hD
    refine lv_if_ne (tgt := 47) hx hb dX4_moveStone_38 (by decide) (fun c_2 => ?_) (fun c_2 => ?_)
    · refine lv_iload_n hx hb dX4_moveStone_47 rfl (lv_at hl 3 rfl) ?_
      refine lv_aload_n hx hb dX4_moveStone_48 rfl (lv_at hl 0 rfl) ?_
      refine lv_aload_n hx hb dX4_moveStone_49 rfl (lv_at hl 0 rfl) ?_
      refine lv_iload_n hx hb dX4_moveStone_50 rfl (lv_at hl 1 rfl) ?_
      refine lv_iload_n hx hb dX4_moveStone_51 rfl (lv_at hl 2 rfl) ?_
      refine zI_V (pre := ([] : va_W)) (wc := mW cI d (s_put O 0 0 0)) (post := ([] : va_W)) (w1 := mW cI d (s_put O 0 0 0)) ⟨hx, hb, hml, hown, hts⟩ (c_X4_at l dC dI cI d (s_put O 0 0 0) t f) (cwV 2 hts gX4_moveStone_X4_at rfl rfl rfl (by decide +kernel) ⟨Nat.le_of_ble_eq_true rfl, Nat.le_of_ble_eq_true rfl⟩) (by simp only [List.append_assoc, List.append_nil, List.nil_append]) hK hN (ci := 4) (q0 := 0) rfl rfl rfl hP hD hS hA rfl hl.1 rfl (Nat.le_of_ble_eq_true rfl) dX4_moveStone_52 ⟨Nat.le_of_ble_eq_true rfl, Nat.le_of_ble_eq_true rfl⟩ (fun H locs hP hD hS => ?_)
      have hP : va_P (dC, dI) vwCl (mW cI d (s_put O 0 0 0)) H := by simpa only [List.append_assoc, List.append_nil, List.nil_append] using hP
      have hD : va_D A (mW cI d (s_put O 0 0 0)) := by simpa only [List.append_assoc, List.append_nil, List.nil_append] using hD
      refine lv_iconst (v := 3) hx hb dX4_moveStone_55 (by decide) ?_
      refine lv_iadd hx hb dX4_moveStone_56 ?_
      refine lv_iload_n hx hb dX4_moveStone_57 rfl (lv_at hl 3 rfl) ?_
      obtain ⟨S3, eS3⟩ : ∃ z : sS, z = mi_set (s_put O 0 0 0) ((mi_at (s_put O 0 0 0) t f) + 3) x := ⟨_, rfl⟩
      refine zI_V (pre := ([] : va_W)) (wc := mW cI d (s_put O 0 0 0)) (post := ([] : va_W)) (w1 := mW cI d S3) ⟨hx, hb, hml, hown, hts⟩ (by rw [eS3]; exact c_X4_set l dC dI cI d (s_put O 0 0 0) ((mi_at (s_put O 0 0 0) t f) + 3) x (frm_in (gem_frm hGz c_1) (j := 3) (by decide))) (cwV 2 hts gX4_moveStone_X4_set rfl rfl rfl (by decide +kernel) ⟨Nat.le_of_ble_eq_true rfl, Nat.le_of_ble_eq_true rfl⟩) (by simp only [List.append_assoc, List.append_nil, List.nil_append]) hK hN (ci := 4) (q0 := 0) rfl rfl rfl hP hD hS hA rfl hl.1 rfl (Nat.le_of_ble_eq_true rfl) dX4_moveStone_58 ⟨Nat.le_of_ble_eq_true rfl, Nat.le_of_ble_eq_true rfl⟩ (fun H locs hP hD hS => ?_)
      have hP : va_P (dC, dI) vwCl (mW cI d S3) H := by simpa only [List.append_assoc, List.append_nil, List.nil_append] using hP
      have hD : va_D A (mW cI d S3) := by simpa only [List.append_assoc, List.append_nil, List.nil_append] using hD
      refine lv_isub hx hb dX4_moveStone_61 ?_
      refine lv_istore (lv' := [(4, .int (x - ((s_put O 0 0 0) 3 ((mi_at (s_put O 0 0 0) t f) + 3).toNatClampNeg))), (0, .ref (d 0)), (1, .int t), (2, .int f), (3, .int x)]) hx hb dX4_moveStone_62 hl (by decide) rfl (fun ls hl => ?_)
      refine lv_aload_n hx hb dX4_moveStone_64 rfl (lv_at hl 1 rfl) ?_
      refine va_get (D := (dC, dI)) (ci := 4) (v := .ref (d 1)) (C := RX4) (T := TX4) (N := 7) hx hb hts hinX4 hown hK hP 0 rfl rfl 1 (by decide) hf9 (fun _ h9 => h9) rfl dX4_moveStone_65 ?_
      refine lv_bipush (v := 6) hx hb dX4_moveStone_68 (by decide) ?_
      refine lv_dup2_11 hx hb dX4_moveStone_70 rfl rfl ?_
      refine va_ialdk 6 (cA := cI) (n := 7) (f := S3 1) hx hb hK hP 1 0 rfl rfl rfl (by decide) (by decide) dX4_moveStone_71 ?_
      refine lv_iload hx hb dX4_moveStone_72 (lv_at hl 0 rfl) ?_
      refine va_mabs hx hb (hml.trans hl.1.symm) hown hm66 hs_abs hi_Math hc_abs (Nat.le_of_ble_eq_true rfl) (Nat.le_of_ble_eq_true rfl) (Nat.le_of_ble_eq_true rfl) (Nat.le_of_ble_eq_true rfl) dX4_moveStone_74 ?_
      refine lv_iadd hx hb dX4_moveStone_77 ?_
      obtain ⟨S4, eS4⟩ : ∃ z : sS, z = s_put S3 1 6 ((S3 1 6) + (zabs (x - ((s_put O 0 0 0) 3 ((mi_at (s_put O 0 0 0) t f) + 3).toNatClampNeg)))) := ⟨_, rfl⟩
      refine va_iastk 6 (cA := cI) (n := 7) (f := S3 1) hx hb hK hP hD hS 1 0 rfl rfl rfl (by decide) (by decide) dX4_moveStone_78 (fun H locs hP hD hS => ?_)
      have hP : va_P (dC, dI) vwCl (mW cI d S4) H := by rw [eS4]; exact hP
      have hD : va_D A (mW cI d S4) := by rw [eS4]; exact hD
      refine lv_iload hx hb dX4_moveStone_79 (lv_at hl 0 rfl) ?_
      have hZ : S4 = mmov_S (s_put O 0 0 0) t f x := (by (try rw [eS4]); (try rw [eS3]); first | done | rfl | (simp only [mmov_S, mmov_V, mmov_a, if_neg c_1, if_neg c_2]; done) | (unfold mmov_S; simp only [if_neg c_1, if_neg c_2]; done))
      rw [hZ] at hP hD
      exact zI_ret hx hb hr hlocks hP hD hS rfl (by (try rw [eS4]); (try rw [eS3]); first | done | rfl | (simp only [mmov_S, mmov_V, mmov_a, if_neg c_1, if_neg c_2]; done)) dX4_moveStone_81
    · refine lv_aload_n hx hb dX4_moveStone_41 rfl (lv_at hl 0 rfl) ?_
      refine lv_iconst (v := 2) hx hb dX4_moveStone_42 (by decide) ?_
      obtain ⟨S5, eS5⟩ : ∃ z : sS, z = mfail (s_put O 0 0 0) 2 := ⟨_, rfl⟩
      refine zI_V (pre := ([] : va_W)) (wc := mW cI d (s_put O 0 0 0)) (post := ([] : va_W)) (w1 := mW cI d S5) ⟨hx, hb, hml, hown, hts⟩ (by rw [eS5]; exact c_X4_fail l dC dI cI d (s_put O 0 0 0) 2) (cwV 1 hts gX4_moveStone_X4_fail rfl rfl rfl (by decide +kernel) ⟨Nat.le_of_ble_eq_true rfl, Nat.le_of_ble_eq_true rfl⟩) (by simp only [List.append_assoc, List.append_nil, List.nil_append]) hK hN (ci := 4) (q0 := 0) rfl rfl rfl hP hD hS hA rfl hl.1 rfl (Nat.le_of_ble_eq_true rfl) dX4_moveStone_43 ⟨Nat.le_of_ble_eq_true rfl, Nat.le_of_ble_eq_true rfl⟩ (fun H locs hP hD hS => ?_)
      have hP : va_P (dC, dI) vwCl (mW cI d S5) H := by simpa only [List.append_assoc, List.append_nil, List.nil_append] using hP
      have hD : va_D A (mW cI d S5) := by simpa only [List.append_assoc, List.append_nil, List.nil_append] using hD
      have hZ : S5 = mmov_S (s_put O 0 0 0) t f x := (by (try rw [eS5]); first | done | rfl | (simp only [mmov_S, mmov_V, mmov_a, if_neg c_1, if_pos c_2]; done) | (unfold mmov_S; simp only [if_neg c_1, if_pos c_2]; done))
      rw [hZ] at hP hD
      exact zI_ret hx hb hr hlocks hP hD hS rfl (by (try rw [eS5]); first | done | rfl | (simp only [mmov_S, mmov_V, mmov_a, if_neg c_1, if_pos c_2]; done)) dX4_moveStone_46
  · refine lv_aload_n hx hb dX4_moveStone_14 rfl (lv_at hl 0 rfl) ?_
    refine lv_iconst (v := 1) hx hb dX4_moveStone_15 (by decide) ?_
    obtain ⟨S6, eS6⟩ : ∃ z : sS, z = mfail (s_put O 0 0 0) 1 := ⟨_, rfl⟩
    refine zI_V (pre := ([] : va_W)) (wc := mW cI d (s_put O 0 0 0)) (post := ([] : va_W)) (w1 := mW cI d S6) ⟨hx, hb, hml, hown, hts⟩ (by rw [eS6]; exact c_X4_fail l dC dI cI d (s_put O 0 0 0) 1) (cwV 1 hts gX4_moveStone_X4_fail rfl rfl rfl (by decide +kernel) ⟨Nat.le_of_ble_eq_true rfl, Nat.le_of_ble_eq_true rfl⟩) (by simp only [List.append_assoc, List.append_nil, List.nil_append]) hK hN (ci := 4) (q0 := 0) rfl rfl rfl hP hD hS hA rfl hl.1 rfl (Nat.le_of_ble_eq_true rfl) dX4_moveStone_16 ⟨Nat.le_of_ble_eq_true rfl, Nat.le_of_ble_eq_true rfl⟩ (fun H locs hP hD hS => ?_)
    have hP : va_P (dC, dI) vwCl (mW cI d S6) H := by simpa only [List.append_assoc, List.append_nil, List.nil_append] using hP
    have hD : va_D A (mW cI d S6) := by simpa only [List.append_assoc, List.append_nil, List.nil_append] using hD
    have hZ : S6 = mmov_S (s_put O 0 0 0) t f x := (by (try rw [eS6]); first | done | rfl | (simp only [mmov_S, mmov_V, mmov_a, if_pos c_1]; done) | (unfold mmov_S; simp only [if_pos c_1]; done))
    rw [hZ] at hP hD
    exact zI_ret hx hb hr hlocks hP hD hS rfl (by (try rw [eS6]); first | done | rfl | (simp only [mmov_S, mmov_V, mmov_a, if_pos c_1]; done)) dX4_moveStone_19
set_option maxHeartbeats 4000000 in
set_option maxRecDepth 100000 in
theorem c_X4_turn (l : Launch) (dC : Nat → ClassId) (dI : Nat → Nat → Nat) (cI : ClassId) (d : Nat → Nat) (h w : Nat) (O : sS) (t f x : Int32) (hG0 : gem h w O) : zI l yX4_turn wsX4_turn { frames := 2, cells := 0, slots := 0, locals := 44 } (dC, dI) cI [.ref (d 0), .int t, .int f, .int x] (mW cI d O) (mW cI d (mtrn_S (s_put O 0 0 0) t f x)) (mtrn_V (s_put O 0 0 0) t f x) := by
  refine zI_of (cc := cX4_turn) (maxL := 4) (ret := (some .int)) (by decide) rfl (Nat.le_of_ble_eq_true rfl) ?_
  intro p e s m below meth c A ls C0 hl
  obtain ⟨hx, hb, hr, hml, hown, hts, hlocks, hK, hN, hA, hP, hD, hS⟩ := C0
  have hown : s.vm.findClass RX4 = some m.cls := hown
  have hl : lv_has ls 4 [(0, .ref (d 0)), (1, .int t), (2, .int f), (3, .int x)] := hl
  have hf38 := hts (.fieldLink RX4 38 "PaddyTerracesModel" "thrown" "I") (by decide +kernel)
  have hinX4 : ∀ w ∈ wsX40, w ∈ wsX4_turn := by decide +kernel
  have hS0 := hS
  have hN64 := gem_hw hG0
  have hW9 := gem_w hG0
  obtain ⟨-, -, hh2, hh8, hw2, hw8⟩ := id hG0
  refine lv_aload_n hx hb dX4_turn_0 rfl (lv_at hl 0 rfl) ?_
  refine lv_iconst (v := 0) hx hb dX4_turn_1 (by decide) ?_
  refine va_put (D := (dC, dI)) (ci := 4) (v := .int 0) (ty := .int) (C := RX4) (T := TX4) (N := 7) hx hb hts hinX4 tyX4 tyX4_ok nmX4 hown hK hP hD hS 0 rfl rfl 0 (by decide) hf38 (fun _ h9 => h9) rfl (by decide +kernel) rfl rfl (Nat.le_of_ble_eq_true rfl) dX4_turn_2 (fun H locs hP hD hS => ?_)
  have hP : va_P (dC, dI) vwCl (mW cI d (s_put O 0 0 0)) H := hP
  have hD : va_D A (mW cI d (s_put O 0 0 0)) := hD
  have hGz : gem h w (s_put O 0 0 0) := gem_put hG0 (Or.inl (by decide)) _
  refine lv_aload_n hx hb dX4_turn_5 rfl (lv_at hl 0 rfl) ?_
  refine lv_iload_n hx hb dX4_turn_6 rfl (lv_at hl 1 rfl) ?_
  refine lv_iload_n hx hb dX4_turn_7 rfl (lv_at hl 2 rfl) ?_
  refine zI_V (pre := ([] : va_W)) (wc := mW cI d (s_put O 0 0 0)) (post := ([] : va_W)) (w1 := mW cI d (s_put O 0 0 0)) ⟨hx, hb, hml, hown, hts⟩ (c_X4_isField l dC dI cI d (s_put O 0 0 0) t f) (cwV 2 hts gX4_turn_X4_isField rfl rfl rfl (by decide +kernel) ⟨Nat.le_of_ble_eq_true rfl, Nat.le_of_ble_eq_true rfl⟩) (by simp only [List.append_assoc, List.append_nil, List.nil_append]) hK hN (ci := 4) (q0 := 0) rfl rfl rfl hP hD hS hA rfl hl.1 rfl (Nat.le_of_ble_eq_true rfl) dX4_turn_8 ⟨Nat.le_of_ble_eq_true rfl, Nat.le_of_ble_eq_true rfl⟩ (fun H locs hP hD hS => ?_)
  have hP : va_P (dC, dI) vwCl (mW cI d (s_put O 0 0 0)) H := by simpa only [List.append_assoc, List.append_nil, List.nil_append] using hP
  have hD : va_D A (mW cI d (s_put O 0 0 0)) := by simpa only [List.append_assoc, List.append_nil, List.nil_append] using hD
  refine lv_if_ne (tgt := 20) hx hb dX4_turn_11 (by decide) (fun c_1 => ?_) (fun c_1 => ?_)
  · refine lv_iload_n hx hb dX4_turn_20 rfl (lv_at hl 3 rfl) ?_
    refine lv_iconst (v := (-1)) hx hb dX4_turn_21 (by decide) ?_
    refine lv_iconst (v := 1) hx hb dX4_turn_22 (by decide) ?_
    refine zI_S (pre := (mW cI d (s_put O 0 0 0))) (wc := ([] : va_W)) (post := ([] : va_W)) (w1 := ([] : va_W)) ⟨hx, hb, hml, hown, hts⟩ (c_X4_isIn l dC dI cI x (-1) 1) (va_cwS 3 hts gX4_turn_X4_isIn rfl rfl rfl (by decide +kernel) ⟨Nat.le_of_ble_eq_true rfl, Nat.le_of_ble_eq_true rfl⟩) (by simp only [List.append_assoc, List.append_nil, List.nil_append]) hK hN hP hD hS hA rfl hl.1 rfl (Nat.le_of_ble_eq_true rfl) dX4_turn_23 ⟨Nat.le_of_ble_eq_true rfl, Nat.le_of_ble_eq_true rfl⟩ (fun H locs hP hD hS => ?_)
    have hP : va_P (dC, dI) vwCl (mW cI d (s_put O 0 0 0)) H := by simpa only [List.append_assoc, List.append_nil, List.nil_append] using hP
    have hD : va_D A (mW cI d (s_put O 0 0 0)) := by simpa only [List.append_assoc, List.append_nil, List.nil_append] using hD
    refine lv_if_eq (tgt := 45) hx hb dX4_turn_26 (by decide) (fun c_2 => ?_) (fun c_2 => ?_)
    · refine lv_aload_n hx hb dX4_turn_45 rfl (lv_at hl 0 rfl) ?_
      refine lv_iconst (v := 2) hx hb dX4_turn_46 (by decide) ?_
      obtain ⟨S3, eS3⟩ : ∃ z : sS, z = mfail (s_put O 0 0 0) 2 := ⟨_, rfl⟩
      refine zI_V (pre := ([] : va_W)) (wc := mW cI d (s_put O 0 0 0)) (post := ([] : va_W)) (w1 := mW cI d S3) ⟨hx, hb, hml, hown, hts⟩ (by rw [eS3]; exact c_X4_fail l dC dI cI d (s_put O 0 0 0) 2) (cwV 1 hts gX4_turn_X4_fail rfl rfl rfl (by decide +kernel) ⟨Nat.le_of_ble_eq_true rfl, Nat.le_of_ble_eq_true rfl⟩) (by simp only [List.append_assoc, List.append_nil, List.nil_append]) hK hN (ci := 4) (q0 := 0) rfl rfl rfl hP hD hS hA rfl hl.1 rfl (Nat.le_of_ble_eq_true rfl) dX4_turn_47 ⟨Nat.le_of_ble_eq_true rfl, Nat.le_of_ble_eq_true rfl⟩ (fun H locs hP hD hS => ?_)
      have hP : va_P (dC, dI) vwCl (mW cI d S3) H := by simpa only [List.append_assoc, List.append_nil, List.nil_append] using hP
      have hD : va_D A (mW cI d S3) := by simpa only [List.append_assoc, List.append_nil, List.nil_append] using hD
      have hZ : S3 = mtrn_S (s_put O 0 0 0) t f x := (by (try rw [eS3]); first | done | rfl | (simp only [mtrn_S, mtrn_V, if_neg c_1, if_pos c_2]; done) | (unfold mtrn_S; simp only [if_neg c_1, if_pos c_2]; done))
      rw [hZ] at hP hD
      exact zI_ret hx hb hr hlocks hP hD hS rfl (by (try rw [eS3]); first | done | rfl | (simp only [mtrn_S, mtrn_V, if_neg c_1, if_pos c_2]; done)) dX4_turn_50
    · refine lv_aload_n hx hb dX4_turn_29 rfl (lv_at hl 0 rfl) ?_
      refine lv_aload_n hx hb dX4_turn_30 rfl (lv_at hl 0 rfl) ?_
      refine lv_iload_n hx hb dX4_turn_31 rfl (lv_at hl 1 rfl) ?_
      refine lv_iload_n hx hb dX4_turn_32 rfl (lv_at hl 2 rfl) ?_
      refine zI_V (pre := ([] : va_W)) (wc := mW cI d (s_put O 0 0 0)) (post := ([] : va_W)) (w1 := mW cI d (s_put O 0 0 0)) ⟨hx, hb, hml, hown, hts⟩ (c_X4_at l dC dI cI d (s_put O 0 0 0) t f) (cwV 2 hts gX4_turn_X4_at rfl rfl rfl (by decide +kernel) ⟨Nat.le_of_ble_eq_true rfl, Nat.le_of_ble_eq_true rfl⟩) (by simp only [List.append_assoc, List.append_nil, List.nil_append]) hK hN (ci := 4) (q0 := 0) rfl rfl rfl hP hD hS hA rfl hl.1 rfl (Nat.le_of_ble_eq_true rfl) dX4_turn_33 ⟨Nat.le_of_ble_eq_true rfl, Nat.le_of_ble_eq_true rfl⟩ (fun H locs hP hD hS => ?_)
      have hP : va_P (dC, dI) vwCl (mW cI d (s_put O 0 0 0)) H := by simpa only [List.append_assoc, List.append_nil, List.nil_append] using hP
      have hD : va_D A (mW cI d (s_put O 0 0 0)) := by simpa only [List.append_assoc, List.append_nil, List.nil_append] using hD
      refine lv_iconst (v := 4) hx hb dX4_turn_36 (by decide) ?_
      refine lv_iadd hx hb dX4_turn_37 ?_
      refine lv_iload_n hx hb dX4_turn_38 rfl (lv_at hl 3 rfl) ?_
      obtain ⟨S4, eS4⟩ : ∃ z : sS, z = mi_set (s_put O 0 0 0) ((mi_at (s_put O 0 0 0) t f) + 4) x := ⟨_, rfl⟩
      refine zI_V (pre := ([] : va_W)) (wc := mW cI d (s_put O 0 0 0)) (post := ([] : va_W)) (w1 := mW cI d S4) ⟨hx, hb, hml, hown, hts⟩ (by rw [eS4]; exact c_X4_set l dC dI cI d (s_put O 0 0 0) ((mi_at (s_put O 0 0 0) t f) + 4) x (frm_in (gem_frm hGz c_1) (j := 4) (by decide))) (cwV 2 hts gX4_turn_X4_set rfl rfl rfl (by decide +kernel) ⟨Nat.le_of_ble_eq_true rfl, Nat.le_of_ble_eq_true rfl⟩) (by simp only [List.append_assoc, List.append_nil, List.nil_append]) hK hN (ci := 4) (q0 := 0) rfl rfl rfl hP hD hS hA rfl hl.1 rfl (Nat.le_of_ble_eq_true rfl) dX4_turn_39 ⟨Nat.le_of_ble_eq_true rfl, Nat.le_of_ble_eq_true rfl⟩ (fun H locs hP hD hS => ?_)
      have hP : va_P (dC, dI) vwCl (mW cI d S4) H := by simpa only [List.append_assoc, List.append_nil, List.nil_append] using hP
      have hD : va_D A (mW cI d S4) := by simpa only [List.append_assoc, List.append_nil, List.nil_append] using hD
      refine lv_goto (tgt := 50) hx hb dX4_turn_42 (by decide) ?_
      have hZ : S4 = mtrn_S (s_put O 0 0 0) t f x := (by (try rw [eS4]); first | done | rfl | (simp only [mtrn_S, mtrn_V, if_neg c_1, if_neg c_2]; done) | (unfold mtrn_S; simp only [if_neg c_1, if_neg c_2]; done))
      rw [hZ] at hP hD
      exact zI_ret hx hb hr hlocks hP hD hS rfl (by (try rw [eS4]); first | done | rfl | (simp only [mtrn_S, mtrn_V, if_neg c_1, if_neg c_2]; done)) dX4_turn_50
  · refine lv_aload_n hx hb dX4_turn_14 rfl (lv_at hl 0 rfl) ?_
    refine lv_iconst (v := 1) hx hb dX4_turn_15 (by decide) ?_
    obtain ⟨S5, eS5⟩ : ∃ z : sS, z = mfail (s_put O 0 0 0) 1 := ⟨_, rfl⟩
    refine zI_V (pre := ([] : va_W)) (wc := mW cI d (s_put O 0 0 0)) (post := ([] : va_W)) (w1 := mW cI d S5) ⟨hx, hb, hml, hown, hts⟩ (by rw [eS5]; exact c_X4_fail l dC dI cI d (s_put O 0 0 0) 1) (cwV 1 hts gX4_turn_X4_fail rfl rfl rfl (by decide +kernel) ⟨Nat.le_of_ble_eq_true rfl, Nat.le_of_ble_eq_true rfl⟩) (by simp only [List.append_assoc, List.append_nil, List.nil_append]) hK hN (ci := 4) (q0 := 0) rfl rfl rfl hP hD hS hA rfl hl.1 rfl (Nat.le_of_ble_eq_true rfl) dX4_turn_16 ⟨Nat.le_of_ble_eq_true rfl, Nat.le_of_ble_eq_true rfl⟩ (fun H locs hP hD hS => ?_)
    have hP : va_P (dC, dI) vwCl (mW cI d S5) H := by simpa only [List.append_assoc, List.append_nil, List.nil_append] using hP
    have hD : va_D A (mW cI d S5) := by simpa only [List.append_assoc, List.append_nil, List.nil_append] using hD
    have hZ : S5 = mtrn_S (s_put O 0 0 0) t f x := (by (try rw [eS5]); first | done | rfl | (simp only [mtrn_S, mtrn_V, if_pos c_1]; done) | (unfold mtrn_S; simp only [if_pos c_1]; done))
    rw [hZ] at hP hD
    exact zI_ret hx hb hr hlocks hP hD hS rfl (by (try rw [eS5]); first | done | rfl | (simp only [mtrn_S, mtrn_V, if_pos c_1]; done)) dX4_turn_19
set_option maxHeartbeats 4000000 in
set_option maxRecDepth 100000 in
theorem c_X4_setShare (l : Launch) (dC : Nat → ClassId) (dI : Nat → Nat → Nat) (cI : ClassId) (d : Nat → Nat) (h w : Nat) (O : sS) (f x : Int32) (hG0 : gem h w O) : zI l yX4_setShare wsX4_setShare { frames := 1, cells := 0, slots := 0, locals := 22 } (dC, dI) cI [.ref (d 0), .int f, .int x] (mW cI d O) (mW cI d (mshr_S (s_put O 0 0 0) f x)) (mshr_V (s_put O 0 0 0) f x) := by
  refine zI_of (cc := cX4_setShare) (maxL := 4) (ret := (some .int)) (by decide) rfl (Nat.le_of_ble_eq_true rfl) ?_
  intro p e s m below meth c A ls C0 hl
  obtain ⟨hx, hb, hr, hml, hown, hts, hlocks, hK, hN, hA, hP, hD, hS⟩ := C0
  have hown : s.vm.findClass RX4 = some m.cls := hown
  have hl : lv_has ls 4 [(0, .ref (d 0)), (1, .int f), (2, .int x)] := hl
  have hf9 := hts (.fieldLink RX4 9 "PaddyTerracesModel" "n" "[I") (by decide +kernel)
  have hf13 := hts (.fieldLink RX4 13 "PaddyTerracesModel" "shares" "[I") (by decide +kernel)
  have hf38 := hts (.fieldLink RX4 38 "PaddyTerracesModel" "thrown" "I") (by decide +kernel)
  have hinX4 : ∀ w ∈ wsX40, w ∈ wsX4_setShare := by decide +kernel
  have hS0 := hS
  have hN64 := gem_hw hG0
  have hW9 := gem_w hG0
  obtain ⟨-, -, hh2, hh8, hw2, hw8⟩ := id hG0
  refine lv_aload_n hx hb dX4_setShare_0 rfl (lv_at hl 0 rfl) ?_
  refine lv_iconst (v := 0) hx hb dX4_setShare_1 (by decide) ?_
  refine va_put (D := (dC, dI)) (ci := 4) (v := .int 0) (ty := .int) (C := RX4) (T := TX4) (N := 7) hx hb hts hinX4 tyX4 tyX4_ok nmX4 hown hK hP hD hS 0 rfl rfl 0 (by decide) hf38 (fun _ h9 => h9) rfl (by decide +kernel) rfl rfl (Nat.le_of_ble_eq_true rfl) dX4_setShare_2 (fun H locs hP hD hS => ?_)
  have hP : va_P (dC, dI) vwCl (mW cI d (s_put O 0 0 0)) H := hP
  have hD : va_D A (mW cI d (s_put O 0 0 0)) := hD
  have hGz : gem h w (s_put O 0 0 0) := gem_put hG0 (Or.inl (by decide)) _
  refine lv_iload_n hx hb dX4_setShare_5 rfl (lv_at hl 1 rfl) ?_
  refine lv_iconst (v := 0) hx hb dX4_setShare_6 (by decide) ?_
  refine lv_aload_n hx hb dX4_setShare_7 rfl (lv_at hl 0 rfl) ?_
  refine va_get (D := (dC, dI)) (ci := 4) (v := .ref (d 1)) (C := RX4) (T := TX4) (N := 7) hx hb hts hinX4 hown hK hP 0 rfl rfl 1 (by decide) hf9 (fun _ h9 => h9) rfl dX4_setShare_8 ?_
  refine lv_iconst (v := 1) hx hb dX4_setShare_11 (by decide) ?_
  refine va_ialdk 1 (cA := cI) (n := 7) (f := (s_put O 0 0 0) 1) hx hb hK hP 1 0 rfl rfl rfl (by decide) (by decide) dX4_setShare_12 ?_
  refine lv_iconst (v := 1) hx hb dX4_setShare_13 (by decide) ?_
  refine lv_isub hx hb dX4_setShare_14 ?_
  refine zI_S (pre := (mW cI d (s_put O 0 0 0))) (wc := ([] : va_W)) (post := ([] : va_W)) (w1 := ([] : va_W)) ⟨hx, hb, hml, hown, hts⟩ (c_X4_isIn l dC dI cI f 0 (((s_put O 0 0 0) 1 1) - 1)) (va_cwS 3 hts gX4_setShare_X4_isIn rfl rfl rfl (by decide +kernel) ⟨Nat.le_of_ble_eq_true rfl, Nat.le_of_ble_eq_true rfl⟩) (by simp only [List.append_assoc, List.append_nil, List.nil_append]) hK hN hP hD hS hA rfl hl.1 rfl (Nat.le_of_ble_eq_true rfl) dX4_setShare_15 ⟨Nat.le_of_ble_eq_true rfl, Nat.le_of_ble_eq_true rfl⟩ (fun H locs hP hD hS => ?_)
  have hP : va_P (dC, dI) vwCl (mW cI d (s_put O 0 0 0)) H := by simpa only [List.append_assoc, List.append_nil, List.nil_append] using hP
  have hD : va_D A (mW cI d (s_put O 0 0 0)) := by simpa only [List.append_assoc, List.append_nil, List.nil_append] using hD
  refine lv_if_ne (tgt := 27) hx hb dX4_setShare_18 (by decide) (fun c_1 => ?_) (fun c_1 => ?_)
  · refine lv_iload_n hx hb dX4_setShare_27 rfl (lv_at hl 2 rfl) ?_
    refine lv_iconst (v := 0) hx hb dX4_setShare_28 (by decide) ?_
    refine lv_bipush (v := 9) hx hb dX4_setShare_29 (by decide) ?_
    refine zI_S (pre := (mW cI d (s_put O 0 0 0))) (wc := ([] : va_W)) (post := ([] : va_W)) (w1 := ([] : va_W)) ⟨hx, hb, hml, hown, hts⟩ (c_X4_isIn l dC dI cI x 0 9) (va_cwS 3 hts gX4_setShare_X4_isIn rfl rfl rfl (by decide +kernel) ⟨Nat.le_of_ble_eq_true rfl, Nat.le_of_ble_eq_true rfl⟩) (by simp only [List.append_assoc, List.append_nil, List.nil_append]) hK hN hP hD hS hA rfl hl.1 rfl (Nat.le_of_ble_eq_true rfl) dX4_setShare_31 ⟨Nat.le_of_ble_eq_true rfl, Nat.le_of_ble_eq_true rfl⟩ (fun H locs hP hD hS => ?_)
    have hP : va_P (dC, dI) vwCl (mW cI d (s_put O 0 0 0)) H := by simpa only [List.append_assoc, List.append_nil, List.nil_append] using hP
    have hD : va_D A (mW cI d (s_put O 0 0 0)) := by simpa only [List.append_assoc, List.append_nil, List.nil_append] using hD
    refine lv_if_ne (tgt := 43) hx hb dX4_setShare_34 (by decide) (fun c_2 => ?_) (fun c_2 => ?_)
    · refine lv_aload_n hx hb dX4_setShare_43 rfl (lv_at hl 0 rfl) ?_
      refine va_get (D := (dC, dI)) (ci := 4) (v := .ref (d 2)) (C := RX4) (T := TX4) (N := 7) hx hb hts hinX4 hown hK hP 0 rfl rfl 2 (by decide) hf13 (fun _ h9 => h9) rfl dX4_setShare_44 ?_
      refine lv_iload_n hx hb dX4_setShare_47 rfl (lv_at hl 1 rfl) ?_
      refine va_iald (cA := cI) (n := 8) (f := (s_put O 0 0 0) 2) hx hb hK hP 2 0 rfl rfl (shr_in hGz c_1) dX4_setShare_48 ?_
      refine lv_istore_n (lv' := [(3, .int ((s_put O 0 0 0) 2 f.toNatClampNeg)), (0, .ref (d 0)), (1, .int f), (2, .int x)]) hx hb dX4_setShare_49 rfl hl (by decide) rfl (fun ls hl => ?_)
      refine lv_aload_n hx hb dX4_setShare_50 rfl (lv_at hl 1 rfl) ?_
      refine va_get (D := (dC, dI)) (ci := 4) (v := .ref (d 2)) (C := RX4) (T := TX4) (N := 7) hx hb hts hinX4 hown hK hP 0 rfl rfl 2 (by decide) hf13 (fun _ h9 => h9) rfl dX4_setShare_51 ?_
      refine lv_iload_n hx hb dX4_setShare_54 rfl (lv_at hl 2 rfl) ?_
      refine lv_iload_n hx hb dX4_setShare_55 rfl (lv_at hl 3 rfl) ?_
      obtain ⟨S3, eS3⟩ : ∃ z : sS, z = s_put (s_put O 0 0 0) 2 f.toNatClampNeg x := ⟨_, rfl⟩
      refine va_iast (cA := cI) (n := 8) (f := (s_put O 0 0 0) 2) hx hb hK hP hD hS 2 0 rfl rfl (shr_in hGz c_1) dX4_setShare_56 (fun H locs hP hD hS => ?_)
      have hP : va_P (dC, dI) vwCl (mW cI d S3) H := by rw [eS3]; exact hP
      have hD : va_D A (mW cI d S3) := by rw [eS3]; exact hD
      have hGS3 : gem h w S3 := by rw [eS3]; exact gem_put hGz (Or.inl (by decide)) _
      refine lv_iload_n hx hb dX4_setShare_57 rfl (lv_at hl 0 rfl) ?_
      have hZ : S3 = mshr_S (s_put O 0 0 0) f x := (by (try rw [eS3]); first | done | rfl | (simp only [mshr_S, mshr_V, if_neg c_1, if_neg c_2]; done) | (unfold mshr_S; simp only [if_neg c_1, if_neg c_2]; done))
      rw [hZ] at hP hD
      exact zI_ret hx hb hr hlocks hP hD hS rfl (by (try rw [eS3]); first | done | rfl | (simp only [mshr_S, mshr_V, if_neg c_1, if_neg c_2]; done)) dX4_setShare_58
    · refine lv_aload_n hx hb dX4_setShare_37 rfl (lv_at hl 0 rfl) ?_
      refine lv_iconst (v := 2) hx hb dX4_setShare_38 (by decide) ?_
      obtain ⟨S4, eS4⟩ : ∃ z : sS, z = mfail (s_put O 0 0 0) 2 := ⟨_, rfl⟩
      refine zI_V (pre := ([] : va_W)) (wc := mW cI d (s_put O 0 0 0)) (post := ([] : va_W)) (w1 := mW cI d S4) ⟨hx, hb, hml, hown, hts⟩ (by rw [eS4]; exact c_X4_fail l dC dI cI d (s_put O 0 0 0) 2) (cwV 1 hts gX4_setShare_X4_fail rfl rfl rfl (by decide +kernel) ⟨Nat.le_of_ble_eq_true rfl, Nat.le_of_ble_eq_true rfl⟩) (by simp only [List.append_assoc, List.append_nil, List.nil_append]) hK hN (ci := 4) (q0 := 0) rfl rfl rfl hP hD hS hA rfl hl.1 rfl (Nat.le_of_ble_eq_true rfl) dX4_setShare_39 ⟨Nat.le_of_ble_eq_true rfl, Nat.le_of_ble_eq_true rfl⟩ (fun H locs hP hD hS => ?_)
      have hP : va_P (dC, dI) vwCl (mW cI d S4) H := by simpa only [List.append_assoc, List.append_nil, List.nil_append] using hP
      have hD : va_D A (mW cI d S4) := by simpa only [List.append_assoc, List.append_nil, List.nil_append] using hD
      have hZ : S4 = mshr_S (s_put O 0 0 0) f x := (by (try rw [eS4]); first | done | rfl | (simp only [mshr_S, mshr_V, if_neg c_1, if_pos c_2]; done) | (unfold mshr_S; simp only [if_neg c_1, if_pos c_2]; done))
      rw [hZ] at hP hD
      exact zI_ret hx hb hr hlocks hP hD hS rfl (by (try rw [eS4]); first | done | rfl | (simp only [mshr_S, mshr_V, if_neg c_1, if_pos c_2]; done)) dX4_setShare_42
  · refine lv_aload_n hx hb dX4_setShare_21 rfl (lv_at hl 0 rfl) ?_
    refine lv_iconst (v := 1) hx hb dX4_setShare_22 (by decide) ?_
    obtain ⟨S5, eS5⟩ : ∃ z : sS, z = mfail (s_put O 0 0 0) 1 := ⟨_, rfl⟩
    refine zI_V (pre := ([] : va_W)) (wc := mW cI d (s_put O 0 0 0)) (post := ([] : va_W)) (w1 := mW cI d S5) ⟨hx, hb, hml, hown, hts⟩ (by rw [eS5]; exact c_X4_fail l dC dI cI d (s_put O 0 0 0) 1) (cwV 1 hts gX4_setShare_X4_fail rfl rfl rfl (by decide +kernel) ⟨Nat.le_of_ble_eq_true rfl, Nat.le_of_ble_eq_true rfl⟩) (by simp only [List.append_assoc, List.append_nil, List.nil_append]) hK hN (ci := 4) (q0 := 0) rfl rfl rfl hP hD hS hA rfl hl.1 rfl (Nat.le_of_ble_eq_true rfl) dX4_setShare_23 ⟨Nat.le_of_ble_eq_true rfl, Nat.le_of_ble_eq_true rfl⟩ (fun H locs hP hD hS => ?_)
    have hP : va_P (dC, dI) vwCl (mW cI d S5) H := by simpa only [List.append_assoc, List.append_nil, List.nil_append] using hP
    have hD : va_D A (mW cI d S5) := by simpa only [List.append_assoc, List.append_nil, List.nil_append] using hD
    have hZ : S5 = mshr_S (s_put O 0 0 0) f x := (by (try rw [eS5]); first | done | rfl | (simp only [mshr_S, mshr_V, if_pos c_1]; done) | (unfold mshr_S; simp only [if_pos c_1]; done))
    rw [hZ] at hP hD
    exact zI_ret hx hb hr hlocks hP hD hS rfl (by (try rw [eS5]); first | done | rfl | (simp only [mshr_S, mshr_V, if_pos c_1]; done)) dX4_setShare_26
set_option maxHeartbeats 4000000 in
set_option maxRecDepth 100000 in
theorem c_X4_plant (l : Launch) (dC : Nat → ClassId) (dI : Nat → Nat → Nat) (cI : ClassId) (d : Nat → Nat) (h w : Nat) (O : sS) (t f x : Int32) (hG0 : gem h w O) : zI l yX4_plant wsX4_plant { frames := 2, cells := 0, slots := 0, locals := 44 } (dC, dI) cI [.ref (d 0), .int t, .int f, .int x] (mW cI d O) (mW cI d (mpla_S (s_put O 0 0 0) t f x)) (mpla_V h w (s_put O 0 0 0) t f x) := by
  refine zI_of (cc := cX4_plant) (maxL := 5) (ret := (some .int)) (by decide) rfl (Nat.le_of_ble_eq_true rfl) ?_
  intro p e s m below meth c A ls C0 hl
  obtain ⟨hx, hb, hr, hml, hown, hts, hlocks, hK, hN, hA, hP, hD, hS⟩ := C0
  have hown : s.vm.findClass RX4 = some m.cls := hown
  have hl : lv_has ls 5 [(0, .ref (d 0)), (1, .int t), (2, .int f), (3, .int x)] := hl
  have hf16 := hts (.fieldLink RX4 16 "PaddyTerracesModel" "fields" "[I") (by decide +kernel)
  have hf38 := hts (.fieldLink RX4 38 "PaddyTerracesModel" "thrown" "I") (by decide +kernel)
  have hinX4 : ∀ w ∈ wsX40, w ∈ wsX4_plant := by decide +kernel
  have hS0 := hS
  have hN64 := gem_hw hG0
  have hW9 := gem_w hG0
  obtain ⟨-, -, hh2, hh8, hw2, hw8⟩ := id hG0
  refine lv_aload_n hx hb dX4_plant_0 rfl (lv_at hl 0 rfl) ?_
  refine lv_iconst (v := 0) hx hb dX4_plant_1 (by decide) ?_
  refine va_put (D := (dC, dI)) (ci := 4) (v := .int 0) (ty := .int) (C := RX4) (T := TX4) (N := 7) hx hb hts hinX4 tyX4 tyX4_ok nmX4 hown hK hP hD hS 0 rfl rfl 0 (by decide) hf38 (fun _ h9 => h9) rfl (by decide +kernel) rfl rfl (Nat.le_of_ble_eq_true rfl) dX4_plant_2 (fun H locs hP hD hS => ?_)
  have hP : va_P (dC, dI) vwCl (mW cI d (s_put O 0 0 0)) H := hP
  have hD : va_D A (mW cI d (s_put O 0 0 0)) := hD
  have hGz : gem h w (s_put O 0 0 0) := gem_put hG0 (Or.inl (by decide)) _
  refine lv_aload_n hx hb dX4_plant_5 rfl (lv_at hl 0 rfl) ?_
  refine lv_iload_n hx hb dX4_plant_6 rfl (lv_at hl 1 rfl) ?_
  refine lv_iload_n hx hb dX4_plant_7 rfl (lv_at hl 2 rfl) ?_
  refine zI_V (pre := ([] : va_W)) (wc := mW cI d (s_put O 0 0 0)) (post := ([] : va_W)) (w1 := mW cI d (s_put O 0 0 0)) ⟨hx, hb, hml, hown, hts⟩ (c_X4_isField l dC dI cI d (s_put O 0 0 0) t f) (cwV 2 hts gX4_plant_X4_isField rfl rfl rfl (by decide +kernel) ⟨Nat.le_of_ble_eq_true rfl, Nat.le_of_ble_eq_true rfl⟩) (by simp only [List.append_assoc, List.append_nil, List.nil_append]) hK hN (ci := 4) (q0 := 0) rfl rfl rfl hP hD hS hA rfl hl.1 rfl (Nat.le_of_ble_eq_true rfl) dX4_plant_8 ⟨Nat.le_of_ble_eq_true rfl, Nat.le_of_ble_eq_true rfl⟩ (fun H locs hP hD hS => ?_)
  have hP : va_P (dC, dI) vwCl (mW cI d (s_put O 0 0 0)) H := by simpa only [List.append_assoc, List.append_nil, List.nil_append] using hP
  have hD : va_D A (mW cI d (s_put O 0 0 0)) := by simpa only [List.append_assoc, List.append_nil, List.nil_append] using hD
  refine lv_if_ne (tgt := 20) hx hb dX4_plant_11 (by decide) (fun c_1 => ?_) (fun c_1 => ?_)
  · refine lv_iload_n hx hb dX4_plant_20 rfl (lv_at hl 3 rfl) ?_
    refine lv_iconst (v := 0) hx hb dX4_plant_21 (by decide) ?_
    refine lv_bipush (v := 20) hx hb dX4_plant_22 (by decide) ?_
    refine zI_S (pre := (mW cI d (s_put O 0 0 0))) (wc := ([] : va_W)) (post := ([] : va_W)) (w1 := ([] : va_W)) ⟨hx, hb, hml, hown, hts⟩ (c_X4_isIn l dC dI cI x 0 20) (va_cwS 3 hts gX4_plant_X4_isIn rfl rfl rfl (by decide +kernel) ⟨Nat.le_of_ble_eq_true rfl, Nat.le_of_ble_eq_true rfl⟩) (by simp only [List.append_assoc, List.append_nil, List.nil_append]) hK hN hP hD hS hA rfl hl.1 rfl (Nat.le_of_ble_eq_true rfl) dX4_plant_24 ⟨Nat.le_of_ble_eq_true rfl, Nat.le_of_ble_eq_true rfl⟩ (fun H locs hP hD hS => ?_)
    have hP : va_P (dC, dI) vwCl (mW cI d (s_put O 0 0 0)) H := by simpa only [List.append_assoc, List.append_nil, List.nil_append] using hP
    have hD : va_D A (mW cI d (s_put O 0 0 0)) := by simpa only [List.append_assoc, List.append_nil, List.nil_append] using hD
    refine lv_if_ne (tgt := 36) hx hb dX4_plant_27 (by decide) (fun c_2 => ?_) (fun c_2 => ?_)
    · refine lv_aload_n hx hb dX4_plant_36 rfl (lv_at hl 0 rfl) ?_
      refine lv_iload_n hx hb dX4_plant_37 rfl (lv_at hl 1 rfl) ?_
      refine lv_iload_n hx hb dX4_plant_38 rfl (lv_at hl 2 rfl) ?_
      refine zI_V (pre := ([] : va_W)) (wc := mW cI d (s_put O 0 0 0)) (post := ([] : va_W)) (w1 := mW cI d (s_put O 0 0 0)) ⟨hx, hb, hml, hown, hts⟩ (c_X4_at l dC dI cI d (s_put O 0 0 0) t f) (cwV 2 hts gX4_plant_X4_at rfl rfl rfl (by decide +kernel) ⟨Nat.le_of_ble_eq_true rfl, Nat.le_of_ble_eq_true rfl⟩) (by simp only [List.append_assoc, List.append_nil, List.nil_append]) hK hN (ci := 4) (q0 := 0) rfl rfl rfl hP hD hS hA rfl hl.1 rfl (Nat.le_of_ble_eq_true rfl) dX4_plant_39 ⟨Nat.le_of_ble_eq_true rfl, Nat.le_of_ble_eq_true rfl⟩ (fun H locs hP hD hS => ?_)
      have hP : va_P (dC, dI) vwCl (mW cI d (s_put O 0 0 0)) H := by simpa only [List.append_assoc, List.append_nil, List.nil_append] using hP
      have hD : va_D A (mW cI d (s_put O 0 0 0)) := by simpa only [List.append_assoc, List.append_nil, List.nil_append] using hD
      refine lv_istore (lv' := [(4, .int (mi_at (s_put O 0 0 0) t f)), (0, .ref (d 0)), (1, .int t), (2, .int f), (3, .int x)]) hx hb dX4_plant_42 hl (by decide) rfl (fun ls hl => ?_)
      refine lv_aload_n hx hb dX4_plant_44 rfl (lv_at hl 1 rfl) ?_
      refine va_get (D := (dC, dI)) (ci := 4) (v := .ref (d 3)) (C := RX4) (T := TX4) (N := 7) hx hb hts hinX4 hown hK hP 0 rfl rfl 3 (by decide) hf16 (fun _ h9 => h9) rfl dX4_plant_45 ?_
      refine lv_iload hx hb dX4_plant_48 (lv_at hl 0 rfl) ?_
      refine lv_iconst (v := 5) hx hb dX4_plant_50 (by decide) ?_
      refine lv_iadd hx hb dX4_plant_51 ?_
      refine va_iald (cA := cI) (n := 768) (f := (s_put O 0 0 0) 3) hx hb hK hP 3 0 rfl rfl (frm_in (gem_frm hGz c_1) (j := 5) (by decide)) dX4_plant_52 ?_
      refine lv_iconst (v := 1) hx hb dX4_plant_53 (by decide) ?_
      refine lv_icmp_eq (tgt := 71) hx hb dX4_plant_54 (by decide) (fun c_3 => ?_) (fun c_3 => ?_)
      · refine lv_aload_n hx hb dX4_plant_71 rfl (lv_at hl 1 rfl) ?_
        refine lv_iconst (v := 3) hx hb dX4_plant_72 (by decide) ?_
        obtain ⟨S4, eS4⟩ : ∃ z : sS, z = mfail (s_put O 0 0 0) 3 := ⟨_, rfl⟩
        refine zI_V (pre := ([] : va_W)) (wc := mW cI d (s_put O 0 0 0)) (post := ([] : va_W)) (w1 := mW cI d S4) ⟨hx, hb, hml, hown, hts⟩ (by rw [eS4]; exact c_X4_fail l dC dI cI d (s_put O 0 0 0) 3) (cwV 1 hts gX4_plant_X4_fail rfl rfl rfl (by decide +kernel) ⟨Nat.le_of_ble_eq_true rfl, Nat.le_of_ble_eq_true rfl⟩) (by simp only [List.append_assoc, List.append_nil, List.nil_append]) hK hN (ci := 4) (q0 := 0) rfl rfl rfl hP hD hS hA rfl hl.1 rfl (Nat.le_of_ble_eq_true rfl) dX4_plant_73 ⟨Nat.le_of_ble_eq_true rfl, Nat.le_of_ble_eq_true rfl⟩ (fun H locs hP hD hS => ?_)
        have hP : va_P (dC, dI) vwCl (mW cI d S4) H := by simpa only [List.append_assoc, List.append_nil, List.nil_append] using hP
        have hD : va_D A (mW cI d S4) := by simpa only [List.append_assoc, List.append_nil, List.nil_append] using hD
        have hZ : S4 = mpla_S (s_put O 0 0 0) t f x := (by (try rw [eS4]); first | done | rfl | (simp only [mpla_S, mpla_V, mpla_a, if_neg c_1, if_neg c_2, if_pos c_3]; done) | (unfold mpla_S; simp only [if_neg c_1, if_neg c_2, if_pos c_3]; done))
        rw [hZ] at hP hD
        exact zI_ret hx hb hr hlocks hP hD hS rfl (by (try rw [eS4]); first | done | rfl | (simp only [mpla_S, mpla_V, mpla_a, if_neg c_1, if_neg c_2, if_pos c_3]; done)) dX4_plant_76
      · refine lv_aload_n hx hb dX4_plant_57 rfl (lv_at hl 1 rfl) ?_
        refine va_get (D := (dC, dI)) (ci := 4) (v := .ref (d 3)) (C := RX4) (T := TX4) (N := 7) hx hb hts hinX4 hown hK hP 0 rfl rfl 3 (by decide) hf16 (fun _ h9 => h9) rfl dX4_plant_58 ?_
        refine lv_iload hx hb dX4_plant_61 (lv_at hl 0 rfl) ?_
        refine lv_iconst (v := 0) hx hb dX4_plant_63 (by decide) ?_
        refine lv_iadd hx hb dX4_plant_64 ?_
        refine va_iald (cA := cI) (n := 768) (f := (s_put O 0 0 0) 3) hx hb hK hP 3 0 rfl rfl (frm_in (gem_frm hGz c_1) (j := 0) (by decide)) dX4_plant_65 ?_
        refine lv_bipush (v := 40) hx hb dX4_plant_66 (by decide) ?_
        refine lv_icmp_le (tgt := 77) hx hb dX4_plant_68 (by decide) (fun c_5 => ?_) (fun c_5 => ?_)
        · refine lv_aload_n hx hb dX4_plant_77 rfl (lv_at hl 1 rfl) ?_
          refine va_get (D := (dC, dI)) (ci := 4) (v := .ref (d 3)) (C := RX4) (T := TX4) (N := 7) hx hb hts hinX4 hown hK hP 0 rfl rfl 3 (by decide) hf16 (fun _ h9 => h9) rfl dX4_plant_78 ?_
          refine lv_iload hx hb dX4_plant_81 (lv_at hl 0 rfl) ?_
          refine lv_iconst (v := 5) hx hb dX4_plant_83 (by decide) ?_
          refine lv_iadd hx hb dX4_plant_84 ?_
          refine lv_iconst (v := 1) hx hb dX4_plant_85 (by decide) ?_
          obtain ⟨S6, eS6⟩ : ∃ z : sS, z = s_put (s_put O 0 0 0) 3 (((mi_at (s_put O 0 0 0) t f) + 5).toNatClampNeg) 1 := ⟨_, rfl⟩
          refine va_iast (cA := cI) (n := 768) (f := (s_put O 0 0 0) 3) hx hb hK hP hD hS 3 0 rfl rfl (frm_in (gem_frm hGz c_1) (j := 5) (by decide)) dX4_plant_86 (fun H locs hP hD hS => ?_)
          have hP : va_P (dC, dI) vwCl (mW cI d S6) H := by rw [eS6]; exact hP
          have hD : va_D A (mW cI d S6) := by rw [eS6]; exact hD
          have hGS6 : gem h w S6 := by rw [eS6]; exact gem_put hGz (Or.inl (by decide)) _
          refine lv_aload_n hx hb dX4_plant_87 rfl (lv_at hl 1 rfl) ?_
          refine va_get (D := (dC, dI)) (ci := 4) (v := .ref (d 3)) (C := RX4) (T := TX4) (N := 7) hx hb hts hinX4 hown hK hP 0 rfl rfl 3 (by decide) hf16 (fun _ h9 => h9) rfl dX4_plant_88 ?_
          refine lv_iload hx hb dX4_plant_91 (lv_at hl 0 rfl) ?_
          refine lv_bipush (v := 6) hx hb dX4_plant_93 (by decide) ?_
          refine lv_iadd hx hb dX4_plant_95 ?_
          refine lv_iload_n hx hb dX4_plant_96 rfl (lv_at hl 4 rfl) ?_
          obtain ⟨S7, eS7⟩ : ∃ z : sS, z = s_put S6 3 (((mi_at (s_put O 0 0 0) t f) + 6).toNatClampNeg) x := ⟨_, rfl⟩
          refine va_iast (cA := cI) (n := 768) (f := S6 3) hx hb hK hP hD hS 3 0 rfl rfl (frm_in (gem_frm hGz c_1) (j := 6) (by decide)) dX4_plant_97 (fun H locs hP hD hS => ?_)
          have hP : va_P (dC, dI) vwCl (mW cI d S7) H := by rw [eS7]; exact hP
          have hD : va_D A (mW cI d S7) := by rw [eS7]; exact hD
          have hGS7 : gem h w S7 := by rw [eS7]; exact gem_put hGS6 (Or.inl (by decide)) _
          refine lv_aload_n hx hb dX4_plant_98 rfl (lv_at hl 1 rfl) ?_
          refine lv_iconst (v := 5) hx hb dX4_plant_99 (by decide) ?_
          refine zI_V (pre := ([] : va_W)) (wc := mW cI d S7) (post := ([] : va_W)) (w1 := mW cI d S7) ⟨hx, hb, hml, hown, hts⟩ (c_X4_sum l dC dI cI d h w S7 5 hGS7 ⟨5, by decide, rfl⟩) (cwV 1 hts gX4_plant_X4_sum rfl rfl rfl (by decide +kernel) ⟨Nat.le_of_ble_eq_true rfl, Nat.le_of_ble_eq_true rfl⟩) (by simp only [List.append_assoc, List.append_nil, List.nil_append]) hK hN (ci := 4) (q0 := 0) rfl rfl rfl hP hD hS hA rfl hl.1 rfl (Nat.le_of_ble_eq_true rfl) dX4_plant_100 ⟨Nat.le_of_ble_eq_true rfl, Nat.le_of_ble_eq_true rfl⟩ (fun H locs hP hD hS => ?_)
          have hP : va_P (dC, dI) vwCl (mW cI d S7) H := by simpa only [List.append_assoc, List.append_nil, List.nil_append] using hP
          have hD : va_D A (mW cI d S7) := by simpa only [List.append_assoc, List.append_nil, List.nil_append] using hD
          have hZ : S7 = mpla_S (s_put O 0 0 0) t f x := (by (try rw [eS7]); (try rw [eS6]); first | done | rfl | (simp only [mpla_S, mpla_V, mpla_a, if_neg c_1, if_neg c_2, if_neg c_3, if_pos c_5]; done) | (unfold mpla_S; simp only [if_neg c_1, if_neg c_2, if_neg c_3, if_pos c_5]; done))
          rw [hZ] at hP hD
          exact zI_ret hx hb hr hlocks hP hD hS rfl (by (try rw [eS7]); (try rw [eS6]); first | done | rfl | (simp only [mpla_S, mpla_V, mpla_a, if_neg c_1, if_neg c_2, if_neg c_3, if_pos c_5]; done)) dX4_plant_103
        · refine lv_aload_n hx hb dX4_plant_71 rfl (lv_at hl 1 rfl) ?_
          refine lv_iconst (v := 3) hx hb dX4_plant_72 (by decide) ?_
          obtain ⟨S8, eS8⟩ : ∃ z : sS, z = mfail (s_put O 0 0 0) 3 := ⟨_, rfl⟩
          refine zI_V (pre := ([] : va_W)) (wc := mW cI d (s_put O 0 0 0)) (post := ([] : va_W)) (w1 := mW cI d S8) ⟨hx, hb, hml, hown, hts⟩ (by rw [eS8]; exact c_X4_fail l dC dI cI d (s_put O 0 0 0) 3) (cwV 1 hts gX4_plant_X4_fail rfl rfl rfl (by decide +kernel) ⟨Nat.le_of_ble_eq_true rfl, Nat.le_of_ble_eq_true rfl⟩) (by simp only [List.append_assoc, List.append_nil, List.nil_append]) hK hN (ci := 4) (q0 := 0) rfl rfl rfl hP hD hS hA rfl hl.1 rfl (Nat.le_of_ble_eq_true rfl) dX4_plant_73 ⟨Nat.le_of_ble_eq_true rfl, Nat.le_of_ble_eq_true rfl⟩ (fun H locs hP hD hS => ?_)
          have hP : va_P (dC, dI) vwCl (mW cI d S8) H := by simpa only [List.append_assoc, List.append_nil, List.nil_append] using hP
          have hD : va_D A (mW cI d S8) := by simpa only [List.append_assoc, List.append_nil, List.nil_append] using hD
          have hZ : S8 = mpla_S (s_put O 0 0 0) t f x := (by (try rw [eS8]); first | done | rfl | (simp only [mpla_S, mpla_V, mpla_a, if_neg c_1, if_neg c_2, if_neg c_3, if_neg c_5]; done) | (unfold mpla_S; simp only [if_neg c_1, if_neg c_2, if_neg c_3, if_neg c_5]; done))
          rw [hZ] at hP hD
          exact zI_ret hx hb hr hlocks hP hD hS rfl (by (try rw [eS8]); first | done | rfl | (simp only [mpla_S, mpla_V, mpla_a, if_neg c_1, if_neg c_2, if_neg c_3, if_neg c_5]; done)) dX4_plant_76
    · refine lv_aload_n hx hb dX4_plant_30 rfl (lv_at hl 0 rfl) ?_
      refine lv_iconst (v := 2) hx hb dX4_plant_31 (by decide) ?_
      obtain ⟨S9, eS9⟩ : ∃ z : sS, z = mfail (s_put O 0 0 0) 2 := ⟨_, rfl⟩
      refine zI_V (pre := ([] : va_W)) (wc := mW cI d (s_put O 0 0 0)) (post := ([] : va_W)) (w1 := mW cI d S9) ⟨hx, hb, hml, hown, hts⟩ (by rw [eS9]; exact c_X4_fail l dC dI cI d (s_put O 0 0 0) 2) (cwV 1 hts gX4_plant_X4_fail rfl rfl rfl (by decide +kernel) ⟨Nat.le_of_ble_eq_true rfl, Nat.le_of_ble_eq_true rfl⟩) (by simp only [List.append_assoc, List.append_nil, List.nil_append]) hK hN (ci := 4) (q0 := 0) rfl rfl rfl hP hD hS hA rfl hl.1 rfl (Nat.le_of_ble_eq_true rfl) dX4_plant_32 ⟨Nat.le_of_ble_eq_true rfl, Nat.le_of_ble_eq_true rfl⟩ (fun H locs hP hD hS => ?_)
      have hP : va_P (dC, dI) vwCl (mW cI d S9) H := by simpa only [List.append_assoc, List.append_nil, List.nil_append] using hP
      have hD : va_D A (mW cI d S9) := by simpa only [List.append_assoc, List.append_nil, List.nil_append] using hD
      have hZ : S9 = mpla_S (s_put O 0 0 0) t f x := (by (try rw [eS9]); first | done | rfl | (simp only [mpla_S, mpla_V, mpla_a, if_neg c_1, if_pos c_2]; done) | (unfold mpla_S; simp only [if_neg c_1, if_pos c_2]; done))
      rw [hZ] at hP hD
      exact zI_ret hx hb hr hlocks hP hD hS rfl (by (try rw [eS9]); first | done | rfl | (simp only [mpla_S, mpla_V, mpla_a, if_neg c_1, if_pos c_2]; done)) dX4_plant_35
  · refine lv_aload_n hx hb dX4_plant_14 rfl (lv_at hl 0 rfl) ?_
    refine lv_iconst (v := 1) hx hb dX4_plant_15 (by decide) ?_
    obtain ⟨S10, eS10⟩ : ∃ z : sS, z = mfail (s_put O 0 0 0) 1 := ⟨_, rfl⟩
    refine zI_V (pre := ([] : va_W)) (wc := mW cI d (s_put O 0 0 0)) (post := ([] : va_W)) (w1 := mW cI d S10) ⟨hx, hb, hml, hown, hts⟩ (by rw [eS10]; exact c_X4_fail l dC dI cI d (s_put O 0 0 0) 1) (cwV 1 hts gX4_plant_X4_fail rfl rfl rfl (by decide +kernel) ⟨Nat.le_of_ble_eq_true rfl, Nat.le_of_ble_eq_true rfl⟩) (by simp only [List.append_assoc, List.append_nil, List.nil_append]) hK hN (ci := 4) (q0 := 0) rfl rfl rfl hP hD hS hA rfl hl.1 rfl (Nat.le_of_ble_eq_true rfl) dX4_plant_16 ⟨Nat.le_of_ble_eq_true rfl, Nat.le_of_ble_eq_true rfl⟩ (fun H locs hP hD hS => ?_)
    have hP : va_P (dC, dI) vwCl (mW cI d S10) H := by simpa only [List.append_assoc, List.append_nil, List.nil_append] using hP
    have hD : va_D A (mW cI d S10) := by simpa only [List.append_assoc, List.append_nil, List.nil_append] using hD
    have hZ : S10 = mpla_S (s_put O 0 0 0) t f x := (by (try rw [eS10]); first | done | rfl | (simp only [mpla_S, mpla_V, mpla_a, if_pos c_1]; done) | (unfold mpla_S; simp only [if_pos c_1]; done))
    rw [hZ] at hP hD
    exact zI_ret hx hb hr hlocks hP hD hS rfl (by (try rw [eS10]); first | done | rfl | (simp only [mpla_S, mpla_V, mpla_a, if_pos c_1]; done)) dX4_plant_19
set_option maxHeartbeats 4000000 in
set_option maxRecDepth 100000 in
theorem c_X4_reap (l : Launch) (dC : Nat → ClassId) (dI : Nat → Nat → Nat) (cI : ClassId) (d : Nat → Nat) (h w : Nat) (O : sS) (t f : Int32) (hG0 : gem h w O) : zI l yX4_reap wsX4_reap { frames := 2, cells := 0, slots := 0, locals := 44 } (dC, dI) cI [.ref (d 0), .int t, .int f] (mW cI d O) (mW cI d (mrea_S (s_put O 0 0 0) t f)) (mrea_V (s_put O 0 0 0) t f) := by
  refine zI_of (cc := cX4_reap) (maxL := 5) (ret := (some .int)) (by decide) rfl (Nat.le_of_ble_eq_true rfl) ?_
  intro p e s m below meth c A ls C0 hl
  obtain ⟨hx, hb, hr, hml, hown, hts, hlocks, hK, hN, hA, hP, hD, hS⟩ := C0
  have hown : s.vm.findClass RX4 = some m.cls := hown
  have hl : lv_has ls 5 [(0, .ref (d 0)), (1, .int t), (2, .int f)] := hl
  have hf9 := hts (.fieldLink RX4 9 "PaddyTerracesModel" "n" "[I") (by decide +kernel)
  have hf16 := hts (.fieldLink RX4 16 "PaddyTerracesModel" "fields" "[I") (by decide +kernel)
  have hf38 := hts (.fieldLink RX4 38 "PaddyTerracesModel" "thrown" "I") (by decide +kernel)
  have hinX4 : ∀ w ∈ wsX40, w ∈ wsX4_reap := by decide +kernel
  have hS0 := hS
  have hN64 := gem_hw hG0
  have hW9 := gem_w hG0
  obtain ⟨-, -, hh2, hh8, hw2, hw8⟩ := id hG0
  refine lv_aload_n hx hb dX4_reap_0 rfl (lv_at hl 0 rfl) ?_
  refine lv_iconst (v := 0) hx hb dX4_reap_1 (by decide) ?_
  refine va_put (D := (dC, dI)) (ci := 4) (v := .int 0) (ty := .int) (C := RX4) (T := TX4) (N := 7) hx hb hts hinX4 tyX4 tyX4_ok nmX4 hown hK hP hD hS 0 rfl rfl 0 (by decide) hf38 (fun _ h9 => h9) rfl (by decide +kernel) rfl rfl (Nat.le_of_ble_eq_true rfl) dX4_reap_2 (fun H locs hP hD hS => ?_)
  have hP : va_P (dC, dI) vwCl (mW cI d (s_put O 0 0 0)) H := hP
  have hD : va_D A (mW cI d (s_put O 0 0 0)) := hD
  have hGz : gem h w (s_put O 0 0 0) := gem_put hG0 (Or.inl (by decide)) _
  refine lv_aload_n hx hb dX4_reap_5 rfl (lv_at hl 0 rfl) ?_
  refine lv_iload_n hx hb dX4_reap_6 rfl (lv_at hl 1 rfl) ?_
  refine lv_iload_n hx hb dX4_reap_7 rfl (lv_at hl 2 rfl) ?_
  refine zI_V (pre := ([] : va_W)) (wc := mW cI d (s_put O 0 0 0)) (post := ([] : va_W)) (w1 := mW cI d (s_put O 0 0 0)) ⟨hx, hb, hml, hown, hts⟩ (c_X4_isField l dC dI cI d (s_put O 0 0 0) t f) (cwV 2 hts gX4_reap_X4_isField rfl rfl rfl (by decide +kernel) ⟨Nat.le_of_ble_eq_true rfl, Nat.le_of_ble_eq_true rfl⟩) (by simp only [List.append_assoc, List.append_nil, List.nil_append]) hK hN (ci := 4) (q0 := 0) rfl rfl rfl hP hD hS hA rfl hl.1 rfl (Nat.le_of_ble_eq_true rfl) dX4_reap_8 ⟨Nat.le_of_ble_eq_true rfl, Nat.le_of_ble_eq_true rfl⟩ (fun H locs hP hD hS => ?_)
  have hP : va_P (dC, dI) vwCl (mW cI d (s_put O 0 0 0)) H := by simpa only [List.append_assoc, List.append_nil, List.nil_append] using hP
  have hD : va_D A (mW cI d (s_put O 0 0 0)) := by simpa only [List.append_assoc, List.append_nil, List.nil_append] using hD
  refine lv_if_ne (tgt := 20) hx hb dX4_reap_11 (by decide) (fun c_1 => ?_) (fun c_1 => ?_)
  · refine lv_aload_n hx hb dX4_reap_20 rfl (lv_at hl 0 rfl) ?_
    refine lv_iload_n hx hb dX4_reap_21 rfl (lv_at hl 1 rfl) ?_
    refine lv_iload_n hx hb dX4_reap_22 rfl (lv_at hl 2 rfl) ?_
    refine zI_V (pre := ([] : va_W)) (wc := mW cI d (s_put O 0 0 0)) (post := ([] : va_W)) (w1 := mW cI d (s_put O 0 0 0)) ⟨hx, hb, hml, hown, hts⟩ (c_X4_at l dC dI cI d (s_put O 0 0 0) t f) (cwV 2 hts gX4_reap_X4_at rfl rfl rfl (by decide +kernel) ⟨Nat.le_of_ble_eq_true rfl, Nat.le_of_ble_eq_true rfl⟩) (by simp only [List.append_assoc, List.append_nil, List.nil_append]) hK hN (ci := 4) (q0 := 0) rfl rfl rfl hP hD hS hA rfl hl.1 rfl (Nat.le_of_ble_eq_true rfl) dX4_reap_23 ⟨Nat.le_of_ble_eq_true rfl, Nat.le_of_ble_eq_true rfl⟩ (fun H locs hP hD hS => ?_)
    have hP : va_P (dC, dI) vwCl (mW cI d (s_put O 0 0 0)) H := by simpa only [List.append_assoc, List.append_nil, List.nil_append] using hP
    have hD : va_D A (mW cI d (s_put O 0 0 0)) := by simpa only [List.append_assoc, List.append_nil, List.nil_append] using hD
    refine lv_istore_n (lv' := [(3, .int (mi_at (s_put O 0 0 0) t f)), (0, .ref (d 0)), (1, .int t), (2, .int f)]) hx hb dX4_reap_26 rfl hl (by decide) rfl (fun ls hl => ?_)
    refine lv_aload_n hx hb dX4_reap_27 rfl (lv_at hl 1 rfl) ?_
    refine va_get (D := (dC, dI)) (ci := 4) (v := .ref (d 3)) (C := RX4) (T := TX4) (N := 7) hx hb hts hinX4 hown hK hP 0 rfl rfl 3 (by decide) hf16 (fun _ h9 => h9) rfl dX4_reap_28 ?_
    refine lv_iload_n hx hb dX4_reap_31 rfl (lv_at hl 0 rfl) ?_
    refine lv_iconst (v := 5) hx hb dX4_reap_32 (by decide) ?_
    refine lv_iadd hx hb dX4_reap_33 ?_
    refine va_iald (cA := cI) (n := 768) (f := (s_put O 0 0 0) 3) hx hb hK hP 3 0 rfl rfl (frm_in (gem_frm hGz c_1) (j := 5) (by decide)) dX4_reap_34 ?_
    refine lv_if_eq (tgt := 52) hx hb dX4_reap_35 (by decide) (fun c_2 => ?_) (fun c_2 => ?_)
    · refine lv_aload_n hx hb dX4_reap_52 rfl (lv_at hl 1 rfl) ?_
      refine lv_iconst (v := 2) hx hb dX4_reap_53 (by decide) ?_
      obtain ⟨S3, eS3⟩ : ∃ z : sS, z = mfail (s_put O 0 0 0) 2 := ⟨_, rfl⟩
      refine zI_V (pre := ([] : va_W)) (wc := mW cI d (s_put O 0 0 0)) (post := ([] : va_W)) (w1 := mW cI d S3) ⟨hx, hb, hml, hown, hts⟩ (by rw [eS3]; exact c_X4_fail l dC dI cI d (s_put O 0 0 0) 2) (cwV 1 hts gX4_reap_X4_fail rfl rfl rfl (by decide +kernel) ⟨Nat.le_of_ble_eq_true rfl, Nat.le_of_ble_eq_true rfl⟩) (by simp only [List.append_assoc, List.append_nil, List.nil_append]) hK hN (ci := 4) (q0 := 0) rfl rfl rfl hP hD hS hA rfl hl.1 rfl (Nat.le_of_ble_eq_true rfl) dX4_reap_54 ⟨Nat.le_of_ble_eq_true rfl, Nat.le_of_ble_eq_true rfl⟩ (fun H locs hP hD hS => ?_)
      have hP : va_P (dC, dI) vwCl (mW cI d S3) H := by simpa only [List.append_assoc, List.append_nil, List.nil_append] using hP
      have hD : va_D A (mW cI d S3) := by simpa only [List.append_assoc, List.append_nil, List.nil_append] using hD
      have hZ : S3 = mrea_S (s_put O 0 0 0) t f := (by (try rw [eS3]); first | done | rfl | (simp only [mrea_S, mrea_V, mrea_a, mrea_v, mrea_b, if_neg c_1, if_pos c_2]; done) | (unfold mrea_S; simp only [if_neg c_1, if_pos c_2]; done))
      rw [hZ] at hP hD
      exact zI_ret hx hb hr hlocks hP hD hS rfl (by (try rw [eS3]); first | done | rfl | (simp only [mrea_S, mrea_V, mrea_a, mrea_v, mrea_b, if_neg c_1, if_pos c_2]; done)) dX4_reap_57
    · refine lv_aload_n hx hb dX4_reap_38 rfl (lv_at hl 1 rfl) ?_
      refine va_get (D := (dC, dI)) (ci := 4) (v := .ref (d 3)) (C := RX4) (T := TX4) (N := 7) hx hb hts hinX4 hown hK hP 0 rfl rfl 3 (by decide) hf16 (fun _ h9 => h9) rfl dX4_reap_39 ?_
      refine lv_iload_n hx hb dX4_reap_42 rfl (lv_at hl 0 rfl) ?_
      refine lv_bipush (v := 6) hx hb dX4_reap_43 (by decide) ?_
      refine lv_iadd hx hb dX4_reap_45 ?_
      refine va_iald (cA := cI) (n := 768) (f := (s_put O 0 0 0) 3) hx hb hK hP 3 0 rfl rfl (frm_in (gem_frm hGz c_1) (j := 6) (by decide)) dX4_reap_46 ?_
      refine lv_bipush (v := 40) hx hb dX4_reap_47 (by decide) ?_
      refine lv_icmp_ge (tgt := 58) hx hb dX4_reap_49 (by decide) (fun c_4 => ?_) (fun c_4 => ?_)
      · refine lv_aload_n hx hb dX4_reap_58 rfl (lv_at hl 1 rfl) ?_
        refine va_get (D := (dC, dI)) (ci := 4) (v := .ref (d 3)) (C := RX4) (T := TX4) (N := 7) hx hb hts hinX4 hown hK hP 0 rfl rfl 3 (by decide) hf16 (fun _ h9 => h9) rfl dX4_reap_59 ?_
        refine lv_iload_n hx hb dX4_reap_62 rfl (lv_at hl 0 rfl) ?_
        refine lv_bipush (v := 6) hx hb dX4_reap_63 (by decide) ?_
        refine lv_iadd hx hb dX4_reap_65 ?_
        refine va_iald (cA := cI) (n := 768) (f := (s_put O 0 0 0) 3) hx hb hK hP 3 0 rfl rfl (frm_in (gem_frm hGz c_1) (j := 6) (by decide)) dX4_reap_66 ?_
        refine lv_aload_n hx hb dX4_reap_67 rfl (lv_at hl 1 rfl) ?_
        refine va_get (D := (dC, dI)) (ci := 4) (v := .ref (d 3)) (C := RX4) (T := TX4) (N := 7) hx hb hts hinX4 hown hK hP 0 rfl rfl 3 (by decide) hf16 (fun _ h9 => h9) rfl dX4_reap_68 ?_
        refine lv_iload_n hx hb dX4_reap_71 rfl (lv_at hl 0 rfl) ?_
        refine lv_bipush (v := 7) hx hb dX4_reap_72 (by decide) ?_
        refine lv_iadd hx hb dX4_reap_74 ?_
        refine va_iald (cA := cI) (n := 768) (f := (s_put O 0 0 0) 3) hx hb hK hP 3 0 rfl rfl (frm_in (gem_frm hGz c_1) (j := 7) (by decide)) dX4_reap_75 ?_
        refine lv_imul hx hb dX4_reap_76 ?_
        refine lv_bipush (v := 100) hx hb dX4_reap_77 (by decide) ?_
        refine lv_idiv hx hb dX4_reap_79 (by decide) ?_
        refine lv_istore (lv' := [(4, .int ((((s_put O 0 0 0) 3 ((mi_at (s_put O 0 0 0) t f) + 6).toNatClampNeg) * ((s_put O 0 0 0) 3 ((mi_at (s_put O 0 0 0) t f) + 7).toNatClampNeg)) / 100)), (3, .int (mi_at (s_put O 0 0 0) t f)), (0, .ref (d 0)), (1, .int t), (2, .int f)]) hx hb dX4_reap_80 hl (by decide) rfl (fun ls hl => ?_)
        refine lv_aload_n hx hb dX4_reap_82 rfl (lv_at hl 2 rfl) ?_
        refine va_get (D := (dC, dI)) (ci := 4) (v := .ref (d 3)) (C := RX4) (T := TX4) (N := 7) hx hb hts hinX4 hown hK hP 0 rfl rfl 3 (by decide) hf16 (fun _ h9 => h9) rfl dX4_reap_83 ?_
        refine lv_iload_n hx hb dX4_reap_86 rfl (lv_at hl 1 rfl) ?_
        refine lv_iconst (v := 0) hx hb dX4_reap_87 (by decide) ?_
        refine lv_iadd hx hb dX4_reap_88 ?_
        refine va_iald (cA := cI) (n := 768) (f := (s_put O 0 0 0) 3) hx hb hK hP 3 0 rfl rfl (frm_in (gem_frm hGz c_1) (j := 0) (by decide)) dX4_reap_89 ?_
        refine lv_if_ne (tgt := 102) hx hb dX4_reap_90 (by decide) (fun c_5 => ?_) (fun c_5 => ?_)
        · refine lv_aload_n hx hb dX4_reap_102 rfl (lv_at hl 2 rfl) ?_
          refine lv_iload_n hx hb dX4_reap_103 rfl (lv_at hl 1 rfl) ?_
          obtain ⟨S6, eS6⟩ : ∃ z : sS, z = mi_fallow (s_put O 0 0 0) (mi_at (s_put O 0 0 0) t f) := ⟨_, rfl⟩
          refine zV_V (pre := ([] : va_W)) (wc := mW cI d (s_put O 0 0 0)) (post := ([] : va_W)) (w1 := mW cI d S6) ⟨hx, hb, hml, hown, hts⟩ (by rw [eS6]; exact c_X4_fallow l dC dI cI d (s_put O 0 0 0) (mi_at (s_put O 0 0 0) t f) (gem_frm hGz c_1)) (cwV 1 hts gX4_reap_X4_fallow rfl rfl rfl (by decide +kernel) ⟨Nat.le_of_ble_eq_true rfl, Nat.le_of_ble_eq_true rfl⟩) (by simp only [List.append_assoc, List.append_nil, List.nil_append]) hK hN (ci := 4) (q0 := 0) rfl rfl rfl hP hD hS hA rfl hl.1 rfl (Nat.le_of_ble_eq_true rfl) dX4_reap_104 ⟨Nat.le_of_ble_eq_true rfl, Nat.le_of_ble_eq_true rfl⟩ (fun H locs hP hD hS => ?_)
          have hP : va_P (dC, dI) vwCl (mW cI d S6) H := by simpa only [List.append_assoc, List.append_nil, List.nil_append] using hP
          have hD : va_D A (mW cI d S6) := by simpa only [List.append_assoc, List.append_nil, List.nil_append] using hD
          have hGS6 : gem h w S6 := by rw [eS6]; exact gem_sam hGz (sam4_fallow (s_put O 0 0 0) (mi_at (s_put O 0 0 0) t f))
          refine lv_aload_n hx hb dX4_reap_107 rfl (lv_at hl 2 rfl) ?_
          refine va_get (D := (dC, dI)) (ci := 4) (v := .ref (d 1)) (C := RX4) (T := TX4) (N := 7) hx hb hts hinX4 hown hK hP 0 rfl rfl 1 (by decide) hf9 (fun _ h9 => h9) rfl dX4_reap_108 ?_
          refine lv_iconst (v := 4) hx hb dX4_reap_111 (by decide) ?_
          refine lv_dup2_11 hx hb dX4_reap_112 rfl rfl ?_
          refine va_ialdk 4 (cA := cI) (n := 7) (f := S6 1) hx hb hK hP 1 0 rfl rfl rfl (by decide) (by decide) dX4_reap_113 ?_
          refine lv_iload hx hb dX4_reap_114 (lv_at hl 0 rfl) ?_
          refine lv_iadd hx hb dX4_reap_116 ?_
          obtain ⟨S7, eS7⟩ : ∃ z : sS, z = s_put S6 1 4 ((S6 1 4) + ((((s_put O 0 0 0) 3 ((mi_at (s_put O 0 0 0) t f) + 6).toNatClampNeg) * ((s_put O 0 0 0) 3 ((mi_at (s_put O 0 0 0) t f) + 7).toNatClampNeg)) / 100)) := ⟨_, rfl⟩
          refine va_iastk 4 (cA := cI) (n := 7) (f := S6 1) hx hb hK hP hD hS 1 0 rfl rfl rfl (by decide) (by decide) dX4_reap_117 (fun H locs hP hD hS => ?_)
          have hP : va_P (dC, dI) vwCl (mW cI d S7) H := by rw [eS7]; exact hP
          have hD : va_D A (mW cI d S7) := by rw [eS7]; exact hD
          have hGS7 : gem h w S7 := by rw [eS7]; exact gem_put hGS6 (Or.inr (by decide)) _
          refine lv_iload hx hb dX4_reap_118 (lv_at hl 0 rfl) ?_
          have hZ : S7 = mrea_S (s_put O 0 0 0) t f := (by (try rw [eS7]); (try rw [eS6]); first | done | rfl | (simp only [mrea_S, mrea_V, mrea_a, mrea_v, mrea_b, if_neg c_1, if_neg c_2, if_pos c_4, if_neg c_5]; done) | (unfold mrea_S; simp only [if_neg c_1, if_neg c_2, if_pos c_4, if_neg c_5]; done))
          rw [hZ] at hP hD
          exact zI_ret hx hb hr hlocks hP hD hS rfl (by (try rw [eS7]); (try rw [eS6]); first | done | rfl | (simp only [mrea_S, mrea_V, mrea_a, mrea_v, mrea_b, if_neg c_1, if_neg c_2, if_pos c_4, if_neg c_5]; done)) dX4_reap_120
        · refine lv_iload hx hb dX4_reap_93 (lv_at hl 0 rfl) ?_
          refine lv_iload hx hb dX4_reap_95 (lv_at hl 0 rfl) ?_
          refine lv_iconst (v := 2) hx hb dX4_reap_97 (by decide) ?_
          refine lv_idiv hx hb dX4_reap_98 (by decide) ?_
          refine lv_iadd hx hb dX4_reap_99 ?_
          refine lv_istore (lv' := [(4, .int (((((s_put O 0 0 0) 3 ((mi_at (s_put O 0 0 0) t f) + 6).toNatClampNeg) * ((s_put O 0 0 0) 3 ((mi_at (s_put O 0 0 0) t f) + 7).toNatClampNeg)) / 100) + (((((s_put O 0 0 0) 3 ((mi_at (s_put O 0 0 0) t f) + 6).toNatClampNeg) * ((s_put O 0 0 0) 3 ((mi_at (s_put O 0 0 0) t f) + 7).toNatClampNeg)) / 100) / 2))), (3, .int (mi_at (s_put O 0 0 0) t f)), (0, .ref (d 0)), (1, .int t), (2, .int f)]) hx hb dX4_reap_100 hl (by decide) rfl (fun ls hl => ?_)
          refine lv_aload_n hx hb dX4_reap_102 rfl (lv_at hl 2 rfl) ?_
          refine lv_iload_n hx hb dX4_reap_103 rfl (lv_at hl 1 rfl) ?_
          obtain ⟨S8, eS8⟩ : ∃ z : sS, z = mi_fallow (s_put O 0 0 0) (mi_at (s_put O 0 0 0) t f) := ⟨_, rfl⟩
          refine zV_V (pre := ([] : va_W)) (wc := mW cI d (s_put O 0 0 0)) (post := ([] : va_W)) (w1 := mW cI d S8) ⟨hx, hb, hml, hown, hts⟩ (by rw [eS8]; exact c_X4_fallow l dC dI cI d (s_put O 0 0 0) (mi_at (s_put O 0 0 0) t f) (gem_frm hGz c_1)) (cwV 1 hts gX4_reap_X4_fallow rfl rfl rfl (by decide +kernel) ⟨Nat.le_of_ble_eq_true rfl, Nat.le_of_ble_eq_true rfl⟩) (by simp only [List.append_assoc, List.append_nil, List.nil_append]) hK hN (ci := 4) (q0 := 0) rfl rfl rfl hP hD hS hA rfl hl.1 rfl (Nat.le_of_ble_eq_true rfl) dX4_reap_104 ⟨Nat.le_of_ble_eq_true rfl, Nat.le_of_ble_eq_true rfl⟩ (fun H locs hP hD hS => ?_)
          have hP : va_P (dC, dI) vwCl (mW cI d S8) H := by simpa only [List.append_assoc, List.append_nil, List.nil_append] using hP
          have hD : va_D A (mW cI d S8) := by simpa only [List.append_assoc, List.append_nil, List.nil_append] using hD
          have hGS8 : gem h w S8 := by rw [eS8]; exact gem_sam hGz (sam4_fallow (s_put O 0 0 0) (mi_at (s_put O 0 0 0) t f))
          refine lv_aload_n hx hb dX4_reap_107 rfl (lv_at hl 2 rfl) ?_
          refine va_get (D := (dC, dI)) (ci := 4) (v := .ref (d 1)) (C := RX4) (T := TX4) (N := 7) hx hb hts hinX4 hown hK hP 0 rfl rfl 1 (by decide) hf9 (fun _ h9 => h9) rfl dX4_reap_108 ?_
          refine lv_iconst (v := 4) hx hb dX4_reap_111 (by decide) ?_
          refine lv_dup2_11 hx hb dX4_reap_112 rfl rfl ?_
          refine va_ialdk 4 (cA := cI) (n := 7) (f := S8 1) hx hb hK hP 1 0 rfl rfl rfl (by decide) (by decide) dX4_reap_113 ?_
          refine lv_iload hx hb dX4_reap_114 (lv_at hl 0 rfl) ?_
          refine lv_iadd hx hb dX4_reap_116 ?_
          obtain ⟨S9, eS9⟩ : ∃ z : sS, z = s_put S8 1 4 ((S8 1 4) + (((((s_put O 0 0 0) 3 ((mi_at (s_put O 0 0 0) t f) + 6).toNatClampNeg) * ((s_put O 0 0 0) 3 ((mi_at (s_put O 0 0 0) t f) + 7).toNatClampNeg)) / 100) + (((((s_put O 0 0 0) 3 ((mi_at (s_put O 0 0 0) t f) + 6).toNatClampNeg) * ((s_put O 0 0 0) 3 ((mi_at (s_put O 0 0 0) t f) + 7).toNatClampNeg)) / 100) / 2))) := ⟨_, rfl⟩
          refine va_iastk 4 (cA := cI) (n := 7) (f := S8 1) hx hb hK hP hD hS 1 0 rfl rfl rfl (by decide) (by decide) dX4_reap_117 (fun H locs hP hD hS => ?_)
          have hP : va_P (dC, dI) vwCl (mW cI d S9) H := by rw [eS9]; exact hP
          have hD : va_D A (mW cI d S9) := by rw [eS9]; exact hD
          have hGS9 : gem h w S9 := by rw [eS9]; exact gem_put hGS8 (Or.inr (by decide)) _
          refine lv_iload hx hb dX4_reap_118 (lv_at hl 0 rfl) ?_
          have hZ : S9 = mrea_S (s_put O 0 0 0) t f := (by (try rw [eS9]); (try rw [eS8]); first | done | rfl | (simp only [mrea_S, mrea_V, mrea_a, mrea_v, mrea_b, if_neg c_1, if_neg c_2, if_pos c_4, if_pos c_5]; done) | (unfold mrea_S; simp only [if_neg c_1, if_neg c_2, if_pos c_4, if_pos c_5]; done))
          rw [hZ] at hP hD
          exact zI_ret hx hb hr hlocks hP hD hS rfl (by (try rw [eS9]); (try rw [eS8]); first | done | rfl | (simp only [mrea_S, mrea_V, mrea_a, mrea_v, mrea_b, if_neg c_1, if_neg c_2, if_pos c_4, if_pos c_5]; done)) dX4_reap_120
      · refine lv_aload_n hx hb dX4_reap_52 rfl (lv_at hl 1 rfl) ?_
        refine lv_iconst (v := 2) hx hb dX4_reap_53 (by decide) ?_
        obtain ⟨S10, eS10⟩ : ∃ z : sS, z = mfail (s_put O 0 0 0) 2 := ⟨_, rfl⟩
        refine zI_V (pre := ([] : va_W)) (wc := mW cI d (s_put O 0 0 0)) (post := ([] : va_W)) (w1 := mW cI d S10) ⟨hx, hb, hml, hown, hts⟩ (by rw [eS10]; exact c_X4_fail l dC dI cI d (s_put O 0 0 0) 2) (cwV 1 hts gX4_reap_X4_fail rfl rfl rfl (by decide +kernel) ⟨Nat.le_of_ble_eq_true rfl, Nat.le_of_ble_eq_true rfl⟩) (by simp only [List.append_assoc, List.append_nil, List.nil_append]) hK hN (ci := 4) (q0 := 0) rfl rfl rfl hP hD hS hA rfl hl.1 rfl (Nat.le_of_ble_eq_true rfl) dX4_reap_54 ⟨Nat.le_of_ble_eq_true rfl, Nat.le_of_ble_eq_true rfl⟩ (fun H locs hP hD hS => ?_)
        have hP : va_P (dC, dI) vwCl (mW cI d S10) H := by simpa only [List.append_assoc, List.append_nil, List.nil_append] using hP
        have hD : va_D A (mW cI d S10) := by simpa only [List.append_assoc, List.append_nil, List.nil_append] using hD
        have hZ : S10 = mrea_S (s_put O 0 0 0) t f := (by (try rw [eS10]); first | done | rfl | (simp only [mrea_S, mrea_V, mrea_a, mrea_v, mrea_b, if_neg c_1, if_neg c_2, if_neg c_4]; done) | (unfold mrea_S; simp only [if_neg c_1, if_neg c_2, if_neg c_4]; done))
        rw [hZ] at hP hD
        exact zI_ret hx hb hr hlocks hP hD hS rfl (by (try rw [eS10]); first | done | rfl | (simp only [mrea_S, mrea_V, mrea_a, mrea_v, mrea_b, if_neg c_1, if_neg c_2, if_neg c_4]; done)) dX4_reap_57
  · refine lv_aload_n hx hb dX4_reap_14 rfl (lv_at hl 0 rfl) ?_
    refine lv_iconst (v := 1) hx hb dX4_reap_15 (by decide) ?_
    obtain ⟨S11, eS11⟩ : ∃ z : sS, z = mfail (s_put O 0 0 0) 1 := ⟨_, rfl⟩
    refine zI_V (pre := ([] : va_W)) (wc := mW cI d (s_put O 0 0 0)) (post := ([] : va_W)) (w1 := mW cI d S11) ⟨hx, hb, hml, hown, hts⟩ (by rw [eS11]; exact c_X4_fail l dC dI cI d (s_put O 0 0 0) 1) (cwV 1 hts gX4_reap_X4_fail rfl rfl rfl (by decide +kernel) ⟨Nat.le_of_ble_eq_true rfl, Nat.le_of_ble_eq_true rfl⟩) (by simp only [List.append_assoc, List.append_nil, List.nil_append]) hK hN (ci := 4) (q0 := 0) rfl rfl rfl hP hD hS hA rfl hl.1 rfl (Nat.le_of_ble_eq_true rfl) dX4_reap_16 ⟨Nat.le_of_ble_eq_true rfl, Nat.le_of_ble_eq_true rfl⟩ (fun H locs hP hD hS => ?_)
    have hP : va_P (dC, dI) vwCl (mW cI d S11) H := by simpa only [List.append_assoc, List.append_nil, List.nil_append] using hP
    have hD : va_D A (mW cI d S11) := by simpa only [List.append_assoc, List.append_nil, List.nil_append] using hD
    have hZ : S11 = mrea_S (s_put O 0 0 0) t f := (by (try rw [eS11]); first | done | rfl | (simp only [mrea_S, mrea_V, mrea_a, mrea_v, mrea_b, if_pos c_1]; done) | (unfold mrea_S; simp only [if_pos c_1]; done))
    rw [hZ] at hP hD
    exact zI_ret hx hb hr hlocks hP hD hS rfl (by (try rw [eS11]); first | done | rfl | (simp only [mrea_S, mrea_V, mrea_a, mrea_v, mrea_b, if_pos c_1]; done)) dX4_reap_19
set_option maxHeartbeats 4000000 in
set_option maxRecDepth 100000 in
theorem c_X4_field (l : Launch) (dC : Nat → ClassId) (dI : Nat → Nat → Nat) (cI : ClassId) (d : Nat → Nat) (h w : Nat) (O : sS) (t f x : Int32) (hG0 : gem h w O) : zI l yX4_field wsX4_field { frames := 2, cells := 0, slots := 0, locals := 44 } (dC, dI) cI [.ref (d 0), .int t, .int f, .int x] (mW cI d O) (mW cI d (mfld_S (s_put O 0 0 0) t f x)) (mfld_V (s_put O 0 0 0) t f x) := by
  refine zI_of (cc := cX4_field) (maxL := 4) (ret := (some .int)) (by decide) rfl (Nat.le_of_ble_eq_true rfl) ?_
  intro p e s m below meth c A ls C0 hl
  obtain ⟨hx, hb, hr, hml, hown, hts, hlocks, hK, hN, hA, hP, hD, hS⟩ := C0
  have hown : s.vm.findClass RX4 = some m.cls := hown
  have hl : lv_has ls 4 [(0, .ref (d 0)), (1, .int t), (2, .int f), (3, .int x)] := hl
  have hf16 := hts (.fieldLink RX4 16 "PaddyTerracesModel" "fields" "[I") (by decide +kernel)
  have hf38 := hts (.fieldLink RX4 38 "PaddyTerracesModel" "thrown" "I") (by decide +kernel)
  have hinX4 : ∀ w ∈ wsX40, w ∈ wsX4_field := by decide +kernel
  have hS0 := hS
  have hN64 := gem_hw hG0
  have hW9 := gem_w hG0
  obtain ⟨-, -, hh2, hh8, hw2, hw8⟩ := id hG0
  refine lv_aload_n hx hb dX4_field_0 rfl (lv_at hl 0 rfl) ?_
  refine lv_iconst (v := 0) hx hb dX4_field_1 (by decide) ?_
  refine va_put (D := (dC, dI)) (ci := 4) (v := .int 0) (ty := .int) (C := RX4) (T := TX4) (N := 7) hx hb hts hinX4 tyX4 tyX4_ok nmX4 hown hK hP hD hS 0 rfl rfl 0 (by decide) hf38 (fun _ h9 => h9) rfl (by decide +kernel) rfl rfl (Nat.le_of_ble_eq_true rfl) dX4_field_2 (fun H locs hP hD hS => ?_)
  have hP : va_P (dC, dI) vwCl (mW cI d (s_put O 0 0 0)) H := hP
  have hD : va_D A (mW cI d (s_put O 0 0 0)) := hD
  have hGz : gem h w (s_put O 0 0 0) := gem_put hG0 (Or.inl (by decide)) _
  refine lv_aload_n hx hb dX4_field_5 rfl (lv_at hl 0 rfl) ?_
  refine lv_iload_n hx hb dX4_field_6 rfl (lv_at hl 1 rfl) ?_
  refine lv_iload_n hx hb dX4_field_7 rfl (lv_at hl 2 rfl) ?_
  refine zI_V (pre := ([] : va_W)) (wc := mW cI d (s_put O 0 0 0)) (post := ([] : va_W)) (w1 := mW cI d (s_put O 0 0 0)) ⟨hx, hb, hml, hown, hts⟩ (c_X4_isField l dC dI cI d (s_put O 0 0 0) t f) (cwV 2 hts gX4_field_X4_isField rfl rfl rfl (by decide +kernel) ⟨Nat.le_of_ble_eq_true rfl, Nat.le_of_ble_eq_true rfl⟩) (by simp only [List.append_assoc, List.append_nil, List.nil_append]) hK hN (ci := 4) (q0 := 0) rfl rfl rfl hP hD hS hA rfl hl.1 rfl (Nat.le_of_ble_eq_true rfl) dX4_field_8 ⟨Nat.le_of_ble_eq_true rfl, Nat.le_of_ble_eq_true rfl⟩ (fun H locs hP hD hS => ?_)
  have hP : va_P (dC, dI) vwCl (mW cI d (s_put O 0 0 0)) H := by simpa only [List.append_assoc, List.append_nil, List.nil_append] using hP
  have hD : va_D A (mW cI d (s_put O 0 0 0)) := by simpa only [List.append_assoc, List.append_nil, List.nil_append] using hD
  refine lv_if_eq (tgt := 40) hx hb dX4_field_11 (by decide) (fun c_1 => ?_) (fun c_1 => ?_)
  · refine lv_aload_n hx hb dX4_field_40 rfl (lv_at hl 0 rfl) ?_
    refine lv_iconst (v := 1) hx hb dX4_field_41 (by decide) ?_
    obtain ⟨S2, eS2⟩ : ∃ z : sS, z = mfail (s_put O 0 0 0) 1 := ⟨_, rfl⟩
    refine zI_V (pre := ([] : va_W)) (wc := mW cI d (s_put O 0 0 0)) (post := ([] : va_W)) (w1 := mW cI d S2) ⟨hx, hb, hml, hown, hts⟩ (by rw [eS2]; exact c_X4_fail l dC dI cI d (s_put O 0 0 0) 1) (cwV 1 hts gX4_field_X4_fail rfl rfl rfl (by decide +kernel) ⟨Nat.le_of_ble_eq_true rfl, Nat.le_of_ble_eq_true rfl⟩) (by simp only [List.append_assoc, List.append_nil, List.nil_append]) hK hN (ci := 4) (q0 := 0) rfl rfl rfl hP hD hS hA rfl hl.1 rfl (Nat.le_of_ble_eq_true rfl) dX4_field_42 ⟨Nat.le_of_ble_eq_true rfl, Nat.le_of_ble_eq_true rfl⟩ (fun H locs hP hD hS => ?_)
    have hP : va_P (dC, dI) vwCl (mW cI d S2) H := by simpa only [List.append_assoc, List.append_nil, List.nil_append] using hP
    have hD : va_D A (mW cI d S2) := by simpa only [List.append_assoc, List.append_nil, List.nil_append] using hD
    have hZ : S2 = mfld_S (s_put O 0 0 0) t f x := (by (try rw [eS2]); first | done | rfl | (simp only [mfld_S, mfld_V, if_pos c_1]; done) | (unfold mfld_S; simp only [if_pos c_1]; done))
    rw [hZ] at hP hD
    exact zI_ret hx hb hr hlocks hP hD hS rfl (by (try rw [eS2]); first | done | rfl | (simp only [mfld_S, mfld_V, if_pos c_1]; done)) dX4_field_45
  · refine lv_iload_n hx hb dX4_field_14 rfl (lv_at hl 3 rfl) ?_
    refine lv_iconst (v := 0) hx hb dX4_field_15 (by decide) ?_
    refine lv_bipush (v := 11) hx hb dX4_field_16 (by decide) ?_
    refine zI_S (pre := (mW cI d (s_put O 0 0 0))) (wc := ([] : va_W)) (post := ([] : va_W)) (w1 := ([] : va_W)) ⟨hx, hb, hml, hown, hts⟩ (c_X4_isIn l dC dI cI x 0 11) (va_cwS 3 hts gX4_field_X4_isIn rfl rfl rfl (by decide +kernel) ⟨Nat.le_of_ble_eq_true rfl, Nat.le_of_ble_eq_true rfl⟩) (by simp only [List.append_assoc, List.append_nil, List.nil_append]) hK hN hP hD hS hA rfl hl.1 rfl (Nat.le_of_ble_eq_true rfl) dX4_field_18 ⟨Nat.le_of_ble_eq_true rfl, Nat.le_of_ble_eq_true rfl⟩ (fun H locs hP hD hS => ?_)
    have hP : va_P (dC, dI) vwCl (mW cI d (s_put O 0 0 0)) H := by simpa only [List.append_assoc, List.append_nil, List.nil_append] using hP
    have hD : va_D A (mW cI d (s_put O 0 0 0)) := by simpa only [List.append_assoc, List.append_nil, List.nil_append] using hD
    refine lv_if_eq (tgt := 40) hx hb dX4_field_21 (by decide) (fun c_3 => ?_) (fun c_3 => ?_)
    · refine lv_aload_n hx hb dX4_field_40 rfl (lv_at hl 0 rfl) ?_
      refine lv_iconst (v := 1) hx hb dX4_field_41 (by decide) ?_
      obtain ⟨S4, eS4⟩ : ∃ z : sS, z = mfail (s_put O 0 0 0) 1 := ⟨_, rfl⟩
      refine zI_V (pre := ([] : va_W)) (wc := mW cI d (s_put O 0 0 0)) (post := ([] : va_W)) (w1 := mW cI d S4) ⟨hx, hb, hml, hown, hts⟩ (by rw [eS4]; exact c_X4_fail l dC dI cI d (s_put O 0 0 0) 1) (cwV 1 hts gX4_field_X4_fail rfl rfl rfl (by decide +kernel) ⟨Nat.le_of_ble_eq_true rfl, Nat.le_of_ble_eq_true rfl⟩) (by simp only [List.append_assoc, List.append_nil, List.nil_append]) hK hN (ci := 4) (q0 := 0) rfl rfl rfl hP hD hS hA rfl hl.1 rfl (Nat.le_of_ble_eq_true rfl) dX4_field_42 ⟨Nat.le_of_ble_eq_true rfl, Nat.le_of_ble_eq_true rfl⟩ (fun H locs hP hD hS => ?_)
      have hP : va_P (dC, dI) vwCl (mW cI d S4) H := by simpa only [List.append_assoc, List.append_nil, List.nil_append] using hP
      have hD : va_D A (mW cI d S4) := by simpa only [List.append_assoc, List.append_nil, List.nil_append] using hD
      have hZ : S4 = mfld_S (s_put O 0 0 0) t f x := (by (try rw [eS4]); first | done | rfl | (simp only [mfld_S, mfld_V, if_neg c_1, if_pos c_3]; done) | (unfold mfld_S; simp only [if_neg c_1, if_pos c_3]; done))
      rw [hZ] at hP hD
      exact zI_ret hx hb hr hlocks hP hD hS rfl (by (try rw [eS4]); first | done | rfl | (simp only [mfld_S, mfld_V, if_neg c_1, if_pos c_3]; done)) dX4_field_45
    · refine lv_aload_n hx hb dX4_field_24 rfl (lv_at hl 0 rfl) ?_
      refine va_get (D := (dC, dI)) (ci := 4) (v := .ref (d 3)) (C := RX4) (T := TX4) (N := 7) hx hb hts hinX4 hown hK hP 0 rfl rfl 3 (by decide) hf16 (fun _ h9 => h9) rfl dX4_field_25 ?_
      refine lv_aload_n hx hb dX4_field_28 rfl (lv_at hl 0 rfl) ?_
      refine lv_iload_n hx hb dX4_field_29 rfl (lv_at hl 1 rfl) ?_
      refine lv_iload_n hx hb dX4_field_30 rfl (lv_at hl 2 rfl) ?_
      refine zI_V (pre := ([] : va_W)) (wc := mW cI d (s_put O 0 0 0)) (post := ([] : va_W)) (w1 := mW cI d (s_put O 0 0 0)) ⟨hx, hb, hml, hown, hts⟩ (c_X4_at l dC dI cI d (s_put O 0 0 0) t f) (cwV 2 hts gX4_field_X4_at rfl rfl rfl (by decide +kernel) ⟨Nat.le_of_ble_eq_true rfl, Nat.le_of_ble_eq_true rfl⟩) (by simp only [List.append_assoc, List.append_nil, List.nil_append]) hK hN (ci := 4) (q0 := 0) rfl rfl rfl hP hD hS hA rfl hl.1 rfl (Nat.le_of_ble_eq_true rfl) dX4_field_31 ⟨Nat.le_of_ble_eq_true rfl, Nat.le_of_ble_eq_true rfl⟩ (fun H locs hP hD hS => ?_)
      have hP : va_P (dC, dI) vwCl (mW cI d (s_put O 0 0 0)) H := by simpa only [List.append_assoc, List.append_nil, List.nil_append] using hP
      have hD : va_D A (mW cI d (s_put O 0 0 0)) := by simpa only [List.append_assoc, List.append_nil, List.nil_append] using hD
      refine lv_iload_n hx hb dX4_field_34 rfl (lv_at hl 3 rfl) ?_
      refine lv_iadd hx hb dX4_field_35 ?_
      refine va_iald (cA := cI) (n := 768) (f := (s_put O 0 0 0) 3) hx hb hK hP 3 0 rfl rfl (frm_inx (gem_frm hGz c_1) (xok_w c_3)) dX4_field_36 ?_
      refine lv_goto (tgt := 45) hx hb dX4_field_37 (by decide) ?_
      have hZ : (s_put O 0 0 0) = mfld_S (s_put O 0 0 0) t f x := (by first | done | rfl | (simp only [mfld_S, mfld_V, if_neg c_1, if_neg c_3]; done) | (unfold mfld_S; simp only [if_neg c_1, if_neg c_3]; done))
      rw [hZ] at hP hD
      exact zI_ret hx hb hr hlocks hP hD hS rfl (by first | done | rfl | (simp only [mfld_S, mfld_V, if_neg c_1, if_neg c_3]; done)) dX4_field_45
set_option maxHeartbeats 4000000 in
set_option maxRecDepth 100000 in
theorem c_X4_count (l : Launch) (dC : Nat → ClassId) (dI : Nat → Nat → Nat) (cI : ClassId) (d : Nat → Nat) (h w : Nat) (O : sS) (x : Int32) (hG0 : gem h w O) : zI l yX4_count wsX4_count { frames := 3, cells := 0, slots := 0, locals := 64 } (dC, dI) cI [.ref (d 0), .int x] (mW cI d O) (mW cI d (mcnt_S (s_put O 0 0 0) x)) (mcnt_V h w (s_put O 0 0 0) x) := by
  refine zI_of (cc := cX4_count) (maxL := 2) (ret := (some .int)) (by decide) rfl (Nat.le_of_ble_eq_true rfl) ?_
  intro p e s m below meth c A ls C0 hl
  obtain ⟨hx, hb, hr, hml, hown, hts, hlocks, hK, hN, hA, hP, hD, hS⟩ := C0
  have hown : s.vm.findClass RX4 = some m.cls := hown
  have hl : lv_has ls 2 [(0, .ref (d 0)), (1, .int x)] := hl
  have hf38 := hts (.fieldLink RX4 38 "PaddyTerracesModel" "thrown" "I") (by decide +kernel)
  have hinX4 : ∀ w ∈ wsX40, w ∈ wsX4_count := by decide +kernel
  have hS0 := hS
  have hN64 := gem_hw hG0
  have hW9 := gem_w hG0
  obtain ⟨-, -, hh2, hh8, hw2, hw8⟩ := id hG0
  refine lv_aload_n hx hb dX4_count_0 rfl (lv_at hl 0 rfl) ?_
  refine lv_iconst (v := 0) hx hb dX4_count_1 (by decide) ?_
  refine va_put (D := (dC, dI)) (ci := 4) (v := .int 0) (ty := .int) (C := RX4) (T := TX4) (N := 7) hx hb hts hinX4 tyX4 tyX4_ok nmX4 hown hK hP hD hS 0 rfl rfl 0 (by decide) hf38 (fun _ h9 => h9) rfl (by decide +kernel) rfl rfl (Nat.le_of_ble_eq_true rfl) dX4_count_2 (fun H locs hP hD hS => ?_)
  have hP : va_P (dC, dI) vwCl (mW cI d (s_put O 0 0 0)) H := hP
  have hD : va_D A (mW cI d (s_put O 0 0 0)) := hD
  have hGz : gem h w (s_put O 0 0 0) := gem_put hG0 (Or.inl (by decide)) _
  refine lv_iload_n hx hb dX4_count_5 rfl (lv_at hl 1 rfl) ?_
  refine lv_iconst (v := 0) hx hb dX4_count_6 (by decide) ?_
  refine lv_bipush (v := 8) hx hb dX4_count_7 (by decide) ?_
  refine zI_S (pre := (mW cI d (s_put O 0 0 0))) (wc := ([] : va_W)) (post := ([] : va_W)) (w1 := ([] : va_W)) ⟨hx, hb, hml, hown, hts⟩ (c_X4_isIn l dC dI cI x 0 8) (va_cwS 3 hts gX4_count_X4_isIn rfl rfl rfl (by decide +kernel) ⟨Nat.le_of_ble_eq_true rfl, Nat.le_of_ble_eq_true rfl⟩) (by simp only [List.append_assoc, List.append_nil, List.nil_append]) hK hN hP hD hS hA rfl hl.1 rfl (Nat.le_of_ble_eq_true rfl) dX4_count_9 ⟨Nat.le_of_ble_eq_true rfl, Nat.le_of_ble_eq_true rfl⟩ (fun H locs hP hD hS => ?_)
  have hP : va_P (dC, dI) vwCl (mW cI d (s_put O 0 0 0)) H := by simpa only [List.append_assoc, List.append_nil, List.nil_append] using hP
  have hD : va_D A (mW cI d (s_put O 0 0 0)) := by simpa only [List.append_assoc, List.append_nil, List.nil_append] using hD
  refine lv_if_eq (tgt := 23) hx hb dX4_count_12 (by decide) (fun c_1 => ?_) (fun c_1 => ?_)
  · refine lv_aload_n hx hb dX4_count_23 rfl (lv_at hl 0 rfl) ?_
    refine lv_iconst (v := 1) hx hb dX4_count_24 (by decide) ?_
    obtain ⟨S2, eS2⟩ : ∃ z : sS, z = mfail (s_put O 0 0 0) 1 := ⟨_, rfl⟩
    refine zI_V (pre := ([] : va_W)) (wc := mW cI d (s_put O 0 0 0)) (post := ([] : va_W)) (w1 := mW cI d S2) ⟨hx, hb, hml, hown, hts⟩ (by rw [eS2]; exact c_X4_fail l dC dI cI d (s_put O 0 0 0) 1) (cwV 1 hts gX4_count_X4_fail rfl rfl rfl (by decide +kernel) ⟨Nat.le_of_ble_eq_true rfl, Nat.le_of_ble_eq_true rfl⟩) (by simp only [List.append_assoc, List.append_nil, List.nil_append]) hK hN (ci := 4) (q0 := 0) rfl rfl rfl hP hD hS hA rfl hl.1 rfl (Nat.le_of_ble_eq_true rfl) dX4_count_25 ⟨Nat.le_of_ble_eq_true rfl, Nat.le_of_ble_eq_true rfl⟩ (fun H locs hP hD hS => ?_)
    have hP : va_P (dC, dI) vwCl (mW cI d S2) H := by simpa only [List.append_assoc, List.append_nil, List.nil_append] using hP
    have hD : va_D A (mW cI d S2) := by simpa only [List.append_assoc, List.append_nil, List.nil_append] using hD
    have hZ : S2 = mcnt_S (s_put O 0 0 0) x := (by (try rw [eS2]); first | done | rfl | (simp only [mcnt_S, mcnt_V, if_pos c_1]; done) | (unfold mcnt_S; simp only [if_pos c_1]; done))
    rw [hZ] at hP hD
    exact zI_ret hx hb hr hlocks hP hD hS rfl (by (try rw [eS2]); first | done | rfl | (simp only [mcnt_S, mcnt_V, if_pos c_1]; done)) dX4_count_28
  · refine lv_aload_n hx hb dX4_count_15 rfl (lv_at hl 0 rfl) ?_
    refine lv_iload_n hx hb dX4_count_16 rfl (lv_at hl 1 rfl) ?_
    refine zI_V (pre := ([] : va_W)) (wc := mW cI d (s_put O 0 0 0)) (post := ([] : va_W)) (w1 := mW cI d (s_put O 0 0 0)) ⟨hx, hb, hml, hown, hts⟩ (c_X4_counted l dC dI cI d h w (s_put O 0 0 0) x hGz (isw_in c_1 (by decide) (by decide))) (cwV 1 hts gX4_count_X4_counted rfl rfl rfl (by decide +kernel) ⟨Nat.le_of_ble_eq_true rfl, Nat.le_of_ble_eq_true rfl⟩) (by simp only [List.append_assoc, List.append_nil, List.nil_append]) hK hN (ci := 4) (q0 := 0) rfl rfl rfl hP hD hS hA rfl hl.1 rfl (Nat.le_of_ble_eq_true rfl) dX4_count_17 ⟨Nat.le_of_ble_eq_true rfl, Nat.le_of_ble_eq_true rfl⟩ (fun H locs hP hD hS => ?_)
    have hP : va_P (dC, dI) vwCl (mW cI d (s_put O 0 0 0)) H := by simpa only [List.append_assoc, List.append_nil, List.nil_append] using hP
    have hD : va_D A (mW cI d (s_put O 0 0 0)) := by simpa only [List.append_assoc, List.append_nil, List.nil_append] using hD
    refine lv_goto (tgt := 28) hx hb dX4_count_20 (by decide) ?_
    have hZ : (s_put O 0 0 0) = mcnt_S (s_put O 0 0 0) x := (by first | done | rfl | (simp only [mcnt_S, mcnt_V, if_neg c_1]; done) | (unfold mcnt_S; simp only [if_neg c_1]; done))
    rw [hZ] at hP hD
    exact zI_ret hx hb hr hlocks hP hD hS rfl (by first | done | rfl | (simp only [mcnt_S, mcnt_V, if_neg c_1]; done)) dX4_count_28
set_option maxHeartbeats 4000000 in
set_option maxRecDepth 100000 in
theorem c_X4_weather (l : Launch) (dC : Nat → ClassId) (dI : Nat → Nat → Nat) (cI : ClassId) (d : Nat → Nat) (h w : Nat) (O : sS) (i x : Int32) (hG0 : gem h w O) : zI l yX4_weather wsX4_weather { frames := 1, cells := 0, slots := 0, locals := 22 } (dC, dI) cI [.ref (d 0), .int i, .int x] (mW cI d O) (mW cI d (mwea_S (s_put O 0 0 0) i x)) (mwea_V (s_put O 0 0 0) i x) := by
  refine zI_of (cc := cX4_weather) (maxL := 3) (ret := (some .int)) (by decide) rfl (Nat.le_of_ble_eq_true rfl) ?_
  intro p e s m below meth c A ls C0 hl
  obtain ⟨hx, hb, hr, hml, hown, hts, hlocks, hK, hN, hA, hP, hD, hS⟩ := C0
  have hown : s.vm.findClass RX4 = some m.cls := hown
  have hl : lv_has ls 3 [(0, .ref (d 0)), (1, .int i), (2, .int x)] := hl
  have hf19 := hts (.fieldLink RX4 19 "PaddyTerracesModel" "weather" "[I") (by decide +kernel)
  have hf38 := hts (.fieldLink RX4 38 "PaddyTerracesModel" "thrown" "I") (by decide +kernel)
  have hinX4 : ∀ w ∈ wsX40, w ∈ wsX4_weather := by decide +kernel
  have hS0 := hS
  have hN64 := gem_hw hG0
  have hW9 := gem_w hG0
  obtain ⟨-, -, hh2, hh8, hw2, hw8⟩ := id hG0
  refine lv_aload_n hx hb dX4_weather_0 rfl (lv_at hl 0 rfl) ?_
  refine lv_iconst (v := 0) hx hb dX4_weather_1 (by decide) ?_
  refine va_put (D := (dC, dI)) (ci := 4) (v := .int 0) (ty := .int) (C := RX4) (T := TX4) (N := 7) hx hb hts hinX4 tyX4 tyX4_ok nmX4 hown hK hP hD hS 0 rfl rfl 0 (by decide) hf38 (fun _ h9 => h9) rfl (by decide +kernel) rfl rfl (Nat.le_of_ble_eq_true rfl) dX4_weather_2 (fun H locs hP hD hS => ?_)
  have hP : va_P (dC, dI) vwCl (mW cI d (s_put O 0 0 0)) H := hP
  have hD : va_D A (mW cI d (s_put O 0 0 0)) := hD
  have hGz : gem h w (s_put O 0 0 0) := gem_put hG0 (Or.inl (by decide)) _
  refine lv_iload_n hx hb dX4_weather_5 rfl (lv_at hl 1 rfl) ?_
  refine lv_iconst (v := 0) hx hb dX4_weather_6 (by decide) ?_
  refine lv_bipush (v := 29) hx hb dX4_weather_7 (by decide) ?_
  refine zI_S (pre := (mW cI d (s_put O 0 0 0))) (wc := ([] : va_W)) (post := ([] : va_W)) (w1 := ([] : va_W)) ⟨hx, hb, hml, hown, hts⟩ (c_X4_isIn l dC dI cI i 0 29) (va_cwS 3 hts gX4_weather_X4_isIn rfl rfl rfl (by decide +kernel) ⟨Nat.le_of_ble_eq_true rfl, Nat.le_of_ble_eq_true rfl⟩) (by simp only [List.append_assoc, List.append_nil, List.nil_append]) hK hN hP hD hS hA rfl hl.1 rfl (Nat.le_of_ble_eq_true rfl) dX4_weather_9 ⟨Nat.le_of_ble_eq_true rfl, Nat.le_of_ble_eq_true rfl⟩ (fun H locs hP hD hS => ?_)
  have hP : va_P (dC, dI) vwCl (mW cI d (s_put O 0 0 0)) H := by simpa only [List.append_assoc, List.append_nil, List.nil_append] using hP
  have hD : va_D A (mW cI d (s_put O 0 0 0)) := by simpa only [List.append_assoc, List.append_nil, List.nil_append] using hD
  refine lv_if_eq (tgt := 37) hx hb dX4_weather_12 (by decide) (fun c_1 => ?_) (fun c_1 => ?_)
  · refine lv_aload_n hx hb dX4_weather_37 rfl (lv_at hl 0 rfl) ?_
    refine lv_iconst (v := 1) hx hb dX4_weather_38 (by decide) ?_
    obtain ⟨S2, eS2⟩ : ∃ z : sS, z = mfail (s_put O 0 0 0) 1 := ⟨_, rfl⟩
    refine zI_V (pre := ([] : va_W)) (wc := mW cI d (s_put O 0 0 0)) (post := ([] : va_W)) (w1 := mW cI d S2) ⟨hx, hb, hml, hown, hts⟩ (by rw [eS2]; exact c_X4_fail l dC dI cI d (s_put O 0 0 0) 1) (cwV 1 hts gX4_weather_X4_fail rfl rfl rfl (by decide +kernel) ⟨Nat.le_of_ble_eq_true rfl, Nat.le_of_ble_eq_true rfl⟩) (by simp only [List.append_assoc, List.append_nil, List.nil_append]) hK hN (ci := 4) (q0 := 0) rfl rfl rfl hP hD hS hA rfl hl.1 rfl (Nat.le_of_ble_eq_true rfl) dX4_weather_39 ⟨Nat.le_of_ble_eq_true rfl, Nat.le_of_ble_eq_true rfl⟩ (fun H locs hP hD hS => ?_)
    have hP : va_P (dC, dI) vwCl (mW cI d S2) H := by simpa only [List.append_assoc, List.append_nil, List.nil_append] using hP
    have hD : va_D A (mW cI d S2) := by simpa only [List.append_assoc, List.append_nil, List.nil_append] using hD
    have hZ : S2 = mwea_S (s_put O 0 0 0) i x := (by (try rw [eS2]); first | done | rfl | (simp only [mwea_S, mwea_V, if_pos c_1]; done) | (unfold mwea_S; simp only [if_pos c_1]; done))
    rw [hZ] at hP hD
    exact zI_ret hx hb hr hlocks hP hD hS rfl (by (try rw [eS2]); first | done | rfl | (simp only [mwea_S, mwea_V, if_pos c_1]; done)) dX4_weather_42
  · refine lv_iload_n hx hb dX4_weather_15 rfl (lv_at hl 2 rfl) ?_
    refine lv_iconst (v := 0) hx hb dX4_weather_16 (by decide) ?_
    refine lv_iconst (v := 2) hx hb dX4_weather_17 (by decide) ?_
    refine zI_S (pre := (mW cI d (s_put O 0 0 0))) (wc := ([] : va_W)) (post := ([] : va_W)) (w1 := ([] : va_W)) ⟨hx, hb, hml, hown, hts⟩ (c_X4_isIn l dC dI cI x 0 2) (va_cwS 3 hts gX4_weather_X4_isIn rfl rfl rfl (by decide +kernel) ⟨Nat.le_of_ble_eq_true rfl, Nat.le_of_ble_eq_true rfl⟩) (by simp only [List.append_assoc, List.append_nil, List.nil_append]) hK hN hP hD hS hA rfl hl.1 rfl (Nat.le_of_ble_eq_true rfl) dX4_weather_18 ⟨Nat.le_of_ble_eq_true rfl, Nat.le_of_ble_eq_true rfl⟩ (fun H locs hP hD hS => ?_)
    have hP : va_P (dC, dI) vwCl (mW cI d (s_put O 0 0 0)) H := by simpa only [List.append_assoc, List.append_nil, List.nil_append] using hP
    have hD : va_D A (mW cI d (s_put O 0 0 0)) := by simpa only [List.append_assoc, List.append_nil, List.nil_append] using hD
    refine lv_if_eq (tgt := 37) hx hb dX4_weather_21 (by decide) (fun c_3 => ?_) (fun c_3 => ?_)
    · refine lv_aload_n hx hb dX4_weather_37 rfl (lv_at hl 0 rfl) ?_
      refine lv_iconst (v := 1) hx hb dX4_weather_38 (by decide) ?_
      obtain ⟨S4, eS4⟩ : ∃ z : sS, z = mfail (s_put O 0 0 0) 1 := ⟨_, rfl⟩
      refine zI_V (pre := ([] : va_W)) (wc := mW cI d (s_put O 0 0 0)) (post := ([] : va_W)) (w1 := mW cI d S4) ⟨hx, hb, hml, hown, hts⟩ (by rw [eS4]; exact c_X4_fail l dC dI cI d (s_put O 0 0 0) 1) (cwV 1 hts gX4_weather_X4_fail rfl rfl rfl (by decide +kernel) ⟨Nat.le_of_ble_eq_true rfl, Nat.le_of_ble_eq_true rfl⟩) (by simp only [List.append_assoc, List.append_nil, List.nil_append]) hK hN (ci := 4) (q0 := 0) rfl rfl rfl hP hD hS hA rfl hl.1 rfl (Nat.le_of_ble_eq_true rfl) dX4_weather_39 ⟨Nat.le_of_ble_eq_true rfl, Nat.le_of_ble_eq_true rfl⟩ (fun H locs hP hD hS => ?_)
      have hP : va_P (dC, dI) vwCl (mW cI d S4) H := by simpa only [List.append_assoc, List.append_nil, List.nil_append] using hP
      have hD : va_D A (mW cI d S4) := by simpa only [List.append_assoc, List.append_nil, List.nil_append] using hD
      have hZ : S4 = mwea_S (s_put O 0 0 0) i x := (by (try rw [eS4]); first | done | rfl | (simp only [mwea_S, mwea_V, if_neg c_1, if_pos c_3]; done) | (unfold mwea_S; simp only [if_neg c_1, if_pos c_3]; done))
      rw [hZ] at hP hD
      exact zI_ret hx hb hr hlocks hP hD hS rfl (by (try rw [eS4]); first | done | rfl | (simp only [mwea_S, mwea_V, if_neg c_1, if_pos c_3]; done)) dX4_weather_42
    · refine lv_aload_n hx hb dX4_weather_24 rfl (lv_at hl 0 rfl) ?_
      refine va_get (D := (dC, dI)) (ci := 4) (v := .ref (d 4)) (C := RX4) (T := TX4) (N := 7) hx hb hts hinX4 hown hK hP 0 rfl rfl 4 (by decide) hf19 (fun _ h9 => h9) rfl dX4_weather_25 ?_
      refine lv_iconst (v := 3) hx hb dX4_weather_28 (by decide) ?_
      refine lv_iload_n hx hb dX4_weather_29 rfl (lv_at hl 1 rfl) ?_
      refine lv_imul hx hb dX4_weather_30 ?_
      refine lv_iload_n hx hb dX4_weather_31 rfl (lv_at hl 2 rfl) ?_
      refine lv_iadd hx hb dX4_weather_32 ?_
      refine va_iald (cA := cI) (n := 90) (f := (s_put O 0 0 0) 4) hx hb hK hP 4 0 rfl rfl (wea_in c_1 c_3) dX4_weather_33 ?_
      refine lv_goto (tgt := 42) hx hb dX4_weather_34 (by decide) ?_
      have hZ : (s_put O 0 0 0) = mwea_S (s_put O 0 0 0) i x := (by first | done | rfl | (simp only [mwea_S, mwea_V, if_neg c_1, if_neg c_3]; done) | (unfold mwea_S; simp only [if_neg c_1, if_neg c_3]; done))
      rw [hZ] at hP hD
      exact zI_ret hx hb hr hlocks hP hD hS rfl (by first | done | rfl | (simp only [mwea_S, mwea_V, if_neg c_1, if_neg c_3]; done)) dX4_weather_42

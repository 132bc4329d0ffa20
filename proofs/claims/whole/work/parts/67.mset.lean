set_option maxHeartbeats 4000000 in
set_option maxRecDepth 100000 in
theorem c_X4_setDay (l : Launch) (dC : Nat → ClassId) (dI : Nat → Nat → Nat) (cI : ClassId) (d : Nat → Nat) (O : sS) (i u v x : Int32) : zJ l yX4_setDay wsX4_setDay { frames := 1, cells := 1, slots := 3, locals := 60 } (dC, dI) cI [.ref (d 0), .int i, .int u, .int v, .int x] (mW cI d O) (mW cI d (mdy_S (s_put O 0 0 0) i u v x)) (mdy_V (s_put O 0 0 0) i u v x) 1 3 := by
  refine zJ_of (cc := cX4_setDay) (maxL := 7) (ret := (some .int)) (by decide) rfl (Nat.le_of_ble_eq_true rfl) ?_
  intro p e s m below meth c A ls C0 hl
  obtain ⟨hx, hb, hr, hml, hown, hts, hlocks, hK, hN, hA, hP, hD, hS⟩ := C0
  have hown : s.vm.findClass RX4 = some m.cls := hown
  have hl : lv_has ls 7 [(0, .ref (d 0)), (1, .int i), (2, .int u), (3, .int v), (4, .int x)] := hl
  have hf19 := hts (.fieldLink RX4 19 "PaddyTerracesModel" "weather" "[I") (by decide +kernel)
  have hf38 := hts (.fieldLink RX4 38 "PaddyTerracesModel" "thrown" "I") (by decide +kernel)
  have hac := hts (.arrayClass .int) (by decide +kernel)
  have hi_Sys := hts (.initialized "java/lang/System") (by decide +kernel)
  have hm32 := hts (.methodLink RX4 32 arraycopyName) (by decide +kernel)
  have hn_acp := hts (.native arraycopyName) (by decide +kernel)
  have hs_acp := hts (.static arraycopyName) (by decide +kernel)
  have hinX4 : ∀ w ∈ wsX40, w ∈ wsX4_setDay := by decide +kernel
  have hS0 := hS
  refine lv_aload_n hx hb dX4_setDay_0 rfl (lv_at hl 0 rfl) ?_
  refine lv_iconst (v := 0) hx hb dX4_setDay_1 (by decide) ?_
  refine va_put (D := (dC, dI)) (ci := 4) (v := .int 0) (ty := .int) (C := RX4) (T := TX4) (N := 7) hx hb hts hinX4 tyX4 tyX4_ok nmX4 hown hK hP hD hS 0 rfl rfl 0 (by decide) hf38 (fun _ h9 => h9) rfl (by decide +kernel) rfl rfl (Nat.le_of_ble_eq_true rfl) dX4_setDay_2 (fun H locs hP hD hS => ?_)
  have hP : va_P (dC, dI) vwCl (mW cI d (s_put O 0 0 0)) H := hP
  have hD : va_D A (mW cI d (s_put O 0 0 0)) := hD
  refine lv_iload_n hx hb dX4_setDay_5 rfl (lv_at hl 1 rfl) ?_
  refine lv_iconst (v := 0) hx hb dX4_setDay_6 (by decide) ?_
  refine lv_bipush (v := 29) hx hb dX4_setDay_7 (by decide) ?_
  refine zI_S (pre := (mW cI d (s_put O 0 0 0))) (wc := ([] : va_W)) (post := ([] : va_W)) (w1 := ([] : va_W)) ⟨hx, hb, hml, hown, hts⟩ (c_X4_isIn l dC dI cI i 0 29) (va_cwS 3 hts gX4_setDay_X4_isIn rfl rfl rfl (by decide +kernel) ⟨Nat.le_of_ble_eq_true rfl, Nat.le_of_ble_eq_true rfl⟩) (by simp only [List.append_assoc, List.append_nil, List.nil_append]) hK hN hP hD hS hA rfl hl.1 rfl (Nat.le_of_ble_eq_true rfl) dX4_setDay_9 ⟨Nat.le_of_ble_eq_true rfl, Nat.le_of_ble_eq_true rfl⟩ (fun H locs hP hD hS => ?_)
  have hP : va_P (dC, dI) vwCl (mW cI d (s_put O 0 0 0)) H := by simpa only [List.append_assoc, List.append_nil, List.nil_append] using hP
  have hD : va_D A (mW cI d (s_put O 0 0 0)) := by simpa only [List.append_assoc, List.append_nil, List.nil_append] using hD
  refine lv_if_ne (tgt := 21) hx hb dX4_setDay_12 (by decide) (fun c_1 => ?_) (fun c_1 => ?_)
  · refine lv_iload_n hx hb dX4_setDay_21 rfl (lv_at hl 2 rfl) ?_
    refine lv_iconst (v := 0) hx hb dX4_setDay_22 (by decide) ?_
    refine lv_bipush (v := 60) hx hb dX4_setDay_23 (by decide) ?_
    refine zI_S (pre := (mW cI d (s_put O 0 0 0))) (wc := ([] : va_W)) (post := ([] : va_W)) (w1 := ([] : va_W)) ⟨hx, hb, hml, hown, hts⟩ (c_X4_isIn l dC dI cI u 0 60) (va_cwS 3 hts gX4_setDay_X4_isIn rfl rfl rfl (by decide +kernel) ⟨Nat.le_of_ble_eq_true rfl, Nat.le_of_ble_eq_true rfl⟩) (by simp only [List.append_assoc, List.append_nil, List.nil_append]) hK hN hP hD hS hA rfl hl.1 rfl (Nat.le_of_ble_eq_true rfl) dX4_setDay_25 ⟨Nat.le_of_ble_eq_true rfl, Nat.le_of_ble_eq_true rfl⟩ (fun H locs hP hD hS => ?_)
    have hP : va_P (dC, dI) vwCl (mW cI d (s_put O 0 0 0)) H := by simpa only [List.append_assoc, List.append_nil, List.nil_append] using hP
    have hD : va_D A (mW cI d (s_put O 0 0 0)) := by simpa only [List.append_assoc, List.append_nil, List.nil_append] using hD
    refine lv_if_eq (tgt := 53) hx hb dX4_setDay_28 (by decide) (fun c_2 => ?_) (fun c_2 => ?_)
    · refine lv_aload_n hx hb dX4_setDay_53 rfl (lv_at hl 0 rfl) ?_
      refine lv_iconst (v := 2) hx hb dX4_setDay_54 (by decide) ?_
      obtain ⟨S3, eS3⟩ : ∃ z : sS, z = mfail (s_put O 0 0 0) 2 := ⟨_, rfl⟩
      refine zI_V (pre := ([] : va_W)) (wc := mW cI d (s_put O 0 0 0)) (post := ([] : va_W)) (w1 := mW cI d S3) ⟨hx, hb, hml, hown, hts⟩ (by rw [eS3]; exact c_X4_fail l dC dI cI d (s_put O 0 0 0) 2) (cwV 1 hts gX4_setDay_X4_fail rfl rfl rfl (by decide +kernel) ⟨Nat.le_of_ble_eq_true rfl, Nat.le_of_ble_eq_true rfl⟩) (by simp only [List.append_assoc, List.append_nil, List.nil_append]) hK hN (ci := 4) (q0 := 0) rfl rfl rfl hP hD hS hA rfl hl.1 rfl (Nat.le_of_ble_eq_true rfl) dX4_setDay_55 ⟨Nat.le_of_ble_eq_true rfl, Nat.le_of_ble_eq_true rfl⟩ (fun H locs hP hD hS => ?_)
      have hP : va_P (dC, dI) vwCl (mW cI d S3) H := by simpa only [List.append_assoc, List.append_nil, List.nil_append] using hP
      have hD : va_D A (mW cI d S3) := by simpa only [List.append_assoc, List.append_nil, List.nil_append] using hD
      have hZ : S3 = mdy_S (s_put O 0 0 0) i u v x := (by (try rw [eS3]); first | done | rfl | (simp only [mdy_S, mdy_V, mdy_r, if_neg c_1, if_pos c_2]; done) | (unfold mdy_S; simp only [if_neg c_1, if_pos c_2]; done))
      rw [hZ] at hP hD
      exact zJ_ret hx hb hr hlocks hP hD hS rfl (by (try rw [eS3]); first | done | rfl | (simp only [mdy_S, mdy_V, mdy_r, if_neg c_1, if_pos c_2]; done)) dX4_setDay_58 (Nat.le_of_ble_eq_true rfl) (Nat.le_of_ble_eq_true rfl)
    · refine lv_iload_n hx hb dX4_setDay_31 rfl (lv_at hl 3 rfl) ?_
      refine lv_iconst (v := 0) hx hb dX4_setDay_32 (by decide) ?_
      refine lv_sipush (v := 400) hx hb dX4_setDay_33 (by decide) ?_
      refine zI_S (pre := (mW cI d (s_put O 0 0 0))) (wc := ([] : va_W)) (post := ([] : va_W)) (w1 := ([] : va_W)) ⟨hx, hb, hml, hown, hts⟩ (c_X4_isIn l dC dI cI v 0 400) (va_cwS 3 hts gX4_setDay_X4_isIn rfl rfl rfl (by decide +kernel) ⟨Nat.le_of_ble_eq_true rfl, Nat.le_of_ble_eq_true rfl⟩) (by simp only [List.append_assoc, List.append_nil, List.nil_append]) hK hN hP hD hS hA rfl hl.1 rfl (Nat.le_of_ble_eq_true rfl) dX4_setDay_36 ⟨Nat.le_of_ble_eq_true rfl, Nat.le_of_ble_eq_true rfl⟩ (fun H locs hP hD hS => ?_)
      have hP : va_P (dC, dI) vwCl (mW cI d (s_put O 0 0 0)) H := by simpa only [List.append_assoc, List.append_nil, List.nil_append] using hP
      have hD : va_D A (mW cI d (s_put O 0 0 0)) := by simpa only [List.append_assoc, List.append_nil, List.nil_append] using hD
      refine lv_if_eq (tgt := 53) hx hb dX4_setDay_39 (by decide) (fun c_4 => ?_) (fun c_4 => ?_)
      · refine lv_aload_n hx hb dX4_setDay_53 rfl (lv_at hl 0 rfl) ?_
        refine lv_iconst (v := 2) hx hb dX4_setDay_54 (by decide) ?_
        obtain ⟨S5, eS5⟩ : ∃ z : sS, z = mfail (s_put O 0 0 0) 2 := ⟨_, rfl⟩
        refine zI_V (pre := ([] : va_W)) (wc := mW cI d (s_put O 0 0 0)) (post := ([] : va_W)) (w1 := mW cI d S5) ⟨hx, hb, hml, hown, hts⟩ (by rw [eS5]; exact c_X4_fail l dC dI cI d (s_put O 0 0 0) 2) (cwV 1 hts gX4_setDay_X4_fail rfl rfl rfl (by decide +kernel) ⟨Nat.le_of_ble_eq_true rfl, Nat.le_of_ble_eq_true rfl⟩) (by simp only [List.append_assoc, List.append_nil, List.nil_append]) hK hN (ci := 4) (q0 := 0) rfl rfl rfl hP hD hS hA rfl hl.1 rfl (Nat.le_of_ble_eq_true rfl) dX4_setDay_55 ⟨Nat.le_of_ble_eq_true rfl, Nat.le_of_ble_eq_true rfl⟩ (fun H locs hP hD hS => ?_)
        have hP : va_P (dC, dI) vwCl (mW cI d S5) H := by simpa only [List.append_assoc, List.append_nil, List.nil_append] using hP
        have hD : va_D A (mW cI d S5) := by simpa only [List.append_assoc, List.append_nil, List.nil_append] using hD
        have hZ : S5 = mdy_S (s_put O 0 0 0) i u v x := (by (try rw [eS5]); first | done | rfl | (simp only [mdy_S, mdy_V, mdy_r, if_neg c_1, if_neg c_2, if_pos c_4]; done) | (unfold mdy_S; simp only [if_neg c_1, if_neg c_2, if_pos c_4]; done))
        rw [hZ] at hP hD
        exact zJ_ret hx hb hr hlocks hP hD hS rfl (by (try rw [eS5]); first | done | rfl | (simp only [mdy_S, mdy_V, mdy_r, if_neg c_1, if_neg c_2, if_pos c_4]; done)) dX4_setDay_58 (Nat.le_of_ble_eq_true rfl) (Nat.le_of_ble_eq_true rfl)
      · refine lv_iload hx hb dX4_setDay_42 (lv_at hl 4 rfl) ?_
        refine lv_iconst (v := 0) hx hb dX4_setDay_44 (by decide) ?_
        refine lv_bipush (v := 20) hx hb dX4_setDay_45 (by decide) ?_
        refine zI_S (pre := (mW cI d (s_put O 0 0 0))) (wc := ([] : va_W)) (post := ([] : va_W)) (w1 := ([] : va_W)) ⟨hx, hb, hml, hown, hts⟩ (c_X4_isIn l dC dI cI x 0 20) (va_cwS 3 hts gX4_setDay_X4_isIn rfl rfl rfl (by decide +kernel) ⟨Nat.le_of_ble_eq_true rfl, Nat.le_of_ble_eq_true rfl⟩) (by simp only [List.append_assoc, List.append_nil, List.nil_append]) hK hN hP hD hS hA rfl hl.1 rfl (Nat.le_of_ble_eq_true rfl) dX4_setDay_47 ⟨Nat.le_of_ble_eq_true rfl, Nat.le_of_ble_eq_true rfl⟩ (fun H locs hP hD hS => ?_)
        have hP : va_P (dC, dI) vwCl (mW cI d (s_put O 0 0 0)) H := by simpa only [List.append_assoc, List.append_nil, List.nil_append] using hP
        have hD : va_D A (mW cI d (s_put O 0 0 0)) := by simpa only [List.append_assoc, List.append_nil, List.nil_append] using hD
        refine lv_if_ne (tgt := 59) hx hb dX4_setDay_50 (by decide) (fun c_6 => ?_) (fun c_6 => ?_)
        · refine lv_aload_n hx hb dX4_setDay_59 rfl (lv_at hl 0 rfl) ?_
          refine va_get (D := (dC, dI)) (ci := 4) (v := .ref (d 4)) (C := RX4) (T := TX4) (N := 7) hx hb hts hinX4 hown hK hP 0 rfl rfl 4 (by decide) hf19 (fun _ h9 => h9) rfl dX4_setDay_60 ?_
          refine lv_iconst (v := 3) hx hb dX4_setDay_63 (by decide) ?_
          refine lv_iload_n hx hb dX4_setDay_64 rfl (lv_at hl 1 rfl) ?_
          refine lv_imul hx hb dX4_setDay_65 ?_
          refine lv_iconst (v := 1) hx hb dX4_setDay_66 (by decide) ?_
          refine lv_iadd hx hb dX4_setDay_67 ?_
          refine va_iald (cA := cI) (n := 90) (f := (s_put O 0 0 0) 4) hx hb hK hP 4 0 rfl rfl (dp_1 c_1) dX4_setDay_68 ?_
          refine lv_istore (lv' := [(5, .int ((s_put O 0 0 0) 4 ((3 * i) + 1).toNatClampNeg)), (0, .ref (d 0)), (1, .int i), (2, .int u), (3, .int v), (4, .int x)]) hx hb dX4_setDay_69 hl (by decide) rfl (fun ls hl => ?_)
          refine lv_iconst (v := 3) hx hb dX4_setDay_71 (by decide) ?_
          refine va_newa (atype := .int) (ty := .int) (n := 3) (N' := 3) (a0 := (3, .inl (fun _ => 0))) hx hb hac rfl hK hP hD hS hA (fun cA => rfl) (by decide) rfl (Nat.le_of_ble_eq_true rfl) (Nat.le_of_ble_eq_true rfl) (Nat.le_of_ble_eq_true rfl) dX4_setDay_72 (fun q7 cA8 H hK9 hP hD hS => ?_)
          obtain rfl : cI = cA8 := (z_cI hK9).symm
          have hP : va_P (dC, dI) vwCl (mW cI d (s_put O 0 0 0) ++ ([(q7, .inl (cI, 3, .inl (fun _ => 0)))] : va_W)) H := hP
          have hD : va_D A (mW cI d (s_put O 0 0 0) ++ ([(q7, .inl (cI, 3, .inl (fun _ => 0)))] : va_W)) := hD
          refine lv_dup hx hb dX4_setDay_74 rfl ?_
          refine lv_iconst (v := 0) hx hb dX4_setDay_75 (by decide) ?_
          refine lv_iload_n hx hb dX4_setDay_76 rfl (lv_at hl 3 rfl) ?_
          refine va_iastk 0 (cA := cI) (n := 3) (f := (fun _ => 0)) hx hb hK hP hD hS 7 0 rfl rfl rfl (by decide) (by decide) dX4_setDay_77 (fun H locs hP hD hS => ?_)
          have hP : va_P (dC, dI) vwCl (mW cI d (s_put O 0 0 0) ++ ([(q7, .inl (cI, 3, .inl (upd (fun _ => 0) 0 u)))] : va_W)) H := hP
          have hD : va_D A (mW cI d (s_put O 0 0 0) ++ ([(q7, .inl (cI, 3, .inl (upd (fun _ => 0) 0 u)))] : va_W)) := hD
          refine lv_dup hx hb dX4_setDay_78 rfl ?_
          refine lv_iconst (v := 1) hx hb dX4_setDay_79 (by decide) ?_
          refine lv_iload_n hx hb dX4_setDay_80 rfl (lv_at hl 4 rfl) ?_
          refine va_iastk 1 (cA := cI) (n := 3) (f := (upd (fun _ => 0) 0 u)) hx hb hK hP hD hS 7 0 rfl rfl rfl (by decide) (by decide) dX4_setDay_81 (fun H locs hP hD hS => ?_)
          have hP : va_P (dC, dI) vwCl (mW cI d (s_put O 0 0 0) ++ ([(q7, .inl (cI, 3, .inl (upd (upd (fun _ => 0) 0 u) 1 v)))] : va_W)) H := hP
          have hD : va_D A (mW cI d (s_put O 0 0 0) ++ ([(q7, .inl (cI, 3, .inl (upd (upd (fun _ => 0) 0 u) 1 v)))] : va_W)) := hD
          refine lv_dup hx hb dX4_setDay_82 rfl ?_
          refine lv_iconst (v := 2) hx hb dX4_setDay_83 (by decide) ?_
          refine lv_iload hx hb dX4_setDay_84 (lv_at hl 5 rfl) ?_
          refine va_iastk 2 (cA := cI) (n := 3) (f := (upd (upd (fun _ => 0) 0 u) 1 v)) hx hb hK hP hD hS 7 0 rfl rfl rfl (by decide) (by decide) dX4_setDay_86 (fun H locs hP hD hS => ?_)
          have hP : va_P (dC, dI) vwCl (mW cI d (s_put O 0 0 0) ++ ([(q7, .inl (cI, 3, .inl (upd (upd (upd (fun _ => 0) 0 u) 1 v) 2 x)))] : va_W)) H := hP
          have hD : va_D A (mW cI d (s_put O 0 0 0) ++ ([(q7, .inl (cI, 3, .inl (upd (upd (upd (fun _ => 0) 0 u) 1 v) 2 x)))] : va_W)) := hD
          refine lv_astore (lv' := [(6, .ref q7), (5, .int ((s_put O 0 0 0) 4 ((3 * i) + 1).toNatClampNeg)), (0, .ref (d 0)), (1, .int i), (2, .int u), (3, .int v), (4, .int x)]) hx hb dX4_setDay_87 hl (by decide) rfl (fun ls hl => ?_)
          refine lv_aload hx hb dX4_setDay_89 (lv_at hl 0 rfl) ?_
          refine lv_iconst (v := 0) hx hb dX4_setDay_91 (by decide) ?_
          refine lv_aload_n hx hb dX4_setDay_92 rfl (lv_at hl 2 rfl) ?_
          refine va_get (D := (dC, dI)) (ci := 4) (v := .ref (d 4)) (C := RX4) (T := TX4) (N := 7) hx hb hts hinX4 hown hK hP 0 rfl rfl 4 (by decide) hf19 (fun _ h9 => h9) rfl dX4_setDay_93 ?_
          refine lv_iconst (v := 3) hx hb dX4_setDay_96 (by decide) ?_
          refine lv_iload_n hx hb dX4_setDay_97 rfl (lv_at hl 3 rfl) ?_
          refine lv_imul hx hb dX4_setDay_98 ?_
          refine lv_iconst (v := 3) hx hb dX4_setDay_99 (by decide) ?_
          obtain ⟨S9, eS9⟩ : ∃ z : sS, z = s_row (s_put O 0 0 0) 4 (va_cpy ((upd (upd (upd (fun _ => 0) 0 u) 1 v) 2 x)) ((s_put O 0 0 0) 4) (0 : Int32).toNatClampNeg (3 * i).toNatClampNeg (3 : Int32).toNatClampNeg) := ⟨_, rfl⟩
          refine va_copyi (c0 := cI) (c1 := cI) (n0 := 3) (n1 := 90) (f := (upd (upd (upd (fun _ => 0) 0 u) 1 v) 2 x)) (g := (s_put O 0 0 0) 4) (ty := .int) (sp := 0) (dp := 3 * i) (n := 3) hx hb (hml.trans hl.1.symm) hown hm32 hn_acp hs_acp hi_Sys hK hP hD hS 7 4 0 0 rfl rfl rfl rfl rfl (by decide) (dp_a c_1) (by decide) (by decide) (dp_b c_1) (fun _ _ => rfl) (Nat.le_of_ble_eq_true rfl) (Nat.le_of_ble_eq_true rfl) dX4_setDay_100 (fun H locs hP hD hS => ?_)
          have hP : va_P (dC, dI) vwCl (mW cI d S9 ++ ([(q7, .inl (cI, 3, .inl (upd (upd (upd (fun _ => 0) 0 u) 1 v) 2 x)))] : va_W)) H := by rw [eS9]; exact hP
          have hD : va_D A (mW cI d S9 ++ ([(q7, .inl (cI, 3, .inl (upd (upd (upd (fun _ => 0) 0 u) 1 v) 2 x)))] : va_W)) := by rw [eS9]; exact hD
          refine lv_iload hx hb dX4_setDay_103 (lv_at hl 1 rfl) ?_
          have hP : va_P (dC, dI) vwCl (mW cI d S9) _ := hP.sub (ws' := mW cI d S9) [0, 1, 2, 3, 4, 5, 6] rfl
          have hD : va_D A (mW cI d S9) := hD.sub (ws' := mW cI d S9) [0, 1, 2, 3, 4, 5, 6] (by decide +kernel) rfl
          have hZ : S9 = mdy_S (s_put O 0 0 0) i u v x := (by (try rw [eS9]); first | done | rfl | (simp only [mdy_S, mdy_V, mdy_r, if_neg c_1, if_neg c_2, if_neg c_4, if_neg c_6]; done) | (unfold mdy_S; simp only [if_neg c_1, if_neg c_2, if_neg c_4, if_neg c_6]; done))
          rw [hZ] at hP hD
          exact zJ_ret hx hb hr hlocks hP hD hS rfl (by (try rw [eS9]); first | done | rfl | (simp only [mdy_S, mdy_V, mdy_r, if_neg c_1, if_neg c_2, if_neg c_4, if_neg c_6]; done)) dX4_setDay_105 (Nat.le_of_ble_eq_true rfl) (Nat.le_of_ble_eq_true rfl)
        · refine lv_aload_n hx hb dX4_setDay_53 rfl (lv_at hl 0 rfl) ?_
          refine lv_iconst (v := 2) hx hb dX4_setDay_54 (by decide) ?_
          obtain ⟨S10, eS10⟩ : ∃ z : sS, z = mfail (s_put O 0 0 0) 2 := ⟨_, rfl⟩
          refine zI_V (pre := ([] : va_W)) (wc := mW cI d (s_put O 0 0 0)) (post := ([] : va_W)) (w1 := mW cI d S10) ⟨hx, hb, hml, hown, hts⟩ (by rw [eS10]; exact c_X4_fail l dC dI cI d (s_put O 0 0 0) 2) (cwV 1 hts gX4_setDay_X4_fail rfl rfl rfl (by decide +kernel) ⟨Nat.le_of_ble_eq_true rfl, Nat.le_of_ble_eq_true rfl⟩) (by simp only [List.append_assoc, List.append_nil, List.nil_append]) hK hN (ci := 4) (q0 := 0) rfl rfl rfl hP hD hS hA rfl hl.1 rfl (Nat.le_of_ble_eq_true rfl) dX4_setDay_55 ⟨Nat.le_of_ble_eq_true rfl, Nat.le_of_ble_eq_true rfl⟩ (fun H locs hP hD hS => ?_)
          have hP : va_P (dC, dI) vwCl (mW cI d S10) H := by simpa only [List.append_assoc, List.append_nil, List.nil_append] using hP
          have hD : va_D A (mW cI d S10) := by simpa only [List.append_assoc, List.append_nil, List.nil_append] using hD
          have hZ : S10 = mdy_S (s_put O 0 0 0) i u v x := (by (try rw [eS10]); first | done | rfl | (simp only [mdy_S, mdy_V, mdy_r, if_neg c_1, if_neg c_2, if_neg c_4, if_pos c_6]; done) | (unfold mdy_S; simp only [if_neg c_1, if_neg c_2, if_neg c_4, if_pos c_6]; done))
          rw [hZ] at hP hD
          exact zJ_ret hx hb hr hlocks hP hD hS rfl (by (try rw [eS10]); first | done | rfl | (simp only [mdy_S, mdy_V, mdy_r, if_neg c_1, if_neg c_2, if_neg c_4, if_pos c_6]; done)) dX4_setDay_58 (Nat.le_of_ble_eq_true rfl) (Nat.le_of_ble_eq_true rfl)
  · refine lv_aload_n hx hb dX4_setDay_15 rfl (lv_at hl 0 rfl) ?_
    refine lv_iconst (v := 1) hx hb dX4_setDay_16 (by decide) ?_
    obtain ⟨S11, eS11⟩ : ∃ z : sS, z = mfail (s_put O 0 0 0) 1 := ⟨_, rfl⟩
    refine zI_V (pre := ([] : va_W)) (wc := mW cI d (s_put O 0 0 0)) (post := ([] : va_W)) (w1 := mW cI d S11) ⟨hx, hb, hml, hown, hts⟩ (by rw [eS11]; exact c_X4_fail l dC dI cI d (s_put O 0 0 0) 1) (cwV 1 hts gX4_setDay_X4_fail rfl rfl rfl (by decide +kernel) ⟨Nat.le_of_ble_eq_true rfl, Nat.le_of_ble_eq_true rfl⟩) (by simp only [List.append_assoc, List.append_nil, List.nil_append]) hK hN (ci := 4) (q0 := 0) rfl rfl rfl hP hD hS hA rfl hl.1 rfl (Nat.le_of_ble_eq_true rfl) dX4_setDay_17 ⟨Nat.le_of_ble_eq_true rfl, Nat.le_of_ble_eq_true rfl⟩ (fun H locs hP hD hS => ?_)
    have hP : va_P (dC, dI) vwCl (mW cI d S11) H := by simpa only [List.append_assoc, List.append_nil, List.nil_append] using hP
    have hD : va_D A (mW cI d S11) := by simpa only [List.append_assoc, List.append_nil, List.nil_append] using hD
    have hZ : S11 = mdy_S (s_put O 0 0 0) i u v x := (by (try rw [eS11]); first | done | rfl | (simp only [mdy_S, mdy_V, mdy_r, if_pos c_1]; done) | (unfold mdy_S; simp only [if_pos c_1]; done))
    rw [hZ] at hP hD
    exact zJ_ret hx hb hr hlocks hP hD hS rfl (by (try rw [eS11]); first | done | rfl | (simp only [mdy_S, mdy_V, mdy_r, if_pos c_1]; done)) dX4_setDay_20 (Nat.le_of_ble_eq_true rfl) (Nat.le_of_ble_eq_true rfl)
set_option maxHeartbeats 4000000 in
set_option maxRecDepth 100000 in
theorem c_X4_clear (l : Launch) (dC : Nat → ClassId) (dI : Nat → Nat → Nat) (cI : ClassId) (d : Nat → Nat) (O : sS) (u v : Int32) : zW l yX4_clear wsX4_clear { frames := 1, cells := 1, slots := 12, locals := 60 } (dC, dI) cI [.ref (d 0), .int u, .int v] (mW cI d O) (mW cI d (mclr O u v)) 1 12 := by
  refine zW_of (cc := cX4_clear) (maxL := 5) (ret := none) (by decide) rfl (Nat.le_of_ble_eq_true rfl) ?_
  intro p e s m below meth c A ls C0 hl
  obtain ⟨hx, hb, hr, hml, hown, hts, hlocks, hK, hN, hA, hP, hD, hS⟩ := C0
  have hown : s.vm.findClass RX4 = some m.cls := hown
  have hl : lv_has ls 5 [(0, .ref (d 0)), (1, .int u), (2, .int v)] := hl
  have hf9 := hts (.fieldLink RX4 9 "PaddyTerracesModel" "n" "[I") (by decide +kernel)
  have hf13 := hts (.fieldLink RX4 13 "PaddyTerracesModel" "shares" "[I") (by decide +kernel)
  have hf16 := hts (.fieldLink RX4 16 "PaddyTerracesModel" "fields" "[I") (by decide +kernel)
  have hac := hts (.arrayClass .int) (by decide +kernel)
  have hi_Sys := hts (.initialized "java/lang/System") (by decide +kernel)
  have hm32 := hts (.methodLink RX4 32 arraycopyName) (by decide +kernel)
  have hn_acp := hts (.native arraycopyName) (by decide +kernel)
  have hs_acp := hts (.static arraycopyName) (by decide +kernel)
  have hinX4 : ∀ w ∈ wsX40, w ∈ wsX4_clear := by decide +kernel
  have hS0 := hS
  refine lv_iconst (v := 0) hx hb dX4_clear_0 (by decide) ?_
  refine lv_istore_n (lv' := [(3, .int 0), (0, .ref (d 0)), (1, .int u), (2, .int v)]) hx hb dX4_clear_1 rfl hl (by decide) rfl (fun ls hl => ?_)
  have lp2 : ∀ (n2 i2 : Nat) (T2_0 : sS) (H : Heap) (locs : List Loc) (ls : Array Slot), i2 + n2 = 7 → T2_0 = itr (fun i T => s_put T 1 i.toNatClampNeg 0) i2 O → va_P (dC, dI) vwCl (mW cI d T2_0) H → va_D A (mW cI d T2_0) → va_S A s.heap H locs → lv_has ls 5 [(0, .ref (d 0)), (1, .int u), (2, .int v), (3, .int (nI i2))] → W p l e ({ frames := 1, cells := 1, slots := 12, locals := 60 } : Room) s m [.ref (d 0), .int u, .int v].toArray below meth c H locs 0 0 (zVq (dC, dI) A (mW cI d (mclr O u v)) below [.ref (d 0), .int u, .int v].toArray s 1 12) (F0 m 2 ls []) := by
    intro n2
    induction n2 with
    | zero =>
      intro i2 T2_0 H locs ls hi2 eT2_0 hP hD hS hl
      have hi2 : i2 = 7 := by omega
      rw [hi2] at eT2_0
      refine lv_iload_n hx hb dX4_clear_2 rfl (lv_at hl 3 rfl) ?_
      refine lv_bipush (v := 7) hx hb dX4_clear_3 (by decide) ?_
      refine lv_icmp_ge (tgt := 21) hx hb dX4_clear_5 (by decide) (fun c_1 => ?_) (fun c_1 => ?_)
      · refine lv_aload_n hx hb dX4_clear_21 rfl (lv_at hl 0 rfl) ?_
        refine va_get (D := (dC, dI)) (ci := 4) (v := .ref (d 1)) (C := RX4) (T := TX4) (N := 7) hx hb hts hinX4 hown hK hP 0 rfl rfl 1 (by decide) hf9 (fun _ h9 => h9) rfl dX4_clear_22 ?_
        refine lv_iconst (v := 0) hx hb dX4_clear_25 (by decide) ?_
        refine lv_iload_n hx hb dX4_clear_26 rfl (lv_at hl 1 rfl) ?_
        obtain ⟨S2, eS2⟩ : ∃ z : sS, z = s_put T2_0 1 0 u := ⟨_, rfl⟩
        refine va_iastk 0 (cA := cI) (n := 7) (f := T2_0 1) hx hb hK hP hD hS 1 0 rfl rfl rfl (by decide) (by decide) dX4_clear_27 (fun H locs hP hD hS => ?_)
        have hP : va_P (dC, dI) vwCl (mW cI d S2) H := by rw [eS2]; exact hP
        have hD : va_D A (mW cI d S2) := by rw [eS2]; exact hD
        refine lv_aload_n hx hb dX4_clear_28 rfl (lv_at hl 0 rfl) ?_
        refine va_get (D := (dC, dI)) (ci := 4) (v := .ref (d 1)) (C := RX4) (T := TX4) (N := 7) hx hb hts hinX4 hown hK hP 0 rfl rfl 1 (by decide) hf9 (fun _ h9 => h9) rfl dX4_clear_29 ?_
        refine lv_iconst (v := 1) hx hb dX4_clear_32 (by decide) ?_
        refine lv_iload_n hx hb dX4_clear_33 rfl (lv_at hl 2 rfl) ?_
        obtain ⟨S3, eS3⟩ : ∃ z : sS, z = s_put S2 1 1 v := ⟨_, rfl⟩
        refine va_iastk 1 (cA := cI) (n := 7) (f := S2 1) hx hb hK hP hD hS 1 0 rfl rfl rfl (by decide) (by decide) dX4_clear_34 (fun H locs hP hD hS => ?_)
        have hP : va_P (dC, dI) vwCl (mW cI d S3) H := by rw [eS3]; exact hP
        have hD : va_D A (mW cI d S3) := by rw [eS3]; exact hD
        refine lv_iconst (v := 0) hx hb dX4_clear_35 (by decide) ?_
        refine lv_istore_n (lv' := [(3, .int 0), (0, .ref (d 0)), (1, .int u), (2, .int v)]) hx hb dX4_clear_36 rfl hl (by decide) rfl (fun ls hl => ?_)
        have lp37 : ∀ (n37 i37 : Nat) (T37_0 : sS) (H : Heap) (locs : List Loc) (ls : Array Slot), i37 + n37 = 8 → T37_0 = itr (fun i T => s_put T 2 i.toNatClampNeg 1) i37 S3 → va_P (dC, dI) vwCl (mW cI d T37_0) H → va_D A (mW cI d T37_0) → va_S A s.heap H locs → lv_has ls 5 [(0, .ref (d 0)), (1, .int u), (2, .int v), (3, .int (nI i37))] → W p l e ({ frames := 1, cells := 1, slots := 12, locals := 60 } : Room) s m [.ref (d 0), .int u, .int v].toArray below meth c H locs 0 0 (zVq (dC, dI) A (mW cI d (mclr O u v)) below [.ref (d 0), .int u, .int v].toArray s 1 12) (F0 m 37 ls []) := by
          intro n37
          induction n37 with
          | zero =>
            intro i37 T37_0 H locs ls hi37 eT37_0 hP hD hS hl
            have hi37 : i37 = 8 := by omega
            rw [hi37] at eT37_0
            refine lv_iload_n hx hb dX4_clear_37 rfl (lv_at hl 3 rfl) ?_
            refine lv_bipush (v := 8) hx hb dX4_clear_38 (by decide) ?_
            refine lv_icmp_ge (tgt := 56) hx hb dX4_clear_40 (by decide) (fun c_4 => ?_) (fun c_4 => ?_)
            · refine lv_bipush (v := 12) hx hb dX4_clear_56 (by decide) ?_
              refine va_newa (atype := .int) (ty := .int) (n := 12) (N' := 12) (a0 := (12, .inl (fun _ => 0))) hx hb hac rfl hK hP hD hS hA (fun cA => rfl) (by decide) rfl (Nat.le_of_ble_eq_true rfl) (Nat.le_of_ble_eq_true rfl) (Nat.le_of_ble_eq_true rfl) dX4_clear_58 (fun q5 cA6 H hK9 hP hD hS => ?_)
              obtain rfl : cI = cA6 := (z_cI hK9).symm
              have hP : va_P (dC, dI) vwCl (mW cI d T37_0 ++ ([(q5, .inl (cI, 12, .inl (fun _ => 0)))] : va_W)) H := hP
              have hD : va_D A (mW cI d T37_0 ++ ([(q5, .inl (cI, 12, .inl (fun _ => 0)))] : va_W)) := hD
              refine lv_dup hx hb dX4_clear_60 rfl ?_
              refine lv_iconst (v := 0) hx hb dX4_clear_61 (by decide) ?_
              refine lv_iconst (v := 0) hx hb dX4_clear_62 (by decide) ?_
              refine va_iastk 0 (cA := cI) (n := 12) (f := (fun _ => 0)) hx hb hK hP hD hS 7 0 rfl rfl rfl (by decide) (by decide) dX4_clear_63 (fun H locs hP hD hS => ?_)
              have hP : va_P (dC, dI) vwCl (mW cI d T37_0 ++ ([(q5, .inl (cI, 12, .inl (upd (fun _ => 0) 0 0)))] : va_W)) H := hP
              have hD : va_D A (mW cI d T37_0 ++ ([(q5, .inl (cI, 12, .inl (upd (fun _ => 0) 0 0)))] : va_W)) := hD
              refine lv_dup hx hb dX4_clear_64 rfl ?_
              refine lv_iconst (v := 1) hx hb dX4_clear_65 (by decide) ?_
              refine lv_bipush (v := 60) hx hb dX4_clear_66 (by decide) ?_
              refine va_iastk 1 (cA := cI) (n := 12) (f := (upd (fun _ => 0) 0 0)) hx hb hK hP hD hS 7 0 rfl rfl rfl (by decide) (by decide) dX4_clear_68 (fun H locs hP hD hS => ?_)
              have hP : va_P (dC, dI) vwCl (mW cI d T37_0 ++ ([(q5, .inl (cI, 12, .inl (upd (upd (fun _ => 0) 0 0) 1 60)))] : va_W)) H := hP
              have hD : va_D A (mW cI d T37_0 ++ ([(q5, .inl (cI, 12, .inl (upd (upd (fun _ => 0) 0 0) 1 60)))] : va_W)) := hD
              refine lv_dup hx hb dX4_clear_69 rfl ?_
              refine lv_iconst (v := 2) hx hb dX4_clear_70 (by decide) ?_
              refine lv_iconst (v := 2) hx hb dX4_clear_71 (by decide) ?_
              refine va_iastk 2 (cA := cI) (n := 12) (f := (upd (upd (fun _ => 0) 0 0) 1 60)) hx hb hK hP hD hS 7 0 rfl rfl rfl (by decide) (by decide) dX4_clear_72 (fun H locs hP hD hS => ?_)
              have hP : va_P (dC, dI) vwCl (mW cI d T37_0 ++ ([(q5, .inl (cI, 12, .inl (upd (upd (upd (fun _ => 0) 0 0) 1 60) 2 2)))] : va_W)) H := hP
              have hD : va_D A (mW cI d T37_0 ++ ([(q5, .inl (cI, 12, .inl (upd (upd (upd (fun _ => 0) 0 0) 1 60) 2 2)))] : va_W)) := hD
              refine lv_dup hx hb dX4_clear_73 rfl ?_
              refine lv_iconst (v := 3) hx hb dX4_clear_74 (by decide) ?_
              refine lv_bipush (v := 30) hx hb dX4_clear_75 (by decide) ?_
              refine va_iastk 3 (cA := cI) (n := 12) (f := (upd (upd (upd (fun _ => 0) 0 0) 1 60) 2 2)) hx hb hK hP hD hS 7 0 rfl rfl rfl (by decide) (by decide) dX4_clear_77 (fun H locs hP hD hS => ?_)
              have hP : va_P (dC, dI) vwCl (mW cI d T37_0 ++ ([(q5, .inl (cI, 12, .inl (upd (upd (upd (upd (fun _ => 0) 0 0) 1 60) 2 2) 3 30)))] : va_W)) H := hP
              have hD : va_D A (mW cI d T37_0 ++ ([(q5, .inl (cI, 12, .inl (upd (upd (upd (upd (fun _ => 0) 0 0) 1 60) 2 2) 3 30)))] : va_W)) := hD
              refine lv_dup hx hb dX4_clear_78 rfl ?_
              refine lv_iconst (v := 4) hx hb dX4_clear_79 (by decide) ?_
              refine lv_iconst (v := 0) hx hb dX4_clear_80 (by decide) ?_
              refine va_iastk 4 (cA := cI) (n := 12) (f := (upd (upd (upd (upd (fun _ => 0) 0 0) 1 60) 2 2) 3 30)) hx hb hK hP hD hS 7 0 rfl rfl rfl (by decide) (by decide) dX4_clear_81 (fun H locs hP hD hS => ?_)
              have hP : va_P (dC, dI) vwCl (mW cI d T37_0 ++ ([(q5, .inl (cI, 12, .inl (upd (upd (upd (upd (upd (fun _ => 0) 0 0) 1 60) 2 2) 3 30) 4 0)))] : va_W)) H := hP
              have hD : va_D A (mW cI d T37_0 ++ ([(q5, .inl (cI, 12, .inl (upd (upd (upd (upd (upd (fun _ => 0) 0 0) 1 60) 2 2) 3 30) 4 0)))] : va_W)) := hD
              refine lv_dup hx hb dX4_clear_82 rfl ?_
              refine lv_iconst (v := 5) hx hb dX4_clear_83 (by decide) ?_
              refine lv_iconst (v := 0) hx hb dX4_clear_84 (by decide) ?_
              refine va_iastk 5 (cA := cI) (n := 12) (f := (upd (upd (upd (upd (upd (fun _ => 0) 0 0) 1 60) 2 2) 3 30) 4 0)) hx hb hK hP hD hS 7 0 rfl rfl rfl (by decide) (by decide) dX4_clear_85 (fun H locs hP hD hS => ?_)
              have hP : va_P (dC, dI) vwCl (mW cI d T37_0 ++ ([(q5, .inl (cI, 12, .inl (upd (upd (upd (upd (upd (upd (fun _ => 0) 0 0) 1 60) 2 2) 3 30) 4 0) 5 0)))] : va_W)) H := hP
              have hD : va_D A (mW cI d T37_0 ++ ([(q5, .inl (cI, 12, .inl (upd (upd (upd (upd (upd (upd (fun _ => 0) 0 0) 1 60) 2 2) 3 30) 4 0) 5 0)))] : va_W)) := hD
              refine lv_dup hx hb dX4_clear_86 rfl ?_
              refine lv_bipush (v := 6) hx hb dX4_clear_87 (by decide) ?_
              refine lv_iconst (v := 0) hx hb dX4_clear_89 (by decide) ?_
              refine va_iastk 6 (cA := cI) (n := 12) (f := (upd (upd (upd (upd (upd (upd (fun _ => 0) 0 0) 1 60) 2 2) 3 30) 4 0) 5 0)) hx hb hK hP hD hS 7 0 rfl rfl rfl (by decide) (by decide) dX4_clear_90 (fun H locs hP hD hS => ?_)
              have hP : va_P (dC, dI) vwCl (mW cI d T37_0 ++ ([(q5, .inl (cI, 12, .inl (upd (upd (upd (upd (upd (upd (upd (fun _ => 0) 0 0) 1 60) 2 2) 3 30) 4 0) 5 0) 6 0)))] : va_W)) H := hP
              have hD : va_D A (mW cI d T37_0 ++ ([(q5, .inl (cI, 12, .inl (upd (upd (upd (upd (upd (upd (upd (fun _ => 0) 0 0) 1 60) 2 2) 3 30) 4 0) 5 0) 6 0)))] : va_W)) := hD
              refine lv_dup hx hb dX4_clear_91 rfl ?_
              refine lv_bipush (v := 7) hx hb dX4_clear_92 (by decide) ?_
              refine lv_iconst (v := 0) hx hb dX4_clear_94 (by decide) ?_
              refine va_iastk 7 (cA := cI) (n := 12) (f := (upd (upd (upd (upd (upd (upd (upd (fun _ => 0) 0 0) 1 60) 2 2) 3 30) 4 0) 5 0) 6 0)) hx hb hK hP hD hS 7 0 rfl rfl rfl (by decide) (by decide) dX4_clear_95 (fun H locs hP hD hS => ?_)
              have hP : va_P (dC, dI) vwCl (mW cI d T37_0 ++ ([(q5, .inl (cI, 12, .inl (upd (upd (upd (upd (upd (upd (upd (upd (fun _ => 0) 0 0) 1 60) 2 2) 3 30) 4 0) 5 0) 6 0) 7 0)))] : va_W)) H := hP
              have hD : va_D A (mW cI d T37_0 ++ ([(q5, .inl (cI, 12, .inl (upd (upd (upd (upd (upd (upd (upd (upd (fun _ => 0) 0 0) 1 60) 2 2) 3 30) 4 0) 5 0) 6 0) 7 0)))] : va_W)) := hD
              refine lv_dup hx hb dX4_clear_96 rfl ?_
              refine lv_bipush (v := 8) hx hb dX4_clear_97 (by decide) ?_
              refine lv_iconst (v := 0) hx hb dX4_clear_99 (by decide) ?_
              refine va_iastk 8 (cA := cI) (n := 12) (f := (upd (upd (upd (upd (upd (upd (upd (upd (fun _ => 0) 0 0) 1 60) 2 2) 3 30) 4 0) 5 0) 6 0) 7 0)) hx hb hK hP hD hS 7 0 rfl rfl rfl (by decide) (by decide) dX4_clear_100 (fun H locs hP hD hS => ?_)
              have hP : va_P (dC, dI) vwCl (mW cI d T37_0 ++ ([(q5, .inl (cI, 12, .inl (upd (upd (upd (upd (upd (upd (upd (upd (upd (fun _ => 0) 0 0) 1 60) 2 2) 3 30) 4 0) 5 0) 6 0) 7 0) 8 0)))] : va_W)) H := hP
              have hD : va_D A (mW cI d T37_0 ++ ([(q5, .inl (cI, 12, .inl (upd (upd (upd (upd (upd (upd (upd (upd (upd (fun _ => 0) 0 0) 1 60) 2 2) 3 30) 4 0) 5 0) 6 0) 7 0) 8 0)))] : va_W)) := hD
              refine lv_dup hx hb dX4_clear_101 rfl ?_
              refine lv_bipush (v := 9) hx hb dX4_clear_102 (by decide) ?_
              refine lv_iconst (v := 0) hx hb dX4_clear_104 (by decide) ?_
              refine va_iastk 9 (cA := cI) (n := 12) (f := (upd (upd (upd (upd (upd (upd (upd (upd (upd (fun _ => 0) 0 0) 1 60) 2 2) 3 30) 4 0) 5 0) 6 0) 7 0) 8 0)) hx hb hK hP hD hS 7 0 rfl rfl rfl (by decide) (by decide) dX4_clear_105 (fun H locs hP hD hS => ?_)
              have hP : va_P (dC, dI) vwCl (mW cI d T37_0 ++ ([(q5, .inl (cI, 12, .inl (upd (upd (upd (upd (upd (upd (upd (upd (upd (upd (fun _ => 0) 0 0) 1 60) 2 2) 3 30) 4 0) 5 0) 6 0) 7 0) 8 0) 9 0)))] : va_W)) H := hP
              have hD : va_D A (mW cI d T37_0 ++ ([(q5, .inl (cI, 12, .inl (upd (upd (upd (upd (upd (upd (upd (upd (upd (upd (fun _ => 0) 0 0) 1 60) 2 2) 3 30) 4 0) 5 0) 6 0) 7 0) 8 0) 9 0)))] : va_W)) := hD
              refine lv_dup hx hb dX4_clear_106 rfl ?_
              refine lv_bipush (v := 10) hx hb dX4_clear_107 (by decide) ?_
              refine lv_iconst (v := 0) hx hb dX4_clear_109 (by decide) ?_
              refine va_iastk 10 (cA := cI) (n := 12) (f := (upd (upd (upd (upd (upd (upd (upd (upd (upd (upd (fun _ => 0) 0 0) 1 60) 2 2) 3 30) 4 0) 5 0) 6 0) 7 0) 8 0) 9 0)) hx hb hK hP hD hS 7 0 rfl rfl rfl (by decide) (by decide) dX4_clear_110 (fun H locs hP hD hS => ?_)
              have hP : va_P (dC, dI) vwCl (mW cI d T37_0 ++ ([(q5, .inl (cI, 12, .inl (upd (upd (upd (upd (upd (upd (upd (upd (upd (upd (upd (fun _ => 0) 0 0) 1 60) 2 2) 3 30) 4 0) 5 0) 6 0) 7 0) 8 0) 9 0) 10 0)))] : va_W)) H := hP
              have hD : va_D A (mW cI d T37_0 ++ ([(q5, .inl (cI, 12, .inl (upd (upd (upd (upd (upd (upd (upd (upd (upd (upd (upd (fun _ => 0) 0 0) 1 60) 2 2) 3 30) 4 0) 5 0) 6 0) 7 0) 8 0) 9 0) 10 0)))] : va_W)) := hD
              refine lv_dup hx hb dX4_clear_111 rfl ?_
              refine lv_bipush (v := 11) hx hb dX4_clear_112 (by decide) ?_
              refine lv_iconst (v := 0) hx hb dX4_clear_114 (by decide) ?_
              refine va_iastk 11 (cA := cI) (n := 12) (f := (upd (upd (upd (upd (upd (upd (upd (upd (upd (upd (upd (fun _ => 0) 0 0) 1 60) 2 2) 3 30) 4 0) 5 0) 6 0) 7 0) 8 0) 9 0) 10 0)) hx hb hK hP hD hS 7 0 rfl rfl rfl (by decide) (by decide) dX4_clear_115 (fun H locs hP hD hS => ?_)
              have hP : va_P (dC, dI) vwCl (mW cI d T37_0 ++ ([(q5, .inl (cI, 12, .inl (upd (upd (upd (upd (upd (upd (upd (upd (upd (upd (upd (upd (fun _ => 0) 0 0) 1 60) 2 2) 3 30) 4 0) 5 0) 6 0) 7 0) 8 0) 9 0) 10 0) 11 0)))] : va_W)) H := hP
              have hD : va_D A (mW cI d T37_0 ++ ([(q5, .inl (cI, 12, .inl (upd (upd (upd (upd (upd (upd (upd (upd (upd (upd (upd (upd (fun _ => 0) 0 0) 1 60) 2 2) 3 30) 4 0) 5 0) 6 0) 7 0) 8 0) 9 0) 10 0) 11 0)))] : va_W)) := hD
              refine lv_astore_n (lv' := [(3, .ref q5), (0, .ref (d 0)), (1, .int u), (2, .int v)]) hx hb dX4_clear_116 rfl hl (by decide) rfl (fun ls hl => ?_)
              refine lv_iconst (v := 0) hx hb dX4_clear_117 (by decide) ?_
              refine lv_istore (lv' := [(4, .int 0), (3, .ref q5), (0, .ref (d 0)), (1, .int u), (2, .int v)]) hx hb dX4_clear_118 hl (by decide) rfl (fun ls hl => ?_)
              have lp120 : ∀ (n120 i120 : Nat) (T120_0 : sS) (H : Heap) (locs : List Loc) (ls : Array Slot), i120 + n120 = 64 → T120_0 = itr (fun i T => s_row T 3 (va_cpy m12 (T 3) (0 : Int32).toNatClampNeg (12 * i).toNatClampNeg (12 : Int32).toNatClampNeg)) i120 T37_0 → va_P (dC, dI) vwCl (mW cI d T120_0 ++ ([(q5, .inl (cI, 12, .inl (upd (upd (upd (upd (upd (upd (upd (upd (upd (upd (upd (upd (fun _ => 0) 0 0) 1 60) 2 2) 3 30) 4 0) 5 0) 6 0) 7 0) 8 0) 9 0) 10 0) 11 0)))] : va_W)) H → va_D A (mW cI d T120_0 ++ ([(q5, .inl (cI, 12, .inl (upd (upd (upd (upd (upd (upd (upd (upd (upd (upd (upd (upd (fun _ => 0) 0 0) 1 60) 2 2) 3 30) 4 0) 5 0) 6 0) 7 0) 8 0) 9 0) 10 0) 11 0)))] : va_W)) → va_S A s.heap H locs → lv_has ls 5 [(0, .ref (d 0)), (1, .int u), (2, .int v), (3, .ref q5), (4, .int (nI i120))] → W p l e ({ frames := 1, cells := 1, slots := 12, locals := 60 } : Room) s m [.ref (d 0), .int u, .int v].toArray below meth c H locs 1 12 (zVq (dC, dI) A (mW cI d (mclr O u v)) below [.ref (d 0), .int u, .int v].toArray s 1 12) (F0 m 120 ls []) := by
                intro n120
                induction n120 with
                | zero =>
                  intro i120 T120_0 H locs ls hi120 eT120_0 hP hD hS hl
                  have hi120 : i120 = 64 := by omega
                  rw [hi120] at eT120_0
                  refine lv_iload hx hb dX4_clear_120 (lv_at hl 4 rfl) ?_
                  refine lv_bipush (v := 64) hx hb dX4_clear_122 (by decide) ?_
                  refine lv_icmp_ge (tgt := 149) hx hb dX4_clear_124 (by decide) (fun c_7 => ?_) (fun c_7 => ?_)
                  · have hP : va_P (dC, dI) vwCl (mW cI d T120_0) _ := hP.sub (ws' := mW cI d T120_0) [0, 1, 2, 3, 4, 5, 6] rfl
                    have hD : va_D A (mW cI d T120_0) := hD.sub (ws' := mW cI d T120_0) [0, 1, 2, 3, 4, 5, 6] (by decide +kernel) rfl
                    have hZ : T120_0 = mclr O u v := (by (try rw [eT120_0]); (try rw [eT37_0]); (try rw [eS3]); (try rw [eS2]); (try rw [eT2_0]); first | done | rfl | (simp only [mclr, mcl_2, mcl_1, if_pos c_1, if_pos c_4, if_pos c_7]; done) | (unfold mclr; simp only [if_pos c_1, if_pos c_4, if_pos c_7]; done))
                    rw [hZ] at hP hD
                    exact zW_ret hx hb hr hlocks hP hD hS dX4_clear_149 (Nat.le_of_ble_eq_true rfl) (Nat.le_of_ble_eq_true rfl)
                  · exact absurd (show nI (64) ≤ nI i120 from nI_le (by omega) (by omega)) c_7
                | succ n120 ih120 =>
                  intro i120 T120_0 H locs ls hi120 eT120_0 hP hD hS hl
                  refine lv_iload hx hb dX4_clear_120 (lv_at hl 4 rfl) ?_
                  refine lv_bipush (v := 64) hx hb dX4_clear_122 (by decide) ?_
                  refine lv_icmp_ge (tgt := 149) hx hb dX4_clear_124 (by decide) (fun c_8 => ?_) (fun c_8 => ?_)
                  · exact absurd c_8 (show ¬ nI (64) ≤ nI i120 from nI_ge (by omega) (by omega))
                  · refine lv_aload_n hx hb dX4_clear_127 rfl (lv_at hl 3 rfl) ?_
                    refine lv_iconst (v := 0) hx hb dX4_clear_128 (by decide) ?_
                    refine lv_aload_n hx hb dX4_clear_129 rfl (lv_at hl 0 rfl) ?_
                    refine va_get (D := (dC, dI)) (ci := 4) (v := .ref (d 3)) (C := RX4) (T := TX4) (N := 7) hx hb hts hinX4 hown hK hP 0 rfl rfl 3 (by decide) hf16 (fun _ h9 => h9) rfl dX4_clear_130 ?_
                    refine lv_bipush (v := 12) hx hb dX4_clear_133 (by decide) ?_
                    refine lv_iload hx hb dX4_clear_135 (lv_at hl 4 rfl) ?_
                    refine lv_imul hx hb dX4_clear_137 ?_
                    refine lv_bipush (v := 12) hx hb dX4_clear_138 (by decide) ?_
                    obtain ⟨S9, eS9⟩ : ∃ z : sS, z = s_row T120_0 3 (va_cpy ((upd (upd (upd (upd (upd (upd (upd (upd (upd (upd (upd (upd (fun _ => 0) 0 0) 1 60) 2 2) 3 30) 4 0) 5 0) 6 0) 7 0) 8 0) 9 0) 10 0) 11 0)) (T120_0 3) (0 : Int32).toNatClampNeg (12 * (nI i120)).toNatClampNeg (12 : Int32).toNatClampNeg) := ⟨_, rfl⟩
                    refine va_copyi (c0 := cI) (c1 := cI) (n0 := 12) (n1 := 768) (f := (upd (upd (upd (upd (upd (upd (upd (upd (upd (upd (upd (upd (fun _ => 0) 0 0) 1 60) 2 2) 3 30) 4 0) 5 0) 6 0) 7 0) 8 0) 9 0) 10 0) 11 0)) (g := T120_0 3) (ty := .int) (sp := 0) (dp := 12 * (nI i120)) (n := 12) hx hb (hml.trans hl.1.symm) hown hm32 hn_acp hs_acp hi_Sys hK hP hD hS 7 3 0 0 rfl rfl rfl rfl rfl (by decide) (ck_a (by omega)) (by decide) (by decide) (ck_b (by omega)) (fun _ _ => rfl) (Nat.le_of_ble_eq_true rfl) (Nat.le_of_ble_eq_true rfl) dX4_clear_140 (fun H locs hP hD hS => ?_)
                    have hP : va_P (dC, dI) vwCl (mW cI d S9 ++ ([(q5, .inl (cI, 12, .inl (upd (upd (upd (upd (upd (upd (upd (upd (upd (upd (upd (upd (fun _ => 0) 0 0) 1 60) 2 2) 3 30) 4 0) 5 0) 6 0) 7 0) 8 0) 9 0) 10 0) 11 0)))] : va_W)) H := by rw [eS9]; exact hP
                    have hD : va_D A (mW cI d S9 ++ ([(q5, .inl (cI, 12, .inl (upd (upd (upd (upd (upd (upd (upd (upd (upd (upd (upd (upd (fun _ => 0) 0 0) 1 60) 2 2) 3 30) 4 0) 5 0) 6 0) 7 0) 8 0) 9 0) 10 0) 11 0)))] : va_W)) := by rw [eS9]; exact hD
                    refine lv_iinc (v := nI (i120 + 1)) (lv' := [(4, .int (nI (i120 + 1))), (0, .ref (d 0)), (1, .int u), (2, .int v), (3, .ref q5)]) hx hb dX4_clear_143 hl (k := 4) rfl (show nI i120 + Int32.ofInt 1 = nI (i120 + 1) from nI_1 i120) (by decide) rfl (fun ls hl => ?_)
                    refine lv_goto (tgt := 120) hx hb dX4_clear_146 (by decide) ?_
                    exact ih120 (i120 + 1) S9 _ _ ls (by omega) (by (try rw [eS9]); (try rw [eT120_0]); rfl) hP hD hS (lv_sub hl [1, 2, 3, 4, 0] rfl)
              exact lp120 (64) 0 T37_0 _ _ ls (by omega) rfl hP hD hS (lv_sub hl [2, 3, 4, 1, 0] rfl)
            · exact absurd (show nI (8) ≤ nI i37 from nI_le (by omega) (by omega)) c_4
          | succ n37 ih37 =>
            intro i37 T37_0 H locs ls hi37 eT37_0 hP hD hS hl
            refine lv_iload_n hx hb dX4_clear_37 rfl (lv_at hl 3 rfl) ?_
            refine lv_bipush (v := 8) hx hb dX4_clear_38 (by decide) ?_
            refine lv_icmp_ge (tgt := 56) hx hb dX4_clear_40 (by decide) (fun c_10 => ?_) (fun c_10 => ?_)
            · exact absurd c_10 (show ¬ nI (8) ≤ nI i37 from nI_ge (by omega) (by omega))
            · refine lv_aload_n hx hb dX4_clear_43 rfl (lv_at hl 0 rfl) ?_
              refine va_get (D := (dC, dI)) (ci := 4) (v := .ref (d 2)) (C := RX4) (T := TX4) (N := 7) hx hb hts hinX4 hown hK hP 0 rfl rfl 2 (by decide) hf13 (fun _ h9 => h9) rfl dX4_clear_44 ?_
              refine lv_iload_n hx hb dX4_clear_47 rfl (lv_at hl 3 rfl) ?_
              refine lv_iconst (v := 1) hx hb dX4_clear_48 (by decide) ?_
              obtain ⟨S11, eS11⟩ : ∃ z : sS, z = s_put T37_0 2 ((nI i37).toNatClampNeg) 1 := ⟨_, rfl⟩
              refine va_iast (cA := cI) (n := 8) (f := T37_0 2) hx hb hK hP hD hS 2 0 rfl rfl (vp_in_nI (by omega) (by decide)) dX4_clear_49 (fun H locs hP hD hS => ?_)
              have hP : va_P (dC, dI) vwCl (mW cI d S11) H := by rw [eS11]; exact hP
              have hD : va_D A (mW cI d S11) := by rw [eS11]; exact hD
              refine lv_iinc (v := nI (i37 + 1)) (lv' := [(3, .int (nI (i37 + 1))), (0, .ref (d 0)), (1, .int u), (2, .int v)]) hx hb dX4_clear_50 hl (k := 3) rfl (show nI i37 + Int32.ofInt 1 = nI (i37 + 1) from nI_1 i37) (by decide) rfl (fun ls hl => ?_)
              refine lv_goto (tgt := 37) hx hb dX4_clear_53 (by decide) ?_
              exact ih37 (i37 + 1) S11 _ _ ls (by omega) (by (try rw [eS11]); (try rw [eT37_0]); rfl) hP hD hS (lv_sub hl [1, 2, 3, 0] rfl)
        exact lp37 (8) 0 S3 _ _ ls (by omega) rfl hP hD hS (lv_sub hl [1, 2, 3, 0] rfl)
      · exact absurd (show nI (7) ≤ nI i2 from nI_le (by omega) (by omega)) c_1
    | succ n2 ih2 =>
      intro i2 T2_0 H locs ls hi2 eT2_0 hP hD hS hl
      refine lv_iload_n hx hb dX4_clear_2 rfl (lv_at hl 3 rfl) ?_
      refine lv_bipush (v := 7) hx hb dX4_clear_3 (by decide) ?_
      refine lv_icmp_ge (tgt := 21) hx hb dX4_clear_5 (by decide) (fun c_12 => ?_) (fun c_12 => ?_)
      · exact absurd c_12 (show ¬ nI (7) ≤ nI i2 from nI_ge (by omega) (by omega))
      · refine lv_aload_n hx hb dX4_clear_8 rfl (lv_at hl 0 rfl) ?_
        refine va_get (D := (dC, dI)) (ci := 4) (v := .ref (d 1)) (C := RX4) (T := TX4) (N := 7) hx hb hts hinX4 hown hK hP 0 rfl rfl 1 (by decide) hf9 (fun _ h9 => h9) rfl dX4_clear_9 ?_
        refine lv_iload_n hx hb dX4_clear_12 rfl (lv_at hl 3 rfl) ?_
        refine lv_iconst (v := 0) hx hb dX4_clear_13 (by decide) ?_
        obtain ⟨S13, eS13⟩ : ∃ z : sS, z = s_put T2_0 1 ((nI i2).toNatClampNeg) 0 := ⟨_, rfl⟩
        refine va_iast (cA := cI) (n := 7) (f := T2_0 1) hx hb hK hP hD hS 1 0 rfl rfl (vp_in_nI (by omega) (by decide)) dX4_clear_14 (fun H locs hP hD hS => ?_)
        have hP : va_P (dC, dI) vwCl (mW cI d S13) H := by rw [eS13]; exact hP
        have hD : va_D A (mW cI d S13) := by rw [eS13]; exact hD
        refine lv_iinc (v := nI (i2 + 1)) (lv' := [(3, .int (nI (i2 + 1))), (0, .ref (d 0)), (1, .int u), (2, .int v)]) hx hb dX4_clear_15 hl (k := 3) rfl (show nI i2 + Int32.ofInt 1 = nI (i2 + 1) from nI_1 i2) (by decide) rfl (fun ls hl => ?_)
        refine lv_goto (tgt := 2) hx hb dX4_clear_18 (by decide) ?_
        exact ih2 (i2 + 1) S13 _ _ ls (by omega) (by (try rw [eS13]); (try rw [eT2_0]); rfl) hP hD hS (lv_sub hl [1, 2, 3, 0] rfl)
  exact lp2 (7) 0 O _ _ ls (by omega) rfl hP hD hS (lv_sub hl [1, 2, 3, 0] rfl)
set_option maxHeartbeats 4000000 in
set_option maxRecDepth 100000 in
theorem c_X4_lay (l : Launch) (dC : Nat → ClassId) (dI : Nat → Nat → Nat) (cI : ClassId) (d : Nat → Nat) (O : sS) (u v : Int32) : zJ l yX4_lay wsX4_lay { frames := 2, cells := 1, slots := 12, locals := 84 } (dC, dI) cI [.ref (d 0), .int u, .int v] (mW cI d O) (mW cI d (mlay_S (s_put O 0 0 0) u v)) (mlay_V u v) 1 12 := by
  refine zJ_of (cc := cX4_lay) (maxL := 3) (ret := (some .int)) (by decide) rfl (Nat.le_of_ble_eq_true rfl) ?_
  intro p e s m below meth c A ls C0 hl
  obtain ⟨hx, hb, hr, hml, hown, hts, hlocks, hK, hN, hA, hP, hD, hS⟩ := C0
  have hown : s.vm.findClass RX4 = some m.cls := hown
  have hl : lv_has ls 3 [(0, .ref (d 0)), (1, .int u), (2, .int v)] := hl
  have hf38 := hts (.fieldLink RX4 38 "PaddyTerracesModel" "thrown" "I") (by decide +kernel)
  have hinX4 : ∀ w ∈ wsX40, w ∈ wsX4_lay := by decide +kernel
  have hS0 := hS
  refine lv_aload_n hx hb dX4_lay_0 rfl (lv_at hl 0 rfl) ?_
  refine lv_iconst (v := 0) hx hb dX4_lay_1 (by decide) ?_
  refine va_put (D := (dC, dI)) (ci := 4) (v := .int 0) (ty := .int) (C := RX4) (T := TX4) (N := 7) hx hb hts hinX4 tyX4 tyX4_ok nmX4 hown hK hP hD hS 0 rfl rfl 0 (by decide) hf38 (fun _ h9 => h9) rfl (by decide +kernel) rfl rfl (Nat.le_of_ble_eq_true rfl) dX4_lay_2 (fun H locs hP hD hS => ?_)
  have hP : va_P (dC, dI) vwCl (mW cI d (s_put O 0 0 0)) H := hP
  have hD : va_D A (mW cI d (s_put O 0 0 0)) := hD
  refine lv_iload_n hx hb dX4_lay_5 rfl (lv_at hl 1 rfl) ?_
  refine lv_iconst (v := 2) hx hb dX4_lay_6 (by decide) ?_
  refine lv_bipush (v := 8) hx hb dX4_lay_7 (by decide) ?_
  refine zI_S (pre := (mW cI d (s_put O 0 0 0))) (wc := ([] : va_W)) (post := ([] : va_W)) (w1 := ([] : va_W)) ⟨hx, hb, hml, hown, hts⟩ (c_X4_isIn l dC dI cI u 2 8) (va_cwS 3 hts gX4_lay_X4_isIn rfl rfl rfl (by decide +kernel) ⟨Nat.le_of_ble_eq_true rfl, Nat.le_of_ble_eq_true rfl⟩) (by simp only [List.append_assoc, List.append_nil, List.nil_append]) hK hN hP hD hS hA rfl hl.1 rfl (Nat.le_of_ble_eq_true rfl) dX4_lay_9 ⟨Nat.le_of_ble_eq_true rfl, Nat.le_of_ble_eq_true rfl⟩ (fun H locs hP hD hS => ?_)
  have hP : va_P (dC, dI) vwCl (mW cI d (s_put O 0 0 0)) H := by simpa only [List.append_assoc, List.append_nil, List.nil_append] using hP
  have hD : va_D A (mW cI d (s_put O 0 0 0)) := by simpa only [List.append_assoc, List.append_nil, List.nil_append] using hD
  refine lv_if_eq (tgt := 25) hx hb dX4_lay_12 (by decide) (fun c_1 => ?_) (fun c_1 => ?_)
  · refine lv_aload_n hx hb dX4_lay_25 rfl (lv_at hl 0 rfl) ?_
    refine lv_iconst (v := 1) hx hb dX4_lay_26 (by decide) ?_
    obtain ⟨S2, eS2⟩ : ∃ z : sS, z = mfail (s_put O 0 0 0) 1 := ⟨_, rfl⟩
    refine zI_V (pre := ([] : va_W)) (wc := mW cI d (s_put O 0 0 0)) (post := ([] : va_W)) (w1 := mW cI d S2) ⟨hx, hb, hml, hown, hts⟩ (by rw [eS2]; exact c_X4_fail l dC dI cI d (s_put O 0 0 0) 1) (cwV 1 hts gX4_lay_X4_fail rfl rfl rfl (by decide +kernel) ⟨Nat.le_of_ble_eq_true rfl, Nat.le_of_ble_eq_true rfl⟩) (by simp only [List.append_assoc, List.append_nil, List.nil_append]) hK hN (ci := 4) (q0 := 0) rfl rfl rfl hP hD hS hA rfl hl.1 rfl (Nat.le_of_ble_eq_true rfl) dX4_lay_27 ⟨Nat.le_of_ble_eq_true rfl, Nat.le_of_ble_eq_true rfl⟩ (fun H locs hP hD hS => ?_)
    have hP : va_P (dC, dI) vwCl (mW cI d S2) H := by simpa only [List.append_assoc, List.append_nil, List.nil_append] using hP
    have hD : va_D A (mW cI d S2) := by simpa only [List.append_assoc, List.append_nil, List.nil_append] using hD
    have hZ : S2 = mlay_S (s_put O 0 0 0) u v := (by (try rw [eS2]); first | done | rfl | (simp only [mlay_S, mlay_V, if_pos c_1]; done) | (unfold mlay_S; simp only [if_pos c_1]; done))
    rw [hZ] at hP hD
    exact zJ_ret hx hb hr hlocks hP hD hS rfl (by (try rw [eS2]); first | done | rfl | (simp only [mlay_S, mlay_V, if_pos c_1]; done)) dX4_lay_30 (Nat.le_of_ble_eq_true rfl) (Nat.le_of_ble_eq_true rfl)
  · refine lv_iload_n hx hb dX4_lay_15 rfl (lv_at hl 2 rfl) ?_
    refine lv_iconst (v := 2) hx hb dX4_lay_16 (by decide) ?_
    refine lv_bipush (v := 8) hx hb dX4_lay_17 (by decide) ?_
    refine zI_S (pre := (mW cI d (s_put O 0 0 0))) (wc := ([] : va_W)) (post := ([] : va_W)) (w1 := ([] : va_W)) ⟨hx, hb, hml, hown, hts⟩ (c_X4_isIn l dC dI cI v 2 8) (va_cwS 3 hts gX4_lay_X4_isIn rfl rfl rfl (by decide +kernel) ⟨Nat.le_of_ble_eq_true rfl, Nat.le_of_ble_eq_true rfl⟩) (by simp only [List.append_assoc, List.append_nil, List.nil_append]) hK hN hP hD hS hA rfl hl.1 rfl (Nat.le_of_ble_eq_true rfl) dX4_lay_19 ⟨Nat.le_of_ble_eq_true rfl, Nat.le_of_ble_eq_true rfl⟩ (fun H locs hP hD hS => ?_)
    have hP : va_P (dC, dI) vwCl (mW cI d (s_put O 0 0 0)) H := by simpa only [List.append_assoc, List.append_nil, List.nil_append] using hP
    have hD : va_D A (mW cI d (s_put O 0 0 0)) := by simpa only [List.append_assoc, List.append_nil, List.nil_append] using hD
    refine lv_if_ne (tgt := 31) hx hb dX4_lay_22 (by decide) (fun c_3 => ?_) (fun c_3 => ?_)
    · refine lv_aload_n hx hb dX4_lay_31 rfl (lv_at hl 0 rfl) ?_
      refine lv_iload_n hx hb dX4_lay_32 rfl (lv_at hl 1 rfl) ?_
      refine lv_iload_n hx hb dX4_lay_33 rfl (lv_at hl 2 rfl) ?_
      obtain ⟨S4, eS4⟩ : ∃ z : sS, z = mclr (s_put O 0 0 0) u v := ⟨_, rfl⟩
      refine zW_V (pre := ([] : va_W)) (wc := mW cI d (s_put O 0 0 0)) (post := ([] : va_W)) (w1 := mW cI d S4) ⟨hx, hb, hml, hown, hts⟩ (by rw [eS4]; exact c_X4_clear l dC dI cI d (s_put O 0 0 0) u v) (cwV 2 hts gX4_lay_X4_clear rfl rfl rfl (by decide +kernel) ⟨Nat.le_of_ble_eq_true rfl, Nat.le_of_ble_eq_true rfl⟩) (by simp only [List.append_assoc, List.append_nil, List.nil_append]) hK hN (ci := 4) (q0 := 0) rfl rfl rfl hP hD hS hA rfl hl.1 rfl (Nat.le_of_ble_eq_true rfl) dX4_lay_34 ⟨Nat.le_of_ble_eq_true rfl, Nat.le_of_ble_eq_true rfl⟩ (fun H locs hP hD hS => ?_)
      have hP : va_P (dC, dI) vwCl (mW cI d S4) H := by simpa only [List.append_assoc, List.append_nil, List.nil_append] using hP
      have hD : va_D A (mW cI d S4) := by simpa only [List.append_assoc, List.append_nil, List.nil_append] using hD
      refine lv_iload_n hx hb dX4_lay_37 rfl (lv_at hl 1 rfl) ?_
      refine lv_iload_n hx hb dX4_lay_38 rfl (lv_at hl 2 rfl) ?_
      refine lv_imul hx hb dX4_lay_39 ?_
      have hZ : S4 = mlay_S (s_put O 0 0 0) u v := (by (try rw [eS4]); first | done | rfl | (simp only [mlay_S, mlay_V, if_neg c_1, if_neg c_3]; done) | (unfold mlay_S; simp only [if_neg c_1, if_neg c_3]; done))
      rw [hZ] at hP hD
      exact zJ_ret hx hb hr hlocks hP hD hS rfl (by (try rw [eS4]); first | done | rfl | (simp only [mlay_S, mlay_V, if_neg c_1, if_neg c_3]; done)) dX4_lay_40 (Nat.le_of_ble_eq_true rfl) (Nat.le_of_ble_eq_true rfl)
    · refine lv_aload_n hx hb dX4_lay_25 rfl (lv_at hl 0 rfl) ?_
      refine lv_iconst (v := 1) hx hb dX4_lay_26 (by decide) ?_
      obtain ⟨S5, eS5⟩ : ∃ z : sS, z = mfail (s_put O 0 0 0) 1 := ⟨_, rfl⟩
      refine zI_V (pre := ([] : va_W)) (wc := mW cI d (s_put O 0 0 0)) (post := ([] : va_W)) (w1 := mW cI d S5) ⟨hx, hb, hml, hown, hts⟩ (by rw [eS5]; exact c_X4_fail l dC dI cI d (s_put O 0 0 0) 1) (cwV 1 hts gX4_lay_X4_fail rfl rfl rfl (by decide +kernel) ⟨Nat.le_of_ble_eq_true rfl, Nat.le_of_ble_eq_true rfl⟩) (by simp only [List.append_assoc, List.append_nil, List.nil_append]) hK hN (ci := 4) (q0 := 0) rfl rfl rfl hP hD hS hA rfl hl.1 rfl (Nat.le_of_ble_eq_true rfl) dX4_lay_27 ⟨Nat.le_of_ble_eq_true rfl, Nat.le_of_ble_eq_true rfl⟩ (fun H locs hP hD hS => ?_)
      have hP : va_P (dC, dI) vwCl (mW cI d S5) H := by simpa only [List.append_assoc, List.append_nil, List.nil_append] using hP
      have hD : va_D A (mW cI d S5) := by simpa only [List.append_assoc, List.append_nil, List.nil_append] using hD
      have hZ : S5 = mlay_S (s_put O 0 0 0) u v := (by (try rw [eS5]); first | done | rfl | (simp only [mlay_S, mlay_V, if_neg c_1, if_pos c_3]; done) | (unfold mlay_S; simp only [if_neg c_1, if_pos c_3]; done))
      rw [hZ] at hP hD
      exact zJ_ret hx hb hr hlocks hP hD hS rfl (by (try rw [eS5]); first | done | rfl | (simp only [mlay_S, mlay_V, if_neg c_1, if_pos c_3]; done)) dX4_lay_30 (Nat.le_of_ble_eq_true rfl) (Nat.le_of_ble_eq_true rfl)

set_option maxHeartbeats 4000000 in
set_option maxRecDepth 100000 in
theorem c_X4_isIn (l : Launch) (dC : Nat → ClassId) (dI : Nat → Nat → Nat) (cI : ClassId) (x u v : Int32) : zI l yX4_isIn wsX4_isIn { frames := 0, cells := 0, slots := 0, locals := 0 } (dC, dI) cI [.int x, .int u, .int v] (([] : va_W)) (([] : va_W)) (is_w x u v) := by
  refine zI_of (cc := cX4_isIn) (maxL := 3) (ret := (some .boolean)) (by decide) rfl (Nat.le_of_ble_eq_true rfl) ?_
  intro p e s m below meth c A ls C0 hl
  obtain ⟨hx, hb, hr, hml, hown, hts, hlocks, hK, hN, hA, hP, hD, hS⟩ := C0
  have hown : s.vm.findClass RX4 = some m.cls := hown
  have hl : lv_has ls 3 [(0, .int x), (1, .int u), (2, .int v)] := hl
  have hS0 := hS
  refine lv_iload_n hx hb dX4_isIn_0 rfl (lv_at hl 0 rfl) ?_
  refine lv_iload_n hx hb dX4_isIn_1 rfl (lv_at hl 1 rfl) ?_
  refine lv_icmp_lt (tgt := 14) hx hb dX4_isIn_2 (by decide) (fun c_1 => ?_) (fun c_1 => ?_)
  · refine lv_iconst (v := 0) hx hb dX4_isIn_14 (by decide) ?_
    exact zI_ret hx hb hr hlocks hP hD hS rfl (by first | done | rfl | (simp only [is_w, if_pos c_1]; done)) dX4_isIn_15
  · refine lv_iload_n hx hb dX4_isIn_5 rfl (lv_at hl 0 rfl) ?_
    refine lv_iload_n hx hb dX4_isIn_6 rfl (lv_at hl 2 rfl) ?_
    refine lv_icmp_gt (tgt := 14) hx hb dX4_isIn_7 (by decide) (fun c_2 => ?_) (fun c_2 => ?_)
    · refine lv_iconst (v := 0) hx hb dX4_isIn_14 (by decide) ?_
      exact zI_ret hx hb hr hlocks hP hD hS rfl (by first | done | rfl | (simp only [is_w, if_neg c_1, if_pos c_2]; done)) dX4_isIn_15
    · refine lv_iconst (v := 1) hx hb dX4_isIn_10 (by decide) ?_
      refine lv_goto (tgt := 15) hx hb dX4_isIn_11 (by decide) ?_
      exact zI_ret hx hb hr hlocks hP hD hS rfl (by first | done | rfl | (simp only [is_w, if_neg c_1, if_neg c_2]; done)) dX4_isIn_15
set_option maxHeartbeats 4000000 in
set_option maxRecDepth 100000 in
theorem c_X4_isField (l : Launch) (dC : Nat → ClassId) (dI : Nat → Nat → Nat) (cI : ClassId) (d : Nat → Nat) (O : sS) (t f : Int32) : zI l yX4_isField wsX4_isField { frames := 1, cells := 0, slots := 0, locals := 22 } (dC, dI) cI [.ref (d 0), .int t, .int f] (mW cI d O) (mW cI d O) (mi_isField O t f) := by
  refine zI_of (cc := cX4_isField) (maxL := 3) (ret := (some .boolean)) (by decide) rfl (Nat.le_of_ble_eq_true rfl) ?_
  intro p e s m below meth c A ls C0 hl
  obtain ⟨hx, hb, hr, hml, hown, hts, hlocks, hK, hN, hA, hP, hD, hS⟩ := C0
  have hown : s.vm.findClass RX4 = some m.cls := hown
  have hl : lv_has ls 3 [(0, .ref (d 0)), (1, .int t), (2, .int f)] := hl
  have hf9 := hts (.fieldLink RX4 9 "PaddyTerracesModel" "n" "[I") (by decide +kernel)
  have hinX4 : ∀ w ∈ wsX40, w ∈ wsX4_isField := by decide +kernel
  have hS0 := hS
  refine lv_iload_n hx hb dX4_isField_0 rfl (lv_at hl 1 rfl) ?_
  refine lv_iconst (v := 0) hx hb dX4_isField_1 (by decide) ?_
  refine lv_aload_n hx hb dX4_isField_2 rfl (lv_at hl 0 rfl) ?_
  refine va_get (D := (dC, dI)) (ci := 4) (v := .ref (d 1)) (C := RX4) (T := TX4) (N := 7) hx hb hts hinX4 hown hK hP 0 rfl rfl 1 (by decide) hf9 (fun _ h9 => h9) rfl dX4_isField_3 ?_
  refine lv_iconst (v := 0) hx hb dX4_isField_6 (by decide) ?_
  refine va_ialdk 0 (cA := cI) (n := 7) (f := O 1) hx hb hK hP 1 0 rfl rfl rfl (by decide) (by decide) dX4_isField_7 ?_
  refine lv_iconst (v := 1) hx hb dX4_isField_8 (by decide) ?_
  refine lv_isub hx hb dX4_isField_9 ?_
  refine zI_S (pre := (mW cI d O)) (wc := ([] : va_W)) (post := ([] : va_W)) (w1 := ([] : va_W)) ⟨hx, hb, hml, hown, hts⟩ (c_X4_isIn l dC dI cI t 0 ((O 1 0) - 1)) (va_cwS 3 hts gX4_isField_X4_isIn rfl rfl rfl (by decide +kernel) ⟨Nat.le_of_ble_eq_true rfl, Nat.le_of_ble_eq_true rfl⟩) (by simp only [List.append_assoc, List.append_nil, List.nil_append]) hK hN hP hD hS hA rfl hl.1 rfl (Nat.le_of_ble_eq_true rfl) dX4_isField_10 ⟨Nat.le_of_ble_eq_true rfl, Nat.le_of_ble_eq_true rfl⟩ (fun H locs hP hD hS => ?_)
  have hP : va_P (dC, dI) vwCl (mW cI d O) H := by simpa only [List.append_assoc, List.append_nil, List.nil_append] using hP
  have hD : va_D A (mW cI d O) := by simpa only [List.append_assoc, List.append_nil, List.nil_append] using hD
  refine lv_if_eq (tgt := 36) hx hb dX4_isField_13 (by decide) (fun c_1 => ?_) (fun c_1 => ?_)
  · refine lv_iconst (v := 0) hx hb dX4_isField_36 (by decide) ?_
    exact zI_ret hx hb hr hlocks hP hD hS rfl (by first | done | rfl | (simp only [mi_isField, if_pos c_1]; done)) dX4_isField_37
  · refine lv_iload_n hx hb dX4_isField_16 rfl (lv_at hl 2 rfl) ?_
    refine lv_iconst (v := 0) hx hb dX4_isField_17 (by decide) ?_
    refine lv_aload_n hx hb dX4_isField_18 rfl (lv_at hl 0 rfl) ?_
    refine va_get (D := (dC, dI)) (ci := 4) (v := .ref (d 1)) (C := RX4) (T := TX4) (N := 7) hx hb hts hinX4 hown hK hP 0 rfl rfl 1 (by decide) hf9 (fun _ h9 => h9) rfl dX4_isField_19 ?_
    refine lv_iconst (v := 1) hx hb dX4_isField_22 (by decide) ?_
    refine va_ialdk 1 (cA := cI) (n := 7) (f := O 1) hx hb hK hP 1 0 rfl rfl rfl (by decide) (by decide) dX4_isField_23 ?_
    refine lv_iconst (v := 1) hx hb dX4_isField_24 (by decide) ?_
    refine lv_isub hx hb dX4_isField_25 ?_
    refine zI_S (pre := (mW cI d O)) (wc := ([] : va_W)) (post := ([] : va_W)) (w1 := ([] : va_W)) ⟨hx, hb, hml, hown, hts⟩ (c_X4_isIn l dC dI cI f 0 ((O 1 1) - 1)) (va_cwS 3 hts gX4_isField_X4_isIn rfl rfl rfl (by decide +kernel) ⟨Nat.le_of_ble_eq_true rfl, Nat.le_of_ble_eq_true rfl⟩) (by simp only [List.append_assoc, List.append_nil, List.nil_append]) hK hN hP hD hS hA rfl hl.1 rfl (Nat.le_of_ble_eq_true rfl) dX4_isField_26 ⟨Nat.le_of_ble_eq_true rfl, Nat.le_of_ble_eq_true rfl⟩ (fun H locs hP hD hS => ?_)
    have hP : va_P (dC, dI) vwCl (mW cI d O) H := by simpa only [List.append_assoc, List.append_nil, List.nil_append] using hP
    have hD : va_D A (mW cI d O) := by simpa only [List.append_assoc, List.append_nil, List.nil_append] using hD
    refine lv_if_eq (tgt := 36) hx hb dX4_isField_29 (by decide) (fun c_2 => ?_) (fun c_2 => ?_)
    · refine lv_iconst (v := 0) hx hb dX4_isField_36 (by decide) ?_
      exact zI_ret hx hb hr hlocks hP hD hS rfl (by first | done | rfl | (simp only [mi_isField, if_neg c_1, if_pos c_2]; done)) dX4_isField_37
    · refine lv_iconst (v := 1) hx hb dX4_isField_32 (by decide) ?_
      refine lv_goto (tgt := 37) hx hb dX4_isField_33 (by decide) ?_
      exact zI_ret hx hb hr hlocks hP hD hS rfl (by first | done | rfl | (simp only [mi_isField, if_neg c_1, if_neg c_2]; done)) dX4_isField_37
set_option maxHeartbeats 4000000 in
set_option maxRecDepth 100000 in
theorem c_X4_at (l : Launch) (dC : Nat → ClassId) (dI : Nat → Nat → Nat) (cI : ClassId) (d : Nat → Nat) (O : sS) (t f : Int32) : zI l yX4_at wsX4_at { frames := 0, cells := 0, slots := 0, locals := 0 } (dC, dI) cI [.ref (d 0), .int t, .int f] (mW cI d O) (mW cI d O) (mi_at O t f) := by
  refine zI_of (cc := cX4_at) (maxL := 3) (ret := (some .int)) (by decide) rfl (Nat.le_of_ble_eq_true rfl) ?_
  intro p e s m below meth c A ls C0 hl
  obtain ⟨hx, hb, hr, hml, hown, hts, hlocks, hK, hN, hA, hP, hD, hS⟩ := C0
  have hown : s.vm.findClass RX4 = some m.cls := hown
  have hl : lv_has ls 3 [(0, .ref (d 0)), (1, .int t), (2, .int f)] := hl
  have hf9 := hts (.fieldLink RX4 9 "PaddyTerracesModel" "n" "[I") (by decide +kernel)
  have hinX4 : ∀ w ∈ wsX40, w ∈ wsX4_at := by decide +kernel
  have hS0 := hS
  refine lv_bipush (v := 12) hx hb dX4_at_0 (by decide) ?_
  refine lv_aload_n hx hb dX4_at_2 rfl (lv_at hl 0 rfl) ?_
  refine va_get (D := (dC, dI)) (ci := 4) (v := .ref (d 1)) (C := RX4) (T := TX4) (N := 7) hx hb hts hinX4 hown hK hP 0 rfl rfl 1 (by decide) hf9 (fun _ h9 => h9) rfl dX4_at_3 ?_
  refine lv_iconst (v := 1) hx hb dX4_at_6 (by decide) ?_
  refine va_ialdk 1 (cA := cI) (n := 7) (f := O 1) hx hb hK hP 1 0 rfl rfl rfl (by decide) (by decide) dX4_at_7 ?_
  refine lv_iload_n hx hb dX4_at_8 rfl (lv_at hl 1 rfl) ?_
  refine lv_imul hx hb dX4_at_9 ?_
  refine lv_iload_n hx hb dX4_at_10 rfl (lv_at hl 2 rfl) ?_
  refine lv_iadd hx hb dX4_at_11 ?_
  refine lv_imul hx hb dX4_at_12 ?_
  exact zI_ret hx hb hr hlocks hP hD hS rfl (by first | done | rfl) dX4_at_13
set_option maxHeartbeats 4000000 in
set_option maxRecDepth 100000 in
theorem c_X4_many (l : Launch) (dC : Nat → ClassId) (dI : Nat → Nat → Nat) (cI : ClassId) (d : Nat → Nat) (O : sS) : zI l yX4_many wsX4_many { frames := 0, cells := 0, slots := 0, locals := 0 } (dC, dI) cI [.ref (d 0)] (mW cI d O) (mW cI d O) (mi_many O) := by
  refine zI_of (cc := cX4_many) (maxL := 1) (ret := (some .int)) (by decide) rfl (Nat.le_of_ble_eq_true rfl) ?_
  intro p e s m below meth c A ls C0 hl
  obtain ⟨hx, hb, hr, hml, hown, hts, hlocks, hK, hN, hA, hP, hD, hS⟩ := C0
  have hown : s.vm.findClass RX4 = some m.cls := hown
  have hl : lv_has ls 1 [(0, .ref (d 0))] := hl
  have hf9 := hts (.fieldLink RX4 9 "PaddyTerracesModel" "n" "[I") (by decide +kernel)
  have hinX4 : ∀ w ∈ wsX40, w ∈ wsX4_many := by decide +kernel
  have hS0 := hS
  refine lv_aload_n hx hb dX4_many_0 rfl (lv_at hl 0 rfl) ?_
  refine va_get (D := (dC, dI)) (ci := 4) (v := .ref (d 1)) (C := RX4) (T := TX4) (N := 7) hx hb hts hinX4 hown hK hP 0 rfl rfl 1 (by decide) hf9 (fun _ h9 => h9) rfl dX4_many_1 ?_
  refine lv_iconst (v := 0) hx hb dX4_many_4 (by decide) ?_
  refine va_ialdk 0 (cA := cI) (n := 7) (f := O 1) hx hb hK hP 1 0 rfl rfl rfl (by decide) (by decide) dX4_many_5 ?_
  refine lv_aload_n hx hb dX4_many_6 rfl (lv_at hl 0 rfl) ?_
  refine va_get (D := (dC, dI)) (ci := 4) (v := .ref (d 1)) (C := RX4) (T := TX4) (N := 7) hx hb hts hinX4 hown hK hP 0 rfl rfl 1 (by decide) hf9 (fun _ h9 => h9) rfl dX4_many_7 ?_
  refine lv_iconst (v := 1) hx hb dX4_many_10 (by decide) ?_
  refine va_ialdk 1 (cA := cI) (n := 7) (f := O 1) hx hb hK hP 1 0 rfl rfl rfl (by decide) (by decide) dX4_many_11 ?_
  refine lv_imul hx hb dX4_many_12 ?_
  exact zI_ret hx hb hr hlocks hP hD hS rfl (by first | done | rfl) dX4_many_13
set_option maxHeartbeats 4000000 in
set_option maxRecDepth 100000 in
theorem c_X4_thrown (l : Launch) (dC : Nat → ClassId) (dI : Nat → Nat → Nat) (cI : ClassId) (d : Nat → Nat) (O : sS) : zI l yX4_thrown wsX4_thrown { frames := 0, cells := 0, slots := 0, locals := 0 } (dC, dI) cI [.ref (d 0)] (mW cI d O) (mW cI d O) (O 0 0) := by
  refine zI_of (cc := cX4_thrown) (maxL := 1) (ret := (some .int)) (by decide) rfl (Nat.le_of_ble_eq_true rfl) ?_
  intro p e s m below meth c A ls C0 hl
  obtain ⟨hx, hb, hr, hml, hown, hts, hlocks, hK, hN, hA, hP, hD, hS⟩ := C0
  have hown : s.vm.findClass RX4 = some m.cls := hown
  have hl : lv_has ls 1 [(0, .ref (d 0))] := hl
  have hf38 := hts (.fieldLink RX4 38 "PaddyTerracesModel" "thrown" "I") (by decide +kernel)
  have hinX4 : ∀ w ∈ wsX40, w ∈ wsX4_thrown := by decide +kernel
  have hS0 := hS
  refine lv_aload_n hx hb dX4_thrown_0 rfl (lv_at hl 0 rfl) ?_
  refine va_get (D := (dC, dI)) (ci := 4) (v := .int (O 0 0)) (C := RX4) (T := TX4) (N := 7) hx hb hts hinX4 hown hK hP 0 rfl rfl 0 (by decide) hf38 (fun _ h9 => h9) rfl dX4_thrown_1 ?_
  exact zI_ret hx hb hr hlocks hP hD hS rfl rfl dX4_thrown_4
set_option maxHeartbeats 4000000 in
set_option maxRecDepth 100000 in
theorem c_X4_fail (l : Launch) (dC : Nat → ClassId) (dI : Nat → Nat → Nat) (cI : ClassId) (d : Nat → Nat) (O : sS) (x : Int32) : zI l yX4_fail wsX4_fail { frames := 0, cells := 0, slots := 0, locals := 0 } (dC, dI) cI [.ref (d 0), .int x] (mW cI d O) (mW cI d (mfail O x)) 0 := by
  refine zI_of (cc := cX4_fail) (maxL := 2) (ret := (some .int)) (by decide) rfl (Nat.le_of_ble_eq_true rfl) ?_
  intro p e s m below meth c A ls C0 hl
  obtain ⟨hx, hb, hr, hml, hown, hts, hlocks, hK, hN, hA, hP, hD, hS⟩ := C0
  have hown : s.vm.findClass RX4 = some m.cls := hown
  have hl : lv_has ls 2 [(0, .ref (d 0)), (1, .int x)] := hl
  have hf38 := hts (.fieldLink RX4 38 "PaddyTerracesModel" "thrown" "I") (by decide +kernel)
  have hinX4 : ∀ w ∈ wsX40, w ∈ wsX4_fail := by decide +kernel
  have hS0 := hS
  refine lv_aload_n hx hb dX4_fail_0 rfl (lv_at hl 0 rfl) ?_
  refine lv_iload_n hx hb dX4_fail_1 rfl (lv_at hl 1 rfl) ?_
  obtain ⟨S1, eS1⟩ : ∃ z : sS, z = s_put O 0 0 x := ⟨_, rfl⟩
  refine va_put (D := (dC, dI)) (ci := 4) (v := .int x) (ty := .int) (C := RX4) (T := TX4) (N := 7) hx hb hts hinX4 tyX4 tyX4_ok nmX4 hown hK hP hD hS 0 rfl rfl 0 (by decide) hf38 (fun _ h9 => h9) rfl (by decide +kernel) rfl rfl (Nat.le_of_ble_eq_true rfl) dX4_fail_2 (fun H locs hP hD hS => ?_)
  have hP : va_P (dC, dI) vwCl (mW cI d S1) H := by rw [eS1]; exact hP
  have hD : va_D A (mW cI d S1) := by rw [eS1]; exact hD
  refine lv_iconst (v := 0) hx hb dX4_fail_5 (by decide) ?_
  have hZ : S1 = mfail O x := (by (try rw [eS1]); first | done | rfl | (simp only [mfail]; done))
  rw [hZ] at hP hD
  exact zI_ret hx hb hr hlocks hP hD hS rfl rfl dX4_fail_6
set_option maxHeartbeats 4000000 in
set_option maxRecDepth 100000 in
theorem c_X4_set (l : Launch) (dC : Nat → ClassId) (dI : Nat → Nat → Nat) (cI : ClassId) (d : Nat → Nat) (O : sS) (i x : Int32) (hC : vp_in i 768) : zI l yX4_set wsX4_set { frames := 0, cells := 0, slots := 0, locals := 0 } (dC, dI) cI [.ref (d 0), .int i, .int x] (mW cI d O) (mW cI d (mi_set O i x)) (O 3 i.toNatClampNeg) := by
  refine zI_of (cc := cX4_set) (maxL := 4) (ret := (some .int)) (by decide) rfl (Nat.le_of_ble_eq_true rfl) ?_
  intro p e s m below meth c A ls C0 hl
  obtain ⟨hx, hb, hr, hml, hown, hts, hlocks, hK, hN, hA, hP, hD, hS⟩ := C0
  have hown : s.vm.findClass RX4 = some m.cls := hown
  have hl : lv_has ls 4 [(0, .ref (d 0)), (1, .int i), (2, .int x)] := hl
  have hf16 := hts (.fieldLink RX4 16 "PaddyTerracesModel" "fields" "[I") (by decide +kernel)
  have hinX4 : ∀ w ∈ wsX40, w ∈ wsX4_set := by decide +kernel
  have hS0 := hS
  refine lv_aload_n hx hb dX4_set_0 rfl (lv_at hl 0 rfl) ?_
  refine va_get (D := (dC, dI)) (ci := 4) (v := .ref (d 3)) (C := RX4) (T := TX4) (N := 7) hx hb hts hinX4 hown hK hP 0 rfl rfl 3 (by decide) hf16 (fun _ h9 => h9) rfl dX4_set_1 ?_
  refine lv_iload_n hx hb dX4_set_4 rfl (lv_at hl 1 rfl) ?_
  refine va_iald (cA := cI) (n := 768) (f := O 3) hx hb hK hP 3 0 rfl rfl hC dX4_set_5 ?_
  refine lv_istore_n (lv' := [(3, .int (O 3 i.toNatClampNeg)), (0, .ref (d 0)), (1, .int i), (2, .int x)]) hx hb dX4_set_6 rfl hl (by decide) rfl (fun ls hl => ?_)
  refine lv_aload_n hx hb dX4_set_7 rfl (lv_at hl 1 rfl) ?_
  refine va_get (D := (dC, dI)) (ci := 4) (v := .ref (d 3)) (C := RX4) (T := TX4) (N := 7) hx hb hts hinX4 hown hK hP 0 rfl rfl 3 (by decide) hf16 (fun _ h9 => h9) rfl dX4_set_8 ?_
  refine lv_iload_n hx hb dX4_set_11 rfl (lv_at hl 2 rfl) ?_
  refine lv_iload_n hx hb dX4_set_12 rfl (lv_at hl 3 rfl) ?_
  obtain ⟨S1, eS1⟩ : ∃ z : sS, z = s_put O 3 i.toNatClampNeg x := ⟨_, rfl⟩
  refine va_iast (cA := cI) (n := 768) (f := O 3) hx hb hK hP hD hS 3 0 rfl rfl hC dX4_set_13 (fun H locs hP hD hS => ?_)
  have hP : va_P (dC, dI) vwCl (mW cI d S1) H := by rw [eS1]; exact hP
  have hD : va_D A (mW cI d S1) := by rw [eS1]; exact hD
  refine lv_iload_n hx hb dX4_set_14 rfl (lv_at hl 0 rfl) ?_
  have hZ : S1 = mi_set O i x := (by (try rw [eS1]); first | done | rfl | (simp only [mi_set]; done))
  rw [hZ] at hP hD
  exact zI_ret hx hb hr hlocks hP hD hS rfl rfl dX4_set_15
set_option maxHeartbeats 4000000 in
set_option maxRecDepth 100000 in
theorem c_X4_sum (l : Launch) (dC : Nat → ClassId) (dI : Nat → Nat → Nat) (cI : ClassId) (d : Nat → Nat) (h w : Nat) (O : sS) (x : Int32) (hG0 : gem h w O) (hX : xok x) : zI l yX4_sum wsX4_sum { frames := 1, cells := 0, slots := 0, locals := 20 } (dC, dI) cI [.ref (d 0), .int x] (mW cI d O) (mW cI d O) (mi_sum h w O x) := by
  refine zI_of (cc := cX4_sum) (maxL := 4) (ret := (some .int)) (by decide) rfl (Nat.le_of_ble_eq_true rfl) ?_
  intro p e s m below meth c A ls C0 hl
  obtain ⟨hx, hb, hr, hml, hown, hts, hlocks, hK, hN, hA, hP, hD, hS⟩ := C0
  have hown : s.vm.findClass RX4 = some m.cls := hown
  have hl : lv_has ls 4 [(0, .ref (d 0)), (1, .int x)] := hl
  have hf16 := hts (.fieldLink RX4 16 "PaddyTerracesModel" "fields" "[I") (by decide +kernel)
  have hinX4 : ∀ w ∈ wsX40, w ∈ wsX4_sum := by decide +kernel
  have hS0 := hS
  have hN64 := gem_hw hG0
  have hW9 := gem_w hG0
  obtain ⟨-, -, hh2, hh8, hw2, hw8⟩ := id hG0
  refine lv_iconst (v := 0) hx hb dX4_sum_0 (by decide) ?_
  refine lv_istore_n (lv' := [(2, .int 0), (0, .ref (d 0)), (1, .int x)]) hx hb dX4_sum_1 rfl hl (by decide) rfl (fun ls hl => ?_)
  refine lv_iconst (v := 0) hx hb dX4_sum_2 (by decide) ?_
  refine lv_istore_n (lv' := [(3, .int 0), (2, .int 0), (0, .ref (d 0)), (1, .int x)]) hx hb dX4_sum_3 rfl hl (by decide) rfl (fun ls hl => ?_)
  have lp4 : ∀ (n4 i4 : Nat) (u4_2 : Int32) (H : Heap) (locs : List Loc) (ls : Array Slot), i4 + n4 = h * w → u4_2 = itr (fun k a => a + O 3 (12 * k + x).toNatClampNeg) i4 0 → va_P (dC, dI) vwCl (mW cI d O) H → va_D A (mW cI d O) → va_S A s.heap H locs → lv_has ls 4 [(0, .ref (d 0)), (1, .int x), (2, .int u4_2), (3, .int (nI i4))] → W p l e ({ frames := 1, cells := 0, slots := 0, locals := 20 } : Room) s m [.ref (d 0), .int x].toArray below meth c H locs 0 0 (zIq (dC, dI) A (mW cI d O) (mi_sum h w O x) below [.ref (d 0), .int x].toArray s 0 0) (F0 m 4 ls []) := by
    intro n4
    induction n4 with
    | zero =>
      intro i4 u4_2 H locs ls hi4 eu4_2 hP hD hS hl
      have hi4 : i4 = h * w := by omega
      rw [hi4] at eu4_2
      refine lv_iload_n hx hb dX4_sum_4 rfl (lv_at hl 3 rfl) ?_
      refine lv_aload_n hx hb dX4_sum_5 rfl (lv_at hl 0 rfl) ?_
      refine zI_V (pre := ([] : va_W)) (wc := mW cI d O) (post := ([] : va_W)) (w1 := mW cI d O) ⟨hx, hb, hml, hown, hts⟩ (c_X4_many l dC dI cI d O) (cwV 0 hts gX4_sum_X4_many rfl rfl rfl (by decide +kernel) ⟨Nat.le_of_ble_eq_true rfl, Nat.le_of_ble_eq_true rfl⟩) (by simp only [List.append_assoc, List.append_nil, List.nil_append]) hK hN (ci := 4) (q0 := 0) rfl rfl rfl hP hD hS hA rfl hl.1 rfl (Nat.le_of_ble_eq_true rfl) dX4_sum_6 ⟨Nat.le_of_ble_eq_true rfl, Nat.le_of_ble_eq_true rfl⟩ (fun H locs hP hD hS => ?_)
      have hP : va_P (dC, dI) vwCl (mW cI d O) H := by simpa only [List.append_assoc, List.append_nil, List.nil_append] using hP
      have hD : va_D A (mW cI d O) := by simpa only [List.append_assoc, List.append_nil, List.nil_append] using hD
      refine lv_icmp_ge (tgt := 32) hx hb dX4_sum_9 (by decide) (fun c_1 => ?_) (fun c_1 => ?_)
      · refine lv_iload_n hx hb dX4_sum_32 rfl (lv_at hl 2 rfl) ?_
        exact zI_ret hx hb hr hlocks hP hD hS rfl (by (try rw [eu4_2]); first | done | rfl | (simp only [mi_sum, if_pos c_1]; done)) dX4_sum_33
      · exact absurd (by rw [show _ = nI (h * w) from (gem_many hG0)]; exact nI_le (by omega) (by omega)) c_1
    | succ n4 ih4 =>
      intro i4 u4_2 H locs ls hi4 eu4_2 hP hD hS hl
      refine lv_iload_n hx hb dX4_sum_4 rfl (lv_at hl 3 rfl) ?_
      refine lv_aload_n hx hb dX4_sum_5 rfl (lv_at hl 0 rfl) ?_
      refine zI_V (pre := ([] : va_W)) (wc := mW cI d O) (post := ([] : va_W)) (w1 := mW cI d O) ⟨hx, hb, hml, hown, hts⟩ (c_X4_many l dC dI cI d O) (cwV 0 hts gX4_sum_X4_many rfl rfl rfl (by decide +kernel) ⟨Nat.le_of_ble_eq_true rfl, Nat.le_of_ble_eq_true rfl⟩) (by simp only [List.append_assoc, List.append_nil, List.nil_append]) hK hN (ci := 4) (q0 := 0) rfl rfl rfl hP hD hS hA rfl hl.1 rfl (Nat.le_of_ble_eq_true rfl) dX4_sum_6 ⟨Nat.le_of_ble_eq_true rfl, Nat.le_of_ble_eq_true rfl⟩ (fun H locs hP hD hS => ?_)
      have hP : va_P (dC, dI) vwCl (mW cI d O) H := by simpa only [List.append_assoc, List.append_nil, List.nil_append] using hP
      have hD : va_D A (mW cI d O) := by simpa only [List.append_assoc, List.append_nil, List.nil_append] using hD
      refine lv_icmp_ge (tgt := 32) hx hb dX4_sum_9 (by decide) (fun c_2 => ?_) (fun c_2 => ?_)
      · exact absurd c_2 (by rw [show _ = nI (h * w) from (gem_many hG0)]; exact nI_ge (by omega) (by omega))
      · refine lv_iload_n hx hb dX4_sum_12 rfl (lv_at hl 2 rfl) ?_
        refine lv_aload_n hx hb dX4_sum_13 rfl (lv_at hl 0 rfl) ?_
        refine va_get (D := (dC, dI)) (ci := 4) (v := .ref (d 3)) (C := RX4) (T := TX4) (N := 7) hx hb hts hinX4 hown hK hP 0 rfl rfl 3 (by decide) hf16 (fun _ h9 => h9) rfl dX4_sum_14 ?_
        refine lv_bipush (v := 12) hx hb dX4_sum_17 (by decide) ?_
        refine lv_iload_n hx hb dX4_sum_19 rfl (lv_at hl 3 rfl) ?_
        refine lv_imul hx hb dX4_sum_20 ?_
        refine lv_iload_n hx hb dX4_sum_21 rfl (lv_at hl 1 rfl) ?_
        refine lv_iadd hx hb dX4_sum_22 ?_
        refine va_iald (cA := cI) (n := 768) (f := O 3) hx hb hK hP 3 0 rfl rfl (frm_inx (frm_k (by omega)) hX) dX4_sum_23 ?_
        refine lv_iadd hx hb dX4_sum_24 ?_
        refine lv_istore_n (lv' := [(2, .int (u4_2 + (O 3 ((12 * (nI i4)) + x).toNatClampNeg))), (0, .ref (d 0)), (1, .int x), (3, .int (nI i4))]) hx hb dX4_sum_25 rfl hl (by decide) rfl (fun ls hl => ?_)
        refine lv_iinc (v := nI (i4 + 1)) (lv' := [(3, .int (nI (i4 + 1))), (2, .int (u4_2 + (O 3 ((12 * (nI i4)) + x).toNatClampNeg))), (0, .ref (d 0)), (1, .int x)]) hx hb dX4_sum_26 hl (k := 3) rfl (show nI i4 + Int32.ofInt 1 = nI (i4 + 1) from nI_1 i4) (by decide) rfl (fun ls hl => ?_)
        refine lv_goto (tgt := 4) hx hb dX4_sum_29 (by decide) ?_
        exact ih4 (i4 + 1) (u4_2 + (O 3 ((12 * (nI i4)) + x).toNatClampNeg)) _ _ ls (by omega) (by (try rw [eu4_2]); rfl) hP hD hS (lv_sub hl [2, 3, 1, 0] rfl)
  exact lp4 (h * w) 0 0 _ _ ls (by omega) rfl hP hD hS (lv_sub hl [2, 3, 1, 0] rfl)
set_option maxHeartbeats 4000000 in
set_option maxRecDepth 100000 in
theorem c_X4_fallow (l : Launch) (dC : Nat → ClassId) (dI : Nat → Nat → Nat) (cI : ClassId) (d : Nat → Nat) (O : sS) (x : Int32) (hF : frm x) : zV l yX4_fallow wsX4_fallow { frames := 0, cells := 0, slots := 0, locals := 0 } (dC, dI) cI [.ref (d 0), .int x] (mW cI d O) (mW cI d (mi_fallow O x)) := by
  refine zV_of (cc := cX4_fallow) (maxL := 3) (ret := none) (by decide) rfl (Nat.le_of_ble_eq_true rfl) ?_
  intro p e s m below meth c A ls C0 hl
  obtain ⟨hx, hb, hr, hml, hown, hts, hlocks, hK, hN, hA, hP, hD, hS⟩ := C0
  have hown : s.vm.findClass RX4 = some m.cls := hown
  have hl : lv_has ls 3 [(0, .ref (d 0)), (1, .int x)] := hl
  have hf16 := hts (.fieldLink RX4 16 "PaddyTerracesModel" "fields" "[I") (by decide +kernel)
  have hinX4 : ∀ w ∈ wsX40, w ∈ wsX4_fallow := by decide +kernel
  have hS0 := hS
  refine lv_iconst (v := 5) hx hb dX4_fallow_0 (by decide) ?_
  refine lv_istore_n (lv' := [(2, .int 5), (0, .ref (d 0)), (1, .int x)]) hx hb dX4_fallow_1 rfl hl (by decide) rfl (fun ls hl => ?_)
  refine lv_iload_n hx hb dX4_fallow_2 rfl (lv_at hl 0 rfl) ?_
  refine lv_bipush (v := 9) hx hb dX4_fallow_3 (by decide) ?_
  refine lv_icmp_gt (tgt := 23) hx hb dX4_fallow_5 (by decide) (fun c_1 => ?_) (fun c_1 => ?_)
  · exact absurd c_1 (by decide)
  · refine lv_aload_n hx hb dX4_fallow_8 rfl (lv_at hl 1 rfl) ?_
    refine va_get (D := (dC, dI)) (ci := 4) (v := .ref (d 3)) (C := RX4) (T := TX4) (N := 7) hx hb hts hinX4 hown hK hP 0 rfl rfl 3 (by decide) hf16 (fun _ h9 => h9) rfl dX4_fallow_9 ?_
    refine lv_iload_n hx hb dX4_fallow_12 rfl (lv_at hl 2 rfl) ?_
    refine lv_iload_n hx hb dX4_fallow_13 rfl (lv_at hl 0 rfl) ?_
    refine lv_iadd hx hb dX4_fallow_14 ?_
    refine lv_iconst (v := 0) hx hb dX4_fallow_15 (by decide) ?_
    obtain ⟨S2, eS2⟩ : ∃ z : sS, z = s_put O 3 ((x + 5).toNatClampNeg) 0 := ⟨_, rfl⟩
    refine va_iast (cA := cI) (n := 768) (f := O 3) hx hb hK hP hD hS 3 0 rfl rfl (frm_in hF (j := 5) (by decide)) dX4_fallow_16 (fun H locs hP hD hS => ?_)
    have hP : va_P (dC, dI) vwCl (mW cI d S2) H := by rw [eS2]; exact hP
    have hD : va_D A (mW cI d S2) := by rw [eS2]; exact hD
    refine lv_iinc (v := 6) (lv' := [(2, .int 6), (0, .ref (d 0)), (1, .int x)]) hx hb dX4_fallow_17 hl (k := 0) rfl rfl (by decide) rfl (fun ls hl => ?_)
    refine lv_goto (tgt := 2) hx hb dX4_fallow_20 (by decide) ?_
    refine lv_iload_n hx hb dX4_fallow_2 rfl (lv_at hl 0 rfl) ?_
    refine lv_bipush (v := 9) hx hb dX4_fallow_3 (by decide) ?_
    refine lv_icmp_gt (tgt := 23) hx hb dX4_fallow_5 (by decide) (fun c_3 => ?_) (fun c_3 => ?_)
    · exact absurd c_3 (by decide)
    · refine lv_aload_n hx hb dX4_fallow_8 rfl (lv_at hl 1 rfl) ?_
      refine va_get (D := (dC, dI)) (ci := 4) (v := .ref (d 3)) (C := RX4) (T := TX4) (N := 7) hx hb hts hinX4 hown hK hP 0 rfl rfl 3 (by decide) hf16 (fun _ h9 => h9) rfl dX4_fallow_9 ?_
      refine lv_iload_n hx hb dX4_fallow_12 rfl (lv_at hl 2 rfl) ?_
      refine lv_iload_n hx hb dX4_fallow_13 rfl (lv_at hl 0 rfl) ?_
      refine lv_iadd hx hb dX4_fallow_14 ?_
      refine lv_iconst (v := 0) hx hb dX4_fallow_15 (by decide) ?_
      obtain ⟨S4, eS4⟩ : ∃ z : sS, z = s_put S2 3 ((x + 6).toNatClampNeg) 0 := ⟨_, rfl⟩
      refine va_iast (cA := cI) (n := 768) (f := S2 3) hx hb hK hP hD hS 3 0 rfl rfl (frm_in hF (j := 6) (by decide)) dX4_fallow_16 (fun H locs hP hD hS => ?_)
      have hP : va_P (dC, dI) vwCl (mW cI d S4) H := by rw [eS4]; exact hP
      have hD : va_D A (mW cI d S4) := by rw [eS4]; exact hD
      refine lv_iinc (v := 7) (lv' := [(2, .int 7), (0, .ref (d 0)), (1, .int x)]) hx hb dX4_fallow_17 hl (k := 0) rfl rfl (by decide) rfl (fun ls hl => ?_)
      refine lv_goto (tgt := 2) hx hb dX4_fallow_20 (by decide) ?_
      refine lv_iload_n hx hb dX4_fallow_2 rfl (lv_at hl 0 rfl) ?_
      refine lv_bipush (v := 9) hx hb dX4_fallow_3 (by decide) ?_
      refine lv_icmp_gt (tgt := 23) hx hb dX4_fallow_5 (by decide) (fun c_5 => ?_) (fun c_5 => ?_)
      · exact absurd c_5 (by decide)
      · refine lv_aload_n hx hb dX4_fallow_8 rfl (lv_at hl 1 rfl) ?_
        refine va_get (D := (dC, dI)) (ci := 4) (v := .ref (d 3)) (C := RX4) (T := TX4) (N := 7) hx hb hts hinX4 hown hK hP 0 rfl rfl 3 (by decide) hf16 (fun _ h9 => h9) rfl dX4_fallow_9 ?_
        refine lv_iload_n hx hb dX4_fallow_12 rfl (lv_at hl 2 rfl) ?_
        refine lv_iload_n hx hb dX4_fallow_13 rfl (lv_at hl 0 rfl) ?_
        refine lv_iadd hx hb dX4_fallow_14 ?_
        refine lv_iconst (v := 0) hx hb dX4_fallow_15 (by decide) ?_
        obtain ⟨S6, eS6⟩ : ∃ z : sS, z = s_put S4 3 ((x + 7).toNatClampNeg) 0 := ⟨_, rfl⟩
        refine va_iast (cA := cI) (n := 768) (f := S4 3) hx hb hK hP hD hS 3 0 rfl rfl (frm_in hF (j := 7) (by decide)) dX4_fallow_16 (fun H locs hP hD hS => ?_)
        have hP : va_P (dC, dI) vwCl (mW cI d S6) H := by rw [eS6]; exact hP
        have hD : va_D A (mW cI d S6) := by rw [eS6]; exact hD
        refine lv_iinc (v := 8) (lv' := [(2, .int 8), (0, .ref (d 0)), (1, .int x)]) hx hb dX4_fallow_17 hl (k := 0) rfl rfl (by decide) rfl (fun ls hl => ?_)
        refine lv_goto (tgt := 2) hx hb dX4_fallow_20 (by decide) ?_
        refine lv_iload_n hx hb dX4_fallow_2 rfl (lv_at hl 0 rfl) ?_
        refine lv_bipush (v := 9) hx hb dX4_fallow_3 (by decide) ?_
        refine lv_icmp_gt (tgt := 23) hx hb dX4_fallow_5 (by decide) (fun c_7 => ?_) (fun c_7 => ?_)
        · exact absurd c_7 (by decide)
        · refine lv_aload_n hx hb dX4_fallow_8 rfl (lv_at hl 1 rfl) ?_
          refine va_get (D := (dC, dI)) (ci := 4) (v := .ref (d 3)) (C := RX4) (T := TX4) (N := 7) hx hb hts hinX4 hown hK hP 0 rfl rfl 3 (by decide) hf16 (fun _ h9 => h9) rfl dX4_fallow_9 ?_
          refine lv_iload_n hx hb dX4_fallow_12 rfl (lv_at hl 2 rfl) ?_
          refine lv_iload_n hx hb dX4_fallow_13 rfl (lv_at hl 0 rfl) ?_
          refine lv_iadd hx hb dX4_fallow_14 ?_
          refine lv_iconst (v := 0) hx hb dX4_fallow_15 (by decide) ?_
          obtain ⟨S8, eS8⟩ : ∃ z : sS, z = s_put S6 3 ((x + 8).toNatClampNeg) 0 := ⟨_, rfl⟩
          refine va_iast (cA := cI) (n := 768) (f := S6 3) hx hb hK hP hD hS 3 0 rfl rfl (frm_in hF (j := 8) (by decide)) dX4_fallow_16 (fun H locs hP hD hS => ?_)
          have hP : va_P (dC, dI) vwCl (mW cI d S8) H := by rw [eS8]; exact hP
          have hD : va_D A (mW cI d S8) := by rw [eS8]; exact hD
          refine lv_iinc (v := 9) (lv' := [(2, .int 9), (0, .ref (d 0)), (1, .int x)]) hx hb dX4_fallow_17 hl (k := 0) rfl rfl (by decide) rfl (fun ls hl => ?_)
          refine lv_goto (tgt := 2) hx hb dX4_fallow_20 (by decide) ?_
          refine lv_iload_n hx hb dX4_fallow_2 rfl (lv_at hl 0 rfl) ?_
          refine lv_bipush (v := 9) hx hb dX4_fallow_3 (by decide) ?_
          refine lv_icmp_gt (tgt := 23) hx hb dX4_fallow_5 (by decide) (fun c_9 => ?_) (fun c_9 => ?_)
          · exact absurd c_9 (by decide)
          · refine lv_aload_n hx hb dX4_fallow_8 rfl (lv_at hl 1 rfl) ?_
            refine va_get (D := (dC, dI)) (ci := 4) (v := .ref (d 3)) (C := RX4) (T := TX4) (N := 7) hx hb hts hinX4 hown hK hP 0 rfl rfl 3 (by decide) hf16 (fun _ h9 => h9) rfl dX4_fallow_9 ?_
            refine lv_iload_n hx hb dX4_fallow_12 rfl (lv_at hl 2 rfl) ?_
            refine lv_iload_n hx hb dX4_fallow_13 rfl (lv_at hl 0 rfl) ?_
            refine lv_iadd hx hb dX4_fallow_14 ?_
            refine lv_iconst (v := 0) hx hb dX4_fallow_15 (by decide) ?_
            obtain ⟨S10, eS10⟩ : ∃ z : sS, z = s_put S8 3 ((x + 9).toNatClampNeg) 0 := ⟨_, rfl⟩
            refine va_iast (cA := cI) (n := 768) (f := S8 3) hx hb hK hP hD hS 3 0 rfl rfl (frm_in hF (j := 9) (by decide)) dX4_fallow_16 (fun H locs hP hD hS => ?_)
            have hP : va_P (dC, dI) vwCl (mW cI d S10) H := by rw [eS10]; exact hP
            have hD : va_D A (mW cI d S10) := by rw [eS10]; exact hD
            refine lv_iinc (v := 10) (lv' := [(2, .int 10), (0, .ref (d 0)), (1, .int x)]) hx hb dX4_fallow_17 hl (k := 0) rfl rfl (by decide) rfl (fun ls hl => ?_)
            refine lv_goto (tgt := 2) hx hb dX4_fallow_20 (by decide) ?_
            refine lv_iload_n hx hb dX4_fallow_2 rfl (lv_at hl 0 rfl) ?_
            refine lv_bipush (v := 9) hx hb dX4_fallow_3 (by decide) ?_
            refine lv_icmp_gt (tgt := 23) hx hb dX4_fallow_5 (by decide) (fun c_11 => ?_) (fun c_11 => ?_)
            · have hZ : S10 = mi_fallow O x := (by (try rw [eS10]); (try rw [eS8]); (try rw [eS6]); (try rw [eS4]); (try rw [eS2]); first | done | rfl | (simp only [mi_fallow]; done))
              rw [hZ] at hP hD
              exact zV_ret hx hb hr hlocks hP hD hS dX4_fallow_23
            · exact absurd c_11 (by decide)
set_option maxHeartbeats 4000000 in
set_option maxRecDepth 100000 in
theorem c_X4_come (l : Launch) (dC : Nat → ClassId) (dI : Nat → Nat → Nat) (cI : ClassId) (d : Nat → Nat) (h w : Nat) (O : sS) (t f x : Int32) (hG0 : gem h w O) : zV l yX4_come wsX4_come { frames := 2, cells := 0, slots := 0, locals := 44 } (dC, dI) cI [.ref (d 0), .int t, .int f, .int x] (mW cI d O) (mW cI d (mi_come O t f x)) := by
  refine zV_of (cc := cX4_come) (maxL := 4) (ret := none) (by decide) rfl (Nat.le_of_ble_eq_true rfl) ?_
  intro p e s m below meth c A ls C0 hl
  obtain ⟨hx, hb, hr, hml, hown, hts, hlocks, hK, hN, hA, hP, hD, hS⟩ := C0
  have hown : s.vm.findClass RX4 = some m.cls := hown
  have hl : lv_has ls 4 [(0, .ref (d 0)), (1, .int t), (2, .int f), (3, .int x)] := hl
  have hf9 := hts (.fieldLink RX4 9 "PaddyTerracesModel" "n" "[I") (by decide +kernel)
  have hf16 := hts (.fieldLink RX4 16 "PaddyTerracesModel" "fields" "[I") (by decide +kernel)
  have hinX4 : ∀ w ∈ wsX40, w ∈ wsX4_come := by decide +kernel
  have hS0 := hS
  have hN64 := gem_hw hG0
  have hW9 := gem_w hG0
  obtain ⟨-, -, hh2, hh8, hw2, hw8⟩ := id hG0
  refine lv_aload_n hx hb dX4_come_0 rfl (lv_at hl 0 rfl) ?_
  refine lv_iload_n hx hb dX4_come_1 rfl (lv_at hl 1 rfl) ?_
  refine lv_iload_n hx hb dX4_come_2 rfl (lv_at hl 2 rfl) ?_
  refine zI_V (pre := ([] : va_W)) (wc := mW cI d O) (post := ([] : va_W)) (w1 := mW cI d O) ⟨hx, hb, hml, hown, hts⟩ (c_X4_isField l dC dI cI d O t f) (cwV 2 hts gX4_come_X4_isField rfl rfl rfl (by decide +kernel) ⟨Nat.le_of_ble_eq_true rfl, Nat.le_of_ble_eq_true rfl⟩) (by simp only [List.append_assoc, List.append_nil, List.nil_append]) hK hN (ci := 4) (q0 := 0) rfl rfl rfl hP hD hS hA rfl hl.1 rfl (Nat.le_of_ble_eq_true rfl) dX4_come_3 ⟨Nat.le_of_ble_eq_true rfl, Nat.le_of_ble_eq_true rfl⟩ (fun H locs hP hD hS => ?_)
  have hP : va_P (dC, dI) vwCl (mW cI d O) H := by simpa only [List.append_assoc, List.append_nil, List.nil_append] using hP
  have hD : va_D A (mW cI d O) := by simpa only [List.append_assoc, List.append_nil, List.nil_append] using hD
  refine lv_if_eq (tgt := 29) hx hb dX4_come_6 (by decide) (fun c_1 => ?_) (fun c_1 => ?_)
  · refine lv_aload_n hx hb dX4_come_29 rfl (lv_at hl 0 rfl) ?_
    refine va_get (D := (dC, dI)) (ci := 4) (v := .ref (d 1)) (C := RX4) (T := TX4) (N := 7) hx hb hts hinX4 hown hK hP 0 rfl rfl 1 (by decide) hf9 (fun _ h9 => h9) rfl dX4_come_30 ?_
    refine lv_iconst (v := 3) hx hb dX4_come_33 (by decide) ?_
    refine lv_dup2_11 hx hb dX4_come_34 rfl rfl ?_
    refine va_ialdk 3 (cA := cI) (n := 7) (f := O 1) hx hb hK hP 1 0 rfl rfl rfl (by decide) (by decide) dX4_come_35 ?_
    refine lv_iload_n hx hb dX4_come_36 rfl (lv_at hl 3 rfl) ?_
    refine lv_iadd hx hb dX4_come_37 ?_
    obtain ⟨S2, eS2⟩ : ∃ z : sS, z = s_put O 1 3 ((O 1 3) + x) := ⟨_, rfl⟩
    refine va_iastk 3 (cA := cI) (n := 7) (f := O 1) hx hb hK hP hD hS 1 0 rfl rfl rfl (by decide) (by decide) dX4_come_38 (fun H locs hP hD hS => ?_)
    have hP : va_P (dC, dI) vwCl (mW cI d S2) H := by rw [eS2]; exact hP
    have hD : va_D A (mW cI d S2) := by rw [eS2]; exact hD
    have hGS2 : gem h w S2 := by rw [eS2]; exact gem_put hG0 (Or.inr (by decide)) _
    have hZ : S2 = mi_come O t f x := (by (try rw [eS2]); first | done | rfl | (simp only [mi_come, if_pos c_1]; done) | (unfold mi_come; simp only [if_pos c_1]; done))
    rw [hZ] at hP hD
    exact zV_ret hx hb hr hlocks hP hD hS dX4_come_39
  · refine lv_aload_n hx hb dX4_come_9 rfl (lv_at hl 0 rfl) ?_
    refine va_get (D := (dC, dI)) (ci := 4) (v := .ref (d 3)) (C := RX4) (T := TX4) (N := 7) hx hb hts hinX4 hown hK hP 0 rfl rfl 3 (by decide) hf16 (fun _ h9 => h9) rfl dX4_come_10 ?_
    refine lv_aload_n hx hb dX4_come_13 rfl (lv_at hl 0 rfl) ?_
    refine lv_iload_n hx hb dX4_come_14 rfl (lv_at hl 1 rfl) ?_
    refine lv_iload_n hx hb dX4_come_15 rfl (lv_at hl 2 rfl) ?_
    refine zI_V (pre := ([] : va_W)) (wc := mW cI d O) (post := ([] : va_W)) (w1 := mW cI d O) ⟨hx, hb, hml, hown, hts⟩ (c_X4_at l dC dI cI d O t f) (cwV 2 hts gX4_come_X4_at rfl rfl rfl (by decide +kernel) ⟨Nat.le_of_ble_eq_true rfl, Nat.le_of_ble_eq_true rfl⟩) (by simp only [List.append_assoc, List.append_nil, List.nil_append]) hK hN (ci := 4) (q0 := 0) rfl rfl rfl hP hD hS hA rfl hl.1 rfl (Nat.le_of_ble_eq_true rfl) dX4_come_16 ⟨Nat.le_of_ble_eq_true rfl, Nat.le_of_ble_eq_true rfl⟩ (fun H locs hP hD hS => ?_)
    have hP : va_P (dC, dI) vwCl (mW cI d O) H := by simpa only [List.append_assoc, List.append_nil, List.nil_append] using hP
    have hD : va_D A (mW cI d O) := by simpa only [List.append_assoc, List.append_nil, List.nil_append] using hD
    refine lv_iconst (v := 0) hx hb dX4_come_19 (by decide) ?_
    refine lv_iadd hx hb dX4_come_20 ?_
    refine lv_dup2_11 hx hb dX4_come_21 rfl rfl ?_
    refine va_iald (cA := cI) (n := 768) (f := O 3) hx hb hK hP 3 0 rfl rfl (frm_in (gem_frm hG0 c_1) (j := 0) (by decide)) dX4_come_22 ?_
    refine lv_iload_n hx hb dX4_come_23 rfl (lv_at hl 3 rfl) ?_
    refine lv_iadd hx hb dX4_come_24 ?_
    obtain ⟨S3, eS3⟩ : ∃ z : sS, z = s_put O 3 (((mi_at O t f) + 0).toNatClampNeg) ((O 3 ((mi_at O t f) + 0).toNatClampNeg) + x) := ⟨_, rfl⟩
    refine va_iast (cA := cI) (n := 768) (f := O 3) hx hb hK hP hD hS 3 0 rfl rfl (frm_in (gem_frm hG0 c_1) (j := 0) (by decide)) dX4_come_25 (fun H locs hP hD hS => ?_)
    have hP : va_P (dC, dI) vwCl (mW cI d S3) H := by rw [eS3]; exact hP
    have hD : va_D A (mW cI d S3) := by rw [eS3]; exact hD
    have hGS3 : gem h w S3 := by rw [eS3]; exact gem_put hG0 (Or.inl (by decide)) _
    refine lv_goto (tgt := 39) hx hb dX4_come_26 (by decide) ?_
    have hZ : S3 = mi_come O t f x := (by (try rw [eS3]); first | done | rfl | (simp only [mi_come, if_neg c_1]; done) | (unfold mi_come; simp only [if_neg c_1]; done))
    rw [hZ] at hP hD
    exact zV_ret hx hb hr hlocks hP hD hS dX4_come_39

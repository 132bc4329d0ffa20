set_option maxHeartbeats 4000000 in
set_option maxRecDepth 100000 in
theorem c_X4_keep (l : Launch) (dC : Nat → ClassId) (dI : Nat → Nat → Nat) (cI : ClassId) (d : Nat → Nat) (h w : Nat) (O : sS) (hG0 : gem h w O) : zV l yX4_keep wsX4_keep { frames := 1, cells := 0, slots := 0, locals := 60 } (dC, dI) cI [.ref (d 0)] (mW cI d O) (mW cI d (mi_keep O)) := by
  refine zV_of (cc := cX4_keep) (maxL := 1) (ret := none) (by decide) rfl (Nat.le_of_ble_eq_true rfl) ?_
  intro p e s m below meth c A ls C0 hl
  obtain ⟨hx, hb, hr, hml, hown, hts, hlocks, hK, hN, hA, hP, hD, hS⟩ := C0
  have hown : s.vm.findClass RX4 = some m.cls := hown
  have hl : lv_has ls 1 [(0, .ref (d 0))] := hl
  have hf9 := hts (.fieldLink RX4 9 "PaddyTerracesModel" "n" "[I") (by decide +kernel)
  have hf16 := hts (.fieldLink RX4 16 "PaddyTerracesModel" "fields" "[I") (by decide +kernel)
  have hf22 := hts (.fieldLink RX4 22 "PaddyTerracesModel" "spareCounts" "[I") (by decide +kernel)
  have hf25 := hts (.fieldLink RX4 25 "PaddyTerracesModel" "spareFields" "[I") (by decide +kernel)
  have hi_Sys := hts (.initialized "java/lang/System") (by decide +kernel)
  have hm32 := hts (.methodLink RX4 32 arraycopyName) (by decide +kernel)
  have hn_acp := hts (.native arraycopyName) (by decide +kernel)
  have hs_acp := hts (.static arraycopyName) (by decide +kernel)
  have hinX4 : ∀ w ∈ wsX40, w ∈ wsX4_keep := by decide +kernel
  have hS0 := hS
  have hN64 := gem_hw hG0
  have hW9 := gem_w hG0
  obtain ⟨-, -, hh2, hh8, hw2, hw8⟩ := id hG0
  refine lv_aload_n hx hb dX4_keep_0 rfl (lv_at hl 0 rfl) ?_
  refine va_get (D := (dC, dI)) (ci := 4) (v := .ref (d 1)) (C := RX4) (T := TX4) (N := 7) hx hb hts hinX4 hown hK hP 0 rfl rfl 1 (by decide) hf9 (fun _ h9 => h9) rfl dX4_keep_1 ?_
  refine lv_iconst (v := 0) hx hb dX4_keep_4 (by decide) ?_
  refine lv_aload_n hx hb dX4_keep_5 rfl (lv_at hl 0 rfl) ?_
  refine va_get (D := (dC, dI)) (ci := 4) (v := .ref (d 5)) (C := RX4) (T := TX4) (N := 7) hx hb hts hinX4 hown hK hP 0 rfl rfl 5 (by decide) hf22 (fun _ h9 => h9) rfl dX4_keep_6 ?_
  refine lv_iconst (v := 0) hx hb dX4_keep_9 (by decide) ?_
  refine lv_bipush (v := 7) hx hb dX4_keep_10 (by decide) ?_
  obtain ⟨S1, eS1⟩ : ∃ z : sS, z = s_row O 5 (va_cpy (O 1) (O 5) (0 : Int32).toNatClampNeg (0 : Int32).toNatClampNeg (7 : Int32).toNatClampNeg) := ⟨_, rfl⟩
  refine va_copyi (c0 := cI) (c1 := cI) (n0 := 7) (n1 := 7) (f := O 1) (g := O 5) (ty := .int) (sp := 0) (dp := 0) (n := 7) hx hb (hml.trans hl.1.symm) hown hm32 hn_acp hs_acp hi_Sys hK hP hD hS 1 5 0 0 rfl rfl rfl rfl rfl (by decide) (by decide) (by decide) (by decide) (by decide) (fun _ _ => rfl) (Nat.le_of_ble_eq_true rfl) (Nat.le_of_ble_eq_true rfl) dX4_keep_12 (fun H locs hP hD hS => ?_)
  have hP : va_P (dC, dI) vwCl (mW cI d S1) H := by rw [eS1]; exact hP
  have hD : va_D A (mW cI d S1) := by rw [eS1]; exact hD
  have hGS1 : gem h w S1 := by rw [eS1]; exact gem_row hG0 (by decide) _
  refine lv_aload_n hx hb dX4_keep_15 rfl (lv_at hl 0 rfl) ?_
  refine va_get (D := (dC, dI)) (ci := 4) (v := .ref (d 3)) (C := RX4) (T := TX4) (N := 7) hx hb hts hinX4 hown hK hP 0 rfl rfl 3 (by decide) hf16 (fun _ h9 => h9) rfl dX4_keep_16 ?_
  refine lv_iconst (v := 0) hx hb dX4_keep_19 (by decide) ?_
  refine lv_aload_n hx hb dX4_keep_20 rfl (lv_at hl 0 rfl) ?_
  refine va_get (D := (dC, dI)) (ci := 4) (v := .ref (d 6)) (C := RX4) (T := TX4) (N := 7) hx hb hts hinX4 hown hK hP 0 rfl rfl 6 (by decide) hf25 (fun _ h9 => h9) rfl dX4_keep_21 ?_
  refine lv_iconst (v := 0) hx hb dX4_keep_24 (by decide) ?_
  refine lv_bipush (v := 12) hx hb dX4_keep_25 (by decide) ?_
  refine lv_aload_n hx hb dX4_keep_27 rfl (lv_at hl 0 rfl) ?_
  refine zI_V (pre := ([] : va_W)) (wc := mW cI d S1) (post := ([] : va_W)) (w1 := mW cI d S1) ⟨hx, hb, hml, hown, hts⟩ (c_X4_many l dC dI cI d S1) (cwV 0 hts gX4_keep_X4_many rfl rfl rfl (by decide +kernel) ⟨Nat.le_of_ble_eq_true rfl, Nat.le_of_ble_eq_true rfl⟩) (by simp only [List.append_assoc, List.append_nil, List.nil_append]) hK hN (ci := 4) (q0 := 0) rfl rfl rfl hP hD hS hA rfl hl.1 rfl (Nat.le_of_ble_eq_true rfl) dX4_keep_28 ⟨Nat.le_of_ble_eq_true rfl, Nat.le_of_ble_eq_true rfl⟩ (fun H locs hP hD hS => ?_)
  have hP : va_P (dC, dI) vwCl (mW cI d S1) H := by simpa only [List.append_assoc, List.append_nil, List.nil_append] using hP
  have hD : va_D A (mW cI d S1) := by simpa only [List.append_assoc, List.append_nil, List.nil_append] using hD
  refine lv_imul hx hb dX4_keep_31 ?_
  obtain ⟨S2, eS2⟩ : ∃ z : sS, z = s_row S1 6 (va_cpy (S1 3) (S1 6) (0 : Int32).toNatClampNeg (0 : Int32).toNatClampNeg (12 * (mi_many S1)).toNatClampNeg) := ⟨_, rfl⟩
  refine va_copyi (c0 := cI) (c1 := cI) (n0 := 768) (n1 := 768) (f := S1 3) (g := S1 6) (ty := .int) (sp := 0) (dp := 0) (n := 12 * (mi_many S1)) hx hb (hml.trans hl.1.symm) hown hm32 hn_acp hs_acp hi_Sys hK hP hD hS 3 6 0 0 rfl rfl rfl rfl rfl (by decide) (by decide) (c12_a hGS1) (c12_b hGS1) (c12_b hGS1) (fun _ _ => rfl) (Nat.le_of_ble_eq_true rfl) (Nat.le_of_ble_eq_true rfl) dX4_keep_32 (fun H locs hP hD hS => ?_)
  have hP : va_P (dC, dI) vwCl (mW cI d S2) H := by rw [eS2]; exact hP
  have hD : va_D A (mW cI d S2) := by rw [eS2]; exact hD
  have hGS2 : gem h w S2 := by rw [eS2]; exact gem_row hGS1 (by decide) _
  have hZ : S2 = mi_keep O := (by (try rw [eS2]); (try rw [eS1]); first | done | rfl)
  rw [hZ] at hP hD
  exact zV_ret hx hb hr hlocks hP hD hS dX4_keep_35
set_option maxHeartbeats 4000000 in
set_option maxRecDepth 100000 in
theorem c_X4_bringBack (l : Launch) (dC : Nat → ClassId) (dI : Nat → Nat → Nat) (cI : ClassId) (d : Nat → Nat) (h w : Nat) (O : sS) (hG0 : gem h w O) (hSp : spr h w O) : zV l yX4_bringBack wsX4_bringBack { frames := 1, cells := 0, slots := 0, locals := 60 } (dC, dI) cI [.ref (d 0)] (mW cI d O) (mW cI d (mi_back O)) := by
  refine zV_of (cc := cX4_bringBack) (maxL := 1) (ret := none) (by decide) rfl (Nat.le_of_ble_eq_true rfl) ?_
  intro p e s m below meth c A ls C0 hl
  obtain ⟨hx, hb, hr, hml, hown, hts, hlocks, hK, hN, hA, hP, hD, hS⟩ := C0
  have hown : s.vm.findClass RX4 = some m.cls := hown
  have hl : lv_has ls 1 [(0, .ref (d 0))] := hl
  have hf9 := hts (.fieldLink RX4 9 "PaddyTerracesModel" "n" "[I") (by decide +kernel)
  have hf16 := hts (.fieldLink RX4 16 "PaddyTerracesModel" "fields" "[I") (by decide +kernel)
  have hf22 := hts (.fieldLink RX4 22 "PaddyTerracesModel" "spareCounts" "[I") (by decide +kernel)
  have hf25 := hts (.fieldLink RX4 25 "PaddyTerracesModel" "spareFields" "[I") (by decide +kernel)
  have hi_Sys := hts (.initialized "java/lang/System") (by decide +kernel)
  have hm32 := hts (.methodLink RX4 32 arraycopyName) (by decide +kernel)
  have hn_acp := hts (.native arraycopyName) (by decide +kernel)
  have hs_acp := hts (.static arraycopyName) (by decide +kernel)
  have hinX4 : ∀ w ∈ wsX40, w ∈ wsX4_bringBack := by decide +kernel
  have hS0 := hS
  have hN64 := gem_hw hG0
  have hW9 := gem_w hG0
  obtain ⟨-, -, hh2, hh8, hw2, hw8⟩ := id hG0
  refine lv_aload_n hx hb dX4_bringBack_0 rfl (lv_at hl 0 rfl) ?_
  refine va_get (D := (dC, dI)) (ci := 4) (v := .ref (d 5)) (C := RX4) (T := TX4) (N := 7) hx hb hts hinX4 hown hK hP 0 rfl rfl 5 (by decide) hf22 (fun _ h9 => h9) rfl dX4_bringBack_1 ?_
  refine lv_iconst (v := 0) hx hb dX4_bringBack_4 (by decide) ?_
  refine lv_aload_n hx hb dX4_bringBack_5 rfl (lv_at hl 0 rfl) ?_
  refine va_get (D := (dC, dI)) (ci := 4) (v := .ref (d 1)) (C := RX4) (T := TX4) (N := 7) hx hb hts hinX4 hown hK hP 0 rfl rfl 1 (by decide) hf9 (fun _ h9 => h9) rfl dX4_bringBack_6 ?_
  refine lv_iconst (v := 0) hx hb dX4_bringBack_9 (by decide) ?_
  refine lv_bipush (v := 7) hx hb dX4_bringBack_10 (by decide) ?_
  obtain ⟨S1, eS1⟩ : ∃ z : sS, z = s_row O 1 (va_cpy (O 5) (O 1) (0 : Int32).toNatClampNeg (0 : Int32).toNatClampNeg (7 : Int32).toNatClampNeg) := ⟨_, rfl⟩
  refine va_copyi (c0 := cI) (c1 := cI) (n0 := 7) (n1 := 7) (f := O 5) (g := O 1) (ty := .int) (sp := 0) (dp := 0) (n := 7) hx hb (hml.trans hl.1.symm) hown hm32 hn_acp hs_acp hi_Sys hK hP hD hS 5 1 0 0 rfl rfl rfl rfl rfl (by decide) (by decide) (by decide) (by decide) (by decide) (fun _ _ => rfl) (Nat.le_of_ble_eq_true rfl) (Nat.le_of_ble_eq_true rfl) dX4_bringBack_12 (fun H locs hP hD hS => ?_)
  have hP : va_P (dC, dI) vwCl (mW cI d S1) H := by rw [eS1]; exact hP
  have hD : va_D A (mW cI d S1) := by rw [eS1]; exact hD
  have hGS1 : gem h w S1 := by rw [eS1]; exact gem_b1 hG0 hSp
  refine lv_aload_n hx hb dX4_bringBack_15 rfl (lv_at hl 0 rfl) ?_
  refine va_get (D := (dC, dI)) (ci := 4) (v := .ref (d 6)) (C := RX4) (T := TX4) (N := 7) hx hb hts hinX4 hown hK hP 0 rfl rfl 6 (by decide) hf25 (fun _ h9 => h9) rfl dX4_bringBack_16 ?_
  refine lv_iconst (v := 0) hx hb dX4_bringBack_19 (by decide) ?_
  refine lv_aload_n hx hb dX4_bringBack_20 rfl (lv_at hl 0 rfl) ?_
  refine va_get (D := (dC, dI)) (ci := 4) (v := .ref (d 3)) (C := RX4) (T := TX4) (N := 7) hx hb hts hinX4 hown hK hP 0 rfl rfl 3 (by decide) hf16 (fun _ h9 => h9) rfl dX4_bringBack_21 ?_
  refine lv_iconst (v := 0) hx hb dX4_bringBack_24 (by decide) ?_
  refine lv_bipush (v := 12) hx hb dX4_bringBack_25 (by decide) ?_
  refine lv_aload_n hx hb dX4_bringBack_27 rfl (lv_at hl 0 rfl) ?_
  refine zI_V (pre := ([] : va_W)) (wc := mW cI d S1) (post := ([] : va_W)) (w1 := mW cI d S1) ⟨hx, hb, hml, hown, hts⟩ (c_X4_many l dC dI cI d S1) (cwV 0 hts gX4_bringBack_X4_many rfl rfl rfl (by decide +kernel) ⟨Nat.le_of_ble_eq_true rfl, Nat.le_of_ble_eq_true rfl⟩) (by simp only [List.append_assoc, List.append_nil, List.nil_append]) hK hN (ci := 4) (q0 := 0) rfl rfl rfl hP hD hS hA rfl hl.1 rfl (Nat.le_of_ble_eq_true rfl) dX4_bringBack_28 ⟨Nat.le_of_ble_eq_true rfl, Nat.le_of_ble_eq_true rfl⟩ (fun H locs hP hD hS => ?_)
  have hP : va_P (dC, dI) vwCl (mW cI d S1) H := by simpa only [List.append_assoc, List.append_nil, List.nil_append] using hP
  have hD : va_D A (mW cI d S1) := by simpa only [List.append_assoc, List.append_nil, List.nil_append] using hD
  refine lv_imul hx hb dX4_bringBack_31 ?_
  obtain ⟨S2, eS2⟩ : ∃ z : sS, z = s_row S1 3 (va_cpy (S1 6) (S1 3) (0 : Int32).toNatClampNeg (0 : Int32).toNatClampNeg (12 * (mi_many S1)).toNatClampNeg) := ⟨_, rfl⟩
  refine va_copyi (c0 := cI) (c1 := cI) (n0 := 768) (n1 := 768) (f := S1 6) (g := S1 3) (ty := .int) (sp := 0) (dp := 0) (n := 12 * (mi_many S1)) hx hb (hml.trans hl.1.symm) hown hm32 hn_acp hs_acp hi_Sys hK hP hD hS 6 3 0 0 rfl rfl rfl rfl rfl (by decide) (by decide) (c12_a hGS1) (c12_b hGS1) (c12_b hGS1) (fun _ _ => rfl) (Nat.le_of_ble_eq_true rfl) (Nat.le_of_ble_eq_true rfl) dX4_bringBack_32 (fun H locs hP hD hS => ?_)
  have hP : va_P (dC, dI) vwCl (mW cI d S2) H := by rw [eS2]; exact hP
  have hD : va_D A (mW cI d S2) := by rw [eS2]; exact hD
  have hZ : S2 = mi_back O := (by (try rw [eS2]); (try rw [eS1]); first | done | rfl)
  rw [hZ] at hP hD
  exact zV_ret hx hb hr hlocks hP hD hS dX4_bringBack_35
set_option maxHeartbeats 4000000 in
set_option maxRecDepth 100000 in
theorem c_X4_worth (l : Launch) (dC : Nat → ClassId) (dI : Nat → Nat → Nat) (cI : ClassId) (d : Nat → Nat) (h w : Nat) (O : sS) (x : Int32) (y : Nat) (hG0 : gem h w O) (hd : O 1 2 = nI y) (hxn : x = nI x.toNatClampNeg) (hy : y + x.toNatClampNeg < 1000000) (hSp : spr h w O) : zI l yX4_worth wsX4_worth { frames := 5, cells := 0, slots := 0, locals := 117 } (dC, dI) cI [.ref (d 0), .int x] (mW cI d O) (mW cI d (mi_worth h w O x.toNatClampNeg)) (mi_worthV h w O x.toNatClampNeg) := by
  refine zI_of (cc := cX4_worth) (maxL := 3) (ret := (some .int)) (by decide) rfl (Nat.le_of_ble_eq_true rfl) ?_
  intro p e s m below meth c A ls C0 hl
  obtain ⟨hx, hb, hr, hml, hown, hts, hlocks, hK, hN, hA, hP, hD, hS⟩ := C0
  have hown : s.vm.findClass RX4 = some m.cls := hown
  have hl : lv_has ls 3 [(0, .ref (d 0)), (1, .int x)] := hl
  have hS0 := hS
  have hN64 := gem_hw hG0
  have hW9 := gem_w hG0
  obtain ⟨-, -, hh2, hh8, hw2, hw8⟩ := id hG0
  refine lv_iconst (v := 0) hx hb dX4_worth_0 (by decide) ?_
  refine lv_istore_n (lv' := [(2, .int 0), (0, .ref (d 0)), (1, .int x)]) hx hb dX4_worth_1 rfl hl (by decide) rfl (fun ls hl => ?_)
  have lp2 : ∀ (n2 i2 : Nat) (T2_0 : sS) (H : Heap) (locs : List Loc) (ls : Array Slot), i2 + n2 = x.toNatClampNeg → T2_0 = itr (fun _ T => mi_day h w T) i2 O → gem h w T2_0 → T2_0 1 2 = nI (y + i2) → T2_0 5 = O 5 → va_P (dC, dI) vwCl (mW cI d T2_0) H → va_D A (mW cI d T2_0) → va_S A s.heap H locs → lv_has ls 3 [(0, .ref (d 0)), (1, .int x), (2, .int (nI i2))] → W p l e ({ frames := 5, cells := 0, slots := 0, locals := 117 } : Room) s m [.ref (d 0), .int x].toArray below meth c H locs 0 0 (zIq (dC, dI) A (mW cI d (mi_worth h w O x.toNatClampNeg)) (mi_worthV h w O x.toNatClampNeg) below [.ref (d 0), .int x].toArray s 0 0) (F0 m 2 ls []) := by
    intro n2
    induction n2 with
    | zero =>
      intro i2 T2_0 H locs ls hi2 eT2_0 hGT2_0 hdT2_0 h5T2_0 hP hD hS hl
      have hi2 : i2 = x.toNatClampNeg := by omega
      rw [hi2] at eT2_0
      refine lv_iload_n hx hb dX4_worth_2 rfl (lv_at hl 2 rfl) ?_
      refine lv_iload_n hx hb dX4_worth_3 rfl (lv_at hl 1 rfl) ?_
      refine lv_icmp_ge (tgt := 17) hx hb dX4_worth_4 (by decide) (fun c_1 => ?_) (fun c_1 => ?_)
      · refine lv_sipush (v := 10000) hx hb dX4_worth_17 (by decide) ?_
        refine lv_aload_n hx hb dX4_worth_20 rfl (lv_at hl 0 rfl) ?_
        refine lv_iconst (v := 5) hx hb dX4_worth_21 (by decide) ?_
        refine zI_V (pre := ([] : va_W)) (wc := mW cI d T2_0) (post := ([] : va_W)) (w1 := mW cI d T2_0) ⟨hx, hb, hml, hown, hts⟩ (c_X4_sum l dC dI cI d h w T2_0 5 hGT2_0 ⟨5, by decide, rfl⟩) (cwV 1 hts gX4_worth_X4_sum rfl rfl rfl (by decide +kernel) ⟨Nat.le_of_ble_eq_true rfl, Nat.le_of_ble_eq_true rfl⟩) (by simp only [List.append_assoc, List.append_nil, List.nil_append]) hK hN (ci := 4) (q0 := 0) rfl rfl rfl hP hD hS hA rfl hl.1 rfl (Nat.le_of_ble_eq_true rfl) dX4_worth_22 ⟨Nat.le_of_ble_eq_true rfl, Nat.le_of_ble_eq_true rfl⟩ (fun H locs hP hD hS => ?_)
        have hP : va_P (dC, dI) vwCl (mW cI d T2_0) H := by simpa only [List.append_assoc, List.append_nil, List.nil_append] using hP
        have hD : va_D A (mW cI d T2_0) := by simpa only [List.append_assoc, List.append_nil, List.nil_append] using hD
        refine lv_imul hx hb dX4_worth_25 ?_
        refine lv_aload_n hx hb dX4_worth_26 rfl (lv_at hl 0 rfl) ?_
        refine lv_bipush (v := 7) hx hb dX4_worth_27 (by decide) ?_
        refine zI_V (pre := ([] : va_W)) (wc := mW cI d T2_0) (post := ([] : va_W)) (w1 := mW cI d T2_0) ⟨hx, hb, hml, hown, hts⟩ (c_X4_sum l dC dI cI d h w T2_0 7 hGT2_0 ⟨7, by decide, rfl⟩) (cwV 1 hts gX4_worth_X4_sum rfl rfl rfl (by decide +kernel) ⟨Nat.le_of_ble_eq_true rfl, Nat.le_of_ble_eq_true rfl⟩) (by simp only [List.append_assoc, List.append_nil, List.nil_append]) hK hN (ci := 4) (q0 := 0) rfl rfl rfl hP hD hS hA rfl hl.1 rfl (Nat.le_of_ble_eq_true rfl) dX4_worth_29 ⟨Nat.le_of_ble_eq_true rfl, Nat.le_of_ble_eq_true rfl⟩ (fun H locs hP hD hS => ?_)
        have hP : va_P (dC, dI) vwCl (mW cI d T2_0) H := by simpa only [List.append_assoc, List.append_nil, List.nil_append] using hP
        have hD : va_D A (mW cI d T2_0) := by simpa only [List.append_assoc, List.append_nil, List.nil_append] using hD
        refine lv_iadd hx hb dX4_worth_32 ?_
        refine lv_istore_n (lv' := [(2, .int ((10000 * (mi_sum h w T2_0 5)) + (mi_sum h w T2_0 7))), (0, .ref (d 0)), (1, .int x)]) hx hb dX4_worth_33 rfl hl (by decide) rfl (fun ls hl => ?_)
        refine lv_aload_n hx hb dX4_worth_34 rfl (lv_at hl 1 rfl) ?_
        obtain ⟨S2, eS2⟩ : ∃ z : sS, z = mi_back T2_0 := ⟨_, rfl⟩
        refine zV_V (pre := ([] : va_W)) (wc := mW cI d T2_0) (post := ([] : va_W)) (w1 := mW cI d S2) ⟨hx, hb, hml, hown, hts⟩ (by rw [eS2]; exact c_X4_bringBack l dC dI cI d h w T2_0 hGT2_0 (spr_5 hSp h5T2_0)) (cwV 0 hts gX4_worth_X4_bringBack rfl rfl rfl (by decide +kernel) ⟨Nat.le_of_ble_eq_true rfl, Nat.le_of_ble_eq_true rfl⟩) (by simp only [List.append_assoc, List.append_nil, List.nil_append]) hK hN (ci := 4) (q0 := 0) rfl rfl rfl hP hD hS hA rfl hl.1 rfl (Nat.le_of_ble_eq_true rfl) dX4_worth_35 ⟨Nat.le_of_ble_eq_true rfl, Nat.le_of_ble_eq_true rfl⟩ (fun H locs hP hD hS => ?_)
        have hP : va_P (dC, dI) vwCl (mW cI d S2) H := by simpa only [List.append_assoc, List.append_nil, List.nil_append] using hP
        have hD : va_D A (mW cI d S2) := by simpa only [List.append_assoc, List.append_nil, List.nil_append] using hD
        have hGS2 : gem h w S2 := by rw [eS2]; exact gem_back hGT2_0 (spr_5 hSp h5T2_0)
        refine lv_iload_n hx hb dX4_worth_38 rfl (lv_at hl 0 rfl) ?_
        have hZ : S2 = mi_worth h w O x.toNatClampNeg := (by (try rw [eS2]); (try rw [eT2_0]); first | done | rfl | (simp only [mi_worth, mi_worthV, mi_days, if_pos c_1]; done) | (unfold mi_worth; simp only [if_pos c_1]; done))
        rw [hZ] at hP hD
        exact zI_ret hx hb hr hlocks hP hD hS rfl (by (try rw [eS2]); (try rw [eT2_0]); first | done | rfl | (simp only [mi_worth, mi_worthV, mi_days, if_pos c_1]; done)) dX4_worth_39
      · exact absurd (by rw [show _ = nI (x.toNatClampNeg) from hxn]; exact nI_le (by omega) (by omega)) c_1
    | succ n2 ih2 =>
      intro i2 T2_0 H locs ls hi2 eT2_0 hGT2_0 hdT2_0 h5T2_0 hP hD hS hl
      refine lv_iload_n hx hb dX4_worth_2 rfl (lv_at hl 2 rfl) ?_
      refine lv_iload_n hx hb dX4_worth_3 rfl (lv_at hl 1 rfl) ?_
      refine lv_icmp_ge (tgt := 17) hx hb dX4_worth_4 (by decide) (fun c_3 => ?_) (fun c_3 => ?_)
      · exact absurd c_3 (by rw [show _ = nI (x.toNatClampNeg) from hxn]; exact nI_ge (by omega) (by omega))
      · refine lv_aload_n hx hb dX4_worth_7 rfl (lv_at hl 0 rfl) ?_
        obtain ⟨S4, eS4⟩ : ∃ z : sS, z = mi_day h w T2_0 := ⟨_, rfl⟩
        refine zV_V (pre := ([] : va_W)) (wc := mW cI d T2_0) (post := ([] : va_W)) (w1 := mW cI d S4) ⟨hx, hb, hml, hown, hts⟩ (by rw [eS4]; exact c_X4_dayOn l dC dI cI d h w T2_0 (y + i2) hGT2_0 hdT2_0 (by omega)) (cwV 0 hts gX4_worth_X4_dayOn rfl rfl rfl (by decide +kernel) ⟨Nat.le_of_ble_eq_true rfl, Nat.le_of_ble_eq_true rfl⟩) (by simp only [List.append_assoc, List.append_nil, List.nil_append]) hK hN (ci := 4) (q0 := 0) rfl rfl rfl hP hD hS hA rfl hl.1 rfl (Nat.le_of_ble_eq_true rfl) dX4_worth_8 ⟨Nat.le_of_ble_eq_true rfl, Nat.le_of_ble_eq_true rfl⟩ (fun H locs hP hD hS => ?_)
        have hP : va_P (dC, dI) vwCl (mW cI d S4) H := by simpa only [List.append_assoc, List.append_nil, List.nil_append] using hP
        have hD : va_D A (mW cI d S4) := by simpa only [List.append_assoc, List.append_nil, List.nil_append] using hD
        have hGS4 : gem h w S4 := by rw [eS4]; exact gem_day hGT2_0
        refine lv_iinc (v := nI (i2 + 1)) (lv' := [(2, .int (nI (i2 + 1))), (0, .ref (d 0)), (1, .int x)]) hx hb dX4_worth_11 hl (k := 2) rfl (show nI i2 + Int32.ofInt 1 = nI (i2 + 1) from nI_1 i2) (by decide) rfl (fun ls hl => ?_)
        refine lv_goto (tgt := 2) hx hb dX4_worth_14 (by decide) ?_
        exact ih2 (i2 + 1) S4 _ _ ls (by omega) (by (try rw [eS4]); (try rw [eT2_0]); rfl) (hGS4) (by rw [eS4]; exact mday_day hdT2_0) (by rw [eS4, mday_row _ (by decide) (by decide)]; exact h5T2_0) hP hD hS (lv_sub hl [1, 2, 0] rfl)
  exact lp2 (x.toNatClampNeg) 0 O _ _ ls (by omega) rfl (hG0) (hd) (rfl) hP hD hS (lv_sub hl [1, 2, 0] rfl)
set_option maxHeartbeats 4000000 in
set_option maxRecDepth 100000 in
theorem c_X4_counted (l : Launch) (dC : Nat → ClassId) (dI : Nat → Nat → Nat) (cI : ClassId) (d : Nat → Nat) (h w : Nat) (O : sS) (x : Int32) (hG0 : gem h w O) (hC : vp_in x 9) : zI l yX4_counted wsX4_counted { frames := 2, cells := 0, slots := 0, locals := 43 } (dC, dI) cI [.ref (d 0), .int x] (mW cI d O) (mW cI d O) (mi_count h w O x) := by
  refine zI_of (cc := cX4_counted) (maxL := 2) (ret := (some .int)) (by decide) rfl (Nat.le_of_ble_eq_true rfl) ?_
  intro p e s m below meth c A ls C0 hl
  obtain ⟨hx, hb, hr, hml, hown, hts, hlocks, hK, hN, hA, hP, hD, hS⟩ := C0
  have hown : s.vm.findClass RX4 = some m.cls := hown
  have hl : lv_has ls 2 [(0, .ref (d 0)), (1, .int x)] := hl
  have hf9 := hts (.fieldLink RX4 9 "PaddyTerracesModel" "n" "[I") (by decide +kernel)
  have hinX4 : ∀ w ∈ wsX40, w ∈ wsX4_counted := by decide +kernel
  have hS0 := hS
  have hN64 := gem_hw hG0
  have hW9 := gem_w hG0
  obtain ⟨-, -, hh2, hh8, hw2, hw8⟩ := id hG0
  refine lv_iload_n hx hb dX4_counted_0 rfl (lv_at hl 1 rfl) ?_
  refine lv_iconst (v := 3) hx hb dX4_counted_1 (by decide) ?_
  refine lv_icmp_ge (tgt := 12) hx hb dX4_counted_2 (by decide) (fun c_1 => ?_) (fun c_1 => ?_)
  · refine lv_iload_n hx hb dX4_counted_12 rfl (lv_at hl 1 rfl) ?_
    refine lv_iconst (v := 3) hx hb dX4_counted_13 (by decide) ?_
    refine lv_icmp_ne (tgt := 25) hx hb dX4_counted_14 (by decide) (fun c_2 => ?_) (fun c_2 => ?_)
    · refine lv_iload_n hx hb dX4_counted_25 rfl (lv_at hl 1 rfl) ?_
      refine lv_iconst (v := 4) hx hb dX4_counted_26 (by decide) ?_
      refine lv_icmp_ne (tgt := 38) hx hb dX4_counted_27 (by decide) (fun c_3 => ?_) (fun c_3 => ?_)
      · refine lv_aload_n hx hb dX4_counted_38 rfl (lv_at hl 0 rfl) ?_
        refine va_get (D := (dC, dI)) (ci := 4) (v := .ref (d 1)) (C := RX4) (T := TX4) (N := 7) hx hb hts hinX4 hown hK hP 0 rfl rfl 1 (by decide) hf9 (fun _ h9 => h9) rfl dX4_counted_39 ?_
        refine lv_iload_n hx hb dX4_counted_42 rfl (lv_at hl 1 rfl) ?_
        refine lv_iconst (v := 2) hx hb dX4_counted_43 (by decide) ?_
        refine lv_isub hx hb dX4_counted_44 ?_
        refine va_iald (cA := cI) (n := 7) (f := O 1) hx hb hK hP 1 0 rfl rfl (cnt_2 hC c_1 c_2 c_3) dX4_counted_45 ?_
        exact zI_ret hx hb hr hlocks hP hD hS rfl (by first | done | rfl | (simp only [mi_count, if_pos c_1, if_neg c_2, if_neg c_3]; done)) dX4_counted_46
      · refine lv_aload_n hx hb dX4_counted_30 rfl (lv_at hl 0 rfl) ?_
        refine lv_iconst (v := 0) hx hb dX4_counted_31 (by decide) ?_
        refine zI_V (pre := ([] : va_W)) (wc := mW cI d O) (post := ([] : va_W)) (w1 := mW cI d O) ⟨hx, hb, hml, hown, hts⟩ (c_X4_sum l dC dI cI d h w O 0 hG0 ⟨0, by decide, rfl⟩) (cwV 1 hts gX4_counted_X4_sum rfl rfl rfl (by decide +kernel) ⟨Nat.le_of_ble_eq_true rfl, Nat.le_of_ble_eq_true rfl⟩) (by simp only [List.append_assoc, List.append_nil, List.nil_append]) hK hN (ci := 4) (q0 := 0) rfl rfl rfl hP hD hS hA rfl hl.1 rfl (Nat.le_of_ble_eq_true rfl) dX4_counted_32 ⟨Nat.le_of_ble_eq_true rfl, Nat.le_of_ble_eq_true rfl⟩ (fun H locs hP hD hS => ?_)
        have hP : va_P (dC, dI) vwCl (mW cI d O) H := by simpa only [List.append_assoc, List.append_nil, List.nil_append] using hP
        have hD : va_D A (mW cI d O) := by simpa only [List.append_assoc, List.append_nil, List.nil_append] using hD
        refine lv_goto (tgt := 46) hx hb dX4_counted_35 (by decide) ?_
        exact zI_ret hx hb hr hlocks hP hD hS rfl (by first | done | rfl | (simp only [mi_count, if_pos c_1, if_neg c_2, if_pos c_3]; done)) dX4_counted_46
    · refine lv_aload_n hx hb dX4_counted_17 rfl (lv_at hl 0 rfl) ?_
      refine lv_iconst (v := 5) hx hb dX4_counted_18 (by decide) ?_
      refine zI_V (pre := ([] : va_W)) (wc := mW cI d O) (post := ([] : va_W)) (w1 := mW cI d O) ⟨hx, hb, hml, hown, hts⟩ (c_X4_sum l dC dI cI d h w O 5 hG0 ⟨5, by decide, rfl⟩) (cwV 1 hts gX4_counted_X4_sum rfl rfl rfl (by decide +kernel) ⟨Nat.le_of_ble_eq_true rfl, Nat.le_of_ble_eq_true rfl⟩) (by simp only [List.append_assoc, List.append_nil, List.nil_append]) hK hN (ci := 4) (q0 := 0) rfl rfl rfl hP hD hS hA rfl hl.1 rfl (Nat.le_of_ble_eq_true rfl) dX4_counted_19 ⟨Nat.le_of_ble_eq_true rfl, Nat.le_of_ble_eq_true rfl⟩ (fun H locs hP hD hS => ?_)
      have hP : va_P (dC, dI) vwCl (mW cI d O) H := by simpa only [List.append_assoc, List.append_nil, List.nil_append] using hP
      have hD : va_D A (mW cI d O) := by simpa only [List.append_assoc, List.append_nil, List.nil_append] using hD
      refine lv_goto (tgt := 46) hx hb dX4_counted_22 (by decide) ?_
      exact zI_ret hx hb hr hlocks hP hD hS rfl (by first | done | rfl | (simp only [mi_count, if_pos c_1, if_pos c_2]; done)) dX4_counted_46
  · refine lv_aload_n hx hb dX4_counted_5 rfl (lv_at hl 0 rfl) ?_
    refine va_get (D := (dC, dI)) (ci := 4) (v := .ref (d 1)) (C := RX4) (T := TX4) (N := 7) hx hb hts hinX4 hown hK hP 0 rfl rfl 1 (by decide) hf9 (fun _ h9 => h9) rfl dX4_counted_6 ?_
    refine lv_iload_n hx hb dX4_counted_9 rfl (lv_at hl 1 rfl) ?_
    refine va_iald (cA := cI) (n := 7) (f := O 1) hx hb hK hP 1 0 rfl rfl (cnt_1n hC c_1) dX4_counted_10 ?_
    exact zI_ret hx hb hr hlocks hP hD hS rfl (by first | done | rfl | (simp only [mi_count, if_neg c_1]; done)) dX4_counted_11

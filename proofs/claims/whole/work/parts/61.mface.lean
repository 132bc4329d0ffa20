set_option maxHeartbeats 4000000 in
set_option maxRecDepth 100000 in
theorem c_X4_pass (l : Launch) (dC : Nat → ClassId) (dI : Nat → Nat → Nat) (cI : ClassId) (d : Nat → Nat) (h w : Nat) (O : sS) (x : Int32) (hG0 : gem h w O) (y : Nat) (hd : O 1 2 = nI y) (hy : y ≤ 2000) : zI l yX4_pass wsX4_pass { frames := 5, cells := 0, slots := 0, locals := 117 } (dC, dI) cI [.ref (d 0), .int x] (mW cI d O) (mW cI d (mpas_S h w (s_put O 0 0 0) x)) (mpas_V h w (s_put O 0 0 0) x) := by
  refine zI_of (cc := cX4_pass) (maxL := 3) (ret := (some .int)) (by decide) rfl (Nat.le_of_ble_eq_true rfl) ?_
  intro p e s m below meth c A ls C0 hl
  obtain ⟨hx, hb, hr, hml, hown, hts, hlocks, hK, hN, hA, hP, hD, hS⟩ := C0
  have hown : s.vm.findClass RX4 = some m.cls := hown
  have hl : lv_has ls 3 [(0, .ref (d 0)), (1, .int x)] := hl
  have hf9 := hts (.fieldLink RX4 9 "PaddyTerracesModel" "n" "[I") (by decide +kernel)
  have hf38 := hts (.fieldLink RX4 38 "PaddyTerracesModel" "thrown" "I") (by decide +kernel)
  have hinX4 : ∀ w ∈ wsX40, w ∈ wsX4_pass := by decide +kernel
  have hS0 := hS
  have hN64 := gem_hw hG0
  have hW9 := gem_w hG0
  obtain ⟨-, -, hh2, hh8, hw2, hw8⟩ := id hG0
  refine lv_aload_n hx hb dX4_pass_0 rfl (lv_at hl 0 rfl) ?_
  refine lv_iconst (v := 0) hx hb dX4_pass_1 (by decide) ?_
  refine va_put (D := (dC, dI)) (ci := 4) (v := .int 0) (ty := .int) (C := RX4) (T := TX4) (N := 7) hx hb hts hinX4 tyX4 tyX4_ok nmX4 hown hK hP hD hS 0 rfl rfl 0 (by decide) hf38 (fun _ h9 => h9) rfl (by decide +kernel) rfl rfl (Nat.le_of_ble_eq_true rfl) dX4_pass_2 (fun H locs hP hD hS => ?_)
  have hP : va_P (dC, dI) vwCl (mW cI d (s_put O 0 0 0)) H := hP
  have hD : va_D A (mW cI d (s_put O 0 0 0)) := hD
  have hGz : gem h w (s_put O 0 0 0) := gem_put hG0 (Or.inl (by decide)) _
  refine lv_iload_n hx hb dX4_pass_5 rfl (lv_at hl 1 rfl) ?_
  refine lv_iconst (v := 1) hx hb dX4_pass_6 (by decide) ?_
  refine lv_bipush (v := 60) hx hb dX4_pass_7 (by decide) ?_
  refine zI_S (pre := (mW cI d (s_put O 0 0 0))) (wc := ([] : va_W)) (post := ([] : va_W)) (w1 := ([] : va_W)) ⟨hx, hb, hml, hown, hts⟩ (c_X4_isIn l dC dI cI x 1 60) (va_cwS 3 hts gX4_pass_X4_isIn rfl rfl rfl (by decide +kernel) ⟨Nat.le_of_ble_eq_true rfl, Nat.le_of_ble_eq_true rfl⟩) (by simp only [List.append_assoc, List.append_nil, List.nil_append]) hK hN hP hD hS hA rfl hl.1 rfl (Nat.le_of_ble_eq_true rfl) dX4_pass_9 ⟨Nat.le_of_ble_eq_true rfl, Nat.le_of_ble_eq_true rfl⟩ (fun H locs hP hD hS => ?_)
  have hP : va_P (dC, dI) vwCl (mW cI d (s_put O 0 0 0)) H := by simpa only [List.append_assoc, List.append_nil, List.nil_append] using hP
  have hD : va_D A (mW cI d (s_put O 0 0 0)) := by simpa only [List.append_assoc, List.append_nil, List.nil_append] using hD
  refine lv_if_ne (tgt := 21) hx hb dX4_pass_12 (by decide) (fun c_1 => ?_) (fun c_1 => ?_)
  · refine lv_aload_n hx hb dX4_pass_21 rfl (lv_at hl 0 rfl) ?_
    refine va_get (D := (dC, dI)) (ci := 4) (v := .ref (d 1)) (C := RX4) (T := TX4) (N := 7) hx hb hts hinX4 hown hK hP 0 rfl rfl 1 (by decide) hf9 (fun _ h9 => h9) rfl dX4_pass_22 ?_
    refine lv_iconst (v := 2) hx hb dX4_pass_25 (by decide) ?_
    refine va_ialdk 2 (cA := cI) (n := 7) (f := (s_put O 0 0 0) 1) hx hb hK hP 1 0 rfl rfl rfl (by decide) (by decide) dX4_pass_26 ?_
    refine lv_iload_n hx hb dX4_pass_27 rfl (lv_at hl 1 rfl) ?_
    refine lv_iadd hx hb dX4_pass_28 ?_
    refine lv_sipush (v := 2000) hx hb dX4_pass_29 (by decide) ?_
    refine lv_icmp_le (tgt := 41) hx hb dX4_pass_32 (by decide) (fun c_2 => ?_) (fun c_2 => ?_)
    · have hxn : x = nI x.toNatClampNeg := (isw_n c_1 (by decide)).1
      have hx9 : x.toNatClampNeg ≤ 60 := by have h9 : (x.toNatClampNeg : Int) ≤ 60 := (isw_n c_1 (by decide)).2.1; omega
      refine lv_iconst (v := 0) hx hb dX4_pass_41 (by decide) ?_
      refine lv_istore_n (lv' := [(2, .int 0), (0, .ref (d 0)), (1, .int x)]) hx hb dX4_pass_42 rfl hl (by decide) rfl (fun ls hl => ?_)
      have lp43 : ∀ (n43 i43 : Nat) (T43_0 : sS) (H : Heap) (locs : List Loc) (ls : Array Slot), i43 + n43 = x.toNatClampNeg → T43_0 = itr (fun _ T => mi_day h w T) i43 (s_put O 0 0 0) → gem h w T43_0 → T43_0 1 2 = nI (y + i43) → T43_0 5 = (s_put O 0 0 0) 5 → va_P (dC, dI) vwCl (mW cI d T43_0) H → va_D A (mW cI d T43_0) → va_S A s.heap H locs → lv_has ls 3 [(0, .ref (d 0)), (1, .int x), (2, .int (nI i43))] → W p l e ({ frames := 5, cells := 0, slots := 0, locals := 117 } : Room) s m [.ref (d 0), .int x].toArray below meth c H locs 0 0 (zIq (dC, dI) A (mW cI d (mpas_S h w (s_put O 0 0 0) x)) (mpas_V h w (s_put O 0 0 0) x) below [.ref (d 0), .int x].toArray s 0 0) (F0 m 43 ls []) := by
        intro n43
        induction n43 with
        | zero =>
          intro i43 T43_0 H locs ls hi43 eT43_0 hGT43_0 hdT43_0 h5T43_0 hP hD hS hl
          have hi43 : i43 = x.toNatClampNeg := by omega
          rw [hi43] at eT43_0
          refine lv_iload_n hx hb dX4_pass_43 rfl (lv_at hl 2 rfl) ?_
          refine lv_iload_n hx hb dX4_pass_44 rfl (lv_at hl 1 rfl) ?_
          refine lv_icmp_ge (tgt := 58) hx hb dX4_pass_45 (by decide) (fun c_3 => ?_) (fun c_3 => ?_)
          · refine lv_aload_n hx hb dX4_pass_58 rfl (lv_at hl 0 rfl) ?_
            refine lv_iconst (v := 5) hx hb dX4_pass_59 (by decide) ?_
            refine zI_V (pre := ([] : va_W)) (wc := mW cI d T43_0) (post := ([] : va_W)) (w1 := mW cI d T43_0) ⟨hx, hb, hml, hown, hts⟩ (c_X4_sum l dC dI cI d h w T43_0 5 hGT43_0 ⟨5, by decide, rfl⟩) (cwV 1 hts gX4_pass_X4_sum rfl rfl rfl (by decide +kernel) ⟨Nat.le_of_ble_eq_true rfl, Nat.le_of_ble_eq_true rfl⟩) (by simp only [List.append_assoc, List.append_nil, List.nil_append]) hK hN (ci := 4) (q0 := 0) rfl rfl rfl hP hD hS hA rfl hl.1 rfl (Nat.le_of_ble_eq_true rfl) dX4_pass_60 ⟨Nat.le_of_ble_eq_true rfl, Nat.le_of_ble_eq_true rfl⟩ (fun H locs hP hD hS => ?_)
            have hP : va_P (dC, dI) vwCl (mW cI d T43_0) H := by simpa only [List.append_assoc, List.append_nil, List.nil_append] using hP
            have hD : va_D A (mW cI d T43_0) := by simpa only [List.append_assoc, List.append_nil, List.nil_append] using hD
            have hZ : T43_0 = mpas_S h w (s_put O 0 0 0) x := (by (try rw [eT43_0]); first | done | rfl | (simp only [mpas_S, mpas_V, mi_days, if_neg c_1, if_pos c_2, if_pos c_3]; done) | (unfold mpas_S; simp only [if_neg c_1, if_pos c_2, if_pos c_3]; done))
            rw [hZ] at hP hD
            exact zI_ret hx hb hr hlocks hP hD hS rfl (by (try rw [eT43_0]); first | done | rfl | (simp only [mpas_S, mpas_V, mi_days, if_neg c_1, if_pos c_2, if_pos c_3]; done)) dX4_pass_63
          · exact absurd (by rw [show _ = nI (x.toNatClampNeg) from hxn]; exact nI_le (by omega) (by omega)) c_3
        | succ n43 ih43 =>
          intro i43 T43_0 H locs ls hi43 eT43_0 hGT43_0 hdT43_0 h5T43_0 hP hD hS hl
          refine lv_iload_n hx hb dX4_pass_43 rfl (lv_at hl 2 rfl) ?_
          refine lv_iload_n hx hb dX4_pass_44 rfl (lv_at hl 1 rfl) ?_
          refine lv_icmp_ge (tgt := 58) hx hb dX4_pass_45 (by decide) (fun c_4 => ?_) (fun c_4 => ?_)
          · exact absurd c_4 (by rw [show _ = nI (x.toNatClampNeg) from hxn]; exact nI_ge (by omega) (by omega))
          · refine lv_aload_n hx hb dX4_pass_48 rfl (lv_at hl 0 rfl) ?_
            obtain ⟨S5, eS5⟩ : ∃ z : sS, z = mi_day h w T43_0 := ⟨_, rfl⟩
            refine zV_V (pre := ([] : va_W)) (wc := mW cI d T43_0) (post := ([] : va_W)) (w1 := mW cI d S5) ⟨hx, hb, hml, hown, hts⟩ (by rw [eS5]; exact c_X4_dayOn l dC dI cI d h w T43_0 (y + i43) hGT43_0 hdT43_0 (by omega)) (cwV 0 hts gX4_pass_X4_dayOn rfl rfl rfl (by decide +kernel) ⟨Nat.le_of_ble_eq_true rfl, Nat.le_of_ble_eq_true rfl⟩) (by simp only [List.append_assoc, List.append_nil, List.nil_append]) hK hN (ci := 4) (q0 := 0) rfl rfl rfl hP hD hS hA rfl hl.1 rfl (Nat.le_of_ble_eq_true rfl) dX4_pass_49 ⟨Nat.le_of_ble_eq_true rfl, Nat.le_of_ble_eq_true rfl⟩ (fun H locs hP hD hS => ?_)
            have hP : va_P (dC, dI) vwCl (mW cI d S5) H := by simpa only [List.append_assoc, List.append_nil, List.nil_append] using hP
            have hD : va_D A (mW cI d S5) := by simpa only [List.append_assoc, List.append_nil, List.nil_append] using hD
            have hGS5 : gem h w S5 := by rw [eS5]; exact gem_day hGT43_0
            refine lv_iinc (v := nI (i43 + 1)) (lv' := [(2, .int (nI (i43 + 1))), (0, .ref (d 0)), (1, .int x)]) hx hb dX4_pass_52 hl (k := 2) rfl (show nI i43 + Int32.ofInt 1 = nI (i43 + 1) from nI_1 i43) (by decide) rfl (fun ls hl => ?_)
            refine lv_goto (tgt := 43) hx hb dX4_pass_55 (by decide) ?_
            exact ih43 (i43 + 1) S5 _ _ ls (by omega) (by (try rw [eS5]); (try rw [eT43_0]); rfl) (hGS5) (by rw [eS5]; exact mday_day hdT43_0) (by rw [eS5, mday_row _ (by decide) (by decide)]; exact h5T43_0) hP hD hS (lv_sub hl [1, 2, 0] rfl)
      exact lp43 (x.toNatClampNeg) 0 (s_put O 0 0 0) _ _ ls (by omega) rfl (hGz) (hd) (rfl) hP hD hS (lv_sub hl [1, 2, 0] rfl)
    · refine lv_aload_n hx hb dX4_pass_35 rfl (lv_at hl 0 rfl) ?_
      refine lv_iconst (v := 2) hx hb dX4_pass_36 (by decide) ?_
      obtain ⟨S6, eS6⟩ : ∃ z : sS, z = mfail (s_put O 0 0 0) 2 := ⟨_, rfl⟩
      refine zI_V (pre := ([] : va_W)) (wc := mW cI d (s_put O 0 0 0)) (post := ([] : va_W)) (w1 := mW cI d S6) ⟨hx, hb, hml, hown, hts⟩ (by rw [eS6]; exact c_X4_fail l dC dI cI d (s_put O 0 0 0) 2) (cwV 1 hts gX4_pass_X4_fail rfl rfl rfl (by decide +kernel) ⟨Nat.le_of_ble_eq_true rfl, Nat.le_of_ble_eq_true rfl⟩) (by simp only [List.append_assoc, List.append_nil, List.nil_append]) hK hN (ci := 4) (q0 := 0) rfl rfl rfl hP hD hS hA rfl hl.1 rfl (Nat.le_of_ble_eq_true rfl) dX4_pass_37 ⟨Nat.le_of_ble_eq_true rfl, Nat.le_of_ble_eq_true rfl⟩ (fun H locs hP hD hS => ?_)
      have hP : va_P (dC, dI) vwCl (mW cI d S6) H := by simpa only [List.append_assoc, List.append_nil, List.nil_append] using hP
      have hD : va_D A (mW cI d S6) := by simpa only [List.append_assoc, List.append_nil, List.nil_append] using hD
      have hZ : S6 = mpas_S h w (s_put O 0 0 0) x := (by (try rw [eS6]); first | done | rfl | (simp only [mpas_S, mpas_V, mi_days, if_neg c_1, if_neg c_2]; done) | (unfold mpas_S; simp only [if_neg c_1, if_neg c_2]; done))
      rw [hZ] at hP hD
      exact zI_ret hx hb hr hlocks hP hD hS rfl (by (try rw [eS6]); first | done | rfl | (simp only [mpas_S, mpas_V, mi_days, if_neg c_1, if_neg c_2]; done)) dX4_pass_40
  · refine lv_aload_n hx hb dX4_pass_15 rfl (lv_at hl 0 rfl) ?_
    refine lv_iconst (v := 1) hx hb dX4_pass_16 (by decide) ?_
    obtain ⟨S7, eS7⟩ : ∃ z : sS, z = mfail (s_put O 0 0 0) 1 := ⟨_, rfl⟩
    refine zI_V (pre := ([] : va_W)) (wc := mW cI d (s_put O 0 0 0)) (post := ([] : va_W)) (w1 := mW cI d S7) ⟨hx, hb, hml, hown, hts⟩ (by rw [eS7]; exact c_X4_fail l dC dI cI d (s_put O 0 0 0) 1) (cwV 1 hts gX4_pass_X4_fail rfl rfl rfl (by decide +kernel) ⟨Nat.le_of_ble_eq_true rfl, Nat.le_of_ble_eq_true rfl⟩) (by simp only [List.append_assoc, List.append_nil, List.nil_append]) hK hN (ci := 4) (q0 := 0) rfl rfl rfl hP hD hS hA rfl hl.1 rfl (Nat.le_of_ble_eq_true rfl) dX4_pass_17 ⟨Nat.le_of_ble_eq_true rfl, Nat.le_of_ble_eq_true rfl⟩ (fun H locs hP hD hS => ?_)
    have hP : va_P (dC, dI) vwCl (mW cI d S7) H := by simpa only [List.append_assoc, List.append_nil, List.nil_append] using hP
    have hD : va_D A (mW cI d S7) := by simpa only [List.append_assoc, List.append_nil, List.nil_append] using hD
    have hZ : S7 = mpas_S h w (s_put O 0 0 0) x := (by (try rw [eS7]); first | done | rfl | (simp only [mpas_S, mpas_V, mi_days, if_pos c_1]; done) | (unfold mpas_S; simp only [if_pos c_1]; done))
    rw [hZ] at hP hD
    exact zI_ret hx hb hr hlocks hP hD hS rfl (by (try rw [eS7]); first | done | rfl | (simp only [mpas_S, mpas_V, mi_days, if_pos c_1]; done)) dX4_pass_20
set_option maxHeartbeats 4000000 in
set_option maxRecDepth 100000 in
theorem c_X4_foresee (l : Launch) (dC : Nat → ClassId) (dI : Nat → Nat → Nat) (cI : ClassId) (d : Nat → Nat) (h w : Nat) (O : sS) (i x : Int32) (hG0 : gem h w O) (y : Nat) (hd : O 1 2 = nI y) (hy : y ≤ 2000) : zI l yX4_foresee wsX4_foresee { frames := 5, cells := 0, slots := 0, locals := 117 } (dC, dI) cI [.ref (d 0), .int i, .int x] (mW cI d O) (mW cI d (mfor_S h w (s_put O 0 0 0) i x)) (mfor_V h w (s_put O 0 0 0) i x) := by
  refine zI_of (cc := cX4_foresee) (maxL := 4) (ret := (some .int)) (by decide) rfl (Nat.le_of_ble_eq_true rfl) ?_
  intro p e s m below meth c A ls C0 hl
  obtain ⟨hx, hb, hr, hml, hown, hts, hlocks, hK, hN, hA, hP, hD, hS⟩ := C0
  have hown : s.vm.findClass RX4 = some m.cls := hown
  have hl : lv_has ls 4 [(0, .ref (d 0)), (1, .int i), (2, .int x)] := hl
  have hf9 := hts (.fieldLink RX4 9 "PaddyTerracesModel" "n" "[I") (by decide +kernel)
  have hf22 := hts (.fieldLink RX4 22 "PaddyTerracesModel" "spareCounts" "[I") (by decide +kernel)
  have hf38 := hts (.fieldLink RX4 38 "PaddyTerracesModel" "thrown" "I") (by decide +kernel)
  have hinX4 : ∀ w ∈ wsX40, w ∈ wsX4_foresee := by decide +kernel
  have hS0 := hS
  have hN64 := gem_hw hG0
  have hW9 := gem_w hG0
  obtain ⟨-, -, hh2, hh8, hw2, hw8⟩ := id hG0
  refine lv_aload_n hx hb dX4_foresee_0 rfl (lv_at hl 0 rfl) ?_
  refine lv_iconst (v := 0) hx hb dX4_foresee_1 (by decide) ?_
  refine va_put (D := (dC, dI)) (ci := 4) (v := .int 0) (ty := .int) (C := RX4) (T := TX4) (N := 7) hx hb hts hinX4 tyX4 tyX4_ok nmX4 hown hK hP hD hS 0 rfl rfl 0 (by decide) hf38 (fun _ h9 => h9) rfl (by decide +kernel) rfl rfl (Nat.le_of_ble_eq_true rfl) dX4_foresee_2 (fun H locs hP hD hS => ?_)
  have hP : va_P (dC, dI) vwCl (mW cI d (s_put O 0 0 0)) H := hP
  have hD : va_D A (mW cI d (s_put O 0 0 0)) := hD
  have hGz : gem h w (s_put O 0 0 0) := gem_put hG0 (Or.inl (by decide)) _
  refine lv_iload_n hx hb dX4_foresee_5 rfl (lv_at hl 1 rfl) ?_
  refine lv_iconst (v := 1) hx hb dX4_foresee_6 (by decide) ?_
  refine lv_bipush (v := 20) hx hb dX4_foresee_7 (by decide) ?_
  refine zI_S (pre := (mW cI d (s_put O 0 0 0))) (wc := ([] : va_W)) (post := ([] : va_W)) (w1 := ([] : va_W)) ⟨hx, hb, hml, hown, hts⟩ (c_X4_isIn l dC dI cI i 1 20) (va_cwS 3 hts gX4_foresee_X4_isIn rfl rfl rfl (by decide +kernel) ⟨Nat.le_of_ble_eq_true rfl, Nat.le_of_ble_eq_true rfl⟩) (by simp only [List.append_assoc, List.append_nil, List.nil_append]) hK hN hP hD hS hA rfl hl.1 rfl (Nat.le_of_ble_eq_true rfl) dX4_foresee_9 ⟨Nat.le_of_ble_eq_true rfl, Nat.le_of_ble_eq_true rfl⟩ (fun H locs hP hD hS => ?_)
  have hP : va_P (dC, dI) vwCl (mW cI d (s_put O 0 0 0)) H := by simpa only [List.append_assoc, List.append_nil, List.nil_append] using hP
  have hD : va_D A (mW cI d (s_put O 0 0 0)) := by simpa only [List.append_assoc, List.append_nil, List.nil_append] using hD
  refine lv_if_ne (tgt := 21) hx hb dX4_foresee_12 (by decide) (fun c_1 => ?_) (fun c_1 => ?_)
  · refine lv_iload_n hx hb dX4_foresee_21 rfl (lv_at hl 2 rfl) ?_
    refine lv_iconst (v := 0) hx hb dX4_foresee_22 (by decide) ?_
    refine lv_iconst (v := 3) hx hb dX4_foresee_23 (by decide) ?_
    refine zI_S (pre := (mW cI d (s_put O 0 0 0))) (wc := ([] : va_W)) (post := ([] : va_W)) (w1 := ([] : va_W)) ⟨hx, hb, hml, hown, hts⟩ (c_X4_isIn l dC dI cI x 0 3) (va_cwS 3 hts gX4_foresee_X4_isIn rfl rfl rfl (by decide +kernel) ⟨Nat.le_of_ble_eq_true rfl, Nat.le_of_ble_eq_true rfl⟩) (by simp only [List.append_assoc, List.append_nil, List.nil_append]) hK hN hP hD hS hA rfl hl.1 rfl (Nat.le_of_ble_eq_true rfl) dX4_foresee_24 ⟨Nat.le_of_ble_eq_true rfl, Nat.le_of_ble_eq_true rfl⟩ (fun H locs hP hD hS => ?_)
    have hP : va_P (dC, dI) vwCl (mW cI d (s_put O 0 0 0)) H := by simpa only [List.append_assoc, List.append_nil, List.nil_append] using hP
    have hD : va_D A (mW cI d (s_put O 0 0 0)) := by simpa only [List.append_assoc, List.append_nil, List.nil_append] using hD
    refine lv_if_ne (tgt := 36) hx hb dX4_foresee_27 (by decide) (fun c_2 => ?_) (fun c_2 => ?_)
    · refine lv_aload_n hx hb dX4_foresee_36 rfl (lv_at hl 0 rfl) ?_
      refine va_get (D := (dC, dI)) (ci := 4) (v := .ref (d 1)) (C := RX4) (T := TX4) (N := 7) hx hb hts hinX4 hown hK hP 0 rfl rfl 1 (by decide) hf9 (fun _ h9 => h9) rfl dX4_foresee_37 ?_
      refine lv_iconst (v := 2) hx hb dX4_foresee_40 (by decide) ?_
      refine va_ialdk 2 (cA := cI) (n := 7) (f := (s_put O 0 0 0) 1) hx hb hK hP 1 0 rfl rfl rfl (by decide) (by decide) dX4_foresee_41 ?_
      refine lv_iload_n hx hb dX4_foresee_42 rfl (lv_at hl 1 rfl) ?_
      refine lv_iadd hx hb dX4_foresee_43 ?_
      refine lv_sipush (v := 2000) hx hb dX4_foresee_44 (by decide) ?_
      refine lv_icmp_le (tgt := 56) hx hb dX4_foresee_47 (by decide) (fun c_3 => ?_) (fun c_3 => ?_)
      · have hxn : i = nI i.toNatClampNeg := (isw_n c_1 (by decide)).1
        have hx9 : i.toNatClampNeg ≤ 20 := by have h9 : (i.toNatClampNeg : Int) ≤ 20 := (isw_n c_1 (by decide)).2.1; omega
        refine lv_aload_n hx hb dX4_foresee_56 rfl (lv_at hl 0 rfl) ?_
        obtain ⟨S4, eS4⟩ : ∃ z : sS, z = mi_keep (s_put O 0 0 0) := ⟨_, rfl⟩
        refine zV_V (pre := ([] : va_W)) (wc := mW cI d (s_put O 0 0 0)) (post := ([] : va_W)) (w1 := mW cI d S4) ⟨hx, hb, hml, hown, hts⟩ (by rw [eS4]; exact c_X4_keep l dC dI cI d h w (s_put O 0 0 0) hGz) (cwV 0 hts gX4_foresee_X4_keep rfl rfl rfl (by decide +kernel) ⟨Nat.le_of_ble_eq_true rfl, Nat.le_of_ble_eq_true rfl⟩) (by simp only [List.append_assoc, List.append_nil, List.nil_append]) hK hN (ci := 4) (q0 := 0) rfl rfl rfl hP hD hS hA rfl hl.1 rfl (Nat.le_of_ble_eq_true rfl) dX4_foresee_57 ⟨Nat.le_of_ble_eq_true rfl, Nat.le_of_ble_eq_true rfl⟩ (fun H locs hP hD hS => ?_)
        have hP : va_P (dC, dI) vwCl (mW cI d S4) H := by simpa only [List.append_assoc, List.append_nil, List.nil_append] using hP
        have hD : va_D A (mW cI d S4) := by simpa only [List.append_assoc, List.append_nil, List.nil_append] using hD
        have hGS4 : gem h w S4 := by rw [eS4]; exact gem_keep hGz
        refine lv_iconst (v := 0) hx hb dX4_foresee_60 (by decide) ?_
        refine lv_istore_n (lv' := [(3, .int 0), (0, .ref (d 0)), (1, .int i), (2, .int x)]) hx hb dX4_foresee_61 rfl hl (by decide) rfl (fun ls hl => ?_)
        have lp62 : ∀ (n62 i62 : Nat) (T62_0 : sS) (H : Heap) (locs : List Loc) (ls : Array Slot), i62 + n62 = i.toNatClampNeg → T62_0 = itr (fun _ T => mi_day h w T) i62 S4 → gem h w T62_0 → T62_0 1 2 = nI (y + i62) → T62_0 5 = S4 5 → va_P (dC, dI) vwCl (mW cI d T62_0) H → va_D A (mW cI d T62_0) → va_S A s.heap H locs → lv_has ls 4 [(0, .ref (d 0)), (1, .int i), (2, .int x), (3, .int (nI i62))] → W p l e ({ frames := 5, cells := 0, slots := 0, locals := 117 } : Room) s m [.ref (d 0), .int i, .int x].toArray below meth c H locs 0 0 (zIq (dC, dI) A (mW cI d (mfor_S h w (s_put O 0 0 0) i x)) (mfor_V h w (s_put O 0 0 0) i x) below [.ref (d 0), .int i, .int x].toArray s 0 0) (F0 m 62 ls []) := by
          intro n62
          induction n62 with
          | zero =>
            intro i62 T62_0 H locs ls hi62 eT62_0 hGT62_0 hdT62_0 h5T62_0 hP hD hS hl
            have hi62 : i62 = i.toNatClampNeg := by omega
            rw [hi62] at eT62_0
            refine lv_iload_n hx hb dX4_foresee_62 rfl (lv_at hl 3 rfl) ?_
            refine lv_iload_n hx hb dX4_foresee_63 rfl (lv_at hl 1 rfl) ?_
            refine lv_icmp_ge (tgt := 77) hx hb dX4_foresee_64 (by decide) (fun c_5 => ?_) (fun c_5 => ?_)
            · refine lv_iload_n hx hb dX4_foresee_77 rfl (lv_at hl 2 rfl) ?_
              refine lv_if_ne (tgt := 89) hx hb dX4_foresee_78 (by decide) (fun c_6 => ?_) (fun c_6 => ?_)
              · refine lv_iload_n hx hb dX4_foresee_89 rfl (lv_at hl 2 rfl) ?_
                refine lv_iconst (v := 1) hx hb dX4_foresee_90 (by decide) ?_
                refine lv_icmp_ne (tgt := 103) hx hb dX4_foresee_91 (by decide) (fun c_7 => ?_) (fun c_7 => ?_)
                · refine lv_iload_n hx hb dX4_foresee_103 rfl (lv_at hl 2 rfl) ?_
                  refine lv_iconst (v := 2) hx hb dX4_foresee_104 (by decide) ?_
                  refine lv_icmp_ne (tgt := 124) hx hb dX4_foresee_105 (by decide) (fun c_8 => ?_) (fun c_8 => ?_)
                  · refine lv_aload_n hx hb dX4_foresee_124 rfl (lv_at hl 0 rfl) ?_
                    refine lv_iconst (v := 0) hx hb dX4_foresee_125 (by decide) ?_
                    refine zI_V (pre := ([] : va_W)) (wc := mW cI d T62_0) (post := ([] : va_W)) (w1 := mW cI d T62_0) ⟨hx, hb, hml, hown, hts⟩ (c_X4_sum l dC dI cI d h w T62_0 0 hGT62_0 ⟨0, by decide, rfl⟩) (cwV 1 hts gX4_foresee_X4_sum rfl rfl rfl (by decide +kernel) ⟨Nat.le_of_ble_eq_true rfl, Nat.le_of_ble_eq_true rfl⟩) (by simp only [List.append_assoc, List.append_nil, List.nil_append]) hK hN (ci := 4) (q0 := 0) rfl rfl rfl hP hD hS hA rfl hl.1 rfl (Nat.le_of_ble_eq_true rfl) dX4_foresee_126 ⟨Nat.le_of_ble_eq_true rfl, Nat.le_of_ble_eq_true rfl⟩ (fun H locs hP hD hS => ?_)
                    have hP : va_P (dC, dI) vwCl (mW cI d T62_0) H := by simpa only [List.append_assoc, List.append_nil, List.nil_append] using hP
                    have hD : va_D A (mW cI d T62_0) := by simpa only [List.append_assoc, List.append_nil, List.nil_append] using hD
                    refine lv_istore_n (lv' := [(3, .int (mi_sum h w T62_0 0)), (0, .ref (d 0)), (1, .int i), (2, .int x)]) hx hb dX4_foresee_129 rfl hl (by decide) rfl (fun ls hl => ?_)
                    refine lv_aload_n hx hb dX4_foresee_130 rfl (lv_at hl 1 rfl) ?_
                    obtain ⟨S9, eS9⟩ : ∃ z : sS, z = mi_back T62_0 := ⟨_, rfl⟩
                    refine zV_V (pre := ([] : va_W)) (wc := mW cI d T62_0) (post := ([] : va_W)) (w1 := mW cI d S9) ⟨hx, hb, hml, hown, hts⟩ (by rw [eS9]; exact c_X4_bringBack l dC dI cI d h w T62_0 hGT62_0 (spr_5 (by rw [eS4]; exact spr_keep hGz) h5T62_0)) (cwV 0 hts gX4_foresee_X4_bringBack rfl rfl rfl (by decide +kernel) ⟨Nat.le_of_ble_eq_true rfl, Nat.le_of_ble_eq_true rfl⟩) (by simp only [List.append_assoc, List.append_nil, List.nil_append]) hK hN (ci := 4) (q0 := 0) rfl rfl rfl hP hD hS hA rfl hl.1 rfl (Nat.le_of_ble_eq_true rfl) dX4_foresee_131 ⟨Nat.le_of_ble_eq_true rfl, Nat.le_of_ble_eq_true rfl⟩ (fun H locs hP hD hS => ?_)
                    have hP : va_P (dC, dI) vwCl (mW cI d S9) H := by simpa only [List.append_assoc, List.append_nil, List.nil_append] using hP
                    have hD : va_D A (mW cI d S9) := by simpa only [List.append_assoc, List.append_nil, List.nil_append] using hD
                    have hGS9 : gem h w S9 := by rw [eS9]; exact gem_back hGT62_0 (spr_5 (by rw [eS4]; exact spr_keep hGz) h5T62_0)
                    refine lv_iload_n hx hb dX4_foresee_134 rfl (lv_at hl 0 rfl) ?_
                    have hZ : S9 = mfor_S h w (s_put O 0 0 0) i x := (by (try rw [eS9]); (try rw [eT62_0]); (try rw [eS4]); first | done | rfl | (simp only [mfor_S, mfor_V, mfor_u, mfor_v, mi_days, if_neg c_1, if_neg c_2, if_pos c_3, if_pos c_5, if_neg c_6, if_neg c_7, if_neg c_8]; done) | (unfold mfor_S; simp only [if_neg c_1, if_neg c_2, if_pos c_3, if_pos c_5, if_neg c_6, if_neg c_7, if_neg c_8]; done))
                    rw [hZ] at hP hD
                    exact zI_ret hx hb hr hlocks hP hD hS rfl (by (try rw [eS9]); (try rw [eT62_0]); (try rw [eS4]); first | done | rfl | (simp only [mfor_S, mfor_V, mfor_u, mfor_v, mi_days, if_neg c_1, if_neg c_2, if_pos c_3, if_pos c_5, if_neg c_6, if_neg c_7, if_neg c_8]; done)) dX4_foresee_135
                  · refine lv_aload_n hx hb dX4_foresee_108 rfl (lv_at hl 0 rfl) ?_
                    refine va_get (D := (dC, dI)) (ci := 4) (v := .ref (d 1)) (C := RX4) (T := TX4) (N := 7) hx hb hts hinX4 hown hK hP 0 rfl rfl 1 (by decide) hf9 (fun _ h9 => h9) rfl dX4_foresee_109 ?_
                    refine lv_iconst (v := 3) hx hb dX4_foresee_112 (by decide) ?_
                    refine va_ialdk 3 (cA := cI) (n := 7) (f := T62_0 1) hx hb hK hP 1 0 rfl rfl rfl (by decide) (by decide) dX4_foresee_113 ?_
                    refine lv_aload_n hx hb dX4_foresee_114 rfl (lv_at hl 0 rfl) ?_
                    refine va_get (D := (dC, dI)) (ci := 4) (v := .ref (d 5)) (C := RX4) (T := TX4) (N := 7) hx hb hts hinX4 hown hK hP 0 rfl rfl 5 (by decide) hf22 (fun _ h9 => h9) rfl dX4_foresee_115 ?_
                    refine lv_iconst (v := 3) hx hb dX4_foresee_118 (by decide) ?_
                    refine va_ialdk 3 (cA := cI) (n := 7) (f := T62_0 5) hx hb hK hP 5 0 rfl rfl rfl (by decide) (by decide) dX4_foresee_119 ?_
                    refine lv_isub hx hb dX4_foresee_120 ?_
                    refine lv_goto (tgt := 129) hx hb dX4_foresee_121 (by decide) ?_
                    refine lv_istore_n (lv' := [(3, .int ((T62_0 1 3) - (T62_0 5 3))), (0, .ref (d 0)), (1, .int i), (2, .int x)]) hx hb dX4_foresee_129 rfl hl (by decide) rfl (fun ls hl => ?_)
                    refine lv_aload_n hx hb dX4_foresee_130 rfl (lv_at hl 1 rfl) ?_
                    obtain ⟨S10, eS10⟩ : ∃ z : sS, z = mi_back T62_0 := ⟨_, rfl⟩
                    refine zV_V (pre := ([] : va_W)) (wc := mW cI d T62_0) (post := ([] : va_W)) (w1 := mW cI d S10) ⟨hx, hb, hml, hown, hts⟩ (by rw [eS10]; exact c_X4_bringBack l dC dI cI d h w T62_0 hGT62_0 (spr_5 (by rw [eS4]; exact spr_keep hGz) h5T62_0)) (cwV 0 hts gX4_foresee_X4_bringBack rfl rfl rfl (by decide +kernel) ⟨Nat.le_of_ble_eq_true rfl, Nat.le_of_ble_eq_true rfl⟩) (by simp only [List.append_assoc, List.append_nil, List.nil_append]) hK hN (ci := 4) (q0 := 0) rfl rfl rfl hP hD hS hA rfl hl.1 rfl (Nat.le_of_ble_eq_true rfl) dX4_foresee_131 ⟨Nat.le_of_ble_eq_true rfl, Nat.le_of_ble_eq_true rfl⟩ (fun H locs hP hD hS => ?_)
                    have hP : va_P (dC, dI) vwCl (mW cI d S10) H := by simpa only [List.append_assoc, List.append_nil, List.nil_append] using hP
                    have hD : va_D A (mW cI d S10) := by simpa only [List.append_assoc, List.append_nil, List.nil_append] using hD
                    have hGS10 : gem h w S10 := by rw [eS10]; exact gem_back hGT62_0 (spr_5 (by rw [eS4]; exact spr_keep hGz) h5T62_0)
                    refine lv_iload_n hx hb dX4_foresee_134 rfl (lv_at hl 0 rfl) ?_
                    have hZ : S10 = mfor_S h w (s_put O 0 0 0) i x := (by (try rw [eS10]); (try rw [eT62_0]); (try rw [eS4]); first | done | rfl | (simp only [mfor_S, mfor_V, mfor_u, mfor_v, mi_days, if_neg c_1, if_neg c_2, if_pos c_3, if_pos c_5, if_neg c_6, if_neg c_7, if_pos c_8]; done) | (unfold mfor_S; simp only [if_neg c_1, if_neg c_2, if_pos c_3, if_pos c_5, if_neg c_6, if_neg c_7, if_pos c_8]; done))
                    rw [hZ] at hP hD
                    exact zI_ret hx hb hr hlocks hP hD hS rfl (by (try rw [eS10]); (try rw [eT62_0]); (try rw [eS4]); first | done | rfl | (simp only [mfor_S, mfor_V, mfor_u, mfor_v, mi_days, if_neg c_1, if_neg c_2, if_pos c_3, if_pos c_5, if_neg c_6, if_neg c_7, if_pos c_8]; done)) dX4_foresee_135
                · refine lv_aload_n hx hb dX4_foresee_94 rfl (lv_at hl 0 rfl) ?_
                  refine lv_bipush (v := 7) hx hb dX4_foresee_95 (by decide) ?_
                  refine zI_V (pre := ([] : va_W)) (wc := mW cI d T62_0) (post := ([] : va_W)) (w1 := mW cI d T62_0) ⟨hx, hb, hml, hown, hts⟩ (c_X4_sum l dC dI cI d h w T62_0 7 hGT62_0 ⟨7, by decide, rfl⟩) (cwV 1 hts gX4_foresee_X4_sum rfl rfl rfl (by decide +kernel) ⟨Nat.le_of_ble_eq_true rfl, Nat.le_of_ble_eq_true rfl⟩) (by simp only [List.append_assoc, List.append_nil, List.nil_append]) hK hN (ci := 4) (q0 := 0) rfl rfl rfl hP hD hS hA rfl hl.1 rfl (Nat.le_of_ble_eq_true rfl) dX4_foresee_97 ⟨Nat.le_of_ble_eq_true rfl, Nat.le_of_ble_eq_true rfl⟩ (fun H locs hP hD hS => ?_)
                  have hP : va_P (dC, dI) vwCl (mW cI d T62_0) H := by simpa only [List.append_assoc, List.append_nil, List.nil_append] using hP
                  have hD : va_D A (mW cI d T62_0) := by simpa only [List.append_assoc, List.append_nil, List.nil_append] using hD
                  refine lv_goto (tgt := 129) hx hb dX4_foresee_100 (by decide) ?_
                  refine lv_istore_n (lv' := [(3, .int (mi_sum h w T62_0 7)), (0, .ref (d 0)), (1, .int i), (2, .int x)]) hx hb dX4_foresee_129 rfl hl (by decide) rfl (fun ls hl => ?_)
                  refine lv_aload_n hx hb dX4_foresee_130 rfl (lv_at hl 1 rfl) ?_
                  obtain ⟨S11, eS11⟩ : ∃ z : sS, z = mi_back T62_0 := ⟨_, rfl⟩
                  refine zV_V (pre := ([] : va_W)) (wc := mW cI d T62_0) (post := ([] : va_W)) (w1 := mW cI d S11) ⟨hx, hb, hml, hown, hts⟩ (by rw [eS11]; exact c_X4_bringBack l dC dI cI d h w T62_0 hGT62_0 (spr_5 (by rw [eS4]; exact spr_keep hGz) h5T62_0)) (cwV 0 hts gX4_foresee_X4_bringBack rfl rfl rfl (by decide +kernel) ⟨Nat.le_of_ble_eq_true rfl, Nat.le_of_ble_eq_true rfl⟩) (by simp only [List.append_assoc, List.append_nil, List.nil_append]) hK hN (ci := 4) (q0 := 0) rfl rfl rfl hP hD hS hA rfl hl.1 rfl (Nat.le_of_ble_eq_true rfl) dX4_foresee_131 ⟨Nat.le_of_ble_eq_true rfl, Nat.le_of_ble_eq_true rfl⟩ (fun H locs hP hD hS => ?_)
                  have hP : va_P (dC, dI) vwCl (mW cI d S11) H := by simpa only [List.append_assoc, List.append_nil, List.nil_append] using hP
                  have hD : va_D A (mW cI d S11) := by simpa only [List.append_assoc, List.append_nil, List.nil_append] using hD
                  have hGS11 : gem h w S11 := by rw [eS11]; exact gem_back hGT62_0 (spr_5 (by rw [eS4]; exact spr_keep hGz) h5T62_0)
                  refine lv_iload_n hx hb dX4_foresee_134 rfl (lv_at hl 0 rfl) ?_
                  have hZ : S11 = mfor_S h w (s_put O 0 0 0) i x := (by (try rw [eS11]); (try rw [eT62_0]); (try rw [eS4]); first | done | rfl | (simp only [mfor_S, mfor_V, mfor_u, mfor_v, mi_days, if_neg c_1, if_neg c_2, if_pos c_3, if_pos c_5, if_neg c_6, if_pos c_7]; done) | (unfold mfor_S; simp only [if_neg c_1, if_neg c_2, if_pos c_3, if_pos c_5, if_neg c_6, if_pos c_7]; done))
                  rw [hZ] at hP hD
                  exact zI_ret hx hb hr hlocks hP hD hS rfl (by (try rw [eS11]); (try rw [eT62_0]); (try rw [eS4]); first | done | rfl | (simp only [mfor_S, mfor_V, mfor_u, mfor_v, mi_days, if_neg c_1, if_neg c_2, if_pos c_3, if_pos c_5, if_neg c_6, if_pos c_7]; done)) dX4_foresee_135
              · refine lv_aload_n hx hb dX4_foresee_81 rfl (lv_at hl 0 rfl) ?_
                refine lv_iconst (v := 5) hx hb dX4_foresee_82 (by decide) ?_
                refine zI_V (pre := ([] : va_W)) (wc := mW cI d T62_0) (post := ([] : va_W)) (w1 := mW cI d T62_0) ⟨hx, hb, hml, hown, hts⟩ (c_X4_sum l dC dI cI d h w T62_0 5 hGT62_0 ⟨5, by decide, rfl⟩) (cwV 1 hts gX4_foresee_X4_sum rfl rfl rfl (by decide +kernel) ⟨Nat.le_of_ble_eq_true rfl, Nat.le_of_ble_eq_true rfl⟩) (by simp only [List.append_assoc, List.append_nil, List.nil_append]) hK hN (ci := 4) (q0 := 0) rfl rfl rfl hP hD hS hA rfl hl.1 rfl (Nat.le_of_ble_eq_true rfl) dX4_foresee_83 ⟨Nat.le_of_ble_eq_true rfl, Nat.le_of_ble_eq_true rfl⟩ (fun H locs hP hD hS => ?_)
                have hP : va_P (dC, dI) vwCl (mW cI d T62_0) H := by simpa only [List.append_assoc, List.append_nil, List.nil_append] using hP
                have hD : va_D A (mW cI d T62_0) := by simpa only [List.append_assoc, List.append_nil, List.nil_append] using hD
                refine lv_goto (tgt := 129) hx hb dX4_foresee_86 (by decide) ?_
                refine lv_istore_n (lv' := [(3, .int (mi_sum h w T62_0 5)), (0, .ref (d 0)), (1, .int i), (2, .int x)]) hx hb dX4_foresee_129 rfl hl (by decide) rfl (fun ls hl => ?_)
                refine lv_aload_n hx hb dX4_foresee_130 rfl (lv_at hl 1 rfl) ?_
                obtain ⟨S12, eS12⟩ : ∃ z : sS, z = mi_back T62_0 := ⟨_, rfl⟩
                refine zV_V (pre := ([] : va_W)) (wc := mW cI d T62_0) (post := ([] : va_W)) (w1 := mW cI d S12) ⟨hx, hb, hml, hown, hts⟩ (by rw [eS12]; exact c_X4_bringBack l dC dI cI d h w T62_0 hGT62_0 (spr_5 (by rw [eS4]; exact spr_keep hGz) h5T62_0)) (cwV 0 hts gX4_foresee_X4_bringBack rfl rfl rfl (by decide +kernel) ⟨Nat.le_of_ble_eq_true rfl, Nat.le_of_ble_eq_true rfl⟩) (by simp only [List.append_assoc, List.append_nil, List.nil_append]) hK hN (ci := 4) (q0 := 0) rfl rfl rfl hP hD hS hA rfl hl.1 rfl (Nat.le_of_ble_eq_true rfl) dX4_foresee_131 ⟨Nat.le_of_ble_eq_true rfl, Nat.le_of_ble_eq_true rfl⟩ (fun H locs hP hD hS => ?_)
                have hP : va_P (dC, dI) vwCl (mW cI d S12) H := by simpa only [List.append_assoc, List.append_nil, List.nil_append] using hP
                have hD : va_D A (mW cI d S12) := by simpa only [List.append_assoc, List.append_nil, List.nil_append] using hD
                have hGS12 : gem h w S12 := by rw [eS12]; exact gem_back hGT62_0 (spr_5 (by rw [eS4]; exact spr_keep hGz) h5T62_0)
                refine lv_iload_n hx hb dX4_foresee_134 rfl (lv_at hl 0 rfl) ?_
                have hZ : S12 = mfor_S h w (s_put O 0 0 0) i x := (by (try rw [eS12]); (try rw [eT62_0]); (try rw [eS4]); first | done | rfl | (simp only [mfor_S, mfor_V, mfor_u, mfor_v, mi_days, if_neg c_1, if_neg c_2, if_pos c_3, if_pos c_5, if_pos c_6]; done) | (unfold mfor_S; simp only [if_neg c_1, if_neg c_2, if_pos c_3, if_pos c_5, if_pos c_6]; done))
                rw [hZ] at hP hD
                exact zI_ret hx hb hr hlocks hP hD hS rfl (by (try rw [eS12]); (try rw [eT62_0]); (try rw [eS4]); first | done | rfl | (simp only [mfor_S, mfor_V, mfor_u, mfor_v, mi_days, if_neg c_1, if_neg c_2, if_pos c_3, if_pos c_5, if_pos c_6]; done)) dX4_foresee_135
            · exact absurd (by rw [show _ = nI (i.toNatClampNeg) from hxn]; exact nI_le (by omega) (by omega)) c_5
          | succ n62 ih62 =>
            intro i62 T62_0 H locs ls hi62 eT62_0 hGT62_0 hdT62_0 h5T62_0 hP hD hS hl
            refine lv_iload_n hx hb dX4_foresee_62 rfl (lv_at hl 3 rfl) ?_
            refine lv_iload_n hx hb dX4_foresee_63 rfl (lv_at hl 1 rfl) ?_
            refine lv_icmp_ge (tgt := 77) hx hb dX4_foresee_64 (by decide) (fun c_13 => ?_) (fun c_13 => ?_)
            · exact absurd c_13 (by rw [show _ = nI (i.toNatClampNeg) from hxn]; exact nI_ge (by omega) (by omega))
            · refine lv_aload_n hx hb dX4_foresee_67 rfl (lv_at hl 0 rfl) ?_
              obtain ⟨S14, eS14⟩ : ∃ z : sS, z = mi_day h w T62_0 := ⟨_, rfl⟩
              refine zV_V (pre := ([] : va_W)) (wc := mW cI d T62_0) (post := ([] : va_W)) (w1 := mW cI d S14) ⟨hx, hb, hml, hown, hts⟩ (by rw [eS14]; exact c_X4_dayOn l dC dI cI d h w T62_0 (y + i62) hGT62_0 hdT62_0 (by omega)) (cwV 0 hts gX4_foresee_X4_dayOn rfl rfl rfl (by decide +kernel) ⟨Nat.le_of_ble_eq_true rfl, Nat.le_of_ble_eq_true rfl⟩) (by simp only [List.append_assoc, List.append_nil, List.nil_append]) hK hN (ci := 4) (q0 := 0) rfl rfl rfl hP hD hS hA rfl hl.1 rfl (Nat.le_of_ble_eq_true rfl) dX4_foresee_68 ⟨Nat.le_of_ble_eq_true rfl, Nat.le_of_ble_eq_true rfl⟩ (fun H locs hP hD hS => ?_)
              have hP : va_P (dC, dI) vwCl (mW cI d S14) H := by simpa only [List.append_assoc, List.append_nil, List.nil_append] using hP
              have hD : va_D A (mW cI d S14) := by simpa only [List.append_assoc, List.append_nil, List.nil_append] using hD
              have hGS14 : gem h w S14 := by rw [eS14]; exact gem_day hGT62_0
              refine lv_iinc (v := nI (i62 + 1)) (lv' := [(3, .int (nI (i62 + 1))), (0, .ref (d 0)), (1, .int i), (2, .int x)]) hx hb dX4_foresee_71 hl (k := 3) rfl (show nI i62 + Int32.ofInt 1 = nI (i62 + 1) from nI_1 i62) (by decide) rfl (fun ls hl => ?_)
              refine lv_goto (tgt := 62) hx hb dX4_foresee_74 (by decide) ?_
              exact ih62 (i62 + 1) S14 _ _ ls (by omega) (by (try rw [eS14]); (try rw [eT62_0]); rfl) (hGS14) (by rw [eS14]; exact mday_day hdT62_0) (by rw [eS14, mday_row _ (by decide) (by decide)]; exact h5T62_0) hP hD hS (lv_sub hl [1, 2, 3, 0] rfl)
        exact lp62 (i.toNatClampNeg) 0 S4 _ _ ls (by omega) rfl (hGS4) (by rw [eS4]; exact hd) (rfl) hP hD hS (lv_sub hl [1, 2, 3, 0] rfl)
      · refine lv_aload_n hx hb dX4_foresee_50 rfl (lv_at hl 0 rfl) ?_
        refine lv_iconst (v := 3) hx hb dX4_foresee_51 (by decide) ?_
        obtain ⟨S15, eS15⟩ : ∃ z : sS, z = mfail (s_put O 0 0 0) 3 := ⟨_, rfl⟩
        refine zI_V (pre := ([] : va_W)) (wc := mW cI d (s_put O 0 0 0)) (post := ([] : va_W)) (w1 := mW cI d S15) ⟨hx, hb, hml, hown, hts⟩ (by rw [eS15]; exact c_X4_fail l dC dI cI d (s_put O 0 0 0) 3) (cwV 1 hts gX4_foresee_X4_fail rfl rfl rfl (by decide +kernel) ⟨Nat.le_of_ble_eq_true rfl, Nat.le_of_ble_eq_true rfl⟩) (by simp only [List.append_assoc, List.append_nil, List.nil_append]) hK hN (ci := 4) (q0 := 0) rfl rfl rfl hP hD hS hA rfl hl.1 rfl (Nat.le_of_ble_eq_true rfl) dX4_foresee_52 ⟨Nat.le_of_ble_eq_true rfl, Nat.le_of_ble_eq_true rfl⟩ (fun H locs hP hD hS => ?_)
        have hP : va_P (dC, dI) vwCl (mW cI d S15) H := by simpa only [List.append_assoc, List.append_nil, List.nil_append] using hP
        have hD : va_D A (mW cI d S15) := by simpa only [List.append_assoc, List.append_nil, List.nil_append] using hD
        have hZ : S15 = mfor_S h w (s_put O 0 0 0) i x := (by (try rw [eS15]); first | done | rfl | (simp only [mfor_S, mfor_V, mfor_u, mfor_v, mi_days, if_neg c_1, if_neg c_2, if_neg c_3]; done) | (unfold mfor_S; simp only [if_neg c_1, if_neg c_2, if_neg c_3]; done))
        rw [hZ] at hP hD
        exact zI_ret hx hb hr hlocks hP hD hS rfl (by (try rw [eS15]); first | done | rfl | (simp only [mfor_S, mfor_V, mfor_u, mfor_v, mi_days, if_neg c_1, if_neg c_2, if_neg c_3]; done)) dX4_foresee_55
    · refine lv_aload_n hx hb dX4_foresee_30 rfl (lv_at hl 0 rfl) ?_
      refine lv_iconst (v := 2) hx hb dX4_foresee_31 (by decide) ?_
      obtain ⟨S16, eS16⟩ : ∃ z : sS, z = mfail (s_put O 0 0 0) 2 := ⟨_, rfl⟩
      refine zI_V (pre := ([] : va_W)) (wc := mW cI d (s_put O 0 0 0)) (post := ([] : va_W)) (w1 := mW cI d S16) ⟨hx, hb, hml, hown, hts⟩ (by rw [eS16]; exact c_X4_fail l dC dI cI d (s_put O 0 0 0) 2) (cwV 1 hts gX4_foresee_X4_fail rfl rfl rfl (by decide +kernel) ⟨Nat.le_of_ble_eq_true rfl, Nat.le_of_ble_eq_true rfl⟩) (by simp only [List.append_assoc, List.append_nil, List.nil_append]) hK hN (ci := 4) (q0 := 0) rfl rfl rfl hP hD hS hA rfl hl.1 rfl (Nat.le_of_ble_eq_true rfl) dX4_foresee_32 ⟨Nat.le_of_ble_eq_true rfl, Nat.le_of_ble_eq_true rfl⟩ (fun H locs hP hD hS => ?_)
      have hP : va_P (dC, dI) vwCl (mW cI d S16) H := by simpa only [List.append_assoc, List.append_nil, List.nil_append] using hP
      have hD : va_D A (mW cI d S16) := by simpa only [List.append_assoc, List.append_nil, List.nil_append] using hD
      have hZ : S16 = mfor_S h w (s_put O 0 0 0) i x := (by (try rw [eS16]); first | done | rfl | (simp only [mfor_S, mfor_V, mfor_u, mfor_v, mi_days, if_neg c_1, if_pos c_2]; done) | (unfold mfor_S; simp only [if_neg c_1, if_pos c_2]; done))
      rw [hZ] at hP hD
      exact zI_ret hx hb hr hlocks hP hD hS rfl (by (try rw [eS16]); first | done | rfl | (simp only [mfor_S, mfor_V, mfor_u, mfor_v, mi_days, if_neg c_1, if_pos c_2]; done)) dX4_foresee_35
  · refine lv_aload_n hx hb dX4_foresee_15 rfl (lv_at hl 0 rfl) ?_
    refine lv_iconst (v := 1) hx hb dX4_foresee_16 (by decide) ?_
    obtain ⟨S17, eS17⟩ : ∃ z : sS, z = mfail (s_put O 0 0 0) 1 := ⟨_, rfl⟩
    refine zI_V (pre := ([] : va_W)) (wc := mW cI d (s_put O 0 0 0)) (post := ([] : va_W)) (w1 := mW cI d S17) ⟨hx, hb, hml, hown, hts⟩ (by rw [eS17]; exact c_X4_fail l dC dI cI d (s_put O 0 0 0) 1) (cwV 1 hts gX4_foresee_X4_fail rfl rfl rfl (by decide +kernel) ⟨Nat.le_of_ble_eq_true rfl, Nat.le_of_ble_eq_true rfl⟩) (by simp only [List.append_assoc, List.append_nil, List.nil_append]) hK hN (ci := 4) (q0 := 0) rfl rfl rfl hP hD hS hA rfl hl.1 rfl (Nat.le_of_ble_eq_true rfl) dX4_foresee_17 ⟨Nat.le_of_ble_eq_true rfl, Nat.le_of_ble_eq_true rfl⟩ (fun H locs hP hD hS => ?_)
    have hP : va_P (dC, dI) vwCl (mW cI d S17) H := by simpa only [List.append_assoc, List.append_nil, List.nil_append] using hP
    have hD : va_D A (mW cI d S17) := by simpa only [List.append_assoc, List.append_nil, List.nil_append] using hD
    have hZ : S17 = mfor_S h w (s_put O 0 0 0) i x := (by (try rw [eS17]); first | done | rfl | (simp only [mfor_S, mfor_V, mfor_u, mfor_v, mi_days, if_pos c_1]; done) | (unfold mfor_S; simp only [if_pos c_1]; done))
    rw [hZ] at hP hD
    exact zI_ret hx hb hr hlocks hP hD hS rfl (by (try rw [eS17]); first | done | rfl | (simp only [mfor_S, mfor_V, mfor_u, mfor_v, mi_days, if_pos c_1]; done)) dX4_foresee_20

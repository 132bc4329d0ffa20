set_option maxHeartbeats 8000000 in
set_option maxRecDepth 100000 in
theorem law_C (l : Launch) {p : Program} {e : Env} {s : State} {m : MethodId} {below : List Frame} {meth : Method} {c : Code} {sc : Nat} {dC : Nat → ClassId} {dI : Nat → Nat → Nat} {cI cR cF : ClassId} {k b t : Nat → Nat} (G0 : lawG p s m meth c sc (dC, dI) cI cR cF) {h w dy pl rp : Nat} {M B S T : sS} {sv al : Int32} {qs : Nat} {Z9 : va_W} {H : Heap} {locs : List Loc} {ls : Array Slot} {d0 : Drawn} (hd0 : s.drawn.sameBut d0 lw_cs) (hE : lwE h w dy pl rp M S sv) (hal : al.toInt = yS (fun j => (S 2 j).toInt) (h * w)) (hP : va_P (dC, dI) vwCl (oW k b t M ++ kW cI k M ++ bW k B ++ sW cI b S ++ sW cI t T ++ Z9) H) (hD : va_D (lawA s) (oW k b t M ++ kW cI k M ++ bW k B ++ sW cI b S ++ sW cI t T ++ Z9)) (hS : va_S (lawA s) s.heap H locs) (hl : lv_has ls 26 ((18, .int al) :: [(8, .int (nI dy)), (7, .int sv), (6, .int (nI rp)), (5, .int (nI pl)), (4, .int (nI w)), (3, .int (nI h)), (2, .ref qs), (1, .ref (k 0)), (0, .ref sc)])) (kk : ∀ (d9 : Drawn) (H : Heap) (locs : List Loc) (ls : Array Slot), s.drawn.sameBut d9 lw_cs → va_P (dC, dI) vwCl (oW k b t M ++ kW cI k M ++ bW k B ++ sW cI b S ++ sW cI t T ++ Z9) H → va_D (lawA s) (oW k b t M ++ kW cI k M ++ bW k B ++ sW cI b S ++ sW cI t T ++ Z9) → va_S (lawA s) s.heap H locs → lv_has ls 26 [(8, .int (nI (dy + 1))), (7, .int sv), (6, .int (nI rp)), (5, .int (nI pl)), (4, .int (nI w)), (3, .int (nI h)), (2, .ref qs), (1, .ref (k 0)), (0, .ref sc)] → W p l e room_1 (s.setDrawn d9) m #[Value.ref sc] below meth c H locs 200 3000 (lw_Z below #[Value.ref sc] s) (F0 m 47 ls [])) : W p l e room_1 (s.setDrawn d0) m #[Value.ref sc] below meth c H locs 200 3000 (lw_Z below #[Value.ref sc] s) (F0 m 748 ls []) := by
  obtain ⟨hx, hb, hr, hml, hown, hts, hfs, hlocks, hK3, hN⟩ := lawG_d G0 d0
  have hown : s.vm.findClass RL = some m.cls := hown
  have hA : ∀ q : Nat, s.heap.size ≤ q → lawA s q := fun _ h => h
  have hK : va_K (dC, dI) vwCl [(cI, .int)] (s.setDrawn d0) := hK3.sub [0] rfl
  have hinX4 : ∀ w ∈ wsX40, w ∈ wsL_law := inlX4
  have hf24 := hfs (.fieldLink RL 24 "PaddyTerracesLaw$Sim" "h" "I") (by decide)
  have hf28 := hfs (.fieldLink RL 28 "PaddyTerracesLaw$Sim" "w" "I") (by decide)
  have hf40 := hfs (.fieldLink RL 40 "PaddyTerracesLaw$Sim" "calendar" "[[I") (by decide)
  have hf44 := hfs (.fieldLink RL 44 "PaddyTerracesLaw$Sim" "shares" "[I") (by decide)
  have hf70 := hfs (.fieldLink RL 70 "PaddyTerracesLaw$Sim" "moved" "I") (by decide)
  have gS := hE.1.1.1
  obtain ⟨e1_, e2_, e3_, e4_⟩ := lw_end hE hal
  have hN0 : zN s := G0.2.2.2.2.2.2.2.2.2
  refine lv_aload_n hx hb dL_law_748 rfl (lv_at hl 8 rfl) ?_
  refine lv_iconst (v := 4) hx hb dL_law_749 (by decide) ?_
  refine zI_V (pre := ([] : va_W)) (wc := oW k b t M ++ kW cI k M ++ bW k B ++ sW cI b S ++ sW cI t T) (post := (Z9)) (w1 := oW k b t M ++ kW cI k M ++ bW k B ++ sW cI b S ++ sW cI t T) ⟨hx, hb, hml, hown, hts⟩ (c_X3_count l dC dI cI k b t h w M B S T 4 gS (by decide)) (cwV 1 hts gL_law_X3_count rfl rfl rfl (by decide +kernel) ⟨Nat.le_of_ble_eq_true rfl, Nat.le_of_ble_eq_true rfl⟩) (by simp only [List.append_assoc, List.append_nil, List.nil_append]) hK hN (ci := 3) (q0 := 0) rfl rfl rfl hP hD hS hA rfl hl.1 rfl (Nat.le_of_ble_eq_true rfl) dL_law_750 ⟨by show _ ≤ 600104; omega, by show _ ≤ 7301314; omega⟩ (fun H locs hP hD hS => ?_)
  have hP : va_P (dC, dI) vwCl (oW k b t M ++ kW cI k M ++ bW k B ++ sW cI b S ++ sW cI t T ++ Z9) H := by simpa only [List.append_assoc, List.append_nil, List.nil_append] using hP
  have hD : va_D (lawA s) (oW k b t M ++ kW cI k M ++ bW k B ++ sW cI b S ++ sW cI t T ++ Z9) := by simpa only [List.append_assoc, List.append_nil, List.nil_append] using hD
  rw [lc_4]
  refine lv_iload hx hb dL_law_753 (lv_at hl 0 rfl) ?_
  refine lv_icmp_ne (tgt := 806) hx hb dL_law_755 (by decide) (fun c_1 => ?_) (fun c_1 => ?_)
  · exact absurd e1_ c_1
  · refine lv_aload_n hx hb dL_law_758 rfl (lv_at hl 8 rfl) ?_
    refine zD_V hd0 (pre := []) (wc := oW k b t M ++ kW cI k M ++ bW k B ++ sW cI b S ++ sW cI t T) (post := Z9) (w1 := oW k b t M ++ kW cI k M ++ bW k B ++ sW cI b S ++ sW cI t T) ⟨hx, hb, hml, hown, hts⟩ (c_X3_depth l dC dI cI k b t h w M B S T gS) (cwV 0 hts gL_law_X3_depth rfl rfl rfl (by decide +kernel) ⟨Nat.le_of_ble_eq_true rfl, Nat.le_of_ble_eq_true rfl⟩) (by simp only [List.append_assoc, List.append_nil, List.nil_append]) hK hN0 (ci := 3) (q0 := 0) rfl rfl rfl hP hD hS hA rfl hl.1 rfl (Nat.le_of_ble_eq_true rfl) dL_law_759 ⟨by show 200 ≤ 600104; omega, by show 3000 ≤ 7301314; omega⟩ (fun r1 H locs hal1 hP hD hS d1 hd1 => ?_)
    have hP : va_P (dC, dI) vwCl (oW k b t M ++ kW cI k M ++ bW k B ++ sW cI b S ++ sW cI t T ++ Z9) H := by simpa only [List.append_assoc, List.append_nil, List.nil_append] using hP
    have hD : va_D (lawA s) (oW k b t M ++ kW cI k M ++ bW k B ++ sW cI b S ++ sW cI t T ++ Z9) := by simpa only [List.append_assoc, List.append_nil, List.nil_append] using hD
    obtain ⟨hx, hb, hr, hml, hown, hts, hfs, hlocks, hK3, hN⟩ := lawG_d G0 d1
    have hown : s.vm.findClass RL = some m.cls := hown
    have hA : ∀ q : Nat, s.heap.size ≤ q → lawA s q := fun _ h => h
    have hK : va_K (dC, dI) vwCl [(cI, .int)] (s.setDrawn d1) := hK3.sub [0] rfl
    have hinX4 : ∀ w ∈ wsX40, w ∈ wsL_law := inlX4
    have hf24 := hfs (.fieldLink RL 24 "PaddyTerracesLaw$Sim" "h" "I") (by decide)
    have hf28 := hfs (.fieldLink RL 28 "PaddyTerracesLaw$Sim" "w" "I") (by decide)
    have hf40 := hfs (.fieldLink RL 40 "PaddyTerracesLaw$Sim" "calendar" "[[I") (by decide)
    have hf44 := hfs (.fieldLink RL 44 "PaddyTerracesLaw$Sim" "shares" "[I") (by decide)
    have hf70 := hfs (.fieldLink RL 70 "PaddyTerracesLaw$Sim" "moved" "I") (by decide)
    rw [e1_, e2_] at hal1
    refine lv_iload hx hb dL_law_762 (lv_at hl 0 rfl) ?_
    refine lv_i2d hx hb dL_law_764 ?_
    refine lv_iload_n hx hb dL_law_765 rfl (lv_at hl 6 rfl) ?_
    refine lv_iload hx hb dL_law_766 (lv_at hl 5 rfl) ?_
    refine lv_imul hx hb dL_law_768 ?_
    refine lv_i2d hx hb dL_law_769 ?_
    refine lv_ddiv_any (s := s) hd1 lw_bits hx hb dL_law_770 (fun r2 d2 hal2 hd2 => ?_)
    obtain ⟨hx, hb, hr, hml, hown, hts, hfs, hlocks, hK3, hN⟩ := lawG_d G0 d2
    have hown : s.vm.findClass RL = some m.cls := hown
    have hA : ∀ q : Nat, s.heap.size ≤ q → lawA s q := fun _ h => h
    have hK : va_K (dC, dI) vwCl [(cI, .int)] (s.setDrawn d2) := hK3.sub [0] rfl
    have hinX4 : ∀ w ∈ wsX40, w ∈ wsL_law := inlX4
    have hf24 := hfs (.fieldLink RL 24 "PaddyTerracesLaw$Sim" "h" "I") (by decide)
    have hf28 := hfs (.fieldLink RL 28 "PaddyTerracesLaw$Sim" "w" "I") (by decide)
    have hf40 := hfs (.fieldLink RL 40 "PaddyTerracesLaw$Sim" "calendar" "[[I") (by decide)
    have hf44 := hfs (.fieldLink RL 44 "PaddyTerracesLaw$Sim" "shares" "[I") (by decide)
    have hf70 := hfs (.fieldLink RL 70 "PaddyTerracesLaw$Sim" "moved" "I") (by decide)
    have hcmp := dep_same hal1 hal2 (dep_ok e3_)
    refine lv_dcmp hx hb dL_law_771 ?_
    refine lv_if_ne (tgt := 806) hx hb dL_law_772 (by decide) (fun q => absurd hcmp q) (fun _ => ?_)
    refine lv_iload hx hb dL_law_775 (lv_at hl 4 rfl) ?_
    refine lv_aload_n hx hb dL_law_777 rfl (lv_at hl 8 rfl) ?_
    refine lv_iconst (v := 3) hx hb dL_law_778 (by decide) ?_
    refine zI_V (pre := ([] : va_W)) (wc := oW k b t M ++ kW cI k M ++ bW k B ++ sW cI b S ++ sW cI t T) (post := (Z9)) (w1 := oW k b t M ++ kW cI k M ++ bW k B ++ sW cI b S ++ sW cI t T) ⟨hx, hb, hml, hown, hts⟩ (c_X3_count l dC dI cI k b t h w M B S T 3 gS (by decide)) (cwV 1 hts gL_law_X3_count rfl rfl rfl (by decide +kernel) ⟨Nat.le_of_ble_eq_true rfl, Nat.le_of_ble_eq_true rfl⟩) (by simp only [List.append_assoc, List.append_nil, List.nil_append]) hK hN (ci := 3) (q0 := 0) rfl rfl rfl hP hD hS hA rfl hl.1 rfl (Nat.le_of_ble_eq_true rfl) dL_law_779 ⟨by show _ ≤ 600104; omega, by show _ ≤ 7301314; omega⟩ (fun H locs hP hD hS => ?_)
    have hP : va_P (dC, dI) vwCl (oW k b t M ++ kW cI k M ++ bW k B ++ sW cI b S ++ sW cI t T ++ Z9) H := by simpa only [List.append_assoc, List.append_nil, List.nil_append] using hP
    have hD : va_D (lawA s) (oW k b t M ++ kW cI k M ++ bW k B ++ sW cI b S ++ sW cI t T ++ Z9) := by simpa only [List.append_assoc, List.append_nil, List.nil_append] using hD
    rw [lc_3]
    refine lv_aload_n hx hb dL_law_782 rfl (lv_at hl 8 rfl) ?_
    refine lv_bipush (v := 7) hx hb dL_law_783 (by decide) ?_
    refine zI_V (pre := ([] : va_W)) (wc := oW k b t M ++ kW cI k M ++ bW k B ++ sW cI b S ++ sW cI t T) (post := (Z9)) (w1 := oW k b t M ++ kW cI k M ++ bW k B ++ sW cI b S ++ sW cI t T) ⟨hx, hb, hml, hown, hts⟩ (c_X3_count l dC dI cI k b t h w M B S T 7 gS (by decide)) (cwV 1 hts gL_law_X3_count rfl rfl rfl (by decide +kernel) ⟨Nat.le_of_ble_eq_true rfl, Nat.le_of_ble_eq_true rfl⟩) (by simp only [List.append_assoc, List.append_nil, List.nil_append]) hK hN (ci := 3) (q0 := 0) rfl rfl rfl hP hD hS hA rfl hl.1 rfl (Nat.le_of_ble_eq_true rfl) dL_law_785 ⟨by show _ ≤ 600104; omega, by show _ ≤ 7301314; omega⟩ (fun H locs hP hD hS => ?_)
    have hP : va_P (dC, dI) vwCl (oW k b t M ++ kW cI k M ++ bW k B ++ sW cI b S ++ sW cI t T ++ Z9) H := by simpa only [List.append_assoc, List.append_nil, List.nil_append] using hP
    have hD : va_D (lawA s) (oW k b t M ++ kW cI k M ++ bW k B ++ sW cI b S ++ sW cI t T ++ Z9) := by simpa only [List.append_assoc, List.append_nil, List.nil_append] using hD
    rw [lc_7]
    refine lv_iadd hx hb dL_law_788 ?_
    refine lv_iload hx hb dL_law_789 (lv_at hl 3 rfl) ?_
    refine lv_iadd hx hb dL_law_791 ?_
    refine lv_icmp_ne (tgt := 806) hx hb dL_law_792 (by decide) (fun c_2 => ?_) (fun c_2 => ?_)
    · exact absurd e4_ c_2
    · refine lv_aload_n hx hb dL_law_795 rfl (lv_at hl 8 rfl) ?_
      refine lv_bipush (v := 6) hx hb dL_law_796 (by decide) ?_
      refine zI_V (pre := ([] : va_W)) (wc := oW k b t M ++ kW cI k M ++ bW k B ++ sW cI b S ++ sW cI t T) (post := (Z9)) (w1 := oW k b t M ++ kW cI k M ++ bW k B ++ sW cI b S ++ sW cI t T) ⟨hx, hb, hml, hown, hts⟩ (c_X3_count l dC dI cI k b t h w M B S T 6 gS (by decide)) (cwV 1 hts gL_law_X3_count rfl rfl rfl (by decide +kernel) ⟨Nat.le_of_ble_eq_true rfl, Nat.le_of_ble_eq_true rfl⟩) (by simp only [List.append_assoc, List.append_nil, List.nil_append]) hK hN (ci := 3) (q0 := 0) rfl rfl rfl hP hD hS hA rfl hl.1 rfl (Nat.le_of_ble_eq_true rfl) dL_law_798 ⟨by show _ ≤ 600104; omega, by show _ ≤ 7301314; omega⟩ (fun H locs hP hD hS => ?_)
      have hP : va_P (dC, dI) vwCl (oW k b t M ++ kW cI k M ++ bW k B ++ sW cI b S ++ sW cI t T ++ Z9) H := by simpa only [List.append_assoc, List.append_nil, List.nil_append] using hP
      have hD : va_D (lawA s) (oW k b t M ++ kW cI k M ++ bW k B ++ sW cI b S ++ sW cI t T ++ Z9) := by simpa only [List.append_assoc, List.append_nil, List.nil_append] using hD
      rw [lc_6]
      refine lv_iload hx hb dL_law_801 (lv_at hl 2 rfl) ?_
      refine lv_icmp_eq (tgt := 808) hx hb dL_law_803 (by decide) (fun c_3 => ?_) (fun c_3 => ?_)
      · refine lv_iinc (v := nI (dy + 1)) (lv' := [(8, .int (nI (dy + 1))), (18, .int al), (7, .int sv), (6, .int (nI rp)), (5, .int (nI pl)), (4, .int (nI w)), (3, .int (nI h)), (2, .ref qs), (1, .ref (k 0)), (0, .ref sc)]) hx hb dL_law_808 hl (k := 1) rfl (show nI dy + Int32.ofInt 1 = nI (dy + 1) from nI_1 dy) (by decide) rfl (fun ls hl => ?_)
        refine lv_goto (tgt := 47) hx hb dL_law_811 (by decide) ?_
        exact kk d2 H locs ls hd2 hP hD hS (lv_sub hl [0, 2, 3, 4, 5, 6, 7, 8, 9] rfl)
      · exact absurd hE.1.2.2.1 c_3

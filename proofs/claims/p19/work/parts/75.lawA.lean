set_option maxHeartbeats 8000000 in
set_option maxRecDepth 100000 in
theorem law_A (l : Launch) {p : Program} {e : Env} {s : State} {m : MethodId} {below : List Frame} {meth : Method} {c : Code} {sc : Nat} {dC : Nat → ClassId} {dI : Nat → Nat → Nat} {cI cR cF : ClassId} {k b t : Nat → Nat} (G0 : lawG p s m meth c sc (dC, dI) cI cR cF) {h w dy pl rp : Nat} {M B S T : sS} {sv : Int32} {qs : Nat} {Z9 : va_W} {H : Heap} {locs : List Loc} {ls : Array Slot} {d0 : Drawn} (I : lwD h w dy pl rp M S sv) (hZ : bdZ cI cR h w M S qs Z9) (hdy : dy < 40) (hP : va_P (dC, dI) vwCl (oW k b t M ++ kW cI k M ++ bW k B ++ sW cI b S ++ sW cI t T ++ Z9) H) (hD : va_D (lawA s) (oW k b t M ++ kW cI k M ++ bW k B ++ sW cI b S ++ sW cI t T ++ Z9)) (hS : va_S (lawA s) s.heap H locs) (hl : lv_has ls 26 [(8, .int (nI dy)), (7, .int sv), (6, .int (nI rp)), (5, .int (nI pl)), (4, .int (nI w)), (3, .int (nI h)), (2, .ref qs), (1, .ref (k 0)), (0, .ref sc)]) (kk : ∀ (S' T' : sS) (H : Heap) (locs : List Loc) (ls : Array Slot), lwE h w dy pl rp M S' sv → bdZ cI cR h w M S' qs Z9 → va_P (dC, dI) vwCl (oW k b t M ++ kW cI k M ++ bW k B ++ sW cI b S' ++ sW cI t T' ++ Z9) H → va_D (lawA s) (oW k b t M ++ kW cI k M ++ bW k B ++ sW cI b S' ++ sW cI t T' ++ Z9) → va_S (lawA s) s.heap H locs → lv_has ls 26 ((19, .int 0) :: (18, .int 0) :: [(8, .int (nI dy)), (7, .int sv), (6, .int (nI rp)), (5, .int (nI pl)), (4, .int (nI w)), (3, .int (nI h)), (2, .ref qs), (1, .ref (k 0)), (0, .ref sc)]) → W p l e room_1 (s.setDrawn d0) m #[Value.ref sc] below meth c H locs 200 3000 (lw_Z below #[Value.ref sc] s) (F0 m 319 ls [])) : W p l e room_1 (s.setDrawn d0) m #[Value.ref sc] below meth c H locs 200 3000 (lw_Z below #[Value.ref sc] s) (F0 m 54 ls []) := by
  obtain ⟨hx, hb, hr, hml, hown, hts, hfs, hlocks, hK3, hN⟩ := lawG_d G0 d0
  have hown : s.vm.findClass RL = some m.cls := hown
  have hA : ∀ q : Nat, s.heap.size ≤ q → lawA s q := fun _ h => h
  have hK : va_K (dC, dI) vwCl [(cI, .int)] (s.setDrawn d0) := hK3.sub [0] rfl
  have hinX4 : ∀ w ∈ wsX40, w ∈ wsL_law := inlX4
  have hf24 := hfs (.fieldLink RL 24 "PaddyTerracesLaw$Sim" "h" "I") (by decide)
  have hf28 := hfs (.fieldLink RL 28 "PaddyTerracesLaw$Sim" "w" "I") (by decide)
  have hf40 := hfs (.fieldLink RL 40 "PaddyTerracesLaw$Sim" "calendar" "[[I") (by decide)
  have hf44 := hfs (.fieldLink RL 44 "PaddyTerracesLaw$Sim" "shares" "[I") (by decide)
  have hf70 := hfs (.fieldLink RL 70 "PaddyTerracesLaw$Sim" "moved" "I") (by decide)
  obtain ⟨⟨gS, h5, w5, hday, hst, hsh, -⟩, hM9, -⟩ := id I
  obtain ⟨-, -, hh2, hh8, hw2, hw8⟩ := id gS
  have hN25 := yB_25 h5 w5
  obtain ⟨q1, q2, q3, sh, cf, z1, z2, z3, z4, z5⟩ := id hZ
  have hdt0 : (sl_date S).toNatClampNeg < 30 := vp_lt (date_in hday (by omega)) (by decide)
  obtain ⟨m1_, m2_, m3_, m4_, m5_, m6_⟩ := hM9 _ hdt0
  refine lv_aload_n hx hb dL_law_54 rfl (lv_at hl 6 rfl) ?_
  refine va_get (D := (dC, dI)) (ci := 4) (v := .ref q2) (C := RX4) (T := TX4) (N := 10) hx hb hts hinX4 hown hK hP (List.length (oW k b t M ++ kW cI k M ++ bW k B ++ sW cI b S ++ sW cI t T) + 0) (za_R z1) rfl 5 (by decide) hf40 (fun _ h9 => h9) rfl dL_law_55 ?_
  refine lv_aload_n hx hb dL_law_58 rfl (lv_at hl 7 rfl) ?_
  refine lv_iconst (v := 2) hx hb dL_law_59 (by decide) ?_
  refine zI_V (pre := ([] : va_W)) (wc := oW k b t M ++ kW cI k M ++ bW k B ++ sW cI b S ++ sW cI t T) (post := (Z9)) (w1 := oW k b t M ++ kW cI k M ++ bW k B ++ sW cI b S ++ sW cI t T) ⟨hx, hb, hml, hown, hts⟩ (c_X3_count l dC dI cI k b t h w M B S T 2 gS (by decide)) (cwV 1 hts gL_law_X3_count rfl rfl rfl (by decide +kernel) ⟨Nat.le_of_ble_eq_true rfl, Nat.le_of_ble_eq_true rfl⟩) (by simp only [List.append_assoc, List.append_nil, List.nil_append]) hK hN (ci := 3) (q0 := 0) rfl rfl rfl hP hD hS hA rfl hl.1 rfl (Nat.le_of_ble_eq_true rfl) dL_law_60 ⟨by show _ ≤ 600104; omega, by show _ ≤ 7301314; omega⟩ (fun H locs hP hD hS => ?_)
  have hP : va_P (dC, dI) vwCl (oW k b t M ++ kW cI k M ++ bW k B ++ sW cI b S ++ sW cI t T ++ Z9) H := by simpa only [List.append_assoc, List.append_nil, List.nil_append] using hP
  have hD : va_D (lawA s) (oW k b t M ++ kW cI k M ++ bW k B ++ sW cI b S ++ sW cI t T ++ Z9) := by simpa only [List.append_assoc, List.append_nil, List.nil_append] using hD
  rw [lc_2]
  refine lv_bipush (v := 30) hx hb dL_law_63 (by decide) ?_
  refine lv_irem hx hb dL_law_65 (by decide) ?_
  have hdt : (sl_date S).toNatClampNeg < 30 := vp_lt (date_in hday (by omega)) (by decide)
  obtain ⟨ra, pa, ga, y1_, y2_, y3_, y4_, y5_⟩ := z5 _ hdt
  refine za_ald hx hb hK3 hP (List.length (oW k b t M ++ kW cI k M ++ bW k B ++ sW cI b S ++ sW cI t T) + 1) 1 (cA := cR) (n := 30) (v := ra) (f := cf) (za_R z2) rfl (date_in hday (by omega)) y1_ dL_law_66 ?_
  refine lv_astore (lv' := [(9, .ref ra), (8, .int (nI dy)), (7, .int sv), (6, .int (nI rp)), (5, .int (nI pl)), (4, .int (nI w)), (3, .int (nI h)), (2, .ref qs), (1, .ref (k 0)), (0, .ref sc)]) hx hb dL_law_67 hl (by decide) rfl (fun ls hl => ?_)
  refine lv_iconst (v := 0) hx hb dL_law_69 (by decide) ?_
  refine lv_istore (lv' := [(10, .int 0), (9, .ref ra), (8, .int (nI dy)), (7, .int sv), (6, .int (nI rp)), (5, .int (nI pl)), (4, .int (nI w)), (3, .int (nI h)), (2, .ref qs), (1, .ref (k 0)), (0, .ref sc)]) hx hb dL_law_70 hl (by decide) rfl (fun ls hl => ?_)
  refine lv_iconst (v := 0) hx hb dL_law_72 (by decide) ?_
  refine lv_istore (lv' := [(11, .int 0), (10, .int 0), (9, .ref ra), (8, .int (nI dy)), (7, .int sv), (6, .int (nI rp)), (5, .int (nI pl)), (4, .int (nI w)), (3, .int (nI h)), (2, .ref qs), (1, .ref (k 0)), (0, .ref sc)]) hx hb dL_law_73 hl (by decide) rfl (fun ls hl => ?_)
  have lp75 : ∀ (n75 i75 : Nat) (u10 : Int32) (H : Heap) (locs : List Loc) (ls : Array Slot), i75 + n75 = w → (u10 = itr (fun i x => x + S 1 i.toNatClampNeg) i75 0) → va_P (dC, dI) vwCl (oW k b t M ++ kW cI k M ++ bW k B ++ sW cI b S ++ sW cI t T ++ Z9) H → va_D (lawA s) (oW k b t M ++ kW cI k M ++ bW k B ++ sW cI b S ++ sW cI t T ++ Z9) → va_S (lawA s) s.heap H locs → lv_has ls 26 [(0, .ref sc), (1, .ref (k 0)), (2, .ref qs), (3, .int (nI h)), (4, .int (nI w)), (5, .int (nI pl)), (6, .int (nI rp)), (7, .int sv), (8, .int (nI dy)), (9, .ref ra), (10, .int u10), (11, .int (nI i75))] → W p l e room_1 (s.setDrawn d0) m #[Value.ref sc] below meth c H locs (200) (3000) (lw_Z below #[Value.ref sc] s) (F0 m 75 ls []) := by
    intro n75
    induction n75 with
    | zero =>
      intro i75 u10 H locs ls hi75 hu hP hD hS hl
      obtain rfl : w = i75 := by omega
      refine lv_iload hx hb dL_law_75 (lv_at hl 11 rfl) ?_
      refine lv_iload hx hb dL_law_77 (lv_at hl 4 rfl) ?_
      refine lv_icmp_ge (tgt := 100) hx hb dL_law_79 (by decide) (fun c_1 => ?_) (fun c_1 => ?_)
      · refine lv_iload_n hx hb dL_law_100 rfl (lv_at hl 3 rfl) ?_
        refine lv_iload hx hb dL_law_101 (lv_at hl 4 rfl) ?_
        refine lv_imul hx hb dL_law_103 ?_
        refine lv_aload hx hb dL_law_104 (lv_at hl 9 rfl) ?_
        refine lv_iconst (v := 0) hx hb dL_law_106 (by decide) ?_
        refine va_ialdk 0 (cA := cI) (n := 3) (f := ga) hx hb hK hP (List.length (oW k b t M ++ kW cI k M ++ bW k B ++ sW cI b S ++ sW cI t T) + pa) 0 (za_R y2_) rfl rfl (by decide) (by decide) dL_law_107 ?_
        rw [y3_]
        refine lv_imul hx hb dL_law_108 ?_
        refine lv_istore (lv' := [(11, .int (((nI h) * (nI w)) * (M 1 (sl_date S).toNatClampNeg))), (0, .ref sc), (1, .ref (k 0)), (2, .ref qs), (3, .int (nI h)), (4, .int (nI w)), (5, .int (nI pl)), (6, .int (nI rp)), (7, .int sv), (8, .int (nI dy)), (9, .ref ra), (10, .int u10)]) hx hb dL_law_109 hl (by decide) rfl (fun ls hl => ?_)
        refine lv_iconst (v := 0) hx hb dL_law_111 (by decide) ?_
        refine lv_istore (lv' := [(12, .int 0), (11, .int (((nI h) * (nI w)) * (M 1 (sl_date S).toNatClampNeg))), (0, .ref sc), (1, .ref (k 0)), (2, .ref qs), (3, .int (nI h)), (4, .int (nI w)), (5, .int (nI pl)), (6, .int (nI rp)), (7, .int sv), (8, .int (nI dy)), (9, .ref ra), (10, .int u10)]) hx hb dL_law_112 hl (by decide) rfl (fun ls hl => ?_)
        have h152 : ∀ (wt : Int32) (H : Heap) (locs : List Loc) (ls : Array Slot), wt.toInt = yW h w S (M 1 (sl_date S).toNatClampNeg) (M 2 (sl_date S).toNatClampNeg) → va_P (dC, dI) vwCl (oW k b t M ++ kW cI k M ++ bW k B ++ sW cI b S ++ sW cI t T ++ Z9) H → va_D (lawA s) (oW k b t M ++ kW cI k M ++ bW k B ++ sW cI b S ++ sW cI t T ++ Z9) → va_S (lawA s) s.heap H locs → lv_has ls 26 [(11, .int wt), (9, .ref ra), (8, .int (nI dy)), (7, .int sv), (6, .int (nI rp)), (5, .int (nI pl)), (4, .int (nI w)), (3, .int (nI h)), (2, .ref qs), (1, .ref (k 0)), (0, .ref sc)] → W p l e room_1 (s.setDrawn d0) m #[Value.ref sc] below meth c H locs 200 3000 (lw_Z below #[Value.ref sc] s) (F0 m 152 ls []) := by
          intro wt H locs ls hwt hP hD hS hl
          refine lv_aload_n hx hb dL_law_152 rfl (lv_at hl 9 rfl) ?_
          refine lv_iconst (v := 4) hx hb dL_law_153 (by decide) ?_
          refine zI_V (pre := ([] : va_W)) (wc := oW k b t M ++ kW cI k M ++ bW k B ++ sW cI b S ++ sW cI t T) (post := (Z9)) (w1 := oW k b t M ++ kW cI k M ++ bW k B ++ sW cI b S ++ sW cI t T) ⟨hx, hb, hml, hown, hts⟩ (c_X3_count l dC dI cI k b t h w M B S T 4 gS (by decide)) (cwV 1 hts gL_law_X3_count rfl rfl rfl (by decide +kernel) ⟨Nat.le_of_ble_eq_true rfl, Nat.le_of_ble_eq_true rfl⟩) (by simp only [List.append_assoc, List.append_nil, List.nil_append]) hK hN (ci := 3) (q0 := 0) rfl rfl rfl hP hD hS hA rfl hl.1 rfl (Nat.le_of_ble_eq_true rfl) dL_law_154 ⟨by show _ ≤ 600104; omega, by show _ ≤ 7301314; omega⟩ (fun H locs hP hD hS => ?_)
          have hP : va_P (dC, dI) vwCl (oW k b t M ++ kW cI k M ++ bW k B ++ sW cI b S ++ sW cI t T ++ Z9) H := by simpa only [List.append_assoc, List.append_nil, List.nil_append] using hP
          have hD : va_D (lawA s) (oW k b t M ++ kW cI k M ++ bW k B ++ sW cI b S ++ sW cI t T ++ Z9) := by simpa only [List.append_assoc, List.append_nil, List.nil_append] using hD
          rw [lc_4]
          refine lv_aload_n hx hb dL_law_157 rfl (lv_at hl 9 rfl) ?_
          refine lv_iconst (v := 5) hx hb dL_law_158 (by decide) ?_
          refine zI_V (pre := ([] : va_W)) (wc := oW k b t M ++ kW cI k M ++ bW k B ++ sW cI b S ++ sW cI t T) (post := (Z9)) (w1 := oW k b t M ++ kW cI k M ++ bW k B ++ sW cI b S ++ sW cI t T) ⟨hx, hb, hml, hown, hts⟩ (c_X3_count l dC dI cI k b t h w M B S T 5 gS (by decide)) (cwV 1 hts gL_law_X3_count rfl rfl rfl (by decide +kernel) ⟨Nat.le_of_ble_eq_true rfl, Nat.le_of_ble_eq_true rfl⟩) (by simp only [List.append_assoc, List.append_nil, List.nil_append]) hK hN (ci := 3) (q0 := 0) rfl rfl rfl hP hD hS hA rfl hl.1 rfl (Nat.le_of_ble_eq_true rfl) dL_law_159 ⟨by show _ ≤ 600104; omega, by show _ ≤ 7301314; omega⟩ (fun H locs hP hD hS => ?_)
          have hP : va_P (dC, dI) vwCl (oW k b t M ++ kW cI k M ++ bW k B ++ sW cI b S ++ sW cI t T ++ Z9) H := by simpa only [List.append_assoc, List.append_nil, List.nil_append] using hP
          have hD : va_D (lawA s) (oW k b t M ++ kW cI k M ++ bW k B ++ sW cI b S ++ sW cI t T ++ Z9) := by simpa only [List.append_assoc, List.append_nil, List.nil_append] using hD
          rw [lc_5]
          refine lv_iadd hx hb dL_law_162 ?_
          refine lv_istore (lv' := [(12, .int ((sl_sum h w S 2) + (S 0 3))), (11, .int wt), (9, .ref ra), (8, .int (nI dy)), (7, .int sv), (6, .int (nI rp)), (5, .int (nI pl)), (4, .int (nI w)), (3, .int (nI h)), (2, .ref qs), (1, .ref (k 0)), (0, .ref sc)]) hx hb dL_law_163 hl (by decide) rfl (fun ls hl => ?_)
          refine lv_iconst (v := 0) hx hb dL_law_165 (by decide) ?_
          refine lv_istore (lv' := [(13, .int 0), (12, .int ((sl_sum h w S 2) + (S 0 3))), (11, .int wt), (9, .ref ra), (8, .int (nI dy)), (7, .int sv), (6, .int (nI rp)), (5, .int (nI pl)), (4, .int (nI w)), (3, .int (nI h)), (2, .ref qs), (1, .ref (k 0)), (0, .ref sc)]) hx hb dL_law_166 hl (by decide) rfl (fun ls hl => ?_)
          refine lv_iconst (v := 0) hx hb dL_law_168 (by decide) ?_
          refine lv_istore (lv' := [(14, .int 0), (13, .int 0), (12, .int ((sl_sum h w S 2) + (S 0 3))), (11, .int wt), (9, .ref ra), (8, .int (nI dy)), (7, .int sv), (6, .int (nI rp)), (5, .int (nI pl)), (4, .int (nI w)), (3, .int (nI h)), (2, .ref qs), (1, .ref (k 0)), (0, .ref sc)]) hx hb dL_law_169 hl (by decide) rfl (fun ls hl => ?_)
          have lp171 : ∀ (n171 i171 : Nat) (u13 : Int32) (H : Heap) (locs : List Loc) (ls : Array Slot), i171 + n171 = h → (u13.toInt = yS (fun j => (S 4 j).toInt + (M 3 (sl_date S).toNatClampNeg).toInt) (i171 * w)) → va_P (dC, dI) vwCl (oW k b t M ++ kW cI k M ++ bW k B ++ sW cI b S ++ sW cI t T ++ Z9) H → va_D (lawA s) (oW k b t M ++ kW cI k M ++ bW k B ++ sW cI b S ++ sW cI t T ++ Z9) → va_S (lawA s) s.heap H locs → lv_has ls 26 [(0, .ref sc), (1, .ref (k 0)), (2, .ref qs), (3, .int (nI h)), (4, .int (nI w)), (5, .int (nI pl)), (6, .int (nI rp)), (7, .int sv), (8, .int (nI dy)), (9, .ref ra), (11, .int wt), (12, .int ((sl_sum h w S 2) + (S 0 3))), (13, .int u13), (14, .int (nI i171))] → W p l e room_1 (s.setDrawn d0) m #[Value.ref sc] below meth c H locs (200) (3000) (lw_Z below #[Value.ref sc] s) (F0 m 171 ls []) := by
            intro n171
            induction n171 with
            | zero =>
              intro i171 u13 H locs ls hi171 hm hP hD hS hl
              obtain rfl : h = i171 := by omega
              refine lv_iload hx hb dL_law_171 (lv_at hl 13 rfl) ?_
              refine lv_iload_n hx hb dL_law_173 rfl (lv_at hl 3 rfl) ?_
              refine lv_icmp_ge (tgt := 218) hx hb dL_law_174 (by decide) (fun c_2 => ?_) (fun c_2 => ?_)
              · refine lv_aload_n hx hb dL_law_218 rfl (lv_at hl 1 rfl) ?_
                refine lv_iconst (v := 5) hx hb dL_law_219 (by decide) ?_
                refine zI_V (pre := ([] : va_W)) (wc := oW k b t M ++ kW cI k M ++ bW k B ++ sW cI b S ++ sW cI t T) (post := (Z9)) (w1 := oW k b t M ++ kW cI k M ++ bW k B ++ sW cI b S ++ sW cI t T) ⟨hx, hb, hml, hown, hts⟩ (c_X3_count l dC dI cI k b t h w M B S T 5 gS (by decide)) (cwV 1 hts gL_law_X3_count rfl rfl rfl (by decide +kernel) ⟨Nat.le_of_ble_eq_true rfl, Nat.le_of_ble_eq_true rfl⟩) (by simp only [List.append_assoc, List.append_nil, List.nil_append]) hK hN (ci := 3) (q0 := 0) rfl rfl rfl hP hD hS hA rfl hl.1 rfl (Nat.le_of_ble_eq_true rfl) dL_law_220 ⟨by show _ ≤ 600104; omega, by show _ ≤ 7301314; omega⟩ (fun H locs hP hD hS => ?_)
                have hP : va_P (dC, dI) vwCl (oW k b t M ++ kW cI k M ++ bW k B ++ sW cI b S ++ sW cI t T ++ Z9) H := by simpa only [List.append_assoc, List.append_nil, List.nil_append] using hP
                have hD : va_D (lawA s) (oW k b t M ++ kW cI k M ++ bW k B ++ sW cI b S ++ sW cI t T ++ Z9) := by simpa only [List.append_assoc, List.append_nil, List.nil_append] using hD
                rw [lc_5]
                refine lv_istore (lv' := [(14, .int (S 0 3)), (0, .ref sc), (1, .ref (k 0)), (2, .ref qs), (3, .int (nI h)), (4, .int (nI w)), (5, .int (nI pl)), (6, .int (nI rp)), (7, .int sv), (8, .int (nI dy)), (9, .ref ra), (11, .int wt), (12, .int ((sl_sum h w S 2) + (S 0 3))), (13, .int u13)]) hx hb dL_law_223 hl (by decide) rfl (fun ls hl => ?_)
                refine lv_aload_n hx hb dL_law_225 rfl (lv_at hl 2 rfl) ?_
                refine lv_iconst (v := 1) hx hb dL_law_226 (by decide) ?_
                refine lv_iconst (v := 2) hx hb dL_law_227 (by decide) ?_
                obtain ⟨S3, eS3⟩ : ∃ z : sS, z = pas_S h w M S 1 := ⟨_, rfl⟩
                refine zI_V (pre := ([] : va_W)) (wc := oW k b t M ++ kW cI k M ++ bW k B ++ sW cI b S ++ sW cI t T) (post := (Z9)) (w1 := oW k b t M ++ kW cI k M ++ bW k B ++ sW cI b S ++ sW cI t S3) ⟨hx, hb, hml, hown, hts⟩ (by rw [eS3]; exact c_X3_foresee l dC dI cI k b t h w M B S T 1 2 dy gS hday (by omega) (lt_d hday (by omega)).2) (cwV 2 hts gL_law_X3_foresee rfl rfl rfl (by decide +kernel) ⟨Nat.le_of_ble_eq_true rfl, Nat.le_of_ble_eq_true rfl⟩) (by simp only [List.append_assoc, List.append_nil, List.nil_append]) hK hN (ci := 3) (q0 := 0) rfl rfl rfl hP hD hS hA rfl hl.1 rfl (Nat.le_of_ble_eq_true rfl) dL_law_228 ⟨by show _ ≤ 600104; omega, by show _ ≤ 7301314; omega⟩ (fun H locs hP hD hS => ?_)
                have hP : va_P (dC, dI) vwCl (oW k b t M ++ kW cI k M ++ bW k B ++ sW cI b S ++ sW cI t S3 ++ Z9) H := by simpa only [List.append_assoc, List.append_nil, List.nil_append] using hP
                have hD : va_D (lawA s) (oW k b t M ++ kW cI k M ++ bW k B ++ sW cI b S ++ sW cI t S3 ++ Z9) := by simpa only [List.append_assoc, List.append_nil, List.nil_append] using hD
                rw [lo_2, pas_1]
                refine lv_istore (lv' := [(15, .int (sl_day h w M S 0 3 - S 0 3)), (14, .int (S 0 3)), (0, .ref sc), (1, .ref (k 0)), (2, .ref qs), (3, .int (nI h)), (4, .int (nI w)), (5, .int (nI pl)), (6, .int (nI rp)), (7, .int sv), (8, .int (nI dy)), (9, .ref ra), (11, .int wt), (12, .int ((sl_sum h w S 2) + (S 0 3))), (13, .int u13)]) hx hb dL_law_231 hl (by decide) rfl (fun ls hl => ?_)
                refine lv_aload_n hx hb dL_law_233 rfl (lv_at hl 3 rfl) ?_
                refine lv_iconst (v := 1) hx hb dL_law_234 (by decide) ?_
                obtain ⟨S4, eS4⟩ : ∃ z : sS, z = pas_S h w M S 1 := ⟨_, rfl⟩
                refine zI_V (pre := ([] : va_W)) (wc := oW k b t M ++ kW cI k M ++ bW k B ++ sW cI b S ++ sW cI t S3) (post := (Z9)) (w1 := oW k b t M ++ kW cI k M ++ bW k B ++ sW cI b S4 ++ sW cI t S3) ⟨hx, hb, hml, hown, hts⟩ (by rw [eS4]; exact c_X3_pass l dC dI cI k b t h w M B S S3 1 dy gS hday (by omega) (lt_d hday (by omega)).1) (cwV 1 hts gL_law_X3_pass rfl rfl rfl (by decide +kernel) ⟨Nat.le_of_ble_eq_true rfl, Nat.le_of_ble_eq_true rfl⟩) (by simp only [List.append_assoc, List.append_nil, List.nil_append]) hK hN (ci := 3) (q0 := 0) rfl rfl rfl hP hD hS hA rfl hl.1 rfl (Nat.le_of_ble_eq_true rfl) dL_law_235 ⟨by show _ ≤ 600104; omega, by show _ ≤ 7301314; omega⟩ (fun H locs hP hD hS => ?_)
                have hP : va_P (dC, dI) vwCl (oW k b t M ++ kW cI k M ++ bW k B ++ sW cI b S4 ++ sW cI t S3 ++ Z9) H := by simpa only [List.append_assoc, List.append_nil, List.nil_append] using hP
                have hD : va_D (lawA s) (oW k b t M ++ kW cI k M ++ bW k B ++ sW cI b S4 ++ sW cI t S3 ++ Z9) := by simpa only [List.append_assoc, List.append_nil, List.nil_append] using hD
                rw [pas_1] at eS4
                rw [pas_1, ← eS4]
                rw [← eS4] at hl
                obtain ⟨k1_, k2_, hE, hS2, hS1⟩ := lw_day I hdy hwt hm
                simp only [← eS4] at k1_
                simp only [← eS4] at k2_
                simp only [← eS4] at hE
                simp only [← eS4] at hS2
                simp only [← eS4] at hS1
                have gS1 := hE.1.1.1
                refine lv_istore (lv' := [(16, .int (sl_sum h w S4 7)), (15, .int (S4 0 3 - S 0 3)), (14, .int (S 0 3)), (0, .ref sc), (1, .ref (k 0)), (2, .ref qs), (3, .int (nI h)), (4, .int (nI w)), (5, .int (nI pl)), (6, .int (nI rp)), (7, .int sv), (8, .int (nI dy)), (9, .ref ra), (11, .int wt), (12, .int ((sl_sum h w S 2) + (S 0 3))), (13, .int u13)]) hx hb dL_law_238 hl (by decide) rfl (fun ls hl => ?_)
                refine lv_aload_n hx hb dL_law_240 rfl (lv_at hl 4 rfl) ?_
                refine lv_iconst (v := 4) hx hb dL_law_241 (by decide) ?_
                refine zI_V (pre := ([] : va_W)) (wc := oW k b t M ++ kW cI k M ++ bW k B ++ sW cI b S4 ++ sW cI t S3) (post := (Z9)) (w1 := oW k b t M ++ kW cI k M ++ bW k B ++ sW cI b S4 ++ sW cI t S3) ⟨hx, hb, hml, hown, hts⟩ (c_X3_count l dC dI cI k b t h w M B S4 S3 4 gS1 (by decide)) (cwV 1 hts gL_law_X3_count rfl rfl rfl (by decide +kernel) ⟨Nat.le_of_ble_eq_true rfl, Nat.le_of_ble_eq_true rfl⟩) (by simp only [List.append_assoc, List.append_nil, List.nil_append]) hK hN (ci := 3) (q0 := 0) rfl rfl rfl hP hD hS hA rfl hl.1 rfl (Nat.le_of_ble_eq_true rfl) dL_law_242 ⟨by show _ ≤ 600104; omega, by show _ ≤ 7301314; omega⟩ (fun H locs hP hD hS => ?_)
                have hP : va_P (dC, dI) vwCl (oW k b t M ++ kW cI k M ++ bW k B ++ sW cI b S4 ++ sW cI t S3 ++ Z9) H := by simpa only [List.append_assoc, List.append_nil, List.nil_append] using hP
                have hD : va_D (lawA s) (oW k b t M ++ kW cI k M ++ bW k B ++ sW cI b S4 ++ sW cI t S3 ++ Z9) := by simpa only [List.append_assoc, List.append_nil, List.nil_append] using hD
                rw [lc_4]
                refine lv_aload_n hx hb dL_law_245 rfl (lv_at hl 4 rfl) ?_
                refine lv_iconst (v := 5) hx hb dL_law_246 (by decide) ?_
                refine zI_V (pre := ([] : va_W)) (wc := oW k b t M ++ kW cI k M ++ bW k B ++ sW cI b S4 ++ sW cI t S3) (post := (Z9)) (w1 := oW k b t M ++ kW cI k M ++ bW k B ++ sW cI b S4 ++ sW cI t S3) ⟨hx, hb, hml, hown, hts⟩ (c_X3_count l dC dI cI k b t h w M B S4 S3 5 gS1 (by decide)) (cwV 1 hts gL_law_X3_count rfl rfl rfl (by decide +kernel) ⟨Nat.le_of_ble_eq_true rfl, Nat.le_of_ble_eq_true rfl⟩) (by simp only [List.append_assoc, List.append_nil, List.nil_append]) hK hN (ci := 3) (q0 := 0) rfl rfl rfl hP hD hS hA rfl hl.1 rfl (Nat.le_of_ble_eq_true rfl) dL_law_247 ⟨by show _ ≤ 600104; omega, by show _ ≤ 7301314; omega⟩ (fun H locs hP hD hS => ?_)
                have hP : va_P (dC, dI) vwCl (oW k b t M ++ kW cI k M ++ bW k B ++ sW cI b S4 ++ sW cI t S3 ++ Z9) H := by simpa only [List.append_assoc, List.append_nil, List.nil_append] using hP
                have hD : va_D (lawA s) (oW k b t M ++ kW cI k M ++ bW k B ++ sW cI b S4 ++ sW cI t S3 ++ Z9) := by simpa only [List.append_assoc, List.append_nil, List.nil_append] using hD
                rw [lc_5]
                refine lv_iadd hx hb dL_law_250 ?_
                refine lv_istore (lv' := [(17, .int ((sl_sum h w S4 2) + (S4 0 3))), (16, .int (sl_sum h w S4 7)), (15, .int (S4 0 3 - S 0 3)), (14, .int (S 0 3)), (0, .ref sc), (1, .ref (k 0)), (2, .ref qs), (3, .int (nI h)), (4, .int (nI w)), (5, .int (nI pl)), (6, .int (nI rp)), (7, .int sv), (8, .int (nI dy)), (9, .ref ra), (11, .int wt), (12, .int ((sl_sum h w S 2) + (S 0 3))), (13, .int u13)]) hx hb dL_law_251 hl (by decide) rfl (fun ls hl => ?_)
                refine lv_iload hx hb dL_law_253 (lv_at hl 0 rfl) ?_
                refine lv_iload hx hb dL_law_255 (lv_at hl 15 rfl) ?_
                refine lv_iload hx hb dL_law_257 (lv_at hl 14 rfl) ?_
                refine lv_iadd hx hb dL_law_259 ?_
                refine lv_icmp_gt (tgt := 311) hx hb dL_law_260 (by decide) (fun c_5 => ?_) (fun c_5 => ?_)
                · exact absurd c_5 k1_
                · refine lv_iload hx hb dL_law_263 (lv_at hl 0 rfl) ?_
                  refine lv_iload hx hb dL_law_265 (lv_at hl 15 rfl) ?_
                  refine lv_iload hx hb dL_law_267 (lv_at hl 14 rfl) ?_
                  refine lv_iadd hx hb dL_law_269 ?_
                  refine lv_iload hx hb dL_law_270 (lv_at hl 16 rfl) ?_
                  refine lv_isub hx hb dL_law_272 ?_
                  refine lv_icmp_lt (tgt := 311) hx hb dL_law_273 (by decide) (fun c_6 => ?_) (fun c_6 => ?_)
                  · exact absurd c_6 k2_
                  · refine lv_aload_n hx hb dL_law_276 rfl (lv_at hl 5 rfl) ?_
                    refine lv_iconst (v := 5) hx hb dL_law_277 (by decide) ?_
                    refine zI_V (pre := ([] : va_W)) (wc := oW k b t M ++ kW cI k M ++ bW k B ++ sW cI b S4 ++ sW cI t S3) (post := (Z9)) (w1 := oW k b t M ++ kW cI k M ++ bW k B ++ sW cI b S4 ++ sW cI t S3) ⟨hx, hb, hml, hown, hts⟩ (c_X3_count l dC dI cI k b t h w M B S4 S3 5 gS1 (by decide)) (cwV 1 hts gL_law_X3_count rfl rfl rfl (by decide +kernel) ⟨Nat.le_of_ble_eq_true rfl, Nat.le_of_ble_eq_true rfl⟩) (by simp only [List.append_assoc, List.append_nil, List.nil_append]) hK hN (ci := 3) (q0 := 0) rfl rfl rfl hP hD hS hA rfl hl.1 rfl (Nat.le_of_ble_eq_true rfl) dL_law_278 ⟨by show _ ≤ 600104; omega, by show _ ≤ 7301314; omega⟩ (fun H locs hP hD hS => ?_)
                    have hP : va_P (dC, dI) vwCl (oW k b t M ++ kW cI k M ++ bW k B ++ sW cI b S4 ++ sW cI t S3 ++ Z9) H := by simpa only [List.append_assoc, List.append_nil, List.nil_append] using hP
                    have hD : va_D (lawA s) (oW k b t M ++ kW cI k M ++ bW k B ++ sW cI b S4 ++ sW cI t S3 ++ Z9) := by simpa only [List.append_assoc, List.append_nil, List.nil_append] using hD
                    rw [lc_5]
                    refine lv_iload hx hb dL_law_281 (lv_at hl 3 rfl) ?_
                    refine lv_isub hx hb dL_law_283 ?_
                    refine lv_iload hx hb dL_law_284 (lv_at hl 2 rfl) ?_
                    refine lv_icmp_ne (tgt := 311) hx hb dL_law_286 (by decide) (fun c_7 => ?_) (fun c_7 => ?_)
                    · exact absurd rfl c_7
                    · refine lv_iload hx hb dL_law_289 (lv_at hl 1 rfl) ?_
                      refine lv_aload_n hx hb dL_law_291 rfl (lv_at hl 5 rfl) ?_
                      refine lv_iconst (v := 3) hx hb dL_law_292 (by decide) ?_
                      refine zI_V (pre := ([] : va_W)) (wc := oW k b t M ++ kW cI k M ++ bW k B ++ sW cI b S4 ++ sW cI t S3) (post := (Z9)) (w1 := oW k b t M ++ kW cI k M ++ bW k B ++ sW cI b S4 ++ sW cI t S3) ⟨hx, hb, hml, hown, hts⟩ (c_X3_count l dC dI cI k b t h w M B S4 S3 3 gS1 (by decide)) (cwV 1 hts gL_law_X3_count rfl rfl rfl (by decide +kernel) ⟨Nat.le_of_ble_eq_true rfl, Nat.le_of_ble_eq_true rfl⟩) (by simp only [List.append_assoc, List.append_nil, List.nil_append]) hK hN (ci := 3) (q0 := 0) rfl rfl rfl hP hD hS hA rfl hl.1 rfl (Nat.le_of_ble_eq_true rfl) dL_law_293 ⟨by show _ ≤ 600104; omega, by show _ ≤ 7301314; omega⟩ (fun H locs hP hD hS => ?_)
                      have hP : va_P (dC, dI) vwCl (oW k b t M ++ kW cI k M ++ bW k B ++ sW cI b S4 ++ sW cI t S3 ++ Z9) H := by simpa only [List.append_assoc, List.append_nil, List.nil_append] using hP
                      have hD : va_D (lawA s) (oW k b t M ++ kW cI k M ++ bW k B ++ sW cI b S4 ++ sW cI t S3 ++ Z9) := by simpa only [List.append_assoc, List.append_nil, List.nil_append] using hD
                      rw [lc_3]
                      refine lv_icmp_ne (tgt := 311) hx hb dL_law_296 (by decide) (fun c_8 => ?_) (fun c_8 => ?_)
                      · exact absurd rfl c_8
                      · refine lv_aload_n hx hb dL_law_299 rfl (lv_at hl 5 rfl) ?_
                        refine lv_iconst (v := 2) hx hb dL_law_300 (by decide) ?_
                        refine zI_V (pre := ([] : va_W)) (wc := oW k b t M ++ kW cI k M ++ bW k B ++ sW cI b S4 ++ sW cI t S3) (post := (Z9)) (w1 := oW k b t M ++ kW cI k M ++ bW k B ++ sW cI b S4 ++ sW cI t S3) ⟨hx, hb, hml, hown, hts⟩ (c_X3_count l dC dI cI k b t h w M B S4 S3 2 gS1 (by decide)) (cwV 1 hts gL_law_X3_count rfl rfl rfl (by decide +kernel) ⟨Nat.le_of_ble_eq_true rfl, Nat.le_of_ble_eq_true rfl⟩) (by simp only [List.append_assoc, List.append_nil, List.nil_append]) hK hN (ci := 3) (q0 := 0) rfl rfl rfl hP hD hS hA rfl hl.1 rfl (Nat.le_of_ble_eq_true rfl) dL_law_301 ⟨by show _ ≤ 600104; omega, by show _ ≤ 7301314; omega⟩ (fun H locs hP hD hS => ?_)
                        have hP : va_P (dC, dI) vwCl (oW k b t M ++ kW cI k M ++ bW k B ++ sW cI b S4 ++ sW cI t S3 ++ Z9) H := by simpa only [List.append_assoc, List.append_nil, List.nil_append] using hP
                        have hD : va_D (lawA s) (oW k b t M ++ kW cI k M ++ bW k B ++ sW cI b S4 ++ sW cI t S3 ++ Z9) := by simpa only [List.append_assoc, List.append_nil, List.nil_append] using hD
                        rw [lc_2]
                        refine lv_iload hx hb dL_law_304 (lv_at hl 12 rfl) ?_
                        refine lv_iconst (v := 1) hx hb dL_law_306 (by decide) ?_
                        refine lv_iadd hx hb dL_law_307 ?_
                        refine lv_icmp_eq (tgt := 313) hx hb dL_law_308 (by decide) (fun c_9 => ?_) (fun c_9 => ?_)
                        · refine lv_iconst (v := 0) hx hb dL_law_313 (by decide) ?_
                          refine lv_istore (lv' := [(18, .int 0), (17, .int ((sl_sum h w S4 2) + (S4 0 3))), (16, .int (sl_sum h w S4 7)), (15, .int (S4 0 3 - S 0 3)), (14, .int (S 0 3)), (0, .ref sc), (1, .ref (k 0)), (2, .ref qs), (3, .int (nI h)), (4, .int (nI w)), (5, .int (nI pl)), (6, .int (nI rp)), (7, .int sv), (8, .int (nI dy)), (9, .ref ra), (11, .int wt), (12, .int ((sl_sum h w S 2) + (S 0 3))), (13, .int u13)]) hx hb dL_law_314 hl (by decide) rfl (fun ls hl => ?_)
                          refine lv_iconst (v := 0) hx hb dL_law_316 (by decide) ?_
                          refine lv_istore (lv' := [(19, .int 0), (18, .int 0), (17, .int ((sl_sum h w S4 2) + (S4 0 3))), (16, .int (sl_sum h w S4 7)), (15, .int (S4 0 3 - S 0 3)), (14, .int (S 0 3)), (0, .ref sc), (1, .ref (k 0)), (2, .ref qs), (3, .int (nI h)), (4, .int (nI w)), (5, .int (nI pl)), (6, .int (nI rp)), (7, .int sv), (8, .int (nI dy)), (9, .ref ra), (11, .int wt), (12, .int ((sl_sum h w S 2) + (S 0 3))), (13, .int u13)]) hx hb dL_law_317 hl (by decide) rfl (fun ls hl => ?_)
                          exact kk S4 S3 H locs ls hE (bdZ_c hZ (fun _ _ _ => rfl) hS1) hP hD hS (lv_sub hl [0, 1, 14, 13, 12, 11, 10, 9, 8, 7, 6] rfl)
                        · exact absurd hS2 c_9
              · exact absurd (show nI (h) ≤ nI h from nI_le (by omega) (by omega)) c_2
            | succ n171 ih171 =>
              intro i171 u13 H locs ls hi171 hm hP hD hS hl
              refine lv_iload hx hb dL_law_171 (lv_at hl 13 rfl) ?_
              refine lv_iload_n hx hb dL_law_173 rfl (lv_at hl 3 rfl) ?_
              refine lv_icmp_ge (tgt := 218) hx hb dL_law_174 (by decide) (fun c_10 => ?_) (fun c_10 => ?_)
              · exact absurd c_10 (show ¬ nI (h) ≤ nI i171 from nI_ge (by omega) (by omega))
              · refine lv_iconst (v := 0) hx hb dL_law_177 (by decide) ?_
                refine lv_istore (lv' := [(15, .int 0), (0, .ref sc), (1, .ref (k 0)), (2, .ref qs), (3, .int (nI h)), (4, .int (nI w)), (5, .int (nI pl)), (6, .int (nI rp)), (7, .int sv), (8, .int (nI dy)), (9, .ref ra), (11, .int wt), (12, .int ((sl_sum h w S 2) + (S 0 3))), (13, .int u13), (14, .int (nI i171))]) hx hb dL_law_178 hl (by decide) rfl (fun ls hl => ?_)
                have lp180 : ∀ (n180 i180 : Nat) (v13 : Int32) (H : Heap) (locs : List Loc) (ls : Array Slot), i180 + n180 = w → (v13.toInt = yS (fun j => (S 4 j).toInt + (M 3 (sl_date S).toNatClampNeg).toInt) (i171 * w + i180)) → va_P (dC, dI) vwCl (oW k b t M ++ kW cI k M ++ bW k B ++ sW cI b S ++ sW cI t T ++ Z9) H → va_D (lawA s) (oW k b t M ++ kW cI k M ++ bW k B ++ sW cI b S ++ sW cI t T ++ Z9) → va_S (lawA s) s.heap H locs → lv_has ls 26 [(0, .ref sc), (1, .ref (k 0)), (2, .ref qs), (3, .int (nI h)), (4, .int (nI w)), (5, .int (nI pl)), (6, .int (nI rp)), (7, .int sv), (8, .int (nI dy)), (9, .ref ra), (11, .int wt), (12, .int ((sl_sum h w S 2) + (S 0 3))), (13, .int v13), (14, .int (nI i171)), (15, .int (nI i180))] → W p l e room_1 (s.setDrawn d0) m #[Value.ref sc] below meth c H locs (200) (3000) (lw_Z below #[Value.ref sc] s) (F0 m 180 ls []) := by
                  intro n180
                  induction n180 with
                  | zero =>
                    intro i180 v13 H locs ls hi180 hm2 hP hD hS hl
                    obtain rfl : w = i180 := by omega
                    refine lv_iload hx hb dL_law_180 (lv_at hl 14 rfl) ?_
                    refine lv_iload hx hb dL_law_182 (lv_at hl 4 rfl) ?_
                    refine lv_icmp_ge (tgt := 212) hx hb dL_law_184 (by decide) (fun c_11 => ?_) (fun c_11 => ?_)
                    · refine lv_iinc (v := nI (i171 + 1)) (lv' := [(14, .int (nI (i171 + 1))), (0, .ref sc), (1, .ref (k 0)), (2, .ref qs), (3, .int (nI h)), (4, .int (nI w)), (5, .int (nI pl)), (6, .int (nI rp)), (7, .int sv), (8, .int (nI dy)), (9, .ref ra), (11, .int wt), (12, .int ((sl_sum h w S 2) + (S 0 3))), (13, .int v13), (15, .int (nI w))]) hx hb dL_law_212 hl (k := 13) rfl (show nI i171 + Int32.ofInt 1 = nI (i171 + 1) from nI_1 i171) (by decide) rfl (fun ls hl => ?_)
                      refine lv_goto (tgt := 171) hx hb dL_law_215 (by decide) ?_
                      refine W.widen (k := 200) (n := 3000) (by omega) (by omega) ?_
                      exact ih171 (i171 + 1) _ _ _ ls (by omega) (by rw [Nat.succ_mul]; exact hm2) hP hD hS (lv_sub hl [1, 2, 3, 4, 5, 6, 7, 8, 9, 10, 11, 12, 13, 0] rfl)
                    · exact absurd (show nI (w) ≤ nI w from nI_le (by omega) (by omega)) c_11
                  | succ n180 ih180 =>
                    intro i180 v13 H locs ls hi180 hm2 hP hD hS hl
                    refine lv_iload hx hb dL_law_180 (lv_at hl 14 rfl) ?_
                    refine lv_iload hx hb dL_law_182 (lv_at hl 4 rfl) ?_
                    refine lv_icmp_ge (tgt := 212) hx hb dL_law_184 (by decide) (fun c_12 => ?_) (fun c_12 => ?_)
                    · exact absurd c_12 (show ¬ nI (w) ≤ nI i180 from nI_ge (by omega) (by omega))
                    · refine lv_iload hx hb dL_law_187 (lv_at hl 12 rfl) ?_
                      refine lv_aload_n hx hb dL_law_189 rfl (lv_at hl 1 rfl) ?_
                      refine lv_iload hx hb dL_law_190 (lv_at hl 13 rfl) ?_
                      refine lv_iload hx hb dL_law_192 (lv_at hl 14 rfl) ?_
                      refine lv_iconst (v := 2) hx hb dL_law_194 (by decide) ?_
                      refine zI_V (pre := ([] : va_W)) (wc := oW k b t M ++ kW cI k M ++ bW k B ++ sW cI b S ++ sW cI t T) (post := (Z9)) (w1 := oW k b t M ++ kW cI k M ++ bW k B ++ sW cI b S ++ sW cI t T) ⟨hx, hb, hml, hown, hts⟩ (c_X3_field l dC dI cI k b t h w M B S T (nI i171) (nI i180) 2 gS (lt_f (t := i171) (f := i180) gS (by omega) (by omega) (by decide))) (cwV 3 hts gL_law_X3_field rfl rfl rfl (by decide +kernel) ⟨Nat.le_of_ble_eq_true rfl, Nat.le_of_ble_eq_true rfl⟩) (by simp only [List.append_assoc, List.append_nil, List.nil_append]) hK hN (ci := 3) (q0 := 0) rfl rfl rfl hP hD hS hA rfl hl.1 rfl (Nat.le_of_ble_eq_true rfl) dL_law_195 ⟨by show _ ≤ 600104; omega, by show _ ≤ 7301314; omega⟩ (fun H locs hP hD hS => ?_)
                      have hP : va_P (dC, dI) vwCl (oW k b t M ++ kW cI k M ++ bW k B ++ sW cI b S ++ sW cI t T ++ Z9) H := by simpa only [List.append_assoc, List.append_nil, List.nil_append] using hP
                      have hD : va_D (lawA s) (oW k b t M ++ kW cI k M ++ bW k B ++ sW cI b S ++ sW cI t T ++ Z9) := by simpa only [List.append_assoc, List.append_nil, List.nil_append] using hD
                      rw [lf_2 (t := i171) (f := i180) gS (by omega) (by omega)]
                      refine lv_aload hx hb dL_law_198 (lv_at hl 9 rfl) ?_
                      refine lv_iconst (v := 2) hx hb dL_law_200 (by decide) ?_
                      refine va_ialdk 2 (cA := cI) (n := 3) (f := ga) hx hb hK hP (List.length (oW k b t M ++ kW cI k M ++ bW k B ++ sW cI b S ++ sW cI t T) + pa) 0 (za_R y2_) rfl rfl (by decide) (by decide) dL_law_201 ?_
                      rw [y5_]
                      refine lv_iadd hx hb dL_law_202 ?_
                      refine lv_iadd hx hb dL_law_203 ?_
                      refine lv_istore (lv' := [(13, .int (v13 + ((S 4 (i171 * w + i180)) + (M 3 (sl_date S).toNatClampNeg)))), (0, .ref sc), (1, .ref (k 0)), (2, .ref qs), (3, .int (nI h)), (4, .int (nI w)), (5, .int (nI pl)), (6, .int (nI rp)), (7, .int sv), (8, .int (nI dy)), (9, .ref ra), (11, .int wt), (12, .int ((sl_sum h w S 2) + (S 0 3))), (14, .int (nI i171)), (15, .int (nI i180))]) hx hb dL_law_204 hl (by decide) rfl (fun ls hl => ?_)
                      refine lv_iinc (v := nI (i180 + 1)) (lv' := [(15, .int (nI (i180 + 1))), (13, .int (v13 + ((S 4 (i171 * w + i180)) + (M 3 (sl_date S).toNatClampNeg)))), (0, .ref sc), (1, .ref (k 0)), (2, .ref qs), (3, .int (nI h)), (4, .int (nI w)), (5, .int (nI pl)), (6, .int (nI rp)), (7, .int sv), (8, .int (nI dy)), (9, .ref ra), (11, .int wt), (12, .int ((sl_sum h w S 2) + (S 0 3))), (14, .int (nI i171))]) hx hb dL_law_206 hl (k := 14) rfl (show nI i180 + Int32.ofInt 1 = nI (i180 + 1) from nI_1 i180) (by decide) rfl (fun ls hl => ?_)
                      refine lv_goto (tgt := 180) hx hb dL_law_209 (by decide) ?_
                      refine W.widen (k := 200) (n := 3000) (by omega) (by omega) ?_
                      exact ih180 (i180 + 1) _ _ _ ls (by omega) (lw_most hN25 (y_idx (by omega) (by omega)) (fun j hj => ⟨(hst j hj).2.2.2.2.1, (hst j hj).2.2.2.2.2⟩) ⟨m5_, m6_⟩ hm2) hP hD hS (lv_sub hl [2, 3, 4, 5, 6, 7, 8, 9, 10, 11, 12, 13, 1, 14, 0] rfl)
                refine W.widen (k := 200) (n := 3000) (by omega) (by omega) ?_
                exact lp180 (w) 0 _ _ _ ls (by omega) hm hP hD hS (lv_sub hl [1, 2, 3, 4, 5, 6, 7, 8, 9, 10, 11, 12, 13, 14, 0] rfl)
          refine W.widen (k := 200) (n := 3000) (by omega) (by omega) ?_
          exact lp171 (h) 0 _ _ _ ls (by omega) (by rw [Nat.zero_mul]; rfl) hP hD hS (lv_sub hl [13, 12, 11, 10, 9, 8, 7, 6, 5, 4, 3, 2, 1, 0] rfl)
        by_cases hc9 : u10 ≤ 0
        · refine lv_iload hx hb dL_law_114 (lv_at hl 0 rfl) ?_
          refine lv_iload hx hb dL_law_116 (lv_at hl 6 rfl) ?_
          refine lv_icmp_ge (tgt := 152) hx hb dL_law_118 (by decide) (fun c_13 => ?_) (fun c_13 => ?_)
          · exact absurd c_13 (nI_nle (by omega) (by omega))
          · refine lv_iload hx hb dL_law_121 (lv_at hl 12 rfl) ?_
            refine lv_if_le (tgt := 152) hx hb dL_law_123 (by decide) (fun c_14 => ?_) (fun c_14 => ?_)
            · exact h152 _ _ _ _ (lw_wat0 h5 w5 hsh ⟨m1_, m2_⟩ hu hc9) hP hD hS (lv_sub hl [1, 11, 10, 9, 8, 7, 6, 5, 4, 3, 2] rfl)
            · exact absurd hc9 c_14
        · have lp114 : ∀ (n114 i114 : Nat) (u11 : Int32) (H : Heap) (locs : List Loc) (ls : Array Slot), i114 + n114 = w → (u11 = itr (fun i x => x + (fun f => M 2 (sl_date S).toNatClampNeg * S 1 f / u10) i.toNatClampNeg) i114 (nI h * nI w * M 1 (sl_date S).toNatClampNeg)) → va_P (dC, dI) vwCl (oW k b t M ++ kW cI k M ++ bW k B ++ sW cI b S ++ sW cI t T ++ Z9) H → va_D (lawA s) (oW k b t M ++ kW cI k M ++ bW k B ++ sW cI b S ++ sW cI t T ++ Z9) → va_S (lawA s) s.heap H locs → lv_has ls 26 [(0, .ref sc), (1, .ref (k 0)), (2, .ref qs), (3, .int (nI h)), (4, .int (nI w)), (5, .int (nI pl)), (6, .int (nI rp)), (7, .int sv), (8, .int (nI dy)), (9, .ref ra), (10, .int u10), (11, .int u11), (12, .int (nI i114))] → W p l e room_1 (s.setDrawn d0) m #[Value.ref sc] below meth c H locs (200) (3000) (lw_Z below #[Value.ref sc] s) (F0 m 114 ls []) := by
            intro n114
            induction n114 with
            | zero =>
              intro i114 u11 H locs ls hi114 hu1 hP hD hS hl
              obtain rfl : w = i114 := by omega
              refine lv_iload hx hb dL_law_114 (lv_at hl 12 rfl) ?_
              refine lv_iload hx hb dL_law_116 (lv_at hl 4 rfl) ?_
              refine lv_icmp_ge (tgt := 152) hx hb dL_law_118 (by decide) (fun c_15 => ?_) (fun c_15 => ?_)
              · exact h152 _ _ _ _ (by rw [hu1]; exact lw_wat1 h5 w5 hsh ⟨m1_, m2_⟩ ⟨m3_, m4_⟩ hu hc9) hP hD hS (lv_sub hl [11, 9, 8, 7, 6, 5, 4, 3, 2, 1, 0] rfl)
              · exact absurd (show nI (w) ≤ nI w from nI_le (by omega) (by omega)) c_15
            | succ n114 ih114 =>
              intro i114 u11 H locs ls hi114 hu1 hP hD hS hl
              refine lv_iload hx hb dL_law_114 (lv_at hl 12 rfl) ?_
              refine lv_iload hx hb dL_law_116 (lv_at hl 4 rfl) ?_
              refine lv_icmp_ge (tgt := 152) hx hb dL_law_118 (by decide) (fun c_16 => ?_) (fun c_16 => ?_)
              · exact absurd c_16 (show ¬ nI (w) ≤ nI i114 from nI_ge (by omega) (by omega))
              · refine lv_iload hx hb dL_law_121 (lv_at hl 10 rfl) ?_
                refine lv_if_le (tgt := 152) hx hb dL_law_123 (by decide) (fun c_17 => ?_) (fun c_17 => ?_)
                · exact absurd c_17 hc9
                · refine lv_iload hx hb dL_law_126 (lv_at hl 11 rfl) ?_
                  refine lv_aload hx hb dL_law_128 (lv_at hl 9 rfl) ?_
                  refine lv_iconst (v := 1) hx hb dL_law_130 (by decide) ?_
                  refine va_ialdk 1 (cA := cI) (n := 3) (f := ga) hx hb hK hP (List.length (oW k b t M ++ kW cI k M ++ bW k B ++ sW cI b S ++ sW cI t T) + pa) 0 (za_R y2_) rfl rfl (by decide) (by decide) dL_law_131 ?_
                  rw [y4_]
                  refine lv_aload_n hx hb dL_law_132 rfl (lv_at hl 2 rfl) ?_
                  refine va_get (D := (dC, dI)) (ci := 4) (v := .ref q1) (C := RX4) (T := TX4) (N := 10) hx hb hts hinX4 hown hK hP (List.length (oW k b t M ++ kW cI k M ++ bW k B ++ sW cI b S ++ sW cI t T) + 0) (za_R z1) rfl 4 (by decide) hf44 (fun _ h9 => h9) rfl dL_law_133 ?_
                  refine lv_iload hx hb dL_law_136 (lv_at hl 12 rfl) ?_
                  refine va_iald (cA := cI) (n := w) (f := sh) hx hb hK hP (List.length (oW k b t M ++ kW cI k M ++ bW k B ++ sW cI b S ++ sW cI t T) + 3) 0 (za_R z3) rfl (vp_in_nI (by omega) (by omega)) dL_law_138 ?_
                  rw [nI_clamp (by omega), z4 i114 (by omega)]
                  refine lv_imul hx hb dL_law_139 ?_
                  refine lv_iload hx hb dL_law_140 (lv_at hl 10 rfl) ?_
                  refine lv_idiv hx hb dL_law_142 (fun h9 => hc9 (by rw [h9]; decide)) ?_
                  refine lv_iadd hx hb dL_law_143 ?_
                  refine lv_istore (lv' := [(11, .int (u11 + (((M 2 (sl_date S).toNatClampNeg) * (S 1 i114)) / u10))), (0, .ref sc), (1, .ref (k 0)), (2, .ref qs), (3, .int (nI h)), (4, .int (nI w)), (5, .int (nI pl)), (6, .int (nI rp)), (7, .int sv), (8, .int (nI dy)), (9, .ref ra), (10, .int u10), (12, .int (nI i114))]) hx hb dL_law_144 hl (by decide) rfl (fun ls hl => ?_)
                  refine lv_iinc (v := nI (i114 + 1)) (lv' := [(12, .int (nI (i114 + 1))), (11, .int (u11 + (((M 2 (sl_date S).toNatClampNeg) * (S 1 i114)) / u10))), (0, .ref sc), (1, .ref (k 0)), (2, .ref qs), (3, .int (nI h)), (4, .int (nI w)), (5, .int (nI pl)), (6, .int (nI rp)), (7, .int sv), (8, .int (nI dy)), (9, .ref ra), (10, .int u10)]) hx hb dL_law_146 hl (k := 12) rfl (show nI i114 + Int32.ofInt 1 = nI (i114 + 1) from nI_1 i114) (by decide) rfl (fun ls hl => ?_)
                  refine lv_goto (tgt := 114) hx hb dL_law_149 (by decide) ?_
                  refine W.widen (k := 200) (n := 3000) (by omega) (by omega) ?_
                  exact ih114 (i114 + 1) _ _ _ ls (by omega) (by rw [hu1, itr_s]; show _ = _ + M 2 (sl_date S).toNatClampNeg * S 1 (nI i114).toNatClampNeg / u10; rw [nI_clamp (by omega)]) hP hD hS (lv_sub hl [2, 3, 4, 5, 6, 7, 8, 9, 10, 11, 12, 1, 0] rfl)
          refine W.widen (k := 200) (n := 3000) (by omega) (by omega) ?_
          exact lp114 (w) 0 _ _ _ ls (by omega) rfl hP hD hS (lv_sub hl [2, 3, 4, 5, 6, 7, 8, 9, 10, 11, 12, 1, 0] rfl)
      · exact absurd (show nI (w) ≤ nI w from nI_le (by omega) (by omega)) c_1
    | succ n75 ih75 =>
      intro i75 u10 H locs ls hi75 hu hP hD hS hl
      refine lv_iload hx hb dL_law_75 (lv_at hl 11 rfl) ?_
      refine lv_iload hx hb dL_law_77 (lv_at hl 4 rfl) ?_
      refine lv_icmp_ge (tgt := 100) hx hb dL_law_79 (by decide) (fun c_18 => ?_) (fun c_18 => ?_)
      · exact absurd c_18 (show ¬ nI (w) ≤ nI i75 from nI_ge (by omega) (by omega))
      · refine lv_iload hx hb dL_law_82 (lv_at hl 10 rfl) ?_
        refine lv_aload_n hx hb dL_law_84 rfl (lv_at hl 2 rfl) ?_
        refine va_get (D := (dC, dI)) (ci := 4) (v := .ref q1) (C := RX4) (T := TX4) (N := 10) hx hb hts hinX4 hown hK hP (List.length (oW k b t M ++ kW cI k M ++ bW k B ++ sW cI b S ++ sW cI t T) + 0) (za_R z1) rfl 4 (by decide) hf44 (fun _ h9 => h9) rfl dL_law_85 ?_
        refine lv_iload hx hb dL_law_88 (lv_at hl 11 rfl) ?_
        refine va_iald (cA := cI) (n := w) (f := sh) hx hb hK hP (List.length (oW k b t M ++ kW cI k M ++ bW k B ++ sW cI b S ++ sW cI t T) + 3) 0 (za_R z3) rfl (vp_in_nI (by omega) (by omega)) dL_law_90 ?_
        rw [nI_clamp (by omega), z4 i75 (by omega)]
        refine lv_iadd hx hb dL_law_91 ?_
        refine lv_istore (lv' := [(10, .int (u10 + (S 1 i75))), (0, .ref sc), (1, .ref (k 0)), (2, .ref qs), (3, .int (nI h)), (4, .int (nI w)), (5, .int (nI pl)), (6, .int (nI rp)), (7, .int sv), (8, .int (nI dy)), (9, .ref ra), (11, .int (nI i75))]) hx hb dL_law_92 hl (by decide) rfl (fun ls hl => ?_)
        refine lv_iinc (v := nI (i75 + 1)) (lv' := [(11, .int (nI (i75 + 1))), (10, .int (u10 + (S 1 i75))), (0, .ref sc), (1, .ref (k 0)), (2, .ref qs), (3, .int (nI h)), (4, .int (nI w)), (5, .int (nI pl)), (6, .int (nI rp)), (7, .int sv), (8, .int (nI dy)), (9, .ref ra)]) hx hb dL_law_94 hl (k := 11) rfl (show nI i75 + Int32.ofInt 1 = nI (i75 + 1) from nI_1 i75) (by decide) rfl (fun ls hl => ?_)
        refine lv_goto (tgt := 75) hx hb dL_law_97 (by decide) ?_
        refine W.widen (k := 200) (n := 3000) (by omega) (by omega) ?_
        exact ih75 (i75 + 1) _ _ _ ls (by omega) (by rw [hu, itr_s]; show _ = _ + S 1 (nI i75).toNatClampNeg; rw [nI_clamp (by omega)]) hP hD hS (lv_sub hl [2, 3, 4, 5, 6, 7, 8, 9, 10, 11, 1, 0] rfl)
  refine W.widen (k := 200) (n := 3000) (by omega) (by omega) ?_
  exact lp75 (w) 0 _ _ _ ls (by omega) rfl hP hD hS (lv_sub hl [11, 10, 9, 8, 7, 6, 5, 4, 3, 2, 1, 0] rfl)

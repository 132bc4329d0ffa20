set_option maxHeartbeats 8000000 in
set_option maxRecDepth 100000 in
theorem law_Go (l : Launch) {p : Program} {e : Env} {s : State} {m : MethodId} {below : List Frame} {meth : Method} {c : Code} {sc : Nat} {dC : Nat → ClassId} {dI : Nat → Nat → Nat} {cI cR cF : ClassId} {k b t : Nat → Nat} (G0 : lawG p s m meth c sc (dC, dI) cI cR cF) {h w : Nat} {M B S T : sS} {qs : Nat} {Z9 : va_W} {H : Heap} {locs : List Loc} {ls : Array Slot} (hZ : bdZ cI cR h w M S qs Z9) (hB : yB h w 0 S) (hM : yM M) (h0 : M 0 0 = 0) (h4 : S 0 4 = 0) (hP : va_P (dC, dI) vwCl (oW k b t M ++ kW cI k M ++ bW k B ++ sW cI b S ++ sW cI t T ++ Z9) H) (hD : va_D (lawA s) (oW k b t M ++ kW cI k M ++ bW k B ++ sW cI b S ++ sW cI t T ++ Z9)) (hS : va_S (lawA s) s.heap H locs) (hl : lv_has ls 26 [(2, .ref qs), (1, .ref (k 0)), (0, .ref sc)]) : W p l e room_1 (s.setDrawn s.drawn) m #[Value.ref sc] below meth c H locs 200 3000 (lw_Z below #[Value.ref sc] s) (F0 m 20 ls []) := by
  obtain ⟨hx, hb, hr, hml, hown, hts, hfs, hlocks, hK3, hN⟩ := lawG_d G0 s.drawn
  have hown : s.vm.findClass RL = some m.cls := hown
  have hA : ∀ q : Nat, s.heap.size ≤ q → lawA s q := fun _ h => h
  have hK : va_K (dC, dI) vwCl [(cI, .int)] (s.setDrawn s.drawn) := hK3.sub [0] rfl
  have hinX4 : ∀ w ∈ wsX40, w ∈ wsL_law := inlX4
  have hf24 := hfs (.fieldLink RL 24 "PaddyTerracesLaw$Sim" "h" "I") (by decide)
  have hf28 := hfs (.fieldLink RL 28 "PaddyTerracesLaw$Sim" "w" "I") (by decide)
  have hf40 := hfs (.fieldLink RL 40 "PaddyTerracesLaw$Sim" "calendar" "[[I") (by decide)
  have hf44 := hfs (.fieldLink RL 44 "PaddyTerracesLaw$Sim" "shares" "[I") (by decide)
  have hf70 := hfs (.fieldLink RL 70 "PaddyTerracesLaw$Sim" "moved" "I") (by decide)
  have gS := hB.1
  obtain ⟨q1, q2, q3, sh, cf, z1, z2, z3, z4, z5⟩ := id hZ
  obtain ⟨pl, hpl, I⟩ := lw_first hB hM h0 h4
  refine lv_aload_n hx hb dL_law_20 rfl (lv_at hl 0 rfl) ?_
  refine va_get (D := (dC, dI)) (ci := 4) (v := .int (nI h)) (C := RX4) (T := TX4) (N := 10) hx hb hts hinX4 hown hK hP (List.length (oW k b t M ++ kW cI k M ++ bW k B ++ sW cI b S ++ sW cI t T) + 0) (za_R z1) rfl 0 (by decide) hf24 (fun _ h9 => h9) rfl dL_law_21 ?_
  refine lv_istore_n (lv' := [(3, .int (nI h)), (2, .ref qs), (1, .ref (k 0)), (0, .ref sc)]) hx hb dL_law_24 rfl hl (by decide) rfl (fun ls hl => ?_)
  refine lv_aload_n hx hb dL_law_25 rfl (lv_at hl 1 rfl) ?_
  refine va_get (D := (dC, dI)) (ci := 4) (v := .int (nI w)) (C := RX4) (T := TX4) (N := 10) hx hb hts hinX4 hown hK hP (List.length (oW k b t M ++ kW cI k M ++ bW k B ++ sW cI b S ++ sW cI t T) + 0) (za_R z1) rfl 1 (by decide) hf28 (fun _ h9 => h9) rfl dL_law_26 ?_
  refine lv_istore (lv' := [(4, .int (nI w)), (3, .int (nI h)), (2, .ref qs), (1, .ref (k 0)), (0, .ref sc)]) hx hb dL_law_29 hl (by decide) rfl (fun ls hl => ?_)
  refine lv_aload_n hx hb dL_law_31 rfl (lv_at hl 3 rfl) ?_
  refine lv_iconst (v := 3) hx hb dL_law_32 (by decide) ?_
  refine zI_V (pre := ([] : va_W)) (wc := oW k b t M ++ kW cI k M ++ bW k B ++ sW cI b S ++ sW cI t T) (post := (Z9)) (w1 := oW k b t M ++ kW cI k M ++ bW k B ++ sW cI b S ++ sW cI t T) ⟨hx, hb, hml, hown, hts⟩ (c_X3_count l dC dI cI k b t h w M B S T 3 gS (by decide)) (cwV 1 hts gL_law_X3_count rfl rfl rfl (by decide +kernel) ⟨Nat.le_of_ble_eq_true rfl, Nat.le_of_ble_eq_true rfl⟩) (by simp only [List.append_assoc, List.append_nil, List.nil_append]) hK hN (ci := 3) (q0 := 0) rfl rfl rfl hP hD hS hA rfl hl.1 rfl (Nat.le_of_ble_eq_true rfl) dL_law_33 ⟨by show _ ≤ 600104; omega, by show _ ≤ 7301314; omega⟩ (fun H locs hP hD hS => ?_)
  have hP : va_P (dC, dI) vwCl (oW k b t M ++ kW cI k M ++ bW k B ++ sW cI b S ++ sW cI t T ++ Z9) H := by simpa only [List.append_assoc, List.append_nil, List.nil_append] using hP
  have hD : va_D (lawA s) (oW k b t M ++ kW cI k M ++ bW k B ++ sW cI b S ++ sW cI t T ++ Z9) := by simpa only [List.append_assoc, List.append_nil, List.nil_append] using hD
  rw [lc_3]
  rw [hpl]
  refine lv_istore (lv' := [(5, .int (nI pl)), (4, .int (nI w)), (3, .int (nI h)), (2, .ref qs), (1, .ref (k 0)), (0, .ref sc)]) hx hb dL_law_36 hl (by decide) rfl (fun ls hl => ?_)
  refine lv_iconst (v := 0) hx hb dL_law_38 (by decide) ?_
  refine lv_istore (lv' := [(6, .int 0), (5, .int (nI pl)), (4, .int (nI w)), (3, .int (nI h)), (2, .ref qs), (1, .ref (k 0)), (0, .ref sc)]) hx hb dL_law_39 hl (by decide) rfl (fun ls hl => ?_)
  refine lv_iconst (v := 0) hx hb dL_law_41 (by decide) ?_
  refine lv_istore (lv' := [(7, .int 0), (6, .int 0), (5, .int (nI pl)), (4, .int (nI w)), (3, .int (nI h)), (2, .ref qs), (1, .ref (k 0)), (0, .ref sc)]) hx hb dL_law_42 hl (by decide) rfl (fun ls hl => ?_)
  refine lv_iconst (v := 0) hx hb dL_law_44 (by decide) ?_
  refine lv_istore (lv' := [(8, .int 0), (7, .int 0), (6, .int 0), (5, .int (nI pl)), (4, .int (nI w)), (3, .int (nI h)), (2, .ref qs), (1, .ref (k 0)), (0, .ref sc)]) hx hb dL_law_45 hl (by decide) rfl (fun ls hl => ?_)
  have hl := lv_sub hl [0, 1, 2, 3, 4, 5, 6, 7, 8] rfl
  exact law_loop l G0 40 0 0 M S T 0 H locs ls s.drawn (by omega) (Drawn.sameBut.refl s.drawn lw_cs) I hZ hP hD hS hl

set_option maxHeartbeats 8000000 in
set_option maxRecDepth 100000 in
theorem law_B (l : Launch) {p : Program} {e : Env} {s : State} {m : MethodId} {below : List Frame} {meth : Method} {c : Code} {sc : Nat} {dC : Nat → ClassId} {dI : Nat → Nat → Nat} {cI cR cF : ClassId} {k b t : Nat → Nat} (G0 : lawG p s m meth c sc (dC, dI) cI cR cF) {h w dy pl rp : Nat} {M B S T : sS} {sv : Int32} {qs : Nat} {Z9 : va_W} {H : Heap} {locs : List Loc} {ls : Array Slot} {d0 : Drawn} (hE : lwE h w dy pl rp M S sv) (hZ : bdZ cI cR h w M S qs Z9) (hdy : dy < 40) (hP : va_P (dC, dI) vwCl (oW k b t M ++ kW cI k M ++ bW k B ++ sW cI b S ++ sW cI t T ++ Z9) H) (hD : va_D (lawA s) (oW k b t M ++ kW cI k M ++ bW k B ++ sW cI b S ++ sW cI t T ++ Z9)) (hS : va_S (lawA s) s.heap H locs) (hl : lv_has ls 26 ((19, .int 0) :: (18, .int 0) :: [(8, .int (nI dy)), (7, .int sv), (6, .int (nI rp)), (5, .int (nI pl)), (4, .int (nI w)), (3, .int (nI h)), (2, .ref qs), (1, .ref (k 0)), (0, .ref sc)])) (kk : ∀ (M' S' : sS) (rp' : Nat) (sv' al' : Int32) (H : Heap) (locs : List Loc) (ls : Array Slot), lwE h w dy pl rp' M' S' sv' → bdZ cI cR h w M' S' qs Z9 → al'.toInt = yS (fun j => (S' 2 j).toInt) (h * w) → va_P (dC, dI) vwCl (oW k b t M' ++ kW cI k M' ++ bW k B ++ sW cI b S' ++ sW cI t T ++ Z9) H → va_D (lawA s) (oW k b t M' ++ kW cI k M' ++ bW k B ++ sW cI b S' ++ sW cI t T ++ Z9) → va_S (lawA s) s.heap H locs → lv_has ls 26 [(18, .int al'), (8, .int (nI dy)), (7, .int sv'), (6, .int (nI rp')), (5, .int (nI pl)), (4, .int (nI w)), (3, .int (nI h)), (2, .ref qs), (1, .ref (k 0)), (0, .ref sc)] → W p l e room_1 (s.setDrawn d0) m #[Value.ref sc] below meth c H locs 200 3000 (lw_Z below #[Value.ref sc] s) (F0 m 748 ls [])) : W p l e room_1 (s.setDrawn d0) m #[Value.ref sc] below meth c H locs 200 3000 (lw_Z below #[Value.ref sc] s) (F0 m 319 ls []) := by
  obtain ⟨hx, hb, hr, hml, hown, hts, hfs, hlocks, hK3, hN⟩ := lawG_d G0 d0
  have hown : s.vm.findClass RL = some m.cls := hown
  have hA : ∀ q : Nat, s.heap.size ≤ q → lawA s q := fun _ h => h
  have hK : va_K (dC, dI) vwCl [(cI, .int)] (s.setDrawn d0) := hK3.sub [0] rfl
  have hinX4 : ∀ w ∈ wsX40, w ∈ wsL_law := inlX4
  have hf24 := hfs (.fieldLink RL 24 "PaddyTerracesLaw$Sim" "h" "I") (by decide)
  have hf28 := hfs (.fieldLink RL 28 "PaddyTerracesLaw$Sim" "w" "I") (by decide)
  have hf40 := hfs (.fieldLink RL 40 "PaddyTerracesLaw$Sim" "calendar" "[[I") (by decide)
  have hf44 := hfs (.fieldLink RL 44 "PaddyTerracesLaw$Sim" "shares" "[I") (by decide)
  have hf70 := hfs (.fieldLink RL 70 "PaddyTerracesLaw$Sim" "moved" "I") (by decide)
  have hh8 : h ≤ 5 := hE.1.1.2.1
  have hw8 : w ≤ 5 := hE.1.1.2.2.1
  obtain ⟨-, -, hh2, -, hw2, -⟩ := id hE.1.1.1
  have lp319 : ∀ (n319 i319 : Nat) (M : sS) (S : sS) (rp : Nat) (sv : Int32) (al : Int32) (H : Heap) (locs : List Loc) (ls : Array Slot), i319 + n319 = h → (lwE h w dy pl rp M S sv) → (bdZ cI cR h w M S qs Z9) → (al.toInt = yS (fun j => (S 2 j).toInt) (i319 * w)) → va_P (dC, dI) vwCl (oW k b t M ++ kW cI k M ++ bW k B ++ sW cI b S ++ sW cI t T ++ Z9) H → va_D (lawA s) (oW k b t M ++ kW cI k M ++ bW k B ++ sW cI b S ++ sW cI t T ++ Z9) → va_S (lawA s) s.heap H locs → lv_has ls 26 [(0, .ref sc), (1, .ref (k 0)), (2, .ref qs), (3, .int (nI h)), (4, .int (nI w)), (5, .int (nI pl)), (6, .int (nI rp)), (7, .int sv), (8, .int (nI dy)), (18, .int al), (19, .int (nI i319))] → W p l e room_1 (s.setDrawn d0) m #[Value.ref sc] below meth c H locs (200) (3000) (lw_Z below #[Value.ref sc] s) (F0 m 319 ls []) := by
    intro n319
    induction n319 with
    | zero =>
      intro i319 M S rp sv al H locs ls hi319 hE hZ hal hP hD hS hl
      obtain rfl : h = i319 := by omega
      refine lv_iload hx hb dL_law_319 (lv_at hl 10 rfl) ?_
      refine lv_iload_n hx hb dL_law_321 rfl (lv_at hl 3 rfl) ?_
      refine lv_icmp_ge (tgt := 748) hx hb dL_law_322 (by decide) (fun c_1 => ?_) (fun c_1 => ?_)
      · exact kk _ _ _ _ _ H locs ls hE hZ hal hP hD hS (lv_sub hl [9, 8, 7, 6, 5, 4, 3, 2, 1, 0] rfl)
      · exact absurd (show nI (h) ≤ nI h from nI_le (by omega) (by omega)) c_1
    | succ n319 ih319 =>
      intro i319 M S rp sv al H locs ls hi319 hE hZ hal hP hD hS hl
      refine lv_iload hx hb dL_law_319 (lv_at hl 10 rfl) ?_
      refine lv_iload_n hx hb dL_law_321 rfl (lv_at hl 3 rfl) ?_
      refine lv_icmp_ge (tgt := 748) hx hb dL_law_322 (by decide) (fun c_2 => ?_) (fun c_2 => ?_)
      · exact absurd c_2 (show ¬ nI (h) ≤ nI i319 from nI_ge (by omega) (by omega))
      · refine lv_iconst (v := 0) hx hb dL_law_325 (by decide) ?_
        refine lv_istore (lv' := [(20, .int 0), (0, .ref sc), (1, .ref (k 0)), (2, .ref qs), (3, .int (nI h)), (4, .int (nI w)), (5, .int (nI pl)), (6, .int (nI rp)), (7, .int sv), (8, .int (nI dy)), (18, .int al), (19, .int (nI i319))]) hx hb dL_law_326 hl (by decide) rfl (fun ls hl => ?_)
        have lp328 : ∀ (n328 i328 : Nat) (M : sS) (S : sS) (rp : Nat) (sv : Int32) (al : Int32) (H : Heap) (locs : List Loc) (ls : Array Slot), i328 + n328 = w → (lwE h w dy pl rp M S sv) → (bdZ cI cR h w M S qs Z9) → (al.toInt = yS (fun j => (S 2 j).toInt) (i319 * w + i328)) → va_P (dC, dI) vwCl (oW k b t M ++ kW cI k M ++ bW k B ++ sW cI b S ++ sW cI t T ++ Z9) H → va_D (lawA s) (oW k b t M ++ kW cI k M ++ bW k B ++ sW cI b S ++ sW cI t T ++ Z9) → va_S (lawA s) s.heap H locs → lv_has ls 26 [(0, .ref sc), (1, .ref (k 0)), (2, .ref qs), (3, .int (nI h)), (4, .int (nI w)), (5, .int (nI pl)), (6, .int (nI rp)), (7, .int sv), (8, .int (nI dy)), (18, .int al), (19, .int (nI i319)), (20, .int (nI i328))] → W p l e room_1 (s.setDrawn d0) m #[Value.ref sc] below meth c H locs (200) (3000) (lw_Z below #[Value.ref sc] s) (F0 m 328 ls []) := by
          intro n328
          induction n328 with
          | zero =>
            intro i328 M S rp sv al H locs ls hi328 hE hZ hal hP hD hS hl
            obtain rfl : w = i328 := by omega
            refine lv_iload hx hb dL_law_328 (lv_at hl 11 rfl) ?_
            refine lv_iload hx hb dL_law_330 (lv_at hl 4 rfl) ?_
            refine lv_icmp_ge (tgt := 742) hx hb dL_law_332 (by decide) (fun c_3 => ?_) (fun c_3 => ?_)
            · refine lv_iinc (v := nI (i319 + 1)) (lv' := [(19, .int (nI (i319 + 1))), (0, .ref sc), (1, .ref (k 0)), (2, .ref qs), (3, .int (nI h)), (4, .int (nI w)), (5, .int (nI pl)), (6, .int (nI rp)), (7, .int sv), (8, .int (nI dy)), (18, .int al), (20, .int (nI w))]) hx hb dL_law_742 hl (k := 10) rfl (show nI i319 + Int32.ofInt 1 = nI (i319 + 1) from nI_1 i319) (by decide) rfl (fun ls hl => ?_)
              refine lv_goto (tgt := 319) hx hb dL_law_745 (by decide) ?_
              refine W.widen (k := 200) (n := 3000) (by omega) (by omega) ?_
              exact ih319 (i319 + 1) _ _ _ _ _ _ _ ls (by omega) hE hZ (by rw [Nat.succ_mul]; exact hal) hP hD hS (lv_sub hl [1, 2, 3, 4, 5, 6, 7, 8, 9, 10, 0] rfl)
            · exact absurd (show nI (w) ≤ nI w from nI_le (by omega) (by omega)) c_3
          | succ n328 ih328 =>
            intro i328 M S rp sv al H locs ls hi328 hE hZ hal hP hD hS hl
            refine lv_iload hx hb dL_law_328 (lv_at hl 11 rfl) ?_
            refine lv_iload hx hb dL_law_330 (lv_at hl 4 rfl) ?_
            refine lv_icmp_ge (tgt := 742) hx hb dL_law_332 (by decide) (fun c_4 => ?_) (fun c_4 => ?_)
            · exact absurd c_4 (show ¬ nI (w) ≤ nI i328 from nI_ge (by omega) (by omega))
            · obtain ⟨gS, hN25, hi_, ⟨d0_, d1_⟩, ⟨b0_, b1_⟩, hk_, ⟨o0_, o1_⟩, hz_, hp_⟩ := lw_fld hE (show i319 < h by omega) (show i328 < w by omega)
              refine lv_aload_n hx hb dL_law_335 rfl (lv_at hl 1 rfl) ?_
              refine lv_iload hx hb dL_law_336 (lv_at hl 10 rfl) ?_
              refine lv_iload hx hb dL_law_338 (lv_at hl 11 rfl) ?_
              refine lv_iconst (v := 0) hx hb dL_law_340 (by decide) ?_
              refine zI_V (pre := ([] : va_W)) (wc := oW k b t M ++ kW cI k M ++ bW k B ++ sW cI b S ++ sW cI t T) (post := (Z9)) (w1 := oW k b t M ++ kW cI k M ++ bW k B ++ sW cI b S ++ sW cI t T) ⟨hx, hb, hml, hown, hts⟩ (c_X3_field l dC dI cI k b t h w M B S T (nI i319) (nI i328) 0 gS (lt_f (t := i319) (f := i328) gS (by omega) (by omega) (by decide))) (cwV 3 hts gL_law_X3_field rfl rfl rfl (by decide +kernel) ⟨Nat.le_of_ble_eq_true rfl, Nat.le_of_ble_eq_true rfl⟩) (by simp only [List.append_assoc, List.append_nil, List.nil_append]) hK hN (ci := 3) (q0 := 0) rfl rfl rfl hP hD hS hA rfl hl.1 rfl (Nat.le_of_ble_eq_true rfl) dL_law_341 ⟨by show _ ≤ 600104; omega, by show _ ≤ 7301314; omega⟩ (fun H locs hP hD hS => ?_)
              have hP : va_P (dC, dI) vwCl (oW k b t M ++ kW cI k M ++ bW k B ++ sW cI b S ++ sW cI t T ++ Z9) H := by simpa only [List.append_assoc, List.append_nil, List.nil_append] using hP
              have hD : va_D (lawA s) (oW k b t M ++ kW cI k M ++ bW k B ++ sW cI b S ++ sW cI t T ++ Z9) := by simpa only [List.append_assoc, List.append_nil, List.nil_append] using hD
              rw [lf_0 (t := i319) (f := i328) gS (by omega) (by omega)]
              refine lv_istore (lv' := [(21, .int (S 2 (i319 * w + i328))), (0, .ref sc), (1, .ref (k 0)), (2, .ref qs), (3, .int (nI h)), (4, .int (nI w)), (5, .int (nI pl)), (6, .int (nI rp)), (7, .int sv), (8, .int (nI dy)), (18, .int al), (19, .int (nI i319)), (20, .int (nI i328))]) hx hb dL_law_344 hl (by decide) rfl (fun ls hl => ?_)
              refine lv_iload hx hb dL_law_346 (lv_at hl 12 rfl) ?_
              have h367 : ∀ (x9 : Int32) (H : Heap) (locs : List Loc), 0 ≤ x9.toInt ∧ x9.toInt ≤ 1000000 → va_P (dC, dI) vwCl (oW k b t M ++ kW cI k M ++ bW k B ++ sW cI b S ++ sW cI t T ++ Z9) H → va_D (lawA s) (oW k b t M ++ kW cI k M ++ bW k B ++ sW cI b S ++ sW cI t T ++ Z9) → va_S (lawA s) s.heap H locs → W p l e room_1 (s.setDrawn d0) m #[Value.ref sc] below meth c H locs (200) (3000) (lw_Z below #[Value.ref sc] s) (F0 m 367 ls (.int x9 :: [])) := by
                intro x9 H locs hx9 hP hD hS
                refine lv_iload hx hb dL_law_367 (lv_at hl 12 rfl) ?_
                refine lv_iload hx hb dL_law_369 (lv_at hl 5 rfl) ?_
                refine lv_iconst (v := 1) hx hb dL_law_371 (by decide) ?_
                refine lv_isub hx hb dL_law_372 ?_
                have h392 : ∀ (x8 : Int32) (H : Heap) (locs : List Loc), x8.toInt = (if i328 + 1 < w then (S 13 (i319 * w + i328 + 1)).toInt else 0) → va_P (dC, dI) vwCl (oW k b t M ++ kW cI k M ++ bW k B ++ sW cI b S ++ sW cI t T ++ Z9) H → va_D (lawA s) (oW k b t M ++ kW cI k M ++ bW k B ++ sW cI b S ++ sW cI t T ++ Z9) → va_S (lawA s) s.heap H locs → W p l e room_1 (s.setDrawn d0) m #[Value.ref sc] below meth c H locs (200) (3000) (lw_Z below #[Value.ref sc] s) (F0 m 392 ls (.int x8 :: [.int x9])) := by
                  intro x8 H locs hx8 hP hD hS
                  have hx8b : 0 ≤ x8.toInt ∧ x8.toInt ≤ 1000000 := by
                    rw [hx8]
                    split
                    · rename_i z9; exact hz_ _ (by have := y_idx (h := h) (show i319 < h by omega) z9; omega)
                    · omega
                  have hbs : (x9 + x8).toInt = x9.toInt + x8.toInt := yi_add (by omega) (by omega)
                  refine lv_iadd hx hb dL_law_392 ?_
                  refine lv_istore (lv' := [(22, .int (x9 + x8)), (21, .int (S 2 (i319 * w + i328))), (0, .ref sc), (1, .ref (k 0)), (2, .ref qs), (3, .int (nI h)), (4, .int (nI w)), (5, .int (nI pl)), (6, .int (nI rp)), (7, .int sv), (8, .int (nI dy)), (18, .int al), (19, .int (nI i319)), (20, .int (nI i328))]) hx hb dL_law_393 hl (by decide) rfl (fun ls hl => ?_)
                  refine lv_iload hx hb dL_law_395 (lv_at hl 1 rfl) ?_
                  refine lv_if_lt (tgt := 466) hx hb dL_law_397 (by decide) (fun c_5 => ?_) (fun c_5 => ?_)
                  · exact absurd c_5 (by rw [y_lt, y0]; omega)
                  · refine lv_iload hx hb dL_law_400 (lv_at hl 1 rfl) ?_
                    refine lv_sipush (v := 200) hx hb dL_law_402 (by decide) ?_
                    refine lv_icmp_gt (tgt := 466) hx hb dL_law_405 (by decide) (fun c_6 => ?_) (fun c_6 => ?_)
                    · exact absurd c_6 (by rw [y_lt, y200]; omega)
                    · refine lv_iload hx hb dL_law_408 (lv_at hl 1 rfl) ?_
                      refine lv_aload_n hx hb dL_law_410 rfl (lv_at hl 3 rfl) ?_
                      refine lv_iload hx hb dL_law_411 (lv_at hl 12 rfl) ?_
                      refine lv_iload hx hb dL_law_413 (lv_at hl 13 rfl) ?_
                      refine lv_iconst (v := 1) hx hb dL_law_415 (by decide) ?_
                      refine zI_V (pre := ([] : va_W)) (wc := oW k b t M ++ kW cI k M ++ bW k B ++ sW cI b S ++ sW cI t T) (post := (Z9)) (w1 := oW k b t M ++ kW cI k M ++ bW k B ++ sW cI b S ++ sW cI t T) ⟨hx, hb, hml, hown, hts⟩ (c_X3_field l dC dI cI k b t h w M B S T (nI i319) (nI i328) 1 gS (lt_f (t := i319) (f := i328) gS (by omega) (by omega) (by decide))) (cwV 3 hts gL_law_X3_field rfl rfl rfl (by decide +kernel) ⟨Nat.le_of_ble_eq_true rfl, Nat.le_of_ble_eq_true rfl⟩) (by simp only [List.append_assoc, List.append_nil, List.nil_append]) hK hN (ci := 3) (q0 := 0) rfl rfl rfl hP hD hS hA rfl hl.1 rfl (Nat.le_of_ble_eq_true rfl) dL_law_416 ⟨by show _ ≤ 600104; omega, by show _ ≤ 7301314; omega⟩ (fun H locs hP hD hS => ?_)
                      have hP : va_P (dC, dI) vwCl (oW k b t M ++ kW cI k M ++ bW k B ++ sW cI b S ++ sW cI t T ++ Z9) H := by simpa only [List.append_assoc, List.append_nil, List.nil_append] using hP
                      have hD : va_D (lawA s) (oW k b t M ++ kW cI k M ++ bW k B ++ sW cI b S ++ sW cI t T ++ Z9) := by simpa only [List.append_assoc, List.append_nil, List.nil_append] using hD
                      rw [lf_1 (t := i319) (f := i328) gS (by omega) (by omega)]
                      refine lv_iload hx hb dL_law_419 (lv_at hl 0 rfl) ?_
                      refine lv_iadd hx hb dL_law_421 ?_
                      refine lv_icmp_gt (tgt := 466) hx hb dL_law_422 (by decide) (fun c_7 => ?_) (fun c_7 => ?_)
                      · exact absurd c_7 (by rw [y_lt, yi_add (by rw [hbs]; omega) (by rw [hbs]; omega), hbs, hx8]; omega)
                      · refine lv_aload_n hx hb dL_law_425 rfl (lv_at hl 3 rfl) ?_
                        refine lv_iload hx hb dL_law_426 (lv_at hl 12 rfl) ?_
                        refine lv_iload hx hb dL_law_428 (lv_at hl 13 rfl) ?_
                        refine lv_bipush (v := 10) hx hb dL_law_430 (by decide) ?_
                        refine zI_V (pre := ([] : va_W)) (wc := oW k b t M ++ kW cI k M ++ bW k B ++ sW cI b S ++ sW cI t T) (post := (Z9)) (w1 := oW k b t M ++ kW cI k M ++ bW k B ++ sW cI b S ++ sW cI t T) ⟨hx, hb, hml, hown, hts⟩ (c_X3_field l dC dI cI k b t h w M B S T (nI i319) (nI i328) 10 gS (lt_f (t := i319) (f := i328) gS (by omega) (by omega) (by decide))) (cwV 3 hts gL_law_X3_field rfl rfl rfl (by decide +kernel) ⟨Nat.le_of_ble_eq_true rfl, Nat.le_of_ble_eq_true rfl⟩) (by simp only [List.append_assoc, List.append_nil, List.nil_append]) hK hN (ci := 3) (q0 := 0) rfl rfl rfl hP hD hS hA rfl hl.1 rfl (Nat.le_of_ble_eq_true rfl) dL_law_432 ⟨by show _ ≤ 600104; omega, by show _ ≤ 7301314; omega⟩ (fun H locs hP hD hS => ?_)
                        have hP : va_P (dC, dI) vwCl (oW k b t M ++ kW cI k M ++ bW k B ++ sW cI b S ++ sW cI t T ++ Z9) H := by simpa only [List.append_assoc, List.append_nil, List.nil_append] using hP
                        have hD : va_D (lawA s) (oW k b t M ++ kW cI k M ++ bW k B ++ sW cI b S ++ sW cI t T ++ Z9) := by simpa only [List.append_assoc, List.append_nil, List.nil_append] using hD
                        rw [lf_10 (t := i319) (f := i328) gS (by omega) (by omega)]
                        refine lv_if_lt (tgt := 466) hx hb dL_law_435 (by decide) (fun c_8 => ?_) (fun c_8 => ?_)
                        · exact absurd c_8 (by rw [y_lt, y0]; omega)
                        · refine lv_aload_n hx hb dL_law_438 rfl (lv_at hl 3 rfl) ?_
                          refine lv_iload hx hb dL_law_439 (lv_at hl 12 rfl) ?_
                          refine lv_iload hx hb dL_law_441 (lv_at hl 13 rfl) ?_
                          refine lv_bipush (v := 10) hx hb dL_law_443 (by decide) ?_
                          refine zI_V (pre := ([] : va_W)) (wc := oW k b t M ++ kW cI k M ++ bW k B ++ sW cI b S ++ sW cI t T) (post := (Z9)) (w1 := oW k b t M ++ kW cI k M ++ bW k B ++ sW cI b S ++ sW cI t T) ⟨hx, hb, hml, hown, hts⟩ (c_X3_field l dC dI cI k b t h w M B S T (nI i319) (nI i328) 10 gS (lt_f (t := i319) (f := i328) gS (by omega) (by omega) (by decide))) (cwV 3 hts gL_law_X3_field rfl rfl rfl (by decide +kernel) ⟨Nat.le_of_ble_eq_true rfl, Nat.le_of_ble_eq_true rfl⟩) (by simp only [List.append_assoc, List.append_nil, List.nil_append]) hK hN (ci := 3) (q0 := 0) rfl rfl rfl hP hD hS hA rfl hl.1 rfl (Nat.le_of_ble_eq_true rfl) dL_law_445 ⟨by show _ ≤ 600104; omega, by show _ ≤ 7301314; omega⟩ (fun H locs hP hD hS => ?_)
                          have hP : va_P (dC, dI) vwCl (oW k b t M ++ kW cI k M ++ bW k B ++ sW cI b S ++ sW cI t T ++ Z9) H := by simpa only [List.append_assoc, List.append_nil, List.nil_append] using hP
                          have hD : va_D (lawA s) (oW k b t M ++ kW cI k M ++ bW k B ++ sW cI b S ++ sW cI t T ++ Z9) := by simpa only [List.append_assoc, List.append_nil, List.nil_append] using hD
                          rw [lf_10 (t := i319) (f := i328) gS (by omega) (by omega)]
                          refine lv_bipush (v := 40) hx hb dL_law_448 (by decide) ?_
                          refine lv_icmp_gt (tgt := 466) hx hb dL_law_450 (by decide) (fun c_9 => ?_) (fun c_9 => ?_)
                          · exact absurd c_9 (by rw [y_lt, y40]; omega)
                          · refine lv_aload_n hx hb dL_law_453 rfl (lv_at hl 3 rfl) ?_
                            refine lv_iload hx hb dL_law_454 (lv_at hl 12 rfl) ?_
                            refine lv_iload hx hb dL_law_456 (lv_at hl 13 rfl) ?_
                            refine lv_bipush (v := 11) hx hb dL_law_458 (by decide) ?_
                            refine zI_V (pre := ([] : va_W)) (wc := oW k b t M ++ kW cI k M ++ bW k B ++ sW cI b S ++ sW cI t T) (post := (Z9)) (w1 := oW k b t M ++ kW cI k M ++ bW k B ++ sW cI b S ++ sW cI t T) ⟨hx, hb, hml, hown, hts⟩ (c_X3_field l dC dI cI k b t h w M B S T (nI i319) (nI i328) 11 gS (lt_f (t := i319) (f := i328) gS (by omega) (by omega) (by decide))) (cwV 3 hts gL_law_X3_field rfl rfl rfl (by decide +kernel) ⟨Nat.le_of_ble_eq_true rfl, Nat.le_of_ble_eq_true rfl⟩) (by simp only [List.append_assoc, List.append_nil, List.nil_append]) hK hN (ci := 3) (q0 := 0) rfl rfl rfl hP hD hS hA rfl hl.1 rfl (Nat.le_of_ble_eq_true rfl) dL_law_460 ⟨by show _ ≤ 600104; omega, by show _ ≤ 7301314; omega⟩ (fun H locs hP hD hS => ?_)
                            have hP : va_P (dC, dI) vwCl (oW k b t M ++ kW cI k M ++ bW k B ++ sW cI b S ++ sW cI t T ++ Z9) H := by simpa only [List.append_assoc, List.append_nil, List.nil_append] using hP
                            have hD : va_D (lawA s) (oW k b t M ++ kW cI k M ++ bW k B ++ sW cI b S ++ sW cI t T ++ Z9) := by simpa only [List.append_assoc, List.append_nil, List.nil_append] using hD
                            rw [lf_11 (t := i319) (f := i328) gS (by omega) (by omega)]
                            refine lv_if_ge (tgt := 468) hx hb dL_law_463 (by decide) (fun c_10 => ?_) (fun c_10 => ?_)
                            · refine lv_iload hx hb dL_law_468 (lv_at hl 11 rfl) ?_
                              refine lv_iload hx hb dL_law_470 (lv_at hl 1 rfl) ?_
                              refine lv_iadd hx hb dL_law_472 ?_
                              refine lv_istore (lv' := [(18, .int (al + (S 2 (i319 * w + i328)))), (22, .int (x9 + x8)), (21, .int (S 2 (i319 * w + i328))), (0, .ref sc), (1, .ref (k 0)), (2, .ref qs), (3, .int (nI h)), (4, .int (nI w)), (5, .int (nI pl)), (6, .int (nI rp)), (7, .int sv), (8, .int (nI dy)), (19, .int (nI i319)), (20, .int (nI i328))]) hx hb dL_law_473 hl (by decide) rfl (fun ls hl => ?_)
                              refine lv_aload_n hx hb dL_law_475 rfl (lv_at hl 4 rfl) ?_
                              refine lv_iload hx hb dL_law_476 (lv_at hl 12 rfl) ?_
                              refine lv_iload hx hb dL_law_478 (lv_at hl 13 rfl) ?_
                              refine lv_iconst (v := 5) hx hb dL_law_480 (by decide) ?_
                              refine zI_V (pre := ([] : va_W)) (wc := oW k b t M ++ kW cI k M ++ bW k B ++ sW cI b S ++ sW cI t T) (post := (Z9)) (w1 := oW k b t M ++ kW cI k M ++ bW k B ++ sW cI b S ++ sW cI t T) ⟨hx, hb, hml, hown, hts⟩ (c_X3_field l dC dI cI k b t h w M B S T (nI i319) (nI i328) 5 gS (lt_f (t := i319) (f := i328) gS (by omega) (by omega) (by decide))) (cwV 3 hts gL_law_X3_field rfl rfl rfl (by decide +kernel) ⟨Nat.le_of_ble_eq_true rfl, Nat.le_of_ble_eq_true rfl⟩) (by simp only [List.append_assoc, List.append_nil, List.nil_append]) hK hN (ci := 3) (q0 := 0) rfl rfl rfl hP hD hS hA rfl hl.1 rfl (Nat.le_of_ble_eq_true rfl) dL_law_481 ⟨by show _ ≤ 600104; omega, by show _ ≤ 7301314; omega⟩ (fun H locs hP hD hS => ?_)
                              have hP : va_P (dC, dI) vwCl (oW k b t M ++ kW cI k M ++ bW k B ++ sW cI b S ++ sW cI t T ++ Z9) H := by simpa only [List.append_assoc, List.append_nil, List.nil_append] using hP
                              have hD : va_D (lawA s) (oW k b t M ++ kW cI k M ++ bW k B ++ sW cI b S ++ sW cI t T ++ Z9) := by simpa only [List.append_assoc, List.append_nil, List.nil_append] using hD
                              rw [lf_5 (t := i319) (f := i328) gS (by omega) (by omega)]
                              refine lv_istore (lv' := [(23, .int (S 7 (i319 * w + i328))), (18, .int (al + (S 2 (i319 * w + i328)))), (22, .int (x9 + x8)), (21, .int (S 2 (i319 * w + i328))), (0, .ref sc), (1, .ref (k 0)), (2, .ref qs), (3, .int (nI h)), (4, .int (nI w)), (5, .int (nI pl)), (6, .int (nI rp)), (7, .int sv), (8, .int (nI dy)), (19, .int (nI i319)), (20, .int (nI i328))]) hx hb dL_law_484 hl (by decide) rfl (fun ls hl => ?_)
                              refine lv_iload hx hb dL_law_486 (lv_at hl 0 rfl) ?_
                              refine lv_if_ne (tgt := 526) hx hb dL_law_488 (by decide) (fun c_11 => ?_) (fun c_11 => ?_)
                              · obtain ⟨u1_, u2_, u3_, u4_, u5_, u6_, u7_, u8_, u9_, u10_, u11_, u12_⟩ := yp_1 hp_ c_11
                                refine lv_aload_n hx hb dL_law_526 rfl (lv_at hl 5 rfl) ?_
                                refine lv_iload hx hb dL_law_527 (lv_at hl 13 rfl) ?_
                                refine lv_iload hx hb dL_law_529 (lv_at hl 14 rfl) ?_
                                refine lv_bipush (v := 7) hx hb dL_law_531 (by decide) ?_
                                refine zI_V (pre := ([] : va_W)) (wc := oW k b t M ++ kW cI k M ++ bW k B ++ sW cI b S ++ sW cI t T) (post := (Z9)) (w1 := oW k b t M ++ kW cI k M ++ bW k B ++ sW cI b S ++ sW cI t T) ⟨hx, hb, hml, hown, hts⟩ (c_X3_field l dC dI cI k b t h w M B S T (nI i319) (nI i328) 7 gS (lt_f (t := i319) (f := i328) gS (by omega) (by omega) (by decide))) (cwV 3 hts gL_law_X3_field rfl rfl rfl (by decide +kernel) ⟨Nat.le_of_ble_eq_true rfl, Nat.le_of_ble_eq_true rfl⟩) (by simp only [List.append_assoc, List.append_nil, List.nil_append]) hK hN (ci := 3) (q0 := 0) rfl rfl rfl hP hD hS hA rfl hl.1 rfl (Nat.le_of_ble_eq_true rfl) dL_law_533 ⟨by show _ ≤ 600104; omega, by show _ ≤ 7301314; omega⟩ (fun H locs hP hD hS => ?_)
                                have hP : va_P (dC, dI) vwCl (oW k b t M ++ kW cI k M ++ bW k B ++ sW cI b S ++ sW cI t T ++ Z9) H := by simpa only [List.append_assoc, List.append_nil, List.nil_append] using hP
                                have hD : va_D (lawA s) (oW k b t M ++ kW cI k M ++ bW k B ++ sW cI b S ++ sW cI t T ++ Z9) := by simpa only [List.append_assoc, List.append_nil, List.nil_append] using hD
                                rw [lf_7 (t := i319) (f := i328) gS (by omega) (by omega)]
                                refine lv_istore (lv' := [(24, .int (S 9 (i319 * w + i328))), (23, .int (S 7 (i319 * w + i328))), (18, .int (al + (S 2 (i319 * w + i328)))), (22, .int (x9 + x8)), (21, .int (S 2 (i319 * w + i328))), (0, .ref sc), (1, .ref (k 0)), (2, .ref qs), (3, .int (nI h)), (4, .int (nI w)), (5, .int (nI pl)), (6, .int (nI rp)), (7, .int sv), (8, .int (nI dy)), (19, .int (nI i319)), (20, .int (nI i328))]) hx hb dL_law_536 hl (by decide) rfl (fun ls hl => ?_)
                                refine lv_iload hx hb dL_law_538 (lv_at hl 1 rfl) ?_
                                refine lv_iconst (v := 1) hx hb dL_law_540 (by decide) ?_
                                refine lv_icmp_ne (tgt := 666) hx hb dL_law_541 (by decide) (fun c_12 => ?_) (fun c_12 => ?_)
                                · exact absurd u1_ c_12
                                · refine lv_iload hx hb dL_law_544 (lv_at hl 0 rfl) ?_
                                  refine lv_if_lt (tgt := 666) hx hb dL_law_546 (by decide) (fun c_13 => ?_) (fun c_13 => ?_)
                                  · exact absurd c_13 (by rw [y_lt, y0]; omega)
                                  · refine lv_iload hx hb dL_law_549 (lv_at hl 0 rfl) ?_
                                    refine lv_bipush (v := 100) hx hb dL_law_551 (by decide) ?_
                                    refine lv_icmp_gt (tgt := 666) hx hb dL_law_553 (by decide) (fun c_14 => ?_) (fun c_14 => ?_)
                                    · exact absurd c_14 (by rw [y_lt, y100]; omega)
                                    · refine lv_aload_n hx hb dL_law_556 rfl (lv_at hl 6 rfl) ?_
                                      refine lv_iload hx hb dL_law_557 (lv_at hl 14 rfl) ?_
                                      refine lv_iload hx hb dL_law_559 (lv_at hl 15 rfl) ?_
                                      refine lv_bipush (v := 8) hx hb dL_law_561 (by decide) ?_
                                      refine zI_V (pre := ([] : va_W)) (wc := oW k b t M ++ kW cI k M ++ bW k B ++ sW cI b S ++ sW cI t T) (post := (Z9)) (w1 := oW k b t M ++ kW cI k M ++ bW k B ++ sW cI b S ++ sW cI t T) ⟨hx, hb, hml, hown, hts⟩ (c_X3_field l dC dI cI k b t h w M B S T (nI i319) (nI i328) 8 gS (lt_f (t := i319) (f := i328) gS (by omega) (by omega) (by decide))) (cwV 3 hts gL_law_X3_field rfl rfl rfl (by decide +kernel) ⟨Nat.le_of_ble_eq_true rfl, Nat.le_of_ble_eq_true rfl⟩) (by simp only [List.append_assoc, List.append_nil, List.nil_append]) hK hN (ci := 3) (q0 := 0) rfl rfl rfl hP hD hS hA rfl hl.1 rfl (Nat.le_of_ble_eq_true rfl) dL_law_563 ⟨by show _ ≤ 600104; omega, by show _ ≤ 7301314; omega⟩ (fun H locs hP hD hS => ?_)
                                      have hP : va_P (dC, dI) vwCl (oW k b t M ++ kW cI k M ++ bW k B ++ sW cI b S ++ sW cI t T ++ Z9) H := by simpa only [List.append_assoc, List.append_nil, List.nil_append] using hP
                                      have hD : va_D (lawA s) (oW k b t M ++ kW cI k M ++ bW k B ++ sW cI b S ++ sW cI t T ++ Z9) := by simpa only [List.append_assoc, List.append_nil, List.nil_append] using hD
                                      rw [lf_8 (t := i319) (f := i328) gS (by omega) (by omega)]
                                      refine lv_iconst (v := 3) hx hb dL_law_566 (by decide) ?_
                                      refine lv_icmp_gt (tgt := 666) hx hb dL_law_567 (by decide) (fun c_15 => ?_) (fun c_15 => ?_)
                                      · exact absurd c_15 (by rw [y_lt, y3]; omega)
                                      · refine lv_aload_n hx hb dL_law_570 rfl (lv_at hl 6 rfl) ?_
                                        refine lv_iload hx hb dL_law_571 (lv_at hl 14 rfl) ?_
                                        refine lv_iload hx hb dL_law_573 (lv_at hl 15 rfl) ?_
                                        refine lv_bipush (v := 9) hx hb dL_law_575 (by decide) ?_
                                        refine zI_V (pre := ([] : va_W)) (wc := oW k b t M ++ kW cI k M ++ bW k B ++ sW cI b S ++ sW cI t T) (post := (Z9)) (w1 := oW k b t M ++ kW cI k M ++ bW k B ++ sW cI b S ++ sW cI t T) ⟨hx, hb, hml, hown, hts⟩ (c_X3_field l dC dI cI k b t h w M B S T (nI i319) (nI i328) 9 gS (lt_f (t := i319) (f := i328) gS (by omega) (by omega) (by decide))) (cwV 3 hts gL_law_X3_field rfl rfl rfl (by decide +kernel) ⟨Nat.le_of_ble_eq_true rfl, Nat.le_of_ble_eq_true rfl⟩) (by simp only [List.append_assoc, List.append_nil, List.nil_append]) hK hN (ci := 3) (q0 := 0) rfl rfl rfl hP hD hS hA rfl hl.1 rfl (Nat.le_of_ble_eq_true rfl) dL_law_577 ⟨by show _ ≤ 600104; omega, by show _ ≤ 7301314; omega⟩ (fun H locs hP hD hS => ?_)
                                        have hP : va_P (dC, dI) vwCl (oW k b t M ++ kW cI k M ++ bW k B ++ sW cI b S ++ sW cI t T ++ Z9) H := by simpa only [List.append_assoc, List.append_nil, List.nil_append] using hP
                                        have hD : va_D (lawA s) (oW k b t M ++ kW cI k M ++ bW k B ++ sW cI b S ++ sW cI t T ++ Z9) := by simpa only [List.append_assoc, List.append_nil, List.nil_append] using hD
                                        rw [lf_9 (t := i319) (f := i328) gS (by omega) (by omega)]
                                        refine lv_iconst (v := 4) hx hb dL_law_580 (by decide) ?_
                                        refine lv_icmp_gt (tgt := 666) hx hb dL_law_581 (by decide) (fun c_16 => ?_) (fun c_16 => ?_)
                                        · exact absurd c_16 (by rw [y_lt, y4]; omega)
                                        · refine lv_aload_n hx hb dL_law_584 rfl (lv_at hl 6 rfl) ?_
                                          refine lv_iload hx hb dL_law_585 (lv_at hl 14 rfl) ?_
                                          refine lv_iload hx hb dL_law_587 (lv_at hl 15 rfl) ?_
                                          refine lv_bipush (v := 8) hx hb dL_law_589 (by decide) ?_
                                          refine zI_V (pre := ([] : va_W)) (wc := oW k b t M ++ kW cI k M ++ bW k B ++ sW cI b S ++ sW cI t T) (post := (Z9)) (w1 := oW k b t M ++ kW cI k M ++ bW k B ++ sW cI b S ++ sW cI t T) ⟨hx, hb, hml, hown, hts⟩ (c_X3_field l dC dI cI k b t h w M B S T (nI i319) (nI i328) 8 gS (lt_f (t := i319) (f := i328) gS (by omega) (by omega) (by decide))) (cwV 3 hts gL_law_X3_field rfl rfl rfl (by decide +kernel) ⟨Nat.le_of_ble_eq_true rfl, Nat.le_of_ble_eq_true rfl⟩) (by simp only [List.append_assoc, List.append_nil, List.nil_append]) hK hN (ci := 3) (q0 := 0) rfl rfl rfl hP hD hS hA rfl hl.1 rfl (Nat.le_of_ble_eq_true rfl) dL_law_591 ⟨by show _ ≤ 600104; omega, by show _ ≤ 7301314; omega⟩ (fun H locs hP hD hS => ?_)
                                          have hP : va_P (dC, dI) vwCl (oW k b t M ++ kW cI k M ++ bW k B ++ sW cI b S ++ sW cI t T ++ Z9) H := by simpa only [List.append_assoc, List.append_nil, List.nil_append] using hP
                                          have hD : va_D (lawA s) (oW k b t M ++ kW cI k M ++ bW k B ++ sW cI b S ++ sW cI t T ++ Z9) := by simpa only [List.append_assoc, List.append_nil, List.nil_append] using hD
                                          rw [lf_8 (t := i319) (f := i328) gS (by omega) (by omega)]
                                          have h610 : ∀ (H : Heap) (locs : List Loc), va_P (dC, dI) vwCl (oW k b t M ++ kW cI k M ++ bW k B ++ sW cI b S ++ sW cI t T ++ Z9) H → va_D (lawA s) (oW k b t M ++ kW cI k M ++ bW k B ++ sW cI b S ++ sW cI t T ++ Z9) → va_S (lawA s) s.heap H locs → W p l e room_1 (s.setDrawn d0) m #[Value.ref sc] below meth c H locs (200) (3000) (lw_Z below #[Value.ref sc] s) (F0 m 610 ls []) := by
                                            intro H locs hP hD hS
                                            refine lv_aload_n hx hb dL_law_610 rfl (lv_at hl 6 rfl) ?_
                                            refine lv_iload hx hb dL_law_611 (lv_at hl 14 rfl) ?_
                                            refine lv_iload hx hb dL_law_613 (lv_at hl 15 rfl) ?_
                                            refine lv_bipush (v := 9) hx hb dL_law_615 (by decide) ?_
                                            refine zI_V (pre := ([] : va_W)) (wc := oW k b t M ++ kW cI k M ++ bW k B ++ sW cI b S ++ sW cI t T) (post := (Z9)) (w1 := oW k b t M ++ kW cI k M ++ bW k B ++ sW cI b S ++ sW cI t T) ⟨hx, hb, hml, hown, hts⟩ (c_X3_field l dC dI cI k b t h w M B S T (nI i319) (nI i328) 9 gS (lt_f (t := i319) (f := i328) gS (by omega) (by omega) (by decide))) (cwV 3 hts gL_law_X3_field rfl rfl rfl (by decide +kernel) ⟨Nat.le_of_ble_eq_true rfl, Nat.le_of_ble_eq_true rfl⟩) (by simp only [List.append_assoc, List.append_nil, List.nil_append]) hK hN (ci := 3) (q0 := 0) rfl rfl rfl hP hD hS hA rfl hl.1 rfl (Nat.le_of_ble_eq_true rfl) dL_law_617 ⟨by show _ ≤ 600104; omega, by show _ ≤ 7301314; omega⟩ (fun H locs hP hD hS => ?_)
                                            have hP : va_P (dC, dI) vwCl (oW k b t M ++ kW cI k M ++ bW k B ++ sW cI b S ++ sW cI t T ++ Z9) H := by simpa only [List.append_assoc, List.append_nil, List.nil_append] using hP
                                            have hD : va_D (lawA s) (oW k b t M ++ kW cI k M ++ bW k B ++ sW cI b S ++ sW cI t T ++ Z9) := by simpa only [List.append_assoc, List.append_nil, List.nil_append] using hD
                                            rw [lf_9 (t := i319) (f := i328) gS (by omega) (by omega)]
                                            have h641 : ∀ (H : Heap) (locs : List Loc), va_P (dC, dI) vwCl (oW k b t M ++ kW cI k M ++ bW k B ++ sW cI b S ++ sW cI t T ++ Z9) H → va_D (lawA s) (oW k b t M ++ kW cI k M ++ bW k B ++ sW cI b S ++ sW cI t T ++ Z9) → va_S (lawA s) s.heap H locs → W p l e room_1 (s.setDrawn d0) m #[Value.ref sc] below meth c H locs (200) (3000) (lw_Z below #[Value.ref sc] s) (F0 m 641 ls []) := by
                                              intro H locs hP hD hS
                                              refine lv_aload_n hx hb dL_law_641 rfl (lv_at hl 6 rfl) ?_
                                              refine lv_iload hx hb dL_law_642 (lv_at hl 14 rfl) ?_
                                              refine lv_iload hx hb dL_law_644 (lv_at hl 15 rfl) ?_
                                              refine lv_bipush (v := 6) hx hb dL_law_646 (by decide) ?_
                                              refine zI_V (pre := ([] : va_W)) (wc := oW k b t M ++ kW cI k M ++ bW k B ++ sW cI b S ++ sW cI t T) (post := (Z9)) (w1 := oW k b t M ++ kW cI k M ++ bW k B ++ sW cI b S ++ sW cI t T) ⟨hx, hb, hml, hown, hts⟩ (c_X3_field l dC dI cI k b t h w M B S T (nI i319) (nI i328) 6 gS (lt_f (t := i319) (f := i328) gS (by omega) (by omega) (by decide))) (cwV 3 hts gL_law_X3_field rfl rfl rfl (by decide +kernel) ⟨Nat.le_of_ble_eq_true rfl, Nat.le_of_ble_eq_true rfl⟩) (by simp only [List.append_assoc, List.append_nil, List.nil_append]) hK hN (ci := 3) (q0 := 0) rfl rfl rfl hP hD hS hA rfl hl.1 rfl (Nat.le_of_ble_eq_true rfl) dL_law_648 ⟨by show _ ≤ 600104; omega, by show _ ≤ 7301314; omega⟩ (fun H locs hP hD hS => ?_)
                                              have hP : va_P (dC, dI) vwCl (oW k b t M ++ kW cI k M ++ bW k B ++ sW cI b S ++ sW cI t T ++ Z9) H := by simpa only [List.append_assoc, List.append_nil, List.nil_append] using hP
                                              have hD : va_D (lawA s) (oW k b t M ++ kW cI k M ++ bW k B ++ sW cI b S ++ sW cI t T ++ Z9) := by simpa only [List.append_assoc, List.append_nil, List.nil_append] using hD
                                              rw [lf_6 (t := i319) (f := i328) gS (by omega) (by omega)]
                                              refine lv_iconst (v := 1) hx hb dL_law_651 (by decide) ?_
                                              refine lv_icmp_lt (tgt := 666) hx hb dL_law_652 (by decide) (fun c_17 => ?_) (fun c_17 => ?_)
                                              · exact absurd c_17 (by rw [y_lt, y1]; omega)
                                              · refine lv_iload hx hb dL_law_655 (lv_at hl 0 rfl) ?_
                                                refine lv_iconst (v := 2) hx hb dL_law_657 (by decide) ?_
                                                refine lv_iload hx hb dL_law_658 (lv_at hl 13 rfl) ?_
                                                refine lv_iconst (v := 1) hx hb dL_law_660 (by decide) ?_
                                                refine lv_iadd hx hb dL_law_661 ?_
                                                refine lv_imul hx hb dL_law_662 ?_
                                                refine lv_icmp_le (tgt := 668) hx hb dL_law_663 (by decide) (fun c_18 => ?_) (fun c_18 => ?_)
                                                · refine lv_aload_n hx hb dL_law_668 rfl (lv_at hl 6 rfl) ?_
                                                  refine lv_iload hx hb dL_law_669 (lv_at hl 14 rfl) ?_
                                                  refine lv_iload hx hb dL_law_671 (lv_at hl 15 rfl) ?_
                                                  refine lv_bipush (v := 6) hx hb dL_law_673 (by decide) ?_
                                                  refine zI_V (pre := ([] : va_W)) (wc := oW k b t M ++ kW cI k M ++ bW k B ++ sW cI b S ++ sW cI t T) (post := (Z9)) (w1 := oW k b t M ++ kW cI k M ++ bW k B ++ sW cI b S ++ sW cI t T) ⟨hx, hb, hml, hown, hts⟩ (c_X3_field l dC dI cI k b t h w M B S T (nI i319) (nI i328) 6 gS (lt_f (t := i319) (f := i328) gS (by omega) (by omega) (by decide))) (cwV 3 hts gL_law_X3_field rfl rfl rfl (by decide +kernel) ⟨Nat.le_of_ble_eq_true rfl, Nat.le_of_ble_eq_true rfl⟩) (by simp only [List.append_assoc, List.append_nil, List.nil_append]) hK hN (ci := 3) (q0 := 0) rfl rfl rfl hP hD hS hA rfl hl.1 rfl (Nat.le_of_ble_eq_true rfl) dL_law_675 ⟨by show _ ≤ 600104; omega, by show _ ≤ 7301314; omega⟩ (fun H locs hP hD hS => ?_)
                                                  have hP : va_P (dC, dI) vwCl (oW k b t M ++ kW cI k M ++ bW k B ++ sW cI b S ++ sW cI t T ++ Z9) H := by simpa only [List.append_assoc, List.append_nil, List.nil_append] using hP
                                                  have hD : va_D (lawA s) (oW k b t M ++ kW cI k M ++ bW k B ++ sW cI b S ++ sW cI t T ++ Z9) := by simpa only [List.append_assoc, List.append_nil, List.nil_append] using hD
                                                  rw [lf_6 (t := i319) (f := i328) gS (by omega) (by omega)]
                                                  refine lv_bipush (v := 40) hx hb dL_law_678 (by decide) ?_
                                                  refine lv_icmp_ge (tgt := 686) hx hb dL_law_680 (by decide) (fun c_19 => ?_) (fun c_19 => ?_)
                                                  · refine lv_aload_n hx hb dL_law_686 rfl (lv_at hl 6 rfl) ?_
                                                    refine lv_iload hx hb dL_law_687 (lv_at hl 14 rfl) ?_
                                                    refine lv_iload hx hb dL_law_689 (lv_at hl 15 rfl) ?_
                                                    obtain ⟨S20, eS20⟩ : ∃ z : sS, z = rea_S S (nI i319) (nI i328) := ⟨_, rfl⟩
                                                    obtain ⟨S21, eS21⟩ : ∃ z : sS, z = rea_M M S (nI i319) (nI i328) := ⟨_, rfl⟩
                                                    refine zI_V (pre := ([] : va_W)) (wc := oW k b t M ++ kW cI k M ++ bW k B ++ sW cI b S ++ sW cI t T) (post := (Z9)) (w1 := oW k b t S21 ++ kW cI k S21 ++ bW k B ++ sW cI b S20 ++ sW cI t T) ⟨hx, hb, hml, hown, hts⟩ (by rw [eS20, eS21]; exact c_X3_reap l dC dI cI k b t h w M B S T (nI i319) (nI i328) gS (lw_rT gS (by omega) (by omega) c_11 c_19)) (cwV 2 hts gL_law_X3_reap rfl rfl rfl (by decide +kernel) ⟨Nat.le_of_ble_eq_true rfl, Nat.le_of_ble_eq_true rfl⟩) (by simp only [List.append_assoc, List.append_nil, List.nil_append]) hK hN (ci := 3) (q0 := 0) rfl rfl rfl hP hD hS hA rfl hl.1 rfl (Nat.le_of_ble_eq_true rfl) dL_law_691 ⟨by show _ ≤ 600104; omega, by show _ ≤ 7301314; omega⟩ (fun H locs hP hD hS => ?_)
                                                    have hP : va_P (dC, dI) vwCl (oW k b t S21 ++ kW cI k S21 ++ bW k B ++ sW cI b S20 ++ sW cI t T ++ Z9) H := by simpa only [List.append_assoc, List.append_nil, List.nil_append] using hP
                                                    have hD : va_D (lawA s) (oW k b t S21 ++ kW cI k S21 ++ bW k B ++ sW cI b S20 ++ sW cI t T ++ Z9) := by simpa only [List.append_assoc, List.append_nil, List.nil_append] using hD
                                                    obtain ⟨w1_, w2_, w3_, w4_, w5_, w6_, w7_, w8_⟩ := lw_reap hE hdy (show i319 < h by omega) (show i328 < w by omega) c_11
                                                    simp only [← eS20, ← eS21] at w2_
                                                    simp only [← eS20] at w3_
                                                    simp only [← eS20] at w4_
                                                    simp only [← eS20, ← eS21] at w5_
                                                    simp only [← eS20] at w6_
                                                    simp only [← eS20] at w7_
                                                    simp only [← eS21] at w8_
                                                    refine lv_istore (lv' := [(25, .int (rea_V S (nI i319) (nI i328))), (24, .int (S 9 (i319 * w + i328))), (23, .int (S 7 (i319 * w + i328))), (18, .int (al + (S 2 (i319 * w + i328)))), (22, .int (x9 + x8)), (21, .int (S 2 (i319 * w + i328))), (0, .ref sc), (1, .ref (k 0)), (2, .ref qs), (3, .int (nI h)), (4, .int (nI w)), (5, .int (nI pl)), (6, .int (nI rp)), (7, .int sv), (8, .int (nI dy)), (19, .int (nI i319)), (20, .int (nI i328))]) hx hb dL_law_694 hl (by decide) rfl (fun ls hl => ?_)
                                                    refine lv_iload hx hb dL_law_696 (lv_at hl 13 rfl) ?_
                                                    refine lv_iload hx hb dL_law_698 (lv_at hl 0 rfl) ?_
                                                    refine lv_iadd hx hb dL_law_700 ?_
                                                    refine lv_istore (lv' := [(7, .int (sv + (rea_V S (nI i319) (nI i328)))), (25, .int (rea_V S (nI i319) (nI i328))), (24, .int (S 9 (i319 * w + i328))), (23, .int (S 7 (i319 * w + i328))), (18, .int (al + (S 2 (i319 * w + i328)))), (22, .int (x9 + x8)), (21, .int (S 2 (i319 * w + i328))), (0, .ref sc), (1, .ref (k 0)), (2, .ref qs), (3, .int (nI h)), (4, .int (nI w)), (5, .int (nI pl)), (6, .int (nI rp)), (8, .int (nI dy)), (19, .int (nI i319)), (20, .int (nI i328))]) hx hb dL_law_701 hl (by decide) rfl (fun ls hl => ?_)
                                                    refine lv_iinc (v := nI (rp + 1)) (lv' := [(6, .int (nI (rp + 1))), (7, .int (sv + (rea_V S (nI i319) (nI i328)))), (25, .int (rea_V S (nI i319) (nI i328))), (24, .int (S 9 (i319 * w + i328))), (23, .int (S 7 (i319 * w + i328))), (18, .int (al + (S 2 (i319 * w + i328)))), (22, .int (x9 + x8)), (21, .int (S 2 (i319 * w + i328))), (0, .ref sc), (1, .ref (k 0)), (2, .ref qs), (3, .int (nI h)), (4, .int (nI w)), (5, .int (nI pl)), (8, .int (nI dy)), (19, .int (nI i319)), (20, .int (nI i328))]) hx hb dL_law_703 hl (k := 13) rfl (show nI rp + Int32.ofInt 1 = nI (rp + 1) from nI_1 rp) (by decide) rfl (fun ls hl => ?_)
                                                    refine lv_iload hx hb dL_law_706 (lv_at hl 2 rfl) ?_
                                                    refine lv_if_lt (tgt := 734) hx hb dL_law_708 (by decide) (fun c_22 => ?_) (fun c_22 => ?_)
                                                    · exact absurd c_22 (by rw [y_lt, y0]; omega)
                                                    · refine lv_iload hx hb dL_law_711 (lv_at hl 2 rfl) ?_
                                                      refine lv_aload_n hx hb dL_law_713 rfl (lv_at hl 9 rfl) ?_
                                                      refine lv_bipush (v := 6) hx hb dL_law_714 (by decide) ?_
                                                      refine zI_V (pre := ([] : va_W)) (wc := oW k b t S21 ++ kW cI k S21 ++ bW k B ++ sW cI b S20 ++ sW cI t T) (post := (Z9)) (w1 := oW k b t S21 ++ kW cI k S21 ++ bW k B ++ sW cI b S20 ++ sW cI t T) ⟨hx, hb, hml, hown, hts⟩ (c_X3_count l dC dI cI k b t h w S21 B S20 T 6 w4_ (by decide)) (cwV 1 hts gL_law_X3_count rfl rfl rfl (by decide +kernel) ⟨Nat.le_of_ble_eq_true rfl, Nat.le_of_ble_eq_true rfl⟩) (by simp only [List.append_assoc, List.append_nil, List.nil_append]) hK hN (ci := 3) (q0 := 0) rfl rfl rfl hP hD hS hA rfl hl.1 rfl (Nat.le_of_ble_eq_true rfl) dL_law_716 ⟨by show _ ≤ 600104; omega, by show _ ≤ 7301314; omega⟩ (fun H locs hP hD hS => ?_)
                                                      have hP : va_P (dC, dI) vwCl (oW k b t S21 ++ kW cI k S21 ++ bW k B ++ sW cI b S20 ++ sW cI t T ++ Z9) H := by simpa only [List.append_assoc, List.append_nil, List.nil_append] using hP
                                                      have hD : va_D (lawA s) (oW k b t S21 ++ kW cI k S21 ++ bW k B ++ sW cI b S20 ++ sW cI t T ++ Z9) := by simpa only [List.append_assoc, List.append_nil, List.nil_append] using hD
                                                      rw [lc_6]
                                                      refine lv_icmp_gt (tgt := 734) hx hb dL_law_719 (by decide) (fun c_23 => ?_) (fun c_23 => ?_)
                                                      · exact absurd c_23 w2_
                                                      · refine lv_aload_n hx hb dL_law_722 rfl (lv_at hl 9 rfl) ?_
                                                        refine lv_iload hx hb dL_law_723 (lv_at hl 15 rfl) ?_
                                                        refine lv_iload hx hb dL_law_725 (lv_at hl 16 rfl) ?_
                                                        refine lv_iconst (v := 5) hx hb dL_law_727 (by decide) ?_
                                                        refine zI_V (pre := ([] : va_W)) (wc := oW k b t S21 ++ kW cI k S21 ++ bW k B ++ sW cI b S20 ++ sW cI t T) (post := (Z9)) (w1 := oW k b t S21 ++ kW cI k S21 ++ bW k B ++ sW cI b S20 ++ sW cI t T) ⟨hx, hb, hml, hown, hts⟩ (c_X3_field l dC dI cI k b t h w S21 B S20 T (nI i319) (nI i328) 5 w4_ (lt_f (t := i319) (f := i328) w4_ (by omega) (by omega) (by decide))) (cwV 3 hts gL_law_X3_field rfl rfl rfl (by decide +kernel) ⟨Nat.le_of_ble_eq_true rfl, Nat.le_of_ble_eq_true rfl⟩) (by simp only [List.append_assoc, List.append_nil, List.nil_append]) hK hN (ci := 3) (q0 := 0) rfl rfl rfl hP hD hS hA rfl hl.1 rfl (Nat.le_of_ble_eq_true rfl) dL_law_728 ⟨by show _ ≤ 600104; omega, by show _ ≤ 7301314; omega⟩ (fun H locs hP hD hS => ?_)
                                                        have hP : va_P (dC, dI) vwCl (oW k b t S21 ++ kW cI k S21 ++ bW k B ++ sW cI b S20 ++ sW cI t T ++ Z9) H := by simpa only [List.append_assoc, List.append_nil, List.nil_append] using hP
                                                        have hD : va_D (lawA s) (oW k b t S21 ++ kW cI k S21 ++ bW k B ++ sW cI b S20 ++ sW cI t T ++ Z9) := by simpa only [List.append_assoc, List.append_nil, List.nil_append] using hD
                                                        rw [lf_5 (t := i319) (f := i328) w4_ (by omega) (by omega)]
                                                        refine lv_if_eq (tgt := 736) hx hb dL_law_731 (by decide) (fun c_24 => ?_) (fun c_24 => ?_)
                                                        · refine lv_iinc (v := nI (i328 + 1)) (lv' := [(20, .int (nI (i328 + 1))), (6, .int (nI (rp + 1))), (7, .int (sv + (rea_V S (nI i319) (nI i328)))), (25, .int (rea_V S (nI i319) (nI i328))), (24, .int (S 9 (i319 * w + i328))), (23, .int (S 7 (i319 * w + i328))), (18, .int (al + (S 2 (i319 * w + i328)))), (22, .int (x9 + x8)), (21, .int (S 2 (i319 * w + i328))), (0, .ref sc), (1, .ref (k 0)), (2, .ref qs), (3, .int (nI h)), (4, .int (nI w)), (5, .int (nI pl)), (8, .int (nI dy)), (19, .int (nI i319))]) hx hb dL_law_736 hl (k := 16) rfl (show nI i328 + Int32.ofInt 1 = nI (i328 + 1) from nI_1 i328) (by decide) rfl (fun ls hl => ?_)
                                                          refine lv_goto (tgt := 328) hx hb dL_law_739 (by decide) ?_
                                                          refine W.widen (k := 200) (n := 3000) (by omega) (by omega) ?_
                                                          exact ih328 (i328 + 1) _ _ _ _ _ _ _ ls (by omega) w5_ (bdZ_c hZ w8_ w7_) ((lw_al hE hi_ hal).trans (yS_c (fun j _ => by rw [w6_ j]))) hP hD hS (lv_sub hl [9, 10, 11, 12, 13, 14, 1, 2, 15, 6, 16, 0] rfl)
                                                        · exact absurd w3_ c_24
                                                  · refine lv_goto (tgt := 736) hx hb dL_law_683 (by decide) ?_
                                                    refine lv_iinc (v := nI (i328 + 1)) (lv' := [(20, .int (nI (i328 + 1))), (24, .int (S 9 (i319 * w + i328))), (23, .int (S 7 (i319 * w + i328))), (18, .int (al + (S 2 (i319 * w + i328)))), (22, .int (x9 + x8)), (21, .int (S 2 (i319 * w + i328))), (0, .ref sc), (1, .ref (k 0)), (2, .ref qs), (3, .int (nI h)), (4, .int (nI w)), (5, .int (nI pl)), (6, .int (nI rp)), (7, .int sv), (8, .int (nI dy)), (19, .int (nI i319))]) hx hb dL_law_736 hl (k := 15) rfl (show nI i328 + Int32.ofInt 1 = nI (i328 + 1) from nI_1 i328) (by decide) rfl (fun ls hl => ?_)
                                                    refine lv_goto (tgt := 328) hx hb dL_law_739 (by decide) ?_
                                                    refine W.widen (k := 200) (n := 3000) (by omega) (by omega) ?_
                                                    exact ih328 (i328 + 1) _ _ _ _ _ _ _ ls (by omega) hE hZ (lw_al hE hi_ hal) hP hD hS (lv_sub hl [6, 7, 8, 9, 10, 11, 12, 13, 14, 3, 15, 0] rfl)
                                                · exact absurd (by rw [y_le, lw_2k (by omega)]; omega) c_18
                                            refine lv_if_le (tgt := 627) hx hb dL_law_620 (by decide) (fun e5_ => ?_) (fun e5_ => ?_)
                                            · refine lv_iconst (v := 0) hx hb dL_law_627 (by decide) ?_
                                              refine lv_iload hx hb dL_law_628 (lv_at hl 4 rfl) ?_
                                              refine lv_if_ne (tgt := 637) hx hb dL_law_630 (by decide) (fun c_25 => ?_) (fun c_25 => ?_)
                                              · refine lv_iconst (v := 0) hx hb dL_law_637 (by decide) ?_
                                                refine lv_icmp_ne (tgt := 666) hx hb dL_law_638 (by decide) (fun c_26 => ?_) (fun c_26 => ?_)
                                                · exact absurd c_26 (by decide)
                                                · exact h641 _ _ hP hD hS
                                              · exact absurd (u12_.mpr (by rw [c_25]; rfl)) (by rw [y_le, y0] at e5_; omega)
                                            · refine lv_iconst (v := 1) hx hb dL_law_623 (by decide) ?_
                                              refine lv_goto (tgt := 628) hx hb dL_law_624 (by decide) ?_
                                              refine lv_iload hx hb dL_law_628 (lv_at hl 4 rfl) ?_
                                              refine lv_if_ne (tgt := 637) hx hb dL_law_630 (by decide) (fun c_27 => ?_) (fun c_27 => ?_)
                                              · exact absurd (y_ie.mpr (u12_.mp (by rw [y_le, y0] at e5_; omega))) c_27
                                              · refine lv_iconst (v := 1) hx hb dL_law_633 (by decide) ?_
                                                refine lv_goto (tgt := 638) hx hb dL_law_634 (by decide) ?_
                                                refine lv_icmp_ne (tgt := 666) hx hb dL_law_638 (by decide) (fun c_28 => ?_) (fun c_28 => ?_)
                                                · exact absurd c_28 (by decide)
                                                · exact h641 _ _ hP hD hS
                                          refine lv_if_le (tgt := 610) hx hb dL_law_594 (by decide) (fun e6_ => ?_) (fun e6_ => ?_)
                                          · exact h610 _ _ hP hD hS
                                          · refine lv_aload_n hx hb dL_law_597 rfl (lv_at hl 6 rfl) ?_
                                            refine lv_iload hx hb dL_law_598 (lv_at hl 14 rfl) ?_
                                            refine lv_iload hx hb dL_law_600 (lv_at hl 15 rfl) ?_
                                            refine lv_bipush (v := 9) hx hb dL_law_602 (by decide) ?_
                                            refine zI_V (pre := ([] : va_W)) (wc := oW k b t M ++ kW cI k M ++ bW k B ++ sW cI b S ++ sW cI t T) (post := (Z9)) (w1 := oW k b t M ++ kW cI k M ++ bW k B ++ sW cI b S ++ sW cI t T) ⟨hx, hb, hml, hown, hts⟩ (c_X3_field l dC dI cI k b t h w M B S T (nI i319) (nI i328) 9 gS (lt_f (t := i319) (f := i328) gS (by omega) (by omega) (by decide))) (cwV 3 hts gL_law_X3_field rfl rfl rfl (by decide +kernel) ⟨Nat.le_of_ble_eq_true rfl, Nat.le_of_ble_eq_true rfl⟩) (by simp only [List.append_assoc, List.append_nil, List.nil_append]) hK hN (ci := 3) (q0 := 0) rfl rfl rfl hP hD hS hA rfl hl.1 rfl (Nat.le_of_ble_eq_true rfl) dL_law_604 ⟨by show _ ≤ 600104; omega, by show _ ≤ 7301314; omega⟩ (fun H locs hP hD hS => ?_)
                                            have hP : va_P (dC, dI) vwCl (oW k b t M ++ kW cI k M ++ bW k B ++ sW cI b S ++ sW cI t T ++ Z9) H := by simpa only [List.append_assoc, List.append_nil, List.nil_append] using hP
                                            have hD : va_D (lawA s) (oW k b t M ++ kW cI k M ++ bW k B ++ sW cI b S ++ sW cI t T ++ Z9) := by simpa only [List.append_assoc, List.append_nil, List.nil_append] using hD
                                            rw [lf_9 (t := i319) (f := i328) gS (by omega) (by omega)]
                                            refine lv_if_gt (tgt := 666) hx hb dL_law_607 (by decide) (fun c_29 => ?_) (fun c_29 => ?_)
                                            · exact absurd c_29 (by rw [y_lt, y0]; rw [y_le, y0] at e6_; omega)
                                            · exact h610 _ _ hP hD hS
                              · obtain ⟨z8_, z9_, z10_, z11_⟩ := yp_0 hp_ c_11
                                refine lv_bipush (v := 6) hx hb dL_law_491 (by decide) ?_
                                refine lv_istore (lv' := [(24, .int 6), (23, .int (S 7 (i319 * w + i328))), (18, .int (al + (S 2 (i319 * w + i328)))), (22, .int (x9 + x8)), (21, .int (S 2 (i319 * w + i328))), (0, .ref sc), (1, .ref (k 0)), (2, .ref qs), (3, .int (nI h)), (4, .int (nI w)), (5, .int (nI pl)), (6, .int (nI rp)), (7, .int sv), (8, .int (nI dy)), (19, .int (nI i319)), (20, .int (nI i328))]) hx hb dL_law_493 hl (by decide) rfl (fun ls hl => ?_)
                                refine lv_iload hx hb dL_law_495 (lv_at hl 0 rfl) ?_
                                refine lv_bipush (v := 10) hx hb dL_law_497 (by decide) ?_
                                refine lv_icmp_ge (tgt := 523) hx hb dL_law_499 (by decide) (fun c_30 => ?_) (fun c_30 => ?_)
                                · exact absurd c_30 (by decide)
                                · refine lv_aload_n hx hb dL_law_502 rfl (lv_at hl 6 rfl) ?_
                                  refine lv_iload hx hb dL_law_503 (lv_at hl 14 rfl) ?_
                                  refine lv_iload hx hb dL_law_505 (lv_at hl 15 rfl) ?_
                                  refine lv_iload hx hb dL_law_507 (lv_at hl 0 rfl) ?_
                                  refine zI_V (pre := ([] : va_W)) (wc := oW k b t M ++ kW cI k M ++ bW k B ++ sW cI b S ++ sW cI t T) (post := (Z9)) (w1 := oW k b t M ++ kW cI k M ++ bW k B ++ sW cI b S ++ sW cI t T) ⟨hx, hb, hml, hown, hts⟩ (c_X3_field l dC dI cI k b t h w M B S T (nI i319) (nI i328) 6 gS (lt_f (t := i319) (f := i328) gS (by omega) (by omega) (by decide))) (cwV 3 hts gL_law_X3_field rfl rfl rfl (by decide +kernel) ⟨Nat.le_of_ble_eq_true rfl, Nat.le_of_ble_eq_true rfl⟩) (by simp only [List.append_assoc, List.append_nil, List.nil_append]) hK hN (ci := 3) (q0 := 0) rfl rfl rfl hP hD hS hA rfl hl.1 rfl (Nat.le_of_ble_eq_true rfl) dL_law_509 ⟨by show _ ≤ 600104; omega, by show _ ≤ 7301314; omega⟩ (fun H locs hP hD hS => ?_)
                                  have hP : va_P (dC, dI) vwCl (oW k b t M ++ kW cI k M ++ bW k B ++ sW cI b S ++ sW cI t T ++ Z9) H := by simpa only [List.append_assoc, List.append_nil, List.nil_append] using hP
                                  have hD : va_D (lawA s) (oW k b t M ++ kW cI k M ++ bW k B ++ sW cI b S ++ sW cI t T ++ Z9) := by simpa only [List.append_assoc, List.append_nil, List.nil_append] using hD
                                  rw [lf_6 (t := i319) (f := i328) gS (by omega) (by omega)]
                                  refine lv_if_eq (tgt := 517) hx hb dL_law_512 (by decide) (fun c_31 => ?_) (fun c_31 => ?_)
                                  · refine lv_iinc (v := 7) (lv' := [(24, .int 7), (23, .int (S 7 (i319 * w + i328))), (18, .int (al + (S 2 (i319 * w + i328)))), (22, .int (x9 + x8)), (21, .int (S 2 (i319 * w + i328))), (0, .ref sc), (1, .ref (k 0)), (2, .ref qs), (3, .int (nI h)), (4, .int (nI w)), (5, .int (nI pl)), (6, .int (nI rp)), (7, .int sv), (8, .int (nI dy)), (19, .int (nI i319)), (20, .int (nI i328))]) hx hb dL_law_517 hl (k := 0) rfl rfl (by decide) rfl (fun ls hl => ?_)
                                    refine lv_goto (tgt := 495) hx hb dL_law_520 (by decide) ?_
                                    refine lv_iload hx hb dL_law_495 (lv_at hl 0 rfl) ?_
                                    refine lv_bipush (v := 10) hx hb dL_law_497 (by decide) ?_
                                    refine lv_icmp_ge (tgt := 523) hx hb dL_law_499 (by decide) (fun c_32 => ?_) (fun c_32 => ?_)
                                    · exact absurd c_32 (by decide)
                                    · refine lv_aload_n hx hb dL_law_502 rfl (lv_at hl 6 rfl) ?_
                                      refine lv_iload hx hb dL_law_503 (lv_at hl 14 rfl) ?_
                                      refine lv_iload hx hb dL_law_505 (lv_at hl 15 rfl) ?_
                                      refine lv_iload hx hb dL_law_507 (lv_at hl 0 rfl) ?_
                                      refine zI_V (pre := ([] : va_W)) (wc := oW k b t M ++ kW cI k M ++ bW k B ++ sW cI b S ++ sW cI t T) (post := (Z9)) (w1 := oW k b t M ++ kW cI k M ++ bW k B ++ sW cI b S ++ sW cI t T) ⟨hx, hb, hml, hown, hts⟩ (c_X3_field l dC dI cI k b t h w M B S T (nI i319) (nI i328) 7 gS (lt_f (t := i319) (f := i328) gS (by omega) (by omega) (by decide))) (cwV 3 hts gL_law_X3_field rfl rfl rfl (by decide +kernel) ⟨Nat.le_of_ble_eq_true rfl, Nat.le_of_ble_eq_true rfl⟩) (by simp only [List.append_assoc, List.append_nil, List.nil_append]) hK hN (ci := 3) (q0 := 0) rfl rfl rfl hP hD hS hA rfl hl.1 rfl (Nat.le_of_ble_eq_true rfl) dL_law_509 ⟨by show _ ≤ 600104; omega, by show _ ≤ 7301314; omega⟩ (fun H locs hP hD hS => ?_)
                                      have hP : va_P (dC, dI) vwCl (oW k b t M ++ kW cI k M ++ bW k B ++ sW cI b S ++ sW cI t T ++ Z9) H := by simpa only [List.append_assoc, List.append_nil, List.nil_append] using hP
                                      have hD : va_D (lawA s) (oW k b t M ++ kW cI k M ++ bW k B ++ sW cI b S ++ sW cI t T ++ Z9) := by simpa only [List.append_assoc, List.append_nil, List.nil_append] using hD
                                      rw [lf_7 (t := i319) (f := i328) gS (by omega) (by omega)]
                                      refine lv_if_eq (tgt := 517) hx hb dL_law_512 (by decide) (fun c_33 => ?_) (fun c_33 => ?_)
                                      · refine lv_iinc (v := 8) (lv' := [(24, .int 8), (23, .int (S 7 (i319 * w + i328))), (18, .int (al + (S 2 (i319 * w + i328)))), (22, .int (x9 + x8)), (21, .int (S 2 (i319 * w + i328))), (0, .ref sc), (1, .ref (k 0)), (2, .ref qs), (3, .int (nI h)), (4, .int (nI w)), (5, .int (nI pl)), (6, .int (nI rp)), (7, .int sv), (8, .int (nI dy)), (19, .int (nI i319)), (20, .int (nI i328))]) hx hb dL_law_517 hl (k := 0) rfl rfl (by decide) rfl (fun ls hl => ?_)
                                        refine lv_goto (tgt := 495) hx hb dL_law_520 (by decide) ?_
                                        refine lv_iload hx hb dL_law_495 (lv_at hl 0 rfl) ?_
                                        refine lv_bipush (v := 10) hx hb dL_law_497 (by decide) ?_
                                        refine lv_icmp_ge (tgt := 523) hx hb dL_law_499 (by decide) (fun c_34 => ?_) (fun c_34 => ?_)
                                        · exact absurd c_34 (by decide)
                                        · refine lv_aload_n hx hb dL_law_502 rfl (lv_at hl 6 rfl) ?_
                                          refine lv_iload hx hb dL_law_503 (lv_at hl 14 rfl) ?_
                                          refine lv_iload hx hb dL_law_505 (lv_at hl 15 rfl) ?_
                                          refine lv_iload hx hb dL_law_507 (lv_at hl 0 rfl) ?_
                                          refine zI_V (pre := ([] : va_W)) (wc := oW k b t M ++ kW cI k M ++ bW k B ++ sW cI b S ++ sW cI t T) (post := (Z9)) (w1 := oW k b t M ++ kW cI k M ++ bW k B ++ sW cI b S ++ sW cI t T) ⟨hx, hb, hml, hown, hts⟩ (c_X3_field l dC dI cI k b t h w M B S T (nI i319) (nI i328) 8 gS (lt_f (t := i319) (f := i328) gS (by omega) (by omega) (by decide))) (cwV 3 hts gL_law_X3_field rfl rfl rfl (by decide +kernel) ⟨Nat.le_of_ble_eq_true rfl, Nat.le_of_ble_eq_true rfl⟩) (by simp only [List.append_assoc, List.append_nil, List.nil_append]) hK hN (ci := 3) (q0 := 0) rfl rfl rfl hP hD hS hA rfl hl.1 rfl (Nat.le_of_ble_eq_true rfl) dL_law_509 ⟨by show _ ≤ 600104; omega, by show _ ≤ 7301314; omega⟩ (fun H locs hP hD hS => ?_)
                                          have hP : va_P (dC, dI) vwCl (oW k b t M ++ kW cI k M ++ bW k B ++ sW cI b S ++ sW cI t T ++ Z9) H := by simpa only [List.append_assoc, List.append_nil, List.nil_append] using hP
                                          have hD : va_D (lawA s) (oW k b t M ++ kW cI k M ++ bW k B ++ sW cI b S ++ sW cI t T ++ Z9) := by simpa only [List.append_assoc, List.append_nil, List.nil_append] using hD
                                          rw [lf_8 (t := i319) (f := i328) gS (by omega) (by omega)]
                                          refine lv_if_eq (tgt := 517) hx hb dL_law_512 (by decide) (fun c_35 => ?_) (fun c_35 => ?_)
                                          · refine lv_iinc (v := 9) (lv' := [(24, .int 9), (23, .int (S 7 (i319 * w + i328))), (18, .int (al + (S 2 (i319 * w + i328)))), (22, .int (x9 + x8)), (21, .int (S 2 (i319 * w + i328))), (0, .ref sc), (1, .ref (k 0)), (2, .ref qs), (3, .int (nI h)), (4, .int (nI w)), (5, .int (nI pl)), (6, .int (nI rp)), (7, .int sv), (8, .int (nI dy)), (19, .int (nI i319)), (20, .int (nI i328))]) hx hb dL_law_517 hl (k := 0) rfl rfl (by decide) rfl (fun ls hl => ?_)
                                            refine lv_goto (tgt := 495) hx hb dL_law_520 (by decide) ?_
                                            refine lv_iload hx hb dL_law_495 (lv_at hl 0 rfl) ?_
                                            refine lv_bipush (v := 10) hx hb dL_law_497 (by decide) ?_
                                            refine lv_icmp_ge (tgt := 523) hx hb dL_law_499 (by decide) (fun c_36 => ?_) (fun c_36 => ?_)
                                            · exact absurd c_36 (by decide)
                                            · refine lv_aload_n hx hb dL_law_502 rfl (lv_at hl 6 rfl) ?_
                                              refine lv_iload hx hb dL_law_503 (lv_at hl 14 rfl) ?_
                                              refine lv_iload hx hb dL_law_505 (lv_at hl 15 rfl) ?_
                                              refine lv_iload hx hb dL_law_507 (lv_at hl 0 rfl) ?_
                                              refine zI_V (pre := ([] : va_W)) (wc := oW k b t M ++ kW cI k M ++ bW k B ++ sW cI b S ++ sW cI t T) (post := (Z9)) (w1 := oW k b t M ++ kW cI k M ++ bW k B ++ sW cI b S ++ sW cI t T) ⟨hx, hb, hml, hown, hts⟩ (c_X3_field l dC dI cI k b t h w M B S T (nI i319) (nI i328) 9 gS (lt_f (t := i319) (f := i328) gS (by omega) (by omega) (by decide))) (cwV 3 hts gL_law_X3_field rfl rfl rfl (by decide +kernel) ⟨Nat.le_of_ble_eq_true rfl, Nat.le_of_ble_eq_true rfl⟩) (by simp only [List.append_assoc, List.append_nil, List.nil_append]) hK hN (ci := 3) (q0 := 0) rfl rfl rfl hP hD hS hA rfl hl.1 rfl (Nat.le_of_ble_eq_true rfl) dL_law_509 ⟨by show _ ≤ 600104; omega, by show _ ≤ 7301314; omega⟩ (fun H locs hP hD hS => ?_)
                                              have hP : va_P (dC, dI) vwCl (oW k b t M ++ kW cI k M ++ bW k B ++ sW cI b S ++ sW cI t T ++ Z9) H := by simpa only [List.append_assoc, List.append_nil, List.nil_append] using hP
                                              have hD : va_D (lawA s) (oW k b t M ++ kW cI k M ++ bW k B ++ sW cI b S ++ sW cI t T ++ Z9) := by simpa only [List.append_assoc, List.append_nil, List.nil_append] using hD
                                              rw [lf_9 (t := i319) (f := i328) gS (by omega) (by omega)]
                                              refine lv_if_eq (tgt := 517) hx hb dL_law_512 (by decide) (fun c_37 => ?_) (fun c_37 => ?_)
                                              · refine lv_iinc (v := 10) (lv' := [(24, .int 10), (23, .int (S 7 (i319 * w + i328))), (18, .int (al + (S 2 (i319 * w + i328)))), (22, .int (x9 + x8)), (21, .int (S 2 (i319 * w + i328))), (0, .ref sc), (1, .ref (k 0)), (2, .ref qs), (3, .int (nI h)), (4, .int (nI w)), (5, .int (nI pl)), (6, .int (nI rp)), (7, .int sv), (8, .int (nI dy)), (19, .int (nI i319)), (20, .int (nI i328))]) hx hb dL_law_517 hl (k := 0) rfl rfl (by decide) rfl (fun ls hl => ?_)
                                                refine lv_goto (tgt := 495) hx hb dL_law_520 (by decide) ?_
                                                refine lv_iload hx hb dL_law_495 (lv_at hl 0 rfl) ?_
                                                refine lv_bipush (v := 10) hx hb dL_law_497 (by decide) ?_
                                                refine lv_icmp_ge (tgt := 523) hx hb dL_law_499 (by decide) (fun c_38 => ?_) (fun c_38 => ?_)
                                                · refine lv_goto (tgt := 736) hx hb dL_law_523 (by decide) ?_
                                                  refine lv_iinc (v := nI (i328 + 1)) (lv' := [(20, .int (nI (i328 + 1))), (24, .int 10), (23, .int (S 7 (i319 * w + i328))), (18, .int (al + (S 2 (i319 * w + i328)))), (22, .int (x9 + x8)), (21, .int (S 2 (i319 * w + i328))), (0, .ref sc), (1, .ref (k 0)), (2, .ref qs), (3, .int (nI h)), (4, .int (nI w)), (5, .int (nI pl)), (6, .int (nI rp)), (7, .int sv), (8, .int (nI dy)), (19, .int (nI i319))]) hx hb dL_law_736 hl (k := 15) rfl (show nI i328 + Int32.ofInt 1 = nI (i328 + 1) from nI_1 i328) (by decide) rfl (fun ls hl => ?_)
                                                  refine lv_goto (tgt := 328) hx hb dL_law_739 (by decide) ?_
                                                  refine W.widen (k := 200) (n := 3000) (by omega) (by omega) ?_
                                                  exact ih328 (i328 + 1) _ _ _ _ _ _ _ ls (by omega) hE hZ (lw_al hE hi_ hal) hP hD hS (lv_sub hl [6, 7, 8, 9, 10, 11, 12, 13, 14, 3, 15, 0] rfl)
                                                · exact absurd c_38 (by decide)
                                              · exact absurd z11_ c_37
                                          · exact absurd z10_ c_35
                                      · exact absurd z9_ c_33
                                  · exact absurd z8_ c_31
                            · exact absurd (by rw [y_le, y0]; exact (hz_ _ hi_).1) c_10
                refine lv_icmp_ge (tgt := 391) hx hb dL_law_373 (by decide) (fun e7_ => ?_) (fun e7_ => ?_)
                · have hfw := lq_r0 (by omega) (by omega) (show i328 < w by omega) e7_
                  refine lv_iconst (v := 0) hx hb dL_law_391 (by decide) ?_
                  exact h392 _ _ _ (by rw [if_neg hfw]; rfl) hP hD hS
                · have hfw := lq_r1 (by omega) (by omega) (show i328 < w by omega) e7_
                  refine lv_aload_n hx hb dL_law_376 rfl (lv_at hl 2 rfl) ?_
                  refine lv_iload hx hb dL_law_377 (lv_at hl 11 rfl) ?_
                  refine lv_iload hx hb dL_law_379 (lv_at hl 12 rfl) ?_
                  refine lv_iconst (v := 1) hx hb dL_law_381 (by decide) ?_
                  refine lv_iadd hx hb dL_law_382 ?_
                  refine lv_bipush (v := 11) hx hb dL_law_383 (by decide) ?_
                  rw [nI_1]
                  refine zI_V (pre := ([] : va_W)) (wc := oW k b t M ++ kW cI k M ++ bW k B ++ sW cI b S ++ sW cI t T) (post := (Z9)) (w1 := oW k b t M ++ kW cI k M ++ bW k B ++ sW cI b S ++ sW cI t T) ⟨hx, hb, hml, hown, hts⟩ (c_X3_field l dC dI cI k b t h w M B S T (nI i319) (nI (i328 + 1)) 11 gS (lt_f (t := i319) (f := i328 + 1) gS (by omega) (by omega) (by decide))) (cwV 3 hts gL_law_X3_field rfl rfl rfl (by decide +kernel) ⟨Nat.le_of_ble_eq_true rfl, Nat.le_of_ble_eq_true rfl⟩) (by simp only [List.append_assoc, List.append_nil, List.nil_append]) hK hN (ci := 3) (q0 := 0) rfl rfl rfl hP hD hS hA rfl hl.1 rfl (Nat.le_of_ble_eq_true rfl) dL_law_385 ⟨by show _ ≤ 600104; omega, by show _ ≤ 7301314; omega⟩ (fun H locs hP hD hS => ?_)
                  have hP : va_P (dC, dI) vwCl (oW k b t M ++ kW cI k M ++ bW k B ++ sW cI b S ++ sW cI t T ++ Z9) H := by simpa only [List.append_assoc, List.append_nil, List.nil_append] using hP
                  have hD : va_D (lawA s) (oW k b t M ++ kW cI k M ++ bW k B ++ sW cI b S ++ sW cI t T ++ Z9) := by simpa only [List.append_assoc, List.append_nil, List.nil_append] using hD
                  rw [lf_11 (t := i319) (f := i328 + 1) gS (by omega) (by omega)]
                  refine lv_goto (tgt := 392) hx hb dL_law_388 (by decide) ?_
                  exact h392 _ _ _ (by rw [if_pos hfw]; rfl) hP hD hS
              refine lv_if_le (tgt := 366) hx hb dL_law_348 (by decide) (fun e8_ => ?_) (fun e8_ => ?_)
              · refine lv_iconst (v := 0) hx hb dL_law_366 (by decide) ?_
                exact h367 _ _ _ (by rw [y0]; omega) hP hD hS
              · refine lv_aload_n hx hb dL_law_351 rfl (lv_at hl 2 rfl) ?_
                refine lv_iload hx hb dL_law_352 (lv_at hl 11 rfl) ?_
                refine lv_iload hx hb dL_law_354 (lv_at hl 12 rfl) ?_
                refine lv_iconst (v := 1) hx hb dL_law_356 (by decide) ?_
                refine lv_isub hx hb dL_law_357 ?_
                refine lv_bipush (v := 11) hx hb dL_law_358 (by decide) ?_
                obtain ⟨f9, hf9⟩ : ∃ f9, i328 = f9 + 1 := ⟨i328 - 1, by have z0 : i328 ≠ 0 := fun z => e8_ (by rw [z]; decide); omega⟩
                rw [show nI i328 - 1 = nI f9 from by rw [hf9]; exact nI_pred f9]
                refine zI_V (pre := ([] : va_W)) (wc := oW k b t M ++ kW cI k M ++ bW k B ++ sW cI b S ++ sW cI t T) (post := (Z9)) (w1 := oW k b t M ++ kW cI k M ++ bW k B ++ sW cI b S ++ sW cI t T) ⟨hx, hb, hml, hown, hts⟩ (c_X3_field l dC dI cI k b t h w M B S T (nI i319) (nI f9) 11 gS (lt_f (t := i319) (f := f9) gS (by omega) (by omega) (by decide))) (cwV 3 hts gL_law_X3_field rfl rfl rfl (by decide +kernel) ⟨Nat.le_of_ble_eq_true rfl, Nat.le_of_ble_eq_true rfl⟩) (by simp only [List.append_assoc, List.append_nil, List.nil_append]) hK hN (ci := 3) (q0 := 0) rfl rfl rfl hP hD hS hA rfl hl.1 rfl (Nat.le_of_ble_eq_true rfl) dL_law_360 ⟨by show _ ≤ 600104; omega, by show _ ≤ 7301314; omega⟩ (fun H locs hP hD hS => ?_)
                have hP : va_P (dC, dI) vwCl (oW k b t M ++ kW cI k M ++ bW k B ++ sW cI b S ++ sW cI t T ++ Z9) H := by simpa only [List.append_assoc, List.append_nil, List.nil_append] using hP
                have hD : va_D (lawA s) (oW k b t M ++ kW cI k M ++ bW k B ++ sW cI b S ++ sW cI t T ++ Z9) := by simpa only [List.append_assoc, List.append_nil, List.nil_append] using hD
                rw [lf_11 (t := i319) (f := f9) gS (by omega) (by omega)]
                refine lv_goto (tgt := 367) hx hb dL_law_363 (by decide) ?_
                exact h367 _ _ _ (hz_ _ (y_idx (by omega) (by omega))) hP hD hS
        refine W.widen (k := 200) (n := 3000) (by omega) (by omega) ?_
        exact lp328 (w) 0 _ _ _ _ _ _ _ ls (by omega) hE hZ hal hP hD hS (lv_sub hl [1, 2, 3, 4, 5, 6, 7, 8, 9, 10, 11, 0] rfl)
  refine W.widen (k := 200) (n := 3000) (by omega) (by omega) ?_
  exact lp319 (h) 0 _ _ _ _ _ _ _ ls (by omega) hE hZ (by rw [Nat.zero_mul]; rfl) hP hD hS (lv_sub hl [10, 9, 8, 7, 6, 5, 4, 3, 2, 1, 0] rfl)

set_option maxHeartbeats 8000000 in
set_option maxRecDepth 100000 in
theorem law_End (l : Launch) {p : Program} {e : Env} {s : State} {m : MethodId} {below : List Frame} {meth : Method} {c : Code} {sc : Nat} {dC : Nat → ClassId} {dI : Nat → Nat → Nat} {cI cR cF : ClassId} {k b t : Nat → Nat} (G0 : lawG p s m meth c sc (dC, dI) cI cR cF) {h w dy pl rp : Nat} {M B S T : sS} {sv : Int32} {qs : Nat} {Z9 : va_W} {H : Heap} {locs : List Loc} {ls : Array Slot} {d0 : Drawn} (hd0 : s.drawn.sameBut d0 lw_cs) (I : lwD h w dy pl rp M S sv) (hZ : bdZ cI cR h w M S qs Z9) (hP : va_P (dC, dI) vwCl (oW k b t M ++ kW cI k M ++ bW k B ++ sW cI b S ++ sW cI t T ++ Z9) H) (hD : va_D (lawA s) (oW k b t M ++ kW cI k M ++ bW k B ++ sW cI b S ++ sW cI t T ++ Z9)) (hS : va_S (lawA s) s.heap H locs) (hl : lv_has ls 26 [(8, .int (nI dy)), (7, .int sv), (6, .int (nI rp)), (5, .int (nI pl)), (4, .int (nI w)), (3, .int (nI h)), (2, .ref qs), (1, .ref (k 0)), (0, .ref sc)]) : W p l e room_1 (s.setDrawn d0) m #[Value.ref sc] below meth c H locs 200 3000 (lw_Z below #[Value.ref sc] s) (F0 m 814 ls []) := by
  obtain ⟨hx, hb, hr, hml, hown, hts, hfs, hlocks, hK3, hN⟩ := lawG_d G0 d0
  have hown : s.vm.findClass RL = some m.cls := hown
  have hA : ∀ q : Nat, s.heap.size ≤ q → lawA s q := fun _ h => h
  have hK : va_K (dC, dI) vwCl [(cI, .int)] (s.setDrawn d0) := hK3.sub [0] rfl
  have hinX4 : ∀ w ∈ wsX40, w ∈ wsL_law := inlX4
  have hf24 := hfs (.fieldLink RL 24 "PaddyTerracesLaw$Sim" "h" "I") (by decide)
  have hf28 := hfs (.fieldLink RL 28 "PaddyTerracesLaw$Sim" "w" "I") (by decide)
  have hf40 := hfs (.fieldLink RL 40 "PaddyTerracesLaw$Sim" "calendar" "[[I") (by decide)
  have hf44 := hfs (.fieldLink RL 44 "PaddyTerracesLaw$Sim" "shares" "[I") (by decide)
  have hf70 := hfs (.fieldLink RL 70 "PaddyTerracesLaw$Sim" "moved" "I") (by decide)
  have gS := I.1.1
  obtain ⟨q1, q2, q3, sh, cf, z1, z2, z3, z4, z5⟩ := id hZ
  refine lv_aload_n hx hb dL_law_814 rfl (lv_at hl 7 rfl) ?_
  refine lv_bipush (v := 8) hx hb dL_law_815 (by decide) ?_
  refine zI_V (pre := ([] : va_W)) (wc := oW k b t M ++ kW cI k M ++ bW k B ++ sW cI b S ++ sW cI t T) (post := (Z9)) (w1 := oW k b t M ++ kW cI k M ++ bW k B ++ sW cI b S ++ sW cI t T) ⟨hx, hb, hml, hown, hts⟩ (c_X3_count l dC dI cI k b t h w M B S T 8 gS (by decide)) (cwV 1 hts gL_law_X3_count rfl rfl rfl (by decide +kernel) ⟨Nat.le_of_ble_eq_true rfl, Nat.le_of_ble_eq_true rfl⟩) (by simp only [List.append_assoc, List.append_nil, List.nil_append]) hK hN (ci := 3) (q0 := 0) rfl rfl rfl hP hD hS hA rfl hl.1 rfl (Nat.le_of_ble_eq_true rfl) dL_law_817 ⟨by show _ ≤ 600104; omega, by show _ ≤ 7301314; omega⟩ (fun H locs hP hD hS => ?_)
  have hP : va_P (dC, dI) vwCl (oW k b t M ++ kW cI k M ++ bW k B ++ sW cI b S ++ sW cI t T ++ Z9) H := by simpa only [List.append_assoc, List.append_nil, List.nil_append] using hP
  have hD : va_D (lawA s) (oW k b t M ++ kW cI k M ++ bW k B ++ sW cI b S ++ sW cI t T ++ Z9) := by simpa only [List.append_assoc, List.append_nil, List.nil_append] using hD
  rw [lc_8]
  refine lv_aload_n hx hb dL_law_820 rfl (lv_at hl 6 rfl) ?_
  refine va_get (D := (dC, dI)) (ci := 4) (v := .int (M 0 1)) (C := RX4) (T := TX4) (N := 10) hx hb hts hinX4 hown hK hP (List.length (oW k b t M ++ kW cI k M ++ bW k B ++ sW cI b S ++ sW cI t T) + 0) (za_R z1) rfl 9 (by decide) hf70 (fun _ h9 => h9) rfl dL_law_821 ?_
  refine lv_icmp_ne (tgt := 831) hx hb dL_law_824 (by decide) (fun c_1 => ?_) (fun c_1 => ?_)
  · exact absurd rfl c_1
  · refine lv_iconst (v := 1) hx hb dL_law_827 (by decide) ?_
    refine lv_goto (tgt := 832) hx hb dL_law_828 (by decide) ?_
    refine va_forget (fun q hq => hS.2.2 q hq) ?_
    refine W.widen (k := 600104) (n := 7301314) (by omega) (by omega) ?_
    exact lw_ret hd0 hx hb hr hlocks dL_law_832
set_option maxHeartbeats 4000000 in
set_option maxRecDepth 100000 in
theorem law_loop (l : Launch) {p : Program} {e : Env} {s : State} {m : MethodId} {below : List Frame} {meth : Method} {c : Code} {sc : Nat} {dC : Nat → ClassId} {dI : Nat → Nat → Nat} {cI cR cF : ClassId} {k b t : Nat → Nat} (G0 : lawG p s m meth c sc (dC, dI) cI cR cF) {h w pl : Nat} {B : sS} {qs : Nat} {Z9 : va_W} : ∀ (n dy rp : Nat) (M S T : sS) (sv : Int32) (H : Heap) (locs : List Loc) (ls : Array Slot) (d0 : Drawn), dy + n = 40 → s.drawn.sameBut d0 lw_cs → lwD h w dy pl rp M S sv → bdZ cI cR h w M S qs Z9 → va_P (dC, dI) vwCl (oW k b t M ++ kW cI k M ++ bW k B ++ sW cI b S ++ sW cI t T ++ Z9) H → va_D (lawA s) (oW k b t M ++ kW cI k M ++ bW k B ++ sW cI b S ++ sW cI t T ++ Z9) → va_S (lawA s) s.heap H locs → lv_has ls 26 [(8, .int (nI dy)), (7, .int sv), (6, .int (nI rp)), (5, .int (nI pl)), (4, .int (nI w)), (3, .int (nI h)), (2, .ref qs), (1, .ref (k 0)), (0, .ref sc)] → W p l e room_1 (s.setDrawn d0) m #[Value.ref sc] below meth c H locs 200 3000 (lw_Z below #[Value.ref sc] s) (F0 m 47 ls []) := by
  intro n
  induction n with
  | zero =>
    intro dy rp M S T sv H locs ls d0 hn hd0 I hZ hP hD hS hl
    obtain ⟨hx, hb, hr, hml, hown, hts, hfs, hlocks, hK3, hN⟩ := lawG_d G0 d0
    refine lv_iload hx hb dL_law_47 (lv_at hl 0 rfl) ?_
    refine lv_bipush (v := 40) hx hb dL_law_49 (by decide) ?_
    refine lv_icmp_ge (tgt := 814) hx hb dL_law_51 (by decide) (fun _ => ?_) (fun q => ?_)
    · exact law_End l G0 hd0 I hZ hP hD hS hl
    · exact absurd (show nI 40 ≤ nI dy from nI_le (by omega) (by omega)) q
  | succ n ih =>
    intro dy rp M S T sv H locs ls d0 hn hd0 I hZ hP hD hS hl
    obtain ⟨hx, hb, hr, hml, hown, hts, hfs, hlocks, hK3, hN⟩ := lawG_d G0 d0
    refine lv_iload hx hb dL_law_47 (lv_at hl 0 rfl) ?_
    refine lv_bipush (v := 40) hx hb dL_law_49 (by decide) ?_
    refine lv_icmp_ge (tgt := 814) hx hb dL_law_51 (by decide) (fun q => ?_) (fun _ => ?_)
    · exact absurd q (show ¬ nI 40 ≤ nI dy from nI_ge (by omega) (by omega))
    · refine law_A l G0 I hZ (by omega) hP hD hS hl (fun S1 T1 H locs ls hE hZ hP hD hS hl => ?_)
      refine law_B l G0 hE hZ (by omega) hP hD hS hl (fun M2 S2 rp2 sv2 al2 H locs ls hE hZ hal hP hD hS hl => ?_)
      refine law_C l G0 hd0 hE hal hP hD hS hl (fun d9 H locs ls hd9 hP hD hS hl => ?_)
      exact ih (dy + 1) rp2 M2 S2 T1 sv2 H locs ls d9 (by omega) hd9 hE.1 hZ hP hD hS hl


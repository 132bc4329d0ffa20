set_option maxHeartbeats 4000000 in
theorem law_end {l : Launch} (hLt : l.stackTraces = false) {p : Program} {e : Env} {s0 : State} {m : MethodId} {below : List Frame} {meth : Method} {c : Code} {sc L : Nat} {xs : Nat → Int32} {dC : Nat → ClassId} {dI : Nat → Nat → Nat} {cI cJ : ClassId} {k b t d : Nat → Nat} {o : Nat} (G0 : lawG p s0 m meth c sc L xs (dC, dI) cI cJ) (hL : L ≤ 2560) {i cells slots : Nat} (hL4 : L < i + 5) (hi : i ≤ 4005) (hc : cells ≤ 601024) (hs : slots ≤ 7293034) : lawW p l e s0 m below meth c sc (dC, dI) cI cJ k b t d o 23 i cells slots := by
  intro d0 h w y M B S T O g H locs ls hd0 G hP hD hS hl
  obtain ⟨hx, hb, hr, hml, hown, hts, hX, hbl, hlocks, hK, hN, hC, hst⟩ := lawG_d G0 d0
  have hbA : ¬ lawA s0 sc := Nat.not_le.mpr hbl
  refine lv_iload hx hb dL_law_23 (lv_at hl 0 rfl) ?_
  refine lv_aload_n hx hb dL_law_25 rfl (lv_at hl 4 rfl) ?_
  refine va_slen hx hb hX hbl hbA hS dL_law_26 ?_
  refine lv_iconst (v := 5) hx hb dL_law_27 (by decide) ?_
  refine lv_isub hx hb dL_law_28 ?_
  refine lv_icmp_gt (tgt := 1201) hx hb dL_law_29 (by decide) (fun _ => ?_) (fun q => ?_)
  · refine lv_iconst (v := 1) hx hb dL_law_1201 (by decide) ?_
    refine va_forget (fun q hq => hS.2.2 q hq) ?_
    refine W.widen (k := 601024) (n := 7293034) hc hs ?_
    exact lw_ret hd0 hx hb hr hlocks dL_law_1202
  · rw [Int32.lt_iff_toInt_lt, show Int32.ofNat L - 5 = nI L - nI 5 from rfl, pk_sub_toInt (by omega) (by decide), nI_toInt (by omega)] at q
    omega
set_option maxHeartbeats 4000000 in
set_option maxRecDepth 100000 in
theorem law_loop (l : Launch) (hLt : l.stackTraces = false) {p : Program} {e : Env} {s0 : State} {m : MethodId} {below : List Frame} {meth : Method} {c : Code} {sc L : Nat} {xs : Nat → Int32} {dC : Nat → ClassId} {dI : Nat → Nat → Nat} {cI cJ : ClassId} {k b t d : Nat → Nat} {o : Nat} (G0 : lawG p s0 m meth c sc L xs (dC, dI) cI cJ) (hL : L ≤ 2560) : ∀ (n i cells slots : Nat), i ≤ 4000 → L ≤ i + 5 * n → cells + 2 * n ≤ 601024 → slots + 18 * n ≤ 7293034 → lawW p l e s0 m below meth c sc (dC, dI) cI cJ k b t d o 23 i cells slots := by
  intro n
  induction n with
  | zero =>
    intro i cells slots hi9 hn hc hs
    by_cases hlt : L < i + 5
    · exact law_end hLt G0 hL (by omega) (by omega) (by omega) (by omega)
    · omega
  | succ n ih =>
    intro i cells slots hi9 hn hc hs
    have k95 : lawW p l e s0 m below meth c sc (dC, dI) cI cJ k b t d o 1195 i (cells + 2) (slots + 18) := by
      intro d0 h w y M B S T O g H locs ls hd0 G hP hD hS hl
      obtain ⟨hx, hb, hr, hml, hown, hts, hX, hbl, hlocks, hK, hN, hC, hst⟩ := lawG_d G0 d0
      refine lv_iinc (v := nI (i + 5)) (lv' := [(4, .int (nI (i + 5))), (3, .ref o), (2, .ref (d 0)), (1, .ref (k 0)), (0, .ref sc)]) hx hb dL_law_1195 hl (k := 0) rfl (nI_add i 5) (by decide) rfl (fun ls hl => ?_)
      refine lv_goto (tgt := 23) hx hb dL_law_1198 (by decide) ?_
      by_cases q : i + 5 ≤ 4000
      · exact ih (i + 5) (cells + 2) (slots + 18) q (by omega) (by omega) (by omega) d0 h w y M B S T O g H locs ls hd0 G hP hD hS hl
      · exact law_end hLt G0 hL (by omega) (by omega) (by omega) (by omega) d0 h w y M B S T O g H locs ls hd0 G hP hD hS hl
    by_cases hlt : L < i + 5
    · exact law_end hLt G0 hL (by omega) (by omega) (by omega) (by omega)
    · have hi : i + 5 ≤ L := by omega
      intro d0 h w y M B S T O g H locs ls hd0 G hP hD hS hl
      obtain ⟨hx, hb, hr, hml, hown, hts, hX, hbl, hlocks, hK, hN, hC, hst⟩ := lawG_d G0 d0
      have hbA : ¬ lawA s0 sc := Nat.not_le.mpr hbl
      refine lv_iload hx hb dL_law_23 (lv_at hl 0 rfl) ?_
      refine lv_aload_n hx hb dL_law_25 rfl (lv_at hl 4 rfl) ?_
      refine va_slen hx hb hX hbl hbA hS dL_law_26 ?_
      refine lv_iconst (v := 5) hx hb dL_law_27 (by decide) ?_
      refine lv_isub hx hb dL_law_28 ?_
      refine lv_icmp_gt (tgt := 1201) hx hb dL_law_29 (by decide) (fun q => ?_) (fun _ => ?_)
      · rw [Int32.lt_iff_toInt_lt, show Int32.ofNat L - 5 = nI L - nI 5 from rfl, pk_sub_toInt (by omega) (by decide), nI_toInt (by omega)] at q
        omega
      refine lv_aload_n hx hb dL_law_32 rfl (lv_at hl 4 rfl) ?_
      refine lv_iload hx hb dL_law_33 (lv_at hl 0 rfl) ?_
      refine sld_k hx hb hX hbl hbA hS i rfl (by omega) (by omega) rfl dL_law_35 ?_
      refine lv_bipush (v := 15) hx hb dL_law_36 (by decide) ?_
      refine lv_iand hx hb dL_law_38 ?_
      obtain ⟨j, hj, ej⟩ := pk_andE (xs i) (m := 15) 4 rfl
      rw [ej]
      have hj : j < 16 := hj
      rcases (show j = 0 ∨ j = 1 ∨ j = 2 ∨ j = 3 ∨ j = 4 ∨ j = 5 ∨ j = 6 ∨ j = 7 ∨ j = 8 ∨ j = 9 ∨ j = 10 ∨ j = 11 ∨ j = 12 ∨ j = 13 ∨ j = 14 ∨ j = 15 by omega) with rfl | rfl | rfl | rfl | rfl | rfl | rfl | rfl | rfl | rfl | rfl | rfl | rfl | rfl | rfl | rfl
      · refine lv_tableIn (off := 77) (tgt := 116) hx hb dL_law_39 (by decide) (by decide) rfl (by decide) ?_
        exact law_lay l hLt G0 hi hL (by omega) (by omega) k95 d0 h w y M B S T O g H locs ls hd0 G hP hD hS hl
      · refine lv_tableIn (off := 145) (tgt := 184) hx hb dL_law_39 (by decide) (by decide) rfl (by decide) ?_
        exact law_setField l hLt G0 hi hL (by omega) (by omega) k95 d0 h w y M B S T O g H locs ls hd0 G hP hD hS hl
      · refine lv_tableIn (off := 237) (tgt := 276) hx hb dL_law_39 (by decide) (by decide) rfl (by decide) ?_
        exact law_moveStone l hLt G0 hi hL (by omega) (by omega) k95 d0 h w y M B S T O g H locs ls hd0 G hP hD hS hl
      · refine lv_tableIn (off := 317) (tgt := 356) hx hb dL_law_39 (by decide) (by decide) rfl (by decide) ?_
        exact law_turn l hLt G0 hi hL (by omega) (by omega) k95 d0 h w y M B S T O g H locs ls hd0 G hP hD hS hl
      · refine lv_tableIn (off := 397) (tgt := 436) hx hb dL_law_39 (by decide) (by decide) rfl (by decide) ?_
        exact law_setShare l hLt G0 hi hL (by omega) (by omega) k95 d0 h w y M B S T O g H locs ls hd0 G hP hD hS hl
      · refine lv_tableIn (off := 465) (tgt := 504) hx hb dL_law_39 (by decide) (by decide) rfl (by decide) ?_
        exact law_setDay l hLt G0 hi hL (by omega) (by omega) k95 d0 h w y M B S T O g H locs ls hd0 G hP hD hS hl
      · refine lv_tableIn (off := 557) (tgt := 596) hx hb dL_law_39 (by decide) (by decide) rfl (by decide) ?_
        exact law_plant l hLt G0 hi hL (by omega) (by omega) k95 d0 h w y M B S T O g H locs ls hd0 G hP hD hS hl
      · refine lv_tableIn (off := 637) (tgt := 676) hx hb dL_law_39 (by decide) (by decide) rfl (by decide) ?_
        exact law_reap l hLt G0 hi hL (by omega) (by omega) k95 d0 h w y M B S T O g H locs ls hd0 G hP hD hS hl
      · refine lv_tableIn (off := 705) (tgt := 744) hx hb dL_law_39 (by decide) (by decide) rfl (by decide) ?_
        exact law_pass l hLt G0 hi hL (by omega) (by omega) k95 d0 h w y M B S T O g H locs ls hd0 G hP hD hS hl
      · refine lv_tableIn (off := 761) (tgt := 800) hx hb dL_law_39 (by decide) (by decide) rfl (by decide) ?_
        exact law_field l hLt G0 hi hL (by omega) (by omega) k95 d0 h w y M B S T O g H locs ls hd0 G hP hD hS hl
      · refine lv_tableIn (off := 841) (tgt := 880) hx hb dL_law_39 (by decide) (by decide) rfl (by decide) ?_
        exact law_count l hLt G0 hi hL (by omega) (by omega) k95 d0 h w y M B S T O g H locs ls hd0 G hP hD hS hl
      · refine lv_tableIn (off := 897) (tgt := 936) hx hb dL_law_39 (by decide) (by decide) rfl (by decide) ?_
        exact law_weather l hLt G0 hi hL (by omega) (by omega) k95 d0 h w y M B S T O g H locs ls hd0 G hP hD hS hl
      · refine lv_tableIn (off := 965) (tgt := 1004) hx hb dL_law_39 (by decide) (by decide) rfl (by decide) ?_
        exact law_foresee l hLt G0 hi hL (by omega) (by omega) k95 d0 h w y M B S T O g H locs ls hd0 G hP hD hS hl
      · refine lv_tableIn (off := 1033) (tgt := 1072) hx hb dL_law_39 (by decide) (by decide) rfl (by decide) ?_
        exact law_advise l hLt G0 hi hL (by omega) (by omega) k95 d0 h w y M B S T O g H locs ls hd0 G hP hD hS hl
      · refine lv_tableIn (off := 1101) (tgt := 1140) hx hb dL_law_39 (by decide) (by decide) rfl (by decide) ?_
        exact law_depth l hLt G0 hi hL (by omega) (by omega) k95 d0 h w y M B S T O g H locs ls hd0 G hP hD hS hl
      · refine lv_tableIn (off := 1142) (tgt := 1181) hx hb dL_law_39 (by decide) (by decide) rfl (by decide) ?_
        exact law_digest l hLt G0 hi hL (by omega) (by omega) k95 d0 h w y M B S T O g H locs ls hd0 G hP hD hS hl

set_option maxHeartbeats 4000000 in
set_option maxRecDepth 100000 in
theorem c_X3_digest (l : Launch) (dC : Nat → ClassId) (dI : Nat → Nat → Nat) (cI : ClassId) (k b t : Nat → Nat) (h w : Nat) (M B S T : sS) (hG0 : geo h w S) : zL l yX3_digest wsX3_digest { frames := 4, cells := 0, slots := 0, locals := 84 } (dC, dI) cI [.ref (k 0)] (oW k b t M ++ kW cI k M ++ bW k B ++ sW cI b S ++ sW cI t T) (oW k b t M ++ kW cI k M ++ bW k B ++ sW cI b S ++ sW cI t T) (dg_4 h w M S) := by
  refine zL_of (cc := cX3_digest) (maxL := 5) (ret := (some .long)) (by decide) rfl (Nat.le_of_ble_eq_true rfl) ?_
  intro p e s m below meth c A ls C0 hl
  obtain ⟨hx, hb, hr, hml, hown, hts, hlocks, hK, hN, hA, hP, hD, hS⟩ := C0
  have hown : s.vm.findClass RX3 = some m.cls := hown
  have hl : lv_has ls 5 [(0, .ref (k 0))] := hl
  have hf10 := hts (.fieldLink RX3 10 "PaddyTerraces" "calendar" "LPaddyTerraces$Calendar;") (by decide +kernel)
  have hf21 := hts (.fieldLink RX3 21 "PaddyTerraces" "slope" "LPaddyTerraces$Slope;") (by decide +kernel)
  have hf105 := hts (.fieldLink RX3 105 "PaddyTerraces$Slope" "share" "[I") (by decide +kernel)
  have hf203 := hts (.fieldLink RX3 203 "PaddyTerraces$Slope" "w" "I") (by decide +kernel)
  have hc199 := hts (.constantLong RX3 199 (443)) (by decide +kernel)
  have hc201 := hts (.constantLong RX3 201 (31)) (by decide +kernel)
  have hinX2 : ∀ w ∈ wsX20, w ∈ wsX3_digest := by decide +kernel
  have hinX3 : ∀ w ∈ wsX30, w ∈ wsX3_digest := by decide +kernel
  have hS0 := hS
  have hN64 := geo_hw hG0
  obtain ⟨-, -, hh2, hh8, hw2, hw8⟩ := id hG0
  refine lv_ldc2 hx hb hown hc199 dX3_digest_0 ?_
  refine lv_lstore_n (lv' := [(1, .long 443), (0, .ref (k 0))]) hx hb dX3_digest_3 rfl hl (by decide) rfl (fun ls hl => ?_)
  refine lv_iconst (v := 0) hx hb dX3_digest_4 (by decide) ?_
  refine lv_istore_n (lv' := [(3, .int 0), (1, .long 443), (0, .ref (k 0))]) hx hb dX3_digest_5 rfl hl (by decide) rfl (fun ls hl => ?_)
  have lp6 : ∀ (n6 i6 : Nat) (u6_1 : Int64) (H : Heap) (locs : List Loc) (ls : Array Slot), i6 + n6 = 9 → u6_1 = itr (fun i d => d * 31 + (x3_count h w M S i).toInt64) i6 443 → va_P (dC, dI) vwCl (oW k b t M ++ kW cI k M ++ bW k B ++ sW cI b S ++ sW cI t T) H → va_D A (oW k b t M ++ kW cI k M ++ bW k B ++ sW cI b S ++ sW cI t T) → va_S A s.heap H locs → lv_has ls 5 [(0, .ref (k 0)), (1, .long u6_1), (3, .int (nI i6))] → W p l e ({ frames := 4, cells := 0, slots := 0, locals := 84 } : Room) s m [.ref (k 0)].toArray below meth c H locs 0 0 (zLq (dC, dI) A (oW k b t M ++ kW cI k M ++ bW k B ++ sW cI b S ++ sW cI t T) (dg_4 h w M S) below [.ref (k 0)].toArray s 0 0) (F0 m 6 ls []) := by
    intro n6
    induction n6 with
    | zero =>
      intro i6 u6_1 H locs ls hi6 eu6_1 hP hD hS hl
      have hi6 : i6 = 9 := by omega
      rw [hi6] at eu6_1
      refine lv_iload_n hx hb dX3_digest_6 rfl (lv_at hl 2 rfl) ?_
      refine lv_bipush (v := 9) hx hb dX3_digest_7 (by decide) ?_
      refine lv_icmp_ge (tgt := 31) hx hb dX3_digest_9 (by decide) (fun c_1 => ?_) (fun c_1 => ?_)
      · refine lv_iconst (v := 0) hx hb dX3_digest_31 (by decide) ?_
        refine lv_istore_n (lv' := [(3, .int 0), (0, .ref (k 0)), (1, .long u6_1)]) hx hb dX3_digest_32 rfl hl (by decide) rfl (fun ls hl => ?_)
        have lp33 : ∀ (n33 i33 : Nat) (u33_1 : Int64) (H : Heap) (locs : List Loc) (ls : Array Slot), i33 + n33 = w → u33_1 = itr (fun i d => d * 31 + (S 1 i.toNatClampNeg).toInt64) i33 u6_1 → va_P (dC, dI) vwCl (oW k b t M ++ kW cI k M ++ bW k B ++ sW cI b S ++ sW cI t T) H → va_D A (oW k b t M ++ kW cI k M ++ bW k B ++ sW cI b S ++ sW cI t T) → va_S A s.heap H locs → lv_has ls 5 [(0, .ref (k 0)), (1, .long u33_1), (3, .int (nI i33))] → W p l e ({ frames := 4, cells := 0, slots := 0, locals := 84 } : Room) s m [.ref (k 0)].toArray below meth c H locs 0 0 (zLq (dC, dI) A (oW k b t M ++ kW cI k M ++ bW k B ++ sW cI b S ++ sW cI t T) (dg_4 h w M S) below [.ref (k 0)].toArray s 0 0) (F0 m 33 ls []) := by
          intro n33
          induction n33 with
          | zero =>
            intro i33 u33_1 H locs ls hi33 eu33_1 hP hD hS hl
            have hi33 : i33 = w := by omega
            rw [hi33] at eu33_1
            refine lv_iload_n hx hb dX3_digest_33 rfl (lv_at hl 2 rfl) ?_
            refine lv_aload_n hx hb dX3_digest_34 rfl (lv_at hl 0 rfl) ?_
            refine va_get (D := (dC, dI)) (ci := 3) (v := .ref (b 0)) (C := RX3) (T := TX3) (N := 6) hx hb hts hinX3 hown hK hP 0 rfl rfl 1 (by decide) hf21 (fun _ h9 => h9) rfl dX3_digest_35 ?_
            refine va_get (D := (dC, dI)) (ci := 2) (v := .int (S 0 1)) (C := RX2) (T := TX2) (N := 18) hx hb hts hinX2 hown hK hP 6 rfl rfl 1 (by decide) hf203 (fun _ h9 => h9) rfl dX3_digest_38 ?_
            refine lv_icmp_ge (tgt := 67) hx hb dX3_digest_41 (by decide) (fun c_2 => ?_) (fun c_2 => ?_)
            · refine lv_iconst (v := 0) hx hb dX3_digest_67 (by decide) ?_
              refine lv_istore_n (lv' := [(3, .int 0), (0, .ref (k 0)), (1, .long u33_1)]) hx hb dX3_digest_68 rfl hl (by decide) rfl (fun ls hl => ?_)
              have lp69 : ∀ (n69 i69 : Nat) (u69_1 : Int64) (H : Heap) (locs : List Loc) (ls : Array Slot), i69 + n69 = h * w → u69_1 = itr (fun c d => itr (fun i d => d * 31 + (sl_field S c i).toInt64) 12 d) i69 u33_1 → va_P (dC, dI) vwCl (oW k b t M ++ kW cI k M ++ bW k B ++ sW cI b S ++ sW cI t T) H → va_D A (oW k b t M ++ kW cI k M ++ bW k B ++ sW cI b S ++ sW cI t T) → va_S A s.heap H locs → lv_has ls 5 [(0, .ref (k 0)), (1, .long u69_1), (3, .int (nI i69))] → W p l e ({ frames := 4, cells := 0, slots := 0, locals := 84 } : Room) s m [.ref (k 0)].toArray below meth c H locs 0 0 (zLq (dC, dI) A (oW k b t M ++ kW cI k M ++ bW k B ++ sW cI b S ++ sW cI t T) (dg_4 h w M S) below [.ref (k 0)].toArray s 0 0) (F0 m 69 ls []) := by
                intro n69
                induction n69 with
                | zero =>
                  intro i69 u69_1 H locs ls hi69 eu69_1 hP hD hS hl
                  have hi69 : i69 = h * w := by omega
                  rw [hi69] at eu69_1
                  refine lv_iload_n hx hb dX3_digest_69 rfl (lv_at hl 2 rfl) ?_
                  refine lv_aload_n hx hb dX3_digest_70 rfl (lv_at hl 0 rfl) ?_
                  refine va_get (D := (dC, dI)) (ci := 3) (v := .ref (b 0)) (C := RX3) (T := TX3) (N := 6) hx hb hts hinX3 hown hK hP 0 rfl rfl 1 (by decide) hf21 (fun _ h9 => h9) rfl dX3_digest_71 ?_
                  refine zI_V (pre := (oW k b t M ++ kW cI k M ++ bW k B)) (wc := sW cI b S) (post := (sW cI t T)) (w1 := sW cI b S) ⟨hx, hb, hml, hown, hts⟩ (c_X2_cells l dC dI cI b S) (cwV 0 hts gX3_digest_X2_cells rfl rfl rfl (by decide +kernel) ⟨Nat.le_of_ble_eq_true rfl, Nat.le_of_ble_eq_true rfl⟩) (by simp only [List.append_assoc, List.append_nil, List.nil_append]) hK hN (ci := 2) (q0 := 0) rfl rfl rfl hP hD hS hA rfl hl.1 rfl (Nat.le_of_ble_eq_true rfl) dX3_digest_74 ⟨Nat.le_of_ble_eq_true rfl, Nat.le_of_ble_eq_true rfl⟩ (fun H locs hP hD hS => ?_)
                  have hP : va_P (dC, dI) vwCl (oW k b t M ++ kW cI k M ++ bW k B ++ sW cI b S ++ sW cI t T) H := by simpa only [List.append_assoc, List.append_nil, List.nil_append] using hP
                  have hD : va_D A (oW k b t M ++ kW cI k M ++ bW k B ++ sW cI b S ++ sW cI t T) := by simpa only [List.append_assoc, List.append_nil, List.nil_append] using hD
                  refine lv_icmp_ge (tgt := 120) hx hb dX3_digest_77 (by decide) (fun c_3 => ?_) (fun c_3 => ?_)
                  · refine lv_iconst (v := 0) hx hb dX3_digest_120 (by decide) ?_
                    refine lv_istore_n (lv' := [(3, .int 0), (0, .ref (k 0)), (1, .long u69_1)]) hx hb dX3_digest_121 rfl hl (by decide) rfl (fun ls hl => ?_)
                    have lp122 : ∀ (n122 i122 : Nat) (u122_1 : Int64) (H : Heap) (locs : List Loc) (ls : Array Slot), i122 + n122 = 30 → u122_1 = itr (fun c d => itr (fun i d => d * 31 + (cal_num M c i).toInt64) 3 d) i122 u69_1 → va_P (dC, dI) vwCl (oW k b t M ++ kW cI k M ++ bW k B ++ sW cI b S ++ sW cI t T) H → va_D A (oW k b t M ++ kW cI k M ++ bW k B ++ sW cI b S ++ sW cI t T) → va_S A s.heap H locs → lv_has ls 5 [(0, .ref (k 0)), (1, .long u122_1), (3, .int (nI i122))] → W p l e ({ frames := 4, cells := 0, slots := 0, locals := 84 } : Room) s m [.ref (k 0)].toArray below meth c H locs 0 0 (zLq (dC, dI) A (oW k b t M ++ kW cI k M ++ bW k B ++ sW cI b S ++ sW cI t T) (dg_4 h w M S) below [.ref (k 0)].toArray s 0 0) (F0 m 122 ls []) := by
                      intro n122
                      induction n122 with
                      | zero =>
                        intro i122 u122_1 H locs ls hi122 eu122_1 hP hD hS hl
                        have hi122 : i122 = 30 := by omega
                        rw [hi122] at eu122_1
                        refine lv_iload_n hx hb dX3_digest_122 rfl (lv_at hl 2 rfl) ?_
                        refine lv_bipush (v := 30) hx hb dX3_digest_123 (by decide) ?_
                        refine lv_icmp_ge (tgt := 167) hx hb dX3_digest_125 (by decide) (fun c_4 => ?_) (fun c_4 => ?_)
                        · refine lv_lload_n hx hb dX3_digest_167 rfl (lv_at hl 1 rfl) ?_
                          exact zL_ret hx hb hr hlocks hP hD hS (by (try rw [eu122_1]); (try rw [eu69_1]); (try rw [eu33_1]); (try rw [eu6_1]); first | done | rfl | (simp only [dg_4, dg_3, dg_2, dg_1, if_pos c_1, if_pos c_2, if_pos c_3, if_pos c_4]; done)) dX3_digest_168
                        · exact absurd (show nI (30) ≤ nI i122 from nI_le (by omega) (by omega)) c_4
                      | succ n122 ih122 =>
                        intro i122 u122_1 H locs ls hi122 eu122_1 hP hD hS hl
                        refine lv_iload_n hx hb dX3_digest_122 rfl (lv_at hl 2 rfl) ?_
                        refine lv_bipush (v := 30) hx hb dX3_digest_123 (by decide) ?_
                        refine lv_icmp_ge (tgt := 167) hx hb dX3_digest_125 (by decide) (fun c_5 => ?_) (fun c_5 => ?_)
                        · exact absurd c_5 (show ¬ nI (30) ≤ nI i122 from nI_ge (by omega) (by omega))
                        · refine lv_iconst (v := 0) hx hb dX3_digest_128 (by decide) ?_
                          refine lv_istore (lv' := [(4, .int 0), (0, .ref (k 0)), (1, .long u122_1), (3, .int (nI i122))]) hx hb dX3_digest_129 hl (by decide) rfl (fun ls hl => ?_)
                          have lp131 : ∀ (n131 i131 : Nat) (u131_1 : Int64) (H : Heap) (locs : List Loc) (ls : Array Slot), i131 + n131 = 3 → u131_1 = itr (fun i d => d * 31 + (cal_num M (nI i122) i).toInt64) i131 u122_1 → va_P (dC, dI) vwCl (oW k b t M ++ kW cI k M ++ bW k B ++ sW cI b S ++ sW cI t T) H → va_D A (oW k b t M ++ kW cI k M ++ bW k B ++ sW cI b S ++ sW cI t T) → va_S A s.heap H locs → lv_has ls 5 [(0, .ref (k 0)), (1, .long u131_1), (3, .int (nI i122)), (4, .int (nI i131))] → W p l e ({ frames := 4, cells := 0, slots := 0, locals := 84 } : Room) s m [.ref (k 0)].toArray below meth c H locs 0 0 (zLq (dC, dI) A (oW k b t M ++ kW cI k M ++ bW k B ++ sW cI b S ++ sW cI t T) (dg_4 h w M S) below [.ref (k 0)].toArray s 0 0) (F0 m 131 ls []) := by
                            intro n131
                            induction n131 with
                            | zero =>
                              intro i131 u131_1 H locs ls hi131 eu131_1 hP hD hS hl
                              have hi131 : i131 = 3 := by omega
                              rw [hi131] at eu131_1
                              refine lv_iload hx hb dX3_digest_131 (lv_at hl 3 rfl) ?_
                              refine lv_iconst (v := 3) hx hb dX3_digest_133 (by decide) ?_
                              refine lv_icmp_ge (tgt := 161) hx hb dX3_digest_134 (by decide) (fun c_6 => ?_) (fun c_6 => ?_)
                              · refine lv_iinc (v := nI (i122 + 1)) (lv' := [(3, .int (nI (i122 + 1))), (0, .ref (k 0)), (1, .long u131_1), (4, .int (nI i131))]) hx hb dX3_digest_161 hl (k := 2) rfl (show nI i122 + Int32.ofInt 1 = nI (i122 + 1) from nI_1 i122) (by decide) rfl (fun ls hl => ?_)
                                refine lv_goto (tgt := 122) hx hb dX3_digest_164 (by decide) ?_
                                exact ih122 (i122 + 1) u131_1 _ _ ls (by omega) (by (try rw [eu131_1]); (try rw [eu122_1]); rfl) hP hD hS (lv_sub hl [1, 2, 0] rfl)
                              · exact absurd (show nI (3) ≤ nI i131 from nI_le (by omega) (by omega)) c_6
                            | succ n131 ih131 =>
                              intro i131 u131_1 H locs ls hi131 eu131_1 hP hD hS hl
                              refine lv_iload hx hb dX3_digest_131 (lv_at hl 3 rfl) ?_
                              refine lv_iconst (v := 3) hx hb dX3_digest_133 (by decide) ?_
                              refine lv_icmp_ge (tgt := 161) hx hb dX3_digest_134 (by decide) (fun c_7 => ?_) (fun c_7 => ?_)
                              · exact absurd c_7 (show ¬ nI (3) ≤ nI i131 from nI_ge (by omega) (by omega))
                              · refine lv_lload_n hx hb dX3_digest_137 rfl (lv_at hl 1 rfl) ?_
                                refine lv_ldc2 hx hb hown hc201 dX3_digest_138 ?_
                                refine lv_lmul hx hb dX3_digest_141 ?_
                                refine lv_aload_n hx hb dX3_digest_142 rfl (lv_at hl 0 rfl) ?_
                                refine va_get (D := (dC, dI)) (ci := 3) (v := .ref (k 1)) (C := RX3) (T := TX3) (N := 6) hx hb hts hinX3 hown hK hP 0 rfl rfl 0 (by decide) hf10 (fun _ h9 => h9) rfl dX3_digest_143 ?_
                                refine lv_iload_n hx hb dX3_digest_146 rfl (lv_at hl 2 rfl) ?_
                                refine lv_iload hx hb dX3_digest_147 (lv_at hl 3 rfl) ?_
                                refine zI_V (pre := (oW k b t M)) (wc := kW cI k M) (post := (bW k B ++ sW cI b S ++ sW cI t T)) (w1 := kW cI k M) ⟨hx, hb, hml, hown, hts⟩ (c_X0_dayNumber l dC dI cI k M (nI i122) (nI i131) (vp_in_nI (by omega) (by decide))) (cwV 2 hts gX3_digest_X0_dayNumber rfl rfl rfl (by decide +kernel) ⟨Nat.le_of_ble_eq_true rfl, Nat.le_of_ble_eq_true rfl⟩) (by simp only [List.append_assoc, List.append_nil, List.nil_append]) hK hN (ci := 0) (q0 := 0) rfl rfl rfl hP hD hS hA rfl hl.1 rfl (Nat.le_of_ble_eq_true rfl) dX3_digest_149 ⟨Nat.le_of_ble_eq_true rfl, Nat.le_of_ble_eq_true rfl⟩ (fun H locs hP hD hS => ?_)
                                have hP : va_P (dC, dI) vwCl (oW k b t M ++ kW cI k M ++ bW k B ++ sW cI b S ++ sW cI t T) H := by simpa only [List.append_assoc, List.append_nil, List.nil_append] using hP
                                have hD : va_D A (oW k b t M ++ kW cI k M ++ bW k B ++ sW cI b S ++ sW cI t T) := by simpa only [List.append_assoc, List.append_nil, List.nil_append] using hD
                                refine lv_i2l (v := (cal_num M (nI i122) (nI i131)).toInt64) hx hb dX3_digest_152 rfl ?_
                                refine lv_ladd hx hb dX3_digest_153 ?_
                                refine lv_lstore_n (lv' := [(1, .long ((u131_1 * 31) + ((cal_num M (nI i122) (nI i131)).toInt64))), (0, .ref (k 0)), (3, .int (nI i122)), (4, .int (nI i131))]) hx hb dX3_digest_154 rfl hl (by decide) rfl (fun ls hl => ?_)
                                refine lv_iinc (v := nI (i131 + 1)) (lv' := [(4, .int (nI (i131 + 1))), (1, .long ((u131_1 * 31) + ((cal_num M (nI i122) (nI i131)).toInt64))), (0, .ref (k 0)), (3, .int (nI i122))]) hx hb dX3_digest_155 hl (k := 3) rfl (show nI i131 + Int32.ofInt 1 = nI (i131 + 1) from nI_1 i131) (by decide) rfl (fun ls hl => ?_)
                                refine lv_goto (tgt := 131) hx hb dX3_digest_158 (by decide) ?_
                                exact ih131 (i131 + 1) ((u131_1 * 31) + ((cal_num M (nI i122) (nI i131)).toInt64)) _ _ ls (by omega) (by (try rw [eu131_1]); rfl) hP hD hS (lv_sub hl [2, 1, 3, 0] rfl)
                          exact lp131 (3) 0 u122_1 _ _ ls (by omega) rfl hP hD hS (lv_sub hl [1, 2, 3, 0] rfl)
                    exact lp122 (30) 0 u69_1 _ _ ls (by omega) rfl hP hD hS (lv_sub hl [1, 2, 0] rfl)
                  · exact absurd (by rw [show _ = nI (h * w) from (geo_cells hG0)]; exact nI_le (by omega) (by omega)) c_3
                | succ n69 ih69 =>
                  intro i69 u69_1 H locs ls hi69 eu69_1 hP hD hS hl
                  refine lv_iload_n hx hb dX3_digest_69 rfl (lv_at hl 2 rfl) ?_
                  refine lv_aload_n hx hb dX3_digest_70 rfl (lv_at hl 0 rfl) ?_
                  refine va_get (D := (dC, dI)) (ci := 3) (v := .ref (b 0)) (C := RX3) (T := TX3) (N := 6) hx hb hts hinX3 hown hK hP 0 rfl rfl 1 (by decide) hf21 (fun _ h9 => h9) rfl dX3_digest_71 ?_
                  refine zI_V (pre := (oW k b t M ++ kW cI k M ++ bW k B)) (wc := sW cI b S) (post := (sW cI t T)) (w1 := sW cI b S) ⟨hx, hb, hml, hown, hts⟩ (c_X2_cells l dC dI cI b S) (cwV 0 hts gX3_digest_X2_cells rfl rfl rfl (by decide +kernel) ⟨Nat.le_of_ble_eq_true rfl, Nat.le_of_ble_eq_true rfl⟩) (by simp only [List.append_assoc, List.append_nil, List.nil_append]) hK hN (ci := 2) (q0 := 0) rfl rfl rfl hP hD hS hA rfl hl.1 rfl (Nat.le_of_ble_eq_true rfl) dX3_digest_74 ⟨Nat.le_of_ble_eq_true rfl, Nat.le_of_ble_eq_true rfl⟩ (fun H locs hP hD hS => ?_)
                  have hP : va_P (dC, dI) vwCl (oW k b t M ++ kW cI k M ++ bW k B ++ sW cI b S ++ sW cI t T) H := by simpa only [List.append_assoc, List.append_nil, List.nil_append] using hP
                  have hD : va_D A (oW k b t M ++ kW cI k M ++ bW k B ++ sW cI b S ++ sW cI t T) := by simpa only [List.append_assoc, List.append_nil, List.nil_append] using hD
                  refine lv_icmp_ge (tgt := 120) hx hb dX3_digest_77 (by decide) (fun c_8 => ?_) (fun c_8 => ?_)
                  · exact absurd c_8 (by rw [show _ = nI (h * w) from (geo_cells hG0)]; exact nI_ge (by omega) (by omega))
                  · refine lv_iconst (v := 0) hx hb dX3_digest_80 (by decide) ?_
                    refine lv_istore (lv' := [(4, .int 0), (0, .ref (k 0)), (1, .long u69_1), (3, .int (nI i69))]) hx hb dX3_digest_81 hl (by decide) rfl (fun ls hl => ?_)
                    have lp83 : ∀ (n83 i83 : Nat) (u83_1 : Int64) (H : Heap) (locs : List Loc) (ls : Array Slot), i83 + n83 = 12 → u83_1 = itr (fun i d => d * 31 + (sl_field S (nI i69) i).toInt64) i83 u69_1 → va_P (dC, dI) vwCl (oW k b t M ++ kW cI k M ++ bW k B ++ sW cI b S ++ sW cI t T) H → va_D A (oW k b t M ++ kW cI k M ++ bW k B ++ sW cI b S ++ sW cI t T) → va_S A s.heap H locs → lv_has ls 5 [(0, .ref (k 0)), (1, .long u83_1), (3, .int (nI i69)), (4, .int (nI i83))] → W p l e ({ frames := 4, cells := 0, slots := 0, locals := 84 } : Room) s m [.ref (k 0)].toArray below meth c H locs 0 0 (zLq (dC, dI) A (oW k b t M ++ kW cI k M ++ bW k B ++ sW cI b S ++ sW cI t T) (dg_4 h w M S) below [.ref (k 0)].toArray s 0 0) (F0 m 83 ls []) := by
                      intro n83
                      induction n83 with
                      | zero =>
                        intro i83 u83_1 H locs ls hi83 eu83_1 hP hD hS hl
                        have hi83 : i83 = 12 := by omega
                        rw [hi83] at eu83_1
                        refine lv_iload hx hb dX3_digest_83 (lv_at hl 3 rfl) ?_
                        refine lv_bipush (v := 12) hx hb dX3_digest_85 (by decide) ?_
                        refine lv_icmp_ge (tgt := 114) hx hb dX3_digest_87 (by decide) (fun c_9 => ?_) (fun c_9 => ?_)
                        · refine lv_iinc (v := nI (i69 + 1)) (lv' := [(3, .int (nI (i69 + 1))), (0, .ref (k 0)), (1, .long u83_1), (4, .int (nI i83))]) hx hb dX3_digest_114 hl (k := 2) rfl (show nI i69 + Int32.ofInt 1 = nI (i69 + 1) from nI_1 i69) (by decide) rfl (fun ls hl => ?_)
                          refine lv_goto (tgt := 69) hx hb dX3_digest_117 (by decide) ?_
                          exact ih69 (i69 + 1) u83_1 _ _ ls (by omega) (by (try rw [eu83_1]); (try rw [eu69_1]); rfl) hP hD hS (lv_sub hl [1, 2, 0] rfl)
                        · exact absurd (show nI (12) ≤ nI i83 from nI_le (by omega) (by omega)) c_9
                      | succ n83 ih83 =>
                        intro i83 u83_1 H locs ls hi83 eu83_1 hP hD hS hl
                        refine lv_iload hx hb dX3_digest_83 (lv_at hl 3 rfl) ?_
                        refine lv_bipush (v := 12) hx hb dX3_digest_85 (by decide) ?_
                        refine lv_icmp_ge (tgt := 114) hx hb dX3_digest_87 (by decide) (fun c_10 => ?_) (fun c_10 => ?_)
                        · exact absurd c_10 (show ¬ nI (12) ≤ nI i83 from nI_ge (by omega) (by omega))
                        · refine lv_lload_n hx hb dX3_digest_90 rfl (lv_at hl 1 rfl) ?_
                          refine lv_ldc2 hx hb hown hc201 dX3_digest_91 ?_
                          refine lv_lmul hx hb dX3_digest_94 ?_
                          refine lv_aload_n hx hb dX3_digest_95 rfl (lv_at hl 0 rfl) ?_
                          refine va_get (D := (dC, dI)) (ci := 3) (v := .ref (b 0)) (C := RX3) (T := TX3) (N := 6) hx hb hts hinX3 hown hK hP 0 rfl rfl 1 (by decide) hf21 (fun _ h9 => h9) rfl dX3_digest_96 ?_
                          refine lv_iload_n hx hb dX3_digest_99 rfl (lv_at hl 2 rfl) ?_
                          refine lv_iload hx hb dX3_digest_100 (lv_at hl 3 rfl) ?_
                          refine zI_V (pre := (oW k b t M ++ kW cI k M ++ bW k B)) (wc := sW cI b S) (post := (sW cI t T)) (w1 := sW cI b S) ⟨hx, hb, hml, hown, hts⟩ (c_X2_fieldNumber l dC dI cI b S (nI i69) (nI i83) (vp_in_nI (by omega) (by decide))) (cwV 2 hts gX3_digest_X2_fieldNumber rfl rfl rfl (by decide +kernel) ⟨Nat.le_of_ble_eq_true rfl, Nat.le_of_ble_eq_true rfl⟩) (by simp only [List.append_assoc, List.append_nil, List.nil_append]) hK hN (ci := 2) (q0 := 0) rfl rfl rfl hP hD hS hA rfl hl.1 rfl (Nat.le_of_ble_eq_true rfl) dX3_digest_102 ⟨Nat.le_of_ble_eq_true rfl, Nat.le_of_ble_eq_true rfl⟩ (fun H locs hP hD hS => ?_)
                          have hP : va_P (dC, dI) vwCl (oW k b t M ++ kW cI k M ++ bW k B ++ sW cI b S ++ sW cI t T) H := by simpa only [List.append_assoc, List.append_nil, List.nil_append] using hP
                          have hD : va_D A (oW k b t M ++ kW cI k M ++ bW k B ++ sW cI b S ++ sW cI t T) := by simpa only [List.append_assoc, List.append_nil, List.nil_append] using hD
                          refine lv_i2l (v := (sl_field S (nI i69) (nI i83)).toInt64) hx hb dX3_digest_105 rfl ?_
                          refine lv_ladd hx hb dX3_digest_106 ?_
                          refine lv_lstore_n (lv' := [(1, .long ((u83_1 * 31) + ((sl_field S (nI i69) (nI i83)).toInt64))), (0, .ref (k 0)), (3, .int (nI i69)), (4, .int (nI i83))]) hx hb dX3_digest_107 rfl hl (by decide) rfl (fun ls hl => ?_)
                          refine lv_iinc (v := nI (i83 + 1)) (lv' := [(4, .int (nI (i83 + 1))), (1, .long ((u83_1 * 31) + ((sl_field S (nI i69) (nI i83)).toInt64))), (0, .ref (k 0)), (3, .int (nI i69))]) hx hb dX3_digest_108 hl (k := 3) rfl (show nI i83 + Int32.ofInt 1 = nI (i83 + 1) from nI_1 i83) (by decide) rfl (fun ls hl => ?_)
                          refine lv_goto (tgt := 83) hx hb dX3_digest_111 (by decide) ?_
                          exact ih83 (i83 + 1) ((u83_1 * 31) + ((sl_field S (nI i69) (nI i83)).toInt64)) _ _ ls (by omega) (by (try rw [eu83_1]); rfl) hP hD hS (lv_sub hl [2, 1, 3, 0] rfl)
                    exact lp83 (12) 0 u69_1 _ _ ls (by omega) rfl hP hD hS (lv_sub hl [1, 2, 3, 0] rfl)
              exact lp69 (h * w) 0 u33_1 _ _ ls (by omega) rfl hP hD hS (lv_sub hl [1, 2, 0] rfl)
            · exact absurd (by rw [show _ = nI (w) from hG0.2.1]; exact nI_le (by omega) (by omega)) c_2
          | succ n33 ih33 =>
            intro i33 u33_1 H locs ls hi33 eu33_1 hP hD hS hl
            refine lv_iload_n hx hb dX3_digest_33 rfl (lv_at hl 2 rfl) ?_
            refine lv_aload_n hx hb dX3_digest_34 rfl (lv_at hl 0 rfl) ?_
            refine va_get (D := (dC, dI)) (ci := 3) (v := .ref (b 0)) (C := RX3) (T := TX3) (N := 6) hx hb hts hinX3 hown hK hP 0 rfl rfl 1 (by decide) hf21 (fun _ h9 => h9) rfl dX3_digest_35 ?_
            refine va_get (D := (dC, dI)) (ci := 2) (v := .int (S 0 1)) (C := RX2) (T := TX2) (N := 18) hx hb hts hinX2 hown hK hP 6 rfl rfl 1 (by decide) hf203 (fun _ h9 => h9) rfl dX3_digest_38 ?_
            refine lv_icmp_ge (tgt := 67) hx hb dX3_digest_41 (by decide) (fun c_11 => ?_) (fun c_11 => ?_)
            · exact absurd c_11 (by rw [show _ = nI (w) from hG0.2.1]; exact nI_ge (by omega) (by omega))
            · refine lv_lload_n hx hb dX3_digest_44 rfl (lv_at hl 1 rfl) ?_
              refine lv_ldc2 hx hb hown hc201 dX3_digest_45 ?_
              refine lv_lmul hx hb dX3_digest_48 ?_
              refine lv_aload_n hx hb dX3_digest_49 rfl (lv_at hl 0 rfl) ?_
              refine va_get (D := (dC, dI)) (ci := 3) (v := .ref (b 0)) (C := RX3) (T := TX3) (N := 6) hx hb hts hinX3 hown hK hP 0 rfl rfl 1 (by decide) hf21 (fun _ h9 => h9) rfl dX3_digest_50 ?_
              refine va_get (D := (dC, dI)) (ci := 2) (v := .ref (b 1)) (C := RX2) (T := TX2) (N := 18) hx hb hts hinX2 hown hK hP 6 rfl rfl 5 (by decide) hf105 (fun _ h9 => h9) rfl dX3_digest_53 ?_
              refine lv_iload_n hx hb dX3_digest_56 rfl (lv_at hl 2 rfl) ?_
              refine va_iald (cA := cI) (n := 8) (f := S 1) hx hb hK hP 7 0 rfl rfl (vp_in_nI (by omega) (by decide)) dX3_digest_57 ?_
              refine lv_i2l (v := (S 1 (nI i33).toNatClampNeg).toInt64) hx hb dX3_digest_58 rfl ?_
              refine lv_ladd hx hb dX3_digest_59 ?_
              refine lv_lstore_n (lv' := [(1, .long ((u33_1 * 31) + ((S 1 (nI i33).toNatClampNeg).toInt64))), (0, .ref (k 0)), (3, .int (nI i33))]) hx hb dX3_digest_60 rfl hl (by decide) rfl (fun ls hl => ?_)
              refine lv_iinc (v := nI (i33 + 1)) (lv' := [(3, .int (nI (i33 + 1))), (1, .long ((u33_1 * 31) + ((S 1 (nI i33).toNatClampNeg).toInt64))), (0, .ref (k 0))]) hx hb dX3_digest_61 hl (k := 2) rfl (show nI i33 + Int32.ofInt 1 = nI (i33 + 1) from nI_1 i33) (by decide) rfl (fun ls hl => ?_)
              refine lv_goto (tgt := 33) hx hb dX3_digest_64 (by decide) ?_
              exact ih33 (i33 + 1) ((u33_1 * 31) + ((S 1 (nI i33).toNatClampNeg).toInt64)) _ _ ls (by omega) (by (try rw [eu33_1]); rfl) hP hD hS (lv_sub hl [2, 1, 0] rfl)
        exact lp33 (w) 0 u6_1 _ _ ls (by omega) rfl hP hD hS (lv_sub hl [1, 2, 0] rfl)
      · exact absurd (show nI (9) ≤ nI i6 from nI_le (by omega) (by omega)) c_1
    | succ n6 ih6 =>
      intro i6 u6_1 H locs ls hi6 eu6_1 hP hD hS hl
      refine lv_iload_n hx hb dX3_digest_6 rfl (lv_at hl 2 rfl) ?_
      refine lv_bipush (v := 9) hx hb dX3_digest_7 (by decide) ?_
      refine lv_icmp_ge (tgt := 31) hx hb dX3_digest_9 (by decide) (fun c_12 => ?_) (fun c_12 => ?_)
      · exact absurd c_12 (show ¬ nI (9) ≤ nI i6 from nI_ge (by omega) (by omega))
      · refine lv_lload_n hx hb dX3_digest_12 rfl (lv_at hl 1 rfl) ?_
        refine lv_ldc2 hx hb hown hc201 dX3_digest_13 ?_
        refine lv_lmul hx hb dX3_digest_16 ?_
        refine lv_aload_n hx hb dX3_digest_17 rfl (lv_at hl 0 rfl) ?_
        refine lv_iload_n hx hb dX3_digest_18 rfl (lv_at hl 2 rfl) ?_
        refine zI_V (pre := ([] : va_W)) (wc := oW k b t M ++ kW cI k M ++ bW k B ++ sW cI b S ++ sW cI t T) (post := ([] : va_W)) (w1 := oW k b t M ++ kW cI k M ++ bW k B ++ sW cI b S ++ sW cI t T) ⟨hx, hb, hml, hown, hts⟩ (c_X3_countNumber l dC dI cI k b t h w M B S T (nI i6) hG0) (cwV 1 hts gX3_digest_X3_countNumber rfl rfl rfl (by decide +kernel) ⟨Nat.le_of_ble_eq_true rfl, Nat.le_of_ble_eq_true rfl⟩) (by simp only [List.append_assoc, List.append_nil, List.nil_append]) hK hN (ci := 3) (q0 := 0) rfl rfl rfl hP hD hS hA rfl hl.1 rfl (Nat.le_of_ble_eq_true rfl) dX3_digest_19 ⟨Nat.le_of_ble_eq_true rfl, Nat.le_of_ble_eq_true rfl⟩ (fun H locs hP hD hS => ?_)
        have hP : va_P (dC, dI) vwCl (oW k b t M ++ kW cI k M ++ bW k B ++ sW cI b S ++ sW cI t T) H := by simpa only [List.append_assoc, List.append_nil, List.nil_append] using hP
        have hD : va_D A (oW k b t M ++ kW cI k M ++ bW k B ++ sW cI b S ++ sW cI t T) := by simpa only [List.append_assoc, List.append_nil, List.nil_append] using hD
        refine lv_i2l (v := (x3_count h w M S (nI i6)).toInt64) hx hb dX3_digest_22 rfl ?_
        refine lv_ladd hx hb dX3_digest_23 ?_
        refine lv_lstore_n (lv' := [(1, .long ((u6_1 * 31) + ((x3_count h w M S (nI i6)).toInt64))), (0, .ref (k 0)), (3, .int (nI i6))]) hx hb dX3_digest_24 rfl hl (by decide) rfl (fun ls hl => ?_)
        refine lv_iinc (v := nI (i6 + 1)) (lv' := [(3, .int (nI (i6 + 1))), (1, .long ((u6_1 * 31) + ((x3_count h w M S (nI i6)).toInt64))), (0, .ref (k 0))]) hx hb dX3_digest_25 hl (k := 2) rfl (show nI i6 + Int32.ofInt 1 = nI (i6 + 1) from nI_1 i6) (by decide) rfl (fun ls hl => ?_)
        refine lv_goto (tgt := 6) hx hb dX3_digest_28 (by decide) ?_
        exact ih6 (i6 + 1) ((u6_1 * 31) + ((x3_count h w M S (nI i6)).toInt64)) _ _ ls (by omega) (by (try rw [eu6_1]); rfl) hP hD hS (lv_sub hl [2, 1, 0] rfl)
  exact lp6 (9) 0 443 _ _ ls (by omega) rfl hP hD hS (lv_sub hl [2, 1, 0] rfl)

set_option maxHeartbeats 4000000 in
set_option maxRecDepth 100000 in
theorem c_X4_digest (l : Launch) (dC : Nat → ClassId) (dI : Nat → Nat → Nat) (cI : ClassId) (d : Nat → Nat) (h w : Nat) (O : sS) (hG0 : gem h w O) : zL l yX4_digest wsX4_digest { frames := 3, cells := 0, slots := 0, locals := 64 } (dC, dI) cI [.ref (d 0)] (mW cI d O) (mW cI d (s_put O 0 0 0)) (md_4 h w (s_put O 0 0 0)) := by
  refine zL_of (cc := cX4_digest) (maxL := 4) (ret := (some .long)) (by decide) rfl (Nat.le_of_ble_eq_true rfl) ?_
  intro p e s m below meth c A ls C0 hl
  obtain ⟨hx, hb, hr, hml, hown, hts, hlocks, hK, hN, hA, hP, hD, hS⟩ := C0
  have hown : s.vm.findClass RX4 = some m.cls := hown
  have hl : lv_has ls 4 [(0, .ref (d 0))] := hl
  have hf9 := hts (.fieldLink RX4 9 "PaddyTerracesModel" "n" "[I") (by decide +kernel)
  have hf13 := hts (.fieldLink RX4 13 "PaddyTerracesModel" "shares" "[I") (by decide +kernel)
  have hf16 := hts (.fieldLink RX4 16 "PaddyTerracesModel" "fields" "[I") (by decide +kernel)
  have hf19 := hts (.fieldLink RX4 19 "PaddyTerracesModel" "weather" "[I") (by decide +kernel)
  have hf38 := hts (.fieldLink RX4 38 "PaddyTerracesModel" "thrown" "I") (by decide +kernel)
  have hc108 := hts (.constantLong RX4 108 (443)) (by decide +kernel)
  have hc110 := hts (.constantLong RX4 110 (31)) (by decide +kernel)
  have hinX4 : ∀ w ∈ wsX40, w ∈ wsX4_digest := by decide +kernel
  have hS0 := hS
  have hN64 := gem_hw hG0
  have hW9 := gem_w hG0
  obtain ⟨-, -, hh2, hh8, hw2, hw8⟩ := id hG0
  refine lv_aload_n hx hb dX4_digest_0 rfl (lv_at hl 0 rfl) ?_
  refine lv_iconst (v := 0) hx hb dX4_digest_1 (by decide) ?_
  refine va_put (D := (dC, dI)) (ci := 4) (v := .int 0) (ty := .int) (C := RX4) (T := TX4) (N := 7) hx hb hts hinX4 tyX4 tyX4_ok nmX4 hown hK hP hD hS 0 rfl rfl 0 (by decide) hf38 (fun _ h9 => h9) rfl (by decide +kernel) rfl rfl (Nat.le_of_ble_eq_true rfl) dX4_digest_2 (fun H locs hP hD hS => ?_)
  have hP : va_P (dC, dI) vwCl (mW cI d (s_put O 0 0 0)) H := hP
  have hD : va_D A (mW cI d (s_put O 0 0 0)) := hD
  have hGz : gem h w (s_put O 0 0 0) := gem_put hG0 (Or.inl (by decide)) _
  refine lv_ldc2 hx hb hown hc108 dX4_digest_5 ?_
  refine lv_lstore_n (lv' := [(1, .long 443), (0, .ref (d 0))]) hx hb dX4_digest_8 rfl hl (by decide) rfl (fun ls hl => ?_)
  refine lv_iconst (v := 0) hx hb dX4_digest_9 (by decide) ?_
  refine lv_istore_n (lv' := [(3, .int 0), (1, .long 443), (0, .ref (d 0))]) hx hb dX4_digest_10 rfl hl (by decide) rfl (fun ls hl => ?_)
  have lp11 : ∀ (n11 i11 : Nat) (u11_1 : Int64) (H : Heap) (locs : List Loc) (ls : Array Slot), i11 + n11 = 9 → u11_1 = itr (fun i d => d * 31 + (mi_count h w (s_put O 0 0 0) i).toInt64) i11 443 → va_P (dC, dI) vwCl (mW cI d (s_put O 0 0 0)) H → va_D A (mW cI d (s_put O 0 0 0)) → va_S A s.heap H locs → lv_has ls 4 [(0, .ref (d 0)), (1, .long u11_1), (3, .int (nI i11))] → W p l e ({ frames := 3, cells := 0, slots := 0, locals := 64 } : Room) s m [.ref (d 0)].toArray below meth c H locs 0 0 (zLq (dC, dI) A (mW cI d (s_put O 0 0 0)) (md_4 h w (s_put O 0 0 0)) below [.ref (d 0)].toArray s 0 0) (F0 m 11 ls []) := by
    intro n11
    induction n11 with
    | zero =>
      intro i11 u11_1 H locs ls hi11 eu11_1 hP hD hS hl
      have hi11 : i11 = 9 := by omega
      rw [hi11] at eu11_1
      refine lv_iload_n hx hb dX4_digest_11 rfl (lv_at hl 2 rfl) ?_
      refine lv_bipush (v := 9) hx hb dX4_digest_12 (by decide) ?_
      refine lv_icmp_ge (tgt := 36) hx hb dX4_digest_14 (by decide) (fun c_1 => ?_) (fun c_1 => ?_)
      · refine lv_iconst (v := 0) hx hb dX4_digest_36 (by decide) ?_
        refine lv_istore_n (lv' := [(3, .int 0), (0, .ref (d 0)), (1, .long u11_1)]) hx hb dX4_digest_37 rfl hl (by decide) rfl (fun ls hl => ?_)
        have lp38 : ∀ (n38 i38 : Nat) (u38_1 : Int64) (H : Heap) (locs : List Loc) (ls : Array Slot), i38 + n38 = w → u38_1 = itr (fun i d => d * 31 + ((s_put O 0 0 0) 2 i.toNatClampNeg).toInt64) i38 u11_1 → va_P (dC, dI) vwCl (mW cI d (s_put O 0 0 0)) H → va_D A (mW cI d (s_put O 0 0 0)) → va_S A s.heap H locs → lv_has ls 4 [(0, .ref (d 0)), (1, .long u38_1), (3, .int (nI i38))] → W p l e ({ frames := 3, cells := 0, slots := 0, locals := 64 } : Room) s m [.ref (d 0)].toArray below meth c H locs 0 0 (zLq (dC, dI) A (mW cI d (s_put O 0 0 0)) (md_4 h w (s_put O 0 0 0)) below [.ref (d 0)].toArray s 0 0) (F0 m 38 ls []) := by
          intro n38
          induction n38 with
          | zero =>
            intro i38 u38_1 H locs ls hi38 eu38_1 hP hD hS hl
            have hi38 : i38 = w := by omega
            rw [hi38] at eu38_1
            refine lv_iload_n hx hb dX4_digest_38 rfl (lv_at hl 2 rfl) ?_
            refine lv_aload_n hx hb dX4_digest_39 rfl (lv_at hl 0 rfl) ?_
            refine va_get (D := (dC, dI)) (ci := 4) (v := .ref (d 1)) (C := RX4) (T := TX4) (N := 7) hx hb hts hinX4 hown hK hP 0 rfl rfl 1 (by decide) hf9 (fun _ h9 => h9) rfl dX4_digest_40 ?_
            refine lv_iconst (v := 1) hx hb dX4_digest_43 (by decide) ?_
            refine va_ialdk 1 (cA := cI) (n := 7) (f := (s_put O 0 0 0) 1) hx hb hK hP 1 0 rfl rfl rfl (by decide) (by decide) dX4_digest_44 ?_
            refine lv_icmp_ge (tgt := 68) hx hb dX4_digest_45 (by decide) (fun c_2 => ?_) (fun c_2 => ?_)
            · refine lv_iconst (v := 0) hx hb dX4_digest_68 (by decide) ?_
              refine lv_istore_n (lv' := [(3, .int 0), (0, .ref (d 0)), (1, .long u38_1)]) hx hb dX4_digest_69 rfl hl (by decide) rfl (fun ls hl => ?_)
              have lp70 : ∀ (n70 i70 : Nat) (u70_1 : Int64) (H : Heap) (locs : List Loc) (ls : Array Slot), i70 + n70 = 12 * (h * w) → u70_1 = itr (fun i d => d * 31 + ((s_put O 0 0 0) 3 i.toNatClampNeg).toInt64) i70 u38_1 → va_P (dC, dI) vwCl (mW cI d (s_put O 0 0 0)) H → va_D A (mW cI d (s_put O 0 0 0)) → va_S A s.heap H locs → lv_has ls 4 [(0, .ref (d 0)), (1, .long u70_1), (3, .int (nI i70))] → W p l e ({ frames := 3, cells := 0, slots := 0, locals := 64 } : Room) s m [.ref (d 0)].toArray below meth c H locs 0 0 (zLq (dC, dI) A (mW cI d (s_put O 0 0 0)) (md_4 h w (s_put O 0 0 0)) below [.ref (d 0)].toArray s 0 0) (F0 m 70 ls []) := by
                intro n70
                induction n70 with
                | zero =>
                  intro i70 u70_1 H locs ls hi70 eu70_1 hP hD hS hl
                  have hi70 : i70 = 12 * (h * w) := by omega
                  rw [hi70] at eu70_1
                  refine lv_iload_n hx hb dX4_digest_70 rfl (lv_at hl 2 rfl) ?_
                  refine lv_bipush (v := 12) hx hb dX4_digest_71 (by decide) ?_
                  refine lv_aload_n hx hb dX4_digest_73 rfl (lv_at hl 0 rfl) ?_
                  refine zI_V (pre := ([] : va_W)) (wc := mW cI d (s_put O 0 0 0)) (post := ([] : va_W)) (w1 := mW cI d (s_put O 0 0 0)) ⟨hx, hb, hml, hown, hts⟩ (c_X4_many l dC dI cI d (s_put O 0 0 0)) (cwV 0 hts gX4_digest_X4_many rfl rfl rfl (by decide +kernel) ⟨Nat.le_of_ble_eq_true rfl, Nat.le_of_ble_eq_true rfl⟩) (by simp only [List.append_assoc, List.append_nil, List.nil_append]) hK hN (ci := 4) (q0 := 0) rfl rfl rfl hP hD hS hA rfl hl.1 rfl (Nat.le_of_ble_eq_true rfl) dX4_digest_74 ⟨Nat.le_of_ble_eq_true rfl, Nat.le_of_ble_eq_true rfl⟩ (fun H locs hP hD hS => ?_)
                  have hP : va_P (dC, dI) vwCl (mW cI d (s_put O 0 0 0)) H := by simpa only [List.append_assoc, List.append_nil, List.nil_append] using hP
                  have hD : va_D A (mW cI d (s_put O 0 0 0)) := by simpa only [List.append_assoc, List.append_nil, List.nil_append] using hD
                  refine lv_imul hx hb dX4_digest_77 ?_
                  refine lv_icmp_ge (tgt := 101) hx hb dX4_digest_78 (by decide) (fun c_3 => ?_) (fun c_3 => ?_)
                  · refine lv_iconst (v := 0) hx hb dX4_digest_101 (by decide) ?_
                    refine lv_istore_n (lv' := [(3, .int 0), (0, .ref (d 0)), (1, .long u70_1)]) hx hb dX4_digest_102 rfl hl (by decide) rfl (fun ls hl => ?_)
                    have lp103 : ∀ (n103 i103 : Nat) (u103_1 : Int64) (H : Heap) (locs : List Loc) (ls : Array Slot), i103 + n103 = 90 → u103_1 = itr (fun i d => d * 31 + ((s_put O 0 0 0) 4 i.toNatClampNeg).toInt64) i103 u70_1 → va_P (dC, dI) vwCl (mW cI d (s_put O 0 0 0)) H → va_D A (mW cI d (s_put O 0 0 0)) → va_S A s.heap H locs → lv_has ls 4 [(0, .ref (d 0)), (1, .long u103_1), (3, .int (nI i103))] → W p l e ({ frames := 3, cells := 0, slots := 0, locals := 64 } : Room) s m [.ref (d 0)].toArray below meth c H locs 0 0 (zLq (dC, dI) A (mW cI d (s_put O 0 0 0)) (md_4 h w (s_put O 0 0 0)) below [.ref (d 0)].toArray s 0 0) (F0 m 103 ls []) := by
                      intro n103
                      induction n103 with
                      | zero =>
                        intro i103 u103_1 H locs ls hi103 eu103_1 hP hD hS hl
                        have hi103 : i103 = 90 := by omega
                        rw [hi103] at eu103_1
                        refine lv_iload_n hx hb dX4_digest_103 rfl (lv_at hl 2 rfl) ?_
                        refine lv_bipush (v := 90) hx hb dX4_digest_104 (by decide) ?_
                        refine lv_icmp_ge (tgt := 129) hx hb dX4_digest_106 (by decide) (fun c_4 => ?_) (fun c_4 => ?_)
                        · refine lv_lload_n hx hb dX4_digest_129 rfl (lv_at hl 1 rfl) ?_
                          exact zL_ret hx hb hr hlocks hP hD hS (by (try rw [eu103_1]); (try rw [eu70_1]); (try rw [eu38_1]); (try rw [eu11_1]); first | done | rfl | (simp only [md_4, md_3, md_2, md_1, if_pos c_1, if_pos c_2, if_pos c_3, if_pos c_4]; done)) dX4_digest_130
                        · exact absurd (show nI (90) ≤ nI i103 from nI_le (by omega) (by omega)) c_4
                      | succ n103 ih103 =>
                        intro i103 u103_1 H locs ls hi103 eu103_1 hP hD hS hl
                        refine lv_iload_n hx hb dX4_digest_103 rfl (lv_at hl 2 rfl) ?_
                        refine lv_bipush (v := 90) hx hb dX4_digest_104 (by decide) ?_
                        refine lv_icmp_ge (tgt := 129) hx hb dX4_digest_106 (by decide) (fun c_5 => ?_) (fun c_5 => ?_)
                        · exact absurd c_5 (show ¬ nI (90) ≤ nI i103 from nI_ge (by omega) (by omega))
                        · refine lv_lload_n hx hb dX4_digest_109 rfl (lv_at hl 1 rfl) ?_
                          refine lv_ldc2 hx hb hown hc110 dX4_digest_110 ?_
                          refine lv_lmul hx hb dX4_digest_113 ?_
                          refine lv_aload_n hx hb dX4_digest_114 rfl (lv_at hl 0 rfl) ?_
                          refine va_get (D := (dC, dI)) (ci := 4) (v := .ref (d 4)) (C := RX4) (T := TX4) (N := 7) hx hb hts hinX4 hown hK hP 0 rfl rfl 4 (by decide) hf19 (fun _ h9 => h9) rfl dX4_digest_115 ?_
                          refine lv_iload_n hx hb dX4_digest_118 rfl (lv_at hl 2 rfl) ?_
                          refine va_iald (cA := cI) (n := 90) (f := (s_put O 0 0 0) 4) hx hb hK hP 4 0 rfl rfl (vp_in_nI (by omega) (by decide)) dX4_digest_119 ?_
                          refine lv_i2l (v := ((s_put O 0 0 0) 4 (nI i103).toNatClampNeg).toInt64) hx hb dX4_digest_120 rfl ?_
                          refine lv_ladd hx hb dX4_digest_121 ?_
                          refine lv_lstore_n (lv' := [(1, .long ((u103_1 * 31) + (((s_put O 0 0 0) 4 (nI i103).toNatClampNeg).toInt64))), (0, .ref (d 0)), (3, .int (nI i103))]) hx hb dX4_digest_122 rfl hl (by decide) rfl (fun ls hl => ?_)
                          refine lv_iinc (v := nI (i103 + 1)) (lv' := [(3, .int (nI (i103 + 1))), (1, .long ((u103_1 * 31) + (((s_put O 0 0 0) 4 (nI i103).toNatClampNeg).toInt64))), (0, .ref (d 0))]) hx hb dX4_digest_123 hl (k := 2) rfl (show nI i103 + Int32.ofInt 1 = nI (i103 + 1) from nI_1 i103) (by decide) rfl (fun ls hl => ?_)
                          refine lv_goto (tgt := 103) hx hb dX4_digest_126 (by decide) ?_
                          exact ih103 (i103 + 1) ((u103_1 * 31) + (((s_put O 0 0 0) 4 (nI i103).toNatClampNeg).toInt64)) _ _ ls (by omega) (by (try rw [eu103_1]); rfl) hP hD hS (lv_sub hl [2, 1, 0] rfl)
                    exact lp103 (90) 0 u70_1 _ _ ls (by omega) rfl hP hD hS (lv_sub hl [1, 2, 0] rfl)
                  · exact absurd (by rw [show _ = nI (12 * (h * w)) from (gem_12 hGz)]; exact nI_le (by omega) (by omega)) c_3
                | succ n70 ih70 =>
                  intro i70 u70_1 H locs ls hi70 eu70_1 hP hD hS hl
                  refine lv_iload_n hx hb dX4_digest_70 rfl (lv_at hl 2 rfl) ?_
                  refine lv_bipush (v := 12) hx hb dX4_digest_71 (by decide) ?_
                  refine lv_aload_n hx hb dX4_digest_73 rfl (lv_at hl 0 rfl) ?_
                  refine zI_V (pre := ([] : va_W)) (wc := mW cI d (s_put O 0 0 0)) (post := ([] : va_W)) (w1 := mW cI d (s_put O 0 0 0)) ⟨hx, hb, hml, hown, hts⟩ (c_X4_many l dC dI cI d (s_put O 0 0 0)) (cwV 0 hts gX4_digest_X4_many rfl rfl rfl (by decide +kernel) ⟨Nat.le_of_ble_eq_true rfl, Nat.le_of_ble_eq_true rfl⟩) (by simp only [List.append_assoc, List.append_nil, List.nil_append]) hK hN (ci := 4) (q0 := 0) rfl rfl rfl hP hD hS hA rfl hl.1 rfl (Nat.le_of_ble_eq_true rfl) dX4_digest_74 ⟨Nat.le_of_ble_eq_true rfl, Nat.le_of_ble_eq_true rfl⟩ (fun H locs hP hD hS => ?_)
                  have hP : va_P (dC, dI) vwCl (mW cI d (s_put O 0 0 0)) H := by simpa only [List.append_assoc, List.append_nil, List.nil_append] using hP
                  have hD : va_D A (mW cI d (s_put O 0 0 0)) := by simpa only [List.append_assoc, List.append_nil, List.nil_append] using hD
                  refine lv_imul hx hb dX4_digest_77 ?_
                  refine lv_icmp_ge (tgt := 101) hx hb dX4_digest_78 (by decide) (fun c_6 => ?_) (fun c_6 => ?_)
                  · exact absurd c_6 (by rw [show _ = nI (12 * (h * w)) from (gem_12 hGz)]; exact nI_ge (by omega) (by omega))
                  · refine lv_lload_n hx hb dX4_digest_81 rfl (lv_at hl 1 rfl) ?_
                    refine lv_ldc2 hx hb hown hc110 dX4_digest_82 ?_
                    refine lv_lmul hx hb dX4_digest_85 ?_
                    refine lv_aload_n hx hb dX4_digest_86 rfl (lv_at hl 0 rfl) ?_
                    refine va_get (D := (dC, dI)) (ci := 4) (v := .ref (d 3)) (C := RX4) (T := TX4) (N := 7) hx hb hts hinX4 hown hK hP 0 rfl rfl 3 (by decide) hf16 (fun _ h9 => h9) rfl dX4_digest_87 ?_
                    refine lv_iload_n hx hb dX4_digest_90 rfl (lv_at hl 2 rfl) ?_
                    refine va_iald (cA := cI) (n := 768) (f := (s_put O 0 0 0) 3) hx hb hK hP 3 0 rfl rfl (vp_in_nI (by omega) (by decide)) dX4_digest_91 ?_
                    refine lv_i2l (v := ((s_put O 0 0 0) 3 (nI i70).toNatClampNeg).toInt64) hx hb dX4_digest_92 rfl ?_
                    refine lv_ladd hx hb dX4_digest_93 ?_
                    refine lv_lstore_n (lv' := [(1, .long ((u70_1 * 31) + (((s_put O 0 0 0) 3 (nI i70).toNatClampNeg).toInt64))), (0, .ref (d 0)), (3, .int (nI i70))]) hx hb dX4_digest_94 rfl hl (by decide) rfl (fun ls hl => ?_)
                    refine lv_iinc (v := nI (i70 + 1)) (lv' := [(3, .int (nI (i70 + 1))), (1, .long ((u70_1 * 31) + (((s_put O 0 0 0) 3 (nI i70).toNatClampNeg).toInt64))), (0, .ref (d 0))]) hx hb dX4_digest_95 hl (k := 2) rfl (show nI i70 + Int32.ofInt 1 = nI (i70 + 1) from nI_1 i70) (by decide) rfl (fun ls hl => ?_)
                    refine lv_goto (tgt := 70) hx hb dX4_digest_98 (by decide) ?_
                    exact ih70 (i70 + 1) ((u70_1 * 31) + (((s_put O 0 0 0) 3 (nI i70).toNatClampNeg).toInt64)) _ _ ls (by omega) (by (try rw [eu70_1]); rfl) hP hD hS (lv_sub hl [2, 1, 0] rfl)
              exact lp70 (12 * (h * w)) 0 u38_1 _ _ ls (by omega) rfl hP hD hS (lv_sub hl [1, 2, 0] rfl)
            · exact absurd (by rw [show _ = nI (w) from hGz.2.1]; exact nI_le (by omega) (by omega)) c_2
          | succ n38 ih38 =>
            intro i38 u38_1 H locs ls hi38 eu38_1 hP hD hS hl
            refine lv_iload_n hx hb dX4_digest_38 rfl (lv_at hl 2 rfl) ?_
            refine lv_aload_n hx hb dX4_digest_39 rfl (lv_at hl 0 rfl) ?_
            refine va_get (D := (dC, dI)) (ci := 4) (v := .ref (d 1)) (C := RX4) (T := TX4) (N := 7) hx hb hts hinX4 hown hK hP 0 rfl rfl 1 (by decide) hf9 (fun _ h9 => h9) rfl dX4_digest_40 ?_
            refine lv_iconst (v := 1) hx hb dX4_digest_43 (by decide) ?_
            refine va_ialdk 1 (cA := cI) (n := 7) (f := (s_put O 0 0 0) 1) hx hb hK hP 1 0 rfl rfl rfl (by decide) (by decide) dX4_digest_44 ?_
            refine lv_icmp_ge (tgt := 68) hx hb dX4_digest_45 (by decide) (fun c_7 => ?_) (fun c_7 => ?_)
            · exact absurd c_7 (by rw [show _ = nI (w) from hGz.2.1]; exact nI_ge (by omega) (by omega))
            · refine lv_lload_n hx hb dX4_digest_48 rfl (lv_at hl 1 rfl) ?_
              refine lv_ldc2 hx hb hown hc110 dX4_digest_49 ?_
              refine lv_lmul hx hb dX4_digest_52 ?_
              refine lv_aload_n hx hb dX4_digest_53 rfl (lv_at hl 0 rfl) ?_
              refine va_get (D := (dC, dI)) (ci := 4) (v := .ref (d 2)) (C := RX4) (T := TX4) (N := 7) hx hb hts hinX4 hown hK hP 0 rfl rfl 2 (by decide) hf13 (fun _ h9 => h9) rfl dX4_digest_54 ?_
              refine lv_iload_n hx hb dX4_digest_57 rfl (lv_at hl 2 rfl) ?_
              refine va_iald (cA := cI) (n := 8) (f := (s_put O 0 0 0) 2) hx hb hK hP 2 0 rfl rfl (vp_in_nI (by omega) (by decide)) dX4_digest_58 ?_
              refine lv_i2l (v := ((s_put O 0 0 0) 2 (nI i38).toNatClampNeg).toInt64) hx hb dX4_digest_59 rfl ?_
              refine lv_ladd hx hb dX4_digest_60 ?_
              refine lv_lstore_n (lv' := [(1, .long ((u38_1 * 31) + (((s_put O 0 0 0) 2 (nI i38).toNatClampNeg).toInt64))), (0, .ref (d 0)), (3, .int (nI i38))]) hx hb dX4_digest_61 rfl hl (by decide) rfl (fun ls hl => ?_)
              refine lv_iinc (v := nI (i38 + 1)) (lv' := [(3, .int (nI (i38 + 1))), (1, .long ((u38_1 * 31) + (((s_put O 0 0 0) 2 (nI i38).toNatClampNeg).toInt64))), (0, .ref (d 0))]) hx hb dX4_digest_62 hl (k := 2) rfl (show nI i38 + Int32.ofInt 1 = nI (i38 + 1) from nI_1 i38) (by decide) rfl (fun ls hl => ?_)
              refine lv_goto (tgt := 38) hx hb dX4_digest_65 (by decide) ?_
              exact ih38 (i38 + 1) ((u38_1 * 31) + (((s_put O 0 0 0) 2 (nI i38).toNatClampNeg).toInt64)) _ _ ls (by omega) (by (try rw [eu38_1]); rfl) hP hD hS (lv_sub hl [2, 1, 0] rfl)
        exact lp38 (w) 0 u11_1 _ _ ls (by omega) rfl hP hD hS (lv_sub hl [1, 2, 0] rfl)
      · exact absurd (show nI (9) ≤ nI i11 from nI_le (by omega) (by omega)) c_1
    | succ n11 ih11 =>
      intro i11 u11_1 H locs ls hi11 eu11_1 hP hD hS hl
      refine lv_iload_n hx hb dX4_digest_11 rfl (lv_at hl 2 rfl) ?_
      refine lv_bipush (v := 9) hx hb dX4_digest_12 (by decide) ?_
      refine lv_icmp_ge (tgt := 36) hx hb dX4_digest_14 (by decide) (fun c_8 => ?_) (fun c_8 => ?_)
      · exact absurd c_8 (show ¬ nI (9) ≤ nI i11 from nI_ge (by omega) (by omega))
      · refine lv_lload_n hx hb dX4_digest_17 rfl (lv_at hl 1 rfl) ?_
        refine lv_ldc2 hx hb hown hc110 dX4_digest_18 ?_
        refine lv_lmul hx hb dX4_digest_21 ?_
        refine lv_aload_n hx hb dX4_digest_22 rfl (lv_at hl 0 rfl) ?_
        refine lv_iload_n hx hb dX4_digest_23 rfl (lv_at hl 2 rfl) ?_
        refine zI_V (pre := ([] : va_W)) (wc := mW cI d (s_put O 0 0 0)) (post := ([] : va_W)) (w1 := mW cI d (s_put O 0 0 0)) ⟨hx, hb, hml, hown, hts⟩ (c_X4_counted l dC dI cI d h w (s_put O 0 0 0) (nI i11) hGz (vp_in_nI (by omega) (by decide))) (cwV 1 hts gX4_digest_X4_counted rfl rfl rfl (by decide +kernel) ⟨Nat.le_of_ble_eq_true rfl, Nat.le_of_ble_eq_true rfl⟩) (by simp only [List.append_assoc, List.append_nil, List.nil_append]) hK hN (ci := 4) (q0 := 0) rfl rfl rfl hP hD hS hA rfl hl.1 rfl (Nat.le_of_ble_eq_true rfl) dX4_digest_24 ⟨Nat.le_of_ble_eq_true rfl, Nat.le_of_ble_eq_true rfl⟩ (fun H locs hP hD hS => ?_)
        have hP : va_P (dC, dI) vwCl (mW cI d (s_put O 0 0 0)) H := by simpa only [List.append_assoc, List.append_nil, List.nil_append] using hP
        have hD : va_D A (mW cI d (s_put O 0 0 0)) := by simpa only [List.append_assoc, List.append_nil, List.nil_append] using hD
        refine lv_i2l (v := (mi_count h w (s_put O 0 0 0) (nI i11)).toInt64) hx hb dX4_digest_27 rfl ?_
        refine lv_ladd hx hb dX4_digest_28 ?_
        refine lv_lstore_n (lv' := [(1, .long ((u11_1 * 31) + ((mi_count h w (s_put O 0 0 0) (nI i11)).toInt64))), (0, .ref (d 0)), (3, .int (nI i11))]) hx hb dX4_digest_29 rfl hl (by decide) rfl (fun ls hl => ?_)
        refine lv_iinc (v := nI (i11 + 1)) (lv' := [(3, .int (nI (i11 + 1))), (1, .long ((u11_1 * 31) + ((mi_count h w (s_put O 0 0 0) (nI i11)).toInt64))), (0, .ref (d 0))]) hx hb dX4_digest_30 hl (k := 2) rfl (show nI i11 + Int32.ofInt 1 = nI (i11 + 1) from nI_1 i11) (by decide) rfl (fun ls hl => ?_)
        refine lv_goto (tgt := 11) hx hb dX4_digest_33 (by decide) ?_
        exact ih11 (i11 + 1) ((u11_1 * 31) + ((mi_count h w (s_put O 0 0 0) (nI i11)).toInt64)) _ _ ls (by omega) (by (try rw [eu11_1]); rfl) hP hD hS (lv_sub hl [2, 1, 0] rfl)
  exact lp11 (9) 0 443 _ _ ls (by omega) rfl hP hD hS (lv_sub hl [2, 1, 0] rfl)
set_option maxHeartbeats 4000000 in
set_option maxRecDepth 100000 in
theorem c_X4_depth (l : Launch) (dC : Nat → ClassId) (dI : Nat → Nat → Nat) (cI : ClassId) (d : Nat → Nat) (h w : Nat) (O : sS) (hG0 : gem h w O) : zD l yX4_depth wsX4_depth { frames := 2, cells := 0, slots := 0, locals := 43 } (dC, dI) cI [.ref (d 0)] (mW cI d O) (mW cI d (s_put O 0 0 0)) (FP.ddiv (FP.i2d (mi_sum h w (s_put O 0 0 0) 0)) (FP.i2d (mi_many (s_put O 0 0 0)))) := by
  refine zD_of (cc := cX4_depth) (maxL := 1) (ret := (some .double)) (by decide) rfl (Nat.le_of_ble_eq_true rfl) ?_
  intro p e s m below meth c A ls C0 hd0 hl
  obtain ⟨hx, hb, hr, hml, hown, hts, hlocks, hK, hN, hA, hP, hD, hS⟩ := C0
  have hown : s.vm.findClass RX4 = some m.cls := hown
  have hl : lv_has ls 1 [(0, .ref (d 0))] := hl
  have hf38 := hts (.fieldLink RX4 38 "PaddyTerracesModel" "thrown" "I") (by decide +kernel)
  have hinX4 : ∀ w ∈ wsX40, w ∈ wsX4_depth := by decide +kernel
  have hS0 := hS
  have hN64 := gem_hw hG0
  have hW9 := gem_w hG0
  obtain ⟨-, -, hh2, hh8, hw2, hw8⟩ := id hG0
  refine lv_aload_n hx hb dX4_depth_0 rfl (lv_at hl 0 rfl) ?_
  refine lv_iconst (v := 0) hx hb dX4_depth_1 (by decide) ?_
  refine va_put (D := (dC, dI)) (ci := 4) (v := .int 0) (ty := .int) (C := RX4) (T := TX4) (N := 7) hx hb hts hinX4 tyX4 tyX4_ok nmX4 hown hK hP hD hS 0 rfl rfl 0 (by decide) hf38 (fun _ h9 => h9) rfl (by decide +kernel) rfl rfl (Nat.le_of_ble_eq_true rfl) dX4_depth_2 (fun H locs hP hD hS => ?_)
  have hP : va_P (dC, dI) vwCl (mW cI d (s_put O 0 0 0)) H := hP
  have hD : va_D A (mW cI d (s_put O 0 0 0)) := hD
  have hGz : gem h w (s_put O 0 0 0) := gem_put hG0 (Or.inl (by decide)) _
  refine lv_aload_n hx hb dX4_depth_5 rfl (lv_at hl 0 rfl) ?_
  refine lv_iconst (v := 0) hx hb dX4_depth_6 (by decide) ?_
  refine zI_V (pre := ([] : va_W)) (wc := mW cI d (s_put O 0 0 0)) (post := ([] : va_W)) (w1 := mW cI d (s_put O 0 0 0)) ⟨hx, hb, hml, hown, hts⟩ (c_X4_sum l dC dI cI d h w (s_put O 0 0 0) 0 hGz ⟨0, by decide, rfl⟩) (cwV 1 hts gX4_depth_X4_sum rfl rfl rfl (by decide +kernel) ⟨Nat.le_of_ble_eq_true rfl, Nat.le_of_ble_eq_true rfl⟩) (by simp only [List.append_assoc, List.append_nil, List.nil_append]) hK hN (ci := 4) (q0 := 0) rfl rfl rfl hP hD hS hA rfl hl.1 rfl (Nat.le_of_ble_eq_true rfl) dX4_depth_7 ⟨Nat.le_of_ble_eq_true rfl, Nat.le_of_ble_eq_true rfl⟩ (fun H locs hP hD hS => ?_)
  have hP : va_P (dC, dI) vwCl (mW cI d (s_put O 0 0 0)) H := by simpa only [List.append_assoc, List.append_nil, List.nil_append] using hP
  have hD : va_D A (mW cI d (s_put O 0 0 0)) := by simpa only [List.append_assoc, List.append_nil, List.nil_append] using hD
  refine lv_i2d hx hb dX4_depth_10 ?_
  refine lv_aload_n hx hb dX4_depth_11 rfl (lv_at hl 0 rfl) ?_
  refine zI_V (pre := ([] : va_W)) (wc := mW cI d (s_put O 0 0 0)) (post := ([] : va_W)) (w1 := mW cI d (s_put O 0 0 0)) ⟨hx, hb, hml, hown, hts⟩ (c_X4_many l dC dI cI d (s_put O 0 0 0)) (cwV 0 hts gX4_depth_X4_many rfl rfl rfl (by decide +kernel) ⟨Nat.le_of_ble_eq_true rfl, Nat.le_of_ble_eq_true rfl⟩) (by simp only [List.append_assoc, List.append_nil, List.nil_append]) hK hN (ci := 4) (q0 := 0) rfl rfl rfl hP hD hS hA rfl hl.1 rfl (Nat.le_of_ble_eq_true rfl) dX4_depth_12 ⟨Nat.le_of_ble_eq_true rfl, Nat.le_of_ble_eq_true rfl⟩ (fun H locs hP hD hS => ?_)
  have hP : va_P (dC, dI) vwCl (mW cI d (s_put O 0 0 0)) H := by simpa only [List.append_assoc, List.append_nil, List.nil_append] using hP
  have hD : va_D A (mW cI d (s_put O 0 0 0)) := by simpa only [List.append_assoc, List.append_nil, List.nil_append] using hD
  refine lv_i2d hx hb dX4_depth_15 ?_
  refine lv_ddiv_any (s := s) hd0 lw_bits hx hb dX4_depth_16 (fun r d1 hal hd1 => ?_)
  exact zD_ret hd1 hx hb hr hlocks hP hD hS hal dX4_depth_17

set_option maxHeartbeats 4000000 in
set_option maxRecDepth 100000 in
theorem c_X4_dayOn (l : Launch) (dC : Nat → ClassId) (dI : Nat → Nat → Nat) (cI : ClassId) (d : Nat → Nat) (h w : Nat) (O : sS) (y : Nat) (hG0 : gem h w O) (hd : O 1 2 = nI y) (hy : y < 1000000) : zV l yX4_dayOn wsX4_dayOn { frames := 4, cells := 0, slots := 0, locals := 92 } (dC, dI) cI [.ref (d 0)] (mW cI d O) (mW cI d (mi_day h w O)) := by
  refine zV_of (cc := cX4_dayOn) (maxL := 6) (ret := none) (by decide) rfl (Nat.le_of_ble_eq_true rfl) ?_
  intro p e s m below meth c A ls C0 hl
  obtain ⟨hx, hb, hr, hml, hown, hts, hlocks, hK, hN, hA, hP, hD, hS⟩ := C0
  have hown : s.vm.findClass RX4 = some m.cls := hown
  have hl : lv_has ls 6 [(0, .ref (d 0))] := hl
  have hf9 := hts (.fieldLink RX4 9 "PaddyTerracesModel" "n" "[I") (by decide +kernel)
  have hf13 := hts (.fieldLink RX4 13 "PaddyTerracesModel" "shares" "[I") (by decide +kernel)
  have hf16 := hts (.fieldLink RX4 16 "PaddyTerracesModel" "fields" "[I") (by decide +kernel)
  have hf19 := hts (.fieldLink RX4 19 "PaddyTerracesModel" "weather" "[I") (by decide +kernel)
  have hc_max := hts (.code Lib.Math.max.name Lib.Math.max.code 2 (some .int)) (by decide +kernel)
  have hc_min := hts (.code Lib.Math.min.name Lib.Math.min.code 2 (some .int)) (by decide +kernel)
  have hi_Math := hts (.initialized "java/lang/Math") (by decide +kernel)
  have hm58 := hts (.methodLink RX4 58 Lib.Math.min.name) (by decide +kernel)
  have hm80 := hts (.methodLink RX4 80 Lib.Math.max.name) (by decide +kernel)
  have hs_max := hts (.static Lib.Math.max.name) (by decide +kernel)
  have hs_min := hts (.static Lib.Math.min.name) (by decide +kernel)
  have hinX4 : ∀ w ∈ wsX40, w ∈ wsX4_dayOn := by decide +kernel
  have hS0 := hS
  have hN64 := gem_hw hG0
  have hW9 := gem_w hG0
  obtain ⟨-, -, hh2, hh8, hw2, hw8⟩ := id hG0
  refine lv_iconst (v := 3) hx hb dX4_dayOn_0 (by decide) ?_
  refine lv_aload_n hx hb dX4_dayOn_1 rfl (lv_at hl 0 rfl) ?_
  refine va_get (D := (dC, dI)) (ci := 4) (v := .ref (d 1)) (C := RX4) (T := TX4) (N := 7) hx hb hts hinX4 hown hK hP 0 rfl rfl 1 (by decide) hf9 (fun _ h9 => h9) rfl dX4_dayOn_2 ?_
  refine lv_iconst (v := 2) hx hb dX4_dayOn_5 (by decide) ?_
  refine va_ialdk 2 (cA := cI) (n := 7) (f := O 1) hx hb hK hP 1 0 rfl rfl rfl (by decide) (by decide) dX4_dayOn_6 ?_
  refine lv_bipush (v := 30) hx hb dX4_dayOn_7 (by decide) ?_
  refine lv_irem hx hb dX4_dayOn_9 (by decide) ?_
  refine lv_imul hx hb dX4_dayOn_10 ?_
  refine lv_istore_n (lv' := [(1, .int (mi_today O)), (0, .ref (d 0))]) hx hb dX4_dayOn_11 rfl hl (by decide) rfl (fun ls hl => ?_)
  refine lv_aload_n hx hb dX4_dayOn_12 rfl (lv_at hl 1 rfl) ?_
  refine va_get (D := (dC, dI)) (ci := 4) (v := .ref (d 1)) (C := RX4) (T := TX4) (N := 7) hx hb hts hinX4 hown hK hP 0 rfl rfl 1 (by decide) hf9 (fun _ h9 => h9) rfl dX4_dayOn_13 ?_
  refine lv_iconst (v := 2) hx hb dX4_dayOn_16 (by decide) ?_
  refine lv_dup2_11 hx hb dX4_dayOn_17 rfl rfl ?_
  refine va_ialdk 2 (cA := cI) (n := 7) (f := O 1) hx hb hK hP 1 0 rfl rfl rfl (by decide) (by decide) dX4_dayOn_18 ?_
  refine lv_iconst (v := 1) hx hb dX4_dayOn_19 (by decide) ?_
  refine lv_iadd hx hb dX4_dayOn_20 ?_
  obtain ⟨S1, eS1⟩ : ∃ z : sS, z = s_put O 1 2 ((O 1 2) + 1) := ⟨_, rfl⟩
  refine va_iastk 2 (cA := cI) (n := 7) (f := O 1) hx hb hK hP hD hS 1 0 rfl rfl rfl (by decide) (by decide) dX4_dayOn_21 (fun H locs hP hD hS => ?_)
  have hP : va_P (dC, dI) vwCl (mW cI d S1) H := by rw [eS1]; exact hP
  have hD : va_D A (mW cI d S1) := by rw [eS1]; exact hD
  have hGS1 : gem h w S1 := by rw [eS1]; exact gem_put hG0 (Or.inr (by decide)) _
  refine lv_iconst (v := 0) hx hb dX4_dayOn_22 (by decide) ?_
  refine lv_istore_n (lv' := [(2, .int 0), (1, .int (mi_today O)), (0, .ref (d 0))]) hx hb dX4_dayOn_23 rfl hl (by decide) rfl (fun ls hl => ?_)
  refine lv_iconst (v := 0) hx hb dX4_dayOn_24 (by decide) ?_
  refine lv_istore_n (lv' := [(3, .int 0), (2, .int 0), (1, .int (mi_today O)), (0, .ref (d 0))]) hx hb dX4_dayOn_25 rfl hl (by decide) rfl (fun ls hl => ?_)
  have lp26 : ∀ (n26 i26 : Nat) (u26_2 : Int32) (H : Heap) (locs : List Loc) (ls : Array Slot), i26 + n26 = w → u26_2 = itr (fun i x => x + S1 2 i.toNatClampNeg) i26 0 → va_P (dC, dI) vwCl (mW cI d S1) H → va_D A (mW cI d S1) → va_S A s.heap H locs → lv_has ls 6 [(0, .ref (d 0)), (1, .int (mi_today O)), (2, .int u26_2), (3, .int (nI i26))] → W p l e ({ frames := 4, cells := 0, slots := 0, locals := 92 } : Room) s m [.ref (d 0)].toArray below meth c H locs 0 0 (zVq (dC, dI) A (mW cI d (mi_day h w O)) below [.ref (d 0)].toArray s 0 0) (F0 m 26 ls []) := by
    intro n26
    induction n26 with
    | zero =>
      intro i26 u26_2 H locs ls hi26 eu26_2 hP hD hS hl
      have hi26 : i26 = w := by omega
      rw [hi26] at eu26_2
      refine lv_iload_n hx hb dX4_dayOn_26 rfl (lv_at hl 3 rfl) ?_
      refine lv_aload_n hx hb dX4_dayOn_27 rfl (lv_at hl 0 rfl) ?_
      refine va_get (D := (dC, dI)) (ci := 4) (v := .ref (d 1)) (C := RX4) (T := TX4) (N := 7) hx hb hts hinX4 hown hK hP 0 rfl rfl 1 (by decide) hf9 (fun _ h9 => h9) rfl dX4_dayOn_28 ?_
      refine lv_iconst (v := 1) hx hb dX4_dayOn_31 (by decide) ?_
      refine va_ialdk 1 (cA := cI) (n := 7) (f := S1 1) hx hb hK hP 1 0 rfl rfl rfl (by decide) (by decide) dX4_dayOn_32 ?_
      refine lv_icmp_ge (tgt := 51) hx hb dX4_dayOn_33 (by decide) (fun c_2 => ?_) (fun c_2 => ?_)
      · refine lv_iconst (v := 0) hx hb dX4_dayOn_51 (by decide) ?_
        refine lv_istore_n (lv' := [(3, .int 0), (0, .ref (d 0)), (1, .int (mi_today O)), (2, .int u26_2)]) hx hb dX4_dayOn_52 rfl hl (by decide) rfl (fun ls hl => ?_)
        have lp53 : ∀ (n53 i53 : Nat) (T53_0 : sS) (H : Heap) (locs : List Loc) (ls : Array Slot), i53 + n53 = h * w → T53_0 = itr (fun k T => mi_rain1 T (mi_today O) u26_2 k) i53 S1 → gem h w T53_0 → va_P (dC, dI) vwCl (mW cI d T53_0) H → va_D A (mW cI d T53_0) → va_S A s.heap H locs → lv_has ls 6 [(0, .ref (d 0)), (1, .int (mi_today O)), (2, .int u26_2), (3, .int (nI i53))] → W p l e ({ frames := 4, cells := 0, slots := 0, locals := 92 } : Room) s m [.ref (d 0)].toArray below meth c H locs 0 0 (zVq (dC, dI) A (mW cI d (mi_day h w O)) below [.ref (d 0)].toArray s 0 0) (F0 m 53 ls []) := by
          intro n53
          induction n53 with
          | zero =>
            intro i53 T53_0 H locs ls hi53 eT53_0 hGT53_0 hP hD hS hl
            have hi53 : i53 = h * w := by omega
            rw [hi53] at eT53_0
            refine lv_iload_n hx hb dX4_dayOn_53 rfl (lv_at hl 3 rfl) ?_
            refine lv_aload_n hx hb dX4_dayOn_54 rfl (lv_at hl 0 rfl) ?_
            refine zI_V (pre := ([] : va_W)) (wc := mW cI d T53_0) (post := ([] : va_W)) (w1 := mW cI d T53_0) ⟨hx, hb, hml, hown, hts⟩ (c_X4_many l dC dI cI d T53_0) (cwV 0 hts gX4_dayOn_X4_many rfl rfl rfl (by decide +kernel) ⟨Nat.le_of_ble_eq_true rfl, Nat.le_of_ble_eq_true rfl⟩) (by simp only [List.append_assoc, List.append_nil, List.nil_append]) hK hN (ci := 4) (q0 := 0) rfl rfl rfl hP hD hS hA rfl hl.1 rfl (Nat.le_of_ble_eq_true rfl) dX4_dayOn_55 ⟨Nat.le_of_ble_eq_true rfl, Nat.le_of_ble_eq_true rfl⟩ (fun H locs hP hD hS => ?_)
            have hP : va_P (dC, dI) vwCl (mW cI d T53_0) H := by simpa only [List.append_assoc, List.append_nil, List.nil_append] using hP
            have hD : va_D A (mW cI d T53_0) := by simpa only [List.append_assoc, List.append_nil, List.nil_append] using hD
            refine lv_icmp_ge (tgt := 123) hx hb dX4_dayOn_58 (by decide) (fun c_3 => ?_) (fun c_3 => ?_)
            · refine lv_iconst (v := 0) hx hb dX4_dayOn_123 (by decide) ?_
              refine lv_istore_n (lv' := [(3, .int 0), (0, .ref (d 0)), (1, .int (mi_today O)), (2, .int u26_2)]) hx hb dX4_dayOn_124 rfl hl (by decide) rfl (fun ls hl => ?_)
              have lp125 : ∀ (n125 i125 : Nat) (T125_0 : sS) (H : Heap) (locs : List Loc) (ls : Array Slot), i125 + n125 = h → T125_0 = itr (fun t T => itr (fun f U => mi_flow U t f) w T) i125 T53_0 → gem h w T125_0 → va_P (dC, dI) vwCl (mW cI d T125_0) H → va_D A (mW cI d T125_0) → va_S A s.heap H locs → lv_has ls 6 [(0, .ref (d 0)), (1, .int (mi_today O)), (2, .int u26_2), (3, .int (nI i125))] → W p l e ({ frames := 4, cells := 0, slots := 0, locals := 92 } : Room) s m [.ref (d 0)].toArray below meth c H locs 0 0 (zVq (dC, dI) A (mW cI d (mi_day h w O)) below [.ref (d 0)].toArray s 0 0) (F0 m 125 ls []) := by
                intro n125
                induction n125 with
                | zero =>
                  intro i125 T125_0 H locs ls hi125 eT125_0 hGT125_0 hP hD hS hl
                  have hi125 : i125 = h := by omega
                  rw [hi125] at eT125_0
                  refine lv_iload_n hx hb dX4_dayOn_125 rfl (lv_at hl 3 rfl) ?_
                  refine lv_aload_n hx hb dX4_dayOn_126 rfl (lv_at hl 0 rfl) ?_
                  refine va_get (D := (dC, dI)) (ci := 4) (v := .ref (d 1)) (C := RX4) (T := TX4) (N := 7) hx hb hts hinX4 hown hK hP 0 rfl rfl 1 (by decide) hf9 (fun _ h9 => h9) rfl dX4_dayOn_127 ?_
                  refine lv_iconst (v := 0) hx hb dX4_dayOn_130 (by decide) ?_
                  refine va_ialdk 0 (cA := cI) (n := 7) (f := T125_0 1) hx hb hK hP 1 0 rfl rfl rfl (by decide) (by decide) dX4_dayOn_131 ?_
                  refine lv_icmp_ge (tgt := 168) hx hb dX4_dayOn_132 (by decide) (fun c_4 => ?_) (fun c_4 => ?_)
                  · refine lv_iconst (v := 0) hx hb dX4_dayOn_168 (by decide) ?_
                    refine lv_istore_n (lv' := [(3, .int 0), (0, .ref (d 0)), (1, .int (mi_today O)), (2, .int u26_2)]) hx hb dX4_dayOn_169 rfl hl (by decide) rfl (fun ls hl => ?_)
                    have lp170 : ∀ (n170 i170 : Nat) (T170_0 : sS) (H : Heap) (locs : List Loc) (ls : Array Slot), i170 + n170 = h * w → T170_0 = itr (fun k T => mi_loss1 T (mi_today O) k) i170 T125_0 → gem h w T170_0 → va_P (dC, dI) vwCl (mW cI d T170_0) H → va_D A (mW cI d T170_0) → va_S A s.heap H locs → lv_has ls 6 [(0, .ref (d 0)), (1, .int (mi_today O)), (2, .int u26_2), (3, .int (nI i170))] → W p l e ({ frames := 4, cells := 0, slots := 0, locals := 92 } : Room) s m [.ref (d 0)].toArray below meth c H locs 0 0 (zVq (dC, dI) A (mW cI d (mi_day h w O)) below [.ref (d 0)].toArray s 0 0) (F0 m 170 ls []) := by
                      intro n170
                      induction n170 with
                      | zero =>
                        intro i170 T170_0 H locs ls hi170 eT170_0 hGT170_0 hP hD hS hl
                        have hi170 : i170 = h * w := by omega
                        rw [hi170] at eT170_0
                        refine lv_iload_n hx hb dX4_dayOn_170 rfl (lv_at hl 3 rfl) ?_
                        refine lv_aload_n hx hb dX4_dayOn_171 rfl (lv_at hl 0 rfl) ?_
                        refine zI_V (pre := ([] : va_W)) (wc := mW cI d T170_0) (post := ([] : va_W)) (w1 := mW cI d T170_0) ⟨hx, hb, hml, hown, hts⟩ (c_X4_many l dC dI cI d T170_0) (cwV 0 hts gX4_dayOn_X4_many rfl rfl rfl (by decide +kernel) ⟨Nat.le_of_ble_eq_true rfl, Nat.le_of_ble_eq_true rfl⟩) (by simp only [List.append_assoc, List.append_nil, List.nil_append]) hK hN (ci := 4) (q0 := 0) rfl rfl rfl hP hD hS hA rfl hl.1 rfl (Nat.le_of_ble_eq_true rfl) dX4_dayOn_172 ⟨Nat.le_of_ble_eq_true rfl, Nat.le_of_ble_eq_true rfl⟩ (fun H locs hP hD hS => ?_)
                        have hP : va_P (dC, dI) vwCl (mW cI d T170_0) H := by simpa only [List.append_assoc, List.append_nil, List.nil_append] using hP
                        have hD : va_D A (mW cI d T170_0) := by simpa only [List.append_assoc, List.append_nil, List.nil_append] using hD
                        refine lv_icmp_ge (tgt := 279) hx hb dX4_dayOn_175 (by decide) (fun c_5 => ?_) (fun c_5 => ?_)
                        · have hZ : T170_0 = mi_day h w O := (by (try rw [eT170_0]); (try rw [eT125_0]); (try rw [eT53_0]); (try rw [eu26_2]); (try rw [eS1]); first | done | rfl)
                          rw [hZ] at hP hD
                          exact zV_ret hx hb hr hlocks hP hD hS dX4_dayOn_279
                        · exact absurd (by rw [show _ = nI (h * w) from (gem_many hGT170_0)]; exact nI_le (by omega) (by omega)) c_5
                      | succ n170 ih170 =>
                        intro i170 T170_0 H locs ls hi170 eT170_0 hGT170_0 hP hD hS hl
                        refine lv_iload_n hx hb dX4_dayOn_170 rfl (lv_at hl 3 rfl) ?_
                        refine lv_aload_n hx hb dX4_dayOn_171 rfl (lv_at hl 0 rfl) ?_
                        refine zI_V (pre := ([] : va_W)) (wc := mW cI d T170_0) (post := ([] : va_W)) (w1 := mW cI d T170_0) ⟨hx, hb, hml, hown, hts⟩ (c_X4_many l dC dI cI d T170_0) (cwV 0 hts gX4_dayOn_X4_many rfl rfl rfl (by decide +kernel) ⟨Nat.le_of_ble_eq_true rfl, Nat.le_of_ble_eq_true rfl⟩) (by simp only [List.append_assoc, List.append_nil, List.nil_append]) hK hN (ci := 4) (q0 := 0) rfl rfl rfl hP hD hS hA rfl hl.1 rfl (Nat.le_of_ble_eq_true rfl) dX4_dayOn_172 ⟨Nat.le_of_ble_eq_true rfl, Nat.le_of_ble_eq_true rfl⟩ (fun H locs hP hD hS => ?_)
                        have hP : va_P (dC, dI) vwCl (mW cI d T170_0) H := by simpa only [List.append_assoc, List.append_nil, List.nil_append] using hP
                        have hD : va_D A (mW cI d T170_0) := by simpa only [List.append_assoc, List.append_nil, List.nil_append] using hD
                        refine lv_icmp_ge (tgt := 279) hx hb dX4_dayOn_175 (by decide) (fun c_6 => ?_) (fun c_6 => ?_)
                        · exact absurd c_6 (by rw [show _ = nI (h * w) from (gem_many hGT170_0)]; exact nI_ge (by omega) (by omega))
                        · refine lv_bipush (v := 12) hx hb dX4_dayOn_178 (by decide) ?_
                          refine lv_iload_n hx hb dX4_dayOn_180 rfl (lv_at hl 3 rfl) ?_
                          refine lv_imul hx hb dX4_dayOn_181 ?_
                          refine lv_istore (lv' := [(4, .int (12 * (nI i170))), (0, .ref (d 0)), (1, .int (mi_today O)), (2, .int u26_2), (3, .int (nI i170))]) hx hb dX4_dayOn_182 hl (by decide) rfl (fun ls hl => ?_)
                          refine lv_iconst (v := 0) hx hb dX4_dayOn_184 (by decide) ?_
                          refine lv_aload_n hx hb dX4_dayOn_185 rfl (lv_at hl 1 rfl) ?_
                          refine va_get (D := (dC, dI)) (ci := 4) (v := .ref (d 3)) (C := RX4) (T := TX4) (N := 7) hx hb hts hinX4 hown hK hP 0 rfl rfl 3 (by decide) hf16 (fun _ h9 => h9) rfl dX4_dayOn_186 ?_
                          refine lv_iload hx hb dX4_dayOn_189 (lv_at hl 0 rfl) ?_
                          refine lv_iconst (v := 0) hx hb dX4_dayOn_191 (by decide) ?_
                          refine lv_iadd hx hb dX4_dayOn_192 ?_
                          refine va_iald (cA := cI) (n := 768) (f := T170_0 3) hx hb hK hP 3 0 rfl rfl (frm_in (frm_k (by omega)) (j := 0) (by decide)) dX4_dayOn_193 ?_
                          refine lv_aload_n hx hb dX4_dayOn_194 rfl (lv_at hl 1 rfl) ?_
                          refine va_get (D := (dC, dI)) (ci := 4) (v := .ref (d 3)) (C := RX4) (T := TX4) (N := 7) hx hb hts hinX4 hown hK hP 0 rfl rfl 3 (by decide) hf16 (fun _ h9 => h9) rfl dX4_dayOn_195 ?_
                          refine lv_iload hx hb dX4_dayOn_198 (lv_at hl 0 rfl) ?_
                          refine lv_iconst (v := 2) hx hb dX4_dayOn_200 (by decide) ?_
                          refine lv_iadd hx hb dX4_dayOn_201 ?_
                          refine va_iald (cA := cI) (n := 768) (f := T170_0 3) hx hb hK hP 3 0 rfl rfl (frm_in (frm_k (by omega)) (j := 2) (by decide)) dX4_dayOn_202 ?_
                          refine lv_isub hx hb dX4_dayOn_203 ?_
                          refine lv_aload_n hx hb dX4_dayOn_204 rfl (lv_at hl 1 rfl) ?_
                          refine va_get (D := (dC, dI)) (ci := 4) (v := .ref (d 4)) (C := RX4) (T := TX4) (N := 7) hx hb hts hinX4 hown hK hP 0 rfl rfl 4 (by decide) hf19 (fun _ h9 => h9) rfl dX4_dayOn_205 ?_
                          refine lv_iload_n hx hb dX4_dayOn_208 rfl (lv_at hl 2 rfl) ?_
                          refine lv_iconst (v := 2) hx hb dX4_dayOn_209 (by decide) ?_
                          refine lv_iadd hx hb dX4_dayOn_210 ?_
                          refine va_iald (cA := cI) (n := 90) (f := T170_0 4) hx hb hK hP 4 0 rfl rfl (today_in hd (by omega) (j := 2) (by decide)) dX4_dayOn_211 ?_
                          refine lv_isub hx hb dX4_dayOn_212 ?_
                          refine va_mmaxz hx hb (hml.trans hl.1.symm) hown hm80 hs_max hi_Math hc_max (Nat.le_of_ble_eq_true rfl) (Nat.le_of_ble_eq_true rfl) (Nat.le_of_ble_eq_true rfl) (Nat.le_of_ble_eq_true rfl) dX4_dayOn_213 ?_
                          refine lv_istore (lv' := [(5, .int (zmax 0 (((T170_0 3 ((12 * (nI i170)) + 0).toNatClampNeg) - (T170_0 3 ((12 * (nI i170)) + 2).toNatClampNeg)) - (T170_0 4 ((mi_today O) + 2).toNatClampNeg)))), (4, .int (12 * (nI i170))), (0, .ref (d 0)), (1, .int (mi_today O)), (2, .int u26_2), (3, .int (nI i170))]) hx hb dX4_dayOn_216 hl (by decide) rfl (fun ls hl => ?_)
                          refine lv_aload_n hx hb dX4_dayOn_218 rfl (lv_at hl 2 rfl) ?_
                          refine va_get (D := (dC, dI)) (ci := 4) (v := .ref (d 1)) (C := RX4) (T := TX4) (N := 7) hx hb hts hinX4 hown hK hP 0 rfl rfl 1 (by decide) hf9 (fun _ h9 => h9) rfl dX4_dayOn_219 ?_
                          refine lv_iconst (v := 3) hx hb dX4_dayOn_222 (by decide) ?_
                          refine lv_dup2_11 hx hb dX4_dayOn_223 rfl rfl ?_
                          refine va_ialdk 3 (cA := cI) (n := 7) (f := T170_0 1) hx hb hK hP 1 0 rfl rfl rfl (by decide) (by decide) dX4_dayOn_224 ?_
                          refine lv_iconst (v := 0) hx hb dX4_dayOn_225 (by decide) ?_
                          refine lv_iload hx hb dX4_dayOn_226 (lv_at hl 0 rfl) ?_
                          refine lv_sipush (v := 200) hx hb dX4_dayOn_228 (by decide) ?_
                          refine lv_isub hx hb dX4_dayOn_231 ?_
                          refine va_mmaxz hx hb (hml.trans hl.1.symm) hown hm80 hs_max hi_Math hc_max (Nat.le_of_ble_eq_true rfl) (Nat.le_of_ble_eq_true rfl) (Nat.le_of_ble_eq_true rfl) (Nat.le_of_ble_eq_true rfl) dX4_dayOn_232 ?_
                          refine lv_iadd hx hb dX4_dayOn_235 ?_
                          obtain ⟨S7, eS7⟩ : ∃ z : sS, z = s_put T170_0 1 3 ((T170_0 1 3) + (zmax 0 ((zmax 0 (((T170_0 3 ((12 * (nI i170)) + 0).toNatClampNeg) - (T170_0 3 ((12 * (nI i170)) + 2).toNatClampNeg)) - (T170_0 4 ((mi_today O) + 2).toNatClampNeg))) - 200))) := ⟨_, rfl⟩
                          refine va_iastk 3 (cA := cI) (n := 7) (f := T170_0 1) hx hb hK hP hD hS 1 0 rfl rfl rfl (by decide) (by decide) dX4_dayOn_236 (fun H locs hP hD hS => ?_)
                          have hP : va_P (dC, dI) vwCl (mW cI d S7) H := by rw [eS7]; exact hP
                          have hD : va_D A (mW cI d S7) := by rw [eS7]; exact hD
                          have hGS7 : gem h w S7 := by rw [eS7]; exact gem_put hGT170_0 (Or.inr (by decide)) _
                          refine lv_aload_n hx hb dX4_dayOn_237 rfl (lv_at hl 2 rfl) ?_
                          refine va_get (D := (dC, dI)) (ci := 4) (v := .ref (d 3)) (C := RX4) (T := TX4) (N := 7) hx hb hts hinX4 hown hK hP 0 rfl rfl 3 (by decide) hf16 (fun _ h9 => h9) rfl dX4_dayOn_238 ?_
                          refine lv_iload hx hb dX4_dayOn_241 (lv_at hl 1 rfl) ?_
                          refine lv_iconst (v := 0) hx hb dX4_dayOn_243 (by decide) ?_
                          refine lv_iadd hx hb dX4_dayOn_244 ?_
                          refine lv_sipush (v := 200) hx hb dX4_dayOn_245 (by decide) ?_
                          refine lv_iload hx hb dX4_dayOn_248 (lv_at hl 0 rfl) ?_
                          refine va_mminz hx hb (hml.trans hl.1.symm) hown hm58 hs_min hi_Math hc_min (Nat.le_of_ble_eq_true rfl) (Nat.le_of_ble_eq_true rfl) (Nat.le_of_ble_eq_true rfl) (Nat.le_of_ble_eq_true rfl) dX4_dayOn_250 ?_
                          obtain ⟨S8, eS8⟩ : ∃ z : sS, z = s_put S7 3 (((12 * (nI i170)) + 0).toNatClampNeg) (zmin 200 (zmax 0 (((T170_0 3 ((12 * (nI i170)) + 0).toNatClampNeg) - (T170_0 3 ((12 * (nI i170)) + 2).toNatClampNeg)) - (T170_0 4 ((mi_today O) + 2).toNatClampNeg)))) := ⟨_, rfl⟩
                          refine va_iast (cA := cI) (n := 768) (f := S7 3) hx hb hK hP hD hS 3 0 rfl rfl (frm_in (frm_k (by omega)) (j := 0) (by decide)) dX4_dayOn_253 (fun H locs hP hD hS => ?_)
                          have hP : va_P (dC, dI) vwCl (mW cI d S8) H := by rw [eS8]; exact hP
                          have hD : va_D A (mW cI d S8) := by rw [eS8]; exact hD
                          have hGS8 : gem h w S8 := by rw [eS8]; exact gem_put hGS7 (Or.inl (by decide)) _
                          refine lv_aload_n hx hb dX4_dayOn_254 rfl (lv_at hl 2 rfl) ?_
                          refine va_get (D := (dC, dI)) (ci := 4) (v := .ref (d 3)) (C := RX4) (T := TX4) (N := 7) hx hb hts hinX4 hown hK hP 0 rfl rfl 3 (by decide) hf16 (fun _ h9 => h9) rfl dX4_dayOn_255 ?_
                          refine lv_iload hx hb dX4_dayOn_258 (lv_at hl 1 rfl) ?_
                          refine lv_iconst (v := 5) hx hb dX4_dayOn_260 (by decide) ?_
                          refine lv_iadd hx hb dX4_dayOn_261 ?_
                          refine va_iald (cA := cI) (n := 768) (f := S8 3) hx hb hK hP 3 0 rfl rfl (frm_in (frm_k (by omega)) (j := 5) (by decide)) dX4_dayOn_262 ?_
                          refine lv_iconst (v := 1) hx hb dX4_dayOn_263 (by decide) ?_
                          refine lv_icmp_ne (tgt := 273) hx hb dX4_dayOn_264 (by decide) (fun c_9 => ?_) (fun c_9 => ?_)
                          · refine lv_iinc (v := nI (i170 + 1)) (lv' := [(3, .int (nI (i170 + 1))), (5, .int (zmax 0 (((T170_0 3 ((12 * (nI i170)) + 0).toNatClampNeg) - (T170_0 3 ((12 * (nI i170)) + 2).toNatClampNeg)) - (T170_0 4 ((mi_today O) + 2).toNatClampNeg)))), (4, .int (12 * (nI i170))), (0, .ref (d 0)), (1, .int (mi_today O)), (2, .int u26_2)]) hx hb dX4_dayOn_273 hl (k := 5) rfl (show nI i170 + Int32.ofInt 1 = nI (i170 + 1) from nI_1 i170) (by decide) rfl (fun ls hl => ?_)
                            refine lv_goto (tgt := 170) hx hb dX4_dayOn_276 (by decide) ?_
                            exact ih170 (i170 + 1) S8 _ _ ls (by omega) (by rw [itr_s, ← eT170_0]; show _ = mi_loss1 T170_0 (mi_today O) (nI i170); have e9 : S8 = mi_lossA T170_0 (mi_today O) (nI i170) := (by rw [eS8, eS7]; rfl); unfold mi_loss1; rw [← e9]; simp only [if_neg c_9]; first | done | rfl) (hGS8) hP hD hS (lv_sub hl [3, 4, 5, 0] rfl)
                          · refine lv_aload_n hx hb dX4_dayOn_267 rfl (lv_at hl 2 rfl) ?_
                            refine lv_iload hx hb dX4_dayOn_268 (lv_at hl 1 rfl) ?_
                            obtain ⟨S10, eS10⟩ : ∃ z : sS, z = mi_grow S8 (12 * (nI i170)) := ⟨_, rfl⟩
                            refine zV_V (pre := ([] : va_W)) (wc := mW cI d S8) (post := ([] : va_W)) (w1 := mW cI d S10) ⟨hx, hb, hml, hown, hts⟩ (by rw [eS10]; exact c_X4_growRice l dC dI cI d h w S8 (12 * (nI i170)) hGS8 (frm_k (by omega))) (cwV 1 hts gX4_dayOn_X4_growRice rfl rfl rfl (by decide +kernel) ⟨Nat.le_of_ble_eq_true rfl, Nat.le_of_ble_eq_true rfl⟩) (by simp only [List.append_assoc, List.append_nil, List.nil_append]) hK hN (ci := 4) (q0 := 0) rfl rfl rfl hP hD hS hA rfl hl.1 rfl (Nat.le_of_ble_eq_true rfl) dX4_dayOn_270 ⟨Nat.le_of_ble_eq_true rfl, Nat.le_of_ble_eq_true rfl⟩ (fun H locs hP hD hS => ?_)
                            have hP : va_P (dC, dI) vwCl (mW cI d S10) H := by simpa only [List.append_assoc, List.append_nil, List.nil_append] using hP
                            have hD : va_D A (mW cI d S10) := by simpa only [List.append_assoc, List.append_nil, List.nil_append] using hD
                            have hGS10 : gem h w S10 := by rw [eS10]; exact gem_sam hGS8 (sam4_grow S8 (12 * (nI i170)))
                            refine lv_iinc (v := nI (i170 + 1)) (lv' := [(3, .int (nI (i170 + 1))), (5, .int (zmax 0 (((T170_0 3 ((12 * (nI i170)) + 0).toNatClampNeg) - (T170_0 3 ((12 * (nI i170)) + 2).toNatClampNeg)) - (T170_0 4 ((mi_today O) + 2).toNatClampNeg)))), (4, .int (12 * (nI i170))), (0, .ref (d 0)), (1, .int (mi_today O)), (2, .int u26_2)]) hx hb dX4_dayOn_273 hl (k := 5) rfl (show nI i170 + Int32.ofInt 1 = nI (i170 + 1) from nI_1 i170) (by decide) rfl (fun ls hl => ?_)
                            refine lv_goto (tgt := 170) hx hb dX4_dayOn_276 (by decide) ?_
                            exact ih170 (i170 + 1) S10 _ _ ls (by omega) (by rw [itr_s, ← eT170_0]; show _ = mi_loss1 T170_0 (mi_today O) (nI i170); have e9 : S8 = mi_lossA T170_0 (mi_today O) (nI i170) := (by rw [eS8, eS7]; rfl); unfold mi_loss1; rw [← e9]; simp only [if_pos c_9]; first | done | exact eS10) (hGS10) hP hD hS (lv_sub hl [3, 4, 5, 0] rfl)
                    exact lp170 (h * w) 0 T125_0 _ _ ls (by omega) rfl (hGT125_0) hP hD hS (lv_sub hl [1, 2, 3, 0] rfl)
                  · exact absurd (by rw [show _ = nI (h) from hGT125_0.1]; exact nI_le (by omega) (by omega)) c_4
                | succ n125 ih125 =>
                  intro i125 T125_0 H locs ls hi125 eT125_0 hGT125_0 hP hD hS hl
                  refine lv_iload_n hx hb dX4_dayOn_125 rfl (lv_at hl 3 rfl) ?_
                  refine lv_aload_n hx hb dX4_dayOn_126 rfl (lv_at hl 0 rfl) ?_
                  refine va_get (D := (dC, dI)) (ci := 4) (v := .ref (d 1)) (C := RX4) (T := TX4) (N := 7) hx hb hts hinX4 hown hK hP 0 rfl rfl 1 (by decide) hf9 (fun _ h9 => h9) rfl dX4_dayOn_127 ?_
                  refine lv_iconst (v := 0) hx hb dX4_dayOn_130 (by decide) ?_
                  refine va_ialdk 0 (cA := cI) (n := 7) (f := T125_0 1) hx hb hK hP 1 0 rfl rfl rfl (by decide) (by decide) dX4_dayOn_131 ?_
                  refine lv_icmp_ge (tgt := 168) hx hb dX4_dayOn_132 (by decide) (fun c_11 => ?_) (fun c_11 => ?_)
                  · exact absurd c_11 (by rw [show _ = nI (h) from hGT125_0.1]; exact nI_ge (by omega) (by omega))
                  · refine lv_iconst (v := 0) hx hb dX4_dayOn_135 (by decide) ?_
                    refine lv_istore (lv' := [(4, .int 0), (0, .ref (d 0)), (1, .int (mi_today O)), (2, .int u26_2), (3, .int (nI i125))]) hx hb dX4_dayOn_136 hl (by decide) rfl (fun ls hl => ?_)
                    have lp138 : ∀ (n138 i138 : Nat) (T138_0 : sS) (H : Heap) (locs : List Loc) (ls : Array Slot), i138 + n138 = w → T138_0 = itr (fun f U => mi_flow U (nI i125) f) i138 T125_0 → gem h w T138_0 → va_P (dC, dI) vwCl (mW cI d T138_0) H → va_D A (mW cI d T138_0) → va_S A s.heap H locs → lv_has ls 6 [(0, .ref (d 0)), (1, .int (mi_today O)), (2, .int u26_2), (3, .int (nI i125)), (4, .int (nI i138))] → W p l e ({ frames := 4, cells := 0, slots := 0, locals := 92 } : Room) s m [.ref (d 0)].toArray below meth c H locs 0 0 (zVq (dC, dI) A (mW cI d (mi_day h w O)) below [.ref (d 0)].toArray s 0 0) (F0 m 138 ls []) := by
                      intro n138
                      induction n138 with
                      | zero =>
                        intro i138 T138_0 H locs ls hi138 eT138_0 hGT138_0 hP hD hS hl
                        have hi138 : i138 = w := by omega
                        rw [hi138] at eT138_0
                        refine lv_iload hx hb dX4_dayOn_138 (lv_at hl 4 rfl) ?_
                        refine lv_aload_n hx hb dX4_dayOn_140 rfl (lv_at hl 0 rfl) ?_
                        refine va_get (D := (dC, dI)) (ci := 4) (v := .ref (d 1)) (C := RX4) (T := TX4) (N := 7) hx hb hts hinX4 hown hK hP 0 rfl rfl 1 (by decide) hf9 (fun _ h9 => h9) rfl dX4_dayOn_141 ?_
                        refine lv_iconst (v := 1) hx hb dX4_dayOn_144 (by decide) ?_
                        refine va_ialdk 1 (cA := cI) (n := 7) (f := T138_0 1) hx hb hK hP 1 0 rfl rfl rfl (by decide) (by decide) dX4_dayOn_145 ?_
                        refine lv_icmp_ge (tgt := 162) hx hb dX4_dayOn_146 (by decide) (fun c_12 => ?_) (fun c_12 => ?_)
                        · refine lv_iinc (v := nI (i125 + 1)) (lv' := [(3, .int (nI (i125 + 1))), (0, .ref (d 0)), (1, .int (mi_today O)), (2, .int u26_2), (4, .int (nI i138))]) hx hb dX4_dayOn_162 hl (k := 3) rfl (show nI i125 + Int32.ofInt 1 = nI (i125 + 1) from nI_1 i125) (by decide) rfl (fun ls hl => ?_)
                          refine lv_goto (tgt := 125) hx hb dX4_dayOn_165 (by decide) ?_
                          exact ih125 (i125 + 1) T138_0 _ _ ls (by omega) (by (try rw [eT138_0]); (try rw [eT125_0]); rfl) (hGT138_0) hP hD hS (lv_sub hl [1, 2, 3, 0] rfl)
                        · exact absurd (by rw [show _ = nI (w) from hGT138_0.2.1]; exact nI_le (by omega) (by omega)) c_12
                      | succ n138 ih138 =>
                        intro i138 T138_0 H locs ls hi138 eT138_0 hGT138_0 hP hD hS hl
                        refine lv_iload hx hb dX4_dayOn_138 (lv_at hl 4 rfl) ?_
                        refine lv_aload_n hx hb dX4_dayOn_140 rfl (lv_at hl 0 rfl) ?_
                        refine va_get (D := (dC, dI)) (ci := 4) (v := .ref (d 1)) (C := RX4) (T := TX4) (N := 7) hx hb hts hinX4 hown hK hP 0 rfl rfl 1 (by decide) hf9 (fun _ h9 => h9) rfl dX4_dayOn_141 ?_
                        refine lv_iconst (v := 1) hx hb dX4_dayOn_144 (by decide) ?_
                        refine va_ialdk 1 (cA := cI) (n := 7) (f := T138_0 1) hx hb hK hP 1 0 rfl rfl rfl (by decide) (by decide) dX4_dayOn_145 ?_
                        refine lv_icmp_ge (tgt := 162) hx hb dX4_dayOn_146 (by decide) (fun c_13 => ?_) (fun c_13 => ?_)
                        · exact absurd c_13 (by rw [show _ = nI (w) from hGT138_0.2.1]; exact nI_ge (by omega) (by omega))
                        · refine lv_aload_n hx hb dX4_dayOn_149 rfl (lv_at hl 0 rfl) ?_
                          refine lv_iload_n hx hb dX4_dayOn_150 rfl (lv_at hl 3 rfl) ?_
                          refine lv_iload hx hb dX4_dayOn_151 (lv_at hl 4 rfl) ?_
                          obtain ⟨S14, eS14⟩ : ∃ z : sS, z = mi_flow T138_0 (nI i125) (nI i138) := ⟨_, rfl⟩
                          refine zV_V (pre := ([] : va_W)) (wc := mW cI d T138_0) (post := ([] : va_W)) (w1 := mW cI d S14) ⟨hx, hb, hml, hown, hts⟩ (by rw [eS14]; exact c_X4_flow l dC dI cI d h w T138_0 (nI i125) (nI i138) hGT138_0 (gem_has hGT138_0 (by omega) (by omega))) (cwV 2 hts gX4_dayOn_X4_flow rfl rfl rfl (by decide +kernel) ⟨Nat.le_of_ble_eq_true rfl, Nat.le_of_ble_eq_true rfl⟩) (by simp only [List.append_assoc, List.append_nil, List.nil_append]) hK hN (ci := 4) (q0 := 0) rfl rfl rfl hP hD hS hA rfl hl.1 rfl (Nat.le_of_ble_eq_true rfl) dX4_dayOn_153 ⟨Nat.le_of_ble_eq_true rfl, Nat.le_of_ble_eq_true rfl⟩ (fun H locs hP hD hS => ?_)
                          have hP : va_P (dC, dI) vwCl (mW cI d S14) H := by simpa only [List.append_assoc, List.append_nil, List.nil_append] using hP
                          have hD : va_D A (mW cI d S14) := by simpa only [List.append_assoc, List.append_nil, List.nil_append] using hD
                          have hGS14 : gem h w S14 := by rw [eS14]; exact gem_sam hGT138_0 (sam4_flow T138_0 (nI i125) (nI i138))
                          refine lv_iinc (v := nI (i138 + 1)) (lv' := [(4, .int (nI (i138 + 1))), (0, .ref (d 0)), (1, .int (mi_today O)), (2, .int u26_2), (3, .int (nI i125))]) hx hb dX4_dayOn_156 hl (k := 4) rfl (show nI i138 + Int32.ofInt 1 = nI (i138 + 1) from nI_1 i138) (by decide) rfl (fun ls hl => ?_)
                          refine lv_goto (tgt := 138) hx hb dX4_dayOn_159 (by decide) ?_
                          exact ih138 (i138 + 1) S14 _ _ ls (by omega) (by (try rw [eS14]); (try rw [eT138_0]); rfl) (hGS14) hP hD hS (lv_sub hl [1, 2, 3, 4, 0] rfl)
                    exact lp138 (w) 0 T125_0 _ _ ls (by omega) rfl (hGT125_0) hP hD hS (lv_sub hl [1, 2, 3, 4, 0] rfl)
              exact lp125 (h) 0 T53_0 _ _ ls (by omega) rfl (hGT53_0) hP hD hS (lv_sub hl [1, 2, 3, 0] rfl)
            · exact absurd (by rw [show _ = nI (h * w) from (gem_many hGT53_0)]; exact nI_le (by omega) (by omega)) c_3
          | succ n53 ih53 =>
            intro i53 T53_0 H locs ls hi53 eT53_0 hGT53_0 hP hD hS hl
            refine lv_iload_n hx hb dX4_dayOn_53 rfl (lv_at hl 3 rfl) ?_
            refine lv_aload_n hx hb dX4_dayOn_54 rfl (lv_at hl 0 rfl) ?_
            refine zI_V (pre := ([] : va_W)) (wc := mW cI d T53_0) (post := ([] : va_W)) (w1 := mW cI d T53_0) ⟨hx, hb, hml, hown, hts⟩ (c_X4_many l dC dI cI d T53_0) (cwV 0 hts gX4_dayOn_X4_many rfl rfl rfl (by decide +kernel) ⟨Nat.le_of_ble_eq_true rfl, Nat.le_of_ble_eq_true rfl⟩) (by simp only [List.append_assoc, List.append_nil, List.nil_append]) hK hN (ci := 4) (q0 := 0) rfl rfl rfl hP hD hS hA rfl hl.1 rfl (Nat.le_of_ble_eq_true rfl) dX4_dayOn_55 ⟨Nat.le_of_ble_eq_true rfl, Nat.le_of_ble_eq_true rfl⟩ (fun H locs hP hD hS => ?_)
            have hP : va_P (dC, dI) vwCl (mW cI d T53_0) H := by simpa only [List.append_assoc, List.append_nil, List.nil_append] using hP
            have hD : va_D A (mW cI d T53_0) := by simpa only [List.append_assoc, List.append_nil, List.nil_append] using hD
            refine lv_icmp_ge (tgt := 123) hx hb dX4_dayOn_58 (by decide) (fun c_15 => ?_) (fun c_15 => ?_)
            · exact absurd c_15 (by rw [show _ = nI (h * w) from (gem_many hGT53_0)]; exact nI_ge (by omega) (by omega))
            · refine lv_aload_n hx hb dX4_dayOn_61 rfl (lv_at hl 0 rfl) ?_
              refine va_get (D := (dC, dI)) (ci := 4) (v := .ref (d 3)) (C := RX4) (T := TX4) (N := 7) hx hb hts hinX4 hown hK hP 0 rfl rfl 3 (by decide) hf16 (fun _ h9 => h9) rfl dX4_dayOn_62 ?_
              refine lv_bipush (v := 12) hx hb dX4_dayOn_65 (by decide) ?_
              refine lv_iload_n hx hb dX4_dayOn_67 rfl (lv_at hl 3 rfl) ?_
              refine lv_imul hx hb dX4_dayOn_68 ?_
              refine lv_iconst (v := 0) hx hb dX4_dayOn_69 (by decide) ?_
              refine lv_iadd hx hb dX4_dayOn_70 ?_
              refine lv_dup2_11 hx hb dX4_dayOn_71 rfl rfl ?_
              refine va_iald (cA := cI) (n := 768) (f := T53_0 3) hx hb hK hP 3 0 rfl rfl (frm_in (frm_k (by omega)) (j := 0) (by decide)) dX4_dayOn_72 ?_
              refine lv_aload_n hx hb dX4_dayOn_73 rfl (lv_at hl 0 rfl) ?_
              refine va_get (D := (dC, dI)) (ci := 4) (v := .ref (d 4)) (C := RX4) (T := TX4) (N := 7) hx hb hts hinX4 hown hK hP 0 rfl rfl 4 (by decide) hf19 (fun _ h9 => h9) rfl dX4_dayOn_74 ?_
              refine lv_iload_n hx hb dX4_dayOn_77 rfl (lv_at hl 1 rfl) ?_
              refine va_iald (cA := cI) (n := 90) (f := T53_0 4) hx hb hK hP 4 0 rfl rfl (today_in0 hd (by omega)) dX4_dayOn_78 ?_
              refine lv_iload_n hx hb dX4_dayOn_79 rfl (lv_at hl 3 rfl) ?_
              refine lv_aload_n hx hb dX4_dayOn_80 rfl (lv_at hl 0 rfl) ?_
              refine va_get (D := (dC, dI)) (ci := 4) (v := .ref (d 1)) (C := RX4) (T := TX4) (N := 7) hx hb hts hinX4 hown hK hP 0 rfl rfl 1 (by decide) hf9 (fun _ h9 => h9) rfl dX4_dayOn_81 ?_
              refine lv_iconst (v := 1) hx hb dX4_dayOn_84 (by decide) ?_
              refine va_ialdk 1 (cA := cI) (n := 7) (f := T53_0 1) hx hb hK hP 1 0 rfl rfl rfl (by decide) (by decide) dX4_dayOn_85 ?_
              have hjv16 : ∀ (v16 : Int32) (H : Heap) (locs : List Loc), v16 = (if (T53_0 1 1) ≤ (nI i53) then 0 else (if u26_2 ≤ 0 then 0 else (((T53_0 4 ((mi_today O) + 1).toNatClampNeg) * (T53_0 2 (nI i53).toNatClampNeg)) / u26_2))) → va_P (dC, dI) vwCl (mW cI d T53_0) H → va_D A (mW cI d T53_0) → va_S A s.heap H locs → W p l e ({ frames := 4, cells := 0, slots := 0, locals := 92 } : Room) s m [.ref (d 0)].toArray below meth c H locs 0 0 (zVq (dC, dI) A (mW cI d (mi_day h w O)) below [.ref (d 0)].toArray s 0 0) (F0 m 114 ls (.int v16 :: [.int (T53_0 4 (mi_today O).toNatClampNeg), .int (T53_0 3 ((12 * (nI i53)) + 0).toNatClampNeg), .int ((12 * (nI i53)) + 0), .ref (d 3)])) := by
                intro v16 H locs ev16 hP hD hS
                refine lv_iadd hx hb dX4_dayOn_114 ?_
                refine lv_iadd hx hb dX4_dayOn_115 ?_
                obtain ⟨S17, eS17⟩ : ∃ z : sS, z = s_put T53_0 3 (((12 * (nI i53)) + 0).toNatClampNeg) ((T53_0 3 ((12 * (nI i53)) + 0).toNatClampNeg) + ((T53_0 4 (mi_today O).toNatClampNeg) + v16)) := ⟨_, rfl⟩
                refine va_iast (cA := cI) (n := 768) (f := T53_0 3) hx hb hK hP hD hS 3 0 rfl rfl (frm_in (frm_k (by omega)) (j := 0) (by decide)) dX4_dayOn_116 (fun H locs hP hD hS => ?_)
                have hP : va_P (dC, dI) vwCl (mW cI d S17) H := by rw [eS17]; exact hP
                have hD : va_D A (mW cI d S17) := by rw [eS17]; exact hD
                have hGS17 : gem h w S17 := by rw [eS17]; exact gem_put hGT53_0 (Or.inl (by decide)) _
                refine lv_iinc (v := nI (i53 + 1)) (lv' := [(3, .int (nI (i53 + 1))), (0, .ref (d 0)), (1, .int (mi_today O)), (2, .int u26_2)]) hx hb dX4_dayOn_117 hl (k := 3) rfl (show nI i53 + Int32.ofInt 1 = nI (i53 + 1) from nI_1 i53) (by decide) rfl (fun ls hl => ?_)
                refine lv_goto (tgt := 53) hx hb dX4_dayOn_120 (by decide) ?_
                exact ih53 (i53 + 1) S17 _ _ ls (by omega) (by (try rw [eS17]); (try rw [ev16]); (try rw [eT53_0]); rfl) (hGS17) hP hD hS (lv_sub hl [1, 2, 3, 0] rfl)
              refine lv_icmp_ge (tgt := 113) hx hb dX4_dayOn_86 (by decide) (fun c_18 => ?_) (fun c_18 => ?_)
              · refine lv_iconst (v := 0) hx hb dX4_dayOn_113 (by decide) ?_
                exact hjv16 _ _ _ (by simp only [if_pos c_18]) hP hD hS
              · refine lv_iload_n hx hb dX4_dayOn_89 rfl (lv_at hl 2 rfl) ?_
                refine lv_if_le (tgt := 113) hx hb dX4_dayOn_90 (by decide) (fun c_19 => ?_) (fun c_19 => ?_)
                · refine lv_iconst (v := 0) hx hb dX4_dayOn_113 (by decide) ?_
                  exact hjv16 _ _ _ (by simp only [if_neg c_18, if_pos c_19]) hP hD hS
                · refine lv_aload_n hx hb dX4_dayOn_93 rfl (lv_at hl 0 rfl) ?_
                  refine va_get (D := (dC, dI)) (ci := 4) (v := .ref (d 4)) (C := RX4) (T := TX4) (N := 7) hx hb hts hinX4 hown hK hP 0 rfl rfl 4 (by decide) hf19 (fun _ h9 => h9) rfl dX4_dayOn_94 ?_
                  refine lv_iload_n hx hb dX4_dayOn_97 rfl (lv_at hl 1 rfl) ?_
                  refine lv_iconst (v := 1) hx hb dX4_dayOn_98 (by decide) ?_
                  refine lv_iadd hx hb dX4_dayOn_99 ?_
                  refine va_iald (cA := cI) (n := 90) (f := T53_0 4) hx hb hK hP 4 0 rfl rfl (today_in hd (by omega) (j := 1) (by decide)) dX4_dayOn_100 ?_
                  refine lv_aload_n hx hb dX4_dayOn_101 rfl (lv_at hl 0 rfl) ?_
                  refine va_get (D := (dC, dI)) (ci := 4) (v := .ref (d 2)) (C := RX4) (T := TX4) (N := 7) hx hb hts hinX4 hown hK hP 0 rfl rfl 2 (by decide) hf13 (fun _ h9 => h9) rfl dX4_dayOn_102 ?_
                  refine lv_iload_n hx hb dX4_dayOn_105 rfl (lv_at hl 3 rfl) ?_
                  refine va_iald (cA := cI) (n := 8) (f := T53_0 2) hx hb hK hP 2 0 rfl rfl (by have h9 : i53 < w := (by rcases Nat.lt_or_ge i53 w with q | q; exact q; exact absurd (by rw [hGT53_0.2.1]; exact nI_le q (by omega)) c_18); exact vp_in_nI (by omega) (by decide)) dX4_dayOn_106 ?_
                  refine lv_imul hx hb dX4_dayOn_107 ?_
                  refine lv_iload_n hx hb dX4_dayOn_108 rfl (lv_at hl 2 rfl) ?_
                  refine lv_idiv hx hb dX4_dayOn_109 (fun h9 => c_19 (by rw [h9]; decide)) ?_
                  refine lv_goto (tgt := 114) hx hb dX4_dayOn_110 (by decide) ?_
                  exact hjv16 _ _ _ (by simp only [if_neg c_18, if_neg c_19]) hP hD hS
        exact lp53 (h * w) 0 S1 _ _ ls (by omega) rfl (hGS1) hP hD hS (lv_sub hl [1, 2, 3, 0] rfl)
      · exact absurd (by rw [show _ = nI (w) from hGS1.2.1]; exact nI_le (by omega) (by omega)) c_2
    | succ n26 ih26 =>
      intro i26 u26_2 H locs ls hi26 eu26_2 hP hD hS hl
      refine lv_iload_n hx hb dX4_dayOn_26 rfl (lv_at hl 3 rfl) ?_
      refine lv_aload_n hx hb dX4_dayOn_27 rfl (lv_at hl 0 rfl) ?_
      refine va_get (D := (dC, dI)) (ci := 4) (v := .ref (d 1)) (C := RX4) (T := TX4) (N := 7) hx hb hts hinX4 hown hK hP 0 rfl rfl 1 (by decide) hf9 (fun _ h9 => h9) rfl dX4_dayOn_28 ?_
      refine lv_iconst (v := 1) hx hb dX4_dayOn_31 (by decide) ?_
      refine va_ialdk 1 (cA := cI) (n := 7) (f := S1 1) hx hb hK hP 1 0 rfl rfl rfl (by decide) (by decide) dX4_dayOn_32 ?_
      refine lv_icmp_ge (tgt := 51) hx hb dX4_dayOn_33 (by decide) (fun c_20 => ?_) (fun c_20 => ?_)
      · exact absurd c_20 (by rw [show _ = nI (w) from hGS1.2.1]; exact nI_ge (by omega) (by omega))
      · refine lv_iload_n hx hb dX4_dayOn_36 rfl (lv_at hl 2 rfl) ?_
        refine lv_aload_n hx hb dX4_dayOn_37 rfl (lv_at hl 0 rfl) ?_
        refine va_get (D := (dC, dI)) (ci := 4) (v := .ref (d 2)) (C := RX4) (T := TX4) (N := 7) hx hb hts hinX4 hown hK hP 0 rfl rfl 2 (by decide) hf13 (fun _ h9 => h9) rfl dX4_dayOn_38 ?_
        refine lv_iload_n hx hb dX4_dayOn_41 rfl (lv_at hl 3 rfl) ?_
        refine va_iald (cA := cI) (n := 8) (f := S1 2) hx hb hK hP 2 0 rfl rfl (vp_in_nI (by omega) (by decide)) dX4_dayOn_42 ?_
        refine lv_iadd hx hb dX4_dayOn_43 ?_
        refine lv_istore_n (lv' := [(2, .int (u26_2 + (S1 2 (nI i26).toNatClampNeg))), (0, .ref (d 0)), (1, .int (mi_today O)), (3, .int (nI i26))]) hx hb dX4_dayOn_44 rfl hl (by decide) rfl (fun ls hl => ?_)
        refine lv_iinc (v := nI (i26 + 1)) (lv' := [(3, .int (nI (i26 + 1))), (2, .int (u26_2 + (S1 2 (nI i26).toNatClampNeg))), (0, .ref (d 0)), (1, .int (mi_today O))]) hx hb dX4_dayOn_45 hl (k := 3) rfl (show nI i26 + Int32.ofInt 1 = nI (i26 + 1) from nI_1 i26) (by decide) rfl (fun ls hl => ?_)
        refine lv_goto (tgt := 26) hx hb dX4_dayOn_48 (by decide) ?_
        exact ih26 (i26 + 1) (u26_2 + (S1 2 (nI i26).toNatClampNeg)) _ _ ls (by omega) (by (try rw [eu26_2]); rfl) hP hD hS (lv_sub hl [2, 3, 1, 0] rfl)
  exact lp26 (w) 0 0 _ _ ls (by omega) rfl hP hD hS (lv_sub hl [3, 2, 1, 0] rfl)

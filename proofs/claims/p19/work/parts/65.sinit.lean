def wsX4_init9 : List Cond := wsX4_init ++ [.classLink RX4 22 "[[[I"]
/-- what the constructor leaves -/
def smI (cI cR cF : ClassId) (q h w : Nat) (w1 : va_W) : Prop := ∃ (q1 q2 q3 : Nat) (r c c1 : Nat → Nat) (cf : Nat → Option Nat) (sh : Nat → Int32) (K G : Nat → Nat → Int32), w1 = smX cI cR cF q q1 q2 q3 h w 0 sh cf r ++ rg h r (smR cR w c h 0) ++ rg (h * w) c (smF cI G) ++ rg 30 c1 (smD cI K) ∧ ∀ i, i < h * w → G i 5 = 0
set_option maxHeartbeats 4000000 in
set_option maxRecDepth 100000 in
theorem c_X4_init (l : Launch) (dC : Nat → ClassId) (dI : Nat → Nat → Nat) (cI cR cF : ClassId) (q h w : Nat) (hh : 2 ≤ h) (hh5 : h ≤ 5) (hw : 2 ≤ w) (hw5 : w ≤ 5) : zE l yX4_init wsX4_init9 { frames := 1, cells := 70, slots := 500, locals := 20 } (dC, dI) cI cR cF [.ref q, .int (nI h), .int (nI w)] ([(q, .inr (4, [.int 0, .int 0, .int 0, .null, .null, .null, .int 0, .int 0, .int 0, .int 0]))] : va_W) (smI cI cR cF q h w) 70 500 := by
  refine zE_of (cc := cX4_init) (maxL := 5) (ret := none) (by decide) rfl (Nat.le_of_ble_eq_true rfl) ?_
  intro p e s m below meth c A ls C0 hK3 hG hl
  obtain ⟨hx, hb, hr, hml, hown, hts, hlocks, hK, hN, hA, hP, hD, hS⟩ := C0
  have hown : s.vm.findClass RX4 = some m.cls := hown
  have hl : lv_has ls 5 [(0, .ref q), (1, .int (nI h)), (2, .int (nI w))] := hl
  have hf9 := hts (.fieldLink RX4 9 "PaddyTerracesLaw$Sim" "calendar" "[[I") (by decide +kernel)
  have hf15 := hts (.fieldLink RX4 15 "PaddyTerracesLaw$Sim" "h" "I") (by decide +kernel)
  have hf19 := hts (.fieldLink RX4 19 "PaddyTerracesLaw$Sim" "w" "I") (by decide +kernel)
  have hf24 := hts (.fieldLink RX4 24 "PaddyTerracesLaw$Sim" "fields" "[[[I") (by decide +kernel)
  have hf27 := hts (.fieldLink RX4 27 "PaddyTerracesLaw$Sim" "shares" "[I") (by decide +kernel)
  have hac := hts (.arrayClass .int) (by decide +kernel)
  have hc_oi := hts (.code objectInit ⟨#[0xb1]⟩ 1 none) (by decide +kernel)
  have hk22 := hts (.classLink RX4 22 "[[[I") (by decide +kernel)
  have hk7 := hts (.classLink RX4 7 "[I") (by decide +kernel)
  have hm_oi := hts (.methodLink RX4 1 objectInit) (by decide +kernel)
  have hs_oi := hts (.instanceMethod objectInit) (by decide +kernel)
  have hinX4 : ∀ w ∈ wsX40, w ∈ wsX4_init9 := by decide +kernel
  have hN25 : h * w ≤ 25 := Nat.mul_le_mul hh5 hw5
  refine lv_aload_n hx hb dX4_init_0 rfl (lv_at hl 0 rfl) ?_
  refine W.objInit hx hb hown hm_oi hs_oi hc_oi rfl (by rw [hml]; exact hl.1) rfl dX4_init_1 (Nat.le_of_ble_eq_true rfl) (Nat.le_of_ble_eq_true rfl) ?_
  refine W.eq (g2 := F0 m 4 ls []) rfl ?_
  refine lv_aload_n hx hb dX4_init_4 rfl (lv_at hl 0 rfl) ?_
  refine lv_bipush (v := 30) hx hb dX4_init_5 (by decide) ?_
  refine za_newR hx hb hown hk7 hG hK3 1 rfl hP hD hS hA (n := 30) (N' := 30) (by decide) rfl (Nat.le_of_ble_eq_true rfl) (Nat.le_of_ble_eq_true rfl) (Nat.le_of_ble_eq_true rfl) dX4_init_7 (fun q2 H hP hD hS => ?_)
  have hP : va_P (dC, dI) vwCl (([(q, .inr (4, [.int 0, .int 0, .int 0, .null, .null, .null, .int 0, .int 0, .int 0, .int 0])), (q2, za_q cR 30 (fun _ => none))] : va_W)) H := hP
  have hD : va_D A (([(q, .inr (4, [.int 0, .int 0, .int 0, .null, .null, .null, .int 0, .int 0, .int 0, .int 0])), (q2, za_q cR 30 (fun _ => none))] : va_W)) := hD
  refine va_put (D := (dC, dI)) (ci := 4) (v := .ref q2) (ty := (.array (.array .int))) (C := RX4) (T := TX4) (N := 10) hx hb hts hinX4 tyX4 tyX4_ok nmX4 hown hK hP hD hS 0 rfl rfl 5 (by decide) hf9 (fun _ h9 => h9) rfl (by decide +kernel) rfl rfl (Nat.le_of_ble_eq_true rfl) dX4_init_10 (fun H locs hP hD hS => ?_)
  have hP : va_P (dC, dI) vwCl (([(q, .inr (4, [.int 0, .int 0, .int 0, .null, .null, .ref q2, .int 0, .int 0, .int 0, .int 0])), (q2, za_q cR 30 (fun _ => none))] : va_W)) H := hP
  have hD : va_D A (([(q, .inr (4, [.int 0, .int 0, .int 0, .null, .null, .ref q2, .int 0, .int 0, .int 0, .int 0])), (q2, za_q cR 30 (fun _ => none))] : va_W)) := hD
  refine lv_aload_n hx hb dX4_init_13 rfl (lv_at hl 0 rfl) ?_
  refine lv_iload_n hx hb dX4_init_14 rfl (lv_at hl 1 rfl) ?_
  refine va_put (D := (dC, dI)) (ci := 4) (v := .int (nI h)) (ty := .int) (C := RX4) (T := TX4) (N := 10) hx hb hts hinX4 tyX4 tyX4_ok nmX4 hown hK hP hD hS 0 rfl rfl 0 (by decide) hf15 (fun _ h9 => h9) rfl (by decide +kernel) rfl rfl (Nat.le_of_ble_eq_true rfl) dX4_init_15 (fun H locs hP hD hS => ?_)
  have hP : va_P (dC, dI) vwCl (([(q, .inr (4, [.int (nI h), .int 0, .int 0, .null, .null, .ref q2, .int 0, .int 0, .int 0, .int 0])), (q2, za_q cR 30 (fun _ => none))] : va_W)) H := hP
  have hD : va_D A (([(q, .inr (4, [.int (nI h), .int 0, .int 0, .null, .null, .ref q2, .int 0, .int 0, .int 0, .int 0])), (q2, za_q cR 30 (fun _ => none))] : va_W)) := hD
  refine lv_aload_n hx hb dX4_init_18 rfl (lv_at hl 0 rfl) ?_
  refine lv_iload_n hx hb dX4_init_19 rfl (lv_at hl 2 rfl) ?_
  refine va_put (D := (dC, dI)) (ci := 4) (v := .int (nI w)) (ty := .int) (C := RX4) (T := TX4) (N := 10) hx hb hts hinX4 tyX4 tyX4_ok nmX4 hown hK hP hD hS 0 rfl rfl 1 (by decide) hf19 (fun _ h9 => h9) rfl (by decide +kernel) rfl rfl (Nat.le_of_ble_eq_true rfl) dX4_init_20 (fun H locs hP hD hS => ?_)
  have hP : va_P (dC, dI) vwCl (([(q, .inr (4, [.int (nI h), .int (nI w), .int 0, .null, .null, .ref q2, .int 0, .int 0, .int 0, .int 0])), (q2, za_q cR 30 (fun _ => none))] : va_W)) H := hP
  have hD : va_D A (([(q, .inr (4, [.int (nI h), .int (nI w), .int 0, .null, .null, .ref q2, .int 0, .int 0, .int 0, .int 0])), (q2, za_q cR 30 (fun _ => none))] : va_W)) := hD
  refine lv_aload_n hx hb dX4_init_23 rfl (lv_at hl 0 rfl) ?_
  refine lv_iload_n hx hb dX4_init_24 rfl (lv_at hl 1 rfl) ?_
  refine lv_iload_n hx hb dX4_init_25 rfl (lv_at hl 2 rfl) ?_
  refine za_multi hx hb hown hk22 hG hK3 1 2 rfl rfl hP hD hS hA (n := h) (k := w) (by omega) (by omega) (by show _ ≤ 70; omega) (by show _ ≤ 500; omega) dX4_init_26 (fun q3 r H hP hD hS => ?_)
  have hP : va_P (dC, dI) vwCl (([(q, .inr (4, [.int (nI h), .int (nI w), .int 0, .null, .null, .ref q2, .int 0, .int 0, .int 0, .int 0])), (q2, za_q cR 30 (fun _ => none)), (q3, za_q cF h (fun j => if j < h then some (r j) else none))] : va_W) ++ rg h r (fun _ => za_q cR w (fun _ => none))) H := hP
  have hD : va_D A (([(q, .inr (4, [.int (nI h), .int (nI w), .int 0, .null, .null, .ref q2, .int 0, .int 0, .int 0, .int 0])), (q2, za_q cR 30 (fun _ => none)), (q3, za_q cF h (fun j => if j < h then some (r j) else none))] : va_W) ++ rg h r (fun _ => za_q cR w (fun _ => none))) := hD
  refine va_put (D := (dC, dI)) (ci := 4) (v := .ref q3) (ty := (.array (.array (.array .int)))) (C := RX4) (T := TX4) (N := 10) hx hb hts hinX4 tyX4 tyX4_ok nmX4 hown hK hP hD hS 0 rfl rfl 3 (by decide) hf24 (fun _ h9 => h9) rfl (by decide +kernel) rfl rfl (Nat.le_of_ble_eq_true rfl) dX4_init_30 (fun H locs hP hD hS => ?_)
  have hP : va_P (dC, dI) vwCl (([(q, .inr (4, [.int (nI h), .int (nI w), .int 0, .ref q3, .null, .ref q2, .int 0, .int 0, .int 0, .int 0])), (q2, za_q cR 30 (fun _ => none)), (q3, za_q cF h (fun j => if j < h then some (r j) else none))] : va_W) ++ rg h r (fun _ => za_q cR w (fun _ => none))) H := hP
  have hD : va_D A (([(q, .inr (4, [.int (nI h), .int (nI w), .int 0, .ref q3, .null, .ref q2, .int 0, .int 0, .int 0, .int 0])), (q2, za_q cR 30 (fun _ => none)), (q3, za_q cF h (fun j => if j < h then some (r j) else none))] : va_W) ++ rg h r (fun _ => za_q cR w (fun _ => none))) := hD
  refine lv_aload_n hx hb dX4_init_33 rfl (lv_at hl 0 rfl) ?_
  refine lv_iload_n hx hb dX4_init_34 rfl (lv_at hl 2 rfl) ?_
  refine va_newa (atype := .int) (ty := .int) (n := nI w) (N' := w) (a0 := (w, .inl (fun _ => 0))) hx hb hac rfl hK hP hD hS hA (fun cA => rfl) (nI_pos (by omega)) (nI_clamp (by omega)) (by show _ * 4 ≤ 536870912; omega) (by show _ ≤ 70; omega) (by show _ ≤ 500; omega) dX4_init_35 (fun q1 cA H hK9 hP hD hS => ?_)
  obtain rfl : cI = cA := (z_cI hK9).symm
  have hP : va_P (dC, dI) vwCl (([(q, .inr (4, [.int (nI h), .int (nI w), .int 0, .ref q3, .null, .ref q2, .int 0, .int 0, .int 0, .int 0])), (q2, za_q cR 30 (fun _ => none)), (q3, za_q cF h (fun j => if j < h then some (r j) else none)), (q1, .inl (cI, w, .inl (fun _ => 0)))] : va_W) ++ rg h r (fun _ => za_q cR w (fun _ => none))) H := z_Psw hP
  have hD : va_D A (([(q, .inr (4, [.int (nI h), .int (nI w), .int 0, .ref q3, .null, .ref q2, .int 0, .int 0, .int 0, .int 0])), (q2, za_q cR 30 (fun _ => none)), (q3, za_q cF h (fun j => if j < h then some (r j) else none)), (q1, .inl (cI, w, .inl (fun _ => 0)))] : va_W) ++ rg h r (fun _ => za_q cR w (fun _ => none))) := z_Dsw hD
  refine va_put (D := (dC, dI)) (ci := 4) (v := .ref q1) (ty := (.array .int)) (C := RX4) (T := TX4) (N := 10) hx hb hts hinX4 tyX4 tyX4_ok nmX4 hown hK hP hD hS 0 rfl rfl 4 (by decide) hf27 (fun _ h9 => h9) rfl (by decide +kernel) rfl rfl (Nat.le_of_ble_eq_true rfl) dX4_init_37 (fun H locs hP hD hS => ?_)
  have hP : va_P (dC, dI) vwCl (([(q, .inr (4, [.int (nI h), .int (nI w), .int 0, .ref q3, .ref q1, .ref q2, .int 0, .int 0, .int 0, .int 0])), (q2, za_q cR 30 (fun _ => none)), (q3, za_q cF h (fun j => if j < h then some (r j) else none)), (q1, .inl (cI, w, .inl (fun _ => 0)))] : va_W) ++ rg h r (fun _ => za_q cR w (fun _ => none))) H := hP
  have hD : va_D A (([(q, .inr (4, [.int (nI h), .int (nI w), .int 0, .ref q3, .ref q1, .ref q2, .int 0, .int 0, .int 0, .int 0])), (q2, za_q cR 30 (fun _ => none)), (q3, za_q cF h (fun j => if j < h then some (r j) else none)), (q1, .inl (cI, w, .inl (fun _ => 0)))] : va_W) ++ rg h r (fun _ => za_q cR w (fun _ => none))) := hD
  refine lv_iconst (v := 0) hx hb dX4_init_40 (by decide) ?_
  refine lv_istore_n (lv' := [(3, .int 0), (0, .ref q), (1, .int (nI h)), (2, .int (nI w))]) hx hb dX4_init_41 rfl hl (by decide) rfl (fun ls hl => ?_)
  have lp42 : ∀ (n42 i42 : Nat) (sh : Nat → Int32) (H : Heap) (locs : List Loc) (ls : Array Slot), i42 + n42 = w → va_P (dC, dI) vwCl (([(q, .inr (4, [.int (nI h), .int (nI w), .int 0, .ref q3, .ref q1, .ref q2, .int 0, .int 0, .int 0, .int 0])), (q2, za_q cR 30 (fun _ => none)), (q3, za_q cF h (fun j => if j < h then some (r j) else none)), (q1, .inl (cI, w, .inl (sh)))] : va_W) ++ rg h r (fun _ => za_q cR w (fun _ => none))) H → va_D A (([(q, .inr (4, [.int (nI h), .int (nI w), .int 0, .ref q3, .ref q1, .ref q2, .int 0, .int 0, .int 0, .int 0])), (q2, za_q cR 30 (fun _ => none)), (q3, za_q cF h (fun j => if j < h then some (r j) else none)), (q1, .inl (cI, w, .inl (sh)))] : va_W) ++ rg h r (fun _ => za_q cR w (fun _ => none))) → va_S A s.heap H locs → lv_has ls 5 [(0, .ref q), (1, .int (nI h)), (2, .int (nI w)), (3, .int (nI i42))] → W p l e ({ frames := 1, cells := 70, slots := 500, locals := 20 } : Room) s m [.ref q, .int (nI h), .int (nI w)].toArray below meth c H locs (10) (70) (zEq (dC, dI) A (smI cI cR cF q h w) below [.ref q, .int (nI h), .int (nI w)].toArray s 70 500) (F0 m 42 ls []) := by
    intro n42
    induction n42 with
    | zero =>
      intro i42 sh H locs ls hi42  hP hD hS hl
      obtain rfl : w = i42 := by omega
      refine lv_iload_n hx hb dX4_init_42 rfl (lv_at hl 3 rfl) ?_
      refine lv_iload_n hx hb dX4_init_43 rfl (lv_at hl 2 rfl) ?_
      refine lv_icmp_ge (tgt := 60) hx hb dX4_init_44 (by decide) (fun c_1 => ?_) (fun c_1 => ?_)
      · refine lv_iconst (v := 0) hx hb dX4_init_60 (by decide) ?_
        refine lv_istore_n (lv' := [(3, .int 0), (0, .ref q), (1, .int (nI h)), (2, .int (nI w))]) hx hb dX4_init_61 rfl hl (by decide) rfl (fun ls hl => ?_)
        have hP : va_P (dC, dI) vwCl (([(q, .inr (4, [.int (nI h), .int (nI w), .int 0, .ref q3, .ref q1, .ref q2, .int 0, .int 0, .int 0, .int 0])), (q2, za_q cR 30 (fun _ => none)), (q3, za_q cF h (fun j => if j < h then some (r j) else none)), (q1, .inl (cI, w, .inl (sh)))] : va_W) ++ rg h r (smR cR w (fun _ => 0) 0 0) ++ rg (0) (fun _ => 0) (smF cI (fun _ _ => 0)) ++ rg 0 (fun _ => 0) (smD cI (fun _ _ => 0))) H := by rw [smR_0 (c := fun _ => 0)] at hP; simpa only [rg_0, List.append_nil] using hP
        have hD : va_D A (([(q, .inr (4, [.int (nI h), .int (nI w), .int 0, .ref q3, .ref q1, .ref q2, .int 0, .int 0, .int 0, .int 0])), (q2, za_q cR 30 (fun _ => none)), (q3, za_q cF h (fun j => if j < h then some (r j) else none)), (q1, .inl (cI, w, .inl (sh)))] : va_W) ++ rg h r (smR cR w (fun _ => 0) 0 0) ++ rg (0) (fun _ => 0) (smF cI (fun _ _ => 0)) ++ rg 0 (fun _ => 0) (smD cI (fun _ _ => 0))) := by rw [smR_0 (c := fun _ => 0)] at hD; simpa only [rg_0, List.append_nil] using hD
        have lp62 : ∀ (n62 i62 : Nat) (cf : Nat → Option Nat) (c1 : Nat → Nat) (K : Nat → Nat → Int32) (H : Heap) (locs : List Loc) (ls : Array Slot), i62 + n62 = 30 → va_P (dC, dI) vwCl (([(q, .inr (4, [.int (nI h), .int (nI w), .int 0, .ref q3, .ref q1, .ref q2, .int 0, .int 0, .int 0, .int 0])), (q2, za_q cR 30 (cf)), (q3, za_q cF h (fun j => if j < h then some (r j) else none)), (q1, .inl (cI, w, .inl (sh)))] : va_W) ++ rg h r (smR cR w (fun _ => 0) 0 0) ++ rg (0) (fun _ => 0) (smF cI (fun _ _ => 0)) ++ rg i62 c1 (smD cI K)) H → va_D A (([(q, .inr (4, [.int (nI h), .int (nI w), .int 0, .ref q3, .ref q1, .ref q2, .int 0, .int 0, .int 0, .int 0])), (q2, za_q cR 30 (cf)), (q3, za_q cF h (fun j => if j < h then some (r j) else none)), (q1, .inl (cI, w, .inl (sh)))] : va_W) ++ rg h r (smR cR w (fun _ => 0) 0 0) ++ rg (0) (fun _ => 0) (smF cI (fun _ _ => 0)) ++ rg i62 c1 (smD cI K)) → va_S A s.heap H locs → lv_has ls 5 [(0, .ref q), (1, .int (nI h)), (2, .int (nI w)), (3, .int (nI i62))] → W p l e ({ frames := 1, cells := 70, slots := 500, locals := 20 } : Room) s m [.ref q, .int (nI h), .int (nI w)].toArray below meth c H locs (10 + i62) (70 + 3 * i62) (zEq (dC, dI) A (smI cI cR cF q h w) below [.ref q, .int (nI h), .int (nI w)].toArray s 70 500) (F0 m 62 ls []) := by
          intro n62
          induction n62 with
          | zero =>
            intro i62 cf c1 K H locs ls hi62  hP hD hS hl
            have h962 : i62 = 30 := by omega
            refine lv_iload_n hx hb dX4_init_62 rfl (lv_at hl 3 rfl) ?_
            refine lv_bipush (v := 30) hx hb dX4_init_63 (by decide) ?_
            refine lv_icmp_ge (tgt := 96) hx hb dX4_init_65 (by decide) (fun c_2 => ?_) (fun c_2 => ?_)
            · refine lv_iconst (v := 0) hx hb dX4_init_96 (by decide) ?_
              refine lv_istore_n (lv' := [(3, .int 0), (0, .ref q), (1, .int (nI h)), (2, .int (nI w))]) hx hb dX4_init_97 rfl hl (by decide) rfl (fun ls hl => ?_)
              have hP : va_P (dC, dI) vwCl (([(q, .inr (4, [.int (nI h), .int (nI w), .int 0, .ref q3, .ref q1, .ref q2, .int 0, .int 0, .int 0, .int 0])), (q2, za_q cR 30 (cf)), (q3, za_q cF h (fun j => if j < h then some (r j) else none)), (q1, .inl (cI, w, .inl (sh)))] : va_W) ++ rg h r (smR cR w (fun _ => 0) 0 0) ++ rg (0 * w) (fun _ => 0) (smF cI (fun _ _ => 0)) ++ rg 30 c1 (smD cI K)) H := by rw [Nat.zero_mul]; rw [h962] at hP; exact hP
              have hD : va_D A (([(q, .inr (4, [.int (nI h), .int (nI w), .int 0, .ref q3, .ref q1, .ref q2, .int 0, .int 0, .int 0, .int 0])), (q2, za_q cR 30 (cf)), (q3, za_q cF h (fun j => if j < h then some (r j) else none)), (q1, .inl (cI, w, .inl (sh)))] : va_W) ++ rg h r (smR cR w (fun _ => 0) 0 0) ++ rg (0 * w) (fun _ => 0) (smF cI (fun _ _ => 0)) ++ rg 30 c1 (smD cI K)) := by rw [Nat.zero_mul]; rw [h962] at hD; exact hD
              have lp98 : ∀ (n98 i98 : Nat) (ad : Nat → Nat) (G : Nat → Nat → Int32) (H : Heap) (locs : List Loc) (ls : Array Slot), i98 + n98 = h → (∀ i, i < i98 * w → G i 5 = 0) → va_P (dC, dI) vwCl (([(q, .inr (4, [.int (nI h), .int (nI w), .int 0, .ref q3, .ref q1, .ref q2, .int 0, .int 0, .int 0, .int 0])), (q2, za_q cR 30 (cf)), (q3, za_q cF h (fun j => if j < h then some (r j) else none)), (q1, .inl (cI, w, .inl (sh)))] : va_W) ++ rg h r (smR cR w ad i98 0) ++ rg (i98 * w) ad (smF cI G) ++ rg 30 c1 (smD cI K)) H → va_D A (([(q, .inr (4, [.int (nI h), .int (nI w), .int 0, .ref q3, .ref q1, .ref q2, .int 0, .int 0, .int 0, .int 0])), (q2, za_q cR 30 (cf)), (q3, za_q cF h (fun j => if j < h then some (r j) else none)), (q1, .inl (cI, w, .inl (sh)))] : va_W) ++ rg h r (smR cR w ad i98 0) ++ rg (i98 * w) ad (smF cI G) ++ rg 30 c1 (smD cI K)) → va_S A s.heap H locs → lv_has ls 5 [(0, .ref q), (1, .int (nI h)), (2, .int (nI w)), (3, .int (nI i98))] → W p l e ({ frames := 1, cells := 70, slots := 500, locals := 20 } : Room) s m [.ref q, .int (nI h), .int (nI w)].toArray below meth c H locs (40 + 5 * i98) (160 + 60 * i98) (zEq (dC, dI) A (smI cI cR cF q h w) below [.ref q, .int (nI h), .int (nI w)].toArray s 70 500) (F0 m 98 ls []) := by
                intro n98
                induction n98 with
                | zero =>
                  intro i98 ad G H locs ls hi98 hG5 hP hD hS hl
                  obtain rfl : h = i98 := by omega
                  refine lv_iload_n hx hb dX4_init_98 rfl (lv_at hl 3 rfl) ?_
                  refine lv_iload_n hx hb dX4_init_99 rfl (lv_at hl 1 rfl) ?_
                  refine lv_icmp_ge (tgt := 193) hx hb dX4_init_100 (by decide) (fun c_3 => ?_) (fun c_3 => ?_)
                  · exact zE_ret ⟨q1, q2, q3, r, ad, c1, cf, sh, K, G, rfl, hG5⟩ hx hb hr hlocks hP hD hS (by omega) (by omega) dX4_init_193
                  · exact absurd (show nI (h) ≤ nI h from nI_le (by omega) (by omega)) c_3
                | succ n98 ih98 =>
                  intro i98 ad G H locs ls hi98 hG5 hP hD hS hl
                  refine lv_iload_n hx hb dX4_init_98 rfl (lv_at hl 3 rfl) ?_
                  refine lv_iload_n hx hb dX4_init_99 rfl (lv_at hl 1 rfl) ?_
                  refine lv_icmp_ge (tgt := 193) hx hb dX4_init_100 (by decide) (fun c_4 => ?_) (fun c_4 => ?_)
                  · exact absurd c_4 (show ¬ nI (h) ≤ nI i98 from nI_ge (by omega) (by omega))
                  · refine lv_iconst (v := 0) hx hb dX4_init_103 (by decide) ?_
                    refine lv_istore (lv' := [(4, .int 0), (0, .ref q), (1, .int (nI h)), (2, .int (nI w)), (3, .int (nI i98))]) hx hb dX4_init_104 hl (by decide) rfl (fun ls hl => ?_)
                    have lp106 : ∀ (n106 i106 : Nat) (ad : Nat → Nat) (G : Nat → Nat → Int32) (H : Heap) (locs : List Loc) (ls : Array Slot), i106 + n106 = w → (∀ i, i < i98 * w + i106 → G i 5 = 0) → va_P (dC, dI) vwCl (([(q, .inr (4, [.int (nI h), .int (nI w), .int 0, .ref q3, .ref q1, .ref q2, .int 0, .int 0, .int 0, .int 0])), (q2, za_q cR 30 (cf)), (q3, za_q cF h (fun j => if j < h then some (r j) else none)), (q1, .inl (cI, w, .inl (sh)))] : va_W) ++ rg h r (smR cR w ad i98 i106) ++ rg (i98 * w + i106) ad (smF cI G) ++ rg 30 c1 (smD cI K)) H → va_D A (([(q, .inr (4, [.int (nI h), .int (nI w), .int 0, .ref q3, .ref q1, .ref q2, .int 0, .int 0, .int 0, .int 0])), (q2, za_q cR 30 (cf)), (q3, za_q cF h (fun j => if j < h then some (r j) else none)), (q1, .inl (cI, w, .inl (sh)))] : va_W) ++ rg h r (smR cR w ad i98 i106) ++ rg (i98 * w + i106) ad (smF cI G) ++ rg 30 c1 (smD cI K)) → va_S A s.heap H locs → lv_has ls 5 [(0, .ref q), (1, .int (nI h)), (2, .int (nI w)), (3, .int (nI i98)), (4, .int (nI i106))] → W p l e ({ frames := 1, cells := 70, slots := 500, locals := 20 } : Room) s m [.ref q, .int (nI h), .int (nI w)].toArray below meth c H locs (40 + 5 * i98 + i106) (160 + 60 * i98 + 12 * i106) (zEq (dC, dI) A (smI cI cR cF q h w) below [.ref q, .int (nI h), .int (nI w)].toArray s 70 500) (F0 m 106 ls []) := by
                      intro n106
                      induction n106 with
                      | zero =>
                        intro i106 ad G H locs ls hi106 hG6 hP hD hS hl
                        obtain rfl : w = i106 := by omega
                        refine lv_iload hx hb dX4_init_106 (lv_at hl 4 rfl) ?_
                        refine lv_iload_n hx hb dX4_init_108 rfl (lv_at hl 2 rfl) ?_
                        refine lv_icmp_ge (tgt := 187) hx hb dX4_init_109 (by decide) (fun c_5 => ?_) (fun c_5 => ?_)
                        · rw [← Nat.succ_mul] at hG6
                          have hP : va_P (dC, dI) vwCl (([(q, .inr (4, [.int (nI h), .int (nI w), .int 0, .ref q3, .ref q1, .ref q2, .int 0, .int 0, .int 0, .int 0])), (q2, za_q cR 30 (cf)), (q3, za_q cF h (fun j => if j < h then some (r j) else none)), (q1, .inl (cI, w, .inl (sh)))] : va_W) ++ rg h r (smR cR w ad (i98 + 1) 0) ++ rg ((i98 + 1) * w) ad (smF cI G) ++ rg 30 c1 (smD cI K)) H := by rw [← smR_row, Nat.succ_mul]; exact hP
                          have hD : va_D A (([(q, .inr (4, [.int (nI h), .int (nI w), .int 0, .ref q3, .ref q1, .ref q2, .int 0, .int 0, .int 0, .int 0])), (q2, za_q cR 30 (cf)), (q3, za_q cF h (fun j => if j < h then some (r j) else none)), (q1, .inl (cI, w, .inl (sh)))] : va_W) ++ rg h r (smR cR w ad (i98 + 1) 0) ++ rg ((i98 + 1) * w) ad (smF cI G) ++ rg 30 c1 (smD cI K)) := by rw [← smR_row, Nat.succ_mul]; exact hD
                          refine lv_iinc (v := nI (i98 + 1)) (lv' := [(3, .int (nI (i98 + 1))), (0, .ref q), (1, .int (nI h)), (2, .int (nI w)), (4, .int (nI w))]) hx hb dX4_init_187 hl (k := 3) rfl (show nI i98 + Int32.ofInt 1 = nI (i98 + 1) from nI_1 i98) (by decide) rfl (fun ls hl => ?_)
                          refine lv_goto (tgt := 98) hx hb dX4_init_190 (by decide) ?_
                          refine W.widen (k := 40 + 5 * (i98 + 1)) (n := 160 + 60 * (i98 + 1)) (by omega) (by omega) ?_
                          exact ih98 (i98 + 1) _ _ _ _ ls (by omega) hG6 hP hD hS (lv_sub hl [1, 2, 3, 0] rfl)
                        · exact absurd (show nI (w) ≤ nI w from nI_le (by omega) (by omega)) c_5
                      | succ n106 ih106 =>
                        intro i106 ad G H locs ls hi106 hG6 hP hD hS hl
                        refine lv_iload hx hb dX4_init_106 (lv_at hl 4 rfl) ?_
                        refine lv_iload_n hx hb dX4_init_108 rfl (lv_at hl 2 rfl) ?_
                        refine lv_icmp_ge (tgt := 187) hx hb dX4_init_109 (by decide) (fun c_6 => ?_) (fun c_6 => ?_)
                        · exact absurd c_6 (show ¬ nI (w) ≤ nI i106 from nI_ge (by omega) (by omega))
                        · refine lv_aload_n hx hb dX4_init_112 rfl (lv_at hl 0 rfl) ?_
                          refine va_get (D := (dC, dI)) (ci := 4) (v := .ref q3) (C := RX4) (T := TX4) (N := 10) hx hb hts hinX4 hown hK hP 0 rfl rfl 3 (by decide) hf24 (fun _ h9 => h9) rfl dX4_init_113 ?_
                          refine lv_iload_n hx hb dX4_init_116 rfl (lv_at hl 3 rfl) ?_
                          refine za_ald hx hb hK3 hP 2 2 (cA := cF) (n := h) (v := r i98) (f := fun j => if j < h then some (r j) else none) rfl rfl (vp_in_nI (by omega) (by omega)) (by rw [nI_clamp (by omega)]; exact if_pos (by omega)) dX4_init_117 ?_
                          refine lv_iload hx hb dX4_init_118 (lv_at hl 4 rfl) ?_
                          refine lv_bipush (v := 12) hx hb dX4_init_120 (by decide) ?_
                          refine va_newa (atype := .int) (ty := .int) (n := 12) (N' := 12) (a0 := (12, .inl (fun _ => 0))) hx hb hac rfl hK hP hD hS hA (fun cA => rfl) (by decide) rfl (by show _ * 4 ≤ 536870912; omega) (by show _ ≤ 70; omega) (by show _ ≤ 500; omega) dX4_init_122 (fun q9 cA H hK9 hP hD hS => ?_)
                          obtain rfl : cI = cA := (z_cI hK9).symm
                          have hP : va_P (dC, dI) vwCl (([(q9, .inl (cI, 12, .inl (fun _ => 0)))] : va_W) ++ ([(q, .inr (4, [.int (nI h), .int (nI w), .int 0, .ref q3, .ref q1, .ref q2, .int 0, .int 0, .int 0, .int 0])), (q2, za_q cR 30 (cf)), (q3, za_q cF h (fun j => if j < h then some (r j) else none)), (q1, .inl (cI, w, .inl (sh)))] : va_W) ++ rg h r (smR cR w ad i98 i106) ++ rg (i98 * w + i106) ad (smF cI G) ++ rg 30 c1 (smD cI K)) H := by simpa only [List.append_assoc] using z_rotP' hP
                          have hD : va_D A (([(q9, .inl (cI, 12, .inl (fun _ => 0)))] : va_W) ++ ([(q, .inr (4, [.int (nI h), .int (nI w), .int 0, .ref q3, .ref q1, .ref q2, .int 0, .int 0, .int 0, .int 0])), (q2, za_q cR 30 (cf)), (q3, za_q cF h (fun j => if j < h then some (r j) else none)), (q1, .inl (cI, w, .inl (sh)))] : va_W) ++ rg h r (smR cR w ad i98 i106) ++ rg (i98 * w + i106) ad (smF cI G) ++ rg 30 c1 (smD cI K)) := by simpa only [List.append_assoc] using z_rotD' hD
                          refine lv_dup hx hb dX4_init_124 rfl ?_
                          refine lv_iconst (v := 0) hx hb dX4_init_125 (by decide) ?_
                          refine lv_iconst (v := 0) hx hb dX4_init_126 (by decide) ?_
                          refine va_iastk 0 (cA := cI) (n := 12) (f := (fun _ => 0)) hx hb hK hP hD hS 0 0 rfl rfl rfl (by decide) (by decide) dX4_init_127 (fun H locs hP hD hS => ?_)
                          have hP : va_P (dC, dI) vwCl (([(q9, .inl (cI, 12, .inl (upd (fun _ => 0) 0 0)))] : va_W) ++ ([(q, .inr (4, [.int (nI h), .int (nI w), .int 0, .ref q3, .ref q1, .ref q2, .int 0, .int 0, .int 0, .int 0])), (q2, za_q cR 30 (cf)), (q3, za_q cF h (fun j => if j < h then some (r j) else none)), (q1, .inl (cI, w, .inl (sh)))] : va_W) ++ rg h r (smR cR w ad i98 i106) ++ rg (i98 * w + i106) ad (smF cI G) ++ rg 30 c1 (smD cI K)) H := hP
                          have hD : va_D A (([(q9, .inl (cI, 12, .inl (upd (fun _ => 0) 0 0)))] : va_W) ++ ([(q, .inr (4, [.int (nI h), .int (nI w), .int 0, .ref q3, .ref q1, .ref q2, .int 0, .int 0, .int 0, .int 0])), (q2, za_q cR 30 (cf)), (q3, za_q cF h (fun j => if j < h then some (r j) else none)), (q1, .inl (cI, w, .inl (sh)))] : va_W) ++ rg h r (smR cR w ad i98 i106) ++ rg (i98 * w + i106) ad (smF cI G) ++ rg 30 c1 (smD cI K)) := hD
                          refine lv_dup hx hb dX4_init_128 rfl ?_
                          refine lv_iconst (v := 1) hx hb dX4_init_129 (by decide) ?_
                          refine lv_bipush (v := 60) hx hb dX4_init_130 (by decide) ?_
                          refine va_iastk 1 (cA := cI) (n := 12) (f := (upd (fun _ => 0) 0 0)) hx hb hK hP hD hS 0 0 rfl rfl rfl (by decide) (by decide) dX4_init_132 (fun H locs hP hD hS => ?_)
                          have hP : va_P (dC, dI) vwCl (([(q9, .inl (cI, 12, .inl (upd (upd (fun _ => 0) 0 0) 1 60)))] : va_W) ++ ([(q, .inr (4, [.int (nI h), .int (nI w), .int 0, .ref q3, .ref q1, .ref q2, .int 0, .int 0, .int 0, .int 0])), (q2, za_q cR 30 (cf)), (q3, za_q cF h (fun j => if j < h then some (r j) else none)), (q1, .inl (cI, w, .inl (sh)))] : va_W) ++ rg h r (smR cR w ad i98 i106) ++ rg (i98 * w + i106) ad (smF cI G) ++ rg 30 c1 (smD cI K)) H := hP
                          have hD : va_D A (([(q9, .inl (cI, 12, .inl (upd (upd (fun _ => 0) 0 0) 1 60)))] : va_W) ++ ([(q, .inr (4, [.int (nI h), .int (nI w), .int 0, .ref q3, .ref q1, .ref q2, .int 0, .int 0, .int 0, .int 0])), (q2, za_q cR 30 (cf)), (q3, za_q cF h (fun j => if j < h then some (r j) else none)), (q1, .inl (cI, w, .inl (sh)))] : va_W) ++ rg h r (smR cR w ad i98 i106) ++ rg (i98 * w + i106) ad (smF cI G) ++ rg 30 c1 (smD cI K)) := hD
                          refine lv_dup hx hb dX4_init_133 rfl ?_
                          refine lv_iconst (v := 2) hx hb dX4_init_134 (by decide) ?_
                          refine lv_iconst (v := 2) hx hb dX4_init_135 (by decide) ?_
                          refine va_iastk 2 (cA := cI) (n := 12) (f := (upd (upd (fun _ => 0) 0 0) 1 60)) hx hb hK hP hD hS 0 0 rfl rfl rfl (by decide) (by decide) dX4_init_136 (fun H locs hP hD hS => ?_)
                          have hP : va_P (dC, dI) vwCl (([(q9, .inl (cI, 12, .inl (upd (upd (upd (fun _ => 0) 0 0) 1 60) 2 2)))] : va_W) ++ ([(q, .inr (4, [.int (nI h), .int (nI w), .int 0, .ref q3, .ref q1, .ref q2, .int 0, .int 0, .int 0, .int 0])), (q2, za_q cR 30 (cf)), (q3, za_q cF h (fun j => if j < h then some (r j) else none)), (q1, .inl (cI, w, .inl (sh)))] : va_W) ++ rg h r (smR cR w ad i98 i106) ++ rg (i98 * w + i106) ad (smF cI G) ++ rg 30 c1 (smD cI K)) H := hP
                          have hD : va_D A (([(q9, .inl (cI, 12, .inl (upd (upd (upd (fun _ => 0) 0 0) 1 60) 2 2)))] : va_W) ++ ([(q, .inr (4, [.int (nI h), .int (nI w), .int 0, .ref q3, .ref q1, .ref q2, .int 0, .int 0, .int 0, .int 0])), (q2, za_q cR 30 (cf)), (q3, za_q cF h (fun j => if j < h then some (r j) else none)), (q1, .inl (cI, w, .inl (sh)))] : va_W) ++ rg h r (smR cR w ad i98 i106) ++ rg (i98 * w + i106) ad (smF cI G) ++ rg 30 c1 (smD cI K)) := hD
                          refine lv_dup hx hb dX4_init_137 rfl ?_
                          refine lv_iconst (v := 3) hx hb dX4_init_138 (by decide) ?_
                          refine lv_bipush (v := 30) hx hb dX4_init_139 (by decide) ?_
                          refine va_iastk 3 (cA := cI) (n := 12) (f := (upd (upd (upd (fun _ => 0) 0 0) 1 60) 2 2)) hx hb hK hP hD hS 0 0 rfl rfl rfl (by decide) (by decide) dX4_init_141 (fun H locs hP hD hS => ?_)
                          have hP : va_P (dC, dI) vwCl (([(q9, .inl (cI, 12, .inl (upd (upd (upd (upd (fun _ => 0) 0 0) 1 60) 2 2) 3 30)))] : va_W) ++ ([(q, .inr (4, [.int (nI h), .int (nI w), .int 0, .ref q3, .ref q1, .ref q2, .int 0, .int 0, .int 0, .int 0])), (q2, za_q cR 30 (cf)), (q3, za_q cF h (fun j => if j < h then some (r j) else none)), (q1, .inl (cI, w, .inl (sh)))] : va_W) ++ rg h r (smR cR w ad i98 i106) ++ rg (i98 * w + i106) ad (smF cI G) ++ rg 30 c1 (smD cI K)) H := hP
                          have hD : va_D A (([(q9, .inl (cI, 12, .inl (upd (upd (upd (upd (fun _ => 0) 0 0) 1 60) 2 2) 3 30)))] : va_W) ++ ([(q, .inr (4, [.int (nI h), .int (nI w), .int 0, .ref q3, .ref q1, .ref q2, .int 0, .int 0, .int 0, .int 0])), (q2, za_q cR 30 (cf)), (q3, za_q cF h (fun j => if j < h then some (r j) else none)), (q1, .inl (cI, w, .inl (sh)))] : va_W) ++ rg h r (smR cR w ad i98 i106) ++ rg (i98 * w + i106) ad (smF cI G) ++ rg 30 c1 (smD cI K)) := hD
                          refine lv_dup hx hb dX4_init_142 rfl ?_
                          refine lv_iconst (v := 4) hx hb dX4_init_143 (by decide) ?_
                          refine lv_iconst (v := 0) hx hb dX4_init_144 (by decide) ?_
                          refine va_iastk 4 (cA := cI) (n := 12) (f := (upd (upd (upd (upd (fun _ => 0) 0 0) 1 60) 2 2) 3 30)) hx hb hK hP hD hS 0 0 rfl rfl rfl (by decide) (by decide) dX4_init_145 (fun H locs hP hD hS => ?_)
                          have hP : va_P (dC, dI) vwCl (([(q9, .inl (cI, 12, .inl (upd (upd (upd (upd (upd (fun _ => 0) 0 0) 1 60) 2 2) 3 30) 4 0)))] : va_W) ++ ([(q, .inr (4, [.int (nI h), .int (nI w), .int 0, .ref q3, .ref q1, .ref q2, .int 0, .int 0, .int 0, .int 0])), (q2, za_q cR 30 (cf)), (q3, za_q cF h (fun j => if j < h then some (r j) else none)), (q1, .inl (cI, w, .inl (sh)))] : va_W) ++ rg h r (smR cR w ad i98 i106) ++ rg (i98 * w + i106) ad (smF cI G) ++ rg 30 c1 (smD cI K)) H := hP
                          have hD : va_D A (([(q9, .inl (cI, 12, .inl (upd (upd (upd (upd (upd (fun _ => 0) 0 0) 1 60) 2 2) 3 30) 4 0)))] : va_W) ++ ([(q, .inr (4, [.int (nI h), .int (nI w), .int 0, .ref q3, .ref q1, .ref q2, .int 0, .int 0, .int 0, .int 0])), (q2, za_q cR 30 (cf)), (q3, za_q cF h (fun j => if j < h then some (r j) else none)), (q1, .inl (cI, w, .inl (sh)))] : va_W) ++ rg h r (smR cR w ad i98 i106) ++ rg (i98 * w + i106) ad (smF cI G) ++ rg 30 c1 (smD cI K)) := hD
                          refine lv_dup hx hb dX4_init_146 rfl ?_
                          refine lv_iconst (v := 5) hx hb dX4_init_147 (by decide) ?_
                          refine lv_iconst (v := 0) hx hb dX4_init_148 (by decide) ?_
                          refine va_iastk 5 (cA := cI) (n := 12) (f := (upd (upd (upd (upd (upd (fun _ => 0) 0 0) 1 60) 2 2) 3 30) 4 0)) hx hb hK hP hD hS 0 0 rfl rfl rfl (by decide) (by decide) dX4_init_149 (fun H locs hP hD hS => ?_)
                          have hP : va_P (dC, dI) vwCl (([(q9, .inl (cI, 12, .inl (upd (upd (upd (upd (upd (upd (fun _ => 0) 0 0) 1 60) 2 2) 3 30) 4 0) 5 0)))] : va_W) ++ ([(q, .inr (4, [.int (nI h), .int (nI w), .int 0, .ref q3, .ref q1, .ref q2, .int 0, .int 0, .int 0, .int 0])), (q2, za_q cR 30 (cf)), (q3, za_q cF h (fun j => if j < h then some (r j) else none)), (q1, .inl (cI, w, .inl (sh)))] : va_W) ++ rg h r (smR cR w ad i98 i106) ++ rg (i98 * w + i106) ad (smF cI G) ++ rg 30 c1 (smD cI K)) H := hP
                          have hD : va_D A (([(q9, .inl (cI, 12, .inl (upd (upd (upd (upd (upd (upd (fun _ => 0) 0 0) 1 60) 2 2) 3 30) 4 0) 5 0)))] : va_W) ++ ([(q, .inr (4, [.int (nI h), .int (nI w), .int 0, .ref q3, .ref q1, .ref q2, .int 0, .int 0, .int 0, .int 0])), (q2, za_q cR 30 (cf)), (q3, za_q cF h (fun j => if j < h then some (r j) else none)), (q1, .inl (cI, w, .inl (sh)))] : va_W) ++ rg h r (smR cR w ad i98 i106) ++ rg (i98 * w + i106) ad (smF cI G) ++ rg 30 c1 (smD cI K)) := hD
                          refine lv_dup hx hb dX4_init_150 rfl ?_
                          refine lv_bipush (v := 6) hx hb dX4_init_151 (by decide) ?_
                          refine lv_iconst (v := 0) hx hb dX4_init_153 (by decide) ?_
                          refine va_iastk 6 (cA := cI) (n := 12) (f := (upd (upd (upd (upd (upd (upd (fun _ => 0) 0 0) 1 60) 2 2) 3 30) 4 0) 5 0)) hx hb hK hP hD hS 0 0 rfl rfl rfl (by decide) (by decide) dX4_init_154 (fun H locs hP hD hS => ?_)
                          have hP : va_P (dC, dI) vwCl (([(q9, .inl (cI, 12, .inl (upd (upd (upd (upd (upd (upd (upd (fun _ => 0) 0 0) 1 60) 2 2) 3 30) 4 0) 5 0) 6 0)))] : va_W) ++ ([(q, .inr (4, [.int (nI h), .int (nI w), .int 0, .ref q3, .ref q1, .ref q2, .int 0, .int 0, .int 0, .int 0])), (q2, za_q cR 30 (cf)), (q3, za_q cF h (fun j => if j < h then some (r j) else none)), (q1, .inl (cI, w, .inl (sh)))] : va_W) ++ rg h r (smR cR w ad i98 i106) ++ rg (i98 * w + i106) ad (smF cI G) ++ rg 30 c1 (smD cI K)) H := hP
                          have hD : va_D A (([(q9, .inl (cI, 12, .inl (upd (upd (upd (upd (upd (upd (upd (fun _ => 0) 0 0) 1 60) 2 2) 3 30) 4 0) 5 0) 6 0)))] : va_W) ++ ([(q, .inr (4, [.int (nI h), .int (nI w), .int 0, .ref q3, .ref q1, .ref q2, .int 0, .int 0, .int 0, .int 0])), (q2, za_q cR 30 (cf)), (q3, za_q cF h (fun j => if j < h then some (r j) else none)), (q1, .inl (cI, w, .inl (sh)))] : va_W) ++ rg h r (smR cR w ad i98 i106) ++ rg (i98 * w + i106) ad (smF cI G) ++ rg 30 c1 (smD cI K)) := hD
                          refine lv_dup hx hb dX4_init_155 rfl ?_
                          refine lv_bipush (v := 7) hx hb dX4_init_156 (by decide) ?_
                          refine lv_iconst (v := 0) hx hb dX4_init_158 (by decide) ?_
                          refine va_iastk 7 (cA := cI) (n := 12) (f := (upd (upd (upd (upd (upd (upd (upd (fun _ => 0) 0 0) 1 60) 2 2) 3 30) 4 0) 5 0) 6 0)) hx hb hK hP hD hS 0 0 rfl rfl rfl (by decide) (by decide) dX4_init_159 (fun H locs hP hD hS => ?_)
                          have hP : va_P (dC, dI) vwCl (([(q9, .inl (cI, 12, .inl (upd (upd (upd (upd (upd (upd (upd (upd (fun _ => 0) 0 0) 1 60) 2 2) 3 30) 4 0) 5 0) 6 0) 7 0)))] : va_W) ++ ([(q, .inr (4, [.int (nI h), .int (nI w), .int 0, .ref q3, .ref q1, .ref q2, .int 0, .int 0, .int 0, .int 0])), (q2, za_q cR 30 (cf)), (q3, za_q cF h (fun j => if j < h then some (r j) else none)), (q1, .inl (cI, w, .inl (sh)))] : va_W) ++ rg h r (smR cR w ad i98 i106) ++ rg (i98 * w + i106) ad (smF cI G) ++ rg 30 c1 (smD cI K)) H := hP
                          have hD : va_D A (([(q9, .inl (cI, 12, .inl (upd (upd (upd (upd (upd (upd (upd (upd (fun _ => 0) 0 0) 1 60) 2 2) 3 30) 4 0) 5 0) 6 0) 7 0)))] : va_W) ++ ([(q, .inr (4, [.int (nI h), .int (nI w), .int 0, .ref q3, .ref q1, .ref q2, .int 0, .int 0, .int 0, .int 0])), (q2, za_q cR 30 (cf)), (q3, za_q cF h (fun j => if j < h then some (r j) else none)), (q1, .inl (cI, w, .inl (sh)))] : va_W) ++ rg h r (smR cR w ad i98 i106) ++ rg (i98 * w + i106) ad (smF cI G) ++ rg 30 c1 (smD cI K)) := hD
                          refine lv_dup hx hb dX4_init_160 rfl ?_
                          refine lv_bipush (v := 8) hx hb dX4_init_161 (by decide) ?_
                          refine lv_iconst (v := 0) hx hb dX4_init_163 (by decide) ?_
                          refine va_iastk 8 (cA := cI) (n := 12) (f := (upd (upd (upd (upd (upd (upd (upd (upd (fun _ => 0) 0 0) 1 60) 2 2) 3 30) 4 0) 5 0) 6 0) 7 0)) hx hb hK hP hD hS 0 0 rfl rfl rfl (by decide) (by decide) dX4_init_164 (fun H locs hP hD hS => ?_)
                          have hP : va_P (dC, dI) vwCl (([(q9, .inl (cI, 12, .inl (upd (upd (upd (upd (upd (upd (upd (upd (upd (fun _ => 0) 0 0) 1 60) 2 2) 3 30) 4 0) 5 0) 6 0) 7 0) 8 0)))] : va_W) ++ ([(q, .inr (4, [.int (nI h), .int (nI w), .int 0, .ref q3, .ref q1, .ref q2, .int 0, .int 0, .int 0, .int 0])), (q2, za_q cR 30 (cf)), (q3, za_q cF h (fun j => if j < h then some (r j) else none)), (q1, .inl (cI, w, .inl (sh)))] : va_W) ++ rg h r (smR cR w ad i98 i106) ++ rg (i98 * w + i106) ad (smF cI G) ++ rg 30 c1 (smD cI K)) H := hP
                          have hD : va_D A (([(q9, .inl (cI, 12, .inl (upd (upd (upd (upd (upd (upd (upd (upd (upd (fun _ => 0) 0 0) 1 60) 2 2) 3 30) 4 0) 5 0) 6 0) 7 0) 8 0)))] : va_W) ++ ([(q, .inr (4, [.int (nI h), .int (nI w), .int 0, .ref q3, .ref q1, .ref q2, .int 0, .int 0, .int 0, .int 0])), (q2, za_q cR 30 (cf)), (q3, za_q cF h (fun j => if j < h then some (r j) else none)), (q1, .inl (cI, w, .inl (sh)))] : va_W) ++ rg h r (smR cR w ad i98 i106) ++ rg (i98 * w + i106) ad (smF cI G) ++ rg 30 c1 (smD cI K)) := hD
                          refine lv_dup hx hb dX4_init_165 rfl ?_
                          refine lv_bipush (v := 9) hx hb dX4_init_166 (by decide) ?_
                          refine lv_iconst (v := 0) hx hb dX4_init_168 (by decide) ?_
                          refine va_iastk 9 (cA := cI) (n := 12) (f := (upd (upd (upd (upd (upd (upd (upd (upd (upd (fun _ => 0) 0 0) 1 60) 2 2) 3 30) 4 0) 5 0) 6 0) 7 0) 8 0)) hx hb hK hP hD hS 0 0 rfl rfl rfl (by decide) (by decide) dX4_init_169 (fun H locs hP hD hS => ?_)
                          have hP : va_P (dC, dI) vwCl (([(q9, .inl (cI, 12, .inl (upd (upd (upd (upd (upd (upd (upd (upd (upd (upd (fun _ => 0) 0 0) 1 60) 2 2) 3 30) 4 0) 5 0) 6 0) 7 0) 8 0) 9 0)))] : va_W) ++ ([(q, .inr (4, [.int (nI h), .int (nI w), .int 0, .ref q3, .ref q1, .ref q2, .int 0, .int 0, .int 0, .int 0])), (q2, za_q cR 30 (cf)), (q3, za_q cF h (fun j => if j < h then some (r j) else none)), (q1, .inl (cI, w, .inl (sh)))] : va_W) ++ rg h r (smR cR w ad i98 i106) ++ rg (i98 * w + i106) ad (smF cI G) ++ rg 30 c1 (smD cI K)) H := hP
                          have hD : va_D A (([(q9, .inl (cI, 12, .inl (upd (upd (upd (upd (upd (upd (upd (upd (upd (upd (fun _ => 0) 0 0) 1 60) 2 2) 3 30) 4 0) 5 0) 6 0) 7 0) 8 0) 9 0)))] : va_W) ++ ([(q, .inr (4, [.int (nI h), .int (nI w), .int 0, .ref q3, .ref q1, .ref q2, .int 0, .int 0, .int 0, .int 0])), (q2, za_q cR 30 (cf)), (q3, za_q cF h (fun j => if j < h then some (r j) else none)), (q1, .inl (cI, w, .inl (sh)))] : va_W) ++ rg h r (smR cR w ad i98 i106) ++ rg (i98 * w + i106) ad (smF cI G) ++ rg 30 c1 (smD cI K)) := hD
                          refine lv_dup hx hb dX4_init_170 rfl ?_
                          refine lv_bipush (v := 10) hx hb dX4_init_171 (by decide) ?_
                          refine lv_iconst (v := 0) hx hb dX4_init_173 (by decide) ?_
                          refine va_iastk 10 (cA := cI) (n := 12) (f := (upd (upd (upd (upd (upd (upd (upd (upd (upd (upd (fun _ => 0) 0 0) 1 60) 2 2) 3 30) 4 0) 5 0) 6 0) 7 0) 8 0) 9 0)) hx hb hK hP hD hS 0 0 rfl rfl rfl (by decide) (by decide) dX4_init_174 (fun H locs hP hD hS => ?_)
                          have hP : va_P (dC, dI) vwCl (([(q9, .inl (cI, 12, .inl (upd (upd (upd (upd (upd (upd (upd (upd (upd (upd (upd (fun _ => 0) 0 0) 1 60) 2 2) 3 30) 4 0) 5 0) 6 0) 7 0) 8 0) 9 0) 10 0)))] : va_W) ++ ([(q, .inr (4, [.int (nI h), .int (nI w), .int 0, .ref q3, .ref q1, .ref q2, .int 0, .int 0, .int 0, .int 0])), (q2, za_q cR 30 (cf)), (q3, za_q cF h (fun j => if j < h then some (r j) else none)), (q1, .inl (cI, w, .inl (sh)))] : va_W) ++ rg h r (smR cR w ad i98 i106) ++ rg (i98 * w + i106) ad (smF cI G) ++ rg 30 c1 (smD cI K)) H := hP
                          have hD : va_D A (([(q9, .inl (cI, 12, .inl (upd (upd (upd (upd (upd (upd (upd (upd (upd (upd (upd (fun _ => 0) 0 0) 1 60) 2 2) 3 30) 4 0) 5 0) 6 0) 7 0) 8 0) 9 0) 10 0)))] : va_W) ++ ([(q, .inr (4, [.int (nI h), .int (nI w), .int 0, .ref q3, .ref q1, .ref q2, .int 0, .int 0, .int 0, .int 0])), (q2, za_q cR 30 (cf)), (q3, za_q cF h (fun j => if j < h then some (r j) else none)), (q1, .inl (cI, w, .inl (sh)))] : va_W) ++ rg h r (smR cR w ad i98 i106) ++ rg (i98 * w + i106) ad (smF cI G) ++ rg 30 c1 (smD cI K)) := hD
                          refine lv_dup hx hb dX4_init_175 rfl ?_
                          refine lv_bipush (v := 11) hx hb dX4_init_176 (by decide) ?_
                          refine lv_iconst (v := 0) hx hb dX4_init_178 (by decide) ?_
                          refine va_iastk 11 (cA := cI) (n := 12) (f := (upd (upd (upd (upd (upd (upd (upd (upd (upd (upd (upd (fun _ => 0) 0 0) 1 60) 2 2) 3 30) 4 0) 5 0) 6 0) 7 0) 8 0) 9 0) 10 0)) hx hb hK hP hD hS 0 0 rfl rfl rfl (by decide) (by decide) dX4_init_179 (fun H locs hP hD hS => ?_)
                          have hP : va_P (dC, dI) vwCl (([(q9, .inl (cI, 12, .inl (upd (upd (upd (upd (upd (upd (upd (upd (upd (upd (upd (upd (fun _ => 0) 0 0) 1 60) 2 2) 3 30) 4 0) 5 0) 6 0) 7 0) 8 0) 9 0) 10 0) 11 0)))] : va_W) ++ ([(q, .inr (4, [.int (nI h), .int (nI w), .int 0, .ref q3, .ref q1, .ref q2, .int 0, .int 0, .int 0, .int 0])), (q2, za_q cR 30 (cf)), (q3, za_q cF h (fun j => if j < h then some (r j) else none)), (q1, .inl (cI, w, .inl (sh)))] : va_W) ++ rg h r (smR cR w ad i98 i106) ++ rg (i98 * w + i106) ad (smF cI G) ++ rg 30 c1 (smD cI K)) H := hP
                          have hD : va_D A (([(q9, .inl (cI, 12, .inl (upd (upd (upd (upd (upd (upd (upd (upd (upd (upd (upd (upd (fun _ => 0) 0 0) 1 60) 2 2) 3 30) 4 0) 5 0) 6 0) 7 0) 8 0) 9 0) 10 0) 11 0)))] : va_W) ++ ([(q, .inr (4, [.int (nI h), .int (nI w), .int 0, .ref q3, .ref q1, .ref q2, .int 0, .int 0, .int 0, .int 0])), (q2, za_q cR 30 (cf)), (q3, za_q cF h (fun j => if j < h then some (r j) else none)), (q1, .inl (cI, w, .inl (sh)))] : va_W) ++ rg h r (smR cR w ad i98 i106) ++ rg (i98 * w + i106) ad (smF cI G) ++ rg 30 c1 (smD cI K)) := hD
                          have hat := rg_get (X := ([(q9, .inl (cI, 12, .inl (upd (upd (upd (upd (upd (upd (upd (upd (upd (upd (upd (upd (fun _ => 0) 0 0) 1 60) 2 2) 3 30) 4 0) 5 0) 6 0) 7 0) 8 0) 9 0) 10 0) 11 0)))] : va_W) ++ ([(q, .inr (4, [.int (nI h), .int (nI w), .int 0, .ref q3, .ref q1, .ref q2, .int 0, .int 0, .int 0, .int 0])), (q2, za_q cR 30 (cf)), (q3, za_q cF h (fun j => if j < h then some (r j) else none)), (q1, .inl (cI, w, .inl (sh)))] : va_W)) r (smR cR w ad i98 i106) (show i98 < h by omega)
                          have eq9 := rg_sL (Y := rg 30 c1 (smD cI K)) (rg_L (Y := rg (i98 * w + i106) ad (smF cI G)) hat) (rg_sL (Y := rg (i98 * w + i106) ad (smF cI G)) hat (rg_set (X := ([(q9, .inl (cI, 12, .inl (upd (upd (upd (upd (upd (upd (upd (upd (upd (upd (upd (upd (fun _ => 0) 0 0) 1 60) 2 2) 3 30) 4 0) 5 0) 6 0) 7 0) 8 0) 9 0) 10 0) 11 0)))] : va_W) ++ ([(q, .inr (4, [.int (nI h), .int (nI w), .int 0, .ref q3, .ref q1, .ref q2, .int 0, .int 0, .int 0, .int 0])), (q2, za_q cR 30 (cf)), (q3, za_q cF h (fun j => if j < h then some (r j) else none)), (q1, .inl (cI, w, .inl (sh)))] : va_W)) r (smR cR w ad i98 i106) (show i98 < h by omega) (za_q cR w (va_up (fun j => if (i98 < i98 ∧ j < w) ∨ (i98 = i98 ∧ j < i106) then some (ad (i98 * w + j)) else none) i106 (some q9)))))
                          refine za_ast hx hb hG hK3 hP hD hS (List.length (([(q9, .inl (cI, 12, .inl (upd (upd (upd (upd (upd (upd (upd (upd (upd (upd (upd (upd (fun _ => 0) 0 0) 1 60) 2 2) 3 30) 4 0) 5 0) 6 0) 7 0) 8 0) 9 0) 10 0) 11 0)))] : va_W) ++ ([(q, .inr (4, [.int (nI h), .int (nI w), .int 0, .ref q3, .ref q1, .ref q2, .int 0, .int 0, .int 0, .int 0])), (q2, za_q cR 30 (cf)), (q3, za_q cF h (fun j => if j < h then some (r j) else none)), (q1, .inl (cI, w, .inl (sh)))] : va_W)) + i98) 1 0 0 (cA := cR) (cB := cI) (n := w) (f := fun j => if (i98 < i98 ∧ j < w) ∨ (i98 = i98 ∧ j < i106) then some (ad (i98 * w + j)) else none) (rg_L (rg_L hat)) rfl rfl rfl (vp_in_nI (by omega) (by omega)) dX4_init_180 (fun H locs hP hD hS => ?_)
                          rw [nI_clamp (by omega), eq9, smR_put (by omega)] at hP hD
                          have hP := z_Psw (z_rotP (W9 := ([(q, .inr (4, [.int (nI h), .int (nI w), .int 0, .ref q3, .ref q1, .ref q2, .int 0, .int 0, .int 0, .int 0])), (q2, za_q cR 30 (cf)), (q3, za_q cF h (fun j => if j < h then some (r j) else none)), (q1, .inl (cI, w, .inl (sh)))] : va_W) ++ rg h r (smR cR w (va_up ad (i98 * w + i106) q9) i98 (i106 + 1)) ++ rg (i98 * w + i106) ad (smF cI G) ++ rg 30 c1 (smD cI K)) (by simpa only [List.append_assoc] using hP))
                          have hD := z_Dsw (z_rotD (W9 := ([(q, .inr (4, [.int (nI h), .int (nI w), .int 0, .ref q3, .ref q1, .ref q2, .int 0, .int 0, .int 0, .int 0])), (q2, za_q cR 30 (cf)), (q3, za_q cF h (fun j => if j < h then some (r j) else none)), (q1, .inl (cI, w, .inl (sh)))] : va_W) ++ rg h r (smR cR w (va_up ad (i98 * w + i106) q9) i98 (i106 + 1)) ++ rg (i98 * w + i106) ad (smF cI G) ++ rg 30 c1 (smD cI K)) (by simpa only [List.append_assoc] using hD))
                          rw [sf_push] at hP hD
                          refine lv_iinc (v := nI (i106 + 1)) (lv' := [(4, .int (nI (i106 + 1))), (0, .ref q), (1, .int (nI h)), (2, .int (nI w)), (3, .int (nI i98))]) hx hb dX4_init_181 hl (k := 4) rfl (show nI i106 + Int32.ofInt 1 = nI (i106 + 1) from nI_1 i106) (by decide) rfl (fun ls hl => ?_)
                          refine lv_goto (tgt := 106) hx hb dX4_init_184 (by decide) ?_
                          have hG7 : ∀ i, i < i98 * w + (i106 + 1) → va_up G (i98 * w + i106) (upd (upd (upd (upd (upd (upd (upd (upd (upd (upd (upd (upd (fun _ => 0) 0 0) 1 60) 2 2) 3 30) 4 0) 5 0) 6 0) 7 0) 8 0) 9 0) 10 0) 11 0) i 5 = 0 := by
                            intro i hi
                            by_cases e9 : i = i98 * w + i106
                            · rw [e9, va_up_self]; rfl
                            · rw [va_up_ne _ _ e9]; exact hG6 i (by omega)
                          refine W.widen (k := 40 + 5 * i98 + (i106 + 1)) (n := 160 + 60 * i98 + 12 * (i106 + 1)) (by omega) (by omega) ?_
                          exact ih106 (i106 + 1) _ _ _ _ ls (by omega) hG7 hP hD hS (lv_sub hl [1, 2, 3, 4, 0] rfl)
                    refine W.widen (k := 40 + 5 * i98 + 0) (n := 160 + 60 * i98 + 12 * 0) (by omega) (by omega) ?_
                    exact lp106 (w) 0 _ _ _ _ ls (by omega) hG5 hP hD hS (lv_sub hl [1, 2, 3, 4, 0] rfl)
              refine W.widen (k := 40 + 5 * 0) (n := 160 + 60 * 0) (by omega) (by omega) ?_
              exact lp98 (h) 0 _ _ _ _ ls (by omega) (fun i hi => by omega) hP hD hS (lv_sub hl [1, 2, 3, 0] rfl)
            · exact absurd (show nI 30 ≤ nI i62 from nI_le (by omega) (by omega)) c_2
          | succ n62 ih62 =>
            intro i62 cf c1 K H locs ls hi62  hP hD hS hl
            refine lv_iload_n hx hb dX4_init_62 rfl (lv_at hl 3 rfl) ?_
            refine lv_bipush (v := 30) hx hb dX4_init_63 (by decide) ?_
            refine lv_icmp_ge (tgt := 96) hx hb dX4_init_65 (by decide) (fun c_7 => ?_) (fun c_7 => ?_)
            · exact absurd c_7 (show ¬ nI 30 ≤ nI i62 from nI_ge (by omega) (by omega))
            · refine lv_aload_n hx hb dX4_init_68 rfl (lv_at hl 0 rfl) ?_
              refine va_get (D := (dC, dI)) (ci := 4) (v := .ref q2) (C := RX4) (T := TX4) (N := 10) hx hb hts hinX4 hown hK hP 0 rfl rfl 5 (by decide) hf9 (fun _ h9 => h9) rfl dX4_init_69 ?_
              refine lv_iload_n hx hb dX4_init_72 rfl (lv_at hl 3 rfl) ?_
              refine lv_iconst (v := 3) hx hb dX4_init_73 (by decide) ?_
              refine va_newa (atype := .int) (ty := .int) (n := 3) (N' := 3) (a0 := (3, .inl (fun _ => 0))) hx hb hac rfl hK hP hD hS hA (fun cA => rfl) (by decide) rfl (by show _ * 4 ≤ 536870912; omega) (by show _ ≤ 70; omega) (by show _ ≤ 500; omega) dX4_init_74 (fun q5 cA H hK9 hP hD hS => ?_)
              obtain rfl : cI = cA := (z_cI hK9).symm
              have hP : va_P (dC, dI) vwCl (([(q5, .inl (cI, 3, .inl (fun _ => 0)))] : va_W) ++ ([(q, .inr (4, [.int (nI h), .int (nI w), .int 0, .ref q3, .ref q1, .ref q2, .int 0, .int 0, .int 0, .int 0])), (q2, za_q cR 30 (cf)), (q3, za_q cF h (fun j => if j < h then some (r j) else none)), (q1, .inl (cI, w, .inl (sh)))] : va_W) ++ rg h r (smR cR w (fun _ => 0) 0 0) ++ rg (0) (fun _ => 0) (smF cI (fun _ _ => 0)) ++ rg i62 c1 (smD cI K)) H := by simpa only [List.append_assoc] using z_rotP' hP
              have hD : va_D A (([(q5, .inl (cI, 3, .inl (fun _ => 0)))] : va_W) ++ ([(q, .inr (4, [.int (nI h), .int (nI w), .int 0, .ref q3, .ref q1, .ref q2, .int 0, .int 0, .int 0, .int 0])), (q2, za_q cR 30 (cf)), (q3, za_q cF h (fun j => if j < h then some (r j) else none)), (q1, .inl (cI, w, .inl (sh)))] : va_W) ++ rg h r (smR cR w (fun _ => 0) 0 0) ++ rg (0) (fun _ => 0) (smF cI (fun _ _ => 0)) ++ rg i62 c1 (smD cI K)) := by simpa only [List.append_assoc] using z_rotD' hD
              refine lv_dup hx hb dX4_init_76 rfl ?_
              refine lv_iconst (v := 0) hx hb dX4_init_77 (by decide) ?_
              refine lv_iconst (v := 0) hx hb dX4_init_78 (by decide) ?_
              refine va_iastk 0 (cA := cI) (n := 3) (f := (fun _ => 0)) hx hb hK hP hD hS 0 0 rfl rfl rfl (by decide) (by decide) dX4_init_79 (fun H locs hP hD hS => ?_)
              have hP : va_P (dC, dI) vwCl (([(q5, .inl (cI, 3, .inl (upd (fun _ => 0) 0 0)))] : va_W) ++ ([(q, .inr (4, [.int (nI h), .int (nI w), .int 0, .ref q3, .ref q1, .ref q2, .int 0, .int 0, .int 0, .int 0])), (q2, za_q cR 30 (cf)), (q3, za_q cF h (fun j => if j < h then some (r j) else none)), (q1, .inl (cI, w, .inl (sh)))] : va_W) ++ rg h r (smR cR w (fun _ => 0) 0 0) ++ rg (0) (fun _ => 0) (smF cI (fun _ _ => 0)) ++ rg i62 c1 (smD cI K)) H := hP
              have hD : va_D A (([(q5, .inl (cI, 3, .inl (upd (fun _ => 0) 0 0)))] : va_W) ++ ([(q, .inr (4, [.int (nI h), .int (nI w), .int 0, .ref q3, .ref q1, .ref q2, .int 0, .int 0, .int 0, .int 0])), (q2, za_q cR 30 (cf)), (q3, za_q cF h (fun j => if j < h then some (r j) else none)), (q1, .inl (cI, w, .inl (sh)))] : va_W) ++ rg h r (smR cR w (fun _ => 0) 0 0) ++ rg (0) (fun _ => 0) (smF cI (fun _ _ => 0)) ++ rg i62 c1 (smD cI K)) := hD
              refine lv_dup hx hb dX4_init_80 rfl ?_
              refine lv_iconst (v := 1) hx hb dX4_init_81 (by decide) ?_
              refine lv_bipush (v := 60) hx hb dX4_init_82 (by decide) ?_
              refine va_iastk 1 (cA := cI) (n := 3) (f := (upd (fun _ => 0) 0 0)) hx hb hK hP hD hS 0 0 rfl rfl rfl (by decide) (by decide) dX4_init_84 (fun H locs hP hD hS => ?_)
              have hP : va_P (dC, dI) vwCl (([(q5, .inl (cI, 3, .inl (upd (upd (fun _ => 0) 0 0) 1 60)))] : va_W) ++ ([(q, .inr (4, [.int (nI h), .int (nI w), .int 0, .ref q3, .ref q1, .ref q2, .int 0, .int 0, .int 0, .int 0])), (q2, za_q cR 30 (cf)), (q3, za_q cF h (fun j => if j < h then some (r j) else none)), (q1, .inl (cI, w, .inl (sh)))] : va_W) ++ rg h r (smR cR w (fun _ => 0) 0 0) ++ rg (0) (fun _ => 0) (smF cI (fun _ _ => 0)) ++ rg i62 c1 (smD cI K)) H := hP
              have hD : va_D A (([(q5, .inl (cI, 3, .inl (upd (upd (fun _ => 0) 0 0) 1 60)))] : va_W) ++ ([(q, .inr (4, [.int (nI h), .int (nI w), .int 0, .ref q3, .ref q1, .ref q2, .int 0, .int 0, .int 0, .int 0])), (q2, za_q cR 30 (cf)), (q3, za_q cF h (fun j => if j < h then some (r j) else none)), (q1, .inl (cI, w, .inl (sh)))] : va_W) ++ rg h r (smR cR w (fun _ => 0) 0 0) ++ rg (0) (fun _ => 0) (smF cI (fun _ _ => 0)) ++ rg i62 c1 (smD cI K)) := hD
              refine lv_dup hx hb dX4_init_85 rfl ?_
              refine lv_iconst (v := 2) hx hb dX4_init_86 (by decide) ?_
              refine lv_iconst (v := 3) hx hb dX4_init_87 (by decide) ?_
              refine va_iastk 2 (cA := cI) (n := 3) (f := (upd (upd (fun _ => 0) 0 0) 1 60)) hx hb hK hP hD hS 0 0 rfl rfl rfl (by decide) (by decide) dX4_init_88 (fun H locs hP hD hS => ?_)
              have hP : va_P (dC, dI) vwCl (([(q5, .inl (cI, 3, .inl (upd (upd (upd (fun _ => 0) 0 0) 1 60) 2 3)))] : va_W) ++ ([(q, .inr (4, [.int (nI h), .int (nI w), .int 0, .ref q3, .ref q1, .ref q2, .int 0, .int 0, .int 0, .int 0])), (q2, za_q cR 30 (cf)), (q3, za_q cF h (fun j => if j < h then some (r j) else none)), (q1, .inl (cI, w, .inl (sh)))] : va_W) ++ rg h r (smR cR w (fun _ => 0) 0 0) ++ rg (0) (fun _ => 0) (smF cI (fun _ _ => 0)) ++ rg i62 c1 (smD cI K)) H := hP
              have hD : va_D A (([(q5, .inl (cI, 3, .inl (upd (upd (upd (fun _ => 0) 0 0) 1 60) 2 3)))] : va_W) ++ ([(q, .inr (4, [.int (nI h), .int (nI w), .int 0, .ref q3, .ref q1, .ref q2, .int 0, .int 0, .int 0, .int 0])), (q2, za_q cR 30 (cf)), (q3, za_q cF h (fun j => if j < h then some (r j) else none)), (q1, .inl (cI, w, .inl (sh)))] : va_W) ++ rg h r (smR cR w (fun _ => 0) 0 0) ++ rg (0) (fun _ => 0) (smF cI (fun _ _ => 0)) ++ rg i62 c1 (smD cI K)) := hD
              refine za_ast hx hb hG hK3 hP hD hS 2 1 0 0 (cA := cR) (cB := cI) rfl rfl rfl rfl (vp_in_nI (by omega) (by omega)) dX4_init_89 (fun H locs hP hD hS => ?_)
              rw [nI_clamp (by omega)] at hP hD
              have hP : va_P (dC, dI) vwCl (([(q5, .inl (cI, 3, .inl (upd (upd (upd (fun _ => 0) 0 0) 1 60) 2 3)))] : va_W) ++ ([(q, .inr (4, [.int (nI h), .int (nI w), .int 0, .ref q3, .ref q1, .ref q2, .int 0, .int 0, .int 0, .int 0])), (q2, za_q cR 30 (va_up cf i62 (some q5))), (q3, za_q cF h (fun j => if j < h then some (r j) else none)), (q1, .inl (cI, w, .inl (sh)))] : va_W) ++ rg h r (smR cR w (fun _ => 0) 0 0) ++ rg (0) (fun _ => 0) (smF cI (fun _ _ => 0)) ++ rg i62 c1 (smD cI K)) H := hP
              have hD : va_D A (([(q5, .inl (cI, 3, .inl (upd (upd (upd (fun _ => 0) 0 0) 1 60) 2 3)))] : va_W) ++ ([(q, .inr (4, [.int (nI h), .int (nI w), .int 0, .ref q3, .ref q1, .ref q2, .int 0, .int 0, .int 0, .int 0])), (q2, za_q cR 30 (va_up cf i62 (some q5))), (q3, za_q cF h (fun j => if j < h then some (r j) else none)), (q1, .inl (cI, w, .inl (sh)))] : va_W) ++ rg h r (smR cR w (fun _ => 0) 0 0) ++ rg (0) (fun _ => 0) (smF cI (fun _ _ => 0)) ++ rg i62 c1 (smD cI K)) := hD
              have hP := z_rotP (W9 := ([(q, .inr (4, [.int (nI h), .int (nI w), .int 0, .ref q3, .ref q1, .ref q2, .int 0, .int 0, .int 0, .int 0])), (q2, za_q cR 30 (va_up cf i62 (some q5))), (q3, za_q cF h (fun j => if j < h then some (r j) else none)), (q1, .inl (cI, w, .inl (sh)))] : va_W) ++ rg h r (smR cR w (fun _ => 0) 0 0) ++ rg (0) (fun _ => 0) (smF cI (fun _ _ => 0)) ++ rg i62 c1 (smD cI K)) (by simpa only [List.append_assoc] using hP)
              have hD := z_rotD (W9 := ([(q, .inr (4, [.int (nI h), .int (nI w), .int 0, .ref q3, .ref q1, .ref q2, .int 0, .int 0, .int 0, .int 0])), (q2, za_q cR 30 (va_up cf i62 (some q5))), (q3, za_q cF h (fun j => if j < h then some (r j) else none)), (q1, .inl (cI, w, .inl (sh)))] : va_W) ++ rg h r (smR cR w (fun _ => 0) 0 0) ++ rg (0) (fun _ => 0) (smF cI (fun _ _ => 0)) ++ rg i62 c1 (smD cI K)) (by simpa only [List.append_assoc] using hD)
              rw [sd_push] at hP hD
              refine lv_iinc (v := nI (i62 + 1)) (lv' := [(3, .int (nI (i62 + 1))), (0, .ref q), (1, .int (nI h)), (2, .int (nI w))]) hx hb dX4_init_90 hl (k := 3) rfl (show nI i62 + Int32.ofInt 1 = nI (i62 + 1) from nI_1 i62) (by decide) rfl (fun ls hl => ?_)
              refine lv_goto (tgt := 62) hx hb dX4_init_93 (by decide) ?_
              refine W.widen (k := 10 + (i62 + 1)) (n := 70 + 3 * (i62 + 1)) (by omega) (by omega) ?_
              exact ih62 (i62 + 1) _ _ _ _ _ ls (by omega)  hP hD hS (lv_sub hl [1, 2, 3, 0] rfl)
        refine W.widen (k := 10 + 0) (n := 70 + 3 * 0) (by omega) (by omega) ?_
        exact lp62 (30) 0 _ _ _ _ _ ls (by omega)  hP hD hS (lv_sub hl [1, 2, 3, 0] rfl)
      · exact absurd (show nI (w) ≤ nI w from nI_le (by omega) (by omega)) c_1
    | succ n42 ih42 =>
      intro i42 sh H locs ls hi42  hP hD hS hl
      refine lv_iload_n hx hb dX4_init_42 rfl (lv_at hl 3 rfl) ?_
      refine lv_iload_n hx hb dX4_init_43 rfl (lv_at hl 2 rfl) ?_
      refine lv_icmp_ge (tgt := 60) hx hb dX4_init_44 (by decide) (fun c_8 => ?_) (fun c_8 => ?_)
      · exact absurd c_8 (show ¬ nI (w) ≤ nI i42 from nI_ge (by omega) (by omega))
      · refine lv_aload_n hx hb dX4_init_47 rfl (lv_at hl 0 rfl) ?_
        refine va_get (D := (dC, dI)) (ci := 4) (v := .ref q1) (C := RX4) (T := TX4) (N := 10) hx hb hts hinX4 hown hK hP 0 rfl rfl 4 (by decide) hf27 (fun _ h9 => h9) rfl dX4_init_48 ?_
        refine lv_iload_n hx hb dX4_init_51 rfl (lv_at hl 3 rfl) ?_
        refine lv_iconst (v := 1) hx hb dX4_init_52 (by decide) ?_
        refine va_iast (cA := cI) (n := w) (f := (sh)) hx hb hK hP hD hS 3 0 rfl rfl (vp_in_nI (by omega) (by omega)) dX4_init_53 (fun H locs hP hD hS => ?_)
        have hP : va_P (dC, dI) vwCl (([(q, .inr (4, [.int (nI h), .int (nI w), .int 0, .ref q3, .ref q1, .ref q2, .int 0, .int 0, .int 0, .int 0])), (q2, za_q cR 30 (fun _ => none)), (q3, za_q cF h (fun j => if j < h then some (r j) else none)), (q1, .inl (cI, w, .inl (upd (sh) (nI i42).toNatClampNeg 1)))] : va_W) ++ rg h r (fun _ => za_q cR w (fun _ => none))) H := hP
        have hD : va_D A (([(q, .inr (4, [.int (nI h), .int (nI w), .int 0, .ref q3, .ref q1, .ref q2, .int 0, .int 0, .int 0, .int 0])), (q2, za_q cR 30 (fun _ => none)), (q3, za_q cF h (fun j => if j < h then some (r j) else none)), (q1, .inl (cI, w, .inl (upd (sh) (nI i42).toNatClampNeg 1)))] : va_W) ++ rg h r (fun _ => za_q cR w (fun _ => none))) := hD
        refine lv_iinc (v := nI (i42 + 1)) (lv' := [(3, .int (nI (i42 + 1))), (0, .ref q), (1, .int (nI h)), (2, .int (nI w))]) hx hb dX4_init_54 hl (k := 3) rfl (show nI i42 + Int32.ofInt 1 = nI (i42 + 1) from nI_1 i42) (by decide) rfl (fun ls hl => ?_)
        refine lv_goto (tgt := 42) hx hb dX4_init_57 (by decide) ?_
        refine W.widen (k := 10) (n := 70) (by omega) (by omega) ?_
        exact ih42 (i42 + 1) _ _ _ ls (by omega)  hP hD hS (lv_sub hl [1, 2, 3, 0] rfl)
  refine W.widen (k := 10) (n := 70) (by omega) (by omega) ?_
  exact lp42 (w) 0 _ _ _ ls (by omega)  hP hD hS (lv_sub hl [1, 2, 3, 0] rfl)

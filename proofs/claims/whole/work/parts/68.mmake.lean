set_option maxHeartbeats 4000000 in
set_option maxRecDepth 100000 in
theorem c_X4_init (l : Launch) (dC : Nat → ClassId) (dI : Nat → Nat → Nat) (cI : ClassId) (q : Nat) : zM l yX4_init wsX4_init { frames := 2, cells := 7, slots := 1660, locals := 84 } (dC, dI) cI [.ref q] (([(q, .inr (4, [.int 0, .null, .null, .null, .null, .null, .null]))] : va_W)) (fun a : Nat → Nat => mW cI a mst0) (fun a => a 0 = q) 7 1660 := by
  refine zM_of (cc := cX4_init) (maxL := 2) (ret := none) (by decide) rfl (Nat.le_of_ble_eq_true rfl) rfl ?_
  intro p e s m below meth c A ls C0 hinit hl
  obtain ⟨hx, hb, hr, hml, hown, hts, hlocks, hK, hN, hA, hP, hD, hS⟩ := C0
  have hown : s.vm.findClass RX4 = some m.cls := hown
  have hl : lv_has ls 2 [(0, .ref q)] := hl
  have hf9 := hts (.fieldLink RX4 9 "PaddyTerracesModel" "n" "[I") (by decide +kernel)
  have hf13 := hts (.fieldLink RX4 13 "PaddyTerracesModel" "shares" "[I") (by decide +kernel)
  have hf16 := hts (.fieldLink RX4 16 "PaddyTerracesModel" "fields" "[I") (by decide +kernel)
  have hf19 := hts (.fieldLink RX4 19 "PaddyTerracesModel" "weather" "[I") (by decide +kernel)
  have hf22 := hts (.fieldLink RX4 22 "PaddyTerracesModel" "spareCounts" "[I") (by decide +kernel)
  have hf25 := hts (.fieldLink RX4 25 "PaddyTerracesModel" "spareFields" "[I") (by decide +kernel)
  have hac := hts (.arrayClass .int) (by decide +kernel)
  have hc_oi := hts (.code objectInit ⟨#[0xb1]⟩ 1 none) (by decide +kernel)
  have hm_oi := hts (.methodLink RX4 1 objectInit) (by decide +kernel)
  have hs_oi := hts (.instanceMethod objectInit) (by decide +kernel)
  have hinX4 : ∀ w ∈ wsX40, w ∈ wsX4_init := by decide +kernel
  have hS0 := hS
  refine lv_aload_n hx hb dX4_init_0 rfl (lv_at hl 0 rfl) ?_
  refine W.objInit hx hb hown hm_oi hs_oi hc_oi rfl (by rw [hml]; exact hl.1) rfl dX4_init_1 (Nat.le_of_ble_eq_true rfl) (Nat.le_of_ble_eq_true rfl) ?_
  refine W.eq (g2 := F0 m 4 ls []) rfl ?_
  refine lv_aload_n hx hb dX4_init_4 rfl (lv_at hl 0 rfl) ?_
  refine lv_bipush (v := 7) hx hb dX4_init_5 (by decide) ?_
  refine va_newa (atype := .int) (ty := .int) (n := 7) (N' := 7) (a0 := (7, .inl (fun _ => 0))) hx hb hac rfl hK hP hD hS hA (fun cA => rfl) (by decide) rfl (Nat.le_of_ble_eq_true rfl) (Nat.le_of_ble_eq_true rfl) (Nat.le_of_ble_eq_true rfl) dX4_init_7 (fun q1 cA2 H hK9 hP hD hS => ?_)
  obtain rfl : cI = cA2 := (z_cI hK9).symm
  have hP : va_P (dC, dI) vwCl (([(q, .inr (4, [.int 0, .null, .null, .null, .null, .null, .null])), (q1, .inl (cI, 7, .inl (fun _ => 0)))] : va_W)) H := hP
  have hD : va_D A (([(q, .inr (4, [.int 0, .null, .null, .null, .null, .null, .null])), (q1, .inl (cI, 7, .inl (fun _ => 0)))] : va_W)) := hD
  refine va_putF (D := (dC, dI)) (ci := 4) (v := .ref q1) (ty := (.array .int)) (C := RX4) (T := TX4) (N := 7) hx hb hts hinX4 tyX4 tyX4_ok nmX4 hown hK hP hD hS 0 rfl rfl 1 (by decide) hf9 (fun _ h9 => h9) rfl hinit rfl (by decide +kernel) rfl rfl (Nat.le_of_ble_eq_true rfl) dX4_init_9 (fun H locs hP hD hS => ?_)
  have hP : va_P (dC, dI) vwCl (([(q, .inr (4, [.int 0, .ref q1, .null, .null, .null, .null, .null])), (q1, .inl (cI, 7, .inl (fun _ => 0)))] : va_W)) H := hP
  have hD : va_D A (([(q, .inr (4, [.int 0, .ref q1, .null, .null, .null, .null, .null])), (q1, .inl (cI, 7, .inl (fun _ => 0)))] : va_W)) := hD
  refine lv_aload_n hx hb dX4_init_12 rfl (lv_at hl 0 rfl) ?_
  refine lv_bipush (v := 8) hx hb dX4_init_13 (by decide) ?_
  refine va_newa (atype := .int) (ty := .int) (n := 8) (N' := 8) (a0 := (8, .inl (fun _ => 0))) hx hb hac rfl hK hP hD hS hA (fun cA => rfl) (by decide) rfl (Nat.le_of_ble_eq_true rfl) (Nat.le_of_ble_eq_true rfl) (Nat.le_of_ble_eq_true rfl) dX4_init_15 (fun q3 cA4 H hK9 hP hD hS => ?_)
  obtain rfl : cI = cA4 := (z_cI hK9).symm
  have hP : va_P (dC, dI) vwCl (([(q, .inr (4, [.int 0, .ref q1, .null, .null, .null, .null, .null])), (q1, .inl (cI, 7, .inl (fun _ => 0))), (q3, .inl (cI, 8, .inl (fun _ => 0)))] : va_W)) H := hP
  have hD : va_D A (([(q, .inr (4, [.int 0, .ref q1, .null, .null, .null, .null, .null])), (q1, .inl (cI, 7, .inl (fun _ => 0))), (q3, .inl (cI, 8, .inl (fun _ => 0)))] : va_W)) := hD
  refine va_putF (D := (dC, dI)) (ci := 4) (v := .ref q3) (ty := (.array .int)) (C := RX4) (T := TX4) (N := 7) hx hb hts hinX4 tyX4 tyX4_ok nmX4 hown hK hP hD hS 0 rfl rfl 2 (by decide) hf13 (fun _ h9 => h9) rfl hinit rfl (by decide +kernel) rfl rfl (Nat.le_of_ble_eq_true rfl) dX4_init_17 (fun H locs hP hD hS => ?_)
  have hP : va_P (dC, dI) vwCl (([(q, .inr (4, [.int 0, .ref q1, .ref q3, .null, .null, .null, .null])), (q1, .inl (cI, 7, .inl (fun _ => 0))), (q3, .inl (cI, 8, .inl (fun _ => 0)))] : va_W)) H := hP
  have hD : va_D A (([(q, .inr (4, [.int 0, .ref q1, .ref q3, .null, .null, .null, .null])), (q1, .inl (cI, 7, .inl (fun _ => 0))), (q3, .inl (cI, 8, .inl (fun _ => 0)))] : va_W)) := hD
  refine lv_aload_n hx hb dX4_init_20 rfl (lv_at hl 0 rfl) ?_
  refine lv_sipush (v := 768) hx hb dX4_init_21 (by decide) ?_
  refine va_newa (atype := .int) (ty := .int) (n := 768) (N' := 768) (a0 := (768, .inl (fun _ => 0))) hx hb hac rfl hK hP hD hS hA (fun cA => rfl) (by decide) rfl (Nat.le_of_ble_eq_true rfl) (Nat.le_of_ble_eq_true rfl) (Nat.le_of_ble_eq_true rfl) dX4_init_24 (fun q5 cA6 H hK9 hP hD hS => ?_)
  obtain rfl : cI = cA6 := (z_cI hK9).symm
  have hP : va_P (dC, dI) vwCl (([(q, .inr (4, [.int 0, .ref q1, .ref q3, .null, .null, .null, .null])), (q1, .inl (cI, 7, .inl (fun _ => 0))), (q3, .inl (cI, 8, .inl (fun _ => 0))), (q5, .inl (cI, 768, .inl (fun _ => 0)))] : va_W)) H := hP
  have hD : va_D A (([(q, .inr (4, [.int 0, .ref q1, .ref q3, .null, .null, .null, .null])), (q1, .inl (cI, 7, .inl (fun _ => 0))), (q3, .inl (cI, 8, .inl (fun _ => 0))), (q5, .inl (cI, 768, .inl (fun _ => 0)))] : va_W)) := hD
  refine va_putF (D := (dC, dI)) (ci := 4) (v := .ref q5) (ty := (.array .int)) (C := RX4) (T := TX4) (N := 7) hx hb hts hinX4 tyX4 tyX4_ok nmX4 hown hK hP hD hS 0 rfl rfl 3 (by decide) hf16 (fun _ h9 => h9) rfl hinit rfl (by decide +kernel) rfl rfl (Nat.le_of_ble_eq_true rfl) dX4_init_26 (fun H locs hP hD hS => ?_)
  have hP : va_P (dC, dI) vwCl (([(q, .inr (4, [.int 0, .ref q1, .ref q3, .ref q5, .null, .null, .null])), (q1, .inl (cI, 7, .inl (fun _ => 0))), (q3, .inl (cI, 8, .inl (fun _ => 0))), (q5, .inl (cI, 768, .inl (fun _ => 0)))] : va_W)) H := hP
  have hD : va_D A (([(q, .inr (4, [.int 0, .ref q1, .ref q3, .ref q5, .null, .null, .null])), (q1, .inl (cI, 7, .inl (fun _ => 0))), (q3, .inl (cI, 8, .inl (fun _ => 0))), (q5, .inl (cI, 768, .inl (fun _ => 0)))] : va_W)) := hD
  refine lv_aload_n hx hb dX4_init_29 rfl (lv_at hl 0 rfl) ?_
  refine lv_bipush (v := 90) hx hb dX4_init_30 (by decide) ?_
  refine va_newa (atype := .int) (ty := .int) (n := 90) (N' := 90) (a0 := (90, .inl (fun _ => 0))) hx hb hac rfl hK hP hD hS hA (fun cA => rfl) (by decide) rfl (Nat.le_of_ble_eq_true rfl) (Nat.le_of_ble_eq_true rfl) (Nat.le_of_ble_eq_true rfl) dX4_init_32 (fun q7 cA8 H hK9 hP hD hS => ?_)
  obtain rfl : cI = cA8 := (z_cI hK9).symm
  have hP : va_P (dC, dI) vwCl (([(q, .inr (4, [.int 0, .ref q1, .ref q3, .ref q5, .null, .null, .null])), (q1, .inl (cI, 7, .inl (fun _ => 0))), (q3, .inl (cI, 8, .inl (fun _ => 0))), (q5, .inl (cI, 768, .inl (fun _ => 0))), (q7, .inl (cI, 90, .inl (fun _ => 0)))] : va_W)) H := hP
  have hD : va_D A (([(q, .inr (4, [.int 0, .ref q1, .ref q3, .ref q5, .null, .null, .null])), (q1, .inl (cI, 7, .inl (fun _ => 0))), (q3, .inl (cI, 8, .inl (fun _ => 0))), (q5, .inl (cI, 768, .inl (fun _ => 0))), (q7, .inl (cI, 90, .inl (fun _ => 0)))] : va_W)) := hD
  refine va_putF (D := (dC, dI)) (ci := 4) (v := .ref q7) (ty := (.array .int)) (C := RX4) (T := TX4) (N := 7) hx hb hts hinX4 tyX4 tyX4_ok nmX4 hown hK hP hD hS 0 rfl rfl 4 (by decide) hf19 (fun _ h9 => h9) rfl hinit rfl (by decide +kernel) rfl rfl (Nat.le_of_ble_eq_true rfl) dX4_init_34 (fun H locs hP hD hS => ?_)
  have hP : va_P (dC, dI) vwCl (([(q, .inr (4, [.int 0, .ref q1, .ref q3, .ref q5, .ref q7, .null, .null])), (q1, .inl (cI, 7, .inl (fun _ => 0))), (q3, .inl (cI, 8, .inl (fun _ => 0))), (q5, .inl (cI, 768, .inl (fun _ => 0))), (q7, .inl (cI, 90, .inl (fun _ => 0)))] : va_W)) H := hP
  have hD : va_D A (([(q, .inr (4, [.int 0, .ref q1, .ref q3, .ref q5, .ref q7, .null, .null])), (q1, .inl (cI, 7, .inl (fun _ => 0))), (q3, .inl (cI, 8, .inl (fun _ => 0))), (q5, .inl (cI, 768, .inl (fun _ => 0))), (q7, .inl (cI, 90, .inl (fun _ => 0)))] : va_W)) := hD
  refine lv_aload_n hx hb dX4_init_37 rfl (lv_at hl 0 rfl) ?_
  refine lv_bipush (v := 7) hx hb dX4_init_38 (by decide) ?_
  refine va_newa (atype := .int) (ty := .int) (n := 7) (N' := 7) (a0 := (7, .inl (fun _ => 0))) hx hb hac rfl hK hP hD hS hA (fun cA => rfl) (by decide) rfl (Nat.le_of_ble_eq_true rfl) (Nat.le_of_ble_eq_true rfl) (Nat.le_of_ble_eq_true rfl) dX4_init_40 (fun q9 cA10 H hK9 hP hD hS => ?_)
  obtain rfl : cI = cA10 := (z_cI hK9).symm
  have hP : va_P (dC, dI) vwCl (([(q, .inr (4, [.int 0, .ref q1, .ref q3, .ref q5, .ref q7, .null, .null])), (q1, .inl (cI, 7, .inl (fun _ => 0))), (q3, .inl (cI, 8, .inl (fun _ => 0))), (q5, .inl (cI, 768, .inl (fun _ => 0))), (q7, .inl (cI, 90, .inl (fun _ => 0))), (q9, .inl (cI, 7, .inl (fun _ => 0)))] : va_W)) H := hP
  have hD : va_D A (([(q, .inr (4, [.int 0, .ref q1, .ref q3, .ref q5, .ref q7, .null, .null])), (q1, .inl (cI, 7, .inl (fun _ => 0))), (q3, .inl (cI, 8, .inl (fun _ => 0))), (q5, .inl (cI, 768, .inl (fun _ => 0))), (q7, .inl (cI, 90, .inl (fun _ => 0))), (q9, .inl (cI, 7, .inl (fun _ => 0)))] : va_W)) := hD
  refine va_putF (D := (dC, dI)) (ci := 4) (v := .ref q9) (ty := (.array .int)) (C := RX4) (T := TX4) (N := 7) hx hb hts hinX4 tyX4 tyX4_ok nmX4 hown hK hP hD hS 0 rfl rfl 5 (by decide) hf22 (fun _ h9 => h9) rfl hinit rfl (by decide +kernel) rfl rfl (Nat.le_of_ble_eq_true rfl) dX4_init_42 (fun H locs hP hD hS => ?_)
  have hP : va_P (dC, dI) vwCl (([(q, .inr (4, [.int 0, .ref q1, .ref q3, .ref q5, .ref q7, .ref q9, .null])), (q1, .inl (cI, 7, .inl (fun _ => 0))), (q3, .inl (cI, 8, .inl (fun _ => 0))), (q5, .inl (cI, 768, .inl (fun _ => 0))), (q7, .inl (cI, 90, .inl (fun _ => 0))), (q9, .inl (cI, 7, .inl (fun _ => 0)))] : va_W)) H := hP
  have hD : va_D A (([(q, .inr (4, [.int 0, .ref q1, .ref q3, .ref q5, .ref q7, .ref q9, .null])), (q1, .inl (cI, 7, .inl (fun _ => 0))), (q3, .inl (cI, 8, .inl (fun _ => 0))), (q5, .inl (cI, 768, .inl (fun _ => 0))), (q7, .inl (cI, 90, .inl (fun _ => 0))), (q9, .inl (cI, 7, .inl (fun _ => 0)))] : va_W)) := hD
  refine lv_aload_n hx hb dX4_init_45 rfl (lv_at hl 0 rfl) ?_
  refine lv_sipush (v := 768) hx hb dX4_init_46 (by decide) ?_
  refine va_newa (atype := .int) (ty := .int) (n := 768) (N' := 768) (a0 := (768, .inl (fun _ => 0))) hx hb hac rfl hK hP hD hS hA (fun cA => rfl) (by decide) rfl (Nat.le_of_ble_eq_true rfl) (Nat.le_of_ble_eq_true rfl) (Nat.le_of_ble_eq_true rfl) dX4_init_49 (fun q11 cA12 H hK9 hP hD hS => ?_)
  obtain rfl : cI = cA12 := (z_cI hK9).symm
  have hP : va_P (dC, dI) vwCl (([(q, .inr (4, [.int 0, .ref q1, .ref q3, .ref q5, .ref q7, .ref q9, .null])), (q1, .inl (cI, 7, .inl (fun _ => 0))), (q3, .inl (cI, 8, .inl (fun _ => 0))), (q5, .inl (cI, 768, .inl (fun _ => 0))), (q7, .inl (cI, 90, .inl (fun _ => 0))), (q9, .inl (cI, 7, .inl (fun _ => 0))), (q11, .inl (cI, 768, .inl (fun _ => 0)))] : va_W)) H := hP
  have hD : va_D A (([(q, .inr (4, [.int 0, .ref q1, .ref q3, .ref q5, .ref q7, .ref q9, .null])), (q1, .inl (cI, 7, .inl (fun _ => 0))), (q3, .inl (cI, 8, .inl (fun _ => 0))), (q5, .inl (cI, 768, .inl (fun _ => 0))), (q7, .inl (cI, 90, .inl (fun _ => 0))), (q9, .inl (cI, 7, .inl (fun _ => 0))), (q11, .inl (cI, 768, .inl (fun _ => 0)))] : va_W)) := hD
  refine va_putF (D := (dC, dI)) (ci := 4) (v := .ref q11) (ty := (.array .int)) (C := RX4) (T := TX4) (N := 7) hx hb hts hinX4 tyX4 tyX4_ok nmX4 hown hK hP hD hS 0 rfl rfl 6 (by decide) hf25 (fun _ h9 => h9) rfl hinit rfl (by decide +kernel) rfl rfl (Nat.le_of_ble_eq_true rfl) dX4_init_51 (fun H locs hP hD hS => ?_)
  have hP : va_P (dC, dI) vwCl (([(q, .inr (4, [.int 0, .ref q1, .ref q3, .ref q5, .ref q7, .ref q9, .ref q11])), (q1, .inl (cI, 7, .inl (fun _ => 0))), (q3, .inl (cI, 8, .inl (fun _ => 0))), (q5, .inl (cI, 768, .inl (fun _ => 0))), (q7, .inl (cI, 90, .inl (fun _ => 0))), (q9, .inl (cI, 7, .inl (fun _ => 0))), (q11, .inl (cI, 768, .inl (fun _ => 0)))] : va_W)) H := hP
  have hD : va_D A (([(q, .inr (4, [.int 0, .ref q1, .ref q3, .ref q5, .ref q7, .ref q9, .ref q11])), (q1, .inl (cI, 7, .inl (fun _ => 0))), (q3, .inl (cI, 8, .inl (fun _ => 0))), (q5, .inl (cI, 768, .inl (fun _ => 0))), (q7, .inl (cI, 90, .inl (fun _ => 0))), (q9, .inl (cI, 7, .inl (fun _ => 0))), (q11, .inl (cI, 768, .inl (fun _ => 0)))] : va_W)) := hD
  obtain ⟨a, ea⟩ : ∃ z : Nat → Nat, z = mad q (fun i => [0, q1, q3, q5, q7, q9, q11].getD i 0) := ⟨_, rfl⟩
  have e0 : a 0 = q := by rw [ea]; rfl
  obtain ⟨S0, eS0⟩ : ∃ z : sS, z = (fun _ _ => 0) := ⟨_, rfl⟩
  have hP : va_P (dC, dI) vwCl (mW cI a S0) H := by rw [ea, eS0]; exact hP
  have hD : va_D A (mW cI a S0) := by rw [ea, eS0]; exact hD
  have hl : lv_has ls 2 [(0, .ref (a 0))] := by rw [e0]; exact hl
  refine lv_iconst (v := 0) hx hb dX4_init_54 (by decide) ?_
  refine lv_istore_n (lv' := [(1, .int 0), (0, .ref (a 0))]) hx hb dX4_init_55 rfl hl (by decide) rfl (fun ls hl => ?_)
  have lp56 : ∀ (n56 i56 : Nat) (T56_0 : sS) (H : Heap) (locs : List Loc) (ls : Array Slot), i56 + n56 = 30 → T56_0 = itr (fun i T => s_put (s_put T 4 ((3 * i) + 1).toNatClampNeg 60) 4 ((3 * i) + 2).toNatClampNeg 3) i56 S0 → va_P (dC, dI) vwCl (mW cI a T56_0) H → va_D A (mW cI a T56_0) → va_S A s.heap H locs → lv_has ls 2 [(0, .ref (a 0)), (1, .int (nI i56))] → W p l e ({ frames := 2, cells := 7, slots := 1660, locals := 84 } : Room) s m [.ref q].toArray below meth c H locs 6 1648 (zMq (dC, dI) A (fun a : Nat → Nat => mW cI a mst0) (fun a => a 0 = q) below [.ref q].toArray s 7 1660) (F0 m 56 ls []) := by
    intro n56
    induction n56 with
    | zero =>
      intro i56 T56_0 H locs ls hi56 eT56_0 hP hD hS hl
      have hi56 : i56 = 30 := by omega
      rw [hi56] at eT56_0
      refine lv_iload_n hx hb dX4_init_56 rfl (lv_at hl 1 rfl) ?_
      refine lv_bipush (v := 30) hx hb dX4_init_57 (by decide) ?_
      refine lv_icmp_ge (tgt := 91) hx hb dX4_init_59 (by decide) (fun c_13 => ?_) (fun c_13 => ?_)
      · refine lv_aload_n hx hb dX4_init_91 rfl (lv_at hl 0 rfl) ?_
        refine lv_iconst (v := 4) hx hb dX4_init_92 (by decide) ?_
        refine lv_iconst (v := 4) hx hb dX4_init_93 (by decide) ?_
        obtain ⟨S14, eS14⟩ : ∃ z : sS, z = mclr T56_0 4 4 := ⟨_, rfl⟩
        refine zW_V (pre := ([] : va_W)) (wc := mW cI a T56_0) (post := ([] : va_W)) (w1 := mW cI a S14) ⟨hx, hb, hml, hown, hts⟩ (by rw [eS14]; exact c_X4_clear l dC dI cI a T56_0 4 4) (cwV 2 hts gX4_init_X4_clear rfl rfl rfl (by decide +kernel) ⟨Nat.le_of_ble_eq_true rfl, Nat.le_of_ble_eq_true rfl⟩) (by simp only [List.append_assoc, List.append_nil, List.nil_append]) hK hN (ci := 4) (q0 := 0) rfl rfl rfl hP hD hS hA rfl hl.1 rfl (Nat.le_of_ble_eq_true rfl) dX4_init_94 ⟨Nat.le_of_ble_eq_true rfl, Nat.le_of_ble_eq_true rfl⟩ (fun H locs hP hD hS => ?_)
        have hP : va_P (dC, dI) vwCl (mW cI a S14) H := by simpa only [List.append_assoc, List.append_nil, List.nil_append] using hP
        have hD : va_D A (mW cI a S14) := by simpa only [List.append_assoc, List.append_nil, List.nil_append] using hD
        have hZ : S14 = mst0 := (by (try rw [eS14]); (try rw [eT56_0]); (try rw [eS0]); first | done | rfl)
        rw [hZ] at hP hD
        exact zM_ret (w1 := fun a : Nat → Nat => mW cI a mst0) a e0 hx hb hr hlocks hP hD hS dX4_init_97
      · exact absurd (show nI (30) ≤ nI i56 from nI_le (by omega) (by omega)) c_13
    | succ n56 ih56 =>
      intro i56 T56_0 H locs ls hi56 eT56_0 hP hD hS hl
      refine lv_iload_n hx hb dX4_init_56 rfl (lv_at hl 1 rfl) ?_
      refine lv_bipush (v := 30) hx hb dX4_init_57 (by decide) ?_
      refine lv_icmp_ge (tgt := 91) hx hb dX4_init_59 (by decide) (fun c_15 => ?_) (fun c_15 => ?_)
      · exact absurd c_15 (show ¬ nI (30) ≤ nI i56 from nI_ge (by omega) (by omega))
      · refine lv_aload_n hx hb dX4_init_62 rfl (lv_at hl 0 rfl) ?_
        refine va_get (D := (dC, dI)) (ci := 4) (v := .ref (a 4)) (C := RX4) (T := TX4) (N := 7) hx hb hts hinX4 hown hK hP 0 rfl rfl 4 (by decide) hf19 (fun _ h9 => h9) rfl dX4_init_63 ?_
        refine lv_iconst (v := 3) hx hb dX4_init_66 (by decide) ?_
        refine lv_iload_n hx hb dX4_init_67 rfl (lv_at hl 1 rfl) ?_
        refine lv_imul hx hb dX4_init_68 ?_
        refine lv_iconst (v := 1) hx hb dX4_init_69 (by decide) ?_
        refine lv_iadd hx hb dX4_init_70 ?_
        refine lv_bipush (v := 60) hx hb dX4_init_71 (by decide) ?_
        obtain ⟨S16, eS16⟩ : ∃ z : sS, z = s_put T56_0 4 (((3 * (nI i56)) + 1).toNatClampNeg) 60 := ⟨_, rfl⟩
        refine va_iast (cA := cI) (n := 90) (f := T56_0 4) hx hb hK hP hD hS 4 0 rfl rfl (w3_in (by omega) (j := 1) (by decide)) dX4_init_73 (fun H locs hP hD hS => ?_)
        have hP : va_P (dC, dI) vwCl (mW cI a S16) H := by rw [eS16]; exact hP
        have hD : va_D A (mW cI a S16) := by rw [eS16]; exact hD
        refine lv_aload_n hx hb dX4_init_74 rfl (lv_at hl 0 rfl) ?_
        refine va_get (D := (dC, dI)) (ci := 4) (v := .ref (a 4)) (C := RX4) (T := TX4) (N := 7) hx hb hts hinX4 hown hK hP 0 rfl rfl 4 (by decide) hf19 (fun _ h9 => h9) rfl dX4_init_75 ?_
        refine lv_iconst (v := 3) hx hb dX4_init_78 (by decide) ?_
        refine lv_iload_n hx hb dX4_init_79 rfl (lv_at hl 1 rfl) ?_
        refine lv_imul hx hb dX4_init_80 ?_
        refine lv_iconst (v := 2) hx hb dX4_init_81 (by decide) ?_
        refine lv_iadd hx hb dX4_init_82 ?_
        refine lv_iconst (v := 3) hx hb dX4_init_83 (by decide) ?_
        obtain ⟨S17, eS17⟩ : ∃ z : sS, z = s_put S16 4 (((3 * (nI i56)) + 2).toNatClampNeg) 3 := ⟨_, rfl⟩
        refine va_iast (cA := cI) (n := 90) (f := S16 4) hx hb hK hP hD hS 4 0 rfl rfl (w3_in (by omega) (j := 2) (by decide)) dX4_init_84 (fun H locs hP hD hS => ?_)
        have hP : va_P (dC, dI) vwCl (mW cI a S17) H := by rw [eS17]; exact hP
        have hD : va_D A (mW cI a S17) := by rw [eS17]; exact hD
        refine lv_iinc (v := nI (i56 + 1)) (lv' := [(1, .int (nI (i56 + 1))), (0, .ref (a 0))]) hx hb dX4_init_85 hl (k := 1) rfl (show nI i56 + Int32.ofInt 1 = nI (i56 + 1) from nI_1 i56) (by decide) rfl (fun ls hl => ?_)
        refine lv_goto (tgt := 56) hx hb dX4_init_88 (by decide) ?_
        exact ih56 (i56 + 1) S17 _ _ ls (by omega) (by (try rw [eS17]); (try rw [eS16]); (try rw [eT56_0]); rfl) hP hD hS (lv_sub hl [1, 0] rfl)
  exact lp56 (30) 0 S0 _ _ ls (by omega) rfl hP hD hS (lv_sub hl [1, 0] rfl)

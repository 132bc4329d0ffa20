set_option maxHeartbeats 4000000 in
set_option maxRecDepth 100000 in
theorem c_X2_sumOf_7 (l : Launch) (dC : Nat → ClassId) (dI : Nat → Nat → Nat) (cI : ClassId) (a : Nat → Nat) (h w : Nat) (S : sS) (hG0 : geo h w S) : zI l yX2_sumOf wsX2_sumOf { frames := 1, cells := 0, slots := 0, locals := 20 } (dC, dI) cI [.ref (a 0), .ref (a 7)] (sW cI a S) (sW cI a S) (sl_sum h w S 7) := by
  refine zI_of (cc := cX2_sumOf) (maxL := 4) (ret := (some .int)) (by decide) rfl (Nat.le_of_ble_eq_true rfl) ?_
  intro p e s m below meth c A ls C0 hl
  obtain ⟨hx, hb, hr, hml, hown, hts, hlocks, hK, hN, hA, hP, hD, hS⟩ := C0
  have hown : s.vm.findClass RX2 = some m.cls := hown
  have hl : lv_has ls 4 [(0, .ref (a 0)), (1, .ref (a 7))] := hl
  have hS0 := hS
  have hN64 := geo_hw hG0
  have hW9 := geo_w hG0
  obtain ⟨-, -, hh2, hh8, hw2, hw8⟩ := id hG0
  refine lv_iconst (v := 0) hx hb dX2_sumOf_0 (by decide) ?_
  refine lv_istore_n (lv' := [(2, .int 0), (0, .ref (a 0)), (1, .ref (a 7))]) hx hb dX2_sumOf_1 rfl hl (by decide) rfl (fun ls hl => ?_)
  refine lv_iconst (v := 0) hx hb dX2_sumOf_2 (by decide) ?_
  refine lv_istore_n (lv' := [(3, .int 0), (2, .int 0), (0, .ref (a 0)), (1, .ref (a 7))]) hx hb dX2_sumOf_3 rfl hl (by decide) rfl (fun ls hl => ?_)
  have lp4 : ∀ (n4 i4 : Nat) (u4_2 : Int32) (H : Heap) (locs : List Loc) (ls : Array Slot), i4 + n4 = h * w → u4_2 = itr (fun i x => x + S 7 i.toNatClampNeg) i4 0 → va_P (dC, dI) vwCl (sW cI a S) H → va_D A (sW cI a S) → va_S A s.heap H locs → lv_has ls 4 [(0, .ref (a 0)), (1, .ref (a 7)), (2, .int u4_2), (3, .int (nI i4))] → W p l e ({ frames := 1, cells := 0, slots := 0, locals := 20 } : Room) s m [.ref (a 0), .ref (a 7)].toArray below meth c H locs 0 0 (zIq (dC, dI) A (sW cI a S) (sl_sum h w S 7) below [.ref (a 0), .ref (a 7)].toArray s 0 0) (F0 m 4 ls []) := by
    intro n4
    induction n4 with
    | zero =>
      intro i4 u4_2 H locs ls hi4 eu4_2 hP hD hS hl
      have hi4 : i4 = h * w := by omega
      rw [hi4] at eu4_2
      refine lv_iload_n hx hb dX2_sumOf_4 rfl (lv_at hl 3 rfl) ?_
      refine lv_aload_n hx hb dX2_sumOf_5 rfl (lv_at hl 0 rfl) ?_
      refine zI_V (pre := ([] : va_W)) (wc := sW cI a S) (post := ([] : va_W)) (w1 := sW cI a S) ⟨hx, hb, hml, hown, hts⟩ (c_X2_cells l dC dI cI a S) (cwV 0 hts gX2_sumOf_X2_cells rfl rfl rfl (by decide +kernel) ⟨Nat.le_of_ble_eq_true rfl, Nat.le_of_ble_eq_true rfl⟩) (by simp only [List.append_assoc, List.append_nil, List.nil_append]) hK hN (ci := 2) (q0 := 0) rfl rfl rfl hP hD hS hA rfl hl.1 rfl (Nat.le_of_ble_eq_true rfl) dX2_sumOf_6 ⟨Nat.le_of_ble_eq_true rfl, Nat.le_of_ble_eq_true rfl⟩ (fun H locs hP hD hS => ?_)
      have hP : va_P (dC, dI) vwCl (sW cI a S) H := by simpa only [List.append_assoc, List.append_nil, List.nil_append] using hP
      have hD : va_D A (sW cI a S) := by simpa only [List.append_assoc, List.append_nil, List.nil_append] using hD
      refine lv_icmp_ge (tgt := 24) hx hb dX2_sumOf_9 (by decide) (fun c_1 => ?_) (fun c_1 => ?_)
      · refine lv_iload_n hx hb dX2_sumOf_24 rfl (lv_at hl 2 rfl) ?_
        exact zI_ret hx hb hr hlocks hP hD hS rfl (by (try rw [eu4_2]); first | done | rfl | (simp only [sl_sum, if_pos c_1]; done)) dX2_sumOf_25
      · exact absurd (by rw [show _ = nI (h * w) from (geo_cells hG0)]; exact nI_le (by omega) (by omega)) c_1
    | succ n4 ih4 =>
      intro i4 u4_2 H locs ls hi4 eu4_2 hP hD hS hl
      refine lv_iload_n hx hb dX2_sumOf_4 rfl (lv_at hl 3 rfl) ?_
      refine lv_aload_n hx hb dX2_sumOf_5 rfl (lv_at hl 0 rfl) ?_
      refine zI_V (pre := ([] : va_W)) (wc := sW cI a S) (post := ([] : va_W)) (w1 := sW cI a S) ⟨hx, hb, hml, hown, hts⟩ (c_X2_cells l dC dI cI a S) (cwV 0 hts gX2_sumOf_X2_cells rfl rfl rfl (by decide +kernel) ⟨Nat.le_of_ble_eq_true rfl, Nat.le_of_ble_eq_true rfl⟩) (by simp only [List.append_assoc, List.append_nil, List.nil_append]) hK hN (ci := 2) (q0 := 0) rfl rfl rfl hP hD hS hA rfl hl.1 rfl (Nat.le_of_ble_eq_true rfl) dX2_sumOf_6 ⟨Nat.le_of_ble_eq_true rfl, Nat.le_of_ble_eq_true rfl⟩ (fun H locs hP hD hS => ?_)
      have hP : va_P (dC, dI) vwCl (sW cI a S) H := by simpa only [List.append_assoc, List.append_nil, List.nil_append] using hP
      have hD : va_D A (sW cI a S) := by simpa only [List.append_assoc, List.append_nil, List.nil_append] using hD
      refine lv_icmp_ge (tgt := 24) hx hb dX2_sumOf_9 (by decide) (fun c_2 => ?_) (fun c_2 => ?_)
      · exact absurd c_2 (by rw [show _ = nI (h * w) from (geo_cells hG0)]; exact nI_ge (by omega) (by omega))
      · refine lv_iload_n hx hb dX2_sumOf_12 rfl (lv_at hl 2 rfl) ?_
        refine lv_aload_n hx hb dX2_sumOf_13 rfl (lv_at hl 1 rfl) ?_
        refine lv_iload_n hx hb dX2_sumOf_14 rfl (lv_at hl 3 rfl) ?_
        refine va_iald (cA := cI) (n := 64) (f := S 7) hx hb hK hP 7 0 rfl rfl (vp_in_nI (by omega) (by decide)) dX2_sumOf_15 ?_
        refine lv_iadd hx hb dX2_sumOf_16 ?_
        refine lv_istore_n (lv' := [(2, .int (u4_2 + (S 7 (nI i4).toNatClampNeg))), (0, .ref (a 0)), (1, .ref (a 7)), (3, .int (nI i4))]) hx hb dX2_sumOf_17 rfl hl (by decide) rfl (fun ls hl => ?_)
        refine lv_iinc (v := nI (i4 + 1)) (lv' := [(3, .int (nI (i4 + 1))), (2, .int (u4_2 + (S 7 (nI i4).toNatClampNeg))), (0, .ref (a 0)), (1, .ref (a 7))]) hx hb dX2_sumOf_18 hl (k := 3) rfl (show nI i4 + Int32.ofInt 1 = nI (i4 + 1) from nI_1 i4) (by decide) rfl (fun ls hl => ?_)
        refine lv_goto (tgt := 4) hx hb dX2_sumOf_21 (by decide) ?_
        exact ih4 (i4 + 1) (u4_2 + (S 7 (nI i4).toNatClampNeg)) _ _ ls (by omega) (by (try rw [eu4_2]); rfl) hP hD hS (lv_sub hl [2, 3, 1, 0] rfl)
  exact lp4 (h * w) 0 0 _ _ ls (by omega) rfl hP hD hS (lv_sub hl [2, 3, 1, 0] rfl)
set_option maxHeartbeats 4000000 in
set_option maxRecDepth 100000 in
theorem c_X2_sumOf_9 (l : Launch) (dC : Nat → ClassId) (dI : Nat → Nat → Nat) (cI : ClassId) (a : Nat → Nat) (h w : Nat) (S : sS) (hG0 : geo h w S) : zI l yX2_sumOf wsX2_sumOf { frames := 1, cells := 0, slots := 0, locals := 20 } (dC, dI) cI [.ref (a 0), .ref (a 9)] (sW cI a S) (sW cI a S) (sl_sum h w S 9) := by
  refine zI_of (cc := cX2_sumOf) (maxL := 4) (ret := (some .int)) (by decide) rfl (Nat.le_of_ble_eq_true rfl) ?_
  intro p e s m below meth c A ls C0 hl
  obtain ⟨hx, hb, hr, hml, hown, hts, hlocks, hK, hN, hA, hP, hD, hS⟩ := C0
  have hown : s.vm.findClass RX2 = some m.cls := hown
  have hl : lv_has ls 4 [(0, .ref (a 0)), (1, .ref (a 9))] := hl
  have hS0 := hS
  have hN64 := geo_hw hG0
  have hW9 := geo_w hG0
  obtain ⟨-, -, hh2, hh8, hw2, hw8⟩ := id hG0
  refine lv_iconst (v := 0) hx hb dX2_sumOf_0 (by decide) ?_
  refine lv_istore_n (lv' := [(2, .int 0), (0, .ref (a 0)), (1, .ref (a 9))]) hx hb dX2_sumOf_1 rfl hl (by decide) rfl (fun ls hl => ?_)
  refine lv_iconst (v := 0) hx hb dX2_sumOf_2 (by decide) ?_
  refine lv_istore_n (lv' := [(3, .int 0), (2, .int 0), (0, .ref (a 0)), (1, .ref (a 9))]) hx hb dX2_sumOf_3 rfl hl (by decide) rfl (fun ls hl => ?_)
  have lp4 : ∀ (n4 i4 : Nat) (u4_2 : Int32) (H : Heap) (locs : List Loc) (ls : Array Slot), i4 + n4 = h * w → u4_2 = itr (fun i x => x + S 9 i.toNatClampNeg) i4 0 → va_P (dC, dI) vwCl (sW cI a S) H → va_D A (sW cI a S) → va_S A s.heap H locs → lv_has ls 4 [(0, .ref (a 0)), (1, .ref (a 9)), (2, .int u4_2), (3, .int (nI i4))] → W p l e ({ frames := 1, cells := 0, slots := 0, locals := 20 } : Room) s m [.ref (a 0), .ref (a 9)].toArray below meth c H locs 0 0 (zIq (dC, dI) A (sW cI a S) (sl_sum h w S 9) below [.ref (a 0), .ref (a 9)].toArray s 0 0) (F0 m 4 ls []) := by
    intro n4
    induction n4 with
    | zero =>
      intro i4 u4_2 H locs ls hi4 eu4_2 hP hD hS hl
      have hi4 : i4 = h * w := by omega
      rw [hi4] at eu4_2
      refine lv_iload_n hx hb dX2_sumOf_4 rfl (lv_at hl 3 rfl) ?_
      refine lv_aload_n hx hb dX2_sumOf_5 rfl (lv_at hl 0 rfl) ?_
      refine zI_V (pre := ([] : va_W)) (wc := sW cI a S) (post := ([] : va_W)) (w1 := sW cI a S) ⟨hx, hb, hml, hown, hts⟩ (c_X2_cells l dC dI cI a S) (cwV 0 hts gX2_sumOf_X2_cells rfl rfl rfl (by decide +kernel) ⟨Nat.le_of_ble_eq_true rfl, Nat.le_of_ble_eq_true rfl⟩) (by simp only [List.append_assoc, List.append_nil, List.nil_append]) hK hN (ci := 2) (q0 := 0) rfl rfl rfl hP hD hS hA rfl hl.1 rfl (Nat.le_of_ble_eq_true rfl) dX2_sumOf_6 ⟨Nat.le_of_ble_eq_true rfl, Nat.le_of_ble_eq_true rfl⟩ (fun H locs hP hD hS => ?_)
      have hP : va_P (dC, dI) vwCl (sW cI a S) H := by simpa only [List.append_assoc, List.append_nil, List.nil_append] using hP
      have hD : va_D A (sW cI a S) := by simpa only [List.append_assoc, List.append_nil, List.nil_append] using hD
      refine lv_icmp_ge (tgt := 24) hx hb dX2_sumOf_9 (by decide) (fun c_1 => ?_) (fun c_1 => ?_)
      · refine lv_iload_n hx hb dX2_sumOf_24 rfl (lv_at hl 2 rfl) ?_
        exact zI_ret hx hb hr hlocks hP hD hS rfl (by (try rw [eu4_2]); first | done | rfl | (simp only [sl_sum, if_pos c_1]; done)) dX2_sumOf_25
      · exact absurd (by rw [show _ = nI (h * w) from (geo_cells hG0)]; exact nI_le (by omega) (by omega)) c_1
    | succ n4 ih4 =>
      intro i4 u4_2 H locs ls hi4 eu4_2 hP hD hS hl
      refine lv_iload_n hx hb dX2_sumOf_4 rfl (lv_at hl 3 rfl) ?_
      refine lv_aload_n hx hb dX2_sumOf_5 rfl (lv_at hl 0 rfl) ?_
      refine zI_V (pre := ([] : va_W)) (wc := sW cI a S) (post := ([] : va_W)) (w1 := sW cI a S) ⟨hx, hb, hml, hown, hts⟩ (c_X2_cells l dC dI cI a S) (cwV 0 hts gX2_sumOf_X2_cells rfl rfl rfl (by decide +kernel) ⟨Nat.le_of_ble_eq_true rfl, Nat.le_of_ble_eq_true rfl⟩) (by simp only [List.append_assoc, List.append_nil, List.nil_append]) hK hN (ci := 2) (q0 := 0) rfl rfl rfl hP hD hS hA rfl hl.1 rfl (Nat.le_of_ble_eq_true rfl) dX2_sumOf_6 ⟨Nat.le_of_ble_eq_true rfl, Nat.le_of_ble_eq_true rfl⟩ (fun H locs hP hD hS => ?_)
      have hP : va_P (dC, dI) vwCl (sW cI a S) H := by simpa only [List.append_assoc, List.append_nil, List.nil_append] using hP
      have hD : va_D A (sW cI a S) := by simpa only [List.append_assoc, List.append_nil, List.nil_append] using hD
      refine lv_icmp_ge (tgt := 24) hx hb dX2_sumOf_9 (by decide) (fun c_2 => ?_) (fun c_2 => ?_)
      · exact absurd c_2 (by rw [show _ = nI (h * w) from (geo_cells hG0)]; exact nI_ge (by omega) (by omega))
      · refine lv_iload_n hx hb dX2_sumOf_12 rfl (lv_at hl 2 rfl) ?_
        refine lv_aload_n hx hb dX2_sumOf_13 rfl (lv_at hl 1 rfl) ?_
        refine lv_iload_n hx hb dX2_sumOf_14 rfl (lv_at hl 3 rfl) ?_
        refine va_iald (cA := cI) (n := 64) (f := S 9) hx hb hK hP 9 0 rfl rfl (vp_in_nI (by omega) (by decide)) dX2_sumOf_15 ?_
        refine lv_iadd hx hb dX2_sumOf_16 ?_
        refine lv_istore_n (lv' := [(2, .int (u4_2 + (S 9 (nI i4).toNatClampNeg))), (0, .ref (a 0)), (1, .ref (a 9)), (3, .int (nI i4))]) hx hb dX2_sumOf_17 rfl hl (by decide) rfl (fun ls hl => ?_)
        refine lv_iinc (v := nI (i4 + 1)) (lv' := [(3, .int (nI (i4 + 1))), (2, .int (u4_2 + (S 9 (nI i4).toNatClampNeg))), (0, .ref (a 0)), (1, .ref (a 9))]) hx hb dX2_sumOf_18 hl (k := 3) rfl (show nI i4 + Int32.ofInt 1 = nI (i4 + 1) from nI_1 i4) (by decide) rfl (fun ls hl => ?_)
        refine lv_goto (tgt := 4) hx hb dX2_sumOf_21 (by decide) ?_
        exact ih4 (i4 + 1) (u4_2 + (S 9 (nI i4).toNatClampNeg)) _ _ ls (by omega) (by (try rw [eu4_2]); rfl) hP hD hS (lv_sub hl [2, 3, 1, 0] rfl)
  exact lp4 (h * w) 0 0 _ _ ls (by omega) rfl hP hD hS (lv_sub hl [2, 3, 1, 0] rfl)
set_option maxHeartbeats 4000000 in
set_option maxRecDepth 100000 in
theorem c_X2_sumOf_2 (l : Launch) (dC : Nat → ClassId) (dI : Nat → Nat → Nat) (cI : ClassId) (a : Nat → Nat) (h w : Nat) (S : sS) (hG0 : geo h w S) : zI l yX2_sumOf wsX2_sumOf { frames := 1, cells := 0, slots := 0, locals := 20 } (dC, dI) cI [.ref (a 0), .ref (a 2)] (sW cI a S) (sW cI a S) (sl_sum h w S 2) := by
  refine zI_of (cc := cX2_sumOf) (maxL := 4) (ret := (some .int)) (by decide) rfl (Nat.le_of_ble_eq_true rfl) ?_
  intro p e s m below meth c A ls C0 hl
  obtain ⟨hx, hb, hr, hml, hown, hts, hlocks, hK, hN, hA, hP, hD, hS⟩ := C0
  have hown : s.vm.findClass RX2 = some m.cls := hown
  have hl : lv_has ls 4 [(0, .ref (a 0)), (1, .ref (a 2))] := hl
  have hS0 := hS
  have hN64 := geo_hw hG0
  have hW9 := geo_w hG0
  obtain ⟨-, -, hh2, hh8, hw2, hw8⟩ := id hG0
  refine lv_iconst (v := 0) hx hb dX2_sumOf_0 (by decide) ?_
  refine lv_istore_n (lv' := [(2, .int 0), (0, .ref (a 0)), (1, .ref (a 2))]) hx hb dX2_sumOf_1 rfl hl (by decide) rfl (fun ls hl => ?_)
  refine lv_iconst (v := 0) hx hb dX2_sumOf_2 (by decide) ?_
  refine lv_istore_n (lv' := [(3, .int 0), (2, .int 0), (0, .ref (a 0)), (1, .ref (a 2))]) hx hb dX2_sumOf_3 rfl hl (by decide) rfl (fun ls hl => ?_)
  have lp4 : ∀ (n4 i4 : Nat) (u4_2 : Int32) (H : Heap) (locs : List Loc) (ls : Array Slot), i4 + n4 = h * w → u4_2 = itr (fun i x => x + S 2 i.toNatClampNeg) i4 0 → va_P (dC, dI) vwCl (sW cI a S) H → va_D A (sW cI a S) → va_S A s.heap H locs → lv_has ls 4 [(0, .ref (a 0)), (1, .ref (a 2)), (2, .int u4_2), (3, .int (nI i4))] → W p l e ({ frames := 1, cells := 0, slots := 0, locals := 20 } : Room) s m [.ref (a 0), .ref (a 2)].toArray below meth c H locs 0 0 (zIq (dC, dI) A (sW cI a S) (sl_sum h w S 2) below [.ref (a 0), .ref (a 2)].toArray s 0 0) (F0 m 4 ls []) := by
    intro n4
    induction n4 with
    | zero =>
      intro i4 u4_2 H locs ls hi4 eu4_2 hP hD hS hl
      have hi4 : i4 = h * w := by omega
      rw [hi4] at eu4_2
      refine lv_iload_n hx hb dX2_sumOf_4 rfl (lv_at hl 3 rfl) ?_
      refine lv_aload_n hx hb dX2_sumOf_5 rfl (lv_at hl 0 rfl) ?_
      refine zI_V (pre := ([] : va_W)) (wc := sW cI a S) (post := ([] : va_W)) (w1 := sW cI a S) ⟨hx, hb, hml, hown, hts⟩ (c_X2_cells l dC dI cI a S) (cwV 0 hts gX2_sumOf_X2_cells rfl rfl rfl (by decide +kernel) ⟨Nat.le_of_ble_eq_true rfl, Nat.le_of_ble_eq_true rfl⟩) (by simp only [List.append_assoc, List.append_nil, List.nil_append]) hK hN (ci := 2) (q0 := 0) rfl rfl rfl hP hD hS hA rfl hl.1 rfl (Nat.le_of_ble_eq_true rfl) dX2_sumOf_6 ⟨Nat.le_of_ble_eq_true rfl, Nat.le_of_ble_eq_true rfl⟩ (fun H locs hP hD hS => ?_)
      have hP : va_P (dC, dI) vwCl (sW cI a S) H := by simpa only [List.append_assoc, List.append_nil, List.nil_append] using hP
      have hD : va_D A (sW cI a S) := by simpa only [List.append_assoc, List.append_nil, List.nil_append] using hD
      refine lv_icmp_ge (tgt := 24) hx hb dX2_sumOf_9 (by decide) (fun c_1 => ?_) (fun c_1 => ?_)
      · refine lv_iload_n hx hb dX2_sumOf_24 rfl (lv_at hl 2 rfl) ?_
        exact zI_ret hx hb hr hlocks hP hD hS rfl (by (try rw [eu4_2]); first | done | rfl | (simp only [sl_sum, if_pos c_1]; done)) dX2_sumOf_25
      · exact absurd (by rw [show _ = nI (h * w) from (geo_cells hG0)]; exact nI_le (by omega) (by omega)) c_1
    | succ n4 ih4 =>
      intro i4 u4_2 H locs ls hi4 eu4_2 hP hD hS hl
      refine lv_iload_n hx hb dX2_sumOf_4 rfl (lv_at hl 3 rfl) ?_
      refine lv_aload_n hx hb dX2_sumOf_5 rfl (lv_at hl 0 rfl) ?_
      refine zI_V (pre := ([] : va_W)) (wc := sW cI a S) (post := ([] : va_W)) (w1 := sW cI a S) ⟨hx, hb, hml, hown, hts⟩ (c_X2_cells l dC dI cI a S) (cwV 0 hts gX2_sumOf_X2_cells rfl rfl rfl (by decide +kernel) ⟨Nat.le_of_ble_eq_true rfl, Nat.le_of_ble_eq_true rfl⟩) (by simp only [List.append_assoc, List.append_nil, List.nil_append]) hK hN (ci := 2) (q0 := 0) rfl rfl rfl hP hD hS hA rfl hl.1 rfl (Nat.le_of_ble_eq_true rfl) dX2_sumOf_6 ⟨Nat.le_of_ble_eq_true rfl, Nat.le_of_ble_eq_true rfl⟩ (fun H locs hP hD hS => ?_)
      have hP : va_P (dC, dI) vwCl (sW cI a S) H := by simpa only [List.append_assoc, List.append_nil, List.nil_append] using hP
      have hD : va_D A (sW cI a S) := by simpa only [List.append_assoc, List.append_nil, List.nil_append] using hD
      refine lv_icmp_ge (tgt := 24) hx hb dX2_sumOf_9 (by decide) (fun c_2 => ?_) (fun c_2 => ?_)
      · exact absurd c_2 (by rw [show _ = nI (h * w) from (geo_cells hG0)]; exact nI_ge (by omega) (by omega))
      · refine lv_iload_n hx hb dX2_sumOf_12 rfl (lv_at hl 2 rfl) ?_
        refine lv_aload_n hx hb dX2_sumOf_13 rfl (lv_at hl 1 rfl) ?_
        refine lv_iload_n hx hb dX2_sumOf_14 rfl (lv_at hl 3 rfl) ?_
        refine va_iald (cA := cI) (n := 64) (f := S 2) hx hb hK hP 2 0 rfl rfl (vp_in_nI (by omega) (by decide)) dX2_sumOf_15 ?_
        refine lv_iadd hx hb dX2_sumOf_16 ?_
        refine lv_istore_n (lv' := [(2, .int (u4_2 + (S 2 (nI i4).toNatClampNeg))), (0, .ref (a 0)), (1, .ref (a 2)), (3, .int (nI i4))]) hx hb dX2_sumOf_17 rfl hl (by decide) rfl (fun ls hl => ?_)
        refine lv_iinc (v := nI (i4 + 1)) (lv' := [(3, .int (nI (i4 + 1))), (2, .int (u4_2 + (S 2 (nI i4).toNatClampNeg))), (0, .ref (a 0)), (1, .ref (a 2))]) hx hb dX2_sumOf_18 hl (k := 3) rfl (show nI i4 + Int32.ofInt 1 = nI (i4 + 1) from nI_1 i4) (by decide) rfl (fun ls hl => ?_)
        refine lv_goto (tgt := 4) hx hb dX2_sumOf_21 (by decide) ?_
        exact ih4 (i4 + 1) (u4_2 + (S 2 (nI i4).toNatClampNeg)) _ _ ls (by omega) (by (try rw [eu4_2]); rfl) hP hD hS (lv_sub hl [2, 3, 1, 0] rfl)
  exact lp4 (h * w) 0 0 _ _ ls (by omega) rfl hP hD hS (lv_sub hl [2, 3, 1, 0] rfl)
set_option maxHeartbeats 4000000 in
set_option maxRecDepth 100000 in
theorem c_X2_crops (l : Launch) (dC : Nat → ClassId) (dI : Nat → Nat → Nat) (cI : ClassId) (a : Nat → Nat) (h w : Nat) (S : sS) (hG0 : geo h w S) : zI l yX2_crops wsX2_crops { frames := 2, cells := 0, slots := 0, locals := 43 } (dC, dI) cI [.ref (a 0)] (sW cI a S) (sW cI a S) (sl_sum h w S 7) := by
  refine zI_of (cc := cX2_crops) (maxL := 1) (ret := (some .int)) (by decide) rfl (Nat.le_of_ble_eq_true rfl) ?_
  intro p e s m below meth c A ls C0 hl
  obtain ⟨hx, hb, hr, hml, hown, hts, hlocks, hK, hN, hA, hP, hD, hS⟩ := C0
  have hown : s.vm.findClass RX2 = some m.cls := hown
  have hl : lv_has ls 1 [(0, .ref (a 0))] := hl
  have hf30 := hts (.fieldLink RX2 30 "PaddyTerraces$Slope" "crop" "[I") (by decide +kernel)
  have hinX2 : ∀ w ∈ wsX20, w ∈ wsX2_crops := by decide +kernel
  have hS0 := hS
  have hN64 := geo_hw hG0
  have hW9 := geo_w hG0
  obtain ⟨-, -, hh2, hh8, hw2, hw8⟩ := id hG0
  refine lv_aload_n hx hb dX2_crops_0 rfl (lv_at hl 0 rfl) ?_
  refine lv_aload_n hx hb dX2_crops_1 rfl (lv_at hl 0 rfl) ?_
  refine va_get (D := (dC, dI)) (ci := 2) (v := .ref (a 7)) (C := RX2) (T := TX2) (N := 18) hx hb hts hinX2 hown hK hP 0 rfl rfl 11 (by decide) hf30 (fun _ h9 => h9) rfl dX2_crops_2 ?_
  refine zI_V (pre := ([] : va_W)) (wc := sW cI a S) (post := ([] : va_W)) (w1 := sW cI a S) ⟨hx, hb, hml, hown, hts⟩ (c_X2_sumOf_7 l dC dI cI a h w S hG0) (cwV 1 hts gX2_crops_X2_sumOf rfl rfl rfl (by decide +kernel) ⟨Nat.le_of_ble_eq_true rfl, Nat.le_of_ble_eq_true rfl⟩) (by simp only [List.append_assoc, List.append_nil, List.nil_append]) hK hN (ci := 2) (q0 := 0) rfl rfl rfl hP hD hS hA rfl hl.1 rfl (Nat.le_of_ble_eq_true rfl) dX2_crops_5 ⟨Nat.le_of_ble_eq_true rfl, Nat.le_of_ble_eq_true rfl⟩ (fun H locs hP hD hS => ?_)
  have hP : va_P (dC, dI) vwCl (sW cI a S) H := by simpa only [List.append_assoc, List.append_nil, List.nil_append] using hP
  have hD : va_D A (sW cI a S) := by simpa only [List.append_assoc, List.append_nil, List.nil_append] using hD
  exact zI_ret hx hb hr hlocks hP hD hS rfl rfl dX2_crops_8
set_option maxHeartbeats 4000000 in
set_option maxRecDepth 100000 in
theorem c_X2_allHardness (l : Launch) (dC : Nat → ClassId) (dI : Nat → Nat → Nat) (cI : ClassId) (a : Nat → Nat) (h w : Nat) (S : sS) (hG0 : geo h w S) : zI l yX2_allHardness wsX2_allHardness { frames := 2, cells := 0, slots := 0, locals := 43 } (dC, dI) cI [.ref (a 0)] (sW cI a S) (sW cI a S) (sl_sum h w S 9) := by
  refine zI_of (cc := cX2_allHardness) (maxL := 1) (ret := (some .int)) (by decide) rfl (Nat.le_of_ble_eq_true rfl) ?_
  intro p e s m below meth c A ls C0 hl
  obtain ⟨hx, hb, hr, hml, hown, hts, hlocks, hK, hN, hA, hP, hD, hS⟩ := C0
  have hown : s.vm.findClass RX2 = some m.cls := hown
  have hl : lv_has ls 1 [(0, .ref (a 0))] := hl
  have hf36 := hts (.fieldLink RX2 36 "PaddyTerraces$Slope" "hardness" "[I") (by decide +kernel)
  have hinX2 : ∀ w ∈ wsX20, w ∈ wsX2_allHardness := by decide +kernel
  have hS0 := hS
  have hN64 := geo_hw hG0
  have hW9 := geo_w hG0
  obtain ⟨-, -, hh2, hh8, hw2, hw8⟩ := id hG0
  refine lv_aload_n hx hb dX2_allHardness_0 rfl (lv_at hl 0 rfl) ?_
  refine lv_aload_n hx hb dX2_allHardness_1 rfl (lv_at hl 0 rfl) ?_
  refine va_get (D := (dC, dI)) (ci := 2) (v := .ref (a 9)) (C := RX2) (T := TX2) (N := 18) hx hb hts hinX2 hown hK hP 0 rfl rfl 13 (by decide) hf36 (fun _ h9 => h9) rfl dX2_allHardness_2 ?_
  refine zI_V (pre := ([] : va_W)) (wc := sW cI a S) (post := ([] : va_W)) (w1 := sW cI a S) ⟨hx, hb, hml, hown, hts⟩ (c_X2_sumOf_9 l dC dI cI a h w S hG0) (cwV 1 hts gX2_allHardness_X2_sumOf rfl rfl rfl (by decide +kernel) ⟨Nat.le_of_ble_eq_true rfl, Nat.le_of_ble_eq_true rfl⟩) (by simp only [List.append_assoc, List.append_nil, List.nil_append]) hK hN (ci := 2) (q0 := 0) rfl rfl rfl hP hD hS hA rfl hl.1 rfl (Nat.le_of_ble_eq_true rfl) dX2_allHardness_5 ⟨Nat.le_of_ble_eq_true rfl, Nat.le_of_ble_eq_true rfl⟩ (fun H locs hP hD hS => ?_)
  have hP : va_P (dC, dI) vwCl (sW cI a S) H := by simpa only [List.append_assoc, List.append_nil, List.nil_append] using hP
  have hD : va_D A (sW cI a S) := by simpa only [List.append_assoc, List.append_nil, List.nil_append] using hD
  exact zI_ret hx hb hr hlocks hP hD hS rfl rfl dX2_allHardness_8
set_option maxHeartbeats 4000000 in
set_option maxRecDepth 100000 in
theorem c_X2_allDepths (l : Launch) (dC : Nat → ClassId) (dI : Nat → Nat → Nat) (cI : ClassId) (a : Nat → Nat) (h w : Nat) (S : sS) (hG0 : geo h w S) : zI l yX2_allDepths wsX2_allDepths { frames := 2, cells := 0, slots := 0, locals := 43 } (dC, dI) cI [.ref (a 0)] (sW cI a S) (sW cI a S) (sl_sum h w S 2) := by
  refine zI_of (cc := cX2_allDepths) (maxL := 1) (ret := (some .int)) (by decide) rfl (Nat.le_of_ble_eq_true rfl) ?_
  intro p e s m below meth c A ls C0 hl
  obtain ⟨hx, hb, hr, hml, hown, hts, hlocks, hK, hN, hA, hP, hD, hS⟩ := C0
  have hown : s.vm.findClass RX2 = some m.cls := hown
  have hl : lv_has ls 1 [(0, .ref (a 0))] := hl
  have hf15 := hts (.fieldLink RX2 15 "PaddyTerraces$Slope" "depth" "[I") (by decide +kernel)
  have hinX2 : ∀ w ∈ wsX20, w ∈ wsX2_allDepths := by decide +kernel
  have hS0 := hS
  have hN64 := geo_hw hG0
  have hW9 := geo_w hG0
  obtain ⟨-, -, hh2, hh8, hw2, hw8⟩ := id hG0
  refine lv_aload_n hx hb dX2_allDepths_0 rfl (lv_at hl 0 rfl) ?_
  refine lv_aload_n hx hb dX2_allDepths_1 rfl (lv_at hl 0 rfl) ?_
  refine va_get (D := (dC, dI)) (ci := 2) (v := .ref (a 2)) (C := RX2) (T := TX2) (N := 18) hx hb hts hinX2 hown hK hP 0 rfl rfl 6 (by decide) hf15 (fun _ h9 => h9) rfl dX2_allDepths_2 ?_
  refine zI_V (pre := ([] : va_W)) (wc := sW cI a S) (post := ([] : va_W)) (w1 := sW cI a S) ⟨hx, hb, hml, hown, hts⟩ (c_X2_sumOf_2 l dC dI cI a h w S hG0) (cwV 1 hts gX2_allDepths_X2_sumOf rfl rfl rfl (by decide +kernel) ⟨Nat.le_of_ble_eq_true rfl, Nat.le_of_ble_eq_true rfl⟩) (by simp only [List.append_assoc, List.append_nil, List.nil_append]) hK hN (ci := 2) (q0 := 0) rfl rfl rfl hP hD hS hA rfl hl.1 rfl (Nat.le_of_ble_eq_true rfl) dX2_allDepths_5 ⟨Nat.le_of_ble_eq_true rfl, Nat.le_of_ble_eq_true rfl⟩ (fun H locs hP hD hS => ?_)
  have hP : va_P (dC, dI) vwCl (sW cI a S) H := by simpa only [List.append_assoc, List.append_nil, List.nil_append] using hP
  have hD : va_D A (sW cI a S) := by simpa only [List.append_assoc, List.append_nil, List.nil_append] using hD
  exact zI_ret hx hb hr hlocks hP hD hS rfl rfl dX2_allDepths_8
set_option maxHeartbeats 4000000 in
set_option maxRecDepth 100000 in
theorem c_X2_letWaterFlow (l : Launch) (dC : Nat → ClassId) (dI : Nat → Nat → Nat) (cI : ClassId) (a : Nat → Nat) (h w : Nat) (S : sS) (hG0 : geo h w S) : zV l yX2_letWaterFlow wsX2_letWaterFlow { frames := 3, cells := 0, slots := 0, locals := 70 } (dC, dI) cI [.ref (a 0)] (sW cI a S) (sW cI a (sl_flowAll h w S)) := by
  refine zV_of (cc := cX2_letWaterFlow) (maxL := 3) (ret := none) (by decide) rfl (Nat.le_of_ble_eq_true rfl) ?_
  intro p e s m below meth c A ls C0 hl
  obtain ⟨hx, hb, hr, hml, hown, hts, hlocks, hK, hN, hA, hP, hD, hS⟩ := C0
  have hown : s.vm.findClass RX2 = some m.cls := hown
  have hl : lv_has ls 3 [(0, .ref (a 0))] := hl
  have hf55 := hts (.fieldLink RX2 55 "PaddyTerraces$Slope" "h" "I") (by decide +kernel)
  have hf59 := hts (.fieldLink RX2 59 "PaddyTerraces$Slope" "w" "I") (by decide +kernel)
  have hinX2 : ∀ w ∈ wsX20, w ∈ wsX2_letWaterFlow := by decide +kernel
  have hS0 := hS
  have hN64 := geo_hw hG0
  have hW9 := geo_w hG0
  obtain ⟨-, -, hh2, hh8, hw2, hw8⟩ := id hG0
  refine lv_iconst (v := 0) hx hb dX2_letWaterFlow_0 (by decide) ?_
  refine lv_istore_n (lv' := [(1, .int 0), (0, .ref (a 0))]) hx hb dX2_letWaterFlow_1 rfl hl (by decide) rfl (fun ls hl => ?_)
  have lp2 : ∀ (n2 i2 : Nat) (T2_0 : sS) (H : Heap) (locs : List Loc) (ls : Array Slot), i2 + n2 = h → T2_0 = itr (fun t T => itr (fun f U => sl_flow U t f) w T) i2 S → geo h w T2_0 → va_P (dC, dI) vwCl (sW cI a T2_0) H → va_D A (sW cI a T2_0) → va_S A s.heap H locs → lv_has ls 3 [(0, .ref (a 0)), (1, .int (nI i2))] → W p l e ({ frames := 3, cells := 0, slots := 0, locals := 70 } : Room) s m [.ref (a 0)].toArray below meth c H locs 0 0 (zVq (dC, dI) A (sW cI a (sl_flowAll h w S)) below [.ref (a 0)].toArray s 0 0) (F0 m 2 ls []) := by
    intro n2
    induction n2 with
    | zero =>
      intro i2 T2_0 H locs ls hi2 eT2_0 hGT2_0 hP hD hS hl
      have hi2 : i2 = h := by omega
      rw [hi2] at eT2_0
      refine lv_iload_n hx hb dX2_letWaterFlow_2 rfl (lv_at hl 1 rfl) ?_
      refine lv_aload_n hx hb dX2_letWaterFlow_3 rfl (lv_at hl 0 rfl) ?_
      refine va_get (D := (dC, dI)) (ci := 2) (v := .int (T2_0 0 0)) (C := RX2) (T := TX2) (N := 18) hx hb hts hinX2 hown hK hP 0 rfl rfl 0 (by decide) hf55 (fun _ h9 => h9) rfl dX2_letWaterFlow_4 ?_
      refine lv_icmp_ge (tgt := 38) hx hb dX2_letWaterFlow_7 (by decide) (fun c_1 => ?_) (fun c_1 => ?_)
      · have hZ : T2_0 = sl_flowAll h w S := (by (try rw [eT2_0]); first | done | rfl | (simp only [sl_flowAll, if_pos c_1]; done) | (unfold sl_flowAll; simp only [if_pos c_1]; done))
        rw [hZ] at hP hD
        exact zV_ret hx hb hr hlocks hP hD hS dX2_letWaterFlow_38
      · exact absurd (by rw [show _ = nI (h) from hGT2_0.1]; exact nI_le (by omega) (by omega)) c_1
    | succ n2 ih2 =>
      intro i2 T2_0 H locs ls hi2 eT2_0 hGT2_0 hP hD hS hl
      refine lv_iload_n hx hb dX2_letWaterFlow_2 rfl (lv_at hl 1 rfl) ?_
      refine lv_aload_n hx hb dX2_letWaterFlow_3 rfl (lv_at hl 0 rfl) ?_
      refine va_get (D := (dC, dI)) (ci := 2) (v := .int (T2_0 0 0)) (C := RX2) (T := TX2) (N := 18) hx hb hts hinX2 hown hK hP 0 rfl rfl 0 (by decide) hf55 (fun _ h9 => h9) rfl dX2_letWaterFlow_4 ?_
      refine lv_icmp_ge (tgt := 38) hx hb dX2_letWaterFlow_7 (by decide) (fun c_2 => ?_) (fun c_2 => ?_)
      · exact absurd c_2 (by rw [show _ = nI (h) from hGT2_0.1]; exact nI_ge (by omega) (by omega))
      · refine lv_iconst (v := 0) hx hb dX2_letWaterFlow_10 (by decide) ?_
        refine lv_istore_n (lv' := [(2, .int 0), (0, .ref (a 0)), (1, .int (nI i2))]) hx hb dX2_letWaterFlow_11 rfl hl (by decide) rfl (fun ls hl => ?_)
        have lp12 : ∀ (n12 i12 : Nat) (T12_0 : sS) (H : Heap) (locs : List Loc) (ls : Array Slot), i12 + n12 = w → T12_0 = itr (fun f U => sl_flow U (nI i2) f) i12 T2_0 → geo h w T12_0 → va_P (dC, dI) vwCl (sW cI a T12_0) H → va_D A (sW cI a T12_0) → va_S A s.heap H locs → lv_has ls 3 [(0, .ref (a 0)), (1, .int (nI i2)), (2, .int (nI i12))] → W p l e ({ frames := 3, cells := 0, slots := 0, locals := 70 } : Room) s m [.ref (a 0)].toArray below meth c H locs 0 0 (zVq (dC, dI) A (sW cI a (sl_flowAll h w S)) below [.ref (a 0)].toArray s 0 0) (F0 m 12 ls []) := by
          intro n12
          induction n12 with
          | zero =>
            intro i12 T12_0 H locs ls hi12 eT12_0 hGT12_0 hP hD hS hl
            have hi12 : i12 = w := by omega
            rw [hi12] at eT12_0
            refine lv_iload_n hx hb dX2_letWaterFlow_12 rfl (lv_at hl 2 rfl) ?_
            refine lv_aload_n hx hb dX2_letWaterFlow_13 rfl (lv_at hl 0 rfl) ?_
            refine va_get (D := (dC, dI)) (ci := 2) (v := .int (T12_0 0 1)) (C := RX2) (T := TX2) (N := 18) hx hb hts hinX2 hown hK hP 0 rfl rfl 1 (by decide) hf59 (fun _ h9 => h9) rfl dX2_letWaterFlow_14 ?_
            refine lv_icmp_ge (tgt := 32) hx hb dX2_letWaterFlow_17 (by decide) (fun c_3 => ?_) (fun c_3 => ?_)
            · refine lv_iinc (v := nI (i2 + 1)) (lv' := [(1, .int (nI (i2 + 1))), (0, .ref (a 0)), (2, .int (nI i12))]) hx hb dX2_letWaterFlow_32 hl (k := 1) rfl (show nI i2 + Int32.ofInt 1 = nI (i2 + 1) from nI_1 i2) (by decide) rfl (fun ls hl => ?_)
              refine lv_goto (tgt := 2) hx hb dX2_letWaterFlow_35 (by decide) ?_
              exact ih2 (i2 + 1) T12_0 _ _ ls (by omega) (by (try rw [eT12_0]); (try rw [eT2_0]); rfl) (hGT12_0) hP hD hS (lv_sub hl [1, 0] rfl)
            · exact absurd (by rw [show _ = nI (w) from hGT12_0.2.1]; exact nI_le (by omega) (by omega)) c_3
          | succ n12 ih12 =>
            intro i12 T12_0 H locs ls hi12 eT12_0 hGT12_0 hP hD hS hl
            refine lv_iload_n hx hb dX2_letWaterFlow_12 rfl (lv_at hl 2 rfl) ?_
            refine lv_aload_n hx hb dX2_letWaterFlow_13 rfl (lv_at hl 0 rfl) ?_
            refine va_get (D := (dC, dI)) (ci := 2) (v := .int (T12_0 0 1)) (C := RX2) (T := TX2) (N := 18) hx hb hts hinX2 hown hK hP 0 rfl rfl 1 (by decide) hf59 (fun _ h9 => h9) rfl dX2_letWaterFlow_14 ?_
            refine lv_icmp_ge (tgt := 32) hx hb dX2_letWaterFlow_17 (by decide) (fun c_4 => ?_) (fun c_4 => ?_)
            · exact absurd c_4 (by rw [show _ = nI (w) from hGT12_0.2.1]; exact nI_ge (by omega) (by omega))
            · refine lv_aload_n hx hb dX2_letWaterFlow_20 rfl (lv_at hl 0 rfl) ?_
              refine lv_iload_n hx hb dX2_letWaterFlow_21 rfl (lv_at hl 1 rfl) ?_
              refine lv_iload_n hx hb dX2_letWaterFlow_22 rfl (lv_at hl 2 rfl) ?_
              obtain ⟨S5, eS5⟩ : ∃ z : sS, z = sl_flow T12_0 (nI i2) (nI i12) := ⟨_, rfl⟩
              refine zV_V (pre := ([] : va_W)) (wc := sW cI a T12_0) (post := ([] : va_W)) (w1 := sW cI a S5) ⟨hx, hb, hml, hown, hts⟩ (by rw [eS5]; exact c_X2_letFieldFlow l dC dI cI a h w T12_0 (nI i2) (nI i12) hGT12_0 (geo_has hGT12_0 (by omega) (by omega))) (cwV 2 hts gX2_letWaterFlow_X2_letFieldFlow rfl rfl rfl (by decide +kernel) ⟨Nat.le_of_ble_eq_true rfl, Nat.le_of_ble_eq_true rfl⟩) (by simp only [List.append_assoc, List.append_nil, List.nil_append]) hK hN (ci := 2) (q0 := 0) rfl rfl rfl hP hD hS hA rfl hl.1 rfl (Nat.le_of_ble_eq_true rfl) dX2_letWaterFlow_23 ⟨Nat.le_of_ble_eq_true rfl, Nat.le_of_ble_eq_true rfl⟩ (fun H locs hP hD hS => ?_)
              have hP : va_P (dC, dI) vwCl (sW cI a S5) H := by simpa only [List.append_assoc, List.append_nil, List.nil_append] using hP
              have hD : va_D A (sW cI a S5) := by simpa only [List.append_assoc, List.append_nil, List.nil_append] using hD
              have hGS5 : geo h w S5 := by rw [eS5]; exact geo_sam hGT12_0 (sam_flow T12_0 (nI i2) (nI i12))
              refine lv_iinc (v := nI (i12 + 1)) (lv' := [(2, .int (nI (i12 + 1))), (0, .ref (a 0)), (1, .int (nI i2))]) hx hb dX2_letWaterFlow_26 hl (k := 2) rfl (show nI i12 + Int32.ofInt 1 = nI (i12 + 1) from nI_1 i12) (by decide) rfl (fun ls hl => ?_)
              refine lv_goto (tgt := 12) hx hb dX2_letWaterFlow_29 (by decide) ?_
              exact ih12 (i12 + 1) S5 _ _ ls (by omega) (by (try rw [eS5]); (try rw [eT12_0]); rfl) (hGS5) hP hD hS (lv_sub hl [1, 2, 0] rfl)
        exact lp12 (w) 0 T2_0 _ _ ls (by omega) rfl (hGT2_0) hP hD hS (lv_sub hl [1, 2, 0] rfl)
  exact lp2 (h) 0 S _ _ ls (by omega) rfl (hG0) hP hD hS (lv_sub hl [1, 0] rfl)
set_option maxHeartbeats 4000000 in
set_option maxRecDepth 100000 in
theorem c_X2_takeRain (l : Launch) (dC : Nat → ClassId) (dI : Nat → Nat → Nat) (cI : ClassId) (a : Nat → Nat) (h w : Nat) (S : sS) (x : Int32) (hG0 : geo h w S) : zV l yX2_takeRain wsX2_takeRain { frames := 1, cells := 0, slots := 0, locals := 20 } (dC, dI) cI [.ref (a 0), .int x] (sW cI a S) (sW cI a (sl_rain h w S x)) := by
  refine zV_of (cc := cX2_takeRain) (maxL := 3) (ret := none) (by decide) rfl (Nat.le_of_ble_eq_true rfl) ?_
  intro p e s m below meth c A ls C0 hl
  obtain ⟨hx, hb, hr, hml, hown, hts, hlocks, hK, hN, hA, hP, hD, hS⟩ := C0
  have hown : s.vm.findClass RX2 = some m.cls := hown
  have hl : lv_has ls 3 [(0, .ref (a 0)), (1, .int x)] := hl
  have hf15 := hts (.fieldLink RX2 15 "PaddyTerraces$Slope" "depth" "[I") (by decide +kernel)
  have hinX2 : ∀ w ∈ wsX20, w ∈ wsX2_takeRain := by decide +kernel
  have hS0 := hS
  have hN64 := geo_hw hG0
  have hW9 := geo_w hG0
  obtain ⟨-, -, hh2, hh8, hw2, hw8⟩ := id hG0
  refine lv_iconst (v := 0) hx hb dX2_takeRain_0 (by decide) ?_
  refine lv_istore_n (lv' := [(2, .int 0), (0, .ref (a 0)), (1, .int x)]) hx hb dX2_takeRain_1 rfl hl (by decide) rfl (fun ls hl => ?_)
  have lp2 : ∀ (n2 i2 : Nat) (T2_0 : sS) (H : Heap) (locs : List Loc) (ls : Array Slot), i2 + n2 = h * w → T2_0 = itr (fun i T => sl_rain1 T i x) i2 S → geo h w T2_0 → va_P (dC, dI) vwCl (sW cI a T2_0) H → va_D A (sW cI a T2_0) → va_S A s.heap H locs → lv_has ls 3 [(0, .ref (a 0)), (1, .int x), (2, .int (nI i2))] → W p l e ({ frames := 1, cells := 0, slots := 0, locals := 20 } : Room) s m [.ref (a 0), .int x].toArray below meth c H locs 0 0 (zVq (dC, dI) A (sW cI a (sl_rain h w S x)) below [.ref (a 0), .int x].toArray s 0 0) (F0 m 2 ls []) := by
    intro n2
    induction n2 with
    | zero =>
      intro i2 T2_0 H locs ls hi2 eT2_0 hGT2_0 hP hD hS hl
      have hi2 : i2 = h * w := by omega
      rw [hi2] at eT2_0
      refine lv_iload_n hx hb dX2_takeRain_2 rfl (lv_at hl 2 rfl) ?_
      refine lv_aload_n hx hb dX2_takeRain_3 rfl (lv_at hl 0 rfl) ?_
      refine zI_V (pre := ([] : va_W)) (wc := sW cI a T2_0) (post := ([] : va_W)) (w1 := sW cI a T2_0) ⟨hx, hb, hml, hown, hts⟩ (c_X2_cells l dC dI cI a T2_0) (cwV 0 hts gX2_takeRain_X2_cells rfl rfl rfl (by decide +kernel) ⟨Nat.le_of_ble_eq_true rfl, Nat.le_of_ble_eq_true rfl⟩) (by simp only [List.append_assoc, List.append_nil, List.nil_append]) hK hN (ci := 2) (q0 := 0) rfl rfl rfl hP hD hS hA rfl hl.1 rfl (Nat.le_of_ble_eq_true rfl) dX2_takeRain_4 ⟨Nat.le_of_ble_eq_true rfl, Nat.le_of_ble_eq_true rfl⟩ (fun H locs hP hD hS => ?_)
      have hP : va_P (dC, dI) vwCl (sW cI a T2_0) H := by simpa only [List.append_assoc, List.append_nil, List.nil_append] using hP
      have hD : va_D A (sW cI a T2_0) := by simpa only [List.append_assoc, List.append_nil, List.nil_append] using hD
      refine lv_icmp_ge (tgt := 26) hx hb dX2_takeRain_7 (by decide) (fun c_1 => ?_) (fun c_1 => ?_)
      · have hZ : T2_0 = sl_rain h w S x := (by (try rw [eT2_0]); first | done | rfl | (simp only [sl_rain, if_pos c_1]; done) | (unfold sl_rain; simp only [if_pos c_1]; done))
        rw [hZ] at hP hD
        exact zV_ret hx hb hr hlocks hP hD hS dX2_takeRain_26
      · exact absurd (by rw [show _ = nI (h * w) from (geo_cells hGT2_0)]; exact nI_le (by omega) (by omega)) c_1
    | succ n2 ih2 =>
      intro i2 T2_0 H locs ls hi2 eT2_0 hGT2_0 hP hD hS hl
      refine lv_iload_n hx hb dX2_takeRain_2 rfl (lv_at hl 2 rfl) ?_
      refine lv_aload_n hx hb dX2_takeRain_3 rfl (lv_at hl 0 rfl) ?_
      refine zI_V (pre := ([] : va_W)) (wc := sW cI a T2_0) (post := ([] : va_W)) (w1 := sW cI a T2_0) ⟨hx, hb, hml, hown, hts⟩ (c_X2_cells l dC dI cI a T2_0) (cwV 0 hts gX2_takeRain_X2_cells rfl rfl rfl (by decide +kernel) ⟨Nat.le_of_ble_eq_true rfl, Nat.le_of_ble_eq_true rfl⟩) (by simp only [List.append_assoc, List.append_nil, List.nil_append]) hK hN (ci := 2) (q0 := 0) rfl rfl rfl hP hD hS hA rfl hl.1 rfl (Nat.le_of_ble_eq_true rfl) dX2_takeRain_4 ⟨Nat.le_of_ble_eq_true rfl, Nat.le_of_ble_eq_true rfl⟩ (fun H locs hP hD hS => ?_)
      have hP : va_P (dC, dI) vwCl (sW cI a T2_0) H := by simpa only [List.append_assoc, List.append_nil, List.nil_append] using hP
      have hD : va_D A (sW cI a T2_0) := by simpa only [List.append_assoc, List.append_nil, List.nil_append] using hD
      refine lv_icmp_ge (tgt := 26) hx hb dX2_takeRain_7 (by decide) (fun c_2 => ?_) (fun c_2 => ?_)
      · exact absurd c_2 (by rw [show _ = nI (h * w) from (geo_cells hGT2_0)]; exact nI_ge (by omega) (by omega))
      · refine lv_aload_n hx hb dX2_takeRain_10 rfl (lv_at hl 0 rfl) ?_
        refine va_get (D := (dC, dI)) (ci := 2) (v := .ref (a 2)) (C := RX2) (T := TX2) (N := 18) hx hb hts hinX2 hown hK hP 0 rfl rfl 6 (by decide) hf15 (fun _ h9 => h9) rfl dX2_takeRain_11 ?_
        refine lv_iload_n hx hb dX2_takeRain_14 rfl (lv_at hl 2 rfl) ?_
        refine lv_dup2_11 hx hb dX2_takeRain_15 rfl rfl ?_
        refine va_iald (cA := cI) (n := 64) (f := T2_0 2) hx hb hK hP 2 0 rfl rfl (vp_in_nI (by omega) (by decide)) dX2_takeRain_16 ?_
        refine lv_iload_n hx hb dX2_takeRain_17 rfl (lv_at hl 1 rfl) ?_
        refine lv_iadd hx hb dX2_takeRain_18 ?_
        obtain ⟨S3, eS3⟩ : ∃ z : sS, z = s_put T2_0 2 ((nI i2).toNatClampNeg) ((T2_0 2 (nI i2).toNatClampNeg) + x) := ⟨_, rfl⟩
        refine va_iast (cA := cI) (n := 64) (f := T2_0 2) hx hb hK hP hD hS 2 0 rfl rfl (vp_in_nI (by omega) (by decide)) dX2_takeRain_19 (fun H locs hP hD hS => ?_)
        have hP : va_P (dC, dI) vwCl (sW cI a S3) H := by rw [eS3]; exact hP
        have hD : va_D A (sW cI a S3) := by rw [eS3]; exact hD
        have hGS3 : geo h w S3 := by rw [eS3]; exact geo_put hGT2_0 (Or.inl (by decide)) _
        refine lv_iinc (v := nI (i2 + 1)) (lv' := [(2, .int (nI (i2 + 1))), (0, .ref (a 0)), (1, .int x)]) hx hb dX2_takeRain_20 hl (k := 2) rfl (show nI i2 + Int32.ofInt 1 = nI (i2 + 1) from nI_1 i2) (by decide) rfl (fun ls hl => ?_)
        refine lv_goto (tgt := 2) hx hb dX2_takeRain_23 (by decide) ?_
        exact ih2 (i2 + 1) S3 _ _ ls (by omega) (by (try rw [eS3]); (try rw [eT2_0]); rfl) (hGS3) hP hD hS (lv_sub hl [1, 2, 0] rfl)
  exact lp2 (h * w) 0 S _ _ ls (by omega) rfl (hG0) hP hD hS (lv_sub hl [1, 2, 0] rfl)
set_option maxHeartbeats 4000000 in
set_option maxRecDepth 100000 in
theorem c_X2_takeSpring (l : Launch) (dC : Nat → ClassId) (dI : Nat → Nat → Nat) (cI : ClassId) (a : Nat → Nat) (h w : Nat) (S : sS) (x : Int32) (hG0 : geo h w S) : zV l yX2_takeSpring wsX2_takeSpring { frames := 0, cells := 0, slots := 0, locals := 0 } (dC, dI) cI [.ref (a 0), .int x] (sW cI a S) (sW cI a (sl_spring w S x)) := by
  refine zV_of (cc := cX2_takeSpring) (maxL := 4) (ret := none) (by decide) rfl (Nat.le_of_ble_eq_true rfl) ?_
  intro p e s m below meth c A ls C0 hl
  obtain ⟨hx, hb, hr, hml, hown, hts, hlocks, hK, hN, hA, hP, hD, hS⟩ := C0
  have hown : s.vm.findClass RX2 = some m.cls := hown
  have hl : lv_has ls 4 [(0, .ref (a 0)), (1, .int x)] := hl
  have hf9 := hts (.fieldLink RX2 9 "PaddyTerraces$Slope" "share" "[I") (by decide +kernel)
  have hf15 := hts (.fieldLink RX2 15 "PaddyTerraces$Slope" "depth" "[I") (by decide +kernel)
  have hf59 := hts (.fieldLink RX2 59 "PaddyTerraces$Slope" "w" "I") (by decide +kernel)
  have hinX2 : ∀ w ∈ wsX20, w ∈ wsX2_takeSpring := by decide +kernel
  have hS0 := hS
  have hN64 := geo_hw hG0
  have hW9 := geo_w hG0
  obtain ⟨-, -, hh2, hh8, hw2, hw8⟩ := id hG0
  refine lv_iconst (v := 0) hx hb dX2_takeSpring_0 (by decide) ?_
  refine lv_istore_n (lv' := [(2, .int 0), (0, .ref (a 0)), (1, .int x)]) hx hb dX2_takeSpring_1 rfl hl (by decide) rfl (fun ls hl => ?_)
  refine lv_iconst (v := 0) hx hb dX2_takeSpring_2 (by decide) ?_
  refine lv_istore_n (lv' := [(3, .int 0), (2, .int 0), (0, .ref (a 0)), (1, .int x)]) hx hb dX2_takeSpring_3 rfl hl (by decide) rfl (fun ls hl => ?_)
  have lp4 : ∀ (n4 i4 : Nat) (u4_2 : Int32) (H : Heap) (locs : List Loc) (ls : Array Slot), i4 + n4 = w → u4_2 = itr (fun i x => x + S 1 i.toNatClampNeg) i4 0 → va_P (dC, dI) vwCl (sW cI a S) H → va_D A (sW cI a S) → va_S A s.heap H locs → lv_has ls 4 [(0, .ref (a 0)), (1, .int x), (2, .int u4_2), (3, .int (nI i4))] → W p l e ({ frames := 0, cells := 0, slots := 0, locals := 0 } : Room) s m [.ref (a 0), .int x].toArray below meth c H locs 0 0 (zVq (dC, dI) A (sW cI a (sl_spring w S x)) below [.ref (a 0), .int x].toArray s 0 0) (F0 m 4 ls []) := by
    intro n4
    induction n4 with
    | zero =>
      intro i4 u4_2 H locs ls hi4 eu4_2 hP hD hS hl
      have hi4 : i4 = w := by omega
      rw [hi4] at eu4_2
      refine lv_iload_n hx hb dX2_takeSpring_4 rfl (lv_at hl 3 rfl) ?_
      refine lv_aload_n hx hb dX2_takeSpring_5 rfl (lv_at hl 0 rfl) ?_
      refine va_get (D := (dC, dI)) (ci := 2) (v := .int (S 0 1)) (C := RX2) (T := TX2) (N := 18) hx hb hts hinX2 hown hK hP 0 rfl rfl 1 (by decide) hf59 (fun _ h9 => h9) rfl dX2_takeSpring_6 ?_
      refine lv_icmp_ge (tgt := 27) hx hb dX2_takeSpring_9 (by decide) (fun c_1 => ?_) (fun c_1 => ?_)
      · refine lv_iload_n hx hb dX2_takeSpring_27 rfl (lv_at hl 2 rfl) ?_
        refine lv_if_ne (tgt := 32) hx hb dX2_takeSpring_28 (by decide) (fun c_2 => ?_) (fun c_2 => ?_)
        · refine lv_iconst (v := 0) hx hb dX2_takeSpring_32 (by decide) ?_
          refine lv_istore_n (lv' := [(3, .int 0), (0, .ref (a 0)), (1, .int x), (2, .int u4_2)]) hx hb dX2_takeSpring_33 rfl hl (by decide) rfl (fun ls hl => ?_)
          have lp34 : ∀ (n34 i34 : Nat) (T34_0 : sS) (H : Heap) (locs : List Loc) (ls : Array Slot), i34 + n34 = w → T34_0 = itr (fun i T => sl_spring1 T i x u4_2) i34 S → geo h w T34_0 → va_P (dC, dI) vwCl (sW cI a T34_0) H → va_D A (sW cI a T34_0) → va_S A s.heap H locs → lv_has ls 4 [(0, .ref (a 0)), (1, .int x), (2, .int u4_2), (3, .int (nI i34))] → W p l e ({ frames := 0, cells := 0, slots := 0, locals := 0 } : Room) s m [.ref (a 0), .int x].toArray below meth c H locs 0 0 (zVq (dC, dI) A (sW cI a (sl_spring w S x)) below [.ref (a 0), .int x].toArray s 0 0) (F0 m 34 ls []) := by
            intro n34
            induction n34 with
            | zero =>
              intro i34 T34_0 H locs ls hi34 eT34_0 hGT34_0 hP hD hS hl
              have hi34 : i34 = w := by omega
              rw [hi34] at eT34_0
              refine lv_iload_n hx hb dX2_takeSpring_34 rfl (lv_at hl 3 rfl) ?_
              refine lv_aload_n hx hb dX2_takeSpring_35 rfl (lv_at hl 0 rfl) ?_
              refine va_get (D := (dC, dI)) (ci := 2) (v := .int (T34_0 0 1)) (C := RX2) (T := TX2) (N := 18) hx hb hts hinX2 hown hK hP 0 rfl rfl 1 (by decide) hf59 (fun _ h9 => h9) rfl dX2_takeSpring_36 ?_
              refine lv_icmp_ge (tgt := 67) hx hb dX2_takeSpring_39 (by decide) (fun c_3 => ?_) (fun c_3 => ?_)
              · have hZ : T34_0 = sl_spring w S x := (by unfold sl_spring; rw [show sl_shares w S = u4_2 from eu4_2.symm]; simp only [if_pos c_1, if_neg c_2, if_pos c_3]; first | done | exact eT34_0)
                rw [hZ] at hP hD
                exact zV_ret hx hb hr hlocks hP hD hS dX2_takeSpring_67
              · exact absurd (by rw [show _ = nI (w) from hGT34_0.2.1]; exact nI_le (by omega) (by omega)) c_3
            | succ n34 ih34 =>
              intro i34 T34_0 H locs ls hi34 eT34_0 hGT34_0 hP hD hS hl
              refine lv_iload_n hx hb dX2_takeSpring_34 rfl (lv_at hl 3 rfl) ?_
              refine lv_aload_n hx hb dX2_takeSpring_35 rfl (lv_at hl 0 rfl) ?_
              refine va_get (D := (dC, dI)) (ci := 2) (v := .int (T34_0 0 1)) (C := RX2) (T := TX2) (N := 18) hx hb hts hinX2 hown hK hP 0 rfl rfl 1 (by decide) hf59 (fun _ h9 => h9) rfl dX2_takeSpring_36 ?_
              refine lv_icmp_ge (tgt := 67) hx hb dX2_takeSpring_39 (by decide) (fun c_4 => ?_) (fun c_4 => ?_)
              · exact absurd c_4 (by rw [show _ = nI (w) from hGT34_0.2.1]; exact nI_ge (by omega) (by omega))
              · refine lv_aload_n hx hb dX2_takeSpring_42 rfl (lv_at hl 0 rfl) ?_
                refine va_get (D := (dC, dI)) (ci := 2) (v := .ref (a 2)) (C := RX2) (T := TX2) (N := 18) hx hb hts hinX2 hown hK hP 0 rfl rfl 6 (by decide) hf15 (fun _ h9 => h9) rfl dX2_takeSpring_43 ?_
                refine lv_iload_n hx hb dX2_takeSpring_46 rfl (lv_at hl 3 rfl) ?_
                refine lv_dup2_11 hx hb dX2_takeSpring_47 rfl rfl ?_
                refine va_iald (cA := cI) (n := 64) (f := T34_0 2) hx hb hK hP 2 0 rfl rfl (vp_in_nI (by omega) (by decide)) dX2_takeSpring_48 ?_
                refine lv_iload_n hx hb dX2_takeSpring_49 rfl (lv_at hl 1 rfl) ?_
                refine lv_aload_n hx hb dX2_takeSpring_50 rfl (lv_at hl 0 rfl) ?_
                refine va_get (D := (dC, dI)) (ci := 2) (v := .ref (a 1)) (C := RX2) (T := TX2) (N := 18) hx hb hts hinX2 hown hK hP 0 rfl rfl 5 (by decide) hf9 (fun _ h9 => h9) rfl dX2_takeSpring_51 ?_
                refine lv_iload_n hx hb dX2_takeSpring_54 rfl (lv_at hl 3 rfl) ?_
                refine va_iald (cA := cI) (n := 8) (f := T34_0 1) hx hb hK hP 1 0 rfl rfl (vp_in_nI (by omega) (by decide)) dX2_takeSpring_55 ?_
                refine lv_imul hx hb dX2_takeSpring_56 ?_
                refine lv_iload_n hx hb dX2_takeSpring_57 rfl (lv_at hl 2 rfl) ?_
                refine lv_idiv hx hb dX2_takeSpring_58 c_2 ?_
                refine lv_iadd hx hb dX2_takeSpring_59 ?_
                obtain ⟨S5, eS5⟩ : ∃ z : sS, z = s_put T34_0 2 ((nI i34).toNatClampNeg) ((T34_0 2 (nI i34).toNatClampNeg) + ((x * (T34_0 1 (nI i34).toNatClampNeg)) / u4_2)) := ⟨_, rfl⟩
                refine va_iast (cA := cI) (n := 64) (f := T34_0 2) hx hb hK hP hD hS 2 0 rfl rfl (vp_in_nI (by omega) (by decide)) dX2_takeSpring_60 (fun H locs hP hD hS => ?_)
                have hP : va_P (dC, dI) vwCl (sW cI a S5) H := by rw [eS5]; exact hP
                have hD : va_D A (sW cI a S5) := by rw [eS5]; exact hD
                have hGS5 : geo h w S5 := by rw [eS5]; exact geo_put hGT34_0 (Or.inl (by decide)) _
                refine lv_iinc (v := nI (i34 + 1)) (lv' := [(3, .int (nI (i34 + 1))), (0, .ref (a 0)), (1, .int x), (2, .int u4_2)]) hx hb dX2_takeSpring_61 hl (k := 3) rfl (show nI i34 + Int32.ofInt 1 = nI (i34 + 1) from nI_1 i34) (by decide) rfl (fun ls hl => ?_)
                refine lv_goto (tgt := 34) hx hb dX2_takeSpring_64 (by decide) ?_
                exact ih34 (i34 + 1) S5 _ _ ls (by omega) (by (try rw [eS5]); (try rw [eT34_0]); rfl) (hGS5) hP hD hS (lv_sub hl [1, 2, 3, 0] rfl)
          exact lp34 (w) 0 S _ _ ls (by omega) rfl (hG0) hP hD hS (lv_sub hl [1, 2, 3, 0] rfl)
        · have hZ : S = sl_spring w S x := (by unfold sl_spring; rw [show sl_shares w S = u4_2 from eu4_2.symm]; simp only [if_pos c_1, if_pos c_2]; first | done | exact eT34_0)
          rw [hZ] at hP hD
          exact zV_ret hx hb hr hlocks hP hD hS dX2_takeSpring_31
      · exact absurd (by rw [show _ = nI (w) from hG0.2.1]; exact nI_le (by omega) (by omega)) c_1
    | succ n4 ih4 =>
      intro i4 u4_2 H locs ls hi4 eu4_2 hP hD hS hl
      refine lv_iload_n hx hb dX2_takeSpring_4 rfl (lv_at hl 3 rfl) ?_
      refine lv_aload_n hx hb dX2_takeSpring_5 rfl (lv_at hl 0 rfl) ?_
      refine va_get (D := (dC, dI)) (ci := 2) (v := .int (S 0 1)) (C := RX2) (T := TX2) (N := 18) hx hb hts hinX2 hown hK hP 0 rfl rfl 1 (by decide) hf59 (fun _ h9 => h9) rfl dX2_takeSpring_6 ?_
      refine lv_icmp_ge (tgt := 27) hx hb dX2_takeSpring_9 (by decide) (fun c_6 => ?_) (fun c_6 => ?_)
      · exact absurd c_6 (by rw [show _ = nI (w) from hG0.2.1]; exact nI_ge (by omega) (by omega))
      · refine lv_iload_n hx hb dX2_takeSpring_12 rfl (lv_at hl 2 rfl) ?_
        refine lv_aload_n hx hb dX2_takeSpring_13 rfl (lv_at hl 0 rfl) ?_
        refine va_get (D := (dC, dI)) (ci := 2) (v := .ref (a 1)) (C := RX2) (T := TX2) (N := 18) hx hb hts hinX2 hown hK hP 0 rfl rfl 5 (by decide) hf9 (fun _ h9 => h9) rfl dX2_takeSpring_14 ?_
        refine lv_iload_n hx hb dX2_takeSpring_17 rfl (lv_at hl 3 rfl) ?_
        refine va_iald (cA := cI) (n := 8) (f := S 1) hx hb hK hP 1 0 rfl rfl (vp_in_nI (by omega) (by decide)) dX2_takeSpring_18 ?_
        refine lv_iadd hx hb dX2_takeSpring_19 ?_
        refine lv_istore_n (lv' := [(2, .int (u4_2 + (S 1 (nI i4).toNatClampNeg))), (0, .ref (a 0)), (1, .int x), (3, .int (nI i4))]) hx hb dX2_takeSpring_20 rfl hl (by decide) rfl (fun ls hl => ?_)
        refine lv_iinc (v := nI (i4 + 1)) (lv' := [(3, .int (nI (i4 + 1))), (2, .int (u4_2 + (S 1 (nI i4).toNatClampNeg))), (0, .ref (a 0)), (1, .int x)]) hx hb dX2_takeSpring_21 hl (k := 3) rfl (show nI i4 + Int32.ofInt 1 = nI (i4 + 1) from nI_1 i4) (by decide) rfl (fun ls hl => ?_)
        refine lv_goto (tgt := 4) hx hb dX2_takeSpring_24 (by decide) ?_
        exact ih4 (i4 + 1) (u4_2 + (S 1 (nI i4).toNatClampNeg)) _ _ ls (by omega) (by (try rw [eu4_2]); rfl) hP hD hS (lv_sub hl [2, 3, 1, 0] rfl)
  exact lp4 (w) 0 0 _ _ ls (by omega) rfl hP hD hS (lv_sub hl [2, 3, 1, 0] rfl)
set_option maxHeartbeats 4000000 in
set_option maxRecDepth 100000 in
theorem c_X2_loseWater (l : Launch) (dC : Nat → ClassId) (dI : Nat → Nat → Nat) (cI : ClassId) (a : Nat → Nat) (h w : Nat) (S : sS) (x : Int32) (hG0 : geo h w S) : zV l yX2_loseWater wsX2_loseWater { frames := 1, cells := 0, slots := 0, locals := 20 } (dC, dI) cI [.ref (a 0), .int x] (sW cI a S) (sW cI a (sl_lose h w S x)) := by
  refine zV_of (cc := cX2_loseWater) (maxL := 4) (ret := none) (by decide) rfl (Nat.le_of_ble_eq_true rfl) ?_
  intro p e s m below meth c A ls C0 hl
  obtain ⟨hx, hb, hr, hml, hown, hts, hlocks, hK, hN, hA, hP, hD, hS⟩ := C0
  have hown : s.vm.findClass RX2 = some m.cls := hown
  have hl : lv_has ls 4 [(0, .ref (a 0)), (1, .int x)] := hl
  have hf15 := hts (.fieldLink RX2 15 "PaddyTerraces$Slope" "depth" "[I") (by decide +kernel)
  have hf21 := hts (.fieldLink RX2 21 "PaddyTerraces$Slope" "seepage" "[I") (by decide +kernel)
  have hf65 := hts (.fieldLink RX2 65 "PaddyTerraces$Slope" "brook" "I") (by decide +kernel)
  have hc_max := hts (.code Lib.Math.max.name Lib.Math.max.code 2 (some .int)) (by decide +kernel)
  have hc_min := hts (.code Lib.Math.min.name Lib.Math.min.code 2 (some .int)) (by decide +kernel)
  have hi_Math := hts (.initialized "java/lang/Math") (by decide +kernel)
  have hm132 := hts (.methodLink RX2 132 Lib.Math.max.name) (by decide +kernel)
  have hm137 := hts (.methodLink RX2 137 Lib.Math.min.name) (by decide +kernel)
  have hs_max := hts (.static Lib.Math.max.name) (by decide +kernel)
  have hs_min := hts (.static Lib.Math.min.name) (by decide +kernel)
  have hinX2 : ∀ w ∈ wsX20, w ∈ wsX2_loseWater := by decide +kernel
  have hS0 := hS
  have hN64 := geo_hw hG0
  have hW9 := geo_w hG0
  obtain ⟨-, -, hh2, hh8, hw2, hw8⟩ := id hG0
  refine lv_iconst (v := 0) hx hb dX2_loseWater_0 (by decide) ?_
  refine lv_istore_n (lv' := [(2, .int 0), (0, .ref (a 0)), (1, .int x)]) hx hb dX2_loseWater_1 rfl hl (by decide) rfl (fun ls hl => ?_)
  have lp2 : ∀ (n2 i2 : Nat) (T2_0 : sS) (H : Heap) (locs : List Loc) (ls : Array Slot), i2 + n2 = h * w → T2_0 = itr (fun i T => sl_lose1 T i x) i2 S → geo h w T2_0 → va_P (dC, dI) vwCl (sW cI a T2_0) H → va_D A (sW cI a T2_0) → va_S A s.heap H locs → lv_has ls 4 [(0, .ref (a 0)), (1, .int x), (2, .int (nI i2))] → W p l e ({ frames := 1, cells := 0, slots := 0, locals := 20 } : Room) s m [.ref (a 0), .int x].toArray below meth c H locs 0 0 (zVq (dC, dI) A (sW cI a (sl_lose h w S x)) below [.ref (a 0), .int x].toArray s 0 0) (F0 m 2 ls []) := by
    intro n2
    induction n2 with
    | zero =>
      intro i2 T2_0 H locs ls hi2 eT2_0 hGT2_0 hP hD hS hl
      have hi2 : i2 = h * w := by omega
      rw [hi2] at eT2_0
      refine lv_iload_n hx hb dX2_loseWater_2 rfl (lv_at hl 2 rfl) ?_
      refine lv_aload_n hx hb dX2_loseWater_3 rfl (lv_at hl 0 rfl) ?_
      refine zI_V (pre := ([] : va_W)) (wc := sW cI a T2_0) (post := ([] : va_W)) (w1 := sW cI a T2_0) ⟨hx, hb, hml, hown, hts⟩ (c_X2_cells l dC dI cI a T2_0) (cwV 0 hts gX2_loseWater_X2_cells rfl rfl rfl (by decide +kernel) ⟨Nat.le_of_ble_eq_true rfl, Nat.le_of_ble_eq_true rfl⟩) (by simp only [List.append_assoc, List.append_nil, List.nil_append]) hK hN (ci := 2) (q0 := 0) rfl rfl rfl hP hD hS hA rfl hl.1 rfl (Nat.le_of_ble_eq_true rfl) dX2_loseWater_4 ⟨Nat.le_of_ble_eq_true rfl, Nat.le_of_ble_eq_true rfl⟩ (fun H locs hP hD hS => ?_)
      have hP : va_P (dC, dI) vwCl (sW cI a T2_0) H := by simpa only [List.append_assoc, List.append_nil, List.nil_append] using hP
      have hD : va_D A (sW cI a T2_0) := by simpa only [List.append_assoc, List.append_nil, List.nil_append] using hD
      refine lv_icmp_ge (tgt := 66) hx hb dX2_loseWater_7 (by decide) (fun c_1 => ?_) (fun c_1 => ?_)
      · have hZ : T2_0 = sl_lose h w S x := (by (try rw [eT2_0]); first | done | rfl | (simp only [sl_lose, if_pos c_1]; done) | (unfold sl_lose; simp only [if_pos c_1]; done))
        rw [hZ] at hP hD
        exact zV_ret hx hb hr hlocks hP hD hS dX2_loseWater_66
      · exact absurd (by rw [show _ = nI (h * w) from (geo_cells hGT2_0)]; exact nI_le (by omega) (by omega)) c_1
    | succ n2 ih2 =>
      intro i2 T2_0 H locs ls hi2 eT2_0 hGT2_0 hP hD hS hl
      refine lv_iload_n hx hb dX2_loseWater_2 rfl (lv_at hl 2 rfl) ?_
      refine lv_aload_n hx hb dX2_loseWater_3 rfl (lv_at hl 0 rfl) ?_
      refine zI_V (pre := ([] : va_W)) (wc := sW cI a T2_0) (post := ([] : va_W)) (w1 := sW cI a T2_0) ⟨hx, hb, hml, hown, hts⟩ (c_X2_cells l dC dI cI a T2_0) (cwV 0 hts gX2_loseWater_X2_cells rfl rfl rfl (by decide +kernel) ⟨Nat.le_of_ble_eq_true rfl, Nat.le_of_ble_eq_true rfl⟩) (by simp only [List.append_assoc, List.append_nil, List.nil_append]) hK hN (ci := 2) (q0 := 0) rfl rfl rfl hP hD hS hA rfl hl.1 rfl (Nat.le_of_ble_eq_true rfl) dX2_loseWater_4 ⟨Nat.le_of_ble_eq_true rfl, Nat.le_of_ble_eq_true rfl⟩ (fun H locs hP hD hS => ?_)
      have hP : va_P (dC, dI) vwCl (sW cI a T2_0) H := by simpa only [List.append_assoc, List.append_nil, List.nil_append] using hP
      have hD : va_D A (sW cI a T2_0) := by simpa only [List.append_assoc, List.append_nil, List.nil_append] using hD
      refine lv_icmp_ge (tgt := 66) hx hb dX2_loseWater_7 (by decide) (fun c_2 => ?_) (fun c_2 => ?_)
      · exact absurd c_2 (by rw [show _ = nI (h * w) from (geo_cells hGT2_0)]; exact nI_ge (by omega) (by omega))
      · refine lv_aload_n hx hb dX2_loseWater_10 rfl (lv_at hl 0 rfl) ?_
        refine va_get (D := (dC, dI)) (ci := 2) (v := .ref (a 2)) (C := RX2) (T := TX2) (N := 18) hx hb hts hinX2 hown hK hP 0 rfl rfl 6 (by decide) hf15 (fun _ h9 => h9) rfl dX2_loseWater_11 ?_
        refine lv_iload_n hx hb dX2_loseWater_14 rfl (lv_at hl 2 rfl) ?_
        refine va_iald (cA := cI) (n := 64) (f := T2_0 2) hx hb hK hP 2 0 rfl rfl (vp_in_nI (by omega) (by decide)) dX2_loseWater_15 ?_
        refine lv_aload_n hx hb dX2_loseWater_16 rfl (lv_at hl 0 rfl) ?_
        refine va_get (D := (dC, dI)) (ci := 2) (v := .ref (a 4)) (C := RX2) (T := TX2) (N := 18) hx hb hts hinX2 hown hK hP 0 rfl rfl 8 (by decide) hf21 (fun _ h9 => h9) rfl dX2_loseWater_17 ?_
        refine lv_iload_n hx hb dX2_loseWater_20 rfl (lv_at hl 2 rfl) ?_
        refine va_iald (cA := cI) (n := 64) (f := T2_0 4) hx hb hK hP 4 0 rfl rfl (vp_in_nI (by omega) (by decide)) dX2_loseWater_21 ?_
        refine lv_isub hx hb dX2_loseWater_22 ?_
        refine lv_iload_n hx hb dX2_loseWater_23 rfl (lv_at hl 1 rfl) ?_
        refine lv_isub hx hb dX2_loseWater_24 ?_
        refine lv_iconst (v := 0) hx hb dX2_loseWater_25 (by decide) ?_
        refine va_mmax hx hb (hml.trans hl.1.symm) hown hm132 hs_max hi_Math hc_max (Nat.le_of_ble_eq_true rfl) (Nat.le_of_ble_eq_true rfl) (Nat.le_of_ble_eq_true rfl) (Nat.le_of_ble_eq_true rfl) dX2_loseWater_26 ?_
        refine lv_istore_n (lv' := [(3, .int (zmax (((T2_0 2 (nI i2).toNatClampNeg) - (T2_0 4 (nI i2).toNatClampNeg)) - x) 0)), (0, .ref (a 0)), (1, .int x), (2, .int (nI i2))]) hx hb dX2_loseWater_29 rfl hl (by decide) rfl (fun ls hl => ?_)
        refine lv_aload_n hx hb dX2_loseWater_30 rfl (lv_at hl 1 rfl) ?_
        refine va_get (D := (dC, dI)) (ci := 2) (v := .ref (a 2)) (C := RX2) (T := TX2) (N := 18) hx hb hts hinX2 hown hK hP 0 rfl rfl 6 (by decide) hf15 (fun _ h9 => h9) rfl dX2_loseWater_31 ?_
        refine lv_iload_n hx hb dX2_loseWater_34 rfl (lv_at hl 3 rfl) ?_
        refine lv_iload_n hx hb dX2_loseWater_35 rfl (lv_at hl 0 rfl) ?_
        refine lv_sipush (v := 200) hx hb dX2_loseWater_36 (by decide) ?_
        refine va_mmin hx hb (hml.trans hl.1.symm) hown hm137 hs_min hi_Math hc_min (Nat.le_of_ble_eq_true rfl) (Nat.le_of_ble_eq_true rfl) (Nat.le_of_ble_eq_true rfl) (Nat.le_of_ble_eq_true rfl) dX2_loseWater_39 ?_
        obtain ⟨S3, eS3⟩ : ∃ z : sS, z = s_put T2_0 2 ((nI i2).toNatClampNeg) (zmin (zmax (((T2_0 2 (nI i2).toNatClampNeg) - (T2_0 4 (nI i2).toNatClampNeg)) - x) 0) 200) := ⟨_, rfl⟩
        refine va_iast (cA := cI) (n := 64) (f := T2_0 2) hx hb hK hP hD hS 2 0 rfl rfl (vp_in_nI (by omega) (by decide)) dX2_loseWater_42 (fun H locs hP hD hS => ?_)
        have hP : va_P (dC, dI) vwCl (sW cI a S3) H := by rw [eS3]; exact hP
        have hD : va_D A (sW cI a S3) := by rw [eS3]; exact hD
        have hGS3 : geo h w S3 := by rw [eS3]; exact geo_put hGT2_0 (Or.inl (by decide)) _
        refine lv_aload_n hx hb dX2_loseWater_43 rfl (lv_at hl 1 rfl) ?_
        refine lv_dup hx hb dX2_loseWater_44 rfl ?_
        refine va_get (D := (dC, dI)) (ci := 2) (v := .int (S3 0 3)) (C := RX2) (T := TX2) (N := 18) hx hb hts hinX2 hown hK hP 0 rfl rfl 3 (by decide) hf65 (fun _ h9 => h9) rfl dX2_loseWater_45 ?_
        refine lv_iload_n hx hb dX2_loseWater_48 rfl (lv_at hl 0 rfl) ?_
        refine lv_aload_n hx hb dX2_loseWater_49 rfl (lv_at hl 1 rfl) ?_
        refine va_get (D := (dC, dI)) (ci := 2) (v := .ref (a 2)) (C := RX2) (T := TX2) (N := 18) hx hb hts hinX2 hown hK hP 0 rfl rfl 6 (by decide) hf15 (fun _ h9 => h9) rfl dX2_loseWater_50 ?_
        refine lv_iload_n hx hb dX2_loseWater_53 rfl (lv_at hl 3 rfl) ?_
        refine va_iald (cA := cI) (n := 64) (f := S3 2) hx hb hK hP 2 0 rfl rfl (vp_in_nI (by omega) (by decide)) dX2_loseWater_54 ?_
        refine lv_isub hx hb dX2_loseWater_55 ?_
        refine lv_iadd hx hb dX2_loseWater_56 ?_
        obtain ⟨S4, eS4⟩ : ∃ z : sS, z = s_put S3 0 3 ((S3 0 3) + ((zmax (((T2_0 2 (nI i2).toNatClampNeg) - (T2_0 4 (nI i2).toNatClampNeg)) - x) 0) - (S3 2 (nI i2).toNatClampNeg))) := ⟨_, rfl⟩
        refine va_put (D := (dC, dI)) (ci := 2) (v := .int ((S3 0 3) + ((zmax (((T2_0 2 (nI i2).toNatClampNeg) - (T2_0 4 (nI i2).toNatClampNeg)) - x) 0) - (S3 2 (nI i2).toNatClampNeg)))) (ty := .int) (C := RX2) (T := TX2) (N := 18) hx hb hts hinX2 tyX2 tyX2_ok nmX2 hown hK hP hD hS 0 rfl rfl 3 (by decide) hf65 (fun _ h9 => h9) rfl (by decide +kernel) rfl rfl (Nat.le_of_ble_eq_true rfl) dX2_loseWater_57 (fun H locs hP hD hS => ?_)
        have hP : va_P (dC, dI) vwCl (sW cI a S4) H := by rw [eS4]; exact hP
        have hD : va_D A (sW cI a S4) := by rw [eS4]; exact hD
        have hGS4 : geo h w S4 := by rw [eS4]; exact geo_put hGS3 (Or.inr (by decide)) _
        refine lv_iinc (v := nI (i2 + 1)) (lv' := [(2, .int (nI (i2 + 1))), (3, .int (zmax (((T2_0 2 (nI i2).toNatClampNeg) - (T2_0 4 (nI i2).toNatClampNeg)) - x) 0)), (0, .ref (a 0)), (1, .int x)]) hx hb dX2_loseWater_60 hl (k := 3) rfl (show nI i2 + Int32.ofInt 1 = nI (i2 + 1) from nI_1 i2) (by decide) rfl (fun ls hl => ?_)
        refine lv_goto (tgt := 2) hx hb dX2_loseWater_63 (by decide) ?_
        exact ih2 (i2 + 1) S4 _ _ ls (by omega) (by (try rw [eS4]); (try rw [eS3]); (try rw [eT2_0]); rfl) (hGS4) hP hD hS (lv_sub hl [2, 3, 0] rfl)
  exact lp2 (h * w) 0 S _ _ ls (by omega) rfl (hG0) hP hD hS (lv_sub hl [1, 2, 0] rfl)

/-! Arrays.fill, copyRow; a new slope, a copied one -/
set_option maxHeartbeats 4000000 in
set_option maxRecDepth 100000 in
theorem c_fill (l : Launch) (dC : Nat → ClassId) (dI : Nat → Nat → Nat) (cI : ClassId) (x n : Nat) (f : Nat → Int32) (v : Int32) (hn : n < 2 ^ 31) : zV l yJ7_fill_53178 wsJ7_fill_53178 { frames := 0, cells := 0, slots := 0, locals := 0 } (dC, dI) cI [.ref x, .int v] [(x, .inl (cI, n, .inl f))] [(x, .inl (cI, n, .inl (fun _ => v)))] := by
  refine zV_of (cc := cJ7_fill_53178) (maxL := 4) (ret := none) (by decide) rfl (Nat.le_of_ble_eq_true rfl) ?_
  intro p e s m below meth c A ls C0 hl
  obtain ⟨hx, hb, hr, hml, hown, hts, hlocks, hK, hN, hA, hP, hD, hS⟩ := C0
  have hl : lv_has ls 4 [(0, .ref x), (1, .int v)] := hl
  refine lv_iconst (v := 0) hx hb dJ7_fill_53178_0 (by decide) ?_
  refine lv_istore_n (lv' := [(2, .int 0), (0, .ref x), (1, .int v)]) hx hb dJ7_fill_53178_1 rfl hl (by decide) rfl (fun ls hl => ?_)
  refine lv_aload_n hx hb dJ7_fill_53178_2 rfl (lv_at hl 1 rfl) ?_
  refine va_alen (v := nI n) (ty := .int) hx hb hK hP 0 0 rfl rfl rfl dJ7_fill_53178_3 ?_
  refine lv_istore_n (lv' := [(3, .int (nI n)), (2, .int 0), (0, .ref x), (1, .int v)]) hx hb dJ7_fill_53178_4 rfl hl (by decide) rfl (fun ls hl => ?_)
  have lp : ∀ (k i : Nat) (g : Nat → Int32) (H : Heap) (locs : List Loc) (ls : Array Slot), i + k = n → (∀ j, j < i → g j = v) → va_P (dC, dI) vwCl [(x, .inl (cI, n, .inl g))] H → va_D A [(x, .inl (cI, n, .inl g))] → va_S A s.heap H locs → lv_has ls 4 [(0, .ref x), (1, .int v), (2, .int (nI i)), (3, .int (nI n))] → W p l e ({ frames := 0, cells := 0, slots := 0, locals := 0 } : Room) s m [.ref x, .int v].toArray below meth c H locs 0 0 (zVq (dC, dI) A [(x, .inl (cI, n, .inl (fun _ => v)))] below [.ref x, .int v].toArray s 0 0) (F0 m 5 ls []) := by
    intro k
    induction k with
    | zero =>
      intro i g H locs ls hi hg hP hD hS hl
      refine lv_iload_n hx hb dJ7_fill_53178_5 rfl (lv_at hl 2 rfl) ?_
      refine lv_iload_n hx hb dJ7_fill_53178_6 rfl (lv_at hl 3 rfl) ?_
      refine lv_icmp_ge (tgt := 20) hx hb dJ7_fill_53178_7 (by decide) (fun c_1 => ?_) (fun c_1 => ?_)
      · have hP9 : va_P (dC, dI) vwCl [(x, .inl (cI, n, .inl (fun _ => v)))] H := z_Pcons (z_cell (hP 0 _ rfl) (fun j hj => hg j (by omega))) z_Pnil
        have hD9 : va_D A [(x, .inl (cI, n, .inl (fun _ => v)))] := z_Dmap hD rfl
        exact zV_ret hx hb hr hlocks hP9 hD9 hS dJ7_fill_53178_20
      · exact absurd (nI_le (by omega) (by omega)) c_1
    | succ k ih =>
      intro i g H locs ls hi hg hP hD hS hl
      refine lv_iload_n hx hb dJ7_fill_53178_5 rfl (lv_at hl 2 rfl) ?_
      refine lv_iload_n hx hb dJ7_fill_53178_6 rfl (lv_at hl 3 rfl) ?_
      refine lv_icmp_ge (tgt := 20) hx hb dJ7_fill_53178_7 (by decide) (fun c_1 => ?_) (fun c_1 => ?_)
      · exact absurd c_1 (nI_ge (by omega) (by omega))
      · refine lv_aload_n hx hb dJ7_fill_53178_10 rfl (lv_at hl 0 rfl) ?_
        refine lv_iload_n hx hb dJ7_fill_53178_11 rfl (lv_at hl 2 rfl) ?_
        refine lv_iload_n hx hb dJ7_fill_53178_12 rfl (lv_at hl 1 rfl) ?_
        refine va_iast (cA := cI) (n := n) (f := g) hx hb hK hP hD hS 0 0 rfl rfl (vp_in_nI (by omega) hn) dJ7_fill_53178_13 (fun H locs hP hD hS => ?_)
        have hP : va_P (dC, dI) vwCl [(x, .inl (cI, n, .inl (upd g (nI i).toNatClampNeg v)))] H := hP
        have hD : va_D A [(x, .inl (cI, n, .inl (upd g (nI i).toNatClampNeg v)))] := hD
        refine lv_iinc (v := nI (i + 1)) (lv' := [(2, .int (nI (i + 1))), (0, .ref x), (1, .int v), (3, .int (nI n))]) hx hb dJ7_fill_53178_14 hl (k := 2) rfl (show nI i + Int32.ofInt 1 = nI (i + 1) from nI_1 i) (by decide) rfl (fun ls hl => ?_)
        refine lv_goto (tgt := 5) hx hb dJ7_fill_53178_17 (by decide) ?_
        refine ih (i + 1) _ _ _ ls (by omega) (fun j hj => ?_) hP hD hS (lv_sub hl [1, 2, 0, 3] rfl)
        rw [nI_clamp (by omega)]
        unfold upd
        split
        · rfl
        · exact hg j (by omega)
  exact lp n 0 f _ _ ls (by omega) (fun j hj => by omega) hP hD hS (lv_sub hl [2, 3, 1, 0] rfl)
set_option maxHeartbeats 4000000 in
set_option maxRecDepth 100000 in
theorem c_X2_copyRow (l : Launch) (dC : Nat → ClassId) (dI : Nat → Nat → Nat) (cI : ClassId) (x y : Nat) (f g : Nat → Int32) : zV l yX2_copyRow wsX2_copyRow { frames := 1, cells := 0, slots := 0, locals := 60 } (dC, dI) cI [.ref x, .ref y] [(x, .inl (cI, 64, .inl f)), (y, .inl (cI, 64, .inl g))] [(x, .inl (cI, 64, .inl f)), (y, .inl (cI, 64, .inl f))] := by
  refine zV_of (cc := cX2_copyRow) (maxL := 2) (ret := none) (by decide) rfl (Nat.le_of_ble_eq_true rfl) ?_
  intro p e s m below meth c A ls C0 hl
  obtain ⟨hx, hb, hr, hml, hown, hts, hlocks, hK, hN, hA, hP, hD, hS⟩ := C0
  have hown : s.vm.findClass RX2 = some m.cls := hown
  have hl : lv_has ls 2 [(0, .ref x), (1, .ref y)] := hl
  refine lv_aload_n hx hb dX2_copyRow_0 rfl (lv_at hl 0 rfl) ?_
  refine lv_iconst (v := 0) hx hb dX2_copyRow_1 (by decide) ?_
  refine lv_aload_n hx hb dX2_copyRow_2 rfl (lv_at hl 1 rfl) ?_
  refine lv_iconst (v := 0) hx hb dX2_copyRow_3 (by decide) ?_
  refine lv_bipush (v := 64) hx hb dX2_copyRow_4 (by decide) ?_
  refine va_copyi (c0 := cI) (c1 := cI) (n0 := 64) (n1 := 64) (f := f) (g := g) (ty := .int) (sp := 0) (dp := 0) (n := 64) hx hb (hml.trans hl.1.symm) hown (hts (.methodLink RX2 81 arraycopyName) (by decide +kernel)) (hts (.native arraycopyName) (by decide +kernel)) (hts (.static arraycopyName) (by decide +kernel)) (hts (.initialized "java/lang/System") (by decide +kernel)) hK hP hD hS 0 1 0 0 rfl rfl rfl rfl rfl (by decide) (by decide) (by decide) (by decide) (by decide) (fun _ _ => rfl) (Nat.le_of_ble_eq_true rfl) (Nat.le_of_ble_eq_true rfl) dX2_copyRow_6 (fun H locs hP hD hS => ?_)
  have hP9 : va_P (dC, dI) vwCl [(x, .inl (cI, 64, .inl f)), (y, .inl (cI, 64, .inl f))] H := z_Pcons (hP 0 _ rfl) (z_Pcons (z_cell (hP 1 _ rfl) (fun j hj => show va_cpy f g 0 0 64 j = f j from sb_cpy0 hj)) z_Pnil)
  have hD9 : va_D A [(x, .inl (cI, 64, .inl f)), (y, .inl (cI, 64, .inl f))] := z_Dmap hD rfl
  exact zV_ret hx hb hr hlocks hP9 hD9 hS dX2_copyRow_9
theorem new_eq {S : sS} {u v : Int32} (h0 : S 0 0 = u) (h1 : S 0 1 = v) (h2 : S 0 2 = 0) (h3 : S 0 3 = 0) (h4 : S 0 4 = 0) (r1 : S 1 = fun _ => 1) (r2 : S 2 = fun _ => 0) (r3 : S 3 = fun _ => 60) (r4 : S 4 = fun _ => 2) (r5 : S 5 = fun _ => 30) (r6 : S 6 = fun _ => 0) (r12 : S 12 = fun _ => 0) (r13 : S 13 = fun _ => 0) : sEq (itr (fun i T => sl_clear T i) 64 S) (sl_new u v) := by
  refine ⟨fun j hj => ?_, fun j hj => ?_, fun r h2 h3 j hj => ?_⟩
  · rw [clr_out (Or.inl (by decide))]
    rcases (show j = 0 ∨ j = 1 ∨ j = 2 ∨ j = 3 ∨ j = 4 by omega) with rfl | rfl | rfl | rfl | rfl
    · exact h0
    · exact h1
    · assumption
    · assumption
    · exact h4
  · rw [clr_out (Or.inl (by decide)), r1]
    rfl
  · by_cases hr : 7 ≤ r ∧ r ≤ 11
    · rw [clr_in hr.1 hr.2 hj (by decide)]
      rcases (show r = 7 ∨ r = 8 ∨ r = 9 ∨ r = 10 ∨ r = 11 by omega) with rfl | rfl | rfl | rfl | rfl <;> rfl
    · rw [clr_out (by omega)]
      rcases (show r = 2 ∨ r = 3 ∨ r = 4 ∨ r = 5 ∨ r = 6 ∨ r = 12 ∨ r = 13 by omega) with rfl | rfl | rfl | rfl | rfl | rfl | rfl
      · rw [r2]; rfl
      · rw [r3]; rfl
      · rw [r4]; rfl
      · rw [r5]; rfl
      · rw [r6]; rfl
      · rw [r12]; rfl
      · rw [r13]; rfl
theorem cpy_eq {Z S T : sS} (h : Z = s_row (s_row (s_row (s_row (s_row (s_row (s_row (s_row (s_row (s_row (s_row (s_row (s_row (s_put (s_put (s_put (s_put (s_put T 0 0 (S 0 0)) 0 1 (S 0 1)) 0 2 (S 0 2)) 0 3 (S 0 3)) 0 4 (S 0 4)) 1 (va_cpy (S 1) (T 1) 0 0 8)) 2 (S 2)) 3 (S 3)) 4 (S 4)) 5 (S 5)) 6 (S 6)) 7 (S 7)) 8 (S 8)) 9 (S 9)) 10 (S 10)) 11 (S 11)) 12 (S 12)) 13 (S 13)) : sEq Z S := by
  subst h
  refine ⟨fun j hj => ?_, fun j hj => ?_, fun r h2 h3 j hj => ?_⟩
  · rcases (show j = 0 ∨ j = 1 ∨ j = 2 ∨ j = 3 ∨ j = 4 by omega) with rfl | rfl | rfl | rfl | rfl <;> rfl
  · show va_cpy (S 1) _ 0 0 8 j = S 1 j
    exact sb_cpy0 hj
  · rcases (show r = 2 ∨ r = 3 ∨ r = 4 ∨ r = 5 ∨ r = 6 ∨ r = 7 ∨ r = 8 ∨ r = 9 ∨ r = 10 ∨ r = 11 ∨ r = 12 ∨ r = 13 by omega) with rfl | rfl | rfl | rfl | rfl | rfl | rfl | rfl | rfl | rfl | rfl | rfl <;> rfl

set_option maxHeartbeats 4000000 in
set_option maxRecDepth 100000 in
theorem c_X2_fieldNumber (l : Launch) (dC : Nat → ClassId) (dI : Nat → Nat → Nat) (cI : ClassId) (a : Nat → Nat) (S : sS) (i x : Int32) (hC : vp_in i 64) : zI l yX2_fieldNumber wsX2_fieldNumber { frames := 0, cells := 0, slots := 0, locals := 0 } (dC, dI) cI [.ref (a 0), .int i, .int x] (sW cI a S) (sW cI a S) (sl_field S i x) := by
  refine zI_of (cc := cX2_fieldNumber) (maxL := 3) (ret := (some .int)) (by decide) rfl (Nat.le_of_ble_eq_true rfl) ?_
  intro p e s m below meth c A ls C0 hl
  obtain ⟨hx, hb, hr, hml, hown, hts, hlocks, hK, hN, hA, hP, hD, hS⟩ := C0
  have hown : s.vm.findClass RX2 = some m.cls := hown
  have hl : lv_has ls 3 [(0, .ref (a 0)), (1, .int i), (2, .int x)] := hl
  have hf15 := hts (.fieldLink RX2 15 "PaddyTerraces$Slope" "depth" "[I") (by decide +kernel)
  have hf18 := hts (.fieldLink RX2 18 "PaddyTerraces$Slope" "bank" "[I") (by decide +kernel)
  have hf21 := hts (.fieldLink RX2 21 "PaddyTerraces$Slope" "seepage" "[I") (by decide +kernel)
  have hf24 := hts (.fieldLink RX2 24 "PaddyTerraces$Slope" "stone" "[I") (by decide +kernel)
  have hf27 := hts (.fieldLink RX2 27 "PaddyTerraces$Slope" "side" "[I") (by decide +kernel)
  have hf30 := hts (.fieldLink RX2 30 "PaddyTerraces$Slope" "crop" "[I") (by decide +kernel)
  have hf33 := hts (.fieldLink RX2 33 "PaddyTerraces$Slope" "age" "[I") (by decide +kernel)
  have hf36 := hts (.fieldLink RX2 36 "PaddyTerraces$Slope" "hardness" "[I") (by decide +kernel)
  have hf39 := hts (.fieldLink RX2 39 "PaddyTerraces$Slope" "drowned" "[I") (by decide +kernel)
  have hf42 := hts (.fieldLink RX2 42 "PaddyTerraces$Slope" "dry" "[I") (by decide +kernel)
  have hf45 := hts (.fieldLink RX2 45 "PaddyTerraces$Slope" "wentOut" "[I") (by decide +kernel)
  have hf48 := hts (.fieldLink RX2 48 "PaddyTerraces$Slope" "spilled" "[I") (by decide +kernel)
  have hinX2 : ∀ w ∈ wsX20, w ∈ wsX2_fieldNumber := by decide +kernel
  have hS0 := hS
  refine lv_iload_n hx hb dX2_fieldNumber_0 rfl (lv_at hl 2 rfl) ?_
  by_cases c_1 : x = 0
  · refine lv_tableIn (off := 59) (tgt := 60) hx hb dX2_fieldNumber_1 (by rw [c_1]; decide) (by rw [c_1]; decide) (by rw [c_1]; rfl) (by decide) ?_
    refine lv_aload_n hx hb dX2_fieldNumber_60 rfl (lv_at hl 0 rfl) ?_
    refine va_get (D := (dC, dI)) (ci := 2) (v := .ref (a 2)) (C := RX2) (T := TX2) (N := 18) hx hb hts hinX2 hown hK hP 0 rfl rfl 6 (by decide) hf15 (fun _ h9 => h9) rfl dX2_fieldNumber_61 ?_
    refine lv_iload_n hx hb dX2_fieldNumber_64 rfl (lv_at hl 1 rfl) ?_
    refine va_iald (cA := cI) (n := 64) (f := S 2) hx hb hK hP 2 0 rfl rfl hC dX2_fieldNumber_65 ?_
    exact zI_ret hx hb hr hlocks hP hD hS rfl (by first | done | rfl | (simp only [sl_field, if_pos c_1]; done)) dX2_fieldNumber_66
  by_cases c_2 : x = 1
  · refine lv_tableIn (off := 66) (tgt := 67) hx hb dX2_fieldNumber_1 (by rw [c_2]; decide) (by rw [c_2]; decide) (by rw [c_2]; rfl) (by decide) ?_
    refine lv_aload_n hx hb dX2_fieldNumber_67 rfl (lv_at hl 0 rfl) ?_
    refine va_get (D := (dC, dI)) (ci := 2) (v := .ref (a 3)) (C := RX2) (T := TX2) (N := 18) hx hb hts hinX2 hown hK hP 0 rfl rfl 7 (by decide) hf18 (fun _ h9 => h9) rfl dX2_fieldNumber_68 ?_
    refine lv_iload_n hx hb dX2_fieldNumber_71 rfl (lv_at hl 1 rfl) ?_
    refine va_iald (cA := cI) (n := 64) (f := S 3) hx hb hK hP 3 0 rfl rfl hC dX2_fieldNumber_72 ?_
    exact zI_ret hx hb hr hlocks hP hD hS rfl (by first | done | rfl | (simp only [sl_field, if_neg c_1, if_pos c_2]; done)) dX2_fieldNumber_73
  by_cases c_3 : x = 2
  · refine lv_tableIn (off := 73) (tgt := 74) hx hb dX2_fieldNumber_1 (by rw [c_3]; decide) (by rw [c_3]; decide) (by rw [c_3]; rfl) (by decide) ?_
    refine lv_aload_n hx hb dX2_fieldNumber_74 rfl (lv_at hl 0 rfl) ?_
    refine va_get (D := (dC, dI)) (ci := 2) (v := .ref (a 4)) (C := RX2) (T := TX2) (N := 18) hx hb hts hinX2 hown hK hP 0 rfl rfl 8 (by decide) hf21 (fun _ h9 => h9) rfl dX2_fieldNumber_75 ?_
    refine lv_iload_n hx hb dX2_fieldNumber_78 rfl (lv_at hl 1 rfl) ?_
    refine va_iald (cA := cI) (n := 64) (f := S 4) hx hb hK hP 4 0 rfl rfl hC dX2_fieldNumber_79 ?_
    exact zI_ret hx hb hr hlocks hP hD hS rfl (by first | done | rfl | (simp only [sl_field, if_neg c_1, if_neg c_2, if_pos c_3]; done)) dX2_fieldNumber_80
  by_cases c_4 : x = 3
  · refine lv_tableIn (off := 80) (tgt := 81) hx hb dX2_fieldNumber_1 (by rw [c_4]; decide) (by rw [c_4]; decide) (by rw [c_4]; rfl) (by decide) ?_
    refine lv_aload_n hx hb dX2_fieldNumber_81 rfl (lv_at hl 0 rfl) ?_
    refine va_get (D := (dC, dI)) (ci := 2) (v := .ref (a 5)) (C := RX2) (T := TX2) (N := 18) hx hb hts hinX2 hown hK hP 0 rfl rfl 9 (by decide) hf24 (fun _ h9 => h9) rfl dX2_fieldNumber_82 ?_
    refine lv_iload_n hx hb dX2_fieldNumber_85 rfl (lv_at hl 1 rfl) ?_
    refine va_iald (cA := cI) (n := 64) (f := S 5) hx hb hK hP 5 0 rfl rfl hC dX2_fieldNumber_86 ?_
    exact zI_ret hx hb hr hlocks hP hD hS rfl (by first | done | rfl | (simp only [sl_field, if_neg c_1, if_neg c_2, if_neg c_3, if_pos c_4]; done)) dX2_fieldNumber_87
  by_cases c_5 : x = 4
  · refine lv_tableIn (off := 87) (tgt := 88) hx hb dX2_fieldNumber_1 (by rw [c_5]; decide) (by rw [c_5]; decide) (by rw [c_5]; rfl) (by decide) ?_
    refine lv_aload_n hx hb dX2_fieldNumber_88 rfl (lv_at hl 0 rfl) ?_
    refine va_get (D := (dC, dI)) (ci := 2) (v := .ref (a 6)) (C := RX2) (T := TX2) (N := 18) hx hb hts hinX2 hown hK hP 0 rfl rfl 10 (by decide) hf27 (fun _ h9 => h9) rfl dX2_fieldNumber_89 ?_
    refine lv_iload_n hx hb dX2_fieldNumber_92 rfl (lv_at hl 1 rfl) ?_
    refine va_iald (cA := cI) (n := 64) (f := S 6) hx hb hK hP 6 0 rfl rfl hC dX2_fieldNumber_93 ?_
    exact zI_ret hx hb hr hlocks hP hD hS rfl (by first | done | rfl | (simp only [sl_field, if_neg c_1, if_neg c_2, if_neg c_3, if_neg c_4, if_pos c_5]; done)) dX2_fieldNumber_94
  by_cases c_6 : x = 5
  · refine lv_tableIn (off := 94) (tgt := 95) hx hb dX2_fieldNumber_1 (by rw [c_6]; decide) (by rw [c_6]; decide) (by rw [c_6]; rfl) (by decide) ?_
    refine lv_aload_n hx hb dX2_fieldNumber_95 rfl (lv_at hl 0 rfl) ?_
    refine va_get (D := (dC, dI)) (ci := 2) (v := .ref (a 7)) (C := RX2) (T := TX2) (N := 18) hx hb hts hinX2 hown hK hP 0 rfl rfl 11 (by decide) hf30 (fun _ h9 => h9) rfl dX2_fieldNumber_96 ?_
    refine lv_iload_n hx hb dX2_fieldNumber_99 rfl (lv_at hl 1 rfl) ?_
    refine va_iald (cA := cI) (n := 64) (f := S 7) hx hb hK hP 7 0 rfl rfl hC dX2_fieldNumber_100 ?_
    exact zI_ret hx hb hr hlocks hP hD hS rfl (by first | done | rfl | (simp only [sl_field, if_neg c_1, if_neg c_2, if_neg c_3, if_neg c_4, if_neg c_5, if_pos c_6]; done)) dX2_fieldNumber_101
  by_cases c_7 : x = 6
  · refine lv_tableIn (off := 101) (tgt := 102) hx hb dX2_fieldNumber_1 (by rw [c_7]; decide) (by rw [c_7]; decide) (by rw [c_7]; rfl) (by decide) ?_
    refine lv_aload_n hx hb dX2_fieldNumber_102 rfl (lv_at hl 0 rfl) ?_
    refine va_get (D := (dC, dI)) (ci := 2) (v := .ref (a 8)) (C := RX2) (T := TX2) (N := 18) hx hb hts hinX2 hown hK hP 0 rfl rfl 12 (by decide) hf33 (fun _ h9 => h9) rfl dX2_fieldNumber_103 ?_
    refine lv_iload_n hx hb dX2_fieldNumber_106 rfl (lv_at hl 1 rfl) ?_
    refine va_iald (cA := cI) (n := 64) (f := S 8) hx hb hK hP 8 0 rfl rfl hC dX2_fieldNumber_107 ?_
    exact zI_ret hx hb hr hlocks hP hD hS rfl (by first | done | rfl | (simp only [sl_field, if_neg c_1, if_neg c_2, if_neg c_3, if_neg c_4, if_neg c_5, if_neg c_6, if_pos c_7]; done)) dX2_fieldNumber_108
  by_cases c_8 : x = 7
  · refine lv_tableIn (off := 108) (tgt := 109) hx hb dX2_fieldNumber_1 (by rw [c_8]; decide) (by rw [c_8]; decide) (by rw [c_8]; rfl) (by decide) ?_
    refine lv_aload_n hx hb dX2_fieldNumber_109 rfl (lv_at hl 0 rfl) ?_
    refine va_get (D := (dC, dI)) (ci := 2) (v := .ref (a 9)) (C := RX2) (T := TX2) (N := 18) hx hb hts hinX2 hown hK hP 0 rfl rfl 13 (by decide) hf36 (fun _ h9 => h9) rfl dX2_fieldNumber_110 ?_
    refine lv_iload_n hx hb dX2_fieldNumber_113 rfl (lv_at hl 1 rfl) ?_
    refine va_iald (cA := cI) (n := 64) (f := S 9) hx hb hK hP 9 0 rfl rfl hC dX2_fieldNumber_114 ?_
    exact zI_ret hx hb hr hlocks hP hD hS rfl (by first | done | rfl | (simp only [sl_field, if_neg c_1, if_neg c_2, if_neg c_3, if_neg c_4, if_neg c_5, if_neg c_6, if_neg c_7, if_pos c_8]; done)) dX2_fieldNumber_115
  by_cases c_9 : x = 8
  · refine lv_tableIn (off := 115) (tgt := 116) hx hb dX2_fieldNumber_1 (by rw [c_9]; decide) (by rw [c_9]; decide) (by rw [c_9]; rfl) (by decide) ?_
    refine lv_aload_n hx hb dX2_fieldNumber_116 rfl (lv_at hl 0 rfl) ?_
    refine va_get (D := (dC, dI)) (ci := 2) (v := .ref (a 10)) (C := RX2) (T := TX2) (N := 18) hx hb hts hinX2 hown hK hP 0 rfl rfl 14 (by decide) hf39 (fun _ h9 => h9) rfl dX2_fieldNumber_117 ?_
    refine lv_iload_n hx hb dX2_fieldNumber_120 rfl (lv_at hl 1 rfl) ?_
    refine va_iald (cA := cI) (n := 64) (f := S 10) hx hb hK hP 10 0 rfl rfl hC dX2_fieldNumber_121 ?_
    exact zI_ret hx hb hr hlocks hP hD hS rfl (by first | done | rfl | (simp only [sl_field, if_neg c_1, if_neg c_2, if_neg c_3, if_neg c_4, if_neg c_5, if_neg c_6, if_neg c_7, if_neg c_8, if_pos c_9]; done)) dX2_fieldNumber_122
  by_cases c_10 : x = 9
  · refine lv_tableIn (off := 122) (tgt := 123) hx hb dX2_fieldNumber_1 (by rw [c_10]; decide) (by rw [c_10]; decide) (by rw [c_10]; rfl) (by decide) ?_
    refine lv_aload_n hx hb dX2_fieldNumber_123 rfl (lv_at hl 0 rfl) ?_
    refine va_get (D := (dC, dI)) (ci := 2) (v := .ref (a 11)) (C := RX2) (T := TX2) (N := 18) hx hb hts hinX2 hown hK hP 0 rfl rfl 15 (by decide) hf42 (fun _ h9 => h9) rfl dX2_fieldNumber_124 ?_
    refine lv_iload_n hx hb dX2_fieldNumber_127 rfl (lv_at hl 1 rfl) ?_
    refine va_iald (cA := cI) (n := 64) (f := S 11) hx hb hK hP 11 0 rfl rfl hC dX2_fieldNumber_128 ?_
    exact zI_ret hx hb hr hlocks hP hD hS rfl (by first | done | rfl | (simp only [sl_field, if_neg c_1, if_neg c_2, if_neg c_3, if_neg c_4, if_neg c_5, if_neg c_6, if_neg c_7, if_neg c_8, if_neg c_9, if_pos c_10]; done)) dX2_fieldNumber_129
  by_cases c_11 : x = 10
  · refine lv_tableIn (off := 129) (tgt := 130) hx hb dX2_fieldNumber_1 (by rw [c_11]; decide) (by rw [c_11]; decide) (by rw [c_11]; rfl) (by decide) ?_
    refine lv_aload_n hx hb dX2_fieldNumber_130 rfl (lv_at hl 0 rfl) ?_
    refine va_get (D := (dC, dI)) (ci := 2) (v := .ref (a 12)) (C := RX2) (T := TX2) (N := 18) hx hb hts hinX2 hown hK hP 0 rfl rfl 16 (by decide) hf45 (fun _ h9 => h9) rfl dX2_fieldNumber_131 ?_
    refine lv_iload_n hx hb dX2_fieldNumber_134 rfl (lv_at hl 1 rfl) ?_
    refine va_iald (cA := cI) (n := 64) (f := S 12) hx hb hK hP 12 0 rfl rfl hC dX2_fieldNumber_135 ?_
    exact zI_ret hx hb hr hlocks hP hD hS rfl (by first | done | rfl | (simp only [sl_field, if_neg c_1, if_neg c_2, if_neg c_3, if_neg c_4, if_neg c_5, if_neg c_6, if_neg c_7, if_neg c_8, if_neg c_9, if_neg c_10, if_pos c_11]; done)) dX2_fieldNumber_136
  refine lv_tableOut (tgt := 137) hx hb dX2_fieldNumber_1 (by have h90 := lv_neT c_1 (a := 0) rfl; have h91 := lv_neT c_2 (a := 1) rfl; have h92 := lv_neT c_3 (a := 2) rfl; have h93 := lv_neT c_4 (a := 3) rfl; have h94 := lv_neT c_5 (a := 4) rfl; have h95 := lv_neT c_6 (a := 5) rfl; have h96 := lv_neT c_7 (a := 6) rfl; have h97 := lv_neT c_8 (a := 7) rfl; have h98 := lv_neT c_9 (a := 8) rfl; have h99 := lv_neT c_10 (a := 9) rfl; have h910 := lv_neT c_11 (a := 10) rfl; omega) (by decide) ?_
  refine lv_aload_n hx hb dX2_fieldNumber_137 rfl (lv_at hl 0 rfl) ?_
  refine va_get (D := (dC, dI)) (ci := 2) (v := .ref (a 13)) (C := RX2) (T := TX2) (N := 18) hx hb hts hinX2 hown hK hP 0 rfl rfl 17 (by decide) hf48 (fun _ h9 => h9) rfl dX2_fieldNumber_138 ?_
  refine lv_iload_n hx hb dX2_fieldNumber_141 rfl (lv_at hl 1 rfl) ?_
  refine va_iald (cA := cI) (n := 64) (f := S 13) hx hb hK hP 13 0 rfl rfl hC dX2_fieldNumber_142 ?_
  exact zI_ret hx hb hr hlocks hP hD hS rfl (by first | done | rfl | (simp only [sl_field, if_neg c_1, if_neg c_2, if_neg c_3, if_neg c_4, if_neg c_5, if_neg c_6, if_neg c_7, if_neg c_8, if_neg c_9, if_neg c_10, if_neg c_11]; done)) dX2_fieldNumber_143
set_option maxHeartbeats 4000000 in
set_option maxRecDepth 100000 in
theorem c_X2_startAnew (l : Launch) (dC : Nat → ClassId) (dI : Nat → Nat → Nat) (cI : ClassId) (a : Nat → Nat) (S : sS) (u v : Int32) : zV l yX2_startAnew wsX2_startAnew { frames := 1, cells := 0, slots := 0, locals := 23 } (dC, dI) cI [.ref (a 0), .int u, .int v] (sW cI a S) (sW cI a (sl_new u v)) := by
  refine zV_of (cc := cX2_startAnew) (maxL := 4) (ret := none) (by decide) rfl (Nat.le_of_ble_eq_true rfl) ?_
  intro p e s m below meth c A ls C0 hl
  obtain ⟨hx, hb, hr, hml, hown, hts, hlocks, hK, hN, hA, hP, hD, hS⟩ := C0
  have hown : s.vm.findClass RX2 = some m.cls := hown
  have hl : lv_has ls 4 [(0, .ref (a 0)), (1, .int u), (2, .int v)] := hl
  have hf9 := hts (.fieldLink RX2 9 "PaddyTerraces$Slope" "share" "[I") (by decide +kernel)
  have hf15 := hts (.fieldLink RX2 15 "PaddyTerraces$Slope" "depth" "[I") (by decide +kernel)
  have hf18 := hts (.fieldLink RX2 18 "PaddyTerraces$Slope" "bank" "[I") (by decide +kernel)
  have hf21 := hts (.fieldLink RX2 21 "PaddyTerraces$Slope" "seepage" "[I") (by decide +kernel)
  have hf24 := hts (.fieldLink RX2 24 "PaddyTerraces$Slope" "stone" "[I") (by decide +kernel)
  have hf27 := hts (.fieldLink RX2 27 "PaddyTerraces$Slope" "side" "[I") (by decide +kernel)
  have hf45 := hts (.fieldLink RX2 45 "PaddyTerraces$Slope" "wentOut" "[I") (by decide +kernel)
  have hf48 := hts (.fieldLink RX2 48 "PaddyTerraces$Slope" "spilled" "[I") (by decide +kernel)
  have hf55 := hts (.fieldLink RX2 55 "PaddyTerraces$Slope" "h" "I") (by decide +kernel)
  have hf59 := hts (.fieldLink RX2 59 "PaddyTerraces$Slope" "w" "I") (by decide +kernel)
  have hf62 := hts (.fieldLink RX2 62 "PaddyTerraces$Slope" "day" "I") (by decide +kernel)
  have hf65 := hts (.fieldLink RX2 65 "PaddyTerraces$Slope" "brook" "I") (by decide +kernel)
  have hf68 := hts (.fieldLink RX2 68 "PaddyTerraces$Slope" "died" "I") (by decide +kernel)
  have hinX2 : ∀ w ∈ wsX20, w ∈ wsX2_startAnew := by decide +kernel
  have hS0 := hS
  refine lv_aload_n hx hb dX2_startAnew_0 rfl (lv_at hl 0 rfl) ?_
  refine lv_iload_n hx hb dX2_startAnew_1 rfl (lv_at hl 1 rfl) ?_
  obtain ⟨S1, eS1⟩ : ∃ z : sS, z = s_put S 0 0 u := ⟨_, rfl⟩
  refine va_put (D := (dC, dI)) (ci := 2) (v := .int u) (ty := .int) (C := RX2) (T := TX2) (N := 18) hx hb hts hinX2 tyX2 tyX2_ok nmX2 hown hK hP hD hS 0 rfl rfl 0 (by decide) hf55 (fun _ h9 => h9) rfl (by decide +kernel) rfl rfl (Nat.le_of_ble_eq_true rfl) dX2_startAnew_2 (fun H locs hP hD hS => ?_)
  have hP : va_P (dC, dI) vwCl (sW cI a S1) H := by rw [eS1]; exact hP
  have hD : va_D A (sW cI a S1) := by rw [eS1]; exact hD
  refine lv_aload_n hx hb dX2_startAnew_5 rfl (lv_at hl 0 rfl) ?_
  refine lv_iload_n hx hb dX2_startAnew_6 rfl (lv_at hl 2 rfl) ?_
  obtain ⟨S2, eS2⟩ : ∃ z : sS, z = s_put S1 0 1 v := ⟨_, rfl⟩
  refine va_put (D := (dC, dI)) (ci := 2) (v := .int v) (ty := .int) (C := RX2) (T := TX2) (N := 18) hx hb hts hinX2 tyX2 tyX2_ok nmX2 hown hK hP hD hS 0 rfl rfl 1 (by decide) hf59 (fun _ h9 => h9) rfl (by decide +kernel) rfl rfl (Nat.le_of_ble_eq_true rfl) dX2_startAnew_7 (fun H locs hP hD hS => ?_)
  have hP : va_P (dC, dI) vwCl (sW cI a S2) H := by rw [eS2]; exact hP
  have hD : va_D A (sW cI a S2) := by rw [eS2]; exact hD
  refine lv_aload_n hx hb dX2_startAnew_10 rfl (lv_at hl 0 rfl) ?_
  refine lv_iconst (v := 0) hx hb dX2_startAnew_11 (by decide) ?_
  obtain ⟨S3, eS3⟩ : ∃ z : sS, z = s_put S2 0 2 0 := ⟨_, rfl⟩
  refine va_put (D := (dC, dI)) (ci := 2) (v := .int 0) (ty := .int) (C := RX2) (T := TX2) (N := 18) hx hb hts hinX2 tyX2 tyX2_ok nmX2 hown hK hP hD hS 0 rfl rfl 2 (by decide) hf62 (fun _ h9 => h9) rfl (by decide +kernel) rfl rfl (Nat.le_of_ble_eq_true rfl) dX2_startAnew_12 (fun H locs hP hD hS => ?_)
  have hP : va_P (dC, dI) vwCl (sW cI a S3) H := by rw [eS3]; exact hP
  have hD : va_D A (sW cI a S3) := by rw [eS3]; exact hD
  refine lv_aload_n hx hb dX2_startAnew_15 rfl (lv_at hl 0 rfl) ?_
  refine lv_iconst (v := 0) hx hb dX2_startAnew_16 (by decide) ?_
  obtain ⟨S4, eS4⟩ : ∃ z : sS, z = s_put S3 0 3 0 := ⟨_, rfl⟩
  refine va_put (D := (dC, dI)) (ci := 2) (v := .int 0) (ty := .int) (C := RX2) (T := TX2) (N := 18) hx hb hts hinX2 tyX2 tyX2_ok nmX2 hown hK hP hD hS 0 rfl rfl 3 (by decide) hf65 (fun _ h9 => h9) rfl (by decide +kernel) rfl rfl (Nat.le_of_ble_eq_true rfl) dX2_startAnew_17 (fun H locs hP hD hS => ?_)
  have hP : va_P (dC, dI) vwCl (sW cI a S4) H := by rw [eS4]; exact hP
  have hD : va_D A (sW cI a S4) := by rw [eS4]; exact hD
  refine lv_aload_n hx hb dX2_startAnew_20 rfl (lv_at hl 0 rfl) ?_
  refine lv_iconst (v := 0) hx hb dX2_startAnew_21 (by decide) ?_
  obtain ⟨S5, eS5⟩ : ∃ z : sS, z = s_put S4 0 4 0 := ⟨_, rfl⟩
  refine va_put (D := (dC, dI)) (ci := 2) (v := .int 0) (ty := .int) (C := RX2) (T := TX2) (N := 18) hx hb hts hinX2 tyX2 tyX2_ok nmX2 hown hK hP hD hS 0 rfl rfl 4 (by decide) hf68 (fun _ h9 => h9) rfl (by decide +kernel) rfl rfl (Nat.le_of_ble_eq_true rfl) dX2_startAnew_22 (fun H locs hP hD hS => ?_)
  have hP : va_P (dC, dI) vwCl (sW cI a S5) H := by rw [eS5]; exact hP
  have hD : va_D A (sW cI a S5) := by rw [eS5]; exact hD
  refine lv_aload_n hx hb dX2_startAnew_25 rfl (lv_at hl 0 rfl) ?_
  refine va_get (D := (dC, dI)) (ci := 2) (v := .ref (a 1)) (C := RX2) (T := TX2) (N := 18) hx hb hts hinX2 hown hK hP 0 rfl rfl 5 (by decide) hf9 (fun _ h9 => h9) rfl dX2_startAnew_26 ?_
  refine lv_iconst (v := 1) hx hb dX2_startAnew_29 (by decide) ?_
  obtain ⟨S6, eS6⟩ : ∃ z : sS, z = s_row S5 1 (fun _ => 1) := ⟨_, rfl⟩
  refine zV_S (pre := (sW cI a S5).take 1) (wc := [((a 1), .inl (cI, 8, .inl (S5 1)))]) (post := (sW cI a S5).drop 2) (w1 := [((a 1), .inl (cI, 8, .inl (fun _ => 1)))]) ⟨hx, hb, hml, hown, hts⟩ (c_fill l dC dI cI (a 1) 8 (S5 1) 1 (by decide)) (va_cwS 2 hts gX2_startAnew_J7_fill_53178 rfl rfl rfl (by decide +kernel) ⟨Nat.le_of_ble_eq_true rfl, Nat.le_of_ble_eq_true rfl⟩) rfl hK hN hP hD hS hA rfl hl.1 rfl (Nat.le_of_ble_eq_true rfl) dX2_startAnew_30 ⟨Nat.le_of_ble_eq_true rfl, Nat.le_of_ble_eq_true rfl⟩ (fun H locs hP hD hS => ?_)
  have hP : va_P (dC, dI) vwCl (sW cI a S6) H := by rw [eS6]; exact hP
  have hD : va_D A (sW cI a S6) := by rw [eS6]; exact hD
  refine lv_aload_n hx hb dX2_startAnew_33 rfl (lv_at hl 0 rfl) ?_
  refine va_get (D := (dC, dI)) (ci := 2) (v := .ref (a 2)) (C := RX2) (T := TX2) (N := 18) hx hb hts hinX2 hown hK hP 0 rfl rfl 6 (by decide) hf15 (fun _ h9 => h9) rfl dX2_startAnew_34 ?_
  refine lv_iconst (v := 0) hx hb dX2_startAnew_37 (by decide) ?_
  obtain ⟨S7, eS7⟩ : ∃ z : sS, z = s_row S6 2 (fun _ => 0) := ⟨_, rfl⟩
  refine zV_S (pre := (sW cI a S6).take 2) (wc := [((a 2), .inl (cI, 64, .inl (S6 2)))]) (post := (sW cI a S6).drop 3) (w1 := [((a 2), .inl (cI, 64, .inl (fun _ => 0)))]) ⟨hx, hb, hml, hown, hts⟩ (c_fill l dC dI cI (a 2) 64 (S6 2) 0 (by decide)) (va_cwS 2 hts gX2_startAnew_J7_fill_53178 rfl rfl rfl (by decide +kernel) ⟨Nat.le_of_ble_eq_true rfl, Nat.le_of_ble_eq_true rfl⟩) rfl hK hN hP hD hS hA rfl hl.1 rfl (Nat.le_of_ble_eq_true rfl) dX2_startAnew_38 ⟨Nat.le_of_ble_eq_true rfl, Nat.le_of_ble_eq_true rfl⟩ (fun H locs hP hD hS => ?_)
  have hP : va_P (dC, dI) vwCl (sW cI a S7) H := by rw [eS7]; exact hP
  have hD : va_D A (sW cI a S7) := by rw [eS7]; exact hD
  refine lv_aload_n hx hb dX2_startAnew_41 rfl (lv_at hl 0 rfl) ?_
  refine va_get (D := (dC, dI)) (ci := 2) (v := .ref (a 3)) (C := RX2) (T := TX2) (N := 18) hx hb hts hinX2 hown hK hP 0 rfl rfl 7 (by decide) hf18 (fun _ h9 => h9) rfl dX2_startAnew_42 ?_
  refine lv_bipush (v := 60) hx hb dX2_startAnew_45 (by decide) ?_
  obtain ⟨S8, eS8⟩ : ∃ z : sS, z = s_row S7 3 (fun _ => 60) := ⟨_, rfl⟩
  refine zV_S (pre := (sW cI a S7).take 3) (wc := [((a 3), .inl (cI, 64, .inl (S7 3)))]) (post := (sW cI a S7).drop 4) (w1 := [((a 3), .inl (cI, 64, .inl (fun _ => 60)))]) ⟨hx, hb, hml, hown, hts⟩ (c_fill l dC dI cI (a 3) 64 (S7 3) 60 (by decide)) (va_cwS 2 hts gX2_startAnew_J7_fill_53178 rfl rfl rfl (by decide +kernel) ⟨Nat.le_of_ble_eq_true rfl, Nat.le_of_ble_eq_true rfl⟩) rfl hK hN hP hD hS hA rfl hl.1 rfl (Nat.le_of_ble_eq_true rfl) dX2_startAnew_47 ⟨Nat.le_of_ble_eq_true rfl, Nat.le_of_ble_eq_true rfl⟩ (fun H locs hP hD hS => ?_)
  have hP : va_P (dC, dI) vwCl (sW cI a S8) H := by rw [eS8]; exact hP
  have hD : va_D A (sW cI a S8) := by rw [eS8]; exact hD
  refine lv_aload_n hx hb dX2_startAnew_50 rfl (lv_at hl 0 rfl) ?_
  refine va_get (D := (dC, dI)) (ci := 2) (v := .ref (a 4)) (C := RX2) (T := TX2) (N := 18) hx hb hts hinX2 hown hK hP 0 rfl rfl 8 (by decide) hf21 (fun _ h9 => h9) rfl dX2_startAnew_51 ?_
  refine lv_iconst (v := 2) hx hb dX2_startAnew_54 (by decide) ?_
  obtain ⟨S9, eS9⟩ : ∃ z : sS, z = s_row S8 4 (fun _ => 2) := ⟨_, rfl⟩
  refine zV_S (pre := (sW cI a S8).take 4) (wc := [((a 4), .inl (cI, 64, .inl (S8 4)))]) (post := (sW cI a S8).drop 5) (w1 := [((a 4), .inl (cI, 64, .inl (fun _ => 2)))]) ⟨hx, hb, hml, hown, hts⟩ (c_fill l dC dI cI (a 4) 64 (S8 4) 2 (by decide)) (va_cwS 2 hts gX2_startAnew_J7_fill_53178 rfl rfl rfl (by decide +kernel) ⟨Nat.le_of_ble_eq_true rfl, Nat.le_of_ble_eq_true rfl⟩) rfl hK hN hP hD hS hA rfl hl.1 rfl (Nat.le_of_ble_eq_true rfl) dX2_startAnew_55 ⟨Nat.le_of_ble_eq_true rfl, Nat.le_of_ble_eq_true rfl⟩ (fun H locs hP hD hS => ?_)
  have hP : va_P (dC, dI) vwCl (sW cI a S9) H := by rw [eS9]; exact hP
  have hD : va_D A (sW cI a S9) := by rw [eS9]; exact hD
  refine lv_aload_n hx hb dX2_startAnew_58 rfl (lv_at hl 0 rfl) ?_
  refine va_get (D := (dC, dI)) (ci := 2) (v := .ref (a 5)) (C := RX2) (T := TX2) (N := 18) hx hb hts hinX2 hown hK hP 0 rfl rfl 9 (by decide) hf24 (fun _ h9 => h9) rfl dX2_startAnew_59 ?_
  refine lv_bipush (v := 30) hx hb dX2_startAnew_62 (by decide) ?_
  obtain ⟨S10, eS10⟩ : ∃ z : sS, z = s_row S9 5 (fun _ => 30) := ⟨_, rfl⟩
  refine zV_S (pre := (sW cI a S9).take 5) (wc := [((a 5), .inl (cI, 64, .inl (S9 5)))]) (post := (sW cI a S9).drop 6) (w1 := [((a 5), .inl (cI, 64, .inl (fun _ => 30)))]) ⟨hx, hb, hml, hown, hts⟩ (c_fill l dC dI cI (a 5) 64 (S9 5) 30 (by decide)) (va_cwS 2 hts gX2_startAnew_J7_fill_53178 rfl rfl rfl (by decide +kernel) ⟨Nat.le_of_ble_eq_true rfl, Nat.le_of_ble_eq_true rfl⟩) rfl hK hN hP hD hS hA rfl hl.1 rfl (Nat.le_of_ble_eq_true rfl) dX2_startAnew_64 ⟨Nat.le_of_ble_eq_true rfl, Nat.le_of_ble_eq_true rfl⟩ (fun H locs hP hD hS => ?_)
  have hP : va_P (dC, dI) vwCl (sW cI a S10) H := by rw [eS10]; exact hP
  have hD : va_D A (sW cI a S10) := by rw [eS10]; exact hD
  refine lv_aload_n hx hb dX2_startAnew_67 rfl (lv_at hl 0 rfl) ?_
  refine va_get (D := (dC, dI)) (ci := 2) (v := .ref (a 6)) (C := RX2) (T := TX2) (N := 18) hx hb hts hinX2 hown hK hP 0 rfl rfl 10 (by decide) hf27 (fun _ h9 => h9) rfl dX2_startAnew_68 ?_
  refine lv_iconst (v := 0) hx hb dX2_startAnew_71 (by decide) ?_
  obtain ⟨S11, eS11⟩ : ∃ z : sS, z = s_row S10 6 (fun _ => 0) := ⟨_, rfl⟩
  refine zV_S (pre := (sW cI a S10).take 6) (wc := [((a 6), .inl (cI, 64, .inl (S10 6)))]) (post := (sW cI a S10).drop 7) (w1 := [((a 6), .inl (cI, 64, .inl (fun _ => 0)))]) ⟨hx, hb, hml, hown, hts⟩ (c_fill l dC dI cI (a 6) 64 (S10 6) 0 (by decide)) (va_cwS 2 hts gX2_startAnew_J7_fill_53178 rfl rfl rfl (by decide +kernel) ⟨Nat.le_of_ble_eq_true rfl, Nat.le_of_ble_eq_true rfl⟩) rfl hK hN hP hD hS hA rfl hl.1 rfl (Nat.le_of_ble_eq_true rfl) dX2_startAnew_72 ⟨Nat.le_of_ble_eq_true rfl, Nat.le_of_ble_eq_true rfl⟩ (fun H locs hP hD hS => ?_)
  have hP : va_P (dC, dI) vwCl (sW cI a S11) H := by rw [eS11]; exact hP
  have hD : va_D A (sW cI a S11) := by rw [eS11]; exact hD
  refine lv_aload_n hx hb dX2_startAnew_75 rfl (lv_at hl 0 rfl) ?_
  refine va_get (D := (dC, dI)) (ci := 2) (v := .ref (a 12)) (C := RX2) (T := TX2) (N := 18) hx hb hts hinX2 hown hK hP 0 rfl rfl 16 (by decide) hf45 (fun _ h9 => h9) rfl dX2_startAnew_76 ?_
  refine lv_iconst (v := 0) hx hb dX2_startAnew_79 (by decide) ?_
  obtain ⟨S12, eS12⟩ : ∃ z : sS, z = s_row S11 12 (fun _ => 0) := ⟨_, rfl⟩
  refine zV_S (pre := (sW cI a S11).take 12) (wc := [((a 12), .inl (cI, 64, .inl (S11 12)))]) (post := (sW cI a S11).drop 13) (w1 := [((a 12), .inl (cI, 64, .inl (fun _ => 0)))]) ⟨hx, hb, hml, hown, hts⟩ (c_fill l dC dI cI (a 12) 64 (S11 12) 0 (by decide)) (va_cwS 2 hts gX2_startAnew_J7_fill_53178 rfl rfl rfl (by decide +kernel) ⟨Nat.le_of_ble_eq_true rfl, Nat.le_of_ble_eq_true rfl⟩) rfl hK hN hP hD hS hA rfl hl.1 rfl (Nat.le_of_ble_eq_true rfl) dX2_startAnew_80 ⟨Nat.le_of_ble_eq_true rfl, Nat.le_of_ble_eq_true rfl⟩ (fun H locs hP hD hS => ?_)
  have hP : va_P (dC, dI) vwCl (sW cI a S12) H := by rw [eS12]; exact hP
  have hD : va_D A (sW cI a S12) := by rw [eS12]; exact hD
  refine lv_aload_n hx hb dX2_startAnew_83 rfl (lv_at hl 0 rfl) ?_
  refine va_get (D := (dC, dI)) (ci := 2) (v := .ref (a 13)) (C := RX2) (T := TX2) (N := 18) hx hb hts hinX2 hown hK hP 0 rfl rfl 17 (by decide) hf48 (fun _ h9 => h9) rfl dX2_startAnew_84 ?_
  refine lv_iconst (v := 0) hx hb dX2_startAnew_87 (by decide) ?_
  obtain ⟨S13, eS13⟩ : ∃ z : sS, z = s_row S12 13 (fun _ => 0) := ⟨_, rfl⟩
  refine zV_S (pre := (sW cI a S12).take 13) (wc := [((a 13), .inl (cI, 64, .inl (S12 13)))]) (post := (sW cI a S12).drop 14) (w1 := [((a 13), .inl (cI, 64, .inl (fun _ => 0)))]) ⟨hx, hb, hml, hown, hts⟩ (c_fill l dC dI cI (a 13) 64 (S12 13) 0 (by decide)) (va_cwS 2 hts gX2_startAnew_J7_fill_53178 rfl rfl rfl (by decide +kernel) ⟨Nat.le_of_ble_eq_true rfl, Nat.le_of_ble_eq_true rfl⟩) rfl hK hN hP hD hS hA rfl hl.1 rfl (Nat.le_of_ble_eq_true rfl) dX2_startAnew_88 ⟨Nat.le_of_ble_eq_true rfl, Nat.le_of_ble_eq_true rfl⟩ (fun H locs hP hD hS => ?_)
  have hP : va_P (dC, dI) vwCl (sW cI a S13) H := by rw [eS13]; exact hP
  have hD : va_D A (sW cI a S13) := by rw [eS13]; exact hD
  refine lv_iconst (v := 0) hx hb dX2_startAnew_91 (by decide) ?_
  refine lv_istore_n (lv' := [(3, .int 0), (0, .ref (a 0)), (1, .int u), (2, .int v)]) hx hb dX2_startAnew_92 rfl hl (by decide) rfl (fun ls hl => ?_)
  have lp93 : ∀ (n93 i93 : Nat) (T93_0 : sS) (H : Heap) (locs : List Loc) (ls : Array Slot), i93 + n93 = 64 → T93_0 = itr (fun i T => sl_clear T i) i93 S13 → va_P (dC, dI) vwCl (sW cI a T93_0) H → va_D A (sW cI a T93_0) → va_S A s.heap H locs → lv_has ls 4 [(0, .ref (a 0)), (1, .int u), (2, .int v), (3, .int (nI i93))] → W p l e ({ frames := 1, cells := 0, slots := 0, locals := 23 } : Room) s m [.ref (a 0), .int u, .int v].toArray below meth c H locs 0 0 (zVq (dC, dI) A (sW cI a (sl_new u v)) below [.ref (a 0), .int u, .int v].toArray s 0 0) (F0 m 93 ls []) := by
    intro n93
    induction n93 with
    | zero =>
      intro i93 T93_0 H locs ls hi93 eT93_0 hP hD hS hl
      have hi93 : i93 = 64 := by omega
      rw [hi93] at eT93_0
      refine lv_iload_n hx hb dX2_startAnew_93 rfl (lv_at hl 3 rfl) ?_
      refine lv_bipush (v := 64) hx hb dX2_startAnew_94 (by decide) ?_
      refine lv_icmp_ge (tgt := 110) hx hb dX2_startAnew_96 (by decide) (fun c_14 => ?_) (fun c_14 => ?_)
      · have hE : sEq T93_0 (sl_new u v) := by
          rw [eT93_0]
          refine new_eq ?_ ?_ ?_ ?_ ?_ ?_ ?_ ?_ ?_ ?_ ?_ ?_ ?_
          · rw [eS13, eS12, eS11, eS10, eS9, eS8, eS7, eS6, eS5, eS4, eS3, eS2, eS1]; rfl
          · rw [eS13, eS12, eS11, eS10, eS9, eS8, eS7, eS6, eS5, eS4, eS3, eS2, eS1]; rfl
          · rw [eS13, eS12, eS11, eS10, eS9, eS8, eS7, eS6, eS5, eS4, eS3, eS2, eS1]; rfl
          · rw [eS13, eS12, eS11, eS10, eS9, eS8, eS7, eS6, eS5, eS4, eS3, eS2, eS1]; rfl
          · rw [eS13, eS12, eS11, eS10, eS9, eS8, eS7, eS6, eS5, eS4, eS3, eS2, eS1]; rfl
          · rw [eS13, eS12, eS11, eS10, eS9, eS8, eS7, eS6, eS5, eS4, eS3, eS2, eS1]; rfl
          · rw [eS13, eS12, eS11, eS10, eS9, eS8, eS7, eS6, eS5, eS4, eS3, eS2, eS1]; rfl
          · rw [eS13, eS12, eS11, eS10, eS9, eS8, eS7, eS6, eS5, eS4, eS3, eS2, eS1]; rfl
          · rw [eS13, eS12, eS11, eS10, eS9, eS8, eS7, eS6, eS5, eS4, eS3, eS2, eS1]; rfl
          · rw [eS13, eS12, eS11, eS10, eS9, eS8, eS7, eS6, eS5, eS4, eS3, eS2, eS1]; rfl
          · rw [eS13, eS12, eS11, eS10, eS9, eS8, eS7, eS6, eS5, eS4, eS3, eS2, eS1]; rfl
          · rw [eS13, eS12, eS11, eS10, eS9, eS8, eS7, eS6, eS5, eS4, eS3, eS2, eS1]; rfl
          · rw [eS13, eS12, eS11, eS10, eS9, eS8, eS7, eS6, eS5, eS4, eS3, eS2, eS1]; rfl
        have hP : va_P (dC, dI) vwCl (sW cI a (sl_new u v)) H := sW_eq hE hP
        have hD : va_D A (sW cI a (sl_new u v)) := z_Dmap hD (sW_map cI a _ _)
        exact zV_ret hx hb hr hlocks hP hD hS dX2_startAnew_110
      · exact absurd (show nI (64) ≤ nI i93 from nI_le (by omega) (by omega)) c_14
    | succ n93 ih93 =>
      intro i93 T93_0 H locs ls hi93 eT93_0 hP hD hS hl
      refine lv_iload_n hx hb dX2_startAnew_93 rfl (lv_at hl 3 rfl) ?_
      refine lv_bipush (v := 64) hx hb dX2_startAnew_94 (by decide) ?_
      refine lv_icmp_ge (tgt := 110) hx hb dX2_startAnew_96 (by decide) (fun c_15 => ?_) (fun c_15 => ?_)
      · exact absurd c_15 (show ¬ nI (64) ≤ nI i93 from nI_ge (by omega) (by omega))
      · refine lv_aload_n hx hb dX2_startAnew_99 rfl (lv_at hl 0 rfl) ?_
        refine lv_iload_n hx hb dX2_startAnew_100 rfl (lv_at hl 3 rfl) ?_
        obtain ⟨S16, eS16⟩ : ∃ z : sS, z = sl_clear T93_0 (nI i93) := ⟨_, rfl⟩
        refine zV_V (pre := ([] : va_W)) (wc := sW cI a T93_0) (post := ([] : va_W)) (w1 := sW cI a S16) ⟨hx, hb, hml, hown, hts⟩ (by rw [eS16]; exact c_X2_clearCrop l dC dI cI a T93_0 (nI i93) (vp_in_nI (by omega) (by decide))) (cwV 1 hts gX2_startAnew_X2_clearCrop rfl rfl rfl (by decide +kernel) ⟨Nat.le_of_ble_eq_true rfl, Nat.le_of_ble_eq_true rfl⟩) (by simp only [List.append_assoc, List.append_nil, List.nil_append]) hK hN (ci := 2) (q0 := 0) rfl rfl rfl hP hD hS hA rfl hl.1 rfl (Nat.le_of_ble_eq_true rfl) dX2_startAnew_101 ⟨Nat.le_of_ble_eq_true rfl, Nat.le_of_ble_eq_true rfl⟩ (fun H locs hP hD hS => ?_)
        have hP : va_P (dC, dI) vwCl (sW cI a S16) H := by simpa only [List.append_assoc, List.append_nil, List.nil_append] using hP
        have hD : va_D A (sW cI a S16) := by simpa only [List.append_assoc, List.append_nil, List.nil_append] using hD
        refine lv_iinc (v := nI (i93 + 1)) (lv' := [(3, .int (nI (i93 + 1))), (0, .ref (a 0)), (1, .int u), (2, .int v)]) hx hb dX2_startAnew_104 hl (k := 3) rfl (show nI i93 + Int32.ofInt 1 = nI (i93 + 1) from nI_1 i93) (by decide) rfl (fun ls hl => ?_)
        refine lv_goto (tgt := 93) hx hb dX2_startAnew_107 (by decide) ?_
        exact ih93 (i93 + 1) S16 _ _ ls (by omega) (by (try rw [eS16]); (try rw [eT93_0]); rfl) hP hD hS (lv_sub hl [1, 2, 3, 0] rfl)
  exact lp93 (64) 0 S13 _ _ ls (by omega) rfl hP hD hS (lv_sub hl [1, 2, 3, 0] rfl)

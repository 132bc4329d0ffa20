set_option maxHeartbeats 4000000 in
set_option maxRecDepth 100000 in
theorem c_X4_sum (l : Launch) (dC : Nat → ClassId) (dI : Nat → Nat → Nat) (cI cR cF : ClassId) (q q1 q2 q3 h w : Nat) (mv : Int32) (sh : Nat → Int32) (cf : Nat → Option Nat) (r ad : Nat → Nat) (G : Nat → Nat → Int32) (x : Nat) (hx12 : x < 12) (hh5 : h ≤ 5) (hw5 : w ≤ 5) : zIG l yX4_sum wsX4_sum { frames := 0, cells := 0, slots := 0, locals := 0 } (dC, dI) cI cR cF [.ref q, .int (nI x)] (([(q, .inr (4, [.int (nI h), .int (nI w), .int 0, .ref q3, .ref q1, .ref q2, .int 0, .int 0, .int 0, .int mv])), (q2, za_q cR 30 (cf)), (q3, za_q cF h (fun j => if j < h then some (r j) else none)), (q1, .inl (cI, w, .inl (sh)))] : va_W) ++ rg h r (smR cR w ad h 0) ++ rg (h * w) ad (smF cI G)) (([(q, .inr (4, [.int (nI h), .int (nI w), .int 0, .ref q3, .ref q1, .ref q2, .int 0, .int 0, .int 0, .int mv])), (q2, za_q cR 30 (cf)), (q3, za_q cF h (fun j => if j < h then some (r j) else none)), (q1, .inl (cI, w, .inl (sh)))] : va_W) ++ rg h r (smR cR w ad h 0) ++ rg (h * w) ad (smF cI G)) (smt w G x h) := by
  refine zIG_of (cc := cX4_sum) (maxL := 11) (ret := some .int) (by decide) rfl (Nat.le_of_ble_eq_true rfl) ?_
  intro p e s m below meth c A ls C0 hK3 hG hl
  obtain ⟨hx, hb, hr, hml, hown, hts, hlocks, hK, hN, hA, hP, hD, hS⟩ := C0
  have hown : s.vm.findClass RX4 = some m.cls := hown
  have hl : lv_has ls 11 [(0, .ref q), (1, .int (nI x))] := hl
  have hf24 := hts (.fieldLink RX4 24 "PaddyTerracesLaw$Sim" "fields" "[[[I") (by decide +kernel)
  have hinX4 : ∀ w ∈ wsX40, w ∈ wsX4_sum := by decide +kernel
  refine lv_iconst (v := 0) hx hb dX4_sum_0 (by decide) ?_
  refine lv_istore_n (lv' := [(2, .int 0), (0, .ref q), (1, .int (nI x))]) hx hb dX4_sum_1 rfl hl (by decide) rfl (fun ls hl => ?_)
  refine lv_aload_n hx hb dX4_sum_2 rfl (lv_at hl 1 rfl) ?_
  refine va_get (D := (dC, dI)) (ci := 4) (v := .ref q3) (C := RX4) (T := TX4) (N := 10) hx hb hts hinX4 hown hK hP 0 rfl rfl 3 (by decide) hf24 (fun _ h9 => h9) rfl dX4_sum_3 ?_
  refine lv_astore_n (lv' := [(3, .ref q3), (2, .int 0), (0, .ref q), (1, .int (nI x))]) hx hb dX4_sum_6 rfl hl (by decide) rfl (fun ls hl => ?_)
  refine lv_aload_n hx hb dX4_sum_7 rfl (lv_at hl 0 rfl) ?_
  refine va_alen hx hb hK3 hP 2 2 (v := nI h) rfl rfl rfl dX4_sum_8 ?_
  refine lv_istore (lv' := [(4, .int (nI h)), (3, .ref q3), (2, .int 0), (0, .ref q), (1, .int (nI x))]) hx hb dX4_sum_9 hl (by decide) rfl (fun ls hl => ?_)
  refine lv_iconst (v := 0) hx hb dX4_sum_11 (by decide) ?_
  refine lv_istore (lv' := [(5, .int 0), (4, .int (nI h)), (3, .ref q3), (2, .int 0), (0, .ref q), (1, .int (nI x))]) hx hb dX4_sum_12 hl (by decide) rfl (fun ls hl => ?_)
  have lp14 : ∀ (n14 i14 : Nat) (u2 : Int32) (H : Heap) (locs : List Loc) (ls : Array Slot), i14 + n14 = h → (u2 = smt w G x i14) → va_P (dC, dI) vwCl (([(q, .inr (4, [.int (nI h), .int (nI w), .int 0, .ref q3, .ref q1, .ref q2, .int 0, .int 0, .int 0, .int mv])), (q2, za_q cR 30 (cf)), (q3, za_q cF h (fun j => if j < h then some (r j) else none)), (q1, .inl (cI, w, .inl (sh)))] : va_W) ++ rg h r (smR cR w ad h 0) ++ rg (h * w) ad (smF cI G)) H → va_D A (([(q, .inr (4, [.int (nI h), .int (nI w), .int 0, .ref q3, .ref q1, .ref q2, .int 0, .int 0, .int 0, .int mv])), (q2, za_q cR 30 (cf)), (q3, za_q cF h (fun j => if j < h then some (r j) else none)), (q1, .inl (cI, w, .inl (sh)))] : va_W) ++ rg h r (smR cR w ad h 0) ++ rg (h * w) ad (smF cI G)) → va_S A s.heap H locs → lv_has ls 11 [(0, .ref q), (1, .int (nI x)), (2, .int u2), (3, .ref q3), (4, .int (nI h)), (5, .int (nI i14))] → W p l e ({ frames := 0, cells := 0, slots := 0, locals := 0 } : Room) s m [.ref q, .int (nI x)].toArray below meth c H locs (0) (0) (zIq (dC, dI) A (([(q, .inr (4, [.int (nI h), .int (nI w), .int 0, .ref q3, .ref q1, .ref q2, .int 0, .int 0, .int 0, .int mv])), (q2, za_q cR 30 (cf)), (q3, za_q cF h (fun j => if j < h then some (r j) else none)), (q1, .inl (cI, w, .inl (sh)))] : va_W) ++ rg h r (smR cR w ad h 0) ++ rg (h * w) ad (smF cI G)) (smt w G x h) below [.ref q, .int (nI x)].toArray s 0 0) (F0 m 14 ls []) := by
    intro n14
    induction n14 with
    | zero =>
      intro i14 u2 H locs ls hi14 hu hP hD hS hl
      obtain rfl : h = i14 := by omega
      refine lv_iload hx hb dX4_sum_14 (lv_at hl 5 rfl) ?_
      refine lv_iload hx hb dX4_sum_16 (lv_at hl 4 rfl) ?_
      refine lv_icmp_ge (tgt := 72) hx hb dX4_sum_18 (by decide) (fun c_1 => ?_) (fun c_1 => ?_)
      · refine lv_iload_n hx hb dX4_sum_72 rfl (lv_at hl 2 rfl) ?_
        exact zI_ret hx hb hr hlocks hP hD hS rfl hu dX4_sum_73
      · exact absurd (show nI (h) ≤ nI h from nI_le (by omega) (by omega)) c_1
    | succ n14 ih14 =>
      intro i14 u2 H locs ls hi14 hu hP hD hS hl
      refine lv_iload hx hb dX4_sum_14 (lv_at hl 5 rfl) ?_
      refine lv_iload hx hb dX4_sum_16 (lv_at hl 4 rfl) ?_
      refine lv_icmp_ge (tgt := 72) hx hb dX4_sum_18 (by decide) (fun c_2 => ?_) (fun c_2 => ?_)
      · exact absurd c_2 (show ¬ nI (h) ≤ nI i14 from nI_ge (by omega) (by omega))
      · refine lv_aload_n hx hb dX4_sum_21 rfl (lv_at hl 3 rfl) ?_
        refine lv_iload hx hb dX4_sum_22 (lv_at hl 5 rfl) ?_
        refine za_ald hx hb hK3 hP 2 2 (cA := cF) (n := h) (v := r i14) (f := fun j => if j < h then some (r j) else none) rfl rfl (vp_in_nI (by omega) (by omega)) (by rw [nI_clamp (by omega)]; exact if_pos (by omega)) dX4_sum_24 ?_
        have hat := rg_L (Y := rg (h * w) ad (smF cI G)) (rg_get (X := ([(q, .inr (4, [.int (nI h), .int (nI w), .int 0, .ref q3, .ref q1, .ref q2, .int 0, .int 0, .int 0, .int mv])), (q2, za_q cR 30 (cf)), (q3, za_q cF h (fun j => if j < h then some (r j) else none)), (q1, .inl (cI, w, .inl (sh)))] : va_W)) r (smR cR w ad h 0) (show i14 < h by omega))
        refine lv_astore (lv' := [(6, .ref (r i14)), (0, .ref q), (1, .int (nI x)), (2, .int u2), (3, .ref q3), (4, .int (nI h)), (5, .int (nI i14))]) hx hb dX4_sum_25 hl (by decide) rfl (fun ls hl => ?_)
        refine lv_aload hx hb dX4_sum_27 (lv_at hl 0 rfl) ?_
        refine lv_astore (lv' := [(7, .ref (r i14)), (6, .ref (r i14)), (0, .ref q), (1, .int (nI x)), (2, .int u2), (3, .ref q3), (4, .int (nI h)), (5, .int (nI i14))]) hx hb dX4_sum_29 hl (by decide) rfl (fun ls hl => ?_)
        refine lv_aload hx hb dX4_sum_31 (lv_at hl 0 rfl) ?_
        refine va_alen hx hb hK3 hP (List.length (([(q, .inr (4, [.int (nI h), .int (nI w), .int 0, .ref q3, .ref q1, .ref q2, .int 0, .int 0, .int 0, .int mv])), (q2, za_q cR 30 (cf)), (q3, za_q cF h (fun j => if j < h then some (r j) else none)), (q1, .inl (cI, w, .inl (sh)))] : va_W)) + i14) 1 (x := (w, .inr (.inr (.inr (.inr (fun j => if (i14 < h ∧ j < w) ∨ (i14 = h ∧ j < 0) then some (ad (i14 * w + j)) else none)))))) (v := nI w) hat rfl rfl dX4_sum_33 ?_
        refine lv_istore (lv' := [(8, .int (nI w)), (7, .ref (r i14)), (6, .ref (r i14)), (0, .ref q), (1, .int (nI x)), (2, .int u2), (3, .ref q3), (4, .int (nI h)), (5, .int (nI i14))]) hx hb dX4_sum_34 hl (by decide) rfl (fun ls hl => ?_)
        refine lv_iconst (v := 0) hx hb dX4_sum_36 (by decide) ?_
        refine lv_istore (lv' := [(9, .int 0), (8, .int (nI w)), (7, .ref (r i14)), (6, .ref (r i14)), (0, .ref q), (1, .int (nI x)), (2, .int u2), (3, .ref q3), (4, .int (nI h)), (5, .int (nI i14))]) hx hb dX4_sum_37 hl (by decide) rfl (fun ls hl => ?_)
        have lp39 : ∀ (n39 i39 : Nat) (v2 : Int32) (H : Heap) (locs : List Loc) (ls : Array Slot), i39 + n39 = w → (v2 = smr w G x i14 (smt w G x i14) i39) → va_P (dC, dI) vwCl (([(q, .inr (4, [.int (nI h), .int (nI w), .int 0, .ref q3, .ref q1, .ref q2, .int 0, .int 0, .int 0, .int mv])), (q2, za_q cR 30 (cf)), (q3, za_q cF h (fun j => if j < h then some (r j) else none)), (q1, .inl (cI, w, .inl (sh)))] : va_W) ++ rg h r (smR cR w ad h 0) ++ rg (h * w) ad (smF cI G)) H → va_D A (([(q, .inr (4, [.int (nI h), .int (nI w), .int 0, .ref q3, .ref q1, .ref q2, .int 0, .int 0, .int 0, .int mv])), (q2, za_q cR 30 (cf)), (q3, za_q cF h (fun j => if j < h then some (r j) else none)), (q1, .inl (cI, w, .inl (sh)))] : va_W) ++ rg h r (smR cR w ad h 0) ++ rg (h * w) ad (smF cI G)) → va_S A s.heap H locs → lv_has ls 11 [(0, .ref q), (1, .int (nI x)), (2, .int v2), (3, .ref q3), (4, .int (nI h)), (5, .int (nI i14)), (6, .ref (r i14)), (7, .ref (r i14)), (8, .int (nI w)), (9, .int (nI i39))] → W p l e ({ frames := 0, cells := 0, slots := 0, locals := 0 } : Room) s m [.ref q, .int (nI x)].toArray below meth c H locs (0) (0) (zIq (dC, dI) A (([(q, .inr (4, [.int (nI h), .int (nI w), .int 0, .ref q3, .ref q1, .ref q2, .int 0, .int 0, .int 0, .int mv])), (q2, za_q cR 30 (cf)), (q3, za_q cF h (fun j => if j < h then some (r j) else none)), (q1, .inl (cI, w, .inl (sh)))] : va_W) ++ rg h r (smR cR w ad h 0) ++ rg (h * w) ad (smF cI G)) (smt w G x h) below [.ref q, .int (nI x)].toArray s 0 0) (F0 m 39 ls []) := by
          intro n39
          induction n39 with
          | zero =>
            intro i39 v2 H locs ls hi39 hv hP hD hS hl
            obtain rfl : w = i39 := by omega
            refine lv_iload hx hb dX4_sum_39 (lv_at hl 9 rfl) ?_
            refine lv_iload hx hb dX4_sum_41 (lv_at hl 8 rfl) ?_
            refine lv_icmp_ge (tgt := 66) hx hb dX4_sum_43 (by decide) (fun c_3 => ?_) (fun c_3 => ?_)
            · refine lv_iinc (v := nI (i14 + 1)) (lv' := [(5, .int (nI (i14 + 1))), (0, .ref q), (1, .int (nI x)), (2, .int v2), (3, .ref q3), (4, .int (nI h)), (6, .ref (r i14)), (7, .ref (r i14)), (8, .int (nI w)), (9, .int (nI w))]) hx hb dX4_sum_66 hl (k := 5) rfl (show nI i14 + Int32.ofInt 1 = nI (i14 + 1) from nI_1 i14) (by decide) rfl (fun ls hl => ?_)
              refine lv_goto (tgt := 14) hx hb dX4_sum_69 (by decide) ?_
              refine W.widen (k := 0) (n := 0) (by omega) (by omega) ?_
              exact ih14 (i14 + 1) _ _ _ ls (by omega) hv hP hD hS (lv_sub hl [1, 2, 3, 4, 5, 0] rfl)
            · exact absurd (show nI (w) ≤ nI w from nI_le (by omega) (by omega)) c_3
          | succ n39 ih39 =>
            intro i39 v2 H locs ls hi39 hv hP hD hS hl
            refine lv_iload hx hb dX4_sum_39 (lv_at hl 9 rfl) ?_
            refine lv_iload hx hb dX4_sum_41 (lv_at hl 8 rfl) ?_
            refine lv_icmp_ge (tgt := 66) hx hb dX4_sum_43 (by decide) (fun c_4 => ?_) (fun c_4 => ?_)
            · exact absurd c_4 (show ¬ nI (w) ≤ nI i39 from nI_ge (by omega) (by omega))
            · refine lv_aload hx hb dX4_sum_46 (lv_at hl 7 rfl) ?_
              refine lv_iload hx hb dX4_sum_48 (lv_at hl 9 rfl) ?_
              refine za_ald hx hb hK3 hP (List.length (([(q, .inr (4, [.int (nI h), .int (nI w), .int 0, .ref q3, .ref q1, .ref q2, .int 0, .int 0, .int 0, .int mv])), (q2, za_q cR 30 (cf)), (q3, za_q cF h (fun j => if j < h then some (r j) else none)), (q1, .inl (cI, w, .inl (sh)))] : va_W)) + i14) 1 (cA := cR) (n := w) (v := ad (i14 * w + i39)) (f := fun j => if (i14 < h ∧ j < w) ∨ (i14 = h ∧ j < 0) then some (ad (i14 * w + j)) else none) hat rfl (vp_in_nI (by omega) (by omega)) (by rw [nI_clamp (by omega)]; exact if_pos (Or.inl ⟨by omega, by omega⟩)) dX4_sum_50 ?_
              refine lv_astore (lv' := [(10, .ref (ad (i14 * w + i39))), (0, .ref q), (1, .int (nI x)), (2, .int v2), (3, .ref q3), (4, .int (nI h)), (5, .int (nI i14)), (6, .ref (r i14)), (7, .ref (r i14)), (8, .int (nI w)), (9, .int (nI i39))]) hx hb dX4_sum_51 hl (by decide) rfl (fun ls hl => ?_)
              refine lv_iload_n hx hb dX4_sum_53 rfl (lv_at hl 3 rfl) ?_
              refine lv_aload hx hb dX4_sum_54 (lv_at hl 0 rfl) ?_
              refine lv_iload_n hx hb dX4_sum_56 rfl (lv_at hl 2 rfl) ?_
              have hfi := rg_get (X := ([(q, .inr (4, [.int (nI h), .int (nI w), .int 0, .ref q3, .ref q1, .ref q2, .int 0, .int 0, .int 0, .int mv])), (q2, za_q cR 30 (cf)), (q3, za_q cF h (fun j => if j < h then some (r j) else none)), (q1, .inl (cI, w, .inl (sh)))] : va_W) ++ rg h r (smR cR w ad h 0)) ad (smF cI G) (y_idx (h := h) (show i14 < h by omega) (show i39 < w by omega))
              refine va_ialdk x (cA := cI) (n := 12) (f := G (i14 * w + i39)) hx hb hK hP (List.length (([(q, .inr (4, [.int (nI h), .int (nI w), .int 0, .ref q3, .ref q1, .ref q2, .int 0, .int 0, .int 0, .int mv])), (q2, za_q cR 30 (cf)), (q3, za_q cF h (fun j => if j < h then some (r j) else none)), (q1, .inl (cI, w, .inl (sh)))] : va_W) ++ rg h r (smR cR w ad h 0)) + (i14 * w + i39)) 0 hfi rfl rfl hx12 (by decide) dX4_sum_57 ?_
              refine lv_iadd hx hb dX4_sum_58 ?_
              refine lv_istore_n (lv' := [(2, .int (v2 + (G (i14 * w + i39) x))), (10, .ref (ad (i14 * w + i39))), (0, .ref q), (1, .int (nI x)), (3, .ref q3), (4, .int (nI h)), (5, .int (nI i14)), (6, .ref (r i14)), (7, .ref (r i14)), (8, .int (nI w)), (9, .int (nI i39))]) hx hb dX4_sum_59 rfl hl (by decide) rfl (fun ls hl => ?_)
              refine lv_iinc (v := nI (i39 + 1)) (lv' := [(9, .int (nI (i39 + 1))), (2, .int (v2 + (G (i14 * w + i39) x))), (10, .ref (ad (i14 * w + i39))), (0, .ref q), (1, .int (nI x)), (3, .ref q3), (4, .int (nI h)), (5, .int (nI i14)), (6, .ref (r i14)), (7, .ref (r i14)), (8, .int (nI w))]) hx hb dX4_sum_60 hl (k := 10) rfl (show nI i39 + Int32.ofInt 1 = nI (i39 + 1) from nI_1 i39) (by decide) rfl (fun ls hl => ?_)
              refine lv_goto (tgt := 39) hx hb dX4_sum_63 (by decide) ?_
              refine W.widen (k := 0) (n := 0) (by omega) (by omega) ?_
              exact ih39 (i39 + 1) _ _ _ ls (by omega) (by rw [hv]; rfl) hP hD hS (lv_sub hl [3, 4, 1, 5, 6, 7, 8, 9, 10, 0] rfl)
        refine W.widen (k := 0) (n := 0) (by omega) (by omega) ?_
        exact lp39 (w) 0 _ _ _ ls (by omega) hu hP hD hS (lv_sub hl [4, 5, 6, 7, 8, 9, 3, 2, 1, 0] rfl)
  refine W.widen (k := 0) (n := 0) (by omega) (by omega) ?_
  exact lp14 (h) 0 _ _ _ ls (by omega) rfl hP hD hS (lv_sub hl [4, 5, 3, 2, 1, 0] rfl)

set_option maxHeartbeats 4000000 in
set_option maxRecDepth 100000 in
theorem c_X4_advise (l : Launch) (dC : Nat → ClassId) (dI : Nat → Nat → Nat) (cI : ClassId) (d : Nat → Nat) (h w : Nat) (O : sS) (i x : Int32) (hG0 : gem h w O) (y : Nat) (hd : O 1 2 = nI y) (hy : y ≤ 2000) (hbk : bkm h w (O 3)) : zI l yX4_advise wsX4_advise { frames := 6, cells := 0, slots := 0, locals := 139 } (dC, dI) cI [.ref (d 0), .int i, .int x] (mW cI d O) (mW cI d (madv_S h w (s_put O 0 0 0) i x)) (madv_V h w (s_put O 0 0 0) i x) := by
  refine zI_of (cc := cX4_advise) (maxL := 9) (ret := (some .int)) (by decide) rfl (Nat.le_of_ble_eq_true rfl) ?_
  intro p e s m below meth c A ls C0 hl
  obtain ⟨hx, hb, hr, hml, hown, hts, hlocks, hK, hN, hA, hP, hD, hS⟩ := C0
  have hown : s.vm.findClass RX4 = some m.cls := hown
  have hl : lv_has ls 9 [(0, .ref (d 0)), (1, .int i), (2, .int x)] := hl
  have hf9 := hts (.fieldLink RX4 9 "PaddyTerracesModel" "n" "[I") (by decide +kernel)
  have hf16 := hts (.fieldLink RX4 16 "PaddyTerracesModel" "fields" "[I") (by decide +kernel)
  have hf38 := hts (.fieldLink RX4 38 "PaddyTerracesModel" "thrown" "I") (by decide +kernel)
  have hinX4 : ∀ w ∈ wsX40, w ∈ wsX4_advise := by decide +kernel
  have hS0 := hS
  have hN64 := gem_hw hG0
  have hW9 := gem_w hG0
  obtain ⟨-, -, hh2, hh8, hw2, hw8⟩ := id hG0
  refine lv_aload_n hx hb dX4_advise_0 rfl (lv_at hl 0 rfl) ?_
  refine lv_iconst (v := 0) hx hb dX4_advise_1 (by decide) ?_
  refine va_put (D := (dC, dI)) (ci := 4) (v := .int 0) (ty := .int) (C := RX4) (T := TX4) (N := 7) hx hb hts hinX4 tyX4 tyX4_ok nmX4 hown hK hP hD hS 0 rfl rfl 0 (by decide) hf38 (fun _ h9 => h9) rfl (by decide +kernel) rfl rfl (Nat.le_of_ble_eq_true rfl) dX4_advise_2 (fun H locs hP hD hS => ?_)
  have hP : va_P (dC, dI) vwCl (mW cI d (s_put O 0 0 0)) H := hP
  have hD : va_D A (mW cI d (s_put O 0 0 0)) := hD
  have hGz : gem h w (s_put O 0 0 0) := gem_put hG0 (Or.inl (by decide)) _
  refine lv_iload_n hx hb dX4_advise_5 rfl (lv_at hl 1 rfl) ?_
  refine lv_iconst (v := 1) hx hb dX4_advise_6 (by decide) ?_
  refine lv_bipush (v := 10) hx hb dX4_advise_7 (by decide) ?_
  refine zI_S (pre := (mW cI d (s_put O 0 0 0))) (wc := ([] : va_W)) (post := ([] : va_W)) (w1 := ([] : va_W)) ⟨hx, hb, hml, hown, hts⟩ (c_X4_isIn l dC dI cI i 1 10) (va_cwS 3 hts gX4_advise_X4_isIn rfl rfl rfl (by decide +kernel) ⟨Nat.le_of_ble_eq_true rfl, Nat.le_of_ble_eq_true rfl⟩) (by simp only [List.append_assoc, List.append_nil, List.nil_append]) hK hN hP hD hS hA rfl hl.1 rfl (Nat.le_of_ble_eq_true rfl) dX4_advise_9 ⟨Nat.le_of_ble_eq_true rfl, Nat.le_of_ble_eq_true rfl⟩ (fun H locs hP hD hS => ?_)
  have hP : va_P (dC, dI) vwCl (mW cI d (s_put O 0 0 0)) H := by simpa only [List.append_assoc, List.append_nil, List.nil_append] using hP
  have hD : va_D A (mW cI d (s_put O 0 0 0)) := by simpa only [List.append_assoc, List.append_nil, List.nil_append] using hD
  refine lv_if_ne (tgt := 21) hx hb dX4_advise_12 (by decide) (fun c_1 => ?_) (fun c_1 => ?_)
  · refine lv_iload_n hx hb dX4_advise_21 rfl (lv_at hl 2 rfl) ?_
    refine lv_iconst (v := 0) hx hb dX4_advise_22 (by decide) ?_
    refine lv_iconst (v := 2) hx hb dX4_advise_23 (by decide) ?_
    refine zI_S (pre := (mW cI d (s_put O 0 0 0))) (wc := ([] : va_W)) (post := ([] : va_W)) (w1 := ([] : va_W)) ⟨hx, hb, hml, hown, hts⟩ (c_X4_isIn l dC dI cI x 0 2) (va_cwS 3 hts gX4_advise_X4_isIn rfl rfl rfl (by decide +kernel) ⟨Nat.le_of_ble_eq_true rfl, Nat.le_of_ble_eq_true rfl⟩) (by simp only [List.append_assoc, List.append_nil, List.nil_append]) hK hN hP hD hS hA rfl hl.1 rfl (Nat.le_of_ble_eq_true rfl) dX4_advise_24 ⟨Nat.le_of_ble_eq_true rfl, Nat.le_of_ble_eq_true rfl⟩ (fun H locs hP hD hS => ?_)
    have hP : va_P (dC, dI) vwCl (mW cI d (s_put O 0 0 0)) H := by simpa only [List.append_assoc, List.append_nil, List.nil_append] using hP
    have hD : va_D A (mW cI d (s_put O 0 0 0)) := by simpa only [List.append_assoc, List.append_nil, List.nil_append] using hD
    refine lv_if_ne (tgt := 36) hx hb dX4_advise_27 (by decide) (fun c_2 => ?_) (fun c_2 => ?_)
    · refine lv_aload_n hx hb dX4_advise_36 rfl (lv_at hl 0 rfl) ?_
      refine va_get (D := (dC, dI)) (ci := 4) (v := .ref (d 1)) (C := RX4) (T := TX4) (N := 7) hx hb hts hinX4 hown hK hP 0 rfl rfl 1 (by decide) hf9 (fun _ h9 => h9) rfl dX4_advise_37 ?_
      refine lv_iconst (v := 2) hx hb dX4_advise_40 (by decide) ?_
      refine va_ialdk 2 (cA := cI) (n := 7) (f := (s_put O 0 0 0) 1) hx hb hK hP 1 0 rfl rfl rfl (by decide) (by decide) dX4_advise_41 ?_
      refine lv_iload_n hx hb dX4_advise_42 rfl (lv_at hl 1 rfl) ?_
      refine lv_iadd hx hb dX4_advise_43 ?_
      refine lv_sipush (v := 2000) hx hb dX4_advise_44 (by decide) ?_
      refine lv_icmp_le (tgt := 56) hx hb dX4_advise_47 (by decide) (fun c_3 => ?_) (fun c_3 => ?_)
      · have hxn : i = nI i.toNatClampNeg := (isw_n c_1 (by decide)).1
        have hx9 : i.toNatClampNeg ≤ 10 := by have h9 : (i.toNatClampNeg : Int) ≤ 10 := (isw_n c_1 (by decide)).2.1; omega
        refine lv_aload_n hx hb dX4_advise_56 rfl (lv_at hl 0 rfl) ?_
        obtain ⟨S4, eS4⟩ : ∃ z : sS, z = mi_keep (s_put O 0 0 0) := ⟨_, rfl⟩
        refine zV_V (pre := ([] : va_W)) (wc := mW cI d (s_put O 0 0 0)) (post := ([] : va_W)) (w1 := mW cI d S4) ⟨hx, hb, hml, hown, hts⟩ (by rw [eS4]; exact c_X4_keep l dC dI cI d h w (s_put O 0 0 0) hGz) (cwV 0 hts gX4_advise_X4_keep rfl rfl rfl (by decide +kernel) ⟨Nat.le_of_ble_eq_true rfl, Nat.le_of_ble_eq_true rfl⟩) (by simp only [List.append_assoc, List.append_nil, List.nil_append]) hK hN (ci := 4) (q0 := 0) rfl rfl rfl hP hD hS hA rfl hl.1 rfl (Nat.le_of_ble_eq_true rfl) dX4_advise_57 ⟨Nat.le_of_ble_eq_true rfl, Nat.le_of_ble_eq_true rfl⟩ (fun H locs hP hD hS => ?_)
        have hP : va_P (dC, dI) vwCl (mW cI d S4) H := by simpa only [List.append_assoc, List.append_nil, List.nil_append] using hP
        have hD : va_D A (mW cI d S4) := by simpa only [List.append_assoc, List.append_nil, List.nil_append] using hD
        have hGS4 : gem h w S4 := by rw [eS4]; exact gem_keep hGz
        refine lv_aload_n hx hb dX4_advise_60 rfl (lv_at hl 0 rfl) ?_
        refine lv_iload_n hx hb dX4_advise_61 rfl (lv_at hl 1 rfl) ?_
        obtain ⟨S5, eS5⟩ : ∃ z : sS, z = mi_worth h w S4 i.toNatClampNeg := ⟨_, rfl⟩
        refine zI_V (pre := ([] : va_W)) (wc := mW cI d S4) (post := ([] : va_W)) (w1 := mW cI d S5) ⟨hx, hb, hml, hown, hts⟩ (by rw [eS5]; exact c_X4_worth l dC dI cI d h w S4 i y hGS4 (by rw [eS4]; exact hd) hxn (by omega) (by rw [eS4]; exact spr_keep hGz)) (cwV 1 hts gX4_advise_X4_worth rfl rfl rfl (by decide +kernel) ⟨Nat.le_of_ble_eq_true rfl, Nat.le_of_ble_eq_true rfl⟩) (by simp only [List.append_assoc, List.append_nil, List.nil_append]) hK hN (ci := 4) (q0 := 0) rfl rfl rfl hP hD hS hA rfl hl.1 rfl (Nat.le_of_ble_eq_true rfl) dX4_advise_62 ⟨Nat.le_of_ble_eq_true rfl, Nat.le_of_ble_eq_true rfl⟩ (fun H locs hP hD hS => ?_)
        have hP : va_P (dC, dI) vwCl (mW cI d S5) H := by simpa only [List.append_assoc, List.append_nil, List.nil_append] using hP
        have hD : va_D A (mW cI d S5) := by simpa only [List.append_assoc, List.append_nil, List.nil_append] using hD
        have hGS5 : gem h w S5 := by rw [eS5]; exact gem_back (gem_days hGS4 _) (spr_5 (by rw [eS4]; exact spr_keep hGz) (mdays_row _ _ (by decide) (by decide)))
        refine lv_istore_n (lv' := [(3, .int (mi_worthV h w S4 i.toNatClampNeg)), (0, .ref (d 0)), (1, .int i), (2, .int x)]) hx hb dX4_advise_65 rfl hl (by decide) rfl (fun ls hl => ?_)
        refine lv_iconst (v := (-1)) hx hb dX4_advise_66 (by decide) ?_
        refine lv_istore (lv' := [(4, .int (-1)), (3, .int (mi_worthV h w S4 i.toNatClampNeg)), (0, .ref (d 0)), (1, .int i), (2, .int x)]) hx hb dX4_advise_67 hl (by decide) rfl (fun ls hl => ?_)
        refine lv_iconst (v := (-1)) hx hb dX4_advise_69 (by decide) ?_
        refine lv_istore (lv' := [(5, .int (-1)), (4, .int (-1)), (3, .int (mi_worthV h w S4 i.toNatClampNeg)), (0, .ref (d 0)), (1, .int i), (2, .int x)]) hx hb dX4_advise_70 hl (by decide) rfl (fun ls hl => ?_)
        refine lv_iconst (v := 0) hx hb dX4_advise_72 (by decide) ?_
        refine lv_istore (lv' := [(6, .int 0), (5, .int (-1)), (4, .int (-1)), (3, .int (mi_worthV h w S4 i.toNatClampNeg)), (0, .ref (d 0)), (1, .int i), (2, .int x)]) hx hb dX4_advise_73 hl (by decide) rfl (fun ls hl => ?_)
        have lp75 : ∀ (n75 i75 : Nat) (T75_0 : sS) (u75_3 : Int32) (u75_4 : Int32) (u75_5 : Int32) (H : Heap) (locs : List Loc) (ls : Array Slot), i75 + n75 = h * w → (T75_0, u75_3, u75_4, u75_5) = itr (ad_k h w i.toNatClampNeg) i75 (S5, mi_worthV h w S4 i.toNatClampNeg, (-1), (-1)) → gem h w T75_0 → adI h w y (mi_keep (s_put O 0 0 0) 6) T75_0 → va_P (dC, dI) vwCl (mW cI d T75_0) H → va_D A (mW cI d T75_0) → va_S A s.heap H locs → lv_has ls 9 [(0, .ref (d 0)), (1, .int i), (2, .int x), (3, .int u75_3), (4, .int u75_4), (5, .int u75_5), (6, .int (nI i75))] → W p l e ({ frames := 6, cells := 0, slots := 0, locals := 139 } : Room) s m [.ref (d 0), .int i, .int x].toArray below meth c H locs 0 0 (zIq (dC, dI) A (mW cI d (madv_S h w (s_put O 0 0 0) i x)) (madv_V h w (s_put O 0 0 0) i x) below [.ref (d 0), .int i, .int x].toArray s 0 0) (F0 m 75 ls []) := by
          intro n75
          induction n75 with
          | zero =>
            intro i75 T75_0 u75_3 u75_4 u75_5 H locs ls hi75 eT75_0 hGT75_0 hAT75_0 hP hD hS hl
            have hi75 : i75 = h * w := by omega
            rw [hi75] at eT75_0
            refine lv_iload hx hb dX4_advise_75 (lv_at hl 6 rfl) ?_
            refine lv_aload_n hx hb dX4_advise_77 rfl (lv_at hl 0 rfl) ?_
            refine zI_V (pre := ([] : va_W)) (wc := mW cI d T75_0) (post := ([] : va_W)) (w1 := mW cI d T75_0) ⟨hx, hb, hml, hown, hts⟩ (c_X4_many l dC dI cI d T75_0) (cwV 0 hts gX4_advise_X4_many rfl rfl rfl (by decide +kernel) ⟨Nat.le_of_ble_eq_true rfl, Nat.le_of_ble_eq_true rfl⟩) (by simp only [List.append_assoc, List.append_nil, List.nil_append]) hK hN (ci := 4) (q0 := 0) rfl rfl rfl hP hD hS hA rfl hl.1 rfl (Nat.le_of_ble_eq_true rfl) dX4_advise_78 ⟨Nat.le_of_ble_eq_true rfl, Nat.le_of_ble_eq_true rfl⟩ (fun H locs hP hD hS => ?_)
            have hP : va_P (dC, dI) vwCl (mW cI d T75_0) H := by simpa only [List.append_assoc, List.append_nil, List.nil_append] using hP
            have hD : va_D A (mW cI d T75_0) := by simpa only [List.append_assoc, List.append_nil, List.nil_append] using hD
            refine lv_icmp_ge (tgt := 157) hx hb dX4_advise_81 (by decide) (fun c_6 => ?_) (fun c_6 => ?_)
            · refine lv_iload hx hb dX4_advise_157 (lv_at hl 4 rfl) ?_
              refine lv_iconst (v := (-1)) hx hb dX4_advise_159 (by decide) ?_
              refine lv_icmp_ne (tgt := 167) hx hb dX4_advise_160 (by decide) (fun c_7 => ?_) (fun c_7 => ?_)
              · refine lv_iload_n hx hb dX4_advise_167 rfl (lv_at hl 2 rfl) ?_
                refine lv_if_ne (tgt := 183) hx hb dX4_advise_168 (by decide) (fun c_8 => ?_) (fun c_8 => ?_)
                · refine lv_iload_n hx hb dX4_advise_183 rfl (lv_at hl 2 rfl) ?_
                  refine lv_iconst (v := 1) hx hb dX4_advise_184 (by decide) ?_
                  refine lv_icmp_ne (tgt := 200) hx hb dX4_advise_185 (by decide) (fun c_9 => ?_) (fun c_9 => ?_)
                  · refine lv_iload hx hb dX4_advise_200 (lv_at hl 5 rfl) ?_
                    have hZ : T75_0 = madv_S h w (s_put O 0 0 0) i x := (by have h9 : (T75_0, u75_3, u75_4, u75_5) = ad_all h w (s_put O 0 0 0) i.toNatClampNeg := (by rw [eT75_0, eS5, eS4]; rfl); unfold madv_S; simp only [if_neg c_1, if_neg c_2, if_pos c_3]; exact congrArg Prod.fst h9)
                    rw [hZ] at hP hD
                    exact zI_ret hx hb hr hlocks hP hD hS rfl (by have h9 : (T75_0, u75_3, u75_4, u75_5) = ad_all h w (s_put O 0 0 0) i.toNatClampNeg := (by rw [eT75_0, eS5, eS4]; rfl); unfold madv_V; simp only [if_neg c_1, if_neg c_2, if_pos c_3]; rw [← h9]; unfold madv_v; simp only [if_neg c_7, if_neg c_8, if_neg c_9]) dX4_advise_202
                  · refine lv_iload hx hb dX4_advise_188 (lv_at hl 4 rfl) ?_
                    refine lv_aload_n hx hb dX4_advise_190 rfl (lv_at hl 0 rfl) ?_
                    refine va_get (D := (dC, dI)) (ci := 4) (v := .ref (d 1)) (C := RX4) (T := TX4) (N := 7) hx hb hts hinX4 hown hK hP 0 rfl rfl 1 (by decide) hf9 (fun _ h9 => h9) rfl dX4_advise_191 ?_
                    refine lv_iconst (v := 1) hx hb dX4_advise_194 (by decide) ?_
                    refine va_ialdk 1 (cA := cI) (n := 7) (f := T75_0 1) hx hb hK hP 1 0 rfl rfl rfl (by decide) (by decide) dX4_advise_195 ?_
                    refine lv_irem hx hb dX4_advise_196 (gem_w0 hGT75_0) ?_
                    refine lv_goto (tgt := 202) hx hb dX4_advise_197 (by decide) ?_
                    have hZ : T75_0 = madv_S h w (s_put O 0 0 0) i x := (by have h9 : (T75_0, u75_3, u75_4, u75_5) = ad_all h w (s_put O 0 0 0) i.toNatClampNeg := (by rw [eT75_0, eS5, eS4]; rfl); unfold madv_S; simp only [if_neg c_1, if_neg c_2, if_pos c_3]; exact congrArg Prod.fst h9)
                    rw [hZ] at hP hD
                    exact zI_ret hx hb hr hlocks hP hD hS rfl (by have h9 : (T75_0, u75_3, u75_4, u75_5) = ad_all h w (s_put O 0 0 0) i.toNatClampNeg := (by rw [eT75_0, eS5, eS4]; rfl); unfold madv_V; simp only [if_neg c_1, if_neg c_2, if_pos c_3]; rw [← h9]; unfold madv_v; simp only [if_neg c_7, if_neg c_8, if_pos c_9]) dX4_advise_202
                · refine lv_iload hx hb dX4_advise_171 (lv_at hl 4 rfl) ?_
                  refine lv_aload_n hx hb dX4_advise_173 rfl (lv_at hl 0 rfl) ?_
                  refine va_get (D := (dC, dI)) (ci := 4) (v := .ref (d 1)) (C := RX4) (T := TX4) (N := 7) hx hb hts hinX4 hown hK hP 0 rfl rfl 1 (by decide) hf9 (fun _ h9 => h9) rfl dX4_advise_174 ?_
                  refine lv_iconst (v := 1) hx hb dX4_advise_177 (by decide) ?_
                  refine va_ialdk 1 (cA := cI) (n := 7) (f := T75_0 1) hx hb hK hP 1 0 rfl rfl rfl (by decide) (by decide) dX4_advise_178 ?_
                  refine lv_idiv hx hb dX4_advise_179 (gem_w0 hGT75_0) ?_
                  refine lv_goto (tgt := 202) hx hb dX4_advise_180 (by decide) ?_
                  have hZ : T75_0 = madv_S h w (s_put O 0 0 0) i x := (by have h9 : (T75_0, u75_3, u75_4, u75_5) = ad_all h w (s_put O 0 0 0) i.toNatClampNeg := (by rw [eT75_0, eS5, eS4]; rfl); unfold madv_S; simp only [if_neg c_1, if_neg c_2, if_pos c_3]; exact congrArg Prod.fst h9)
                  rw [hZ] at hP hD
                  exact zI_ret hx hb hr hlocks hP hD hS rfl (by have h9 : (T75_0, u75_3, u75_4, u75_5) = ad_all h w (s_put O 0 0 0) i.toNatClampNeg := (by rw [eT75_0, eS5, eS4]; rfl); unfold madv_V; simp only [if_neg c_1, if_neg c_2, if_pos c_3]; rw [← h9]; unfold madv_v; simp only [if_neg c_7, if_pos c_8]) dX4_advise_202
              · refine lv_iconst (v := (-1)) hx hb dX4_advise_163 (by decide) ?_
                refine lv_goto (tgt := 202) hx hb dX4_advise_164 (by decide) ?_
                have hZ : T75_0 = madv_S h w (s_put O 0 0 0) i x := (by have h9 : (T75_0, u75_3, u75_4, u75_5) = ad_all h w (s_put O 0 0 0) i.toNatClampNeg := (by rw [eT75_0, eS5, eS4]; rfl); unfold madv_S; simp only [if_neg c_1, if_neg c_2, if_pos c_3]; exact congrArg Prod.fst h9)
                rw [hZ] at hP hD
                exact zI_ret hx hb hr hlocks hP hD hS rfl (by have h9 : (T75_0, u75_3, u75_4, u75_5) = ad_all h w (s_put O 0 0 0) i.toNatClampNeg := (by rw [eT75_0, eS5, eS4]; rfl); unfold madv_V; simp only [if_neg c_1, if_neg c_2, if_pos c_3]; rw [← h9]; unfold madv_v; simp only [if_pos c_7]) dX4_advise_202
            · exact absurd (by rw [show _ = nI (h * w) from (gem_many hGT75_0)]; exact nI_le (by omega) (by omega)) c_6
          | succ n75 ih75 =>
            intro i75 T75_0 u75_3 u75_4 u75_5 H locs ls hi75 eT75_0 hGT75_0 hAT75_0 hP hD hS hl
            refine lv_iload hx hb dX4_advise_75 (lv_at hl 6 rfl) ?_
            refine lv_aload_n hx hb dX4_advise_77 rfl (lv_at hl 0 rfl) ?_
            refine zI_V (pre := ([] : va_W)) (wc := mW cI d T75_0) (post := ([] : va_W)) (w1 := mW cI d T75_0) ⟨hx, hb, hml, hown, hts⟩ (c_X4_many l dC dI cI d T75_0) (cwV 0 hts gX4_advise_X4_many rfl rfl rfl (by decide +kernel) ⟨Nat.le_of_ble_eq_true rfl, Nat.le_of_ble_eq_true rfl⟩) (by simp only [List.append_assoc, List.append_nil, List.nil_append]) hK hN (ci := 4) (q0 := 0) rfl rfl rfl hP hD hS hA rfl hl.1 rfl (Nat.le_of_ble_eq_true rfl) dX4_advise_78 ⟨Nat.le_of_ble_eq_true rfl, Nat.le_of_ble_eq_true rfl⟩ (fun H locs hP hD hS => ?_)
            have hP : va_P (dC, dI) vwCl (mW cI d T75_0) H := by simpa only [List.append_assoc, List.append_nil, List.nil_append] using hP
            have hD : va_D A (mW cI d T75_0) := by simpa only [List.append_assoc, List.append_nil, List.nil_append] using hD
            refine lv_icmp_ge (tgt := 157) hx hb dX4_advise_81 (by decide) (fun c_10 => ?_) (fun c_10 => ?_)
            · exact absurd c_10 (by rw [show _ = nI (h * w) from (gem_many hGT75_0)]; exact nI_ge (by omega) (by omega))
            · refine lv_iconst (v := 0) hx hb dX4_advise_84 (by decide) ?_
              refine lv_istore (lv' := [(7, .int 0), (0, .ref (d 0)), (1, .int i), (2, .int x), (3, .int u75_3), (4, .int u75_4), (5, .int u75_5), (6, .int (nI i75))]) hx hb dX4_advise_85 hl (by decide) rfl (fun ls hl => ?_)
              have lp87 : ∀ (n87 i87 : Nat) (T87_0 : sS) (u87_3 : Int32) (u87_4 : Int32) (u87_5 : Int32) (H : Heap) (locs : List Loc) (ls : Array Slot), i87 + n87 = (x3_rounds (T75_0 3 ((12 * (nI i75)) + 1).toNatClampNeg)) → (T87_0, u87_3, u87_4, u87_5) = itr (ad_h h w i.toNatClampNeg (nI i75)) i87 (T75_0, u75_3, u75_4, u75_5) → gem h w T87_0 → adI h w y (mi_keep (s_put O 0 0 0) 6) T87_0 → va_P (dC, dI) vwCl (mW cI d T87_0) H → va_D A (mW cI d T87_0) → va_S A s.heap H locs → lv_has ls 9 [(0, .ref (d 0)), (1, .int i), (2, .int x), (3, .int u87_3), (4, .int u87_4), (5, .int u87_5), (6, .int (nI i75)), (7, .int (nI i87 * 10))] → W p l e ({ frames := 6, cells := 0, slots := 0, locals := 139 } : Room) s m [.ref (d 0), .int i, .int x].toArray below meth c H locs 0 0 (zIq (dC, dI) A (mW cI d (madv_S h w (s_put O 0 0 0) i x)) (madv_V h w (s_put O 0 0 0) i x) below [.ref (d 0), .int i, .int x].toArray s 0 0) (F0 m 87 ls []) := by
                intro n87
                induction n87 with
                | zero =>
                  intro i87 T87_0 u87_3 u87_4 u87_5 H locs ls hi87 eT87_0 hGT87_0 hAT87_0 hP hD hS hl
                  have hi87 : i87 = (x3_rounds (T75_0 3 ((12 * (nI i75)) + 1).toNatClampNeg)) := by omega
                  rw [hi87] at eT87_0
                  refine lv_iload hx hb dX4_advise_87 (lv_at hl 7 rfl) ?_
                  refine lv_aload_n hx hb dX4_advise_89 rfl (lv_at hl 0 rfl) ?_
                  refine va_get (D := (dC, dI)) (ci := 4) (v := .ref (d 3)) (C := RX4) (T := TX4) (N := 7) hx hb hts hinX4 hown hK hP 0 rfl rfl 3 (by decide) hf16 (fun _ h9 => h9) rfl dX4_advise_90 ?_
                  refine lv_bipush (v := 12) hx hb dX4_advise_93 (by decide) ?_
                  refine lv_iload hx hb dX4_advise_95 (lv_at hl 6 rfl) ?_
                  refine lv_imul hx hb dX4_advise_97 ?_
                  refine lv_iconst (v := 1) hx hb dX4_advise_98 (by decide) ?_
                  refine lv_iadd hx hb dX4_advise_99 ?_
                  refine va_iald (cA := cI) (n := 768) (f := T87_0 3) hx hb hK hP 3 0 rfl rfl (frm_in (frm_k (by omega)) (j := 1) (by decide)) dX4_advise_100 ?_
                  refine lv_icmp_gt (tgt := 151) hx hb dX4_advise_101 (by decide) (fun c_11 => ?_) (fun c_11 => ?_)
                  · refine lv_iinc (v := nI (i75 + 1)) (lv' := [(6, .int (nI (i75 + 1))), (0, .ref (d 0)), (1, .int i), (2, .int x), (3, .int u87_3), (4, .int u87_4), (5, .int u87_5), (7, .int (nI i87 * 10))]) hx hb dX4_advise_151 hl (k := 6) rfl (show nI i75 + Int32.ofInt 1 = nI (i75 + 1) from nI_1 i75) (by decide) rfl (fun ls hl => ?_)
                    refine lv_goto (tgt := 75) hx hb dX4_advise_154 (by decide) ?_
                    exact ih75 (i75 + 1) T87_0 u87_3 u87_4 u87_5 _ _ ls (by omega) (by rw [itr_s, ← eT75_0]; exact eT87_0) (hGT87_0) (hAT87_0) hP hD hS (lv_sub hl [1, 2, 3, 4, 5, 6, 0] rfl)
                  · exact absurd (ht_out (ad_bk hAT87_0 (by omega)) (by rw [(adI_bank hAT87_0 hAT75_0 (k := i75) (by omega))]; omega)) c_11
                | succ n87 ih87 =>
                  intro i87 T87_0 u87_3 u87_4 u87_5 H locs ls hi87 eT87_0 hGT87_0 hAT87_0 hP hD hS hl
                  refine lv_iload hx hb dX4_advise_87 (lv_at hl 7 rfl) ?_
                  refine lv_aload_n hx hb dX4_advise_89 rfl (lv_at hl 0 rfl) ?_
                  refine va_get (D := (dC, dI)) (ci := 4) (v := .ref (d 3)) (C := RX4) (T := TX4) (N := 7) hx hb hts hinX4 hown hK hP 0 rfl rfl 3 (by decide) hf16 (fun _ h9 => h9) rfl dX4_advise_90 ?_
                  refine lv_bipush (v := 12) hx hb dX4_advise_93 (by decide) ?_
                  refine lv_iload hx hb dX4_advise_95 (lv_at hl 6 rfl) ?_
                  refine lv_imul hx hb dX4_advise_97 ?_
                  refine lv_iconst (v := 1) hx hb dX4_advise_98 (by decide) ?_
                  refine lv_iadd hx hb dX4_advise_99 ?_
                  refine va_iald (cA := cI) (n := 768) (f := T87_0 3) hx hb hK hP 3 0 rfl rfl (frm_in (frm_k (by omega)) (j := 1) (by decide)) dX4_advise_100 ?_
                  refine lv_icmp_gt (tgt := 151) hx hb dX4_advise_101 (by decide) (fun c_12 => ?_) (fun c_12 => ?_)
                  · exact absurd c_12 (ht_in (ad_bk hAT87_0 (by omega)) (by rw [(adI_bank hAT87_0 hAT75_0 (k := i75) (by omega))]; omega))
                  · refine lv_aload_n hx hb dX4_advise_104 rfl (lv_at hl 0 rfl) ?_
                    refine va_get (D := (dC, dI)) (ci := 4) (v := .ref (d 3)) (C := RX4) (T := TX4) (N := 7) hx hb hts hinX4 hown hK hP 0 rfl rfl 3 (by decide) hf16 (fun _ h9 => h9) rfl dX4_advise_105 ?_
                    refine lv_bipush (v := 12) hx hb dX4_advise_108 (by decide) ?_
                    refine lv_iload hx hb dX4_advise_110 (lv_at hl 6 rfl) ?_
                    refine lv_imul hx hb dX4_advise_112 ?_
                    refine lv_iconst (v := 3) hx hb dX4_advise_113 (by decide) ?_
                    refine lv_iadd hx hb dX4_advise_114 ?_
                    refine lv_iload hx hb dX4_advise_115 (lv_at hl 7 rfl) ?_
                    obtain ⟨S13, eS13⟩ : ∃ z : sS, z = s_put T87_0 3 (((12 * (nI i75)) + 3).toNatClampNeg) (nI i87 * 10) := ⟨_, rfl⟩
                    refine va_iast (cA := cI) (n := 768) (f := T87_0 3) hx hb hK hP hD hS 3 0 rfl rfl (frm_in (frm_k (by omega)) (j := 3) (by decide)) dX4_advise_117 (fun H locs hP hD hS => ?_)
                    have hP : va_P (dC, dI) vwCl (mW cI d S13) H := by rw [eS13]; exact hP
                    have hD : va_D A (mW cI d S13) := by rw [eS13]; exact hD
                    have hGS13 : gem h w S13 := by rw [eS13]; exact gem_put hGT87_0 (Or.inl (by decide)) _
                    refine lv_aload_n hx hb dX4_advise_118 rfl (lv_at hl 0 rfl) ?_
                    refine lv_iload_n hx hb dX4_advise_119 rfl (lv_at hl 1 rfl) ?_
                    obtain ⟨S14, eS14⟩ : ∃ z : sS, z = mi_worth h w S13 i.toNatClampNeg := ⟨_, rfl⟩
                    refine zI_V (pre := ([] : va_W)) (wc := mW cI d S13) (post := ([] : va_W)) (w1 := mW cI d S14) ⟨hx, hb, hml, hown, hts⟩ (by rw [eS14]; exact c_X4_worth l dC dI cI d h w S13 i y hGS13 (by rw [eS13]; exact hAT87_0.1.2.1) hxn (by omega) (by rw [eS13]; exact hAT87_0.1.2.2.1)) (cwV 1 hts gX4_advise_X4_worth rfl rfl rfl (by decide +kernel) ⟨Nat.le_of_ble_eq_true rfl, Nat.le_of_ble_eq_true rfl⟩) (by simp only [List.append_assoc, List.append_nil, List.nil_append]) hK hN (ci := 4) (q0 := 0) rfl rfl rfl hP hD hS hA rfl hl.1 rfl (Nat.le_of_ble_eq_true rfl) dX4_advise_120 ⟨Nat.le_of_ble_eq_true rfl, Nat.le_of_ble_eq_true rfl⟩ (fun H locs hP hD hS => ?_)
                    have hP : va_P (dC, dI) vwCl (mW cI d S14) H := by simpa only [List.append_assoc, List.append_nil, List.nil_append] using hP
                    have hD : va_D A (mW cI d S14) := by simpa only [List.append_assoc, List.append_nil, List.nil_append] using hD
                    have hGS14 : gem h w S14 := by rw [eS14]; exact gem_back (gem_days hGS13 _) (spr_5 (by rw [eS13]; exact hAT87_0.1.2.2.1) (mdays_row _ _ (by decide) (by decide)))
                    refine lv_istore (lv' := [(8, .int (mi_worthV h w S13 i.toNatClampNeg)), (0, .ref (d 0)), (1, .int i), (2, .int x), (3, .int u87_3), (4, .int u87_4), (5, .int u87_5), (6, .int (nI i75)), (7, .int (nI i87 * 10))]) hx hb dX4_advise_123 hl (by decide) rfl (fun ls hl => ?_)
                    refine lv_iload hx hb dX4_advise_125 (lv_at hl 0 rfl) ?_
                    refine lv_iload_n hx hb dX4_advise_127 rfl (lv_at hl 4 rfl) ?_
                    refine lv_icmp_gt (tgt := 134) hx hb dX4_advise_128 (by decide) (fun c_15 => ?_) (fun c_15 => ?_)
                    · refine lv_iload hx hb dX4_advise_134 (lv_at hl 0 rfl) ?_
                      refine lv_istore_n (lv' := [(3, .int (mi_worthV h w S13 i.toNatClampNeg)), (8, .int (mi_worthV h w S13 i.toNatClampNeg)), (0, .ref (d 0)), (1, .int i), (2, .int x), (4, .int u87_4), (5, .int u87_5), (6, .int (nI i75)), (7, .int (nI i87 * 10))]) hx hb dX4_advise_136 rfl hl (by decide) rfl (fun ls hl => ?_)
                      refine lv_iload hx hb dX4_advise_137 (lv_at hl 7 rfl) ?_
                      refine lv_istore (lv' := [(4, .int (nI i75)), (3, .int (mi_worthV h w S13 i.toNatClampNeg)), (8, .int (mi_worthV h w S13 i.toNatClampNeg)), (0, .ref (d 0)), (1, .int i), (2, .int x), (5, .int u87_5), (6, .int (nI i75)), (7, .int (nI i87 * 10))]) hx hb dX4_advise_139 hl (by decide) rfl (fun ls hl => ?_)
                      refine lv_iload hx hb dX4_advise_141 (lv_at hl 8 rfl) ?_
                      refine lv_istore (lv' := [(5, .int (nI i87 * 10)), (4, .int (nI i75)), (3, .int (mi_worthV h w S13 i.toNatClampNeg)), (8, .int (mi_worthV h w S13 i.toNatClampNeg)), (0, .ref (d 0)), (1, .int i), (2, .int x), (6, .int (nI i75)), (7, .int (nI i87 * 10))]) hx hb dX4_advise_143 hl (by decide) rfl (fun ls hl => ?_)
                      refine lv_iinc (v := nI (i87 + 1) * 10) (lv' := [(7, .int (nI (i87 + 1) * 10)), (5, .int (nI i87 * 10)), (4, .int (nI i75)), (3, .int (mi_worthV h w S13 i.toNatClampNeg)), (8, .int (mi_worthV h w S13 i.toNatClampNeg)), (0, .ref (d 0)), (1, .int i), (2, .int x), (6, .int (nI i75))]) hx hb dX4_advise_145 hl (k := 8) rfl (z_ten i87) (by decide) rfl (fun ls hl => ?_)
                      refine lv_goto (tgt := 87) hx hb dX4_advise_148 (by decide) ?_
                      exact ih87 (i87 + 1) S14 (mi_worthV h w S13 i.toNatClampNeg) (nI i75) (nI i87 * 10) _ _ ls (by omega) (by have c9 := c_15; rw [eS13] at c9; rw [itr_s, ← eT87_0, ad_hp c9, ← eS13, ← eS14]) (hGS14) (by rw [eS14, eS13]; exact adI_worth (adB_put hAT87_0.1 _ _) _) hP hD hS (lv_sub hl [5, 6, 7, 3, 2, 1, 8, 0] rfl)
                    · refine lv_goto (tgt := 145) hx hb dX4_advise_131 (by decide) ?_
                      refine lv_iinc (v := nI (i87 + 1) * 10) (lv' := [(7, .int (nI (i87 + 1) * 10)), (8, .int (mi_worthV h w S13 i.toNatClampNeg)), (0, .ref (d 0)), (1, .int i), (2, .int x), (3, .int u87_3), (4, .int u87_4), (5, .int u87_5), (6, .int (nI i75))]) hx hb dX4_advise_145 hl (k := 8) rfl (z_ten i87) (by decide) rfl (fun ls hl => ?_)
                      refine lv_goto (tgt := 87) hx hb dX4_advise_148 (by decide) ?_
                      exact ih87 (i87 + 1) S14 u87_3 u87_4 u87_5 _ _ ls (by omega) (by have c9 := c_15; rw [eS13] at c9; rw [itr_s, ← eT87_0, ad_hn c9, ← eS13, ← eS14]) (hGS14) (by rw [eS14, eS13]; exact adI_worth (adB_put hAT87_0.1 _ _) _) hP hD hS (lv_sub hl [2, 3, 4, 5, 6, 7, 8, 0] rfl)
              exact lp87 ((x3_rounds (T75_0 3 ((12 * (nI i75)) + 1).toNatClampNeg))) 0 T75_0 u75_3 u75_4 u75_5 _ _ ls (by omega) rfl (hGT75_0) (hAT75_0) hP hD hS (lv_sub hl [1, 2, 3, 4, 5, 6, 7, 0] rfl)
        exact lp75 (h * w) 0 S5 (mi_worthV h w S4 i.toNatClampNeg) (-1) (-1) _ _ ls (by omega) rfl (hGS5) (by rw [eS5, eS4]; exact adI_worth (adB_keep hGz hd hbk) _) hP hD hS (lv_sub hl [4, 5, 6, 3, 2, 1, 0] rfl)
      · refine lv_aload_n hx hb dX4_advise_50 rfl (lv_at hl 0 rfl) ?_
        refine lv_iconst (v := 3) hx hb dX4_advise_51 (by decide) ?_
        obtain ⟨S16, eS16⟩ : ∃ z : sS, z = mfail (s_put O 0 0 0) 3 := ⟨_, rfl⟩
        refine zI_V (pre := ([] : va_W)) (wc := mW cI d (s_put O 0 0 0)) (post := ([] : va_W)) (w1 := mW cI d S16) ⟨hx, hb, hml, hown, hts⟩ (by rw [eS16]; exact c_X4_fail l dC dI cI d (s_put O 0 0 0) 3) (cwV 1 hts gX4_advise_X4_fail rfl rfl rfl (by decide +kernel) ⟨Nat.le_of_ble_eq_true rfl, Nat.le_of_ble_eq_true rfl⟩) (by simp only [List.append_assoc, List.append_nil, List.nil_append]) hK hN (ci := 4) (q0 := 0) rfl rfl rfl hP hD hS hA rfl hl.1 rfl (Nat.le_of_ble_eq_true rfl) dX4_advise_52 ⟨Nat.le_of_ble_eq_true rfl, Nat.le_of_ble_eq_true rfl⟩ (fun H locs hP hD hS => ?_)
        have hP : va_P (dC, dI) vwCl (mW cI d S16) H := by simpa only [List.append_assoc, List.append_nil, List.nil_append] using hP
        have hD : va_D A (mW cI d S16) := by simpa only [List.append_assoc, List.append_nil, List.nil_append] using hD
        have hZ : S16 = madv_S h w (s_put O 0 0 0) i x := (by (try rw [eS16]); first | done | rfl | (simp only [madv_S, madv_V, if_neg c_1, if_neg c_2, if_neg c_3]; done) | (unfold madv_S; simp only [if_neg c_1, if_neg c_2, if_neg c_3]; done))
        rw [hZ] at hP hD
        exact zI_ret hx hb hr hlocks hP hD hS rfl (by (try rw [eS16]); first | done | rfl | (simp only [madv_S, madv_V, if_neg c_1, if_neg c_2, if_neg c_3]; done)) dX4_advise_55
    · refine lv_aload_n hx hb dX4_advise_30 rfl (lv_at hl 0 rfl) ?_
      refine lv_iconst (v := 2) hx hb dX4_advise_31 (by decide) ?_
      obtain ⟨S17, eS17⟩ : ∃ z : sS, z = mfail (s_put O 0 0 0) 2 := ⟨_, rfl⟩
      refine zI_V (pre := ([] : va_W)) (wc := mW cI d (s_put O 0 0 0)) (post := ([] : va_W)) (w1 := mW cI d S17) ⟨hx, hb, hml, hown, hts⟩ (by rw [eS17]; exact c_X4_fail l dC dI cI d (s_put O 0 0 0) 2) (cwV 1 hts gX4_advise_X4_fail rfl rfl rfl (by decide +kernel) ⟨Nat.le_of_ble_eq_true rfl, Nat.le_of_ble_eq_true rfl⟩) (by simp only [List.append_assoc, List.append_nil, List.nil_append]) hK hN (ci := 4) (q0 := 0) rfl rfl rfl hP hD hS hA rfl hl.1 rfl (Nat.le_of_ble_eq_true rfl) dX4_advise_32 ⟨Nat.le_of_ble_eq_true rfl, Nat.le_of_ble_eq_true rfl⟩ (fun H locs hP hD hS => ?_)
      have hP : va_P (dC, dI) vwCl (mW cI d S17) H := by simpa only [List.append_assoc, List.append_nil, List.nil_append] using hP
      have hD : va_D A (mW cI d S17) := by simpa only [List.append_assoc, List.append_nil, List.nil_append] using hD
      have hZ : S17 = madv_S h w (s_put O 0 0 0) i x := (by (try rw [eS17]); first | done | rfl | (simp only [madv_S, madv_V, if_neg c_1, if_pos c_2]; done) | (unfold madv_S; simp only [if_neg c_1, if_pos c_2]; done))
      rw [hZ] at hP hD
      exact zI_ret hx hb hr hlocks hP hD hS rfl (by (try rw [eS17]); first | done | rfl | (simp only [madv_S, madv_V, if_neg c_1, if_pos c_2]; done)) dX4_advise_35
  · refine lv_aload_n hx hb dX4_advise_15 rfl (lv_at hl 0 rfl) ?_
    refine lv_iconst (v := 1) hx hb dX4_advise_16 (by decide) ?_
    obtain ⟨S18, eS18⟩ : ∃ z : sS, z = mfail (s_put O 0 0 0) 1 := ⟨_, rfl⟩
    refine zI_V (pre := ([] : va_W)) (wc := mW cI d (s_put O 0 0 0)) (post := ([] : va_W)) (w1 := mW cI d S18) ⟨hx, hb, hml, hown, hts⟩ (by rw [eS18]; exact c_X4_fail l dC dI cI d (s_put O 0 0 0) 1) (cwV 1 hts gX4_advise_X4_fail rfl rfl rfl (by decide +kernel) ⟨Nat.le_of_ble_eq_true rfl, Nat.le_of_ble_eq_true rfl⟩) (by simp only [List.append_assoc, List.append_nil, List.nil_append]) hK hN (ci := 4) (q0 := 0) rfl rfl rfl hP hD hS hA rfl hl.1 rfl (Nat.le_of_ble_eq_true rfl) dX4_advise_17 ⟨Nat.le_of_ble_eq_true rfl, Nat.le_of_ble_eq_true rfl⟩ (fun H locs hP hD hS => ?_)
    have hP : va_P (dC, dI) vwCl (mW cI d S18) H := by simpa only [List.append_assoc, List.append_nil, List.nil_append] using hP
    have hD : va_D A (mW cI d S18) := by simpa only [List.append_assoc, List.append_nil, List.nil_append] using hD
    have hZ : S18 = madv_S h w (s_put O 0 0 0) i x := (by (try rw [eS18]); first | done | rfl | (simp only [madv_S, madv_V, if_pos c_1]; done) | (unfold madv_S; simp only [if_pos c_1]; done))
    rw [hZ] at hP hD
    exact zI_ret hx hb hr hlocks hP hD hS rfl (by (try rw [eS18]); first | done | rfl | (simp only [madv_S, madv_V, if_pos c_1]; done)) dX4_advise_20

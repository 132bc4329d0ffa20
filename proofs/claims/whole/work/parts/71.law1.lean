theorem lay_vals (u v : Int32) : lay_T u v = 0 ∨ lay_T u v = 1 := by
  unfold lay_T
  (repeat' split) <;> decide
set_option maxHeartbeats 4000000 in
set_option maxRecDepth 100000 in
theorem c_L_lay (l : Launch) (dC : Nat → ClassId) (dI : Nat → Nat → Nat) (cI cJ : ClassId) (k b t : Nat → Nat) (h w : Nat) (M B S T : sS) (o : Nat) (g : Nat → Int64) (u v : Int32)  (hLt : l.stackTraces = false) : zY l yL_lay wsL_lay { frames := 7, cells := 1, slots := 6, locals := 112 } (dC, dI) cI cJ [.ref (k 0), .int u, .int v, .ref o] (oW k b t M ++ kW cI k M ++ bW k B ++ sW cI b S ++ sW cI t T ++ gW cJ o g) (oW k b t (zs (lay_T u v) (lay_M M) M) ++ kW cI k (zs (lay_T u v) (lay_M M) M) ++ bW k B ++ sW cI b (zs (lay_T u v) (sl_new u v) S) ++ sW cI t T ++ gW cJ o (zl (lay_T u v) (vp_updL g (0 : Int32).toNatClampNeg (sl_cells (sl_new u v)).toInt64) g)) (lay_T u v) := by
  refine zY_of (cc := cL_lay) (maxL := 5) (ret := (some .int)) (hh :=  [(0, 10, 13, 13)]) (by decide) rfl (Nat.le_of_ble_eq_true rfl) ?_
  intro p e s m below meth c A ls C0 htab hl
  obtain ⟨hx, hb, hr, hml, hown, hts, hlocks, hK, hN, hA, hP, hD, hS, hst, hC⟩ := C0
  have hown : s.vm.findClass RL = some m.cls := hown
  have hl : lv_has ls 5 [(0, .ref (k 0)), (1, .int u), (2, .int v), (3, .ref o)] := hl
  have hk13 := hts (.classLink RL 13 "java/lang/IllegalArgumentException") (by decide +kernel)
  refine lv_aload_n hx hb dL_lay_0 rfl (lv_at hl 3 rfl) ?_
  refine lv_iconst (v := 0) hx hb dL_lay_1 (by decide) ?_
  refine lv_aload_n hx hb dL_lay_2 rfl (lv_at hl 0 rfl) ?_
  refine lv_iload_n hx hb dL_lay_3 rfl (lv_at hl 1 rfl) ?_
  refine lv_iload_n hx hb dL_lay_4 rfl (lv_at hl 2 rfl) ?_
  refine zX_V (pre := []) (wc := oW k b t M ++ kW cI k M ++ bW k B ++ sW cI b S ++ sW cI t T) (post := gW cJ o g) (w1 := oW k b t (lay_M M) ++ kW cI k (lay_M M) ++ bW k B ++ sW cI b (sl_new u v) ++ sW cI t T) ⟨hx, hb, hml, hown, hts⟩ (c_X3_lay l dC dI cI k b t h w M B S T u v  hLt) (cwV 2 hts gL_lay_X3_lay rfl rfl rfl (by decide +kernel) ⟨Nat.le_of_ble_eq_true rfl, Nat.le_of_ble_eq_true rfl⟩) rfl (hK.sub [0] rfl) hN hst (ci := 3) (q0 := 0) rfl rfl rfl hP hD hS hA rfl hl.1 rfl (Nat.le_of_ble_eq_true rfl) dL_lay_5 ⟨Nat.le_of_ble_eq_true rfl, Nat.le_of_ble_eq_true rfl⟩ (fun hne ce q9 H locs hP hD hS h7 h8 h9 => ?_) (fun hz H locs hP hD hS => ?_)
  · have hP : va_P (dC, dI) vwCl (oW k b t (zs (lay_T u v) (lay_M M) M) ++ kW cI k (zs (lay_T u v) (lay_M M) M) ++ bW k B ++ sW cI b (zs (lay_T u v) (sl_new u v) S) ++ sW cI t T ++ gW cJ o (zl (lay_T u v) (vp_updL g (0 : Int32).toNatClampNeg (sl_cells (sl_new u v)).toInt64) g)) H := by simp only [zs, zl, if_neg hne]; exact hP
    have hD : va_D A (oW k b t (zs (lay_T u v) (lay_M M) M) ++ kW cI k (zs (lay_T u v) (lay_M M) M) ++ bW k B ++ sW cI b (zs (lay_T u v) (sl_new u v) S) ++ sW cI t T ++ gW cJ o (zl (lay_T u v) (vp_updL g (0 : Int32).toNatClampNeg (sl_cells (sl_new u v)).toInt64) g)) := by simp only [zs, zl, if_neg hne]; exact hD
    rcases lay_vals u v with h0 | h0
    · exact absurd h0 hne
    · rw [h0] at h9
      have h9 : s.vm.findClass "java/lang/IllegalArgumentException" = some ce.cls := h9
      refine vx_catch (E := "java/lang/IllegalArgumentException") (name := "java/lang/IllegalArgumentException") hown [] ⟨0, 10, 13, 13⟩ [] htab (fun z hz => absurd hz List.not_mem_nil) rfl (by decide) hk13 (va_Nw.use rfl (hst.2.2.2.2 "java/lang/IllegalArgumentException" (by decide))) h7 h8 h9 ?_
      refine lv_astore (lv' := [(4, .ref q9), (0, .ref (k 0)), (1, .int u), (2, .int v), (3, .ref o)]) hx hb dL_lay_13 hl (by decide) rfl (fun ls hl => ?_)
      refine lv_iconst (v := 1) hx hb dL_lay_15 (by decide) ?_
      exact zY_ret hx hb hr hlocks hP hD hS rfl h0.symm dL_lay_16 (Nat.le_of_ble_eq_true rfl) (Nat.le_of_ble_eq_true rfl)
  · refine lv_i2l (v := (sl_cells (sl_new u v)).toInt64) hx hb dL_lay_8 rfl ?_
    refine va_last (cA := cJ) (n := 1) (f := g) hx hb hK hP hD hS 34 1 rfl rfl (show vp_in (nI 0) 1 from vp_in_nI (by decide) (by decide)) dL_lay_9 (fun H locs hP hD hS => ?_)
    have hP : va_P (dC, dI) vwCl (oW k b t (zs (lay_T u v) (lay_M M) M) ++ kW cI k (zs (lay_T u v) (lay_M M) M) ++ bW k B ++ sW cI b (zs (lay_T u v) (sl_new u v) S) ++ sW cI t T ++ gW cJ o (zl (lay_T u v) (vp_updL g (0 : Int32).toNatClampNeg (sl_cells (sl_new u v)).toInt64) g)) H := by simp only [zs, zl, if_pos hz]; exact hP
    have hD : va_D A (oW k b t (zs (lay_T u v) (lay_M M) M) ++ kW cI k (zs (lay_T u v) (lay_M M) M) ++ bW k B ++ sW cI b (zs (lay_T u v) (sl_new u v) S) ++ sW cI t T ++ gW cJ o (zl (lay_T u v) (vp_updL g (0 : Int32).toNatClampNeg (sl_cells (sl_new u v)).toInt64) g)) := by simp only [zs, zl, if_pos hz]; exact hD
    refine lv_goto (tgt := 17) hx hb dL_lay_10 (by decide) ?_
    refine lv_iconst (v := 0) hx hb dL_lay_17 (by decide) ?_
    exact zY_ret hx hb hr hlocks hP hD hS rfl hz.symm dL_lay_18 (Nat.le_of_ble_eq_true rfl) (Nat.le_of_ble_eq_true rfl)
theorem setField_vals (S : sS) (y f u v : Int32) : set_T S y f u v = 0 ∨ set_T S y f u v = 1 ∨ set_T S y f u v = 2 := by
  unfold set_T
  (repeat' split) <;> decide
set_option maxHeartbeats 4000000 in
set_option maxRecDepth 100000 in
theorem c_L_setField (l : Launch) (dC : Nat → ClassId) (dI : Nat → Nat → Nat) (cI cJ : ClassId) (k b t : Nat → Nat) (h w : Nat) (M B S T : sS) (o : Nat) (g : Nat → Int64) (y f u v : Int32) (hG0 : geo h w S) (hLt : l.stackTraces = false) : zY l yL_setField wsL_setField { frames := 7, cells := 1, slots := 6, locals := 116 } (dC, dI) cI cJ [.ref (k 0), .int y, .int f, .int u, .int v, .ref o] (oW k b t M ++ kW cI k M ++ bW k B ++ sW cI b S ++ sW cI t T ++ gW cJ o g) (oW k b t M ++ kW cI k M ++ bW k B ++ sW cI b (zs (set_T S y f u v) (set_S S y f u v) S) ++ sW cI t T ++ gW cJ o (zl (set_T S y f u v) (vp_updL g (0 : Int32).toNatClampNeg (S 3 (sl_k S y f)).toInt64) g)) (set_T S y f u v) := by
  refine zY_of (cc := cL_setField) (maxL := 7) (ret := (some .int)) (hh :=  [(0, 14, 17, 19), (0, 14, 21, 13)]) (by decide) rfl (Nat.le_of_ble_eq_true rfl) ?_
  intro p e s m below meth c A ls C0 htab hl
  obtain ⟨hx, hb, hr, hml, hown, hts, hlocks, hK, hN, hA, hP, hD, hS, hst, hC⟩ := C0
  have hown : s.vm.findClass RL = some m.cls := hown
  have hl : lv_has ls 7 [(0, .ref (k 0)), (1, .int y), (2, .int f), (3, .int u), (4, .int v), (5, .ref o)] := hl
  have hk19 := hts (.classLink RL 19 "java/lang/IndexOutOfBoundsException") (by decide +kernel)
  have hk13 := hts (.classLink RL 13 "java/lang/IllegalArgumentException") (by decide +kernel)
  refine lv_aload hx hb dL_setField_0 (lv_at hl 5 rfl) ?_
  refine lv_iconst (v := 0) hx hb dL_setField_2 (by decide) ?_
  refine lv_aload_n hx hb dL_setField_3 rfl (lv_at hl 0 rfl) ?_
  refine lv_iload_n hx hb dL_setField_4 rfl (lv_at hl 1 rfl) ?_
  refine lv_iload_n hx hb dL_setField_5 rfl (lv_at hl 2 rfl) ?_
  refine lv_iload_n hx hb dL_setField_6 rfl (lv_at hl 3 rfl) ?_
  refine lv_iload hx hb dL_setField_7 (lv_at hl 4 rfl) ?_
  refine zX_V (pre := []) (wc := oW k b t M ++ kW cI k M ++ bW k B ++ sW cI b S ++ sW cI t T) (post := gW cJ o g) (w1 := oW k b t M ++ kW cI k M ++ bW k B ++ sW cI b (set_S S y f u v) ++ sW cI t T) ⟨hx, hb, hml, hown, hts⟩ (c_X3_setField l dC dI cI k b t h w M B S T y f u v hG0 hLt) (cwV 4 hts gL_setField_X3_setField rfl rfl rfl (by decide +kernel) ⟨Nat.le_of_ble_eq_true rfl, Nat.le_of_ble_eq_true rfl⟩) rfl (hK.sub [0] rfl) hN hst (ci := 3) (q0 := 0) rfl rfl rfl hP hD hS hA rfl hl.1 rfl (Nat.le_of_ble_eq_true rfl) dL_setField_9 ⟨Nat.le_of_ble_eq_true rfl, Nat.le_of_ble_eq_true rfl⟩ (fun hne ce q9 H locs hP hD hS h7 h8 h9 => ?_) (fun hz H locs hP hD hS => ?_)
  · have hP : va_P (dC, dI) vwCl (oW k b t M ++ kW cI k M ++ bW k B ++ sW cI b (zs (set_T S y f u v) (set_S S y f u v) S) ++ sW cI t T ++ gW cJ o (zl (set_T S y f u v) (vp_updL g (0 : Int32).toNatClampNeg (S 3 (sl_k S y f)).toInt64) g)) H := by simp only [zs, zl, if_neg hne]; exact hP
    have hD : va_D A (oW k b t M ++ kW cI k M ++ bW k B ++ sW cI b (zs (set_T S y f u v) (set_S S y f u v) S) ++ sW cI t T ++ gW cJ o (zl (set_T S y f u v) (vp_updL g (0 : Int32).toNatClampNeg (S 3 (sl_k S y f)).toInt64) g)) := by simp only [zs, zl, if_neg hne]; exact hD
    rcases setField_vals S y f u v with h0 | h0 | h0
    · exact absurd h0 hne
    · rw [h0] at h9
      have h9 : s.vm.findClass "java/lang/IndexOutOfBoundsException" = some ce.cls := h9
      refine vx_catch (E := "java/lang/IndexOutOfBoundsException") (name := "java/lang/IndexOutOfBoundsException") hown [] ⟨0, 14, 17, 19⟩ [⟨0, 14, 21, 13⟩] htab (fun z hz => absurd hz List.not_mem_nil) rfl (by decide) hk19 (va_Nw.use rfl (hst.2.2.2.2 "java/lang/IndexOutOfBoundsException" (by decide))) h7 h8 h9 ?_
      refine lv_astore (lv' := [(6, .ref q9), (0, .ref (k 0)), (1, .int y), (2, .int f), (3, .int u), (4, .int v), (5, .ref o)]) hx hb dL_setField_17 hl (by decide) rfl (fun ls hl => ?_)
      refine lv_iconst (v := 1) hx hb dL_setField_19 (by decide) ?_
      exact zY_ret hx hb hr hlocks hP hD hS rfl h0.symm dL_setField_20 (Nat.le_of_ble_eq_true rfl) (Nat.le_of_ble_eq_true rfl)
    · rw [h0] at h9
      have h9 : s.vm.findClass "java/lang/IllegalArgumentException" = some ce.cls := h9
      refine vx_catch (E := "java/lang/IllegalArgumentException") (name := "java/lang/IllegalArgumentException") hown [⟨0, 14, 17, 19⟩] ⟨0, 14, 21, 13⟩ [] htab (?_) rfl (by decide) hk13 (va_Nw.use rfl (hst.2.2.2.2 "java/lang/IllegalArgumentException" (by decide))) h7 h8 h9 ?_
      · intro z hz
        simp only [List.mem_cons, List.not_mem_nil, or_false] at hz
        rcases hz with rfl
        · exact Or.inr ⟨by decide, "java/lang/IndexOutOfBoundsException", hk19, hC ("java/lang/IllegalArgumentException", "java/lang/IndexOutOfBoundsException") (by decide)⟩
      refine lv_astore (lv' := [(6, .ref q9), (0, .ref (k 0)), (1, .int y), (2, .int f), (3, .int u), (4, .int v), (5, .ref o)]) hx hb dL_setField_21 hl (by decide) rfl (fun ls hl => ?_)
      refine lv_iconst (v := 2) hx hb dL_setField_23 (by decide) ?_
      exact zY_ret hx hb hr hlocks hP hD hS rfl h0.symm dL_setField_24 (Nat.le_of_ble_eq_true rfl) (Nat.le_of_ble_eq_true rfl)
  · refine lv_i2l (v := (S 3 (sl_k S y f)).toInt64) hx hb dL_setField_12 rfl ?_
    refine va_last (cA := cJ) (n := 1) (f := g) hx hb hK hP hD hS 34 1 rfl rfl (show vp_in (nI 0) 1 from vp_in_nI (by decide) (by decide)) dL_setField_13 (fun H locs hP hD hS => ?_)
    have hP : va_P (dC, dI) vwCl (oW k b t M ++ kW cI k M ++ bW k B ++ sW cI b (zs (set_T S y f u v) (set_S S y f u v) S) ++ sW cI t T ++ gW cJ o (zl (set_T S y f u v) (vp_updL g (0 : Int32).toNatClampNeg (S 3 (sl_k S y f)).toInt64) g)) H := by simp only [zs, zl, if_pos hz]; exact hP
    have hD : va_D A (oW k b t M ++ kW cI k M ++ bW k B ++ sW cI b (zs (set_T S y f u v) (set_S S y f u v) S) ++ sW cI t T ++ gW cJ o (zl (set_T S y f u v) (vp_updL g (0 : Int32).toNatClampNeg (S 3 (sl_k S y f)).toInt64) g)) := by simp only [zs, zl, if_pos hz]; exact hD
    refine lv_goto (tgt := 25) hx hb dL_setField_14 (by decide) ?_
    refine lv_iconst (v := 0) hx hb dL_setField_25 (by decide) ?_
    exact zY_ret hx hb hr hlocks hP hD hS rfl hz.symm dL_setField_26 (Nat.le_of_ble_eq_true rfl) (Nat.le_of_ble_eq_true rfl)
theorem moveStone_vals (S : sS) (y f x : Int32) : mov_T S y f x = 0 ∨ mov_T S y f x = 1 ∨ mov_T S y f x = 2 := by
  unfold mov_T
  (repeat' split) <;> decide
set_option maxHeartbeats 4000000 in
set_option maxRecDepth 100000 in
theorem c_L_moveStone (l : Launch) (dC : Nat → ClassId) (dI : Nat → Nat → Nat) (cI cJ : ClassId) (k b t : Nat → Nat) (h w : Nat) (M B S T : sS) (o : Nat) (g : Nat → Int64) (y f x : Int32) (hG0 : geo h w S) (hLt : l.stackTraces = false) : zY l yL_moveStone wsL_moveStone { frames := 7, cells := 1, slots := 6, locals := 115 } (dC, dI) cI cJ [.ref (k 0), .int y, .int f, .int x, .ref o] (oW k b t M ++ kW cI k M ++ bW k B ++ sW cI b S ++ sW cI t T ++ gW cJ o g) (oW k b t (zs (mov_T S y f x) (mov_M M S y f x) M) ++ kW cI k (zs (mov_T S y f x) (mov_M M S y f x) M) ++ bW k B ++ sW cI b (zs (mov_T S y f x) (mov_S S y f x) S) ++ sW cI t T ++ gW cJ o (zl (mov_T S y f x) (vp_updL g (0 : Int32).toNatClampNeg (mov_V S y f x).toInt64) g)) (mov_T S y f x) := by
  refine zY_of (cc := cL_moveStone) (maxL := 6) (ret := (some .int)) (hh :=  [(0, 12, 15, 19), (0, 12, 19, 13)]) (by decide) rfl (Nat.le_of_ble_eq_true rfl) ?_
  intro p e s m below meth c A ls C0 htab hl
  obtain ⟨hx, hb, hr, hml, hown, hts, hlocks, hK, hN, hA, hP, hD, hS, hst, hC⟩ := C0
  have hown : s.vm.findClass RL = some m.cls := hown
  have hl : lv_has ls 6 [(0, .ref (k 0)), (1, .int y), (2, .int f), (3, .int x), (4, .ref o)] := hl
  have hk19 := hts (.classLink RL 19 "java/lang/IndexOutOfBoundsException") (by decide +kernel)
  have hk13 := hts (.classLink RL 13 "java/lang/IllegalArgumentException") (by decide +kernel)
  refine lv_aload hx hb dL_moveStone_0 (lv_at hl 4 rfl) ?_
  refine lv_iconst (v := 0) hx hb dL_moveStone_2 (by decide) ?_
  refine lv_aload_n hx hb dL_moveStone_3 rfl (lv_at hl 0 rfl) ?_
  refine lv_iload_n hx hb dL_moveStone_4 rfl (lv_at hl 1 rfl) ?_
  refine lv_iload_n hx hb dL_moveStone_5 rfl (lv_at hl 2 rfl) ?_
  refine lv_iload_n hx hb dL_moveStone_6 rfl (lv_at hl 3 rfl) ?_
  refine zX_V (pre := []) (wc := oW k b t M ++ kW cI k M ++ bW k B ++ sW cI b S ++ sW cI t T) (post := gW cJ o g) (w1 := oW k b t (mov_M M S y f x) ++ kW cI k (mov_M M S y f x) ++ bW k B ++ sW cI b (mov_S S y f x) ++ sW cI t T) ⟨hx, hb, hml, hown, hts⟩ (c_X3_moveStone l dC dI cI k b t h w M B S T y f x hG0 hLt) (cwV 3 hts gL_moveStone_X3_moveStone rfl rfl rfl (by decide +kernel) ⟨Nat.le_of_ble_eq_true rfl, Nat.le_of_ble_eq_true rfl⟩) rfl (hK.sub [0] rfl) hN hst (ci := 3) (q0 := 0) rfl rfl rfl hP hD hS hA rfl hl.1 rfl (Nat.le_of_ble_eq_true rfl) dL_moveStone_7 ⟨Nat.le_of_ble_eq_true rfl, Nat.le_of_ble_eq_true rfl⟩ (fun hne ce q9 H locs hP hD hS h7 h8 h9 => ?_) (fun hz H locs hP hD hS => ?_)
  · have hP : va_P (dC, dI) vwCl (oW k b t (zs (mov_T S y f x) (mov_M M S y f x) M) ++ kW cI k (zs (mov_T S y f x) (mov_M M S y f x) M) ++ bW k B ++ sW cI b (zs (mov_T S y f x) (mov_S S y f x) S) ++ sW cI t T ++ gW cJ o (zl (mov_T S y f x) (vp_updL g (0 : Int32).toNatClampNeg (mov_V S y f x).toInt64) g)) H := by simp only [zs, zl, if_neg hne]; exact hP
    have hD : va_D A (oW k b t (zs (mov_T S y f x) (mov_M M S y f x) M) ++ kW cI k (zs (mov_T S y f x) (mov_M M S y f x) M) ++ bW k B ++ sW cI b (zs (mov_T S y f x) (mov_S S y f x) S) ++ sW cI t T ++ gW cJ o (zl (mov_T S y f x) (vp_updL g (0 : Int32).toNatClampNeg (mov_V S y f x).toInt64) g)) := by simp only [zs, zl, if_neg hne]; exact hD
    rcases moveStone_vals S y f x with h0 | h0 | h0
    · exact absurd h0 hne
    · rw [h0] at h9
      have h9 : s.vm.findClass "java/lang/IndexOutOfBoundsException" = some ce.cls := h9
      refine vx_catch (E := "java/lang/IndexOutOfBoundsException") (name := "java/lang/IndexOutOfBoundsException") hown [] ⟨0, 12, 15, 19⟩ [⟨0, 12, 19, 13⟩] htab (fun z hz => absurd hz List.not_mem_nil) rfl (by decide) hk19 (va_Nw.use rfl (hst.2.2.2.2 "java/lang/IndexOutOfBoundsException" (by decide))) h7 h8 h9 ?_
      refine lv_astore (lv' := [(5, .ref q9), (0, .ref (k 0)), (1, .int y), (2, .int f), (3, .int x), (4, .ref o)]) hx hb dL_moveStone_15 hl (by decide) rfl (fun ls hl => ?_)
      refine lv_iconst (v := 1) hx hb dL_moveStone_17 (by decide) ?_
      exact zY_ret hx hb hr hlocks hP hD hS rfl h0.symm dL_moveStone_18 (Nat.le_of_ble_eq_true rfl) (Nat.le_of_ble_eq_true rfl)
    · rw [h0] at h9
      have h9 : s.vm.findClass "java/lang/IllegalArgumentException" = some ce.cls := h9
      refine vx_catch (E := "java/lang/IllegalArgumentException") (name := "java/lang/IllegalArgumentException") hown [⟨0, 12, 15, 19⟩] ⟨0, 12, 19, 13⟩ [] htab (?_) rfl (by decide) hk13 (va_Nw.use rfl (hst.2.2.2.2 "java/lang/IllegalArgumentException" (by decide))) h7 h8 h9 ?_
      · intro z hz
        simp only [List.mem_cons, List.not_mem_nil, or_false] at hz
        rcases hz with rfl
        · exact Or.inr ⟨by decide, "java/lang/IndexOutOfBoundsException", hk19, hC ("java/lang/IllegalArgumentException", "java/lang/IndexOutOfBoundsException") (by decide)⟩
      refine lv_astore (lv' := [(5, .ref q9), (0, .ref (k 0)), (1, .int y), (2, .int f), (3, .int x), (4, .ref o)]) hx hb dL_moveStone_19 hl (by decide) rfl (fun ls hl => ?_)
      refine lv_iconst (v := 2) hx hb dL_moveStone_21 (by decide) ?_
      exact zY_ret hx hb hr hlocks hP hD hS rfl h0.symm dL_moveStone_22 (Nat.le_of_ble_eq_true rfl) (Nat.le_of_ble_eq_true rfl)
  · refine lv_i2l (v := (mov_V S y f x).toInt64) hx hb dL_moveStone_10 rfl ?_
    refine va_last (cA := cJ) (n := 1) (f := g) hx hb hK hP hD hS 34 1 rfl rfl (show vp_in (nI 0) 1 from vp_in_nI (by decide) (by decide)) dL_moveStone_11 (fun H locs hP hD hS => ?_)
    have hP : va_P (dC, dI) vwCl (oW k b t (zs (mov_T S y f x) (mov_M M S y f x) M) ++ kW cI k (zs (mov_T S y f x) (mov_M M S y f x) M) ++ bW k B ++ sW cI b (zs (mov_T S y f x) (mov_S S y f x) S) ++ sW cI t T ++ gW cJ o (zl (mov_T S y f x) (vp_updL g (0 : Int32).toNatClampNeg (mov_V S y f x).toInt64) g)) H := by simp only [zs, zl, if_pos hz]; exact hP
    have hD : va_D A (oW k b t (zs (mov_T S y f x) (mov_M M S y f x) M) ++ kW cI k (zs (mov_T S y f x) (mov_M M S y f x) M) ++ bW k B ++ sW cI b (zs (mov_T S y f x) (mov_S S y f x) S) ++ sW cI t T ++ gW cJ o (zl (mov_T S y f x) (vp_updL g (0 : Int32).toNatClampNeg (mov_V S y f x).toInt64) g)) := by simp only [zs, zl, if_pos hz]; exact hD
    refine lv_goto (tgt := 23) hx hb dL_moveStone_12 (by decide) ?_
    refine lv_iconst (v := 0) hx hb dL_moveStone_23 (by decide) ?_
    exact zY_ret hx hb hr hlocks hP hD hS rfl hz.symm dL_moveStone_24 (Nat.le_of_ble_eq_true rfl) (Nat.le_of_ble_eq_true rfl)
theorem turn_vals (S : sS) (y f x : Int32) : trn_T S y f x = 0 ∨ trn_T S y f x = 1 ∨ trn_T S y f x = 2 := by
  unfold trn_T
  (repeat' split) <;> decide
set_option maxHeartbeats 4000000 in
set_option maxRecDepth 100000 in
theorem c_L_turn (l : Launch) (dC : Nat → ClassId) (dI : Nat → Nat → Nat) (cI cJ : ClassId) (k b t : Nat → Nat) (h w : Nat) (M B S T : sS) (o : Nat) (g : Nat → Int64) (y f x : Int32) (hG0 : geo h w S) (hLt : l.stackTraces = false) : zY l yL_turn wsL_turn { frames := 7, cells := 1, slots := 6, locals := 115 } (dC, dI) cI cJ [.ref (k 0), .int y, .int f, .int x, .ref o] (oW k b t M ++ kW cI k M ++ bW k B ++ sW cI b S ++ sW cI t T ++ gW cJ o g) (oW k b t M ++ kW cI k M ++ bW k B ++ sW cI b (zs (trn_T S y f x) (trn_S S y f x) S) ++ sW cI t T ++ gW cJ o (zl (trn_T S y f x) (vp_updL g (0 : Int32).toNatClampNeg (S 6 (sl_k S y f)).toInt64) g)) (trn_T S y f x) := by
  refine zY_of (cc := cL_turn) (maxL := 6) (ret := (some .int)) (hh :=  [(0, 12, 15, 19), (0, 12, 19, 13)]) (by decide) rfl (Nat.le_of_ble_eq_true rfl) ?_
  intro p e s m below meth c A ls C0 htab hl
  obtain ⟨hx, hb, hr, hml, hown, hts, hlocks, hK, hN, hA, hP, hD, hS, hst, hC⟩ := C0
  have hown : s.vm.findClass RL = some m.cls := hown
  have hl : lv_has ls 6 [(0, .ref (k 0)), (1, .int y), (2, .int f), (3, .int x), (4, .ref o)] := hl
  have hk19 := hts (.classLink RL 19 "java/lang/IndexOutOfBoundsException") (by decide +kernel)
  have hk13 := hts (.classLink RL 13 "java/lang/IllegalArgumentException") (by decide +kernel)
  refine lv_aload hx hb dL_turn_0 (lv_at hl 4 rfl) ?_
  refine lv_iconst (v := 0) hx hb dL_turn_2 (by decide) ?_
  refine lv_aload_n hx hb dL_turn_3 rfl (lv_at hl 0 rfl) ?_
  refine lv_iload_n hx hb dL_turn_4 rfl (lv_at hl 1 rfl) ?_
  refine lv_iload_n hx hb dL_turn_5 rfl (lv_at hl 2 rfl) ?_
  refine lv_iload_n hx hb dL_turn_6 rfl (lv_at hl 3 rfl) ?_
  refine zX_V (pre := []) (wc := oW k b t M ++ kW cI k M ++ bW k B ++ sW cI b S ++ sW cI t T) (post := gW cJ o g) (w1 := oW k b t M ++ kW cI k M ++ bW k B ++ sW cI b (trn_S S y f x) ++ sW cI t T) ⟨hx, hb, hml, hown, hts⟩ (c_X3_turn l dC dI cI k b t h w M B S T y f x hG0 hLt) (cwV 3 hts gL_turn_X3_turn rfl rfl rfl (by decide +kernel) ⟨Nat.le_of_ble_eq_true rfl, Nat.le_of_ble_eq_true rfl⟩) rfl (hK.sub [0] rfl) hN hst (ci := 3) (q0 := 0) rfl rfl rfl hP hD hS hA rfl hl.1 rfl (Nat.le_of_ble_eq_true rfl) dL_turn_7 ⟨Nat.le_of_ble_eq_true rfl, Nat.le_of_ble_eq_true rfl⟩ (fun hne ce q9 H locs hP hD hS h7 h8 h9 => ?_) (fun hz H locs hP hD hS => ?_)
  · have hP : va_P (dC, dI) vwCl (oW k b t M ++ kW cI k M ++ bW k B ++ sW cI b (zs (trn_T S y f x) (trn_S S y f x) S) ++ sW cI t T ++ gW cJ o (zl (trn_T S y f x) (vp_updL g (0 : Int32).toNatClampNeg (S 6 (sl_k S y f)).toInt64) g)) H := by simp only [zs, zl, if_neg hne]; exact hP
    have hD : va_D A (oW k b t M ++ kW cI k M ++ bW k B ++ sW cI b (zs (trn_T S y f x) (trn_S S y f x) S) ++ sW cI t T ++ gW cJ o (zl (trn_T S y f x) (vp_updL g (0 : Int32).toNatClampNeg (S 6 (sl_k S y f)).toInt64) g)) := by simp only [zs, zl, if_neg hne]; exact hD
    rcases turn_vals S y f x with h0 | h0 | h0
    · exact absurd h0 hne
    · rw [h0] at h9
      have h9 : s.vm.findClass "java/lang/IndexOutOfBoundsException" = some ce.cls := h9
      refine vx_catch (E := "java/lang/IndexOutOfBoundsException") (name := "java/lang/IndexOutOfBoundsException") hown [] ⟨0, 12, 15, 19⟩ [⟨0, 12, 19, 13⟩] htab (fun z hz => absurd hz List.not_mem_nil) rfl (by decide) hk19 (va_Nw.use rfl (hst.2.2.2.2 "java/lang/IndexOutOfBoundsException" (by decide))) h7 h8 h9 ?_
      refine lv_astore (lv' := [(5, .ref q9), (0, .ref (k 0)), (1, .int y), (2, .int f), (3, .int x), (4, .ref o)]) hx hb dL_turn_15 hl (by decide) rfl (fun ls hl => ?_)
      refine lv_iconst (v := 1) hx hb dL_turn_17 (by decide) ?_
      exact zY_ret hx hb hr hlocks hP hD hS rfl h0.symm dL_turn_18 (Nat.le_of_ble_eq_true rfl) (Nat.le_of_ble_eq_true rfl)
    · rw [h0] at h9
      have h9 : s.vm.findClass "java/lang/IllegalArgumentException" = some ce.cls := h9
      refine vx_catch (E := "java/lang/IllegalArgumentException") (name := "java/lang/IllegalArgumentException") hown [⟨0, 12, 15, 19⟩] ⟨0, 12, 19, 13⟩ [] htab (?_) rfl (by decide) hk13 (va_Nw.use rfl (hst.2.2.2.2 "java/lang/IllegalArgumentException" (by decide))) h7 h8 h9 ?_
      · intro z hz
        simp only [List.mem_cons, List.not_mem_nil, or_false] at hz
        rcases hz with rfl
        · exact Or.inr ⟨by decide, "java/lang/IndexOutOfBoundsException", hk19, hC ("java/lang/IllegalArgumentException", "java/lang/IndexOutOfBoundsException") (by decide)⟩
      refine lv_astore (lv' := [(5, .ref q9), (0, .ref (k 0)), (1, .int y), (2, .int f), (3, .int x), (4, .ref o)]) hx hb dL_turn_19 hl (by decide) rfl (fun ls hl => ?_)
      refine lv_iconst (v := 2) hx hb dL_turn_21 (by decide) ?_
      exact zY_ret hx hb hr hlocks hP hD hS rfl h0.symm dL_turn_22 (Nat.le_of_ble_eq_true rfl) (Nat.le_of_ble_eq_true rfl)
  · refine lv_i2l (v := (S 6 (sl_k S y f)).toInt64) hx hb dL_turn_10 rfl ?_
    refine va_last (cA := cJ) (n := 1) (f := g) hx hb hK hP hD hS 34 1 rfl rfl (show vp_in (nI 0) 1 from vp_in_nI (by decide) (by decide)) dL_turn_11 (fun H locs hP hD hS => ?_)
    have hP : va_P (dC, dI) vwCl (oW k b t M ++ kW cI k M ++ bW k B ++ sW cI b (zs (trn_T S y f x) (trn_S S y f x) S) ++ sW cI t T ++ gW cJ o (zl (trn_T S y f x) (vp_updL g (0 : Int32).toNatClampNeg (S 6 (sl_k S y f)).toInt64) g)) H := by simp only [zs, zl, if_pos hz]; exact hP
    have hD : va_D A (oW k b t M ++ kW cI k M ++ bW k B ++ sW cI b (zs (trn_T S y f x) (trn_S S y f x) S) ++ sW cI t T ++ gW cJ o (zl (trn_T S y f x) (vp_updL g (0 : Int32).toNatClampNeg (S 6 (sl_k S y f)).toInt64) g)) := by simp only [zs, zl, if_pos hz]; exact hD
    refine lv_goto (tgt := 23) hx hb dL_turn_12 (by decide) ?_
    refine lv_iconst (v := 0) hx hb dL_turn_23 (by decide) ?_
    exact zY_ret hx hb hr hlocks hP hD hS rfl hz.symm dL_turn_24 (Nat.le_of_ble_eq_true rfl) (Nat.le_of_ble_eq_true rfl)
theorem setShare_vals (S : sS) (f x : Int32) : shr_T S f x = 0 ∨ shr_T S f x = 1 ∨ shr_T S f x = 2 := by
  unfold shr_T
  (repeat' split) <;> decide
set_option maxHeartbeats 4000000 in
set_option maxRecDepth 100000 in
theorem c_L_setShare (l : Launch) (dC : Nat → ClassId) (dI : Nat → Nat → Nat) (cI cJ : ClassId) (k b t : Nat → Nat) (h w : Nat) (M B S T : sS) (o : Nat) (g : Nat → Int64) (f x : Int32) (hG0 : geo h w S) (hLt : l.stackTraces = false) : zY l yL_setShare wsL_setShare { frames := 7, cells := 1, slots := 6, locals := 113 } (dC, dI) cI cJ [.ref (k 0), .int f, .int x, .ref o] (oW k b t M ++ kW cI k M ++ bW k B ++ sW cI b S ++ sW cI t T ++ gW cJ o g) (oW k b t M ++ kW cI k M ++ bW k B ++ sW cI b (zs (shr_T S f x) (shr_S S f x) S) ++ sW cI t T ++ gW cJ o (zl (shr_T S f x) (vp_updL g (0 : Int32).toNatClampNeg (S 1 f.toNatClampNeg).toInt64) g)) (shr_T S f x) := by
  refine zY_of (cc := cL_setShare) (maxL := 5) (ret := (some .int)) (hh :=  [(0, 10, 13, 19), (0, 10, 17, 13)]) (by decide) rfl (Nat.le_of_ble_eq_true rfl) ?_
  intro p e s m below meth c A ls C0 htab hl
  obtain ⟨hx, hb, hr, hml, hown, hts, hlocks, hK, hN, hA, hP, hD, hS, hst, hC⟩ := C0
  have hown : s.vm.findClass RL = some m.cls := hown
  have hl : lv_has ls 5 [(0, .ref (k 0)), (1, .int f), (2, .int x), (3, .ref o)] := hl
  have hk19 := hts (.classLink RL 19 "java/lang/IndexOutOfBoundsException") (by decide +kernel)
  have hk13 := hts (.classLink RL 13 "java/lang/IllegalArgumentException") (by decide +kernel)
  refine lv_aload_n hx hb dL_setShare_0 rfl (lv_at hl 3 rfl) ?_
  refine lv_iconst (v := 0) hx hb dL_setShare_1 (by decide) ?_
  refine lv_aload_n hx hb dL_setShare_2 rfl (lv_at hl 0 rfl) ?_
  refine lv_iload_n hx hb dL_setShare_3 rfl (lv_at hl 1 rfl) ?_
  refine lv_iload_n hx hb dL_setShare_4 rfl (lv_at hl 2 rfl) ?_
  refine zX_V (pre := []) (wc := oW k b t M ++ kW cI k M ++ bW k B ++ sW cI b S ++ sW cI t T) (post := gW cJ o g) (w1 := oW k b t M ++ kW cI k M ++ bW k B ++ sW cI b (shr_S S f x) ++ sW cI t T) ⟨hx, hb, hml, hown, hts⟩ (c_X3_setShare l dC dI cI k b t h w M B S T f x hG0 hLt) (cwV 2 hts gL_setShare_X3_setShare rfl rfl rfl (by decide +kernel) ⟨Nat.le_of_ble_eq_true rfl, Nat.le_of_ble_eq_true rfl⟩) rfl (hK.sub [0] rfl) hN hst (ci := 3) (q0 := 0) rfl rfl rfl hP hD hS hA rfl hl.1 rfl (Nat.le_of_ble_eq_true rfl) dL_setShare_5 ⟨Nat.le_of_ble_eq_true rfl, Nat.le_of_ble_eq_true rfl⟩ (fun hne ce q9 H locs hP hD hS h7 h8 h9 => ?_) (fun hz H locs hP hD hS => ?_)
  · have hP : va_P (dC, dI) vwCl (oW k b t M ++ kW cI k M ++ bW k B ++ sW cI b (zs (shr_T S f x) (shr_S S f x) S) ++ sW cI t T ++ gW cJ o (zl (shr_T S f x) (vp_updL g (0 : Int32).toNatClampNeg (S 1 f.toNatClampNeg).toInt64) g)) H := by simp only [zs, zl, if_neg hne]; exact hP
    have hD : va_D A (oW k b t M ++ kW cI k M ++ bW k B ++ sW cI b (zs (shr_T S f x) (shr_S S f x) S) ++ sW cI t T ++ gW cJ o (zl (shr_T S f x) (vp_updL g (0 : Int32).toNatClampNeg (S 1 f.toNatClampNeg).toInt64) g)) := by simp only [zs, zl, if_neg hne]; exact hD
    rcases setShare_vals S f x with h0 | h0 | h0
    · exact absurd h0 hne
    · rw [h0] at h9
      have h9 : s.vm.findClass "java/lang/IndexOutOfBoundsException" = some ce.cls := h9
      refine vx_catch (E := "java/lang/IndexOutOfBoundsException") (name := "java/lang/IndexOutOfBoundsException") hown [] ⟨0, 10, 13, 19⟩ [⟨0, 10, 17, 13⟩] htab (fun z hz => absurd hz List.not_mem_nil) rfl (by decide) hk19 (va_Nw.use rfl (hst.2.2.2.2 "java/lang/IndexOutOfBoundsException" (by decide))) h7 h8 h9 ?_
      refine lv_astore (lv' := [(4, .ref q9), (0, .ref (k 0)), (1, .int f), (2, .int x), (3, .ref o)]) hx hb dL_setShare_13 hl (by decide) rfl (fun ls hl => ?_)
      refine lv_iconst (v := 1) hx hb dL_setShare_15 (by decide) ?_
      exact zY_ret hx hb hr hlocks hP hD hS rfl h0.symm dL_setShare_16 (Nat.le_of_ble_eq_true rfl) (Nat.le_of_ble_eq_true rfl)
    · rw [h0] at h9
      have h9 : s.vm.findClass "java/lang/IllegalArgumentException" = some ce.cls := h9
      refine vx_catch (E := "java/lang/IllegalArgumentException") (name := "java/lang/IllegalArgumentException") hown [⟨0, 10, 13, 19⟩] ⟨0, 10, 17, 13⟩ [] htab (?_) rfl (by decide) hk13 (va_Nw.use rfl (hst.2.2.2.2 "java/lang/IllegalArgumentException" (by decide))) h7 h8 h9 ?_
      · intro z hz
        simp only [List.mem_cons, List.not_mem_nil, or_false] at hz
        rcases hz with rfl
        · exact Or.inr ⟨by decide, "java/lang/IndexOutOfBoundsException", hk19, hC ("java/lang/IllegalArgumentException", "java/lang/IndexOutOfBoundsException") (by decide)⟩
      refine lv_astore (lv' := [(4, .ref q9), (0, .ref (k 0)), (1, .int f), (2, .int x), (3, .ref o)]) hx hb dL_setShare_17 hl (by decide) rfl (fun ls hl => ?_)
      refine lv_iconst (v := 2) hx hb dL_setShare_19 (by decide) ?_
      exact zY_ret hx hb hr hlocks hP hD hS rfl h0.symm dL_setShare_20 (Nat.le_of_ble_eq_true rfl) (Nat.le_of_ble_eq_true rfl)
  · refine lv_i2l (v := (S 1 f.toNatClampNeg).toInt64) hx hb dL_setShare_8 rfl ?_
    refine va_last (cA := cJ) (n := 1) (f := g) hx hb hK hP hD hS 34 1 rfl rfl (show vp_in (nI 0) 1 from vp_in_nI (by decide) (by decide)) dL_setShare_9 (fun H locs hP hD hS => ?_)
    have hP : va_P (dC, dI) vwCl (oW k b t M ++ kW cI k M ++ bW k B ++ sW cI b (zs (shr_T S f x) (shr_S S f x) S) ++ sW cI t T ++ gW cJ o (zl (shr_T S f x) (vp_updL g (0 : Int32).toNatClampNeg (S 1 f.toNatClampNeg).toInt64) g)) H := by simp only [zs, zl, if_pos hz]; exact hP
    have hD : va_D A (oW k b t M ++ kW cI k M ++ bW k B ++ sW cI b (zs (shr_T S f x) (shr_S S f x) S) ++ sW cI t T ++ gW cJ o (zl (shr_T S f x) (vp_updL g (0 : Int32).toNatClampNeg (S 1 f.toNatClampNeg).toInt64) g)) := by simp only [zs, zl, if_pos hz]; exact hD
    refine lv_goto (tgt := 21) hx hb dL_setShare_10 (by decide) ?_
    refine lv_iconst (v := 0) hx hb dL_setShare_21 (by decide) ?_
    exact zY_ret hx hb hr hlocks hP hD hS rfl hz.symm dL_setShare_22 (Nat.le_of_ble_eq_true rfl) (Nat.le_of_ble_eq_true rfl)
theorem setDay_vals (i u v x : Int32) : day_T i u v x = 0 ∨ day_T i u v x = 1 ∨ day_T i u v x = 2 := by
  unfold day_T
  (repeat' split) <;> decide
set_option maxHeartbeats 4000000 in
set_option maxRecDepth 100000 in
theorem c_L_setDay (l : Launch) (dC : Nat → ClassId) (dI : Nat → Nat → Nat) (cI cJ : ClassId) (k b t : Nat → Nat) (h w : Nat) (M B S T : sS) (o : Nat) (g : Nat → Int64) (i u v x : Int32)  (hLt : l.stackTraces = false) : zY l yL_setDay wsL_setDay { frames := 7, cells := 1, slots := 6, locals := 115 } (dC, dI) cI cJ [.ref (k 0), .int i, .int u, .int v, .int x, .ref o] (oW k b t M ++ kW cI k M ++ bW k B ++ sW cI b S ++ sW cI t T ++ gW cJ o g) (oW k b t (zs (day_T i u v x) (day_M M i u v x) M) ++ kW cI k (zs (day_T i u v x) (day_M M i u v x) M) ++ bW k B ++ sW cI b S ++ sW cI t T ++ gW cJ o (zl (day_T i u v x) (vp_updL g (0 : Int32).toNatClampNeg (M 2 i.toNatClampNeg).toInt64) g)) (day_T i u v x) := by
  refine zY_of (cc := cL_setDay) (maxL := 7) (ret := (some .int)) (hh :=  [(0, 14, 17, 19), (0, 14, 21, 13)]) (by decide) rfl (Nat.le_of_ble_eq_true rfl) ?_
  intro p e s m below meth c A ls C0 htab hl
  obtain ⟨hx, hb, hr, hml, hown, hts, hlocks, hK, hN, hA, hP, hD, hS, hst, hC⟩ := C0
  have hown : s.vm.findClass RL = some m.cls := hown
  have hl : lv_has ls 7 [(0, .ref (k 0)), (1, .int i), (2, .int u), (3, .int v), (4, .int x), (5, .ref o)] := hl
  have hk19 := hts (.classLink RL 19 "java/lang/IndexOutOfBoundsException") (by decide +kernel)
  have hk13 := hts (.classLink RL 13 "java/lang/IllegalArgumentException") (by decide +kernel)
  refine lv_aload hx hb dL_setDay_0 (lv_at hl 5 rfl) ?_
  refine lv_iconst (v := 0) hx hb dL_setDay_2 (by decide) ?_
  refine lv_aload_n hx hb dL_setDay_3 rfl (lv_at hl 0 rfl) ?_
  refine lv_iload_n hx hb dL_setDay_4 rfl (lv_at hl 1 rfl) ?_
  refine lv_iload_n hx hb dL_setDay_5 rfl (lv_at hl 2 rfl) ?_
  refine lv_iload_n hx hb dL_setDay_6 rfl (lv_at hl 3 rfl) ?_
  refine lv_iload hx hb dL_setDay_7 (lv_at hl 4 rfl) ?_
  refine zX_V (pre := []) (wc := oW k b t M ++ kW cI k M ++ bW k B ++ sW cI b S ++ sW cI t T) (post := gW cJ o g) (w1 := oW k b t (day_M M i u v x) ++ kW cI k (day_M M i u v x) ++ bW k B ++ sW cI b S ++ sW cI t T) ⟨hx, hb, hml, hown, hts⟩ (c_X3_setDay l dC dI cI k b t h w M B S T i u v x  hLt) (cwV 4 hts gL_setDay_X3_setDay rfl rfl rfl (by decide +kernel) ⟨Nat.le_of_ble_eq_true rfl, Nat.le_of_ble_eq_true rfl⟩) rfl (hK.sub [0] rfl) hN hst (ci := 3) (q0 := 0) rfl rfl rfl hP hD hS hA rfl hl.1 rfl (Nat.le_of_ble_eq_true rfl) dL_setDay_9 ⟨Nat.le_of_ble_eq_true rfl, Nat.le_of_ble_eq_true rfl⟩ (fun hne ce q9 H locs hP hD hS h7 h8 h9 => ?_) (fun hz H locs hP hD hS => ?_)
  · have hP : va_P (dC, dI) vwCl (oW k b t (zs (day_T i u v x) (day_M M i u v x) M) ++ kW cI k (zs (day_T i u v x) (day_M M i u v x) M) ++ bW k B ++ sW cI b S ++ sW cI t T ++ gW cJ o (zl (day_T i u v x) (vp_updL g (0 : Int32).toNatClampNeg (M 2 i.toNatClampNeg).toInt64) g)) H := by simp only [zs, zl, if_neg hne]; exact hP
    have hD : va_D A (oW k b t (zs (day_T i u v x) (day_M M i u v x) M) ++ kW cI k (zs (day_T i u v x) (day_M M i u v x) M) ++ bW k B ++ sW cI b S ++ sW cI t T ++ gW cJ o (zl (day_T i u v x) (vp_updL g (0 : Int32).toNatClampNeg (M 2 i.toNatClampNeg).toInt64) g)) := by simp only [zs, zl, if_neg hne]; exact hD
    rcases setDay_vals i u v x with h0 | h0 | h0
    · exact absurd h0 hne
    · rw [h0] at h9
      have h9 : s.vm.findClass "java/lang/IndexOutOfBoundsException" = some ce.cls := h9
      refine vx_catch (E := "java/lang/IndexOutOfBoundsException") (name := "java/lang/IndexOutOfBoundsException") hown [] ⟨0, 14, 17, 19⟩ [⟨0, 14, 21, 13⟩] htab (fun z hz => absurd hz List.not_mem_nil) rfl (by decide) hk19 (va_Nw.use rfl (hst.2.2.2.2 "java/lang/IndexOutOfBoundsException" (by decide))) h7 h8 h9 ?_
      refine lv_astore (lv' := [(6, .ref q9), (0, .ref (k 0)), (1, .int i), (2, .int u), (3, .int v), (4, .int x), (5, .ref o)]) hx hb dL_setDay_17 hl (by decide) rfl (fun ls hl => ?_)
      refine lv_iconst (v := 1) hx hb dL_setDay_19 (by decide) ?_
      exact zY_ret hx hb hr hlocks hP hD hS rfl h0.symm dL_setDay_20 (Nat.le_of_ble_eq_true rfl) (Nat.le_of_ble_eq_true rfl)
    · rw [h0] at h9
      have h9 : s.vm.findClass "java/lang/IllegalArgumentException" = some ce.cls := h9
      refine vx_catch (E := "java/lang/IllegalArgumentException") (name := "java/lang/IllegalArgumentException") hown [⟨0, 14, 17, 19⟩] ⟨0, 14, 21, 13⟩ [] htab (?_) rfl (by decide) hk13 (va_Nw.use rfl (hst.2.2.2.2 "java/lang/IllegalArgumentException" (by decide))) h7 h8 h9 ?_
      · intro z hz
        simp only [List.mem_cons, List.not_mem_nil, or_false] at hz
        rcases hz with rfl
        · exact Or.inr ⟨by decide, "java/lang/IndexOutOfBoundsException", hk19, hC ("java/lang/IllegalArgumentException", "java/lang/IndexOutOfBoundsException") (by decide)⟩
      refine lv_astore (lv' := [(6, .ref q9), (0, .ref (k 0)), (1, .int i), (2, .int u), (3, .int v), (4, .int x), (5, .ref o)]) hx hb dL_setDay_21 hl (by decide) rfl (fun ls hl => ?_)
      refine lv_iconst (v := 2) hx hb dL_setDay_23 (by decide) ?_
      exact zY_ret hx hb hr hlocks hP hD hS rfl h0.symm dL_setDay_24 (Nat.le_of_ble_eq_true rfl) (Nat.le_of_ble_eq_true rfl)
  · refine lv_i2l (v := (M 2 i.toNatClampNeg).toInt64) hx hb dL_setDay_12 rfl ?_
    refine va_last (cA := cJ) (n := 1) (f := g) hx hb hK hP hD hS 34 1 rfl rfl (show vp_in (nI 0) 1 from vp_in_nI (by decide) (by decide)) dL_setDay_13 (fun H locs hP hD hS => ?_)
    have hP : va_P (dC, dI) vwCl (oW k b t (zs (day_T i u v x) (day_M M i u v x) M) ++ kW cI k (zs (day_T i u v x) (day_M M i u v x) M) ++ bW k B ++ sW cI b S ++ sW cI t T ++ gW cJ o (zl (day_T i u v x) (vp_updL g (0 : Int32).toNatClampNeg (M 2 i.toNatClampNeg).toInt64) g)) H := by simp only [zs, zl, if_pos hz]; exact hP
    have hD : va_D A (oW k b t (zs (day_T i u v x) (day_M M i u v x) M) ++ kW cI k (zs (day_T i u v x) (day_M M i u v x) M) ++ bW k B ++ sW cI b S ++ sW cI t T ++ gW cJ o (zl (day_T i u v x) (vp_updL g (0 : Int32).toNatClampNeg (M 2 i.toNatClampNeg).toInt64) g)) := by simp only [zs, zl, if_pos hz]; exact hD
    refine lv_goto (tgt := 25) hx hb dL_setDay_14 (by decide) ?_
    refine lv_iconst (v := 0) hx hb dL_setDay_25 (by decide) ?_
    exact zY_ret hx hb hr hlocks hP hD hS rfl hz.symm dL_setDay_26 (Nat.le_of_ble_eq_true rfl) (Nat.le_of_ble_eq_true rfl)
theorem plant_vals (S : sS) (y f x : Int32) : pla_T S y f x = 0 ∨ pla_T S y f x = 1 ∨ pla_T S y f x = 2 ∨ pla_T S y f x = 3 := by
  unfold pla_T
  (repeat' split) <;> decide
set_option maxHeartbeats 4000000 in
set_option maxRecDepth 100000 in
theorem c_L_plant (l : Launch) (dC : Nat → ClassId) (dI : Nat → Nat → Nat) (cI cJ : ClassId) (k b t : Nat → Nat) (h w : Nat) (M B S T : sS) (o : Nat) (g : Nat → Int64) (y f x : Int32) (hG0 : geo h w S) (hLt : l.stackTraces = false) : zY l yL_plant wsL_plant { frames := 7, cells := 1, slots := 6, locals := 114 } (dC, dI) cI cJ [.ref (k 0), .int y, .int f, .int x, .ref o] (oW k b t M ++ kW cI k M ++ bW k B ++ sW cI b S ++ sW cI t T ++ gW cJ o g) (oW k b t M ++ kW cI k M ++ bW k B ++ sW cI b (zs (pla_T S y f x) (pla_S S y f x) S) ++ sW cI t T ++ gW cJ o (zl (pla_T S y f x) (vp_updL g (0 : Int32).toNatClampNeg (sl_sum h w (pla_S S y f x) 7).toInt64) g)) (pla_T S y f x) := by
  refine zY_of (cc := cL_plant) (maxL := 6) (ret := (some .int)) (hh :=  [(0, 12, 15, 19), (0, 12, 19, 13), (0, 12, 23, 37)]) (by decide) rfl (Nat.le_of_ble_eq_true rfl) ?_
  intro p e s m below meth c A ls C0 htab hl
  obtain ⟨hx, hb, hr, hml, hown, hts, hlocks, hK, hN, hA, hP, hD, hS, hst, hC⟩ := C0
  have hown : s.vm.findClass RL = some m.cls := hown
  have hl : lv_has ls 6 [(0, .ref (k 0)), (1, .int y), (2, .int f), (3, .int x), (4, .ref o)] := hl
  have hk19 := hts (.classLink RL 19 "java/lang/IndexOutOfBoundsException") (by decide +kernel)
  have hk13 := hts (.classLink RL 13 "java/lang/IllegalArgumentException") (by decide +kernel)
  have hk37 := hts (.classLink RL 37 "java/lang/IllegalStateException") (by decide +kernel)
  refine lv_aload hx hb dL_plant_0 (lv_at hl 4 rfl) ?_
  refine lv_iconst (v := 0) hx hb dL_plant_2 (by decide) ?_
  refine lv_aload_n hx hb dL_plant_3 rfl (lv_at hl 0 rfl) ?_
  refine lv_iload_n hx hb dL_plant_4 rfl (lv_at hl 1 rfl) ?_
  refine lv_iload_n hx hb dL_plant_5 rfl (lv_at hl 2 rfl) ?_
  refine lv_iload_n hx hb dL_plant_6 rfl (lv_at hl 3 rfl) ?_
  refine zX_V (pre := []) (wc := oW k b t M ++ kW cI k M ++ bW k B ++ sW cI b S ++ sW cI t T) (post := gW cJ o g) (w1 := oW k b t M ++ kW cI k M ++ bW k B ++ sW cI b (pla_S S y f x) ++ sW cI t T) ⟨hx, hb, hml, hown, hts⟩ (c_X3_plant l dC dI cI k b t h w M B S T y f x hG0 hLt) (cwV 3 hts gL_plant_X3_plant rfl rfl rfl (by decide +kernel) ⟨Nat.le_of_ble_eq_true rfl, Nat.le_of_ble_eq_true rfl⟩) rfl (hK.sub [0] rfl) hN hst (ci := 3) (q0 := 0) rfl rfl rfl hP hD hS hA rfl hl.1 rfl (Nat.le_of_ble_eq_true rfl) dL_plant_7 ⟨Nat.le_of_ble_eq_true rfl, Nat.le_of_ble_eq_true rfl⟩ (fun hne ce q9 H locs hP hD hS h7 h8 h9 => ?_) (fun hz H locs hP hD hS => ?_)
  · have hP : va_P (dC, dI) vwCl (oW k b t M ++ kW cI k M ++ bW k B ++ sW cI b (zs (pla_T S y f x) (pla_S S y f x) S) ++ sW cI t T ++ gW cJ o (zl (pla_T S y f x) (vp_updL g (0 : Int32).toNatClampNeg (sl_sum h w (pla_S S y f x) 7).toInt64) g)) H := by simp only [zs, zl, if_neg hne]; exact hP
    have hD : va_D A (oW k b t M ++ kW cI k M ++ bW k B ++ sW cI b (zs (pla_T S y f x) (pla_S S y f x) S) ++ sW cI t T ++ gW cJ o (zl (pla_T S y f x) (vp_updL g (0 : Int32).toNatClampNeg (sl_sum h w (pla_S S y f x) 7).toInt64) g)) := by simp only [zs, zl, if_neg hne]; exact hD
    rcases plant_vals S y f x with h0 | h0 | h0 | h0
    · exact absurd h0 hne
    · rw [h0] at h9
      have h9 : s.vm.findClass "java/lang/IndexOutOfBoundsException" = some ce.cls := h9
      refine vx_catch (E := "java/lang/IndexOutOfBoundsException") (name := "java/lang/IndexOutOfBoundsException") hown [] ⟨0, 12, 15, 19⟩ [⟨0, 12, 19, 13⟩, ⟨0, 12, 23, 37⟩] htab (fun z hz => absurd hz List.not_mem_nil) rfl (by decide) hk19 (va_Nw.use rfl (hst.2.2.2.2 "java/lang/IndexOutOfBoundsException" (by decide))) h7 h8 h9 ?_
      refine lv_astore (lv' := [(5, .ref q9), (0, .ref (k 0)), (1, .int y), (2, .int f), (3, .int x), (4, .ref o)]) hx hb dL_plant_15 hl (by decide) rfl (fun ls hl => ?_)
      refine lv_iconst (v := 1) hx hb dL_plant_17 (by decide) ?_
      exact zY_ret hx hb hr hlocks hP hD hS rfl h0.symm dL_plant_18 (Nat.le_of_ble_eq_true rfl) (Nat.le_of_ble_eq_true rfl)
    · rw [h0] at h9
      have h9 : s.vm.findClass "java/lang/IllegalArgumentException" = some ce.cls := h9
      refine vx_catch (E := "java/lang/IllegalArgumentException") (name := "java/lang/IllegalArgumentException") hown [⟨0, 12, 15, 19⟩] ⟨0, 12, 19, 13⟩ [⟨0, 12, 23, 37⟩] htab (?_) rfl (by decide) hk13 (va_Nw.use rfl (hst.2.2.2.2 "java/lang/IllegalArgumentException" (by decide))) h7 h8 h9 ?_
      · intro z hz
        simp only [List.mem_cons, List.not_mem_nil, or_false] at hz
        rcases hz with rfl
        · exact Or.inr ⟨by decide, "java/lang/IndexOutOfBoundsException", hk19, hC ("java/lang/IllegalArgumentException", "java/lang/IndexOutOfBoundsException") (by decide)⟩
      refine lv_astore (lv' := [(5, .ref q9), (0, .ref (k 0)), (1, .int y), (2, .int f), (3, .int x), (4, .ref o)]) hx hb dL_plant_19 hl (by decide) rfl (fun ls hl => ?_)
      refine lv_iconst (v := 2) hx hb dL_plant_21 (by decide) ?_
      exact zY_ret hx hb hr hlocks hP hD hS rfl h0.symm dL_plant_22 (Nat.le_of_ble_eq_true rfl) (Nat.le_of_ble_eq_true rfl)
    · rw [h0] at h9
      have h9 : s.vm.findClass "java/lang/IllegalStateException" = some ce.cls := h9
      refine vx_catch (E := "java/lang/IllegalStateException") (name := "java/lang/IllegalStateException") hown [⟨0, 12, 15, 19⟩, ⟨0, 12, 19, 13⟩] ⟨0, 12, 23, 37⟩ [] htab (?_) rfl (by decide) hk37 (va_Nw.use rfl (hst.2.2.2.2 "java/lang/IllegalStateException" (by decide))) h7 h8 h9 ?_
      · intro z hz
        simp only [List.mem_cons, List.not_mem_nil, or_false] at hz
        rcases hz with rfl | rfl
        · exact Or.inr ⟨by decide, "java/lang/IndexOutOfBoundsException", hk19, hC ("java/lang/IllegalStateException", "java/lang/IndexOutOfBoundsException") (by decide)⟩
        · exact Or.inr ⟨by decide, "java/lang/IllegalArgumentException", hk13, hC ("java/lang/IllegalStateException", "java/lang/IllegalArgumentException") (by decide)⟩
      refine lv_astore (lv' := [(5, .ref q9), (0, .ref (k 0)), (1, .int y), (2, .int f), (3, .int x), (4, .ref o)]) hx hb dL_plant_23 hl (by decide) rfl (fun ls hl => ?_)
      refine lv_iconst (v := 3) hx hb dL_plant_25 (by decide) ?_
      exact zY_ret hx hb hr hlocks hP hD hS rfl h0.symm dL_plant_26 (Nat.le_of_ble_eq_true rfl) (Nat.le_of_ble_eq_true rfl)
  · refine lv_i2l (v := (sl_sum h w (pla_S S y f x) 7).toInt64) hx hb dL_plant_10 rfl ?_
    refine va_last (cA := cJ) (n := 1) (f := g) hx hb hK hP hD hS 34 1 rfl rfl (show vp_in (nI 0) 1 from vp_in_nI (by decide) (by decide)) dL_plant_11 (fun H locs hP hD hS => ?_)
    have hP : va_P (dC, dI) vwCl (oW k b t M ++ kW cI k M ++ bW k B ++ sW cI b (zs (pla_T S y f x) (pla_S S y f x) S) ++ sW cI t T ++ gW cJ o (zl (pla_T S y f x) (vp_updL g (0 : Int32).toNatClampNeg (sl_sum h w (pla_S S y f x) 7).toInt64) g)) H := by simp only [zs, zl, if_pos hz]; exact hP
    have hD : va_D A (oW k b t M ++ kW cI k M ++ bW k B ++ sW cI b (zs (pla_T S y f x) (pla_S S y f x) S) ++ sW cI t T ++ gW cJ o (zl (pla_T S y f x) (vp_updL g (0 : Int32).toNatClampNeg (sl_sum h w (pla_S S y f x) 7).toInt64) g)) := by simp only [zs, zl, if_pos hz]; exact hD
    refine lv_goto (tgt := 27) hx hb dL_plant_12 (by decide) ?_
    refine lv_iconst (v := 0) hx hb dL_plant_27 (by decide) ?_
    exact zY_ret hx hb hr hlocks hP hD hS rfl hz.symm dL_plant_28 (Nat.le_of_ble_eq_true rfl) (Nat.le_of_ble_eq_true rfl)
theorem reap_vals (S : sS) (y f : Int32) : rea_T S y f = 0 ∨ rea_T S y f = 1 ∨ rea_T S y f = 2 := by
  unfold rea_T
  (repeat' split) <;> decide
set_option maxHeartbeats 4000000 in
set_option maxRecDepth 100000 in
theorem c_L_reap (l : Launch) (dC : Nat → ClassId) (dI : Nat → Nat → Nat) (cI cJ : ClassId) (k b t : Nat → Nat) (h w : Nat) (M B S T : sS) (o : Nat) (g : Nat → Int64) (y f : Int32) (hG0 : geo h w S) (hLt : l.stackTraces = false) : zY l yL_reap wsL_reap { frames := 7, cells := 1, slots := 6, locals := 114 } (dC, dI) cI cJ [.ref (k 0), .int y, .int f, .ref o] (oW k b t M ++ kW cI k M ++ bW k B ++ sW cI b S ++ sW cI t T ++ gW cJ o g) (oW k b t (zs (rea_T S y f) (rea_M M S y f) M) ++ kW cI k (zs (rea_T S y f) (rea_M M S y f) M) ++ bW k B ++ sW cI b (zs (rea_T S y f) (rea_S S y f) S) ++ sW cI t T ++ gW cJ o (zl (rea_T S y f) (vp_updL g (0 : Int32).toNatClampNeg (rea_V S y f).toInt64) g)) (rea_T S y f) := by
  refine zY_of (cc := cL_reap) (maxL := 5) (ret := (some .int)) (hh :=  [(0, 10, 13, 19), (0, 10, 17, 37)]) (by decide) rfl (Nat.le_of_ble_eq_true rfl) ?_
  intro p e s m below meth c A ls C0 htab hl
  obtain ⟨hx, hb, hr, hml, hown, hts, hlocks, hK, hN, hA, hP, hD, hS, hst, hC⟩ := C0
  have hown : s.vm.findClass RL = some m.cls := hown
  have hl : lv_has ls 5 [(0, .ref (k 0)), (1, .int y), (2, .int f), (3, .ref o)] := hl
  have hk19 := hts (.classLink RL 19 "java/lang/IndexOutOfBoundsException") (by decide +kernel)
  have hk37 := hts (.classLink RL 37 "java/lang/IllegalStateException") (by decide +kernel)
  refine lv_aload_n hx hb dL_reap_0 rfl (lv_at hl 3 rfl) ?_
  refine lv_iconst (v := 0) hx hb dL_reap_1 (by decide) ?_
  refine lv_aload_n hx hb dL_reap_2 rfl (lv_at hl 0 rfl) ?_
  refine lv_iload_n hx hb dL_reap_3 rfl (lv_at hl 1 rfl) ?_
  refine lv_iload_n hx hb dL_reap_4 rfl (lv_at hl 2 rfl) ?_
  refine zX_V (pre := []) (wc := oW k b t M ++ kW cI k M ++ bW k B ++ sW cI b S ++ sW cI t T) (post := gW cJ o g) (w1 := oW k b t (rea_M M S y f) ++ kW cI k (rea_M M S y f) ++ bW k B ++ sW cI b (rea_S S y f) ++ sW cI t T) ⟨hx, hb, hml, hown, hts⟩ (c_X3_reap l dC dI cI k b t h w M B S T y f hG0 hLt) (cwV 2 hts gL_reap_X3_reap rfl rfl rfl (by decide +kernel) ⟨Nat.le_of_ble_eq_true rfl, Nat.le_of_ble_eq_true rfl⟩) rfl (hK.sub [0] rfl) hN hst (ci := 3) (q0 := 0) rfl rfl rfl hP hD hS hA rfl hl.1 rfl (Nat.le_of_ble_eq_true rfl) dL_reap_5 ⟨Nat.le_of_ble_eq_true rfl, Nat.le_of_ble_eq_true rfl⟩ (fun hne ce q9 H locs hP hD hS h7 h8 h9 => ?_) (fun hz H locs hP hD hS => ?_)
  · have hP : va_P (dC, dI) vwCl (oW k b t (zs (rea_T S y f) (rea_M M S y f) M) ++ kW cI k (zs (rea_T S y f) (rea_M M S y f) M) ++ bW k B ++ sW cI b (zs (rea_T S y f) (rea_S S y f) S) ++ sW cI t T ++ gW cJ o (zl (rea_T S y f) (vp_updL g (0 : Int32).toNatClampNeg (rea_V S y f).toInt64) g)) H := by simp only [zs, zl, if_neg hne]; exact hP
    have hD : va_D A (oW k b t (zs (rea_T S y f) (rea_M M S y f) M) ++ kW cI k (zs (rea_T S y f) (rea_M M S y f) M) ++ bW k B ++ sW cI b (zs (rea_T S y f) (rea_S S y f) S) ++ sW cI t T ++ gW cJ o (zl (rea_T S y f) (vp_updL g (0 : Int32).toNatClampNeg (rea_V S y f).toInt64) g)) := by simp only [zs, zl, if_neg hne]; exact hD
    rcases reap_vals S y f with h0 | h0 | h0
    · exact absurd h0 hne
    · rw [h0] at h9
      have h9 : s.vm.findClass "java/lang/IndexOutOfBoundsException" = some ce.cls := h9
      refine vx_catch (E := "java/lang/IndexOutOfBoundsException") (name := "java/lang/IndexOutOfBoundsException") hown [] ⟨0, 10, 13, 19⟩ [⟨0, 10, 17, 37⟩] htab (fun z hz => absurd hz List.not_mem_nil) rfl (by decide) hk19 (va_Nw.use rfl (hst.2.2.2.2 "java/lang/IndexOutOfBoundsException" (by decide))) h7 h8 h9 ?_
      refine lv_astore (lv' := [(4, .ref q9), (0, .ref (k 0)), (1, .int y), (2, .int f), (3, .ref o)]) hx hb dL_reap_13 hl (by decide) rfl (fun ls hl => ?_)
      refine lv_iconst (v := 1) hx hb dL_reap_15 (by decide) ?_
      exact zY_ret hx hb hr hlocks hP hD hS rfl h0.symm dL_reap_16 (Nat.le_of_ble_eq_true rfl) (Nat.le_of_ble_eq_true rfl)
    · rw [h0] at h9
      have h9 : s.vm.findClass "java/lang/IllegalStateException" = some ce.cls := h9
      refine vx_catch (E := "java/lang/IllegalStateException") (name := "java/lang/IllegalStateException") hown [⟨0, 10, 13, 19⟩] ⟨0, 10, 17, 37⟩ [] htab (?_) rfl (by decide) hk37 (va_Nw.use rfl (hst.2.2.2.2 "java/lang/IllegalStateException" (by decide))) h7 h8 h9 ?_
      · intro z hz
        simp only [List.mem_cons, List.not_mem_nil, or_false] at hz
        rcases hz with rfl
        · exact Or.inr ⟨by decide, "java/lang/IndexOutOfBoundsException", hk19, hC ("java/lang/IllegalStateException", "java/lang/IndexOutOfBoundsException") (by decide)⟩
      refine lv_astore (lv' := [(4, .ref q9), (0, .ref (k 0)), (1, .int y), (2, .int f), (3, .ref o)]) hx hb dL_reap_17 hl (by decide) rfl (fun ls hl => ?_)
      refine lv_iconst (v := 2) hx hb dL_reap_19 (by decide) ?_
      exact zY_ret hx hb hr hlocks hP hD hS rfl h0.symm dL_reap_20 (Nat.le_of_ble_eq_true rfl) (Nat.le_of_ble_eq_true rfl)
  · refine lv_i2l (v := (rea_V S y f).toInt64) hx hb dL_reap_8 rfl ?_
    refine va_last (cA := cJ) (n := 1) (f := g) hx hb hK hP hD hS 34 1 rfl rfl (show vp_in (nI 0) 1 from vp_in_nI (by decide) (by decide)) dL_reap_9 (fun H locs hP hD hS => ?_)
    have hP : va_P (dC, dI) vwCl (oW k b t (zs (rea_T S y f) (rea_M M S y f) M) ++ kW cI k (zs (rea_T S y f) (rea_M M S y f) M) ++ bW k B ++ sW cI b (zs (rea_T S y f) (rea_S S y f) S) ++ sW cI t T ++ gW cJ o (zl (rea_T S y f) (vp_updL g (0 : Int32).toNatClampNeg (rea_V S y f).toInt64) g)) H := by simp only [zs, zl, if_pos hz]; exact hP
    have hD : va_D A (oW k b t (zs (rea_T S y f) (rea_M M S y f) M) ++ kW cI k (zs (rea_T S y f) (rea_M M S y f) M) ++ bW k B ++ sW cI b (zs (rea_T S y f) (rea_S S y f) S) ++ sW cI t T ++ gW cJ o (zl (rea_T S y f) (vp_updL g (0 : Int32).toNatClampNeg (rea_V S y f).toInt64) g)) := by simp only [zs, zl, if_pos hz]; exact hD
    refine lv_goto (tgt := 21) hx hb dL_reap_10 (by decide) ?_
    refine lv_iconst (v := 0) hx hb dL_reap_21 (by decide) ?_
    exact zY_ret hx hb hr hlocks hP hD hS rfl hz.symm dL_reap_22 (Nat.le_of_ble_eq_true rfl) (Nat.le_of_ble_eq_true rfl)
theorem pass_vals (S : sS) (x : Int32) : pas_T S x = 0 ∨ pas_T S x = 1 ∨ pas_T S x = 2 := by
  unfold pas_T
  (repeat' split) <;> decide
set_option maxHeartbeats 4000000 in
set_option maxRecDepth 100000 in
theorem c_L_pass (l : Launch) (dC : Nat → ClassId) (dI : Nat → Nat → Nat) (cI cJ : ClassId) (k b t : Nat → Nat) (h w : Nat) (M B S T : sS) (o : Nat) (g : Nat → Int64) (x : Int32) (d : Nat) (hG0 : geo h w S) (hd : S 0 2 = nI d) (hd2 : d ≤ 2000) (hLt : l.stackTraces = false) : zY l yL_pass wsL_pass { frames := 7, cells := 1, slots := 6, locals := 137 } (dC, dI) cI cJ [.ref (k 0), .int x, .ref o] (oW k b t M ++ kW cI k M ++ bW k B ++ sW cI b S ++ sW cI t T ++ gW cJ o g) (oW k b t M ++ kW cI k M ++ bW k B ++ sW cI b (zs (pas_T S x) (pas_S h w M S x) S) ++ sW cI t T ++ gW cJ o (zl (pas_T S x) (vp_updL g (0 : Int32).toNatClampNeg (sl_sum h w (pas_S h w M S x) 7).toInt64) g)) (pas_T S x) := by
  refine zY_of (cc := cL_pass) (maxL := 4) (ret := (some .int)) (hh :=  [(0, 9, 12, 13), (0, 9, 15, 37)]) (by decide) rfl (Nat.le_of_ble_eq_true rfl) ?_
  intro p e s m below meth c A ls C0 htab hl
  obtain ⟨hx, hb, hr, hml, hown, hts, hlocks, hK, hN, hA, hP, hD, hS, hst, hC⟩ := C0
  have hown : s.vm.findClass RL = some m.cls := hown
  have hl : lv_has ls 4 [(0, .ref (k 0)), (1, .int x), (2, .ref o)] := hl
  have hk13 := hts (.classLink RL 13 "java/lang/IllegalArgumentException") (by decide +kernel)
  have hk37 := hts (.classLink RL 37 "java/lang/IllegalStateException") (by decide +kernel)
  refine lv_aload_n hx hb dL_pass_0 rfl (lv_at hl 2 rfl) ?_
  refine lv_iconst (v := 0) hx hb dL_pass_1 (by decide) ?_
  refine lv_aload_n hx hb dL_pass_2 rfl (lv_at hl 0 rfl) ?_
  refine lv_iload_n hx hb dL_pass_3 rfl (lv_at hl 1 rfl) ?_
  refine zX_V (pre := []) (wc := oW k b t M ++ kW cI k M ++ bW k B ++ sW cI b S ++ sW cI t T) (post := gW cJ o g) (w1 := oW k b t M ++ kW cI k M ++ bW k B ++ sW cI b (pas_S h w M S x) ++ sW cI t T) ⟨hx, hb, hml, hown, hts⟩ (c_X3_pass l dC dI cI k b t h w M B S T x d hG0 hd hd2 hLt) (cwV 1 hts gL_pass_X3_pass rfl rfl rfl (by decide +kernel) ⟨Nat.le_of_ble_eq_true rfl, Nat.le_of_ble_eq_true rfl⟩) rfl (hK.sub [0] rfl) hN hst (ci := 3) (q0 := 0) rfl rfl rfl hP hD hS hA rfl hl.1 rfl (Nat.le_of_ble_eq_true rfl) dL_pass_4 ⟨Nat.le_of_ble_eq_true rfl, Nat.le_of_ble_eq_true rfl⟩ (fun hne ce q9 H locs hP hD hS h7 h8 h9 => ?_) (fun hz H locs hP hD hS => ?_)
  · have hP : va_P (dC, dI) vwCl (oW k b t M ++ kW cI k M ++ bW k B ++ sW cI b (zs (pas_T S x) (pas_S h w M S x) S) ++ sW cI t T ++ gW cJ o (zl (pas_T S x) (vp_updL g (0 : Int32).toNatClampNeg (sl_sum h w (pas_S h w M S x) 7).toInt64) g)) H := by simp only [zs, zl, if_neg hne]; exact hP
    have hD : va_D A (oW k b t M ++ kW cI k M ++ bW k B ++ sW cI b (zs (pas_T S x) (pas_S h w M S x) S) ++ sW cI t T ++ gW cJ o (zl (pas_T S x) (vp_updL g (0 : Int32).toNatClampNeg (sl_sum h w (pas_S h w M S x) 7).toInt64) g)) := by simp only [zs, zl, if_neg hne]; exact hD
    rcases pass_vals S x with h0 | h0 | h0
    · exact absurd h0 hne
    · rw [h0] at h9
      have h9 : s.vm.findClass "java/lang/IllegalArgumentException" = some ce.cls := h9
      refine vx_catch (E := "java/lang/IllegalArgumentException") (name := "java/lang/IllegalArgumentException") hown [] ⟨0, 9, 12, 13⟩ [⟨0, 9, 15, 37⟩] htab (fun z hz => absurd hz List.not_mem_nil) rfl (by decide) hk13 (va_Nw.use rfl (hst.2.2.2.2 "java/lang/IllegalArgumentException" (by decide))) h7 h8 h9 ?_
      refine lv_astore_n (lv' := [(3, .ref q9), (0, .ref (k 0)), (1, .int x), (2, .ref o)]) hx hb dL_pass_12 rfl hl (by decide) rfl (fun ls hl => ?_)
      refine lv_iconst (v := 1) hx hb dL_pass_13 (by decide) ?_
      exact zY_ret hx hb hr hlocks hP hD hS rfl h0.symm dL_pass_14 (Nat.le_of_ble_eq_true rfl) (Nat.le_of_ble_eq_true rfl)
    · rw [h0] at h9
      have h9 : s.vm.findClass "java/lang/IllegalStateException" = some ce.cls := h9
      refine vx_catch (E := "java/lang/IllegalStateException") (name := "java/lang/IllegalStateException") hown [⟨0, 9, 12, 13⟩] ⟨0, 9, 15, 37⟩ [] htab (?_) rfl (by decide) hk37 (va_Nw.use rfl (hst.2.2.2.2 "java/lang/IllegalStateException" (by decide))) h7 h8 h9 ?_
      · intro z hz
        simp only [List.mem_cons, List.not_mem_nil, or_false] at hz
        rcases hz with rfl
        · exact Or.inr ⟨by decide, "java/lang/IllegalArgumentException", hk13, hC ("java/lang/IllegalStateException", "java/lang/IllegalArgumentException") (by decide)⟩
      refine lv_astore_n (lv' := [(3, .ref q9), (0, .ref (k 0)), (1, .int x), (2, .ref o)]) hx hb dL_pass_15 rfl hl (by decide) rfl (fun ls hl => ?_)
      refine lv_iconst (v := 2) hx hb dL_pass_16 (by decide) ?_
      exact zY_ret hx hb hr hlocks hP hD hS rfl h0.symm dL_pass_17 (Nat.le_of_ble_eq_true rfl) (Nat.le_of_ble_eq_true rfl)
  · refine lv_i2l (v := (sl_sum h w (pas_S h w M S x) 7).toInt64) hx hb dL_pass_7 rfl ?_
    refine va_last (cA := cJ) (n := 1) (f := g) hx hb hK hP hD hS 34 1 rfl rfl (show vp_in (nI 0) 1 from vp_in_nI (by decide) (by decide)) dL_pass_8 (fun H locs hP hD hS => ?_)
    have hP : va_P (dC, dI) vwCl (oW k b t M ++ kW cI k M ++ bW k B ++ sW cI b (zs (pas_T S x) (pas_S h w M S x) S) ++ sW cI t T ++ gW cJ o (zl (pas_T S x) (vp_updL g (0 : Int32).toNatClampNeg (sl_sum h w (pas_S h w M S x) 7).toInt64) g)) H := by simp only [zs, zl, if_pos hz]; exact hP
    have hD : va_D A (oW k b t M ++ kW cI k M ++ bW k B ++ sW cI b (zs (pas_T S x) (pas_S h w M S x) S) ++ sW cI t T ++ gW cJ o (zl (pas_T S x) (vp_updL g (0 : Int32).toNatClampNeg (sl_sum h w (pas_S h w M S x) 7).toInt64) g)) := by simp only [zs, zl, if_pos hz]; exact hD
    refine lv_goto (tgt := 18) hx hb dL_pass_9 (by decide) ?_
    refine lv_iconst (v := 0) hx hb dL_pass_18 (by decide) ?_
    exact zY_ret hx hb hr hlocks hP hD hS rfl hz.symm dL_pass_19 (Nat.le_of_ble_eq_true rfl) (Nat.le_of_ble_eq_true rfl)
theorem field_vals (S : sS) (y f x : Int32) : fld_T S y f x = 0 ∨ fld_T S y f x = 1 := by
  unfold fld_T
  (repeat' split) <;> decide
set_option maxHeartbeats 4000000 in
set_option maxRecDepth 100000 in
theorem c_L_field (l : Launch) (dC : Nat → ClassId) (dI : Nat → Nat → Nat) (cI cJ : ClassId) (k b t : Nat → Nat) (h w : Nat) (M B S T : sS) (o : Nat) (g : Nat → Int64) (y f x : Int32) (hG0 : geo h w S) (hLt : l.stackTraces = false) : zY l yL_field wsL_field { frames := 7, cells := 1, slots := 6, locals := 113 } (dC, dI) cI cJ [.ref (k 0), .int y, .int f, .int x, .ref o] (oW k b t M ++ kW cI k M ++ bW k B ++ sW cI b S ++ sW cI t T ++ gW cJ o g) (oW k b t M ++ kW cI k M ++ bW k B ++ sW cI b S ++ sW cI t T ++ gW cJ o (zl (fld_T S y f x) (vp_updL g (0 : Int32).toNatClampNeg (sl_field S (sl_at S y f) x).toInt64) g)) (fld_T S y f x) := by
  refine zY_of (cc := cL_field) (maxL := 6) (ret := (some .int)) (hh :=  [(0, 12, 15, 19)]) (by decide) rfl (Nat.le_of_ble_eq_true rfl) ?_
  intro p e s m below meth c A ls C0 htab hl
  obtain ⟨hx, hb, hr, hml, hown, hts, hlocks, hK, hN, hA, hP, hD, hS, hst, hC⟩ := C0
  have hown : s.vm.findClass RL = some m.cls := hown
  have hl : lv_has ls 6 [(0, .ref (k 0)), (1, .int y), (2, .int f), (3, .int x), (4, .ref o)] := hl
  have hk19 := hts (.classLink RL 19 "java/lang/IndexOutOfBoundsException") (by decide +kernel)
  refine lv_aload hx hb dL_field_0 (lv_at hl 4 rfl) ?_
  refine lv_iconst (v := 0) hx hb dL_field_2 (by decide) ?_
  refine lv_aload_n hx hb dL_field_3 rfl (lv_at hl 0 rfl) ?_
  refine lv_iload_n hx hb dL_field_4 rfl (lv_at hl 1 rfl) ?_
  refine lv_iload_n hx hb dL_field_5 rfl (lv_at hl 2 rfl) ?_
  refine lv_iload_n hx hb dL_field_6 rfl (lv_at hl 3 rfl) ?_
  refine zX_V (pre := []) (wc := oW k b t M ++ kW cI k M ++ bW k B ++ sW cI b S ++ sW cI t T) (post := gW cJ o g) (w1 := oW k b t M ++ kW cI k M ++ bW k B ++ sW cI b S ++ sW cI t T) ⟨hx, hb, hml, hown, hts⟩ (c_X3_field l dC dI cI k b t h w M B S T y f x hG0 hLt) (cwV 3 hts gL_field_X3_field rfl rfl rfl (by decide +kernel) ⟨Nat.le_of_ble_eq_true rfl, Nat.le_of_ble_eq_true rfl⟩) rfl (hK.sub [0] rfl) hN hst (ci := 3) (q0 := 0) rfl rfl rfl hP hD hS hA rfl hl.1 rfl (Nat.le_of_ble_eq_true rfl) dL_field_7 ⟨Nat.le_of_ble_eq_true rfl, Nat.le_of_ble_eq_true rfl⟩ (fun hne ce q9 H locs hP hD hS h7 h8 h9 => ?_) (fun hz H locs hP hD hS => ?_)
  · have hP : va_P (dC, dI) vwCl (oW k b t M ++ kW cI k M ++ bW k B ++ sW cI b S ++ sW cI t T ++ gW cJ o (zl (fld_T S y f x) (vp_updL g (0 : Int32).toNatClampNeg (sl_field S (sl_at S y f) x).toInt64) g)) H := by simp only [zs, zl, if_neg hne]; exact hP
    have hD : va_D A (oW k b t M ++ kW cI k M ++ bW k B ++ sW cI b S ++ sW cI t T ++ gW cJ o (zl (fld_T S y f x) (vp_updL g (0 : Int32).toNatClampNeg (sl_field S (sl_at S y f) x).toInt64) g)) := by simp only [zs, zl, if_neg hne]; exact hD
    rcases field_vals S y f x with h0 | h0
    · exact absurd h0 hne
    · rw [h0] at h9
      have h9 : s.vm.findClass "java/lang/IndexOutOfBoundsException" = some ce.cls := h9
      refine vx_catch (E := "java/lang/IndexOutOfBoundsException") (name := "java/lang/IndexOutOfBoundsException") hown [] ⟨0, 12, 15, 19⟩ [] htab (fun z hz => absurd hz List.not_mem_nil) rfl (by decide) hk19 (va_Nw.use rfl (hst.2.2.2.2 "java/lang/IndexOutOfBoundsException" (by decide))) h7 h8 h9 ?_
      refine lv_astore (lv' := [(5, .ref q9), (0, .ref (k 0)), (1, .int y), (2, .int f), (3, .int x), (4, .ref o)]) hx hb dL_field_15 hl (by decide) rfl (fun ls hl => ?_)
      refine lv_iconst (v := 1) hx hb dL_field_17 (by decide) ?_
      exact zY_ret hx hb hr hlocks hP hD hS rfl h0.symm dL_field_18 (Nat.le_of_ble_eq_true rfl) (Nat.le_of_ble_eq_true rfl)
  · refine lv_i2l (v := (sl_field S (sl_at S y f) x).toInt64) hx hb dL_field_10 rfl ?_
    refine va_last (cA := cJ) (n := 1) (f := g) hx hb hK hP hD hS 34 1 rfl rfl (show vp_in (nI 0) 1 from vp_in_nI (by decide) (by decide)) dL_field_11 (fun H locs hP hD hS => ?_)
    have hP : va_P (dC, dI) vwCl (oW k b t M ++ kW cI k M ++ bW k B ++ sW cI b S ++ sW cI t T ++ gW cJ o (zl (fld_T S y f x) (vp_updL g (0 : Int32).toNatClampNeg (sl_field S (sl_at S y f) x).toInt64) g)) H := by simp only [zs, zl, if_pos hz]; exact hP
    have hD : va_D A (oW k b t M ++ kW cI k M ++ bW k B ++ sW cI b S ++ sW cI t T ++ gW cJ o (zl (fld_T S y f x) (vp_updL g (0 : Int32).toNatClampNeg (sl_field S (sl_at S y f) x).toInt64) g)) := by simp only [zs, zl, if_pos hz]; exact hD
    refine lv_goto (tgt := 19) hx hb dL_field_12 (by decide) ?_
    refine lv_iconst (v := 0) hx hb dL_field_19 (by decide) ?_
    exact zY_ret hx hb hr hlocks hP hD hS rfl hz.symm dL_field_20 (Nat.le_of_ble_eq_true rfl) (Nat.le_of_ble_eq_true rfl)
theorem count_vals (x : Int32) : cnt_T x = 0 ∨ cnt_T x = 1 := by
  unfold cnt_T
  (repeat' split) <;> decide
set_option maxHeartbeats 4000000 in
set_option maxRecDepth 100000 in
theorem c_L_count (l : Launch) (dC : Nat → ClassId) (dI : Nat → Nat → Nat) (cI cJ : ClassId) (k b t : Nat → Nat) (h w : Nat) (M B S T : sS) (o : Nat) (g : Nat → Int64) (x : Int32) (hG0 : geo h w S) (hLt : l.stackTraces = false) : zY l yL_count wsL_count { frames := 7, cells := 1, slots := 6, locals := 111 } (dC, dI) cI cJ [.ref (k 0), .int x, .ref o] (oW k b t M ++ kW cI k M ++ bW k B ++ sW cI b S ++ sW cI t T ++ gW cJ o g) (oW k b t M ++ kW cI k M ++ bW k B ++ sW cI b S ++ sW cI t T ++ gW cJ o (zl (cnt_T x) (vp_updL g (0 : Int32).toNatClampNeg (x3_count h w M S x).toInt64) g)) (cnt_T x) := by
  refine zY_of (cc := cL_count) (maxL := 4) (ret := (some .int)) (hh :=  [(0, 9, 12, 19)]) (by decide) rfl (Nat.le_of_ble_eq_true rfl) ?_
  intro p e s m below meth c A ls C0 htab hl
  obtain ⟨hx, hb, hr, hml, hown, hts, hlocks, hK, hN, hA, hP, hD, hS, hst, hC⟩ := C0
  have hown : s.vm.findClass RL = some m.cls := hown
  have hl : lv_has ls 4 [(0, .ref (k 0)), (1, .int x), (2, .ref o)] := hl
  have hk19 := hts (.classLink RL 19 "java/lang/IndexOutOfBoundsException") (by decide +kernel)
  refine lv_aload_n hx hb dL_count_0 rfl (lv_at hl 2 rfl) ?_
  refine lv_iconst (v := 0) hx hb dL_count_1 (by decide) ?_
  refine lv_aload_n hx hb dL_count_2 rfl (lv_at hl 0 rfl) ?_
  refine lv_iload_n hx hb dL_count_3 rfl (lv_at hl 1 rfl) ?_
  refine zX_V (pre := []) (wc := oW k b t M ++ kW cI k M ++ bW k B ++ sW cI b S ++ sW cI t T) (post := gW cJ o g) (w1 := oW k b t M ++ kW cI k M ++ bW k B ++ sW cI b S ++ sW cI t T) ⟨hx, hb, hml, hown, hts⟩ (c_X3_count l dC dI cI k b t h w M B S T x hG0 hLt) (cwV 1 hts gL_count_X3_count rfl rfl rfl (by decide +kernel) ⟨Nat.le_of_ble_eq_true rfl, Nat.le_of_ble_eq_true rfl⟩) rfl (hK.sub [0] rfl) hN hst (ci := 3) (q0 := 0) rfl rfl rfl hP hD hS hA rfl hl.1 rfl (Nat.le_of_ble_eq_true rfl) dL_count_4 ⟨Nat.le_of_ble_eq_true rfl, Nat.le_of_ble_eq_true rfl⟩ (fun hne ce q9 H locs hP hD hS h7 h8 h9 => ?_) (fun hz H locs hP hD hS => ?_)
  · have hP : va_P (dC, dI) vwCl (oW k b t M ++ kW cI k M ++ bW k B ++ sW cI b S ++ sW cI t T ++ gW cJ o (zl (cnt_T x) (vp_updL g (0 : Int32).toNatClampNeg (x3_count h w M S x).toInt64) g)) H := by simp only [zs, zl, if_neg hne]; exact hP
    have hD : va_D A (oW k b t M ++ kW cI k M ++ bW k B ++ sW cI b S ++ sW cI t T ++ gW cJ o (zl (cnt_T x) (vp_updL g (0 : Int32).toNatClampNeg (x3_count h w M S x).toInt64) g)) := by simp only [zs, zl, if_neg hne]; exact hD
    rcases count_vals x with h0 | h0
    · exact absurd h0 hne
    · rw [h0] at h9
      have h9 : s.vm.findClass "java/lang/IndexOutOfBoundsException" = some ce.cls := h9
      refine vx_catch (E := "java/lang/IndexOutOfBoundsException") (name := "java/lang/IndexOutOfBoundsException") hown [] ⟨0, 9, 12, 19⟩ [] htab (fun z hz => absurd hz List.not_mem_nil) rfl (by decide) hk19 (va_Nw.use rfl (hst.2.2.2.2 "java/lang/IndexOutOfBoundsException" (by decide))) h7 h8 h9 ?_
      refine lv_astore_n (lv' := [(3, .ref q9), (0, .ref (k 0)), (1, .int x), (2, .ref o)]) hx hb dL_count_12 rfl hl (by decide) rfl (fun ls hl => ?_)
      refine lv_iconst (v := 1) hx hb dL_count_13 (by decide) ?_
      exact zY_ret hx hb hr hlocks hP hD hS rfl h0.symm dL_count_14 (Nat.le_of_ble_eq_true rfl) (Nat.le_of_ble_eq_true rfl)
  · refine lv_i2l (v := (x3_count h w M S x).toInt64) hx hb dL_count_7 rfl ?_
    refine va_last (cA := cJ) (n := 1) (f := g) hx hb hK hP hD hS 34 1 rfl rfl (show vp_in (nI 0) 1 from vp_in_nI (by decide) (by decide)) dL_count_8 (fun H locs hP hD hS => ?_)
    have hP : va_P (dC, dI) vwCl (oW k b t M ++ kW cI k M ++ bW k B ++ sW cI b S ++ sW cI t T ++ gW cJ o (zl (cnt_T x) (vp_updL g (0 : Int32).toNatClampNeg (x3_count h w M S x).toInt64) g)) H := by simp only [zs, zl, if_pos hz]; exact hP
    have hD : va_D A (oW k b t M ++ kW cI k M ++ bW k B ++ sW cI b S ++ sW cI t T ++ gW cJ o (zl (cnt_T x) (vp_updL g (0 : Int32).toNatClampNeg (x3_count h w M S x).toInt64) g)) := by simp only [zs, zl, if_pos hz]; exact hD
    refine lv_goto (tgt := 15) hx hb dL_count_9 (by decide) ?_
    refine lv_iconst (v := 0) hx hb dL_count_15 (by decide) ?_
    exact zY_ret hx hb hr hlocks hP hD hS rfl hz.symm dL_count_16 (Nat.le_of_ble_eq_true rfl) (Nat.le_of_ble_eq_true rfl)
theorem weather_vals (i x : Int32) : wea_T i x = 0 ∨ wea_T i x = 1 := by
  unfold wea_T
  (repeat' split) <;> decide
set_option maxHeartbeats 4000000 in
set_option maxRecDepth 100000 in
theorem c_L_weather (l : Launch) (dC : Nat → ClassId) (dI : Nat → Nat → Nat) (cI cJ : ClassId) (k b t : Nat → Nat) (h w : Nat) (M B S T : sS) (o : Nat) (g : Nat → Int64) (i x : Int32)  (hLt : l.stackTraces = false) : zY l yL_weather wsL_weather { frames := 7, cells := 1, slots := 6, locals := 112 } (dC, dI) cI cJ [.ref (k 0), .int i, .int x, .ref o] (oW k b t M ++ kW cI k M ++ bW k B ++ sW cI b S ++ sW cI t T ++ gW cJ o g) (oW k b t M ++ kW cI k M ++ bW k B ++ sW cI b S ++ sW cI t T ++ gW cJ o (zl (wea_T i x) (vp_updL g (0 : Int32).toNatClampNeg (cal_num M i x).toInt64) g)) (wea_T i x) := by
  refine zY_of (cc := cL_weather) (maxL := 5) (ret := (some .int)) (hh :=  [(0, 10, 13, 19)]) (by decide) rfl (Nat.le_of_ble_eq_true rfl) ?_
  intro p e s m below meth c A ls C0 htab hl
  obtain ⟨hx, hb, hr, hml, hown, hts, hlocks, hK, hN, hA, hP, hD, hS, hst, hC⟩ := C0
  have hown : s.vm.findClass RL = some m.cls := hown
  have hl : lv_has ls 5 [(0, .ref (k 0)), (1, .int i), (2, .int x), (3, .ref o)] := hl
  have hk19 := hts (.classLink RL 19 "java/lang/IndexOutOfBoundsException") (by decide +kernel)
  refine lv_aload_n hx hb dL_weather_0 rfl (lv_at hl 3 rfl) ?_
  refine lv_iconst (v := 0) hx hb dL_weather_1 (by decide) ?_
  refine lv_aload_n hx hb dL_weather_2 rfl (lv_at hl 0 rfl) ?_
  refine lv_iload_n hx hb dL_weather_3 rfl (lv_at hl 1 rfl) ?_
  refine lv_iload_n hx hb dL_weather_4 rfl (lv_at hl 2 rfl) ?_
  refine zX_V (pre := []) (wc := oW k b t M ++ kW cI k M ++ bW k B ++ sW cI b S ++ sW cI t T) (post := gW cJ o g) (w1 := oW k b t M ++ kW cI k M ++ bW k B ++ sW cI b S ++ sW cI t T) ⟨hx, hb, hml, hown, hts⟩ (c_X3_weather l dC dI cI k b t h w M B S T i x  hLt) (cwV 2 hts gL_weather_X3_weather rfl rfl rfl (by decide +kernel) ⟨Nat.le_of_ble_eq_true rfl, Nat.le_of_ble_eq_true rfl⟩) rfl (hK.sub [0] rfl) hN hst (ci := 3) (q0 := 0) rfl rfl rfl hP hD hS hA rfl hl.1 rfl (Nat.le_of_ble_eq_true rfl) dL_weather_5 ⟨Nat.le_of_ble_eq_true rfl, Nat.le_of_ble_eq_true rfl⟩ (fun hne ce q9 H locs hP hD hS h7 h8 h9 => ?_) (fun hz H locs hP hD hS => ?_)
  · have hP : va_P (dC, dI) vwCl (oW k b t M ++ kW cI k M ++ bW k B ++ sW cI b S ++ sW cI t T ++ gW cJ o (zl (wea_T i x) (vp_updL g (0 : Int32).toNatClampNeg (cal_num M i x).toInt64) g)) H := by simp only [zs, zl, if_neg hne]; exact hP
    have hD : va_D A (oW k b t M ++ kW cI k M ++ bW k B ++ sW cI b S ++ sW cI t T ++ gW cJ o (zl (wea_T i x) (vp_updL g (0 : Int32).toNatClampNeg (cal_num M i x).toInt64) g)) := by simp only [zs, zl, if_neg hne]; exact hD
    rcases weather_vals i x with h0 | h0
    · exact absurd h0 hne
    · rw [h0] at h9
      have h9 : s.vm.findClass "java/lang/IndexOutOfBoundsException" = some ce.cls := h9
      refine vx_catch (E := "java/lang/IndexOutOfBoundsException") (name := "java/lang/IndexOutOfBoundsException") hown [] ⟨0, 10, 13, 19⟩ [] htab (fun z hz => absurd hz List.not_mem_nil) rfl (by decide) hk19 (va_Nw.use rfl (hst.2.2.2.2 "java/lang/IndexOutOfBoundsException" (by decide))) h7 h8 h9 ?_
      refine lv_astore (lv' := [(4, .ref q9), (0, .ref (k 0)), (1, .int i), (2, .int x), (3, .ref o)]) hx hb dL_weather_13 hl (by decide) rfl (fun ls hl => ?_)
      refine lv_iconst (v := 1) hx hb dL_weather_15 (by decide) ?_
      exact zY_ret hx hb hr hlocks hP hD hS rfl h0.symm dL_weather_16 (Nat.le_of_ble_eq_true rfl) (Nat.le_of_ble_eq_true rfl)
  · refine lv_i2l (v := (cal_num M i x).toInt64) hx hb dL_weather_8 rfl ?_
    refine va_last (cA := cJ) (n := 1) (f := g) hx hb hK hP hD hS 34 1 rfl rfl (show vp_in (nI 0) 1 from vp_in_nI (by decide) (by decide)) dL_weather_9 (fun H locs hP hD hS => ?_)
    have hP : va_P (dC, dI) vwCl (oW k b t M ++ kW cI k M ++ bW k B ++ sW cI b S ++ sW cI t T ++ gW cJ o (zl (wea_T i x) (vp_updL g (0 : Int32).toNatClampNeg (cal_num M i x).toInt64) g)) H := by simp only [zs, zl, if_pos hz]; exact hP
    have hD : va_D A (oW k b t M ++ kW cI k M ++ bW k B ++ sW cI b S ++ sW cI t T ++ gW cJ o (zl (wea_T i x) (vp_updL g (0 : Int32).toNatClampNeg (cal_num M i x).toInt64) g)) := by simp only [zs, zl, if_pos hz]; exact hD
    refine lv_goto (tgt := 17) hx hb dL_weather_10 (by decide) ?_
    refine lv_iconst (v := 0) hx hb dL_weather_17 (by decide) ?_
    exact zY_ret hx hb hr hlocks hP hD hS rfl hz.symm dL_weather_18 (Nat.le_of_ble_eq_true rfl) (Nat.le_of_ble_eq_true rfl)
theorem foresee_vals (S : sS) (i x : Int32) : for_T S i x = 0 ∨ for_T S i x = 1 ∨ for_T S i x = 2 ∨ for_T S i x = 3 := by
  unfold for_T
  (repeat' split) <;> decide
set_option maxHeartbeats 4000000 in
set_option maxRecDepth 100000 in
theorem c_L_foresee (l : Launch) (dC : Nat → ClassId) (dI : Nat → Nat → Nat) (cI cJ : ClassId) (k b t : Nat → Nat) (h w : Nat) (M B S T : sS) (o : Nat) (g : Nat → Int64) (i x : Int32) (d : Nat) (hG0 : geo h w S) (hd : S 0 2 = nI d) (hd2 : d ≤ 2000) (hLt : l.stackTraces = false) : zY l yL_foresee wsL_foresee { frames := 7, cells := 1, slots := 6, locals := 138 } (dC, dI) cI cJ [.ref (k 0), .int i, .int x, .ref o] (oW k b t M ++ kW cI k M ++ bW k B ++ sW cI b S ++ sW cI t T ++ gW cJ o g) (oW k b t M ++ kW cI k M ++ bW k B ++ sW cI b S ++ sW cI t (zs (for_T S i x) (pas_S h w M S i) T) ++ gW cJ o (zl (for_T S i x) (vp_updL g (0 : Int32).toNatClampNeg (x3_fore h w S (pas_S h w M S i) x).toInt64) g)) (for_T S i x) := by
  refine zY_of (cc := cL_foresee) (maxL := 5) (ret := (some .int)) (hh :=  [(0, 10, 13, 13), (0, 10, 17, 19), (0, 10, 21, 37)]) (by decide) rfl (Nat.le_of_ble_eq_true rfl) ?_
  intro p e s m below meth c A ls C0 htab hl
  obtain ⟨hx, hb, hr, hml, hown, hts, hlocks, hK, hN, hA, hP, hD, hS, hst, hC⟩ := C0
  have hown : s.vm.findClass RL = some m.cls := hown
  have hl : lv_has ls 5 [(0, .ref (k 0)), (1, .int i), (2, .int x), (3, .ref o)] := hl
  have hk13 := hts (.classLink RL 13 "java/lang/IllegalArgumentException") (by decide +kernel)
  have hk19 := hts (.classLink RL 19 "java/lang/IndexOutOfBoundsException") (by decide +kernel)
  have hk37 := hts (.classLink RL 37 "java/lang/IllegalStateException") (by decide +kernel)
  refine lv_aload_n hx hb dL_foresee_0 rfl (lv_at hl 3 rfl) ?_
  refine lv_iconst (v := 0) hx hb dL_foresee_1 (by decide) ?_
  refine lv_aload_n hx hb dL_foresee_2 rfl (lv_at hl 0 rfl) ?_
  refine lv_iload_n hx hb dL_foresee_3 rfl (lv_at hl 1 rfl) ?_
  refine lv_iload_n hx hb dL_foresee_4 rfl (lv_at hl 2 rfl) ?_
  refine zX_V (pre := []) (wc := oW k b t M ++ kW cI k M ++ bW k B ++ sW cI b S ++ sW cI t T) (post := gW cJ o g) (w1 := oW k b t M ++ kW cI k M ++ bW k B ++ sW cI b S ++ sW cI t (pas_S h w M S i)) ⟨hx, hb, hml, hown, hts⟩ (c_X3_foresee l dC dI cI k b t h w M B S T i x d hG0 hd hd2 hLt) (cwV 2 hts gL_foresee_X3_foresee rfl rfl rfl (by decide +kernel) ⟨Nat.le_of_ble_eq_true rfl, Nat.le_of_ble_eq_true rfl⟩) rfl (hK.sub [0] rfl) hN hst (ci := 3) (q0 := 0) rfl rfl rfl hP hD hS hA rfl hl.1 rfl (Nat.le_of_ble_eq_true rfl) dL_foresee_5 ⟨Nat.le_of_ble_eq_true rfl, Nat.le_of_ble_eq_true rfl⟩ (fun hne ce q9 H locs hP hD hS h7 h8 h9 => ?_) (fun hz H locs hP hD hS => ?_)
  · have hP : va_P (dC, dI) vwCl (oW k b t M ++ kW cI k M ++ bW k B ++ sW cI b S ++ sW cI t (zs (for_T S i x) (pas_S h w M S i) T) ++ gW cJ o (zl (for_T S i x) (vp_updL g (0 : Int32).toNatClampNeg (x3_fore h w S (pas_S h w M S i) x).toInt64) g)) H := by simp only [zs, zl, if_neg hne]; exact hP
    have hD : va_D A (oW k b t M ++ kW cI k M ++ bW k B ++ sW cI b S ++ sW cI t (zs (for_T S i x) (pas_S h w M S i) T) ++ gW cJ o (zl (for_T S i x) (vp_updL g (0 : Int32).toNatClampNeg (x3_fore h w S (pas_S h w M S i) x).toInt64) g)) := by simp only [zs, zl, if_neg hne]; exact hD
    rcases foresee_vals S i x with h0 | h0 | h0 | h0
    · exact absurd h0 hne
    · rw [h0] at h9
      have h9 : s.vm.findClass "java/lang/IllegalArgumentException" = some ce.cls := h9
      refine vx_catch (E := "java/lang/IllegalArgumentException") (name := "java/lang/IllegalArgumentException") hown [] ⟨0, 10, 13, 13⟩ [⟨0, 10, 17, 19⟩, ⟨0, 10, 21, 37⟩] htab (fun z hz => absurd hz List.not_mem_nil) rfl (by decide) hk13 (va_Nw.use rfl (hst.2.2.2.2 "java/lang/IllegalArgumentException" (by decide))) h7 h8 h9 ?_
      refine lv_astore (lv' := [(4, .ref q9), (0, .ref (k 0)), (1, .int i), (2, .int x), (3, .ref o)]) hx hb dL_foresee_13 hl (by decide) rfl (fun ls hl => ?_)
      refine lv_iconst (v := 1) hx hb dL_foresee_15 (by decide) ?_
      exact zY_ret hx hb hr hlocks hP hD hS rfl h0.symm dL_foresee_16 (Nat.le_of_ble_eq_true rfl) (Nat.le_of_ble_eq_true rfl)
    · rw [h0] at h9
      have h9 : s.vm.findClass "java/lang/IndexOutOfBoundsException" = some ce.cls := h9
      refine vx_catch (E := "java/lang/IndexOutOfBoundsException") (name := "java/lang/IndexOutOfBoundsException") hown [⟨0, 10, 13, 13⟩] ⟨0, 10, 17, 19⟩ [⟨0, 10, 21, 37⟩] htab (?_) rfl (by decide) hk19 (va_Nw.use rfl (hst.2.2.2.2 "java/lang/IndexOutOfBoundsException" (by decide))) h7 h8 h9 ?_
      · intro z hz
        simp only [List.mem_cons, List.not_mem_nil, or_false] at hz
        rcases hz with rfl
        · exact Or.inr ⟨by decide, "java/lang/IllegalArgumentException", hk13, hC ("java/lang/IndexOutOfBoundsException", "java/lang/IllegalArgumentException") (by decide)⟩
      refine lv_astore (lv' := [(4, .ref q9), (0, .ref (k 0)), (1, .int i), (2, .int x), (3, .ref o)]) hx hb dL_foresee_17 hl (by decide) rfl (fun ls hl => ?_)
      refine lv_iconst (v := 2) hx hb dL_foresee_19 (by decide) ?_
      exact zY_ret hx hb hr hlocks hP hD hS rfl h0.symm dL_foresee_20 (Nat.le_of_ble_eq_true rfl) (Nat.le_of_ble_eq_true rfl)
    · rw [h0] at h9
      have h9 : s.vm.findClass "java/lang/IllegalStateException" = some ce.cls := h9
      refine vx_catch (E := "java/lang/IllegalStateException") (name := "java/lang/IllegalStateException") hown [⟨0, 10, 13, 13⟩, ⟨0, 10, 17, 19⟩] ⟨0, 10, 21, 37⟩ [] htab (?_) rfl (by decide) hk37 (va_Nw.use rfl (hst.2.2.2.2 "java/lang/IllegalStateException" (by decide))) h7 h8 h9 ?_
      · intro z hz
        simp only [List.mem_cons, List.not_mem_nil, or_false] at hz
        rcases hz with rfl | rfl
        · exact Or.inr ⟨by decide, "java/lang/IllegalArgumentException", hk13, hC ("java/lang/IllegalStateException", "java/lang/IllegalArgumentException") (by decide)⟩
        · exact Or.inr ⟨by decide, "java/lang/IndexOutOfBoundsException", hk19, hC ("java/lang/IllegalStateException", "java/lang/IndexOutOfBoundsException") (by decide)⟩
      refine lv_astore (lv' := [(4, .ref q9), (0, .ref (k 0)), (1, .int i), (2, .int x), (3, .ref o)]) hx hb dL_foresee_21 hl (by decide) rfl (fun ls hl => ?_)
      refine lv_iconst (v := 3) hx hb dL_foresee_23 (by decide) ?_
      exact zY_ret hx hb hr hlocks hP hD hS rfl h0.symm dL_foresee_24 (Nat.le_of_ble_eq_true rfl) (Nat.le_of_ble_eq_true rfl)
  · refine lv_i2l (v := (x3_fore h w S (pas_S h w M S i) x).toInt64) hx hb dL_foresee_8 rfl ?_
    refine va_last (cA := cJ) (n := 1) (f := g) hx hb hK hP hD hS 34 1 rfl rfl (show vp_in (nI 0) 1 from vp_in_nI (by decide) (by decide)) dL_foresee_9 (fun H locs hP hD hS => ?_)
    have hP : va_P (dC, dI) vwCl (oW k b t M ++ kW cI k M ++ bW k B ++ sW cI b S ++ sW cI t (zs (for_T S i x) (pas_S h w M S i) T) ++ gW cJ o (zl (for_T S i x) (vp_updL g (0 : Int32).toNatClampNeg (x3_fore h w S (pas_S h w M S i) x).toInt64) g)) H := by simp only [zs, zl, if_pos hz]; exact hP
    have hD : va_D A (oW k b t M ++ kW cI k M ++ bW k B ++ sW cI b S ++ sW cI t (zs (for_T S i x) (pas_S h w M S i) T) ++ gW cJ o (zl (for_T S i x) (vp_updL g (0 : Int32).toNatClampNeg (x3_fore h w S (pas_S h w M S i) x).toInt64) g)) := by simp only [zs, zl, if_pos hz]; exact hD
    refine lv_goto (tgt := 25) hx hb dL_foresee_10 (by decide) ?_
    refine lv_iconst (v := 0) hx hb dL_foresee_25 (by decide) ?_
    exact zY_ret hx hb hr hlocks hP hD hS rfl hz.symm dL_foresee_26 (Nat.le_of_ble_eq_true rfl) (Nat.le_of_ble_eq_true rfl)
theorem advise_vals (S : sS) (i x : Int32) : adv_T S i x = 0 ∨ adv_T S i x = 1 ∨ adv_T S i x = 2 ∨ adv_T S i x = 3 := by
  unfold adv_T
  (repeat' split) <;> decide
set_option maxHeartbeats 4000000 in
set_option maxRecDepth 100000 in
theorem c_L_advise (l : Launch) (dC : Nat → ClassId) (dI : Nat → Nat → Nat) (cI cJ : ClassId) (k b t : Nat → Nat) (h w : Nat) (M B S T : sS) (o : Nat) (g : Nat → Int64) (i x : Int32) (d : Nat) (hG0 : geo h w S) (hd : S 0 2 = nI d) (hd2 : d ≤ 2000) (hbk : bkok S) (hLt : l.stackTraces = false) : zY l yL_advise wsL_advise { frames := 7, cells := 1, slots := 6, locals := 163 } (dC, dI) cI cJ [.ref (k 0), .int i, .int x, .ref o] (oW k b t M ++ kW cI k M ++ bW k B ++ sW cI b S ++ sW cI t T ++ gW cJ o g) (oW k b t M ++ kW cI k M ++ bW k (zs (adv_T S i x) ((x3_best h w M B S i.toNatClampNeg).1) B) ++ sW cI b S ++ sW cI t (zs (adv_T S i x) ((x3_best h w M B S i.toNatClampNeg).2) T) ++ gW cJ o (zl (adv_T S i x) (vp_updL g (0 : Int32).toNatClampNeg (mv_num (x3_best h w M B S i.toNatClampNeg).1 x).toInt64) g)) (adv_T S i x) := by
  refine zY_of (cc := cL_advise) (maxL := 5) (ret := (some .int)) (hh :=  [(0, 10, 13, 13), (0, 10, 17, 19), (0, 10, 21, 37)]) (by decide) rfl (Nat.le_of_ble_eq_true rfl) ?_
  intro p e s m below meth c A ls C0 htab hl
  obtain ⟨hx, hb, hr, hml, hown, hts, hlocks, hK, hN, hA, hP, hD, hS, hst, hC⟩ := C0
  have hown : s.vm.findClass RL = some m.cls := hown
  have hl : lv_has ls 5 [(0, .ref (k 0)), (1, .int i), (2, .int x), (3, .ref o)] := hl
  have hk13 := hts (.classLink RL 13 "java/lang/IllegalArgumentException") (by decide +kernel)
  have hk19 := hts (.classLink RL 19 "java/lang/IndexOutOfBoundsException") (by decide +kernel)
  have hk37 := hts (.classLink RL 37 "java/lang/IllegalStateException") (by decide +kernel)
  refine lv_aload_n hx hb dL_advise_0 rfl (lv_at hl 3 rfl) ?_
  refine lv_iconst (v := 0) hx hb dL_advise_1 (by decide) ?_
  refine lv_aload_n hx hb dL_advise_2 rfl (lv_at hl 0 rfl) ?_
  refine lv_iload_n hx hb dL_advise_3 rfl (lv_at hl 1 rfl) ?_
  refine lv_iload_n hx hb dL_advise_4 rfl (lv_at hl 2 rfl) ?_
  refine zX_V (pre := []) (wc := oW k b t M ++ kW cI k M ++ bW k B ++ sW cI b S ++ sW cI t T) (post := gW cJ o g) (w1 := oW k b t M ++ kW cI k M ++ bW k ((x3_best h w M B S i.toNatClampNeg).1) ++ sW cI b S ++ sW cI t ((x3_best h w M B S i.toNatClampNeg).2)) ⟨hx, hb, hml, hown, hts⟩ (c_X3_advise l dC dI cI k b t h w M B S T i x d hG0 hd hd2 hbk hLt) (cwV 2 hts gL_advise_X3_advise rfl rfl rfl (by decide +kernel) ⟨Nat.le_of_ble_eq_true rfl, Nat.le_of_ble_eq_true rfl⟩) rfl (hK.sub [0] rfl) hN hst (ci := 3) (q0 := 0) rfl rfl rfl hP hD hS hA rfl hl.1 rfl (Nat.le_of_ble_eq_true rfl) dL_advise_5 ⟨Nat.le_of_ble_eq_true rfl, Nat.le_of_ble_eq_true rfl⟩ (fun hne ce q9 H locs hP hD hS h7 h8 h9 => ?_) (fun hz H locs hP hD hS => ?_)
  · have hP : va_P (dC, dI) vwCl (oW k b t M ++ kW cI k M ++ bW k (zs (adv_T S i x) ((x3_best h w M B S i.toNatClampNeg).1) B) ++ sW cI b S ++ sW cI t (zs (adv_T S i x) ((x3_best h w M B S i.toNatClampNeg).2) T) ++ gW cJ o (zl (adv_T S i x) (vp_updL g (0 : Int32).toNatClampNeg (mv_num (x3_best h w M B S i.toNatClampNeg).1 x).toInt64) g)) H := by simp only [zs, zl, if_neg hne]; exact hP
    have hD : va_D A (oW k b t M ++ kW cI k M ++ bW k (zs (adv_T S i x) ((x3_best h w M B S i.toNatClampNeg).1) B) ++ sW cI b S ++ sW cI t (zs (adv_T S i x) ((x3_best h w M B S i.toNatClampNeg).2) T) ++ gW cJ o (zl (adv_T S i x) (vp_updL g (0 : Int32).toNatClampNeg (mv_num (x3_best h w M B S i.toNatClampNeg).1 x).toInt64) g)) := by simp only [zs, zl, if_neg hne]; exact hD
    rcases advise_vals S i x with h0 | h0 | h0 | h0
    · exact absurd h0 hne
    · rw [h0] at h9
      have h9 : s.vm.findClass "java/lang/IllegalArgumentException" = some ce.cls := h9
      refine vx_catch (E := "java/lang/IllegalArgumentException") (name := "java/lang/IllegalArgumentException") hown [] ⟨0, 10, 13, 13⟩ [⟨0, 10, 17, 19⟩, ⟨0, 10, 21, 37⟩] htab (fun z hz => absurd hz List.not_mem_nil) rfl (by decide) hk13 (va_Nw.use rfl (hst.2.2.2.2 "java/lang/IllegalArgumentException" (by decide))) h7 h8 h9 ?_
      refine lv_astore (lv' := [(4, .ref q9), (0, .ref (k 0)), (1, .int i), (2, .int x), (3, .ref o)]) hx hb dL_advise_13 hl (by decide) rfl (fun ls hl => ?_)
      refine lv_iconst (v := 1) hx hb dL_advise_15 (by decide) ?_
      exact zY_ret hx hb hr hlocks hP hD hS rfl h0.symm dL_advise_16 (Nat.le_of_ble_eq_true rfl) (Nat.le_of_ble_eq_true rfl)
    · rw [h0] at h9
      have h9 : s.vm.findClass "java/lang/IndexOutOfBoundsException" = some ce.cls := h9
      refine vx_catch (E := "java/lang/IndexOutOfBoundsException") (name := "java/lang/IndexOutOfBoundsException") hown [⟨0, 10, 13, 13⟩] ⟨0, 10, 17, 19⟩ [⟨0, 10, 21, 37⟩] htab (?_) rfl (by decide) hk19 (va_Nw.use rfl (hst.2.2.2.2 "java/lang/IndexOutOfBoundsException" (by decide))) h7 h8 h9 ?_
      · intro z hz
        simp only [List.mem_cons, List.not_mem_nil, or_false] at hz
        rcases hz with rfl
        · exact Or.inr ⟨by decide, "java/lang/IllegalArgumentException", hk13, hC ("java/lang/IndexOutOfBoundsException", "java/lang/IllegalArgumentException") (by decide)⟩
      refine lv_astore (lv' := [(4, .ref q9), (0, .ref (k 0)), (1, .int i), (2, .int x), (3, .ref o)]) hx hb dL_advise_17 hl (by decide) rfl (fun ls hl => ?_)
      refine lv_iconst (v := 2) hx hb dL_advise_19 (by decide) ?_
      exact zY_ret hx hb hr hlocks hP hD hS rfl h0.symm dL_advise_20 (Nat.le_of_ble_eq_true rfl) (Nat.le_of_ble_eq_true rfl)
    · rw [h0] at h9
      have h9 : s.vm.findClass "java/lang/IllegalStateException" = some ce.cls := h9
      refine vx_catch (E := "java/lang/IllegalStateException") (name := "java/lang/IllegalStateException") hown [⟨0, 10, 13, 13⟩, ⟨0, 10, 17, 19⟩] ⟨0, 10, 21, 37⟩ [] htab (?_) rfl (by decide) hk37 (va_Nw.use rfl (hst.2.2.2.2 "java/lang/IllegalStateException" (by decide))) h7 h8 h9 ?_
      · intro z hz
        simp only [List.mem_cons, List.not_mem_nil, or_false] at hz
        rcases hz with rfl | rfl
        · exact Or.inr ⟨by decide, "java/lang/IllegalArgumentException", hk13, hC ("java/lang/IllegalStateException", "java/lang/IllegalArgumentException") (by decide)⟩
        · exact Or.inr ⟨by decide, "java/lang/IndexOutOfBoundsException", hk19, hC ("java/lang/IllegalStateException", "java/lang/IndexOutOfBoundsException") (by decide)⟩
      refine lv_astore (lv' := [(4, .ref q9), (0, .ref (k 0)), (1, .int i), (2, .int x), (3, .ref o)]) hx hb dL_advise_21 hl (by decide) rfl (fun ls hl => ?_)
      refine lv_iconst (v := 3) hx hb dL_advise_23 (by decide) ?_
      exact zY_ret hx hb hr hlocks hP hD hS rfl h0.symm dL_advise_24 (Nat.le_of_ble_eq_true rfl) (Nat.le_of_ble_eq_true rfl)
  · refine lv_i2l (v := (mv_num (x3_best h w M B S i.toNatClampNeg).1 x).toInt64) hx hb dL_advise_8 rfl ?_
    refine va_last (cA := cJ) (n := 1) (f := g) hx hb hK hP hD hS 34 1 rfl rfl (show vp_in (nI 0) 1 from vp_in_nI (by decide) (by decide)) dL_advise_9 (fun H locs hP hD hS => ?_)
    have hP : va_P (dC, dI) vwCl (oW k b t M ++ kW cI k M ++ bW k (zs (adv_T S i x) ((x3_best h w M B S i.toNatClampNeg).1) B) ++ sW cI b S ++ sW cI t (zs (adv_T S i x) ((x3_best h w M B S i.toNatClampNeg).2) T) ++ gW cJ o (zl (adv_T S i x) (vp_updL g (0 : Int32).toNatClampNeg (mv_num (x3_best h w M B S i.toNatClampNeg).1 x).toInt64) g)) H := by simp only [zs, zl, if_pos hz]; exact hP
    have hD : va_D A (oW k b t M ++ kW cI k M ++ bW k (zs (adv_T S i x) ((x3_best h w M B S i.toNatClampNeg).1) B) ++ sW cI b S ++ sW cI t (zs (adv_T S i x) ((x3_best h w M B S i.toNatClampNeg).2) T) ++ gW cJ o (zl (adv_T S i x) (vp_updL g (0 : Int32).toNatClampNeg (mv_num (x3_best h w M B S i.toNatClampNeg).1 x).toInt64) g)) := by simp only [zs, zl, if_pos hz]; exact hD
    refine lv_goto (tgt := 25) hx hb dL_advise_10 (by decide) ?_
    refine lv_iconst (v := 0) hx hb dL_advise_25 (by decide) ?_
    exact zY_ret hx hb hr hlocks hP hD hS rfl hz.symm dL_advise_26 (Nat.le_of_ble_eq_true rfl) (Nat.le_of_ble_eq_true rfl)

set_option maxHeartbeats 4000000 in
set_option maxRecDepth 100000 in
theorem whole_start {p : Program} {e : Env} {s : State} {m : MethodId} {below : List Frame} {meth : Method} {c : Code} (l : Launch) (hflags : l.flags = flags0) {b L : Nat} {xs : Nat → Int32} (hL : L ≤ 2560) (C0 : lw_At p s m meth c b L xs) : W p l e room_1 s m #[Value.ref b] below meth c s.heap [] 0 0 (lw_Z below #[Value.ref b] s) (entryFrame m ([Value.ref b] : List Value).toArray 9) := by
  obtain ⟨hx, hb, hr, hml, hown, hts0, hX, hbl, hlocks, hgv⟩ := id C0
  have hgv9 := flat_of_before _ hgv
  have hts : ∀ w ∈ wsL_law, w.before #[Value.ref b] s = true := fun w h => hts0 w (wsL_law_in w h)
  obtain ⟨hst, hC, hN⟩ := st_zSt hts0 hgv9
  have hLt : l.stackTraces = false := by unfold Launch.stackTraces; rw [hflags]; decide +kernel
  obtain ⟨cX0, iX0, hKnX0⟩ := u_known (C := RX0) (T := TX0) (N := 3) (n := 3) hts0 inX0 (hts0 (.instantiable RX0 3) (List.mem_append_right _ (List.mem_of_getElem? (i := 24) (by decide +kernel))))
  obtain ⟨cX1, iX1, hKnX1⟩ := u_known (C := RX1) (T := TX1) (N := 5) (n := 5) hts0 inX1 (hts0 (.instantiable RX1 5) (List.mem_append_right _ (List.mem_of_getElem? (i := 134) (by decide +kernel))))
  obtain ⟨cX2, iX2, hKnX2⟩ := u_known (C := RX2) (T := TX2) (N := 18) (n := 18) hts0 inX2 (hts0 (.instantiable RX2 18) (List.mem_append_right _ (List.mem_of_getElem? (i := 50) (by decide +kernel))))
  obtain ⟨cX3, iX3, hKnX3⟩ := u_known (C := RX3) (T := TX3) (N := 6) (n := 6) hts0 inX3 (hts0 (.instantiable RX3 6) (List.mem_append_right _ (List.mem_of_getElem? (i := 16) (by decide +kernel))))
  obtain ⟨cX4, iX4, hKnX4⟩ := u_known (C := RX4) (T := TX4) (N := 7) (n := 7) hts0 inX4 (hts0 (.instantiable RX4 7) (List.mem_append_right _ (List.mem_of_getElem? (i := 537) (by decide +kernel))))
  obtain ⟨dC, dI, hKc⟩ : ∃ (dC : Nat → ClassId) (dI : Nat → Nat → Nat), ∀ (k : Nat) (q : vw_C), vwCl[k]? = some q → u_Kn s q.1 q.2.1 q.2.2 (dC k) (dI k) := by
    refine ⟨fun k => [cX0, cX1, cX2, cX3, cX4].getD k cX0, fun k => match k with | 0 => iX0 | 1 => iX1 | 2 => iX2 | 3 => iX3 | _ => iX4, ?_⟩
    intro k q hq
    match k, hq with
    | 0, hq => cases hq; exact hKnX0
    | 1, hq => cases hq; exact hKnX1
    | 2, hq => cases hq; exact hKnX2
    | 3, hq => cases hq; exact hKnX3
    | 4, hq => cases hq; exact hKnX4
    | k + 5, hq => simp [vwCl] at hq
  obtain ⟨cI, a1, a2⟩ := st_arr (s := s) (b := b) (ty := .int) (fun C h => by cases h) (hts0 (.arrayClass .int) (List.mem_append_right _ (List.mem_of_getElem? (i := 48) (by decide +kernel))))
  obtain ⟨cJ, a3, a4⟩ := st_arr (s := s) (b := b) (ty := .long) (fun C h => by cases h) (hts0 (.arrayClass .long) (List.mem_append_right _ (List.mem_of_getElem? (i := 705) (by decide +kernel))))
  have hK : va_K (dC, dI) vwCl [(cI, .int), (cJ, .long)] s := by
    refine ⟨hKc, fun k q h => ?_⟩
    match k, h with
    | 0, h => cases h; exact ⟨a1, a2⟩
    | 1, h => cases h; exact ⟨a3, a4⟩
    | k + 2, h => simp at h
  have G0 : lawG p s m meth c b L xs (dC, dI) cI cJ := ⟨hx, hb, hr, hml, hown, hts, hX, hbl, hlocks, hK, hN, hC, hst⟩
  have hown : s.vm.findClass RL = some m.cls := hown
  have hA : ∀ q : Nat, s.heap.size ≤ q → lawA s q := fun _ h => h
  have hS : va_S (lawA s) s.heap s.heap [] := va_S.rf
  have hP : va_P (dC, dI) vwCl [] s.heap := fun k q h => by simp at h
  have hD : va_D (lawA s) [] := ⟨fun i j p q h => by simp at h, fun k q h => by simp at h⟩
  have hl := lv_entry ([.ref b]) (n := 9) (Nat.le_of_ble_eq_true rfl)
  rw [lg_entry_eq]
  generalize (lg_sl ([.ref b]) ++ List.replicate (9 - (lg_sl ([.ref b])).length) Slot.unset).toArray = ls at hl ⊢
  have hl : lv_has ls 9 [(0, .ref b)] := hl
  refine va_new (ci := 3) (fs := [.null, .null, .null, .null, .int 0, .int 0]) (C := RX3) (T := TX3) (N := 6) hx hb hts0 inX3 tyX3 tyX3_ok hown (hts0 (.classLink RL 8 RX3) (List.mem_append_right _ (List.mem_of_getElem? (i := 15) (by decide +kernel)))) (hts0 (.instantiable RX3 6) (List.mem_append_right _ (List.mem_of_getElem? (i := 16) (by decide +kernel)))) (hts0 (.initialized RX3) (List.mem_append_right _ (List.mem_of_getElem? (i := 1) (by decide +kernel)))) hK hP hD hS hA rfl (fun j hj => by rcases (show j = 0 ∨ j = 1 ∨ j = 2 ∨ j = 3 ∨ j = 4 ∨ j = 5 by omega) with rfl | rfl | rfl | rfl | rfl | rfl <;> rfl) (Nat.le_of_ble_eq_true rfl) (Nat.le_of_ble_eq_true rfl) dL_law_0 (fun q0 H hP hD hS => ?_)
  have hP : va_P (dC, dI) vwCl ([(q0, .inr (3, [.null, .null, .null, .null, .int 0, .int 0]))]) H := hP
  have hD : va_D (lawA s) ([(q0, .inr (3, [.null, .null, .null, .null, .int 0, .int 0]))]) := hD
  refine lv_dup hx hb dL_law_3 rfl ?_
  refine zM_I (pre := []) (wc := [(q0, .inr (3, [.null, .null, .null, .null, .int 0, .int 0]))]) (post := []) ⟨hx, hb, hml, hown, hts⟩ (c_X3_init l dC dI cI q0) (cwI 0 hts gL_law_X3_init rfl rfl rfl (hts0 (.initialized RX3) (List.mem_append_right _ (List.mem_of_getElem? (i := 1) (by decide +kernel)))) (hts0 (.methodLink RL 61 yX3_init) (List.mem_append_right _ (List.mem_of_getElem? (i := 17) (by decide +kernel)))) (hts0 (.instanceMethod yX3_init) (List.mem_append_right _ (List.mem_of_getElem? (i := 18) (by decide +kernel)))) rfl (by decide +kernel) ⟨Nat.le_of_ble_eq_true rfl, Nat.le_of_ble_eq_true rfl⟩) (List.append_nil _).symm (hK.sub [0] rfl) hN hP hD hS hA rfl hl.1 rfl (Nat.le_of_ble_eq_true rfl) dL_law_4 ⟨Nat.le_of_ble_eq_true rfl, Nat.le_of_ble_eq_true rfl⟩ (fun u H locs hu hP hD hS => ?_)
  rw [List.append_nil] at hP hD
  obtain ⟨k, bb, t⟩ := u
  have hP : va_P (dC, dI) vwCl (oW k bb t cal0 ++ kW cI k cal0 ++ bW k bst0 ++ sW cI bb (sl_new 4 4) ++ sW cI t (sl_new 4 4)) H := hP
  have hD : va_D (lawA s) (oW k bb t cal0 ++ kW cI k cal0 ++ bW k bst0 ++ sW cI bb (sl_new 4 4) ++ sW cI t (sl_new 4 4)) := hD
  have hu : k 0 = q0 := hu
  rw [← hu]
  refine lv_astore_n (lv' := [(1, .ref (k 0)), (0, .ref b)]) hx hb dL_law_7 rfl hl (by decide) rfl (fun ls hl => ?_)
  refine va_new (ci := 4) (fs := [.int 0, .null, .null, .null, .null, .null, .null]) (C := RX4) (T := TX4) (N := 7) hx hb hts0 inX4 tyX4 tyX4_ok hown (hts0 (.classLink RL 62 RX4) (List.mem_append_right _ (List.mem_of_getElem? (i := 536) (by decide +kernel)))) (hts0 (.instantiable RX4 7) (List.mem_append_right _ (List.mem_of_getElem? (i := 537) (by decide +kernel)))) (hts0 (.initialized RX4) (List.mem_append_right _ (List.mem_of_getElem? (i := 6) (by decide +kernel)))) hK hP hD hS hA rfl (fun j hj => by rcases (show j = 0 ∨ j = 1 ∨ j = 2 ∨ j = 3 ∨ j = 4 ∨ j = 5 ∨ j = 6 by omega) with rfl | rfl | rfl | rfl | rfl | rfl | rfl <;> rfl) (Nat.le_of_ble_eq_true rfl) (Nat.le_of_ble_eq_true rfl) dL_law_8 (fun q1 H hP hD hS => ?_)
  have hP : va_P (dC, dI) vwCl (oW k bb t cal0 ++ kW cI k cal0 ++ bW k bst0 ++ sW cI bb (sl_new 4 4) ++ sW cI t (sl_new 4 4) ++ [(q1, .inr (4, [.int 0, .null, .null, .null, .null, .null, .null]))]) H := hP
  have hD : va_D (lawA s) (oW k bb t cal0 ++ kW cI k cal0 ++ bW k bst0 ++ sW cI bb (sl_new 4 4) ++ sW cI t (sl_new 4 4) ++ [(q1, .inr (4, [.int 0, .null, .null, .null, .null, .null, .null]))]) := hD
  refine lv_dup hx hb dL_law_11 rfl ?_
  refine zM_I (pre := oW k bb t cal0 ++ kW cI k cal0 ++ bW k bst0 ++ sW cI bb (sl_new 4 4) ++ sW cI t (sl_new 4 4)) (wc := [(q1, .inr (4, [.int 0, .null, .null, .null, .null, .null, .null]))]) (post := []) ⟨hx, hb, hml, hown, hts⟩ (c_X4_init l dC dI cI q1) (cwI 0 hts gL_law_X4_init rfl rfl rfl (hts0 (.initialized RX4) (List.mem_append_right _ (List.mem_of_getElem? (i := 6) (by decide +kernel)))) (hts0 (.methodLink RL 64 yX4_init) (List.mem_append_right _ (List.mem_of_getElem? (i := 538) (by decide +kernel)))) (hts0 (.instanceMethod yX4_init) (List.mem_append_right _ (List.mem_of_getElem? (i := 539) (by decide +kernel)))) rfl (by decide +kernel) ⟨Nat.le_of_ble_eq_true rfl, Nat.le_of_ble_eq_true rfl⟩) (List.append_nil _).symm (hK.sub [0] rfl) hN hP hD hS hA rfl hl.1 rfl (Nat.le_of_ble_eq_true rfl) dL_law_12 ⟨Nat.le_of_ble_eq_true rfl, Nat.le_of_ble_eq_true rfl⟩ (fun d H locs hu hP hD hS => ?_)
  rw [List.append_nil] at hP hD
  have hP : va_P (dC, dI) vwCl (oW k bb t cal0 ++ kW cI k cal0 ++ bW k bst0 ++ sW cI bb (sl_new 4 4) ++ sW cI t (sl_new 4 4) ++ mW cI d mst0) H := hP
  have hD : va_D (lawA s) (oW k bb t cal0 ++ kW cI k cal0 ++ bW k bst0 ++ sW cI bb (sl_new 4 4) ++ sW cI t (sl_new 4 4) ++ mW cI d mst0) := hD
  have hu : d 0 = q1 := hu
  rw [← hu]
  refine lv_astore_n (lv' := [(2, .ref (d 0)), (1, .ref (k 0)), (0, .ref b)]) hx hb dL_law_15 rfl hl (by decide) rfl (fun ls hl => ?_)
  refine lv_iconst (v := 1) hx hb dL_law_16 (by decide) ?_
  refine va_newa (atype := .long) (ty := .long) (n := 1) (N' := 1) (a0 := (1, .inr (.inl (fun _ => 0)))) hx hb (hts0 (.arrayClass .long) (List.mem_append_right _ (List.mem_of_getElem? (i := 705) (by decide +kernel)))) rfl hK hP hD hS hA (fun cA => rfl) (by decide) rfl (Nat.le_of_ble_eq_true rfl) (Nat.le_of_ble_eq_true rfl) (Nat.le_of_ble_eq_true rfl) dL_law_17 (fun o cA H hK9 hP hD hS => ?_)
  obtain rfl : cJ = cA := Option.some.inj ((va_nm_long (hK9.2 1 (cJ, .long) rfl).2).symm.trans (va_nm_long (hK9.2 2 (cA, .long) rfl).2))
  have hP : va_P (dC, dI) vwCl (oW k bb t cal0 ++ kW cI k cal0 ++ bW k bst0 ++ sW cI bb (sl_new 4 4) ++ sW cI t (sl_new 4 4) ++ gW cJ o (fun _ => 0) ++ mW cI d mst0) H := hP.sub [0, 1, 2, 3, 4, 5, 6, 7, 8, 9, 10, 11, 12, 13, 14, 15, 16, 17, 18, 19, 20, 21, 22, 23, 24, 25, 26, 27, 28, 29, 30, 31, 32, 33, 41, 34, 35, 36, 37, 38, 39, 40] rfl
  have hD : va_D (lawA s) (oW k bb t cal0 ++ kW cI k cal0 ++ bW k bst0 ++ sW cI bb (sl_new 4 4) ++ sW cI t (sl_new 4 4) ++ gW cJ o (fun _ => 0) ++ mW cI d mst0) := hD.sub [0, 1, 2, 3, 4, 5, 6, 7, 8, 9, 10, 11, 12, 13, 14, 15, 16, 17, 18, 19, 20, 21, 22, 23, 24, 25, 26, 27, 28, 29, 30, 31, 32, 33, 41, 34, 35, 36, 37, 38, 39, 40] (by decide +kernel) rfl
  refine lv_astore_n (lv' := [(3, .ref o), (2, .ref (d 0)), (1, .ref (k 0)), (0, .ref b)]) hx hb dL_law_19 rfl hl (by decide) rfl (fun ls hl => ?_)
  refine lv_iconst (v := 0) hx hb dL_law_20 (by decide) ?_
  refine lv_istore (lv' := [(4, .int 0), (3, .ref o), (2, .ref (d 0)), (1, .ref (k 0)), (0, .ref b)]) hx hb dL_law_21 hl (by decide) rfl (fun ls hl => ?_)
  have hl : lv_has ls 9 [(4, .int (nI 0)), (3, .ref o), (2, .ref (d 0)), (1, .ref (k 0)), (0, .ref b)] := hl
  refine W.widen (k := 100) (n := 4000) (Nat.le_of_ble_eq_true rfl) (Nat.le_of_ble_eq_true rfl) ?_
  refine W.base ?_
  exact law_loop l hLt G0 hL 520 0 100 4000 (by decide) (by omega) (Nat.le_of_ble_eq_true rfl) (Nat.le_of_ble_eq_true rfl) s.drawn 4 4 0 cal0 bst0 (sl_new 4 4) (sl_new 4 4) mst0 (fun _ => 0) H _ ls (Drawn.sameBut.refl s.drawn lw_cs) Rl_first hP hD hS hl

theorem st_arr {s : State} {b : Nat} {ty : FieldType} (hn : ∀ C, ty ≠ .object C) (h : (Cond.arrayClass ty).before #[Value.ref b] s = true) : ∃ cA : ClassId, ArrOfT s cA ty ∧ va_RA s cA ty := by
  obtain ⟨cA, kA, comp, h1, h2, h3⟩ := Cond.arrayClass_spec h
  refine ⟨cA, fun n z => ⟨fun k h => (by cases h), kA, h2, comp, h3⟩, ?_⟩
  cases ty with
  | object C => exact absurd rfl (hn C)
  | _ => exact h1
theorem st_arq {s : State} {t : FieldType} (h : (Cond.arrayOver (.array t)).before #[] s = true) : ∃ cA : ClassId, ArrOfT s cA (.array t) ∧ va_RA s cA (.array t) := by
  obtain ⟨comp, cA, kA, e1, -, e2, e3, e4⟩ := arrayOverA_spec h
  exact ⟨cA, fun n z => ⟨fun k h => (by cases h), kA, e2, comp, e3⟩, e4⟩
theorem gL_build9 : GoodIn lw_tbl wsL_build9 := fun w hw => (List.mem_append.mp hw).elim (fun h => goodIn_sub zn_build (by decide +kernel) w h) (fun h => goodIn_sub (fun w h9 => by rw [List.mem_singleton.mp h9]; exact List.mem_append_right _ (List.mem_of_getElem? (i := 421) (by decide +kernel))) (by decide +kernel) w h)
set_option maxHeartbeats 4000000 in
set_option maxRecDepth 100000 in
theorem whole_start {p : Program} {e : Env} {s : State} {m : MethodId} {below : List Frame} {meth : Method} {c : Code} (l : Launch) (hflags : l.flags = flags0) {b L : Nat} {xs : Nat → Int32} (hL : L ≤ 260) (C0 : lw_At p s m meth c b L xs) : W p l e room_1 s m #[Value.ref b] below meth c s.heap [] 0 0 (lw_Z below #[Value.ref b] s) (entryFrame m ([Value.ref b] : List Value).toArray 26) := by
  obtain ⟨hx, hb, hr, hml, hown, hts0, hX, hbl, hlocks, hgv⟩ := id C0
  have hts : ∀ w ∈ wsL_law, w.before #[Value.ref b] s = true := fun w h => hts0 w (wsL_law_in w h)
  have hN : zN s := ⟨va_Nw.of rfl (hts0 (.methodLinkNest RX2 155 yX3_isWithin "PaddyTerraces") (List.mem_append_right _ (List.mem_of_getElem? (i := 342) (by decide +kernel)))), va_Nw.of rfl (hts0 (.methodLinkNest RX3 30 yX1_init "PaddyTerraces") (List.mem_append_right _ (List.mem_of_getElem? (i := 135) (by decide +kernel))))⟩
  have hG : zG s := ⟨over_moved (a := #[Value.ref b]) (Vm.Alike.refl _) (hts0 (.arrayOver (.array .int)) (List.mem_append_right _ (List.mem_of_getElem? (i := 420) (by decide +kernel)))), over_moved (a := #[Value.ref b]) (Vm.Alike.refl _) (hts0 (.arrayOver (.array (.array .int))) (List.mem_append_right _ (List.mem_of_getElem? (i := 422) (by decide +kernel))))⟩
  obtain ⟨cX0, iX0, hKnX0⟩ := u_known (C := RX0) (T := TX0) (N := 3) (n := 3) hts0 inX0 (hts0 (.instantiable RX0 3) (List.mem_append_right _ (List.mem_of_getElem? (i := 24) (by decide +kernel))))
  obtain ⟨cX1, iX1, hKnX1⟩ := u_known (C := RX1) (T := TX1) (N := 5) (n := 5) hts0 inX1 (hts0 (.instantiable RX1 5) (List.mem_append_right _ (List.mem_of_getElem? (i := 134) (by decide +kernel))))
  obtain ⟨cX2, iX2, hKnX2⟩ := u_known (C := RX2) (T := TX2) (N := 18) (n := 18) hts0 inX2 (hts0 (.instantiable RX2 18) (List.mem_append_right _ (List.mem_of_getElem? (i := 50) (by decide +kernel))))
  obtain ⟨cX3, iX3, hKnX3⟩ := u_known (C := RX3) (T := TX3) (N := 6) (n := 6) hts0 inX3 (hts0 (.instantiable RX3 6) (List.mem_append_right _ (List.mem_of_getElem? (i := 16) (by decide +kernel))))
  obtain ⟨cX4, iX4, hKnX4⟩ := u_known (C := RX4) (T := TX4) (N := 10) (n := 10) hts0 inX4 (hts0 (.instantiable RX4 10) (List.mem_append_right _ (List.mem_of_getElem? (i := 406) (by decide +kernel))))
  obtain ⟨dC, dI, hKc⟩ : ∃ (dC : Nat → ClassId) (dI : Nat → Nat → Nat), ∀ (k : Nat) (q : vw_C), vwCl[k]? = some q → u_Kn s q.1 q.2.1 q.2.2 (dC k) (dI k) := by
    refine ⟨fun k => [cX0, cX1, cX2, cX3, cX4].getD k cX0, fun k => match k with | 0 => iX0 | 1 => iX1 | 2 => iX2 | 3 => iX3 | _ => iX4, ?_⟩
    intro k q hq
    match k, hq with
    | 0, hq => cases hq; exact hKnX0
    | 1, hq => cases hq; exact hKnX1
    | 2, hq => cases hq; exact hKnX2
    | 3, hq => cases hq; exact hKnX3
    | 4, hq => cases hq; exact hKnX4
    | k + 5, hq => simp [vwCl] at hq
  obtain ⟨cI, a1, a2⟩ := st_arr (s := s) (b := b) (ty := .int) (fun C h => by cases h) (hts0 (.arrayClass .int) (List.mem_append_right _ (List.mem_of_getElem? (i := 48) (by decide +kernel))))
  obtain ⟨cR, a3, a4⟩ := st_arq hG.1
  obtain ⟨cF, a5, a6⟩ := st_arq hG.2
  have hK3 : va_K (dC, dI) vwCl (zTy cI cR cF) s := by
    refine ⟨hKc, fun k q h => ?_⟩
    match k, h with
    | 0, h => cases h; exact ⟨a1, a2⟩
    | 1, h => cases h; exact ⟨a3, a4⟩
    | 2, h => cases h; exact ⟨a5, a6⟩
    | k + 3, h => simp at h
  have hfs : ∀ w ∈ wsF, w.before #[Value.ref b] s = true := by
    exact List.forall_mem_cons.mpr ⟨hts0 (.fieldLink RL 24 "PaddyTerracesLaw$Sim" "h" "I") (List.mem_append_right _ (List.mem_of_getElem? (i := 424) (by decide +kernel))), List.forall_mem_cons.mpr ⟨hts0 (.fieldLink RL 28 "PaddyTerracesLaw$Sim" "w" "I") (List.mem_append_right _ (List.mem_of_getElem? (i := 426) (by decide +kernel))), List.forall_mem_cons.mpr ⟨hts0 (.fieldLink RL 40 "PaddyTerracesLaw$Sim" "calendar" "[[I") (List.mem_append_right _ (List.mem_of_getElem? (i := 432) (by decide +kernel))), List.forall_mem_cons.mpr ⟨hts0 (.fieldLink RL 44 "PaddyTerracesLaw$Sim" "shares" "[I") (List.mem_append_right _ (List.mem_of_getElem? (i := 430) (by decide +kernel))), List.forall_mem_cons.mpr ⟨hts0 (.fieldLink RL 70 "PaddyTerracesLaw$Sim" "moved" "I") (List.mem_append_right _ (List.mem_of_getElem? (i := 433) (by decide +kernel))), fun _ h => absurd h List.not_mem_nil⟩⟩⟩⟩⟩
  have G0 : lawG p s m meth c b (dC, dI) cI cR cF := ⟨hx, hb, hr, hml, hown, hts, hfs, hlocks, hK3, hN⟩
  have hown : s.vm.findClass RL = some m.cls := hown
  have hA : ∀ q : Nat, s.heap.size ≤ q → lawA s q := fun _ h => h
  have hbA : ¬ lawA s b := Nat.not_le.mpr hbl
  have hK : va_K (dC, dI) vwCl [(cI, .int)] s := hK3.sub [0] rfl
  have hS : va_S (lawA s) s.heap s.heap [] := va_S.rf
  have hP : va_P (dC, dI) vwCl [] s.heap := fun k q h => by simp at h
  have hD : va_D (lawA s) [] := ⟨fun i j p q h => by simp at h, fun k q h => by simp at h⟩
  have hl := lv_entry ([.ref b]) (n := 26) (Nat.le_of_ble_eq_true rfl)
  rw [lg_entry_eq]
  generalize (lg_sl ([.ref b]) ++ List.replicate (26 - (lg_sl ([.ref b])).length) Slot.unset).toArray = ls at hl ⊢
  have hl : lv_has ls 26 [(0, .ref b)] := hl
  refine va_new (ci := 3) (fs := [.null, .null, .null, .null, .int 0, .int 0]) (C := RX3) (T := TX3) (N := 6) hx hb hts0 inX3 tyX3 tyX3_ok hown (hts0 (.classLink RL 32 RX3) (List.mem_append_right _ (List.mem_of_getElem? (i := 15) (by decide +kernel)))) (hts0 (.instantiable RX3 6) (List.mem_append_right _ (List.mem_of_getElem? (i := 16) (by decide +kernel)))) (hts0 (.initialized RX3) (List.mem_append_right _ (List.mem_of_getElem? (i := 1) (by decide +kernel)))) hK hP hD hS hA rfl (fun j hj => by rcases (show j = 0 ∨ j = 1 ∨ j = 2 ∨ j = 3 ∨ j = 4 ∨ j = 5 by omega) with rfl | rfl | rfl | rfl | rfl | rfl <;> rfl) (Nat.le_of_ble_eq_true rfl) (Nat.le_of_ble_eq_true rfl) dL_law_0 (fun q0 H hP hD hS => ?_)
  have hP : va_P (dC, dI) vwCl ([(q0, .inr (3, [.null, .null, .null, .null, .int 0, .int 0]))]) H := hP
  have hD : va_D (lawA s) ([(q0, .inr (3, [.null, .null, .null, .null, .int 0, .int 0]))]) := hD
  refine lv_dup hx hb dL_law_3 rfl ?_
  refine zM_I (pre := []) (wc := [(q0, .inr (3, [.null, .null, .null, .null, .int 0, .int 0]))]) (post := []) ⟨hx, hb, hml, hown, hts⟩ (c_X3_init l dC dI cI q0) (cwI 0 hts gL_law_X3_init rfl rfl rfl (hts0 (.initialized RX3) (List.mem_append_right _ (List.mem_of_getElem? (i := 1) (by decide +kernel)))) (hts0 (.methodLink RL 83 yX3_init) (List.mem_append_right _ (List.mem_of_getElem? (i := 17) (by decide +kernel)))) (hts0 (.instanceMethod yX3_init) (List.mem_append_right _ (List.mem_of_getElem? (i := 18) (by decide +kernel)))) rfl (by decide +kernel) ⟨Nat.le_of_ble_eq_true rfl, Nat.le_of_ble_eq_true rfl⟩) (List.append_nil _).symm hK hN hP hD hS hA rfl hl.1 rfl (Nat.le_of_ble_eq_true rfl) dL_law_4 ⟨Nat.le_of_ble_eq_true rfl, Nat.le_of_ble_eq_true rfl⟩ (fun u H locs hu hP hD hS => ?_)
  rw [List.append_nil] at hP hD
  obtain ⟨k, bb, t⟩ := u
  have hP : va_P (dC, dI) vwCl (oW k bb t cal0 ++ kW cI k cal0 ++ bW k bst0 ++ sW cI bb (sl_new 4 4) ++ sW cI t (sl_new 4 4)) H := hP
  have hD : va_D (lawA s) (oW k bb t cal0 ++ kW cI k cal0 ++ bW k bst0 ++ sW cI bb (sl_new 4 4) ++ sW cI t (sl_new 4 4)) := hD
  have hu : k 0 = q0 := hu
  rw [← hu]
  refine lv_astore_n (lv' := [(1, .ref (k 0)), (0, .ref b)]) hx hb dL_law_7 rfl hl (by decide) rfl (fun ls hl => ?_)
  refine lv_aload_n hx hb dL_law_8 rfl (lv_at hl 0 rfl) ?_
  refine lv_aload_n hx hb dL_law_9 rfl (lv_at hl 1 rfl) ?_
  have gB9 : GoodIn lw_tbl (va_wsS RL 84 yL_build wsL_build9) := goodIn_app (goodIn_sub (fun w hw => by
      simp only [List.mem_cons, List.not_mem_nil, or_false] at hw
      rcases hw with rfl | rfl | rfl
      · exact List.mem_append_right _ (List.mem_of_getElem? (i := 402) (by decide +kernel))
      · exact List.mem_append_right _ (List.mem_of_getElem? (i := 403) (by decide +kernel))
      · exact List.mem_append_right _ (List.mem_of_getElem? (i := 0) (by decide +kernel))
    ) (by decide +kernel)) gL_build9
  refine zR_S (pre := []) (wc := oW k bb t cal0 ++ kW cI k cal0 ++ bW k bst0 ++ sW cI bb (sl_new 4 4) ++ sW cI t (sl_new 4 4)) (post := []) ⟨hx, hb, hml, hown, hts0⟩ (c_L_build l dC dI cI cR cF k bb t bst0 (sl_new 4 4) (sl_new 4 4) b L xs hL) (va_cwS 2 hts0 gB9 rfl rfl rfl (by decide +kernel) ⟨Nat.le_of_ble_eq_true rfl, Nat.le_of_ble_eq_true rfl⟩) hX hbl hbA (List.append_nil _).symm hK3 hN hG hP hD hS hA rfl hl.1 rfl (Nat.le_of_ble_eq_true rfl) dL_law_10 ⟨Nat.le_of_ble_eq_true rfl, Nat.le_of_ble_eq_true rfl⟩ (fun qs w1 H locs hF hP hD hS => ?_)
  obtain ⟨h, w, M, S, Z9, rfl, hZ, hB, hM, h0, h4⟩ := hF
  rw [List.append_nil, List.nil_append] at hP hD
  refine lv_astore_n (lv' := [(2, .ref qs), (1, .ref (k 0)), (0, .ref b)]) hx hb dL_law_13 rfl hl (by decide) rfl (fun ls hl => ?_)
  refine lv_aload_n hx hb dL_law_14 rfl (lv_at hl 0 rfl) ?_
  refine lv_ifnonnull (tgt := 20) hx hb dL_law_15 (by decide) ?_
  refine W.widen (k := 200) (n := 3000) (Nat.le_of_ble_eq_true rfl) (Nat.le_of_ble_eq_true rfl) ?_
  refine W.base ?_
  exact law_Go l G0 hZ hB hM h0 h4 hP hD hS hl

set_option maxHeartbeats 4000000 in
set_option maxRecDepth 100000 in
theorem law_depth (l : Launch) (hLt : l.stackTraces = false) {p : Program} {e : Env} {s0 : State} {m : MethodId} {below : List Frame} {meth : Method} {c : Code} {sc L : Nat} {xs : Nat → Int32} {dC : Nat → ClassId} {dI : Nat → Nat → Nat} {cI cJ : ClassId} {k b t d : Nat → Nat} {o i cells slots : Nat} (G0 : lawG p s0 m meth c sc L xs (dC, dI) cI cJ) (hi : i + 5 ≤ L) (hL : L ≤ 2560) (hc : cells + 2 ≤ 601024) (hs : slots + 18 ≤ 7293034) (kk : lawW p l e s0 m below meth c sc (dC, dI) cI cJ k b t d o 1195 i (cells + 2) (slots + 18)) : lawW p l e s0 m below meth c sc (dC, dI) cI cJ k b t d o 1140 i cells slots := by
  intro d0 h w y M B S T O g H locs ls hd0 G hP hD hS hl
  obtain ⟨hx, hb, hr, hml, hown, hts, hX, hbl, hlocks, hK, hN, hC, hst⟩ := lawG_d G0 d0
  have hown : s0.vm.findClass RL = some m.cls := hown
  have hA : ∀ q, s0.heap.size ≤ q → lawA s0 q := fun _ h => h
  have hbA : ¬ lawA s0 sc := Nat.not_le.mpr hbl
  have G2 := Rl_0 G 0
  obtain ⟨q1, q2⟩ := depth_ok G2
  have hK0 : va_K (dC, dI) vwCl [(cI, .int)] s0 := hK.sub [0] rfl
  refine lv_aload_n hx hb dL_law_1140 rfl (lv_at hl 3 rfl) ?_
  refine zD_V hd0 (pre := []) (wc := oW k b t M ++ kW cI k M ++ bW k B ++ sW cI b S ++ sW cI t T) (post := gW cJ o g ++ mW cI d O) (w1 := oW k b t M ++ kW cI k M ++ bW k B ++ sW cI b S ++ sW cI t T) ⟨hx, hb, hml, hown, hts⟩ (c_X3_depth l dC dI cI k b t h w M B S T G.1.1) (cwV 0 hts gL_law_X3_depth rfl rfl rfl (by decide +kernel) ⟨Nat.le_of_ble_eq_true rfl, Nat.le_of_ble_eq_true rfl⟩) (by simp only [List.append_assoc, List.append_nil, List.nil_append]) hK0 hN (ci := 3) (q0 := 0) rfl rfl rfl hP hD hS hA rfl hl.1 rfl (Nat.le_of_ble_eq_true rfl) dL_law_1141 ⟨by show cells ≤ 601024; omega, by show slots ≤ 7293034; omega⟩ (fun r1 H locs hal1 hP hD hS d1 hd1 => ?_)
  have hP : va_P (dC, dI) vwCl (oW k b t M ++ kW cI k M ++ bW k B ++ sW cI b S ++ sW cI t T ++ gW cJ o g ++ mW cI d O) H := by simpa only [List.append_assoc, List.append_nil, List.nil_append] using hP
  have hD : va_D (lawA s0) (oW k b t M ++ kW cI k M ++ bW k B ++ sW cI b S ++ sW cI t T ++ gW cJ o g ++ mW cI d O) := by simpa only [List.append_assoc, List.append_nil, List.nil_append] using hD
  obtain ⟨hx, hb, hr, hml, -, hts, hX, hbl, hlocks, hK, hN, hC, hst⟩ := lawG_d G0 d1
  refine lv_dstore (lv' := [(5, .double r1), (4, .int (nI i)), (3, .ref o), (2, .ref (d 0)), (1, .ref (k 0)), (0, .ref sc)]) hx hb dL_law_1144 hl (by decide) rfl (fun ls hl => ?_)
  refine lv_aload_n hx hb dL_law_1146 rfl (lv_at hl 3 rfl) ?_
  refine zD_V hd1 (pre := oW k b t M ++ kW cI k M ++ bW k B ++ sW cI b S ++ sW cI t T ++ gW cJ o g) (wc := mW cI d O) (post := []) (w1 := mW cI d (s_put O 0 0 0)) ⟨hx, hb, hml, hown, hts⟩ (c_X4_depth l dC dI cI d h w O G.1.2.1) (cwV 0 hts gL_law_X4_depth rfl rfl rfl (by decide +kernel) ⟨Nat.le_of_ble_eq_true rfl, Nat.le_of_ble_eq_true rfl⟩) (List.append_nil _).symm hK0 hN (ci := 4) (q0 := 0) rfl rfl rfl hP hD hS hA rfl hl.1 rfl (Nat.le_of_ble_eq_true rfl) dL_law_1147 ⟨by show cells ≤ 601024; omega, by show slots ≤ 7293034; omega⟩ (fun r2 H locs hal2 hP hD hS d2 hd2 => ?_)
  rw [List.append_nil] at hP hD
  rw [q1, q2] at hal2
  obtain ⟨hx, hb, hr, hml, -, hts, hX, hbl, hlocks, hK, hN, hC, hst⟩ := lawG_d G0 d2
  refine lv_dstore (lv' := [(7, .double r2), (5, .double r1), (4, .int (nI i)), (3, .ref o), (2, .ref (d 0)), (1, .ref (k 0)), (0, .ref sc)]) hx hb dL_law_1150 hl (by decide) rfl (fun ls hl => ?_)
  have kk := kk d2 h w y M B S T (s_put O 0 0 0) g H locs ls hd2 G2 hP hD hS (lv_sub hl [2, 3, 4, 5, 6] rfl)
  have kk := W.widen (cells := cells) (slots := slots) (by omega) (by omega) kk
  have kg := lv_goto (tgt := 1195) hx hb dL_law_1178 (by decide) kk
  refine lv_dload hx hb dL_law_1152 (lv_at hl 1 rfl) ?_
  refine lv_dload hx hb dL_law_1154 (lv_at hl 0 rfl) ?_
  refine lv_dcmp hx hb dL_law_1156 ?_
  rcases dep_cmp hal1 hal2 with z | ⟨z1, z2⟩
  · exact lv_if_eq (tgt := 1178) hx hb dL_law_1157 (by decide) (fun _ => kg) (fun q => absurd z q)
  · refine lv_if_eq (tgt := 1178) hx hb dL_law_1157 (by decide) (fun _ => kg) (fun _ => ?_)
    refine lv_dload hx hb dL_law_1160 (lv_at hl 1 rfl) ?_
    refine lv_dload hx hb dL_law_1162 (lv_at hl 1 rfl) ?_
    refine lv_dcmp hx hb dL_law_1164 ?_
    refine lv_if_eq (tgt := 1176) hx hb dL_law_1165 (by decide) (fun q => absurd q z1) (fun _ => ?_)
    refine lv_dload hx hb dL_law_1168 (lv_at hl 0 rfl) ?_
    refine lv_dload hx hb dL_law_1170 (lv_at hl 0 rfl) ?_
    refine lv_dcmp hx hb dL_law_1172 ?_
    exact lv_if_ne (tgt := 1178) hx hb dL_law_1173 (by decide) (fun _ => kg) (fun q => absurd q z2)
set_option maxHeartbeats 4000000 in
set_option maxRecDepth 100000 in
theorem law_digest (l : Launch) (hLt : l.stackTraces = false) {p : Program} {e : Env} {s0 : State} {m : MethodId} {below : List Frame} {meth : Method} {c : Code} {sc L : Nat} {xs : Nat → Int32} {dC : Nat → ClassId} {dI : Nat → Nat → Nat} {cI cJ : ClassId} {k b t d : Nat → Nat} {o i cells slots : Nat} (G0 : lawG p s0 m meth c sc L xs (dC, dI) cI cJ) (hi : i + 5 ≤ L) (hL : L ≤ 2560) (hc : cells + 2 ≤ 601024) (hs : slots + 18 ≤ 7293034) (kk : lawW p l e s0 m below meth c sc (dC, dI) cI cJ k b t d o 1195 i (cells + 2) (slots + 18)) : lawW p l e s0 m below meth c sc (dC, dI) cI cJ k b t d o 1181 i cells slots := by
  intro d0 h w y M B S T O g H locs ls hd0 G hP hD hS hl
  obtain ⟨hx, hb, hr, hml, hown, hts, hX, hbl, hlocks, hK, hN, hC, hst⟩ := lawG_d G0 d0
  have hown : s0.vm.findClass RL = some m.cls := hown
  have hA : ∀ q, s0.heap.size ≤ q → lawA s0 q := fun _ h => h
  have hbA : ¬ lawA s0 sc := Nat.not_le.mpr hbl
  have G2 := Rl_0 G 0
  refine lv_aload_n hx hb dL_law_1181 rfl (lv_at hl 3 rfl) ?_
  refine zL_V (pre := []) (wc := oW k b t M ++ kW cI k M ++ bW k B ++ sW cI b S ++ sW cI t T) (post := gW cJ o g ++ mW cI d O) (w1 := oW k b t M ++ kW cI k M ++ bW k B ++ sW cI b S ++ sW cI t T) ⟨hx, hb, hml, hown, hts⟩ (c_X3_digest l dC dI cI k b t h w M B S T G.1.1) (cwV 0 hts gL_law_X3_digest rfl rfl rfl (by decide +kernel) ⟨Nat.le_of_ble_eq_true rfl, Nat.le_of_ble_eq_true rfl⟩) (by simp only [List.append_assoc, List.append_nil, List.nil_append]) (hK.sub [0] rfl) hN (ci := 3) (q0 := 0) rfl rfl rfl hP hD hS hA rfl hl.1 rfl (Nat.le_of_ble_eq_true rfl) dL_law_1182 ⟨by show cells ≤ 601024; omega, by show slots ≤ 7293034; omega⟩ (fun H locs hP hD hS => ?_)
  have hP : va_P (dC, dI) vwCl (oW k b t M ++ kW cI k M ++ bW k B ++ sW cI b S ++ sW cI t T ++ gW cJ o g ++ mW cI d O) H := by simpa only [List.append_assoc, List.append_nil, List.nil_append] using hP
  have hD : va_D (lawA s0) (oW k b t M ++ kW cI k M ++ bW k B ++ sW cI b S ++ sW cI t T ++ gW cJ o g ++ mW cI d O) := by simpa only [List.append_assoc, List.append_nil, List.nil_append] using hD
  refine lv_aload_n hx hb dL_law_1185 rfl (lv_at hl 2 rfl) ?_
  refine zL_V (pre := oW k b t M ++ kW cI k M ++ bW k B ++ sW cI b S ++ sW cI t T ++ gW cJ o g) (wc := mW cI d O) (post := []) (w1 := mW cI d (s_put O 0 0 0)) ⟨hx, hb, hml, hown, hts⟩ (c_X4_digest l dC dI cI d h w O G.1.2.1) (cwV 0 hts gL_law_X4_digest rfl rfl rfl (by decide +kernel) ⟨Nat.le_of_ble_eq_true rfl, Nat.le_of_ble_eq_true rfl⟩) (List.append_nil _).symm (hK.sub [0] rfl) hN (ci := 4) (q0 := 0) rfl rfl rfl hP hD hS hA rfl hl.1 rfl (Nat.le_of_ble_eq_true rfl) dL_law_1186 ⟨by show cells ≤ 601024; omega, by show slots ≤ 7293034; omega⟩ (fun H locs hP hD hS => ?_)
  rw [List.append_nil] at hP hD
  refine W.lcmp hx hb dL_law_1189 ?_
  have kk := kk d0 h w y M B S T (s_put O 0 0 0) g H locs ls hd0 G2 hP hD hS hl
  have kk := W.widen (cells := cells) (slots := slots) (by omega) (by omega) kk
  exact lv_if_eq (tgt := 1195) hx hb dL_law_1190 (by decide) (fun _ => kk) (fun q => absurd (lg_same (digest_ok G2).symm) q)

set_option maxHeartbeats 4000000 in
set_option maxRecDepth 100000 in
theorem law_lay (l : Launch) (hLt : l.stackTraces = false) {p : Program} {e : Env} {s0 : State} {m : MethodId} {below : List Frame} {meth : Method} {c : Code} {sc L : Nat} {xs : Nat → Int32} {dC : Nat → ClassId} {dI : Nat → Nat → Nat} {cI cJ : ClassId} {k b t d : Nat → Nat} {o i cells slots : Nat} (G0 : lawG p s0 m meth c sc L xs (dC, dI) cI cJ) (hi : i + 5 ≤ L) (hL : L ≤ 2560) (hc : cells + 2 ≤ 601024) (hs : slots + 18 ≤ 7293034) (kk : lawW p l e s0 m below meth c sc (dC, dI) cI cJ k b t d o 1195 i (cells + 2) (slots + 18)) : lawW p l e s0 m below meth c sc (dC, dI) cI cJ k b t d o 116 i cells slots := by
  intro d0 h w y M B S T O g H locs ls hd0 G hP hD hS hl
  obtain ⟨hx, hb, hr, hml, hown, hts, hX, hbl, hlocks, hK, hN, hC, hst⟩ := lawG_d G0 d0
  have hown : s0.vm.findClass RL = some m.cls := hown
  have hA : ∀ q, s0.heap.size ≤ q → lawA s0 q := fun _ h => h
  have hbA : ¬ lawA s0 sc := Nat.not_le.mpr hbl
  obtain ⟨x1, ex1⟩ : ∃ z : Int32, z = xs (i + 1) := ⟨_, rfl⟩
  obtain ⟨x2, ex2⟩ : ∃ z : Int32, z = xs (i + 2) := ⟨_, rfl⟩
  obtain ⟨tv, etv⟩ : ∃ z : Int32, z = lay_T x1 x2 := ⟨_, rfl⟩
  obtain ⟨M1, eM1⟩ : ∃ z : sS, z = zs (lay_T x1 x2) (lay_M M) M := ⟨_, rfl⟩
  obtain ⟨S1, eS1⟩ : ∃ z : sS, z = zs (lay_T x1 x2) (sl_new x1 x2) S := ⟨_, rfl⟩
  obtain ⟨g1, eg1⟩ : ∃ z : Nat → Int64, z = zl (lay_T x1 x2) (vp_updL g (0 : Int32).toNatClampNeg (sl_cells (sl_new x1 x2)).toInt64) g := ⟨_, rfl⟩
  obtain ⟨O1, eO1⟩ : ∃ z : sS, z = mlay_S (s_put O 0 0 0) x1 x2 := ⟨_, rfl⟩
  obtain ⟨vo, evo⟩ : ∃ z : Int32, z = mlay_V x1 x2 := ⟨_, rfl⟩
  have K9 : ok3 tv (sl_cells (sl_new x1 x2)) vo M1 S1 O1 := by rw [etv, evo, eO1, eM1, eS1]; exact lay_ok (Rl_0 G 0) rfl x1 x2
  refine lv_aload_n hx hb dL_law_116 rfl (lv_at hl 3 rfl) ?_
  refine lv_aload_n hx hb dL_law_117 rfl (lv_at hl 4 rfl) ?_
  refine lv_iload hx hb dL_law_118 (lv_at hl 0 rfl) ?_
  refine lv_iconst (v := 1) hx hb dL_law_120 (by decide) ?_
  refine lv_iadd hx hb dL_law_121 ?_
  refine sld_k hx hb hX hbl hbA hS (i + 1) (nI_add i 1) (by omega) (by omega) ex1 dL_law_122 ?_
  refine lv_aload_n hx hb dL_law_123 rfl (lv_at hl 4 rfl) ?_
  refine lv_iload hx hb dL_law_124 (lv_at hl 0 rfl) ?_
  refine lv_iconst (v := 2) hx hb dL_law_126 (by decide) ?_
  refine lv_iadd hx hb dL_law_127 ?_
  refine sld_k hx hb hX hbl hbA hS (i + 2) (nI_add i 2) (by omega) (by omega) ex2 dL_law_128 ?_
  refine lv_aload_n hx hb dL_law_129 rfl (lv_at hl 1 rfl) ?_
  refine zY_S (pre := []) (wc := oW k b t M ++ kW cI k M ++ bW k B ++ sW cI b S ++ sW cI t T ++ gW cJ o g) (post := mW cI d O) (w1 := oW k b t M1 ++ kW cI k M1 ++ bW k B ++ sW cI b S1 ++ sW cI t T ++ gW cJ o g1) (v := tv) ⟨hx, hb, hml, hown, hts⟩ (by rw [etv, eM1, eS1, eg1]; exact c_L_lay l dC dI cI cJ k b t h w M B S T o g x1 x2  hLt) (vx_cwSW 4 hts gL_law_L_lay rfl rfl rfl (by decide +kernel) ⟨Nat.le_of_ble_eq_true rfl, Nat.le_of_ble_eq_true rfl⟩) rfl hK hN hst hC hP hD hS hA rfl hl.1 rfl (Nat.le_of_ble_eq_true rfl) dL_law_130 ⟨by show cells + 1 ≤ 601024; omega, by show slots + 6 ≤ 7293034; omega⟩ (fun H locs hP hD hS => ?_)
  have hP : va_P (dC, dI) vwCl (oW k b t M1 ++ kW cI k M1 ++ bW k B ++ sW cI b S1 ++ sW cI t T ++ gW cJ o g1 ++ mW cI d O) H := hP
  have hD : va_D (lawA s0) (oW k b t M1 ++ kW cI k M1 ++ bW k B ++ sW cI b S1 ++ sW cI t T ++ gW cJ o g1 ++ mW cI d O) := hD
  refine lv_istore (lv' := [(5, .int tv), (4, .int (nI i)), (3, .ref o), (2, .ref (d 0)), (1, .ref (k 0)), (0, .ref sc)]) hx hb dL_law_133 hl (by decide) rfl (fun ls hl => ?_)
  refine lv_aload_n hx hb dL_law_135 rfl (lv_at hl 3 rfl) ?_
  refine lv_aload_n hx hb dL_law_136 rfl (lv_at hl 5 rfl) ?_
  refine lv_iload hx hb dL_law_137 (lv_at hl 1 rfl) ?_
  refine lv_iconst (v := 1) hx hb dL_law_139 (by decide) ?_
  refine lv_iadd hx hb dL_law_140 ?_
  refine sld_k hx hb hX hbl hbA hS (i + 1) (nI_add i 1) (by omega) (by omega) ex1 dL_law_141 ?_
  refine lv_aload_n hx hb dL_law_142 rfl (lv_at hl 5 rfl) ?_
  refine lv_iload hx hb dL_law_143 (lv_at hl 1 rfl) ?_
  refine lv_iconst (v := 2) hx hb dL_law_145 (by decide) ?_
  refine lv_iadd hx hb dL_law_146 ?_
  refine sld_k hx hb hX hbl hbA hS (i + 2) (nI_add i 2) (by omega) (by omega) ex2 dL_law_147 ?_
  refine zJ_V (pre := (oW k b t M1 ++ kW cI k M1 ++ bW k B ++ sW cI b S1 ++ sW cI t T ++ gW cJ o g1)) (wc := mW cI d O) (post := []) (w1 := mW cI d O1) (v := vo) ⟨hx, hb, hml, hown, hts⟩ (by rw [evo, eO1]; exact c_X4_lay l dC dI cI d O x1 x2 ) (cwV 2 hts gL_law_X4_lay rfl rfl rfl (by decide +kernel) ⟨Nat.le_of_ble_eq_true rfl, Nat.le_of_ble_eq_true rfl⟩) (List.append_nil _).symm (hK.sub [0] rfl) hN (ci := 4) (q0 := 0) rfl rfl rfl hP hD hS hA rfl hl.1 rfl (Nat.le_of_ble_eq_true rfl) dL_law_148 ⟨by show cells + 1 + 1 ≤ 601024; omega, by show slots + 6 + 12 ≤ 7293034; omega⟩ (fun H locs hP hD hS => ?_)
  rw [List.append_nil] at hP hD
  refine lv_istore (lv' := [(6, .int vo), (5, .int tv), (4, .int (nI i)), (3, .ref o), (2, .ref (d 0)), (1, .ref (k 0)), (0, .ref sc)]) hx hb dL_law_151 hl (by decide) rfl (fun ls hl => ?_)
  refine lv_aload_n hx hb dL_law_153 rfl (lv_at hl 4 rfl) ?_
  refine zI_V (pre := (oW k b t M1 ++ kW cI k M1 ++ bW k B ++ sW cI b S1 ++ sW cI t T ++ gW cJ o g1)) (wc := mW cI d O1) (post := []) (w1 := mW cI d O1) ⟨hx, hb, hml, hown, hts⟩ (c_X4_thrown l dC dI cI d O1) (cwV 0 hts gL_law_X4_thrown rfl rfl rfl (by decide +kernel) ⟨Nat.le_of_ble_eq_true rfl, Nat.le_of_ble_eq_true rfl⟩) (List.append_nil _).symm (hK.sub [0] rfl) hN (ci := 4) (q0 := 0) rfl rfl rfl hP hD hS hA rfl hl.1 rfl (Nat.le_of_ble_eq_true rfl) dL_law_154 ⟨by show cells + 2 ≤ 601024; omega, by show slots + 18 ≤ 7293034; omega⟩ (fun H locs hP hD hS => ?_)
  rw [List.append_nil] at hP hD
  refine lv_iload hx hb dL_law_157 (lv_at hl 1 rfl) ?_
  obtain ⟨kt, kv, h1, w1, y1, G1⟩ := K9
  refine lv_icmp_eq (tgt := 164) hx hb dL_law_159 (by decide) (fun _ => ?_) (fun q => absurd kt q)
  refine lv_iload hx hb dL_law_164 (lv_at hl 1 rfl) ?_
  have kk := kk d0 h1 w1 y1 M1 B S1 T O1 g1 H locs ls hd0 G1 hP hD hS (lv_sub hl [2, 3, 4, 5, 6] rfl)
  have kk := W.widen (cells := cells + 2) (slots := slots + 18) (by omega) (by omega) kk
  refine lv_if_ne (tgt := 181) hx hb dL_law_166 (by decide) (fun _ => ?_) (fun q => ?_)
  · exact lv_goto (tgt := 1195) hx hb dL_law_181 (by decide) kk
  · refine lv_aload_n hx hb dL_law_169 rfl (lv_at hl 3 rfl) ?_
    refine lv_iconst (v := 0) hx hb dL_law_170 (by decide) ?_
    refine va_lald (cA := cJ) (n := 1) (f := g1) hx hb hK hP 34 1 rfl rfl (show vp_in (nI 0) 1 from vp_in_nI (by decide) (by decide)) dL_law_171 ?_
    refine lv_iload hx hb dL_law_172 (lv_at hl 0 rfl) ?_
    refine lv_i2l (v := vo.toInt64) hx hb dL_law_174 rfl ?_
    refine W.lcmp hx hb dL_law_175 ?_
    have hq : g1 (0 : Int32).toNatClampNeg = vo.toInt64 := by
      rw [eg1, ← etv, q, kv q]
      rw [zl_0]
      exact pk_uLs
    refine lv_if_eq (tgt := 181) hx hb dL_law_176 (by decide) (fun _ => ?_) (fun q2 => absurd (lg_same hq) q2)
    exact lv_goto (tgt := 1195) hx hb dL_law_181 (by decide) kk
set_option maxHeartbeats 4000000 in
set_option maxRecDepth 100000 in
theorem law_setField (l : Launch) (hLt : l.stackTraces = false) {p : Program} {e : Env} {s0 : State} {m : MethodId} {below : List Frame} {meth : Method} {c : Code} {sc L : Nat} {xs : Nat → Int32} {dC : Nat → ClassId} {dI : Nat → Nat → Nat} {cI cJ : ClassId} {k b t d : Nat → Nat} {o i cells slots : Nat} (G0 : lawG p s0 m meth c sc L xs (dC, dI) cI cJ) (hi : i + 5 ≤ L) (hL : L ≤ 2560) (hc : cells + 2 ≤ 601024) (hs : slots + 18 ≤ 7293034) (kk : lawW p l e s0 m below meth c sc (dC, dI) cI cJ k b t d o 1195 i (cells + 2) (slots + 18)) : lawW p l e s0 m below meth c sc (dC, dI) cI cJ k b t d o 184 i cells slots := by
  intro d0 h w y M B S T O g H locs ls hd0 G hP hD hS hl
  obtain ⟨hx, hb, hr, hml, hown, hts, hX, hbl, hlocks, hK, hN, hC, hst⟩ := lawG_d G0 d0
  have hown : s0.vm.findClass RL = some m.cls := hown
  have hA : ∀ q, s0.heap.size ≤ q → lawA s0 q := fun _ h => h
  have hbA : ¬ lawA s0 sc := Nat.not_le.mpr hbl
  obtain ⟨x1, ex1⟩ : ∃ z : Int32, z = xs (i + 1) := ⟨_, rfl⟩
  obtain ⟨x2, ex2⟩ : ∃ z : Int32, z = xs (i + 2) := ⟨_, rfl⟩
  obtain ⟨x3, ex3⟩ : ∃ z : Int32, z = xs (i + 3) := ⟨_, rfl⟩
  obtain ⟨x4, ex4⟩ : ∃ z : Int32, z = xs (i + 4) := ⟨_, rfl⟩
  obtain ⟨tv, etv⟩ : ∃ z : Int32, z = set_T S x1 x2 x3 x4 := ⟨_, rfl⟩
  obtain ⟨S1, eS1⟩ : ∃ z : sS, z = zs (set_T S x1 x2 x3 x4) (set_S S x1 x2 x3 x4) S := ⟨_, rfl⟩
  obtain ⟨g1, eg1⟩ : ∃ z : Nat → Int64, z = zl (set_T S x1 x2 x3 x4) (vp_updL g (0 : Int32).toNatClampNeg (S 3 (sl_k S x1 x2)).toInt64) g := ⟨_, rfl⟩
  obtain ⟨O1, eO1⟩ : ∃ z : sS, z = mset_S (s_put O 0 0 0) x1 x2 x3 x4 := ⟨_, rfl⟩
  obtain ⟨vo, evo⟩ : ∃ z : Int32, z = mset_V (s_put O 0 0 0) x1 x2 x3 x4 := ⟨_, rfl⟩
  have K9 : ok3 tv (S 3 (sl_k S x1 x2)) vo M S1 O1 := by rw [etv, evo, eO1, eS1]; exact set_ok (Rl_0 G 0) rfl x1 x2 x3 x4
  refine lv_aload_n hx hb dL_law_184 rfl (lv_at hl 3 rfl) ?_
  refine lv_aload_n hx hb dL_law_185 rfl (lv_at hl 4 rfl) ?_
  refine lv_iload hx hb dL_law_186 (lv_at hl 0 rfl) ?_
  refine lv_iconst (v := 1) hx hb dL_law_188 (by decide) ?_
  refine lv_iadd hx hb dL_law_189 ?_
  refine sld_k hx hb hX hbl hbA hS (i + 1) (nI_add i 1) (by omega) (by omega) ex1 dL_law_190 ?_
  refine lv_aload_n hx hb dL_law_191 rfl (lv_at hl 4 rfl) ?_
  refine lv_iload hx hb dL_law_192 (lv_at hl 0 rfl) ?_
  refine lv_iconst (v := 2) hx hb dL_law_194 (by decide) ?_
  refine lv_iadd hx hb dL_law_195 ?_
  refine sld_k hx hb hX hbl hbA hS (i + 2) (nI_add i 2) (by omega) (by omega) ex2 dL_law_196 ?_
  refine lv_aload_n hx hb dL_law_197 rfl (lv_at hl 4 rfl) ?_
  refine lv_iload hx hb dL_law_198 (lv_at hl 0 rfl) ?_
  refine lv_iconst (v := 3) hx hb dL_law_200 (by decide) ?_
  refine lv_iadd hx hb dL_law_201 ?_
  refine sld_k hx hb hX hbl hbA hS (i + 3) (nI_add i 3) (by omega) (by omega) ex3 dL_law_202 ?_
  refine lv_aload_n hx hb dL_law_203 rfl (lv_at hl 4 rfl) ?_
  refine lv_iload hx hb dL_law_204 (lv_at hl 0 rfl) ?_
  refine lv_iconst (v := 4) hx hb dL_law_206 (by decide) ?_
  refine lv_iadd hx hb dL_law_207 ?_
  refine sld_k hx hb hX hbl hbA hS (i + 4) (nI_add i 4) (by omega) (by omega) ex4 dL_law_208 ?_
  refine lv_aload_n hx hb dL_law_209 rfl (lv_at hl 1 rfl) ?_
  refine zY_S (pre := []) (wc := oW k b t M ++ kW cI k M ++ bW k B ++ sW cI b S ++ sW cI t T ++ gW cJ o g) (post := mW cI d O) (w1 := oW k b t M ++ kW cI k M ++ bW k B ++ sW cI b S1 ++ sW cI t T ++ gW cJ o g1) (v := tv) ⟨hx, hb, hml, hown, hts⟩ (by rw [etv, eS1, eg1]; exact c_L_setField l dC dI cI cJ k b t h w M B S T o g x1 x2 x3 x4 G.1.1 hLt) (vx_cwSW 6 hts gL_law_L_setField rfl rfl rfl (by decide +kernel) ⟨Nat.le_of_ble_eq_true rfl, Nat.le_of_ble_eq_true rfl⟩) rfl hK hN hst hC hP hD hS hA rfl hl.1 rfl (Nat.le_of_ble_eq_true rfl) dL_law_210 ⟨by show cells + 1 ≤ 601024; omega, by show slots + 6 ≤ 7293034; omega⟩ (fun H locs hP hD hS => ?_)
  have hP : va_P (dC, dI) vwCl (oW k b t M ++ kW cI k M ++ bW k B ++ sW cI b S1 ++ sW cI t T ++ gW cJ o g1 ++ mW cI d O) H := hP
  have hD : va_D (lawA s0) (oW k b t M ++ kW cI k M ++ bW k B ++ sW cI b S1 ++ sW cI t T ++ gW cJ o g1 ++ mW cI d O) := hD
  refine lv_istore (lv' := [(5, .int tv), (4, .int (nI i)), (3, .ref o), (2, .ref (d 0)), (1, .ref (k 0)), (0, .ref sc)]) hx hb dL_law_213 hl (by decide) rfl (fun ls hl => ?_)
  refine lv_aload_n hx hb dL_law_215 rfl (lv_at hl 3 rfl) ?_
  refine lv_aload_n hx hb dL_law_216 rfl (lv_at hl 5 rfl) ?_
  refine lv_iload hx hb dL_law_217 (lv_at hl 1 rfl) ?_
  refine lv_iconst (v := 1) hx hb dL_law_219 (by decide) ?_
  refine lv_iadd hx hb dL_law_220 ?_
  refine sld_k hx hb hX hbl hbA hS (i + 1) (nI_add i 1) (by omega) (by omega) ex1 dL_law_221 ?_
  refine lv_aload_n hx hb dL_law_222 rfl (lv_at hl 5 rfl) ?_
  refine lv_iload hx hb dL_law_223 (lv_at hl 1 rfl) ?_
  refine lv_iconst (v := 2) hx hb dL_law_225 (by decide) ?_
  refine lv_iadd hx hb dL_law_226 ?_
  refine sld_k hx hb hX hbl hbA hS (i + 2) (nI_add i 2) (by omega) (by omega) ex2 dL_law_227 ?_
  refine lv_aload_n hx hb dL_law_228 rfl (lv_at hl 5 rfl) ?_
  refine lv_iload hx hb dL_law_229 (lv_at hl 1 rfl) ?_
  refine lv_iconst (v := 3) hx hb dL_law_231 (by decide) ?_
  refine lv_iadd hx hb dL_law_232 ?_
  refine sld_k hx hb hX hbl hbA hS (i + 3) (nI_add i 3) (by omega) (by omega) ex3 dL_law_233 ?_
  refine lv_aload_n hx hb dL_law_234 rfl (lv_at hl 5 rfl) ?_
  refine lv_iload hx hb dL_law_235 (lv_at hl 1 rfl) ?_
  refine lv_iconst (v := 4) hx hb dL_law_237 (by decide) ?_
  refine lv_iadd hx hb dL_law_238 ?_
  refine sld_k hx hb hX hbl hbA hS (i + 4) (nI_add i 4) (by omega) (by omega) ex4 dL_law_239 ?_
  refine zI_V (pre := (oW k b t M ++ kW cI k M ++ bW k B ++ sW cI b S1 ++ sW cI t T ++ gW cJ o g1)) (wc := mW cI d O) (post := []) (w1 := mW cI d O1) (v := vo) ⟨hx, hb, hml, hown, hts⟩ (by rw [evo, eO1]; exact c_X4_setField l dC dI cI d h w O x1 x2 x3 x4 G.1.2.1) (cwV 4 hts gL_law_X4_setField rfl rfl rfl (by decide +kernel) ⟨Nat.le_of_ble_eq_true rfl, Nat.le_of_ble_eq_true rfl⟩) (List.append_nil _).symm (hK.sub [0] rfl) hN (ci := 4) (q0 := 0) rfl rfl rfl hP hD hS hA rfl hl.1 rfl (Nat.le_of_ble_eq_true rfl) dL_law_240 ⟨by show cells + 1 ≤ 601024; omega, by show slots + 6 ≤ 7293034; omega⟩ (fun H locs hP hD hS => ?_)
  rw [List.append_nil] at hP hD
  refine lv_istore (lv' := [(6, .int vo), (5, .int tv), (4, .int (nI i)), (3, .ref o), (2, .ref (d 0)), (1, .ref (k 0)), (0, .ref sc)]) hx hb dL_law_243 hl (by decide) rfl (fun ls hl => ?_)
  refine lv_aload_n hx hb dL_law_245 rfl (lv_at hl 4 rfl) ?_
  refine zI_V (pre := (oW k b t M ++ kW cI k M ++ bW k B ++ sW cI b S1 ++ sW cI t T ++ gW cJ o g1)) (wc := mW cI d O1) (post := []) (w1 := mW cI d O1) ⟨hx, hb, hml, hown, hts⟩ (c_X4_thrown l dC dI cI d O1) (cwV 0 hts gL_law_X4_thrown rfl rfl rfl (by decide +kernel) ⟨Nat.le_of_ble_eq_true rfl, Nat.le_of_ble_eq_true rfl⟩) (List.append_nil _).symm (hK.sub [0] rfl) hN (ci := 4) (q0 := 0) rfl rfl rfl hP hD hS hA rfl hl.1 rfl (Nat.le_of_ble_eq_true rfl) dL_law_246 ⟨by show cells + 1 ≤ 601024; omega, by show slots + 6 ≤ 7293034; omega⟩ (fun H locs hP hD hS => ?_)
  rw [List.append_nil] at hP hD
  refine lv_iload hx hb dL_law_249 (lv_at hl 1 rfl) ?_
  obtain ⟨kt, kv, h1, w1, y1, G1⟩ := K9
  refine lv_icmp_eq (tgt := 256) hx hb dL_law_251 (by decide) (fun _ => ?_) (fun q => absurd kt q)
  refine lv_iload hx hb dL_law_256 (lv_at hl 1 rfl) ?_
  have kk := kk d0 h1 w1 y1 M B S1 T O1 g1 H locs ls hd0 G1 hP hD hS (lv_sub hl [2, 3, 4, 5, 6] rfl)
  have kk := W.widen (cells := cells + 1) (slots := slots + 6) (by omega) (by omega) kk
  refine lv_if_ne (tgt := 273) hx hb dL_law_258 (by decide) (fun _ => ?_) (fun q => ?_)
  · exact lv_goto (tgt := 1195) hx hb dL_law_273 (by decide) kk
  · refine lv_aload_n hx hb dL_law_261 rfl (lv_at hl 3 rfl) ?_
    refine lv_iconst (v := 0) hx hb dL_law_262 (by decide) ?_
    refine va_lald (cA := cJ) (n := 1) (f := g1) hx hb hK hP 34 1 rfl rfl (show vp_in (nI 0) 1 from vp_in_nI (by decide) (by decide)) dL_law_263 ?_
    refine lv_iload hx hb dL_law_264 (lv_at hl 0 rfl) ?_
    refine lv_i2l (v := vo.toInt64) hx hb dL_law_266 rfl ?_
    refine W.lcmp hx hb dL_law_267 ?_
    have hq : g1 (0 : Int32).toNatClampNeg = vo.toInt64 := by
      rw [eg1, ← etv, q, kv q]
      rw [zl_0]
      exact pk_uLs
    refine lv_if_eq (tgt := 273) hx hb dL_law_268 (by decide) (fun _ => ?_) (fun q2 => absurd (lg_same hq) q2)
    exact lv_goto (tgt := 1195) hx hb dL_law_273 (by decide) kk
set_option maxHeartbeats 4000000 in
set_option maxRecDepth 100000 in
theorem law_moveStone (l : Launch) (hLt : l.stackTraces = false) {p : Program} {e : Env} {s0 : State} {m : MethodId} {below : List Frame} {meth : Method} {c : Code} {sc L : Nat} {xs : Nat → Int32} {dC : Nat → ClassId} {dI : Nat → Nat → Nat} {cI cJ : ClassId} {k b t d : Nat → Nat} {o i cells slots : Nat} (G0 : lawG p s0 m meth c sc L xs (dC, dI) cI cJ) (hi : i + 5 ≤ L) (hL : L ≤ 2560) (hc : cells + 2 ≤ 601024) (hs : slots + 18 ≤ 7293034) (kk : lawW p l e s0 m below meth c sc (dC, dI) cI cJ k b t d o 1195 i (cells + 2) (slots + 18)) : lawW p l e s0 m below meth c sc (dC, dI) cI cJ k b t d o 276 i cells slots := by
  intro d0 h w y M B S T O g H locs ls hd0 G hP hD hS hl
  obtain ⟨hx, hb, hr, hml, hown, hts, hX, hbl, hlocks, hK, hN, hC, hst⟩ := lawG_d G0 d0
  have hown : s0.vm.findClass RL = some m.cls := hown
  have hA : ∀ q, s0.heap.size ≤ q → lawA s0 q := fun _ h => h
  have hbA : ¬ lawA s0 sc := Nat.not_le.mpr hbl
  obtain ⟨x1, ex1⟩ : ∃ z : Int32, z = xs (i + 1) := ⟨_, rfl⟩
  obtain ⟨x2, ex2⟩ : ∃ z : Int32, z = xs (i + 2) := ⟨_, rfl⟩
  obtain ⟨x3, ex3⟩ : ∃ z : Int32, z = xs (i + 3) := ⟨_, rfl⟩
  obtain ⟨tv, etv⟩ : ∃ z : Int32, z = mov_T S x1 x2 x3 := ⟨_, rfl⟩
  obtain ⟨M1, eM1⟩ : ∃ z : sS, z = zs (mov_T S x1 x2 x3) (mov_M M S x1 x2 x3) M := ⟨_, rfl⟩
  obtain ⟨S1, eS1⟩ : ∃ z : sS, z = zs (mov_T S x1 x2 x3) (mov_S S x1 x2 x3) S := ⟨_, rfl⟩
  obtain ⟨g1, eg1⟩ : ∃ z : Nat → Int64, z = zl (mov_T S x1 x2 x3) (vp_updL g (0 : Int32).toNatClampNeg (mov_V S x1 x2 x3).toInt64) g := ⟨_, rfl⟩
  obtain ⟨O1, eO1⟩ : ∃ z : sS, z = mmov_S (s_put O 0 0 0) x1 x2 x3 := ⟨_, rfl⟩
  obtain ⟨vo, evo⟩ : ∃ z : Int32, z = mmov_V (s_put O 0 0 0) x1 x2 x3 := ⟨_, rfl⟩
  have K9 : ok3 tv (mov_V S x1 x2 x3) vo M1 S1 O1 := by rw [etv, evo, eO1, eM1, eS1]; exact mov_ok (Rl_0 G 0) rfl x1 x2 x3
  refine lv_aload_n hx hb dL_law_276 rfl (lv_at hl 3 rfl) ?_
  refine lv_aload_n hx hb dL_law_277 rfl (lv_at hl 4 rfl) ?_
  refine lv_iload hx hb dL_law_278 (lv_at hl 0 rfl) ?_
  refine lv_iconst (v := 1) hx hb dL_law_280 (by decide) ?_
  refine lv_iadd hx hb dL_law_281 ?_
  refine sld_k hx hb hX hbl hbA hS (i + 1) (nI_add i 1) (by omega) (by omega) ex1 dL_law_282 ?_
  refine lv_aload_n hx hb dL_law_283 rfl (lv_at hl 4 rfl) ?_
  refine lv_iload hx hb dL_law_284 (lv_at hl 0 rfl) ?_
  refine lv_iconst (v := 2) hx hb dL_law_286 (by decide) ?_
  refine lv_iadd hx hb dL_law_287 ?_
  refine sld_k hx hb hX hbl hbA hS (i + 2) (nI_add i 2) (by omega) (by omega) ex2 dL_law_288 ?_
  refine lv_aload_n hx hb dL_law_289 rfl (lv_at hl 4 rfl) ?_
  refine lv_iload hx hb dL_law_290 (lv_at hl 0 rfl) ?_
  refine lv_iconst (v := 3) hx hb dL_law_292 (by decide) ?_
  refine lv_iadd hx hb dL_law_293 ?_
  refine sld_k hx hb hX hbl hbA hS (i + 3) (nI_add i 3) (by omega) (by omega) ex3 dL_law_294 ?_
  refine lv_aload_n hx hb dL_law_295 rfl (lv_at hl 1 rfl) ?_
  refine zY_S (pre := []) (wc := oW k b t M ++ kW cI k M ++ bW k B ++ sW cI b S ++ sW cI t T ++ gW cJ o g) (post := mW cI d O) (w1 := oW k b t M1 ++ kW cI k M1 ++ bW k B ++ sW cI b S1 ++ sW cI t T ++ gW cJ o g1) (v := tv) ⟨hx, hb, hml, hown, hts⟩ (by rw [etv, eM1, eS1, eg1]; exact c_L_moveStone l dC dI cI cJ k b t h w M B S T o g x1 x2 x3 G.1.1 hLt) (vx_cwSW 5 hts gL_law_L_moveStone rfl rfl rfl (by decide +kernel) ⟨Nat.le_of_ble_eq_true rfl, Nat.le_of_ble_eq_true rfl⟩) rfl hK hN hst hC hP hD hS hA rfl hl.1 rfl (Nat.le_of_ble_eq_true rfl) dL_law_296 ⟨by show cells + 1 ≤ 601024; omega, by show slots + 6 ≤ 7293034; omega⟩ (fun H locs hP hD hS => ?_)
  have hP : va_P (dC, dI) vwCl (oW k b t M1 ++ kW cI k M1 ++ bW k B ++ sW cI b S1 ++ sW cI t T ++ gW cJ o g1 ++ mW cI d O) H := hP
  have hD : va_D (lawA s0) (oW k b t M1 ++ kW cI k M1 ++ bW k B ++ sW cI b S1 ++ sW cI t T ++ gW cJ o g1 ++ mW cI d O) := hD
  refine lv_istore (lv' := [(5, .int tv), (4, .int (nI i)), (3, .ref o), (2, .ref (d 0)), (1, .ref (k 0)), (0, .ref sc)]) hx hb dL_law_299 hl (by decide) rfl (fun ls hl => ?_)
  refine lv_aload_n hx hb dL_law_301 rfl (lv_at hl 3 rfl) ?_
  refine lv_aload_n hx hb dL_law_302 rfl (lv_at hl 5 rfl) ?_
  refine lv_iload hx hb dL_law_303 (lv_at hl 1 rfl) ?_
  refine lv_iconst (v := 1) hx hb dL_law_305 (by decide) ?_
  refine lv_iadd hx hb dL_law_306 ?_
  refine sld_k hx hb hX hbl hbA hS (i + 1) (nI_add i 1) (by omega) (by omega) ex1 dL_law_307 ?_
  refine lv_aload_n hx hb dL_law_308 rfl (lv_at hl 5 rfl) ?_
  refine lv_iload hx hb dL_law_309 (lv_at hl 1 rfl) ?_
  refine lv_iconst (v := 2) hx hb dL_law_311 (by decide) ?_
  refine lv_iadd hx hb dL_law_312 ?_
  refine sld_k hx hb hX hbl hbA hS (i + 2) (nI_add i 2) (by omega) (by omega) ex2 dL_law_313 ?_
  refine lv_aload_n hx hb dL_law_314 rfl (lv_at hl 5 rfl) ?_
  refine lv_iload hx hb dL_law_315 (lv_at hl 1 rfl) ?_
  refine lv_iconst (v := 3) hx hb dL_law_317 (by decide) ?_
  refine lv_iadd hx hb dL_law_318 ?_
  refine sld_k hx hb hX hbl hbA hS (i + 3) (nI_add i 3) (by omega) (by omega) ex3 dL_law_319 ?_
  refine zI_V (pre := (oW k b t M1 ++ kW cI k M1 ++ bW k B ++ sW cI b S1 ++ sW cI t T ++ gW cJ o g1)) (wc := mW cI d O) (post := []) (w1 := mW cI d O1) (v := vo) ⟨hx, hb, hml, hown, hts⟩ (by rw [evo, eO1]; exact c_X4_moveStone l dC dI cI d h w O x1 x2 x3 G.1.2.1) (cwV 3 hts gL_law_X4_moveStone rfl rfl rfl (by decide +kernel) ⟨Nat.le_of_ble_eq_true rfl, Nat.le_of_ble_eq_true rfl⟩) (List.append_nil _).symm (hK.sub [0] rfl) hN (ci := 4) (q0 := 0) rfl rfl rfl hP hD hS hA rfl hl.1 rfl (Nat.le_of_ble_eq_true rfl) dL_law_320 ⟨by show cells + 1 ≤ 601024; omega, by show slots + 6 ≤ 7293034; omega⟩ (fun H locs hP hD hS => ?_)
  rw [List.append_nil] at hP hD
  refine lv_istore (lv' := [(6, .int vo), (5, .int tv), (4, .int (nI i)), (3, .ref o), (2, .ref (d 0)), (1, .ref (k 0)), (0, .ref sc)]) hx hb dL_law_323 hl (by decide) rfl (fun ls hl => ?_)
  refine lv_aload_n hx hb dL_law_325 rfl (lv_at hl 4 rfl) ?_
  refine zI_V (pre := (oW k b t M1 ++ kW cI k M1 ++ bW k B ++ sW cI b S1 ++ sW cI t T ++ gW cJ o g1)) (wc := mW cI d O1) (post := []) (w1 := mW cI d O1) ⟨hx, hb, hml, hown, hts⟩ (c_X4_thrown l dC dI cI d O1) (cwV 0 hts gL_law_X4_thrown rfl rfl rfl (by decide +kernel) ⟨Nat.le_of_ble_eq_true rfl, Nat.le_of_ble_eq_true rfl⟩) (List.append_nil _).symm (hK.sub [0] rfl) hN (ci := 4) (q0 := 0) rfl rfl rfl hP hD hS hA rfl hl.1 rfl (Nat.le_of_ble_eq_true rfl) dL_law_326 ⟨by show cells + 1 ≤ 601024; omega, by show slots + 6 ≤ 7293034; omega⟩ (fun H locs hP hD hS => ?_)
  rw [List.append_nil] at hP hD
  refine lv_iload hx hb dL_law_329 (lv_at hl 1 rfl) ?_
  obtain ⟨kt, kv, h1, w1, y1, G1⟩ := K9
  refine lv_icmp_eq (tgt := 336) hx hb dL_law_331 (by decide) (fun _ => ?_) (fun q => absurd kt q)
  refine lv_iload hx hb dL_law_336 (lv_at hl 1 rfl) ?_
  have kk := kk d0 h1 w1 y1 M1 B S1 T O1 g1 H locs ls hd0 G1 hP hD hS (lv_sub hl [2, 3, 4, 5, 6] rfl)
  have kk := W.widen (cells := cells + 1) (slots := slots + 6) (by omega) (by omega) kk
  refine lv_if_ne (tgt := 353) hx hb dL_law_338 (by decide) (fun _ => ?_) (fun q => ?_)
  · exact lv_goto (tgt := 1195) hx hb dL_law_353 (by decide) kk
  · refine lv_aload_n hx hb dL_law_341 rfl (lv_at hl 3 rfl) ?_
    refine lv_iconst (v := 0) hx hb dL_law_342 (by decide) ?_
    refine va_lald (cA := cJ) (n := 1) (f := g1) hx hb hK hP 34 1 rfl rfl (show vp_in (nI 0) 1 from vp_in_nI (by decide) (by decide)) dL_law_343 ?_
    refine lv_iload hx hb dL_law_344 (lv_at hl 0 rfl) ?_
    refine lv_i2l (v := vo.toInt64) hx hb dL_law_346 rfl ?_
    refine W.lcmp hx hb dL_law_347 ?_
    have hq : g1 (0 : Int32).toNatClampNeg = vo.toInt64 := by
      rw [eg1, ← etv, q, kv q]
      rw [zl_0]
      exact pk_uLs
    refine lv_if_eq (tgt := 353) hx hb dL_law_348 (by decide) (fun _ => ?_) (fun q2 => absurd (lg_same hq) q2)
    exact lv_goto (tgt := 1195) hx hb dL_law_353 (by decide) kk
set_option maxHeartbeats 4000000 in
set_option maxRecDepth 100000 in
theorem law_turn (l : Launch) (hLt : l.stackTraces = false) {p : Program} {e : Env} {s0 : State} {m : MethodId} {below : List Frame} {meth : Method} {c : Code} {sc L : Nat} {xs : Nat → Int32} {dC : Nat → ClassId} {dI : Nat → Nat → Nat} {cI cJ : ClassId} {k b t d : Nat → Nat} {o i cells slots : Nat} (G0 : lawG p s0 m meth c sc L xs (dC, dI) cI cJ) (hi : i + 5 ≤ L) (hL : L ≤ 2560) (hc : cells + 2 ≤ 601024) (hs : slots + 18 ≤ 7293034) (kk : lawW p l e s0 m below meth c sc (dC, dI) cI cJ k b t d o 1195 i (cells + 2) (slots + 18)) : lawW p l e s0 m below meth c sc (dC, dI) cI cJ k b t d o 356 i cells slots := by
  intro d0 h w y M B S T O g H locs ls hd0 G hP hD hS hl
  obtain ⟨hx, hb, hr, hml, hown, hts, hX, hbl, hlocks, hK, hN, hC, hst⟩ := lawG_d G0 d0
  have hown : s0.vm.findClass RL = some m.cls := hown
  have hA : ∀ q, s0.heap.size ≤ q → lawA s0 q := fun _ h => h
  have hbA : ¬ lawA s0 sc := Nat.not_le.mpr hbl
  obtain ⟨x1, ex1⟩ : ∃ z : Int32, z = xs (i + 1) := ⟨_, rfl⟩
  obtain ⟨x2, ex2⟩ : ∃ z : Int32, z = xs (i + 2) := ⟨_, rfl⟩
  obtain ⟨x3, ex3⟩ : ∃ z : Int32, z = xs (i + 3) := ⟨_, rfl⟩
  obtain ⟨tv, etv⟩ : ∃ z : Int32, z = trn_T S x1 x2 x3 := ⟨_, rfl⟩
  obtain ⟨S1, eS1⟩ : ∃ z : sS, z = zs (trn_T S x1 x2 x3) (trn_S S x1 x2 x3) S := ⟨_, rfl⟩
  obtain ⟨g1, eg1⟩ : ∃ z : Nat → Int64, z = zl (trn_T S x1 x2 x3) (vp_updL g (0 : Int32).toNatClampNeg (S 6 (sl_k S x1 x2)).toInt64) g := ⟨_, rfl⟩
  obtain ⟨O1, eO1⟩ : ∃ z : sS, z = mtrn_S (s_put O 0 0 0) x1 x2 x3 := ⟨_, rfl⟩
  obtain ⟨vo, evo⟩ : ∃ z : Int32, z = mtrn_V (s_put O 0 0 0) x1 x2 x3 := ⟨_, rfl⟩
  have K9 : ok3 tv (S 6 (sl_k S x1 x2)) vo M S1 O1 := by rw [etv, evo, eO1, eS1]; exact trn_ok (Rl_0 G 0) rfl x1 x2 x3
  refine lv_aload_n hx hb dL_law_356 rfl (lv_at hl 3 rfl) ?_
  refine lv_aload_n hx hb dL_law_357 rfl (lv_at hl 4 rfl) ?_
  refine lv_iload hx hb dL_law_358 (lv_at hl 0 rfl) ?_
  refine lv_iconst (v := 1) hx hb dL_law_360 (by decide) ?_
  refine lv_iadd hx hb dL_law_361 ?_
  refine sld_k hx hb hX hbl hbA hS (i + 1) (nI_add i 1) (by omega) (by omega) ex1 dL_law_362 ?_
  refine lv_aload_n hx hb dL_law_363 rfl (lv_at hl 4 rfl) ?_
  refine lv_iload hx hb dL_law_364 (lv_at hl 0 rfl) ?_
  refine lv_iconst (v := 2) hx hb dL_law_366 (by decide) ?_
  refine lv_iadd hx hb dL_law_367 ?_
  refine sld_k hx hb hX hbl hbA hS (i + 2) (nI_add i 2) (by omega) (by omega) ex2 dL_law_368 ?_
  refine lv_aload_n hx hb dL_law_369 rfl (lv_at hl 4 rfl) ?_
  refine lv_iload hx hb dL_law_370 (lv_at hl 0 rfl) ?_
  refine lv_iconst (v := 3) hx hb dL_law_372 (by decide) ?_
  refine lv_iadd hx hb dL_law_373 ?_
  refine sld_k hx hb hX hbl hbA hS (i + 3) (nI_add i 3) (by omega) (by omega) ex3 dL_law_374 ?_
  refine lv_aload_n hx hb dL_law_375 rfl (lv_at hl 1 rfl) ?_
  refine zY_S (pre := []) (wc := oW k b t M ++ kW cI k M ++ bW k B ++ sW cI b S ++ sW cI t T ++ gW cJ o g) (post := mW cI d O) (w1 := oW k b t M ++ kW cI k M ++ bW k B ++ sW cI b S1 ++ sW cI t T ++ gW cJ o g1) (v := tv) ⟨hx, hb, hml, hown, hts⟩ (by rw [etv, eS1, eg1]; exact c_L_turn l dC dI cI cJ k b t h w M B S T o g x1 x2 x3 G.1.1 hLt) (vx_cwSW 5 hts gL_law_L_turn rfl rfl rfl (by decide +kernel) ⟨Nat.le_of_ble_eq_true rfl, Nat.le_of_ble_eq_true rfl⟩) rfl hK hN hst hC hP hD hS hA rfl hl.1 rfl (Nat.le_of_ble_eq_true rfl) dL_law_376 ⟨by show cells + 1 ≤ 601024; omega, by show slots + 6 ≤ 7293034; omega⟩ (fun H locs hP hD hS => ?_)
  have hP : va_P (dC, dI) vwCl (oW k b t M ++ kW cI k M ++ bW k B ++ sW cI b S1 ++ sW cI t T ++ gW cJ o g1 ++ mW cI d O) H := hP
  have hD : va_D (lawA s0) (oW k b t M ++ kW cI k M ++ bW k B ++ sW cI b S1 ++ sW cI t T ++ gW cJ o g1 ++ mW cI d O) := hD
  refine lv_istore (lv' := [(5, .int tv), (4, .int (nI i)), (3, .ref o), (2, .ref (d 0)), (1, .ref (k 0)), (0, .ref sc)]) hx hb dL_law_379 hl (by decide) rfl (fun ls hl => ?_)
  refine lv_aload_n hx hb dL_law_381 rfl (lv_at hl 3 rfl) ?_
  refine lv_aload_n hx hb dL_law_382 rfl (lv_at hl 5 rfl) ?_
  refine lv_iload hx hb dL_law_383 (lv_at hl 1 rfl) ?_
  refine lv_iconst (v := 1) hx hb dL_law_385 (by decide) ?_
  refine lv_iadd hx hb dL_law_386 ?_
  refine sld_k hx hb hX hbl hbA hS (i + 1) (nI_add i 1) (by omega) (by omega) ex1 dL_law_387 ?_
  refine lv_aload_n hx hb dL_law_388 rfl (lv_at hl 5 rfl) ?_
  refine lv_iload hx hb dL_law_389 (lv_at hl 1 rfl) ?_
  refine lv_iconst (v := 2) hx hb dL_law_391 (by decide) ?_
  refine lv_iadd hx hb dL_law_392 ?_
  refine sld_k hx hb hX hbl hbA hS (i + 2) (nI_add i 2) (by omega) (by omega) ex2 dL_law_393 ?_
  refine lv_aload_n hx hb dL_law_394 rfl (lv_at hl 5 rfl) ?_
  refine lv_iload hx hb dL_law_395 (lv_at hl 1 rfl) ?_
  refine lv_iconst (v := 3) hx hb dL_law_397 (by decide) ?_
  refine lv_iadd hx hb dL_law_398 ?_
  refine sld_k hx hb hX hbl hbA hS (i + 3) (nI_add i 3) (by omega) (by omega) ex3 dL_law_399 ?_
  refine zI_V (pre := (oW k b t M ++ kW cI k M ++ bW k B ++ sW cI b S1 ++ sW cI t T ++ gW cJ o g1)) (wc := mW cI d O) (post := []) (w1 := mW cI d O1) (v := vo) ⟨hx, hb, hml, hown, hts⟩ (by rw [evo, eO1]; exact c_X4_turn l dC dI cI d h w O x1 x2 x3 G.1.2.1) (cwV 3 hts gL_law_X4_turn rfl rfl rfl (by decide +kernel) ⟨Nat.le_of_ble_eq_true rfl, Nat.le_of_ble_eq_true rfl⟩) (List.append_nil _).symm (hK.sub [0] rfl) hN (ci := 4) (q0 := 0) rfl rfl rfl hP hD hS hA rfl hl.1 rfl (Nat.le_of_ble_eq_true rfl) dL_law_400 ⟨by show cells + 1 ≤ 601024; omega, by show slots + 6 ≤ 7293034; omega⟩ (fun H locs hP hD hS => ?_)
  rw [List.append_nil] at hP hD
  refine lv_istore (lv' := [(6, .int vo), (5, .int tv), (4, .int (nI i)), (3, .ref o), (2, .ref (d 0)), (1, .ref (k 0)), (0, .ref sc)]) hx hb dL_law_403 hl (by decide) rfl (fun ls hl => ?_)
  refine lv_aload_n hx hb dL_law_405 rfl (lv_at hl 4 rfl) ?_
  refine zI_V (pre := (oW k b t M ++ kW cI k M ++ bW k B ++ sW cI b S1 ++ sW cI t T ++ gW cJ o g1)) (wc := mW cI d O1) (post := []) (w1 := mW cI d O1) ⟨hx, hb, hml, hown, hts⟩ (c_X4_thrown l dC dI cI d O1) (cwV 0 hts gL_law_X4_thrown rfl rfl rfl (by decide +kernel) ⟨Nat.le_of_ble_eq_true rfl, Nat.le_of_ble_eq_true rfl⟩) (List.append_nil _).symm (hK.sub [0] rfl) hN (ci := 4) (q0 := 0) rfl rfl rfl hP hD hS hA rfl hl.1 rfl (Nat.le_of_ble_eq_true rfl) dL_law_406 ⟨by show cells + 1 ≤ 601024; omega, by show slots + 6 ≤ 7293034; omega⟩ (fun H locs hP hD hS => ?_)
  rw [List.append_nil] at hP hD
  refine lv_iload hx hb dL_law_409 (lv_at hl 1 rfl) ?_
  obtain ⟨kt, kv, h1, w1, y1, G1⟩ := K9
  refine lv_icmp_eq (tgt := 416) hx hb dL_law_411 (by decide) (fun _ => ?_) (fun q => absurd kt q)
  refine lv_iload hx hb dL_law_416 (lv_at hl 1 rfl) ?_
  have kk := kk d0 h1 w1 y1 M B S1 T O1 g1 H locs ls hd0 G1 hP hD hS (lv_sub hl [2, 3, 4, 5, 6] rfl)
  have kk := W.widen (cells := cells + 1) (slots := slots + 6) (by omega) (by omega) kk
  refine lv_if_ne (tgt := 433) hx hb dL_law_418 (by decide) (fun _ => ?_) (fun q => ?_)
  · exact lv_goto (tgt := 1195) hx hb dL_law_433 (by decide) kk
  · refine lv_aload_n hx hb dL_law_421 rfl (lv_at hl 3 rfl) ?_
    refine lv_iconst (v := 0) hx hb dL_law_422 (by decide) ?_
    refine va_lald (cA := cJ) (n := 1) (f := g1) hx hb hK hP 34 1 rfl rfl (show vp_in (nI 0) 1 from vp_in_nI (by decide) (by decide)) dL_law_423 ?_
    refine lv_iload hx hb dL_law_424 (lv_at hl 0 rfl) ?_
    refine lv_i2l (v := vo.toInt64) hx hb dL_law_426 rfl ?_
    refine W.lcmp hx hb dL_law_427 ?_
    have hq : g1 (0 : Int32).toNatClampNeg = vo.toInt64 := by
      rw [eg1, ← etv, q, kv q]
      rw [zl_0]
      exact pk_uLs
    refine lv_if_eq (tgt := 433) hx hb dL_law_428 (by decide) (fun _ => ?_) (fun q2 => absurd (lg_same hq) q2)
    exact lv_goto (tgt := 1195) hx hb dL_law_433 (by decide) kk
set_option maxHeartbeats 4000000 in
set_option maxRecDepth 100000 in
theorem law_setShare (l : Launch) (hLt : l.stackTraces = false) {p : Program} {e : Env} {s0 : State} {m : MethodId} {below : List Frame} {meth : Method} {c : Code} {sc L : Nat} {xs : Nat → Int32} {dC : Nat → ClassId} {dI : Nat → Nat → Nat} {cI cJ : ClassId} {k b t d : Nat → Nat} {o i cells slots : Nat} (G0 : lawG p s0 m meth c sc L xs (dC, dI) cI cJ) (hi : i + 5 ≤ L) (hL : L ≤ 2560) (hc : cells + 2 ≤ 601024) (hs : slots + 18 ≤ 7293034) (kk : lawW p l e s0 m below meth c sc (dC, dI) cI cJ k b t d o 1195 i (cells + 2) (slots + 18)) : lawW p l e s0 m below meth c sc (dC, dI) cI cJ k b t d o 436 i cells slots := by
  intro d0 h w y M B S T O g H locs ls hd0 G hP hD hS hl
  obtain ⟨hx, hb, hr, hml, hown, hts, hX, hbl, hlocks, hK, hN, hC, hst⟩ := lawG_d G0 d0
  have hown : s0.vm.findClass RL = some m.cls := hown
  have hA : ∀ q, s0.heap.size ≤ q → lawA s0 q := fun _ h => h
  have hbA : ¬ lawA s0 sc := Nat.not_le.mpr hbl
  obtain ⟨x1, ex1⟩ : ∃ z : Int32, z = xs (i + 1) := ⟨_, rfl⟩
  obtain ⟨x2, ex2⟩ : ∃ z : Int32, z = xs (i + 2) := ⟨_, rfl⟩
  obtain ⟨tv, etv⟩ : ∃ z : Int32, z = shr_T S x1 x2 := ⟨_, rfl⟩
  obtain ⟨S1, eS1⟩ : ∃ z : sS, z = zs (shr_T S x1 x2) (shr_S S x1 x2) S := ⟨_, rfl⟩
  obtain ⟨g1, eg1⟩ : ∃ z : Nat → Int64, z = zl (shr_T S x1 x2) (vp_updL g (0 : Int32).toNatClampNeg (S 1 x1.toNatClampNeg).toInt64) g := ⟨_, rfl⟩
  obtain ⟨O1, eO1⟩ : ∃ z : sS, z = mshr_S (s_put O 0 0 0) x1 x2 := ⟨_, rfl⟩
  obtain ⟨vo, evo⟩ : ∃ z : Int32, z = mshr_V (s_put O 0 0 0) x1 x2 := ⟨_, rfl⟩
  have K9 : ok3 tv (S 1 x1.toNatClampNeg) vo M S1 O1 := by rw [etv, evo, eO1, eS1]; exact shr_ok (Rl_0 G 0) rfl x1 x2
  refine lv_aload_n hx hb dL_law_436 rfl (lv_at hl 3 rfl) ?_
  refine lv_aload_n hx hb dL_law_437 rfl (lv_at hl 4 rfl) ?_
  refine lv_iload hx hb dL_law_438 (lv_at hl 0 rfl) ?_
  refine lv_iconst (v := 1) hx hb dL_law_440 (by decide) ?_
  refine lv_iadd hx hb dL_law_441 ?_
  refine sld_k hx hb hX hbl hbA hS (i + 1) (nI_add i 1) (by omega) (by omega) ex1 dL_law_442 ?_
  refine lv_aload_n hx hb dL_law_443 rfl (lv_at hl 4 rfl) ?_
  refine lv_iload hx hb dL_law_444 (lv_at hl 0 rfl) ?_
  refine lv_iconst (v := 2) hx hb dL_law_446 (by decide) ?_
  refine lv_iadd hx hb dL_law_447 ?_
  refine sld_k hx hb hX hbl hbA hS (i + 2) (nI_add i 2) (by omega) (by omega) ex2 dL_law_448 ?_
  refine lv_aload_n hx hb dL_law_449 rfl (lv_at hl 1 rfl) ?_
  refine zY_S (pre := []) (wc := oW k b t M ++ kW cI k M ++ bW k B ++ sW cI b S ++ sW cI t T ++ gW cJ o g) (post := mW cI d O) (w1 := oW k b t M ++ kW cI k M ++ bW k B ++ sW cI b S1 ++ sW cI t T ++ gW cJ o g1) (v := tv) ⟨hx, hb, hml, hown, hts⟩ (by rw [etv, eS1, eg1]; exact c_L_setShare l dC dI cI cJ k b t h w M B S T o g x1 x2 G.1.1 hLt) (vx_cwSW 4 hts gL_law_L_setShare rfl rfl rfl (by decide +kernel) ⟨Nat.le_of_ble_eq_true rfl, Nat.le_of_ble_eq_true rfl⟩) rfl hK hN hst hC hP hD hS hA rfl hl.1 rfl (Nat.le_of_ble_eq_true rfl) dL_law_450 ⟨by show cells + 1 ≤ 601024; omega, by show slots + 6 ≤ 7293034; omega⟩ (fun H locs hP hD hS => ?_)
  have hP : va_P (dC, dI) vwCl (oW k b t M ++ kW cI k M ++ bW k B ++ sW cI b S1 ++ sW cI t T ++ gW cJ o g1 ++ mW cI d O) H := hP
  have hD : va_D (lawA s0) (oW k b t M ++ kW cI k M ++ bW k B ++ sW cI b S1 ++ sW cI t T ++ gW cJ o g1 ++ mW cI d O) := hD
  refine lv_istore (lv' := [(5, .int tv), (4, .int (nI i)), (3, .ref o), (2, .ref (d 0)), (1, .ref (k 0)), (0, .ref sc)]) hx hb dL_law_453 hl (by decide) rfl (fun ls hl => ?_)
  refine lv_aload_n hx hb dL_law_455 rfl (lv_at hl 3 rfl) ?_
  refine lv_aload_n hx hb dL_law_456 rfl (lv_at hl 5 rfl) ?_
  refine lv_iload hx hb dL_law_457 (lv_at hl 1 rfl) ?_
  refine lv_iconst (v := 1) hx hb dL_law_459 (by decide) ?_
  refine lv_iadd hx hb dL_law_460 ?_
  refine sld_k hx hb hX hbl hbA hS (i + 1) (nI_add i 1) (by omega) (by omega) ex1 dL_law_461 ?_
  refine lv_aload_n hx hb dL_law_462 rfl (lv_at hl 5 rfl) ?_
  refine lv_iload hx hb dL_law_463 (lv_at hl 1 rfl) ?_
  refine lv_iconst (v := 2) hx hb dL_law_465 (by decide) ?_
  refine lv_iadd hx hb dL_law_466 ?_
  refine sld_k hx hb hX hbl hbA hS (i + 2) (nI_add i 2) (by omega) (by omega) ex2 dL_law_467 ?_
  refine zI_V (pre := (oW k b t M ++ kW cI k M ++ bW k B ++ sW cI b S1 ++ sW cI t T ++ gW cJ o g1)) (wc := mW cI d O) (post := []) (w1 := mW cI d O1) (v := vo) ⟨hx, hb, hml, hown, hts⟩ (by rw [evo, eO1]; exact c_X4_setShare l dC dI cI d h w O x1 x2 G.1.2.1) (cwV 2 hts gL_law_X4_setShare rfl rfl rfl (by decide +kernel) ⟨Nat.le_of_ble_eq_true rfl, Nat.le_of_ble_eq_true rfl⟩) (List.append_nil _).symm (hK.sub [0] rfl) hN (ci := 4) (q0 := 0) rfl rfl rfl hP hD hS hA rfl hl.1 rfl (Nat.le_of_ble_eq_true rfl) dL_law_468 ⟨by show cells + 1 ≤ 601024; omega, by show slots + 6 ≤ 7293034; omega⟩ (fun H locs hP hD hS => ?_)
  rw [List.append_nil] at hP hD
  refine lv_istore (lv' := [(6, .int vo), (5, .int tv), (4, .int (nI i)), (3, .ref o), (2, .ref (d 0)), (1, .ref (k 0)), (0, .ref sc)]) hx hb dL_law_471 hl (by decide) rfl (fun ls hl => ?_)
  refine lv_aload_n hx hb dL_law_473 rfl (lv_at hl 4 rfl) ?_
  refine zI_V (pre := (oW k b t M ++ kW cI k M ++ bW k B ++ sW cI b S1 ++ sW cI t T ++ gW cJ o g1)) (wc := mW cI d O1) (post := []) (w1 := mW cI d O1) ⟨hx, hb, hml, hown, hts⟩ (c_X4_thrown l dC dI cI d O1) (cwV 0 hts gL_law_X4_thrown rfl rfl rfl (by decide +kernel) ⟨Nat.le_of_ble_eq_true rfl, Nat.le_of_ble_eq_true rfl⟩) (List.append_nil _).symm (hK.sub [0] rfl) hN (ci := 4) (q0 := 0) rfl rfl rfl hP hD hS hA rfl hl.1 rfl (Nat.le_of_ble_eq_true rfl) dL_law_474 ⟨by show cells + 1 ≤ 601024; omega, by show slots + 6 ≤ 7293034; omega⟩ (fun H locs hP hD hS => ?_)
  rw [List.append_nil] at hP hD
  refine lv_iload hx hb dL_law_477 (lv_at hl 1 rfl) ?_
  obtain ⟨kt, kv, h1, w1, y1, G1⟩ := K9
  refine lv_icmp_eq (tgt := 484) hx hb dL_law_479 (by decide) (fun _ => ?_) (fun q => absurd kt q)
  refine lv_iload hx hb dL_law_484 (lv_at hl 1 rfl) ?_
  have kk := kk d0 h1 w1 y1 M B S1 T O1 g1 H locs ls hd0 G1 hP hD hS (lv_sub hl [2, 3, 4, 5, 6] rfl)
  have kk := W.widen (cells := cells + 1) (slots := slots + 6) (by omega) (by omega) kk
  refine lv_if_ne (tgt := 501) hx hb dL_law_486 (by decide) (fun _ => ?_) (fun q => ?_)
  · exact lv_goto (tgt := 1195) hx hb dL_law_501 (by decide) kk
  · refine lv_aload_n hx hb dL_law_489 rfl (lv_at hl 3 rfl) ?_
    refine lv_iconst (v := 0) hx hb dL_law_490 (by decide) ?_
    refine va_lald (cA := cJ) (n := 1) (f := g1) hx hb hK hP 34 1 rfl rfl (show vp_in (nI 0) 1 from vp_in_nI (by decide) (by decide)) dL_law_491 ?_
    refine lv_iload hx hb dL_law_492 (lv_at hl 0 rfl) ?_
    refine lv_i2l (v := vo.toInt64) hx hb dL_law_494 rfl ?_
    refine W.lcmp hx hb dL_law_495 ?_
    have hq : g1 (0 : Int32).toNatClampNeg = vo.toInt64 := by
      rw [eg1, ← etv, q, kv q]
      rw [zl_0]
      exact pk_uLs
    refine lv_if_eq (tgt := 501) hx hb dL_law_496 (by decide) (fun _ => ?_) (fun q2 => absurd (lg_same hq) q2)
    exact lv_goto (tgt := 1195) hx hb dL_law_501 (by decide) kk
set_option maxHeartbeats 4000000 in
set_option maxRecDepth 100000 in
theorem law_setDay (l : Launch) (hLt : l.stackTraces = false) {p : Program} {e : Env} {s0 : State} {m : MethodId} {below : List Frame} {meth : Method} {c : Code} {sc L : Nat} {xs : Nat → Int32} {dC : Nat → ClassId} {dI : Nat → Nat → Nat} {cI cJ : ClassId} {k b t d : Nat → Nat} {o i cells slots : Nat} (G0 : lawG p s0 m meth c sc L xs (dC, dI) cI cJ) (hi : i + 5 ≤ L) (hL : L ≤ 2560) (hc : cells + 2 ≤ 601024) (hs : slots + 18 ≤ 7293034) (kk : lawW p l e s0 m below meth c sc (dC, dI) cI cJ k b t d o 1195 i (cells + 2) (slots + 18)) : lawW p l e s0 m below meth c sc (dC, dI) cI cJ k b t d o 504 i cells slots := by
  intro d0 h w y M B S T O g H locs ls hd0 G hP hD hS hl
  obtain ⟨hx, hb, hr, hml, hown, hts, hX, hbl, hlocks, hK, hN, hC, hst⟩ := lawG_d G0 d0
  have hown : s0.vm.findClass RL = some m.cls := hown
  have hA : ∀ q, s0.heap.size ≤ q → lawA s0 q := fun _ h => h
  have hbA : ¬ lawA s0 sc := Nat.not_le.mpr hbl
  obtain ⟨x1, ex1⟩ : ∃ z : Int32, z = xs (i + 1) := ⟨_, rfl⟩
  obtain ⟨x2, ex2⟩ : ∃ z : Int32, z = xs (i + 2) := ⟨_, rfl⟩
  obtain ⟨x3, ex3⟩ : ∃ z : Int32, z = xs (i + 3) := ⟨_, rfl⟩
  obtain ⟨x4, ex4⟩ : ∃ z : Int32, z = xs (i + 4) := ⟨_, rfl⟩
  obtain ⟨tv, etv⟩ : ∃ z : Int32, z = day_T x1 x2 x3 x4 := ⟨_, rfl⟩
  obtain ⟨M1, eM1⟩ : ∃ z : sS, z = zs (day_T x1 x2 x3 x4) (day_M M x1 x2 x3 x4) M := ⟨_, rfl⟩
  obtain ⟨g1, eg1⟩ : ∃ z : Nat → Int64, z = zl (day_T x1 x2 x3 x4) (vp_updL g (0 : Int32).toNatClampNeg (M 2 x1.toNatClampNeg).toInt64) g := ⟨_, rfl⟩
  obtain ⟨O1, eO1⟩ : ∃ z : sS, z = mdy_S (s_put O 0 0 0) x1 x2 x3 x4 := ⟨_, rfl⟩
  obtain ⟨vo, evo⟩ : ∃ z : Int32, z = mdy_V (s_put O 0 0 0) x1 x2 x3 x4 := ⟨_, rfl⟩
  have K9 : ok3 tv (M 2 x1.toNatClampNeg) vo M1 S O1 := by rw [etv, evo, eO1, eM1]; exact day_ok (Rl_0 G 0) rfl x1 x2 x3 x4
  refine lv_aload_n hx hb dL_law_504 rfl (lv_at hl 3 rfl) ?_
  refine lv_aload_n hx hb dL_law_505 rfl (lv_at hl 4 rfl) ?_
  refine lv_iload hx hb dL_law_506 (lv_at hl 0 rfl) ?_
  refine lv_iconst (v := 1) hx hb dL_law_508 (by decide) ?_
  refine lv_iadd hx hb dL_law_509 ?_
  refine sld_k hx hb hX hbl hbA hS (i + 1) (nI_add i 1) (by omega) (by omega) ex1 dL_law_510 ?_
  refine lv_aload_n hx hb dL_law_511 rfl (lv_at hl 4 rfl) ?_
  refine lv_iload hx hb dL_law_512 (lv_at hl 0 rfl) ?_
  refine lv_iconst (v := 2) hx hb dL_law_514 (by decide) ?_
  refine lv_iadd hx hb dL_law_515 ?_
  refine sld_k hx hb hX hbl hbA hS (i + 2) (nI_add i 2) (by omega) (by omega) ex2 dL_law_516 ?_
  refine lv_aload_n hx hb dL_law_517 rfl (lv_at hl 4 rfl) ?_
  refine lv_iload hx hb dL_law_518 (lv_at hl 0 rfl) ?_
  refine lv_iconst (v := 3) hx hb dL_law_520 (by decide) ?_
  refine lv_iadd hx hb dL_law_521 ?_
  refine sld_k hx hb hX hbl hbA hS (i + 3) (nI_add i 3) (by omega) (by omega) ex3 dL_law_522 ?_
  refine lv_aload_n hx hb dL_law_523 rfl (lv_at hl 4 rfl) ?_
  refine lv_iload hx hb dL_law_524 (lv_at hl 0 rfl) ?_
  refine lv_iconst (v := 4) hx hb dL_law_526 (by decide) ?_
  refine lv_iadd hx hb dL_law_527 ?_
  refine sld_k hx hb hX hbl hbA hS (i + 4) (nI_add i 4) (by omega) (by omega) ex4 dL_law_528 ?_
  refine lv_aload_n hx hb dL_law_529 rfl (lv_at hl 1 rfl) ?_
  refine zY_S (pre := []) (wc := oW k b t M ++ kW cI k M ++ bW k B ++ sW cI b S ++ sW cI t T ++ gW cJ o g) (post := mW cI d O) (w1 := oW k b t M1 ++ kW cI k M1 ++ bW k B ++ sW cI b S ++ sW cI t T ++ gW cJ o g1) (v := tv) ⟨hx, hb, hml, hown, hts⟩ (by rw [etv, eM1, eg1]; exact c_L_setDay l dC dI cI cJ k b t h w M B S T o g x1 x2 x3 x4  hLt) (vx_cwSW 6 hts gL_law_L_setDay rfl rfl rfl (by decide +kernel) ⟨Nat.le_of_ble_eq_true rfl, Nat.le_of_ble_eq_true rfl⟩) rfl hK hN hst hC hP hD hS hA rfl hl.1 rfl (Nat.le_of_ble_eq_true rfl) dL_law_530 ⟨by show cells + 1 ≤ 601024; omega, by show slots + 6 ≤ 7293034; omega⟩ (fun H locs hP hD hS => ?_)
  have hP : va_P (dC, dI) vwCl (oW k b t M1 ++ kW cI k M1 ++ bW k B ++ sW cI b S ++ sW cI t T ++ gW cJ o g1 ++ mW cI d O) H := hP
  have hD : va_D (lawA s0) (oW k b t M1 ++ kW cI k M1 ++ bW k B ++ sW cI b S ++ sW cI t T ++ gW cJ o g1 ++ mW cI d O) := hD
  refine lv_istore (lv' := [(5, .int tv), (4, .int (nI i)), (3, .ref o), (2, .ref (d 0)), (1, .ref (k 0)), (0, .ref sc)]) hx hb dL_law_533 hl (by decide) rfl (fun ls hl => ?_)
  refine lv_aload_n hx hb dL_law_535 rfl (lv_at hl 3 rfl) ?_
  refine lv_aload_n hx hb dL_law_536 rfl (lv_at hl 5 rfl) ?_
  refine lv_iload hx hb dL_law_537 (lv_at hl 1 rfl) ?_
  refine lv_iconst (v := 1) hx hb dL_law_539 (by decide) ?_
  refine lv_iadd hx hb dL_law_540 ?_
  refine sld_k hx hb hX hbl hbA hS (i + 1) (nI_add i 1) (by omega) (by omega) ex1 dL_law_541 ?_
  refine lv_aload_n hx hb dL_law_542 rfl (lv_at hl 5 rfl) ?_
  refine lv_iload hx hb dL_law_543 (lv_at hl 1 rfl) ?_
  refine lv_iconst (v := 2) hx hb dL_law_545 (by decide) ?_
  refine lv_iadd hx hb dL_law_546 ?_
  refine sld_k hx hb hX hbl hbA hS (i + 2) (nI_add i 2) (by omega) (by omega) ex2 dL_law_547 ?_
  refine lv_aload_n hx hb dL_law_548 rfl (lv_at hl 5 rfl) ?_
  refine lv_iload hx hb dL_law_549 (lv_at hl 1 rfl) ?_
  refine lv_iconst (v := 3) hx hb dL_law_551 (by decide) ?_
  refine lv_iadd hx hb dL_law_552 ?_
  refine sld_k hx hb hX hbl hbA hS (i + 3) (nI_add i 3) (by omega) (by omega) ex3 dL_law_553 ?_
  refine lv_aload_n hx hb dL_law_554 rfl (lv_at hl 5 rfl) ?_
  refine lv_iload hx hb dL_law_555 (lv_at hl 1 rfl) ?_
  refine lv_iconst (v := 4) hx hb dL_law_557 (by decide) ?_
  refine lv_iadd hx hb dL_law_558 ?_
  refine sld_k hx hb hX hbl hbA hS (i + 4) (nI_add i 4) (by omega) (by omega) ex4 dL_law_559 ?_
  refine zJ_V (pre := (oW k b t M1 ++ kW cI k M1 ++ bW k B ++ sW cI b S ++ sW cI t T ++ gW cJ o g1)) (wc := mW cI d O) (post := []) (w1 := mW cI d O1) (v := vo) ⟨hx, hb, hml, hown, hts⟩ (by rw [evo, eO1]; exact c_X4_setDay l dC dI cI d O x1 x2 x3 x4 ) (cwV 4 hts gL_law_X4_setDay rfl rfl rfl (by decide +kernel) ⟨Nat.le_of_ble_eq_true rfl, Nat.le_of_ble_eq_true rfl⟩) (List.append_nil _).symm (hK.sub [0] rfl) hN (ci := 4) (q0 := 0) rfl rfl rfl hP hD hS hA rfl hl.1 rfl (Nat.le_of_ble_eq_true rfl) dL_law_560 ⟨by show cells + 1 + 1 ≤ 601024; omega, by show slots + 6 + 3 ≤ 7293034; omega⟩ (fun H locs hP hD hS => ?_)
  rw [List.append_nil] at hP hD
  refine lv_istore (lv' := [(6, .int vo), (5, .int tv), (4, .int (nI i)), (3, .ref o), (2, .ref (d 0)), (1, .ref (k 0)), (0, .ref sc)]) hx hb dL_law_563 hl (by decide) rfl (fun ls hl => ?_)
  refine lv_aload_n hx hb dL_law_565 rfl (lv_at hl 4 rfl) ?_
  refine zI_V (pre := (oW k b t M1 ++ kW cI k M1 ++ bW k B ++ sW cI b S ++ sW cI t T ++ gW cJ o g1)) (wc := mW cI d O1) (post := []) (w1 := mW cI d O1) ⟨hx, hb, hml, hown, hts⟩ (c_X4_thrown l dC dI cI d O1) (cwV 0 hts gL_law_X4_thrown rfl rfl rfl (by decide +kernel) ⟨Nat.le_of_ble_eq_true rfl, Nat.le_of_ble_eq_true rfl⟩) (List.append_nil _).symm (hK.sub [0] rfl) hN (ci := 4) (q0 := 0) rfl rfl rfl hP hD hS hA rfl hl.1 rfl (Nat.le_of_ble_eq_true rfl) dL_law_566 ⟨by show cells + 2 ≤ 601024; omega, by show slots + 9 ≤ 7293034; omega⟩ (fun H locs hP hD hS => ?_)
  rw [List.append_nil] at hP hD
  refine lv_iload hx hb dL_law_569 (lv_at hl 1 rfl) ?_
  obtain ⟨kt, kv, h1, w1, y1, G1⟩ := K9
  refine lv_icmp_eq (tgt := 576) hx hb dL_law_571 (by decide) (fun _ => ?_) (fun q => absurd kt q)
  refine lv_iload hx hb dL_law_576 (lv_at hl 1 rfl) ?_
  have kk := kk d0 h1 w1 y1 M1 B S T O1 g1 H locs ls hd0 G1 hP hD hS (lv_sub hl [2, 3, 4, 5, 6] rfl)
  have kk := W.widen (cells := cells + 2) (slots := slots + 9) (by omega) (by omega) kk
  refine lv_if_ne (tgt := 593) hx hb dL_law_578 (by decide) (fun _ => ?_) (fun q => ?_)
  · exact lv_goto (tgt := 1195) hx hb dL_law_593 (by decide) kk
  · refine lv_aload_n hx hb dL_law_581 rfl (lv_at hl 3 rfl) ?_
    refine lv_iconst (v := 0) hx hb dL_law_582 (by decide) ?_
    refine va_lald (cA := cJ) (n := 1) (f := g1) hx hb hK hP 34 1 rfl rfl (show vp_in (nI 0) 1 from vp_in_nI (by decide) (by decide)) dL_law_583 ?_
    refine lv_iload hx hb dL_law_584 (lv_at hl 0 rfl) ?_
    refine lv_i2l (v := vo.toInt64) hx hb dL_law_586 rfl ?_
    refine W.lcmp hx hb dL_law_587 ?_
    have hq : g1 (0 : Int32).toNatClampNeg = vo.toInt64 := by
      rw [eg1, ← etv, q, kv q]
      rw [zl_0]
      exact pk_uLs
    refine lv_if_eq (tgt := 593) hx hb dL_law_588 (by decide) (fun _ => ?_) (fun q2 => absurd (lg_same hq) q2)
    exact lv_goto (tgt := 1195) hx hb dL_law_593 (by decide) kk
set_option maxHeartbeats 4000000 in
set_option maxRecDepth 100000 in
theorem law_plant (l : Launch) (hLt : l.stackTraces = false) {p : Program} {e : Env} {s0 : State} {m : MethodId} {below : List Frame} {meth : Method} {c : Code} {sc L : Nat} {xs : Nat → Int32} {dC : Nat → ClassId} {dI : Nat → Nat → Nat} {cI cJ : ClassId} {k b t d : Nat → Nat} {o i cells slots : Nat} (G0 : lawG p s0 m meth c sc L xs (dC, dI) cI cJ) (hi : i + 5 ≤ L) (hL : L ≤ 2560) (hc : cells + 2 ≤ 601024) (hs : slots + 18 ≤ 7293034) (kk : lawW p l e s0 m below meth c sc (dC, dI) cI cJ k b t d o 1195 i (cells + 2) (slots + 18)) : lawW p l e s0 m below meth c sc (dC, dI) cI cJ k b t d o 596 i cells slots := by
  intro d0 h w y M B S T O g H locs ls hd0 G hP hD hS hl
  obtain ⟨hx, hb, hr, hml, hown, hts, hX, hbl, hlocks, hK, hN, hC, hst⟩ := lawG_d G0 d0
  have hown : s0.vm.findClass RL = some m.cls := hown
  have hA : ∀ q, s0.heap.size ≤ q → lawA s0 q := fun _ h => h
  have hbA : ¬ lawA s0 sc := Nat.not_le.mpr hbl
  obtain ⟨x1, ex1⟩ : ∃ z : Int32, z = xs (i + 1) := ⟨_, rfl⟩
  obtain ⟨x2, ex2⟩ : ∃ z : Int32, z = xs (i + 2) := ⟨_, rfl⟩
  obtain ⟨x3, ex3⟩ : ∃ z : Int32, z = xs (i + 3) := ⟨_, rfl⟩
  obtain ⟨tv, etv⟩ : ∃ z : Int32, z = pla_T S x1 x2 x3 := ⟨_, rfl⟩
  obtain ⟨S1, eS1⟩ : ∃ z : sS, z = zs (pla_T S x1 x2 x3) (pla_S S x1 x2 x3) S := ⟨_, rfl⟩
  obtain ⟨g1, eg1⟩ : ∃ z : Nat → Int64, z = zl (pla_T S x1 x2 x3) (vp_updL g (0 : Int32).toNatClampNeg (sl_sum h w (pla_S S x1 x2 x3) 7).toInt64) g := ⟨_, rfl⟩
  obtain ⟨O1, eO1⟩ : ∃ z : sS, z = mpla_S (s_put O 0 0 0) x1 x2 x3 := ⟨_, rfl⟩
  obtain ⟨vo, evo⟩ : ∃ z : Int32, z = mpla_V h w (s_put O 0 0 0) x1 x2 x3 := ⟨_, rfl⟩
  have K9 : ok3 tv (sl_sum h w (pla_S S x1 x2 x3) 7) vo M S1 O1 := by rw [etv, evo, eO1, eS1]; exact pla_ok (Rl_0 G 0) rfl x1 x2 x3
  refine lv_aload_n hx hb dL_law_596 rfl (lv_at hl 3 rfl) ?_
  refine lv_aload_n hx hb dL_law_597 rfl (lv_at hl 4 rfl) ?_
  refine lv_iload hx hb dL_law_598 (lv_at hl 0 rfl) ?_
  refine lv_iconst (v := 1) hx hb dL_law_600 (by decide) ?_
  refine lv_iadd hx hb dL_law_601 ?_
  refine sld_k hx hb hX hbl hbA hS (i + 1) (nI_add i 1) (by omega) (by omega) ex1 dL_law_602 ?_
  refine lv_aload_n hx hb dL_law_603 rfl (lv_at hl 4 rfl) ?_
  refine lv_iload hx hb dL_law_604 (lv_at hl 0 rfl) ?_
  refine lv_iconst (v := 2) hx hb dL_law_606 (by decide) ?_
  refine lv_iadd hx hb dL_law_607 ?_
  refine sld_k hx hb hX hbl hbA hS (i + 2) (nI_add i 2) (by omega) (by omega) ex2 dL_law_608 ?_
  refine lv_aload_n hx hb dL_law_609 rfl (lv_at hl 4 rfl) ?_
  refine lv_iload hx hb dL_law_610 (lv_at hl 0 rfl) ?_
  refine lv_iconst (v := 3) hx hb dL_law_612 (by decide) ?_
  refine lv_iadd hx hb dL_law_613 ?_
  refine sld_k hx hb hX hbl hbA hS (i + 3) (nI_add i 3) (by omega) (by omega) ex3 dL_law_614 ?_
  refine lv_aload_n hx hb dL_law_615 rfl (lv_at hl 1 rfl) ?_
  refine zY_S (pre := []) (wc := oW k b t M ++ kW cI k M ++ bW k B ++ sW cI b S ++ sW cI t T ++ gW cJ o g) (post := mW cI d O) (w1 := oW k b t M ++ kW cI k M ++ bW k B ++ sW cI b S1 ++ sW cI t T ++ gW cJ o g1) (v := tv) ⟨hx, hb, hml, hown, hts⟩ (by rw [etv, eS1, eg1]; exact c_L_plant l dC dI cI cJ k b t h w M B S T o g x1 x2 x3 G.1.1 hLt) (vx_cwSW 5 hts gL_law_L_plant rfl rfl rfl (by decide +kernel) ⟨Nat.le_of_ble_eq_true rfl, Nat.le_of_ble_eq_true rfl⟩) rfl hK hN hst hC hP hD hS hA rfl hl.1 rfl (Nat.le_of_ble_eq_true rfl) dL_law_616 ⟨by show cells + 1 ≤ 601024; omega, by show slots + 6 ≤ 7293034; omega⟩ (fun H locs hP hD hS => ?_)
  have hP : va_P (dC, dI) vwCl (oW k b t M ++ kW cI k M ++ bW k B ++ sW cI b S1 ++ sW cI t T ++ gW cJ o g1 ++ mW cI d O) H := hP
  have hD : va_D (lawA s0) (oW k b t M ++ kW cI k M ++ bW k B ++ sW cI b S1 ++ sW cI t T ++ gW cJ o g1 ++ mW cI d O) := hD
  refine lv_istore (lv' := [(5, .int tv), (4, .int (nI i)), (3, .ref o), (2, .ref (d 0)), (1, .ref (k 0)), (0, .ref sc)]) hx hb dL_law_619 hl (by decide) rfl (fun ls hl => ?_)
  refine lv_aload_n hx hb dL_law_621 rfl (lv_at hl 3 rfl) ?_
  refine lv_aload_n hx hb dL_law_622 rfl (lv_at hl 5 rfl) ?_
  refine lv_iload hx hb dL_law_623 (lv_at hl 1 rfl) ?_
  refine lv_iconst (v := 1) hx hb dL_law_625 (by decide) ?_
  refine lv_iadd hx hb dL_law_626 ?_
  refine sld_k hx hb hX hbl hbA hS (i + 1) (nI_add i 1) (by omega) (by omega) ex1 dL_law_627 ?_
  refine lv_aload_n hx hb dL_law_628 rfl (lv_at hl 5 rfl) ?_
  refine lv_iload hx hb dL_law_629 (lv_at hl 1 rfl) ?_
  refine lv_iconst (v := 2) hx hb dL_law_631 (by decide) ?_
  refine lv_iadd hx hb dL_law_632 ?_
  refine sld_k hx hb hX hbl hbA hS (i + 2) (nI_add i 2) (by omega) (by omega) ex2 dL_law_633 ?_
  refine lv_aload_n hx hb dL_law_634 rfl (lv_at hl 5 rfl) ?_
  refine lv_iload hx hb dL_law_635 (lv_at hl 1 rfl) ?_
  refine lv_iconst (v := 3) hx hb dL_law_637 (by decide) ?_
  refine lv_iadd hx hb dL_law_638 ?_
  refine sld_k hx hb hX hbl hbA hS (i + 3) (nI_add i 3) (by omega) (by omega) ex3 dL_law_639 ?_
  refine zI_V (pre := (oW k b t M ++ kW cI k M ++ bW k B ++ sW cI b S1 ++ sW cI t T ++ gW cJ o g1)) (wc := mW cI d O) (post := []) (w1 := mW cI d O1) (v := vo) ⟨hx, hb, hml, hown, hts⟩ (by rw [evo, eO1]; exact c_X4_plant l dC dI cI d h w O x1 x2 x3 G.1.2.1) (cwV 3 hts gL_law_X4_plant rfl rfl rfl (by decide +kernel) ⟨Nat.le_of_ble_eq_true rfl, Nat.le_of_ble_eq_true rfl⟩) (List.append_nil _).symm (hK.sub [0] rfl) hN (ci := 4) (q0 := 0) rfl rfl rfl hP hD hS hA rfl hl.1 rfl (Nat.le_of_ble_eq_true rfl) dL_law_640 ⟨by show cells + 1 ≤ 601024; omega, by show slots + 6 ≤ 7293034; omega⟩ (fun H locs hP hD hS => ?_)
  rw [List.append_nil] at hP hD
  refine lv_istore (lv' := [(6, .int vo), (5, .int tv), (4, .int (nI i)), (3, .ref o), (2, .ref (d 0)), (1, .ref (k 0)), (0, .ref sc)]) hx hb dL_law_643 hl (by decide) rfl (fun ls hl => ?_)
  refine lv_aload_n hx hb dL_law_645 rfl (lv_at hl 4 rfl) ?_
  refine zI_V (pre := (oW k b t M ++ kW cI k M ++ bW k B ++ sW cI b S1 ++ sW cI t T ++ gW cJ o g1)) (wc := mW cI d O1) (post := []) (w1 := mW cI d O1) ⟨hx, hb, hml, hown, hts⟩ (c_X4_thrown l dC dI cI d O1) (cwV 0 hts gL_law_X4_thrown rfl rfl rfl (by decide +kernel) ⟨Nat.le_of_ble_eq_true rfl, Nat.le_of_ble_eq_true rfl⟩) (List.append_nil _).symm (hK.sub [0] rfl) hN (ci := 4) (q0 := 0) rfl rfl rfl hP hD hS hA rfl hl.1 rfl (Nat.le_of_ble_eq_true rfl) dL_law_646 ⟨by show cells + 1 ≤ 601024; omega, by show slots + 6 ≤ 7293034; omega⟩ (fun H locs hP hD hS => ?_)
  rw [List.append_nil] at hP hD
  refine lv_iload hx hb dL_law_649 (lv_at hl 1 rfl) ?_
  obtain ⟨kt, kv, h1, w1, y1, G1⟩ := K9
  refine lv_icmp_eq (tgt := 656) hx hb dL_law_651 (by decide) (fun _ => ?_) (fun q => absurd kt q)
  refine lv_iload hx hb dL_law_656 (lv_at hl 1 rfl) ?_
  have kk := kk d0 h1 w1 y1 M B S1 T O1 g1 H locs ls hd0 G1 hP hD hS (lv_sub hl [2, 3, 4, 5, 6] rfl)
  have kk := W.widen (cells := cells + 1) (slots := slots + 6) (by omega) (by omega) kk
  refine lv_if_ne (tgt := 673) hx hb dL_law_658 (by decide) (fun _ => ?_) (fun q => ?_)
  · exact lv_goto (tgt := 1195) hx hb dL_law_673 (by decide) kk
  · refine lv_aload_n hx hb dL_law_661 rfl (lv_at hl 3 rfl) ?_
    refine lv_iconst (v := 0) hx hb dL_law_662 (by decide) ?_
    refine va_lald (cA := cJ) (n := 1) (f := g1) hx hb hK hP 34 1 rfl rfl (show vp_in (nI 0) 1 from vp_in_nI (by decide) (by decide)) dL_law_663 ?_
    refine lv_iload hx hb dL_law_664 (lv_at hl 0 rfl) ?_
    refine lv_i2l (v := vo.toInt64) hx hb dL_law_666 rfl ?_
    refine W.lcmp hx hb dL_law_667 ?_
    have hq : g1 (0 : Int32).toNatClampNeg = vo.toInt64 := by
      rw [eg1, ← etv, q, kv q]
      rw [zl_0]
      exact pk_uLs
    refine lv_if_eq (tgt := 673) hx hb dL_law_668 (by decide) (fun _ => ?_) (fun q2 => absurd (lg_same hq) q2)
    exact lv_goto (tgt := 1195) hx hb dL_law_673 (by decide) kk
set_option maxHeartbeats 4000000 in
set_option maxRecDepth 100000 in
theorem law_reap (l : Launch) (hLt : l.stackTraces = false) {p : Program} {e : Env} {s0 : State} {m : MethodId} {below : List Frame} {meth : Method} {c : Code} {sc L : Nat} {xs : Nat → Int32} {dC : Nat → ClassId} {dI : Nat → Nat → Nat} {cI cJ : ClassId} {k b t d : Nat → Nat} {o i cells slots : Nat} (G0 : lawG p s0 m meth c sc L xs (dC, dI) cI cJ) (hi : i + 5 ≤ L) (hL : L ≤ 2560) (hc : cells + 2 ≤ 601024) (hs : slots + 18 ≤ 7293034) (kk : lawW p l e s0 m below meth c sc (dC, dI) cI cJ k b t d o 1195 i (cells + 2) (slots + 18)) : lawW p l e s0 m below meth c sc (dC, dI) cI cJ k b t d o 676 i cells slots := by
  intro d0 h w y M B S T O g H locs ls hd0 G hP hD hS hl
  obtain ⟨hx, hb, hr, hml, hown, hts, hX, hbl, hlocks, hK, hN, hC, hst⟩ := lawG_d G0 d0
  have hown : s0.vm.findClass RL = some m.cls := hown
  have hA : ∀ q, s0.heap.size ≤ q → lawA s0 q := fun _ h => h
  have hbA : ¬ lawA s0 sc := Nat.not_le.mpr hbl
  obtain ⟨x1, ex1⟩ : ∃ z : Int32, z = xs (i + 1) := ⟨_, rfl⟩
  obtain ⟨x2, ex2⟩ : ∃ z : Int32, z = xs (i + 2) := ⟨_, rfl⟩
  obtain ⟨tv, etv⟩ : ∃ z : Int32, z = rea_T S x1 x2 := ⟨_, rfl⟩
  obtain ⟨M1, eM1⟩ : ∃ z : sS, z = zs (rea_T S x1 x2) (rea_M M S x1 x2) M := ⟨_, rfl⟩
  obtain ⟨S1, eS1⟩ : ∃ z : sS, z = zs (rea_T S x1 x2) (rea_S S x1 x2) S := ⟨_, rfl⟩
  obtain ⟨g1, eg1⟩ : ∃ z : Nat → Int64, z = zl (rea_T S x1 x2) (vp_updL g (0 : Int32).toNatClampNeg (rea_V S x1 x2).toInt64) g := ⟨_, rfl⟩
  obtain ⟨O1, eO1⟩ : ∃ z : sS, z = mrea_S (s_put O 0 0 0) x1 x2 := ⟨_, rfl⟩
  obtain ⟨vo, evo⟩ : ∃ z : Int32, z = mrea_V (s_put O 0 0 0) x1 x2 := ⟨_, rfl⟩
  have K9 : ok3 tv (rea_V S x1 x2) vo M1 S1 O1 := by rw [etv, evo, eO1, eM1, eS1]; exact rea_ok (Rl_0 G 0) rfl x1 x2
  refine lv_aload_n hx hb dL_law_676 rfl (lv_at hl 3 rfl) ?_
  refine lv_aload_n hx hb dL_law_677 rfl (lv_at hl 4 rfl) ?_
  refine lv_iload hx hb dL_law_678 (lv_at hl 0 rfl) ?_
  refine lv_iconst (v := 1) hx hb dL_law_680 (by decide) ?_
  refine lv_iadd hx hb dL_law_681 ?_
  refine sld_k hx hb hX hbl hbA hS (i + 1) (nI_add i 1) (by omega) (by omega) ex1 dL_law_682 ?_
  refine lv_aload_n hx hb dL_law_683 rfl (lv_at hl 4 rfl) ?_
  refine lv_iload hx hb dL_law_684 (lv_at hl 0 rfl) ?_
  refine lv_iconst (v := 2) hx hb dL_law_686 (by decide) ?_
  refine lv_iadd hx hb dL_law_687 ?_
  refine sld_k hx hb hX hbl hbA hS (i + 2) (nI_add i 2) (by omega) (by omega) ex2 dL_law_688 ?_
  refine lv_aload_n hx hb dL_law_689 rfl (lv_at hl 1 rfl) ?_
  refine zY_S (pre := []) (wc := oW k b t M ++ kW cI k M ++ bW k B ++ sW cI b S ++ sW cI t T ++ gW cJ o g) (post := mW cI d O) (w1 := oW k b t M1 ++ kW cI k M1 ++ bW k B ++ sW cI b S1 ++ sW cI t T ++ gW cJ o g1) (v := tv) ⟨hx, hb, hml, hown, hts⟩ (by rw [etv, eM1, eS1, eg1]; exact c_L_reap l dC dI cI cJ k b t h w M B S T o g x1 x2 G.1.1 hLt) (vx_cwSW 4 hts gL_law_L_reap rfl rfl rfl (by decide +kernel) ⟨Nat.le_of_ble_eq_true rfl, Nat.le_of_ble_eq_true rfl⟩) rfl hK hN hst hC hP hD hS hA rfl hl.1 rfl (Nat.le_of_ble_eq_true rfl) dL_law_690 ⟨by show cells + 1 ≤ 601024; omega, by show slots + 6 ≤ 7293034; omega⟩ (fun H locs hP hD hS => ?_)
  have hP : va_P (dC, dI) vwCl (oW k b t M1 ++ kW cI k M1 ++ bW k B ++ sW cI b S1 ++ sW cI t T ++ gW cJ o g1 ++ mW cI d O) H := hP
  have hD : va_D (lawA s0) (oW k b t M1 ++ kW cI k M1 ++ bW k B ++ sW cI b S1 ++ sW cI t T ++ gW cJ o g1 ++ mW cI d O) := hD
  refine lv_istore (lv' := [(5, .int tv), (4, .int (nI i)), (3, .ref o), (2, .ref (d 0)), (1, .ref (k 0)), (0, .ref sc)]) hx hb dL_law_693 hl (by decide) rfl (fun ls hl => ?_)
  refine lv_aload_n hx hb dL_law_695 rfl (lv_at hl 3 rfl) ?_
  refine lv_aload_n hx hb dL_law_696 rfl (lv_at hl 5 rfl) ?_
  refine lv_iload hx hb dL_law_697 (lv_at hl 1 rfl) ?_
  refine lv_iconst (v := 1) hx hb dL_law_699 (by decide) ?_
  refine lv_iadd hx hb dL_law_700 ?_
  refine sld_k hx hb hX hbl hbA hS (i + 1) (nI_add i 1) (by omega) (by omega) ex1 dL_law_701 ?_
  refine lv_aload_n hx hb dL_law_702 rfl (lv_at hl 5 rfl) ?_
  refine lv_iload hx hb dL_law_703 (lv_at hl 1 rfl) ?_
  refine lv_iconst (v := 2) hx hb dL_law_705 (by decide) ?_
  refine lv_iadd hx hb dL_law_706 ?_
  refine sld_k hx hb hX hbl hbA hS (i + 2) (nI_add i 2) (by omega) (by omega) ex2 dL_law_707 ?_
  refine zI_V (pre := (oW k b t M1 ++ kW cI k M1 ++ bW k B ++ sW cI b S1 ++ sW cI t T ++ gW cJ o g1)) (wc := mW cI d O) (post := []) (w1 := mW cI d O1) (v := vo) ⟨hx, hb, hml, hown, hts⟩ (by rw [evo, eO1]; exact c_X4_reap l dC dI cI d h w O x1 x2 G.1.2.1) (cwV 2 hts gL_law_X4_reap rfl rfl rfl (by decide +kernel) ⟨Nat.le_of_ble_eq_true rfl, Nat.le_of_ble_eq_true rfl⟩) (List.append_nil _).symm (hK.sub [0] rfl) hN (ci := 4) (q0 := 0) rfl rfl rfl hP hD hS hA rfl hl.1 rfl (Nat.le_of_ble_eq_true rfl) dL_law_708 ⟨by show cells + 1 ≤ 601024; omega, by show slots + 6 ≤ 7293034; omega⟩ (fun H locs hP hD hS => ?_)
  rw [List.append_nil] at hP hD
  refine lv_istore (lv' := [(6, .int vo), (5, .int tv), (4, .int (nI i)), (3, .ref o), (2, .ref (d 0)), (1, .ref (k 0)), (0, .ref sc)]) hx hb dL_law_711 hl (by decide) rfl (fun ls hl => ?_)
  refine lv_aload_n hx hb dL_law_713 rfl (lv_at hl 4 rfl) ?_
  refine zI_V (pre := (oW k b t M1 ++ kW cI k M1 ++ bW k B ++ sW cI b S1 ++ sW cI t T ++ gW cJ o g1)) (wc := mW cI d O1) (post := []) (w1 := mW cI d O1) ⟨hx, hb, hml, hown, hts⟩ (c_X4_thrown l dC dI cI d O1) (cwV 0 hts gL_law_X4_thrown rfl rfl rfl (by decide +kernel) ⟨Nat.le_of_ble_eq_true rfl, Nat.le_of_ble_eq_true rfl⟩) (List.append_nil _).symm (hK.sub [0] rfl) hN (ci := 4) (q0 := 0) rfl rfl rfl hP hD hS hA rfl hl.1 rfl (Nat.le_of_ble_eq_true rfl) dL_law_714 ⟨by show cells + 1 ≤ 601024; omega, by show slots + 6 ≤ 7293034; omega⟩ (fun H locs hP hD hS => ?_)
  rw [List.append_nil] at hP hD
  refine lv_iload hx hb dL_law_717 (lv_at hl 1 rfl) ?_
  obtain ⟨kt, kv, h1, w1, y1, G1⟩ := K9
  refine lv_icmp_eq (tgt := 724) hx hb dL_law_719 (by decide) (fun _ => ?_) (fun q => absurd kt q)
  refine lv_iload hx hb dL_law_724 (lv_at hl 1 rfl) ?_
  have kk := kk d0 h1 w1 y1 M1 B S1 T O1 g1 H locs ls hd0 G1 hP hD hS (lv_sub hl [2, 3, 4, 5, 6] rfl)
  have kk := W.widen (cells := cells + 1) (slots := slots + 6) (by omega) (by omega) kk
  refine lv_if_ne (tgt := 741) hx hb dL_law_726 (by decide) (fun _ => ?_) (fun q => ?_)
  · exact lv_goto (tgt := 1195) hx hb dL_law_741 (by decide) kk
  · refine lv_aload_n hx hb dL_law_729 rfl (lv_at hl 3 rfl) ?_
    refine lv_iconst (v := 0) hx hb dL_law_730 (by decide) ?_
    refine va_lald (cA := cJ) (n := 1) (f := g1) hx hb hK hP 34 1 rfl rfl (show vp_in (nI 0) 1 from vp_in_nI (by decide) (by decide)) dL_law_731 ?_
    refine lv_iload hx hb dL_law_732 (lv_at hl 0 rfl) ?_
    refine lv_i2l (v := vo.toInt64) hx hb dL_law_734 rfl ?_
    refine W.lcmp hx hb dL_law_735 ?_
    have hq : g1 (0 : Int32).toNatClampNeg = vo.toInt64 := by
      rw [eg1, ← etv, q, kv q]
      rw [zl_0]
      exact pk_uLs
    refine lv_if_eq (tgt := 741) hx hb dL_law_736 (by decide) (fun _ => ?_) (fun q2 => absurd (lg_same hq) q2)
    exact lv_goto (tgt := 1195) hx hb dL_law_741 (by decide) kk
set_option maxHeartbeats 4000000 in
set_option maxRecDepth 100000 in
theorem law_pass (l : Launch) (hLt : l.stackTraces = false) {p : Program} {e : Env} {s0 : State} {m : MethodId} {below : List Frame} {meth : Method} {c : Code} {sc L : Nat} {xs : Nat → Int32} {dC : Nat → ClassId} {dI : Nat → Nat → Nat} {cI cJ : ClassId} {k b t d : Nat → Nat} {o i cells slots : Nat} (G0 : lawG p s0 m meth c sc L xs (dC, dI) cI cJ) (hi : i + 5 ≤ L) (hL : L ≤ 2560) (hc : cells + 2 ≤ 601024) (hs : slots + 18 ≤ 7293034) (kk : lawW p l e s0 m below meth c sc (dC, dI) cI cJ k b t d o 1195 i (cells + 2) (slots + 18)) : lawW p l e s0 m below meth c sc (dC, dI) cI cJ k b t d o 744 i cells slots := by
  intro d0 h w y M B S T O g H locs ls hd0 G hP hD hS hl
  obtain ⟨hx, hb, hr, hml, hown, hts, hX, hbl, hlocks, hK, hN, hC, hst⟩ := lawG_d G0 d0
  have hown : s0.vm.findClass RL = some m.cls := hown
  have hA : ∀ q, s0.heap.size ≤ q → lawA s0 q := fun _ h => h
  have hbA : ¬ lawA s0 sc := Nat.not_le.mpr hbl
  obtain ⟨x1, ex1⟩ : ∃ z : Int32, z = xs (i + 1) := ⟨_, rfl⟩
  obtain ⟨tv, etv⟩ : ∃ z : Int32, z = pas_T S x1 := ⟨_, rfl⟩
  obtain ⟨S1, eS1⟩ : ∃ z : sS, z = zs (pas_T S x1) (pas_S h w M S x1) S := ⟨_, rfl⟩
  obtain ⟨g1, eg1⟩ : ∃ z : Nat → Int64, z = zl (pas_T S x1) (vp_updL g (0 : Int32).toNatClampNeg (sl_sum h w (pas_S h w M S x1) 7).toInt64) g := ⟨_, rfl⟩
  obtain ⟨O1, eO1⟩ : ∃ z : sS, z = mpas_S h w (s_put O 0 0 0) x1 := ⟨_, rfl⟩
  obtain ⟨vo, evo⟩ : ∃ z : Int32, z = mpas_V h w (s_put O 0 0 0) x1 := ⟨_, rfl⟩
  have K9 : ok3 tv (sl_sum h w (pas_S h w M S x1) 7) vo M S1 O1 := by rw [etv, evo, eO1, eS1]; exact pas_ok (Rl_0 G 0) rfl x1
  refine lv_aload_n hx hb dL_law_744 rfl (lv_at hl 3 rfl) ?_
  refine lv_aload_n hx hb dL_law_745 rfl (lv_at hl 4 rfl) ?_
  refine lv_iload hx hb dL_law_746 (lv_at hl 0 rfl) ?_
  refine lv_iconst (v := 1) hx hb dL_law_748 (by decide) ?_
  refine lv_iadd hx hb dL_law_749 ?_
  refine sld_k hx hb hX hbl hbA hS (i + 1) (nI_add i 1) (by omega) (by omega) ex1 dL_law_750 ?_
  refine lv_aload_n hx hb dL_law_751 rfl (lv_at hl 1 rfl) ?_
  refine zY_S (pre := []) (wc := oW k b t M ++ kW cI k M ++ bW k B ++ sW cI b S ++ sW cI t T ++ gW cJ o g) (post := mW cI d O) (w1 := oW k b t M ++ kW cI k M ++ bW k B ++ sW cI b S1 ++ sW cI t T ++ gW cJ o g1) (v := tv) ⟨hx, hb, hml, hown, hts⟩ (by rw [etv, eS1, eg1]; exact c_L_pass l dC dI cI cJ k b t h w M B S T o g x1 y G.1.1 G.2.2.1 G.2.2.2.1 hLt) (vx_cwSW 3 hts gL_law_L_pass rfl rfl rfl (by decide +kernel) ⟨Nat.le_of_ble_eq_true rfl, Nat.le_of_ble_eq_true rfl⟩) rfl hK hN hst hC hP hD hS hA rfl hl.1 rfl (Nat.le_of_ble_eq_true rfl) dL_law_752 ⟨by show cells + 1 ≤ 601024; omega, by show slots + 6 ≤ 7293034; omega⟩ (fun H locs hP hD hS => ?_)
  have hP : va_P (dC, dI) vwCl (oW k b t M ++ kW cI k M ++ bW k B ++ sW cI b S1 ++ sW cI t T ++ gW cJ o g1 ++ mW cI d O) H := hP
  have hD : va_D (lawA s0) (oW k b t M ++ kW cI k M ++ bW k B ++ sW cI b S1 ++ sW cI t T ++ gW cJ o g1 ++ mW cI d O) := hD
  refine lv_istore (lv' := [(5, .int tv), (4, .int (nI i)), (3, .ref o), (2, .ref (d 0)), (1, .ref (k 0)), (0, .ref sc)]) hx hb dL_law_755 hl (by decide) rfl (fun ls hl => ?_)
  refine lv_aload_n hx hb dL_law_757 rfl (lv_at hl 3 rfl) ?_
  refine lv_aload_n hx hb dL_law_758 rfl (lv_at hl 5 rfl) ?_
  refine lv_iload hx hb dL_law_759 (lv_at hl 1 rfl) ?_
  refine lv_iconst (v := 1) hx hb dL_law_761 (by decide) ?_
  refine lv_iadd hx hb dL_law_762 ?_
  refine sld_k hx hb hX hbl hbA hS (i + 1) (nI_add i 1) (by omega) (by omega) ex1 dL_law_763 ?_
  refine zI_V (pre := (oW k b t M ++ kW cI k M ++ bW k B ++ sW cI b S1 ++ sW cI t T ++ gW cJ o g1)) (wc := mW cI d O) (post := []) (w1 := mW cI d O1) (v := vo) ⟨hx, hb, hml, hown, hts⟩ (by rw [evo, eO1]; exact c_X4_pass l dC dI cI d h w O x1 G.1.2.1 y (G.1.2.2.1.trans G.2.2.1) G.2.2.2.1) (cwV 1 hts gL_law_X4_pass rfl rfl rfl (by decide +kernel) ⟨Nat.le_of_ble_eq_true rfl, Nat.le_of_ble_eq_true rfl⟩) (List.append_nil _).symm (hK.sub [0] rfl) hN (ci := 4) (q0 := 0) rfl rfl rfl hP hD hS hA rfl hl.1 rfl (Nat.le_of_ble_eq_true rfl) dL_law_764 ⟨by show cells + 1 ≤ 601024; omega, by show slots + 6 ≤ 7293034; omega⟩ (fun H locs hP hD hS => ?_)
  rw [List.append_nil] at hP hD
  refine lv_istore (lv' := [(6, .int vo), (5, .int tv), (4, .int (nI i)), (3, .ref o), (2, .ref (d 0)), (1, .ref (k 0)), (0, .ref sc)]) hx hb dL_law_767 hl (by decide) rfl (fun ls hl => ?_)
  refine lv_aload_n hx hb dL_law_769 rfl (lv_at hl 4 rfl) ?_
  refine zI_V (pre := (oW k b t M ++ kW cI k M ++ bW k B ++ sW cI b S1 ++ sW cI t T ++ gW cJ o g1)) (wc := mW cI d O1) (post := []) (w1 := mW cI d O1) ⟨hx, hb, hml, hown, hts⟩ (c_X4_thrown l dC dI cI d O1) (cwV 0 hts gL_law_X4_thrown rfl rfl rfl (by decide +kernel) ⟨Nat.le_of_ble_eq_true rfl, Nat.le_of_ble_eq_true rfl⟩) (List.append_nil _).symm (hK.sub [0] rfl) hN (ci := 4) (q0 := 0) rfl rfl rfl hP hD hS hA rfl hl.1 rfl (Nat.le_of_ble_eq_true rfl) dL_law_770 ⟨by show cells + 1 ≤ 601024; omega, by show slots + 6 ≤ 7293034; omega⟩ (fun H locs hP hD hS => ?_)
  rw [List.append_nil] at hP hD
  refine lv_iload hx hb dL_law_773 (lv_at hl 1 rfl) ?_
  obtain ⟨kt, kv, h1, w1, y1, G1⟩ := K9
  refine lv_icmp_eq (tgt := 780) hx hb dL_law_775 (by decide) (fun _ => ?_) (fun q => absurd kt q)
  refine lv_iload hx hb dL_law_780 (lv_at hl 1 rfl) ?_
  have kk := kk d0 h1 w1 y1 M B S1 T O1 g1 H locs ls hd0 G1 hP hD hS (lv_sub hl [2, 3, 4, 5, 6] rfl)
  have kk := W.widen (cells := cells + 1) (slots := slots + 6) (by omega) (by omega) kk
  refine lv_if_ne (tgt := 797) hx hb dL_law_782 (by decide) (fun _ => ?_) (fun q => ?_)
  · exact lv_goto (tgt := 1195) hx hb dL_law_797 (by decide) kk
  · refine lv_aload_n hx hb dL_law_785 rfl (lv_at hl 3 rfl) ?_
    refine lv_iconst (v := 0) hx hb dL_law_786 (by decide) ?_
    refine va_lald (cA := cJ) (n := 1) (f := g1) hx hb hK hP 34 1 rfl rfl (show vp_in (nI 0) 1 from vp_in_nI (by decide) (by decide)) dL_law_787 ?_
    refine lv_iload hx hb dL_law_788 (lv_at hl 0 rfl) ?_
    refine lv_i2l (v := vo.toInt64) hx hb dL_law_790 rfl ?_
    refine W.lcmp hx hb dL_law_791 ?_
    have hq : g1 (0 : Int32).toNatClampNeg = vo.toInt64 := by
      rw [eg1, ← etv, q, kv q]
      rw [zl_0]
      exact pk_uLs
    refine lv_if_eq (tgt := 797) hx hb dL_law_792 (by decide) (fun _ => ?_) (fun q2 => absurd (lg_same hq) q2)
    exact lv_goto (tgt := 1195) hx hb dL_law_797 (by decide) kk
set_option maxHeartbeats 4000000 in
set_option maxRecDepth 100000 in
theorem law_field (l : Launch) (hLt : l.stackTraces = false) {p : Program} {e : Env} {s0 : State} {m : MethodId} {below : List Frame} {meth : Method} {c : Code} {sc L : Nat} {xs : Nat → Int32} {dC : Nat → ClassId} {dI : Nat → Nat → Nat} {cI cJ : ClassId} {k b t d : Nat → Nat} {o i cells slots : Nat} (G0 : lawG p s0 m meth c sc L xs (dC, dI) cI cJ) (hi : i + 5 ≤ L) (hL : L ≤ 2560) (hc : cells + 2 ≤ 601024) (hs : slots + 18 ≤ 7293034) (kk : lawW p l e s0 m below meth c sc (dC, dI) cI cJ k b t d o 1195 i (cells + 2) (slots + 18)) : lawW p l e s0 m below meth c sc (dC, dI) cI cJ k b t d o 800 i cells slots := by
  intro d0 h w y M B S T O g H locs ls hd0 G hP hD hS hl
  obtain ⟨hx, hb, hr, hml, hown, hts, hX, hbl, hlocks, hK, hN, hC, hst⟩ := lawG_d G0 d0
  have hown : s0.vm.findClass RL = some m.cls := hown
  have hA : ∀ q, s0.heap.size ≤ q → lawA s0 q := fun _ h => h
  have hbA : ¬ lawA s0 sc := Nat.not_le.mpr hbl
  obtain ⟨x1, ex1⟩ : ∃ z : Int32, z = xs (i + 1) := ⟨_, rfl⟩
  obtain ⟨x2, ex2⟩ : ∃ z : Int32, z = xs (i + 2) := ⟨_, rfl⟩
  obtain ⟨x3, ex3⟩ : ∃ z : Int32, z = xs (i + 3) := ⟨_, rfl⟩
  obtain ⟨tv, etv⟩ : ∃ z : Int32, z = fld_T S x1 x2 x3 := ⟨_, rfl⟩
  obtain ⟨g1, eg1⟩ : ∃ z : Nat → Int64, z = zl (fld_T S x1 x2 x3) (vp_updL g (0 : Int32).toNatClampNeg (sl_field S (sl_at S x1 x2) x3).toInt64) g := ⟨_, rfl⟩
  obtain ⟨O1, eO1⟩ : ∃ z : sS, z = mfld_S (s_put O 0 0 0) x1 x2 x3 := ⟨_, rfl⟩
  obtain ⟨vo, evo⟩ : ∃ z : Int32, z = mfld_V (s_put O 0 0 0) x1 x2 x3 := ⟨_, rfl⟩
  have K9 : ok3 tv (sl_field S (sl_at S x1 x2) x3) vo M S O1 := by rw [etv, evo, eO1]; exact fld_ok (Rl_0 G 0) rfl x1 x2 x3
  refine lv_aload_n hx hb dL_law_800 rfl (lv_at hl 3 rfl) ?_
  refine lv_aload_n hx hb dL_law_801 rfl (lv_at hl 4 rfl) ?_
  refine lv_iload hx hb dL_law_802 (lv_at hl 0 rfl) ?_
  refine lv_iconst (v := 1) hx hb dL_law_804 (by decide) ?_
  refine lv_iadd hx hb dL_law_805 ?_
  refine sld_k hx hb hX hbl hbA hS (i + 1) (nI_add i 1) (by omega) (by omega) ex1 dL_law_806 ?_
  refine lv_aload_n hx hb dL_law_807 rfl (lv_at hl 4 rfl) ?_
  refine lv_iload hx hb dL_law_808 (lv_at hl 0 rfl) ?_
  refine lv_iconst (v := 2) hx hb dL_law_810 (by decide) ?_
  refine lv_iadd hx hb dL_law_811 ?_
  refine sld_k hx hb hX hbl hbA hS (i + 2) (nI_add i 2) (by omega) (by omega) ex2 dL_law_812 ?_
  refine lv_aload_n hx hb dL_law_813 rfl (lv_at hl 4 rfl) ?_
  refine lv_iload hx hb dL_law_814 (lv_at hl 0 rfl) ?_
  refine lv_iconst (v := 3) hx hb dL_law_816 (by decide) ?_
  refine lv_iadd hx hb dL_law_817 ?_
  refine sld_k hx hb hX hbl hbA hS (i + 3) (nI_add i 3) (by omega) (by omega) ex3 dL_law_818 ?_
  refine lv_aload_n hx hb dL_law_819 rfl (lv_at hl 1 rfl) ?_
  refine zY_S (pre := []) (wc := oW k b t M ++ kW cI k M ++ bW k B ++ sW cI b S ++ sW cI t T ++ gW cJ o g) (post := mW cI d O) (w1 := oW k b t M ++ kW cI k M ++ bW k B ++ sW cI b S ++ sW cI t T ++ gW cJ o g1) (v := tv) ⟨hx, hb, hml, hown, hts⟩ (by rw [etv, eg1]; exact c_L_field l dC dI cI cJ k b t h w M B S T o g x1 x2 x3 G.1.1 hLt) (vx_cwSW 5 hts gL_law_L_field rfl rfl rfl (by decide +kernel) ⟨Nat.le_of_ble_eq_true rfl, Nat.le_of_ble_eq_true rfl⟩) rfl hK hN hst hC hP hD hS hA rfl hl.1 rfl (Nat.le_of_ble_eq_true rfl) dL_law_820 ⟨by show cells + 1 ≤ 601024; omega, by show slots + 6 ≤ 7293034; omega⟩ (fun H locs hP hD hS => ?_)
  have hP : va_P (dC, dI) vwCl (oW k b t M ++ kW cI k M ++ bW k B ++ sW cI b S ++ sW cI t T ++ gW cJ o g1 ++ mW cI d O) H := hP
  have hD : va_D (lawA s0) (oW k b t M ++ kW cI k M ++ bW k B ++ sW cI b S ++ sW cI t T ++ gW cJ o g1 ++ mW cI d O) := hD
  refine lv_istore (lv' := [(5, .int tv), (4, .int (nI i)), (3, .ref o), (2, .ref (d 0)), (1, .ref (k 0)), (0, .ref sc)]) hx hb dL_law_823 hl (by decide) rfl (fun ls hl => ?_)
  refine lv_aload_n hx hb dL_law_825 rfl (lv_at hl 3 rfl) ?_
  refine lv_aload_n hx hb dL_law_826 rfl (lv_at hl 5 rfl) ?_
  refine lv_iload hx hb dL_law_827 (lv_at hl 1 rfl) ?_
  refine lv_iconst (v := 1) hx hb dL_law_829 (by decide) ?_
  refine lv_iadd hx hb dL_law_830 ?_
  refine sld_k hx hb hX hbl hbA hS (i + 1) (nI_add i 1) (by omega) (by omega) ex1 dL_law_831 ?_
  refine lv_aload_n hx hb dL_law_832 rfl (lv_at hl 5 rfl) ?_
  refine lv_iload hx hb dL_law_833 (lv_at hl 1 rfl) ?_
  refine lv_iconst (v := 2) hx hb dL_law_835 (by decide) ?_
  refine lv_iadd hx hb dL_law_836 ?_
  refine sld_k hx hb hX hbl hbA hS (i + 2) (nI_add i 2) (by omega) (by omega) ex2 dL_law_837 ?_
  refine lv_aload_n hx hb dL_law_838 rfl (lv_at hl 5 rfl) ?_
  refine lv_iload hx hb dL_law_839 (lv_at hl 1 rfl) ?_
  refine lv_iconst (v := 3) hx hb dL_law_841 (by decide) ?_
  refine lv_iadd hx hb dL_law_842 ?_
  refine sld_k hx hb hX hbl hbA hS (i + 3) (nI_add i 3) (by omega) (by omega) ex3 dL_law_843 ?_
  refine zI_V (pre := (oW k b t M ++ kW cI k M ++ bW k B ++ sW cI b S ++ sW cI t T ++ gW cJ o g1)) (wc := mW cI d O) (post := []) (w1 := mW cI d O1) (v := vo) ⟨hx, hb, hml, hown, hts⟩ (by rw [evo, eO1]; exact c_X4_field l dC dI cI d h w O x1 x2 x3 G.1.2.1) (cwV 3 hts gL_law_X4_field rfl rfl rfl (by decide +kernel) ⟨Nat.le_of_ble_eq_true rfl, Nat.le_of_ble_eq_true rfl⟩) (List.append_nil _).symm (hK.sub [0] rfl) hN (ci := 4) (q0 := 0) rfl rfl rfl hP hD hS hA rfl hl.1 rfl (Nat.le_of_ble_eq_true rfl) dL_law_844 ⟨by show cells + 1 ≤ 601024; omega, by show slots + 6 ≤ 7293034; omega⟩ (fun H locs hP hD hS => ?_)
  rw [List.append_nil] at hP hD
  refine lv_istore (lv' := [(6, .int vo), (5, .int tv), (4, .int (nI i)), (3, .ref o), (2, .ref (d 0)), (1, .ref (k 0)), (0, .ref sc)]) hx hb dL_law_847 hl (by decide) rfl (fun ls hl => ?_)
  refine lv_aload_n hx hb dL_law_849 rfl (lv_at hl 4 rfl) ?_
  refine zI_V (pre := (oW k b t M ++ kW cI k M ++ bW k B ++ sW cI b S ++ sW cI t T ++ gW cJ o g1)) (wc := mW cI d O1) (post := []) (w1 := mW cI d O1) ⟨hx, hb, hml, hown, hts⟩ (c_X4_thrown l dC dI cI d O1) (cwV 0 hts gL_law_X4_thrown rfl rfl rfl (by decide +kernel) ⟨Nat.le_of_ble_eq_true rfl, Nat.le_of_ble_eq_true rfl⟩) (List.append_nil _).symm (hK.sub [0] rfl) hN (ci := 4) (q0 := 0) rfl rfl rfl hP hD hS hA rfl hl.1 rfl (Nat.le_of_ble_eq_true rfl) dL_law_850 ⟨by show cells + 1 ≤ 601024; omega, by show slots + 6 ≤ 7293034; omega⟩ (fun H locs hP hD hS => ?_)
  rw [List.append_nil] at hP hD
  refine lv_iload hx hb dL_law_853 (lv_at hl 1 rfl) ?_
  obtain ⟨kt, kv, h1, w1, y1, G1⟩ := K9
  refine lv_icmp_eq (tgt := 860) hx hb dL_law_855 (by decide) (fun _ => ?_) (fun q => absurd kt q)
  refine lv_iload hx hb dL_law_860 (lv_at hl 1 rfl) ?_
  have kk := kk d0 h1 w1 y1 M B S T O1 g1 H locs ls hd0 G1 hP hD hS (lv_sub hl [2, 3, 4, 5, 6] rfl)
  have kk := W.widen (cells := cells + 1) (slots := slots + 6) (by omega) (by omega) kk
  refine lv_if_ne (tgt := 877) hx hb dL_law_862 (by decide) (fun _ => ?_) (fun q => ?_)
  · exact lv_goto (tgt := 1195) hx hb dL_law_877 (by decide) kk
  · refine lv_aload_n hx hb dL_law_865 rfl (lv_at hl 3 rfl) ?_
    refine lv_iconst (v := 0) hx hb dL_law_866 (by decide) ?_
    refine va_lald (cA := cJ) (n := 1) (f := g1) hx hb hK hP 34 1 rfl rfl (show vp_in (nI 0) 1 from vp_in_nI (by decide) (by decide)) dL_law_867 ?_
    refine lv_iload hx hb dL_law_868 (lv_at hl 0 rfl) ?_
    refine lv_i2l (v := vo.toInt64) hx hb dL_law_870 rfl ?_
    refine W.lcmp hx hb dL_law_871 ?_
    have hq : g1 (0 : Int32).toNatClampNeg = vo.toInt64 := by
      rw [eg1, ← etv, q, kv q]
      rw [zl_0]
      exact pk_uLs
    refine lv_if_eq (tgt := 877) hx hb dL_law_872 (by decide) (fun _ => ?_) (fun q2 => absurd (lg_same hq) q2)
    exact lv_goto (tgt := 1195) hx hb dL_law_877 (by decide) kk
set_option maxHeartbeats 4000000 in
set_option maxRecDepth 100000 in
theorem law_count (l : Launch) (hLt : l.stackTraces = false) {p : Program} {e : Env} {s0 : State} {m : MethodId} {below : List Frame} {meth : Method} {c : Code} {sc L : Nat} {xs : Nat → Int32} {dC : Nat → ClassId} {dI : Nat → Nat → Nat} {cI cJ : ClassId} {k b t d : Nat → Nat} {o i cells slots : Nat} (G0 : lawG p s0 m meth c sc L xs (dC, dI) cI cJ) (hi : i + 5 ≤ L) (hL : L ≤ 2560) (hc : cells + 2 ≤ 601024) (hs : slots + 18 ≤ 7293034) (kk : lawW p l e s0 m below meth c sc (dC, dI) cI cJ k b t d o 1195 i (cells + 2) (slots + 18)) : lawW p l e s0 m below meth c sc (dC, dI) cI cJ k b t d o 880 i cells slots := by
  intro d0 h w y M B S T O g H locs ls hd0 G hP hD hS hl
  obtain ⟨hx, hb, hr, hml, hown, hts, hX, hbl, hlocks, hK, hN, hC, hst⟩ := lawG_d G0 d0
  have hown : s0.vm.findClass RL = some m.cls := hown
  have hA : ∀ q, s0.heap.size ≤ q → lawA s0 q := fun _ h => h
  have hbA : ¬ lawA s0 sc := Nat.not_le.mpr hbl
  obtain ⟨x1, ex1⟩ : ∃ z : Int32, z = xs (i + 1) := ⟨_, rfl⟩
  obtain ⟨tv, etv⟩ : ∃ z : Int32, z = cnt_T x1 := ⟨_, rfl⟩
  obtain ⟨g1, eg1⟩ : ∃ z : Nat → Int64, z = zl (cnt_T x1) (vp_updL g (0 : Int32).toNatClampNeg (x3_count h w M S x1).toInt64) g := ⟨_, rfl⟩
  obtain ⟨O1, eO1⟩ : ∃ z : sS, z = mcnt_S (s_put O 0 0 0) x1 := ⟨_, rfl⟩
  obtain ⟨vo, evo⟩ : ∃ z : Int32, z = mcnt_V h w (s_put O 0 0 0) x1 := ⟨_, rfl⟩
  have K9 : ok3 tv (x3_count h w M S x1) vo M S O1 := by rw [etv, evo, eO1]; exact cnt_ok (Rl_0 G 0) rfl x1
  refine lv_aload_n hx hb dL_law_880 rfl (lv_at hl 3 rfl) ?_
  refine lv_aload_n hx hb dL_law_881 rfl (lv_at hl 4 rfl) ?_
  refine lv_iload hx hb dL_law_882 (lv_at hl 0 rfl) ?_
  refine lv_iconst (v := 1) hx hb dL_law_884 (by decide) ?_
  refine lv_iadd hx hb dL_law_885 ?_
  refine sld_k hx hb hX hbl hbA hS (i + 1) (nI_add i 1) (by omega) (by omega) ex1 dL_law_886 ?_
  refine lv_aload_n hx hb dL_law_887 rfl (lv_at hl 1 rfl) ?_
  refine zY_S (pre := []) (wc := oW k b t M ++ kW cI k M ++ bW k B ++ sW cI b S ++ sW cI t T ++ gW cJ o g) (post := mW cI d O) (w1 := oW k b t M ++ kW cI k M ++ bW k B ++ sW cI b S ++ sW cI t T ++ gW cJ o g1) (v := tv) ⟨hx, hb, hml, hown, hts⟩ (by rw [etv, eg1]; exact c_L_count l dC dI cI cJ k b t h w M B S T o g x1 G.1.1 hLt) (vx_cwSW 3 hts gL_law_L_count rfl rfl rfl (by decide +kernel) ⟨Nat.le_of_ble_eq_true rfl, Nat.le_of_ble_eq_true rfl⟩) rfl hK hN hst hC hP hD hS hA rfl hl.1 rfl (Nat.le_of_ble_eq_true rfl) dL_law_888 ⟨by show cells + 1 ≤ 601024; omega, by show slots + 6 ≤ 7293034; omega⟩ (fun H locs hP hD hS => ?_)
  have hP : va_P (dC, dI) vwCl (oW k b t M ++ kW cI k M ++ bW k B ++ sW cI b S ++ sW cI t T ++ gW cJ o g1 ++ mW cI d O) H := hP
  have hD : va_D (lawA s0) (oW k b t M ++ kW cI k M ++ bW k B ++ sW cI b S ++ sW cI t T ++ gW cJ o g1 ++ mW cI d O) := hD
  refine lv_istore (lv' := [(5, .int tv), (4, .int (nI i)), (3, .ref o), (2, .ref (d 0)), (1, .ref (k 0)), (0, .ref sc)]) hx hb dL_law_891 hl (by decide) rfl (fun ls hl => ?_)
  refine lv_aload_n hx hb dL_law_893 rfl (lv_at hl 3 rfl) ?_
  refine lv_aload_n hx hb dL_law_894 rfl (lv_at hl 5 rfl) ?_
  refine lv_iload hx hb dL_law_895 (lv_at hl 1 rfl) ?_
  refine lv_iconst (v := 1) hx hb dL_law_897 (by decide) ?_
  refine lv_iadd hx hb dL_law_898 ?_
  refine sld_k hx hb hX hbl hbA hS (i + 1) (nI_add i 1) (by omega) (by omega) ex1 dL_law_899 ?_
  refine zI_V (pre := (oW k b t M ++ kW cI k M ++ bW k B ++ sW cI b S ++ sW cI t T ++ gW cJ o g1)) (wc := mW cI d O) (post := []) (w1 := mW cI d O1) (v := vo) ⟨hx, hb, hml, hown, hts⟩ (by rw [evo, eO1]; exact c_X4_count l dC dI cI d h w O x1 G.1.2.1) (cwV 1 hts gL_law_X4_count rfl rfl rfl (by decide +kernel) ⟨Nat.le_of_ble_eq_true rfl, Nat.le_of_ble_eq_true rfl⟩) (List.append_nil _).symm (hK.sub [0] rfl) hN (ci := 4) (q0 := 0) rfl rfl rfl hP hD hS hA rfl hl.1 rfl (Nat.le_of_ble_eq_true rfl) dL_law_900 ⟨by show cells + 1 ≤ 601024; omega, by show slots + 6 ≤ 7293034; omega⟩ (fun H locs hP hD hS => ?_)
  rw [List.append_nil] at hP hD
  refine lv_istore (lv' := [(6, .int vo), (5, .int tv), (4, .int (nI i)), (3, .ref o), (2, .ref (d 0)), (1, .ref (k 0)), (0, .ref sc)]) hx hb dL_law_903 hl (by decide) rfl (fun ls hl => ?_)
  refine lv_aload_n hx hb dL_law_905 rfl (lv_at hl 4 rfl) ?_
  refine zI_V (pre := (oW k b t M ++ kW cI k M ++ bW k B ++ sW cI b S ++ sW cI t T ++ gW cJ o g1)) (wc := mW cI d O1) (post := []) (w1 := mW cI d O1) ⟨hx, hb, hml, hown, hts⟩ (c_X4_thrown l dC dI cI d O1) (cwV 0 hts gL_law_X4_thrown rfl rfl rfl (by decide +kernel) ⟨Nat.le_of_ble_eq_true rfl, Nat.le_of_ble_eq_true rfl⟩) (List.append_nil _).symm (hK.sub [0] rfl) hN (ci := 4) (q0 := 0) rfl rfl rfl hP hD hS hA rfl hl.1 rfl (Nat.le_of_ble_eq_true rfl) dL_law_906 ⟨by show cells + 1 ≤ 601024; omega, by show slots + 6 ≤ 7293034; omega⟩ (fun H locs hP hD hS => ?_)
  rw [List.append_nil] at hP hD
  refine lv_iload hx hb dL_law_909 (lv_at hl 1 rfl) ?_
  obtain ⟨kt, kv, h1, w1, y1, G1⟩ := K9
  refine lv_icmp_eq (tgt := 916) hx hb dL_law_911 (by decide) (fun _ => ?_) (fun q => absurd kt q)
  refine lv_iload hx hb dL_law_916 (lv_at hl 1 rfl) ?_
  have kk := kk d0 h1 w1 y1 M B S T O1 g1 H locs ls hd0 G1 hP hD hS (lv_sub hl [2, 3, 4, 5, 6] rfl)
  have kk := W.widen (cells := cells + 1) (slots := slots + 6) (by omega) (by omega) kk
  refine lv_if_ne (tgt := 933) hx hb dL_law_918 (by decide) (fun _ => ?_) (fun q => ?_)
  · exact lv_goto (tgt := 1195) hx hb dL_law_933 (by decide) kk
  · refine lv_aload_n hx hb dL_law_921 rfl (lv_at hl 3 rfl) ?_
    refine lv_iconst (v := 0) hx hb dL_law_922 (by decide) ?_
    refine va_lald (cA := cJ) (n := 1) (f := g1) hx hb hK hP 34 1 rfl rfl (show vp_in (nI 0) 1 from vp_in_nI (by decide) (by decide)) dL_law_923 ?_
    refine lv_iload hx hb dL_law_924 (lv_at hl 0 rfl) ?_
    refine lv_i2l (v := vo.toInt64) hx hb dL_law_926 rfl ?_
    refine W.lcmp hx hb dL_law_927 ?_
    have hq : g1 (0 : Int32).toNatClampNeg = vo.toInt64 := by
      rw [eg1, ← etv, q, kv q]
      rw [zl_0]
      exact pk_uLs
    refine lv_if_eq (tgt := 933) hx hb dL_law_928 (by decide) (fun _ => ?_) (fun q2 => absurd (lg_same hq) q2)
    exact lv_goto (tgt := 1195) hx hb dL_law_933 (by decide) kk
set_option maxHeartbeats 4000000 in
set_option maxRecDepth 100000 in
theorem law_weather (l : Launch) (hLt : l.stackTraces = false) {p : Program} {e : Env} {s0 : State} {m : MethodId} {below : List Frame} {meth : Method} {c : Code} {sc L : Nat} {xs : Nat → Int32} {dC : Nat → ClassId} {dI : Nat → Nat → Nat} {cI cJ : ClassId} {k b t d : Nat → Nat} {o i cells slots : Nat} (G0 : lawG p s0 m meth c sc L xs (dC, dI) cI cJ) (hi : i + 5 ≤ L) (hL : L ≤ 2560) (hc : cells + 2 ≤ 601024) (hs : slots + 18 ≤ 7293034) (kk : lawW p l e s0 m below meth c sc (dC, dI) cI cJ k b t d o 1195 i (cells + 2) (slots + 18)) : lawW p l e s0 m below meth c sc (dC, dI) cI cJ k b t d o 936 i cells slots := by
  intro d0 h w y M B S T O g H locs ls hd0 G hP hD hS hl
  obtain ⟨hx, hb, hr, hml, hown, hts, hX, hbl, hlocks, hK, hN, hC, hst⟩ := lawG_d G0 d0
  have hown : s0.vm.findClass RL = some m.cls := hown
  have hA : ∀ q, s0.heap.size ≤ q → lawA s0 q := fun _ h => h
  have hbA : ¬ lawA s0 sc := Nat.not_le.mpr hbl
  obtain ⟨x1, ex1⟩ : ∃ z : Int32, z = xs (i + 1) := ⟨_, rfl⟩
  obtain ⟨x2, ex2⟩ : ∃ z : Int32, z = xs (i + 2) := ⟨_, rfl⟩
  obtain ⟨tv, etv⟩ : ∃ z : Int32, z = wea_T x1 x2 := ⟨_, rfl⟩
  obtain ⟨g1, eg1⟩ : ∃ z : Nat → Int64, z = zl (wea_T x1 x2) (vp_updL g (0 : Int32).toNatClampNeg (cal_num M x1 x2).toInt64) g := ⟨_, rfl⟩
  obtain ⟨O1, eO1⟩ : ∃ z : sS, z = mwea_S (s_put O 0 0 0) x1 x2 := ⟨_, rfl⟩
  obtain ⟨vo, evo⟩ : ∃ z : Int32, z = mwea_V (s_put O 0 0 0) x1 x2 := ⟨_, rfl⟩
  have K9 : ok3 tv (cal_num M x1 x2) vo M S O1 := by rw [etv, evo, eO1]; exact wea_ok (Rl_0 G 0) rfl x1 x2
  refine lv_aload_n hx hb dL_law_936 rfl (lv_at hl 3 rfl) ?_
  refine lv_aload_n hx hb dL_law_937 rfl (lv_at hl 4 rfl) ?_
  refine lv_iload hx hb dL_law_938 (lv_at hl 0 rfl) ?_
  refine lv_iconst (v := 1) hx hb dL_law_940 (by decide) ?_
  refine lv_iadd hx hb dL_law_941 ?_
  refine sld_k hx hb hX hbl hbA hS (i + 1) (nI_add i 1) (by omega) (by omega) ex1 dL_law_942 ?_
  refine lv_aload_n hx hb dL_law_943 rfl (lv_at hl 4 rfl) ?_
  refine lv_iload hx hb dL_law_944 (lv_at hl 0 rfl) ?_
  refine lv_iconst (v := 2) hx hb dL_law_946 (by decide) ?_
  refine lv_iadd hx hb dL_law_947 ?_
  refine sld_k hx hb hX hbl hbA hS (i + 2) (nI_add i 2) (by omega) (by omega) ex2 dL_law_948 ?_
  refine lv_aload_n hx hb dL_law_949 rfl (lv_at hl 1 rfl) ?_
  refine zY_S (pre := []) (wc := oW k b t M ++ kW cI k M ++ bW k B ++ sW cI b S ++ sW cI t T ++ gW cJ o g) (post := mW cI d O) (w1 := oW k b t M ++ kW cI k M ++ bW k B ++ sW cI b S ++ sW cI t T ++ gW cJ o g1) (v := tv) ⟨hx, hb, hml, hown, hts⟩ (by rw [etv, eg1]; exact c_L_weather l dC dI cI cJ k b t h w M B S T o g x1 x2  hLt) (vx_cwSW 4 hts gL_law_L_weather rfl rfl rfl (by decide +kernel) ⟨Nat.le_of_ble_eq_true rfl, Nat.le_of_ble_eq_true rfl⟩) rfl hK hN hst hC hP hD hS hA rfl hl.1 rfl (Nat.le_of_ble_eq_true rfl) dL_law_950 ⟨by show cells + 1 ≤ 601024; omega, by show slots + 6 ≤ 7293034; omega⟩ (fun H locs hP hD hS => ?_)
  have hP : va_P (dC, dI) vwCl (oW k b t M ++ kW cI k M ++ bW k B ++ sW cI b S ++ sW cI t T ++ gW cJ o g1 ++ mW cI d O) H := hP
  have hD : va_D (lawA s0) (oW k b t M ++ kW cI k M ++ bW k B ++ sW cI b S ++ sW cI t T ++ gW cJ o g1 ++ mW cI d O) := hD
  refine lv_istore (lv' := [(5, .int tv), (4, .int (nI i)), (3, .ref o), (2, .ref (d 0)), (1, .ref (k 0)), (0, .ref sc)]) hx hb dL_law_953 hl (by decide) rfl (fun ls hl => ?_)
  refine lv_aload_n hx hb dL_law_955 rfl (lv_at hl 3 rfl) ?_
  refine lv_aload_n hx hb dL_law_956 rfl (lv_at hl 5 rfl) ?_
  refine lv_iload hx hb dL_law_957 (lv_at hl 1 rfl) ?_
  refine lv_iconst (v := 1) hx hb dL_law_959 (by decide) ?_
  refine lv_iadd hx hb dL_law_960 ?_
  refine sld_k hx hb hX hbl hbA hS (i + 1) (nI_add i 1) (by omega) (by omega) ex1 dL_law_961 ?_
  refine lv_aload_n hx hb dL_law_962 rfl (lv_at hl 5 rfl) ?_
  refine lv_iload hx hb dL_law_963 (lv_at hl 1 rfl) ?_
  refine lv_iconst (v := 2) hx hb dL_law_965 (by decide) ?_
  refine lv_iadd hx hb dL_law_966 ?_
  refine sld_k hx hb hX hbl hbA hS (i + 2) (nI_add i 2) (by omega) (by omega) ex2 dL_law_967 ?_
  refine zI_V (pre := (oW k b t M ++ kW cI k M ++ bW k B ++ sW cI b S ++ sW cI t T ++ gW cJ o g1)) (wc := mW cI d O) (post := []) (w1 := mW cI d O1) (v := vo) ⟨hx, hb, hml, hown, hts⟩ (by rw [evo, eO1]; exact c_X4_weather l dC dI cI d h w O x1 x2 G.1.2.1) (cwV 2 hts gL_law_X4_weather rfl rfl rfl (by decide +kernel) ⟨Nat.le_of_ble_eq_true rfl, Nat.le_of_ble_eq_true rfl⟩) (List.append_nil _).symm (hK.sub [0] rfl) hN (ci := 4) (q0 := 0) rfl rfl rfl hP hD hS hA rfl hl.1 rfl (Nat.le_of_ble_eq_true rfl) dL_law_968 ⟨by show cells + 1 ≤ 601024; omega, by show slots + 6 ≤ 7293034; omega⟩ (fun H locs hP hD hS => ?_)
  rw [List.append_nil] at hP hD
  refine lv_istore (lv' := [(6, .int vo), (5, .int tv), (4, .int (nI i)), (3, .ref o), (2, .ref (d 0)), (1, .ref (k 0)), (0, .ref sc)]) hx hb dL_law_971 hl (by decide) rfl (fun ls hl => ?_)
  refine lv_aload_n hx hb dL_law_973 rfl (lv_at hl 4 rfl) ?_
  refine zI_V (pre := (oW k b t M ++ kW cI k M ++ bW k B ++ sW cI b S ++ sW cI t T ++ gW cJ o g1)) (wc := mW cI d O1) (post := []) (w1 := mW cI d O1) ⟨hx, hb, hml, hown, hts⟩ (c_X4_thrown l dC dI cI d O1) (cwV 0 hts gL_law_X4_thrown rfl rfl rfl (by decide +kernel) ⟨Nat.le_of_ble_eq_true rfl, Nat.le_of_ble_eq_true rfl⟩) (List.append_nil _).symm (hK.sub [0] rfl) hN (ci := 4) (q0 := 0) rfl rfl rfl hP hD hS hA rfl hl.1 rfl (Nat.le_of_ble_eq_true rfl) dL_law_974 ⟨by show cells + 1 ≤ 601024; omega, by show slots + 6 ≤ 7293034; omega⟩ (fun H locs hP hD hS => ?_)
  rw [List.append_nil] at hP hD
  refine lv_iload hx hb dL_law_977 (lv_at hl 1 rfl) ?_
  obtain ⟨kt, kv, h1, w1, y1, G1⟩ := K9
  refine lv_icmp_eq (tgt := 984) hx hb dL_law_979 (by decide) (fun _ => ?_) (fun q => absurd kt q)
  refine lv_iload hx hb dL_law_984 (lv_at hl 1 rfl) ?_
  have kk := kk d0 h1 w1 y1 M B S T O1 g1 H locs ls hd0 G1 hP hD hS (lv_sub hl [2, 3, 4, 5, 6] rfl)
  have kk := W.widen (cells := cells + 1) (slots := slots + 6) (by omega) (by omega) kk
  refine lv_if_ne (tgt := 1001) hx hb dL_law_986 (by decide) (fun _ => ?_) (fun q => ?_)
  · exact lv_goto (tgt := 1195) hx hb dL_law_1001 (by decide) kk
  · refine lv_aload_n hx hb dL_law_989 rfl (lv_at hl 3 rfl) ?_
    refine lv_iconst (v := 0) hx hb dL_law_990 (by decide) ?_
    refine va_lald (cA := cJ) (n := 1) (f := g1) hx hb hK hP 34 1 rfl rfl (show vp_in (nI 0) 1 from vp_in_nI (by decide) (by decide)) dL_law_991 ?_
    refine lv_iload hx hb dL_law_992 (lv_at hl 0 rfl) ?_
    refine lv_i2l (v := vo.toInt64) hx hb dL_law_994 rfl ?_
    refine W.lcmp hx hb dL_law_995 ?_
    have hq : g1 (0 : Int32).toNatClampNeg = vo.toInt64 := by
      rw [eg1, ← etv, q, kv q]
      rw [zl_0]
      exact pk_uLs
    refine lv_if_eq (tgt := 1001) hx hb dL_law_996 (by decide) (fun _ => ?_) (fun q2 => absurd (lg_same hq) q2)
    exact lv_goto (tgt := 1195) hx hb dL_law_1001 (by decide) kk
set_option maxHeartbeats 4000000 in
set_option maxRecDepth 100000 in
theorem law_foresee (l : Launch) (hLt : l.stackTraces = false) {p : Program} {e : Env} {s0 : State} {m : MethodId} {below : List Frame} {meth : Method} {c : Code} {sc L : Nat} {xs : Nat → Int32} {dC : Nat → ClassId} {dI : Nat → Nat → Nat} {cI cJ : ClassId} {k b t d : Nat → Nat} {o i cells slots : Nat} (G0 : lawG p s0 m meth c sc L xs (dC, dI) cI cJ) (hi : i + 5 ≤ L) (hL : L ≤ 2560) (hc : cells + 2 ≤ 601024) (hs : slots + 18 ≤ 7293034) (kk : lawW p l e s0 m below meth c sc (dC, dI) cI cJ k b t d o 1195 i (cells + 2) (slots + 18)) : lawW p l e s0 m below meth c sc (dC, dI) cI cJ k b t d o 1004 i cells slots := by
  intro d0 h w y M B S T O g H locs ls hd0 G hP hD hS hl
  obtain ⟨hx, hb, hr, hml, hown, hts, hX, hbl, hlocks, hK, hN, hC, hst⟩ := lawG_d G0 d0
  have hown : s0.vm.findClass RL = some m.cls := hown
  have hA : ∀ q, s0.heap.size ≤ q → lawA s0 q := fun _ h => h
  have hbA : ¬ lawA s0 sc := Nat.not_le.mpr hbl
  obtain ⟨x1, ex1⟩ : ∃ z : Int32, z = xs (i + 1) := ⟨_, rfl⟩
  obtain ⟨x2, ex2⟩ : ∃ z : Int32, z = xs (i + 2) := ⟨_, rfl⟩
  obtain ⟨tv, etv⟩ : ∃ z : Int32, z = for_T S x1 x2 := ⟨_, rfl⟩
  obtain ⟨T1, eT1⟩ : ∃ z : sS, z = zs (for_T S x1 x2) (pas_S h w M S x1) T := ⟨_, rfl⟩
  obtain ⟨g1, eg1⟩ : ∃ z : Nat → Int64, z = zl (for_T S x1 x2) (vp_updL g (0 : Int32).toNatClampNeg (x3_fore h w S (pas_S h w M S x1) x2).toInt64) g := ⟨_, rfl⟩
  obtain ⟨O1, eO1⟩ : ∃ z : sS, z = mfor_S h w (s_put O 0 0 0) x1 x2 := ⟨_, rfl⟩
  obtain ⟨vo, evo⟩ : ∃ z : Int32, z = mfor_V h w (s_put O 0 0 0) x1 x2 := ⟨_, rfl⟩
  have K9 : ok3 tv (x3_fore h w S (pas_S h w M S x1) x2) vo M S O1 := by rw [etv, evo, eO1]; exact for_ok (Rl_0 G 0) rfl x1 x2
  refine lv_aload_n hx hb dL_law_1004 rfl (lv_at hl 3 rfl) ?_
  refine lv_aload_n hx hb dL_law_1005 rfl (lv_at hl 4 rfl) ?_
  refine lv_iload hx hb dL_law_1006 (lv_at hl 0 rfl) ?_
  refine lv_iconst (v := 1) hx hb dL_law_1008 (by decide) ?_
  refine lv_iadd hx hb dL_law_1009 ?_
  refine sld_k hx hb hX hbl hbA hS (i + 1) (nI_add i 1) (by omega) (by omega) ex1 dL_law_1010 ?_
  refine lv_aload_n hx hb dL_law_1011 rfl (lv_at hl 4 rfl) ?_
  refine lv_iload hx hb dL_law_1012 (lv_at hl 0 rfl) ?_
  refine lv_iconst (v := 2) hx hb dL_law_1014 (by decide) ?_
  refine lv_iadd hx hb dL_law_1015 ?_
  refine sld_k hx hb hX hbl hbA hS (i + 2) (nI_add i 2) (by omega) (by omega) ex2 dL_law_1016 ?_
  refine lv_aload_n hx hb dL_law_1017 rfl (lv_at hl 1 rfl) ?_
  refine zY_S (pre := []) (wc := oW k b t M ++ kW cI k M ++ bW k B ++ sW cI b S ++ sW cI t T ++ gW cJ o g) (post := mW cI d O) (w1 := oW k b t M ++ kW cI k M ++ bW k B ++ sW cI b S ++ sW cI t T1 ++ gW cJ o g1) (v := tv) ⟨hx, hb, hml, hown, hts⟩ (by rw [etv, eT1, eg1]; exact c_L_foresee l dC dI cI cJ k b t h w M B S T o g x1 x2 y G.1.1 G.2.2.1 G.2.2.2.1 hLt) (vx_cwSW 4 hts gL_law_L_foresee rfl rfl rfl (by decide +kernel) ⟨Nat.le_of_ble_eq_true rfl, Nat.le_of_ble_eq_true rfl⟩) rfl hK hN hst hC hP hD hS hA rfl hl.1 rfl (Nat.le_of_ble_eq_true rfl) dL_law_1018 ⟨by show cells + 1 ≤ 601024; omega, by show slots + 6 ≤ 7293034; omega⟩ (fun H locs hP hD hS => ?_)
  have hP : va_P (dC, dI) vwCl (oW k b t M ++ kW cI k M ++ bW k B ++ sW cI b S ++ sW cI t T1 ++ gW cJ o g1 ++ mW cI d O) H := hP
  have hD : va_D (lawA s0) (oW k b t M ++ kW cI k M ++ bW k B ++ sW cI b S ++ sW cI t T1 ++ gW cJ o g1 ++ mW cI d O) := hD
  refine lv_istore (lv' := [(5, .int tv), (4, .int (nI i)), (3, .ref o), (2, .ref (d 0)), (1, .ref (k 0)), (0, .ref sc)]) hx hb dL_law_1021 hl (by decide) rfl (fun ls hl => ?_)
  refine lv_aload_n hx hb dL_law_1023 rfl (lv_at hl 3 rfl) ?_
  refine lv_aload_n hx hb dL_law_1024 rfl (lv_at hl 5 rfl) ?_
  refine lv_iload hx hb dL_law_1025 (lv_at hl 1 rfl) ?_
  refine lv_iconst (v := 1) hx hb dL_law_1027 (by decide) ?_
  refine lv_iadd hx hb dL_law_1028 ?_
  refine sld_k hx hb hX hbl hbA hS (i + 1) (nI_add i 1) (by omega) (by omega) ex1 dL_law_1029 ?_
  refine lv_aload_n hx hb dL_law_1030 rfl (lv_at hl 5 rfl) ?_
  refine lv_iload hx hb dL_law_1031 (lv_at hl 1 rfl) ?_
  refine lv_iconst (v := 2) hx hb dL_law_1033 (by decide) ?_
  refine lv_iadd hx hb dL_law_1034 ?_
  refine sld_k hx hb hX hbl hbA hS (i + 2) (nI_add i 2) (by omega) (by omega) ex2 dL_law_1035 ?_
  refine zI_V (pre := (oW k b t M ++ kW cI k M ++ bW k B ++ sW cI b S ++ sW cI t T1 ++ gW cJ o g1)) (wc := mW cI d O) (post := []) (w1 := mW cI d O1) (v := vo) ⟨hx, hb, hml, hown, hts⟩ (by rw [evo, eO1]; exact c_X4_foresee l dC dI cI d h w O x1 x2 G.1.2.1 y (G.1.2.2.1.trans G.2.2.1) G.2.2.2.1) (cwV 2 hts gL_law_X4_foresee rfl rfl rfl (by decide +kernel) ⟨Nat.le_of_ble_eq_true rfl, Nat.le_of_ble_eq_true rfl⟩) (List.append_nil _).symm (hK.sub [0] rfl) hN (ci := 4) (q0 := 0) rfl rfl rfl hP hD hS hA rfl hl.1 rfl (Nat.le_of_ble_eq_true rfl) dL_law_1036 ⟨by show cells + 1 ≤ 601024; omega, by show slots + 6 ≤ 7293034; omega⟩ (fun H locs hP hD hS => ?_)
  rw [List.append_nil] at hP hD
  refine lv_istore (lv' := [(6, .int vo), (5, .int tv), (4, .int (nI i)), (3, .ref o), (2, .ref (d 0)), (1, .ref (k 0)), (0, .ref sc)]) hx hb dL_law_1039 hl (by decide) rfl (fun ls hl => ?_)
  refine lv_aload_n hx hb dL_law_1041 rfl (lv_at hl 4 rfl) ?_
  refine zI_V (pre := (oW k b t M ++ kW cI k M ++ bW k B ++ sW cI b S ++ sW cI t T1 ++ gW cJ o g1)) (wc := mW cI d O1) (post := []) (w1 := mW cI d O1) ⟨hx, hb, hml, hown, hts⟩ (c_X4_thrown l dC dI cI d O1) (cwV 0 hts gL_law_X4_thrown rfl rfl rfl (by decide +kernel) ⟨Nat.le_of_ble_eq_true rfl, Nat.le_of_ble_eq_true rfl⟩) (List.append_nil _).symm (hK.sub [0] rfl) hN (ci := 4) (q0 := 0) rfl rfl rfl hP hD hS hA rfl hl.1 rfl (Nat.le_of_ble_eq_true rfl) dL_law_1042 ⟨by show cells + 1 ≤ 601024; omega, by show slots + 6 ≤ 7293034; omega⟩ (fun H locs hP hD hS => ?_)
  rw [List.append_nil] at hP hD
  refine lv_iload hx hb dL_law_1045 (lv_at hl 1 rfl) ?_
  obtain ⟨kt, kv, h1, w1, y1, G1⟩ := K9
  refine lv_icmp_eq (tgt := 1052) hx hb dL_law_1047 (by decide) (fun _ => ?_) (fun q => absurd kt q)
  refine lv_iload hx hb dL_law_1052 (lv_at hl 1 rfl) ?_
  have kk := kk d0 h1 w1 y1 M B S T1 O1 g1 H locs ls hd0 G1 hP hD hS (lv_sub hl [2, 3, 4, 5, 6] rfl)
  have kk := W.widen (cells := cells + 1) (slots := slots + 6) (by omega) (by omega) kk
  refine lv_if_ne (tgt := 1069) hx hb dL_law_1054 (by decide) (fun _ => ?_) (fun q => ?_)
  · exact lv_goto (tgt := 1195) hx hb dL_law_1069 (by decide) kk
  · refine lv_aload_n hx hb dL_law_1057 rfl (lv_at hl 3 rfl) ?_
    refine lv_iconst (v := 0) hx hb dL_law_1058 (by decide) ?_
    refine va_lald (cA := cJ) (n := 1) (f := g1) hx hb hK hP 34 1 rfl rfl (show vp_in (nI 0) 1 from vp_in_nI (by decide) (by decide)) dL_law_1059 ?_
    refine lv_iload hx hb dL_law_1060 (lv_at hl 0 rfl) ?_
    refine lv_i2l (v := vo.toInt64) hx hb dL_law_1062 rfl ?_
    refine W.lcmp hx hb dL_law_1063 ?_
    have hq : g1 (0 : Int32).toNatClampNeg = vo.toInt64 := by
      rw [eg1, ← etv, q, kv q]
      rw [zl_0]
      exact pk_uLs
    refine lv_if_eq (tgt := 1069) hx hb dL_law_1064 (by decide) (fun _ => ?_) (fun q2 => absurd (lg_same hq) q2)
    exact lv_goto (tgt := 1195) hx hb dL_law_1069 (by decide) kk
set_option maxHeartbeats 4000000 in
set_option maxRecDepth 100000 in
theorem law_advise (l : Launch) (hLt : l.stackTraces = false) {p : Program} {e : Env} {s0 : State} {m : MethodId} {below : List Frame} {meth : Method} {c : Code} {sc L : Nat} {xs : Nat → Int32} {dC : Nat → ClassId} {dI : Nat → Nat → Nat} {cI cJ : ClassId} {k b t d : Nat → Nat} {o i cells slots : Nat} (G0 : lawG p s0 m meth c sc L xs (dC, dI) cI cJ) (hi : i + 5 ≤ L) (hL : L ≤ 2560) (hc : cells + 2 ≤ 601024) (hs : slots + 18 ≤ 7293034) (kk : lawW p l e s0 m below meth c sc (dC, dI) cI cJ k b t d o 1195 i (cells + 2) (slots + 18)) : lawW p l e s0 m below meth c sc (dC, dI) cI cJ k b t d o 1072 i cells slots := by
  intro d0 h w y M B S T O g H locs ls hd0 G hP hD hS hl
  obtain ⟨hx, hb, hr, hml, hown, hts, hX, hbl, hlocks, hK, hN, hC, hst⟩ := lawG_d G0 d0
  have hown : s0.vm.findClass RL = some m.cls := hown
  have hA : ∀ q, s0.heap.size ≤ q → lawA s0 q := fun _ h => h
  have hbA : ¬ lawA s0 sc := Nat.not_le.mpr hbl
  obtain ⟨x1, ex1⟩ : ∃ z : Int32, z = xs (i + 1) := ⟨_, rfl⟩
  obtain ⟨x2, ex2⟩ : ∃ z : Int32, z = xs (i + 2) := ⟨_, rfl⟩
  obtain ⟨tv, etv⟩ : ∃ z : Int32, z = adv_T S x1 x2 := ⟨_, rfl⟩
  obtain ⟨B1, eB1⟩ : ∃ z : sS, z = zs (adv_T S x1 x2) ((x3_best h w M B S x1.toNatClampNeg).1) B := ⟨_, rfl⟩
  obtain ⟨T1, eT1⟩ : ∃ z : sS, z = zs (adv_T S x1 x2) ((x3_best h w M B S x1.toNatClampNeg).2) T := ⟨_, rfl⟩
  obtain ⟨g1, eg1⟩ : ∃ z : Nat → Int64, z = zl (adv_T S x1 x2) (vp_updL g (0 : Int32).toNatClampNeg (mv_num (x3_best h w M B S x1.toNatClampNeg).1 x2).toInt64) g := ⟨_, rfl⟩
  obtain ⟨O1, eO1⟩ : ∃ z : sS, z = madv_S h w (s_put O 0 0 0) x1 x2 := ⟨_, rfl⟩
  obtain ⟨vo, evo⟩ : ∃ z : Int32, z = madv_V h w (s_put O 0 0 0) x1 x2 := ⟨_, rfl⟩
  have K9 : ok3 tv (mv_num (x3_best h w M B S x1.toNatClampNeg).1 x2) vo M S O1 := by rw [etv, evo, eO1]; exact adv_ok (Rl_0 G 0) rfl B x1 x2
  refine lv_aload_n hx hb dL_law_1072 rfl (lv_at hl 3 rfl) ?_
  refine lv_aload_n hx hb dL_law_1073 rfl (lv_at hl 4 rfl) ?_
  refine lv_iload hx hb dL_law_1074 (lv_at hl 0 rfl) ?_
  refine lv_iconst (v := 1) hx hb dL_law_1076 (by decide) ?_
  refine lv_iadd hx hb dL_law_1077 ?_
  refine sld_k hx hb hX hbl hbA hS (i + 1) (nI_add i 1) (by omega) (by omega) ex1 dL_law_1078 ?_
  refine lv_aload_n hx hb dL_law_1079 rfl (lv_at hl 4 rfl) ?_
  refine lv_iload hx hb dL_law_1080 (lv_at hl 0 rfl) ?_
  refine lv_iconst (v := 2) hx hb dL_law_1082 (by decide) ?_
  refine lv_iadd hx hb dL_law_1083 ?_
  refine sld_k hx hb hX hbl hbA hS (i + 2) (nI_add i 2) (by omega) (by omega) ex2 dL_law_1084 ?_
  refine lv_aload_n hx hb dL_law_1085 rfl (lv_at hl 1 rfl) ?_
  refine zY_S (pre := []) (wc := oW k b t M ++ kW cI k M ++ bW k B ++ sW cI b S ++ sW cI t T ++ gW cJ o g) (post := mW cI d O) (w1 := oW k b t M ++ kW cI k M ++ bW k B1 ++ sW cI b S ++ sW cI t T1 ++ gW cJ o g1) (v := tv) ⟨hx, hb, hml, hown, hts⟩ (by rw [etv, eB1, eT1, eg1]; exact c_L_advise l dC dI cI cJ k b t h w M B S T o g x1 x2 y G.1.1 G.2.2.1 G.2.2.2.1 G.2.1.2.2 hLt) (vx_cwSW 4 hts gL_law_L_advise rfl rfl rfl (by decide +kernel) ⟨Nat.le_of_ble_eq_true rfl, Nat.le_of_ble_eq_true rfl⟩) rfl hK hN hst hC hP hD hS hA rfl hl.1 rfl (Nat.le_of_ble_eq_true rfl) dL_law_1086 ⟨by show cells + 1 ≤ 601024; omega, by show slots + 6 ≤ 7293034; omega⟩ (fun H locs hP hD hS => ?_)
  have hP : va_P (dC, dI) vwCl (oW k b t M ++ kW cI k M ++ bW k B1 ++ sW cI b S ++ sW cI t T1 ++ gW cJ o g1 ++ mW cI d O) H := hP
  have hD : va_D (lawA s0) (oW k b t M ++ kW cI k M ++ bW k B1 ++ sW cI b S ++ sW cI t T1 ++ gW cJ o g1 ++ mW cI d O) := hD
  refine lv_istore (lv' := [(5, .int tv), (4, .int (nI i)), (3, .ref o), (2, .ref (d 0)), (1, .ref (k 0)), (0, .ref sc)]) hx hb dL_law_1089 hl (by decide) rfl (fun ls hl => ?_)
  refine lv_aload_n hx hb dL_law_1091 rfl (lv_at hl 3 rfl) ?_
  refine lv_aload_n hx hb dL_law_1092 rfl (lv_at hl 5 rfl) ?_
  refine lv_iload hx hb dL_law_1093 (lv_at hl 1 rfl) ?_
  refine lv_iconst (v := 1) hx hb dL_law_1095 (by decide) ?_
  refine lv_iadd hx hb dL_law_1096 ?_
  refine sld_k hx hb hX hbl hbA hS (i + 1) (nI_add i 1) (by omega) (by omega) ex1 dL_law_1097 ?_
  refine lv_aload_n hx hb dL_law_1098 rfl (lv_at hl 5 rfl) ?_
  refine lv_iload hx hb dL_law_1099 (lv_at hl 1 rfl) ?_
  refine lv_iconst (v := 2) hx hb dL_law_1101 (by decide) ?_
  refine lv_iadd hx hb dL_law_1102 ?_
  refine sld_k hx hb hX hbl hbA hS (i + 2) (nI_add i 2) (by omega) (by omega) ex2 dL_law_1103 ?_
  refine zI_V (pre := (oW k b t M ++ kW cI k M ++ bW k B1 ++ sW cI b S ++ sW cI t T1 ++ gW cJ o g1)) (wc := mW cI d O) (post := []) (w1 := mW cI d O1) (v := vo) ⟨hx, hb, hml, hown, hts⟩ (by rw [evo, eO1]; exact c_X4_advise l dC dI cI d h w O x1 x2 G.1.2.1 y (G.1.2.2.1.trans G.2.2.1) G.2.2.2.1 (rl_bkm G)) (cwV 2 hts gL_law_X4_advise rfl rfl rfl (by decide +kernel) ⟨Nat.le_of_ble_eq_true rfl, Nat.le_of_ble_eq_true rfl⟩) (List.append_nil _).symm (hK.sub [0] rfl) hN (ci := 4) (q0 := 0) rfl rfl rfl hP hD hS hA rfl hl.1 rfl (Nat.le_of_ble_eq_true rfl) dL_law_1104 ⟨by show cells + 1 ≤ 601024; omega, by show slots + 6 ≤ 7293034; omega⟩ (fun H locs hP hD hS => ?_)
  rw [List.append_nil] at hP hD
  refine lv_istore (lv' := [(6, .int vo), (5, .int tv), (4, .int (nI i)), (3, .ref o), (2, .ref (d 0)), (1, .ref (k 0)), (0, .ref sc)]) hx hb dL_law_1107 hl (by decide) rfl (fun ls hl => ?_)
  refine lv_aload_n hx hb dL_law_1109 rfl (lv_at hl 4 rfl) ?_
  refine zI_V (pre := (oW k b t M ++ kW cI k M ++ bW k B1 ++ sW cI b S ++ sW cI t T1 ++ gW cJ o g1)) (wc := mW cI d O1) (post := []) (w1 := mW cI d O1) ⟨hx, hb, hml, hown, hts⟩ (c_X4_thrown l dC dI cI d O1) (cwV 0 hts gL_law_X4_thrown rfl rfl rfl (by decide +kernel) ⟨Nat.le_of_ble_eq_true rfl, Nat.le_of_ble_eq_true rfl⟩) (List.append_nil _).symm (hK.sub [0] rfl) hN (ci := 4) (q0 := 0) rfl rfl rfl hP hD hS hA rfl hl.1 rfl (Nat.le_of_ble_eq_true rfl) dL_law_1110 ⟨by show cells + 1 ≤ 601024; omega, by show slots + 6 ≤ 7293034; omega⟩ (fun H locs hP hD hS => ?_)
  rw [List.append_nil] at hP hD
  refine lv_iload hx hb dL_law_1113 (lv_at hl 1 rfl) ?_
  obtain ⟨kt, kv, h1, w1, y1, G1⟩ := K9
  refine lv_icmp_eq (tgt := 1120) hx hb dL_law_1115 (by decide) (fun _ => ?_) (fun q => absurd kt q)
  refine lv_iload hx hb dL_law_1120 (lv_at hl 1 rfl) ?_
  have kk := kk d0 h1 w1 y1 M B1 S T1 O1 g1 H locs ls hd0 G1 hP hD hS (lv_sub hl [2, 3, 4, 5, 6] rfl)
  have kk := W.widen (cells := cells + 1) (slots := slots + 6) (by omega) (by omega) kk
  refine lv_if_ne (tgt := 1137) hx hb dL_law_1122 (by decide) (fun _ => ?_) (fun q => ?_)
  · exact lv_goto (tgt := 1195) hx hb dL_law_1137 (by decide) kk
  · refine lv_aload_n hx hb dL_law_1125 rfl (lv_at hl 3 rfl) ?_
    refine lv_iconst (v := 0) hx hb dL_law_1126 (by decide) ?_
    refine va_lald (cA := cJ) (n := 1) (f := g1) hx hb hK hP 34 1 rfl rfl (show vp_in (nI 0) 1 from vp_in_nI (by decide) (by decide)) dL_law_1127 ?_
    refine lv_iload hx hb dL_law_1128 (lv_at hl 0 rfl) ?_
    refine lv_i2l (v := vo.toInt64) hx hb dL_law_1130 rfl ?_
    refine W.lcmp hx hb dL_law_1131 ?_
    have hq : g1 (0 : Int32).toNatClampNeg = vo.toInt64 := by
      rw [eg1, ← etv, q, kv q]
      rw [zl_0]
      exact pk_uLs
    refine lv_if_eq (tgt := 1137) hx hb dL_law_1132 (by decide) (fun _ => ?_) (fun q2 => absurd (lg_same hq) q2)
    exact lv_goto (tgt := 1195) hx hb dL_law_1137 (by decide) kk

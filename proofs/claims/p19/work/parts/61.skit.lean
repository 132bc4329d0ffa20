/-! contracts of the law's own methods: what they need of the machine besides; worlds that are told at the end -/
abbrev zTy (cI cR cF : ClassId) : List (ClassId × FieldType) := [(cI, .int), (cR, .array .int), (cF, .array (.array .int))]
def zPreG (D : va_G) (cI cR cF : ClassId) (wc : va_W) (sz : Nat) (U : State) : Prop := zPre D cI wc sz U ∧ va_K D vwCl (zTy cI cR cF) U ∧ zG U
theorem zPreG_blind {D : va_G} {cI cR cF : ClassId} {wc : va_W} {sz : Nat} {As : List Value} : FrameBlind (va_Pc As (zPreG D cI cR cF wc sz)) := by
  intro a U g mk q
  obtain ⟨q0, q1, q2, q3⟩ := q
  exact ⟨q0, (zPre_blind (As := As) a U g mk ⟨q0, q1⟩).2, va_K.moved (u := U) (U := U.calling g mk a) (Vm.Alike.refl U.vm) q2, zG_moved (u := U) (U := U.calling g mk a) (Vm.Alike.refl U.vm) q3⟩
theorem zPreG_at {D : va_G} {cI cR cF : ClassId} {wc : va_W} {s U : State} {H : Heap} (hU : U.heap = H) (hW : s.WarmedH U.vm) (hK : va_K D vwCl (zTy cI cR cF) s) (hN : zN s) (hG : zG s) (hP : va_P D vwCl wc H) (hD : va_D (fun _ => True) wc) : zPreG D cI cR cF wc H.size U :=
  ⟨zPre_at hU hW (hK.sub [0] rfl) hN hP hD, va_K.moved hW.alike hK, zG_moved hW.alike hG⟩
/-- a method that makes cells: its world at the end is one of F -/
def zE (l : Launch) (y : MethodName) (ws : List Cond) (rm : Room) (D : va_G) (cI cR cF : ClassId) (As : List Value) (wc : va_W) (F : va_W → Prop) (mc ms : Nat) : Prop :=
  ∀ sz : Nat, Met l y ws rm (va_Pc As (zPreG D cI cR cF wc sz)) (va_Qv (fun _ : Unit => True) (fun _ t => ∃ w1, F w1 ∧ zEnd D w1 (va_A wc sz) t) (va_A wc sz)) mc ms (va_A wc sz)
def zEq (D : va_G) (A : Nat → Prop) (F : va_W → Prop) (below : List Frame) (args : Array Value) (s : State) (mc ms : Nat) : State → Prop :=
  MQ below (va_Qv (fun _ : Unit => True) (fun _ t => ∃ w1, F w1 ∧ zEnd D w1 A t) A) args s mc ms A
theorem zE_of {l : Launch} {y : MethodName} {ws ws' : List Cond} {rm : Room} {D : va_G} {cI cR cF : ClassId} {As : List Value} {wc : va_W} {F : va_W → Prop} {mc ms : Nat} {cc : ByteArray} {maxL : Nat} {ret : Option FieldType} (hy : plainName y.cls = true) (hw : ws = Cond.code y cc maxL ret :: ws') (hlen : (lg_sl As).length ≤ maxL)
    (body : ∀ (p : Program) (e : Env) (s : State) (m : MethodId) (below : List Frame) (meth : Method) (c : Code) (A : Nat → Prop) (ls : Array Slot), zAt p s m meth c D cI y cc maxL ret ws As.toArray A wc → va_K D vwCl (zTy cI cR cF) s → zG s → lv_has ls maxL (lv_args 0 As) → W p l e rm s m As.toArray below meth c s.heap [] 0 0 (zEq D A F below As.toArray s mc ms) (F0 m 0 ls [])) : zE l y ws rm D cI cR cF As wc F mc ms := by
  intro sz
  refine Met.ofW (cc := cc) (maxL := maxL) (ret := ret) hy hw ?_
  intro p e s m args below meth c s₁ B hml hv
  obtain ⟨rfl, ⟨hsz, hP, hK, hD0, hN⟩, hK3, hG⟩ := hv
  subst hsz
  rw [lg_entry_eq]
  exact body p e s m below meth c _ _ ⟨B.exec, B.bytes, B.returns, hml, findClass_of_methodNamed B.named, atoms_spec (ws := ws) B.pre, B.notSynchronized, hK, hN, fun q h => Or.inr h, hP, hD0.self (sz := s.heap.size), va_S.rf⟩ hK3 hG (lv_entry As hlen)
/-- of the script: an array of L ints at b, which no cell of the world is -/
def zPreB (D : va_G) (cI cR cF : ClassId) (b L : Nat) (xs : Nat → Int32) (wc : va_W) (sz : Nat) (U : State) : Prop := zPreG D cI cR cF wc sz U ∧ va_X b L xs U U.heap ∧ b < sz ∧ ¬ va_A wc sz b
theorem zPreB_blind {D : va_G} {cI cR cF : ClassId} {b L : Nat} {xs : Nat → Int32} {wc : va_W} {sz : Nat} {As : List Value} : FrameBlind (va_Pc As (zPreB D cI cR cF b L xs wc sz)) := by
  intro a U g mk q
  obtain ⟨q0, q1, q2, q3⟩ := q
  exact ⟨q0, (zPreG_blind (As := As) a U g mk ⟨q0, q1⟩).2, va_X.moved (u := U) (U := U.calling g mk a) (Vm.Alike.refl U.vm) q2, q3⟩
/-- a method of the script's that answers a cell -/
def zR (l : Launch) (y : MethodName) (ws : List Cond) (rm : Room) (D : va_G) (cI cR cF : ClassId) (b L : Nat) (xs : Nat → Int32) (As : List Value) (wc : va_W) (F : Nat → va_W → Prop) (mc ms : Nat) : Prop :=
  ∀ sz : Nat, Met l y ws rm (va_Pc As (zPreB D cI cR cF b L xs wc sz)) (va_Qr (fun _ : Unit => True) (fun _ ra t => ∃ w1, F ra w1 ∧ zEnd D w1 (va_A wc sz) t) (va_A wc sz)) mc ms (va_A wc sz)
def zRq (D : va_G) (A : Nat → Prop) (F : Nat → va_W → Prop) (below : List Frame) (args : Array Value) (s : State) (mc ms : Nat) : State → Prop :=
  MQ below (va_Qr (fun _ : Unit => True) (fun _ ra t => ∃ w1, F ra w1 ∧ zEnd D w1 A t) A) args s mc ms A
theorem zR_of {l : Launch} {y : MethodName} {ws ws' : List Cond} {rm : Room} {D : va_G} {cI cR cF : ClassId} {b L : Nat} {xs : Nat → Int32} {As : List Value} {wc : va_W} {F : Nat → va_W → Prop} {mc ms : Nat} {cc : ByteArray} {maxL : Nat} {ret : Option FieldType} (hy : plainName y.cls = true) (hw : ws = Cond.code y cc maxL ret :: ws') (hlen : (lg_sl As).length ≤ maxL)
    (body : ∀ (p : Program) (e : Env) (s : State) (m : MethodId) (below : List Frame) (meth : Method) (c : Code) (A : Nat → Prop) (ls : Array Slot), zAt p s m meth c D cI y cc maxL ret ws As.toArray A wc → va_K D vwCl (zTy cI cR cF) s → zG s → va_X b L xs s s.heap → b < s.heap.size → ¬ A b → lv_has ls maxL (lv_args 0 As) → W p l e rm s m As.toArray below meth c s.heap [] 0 0 (zRq D A F below As.toArray s mc ms) (F0 m 0 ls [])) : zR l y ws rm D cI cR cF b L xs As wc F mc ms := by
  intro sz
  refine Met.ofW (cc := cc) (maxL := maxL) (ret := ret) hy hw ?_
  intro p e s m args below meth c s₁ B hml hv
  obtain ⟨rfl, ⟨⟨hsz, hP, hK, hD0, hN⟩, hK3, hG⟩, hX, hbl, hbA⟩ := hv
  subst hsz
  rw [lg_entry_eq]
  exact body p e s m below meth c _ _ ⟨B.exec, B.bytes, B.returns, hml, findClass_of_methodNamed B.named, atoms_spec (ws := ws) B.pre, B.notSynchronized, hK, hN, fun q h => Or.inr h, hP, hD0.self (sz := s.heap.size), va_S.rf⟩ hK3 hG hX hbl hbA (lv_entry As hlen)
/-- a look at the script: some int -/
def zC (l : Launch) (y : MethodName) (ws : List Cond) (rm : Room) (D : va_G) (cI : ClassId) (b L : Nat) (xs : Nat → Int32) (As : List Value) : Prop :=
  ∀ sz : Nat, Met l y ws rm (va_Pc As (fun U => zPre D cI [] sz U ∧ va_X b L xs U U.heap ∧ b < sz)) (va_Qi (fun (_ : Int32) (_ : Unit) => True) (fun _ t => zEnd D [] (va_A [] sz) t) (va_A [] sz)) 0 0 (va_A [] sz)
def zCq (D : va_G) (A : Nat → Prop) (below : List Frame) (args : Array Value) (s : State) : State → Prop :=
  MQ below (va_Qi (fun (_ : Int32) (_ : Unit) => True) (fun _ t => zEnd D [] A t) A) args s 0 0 A
theorem zA_nil {b sz : Nat} (h : b < sz) : ¬ va_A [] sz b := by
  rintro (⟨k, e, q⟩ | q)
  · simp at q
  · omega
theorem zC_of {l : Launch} {y : MethodName} {ws ws' : List Cond} {rm : Room} {D : va_G} {cI : ClassId} {b L : Nat} {xs : Nat → Int32} {As : List Value} {cc : ByteArray} {maxL : Nat} {ret : Option FieldType} (hy : plainName y.cls = true) (hw : ws = Cond.code y cc maxL ret :: ws') (hlen : (lg_sl As).length ≤ maxL)
    (body : ∀ (p : Program) (e : Env) (s : State) (m : MethodId) (below : List Frame) (meth : Method) (c : Code) (A : Nat → Prop) (ls : Array Slot), zAt p s m meth c D cI y cc maxL ret ws As.toArray A [] → va_X b L xs s s.heap → b < s.heap.size → ¬ A b → lv_has ls maxL (lv_args 0 As) → W p l e rm s m As.toArray below meth c s.heap [] 0 0 (zCq D A below As.toArray s) (F0 m 0 ls [])) : zC l y ws rm D cI b L xs As := by
  intro sz
  refine Met.ofW (cc := cc) (maxL := maxL) (ret := ret) hy hw ?_
  intro p e s m args below meth c s₁ B hml hv
  obtain ⟨rfl, ⟨hsz, hP, hK, hD0, hN⟩, hX, hbl⟩ := hv
  subst hsz
  rw [lg_entry_eq]
  exact body p e s m below meth c _ _ ⟨B.exec, B.bytes, B.returns, hml, findClass_of_methodNamed B.named, atoms_spec (ws := ws) B.pre, B.notSynchronized, hK, hN, fun q h => Or.inr h, hP, hD0.self (sz := s.heap.size), va_S.rf⟩ hX hbl (zA_nil hbl) (lv_entry As hlen)
section ZSK
variable {p : Program} {l : Launch} {e : Env} {R : Room} {s : State} {m : MethodId} {args : Array Value} {below : List Frame} {meth : Method} {c : Code} {H : Heap} {locs : List Loc} {cells slots : Nat} {Q : State → Prop}
variable {D : va_G} {cI cR cF : ClassId} {A : Nat → Prop} {H0 : Heap} {pc : Nat} {ls : Array Slot} {st0 rest : List Value} {ww pre wc post w1 : va_W} {cc : ByteArray}
variable {y : MethodName} {bytes : ByteArray} {maxL nL n index mc ms : Nat} {ret : Option FieldType} {ws : List Cond} {rm : Room} {Ts : List Cond} {own : String} {b L : Nat} {xs : Nat → Int32} {As : List Value}
theorem zE_ret {F : va_W → Prop} (hF : F w1) (hx : p.tables.exec = Jvm.exec) (hb : c.code = cc) (hr : meth.sig.returnType = none) (hlocks : meth.locks = false) (hP : va_P D vwCl w1 H) (hD : va_D A w1) (hS : va_S A s.heap H locs) (hc : cells ≤ mc) (hs : slots ≤ ms) (hdg : decode cc pc = .ok (.return_, 1)) : W p l e R s m args below meth c H locs cells slots (zEq D A F below args s mc ms) (F0 m pc ls []) := by
  refine W.widen (k := mc) (n := ms) hc hs ?_
  exact W.vret (hlocks := hlocks) hx hb hr (fun t ht _ => ⟨⟨(), rfl, trivial, w1, hF, by rw [ht]; exact hP, hD⟩, hS.F ht⟩) hS.2.2 hdg
theorem zR_ret {F : Nat → va_W → Prop} {ra : Nat} {C : String} (hF : F ra w1) (hx : p.tables.exec = Jvm.exec) (hb : c.code = cc) (hr : meth.sig.returnType = some (.object C)) (hlocks : meth.locks = false) (hP : va_P D vwCl w1 H) (hD : va_D A w1) (hS : va_S A s.heap H locs) (hc : cells ≤ mc) (hs : slots ≤ ms) (hdg : decode cc pc = .ok (.areturn, 1)) : W p l e R s m args below meth c H locs cells slots (zRq D A F below args s mc ms) (F0 m pc ls [.ref ra]) := by
  refine W.widen (k := mc) (n := ms) hc hs ?_
  exact W.aret (hlocks := hlocks) hx hb hr (Or.inl ⟨_, rfl⟩) (Or.inr ⟨_, rfl⟩) (fun t ht _ => ⟨⟨(), ra, rfl, trivial, w1, hF, by rw [ht]; exact hP, hD⟩, hS.F ht⟩) hS.2.2 hdg
theorem zC_ret {x : Int32} (hx : p.tables.exec = Jvm.exec) (hb : c.code = cc) (hr : meth.sig.returnType = some .int) (hlocks : meth.locks = false) (hP : va_P D vwCl [] H) (hD : va_D A []) (hS : va_S A s.heap H locs) (hdg : decode cc pc = .ok (.ireturn, 1)) : W p l e R s m args below meth c H locs 0 0 (zCq D A below args s) (F0 m pc ls [.int x]) :=
  W.zret (hlocks := hlocks) hx hb hr rfl (fun t ht _ => ⟨⟨x, (), rfl, trivial, by rw [ht]; exact hP, hD⟩, hS.F ht⟩) hS.2.2 hdg
/-- the script is where it was -/
theorem zX_now (hX : va_X b L xs s H0) (hbl : b < H0.size) (hbA : ¬ A b) (hS : va_S A H0 H locs) : va_X b L xs s H := hX.kept (hS.2.1 b hbl hbA)
theorem zC_S (S : CallFix p m c cc nL s args Ts own) (hM : zC l y ws rm D cI b L xs As) (cw : CallB R s args own index y bytes maxL ret ws rm 0 0 n ∧ (Cond.static y).before args s = true) (hX : va_X b L xs s H0) (hbl : b < H0.size) (hbA : ¬ A b) (hK : va_K D vwCl [(cI, .int)] s) (hN : zN s)
    (hP : va_P D vwCl ww H) (hD : va_D A ww) (hS : va_S A H0 H locs) (hA : ∀ q, H0.size ≤ q → A q) (hn : As.length = n) (hsize : ls.size = nL) (hst : st0 = As.reverse ++ rest) (hW : (rest.map fun v => v.category).sum ≤ 8) (hdg : decode cc pc = .ok (.invokestatic index, 3)) (hcs : cells ≤ R.cells ∧ slots ≤ R.slots)
    (kk : ∀ (v : Int32) (H1 : Heap) (locs1 : List Loc), va_P D vwCl ww H1 → va_D A ww → va_S A H0 H1 locs1 → W p l e R s m args below meth c H1 locs1 cells slots Q (F0 m (pc + 3) ls (.int v :: rest))) : W p l e R s m args below meth c H locs cells slots Q (F0 m pc ls st0) := by
  subst hst
  have hw : ww = ww ++ [] ++ [] := by rw [List.append_nil, List.append_nil]
  have hF := z_F hw hD hS hA
  have hXn := zX_now hX hbl hbA hS
  have hbn : b < H.size := Nat.lt_of_lt_of_le hbl hS.1
  refine va_calli (va_runS (As := As) (rest := rest) S (hM H.size) cw ⟨?_, fun U hU hW => ⟨rfl, zPre_at hU hW hK hN (z_P hw hP) (z_D hw hD), va_X.moved hW.alike (by rw [hU]; exact hXn), hbn⟩⟩ rfl hn hsize rfl (lv_room hW) hdg hcs) hS (fun q _ h => hF q h) hF (fun r u t H1 locs1 ht _ hp hB _ hk hS1 => ?_)
  · intro a U g mk q
    obtain ⟨q0, q1, q2, q3⟩ := q
    exact ⟨q0, (zPre_blind (As := As) a U g mk ⟨q0, q1⟩).2, va_X.moved (u := U) (U := U.calling g mk a) (Vm.Alike.refl U.vm) q2, q3⟩
  · obtain ⟨hP1, hD1⟩ := hB
    rw [ht] at hP1
    obtain ⟨hP2, hD2⟩ := z_join hw hP hD hk hF hP1 hD1
    rw [List.append_nil, List.append_nil] at hP2 hD2
    exact kk r H1 locs1 hP2 hD2 hS1
theorem zE_I {F : va_W → Prop} {q : Nat} (S : CallFix p m c cc nL s args Ts own) (hM : zE l y ws rm D cI cR cF (.ref q :: As) wc F mc ms) (cw : CallB R s args own index y bytes maxL none ws rm mc ms n ∧ y.name = "<init>" ∧ (Cond.instanceMethod y).before args s = true) (hw : ww = pre ++ wc ++ post) (hK : va_K D vwCl (zTy cI cR cF) s) (hN : zN s) (hG : zG s)
    (hP : va_P D vwCl ww H) (hD : va_D A ww) (hS : va_S A H0 H locs) (hA : ∀ q, H0.size ≤ q → A q) (hn : As.length = n) (hsize : ls.size = nL) (hst : st0 = As.reverse ++ .ref q :: rest) (hW : (rest.map fun v => v.category).sum ≤ 8) (hdg : decode cc pc = .ok (.invokespecial index, 3)) (hcs : cells + mc ≤ R.cells ∧ slots + ms ≤ R.slots)
    (kk : ∀ (w1 : va_W) (H1 : Heap) (locs1 : List Loc), F w1 → va_P D vwCl (pre ++ w1 ++ post) H1 → va_D A (pre ++ w1 ++ post) → va_S A H0 H1 locs1 → W p l e R s m args below meth c H1 locs1 (cells + mc) (slots + ms) Q (F0 m (pc + 3) ls rest)) : W p l e R s m args below meth c H locs cells slots Q (F0 m pc ls st0) := by
  subst hst
  have hF := z_F hw hD hS hA
  refine va_callv (va_runI (As := As) (rest := rest) S (hM H.size) cw ⟨zPreG_blind, fun U hU hW => ⟨rfl, zPreG_at hU hW hK hN hG (z_P hw hP) (z_D hw hD)⟩⟩ rfl hn hsize rfl (lv_room hW) hdg hcs) hS (fun q _ h => hF q h) hF (fun u t H1 locs1 ht _ hu hB _ hk hS1 => ?_)
  obtain ⟨w1, hf, hP1, hD1⟩ := hB
  rw [ht] at hP1
  obtain ⟨hP2, hD2⟩ := z_join hw hP hD hk hF hP1 hD1
  exact kk w1 H1 locs1 hf hP2 hD2 hS1
theorem zR_S {F : Nat → va_W → Prop} (S : CallFix p m c cc nL s args Ts own) (hM : zR l y ws rm D cI cR cF b L xs As wc F mc ms) (cw : CallB R s args own index y bytes maxL ret ws rm mc ms n ∧ (Cond.static y).before args s = true) (hX : va_X b L xs s H0) (hbl : b < H0.size) (hbA : ¬ A b) (hw : ww = pre ++ wc ++ post) (hK : va_K D vwCl (zTy cI cR cF) s) (hN : zN s) (hG : zG s)
    (hP : va_P D vwCl ww H) (hD : va_D A ww) (hS : va_S A H0 H locs) (hA : ∀ q, H0.size ≤ q → A q) (hn : As.length = n) (hsize : ls.size = nL) (hst : st0 = As.reverse ++ rest) (hW : (rest.map fun v => v.category).sum ≤ 8) (hdg : decode cc pc = .ok (.invokestatic index, 3)) (hcs : cells + mc ≤ R.cells ∧ slots + ms ≤ R.slots)
    (kk : ∀ (ra : Nat) (w1 : va_W) (H1 : Heap) (locs1 : List Loc), F ra w1 → va_P D vwCl (pre ++ w1 ++ post) H1 → va_D A (pre ++ w1 ++ post) → va_S A H0 H1 locs1 → W p l e R s m args below meth c H1 locs1 (cells + mc) (slots + ms) Q (F0 m (pc + 3) ls (.ref ra :: rest))) : W p l e R s m args below meth c H locs cells slots Q (F0 m pc ls st0) := by
  subst hst
  have hF := z_F hw hD hS hA
  have hXn := zX_now hX hbl hbA hS
  have hbn : b < H.size := Nat.lt_of_lt_of_le hbl hS.1
  refine va_callr (va_runS (As := As) (rest := rest) S (hM H.size) cw ⟨zPreB_blind, fun U hU hW => ⟨rfl, zPreG_at hU hW hK hN hG (z_P hw hP) (z_D hw hD), va_X.moved hW.alike (by rw [hU]; exact hXn), hbn, fun z => hbA (hF b z)⟩⟩ rfl hn hsize rfl (lv_room hW) hdg hcs) hS (fun q _ h => hF q h) hF (fun u ra t H1 locs1 ht _ hu hB _ hk hS1 => ?_)
  obtain ⟨w1, hf, hP1, hD1⟩ := hB
  rw [ht] at hP1
  obtain ⟨hP2, hD2⟩ := z_join hw hP hD hk hF hP1 hD1
  exact kk ra w1 H1 locs1 hf hP2 hD2 hS1
end ZSK
/-! what 'below' answers -/
def z_bel (v n : Int32) : Int32 := zrem (v &&& 2147483647) n
theorem z_and (v : Int32) : 0 ≤ (v &&& 2147483647).toInt := by
  have e : (v &&& 2147483647).toBitVec.msb = false := by
    rw [Int32.toBitVec_and, BitVec.msb_and]
    have : (2147483647 : Int32).toBitVec.msb = false := by decide
    rw [this, Bool.and_false]
  rw [← Int32.toInt_toBitVec, BitVec.toInt_eq_toNat_of_msb e]
  omega
theorem z_bel_ok (v : Int32) {n : Nat} (h0 : 0 < n) (hn : n < 2147483648) : ∃ j, j < n ∧ z_bel v (nI n) = nI j := by
  have h1 := z_and v
  have h2 : (v &&& 2147483647).toInt < 2 ^ 31 := Int32.toInt_lt _
  obtain ⟨k, hk, e⟩ : ∃ k : Nat, k < 2 ^ 31 ∧ (v &&& 2147483647) = nI k := by
    refine ⟨(v &&& 2147483647).toInt.toNat, by omega, ?_⟩
    apply Int32.toInt_inj.mp
    rw [nI_toInt (by omega)]
    omega
  refine ⟨k % n, Nat.mod_lt _ h0, ?_⟩
  unfold z_bel zrem
  rw [e]
  exact pk_rem (a := k) (d := n) hk h0 (by omega)

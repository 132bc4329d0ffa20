/-! the law's own calls: a call of the class, its answer into a cell of longs, what was thrown as a number -/
def zNcs : List (String × String) := [("java/lang/IllegalArgumentException", "java/lang/IndexOutOfBoundsException"), ("java/lang/IndexOutOfBoundsException", "java/lang/IllegalArgumentException"), ("java/lang/IllegalStateException", "java/lang/IndexOutOfBoundsException"), ("java/lang/IllegalStateException", "java/lang/IllegalArgumentException")]
def zNc (U : State) : Prop := ∀ q ∈ zNcs, va_Nc q.1 q.2 U
def gW (cJ : ClassId) (o : Nat) (g : Nat → Int64) : va_W := [(o, .inl (cJ, 1, .inr (.inl g)))]
def zs (t : Int32) (a b : sS) : sS := if t = 0 then a else b
def zl (t : Int32) (a b : Nat → Int64) : Nat → Int64 := if t = 0 then a else b
def zPreY (D : va_G) (cI cJ : ClassId) (wc : va_W) (sz : Nat) (U : State) : Prop := U.heap.size = sz ∧ va_P D vwCl wc U.heap ∧ va_K D vwCl [(cI, .int), (cJ, .long)] U ∧ va_D (fun _ => True) wc ∧ zN U ∧ zSt (va_A wc sz) U U.heap ∧ zNc U
theorem zPreY_blind {D : va_G} {cI cJ : ClassId} {wc : va_W} {sz : Nat} {As : List Value} : FrameBlind (va_Pc As (zPreY D cI cJ wc sz)) := by
  intro a U g mk q
  obtain ⟨q0, q1, qP, qK, qD, qN, qS, qC⟩ := q
  exact ⟨q0, q1, qP, va_K.moved (u := U) (U := U.calling g mk a) (Vm.Alike.refl U.vm) qK, qD, ⟨va_Nw.same (u := U) (U := U.calling g mk a) rfl rfl qN.1, va_Nw.same (u := U) (U := U.calling g mk a) rfl rfl qN.2⟩, zSt_same (u := U) (U := U.calling g mk a) rfl qS, fun q hq => va_Nc.moved (u := U) (U := U.calling g mk a) (Vm.Alike.refl U.vm) (qC q hq)⟩
def zY (l : Launch) (y : MethodName) (ws : List Cond) (rm : Room) (D : va_G) (cI cJ : ClassId) (As : List Value) (wc w1 : va_W) (v : Int32) : Prop :=
  ∀ sz : Nat, vx_Met l y ws rm (va_Pc As (zPreY D cI cJ wc sz)) (va_Qi (fun (r : Int32) (_ : Unit) => r = v) (fun _ t => zEnd D w1 (va_A wc sz) t) (va_A wc sz)) (vx_X (fun (_ : Unit) => False) (fun _ _ _ => True) (va_A wc sz)) 1 6 (va_A wc sz)
def zYq (D : va_G) (A : Nat → Prop) (w1 : va_W) (v : Int32) (below : List Frame) (args : Array Value) (s : State) : State → Prop :=
  vx_MQ below (va_Qi (fun (r : Int32) (_ : Unit) => r = v) (fun _ t => zEnd D w1 A t) A) (vx_X (fun (_ : Unit) => False) (fun _ _ _ => True) A) args s 1 6 A
def zAtY (p : Program) (s : State) (m : MethodId) (meth : Method) (c : Code) (D : va_G) (cI cJ : ClassId) (y : MethodName) (cc : ByteArray) (maxL : Nat) (ret : Option FieldType) (ws : List Cond) (args : Array Value) (A : Nat → Prop) (wc : va_W) : Prop :=
  p.tables.exec = Jvm.exec ∧ c.code = cc ∧ meth.sig.returnType = ret ∧ c.maxLocals = maxL ∧ s.vm.findClass y.cls = some m.cls ∧ (∀ w ∈ ws, w.before args s = true) ∧ meth.locks = false ∧ va_K D vwCl [(cI, .int), (cJ, .long)] s ∧ zN s ∧ (∀ q, s.heap.size ≤ q → A q) ∧ va_P D vwCl wc s.heap ∧ va_D A wc ∧ va_S A s.heap s.heap [] ∧ zSt A s s.heap ∧ zNc s
theorem zY_of {l : Launch} {y : MethodName} {ws ws' : List Cond} {rm : Room} {D : va_G} {cI cJ : ClassId} {As : List Value} {wc w1 : va_W} {cc : ByteArray} {maxL : Nat} {ret : Option FieldType} {v : Int32} {hh : List (Nat × Nat × Nat × Nat)} (hy : plainName y.cls = true) (hw : ws = Cond.codeWith y cc maxL ret hh :: ws') (hlen : (lg_sl As).length ≤ maxL)
    (body : ∀ (p : Program) (e : Env) (s : State) (m : MethodId) (below : List Frame) (meth : Method) (c : Code) (A : Nat → Prop) (ls : Array Slot), zAtY p s m meth c D cI cJ y cc maxL ret ws As.toArray A wc → c.exceptionTable.toList = tableOf hh → lv_has ls maxL (lv_args 0 As) → W p l e rm s m As.toArray below meth c s.heap [] 0 0 (zYq D A w1 v below As.toArray s) (F0 m 0 ls [])) : zY l y ws rm D cI cJ As wc w1 v := by
  intro sz
  refine vx_ofWH (cc := cc) (maxL := maxL) (ret := ret) hy hw ?_
  intro p e s m args below meth c s₁ B hml hv
  obtain ⟨rfl, hsz, hP, hK, hD0, hN, hst, hC⟩ := hv
  subst hsz
  rw [lg_entry_eq]
  have hts := atoms_spec (ws := ws) B.pre
  exact body p e s m below meth c _ _ ⟨B.exec, B.bytes, B.returns, hml, findClass_of_methodNamed B.named, hts, B.notSynchronized, hK, hN, fun q h => Or.inr h, hP, hD0.self (sz := s.heap.size), va_S.rf, hst, hC⟩ (vx_table (x := y) B (hts _ (by rw [hw]; exact List.mem_cons_self))) (lv_entry As hlen)
section ZY
variable {p : Program} {l : Launch} {e : Env} {R : Room} {s : State} {m : MethodId} {args : Array Value} {below : List Frame} {meth : Method} {c : Code} {H : Heap} {locs : List Loc} {cells slots : Nat} {Q : State → Prop}
variable {D : va_G} {cI cJ : ClassId} {A : Nat → Prop} {H0 : Heap} {pc : Nat} {ls : Array Slot} {st0 rest : List Value} {ww pre wc post w1 : va_W} {cc : ByteArray} {v : Int32}
theorem zY_ret {x : Int32} {ty : FieldType} (hx : p.tables.exec = Jvm.exec) (hb : c.code = cc) (hr : meth.sig.returnType = some ty) (hlocks : meth.locks = false) (hP : va_P D vwCl w1 H) (hD : va_D A w1) (hS : va_S A s.heap H locs) (hn : narrow ty (.int x) = .int x) (hv : x = v) (hdg : decode cc pc = .ok (.ireturn, 1)) (hc : cells ≤ 1) (hs : slots ≤ 6) : W p l e R s m args below meth c H locs cells slots (zYq D A w1 v below args s) (F0 m pc ls [.int x]) := by
  refine W.widen (k := 1) (n := 6) hc hs ?_
  refine vx_ret ?_
  exact W.zret (hlocks := hlocks) hx hb hr hn (fun t ht9 _ => ⟨⟨x, (), rfl, hv, by rw [ht9]; exact hP, hD⟩, hS.F ht9⟩) hS.2.2 hdg
variable {y : MethodName} {bytes : ByteArray} {maxL nL n index : Nat} {ret : Option FieldType} {ws : List Cond} {rm : Room} {Ts : List Cond} {own : String} {As : List Value} {hh : List (Nat × Nat × Nat × Nat)}
/-- the law's call of one of its own -/
theorem zY_S (S : CallFix p m c cc nL s args Ts own) (hM : zY l y ws rm D cI cJ As wc w1 v) (cw : vx_CSW R s args own index y bytes maxL ret hh ws rm 1 6 n) (hw : ww = pre ++ wc ++ post) (hK : va_K D vwCl [(cI, .int), (cJ, .long)] s) (hN : zN s) (hst : zSt A s H0) (hC : zNc s)
    (hP : va_P D vwCl ww H) (hD : va_D A ww) (hS : va_S A H0 H locs) (hA : ∀ q, H0.size ≤ q → A q) (hn : As.length = n) (hsize : ls.size = nL) (hst0 : st0 = As.reverse ++ rest) (hW : (rest.map fun v => v.category).sum ≤ 8) (hdg : decode cc pc = .ok (.invokestatic index, 3)) (hcs : cells + 1 ≤ R.cells ∧ slots + 6 ≤ R.slots)
    (kk : ∀ (H1 : Heap) (locs1 : List Loc), va_P D vwCl (pre ++ w1 ++ post) H1 → va_D A (pre ++ w1 ++ post) → va_S A H0 H1 locs1 → W p l e R s m args below meth c H1 locs1 (cells + 1) (slots + 6) Q (F0 m (pc + 3) ls (.int v :: rest))) : W p l e R s m args below meth c H locs cells slots Q (F0 m pc ls st0) := by
  subst hst0
  have hPc := z_P hw hP
  have hF := z_F hw hD hS hA
  have hsz : zSt (va_A wc H.size) s H := zSt_narrow (zSt_kept hst (fun a ha hna => hS.2.1 a ha hna)) hF
  refine vx_calli (vx_runSX (As := As) (rest := rest) S (hM H.size) cw ⟨zPreY_blind, fun U hU hW => ⟨rfl, by rw [hU], by rw [hU]; exact hPc, va_K.moved hW.alike hK, z_D hw hD, ⟨va_Nw.warmM hW hN.1, va_Nw.warmM hW hN.2⟩, by rw [hU]; exact zSt_warm hW hsz, fun q hq => (hC q hq).moved hW.alike⟩⟩ rfl hn hsize rfl (lv_room hW) hdg hcs) hS (fun q _ h => hF q h) hF (fun q _ h => hF q h) (fun E ce q9 u t H1 locs1 ht _ hu hB _ hk hS1 h7 h8 h9 => hu.elim) (fun r u t H1 locs1 ht _ hp hB _ hk hS1 => ?_)
  obtain ⟨hP1, hD1⟩ := hB
  rw [ht] at hP1
  obtain ⟨hP2, hD2⟩ := z_join hw hP hD hk hF hP1 hD1
  rw [hp]
  exact kk H1 locs1 hP2 hD2 hS1
end ZY

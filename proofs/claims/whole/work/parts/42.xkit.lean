/-! contracts of methods that return or throw -/
def zEx : List String := ["java/lang/IllegalArgumentException", "java/lang/IndexOutOfBoundsException", "java/lang/IllegalStateException"]
def zCh : List String := ["java/lang/RuntimeException", "java/lang/Exception", Bundle.tN]
def zNames : List String := ["java/lang/RuntimeException", "java/lang/Exception"]
def zStr : List (Nat × String) := [(41, "h or w is not 2 to 8"), (66, "there is no such field"), (69, "bank is not 20 to 120, or seepage is not 0 to 9"), (90, "stone is not 0 to the bank"), (96, "side is not -1 to 1"), (101, "there is no such column"), (103, "share is not 0 to 9"), (108, "day is not 0 to 29"), (110, "rain is not 0 to 60, spring not 0 to 400, or draught not 0 to 20"), (121, "age is not 0 to 20"), (131, "the field is not fallow, or its depth is greater than 40"), (140, "the field is fallow, or the age of the crop is less than 40"), (149, "days is not 1 to 60"), (154, "the day would be greater than 2000"), (160, "there is no such field, or what is not 0 to 11"), (165, "what is not 0 to 8"), (170, "day is not 0 to 29, or what is not 0 to 2"), (175, "days is not 1 to 20"), (177, "what is not 0 to 3"), (186, "days is not 1 to 10"), (188, "what is not 0 to 2")]
/-- what a throw needs of the machine: Throwable's two statics, the texts, what the chain of constructors asks -/
def zSt (A : Nat → Prop) (U : State) (H : Heap) : Prop := vx_Zq Bundle.tN "UNASSIGNED_STACK" Bundle.steD A U H ∧ vx_Zq Bundle.tN "SUPPRESSED_SENTINEL" Bundle.listD A U H ∧ (∀ q ∈ zStr, ∃ sa, vk_R RX3 q.1 q.2 sa U) ∧ (∀ Y ∈ zCh, va_Nw (.declares (Bundle.initS Y)) U) ∧ (∀ X ∈ zEx, va_Nw (.castable X X) U)
theorem zSt_same {A : Nat → Prop} {u U : State} {H : Heap} (hv : U.vm = u.vm) (h : zSt A u H) : zSt A U H := by
  obtain ⟨h1, h2, h3, h4, h5⟩ := h
  have ha : u.vm.Alike U.vm := by rw [hv]; exact Vm.Alike.refl _
  exact ⟨h1.moved ha, h2.moved ha, fun q hq => (h3 q hq).elim fun sa h => ⟨sa, h.same hv⟩, fun Y hY => va_Nw.same rfl hv.symm (h4 Y hY), fun X hX => va_Nw.same rfl hv.symm (h5 X hX)⟩
theorem zSt_warm {A : Nat → Prop} {s U : State} {H : Heap} (hW : s.WarmedH U.vm) (h : zSt A s H) : zSt A U H := by
  obtain ⟨h1, h2, h3, h4, h5⟩ := h
  exact ⟨h1.moved hW.alike, h2.moved hW.alike, fun q hq => (h3 q hq).elim fun sa h => ⟨sa, h.warm hW⟩, fun Y hY => va_Nw.warmD hW (h4 Y hY), fun X hX => va_Nw.warmC hW (h5 X hX)⟩
theorem zSt_kept {A : Nat → Prop} {U : State} {H H1 : Heap} (h : zSt A U H) (hq : ∀ a : Nat, a < H.size → ¬ A a → H1[a]? = H[a]?) : zSt A U H1 := by
  obtain ⟨h1, h2, h3⟩ := h
  exact ⟨h1.kept hq, h2.kept hq, h3⟩
theorem zSt_narrow {A B : Nat → Prop} {U : State} {H : Heap} (h : zSt A U H) (hAB : ∀ q, B q → A q) : zSt B U H := by
  obtain ⟨h1, h2, h3⟩ := h
  exact ⟨h1.narrow hAB, h2.narrow hAB, h3⟩
/-- the exception's name by its number -/
def zNm (nms : List String) (thr : Int32) : String := nms.getD (thr.toNatClampNeg - 1) ""
def zPreX (D : va_G) (cI : ClassId) (wc : va_W) (sz : Nat) (U : State) : Prop := zPre D cI wc sz U ∧ zSt (va_A wc sz) U U.heap
theorem zPreX_blind {D : va_G} {cI : ClassId} {wc : va_W} {sz : Nat} {As : List Value} : FrameBlind (va_Pc As (zPreX D cI wc sz)) := by
  intro a U g mk q
  obtain ⟨q0, q1, q2⟩ := q
  exact ⟨q0, (zPre_blind (As := As) a U g mk ⟨q0, q1⟩).2, zSt_same (u := U) (U := U.calling g mk a) rfl q2⟩
def zXx (D : va_G) (A : Nat → Prop) (wc : va_W) (thr : Int32) (nms : List String) : String → State → State → Prop := vx_X (fun (_ : Unit) => True) (fun E _ t => (¬ thr = 0 ∧ E = zNm nms thr) ∧ zEnd D wc A t) A
def zX (l : Launch) (y : MethodName) (ws : List Cond) (rm : Room) (D : va_G) (cI : ClassId) (As : List Value) (wc w1 : va_W) (thr : Int32) (nms : List String) (v : Int32) : Prop :=
  ∀ sz : Nat, vx_Met l y ws rm (va_Pc As (zPreX D cI wc sz)) (va_Qi (fun (r : Int32) (_ : Unit) => thr = 0 ∧ r = v) (fun _ t => zEnd D w1 (va_A wc sz) t) (va_A wc sz)) (zXx D (va_A wc sz) wc thr nms) 1 6 (va_A wc sz)
def zXq (D : va_G) (A : Nat → Prop) (wc w1 : va_W) (thr : Int32) (nms : List String) (v : Int32) (below : List Frame) (args : Array Value) (s : State) : State → Prop :=
  vx_MQ below (va_Qi (fun (r : Int32) (_ : Unit) => thr = 0 ∧ r = v) (fun _ t => zEnd D w1 A t) A) (zXx D A wc thr nms) args s 1 6 A
theorem zX_of {l : Launch} {y : MethodName} {ws ws' : List Cond} {rm : Room} {D : va_G} {cI : ClassId} {As : List Value} {wc w1 : va_W} {cc : ByteArray} {maxL : Nat} {ret : Option FieldType} {thr v : Int32} {nms : List String} (hy : plainName y.cls = true) (hw : ws = Cond.code y cc maxL ret :: ws') (hlen : (lg_sl As).length ≤ maxL)
    (body : ∀ (p : Program) (e : Env) (s : State) (m : MethodId) (below : List Frame) (meth : Method) (c : Code) (A : Nat → Prop) (ls : Array Slot), zAt p s m meth c D cI y cc maxL ret ws As.toArray A wc → zSt A s s.heap → (∀ x ∈ c.exceptionTable.toList, False) → lv_has ls maxL (lv_args 0 As) → W p l e rm s m As.toArray below meth c s.heap [] 0 0 (zXq D A wc w1 thr nms v below As.toArray s) (F0 m 0 ls [])) : zX l y ws rm D cI As wc w1 thr nms v := by
  intro sz
  refine vx_ofW (cc := cc) (maxL := maxL) (ret := ret) hy hw ?_
  intro p e s m args below meth c s₁ B hml h0 hv
  obtain ⟨rfl, ⟨hsz, hP, hK, hD0, hN⟩, hst⟩ := hv
  subst hsz
  rw [lg_entry_eq]
  exact body p e s m below meth c _ _ ⟨B.exec, B.bytes, B.returns, hml, findClass_of_methodNamed B.named, atoms_spec (ws := ws) B.pre, B.notSynchronized, hK, hN, fun q h => Or.inr h, hP, hD0.self (sz := s.heap.size), va_S.rf⟩ hst h0 (lv_entry As hlen)
section ZX
variable {p : Program} {l : Launch} {e : Env} {R : Room} {s : State} {m : MethodId} {args : Array Value} {below : List Frame} {meth : Method} {c : Code} {H : Heap} {locs : List Loc} {cells slots : Nat} {Q : State → Prop}
variable {D : va_G} {cI : ClassId} {A : Nat → Prop} {H0 : Heap} {pc : Nat} {ls : Array Slot} {st0 rest : List Value} {ww pre wc post w1 : va_W} {cc : ByteArray} {thr v : Int32} {nms : List String}
theorem zX_ret {x : Int32} {ty : FieldType} (hx : p.tables.exec = Jvm.exec) (hb : c.code = cc) (hr : meth.sig.returnType = some ty) (hlocks : meth.locks = false) (hP : va_P D vwCl w1 H) (hD : va_D A w1) (hS : va_S A s.heap H locs) (hn : narrow ty (.int x) = .int x) (ht : thr = 0) (hv : x = v) (hdg : decode cc pc = .ok (.ireturn, 1)) (hc : cells ≤ 1) (hs : slots ≤ 6) : W p l e R s m args below meth c H locs cells slots (zXq D A wc w1 thr nms v below args s) (F0 m pc ls [.int x]) := by
  refine W.widen (k := 1) (n := 6) hc hs ?_
  refine vx_ret ?_
  exact W.zret (hlocks := hlocks) hx hb hr hn (fun t ht9 _ => ⟨⟨x, (), rfl, ⟨ht, hv⟩, by rw [ht9]; exact hP, hD⟩, hS.F ht9⟩) hS.2.2 hdg
theorem zEnd_kept {s t : State} (hP : va_P D vwCl wc H) (hD : va_D A wc) (h1 : H.size ≤ t.heap.size) (h2 : ∀ q : Nat, q < H.size → t.heap[q]? = H[q]?) : zEnd D wc A t := ⟨fun k q hk => z_at (hP k q hk) (h2 _ (vx_lt hP hk)), hD⟩
theorem zX_throw {X text : String} {ik is ic : Nat} (hx : p.tables.exec = Jvm.exec) (hb : c.code = cc) (hl : l.stackTraces = false) (hX : X ∈ zEx) (hown : s.vm.findClass RX3 = some m.cls) (hcls : Bundle.fit X = true)
    (hk : (Cond.classLink RX3 ik X).before args s = true) (hini : (Cond.initialized X).before args s = true) (hstr : (is, text) ∈ zStr) (hat : ∀ w ∈ (vx_atS RX3 ic X zNames).filter goodWord, w.before args s = true)
    (hbad : ∀ w ∈ (vx_atS RX3 ic X zNames).filter (fun w => !goodWord w), w ∈ [Cond.declares (Bundle.initS "java/lang/RuntimeException"), Cond.declares (Bundle.initS "java/lang/Exception"), Cond.declares (Bundle.initS Bundle.tN), Cond.castable X X])
    (hgood : ∀ w ∈ Cond.classLink RX3 ik X :: Cond.initialized X :: vx_atS RX3 ic X zNames, vx_ot w = true)
    (hst : zSt A s s.heap) (hS : va_S A s.heap H locs) (hsize : ls.size = c.maxLocals) (d0 : decode cc pc = .ok (.new ik, 3)) (d3 : decode cc (pc + 3) = .ok (.dup, 1)) (d4 : decode cc (pc + 4) = .ok (.ldc is, 2)) (d6 : decode cc (pc + 6) = .ok (.invokespecial ic, 3)) (d9 : decode cc (pc + 9) = .ok (.athrow, 1))
    (h0 : ∀ x ∈ c.exceptionTable.toList, False) (hRf : 5 < R.frames) (hRl : (rest.map fun v => v.category).sum + 82 ≤ R.locals) (hRc : cells + 1 ≤ R.cells) (hRs : slots + 6 ≤ R.slots) (hlocks : meth.locks = false)
    (hP : va_P D vwCl wc H) (hD : va_D A wc) (ht : ¬ thr = 0) (hE : X = zNm nms thr) (hc : cells + 1 ≤ 1) (hs : slots + 6 ≤ 6) : W p l e R s m args below meth c H locs cells slots (zXq D A wc w1 thr nms v below args s) (F0 m pc ls rest) := by
  obtain ⟨hU, hN9, hT, hC, hX9⟩ := hst
  obtain ⟨sa, hsa⟩ := hT _ hstr
  have hbads : ∀ w ∈ [Cond.declares (Bundle.initS "java/lang/RuntimeException"), Cond.declares (Bundle.initS "java/lang/Exception"), Cond.declares (Bundle.initS Bundle.tN), Cond.castable X X], w.before args s = true := vx_c (va_Nw.use rfl (hC _ (by decide))) (vx_c (va_Nw.use rfl (hC _ (by decide))) (vx_c (va_Nw.use rfl (hC _ (by decide))) (vx_c (va_Nw.use rfl (hX9 _ hX)) vx_n)))
  refine vx_throwS (cls := X) (text := text) (names := zNames) (ik := ik) (is := is) (ic := ic) (sa := sa) (A := A) hx hb hl hown hcls (by decide) hk hini hsa (vx_hat hat hbad hbads) hgood hU hN9 hS hsize d0 d3 d4 d6 d9 (fun x h => (h0 x h).elim) hRf hRl hRc hRs hlocks (fun t ha h1 h2 => ⟨(), trivial, ⟨⟨ht, hE⟩, zEnd_kept (s := s) hP hD h1 h2⟩, ?_⟩) hS.2.2 hc hs
  exact ⟨Nat.le_trans hS.1 h1, fun q hq hA => (h2 q (Nat.lt_of_lt_of_le hq hS.1)).trans (hS.2.1 q hq hA)⟩
variable {y : MethodName} {bytes : ByteArray} {maxL nL n index ci q0 : Nat} {ret : Option FieldType} {ws : List Cond} {rm : Room} {Ts : List Cond} {own C : String} {b : Addr} {As : List Value} {q : vw_C} {fs : List Value}
/-- a virtual call of a method that may throw -/
theorem zX_V (S : CallFix p m c cc nL s args Ts own) (hM : zX l y ws rm D cI (.ref b :: As) wc w1 thr nms v) (cw : CallW R s args own C index y bytes maxL ret ws rm 1 6 n) (hw : ww = pre ++ wc ++ post) (hK : va_K D vwCl [(cI, .int)] s) (hN : zN s) (hst : zSt A s H0) (hc : vwCl[ci]? = some q) (hq : q.1 = C) (he : wc[q0]? = some (b, .inr (ci, fs)))
    (hP : va_P D vwCl ww H) (hD : va_D A ww) (hS : va_S A H0 H locs) (hA : ∀ q, H0.size ≤ q → A q) (hn : As.length = n) (hsize : ls.size = nL) (hst0 : st0 = As.reverse ++ .ref b :: rest) (hW : (rest.map fun v => v.category).sum ≤ 8) (hdg : decode cc pc = .ok (.invokevirtual index, 3)) (hcs : cells + 1 ≤ R.cells ∧ slots + 6 ≤ R.slots)
    (kx : ¬ thr = 0 → ∀ (ce : Cell) (q9 : Addr) (H1 : Heap) (locs1 : List Loc), va_P D vwCl (pre ++ wc ++ post) H1 → va_D A (pre ++ wc ++ post) → va_S A H0 H1 locs1 → H1[q9]? = some ce → ce.vm = .none → s.vm.findClass (zNm nms thr) = some ce.cls → vx_W p l e R s m args below meth c H1 locs1 (cells + 1) (slots + 6) Q (F0 m pc ls rest) q9)
    (kk : thr = 0 → ∀ (H1 : Heap) (locs1 : List Loc), va_P D vwCl (pre ++ w1 ++ post) H1 → va_D A (pre ++ w1 ++ post) → va_S A H0 H1 locs1 → W p l e R s m args below meth c H1 locs1 (cells + 1) (slots + 6) Q (F0 m (pc + 3) ls (.int v :: rest))) : W p l e R s m args below meth c H locs cells slots Q (F0 m pc ls st0) := by
  subst hst0
  have hPc := z_P hw hP
  have hF := z_F hw hD hS hA
  have hsz : zSt (va_A wc H.size) s H := zSt_narrow (zSt_kept hst (fun a ha hna => hS.2.1 a ha hna)) hF
  refine vx_calli (vx_runV (As := As) (rest := rest) S (hM H.size) cw ⟨zPreX_blind, by rw [← hq]; exact va_recv hK hPc hc he, fun U hU hW => ⟨rfl, zPre_at hU hW hK hN hPc (z_D hw hD), by rw [hU]; exact zSt_warm hW hsz⟩⟩ rfl hn hsize rfl (lv_room hW) hdg hcs) hS (fun q _ h => hF q h) hF (fun q _ h => hF q h) (fun E ce q9 u t H1 locs1 ht _ _ hB _ hk hS1 h7 h8 h9 => ?_) (fun r u t H1 locs1 ht _ hp hB _ hk hS1 => ?_)
  · obtain ⟨⟨hne, rfl⟩, hP1, hD1⟩ := hB
    rw [ht] at hP1
    obtain ⟨hP2, hD2⟩ := z_join hw hP hD hk hF hP1 hD1
    exact kx hne ce q9 H1 locs1 hP2 hD2 hS1 h7 h8 h9
  · obtain ⟨hP1, hD1⟩ := hB
    rw [ht] at hP1
    obtain ⟨hP2, hD2⟩ := z_join hw hP hD hk hF hP1 hD1
    rw [hp.2]
    exact kk hp.1 H1 locs1 hP2 hD2 hS1
end ZX

/-! contracts of methods that answer a double and may draw -/
def zD (l : Launch) (y : MethodName) (ws : List Cond) (rm : Room) (D : va_G) (cI : ClassId) (As : List Value) (wc w1 : va_W) (v : UInt64) : Prop :=
  ∀ sz : Nat, MetD lw_cs l y ws rm (va_Pc As (zPre D cI wc sz)) (va_Qd (fun (r : UInt64) (_ : Unit) => alike64 r v = true) (fun _ t => zEnd D w1 (va_A wc sz) t) (va_A wc sz)) 0 0 (va_A wc sz)
def zDq (D : va_G) (A : Nat → Prop) (w1 : va_W) (v : UInt64) (below : List Frame) (args : Array Value) (s : State) : State → Prop :=
  MQD lw_cs below (va_Qd (fun (r : UInt64) (_ : Unit) => alike64 r v = true) (fun _ t => zEnd D w1 A t) A) args s 0 0 A
theorem zN_d {s : State} (h : zN s) (d : Drawn) : zN (s.setDrawn d) := ⟨va_Nw.same (u := s) (U := s.setDrawn d) rfl rfl h.1, va_Nw.same (u := s) (U := s.setDrawn d) rfl rfl h.2⟩
theorem zD_of {l : Launch} {y : MethodName} {ws ws' : List Cond} {rm : Room} {D : va_G} {cI : ClassId} {As : List Value} {wc w1 : va_W} {cc : ByteArray} {maxL : Nat} {ret : Option FieldType} {v : UInt64} (hy : plainName y.cls = true) (hw : ws = Cond.code y cc maxL ret :: ws') (hlen : (lg_sl As).length ≤ maxL)
    (body : ∀ (p : Program) (e : Env) (s : State) (m : MethodId) (below : List Frame) (meth : Method) (c : Code) (A : Nat → Prop) (ls : Array Slot), zAt p (s.setDrawn s.drawn) m meth c D cI y cc maxL ret ws As.toArray A wc → s.drawn.sameBut s.drawn lw_cs → lv_has ls maxL (lv_args 0 As) → W p l e rm (s.setDrawn s.drawn) m As.toArray below meth c s.heap [] 0 0 (zDq D A w1 v below As.toArray s) (F0 m 0 ls [])) : zD l y ws rm D cI As wc w1 v := by
  intro sz
  refine MetD.ofW (cc := cc) (maxL := maxL) (ret := ret) hy hw ?_
  intro p e s m args below meth c s₁ B hml hv hd0
  obtain ⟨rfl, hsz, hP, hK, hD0, hN⟩ := hv
  subst hsz
  rw [lg_entry_eq]
  exact body p e s m below meth c _ _ ⟨B.exec, B.bytes, B.returns, hml, findClass_of_methodNamed B.named, dr_words (atoms_spec (ws := ws) B.pre) _, B.notSynchronized, hK, zN_d hN _, fun q h => Or.inr h, hP, hD0.self (sz := s.heap.size), va_S.rf⟩ hd0 (lv_entry As hlen)
section ZD
variable {p : Program} {l : Launch} {e : Env} {R : Room} {s : State} {m : MethodId} {args : Array Value} {below : List Frame} {meth : Method} {c : Code} {H : Heap} {locs : List Loc} {Q : State → Prop}
variable {D : va_G} {cI : ClassId} {A : Nat → Prop} {H0 : Heap} {pc : Nat} {ls : Array Slot} {st0 rest : List Value} {ww pre wc post w1 : va_W} {cc : ByteArray} {v : UInt64} {d0 : Drawn}
theorem zD_ret {x : UInt64} (hd0 : s.drawn.sameBut d0 lw_cs) (hx : p.tables.exec = Jvm.exec) (hb : c.code = cc) (hr : meth.sig.returnType = some .double) (hlocks : meth.locks = false) (hP : va_P D vwCl w1 H) (hD : va_D A w1) (hS : va_S A s.heap H locs) (hv : alike64 x v = true) (hdg : decode cc pc = .ok (.dreturn, 1)) : W p l e R (s.setDrawn d0) m args below meth c H locs 0 0 (zDq D A w1 v below args s) (F0 m pc ls [.double x]) := by
  refine W.endD hd0 ?_
  exact W.dret (hlocks := hlocks) hx hb hr (fun t ht _ => ⟨⟨x, (), rfl, hv, by rw [ht]; exact hP, hD⟩, hS.F ht⟩) hS.2.2 hdg
variable {cells slots : Nat} {y : MethodName} {bytes : ByteArray} {maxL nL n index ci q0 : Nat} {ret : Option FieldType} {ws : List Cond} {rm : Room} {Ts : List Cond} {own C : String} {b : Addr} {As : List Value} {q : vw_C} {fs : List Value}
theorem zD_V (hd0 : s.drawn.sameBut d0 lw_cs) (S : CallFix p m c cc nL (s.setDrawn d0) args Ts own) (hM : zD l y ws rm D cI (.ref b :: As) wc w1 v) (cw : CallW R (s.setDrawn d0) args own C index y bytes maxL ret ws rm 0 0 n) (hw : ww = pre ++ wc ++ post) (hK : va_K D vwCl [(cI, .int)] s) (hN : zN s) (hc : vwCl[ci]? = some q) (hq : q.1 = C) (he : wc[q0]? = some (b, .inr (ci, fs)))
    (hP : va_P D vwCl ww H) (hD : va_D A ww) (hS : va_S A H0 H locs) (hA : ∀ q, H0.size ≤ q → A q) (hn : As.length = n) (hsize : ls.size = nL) (hst : st0 = As.reverse ++ .ref b :: rest) (hW : (rest.map fun v => v.category).sum ≤ 8) (hdg : decode cc pc = .ok (.invokevirtual index, 3)) (hcs : cells ≤ R.cells ∧ slots ≤ R.slots)
    (kk : ∀ (r : UInt64) (H1 : Heap) (locs1 : List Loc), alike64 r v = true → va_P D vwCl (pre ++ w1 ++ post) H1 → va_D A (pre ++ w1 ++ post) → va_S A H0 H1 locs1 → ∀ d1 : Drawn, s.drawn.sameBut d1 lw_cs → W p l e R (s.setDrawn d1) m args below meth c H1 locs1 cells slots Q (F0 m (pc + 3) ls (.double r :: rest))) : W p l e R (s.setDrawn d0) m args below meth c H locs cells slots Q (F0 m pc ls st0) := by
  subst hst
  have hPc := z_P hw hP
  have hF := z_F hw hD hS hA
  refine va_calldD hd0 (va_runV_D (As := As) (rest := rest) S (hM H.size) cw ⟨zPre_blind, by rw [← hq]; exact va_recv (s := s) hK hPc hc he, fun U hU hW => ⟨rfl, zPre_at (s := s.setDrawn d0) hU hW hK (zN_d hN d0) hPc (z_D hw hD)⟩⟩ rfl hn hsize rfl (lv_room hW) hdg hcs) hS (fun q _ h => hF q h) hF (fun r u t H1 locs1 ht _ hp hB _ hk hS1 d1 hd1 => ?_)
  obtain ⟨hP1, hD1⟩ := hB
  rw [ht] at hP1
  obtain ⟨hP2, hD2⟩ := z_join hw hP hD hk hF hP1 hD1
  exact kk r H1 locs1 hp hP2 hD2 hS1 d1 hd1
end ZD

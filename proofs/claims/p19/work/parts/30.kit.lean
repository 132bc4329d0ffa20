/-! contracts whose end is one world and one answer: what they say, how they are begun, ended, called -/
theorem z_at {D : va_G} {cl : List vw_C} {q : Nat × va_E} {H H1 : Heap} (h : va_at D cl q H) (e : H1[q.1]? = H[q.1]?) : va_at D cl q H1 := by
  obtain ⟨a, x⟩ := q
  cases x with
  | inl x => exact e.trans h
  | inr o =>
    obtain ⟨r, h1, h2⟩ := h
    exact ⟨r, h1, h2.kept e⟩
/-- behind a call: what stands ahead of the callee's cells and behind them is as it was -/
theorem z_join {A0 : Nat → Prop} {D : va_G} {cl : List vw_C} {ws pre wc post w1 : va_W} {H H1 : Heap} (hw : ws = pre ++ wc ++ post) (hP : va_P D cl ws H) (hD : va_D A0 ws)
    (hk : ∀ q : Nat, q < H.size → ¬ va_A wc H.size q → H1[q]? = H[q]?) (hF : ∀ q, va_A wc H.size q → A0 q) (hP1 : va_P D cl w1 H1) (hD1 : va_D (va_A wc H.size) w1) : va_P D cl (pre ++ w1 ++ post) H1 ∧ va_D A0 (pre ++ w1 ++ post) := by
  subst hw
  have lt : ∀ {k : Nat} {q : Nat × va_E}, (pre ++ wc ++ post)[k]? = some q → q.1 < H.size := fun {k q} h => vx_lt hP h
  have hpre : ∀ {k : Nat}, k < pre.length → (pre ++ wc ++ post)[k]? = pre[k]? := fun {k} h => by
    rw [List.getElem?_append_left (by rw [List.length_append]; omega), List.getElem?_append_left h]
  have hpost : ∀ (k : Nat), (pre ++ wc ++ post)[pre.length + wc.length + k]? = post[k]? := fun k => by
    rw [List.getElem?_append_right (by rw [List.length_append]; omega), List.length_append]
    congr 1
    omega
  have hmid : ∀ {k : Nat}, k < wc.length → (pre ++ wc ++ post)[pre.length + k]? = wc[k]? := fun {k} h => by
    rw [List.getElem?_append_left (by rw [List.length_append]; omega), List.getElem?_append_right (by omega)]
    congr 1
    omega
  have inwc : ∀ {a : Nat} {i : Nat} {p : Nat × va_E}, (pre ++ wc ++ post)[i]? = some p → p.1 = a → va_A wc H.size a → pre.length ≤ i ∧ i < pre.length + wc.length := by
    intro a i p hp e h
    rcases h with ⟨k, x, hk⟩ | h
    · have hkl : k < wc.length := (List.getElem?_eq_some_iff.mp hk).1
      have h2 := hD.1 i (pre.length + k) p (a, x) hp (by rw [hmid hkl]; exact hk) e
      omega
    · have := lt hp
      omega
  -- a place of the new list is a place of the old one outside wc, or a place of w1
  have new : ∀ {i : Nat} {p : Nat × va_E}, (pre ++ w1 ++ post)[i]? = some p → (∃ j, (pre ++ wc ++ post)[j]? = some p ∧ (j < pre.length ∨ pre.length + wc.length ≤ j) ∧ (i < pre.length → j = i) ∧ (pre.length ≤ i → j = pre.length + wc.length + (i - (pre.length + w1.length)) ∧ pre.length + w1.length ≤ i)) ∨ (pre.length ≤ i ∧ i < pre.length + w1.length ∧ w1[i - pre.length]? = some p) := by
    intro i p h
    rcases Nat.lt_or_ge i pre.length with q | q
    · refine Or.inl ⟨i, ?_, Or.inl q, fun _ => rfl, fun h => by omega⟩
      rw [hpre q]
      rwa [List.getElem?_append_left (by rw [List.length_append]; omega), List.getElem?_append_left q] at h
    · rcases Nat.lt_or_ge i (pre.length + w1.length) with q2 | q2
      · refine Or.inr ⟨q, q2, ?_⟩
        rwa [List.getElem?_append_left (by rw [List.length_append]; omega), List.getElem?_append_right q] at h
      · refine Or.inl ⟨pre.length + wc.length + (i - (pre.length + w1.length)), ?_, Or.inr (by omega), fun h => by omega, fun _ => ⟨rfl, q2⟩⟩
        rw [hpost]
        rwa [List.getElem?_append_right (by rw [List.length_append]; omega), List.length_append] at h
  constructor
  · intro i p h
    rcases new h with ⟨j, hj, hside, -, -⟩ | ⟨-, -, h1⟩
    · refine z_at (hP j p hj) (hk _ (lt hj) (fun h => ?_))
      have := inwc hj rfl h
      omega
    · exact hP1 _ p h1
  · refine ⟨fun i j p q hp hq e => ?_, fun i p h => ?_⟩
    · rcases new hp with ⟨i1, hi1, hs1, ha1, hb1⟩ | ⟨u1, u2, h1⟩ <;> rcases new hq with ⟨j1, hj1, hs2, ha2, hb2⟩ | ⟨v1, v2, h2⟩
      · have h3 := hD.1 i1 j1 p q hi1 hj1 e
        rcases Nat.lt_or_ge i pre.length with c1 | c1 <;> rcases Nat.lt_or_ge j pre.length with c2 | c2
        · have := ha1 c1; have := ha2 c2; omega
        · have := ha1 c1; have := hb2 c2; omega
        · have := hb1 c1; have := ha2 c2; omega
        · have := hb1 c1; have := hb2 c2; omega
      · have h3 := inwc hi1 e (hD1.2 _ q h2)
        omega
      · have h3 := inwc hj1 e.symm (hD1.2 _ p h1)
        omega
      · have h3 := hD1.1 _ _ p q h1 h2 e
        omega
    · rcases new h with ⟨j, hj, -, -, -⟩ | ⟨-, -, h1⟩
      · exact hD.2 j p hj
      · exact hF _ (hD1.2 _ p h1)
theorem z_F {A0 : Nat → Prop} {ws pre wc post : va_W} {H0 H : Heap} {locs : List Loc} (hw : ws = pre ++ wc ++ post) (hD : va_D A0 ws) (hS : va_S A0 H0 H locs) (hA : ∀ q, H0.size ≤ q → A0 q) : ∀ q, va_A wc H.size q → A0 q := by
  subst hw
  intro q h
  rcases h with ⟨k, e, h⟩ | h
  · have hkl : k < wc.length := (List.getElem?_eq_some_iff.mp h).1
    refine hD.2 (pre.length + k) (q, e) ?_
    rw [List.getElem?_append_left (by rw [List.length_append]; omega), List.getElem?_append_right (by omega)]
    rw [show pre.length + k - pre.length = k by omega]
    exact h
  · exact hA q (Nat.le_trans hS.1 h)
theorem z_P {D : va_G} {cl : List vw_C} {ws pre wc post : va_W} {H : Heap} (hw : ws = pre ++ wc ++ post) (hP : va_P D cl ws H) : va_P D cl wc H := by
  subst hw
  intro k q h
  have hkl : k < wc.length := (List.getElem?_eq_some_iff.mp h).1
  refine hP (pre.length + k) q ?_
  rw [List.getElem?_append_left (by rw [List.length_append]; omega), List.getElem?_append_right (by omega)]
  rw [show pre.length + k - pre.length = k by omega]
  exact h
theorem z_D {A : Nat → Prop} {ws pre wc post : va_W} (hw : ws = pre ++ wc ++ post) (hD : va_D A ws) : va_D (fun _ => True) wc := by
  subst hw
  have h : ∀ {k : Nat} {q : Nat × va_E}, wc[k]? = some q → (pre ++ wc ++ post)[pre.length + k]? = some q := by
    intro k q h
    have hkl : k < wc.length := (List.getElem?_eq_some_iff.mp h).1
    rw [List.getElem?_append_left (by rw [List.length_append]; omega), List.getElem?_append_right (by omega)]
    rw [show pre.length + k - pre.length = k by omega]
    exact h
  refine ⟨fun i j p q hp hq e => ?_, fun _ _ _ => trivial⟩
  have := hD.1 _ _ p q (h hp) (h hq) e
  omega
-- the contract's start: the callee's cells, apart, in a heap of sz cells
/-- what the tables say of the one private method that a nest mate calls -/
def zN (U : State) : Prop := va_Nw (.methodLinkNest RX2 155 yX3_isWithin "PaddyTerraces") U ∧ va_Nw (.methodLinkNest RX3 30 yX1_init "PaddyTerraces") U
def zPre (D : va_G) (cI : ClassId) (wc : va_W) (sz : Nat) (U : State) : Prop := U.heap.size = sz ∧ va_P D vwCl wc U.heap ∧ va_K D vwCl [(cI, .int)] U ∧ va_D (fun _ => True) wc ∧ zN U
-- its end: one world
def zEnd (D : va_G) (w1 : va_W) (A : Nat → Prop) (t : State) : Prop := va_P D vwCl w1 t.heap ∧ va_D A w1
theorem zPre_blind {D : va_G} {cI : ClassId} {wc : va_W} {sz : Nat} {As : List Value} : FrameBlind (va_Pc As (zPre D cI wc sz)) := by
  intro a U g mk q
  obtain ⟨q0, q1, qP, qK, qD, qN⟩ := q
  exact ⟨q0, q1, qP, va_K.moved (u := U) (U := U.calling g mk a) (Vm.Alike.refl U.vm) qK, qD, ⟨va_Nw.same (u := U) (U := U.calling g mk a) rfl rfl qN.1, va_Nw.same (u := U) (U := U.calling g mk a) rfl rfl qN.2⟩⟩
theorem zPre_at {D : va_G} {cI : ClassId} {wc : va_W} {s U : State} {H : Heap} (hU : U.heap = H) (hW : s.WarmedH U.vm) (hK : va_K D vwCl [(cI, .int)] s) (hN : zN s) (hP : va_P D vwCl wc H) (hD : va_D (fun _ => True) wc) : zPre D cI wc H.size U := ⟨by rw [hU], by rw [hU]; exact hP, va_K.moved hW.alike hK, hD, ⟨va_Nw.warmM hW hN.1, va_Nw.warmM hW hN.2⟩⟩
def zI (l : Launch) (y : MethodName) (ws : List Cond) (rm : Room) (D : va_G) (cI : ClassId) (As : List Value) (wc w1 : va_W) (v : Int32) : Prop :=
  ∀ sz : Nat, Met l y ws rm (va_Pc As (zPre D cI wc sz)) (va_Qi (fun (r : Int32) (_ : Unit) => r = v) (fun _ t => zEnd D w1 (va_A wc sz) t) (va_A wc sz)) 0 0 (va_A wc sz)
def zV (l : Launch) (y : MethodName) (ws : List Cond) (rm : Room) (D : va_G) (cI : ClassId) (As : List Value) (wc w1 : va_W) : Prop :=
  ∀ sz : Nat, Met l y ws rm (va_Pc As (zPre D cI wc sz)) (va_Qv (fun (_ : Unit) => True) (fun _ t => zEnd D w1 (va_A wc sz) t) (va_A wc sz)) 0 0 (va_A wc sz)
def zL (l : Launch) (y : MethodName) (ws : List Cond) (rm : Room) (D : va_G) (cI : ClassId) (As : List Value) (wc w1 : va_W) (v : Int64) : Prop :=
  ∀ sz : Nat, Met l y ws rm (va_Pc As (zPre D cI wc sz)) (va_Ql (fun (r : Int64) (_ : Unit) => r = v) (fun _ t => zEnd D w1 (va_A wc sz) t) (va_A wc sz)) 0 0 (va_A wc sz)
def zIq (D : va_G) (A : Nat → Prop) (w1 : va_W) (v : Int32) (below : List Frame) (args : Array Value) (s : State) (mc ms : Nat) : State → Prop :=
  MQ below (va_Qi (fun (r : Int32) (_ : Unit) => r = v) (fun _ t => zEnd D w1 A t) A) args s mc ms A
def zVq (D : va_G) (A : Nat → Prop) (w1 : va_W) (below : List Frame) (args : Array Value) (s : State) (mc ms : Nat) : State → Prop :=
  MQ below (va_Qv (fun (_ : Unit) => True) (fun _ t => zEnd D w1 A t) A) args s mc ms A
def zLq (D : va_G) (A : Nat → Prop) (w1 : va_W) (v : Int64) (below : List Frame) (args : Array Value) (s : State) (mc ms : Nat) : State → Prop :=
  MQ below (va_Ql (fun (r : Int64) (_ : Unit) => r = v) (fun _ t => zEnd D w1 A t) A) args s mc ms A
/-- what holds at a method's entry -/
def zAt (p : Program) (s : State) (m : MethodId) (meth : Method) (c : Code) (D : va_G) (cI : ClassId) (y : MethodName) (cc : ByteArray) (maxL : Nat) (ret : Option FieldType) (ws : List Cond) (args : Array Value) (A : Nat → Prop) (wc : va_W) : Prop :=
  p.tables.exec = Jvm.exec ∧ c.code = cc ∧ meth.sig.returnType = ret ∧ c.maxLocals = maxL ∧ s.vm.findClass y.cls = some m.cls ∧ (∀ w ∈ ws, w.before args s = true) ∧ meth.locks = false ∧ va_K D vwCl [(cI, .int)] s ∧ zN s ∧ (∀ q, s.heap.size ≤ q → A q) ∧ va_P D vwCl wc s.heap ∧ va_D A wc ∧ va_S A s.heap s.heap []
section ZOF
variable {l : Launch} {y : MethodName} {ws ws' : List Cond} {rm : Room} {D : va_G} {cI : ClassId} {As : List Value} {wc w1 : va_W} {cc : ByteArray} {maxL : Nat} {ret : Option FieldType}
theorem zI_of {v : Int32} (hy : plainName y.cls = true) (hw : ws = Cond.code y cc maxL ret :: ws') (hlen : (lg_sl As).length ≤ maxL)
    (body : ∀ (p : Program) (e : Env) (s : State) (m : MethodId) (below : List Frame) (meth : Method) (c : Code) (A : Nat → Prop) (ls : Array Slot), zAt p s m meth c D cI y cc maxL ret ws As.toArray A wc → lv_has ls maxL (lv_args 0 As) → W p l e rm s m As.toArray below meth c s.heap [] 0 0 (zIq D A w1 v below As.toArray s 0 0) (F0 m 0 ls [])) : zI l y ws rm D cI As wc w1 v := by
  intro sz
  refine Met.ofW (cc := cc) (maxL := maxL) (ret := ret) hy hw ?_
  intro p e s m args below meth c s₁ B hml hv
  obtain ⟨rfl, hsz, hP, hK, hD0, hN⟩ := hv
  subst hsz
  rw [lg_entry_eq]
  exact body p e s m below meth c _ _ ⟨B.exec, B.bytes, B.returns, hml, findClass_of_methodNamed B.named, atoms_spec (ws := ws) B.pre, B.notSynchronized, hK, hN, fun q h => Or.inr h, hP, hD0.self (sz := s.heap.size), va_S.rf⟩ (lv_entry As hlen)
theorem zV_of (hy : plainName y.cls = true) (hw : ws = Cond.code y cc maxL ret :: ws') (hlen : (lg_sl As).length ≤ maxL)
    (body : ∀ (p : Program) (e : Env) (s : State) (m : MethodId) (below : List Frame) (meth : Method) (c : Code) (A : Nat → Prop) (ls : Array Slot), zAt p s m meth c D cI y cc maxL ret ws As.toArray A wc → lv_has ls maxL (lv_args 0 As) → W p l e rm s m As.toArray below meth c s.heap [] 0 0 (zVq D A w1 below As.toArray s 0 0) (F0 m 0 ls [])) : zV l y ws rm D cI As wc w1 := by
  intro sz
  refine Met.ofW (cc := cc) (maxL := maxL) (ret := ret) hy hw ?_
  intro p e s m args below meth c s₁ B hml hv
  obtain ⟨rfl, hsz, hP, hK, hD0, hN⟩ := hv
  subst hsz
  rw [lg_entry_eq]
  exact body p e s m below meth c _ _ ⟨B.exec, B.bytes, B.returns, hml, findClass_of_methodNamed B.named, atoms_spec (ws := ws) B.pre, B.notSynchronized, hK, hN, fun q h => Or.inr h, hP, hD0.self (sz := s.heap.size), va_S.rf⟩ (lv_entry As hlen)
theorem zL_of {v : Int64} (hy : plainName y.cls = true) (hw : ws = Cond.code y cc maxL ret :: ws') (hlen : (lg_sl As).length ≤ maxL)
    (body : ∀ (p : Program) (e : Env) (s : State) (m : MethodId) (below : List Frame) (meth : Method) (c : Code) (A : Nat → Prop) (ls : Array Slot), zAt p s m meth c D cI y cc maxL ret ws As.toArray A wc → lv_has ls maxL (lv_args 0 As) → W p l e rm s m As.toArray below meth c s.heap [] 0 0 (zLq D A w1 v below As.toArray s 0 0) (F0 m 0 ls [])) : zL l y ws rm D cI As wc w1 v := by
  intro sz
  refine Met.ofW (cc := cc) (maxL := maxL) (ret := ret) hy hw ?_
  intro p e s m args below meth c s₁ B hml hv
  obtain ⟨rfl, hsz, hP, hK, hD0, hN⟩ := hv
  subst hsz
  rw [lg_entry_eq]
  exact body p e s m below meth c _ _ ⟨B.exec, B.bytes, B.returns, hml, findClass_of_methodNamed B.named, atoms_spec (ws := ws) B.pre, B.notSynchronized, hK, hN, fun q h => Or.inr h, hP, hD0.self (sz := s.heap.size), va_S.rf⟩ (lv_entry As hlen)
end ZOF
section ZRET
variable {p : Program} {l : Launch} {e : Env} {R : Room} {s : State} {m : MethodId} {args : Array Value} {below : List Frame} {meth : Method} {c : Code} {H : Heap} {locs : List Loc} {cells slots : Nat}
variable {D : va_G} {A : Nat → Prop} {w1 : va_W} {cc : ByteArray} {pc : Nat} {ls : Array Slot}
theorem zI_ret {v x : Int32} {ty : FieldType} (hx : p.tables.exec = Jvm.exec) (hb : c.code = cc) (hr : meth.sig.returnType = some ty) (hlocks : meth.locks = false) (hP : va_P D vwCl w1 H) (hD : va_D A w1) (hS : va_S A s.heap H locs) (hn : narrow ty (.int x) = .int x) (hv : x = v) (hdg : decode cc pc = .ok (.ireturn, 1)) : W p l e R s m args below meth c H locs cells slots (zIq D A w1 v below args s cells slots) (F0 m pc ls [.int x]) :=
  W.zret (hlocks := hlocks) hx hb hr hn (fun t ht _ => ⟨⟨x, (), rfl, hv, by rw [ht]; exact hP, hD⟩, hS.F ht⟩) hS.2.2 hdg
theorem zV_ret (hx : p.tables.exec = Jvm.exec) (hb : c.code = cc) (hr : meth.sig.returnType = none) (hlocks : meth.locks = false) (hP : va_P D vwCl w1 H) (hD : va_D A w1) (hS : va_S A s.heap H locs) (hdg : decode cc pc = .ok (.return_, 1)) : W p l e R s m args below meth c H locs cells slots (zVq D A w1 below args s cells slots) (F0 m pc ls []) :=
  W.vret (hlocks := hlocks) hx hb hr (fun t ht _ => ⟨⟨(), rfl, trivial, by rw [ht]; exact hP, hD⟩, hS.F ht⟩) hS.2.2 hdg
theorem zL_ret {v x : Int64} (hx : p.tables.exec = Jvm.exec) (hb : c.code = cc) (hr : meth.sig.returnType = some .long) (hlocks : meth.locks = false) (hP : va_P D vwCl w1 H) (hD : va_D A w1) (hS : va_S A s.heap H locs) (hv : x = v) (hdg : decode cc pc = .ok (.lreturn, 1)) : W p l e R s m args below meth c H locs cells slots (zLq D A w1 v below args s cells slots) (F0 m pc ls [.long x]) :=
  W.lret (hlocks := hlocks) hx hb hr (fun t ht _ => ⟨⟨x, (), rfl, hv, by rw [ht]; exact hP, hD⟩, hS.F ht⟩) hS.2.2 hdg
end ZRET
section ZCALL
variable {p : Program} {l : Launch} {e : Env} {R : Room} {s : State} {m : MethodId} {args : Array Value} {below : List Frame} {meth : Method} {c : Code} {H : Heap} {locs : List Loc} {cells slots : Nat} {Q : State → Prop}
variable {D : va_G} {cI : ClassId} {A : Nat → Prop} {H0 : Heap} {pc : Nat} {ls : Array Slot} {st0 rest : List Value} {a : Array Value} {ww pre wc post w1 : va_W}
theorem zI_back {v : Int32} (hr : va_Run p l e R s m args below meth c H locs cells slots 0 0 (F0 m pc ls st0) rest (va_Qi (fun (r : Int32) (_ : Unit) => r = v) (fun _ t => zEnd D w1 (va_A wc H.size) t) (va_A wc H.size) a) (va_A wc H.size)) (hw : ww = pre ++ wc ++ post) (hP : va_P D vwCl ww H) (hD : va_D A ww) (hS : va_S A H0 H locs) (hA : ∀ q, H0.size ≤ q → A q)
    (kk : ∀ (H1 : Heap) (locs1 : List Loc), va_P D vwCl (pre ++ w1 ++ post) H1 → va_D A (pre ++ w1 ++ post) → va_S A H0 H1 locs1 → W p l e R s m args below meth c H1 locs1 cells slots Q (F0 m (pc + 3) ls (.int v :: rest))) : W p l e R s m args below meth c H locs cells slots Q (F0 m pc ls st0) := by
  have hF := z_F hw hD hS hA
  refine va_calli hr hS (fun q _ h => hF q h) hF (fun r u t H1 locs1 ht _ hp hB _ hk hS1 => ?_)
  obtain ⟨hP1, hD1⟩ := hB
  rw [ht] at hP1
  obtain ⟨hP2, hD2⟩ := z_join hw hP hD hk hF hP1 hD1
  rw [hp]
  exact kk H1 locs1 hP2 hD2 hS1
theorem zL_back {v : Int64} (hr : va_Run p l e R s m args below meth c H locs cells slots 0 0 (F0 m pc ls st0) rest (va_Ql (fun (r : Int64) (_ : Unit) => r = v) (fun _ t => zEnd D w1 (va_A wc H.size) t) (va_A wc H.size) a) (va_A wc H.size)) (hw : ww = pre ++ wc ++ post) (hP : va_P D vwCl ww H) (hD : va_D A ww) (hS : va_S A H0 H locs) (hA : ∀ q, H0.size ≤ q → A q)
    (kk : ∀ (H1 : Heap) (locs1 : List Loc), va_P D vwCl (pre ++ w1 ++ post) H1 → va_D A (pre ++ w1 ++ post) → va_S A H0 H1 locs1 → W p l e R s m args below meth c H1 locs1 cells slots Q (F0 m (pc + 3) ls (.long v :: rest))) : W p l e R s m args below meth c H locs cells slots Q (F0 m pc ls st0) := by
  have hF := z_F hw hD hS hA
  refine va_calll hr hS (fun q _ h => hF q h) hF (fun r u t H1 locs1 ht _ hp hB _ hk hS1 => ?_)
  obtain ⟨hP1, hD1⟩ := hB
  rw [ht] at hP1
  obtain ⟨hP2, hD2⟩ := z_join hw hP hD hk hF hP1 hD1
  rw [hp]
  exact kk H1 locs1 hP2 hD2 hS1
theorem zV_back (hr : va_Run p l e R s m args below meth c H locs cells slots 0 0 (F0 m pc ls st0) rest (va_Qv (fun (_ : Unit) => True) (fun _ t => zEnd D w1 (va_A wc H.size) t) (va_A wc H.size) a) (va_A wc H.size)) (hw : ww = pre ++ wc ++ post) (hP : va_P D vwCl ww H) (hD : va_D A ww) (hS : va_S A H0 H locs) (hA : ∀ q, H0.size ≤ q → A q)
    (kk : ∀ (H1 : Heap) (locs1 : List Loc), va_P D vwCl (pre ++ w1 ++ post) H1 → va_D A (pre ++ w1 ++ post) → va_S A H0 H1 locs1 → W p l e R s m args below meth c H1 locs1 cells slots Q (F0 m (pc + 3) ls rest)) : W p l e R s m args below meth c H locs cells slots Q (F0 m pc ls st0) := by
  have hF := z_F hw hD hS hA
  refine va_callv hr hS (fun q _ h => hF q h) hF (fun u t H1 locs1 ht _ _ hB _ hk hS1 => ?_)
  obtain ⟨hP1, hD1⟩ := hB
  rw [ht] at hP1
  obtain ⟨hP2, hD2⟩ := z_join hw hP hD hk hF hP1 hD1
  exact kk H1 locs1 hP2 hD2 hS1
variable {y : MethodName} {bytes cc : ByteArray} {maxL nL n index ci q0 : Nat} {ret : Option FieldType} {ws : List Cond} {rm : Room} {Ts : List Cond} {own C host : String} {b : Addr} {As : List Value} {q : vw_C} {fs : List Value}
/-- a virtual call of a method that answers an int -/
theorem zI_V {v : Int32} (S : CallFix p m c cc nL s args Ts own) (hM : zI l y ws rm D cI (.ref b :: As) wc w1 v) (cw : CallW R s args own C index y bytes maxL ret ws rm 0 0 n) (hw : ww = pre ++ wc ++ post) (hK : va_K D vwCl [(cI, .int)] s) (hN : zN s) (hc : vwCl[ci]? = some q) (hq : q.1 = C) (he : wc[q0]? = some (b, .inr (ci, fs)))
    (hP : va_P D vwCl ww H) (hD : va_D A ww) (hS : va_S A H0 H locs) (hA : ∀ q, H0.size ≤ q → A q) (hn : As.length = n) (hsize : ls.size = nL) (hst : st0 = As.reverse ++ .ref b :: rest) (hW : (rest.map fun v => v.category).sum ≤ 8) (hdg : decode cc pc = .ok (.invokevirtual index, 3)) (hcs : cells ≤ R.cells ∧ slots ≤ R.slots)
    (kk : ∀ (H1 : Heap) (locs1 : List Loc), va_P D vwCl (pre ++ w1 ++ post) H1 → va_D A (pre ++ w1 ++ post) → va_S A H0 H1 locs1 → W p l e R s m args below meth c H1 locs1 cells slots Q (F0 m (pc + 3) ls (.int v :: rest))) : W p l e R s m args below meth c H locs cells slots Q (F0 m pc ls st0) := by
  subst hst
  have hPc := z_P hw hP
  exact zI_back (va_runV (As := As) (rest := rest) S (hM H.size) cw ⟨zPre_blind, by rw [← hq]; exact va_recv hK hPc hc he, fun U hU hW => ⟨rfl, zPre_at hU hW hK hN hPc (z_D hw hD)⟩⟩ rfl hn hsize rfl (lv_room hW) hdg hcs) hw hP hD hS hA kk
theorem zV_V (S : CallFix p m c cc nL s args Ts own) (hM : zV l y ws rm D cI (.ref b :: As) wc w1) (cw : CallW R s args own C index y bytes maxL ret ws rm 0 0 n) (hw : ww = pre ++ wc ++ post) (hK : va_K D vwCl [(cI, .int)] s) (hN : zN s) (hc : vwCl[ci]? = some q) (hq : q.1 = C) (he : wc[q0]? = some (b, .inr (ci, fs)))
    (hP : va_P D vwCl ww H) (hD : va_D A ww) (hS : va_S A H0 H locs) (hA : ∀ q, H0.size ≤ q → A q) (hn : As.length = n) (hsize : ls.size = nL) (hst : st0 = As.reverse ++ .ref b :: rest) (hW : (rest.map fun v => v.category).sum ≤ 8) (hdg : decode cc pc = .ok (.invokevirtual index, 3)) (hcs : cells ≤ R.cells ∧ slots ≤ R.slots)
    (kk : ∀ (H1 : Heap) (locs1 : List Loc), va_P D vwCl (pre ++ w1 ++ post) H1 → va_D A (pre ++ w1 ++ post) → va_S A H0 H1 locs1 → W p l e R s m args below meth c H1 locs1 cells slots Q (F0 m (pc + 3) ls rest)) : W p l e R s m args below meth c H locs cells slots Q (F0 m pc ls st0) := by
  subst hst
  have hPc := z_P hw hP
  exact zV_back (va_runV (As := As) (rest := rest) S (hM H.size) cw ⟨zPre_blind, by rw [← hq]; exact va_recv hK hPc hc he, fun U hU hW => ⟨rfl, zPre_at hU hW hK hN hPc (z_D hw hD)⟩⟩ rfl hn hsize rfl (lv_room hW) hdg hcs) hw hP hD hS hA kk
theorem zL_V {v : Int64} (S : CallFix p m c cc nL s args Ts own) (hM : zL l y ws rm D cI (.ref b :: As) wc w1 v) (cw : CallW R s args own C index y bytes maxL ret ws rm 0 0 n) (hw : ww = pre ++ wc ++ post) (hK : va_K D vwCl [(cI, .int)] s) (hN : zN s) (hc : vwCl[ci]? = some q) (hq : q.1 = C) (he : wc[q0]? = some (b, .inr (ci, fs)))
    (hP : va_P D vwCl ww H) (hD : va_D A ww) (hS : va_S A H0 H locs) (hA : ∀ q, H0.size ≤ q → A q) (hn : As.length = n) (hsize : ls.size = nL) (hst : st0 = As.reverse ++ .ref b :: rest) (hW : (rest.map fun v => v.category).sum ≤ 8) (hdg : decode cc pc = .ok (.invokevirtual index, 3)) (hcs : cells ≤ R.cells ∧ slots ≤ R.slots)
    (kk : ∀ (H1 : Heap) (locs1 : List Loc), va_P D vwCl (pre ++ w1 ++ post) H1 → va_D A (pre ++ w1 ++ post) → va_S A H0 H1 locs1 → W p l e R s m args below meth c H1 locs1 cells slots Q (F0 m (pc + 3) ls (.long v :: rest))) : W p l e R s m args below meth c H locs cells slots Q (F0 m pc ls st0) := by
  subst hst
  have hPc := z_P hw hP
  exact zL_back (va_runV (As := As) (rest := rest) S (hM H.size) cw ⟨zPre_blind, by rw [← hq]; exact va_recv hK hPc hc he, fun U hU hW => ⟨rfl, zPre_at hU hW hK hN hPc (z_D hw hD)⟩⟩ rfl hn hsize rfl (lv_room hW) hdg hcs) hw hP hD hS hA kk
/-- a static call -/
theorem zI_S {v : Int32} (S : CallFix p m c cc nL s args Ts own) (hM : zI l y ws rm D cI As wc w1 v) (cw : CallB R s args own index y bytes maxL ret ws rm 0 0 n ∧ (Cond.static y).before args s = true) (hw : ww = pre ++ wc ++ post) (hK : va_K D vwCl [(cI, .int)] s) (hN : zN s)
    (hP : va_P D vwCl ww H) (hD : va_D A ww) (hS : va_S A H0 H locs) (hA : ∀ q, H0.size ≤ q → A q) (hn : As.length = n) (hsize : ls.size = nL) (hst : st0 = As.reverse ++ rest) (hW : (rest.map fun v => v.category).sum ≤ 8) (hdg : decode cc pc = .ok (.invokestatic index, 3)) (hcs : cells ≤ R.cells ∧ slots ≤ R.slots)
    (kk : ∀ (H1 : Heap) (locs1 : List Loc), va_P D vwCl (pre ++ w1 ++ post) H1 → va_D A (pre ++ w1 ++ post) → va_S A H0 H1 locs1 → W p l e R s m args below meth c H1 locs1 cells slots Q (F0 m (pc + 3) ls (.int v :: rest))) : W p l e R s m args below meth c H locs cells slots Q (F0 m pc ls st0) := by
  subst hst
  exact zI_back (va_runS (As := As) (rest := rest) S (hM H.size) cw ⟨zPre_blind, fun U hU hW => ⟨rfl, zPre_at hU hW hK hN (z_P hw hP) (z_D hw hD)⟩⟩ rfl hn hsize rfl (lv_room hW) hdg hcs) hw hP hD hS hA kk
theorem zV_S (S : CallFix p m c cc nL s args Ts own) (hM : zV l y ws rm D cI As wc w1) (cw : CallB R s args own index y bytes maxL ret ws rm 0 0 n ∧ (Cond.static y).before args s = true) (hw : ww = pre ++ wc ++ post) (hK : va_K D vwCl [(cI, .int)] s) (hN : zN s)
    (hP : va_P D vwCl ww H) (hD : va_D A ww) (hS : va_S A H0 H locs) (hA : ∀ q, H0.size ≤ q → A q) (hn : As.length = n) (hsize : ls.size = nL) (hst : st0 = As.reverse ++ rest) (hW : (rest.map fun v => v.category).sum ≤ 8) (hdg : decode cc pc = .ok (.invokestatic index, 3)) (hcs : cells ≤ R.cells ∧ slots ≤ R.slots)
    (kk : ∀ (H1 : Heap) (locs1 : List Loc), va_P D vwCl (pre ++ w1 ++ post) H1 → va_D A (pre ++ w1 ++ post) → va_S A H0 H1 locs1 → W p l e R s m args below meth c H1 locs1 cells slots Q (F0 m (pc + 3) ls rest)) : W p l e R s m args below meth c H locs cells slots Q (F0 m pc ls st0) := by
  subst hst
  exact zV_back (va_runS (As := As) (rest := rest) S (hM H.size) cw ⟨zPre_blind, fun U hU hW => ⟨rfl, zPre_at hU hW hK hN (z_P hw hP) (z_D hw hD)⟩⟩ rfl hn hsize rfl (lv_room hW) hdg hcs) hw hP hD hS hA kk
/-- a static call of a nest mate's private method, that has no world of its own -/
theorem zI_SN {v : Int32} (S : CallFix p m c cc nL s args Ts own) (hM : zI l y ws rm D cI As wc w1 v) (cw : va_CN R s args own index y host bytes maxL ret ws rm 0 0 n ∧ (Cond.static y).before args s = true ∧ True) (hw : ww = pre ++ wc ++ post) (hK : va_K D vwCl [(cI, .int)] s) (hN : zN s)
    (hP : va_P D vwCl ww H) (hD : va_D A ww) (hS : va_S A H0 H locs) (hA : ∀ q, H0.size ≤ q → A q) (hn : As.length = n) (hsize : ls.size = nL) (hst : st0 = As.reverse ++ rest) (hW : (rest.map fun v => v.category).sum ≤ 8) (hdg : decode cc pc = .ok (.invokestatic index, 3)) (hcs : cells ≤ R.cells ∧ slots ≤ R.slots)
    (kk : ∀ (H1 : Heap) (locs1 : List Loc), va_P D vwCl (pre ++ w1 ++ post) H1 → va_D A (pre ++ w1 ++ post) → va_S A H0 H1 locs1 → W p l e R s m args below meth c H1 locs1 cells slots Q (F0 m (pc + 3) ls (.int v :: rest))) : W p l e R s m args below meth c H locs cells slots Q (F0 m pc ls st0) := by
  subst hst
  exact zI_back (va_runSN (As := As) (rest := rest) S (hM H.size) cw ⟨zPre_blind, fun U hU hW => ⟨rfl, zPre_at hU hW hK hN (z_P hw hP) (z_D hw hD)⟩⟩ rfl hn hsize rfl (lv_room hW) hdg hcs) hw hP hD hS hA kk
end ZCALL
/-! contracts of methods that make cells: where they lie is said at the end -/
def zM {U : Type} (l : Launch) (y : MethodName) (ws : List Cond) (rm : Room) (D : va_G) (cI : ClassId) (As : List Value) (wc : va_W) (w1 : U → va_W) (ok : U → Prop) (mc ms : Nat) : Prop :=
  ∀ sz : Nat, Met l y ws rm (va_Pc As (zPre D cI wc sz)) (va_Qv (fun u : U => ok u) (fun u t => zEnd D (w1 u) (va_A wc sz) t) (va_A wc sz)) mc ms (va_A wc sz)
def zMq {U : Type} (D : va_G) (A : Nat → Prop) (w1 : U → va_W) (ok : U → Prop) (below : List Frame) (args : Array Value) (s : State) (mc ms : Nat) : State → Prop :=
  MQ below (va_Qv (fun u : U => ok u) (fun u t => zEnd D (w1 u) A t) A) args s mc ms A
theorem zM_of {U : Type} {l : Launch} {y : MethodName} {ws ws' : List Cond} {rm : Room} {D : va_G} {cI : ClassId} {As : List Value} {wc : va_W} {w1 : U → va_W} {ok : U → Prop} {mc ms : Nat} {cc : ByteArray} {maxL : Nat} {ret : Option FieldType} (hy : plainName y.cls = true) (hw : ws = Cond.code y cc maxL ret :: ws') (hlen : (lg_sl As).length ≤ maxL) (hni : y.name = "<init>")
    (body : ∀ (p : Program) (e : Env) (s : State) (m : MethodId) (below : List Frame) (meth : Method) (c : Code) (A : Nat → Prop) (ls : Array Slot), zAt p s m meth c D cI y cc maxL ret ws As.toArray A wc → meth.name = "<init>" → lv_has ls maxL (lv_args 0 As) → W p l e rm s m As.toArray below meth c s.heap [] 0 0 (zMq D A w1 ok below As.toArray s mc ms) (F0 m 0 ls [])) : zM l y ws rm D cI As wc w1 ok mc ms := by
  intro sz
  refine Met.ofW (cc := cc) (maxL := maxL) (ret := ret) hy hw ?_
  intro p e s m args below meth c s₁ B hml hv
  obtain ⟨rfl, hsz, hP, hK, hD0, hN⟩ := hv
  subst hsz
  rw [lg_entry_eq]
  have hin : meth.name = y.name := (name_of_methodNamed B.named B.method).1
  exact body p e s m below meth c _ _ ⟨B.exec, B.bytes, B.returns, hml, findClass_of_methodNamed B.named, atoms_spec (ws := ws) B.pre, B.notSynchronized, hK, hN, fun q h => Or.inr h, hP, hD0.self (sz := s.heap.size), va_S.rf⟩ (hin.trans hni) (lv_entry As hlen)
section ZM
variable {U : Type} {p : Program} {l : Launch} {e : Env} {R : Room} {s : State} {m : MethodId} {args : Array Value} {below : List Frame} {meth : Method} {c : Code} {H : Heap} {locs : List Loc} {cells slots : Nat} {Q : State → Prop}
variable {D : va_G} {cI : ClassId} {A : Nat → Prop} {H0 : Heap} {pc : Nat} {ls : Array Slot} {st0 rest : List Value} {ww pre wc post : va_W} {w1 : U → va_W} {ok : U → Prop}
theorem zM_ret {cc : ByteArray} (u : U) (hu : ok u) (hx : p.tables.exec = Jvm.exec) (hb : c.code = cc) (hr : meth.sig.returnType = none) (hlocks : meth.locks = false) (hP : va_P D vwCl (w1 u) H) (hD : va_D A (w1 u)) (hS : va_S A s.heap H locs) (hdg : decode cc pc = .ok (.return_, 1)) : W p l e R s m args below meth c H locs cells slots (zMq D A w1 ok below args s cells slots) (F0 m pc ls []) :=
  W.vret (hlocks := hlocks) hx hb hr (fun t ht _ => ⟨⟨u, rfl, hu, by rw [ht]; exact hP, hD⟩, hS.F ht⟩) hS.2.2 hdg
theorem zM_back {a : Array Value} {mc ms : Nat} (hr : va_Run p l e R s m args below meth c H locs cells slots mc ms (F0 m pc ls st0) rest (va_Qv (fun u : U => ok u) (fun u t => zEnd D (w1 u) (va_A wc H.size) t) (va_A wc H.size) a) (va_A wc H.size)) (hw : ww = pre ++ wc ++ post) (hP : va_P D vwCl ww H) (hD : va_D A ww) (hS : va_S A H0 H locs) (hA : ∀ q, H0.size ≤ q → A q)
    (kk : ∀ (u : U) (H1 : Heap) (locs1 : List Loc), ok u → va_P D vwCl (pre ++ w1 u ++ post) H1 → va_D A (pre ++ w1 u ++ post) → va_S A H0 H1 locs1 → W p l e R s m args below meth c H1 locs1 (cells + mc) (slots + ms) Q (F0 m (pc + 3) ls rest)) : W p l e R s m args below meth c H locs cells slots Q (F0 m pc ls st0) := by
  have hF := z_F hw hD hS hA
  refine va_callv hr hS (fun q _ h => hF q h) hF (fun u t H1 locs1 ht _ hu hB _ hk hS1 => ?_)
  obtain ⟨hP1, hD1⟩ := hB
  rw [ht] at hP1
  obtain ⟨hP2, hD2⟩ := z_join hw hP hD hk hF hP1 hD1
  exact kk u H1 locs1 hu hP2 hD2 hS1
variable {y : MethodName} {bytes cc : ByteArray} {maxL nL n index mc ms : Nat} {ws : List Cond} {rm : Room} {Ts : List Cond} {own host : String} {b : Addr} {As : List Value}
theorem zM_I (S : CallFix p m c cc nL s args Ts own) (hM : zM l y ws rm D cI (.ref b :: As) wc w1 ok mc ms) (cw : CallB R s args own index y bytes maxL none ws rm mc ms n ∧ y.name = "<init>" ∧ (Cond.instanceMethod y).before args s = true) (hw : ww = pre ++ wc ++ post) (hK : va_K D vwCl [(cI, .int)] s) (hN : zN s)
    (hP : va_P D vwCl ww H) (hD : va_D A ww) (hS : va_S A H0 H locs) (hA : ∀ q, H0.size ≤ q → A q) (hn : As.length = n) (hsize : ls.size = nL) (hst : st0 = As.reverse ++ .ref b :: rest) (hW : (rest.map fun v => v.category).sum ≤ 8) (hdg : decode cc pc = .ok (.invokespecial index, 3)) (hcs : cells + mc ≤ R.cells ∧ slots + ms ≤ R.slots)
    (kk : ∀ (u : U) (H1 : Heap) (locs1 : List Loc), ok u → va_P D vwCl (pre ++ w1 u ++ post) H1 → va_D A (pre ++ w1 u ++ post) → va_S A H0 H1 locs1 → W p l e R s m args below meth c H1 locs1 (cells + mc) (slots + ms) Q (F0 m (pc + 3) ls rest)) : W p l e R s m args below meth c H locs cells slots Q (F0 m pc ls st0) := by
  subst hst
  exact zM_back (va_runI (As := As) (rest := rest) S (hM H.size) cw ⟨zPre_blind, fun U hU hW => ⟨rfl, zPre_at hU hW hK hN (z_P hw hP) (z_D hw hD)⟩⟩ rfl hn hsize rfl (lv_room hW) hdg hcs) hw hP hD hS hA kk
theorem zM_IN (S : CallFix p m c cc nL s args Ts own) (hM : zM l y ws rm D cI (.ref b :: As) wc w1 ok mc ms) (cw : va_CN R s args own index y host bytes maxL none ws rm mc ms n ∧ y.name = "<init>" ∧ (Cond.instanceMethod y).before args s = true) (hw : ww = pre ++ wc ++ post) (hK : va_K D vwCl [(cI, .int)] s) (hN : zN s)
    (hP : va_P D vwCl ww H) (hD : va_D A ww) (hS : va_S A H0 H locs) (hA : ∀ q, H0.size ≤ q → A q) (hn : As.length = n) (hsize : ls.size = nL) (hst : st0 = As.reverse ++ .ref b :: rest) (hW : (rest.map fun v => v.category).sum ≤ 8) (hdg : decode cc pc = .ok (.invokespecial index, 3)) (hcs : cells + mc ≤ R.cells ∧ slots + ms ≤ R.slots)
    (kk : ∀ (u : U) (H1 : Heap) (locs1 : List Loc), ok u → va_P D vwCl (pre ++ w1 u ++ post) H1 → va_D A (pre ++ w1 u ++ post) → va_S A H0 H1 locs1 → W p l e R s m args below meth c H1 locs1 (cells + mc) (slots + ms) Q (F0 m (pc + 3) ls rest)) : W p l e R s m args below meth c H locs cells slots Q (F0 m pc ls st0) := by
  subst hst
  exact zM_back (va_runIN (As := As) (rest := rest) S (hM H.size) cw ⟨zPre_blind, fun U hU hW => ⟨rfl, zPre_at hU hW hK hN (z_P hw hP) (z_D hw hD)⟩⟩ rfl hn hsize rfl (lv_room hW) hdg hcs) hw hP hD hS hA kk
end ZM
/-- all rows of ints are of one class -/
theorem z_cI {D : va_G} {cl : List vw_C} {cI cA : ClassId} {U : State} (hK : va_K D cl ([(cI, .int)] ++ [(cA, .int)]) U) : cA = cI := by
  have h1 := (hK.2 0 (cI, .int) rfl).2
  have h2 := (hK.2 1 (cA, .int) rfl).2
  exact Option.some.inj (h2.symm.trans h1)
theorem z_ten (i : Nat) : nI i * 10 + Int32.ofInt 10 = nI (i + 1) * 10 := by
  have h1 : (10 : Int32) = nI 10 := rfl
  have h2 : Int32.ofInt 10 = nI 10 := rfl
  rw [h1, h2, pk_mul, pk_mul, nI_add]
  congr 1
  omega

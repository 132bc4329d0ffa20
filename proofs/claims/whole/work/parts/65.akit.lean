/-! contracts that answer an int or nothing, and make cells that are not kept -/
def zJ (l : Launch) (y : MethodName) (ws : List Cond) (rm : Room) (D : va_G) (cI : ClassId) (As : List Value) (wc w1 : va_W) (v : Int32) (mc ms : Nat) : Prop :=
  ∀ sz : Nat, Met l y ws rm (va_Pc As (zPre D cI wc sz)) (va_Qi (fun (r : Int32) (_ : Unit) => r = v) (fun _ t => zEnd D w1 (va_A wc sz) t) (va_A wc sz)) mc ms (va_A wc sz)
def zW (l : Launch) (y : MethodName) (ws : List Cond) (rm : Room) (D : va_G) (cI : ClassId) (As : List Value) (wc w1 : va_W) (mc ms : Nat) : Prop :=
  ∀ sz : Nat, Met l y ws rm (va_Pc As (zPre D cI wc sz)) (va_Qv (fun (_ : Unit) => True) (fun _ t => zEnd D w1 (va_A wc sz) t) (va_A wc sz)) mc ms (va_A wc sz)
section ZOF2
variable {l : Launch} {y : MethodName} {ws ws' : List Cond} {rm : Room} {D : va_G} {cI : ClassId} {As : List Value} {wc w1 : va_W} {cc : ByteArray} {maxL mc ms : Nat} {ret : Option FieldType}
theorem zJ_of {v : Int32} (hy : plainName y.cls = true) (hw : ws = Cond.code y cc maxL ret :: ws') (hlen : (lg_sl As).length ≤ maxL)
    (body : ∀ (p : Program) (e : Env) (s : State) (m : MethodId) (below : List Frame) (meth : Method) (c : Code) (A : Nat → Prop) (ls : Array Slot), zAt p s m meth c D cI y cc maxL ret ws As.toArray A wc → lv_has ls maxL (lv_args 0 As) → W p l e rm s m As.toArray below meth c s.heap [] 0 0 (zIq D A w1 v below As.toArray s mc ms) (F0 m 0 ls [])) : zJ l y ws rm D cI As wc w1 v mc ms := by
  intro sz
  refine Met.ofW (cc := cc) (maxL := maxL) (ret := ret) hy hw ?_
  intro p e s m args below meth c s₁ B hml hv
  obtain ⟨rfl, hsz, hP, hK, hD0, hN⟩ := hv
  subst hsz
  rw [lg_entry_eq]
  exact body p e s m below meth c _ _ ⟨B.exec, B.bytes, B.returns, hml, findClass_of_methodNamed B.named, atoms_spec (ws := ws) B.pre, B.notSynchronized, hK, hN, fun q h => Or.inr h, hP, hD0.self (sz := s.heap.size), va_S.rf⟩ (lv_entry As hlen)
theorem zW_of (hy : plainName y.cls = true) (hw : ws = Cond.code y cc maxL ret :: ws') (hlen : (lg_sl As).length ≤ maxL)
    (body : ∀ (p : Program) (e : Env) (s : State) (m : MethodId) (below : List Frame) (meth : Method) (c : Code) (A : Nat → Prop) (ls : Array Slot), zAt p s m meth c D cI y cc maxL ret ws As.toArray A wc → lv_has ls maxL (lv_args 0 As) → W p l e rm s m As.toArray below meth c s.heap [] 0 0 (zVq D A w1 below As.toArray s mc ms) (F0 m 0 ls [])) : zW l y ws rm D cI As wc w1 mc ms := by
  intro sz
  refine Met.ofW (cc := cc) (maxL := maxL) (ret := ret) hy hw ?_
  intro p e s m args below meth c s₁ B hml hv
  obtain ⟨rfl, hsz, hP, hK, hD0, hN⟩ := hv
  subst hsz
  rw [lg_entry_eq]
  exact body p e s m below meth c _ _ ⟨B.exec, B.bytes, B.returns, hml, findClass_of_methodNamed B.named, atoms_spec (ws := ws) B.pre, B.notSynchronized, hK, hN, fun q h => Or.inr h, hP, hD0.self (sz := s.heap.size), va_S.rf⟩ (lv_entry As hlen)
end ZOF2
section ZJ
variable {p : Program} {l : Launch} {e : Env} {R : Room} {s : State} {m : MethodId} {args : Array Value} {below : List Frame} {meth : Method} {c : Code} {H : Heap} {locs : List Loc} {cells slots mc ms : Nat} {Q : State → Prop}
variable {D : va_G} {cI : ClassId} {A : Nat → Prop} {H0 : Heap} {pc : Nat} {ls : Array Slot} {st0 rest : List Value} {ww pre wc post w1 : va_W} {cc : ByteArray}
theorem zJ_ret {v x : Int32} {ty : FieldType} (hx : p.tables.exec = Jvm.exec) (hb : c.code = cc) (hr : meth.sig.returnType = some ty) (hlocks : meth.locks = false) (hP : va_P D vwCl w1 H) (hD : va_D A w1) (hS : va_S A s.heap H locs) (hn : narrow ty (.int x) = .int x) (hv : x = v) (hdg : decode cc pc = .ok (.ireturn, 1)) (hc : cells ≤ mc) (hs : slots ≤ ms) : W p l e R s m args below meth c H locs cells slots (zIq D A w1 v below args s mc ms) (F0 m pc ls [.int x]) := by
  refine W.widen (k := mc) (n := ms) hc hs ?_
  exact zI_ret hx hb hr hlocks hP hD hS hn hv hdg
theorem zW_ret (hx : p.tables.exec = Jvm.exec) (hb : c.code = cc) (hr : meth.sig.returnType = none) (hlocks : meth.locks = false) (hP : va_P D vwCl w1 H) (hD : va_D A w1) (hS : va_S A s.heap H locs) (hdg : decode cc pc = .ok (.return_, 1)) (hc : cells ≤ mc) (hs : slots ≤ ms) : W p l e R s m args below meth c H locs cells slots (zVq D A w1 below args s mc ms) (F0 m pc ls []) := by
  refine W.widen (k := mc) (n := ms) hc hs ?_
  exact zV_ret hx hb hr hlocks hP hD hS hdg
variable {y : MethodName} {bytes : ByteArray} {maxL nL n index ci q0 : Nat} {ret : Option FieldType} {ws : List Cond} {rm : Room} {Ts : List Cond} {own C : String} {b : Addr} {As : List Value} {q : vw_C} {fs : List Value}
/-- a virtual call of a method that makes cells of its own -/
theorem zW_V (S : CallFix p m c cc nL s args Ts own) (hM : zW l y ws rm D cI (.ref b :: As) wc w1 mc ms) (cw : CallW R s args own C index y bytes maxL ret ws rm mc ms n) (hw : ww = pre ++ wc ++ post) (hK : va_K D vwCl [(cI, .int)] s) (hN : zN s) (hc : vwCl[ci]? = some q) (hq : q.1 = C) (he : wc[q0]? = some (b, .inr (ci, fs)))
    (hP : va_P D vwCl ww H) (hD : va_D A ww) (hS : va_S A H0 H locs) (hA : ∀ q, H0.size ≤ q → A q) (hn : As.length = n) (hsize : ls.size = nL) (hst : st0 = As.reverse ++ .ref b :: rest) (hW : (rest.map fun v => v.category).sum ≤ 8) (hdg : decode cc pc = .ok (.invokevirtual index, 3)) (hcs : cells + mc ≤ R.cells ∧ slots + ms ≤ R.slots)
    (kk : ∀ (H1 : Heap) (locs1 : List Loc), va_P D vwCl (pre ++ w1 ++ post) H1 → va_D A (pre ++ w1 ++ post) → va_S A H0 H1 locs1 → W p l e R s m args below meth c H1 locs1 (cells + mc) (slots + ms) Q (F0 m (pc + 3) ls rest)) : W p l e R s m args below meth c H locs cells slots Q (F0 m pc ls st0) := by
  subst hst
  have hPc := z_P hw hP
  have hF := z_F hw hD hS hA
  refine va_callv (va_runV (As := As) (rest := rest) S (hM H.size) cw ⟨zPre_blind, by rw [← hq]; exact va_recv hK hPc hc he, fun U hU hW => ⟨rfl, zPre_at hU hW hK hN hPc (z_D hw hD)⟩⟩ rfl hn hsize rfl (lv_room hW) hdg hcs) hS (fun q _ h => hF q h) hF (fun u t H1 locs1 ht _ _ hB _ hk hS1 => ?_)
  obtain ⟨hP1, hD1⟩ := hB
  rw [ht] at hP1
  obtain ⟨hP2, hD2⟩ := z_join hw hP hD hk hF hP1 hD1
  exact kk H1 locs1 hP2 hD2 hS1
theorem zJ_V {v : Int32} (S : CallFix p m c cc nL s args Ts own) (hM : zJ l y ws rm D cI (.ref b :: As) wc w1 v mc ms) (cw : CallW R s args own C index y bytes maxL ret ws rm mc ms n) (hw : ww = pre ++ wc ++ post) (hK : va_K D vwCl [(cI, .int)] s) (hN : zN s) (hc : vwCl[ci]? = some q) (hq : q.1 = C) (he : wc[q0]? = some (b, .inr (ci, fs)))
    (hP : va_P D vwCl ww H) (hD : va_D A ww) (hS : va_S A H0 H locs) (hA : ∀ q, H0.size ≤ q → A q) (hn : As.length = n) (hsize : ls.size = nL) (hst : st0 = As.reverse ++ .ref b :: rest) (hW : (rest.map fun v => v.category).sum ≤ 8) (hdg : decode cc pc = .ok (.invokevirtual index, 3)) (hcs : cells + mc ≤ R.cells ∧ slots + ms ≤ R.slots)
    (kk : ∀ (H1 : Heap) (locs1 : List Loc), va_P D vwCl (pre ++ w1 ++ post) H1 → va_D A (pre ++ w1 ++ post) → va_S A H0 H1 locs1 → W p l e R s m args below meth c H1 locs1 (cells + mc) (slots + ms) Q (F0 m (pc + 3) ls (.int v :: rest))) : W p l e R s m args below meth c H locs cells slots Q (F0 m pc ls st0) := by
  subst hst
  have hPc := z_P hw hP
  have hF := z_F hw hD hS hA
  refine va_calli (va_runV (As := As) (rest := rest) S (hM H.size) cw ⟨zPre_blind, by rw [← hq]; exact va_recv hK hPc hc he, fun U hU hW => ⟨rfl, zPre_at hU hW hK hN hPc (z_D hw hD)⟩⟩ rfl hn hsize rfl (lv_room hW) hdg hcs) hS (fun q _ h => hF q h) hF (fun r u t H1 locs1 ht _ hp hB _ hk hS1 => ?_)
  obtain ⟨hP1, hD1⟩ := hB
  rw [ht] at hP1
  obtain ⟨hP2, hD2⟩ := z_join hw hP hD hk hF hP1 hD1
  rw [hp]
  exact kk H1 locs1 hP2 hD2 hS1
end ZJ
/-! what setDay and clear leave, the first state -/
def mdy_V (m : sS) (i u v x : Int32) : Int32 := if is_w i 0 29 = 0 then 0 else if is_w u 0 60 = 0 then 0 else if is_w v 0 400 = 0 then 0 else if is_w x 0 20 = 0 then 0 else m 4 ((3 * i) + 1).toNatClampNeg
def mdy_r (m : sS) (i u v x : Int32) : sS := s_row m 4 (va_cpy (upd (upd (upd (fun _ => 0) 0 u) 1 v) 2 x) (m 4) (0 : Int32).toNatClampNeg (3 * i).toNatClampNeg (3 : Int32).toNatClampNeg)
def mdy_S (m : sS) (i u v x : Int32) : sS := if is_w i 0 29 = 0 then mfail m 1 else if is_w u 0 60 = 0 then mfail m 2 else if is_w v 0 400 = 0 then mfail m 2 else if is_w x 0 20 = 0 then mfail m 2 else mdy_r m i u v x
def m12 : Nat → Int32 := upd (upd (upd (upd (upd (upd (upd (upd (upd (upd (upd (upd (fun _ => 0) 0 0) 1 60) 2 2) 3 30) 4 0) 5 0) 6 0) 7 0) 8 0) 9 0) 10 0) 11 0
def mcl_1 (m : sS) : sS := itr (fun i T => s_put T 1 i.toNatClampNeg 0) 7 m
def mcl_2 (m : sS) (u v : Int32) : sS := itr (fun i T => s_put T 2 i.toNatClampNeg 1) 8 (s_put (s_put (mcl_1 m) 1 0 u) 1 1 v)
def mclr (m : sS) (u v : Int32) : sS := itr (fun i T => s_row T 3 (va_cpy m12 (T 3) (0 : Int32).toNatClampNeg (12 * i).toNatClampNeg (12 : Int32).toNatClampNeg)) 64 (mcl_2 m u v)
def mlay_S (m : sS) (u v : Int32) : sS := if is_w u 2 8 = 0 then mfail m 1 else if is_w v 2 8 = 0 then mfail m 1 else mclr m u v
def mlay_V (u v : Int32) : Int32 := if is_w u 2 8 = 0 then 0 else if is_w v 2 8 = 0 then 0 else u * v
def mwe0 : sS := itr (fun i T => s_put (s_put T 4 ((3 * i) + 1).toNatClampNeg 60) 4 ((3 * i) + 2).toNatClampNeg 3) 30 (fun _ _ => 0)
def mst0 : sS := mclr mwe0 4 4
def mad (q : Nat) (u : Nat → Nat) : Nat → Nat
  | 0 => q
  | n + 1 => u (n + 1)
theorem dp_e {i : Int32} (hi : ¬ is_w i 0 29 = 0) : ∃ k : Nat, k < 30 ∧ 3 * i = nI (3 * k) ∧ i = nI k := by
  obtain ⟨e, h1, -⟩ := isw_n hi (by decide)
  have h9 : (i.toNatClampNeg : Int) ≤ 29 := h1
  refine ⟨i.toNatClampNeg, by omega, ?_, e⟩
  have e3 : (3 : Int32) = nI 3 := rfl
  rw [e3]
  conv => lhs; rw [e]
  rw [pk_mul]
theorem dp_a {i : Int32} (hi : ¬ is_w i 0 29 = 0) : ¬ 3 * i < 0 := by
  obtain ⟨k, hk, e, -⟩ := dp_e hi
  rw [e]
  exact nI_pos (by omega)
theorem dp_b {i : Int32} (hi : ¬ is_w i 0 29 = 0) : (3 * i).toNatClampNeg + (3 : Int32).toNatClampNeg ≤ 90 := by
  obtain ⟨k, hk, e, -⟩ := dp_e hi
  rw [e, nI_clamp (by omega)]
  show 3 * k + 3 ≤ 90
  omega
theorem dp_1 {i : Int32} (hi : ¬ is_w i 0 29 = 0) : vp_in ((3 * i) + 1) 90 := by
  obtain ⟨k, hk, e, -⟩ := dp_e hi
  have e1 : (1 : Int32) = nI 1 := rfl
  rw [e, e1, nI_add]
  exact vp_in_nI (by omega) (by decide)
theorem ck_a {k : Nat} (h : k < 64) : ¬ 12 * nI k < 0 := by
  have e : (12 : Int32) = nI 12 := rfl
  rw [e, pk_mul]
  exact nI_pos (by omega)
theorem ck_b {k : Nat} (h : k < 64) : (12 * nI k).toNatClampNeg + (12 : Int32).toNatClampNeg ≤ 768 := by
  have e : 12 * nI k = nI (12 * k) := pk_mul 12 k
  rw [e, nI_clamp (by omega)]
  show 12 * k + 12 ≤ 768
  omega
theorem w3_in {k j : Nat} (hk : k < 30) (hj : j < 3) : vp_in ((3 * nI k) + nI j) 90 := by
  have e : 3 * nI k = nI (3 * k) := pk_mul 3 k
  rw [e, nI_add]
  exact vp_in_nI (by omega) (by decide)
/-! the reference's checksum -/
def md_1 (h w : Nat) (m : sS) : Int64 := itr (fun i d => d * 31 + (mi_count h w m i).toInt64) 9 443
def md_2 (h w : Nat) (m : sS) : Int64 := itr (fun i d => d * 31 + (m 2 i.toNatClampNeg).toInt64) w (md_1 h w m)
def md_3 (h w : Nat) (m : sS) : Int64 := itr (fun i d => d * 31 + (m 3 i.toNatClampNeg).toInt64) (12 * (h * w)) (md_2 h w m)
def md_4 (h w : Nat) (m : sS) : Int64 := itr (fun i d => d * 31 + (m 4 i.toNatClampNeg).toInt64) 90 (md_3 h w m)

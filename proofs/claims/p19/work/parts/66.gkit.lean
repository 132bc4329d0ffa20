/-! contracts over arrays of arrays whose end is one world and one int -/
def zIG (l : Launch) (y : MethodName) (ws : List Cond) (rm : Room) (D : va_G) (cI cR cF : ClassId) (As : List Value) (wc w1 : va_W) (v : Int32) : Prop :=
  ∀ sz : Nat, Met l y ws rm (va_Pc As (zPreG D cI cR cF wc sz)) (va_Qi (fun (r : Int32) (_ : Unit) => r = v) (fun _ t => zEnd D w1 (va_A wc sz) t) (va_A wc sz)) 0 0 (va_A wc sz)
theorem zIG_of {l : Launch} {y : MethodName} {ws ws' : List Cond} {rm : Room} {D : va_G} {cI cR cF : ClassId} {As : List Value} {wc w1 : va_W} {cc : ByteArray} {maxL : Nat} {ret : Option FieldType} {v : Int32} (hy : plainName y.cls = true) (hw : ws = Cond.code y cc maxL ret :: ws') (hlen : (lg_sl As).length ≤ maxL)
    (body : ∀ (p : Program) (e : Env) (s : State) (m : MethodId) (below : List Frame) (meth : Method) (c : Code) (A : Nat → Prop) (ls : Array Slot), zAt p s m meth c D cI y cc maxL ret ws As.toArray A wc → va_K D vwCl (zTy cI cR cF) s → zG s → lv_has ls maxL (lv_args 0 As) → W p l e rm s m As.toArray below meth c s.heap [] 0 0 (zIq D A w1 v below As.toArray s 0 0) (F0 m 0 ls [])) : zIG l y ws rm D cI cR cF As wc w1 v := by
  intro sz
  refine Met.ofW (cc := cc) (maxL := maxL) (ret := ret) hy hw ?_
  intro p e s m args below meth c s₁ B hml hv
  obtain ⟨rfl, ⟨hsz, hP, hK, hD0, hN⟩, hK3, hG⟩ := hv
  subst hsz
  rw [lg_entry_eq]
  exact body p e s m below meth c _ _ ⟨B.exec, B.bytes, B.returns, hml, findClass_of_methodNamed B.named, atoms_spec (ws := ws) B.pre, B.notSynchronized, hK, hN, fun q h => Or.inr h, hP, hD0.self (sz := s.heap.size), va_S.rf⟩ hK3 hG (lv_entry As hlen)
section ZGV
variable {p : Program} {l : Launch} {e : Env} {R : Room} {s : State} {m : MethodId} {args : Array Value} {below : List Frame} {meth : Method} {c : Code} {H : Heap} {locs : List Loc} {cells slots : Nat} {Q : State → Prop}
variable {D : va_G} {cI cR cF : ClassId} {A : Nat → Prop} {H0 : Heap} {pc : Nat} {ls : Array Slot} {st0 rest : List Value} {ww pre wc post w1 : va_W} {cc : ByteArray}
variable {y : MethodName} {bytes : ByteArray} {maxL nL n index ci q0 : Nat} {ret : Option FieldType} {ws : List Cond} {rm : Room} {Ts : List Cond} {own C : String} {b : Addr} {As : List Value} {q : vw_C} {fs : List Value}
theorem zIG_V {v : Int32} (S : CallFix p m c cc nL s args Ts own) (hM : zIG l y ws rm D cI cR cF (.ref b :: As) wc w1 v) (cw : CallW R s args own C index y bytes maxL ret ws rm 0 0 n) (hw : ww = pre ++ wc ++ post) (hK : va_K D vwCl (zTy cI cR cF) s) (hN : zN s) (hG : zG s) (hc : vwCl[ci]? = some q) (hq : q.1 = C) (he : wc[q0]? = some (b, .inr (ci, fs)))
    (hP : va_P D vwCl ww H) (hD : va_D A ww) (hS : va_S A H0 H locs) (hA : ∀ q, H0.size ≤ q → A q) (hn : As.length = n) (hsize : ls.size = nL) (hst : st0 = As.reverse ++ .ref b :: rest) (hW : (rest.map fun v => v.category).sum ≤ 8) (hdg : decode cc pc = .ok (.invokevirtual index, 3)) (hcs : cells ≤ R.cells ∧ slots ≤ R.slots)
    (kk : ∀ (H1 : Heap) (locs1 : List Loc), va_P D vwCl (pre ++ w1 ++ post) H1 → va_D A (pre ++ w1 ++ post) → va_S A H0 H1 locs1 → W p l e R s m args below meth c H1 locs1 cells slots Q (F0 m (pc + 3) ls (.int v :: rest))) : W p l e R s m args below meth c H locs cells slots Q (F0 m pc ls st0) := by
  subst hst
  have hPc := z_P hw hP
  exact zI_back (va_runV (As := As) (rest := rest) S (hM H.size) cw ⟨zPreG_blind, by rw [← hq]; exact va_recv hK hPc hc he, fun U hU hW => ⟨rfl, zPreG_at hU hW hK hN hG hPc (z_D hw hD)⟩⟩ rfl hn hsize rfl (lv_room hW) hdg hcs) hw hP hD hS hA kk
end ZGV
def smr (w : Nat) (G : Nat → Nat → Int32) (x t : Nat) (y : Int32) : Nat → Int32
  | 0 => y
  | n + 1 => smr w G x t y n + G (t * w + n) x
def smt (w : Nat) (G : Nat → Nat → Int32) (x : Nat) : Nat → Int32
  | 0 => 0
  | n + 1 => smr w G x n (smt w G x n) w
/-- the sum of all fields' number x, by rows, as one sum -/
theorem smt_one (w : Nat) (G : Nat → Nat → Int32) (x : Nat) {f : Nat → Int32} (e : ∀ i, G i x = f i) : ∀ h, h * w < 2 ^ 31 → smt w G x h = itr (fun i y => y + f i.toNatClampNeg) (h * w) 0 := by
  intro h
  induction h with
  | zero => intro _; rw [Nat.zero_mul]; rfl
  | succ h ih =>
    intro hw
    rw [Nat.succ_mul] at hw ⊢
    have key : ∀ n, n ≤ w → smr w G x h (smt w G x h) n = itr (fun i y => y + f i.toNatClampNeg) (h * w + n) 0 := by
      intro n
      induction n with
      | zero => intro _; exact ih (by omega)
      | succ n ihn =>
        intro hn
        show smr w G x h (smt w G x h) n + G (h * w + n) x = _
        rw [ihn (by omega), ← Nat.add_assoc, itr_s, nI_clamp (by omega), e]
    exact key w (Nat.le_refl w)

/-! the law's body: what holds at each of its rounds -/
theorem nan_64 {x : UInt64} (h : isNaN64 x = true) : FP.Core.val64 x = .nan := by
  rw [isNaN64_iff] at h
  refine (FP.Core.dIsNaN_iff x).mp ((FP.Core.isNaN_bits x).mpr ?_)
  have e : x.toNat &&& 0x7fffffffffffffff = x.toNat % 2 ^ 63 := Nat.and_two_pow_sub_one_eq_mod x.toNat 63
  rw [e] at h
  exact h
theorem dep_nan {r q : UInt64} (h : FP.Core.val64 r = .nan ∨ FP.Core.val64 q = .nan) : ¬ Op.cmpValue (FP.dcmp r q) .l = 0 := by
  have e : FP.dcmp r q = none := (FP.Core.dcmp_none r q).mpr h
  rw [e]
  decide
theorem dep_cmp {r q v : UInt64} (h1 : alike64 r v = true) (h2 : alike64 q v = true) : Op.cmpValue (FP.dcmp r q) .l = 0 ∨ (¬ Op.cmpValue (FP.dcmp r r) .l = 0 ∧ ¬ Op.cmpValue (FP.dcmp q q) .l = 0) := by
  unfold alike64 at h1 h2
  rw [Bool.or_eq_true, decide_eq_true_iff, Bool.and_eq_true] at h1 h2
  by_cases n : FP.Core.val64 v = .nan
  · refine Or.inr ⟨?_, ?_⟩
    · rcases h1 with rfl | ⟨h, -⟩
      · exact dep_nan (Or.inl n)
      · exact dep_nan (Or.inl (nan_64 h))
    · rcases h2 with rfl | ⟨h, -⟩
      · exact dep_nan (Or.inl n)
      · exact dep_nan (Or.inl (nan_64 h))
  · have e1 : r = v := by
      rcases h1 with h | ⟨-, h⟩
      · exact h
      · exact absurd (nan_64 h) n
    have e2 : q = v := by
      rcases h2 with h | ⟨-, h⟩
      · exact h
      · exact absurd (nan_64 h) n
    subst e1
    subst e2
    refine Or.inl ?_
    have e : FP.dcmp q q = some .eq := FP.Core.dcmp_self n
    rw [e]
    rfl
theorem zl_0 (a b : Nat → Int64) : zl 0 a b = a := if_pos rfl
theorem lg_same {a b : Int64} (h : a = b) : lg_cmp a b = 0 := by
  unfold lg_cmp
  rw [h, if_neg (by rw [gt_iff_lt]; exact Int64.lt_irrefl), if_pos rfl]
def lawA (s : State) : Nat → Prop := fun q => s.heap.size ≤ q
def lawG (p : Program) (s : State) (m : MethodId) (meth : Method) (c : Code) (sc L : Nat) (xs : Nat → Int32) (D : va_G) (cI cJ : ClassId) : Prop :=
  p.tables.exec = Jvm.exec ∧ c.code = code ∧ meth.sig.returnType = ret ∧ c.maxLocals = 9 ∧ s.vm.findClass RL = some m.cls ∧ (∀ w ∈ wsL_law, w.before #[Value.ref sc] s = true) ∧ va_X sc L xs s s.heap ∧ sc < s.heap.size ∧ meth.locks = false ∧ va_K D vwCl [(cI, .int), (cJ, .long)] s ∧ zN s ∧ zNc s ∧ zSt (lawA s) s s.heap
theorem lawG_d {p : Program} {s : State} {m : MethodId} {meth : Method} {c : Code} {sc L : Nat} {xs : Nat → Int32} {D : va_G} {cI cJ : ClassId} (h : lawG p s m meth c sc L xs D cI cJ) (d : Drawn) : lawG p (s.setDrawn d) m meth c sc L xs D cI cJ := by
  obtain ⟨hx, hb, hr, hml, hown, hts, hX, hbl, hlocks, hK, hN, hC, hst⟩ := h
  exact ⟨hx, hb, hr, hml, hown, dr_words hts d, va_X.moved (u := s) (U := s.setDrawn d) (Vm.Alike.refl s.vm) hX, hbl, hlocks, va_K.moved (u := s) (U := s.setDrawn d) (Vm.Alike.refl s.vm) hK, zN_d hN d, fun q hq => va_Nc.moved (u := s) (U := s.setDrawn d) (Vm.Alike.refl s.vm) (hC q hq), zSt_same (u := s) (U := s.setDrawn d) rfl hst⟩
def lawW (p : Program) (l : Launch) (e : Env) (s : State) (m : MethodId) (below : List Frame) (meth : Method) (c : Code) (sc : Nat) (D : va_G) (cI cJ : ClassId) (k b t d : Nat → Nat) (o : Nat) (pc i cells slots : Nat) : Prop :=
  ∀ (d0 : Drawn) (h w y : Nat) (M B S T O : sS) (g : Nat → Int64) (H : Heap) (locs : List Loc) (ls : Array Slot), s.drawn.sameBut d0 lw_cs → Rl h w y M S O → va_P D vwCl (oW k b t M ++ kW cI k M ++ bW k B ++ sW cI b S ++ sW cI t T ++ gW cJ o g ++ mW cI d O) H → va_D (lawA s) (oW k b t M ++ kW cI k M ++ bW k B ++ sW cI b S ++ sW cI t T ++ gW cJ o g ++ mW cI d O) → va_S (lawA s) s.heap H locs → lv_has ls 9 [(4, .int (nI i)), (3, .ref o), (2, .ref (d 0)), (1, .ref (k 0)), (0, .ref sc)] →
    W p l e room_1 (s.setDrawn d0) m #[Value.ref sc] below meth c H locs cells slots (lw_Z below #[Value.ref sc] s) (F0 m pc ls [])
section SLD
variable {p : Program} {l : Launch} {e : Env} {R : Room} {s : State} {m : MethodId} {args : Array Value} {below : List Frame} {meth : Method} {c : Code} {H : Heap} {locs : List Loc} {cells slots : Nat} {Q : State → Prop}
variable {cc : ByteArray} {A : Nat → Prop} {H0 : Heap} {pc : Nat} {ls : Array Slot} {rest : List Value}
theorem sld_k (hexec : p.tables.exec = Jvm.exec) (hb : c.code = cc) {b L : Nat} {xs : Nat → Int32} (hX : va_X b L xs s H0) (hbl : b < H0.size) (hbA : ¬ A b) (hS : va_S A H0 H locs) (k : Nat) {i x : Int32} (hi : i = nI k) (hk : k < L) (hL : L < 2 ^ 31) (hv : x = xs k) (hdg : decode cc pc = .ok (.iaload, 1)) (kk : W p l e R s m args below meth c H locs cells slots Q (F0 m (pc + 1) ls (.int x :: rest))) : W p l e R s m args below meth c H locs cells slots Q (F0 m pc ls (.int i :: .ref b :: rest)) := by
  refine va_sld hexec hb hX hbl hbA hS (i := i) (by rw [hi]; exact vp_in_nI hk hL) hdg ?_
  rw [hi, nI_clamp (by omega), ← hv]
  exact kk
end SLD

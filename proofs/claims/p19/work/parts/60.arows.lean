/-! arrays of arrays: the rows that make, read and write them; cells in any number, in their order -/
def zG (U : State) : Prop := (Cond.arrayOver (.array .int)).before #[] U = true ∧ (Cond.arrayOver (.array (.array .int))).before #[] U = true
theorem zG_moved {u U : State} (hvm : u.vm.Alike U.vm) (h : zG u) : zG U := ⟨over_moved hvm h.1, over_moved hvm h.2⟩
theorem zG_1 {U : State} {A : Array Value} (h : zG U) : (Cond.arrayOver (.array .int)).before A U = true := over_moved (Vm.Alike.refl _) h.1
theorem zG_2 {U : State} {A : Array Value} (h : zG U) : (Cond.arrayOver (.array (.array .int))).before A U = true := over_moved (Vm.Alike.refl _) h.2
theorem zG_s1 : (FieldType.array .int).toString = "[I" := by decide +kernel
theorem zG_s2 : "[" ++ (FieldType.array .int).toString = "[[I" := by decide +kernel
theorem zG_s2' : (FieldType.array (.array .int)).toString = "[[I" := by decide +kernel
theorem zG_s3 : "[" ++ (FieldType.array (.array .int)).toString = "[[[I" := by decide +kernel
theorem zG_s0 : "[" ++ FieldType.int.toString = "[I" := by decide +kernel
abbrev za_q (c : ClassId) (n : Nat) (f : Nat → Option Nat) : va_E := .inl (c, n, .inr (.inr (.inr (.inr f))))
abbrev za_i (c : ClassId) (n : Nat) (f : Nat → Int32) : va_E := .inl (c, n, .inl f)
/-- cells in any number, in their order -/
def rg (n : Nat) (c : Nat → Nat) (e : Nat → va_E) : va_W := (List.range n).map (fun i => (c i, e i))
theorem rg_len (n : Nat) (c : Nat → Nat) (e : Nat → va_E) : (rg n c e).length = n := by simp [rg]
theorem rg_at {n i : Nat} (c : Nat → Nat) (e : Nat → va_E) (h : i < n) : (rg n c e)[i]? = some (c i, e i) := by simp [rg, h]
theorem rg_get {X : va_W} {n i : Nat} (c : Nat → Nat) (e : Nat → va_E) (h : i < n) : (X ++ rg n c e)[X.length + i]? = some (c i, e i) := by
  rw [List.getElem?_append_right (by omega), show X.length + i - X.length = i by omega]
  exact rg_at c e h
theorem rg_L {X Y : va_W} {k : Nat} {x : Nat × va_E} (h : X[k]? = some x) : (X ++ Y)[k]? = some x := by
  rw [List.getElem?_append_left (List.getElem?_eq_some_iff.mp h).1]
  exact h
theorem rg_set0 {n i : Nat} (c : Nat → Nat) (e : Nat → va_E) (h : i < n) (x : va_E) : (rg n c e).set i (c i, x) = rg n c (va_up e i x) := by
  apply List.ext_getElem?
  intro j
  rw [List.getElem?_set]
  by_cases hj : i = j
  · subst hj
    rw [if_pos rfl, if_pos (by rw [rg_len]; exact h), rg_at _ _ h]
    simp [va_up]
  · rw [if_neg hj]
    by_cases hl : j < n
    · rw [rg_at _ _ hl, rg_at _ _ hl]
      simp [va_up, Ne.symm hj]
    · rw [List.getElem?_eq_none (by rw [rg_len]; omega), List.getElem?_eq_none (by rw [rg_len]; omega)]
theorem rg_set {X : va_W} {n i : Nat} (c : Nat → Nat) (e : Nat → va_E) (h : i < n) (x : va_E) : (X ++ rg n c e).set (X.length + i) (c i, x) = X ++ rg n c (va_up e i x) := by
  rw [List.set_append_right _ _ (by omega), show X.length + i - X.length = i by omega, rg_set0 _ _ h]
theorem rg_sL {X X' Y : va_W} {k : Nat} {x y : Nat × va_E} (h : X[k]? = some y) (e : X.set k x = X') : (X ++ Y).set k x = X' ++ Y := by
  rw [List.set_append_left _ _ (List.getElem?_eq_some_iff.mp h).1, e]
theorem rg_cong {n : Nat} {c c' : Nat → Nat} {e e' : Nat → va_E} (h : ∀ i, i < n → c i = c' i ∧ e i = e' i) : rg n c e = rg n c' e' := by
  unfold rg
  apply List.map_congr_left
  intro i hi
  have := h i (List.mem_range.mp hi)
  rw [this.1, this.2]
theorem rg_push (n : Nat) (c : Nat → Nat) (e : Nat → va_E) (q : Nat) (x : va_E) : rg n c e ++ [(q, x)] = rg (n + 1) (va_up c n q) (va_up e n x) := by
  have h1 : rg n c e = rg n (va_up c n q) (va_up e n x) := rg_cong (fun i hi => by simp [va_up, Nat.ne_of_lt hi])
  rw [h1]
  unfold rg
  rw [List.range_succ, List.map_append]
  simp [va_up]
theorem rg_0 (c : Nat → Nat) (e : Nat → va_E) : rg 0 c e = [] := rfl
/-- cells that change their places in the list -/
theorem z_Dsw {A : Nat → Prop} {X Y Z : va_W} (h : va_D A (X ++ Y ++ Z)) : va_D A (X ++ Z ++ Y) := by
  have q : ∀ i : Nat, (X ++ Z ++ Y)[i]? = (X ++ Y ++ Z)[if i < X.length then i else if i < X.length + Z.length then i + Y.length else if i < X.length + Z.length + Y.length then i - Z.length else i]? := by
    intro i
    by_cases h1 : i < X.length
    · rw [if_pos h1, List.append_assoc, List.append_assoc, List.getElem?_append_left h1, List.getElem?_append_left h1]
    · rw [if_neg h1]
      by_cases h2 : i < X.length + Z.length
      · rw [if_pos h2, List.getElem?_append_left (by rw [List.length_append]; exact h2), List.getElem?_append_right (by omega), List.getElem?_append_right (by rw [List.length_append]; omega), List.length_append]
        congr 1
        omega
      · rw [if_neg h2]
        by_cases h3 : i < X.length + Z.length + Y.length
        · rw [if_pos h3, List.getElem?_append_right (by rw [List.length_append]; omega), List.length_append, List.getElem?_append_left (by rw [List.length_append]; omega), List.getElem?_append_right (by omega)]
          congr 1
          omega
        · rw [if_neg h3, List.getElem?_eq_none (by simp only [List.length_append]; omega), List.getElem?_eq_none (by simp only [List.length_append]; omega)]
  refine h.by (fun i => if i < X.length then i else if i < X.length + Z.length then i + Y.length else if i < X.length + Z.length + Y.length then i - Z.length else i) (fun k x hk => ?_) (fun i j hi hj e => ?_)
  · show (X ++ Y ++ Z)[_]? = _
    rw [← q]
    exact hk
  · simp only [List.length_append] at hi hj
    split at e <;> split at e <;> (try split at e) <;> (try split at e) <;> (try split at e) <;> (try split at e) <;> omega
theorem z_Psw {D : va_G} {cl : List vw_C} {X Y Z : va_W} {H : Heap} (h : va_P D cl (X ++ Y ++ Z) H) : va_P D cl (X ++ Z ++ Y) H := z_Pap (z_Pap (z_Pl (z_Pl h)) (z_Pr h)) (z_Pr (z_Pl h))
section ZAR
variable {p : Program} {l : Launch} {e : Env} {R : Room} {s : State} {m : MethodId} {args : Array Value} {below : List Frame} {meth : Method} {c : Code} {H : Heap} {locs : List Loc} {cells slots : Nat} {Q : State → Prop}
variable {cc : ByteArray} {pc : Nat} {ls : Array Slot} {rest : List Value} {D : va_G} {cl : List vw_C} {A : Nat → Prop} {a : Nat} {tys : List (ClassId × FieldType)} {ws : va_W} {H0 : Heap}
theorem za_ald (hexec : p.tables.exec = Jvm.exec) (hb : c.code = cc) (hK : va_K D cl tys s) (hP : va_P D cl ws H) (q0 t0 : Nat) {cA : ClassId} {t : FieldType} {n v : Nat} {f : Nat → Option Nat} (ha : ws[q0]? = some (a, za_q cA n f)) (ht : tys[t0]? = some (cA, .array t)) {i : Int32} (hin : vp_in i n) (hv : f i.toNatClampNeg = some v) (hdg : decode cc pc = .ok (.aaload, 1))
    (kk : W p l e R s m args below meth c H locs cells slots Q (F0 m (pc + 1) ls (.ref v :: rest))) : W p l e R s m args below meth c H locs cells slots Q (F0 m pc ls (.int i :: .ref a :: rest)) := by
  have hlt : i.toNatClampNeg < n := Nat.not_le.mp fun q => hin (Or.inr q)
  have hr : (arrV cA n (fun j => va_rf (f j))).slots[i.toNatClampNeg]? = some (.ref v) := by rw [arrV_read _ _ hlt, hv]; rfl
  exact W.aald (v := .ref v) (ty := .array t) hexec hb (hP q0 _ ha) ((hK.2 t0 _ ht).1 n (fun j => va_rf (f j))) rfl (fun q => by cases q) (by show ¬ (i < 0 ∨ (arrV _ _ _).slots.size ≤ _); rw [arrV_size]; exact hin) hr rfl rfl hdg kk
theorem za_ast (hexec : p.tables.exec = Jvm.exec) (hb : c.code = cc) (hG : zG s) (hK : va_K D cl tys s) (hP : va_P D cl ws H) (hD : va_D A ws) (hS : va_S A H0 H locs) (q0 t0 qk t1 : Nat) {cA cB : ClassId} {n nv v : Nat} {g : Nat → Int32} {f : Nat → Option Nat} (ha : ws[q0]? = some (a, za_q cA n f)) (ht : tys[t0]? = some (cA, .array .int)) (hv : ws[qk]? = some (v, za_i cB nv g)) (ht1 : tys[t1]? = some (cB, .int)) {i : Int32} (hin : vp_in i n) (hdg : decode cc pc = .ok (.aastore, 1))
    (kk : ∀ (H1 : Heap) (locs1 : List Loc), va_P D cl (ws.set q0 (a, za_q cA n (va_up f i.toNatClampNeg (some v)))) H1 → va_D A (ws.set q0 (a, za_q cA n (va_up f i.toNatClampNeg (some v)))) → va_S A H0 H1 locs1 → W p l e R s m args below meth c H1 locs1 cells slots Q (F0 m (pc + 1) ls rest)) : W p l e R s m args below meth c H locs cells slots Q (F0 m pc ls (.ref v :: .int i :: .ref a :: rest)) := by
  have hlt : i.toNatClampNeg < n := Nat.not_le.mp fun q => hin (Or.inr q)
  have h0 : ¬ i < 0 := fun q => hin (Or.inl q)
  obtain ⟨comp, cR, kR, e1, -, e2, e3, e4⟩ := arrayOverA_spec (zG_1 (A := #[]) hG)
  have r0 : s.vm.findClass ("[" ++ (FieldType.array .int).toString) = some cA := (hK.2 t0 _ ht).2
  obtain rfl : cA = cR := Option.some.inj (r0.symm.trans e4)
  have r1 : s.vm.findClass ("[" ++ FieldType.int.toString) = some cB := (hK.2 t1 _ ht1).2
  obtain rfl : cB = comp := by
    rw [zG_s0] at r1
    rw [zG_s1] at e1
    exact Option.some.inj (r1.symm.trans e1)
  obtain ⟨-, kB, hkB, -, -⟩ := (hK.2 t1 _ ht1).1 nv (fun j => .int (g j))
  have hkB : s.vm.classes[cB]? = some kB := hkB
  refine W.aast hexec hb (hP q0 _ ha) (fun q h => by cases h) (fun h => by cases h) e2 e3 rfl hkB ⟨h0, by show _ < (arrV _ _ _).slots.size; rw [arrV_size]; exact hlt⟩ (hP qk _ hv) (fun q h => by cases h) hkB (Vm.assignable_self _ _) rfl rfl hdg fun H1 e z oq => ?_
  refine kk H1 _ (hP.set hD ha ?_ oq) (hD.set ha) (hS.put z oq (hD.2 q0 _ ha))
  show H1[a]? = some (vp_cell _ _)
  rw [e, vp_cell_q, vp_cell_q, arrV_store]
  congr 2
  funext q
  by_cases hq : q = i.toNatClampNeg
  · subst hq
    simp [updV, va_up, va_rf]
  · simp [updV, va_up, hq]
theorem za_newR (hexec : p.tables.exec = Jvm.exec) (hb : c.code = cc) {own : String} {index : Nat} (hown : s.vm.findClass own = some m.cls) (hclink : (Cond.classLink own index "[I").before args s = true) (hG : zG s) (hK : va_K D cl tys s) (t0 : Nat) {cR : ClassId} (ht : tys[t0]? = some (cR, .array .int)) (hP : va_P D cl ws H) (hD : va_D A ws) (hS : va_S A H0 H locs) (hA : ∀ q, H0.size ≤ q → A q)
    {n : Int32} {N' : Nat} (hn : ¬ n < 0) (hN : n.toNatClampNeg = N') (hbytes : N' * 4 ≤ 536870912) (hcells : cells + 1 ≤ R.cells) (hslots : slots + N' ≤ R.slots) (hdg : decode cc pc = .ok (.anewarray index, 3))
    (kk : ∀ (q : Nat) (H1 : Heap), va_P D cl (ws ++ [(q, za_q cR N' (fun _ => none))]) H1 → va_D A (ws ++ [(q, za_q cR N' (fun _ => none))]) → va_S A H0 H1 locs → W p l e R s m args below meth c H1 locs (cells + 1) (slots + N') Q (F0 m (pc + 3) ls (.ref q :: rest))) : W p l e R s m args below meth c H locs cells slots Q (F0 m pc ls (.int n :: rest)) := by
  subst hN
  refine W.anewA (t := .int) hexec hb hown (by rw [zG_s1]; exact hclink) (zG_1 hG) rfl hdg rfl hn hbytes hcells hslots fun cA kA comp f1 f2 f3 f4 => ?_
  have r0 : s.vm.findClass ("[" ++ (FieldType.array .int).toString) = some cR := (hK.2 t0 _ ht).2
  obtain rfl : cA = cR := Option.some.inj (f1.symm.trans r0)
  rw [arrV_new]
  have o1 : ∀ q : Nat, q < H.size → (H.push (arrV cA n.toNatClampNeg (fun _ => .null)))[q]? = H[q]? := fun q hq => by rw [Array.getElem?_push, if_neg (Nat.ne_of_lt hq)]
  have hk : ∀ (k : Nat) (x : Nat × va_E), ws[k]? = some x → (H.push (arrV cA n.toNatClampNeg (fun _ => .null)))[x.1]? = H[x.1]? := fun k x hx => o1 x.1 ((hP k x hx).lt)
  refine kk H.size _ ((hP.kept hk).app (fun k x hx => ?_)) (hD.push hP rfl (hA _ hS.1)) ⟨Nat.le_trans hS.1 (by rw [Array.size_push]; omega), fun x h1 h2 => (o1 x (Nat.lt_of_lt_of_le h1 hS.1)).trans (hS.2.1 x h1 h2), hS.2.2⟩
  match k, hx with
  | 0, hx =>
    cases hx
    show (H.push _)[H.size]? = some (vp_cell _ _)
    rw [Array.getElem?_push_size]
    rfl
  | k + 1, hx => simp at hx
end ZAR
/-! an array of n arrays of k places, made at once -/
def mq_out (o : ClassId) (n h0 i : Nat) : Cell := arrV o n (fun j => if j < i then .ref (h0 + 1 + j) else .null)
def mq_row (r : ClassId) (k : Nat) : Cell := arrV r k (fun _ => .null)
theorem mq_put (o : ClassId) (n h0 i : Nat) : (mq_out o n h0 i).setSlot i (.ref (h0 + 1 + i)) = mq_out o n h0 (i + 1) := by
  unfold mq_out
  rw [arrV_store]
  congr 1
  funext j
  unfold updV
  by_cases e : j = i
  · rw [if_pos e, if_pos (by omega), e]
  · rw [if_neg e]
    show (if j < i then Value.ref (h0 + 1 + j) else Value.null) = _
    by_cases h : j < i
    · rw [if_pos h, if_pos (by omega)]
    · rw [if_neg h, if_neg (by omega)]
/-- the state when i of the inner arrays stand -/
def mq_st (T : State) (o r : ClassId) (n k : Nat) : Nat → State
  | 0 => T.pushCell (mq_out o n T.heap.size 0)
  | i + 1 => ((mq_st T o r n k i).pushCell (mq_row r k)).setCell T.heap.size (mq_out o n T.heap.size (i + 1))
theorem mq_facts (T : State) (o r : ClassId) (n k : Nat) : ∀ i, (mq_st T o r n k i).heap.size = T.heap.size + 1 + i ∧ (mq_st T o r n k i).heap[T.heap.size]? = some (mq_out o n T.heap.size i) ∧ (mq_st T o r n k i).vm = T.vm ∧ (mq_st T o r n k i).slotsUsed = T.slotsUsed + n + i * k ∧ (∀ a : Nat, a < T.heap.size → (mq_st T o r n k i).heap[a]? = T.heap[a]?) ∧ ∀ j, j < i → (mq_st T o r n k i).heap[T.heap.size + 1 + j]? = some (mq_row r k) := by
  intro i
  induction i with
  | zero => exact ⟨by simp [mq_st], by simp [mq_st], rfl, by simp [mq_st, mq_out, arrV_size], fun a ha => State.heap_pushCell_of_lt _ _ ha, fun j hj => absurd hj (Nat.not_lt_zero _)⟩
  | succ i ih =>
    obtain ⟨h1, h2, h3, h4, h5, h6⟩ := ih
    have hlt : T.heap.size < (mq_st T o r n k i).heap.size := by rw [h1]; omega
    have b : ((mq_st T o r n k i).pushCell (mq_row r k)).heap[T.heap.size]? = some (mq_out o n T.heap.size i) := by rw [State.heap_pushCell_of_lt (h := hlt)]; exact h2
    refine ⟨?_, State.heap_setCell_self b, by simp [mq_st, h3], ?_, fun a ha => ?_, fun j hj => ?_⟩
    · simp [mq_st, State.setCell, h1]
      omega
    · simp [mq_st, h4, mq_row, arrV_size, Nat.succ_mul]
      omega
    · show (((mq_st T o r n k i).pushCell (mq_row r k)).setCell T.heap.size _).heap[a]? = _
      have hla : a < (mq_st T o r n k i).heap.size := by rw [h1]; omega
      rw [State.heap_setCell_other (Nat.ne_of_gt ha), State.heap_pushCell_of_lt (h := hla)]
      exact h5 a ha
    · show (((mq_st T o r n k i).pushCell (mq_row r k)).setCell T.heap.size _).heap[T.heap.size + 1 + j]? = _
      rw [State.heap_setCell_other (show T.heap.size ≠ T.heap.size + 1 + j by omega)]
      by_cases hl : j < i
      · have hla : T.heap.size + 1 + j < (mq_st T o r n k i).heap.size := by rw [h1]; omega
        rw [State.heap_pushCell_of_lt (h := hla)]
        exact h6 j hl
      · rw [show T.heap.size + 1 + j = (mq_st T o r n k i).heap.size by rw [h1]; omega]
        exact State.heap_pushCell_size _ _
theorem mq_top (s : State) (f : JFrame) (o r : ClassId) (n k : Nat) : ∀ i, mq_st (s.setTop f) o r n k i = (mq_st s o r n k i).setTop f := by
  intro i
  induction i with
  | zero => rfl
  | succ i ih => simp only [mq_st, ih, State.heap_setTop, State.pushCell_setTop, State.setCell_setTop]
theorem mq_stand {p : Program} {l : Launch} {e : Env} {R : Room} {s : State} {m : MethodId} {args : Array Value} {below : List Frame} {meth : Method} {c : Code} {T : State} {locs : List Loc} {cells slots : Nat} (X : Stand p l e R s m args below meth c T locs cells slots) (o r : ClassId) (n k : Nat) : ∀ i, Stand p l e R s m args below meth c (mq_st T o r n k i) locs (cells + 1 + i) (slots + n + i * k) := by
  intro i
  induction i with
  | zero =>
    have h := X.pushed (mq_out o n T.heap.size 0)
    rw [show (mq_out o n T.heap.size 0).slots.size = n from arrV_size _ _ _] at h
    simpa [mq_st] using h
  | succ i ih =>
    obtain ⟨h1, h2, -⟩ := mq_facts T o r n k i
    have hlt : T.heap.size < (mq_st T o r n k i).heap.size := by rw [h1]; omega
    have hc : ((mq_st T o r n k i).pushCell (mq_row r k)).heap[T.heap.size]? = some (mq_out o n T.heap.size i) := by rw [State.heap_pushCell_of_lt (h := hlt)]; exact h2
    have h := (ih.pushed (mq_row r k)).stored hc i (.ref (T.heap.size + 1 + i))
    rw [mq_put, show (mq_row r k).slots.size = k from arrV_size _ _ _] at h
    have h := Stand.dropFresh h (fun x hx => by rw [List.mem_singleton.mp hx]; exact X.heapGrown)
    rw [show slots + n + (i + 1) * k = slots + n + i * k + k by rw [Nat.succ_mul]; omega, show cells + 1 + (i + 1) = cells + 1 + i + 1 by omega]
    exact h
section MQW
variable {E : CtlPost} {e : Env} {d : Bool} {acts : List Action} {s : State}
theorem mq_make {o r ci : ClassId} {ko kr : Class} {n k : Int32} (hko : s.vm.classes[o]? = some ko) (hoK : ko.kind = .array r (.array (.array .int))) (hkr : s.vm.classes[r]? = some kr) (hrK : kr.kind = .array ci (.array .int)) (hn : ¬ n < 0) (hk : ¬ k < 0)
    (hl1 : ¬ n.toNatClampNeg > e.platform.arrayLengthLimit) (hh1 : ¬ n.toNatClampNeg * 4 > e.platform.maxHeapBytes) (hl2 : ¬ k.toNatClampNeg > e.platform.arrayLengthLimit) (hh2 : ¬ k.toNatClampNeg * 4 > e.platform.maxHeapBytes)
    (hc : s.heap.size + 1 + n.toNatClampNeg ≤ e.platform.maxCells) (hs : s.slotsUsed + n.toNatClampNeg + n.toNatClampNeg * k.toNatClampNeg ≤ e.platform.maxSlots)
    {Q : Addr → Pre} (hq : ∀ d' acts', Q s.heap.size d' acts' (mq_st s o r n.toNatClampNeg k.toNatClampNeg n.toNatClampNeg)) : wp (multianewarray.make o [n, k]) Q E e d acts s := by
  have hfind : ([k].find? (· < 0)) = none := by simp [hk]
  rw [multianewarray.make]
  simp only [wp_bind', W.ite, hn, if_false, wp_pure', W.theClass, hko, hoK, Option.some.injEq, exists_eq_left']
  refine W.newArray_of hko hoK hl1 hh1 (by omega) (by omega) rfl (fun acts1 => ?_)
  simp only [hfind]
  rw [ite_self, wp_bind', Std.Legacy.Range.forIn_eq_forIn_range', arrV_new]
  rw [show ([:n.toNatClampNeg] : Std.Legacy.Range).size = n.toNatClampNeg by simp [Std.Legacy.Range.size]]
  show wp (forIn (List.range' 0 n.toNatClampNeg 1) PUnit.unit _) _ E e d _ _
  refine wp_forIn_inv (fun todo s' => ∃ i, i + todo.length = n.toNatClampNeg ∧ todo = List.range' i todo.length ∧ s' = mq_st s o r n.toNatClampNeg k.toNatClampNeg i) _ _ ⟨0, by simp, by simp, ?_⟩ ?_ ?_
  · simp [mq_st, mq_out]
  · rintro x rest s' d' acts' Q' ⟨i, hi, hl, rfl⟩ hnext
    rw [List.length_cons] at hi
    rw [List.length_cons, List.range'_succ] at hl
    obtain ⟨rfl, hrest⟩ : x = i ∧ rest = List.range' (i + 1) rest.length := ⟨(List.cons.inj hl).1, (List.cons.inj hl).2⟩
    obtain ⟨f1, f2, f3, f4, -, -⟩ := mq_facts s o r n.toNatClampNeg k.toNatClampNeg x
    have hmul : x * k.toNatClampNeg + k.toNatClampNeg ≤ n.toNatClampNeg * k.toNatClampNeg := by
      have := Nat.mul_le_mul_right k.toNatClampNeg (show x + 1 ≤ n.toNatClampNeg by omega)
      rw [Nat.succ_mul] at this
      exact this
    simp only [wp_bind']
    rw [multianewarray.make]
    simp only [wp_bind', W.ite, hk, if_false, wp_pure', W.theClass, f3, hkr, hrK, Option.some.injEq, exists_eq_left']
    refine W.newArray_of (by rw [f3]; exact hkr) hrK hl2 hh2 (by rw [f1]; omega) (by rw [f4]; omega) rfl (fun acts2 => ?_)
    rw [arrV_new]
    have hlt0 : s.heap.size < (mq_st s o r n.toNatClampNeg k.toNatClampNeg x).heap.size := by rw [f1]; omega
    simp only [wp_bind', W.writeLoc, wp_pure']
    refine ⟨mq_out o n.toNatClampNeg s.heap.size x, by rw [State.heap_pushCell_of_lt (h := hlt0)]; exact f2, by simp [mq_out, arrV], by rw [show (mq_out o n.toNatClampNeg s.heap.size x).slots.size = n.toNatClampNeg from arrV_size _ _ _]; omega, ?_, hnext _ _ _ ⟨x + 1, by omega, hrest, ?_⟩⟩
    · simp [State.fitsSlot, State.slotType?, mq_out, arrV, f3, hko, hoK, fits]
    · rw [f1, mq_put]
      rfl
  · rintro s' d' acts' ⟨i, hi, -, rfl⟩
    rw [show i = n.toNatClampNeg by simpa using hi]
    simp only [wp_pure']
    exact hq _ _
end MQW

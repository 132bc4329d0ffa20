/-! the row of an array of arrays made at once -/
section ZMU
variable {p : Program} {l : Launch} {e : Env} {R : Room} {s : State} {m : MethodId} {args : Array Value} {below : List Frame} {meth : Method} {c : Code} {H : Heap} {locs : List Loc} {cells slots : Nat} {Q : State → Prop}
variable {cc : ByteArray} {pc : Nat} {ls : Array Slot} {rest : List Value} {D : va_G} {cl : List vw_C} {A : Nat → Prop} {tys : List (ClassId × FieldType)} {ws : va_W} {H0 : Heap}
theorem za_multi (hexec : p.tables.exec = Jvm.exec) (hb : c.code = cc) {own : String} {index : Nat} (hown : s.vm.findClass own = some m.cls) (hclink : (Cond.classLink own index "[[[I").before args s = true) (hG : zG s) (hK : va_K D cl tys s) (tR tF : Nat) {cR cF : ClassId} (htR : tys[tR]? = some (cR, .array .int)) (htF : tys[tF]? = some (cF, .array (.array .int)))
    (hP : va_P D cl ws H) (hD : va_D A ws) (hS : va_S A H0 H locs) (hA : ∀ q, H0.size ≤ q → A q) {n k : Nat} (hn : n ≤ 1000) (hk : k ≤ 1000) (hcells : cells + 1 + n ≤ R.cells) (hslots : slots + n + n * k ≤ R.slots) (hdg : decode cc pc = .ok (.multianewarray index 2, 4))
    (kk : ∀ (q : Nat) (r : Nat → Nat) (H1 : Heap), va_P D cl (ws ++ [(q, za_q cF n (fun j => if j < n then some (r j) else none))] ++ rg n r (fun _ => za_q cR k (fun _ => none))) H1 → va_D A (ws ++ [(q, za_q cF n (fun j => if j < n then some (r j) else none))] ++ rg n r (fun _ => za_q cR k (fun _ => none))) → va_S A H0 H1 locs → W p l e R s m args below meth c H1 locs (cells + 1 + n) (slots + n + n * k) Q (F0 m (pc + 4) ls (.ref q :: rest))) :
    W p l e R s m args below meth c H locs cells slots Q (F0 m pc ls (.int (nI k) :: .int (nI n) :: rest)) := by
  intro T hT X
  subst hT
  subst hb
  have hpl : e.platform.magicAccessors = ({} : Platform).magicAccessors := by rw [X.admits.platform]
  obtain ⟨r', o, ko, e1, -, e2, e3, e4⟩ := arrayOverA_spec (zG_2 (A := #[]) hG)
  obtain ⟨ci, r'', kr, f1, -, f2, f3, f4⟩ := arrayOverA_spec (zG_1 (A := #[]) hG)
  have g1 : s.vm.findClass ("[" ++ (FieldType.array .int).toString) = some cR := (hK.2 tR _ htR).2
  have g2 : s.vm.findClass ("[" ++ (FieldType.array (.array .int)).toString) = some cF := (hK.2 tF _ htF).2
  rw [zG_s2'] at e1
  rw [zG_s2] at f4 g1
  rw [zG_s3] at e4 g2
  obtain rfl : r' = r'' := Option.some.inj (e1.symm.trans f4)
  obtain rfl : r' = cR := Option.some.inj (e1.symm.trans g1)
  obtain rfl : o = cF := Option.some.inj (e4.symm.trans g2)
  obtain ⟨c0, hfc0, hcl⟩ := Cond.classLink_spec hown hclink e.platform hpl
  obtain rfl : o = c0 := Option.some.inj (e4.symm.trans hfc0)
  obtain ⟨hg₁, hwarm₁, hready₁⟩ := State.classEntry (e := e) X.warmed hcl
  generalize T.vm.noted m.cls index (.cls o) = vm₁ at hg₁ hwarm₁ hready₁
  have hal : s.vm.Alike vm₁ := hwarm₁.alike
  obtain ⟨ko₁, hko₁, heo⟩ := hal.2.2 _ _ e2
  obtain ⟨kr₁, hkr₁, her⟩ := hal.2.2 _ _ f2
  have hoK : ko₁.kind = .array r' (.array (.array .int)) := by rw [heo]; exact e3
  have hrK : kr₁.kind = .array ci (.array .int) := by rw [her]; exact f3
  have X₁ := X.noted hwarm₁
  obtain ⟨hr1, hr2⟩ := X.roomAbove (a := 1 + n) (b := n + n * k) (by omega) (by omega)
  have XF := mq_stand X₁ o r' n k n
  obtain ⟨q1, q2, q3, q4, q5, q6⟩ := mq_facts (T.setVm vm₁) o r' n k n
  have hsz : (T.setVm vm₁).heap.size = T.heap.size := rfl
  rw [hsz] at q1 q2 q5 q6
  have hcn : (nI n).toNatClampNeg = n := nI_clamp (by omega)
  have hck : (nI k).toNatClampNeg = k := nI_clamp (by omega)
  have hP1 : va_P D cl (ws ++ [(T.heap.size, za_q o n (fun j => if j < n then some (T.heap.size + 1 + j) else none))] ++ rg n (fun j => T.heap.size + 1 + j) (fun _ => za_q r' k (fun _ => none))) (mq_st (T.setVm vm₁) o r' n k n).heap := by
    refine ((hP.kept (fun i x hx => q5 x.1 ((hP i x hx).lt))).app (fun i x hx => ?_)).app (fun i x hx => ?_)
    · match i, hx with
      | 0, hx =>
        cases hx
        show (mq_st (T.setVm vm₁) o r' n k n).heap[T.heap.size]? = some (vp_cell _ _)
        rw [q2, vp_cell_q]
        unfold mq_out
        congr 2
        funext j
        by_cases z : j < n
        · rw [if_pos z, if_pos z]; rfl
        · rw [if_neg z, if_neg z]; rfl
      | i + 1, hx => simp at hx
    · have hi : i < n := by
        have := (List.getElem?_eq_some_iff.mp hx).1
        rw [rg_len] at this
        exact this
      rw [rg_at _ _ hi] at hx
      cases hx
      show (mq_st (T.setVm vm₁) o r' n k n).heap[T.heap.size + 1 + i]? = some (vp_cell _ _)
      rw [q6 i hi]
      rfl
  have hlt : ∀ (i : Nat) (x : Nat × va_E), ws[i]? = some x → x.1 < T.heap.size := fun i x hx => (hP i x hx).lt
  have wh : ∀ (i : Nat) (x : Nat × va_E), (ws ++ [(T.heap.size, za_q o n (fun j => if j < n then some (T.heap.size + 1 + j) else none))] ++ rg n (fun j => T.heap.size + 1 + j) (fun _ => za_q r' k (fun _ => none)))[i]? = some x → (i < ws.length ∧ ws[i]? = some x) ∨ (ws.length ≤ i ∧ x.1 = T.heap.size + (i - ws.length)) := by
    intro i x hx
    by_cases h1 : i < ws.length
    · refine Or.inl ⟨h1, ?_⟩
      rw [List.getElem?_append_left (by rw [List.length_append]; omega), List.getElem?_append_left h1] at hx
      exact hx
    · refine Or.inr ⟨by omega, ?_⟩
      by_cases h2 : i = ws.length
      · subst h2
        rw [List.getElem?_append_left (by simp), List.getElem?_append_right (Nat.le_refl _), Nat.sub_self] at hx
        cases hx
        simp
      · have h3 := (List.getElem?_eq_some_iff.mp hx).1
        simp only [List.length_append, List.length_singleton, rg_len] at h3
        rw [List.getElem?_append_right (by simp only [List.length_append, List.length_singleton]; omega), List.length_append, List.length_singleton, rg_at _ _ (by omega)] at hx
        cases hx
        simp only []
        omega
  have hD1 : va_D A (ws ++ [(T.heap.size, za_q o n (fun j => if j < n then some (T.heap.size + 1 + j) else none))] ++ rg n (fun j => T.heap.size + 1 + j) (fun _ => za_q r' k (fun _ => none))) := by
    refine ⟨fun i j a b ha hb9 he => ?_, fun i a ha => ?_⟩
    · rcases wh i a ha with ⟨u1, u2⟩ | ⟨u1, u2⟩ <;> rcases wh j b hb9 with ⟨v1, v2⟩ | ⟨v1, v2⟩
      · exact hD.1 i j a b u2 v2 he
      · have := hlt i a u2
        omega
      · have := hlt j b v2
        omega
      · omega
    · rcases wh i a ha with ⟨u1, u2⟩ | ⟨u1, u2⟩
      · exact hD.2 i a u2
      · exact hA _ (by have := hS.1; omega)
  have hS1 : va_S A H0 (mq_st (T.setVm vm₁) o r' n k n).heap locs := ⟨by have := hS.1; omega, fun x h1 h2 => (q5 x (Nat.lt_of_lt_of_le h1 hS.1)).trans (hS.2.1 x h1 h2), hS.2.2⟩
  obtain ⟨t', a1, b1⟩ := kk _ _ _ hP1 hD1 hS1 _ rfl XF
  refine ⟨t', ?_, b1⟩
  have hl1 : ¬ (nI n).toNatClampNeg > e.platform.arrayLengthLimit := by rw [Launch.admits_arrayLengthLimit X.admits, hcn]; omega
  have hh1 : ¬ (nI n).toNatClampNeg * 4 > e.platform.maxHeapBytes := by rw [Launch.admits_maxHeapBytes X.admits, hcn]; omega
  have hl2 : ¬ (nI k).toNatClampNeg > e.platform.arrayLengthLimit := by rw [Launch.admits_arrayLengthLimit X.admits, hck]; omega
  have hh2 : ¬ (nI k).toNatClampNeg * 4 > e.platform.maxHeapBytes := by rw [Launch.admits_maxHeapBytes X.admits, hck]; omega
  obtain ⟨g, hg⟩ : ∃ g : JFrame, g = F0 m pc ls (.int (nI k) :: .int (nI n) :: rest) := ⟨_, rfl⟩
  have hgm : g.method = m := by rw [hg]
  have hgs : g.stack = .int (nI k) :: .int (nI n) :: rest := by rw [hg]
  have hgd : decode c.code g.pc = .ok (.multianewarray index 2, 4) := by rw [hg]; exact hdg
  have hge : F0 m (pc + 4) ls (.ref T.heap.size :: rest) = { g with pc := g.pc + 4, stack := .ref T.heap.size :: rest } := by rw [hg]
  rw [← hg]
  rw [hge] at a1
  clear hge hg kk
  subst hgm
  jvm_step X.here [hexec, hgd]
  simp only [multianewarray.sem, wp_bind', W.resolveClassAt_links (State.method?_setTop g X.here.top) hg₁]
  rw [W.popN, if_neg (by decide)]
  refine ⟨g, State.topJava?_setTop' (s := T.setVm vm₁) g X.here.top, [.int (nI n), .int (nI k)], rest, rfl, hgs, ?_⟩
  simp only [List.mapM_cons, List.mapM_nil, wp_bind', wp_pure']
  refine mq_make (ko := ko₁) (kr := kr₁) (r := r') (ci := ci) hko₁ hoK hkr₁ hrK (nI_pos (by omega)) (nI_pos (by omega)) hl1 hh1 hl2 hh2 (by show T.heap.size + 1 + _ ≤ _; rw [hcn]; omega) (by show T.slotsUsed + _ + _ ≤ _; rw [hcn, hck]; omega) (fun d' acts' => ?_)
  rw [hcn, hck]
  have eS : ((T.setTop g).setVm vm₁).setTop { g with stack := rest } = (T.setVm vm₁).setTop { g with stack := rest } := by
    show ((T.setVm vm₁).setTop g).setTop _ = _
    rw [State.setTop_setTop]
  rw [eS, mq_top]
  simp only [wp_bind', W.mark, W.pushRef, State.topJava?_setTop' _ XF.here.top, Option.some.injEq, exists_eq_left', State.setTop_setTop, State.heap_setTop]
  intro acts
  simp [jvm, XF.here.top]
  exact a1
end ZMU

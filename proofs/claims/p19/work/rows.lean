section
-- ===== PART A: goes FIRST, ahead of the names: the tables' words, and 'selects' of the private methods out of them =====
/-- a private method of a class that the tables say can be made, by its rows of tables_1 -/
def lw_okq (q : MethodName × Nat) : Prop := (q.1.cls ≠ "java/lang/invoke/MethodHandle" ∧ q.1.cls ≠ "java/lang/invoke/VarHandle") ∧ Cond.instantiable q.1.cls q.2 ∈ tables_1 ∧ Cond.privateMethod q.1 ∈ tables_1 ∧ Cond.instanceMethod q.1 ∈ tables_1
theorem lw_p0 : lw_okq (⟨"java/lang/Throwable", "fillInStackTrace", "(I)Ljava/lang/Throwable;"⟩, 6) := ⟨⟨by decide +kernel, by decide +kernel⟩, List.mem_of_getElem? (i := 216) (by decide +kernel), List.mem_of_getElem? (i := 214) (by decide +kernel), List.mem_of_getElem? (i := 215) (by decide +kernel)⟩
theorem lw_p1 : lw_okq (⟨"PaddyTerraces$Slope", "takeRain", "(I)V"⟩, 18) := ⟨⟨by decide +kernel, by decide +kernel⟩, List.mem_of_getElem? (i := 50) (by decide +kernel), List.mem_of_getElem? (i := 295) (by decide +kernel), List.mem_of_getElem? (i := 296) (by decide +kernel)⟩
theorem lw_p2 : lw_okq (⟨"PaddyTerraces$Slope", "takeSpring", "(I)V"⟩, 18) := ⟨⟨by decide +kernel, by decide +kernel⟩, List.mem_of_getElem? (i := 50) (by decide +kernel), List.mem_of_getElem? (i := 303) (by decide +kernel), List.mem_of_getElem? (i := 304) (by decide +kernel)⟩
theorem lw_p3 : lw_okq (⟨"PaddyTerraces$Slope", "letWaterFlow", "()V"⟩, 18) := ⟨⟨by decide +kernel, by decide +kernel⟩, List.mem_of_getElem? (i := 50) (by decide +kernel), List.mem_of_getElem? (i := 307) (by decide +kernel), List.mem_of_getElem? (i := 308) (by decide +kernel)⟩
theorem lw_p4 : lw_okq (⟨"PaddyTerraces$Slope", "letFieldFlow", "(II)V"⟩, 18) := ⟨⟨by decide +kernel, by decide +kernel⟩, List.mem_of_getElem? (i := 50) (by decide +kernel), List.mem_of_getElem? (i := 311) (by decide +kernel), List.mem_of_getElem? (i := 312) (by decide +kernel)⟩
theorem lw_p5 : lw_okq (⟨"PaddyTerraces$Slope", "bringWater", "(III)V"⟩, 18) := ⟨⟨by decide +kernel, by decide +kernel⟩, List.mem_of_getElem? (i := 50) (by decide +kernel), List.mem_of_getElem? (i := 322) (by decide +kernel), List.mem_of_getElem? (i := 323) (by decide +kernel)⟩
theorem lw_p6 : lw_okq (⟨"PaddyTerraces$Slope", "loseWater", "(I)V"⟩, 18) := ⟨⟨by decide +kernel, by decide +kernel⟩, List.mem_of_getElem? (i := 50) (by decide +kernel), List.mem_of_getElem? (i := 327) (by decide +kernel), List.mem_of_getElem? (i := 328) (by decide +kernel)⟩
theorem lw_p7 : lw_okq (⟨"PaddyTerraces$Slope", "growRice", "()V"⟩, 18) := ⟨⟨by decide +kernel, by decide +kernel⟩, List.mem_of_getElem? (i := 50) (by decide +kernel), List.mem_of_getElem? (i := 331) (by decide +kernel), List.mem_of_getElem? (i := 332) (by decide +kernel)⟩
theorem lw_p8 : lw_okq (⟨"PaddyTerraces$Slope", "growCrop", "(I)V"⟩, 18) := ⟨⟨by decide +kernel, by decide +kernel⟩, List.mem_of_getElem? (i := 50) (by decide +kernel), List.mem_of_getElem? (i := 335) (by decide +kernel), List.mem_of_getElem? (i := 336) (by decide +kernel)⟩
theorem lw_p9 : lw_okq (⟨"PaddyTerraces$Slope", "hardening", "(I)I"⟩, 18) := ⟨⟨by decide +kernel, by decide +kernel⟩, List.mem_of_getElem? (i := 50) (by decide +kernel), List.mem_of_getElem? (i := 339) (by decide +kernel), List.mem_of_getElem? (i := 340) (by decide +kernel)⟩
theorem lw_p10 : lw_okq (⟨"PaddyTerraces$Slope", "sumOf", "([I)I"⟩, 18) := ⟨⟨by decide +kernel, by decide +kernel⟩, List.mem_of_getElem? (i := 50) (by decide +kernel), List.mem_of_getElem? (i := 348) (by decide +kernel), List.mem_of_getElem? (i := 349) (by decide +kernel)⟩
theorem lw_p11 : lw_okq (⟨"PaddyTerraces", "countNumber", "(I)I"⟩, 6) := ⟨⟨by decide +kernel, by decide +kernel⟩, List.mem_of_getElem? (i := 16) (by decide +kernel), List.mem_of_getElem? (i := 366) (by decide +kernel), List.mem_of_getElem? (i := 367) (by decide +kernel)⟩
theorem lw_p12 : lw_okq (⟨"PaddyTerraces", "foreseenNumber", "(I)I"⟩, 6) := ⟨⟨by decide +kernel, by decide +kernel⟩, List.mem_of_getElem? (i := 16) (by decide +kernel), List.mem_of_getElem? (i := 390) (by decide +kernel), List.mem_of_getElem? (i := 391) (by decide +kernel)⟩
def lw_privs_1 : List (MethodName × Nat) := [(⟨"java/lang/Throwable", "fillInStackTrace", "(I)Ljava/lang/Throwable;"⟩, 6), (⟨"PaddyTerraces$Slope", "takeRain", "(I)V"⟩, 18), (⟨"PaddyTerraces$Slope", "takeSpring", "(I)V"⟩, 18), (⟨"PaddyTerraces$Slope", "letWaterFlow", "()V"⟩, 18), (⟨"PaddyTerraces$Slope", "letFieldFlow", "(II)V"⟩, 18), (⟨"PaddyTerraces$Slope", "bringWater", "(III)V"⟩, 18), (⟨"PaddyTerraces$Slope", "loseWater", "(I)V"⟩, 18), (⟨"PaddyTerraces$Slope", "growRice", "()V"⟩, 18), (⟨"PaddyTerraces$Slope", "growCrop", "(I)V"⟩, 18), (⟨"PaddyTerraces$Slope", "hardening", "(I)I"⟩, 18), (⟨"PaddyTerraces$Slope", "sumOf", "([I)I"⟩, 18), (⟨"PaddyTerraces", "countNumber", "(I)I"⟩, 6), (⟨"PaddyTerraces", "foreseenNumber", "(I)I"⟩, 6)]
theorem lw_r1 : ∀ q ∈ lw_privs_1, lw_okq q := List.forall_mem_cons.mpr ⟨lw_p0, List.forall_mem_cons.mpr ⟨lw_p1, List.forall_mem_cons.mpr ⟨lw_p2, List.forall_mem_cons.mpr ⟨lw_p3, List.forall_mem_cons.mpr ⟨lw_p4, List.forall_mem_cons.mpr ⟨lw_p5, List.forall_mem_cons.mpr ⟨lw_p6, List.forall_mem_cons.mpr ⟨lw_p7, List.forall_mem_cons.mpr ⟨lw_p8, List.forall_mem_cons.mpr ⟨lw_p9, List.forall_mem_cons.mpr ⟨lw_p10, List.forall_mem_cons.mpr ⟨lw_p11, List.forall_mem_cons.mpr ⟨lw_p12, fun _ h => absurd h List.not_mem_nil⟩⟩⟩⟩⟩⟩⟩⟩⟩⟩⟩⟩⟩
def lw_privs : List (MethodName × Nat) := lw_privs_1
def lw_tbl : List Cond := k2_sels lw_privs ++ tables_1
theorem lw_privs_ok : ∀ q ∈ lw_privs, lw_okq q := lw_r1
/-- the streams that the claim lets the run draw from -/
abbrev lw_cs : List Choice := [Jvm.Choice.named "NaN.bits"]
theorem lw_bits : nanBits ∈ lw_cs := by first | decide | exact List.mem_cons_self | simp [lw_cs, nanBits]
/-! ===== BEGIN words of one list among another's, by their places ===== -/
theorem goodIn_r {big : List Cond} (ws : List Cond) (ps : List Nat) (hp : ws = ps.filterMap (fun i => big[i]?)) (h : ws.all goodWord = true) : GoodIn big ws := by
  intro w hw
  have h1 := List.all_eq_true.mp h w hw
  rw [hp] at hw
  obtain ⟨i, -, hi⟩ := List.mem_filterMap.mp hw
  have hm : w ∈ big := by first | exact List.mem_of_getElem? hi | exact List.getElem?_mem hi
  exact ⟨hm, good_of_word h1⟩
theorem goodIn_app {big a b : List Cond} (ha : GoodIn big a) (hb : GoodIn big b) : GoodIn big (a ++ b) := fun w h => (List.mem_append.mp h).elim (ha w) (hb w)
theorem goodIn_ca {big a b : List Cond} {c : Cond} (ha : GoodIn big (c :: a)) (hb : GoodIn big b) : GoodIn big (c :: (a ++ b)) := fun w h => (List.mem_cons.mp h).elim (fun e => ha w (List.mem_cons.mpr (Or.inl e))) (fun h => (List.mem_append.mp h).elim (fun h => ha w (List.mem_cons.mpr (Or.inr h))) (hb w))
theorem goodIn_sub {big ws : List Cond} (hm : ∀ w ∈ ws, w ∈ big) (h : ws.all goodWord = true) : GoodIn big ws := fun w hw => ⟨hm w hw, good_of_word (List.all_eq_true.mp h w hw)⟩
/-! ===== END ===== -/

/-! ===== BEGIN exceptions that leave a method, and their catching by the caller (launches without stack traces) ===== -/
section VXA
/-! The laws vx_back, vx_callV, vx_callS, vx_callSW, vx_throw0, vx_throwS follow proofs of the library, with one case more: JvmDerived/Free/Laws.lean (Back.of_free), Shelf42/LK1.lean (callV, callS), Shelf/KitTraced.lean (throwNew0V, throwNewS). -/
/-- where a method has thrown q: the class by its name, the cell, what was written, the world -/
def vx_T (XC : String → State → State → Prop) (st : State) (q : Addr) (t : State) (mc ms : Nat) (free : Addr → Prop) : Prop :=
  ∃ (E : String) (ce : Cell) (L : List Loc), XC E st t ∧ t.heap[q]? = some ce ∧ ce.vm = .none ∧ st.vm.findClass E = some ce.cls ∧ st.WarmedH t.vm ∧ st.sameButNew ({ t with vm := st.vm } : State) L mc ms ∧ ∀ z ∈ L, free z.base
def vx_Q (Qc : Array Value → State → Outcome → State → Prop) (XC : String → State → State → Prop) (mc ms : Nat) (free : Addr → Prop) : Array Value → State → Outcome → State → Prop := fun a st o t =>
  (Qc a st o t ∧ ∃ L, FrameEnd st o t L mc ms ∧ ∀ q ∈ L, free q.base) ∨ ∃ q, o = .threw q ∧ vx_T XC st q t mc ms free
/-- a callee that returns or throws -/
def vx_Met (l : Launch) (y : MethodName) (ws : List Cond) (rm : Room) (Pc : Array Value → State → Prop) (Qc : Array Value → State → Outcome → State → Prop) (XC : String → State → State → Prop) (mc ms : Nat) (free : Addr → Prop) : Prop :=
  MetFree l y (headSpec ws rm) Pc (fun _ _ _ _ _ => True) (vx_Q Qc XC mc ms free)
def vx_Post (XC : String → State → State → Prop) (mc ms : Nat) (free : Addr → Prop) : Pt → Array Value → Addr → Pt → Prop := fun A a q B =>
  ∃ (g : JFrame) (mk : MethodId) (t : State) (L : List Loc) (E : String) (ce : Cell), B.U.heap = t.heap ∧ B.U.vm = t.vm ∧ XC E (A.U.calling g mk a) t ∧ t.heap[q]? = some ce ∧ ce.vm = .none ∧ A.U.vm.findClass E = some ce.cls ∧ B.locs = A.locs ++ L ∧ (∀ z ∈ L, free z.base) ∧ B.cells = A.cells + mc ∧ B.slots = A.slots + ms
def vx_Back (l : Launch) (R : Room) (p : Program) (e : Env) (below : List Frame) (s : State) (sargs : Array Value) (y : MethodName) (len W9 : Nat)
    (Pre : Pt → Array Value → Prop) (Post : Pt → Array Value → Option Value → Pt → Prop) (PostX : Pt → Array Value → Addr → Pt → Prop) : Prop :=
  ∀ (m : MethodId) (meth : Method) (c : Code) (A : Pt) (g : JFrame) (ig : Instr) (mk : MethodId) (a : Array Value),
    Stand p l e R s m sargs below meth c A.U A.locs A.cells A.slots → g.method = m → g.locals.size = c.maxLocals → decode c.code g.pc = .ok (ig, len) →
    2 * g.monitorRoom + (g.stack.map fun v => v.category).sum ≤ W9 → A.U.methodNamed? y = some mk → Pre A a →
    (∃ (v : Option Value) (B : Pt), Stand p l e R s m sargs below meth c B.U B.locs B.cells B.slots ∧ Post A a v B ∧
      Steps p.tables e below (doInvoke e (A.U.setTop g) [] mk a).1 (B.U.setTop { g with pc := g.pc + len, stack := v.toList ++ g.stack })) ∨
    (∃ (q : Addr) (B : Pt), Stand p l e R s m sargs below meth c B.U B.locs B.cells B.slots ∧ PostX A a q B ∧
      Steps p.tables e below (doInvoke e (A.U.setTop g) [] mk a).1 ((B.U.setTop g).pushFrame (.throwing q)))
section Payer
variable {l : Launch} {R : Room} {p : Program} {e : Env} {below : List Frame} {s : State} {sargs : Array Value} {y : MethodName} {len W9 : Nat}
theorem vx_back {ws : List Cond} {rm : Room} {Pc : Array Value → State → Prop} {Qc : Array Value → State → Outcome → State → Prop} {XC : String → State → State → Prop} {mc ms : Nat} {free : Addr → Prop} {bytes : ByteArray} {maxL : Nat} {ret : Option FieldType}
    (hM : vx_Met l y ws rm Pc Qc XC mc ms free) (hblind : FrameBlind Pc) (hrc : rm.cells = mc) (hrs : rm.slots = ms)
    (hframes : rm.frames + 1 ≤ R.frames) (hlocals : W9 + (maxL + 11) + rm.locals ≤ R.locals)
    (hws : ∀ w ∈ ws, ∀ a' U, s.WarmedH U.vm → w.before a' U = true) (hcode : Cond.code y bytes maxL ret ∈ ws) (hinit : ∀ a' U, s.WarmedH U.vm → (Cond.initialized y.cls).before a' U = true) :
    vx_Back l R p e below s sargs y len W9 (PreOf R mc ms Pc) (PostOf Qc mc ms free) (vx_Post XC mc ms free) := by
  intro m meth c A g ig mk a X hg hsize hdg hW hn hp
  have h1 : (headSpec ws rm).pre.before a A.U = true := atoms_intro fun w hw => hws w hw _ _ X.warmed
  have h2 : (Cond.code y bytes maxL ret).before a A.U = true := hws _ hcode _ _ X.warmed
  have h3 : (Cond.initialized y.cls).before a A.U = true := hinit _ _ X.warmed
  have h4 : A.cells + (headSpec ws rm).room.cells ≤ R.cells := by rw [show (headSpec ws rm).room.cells = mc from hrc]; exact hp.1
  have h5 : A.slots + (headSpec ws rm).room.slots ≤ R.slots := by rw [show (headSpec ws rm).room.slots = ms from hrs]; exact hp.2.1
  have hPc : Pc a (A.U.calling g mk a) := hblind _ _ _ _ hp.2.2
  obtain ⟨U, Ls, c0, s0⟩ := A
  dsimp only [Pt.U, Pt.locs, Pt.cells, Pt.slots] at h1 h2 h3 h4 h5 X hn hPc ⊢
  obtain ⟨methY, cY, hmY, hcY, -, hlY, -, -, -, -⟩ := Cond.code_spec hn h2
  obtain ⟨kY, hkY, -⟩ := className_of_methodNamed hn
  have hinitY : kY.init = .initialized := Cond.initialized_spec (findClass_of_methodNamed hn) hkY h3
  have h : At U g.method c below := by rw [hg]; exact X.here
  have hlocals9 : W9 + (maxL + 11) + (headSpec ws rm).room.locals ≤ R.locals := hlocals
  have happ : (headSpec ws rm).appliesLoose y e.platform (U.calling g mk a) = true :=
    Spec.appliesLoose_calling (g := g) h hdg hn hkY hinitY
      (X.room_calling (g := g) (R' := (headSpec ws rm).room) hsize hmY hcY hframes (by rw [hlY]; omega) h4 h5) h1
  obtain ⟨mid, hmid⟩ := h.above
  have hfr : (U.setTop g).frames = (.java g :: mid) ++ below := by rw [State.frames_setTop' g h.top, hmid]; rfl
  obtain ⟨o, s₂, hsteps, -, hend, hq⟩ := Steps.callFree hM p X.admits X.cas X.clock (acts := []) hfr happ hPc trivial
  have hq' : vx_Q Qc XC mc ms free a (U.calling g mk a) o s₂ := hq
  rw [State.frames_setTop' g h.top] at hend
  obtain ⟨g₀, hg0⟩ := Option.isSome_iff_exists.mp h.top
  obtain ⟨r, hr⟩ := State.topJava?_eq_some.mp hg0
  have hr' : (({ U with heap := s₂.heap, slotsUsed := s₂.slotsUsed } : State).setVm s₂.vm).frames = .java g₀ :: r := hr
  rcases hq' with ⟨hqc, L, hfe, hL⟩ | ⟨q, rfl, E, ce, L, hx, hce, hcv, hcl, hW₂, hsm, hL⟩
  · obtain ⟨⟨v, rfl⟩, hW₂, e2, q2, q3, q4, q5, q6⟩ := id hfe
    have e3 : s₂ = ({ (U.calling g mk a).setFrames s₂.frames with heap := s₂.heap, slotsUsed := s₂.slotsUsed } : State).setVm s₂.vm := by
      have : s₂ = ({ s₂ with vm := (U.calling g mk a).vm } : State).setVm s₂.vm := rfl
      rw [e2] at this
      exact this
    obtain ⟨c₂, i₂, len₂, hc₂, hd₂, hf₂⟩ := hend
    have hW' : U.WarmedH s₂.vm := hW₂
    have hcc : c₂ = c := by
      have h1 : s₂.code? g.method = U.code? g.method := by
        rw [State.code?_eq, State.code?_eq, hW'.alike.method?]
      exact Option.some.inj (hc₂.symm.trans (h1.trans h.code))
    subst hcc
    have hlen : len₂ = len := by rw [hdg] at hd₂; cases hd₂; rfl
    subst hlen
    have hs₂ : s₂ = (({ U with heap := s₂.heap, slotsUsed := s₂.slotsUsed } : State).setVm s₂.vm).setTop { g with pc := g.pc + len₂, stack := v.toList ++ g.stack } := by
      refine e3.trans ?_
      rw [hf₂, State.calling_eq h.top, State.setFrames_setFrames, State.setTop_of_frames _ hr', hr]
      rfl
    have hsame : U.sameButNew ({ U with heap := s₂.heap, slotsUsed := s₂.slotsUsed } : State) L mc ms := by
      refine ⟨?_, q2, q3, q4, q5, q6⟩
      obtain ⟨t, ht, -⟩ := State.frames_cons hr
      show ({ U with heap := s₂.heap, slotsUsed := s₂.slotsUsed } : State) = { U.setFrames U.frames with heap := s₂.heap, slotsUsed := s₂.slotsUsed }
      rw [State.setFrames_self ht]
    subst hg
    refine Or.inl ⟨v, ⟨(({ U with heap := s₂.heap, slotsUsed := s₂.slotsUsed } : State).setVm s₂.vm), Ls ++ L, c0 + mc, s0 + ms⟩,
      ⟨X.admits, X.cas, X.clock, X.frames, X.room, X.hears, X.method, X.code, (X.here.setHeapUsed s₂.heap s₂.slotsUsed).setVm hW'.alike, X.tail, State.WarmedH.trans X.warmed hW', X.limits, X.bytes, X.same.trans (hsame.setVm s.vm)⟩,
      ⟨g, mk, s₂, L, rfl, rfl, hqc, rfl, hL, rfl, rfl⟩, ?_⟩
    show Steps p.tables e below _ ((({ U with heap := s₂.heap, slotsUsed := s₂.slotsUsed } : State).setVm s₂.vm).setTop { g with pc := g.pc + len₂, stack := v.toList ++ g.stack })
    rw [← hs₂]
    exact hsteps
  · obtain ⟨e2, q2, q3, q4, q5, q6⟩ := id hsm
    have e3 : s₂ = ({ (U.calling g mk a).setFrames s₂.frames with heap := s₂.heap, slotsUsed := s₂.slotsUsed } : State).setVm s₂.vm := by
      have : s₂ = ({ s₂ with vm := (U.calling g mk a).vm } : State).setVm s₂.vm := rfl
      rw [e2] at this
      exact this
    have hf₂ : s₂.frames = .throwing q :: .java g :: U.frames.tail := hend
    have hW' : U.WarmedH s₂.vm := hW₂
    have hs₂ : s₂ = ((({ U with heap := s₂.heap, slotsUsed := s₂.slotsUsed } : State).setVm s₂.vm).setTop g).pushFrame (.throwing q) := by
      refine e3.trans ?_
      rw [hf₂, State.calling_eq h.top, State.setFrames_setFrames, State.pushFrame, State.frames_setTop _ hr', State.setTop_of_frames _ hr', State.setFrames_setFrames, hr]
      rfl
    have hsame : U.sameButNew ({ U with heap := s₂.heap, slotsUsed := s₂.slotsUsed } : State) L mc ms := by
      refine ⟨?_, q2, q3, q4, q5, q6⟩
      obtain ⟨t, ht, -⟩ := State.frames_cons hr
      show ({ U with heap := s₂.heap, slotsUsed := s₂.slotsUsed } : State) = { U.setFrames U.frames with heap := s₂.heap, slotsUsed := s₂.slotsUsed }
      rw [State.setFrames_self ht]
    subst hg
    refine Or.inr ⟨q, ⟨(({ U with heap := s₂.heap, slotsUsed := s₂.slotsUsed } : State).setVm s₂.vm), Ls ++ L, c0 + mc, s0 + ms⟩,
      ⟨X.admits, X.cas, X.clock, X.frames, X.room, X.hears, X.method, X.code, (X.here.setHeapUsed s₂.heap s₂.slotsUsed).setVm hW'.alike, X.tail, State.WarmedH.trans X.warmed hW', X.limits, X.bytes, X.same.trans (hsame.setVm s.vm)⟩,
      ⟨g, mk, s₂, L, E, ce, rfl, rfl, hx, hce, hcv, hcl, rfl, hL, rfl, rfl⟩, ?_⟩
    show Steps p.tables e below _ (((({ U with heap := s₂.heap, slotsUsed := s₂.slotsUsed } : State).setVm s₂.vm).setTop g).pushFrame (.throwing q))
    rw [← hs₂]
    exact hsteps
end Payer
section Calls
variable {p : Program} {l : Launch} {e : Env} {R : Room} {s : State} {m : MethodId} {args : Array Value} {below : List Frame} {meth : Method} {c : Code} {T : State} {locs : List Loc} {cells slots : Nat}
theorem vx_callV (X : Stand p l e R s m args below meth c T locs cells slots) (hexec : p.tables.exec = Jvm.exec) {own C : String} {index : Nat} {y : MethodName} {bytes : ByteArray} {maxL : Nat} {ret : Option FieldType}
    (hown : s.vm.findClass own = some m.cls) (hlink : (Cond.methodLink own index y).before args s = true) (hinst : (Cond.instanceMethod y).before args s = true) (hsel : (Cond.selects C y y).before args s = true)
    (hcode : (Cond.code y bytes maxL ret).before args s = true) (hy : y.cls ≠ "java/lang/invoke/MethodHandle" ∧ y.cls ≠ "java/lang/invoke/VarHandle")
    {W9 : Nat} {Pre : Pt → Array Value → Prop} {Post : Pt → Array Value → Option Value → Pt → Prop} {PostX : Pt → Array Value → Addr → Pt → Prop} (hK : vx_Back l R p e below s args y 3 W9 Pre Post PostX)
    {b : Addr} {cellB : Cell} (hcell : T.heap[b]? = some cellB) (hobj : cellB.vm.isStatics = false) (hcls : s.vm.findClass C = some cellB.cls)
    {g : JFrame} (hg : g.method = m) (hsize : g.locals.size = c.maxLocals) {argsL rest : List Value} (hlen : ∀ sig, parseMethodDescriptor y.desc = some sig → argsL.length = sig.parameters.length)
    (hstack : g.stack = argsL.reverse ++ .ref b :: rest) (hW : 2 * g.monitorRoom + (rest.map fun v => v.category).sum ≤ W9) (hdg : decode c.code g.pc = .ok (.invokevirtual index, 3))
    (hpre : ∀ vm₁, s.WarmedH vm₁ → Pre ⟨T.setVm vm₁, locs, cells, slots⟩ (Value.ref b :: argsL).toArray) :
    (∃ (v : Option Value) (vm₁ : Vm) (B : Pt), s.WarmedH vm₁ ∧ Stand p l e R s m args below meth c B.U B.locs B.cells B.slots ∧ Post ⟨T.setVm vm₁, locs, cells, slots⟩ (Value.ref b :: argsL).toArray v B ∧
      ∀ target, Steps p.tables e below (B.U.setTop { g with pc := g.pc + 3, stack := v.toList ++ rest }) target → Steps p.tables e below (T.setTop g) target) ∨
    (∃ (q : Addr) (vm₁ : Vm) (B : Pt), s.WarmedH vm₁ ∧ Stand p l e R s m args below meth c B.U B.locs B.cells B.slots ∧ PostX ⟨T.setVm vm₁, locs, cells, slots⟩ (Value.ref b :: argsL).toArray q B ∧
      Steps p.tables e below (T.setTop g) ((B.U.setTop { g with stack := rest }).pushFrame (.throwing q))) := by
  obtain ⟨mk, methM, hnamed, hmethM, hstM, habM⟩ := Cond.instanceMethod_spec hinst
  obtain ⟨methM', cM, hmethM', -, -, -, -, -, -, hsigM⟩ := Cond.code_spec hnamed hcode
  cases hmethM.symm.trans hmethM'
  obtain ⟨c2, r2, m2, q1, q2, q3, q4, kP, hkP, hkPi⟩ := Cond.selects_spec hsel
  cases hcls.symm.trans q1
  cases (State.methodFound?_of_named hnamed hy).symm.trans q2
  cases hnamed.symm.trans q3
  have hselP : selectMethod e.platform s.vm cellB.cls mk = .method mk := by rw [Launch.admits_selectMethod X.admits]; exact q4
  obtain ⟨vm₁, X₁, hstep₁⟩ := X.invokevirtual hexec hown hlink hnamed hmethM hstM hkP hkPi hy (a := b) (cell := cellB) hcell
    (fun z h => by rw [h] at hobj; cases hobj) hselP hmethM habM hkP hkPi (g := g) hg (argsL := argsL) (rest := rest) (hlen _ hsigM) hstack hdg
  rcases hK m meth c ⟨T.setVm vm₁, locs, cells, slots⟩ { g with stack := rest } (.invokevirtual index) mk (Value.ref b :: argsL).toArray X₁ hg hsize hdg hW (X₁.named hnamed) (hpre vm₁ X₁.warmed) with ⟨v, B, X', hpost, hsteps⟩ | ⟨q, B, X', hpost, hsteps⟩
  · exact Or.inl ⟨v, vm₁, B, X₁.warmed, X', hpost, fun target h => hstep₁ _ fun acts => by rw [doInvoke_state]; exact hsteps.trans h⟩
  · exact Or.inr ⟨q, vm₁, B, X₁.warmed, X', hpost, hstep₁ _ fun acts => by rw [doInvoke_state]; exact hsteps⟩
theorem vx_callS (X : Stand p l e R s m args below meth c T locs cells slots) (hexec : p.tables.exec = Jvm.exec) {own : String} {index : Nat} {y : MethodName} {bytes : ByteArray} {maxL : Nat} {ret : Option FieldType}
    (hown : s.vm.findClass own = some m.cls) (hlink : (Cond.methodLink own index y).before args s = true) (hstat : (Cond.static y).before args s = true) (hinit : (Cond.initialized y.cls).before args s = true)
    (hcode : (Cond.code y bytes maxL ret).before args s = true) (hy : y.cls ≠ "java/lang/invoke/MethodHandle" ∧ y.cls ≠ "java/lang/invoke/VarHandle")
    {W9 : Nat} {Pre : Pt → Array Value → Prop} {Post : Pt → Array Value → Option Value → Pt → Prop} {PostX : Pt → Array Value → Addr → Pt → Prop} (hK : vx_Back l R p e below s args y 3 W9 Pre Post PostX)
    {g : JFrame} (hg : g.method = m) (hsize : g.locals.size = c.maxLocals) {argsL rest : List Value} (hlen : ∀ sig, parseMethodDescriptor y.desc = some sig → argsL.length = sig.parameters.length)
    (hstack : g.stack = argsL.reverse ++ rest) (hW : 2 * g.monitorRoom + (rest.map fun v => v.category).sum ≤ W9) (hdg : decode c.code g.pc = .ok (.invokestatic index, 3))
    (hpre : ∀ vm₁, s.WarmedH vm₁ → Pre ⟨T.setVm vm₁, locs, cells, slots⟩ argsL.toArray) :
    (∃ (v : Option Value) (vm₁ : Vm) (B : Pt), s.WarmedH vm₁ ∧ Stand p l e R s m args below meth c B.U B.locs B.cells B.slots ∧ Post ⟨T.setVm vm₁, locs, cells, slots⟩ argsL.toArray v B ∧
      ∀ target, Steps p.tables e below (B.U.setTop { g with pc := g.pc + 3, stack := v.toList ++ rest }) target → Steps p.tables e below (T.setTop g) target) ∨
    (∃ (q : Addr) (vm₁ : Vm) (B : Pt), s.WarmedH vm₁ ∧ Stand p l e R s m args below meth c B.U B.locs B.cells B.slots ∧ PostX ⟨T.setVm vm₁, locs, cells, slots⟩ argsL.toArray q B ∧
      Steps p.tables e below (T.setTop g) ((B.U.setTop { g with stack := rest }).pushFrame (.throwing q))) := by
  obtain ⟨mk, hnamed⟩ := Cond.code_named hcode
  obtain ⟨methM, cM, hmethM, -, -, -, -, -, -, hsigM⟩ := Cond.code_spec hnamed hcode
  have hstatic : methM.isStatic = true := Cond.static_spec hnamed hmethM hstat
  obtain ⟨kP, hkP, -⟩ := className_of_methodNamed hnamed
  have hinitP : kP.init = .initialized := Cond.initialized_spec (findClass_of_methodNamed hnamed) hkP hinit
  obtain ⟨vm₁, X₁, hstep₁⟩ := X.invokestatic hexec hown hlink hnamed hmethM hstatic hkP hinitP hy (g := g) hg (argsL := argsL) (rest := rest) (hlen _ hsigM) hstack hdg
  rcases hK m meth c ⟨T.setVm vm₁, locs, cells, slots⟩ { g with stack := rest } (.invokestatic index) mk argsL.toArray X₁ hg hsize hdg hW (X₁.named hnamed) (hpre vm₁ X₁.warmed) with ⟨v, B, X', hpost, hsteps⟩ | ⟨q, B, X', hpost, hsteps⟩
  · exact Or.inl ⟨v, vm₁, B, X₁.warmed, X', hpost, fun target h => hstep₁ _ fun acts => by rw [doInvoke_state]; exact hsteps.trans h⟩
  · exact Or.inr ⟨q, vm₁, B, X₁.warmed, X', hpost, hstep₁ _ fun acts => by rw [doInvoke_state]; exact hsteps⟩
end Calls
theorem vx_cls {s : State} {T : State} {vm₁ : Vm} {E : String} {k : ClassId} (hW : s.WarmedH vm₁) (h : (T.setVm vm₁).vm.findClass E = some k) : s.vm.findClass E = some k := by
  have h1 : vm₁.findClass E = some k := h
  rw [hW.alike.findClass] at h1
  exact h1
/-- the method's frame g, with q thrown over it -/
def vx_W (p : Program) (l : Launch) (e : Env) (R : Room) (s : State) (m : MethodId) (args : Array Value) (below : List Frame) (meth : Method) (c : Code) (H : Heap) (locs : List Loc) (cells slots : Nat) (Q : State → Prop) (g : JFrame) (q : Addr) : Prop :=
  ∀ T : State, T.heap = H → Stand p l e R s m args below meth c T locs cells slots → ∃ t, Steps p.tables e below ((T.setTop g).pushFrame (.throwing q)) t ∧ Q t
def vx_Run (p : Program) (l : Launch) (e : Env) (R : Room) (s : State) (m : MethodId) (args : Array Value) (below : List Frame) (meth : Method) (c : Code) (H : Heap) (locs : List Loc) (cells slots mc ms : Nat) (g : JFrame) (rest : List Value) (Qa : State → Outcome → State → Prop) (XC : String → State → State → Prop) (free : Addr → Prop) : Prop :=
  ∀ T : State, T.heap = H → Stand p l e R s m args below meth c T locs cells slots →
    (∃ (v : Option Value) (st₀ t T' : State) (L : List Loc), st₀.heap = H ∧ Stand p l e R s m args below meth c T' (locs ++ L) (cells + mc) (slots + ms) ∧ (∀ q ∈ L, free q.base) ∧ T'.heap = t.heap ∧ T'.vm = t.vm ∧ Qa st₀ (.returned v) t ∧
      Goes p e below T g T' { g with pc := g.pc + 3, stack := v.toList ++ rest }) ∨
    (∃ (q : Addr) (st₀ t T' : State) (L : List Loc) (E : String) (ce : Cell), st₀.heap = H ∧ Stand p l e R s m args below meth c T' (locs ++ L) (cells + mc) (slots + ms) ∧ (∀ z ∈ L, free z.base) ∧ T'.heap = t.heap ∧ T'.vm = t.vm ∧ XC E st₀ t ∧ t.heap[q]? = some ce ∧ ce.vm = .none ∧ s.vm.findClass E = some ce.cls ∧
      Steps p.tables e below (T.setTop g) ((T'.setTop { g with stack := rest }).pushFrame (.throwing q)))
def vx_X {S : Type} (px : S → Prop) (B : String → S → State → Prop) (A : Nat → Prop) : String → State → State → Prop := fun E st t => ∃ u : S, px u ∧ B E u t ∧ va_F A st t
section Runs
variable {p : Program} {l : Launch} {e : Env} {R : Room} {s : State} {m : MethodId} {args : Array Value} {below : List Frame} {meth : Method} {c : Code} {H : Heap} {locs : List Loc} {cells slots : Nat}
variable {y : MethodName} {bytes cc : ByteArray} {maxL nL mc ms n index : Nat} {ret : Option FieldType} {ws : List Cond} {rm : Room} {Pc : Array Value → State → Prop} {Qc : Array Value → State → Outcome → State → Prop} {XC : String → State → State → Prop} {free : Addr → Prop} {Ts : List Cond} {own C : String} {b : Addr} {As rest : List Value} {g : JFrame}
theorem vx_callBack (cb : CallB R s args own index y bytes maxL ret ws rm mc ms n) (hM : vx_Met l y ws rm Pc Qc XC mc ms free) (hbl : FrameBlind Pc) : vx_Back l R p e below s args y 3 8 (PreOf R mc ms Pc) (PostOf Qc mc ms free) (vx_Post XC mc ms free) := by
  obtain ⟨hrc, hrs, hfr, hlo, hws, hcw, -, hini, -⟩ := cb
  exact vx_back (bytes := bytes) (maxL := maxL) (ret := ret) hM hbl hrc hrs hfr hlo hws hcw (fun a' U hW => word_at hW (Or.inl (by first | rfl | simp [Cond.onTables, Cond.keeps, Cond.steady])) hini)
theorem vx_runV (S : CallFix p m c cc nL s args Ts own) (hM : vx_Met l y ws rm Pc Qc XC mc ms free) (cw : CallW R s args own C index y bytes maxL ret ws rm mc ms n) (hp : PreV s H C b Pc As)
    (hg : g.method = m) (hn : As.length = n) (hsize : g.locals.size = nL) (hstack : g.stack = As.reverse ++ .ref b :: rest) (hW : 2 * g.monitorRoom + (rest.map fun v => v.category).sum ≤ 8) (hdg : decode cc g.pc = .ok (.invokevirtual index, 3)) (hf : cells + mc ≤ R.cells ∧ slots + ms ≤ R.slots) :
    vx_Run p l e R s m args below meth c H locs cells slots mc ms g rest (Qc (Value.ref b :: As).toArray) XC free := by
  have hK : vx_Back l R p e below s args y 3 8 (PreOf R mc ms Pc) (PostOf Qc mc ms free) (vx_Post XC mc ms free) := vx_callBack cw.1 hM hp.1
  obtain ⟨⟨-, -, -, -, -, -, hcode, -, hy, hlen, hl⟩, hin, hse⟩ := cw
  obtain ⟨hx, hb, hml, ho, -⟩ := S
  obtain ⟨-, ⟨cellB, hcB, hoB, hclB⟩, hPc⟩ := hp
  intro T hT X
  rcases vx_callV X hx (C := C) (bytes := bytes) (maxL := maxL) (ret := ret) ho hl hin hse hcode hy hK (by rw [hT]; exact hcB) hoB hclB hg (hsize.trans hml.symm) (argsL := As) (rest := rest) (fun sig h => hn.trans (hlen sig h)) hstack hW (by rw [hb]; exact hdg)
    (fun vm₁ hW₁ => ⟨hf.1, hf.2, hPc (T.setVm vm₁) hT hW₁⟩) with ⟨v, vm₁, ⟨U', l2, c2, s2⟩, hW₁, X', ⟨g', mk, t, L, e1, e2, hq, h1, hL, h2, h3⟩, st⟩ | ⟨q, vm₁, ⟨U', l2, c2, s2⟩, hW₁, X', ⟨g', mk, t, L, E, ce, e1, e2, hq, hce, hcv, hcl, h1, hL, h2, h3⟩, st⟩
  · dsimp only [Pt.U, Pt.locs, Pt.cells, Pt.slots] at X' e1 e2 h1 h2 h3 st
    subst h1; subst h2; subst h3
    exact Or.inl ⟨v, (T.setVm vm₁).calling g' mk (Value.ref b :: As).toArray, t, U', L, hT, X', hL, e1, e2, hq, st⟩
  · dsimp only [Pt.U, Pt.locs, Pt.cells, Pt.slots] at X' e1 e2 h1 h2 h3 st hcl
    subst h1; subst h2; subst h3
    exact Or.inr ⟨q, (T.setVm vm₁).calling g' mk (Value.ref b :: As).toArray, t, U', L, E, ce, hT, X', hL, e1, e2, hq, hce, hcv, vx_cls hW₁ hcl, st⟩
theorem vx_runS (S : CallFix p m c cc nL s args Ts own) (hM : vx_Met l y ws rm Pc Qc XC mc ms free) (cw : CallB R s args own index y bytes maxL ret ws rm mc ms n ∧ (Cond.static y).before args s = true) (hp : PreS s H Pc As)
    (hg : g.method = m) (hn : As.length = n) (hsize : g.locals.size = nL) (hstack : g.stack = As.reverse ++ rest) (hW : 2 * g.monitorRoom + (rest.map fun v => v.category).sum ≤ 8) (hdg : decode cc g.pc = .ok (.invokestatic index, 3)) (hf : cells + mc ≤ R.cells ∧ slots + ms ≤ R.slots) :
    vx_Run p l e R s m args below meth c H locs cells slots mc ms g rest (Qc As.toArray) XC free := by
  have hK : vx_Back l R p e below s args y 3 8 (PreOf R mc ms Pc) (PostOf Qc mc ms free) (vx_Post XC mc ms free) := vx_callBack cw.1 hM hp.1
  obtain ⟨⟨-, -, -, -, -, -, hcode, hini, hy, hlen, hl⟩, hstt⟩ := cw
  obtain ⟨hx, hb, hml, ho, -⟩ := S
  intro T hT X
  rcases vx_callS X hx (bytes := bytes) (maxL := maxL) (ret := ret) ho hl hstt hini hcode hy hK hg (hsize.trans hml.symm) (argsL := As) (rest := rest) (fun sig h => hn.trans (hlen sig h)) hstack hW (by rw [hb]; exact hdg)
    (fun vm₁ hW₁ => ⟨hf.1, hf.2, hp.2 (T.setVm vm₁) hT hW₁⟩) with ⟨v, vm₁, ⟨U', l2, c2, s2⟩, hW₁, X', ⟨g', mk, t, L, e1, e2, hq, h1, hL, h2, h3⟩, st⟩ | ⟨q, vm₁, ⟨U', l2, c2, s2⟩, hW₁, X', ⟨g', mk, t, L, E, ce, e1, e2, hq, hce, hcv, hcl, h1, hL, h2, h3⟩, st⟩
  · dsimp only [Pt.U, Pt.locs, Pt.cells, Pt.slots] at X' e1 e2 h1 h2 h3 st
    subst h1; subst h2; subst h3
    exact Or.inl ⟨v, (T.setVm vm₁).calling g' mk As.toArray, t, U', L, hT, X', hL, e1, e2, hq, st⟩
  · dsimp only [Pt.U, Pt.locs, Pt.cells, Pt.slots] at X' e1 e2 h1 h2 h3 st hcl
    subst h1; subst h2; subst h3
    exact Or.inr ⟨q, (T.setVm vm₁).calling g' mk As.toArray, t, U', L, E, ce, hT, X', hL, e1, e2, hq, hce, hcv, vx_cls hW₁ hcl, st⟩
end Runs
section Rows
variable {p : Program} {l : Launch} {e : Env} {R : Room} {s : State} {m : MethodId} {args : Array Value} {below : List Frame} {meth : Method} {c : Code} {H : Heap} {locs : List Loc} {cells slots : Nat} {Q : State → Prop}
variable {mc ms : Nat} {free : Addr → Prop} {A0 A1 : Nat → Prop} {H0 : Heap} {a : Array Value} {pc : Nat} {ls : Array Slot} {st0 rest : List Value}
theorem vx_keep {st₀ t T' : State} {L : List Loc} (h0 : st₀.heap = H) (e1 : T'.heap = t.heap) (hS : va_S A0 H0 H locs) (hA : ∀ q, q < H.size → A1 q → A0 q) (hf : ∀ q, free q → A0 q) (hL : ∀ q ∈ L, free q.base) (hF : va_F A1 st₀ t) :
    H.size ≤ T'.heap.size ∧ (∀ q : Nat, q < H.size → ¬ A1 q → T'.heap[q]? = H[q]?) ∧ va_S A0 H0 T'.heap (locs ++ L) := by
  obtain ⟨hz, hk⟩ := hF
  rw [h0] at hz hk
  exact ⟨by rw [e1]; exact hz, fun q h1 h2 => by rw [e1]; exact hk q h1 h2,
    ⟨Nat.le_trans hS.1 (by rw [e1]; exact hz), fun q h1 h2 => by rw [e1, hk q (Nat.lt_of_lt_of_le h1 hS.1) (fun z => h2 (hA q (Nat.lt_of_lt_of_le h1 hS.1) z))]; exact hS.2.1 q h1 h2, fun q hq => by
      rcases List.mem_append.mp hq with h | h
      · exact hS.2.2 q h
      · exact hf _ (hL q h)⟩⟩
theorem vx_calli {S SX : Type} {post : Int32 → S → Prop} {px : SX → Prop} {B : S → State → Prop} {BX : String → SX → State → Prop} {AX : Nat → Prop} (hr : vx_Run p l e R s m args below meth c H locs cells slots mc ms (F0 m pc ls st0) rest (va_Qi post B A1 a) (vx_X px BX AX) free) (hS : va_S A0 H0 H locs) (hA : ∀ q, q < H.size → A1 q → A0 q) (hf : ∀ q, free q → A0 q) (hAX : ∀ q, q < H.size → AX q → A0 q)
    (kx : ∀ (E : String) (ce : Cell) (q9 : Addr) (u : SX) (t : State) (H1 : Heap) (locs1 : List Loc), t.heap = H1 → s.vm.Alike t.vm → px u → BX E u t → H.size ≤ H1.size → (∀ q : Nat, q < H.size → ¬ AX q → H1[q]? = H[q]?) → va_S A0 H0 H1 locs1 → H1[q9]? = some ce → ce.vm = .none → s.vm.findClass E = some ce.cls → vx_W p l e R s m args below meth c H1 locs1 (cells + mc) (slots + ms) Q (F0 m pc ls rest) q9)
    (kk : ∀ (r : Int32) (u : S) (t : State) (H1 : Heap) (locs1 : List Loc), t.heap = H1 → s.vm.Alike t.vm → post r u → B u t → H.size ≤ H1.size → (∀ q : Nat, q < H.size → ¬ A1 q → H1[q]? = H[q]?) → va_S A0 H0 H1 locs1 → W p l e R s m args below meth c H1 locs1 (cells + mc) (slots + ms) Q (F0 m (pc + 3) ls (.int r :: rest))) : W p l e R s m args below meth c H locs cells slots Q (F0 m pc ls st0) := by
  intro T hT X
  rcases hr T hT X with ⟨v, st₀, t, T', L, h0, X', hL, e1, e2, ⟨⟨r, u, hv, hp, hb⟩, hF⟩, st⟩ | ⟨q, st₀, t, T', L, E, ce, h0, X', hL, e1, e2, ⟨u, hp, hb, hF⟩, hce, hcv, hcl, st⟩
  · cases hv
    obtain ⟨k1, k2, k3⟩ := vx_keep h0 e1 hS hA hf hL hF
    obtain ⟨t2, a1, b1⟩ := kk r u t T'.heap (locs ++ L) e1.symm (by rw [← e2]; exact X'.warmed.alike) hp hb k1 k2 k3 T' rfl X'
    exact ⟨t2, st t2 a1, b1⟩
  · obtain ⟨k1, k2, k3⟩ := vx_keep h0 e1 hS hAX hf hL hF
    obtain ⟨t2, a1, b1⟩ := kx E ce q u t T'.heap (locs ++ L) e1.symm (by rw [← e2]; exact X'.warmed.alike) hp hb k1 k2 k3 (by rw [e1]; exact hce) hcv hcl T' rfl X'
    exact ⟨t2, st.trans a1, b1⟩
theorem vx_calll {S SX : Type} {post : Int64 → S → Prop} {px : SX → Prop} {B : S → State → Prop} {BX : String → SX → State → Prop} {AX : Nat → Prop} (hr : vx_Run p l e R s m args below meth c H locs cells slots mc ms (F0 m pc ls st0) rest (va_Ql post B A1 a) (vx_X px BX AX) free) (hS : va_S A0 H0 H locs) (hA : ∀ q, q < H.size → A1 q → A0 q) (hf : ∀ q, free q → A0 q) (hAX : ∀ q, q < H.size → AX q → A0 q)
    (kx : ∀ (E : String) (ce : Cell) (q9 : Addr) (u : SX) (t : State) (H1 : Heap) (locs1 : List Loc), t.heap = H1 → s.vm.Alike t.vm → px u → BX E u t → H.size ≤ H1.size → (∀ q : Nat, q < H.size → ¬ AX q → H1[q]? = H[q]?) → va_S A0 H0 H1 locs1 → H1[q9]? = some ce → ce.vm = .none → s.vm.findClass E = some ce.cls → vx_W p l e R s m args below meth c H1 locs1 (cells + mc) (slots + ms) Q (F0 m pc ls rest) q9)
    (kk : ∀ (r : Int64) (u : S) (t : State) (H1 : Heap) (locs1 : List Loc), t.heap = H1 → s.vm.Alike t.vm → post r u → B u t → H.size ≤ H1.size → (∀ q : Nat, q < H.size → ¬ A1 q → H1[q]? = H[q]?) → va_S A0 H0 H1 locs1 → W p l e R s m args below meth c H1 locs1 (cells + mc) (slots + ms) Q (F0 m (pc + 3) ls (.long r :: rest))) : W p l e R s m args below meth c H locs cells slots Q (F0 m pc ls st0) := by
  intro T hT X
  rcases hr T hT X with ⟨v, st₀, t, T', L, h0, X', hL, e1, e2, ⟨⟨r, u, hv, hp, hb⟩, hF⟩, st⟩ | ⟨q, st₀, t, T', L, E, ce, h0, X', hL, e1, e2, ⟨u, hp, hb, hF⟩, hce, hcv, hcl, st⟩
  · cases hv
    obtain ⟨k1, k2, k3⟩ := vx_keep h0 e1 hS hA hf hL hF
    obtain ⟨t2, a1, b1⟩ := kk r u t T'.heap (locs ++ L) e1.symm (by rw [← e2]; exact X'.warmed.alike) hp hb k1 k2 k3 T' rfl X'
    exact ⟨t2, st t2 a1, b1⟩
  · obtain ⟨k1, k2, k3⟩ := vx_keep h0 e1 hS hAX hf hL hF
    obtain ⟨t2, a1, b1⟩ := kx E ce q u t T'.heap (locs ++ L) e1.symm (by rw [← e2]; exact X'.warmed.alike) hp hb k1 k2 k3 (by rw [e1]; exact hce) hcv hcl T' rfl X'
    exact ⟨t2, st.trans a1, b1⟩
theorem vx_callf {S SX : Type} {post : UInt32 → S → Prop} {px : SX → Prop} {B : S → State → Prop} {BX : String → SX → State → Prop} {AX : Nat → Prop} (hr : vx_Run p l e R s m args below meth c H locs cells slots mc ms (F0 m pc ls st0) rest (va_Qf post B A1 a) (vx_X px BX AX) free) (hS : va_S A0 H0 H locs) (hA : ∀ q, q < H.size → A1 q → A0 q) (hf : ∀ q, free q → A0 q) (hAX : ∀ q, q < H.size → AX q → A0 q)
    (kx : ∀ (E : String) (ce : Cell) (q9 : Addr) (u : SX) (t : State) (H1 : Heap) (locs1 : List Loc), t.heap = H1 → s.vm.Alike t.vm → px u → BX E u t → H.size ≤ H1.size → (∀ q : Nat, q < H.size → ¬ AX q → H1[q]? = H[q]?) → va_S A0 H0 H1 locs1 → H1[q9]? = some ce → ce.vm = .none → s.vm.findClass E = some ce.cls → vx_W p l e R s m args below meth c H1 locs1 (cells + mc) (slots + ms) Q (F0 m pc ls rest) q9)
    (kk : ∀ (r : UInt32) (u : S) (t : State) (H1 : Heap) (locs1 : List Loc), t.heap = H1 → s.vm.Alike t.vm → post r u → B u t → H.size ≤ H1.size → (∀ q : Nat, q < H.size → ¬ A1 q → H1[q]? = H[q]?) → va_S A0 H0 H1 locs1 → W p l e R s m args below meth c H1 locs1 (cells + mc) (slots + ms) Q (F0 m (pc + 3) ls (.float r :: rest))) : W p l e R s m args below meth c H locs cells slots Q (F0 m pc ls st0) := by
  intro T hT X
  rcases hr T hT X with ⟨v, st₀, t, T', L, h0, X', hL, e1, e2, ⟨⟨r, u, hv, hp, hb⟩, hF⟩, st⟩ | ⟨q, st₀, t, T', L, E, ce, h0, X', hL, e1, e2, ⟨u, hp, hb, hF⟩, hce, hcv, hcl, st⟩
  · cases hv
    obtain ⟨k1, k2, k3⟩ := vx_keep h0 e1 hS hA hf hL hF
    obtain ⟨t2, a1, b1⟩ := kk r u t T'.heap (locs ++ L) e1.symm (by rw [← e2]; exact X'.warmed.alike) hp hb k1 k2 k3 T' rfl X'
    exact ⟨t2, st t2 a1, b1⟩
  · obtain ⟨k1, k2, k3⟩ := vx_keep h0 e1 hS hAX hf hL hF
    obtain ⟨t2, a1, b1⟩ := kx E ce q u t T'.heap (locs ++ L) e1.symm (by rw [← e2]; exact X'.warmed.alike) hp hb k1 k2 k3 (by rw [e1]; exact hce) hcv hcl T' rfl X'
    exact ⟨t2, st.trans a1, b1⟩
theorem vx_calld {S SX : Type} {post : UInt64 → S → Prop} {px : SX → Prop} {B : S → State → Prop} {BX : String → SX → State → Prop} {AX : Nat → Prop} (hr : vx_Run p l e R s m args below meth c H locs cells slots mc ms (F0 m pc ls st0) rest (va_Qd post B A1 a) (vx_X px BX AX) free) (hS : va_S A0 H0 H locs) (hA : ∀ q, q < H.size → A1 q → A0 q) (hf : ∀ q, free q → A0 q) (hAX : ∀ q, q < H.size → AX q → A0 q)
    (kx : ∀ (E : String) (ce : Cell) (q9 : Addr) (u : SX) (t : State) (H1 : Heap) (locs1 : List Loc), t.heap = H1 → s.vm.Alike t.vm → px u → BX E u t → H.size ≤ H1.size → (∀ q : Nat, q < H.size → ¬ AX q → H1[q]? = H[q]?) → va_S A0 H0 H1 locs1 → H1[q9]? = some ce → ce.vm = .none → s.vm.findClass E = some ce.cls → vx_W p l e R s m args below meth c H1 locs1 (cells + mc) (slots + ms) Q (F0 m pc ls rest) q9)
    (kk : ∀ (r : UInt64) (u : S) (t : State) (H1 : Heap) (locs1 : List Loc), t.heap = H1 → s.vm.Alike t.vm → post r u → B u t → H.size ≤ H1.size → (∀ q : Nat, q < H.size → ¬ A1 q → H1[q]? = H[q]?) → va_S A0 H0 H1 locs1 → W p l e R s m args below meth c H1 locs1 (cells + mc) (slots + ms) Q (F0 m (pc + 3) ls (.double r :: rest))) : W p l e R s m args below meth c H locs cells slots Q (F0 m pc ls st0) := by
  intro T hT X
  rcases hr T hT X with ⟨v, st₀, t, T', L, h0, X', hL, e1, e2, ⟨⟨r, u, hv, hp, hb⟩, hF⟩, st⟩ | ⟨q, st₀, t, T', L, E, ce, h0, X', hL, e1, e2, ⟨u, hp, hb, hF⟩, hce, hcv, hcl, st⟩
  · cases hv
    obtain ⟨k1, k2, k3⟩ := vx_keep h0 e1 hS hA hf hL hF
    obtain ⟨t2, a1, b1⟩ := kk r u t T'.heap (locs ++ L) e1.symm (by rw [← e2]; exact X'.warmed.alike) hp hb k1 k2 k3 T' rfl X'
    exact ⟨t2, st t2 a1, b1⟩
  · obtain ⟨k1, k2, k3⟩ := vx_keep h0 e1 hS hAX hf hL hF
    obtain ⟨t2, a1, b1⟩ := kx E ce q u t T'.heap (locs ++ L) e1.symm (by rw [← e2]; exact X'.warmed.alike) hp hb k1 k2 k3 (by rw [e1]; exact hce) hcv hcl T' rfl X'
    exact ⟨t2, st.trans a1, b1⟩
theorem vx_callv {S SX : Type} {post : S → Prop} {px : SX → Prop} {B : S → State → Prop} {BX : String → SX → State → Prop} {AX : Nat → Prop} (hr : vx_Run p l e R s m args below meth c H locs cells slots mc ms (F0 m pc ls st0) rest (va_Qv post B A1 a) (vx_X px BX AX) free) (hS : va_S A0 H0 H locs) (hA : ∀ q, q < H.size → A1 q → A0 q) (hf : ∀ q, free q → A0 q) (hAX : ∀ q, q < H.size → AX q → A0 q)
    (kx : ∀ (E : String) (ce : Cell) (q9 : Addr) (u : SX) (t : State) (H1 : Heap) (locs1 : List Loc), t.heap = H1 → s.vm.Alike t.vm → px u → BX E u t → H.size ≤ H1.size → (∀ q : Nat, q < H.size → ¬ AX q → H1[q]? = H[q]?) → va_S A0 H0 H1 locs1 → H1[q9]? = some ce → ce.vm = .none → s.vm.findClass E = some ce.cls → vx_W p l e R s m args below meth c H1 locs1 (cells + mc) (slots + ms) Q (F0 m pc ls rest) q9)
    (kk : ∀ (u : S) (t : State) (H1 : Heap) (locs1 : List Loc), t.heap = H1 → s.vm.Alike t.vm → post u → B u t → H.size ≤ H1.size → (∀ q : Nat, q < H.size → ¬ A1 q → H1[q]? = H[q]?) → va_S A0 H0 H1 locs1 → W p l e R s m args below meth c H1 locs1 (cells + mc) (slots + ms) Q (F0 m (pc + 3) ls (rest))) : W p l e R s m args below meth c H locs cells slots Q (F0 m pc ls st0) := by
  intro T hT X
  rcases hr T hT X with ⟨v, st₀, t, T', L, h0, X', hL, e1, e2, ⟨⟨u, hv, hp, hb⟩, hF⟩, st⟩ | ⟨q, st₀, t, T', L, E, ce, h0, X', hL, e1, e2, ⟨u, hp, hb, hF⟩, hce, hcv, hcl, st⟩
  · cases hv
    obtain ⟨k1, k2, k3⟩ := vx_keep h0 e1 hS hA hf hL hF
    obtain ⟨t2, a1, b1⟩ := kk u t T'.heap (locs ++ L) e1.symm (by rw [← e2]; exact X'.warmed.alike) hp hb k1 k2 k3 T' rfl X'
    exact ⟨t2, st t2 a1, b1⟩
  · obtain ⟨k1, k2, k3⟩ := vx_keep h0 e1 hS hAX hf hL hF
    obtain ⟨t2, a1, b1⟩ := kx E ce q u t T'.heap (locs ++ L) e1.symm (by rw [← e2]; exact X'.warmed.alike) hp hb k1 k2 k3 (by rw [e1]; exact hce) hcv hcl T' rfl X'
    exact ⟨t2, st.trans a1, b1⟩
/-- caught by the row x of this method's table; the rows ahead don't take it -/
theorem vx_catch {own name : String} {E : String} {ce : Cell} {q : Addr} (hown : s.vm.findClass own = some m.cls) (pre : List ExceptionTableEntry) (x : ExceptionTableEntry) (suf : List ExceptionTableEntry) (hsplit : c.exceptionTable.toList = pre ++ x :: suf)
    (hpass : ∀ z ∈ pre, covers z pc = false ∨ (z.catchType ≠ 0 ∧ ∃ nm : String, (Cond.classLink own z.catchType nm).before args s = true ∧ va_Nc E nm s)) (hx : covers x pc = true) (h0 : x.catchType ≠ 0)
    (hlink : (Cond.classLink own x.catchType name).before args s = true) (hcast : (Cond.castable E name).before args s = true) (hcell : H[q]? = some ce) (hv : ce.vm = .none) (hcl : s.vm.findClass E = some ce.cls)
    (kk : W p l e R s m args below meth c H locs cells slots Q (F0 m x.handlerPc ls [.ref q])) : vx_W p l e R s m args below meth c H locs cells slots Q (F0 m pc ls rest) q := by
  intro T hT X
  have hpl : e.platform.magicAccessors = ({} : Platform).magicAccessors := by rw [X.admits.platform]
  obtain ⟨c3, c4, hc3, hc4, hasg⟩ := Cond.castable_spec hcast
  cases Option.some.inj (hc3.symm.trans hcl)
  obtain ⟨c5, hc5, hcl5⟩ := Cond.classLink_spec hown hlink e.platform hpl
  cases Option.some.inj (hc4.symm.trans hc5)
  obtain ⟨vm', X', st⟩ := X.thenCaughtThrough q (g := F0 m pc ls rest) rfl (Steps.refl _) (by rw [hT]; exact hcell) (by rw [hv]; rfl) (by obtain ⟨k9, h9, -⟩ := Vm.findClass_spec hcl; exact ⟨k9, h9⟩) pre x suf hsplit
    (fun z hz => by
      rcases hpass z hz with h | ⟨hz0, nm, hl1, hn1⟩
      · exact Or.inl h
      · obtain ⟨c6, hc6, hcl6⟩ := Cond.classLink_spec hown hl1 e.platform hpl
        obtain ⟨a8, b8, h1, h2, h3⟩ := hn1
        cases Option.some.inj (h1.symm.trans hcl)
        cases Option.some.inj (h2.symm.trans hc6)
        exact Or.inr ⟨hz0, _, hcl6, h3⟩) hx (Or.inr ⟨h0, c4, hcl5, hasg⟩)
  obtain ⟨t, a1, b1⟩ := kk (T.setVm vm') hT X'
  exact ⟨t, st.trans a1, b1⟩
end Rows
section Ends
variable {p : Program} {l : Launch} {e : Env} {R : Room} {s : State} {m : MethodId} {args : Array Value} {below : List Frame} {meth : Method} {c : Code} {H : Heap} {locs : List Loc} {cells slots : Nat} {Q : State → Prop}
variable {mc ms : Nat} {free : Addr → Prop} {A0 A1 : Nat → Prop} {H0 : Heap} {a : Array Value} {ls : Array Slot} {st0 rest : List Value}
variable {Qc : Array Value → State → Outcome → State → Prop} {XC : String → State → State → Prop}
/-- what a body that may throw owes at its end -/
def vx_MQ (below : List Frame) (Qc : Array Value → State → Outcome → State → Prop) (XC : String → State → State → Prop) (a : Array Value) (s : State) (mc ms : Nat) (free : Addr → Prop) : State → Prop := fun t =>
  ∃ o, t.status = .running ∧ Ended t below o ∧ vx_Q Qc XC mc ms free a s o t
theorem vx_ret {g : JFrame} {mc ms : Nat} (k : W p l e R s m args below meth c H locs cells slots (MQ below Qc args s mc ms free) g) : W p l e R s m args below meth c H locs cells slots (vx_MQ below Qc XC args s mc ms free) g := by
  intro T hT X
  obtain ⟨t, a1, o, b1, b2, b3, b4⟩ := k T hT X
  exact ⟨t, a1, o, b1, b2, Or.inl ⟨b3, b4⟩⟩
/-- not caught here: it goes on to the caller -/
theorem vx_widen {g : JFrame} {q : Addr} {k n : Nat} (h1 : cells ≤ k) (h2 : slots ≤ n) (kk : vx_W p l e R s m args below meth c H locs k n Q g q) : vx_W p l e R s m args below meth c H locs cells slots Q g q := fun T hT X => kk T hT (stand_widen X h1 h2)
theorem vx_out {pc : Nat} {E : String} {ce : Cell} {q : Addr} {mc ms : Nat} (hout : ∀ x ∈ c.exceptionTable.toList, covers x pc = false) (hlocks : meth.locks = false) (hcell : H[q]? = some ce) (hv : ce.vm = .none) (hcl : s.vm.findClass E = some ce.cls)
    (hx : ∀ t : State, t.heap = H → s.vm.Alike t.vm → XC E s t) (hf : ∀ z ∈ locs, free z.base) (hc : cells ≤ mc) (hs : slots ≤ ms) :
    vx_W p l e R s m args below meth c H locs cells slots (vx_MQ below Qc XC args s mc ms free) (F0 m pc ls rest) q := by
  intro T hT X
  obtain ⟨st1, hrun, hend, hW, hsm⟩ := X.leaveThrown q (g := F0 m pc ls rest) rfl rfl rfl hout hlocks
  have hcell9 : (T.setFrames (.throwing q :: below)).heap[q]? = some ce := by
    show T.heap[q]? = some ce
    rw [hT]; exact hcell
  exact ⟨_, st1, .threw q, hrun, hend, Or.inr ⟨q, rfl, E, ce, locs, hx _ hT hW.alike, hcell9, hv, hcl, hW, hsm.mono hc hs, hf⟩⟩
theorem vx_frame {U : State} {k n : Nat} (h : s.sameButNew ({ U with vm := s.vm } : State) locs k n) : s.heap.size ≤ U.heap.size ∧ ∀ q : Nat, q < s.heap.size → (∀ z ∈ locs, z.base ≠ q) → U.heap[q]? = s.heap[q]? := by
  obtain ⟨-, h2, -, -, -, h6⟩ := h
  refine ⟨h2, fun q hq hz => ?_⟩
  obtain ⟨c9, e1, e2, e3, e4⟩ := h6 q _ (Array.getElem?_eq_getElem hq)
  have hs : c9.slots = (s.heap[q]).slots := Array.ext_getElem? fun i => e4 i fun hm => hz _ hm rfl
  have h9 : c9 = s.heap[q] := by
    rw [hs] at e2
    exact e2
  have e5 : U.heap[q]? = some c9 := e1
  rw [e5, h9, Array.getElem?_eq_getElem hq]
/-- the words of a throw but the four that speak of the heap -/
def vx_no (w : Cond) : Bool := decide (w ≠ .isRef (.static Bundle.tN "UNASSIGNED_STACK" Bundle.steD)) && decide (w ≠ .isRef (.static Bundle.tN "SUPPRESSED_SENTINEL" Bundle.listD)) && decide (w ≠ .laysStatic Bundle.tN "UNASSIGNED_STACK" Bundle.steD) && decide (w ≠ .laysStatic Bundle.tN "SUPPRESSED_SENTINEL" Bundle.listD)
def vx_at0 (own : String) (ic : Nat) (X : String) (names : List String) : List Cond := (Bundle.ownAtoms0 own ic X names).filter vx_no
def vx_atS (own : String) (ic : Nat) (X : String) (names : List String) : List Cond := (Bundle.ownAtoms own ic X names).filter vx_no
/-- a word that the tables alone decide, or a good one -/
def vx_ot (w : Cond) : Bool := w.onTables || goodWord w
theorem vx_ot_at {args a' : Array Value} {s U : State} {w : Cond} (hW : s.WarmedH U.vm) (hvm : s.vm = U.vm) (hg : vx_ot w = true) (h : w.before args s = true) : w.before a' U = true := by
  simp only [vx_ot, Bool.or_eq_true] at hg
  rcases hg with hg | hg
  · exact va_tabs hg hvm h
  · exact word_at hW (good_of_word hg) h
/-- a list's words: the good ones out of the method's own list, the others by premises of their own -/
theorem vx_hat {args : Array Value} {s : State} {L B : List Cond} (h1 : ∀ w ∈ L.filter goodWord, w.before args s = true) (h2 : ∀ w ∈ L.filter (fun w => !goodWord w), w ∈ B) (h3 : ∀ w ∈ B, w.before args s = true) : ∀ w ∈ L, w.before args s = true := by
  intro w hw
  by_cases g : goodWord w = true
  · exact h1 w (List.mem_filter.mpr ⟨hw, g⟩)
  · refine h3 w (h2 w (List.mem_filter.mpr ⟨hw, ?_⟩))
    show (!goodWord w) = true
    cases hgw : goodWord w
    · rfl
    · exact absurd hgw g
theorem vx_c {args : Array Value} {s : State} {w : Cond} {B : List Cond} (h : w.before args s = true) (t : ∀ w ∈ B, w.before args s = true) : ∀ w' ∈ w :: B, w'.before args s = true := fun w' h' => (List.mem_cons.mp h').elim (fun e => by rw [e]; exact h) (t w')
theorem vx_n {args : Array Value} {s : State} : ∀ w ∈ ([] : List Cond), w.before args s = true := fun _ h => nomatch h
theorem vx_own {args : Array Value} {s : State} {L : List Cond} (h1 : ∀ w ∈ L.filter vx_no, w.before args s = true)
    (hU : (Cond.isRef (.static Bundle.tN "UNASSIGNED_STACK" Bundle.steD)).before args s = true) (hN : (Cond.isRef (.static Bundle.tN "SUPPRESSED_SENTINEL" Bundle.listD)).before args s = true)
    (lU : (Cond.laysStatic Bundle.tN "UNASSIGNED_STACK" Bundle.steD).before args s = true) (lN : (Cond.laysStatic Bundle.tN "SUPPRESSED_SENTINEL" Bundle.listD).before args s = true) : ∀ w ∈ L, w.before args s = true := by
  intro w hw
  by_cases e1 : w = .isRef (.static Bundle.tN "UNASSIGNED_STACK" Bundle.steD)
  · rw [e1]; exact hU
  · by_cases e2 : w = .isRef (.static Bundle.tN "SUPPRESSED_SENTINEL" Bundle.listD)
    · rw [e2]; exact hN
    · by_cases e3 : w = .laysStatic Bundle.tN "UNASSIGNED_STACK" Bundle.steD
      · rw [e3]; exact lU
      · by_cases e4 : w = .laysStatic Bundle.tN "SUPPRESSED_SENTINEL" Bundle.listD
        · rw [e4]; exact lN
        · exact h1 w (List.mem_filter.mpr ⟨hw, by unfold vx_no; rw [decide_eq_true e1, decide_eq_true e2, decide_eq_true e3, decide_eq_true e4]; rfl⟩)
/-- where a static field lies, its class's statics cell in H -/
def vx_L (C n d : String) (A : Nat → Prop) (U : State) (H : Heap) : Prop := ∃ (c : ClassId) (k : Class) (i : Nat) (f : Field) (a : Nat) (cell : Cell), U.vm.findClass C = some c ∧ U.fieldFound? C n d = some (c, k, i, f) ∧ f.isStatic = true ∧ k.statics = some a ∧ H[a]? = some cell ∧ cell.vm.isStatics = true ∧ cell.cls = c ∧ f.slot < cell.slots.size ∧ k.staticTypes[f.slot]? = some f.type ∧ ¬ A a
theorem vx_L.moved {C n d : String} {A : Nat → Prop} {u U : State} {H : Heap} (hvm : u.vm.Alike U.vm) (h : vx_L C n d A u H) : vx_L C n d A U H := by
  obtain ⟨c, k, i, f, a, cell, h1, h2, h3, h4, h5, h6, h7, h8, h9, h10⟩ := h
  obtain ⟨k', hi', he⟩ := State.fieldFound?_setVm hvm h2
  exact ⟨c, k', i, f, a, cell, by rw [hvm.findClass]; exact h1, hi', h3, by rw [he]; exact h4, h5, h6, h7, h8, by rw [he]; exact h9, h10⟩
theorem vx_L.kept {C n d : String} {A : Nat → Prop} {U : State} {H H1 : Heap} (h : vx_L C n d A U H) (hq : ∀ a : Nat, a < H.size → ¬ A a → H1[a]? = H[a]?) : vx_L C n d A U H1 := by
  obtain ⟨c, k, i, f, a, cell, h1, h2, h3, h4, h5, h6, h7, h8, h9, h10⟩ := h
  exact ⟨c, k, i, f, a, cell, h1, h2, h3, h4, by rw [hq a (Array.getElem?_eq_some_iff.mp h5).1 h10]; exact h5, h6, h7, h8, h9, h10⟩
theorem vx_L.narrow {C n d : String} {A B : Nat → Prop} {U : State} {H : Heap} (h : vx_L C n d A U H) (hAB : ∀ q, B q → A q) : vx_L C n d B U H := by
  obtain ⟨c, k, i, f, a, cell, h1, h2, h3, h4, h5, h6, h7, h8, h9, h10⟩ := h
  exact ⟨c, k, i, f, a, cell, h1, h2, h3, h4, h5, h6, h7, h8, h9, fun z => h10 (hAB _ z)⟩
theorem vx_L.word {C n d : String} {A : Nat → Prop} {s : State} {args : Array Value} (h : vx_L C n d A s s.heap) : (Cond.laysStatic C n d).before args s = true := by
  obtain ⟨c, k, i, f, a, cell, h1, h2, h3, h4, h5, h6, h7, h8, h9, -⟩ := h
  show (Cond.laysStatic C n d).holds args s none s [] = true
  exact Cond.laysStatic_of h1 h2 h3 h4 h5 h6 h7 h8 h9
/-- .. and what it holds: null or some reference -/
def vx_Zq (C n d : String) (A : Nat → Prop) (U : State) (H : Heap) : Prop := va_Zq C n d A U H ∧ vx_L C n d A U H
theorem vx_Zq.moved {C n d : String} {A : Nat → Prop} {u U : State} {H : Heap} (hvm : u.vm.Alike U.vm) (h : vx_Zq C n d A u H) : vx_Zq C n d A U H := ⟨va_Zq.moved hvm h.1, vx_L.moved hvm h.2⟩
theorem vx_Zq.kept {C n d : String} {A : Nat → Prop} {U : State} {H H1 : Heap} (h : vx_Zq C n d A U H) (hq : ∀ a : Nat, a < H.size → ¬ A a → H1[a]? = H[a]?) : vx_Zq C n d A U H1 := ⟨va_Zq.kept h.1 hq, vx_L.kept h.2 hq⟩
theorem vx_Zq.narrow {C n d : String} {A B : Nat → Prop} {U : State} {H : Heap} (h : vx_Zq C n d A U H) (hAB : ∀ q, B q → A q) : vx_Zq C n d B U H := ⟨va_Zq.narrow h.1 hAB, vx_L.narrow h.2 hAB⟩
theorem vx_Zqof {args : Array Value} {s : State} {C n d : String} {A : Nat → Prop} (hl : (Cond.laysStatic C n d).before args s = true) (hini : (Cond.initialized C).before args s = true) (h : (Cond.isRef (.static C n d)).before args s = true) (hA : ∀ a : Nat, a < s.heap.size → ¬ A a) : vx_Zq C n d A s s.heap := by
  refine ⟨va_Zqof hl hini h hA, ?_⟩
  obtain ⟨c, k, i, f, a, cell, h1, h2, h3, h4, h5, h6, h7, h8, h9⟩ := Cond.laysStatic_spec hl
  exact ⟨c, k, i, f, a, cell, h1, h2, h3, h4, h5, h6, h7, h8, h9, hA a (Array.getElem?_eq_some_iff.mp h5).1⟩
theorem vx_isRef {C n d : String} {v : Value} {A : Nat → Prop} {s : State} {args : Array Value} (h : va_Z C n d v A s s.heap) (hv : v.isRef = true) : (Cond.isRef (.static C n d)).before args s = true := by
  obtain ⟨cf, kf, fi, f, a, cell, h1, h2, h3, h4, h5, h6, h7, -⟩ := h
  have he : (Term.static C n d).eval args s none [] s = some v := by
    simp [Term.eval, State.fieldNamed?, h1, h2, h4, h5, h6, h7]
  simp only [Cond.before, Cond.holds, Cond.value, he]
  cases v <;> simp_all [Value.isRef]
theorem vx_isRefq {C n d : String} {A : Nat → Prop} {s : State} {args : Array Value} (h : va_Zq C n d A s s.heap) : (Cond.isRef (.static C n d)).before args s = true := by
  rcases h with h | ⟨t, h⟩
  · exact vx_isRef h rfl
  · exact vx_isRef h rfl
/-- the same frame, seen from here: as if the method were called anew in this heap -/
theorem vx_rebase {T : State} (X : Stand p l e R s m args below meth c T locs cells slots) {R' : Room} (hf : R'.frames ≤ R.frames) (hl : R'.locals ≤ R.locals) (hc : cells + R'.cells ≤ R.cells) (hs : slots + R'.slots ≤ R.slots) :
    Stand p l e R' ((T.setVm s.vm).setFrames (.invoking m args :: below)) m args below meth c T [] 0 0 := by
  have htop : (T.setVm s.vm).topJava?.isSome := X.here.top
  have hF : ((T.setVm s.vm).setFrames (.invoking m args :: below)).frames = .invoking m args :: below := State.frames_setFrames _ (State.cur_lt_of_top htop)
  obtain ⟨g₀, hg0⟩ := Option.isSome_iff_exists.mp htop
  obtain ⟨r, hr⟩ := State.topJava?_eq_some.mp hg0
  have hl9 : e.platform.stackLimits (T.setVm s.vm).me = e.platform.stackLimits s.me := X.limits
  have hb9 : (T.setVm s.vm).me.stackBytes = s.me.stackBytes := X.bytes
  refine ⟨X.admits, X.cas, X.clock, hF, ?_, X.hears, X.method, X.code, X.here, X.tail, X.warmed, ?_, ?_, ?_⟩
  · have h := X.room
    have hU : ((T.setVm s.vm).setFrames (.invoking m args :: below)).localsInUse = s.localsInUse := by
      rw [State.localsInUse_invoking hF (meth := meth) (c := c) X.method X.code, State.localsInUse_invoking X.frames X.method X.code]
    simp only [State.hasRoom, Bool.and_eq_true, decide_eq_true_eq] at h ⊢
    obtain ⟨⟨⟨⟨h1, h2, h3, h4, h5, h6⟩, h7⟩, h8⟩, h9⟩ := h
    rw [X.frames, List.length_cons] at h2 h3
    have q1 := X.heapSize
    have q2 := X.used
    simp only [hF, hU, List.length_cons, State.stackLimits_setFrames, State.stackBytes_setFrames, hl9, hb9]
    refine ⟨⟨⟨⟨by omega, by omega, by omega, by omega, by omega, h6⟩, ?_⟩, ?_⟩, X.book⟩
    · show T.heap.size + R'.cells ≤ e.platform.maxCells
      omega
    · show T.slotsUsed + R'.slots ≤ e.platform.maxSlots
      omega
  · rw [State.stackLimits_setFrames]; rfl
  · rw [State.stackBytes_setFrames]; rfl
  · refine ⟨?_, Nat.le_refl _, Nat.le_refl _, ?_, ?_, fun a c9 h9 => ⟨c9, h9, rfl, rfl, fun _ _ => rfl⟩⟩
    · obtain ⟨t, ht, -⟩ := State.frames_cons hr
      show T.setVm s.vm = { ((T.setVm s.vm).setFrames (.invoking m args :: below)).setFrames (T.setVm s.vm).frames with heap := T.heap, slotsUsed := T.slotsUsed }
      rw [State.setFrames_setFrames, State.setFrames_self ht]
      rfl
    · show T.slotsUsed = T.slotsUsed + ((T.heap.toList.drop T.heap.size).map (·.slots.size)).sum
      rw [List.drop_eq_nil_of_le (Nat.le_of_eq Array.length_toList)]
      rfl
    · show ((T.heap.toList.drop T.heap.size).map (·.slots.size)).sum ≤ 0
      rw [List.drop_eq_nil_of_le (Nat.le_of_eq Array.length_toList)]
      exact Nat.le_refl _
/-- 'throw new E()': new; dup; invokespecial; athrow -/
theorem vx_throw0 {cc : ByteArray} {pc : Nat} (hexec : p.tables.exec = Jvm.exec) (hb : c.code = cc) (hl : l.stackTraces = false) {own cls : String} {names : List String} {ik ic mc ms : Nat} {A : Nat → Prop}
    (hown : s.vm.findClass own = some m.cls) (hcls : Bundle.fit cls = true) (hnames : ∀ n ∈ names, Bundle.fit n = true)
    (hk : (Cond.classLink own ik cls).before args s = true) (hini : (Cond.initialized cls).before args s = true) (hat : ∀ w ∈ vx_at0 own ic cls names, w.before args s = true)
    (hgood : ∀ w ∈ Cond.classLink own ik cls :: Cond.initialized cls :: vx_at0 own ic cls names, vx_ot w = true)
    (hU : vx_Zq Bundle.tN "UNASSIGNED_STACK" Bundle.steD A s s.heap) (hN : vx_Zq Bundle.tN "SUPPRESSED_SENTINEL" Bundle.listD A s s.heap) (hS : va_S A s.heap H locs) (hsize : ls.size = c.maxLocals)
    (d0 : decode cc pc = .ok (.new ik, 3)) (d3 : decode cc (pc + 3) = .ok (.dup, 1)) (d4 : decode cc (pc + 4) = .ok (.invokespecial ic, 3)) (d7 : decode cc (pc + 7) = .ok (.athrow, 1))
    (hout : ∀ x ∈ c.exceptionTable.toList, covers x (pc + 7) = false)
    (hRframes : names.length + 3 < R.frames) (hRlocals : (rest.map fun v => v.category).sum + (13 * (names.length + 1) + 42) ≤ R.locals) (hRcells : cells + 1 ≤ R.cells) (hRslots : slots + 6 ≤ R.slots) (hlocks : meth.locks = false)
    (hx : ∀ t : State, s.vm.Alike t.vm → H.size ≤ t.heap.size → (∀ q : Nat, q < H.size → t.heap[q]? = H[q]?) → XC cls s t)
    (hf : ∀ z ∈ locs, free z.base) (hc : cells + 1 ≤ mc) (hs : slots + 6 ≤ ms) :
    W p l e R s m args below meth c H locs cells slots (vx_MQ below Qc XC args s mc ms free) (F0 m pc ls rest) := by
  intro T hT X
  have htr : e.platform.stackTraces = false := (show e.platform.stackTraces = l.stackTraces by rw [X.admits.platform]).trans hl
  have Y := vx_rebase X (R' := { frames := R.frames, locals := R.locals, cells := 1, slots := 6 }) (Nat.le_refl _) (Nat.le_refl _) hRcells hRslots
  obtain ⟨s', hA⟩ : ∃ z, z = (T.setVm s.vm).setFrames (.invoking m args :: below) := ⟨_, rfl⟩
  rw [← hA] at Y
  have hvm : s'.vm = s.vm := by rw [hA]; rfl
  have hhp : s'.heap = H := by rw [hA]; exact hT
  have hW0 : s.WarmedH s'.vm := by rw [hvm]; exact State.WarmedH.refl s
  have hat' : ∀ w ∈ vx_at0 own ic cls names, w.before args s' = true := fun w hw => vx_ot_at hW0 hvm.symm (hgood w (List.mem_cons_of_mem _ (List.mem_cons_of_mem _ hw))) (hat w hw)
  have hk' : (Cond.classLink own ik cls).before args s' = true := vx_ot_at hW0 hvm.symm (hgood _ List.mem_cons_self) hk
  have hini' : (Cond.initialized cls).before args s' = true := vx_ot_at hW0 hvm.symm (hgood _ (List.mem_cons_of_mem _ List.mem_cons_self)) hini
  have hU' : vx_Zq Bundle.tN "UNASSIGNED_STACK" Bundle.steD A s' s'.heap := by rw [hhp]; exact vx_Zq.moved hW0.alike (hU.kept hS.2.1)
  have hN' : vx_Zq Bundle.tN "SUPPRESSED_SENTINEL" Bundle.listD A s' s'.heap := by rw [hhp]; exact vx_Zq.moved hW0.alike (hN.kept hS.2.1)
  have h : ∀ w ∈ Bundle.ownAtoms0 own ic cls names, w.before args s' = true := vx_own hat' (vx_isRefq hU'.1) (vx_isRefq hN'.1) hU'.2.word hN'.2.word
  have hown' : s'.vm.findClass own = some m.cls := by rw [hvm]; exact hown
  have hins : (Cond.instantiable cls 6).before args s' = true := h _ (by simp [Bundle.ownAtoms0])
  obtain ⟨vm₁, cX, kX, hfX, hkX, -, -, X₁, st1⟩ := Y.newCold hexec (own := own) (C := cls) (index := ik) (n := 6) hown' hk' hins hini'
    (g := F0 m pc ls rest) rfl (by rw [hb]; exact d0) (Nat.le_refl _) (Nat.le_refl _)
  generalize hT1 : (T.setVm vm₁).pushCell { cls := cX, slots := kX.instanceTypes.map defaultValue, vm := .none } = T1 at X₁ st1
  have hcat : (Value.ref T.heap.size).category = 1 := rfl
  have hcellA : T1.heap[T.heap.size]? = some (freshCell cX kX) := by rw [← hT1]; exact State.heap_pushCell_size _ _
  have d3' : decode c.code (pc + 3) = .ok (.dup, 1) := by rw [hb]; exact d3
  obtain ⟨U, hsteps, hrun, hend, hW, hsame, ce, hce, hO⟩ := X₁.ctorThrow0 hexec htr (own := own) (cls := cls) (names := names) (ic := ic) hown' hcls hnames h (fun x hx => nomatch hx) hfX hkX hcellA (by rw [hhp, hT]; exact Nat.le_refl _)
    (g := { method := m, pc := pc + 4, locals := ls, stack := .ref T.heap.size :: .ref T.heap.size :: rest, locked := none }) rfl hsize rfl rfl (rest := rest) rfl
    (by rw [hb]; exact d4) (by rw [hb]; exact d7) hout hRframes (by simp only [List.map_cons, List.sum_cons, hcat]; omega) hlocks
  obtain ⟨f1, f2⟩ := vx_frame hsame
  rw [hhp] at f1 f2
  have hWs : s.WarmedH U.vm := State.WarmedH.trans hW0 hW
  have hcl : s.vm.findClass cls = some ce.cls := by
    have h9 := hO.cls
    rw [hvm] at h9
    exact h9
  have hall : s.sameButNew ({ U with vm := s.vm } : State) locs mc ms := by
    subst hA
    obtain ⟨e1, e2⟩ := hsame
    rw [State.setFrames_setFrames] at e1
    have h2 : (T.setVm s.vm).sameButNew ({ U with vm := s.vm } : State) [] (0 + 1) (0 + 6) := ⟨e1, e2⟩
    have h3 := X.same.trans h2
    rw [List.append_nil] at h3
    exact h3.mono hc hs
  refine ⟨U, ?_, .threw T.heap.size, hrun, hend, Or.inr ⟨T.heap.size, rfl, cls, ce, locs, hx U hWs.alike f1 (fun q hq => f2 q hq (fun z hz => nomatch hz)), hce, hO.vm, hcl, hWs, hall, hf⟩⟩
  refine st1 _ ?_
  show Steps p.tables e below (T1.setTop { method := m, pc := pc + 3, locals := ls, stack := .ref T.heap.size :: rest, locked := none }) _
  jvm_step X₁.here [X₁.here.top, hexec, d3', Value.category]
  exact hsteps
/-- 'throw new E("text")': new; dup; ldc; invokespecial; athrow -/
theorem vx_throwS {cc : ByteArray} {pc : Nat} (hexec : p.tables.exec = Jvm.exec) (hb : c.code = cc) (hl : l.stackTraces = false) {own cls text : String} {names : List String} {ik is ic mc ms sa : Nat} {A : Nat → Prop}
    (hown : s.vm.findClass own = some m.cls) (hcls : Bundle.fit cls = true) (hnames : ∀ n ∈ names, Bundle.fit n = true)
    (hk : (Cond.classLink own ik cls).before args s = true) (hini : (Cond.initialized cls).before args s = true) (hstr : vk_R own is text sa s) (hat : ∀ w ∈ vx_atS own ic cls names, w.before args s = true)
    (hgood : ∀ w ∈ Cond.classLink own ik cls :: Cond.initialized cls :: vx_atS own ic cls names, vx_ot w = true)
    (hU : vx_Zq Bundle.tN "UNASSIGNED_STACK" Bundle.steD A s s.heap) (hN : vx_Zq Bundle.tN "SUPPRESSED_SENTINEL" Bundle.listD A s s.heap) (hS : va_S A s.heap H locs) (hsize : ls.size = c.maxLocals)
    (d0 : decode cc pc = .ok (.new ik, 3)) (d3 : decode cc (pc + 3) = .ok (.dup, 1)) (d4 : decode cc (pc + 4) = .ok (.ldc is, 2)) (d6 : decode cc (pc + 6) = .ok (.invokespecial ic, 3)) (d9 : decode cc (pc + 9) = .ok (.athrow, 1))
    (hout : ∀ x ∈ c.exceptionTable.toList, covers x (pc + 9) = false)
    (hRframes : names.length + 3 < R.frames) (hRlocals : (rest.map fun v => v.category).sum + (13 * (names.length + 1) + 43) ≤ R.locals) (hRcells : cells + 1 ≤ R.cells) (hRslots : slots + 6 ≤ R.slots) (hlocks : meth.locks = false)
    (hx : ∀ t : State, s.vm.Alike t.vm → H.size ≤ t.heap.size → (∀ q : Nat, q < H.size → t.heap[q]? = H[q]?) → XC cls s t)
    (hf : ∀ z ∈ locs, free z.base) (hc : cells + 1 ≤ mc) (hs : slots + 6 ≤ ms) :
    W p l e R s m args below meth c H locs cells slots (vx_MQ below Qc XC args s mc ms free) (F0 m pc ls rest) := by
  intro T hT X
  have htr : e.platform.stackTraces = false := (show e.platform.stackTraces = l.stackTraces by rw [X.admits.platform]).trans hl
  have Y := vx_rebase X (R' := { frames := R.frames, locals := R.locals, cells := 1, slots := 6 }) (Nat.le_refl _) (Nat.le_refl _) hRcells hRslots
  obtain ⟨s', hA⟩ : ∃ z, z = (T.setVm s.vm).setFrames (.invoking m args :: below) := ⟨_, rfl⟩
  rw [← hA] at Y
  have hvm : s'.vm = s.vm := by rw [hA]; rfl
  have hhp : s'.heap = H := by rw [hA]; exact hT
  have hW0 : s.WarmedH s'.vm := by rw [hvm]; exact State.WarmedH.refl s
  have hat' : ∀ w ∈ vx_atS own ic cls names, w.before args s' = true := fun w hw => vx_ot_at hW0 hvm.symm (hgood w (List.mem_cons_of_mem _ (List.mem_cons_of_mem _ hw))) (hat w hw)
  have hk' : (Cond.classLink own ik cls).before args s' = true := vx_ot_at hW0 hvm.symm (hgood _ List.mem_cons_self) hk
  have hini' : (Cond.initialized cls).before args s' = true := vx_ot_at hW0 hvm.symm (hgood _ (List.mem_cons_of_mem _ List.mem_cons_self)) hini
  have hU' : vx_Zq Bundle.tN "UNASSIGNED_STACK" Bundle.steD A s' s'.heap := by rw [hhp]; exact vx_Zq.moved hW0.alike (hU.kept hS.2.1)
  have hN' : vx_Zq Bundle.tN "SUPPRESSED_SENTINEL" Bundle.listD A s' s'.heap := by rw [hhp]; exact vx_Zq.moved hW0.alike (hN.kept hS.2.1)
  have h : ∀ w ∈ Bundle.ownAtoms own ic cls names, w.before args s' = true := vx_own hat' (vx_isRefq hU'.1) (vx_isRefq hN'.1) hU'.2.word hN'.2.word
  have hown' : s'.vm.findClass own = some m.cls := by rw [hvm]; exact hown
  have hins : (Cond.instantiable cls 6).before args s' = true := h _ (by simp [Bundle.ownAtoms])
  obtain ⟨vm₁, cX, kX, hfX, hkX, -, -, X₁, st1⟩ := Y.newCold hexec (own := own) (C := cls) (index := ik) (n := 6) hown' hk' hins hini'
    (g := F0 m pc ls rest) rfl (by rw [hb]; exact d0) (Nat.le_refl _) (Nat.le_refl _)
  generalize hT1 : (T.setVm vm₁).pushCell { cls := cX, slots := kX.instanceTypes.map defaultValue, vm := .none } = T1 at X₁ st1
  have hcat : (Value.ref T.heap.size).category = 1 := rfl
  have hcellA : T1.heap[T.heap.size]? = some (freshCell cX kX) := by rw [← hT1]; exact State.heap_pushCell_size _ _
  have d3' : decode c.code (pc + 3) = .ok (.dup, 1) := by rw [hb]; exact d3
  have d4' : decode c.code (pc + 4) = .ok (.ldc is, 2) := by rw [hb]; exact d4
  have hstr' : vk_R own is text sa s' := vk_R.warm hW0 hstr
  obtain ⟨U, hsteps, hrun, hend, hW, hsame, ce, hce, hO⟩ := X₁.ctorThrowS hexec htr (own := own) (cls := cls) (names := names) (ic := ic) hown' hcls hnames h (fun x hx => nomatch hx) hfX hkX hcellA (by rw [hhp, hT]; exact Nat.le_refl _) (msg := .ref sa) rfl
    (g := { method := m, pc := pc + 6, locals := ls, stack := .ref sa :: .ref T.heap.size :: .ref T.heap.size :: rest, locked := none }) rfl hsize rfl rfl (rest := rest) rfl
    (by rw [hb]; exact d6) (by rw [hb]; exact d9) hout hRframes (by simp only [List.map_cons, List.sum_cons, hcat]; omega) hlocks
  obtain ⟨f1, f2⟩ := vx_frame hsame
  rw [hhp] at f1 f2
  have hWs : s.WarmedH U.vm := State.WarmedH.trans hW0 hW
  have hcl : s.vm.findClass cls = some ce.cls := by
    have h9 := hO.cls
    rw [hvm] at h9
    exact h9
  have hall : s.sameButNew ({ U with vm := s.vm } : State) locs mc ms := by
    subst hA
    obtain ⟨e1, e2⟩ := hsame
    rw [State.setFrames_setFrames] at e1
    have h2 : (T.setVm s.vm).sameButNew ({ U with vm := s.vm } : State) [] (0 + 1) (0 + 6) := ⟨e1, e2⟩
    have h3 := X.same.trans h2
    rw [List.append_nil] at h3
    exact h3.mono hc hs
  refine ⟨U, ?_, .threw T.heap.size, hrun, hend, Or.inr ⟨T.heap.size, rfl, cls, ce, locs, hx U hWs.alike f1 (fun q hq => f2 q hq (fun z hz => nomatch hz)), hce, hO.vm, hcl, hWs, hall, hf⟩⟩
  refine st1 _ ?_
  show Steps p.tables e below (T1.setTop { method := m, pc := pc + 3, locals := ls, stack := .ref T.heap.size :: rest, locked := none }) _
  jvm_step X₁.here [X₁.here.top, hexec, d3', Value.category]
  exact X₁.ldcString hexec (own := own) (text := text) (index := is) (a := sa) hown' hstr'.1 hstr'.2
    (g := { method := m, pc := pc + 4, locals := ls, stack := .ref T.heap.size :: .ref T.heap.size :: rest, locked := none }) rfl d4' _ hsteps
/-- 'throw new E("text")', the text by a wide index -/
theorem vx_throwSW {cc : ByteArray} {pc : Nat} (hexec : p.tables.exec = Jvm.exec) (hb : c.code = cc) (hl : l.stackTraces = false) {own cls text : String} {names : List String} {ik is ic mc ms sa : Nat} {A : Nat → Prop}
    (hown : s.vm.findClass own = some m.cls) (hcls : Bundle.fit cls = true) (hnames : ∀ n ∈ names, Bundle.fit n = true)
    (hk : (Cond.classLink own ik cls).before args s = true) (hini : (Cond.initialized cls).before args s = true) (hstr : vk_R own is text sa s) (hat : ∀ w ∈ vx_atS own ic cls names, w.before args s = true)
    (hgood : ∀ w ∈ Cond.classLink own ik cls :: Cond.initialized cls :: vx_atS own ic cls names, vx_ot w = true)
    (hU : vx_Zq Bundle.tN "UNASSIGNED_STACK" Bundle.steD A s s.heap) (hN : vx_Zq Bundle.tN "SUPPRESSED_SENTINEL" Bundle.listD A s s.heap) (hS : va_S A s.heap H locs) (hsize : ls.size = c.maxLocals)
    (d0 : decode cc pc = .ok (.new ik, 3)) (d3 : decode cc (pc + 3) = .ok (.dup, 1)) (d4 : decode cc (pc + 4) = .ok (.ldc_w is, 3)) (d7 : decode cc (pc + 7) = .ok (.invokespecial ic, 3)) (d10 : decode cc (pc + 10) = .ok (.athrow, 1))
    (hout : ∀ x ∈ c.exceptionTable.toList, covers x (pc + 10) = false)
    (hRframes : names.length + 3 < R.frames) (hRlocals : (rest.map fun v => v.category).sum + (13 * (names.length + 1) + 43) ≤ R.locals) (hRcells : cells + 1 ≤ R.cells) (hRslots : slots + 6 ≤ R.slots) (hlocks : meth.locks = false)
    (hx : ∀ t : State, s.vm.Alike t.vm → H.size ≤ t.heap.size → (∀ q : Nat, q < H.size → t.heap[q]? = H[q]?) → XC cls s t)
    (hf : ∀ z ∈ locs, free z.base) (hc : cells + 1 ≤ mc) (hs : slots + 6 ≤ ms) :
    W p l e R s m args below meth c H locs cells slots (vx_MQ below Qc XC args s mc ms free) (F0 m pc ls rest) := by
  intro T hT X
  have htr : e.platform.stackTraces = false := (show e.platform.stackTraces = l.stackTraces by rw [X.admits.platform]).trans hl
  have Y := vx_rebase X (R' := { frames := R.frames, locals := R.locals, cells := 1, slots := 6 }) (Nat.le_refl _) (Nat.le_refl _) hRcells hRslots
  obtain ⟨s', hA⟩ : ∃ z, z = (T.setVm s.vm).setFrames (.invoking m args :: below) := ⟨_, rfl⟩
  rw [← hA] at Y
  have hvm : s'.vm = s.vm := by rw [hA]; rfl
  have hhp : s'.heap = H := by rw [hA]; exact hT
  have hW0 : s.WarmedH s'.vm := by rw [hvm]; exact State.WarmedH.refl s
  have hat' : ∀ w ∈ vx_atS own ic cls names, w.before args s' = true := fun w hw => vx_ot_at hW0 hvm.symm (hgood w (List.mem_cons_of_mem _ (List.mem_cons_of_mem _ hw))) (hat w hw)
  have hk' : (Cond.classLink own ik cls).before args s' = true := vx_ot_at hW0 hvm.symm (hgood _ List.mem_cons_self) hk
  have hini' : (Cond.initialized cls).before args s' = true := vx_ot_at hW0 hvm.symm (hgood _ (List.mem_cons_of_mem _ List.mem_cons_self)) hini
  have hU' : vx_Zq Bundle.tN "UNASSIGNED_STACK" Bundle.steD A s' s'.heap := by rw [hhp]; exact vx_Zq.moved hW0.alike (hU.kept hS.2.1)
  have hN' : vx_Zq Bundle.tN "SUPPRESSED_SENTINEL" Bundle.listD A s' s'.heap := by rw [hhp]; exact vx_Zq.moved hW0.alike (hN.kept hS.2.1)
  have h : ∀ w ∈ Bundle.ownAtoms own ic cls names, w.before args s' = true := vx_own hat' (vx_isRefq hU'.1) (vx_isRefq hN'.1) hU'.2.word hN'.2.word
  have hown' : s'.vm.findClass own = some m.cls := by rw [hvm]; exact hown
  have hins : (Cond.instantiable cls 6).before args s' = true := h _ (by simp [Bundle.ownAtoms])
  obtain ⟨vm₁, cX, kX, hfX, hkX, -, -, X₁, st1⟩ := Y.newCold hexec (own := own) (C := cls) (index := ik) (n := 6) hown' hk' hins hini'
    (g := F0 m pc ls rest) rfl (by rw [hb]; exact d0) (Nat.le_refl _) (Nat.le_refl _)
  generalize hT1 : (T.setVm vm₁).pushCell { cls := cX, slots := kX.instanceTypes.map defaultValue, vm := .none } = T1 at X₁ st1
  have hcat : (Value.ref T.heap.size).category = 1 := rfl
  have hcellA : T1.heap[T.heap.size]? = some (freshCell cX kX) := by rw [← hT1]; exact State.heap_pushCell_size _ _
  have d3' : decode c.code (pc + 3) = .ok (.dup, 1) := by rw [hb]; exact d3
  have d4' : decode c.code (pc + 4) = .ok (.ldc_w is, 3) := by rw [hb]; exact d4
  have hstr' : vk_R own is text sa s' := vk_R.warm hW0 hstr
  obtain ⟨U, hsteps, hrun, hend, hW, hsame, ce, hce, hO⟩ := X₁.ctorThrowS hexec htr (own := own) (cls := cls) (names := names) (ic := ic) hown' hcls hnames h (fun x hx => nomatch hx) hfX hkX hcellA (by rw [hhp, hT]; exact Nat.le_refl _) (msg := .ref sa) rfl
    (g := { method := m, pc := pc + 7, locals := ls, stack := .ref sa :: .ref T.heap.size :: .ref T.heap.size :: rest, locked := none }) rfl hsize rfl rfl (rest := rest) rfl
    (by rw [hb]; exact d7) (by rw [hb]; exact d10) hout hRframes (by simp only [List.map_cons, List.sum_cons, hcat]; omega) hlocks
  obtain ⟨f1, f2⟩ := vx_frame hsame
  rw [hhp] at f1 f2
  have hWs : s.WarmedH U.vm := State.WarmedH.trans hW0 hW
  have hcl : s.vm.findClass cls = some ce.cls := by
    have h9 := hO.cls
    rw [hvm] at h9
    exact h9
  have hall : s.sameButNew ({ U with vm := s.vm } : State) locs mc ms := by
    subst hA
    obtain ⟨e1, e2⟩ := hsame
    rw [State.setFrames_setFrames] at e1
    have h2 : (T.setVm s.vm).sameButNew ({ U with vm := s.vm } : State) [] (0 + 1) (0 + 6) := ⟨e1, e2⟩
    have h3 := X.same.trans h2
    rw [List.append_nil] at h3
    exact h3.mono hc hs
  refine ⟨U, ?_, .threw T.heap.size, hrun, hend, Or.inr ⟨T.heap.size, rfl, cls, ce, locs, hx U hWs.alike f1 (fun q hq => f2 q hq (fun z hz => nomatch hz)), hce, hO.vm, hcl, hWs, hall, hf⟩⟩
  refine st1 _ ?_
  show Steps p.tables e below (T1.setTop { method := m, pc := pc + 3, locals := ls, stack := .ref T.heap.size :: rest, locked := none }) _
  jvm_step X₁.here [X₁.here.top, hexec, d3', Value.category]
  exact X₁.ldcStringW hexec (own := own) (text := text) (index := is) (a := sa) hown' hstr'.1 hstr'.2
    (g := { method := m, pc := pc + 4, locals := ls, stack := .ref T.heap.size :: .ref T.heap.size :: rest, locked := none }) rfl d4' _ hsteps
end Ends
section Bodies
variable {l : Launch}
theorem vx_ofW {y : MethodName} {ws ws' : List Cond} {rm : Room} {Pc : Array Value → State → Prop} {Qc : Array Value → State → Outcome → State → Prop} {XC : String → State → State → Prop} {mc ms : Nat} {free : Addr → Prop} {cc : ByteArray} {maxL : Nat} {ret : Option FieldType}
    (hy : plainName y.cls = true) (hw : ws = Cond.code y cc maxL ret :: ws')
    (body : ∀ p e s m args below meth c s₁, BodyLoose p l y (headSpec ws rm) cc maxL ret e s m args below meth c s₁ → c.maxLocals = maxL → (∀ x ∈ c.exceptionTable.toList, False) → Pc args s →
      W p l e (headSpec ws rm).room s m args below meth c s.heap [] 0 0 (vx_MQ below Qc XC args s mc ms free) (entryFrame m args maxL)) : vx_Met l y ws rm Pc Qc XC mc ms free := by
  refine MetFree.of_bodyS (code := cc) (maxLocals := maxL) (ret := ret) hy ?_ ?_
  · intro args s m h hn
    obtain ⟨meth, c, h1, h2, h3, h4, h5, h6, -, -⟩ := Cond.code_spec hn (atoms_spec (ws := ws) h _ (by rw [hw]; exact List.mem_cons_self))
    exact ⟨meth, c, h1, h2, h3, h4, h5, h6⟩
  · intro p e s m args below meth c s₁ B hml hP _
    have hh0 : s₁.heap = s.heap := by rw [B.state]; rfl
    have ht : ∀ x ∈ c.exceptionTable.toList, False := by
      obtain ⟨meth9, c9, h1, h2, -, -, -, -, h7, -⟩ := Cond.code_spec B.named (atoms_spec (ws := ws) B.pre _ (by rw [hw]; exact List.mem_cons_self))
      cases Option.some.inj (h1.symm.trans B.method)
      cases Option.some.inj (h2.symm.trans (Stand.of_body B).code)
      intro x hx
      rw [Array.isEmpty_iff.mp h7] at hx
      cases hx
    obtain ⟨t, a1, o, b1, b2, b3⟩ := body p e s m args below meth c s₁ B hml ht hP s₁ hh0 (Stand.of_body B)
    exact ⟨t, o, a1, b1, b2, b3⟩
/-- the table of a body with handlers -/
theorem vx_table {p : Program} {x y : MethodName} {S : Spec} {cc bytes : ByteArray} {maxL maxL' : Nat} {ret ret' : Option FieldType} {e : Env} {s s₁ : State} {m : MethodId} {args : Array Value} {below : List Frame} {meth : Method} {c : Code} {hh : List (Nat × Nat × Nat × Nat)}
    (B : BodyLoose p l y S cc maxL ret e s m args below meth c s₁) (h : (Cond.codeWith y bytes maxL' ret' hh).before args s = true) : c.exceptionTable.toList = tableOf hh := by
  obtain ⟨m9, meth9, c9, hn9, h1, h2, -, -, h6, -⟩ := Cond.codeWith_spec h
  cases Option.some.inj (hn9.symm.trans B.named)
  cases Option.some.inj (h1.symm.trans B.method)
  cases Option.some.inj (h2.symm.trans (Stand.of_body B).code)
  rw [← h6, table_eq]
end Bodies
end VXA
/-! ===== END ===== -/
/-! ===== BEGIN a static call of a method with an exception table ===== -/
section VXS
variable {p : Program} {l : Launch} {e : Env} {R : Room} {s : State} {m : MethodId} {args : Array Value} {below : List Frame} {meth : Method} {c : Code} {T : State} {H : Heap} {locs : List Loc} {cells slots : Nat}
abbrev vx_CSW (R : Room) (s : State) (args : Array Value) (own : String) (index : Nat) (y : MethodName) (bytes : ByteArray) (maxL : Nat) (ret : Option FieldType) (hh : List (Nat × Nat × Nat × Nat)) (ws : List Cond) (rm : Room) (mc ms n : Nat) : Prop :=
  (rm.cells = mc ∧ rm.slots = ms ∧ rm.frames + 1 ≤ R.frames ∧ 8 + (maxL + 11) + rm.locals ≤ R.locals ∧ (∀ w ∈ ws, ∀ (a' : Array Value) (U : State), s.WarmedH U.vm → w.before a' U = true) ∧ Cond.codeWith y bytes maxL ret hh ∈ ws) ∧
  (Cond.codeWith y bytes maxL ret hh).before args s = true ∧ (Cond.initialized y.cls).before args s = true ∧ (y.cls ≠ "java/lang/invoke/MethodHandle" ∧ y.cls ≠ "java/lang/invoke/VarHandle") ∧
  (∀ sig, parseMethodDescriptor y.desc = some sig → n = sig.parameters.length) ∧ (Cond.methodLink own index y).before args s = true ∧ (Cond.static y).before args s = true
theorem vx_cwSW {own : String} {index maxL mc ms : Nat} {y : MethodName} {bytes : ByteArray} {ret : Option FieldType} {hh : List (Nat × Nat × Nat × Nat)} {Ts ws ws' : List Cond} {rm : Room} (n : Nat) (ht : ∀ w ∈ Ts, w.before args s = true) (hT : GoodIn Ts (va_wsS own index y ws)) (hw : ws = Cond.codeWith y bytes maxL ret hh :: ws') (hrc : rm.cells = mc) (hrs : rm.slots = ms)
    (hd : y.cls ≠ "java/lang/invoke/MethodHandle" ∧ y.cls ≠ "java/lang/invoke/VarHandle" ∧ (parseMethodDescriptor y.desc).map (fun d => d.parameters.length) = some n) (hR : rm.frames + 1 ≤ R.frames ∧ 8 + (maxL + 11) + rm.locals ≤ R.locals) :
    vx_CSW R s args own index y bytes maxL ret hh ws rm mc ms n := by
  have ok : ∀ w ∈ va_wsS own index y ws, w.before args s = true := fun w h => ht w (hT w h).1
  have hG : GoodIn Ts ws := fun w h => hT w (by unfold va_wsS; exact List.mem_append_right _ h)
  have hc : Cond.codeWith y bytes maxL ret hh ∈ ws := by rw [hw]; exact List.mem_cons_self
  refine ⟨⟨hrc, hrs, hR.1, hR.2, pay_in ht hG, hc⟩, ht _ (hG _ hc).1, ok _ (by simp [va_wsS]), ⟨hd.1, hd.2.1⟩, fun sig h => ?_, ok _ (by simp [va_wsS]), ok _ (by simp [va_wsS])⟩
  have h2 := hd.2.2
  rw [h] at h2
  exact (Option.some.inj h2).symm
theorem vx_callSW (X : Stand p l e R s m args below meth c T locs cells slots) (hexec : p.tables.exec = Jvm.exec) {own : String} {index : Nat} {y : MethodName} {bytes : ByteArray} {maxL : Nat} {ret : Option FieldType} {hh : List (Nat × Nat × Nat × Nat)}
    (hown : s.vm.findClass own = some m.cls) (hlink : (Cond.methodLink own index y).before args s = true) (hstat : (Cond.static y).before args s = true) (hinit : (Cond.initialized y.cls).before args s = true)
    (hcode : (Cond.codeWith y bytes maxL ret hh).before args s = true) (hy : y.cls ≠ "java/lang/invoke/MethodHandle" ∧ y.cls ≠ "java/lang/invoke/VarHandle")
    {W9 : Nat} {Pre : Pt → Array Value → Prop} {Post : Pt → Array Value → Option Value → Pt → Prop} (hK : Back l R p e below s args y 3 W9 Pre Post)
    {g : JFrame} (hg : g.method = m) (hsize : g.locals.size = c.maxLocals) {argsL rest : List Value} (hlen : ∀ sig, parseMethodDescriptor y.desc = some sig → argsL.length = sig.parameters.length)
    (hstack : g.stack = argsL.reverse ++ rest) (hW : 2 * g.monitorRoom + (rest.map fun v => v.category).sum ≤ W9) (hdg : decode c.code g.pc = .ok (.invokestatic index, 3))
    (hpre : ∀ vm₁, s.WarmedH vm₁ → Pre ⟨T.setVm vm₁, locs, cells, slots⟩ argsL.toArray) :
    ∃ (v : Option Value) (vm₁ : Vm) (B : Pt), s.WarmedH vm₁ ∧ Stand p l e R s m args below meth c B.U B.locs B.cells B.slots ∧ Post ⟨T.setVm vm₁, locs, cells, slots⟩ argsL.toArray v B ∧
      ∀ target, Steps p.tables e below (B.U.setTop { g with pc := g.pc + 3, stack := v.toList ++ rest }) target → Steps p.tables e below (T.setTop g) target := by
  obtain ⟨mk, methM, cM, hnamed, hmethM, -, -, -, -, -, -, hsigM⟩ := Cond.codeWith_spec hcode
  have hstatic : methM.isStatic = true := Cond.static_spec hnamed hmethM hstat
  obtain ⟨kP, hkP, -⟩ := className_of_methodNamed hnamed
  have hinitP : kP.init = .initialized := Cond.initialized_spec (findClass_of_methodNamed hnamed) hkP hinit
  obtain ⟨vm₁, X₁, hstep₁⟩ := X.invokestatic hexec hown hlink hnamed hmethM hstatic hkP hinitP hy (g := g) hg (argsL := argsL) (rest := rest) (hlen _ hsigM) hstack hdg
  obtain ⟨v, B, X', hpost, hsteps⟩ := hK m meth c ⟨T.setVm vm₁, locs, cells, slots⟩ { g with stack := rest } (.invokestatic index) mk argsL.toArray X₁ hg hsize hdg hW (X₁.named hnamed) (hpre vm₁ X₁.warmed)
  exact ⟨v, vm₁, B, X₁.warmed, X', hpost, fun target h => hstep₁ _ fun acts => by rw [doInvoke_state]; exact hsteps.trans h⟩
theorem vx_runSW {y : MethodName} {bytes cc : ByteArray} {maxL nL mc ms n index : Nat} {ret : Option FieldType} {hh : List (Nat × Nat × Nat × Nat)} {ws : List Cond} {rm : Room} {Pc : Array Value → State → Prop} {Qc : Array Value → State → Outcome → State → Prop} {free : Addr → Prop} {Ts : List Cond} {own : String} {As rest : List Value} {g : JFrame}
    (S : CallFix p m c cc nL s args Ts own) (hM : Met l y ws rm Pc Qc mc ms free) (cw : vx_CSW R s args own index y bytes maxL ret hh ws rm mc ms n) (hp : PreS s H Pc As)
    (hg : g.method = m) (hn : As.length = n) (hsize : g.locals.size = nL) (hstack : g.stack = As.reverse ++ rest) (hW : 2 * g.monitorRoom + (rest.map fun v => v.category).sum ≤ 8) (hdg : decode cc g.pc = .ok (.invokestatic index, 3)) (hf : cells + mc ≤ R.cells ∧ slots + ms ≤ R.slots) :
    va_Run p l e R s m args below meth c H locs cells slots mc ms g rest (Qc As.toArray) (free) := by
  obtain ⟨⟨hrc, hrs, hfr, hlo, hws, hcw⟩, hcode, hini, hy, hlen, hl, hstt⟩ := cw
  have hK : Back l R p e below s args y 3 8 (PreOf R mc ms Pc) (PostOf Qc mc ms free) := va_backW (hh := hh) (bytes := bytes) (maxL := maxL) (ret := ret) hM hp.1 hrc hrs hfr hlo hws hcw (fun a' U hW => word_at hW (Or.inl (by first | rfl | simp [Cond.onTables, Cond.keeps, Cond.steady])) hini)
  obtain ⟨hx, hb, hml, ho, -⟩ := S
  intro T hT X
  obtain ⟨v, vm₁, ⟨U', l2, c2, s2⟩, hW₁, X', ⟨g', mk, t, L, e1, e2, hq, h1, hL, h2, h3⟩, st⟩ := vx_callSW X hx (hh := hh) (bytes := bytes) (maxL := maxL) (ret := ret) ho hl hstt hini hcode hy hK hg (hsize.trans hml.symm) (argsL := As) (rest := rest) (fun sig h => hn.trans (hlen sig h)) hstack hW (by rw [hb]; exact hdg)
    (fun vm₁ hW₁ => ⟨hf.1, hf.2, hp.2 (T.setVm vm₁) hT hW₁⟩)
  dsimp only [Pt.U, Pt.locs, Pt.cells, Pt.slots] at X' e1 e2 h1 h2 h3 st
  subst h1; subst h2; subst h3
  exact ⟨v, (T.setVm vm₁).calling g' mk As.toArray, t, U', L, hT, X', hL, e1, e2, hq, st⟩
/-- not caught here, past rows that name other classes: it goes on to the caller -/
theorem vx_outP {p : Program} {l : Launch} {e : Env} {R : Room} {s : State} {m : MethodId} {args : Array Value} {below : List Frame} {meth : Method} {c : Code} {H : Heap} {locs : List Loc} {cells slots : Nat} {free : Addr → Prop} {ls : Array Slot} {rest : List Value} {Qc : Array Value → State → Outcome → State → Prop} {XC : String → State → State → Prop}
    {pc : Nat} {own E : String} {ce : Cell} {q : Addr} {mc ms : Nat} (hown : s.vm.findClass own = some m.cls) (hlocks : meth.locks = false)
    (hpass : ∀ z ∈ c.exceptionTable.toList, covers z pc = false ∨ (z.catchType ≠ 0 ∧ ∃ nm : String, (Cond.classLink own z.catchType nm).before args s = true ∧ va_Nc E nm s)) (hcell : H[q]? = some ce) (hv : ce.vm = .none) (hcl : s.vm.findClass E = some ce.cls)
    (hx : ∀ t : State, t.heap = H → s.vm.Alike t.vm → XC E s t) (hf : ∀ z ∈ locs, free z.base) (hc : cells ≤ mc) (hs : slots ≤ ms) :
    vx_W p l e R s m args below meth c H locs cells slots (vx_MQ below Qc XC args s mc ms free) (F0 m pc ls rest) q := by
  intro T hT X
  have hpl : e.platform.magicAccessors = ({} : Platform).magicAccessors := by rw [X.admits.platform]
  obtain ⟨vm', hW', X', st⟩ := X.outThrough hlocks q (g := F0 m pc ls rest) rfl rfl rfl (cell := ce) (by rw [hT]; exact hcell) (by rw [hv]; rfl)
    (by obtain ⟨k9, h9, -⟩ := Vm.findClass_spec hcl; exact ⟨k9, h9⟩) (fun z hz => by
      rcases hpass z hz with h | ⟨hz0, nm, hl1, hn1⟩
      · exact Or.inl h
      · obtain ⟨c6, hc6, hcl6⟩ := Cond.classLink_spec hown hl1 e.platform hpl
        obtain ⟨a8, b8, h1, h2, h3⟩ := hn1
        cases Option.some.inj (h1.symm.trans hcl)
        cases Option.some.inj (h2.symm.trans hc6)
        exact Or.inr ⟨hz0, _, hcl6, h3⟩)
  obtain ⟨g₀, hfr⟩ := X'.frames_eq
  have hcell9 : ((T.setVm vm').setFrames (.throwing q :: below)).heap[q]? = some ce := by
    show T.heap[q]? = some ce
    rw [hT]; exact hcell
  have hend : Ended ((T.setVm vm').setFrames (.throwing q :: below)) below (.threw q) := State.frames_setFrames _ (State.cur_lt_of_frames hfr)
  refine ⟨(T.setVm vm').setFrames (.throwing q :: below), ?_, .threw q, X'.here.running, hend, Or.inr ⟨q, rfl, E, ce, locs, hx _ hT (X'.ends _).1.alike, hcell9, hv, hcl, (X'.ends _).1, (X'.ends _).2.mono hc hs, hf⟩⟩
  rw [X.pushThrowing_eq]
  exact st
/-- a thing of a world lies in the heap -/
theorem vx_lt {D : va_G} {cl : List vw_C} {ws : va_W} {H1 : Heap} (h : va_P D cl ws H1) {k : Nat} {q : Nat × va_E} (hk : ws[k]? = some q) : q.1 < H1.size := (h k q hk).lt
end VXS
/-! ===== END ===== -/
/-! ===== BEGIN methods with a table of their own: called by a name, returning or throwing ===== -/
section VXH
/-! vx_backW, vx_callVX, vx_callSX, vx_callVW, vx_runVW, vx_runVX, vx_runSX, vx_ofWH follow the same proofs as their sisters above (Free/Laws.lean, Shelf42/LK1.lean); vx_outP calls Shelf42/NT130.lean (outThrough). -/
section
variable {l : Launch} {R : Room} {p : Program} {e : Env} {below : List Frame} {s : State} {sargs : Array Value} {y : MethodName} {len W9 : Nat}
theorem vx_backW {ws : List Cond} {rm : Room} {Pc : Array Value → State → Prop} {Qc : Array Value → State → Outcome → State → Prop} {XC : String → State → State → Prop} {mc ms : Nat} {free : Addr → Prop} {bytes : ByteArray} {maxL : Nat} {ret : Option FieldType} {hh : List (Nat × Nat × Nat × Nat)}
    (hM : vx_Met l y ws rm Pc Qc XC mc ms free) (hblind : FrameBlind Pc) (hrc : rm.cells = mc) (hrs : rm.slots = ms)
    (hframes : rm.frames + 1 ≤ R.frames) (hlocals : W9 + (maxL + 11) + rm.locals ≤ R.locals)
    (hws : ∀ w ∈ ws, ∀ a' U, s.WarmedH U.vm → w.before a' U = true) (hcode : Cond.codeWith y bytes maxL ret hh ∈ ws) (hinit : ∀ a' U, s.WarmedH U.vm → (Cond.initialized y.cls).before a' U = true) :
    vx_Back l R p e below s sargs y len W9 (PreOf R mc ms Pc) (PostOf Qc mc ms free) (vx_Post XC mc ms free) := by
  intro m meth c A g ig mk a X hg hsize hdg hW hn hp
  have h1 : (headSpec ws rm).pre.before a A.U = true := atoms_intro fun w hw => hws w hw _ _ X.warmed
  have h2 : (Cond.codeWith y bytes maxL ret hh).before a A.U = true := hws _ hcode _ _ X.warmed
  have h3 : (Cond.initialized y.cls).before a A.U = true := hinit _ _ X.warmed
  have h4 : A.cells + (headSpec ws rm).room.cells ≤ R.cells := by rw [show (headSpec ws rm).room.cells = mc from hrc]; exact hp.1
  have h5 : A.slots + (headSpec ws rm).room.slots ≤ R.slots := by rw [show (headSpec ws rm).room.slots = ms from hrs]; exact hp.2.1
  have hPc : Pc a (A.U.calling g mk a) := hblind _ _ _ _ hp.2.2
  obtain ⟨U, Ls, c0, s0⟩ := A
  dsimp only [Pt.U, Pt.locs, Pt.cells, Pt.slots] at h1 h2 h3 h4 h5 X hn hPc ⊢
  obtain ⟨m9, methY, cY, hn9, hmY, hcY, -, hlY, -⟩ := Cond.codeWith_spec h2
  cases Option.some.inj (hn9.symm.trans hn)
  obtain ⟨kY, hkY, -⟩ := className_of_methodNamed hn
  have hinitY : kY.init = .initialized := Cond.initialized_spec (findClass_of_methodNamed hn) hkY h3
  have h : At U g.method c below := by rw [hg]; exact X.here
  have hlocals9 : W9 + (maxL + 11) + (headSpec ws rm).room.locals ≤ R.locals := hlocals
  have happ : (headSpec ws rm).appliesLoose y e.platform (U.calling g mk a) = true :=
    Spec.appliesLoose_calling (g := g) h hdg hn hkY hinitY
      (X.room_calling (g := g) (R' := (headSpec ws rm).room) hsize hmY hcY hframes (by rw [hlY]; omega) h4 h5) h1
  obtain ⟨mid, hmid⟩ := h.above
  have hfr : (U.setTop g).frames = (.java g :: mid) ++ below := by rw [State.frames_setTop' g h.top, hmid]; rfl
  obtain ⟨o, s₂, hsteps, -, hend, hq⟩ := Steps.callFree hM p X.admits X.cas X.clock (acts := []) hfr happ hPc trivial
  have hq' : vx_Q Qc XC mc ms free a (U.calling g mk a) o s₂ := hq
  rw [State.frames_setTop' g h.top] at hend
  obtain ⟨g₀, hg0⟩ := Option.isSome_iff_exists.mp h.top
  obtain ⟨r, hr⟩ := State.topJava?_eq_some.mp hg0
  have hr' : (({ U with heap := s₂.heap, slotsUsed := s₂.slotsUsed } : State).setVm s₂.vm).frames = .java g₀ :: r := hr
  rcases hq' with ⟨hqc, L, hfe, hL⟩ | ⟨q, rfl, E, ce, L, hx, hce, hcv, hcl, hW₂, hsm, hL⟩
  · obtain ⟨⟨v, rfl⟩, hW₂, e2, q2, q3, q4, q5, q6⟩ := id hfe
    have e3 : s₂ = ({ (U.calling g mk a).setFrames s₂.frames with heap := s₂.heap, slotsUsed := s₂.slotsUsed } : State).setVm s₂.vm := by
      have : s₂ = ({ s₂ with vm := (U.calling g mk a).vm } : State).setVm s₂.vm := rfl
      rw [e2] at this
      exact this
    obtain ⟨c₂, i₂, len₂, hc₂, hd₂, hf₂⟩ := hend
    have hW' : U.WarmedH s₂.vm := hW₂
    have hcc : c₂ = c := by
      have h1 : s₂.code? g.method = U.code? g.method := by
        rw [State.code?_eq, State.code?_eq, hW'.alike.method?]
      exact Option.some.inj (hc₂.symm.trans (h1.trans h.code))
    subst hcc
    have hlen : len₂ = len := by rw [hdg] at hd₂; cases hd₂; rfl
    subst hlen
    have hs₂ : s₂ = (({ U with heap := s₂.heap, slotsUsed := s₂.slotsUsed } : State).setVm s₂.vm).setTop { g with pc := g.pc + len₂, stack := v.toList ++ g.stack } := by
      refine e3.trans ?_
      rw [hf₂, State.calling_eq h.top, State.setFrames_setFrames, State.setTop_of_frames _ hr', hr]
      rfl
    have hsame : U.sameButNew ({ U with heap := s₂.heap, slotsUsed := s₂.slotsUsed } : State) L mc ms := by
      refine ⟨?_, q2, q3, q4, q5, q6⟩
      obtain ⟨t, ht, -⟩ := State.frames_cons hr
      show ({ U with heap := s₂.heap, slotsUsed := s₂.slotsUsed } : State) = { U.setFrames U.frames with heap := s₂.heap, slotsUsed := s₂.slotsUsed }
      rw [State.setFrames_self ht]
    subst hg
    refine Or.inl ⟨v, ⟨(({ U with heap := s₂.heap, slotsUsed := s₂.slotsUsed } : State).setVm s₂.vm), Ls ++ L, c0 + mc, s0 + ms⟩,
      ⟨X.admits, X.cas, X.clock, X.frames, X.room, X.hears, X.method, X.code, (X.here.setHeapUsed s₂.heap s₂.slotsUsed).setVm hW'.alike, X.tail, State.WarmedH.trans X.warmed hW', X.limits, X.bytes, X.same.trans (hsame.setVm s.vm)⟩,
      ⟨g, mk, s₂, L, rfl, rfl, hqc, rfl, hL, rfl, rfl⟩, ?_⟩
    show Steps p.tables e below _ ((({ U with heap := s₂.heap, slotsUsed := s₂.slotsUsed } : State).setVm s₂.vm).setTop { g with pc := g.pc + len₂, stack := v.toList ++ g.stack })
    rw [← hs₂]
    exact hsteps
  · obtain ⟨e2, q2, q3, q4, q5, q6⟩ := id hsm
    have e3 : s₂ = ({ (U.calling g mk a).setFrames s₂.frames with heap := s₂.heap, slotsUsed := s₂.slotsUsed } : State).setVm s₂.vm := by
      have : s₂ = ({ s₂ with vm := (U.calling g mk a).vm } : State).setVm s₂.vm := rfl
      rw [e2] at this
      exact this
    have hf₂ : s₂.frames = .throwing q :: .java g :: U.frames.tail := hend
    have hW' : U.WarmedH s₂.vm := hW₂
    have hs₂ : s₂ = ((({ U with heap := s₂.heap, slotsUsed := s₂.slotsUsed } : State).setVm s₂.vm).setTop g).pushFrame (.throwing q) := by
      refine e3.trans ?_
      rw [hf₂, State.calling_eq h.top, State.setFrames_setFrames, State.pushFrame, State.frames_setTop _ hr', State.setTop_of_frames _ hr', State.setFrames_setFrames, hr]
      rfl
    have hsame : U.sameButNew ({ U with heap := s₂.heap, slotsUsed := s₂.slotsUsed } : State) L mc ms := by
      refine ⟨?_, q2, q3, q4, q5, q6⟩
      obtain ⟨t, ht, -⟩ := State.frames_cons hr
      show ({ U with heap := s₂.heap, slotsUsed := s₂.slotsUsed } : State) = { U.setFrames U.frames with heap := s₂.heap, slotsUsed := s₂.slotsUsed }
      rw [State.setFrames_self ht]
    subst hg
    refine Or.inr ⟨q, ⟨(({ U with heap := s₂.heap, slotsUsed := s₂.slotsUsed } : State).setVm s₂.vm), Ls ++ L, c0 + mc, s0 + ms⟩,
      ⟨X.admits, X.cas, X.clock, X.frames, X.room, X.hears, X.method, X.code, (X.here.setHeapUsed s₂.heap s₂.slotsUsed).setVm hW'.alike, X.tail, State.WarmedH.trans X.warmed hW', X.limits, X.bytes, X.same.trans (hsame.setVm s.vm)⟩,
      ⟨g, mk, s₂, L, E, ce, rfl, rfl, hx, hce, hcv, hcl, rfl, hL, rfl, rfl⟩, ?_⟩
    show Steps p.tables e below _ (((({ U with heap := s₂.heap, slotsUsed := s₂.slotsUsed } : State).setVm s₂.vm).setTop g).pushFrame (.throwing q))
    rw [← hs₂]
    exact hsteps
end
variable {p : Program} {l : Launch} {e : Env} {R : Room} {s : State} {m : MethodId} {args : Array Value} {below : List Frame} {meth : Method} {c : Code} {T : State} {H : Heap} {locs : List Loc} {cells slots : Nat}
theorem vx_callVX (X : Stand p l e R s m args below meth c T locs cells slots) (hexec : p.tables.exec = Jvm.exec) {own C : String} {index : Nat} {y : MethodName} {bytes : ByteArray} {maxL : Nat} {ret : Option FieldType} {hh : List (Nat × Nat × Nat × Nat)}
    (hown : s.vm.findClass own = some m.cls) (hlink : (Cond.methodLink own index y).before args s = true) (hinst : (Cond.instanceMethod y).before args s = true) (hsel : (Cond.selects C y y).before args s = true)
    (hcode : (Cond.codeWith y bytes maxL ret hh).before args s = true) (hy : y.cls ≠ "java/lang/invoke/MethodHandle" ∧ y.cls ≠ "java/lang/invoke/VarHandle")
    {W9 : Nat} {Pre : Pt → Array Value → Prop} {Post : Pt → Array Value → Option Value → Pt → Prop} {PostX : Pt → Array Value → Addr → Pt → Prop} (hK : vx_Back l R p e below s args y 3 W9 Pre Post PostX)
    {b : Addr} {cellB : Cell} (hcell : T.heap[b]? = some cellB) (hobj : cellB.vm.isStatics = false) (hcls : s.vm.findClass C = some cellB.cls)
    {g : JFrame} (hg : g.method = m) (hsize : g.locals.size = c.maxLocals) {argsL rest : List Value} (hlen : ∀ sig, parseMethodDescriptor y.desc = some sig → argsL.length = sig.parameters.length)
    (hstack : g.stack = argsL.reverse ++ .ref b :: rest) (hW : 2 * g.monitorRoom + (rest.map fun v => v.category).sum ≤ W9) (hdg : decode c.code g.pc = .ok (.invokevirtual index, 3))
    (hpre : ∀ vm₁, s.WarmedH vm₁ → Pre ⟨T.setVm vm₁, locs, cells, slots⟩ (Value.ref b :: argsL).toArray) :
    (∃ (v : Option Value) (vm₁ : Vm) (B : Pt), s.WarmedH vm₁ ∧ Stand p l e R s m args below meth c B.U B.locs B.cells B.slots ∧ Post ⟨T.setVm vm₁, locs, cells, slots⟩ (Value.ref b :: argsL).toArray v B ∧
      ∀ target, Steps p.tables e below (B.U.setTop { g with pc := g.pc + 3, stack := v.toList ++ rest }) target → Steps p.tables e below (T.setTop g) target) ∨
    (∃ (q : Addr) (vm₁ : Vm) (B : Pt), s.WarmedH vm₁ ∧ Stand p l e R s m args below meth c B.U B.locs B.cells B.slots ∧ PostX ⟨T.setVm vm₁, locs, cells, slots⟩ (Value.ref b :: argsL).toArray q B ∧
      Steps p.tables e below (T.setTop g) ((B.U.setTop { g with stack := rest }).pushFrame (.throwing q))) := by
  obtain ⟨mk, methM, hnamed, hmethM, hstM, habM⟩ := Cond.instanceMethod_spec hinst
  obtain ⟨m8, methM', cM, hn8, hmethM', -, -, -, -, -, -, hsigM⟩ := Cond.codeWith_spec hcode
  cases Option.some.inj (hn8.symm.trans hnamed)
  cases hmethM.symm.trans hmethM'
  obtain ⟨c2, r2, m2, q1, q2, q3, q4, kP, hkP, hkPi⟩ := Cond.selects_spec hsel
  cases hcls.symm.trans q1
  cases (State.methodFound?_of_named hnamed hy).symm.trans q2
  cases hnamed.symm.trans q3
  have hselP : selectMethod e.platform s.vm cellB.cls mk = .method mk := by rw [Launch.admits_selectMethod X.admits]; exact q4
  obtain ⟨vm₁, X₁, hstep₁⟩ := X.invokevirtual hexec hown hlink hnamed hmethM hstM hkP hkPi hy (a := b) (cell := cellB) hcell
    (fun z h => by rw [h] at hobj; cases hobj) hselP hmethM habM hkP hkPi (g := g) hg (argsL := argsL) (rest := rest) (hlen _ hsigM) hstack hdg
  rcases hK m meth c ⟨T.setVm vm₁, locs, cells, slots⟩ { g with stack := rest } (.invokevirtual index) mk (Value.ref b :: argsL).toArray X₁ hg hsize hdg hW (X₁.named hnamed) (hpre vm₁ X₁.warmed) with ⟨v, B, X', hpost, hsteps⟩ | ⟨q, B, X', hpost, hsteps⟩
  · exact Or.inl ⟨v, vm₁, B, X₁.warmed, X', hpost, fun target h => hstep₁ _ fun acts => by rw [doInvoke_state]; exact hsteps.trans h⟩
  · exact Or.inr ⟨q, vm₁, B, X₁.warmed, X', hpost, hstep₁ _ fun acts => by rw [doInvoke_state]; exact hsteps⟩
theorem vx_callSX (X : Stand p l e R s m args below meth c T locs cells slots) (hexec : p.tables.exec = Jvm.exec) {own : String} {index : Nat} {y : MethodName} {bytes : ByteArray} {maxL : Nat} {ret : Option FieldType} {hh : List (Nat × Nat × Nat × Nat)}
    (hown : s.vm.findClass own = some m.cls) (hlink : (Cond.methodLink own index y).before args s = true) (hstat : (Cond.static y).before args s = true) (hinit : (Cond.initialized y.cls).before args s = true)
    (hcode : (Cond.codeWith y bytes maxL ret hh).before args s = true) (hy : y.cls ≠ "java/lang/invoke/MethodHandle" ∧ y.cls ≠ "java/lang/invoke/VarHandle")
    {W9 : Nat} {Pre : Pt → Array Value → Prop} {Post : Pt → Array Value → Option Value → Pt → Prop} {PostX : Pt → Array Value → Addr → Pt → Prop} (hK : vx_Back l R p e below s args y 3 W9 Pre Post PostX)
    {g : JFrame} (hg : g.method = m) (hsize : g.locals.size = c.maxLocals) {argsL rest : List Value} (hlen : ∀ sig, parseMethodDescriptor y.desc = some sig → argsL.length = sig.parameters.length)
    (hstack : g.stack = argsL.reverse ++ rest) (hW : 2 * g.monitorRoom + (rest.map fun v => v.category).sum ≤ W9) (hdg : decode c.code g.pc = .ok (.invokestatic index, 3))
    (hpre : ∀ vm₁, s.WarmedH vm₁ → Pre ⟨T.setVm vm₁, locs, cells, slots⟩ argsL.toArray) :
    (∃ (v : Option Value) (vm₁ : Vm) (B : Pt), s.WarmedH vm₁ ∧ Stand p l e R s m args below meth c B.U B.locs B.cells B.slots ∧ Post ⟨T.setVm vm₁, locs, cells, slots⟩ argsL.toArray v B ∧
      ∀ target, Steps p.tables e below (B.U.setTop { g with pc := g.pc + 3, stack := v.toList ++ rest }) target → Steps p.tables e below (T.setTop g) target) ∨
    (∃ (q : Addr) (vm₁ : Vm) (B : Pt), s.WarmedH vm₁ ∧ Stand p l e R s m args below meth c B.U B.locs B.cells B.slots ∧ PostX ⟨T.setVm vm₁, locs, cells, slots⟩ argsL.toArray q B ∧
      Steps p.tables e below (T.setTop g) ((B.U.setTop { g with stack := rest }).pushFrame (.throwing q))) := by
  obtain ⟨mk, methM, cM, hnamed, hmethM, -, -, -, -, -, -, hsigM⟩ := Cond.codeWith_spec hcode
  have hstatic : methM.isStatic = true := Cond.static_spec hnamed hmethM hstat
  obtain ⟨kP, hkP, -⟩ := className_of_methodNamed hnamed
  have hinitP : kP.init = .initialized := Cond.initialized_spec (findClass_of_methodNamed hnamed) hkP hinit
  obtain ⟨vm₁, X₁, hstep₁⟩ := X.invokestatic hexec hown hlink hnamed hmethM hstatic hkP hinitP hy (g := g) hg (argsL := argsL) (rest := rest) (hlen _ hsigM) hstack hdg
  rcases hK m meth c ⟨T.setVm vm₁, locs, cells, slots⟩ { g with stack := rest } (.invokestatic index) mk argsL.toArray X₁ hg hsize hdg hW (X₁.named hnamed) (hpre vm₁ X₁.warmed) with ⟨v, B, X', hpost, hsteps⟩ | ⟨q, B, X', hpost, hsteps⟩
  · exact Or.inl ⟨v, vm₁, B, X₁.warmed, X', hpost, fun target h => hstep₁ _ fun acts => by rw [doInvoke_state]; exact hsteps.trans h⟩
  · exact Or.inr ⟨q, vm₁, B, X₁.warmed, X', hpost, hstep₁ _ fun acts => by rw [doInvoke_state]; exact hsteps⟩
theorem vx_callVW (X : Stand p l e R s m args below meth c T locs cells slots) (hexec : p.tables.exec = Jvm.exec) {own C : String} {index : Nat} {y : MethodName} {bytes : ByteArray} {maxL : Nat} {ret : Option FieldType} {hh : List (Nat × Nat × Nat × Nat)}
    (hown : s.vm.findClass own = some m.cls) (hlink : (Cond.methodLink own index y).before args s = true) (hinst : (Cond.instanceMethod y).before args s = true) (hsel : (Cond.selects C y y).before args s = true)
    (hcode : (Cond.codeWith y bytes maxL ret hh).before args s = true) (hy : y.cls ≠ "java/lang/invoke/MethodHandle" ∧ y.cls ≠ "java/lang/invoke/VarHandle")
    {W9 : Nat} {Pre : Pt → Array Value → Prop} {Post : Pt → Array Value → Option Value → Pt → Prop} (hK : Back l R p e below s args y 3 W9 Pre Post)
    {b : Addr} {cellB : Cell} (hcell : T.heap[b]? = some cellB) (hobj : cellB.vm.isStatics = false) (hcls : s.vm.findClass C = some cellB.cls)
    {g : JFrame} (hg : g.method = m) (hsize : g.locals.size = c.maxLocals) {argsL rest : List Value} (hlen : ∀ sig, parseMethodDescriptor y.desc = some sig → argsL.length = sig.parameters.length)
    (hstack : g.stack = argsL.reverse ++ .ref b :: rest) (hW : 2 * g.monitorRoom + (rest.map fun v => v.category).sum ≤ W9) (hdg : decode c.code g.pc = .ok (.invokevirtual index, 3))
    (hpre : ∀ vm₁, s.WarmedH vm₁ → Pre ⟨T.setVm vm₁, locs, cells, slots⟩ (Value.ref b :: argsL).toArray) :
    ∃ (v : Option Value) (vm₁ : Vm) (B : Pt), s.WarmedH vm₁ ∧ Stand p l e R s m args below meth c B.U B.locs B.cells B.slots ∧ Post ⟨T.setVm vm₁, locs, cells, slots⟩ (Value.ref b :: argsL).toArray v B ∧
      ∀ target, Steps p.tables e below (B.U.setTop { g with pc := g.pc + 3, stack := v.toList ++ rest }) target → Steps p.tables e below (T.setTop g) target := by
  obtain ⟨mk, methM, hnamed, hmethM, hstM, habM⟩ := Cond.instanceMethod_spec hinst
  obtain ⟨m8, methM', cM, hn8, hmethM', -, -, -, -, -, -, hsigM⟩ := Cond.codeWith_spec hcode
  cases Option.some.inj (hn8.symm.trans hnamed)
  cases hmethM.symm.trans hmethM'
  obtain ⟨c2, r2, m2, q1, q2, q3, q4, kP, hkP, hkPi⟩ := Cond.selects_spec hsel
  cases hcls.symm.trans q1
  cases (State.methodFound?_of_named hnamed hy).symm.trans q2
  cases hnamed.symm.trans q3
  have hselP : selectMethod e.platform s.vm cellB.cls mk = .method mk := by rw [Launch.admits_selectMethod X.admits]; exact q4
  obtain ⟨vm₁, X₁, hstep₁⟩ := X.invokevirtual hexec hown hlink hnamed hmethM hstM hkP hkPi hy (a := b) (cell := cellB) hcell
    (fun z h => by rw [h] at hobj; cases hobj) hselP hmethM habM hkP hkPi (g := g) hg (argsL := argsL) (rest := rest) (hlen _ hsigM) hstack hdg
  obtain ⟨v, B, X', hpost, hsteps⟩ := hK m meth c ⟨T.setVm vm₁, locs, cells, slots⟩ { g with stack := rest } (.invokevirtual index) mk (Value.ref b :: argsL).toArray X₁ hg hsize hdg hW (X₁.named hnamed) (hpre vm₁ X₁.warmed)
  exact ⟨v, vm₁, B, X₁.warmed, X', hpost, fun target h => hstep₁ _ fun acts => by rw [doInvoke_state]; exact hsteps.trans h⟩
abbrev vx_CVW (R : Room) (s : State) (args : Array Value) (own C : String) (index : Nat) (y : MethodName) (bytes : ByteArray) (maxL : Nat) (ret : Option FieldType) (hh : List (Nat × Nat × Nat × Nat)) (ws : List Cond) (rm : Room) (mc ms n : Nat) : Prop :=
  (rm.cells = mc ∧ rm.slots = ms ∧ rm.frames + 1 ≤ R.frames ∧ 8 + (maxL + 11) + rm.locals ≤ R.locals ∧ (∀ w ∈ ws, ∀ (a' : Array Value) (U : State), s.WarmedH U.vm → w.before a' U = true) ∧ Cond.codeWith y bytes maxL ret hh ∈ ws) ∧
  (Cond.codeWith y bytes maxL ret hh).before args s = true ∧ (Cond.initialized y.cls).before args s = true ∧ (y.cls ≠ "java/lang/invoke/MethodHandle" ∧ y.cls ≠ "java/lang/invoke/VarHandle") ∧
  (∀ sig, parseMethodDescriptor y.desc = some sig → n = sig.parameters.length) ∧ (Cond.methodLink own index y).before args s = true ∧ (Cond.instanceMethod y).before args s = true ∧ (Cond.selects C y y).before args s = true
theorem vx_cwVW {own C : String} {index maxL mc ms : Nat} {y : MethodName} {bytes : ByteArray} {ret : Option FieldType} {hh : List (Nat × Nat × Nat × Nat)} {Ts ws ws' : List Cond} {rm : Room} (n : Nat) (ht : ∀ w ∈ Ts, w.before args s = true) (hT : GoodIn Ts (wsV own index C y ws)) (hw : ws = Cond.codeWith y bytes maxL ret hh :: ws') (hrc : rm.cells = mc) (hrs : rm.slots = ms)
    (hd : y.cls = C ∧ y.cls ≠ "java/lang/invoke/MethodHandle" ∧ y.cls ≠ "java/lang/invoke/VarHandle" ∧ (parseMethodDescriptor y.desc).map (fun d => d.parameters.length) = some n) (hR : rm.frames + 1 ≤ R.frames ∧ 8 + (maxL + 11) + rm.locals ≤ R.locals) :
    vx_CVW R s args own C index y bytes maxL ret hh ws rm mc ms n := by
  obtain ⟨hC, hd⟩ := hd
  subst hC
  have ok : ∀ w ∈ wsV own index y.cls y ws, w.before args s = true := fun w h => ht w (hT w h).1
  have hG : GoodIn Ts ws := fun w h => hT w (by unfold wsV; exact List.mem_append_right _ h)
  have hc : Cond.codeWith y bytes maxL ret hh ∈ ws := by rw [hw]; exact List.mem_cons_self
  refine ⟨⟨hrc, hrs, hR.1, hR.2, pay_in ht hG, hc⟩, ht _ (hG _ hc).1, ok _ (by simp [wsV]), ⟨hd.1, hd.2.1⟩, fun sig h => ?_, ok _ (by simp [wsV]), ok _ (by simp [wsV]), ok _ (by simp [wsV])⟩
  have h2 := hd.2.2
  rw [h] at h2
  exact (Option.some.inj h2).symm
theorem vx_runVW {y : MethodName} {bytes cc : ByteArray} {maxL nL mc ms n index : Nat} {ret : Option FieldType} {hh : List (Nat × Nat × Nat × Nat)} {ws : List Cond} {rm : Room} {Pc : Array Value → State → Prop} {Qc : Array Value → State → Outcome → State → Prop} {free : Addr → Prop} {Ts : List Cond} {own C : String} {b : Addr} {As rest : List Value} {g : JFrame}
    (S : CallFix p m c cc nL s args Ts own) (hM : Met l y ws rm Pc Qc mc ms free) (cw : vx_CVW R s args own C index y bytes maxL ret hh ws rm mc ms n) (hp : PreV s H C b Pc As)
    (hg : g.method = m) (hn : As.length = n) (hsize : g.locals.size = nL) (hstack : g.stack = As.reverse ++ .ref b :: rest) (hW : 2 * g.monitorRoom + (rest.map fun v => v.category).sum ≤ 8) (hdg : decode cc g.pc = .ok (.invokevirtual index, 3)) (hf : cells + mc ≤ R.cells ∧ slots + ms ≤ R.slots) :
    va_Run p l e R s m args below meth c H locs cells slots mc ms g rest (Qc (Value.ref b :: As).toArray) free := by
  obtain ⟨⟨hrc, hrs, hfr, hlo, hws, hcw⟩, hcode, hini, hy, hlen, hl, hin, hse⟩ := cw
  have hK : Back l R p e below s args y 3 8 (PreOf R mc ms Pc) (PostOf Qc mc ms free) := va_backW (hh := hh) (bytes := bytes) (maxL := maxL) (ret := ret) hM hp.1 hrc hrs hfr hlo hws hcw (fun a' U hW => word_at hW (Or.inl (by first | rfl | simp [Cond.onTables, Cond.keeps, Cond.steady])) hini)
  obtain ⟨hx, hb, hml, ho, -⟩ := S
  obtain ⟨-, ⟨cellB, hcB, hoB, hclB⟩, hPc⟩ := hp
  intro T hT X
  obtain ⟨v, vm₁, ⟨U', l2, c2, s2⟩, hW₁, X', ⟨g', mk, t, L, e1, e2, hq, h1, hL, h2, h3⟩, st⟩ := vx_callVW X hx (C := C) (hh := hh) (bytes := bytes) (maxL := maxL) (ret := ret) ho hl hin hse hcode hy hK (by rw [hT]; exact hcB) hoB hclB hg (hsize.trans hml.symm) (argsL := As) (rest := rest) (fun sig h => hn.trans (hlen sig h)) hstack hW (by rw [hb]; exact hdg)
    (fun vm₁ hW₁ => ⟨hf.1, hf.2, hPc (T.setVm vm₁) hT hW₁⟩)
  dsimp only [Pt.U, Pt.locs, Pt.cells, Pt.slots] at X' e1 e2 h1 h2 h3 st
  subst h1; subst h2; subst h3
  exact ⟨v, (T.setVm vm₁).calling g' mk (Value.ref b :: As).toArray, t, U', L, hT, X', hL, e1, e2, hq, st⟩
section
variable {y : MethodName} {bytes cc : ByteArray} {maxL nL mc ms n index : Nat} {ret : Option FieldType} {ws : List Cond} {rm : Room} {Pc : Array Value → State → Prop} {Qc : Array Value → State → Outcome → State → Prop} {XC : String → State → State → Prop} {free : Addr → Prop} {Ts : List Cond} {own C : String} {b : Addr} {As rest : List Value} {g : JFrame}
theorem vx_runVX {hh : List (Nat × Nat × Nat × Nat)} (S : CallFix p m c cc nL s args Ts own) (hM : vx_Met l y ws rm Pc Qc XC mc ms free) (cw : vx_CVW R s args own C index y bytes maxL ret hh ws rm mc ms n) (hp : PreV s H C b Pc As)
    (hg : g.method = m) (hn : As.length = n) (hsize : g.locals.size = nL) (hstack : g.stack = As.reverse ++ .ref b :: rest) (hW : 2 * g.monitorRoom + (rest.map fun v => v.category).sum ≤ 8) (hdg : decode cc g.pc = .ok (.invokevirtual index, 3)) (hf : cells + mc ≤ R.cells ∧ slots + ms ≤ R.slots) :
    vx_Run p l e R s m args below meth c H locs cells slots mc ms g rest (Qc (Value.ref b :: As).toArray) XC free := by
  obtain ⟨⟨hrc, hrs, hfr, hlo, hws, hcw⟩, hcode, hini, hy, hlen, hl, hin, hse⟩ := cw
  have hK : vx_Back l R p e below s args y 3 8 (PreOf R mc ms Pc) (PostOf Qc mc ms free) (vx_Post XC mc ms free) := vx_backW (hh := hh) (bytes := bytes) (maxL := maxL) (ret := ret) hM hp.1 hrc hrs hfr hlo hws hcw (fun a' U hW => word_at hW (Or.inl (by first | rfl | simp [Cond.onTables, Cond.keeps, Cond.steady])) hini)
  obtain ⟨hx, hb, hml, ho, -⟩ := S
  obtain ⟨-, ⟨cellB, hcB, hoB, hclB⟩, hPc⟩ := hp
  intro T hT X
  rcases vx_callVX X hx (C := C) (hh := hh) (bytes := bytes) (maxL := maxL) (ret := ret) ho hl hin hse hcode hy hK (by rw [hT]; exact hcB) hoB hclB hg (hsize.trans hml.symm) (argsL := As) (rest := rest) (fun sig h => hn.trans (hlen sig h)) hstack hW (by rw [hb]; exact hdg)
    (fun vm₁ hW₁ => ⟨hf.1, hf.2, hPc (T.setVm vm₁) hT hW₁⟩) with ⟨v, vm₁, ⟨U', l2, c2, s2⟩, hW₁, X', ⟨g', mk, t, L, e1, e2, hq, h1, hL, h2, h3⟩, st⟩ | ⟨q, vm₁, ⟨U', l2, c2, s2⟩, hW₁, X', ⟨g', mk, t, L, E, ce, e1, e2, hq, hce, hcv, hcl, h1, hL, h2, h3⟩, st⟩
  · dsimp only [Pt.U, Pt.locs, Pt.cells, Pt.slots] at X' e1 e2 h1 h2 h3 st
    subst h1; subst h2; subst h3
    exact Or.inl ⟨v, (T.setVm vm₁).calling g' mk (Value.ref b :: As).toArray, t, U', L, hT, X', hL, e1, e2, hq, st⟩
  · dsimp only [Pt.U, Pt.locs, Pt.cells, Pt.slots] at X' e1 e2 h1 h2 h3 st hcl
    subst h1; subst h2; subst h3
    exact Or.inr ⟨q, (T.setVm vm₁).calling g' mk (Value.ref b :: As).toArray, t, U', L, E, ce, hT, X', hL, e1, e2, hq, hce, hcv, vx_cls hW₁ hcl, st⟩
theorem vx_runSX {hh : List (Nat × Nat × Nat × Nat)} (S : CallFix p m c cc nL s args Ts own) (hM : vx_Met l y ws rm Pc Qc XC mc ms free) (cw : vx_CSW R s args own index y bytes maxL ret hh ws rm mc ms n) (hp : PreS s H Pc As)
    (hg : g.method = m) (hn : As.length = n) (hsize : g.locals.size = nL) (hstack : g.stack = As.reverse ++ rest) (hW : 2 * g.monitorRoom + (rest.map fun v => v.category).sum ≤ 8) (hdg : decode cc g.pc = .ok (.invokestatic index, 3)) (hf : cells + mc ≤ R.cells ∧ slots + ms ≤ R.slots) :
    vx_Run p l e R s m args below meth c H locs cells slots mc ms g rest (Qc As.toArray) XC free := by
  obtain ⟨⟨hrc, hrs, hfr, hlo, hws, hcw⟩, hcode, hini, hy, hlen, hl, hstt⟩ := cw
  have hK : vx_Back l R p e below s args y 3 8 (PreOf R mc ms Pc) (PostOf Qc mc ms free) (vx_Post XC mc ms free) := vx_backW (hh := hh) (bytes := bytes) (maxL := maxL) (ret := ret) hM hp.1 hrc hrs hfr hlo hws hcw (fun a' U hW => word_at hW (Or.inl (by first | rfl | simp [Cond.onTables, Cond.keeps, Cond.steady])) hini)
  obtain ⟨hx, hb, hml, ho, -⟩ := S
  intro T hT X
  rcases vx_callSX X hx (hh := hh) (bytes := bytes) (maxL := maxL) (ret := ret) ho hl hstt hini hcode hy hK hg (hsize.trans hml.symm) (argsL := As) (rest := rest) (fun sig h => hn.trans (hlen sig h)) hstack hW (by rw [hb]; exact hdg)
    (fun vm₁ hW₁ => ⟨hf.1, hf.2, hp.2 (T.setVm vm₁) hT hW₁⟩) with ⟨v, vm₁, ⟨U', l2, c2, s2⟩, hW₁, X', ⟨g', mk, t, L, e1, e2, hq, h1, hL, h2, h3⟩, st⟩ | ⟨q, vm₁, ⟨U', l2, c2, s2⟩, hW₁, X', ⟨g', mk, t, L, E, ce, e1, e2, hq, hce, hcv, hcl, h1, hL, h2, h3⟩, st⟩
  · dsimp only [Pt.U, Pt.locs, Pt.cells, Pt.slots] at X' e1 e2 h1 h2 h3 st
    subst h1; subst h2; subst h3
    exact Or.inl ⟨v, (T.setVm vm₁).calling g' mk As.toArray, t, U', L, hT, X', hL, e1, e2, hq, st⟩
  · dsimp only [Pt.U, Pt.locs, Pt.cells, Pt.slots] at X' e1 e2 h1 h2 h3 st hcl
    subst h1; subst h2; subst h3
    exact Or.inr ⟨q, (T.setVm vm₁).calling g' mk As.toArray, t, U', L, E, ce, hT, X', hL, e1, e2, hq, hce, hcv, vx_cls hW₁ hcl, st⟩
end
end VXH
theorem vx_ofWH {l : Launch} {y : MethodName} {ws ws' : List Cond} {rm : Room} {Pc : Array Value → State → Prop} {Qc : Array Value → State → Outcome → State → Prop} {XC : String → State → State → Prop} {mc ms : Nat} {free : Addr → Prop} {cc : ByteArray} {maxL : Nat} {ret : Option FieldType} {hh : List (Nat × Nat × Nat × Nat)}
    (hy : plainName y.cls = true) (hw : ws = Cond.codeWith y cc maxL ret hh :: ws')
    (body : ∀ p e s m args below meth c s₁, BodyLoose p l y (headSpec ws rm) cc maxL ret e s m args below meth c s₁ → c.maxLocals = maxL → Pc args s →
      W p l e (headSpec ws rm).room s m args below meth c s.heap [] 0 0 (vx_MQ below Qc XC args s mc ms free) (entryFrame m args maxL)) : vx_Met l y ws rm Pc Qc XC mc ms free := by
  refine MetFree.of_bodyS (code := cc) (maxLocals := maxL) (ret := ret) hy ?_ ?_
  · intro args s m h hn
    obtain ⟨m9, meth, c, hn9, h1, h2, h3, h4, -, h5, h6, -⟩ := Cond.codeWith_spec (atoms_spec (ws := ws) h _ (by rw [hw]; exact List.mem_cons_self))
    cases hn.symm.trans hn9
    exact ⟨meth, c, h1, h2, h3, h4, h5, h6⟩
  · intro p e s m args below meth c s₁ B hml hP _
    have hh0 : s₁.heap = s.heap := by rw [B.state]; rfl
    obtain ⟨t, a1, o, b1, b2, b3⟩ := body p e s m args below meth c s₁ B hml hP s₁ hh0 (Stand.of_body B)
    exact ⟨t, o, a1, b1, b2, b3⟩
/-! ===== END ===== -/
end
section
def RX0 : String := "PaddyTerraces$Calendar"
def TX0 : u_T := fun k => match k with
  | 0 => ("PaddyTerraces$Calendar", "rain", "[I", true)
  | 1 => ("PaddyTerraces$Calendar", "spring", "[I", true)
  | _ => ("PaddyTerraces$Calendar", "draught", "[I", true)
def tyX0 : Nat → FieldType := fun k => match k with
  | 0 => .array .int
  | 1 => .array .int
  | _ => .array .int
abbrev wsX00 : List Cond := u_ws RX0 TX0 3
theorem nmX0 : ∀ a, a < 3 → ∀ b, b < 3 → a ≠ b → (TX0 a).2.1 ≠ (TX0 b).2.1 := by decide +kernel
theorem tyX0_ok : ∀ k, k < 3 → parseFieldDescriptor (TX0 k).2.2.1 = some (tyX0 k) := by decide +kernel
abbrev cX0_init : ByteArray := prog_2_method_1_code
def yX0_init : MethodName := ⟨RX0, "<init>", "()V"⟩
def RX1 : String := "PaddyTerraces$Move"
def TX1 : u_T := fun k => match k with
  | 0 => ("PaddyTerraces$Move", "terrace", "I", false)
  | 1 => ("PaddyTerraces$Move", "column", "I", false)
  | 2 => ("PaddyTerraces$Move", "height", "I", false)
  | 3 => ("PaddyTerraces$Move", "crops", "I", false)
  | _ => ("PaddyTerraces$Move", "hardness", "I", false)
def tyX1 : Nat → FieldType := fun k => match k with
  | 0 => .int
  | 1 => .int
  | 2 => .int
  | 3 => .int
  | _ => .int
abbrev wsX10 : List Cond := u_ws RX1 TX1 5
theorem nmX1 : ∀ a, a < 5 → ∀ b, b < 5 → a ≠ b → (TX1 a).2.1 ≠ (TX1 b).2.1 := by decide +kernel
theorem tyX1_ok : ∀ k, k < 5 → parseFieldDescriptor (TX1 k).2.2.1 = some (tyX1 k) := by decide +kernel
abbrev cX1_init : ByteArray := prog_3_method_1_code
def yX1_init : MethodName := ⟨RX1, "<init>", "()V"⟩
def RX2 : String := "PaddyTerraces$Slope"
def TX2 : u_T := fun k => match k with
  | 0 => ("PaddyTerraces$Slope", "h", "I", false)
  | 1 => ("PaddyTerraces$Slope", "w", "I", false)
  | 2 => ("PaddyTerraces$Slope", "day", "I", false)
  | 3 => ("PaddyTerraces$Slope", "brook", "I", false)
  | 4 => ("PaddyTerraces$Slope", "died", "I", false)
  | 5 => ("PaddyTerraces$Slope", "share", "[I", true)
  | 6 => ("PaddyTerraces$Slope", "depth", "[I", true)
  | 7 => ("PaddyTerraces$Slope", "bank", "[I", true)
  | 8 => ("PaddyTerraces$Slope", "seepage", "[I", true)
  | 9 => ("PaddyTerraces$Slope", "stone", "[I", true)
  | 10 => ("PaddyTerraces$Slope", "side", "[I", true)
  | 11 => ("PaddyTerraces$Slope", "crop", "[I", true)
  | 12 => ("PaddyTerraces$Slope", "age", "[I", true)
  | 13 => ("PaddyTerraces$Slope", "hardness", "[I", true)
  | 14 => ("PaddyTerraces$Slope", "drowned", "[I", true)
  | 15 => ("PaddyTerraces$Slope", "dry", "[I", true)
  | 16 => ("PaddyTerraces$Slope", "wentOut", "[I", true)
  | _ => ("PaddyTerraces$Slope", "spilled", "[I", true)
def tyX2 : Nat → FieldType := fun k => match k with
  | 0 => .int
  | 1 => .int
  | 2 => .int
  | 3 => .int
  | 4 => .int
  | 5 => .array .int
  | 6 => .array .int
  | 7 => .array .int
  | 8 => .array .int
  | 9 => .array .int
  | 10 => .array .int
  | 11 => .array .int
  | 12 => .array .int
  | 13 => .array .int
  | 14 => .array .int
  | 15 => .array .int
  | 16 => .array .int
  | _ => .array .int
abbrev wsX20 : List Cond := u_ws RX2 TX2 18
theorem nmX2 : ∀ a, a < 18 → ∀ b, b < 18 → a ≠ b → (TX2 a).2.1 ≠ (TX2 b).2.1 := by decide +kernel
theorem tyX2_ok : ∀ k, k < 18 → parseFieldDescriptor (TX2 k).2.2.1 = some (tyX2 k) := by decide +kernel
abbrev cX2_init : ByteArray := prog_4_method_1_code
def yX2_init : MethodName := ⟨RX2, "<init>", "(II)V"⟩
abbrev cX2_startAnew : ByteArray := prog_4_method_2_code
def yX2_startAnew : MethodName := ⟨RX2, "startAnew", "(II)V"⟩
abbrev cX2_copyFrom : ByteArray := prog_4_method_3_code
def yX2_copyFrom : MethodName := ⟨RX2, "copyFrom", "(LPaddyTerraces$Slope;)V"⟩
abbrev cX2_copyRow : ByteArray := prog_4_method_4_code
def yX2_copyRow : MethodName := ⟨RX2, "copyRow", "([I[I)V"⟩
abbrev cX2_cells : ByteArray := prog_4_method_5_code
def yX2_cells : MethodName := ⟨RX2, "cells", "()I"⟩
abbrev cX2_hasField : ByteArray := prog_4_method_6_code
def yX2_hasField : MethodName := ⟨RX2, "hasField", "(II)Z"⟩
abbrev cX2_cellOf : ByteArray := prog_4_method_7_code
def yX2_cellOf : MethodName := ⟨RX2, "cellOf", "(II)I"⟩
abbrev cX2_fieldNumber : ByteArray := prog_4_method_8_code
def yX2_fieldNumber : MethodName := ⟨RX2, "fieldNumber", "(II)I"⟩
abbrev cX2_crops : ByteArray := prog_4_method_9_code
def yX2_crops : MethodName := ⟨RX2, "crops", "()I"⟩
abbrev cX2_allHardness : ByteArray := prog_4_method_10_code
def yX2_allHardness : MethodName := ⟨RX2, "allHardness", "()I"⟩
abbrev cX2_allDepths : ByteArray := prog_4_method_11_code
def yX2_allDepths : MethodName := ⟨RX2, "allDepths", "()I"⟩
abbrev cX2_sumOf : ByteArray := prog_4_method_12_code
def yX2_sumOf : MethodName := ⟨RX2, "sumOf", "([I)I"⟩
abbrev cX2_clearCrop : ByteArray := prog_4_method_13_code
def yX2_clearCrop : MethodName := ⟨RX2, "clearCrop", "(I)V"⟩
abbrev cX2_letDaysGoBy : ByteArray := prog_4_method_14_code
def yX2_letDaysGoBy : MethodName := ⟨RX2, "letDaysGoBy", "(ILPaddyTerraces$Calendar;)V"⟩
abbrev cX2_takeRain : ByteArray := prog_4_method_15_code
def yX2_takeRain : MethodName := ⟨RX2, "takeRain", "(I)V"⟩
abbrev cX2_takeSpring : ByteArray := prog_4_method_16_code
def yX2_takeSpring : MethodName := ⟨RX2, "takeSpring", "(I)V"⟩
abbrev cX2_letWaterFlow : ByteArray := prog_4_method_17_code
def yX2_letWaterFlow : MethodName := ⟨RX2, "letWaterFlow", "()V"⟩
abbrev cX2_letFieldFlow : ByteArray := prog_4_method_18_code
def yX2_letFieldFlow : MethodName := ⟨RX2, "letFieldFlow", "(II)V"⟩
abbrev cX2_bringWater : ByteArray := prog_4_method_19_code
def yX2_bringWater : MethodName := ⟨RX2, "bringWater", "(III)V"⟩
abbrev cX2_loseWater : ByteArray := prog_4_method_20_code
def yX2_loseWater : MethodName := ⟨RX2, "loseWater", "(I)V"⟩
abbrev cX2_growRice : ByteArray := prog_4_method_21_code
def yX2_growRice : MethodName := ⟨RX2, "growRice", "()V"⟩
abbrev cX2_growCrop : ByteArray := prog_4_method_22_code
def yX2_growCrop : MethodName := ⟨RX2, "growCrop", "(I)V"⟩
abbrev cX2_hardening : ByteArray := prog_4_method_23_code
def yX2_hardening : MethodName := ⟨RX2, "hardening", "(I)I"⟩
def RX3 : String := "PaddyTerraces"
def TX3 : u_T := fun k => match k with
  | 0 => ("PaddyTerraces", "calendar", "LPaddyTerraces$Calendar;", true)
  | 1 => ("PaddyTerraces", "slope", "LPaddyTerraces$Slope;", true)
  | 2 => ("PaddyTerraces", "trial", "LPaddyTerraces$Slope;", true)
  | 3 => ("PaddyTerraces", "best", "LPaddyTerraces$Move;", true)
  | 4 => ("PaddyTerraces", "reaped", "I", false)
  | _ => ("PaddyTerraces", "moved", "I", false)
def tyX3 : Nat → FieldType := fun k => match k with
  | 0 => .object "PaddyTerraces$Calendar"
  | 1 => .object "PaddyTerraces$Slope"
  | 2 => .object "PaddyTerraces$Slope"
  | 3 => .object "PaddyTerraces$Move"
  | 4 => .int
  | _ => .int
abbrev wsX30 : List Cond := u_ws RX3 TX3 6
theorem nmX3 : ∀ a, a < 6 → ∀ b, b < 6 → a ≠ b → (TX3 a).2.1 ≠ (TX3 b).2.1 := by decide +kernel
theorem tyX3_ok : ∀ k, k < 6 → parseFieldDescriptor (TX3 k).2.2.1 = some (tyX3 k) := by decide +kernel
abbrev cX3_init : ByteArray := prog_1_method_1_code
def yX3_init : MethodName := ⟨RX3, "<init>", "()V"⟩
abbrev cX3_lay : ByteArray := prog_1_method_2_code
def yX3_lay : MethodName := ⟨RX3, "lay", "(II)I"⟩
abbrev cX3_setField : ByteArray := prog_1_method_3_code
def yX3_setField : MethodName := ⟨RX3, "setField", "(IIII)I"⟩
abbrev cX3_moveStone : ByteArray := prog_1_method_4_code
def yX3_moveStone : MethodName := ⟨RX3, "moveStone", "(III)I"⟩
abbrev cX3_turn : ByteArray := prog_1_method_5_code
def yX3_turn : MethodName := ⟨RX3, "turn", "(III)I"⟩
abbrev cX3_setShare : ByteArray := prog_1_method_6_code
def yX3_setShare : MethodName := ⟨RX3, "setShare", "(II)I"⟩
abbrev cX3_setDay : ByteArray := prog_1_method_7_code
def yX3_setDay : MethodName := ⟨RX3, "setDay", "(IIII)I"⟩
abbrev cX3_plant : ByteArray := prog_1_method_8_code
def yX3_plant : MethodName := ⟨RX3, "plant", "(III)I"⟩
abbrev cX3_reap : ByteArray := prog_1_method_9_code
def yX3_reap : MethodName := ⟨RX3, "reap", "(II)I"⟩
abbrev cX3_pass : ByteArray := prog_1_method_10_code
def yX3_pass : MethodName := ⟨RX3, "pass", "(I)I"⟩
abbrev cX3_field : ByteArray := prog_1_method_11_code
def yX3_field : MethodName := ⟨RX3, "field", "(III)I"⟩
abbrev cX3_count : ByteArray := prog_1_method_12_code
def yX3_count : MethodName := ⟨RX3, "count", "(I)I"⟩
abbrev cX3_foresee : ByteArray := prog_1_method_14_code
def yX3_foresee : MethodName := ⟨RX3, "foresee", "(II)I"⟩
abbrev cX3_depth : ByteArray := prog_1_method_16_code
def yX3_depth : MethodName := ⟨RX3, "depth", "()D"⟩
abbrev cX3_isWithin : ByteArray := prog_1_method_18_code
def yX3_isWithin : MethodName := ⟨RX3, "isWithin", "(III)Z"⟩
abbrev cX3_countNumber : ByteArray := prog_1_method_19_code
def yX3_countNumber : MethodName := ⟨RX3, "countNumber", "(I)I"⟩
abbrev cX3_foreseenNumber : ByteArray := prog_1_method_20_code
def yX3_foreseenNumber : MethodName := ⟨RX3, "foreseenNumber", "(I)I"⟩
def RX4 : String := "PaddyTerracesLaw$Sim"
def TX4 : u_T := fun k => match k with
  | 0 => ("PaddyTerracesLaw$Sim", "h", "I", false)
  | 1 => ("PaddyTerracesLaw$Sim", "w", "I", false)
  | 2 => ("PaddyTerracesLaw$Sim", "day", "I", false)
  | 3 => ("PaddyTerracesLaw$Sim", "fields", "[[[I", false)
  | 4 => ("PaddyTerracesLaw$Sim", "shares", "[I", false)
  | 5 => ("PaddyTerracesLaw$Sim", "calendar", "[[I", false)
  | 6 => ("PaddyTerracesLaw$Sim", "brook", "I", false)
  | 7 => ("PaddyTerracesLaw$Sim", "reaped", "I", false)
  | 8 => ("PaddyTerracesLaw$Sim", "died", "I", false)
  | _ => ("PaddyTerracesLaw$Sim", "moved", "I", false)
def tyX4 : Nat → FieldType := fun k => match k with
  | 0 => .int
  | 1 => .int
  | 2 => .int
  | 3 => .array (.array (.array .int))
  | 4 => .array .int
  | 5 => .array (.array .int)
  | 6 => .int
  | 7 => .int
  | 8 => .int
  | _ => .int
abbrev wsX40 : List Cond := u_ws RX4 TX4 10
theorem nmX4 : ∀ a, a < 10 → ∀ b, b < 10 → a ≠ b → (TX4 a).2.1 ≠ (TX4 b).2.1 := by decide +kernel
theorem tyX4_ok : ∀ k, k < 10 → parseFieldDescriptor (TX4 k).2.2.1 = some (tyX4 k) := by decide +kernel
abbrev cX4_init : ByteArray := prog_6_method_1_code
def yX4_init : MethodName := ⟨RX4, "<init>", "(II)V"⟩
abbrev cX4_sum : ByteArray := prog_6_method_6_code
def yX4_sum : MethodName := ⟨RX4, "sum", "(I)I"⟩
def RX5 : String := "PaddyTerracesModel"
def TX5 : u_T := fun k => match k with
  | _ => ("", "", "", false)
def tyX5 : Nat → FieldType := fun k => match k with
  | _ => .int
abbrev wsX50 : List Cond := u_ws RX5 TX5 0
theorem nmX5 : ∀ a, a < 0 → ∀ b, b < 0 → a ≠ b → (TX5 a).2.1 ≠ (TX5 b).2.1 := by decide +kernel
theorem tyX5_ok : ∀ k, k < 0 → parseFieldDescriptor (TX5 k).2.2.1 = some (tyX5 k) := by decide +kernel
def RJx145de : String := "java/io/Serializable"
def TJx145de : u_T := fun k => match k with
  | _ => ("", "", "", false)
def tyJx145de : Nat → FieldType := fun k => match k with
  | _ => .int
abbrev wsJx145de0 : List Cond := u_ws RJx145de TJx145de 0
theorem nmJx145de : ∀ a, a < 0 → ∀ b, b < 0 → a ≠ b → (TJx145de a).2.1 ≠ (TJx145de b).2.1 := by decide +kernel
theorem tyJx145de_ok : ∀ k, k < 0 → parseFieldDescriptor (TJx145de k).2.2.1 = some (tyJx145de k) := by decide +kernel
def RJ9 : String := "java/lang/Math"
def TJ9 : u_T := fun k => match k with
  | _ => ("", "", "", false)
def tyJ9 : Nat → FieldType := fun k => match k with
  | _ => .int
abbrev wsJ90 : List Cond := u_ws RJ9 TJ9 0
theorem nmJ9 : ∀ a, a < 0 → ∀ b, b < 0 → a ≠ b → (TJ9 a).2.1 ≠ (TJ9 b).2.1 := by decide +kernel
theorem tyJ9_ok : ∀ k, k < 0 → parseFieldDescriptor (TJ9 k).2.2.1 = some (tyJ9 k) := by decide +kernel
abbrev cJ9_abs_0f7a4 : ByteArray := prog_12_method_59_code
def yJ9_abs_0f7a4 : MethodName := ⟨RJ9, "abs", "(I)I"⟩
abbrev cJ9_max_7cf53 : ByteArray := prog_12_method_65_code
def yJ9_max_7cf53 : MethodName := ⟨RJ9, "max", "(II)I"⟩
abbrev cJ9_min_7cf53 : ByteArray := prog_12_method_69_code
def yJ9_min_7cf53 : MethodName := ⟨RJ9, "min", "(II)I"⟩
def RJ0 : String := "java/lang/String"
def TJ0 : u_T := fun k => match k with
  | _ => ("", "", "", false)
def tyJ0 : Nat → FieldType := fun k => match k with
  | _ => .int
abbrev wsJ00 : List Cond := u_ws RJ0 TJ0 0
theorem nmJ0 : ∀ a, a < 0 → ∀ b, b < 0 → a ≠ b → (TJ0 a).2.1 ≠ (TJ0 b).2.1 := by decide +kernel
theorem tyJ0_ok : ∀ k, k < 0 → parseFieldDescriptor (TJ0 k).2.2.1 = some (tyJ0 k) := by decide +kernel
def RJ10 : String := "java/lang/System"
def TJ10 : u_T := fun k => match k with
  | _ => ("", "", "", false)
def tyJ10 : Nat → FieldType := fun k => match k with
  | _ => .int
abbrev wsJ100 : List Cond := u_ws RJ10 TJ10 0
theorem nmJ10 : ∀ a, a < 0 → ∀ b, b < 0 → a ≠ b → (TJ10 a).2.1 ≠ (TJ10 b).2.1 := by decide +kernel
theorem tyJ10_ok : ∀ k, k < 0 → parseFieldDescriptor (TJ10 k).2.2.1 = some (tyJ10 k) := by decide +kernel
def RJ7 : String := "java/util/Arrays"
def TJ7 : u_T := fun k => match k with
  | _ => ("", "", "", false)
def tyJ7 : Nat → FieldType := fun k => match k with
  | _ => .int
abbrev wsJ70 : List Cond := u_ws RJ7 TJ7 0
theorem nmJ7 : ∀ a, a < 0 → ∀ b, b < 0 → a ≠ b → (TJ7 a).2.1 ≠ (TJ7 b).2.1 := by decide +kernel
theorem tyJ7_ok : ∀ k, k < 0 → parseFieldDescriptor (TJ7 k).2.2.1 = some (tyJ7 k) := by decide +kernel
abbrev cJ7_fill_53178 : ByteArray := prog_17_method_103_code
def yJ7_fill_53178 : MethodName := ⟨RJ7, "fill", "([II)V"⟩
def RL : String := "PaddyTerracesLaw"
abbrev cL_below : ByteArray := method_2_code
def yL_below : MethodName := ⟨RL, "below", "(II)I"⟩
abbrev cL_cell : ByteArray := method_3_code
def yL_cell : MethodName := ⟨RL, "cell", "([II)I"⟩
abbrev cL_build : ByteArray := method_4_code
def yL_build : MethodName := ⟨RL, "build", "(LPaddyTerraces;[I)LPaddyTerracesLaw$Sim;"⟩
abbrev cL_law : ByteArray := code
def yL_law : MethodName := ⟨RL, "law", "([I)Z"⟩
def wsJ7_fill_53178 : List Cond := .code yJ7_fill_53178 cJ7_fill_53178 4 none :: ([])
def wsX0_init : List Cond := .code yX0_init cX0_init 1 none :: ([.methodLink RX0 3 objectInit, .instanceMethod objectInit, .code objectInit ⟨#[0xb1]⟩ 1 none, .arrayClass .int, .fieldLink RX0 9 "PaddyTerraces$Calendar" "rain" "[I", .fieldLink RX0 15 "PaddyTerraces$Calendar" "spring" "[I", .fieldLink RX0 18 "PaddyTerraces$Calendar" "draught" "[I", .methodLink RX0 21 yJ7_fill_53178, .static yJ7_fill_53178, .initialized RJ7, .code yJ7_fill_53178 cJ7_fill_53178 4 none] ++ wsX00)
def wsX1_init : List Cond := .code yX1_init cX1_init 1 none :: ([.methodLink RX1 3 objectInit, .instanceMethod objectInit, .code objectInit ⟨#[0xb1]⟩ 1 none])
def wsX2_clearCrop : List Cond := .code yX2_clearCrop cX2_clearCrop 2 none :: ([.fieldLink RX2 30 "PaddyTerraces$Slope" "crop" "[I", .fieldLink RX2 33 "PaddyTerraces$Slope" "age" "[I", .fieldLink RX2 36 "PaddyTerraces$Slope" "hardness" "[I", .fieldLink RX2 39 "PaddyTerraces$Slope" "drowned" "[I", .fieldLink RX2 42 "PaddyTerraces$Slope" "dry" "[I"] ++ wsX20)
def wsX2_startAnew_r1 : List Cond := [Cond.fieldLink RX2 55 "PaddyTerraces$Slope" "h" "I", Cond.fieldLink RX2 59 "PaddyTerraces$Slope" "w" "I", Cond.fieldLink RX2 62 "PaddyTerraces$Slope" "day" "I", Cond.fieldLink RX2 65 "PaddyTerraces$Slope" "brook" "I", Cond.fieldLink RX2 68 "PaddyTerraces$Slope" "died" "I", Cond.fieldLink RX2 9 "PaddyTerraces$Slope" "share" "[I", Cond.fieldLink RX2 15 "PaddyTerraces$Slope" "depth" "[I", Cond.fieldLink RX2 18 "PaddyTerraces$Slope" "bank" "[I", Cond.fieldLink RX2 21 "PaddyTerraces$Slope" "seepage" "[I", Cond.fieldLink RX2 24 "PaddyTerraces$Slope" "stone" "[I", Cond.fieldLink RX2 27 "PaddyTerraces$Slope" "side" "[I", Cond.fieldLink RX2 45 "PaddyTerraces$Slope" "wentOut" "[I", Cond.fieldLink RX2 48 "PaddyTerraces$Slope" "spilled" "[I", Cond.methodLink RX2 71 yJ7_fill_53178, Cond.static yJ7_fill_53178, Cond.initialized RJ7, Cond.code yJ7_fill_53178 cJ7_fill_53178 4 none, Cond.methodLink RX2 77 yX2_clearCrop, Cond.instanceMethod yX2_clearCrop, Cond.selects RX2 yX2_clearCrop yX2_clearCrop, Cond.initialized RX2, Cond.code yX2_clearCrop cX2_clearCrop 2 none, Cond.fieldLink RX2 30 "PaddyTerraces$Slope" "crop" "[I", Cond.fieldLink RX2 33 "PaddyTerraces$Slope" "age" "[I"]
def wsX2_startAnew_r2 : List Cond := [Cond.fieldLink RX2 36 "PaddyTerraces$Slope" "hardness" "[I", Cond.fieldLink RX2 39 "PaddyTerraces$Slope" "drowned" "[I", Cond.fieldLink RX2 42 "PaddyTerraces$Slope" "dry" "[I"]
def wsX2_startAnew : List Cond := .code yX2_startAnew cX2_startAnew 4 none :: ((wsX2_startAnew_r1 ++ wsX2_startAnew_r2) ++ wsX20)
def wsX2_init_r1 : List Cond := [Cond.methodLink RX2 3 objectInit, Cond.instanceMethod objectInit, Cond.code objectInit ⟨#[0xb1]⟩ 1 none, Cond.arrayClass .int, Cond.fieldLink RX2 9 "PaddyTerraces$Slope" "share" "[I", Cond.fieldLink RX2 15 "PaddyTerraces$Slope" "depth" "[I", Cond.fieldLink RX2 18 "PaddyTerraces$Slope" "bank" "[I", Cond.fieldLink RX2 21 "PaddyTerraces$Slope" "seepage" "[I", Cond.fieldLink RX2 24 "PaddyTerraces$Slope" "stone" "[I", Cond.fieldLink RX2 27 "PaddyTerraces$Slope" "side" "[I", Cond.fieldLink RX2 30 "PaddyTerraces$Slope" "crop" "[I", Cond.fieldLink RX2 33 "PaddyTerraces$Slope" "age" "[I", Cond.fieldLink RX2 36 "PaddyTerraces$Slope" "hardness" "[I", Cond.fieldLink RX2 39 "PaddyTerraces$Slope" "drowned" "[I", Cond.fieldLink RX2 42 "PaddyTerraces$Slope" "dry" "[I", Cond.fieldLink RX2 45 "PaddyTerraces$Slope" "wentOut" "[I", Cond.fieldLink RX2 48 "PaddyTerraces$Slope" "spilled" "[I", Cond.methodLink RX2 51 yX2_startAnew, Cond.instanceMethod yX2_startAnew, Cond.selects RX2 yX2_startAnew yX2_startAnew, Cond.initialized RX2, Cond.code yX2_startAnew cX2_startAnew 4 none, Cond.fieldLink RX2 55 "PaddyTerraces$Slope" "h" "I", Cond.fieldLink RX2 59 "PaddyTerraces$Slope" "w" "I"]
def wsX2_init_r2 : List Cond := [Cond.fieldLink RX2 62 "PaddyTerraces$Slope" "day" "I", Cond.fieldLink RX2 65 "PaddyTerraces$Slope" "brook" "I", Cond.fieldLink RX2 68 "PaddyTerraces$Slope" "died" "I", Cond.methodLink RX2 71 yJ7_fill_53178, Cond.static yJ7_fill_53178, Cond.initialized RJ7, Cond.code yJ7_fill_53178 cJ7_fill_53178 4 none, Cond.methodLink RX2 77 yX2_clearCrop, Cond.instanceMethod yX2_clearCrop, Cond.selects RX2 yX2_clearCrop yX2_clearCrop, Cond.code yX2_clearCrop cX2_clearCrop 2 none]
def wsX2_init : List Cond := .code yX2_init cX2_init 3 none :: ((wsX2_init_r1 ++ wsX2_init_r2) ++ wsX20)
def wsX2_copyRow : List Cond := .code yX2_copyRow cX2_copyRow 2 none :: ([.methodLink RX2 81 arraycopyName, .native arraycopyName, .static arraycopyName, .initialized "java/lang/System"])
def wsX2_copyFrom_r1 : List Cond := [Cond.fieldLink RX2 55 "PaddyTerraces$Slope" "h" "I", Cond.fieldLink RX2 59 "PaddyTerraces$Slope" "w" "I", Cond.fieldLink RX2 62 "PaddyTerraces$Slope" "day" "I", Cond.fieldLink RX2 65 "PaddyTerraces$Slope" "brook" "I", Cond.fieldLink RX2 68 "PaddyTerraces$Slope" "died" "I", Cond.fieldLink RX2 9 "PaddyTerraces$Slope" "share" "[I", Cond.methodLink RX2 81 arraycopyName, Cond.native arraycopyName, Cond.static arraycopyName, Cond.initialized "java/lang/System", Cond.fieldLink RX2 15 "PaddyTerraces$Slope" "depth" "[I", Cond.fieldLink RX2 18 "PaddyTerraces$Slope" "bank" "[I", Cond.fieldLink RX2 21 "PaddyTerraces$Slope" "seepage" "[I", Cond.fieldLink RX2 24 "PaddyTerraces$Slope" "stone" "[I", Cond.fieldLink RX2 27 "PaddyTerraces$Slope" "side" "[I", Cond.fieldLink RX2 30 "PaddyTerraces$Slope" "crop" "[I", Cond.fieldLink RX2 33 "PaddyTerraces$Slope" "age" "[I", Cond.fieldLink RX2 36 "PaddyTerraces$Slope" "hardness" "[I", Cond.fieldLink RX2 39 "PaddyTerraces$Slope" "drowned" "[I", Cond.fieldLink RX2 42 "PaddyTerraces$Slope" "dry" "[I", Cond.fieldLink RX2 45 "PaddyTerraces$Slope" "wentOut" "[I", Cond.fieldLink RX2 48 "PaddyTerraces$Slope" "spilled" "[I", Cond.methodLink RX2 87 yX2_copyRow, Cond.static yX2_copyRow]
def wsX2_copyFrom_r2 : List Cond := [Cond.initialized RX2, Cond.code yX2_copyRow cX2_copyRow 2 none]
def wsX2_copyFrom : List Cond := .code yX2_copyFrom cX2_copyFrom 2 none :: ((wsX2_copyFrom_r1 ++ wsX2_copyFrom_r2) ++ wsX20)
def wsX2_cells : List Cond := .code yX2_cells cX2_cells 1 (some .int) :: ([.fieldLink RX2 55 "PaddyTerraces$Slope" "h" "I", .fieldLink RX2 59 "PaddyTerraces$Slope" "w" "I"] ++ wsX20)
def wsX2_hasField : List Cond := .code yX2_hasField cX2_hasField 3 (some .boolean) :: ([.fieldLink RX2 55 "PaddyTerraces$Slope" "h" "I", .fieldLink RX2 59 "PaddyTerraces$Slope" "w" "I"] ++ wsX20)
def wsX2_cellOf : List Cond := .code yX2_cellOf cX2_cellOf 3 (some .int) :: ([.fieldLink RX2 59 "PaddyTerraces$Slope" "w" "I"] ++ wsX20)
def wsX2_fieldNumber : List Cond := .code yX2_fieldNumber cX2_fieldNumber 3 (some .int) :: ([.fieldLink RX2 15 "PaddyTerraces$Slope" "depth" "[I", .fieldLink RX2 18 "PaddyTerraces$Slope" "bank" "[I", .fieldLink RX2 21 "PaddyTerraces$Slope" "seepage" "[I", .fieldLink RX2 24 "PaddyTerraces$Slope" "stone" "[I", .fieldLink RX2 27 "PaddyTerraces$Slope" "side" "[I", .fieldLink RX2 30 "PaddyTerraces$Slope" "crop" "[I", .fieldLink RX2 33 "PaddyTerraces$Slope" "age" "[I", .fieldLink RX2 36 "PaddyTerraces$Slope" "hardness" "[I", .fieldLink RX2 39 "PaddyTerraces$Slope" "drowned" "[I", .fieldLink RX2 42 "PaddyTerraces$Slope" "dry" "[I", .fieldLink RX2 45 "PaddyTerraces$Slope" "wentOut" "[I", .fieldLink RX2 48 "PaddyTerraces$Slope" "spilled" "[I"] ++ wsX20)
def wsX2_sumOf : List Cond := .code yX2_sumOf cX2_sumOf 4 (some .int) :: ([.methodLink RX2 95 yX2_cells, .instanceMethod yX2_cells, .selects RX2 yX2_cells yX2_cells, .initialized RX2, .code yX2_cells cX2_cells 1 (some .int), .fieldLink RX2 55 "PaddyTerraces$Slope" "h" "I", .fieldLink RX2 59 "PaddyTerraces$Slope" "w" "I"] ++ wsX20)
def wsX2_crops : List Cond := .code yX2_crops cX2_crops 1 (some .int) :: ([.fieldLink RX2 30 "PaddyTerraces$Slope" "crop" "[I", .methodLink RX2 91 yX2_sumOf, .instanceMethod yX2_sumOf, .selects RX2 yX2_sumOf yX2_sumOf, .initialized RX2, .code yX2_sumOf cX2_sumOf 4 (some .int), .methodLink RX2 95 yX2_cells, .instanceMethod yX2_cells, .selects RX2 yX2_cells yX2_cells, .code yX2_cells cX2_cells 1 (some .int), .fieldLink RX2 55 "PaddyTerraces$Slope" "h" "I", .fieldLink RX2 59 "PaddyTerraces$Slope" "w" "I"] ++ wsX20)
def wsX2_allHardness : List Cond := .code yX2_allHardness cX2_allHardness 1 (some .int) :: ([.fieldLink RX2 36 "PaddyTerraces$Slope" "hardness" "[I", .methodLink RX2 91 yX2_sumOf, .instanceMethod yX2_sumOf, .selects RX2 yX2_sumOf yX2_sumOf, .initialized RX2, .code yX2_sumOf cX2_sumOf 4 (some .int), .methodLink RX2 95 yX2_cells, .instanceMethod yX2_cells, .selects RX2 yX2_cells yX2_cells, .code yX2_cells cX2_cells 1 (some .int), .fieldLink RX2 55 "PaddyTerraces$Slope" "h" "I", .fieldLink RX2 59 "PaddyTerraces$Slope" "w" "I"] ++ wsX20)
def wsX2_allDepths : List Cond := .code yX2_allDepths cX2_allDepths 1 (some .int) :: ([.fieldLink RX2 15 "PaddyTerraces$Slope" "depth" "[I", .methodLink RX2 91 yX2_sumOf, .instanceMethod yX2_sumOf, .selects RX2 yX2_sumOf yX2_sumOf, .initialized RX2, .code yX2_sumOf cX2_sumOf 4 (some .int), .methodLink RX2 95 yX2_cells, .instanceMethod yX2_cells, .selects RX2 yX2_cells yX2_cells, .code yX2_cells cX2_cells 1 (some .int), .fieldLink RX2 55 "PaddyTerraces$Slope" "h" "I", .fieldLink RX2 59 "PaddyTerraces$Slope" "w" "I"] ++ wsX20)
def wsX2_takeRain : List Cond := .code yX2_takeRain cX2_takeRain 3 none :: ([.fieldLink RX2 15 "PaddyTerraces$Slope" "depth" "[I", .methodLink RX2 95 yX2_cells, .instanceMethod yX2_cells, .selects RX2 yX2_cells yX2_cells, .initialized RX2, .code yX2_cells cX2_cells 1 (some .int), .fieldLink RX2 55 "PaddyTerraces$Slope" "h" "I", .fieldLink RX2 59 "PaddyTerraces$Slope" "w" "I"] ++ wsX20)
def wsX2_takeSpring : List Cond := .code yX2_takeSpring cX2_takeSpring 4 none :: ([.fieldLink RX2 59 "PaddyTerraces$Slope" "w" "I", .fieldLink RX2 9 "PaddyTerraces$Slope" "share" "[I", .fieldLink RX2 15 "PaddyTerraces$Slope" "depth" "[I"] ++ wsX20)
def wsX2_bringWater : List Cond := .code yX2_bringWater cX2_bringWater 4 none :: ([.fieldLink RX2 15 "PaddyTerraces$Slope" "depth" "[I", .fieldLink RX2 65 "PaddyTerraces$Slope" "brook" "I", .methodLink RX2 144 yX2_hasField, .instanceMethod yX2_hasField, .selects RX2 yX2_hasField yX2_hasField, .initialized RX2, .code yX2_hasField cX2_hasField 3 (some .boolean), .fieldLink RX2 55 "PaddyTerraces$Slope" "h" "I", .fieldLink RX2 59 "PaddyTerraces$Slope" "w" "I", .methodLink RX2 128 yX2_cellOf, .instanceMethod yX2_cellOf, .selects RX2 yX2_cellOf yX2_cellOf, .code yX2_cellOf cX2_cellOf 3 (some .int)] ++ wsX20)
def wsX2_letFieldFlow_r1 : List Cond := [Cond.fieldLink RX2 15 "PaddyTerraces$Slope" "depth" "[I", Cond.fieldLink RX2 24 "PaddyTerraces$Slope" "stone" "[I", Cond.methodLink RX2 132 Lib.Math.max.name, Cond.static Lib.Math.max.name, Cond.initialized "java/lang/Math", Cond.code Lib.Math.max.name Lib.Math.max.code 2 (some .int), Cond.methodLink RX2 137 Lib.Math.min.name, Cond.static Lib.Math.min.name, Cond.code Lib.Math.min.name Lib.Math.min.code 2 (some .int), Cond.fieldLink RX2 45 "PaddyTerraces$Slope" "wentOut" "[I", Cond.fieldLink RX2 27 "PaddyTerraces$Slope" "side" "[I", Cond.fieldLink RX2 18 "PaddyTerraces$Slope" "bank" "[I", Cond.fieldLink RX2 48 "PaddyTerraces$Slope" "spilled" "[I", Cond.methodLink RX2 128 yX2_cellOf, Cond.instanceMethod yX2_cellOf, Cond.selects RX2 yX2_cellOf yX2_cellOf, Cond.initialized RX2, Cond.code yX2_cellOf cX2_cellOf 3 (some .int), Cond.fieldLink RX2 59 "PaddyTerraces$Slope" "w" "I", Cond.methodLink RX2 140 yX2_bringWater, Cond.instanceMethod yX2_bringWater, Cond.selects RX2 yX2_bringWater yX2_bringWater, Cond.code yX2_bringWater cX2_bringWater 4 none, Cond.fieldLink RX2 65 "PaddyTerraces$Slope" "brook" "I"]
def wsX2_letFieldFlow_r2 : List Cond := [Cond.methodLink RX2 144 yX2_hasField, Cond.instanceMethod yX2_hasField, Cond.selects RX2 yX2_hasField yX2_hasField, Cond.code yX2_hasField cX2_hasField 3 (some .boolean), Cond.fieldLink RX2 55 "PaddyTerraces$Slope" "h" "I"]
def wsX2_letFieldFlow : List Cond := .code yX2_letFieldFlow cX2_letFieldFlow 6 none :: ((wsX2_letFieldFlow_r1 ++ wsX2_letFieldFlow_r2) ++ wsX20)
def wsX2_letWaterFlow_r1 : List Cond := [Cond.fieldLink RX2 55 "PaddyTerraces$Slope" "h" "I", Cond.fieldLink RX2 59 "PaddyTerraces$Slope" "w" "I", Cond.methodLink RX2 125 yX2_letFieldFlow, Cond.instanceMethod yX2_letFieldFlow, Cond.selects RX2 yX2_letFieldFlow yX2_letFieldFlow, Cond.initialized RX2, Cond.code yX2_letFieldFlow cX2_letFieldFlow 6 none, Cond.fieldLink RX2 15 "PaddyTerraces$Slope" "depth" "[I", Cond.fieldLink RX2 24 "PaddyTerraces$Slope" "stone" "[I", Cond.methodLink RX2 132 Lib.Math.max.name, Cond.static Lib.Math.max.name, Cond.initialized "java/lang/Math", Cond.code Lib.Math.max.name Lib.Math.max.code 2 (some .int), Cond.methodLink RX2 137 Lib.Math.min.name, Cond.static Lib.Math.min.name, Cond.code Lib.Math.min.name Lib.Math.min.code 2 (some .int), Cond.fieldLink RX2 45 "PaddyTerraces$Slope" "wentOut" "[I", Cond.fieldLink RX2 27 "PaddyTerraces$Slope" "side" "[I", Cond.fieldLink RX2 18 "PaddyTerraces$Slope" "bank" "[I", Cond.fieldLink RX2 48 "PaddyTerraces$Slope" "spilled" "[I", Cond.methodLink RX2 128 yX2_cellOf, Cond.instanceMethod yX2_cellOf, Cond.selects RX2 yX2_cellOf yX2_cellOf, Cond.code yX2_cellOf cX2_cellOf 3 (some .int)]
def wsX2_letWaterFlow_r2 : List Cond := [Cond.methodLink RX2 140 yX2_bringWater, Cond.instanceMethod yX2_bringWater, Cond.selects RX2 yX2_bringWater yX2_bringWater, Cond.code yX2_bringWater cX2_bringWater 4 none, Cond.fieldLink RX2 65 "PaddyTerraces$Slope" "brook" "I", Cond.methodLink RX2 144 yX2_hasField, Cond.instanceMethod yX2_hasField, Cond.selects RX2 yX2_hasField yX2_hasField, Cond.code yX2_hasField cX2_hasField 3 (some .boolean)]
def wsX2_letWaterFlow : List Cond := .code yX2_letWaterFlow cX2_letWaterFlow 3 none :: ((wsX2_letWaterFlow_r1 ++ wsX2_letWaterFlow_r2) ++ wsX20)
def wsX2_loseWater : List Cond := .code yX2_loseWater cX2_loseWater 4 none :: ([.fieldLink RX2 15 "PaddyTerraces$Slope" "depth" "[I", .fieldLink RX2 21 "PaddyTerraces$Slope" "seepage" "[I", .methodLink RX2 132 Lib.Math.max.name, .static Lib.Math.max.name, .initialized "java/lang/Math", .code Lib.Math.max.name Lib.Math.max.code 2 (some .int), .methodLink RX2 137 Lib.Math.min.name, .static Lib.Math.min.name, .code Lib.Math.min.name Lib.Math.min.code 2 (some .int), .fieldLink RX2 65 "PaddyTerraces$Slope" "brook" "I", .methodLink RX2 95 yX2_cells, .instanceMethod yX2_cells, .selects RX2 yX2_cells yX2_cells, .initialized RX2, .code yX2_cells cX2_cells 1 (some .int), .fieldLink RX2 55 "PaddyTerraces$Slope" "h" "I", .fieldLink RX2 59 "PaddyTerraces$Slope" "w" "I"] ++ wsX20)
def wsX3_isWithin : List Cond := .code yX3_isWithin cX3_isWithin 3 (some .boolean) :: ([])
def wsX2_hardening : List Cond := .code yX2_hardening cX2_hardening 2 (some .int) :: ([.fieldLink RX2 39 "PaddyTerraces$Slope" "drowned" "[I", .fieldLink RX2 42 "PaddyTerraces$Slope" "dry" "[I", .fieldLink RX2 15 "PaddyTerraces$Slope" "depth" "[I", .static yX3_isWithin, .initialized RX3, .code yX3_isWithin cX3_isWithin 3 (some .boolean)] ++ wsX20)
def wsX2_growCrop_r1 : List Cond := [Cond.fieldLink RX2 33 "PaddyTerraces$Slope" "age" "[I", Cond.methodLink RX2 137 Lib.Math.min.name, Cond.static Lib.Math.min.name, Cond.initialized "java/lang/Math", Cond.code Lib.Math.min.name Lib.Math.min.code 2 (some .int), Cond.fieldLink RX2 39 "PaddyTerraces$Slope" "drowned" "[I", Cond.fieldLink RX2 15 "PaddyTerraces$Slope" "depth" "[I", Cond.fieldLink RX2 42 "PaddyTerraces$Slope" "dry" "[I", Cond.fieldLink RX2 68 "PaddyTerraces$Slope" "died" "I", Cond.fieldLink RX2 36 "PaddyTerraces$Slope" "hardness" "[I", Cond.methodLink RX2 132 Lib.Math.max.name, Cond.static Lib.Math.max.name, Cond.code Lib.Math.max.name Lib.Math.max.code 2 (some .int), Cond.methodLink RX2 77 yX2_clearCrop, Cond.instanceMethod yX2_clearCrop, Cond.selects RX2 yX2_clearCrop yX2_clearCrop, Cond.initialized RX2, Cond.code yX2_clearCrop cX2_clearCrop 2 none, Cond.fieldLink RX2 30 "PaddyTerraces$Slope" "crop" "[I", Cond.methodLink RX2 151 yX2_hardening, Cond.instanceMethod yX2_hardening, Cond.selects RX2 yX2_hardening yX2_hardening, Cond.code yX2_hardening cX2_hardening 2 (some .int), Cond.static yX3_isWithin]
def wsX2_growCrop_r2 : List Cond := [Cond.initialized RX3, Cond.code yX3_isWithin cX3_isWithin 3 (some .boolean)]
def wsX2_growCrop : List Cond := .code yX2_growCrop cX2_growCrop 4 none :: ((wsX2_growCrop_r1 ++ wsX2_growCrop_r2) ++ wsX20)
def wsX2_growRice_r1 : List Cond := [Cond.fieldLink RX2 30 "PaddyTerraces$Slope" "crop" "[I", Cond.methodLink RX2 95 yX2_cells, Cond.instanceMethod yX2_cells, Cond.selects RX2 yX2_cells yX2_cells, Cond.initialized RX2, Cond.code yX2_cells cX2_cells 1 (some .int), Cond.fieldLink RX2 55 "PaddyTerraces$Slope" "h" "I", Cond.fieldLink RX2 59 "PaddyTerraces$Slope" "w" "I", Cond.methodLink RX2 148 yX2_growCrop, Cond.instanceMethod yX2_growCrop, Cond.selects RX2 yX2_growCrop yX2_growCrop, Cond.code yX2_growCrop cX2_growCrop 4 none, Cond.fieldLink RX2 33 "PaddyTerraces$Slope" "age" "[I", Cond.methodLink RX2 137 Lib.Math.min.name, Cond.static Lib.Math.min.name, Cond.initialized "java/lang/Math", Cond.code Lib.Math.min.name Lib.Math.min.code 2 (some .int), Cond.fieldLink RX2 39 "PaddyTerraces$Slope" "drowned" "[I", Cond.fieldLink RX2 15 "PaddyTerraces$Slope" "depth" "[I", Cond.fieldLink RX2 42 "PaddyTerraces$Slope" "dry" "[I", Cond.fieldLink RX2 68 "PaddyTerraces$Slope" "died" "I", Cond.fieldLink RX2 36 "PaddyTerraces$Slope" "hardness" "[I", Cond.methodLink RX2 132 Lib.Math.max.name, Cond.static Lib.Math.max.name]
def wsX2_growRice_r2 : List Cond := [Cond.code Lib.Math.max.name Lib.Math.max.code 2 (some .int), Cond.methodLink RX2 77 yX2_clearCrop, Cond.instanceMethod yX2_clearCrop, Cond.selects RX2 yX2_clearCrop yX2_clearCrop, Cond.code yX2_clearCrop cX2_clearCrop 2 none, Cond.methodLink RX2 151 yX2_hardening, Cond.instanceMethod yX2_hardening, Cond.selects RX2 yX2_hardening yX2_hardening, Cond.code yX2_hardening cX2_hardening 2 (some .int), Cond.static yX3_isWithin, Cond.initialized RX3, Cond.code yX3_isWithin cX3_isWithin 3 (some .boolean)]
def wsX2_growRice : List Cond := .code yX2_growRice cX2_growRice 2 none :: ((wsX2_growRice_r1 ++ wsX2_growRice_r2) ++ wsX20)
def wsX2_letDaysGoBy_r1 : List Cond := [Cond.fieldLink RX2 62 "PaddyTerraces$Slope" "day" "I", Cond.fieldLink RX2 99 "PaddyTerraces$Calendar" "rain" "[I", Cond.fieldLink RX2 107 "PaddyTerraces$Calendar" "spring" "[I", Cond.fieldLink RX2 116 "PaddyTerraces$Calendar" "draught" "[I", Cond.methodLink RX2 104 yX2_takeRain, Cond.instanceMethod yX2_takeRain, Cond.selects RX2 yX2_takeRain yX2_takeRain, Cond.initialized RX2, Cond.code yX2_takeRain cX2_takeRain 3 none, Cond.fieldLink RX2 15 "PaddyTerraces$Slope" "depth" "[I", Cond.methodLink RX2 95 yX2_cells, Cond.instanceMethod yX2_cells, Cond.selects RX2 yX2_cells yX2_cells, Cond.code yX2_cells cX2_cells 1 (some .int), Cond.fieldLink RX2 55 "PaddyTerraces$Slope" "h" "I", Cond.fieldLink RX2 59 "PaddyTerraces$Slope" "w" "I", Cond.methodLink RX2 110 yX2_takeSpring, Cond.instanceMethod yX2_takeSpring, Cond.selects RX2 yX2_takeSpring yX2_takeSpring, Cond.code yX2_takeSpring cX2_takeSpring 4 none, Cond.fieldLink RX2 9 "PaddyTerraces$Slope" "share" "[I", Cond.methodLink RX2 113 yX2_letWaterFlow, Cond.instanceMethod yX2_letWaterFlow, Cond.selects RX2 yX2_letWaterFlow yX2_letWaterFlow]
def wsX2_letDaysGoBy_r2 : List Cond := [Cond.code yX2_letWaterFlow cX2_letWaterFlow 3 none, Cond.methodLink RX2 125 yX2_letFieldFlow, Cond.instanceMethod yX2_letFieldFlow, Cond.selects RX2 yX2_letFieldFlow yX2_letFieldFlow, Cond.code yX2_letFieldFlow cX2_letFieldFlow 6 none, Cond.fieldLink RX2 24 "PaddyTerraces$Slope" "stone" "[I", Cond.methodLink RX2 132 Lib.Math.max.name, Cond.static Lib.Math.max.name, Cond.initialized "java/lang/Math", Cond.code Lib.Math.max.name Lib.Math.max.code 2 (some .int), Cond.methodLink RX2 137 Lib.Math.min.name, Cond.static Lib.Math.min.name, Cond.code Lib.Math.min.name Lib.Math.min.code 2 (some .int), Cond.fieldLink RX2 45 "PaddyTerraces$Slope" "wentOut" "[I", Cond.fieldLink RX2 27 "PaddyTerraces$Slope" "side" "[I", Cond.fieldLink RX2 18 "PaddyTerraces$Slope" "bank" "[I", Cond.fieldLink RX2 48 "PaddyTerraces$Slope" "spilled" "[I", Cond.methodLink RX2 128 yX2_cellOf, Cond.instanceMethod yX2_cellOf, Cond.selects RX2 yX2_cellOf yX2_cellOf, Cond.code yX2_cellOf cX2_cellOf 3 (some .int), Cond.methodLink RX2 140 yX2_bringWater, Cond.instanceMethod yX2_bringWater, Cond.selects RX2 yX2_bringWater yX2_bringWater]
def wsX2_letDaysGoBy_r3 : List Cond := [Cond.code yX2_bringWater cX2_bringWater 4 none, Cond.fieldLink RX2 65 "PaddyTerraces$Slope" "brook" "I", Cond.methodLink RX2 144 yX2_hasField, Cond.instanceMethod yX2_hasField, Cond.selects RX2 yX2_hasField yX2_hasField, Cond.code yX2_hasField cX2_hasField 3 (some .boolean), Cond.methodLink RX2 119 yX2_loseWater, Cond.instanceMethod yX2_loseWater, Cond.selects RX2 yX2_loseWater yX2_loseWater, Cond.code yX2_loseWater cX2_loseWater 4 none, Cond.fieldLink RX2 21 "PaddyTerraces$Slope" "seepage" "[I", Cond.methodLink RX2 122 yX2_growRice, Cond.instanceMethod yX2_growRice, Cond.selects RX2 yX2_growRice yX2_growRice, Cond.code yX2_growRice cX2_growRice 2 none, Cond.fieldLink RX2 30 "PaddyTerraces$Slope" "crop" "[I", Cond.methodLink RX2 148 yX2_growCrop, Cond.instanceMethod yX2_growCrop, Cond.selects RX2 yX2_growCrop yX2_growCrop, Cond.code yX2_growCrop cX2_growCrop 4 none, Cond.fieldLink RX2 33 "PaddyTerraces$Slope" "age" "[I", Cond.fieldLink RX2 39 "PaddyTerraces$Slope" "drowned" "[I", Cond.fieldLink RX2 42 "PaddyTerraces$Slope" "dry" "[I", Cond.fieldLink RX2 68 "PaddyTerraces$Slope" "died" "I"]
def wsX2_letDaysGoBy_r4 : List Cond := [Cond.fieldLink RX2 36 "PaddyTerraces$Slope" "hardness" "[I", Cond.methodLink RX2 77 yX2_clearCrop, Cond.instanceMethod yX2_clearCrop, Cond.selects RX2 yX2_clearCrop yX2_clearCrop, Cond.code yX2_clearCrop cX2_clearCrop 2 none, Cond.methodLink RX2 151 yX2_hardening, Cond.instanceMethod yX2_hardening, Cond.selects RX2 yX2_hardening yX2_hardening, Cond.code yX2_hardening cX2_hardening 2 (some .int), Cond.static yX3_isWithin, Cond.initialized RX3, Cond.code yX3_isWithin cX3_isWithin 3 (some .boolean)]
def wsX2_letDaysGoBy : List Cond := .code yX2_letDaysGoBy cX2_letDaysGoBy 5 none :: ((wsX2_letDaysGoBy_r1 ++ (wsX2_letDaysGoBy_r2 ++ (wsX2_letDaysGoBy_r3 ++ wsX2_letDaysGoBy_r4))) ++ wsX20 ++ wsX00)
def wsX3_init_r1 : List Cond := [Cond.methodLink RX3 1 objectInit, Cond.instanceMethod objectInit, Cond.code objectInit ⟨#[0xb1]⟩ 1 none, Cond.classLink RX3 7 RX0, Cond.instantiable RX0 3, Cond.initialized RX0, Cond.fieldLink RX3 10 "PaddyTerraces" "calendar" "LPaddyTerraces$Calendar;", Cond.classLink RX3 16 RX2, Cond.instantiable RX2 18, Cond.initialized RX2, Cond.fieldLink RX3 21 "PaddyTerraces" "slope" "LPaddyTerraces$Slope;", Cond.fieldLink RX3 25 "PaddyTerraces" "trial" "LPaddyTerraces$Slope;", Cond.classLink RX3 28 RX1, Cond.instantiable RX1 5, Cond.initialized RX1, Cond.fieldLink RX3 31 "PaddyTerraces" "best" "LPaddyTerraces$Move;", Cond.methodLink RX3 9 yX0_init, Cond.instanceMethod yX0_init, Cond.code yX0_init cX0_init 1 none, Cond.methodLink RX0 3 objectInit, Cond.arrayClass .int, Cond.fieldLink RX0 9 "PaddyTerraces$Calendar" "rain" "[I", Cond.fieldLink RX0 15 "PaddyTerraces$Calendar" "spring" "[I", Cond.fieldLink RX0 18 "PaddyTerraces$Calendar" "draught" "[I"]
def wsX3_init_r2 : List Cond := [Cond.methodLink RX0 21 yJ7_fill_53178, Cond.static yJ7_fill_53178, Cond.initialized RJ7, Cond.code yJ7_fill_53178 cJ7_fill_53178 4 none, Cond.methodLink RX3 18 yX2_init, Cond.instanceMethod yX2_init, Cond.code yX2_init cX2_init 3 none, Cond.methodLink RX2 3 objectInit, Cond.fieldLink RX2 9 "PaddyTerraces$Slope" "share" "[I", Cond.fieldLink RX2 15 "PaddyTerraces$Slope" "depth" "[I", Cond.fieldLink RX2 18 "PaddyTerraces$Slope" "bank" "[I", Cond.fieldLink RX2 21 "PaddyTerraces$Slope" "seepage" "[I", Cond.fieldLink RX2 24 "PaddyTerraces$Slope" "stone" "[I", Cond.fieldLink RX2 27 "PaddyTerraces$Slope" "side" "[I", Cond.fieldLink RX2 30 "PaddyTerraces$Slope" "crop" "[I", Cond.fieldLink RX2 33 "PaddyTerraces$Slope" "age" "[I", Cond.fieldLink RX2 36 "PaddyTerraces$Slope" "hardness" "[I", Cond.fieldLink RX2 39 "PaddyTerraces$Slope" "drowned" "[I", Cond.fieldLink RX2 42 "PaddyTerraces$Slope" "dry" "[I", Cond.fieldLink RX2 45 "PaddyTerraces$Slope" "wentOut" "[I", Cond.fieldLink RX2 48 "PaddyTerraces$Slope" "spilled" "[I", Cond.methodLink RX2 51 yX2_startAnew, Cond.instanceMethod yX2_startAnew, Cond.selects RX2 yX2_startAnew yX2_startAnew]
def wsX3_init_r3 : List Cond := [Cond.code yX2_startAnew cX2_startAnew 4 none, Cond.fieldLink RX2 55 "PaddyTerraces$Slope" "h" "I", Cond.fieldLink RX2 59 "PaddyTerraces$Slope" "w" "I", Cond.fieldLink RX2 62 "PaddyTerraces$Slope" "day" "I", Cond.fieldLink RX2 65 "PaddyTerraces$Slope" "brook" "I", Cond.fieldLink RX2 68 "PaddyTerraces$Slope" "died" "I", Cond.methodLink RX2 71 yJ7_fill_53178, Cond.methodLink RX2 77 yX2_clearCrop, Cond.instanceMethod yX2_clearCrop, Cond.selects RX2 yX2_clearCrop yX2_clearCrop, Cond.code yX2_clearCrop cX2_clearCrop 2 none, Cond.instanceMethod yX1_init, Cond.code yX1_init cX1_init 1 none, Cond.methodLink RX1 3 objectInit]
def wsX3_init : List Cond := .code yX3_init cX3_init 1 none :: ((wsX3_init_r1 ++ (wsX3_init_r2 ++ wsX3_init_r3)) ++ wsX00 ++ wsX30 ++ wsX20 ++ wsX10)
def wsX3_lay_r1 : List Cond := [Cond.classLink RX3 39 "java/lang/IllegalArgumentException", Cond.initialized "java/lang/IllegalArgumentException", Cond.fieldLink RX3 21 "PaddyTerraces" "slope" "LPaddyTerraces$Slope;", Cond.fieldLink RX3 49 "PaddyTerraces" "reaped" "I", Cond.fieldLink RX3 53 "PaddyTerraces" "moved" "I", Cond.methodLink RX3 35 yX3_isWithin, Cond.static yX3_isWithin, Cond.initialized RX3, Cond.code yX3_isWithin cX3_isWithin 3 (some .boolean), Cond.methodLink RX3 46 yX2_startAnew, Cond.instanceMethod yX2_startAnew, Cond.selects RX2 yX2_startAnew yX2_startAnew, Cond.initialized RX2, Cond.code yX2_startAnew cX2_startAnew 4 none, Cond.fieldLink RX2 55 "PaddyTerraces$Slope" "h" "I", Cond.fieldLink RX2 59 "PaddyTerraces$Slope" "w" "I", Cond.fieldLink RX2 62 "PaddyTerraces$Slope" "day" "I", Cond.fieldLink RX2 65 "PaddyTerraces$Slope" "brook" "I", Cond.fieldLink RX2 68 "PaddyTerraces$Slope" "died" "I", Cond.fieldLink RX2 9 "PaddyTerraces$Slope" "share" "[I", Cond.fieldLink RX2 15 "PaddyTerraces$Slope" "depth" "[I", Cond.fieldLink RX2 18 "PaddyTerraces$Slope" "bank" "[I", Cond.fieldLink RX2 21 "PaddyTerraces$Slope" "seepage" "[I", Cond.fieldLink RX2 24 "PaddyTerraces$Slope" "stone" "[I"]
def wsX3_lay_r2 : List Cond := [Cond.fieldLink RX2 27 "PaddyTerraces$Slope" "side" "[I", Cond.fieldLink RX2 45 "PaddyTerraces$Slope" "wentOut" "[I", Cond.fieldLink RX2 48 "PaddyTerraces$Slope" "spilled" "[I", Cond.methodLink RX2 71 yJ7_fill_53178, Cond.static yJ7_fill_53178, Cond.initialized RJ7, Cond.code yJ7_fill_53178 cJ7_fill_53178 4 none, Cond.methodLink RX2 77 yX2_clearCrop, Cond.instanceMethod yX2_clearCrop, Cond.selects RX2 yX2_clearCrop yX2_clearCrop, Cond.code yX2_clearCrop cX2_clearCrop 2 none, Cond.fieldLink RX2 30 "PaddyTerraces$Slope" "crop" "[I", Cond.fieldLink RX2 33 "PaddyTerraces$Slope" "age" "[I", Cond.fieldLink RX2 36 "PaddyTerraces$Slope" "hardness" "[I", Cond.fieldLink RX2 39 "PaddyTerraces$Slope" "drowned" "[I", Cond.fieldLink RX2 42 "PaddyTerraces$Slope" "dry" "[I", Cond.methodLink RX3 56 yX2_cells, Cond.instanceMethod yX2_cells, Cond.selects RX2 yX2_cells yX2_cells, Cond.code yX2_cells cX2_cells 1 (some .int)]
def wsX3_lay : List Cond := .code yX3_lay cX3_lay 3 (some .int) :: ((wsX3_lay_r1 ++ wsX3_lay_r2) ++ wsX30 ++ wsX20 ++ (vx_atS RX3 43 "java/lang/IllegalArgumentException" ["java/lang/RuntimeException", "java/lang/Exception"]).filter goodWord)
def wsX3_setField_r1 : List Cond := [Cond.classLink RX3 64 "java/lang/IndexOutOfBoundsException", Cond.initialized "java/lang/IndexOutOfBoundsException", Cond.classLink RX3 39 "java/lang/IllegalArgumentException", Cond.initialized "java/lang/IllegalArgumentException", Cond.fieldLink RX3 21 "PaddyTerraces" "slope" "LPaddyTerraces$Slope;", Cond.fieldLink RX3 75 "PaddyTerraces$Slope" "bank" "[I", Cond.fieldLink RX3 79 "PaddyTerraces$Slope" "seepage" "[I", Cond.fieldLink RX3 82 "PaddyTerraces$Slope" "stone" "[I", Cond.methodLink RX3 85 Lib.Math.min.name, Cond.static Lib.Math.min.name, Cond.initialized "java/lang/Math", Cond.code Lib.Math.min.name Lib.Math.min.code 2 (some .int), Cond.methodLink RX3 60 yX2_hasField, Cond.instanceMethod yX2_hasField, Cond.selects RX2 yX2_hasField yX2_hasField, Cond.initialized RX2, Cond.code yX2_hasField cX2_hasField 3 (some .boolean), Cond.fieldLink RX2 55 "PaddyTerraces$Slope" "h" "I", Cond.fieldLink RX2 59 "PaddyTerraces$Slope" "w" "I", Cond.methodLink RX3 35 yX3_isWithin, Cond.static yX3_isWithin, Cond.initialized RX3, Cond.code yX3_isWithin cX3_isWithin 3 (some .boolean), Cond.methodLink RX3 71 yX2_cellOf]
def wsX3_setField_r2 : List Cond := [Cond.instanceMethod yX2_cellOf, Cond.selects RX2 yX2_cellOf yX2_cellOf, Cond.code yX2_cellOf cX2_cellOf 3 (some .int)]
def wsX3_setField : List Cond := .code yX3_setField cX3_setField 7 (some .int) :: ((wsX3_setField_r1 ++ wsX3_setField_r2) ++ wsX30 ++ wsX20 ++ (vx_atS RX3 68 "java/lang/IndexOutOfBoundsException" ["java/lang/RuntimeException", "java/lang/Exception"]).filter goodWord ++ (vx_atS RX3 43 "java/lang/IllegalArgumentException" ["java/lang/RuntimeException", "java/lang/Exception"]).filter goodWord)
def wsX3_moveStone_r1 : List Cond := [Cond.classLink RX3 64 "java/lang/IndexOutOfBoundsException", Cond.initialized "java/lang/IndexOutOfBoundsException", Cond.classLink RX3 39 "java/lang/IllegalArgumentException", Cond.initialized "java/lang/IllegalArgumentException", Cond.fieldLink RX3 21 "PaddyTerraces" "slope" "LPaddyTerraces$Slope;", Cond.fieldLink RX3 75 "PaddyTerraces$Slope" "bank" "[I", Cond.fieldLink RX3 82 "PaddyTerraces$Slope" "stone" "[I", Cond.fieldLink RX3 53 "PaddyTerraces" "moved" "I", Cond.methodLink RX3 92 Lib.Math.abs.name, Cond.static Lib.Math.abs.name, Cond.initialized "java/lang/Math", Cond.code Lib.Math.abs.name Lib.Math.abs.code 1 (some .int), Cond.methodLink RX3 60 yX2_hasField, Cond.instanceMethod yX2_hasField, Cond.selects RX2 yX2_hasField yX2_hasField, Cond.initialized RX2, Cond.code yX2_hasField cX2_hasField 3 (some .boolean), Cond.fieldLink RX2 55 "PaddyTerraces$Slope" "h" "I", Cond.fieldLink RX2 59 "PaddyTerraces$Slope" "w" "I", Cond.methodLink RX3 71 yX2_cellOf, Cond.instanceMethod yX2_cellOf, Cond.selects RX2 yX2_cellOf yX2_cellOf, Cond.code yX2_cellOf cX2_cellOf 3 (some .int), Cond.methodLink RX3 35 yX3_isWithin]
def wsX3_moveStone_r2 : List Cond := [Cond.static yX3_isWithin, Cond.initialized RX3, Cond.code yX3_isWithin cX3_isWithin 3 (some .boolean)]
def wsX3_moveStone : List Cond := .code yX3_moveStone cX3_moveStone 6 (some .int) :: ((wsX3_moveStone_r1 ++ wsX3_moveStone_r2) ++ wsX30 ++ wsX20 ++ (vx_atS RX3 68 "java/lang/IndexOutOfBoundsException" ["java/lang/RuntimeException", "java/lang/Exception"]).filter goodWord ++ (vx_atS RX3 43 "java/lang/IllegalArgumentException" ["java/lang/RuntimeException", "java/lang/Exception"]).filter goodWord)
def wsX3_turn : List Cond := .code yX3_turn cX3_turn 6 (some .int) :: ([.classLink RX3 64 "java/lang/IndexOutOfBoundsException", .initialized "java/lang/IndexOutOfBoundsException", .classLink RX3 39 "java/lang/IllegalArgumentException", .initialized "java/lang/IllegalArgumentException", .fieldLink RX3 21 "PaddyTerraces" "slope" "LPaddyTerraces$Slope;", .fieldLink RX3 98 "PaddyTerraces$Slope" "side" "[I", .methodLink RX3 60 yX2_hasField, .instanceMethod yX2_hasField, .selects RX2 yX2_hasField yX2_hasField, .initialized RX2, .code yX2_hasField cX2_hasField 3 (some .boolean), .fieldLink RX2 55 "PaddyTerraces$Slope" "h" "I", .fieldLink RX2 59 "PaddyTerraces$Slope" "w" "I", .methodLink RX3 35 yX3_isWithin, .static yX3_isWithin, .initialized RX3, .code yX3_isWithin cX3_isWithin 3 (some .boolean), .methodLink RX3 71 yX2_cellOf, .instanceMethod yX2_cellOf, .selects RX2 yX2_cellOf yX2_cellOf, .code yX2_cellOf cX2_cellOf 3 (some .int)] ++ wsX30 ++ wsX20 ++ (vx_atS RX3 68 "java/lang/IndexOutOfBoundsException" ["java/lang/RuntimeException", "java/lang/Exception"]).filter goodWord ++ (vx_atS RX3 43 "java/lang/IllegalArgumentException" ["java/lang/RuntimeException", "java/lang/Exception"]).filter goodWord)
def wsX3_setShare : List Cond := .code yX3_setShare cX3_setShare 4 (some .int) :: ([.classLink RX3 64 "java/lang/IndexOutOfBoundsException", .initialized "java/lang/IndexOutOfBoundsException", .classLink RX3 39 "java/lang/IllegalArgumentException", .initialized "java/lang/IllegalArgumentException", .fieldLink RX3 21 "PaddyTerraces" "slope" "LPaddyTerraces$Slope;", .fieldLink RX3 105 "PaddyTerraces$Slope" "share" "[I", .methodLink RX3 60 yX2_hasField, .instanceMethod yX2_hasField, .selects RX2 yX2_hasField yX2_hasField, .initialized RX2, .code yX2_hasField cX2_hasField 3 (some .boolean), .fieldLink RX2 55 "PaddyTerraces$Slope" "h" "I", .fieldLink RX2 59 "PaddyTerraces$Slope" "w" "I", .methodLink RX3 35 yX3_isWithin, .static yX3_isWithin, .initialized RX3, .code yX3_isWithin cX3_isWithin 3 (some .boolean)] ++ wsX30 ++ wsX20 ++ (vx_atS RX3 68 "java/lang/IndexOutOfBoundsException" ["java/lang/RuntimeException", "java/lang/Exception"]).filter goodWord ++ (vx_atS RX3 43 "java/lang/IllegalArgumentException" ["java/lang/RuntimeException", "java/lang/Exception"]).filter goodWord)
def wsX3_setDay : List Cond := .code yX3_setDay cX3_setDay 6 (some .int) :: ([.classLink RX3 64 "java/lang/IndexOutOfBoundsException", .initialized "java/lang/IndexOutOfBoundsException", .classLink RX3 39 "java/lang/IllegalArgumentException", .initialized "java/lang/IllegalArgumentException", .fieldLink RX3 10 "PaddyTerraces" "calendar" "LPaddyTerraces$Calendar;", .fieldLink RX3 112 "PaddyTerraces$Calendar" "spring" "[I", .fieldLink RX3 115 "PaddyTerraces$Calendar" "rain" "[I", .fieldLink RX3 118 "PaddyTerraces$Calendar" "draught" "[I", .methodLink RX3 35 yX3_isWithin, .static yX3_isWithin, .initialized RX3, .code yX3_isWithin cX3_isWithin 3 (some .boolean)] ++ wsX30 ++ wsX00 ++ (vx_atS RX3 68 "java/lang/IndexOutOfBoundsException" ["java/lang/RuntimeException", "java/lang/Exception"]).filter goodWord ++ (vx_atS RX3 43 "java/lang/IllegalArgumentException" ["java/lang/RuntimeException", "java/lang/Exception"]).filter goodWord)
def wsX3_plant_r1 : List Cond := [Cond.classLink RX3 64 "java/lang/IndexOutOfBoundsException", Cond.initialized "java/lang/IndexOutOfBoundsException", Cond.classLink RX3 39 "java/lang/IllegalArgumentException", Cond.initialized "java/lang/IllegalArgumentException", Cond.classLink RX3 129 "java/lang/IllegalStateException", Cond.initialized "java/lang/IllegalStateException", Cond.fieldLink RX3 21 "PaddyTerraces" "slope" "LPaddyTerraces$Slope;", Cond.fieldLink RX3 123 "PaddyTerraces$Slope" "crop" "[I", Cond.fieldLink RX3 126 "PaddyTerraces$Slope" "depth" "[I", Cond.fieldLink RX3 134 "PaddyTerraces$Slope" "age" "[I", Cond.methodLink RX3 60 yX2_hasField, Cond.instanceMethod yX2_hasField, Cond.selects RX2 yX2_hasField yX2_hasField, Cond.initialized RX2, Cond.code yX2_hasField cX2_hasField 3 (some .boolean), Cond.fieldLink RX2 55 "PaddyTerraces$Slope" "h" "I", Cond.fieldLink RX2 59 "PaddyTerraces$Slope" "w" "I", Cond.methodLink RX3 35 yX3_isWithin, Cond.static yX3_isWithin, Cond.initialized RX3, Cond.code yX3_isWithin cX3_isWithin 3 (some .boolean), Cond.methodLink RX3 71 yX2_cellOf, Cond.instanceMethod yX2_cellOf, Cond.selects RX2 yX2_cellOf yX2_cellOf]
def wsX3_plant_r2 : List Cond := [Cond.code yX2_cellOf cX2_cellOf 3 (some .int), Cond.methodLink RX3 137 yX2_crops, Cond.instanceMethod yX2_crops, Cond.selects RX2 yX2_crops yX2_crops, Cond.code yX2_crops cX2_crops 1 (some .int), Cond.fieldLink RX2 30 "PaddyTerraces$Slope" "crop" "[I", Cond.methodLink RX2 91 yX2_sumOf, Cond.instanceMethod yX2_sumOf, Cond.selects RX2 yX2_sumOf yX2_sumOf, Cond.code yX2_sumOf cX2_sumOf 4 (some .int), Cond.methodLink RX2 95 yX2_cells, Cond.instanceMethod yX2_cells, Cond.selects RX2 yX2_cells yX2_cells, Cond.code yX2_cells cX2_cells 1 (some .int)]
def wsX3_plant : List Cond := .code yX3_plant cX3_plant 5 (some .int) :: ((wsX3_plant_r1 ++ wsX3_plant_r2) ++ wsX30 ++ wsX20 ++ (vx_atS RX3 68 "java/lang/IndexOutOfBoundsException" ["java/lang/RuntimeException", "java/lang/Exception"]).filter goodWord ++ (vx_atS RX3 43 "java/lang/IllegalArgumentException" ["java/lang/RuntimeException", "java/lang/Exception"]).filter goodWord ++ (vx_atS RX3 133 "java/lang/IllegalStateException" ["java/lang/RuntimeException", "java/lang/Exception"]).filter goodWord)
def wsX3_reap_r1 : List Cond := [Cond.classLink RX3 64 "java/lang/IndexOutOfBoundsException", Cond.initialized "java/lang/IndexOutOfBoundsException", Cond.classLink RX3 129 "java/lang/IllegalStateException", Cond.initialized "java/lang/IllegalStateException", Cond.fieldLink RX3 21 "PaddyTerraces" "slope" "LPaddyTerraces$Slope;", Cond.fieldLink RX3 123 "PaddyTerraces$Slope" "crop" "[I", Cond.fieldLink RX3 134 "PaddyTerraces$Slope" "age" "[I", Cond.fieldLink RX3 142 "PaddyTerraces$Slope" "hardness" "[I", Cond.fieldLink RX3 126 "PaddyTerraces$Slope" "depth" "[I", Cond.fieldLink RX3 49 "PaddyTerraces" "reaped" "I", Cond.methodLink RX3 60 yX2_hasField, Cond.instanceMethod yX2_hasField, Cond.selects RX2 yX2_hasField yX2_hasField, Cond.initialized RX2, Cond.code yX2_hasField cX2_hasField 3 (some .boolean), Cond.fieldLink RX2 55 "PaddyTerraces$Slope" "h" "I", Cond.fieldLink RX2 59 "PaddyTerraces$Slope" "w" "I", Cond.methodLink RX3 71 yX2_cellOf, Cond.instanceMethod yX2_cellOf, Cond.selects RX2 yX2_cellOf yX2_cellOf, Cond.code yX2_cellOf cX2_cellOf 3 (some .int), Cond.methodLink RX3 145 yX2_clearCrop, Cond.instanceMethod yX2_clearCrop, Cond.selects RX2 yX2_clearCrop yX2_clearCrop]
def wsX3_reap_r2 : List Cond := [Cond.code yX2_clearCrop cX2_clearCrop 2 none, Cond.fieldLink RX2 30 "PaddyTerraces$Slope" "crop" "[I", Cond.fieldLink RX2 33 "PaddyTerraces$Slope" "age" "[I", Cond.fieldLink RX2 36 "PaddyTerraces$Slope" "hardness" "[I", Cond.fieldLink RX2 39 "PaddyTerraces$Slope" "drowned" "[I", Cond.fieldLink RX2 42 "PaddyTerraces$Slope" "dry" "[I"]
def wsX3_reap : List Cond := .code yX3_reap cX3_reap 5 (some .int) :: ((wsX3_reap_r1 ++ wsX3_reap_r2) ++ wsX30 ++ wsX20 ++ (vx_atS RX3 68 "java/lang/IndexOutOfBoundsException" ["java/lang/RuntimeException", "java/lang/Exception"]).filter goodWord ++ (vx_atS RX3 133 "java/lang/IllegalStateException" ["java/lang/RuntimeException", "java/lang/Exception"]).filter goodWord)
def wsX3_pass_r1 : List Cond := [Cond.classLink RX3 39 "java/lang/IllegalArgumentException", Cond.initialized "java/lang/IllegalArgumentException", Cond.classLink RX3 129 "java/lang/IllegalStateException", Cond.initialized "java/lang/IllegalStateException", Cond.fieldLink RX3 21 "PaddyTerraces" "slope" "LPaddyTerraces$Slope;", Cond.fieldLink RX3 151 "PaddyTerraces$Slope" "day" "I", Cond.fieldLink RX3 10 "PaddyTerraces" "calendar" "LPaddyTerraces$Calendar;", Cond.methodLink RX3 35 yX3_isWithin, Cond.static yX3_isWithin, Cond.initialized RX3, Cond.code yX3_isWithin cX3_isWithin 3 (some .boolean), Cond.methodLink RX3 156 yX2_letDaysGoBy, Cond.instanceMethod yX2_letDaysGoBy, Cond.selects RX2 yX2_letDaysGoBy yX2_letDaysGoBy, Cond.initialized RX2, Cond.code yX2_letDaysGoBy cX2_letDaysGoBy 5 none, Cond.fieldLink RX2 62 "PaddyTerraces$Slope" "day" "I", Cond.fieldLink RX2 99 "PaddyTerraces$Calendar" "rain" "[I", Cond.fieldLink RX2 107 "PaddyTerraces$Calendar" "spring" "[I", Cond.fieldLink RX2 116 "PaddyTerraces$Calendar" "draught" "[I", Cond.methodLink RX2 104 yX2_takeRain, Cond.instanceMethod yX2_takeRain, Cond.selects RX2 yX2_takeRain yX2_takeRain, Cond.code yX2_takeRain cX2_takeRain 3 none]
def wsX3_pass_r2 : List Cond := [Cond.fieldLink RX2 15 "PaddyTerraces$Slope" "depth" "[I", Cond.methodLink RX2 95 yX2_cells, Cond.instanceMethod yX2_cells, Cond.selects RX2 yX2_cells yX2_cells, Cond.code yX2_cells cX2_cells 1 (some .int), Cond.fieldLink RX2 55 "PaddyTerraces$Slope" "h" "I", Cond.fieldLink RX2 59 "PaddyTerraces$Slope" "w" "I", Cond.methodLink RX2 110 yX2_takeSpring, Cond.instanceMethod yX2_takeSpring, Cond.selects RX2 yX2_takeSpring yX2_takeSpring, Cond.code yX2_takeSpring cX2_takeSpring 4 none, Cond.fieldLink RX2 9 "PaddyTerraces$Slope" "share" "[I", Cond.methodLink RX2 113 yX2_letWaterFlow, Cond.instanceMethod yX2_letWaterFlow, Cond.selects RX2 yX2_letWaterFlow yX2_letWaterFlow, Cond.code yX2_letWaterFlow cX2_letWaterFlow 3 none, Cond.methodLink RX2 125 yX2_letFieldFlow, Cond.instanceMethod yX2_letFieldFlow, Cond.selects RX2 yX2_letFieldFlow yX2_letFieldFlow, Cond.code yX2_letFieldFlow cX2_letFieldFlow 6 none, Cond.fieldLink RX2 24 "PaddyTerraces$Slope" "stone" "[I", Cond.methodLink RX2 132 Lib.Math.max.name, Cond.static Lib.Math.max.name, Cond.initialized "java/lang/Math"]
def wsX3_pass_r3 : List Cond := [Cond.code Lib.Math.max.name Lib.Math.max.code 2 (some .int), Cond.methodLink RX2 137 Lib.Math.min.name, Cond.static Lib.Math.min.name, Cond.code Lib.Math.min.name Lib.Math.min.code 2 (some .int), Cond.fieldLink RX2 45 "PaddyTerraces$Slope" "wentOut" "[I", Cond.fieldLink RX2 27 "PaddyTerraces$Slope" "side" "[I", Cond.fieldLink RX2 18 "PaddyTerraces$Slope" "bank" "[I", Cond.fieldLink RX2 48 "PaddyTerraces$Slope" "spilled" "[I", Cond.methodLink RX2 128 yX2_cellOf, Cond.instanceMethod yX2_cellOf, Cond.selects RX2 yX2_cellOf yX2_cellOf, Cond.code yX2_cellOf cX2_cellOf 3 (some .int), Cond.methodLink RX2 140 yX2_bringWater, Cond.instanceMethod yX2_bringWater, Cond.selects RX2 yX2_bringWater yX2_bringWater, Cond.code yX2_bringWater cX2_bringWater 4 none, Cond.fieldLink RX2 65 "PaddyTerraces$Slope" "brook" "I", Cond.methodLink RX2 144 yX2_hasField, Cond.instanceMethod yX2_hasField, Cond.selects RX2 yX2_hasField yX2_hasField, Cond.code yX2_hasField cX2_hasField 3 (some .boolean), Cond.methodLink RX2 119 yX2_loseWater, Cond.instanceMethod yX2_loseWater, Cond.selects RX2 yX2_loseWater yX2_loseWater]
def wsX3_pass_r4 : List Cond := [Cond.code yX2_loseWater cX2_loseWater 4 none, Cond.fieldLink RX2 21 "PaddyTerraces$Slope" "seepage" "[I", Cond.methodLink RX2 122 yX2_growRice, Cond.instanceMethod yX2_growRice, Cond.selects RX2 yX2_growRice yX2_growRice, Cond.code yX2_growRice cX2_growRice 2 none, Cond.fieldLink RX2 30 "PaddyTerraces$Slope" "crop" "[I", Cond.methodLink RX2 148 yX2_growCrop, Cond.instanceMethod yX2_growCrop, Cond.selects RX2 yX2_growCrop yX2_growCrop, Cond.code yX2_growCrop cX2_growCrop 4 none, Cond.fieldLink RX2 33 "PaddyTerraces$Slope" "age" "[I", Cond.fieldLink RX2 39 "PaddyTerraces$Slope" "drowned" "[I", Cond.fieldLink RX2 42 "PaddyTerraces$Slope" "dry" "[I", Cond.fieldLink RX2 68 "PaddyTerraces$Slope" "died" "I", Cond.fieldLink RX2 36 "PaddyTerraces$Slope" "hardness" "[I", Cond.methodLink RX2 77 yX2_clearCrop, Cond.instanceMethod yX2_clearCrop, Cond.selects RX2 yX2_clearCrop yX2_clearCrop, Cond.code yX2_clearCrop cX2_clearCrop 2 none, Cond.methodLink RX2 151 yX2_hardening, Cond.instanceMethod yX2_hardening, Cond.selects RX2 yX2_hardening yX2_hardening, Cond.code yX2_hardening cX2_hardening 2 (some .int)]
def wsX3_pass_r5 : List Cond := [Cond.methodLink RX3 137 yX2_crops, Cond.instanceMethod yX2_crops, Cond.selects RX2 yX2_crops yX2_crops, Cond.code yX2_crops cX2_crops 1 (some .int), Cond.methodLink RX2 91 yX2_sumOf, Cond.instanceMethod yX2_sumOf, Cond.selects RX2 yX2_sumOf yX2_sumOf, Cond.code yX2_sumOf cX2_sumOf 4 (some .int)]
def wsX3_pass : List Cond := .code yX3_pass cX3_pass 2 (some .int) :: ((wsX3_pass_r1 ++ (wsX3_pass_r2 ++ (wsX3_pass_r3 ++ (wsX3_pass_r4 ++ wsX3_pass_r5)))) ++ wsX30 ++ wsX20 ++ wsX00 ++ (vx_atS RX3 43 "java/lang/IllegalArgumentException" ["java/lang/RuntimeException", "java/lang/Exception"]).filter goodWord ++ (vx_atS RX3 133 "java/lang/IllegalStateException" ["java/lang/RuntimeException", "java/lang/Exception"]).filter goodWord)
def wsX3_field_r1 : List Cond := [Cond.classLink RX3 64 "java/lang/IndexOutOfBoundsException", Cond.initialized "java/lang/IndexOutOfBoundsException", Cond.fieldLink RX3 21 "PaddyTerraces" "slope" "LPaddyTerraces$Slope;", Cond.methodLink RX3 60 yX2_hasField, Cond.instanceMethod yX2_hasField, Cond.selects RX2 yX2_hasField yX2_hasField, Cond.initialized RX2, Cond.code yX2_hasField cX2_hasField 3 (some .boolean), Cond.fieldLink RX2 55 "PaddyTerraces$Slope" "h" "I", Cond.fieldLink RX2 59 "PaddyTerraces$Slope" "w" "I", Cond.methodLink RX3 35 yX3_isWithin, Cond.static yX3_isWithin, Cond.initialized RX3, Cond.code yX3_isWithin cX3_isWithin 3 (some .boolean), Cond.methodLink RX3 71 yX2_cellOf, Cond.instanceMethod yX2_cellOf, Cond.selects RX2 yX2_cellOf yX2_cellOf, Cond.code yX2_cellOf cX2_cellOf 3 (some .int), Cond.methodLink RX3 162 yX2_fieldNumber, Cond.instanceMethod yX2_fieldNumber, Cond.selects RX2 yX2_fieldNumber yX2_fieldNumber, Cond.code yX2_fieldNumber cX2_fieldNumber 3 (some .int), Cond.fieldLink RX2 15 "PaddyTerraces$Slope" "depth" "[I", Cond.fieldLink RX2 18 "PaddyTerraces$Slope" "bank" "[I"]
def wsX3_field_r2 : List Cond := [Cond.fieldLink RX2 21 "PaddyTerraces$Slope" "seepage" "[I", Cond.fieldLink RX2 24 "PaddyTerraces$Slope" "stone" "[I", Cond.fieldLink RX2 27 "PaddyTerraces$Slope" "side" "[I", Cond.fieldLink RX2 30 "PaddyTerraces$Slope" "crop" "[I", Cond.fieldLink RX2 33 "PaddyTerraces$Slope" "age" "[I", Cond.fieldLink RX2 36 "PaddyTerraces$Slope" "hardness" "[I", Cond.fieldLink RX2 39 "PaddyTerraces$Slope" "drowned" "[I", Cond.fieldLink RX2 42 "PaddyTerraces$Slope" "dry" "[I", Cond.fieldLink RX2 45 "PaddyTerraces$Slope" "wentOut" "[I", Cond.fieldLink RX2 48 "PaddyTerraces$Slope" "spilled" "[I"]
def wsX3_field : List Cond := .code yX3_field cX3_field 4 (some .int) :: ((wsX3_field_r1 ++ wsX3_field_r2) ++ wsX30 ++ wsX20 ++ (vx_atS RX3 68 "java/lang/IndexOutOfBoundsException" ["java/lang/RuntimeException", "java/lang/Exception"]).filter goodWord)
def wsX3_countNumber_r1 : List Cond := [Cond.fieldLink RX3 21 "PaddyTerraces" "slope" "LPaddyTerraces$Slope;", Cond.fieldLink RX3 206 "PaddyTerraces$Slope" "h" "I", Cond.fieldLink RX3 203 "PaddyTerraces$Slope" "w" "I", Cond.fieldLink RX3 151 "PaddyTerraces$Slope" "day" "I", Cond.fieldLink RX3 209 "PaddyTerraces$Slope" "brook" "I", Cond.fieldLink RX3 49 "PaddyTerraces" "reaped" "I", Cond.fieldLink RX3 212 "PaddyTerraces$Slope" "died" "I", Cond.fieldLink RX3 53 "PaddyTerraces" "moved" "I", Cond.methodLink RX3 137 yX2_crops, Cond.instanceMethod yX2_crops, Cond.selects RX2 yX2_crops yX2_crops, Cond.initialized RX2, Cond.code yX2_crops cX2_crops 1 (some .int), Cond.fieldLink RX2 30 "PaddyTerraces$Slope" "crop" "[I", Cond.methodLink RX2 91 yX2_sumOf, Cond.instanceMethod yX2_sumOf, Cond.selects RX2 yX2_sumOf yX2_sumOf, Cond.code yX2_sumOf cX2_sumOf 4 (some .int), Cond.methodLink RX2 95 yX2_cells, Cond.instanceMethod yX2_cells, Cond.selects RX2 yX2_cells yX2_cells, Cond.code yX2_cells cX2_cells 1 (some .int), Cond.fieldLink RX2 55 "PaddyTerraces$Slope" "h" "I", Cond.fieldLink RX2 59 "PaddyTerraces$Slope" "w" "I"]
def wsX3_countNumber_r2 : List Cond := [Cond.methodLink RX3 196 yX2_allDepths, Cond.instanceMethod yX2_allDepths, Cond.selects RX2 yX2_allDepths yX2_allDepths, Cond.code yX2_allDepths cX2_allDepths 1 (some .int), Cond.fieldLink RX2 15 "PaddyTerraces$Slope" "depth" "[I"]
def wsX3_countNumber : List Cond := .code yX3_countNumber cX3_countNumber 2 (some .int) :: ((wsX3_countNumber_r1 ++ wsX3_countNumber_r2) ++ wsX30 ++ wsX20)
def wsX3_count_r1 : List Cond := [Cond.classLink RX3 64 "java/lang/IndexOutOfBoundsException", Cond.initialized "java/lang/IndexOutOfBoundsException", Cond.methodLink RX3 35 yX3_isWithin, Cond.static yX3_isWithin, Cond.initialized RX3, Cond.code yX3_isWithin cX3_isWithin 3 (some .boolean), Cond.methodLink RX3 167 yX3_countNumber, Cond.instanceMethod yX3_countNumber, Cond.selects RX3 yX3_countNumber yX3_countNumber, Cond.code yX3_countNumber cX3_countNumber 2 (some .int), Cond.fieldLink RX3 21 "PaddyTerraces" "slope" "LPaddyTerraces$Slope;", Cond.fieldLink RX3 206 "PaddyTerraces$Slope" "h" "I", Cond.fieldLink RX3 203 "PaddyTerraces$Slope" "w" "I", Cond.fieldLink RX3 151 "PaddyTerraces$Slope" "day" "I", Cond.fieldLink RX3 209 "PaddyTerraces$Slope" "brook" "I", Cond.fieldLink RX3 49 "PaddyTerraces" "reaped" "I", Cond.fieldLink RX3 212 "PaddyTerraces$Slope" "died" "I", Cond.fieldLink RX3 53 "PaddyTerraces" "moved" "I", Cond.methodLink RX3 137 yX2_crops, Cond.instanceMethod yX2_crops, Cond.selects RX2 yX2_crops yX2_crops, Cond.initialized RX2, Cond.code yX2_crops cX2_crops 1 (some .int), Cond.fieldLink RX2 30 "PaddyTerraces$Slope" "crop" "[I"]
def wsX3_count_r2 : List Cond := [Cond.methodLink RX2 91 yX2_sumOf, Cond.instanceMethod yX2_sumOf, Cond.selects RX2 yX2_sumOf yX2_sumOf, Cond.code yX2_sumOf cX2_sumOf 4 (some .int), Cond.methodLink RX2 95 yX2_cells, Cond.instanceMethod yX2_cells, Cond.selects RX2 yX2_cells yX2_cells, Cond.code yX2_cells cX2_cells 1 (some .int), Cond.fieldLink RX2 55 "PaddyTerraces$Slope" "h" "I", Cond.fieldLink RX2 59 "PaddyTerraces$Slope" "w" "I", Cond.methodLink RX3 196 yX2_allDepths, Cond.instanceMethod yX2_allDepths, Cond.selects RX2 yX2_allDepths yX2_allDepths, Cond.code yX2_allDepths cX2_allDepths 1 (some .int), Cond.fieldLink RX2 15 "PaddyTerraces$Slope" "depth" "[I"]
def wsX3_count : List Cond := .code yX3_count cX3_count 2 (some .int) :: ((wsX3_count_r1 ++ wsX3_count_r2) ++ wsX30 ++ wsX20 ++ (vx_atS RX3 68 "java/lang/IndexOutOfBoundsException" ["java/lang/RuntimeException", "java/lang/Exception"]).filter goodWord)
def wsX3_foreseenNumber_r1 : List Cond := [Cond.fieldLink RX3 25 "PaddyTerraces" "trial" "LPaddyTerraces$Slope;", Cond.fieldLink RX3 209 "PaddyTerraces$Slope" "brook" "I", Cond.fieldLink RX3 21 "PaddyTerraces" "slope" "LPaddyTerraces$Slope;", Cond.methodLink RX3 137 yX2_crops, Cond.instanceMethod yX2_crops, Cond.selects RX2 yX2_crops yX2_crops, Cond.initialized RX2, Cond.code yX2_crops cX2_crops 1 (some .int), Cond.fieldLink RX2 30 "PaddyTerraces$Slope" "crop" "[I", Cond.methodLink RX2 91 yX2_sumOf, Cond.instanceMethod yX2_sumOf, Cond.selects RX2 yX2_sumOf yX2_sumOf, Cond.code yX2_sumOf cX2_sumOf 4 (some .int), Cond.methodLink RX2 95 yX2_cells, Cond.instanceMethod yX2_cells, Cond.selects RX2 yX2_cells yX2_cells, Cond.code yX2_cells cX2_cells 1 (some .int), Cond.fieldLink RX2 55 "PaddyTerraces$Slope" "h" "I", Cond.fieldLink RX2 59 "PaddyTerraces$Slope" "w" "I", Cond.methodLink RX3 215 yX2_allHardness, Cond.instanceMethod yX2_allHardness, Cond.selects RX2 yX2_allHardness yX2_allHardness, Cond.code yX2_allHardness cX2_allHardness 1 (some .int), Cond.fieldLink RX2 36 "PaddyTerraces$Slope" "hardness" "[I"]
def wsX3_foreseenNumber_r2 : List Cond := [Cond.methodLink RX3 196 yX2_allDepths, Cond.instanceMethod yX2_allDepths, Cond.selects RX2 yX2_allDepths yX2_allDepths, Cond.code yX2_allDepths cX2_allDepths 1 (some .int), Cond.fieldLink RX2 15 "PaddyTerraces$Slope" "depth" "[I"]
def wsX3_foreseenNumber : List Cond := .code yX3_foreseenNumber cX3_foreseenNumber 2 (some .int) :: ((wsX3_foreseenNumber_r1 ++ wsX3_foreseenNumber_r2) ++ wsX30 ++ wsX20)
def wsX3_foresee_r1 : List Cond := [Cond.classLink RX3 39 "java/lang/IllegalArgumentException", Cond.initialized "java/lang/IllegalArgumentException", Cond.classLink RX3 64 "java/lang/IndexOutOfBoundsException", Cond.initialized "java/lang/IndexOutOfBoundsException", Cond.classLink RX3 129 "java/lang/IllegalStateException", Cond.initialized "java/lang/IllegalStateException", Cond.fieldLink RX3 21 "PaddyTerraces" "slope" "LPaddyTerraces$Slope;", Cond.fieldLink RX3 151 "PaddyTerraces$Slope" "day" "I", Cond.fieldLink RX3 25 "PaddyTerraces" "trial" "LPaddyTerraces$Slope;", Cond.fieldLink RX3 10 "PaddyTerraces" "calendar" "LPaddyTerraces$Calendar;", Cond.methodLink RX3 35 yX3_isWithin, Cond.static yX3_isWithin, Cond.initialized RX3, Cond.code yX3_isWithin cX3_isWithin 3 (some .boolean), Cond.methodLink RX3 179 yX2_copyFrom, Cond.instanceMethod yX2_copyFrom, Cond.selects RX2 yX2_copyFrom yX2_copyFrom, Cond.initialized RX2, Cond.code yX2_copyFrom cX2_copyFrom 2 none, Cond.fieldLink RX2 55 "PaddyTerraces$Slope" "h" "I", Cond.fieldLink RX2 59 "PaddyTerraces$Slope" "w" "I", Cond.fieldLink RX2 62 "PaddyTerraces$Slope" "day" "I", Cond.fieldLink RX2 65 "PaddyTerraces$Slope" "brook" "I", Cond.fieldLink RX2 68 "PaddyTerraces$Slope" "died" "I"]
def wsX3_foresee_r2 : List Cond := [Cond.fieldLink RX2 9 "PaddyTerraces$Slope" "share" "[I", Cond.methodLink RX2 81 arraycopyName, Cond.native arraycopyName, Cond.static arraycopyName, Cond.initialized "java/lang/System", Cond.fieldLink RX2 15 "PaddyTerraces$Slope" "depth" "[I", Cond.fieldLink RX2 18 "PaddyTerraces$Slope" "bank" "[I", Cond.fieldLink RX2 21 "PaddyTerraces$Slope" "seepage" "[I", Cond.fieldLink RX2 24 "PaddyTerraces$Slope" "stone" "[I", Cond.fieldLink RX2 27 "PaddyTerraces$Slope" "side" "[I", Cond.fieldLink RX2 30 "PaddyTerraces$Slope" "crop" "[I", Cond.fieldLink RX2 33 "PaddyTerraces$Slope" "age" "[I", Cond.fieldLink RX2 36 "PaddyTerraces$Slope" "hardness" "[I", Cond.fieldLink RX2 39 "PaddyTerraces$Slope" "drowned" "[I", Cond.fieldLink RX2 42 "PaddyTerraces$Slope" "dry" "[I", Cond.fieldLink RX2 45 "PaddyTerraces$Slope" "wentOut" "[I", Cond.fieldLink RX2 48 "PaddyTerraces$Slope" "spilled" "[I", Cond.methodLink RX2 87 yX2_copyRow, Cond.static yX2_copyRow, Cond.code yX2_copyRow cX2_copyRow 2 none, Cond.methodLink RX3 156 yX2_letDaysGoBy, Cond.instanceMethod yX2_letDaysGoBy, Cond.selects RX2 yX2_letDaysGoBy yX2_letDaysGoBy, Cond.code yX2_letDaysGoBy cX2_letDaysGoBy 5 none]
def wsX3_foresee_r3 : List Cond := [Cond.fieldLink RX2 99 "PaddyTerraces$Calendar" "rain" "[I", Cond.fieldLink RX2 107 "PaddyTerraces$Calendar" "spring" "[I", Cond.fieldLink RX2 116 "PaddyTerraces$Calendar" "draught" "[I", Cond.methodLink RX2 104 yX2_takeRain, Cond.instanceMethod yX2_takeRain, Cond.selects RX2 yX2_takeRain yX2_takeRain, Cond.code yX2_takeRain cX2_takeRain 3 none, Cond.methodLink RX2 95 yX2_cells, Cond.instanceMethod yX2_cells, Cond.selects RX2 yX2_cells yX2_cells, Cond.code yX2_cells cX2_cells 1 (some .int), Cond.methodLink RX2 110 yX2_takeSpring, Cond.instanceMethod yX2_takeSpring, Cond.selects RX2 yX2_takeSpring yX2_takeSpring, Cond.code yX2_takeSpring cX2_takeSpring 4 none, Cond.methodLink RX2 113 yX2_letWaterFlow, Cond.instanceMethod yX2_letWaterFlow, Cond.selects RX2 yX2_letWaterFlow yX2_letWaterFlow, Cond.code yX2_letWaterFlow cX2_letWaterFlow 3 none, Cond.methodLink RX2 125 yX2_letFieldFlow, Cond.instanceMethod yX2_letFieldFlow, Cond.selects RX2 yX2_letFieldFlow yX2_letFieldFlow, Cond.code yX2_letFieldFlow cX2_letFieldFlow 6 none, Cond.methodLink RX2 132 Lib.Math.max.name]
def wsX3_foresee_r4 : List Cond := [Cond.static Lib.Math.max.name, Cond.initialized "java/lang/Math", Cond.code Lib.Math.max.name Lib.Math.max.code 2 (some .int), Cond.methodLink RX2 137 Lib.Math.min.name, Cond.static Lib.Math.min.name, Cond.code Lib.Math.min.name Lib.Math.min.code 2 (some .int), Cond.methodLink RX2 128 yX2_cellOf, Cond.instanceMethod yX2_cellOf, Cond.selects RX2 yX2_cellOf yX2_cellOf, Cond.code yX2_cellOf cX2_cellOf 3 (some .int), Cond.methodLink RX2 140 yX2_bringWater, Cond.instanceMethod yX2_bringWater, Cond.selects RX2 yX2_bringWater yX2_bringWater, Cond.code yX2_bringWater cX2_bringWater 4 none, Cond.methodLink RX2 144 yX2_hasField, Cond.instanceMethod yX2_hasField, Cond.selects RX2 yX2_hasField yX2_hasField, Cond.code yX2_hasField cX2_hasField 3 (some .boolean), Cond.methodLink RX2 119 yX2_loseWater, Cond.instanceMethod yX2_loseWater, Cond.selects RX2 yX2_loseWater yX2_loseWater, Cond.code yX2_loseWater cX2_loseWater 4 none, Cond.methodLink RX2 122 yX2_growRice, Cond.instanceMethod yX2_growRice]
def wsX3_foresee_r5 : List Cond := [Cond.selects RX2 yX2_growRice yX2_growRice, Cond.code yX2_growRice cX2_growRice 2 none, Cond.methodLink RX2 148 yX2_growCrop, Cond.instanceMethod yX2_growCrop, Cond.selects RX2 yX2_growCrop yX2_growCrop, Cond.code yX2_growCrop cX2_growCrop 4 none, Cond.methodLink RX2 77 yX2_clearCrop, Cond.instanceMethod yX2_clearCrop, Cond.selects RX2 yX2_clearCrop yX2_clearCrop, Cond.code yX2_clearCrop cX2_clearCrop 2 none, Cond.methodLink RX2 151 yX2_hardening, Cond.instanceMethod yX2_hardening, Cond.selects RX2 yX2_hardening yX2_hardening, Cond.code yX2_hardening cX2_hardening 2 (some .int), Cond.methodLink RX3 183 yX3_foreseenNumber, Cond.instanceMethod yX3_foreseenNumber, Cond.selects RX3 yX3_foreseenNumber yX3_foreseenNumber, Cond.code yX3_foreseenNumber cX3_foreseenNumber 2 (some .int), Cond.fieldLink RX3 209 "PaddyTerraces$Slope" "brook" "I", Cond.methodLink RX3 137 yX2_crops, Cond.instanceMethod yX2_crops, Cond.selects RX2 yX2_crops yX2_crops, Cond.code yX2_crops cX2_crops 1 (some .int), Cond.methodLink RX2 91 yX2_sumOf]
def wsX3_foresee_r6 : List Cond := [Cond.instanceMethod yX2_sumOf, Cond.selects RX2 yX2_sumOf yX2_sumOf, Cond.code yX2_sumOf cX2_sumOf 4 (some .int), Cond.methodLink RX3 215 yX2_allHardness, Cond.instanceMethod yX2_allHardness, Cond.selects RX2 yX2_allHardness yX2_allHardness, Cond.code yX2_allHardness cX2_allHardness 1 (some .int), Cond.methodLink RX3 196 yX2_allDepths, Cond.instanceMethod yX2_allDepths, Cond.selects RX2 yX2_allDepths yX2_allDepths, Cond.code yX2_allDepths cX2_allDepths 1 (some .int)]
def wsX3_foresee : List Cond := .code yX3_foresee cX3_foresee 3 (some .int) :: ((wsX3_foresee_r1 ++ (wsX3_foresee_r2 ++ (wsX3_foresee_r3 ++ (wsX3_foresee_r4 ++ (wsX3_foresee_r5 ++ wsX3_foresee_r6))))) ++ wsX30 ++ wsX20 ++ wsX00 ++ (vx_atS RX3 43 "java/lang/IllegalArgumentException" ["java/lang/RuntimeException", "java/lang/Exception"]).filter goodWord ++ (vx_atS RX3 68 "java/lang/IndexOutOfBoundsException" ["java/lang/RuntimeException", "java/lang/Exception"]).filter goodWord ++ (vx_atS RX3 133 "java/lang/IllegalStateException" ["java/lang/RuntimeException", "java/lang/Exception"]).filter goodWord)
def wsX3_depth : List Cond := .code yX3_depth cX3_depth 2 (some .double) :: ([.fieldLink RX3 21 "PaddyTerraces" "slope" "LPaddyTerraces$Slope;", .methodLink RX3 56 yX2_cells, .instanceMethod yX2_cells, .selects RX2 yX2_cells yX2_cells, .initialized RX2, .code yX2_cells cX2_cells 1 (some .int), .fieldLink RX2 55 "PaddyTerraces$Slope" "h" "I", .fieldLink RX2 59 "PaddyTerraces$Slope" "w" "I", .methodLink RX3 196 yX2_allDepths, .instanceMethod yX2_allDepths, .selects RX2 yX2_allDepths yX2_allDepths, .code yX2_allDepths cX2_allDepths 1 (some .int), .fieldLink RX2 15 "PaddyTerraces$Slope" "depth" "[I", .methodLink RX2 91 yX2_sumOf, .instanceMethod yX2_sumOf, .selects RX2 yX2_sumOf yX2_sumOf, .code yX2_sumOf cX2_sumOf 4 (some .int), .methodLink RX2 95 yX2_cells] ++ wsX30 ++ wsX20)
def wsX4_init : List Cond := .code yX4_init cX4_init 5 none :: ([.methodLink RX4 1 objectInit, .instanceMethod objectInit, .code objectInit ⟨#[0xb1]⟩ 1 none, .classLink RX4 7 "[I", .fieldLink RX4 9 "PaddyTerracesLaw$Sim" "calendar" "[[I", .fieldLink RX4 15 "PaddyTerracesLaw$Sim" "h" "I", .fieldLink RX4 19 "PaddyTerracesLaw$Sim" "w" "I", .fieldLink RX4 24 "PaddyTerracesLaw$Sim" "fields" "[[[I", .arrayClass .int, .fieldLink RX4 27 "PaddyTerracesLaw$Sim" "shares" "[I"] ++ wsX40)
def wsX4_sum : List Cond := .code yX4_sum cX4_sum 11 (some .int) :: ([.fieldLink RX4 24 "PaddyTerracesLaw$Sim" "fields" "[[[I"] ++ wsX40)
def wsJ9_abs_0f7a4 : List Cond := .code yJ9_abs_0f7a4 cJ9_abs_0f7a4 1 (some .int) :: ([])
def wsJ9_max_7cf53 : List Cond := .code yJ9_max_7cf53 cJ9_max_7cf53 2 (some .int) :: ([])
def wsJ9_min_7cf53 : List Cond := .code yJ9_min_7cf53 cJ9_min_7cf53 2 (some .int) :: ([])
def wsL_below : List Cond := .code yL_below cL_below 2 (some .int) :: ([.constant RL 7 (2147483647)])
def wsL_cell : List Cond := .code yL_cell cL_cell 2 (some .int) :: ([.constant RL 8 (790386105)])
def wsL_build_r1 : List Cond := [Cond.classLink RL 9 RX4, Cond.instantiable RX4 10, Cond.initialized RX4, Cond.fieldLink RL 24 "PaddyTerracesLaw$Sim" "h" "I", Cond.fieldLink RL 28 "PaddyTerracesLaw$Sim" "w" "I", Cond.arrayClass .int, Cond.fieldLink RL 40 "PaddyTerracesLaw$Sim" "calendar" "[[I", Cond.fieldLink RL 44 "PaddyTerracesLaw$Sim" "shares" "[I", Cond.fieldLink RL 51 "PaddyTerracesLaw$Sim" "fields" "[[[I", Cond.methodLink RL 55 Lib.Math.min.name, Cond.static Lib.Math.min.name, Cond.initialized "java/lang/Math", Cond.code Lib.Math.min.name Lib.Math.min.code 2 (some .int), Cond.fieldLink RL 70 "PaddyTerracesLaw$Sim" "moved" "I", Cond.methodLink RL 73 Lib.Math.abs.name, Cond.static Lib.Math.abs.name, Cond.code Lib.Math.abs.name Lib.Math.abs.code 1 (some .int), Cond.methodLink RL 11 yL_cell, Cond.static yL_cell, Cond.initialized RL, Cond.code yL_cell cL_cell 2 (some .int), Cond.constant RL 8 (790386105), Cond.methodLink RL 17 yL_below, Cond.static yL_below]
def wsL_build_r2 : List Cond := [Cond.code yL_below cL_below 2 (some .int), Cond.constant RL 7 (2147483647), Cond.methodLink RL 21 yX4_init, Cond.instanceMethod yX4_init, Cond.code yX4_init cX4_init 5 none, Cond.methodLink RX4 1 objectInit, Cond.instanceMethod objectInit, Cond.code objectInit ⟨#[0xb1]⟩ 1 none, Cond.classLink RX4 7 "[I", Cond.fieldLink RX4 9 "PaddyTerracesLaw$Sim" "calendar" "[[I", Cond.fieldLink RX4 15 "PaddyTerracesLaw$Sim" "h" "I", Cond.fieldLink RX4 19 "PaddyTerracesLaw$Sim" "w" "I", Cond.fieldLink RX4 24 "PaddyTerracesLaw$Sim" "fields" "[[[I", Cond.fieldLink RX4 27 "PaddyTerracesLaw$Sim" "shares" "[I", Cond.methodLink RL 31 yX3_lay, Cond.instanceMethod yX3_lay, Cond.selects RX3 yX3_lay yX3_lay, Cond.initialized RX3, Cond.code yX3_lay cX3_lay 3 (some .int), Cond.classLink RX3 39 "java/lang/IllegalArgumentException", Cond.initialized "java/lang/IllegalArgumentException", Cond.fieldLink RX3 21 "PaddyTerraces" "slope" "LPaddyTerraces$Slope;", Cond.fieldLink RX3 49 "PaddyTerraces" "reaped" "I", Cond.fieldLink RX3 53 "PaddyTerraces" "moved" "I"]
def wsL_build_r3 : List Cond := [Cond.methodLink RX3 35 yX3_isWithin, Cond.static yX3_isWithin, Cond.code yX3_isWithin cX3_isWithin 3 (some .boolean), Cond.methodLink RX3 46 yX2_startAnew, Cond.instanceMethod yX2_startAnew, Cond.selects RX2 yX2_startAnew yX2_startAnew, Cond.initialized RX2, Cond.code yX2_startAnew cX2_startAnew 4 none, Cond.fieldLink RX2 55 "PaddyTerraces$Slope" "h" "I", Cond.fieldLink RX2 59 "PaddyTerraces$Slope" "w" "I", Cond.fieldLink RX2 62 "PaddyTerraces$Slope" "day" "I", Cond.fieldLink RX2 65 "PaddyTerraces$Slope" "brook" "I", Cond.fieldLink RX2 68 "PaddyTerraces$Slope" "died" "I", Cond.fieldLink RX2 9 "PaddyTerraces$Slope" "share" "[I", Cond.fieldLink RX2 15 "PaddyTerraces$Slope" "depth" "[I", Cond.fieldLink RX2 18 "PaddyTerraces$Slope" "bank" "[I", Cond.fieldLink RX2 21 "PaddyTerraces$Slope" "seepage" "[I", Cond.fieldLink RX2 24 "PaddyTerraces$Slope" "stone" "[I", Cond.fieldLink RX2 27 "PaddyTerraces$Slope" "side" "[I", Cond.fieldLink RX2 45 "PaddyTerraces$Slope" "wentOut" "[I", Cond.fieldLink RX2 48 "PaddyTerraces$Slope" "spilled" "[I", Cond.methodLink RX2 71 yJ7_fill_53178, Cond.static yJ7_fill_53178, Cond.initialized RJ7]
def wsL_build_r4 : List Cond := [Cond.code yJ7_fill_53178 cJ7_fill_53178 4 none, Cond.methodLink RX2 77 yX2_clearCrop, Cond.instanceMethod yX2_clearCrop, Cond.selects RX2 yX2_clearCrop yX2_clearCrop, Cond.code yX2_clearCrop cX2_clearCrop 2 none, Cond.fieldLink RX2 30 "PaddyTerraces$Slope" "crop" "[I", Cond.fieldLink RX2 33 "PaddyTerraces$Slope" "age" "[I", Cond.fieldLink RX2 36 "PaddyTerraces$Slope" "hardness" "[I", Cond.fieldLink RX2 39 "PaddyTerraces$Slope" "drowned" "[I", Cond.fieldLink RX2 42 "PaddyTerraces$Slope" "dry" "[I", Cond.methodLink RX3 56 yX2_cells, Cond.instanceMethod yX2_cells, Cond.selects RX2 yX2_cells yX2_cells, Cond.code yX2_cells cX2_cells 1 (some .int), Cond.methodLink RL 36 yX3_setDay, Cond.instanceMethod yX3_setDay, Cond.selects RX3 yX3_setDay yX3_setDay, Cond.code yX3_setDay cX3_setDay 6 (some .int), Cond.classLink RX3 64 "java/lang/IndexOutOfBoundsException", Cond.initialized "java/lang/IndexOutOfBoundsException", Cond.fieldLink RX3 10 "PaddyTerraces" "calendar" "LPaddyTerraces$Calendar;", Cond.fieldLink RX3 112 "PaddyTerraces$Calendar" "spring" "[I", Cond.fieldLink RX3 115 "PaddyTerraces$Calendar" "rain" "[I", Cond.fieldLink RX3 118 "PaddyTerraces$Calendar" "draught" "[I"]
def wsL_build_r5 : List Cond := [Cond.methodLink RL 48 yX3_setShare, Cond.instanceMethod yX3_setShare, Cond.selects RX3 yX3_setShare yX3_setShare, Cond.code yX3_setShare cX3_setShare 4 (some .int), Cond.fieldLink RX3 105 "PaddyTerraces$Slope" "share" "[I", Cond.methodLink RX3 60 yX2_hasField, Cond.instanceMethod yX2_hasField, Cond.selects RX2 yX2_hasField yX2_hasField, Cond.code yX2_hasField cX2_hasField 3 (some .boolean), Cond.methodLink RL 60 yX3_setField, Cond.instanceMethod yX3_setField, Cond.selects RX3 yX3_setField yX3_setField, Cond.code yX3_setField cX3_setField 7 (some .int), Cond.fieldLink RX3 75 "PaddyTerraces$Slope" "bank" "[I", Cond.fieldLink RX3 79 "PaddyTerraces$Slope" "seepage" "[I", Cond.fieldLink RX3 82 "PaddyTerraces$Slope" "stone" "[I", Cond.methodLink RX3 85 Lib.Math.min.name, Cond.methodLink RX3 71 yX2_cellOf, Cond.instanceMethod yX2_cellOf, Cond.selects RX2 yX2_cellOf yX2_cellOf, Cond.code yX2_cellOf cX2_cellOf 3 (some .int), Cond.methodLink RL 63 yX3_turn, Cond.instanceMethod yX3_turn, Cond.selects RX3 yX3_turn yX3_turn]
def wsL_build_r6 : List Cond := [Cond.code yX3_turn cX3_turn 6 (some .int), Cond.fieldLink RX3 98 "PaddyTerraces$Slope" "side" "[I", Cond.methodLink RL 67 yX3_moveStone, Cond.instanceMethod yX3_moveStone, Cond.selects RX3 yX3_moveStone yX3_moveStone, Cond.code yX3_moveStone cX3_moveStone 6 (some .int), Cond.methodLink RX3 92 Lib.Math.abs.name, Cond.methodLink RL 77 yX3_plant, Cond.instanceMethod yX3_plant, Cond.selects RX3 yX3_plant yX3_plant, Cond.code yX3_plant cX3_plant 5 (some .int), Cond.classLink RX3 129 "java/lang/IllegalStateException", Cond.initialized "java/lang/IllegalStateException", Cond.fieldLink RX3 123 "PaddyTerraces$Slope" "crop" "[I", Cond.fieldLink RX3 126 "PaddyTerraces$Slope" "depth" "[I", Cond.fieldLink RX3 134 "PaddyTerraces$Slope" "age" "[I", Cond.methodLink RX3 137 yX2_crops, Cond.instanceMethod yX2_crops, Cond.selects RX2 yX2_crops yX2_crops, Cond.code yX2_crops cX2_crops 1 (some .int), Cond.methodLink RX2 91 yX2_sumOf, Cond.instanceMethod yX2_sumOf, Cond.selects RX2 yX2_sumOf yX2_sumOf, Cond.code yX2_sumOf cX2_sumOf 4 (some .int)]
def wsL_build_r7 : List Cond := [Cond.methodLink RX2 95 yX2_cells, Cond.methodLink RL 80 yX4_sum, Cond.instanceMethod yX4_sum, Cond.selects RX4 yX4_sum yX4_sum, Cond.code yX4_sum cX4_sum 11 (some .int)]
def wsL_build : List Cond := .code yL_build cL_build 8 (some (.object "PaddyTerracesLaw$Sim")) :: ((wsL_build_r1 ++ (wsL_build_r2 ++ (wsL_build_r3 ++ (wsL_build_r4 ++ (wsL_build_r5 ++ (wsL_build_r6 ++ wsL_build_r7)))))) ++ wsX40 ++ wsX30 ++ wsX20 ++ wsX00 ++ (vx_atS RX3 43 "java/lang/IllegalArgumentException" ["java/lang/RuntimeException", "java/lang/Exception"]).filter goodWord ++ (vx_atS RX3 68 "java/lang/IndexOutOfBoundsException" ["java/lang/RuntimeException", "java/lang/Exception"]).filter goodWord ++ (vx_atS RX3 133 "java/lang/IllegalStateException" ["java/lang/RuntimeException", "java/lang/Exception"]).filter goodWord)
def wsL_law0_r1 : List Cond := [Cond.classLink RL 32 RX3, Cond.instantiable RX3 6, Cond.initialized RX3, Cond.fieldLink RL 24 "PaddyTerracesLaw$Sim" "h" "I", Cond.fieldLink RL 28 "PaddyTerracesLaw$Sim" "w" "I", Cond.fieldLink RL 40 "PaddyTerracesLaw$Sim" "calendar" "[[I", Cond.fieldLink RL 44 "PaddyTerracesLaw$Sim" "shares" "[I", Cond.fieldLink RL 70 "PaddyTerracesLaw$Sim" "moved" "I", Cond.methodLink RL 83 yX3_init, Cond.instanceMethod yX3_init, Cond.code yX3_init cX3_init 1 none, Cond.methodLink RX3 1 objectInit, Cond.instanceMethod objectInit, Cond.code objectInit ⟨#[0xb1]⟩ 1 none, Cond.classLink RX3 7 RX0, Cond.instantiable RX0 3, Cond.initialized RX0, Cond.fieldLink RX3 10 "PaddyTerraces" "calendar" "LPaddyTerraces$Calendar;", Cond.classLink RX3 16 RX2, Cond.instantiable RX2 18, Cond.initialized RX2, Cond.fieldLink RX3 21 "PaddyTerraces" "slope" "LPaddyTerraces$Slope;", Cond.fieldLink RX3 25 "PaddyTerraces" "trial" "LPaddyTerraces$Slope;", Cond.classLink RX3 28 RX1]
def wsL_law0_r2 : List Cond := [Cond.instantiable RX1 5, Cond.initialized RX1, Cond.fieldLink RX3 31 "PaddyTerraces" "best" "LPaddyTerraces$Move;", Cond.methodLink RX3 9 yX0_init, Cond.instanceMethod yX0_init, Cond.code yX0_init cX0_init 1 none, Cond.methodLink RX0 3 objectInit, Cond.arrayClass .int, Cond.fieldLink RX0 9 "PaddyTerraces$Calendar" "rain" "[I", Cond.fieldLink RX0 15 "PaddyTerraces$Calendar" "spring" "[I", Cond.fieldLink RX0 18 "PaddyTerraces$Calendar" "draught" "[I", Cond.methodLink RX0 21 yJ7_fill_53178, Cond.static yJ7_fill_53178, Cond.initialized RJ7, Cond.code yJ7_fill_53178 cJ7_fill_53178 4 none, Cond.methodLink RX3 18 yX2_init, Cond.instanceMethod yX2_init, Cond.code yX2_init cX2_init 3 none, Cond.methodLink RX2 3 objectInit, Cond.fieldLink RX2 9 "PaddyTerraces$Slope" "share" "[I", Cond.fieldLink RX2 15 "PaddyTerraces$Slope" "depth" "[I", Cond.fieldLink RX2 18 "PaddyTerraces$Slope" "bank" "[I", Cond.fieldLink RX2 21 "PaddyTerraces$Slope" "seepage" "[I", Cond.fieldLink RX2 24 "PaddyTerraces$Slope" "stone" "[I"]
def wsL_law0_r3 : List Cond := [Cond.fieldLink RX2 27 "PaddyTerraces$Slope" "side" "[I", Cond.fieldLink RX2 30 "PaddyTerraces$Slope" "crop" "[I", Cond.fieldLink RX2 33 "PaddyTerraces$Slope" "age" "[I", Cond.fieldLink RX2 36 "PaddyTerraces$Slope" "hardness" "[I", Cond.fieldLink RX2 39 "PaddyTerraces$Slope" "drowned" "[I", Cond.fieldLink RX2 42 "PaddyTerraces$Slope" "dry" "[I", Cond.fieldLink RX2 45 "PaddyTerraces$Slope" "wentOut" "[I", Cond.fieldLink RX2 48 "PaddyTerraces$Slope" "spilled" "[I", Cond.methodLink RX2 51 yX2_startAnew, Cond.instanceMethod yX2_startAnew, Cond.selects RX2 yX2_startAnew yX2_startAnew, Cond.code yX2_startAnew cX2_startAnew 4 none, Cond.fieldLink RX2 55 "PaddyTerraces$Slope" "h" "I", Cond.fieldLink RX2 59 "PaddyTerraces$Slope" "w" "I", Cond.fieldLink RX2 62 "PaddyTerraces$Slope" "day" "I", Cond.fieldLink RX2 65 "PaddyTerraces$Slope" "brook" "I", Cond.fieldLink RX2 68 "PaddyTerraces$Slope" "died" "I", Cond.methodLink RX2 71 yJ7_fill_53178, Cond.methodLink RX2 77 yX2_clearCrop, Cond.instanceMethod yX2_clearCrop, Cond.selects RX2 yX2_clearCrop yX2_clearCrop, Cond.code yX2_clearCrop cX2_clearCrop 2 none, Cond.instanceMethod yX1_init, Cond.code yX1_init cX1_init 1 none]
def wsL_law0_r4 : List Cond := [Cond.methodLink RX1 3 objectInit, Cond.methodLink RL 84 yL_build, Cond.static yL_build, Cond.initialized RL, Cond.code yL_build cL_build 8 (some (.object "PaddyTerracesLaw$Sim")), Cond.classLink RL 9 RX4, Cond.instantiable RX4 10, Cond.initialized RX4, Cond.fieldLink RL 51 "PaddyTerracesLaw$Sim" "fields" "[[[I", Cond.methodLink RL 55 Lib.Math.min.name, Cond.static Lib.Math.min.name, Cond.initialized "java/lang/Math", Cond.code Lib.Math.min.name Lib.Math.min.code 2 (some .int), Cond.methodLink RL 73 Lib.Math.abs.name, Cond.static Lib.Math.abs.name, Cond.code Lib.Math.abs.name Lib.Math.abs.code 1 (some .int), Cond.methodLink RL 11 yL_cell, Cond.static yL_cell, Cond.code yL_cell cL_cell 2 (some .int), Cond.constant RL 8 (790386105), Cond.methodLink RL 17 yL_below, Cond.static yL_below, Cond.code yL_below cL_below 2 (some .int), Cond.constant RL 7 (2147483647)]
def wsL_law0_r5 : List Cond := [Cond.methodLink RL 21 yX4_init, Cond.instanceMethod yX4_init, Cond.code yX4_init cX4_init 5 none, Cond.methodLink RX4 1 objectInit, Cond.classLink RX4 7 "[I", Cond.fieldLink RX4 9 "PaddyTerracesLaw$Sim" "calendar" "[[I", Cond.fieldLink RX4 15 "PaddyTerracesLaw$Sim" "h" "I", Cond.fieldLink RX4 19 "PaddyTerracesLaw$Sim" "w" "I", Cond.fieldLink RX4 24 "PaddyTerracesLaw$Sim" "fields" "[[[I", Cond.fieldLink RX4 27 "PaddyTerracesLaw$Sim" "shares" "[I", Cond.methodLink RL 31 yX3_lay, Cond.instanceMethod yX3_lay, Cond.selects RX3 yX3_lay yX3_lay, Cond.code yX3_lay cX3_lay 3 (some .int), Cond.classLink RX3 39 "java/lang/IllegalArgumentException", Cond.initialized "java/lang/IllegalArgumentException", Cond.fieldLink RX3 49 "PaddyTerraces" "reaped" "I", Cond.fieldLink RX3 53 "PaddyTerraces" "moved" "I", Cond.methodLink RX3 35 yX3_isWithin, Cond.static yX3_isWithin, Cond.code yX3_isWithin cX3_isWithin 3 (some .boolean), Cond.methodLink RX3 46 yX2_startAnew, Cond.methodLink RX3 56 yX2_cells, Cond.instanceMethod yX2_cells]
def wsL_law0_r6 : List Cond := [Cond.selects RX2 yX2_cells yX2_cells, Cond.code yX2_cells cX2_cells 1 (some .int), Cond.methodLink RL 36 yX3_setDay, Cond.instanceMethod yX3_setDay, Cond.selects RX3 yX3_setDay yX3_setDay, Cond.code yX3_setDay cX3_setDay 6 (some .int), Cond.classLink RX3 64 "java/lang/IndexOutOfBoundsException", Cond.initialized "java/lang/IndexOutOfBoundsException", Cond.fieldLink RX3 112 "PaddyTerraces$Calendar" "spring" "[I", Cond.fieldLink RX3 115 "PaddyTerraces$Calendar" "rain" "[I", Cond.fieldLink RX3 118 "PaddyTerraces$Calendar" "draught" "[I", Cond.methodLink RL 48 yX3_setShare, Cond.instanceMethod yX3_setShare, Cond.selects RX3 yX3_setShare yX3_setShare, Cond.code yX3_setShare cX3_setShare 4 (some .int), Cond.fieldLink RX3 105 "PaddyTerraces$Slope" "share" "[I", Cond.methodLink RX3 60 yX2_hasField, Cond.instanceMethod yX2_hasField, Cond.selects RX2 yX2_hasField yX2_hasField, Cond.code yX2_hasField cX2_hasField 3 (some .boolean), Cond.methodLink RL 60 yX3_setField, Cond.instanceMethod yX3_setField, Cond.selects RX3 yX3_setField yX3_setField, Cond.code yX3_setField cX3_setField 7 (some .int)]
def wsL_law0_r7 : List Cond := [Cond.fieldLink RX3 75 "PaddyTerraces$Slope" "bank" "[I", Cond.fieldLink RX3 79 "PaddyTerraces$Slope" "seepage" "[I", Cond.fieldLink RX3 82 "PaddyTerraces$Slope" "stone" "[I", Cond.methodLink RX3 85 Lib.Math.min.name, Cond.methodLink RX3 71 yX2_cellOf, Cond.instanceMethod yX2_cellOf, Cond.selects RX2 yX2_cellOf yX2_cellOf, Cond.code yX2_cellOf cX2_cellOf 3 (some .int), Cond.methodLink RL 63 yX3_turn, Cond.instanceMethod yX3_turn, Cond.selects RX3 yX3_turn yX3_turn, Cond.code yX3_turn cX3_turn 6 (some .int), Cond.fieldLink RX3 98 "PaddyTerraces$Slope" "side" "[I", Cond.methodLink RL 67 yX3_moveStone, Cond.instanceMethod yX3_moveStone, Cond.selects RX3 yX3_moveStone yX3_moveStone, Cond.code yX3_moveStone cX3_moveStone 6 (some .int), Cond.methodLink RX3 92 Lib.Math.abs.name, Cond.methodLink RL 77 yX3_plant, Cond.instanceMethod yX3_plant, Cond.selects RX3 yX3_plant yX3_plant, Cond.code yX3_plant cX3_plant 5 (some .int), Cond.classLink RX3 129 "java/lang/IllegalStateException", Cond.initialized "java/lang/IllegalStateException"]
def wsL_law0_r8 : List Cond := [Cond.fieldLink RX3 123 "PaddyTerraces$Slope" "crop" "[I", Cond.fieldLink RX3 126 "PaddyTerraces$Slope" "depth" "[I", Cond.fieldLink RX3 134 "PaddyTerraces$Slope" "age" "[I", Cond.methodLink RX3 137 yX2_crops, Cond.instanceMethod yX2_crops, Cond.selects RX2 yX2_crops yX2_crops, Cond.code yX2_crops cX2_crops 1 (some .int), Cond.methodLink RX2 91 yX2_sumOf, Cond.instanceMethod yX2_sumOf, Cond.selects RX2 yX2_sumOf yX2_sumOf, Cond.code yX2_sumOf cX2_sumOf 4 (some .int), Cond.methodLink RX2 95 yX2_cells, Cond.methodLink RL 80 yX4_sum, Cond.instanceMethod yX4_sum, Cond.selects RX4 yX4_sum yX4_sum, Cond.code yX4_sum cX4_sum 11 (some .int), Cond.methodLink RL 88 yX3_count, Cond.instanceMethod yX3_count, Cond.selects RX3 yX3_count yX3_count, Cond.code yX3_count cX3_count 2 (some .int), Cond.methodLink RX3 167 yX3_countNumber, Cond.instanceMethod yX3_countNumber, Cond.selects RX3 yX3_countNumber yX3_countNumber, Cond.code yX3_countNumber cX3_countNumber 2 (some .int)]
def wsL_law0_r9 : List Cond := [Cond.fieldLink RX3 206 "PaddyTerraces$Slope" "h" "I", Cond.fieldLink RX3 203 "PaddyTerraces$Slope" "w" "I", Cond.fieldLink RX3 151 "PaddyTerraces$Slope" "day" "I", Cond.fieldLink RX3 209 "PaddyTerraces$Slope" "brook" "I", Cond.fieldLink RX3 212 "PaddyTerraces$Slope" "died" "I", Cond.methodLink RX3 196 yX2_allDepths, Cond.instanceMethod yX2_allDepths, Cond.selects RX2 yX2_allDepths yX2_allDepths, Cond.code yX2_allDepths cX2_allDepths 1 (some .int), Cond.methodLink RL 91 yX3_field, Cond.instanceMethod yX3_field, Cond.selects RX3 yX3_field yX3_field, Cond.code yX3_field cX3_field 4 (some .int), Cond.methodLink RX3 162 yX2_fieldNumber, Cond.instanceMethod yX2_fieldNumber, Cond.selects RX2 yX2_fieldNumber yX2_fieldNumber, Cond.code yX2_fieldNumber cX2_fieldNumber 3 (some .int), Cond.methodLink RL 94 yX3_foresee, Cond.instanceMethod yX3_foresee, Cond.selects RX3 yX3_foresee yX3_foresee, Cond.code yX3_foresee cX3_foresee 3 (some .int), Cond.methodLink RX3 179 yX2_copyFrom, Cond.instanceMethod yX2_copyFrom, Cond.selects RX2 yX2_copyFrom yX2_copyFrom]
def wsL_law0_r10 : List Cond := [Cond.code yX2_copyFrom cX2_copyFrom 2 none, Cond.methodLink RX2 81 arraycopyName, Cond.native arraycopyName, Cond.static arraycopyName, Cond.initialized "java/lang/System", Cond.methodLink RX2 87 yX2_copyRow, Cond.static yX2_copyRow, Cond.code yX2_copyRow cX2_copyRow 2 none, Cond.methodLink RX3 156 yX2_letDaysGoBy, Cond.instanceMethod yX2_letDaysGoBy, Cond.selects RX2 yX2_letDaysGoBy yX2_letDaysGoBy, Cond.code yX2_letDaysGoBy cX2_letDaysGoBy 5 none, Cond.fieldLink RX2 99 "PaddyTerraces$Calendar" "rain" "[I", Cond.fieldLink RX2 107 "PaddyTerraces$Calendar" "spring" "[I", Cond.fieldLink RX2 116 "PaddyTerraces$Calendar" "draught" "[I", Cond.methodLink RX2 104 yX2_takeRain, Cond.instanceMethod yX2_takeRain, Cond.selects RX2 yX2_takeRain yX2_takeRain, Cond.code yX2_takeRain cX2_takeRain 3 none, Cond.methodLink RX2 110 yX2_takeSpring, Cond.instanceMethod yX2_takeSpring, Cond.selects RX2 yX2_takeSpring yX2_takeSpring, Cond.code yX2_takeSpring cX2_takeSpring 4 none, Cond.methodLink RX2 113 yX2_letWaterFlow]
def wsL_law0_r11 : List Cond := [Cond.instanceMethod yX2_letWaterFlow, Cond.selects RX2 yX2_letWaterFlow yX2_letWaterFlow, Cond.code yX2_letWaterFlow cX2_letWaterFlow 3 none, Cond.methodLink RX2 125 yX2_letFieldFlow, Cond.instanceMethod yX2_letFieldFlow, Cond.selects RX2 yX2_letFieldFlow yX2_letFieldFlow, Cond.code yX2_letFieldFlow cX2_letFieldFlow 6 none, Cond.methodLink RX2 132 Lib.Math.max.name, Cond.static Lib.Math.max.name, Cond.code Lib.Math.max.name Lib.Math.max.code 2 (some .int), Cond.methodLink RX2 137 Lib.Math.min.name, Cond.methodLink RX2 128 yX2_cellOf, Cond.methodLink RX2 140 yX2_bringWater, Cond.instanceMethod yX2_bringWater, Cond.selects RX2 yX2_bringWater yX2_bringWater, Cond.code yX2_bringWater cX2_bringWater 4 none, Cond.methodLink RX2 144 yX2_hasField, Cond.methodLink RX2 119 yX2_loseWater, Cond.instanceMethod yX2_loseWater, Cond.selects RX2 yX2_loseWater yX2_loseWater, Cond.code yX2_loseWater cX2_loseWater 4 none, Cond.methodLink RX2 122 yX2_growRice, Cond.instanceMethod yX2_growRice, Cond.selects RX2 yX2_growRice yX2_growRice]
def wsL_law0_r12 : List Cond := [Cond.code yX2_growRice cX2_growRice 2 none, Cond.methodLink RX2 148 yX2_growCrop, Cond.instanceMethod yX2_growCrop, Cond.selects RX2 yX2_growCrop yX2_growCrop, Cond.code yX2_growCrop cX2_growCrop 4 none, Cond.methodLink RX2 151 yX2_hardening, Cond.instanceMethod yX2_hardening, Cond.selects RX2 yX2_hardening yX2_hardening, Cond.code yX2_hardening cX2_hardening 2 (some .int), Cond.methodLink RX3 183 yX3_foreseenNumber, Cond.instanceMethod yX3_foreseenNumber, Cond.selects RX3 yX3_foreseenNumber yX3_foreseenNumber, Cond.code yX3_foreseenNumber cX3_foreseenNumber 2 (some .int), Cond.methodLink RX3 215 yX2_allHardness, Cond.instanceMethod yX2_allHardness, Cond.selects RX2 yX2_allHardness yX2_allHardness, Cond.code yX2_allHardness cX2_allHardness 1 (some .int), Cond.methodLink RL 97 yX3_pass, Cond.instanceMethod yX3_pass, Cond.selects RX3 yX3_pass yX3_pass, Cond.code yX3_pass cX3_pass 2 (some .int), Cond.methodLink RL 100 yX3_reap, Cond.instanceMethod yX3_reap, Cond.selects RX3 yX3_reap yX3_reap]
def wsL_law0_r13 : List Cond := [Cond.code yX3_reap cX3_reap 5 (some .int), Cond.fieldLink RX3 142 "PaddyTerraces$Slope" "hardness" "[I", Cond.methodLink RX3 145 yX2_clearCrop, Cond.methodLink RL 103 yX3_depth, Cond.instanceMethod yX3_depth, Cond.selects RX3 yX3_depth yX3_depth, Cond.code yX3_depth cX3_depth 2 (some .double)]
def wsL_law0 : List Cond := (wsL_law0_r1 ++ (wsL_law0_r2 ++ (wsL_law0_r3 ++ (wsL_law0_r4 ++ (wsL_law0_r5 ++ (wsL_law0_r6 ++ (wsL_law0_r7 ++ (wsL_law0_r8 ++ (wsL_law0_r9 ++ (wsL_law0_r10 ++ (wsL_law0_r11 ++ (wsL_law0_r12 ++ wsL_law0_r13)))))))))))) ++ wsX30 ++ wsX40 ++ wsX00 ++ wsX20 ++ wsX10 ++ ([] : List Cond)
def wsL_law : List Cond := wsL_law0 ++ (vx_atS RX3 43 "java/lang/IllegalArgumentException" ["java/lang/RuntimeException", "java/lang/Exception"]).filter goodWord ++ (vx_atS RX3 68 "java/lang/IndexOutOfBoundsException" ["java/lang/RuntimeException", "java/lang/Exception"]).filter goodWord ++ (vx_atS RX3 133 "java/lang/IllegalStateException" ["java/lang/RuntimeException", "java/lang/Exception"]).filter goodWord
end
section
theorem zn_in {big : List Cond} (ws : List Cond) (ps : List Nat) (hp : ws = ps.filterMap (fun i => big[i]?)) : ∀ w ∈ ws, w ∈ big := by
  intro w hw
  rw [hp] at hw
  obtain ⟨i, -, hi⟩ := List.mem_filterMap.mp hw
  exact List.mem_of_getElem? hi
theorem zn_app {big a b : List Cond} (ha : ∀ w ∈ a, w ∈ big) (hb : ∀ w ∈ b, w ∈ big) : ∀ w ∈ a ++ b, w ∈ big := fun w h => (List.mem_append.mp h).elim (ha w) (hb w)
theorem zn_nil {big : List Cond} : ∀ w ∈ ([] : List Cond), w ∈ big := fun _ h => absurd h List.not_mem_nil

theorem wsL_law_ir1 : ∀ w ∈ wsL_law0_r1, w ∈ lw_tbl := fun w h => zn_in wsL_law0_r1 [28, 29, 14, 437, 439, 445, 443, 446, 30, 31, 32, 33, 34, 35, 36, 37, 15, 163, 62, 63, 17, 164, 165, 146] (by decide +kernel) w h
theorem wsL_law_ir2 : ∀ w ∈ wsL_law0_r2, w ∈ lw_tbl := fun w h => zn_in wsL_law0_r2 [147, 18, 166, 38, 39, 40, 41, 61, 45, 48, 51, 42, 43, 16, 44, 64, 65, 66, 67, 87, 89, 91, 93, 95] (by decide +kernel) w h
theorem wsL_law_ir3 : ∀ w ∈ wsL_law0_r3, w ∈ lw_tbl := fun w h => zn_in wsL_law0_r3 [97, 99, 101, 103, 105, 106, 107, 108, 68, 69, 70, 71, 77, 79, 81, 83, 85, 72, 73, 74, 75, 76, 149, 150] (by decide +kernel) w h
theorem wsL_law_ir4 : ∀ w ∈ wsL_law0_r4, w ∈ lw_tbl := fun w h => zn_in wsL_law0_r4 [151, 415, 416, 13, 417, 418, 419, 19, 441, 486, 332, 25, 333, 506, 504, 505, 420, 421, 422, 423, 424, 425, 426, 427] (by decide +kernel) w h
theorem wsL_law_ir5 : ∀ w ∈ wsL_law0_r5, w ∈ lw_tbl := fun w h => zn_in wsL_law0_r5 [428, 429, 430, 431, 432, 444, 436, 438, 440, 442, 468, 469, 470, 471, 286, 23, 167, 168, 283, 284, 285, 473, 414, 312] (by decide +kernel) w h
theorem wsL_law_ir6 : ∀ w ∈ wsL_law0_r6, w ∈ lw_tbl := fun w h => zn_in wsL_law0_r6 [313, 314, 474, 475, 476, 477, 190, 24, 49, 46, 52, 480, 481, 482, 483, 88, 186, 187, 188, 189, 487, 488, 489, 490] (by decide +kernel) w h
theorem wsL_law_ir7 : ∀ w ∈ wsL_law0_r7, w ∈ lw_tbl := fun w h => zn_in wsL_law0_r7 [92, 94, 96, 492, 258, 259, 260, 261, 493, 494, 495, 496, 98, 498, 499, 500, 501, 503, 507, 508, 509, 510, 262, 26] (by decide +kernel) w h
theorem wsL_law_ir8 : ∀ w ∈ wsL_law0_r8, w ∈ lw_tbl := fun w h => zn_in wsL_law0_r8 [100, 90, 102, 356, 357, 358, 359, 360, 362, 10, 363, 311, 513, 514, 515, 516, 373, 374, 375, 376, 378, 380, 11, 381] (by decide +kernel) w h
theorem wsL_law_ir9 : ∀ w ∈ wsL_law0_r9, w ∈ lw_tbl := fun w h => zn_in wsL_law0_r9 [78, 80, 82, 84, 86, 382, 383, 384, 385, 364, 365, 366, 367, 369, 370, 371, 372, 386, 387, 388, 389, 392, 393, 394] (by decide +kernel) w h
theorem wsL_law_ir10 : ∀ w ∈ wsL_law0_r10, w ∈ lw_tbl := fun w h => zn_in wsL_law0_r10 [395, 396, 398, 397, 27, 399, 400, 401, 303, 304, 305, 306, 47, 50, 53, 307, 309, 1, 310, 315, 317, 2, 318, 319] (by decide +kernel) w h
theorem wsL_law_ir11 : ∀ w ∈ wsL_law0_r11, w ∈ lw_tbl := fun w h => zn_in wsL_law0_r11 [321, 3, 322, 323, 325, 4, 326, 328, 329, 330, 331, 327, 334, 336, 5, 337, 338, 339, 341, 6, 342, 343, 345, 7] (by decide +kernel) w h
theorem wsL_law_ir12 : ∀ w ∈ wsL_law0_r12, w ∈ lw_tbl := fun w h => zn_in wsL_law0_r12 [346, 347, 349, 8, 350, 351, 353, 9, 354, 402, 404, 12, 405, 406, 407, 408, 409, 279, 280, 281, 282, 182, 183, 184] (by decide +kernel) w h
theorem wsL_law_ir13 : ∀ w ∈ wsL_law0_r13, w ∈ lw_tbl := fun w h => zn_in wsL_law0_r13 [185, 104, 278, 410, 411, 412, 413] (by decide +kernel) w h
theorem zn_inX0 : ∀ w ∈ wsX00, w ∈ lw_tbl := fun w h => zn_in wsX00 [54, 56, 58] (by decide +kernel) w h
theorem zn_inX1 : ∀ w ∈ wsX10, w ∈ lw_tbl := fun w h => zn_in wsX10 [152, 154, 156, 158, 160] (by decide +kernel) w h
theorem zn_inX2 : ∀ w ∈ wsX20, w ∈ lw_tbl := fun w h => zn_in wsX20 [109, 111, 113, 115, 117, 119, 121, 123, 125, 127, 129, 131, 133, 135, 137, 139, 141, 143] (by decide +kernel) w h
theorem zn_inX3 : ∀ w ∈ wsX30, w ∈ lw_tbl := fun w h => zn_in wsX30 [169, 171, 173, 175, 177, 179] (by decide +kernel) w h
theorem zn_inX4 : ∀ w ∈ wsX40, w ∈ lw_tbl := fun w h => zn_in wsX40 [447, 449, 451, 453, 455, 457, 459, 461, 463, 465] (by decide +kernel) w h
theorem zn_inX5 : ∀ w ∈ wsX50, w ∈ lw_tbl := fun w h => zn_in wsX50 [] (by decide +kernel) w h
theorem zn_build_r1 : ∀ w ∈ wsL_build_r1, w ∈ lw_tbl := fun w h => zn_in wsL_build_r1 [418, 419, 19, 437, 439, 61, 445, 443, 441, 486, 332, 25, 333, 446, 506, 504, 505, 420, 421, 13, 422, 423, 424, 425] (by decide +kernel) w h
theorem zn_build_r2 : ∀ w ∈ wsL_build_r2, w ∈ lw_tbl := fun w h => zn_in wsL_build_r2 [426, 427, 428, 429, 430, 431, 34, 35, 432, 444, 436, 438, 440, 442, 468, 469, 470, 14, 471, 286, 23, 164, 167, 168] (by decide +kernel) w h
theorem zn_build_r3 : ∀ w ∈ wsL_build_r3, w ∈ lw_tbl := fun w h => zn_in wsL_build_r3 [283, 284, 285, 473, 69, 70, 17, 71, 77, 79, 81, 83, 85, 87, 89, 91, 93, 95, 97, 107, 108, 72, 43, 16] (by decide +kernel) w h
theorem zn_build_r4 : ∀ w ∈ wsL_build_r4, w ∈ lw_tbl := fun w h => zn_in wsL_build_r4 [44, 73, 74, 75, 76, 99, 101, 103, 105, 106, 414, 312, 313, 314, 474, 475, 476, 477, 190, 24, 163, 49, 46, 52] (by decide +kernel) w h
theorem zn_build_r5 : ∀ w ∈ wsL_build_r5, w ∈ lw_tbl := fun w h => zn_in wsL_build_r5 [480, 481, 482, 483, 88, 186, 187, 188, 189, 487, 488, 489, 490, 92, 94, 96, 492, 258, 259, 260, 261, 493, 494, 495] (by decide +kernel) w h
theorem zn_build_r6 : ∀ w ∈ wsL_build_r6, w ∈ lw_tbl := fun w h => zn_in wsL_build_r6 [496, 98, 498, 499, 500, 501, 503, 507, 508, 509, 510, 262, 26, 100, 90, 102, 356, 357, 358, 359, 360, 362, 10, 363] (by decide +kernel) w h
theorem zn_build_r7 : ∀ w ∈ wsL_build_r7, w ∈ lw_tbl := fun w h => zn_in wsL_build_r7 [311, 513, 514, 515, 516] (by decide +kernel) w h
theorem wsL_law_in0 : ∀ w ∈ wsL_law0, w ∈ lw_tbl := (zn_app (zn_app (zn_app (zn_app (zn_app (zn_app (zn_app wsL_law_ir1 (zn_app wsL_law_ir2 (zn_app wsL_law_ir3 (zn_app wsL_law_ir4 (zn_app wsL_law_ir5 (zn_app wsL_law_ir6 (zn_app wsL_law_ir7 (zn_app wsL_law_ir8 (zn_app wsL_law_ir9 (zn_app wsL_law_ir10 (zn_app wsL_law_ir11 (zn_app wsL_law_ir12 wsL_law_ir13)))))))))))) zn_inX3) zn_inX4) zn_inX0) zn_inX2) zn_inX1) zn_nil)
end
section
theorem wsL_law_x0 : ∀ w ∈ (vx_atS RX3 43 "java/lang/IllegalArgumentException" ["java/lang/RuntimeException", "java/lang/Exception"]).filter goodWord, w ∈ lw_tbl := by decide +kernel
theorem wsL_law_x1 : ∀ w ∈ (vx_atS RX3 68 "java/lang/IndexOutOfBoundsException" ["java/lang/RuntimeException", "java/lang/Exception"]).filter goodWord, w ∈ lw_tbl := by decide +kernel
theorem wsL_law_x2 : ∀ w ∈ (vx_atS RX3 133 "java/lang/IllegalStateException" ["java/lang/RuntimeException", "java/lang/Exception"]).filter goodWord, w ∈ lw_tbl := by decide +kernel
theorem wsL_law_in : ∀ w ∈ wsL_law, w ∈ lw_tbl := fun w h => (List.mem_append.mp h).elim (fun h => (List.mem_append.mp h).elim (fun h => (List.mem_append.mp h).elim (fun h => wsL_law_in0 w h) (fun h => wsL_law_x0 w h)) (fun h => wsL_law_x1 w h)) (fun h => wsL_law_x2 w h)
theorem inlX0 : ∀ w ∈ wsX00, w ∈ wsL_law := fun _ h => List.mem_append_left _ (List.mem_append_left _ (List.mem_append_left _ (List.mem_append_left _ (List.mem_append_left _ (List.mem_append_left _ (List.mem_append_right _ h))))))
theorem inX0 : ∀ w ∈ wsX00, w ∈ lw_tbl := fun w h => wsL_law_in w (inlX0 w h)
theorem inlX1 : ∀ w ∈ wsX10, w ∈ wsL_law := fun _ h => List.mem_append_left _ (List.mem_append_left _ (List.mem_append_left _ (List.mem_append_left _ (List.mem_append_right _ h))))
theorem inX1 : ∀ w ∈ wsX10, w ∈ lw_tbl := fun w h => wsL_law_in w (inlX1 w h)
theorem inlX2 : ∀ w ∈ wsX20, w ∈ wsL_law := fun _ h => List.mem_append_left _ (List.mem_append_left _ (List.mem_append_left _ (List.mem_append_left _ (List.mem_append_left _ (List.mem_append_right _ h)))))
theorem inX2 : ∀ w ∈ wsX20, w ∈ lw_tbl := fun w h => wsL_law_in w (inlX2 w h)
theorem inlX3 : ∀ w ∈ wsX30, w ∈ wsL_law := fun _ h => List.mem_append_left _ (List.mem_append_left _ (List.mem_append_left _ (List.mem_append_left _ (List.mem_append_left _ (List.mem_append_left _ (List.mem_append_left _ (List.mem_append_left _ (List.mem_append_right _ h))))))))
theorem inX3 : ∀ w ∈ wsX30, w ∈ lw_tbl := fun w h => wsL_law_in w (inlX3 w h)
theorem inlX4 : ∀ w ∈ wsX40, w ∈ wsL_law := fun _ h => List.mem_append_left _ (List.mem_append_left _ (List.mem_append_left _ (List.mem_append_left _ (List.mem_append_left _ (List.mem_append_left _ (List.mem_append_left _ (List.mem_append_right _ h)))))))
theorem inX4 : ∀ w ∈ wsX40, w ∈ lw_tbl := fun w h => wsL_law_in w (inlX4 w h)
theorem inX5 : ∀ w ∈ wsX50, w ∈ lw_tbl := by decide +kernel
theorem inJx145de : ∀ w ∈ wsJx145de0, w ∈ lw_tbl := by decide +kernel
theorem inJ9 : ∀ w ∈ wsJ90, w ∈ lw_tbl := by decide +kernel
theorem inJ0 : ∀ w ∈ wsJ00, w ∈ lw_tbl := by decide +kernel
theorem inJ10 : ∀ w ∈ wsJ100, w ∈ lw_tbl := by decide +kernel
theorem inJ7 : ∀ w ∈ wsJ70, w ∈ lw_tbl := by decide +kernel
theorem zn_build : ∀ w ∈ wsL_build, w ∈ lw_tbl := List.forall_mem_cons.mpr ⟨List.mem_append_right _ (List.mem_of_getElem? (i := 404) (by decide +kernel)), (zn_app (zn_app (zn_app (zn_app (zn_app (zn_app (zn_app (zn_app zn_build_r1 (zn_app zn_build_r2 (zn_app zn_build_r3 (zn_app zn_build_r4 (zn_app zn_build_r5 (zn_app zn_build_r6 zn_build_r7)))))) zn_inX4) zn_inX3) zn_inX2) zn_inX0) wsL_law_x0) wsL_law_x1) wsL_law_x2)⟩
end
section
set_option maxRecDepth 20000 in
theorem ggX0_init_J7_fill_53178 : GoodIn wsX0_init wsJ7_fill_53178 := goodIn_r _ [11] (by decide +kernel) (by decide +kernel)
set_option maxRecDepth 20000 in
theorem gX0_init_J7_fill_53178 : GoodIn wsX0_init (va_wsS RX0 21 yJ7_fill_53178 wsJ7_fill_53178) := goodIn_app (goodIn_of _ (by decide +kernel)) ggX0_init_J7_fill_53178
theorem dX0_init_0 : decode cX0_init 0 = .ok (.aload_n 0, 1) := by decide +kernel
theorem dX0_init_1 : decode cX0_init 1 = .ok (.invokespecial 3, 3) := by decide +kernel
theorem dX0_init_4 : decode cX0_init 4 = .ok (.aload_n 0, 1) := by decide +kernel
theorem dX0_init_5 : decode cX0_init 5 = .ok (.bipush 30, 2) := by decide +kernel
theorem dX0_init_7 : decode cX0_init 7 = .ok (.newarray .int, 2) := by decide +kernel
theorem dX0_init_9 : decode cX0_init 9 = .ok (.putfield 9, 3) := by decide +kernel
theorem dX0_init_12 : decode cX0_init 12 = .ok (.aload_n 0, 1) := by decide +kernel
theorem dX0_init_13 : decode cX0_init 13 = .ok (.bipush 30, 2) := by decide +kernel
theorem dX0_init_15 : decode cX0_init 15 = .ok (.newarray .int, 2) := by decide +kernel
theorem dX0_init_17 : decode cX0_init 17 = .ok (.putfield 15, 3) := by decide +kernel
theorem dX0_init_20 : decode cX0_init 20 = .ok (.aload_n 0, 1) := by decide +kernel
theorem dX0_init_21 : decode cX0_init 21 = .ok (.bipush 30, 2) := by decide +kernel
theorem dX0_init_23 : decode cX0_init 23 = .ok (.newarray .int, 2) := by decide +kernel
theorem dX0_init_25 : decode cX0_init 25 = .ok (.putfield 18, 3) := by decide +kernel
theorem dX0_init_28 : decode cX0_init 28 = .ok (.aload_n 0, 1) := by decide +kernel
theorem dX0_init_29 : decode cX0_init 29 = .ok (.getfield 15, 3) := by decide +kernel
theorem dX0_init_32 : decode cX0_init 32 = .ok (.bipush 60, 2) := by decide +kernel
theorem dX0_init_34 : decode cX0_init 34 = .ok (.invokestatic 21, 3) := by decide +kernel
theorem dX0_init_37 : decode cX0_init 37 = .ok (.aload_n 0, 1) := by decide +kernel
theorem dX0_init_38 : decode cX0_init 38 = .ok (.getfield 18, 3) := by decide +kernel
theorem dX0_init_41 : decode cX0_init 41 = .ok (.iconst 3, 1) := by decide +kernel
theorem dX0_init_42 : decode cX0_init 42 = .ok (.invokestatic 21, 3) := by decide +kernel
theorem dX0_init_45 : decode cX0_init 45 = .ok (.return_, 1) := by decide +kernel
theorem dJ9_abs_0f7a4_0 : decode cJ9_abs_0f7a4 0 = .ok (.iload_n 0, 1) := by decide +kernel
theorem dJ9_abs_0f7a4_1 : decode cJ9_abs_0f7a4 1 = .ok (.ifCond .ge 8, 3) := by decide +kernel
theorem dJ9_abs_0f7a4_4 : decode cJ9_abs_0f7a4 4 = .ok (.iload_n 0, 1) := by decide +kernel
theorem dJ9_abs_0f7a4_5 : decode cJ9_abs_0f7a4 5 = .ok (.ineg, 1) := by decide +kernel
theorem dJ9_abs_0f7a4_6 : decode cJ9_abs_0f7a4 6 = .ok (.goto 4, 3) := by decide +kernel
theorem dJ9_abs_0f7a4_9 : decode cJ9_abs_0f7a4 9 = .ok (.iload_n 0, 1) := by decide +kernel
theorem dJ9_abs_0f7a4_10 : decode cJ9_abs_0f7a4 10 = .ok (.ireturn, 1) := by decide +kernel
theorem dJ9_max_7cf53_0 : decode cJ9_max_7cf53 0 = .ok (.iload_n 0, 1) := by decide +kernel
theorem dJ9_max_7cf53_1 : decode cJ9_max_7cf53 1 = .ok (.iload_n 1, 1) := by decide +kernel
theorem dJ9_max_7cf53_2 : decode cJ9_max_7cf53 2 = .ok (.if_icmp .lt 7, 3) := by decide +kernel
theorem dJ9_max_7cf53_5 : decode cJ9_max_7cf53 5 = .ok (.iload_n 0, 1) := by decide +kernel
theorem dJ9_max_7cf53_6 : decode cJ9_max_7cf53 6 = .ok (.goto 4, 3) := by decide +kernel
theorem dJ9_max_7cf53_9 : decode cJ9_max_7cf53 9 = .ok (.iload_n 1, 1) := by decide +kernel
theorem dJ9_max_7cf53_10 : decode cJ9_max_7cf53 10 = .ok (.ireturn, 1) := by decide +kernel
theorem dJ9_min_7cf53_0 : decode cJ9_min_7cf53 0 = .ok (.iload_n 0, 1) := by decide +kernel
theorem dJ9_min_7cf53_1 : decode cJ9_min_7cf53 1 = .ok (.iload_n 1, 1) := by decide +kernel
theorem dJ9_min_7cf53_2 : decode cJ9_min_7cf53 2 = .ok (.if_icmp .gt 7, 3) := by decide +kernel
theorem dJ9_min_7cf53_5 : decode cJ9_min_7cf53 5 = .ok (.iload_n 0, 1) := by decide +kernel
theorem dJ9_min_7cf53_6 : decode cJ9_min_7cf53 6 = .ok (.goto 4, 3) := by decide +kernel
theorem dJ9_min_7cf53_9 : decode cJ9_min_7cf53 9 = .ok (.iload_n 1, 1) := by decide +kernel
theorem dJ9_min_7cf53_10 : decode cJ9_min_7cf53 10 = .ok (.ireturn, 1) := by decide +kernel
theorem dJ7_fill_53178_0 : decode cJ7_fill_53178 0 = .ok (.iconst 0, 1) := by decide +kernel
theorem dJ7_fill_53178_1 : decode cJ7_fill_53178 1 = .ok (.istore_n 2, 1) := by decide +kernel
theorem dJ7_fill_53178_2 : decode cJ7_fill_53178 2 = .ok (.aload_n 0, 1) := by decide +kernel
theorem dJ7_fill_53178_3 : decode cJ7_fill_53178 3 = .ok (.arraylength, 1) := by decide +kernel
theorem dJ7_fill_53178_4 : decode cJ7_fill_53178 4 = .ok (.istore_n 3, 1) := by decide +kernel
theorem dJ7_fill_53178_5 : decode cJ7_fill_53178 5 = .ok (.iload_n 2, 1) := by decide +kernel
theorem dJ7_fill_53178_6 : decode cJ7_fill_53178 6 = .ok (.iload_n 3, 1) := by decide +kernel
theorem dJ7_fill_53178_7 : decode cJ7_fill_53178 7 = .ok (.if_icmp .ge 13, 3) := by decide +kernel
theorem dJ7_fill_53178_10 : decode cJ7_fill_53178 10 = .ok (.aload_n 0, 1) := by decide +kernel
theorem dJ7_fill_53178_11 : decode cJ7_fill_53178 11 = .ok (.iload_n 2, 1) := by decide +kernel
theorem dJ7_fill_53178_12 : decode cJ7_fill_53178 12 = .ok (.iload_n 1, 1) := by decide +kernel
theorem dJ7_fill_53178_13 : decode cJ7_fill_53178 13 = .ok (.iastore, 1) := by decide +kernel
theorem dJ7_fill_53178_14 : decode cJ7_fill_53178 14 = .ok (.iinc 2 1, 3) := by decide +kernel
theorem dJ7_fill_53178_17 : decode cJ7_fill_53178 17 = .ok (.goto (-12), 3) := by decide +kernel
theorem dJ7_fill_53178_20 : decode cJ7_fill_53178 20 = .ok (.return_, 1) := by decide +kernel
end
section
theorem dX1_init_0 : decode cX1_init 0 = .ok (.aload_n 0, 1) := by decide +kernel
theorem dX1_init_1 : decode cX1_init 1 = .ok (.invokespecial 3, 3) := by decide +kernel
theorem dX1_init_4 : decode cX1_init 4 = .ok (.return_, 1) := by decide +kernel
end
section
set_option maxRecDepth 20000 in
theorem ggX2_init_X2_startAnew : GoodIn wsX2_init wsX2_startAnew := goodIn_r _ [22, 23, 24, 25, 26, 27, 5, 6, 7, 8, 9, 10, 16, 17, 28, 29, 30, 31, 32, 33, 34, 21, 35, 11, 12, 13, 14, 15, 36, 37, 38, 39, 40, 41, 42, 43, 44, 45, 46, 47, 48, 49, 50, 51, 52, 53] (by decide +kernel) (by decide +kernel)
set_option maxRecDepth 20000 in
theorem gX2_init_X2_startAnew : GoodIn wsX2_init (wsV RX2 51 RX2 yX2_startAnew wsX2_startAnew) := goodIn_app (goodIn_of _ (by decide +kernel)) ggX2_init_X2_startAnew
theorem dX2_init_0 : decode cX2_init 0 = .ok (.aload_n 0, 1) := by decide +kernel
theorem dX2_init_1 : decode cX2_init 1 = .ok (.invokespecial 3, 3) := by decide +kernel
theorem dX2_init_4 : decode cX2_init 4 = .ok (.aload_n 0, 1) := by decide +kernel
theorem dX2_init_5 : decode cX2_init 5 = .ok (.bipush 8, 2) := by decide +kernel
theorem dX2_init_7 : decode cX2_init 7 = .ok (.newarray .int, 2) := by decide +kernel
theorem dX2_init_9 : decode cX2_init 9 = .ok (.putfield 9, 3) := by decide +kernel
theorem dX2_init_12 : decode cX2_init 12 = .ok (.aload_n 0, 1) := by decide +kernel
theorem dX2_init_13 : decode cX2_init 13 = .ok (.bipush 64, 2) := by decide +kernel
theorem dX2_init_15 : decode cX2_init 15 = .ok (.newarray .int, 2) := by decide +kernel
theorem dX2_init_17 : decode cX2_init 17 = .ok (.putfield 15, 3) := by decide +kernel
theorem dX2_init_20 : decode cX2_init 20 = .ok (.aload_n 0, 1) := by decide +kernel
theorem dX2_init_21 : decode cX2_init 21 = .ok (.bipush 64, 2) := by decide +kernel
theorem dX2_init_23 : decode cX2_init 23 = .ok (.newarray .int, 2) := by decide +kernel
theorem dX2_init_25 : decode cX2_init 25 = .ok (.putfield 18, 3) := by decide +kernel
theorem dX2_init_28 : decode cX2_init 28 = .ok (.aload_n 0, 1) := by decide +kernel
theorem dX2_init_29 : decode cX2_init 29 = .ok (.bipush 64, 2) := by decide +kernel
theorem dX2_init_31 : decode cX2_init 31 = .ok (.newarray .int, 2) := by decide +kernel
theorem dX2_init_33 : decode cX2_init 33 = .ok (.putfield 21, 3) := by decide +kernel
theorem dX2_init_36 : decode cX2_init 36 = .ok (.aload_n 0, 1) := by decide +kernel
theorem dX2_init_37 : decode cX2_init 37 = .ok (.bipush 64, 2) := by decide +kernel
theorem dX2_init_39 : decode cX2_init 39 = .ok (.newarray .int, 2) := by decide +kernel
theorem dX2_init_41 : decode cX2_init 41 = .ok (.putfield 24, 3) := by decide +kernel
theorem dX2_init_44 : decode cX2_init 44 = .ok (.aload_n 0, 1) := by decide +kernel
theorem dX2_init_45 : decode cX2_init 45 = .ok (.bipush 64, 2) := by decide +kernel
theorem dX2_init_47 : decode cX2_init 47 = .ok (.newarray .int, 2) := by decide +kernel
theorem dX2_init_49 : decode cX2_init 49 = .ok (.putfield 27, 3) := by decide +kernel
theorem dX2_init_52 : decode cX2_init 52 = .ok (.aload_n 0, 1) := by decide +kernel
theorem dX2_init_53 : decode cX2_init 53 = .ok (.bipush 64, 2) := by decide +kernel
theorem dX2_init_55 : decode cX2_init 55 = .ok (.newarray .int, 2) := by decide +kernel
theorem dX2_init_57 : decode cX2_init 57 = .ok (.putfield 30, 3) := by decide +kernel
theorem dX2_init_60 : decode cX2_init 60 = .ok (.aload_n 0, 1) := by decide +kernel
theorem dX2_init_61 : decode cX2_init 61 = .ok (.bipush 64, 2) := by decide +kernel
theorem dX2_init_63 : decode cX2_init 63 = .ok (.newarray .int, 2) := by decide +kernel
theorem dX2_init_65 : decode cX2_init 65 = .ok (.putfield 33, 3) := by decide +kernel
theorem dX2_init_68 : decode cX2_init 68 = .ok (.aload_n 0, 1) := by decide +kernel
theorem dX2_init_69 : decode cX2_init 69 = .ok (.bipush 64, 2) := by decide +kernel
theorem dX2_init_71 : decode cX2_init 71 = .ok (.newarray .int, 2) := by decide +kernel
theorem dX2_init_73 : decode cX2_init 73 = .ok (.putfield 36, 3) := by decide +kernel
theorem dX2_init_76 : decode cX2_init 76 = .ok (.aload_n 0, 1) := by decide +kernel
theorem dX2_init_77 : decode cX2_init 77 = .ok (.bipush 64, 2) := by decide +kernel
theorem dX2_init_79 : decode cX2_init 79 = .ok (.newarray .int, 2) := by decide +kernel
theorem dX2_init_81 : decode cX2_init 81 = .ok (.putfield 39, 3) := by decide +kernel
theorem dX2_init_84 : decode cX2_init 84 = .ok (.aload_n 0, 1) := by decide +kernel
theorem dX2_init_85 : decode cX2_init 85 = .ok (.bipush 64, 2) := by decide +kernel
theorem dX2_init_87 : decode cX2_init 87 = .ok (.newarray .int, 2) := by decide +kernel
theorem dX2_init_89 : decode cX2_init 89 = .ok (.putfield 42, 3) := by decide +kernel
theorem dX2_init_92 : decode cX2_init 92 = .ok (.aload_n 0, 1) := by decide +kernel
theorem dX2_init_93 : decode cX2_init 93 = .ok (.bipush 64, 2) := by decide +kernel
theorem dX2_init_95 : decode cX2_init 95 = .ok (.newarray .int, 2) := by decide +kernel
theorem dX2_init_97 : decode cX2_init 97 = .ok (.putfield 45, 3) := by decide +kernel
theorem dX2_init_100 : decode cX2_init 100 = .ok (.aload_n 0, 1) := by decide +kernel
theorem dX2_init_101 : decode cX2_init 101 = .ok (.bipush 64, 2) := by decide +kernel
theorem dX2_init_103 : decode cX2_init 103 = .ok (.newarray .int, 2) := by decide +kernel
theorem dX2_init_105 : decode cX2_init 105 = .ok (.putfield 48, 3) := by decide +kernel
theorem dX2_init_108 : decode cX2_init 108 = .ok (.aload_n 0, 1) := by decide +kernel
theorem dX2_init_109 : decode cX2_init 109 = .ok (.iload_n 1, 1) := by decide +kernel
theorem dX2_init_110 : decode cX2_init 110 = .ok (.iload_n 2, 1) := by decide +kernel
theorem dX2_init_111 : decode cX2_init 111 = .ok (.invokevirtual 51, 3) := by decide +kernel
theorem dX2_init_114 : decode cX2_init 114 = .ok (.return_, 1) := by decide +kernel
set_option maxRecDepth 20000 in
theorem ggX2_startAnew_J7_fill_53178 : GoodIn wsX2_startAnew wsJ7_fill_53178 := goodIn_r _ [17] (by decide +kernel) (by decide +kernel)
set_option maxRecDepth 20000 in
theorem gX2_startAnew_J7_fill_53178 : GoodIn wsX2_startAnew (va_wsS RX2 71 yJ7_fill_53178 wsJ7_fill_53178) := goodIn_app (goodIn_of _ (by decide +kernel)) ggX2_startAnew_J7_fill_53178
set_option maxRecDepth 20000 in
theorem ggX2_startAnew_X2_clearCrop : GoodIn wsX2_startAnew wsX2_clearCrop := goodIn_r _ [22, 23, 24, 25, 26, 27, 28, 29, 30, 31, 32, 33, 34, 35, 36, 37, 38, 39, 40, 41, 42, 43, 44, 45] (by decide +kernel) (by decide +kernel)
set_option maxRecDepth 20000 in
theorem gX2_startAnew_X2_clearCrop : GoodIn wsX2_startAnew (wsV RX2 77 RX2 yX2_clearCrop wsX2_clearCrop) := goodIn_app (goodIn_of _ (by decide +kernel)) ggX2_startAnew_X2_clearCrop
theorem dX2_startAnew_0 : decode cX2_startAnew 0 = .ok (.aload_n 0, 1) := by decide +kernel
theorem dX2_startAnew_1 : decode cX2_startAnew 1 = .ok (.iload_n 1, 1) := by decide +kernel
theorem dX2_startAnew_2 : decode cX2_startAnew 2 = .ok (.putfield 55, 3) := by decide +kernel
theorem dX2_startAnew_5 : decode cX2_startAnew 5 = .ok (.aload_n 0, 1) := by decide +kernel
theorem dX2_startAnew_6 : decode cX2_startAnew 6 = .ok (.iload_n 2, 1) := by decide +kernel
theorem dX2_startAnew_7 : decode cX2_startAnew 7 = .ok (.putfield 59, 3) := by decide +kernel
theorem dX2_startAnew_10 : decode cX2_startAnew 10 = .ok (.aload_n 0, 1) := by decide +kernel
theorem dX2_startAnew_11 : decode cX2_startAnew 11 = .ok (.iconst 0, 1) := by decide +kernel
theorem dX2_startAnew_12 : decode cX2_startAnew 12 = .ok (.putfield 62, 3) := by decide +kernel
theorem dX2_startAnew_15 : decode cX2_startAnew 15 = .ok (.aload_n 0, 1) := by decide +kernel
theorem dX2_startAnew_16 : decode cX2_startAnew 16 = .ok (.iconst 0, 1) := by decide +kernel
theorem dX2_startAnew_17 : decode cX2_startAnew 17 = .ok (.putfield 65, 3) := by decide +kernel
theorem dX2_startAnew_20 : decode cX2_startAnew 20 = .ok (.aload_n 0, 1) := by decide +kernel
theorem dX2_startAnew_21 : decode cX2_startAnew 21 = .ok (.iconst 0, 1) := by decide +kernel
theorem dX2_startAnew_22 : decode cX2_startAnew 22 = .ok (.putfield 68, 3) := by decide +kernel
theorem dX2_startAnew_25 : decode cX2_startAnew 25 = .ok (.aload_n 0, 1) := by decide +kernel
theorem dX2_startAnew_26 : decode cX2_startAnew 26 = .ok (.getfield 9, 3) := by decide +kernel
theorem dX2_startAnew_29 : decode cX2_startAnew 29 = .ok (.iconst 1, 1) := by decide +kernel
theorem dX2_startAnew_30 : decode cX2_startAnew 30 = .ok (.invokestatic 71, 3) := by decide +kernel
theorem dX2_startAnew_33 : decode cX2_startAnew 33 = .ok (.aload_n 0, 1) := by decide +kernel
theorem dX2_startAnew_34 : decode cX2_startAnew 34 = .ok (.getfield 15, 3) := by decide +kernel
theorem dX2_startAnew_37 : decode cX2_startAnew 37 = .ok (.iconst 0, 1) := by decide +kernel
theorem dX2_startAnew_38 : decode cX2_startAnew 38 = .ok (.invokestatic 71, 3) := by decide +kernel
theorem dX2_startAnew_41 : decode cX2_startAnew 41 = .ok (.aload_n 0, 1) := by decide +kernel
theorem dX2_startAnew_42 : decode cX2_startAnew 42 = .ok (.getfield 18, 3) := by decide +kernel
theorem dX2_startAnew_45 : decode cX2_startAnew 45 = .ok (.bipush 60, 2) := by decide +kernel
theorem dX2_startAnew_47 : decode cX2_startAnew 47 = .ok (.invokestatic 71, 3) := by decide +kernel
theorem dX2_startAnew_50 : decode cX2_startAnew 50 = .ok (.aload_n 0, 1) := by decide +kernel
theorem dX2_startAnew_51 : decode cX2_startAnew 51 = .ok (.getfield 21, 3) := by decide +kernel
theorem dX2_startAnew_54 : decode cX2_startAnew 54 = .ok (.iconst 2, 1) := by decide +kernel
theorem dX2_startAnew_55 : decode cX2_startAnew 55 = .ok (.invokestatic 71, 3) := by decide +kernel
theorem dX2_startAnew_58 : decode cX2_startAnew 58 = .ok (.aload_n 0, 1) := by decide +kernel
theorem dX2_startAnew_59 : decode cX2_startAnew 59 = .ok (.getfield 24, 3) := by decide +kernel
theorem dX2_startAnew_62 : decode cX2_startAnew 62 = .ok (.bipush 30, 2) := by decide +kernel
theorem dX2_startAnew_64 : decode cX2_startAnew 64 = .ok (.invokestatic 71, 3) := by decide +kernel
theorem dX2_startAnew_67 : decode cX2_startAnew 67 = .ok (.aload_n 0, 1) := by decide +kernel
theorem dX2_startAnew_68 : decode cX2_startAnew 68 = .ok (.getfield 27, 3) := by decide +kernel
theorem dX2_startAnew_71 : decode cX2_startAnew 71 = .ok (.iconst 0, 1) := by decide +kernel
theorem dX2_startAnew_72 : decode cX2_startAnew 72 = .ok (.invokestatic 71, 3) := by decide +kernel
theorem dX2_startAnew_75 : decode cX2_startAnew 75 = .ok (.aload_n 0, 1) := by decide +kernel
theorem dX2_startAnew_76 : decode cX2_startAnew 76 = .ok (.getfield 45, 3) := by decide +kernel
theorem dX2_startAnew_79 : decode cX2_startAnew 79 = .ok (.iconst 0, 1) := by decide +kernel
theorem dX2_startAnew_80 : decode cX2_startAnew 80 = .ok (.invokestatic 71, 3) := by decide +kernel
theorem dX2_startAnew_83 : decode cX2_startAnew 83 = .ok (.aload_n 0, 1) := by decide +kernel
theorem dX2_startAnew_84 : decode cX2_startAnew 84 = .ok (.getfield 48, 3) := by decide +kernel
theorem dX2_startAnew_87 : decode cX2_startAnew 87 = .ok (.iconst 0, 1) := by decide +kernel
theorem dX2_startAnew_88 : decode cX2_startAnew 88 = .ok (.invokestatic 71, 3) := by decide +kernel
theorem dX2_startAnew_91 : decode cX2_startAnew 91 = .ok (.iconst 0, 1) := by decide +kernel
theorem dX2_startAnew_92 : decode cX2_startAnew 92 = .ok (.istore_n 3, 1) := by decide +kernel
theorem dX2_startAnew_93 : decode cX2_startAnew 93 = .ok (.iload_n 3, 1) := by decide +kernel
theorem dX2_startAnew_94 : decode cX2_startAnew 94 = .ok (.bipush 64, 2) := by decide +kernel
theorem dX2_startAnew_96 : decode cX2_startAnew 96 = .ok (.if_icmp .ge 14, 3) := by decide +kernel
theorem dX2_startAnew_99 : decode cX2_startAnew 99 = .ok (.aload_n 0, 1) := by decide +kernel
theorem dX2_startAnew_100 : decode cX2_startAnew 100 = .ok (.iload_n 3, 1) := by decide +kernel
theorem dX2_startAnew_101 : decode cX2_startAnew 101 = .ok (.invokevirtual 77, 3) := by decide +kernel
theorem dX2_startAnew_104 : decode cX2_startAnew 104 = .ok (.iinc 3 1, 3) := by decide +kernel
theorem dX2_startAnew_107 : decode cX2_startAnew 107 = .ok (.goto (-14), 3) := by decide +kernel
theorem dX2_startAnew_110 : decode cX2_startAnew 110 = .ok (.return_, 1) := by decide +kernel
set_option maxRecDepth 20000 in
theorem ggX2_copyFrom_X2_copyRow : GoodIn wsX2_copyFrom wsX2_copyRow := goodIn_r _ [26, 7, 8, 9, 10] (by decide +kernel) (by decide +kernel)
set_option maxRecDepth 20000 in
theorem gX2_copyFrom_X2_copyRow : GoodIn wsX2_copyFrom (va_wsS RX2 87 yX2_copyRow wsX2_copyRow) := goodIn_app (goodIn_of _ (by decide +kernel)) ggX2_copyFrom_X2_copyRow
theorem dX2_copyFrom_0 : decode cX2_copyFrom 0 = .ok (.aload_n 0, 1) := by decide +kernel
theorem dX2_copyFrom_1 : decode cX2_copyFrom 1 = .ok (.aload_n 1, 1) := by decide +kernel
theorem dX2_copyFrom_2 : decode cX2_copyFrom 2 = .ok (.getfield 55, 3) := by decide +kernel
theorem dX2_copyFrom_5 : decode cX2_copyFrom 5 = .ok (.putfield 55, 3) := by decide +kernel
theorem dX2_copyFrom_8 : decode cX2_copyFrom 8 = .ok (.aload_n 0, 1) := by decide +kernel
theorem dX2_copyFrom_9 : decode cX2_copyFrom 9 = .ok (.aload_n 1, 1) := by decide +kernel
theorem dX2_copyFrom_10 : decode cX2_copyFrom 10 = .ok (.getfield 59, 3) := by decide +kernel
theorem dX2_copyFrom_13 : decode cX2_copyFrom 13 = .ok (.putfield 59, 3) := by decide +kernel
theorem dX2_copyFrom_16 : decode cX2_copyFrom 16 = .ok (.aload_n 0, 1) := by decide +kernel
theorem dX2_copyFrom_17 : decode cX2_copyFrom 17 = .ok (.aload_n 1, 1) := by decide +kernel
theorem dX2_copyFrom_18 : decode cX2_copyFrom 18 = .ok (.getfield 62, 3) := by decide +kernel
theorem dX2_copyFrom_21 : decode cX2_copyFrom 21 = .ok (.putfield 62, 3) := by decide +kernel
theorem dX2_copyFrom_24 : decode cX2_copyFrom 24 = .ok (.aload_n 0, 1) := by decide +kernel
theorem dX2_copyFrom_25 : decode cX2_copyFrom 25 = .ok (.aload_n 1, 1) := by decide +kernel
theorem dX2_copyFrom_26 : decode cX2_copyFrom 26 = .ok (.getfield 65, 3) := by decide +kernel
theorem dX2_copyFrom_29 : decode cX2_copyFrom 29 = .ok (.putfield 65, 3) := by decide +kernel
theorem dX2_copyFrom_32 : decode cX2_copyFrom 32 = .ok (.aload_n 0, 1) := by decide +kernel
theorem dX2_copyFrom_33 : decode cX2_copyFrom 33 = .ok (.aload_n 1, 1) := by decide +kernel
theorem dX2_copyFrom_34 : decode cX2_copyFrom 34 = .ok (.getfield 68, 3) := by decide +kernel
theorem dX2_copyFrom_37 : decode cX2_copyFrom 37 = .ok (.putfield 68, 3) := by decide +kernel
theorem dX2_copyFrom_40 : decode cX2_copyFrom 40 = .ok (.aload_n 1, 1) := by decide +kernel
theorem dX2_copyFrom_41 : decode cX2_copyFrom 41 = .ok (.getfield 9, 3) := by decide +kernel
theorem dX2_copyFrom_44 : decode cX2_copyFrom 44 = .ok (.iconst 0, 1) := by decide +kernel
theorem dX2_copyFrom_45 : decode cX2_copyFrom 45 = .ok (.aload_n 0, 1) := by decide +kernel
theorem dX2_copyFrom_46 : decode cX2_copyFrom 46 = .ok (.getfield 9, 3) := by decide +kernel
theorem dX2_copyFrom_49 : decode cX2_copyFrom 49 = .ok (.iconst 0, 1) := by decide +kernel
theorem dX2_copyFrom_50 : decode cX2_copyFrom 50 = .ok (.bipush 8, 2) := by decide +kernel
theorem dX2_copyFrom_52 : decode cX2_copyFrom 52 = .ok (.invokestatic 81, 3) := by decide +kernel
theorem dX2_copyFrom_55 : decode cX2_copyFrom 55 = .ok (.aload_n 1, 1) := by decide +kernel
theorem dX2_copyFrom_56 : decode cX2_copyFrom 56 = .ok (.getfield 15, 3) := by decide +kernel
theorem dX2_copyFrom_59 : decode cX2_copyFrom 59 = .ok (.aload_n 0, 1) := by decide +kernel
theorem dX2_copyFrom_60 : decode cX2_copyFrom 60 = .ok (.getfield 15, 3) := by decide +kernel
theorem dX2_copyFrom_63 : decode cX2_copyFrom 63 = .ok (.invokestatic 87, 3) := by decide +kernel
theorem dX2_copyFrom_66 : decode cX2_copyFrom 66 = .ok (.aload_n 1, 1) := by decide +kernel
theorem dX2_copyFrom_67 : decode cX2_copyFrom 67 = .ok (.getfield 18, 3) := by decide +kernel
theorem dX2_copyFrom_70 : decode cX2_copyFrom 70 = .ok (.aload_n 0, 1) := by decide +kernel
theorem dX2_copyFrom_71 : decode cX2_copyFrom 71 = .ok (.getfield 18, 3) := by decide +kernel
theorem dX2_copyFrom_74 : decode cX2_copyFrom 74 = .ok (.invokestatic 87, 3) := by decide +kernel
theorem dX2_copyFrom_77 : decode cX2_copyFrom 77 = .ok (.aload_n 1, 1) := by decide +kernel
theorem dX2_copyFrom_78 : decode cX2_copyFrom 78 = .ok (.getfield 21, 3) := by decide +kernel
theorem dX2_copyFrom_81 : decode cX2_copyFrom 81 = .ok (.aload_n 0, 1) := by decide +kernel
theorem dX2_copyFrom_82 : decode cX2_copyFrom 82 = .ok (.getfield 21, 3) := by decide +kernel
theorem dX2_copyFrom_85 : decode cX2_copyFrom 85 = .ok (.invokestatic 87, 3) := by decide +kernel
theorem dX2_copyFrom_88 : decode cX2_copyFrom 88 = .ok (.aload_n 1, 1) := by decide +kernel
theorem dX2_copyFrom_89 : decode cX2_copyFrom 89 = .ok (.getfield 24, 3) := by decide +kernel
theorem dX2_copyFrom_92 : decode cX2_copyFrom 92 = .ok (.aload_n 0, 1) := by decide +kernel
theorem dX2_copyFrom_93 : decode cX2_copyFrom 93 = .ok (.getfield 24, 3) := by decide +kernel
theorem dX2_copyFrom_96 : decode cX2_copyFrom 96 = .ok (.invokestatic 87, 3) := by decide +kernel
theorem dX2_copyFrom_99 : decode cX2_copyFrom 99 = .ok (.aload_n 1, 1) := by decide +kernel
theorem dX2_copyFrom_100 : decode cX2_copyFrom 100 = .ok (.getfield 27, 3) := by decide +kernel
theorem dX2_copyFrom_103 : decode cX2_copyFrom 103 = .ok (.aload_n 0, 1) := by decide +kernel
theorem dX2_copyFrom_104 : decode cX2_copyFrom 104 = .ok (.getfield 27, 3) := by decide +kernel
theorem dX2_copyFrom_107 : decode cX2_copyFrom 107 = .ok (.invokestatic 87, 3) := by decide +kernel
theorem dX2_copyFrom_110 : decode cX2_copyFrom 110 = .ok (.aload_n 1, 1) := by decide +kernel
theorem dX2_copyFrom_111 : decode cX2_copyFrom 111 = .ok (.getfield 30, 3) := by decide +kernel
theorem dX2_copyFrom_114 : decode cX2_copyFrom 114 = .ok (.aload_n 0, 1) := by decide +kernel
theorem dX2_copyFrom_115 : decode cX2_copyFrom 115 = .ok (.getfield 30, 3) := by decide +kernel
theorem dX2_copyFrom_118 : decode cX2_copyFrom 118 = .ok (.invokestatic 87, 3) := by decide +kernel
theorem dX2_copyFrom_121 : decode cX2_copyFrom 121 = .ok (.aload_n 1, 1) := by decide +kernel
theorem dX2_copyFrom_122 : decode cX2_copyFrom 122 = .ok (.getfield 33, 3) := by decide +kernel
theorem dX2_copyFrom_125 : decode cX2_copyFrom 125 = .ok (.aload_n 0, 1) := by decide +kernel
theorem dX2_copyFrom_126 : decode cX2_copyFrom 126 = .ok (.getfield 33, 3) := by decide +kernel
theorem dX2_copyFrom_129 : decode cX2_copyFrom 129 = .ok (.invokestatic 87, 3) := by decide +kernel
theorem dX2_copyFrom_132 : decode cX2_copyFrom 132 = .ok (.aload_n 1, 1) := by decide +kernel
theorem dX2_copyFrom_133 : decode cX2_copyFrom 133 = .ok (.getfield 36, 3) := by decide +kernel
theorem dX2_copyFrom_136 : decode cX2_copyFrom 136 = .ok (.aload_n 0, 1) := by decide +kernel
theorem dX2_copyFrom_137 : decode cX2_copyFrom 137 = .ok (.getfield 36, 3) := by decide +kernel
theorem dX2_copyFrom_140 : decode cX2_copyFrom 140 = .ok (.invokestatic 87, 3) := by decide +kernel
theorem dX2_copyFrom_143 : decode cX2_copyFrom 143 = .ok (.aload_n 1, 1) := by decide +kernel
theorem dX2_copyFrom_144 : decode cX2_copyFrom 144 = .ok (.getfield 39, 3) := by decide +kernel
theorem dX2_copyFrom_147 : decode cX2_copyFrom 147 = .ok (.aload_n 0, 1) := by decide +kernel
theorem dX2_copyFrom_148 : decode cX2_copyFrom 148 = .ok (.getfield 39, 3) := by decide +kernel
theorem dX2_copyFrom_151 : decode cX2_copyFrom 151 = .ok (.invokestatic 87, 3) := by decide +kernel
theorem dX2_copyFrom_154 : decode cX2_copyFrom 154 = .ok (.aload_n 1, 1) := by decide +kernel
theorem dX2_copyFrom_155 : decode cX2_copyFrom 155 = .ok (.getfield 42, 3) := by decide +kernel
theorem dX2_copyFrom_158 : decode cX2_copyFrom 158 = .ok (.aload_n 0, 1) := by decide +kernel
theorem dX2_copyFrom_159 : decode cX2_copyFrom 159 = .ok (.getfield 42, 3) := by decide +kernel
theorem dX2_copyFrom_162 : decode cX2_copyFrom 162 = .ok (.invokestatic 87, 3) := by decide +kernel
theorem dX2_copyFrom_165 : decode cX2_copyFrom 165 = .ok (.aload_n 1, 1) := by decide +kernel
theorem dX2_copyFrom_166 : decode cX2_copyFrom 166 = .ok (.getfield 45, 3) := by decide +kernel
theorem dX2_copyFrom_169 : decode cX2_copyFrom 169 = .ok (.aload_n 0, 1) := by decide +kernel
theorem dX2_copyFrom_170 : decode cX2_copyFrom 170 = .ok (.getfield 45, 3) := by decide +kernel
theorem dX2_copyFrom_173 : decode cX2_copyFrom 173 = .ok (.invokestatic 87, 3) := by decide +kernel
theorem dX2_copyFrom_176 : decode cX2_copyFrom 176 = .ok (.aload_n 1, 1) := by decide +kernel
theorem dX2_copyFrom_177 : decode cX2_copyFrom 177 = .ok (.getfield 48, 3) := by decide +kernel
theorem dX2_copyFrom_180 : decode cX2_copyFrom 180 = .ok (.aload_n 0, 1) := by decide +kernel
theorem dX2_copyFrom_181 : decode cX2_copyFrom 181 = .ok (.getfield 48, 3) := by decide +kernel
theorem dX2_copyFrom_184 : decode cX2_copyFrom 184 = .ok (.invokestatic 87, 3) := by decide +kernel
theorem dX2_copyFrom_187 : decode cX2_copyFrom 187 = .ok (.return_, 1) := by decide +kernel
theorem dX2_copyRow_0 : decode cX2_copyRow 0 = .ok (.aload_n 0, 1) := by decide +kernel
theorem dX2_copyRow_1 : decode cX2_copyRow 1 = .ok (.iconst 0, 1) := by decide +kernel
theorem dX2_copyRow_2 : decode cX2_copyRow 2 = .ok (.aload_n 1, 1) := by decide +kernel
theorem dX2_copyRow_3 : decode cX2_copyRow 3 = .ok (.iconst 0, 1) := by decide +kernel
theorem dX2_copyRow_4 : decode cX2_copyRow 4 = .ok (.bipush 64, 2) := by decide +kernel
theorem dX2_copyRow_6 : decode cX2_copyRow 6 = .ok (.invokestatic 81, 3) := by decide +kernel
theorem dX2_copyRow_9 : decode cX2_copyRow 9 = .ok (.return_, 1) := by decide +kernel
theorem dX2_cells_0 : decode cX2_cells 0 = .ok (.aload_n 0, 1) := by decide +kernel
theorem dX2_cells_1 : decode cX2_cells 1 = .ok (.getfield 55, 3) := by decide +kernel
theorem dX2_cells_4 : decode cX2_cells 4 = .ok (.aload_n 0, 1) := by decide +kernel
theorem dX2_cells_5 : decode cX2_cells 5 = .ok (.getfield 59, 3) := by decide +kernel
theorem dX2_cells_8 : decode cX2_cells 8 = .ok (.imul, 1) := by decide +kernel
theorem dX2_cells_9 : decode cX2_cells 9 = .ok (.ireturn, 1) := by decide +kernel
theorem dX2_hasField_0 : decode cX2_hasField 0 = .ok (.iload_n 1, 1) := by decide +kernel
theorem dX2_hasField_1 : decode cX2_hasField 1 = .ok (.ifCond .lt 27, 3) := by decide +kernel
theorem dX2_hasField_4 : decode cX2_hasField 4 = .ok (.iload_n 1, 1) := by decide +kernel
theorem dX2_hasField_5 : decode cX2_hasField 5 = .ok (.aload_n 0, 1) := by decide +kernel
theorem dX2_hasField_6 : decode cX2_hasField 6 = .ok (.getfield 55, 3) := by decide +kernel
theorem dX2_hasField_9 : decode cX2_hasField 9 = .ok (.if_icmp .ge 19, 3) := by decide +kernel
theorem dX2_hasField_12 : decode cX2_hasField 12 = .ok (.iload_n 2, 1) := by decide +kernel
theorem dX2_hasField_13 : decode cX2_hasField 13 = .ok (.ifCond .lt 15, 3) := by decide +kernel
theorem dX2_hasField_16 : decode cX2_hasField 16 = .ok (.iload_n 2, 1) := by decide +kernel
theorem dX2_hasField_17 : decode cX2_hasField 17 = .ok (.aload_n 0, 1) := by decide +kernel
theorem dX2_hasField_18 : decode cX2_hasField 18 = .ok (.getfield 59, 3) := by decide +kernel
theorem dX2_hasField_21 : decode cX2_hasField 21 = .ok (.if_icmp .ge 7, 3) := by decide +kernel
theorem dX2_hasField_24 : decode cX2_hasField 24 = .ok (.iconst 1, 1) := by decide +kernel
theorem dX2_hasField_25 : decode cX2_hasField 25 = .ok (.goto 4, 3) := by decide +kernel
theorem dX2_hasField_28 : decode cX2_hasField 28 = .ok (.iconst 0, 1) := by decide +kernel
theorem dX2_hasField_29 : decode cX2_hasField 29 = .ok (.ireturn, 1) := by decide +kernel
theorem dX2_cellOf_0 : decode cX2_cellOf 0 = .ok (.iload_n 1, 1) := by decide +kernel
theorem dX2_cellOf_1 : decode cX2_cellOf 1 = .ok (.aload_n 0, 1) := by decide +kernel
theorem dX2_cellOf_2 : decode cX2_cellOf 2 = .ok (.getfield 59, 3) := by decide +kernel
theorem dX2_cellOf_5 : decode cX2_cellOf 5 = .ok (.imul, 1) := by decide +kernel
theorem dX2_cellOf_6 : decode cX2_cellOf 6 = .ok (.iload_n 2, 1) := by decide +kernel
theorem dX2_cellOf_7 : decode cX2_cellOf 7 = .ok (.iadd, 1) := by decide +kernel
theorem dX2_cellOf_8 : decode cX2_cellOf 8 = .ok (.ireturn, 1) := by decide +kernel
theorem dX2_fieldNumber_0 : decode cX2_fieldNumber 0 = .ok (.iload_n 2, 1) := by decide +kernel
theorem dX2_fieldNumber_1 : decode cX2_fieldNumber 1 = .ok (.tableswitch 136 0 10 #[59, 66, 73, 80, 87, 94, 101, 108, 115, 122, 129], 59) := by decide +kernel
theorem dX2_fieldNumber_60 : decode cX2_fieldNumber 60 = .ok (.aload_n 0, 1) := by decide +kernel
theorem dX2_fieldNumber_61 : decode cX2_fieldNumber 61 = .ok (.getfield 15, 3) := by decide +kernel
theorem dX2_fieldNumber_64 : decode cX2_fieldNumber 64 = .ok (.iload_n 1, 1) := by decide +kernel
theorem dX2_fieldNumber_65 : decode cX2_fieldNumber 65 = .ok (.iaload, 1) := by decide +kernel
theorem dX2_fieldNumber_66 : decode cX2_fieldNumber 66 = .ok (.ireturn, 1) := by decide +kernel
theorem dX2_fieldNumber_67 : decode cX2_fieldNumber 67 = .ok (.aload_n 0, 1) := by decide +kernel
theorem dX2_fieldNumber_68 : decode cX2_fieldNumber 68 = .ok (.getfield 18, 3) := by decide +kernel
theorem dX2_fieldNumber_71 : decode cX2_fieldNumber 71 = .ok (.iload_n 1, 1) := by decide +kernel
theorem dX2_fieldNumber_72 : decode cX2_fieldNumber 72 = .ok (.iaload, 1) := by decide +kernel
theorem dX2_fieldNumber_73 : decode cX2_fieldNumber 73 = .ok (.ireturn, 1) := by decide +kernel
theorem dX2_fieldNumber_74 : decode cX2_fieldNumber 74 = .ok (.aload_n 0, 1) := by decide +kernel
theorem dX2_fieldNumber_75 : decode cX2_fieldNumber 75 = .ok (.getfield 21, 3) := by decide +kernel
theorem dX2_fieldNumber_78 : decode cX2_fieldNumber 78 = .ok (.iload_n 1, 1) := by decide +kernel
theorem dX2_fieldNumber_79 : decode cX2_fieldNumber 79 = .ok (.iaload, 1) := by decide +kernel
theorem dX2_fieldNumber_80 : decode cX2_fieldNumber 80 = .ok (.ireturn, 1) := by decide +kernel
theorem dX2_fieldNumber_81 : decode cX2_fieldNumber 81 = .ok (.aload_n 0, 1) := by decide +kernel
theorem dX2_fieldNumber_82 : decode cX2_fieldNumber 82 = .ok (.getfield 24, 3) := by decide +kernel
theorem dX2_fieldNumber_85 : decode cX2_fieldNumber 85 = .ok (.iload_n 1, 1) := by decide +kernel
theorem dX2_fieldNumber_86 : decode cX2_fieldNumber 86 = .ok (.iaload, 1) := by decide +kernel
theorem dX2_fieldNumber_87 : decode cX2_fieldNumber 87 = .ok (.ireturn, 1) := by decide +kernel
theorem dX2_fieldNumber_88 : decode cX2_fieldNumber 88 = .ok (.aload_n 0, 1) := by decide +kernel
theorem dX2_fieldNumber_89 : decode cX2_fieldNumber 89 = .ok (.getfield 27, 3) := by decide +kernel
theorem dX2_fieldNumber_92 : decode cX2_fieldNumber 92 = .ok (.iload_n 1, 1) := by decide +kernel
theorem dX2_fieldNumber_93 : decode cX2_fieldNumber 93 = .ok (.iaload, 1) := by decide +kernel
theorem dX2_fieldNumber_94 : decode cX2_fieldNumber 94 = .ok (.ireturn, 1) := by decide +kernel
theorem dX2_fieldNumber_95 : decode cX2_fieldNumber 95 = .ok (.aload_n 0, 1) := by decide +kernel
theorem dX2_fieldNumber_96 : decode cX2_fieldNumber 96 = .ok (.getfield 30, 3) := by decide +kernel
theorem dX2_fieldNumber_99 : decode cX2_fieldNumber 99 = .ok (.iload_n 1, 1) := by decide +kernel
theorem dX2_fieldNumber_100 : decode cX2_fieldNumber 100 = .ok (.iaload, 1) := by decide +kernel
theorem dX2_fieldNumber_101 : decode cX2_fieldNumber 101 = .ok (.ireturn, 1) := by decide +kernel
theorem dX2_fieldNumber_102 : decode cX2_fieldNumber 102 = .ok (.aload_n 0, 1) := by decide +kernel
theorem dX2_fieldNumber_103 : decode cX2_fieldNumber 103 = .ok (.getfield 33, 3) := by decide +kernel
theorem dX2_fieldNumber_106 : decode cX2_fieldNumber 106 = .ok (.iload_n 1, 1) := by decide +kernel
theorem dX2_fieldNumber_107 : decode cX2_fieldNumber 107 = .ok (.iaload, 1) := by decide +kernel
theorem dX2_fieldNumber_108 : decode cX2_fieldNumber 108 = .ok (.ireturn, 1) := by decide +kernel
theorem dX2_fieldNumber_109 : decode cX2_fieldNumber 109 = .ok (.aload_n 0, 1) := by decide +kernel
theorem dX2_fieldNumber_110 : decode cX2_fieldNumber 110 = .ok (.getfield 36, 3) := by decide +kernel
theorem dX2_fieldNumber_113 : decode cX2_fieldNumber 113 = .ok (.iload_n 1, 1) := by decide +kernel
theorem dX2_fieldNumber_114 : decode cX2_fieldNumber 114 = .ok (.iaload, 1) := by decide +kernel
theorem dX2_fieldNumber_115 : decode cX2_fieldNumber 115 = .ok (.ireturn, 1) := by decide +kernel
theorem dX2_fieldNumber_116 : decode cX2_fieldNumber 116 = .ok (.aload_n 0, 1) := by decide +kernel
theorem dX2_fieldNumber_117 : decode cX2_fieldNumber 117 = .ok (.getfield 39, 3) := by decide +kernel
theorem dX2_fieldNumber_120 : decode cX2_fieldNumber 120 = .ok (.iload_n 1, 1) := by decide +kernel
theorem dX2_fieldNumber_121 : decode cX2_fieldNumber 121 = .ok (.iaload, 1) := by decide +kernel
theorem dX2_fieldNumber_122 : decode cX2_fieldNumber 122 = .ok (.ireturn, 1) := by decide +kernel
theorem dX2_fieldNumber_123 : decode cX2_fieldNumber 123 = .ok (.aload_n 0, 1) := by decide +kernel
theorem dX2_fieldNumber_124 : decode cX2_fieldNumber 124 = .ok (.getfield 42, 3) := by decide +kernel
theorem dX2_fieldNumber_127 : decode cX2_fieldNumber 127 = .ok (.iload_n 1, 1) := by decide +kernel
theorem dX2_fieldNumber_128 : decode cX2_fieldNumber 128 = .ok (.iaload, 1) := by decide +kernel
theorem dX2_fieldNumber_129 : decode cX2_fieldNumber 129 = .ok (.ireturn, 1) := by decide +kernel
theorem dX2_fieldNumber_130 : decode cX2_fieldNumber 130 = .ok (.aload_n 0, 1) := by decide +kernel
theorem dX2_fieldNumber_131 : decode cX2_fieldNumber 131 = .ok (.getfield 45, 3) := by decide +kernel
theorem dX2_fieldNumber_134 : decode cX2_fieldNumber 134 = .ok (.iload_n 1, 1) := by decide +kernel
theorem dX2_fieldNumber_135 : decode cX2_fieldNumber 135 = .ok (.iaload, 1) := by decide +kernel
theorem dX2_fieldNumber_136 : decode cX2_fieldNumber 136 = .ok (.ireturn, 1) := by decide +kernel
theorem dX2_fieldNumber_137 : decode cX2_fieldNumber 137 = .ok (.aload_n 0, 1) := by decide +kernel
theorem dX2_fieldNumber_138 : decode cX2_fieldNumber 138 = .ok (.getfield 48, 3) := by decide +kernel
theorem dX2_fieldNumber_141 : decode cX2_fieldNumber 141 = .ok (.iload_n 1, 1) := by decide +kernel
theorem dX2_fieldNumber_142 : decode cX2_fieldNumber 142 = .ok (.iaload, 1) := by decide +kernel
theorem dX2_fieldNumber_143 : decode cX2_fieldNumber 143 = .ok (.ireturn, 1) := by decide +kernel
set_option maxRecDepth 20000 in
theorem ggX2_crops_X2_sumOf : GoodIn wsX2_crops wsX2_sumOf := goodIn_r _ [6, 7, 8, 9, 5, 10, 11, 12, 13, 14, 15, 16, 17, 18, 19, 20, 21, 22, 23, 24, 25, 26, 27, 28, 29, 30] (by decide +kernel) (by decide +kernel)
set_option maxRecDepth 20000 in
theorem gX2_crops_X2_sumOf : GoodIn wsX2_crops (wsV RX2 91 RX2 yX2_sumOf wsX2_sumOf) := goodIn_app (goodIn_of _ (by decide +kernel)) ggX2_crops_X2_sumOf
theorem dX2_crops_0 : decode cX2_crops 0 = .ok (.aload_n 0, 1) := by decide +kernel
theorem dX2_crops_1 : decode cX2_crops 1 = .ok (.aload_n 0, 1) := by decide +kernel
theorem dX2_crops_2 : decode cX2_crops 2 = .ok (.getfield 30, 3) := by decide +kernel
theorem dX2_crops_5 : decode cX2_crops 5 = .ok (.invokevirtual 91, 3) := by decide +kernel
theorem dX2_crops_8 : decode cX2_crops 8 = .ok (.ireturn, 1) := by decide +kernel
set_option maxRecDepth 20000 in
theorem ggX2_allHardness_X2_sumOf : GoodIn wsX2_allHardness wsX2_sumOf := goodIn_r _ [6, 7, 8, 9, 5, 10, 11, 12, 13, 14, 15, 16, 17, 18, 19, 20, 21, 22, 23, 24, 25, 26, 27, 28, 29, 30] (by decide +kernel) (by decide +kernel)
set_option maxRecDepth 20000 in
theorem gX2_allHardness_X2_sumOf : GoodIn wsX2_allHardness (wsV RX2 91 RX2 yX2_sumOf wsX2_sumOf) := goodIn_app (goodIn_of _ (by decide +kernel)) ggX2_allHardness_X2_sumOf
theorem dX2_allHardness_0 : decode cX2_allHardness 0 = .ok (.aload_n 0, 1) := by decide +kernel
theorem dX2_allHardness_1 : decode cX2_allHardness 1 = .ok (.aload_n 0, 1) := by decide +kernel
theorem dX2_allHardness_2 : decode cX2_allHardness 2 = .ok (.getfield 36, 3) := by decide +kernel
theorem dX2_allHardness_5 : decode cX2_allHardness 5 = .ok (.invokevirtual 91, 3) := by decide +kernel
theorem dX2_allHardness_8 : decode cX2_allHardness 8 = .ok (.ireturn, 1) := by decide +kernel
set_option maxRecDepth 20000 in
theorem ggX2_allDepths_X2_sumOf : GoodIn wsX2_allDepths wsX2_sumOf := goodIn_r _ [6, 7, 8, 9, 5, 10, 11, 12, 13, 14, 15, 16, 17, 18, 19, 20, 21, 22, 23, 24, 25, 26, 27, 28, 29, 30] (by decide +kernel) (by decide +kernel)
set_option maxRecDepth 20000 in
theorem gX2_allDepths_X2_sumOf : GoodIn wsX2_allDepths (wsV RX2 91 RX2 yX2_sumOf wsX2_sumOf) := goodIn_app (goodIn_of _ (by decide +kernel)) ggX2_allDepths_X2_sumOf
theorem dX2_allDepths_0 : decode cX2_allDepths 0 = .ok (.aload_n 0, 1) := by decide +kernel
theorem dX2_allDepths_1 : decode cX2_allDepths 1 = .ok (.aload_n 0, 1) := by decide +kernel
theorem dX2_allDepths_2 : decode cX2_allDepths 2 = .ok (.getfield 15, 3) := by decide +kernel
theorem dX2_allDepths_5 : decode cX2_allDepths 5 = .ok (.invokevirtual 91, 3) := by decide +kernel
theorem dX2_allDepths_8 : decode cX2_allDepths 8 = .ok (.ireturn, 1) := by decide +kernel
set_option maxRecDepth 20000 in
theorem ggX2_sumOf_X2_cells : GoodIn wsX2_sumOf wsX2_cells := goodIn_r _ [5, 6, 7, 8, 9, 10, 11, 12, 13, 14, 15, 16, 17, 18, 19, 20, 21, 22, 23, 24, 25] (by decide +kernel) (by decide +kernel)
set_option maxRecDepth 20000 in
theorem gX2_sumOf_X2_cells : GoodIn wsX2_sumOf (wsV RX2 95 RX2 yX2_cells wsX2_cells) := goodIn_app (goodIn_of _ (by decide +kernel)) ggX2_sumOf_X2_cells
theorem dX2_sumOf_0 : decode cX2_sumOf 0 = .ok (.iconst 0, 1) := by decide +kernel
theorem dX2_sumOf_1 : decode cX2_sumOf 1 = .ok (.istore_n 2, 1) := by decide +kernel
theorem dX2_sumOf_2 : decode cX2_sumOf 2 = .ok (.iconst 0, 1) := by decide +kernel
theorem dX2_sumOf_3 : decode cX2_sumOf 3 = .ok (.istore_n 3, 1) := by decide +kernel
theorem dX2_sumOf_4 : decode cX2_sumOf 4 = .ok (.iload_n 3, 1) := by decide +kernel
theorem dX2_sumOf_5 : decode cX2_sumOf 5 = .ok (.aload_n 0, 1) := by decide +kernel
theorem dX2_sumOf_6 : decode cX2_sumOf 6 = .ok (.invokevirtual 95, 3) := by decide +kernel
theorem dX2_sumOf_9 : decode cX2_sumOf 9 = .ok (.if_icmp .ge 15, 3) := by decide +kernel
theorem dX2_sumOf_12 : decode cX2_sumOf 12 = .ok (.iload_n 2, 1) := by decide +kernel
theorem dX2_sumOf_13 : decode cX2_sumOf 13 = .ok (.aload_n 1, 1) := by decide +kernel
theorem dX2_sumOf_14 : decode cX2_sumOf 14 = .ok (.iload_n 3, 1) := by decide +kernel
theorem dX2_sumOf_15 : decode cX2_sumOf 15 = .ok (.iaload, 1) := by decide +kernel
theorem dX2_sumOf_16 : decode cX2_sumOf 16 = .ok (.iadd, 1) := by decide +kernel
theorem dX2_sumOf_17 : decode cX2_sumOf 17 = .ok (.istore_n 2, 1) := by decide +kernel
theorem dX2_sumOf_18 : decode cX2_sumOf 18 = .ok (.iinc 3 1, 3) := by decide +kernel
theorem dX2_sumOf_21 : decode cX2_sumOf 21 = .ok (.goto (-17), 3) := by decide +kernel
theorem dX2_sumOf_24 : decode cX2_sumOf 24 = .ok (.iload_n 2, 1) := by decide +kernel
theorem dX2_sumOf_25 : decode cX2_sumOf 25 = .ok (.ireturn, 1) := by decide +kernel
theorem dX2_clearCrop_0 : decode cX2_clearCrop 0 = .ok (.aload_n 0, 1) := by decide +kernel
theorem dX2_clearCrop_1 : decode cX2_clearCrop 1 = .ok (.getfield 30, 3) := by decide +kernel
theorem dX2_clearCrop_4 : decode cX2_clearCrop 4 = .ok (.iload_n 1, 1) := by decide +kernel
theorem dX2_clearCrop_5 : decode cX2_clearCrop 5 = .ok (.iconst 0, 1) := by decide +kernel
theorem dX2_clearCrop_6 : decode cX2_clearCrop 6 = .ok (.iastore, 1) := by decide +kernel
theorem dX2_clearCrop_7 : decode cX2_clearCrop 7 = .ok (.aload_n 0, 1) := by decide +kernel
theorem dX2_clearCrop_8 : decode cX2_clearCrop 8 = .ok (.getfield 33, 3) := by decide +kernel
theorem dX2_clearCrop_11 : decode cX2_clearCrop 11 = .ok (.iload_n 1, 1) := by decide +kernel
theorem dX2_clearCrop_12 : decode cX2_clearCrop 12 = .ok (.iconst 0, 1) := by decide +kernel
theorem dX2_clearCrop_13 : decode cX2_clearCrop 13 = .ok (.iastore, 1) := by decide +kernel
theorem dX2_clearCrop_14 : decode cX2_clearCrop 14 = .ok (.aload_n 0, 1) := by decide +kernel
theorem dX2_clearCrop_15 : decode cX2_clearCrop 15 = .ok (.getfield 36, 3) := by decide +kernel
theorem dX2_clearCrop_18 : decode cX2_clearCrop 18 = .ok (.iload_n 1, 1) := by decide +kernel
theorem dX2_clearCrop_19 : decode cX2_clearCrop 19 = .ok (.iconst 0, 1) := by decide +kernel
theorem dX2_clearCrop_20 : decode cX2_clearCrop 20 = .ok (.iastore, 1) := by decide +kernel
theorem dX2_clearCrop_21 : decode cX2_clearCrop 21 = .ok (.aload_n 0, 1) := by decide +kernel
theorem dX2_clearCrop_22 : decode cX2_clearCrop 22 = .ok (.getfield 39, 3) := by decide +kernel
theorem dX2_clearCrop_25 : decode cX2_clearCrop 25 = .ok (.iload_n 1, 1) := by decide +kernel
theorem dX2_clearCrop_26 : decode cX2_clearCrop 26 = .ok (.iconst 0, 1) := by decide +kernel
theorem dX2_clearCrop_27 : decode cX2_clearCrop 27 = .ok (.iastore, 1) := by decide +kernel
theorem dX2_clearCrop_28 : decode cX2_clearCrop 28 = .ok (.aload_n 0, 1) := by decide +kernel
theorem dX2_clearCrop_29 : decode cX2_clearCrop 29 = .ok (.getfield 42, 3) := by decide +kernel
theorem dX2_clearCrop_32 : decode cX2_clearCrop 32 = .ok (.iload_n 1, 1) := by decide +kernel
theorem dX2_clearCrop_33 : decode cX2_clearCrop 33 = .ok (.iconst 0, 1) := by decide +kernel
theorem dX2_clearCrop_34 : decode cX2_clearCrop 34 = .ok (.iastore, 1) := by decide +kernel
theorem dX2_clearCrop_35 : decode cX2_clearCrop 35 = .ok (.return_, 1) := by decide +kernel
set_option maxRecDepth 20000 in
theorem ggX2_letDaysGoBy_X2_takeRain : GoodIn wsX2_letDaysGoBy wsX2_takeRain := goodIn_r _ [9, 10, 11, 12, 13, 8, 14, 15, 16, 85, 86, 87, 88, 89, 90, 91, 92, 93, 94, 95, 96, 97, 98, 99, 100, 101, 102] (by decide +kernel) (by decide +kernel)
set_option maxRecDepth 20000 in
theorem gX2_letDaysGoBy_X2_takeRain : GoodIn wsX2_letDaysGoBy (wsV RX2 104 RX2 yX2_takeRain wsX2_takeRain) := goodIn_app (goodIn_of _ (by decide +kernel)) ggX2_letDaysGoBy_X2_takeRain
set_option maxRecDepth 20000 in
theorem ggX2_letDaysGoBy_X2_takeSpring : GoodIn wsX2_letDaysGoBy wsX2_takeSpring := goodIn_r _ [20, 16, 21, 10, 85, 86, 87, 88, 89, 90, 91, 92, 93, 94, 95, 96, 97, 98, 99, 100, 101, 102] (by decide +kernel) (by decide +kernel)
set_option maxRecDepth 20000 in
theorem gX2_letDaysGoBy_X2_takeSpring : GoodIn wsX2_letDaysGoBy (wsV RX2 110 RX2 yX2_takeSpring wsX2_takeSpring) := goodIn_app (goodIn_of _ (by decide +kernel)) ggX2_letDaysGoBy_X2_takeSpring
set_option maxRecDepth 20000 in
theorem ggX2_letDaysGoBy_X2_letWaterFlow : GoodIn wsX2_letDaysGoBy wsX2_letWaterFlow := goodIn_r _ [25, 15, 16, 26, 27, 28, 8, 29, 10, 30, 31, 32, 33, 34, 35, 36, 37, 38, 39, 40, 41, 42, 43, 44, 45, 46, 47, 48, 49, 50, 51, 52, 53, 54, 85, 86, 87, 88, 89, 90, 91, 92, 93, 94, 95, 96, 97, 98, 99, 100, 101, 102] (by decide +kernel) (by decide +kernel)
set_option maxRecDepth 20000 in
theorem gX2_letDaysGoBy_X2_letWaterFlow : GoodIn wsX2_letDaysGoBy (wsV RX2 113 RX2 yX2_letWaterFlow wsX2_letWaterFlow) := goodIn_app (goodIn_of _ (by decide +kernel)) ggX2_letDaysGoBy_X2_letWaterFlow
set_option maxRecDepth 20000 in
theorem ggX2_letDaysGoBy_X2_loseWater : GoodIn wsX2_letDaysGoBy wsX2_loseWater := goodIn_r _ [58, 10, 59, 31, 32, 33, 34, 35, 36, 37, 50, 11, 12, 13, 8, 14, 15, 16, 85, 86, 87, 88, 89, 90, 91, 92, 93, 94, 95, 96, 97, 98, 99, 100, 101, 102] (by decide +kernel) (by decide +kernel)
set_option maxRecDepth 20000 in
theorem gX2_letDaysGoBy_X2_loseWater : GoodIn wsX2_letDaysGoBy (wsV RX2 119 RX2 yX2_loseWater wsX2_loseWater) := goodIn_app (goodIn_of _ (by decide +kernel)) ggX2_letDaysGoBy_X2_loseWater
set_option maxRecDepth 20000 in
theorem ggX2_letDaysGoBy_X2_growRice : GoodIn wsX2_letDaysGoBy wsX2_growRice := goodIn_r _ [63, 64, 11, 12, 13, 8, 14, 15, 16, 65, 66, 67, 68, 69, 35, 36, 33, 37, 70, 10, 71, 72, 73, 31, 32, 34, 74, 75, 76, 77, 78, 79, 80, 81, 82, 83, 84, 85, 86, 87, 88, 89, 90, 91, 92, 93, 94, 95, 96, 97, 98, 99, 100, 101, 102] (by decide +kernel) (by decide +kernel)
set_option maxRecDepth 20000 in
theorem gX2_letDaysGoBy_X2_growRice : GoodIn wsX2_letDaysGoBy (wsV RX2 122 RX2 yX2_growRice wsX2_growRice) := goodIn_app (goodIn_of _ (by decide +kernel)) ggX2_letDaysGoBy_X2_growRice
theorem dX2_letDaysGoBy_0 : decode cX2_letDaysGoBy 0 = .ok (.iconst 0, 1) := by decide +kernel
theorem dX2_letDaysGoBy_1 : decode cX2_letDaysGoBy 1 = .ok (.istore_n 3, 1) := by decide +kernel
theorem dX2_letDaysGoBy_2 : decode cX2_letDaysGoBy 2 = .ok (.iload_n 3, 1) := by decide +kernel
theorem dX2_letDaysGoBy_3 : decode cX2_letDaysGoBy 3 = .ok (.iload_n 1, 1) := by decide +kernel
theorem dX2_letDaysGoBy_4 : decode cX2_letDaysGoBy 4 = .ok (.if_icmp .ge 69, 3) := by decide +kernel
theorem dX2_letDaysGoBy_7 : decode cX2_letDaysGoBy 7 = .ok (.aload_n 0, 1) := by decide +kernel
theorem dX2_letDaysGoBy_8 : decode cX2_letDaysGoBy 8 = .ok (.getfield 62, 3) := by decide +kernel
theorem dX2_letDaysGoBy_11 : decode cX2_letDaysGoBy 11 = .ok (.bipush 30, 2) := by decide +kernel
theorem dX2_letDaysGoBy_13 : decode cX2_letDaysGoBy 13 = .ok (.irem, 1) := by decide +kernel
theorem dX2_letDaysGoBy_14 : decode cX2_letDaysGoBy 14 = .ok (.istore 4, 2) := by decide +kernel
theorem dX2_letDaysGoBy_16 : decode cX2_letDaysGoBy 16 = .ok (.aload_n 0, 1) := by decide +kernel
theorem dX2_letDaysGoBy_17 : decode cX2_letDaysGoBy 17 = .ok (.dup, 1) := by decide +kernel
theorem dX2_letDaysGoBy_18 : decode cX2_letDaysGoBy 18 = .ok (.getfield 62, 3) := by decide +kernel
theorem dX2_letDaysGoBy_21 : decode cX2_letDaysGoBy 21 = .ok (.iconst 1, 1) := by decide +kernel
theorem dX2_letDaysGoBy_22 : decode cX2_letDaysGoBy 22 = .ok (.iadd, 1) := by decide +kernel
theorem dX2_letDaysGoBy_23 : decode cX2_letDaysGoBy 23 = .ok (.putfield 62, 3) := by decide +kernel
theorem dX2_letDaysGoBy_26 : decode cX2_letDaysGoBy 26 = .ok (.aload_n 0, 1) := by decide +kernel
theorem dX2_letDaysGoBy_27 : decode cX2_letDaysGoBy 27 = .ok (.aload_n 2, 1) := by decide +kernel
theorem dX2_letDaysGoBy_28 : decode cX2_letDaysGoBy 28 = .ok (.getfield 99, 3) := by decide +kernel
theorem dX2_letDaysGoBy_31 : decode cX2_letDaysGoBy 31 = .ok (.iload 4, 2) := by decide +kernel
theorem dX2_letDaysGoBy_33 : decode cX2_letDaysGoBy 33 = .ok (.iaload, 1) := by decide +kernel
theorem dX2_letDaysGoBy_34 : decode cX2_letDaysGoBy 34 = .ok (.invokevirtual 104, 3) := by decide +kernel
theorem dX2_letDaysGoBy_37 : decode cX2_letDaysGoBy 37 = .ok (.aload_n 0, 1) := by decide +kernel
theorem dX2_letDaysGoBy_38 : decode cX2_letDaysGoBy 38 = .ok (.aload_n 2, 1) := by decide +kernel
theorem dX2_letDaysGoBy_39 : decode cX2_letDaysGoBy 39 = .ok (.getfield 107, 3) := by decide +kernel
theorem dX2_letDaysGoBy_42 : decode cX2_letDaysGoBy 42 = .ok (.iload 4, 2) := by decide +kernel
theorem dX2_letDaysGoBy_44 : decode cX2_letDaysGoBy 44 = .ok (.iaload, 1) := by decide +kernel
theorem dX2_letDaysGoBy_45 : decode cX2_letDaysGoBy 45 = .ok (.invokevirtual 110, 3) := by decide +kernel
theorem dX2_letDaysGoBy_48 : decode cX2_letDaysGoBy 48 = .ok (.aload_n 0, 1) := by decide +kernel
theorem dX2_letDaysGoBy_49 : decode cX2_letDaysGoBy 49 = .ok (.invokevirtual 113, 3) := by decide +kernel
theorem dX2_letDaysGoBy_52 : decode cX2_letDaysGoBy 52 = .ok (.aload_n 0, 1) := by decide +kernel
theorem dX2_letDaysGoBy_53 : decode cX2_letDaysGoBy 53 = .ok (.aload_n 2, 1) := by decide +kernel
theorem dX2_letDaysGoBy_54 : decode cX2_letDaysGoBy 54 = .ok (.getfield 116, 3) := by decide +kernel
theorem dX2_letDaysGoBy_57 : decode cX2_letDaysGoBy 57 = .ok (.iload 4, 2) := by decide +kernel
theorem dX2_letDaysGoBy_59 : decode cX2_letDaysGoBy 59 = .ok (.iaload, 1) := by decide +kernel
theorem dX2_letDaysGoBy_60 : decode cX2_letDaysGoBy 60 = .ok (.invokevirtual 119, 3) := by decide +kernel
theorem dX2_letDaysGoBy_63 : decode cX2_letDaysGoBy 63 = .ok (.aload_n 0, 1) := by decide +kernel
theorem dX2_letDaysGoBy_64 : decode cX2_letDaysGoBy 64 = .ok (.invokevirtual 122, 3) := by decide +kernel
theorem dX2_letDaysGoBy_67 : decode cX2_letDaysGoBy 67 = .ok (.iinc 3 1, 3) := by decide +kernel
theorem dX2_letDaysGoBy_70 : decode cX2_letDaysGoBy 70 = .ok (.goto (-68), 3) := by decide +kernel
theorem dX2_letDaysGoBy_73 : decode cX2_letDaysGoBy 73 = .ok (.return_, 1) := by decide +kernel
set_option maxRecDepth 20000 in
theorem ggX2_takeRain_X2_cells : GoodIn wsX2_takeRain wsX2_cells := goodIn_r _ [6, 7, 8, 9, 10, 11, 12, 13, 14, 15, 16, 17, 18, 19, 20, 21, 22, 23, 24, 25, 26] (by decide +kernel) (by decide +kernel)
set_option maxRecDepth 20000 in
theorem gX2_takeRain_X2_cells : GoodIn wsX2_takeRain (wsV RX2 95 RX2 yX2_cells wsX2_cells) := goodIn_app (goodIn_of _ (by decide +kernel)) ggX2_takeRain_X2_cells
theorem dX2_takeRain_0 : decode cX2_takeRain 0 = .ok (.iconst 0, 1) := by decide +kernel
theorem dX2_takeRain_1 : decode cX2_takeRain 1 = .ok (.istore_n 2, 1) := by decide +kernel
theorem dX2_takeRain_2 : decode cX2_takeRain 2 = .ok (.iload_n 2, 1) := by decide +kernel
theorem dX2_takeRain_3 : decode cX2_takeRain 3 = .ok (.aload_n 0, 1) := by decide +kernel
theorem dX2_takeRain_4 : decode cX2_takeRain 4 = .ok (.invokevirtual 95, 3) := by decide +kernel
theorem dX2_takeRain_7 : decode cX2_takeRain 7 = .ok (.if_icmp .ge 19, 3) := by decide +kernel
theorem dX2_takeRain_10 : decode cX2_takeRain 10 = .ok (.aload_n 0, 1) := by decide +kernel
theorem dX2_takeRain_11 : decode cX2_takeRain 11 = .ok (.getfield 15, 3) := by decide +kernel
theorem dX2_takeRain_14 : decode cX2_takeRain 14 = .ok (.iload_n 2, 1) := by decide +kernel
theorem dX2_takeRain_15 : decode cX2_takeRain 15 = .ok (.dup2, 1) := by decide +kernel
theorem dX2_takeRain_16 : decode cX2_takeRain 16 = .ok (.iaload, 1) := by decide +kernel
theorem dX2_takeRain_17 : decode cX2_takeRain 17 = .ok (.iload_n 1, 1) := by decide +kernel
theorem dX2_takeRain_18 : decode cX2_takeRain 18 = .ok (.iadd, 1) := by decide +kernel
theorem dX2_takeRain_19 : decode cX2_takeRain 19 = .ok (.iastore, 1) := by decide +kernel
theorem dX2_takeRain_20 : decode cX2_takeRain 20 = .ok (.iinc 2 1, 3) := by decide +kernel
theorem dX2_takeRain_23 : decode cX2_takeRain 23 = .ok (.goto (-21), 3) := by decide +kernel
theorem dX2_takeRain_26 : decode cX2_takeRain 26 = .ok (.return_, 1) := by decide +kernel
theorem dX2_takeSpring_0 : decode cX2_takeSpring 0 = .ok (.iconst 0, 1) := by decide +kernel
theorem dX2_takeSpring_1 : decode cX2_takeSpring 1 = .ok (.istore_n 2, 1) := by decide +kernel
theorem dX2_takeSpring_2 : decode cX2_takeSpring 2 = .ok (.iconst 0, 1) := by decide +kernel
theorem dX2_takeSpring_3 : decode cX2_takeSpring 3 = .ok (.istore_n 3, 1) := by decide +kernel
theorem dX2_takeSpring_4 : decode cX2_takeSpring 4 = .ok (.iload_n 3, 1) := by decide +kernel
theorem dX2_takeSpring_5 : decode cX2_takeSpring 5 = .ok (.aload_n 0, 1) := by decide +kernel
theorem dX2_takeSpring_6 : decode cX2_takeSpring 6 = .ok (.getfield 59, 3) := by decide +kernel
theorem dX2_takeSpring_9 : decode cX2_takeSpring 9 = .ok (.if_icmp .ge 18, 3) := by decide +kernel
theorem dX2_takeSpring_12 : decode cX2_takeSpring 12 = .ok (.iload_n 2, 1) := by decide +kernel
theorem dX2_takeSpring_13 : decode cX2_takeSpring 13 = .ok (.aload_n 0, 1) := by decide +kernel
theorem dX2_takeSpring_14 : decode cX2_takeSpring 14 = .ok (.getfield 9, 3) := by decide +kernel
theorem dX2_takeSpring_17 : decode cX2_takeSpring 17 = .ok (.iload_n 3, 1) := by decide +kernel
theorem dX2_takeSpring_18 : decode cX2_takeSpring 18 = .ok (.iaload, 1) := by decide +kernel
theorem dX2_takeSpring_19 : decode cX2_takeSpring 19 = .ok (.iadd, 1) := by decide +kernel
theorem dX2_takeSpring_20 : decode cX2_takeSpring 20 = .ok (.istore_n 2, 1) := by decide +kernel
theorem dX2_takeSpring_21 : decode cX2_takeSpring 21 = .ok (.iinc 3 1, 3) := by decide +kernel
theorem dX2_takeSpring_24 : decode cX2_takeSpring 24 = .ok (.goto (-20), 3) := by decide +kernel
theorem dX2_takeSpring_27 : decode cX2_takeSpring 27 = .ok (.iload_n 2, 1) := by decide +kernel
theorem dX2_takeSpring_28 : decode cX2_takeSpring 28 = .ok (.ifCond .ne 4, 3) := by decide +kernel
theorem dX2_takeSpring_31 : decode cX2_takeSpring 31 = .ok (.return_, 1) := by decide +kernel
theorem dX2_takeSpring_32 : decode cX2_takeSpring 32 = .ok (.iconst 0, 1) := by decide +kernel
theorem dX2_takeSpring_33 : decode cX2_takeSpring 33 = .ok (.istore_n 3, 1) := by decide +kernel
theorem dX2_takeSpring_34 : decode cX2_takeSpring 34 = .ok (.iload_n 3, 1) := by decide +kernel
theorem dX2_takeSpring_35 : decode cX2_takeSpring 35 = .ok (.aload_n 0, 1) := by decide +kernel
theorem dX2_takeSpring_36 : decode cX2_takeSpring 36 = .ok (.getfield 59, 3) := by decide +kernel
theorem dX2_takeSpring_39 : decode cX2_takeSpring 39 = .ok (.if_icmp .ge 28, 3) := by decide +kernel
theorem dX2_takeSpring_42 : decode cX2_takeSpring 42 = .ok (.aload_n 0, 1) := by decide +kernel
theorem dX2_takeSpring_43 : decode cX2_takeSpring 43 = .ok (.getfield 15, 3) := by decide +kernel
theorem dX2_takeSpring_46 : decode cX2_takeSpring 46 = .ok (.iload_n 3, 1) := by decide +kernel
theorem dX2_takeSpring_47 : decode cX2_takeSpring 47 = .ok (.dup2, 1) := by decide +kernel
theorem dX2_takeSpring_48 : decode cX2_takeSpring 48 = .ok (.iaload, 1) := by decide +kernel
theorem dX2_takeSpring_49 : decode cX2_takeSpring 49 = .ok (.iload_n 1, 1) := by decide +kernel
theorem dX2_takeSpring_50 : decode cX2_takeSpring 50 = .ok (.aload_n 0, 1) := by decide +kernel
theorem dX2_takeSpring_51 : decode cX2_takeSpring 51 = .ok (.getfield 9, 3) := by decide +kernel
theorem dX2_takeSpring_54 : decode cX2_takeSpring 54 = .ok (.iload_n 3, 1) := by decide +kernel
theorem dX2_takeSpring_55 : decode cX2_takeSpring 55 = .ok (.iaload, 1) := by decide +kernel
theorem dX2_takeSpring_56 : decode cX2_takeSpring 56 = .ok (.imul, 1) := by decide +kernel
theorem dX2_takeSpring_57 : decode cX2_takeSpring 57 = .ok (.iload_n 2, 1) := by decide +kernel
theorem dX2_takeSpring_58 : decode cX2_takeSpring 58 = .ok (.idiv, 1) := by decide +kernel
theorem dX2_takeSpring_59 : decode cX2_takeSpring 59 = .ok (.iadd, 1) := by decide +kernel
theorem dX2_takeSpring_60 : decode cX2_takeSpring 60 = .ok (.iastore, 1) := by decide +kernel
theorem dX2_takeSpring_61 : decode cX2_takeSpring 61 = .ok (.iinc 3 1, 3) := by decide +kernel
theorem dX2_takeSpring_64 : decode cX2_takeSpring 64 = .ok (.goto (-30), 3) := by decide +kernel
theorem dX2_takeSpring_67 : decode cX2_takeSpring 67 = .ok (.return_, 1) := by decide +kernel
set_option maxRecDepth 20000 in
theorem ggX2_letWaterFlow_X2_letFieldFlow : GoodIn wsX2_letWaterFlow wsX2_letFieldFlow := goodIn_r _ [7, 8, 9, 10, 11, 12, 13, 14, 15, 16, 17, 18, 19, 20, 21, 22, 23, 6, 24, 2, 25, 26, 27, 28, 29, 30, 31, 32, 33, 1, 34, 35, 36, 37, 38, 39, 40, 41, 42, 43, 44, 45, 46, 47, 48, 49, 50, 51] (by decide +kernel) (by decide +kernel)
set_option maxRecDepth 20000 in
theorem gX2_letWaterFlow_X2_letFieldFlow : GoodIn wsX2_letWaterFlow (wsV RX2 125 RX2 yX2_letFieldFlow wsX2_letFieldFlow) := goodIn_app (goodIn_of _ (by decide +kernel)) ggX2_letWaterFlow_X2_letFieldFlow
theorem dX2_letWaterFlow_0 : decode cX2_letWaterFlow 0 = .ok (.iconst 0, 1) := by decide +kernel
theorem dX2_letWaterFlow_1 : decode cX2_letWaterFlow 1 = .ok (.istore_n 1, 1) := by decide +kernel
theorem dX2_letWaterFlow_2 : decode cX2_letWaterFlow 2 = .ok (.iload_n 1, 1) := by decide +kernel
theorem dX2_letWaterFlow_3 : decode cX2_letWaterFlow 3 = .ok (.aload_n 0, 1) := by decide +kernel
theorem dX2_letWaterFlow_4 : decode cX2_letWaterFlow 4 = .ok (.getfield 55, 3) := by decide +kernel
end
section
theorem dX2_letWaterFlow_7 : decode cX2_letWaterFlow 7 = .ok (.if_icmp .ge 31, 3) := by decide +kernel
theorem dX2_letWaterFlow_10 : decode cX2_letWaterFlow 10 = .ok (.iconst 0, 1) := by decide +kernel
theorem dX2_letWaterFlow_11 : decode cX2_letWaterFlow 11 = .ok (.istore_n 2, 1) := by decide +kernel
theorem dX2_letWaterFlow_12 : decode cX2_letWaterFlow 12 = .ok (.iload_n 2, 1) := by decide +kernel
theorem dX2_letWaterFlow_13 : decode cX2_letWaterFlow 13 = .ok (.aload_n 0, 1) := by decide +kernel
theorem dX2_letWaterFlow_14 : decode cX2_letWaterFlow 14 = .ok (.getfield 59, 3) := by decide +kernel
theorem dX2_letWaterFlow_17 : decode cX2_letWaterFlow 17 = .ok (.if_icmp .ge 15, 3) := by decide +kernel
theorem dX2_letWaterFlow_20 : decode cX2_letWaterFlow 20 = .ok (.aload_n 0, 1) := by decide +kernel
theorem dX2_letWaterFlow_21 : decode cX2_letWaterFlow 21 = .ok (.iload_n 1, 1) := by decide +kernel
theorem dX2_letWaterFlow_22 : decode cX2_letWaterFlow 22 = .ok (.iload_n 2, 1) := by decide +kernel
theorem dX2_letWaterFlow_23 : decode cX2_letWaterFlow 23 = .ok (.invokevirtual 125, 3) := by decide +kernel
theorem dX2_letWaterFlow_26 : decode cX2_letWaterFlow 26 = .ok (.iinc 2 1, 3) := by decide +kernel
theorem dX2_letWaterFlow_29 : decode cX2_letWaterFlow 29 = .ok (.goto (-17), 3) := by decide +kernel
theorem dX2_letWaterFlow_32 : decode cX2_letWaterFlow 32 = .ok (.iinc 1 1, 3) := by decide +kernel
theorem dX2_letWaterFlow_35 : decode cX2_letWaterFlow 35 = .ok (.goto (-33), 3) := by decide +kernel
theorem dX2_letWaterFlow_38 : decode cX2_letWaterFlow 38 = .ok (.return_, 1) := by decide +kernel
set_option maxRecDepth 20000 in
theorem ggX2_letFieldFlow_X2_cellOf : GoodIn wsX2_letFieldFlow wsX2_cellOf := goodIn_r _ [18, 19, 30, 31, 32, 33, 34, 35, 36, 37, 38, 39, 40, 41, 42, 43, 44, 45, 46, 47] (by decide +kernel) (by decide +kernel)
set_option maxRecDepth 20000 in
theorem gX2_letFieldFlow_X2_cellOf : GoodIn wsX2_letFieldFlow (wsV RX2 128 RX2 yX2_cellOf wsX2_cellOf) := goodIn_app (goodIn_of _ (by decide +kernel)) ggX2_letFieldFlow_X2_cellOf
set_option maxRecDepth 20000 in
theorem ggX2_letFieldFlow_X2_bringWater : GoodIn wsX2_letFieldFlow wsX2_bringWater := goodIn_r _ [23, 1, 24, 25, 26, 27, 17, 28, 29, 19, 14, 15, 16, 18, 30, 31, 32, 33, 34, 35, 36, 37, 38, 39, 40, 41, 42, 43, 44, 45, 46, 47] (by decide +kernel) (by decide +kernel)
set_option maxRecDepth 20000 in
theorem gX2_letFieldFlow_X2_bringWater : GoodIn wsX2_letFieldFlow (wsV RX2 140 RX2 yX2_bringWater wsX2_bringWater) := goodIn_app (goodIn_of _ (by decide +kernel)) ggX2_letFieldFlow_X2_bringWater
theorem dX2_letFieldFlow_0 : decode cX2_letFieldFlow 0 = .ok (.aload_n 0, 1) := by decide +kernel
theorem dX2_letFieldFlow_1 : decode cX2_letFieldFlow 1 = .ok (.iload_n 1, 1) := by decide +kernel
theorem dX2_letFieldFlow_2 : decode cX2_letFieldFlow 2 = .ok (.iload_n 2, 1) := by decide +kernel
theorem dX2_letFieldFlow_3 : decode cX2_letFieldFlow 3 = .ok (.invokevirtual 128, 3) := by decide +kernel
theorem dX2_letFieldFlow_6 : decode cX2_letFieldFlow 6 = .ok (.istore_n 3, 1) := by decide +kernel
theorem dX2_letFieldFlow_7 : decode cX2_letFieldFlow 7 = .ok (.aload_n 0, 1) := by decide +kernel
theorem dX2_letFieldFlow_8 : decode cX2_letFieldFlow 8 = .ok (.getfield 15, 3) := by decide +kernel
theorem dX2_letFieldFlow_11 : decode cX2_letFieldFlow 11 = .ok (.iload_n 3, 1) := by decide +kernel
theorem dX2_letFieldFlow_12 : decode cX2_letFieldFlow 12 = .ok (.iaload, 1) := by decide +kernel
theorem dX2_letFieldFlow_13 : decode cX2_letFieldFlow 13 = .ok (.aload_n 0, 1) := by decide +kernel
theorem dX2_letFieldFlow_14 : decode cX2_letFieldFlow 14 = .ok (.getfield 24, 3) := by decide +kernel
theorem dX2_letFieldFlow_17 : decode cX2_letFieldFlow 17 = .ok (.iload_n 3, 1) := by decide +kernel
theorem dX2_letFieldFlow_18 : decode cX2_letFieldFlow 18 = .ok (.iaload, 1) := by decide +kernel
theorem dX2_letFieldFlow_19 : decode cX2_letFieldFlow 19 = .ok (.isub, 1) := by decide +kernel
theorem dX2_letFieldFlow_20 : decode cX2_letFieldFlow 20 = .ok (.iconst 0, 1) := by decide +kernel
theorem dX2_letFieldFlow_21 : decode cX2_letFieldFlow 21 = .ok (.invokestatic 132, 3) := by decide +kernel
theorem dX2_letFieldFlow_24 : decode cX2_letFieldFlow 24 = .ok (.bipush 40, 2) := by decide +kernel
theorem dX2_letFieldFlow_26 : decode cX2_letFieldFlow 26 = .ok (.invokestatic 137, 3) := by decide +kernel
theorem dX2_letFieldFlow_29 : decode cX2_letFieldFlow 29 = .ok (.istore 4, 2) := by decide +kernel
theorem dX2_letFieldFlow_31 : decode cX2_letFieldFlow 31 = .ok (.aload_n 0, 1) := by decide +kernel
theorem dX2_letFieldFlow_32 : decode cX2_letFieldFlow 32 = .ok (.getfield 45, 3) := by decide +kernel
theorem dX2_letFieldFlow_35 : decode cX2_letFieldFlow 35 = .ok (.iload_n 3, 1) := by decide +kernel
theorem dX2_letFieldFlow_36 : decode cX2_letFieldFlow 36 = .ok (.iload 4, 2) := by decide +kernel
theorem dX2_letFieldFlow_38 : decode cX2_letFieldFlow 38 = .ok (.iastore, 1) := by decide +kernel
theorem dX2_letFieldFlow_39 : decode cX2_letFieldFlow 39 = .ok (.aload_n 0, 1) := by decide +kernel
theorem dX2_letFieldFlow_40 : decode cX2_letFieldFlow 40 = .ok (.getfield 15, 3) := by decide +kernel
theorem dX2_letFieldFlow_43 : decode cX2_letFieldFlow 43 = .ok (.iload_n 3, 1) := by decide +kernel
theorem dX2_letFieldFlow_44 : decode cX2_letFieldFlow 44 = .ok (.dup2, 1) := by decide +kernel
theorem dX2_letFieldFlow_45 : decode cX2_letFieldFlow 45 = .ok (.iaload, 1) := by decide +kernel
theorem dX2_letFieldFlow_46 : decode cX2_letFieldFlow 46 = .ok (.iload 4, 2) := by decide +kernel
theorem dX2_letFieldFlow_48 : decode cX2_letFieldFlow 48 = .ok (.isub, 1) := by decide +kernel
theorem dX2_letFieldFlow_49 : decode cX2_letFieldFlow 49 = .ok (.iastore, 1) := by decide +kernel
theorem dX2_letFieldFlow_50 : decode cX2_letFieldFlow 50 = .ok (.aload_n 0, 1) := by decide +kernel
theorem dX2_letFieldFlow_51 : decode cX2_letFieldFlow 51 = .ok (.iload_n 1, 1) := by decide +kernel
theorem dX2_letFieldFlow_52 : decode cX2_letFieldFlow 52 = .ok (.iconst 1, 1) := by decide +kernel
theorem dX2_letFieldFlow_53 : decode cX2_letFieldFlow 53 = .ok (.iadd, 1) := by decide +kernel
theorem dX2_letFieldFlow_54 : decode cX2_letFieldFlow 54 = .ok (.iload_n 2, 1) := by decide +kernel
theorem dX2_letFieldFlow_55 : decode cX2_letFieldFlow 55 = .ok (.aload_n 0, 1) := by decide +kernel
theorem dX2_letFieldFlow_56 : decode cX2_letFieldFlow 56 = .ok (.getfield 27, 3) := by decide +kernel
theorem dX2_letFieldFlow_59 : decode cX2_letFieldFlow 59 = .ok (.iload_n 3, 1) := by decide +kernel
theorem dX2_letFieldFlow_60 : decode cX2_letFieldFlow 60 = .ok (.iaload, 1) := by decide +kernel
theorem dX2_letFieldFlow_61 : decode cX2_letFieldFlow 61 = .ok (.iadd, 1) := by decide +kernel
theorem dX2_letFieldFlow_62 : decode cX2_letFieldFlow 62 = .ok (.iload 4, 2) := by decide +kernel
theorem dX2_letFieldFlow_64 : decode cX2_letFieldFlow 64 = .ok (.invokevirtual 140, 3) := by decide +kernel
theorem dX2_letFieldFlow_67 : decode cX2_letFieldFlow 67 = .ok (.aload_n 0, 1) := by decide +kernel
theorem dX2_letFieldFlow_68 : decode cX2_letFieldFlow 68 = .ok (.getfield 15, 3) := by decide +kernel
theorem dX2_letFieldFlow_71 : decode cX2_letFieldFlow 71 = .ok (.iload_n 3, 1) := by decide +kernel
theorem dX2_letFieldFlow_72 : decode cX2_letFieldFlow 72 = .ok (.iaload, 1) := by decide +kernel
theorem dX2_letFieldFlow_73 : decode cX2_letFieldFlow 73 = .ok (.aload_n 0, 1) := by decide +kernel
theorem dX2_letFieldFlow_74 : decode cX2_letFieldFlow 74 = .ok (.getfield 18, 3) := by decide +kernel
theorem dX2_letFieldFlow_77 : decode cX2_letFieldFlow 77 = .ok (.iload_n 3, 1) := by decide +kernel
theorem dX2_letFieldFlow_78 : decode cX2_letFieldFlow 78 = .ok (.iaload, 1) := by decide +kernel
theorem dX2_letFieldFlow_79 : decode cX2_letFieldFlow 79 = .ok (.isub, 1) := by decide +kernel
theorem dX2_letFieldFlow_80 : decode cX2_letFieldFlow 80 = .ok (.iconst 0, 1) := by decide +kernel
theorem dX2_letFieldFlow_81 : decode cX2_letFieldFlow 81 = .ok (.invokestatic 132, 3) := by decide +kernel
theorem dX2_letFieldFlow_84 : decode cX2_letFieldFlow 84 = .ok (.istore 5, 2) := by decide +kernel
theorem dX2_letFieldFlow_86 : decode cX2_letFieldFlow 86 = .ok (.aload_n 0, 1) := by decide +kernel
theorem dX2_letFieldFlow_87 : decode cX2_letFieldFlow 87 = .ok (.getfield 48, 3) := by decide +kernel
theorem dX2_letFieldFlow_90 : decode cX2_letFieldFlow 90 = .ok (.iload_n 3, 1) := by decide +kernel
theorem dX2_letFieldFlow_91 : decode cX2_letFieldFlow 91 = .ok (.iload 5, 2) := by decide +kernel
theorem dX2_letFieldFlow_93 : decode cX2_letFieldFlow 93 = .ok (.iastore, 1) := by decide +kernel
theorem dX2_letFieldFlow_94 : decode cX2_letFieldFlow 94 = .ok (.aload_n 0, 1) := by decide +kernel
theorem dX2_letFieldFlow_95 : decode cX2_letFieldFlow 95 = .ok (.getfield 15, 3) := by decide +kernel
theorem dX2_letFieldFlow_98 : decode cX2_letFieldFlow 98 = .ok (.iload_n 3, 1) := by decide +kernel
theorem dX2_letFieldFlow_99 : decode cX2_letFieldFlow 99 = .ok (.dup2, 1) := by decide +kernel
theorem dX2_letFieldFlow_100 : decode cX2_letFieldFlow 100 = .ok (.iaload, 1) := by decide +kernel
theorem dX2_letFieldFlow_101 : decode cX2_letFieldFlow 101 = .ok (.iload 5, 2) := by decide +kernel
theorem dX2_letFieldFlow_103 : decode cX2_letFieldFlow 103 = .ok (.isub, 1) := by decide +kernel
theorem dX2_letFieldFlow_104 : decode cX2_letFieldFlow 104 = .ok (.iastore, 1) := by decide +kernel
theorem dX2_letFieldFlow_105 : decode cX2_letFieldFlow 105 = .ok (.aload_n 0, 1) := by decide +kernel
theorem dX2_letFieldFlow_106 : decode cX2_letFieldFlow 106 = .ok (.iload_n 1, 1) := by decide +kernel
theorem dX2_letFieldFlow_107 : decode cX2_letFieldFlow 107 = .ok (.iload_n 2, 1) := by decide +kernel
theorem dX2_letFieldFlow_108 : decode cX2_letFieldFlow 108 = .ok (.iconst 1, 1) := by decide +kernel
theorem dX2_letFieldFlow_109 : decode cX2_letFieldFlow 109 = .ok (.isub, 1) := by decide +kernel
theorem dX2_letFieldFlow_110 : decode cX2_letFieldFlow 110 = .ok (.iload 5, 2) := by decide +kernel
theorem dX2_letFieldFlow_112 : decode cX2_letFieldFlow 112 = .ok (.iconst 2, 1) := by decide +kernel
theorem dX2_letFieldFlow_113 : decode cX2_letFieldFlow 113 = .ok (.idiv, 1) := by decide +kernel
theorem dX2_letFieldFlow_114 : decode cX2_letFieldFlow 114 = .ok (.invokevirtual 140, 3) := by decide +kernel
theorem dX2_letFieldFlow_117 : decode cX2_letFieldFlow 117 = .ok (.aload_n 0, 1) := by decide +kernel
theorem dX2_letFieldFlow_118 : decode cX2_letFieldFlow 118 = .ok (.iload_n 1, 1) := by decide +kernel
theorem dX2_letFieldFlow_119 : decode cX2_letFieldFlow 119 = .ok (.iload_n 2, 1) := by decide +kernel
theorem dX2_letFieldFlow_120 : decode cX2_letFieldFlow 120 = .ok (.iconst 1, 1) := by decide +kernel
theorem dX2_letFieldFlow_121 : decode cX2_letFieldFlow 121 = .ok (.iadd, 1) := by decide +kernel
theorem dX2_letFieldFlow_122 : decode cX2_letFieldFlow 122 = .ok (.iload 5, 2) := by decide +kernel
theorem dX2_letFieldFlow_124 : decode cX2_letFieldFlow 124 = .ok (.iload 5, 2) := by decide +kernel
theorem dX2_letFieldFlow_126 : decode cX2_letFieldFlow 126 = .ok (.iconst 2, 1) := by decide +kernel
theorem dX2_letFieldFlow_127 : decode cX2_letFieldFlow 127 = .ok (.idiv, 1) := by decide +kernel
theorem dX2_letFieldFlow_128 : decode cX2_letFieldFlow 128 = .ok (.isub, 1) := by decide +kernel
theorem dX2_letFieldFlow_129 : decode cX2_letFieldFlow 129 = .ok (.invokevirtual 140, 3) := by decide +kernel
theorem dX2_letFieldFlow_132 : decode cX2_letFieldFlow 132 = .ok (.return_, 1) := by decide +kernel
set_option maxRecDepth 20000 in
theorem ggX2_bringWater_X2_hasField : GoodIn wsX2_bringWater wsX2_hasField := goodIn_r _ [7, 8, 9, 14, 15, 16, 17, 18, 19, 20, 21, 22, 23, 24, 25, 26, 27, 28, 29, 30, 31] (by decide +kernel) (by decide +kernel)
set_option maxRecDepth 20000 in
theorem gX2_bringWater_X2_hasField : GoodIn wsX2_bringWater (wsV RX2 144 RX2 yX2_hasField wsX2_hasField) := goodIn_app (goodIn_of _ (by decide +kernel)) ggX2_bringWater_X2_hasField
set_option maxRecDepth 20000 in
theorem ggX2_bringWater_X2_cellOf : GoodIn wsX2_bringWater wsX2_cellOf := goodIn_r _ [13, 9, 14, 15, 16, 17, 18, 19, 20, 21, 22, 23, 24, 25, 26, 27, 28, 29, 30, 31] (by decide +kernel) (by decide +kernel)
set_option maxRecDepth 20000 in
theorem gX2_bringWater_X2_cellOf : GoodIn wsX2_bringWater (wsV RX2 128 RX2 yX2_cellOf wsX2_cellOf) := goodIn_app (goodIn_of _ (by decide +kernel)) ggX2_bringWater_X2_cellOf
theorem dX2_bringWater_0 : decode cX2_bringWater 0 = .ok (.aload_n 0, 1) := by decide +kernel
theorem dX2_bringWater_1 : decode cX2_bringWater 1 = .ok (.iload_n 1, 1) := by decide +kernel
theorem dX2_bringWater_2 : decode cX2_bringWater 2 = .ok (.iload_n 2, 1) := by decide +kernel
theorem dX2_bringWater_3 : decode cX2_bringWater 3 = .ok (.invokevirtual 144, 3) := by decide +kernel
theorem dX2_bringWater_6 : decode cX2_bringWater 6 = .ok (.ifCond .eq 21, 3) := by decide +kernel
theorem dX2_bringWater_9 : decode cX2_bringWater 9 = .ok (.aload_n 0, 1) := by decide +kernel
theorem dX2_bringWater_10 : decode cX2_bringWater 10 = .ok (.getfield 15, 3) := by decide +kernel
theorem dX2_bringWater_13 : decode cX2_bringWater 13 = .ok (.aload_n 0, 1) := by decide +kernel
theorem dX2_bringWater_14 : decode cX2_bringWater 14 = .ok (.iload_n 1, 1) := by decide +kernel
theorem dX2_bringWater_15 : decode cX2_bringWater 15 = .ok (.iload_n 2, 1) := by decide +kernel
theorem dX2_bringWater_16 : decode cX2_bringWater 16 = .ok (.invokevirtual 128, 3) := by decide +kernel
theorem dX2_bringWater_19 : decode cX2_bringWater 19 = .ok (.dup2, 1) := by decide +kernel
theorem dX2_bringWater_20 : decode cX2_bringWater 20 = .ok (.iaload, 1) := by decide +kernel
theorem dX2_bringWater_21 : decode cX2_bringWater 21 = .ok (.iload_n 3, 1) := by decide +kernel
theorem dX2_bringWater_22 : decode cX2_bringWater 22 = .ok (.iadd, 1) := by decide +kernel
theorem dX2_bringWater_23 : decode cX2_bringWater 23 = .ok (.iastore, 1) := by decide +kernel
theorem dX2_bringWater_24 : decode cX2_bringWater 24 = .ok (.goto 13, 3) := by decide +kernel
theorem dX2_bringWater_27 : decode cX2_bringWater 27 = .ok (.aload_n 0, 1) := by decide +kernel
theorem dX2_bringWater_28 : decode cX2_bringWater 28 = .ok (.dup, 1) := by decide +kernel
theorem dX2_bringWater_29 : decode cX2_bringWater 29 = .ok (.getfield 65, 3) := by decide +kernel
theorem dX2_bringWater_32 : decode cX2_bringWater 32 = .ok (.iload_n 3, 1) := by decide +kernel
theorem dX2_bringWater_33 : decode cX2_bringWater 33 = .ok (.iadd, 1) := by decide +kernel
theorem dX2_bringWater_34 : decode cX2_bringWater 34 = .ok (.putfield 65, 3) := by decide +kernel
theorem dX2_bringWater_37 : decode cX2_bringWater 37 = .ok (.return_, 1) := by decide +kernel
set_option maxRecDepth 20000 in
theorem ggX2_loseWater_X2_cells : GoodIn wsX2_loseWater wsX2_cells := goodIn_r _ [15, 16, 17, 18, 19, 20, 21, 22, 23, 24, 25, 26, 27, 28, 29, 30, 31, 32, 33, 34, 35] (by decide +kernel) (by decide +kernel)
set_option maxRecDepth 20000 in
theorem gX2_loseWater_X2_cells : GoodIn wsX2_loseWater (wsV RX2 95 RX2 yX2_cells wsX2_cells) := goodIn_app (goodIn_of _ (by decide +kernel)) ggX2_loseWater_X2_cells
theorem dX2_loseWater_0 : decode cX2_loseWater 0 = .ok (.iconst 0, 1) := by decide +kernel
theorem dX2_loseWater_1 : decode cX2_loseWater 1 = .ok (.istore_n 2, 1) := by decide +kernel
theorem dX2_loseWater_2 : decode cX2_loseWater 2 = .ok (.iload_n 2, 1) := by decide +kernel
theorem dX2_loseWater_3 : decode cX2_loseWater 3 = .ok (.aload_n 0, 1) := by decide +kernel
theorem dX2_loseWater_4 : decode cX2_loseWater 4 = .ok (.invokevirtual 95, 3) := by decide +kernel
theorem dX2_loseWater_7 : decode cX2_loseWater 7 = .ok (.if_icmp .ge 59, 3) := by decide +kernel
theorem dX2_loseWater_10 : decode cX2_loseWater 10 = .ok (.aload_n 0, 1) := by decide +kernel
theorem dX2_loseWater_11 : decode cX2_loseWater 11 = .ok (.getfield 15, 3) := by decide +kernel
theorem dX2_loseWater_14 : decode cX2_loseWater 14 = .ok (.iload_n 2, 1) := by decide +kernel
theorem dX2_loseWater_15 : decode cX2_loseWater 15 = .ok (.iaload, 1) := by decide +kernel
theorem dX2_loseWater_16 : decode cX2_loseWater 16 = .ok (.aload_n 0, 1) := by decide +kernel
theorem dX2_loseWater_17 : decode cX2_loseWater 17 = .ok (.getfield 21, 3) := by decide +kernel
theorem dX2_loseWater_20 : decode cX2_loseWater 20 = .ok (.iload_n 2, 1) := by decide +kernel
theorem dX2_loseWater_21 : decode cX2_loseWater 21 = .ok (.iaload, 1) := by decide +kernel
theorem dX2_loseWater_22 : decode cX2_loseWater 22 = .ok (.isub, 1) := by decide +kernel
theorem dX2_loseWater_23 : decode cX2_loseWater 23 = .ok (.iload_n 1, 1) := by decide +kernel
theorem dX2_loseWater_24 : decode cX2_loseWater 24 = .ok (.isub, 1) := by decide +kernel
theorem dX2_loseWater_25 : decode cX2_loseWater 25 = .ok (.iconst 0, 1) := by decide +kernel
theorem dX2_loseWater_26 : decode cX2_loseWater 26 = .ok (.invokestatic 132, 3) := by decide +kernel
theorem dX2_loseWater_29 : decode cX2_loseWater 29 = .ok (.istore_n 3, 1) := by decide +kernel
theorem dX2_loseWater_30 : decode cX2_loseWater 30 = .ok (.aload_n 0, 1) := by decide +kernel
theorem dX2_loseWater_31 : decode cX2_loseWater 31 = .ok (.getfield 15, 3) := by decide +kernel
theorem dX2_loseWater_34 : decode cX2_loseWater 34 = .ok (.iload_n 2, 1) := by decide +kernel
theorem dX2_loseWater_35 : decode cX2_loseWater 35 = .ok (.iload_n 3, 1) := by decide +kernel
theorem dX2_loseWater_36 : decode cX2_loseWater 36 = .ok (.sipush 200, 3) := by decide +kernel
theorem dX2_loseWater_39 : decode cX2_loseWater 39 = .ok (.invokestatic 137, 3) := by decide +kernel
theorem dX2_loseWater_42 : decode cX2_loseWater 42 = .ok (.iastore, 1) := by decide +kernel
theorem dX2_loseWater_43 : decode cX2_loseWater 43 = .ok (.aload_n 0, 1) := by decide +kernel
theorem dX2_loseWater_44 : decode cX2_loseWater 44 = .ok (.dup, 1) := by decide +kernel
theorem dX2_loseWater_45 : decode cX2_loseWater 45 = .ok (.getfield 65, 3) := by decide +kernel
theorem dX2_loseWater_48 : decode cX2_loseWater 48 = .ok (.iload_n 3, 1) := by decide +kernel
theorem dX2_loseWater_49 : decode cX2_loseWater 49 = .ok (.aload_n 0, 1) := by decide +kernel
theorem dX2_loseWater_50 : decode cX2_loseWater 50 = .ok (.getfield 15, 3) := by decide +kernel
theorem dX2_loseWater_53 : decode cX2_loseWater 53 = .ok (.iload_n 2, 1) := by decide +kernel
theorem dX2_loseWater_54 : decode cX2_loseWater 54 = .ok (.iaload, 1) := by decide +kernel
theorem dX2_loseWater_55 : decode cX2_loseWater 55 = .ok (.isub, 1) := by decide +kernel
theorem dX2_loseWater_56 : decode cX2_loseWater 56 = .ok (.iadd, 1) := by decide +kernel
theorem dX2_loseWater_57 : decode cX2_loseWater 57 = .ok (.putfield 65, 3) := by decide +kernel
theorem dX2_loseWater_60 : decode cX2_loseWater 60 = .ok (.iinc 2 1, 3) := by decide +kernel
theorem dX2_loseWater_63 : decode cX2_loseWater 63 = .ok (.goto (-61), 3) := by decide +kernel
theorem dX2_loseWater_66 : decode cX2_loseWater 66 = .ok (.return_, 1) := by decide +kernel
set_option maxRecDepth 20000 in
theorem ggX2_growRice_X2_cells : GoodIn wsX2_growRice wsX2_cells := goodIn_r _ [6, 7, 8, 37, 38, 39, 40, 41, 42, 43, 44, 45, 46, 47, 48, 49, 50, 51, 52, 53, 54] (by decide +kernel) (by decide +kernel)
set_option maxRecDepth 20000 in
theorem gX2_growRice_X2_cells : GoodIn wsX2_growRice (wsV RX2 95 RX2 yX2_cells wsX2_cells) := goodIn_app (goodIn_of _ (by decide +kernel)) ggX2_growRice_X2_cells
set_option maxRecDepth 20000 in
theorem ggX2_growRice_X2_growCrop : GoodIn wsX2_growRice wsX2_growCrop := goodIn_r _ [12, 13, 14, 15, 16, 17, 18, 19, 20, 21, 22, 23, 24, 25, 26, 27, 28, 5, 29, 1, 30, 31, 32, 33, 34, 35, 36, 37, 38, 39, 40, 41, 42, 43, 44, 45, 46, 47, 48, 49, 50, 51, 52, 53, 54] (by decide +kernel) (by decide +kernel)
set_option maxRecDepth 20000 in
theorem gX2_growRice_X2_growCrop : GoodIn wsX2_growRice (wsV RX2 148 RX2 yX2_growCrop wsX2_growCrop) := goodIn_app (goodIn_of _ (by decide +kernel)) ggX2_growRice_X2_growCrop
theorem dX2_growRice_0 : decode cX2_growRice 0 = .ok (.iconst 0, 1) := by decide +kernel
theorem dX2_growRice_1 : decode cX2_growRice 1 = .ok (.istore_n 1, 1) := by decide +kernel
theorem dX2_growRice_2 : decode cX2_growRice 2 = .ok (.iload_n 1, 1) := by decide +kernel
theorem dX2_growRice_3 : decode cX2_growRice 3 = .ok (.aload_n 0, 1) := by decide +kernel
theorem dX2_growRice_4 : decode cX2_growRice 4 = .ok (.invokevirtual 95, 3) := by decide +kernel
theorem dX2_growRice_7 : decode cX2_growRice 7 = .ok (.if_icmp .ge 23, 3) := by decide +kernel
theorem dX2_growRice_10 : decode cX2_growRice 10 = .ok (.aload_n 0, 1) := by decide +kernel
theorem dX2_growRice_11 : decode cX2_growRice 11 = .ok (.getfield 30, 3) := by decide +kernel
theorem dX2_growRice_14 : decode cX2_growRice 14 = .ok (.iload_n 1, 1) := by decide +kernel
theorem dX2_growRice_15 : decode cX2_growRice 15 = .ok (.iaload, 1) := by decide +kernel
theorem dX2_growRice_16 : decode cX2_growRice 16 = .ok (.ifCond .eq 8, 3) := by decide +kernel
theorem dX2_growRice_19 : decode cX2_growRice 19 = .ok (.aload_n 0, 1) := by decide +kernel
theorem dX2_growRice_20 : decode cX2_growRice 20 = .ok (.iload_n 1, 1) := by decide +kernel
theorem dX2_growRice_21 : decode cX2_growRice 21 = .ok (.invokevirtual 148, 3) := by decide +kernel
theorem dX2_growRice_24 : decode cX2_growRice 24 = .ok (.iinc 1 1, 3) := by decide +kernel
theorem dX2_growRice_27 : decode cX2_growRice 27 = .ok (.goto (-25), 3) := by decide +kernel
theorem dX2_growRice_30 : decode cX2_growRice 30 = .ok (.return_, 1) := by decide +kernel
set_option maxRecDepth 20000 in
theorem ggX2_growCrop_X2_clearCrop : GoodIn wsX2_growCrop wsX2_clearCrop := goodIn_r _ [18, 19, 1, 10, 6, 8, 27, 28, 29, 30, 31, 32, 33, 34, 35, 36, 37, 38, 39, 40, 41, 42, 43, 44] (by decide +kernel) (by decide +kernel)
set_option maxRecDepth 20000 in
theorem gX2_growCrop_X2_clearCrop : GoodIn wsX2_growCrop (wsV RX2 77 RX2 yX2_clearCrop wsX2_clearCrop) := goodIn_app (goodIn_of _ (by decide +kernel)) ggX2_growCrop_X2_clearCrop
set_option maxRecDepth 20000 in
theorem ggX2_growCrop_X2_hardening : GoodIn wsX2_growCrop wsX2_hardening := goodIn_r _ [23, 6, 8, 7, 24, 25, 26, 27, 28, 29, 30, 31, 32, 33, 34, 35, 36, 37, 38, 39, 40, 41, 42, 43, 44] (by decide +kernel) (by decide +kernel)
set_option maxRecDepth 20000 in
theorem gX2_growCrop_X2_hardening : GoodIn wsX2_growCrop (wsV RX2 151 RX2 yX2_hardening wsX2_hardening) := goodIn_app (goodIn_of _ (by decide +kernel)) ggX2_growCrop_X2_hardening
theorem dX2_growCrop_0 : decode cX2_growCrop 0 = .ok (.aload_n 0, 1) := by decide +kernel
theorem dX2_growCrop_1 : decode cX2_growCrop 1 = .ok (.getfield 33, 3) := by decide +kernel
theorem dX2_growCrop_4 : decode cX2_growCrop 4 = .ok (.iload_n 1, 1) := by decide +kernel
theorem dX2_growCrop_5 : decode cX2_growCrop 5 = .ok (.dup2, 1) := by decide +kernel
theorem dX2_growCrop_6 : decode cX2_growCrop 6 = .ok (.iaload, 1) := by decide +kernel
theorem dX2_growCrop_7 : decode cX2_growCrop 7 = .ok (.iconst 1, 1) := by decide +kernel
theorem dX2_growCrop_8 : decode cX2_growCrop 8 = .ok (.iadd, 1) := by decide +kernel
theorem dX2_growCrop_9 : decode cX2_growCrop 9 = .ok (.iastore, 1) := by decide +kernel
theorem dX2_growCrop_10 : decode cX2_growCrop 10 = .ok (.iconst 5, 1) := by decide +kernel
theorem dX2_growCrop_11 : decode cX2_growCrop 11 = .ok (.aload_n 0, 1) := by decide +kernel
theorem dX2_growCrop_12 : decode cX2_growCrop 12 = .ok (.getfield 33, 3) := by decide +kernel
theorem dX2_growCrop_15 : decode cX2_growCrop 15 = .ok (.iload_n 1, 1) := by decide +kernel
theorem dX2_growCrop_16 : decode cX2_growCrop 16 = .ok (.iaload, 1) := by decide +kernel
theorem dX2_growCrop_17 : decode cX2_growCrop 17 = .ok (.iconst 2, 1) := by decide +kernel
theorem dX2_growCrop_18 : decode cX2_growCrop 18 = .ok (.imul, 1) := by decide +kernel
theorem dX2_growCrop_19 : decode cX2_growCrop 19 = .ok (.iconst 3, 1) := by decide +kernel
theorem dX2_growCrop_20 : decode cX2_growCrop 20 = .ok (.idiv, 1) := by decide +kernel
theorem dX2_growCrop_21 : decode cX2_growCrop 21 = .ok (.iadd, 1) := by decide +kernel
theorem dX2_growCrop_22 : decode cX2_growCrop 22 = .ok (.bipush 45, 2) := by decide +kernel
theorem dX2_growCrop_24 : decode cX2_growCrop 24 = .ok (.invokestatic 137, 3) := by decide +kernel
theorem dX2_growCrop_27 : decode cX2_growCrop 27 = .ok (.istore_n 2, 1) := by decide +kernel
theorem dX2_growCrop_28 : decode cX2_growCrop 28 = .ok (.aload_n 0, 1) := by decide +kernel
theorem dX2_growCrop_29 : decode cX2_growCrop 29 = .ok (.getfield 39, 3) := by decide +kernel
theorem dX2_growCrop_32 : decode cX2_growCrop 32 = .ok (.iload_n 1, 1) := by decide +kernel
theorem dX2_growCrop_33 : decode cX2_growCrop 33 = .ok (.aload_n 0, 1) := by decide +kernel
theorem dX2_growCrop_34 : decode cX2_growCrop 34 = .ok (.getfield 15, 3) := by decide +kernel
theorem dX2_growCrop_37 : decode cX2_growCrop 37 = .ok (.iload_n 1, 1) := by decide +kernel
theorem dX2_growCrop_38 : decode cX2_growCrop 38 = .ok (.iaload, 1) := by decide +kernel
theorem dX2_growCrop_39 : decode cX2_growCrop 39 = .ok (.iload_n 2, 1) := by decide +kernel
theorem dX2_growCrop_40 : decode cX2_growCrop 40 = .ok (.if_icmp .le 14, 3) := by decide +kernel
theorem dX2_growCrop_43 : decode cX2_growCrop 43 = .ok (.aload_n 0, 1) := by decide +kernel
theorem dX2_growCrop_44 : decode cX2_growCrop 44 = .ok (.getfield 39, 3) := by decide +kernel
theorem dX2_growCrop_47 : decode cX2_growCrop 47 = .ok (.iload_n 1, 1) := by decide +kernel
theorem dX2_growCrop_48 : decode cX2_growCrop 48 = .ok (.iaload, 1) := by decide +kernel
theorem dX2_growCrop_49 : decode cX2_growCrop 49 = .ok (.iconst 1, 1) := by decide +kernel
theorem dX2_growCrop_50 : decode cX2_growCrop 50 = .ok (.iadd, 1) := by decide +kernel
theorem dX2_growCrop_51 : decode cX2_growCrop 51 = .ok (.goto 4, 3) := by decide +kernel
theorem dX2_growCrop_54 : decode cX2_growCrop 54 = .ok (.iconst 0, 1) := by decide +kernel
theorem dX2_growCrop_55 : decode cX2_growCrop 55 = .ok (.iastore, 1) := by decide +kernel
theorem dX2_growCrop_56 : decode cX2_growCrop 56 = .ok (.aload_n 0, 1) := by decide +kernel
theorem dX2_growCrop_57 : decode cX2_growCrop 57 = .ok (.getfield 42, 3) := by decide +kernel
theorem dX2_growCrop_60 : decode cX2_growCrop 60 = .ok (.iload_n 1, 1) := by decide +kernel
theorem dX2_growCrop_61 : decode cX2_growCrop 61 = .ok (.aload_n 0, 1) := by decide +kernel
theorem dX2_growCrop_62 : decode cX2_growCrop 62 = .ok (.getfield 15, 3) := by decide +kernel
theorem dX2_growCrop_65 : decode cX2_growCrop 65 = .ok (.iload_n 1, 1) := by decide +kernel
theorem dX2_growCrop_66 : decode cX2_growCrop 66 = .ok (.iaload, 1) := by decide +kernel
theorem dX2_growCrop_67 : decode cX2_growCrop 67 = .ok (.ifCond .ne 14, 3) := by decide +kernel
theorem dX2_growCrop_70 : decode cX2_growCrop 70 = .ok (.aload_n 0, 1) := by decide +kernel
theorem dX2_growCrop_71 : decode cX2_growCrop 71 = .ok (.getfield 42, 3) := by decide +kernel
theorem dX2_growCrop_74 : decode cX2_growCrop 74 = .ok (.iload_n 1, 1) := by decide +kernel
theorem dX2_growCrop_75 : decode cX2_growCrop 75 = .ok (.iaload, 1) := by decide +kernel
theorem dX2_growCrop_76 : decode cX2_growCrop 76 = .ok (.iconst 1, 1) := by decide +kernel
theorem dX2_growCrop_77 : decode cX2_growCrop 77 = .ok (.iadd, 1) := by decide +kernel
theorem dX2_growCrop_78 : decode cX2_growCrop 78 = .ok (.goto 4, 3) := by decide +kernel
theorem dX2_growCrop_81 : decode cX2_growCrop 81 = .ok (.iconst 0, 1) := by decide +kernel
theorem dX2_growCrop_82 : decode cX2_growCrop 82 = .ok (.iastore, 1) := by decide +kernel
theorem dX2_growCrop_83 : decode cX2_growCrop 83 = .ok (.aload_n 0, 1) := by decide +kernel
theorem dX2_growCrop_84 : decode cX2_growCrop 84 = .ok (.getfield 39, 3) := by decide +kernel
theorem dX2_growCrop_87 : decode cX2_growCrop 87 = .ok (.iload_n 1, 1) := by decide +kernel
theorem dX2_growCrop_88 : decode cX2_growCrop 88 = .ok (.iaload, 1) := by decide +kernel
theorem dX2_growCrop_89 : decode cX2_growCrop 89 = .ok (.iconst 4, 1) := by decide +kernel
theorem dX2_growCrop_90 : decode cX2_growCrop 90 = .ok (.if_icmp .ge 13, 3) := by decide +kernel
theorem dX2_growCrop_93 : decode cX2_growCrop 93 = .ok (.aload_n 0, 1) := by decide +kernel
theorem dX2_growCrop_94 : decode cX2_growCrop 94 = .ok (.getfield 42, 3) := by decide +kernel
theorem dX2_growCrop_97 : decode cX2_growCrop 97 = .ok (.iload_n 1, 1) := by decide +kernel
theorem dX2_growCrop_98 : decode cX2_growCrop 98 = .ok (.iaload, 1) := by decide +kernel
theorem dX2_growCrop_99 : decode cX2_growCrop 99 = .ok (.iconst 5, 1) := by decide +kernel
theorem dX2_growCrop_100 : decode cX2_growCrop 100 = .ok (.if_icmp .lt 21, 3) := by decide +kernel
theorem dX2_growCrop_103 : decode cX2_growCrop 103 = .ok (.aload_n 0, 1) := by decide +kernel
theorem dX2_growCrop_104 : decode cX2_growCrop 104 = .ok (.iload_n 1, 1) := by decide +kernel
theorem dX2_growCrop_105 : decode cX2_growCrop 105 = .ok (.invokevirtual 77, 3) := by decide +kernel
theorem dX2_growCrop_108 : decode cX2_growCrop 108 = .ok (.aload_n 0, 1) := by decide +kernel
theorem dX2_growCrop_109 : decode cX2_growCrop 109 = .ok (.dup, 1) := by decide +kernel
theorem dX2_growCrop_110 : decode cX2_growCrop 110 = .ok (.getfield 68, 3) := by decide +kernel
theorem dX2_growCrop_113 : decode cX2_growCrop 113 = .ok (.iconst 1, 1) := by decide +kernel
theorem dX2_growCrop_114 : decode cX2_growCrop 114 = .ok (.iadd, 1) := by decide +kernel
theorem dX2_growCrop_115 : decode cX2_growCrop 115 = .ok (.putfield 68, 3) := by decide +kernel
theorem dX2_growCrop_118 : decode cX2_growCrop 118 = .ok (.goto 32, 3) := by decide +kernel
theorem dX2_growCrop_121 : decode cX2_growCrop 121 = .ok (.aload_n 0, 1) := by decide +kernel
theorem dX2_growCrop_122 : decode cX2_growCrop 122 = .ok (.getfield 36, 3) := by decide +kernel
theorem dX2_growCrop_125 : decode cX2_growCrop 125 = .ok (.iload_n 1, 1) := by decide +kernel
theorem dX2_growCrop_126 : decode cX2_growCrop 126 = .ok (.iaload, 1) := by decide +kernel
theorem dX2_growCrop_127 : decode cX2_growCrop 127 = .ok (.aload_n 0, 1) := by decide +kernel
theorem dX2_growCrop_128 : decode cX2_growCrop 128 = .ok (.iload_n 1, 1) := by decide +kernel
theorem dX2_growCrop_129 : decode cX2_growCrop 129 = .ok (.invokevirtual 151, 3) := by decide +kernel
theorem dX2_growCrop_132 : decode cX2_growCrop 132 = .ok (.iadd, 1) := by decide +kernel
theorem dX2_growCrop_133 : decode cX2_growCrop 133 = .ok (.istore_n 3, 1) := by decide +kernel
theorem dX2_growCrop_134 : decode cX2_growCrop 134 = .ok (.aload_n 0, 1) := by decide +kernel
theorem dX2_growCrop_135 : decode cX2_growCrop 135 = .ok (.getfield 36, 3) := by decide +kernel
theorem dX2_growCrop_138 : decode cX2_growCrop 138 = .ok (.iload_n 1, 1) := by decide +kernel
theorem dX2_growCrop_139 : decode cX2_growCrop 139 = .ok (.iload_n 3, 1) := by decide +kernel
theorem dX2_growCrop_140 : decode cX2_growCrop 140 = .ok (.iconst 0, 1) := by decide +kernel
theorem dX2_growCrop_141 : decode cX2_growCrop 141 = .ok (.invokestatic 132, 3) := by decide +kernel
theorem dX2_growCrop_144 : decode cX2_growCrop 144 = .ok (.bipush 100, 2) := by decide +kernel
theorem dX2_growCrop_146 : decode cX2_growCrop 146 = .ok (.invokestatic 137, 3) := by decide +kernel
theorem dX2_growCrop_149 : decode cX2_growCrop 149 = .ok (.iastore, 1) := by decide +kernel
theorem dX2_growCrop_150 : decode cX2_growCrop 150 = .ok (.return_, 1) := by decide +kernel
set_option maxRecDepth 20000 in
theorem ggX2_hardening_X3_isWithin : GoodIn wsX2_hardening wsX3_isWithin := goodIn_r _ [6] (by decide +kernel) (by decide +kernel)
set_option maxRecDepth 20000 in
theorem gX2_hardening_X3_isWithin_n155 : GoodIn wsX2_hardening (wsX3_isWithin) := ggX2_hardening_X3_isWithin
theorem dX2_hardening_0 : decode cX2_hardening 0 = .ok (.aload_n 0, 1) := by decide +kernel
theorem dX2_hardening_1 : decode cX2_hardening 1 = .ok (.getfield 39, 3) := by decide +kernel
theorem dX2_hardening_4 : decode cX2_hardening 4 = .ok (.iload_n 1, 1) := by decide +kernel
theorem dX2_hardening_5 : decode cX2_hardening 5 = .ok (.iaload, 1) := by decide +kernel
theorem dX2_hardening_6 : decode cX2_hardening 6 = .ok (.ifCond .gt 12, 3) := by decide +kernel
theorem dX2_hardening_9 : decode cX2_hardening 9 = .ok (.aload_n 0, 1) := by decide +kernel
theorem dX2_hardening_10 : decode cX2_hardening 10 = .ok (.getfield 42, 3) := by decide +kernel
theorem dX2_hardening_13 : decode cX2_hardening 13 = .ok (.iload_n 1, 1) := by decide +kernel
theorem dX2_hardening_14 : decode cX2_hardening 14 = .ok (.iaload, 1) := by decide +kernel
theorem dX2_hardening_15 : decode cX2_hardening 15 = .ok (.ifCond .le 6, 3) := by decide +kernel
theorem dX2_hardening_18 : decode cX2_hardening 18 = .ok (.bipush (-3), 2) := by decide +kernel
theorem dX2_hardening_20 : decode cX2_hardening 20 = .ok (.ireturn, 1) := by decide +kernel
theorem dX2_hardening_21 : decode cX2_hardening 21 = .ok (.aload_n 0, 1) := by decide +kernel
theorem dX2_hardening_22 : decode cX2_hardening 22 = .ok (.getfield 15, 3) := by decide +kernel
theorem dX2_hardening_25 : decode cX2_hardening 25 = .ok (.iload_n 1, 1) := by decide +kernel
theorem dX2_hardening_26 : decode cX2_hardening 26 = .ok (.iaload, 1) := by decide +kernel
theorem dX2_hardening_27 : decode cX2_hardening 27 = .ok (.iconst 5, 1) := by decide +kernel
theorem dX2_hardening_28 : decode cX2_hardening 28 = .ok (.bipush 25, 2) := by decide +kernel
theorem dX2_hardening_30 : decode cX2_hardening 30 = .ok (.invokestatic 155, 3) := by decide +kernel
theorem dX2_hardening_33 : decode cX2_hardening 33 = .ok (.ifCond .eq 7, 3) := by decide +kernel
theorem dX2_hardening_36 : decode cX2_hardening 36 = .ok (.iconst 2, 1) := by decide +kernel
theorem dX2_hardening_37 : decode cX2_hardening 37 = .ok (.goto 4, 3) := by decide +kernel
theorem dX2_hardening_40 : decode cX2_hardening 40 = .ok (.iconst 1, 1) := by decide +kernel
theorem dX2_hardening_41 : decode cX2_hardening 41 = .ok (.ireturn, 1) := by decide +kernel
end
section
set_option maxRecDepth 20000 in
theorem ggX3_init_X0_init : GoodIn wsX3_init wsX0_init := goodIn_r _ [19, 20, 2, 3, 21, 22, 23, 24, 25, 26, 27, 28, 63, 64, 65] (by decide +kernel) (by decide +kernel)
set_option maxRecDepth 20000 in
theorem gX3_init_X0_init : GoodIn wsX3_init (wsX0_init) := ggX3_init_X0_init
set_option maxRecDepth 20000 in
theorem ggX3_init_X2_init : GoodIn wsX3_init wsX2_init := goodIn_r _ [31, 32, 2, 3, 21, 33, 34, 35, 36, 37, 38, 39, 40, 41, 42, 43, 44, 45, 46, 47, 48, 10, 49, 50, 51, 52, 53, 54, 55, 26, 27, 28, 56, 57, 58, 59, 72, 73, 74, 75, 76, 77, 78, 79, 80, 81, 82, 83, 84, 85, 86, 87, 88, 89] (by decide +kernel) (by decide +kernel)
set_option maxRecDepth 20000 in
theorem gX3_init_X2_init : GoodIn wsX3_init (wsX2_init) := ggX3_init_X2_init
set_option maxRecDepth 20000 in
theorem ggX3_init_X1_init : GoodIn wsX3_init wsX1_init := goodIn_r _ [61, 62, 2, 3] (by decide +kernel) (by decide +kernel)
set_option maxRecDepth 20000 in
theorem gX3_init_X1_init_n30 : GoodIn wsX3_init (wsX1_init) := ggX3_init_X1_init
theorem dX3_init_0 : decode cX3_init 0 = .ok (.aload_n 0, 1) := by decide +kernel
theorem dX3_init_1 : decode cX3_init 1 = .ok (.invokespecial 1, 3) := by decide +kernel
theorem dX3_init_4 : decode cX3_init 4 = .ok (.aload_n 0, 1) := by decide +kernel
theorem dX3_init_5 : decode cX3_init 5 = .ok (.new 7, 3) := by decide +kernel
theorem dX3_init_8 : decode cX3_init 8 = .ok (.dup, 1) := by decide +kernel
theorem dX3_init_9 : decode cX3_init 9 = .ok (.invokespecial 9, 3) := by decide +kernel
theorem dX3_init_12 : decode cX3_init 12 = .ok (.putfield 10, 3) := by decide +kernel
theorem dX3_init_15 : decode cX3_init 15 = .ok (.aload_n 0, 1) := by decide +kernel
theorem dX3_init_16 : decode cX3_init 16 = .ok (.new 16, 3) := by decide +kernel
theorem dX3_init_19 : decode cX3_init 19 = .ok (.dup, 1) := by decide +kernel
theorem dX3_init_20 : decode cX3_init 20 = .ok (.iconst 4, 1) := by decide +kernel
theorem dX3_init_21 : decode cX3_init 21 = .ok (.iconst 4, 1) := by decide +kernel
theorem dX3_init_22 : decode cX3_init 22 = .ok (.invokespecial 18, 3) := by decide +kernel
theorem dX3_init_25 : decode cX3_init 25 = .ok (.putfield 21, 3) := by decide +kernel
theorem dX3_init_28 : decode cX3_init 28 = .ok (.aload_n 0, 1) := by decide +kernel
theorem dX3_init_29 : decode cX3_init 29 = .ok (.new 16, 3) := by decide +kernel
theorem dX3_init_32 : decode cX3_init 32 = .ok (.dup, 1) := by decide +kernel
theorem dX3_init_33 : decode cX3_init 33 = .ok (.iconst 4, 1) := by decide +kernel
theorem dX3_init_34 : decode cX3_init 34 = .ok (.iconst 4, 1) := by decide +kernel
theorem dX3_init_35 : decode cX3_init 35 = .ok (.invokespecial 18, 3) := by decide +kernel
theorem dX3_init_38 : decode cX3_init 38 = .ok (.putfield 25, 3) := by decide +kernel
theorem dX3_init_41 : decode cX3_init 41 = .ok (.aload_n 0, 1) := by decide +kernel
theorem dX3_init_42 : decode cX3_init 42 = .ok (.new 28, 3) := by decide +kernel
theorem dX3_init_45 : decode cX3_init 45 = .ok (.dup, 1) := by decide +kernel
theorem dX3_init_46 : decode cX3_init 46 = .ok (.invokespecial 30, 3) := by decide +kernel
theorem dX3_init_49 : decode cX3_init 49 = .ok (.putfield 31, 3) := by decide +kernel
theorem dX3_init_52 : decode cX3_init 52 = .ok (.return_, 1) := by decide +kernel
set_option maxRecDepth 20000 in
theorem ggX3_lay_X3_isWithin : GoodIn wsX3_lay wsX3_isWithin := goodIn_r _ [9] (by decide +kernel) (by decide +kernel)
set_option maxRecDepth 20000 in
theorem gX3_lay_X3_isWithin : GoodIn wsX3_lay (va_wsS RX3 35 yX3_isWithin wsX3_isWithin) := goodIn_app (goodIn_of _ (by decide +kernel)) ggX3_lay_X3_isWithin
set_option maxRecDepth 20000 in
theorem ggX3_lay_X2_startAnew : GoodIn wsX3_lay wsX2_startAnew := goodIn_r _ [14, 15, 16, 17, 18, 19, 20, 21, 22, 23, 24, 25, 26, 27, 28, 29, 30, 31, 32, 33, 34, 13, 35, 36, 37, 38, 39, 40, 51, 52, 53, 54, 55, 56, 57, 58, 59, 60, 61, 62, 63, 64, 65, 66, 67, 68] (by decide +kernel) (by decide +kernel)
set_option maxRecDepth 20000 in
theorem gX3_lay_X2_startAnew : GoodIn wsX3_lay (wsV RX3 46 RX2 yX2_startAnew wsX2_startAnew) := goodIn_app (goodIn_of _ (by decide +kernel)) ggX3_lay_X2_startAnew
set_option maxRecDepth 20000 in
theorem ggX3_lay_X2_cells : GoodIn wsX3_lay wsX2_cells := goodIn_r _ [44, 15, 16, 51, 52, 53, 54, 55, 56, 57, 58, 59, 60, 61, 62, 63, 64, 65, 66, 67, 68] (by decide +kernel) (by decide +kernel)
set_option maxRecDepth 20000 in
theorem gX3_lay_X2_cells : GoodIn wsX3_lay (wsV RX3 56 RX2 yX2_cells wsX2_cells) := goodIn_app (goodIn_of _ (by decide +kernel)) ggX3_lay_X2_cells
theorem dX3_lay_0 : decode cX3_lay 0 = .ok (.iload_n 1, 1) := by decide +kernel
theorem dX3_lay_1 : decode cX3_lay 1 = .ok (.iconst 2, 1) := by decide +kernel
theorem dX3_lay_2 : decode cX3_lay 2 = .ok (.bipush 8, 2) := by decide +kernel
theorem dX3_lay_4 : decode cX3_lay 4 = .ok (.invokestatic 35, 3) := by decide +kernel
theorem dX3_lay_7 : decode cX3_lay 7 = .ok (.ifCond .eq 13, 3) := by decide +kernel
theorem dX3_lay_10 : decode cX3_lay 10 = .ok (.iload_n 2, 1) := by decide +kernel
theorem dX3_lay_11 : decode cX3_lay 11 = .ok (.iconst 2, 1) := by decide +kernel
theorem dX3_lay_12 : decode cX3_lay 12 = .ok (.bipush 8, 2) := by decide +kernel
theorem dX3_lay_14 : decode cX3_lay 14 = .ok (.invokestatic 35, 3) := by decide +kernel
theorem dX3_lay_17 : decode cX3_lay 17 = .ok (.ifCond .ne 13, 3) := by decide +kernel
theorem dX3_lay_20 : decode cX3_lay 20 = .ok (.new 39, 3) := by decide +kernel
theorem dX3_lay_23 : decode cX3_lay 23 = .ok (.dup, 1) := by decide +kernel
theorem dX3_lay_24 : decode cX3_lay 24 = .ok (.ldc 41, 2) := by decide +kernel
theorem dX3_lay_26 : decode cX3_lay 26 = .ok (.invokespecial 43, 3) := by decide +kernel
theorem dX3_lay_29 : decode cX3_lay 29 = .ok (.athrow, 1) := by decide +kernel
theorem dX3_lay_30 : decode cX3_lay 30 = .ok (.aload_n 0, 1) := by decide +kernel
theorem dX3_lay_31 : decode cX3_lay 31 = .ok (.getfield 21, 3) := by decide +kernel
theorem dX3_lay_34 : decode cX3_lay 34 = .ok (.iload_n 1, 1) := by decide +kernel
theorem dX3_lay_35 : decode cX3_lay 35 = .ok (.iload_n 2, 1) := by decide +kernel
theorem dX3_lay_36 : decode cX3_lay 36 = .ok (.invokevirtual 46, 3) := by decide +kernel
theorem dX3_lay_39 : decode cX3_lay 39 = .ok (.aload_n 0, 1) := by decide +kernel
theorem dX3_lay_40 : decode cX3_lay 40 = .ok (.iconst 0, 1) := by decide +kernel
theorem dX3_lay_41 : decode cX3_lay 41 = .ok (.putfield 49, 3) := by decide +kernel
theorem dX3_lay_44 : decode cX3_lay 44 = .ok (.aload_n 0, 1) := by decide +kernel
theorem dX3_lay_45 : decode cX3_lay 45 = .ok (.iconst 0, 1) := by decide +kernel
theorem dX3_lay_46 : decode cX3_lay 46 = .ok (.putfield 53, 3) := by decide +kernel
theorem dX3_lay_49 : decode cX3_lay 49 = .ok (.aload_n 0, 1) := by decide +kernel
theorem dX3_lay_50 : decode cX3_lay 50 = .ok (.getfield 21, 3) := by decide +kernel
theorem dX3_lay_53 : decode cX3_lay 53 = .ok (.invokevirtual 56, 3) := by decide +kernel
theorem dX3_lay_56 : decode cX3_lay 56 = .ok (.ireturn, 1) := by decide +kernel
set_option maxRecDepth 20000 in
theorem ggX3_setField_X2_hasField : GoodIn wsX3_setField wsX2_hasField := goodIn_r _ [17, 18, 19, 34, 35, 36, 37, 38, 39, 40, 41, 42, 43, 44, 45, 46, 47, 48, 49, 50, 51] (by decide +kernel) (by decide +kernel)
set_option maxRecDepth 20000 in
theorem gX3_setField_X2_hasField : GoodIn wsX3_setField (wsV RX3 60 RX2 yX2_hasField wsX2_hasField) := goodIn_app (goodIn_of _ (by decide +kernel)) ggX3_setField_X2_hasField
set_option maxRecDepth 20000 in
theorem ggX3_setField_X3_isWithin : GoodIn wsX3_setField wsX3_isWithin := goodIn_r _ [23] (by decide +kernel) (by decide +kernel)
set_option maxRecDepth 20000 in
theorem gX3_setField_X3_isWithin : GoodIn wsX3_setField (va_wsS RX3 35 yX3_isWithin wsX3_isWithin) := goodIn_app (goodIn_of _ (by decide +kernel)) ggX3_setField_X3_isWithin
set_option maxRecDepth 20000 in
theorem ggX3_setField_X2_cellOf : GoodIn wsX3_setField wsX2_cellOf := goodIn_r _ [27, 19, 34, 35, 36, 37, 38, 39, 40, 41, 42, 43, 44, 45, 46, 47, 48, 49, 50, 51] (by decide +kernel) (by decide +kernel)
set_option maxRecDepth 20000 in
theorem gX3_setField_X2_cellOf : GoodIn wsX3_setField (wsV RX3 71 RX2 yX2_cellOf wsX2_cellOf) := goodIn_app (goodIn_of _ (by decide +kernel)) ggX3_setField_X2_cellOf
theorem dX3_setField_0 : decode cX3_setField 0 = .ok (.aload_n 0, 1) := by decide +kernel
theorem dX3_setField_1 : decode cX3_setField 1 = .ok (.getfield 21, 3) := by decide +kernel
theorem dX3_setField_4 : decode cX3_setField 4 = .ok (.iload_n 1, 1) := by decide +kernel
theorem dX3_setField_5 : decode cX3_setField 5 = .ok (.iload_n 2, 1) := by decide +kernel
theorem dX3_setField_6 : decode cX3_setField 6 = .ok (.invokevirtual 60, 3) := by decide +kernel
theorem dX3_setField_9 : decode cX3_setField 9 = .ok (.ifCond .ne 13, 3) := by decide +kernel
theorem dX3_setField_12 : decode cX3_setField 12 = .ok (.new 64, 3) := by decide +kernel
theorem dX3_setField_15 : decode cX3_setField 15 = .ok (.dup, 1) := by decide +kernel
theorem dX3_setField_16 : decode cX3_setField 16 = .ok (.ldc 66, 2) := by decide +kernel
theorem dX3_setField_18 : decode cX3_setField 18 = .ok (.invokespecial 68, 3) := by decide +kernel
theorem dX3_setField_21 : decode cX3_setField 21 = .ok (.athrow, 1) := by decide +kernel
theorem dX3_setField_22 : decode cX3_setField 22 = .ok (.iload_n 3, 1) := by decide +kernel
theorem dX3_setField_23 : decode cX3_setField 23 = .ok (.bipush 20, 2) := by decide +kernel
theorem dX3_setField_25 : decode cX3_setField 25 = .ok (.bipush 120, 2) := by decide +kernel
theorem dX3_setField_27 : decode cX3_setField 27 = .ok (.invokestatic 35, 3) := by decide +kernel
theorem dX3_setField_30 : decode cX3_setField 30 = .ok (.ifCond .eq 14, 3) := by decide +kernel
theorem dX3_setField_33 : decode cX3_setField 33 = .ok (.iload 4, 2) := by decide +kernel
theorem dX3_setField_35 : decode cX3_setField 35 = .ok (.iconst 0, 1) := by decide +kernel
theorem dX3_setField_36 : decode cX3_setField 36 = .ok (.bipush 9, 2) := by decide +kernel
theorem dX3_setField_38 : decode cX3_setField 38 = .ok (.invokestatic 35, 3) := by decide +kernel
theorem dX3_setField_41 : decode cX3_setField 41 = .ok (.ifCond .ne 13, 3) := by decide +kernel
theorem dX3_setField_44 : decode cX3_setField 44 = .ok (.new 39, 3) := by decide +kernel
theorem dX3_setField_47 : decode cX3_setField 47 = .ok (.dup, 1) := by decide +kernel
theorem dX3_setField_48 : decode cX3_setField 48 = .ok (.ldc 69, 2) := by decide +kernel
theorem dX3_setField_50 : decode cX3_setField 50 = .ok (.invokespecial 43, 3) := by decide +kernel
theorem dX3_setField_53 : decode cX3_setField 53 = .ok (.athrow, 1) := by decide +kernel
theorem dX3_setField_54 : decode cX3_setField 54 = .ok (.aload_n 0, 1) := by decide +kernel
theorem dX3_setField_55 : decode cX3_setField 55 = .ok (.getfield 21, 3) := by decide +kernel
theorem dX3_setField_58 : decode cX3_setField 58 = .ok (.iload_n 1, 1) := by decide +kernel
theorem dX3_setField_59 : decode cX3_setField 59 = .ok (.iload_n 2, 1) := by decide +kernel
theorem dX3_setField_60 : decode cX3_setField 60 = .ok (.invokevirtual 71, 3) := by decide +kernel
theorem dX3_setField_63 : decode cX3_setField 63 = .ok (.istore 5, 2) := by decide +kernel
theorem dX3_setField_65 : decode cX3_setField 65 = .ok (.aload_n 0, 1) := by decide +kernel
theorem dX3_setField_66 : decode cX3_setField 66 = .ok (.getfield 21, 3) := by decide +kernel
theorem dX3_setField_69 : decode cX3_setField 69 = .ok (.getfield 75, 3) := by decide +kernel
theorem dX3_setField_72 : decode cX3_setField 72 = .ok (.iload 5, 2) := by decide +kernel
theorem dX3_setField_74 : decode cX3_setField 74 = .ok (.iaload, 1) := by decide +kernel
theorem dX3_setField_75 : decode cX3_setField 75 = .ok (.istore 6, 2) := by decide +kernel
theorem dX3_setField_77 : decode cX3_setField 77 = .ok (.aload_n 0, 1) := by decide +kernel
theorem dX3_setField_78 : decode cX3_setField 78 = .ok (.getfield 21, 3) := by decide +kernel
theorem dX3_setField_81 : decode cX3_setField 81 = .ok (.getfield 75, 3) := by decide +kernel
theorem dX3_setField_84 : decode cX3_setField 84 = .ok (.iload 5, 2) := by decide +kernel
theorem dX3_setField_86 : decode cX3_setField 86 = .ok (.iload_n 3, 1) := by decide +kernel
theorem dX3_setField_87 : decode cX3_setField 87 = .ok (.iastore, 1) := by decide +kernel
theorem dX3_setField_88 : decode cX3_setField 88 = .ok (.aload_n 0, 1) := by decide +kernel
theorem dX3_setField_89 : decode cX3_setField 89 = .ok (.getfield 21, 3) := by decide +kernel
theorem dX3_setField_92 : decode cX3_setField 92 = .ok (.getfield 79, 3) := by decide +kernel
theorem dX3_setField_95 : decode cX3_setField 95 = .ok (.iload 5, 2) := by decide +kernel
theorem dX3_setField_97 : decode cX3_setField 97 = .ok (.iload 4, 2) := by decide +kernel
theorem dX3_setField_99 : decode cX3_setField 99 = .ok (.iastore, 1) := by decide +kernel
theorem dX3_setField_100 : decode cX3_setField 100 = .ok (.aload_n 0, 1) := by decide +kernel
theorem dX3_setField_101 : decode cX3_setField 101 = .ok (.getfield 21, 3) := by decide +kernel
theorem dX3_setField_104 : decode cX3_setField 104 = .ok (.getfield 82, 3) := by decide +kernel
theorem dX3_setField_107 : decode cX3_setField 107 = .ok (.iload 5, 2) := by decide +kernel
theorem dX3_setField_109 : decode cX3_setField 109 = .ok (.aload_n 0, 1) := by decide +kernel
theorem dX3_setField_110 : decode cX3_setField 110 = .ok (.getfield 21, 3) := by decide +kernel
theorem dX3_setField_113 : decode cX3_setField 113 = .ok (.getfield 82, 3) := by decide +kernel
theorem dX3_setField_116 : decode cX3_setField 116 = .ok (.iload 5, 2) := by decide +kernel
theorem dX3_setField_118 : decode cX3_setField 118 = .ok (.iaload, 1) := by decide +kernel
theorem dX3_setField_119 : decode cX3_setField 119 = .ok (.iload_n 3, 1) := by decide +kernel
theorem dX3_setField_120 : decode cX3_setField 120 = .ok (.invokestatic 85, 3) := by decide +kernel
theorem dX3_setField_123 : decode cX3_setField 123 = .ok (.iastore, 1) := by decide +kernel
theorem dX3_setField_124 : decode cX3_setField 124 = .ok (.iload 6, 2) := by decide +kernel
theorem dX3_setField_126 : decode cX3_setField 126 = .ok (.ireturn, 1) := by decide +kernel
set_option maxRecDepth 20000 in
theorem ggX3_moveStone_X2_hasField : GoodIn wsX3_moveStone wsX2_hasField := goodIn_r _ [17, 18, 19, 34, 35, 36, 37, 38, 39, 40, 41, 42, 43, 44, 45, 46, 47, 48, 49, 50, 51] (by decide +kernel) (by decide +kernel)
set_option maxRecDepth 20000 in
theorem gX3_moveStone_X2_hasField : GoodIn wsX3_moveStone (wsV RX3 60 RX2 yX2_hasField wsX2_hasField) := goodIn_app (goodIn_of _ (by decide +kernel)) ggX3_moveStone_X2_hasField
set_option maxRecDepth 20000 in
theorem ggX3_moveStone_X2_cellOf : GoodIn wsX3_moveStone wsX2_cellOf := goodIn_r _ [23, 19, 34, 35, 36, 37, 38, 39, 40, 41, 42, 43, 44, 45, 46, 47, 48, 49, 50, 51] (by decide +kernel) (by decide +kernel)
set_option maxRecDepth 20000 in
theorem gX3_moveStone_X2_cellOf : GoodIn wsX3_moveStone (wsV RX3 71 RX2 yX2_cellOf wsX2_cellOf) := goodIn_app (goodIn_of _ (by decide +kernel)) ggX3_moveStone_X2_cellOf
set_option maxRecDepth 20000 in
theorem ggX3_moveStone_X3_isWithin : GoodIn wsX3_moveStone wsX3_isWithin := goodIn_r _ [27] (by decide +kernel) (by decide +kernel)
set_option maxRecDepth 20000 in
theorem gX3_moveStone_X3_isWithin : GoodIn wsX3_moveStone (va_wsS RX3 35 yX3_isWithin wsX3_isWithin) := goodIn_app (goodIn_of _ (by decide +kernel)) ggX3_moveStone_X3_isWithin
theorem dX3_moveStone_0 : decode cX3_moveStone 0 = .ok (.aload_n 0, 1) := by decide +kernel
theorem dX3_moveStone_1 : decode cX3_moveStone 1 = .ok (.getfield 21, 3) := by decide +kernel
theorem dX3_moveStone_4 : decode cX3_moveStone 4 = .ok (.iload_n 1, 1) := by decide +kernel
theorem dX3_moveStone_5 : decode cX3_moveStone 5 = .ok (.iload_n 2, 1) := by decide +kernel
theorem dX3_moveStone_6 : decode cX3_moveStone 6 = .ok (.invokevirtual 60, 3) := by decide +kernel
theorem dX3_moveStone_9 : decode cX3_moveStone 9 = .ok (.ifCond .ne 13, 3) := by decide +kernel
theorem dX3_moveStone_12 : decode cX3_moveStone 12 = .ok (.new 64, 3) := by decide +kernel
theorem dX3_moveStone_15 : decode cX3_moveStone 15 = .ok (.dup, 1) := by decide +kernel
theorem dX3_moveStone_16 : decode cX3_moveStone 16 = .ok (.ldc 66, 2) := by decide +kernel
theorem dX3_moveStone_18 : decode cX3_moveStone 18 = .ok (.invokespecial 68, 3) := by decide +kernel
theorem dX3_moveStone_21 : decode cX3_moveStone 21 = .ok (.athrow, 1) := by decide +kernel
theorem dX3_moveStone_22 : decode cX3_moveStone 22 = .ok (.aload_n 0, 1) := by decide +kernel
theorem dX3_moveStone_23 : decode cX3_moveStone 23 = .ok (.getfield 21, 3) := by decide +kernel
theorem dX3_moveStone_26 : decode cX3_moveStone 26 = .ok (.iload_n 1, 1) := by decide +kernel
theorem dX3_moveStone_27 : decode cX3_moveStone 27 = .ok (.iload_n 2, 1) := by decide +kernel
theorem dX3_moveStone_28 : decode cX3_moveStone 28 = .ok (.invokevirtual 71, 3) := by decide +kernel
theorem dX3_moveStone_31 : decode cX3_moveStone 31 = .ok (.istore 4, 2) := by decide +kernel
theorem dX3_moveStone_33 : decode cX3_moveStone 33 = .ok (.iload_n 3, 1) := by decide +kernel
theorem dX3_moveStone_34 : decode cX3_moveStone 34 = .ok (.iconst 0, 1) := by decide +kernel
theorem dX3_moveStone_35 : decode cX3_moveStone 35 = .ok (.aload_n 0, 1) := by decide +kernel
theorem dX3_moveStone_36 : decode cX3_moveStone 36 = .ok (.getfield 21, 3) := by decide +kernel
theorem dX3_moveStone_39 : decode cX3_moveStone 39 = .ok (.getfield 75, 3) := by decide +kernel
theorem dX3_moveStone_42 : decode cX3_moveStone 42 = .ok (.iload 4, 2) := by decide +kernel
theorem dX3_moveStone_44 : decode cX3_moveStone 44 = .ok (.iaload, 1) := by decide +kernel
theorem dX3_moveStone_45 : decode cX3_moveStone 45 = .ok (.invokestatic 35, 3) := by decide +kernel
theorem dX3_moveStone_48 : decode cX3_moveStone 48 = .ok (.ifCond .ne 13, 3) := by decide +kernel
theorem dX3_moveStone_51 : decode cX3_moveStone 51 = .ok (.new 39, 3) := by decide +kernel
theorem dX3_moveStone_54 : decode cX3_moveStone 54 = .ok (.dup, 1) := by decide +kernel
theorem dX3_moveStone_55 : decode cX3_moveStone 55 = .ok (.ldc 90, 2) := by decide +kernel
theorem dX3_moveStone_57 : decode cX3_moveStone 57 = .ok (.invokespecial 43, 3) := by decide +kernel
theorem dX3_moveStone_60 : decode cX3_moveStone 60 = .ok (.athrow, 1) := by decide +kernel
theorem dX3_moveStone_61 : decode cX3_moveStone 61 = .ok (.iload_n 3, 1) := by decide +kernel
theorem dX3_moveStone_62 : decode cX3_moveStone 62 = .ok (.aload_n 0, 1) := by decide +kernel
theorem dX3_moveStone_63 : decode cX3_moveStone 63 = .ok (.getfield 21, 3) := by decide +kernel
theorem dX3_moveStone_66 : decode cX3_moveStone 66 = .ok (.getfield 82, 3) := by decide +kernel
theorem dX3_moveStone_69 : decode cX3_moveStone 69 = .ok (.iload 4, 2) := by decide +kernel
theorem dX3_moveStone_71 : decode cX3_moveStone 71 = .ok (.iaload, 1) := by decide +kernel
theorem dX3_moveStone_72 : decode cX3_moveStone 72 = .ok (.isub, 1) := by decide +kernel
theorem dX3_moveStone_73 : decode cX3_moveStone 73 = .ok (.istore 5, 2) := by decide +kernel
theorem dX3_moveStone_75 : decode cX3_moveStone 75 = .ok (.aload_n 0, 1) := by decide +kernel
theorem dX3_moveStone_76 : decode cX3_moveStone 76 = .ok (.getfield 21, 3) := by decide +kernel
theorem dX3_moveStone_79 : decode cX3_moveStone 79 = .ok (.getfield 82, 3) := by decide +kernel
theorem dX3_moveStone_82 : decode cX3_moveStone 82 = .ok (.iload 4, 2) := by decide +kernel
theorem dX3_moveStone_84 : decode cX3_moveStone 84 = .ok (.iload_n 3, 1) := by decide +kernel
theorem dX3_moveStone_85 : decode cX3_moveStone 85 = .ok (.iastore, 1) := by decide +kernel
theorem dX3_moveStone_86 : decode cX3_moveStone 86 = .ok (.aload_n 0, 1) := by decide +kernel
theorem dX3_moveStone_87 : decode cX3_moveStone 87 = .ok (.dup, 1) := by decide +kernel
theorem dX3_moveStone_88 : decode cX3_moveStone 88 = .ok (.getfield 53, 3) := by decide +kernel
theorem dX3_moveStone_91 : decode cX3_moveStone 91 = .ok (.iload 5, 2) := by decide +kernel
theorem dX3_moveStone_93 : decode cX3_moveStone 93 = .ok (.invokestatic 92, 3) := by decide +kernel
theorem dX3_moveStone_96 : decode cX3_moveStone 96 = .ok (.iadd, 1) := by decide +kernel
theorem dX3_moveStone_97 : decode cX3_moveStone 97 = .ok (.putfield 53, 3) := by decide +kernel
theorem dX3_moveStone_100 : decode cX3_moveStone 100 = .ok (.iload 5, 2) := by decide +kernel
theorem dX3_moveStone_102 : decode cX3_moveStone 102 = .ok (.ireturn, 1) := by decide +kernel
set_option maxRecDepth 20000 in
theorem ggX3_turn_X2_hasField : GoodIn wsX3_turn wsX2_hasField := goodIn_r _ [11, 12, 13, 28, 29, 30, 31, 32, 33, 34, 35, 36, 37, 38, 39, 40, 41, 42, 43, 44, 45] (by decide +kernel) (by decide +kernel)
set_option maxRecDepth 20000 in
theorem gX3_turn_X2_hasField : GoodIn wsX3_turn (wsV RX3 60 RX2 yX2_hasField wsX2_hasField) := goodIn_app (goodIn_of _ (by decide +kernel)) ggX3_turn_X2_hasField
set_option maxRecDepth 20000 in
theorem ggX3_turn_X3_isWithin : GoodIn wsX3_turn wsX3_isWithin := goodIn_r _ [17] (by decide +kernel) (by decide +kernel)
set_option maxRecDepth 20000 in
theorem gX3_turn_X3_isWithin : GoodIn wsX3_turn (va_wsS RX3 35 yX3_isWithin wsX3_isWithin) := goodIn_app (goodIn_of _ (by decide +kernel)) ggX3_turn_X3_isWithin
set_option maxRecDepth 20000 in
theorem ggX3_turn_X2_cellOf : GoodIn wsX3_turn wsX2_cellOf := goodIn_r _ [21, 13, 28, 29, 30, 31, 32, 33, 34, 35, 36, 37, 38, 39, 40, 41, 42, 43, 44, 45] (by decide +kernel) (by decide +kernel)
set_option maxRecDepth 20000 in
theorem gX3_turn_X2_cellOf : GoodIn wsX3_turn (wsV RX3 71 RX2 yX2_cellOf wsX2_cellOf) := goodIn_app (goodIn_of _ (by decide +kernel)) ggX3_turn_X2_cellOf
theorem dX3_turn_0 : decode cX3_turn 0 = .ok (.aload_n 0, 1) := by decide +kernel
theorem dX3_turn_1 : decode cX3_turn 1 = .ok (.getfield 21, 3) := by decide +kernel
theorem dX3_turn_4 : decode cX3_turn 4 = .ok (.iload_n 1, 1) := by decide +kernel
theorem dX3_turn_5 : decode cX3_turn 5 = .ok (.iload_n 2, 1) := by decide +kernel
theorem dX3_turn_6 : decode cX3_turn 6 = .ok (.invokevirtual 60, 3) := by decide +kernel
theorem dX3_turn_9 : decode cX3_turn 9 = .ok (.ifCond .ne 13, 3) := by decide +kernel
theorem dX3_turn_12 : decode cX3_turn 12 = .ok (.new 64, 3) := by decide +kernel
theorem dX3_turn_15 : decode cX3_turn 15 = .ok (.dup, 1) := by decide +kernel
theorem dX3_turn_16 : decode cX3_turn 16 = .ok (.ldc 66, 2) := by decide +kernel
theorem dX3_turn_18 : decode cX3_turn 18 = .ok (.invokespecial 68, 3) := by decide +kernel
theorem dX3_turn_21 : decode cX3_turn 21 = .ok (.athrow, 1) := by decide +kernel
theorem dX3_turn_22 : decode cX3_turn 22 = .ok (.iload_n 3, 1) := by decide +kernel
theorem dX3_turn_23 : decode cX3_turn 23 = .ok (.iconst (-1), 1) := by decide +kernel
theorem dX3_turn_24 : decode cX3_turn 24 = .ok (.iconst 1, 1) := by decide +kernel
theorem dX3_turn_25 : decode cX3_turn 25 = .ok (.invokestatic 35, 3) := by decide +kernel
theorem dX3_turn_28 : decode cX3_turn 28 = .ok (.ifCond .ne 13, 3) := by decide +kernel
theorem dX3_turn_31 : decode cX3_turn 31 = .ok (.new 39, 3) := by decide +kernel
theorem dX3_turn_34 : decode cX3_turn 34 = .ok (.dup, 1) := by decide +kernel
theorem dX3_turn_35 : decode cX3_turn 35 = .ok (.ldc 96, 2) := by decide +kernel
theorem dX3_turn_37 : decode cX3_turn 37 = .ok (.invokespecial 43, 3) := by decide +kernel
theorem dX3_turn_40 : decode cX3_turn 40 = .ok (.athrow, 1) := by decide +kernel
theorem dX3_turn_41 : decode cX3_turn 41 = .ok (.aload_n 0, 1) := by decide +kernel
theorem dX3_turn_42 : decode cX3_turn 42 = .ok (.getfield 21, 3) := by decide +kernel
theorem dX3_turn_45 : decode cX3_turn 45 = .ok (.iload_n 1, 1) := by decide +kernel
theorem dX3_turn_46 : decode cX3_turn 46 = .ok (.iload_n 2, 1) := by decide +kernel
theorem dX3_turn_47 : decode cX3_turn 47 = .ok (.invokevirtual 71, 3) := by decide +kernel
theorem dX3_turn_50 : decode cX3_turn 50 = .ok (.istore 4, 2) := by decide +kernel
theorem dX3_turn_52 : decode cX3_turn 52 = .ok (.aload_n 0, 1) := by decide +kernel
theorem dX3_turn_53 : decode cX3_turn 53 = .ok (.getfield 21, 3) := by decide +kernel
theorem dX3_turn_56 : decode cX3_turn 56 = .ok (.getfield 98, 3) := by decide +kernel
theorem dX3_turn_59 : decode cX3_turn 59 = .ok (.iload 4, 2) := by decide +kernel
theorem dX3_turn_61 : decode cX3_turn 61 = .ok (.iaload, 1) := by decide +kernel
theorem dX3_turn_62 : decode cX3_turn 62 = .ok (.istore 5, 2) := by decide +kernel
theorem dX3_turn_64 : decode cX3_turn 64 = .ok (.aload_n 0, 1) := by decide +kernel
theorem dX3_turn_65 : decode cX3_turn 65 = .ok (.getfield 21, 3) := by decide +kernel
theorem dX3_turn_68 : decode cX3_turn 68 = .ok (.getfield 98, 3) := by decide +kernel
theorem dX3_turn_71 : decode cX3_turn 71 = .ok (.iload 4, 2) := by decide +kernel
theorem dX3_turn_73 : decode cX3_turn 73 = .ok (.iload_n 3, 1) := by decide +kernel
theorem dX3_turn_74 : decode cX3_turn 74 = .ok (.iastore, 1) := by decide +kernel
theorem dX3_turn_75 : decode cX3_turn 75 = .ok (.iload 5, 2) := by decide +kernel
theorem dX3_turn_77 : decode cX3_turn 77 = .ok (.ireturn, 1) := by decide +kernel
set_option maxRecDepth 20000 in
theorem ggX3_setShare_X2_hasField : GoodIn wsX3_setShare wsX2_hasField := goodIn_r _ [11, 12, 13, 24, 25, 26, 27, 28, 29, 30, 31, 32, 33, 34, 35, 36, 37, 38, 39, 40, 41] (by decide +kernel) (by decide +kernel)
set_option maxRecDepth 20000 in
theorem gX3_setShare_X2_hasField : GoodIn wsX3_setShare (wsV RX3 60 RX2 yX2_hasField wsX2_hasField) := goodIn_app (goodIn_of _ (by decide +kernel)) ggX3_setShare_X2_hasField
set_option maxRecDepth 20000 in
theorem ggX3_setShare_X3_isWithin : GoodIn wsX3_setShare wsX3_isWithin := goodIn_r _ [17] (by decide +kernel) (by decide +kernel)
set_option maxRecDepth 20000 in
theorem gX3_setShare_X3_isWithin : GoodIn wsX3_setShare (va_wsS RX3 35 yX3_isWithin wsX3_isWithin) := goodIn_app (goodIn_of _ (by decide +kernel)) ggX3_setShare_X3_isWithin
theorem dX3_setShare_0 : decode cX3_setShare 0 = .ok (.aload_n 0, 1) := by decide +kernel
theorem dX3_setShare_1 : decode cX3_setShare 1 = .ok (.getfield 21, 3) := by decide +kernel
theorem dX3_setShare_4 : decode cX3_setShare 4 = .ok (.iconst 0, 1) := by decide +kernel
theorem dX3_setShare_5 : decode cX3_setShare 5 = .ok (.iload_n 1, 1) := by decide +kernel
theorem dX3_setShare_6 : decode cX3_setShare 6 = .ok (.invokevirtual 60, 3) := by decide +kernel
theorem dX3_setShare_9 : decode cX3_setShare 9 = .ok (.ifCond .ne 13, 3) := by decide +kernel
theorem dX3_setShare_12 : decode cX3_setShare 12 = .ok (.new 64, 3) := by decide +kernel
theorem dX3_setShare_15 : decode cX3_setShare 15 = .ok (.dup, 1) := by decide +kernel
theorem dX3_setShare_16 : decode cX3_setShare 16 = .ok (.ldc 101, 2) := by decide +kernel
theorem dX3_setShare_18 : decode cX3_setShare 18 = .ok (.invokespecial 68, 3) := by decide +kernel
theorem dX3_setShare_21 : decode cX3_setShare 21 = .ok (.athrow, 1) := by decide +kernel
theorem dX3_setShare_22 : decode cX3_setShare 22 = .ok (.iload_n 2, 1) := by decide +kernel
theorem dX3_setShare_23 : decode cX3_setShare 23 = .ok (.iconst 0, 1) := by decide +kernel
theorem dX3_setShare_24 : decode cX3_setShare 24 = .ok (.bipush 9, 2) := by decide +kernel
theorem dX3_setShare_26 : decode cX3_setShare 26 = .ok (.invokestatic 35, 3) := by decide +kernel
theorem dX3_setShare_29 : decode cX3_setShare 29 = .ok (.ifCond .ne 13, 3) := by decide +kernel
theorem dX3_setShare_32 : decode cX3_setShare 32 = .ok (.new 39, 3) := by decide +kernel
theorem dX3_setShare_35 : decode cX3_setShare 35 = .ok (.dup, 1) := by decide +kernel
theorem dX3_setShare_36 : decode cX3_setShare 36 = .ok (.ldc 103, 2) := by decide +kernel
theorem dX3_setShare_38 : decode cX3_setShare 38 = .ok (.invokespecial 43, 3) := by decide +kernel
theorem dX3_setShare_41 : decode cX3_setShare 41 = .ok (.athrow, 1) := by decide +kernel
theorem dX3_setShare_42 : decode cX3_setShare 42 = .ok (.aload_n 0, 1) := by decide +kernel
theorem dX3_setShare_43 : decode cX3_setShare 43 = .ok (.getfield 21, 3) := by decide +kernel
theorem dX3_setShare_46 : decode cX3_setShare 46 = .ok (.getfield 105, 3) := by decide +kernel
theorem dX3_setShare_49 : decode cX3_setShare 49 = .ok (.iload_n 1, 1) := by decide +kernel
theorem dX3_setShare_50 : decode cX3_setShare 50 = .ok (.iaload, 1) := by decide +kernel
theorem dX3_setShare_51 : decode cX3_setShare 51 = .ok (.istore_n 3, 1) := by decide +kernel
theorem dX3_setShare_52 : decode cX3_setShare 52 = .ok (.aload_n 0, 1) := by decide +kernel
theorem dX3_setShare_53 : decode cX3_setShare 53 = .ok (.getfield 21, 3) := by decide +kernel
theorem dX3_setShare_56 : decode cX3_setShare 56 = .ok (.getfield 105, 3) := by decide +kernel
theorem dX3_setShare_59 : decode cX3_setShare 59 = .ok (.iload_n 1, 1) := by decide +kernel
theorem dX3_setShare_60 : decode cX3_setShare 60 = .ok (.iload_n 2, 1) := by decide +kernel
theorem dX3_setShare_61 : decode cX3_setShare 61 = .ok (.iastore, 1) := by decide +kernel
theorem dX3_setShare_62 : decode cX3_setShare 62 = .ok (.iload_n 3, 1) := by decide +kernel
theorem dX3_setShare_63 : decode cX3_setShare 63 = .ok (.ireturn, 1) := by decide +kernel
set_option maxRecDepth 20000 in
theorem ggX3_setDay_X3_isWithin : GoodIn wsX3_setDay wsX3_isWithin := goodIn_r _ [12] (by decide +kernel) (by decide +kernel)
set_option maxRecDepth 20000 in
theorem gX3_setDay_X3_isWithin : GoodIn wsX3_setDay (va_wsS RX3 35 yX3_isWithin wsX3_isWithin) := goodIn_app (goodIn_of _ (by decide +kernel)) ggX3_setDay_X3_isWithin
theorem dX3_setDay_0 : decode cX3_setDay 0 = .ok (.iload_n 1, 1) := by decide +kernel
theorem dX3_setDay_1 : decode cX3_setDay 1 = .ok (.iconst 0, 1) := by decide +kernel
theorem dX3_setDay_2 : decode cX3_setDay 2 = .ok (.bipush 29, 2) := by decide +kernel
theorem dX3_setDay_4 : decode cX3_setDay 4 = .ok (.invokestatic 35, 3) := by decide +kernel
theorem dX3_setDay_7 : decode cX3_setDay 7 = .ok (.ifCond .ne 13, 3) := by decide +kernel
theorem dX3_setDay_10 : decode cX3_setDay 10 = .ok (.new 64, 3) := by decide +kernel
theorem dX3_setDay_13 : decode cX3_setDay 13 = .ok (.dup, 1) := by decide +kernel
theorem dX3_setDay_14 : decode cX3_setDay 14 = .ok (.ldc 108, 2) := by decide +kernel
theorem dX3_setDay_16 : decode cX3_setDay 16 = .ok (.invokespecial 68, 3) := by decide +kernel
theorem dX3_setDay_19 : decode cX3_setDay 19 = .ok (.athrow, 1) := by decide +kernel
theorem dX3_setDay_20 : decode cX3_setDay 20 = .ok (.iload_n 2, 1) := by decide +kernel
theorem dX3_setDay_21 : decode cX3_setDay 21 = .ok (.iconst 0, 1) := by decide +kernel
theorem dX3_setDay_22 : decode cX3_setDay 22 = .ok (.bipush 60, 2) := by decide +kernel
theorem dX3_setDay_24 : decode cX3_setDay 24 = .ok (.invokestatic 35, 3) := by decide +kernel
theorem dX3_setDay_27 : decode cX3_setDay 27 = .ok (.ifCond .eq 25, 3) := by decide +kernel
theorem dX3_setDay_30 : decode cX3_setDay 30 = .ok (.iload_n 3, 1) := by decide +kernel
theorem dX3_setDay_31 : decode cX3_setDay 31 = .ok (.iconst 0, 1) := by decide +kernel
theorem dX3_setDay_32 : decode cX3_setDay 32 = .ok (.sipush 400, 3) := by decide +kernel
theorem dX3_setDay_35 : decode cX3_setDay 35 = .ok (.invokestatic 35, 3) := by decide +kernel
theorem dX3_setDay_38 : decode cX3_setDay 38 = .ok (.ifCond .eq 14, 3) := by decide +kernel
theorem dX3_setDay_41 : decode cX3_setDay 41 = .ok (.iload 4, 2) := by decide +kernel
theorem dX3_setDay_43 : decode cX3_setDay 43 = .ok (.iconst 0, 1) := by decide +kernel
theorem dX3_setDay_44 : decode cX3_setDay 44 = .ok (.bipush 20, 2) := by decide +kernel
theorem dX3_setDay_46 : decode cX3_setDay 46 = .ok (.invokestatic 35, 3) := by decide +kernel
theorem dX3_setDay_49 : decode cX3_setDay 49 = .ok (.ifCond .ne 13, 3) := by decide +kernel
theorem dX3_setDay_52 : decode cX3_setDay 52 = .ok (.new 39, 3) := by decide +kernel
theorem dX3_setDay_55 : decode cX3_setDay 55 = .ok (.dup, 1) := by decide +kernel
theorem dX3_setDay_56 : decode cX3_setDay 56 = .ok (.ldc 110, 2) := by decide +kernel
theorem dX3_setDay_58 : decode cX3_setDay 58 = .ok (.invokespecial 43, 3) := by decide +kernel
theorem dX3_setDay_61 : decode cX3_setDay 61 = .ok (.athrow, 1) := by decide +kernel
theorem dX3_setDay_62 : decode cX3_setDay 62 = .ok (.aload_n 0, 1) := by decide +kernel
theorem dX3_setDay_63 : decode cX3_setDay 63 = .ok (.getfield 10, 3) := by decide +kernel
theorem dX3_setDay_66 : decode cX3_setDay 66 = .ok (.getfield 112, 3) := by decide +kernel
theorem dX3_setDay_69 : decode cX3_setDay 69 = .ok (.iload_n 1, 1) := by decide +kernel
theorem dX3_setDay_70 : decode cX3_setDay 70 = .ok (.iaload, 1) := by decide +kernel
theorem dX3_setDay_71 : decode cX3_setDay 71 = .ok (.istore 5, 2) := by decide +kernel
theorem dX3_setDay_73 : decode cX3_setDay 73 = .ok (.aload_n 0, 1) := by decide +kernel
theorem dX3_setDay_74 : decode cX3_setDay 74 = .ok (.getfield 10, 3) := by decide +kernel
theorem dX3_setDay_77 : decode cX3_setDay 77 = .ok (.getfield 115, 3) := by decide +kernel
theorem dX3_setDay_80 : decode cX3_setDay 80 = .ok (.iload_n 1, 1) := by decide +kernel
theorem dX3_setDay_81 : decode cX3_setDay 81 = .ok (.iload_n 2, 1) := by decide +kernel
theorem dX3_setDay_82 : decode cX3_setDay 82 = .ok (.iastore, 1) := by decide +kernel
theorem dX3_setDay_83 : decode cX3_setDay 83 = .ok (.aload_n 0, 1) := by decide +kernel
theorem dX3_setDay_84 : decode cX3_setDay 84 = .ok (.getfield 10, 3) := by decide +kernel
theorem dX3_setDay_87 : decode cX3_setDay 87 = .ok (.getfield 112, 3) := by decide +kernel
theorem dX3_setDay_90 : decode cX3_setDay 90 = .ok (.iload_n 1, 1) := by decide +kernel
theorem dX3_setDay_91 : decode cX3_setDay 91 = .ok (.iload_n 3, 1) := by decide +kernel
theorem dX3_setDay_92 : decode cX3_setDay 92 = .ok (.iastore, 1) := by decide +kernel
theorem dX3_setDay_93 : decode cX3_setDay 93 = .ok (.aload_n 0, 1) := by decide +kernel
theorem dX3_setDay_94 : decode cX3_setDay 94 = .ok (.getfield 10, 3) := by decide +kernel
theorem dX3_setDay_97 : decode cX3_setDay 97 = .ok (.getfield 118, 3) := by decide +kernel
theorem dX3_setDay_100 : decode cX3_setDay 100 = .ok (.iload_n 1, 1) := by decide +kernel
theorem dX3_setDay_101 : decode cX3_setDay 101 = .ok (.iload 4, 2) := by decide +kernel
theorem dX3_setDay_103 : decode cX3_setDay 103 = .ok (.iastore, 1) := by decide +kernel
theorem dX3_setDay_104 : decode cX3_setDay 104 = .ok (.iload 5, 2) := by decide +kernel
theorem dX3_setDay_106 : decode cX3_setDay 106 = .ok (.ireturn, 1) := by decide +kernel
set_option maxRecDepth 20000 in
theorem ggX3_plant_X2_hasField : GoodIn wsX3_plant wsX2_hasField := goodIn_r _ [15, 16, 17, 45, 46, 47, 48, 49, 50, 51, 52, 53, 54, 55, 56, 57, 58, 59, 60, 61, 62] (by decide +kernel) (by decide +kernel)
set_option maxRecDepth 20000 in
theorem gX3_plant_X2_hasField : GoodIn wsX3_plant (wsV RX3 60 RX2 yX2_hasField wsX2_hasField) := goodIn_app (goodIn_of _ (by decide +kernel)) ggX3_plant_X2_hasField
set_option maxRecDepth 20000 in
theorem ggX3_plant_X3_isWithin : GoodIn wsX3_plant wsX3_isWithin := goodIn_r _ [21] (by decide +kernel) (by decide +kernel)
set_option maxRecDepth 20000 in
theorem gX3_plant_X3_isWithin : GoodIn wsX3_plant (va_wsS RX3 35 yX3_isWithin wsX3_isWithin) := goodIn_app (goodIn_of _ (by decide +kernel)) ggX3_plant_X3_isWithin
set_option maxRecDepth 20000 in
theorem ggX3_plant_X2_cellOf : GoodIn wsX3_plant wsX2_cellOf := goodIn_r _ [25, 17, 45, 46, 47, 48, 49, 50, 51, 52, 53, 54, 55, 56, 57, 58, 59, 60, 61, 62] (by decide +kernel) (by decide +kernel)
set_option maxRecDepth 20000 in
theorem gX3_plant_X2_cellOf : GoodIn wsX3_plant (wsV RX3 71 RX2 yX2_cellOf wsX2_cellOf) := goodIn_app (goodIn_of _ (by decide +kernel)) ggX3_plant_X2_cellOf
set_option maxRecDepth 20000 in
theorem ggX3_plant_X2_crops : GoodIn wsX3_plant wsX2_crops := goodIn_r _ [29, 30, 31, 32, 33, 14, 34, 35, 36, 37, 38, 16, 17, 45, 46, 47, 48, 49, 50, 51, 52, 53, 54, 55, 56, 57, 58, 59, 60, 61, 62] (by decide +kernel) (by decide +kernel)
set_option maxRecDepth 20000 in
theorem gX3_plant_X2_crops : GoodIn wsX3_plant (wsV RX3 137 RX2 yX2_crops wsX2_crops) := goodIn_app (goodIn_of _ (by decide +kernel)) ggX3_plant_X2_crops
theorem dX3_plant_0 : decode cX3_plant 0 = .ok (.aload_n 0, 1) := by decide +kernel
theorem dX3_plant_1 : decode cX3_plant 1 = .ok (.getfield 21, 3) := by decide +kernel
theorem dX3_plant_4 : decode cX3_plant 4 = .ok (.iload_n 1, 1) := by decide +kernel
theorem dX3_plant_5 : decode cX3_plant 5 = .ok (.iload_n 2, 1) := by decide +kernel
theorem dX3_plant_6 : decode cX3_plant 6 = .ok (.invokevirtual 60, 3) := by decide +kernel
theorem dX3_plant_9 : decode cX3_plant 9 = .ok (.ifCond .ne 13, 3) := by decide +kernel
theorem dX3_plant_12 : decode cX3_plant 12 = .ok (.new 64, 3) := by decide +kernel
theorem dX3_plant_15 : decode cX3_plant 15 = .ok (.dup, 1) := by decide +kernel
theorem dX3_plant_16 : decode cX3_plant 16 = .ok (.ldc 66, 2) := by decide +kernel
theorem dX3_plant_18 : decode cX3_plant 18 = .ok (.invokespecial 68, 3) := by decide +kernel
theorem dX3_plant_21 : decode cX3_plant 21 = .ok (.athrow, 1) := by decide +kernel
theorem dX3_plant_22 : decode cX3_plant 22 = .ok (.iload_n 3, 1) := by decide +kernel
theorem dX3_plant_23 : decode cX3_plant 23 = .ok (.iconst 0, 1) := by decide +kernel
theorem dX3_plant_24 : decode cX3_plant 24 = .ok (.bipush 20, 2) := by decide +kernel
theorem dX3_plant_26 : decode cX3_plant 26 = .ok (.invokestatic 35, 3) := by decide +kernel
theorem dX3_plant_29 : decode cX3_plant 29 = .ok (.ifCond .ne 13, 3) := by decide +kernel
theorem dX3_plant_32 : decode cX3_plant 32 = .ok (.new 39, 3) := by decide +kernel
theorem dX3_plant_35 : decode cX3_plant 35 = .ok (.dup, 1) := by decide +kernel
theorem dX3_plant_36 : decode cX3_plant 36 = .ok (.ldc 121, 2) := by decide +kernel
theorem dX3_plant_38 : decode cX3_plant 38 = .ok (.invokespecial 43, 3) := by decide +kernel
theorem dX3_plant_41 : decode cX3_plant 41 = .ok (.athrow, 1) := by decide +kernel
theorem dX3_plant_42 : decode cX3_plant 42 = .ok (.aload_n 0, 1) := by decide +kernel
theorem dX3_plant_43 : decode cX3_plant 43 = .ok (.getfield 21, 3) := by decide +kernel
theorem dX3_plant_46 : decode cX3_plant 46 = .ok (.iload_n 1, 1) := by decide +kernel
theorem dX3_plant_47 : decode cX3_plant 47 = .ok (.iload_n 2, 1) := by decide +kernel
theorem dX3_plant_48 : decode cX3_plant 48 = .ok (.invokevirtual 71, 3) := by decide +kernel
theorem dX3_plant_51 : decode cX3_plant 51 = .ok (.istore 4, 2) := by decide +kernel
theorem dX3_plant_53 : decode cX3_plant 53 = .ok (.aload_n 0, 1) := by decide +kernel
theorem dX3_plant_54 : decode cX3_plant 54 = .ok (.getfield 21, 3) := by decide +kernel
theorem dX3_plant_57 : decode cX3_plant 57 = .ok (.getfield 123, 3) := by decide +kernel
theorem dX3_plant_60 : decode cX3_plant 60 = .ok (.iload 4, 2) := by decide +kernel
theorem dX3_plant_62 : decode cX3_plant 62 = .ok (.iaload, 1) := by decide +kernel
theorem dX3_plant_63 : decode cX3_plant 63 = .ok (.ifCond .ne 18, 3) := by decide +kernel
theorem dX3_plant_66 : decode cX3_plant 66 = .ok (.aload_n 0, 1) := by decide +kernel
theorem dX3_plant_67 : decode cX3_plant 67 = .ok (.getfield 21, 3) := by decide +kernel
theorem dX3_plant_70 : decode cX3_plant 70 = .ok (.getfield 126, 3) := by decide +kernel
theorem dX3_plant_73 : decode cX3_plant 73 = .ok (.iload 4, 2) := by decide +kernel
theorem dX3_plant_75 : decode cX3_plant 75 = .ok (.iaload, 1) := by decide +kernel
theorem dX3_plant_76 : decode cX3_plant 76 = .ok (.bipush 40, 2) := by decide +kernel
theorem dX3_plant_78 : decode cX3_plant 78 = .ok (.if_icmp .le 13, 3) := by decide +kernel
theorem dX3_plant_81 : decode cX3_plant 81 = .ok (.new 129, 3) := by decide +kernel
theorem dX3_plant_84 : decode cX3_plant 84 = .ok (.dup, 1) := by decide +kernel
theorem dX3_plant_85 : decode cX3_plant 85 = .ok (.ldc 131, 2) := by decide +kernel
theorem dX3_plant_87 : decode cX3_plant 87 = .ok (.invokespecial 133, 3) := by decide +kernel
theorem dX3_plant_90 : decode cX3_plant 90 = .ok (.athrow, 1) := by decide +kernel
theorem dX3_plant_91 : decode cX3_plant 91 = .ok (.aload_n 0, 1) := by decide +kernel
theorem dX3_plant_92 : decode cX3_plant 92 = .ok (.getfield 21, 3) := by decide +kernel
theorem dX3_plant_95 : decode cX3_plant 95 = .ok (.getfield 123, 3) := by decide +kernel
theorem dX3_plant_98 : decode cX3_plant 98 = .ok (.iload 4, 2) := by decide +kernel
theorem dX3_plant_100 : decode cX3_plant 100 = .ok (.iconst 1, 1) := by decide +kernel
theorem dX3_plant_101 : decode cX3_plant 101 = .ok (.iastore, 1) := by decide +kernel
theorem dX3_plant_102 : decode cX3_plant 102 = .ok (.aload_n 0, 1) := by decide +kernel
theorem dX3_plant_103 : decode cX3_plant 103 = .ok (.getfield 21, 3) := by decide +kernel
theorem dX3_plant_106 : decode cX3_plant 106 = .ok (.getfield 134, 3) := by decide +kernel
theorem dX3_plant_109 : decode cX3_plant 109 = .ok (.iload 4, 2) := by decide +kernel
theorem dX3_plant_111 : decode cX3_plant 111 = .ok (.iload_n 3, 1) := by decide +kernel
theorem dX3_plant_112 : decode cX3_plant 112 = .ok (.iastore, 1) := by decide +kernel
theorem dX3_plant_113 : decode cX3_plant 113 = .ok (.aload_n 0, 1) := by decide +kernel
theorem dX3_plant_114 : decode cX3_plant 114 = .ok (.getfield 21, 3) := by decide +kernel
theorem dX3_plant_117 : decode cX3_plant 117 = .ok (.invokevirtual 137, 3) := by decide +kernel
theorem dX3_plant_120 : decode cX3_plant 120 = .ok (.ireturn, 1) := by decide +kernel
set_option maxRecDepth 20000 in
theorem ggX3_reap_X2_hasField : GoodIn wsX3_reap wsX2_hasField := goodIn_r _ [15, 16, 17, 37, 38, 39, 40, 41, 42, 43, 44, 45, 46, 47, 48, 49, 50, 51, 52, 53, 54] (by decide +kernel) (by decide +kernel)
set_option maxRecDepth 20000 in
theorem gX3_reap_X2_hasField : GoodIn wsX3_reap (wsV RX3 60 RX2 yX2_hasField wsX2_hasField) := goodIn_app (goodIn_of _ (by decide +kernel)) ggX3_reap_X2_hasField
set_option maxRecDepth 20000 in
theorem ggX3_reap_X2_cellOf : GoodIn wsX3_reap wsX2_cellOf := goodIn_r _ [21, 17, 37, 38, 39, 40, 41, 42, 43, 44, 45, 46, 47, 48, 49, 50, 51, 52, 53, 54] (by decide +kernel) (by decide +kernel)
set_option maxRecDepth 20000 in
theorem gX3_reap_X2_cellOf : GoodIn wsX3_reap (wsV RX3 71 RX2 yX2_cellOf wsX2_cellOf) := goodIn_app (goodIn_of _ (by decide +kernel)) ggX3_reap_X2_cellOf
set_option maxRecDepth 20000 in
theorem ggX3_reap_X2_clearCrop : GoodIn wsX3_reap wsX2_clearCrop := goodIn_r _ [25, 26, 27, 28, 29, 30, 37, 38, 39, 40, 41, 42, 43, 44, 45, 46, 47, 48, 49, 50, 51, 52, 53, 54] (by decide +kernel) (by decide +kernel)
set_option maxRecDepth 20000 in
theorem gX3_reap_X2_clearCrop : GoodIn wsX3_reap (wsV RX3 145 RX2 yX2_clearCrop wsX2_clearCrop) := goodIn_app (goodIn_of _ (by decide +kernel)) ggX3_reap_X2_clearCrop
theorem dX3_reap_0 : decode cX3_reap 0 = .ok (.aload_n 0, 1) := by decide +kernel
theorem dX3_reap_1 : decode cX3_reap 1 = .ok (.getfield 21, 3) := by decide +kernel
theorem dX3_reap_4 : decode cX3_reap 4 = .ok (.iload_n 1, 1) := by decide +kernel
theorem dX3_reap_5 : decode cX3_reap 5 = .ok (.iload_n 2, 1) := by decide +kernel
theorem dX3_reap_6 : decode cX3_reap 6 = .ok (.invokevirtual 60, 3) := by decide +kernel
theorem dX3_reap_9 : decode cX3_reap 9 = .ok (.ifCond .ne 13, 3) := by decide +kernel
theorem dX3_reap_12 : decode cX3_reap 12 = .ok (.new 64, 3) := by decide +kernel
theorem dX3_reap_15 : decode cX3_reap 15 = .ok (.dup, 1) := by decide +kernel
theorem dX3_reap_16 : decode cX3_reap 16 = .ok (.ldc 66, 2) := by decide +kernel
theorem dX3_reap_18 : decode cX3_reap 18 = .ok (.invokespecial 68, 3) := by decide +kernel
theorem dX3_reap_21 : decode cX3_reap 21 = .ok (.athrow, 1) := by decide +kernel
theorem dX3_reap_22 : decode cX3_reap 22 = .ok (.aload_n 0, 1) := by decide +kernel
theorem dX3_reap_23 : decode cX3_reap 23 = .ok (.getfield 21, 3) := by decide +kernel
theorem dX3_reap_26 : decode cX3_reap 26 = .ok (.iload_n 1, 1) := by decide +kernel
theorem dX3_reap_27 : decode cX3_reap 27 = .ok (.iload_n 2, 1) := by decide +kernel
theorem dX3_reap_28 : decode cX3_reap 28 = .ok (.invokevirtual 71, 3) := by decide +kernel
theorem dX3_reap_31 : decode cX3_reap 31 = .ok (.istore_n 3, 1) := by decide +kernel
theorem dX3_reap_32 : decode cX3_reap 32 = .ok (.aload_n 0, 1) := by decide +kernel
theorem dX3_reap_33 : decode cX3_reap 33 = .ok (.getfield 21, 3) := by decide +kernel
theorem dX3_reap_36 : decode cX3_reap 36 = .ok (.getfield 123, 3) := by decide +kernel
theorem dX3_reap_39 : decode cX3_reap 39 = .ok (.iload_n 3, 1) := by decide +kernel
theorem dX3_reap_40 : decode cX3_reap 40 = .ok (.iaload, 1) := by decide +kernel
theorem dX3_reap_41 : decode cX3_reap 41 = .ok (.ifCond .eq 17, 3) := by decide +kernel
theorem dX3_reap_44 : decode cX3_reap 44 = .ok (.aload_n 0, 1) := by decide +kernel
theorem dX3_reap_45 : decode cX3_reap 45 = .ok (.getfield 21, 3) := by decide +kernel
theorem dX3_reap_48 : decode cX3_reap 48 = .ok (.getfield 134, 3) := by decide +kernel
theorem dX3_reap_51 : decode cX3_reap 51 = .ok (.iload_n 3, 1) := by decide +kernel
theorem dX3_reap_52 : decode cX3_reap 52 = .ok (.iaload, 1) := by decide +kernel
theorem dX3_reap_53 : decode cX3_reap 53 = .ok (.bipush 40, 2) := by decide +kernel
theorem dX3_reap_55 : decode cX3_reap 55 = .ok (.if_icmp .ge 13, 3) := by decide +kernel
theorem dX3_reap_58 : decode cX3_reap 58 = .ok (.new 129, 3) := by decide +kernel
theorem dX3_reap_61 : decode cX3_reap 61 = .ok (.dup, 1) := by decide +kernel
theorem dX3_reap_62 : decode cX3_reap 62 = .ok (.ldc 140, 2) := by decide +kernel
theorem dX3_reap_64 : decode cX3_reap 64 = .ok (.invokespecial 133, 3) := by decide +kernel
theorem dX3_reap_67 : decode cX3_reap 67 = .ok (.athrow, 1) := by decide +kernel
theorem dX3_reap_68 : decode cX3_reap 68 = .ok (.aload_n 0, 1) := by decide +kernel
theorem dX3_reap_69 : decode cX3_reap 69 = .ok (.getfield 21, 3) := by decide +kernel
theorem dX3_reap_72 : decode cX3_reap 72 = .ok (.getfield 134, 3) := by decide +kernel
theorem dX3_reap_75 : decode cX3_reap 75 = .ok (.iload_n 3, 1) := by decide +kernel
theorem dX3_reap_76 : decode cX3_reap 76 = .ok (.iaload, 1) := by decide +kernel
theorem dX3_reap_77 : decode cX3_reap 77 = .ok (.aload_n 0, 1) := by decide +kernel
theorem dX3_reap_78 : decode cX3_reap 78 = .ok (.getfield 21, 3) := by decide +kernel
end
section
theorem dX3_reap_81 : decode cX3_reap 81 = .ok (.getfield 142, 3) := by decide +kernel
theorem dX3_reap_84 : decode cX3_reap 84 = .ok (.iload_n 3, 1) := by decide +kernel
theorem dX3_reap_85 : decode cX3_reap 85 = .ok (.iaload, 1) := by decide +kernel
theorem dX3_reap_86 : decode cX3_reap 86 = .ok (.imul, 1) := by decide +kernel
theorem dX3_reap_87 : decode cX3_reap 87 = .ok (.bipush 100, 2) := by decide +kernel
theorem dX3_reap_89 : decode cX3_reap 89 = .ok (.idiv, 1) := by decide +kernel
theorem dX3_reap_90 : decode cX3_reap 90 = .ok (.istore 4, 2) := by decide +kernel
theorem dX3_reap_92 : decode cX3_reap 92 = .ok (.aload_n 0, 1) := by decide +kernel
theorem dX3_reap_93 : decode cX3_reap 93 = .ok (.getfield 21, 3) := by decide +kernel
theorem dX3_reap_96 : decode cX3_reap 96 = .ok (.getfield 126, 3) := by decide +kernel
theorem dX3_reap_99 : decode cX3_reap 99 = .ok (.iload_n 3, 1) := by decide +kernel
theorem dX3_reap_100 : decode cX3_reap 100 = .ok (.iaload, 1) := by decide +kernel
theorem dX3_reap_101 : decode cX3_reap 101 = .ok (.ifCond .ne 12, 3) := by decide +kernel
theorem dX3_reap_104 : decode cX3_reap 104 = .ok (.iload 4, 2) := by decide +kernel
theorem dX3_reap_106 : decode cX3_reap 106 = .ok (.iload 4, 2) := by decide +kernel
theorem dX3_reap_108 : decode cX3_reap 108 = .ok (.iconst 2, 1) := by decide +kernel
theorem dX3_reap_109 : decode cX3_reap 109 = .ok (.idiv, 1) := by decide +kernel
theorem dX3_reap_110 : decode cX3_reap 110 = .ok (.iadd, 1) := by decide +kernel
theorem dX3_reap_111 : decode cX3_reap 111 = .ok (.istore 4, 2) := by decide +kernel
theorem dX3_reap_113 : decode cX3_reap 113 = .ok (.aload_n 0, 1) := by decide +kernel
theorem dX3_reap_114 : decode cX3_reap 114 = .ok (.getfield 21, 3) := by decide +kernel
theorem dX3_reap_117 : decode cX3_reap 117 = .ok (.iload_n 3, 1) := by decide +kernel
theorem dX3_reap_118 : decode cX3_reap 118 = .ok (.invokevirtual 145, 3) := by decide +kernel
theorem dX3_reap_121 : decode cX3_reap 121 = .ok (.aload_n 0, 1) := by decide +kernel
theorem dX3_reap_122 : decode cX3_reap 122 = .ok (.dup, 1) := by decide +kernel
theorem dX3_reap_123 : decode cX3_reap 123 = .ok (.getfield 49, 3) := by decide +kernel
theorem dX3_reap_126 : decode cX3_reap 126 = .ok (.iload 4, 2) := by decide +kernel
theorem dX3_reap_128 : decode cX3_reap 128 = .ok (.iadd, 1) := by decide +kernel
theorem dX3_reap_129 : decode cX3_reap 129 = .ok (.putfield 49, 3) := by decide +kernel
theorem dX3_reap_132 : decode cX3_reap 132 = .ok (.iload 4, 2) := by decide +kernel
theorem dX3_reap_134 : decode cX3_reap 134 = .ok (.ireturn, 1) := by decide +kernel
set_option maxRecDepth 20000 in
theorem ggX3_pass_X3_isWithin : GoodIn wsX3_pass wsX3_isWithin := goodIn_r _ [11] (by decide +kernel) (by decide +kernel)
set_option maxRecDepth 20000 in
theorem gX3_pass_X3_isWithin : GoodIn wsX3_pass (va_wsS RX3 35 yX3_isWithin wsX3_isWithin) := goodIn_app (goodIn_of _ (by decide +kernel)) ggX3_pass_X3_isWithin
set_option maxRecDepth 20000 in
theorem ggX3_pass_X2_letDaysGoBy : GoodIn wsX3_pass wsX2_letDaysGoBy := goodIn_r _ [16, 17, 18, 19, 20, 21, 22, 23, 15, 24, 25, 26, 27, 28, 29, 30, 31, 32, 33, 34, 35, 36, 37, 38, 39, 40, 41, 42, 43, 44, 45, 46, 47, 48, 49, 50, 51, 52, 53, 54, 55, 56, 57, 58, 59, 60, 61, 62, 63, 64, 65, 66, 67, 68, 69, 70, 71, 72, 73, 74, 75, 76, 77, 78, 79, 80, 81, 82, 83, 84, 85, 86, 87, 88, 89, 90, 91, 92, 93, 94, 95, 96, 9, 10, 11, 111, 112, 113, 114, 115, 116, 117, 118, 119, 120, 121, 122, 123, 124, 125, 126, 127, 128, 129, 130, 131] (by decide +kernel) (by decide +kernel)
set_option maxRecDepth 20000 in
theorem gX3_pass_X2_letDaysGoBy : GoodIn wsX3_pass (wsV RX3 156 RX2 yX2_letDaysGoBy wsX2_letDaysGoBy) := goodIn_app (goodIn_of _ (by decide +kernel)) ggX3_pass_X2_letDaysGoBy
set_option maxRecDepth 20000 in
theorem ggX3_pass_X2_crops : GoodIn wsX3_pass wsX2_crops := goodIn_r _ [100, 79, 101, 102, 103, 15, 104, 26, 27, 28, 29, 30, 31, 111, 112, 113, 114, 115, 116, 117, 118, 119, 120, 121, 122, 123, 124, 125, 126, 127, 128] (by decide +kernel) (by decide +kernel)
set_option maxRecDepth 20000 in
theorem gX3_pass_X2_crops : GoodIn wsX3_pass (wsV RX3 137 RX2 yX2_crops wsX2_crops) := goodIn_app (goodIn_of _ (by decide +kernel)) ggX3_pass_X2_crops
theorem dX3_pass_0 : decode cX3_pass 0 = .ok (.iload_n 1, 1) := by decide +kernel
theorem dX3_pass_1 : decode cX3_pass 1 = .ok (.iconst 1, 1) := by decide +kernel
theorem dX3_pass_2 : decode cX3_pass 2 = .ok (.bipush 60, 2) := by decide +kernel
theorem dX3_pass_4 : decode cX3_pass 4 = .ok (.invokestatic 35, 3) := by decide +kernel
theorem dX3_pass_7 : decode cX3_pass 7 = .ok (.ifCond .ne 13, 3) := by decide +kernel
theorem dX3_pass_10 : decode cX3_pass 10 = .ok (.new 39, 3) := by decide +kernel
theorem dX3_pass_13 : decode cX3_pass 13 = .ok (.dup, 1) := by decide +kernel
theorem dX3_pass_14 : decode cX3_pass 14 = .ok (.ldc 149, 2) := by decide +kernel
theorem dX3_pass_16 : decode cX3_pass 16 = .ok (.invokespecial 43, 3) := by decide +kernel
theorem dX3_pass_19 : decode cX3_pass 19 = .ok (.athrow, 1) := by decide +kernel
theorem dX3_pass_20 : decode cX3_pass 20 = .ok (.aload_n 0, 1) := by decide +kernel
theorem dX3_pass_21 : decode cX3_pass 21 = .ok (.getfield 21, 3) := by decide +kernel
theorem dX3_pass_24 : decode cX3_pass 24 = .ok (.getfield 151, 3) := by decide +kernel
theorem dX3_pass_27 : decode cX3_pass 27 = .ok (.iload_n 1, 1) := by decide +kernel
theorem dX3_pass_28 : decode cX3_pass 28 = .ok (.iadd, 1) := by decide +kernel
theorem dX3_pass_29 : decode cX3_pass 29 = .ok (.sipush 2000, 3) := by decide +kernel
theorem dX3_pass_32 : decode cX3_pass 32 = .ok (.if_icmp .le 13, 3) := by decide +kernel
theorem dX3_pass_35 : decode cX3_pass 35 = .ok (.new 129, 3) := by decide +kernel
theorem dX3_pass_38 : decode cX3_pass 38 = .ok (.dup, 1) := by decide +kernel
theorem dX3_pass_39 : decode cX3_pass 39 = .ok (.ldc 154, 2) := by decide +kernel
theorem dX3_pass_41 : decode cX3_pass 41 = .ok (.invokespecial 133, 3) := by decide +kernel
theorem dX3_pass_44 : decode cX3_pass 44 = .ok (.athrow, 1) := by decide +kernel
theorem dX3_pass_45 : decode cX3_pass 45 = .ok (.aload_n 0, 1) := by decide +kernel
theorem dX3_pass_46 : decode cX3_pass 46 = .ok (.getfield 21, 3) := by decide +kernel
theorem dX3_pass_49 : decode cX3_pass 49 = .ok (.iload_n 1, 1) := by decide +kernel
theorem dX3_pass_50 : decode cX3_pass 50 = .ok (.aload_n 0, 1) := by decide +kernel
theorem dX3_pass_51 : decode cX3_pass 51 = .ok (.getfield 10, 3) := by decide +kernel
theorem dX3_pass_54 : decode cX3_pass 54 = .ok (.invokevirtual 156, 3) := by decide +kernel
theorem dX3_pass_57 : decode cX3_pass 57 = .ok (.aload_n 0, 1) := by decide +kernel
theorem dX3_pass_58 : decode cX3_pass 58 = .ok (.getfield 21, 3) := by decide +kernel
theorem dX3_pass_61 : decode cX3_pass 61 = .ok (.invokevirtual 137, 3) := by decide +kernel
theorem dX3_pass_64 : decode cX3_pass 64 = .ok (.ireturn, 1) := by decide +kernel
set_option maxRecDepth 20000 in
theorem ggX3_field_X2_hasField : GoodIn wsX3_field wsX2_hasField := goodIn_r _ [8, 9, 10, 41, 42, 43, 44, 45, 46, 47, 48, 49, 50, 51, 52, 53, 54, 55, 56, 57, 58] (by decide +kernel) (by decide +kernel)
set_option maxRecDepth 20000 in
theorem gX3_field_X2_hasField : GoodIn wsX3_field (wsV RX3 60 RX2 yX2_hasField wsX2_hasField) := goodIn_app (goodIn_of _ (by decide +kernel)) ggX3_field_X2_hasField
set_option maxRecDepth 20000 in
theorem ggX3_field_X3_isWithin : GoodIn wsX3_field wsX3_isWithin := goodIn_r _ [14] (by decide +kernel) (by decide +kernel)
set_option maxRecDepth 20000 in
theorem gX3_field_X3_isWithin : GoodIn wsX3_field (va_wsS RX3 35 yX3_isWithin wsX3_isWithin) := goodIn_app (goodIn_of _ (by decide +kernel)) ggX3_field_X3_isWithin
set_option maxRecDepth 20000 in
theorem ggX3_field_X2_cellOf : GoodIn wsX3_field wsX2_cellOf := goodIn_r _ [18, 10, 41, 42, 43, 44, 45, 46, 47, 48, 49, 50, 51, 52, 53, 54, 55, 56, 57, 58] (by decide +kernel) (by decide +kernel)
set_option maxRecDepth 20000 in
theorem gX3_field_X2_cellOf : GoodIn wsX3_field (wsV RX3 71 RX2 yX2_cellOf wsX2_cellOf) := goodIn_app (goodIn_of _ (by decide +kernel)) ggX3_field_X2_cellOf
set_option maxRecDepth 20000 in
theorem ggX3_field_X2_fieldNumber : GoodIn wsX3_field wsX2_fieldNumber := goodIn_r _ [22, 23, 24, 25, 26, 27, 28, 29, 30, 31, 32, 33, 34, 41, 42, 43, 44, 45, 46, 47, 48, 49, 50, 51, 52, 53, 54, 55, 56, 57, 58] (by decide +kernel) (by decide +kernel)
set_option maxRecDepth 20000 in
theorem gX3_field_X2_fieldNumber : GoodIn wsX3_field (wsV RX3 162 RX2 yX2_fieldNumber wsX2_fieldNumber) := goodIn_app (goodIn_of _ (by decide +kernel)) ggX3_field_X2_fieldNumber
theorem dX3_field_0 : decode cX3_field 0 = .ok (.aload_n 0, 1) := by decide +kernel
theorem dX3_field_1 : decode cX3_field 1 = .ok (.getfield 21, 3) := by decide +kernel
theorem dX3_field_4 : decode cX3_field 4 = .ok (.iload_n 1, 1) := by decide +kernel
theorem dX3_field_5 : decode cX3_field 5 = .ok (.iload_n 2, 1) := by decide +kernel
theorem dX3_field_6 : decode cX3_field 6 = .ok (.invokevirtual 60, 3) := by decide +kernel
theorem dX3_field_9 : decode cX3_field 9 = .ok (.ifCond .eq 13, 3) := by decide +kernel
theorem dX3_field_12 : decode cX3_field 12 = .ok (.iload_n 3, 1) := by decide +kernel
theorem dX3_field_13 : decode cX3_field 13 = .ok (.iconst 0, 1) := by decide +kernel
theorem dX3_field_14 : decode cX3_field 14 = .ok (.bipush 11, 2) := by decide +kernel
theorem dX3_field_16 : decode cX3_field 16 = .ok (.invokestatic 35, 3) := by decide +kernel
theorem dX3_field_19 : decode cX3_field 19 = .ok (.ifCond .ne 13, 3) := by decide +kernel
theorem dX3_field_22 : decode cX3_field 22 = .ok (.new 64, 3) := by decide +kernel
theorem dX3_field_25 : decode cX3_field 25 = .ok (.dup, 1) := by decide +kernel
theorem dX3_field_26 : decode cX3_field 26 = .ok (.ldc 160, 2) := by decide +kernel
theorem dX3_field_28 : decode cX3_field 28 = .ok (.invokespecial 68, 3) := by decide +kernel
theorem dX3_field_31 : decode cX3_field 31 = .ok (.athrow, 1) := by decide +kernel
theorem dX3_field_32 : decode cX3_field 32 = .ok (.aload_n 0, 1) := by decide +kernel
theorem dX3_field_33 : decode cX3_field 33 = .ok (.getfield 21, 3) := by decide +kernel
theorem dX3_field_36 : decode cX3_field 36 = .ok (.aload_n 0, 1) := by decide +kernel
theorem dX3_field_37 : decode cX3_field 37 = .ok (.getfield 21, 3) := by decide +kernel
theorem dX3_field_40 : decode cX3_field 40 = .ok (.iload_n 1, 1) := by decide +kernel
theorem dX3_field_41 : decode cX3_field 41 = .ok (.iload_n 2, 1) := by decide +kernel
theorem dX3_field_42 : decode cX3_field 42 = .ok (.invokevirtual 71, 3) := by decide +kernel
theorem dX3_field_45 : decode cX3_field 45 = .ok (.iload_n 3, 1) := by decide +kernel
theorem dX3_field_46 : decode cX3_field 46 = .ok (.invokevirtual 162, 3) := by decide +kernel
theorem dX3_field_49 : decode cX3_field 49 = .ok (.ireturn, 1) := by decide +kernel
set_option maxRecDepth 20000 in
theorem ggX3_count_X3_isWithin : GoodIn wsX3_count wsX3_isWithin := goodIn_r _ [6] (by decide +kernel) (by decide +kernel)
set_option maxRecDepth 20000 in
theorem gX3_count_X3_isWithin : GoodIn wsX3_count (va_wsS RX3 35 yX3_isWithin wsX3_isWithin) := goodIn_app (goodIn_of _ (by decide +kernel)) ggX3_count_X3_isWithin
set_option maxRecDepth 20000 in
theorem ggX3_count_X3_countNumber : GoodIn wsX3_count wsX3_countNumber := goodIn_r _ [10, 11, 12, 13, 14, 15, 16, 17, 18, 19, 20, 21, 22, 23, 24, 25, 26, 27, 28, 29, 30, 31, 32, 33, 34, 35, 36, 37, 38, 39, 40, 41, 42, 43, 44, 45, 46, 47, 48, 49, 50, 51, 52, 53, 54, 55, 56, 57, 58, 59, 60, 61, 62, 63] (by decide +kernel) (by decide +kernel)
set_option maxRecDepth 20000 in
theorem gX3_count_X3_countNumber : GoodIn wsX3_count (wsV RX3 167 RX3 yX3_countNumber wsX3_countNumber) := goodIn_app (goodIn_of _ (by decide +kernel)) ggX3_count_X3_countNumber
theorem dX3_count_0 : decode cX3_count 0 = .ok (.iload_n 1, 1) := by decide +kernel
theorem dX3_count_1 : decode cX3_count 1 = .ok (.iconst 0, 1) := by decide +kernel
theorem dX3_count_2 : decode cX3_count 2 = .ok (.bipush 8, 2) := by decide +kernel
theorem dX3_count_4 : decode cX3_count 4 = .ok (.invokestatic 35, 3) := by decide +kernel
theorem dX3_count_7 : decode cX3_count 7 = .ok (.ifCond .ne 13, 3) := by decide +kernel
theorem dX3_count_10 : decode cX3_count 10 = .ok (.new 64, 3) := by decide +kernel
theorem dX3_count_13 : decode cX3_count 13 = .ok (.dup, 1) := by decide +kernel
theorem dX3_count_14 : decode cX3_count 14 = .ok (.ldc 165, 2) := by decide +kernel
theorem dX3_count_16 : decode cX3_count 16 = .ok (.invokespecial 68, 3) := by decide +kernel
theorem dX3_count_19 : decode cX3_count 19 = .ok (.athrow, 1) := by decide +kernel
theorem dX3_count_20 : decode cX3_count 20 = .ok (.aload_n 0, 1) := by decide +kernel
theorem dX3_count_21 : decode cX3_count 21 = .ok (.iload_n 1, 1) := by decide +kernel
theorem dX3_count_22 : decode cX3_count 22 = .ok (.invokevirtual 167, 3) := by decide +kernel
theorem dX3_count_25 : decode cX3_count 25 = .ok (.ireturn, 1) := by decide +kernel
set_option maxRecDepth 20000 in
theorem ggX3_foresee_X3_isWithin : GoodIn wsX3_foresee wsX3_isWithin := goodIn_r _ [14] (by decide +kernel) (by decide +kernel)
set_option maxRecDepth 20000 in
theorem gX3_foresee_X3_isWithin : GoodIn wsX3_foresee (va_wsS RX3 35 yX3_isWithin wsX3_isWithin) := goodIn_app (goodIn_of _ (by decide +kernel)) ggX3_foresee_X3_isWithin
set_option maxRecDepth 20000 in
theorem ggX3_foresee_X2_copyFrom : GoodIn wsX3_foresee wsX2_copyFrom := goodIn_r _ [19, 20, 21, 22, 23, 24, 25, 26, 27, 28, 29, 30, 31, 32, 33, 34, 35, 36, 37, 38, 39, 40, 41, 42, 43, 18, 44, 138, 139, 140, 141, 142, 143, 144, 145, 146, 147, 148, 149, 150, 151, 152, 153, 154, 155] (by decide +kernel) (by decide +kernel)
set_option maxRecDepth 20000 in
theorem gX3_foresee_X2_copyFrom : GoodIn wsX3_foresee (wsV RX3 179 RX2 yX2_copyFrom wsX2_copyFrom) := goodIn_app (goodIn_of _ (by decide +kernel)) ggX3_foresee_X2_copyFrom
set_option maxRecDepth 20000 in
theorem ggX3_foresee_X2_letDaysGoBy : GoodIn wsX3_foresee wsX2_letDaysGoBy := goodIn_r _ [48, 22, 49, 50, 51, 52, 53, 54, 18, 55, 30, 56, 57, 58, 59, 20, 21, 60, 61, 62, 63, 25, 64, 65, 66, 67, 68, 69, 70, 71, 33, 72, 73, 74, 75, 76, 77, 78, 40, 34, 31, 41, 79, 80, 81, 82, 83, 84, 85, 86, 23, 87, 88, 89, 90, 91, 92, 93, 94, 32, 95, 96, 97, 98, 35, 99, 100, 101, 102, 36, 38, 39, 24, 37, 103, 104, 105, 106, 107, 108, 109, 110, 12, 13, 14, 138, 139, 140, 141, 142, 143, 144, 145, 146, 147, 148, 149, 150, 151, 152, 153, 154, 155, 156, 157, 158] (by decide +kernel) (by decide +kernel)
set_option maxRecDepth 20000 in
theorem gX3_foresee_X2_letDaysGoBy : GoodIn wsX3_foresee (wsV RX3 156 RX2 yX2_letDaysGoBy wsX2_letDaysGoBy) := goodIn_app (goodIn_of _ (by decide +kernel)) ggX3_foresee_X2_letDaysGoBy
set_option maxRecDepth 20000 in
theorem ggX3_foresee_X3_foreseenNumber : GoodIn wsX3_foresee wsX3_foreseenNumber := goodIn_r _ [114, 9, 115, 7, 116, 117, 118, 18, 119, 35, 120, 121, 122, 123, 56, 57, 58, 59, 20, 21, 124, 125, 126, 127, 37, 128, 129, 130, 131, 30, 132, 133, 134, 135, 136, 137, 138, 139, 140, 141, 142, 143, 144, 145, 146, 147, 148, 149, 150, 151, 152, 153, 154, 155] (by decide +kernel) (by decide +kernel)
set_option maxRecDepth 20000 in
theorem gX3_foresee_X3_foreseenNumber : GoodIn wsX3_foresee (wsV RX3 183 RX3 yX3_foreseenNumber wsX3_foreseenNumber) := goodIn_app (goodIn_of _ (by decide +kernel)) ggX3_foresee_X3_foreseenNumber
theorem dX3_foresee_0 : decode cX3_foresee 0 = .ok (.iload_n 1, 1) := by decide +kernel
theorem dX3_foresee_1 : decode cX3_foresee 1 = .ok (.iconst 1, 1) := by decide +kernel
theorem dX3_foresee_2 : decode cX3_foresee 2 = .ok (.bipush 20, 2) := by decide +kernel
theorem dX3_foresee_4 : decode cX3_foresee 4 = .ok (.invokestatic 35, 3) := by decide +kernel
theorem dX3_foresee_7 : decode cX3_foresee 7 = .ok (.ifCond .ne 13, 3) := by decide +kernel
theorem dX3_foresee_10 : decode cX3_foresee 10 = .ok (.new 39, 3) := by decide +kernel
theorem dX3_foresee_13 : decode cX3_foresee 13 = .ok (.dup, 1) := by decide +kernel
theorem dX3_foresee_14 : decode cX3_foresee 14 = .ok (.ldc 175, 2) := by decide +kernel
theorem dX3_foresee_16 : decode cX3_foresee 16 = .ok (.invokespecial 43, 3) := by decide +kernel
theorem dX3_foresee_19 : decode cX3_foresee 19 = .ok (.athrow, 1) := by decide +kernel
theorem dX3_foresee_20 : decode cX3_foresee 20 = .ok (.iload_n 2, 1) := by decide +kernel
theorem dX3_foresee_21 : decode cX3_foresee 21 = .ok (.iconst 0, 1) := by decide +kernel
theorem dX3_foresee_22 : decode cX3_foresee 22 = .ok (.iconst 3, 1) := by decide +kernel
theorem dX3_foresee_23 : decode cX3_foresee 23 = .ok (.invokestatic 35, 3) := by decide +kernel
theorem dX3_foresee_26 : decode cX3_foresee 26 = .ok (.ifCond .ne 13, 3) := by decide +kernel
theorem dX3_foresee_29 : decode cX3_foresee 29 = .ok (.new 64, 3) := by decide +kernel
theorem dX3_foresee_32 : decode cX3_foresee 32 = .ok (.dup, 1) := by decide +kernel
theorem dX3_foresee_33 : decode cX3_foresee 33 = .ok (.ldc 177, 2) := by decide +kernel
theorem dX3_foresee_35 : decode cX3_foresee 35 = .ok (.invokespecial 68, 3) := by decide +kernel
theorem dX3_foresee_38 : decode cX3_foresee 38 = .ok (.athrow, 1) := by decide +kernel
theorem dX3_foresee_39 : decode cX3_foresee 39 = .ok (.aload_n 0, 1) := by decide +kernel
theorem dX3_foresee_40 : decode cX3_foresee 40 = .ok (.getfield 21, 3) := by decide +kernel
theorem dX3_foresee_43 : decode cX3_foresee 43 = .ok (.getfield 151, 3) := by decide +kernel
theorem dX3_foresee_46 : decode cX3_foresee 46 = .ok (.iload_n 1, 1) := by decide +kernel
theorem dX3_foresee_47 : decode cX3_foresee 47 = .ok (.iadd, 1) := by decide +kernel
theorem dX3_foresee_48 : decode cX3_foresee 48 = .ok (.sipush 2000, 3) := by decide +kernel
theorem dX3_foresee_51 : decode cX3_foresee 51 = .ok (.if_icmp .le 13, 3) := by decide +kernel
theorem dX3_foresee_54 : decode cX3_foresee 54 = .ok (.new 129, 3) := by decide +kernel
theorem dX3_foresee_57 : decode cX3_foresee 57 = .ok (.dup, 1) := by decide +kernel
theorem dX3_foresee_58 : decode cX3_foresee 58 = .ok (.ldc 154, 2) := by decide +kernel
theorem dX3_foresee_60 : decode cX3_foresee 60 = .ok (.invokespecial 133, 3) := by decide +kernel
theorem dX3_foresee_63 : decode cX3_foresee 63 = .ok (.athrow, 1) := by decide +kernel
theorem dX3_foresee_64 : decode cX3_foresee 64 = .ok (.aload_n 0, 1) := by decide +kernel
theorem dX3_foresee_65 : decode cX3_foresee 65 = .ok (.getfield 25, 3) := by decide +kernel
theorem dX3_foresee_68 : decode cX3_foresee 68 = .ok (.aload_n 0, 1) := by decide +kernel
theorem dX3_foresee_69 : decode cX3_foresee 69 = .ok (.getfield 21, 3) := by decide +kernel
theorem dX3_foresee_72 : decode cX3_foresee 72 = .ok (.invokevirtual 179, 3) := by decide +kernel
theorem dX3_foresee_75 : decode cX3_foresee 75 = .ok (.aload_n 0, 1) := by decide +kernel
theorem dX3_foresee_76 : decode cX3_foresee 76 = .ok (.getfield 25, 3) := by decide +kernel
theorem dX3_foresee_79 : decode cX3_foresee 79 = .ok (.iload_n 1, 1) := by decide +kernel
theorem dX3_foresee_80 : decode cX3_foresee 80 = .ok (.aload_n 0, 1) := by decide +kernel
theorem dX3_foresee_81 : decode cX3_foresee 81 = .ok (.getfield 10, 3) := by decide +kernel
theorem dX3_foresee_84 : decode cX3_foresee 84 = .ok (.invokevirtual 156, 3) := by decide +kernel
theorem dX3_foresee_87 : decode cX3_foresee 87 = .ok (.aload_n 0, 1) := by decide +kernel
theorem dX3_foresee_88 : decode cX3_foresee 88 = .ok (.iload_n 2, 1) := by decide +kernel
theorem dX3_foresee_89 : decode cX3_foresee 89 = .ok (.invokevirtual 183, 3) := by decide +kernel
theorem dX3_foresee_92 : decode cX3_foresee 92 = .ok (.ireturn, 1) := by decide +kernel
set_option maxRecDepth 20000 in
theorem ggX3_depth_X2_cells : GoodIn wsX3_depth wsX2_cells := goodIn_r _ [6, 7, 8, 25, 26, 27, 28, 29, 30, 31, 32, 33, 34, 35, 36, 37, 38, 39, 40, 41, 42] (by decide +kernel) (by decide +kernel)
set_option maxRecDepth 20000 in
theorem gX3_depth_X2_cells : GoodIn wsX3_depth (wsV RX3 56 RX2 yX2_cells wsX2_cells) := goodIn_app (goodIn_of _ (by decide +kernel)) ggX3_depth_X2_cells
set_option maxRecDepth 20000 in
theorem ggX3_depth_X2_allDepths : GoodIn wsX3_depth wsX2_allDepths := goodIn_r _ [12, 13, 14, 15, 16, 5, 17, 18, 3, 4, 6, 7, 8, 25, 26, 27, 28, 29, 30, 31, 32, 33, 34, 35, 36, 37, 38, 39, 40, 41, 42] (by decide +kernel) (by decide +kernel)
set_option maxRecDepth 20000 in
theorem gX3_depth_X2_allDepths : GoodIn wsX3_depth (wsV RX3 196 RX2 yX2_allDepths wsX2_allDepths) := goodIn_app (goodIn_of _ (by decide +kernel)) ggX3_depth_X2_allDepths
theorem dX3_depth_0 : decode cX3_depth 0 = .ok (.aload_n 0, 1) := by decide +kernel
theorem dX3_depth_1 : decode cX3_depth 1 = .ok (.getfield 21, 3) := by decide +kernel
theorem dX3_depth_4 : decode cX3_depth 4 = .ok (.invokevirtual 56, 3) := by decide +kernel
theorem dX3_depth_7 : decode cX3_depth 7 = .ok (.istore_n 1, 1) := by decide +kernel
theorem dX3_depth_8 : decode cX3_depth 8 = .ok (.iload_n 1, 1) := by decide +kernel
theorem dX3_depth_9 : decode cX3_depth 9 = .ok (.iconst 1, 1) := by decide +kernel
theorem dX3_depth_10 : decode cX3_depth 10 = .ok (.if_icmp .ge 7, 3) := by decide +kernel
theorem dX3_depth_13 : decode cX3_depth 13 = .ok (.dconst 0, 1) := by decide +kernel
theorem dX3_depth_14 : decode cX3_depth 14 = .ok (.goto 14, 3) := by decide +kernel
theorem dX3_depth_17 : decode cX3_depth 17 = .ok (.aload_n 0, 1) := by decide +kernel
theorem dX3_depth_18 : decode cX3_depth 18 = .ok (.getfield 21, 3) := by decide +kernel
theorem dX3_depth_21 : decode cX3_depth 21 = .ok (.invokevirtual 196, 3) := by decide +kernel
theorem dX3_depth_24 : decode cX3_depth 24 = .ok (.i2d, 1) := by decide +kernel
theorem dX3_depth_25 : decode cX3_depth 25 = .ok (.iload_n 1, 1) := by decide +kernel
theorem dX3_depth_26 : decode cX3_depth 26 = .ok (.i2d, 1) := by decide +kernel
theorem dX3_depth_27 : decode cX3_depth 27 = .ok (.ddiv, 1) := by decide +kernel
theorem dX3_depth_28 : decode cX3_depth 28 = .ok (.dreturn, 1) := by decide +kernel
theorem dX3_isWithin_0 : decode cX3_isWithin 0 = .ok (.iload_n 0, 1) := by decide +kernel
theorem dX3_isWithin_1 : decode cX3_isWithin 1 = .ok (.iload_n 1, 1) := by decide +kernel
theorem dX3_isWithin_2 : decode cX3_isWithin 2 = .ok (.if_icmp .lt 12, 3) := by decide +kernel
theorem dX3_isWithin_5 : decode cX3_isWithin 5 = .ok (.iload_n 0, 1) := by decide +kernel
theorem dX3_isWithin_6 : decode cX3_isWithin 6 = .ok (.iload_n 2, 1) := by decide +kernel
theorem dX3_isWithin_7 : decode cX3_isWithin 7 = .ok (.if_icmp .gt 7, 3) := by decide +kernel
theorem dX3_isWithin_10 : decode cX3_isWithin 10 = .ok (.iconst 1, 1) := by decide +kernel
theorem dX3_isWithin_11 : decode cX3_isWithin 11 = .ok (.goto 4, 3) := by decide +kernel
theorem dX3_isWithin_14 : decode cX3_isWithin 14 = .ok (.iconst 0, 1) := by decide +kernel
theorem dX3_isWithin_15 : decode cX3_isWithin 15 = .ok (.ireturn, 1) := by decide +kernel
set_option maxRecDepth 20000 in
theorem ggX3_countNumber_X2_crops : GoodIn wsX3_countNumber wsX2_crops := goodIn_r _ [13, 14, 15, 16, 17, 12, 18, 19, 20, 21, 22, 23, 24, 36, 37, 38, 39, 40, 41, 42, 43, 44, 45, 46, 47, 48, 49, 50, 51, 52, 53] (by decide +kernel) (by decide +kernel)
set_option maxRecDepth 20000 in
theorem gX3_countNumber_X2_crops : GoodIn wsX3_countNumber (wsV RX3 137 RX2 yX2_crops wsX2_crops) := goodIn_app (goodIn_of _ (by decide +kernel)) ggX3_countNumber_X2_crops
set_option maxRecDepth 20000 in
theorem ggX3_countNumber_X2_allDepths : GoodIn wsX3_countNumber wsX2_allDepths := goodIn_r _ [28, 29, 15, 16, 17, 12, 18, 19, 20, 21, 22, 23, 24, 36, 37, 38, 39, 40, 41, 42, 43, 44, 45, 46, 47, 48, 49, 50, 51, 52, 53] (by decide +kernel) (by decide +kernel)
set_option maxRecDepth 20000 in
theorem gX3_countNumber_X2_allDepths : GoodIn wsX3_countNumber (wsV RX3 196 RX2 yX2_allDepths wsX2_allDepths) := goodIn_app (goodIn_of _ (by decide +kernel)) ggX3_countNumber_X2_allDepths
theorem dX3_countNumber_0 : decode cX3_countNumber 0 = .ok (.iload_n 1, 1) := by decide +kernel
theorem dX3_countNumber_1 : decode cX3_countNumber 1 = .ok (.tableswitch 108 0 7 #[47, 55, 63, 71, 79, 87, 95, 100], 47) := by decide +kernel
theorem dX3_countNumber_48 : decode cX3_countNumber 48 = .ok (.aload_n 0, 1) := by decide +kernel
theorem dX3_countNumber_49 : decode cX3_countNumber 49 = .ok (.getfield 21, 3) := by decide +kernel
theorem dX3_countNumber_52 : decode cX3_countNumber 52 = .ok (.getfield 206, 3) := by decide +kernel
theorem dX3_countNumber_55 : decode cX3_countNumber 55 = .ok (.ireturn, 1) := by decide +kernel
theorem dX3_countNumber_56 : decode cX3_countNumber 56 = .ok (.aload_n 0, 1) := by decide +kernel
theorem dX3_countNumber_57 : decode cX3_countNumber 57 = .ok (.getfield 21, 3) := by decide +kernel
theorem dX3_countNumber_60 : decode cX3_countNumber 60 = .ok (.getfield 203, 3) := by decide +kernel
theorem dX3_countNumber_63 : decode cX3_countNumber 63 = .ok (.ireturn, 1) := by decide +kernel
theorem dX3_countNumber_64 : decode cX3_countNumber 64 = .ok (.aload_n 0, 1) := by decide +kernel
theorem dX3_countNumber_65 : decode cX3_countNumber 65 = .ok (.getfield 21, 3) := by decide +kernel
theorem dX3_countNumber_68 : decode cX3_countNumber 68 = .ok (.getfield 151, 3) := by decide +kernel
theorem dX3_countNumber_71 : decode cX3_countNumber 71 = .ok (.ireturn, 1) := by decide +kernel
theorem dX3_countNumber_72 : decode cX3_countNumber 72 = .ok (.aload_n 0, 1) := by decide +kernel
theorem dX3_countNumber_73 : decode cX3_countNumber 73 = .ok (.getfield 21, 3) := by decide +kernel
theorem dX3_countNumber_76 : decode cX3_countNumber 76 = .ok (.invokevirtual 137, 3) := by decide +kernel
theorem dX3_countNumber_79 : decode cX3_countNumber 79 = .ok (.ireturn, 1) := by decide +kernel
theorem dX3_countNumber_80 : decode cX3_countNumber 80 = .ok (.aload_n 0, 1) := by decide +kernel
theorem dX3_countNumber_81 : decode cX3_countNumber 81 = .ok (.getfield 21, 3) := by decide +kernel
theorem dX3_countNumber_84 : decode cX3_countNumber 84 = .ok (.invokevirtual 196, 3) := by decide +kernel
theorem dX3_countNumber_87 : decode cX3_countNumber 87 = .ok (.ireturn, 1) := by decide +kernel
theorem dX3_countNumber_88 : decode cX3_countNumber 88 = .ok (.aload_n 0, 1) := by decide +kernel
theorem dX3_countNumber_89 : decode cX3_countNumber 89 = .ok (.getfield 21, 3) := by decide +kernel
theorem dX3_countNumber_92 : decode cX3_countNumber 92 = .ok (.getfield 209, 3) := by decide +kernel
theorem dX3_countNumber_95 : decode cX3_countNumber 95 = .ok (.ireturn, 1) := by decide +kernel
theorem dX3_countNumber_96 : decode cX3_countNumber 96 = .ok (.aload_n 0, 1) := by decide +kernel
theorem dX3_countNumber_97 : decode cX3_countNumber 97 = .ok (.getfield 49, 3) := by decide +kernel
theorem dX3_countNumber_100 : decode cX3_countNumber 100 = .ok (.ireturn, 1) := by decide +kernel
theorem dX3_countNumber_101 : decode cX3_countNumber 101 = .ok (.aload_n 0, 1) := by decide +kernel
theorem dX3_countNumber_102 : decode cX3_countNumber 102 = .ok (.getfield 21, 3) := by decide +kernel
theorem dX3_countNumber_105 : decode cX3_countNumber 105 = .ok (.getfield 212, 3) := by decide +kernel
theorem dX3_countNumber_108 : decode cX3_countNumber 108 = .ok (.ireturn, 1) := by decide +kernel
theorem dX3_countNumber_109 : decode cX3_countNumber 109 = .ok (.aload_n 0, 1) := by decide +kernel
theorem dX3_countNumber_110 : decode cX3_countNumber 110 = .ok (.getfield 53, 3) := by decide +kernel
theorem dX3_countNumber_113 : decode cX3_countNumber 113 = .ok (.ireturn, 1) := by decide +kernel
set_option maxRecDepth 20000 in
theorem ggX3_foreseenNumber_X2_crops : GoodIn wsX3_foreseenNumber wsX2_crops := goodIn_r _ [8, 9, 10, 11, 12, 7, 13, 14, 15, 16, 17, 18, 19, 36, 37, 38, 39, 40, 41, 42, 43, 44, 45, 46, 47, 48, 49, 50, 51, 52, 53] (by decide +kernel) (by decide +kernel)
set_option maxRecDepth 20000 in
theorem gX3_foreseenNumber_X2_crops : GoodIn wsX3_foreseenNumber (wsV RX3 137 RX2 yX2_crops wsX2_crops) := goodIn_app (goodIn_of _ (by decide +kernel)) ggX3_foreseenNumber_X2_crops
set_option maxRecDepth 20000 in
theorem ggX3_foreseenNumber_X2_allHardness : GoodIn wsX3_foreseenNumber wsX2_allHardness := goodIn_r _ [23, 24, 10, 11, 12, 7, 13, 14, 15, 16, 17, 18, 19, 36, 37, 38, 39, 40, 41, 42, 43, 44, 45, 46, 47, 48, 49, 50, 51, 52, 53] (by decide +kernel) (by decide +kernel)
set_option maxRecDepth 20000 in
theorem gX3_foreseenNumber_X2_allHardness : GoodIn wsX3_foreseenNumber (wsV RX3 215 RX2 yX2_allHardness wsX2_allHardness) := goodIn_app (goodIn_of _ (by decide +kernel)) ggX3_foreseenNumber_X2_allHardness
set_option maxRecDepth 20000 in
theorem ggX3_foreseenNumber_X2_allDepths : GoodIn wsX3_foreseenNumber wsX2_allDepths := goodIn_r _ [28, 29, 10, 11, 12, 7, 13, 14, 15, 16, 17, 18, 19, 36, 37, 38, 39, 40, 41, 42, 43, 44, 45, 46, 47, 48, 49, 50, 51, 52, 53] (by decide +kernel) (by decide +kernel)
set_option maxRecDepth 20000 in
theorem gX3_foreseenNumber_X2_allDepths : GoodIn wsX3_foreseenNumber (wsV RX3 196 RX2 yX2_allDepths wsX2_allDepths) := goodIn_app (goodIn_of _ (by decide +kernel)) ggX3_foreseenNumber_X2_allDepths
theorem dX3_foreseenNumber_0 : decode cX3_foreseenNumber 0 = .ok (.iload_n 1, 1) := by decide +kernel
theorem dX3_foreseenNumber_1 : decode cX3_foreseenNumber 1 = .ok (.tableswitch 59 0 2 #[27, 35, 43], 27) := by decide +kernel
theorem dX3_foreseenNumber_28 : decode cX3_foreseenNumber 28 = .ok (.aload_n 0, 1) := by decide +kernel
theorem dX3_foreseenNumber_29 : decode cX3_foreseenNumber 29 = .ok (.getfield 25, 3) := by decide +kernel
theorem dX3_foreseenNumber_32 : decode cX3_foreseenNumber 32 = .ok (.invokevirtual 137, 3) := by decide +kernel
theorem dX3_foreseenNumber_35 : decode cX3_foreseenNumber 35 = .ok (.ireturn, 1) := by decide +kernel
theorem dX3_foreseenNumber_36 : decode cX3_foreseenNumber 36 = .ok (.aload_n 0, 1) := by decide +kernel
theorem dX3_foreseenNumber_37 : decode cX3_foreseenNumber 37 = .ok (.getfield 25, 3) := by decide +kernel
theorem dX3_foreseenNumber_40 : decode cX3_foreseenNumber 40 = .ok (.invokevirtual 215, 3) := by decide +kernel
theorem dX3_foreseenNumber_43 : decode cX3_foreseenNumber 43 = .ok (.ireturn, 1) := by decide +kernel
theorem dX3_foreseenNumber_44 : decode cX3_foreseenNumber 44 = .ok (.aload_n 0, 1) := by decide +kernel
theorem dX3_foreseenNumber_45 : decode cX3_foreseenNumber 45 = .ok (.getfield 25, 3) := by decide +kernel
theorem dX3_foreseenNumber_48 : decode cX3_foreseenNumber 48 = .ok (.getfield 209, 3) := by decide +kernel
theorem dX3_foreseenNumber_51 : decode cX3_foreseenNumber 51 = .ok (.aload_n 0, 1) := by decide +kernel
theorem dX3_foreseenNumber_52 : decode cX3_foreseenNumber 52 = .ok (.getfield 21, 3) := by decide +kernel
theorem dX3_foreseenNumber_55 : decode cX3_foreseenNumber 55 = .ok (.getfield 209, 3) := by decide +kernel
theorem dX3_foreseenNumber_58 : decode cX3_foreseenNumber 58 = .ok (.isub, 1) := by decide +kernel
theorem dX3_foreseenNumber_59 : decode cX3_foreseenNumber 59 = .ok (.ireturn, 1) := by decide +kernel
theorem dX3_foreseenNumber_60 : decode cX3_foreseenNumber 60 = .ok (.aload_n 0, 1) := by decide +kernel
theorem dX3_foreseenNumber_61 : decode cX3_foreseenNumber 61 = .ok (.getfield 25, 3) := by decide +kernel
theorem dX3_foreseenNumber_64 : decode cX3_foreseenNumber 64 = .ok (.invokevirtual 196, 3) := by decide +kernel
theorem dX3_foreseenNumber_67 : decode cX3_foreseenNumber 67 = .ok (.ireturn, 1) := by decide +kernel
end
section
theorem dX4_init_0 : decode cX4_init 0 = .ok (.aload_n 0, 1) := by decide +kernel
theorem dX4_init_1 : decode cX4_init 1 = .ok (.invokespecial 1, 3) := by decide +kernel
theorem dX4_init_4 : decode cX4_init 4 = .ok (.aload_n 0, 1) := by decide +kernel
theorem dX4_init_5 : decode cX4_init 5 = .ok (.bipush 30, 2) := by decide +kernel
theorem dX4_init_7 : decode cX4_init 7 = .ok (.anewarray 7, 3) := by decide +kernel
theorem dX4_init_10 : decode cX4_init 10 = .ok (.putfield 9, 3) := by decide +kernel
theorem dX4_init_13 : decode cX4_init 13 = .ok (.aload_n 0, 1) := by decide +kernel
theorem dX4_init_14 : decode cX4_init 14 = .ok (.iload_n 1, 1) := by decide +kernel
theorem dX4_init_15 : decode cX4_init 15 = .ok (.putfield 15, 3) := by decide +kernel
theorem dX4_init_18 : decode cX4_init 18 = .ok (.aload_n 0, 1) := by decide +kernel
theorem dX4_init_19 : decode cX4_init 19 = .ok (.iload_n 2, 1) := by decide +kernel
theorem dX4_init_20 : decode cX4_init 20 = .ok (.putfield 19, 3) := by decide +kernel
theorem dX4_init_23 : decode cX4_init 23 = .ok (.aload_n 0, 1) := by decide +kernel
theorem dX4_init_24 : decode cX4_init 24 = .ok (.iload_n 1, 1) := by decide +kernel
theorem dX4_init_25 : decode cX4_init 25 = .ok (.iload_n 2, 1) := by decide +kernel
theorem dX4_init_26 : decode cX4_init 26 = .ok (.multianewarray 22 2, 4) := by decide +kernel
theorem dX4_init_30 : decode cX4_init 30 = .ok (.putfield 24, 3) := by decide +kernel
theorem dX4_init_33 : decode cX4_init 33 = .ok (.aload_n 0, 1) := by decide +kernel
theorem dX4_init_34 : decode cX4_init 34 = .ok (.iload_n 2, 1) := by decide +kernel
theorem dX4_init_35 : decode cX4_init 35 = .ok (.newarray .int, 2) := by decide +kernel
theorem dX4_init_37 : decode cX4_init 37 = .ok (.putfield 27, 3) := by decide +kernel
theorem dX4_init_40 : decode cX4_init 40 = .ok (.iconst 0, 1) := by decide +kernel
theorem dX4_init_41 : decode cX4_init 41 = .ok (.istore_n 3, 1) := by decide +kernel
theorem dX4_init_42 : decode cX4_init 42 = .ok (.iload_n 3, 1) := by decide +kernel
theorem dX4_init_43 : decode cX4_init 43 = .ok (.iload_n 2, 1) := by decide +kernel
theorem dX4_init_44 : decode cX4_init 44 = .ok (.if_icmp .ge 16, 3) := by decide +kernel
theorem dX4_init_47 : decode cX4_init 47 = .ok (.aload_n 0, 1) := by decide +kernel
theorem dX4_init_48 : decode cX4_init 48 = .ok (.getfield 27, 3) := by decide +kernel
theorem dX4_init_51 : decode cX4_init 51 = .ok (.iload_n 3, 1) := by decide +kernel
theorem dX4_init_52 : decode cX4_init 52 = .ok (.iconst 1, 1) := by decide +kernel
theorem dX4_init_53 : decode cX4_init 53 = .ok (.iastore, 1) := by decide +kernel
theorem dX4_init_54 : decode cX4_init 54 = .ok (.iinc 3 1, 3) := by decide +kernel
theorem dX4_init_57 : decode cX4_init 57 = .ok (.goto (-15), 3) := by decide +kernel
theorem dX4_init_60 : decode cX4_init 60 = .ok (.iconst 0, 1) := by decide +kernel
theorem dX4_init_61 : decode cX4_init 61 = .ok (.istore_n 3, 1) := by decide +kernel
theorem dX4_init_62 : decode cX4_init 62 = .ok (.iload_n 3, 1) := by decide +kernel
theorem dX4_init_63 : decode cX4_init 63 = .ok (.bipush 30, 2) := by decide +kernel
theorem dX4_init_65 : decode cX4_init 65 = .ok (.if_icmp .ge 31, 3) := by decide +kernel
theorem dX4_init_68 : decode cX4_init 68 = .ok (.aload_n 0, 1) := by decide +kernel
theorem dX4_init_69 : decode cX4_init 69 = .ok (.getfield 9, 3) := by decide +kernel
theorem dX4_init_72 : decode cX4_init 72 = .ok (.iload_n 3, 1) := by decide +kernel
theorem dX4_init_73 : decode cX4_init 73 = .ok (.iconst 3, 1) := by decide +kernel
theorem dX4_init_74 : decode cX4_init 74 = .ok (.newarray .int, 2) := by decide +kernel
theorem dX4_init_76 : decode cX4_init 76 = .ok (.dup, 1) := by decide +kernel
theorem dX4_init_77 : decode cX4_init 77 = .ok (.iconst 0, 1) := by decide +kernel
theorem dX4_init_78 : decode cX4_init 78 = .ok (.iconst 0, 1) := by decide +kernel
theorem dX4_init_79 : decode cX4_init 79 = .ok (.iastore, 1) := by decide +kernel
theorem dX4_init_80 : decode cX4_init 80 = .ok (.dup, 1) := by decide +kernel
theorem dX4_init_81 : decode cX4_init 81 = .ok (.iconst 1, 1) := by decide +kernel
theorem dX4_init_82 : decode cX4_init 82 = .ok (.bipush 60, 2) := by decide +kernel
theorem dX4_init_84 : decode cX4_init 84 = .ok (.iastore, 1) := by decide +kernel
theorem dX4_init_85 : decode cX4_init 85 = .ok (.dup, 1) := by decide +kernel
theorem dX4_init_86 : decode cX4_init 86 = .ok (.iconst 2, 1) := by decide +kernel
theorem dX4_init_87 : decode cX4_init 87 = .ok (.iconst 3, 1) := by decide +kernel
theorem dX4_init_88 : decode cX4_init 88 = .ok (.iastore, 1) := by decide +kernel
theorem dX4_init_89 : decode cX4_init 89 = .ok (.aastore, 1) := by decide +kernel
theorem dX4_init_90 : decode cX4_init 90 = .ok (.iinc 3 1, 3) := by decide +kernel
theorem dX4_init_93 : decode cX4_init 93 = .ok (.goto (-31), 3) := by decide +kernel
theorem dX4_init_96 : decode cX4_init 96 = .ok (.iconst 0, 1) := by decide +kernel
theorem dX4_init_97 : decode cX4_init 97 = .ok (.istore_n 3, 1) := by decide +kernel
theorem dX4_init_98 : decode cX4_init 98 = .ok (.iload_n 3, 1) := by decide +kernel
theorem dX4_init_99 : decode cX4_init 99 = .ok (.iload_n 1, 1) := by decide +kernel
theorem dX4_init_100 : decode cX4_init 100 = .ok (.if_icmp .ge 93, 3) := by decide +kernel
theorem dX4_init_103 : decode cX4_init 103 = .ok (.iconst 0, 1) := by decide +kernel
theorem dX4_init_104 : decode cX4_init 104 = .ok (.istore 4, 2) := by decide +kernel
theorem dX4_init_106 : decode cX4_init 106 = .ok (.iload 4, 2) := by decide +kernel
theorem dX4_init_108 : decode cX4_init 108 = .ok (.iload_n 2, 1) := by decide +kernel
theorem dX4_init_109 : decode cX4_init 109 = .ok (.if_icmp .ge 78, 3) := by decide +kernel
theorem dX4_init_112 : decode cX4_init 112 = .ok (.aload_n 0, 1) := by decide +kernel
theorem dX4_init_113 : decode cX4_init 113 = .ok (.getfield 24, 3) := by decide +kernel
theorem dX4_init_116 : decode cX4_init 116 = .ok (.iload_n 3, 1) := by decide +kernel
theorem dX4_init_117 : decode cX4_init 117 = .ok (.aaload, 1) := by decide +kernel
theorem dX4_init_118 : decode cX4_init 118 = .ok (.iload 4, 2) := by decide +kernel
theorem dX4_init_120 : decode cX4_init 120 = .ok (.bipush 12, 2) := by decide +kernel
theorem dX4_init_122 : decode cX4_init 122 = .ok (.newarray .int, 2) := by decide +kernel
theorem dX4_init_124 : decode cX4_init 124 = .ok (.dup, 1) := by decide +kernel
theorem dX4_init_125 : decode cX4_init 125 = .ok (.iconst 0, 1) := by decide +kernel
theorem dX4_init_126 : decode cX4_init 126 = .ok (.iconst 0, 1) := by decide +kernel
theorem dX4_init_127 : decode cX4_init 127 = .ok (.iastore, 1) := by decide +kernel
theorem dX4_init_128 : decode cX4_init 128 = .ok (.dup, 1) := by decide +kernel
theorem dX4_init_129 : decode cX4_init 129 = .ok (.iconst 1, 1) := by decide +kernel
theorem dX4_init_130 : decode cX4_init 130 = .ok (.bipush 60, 2) := by decide +kernel
theorem dX4_init_132 : decode cX4_init 132 = .ok (.iastore, 1) := by decide +kernel
theorem dX4_init_133 : decode cX4_init 133 = .ok (.dup, 1) := by decide +kernel
theorem dX4_init_134 : decode cX4_init 134 = .ok (.iconst 2, 1) := by decide +kernel
theorem dX4_init_135 : decode cX4_init 135 = .ok (.iconst 2, 1) := by decide +kernel
theorem dX4_init_136 : decode cX4_init 136 = .ok (.iastore, 1) := by decide +kernel
theorem dX4_init_137 : decode cX4_init 137 = .ok (.dup, 1) := by decide +kernel
theorem dX4_init_138 : decode cX4_init 138 = .ok (.iconst 3, 1) := by decide +kernel
theorem dX4_init_139 : decode cX4_init 139 = .ok (.bipush 30, 2) := by decide +kernel
theorem dX4_init_141 : decode cX4_init 141 = .ok (.iastore, 1) := by decide +kernel
theorem dX4_init_142 : decode cX4_init 142 = .ok (.dup, 1) := by decide +kernel
theorem dX4_init_143 : decode cX4_init 143 = .ok (.iconst 4, 1) := by decide +kernel
theorem dX4_init_144 : decode cX4_init 144 = .ok (.iconst 0, 1) := by decide +kernel
theorem dX4_init_145 : decode cX4_init 145 = .ok (.iastore, 1) := by decide +kernel
theorem dX4_init_146 : decode cX4_init 146 = .ok (.dup, 1) := by decide +kernel
theorem dX4_init_147 : decode cX4_init 147 = .ok (.iconst 5, 1) := by decide +kernel
theorem dX4_init_148 : decode cX4_init 148 = .ok (.iconst 0, 1) := by decide +kernel
theorem dX4_init_149 : decode cX4_init 149 = .ok (.iastore, 1) := by decide +kernel
theorem dX4_init_150 : decode cX4_init 150 = .ok (.dup, 1) := by decide +kernel
theorem dX4_init_151 : decode cX4_init 151 = .ok (.bipush 6, 2) := by decide +kernel
theorem dX4_init_153 : decode cX4_init 153 = .ok (.iconst 0, 1) := by decide +kernel
theorem dX4_init_154 : decode cX4_init 154 = .ok (.iastore, 1) := by decide +kernel
theorem dX4_init_155 : decode cX4_init 155 = .ok (.dup, 1) := by decide +kernel
theorem dX4_init_156 : decode cX4_init 156 = .ok (.bipush 7, 2) := by decide +kernel
theorem dX4_init_158 : decode cX4_init 158 = .ok (.iconst 0, 1) := by decide +kernel
theorem dX4_init_159 : decode cX4_init 159 = .ok (.iastore, 1) := by decide +kernel
theorem dX4_init_160 : decode cX4_init 160 = .ok (.dup, 1) := by decide +kernel
theorem dX4_init_161 : decode cX4_init 161 = .ok (.bipush 8, 2) := by decide +kernel
theorem dX4_init_163 : decode cX4_init 163 = .ok (.iconst 0, 1) := by decide +kernel
theorem dX4_init_164 : decode cX4_init 164 = .ok (.iastore, 1) := by decide +kernel
theorem dX4_init_165 : decode cX4_init 165 = .ok (.dup, 1) := by decide +kernel
theorem dX4_init_166 : decode cX4_init 166 = .ok (.bipush 9, 2) := by decide +kernel
theorem dX4_init_168 : decode cX4_init 168 = .ok (.iconst 0, 1) := by decide +kernel
theorem dX4_init_169 : decode cX4_init 169 = .ok (.iastore, 1) := by decide +kernel
theorem dX4_init_170 : decode cX4_init 170 = .ok (.dup, 1) := by decide +kernel
theorem dX4_init_171 : decode cX4_init 171 = .ok (.bipush 10, 2) := by decide +kernel
theorem dX4_init_173 : decode cX4_init 173 = .ok (.iconst 0, 1) := by decide +kernel
theorem dX4_init_174 : decode cX4_init 174 = .ok (.iastore, 1) := by decide +kernel
theorem dX4_init_175 : decode cX4_init 175 = .ok (.dup, 1) := by decide +kernel
theorem dX4_init_176 : decode cX4_init 176 = .ok (.bipush 11, 2) := by decide +kernel
theorem dX4_init_178 : decode cX4_init 178 = .ok (.iconst 0, 1) := by decide +kernel
theorem dX4_init_179 : decode cX4_init 179 = .ok (.iastore, 1) := by decide +kernel
theorem dX4_init_180 : decode cX4_init 180 = .ok (.aastore, 1) := by decide +kernel
theorem dX4_init_181 : decode cX4_init 181 = .ok (.iinc 4 1, 3) := by decide +kernel
theorem dX4_init_184 : decode cX4_init 184 = .ok (.goto (-78), 3) := by decide +kernel
theorem dX4_init_187 : decode cX4_init 187 = .ok (.iinc 3 1, 3) := by decide +kernel
theorem dX4_init_190 : decode cX4_init 190 = .ok (.goto (-92), 3) := by decide +kernel
theorem dX4_init_193 : decode cX4_init 193 = .ok (.return_, 1) := by decide +kernel
theorem dX4_sum_0 : decode cX4_sum 0 = .ok (.iconst 0, 1) := by decide +kernel
theorem dX4_sum_1 : decode cX4_sum 1 = .ok (.istore_n 2, 1) := by decide +kernel
theorem dX4_sum_2 : decode cX4_sum 2 = .ok (.aload_n 0, 1) := by decide +kernel
theorem dX4_sum_3 : decode cX4_sum 3 = .ok (.getfield 24, 3) := by decide +kernel
theorem dX4_sum_6 : decode cX4_sum 6 = .ok (.astore_n 3, 1) := by decide +kernel
theorem dX4_sum_7 : decode cX4_sum 7 = .ok (.aload_n 3, 1) := by decide +kernel
theorem dX4_sum_8 : decode cX4_sum 8 = .ok (.arraylength, 1) := by decide +kernel
theorem dX4_sum_9 : decode cX4_sum 9 = .ok (.istore 4, 2) := by decide +kernel
theorem dX4_sum_11 : decode cX4_sum 11 = .ok (.iconst 0, 1) := by decide +kernel
theorem dX4_sum_12 : decode cX4_sum 12 = .ok (.istore 5, 2) := by decide +kernel
theorem dX4_sum_14 : decode cX4_sum 14 = .ok (.iload 5, 2) := by decide +kernel
theorem dX4_sum_16 : decode cX4_sum 16 = .ok (.iload 4, 2) := by decide +kernel
theorem dX4_sum_18 : decode cX4_sum 18 = .ok (.if_icmp .ge 54, 3) := by decide +kernel
theorem dX4_sum_21 : decode cX4_sum 21 = .ok (.aload_n 3, 1) := by decide +kernel
theorem dX4_sum_22 : decode cX4_sum 22 = .ok (.iload 5, 2) := by decide +kernel
theorem dX4_sum_24 : decode cX4_sum 24 = .ok (.aaload, 1) := by decide +kernel
theorem dX4_sum_25 : decode cX4_sum 25 = .ok (.astore 6, 2) := by decide +kernel
theorem dX4_sum_27 : decode cX4_sum 27 = .ok (.aload 6, 2) := by decide +kernel
theorem dX4_sum_29 : decode cX4_sum 29 = .ok (.astore 7, 2) := by decide +kernel
theorem dX4_sum_31 : decode cX4_sum 31 = .ok (.aload 7, 2) := by decide +kernel
theorem dX4_sum_33 : decode cX4_sum 33 = .ok (.arraylength, 1) := by decide +kernel
theorem dX4_sum_34 : decode cX4_sum 34 = .ok (.istore 8, 2) := by decide +kernel
theorem dX4_sum_36 : decode cX4_sum 36 = .ok (.iconst 0, 1) := by decide +kernel
theorem dX4_sum_37 : decode cX4_sum 37 = .ok (.istore 9, 2) := by decide +kernel
theorem dX4_sum_39 : decode cX4_sum 39 = .ok (.iload 9, 2) := by decide +kernel
theorem dX4_sum_41 : decode cX4_sum 41 = .ok (.iload 8, 2) := by decide +kernel
theorem dX4_sum_43 : decode cX4_sum 43 = .ok (.if_icmp .ge 23, 3) := by decide +kernel
theorem dX4_sum_46 : decode cX4_sum 46 = .ok (.aload 7, 2) := by decide +kernel
theorem dX4_sum_48 : decode cX4_sum 48 = .ok (.iload 9, 2) := by decide +kernel
theorem dX4_sum_50 : decode cX4_sum 50 = .ok (.aaload, 1) := by decide +kernel
theorem dX4_sum_51 : decode cX4_sum 51 = .ok (.astore 10, 2) := by decide +kernel
theorem dX4_sum_53 : decode cX4_sum 53 = .ok (.iload_n 2, 1) := by decide +kernel
theorem dX4_sum_54 : decode cX4_sum 54 = .ok (.aload 10, 2) := by decide +kernel
theorem dX4_sum_56 : decode cX4_sum 56 = .ok (.iload_n 1, 1) := by decide +kernel
theorem dX4_sum_57 : decode cX4_sum 57 = .ok (.iaload, 1) := by decide +kernel
theorem dX4_sum_58 : decode cX4_sum 58 = .ok (.iadd, 1) := by decide +kernel
theorem dX4_sum_59 : decode cX4_sum 59 = .ok (.istore_n 2, 1) := by decide +kernel
theorem dX4_sum_60 : decode cX4_sum 60 = .ok (.iinc 9 1, 3) := by decide +kernel
theorem dX4_sum_63 : decode cX4_sum 63 = .ok (.goto (-24), 3) := by decide +kernel
theorem dX4_sum_66 : decode cX4_sum 66 = .ok (.iinc 5 1, 3) := by decide +kernel
theorem dX4_sum_69 : decode cX4_sum 69 = .ok (.goto (-55), 3) := by decide +kernel
theorem dX4_sum_72 : decode cX4_sum 72 = .ok (.iload_n 2, 1) := by decide +kernel
theorem dX4_sum_73 : decode cX4_sum 73 = .ok (.ireturn, 1) := by decide +kernel
end
section
theorem dL_below_0 : decode cL_below 0 = .ok (.iload_n 0, 1) := by decide +kernel
theorem dL_below_1 : decode cL_below 1 = .ok (.ldc 7, 2) := by decide +kernel
theorem dL_below_3 : decode cL_below 3 = .ok (.iand, 1) := by decide +kernel
theorem dL_below_4 : decode cL_below 4 = .ok (.iload_n 1, 1) := by decide +kernel
theorem dL_below_5 : decode cL_below 5 = .ok (.irem, 1) := by decide +kernel
theorem dL_below_6 : decode cL_below 6 = .ok (.ireturn, 1) := by decide +kernel
theorem dL_cell_0 : decode cL_cell 0 = .ok (.iload_n 1, 1) := by decide +kernel
theorem dL_cell_1 : decode cL_cell 1 = .ok (.aload_n 0, 1) := by decide +kernel
theorem dL_cell_2 : decode cL_cell 2 = .ok (.arraylength, 1) := by decide +kernel
theorem dL_cell_3 : decode cL_cell 3 = .ok (.if_icmp .ge 9, 3) := by decide +kernel
theorem dL_cell_6 : decode cL_cell 6 = .ok (.aload_n 0, 1) := by decide +kernel
theorem dL_cell_7 : decode cL_cell 7 = .ok (.iload_n 1, 1) := by decide +kernel
theorem dL_cell_8 : decode cL_cell 8 = .ok (.iaload, 1) := by decide +kernel
theorem dL_cell_9 : decode cL_cell 9 = .ok (.goto 9, 3) := by decide +kernel
theorem dL_cell_12 : decode cL_cell 12 = .ok (.ldc 8, 2) := by decide +kernel
theorem dL_cell_14 : decode cL_cell 14 = .ok (.iload_n 1, 1) := by decide +kernel
theorem dL_cell_15 : decode cL_cell 15 = .ok (.iconst 3, 1) := by decide +kernel
theorem dL_cell_16 : decode cL_cell 16 = .ok (.iadd, 1) := by decide +kernel
theorem dL_cell_17 : decode cL_cell 17 = .ok (.imul, 1) := by decide +kernel
theorem dL_cell_18 : decode cL_cell 18 = .ok (.ireturn, 1) := by decide +kernel
set_option maxRecDepth 20000 in
theorem ggL_build_L_cell : GoodIn wsL_build wsL_cell := goodIn_r _ [21, 22] (by decide +kernel) (by decide +kernel)
set_option maxRecDepth 20000 in
theorem gL_build_L_cell : GoodIn wsL_build (va_wsS RL 11 yL_cell wsL_cell) := goodIn_app (goodIn_of _ (by decide +kernel)) ggL_build_L_cell
set_option maxRecDepth 20000 in
theorem ggL_build_L_below : GoodIn wsL_build wsL_below := goodIn_r _ [25, 26] (by decide +kernel) (by decide +kernel)
set_option maxRecDepth 20000 in
theorem gL_build_L_below : GoodIn wsL_build (va_wsS RL 17 yL_below wsL_below) := goodIn_app (goodIn_of _ (by decide +kernel)) ggL_build_L_below
set_option maxRecDepth 20000 in
theorem ggL_build_X4_init : GoodIn wsL_build wsX4_init := goodIn_r _ [29, 30, 31, 32, 33, 34, 35, 36, 37, 6, 38, 150, 151, 152, 153, 154, 155, 156, 157, 158, 159] (by decide +kernel) (by decide +kernel)
set_option maxRecDepth 20000 in
theorem gL_build_X4_init : GoodIn wsL_build (wsX4_init) := ggL_build_X4_init
set_option maxRecDepth 20000 in
theorem ggL_build_X3_lay : GoodIn wsL_build wsX3_lay := goodIn_ca (goodIn_r _ [43, 44, 45, 46, 47, 48, 49, 50, 42, 51, 52, 53, 54, 55, 56, 57, 58, 59, 60, 61, 62, 63, 64, 65, 66, 67, 68, 69, 70, 71, 72, 73, 74, 75, 76, 77, 78, 79, 80, 81, 82, 83, 84, 85, 86, 160, 161, 162, 163, 164, 165, 166, 167, 168, 169, 170, 171, 172, 173, 174, 175, 176, 177, 178, 179, 180, 181, 182, 183] (by decide +kernel) (by decide +kernel)) (goodIn_sub (fun _ h => List.mem_cons_of_mem _ (List.mem_append_left _ (List.mem_append_left _ (List.mem_append_right _ h)))) (by decide +kernel))
set_option maxRecDepth 20000 in
theorem gL_build_X3_lay : GoodIn wsL_build (wsV RL 31 RX3 yX3_lay wsX3_lay) := goodIn_app (goodIn_of _ (by decide +kernel)) ggL_build_X3_lay
set_option maxRecDepth 20000 in
theorem ggL_build_X3_setDay : GoodIn wsL_build wsX3_setDay := goodIn_ca (goodIn_ca (goodIn_r _ [90, 91, 92, 44, 45, 93, 94, 95, 96, 49, 50, 42, 51, 160, 161, 162, 163, 164, 165, 184, 185, 186] (by decide +kernel) (by decide +kernel)) (goodIn_sub (fun _ h => List.mem_cons_of_mem _ (List.mem_append_left _ (List.mem_append_right _ h))) (by decide +kernel))) (goodIn_sub (fun _ h => List.mem_cons_of_mem _ (List.mem_append_left _ (List.mem_append_left _ (List.mem_append_right _ h)))) (by decide +kernel))
set_option maxRecDepth 20000 in
theorem gL_build_X3_setDay : GoodIn wsL_build (wsV RL 36 RX3 yX3_setDay wsX3_setDay) := goodIn_app (goodIn_of _ (by decide +kernel)) ggL_build_X3_setDay
set_option maxRecDepth 20000 in
theorem ggL_build_X3_setShare : GoodIn wsL_build wsX3_setShare := goodIn_ca (goodIn_ca (goodIn_r _ [100, 91, 92, 44, 45, 46, 101, 102, 103, 104, 55, 105, 57, 58, 49, 50, 42, 51, 160, 161, 162, 163, 164, 165, 166, 167, 168, 169, 170, 171, 172, 173, 174, 175, 176, 177, 178, 179, 180, 181, 182, 183] (by decide +kernel) (by decide +kernel)) (goodIn_sub (fun _ h => List.mem_cons_of_mem _ (List.mem_append_left _ (List.mem_append_right _ h))) (by decide +kernel))) (goodIn_sub (fun _ h => List.mem_cons_of_mem _ (List.mem_append_left _ (List.mem_append_left _ (List.mem_append_right _ h)))) (by decide +kernel))
set_option maxRecDepth 20000 in
theorem gL_build_X3_setShare : GoodIn wsL_build (wsV RL 48 RX3 yX3_setShare wsX3_setShare) := goodIn_app (goodIn_of _ (by decide +kernel)) ggL_build_X3_setShare
set_option maxRecDepth 20000 in
theorem ggL_build_X3_setField : GoodIn wsL_build wsX3_setField := goodIn_ca (goodIn_ca (goodIn_r _ [109, 91, 92, 44, 45, 46, 110, 111, 112, 113, 11, 12, 13, 102, 103, 104, 55, 105, 57, 58, 49, 50, 42, 51, 114, 115, 116, 117, 160, 161, 162, 163, 164, 165, 166, 167, 168, 169, 170, 171, 172, 173, 174, 175, 176, 177, 178, 179, 180, 181, 182, 183] (by decide +kernel) (by decide +kernel)) (goodIn_sub (fun _ h => List.mem_cons_of_mem _ (List.mem_append_left _ (List.mem_append_right _ h))) (by decide +kernel))) (goodIn_sub (fun _ h => List.mem_cons_of_mem _ (List.mem_append_left _ (List.mem_append_left _ (List.mem_append_right _ h)))) (by decide +kernel))
set_option maxRecDepth 20000 in
theorem gL_build_X3_setField : GoodIn wsL_build (wsV RL 60 RX3 yX3_setField wsX3_setField) := goodIn_app (goodIn_of _ (by decide +kernel)) ggL_build_X3_setField
set_option maxRecDepth 20000 in
theorem ggL_build_X3_turn : GoodIn wsL_build wsX3_turn := goodIn_ca (goodIn_ca (goodIn_r _ [121, 91, 92, 44, 45, 46, 122, 102, 103, 104, 55, 105, 57, 58, 49, 50, 42, 51, 114, 115, 116, 117, 160, 161, 162, 163, 164, 165, 166, 167, 168, 169, 170, 171, 172, 173, 174, 175, 176, 177, 178, 179, 180, 181, 182, 183] (by decide +kernel) (by decide +kernel)) (goodIn_sub (fun _ h => List.mem_cons_of_mem _ (List.mem_append_left _ (List.mem_append_right _ h))) (by decide +kernel))) (goodIn_sub (fun _ h => List.mem_cons_of_mem _ (List.mem_append_left _ (List.mem_append_left _ (List.mem_append_right _ h)))) (by decide +kernel))
set_option maxRecDepth 20000 in
theorem gL_build_X3_turn : GoodIn wsL_build (wsV RL 63 RX3 yX3_turn wsX3_turn) := goodIn_app (goodIn_of _ (by decide +kernel)) ggL_build_X3_turn
set_option maxRecDepth 20000 in
theorem ggL_build_X3_moveStone : GoodIn wsL_build wsX3_moveStone := goodIn_ca (goodIn_ca (goodIn_r _ [126, 91, 92, 44, 45, 46, 110, 112, 48, 127, 16, 12, 17, 102, 103, 104, 55, 105, 57, 58, 114, 115, 116, 117, 49, 50, 42, 51, 160, 161, 162, 163, 164, 165, 166, 167, 168, 169, 170, 171, 172, 173, 174, 175, 176, 177, 178, 179, 180, 181, 182, 183] (by decide +kernel) (by decide +kernel)) (goodIn_sub (fun _ h => List.mem_cons_of_mem _ (List.mem_append_left _ (List.mem_append_right _ h))) (by decide +kernel))) (goodIn_sub (fun _ h => List.mem_cons_of_mem _ (List.mem_append_left _ (List.mem_append_left _ (List.mem_append_right _ h)))) (by decide +kernel))
set_option maxRecDepth 20000 in
theorem gL_build_X3_moveStone : GoodIn wsL_build (wsV RL 67 RX3 yX3_moveStone wsX3_moveStone) := goodIn_app (goodIn_of _ (by decide +kernel)) ggL_build_X3_moveStone
set_option maxRecDepth 20000 in
theorem ggL_build_X3_plant : GoodIn wsL_build wsX3_plant := goodIn_ca (goodIn_ca (goodIn_ca (goodIn_r _ [131, 91, 92, 44, 45, 132, 133, 46, 134, 135, 136, 102, 103, 104, 55, 105, 57, 58, 49, 50, 42, 51, 114, 115, 116, 117, 137, 138, 139, 140, 78, 141, 142, 143, 144, 145, 84, 85, 86, 160, 161, 162, 163, 164, 165, 166, 167, 168, 169, 170, 171, 172, 173, 174, 175, 176, 177, 178, 179, 180, 181, 182, 183] (by decide +kernel) (by decide +kernel)) (goodIn_sub (fun _ h => List.mem_cons_of_mem _ (List.mem_append_left _ (List.mem_append_right _ h))) (by decide +kernel))) (goodIn_sub (fun _ h => List.mem_cons_of_mem _ (List.mem_append_left _ (List.mem_append_left _ (List.mem_append_right _ h)))) (by decide +kernel))) (goodIn_sub (fun _ h => List.mem_cons_of_mem _ (List.mem_append_right _ h)) (by decide +kernel))
set_option maxRecDepth 20000 in
theorem gL_build_X3_plant : GoodIn wsL_build (wsV RL 77 RX3 yX3_plant wsX3_plant) := goodIn_app (goodIn_of _ (by decide +kernel)) ggL_build_X3_plant
set_option maxRecDepth 20000 in
theorem ggL_build_X4_sum : GoodIn wsL_build wsX4_sum := goodIn_r _ [149, 37, 150, 151, 152, 153, 154, 155, 156, 157, 158, 159] (by decide +kernel) (by decide +kernel)
set_option maxRecDepth 20000 in
theorem gL_build_X4_sum : GoodIn wsL_build (wsV RL 80 RX4 yX4_sum wsX4_sum) := goodIn_app (goodIn_of _ (by decide +kernel)) ggL_build_X4_sum
theorem dL_build_0 : decode cL_build 0 = .ok (.new 9, 3) := by decide +kernel
theorem dL_build_3 : decode cL_build 3 = .ok (.dup, 1) := by decide +kernel
theorem dL_build_4 : decode cL_build 4 = .ok (.iconst 2, 1) := by decide +kernel
theorem dL_build_5 : decode cL_build 5 = .ok (.aload_n 1, 1) := by decide +kernel
theorem dL_build_6 : decode cL_build 6 = .ok (.iconst 0, 1) := by decide +kernel
theorem dL_build_7 : decode cL_build 7 = .ok (.invokestatic 11, 3) := by decide +kernel
theorem dL_build_10 : decode cL_build 10 = .ok (.iconst 4, 1) := by decide +kernel
theorem dL_build_11 : decode cL_build 11 = .ok (.invokestatic 17, 3) := by decide +kernel
theorem dL_build_14 : decode cL_build 14 = .ok (.iadd, 1) := by decide +kernel
theorem dL_build_15 : decode cL_build 15 = .ok (.iconst 2, 1) := by decide +kernel
theorem dL_build_16 : decode cL_build 16 = .ok (.aload_n 1, 1) := by decide +kernel
theorem dL_build_17 : decode cL_build 17 = .ok (.iconst 0, 1) := by decide +kernel
theorem dL_build_18 : decode cL_build 18 = .ok (.invokestatic 11, 3) := by decide +kernel
theorem dL_build_21 : decode cL_build 21 = .ok (.iconst 4, 1) := by decide +kernel
theorem dL_build_22 : decode cL_build 22 = .ok (.ishr, 1) := by decide +kernel
theorem dL_build_23 : decode cL_build 23 = .ok (.iconst 4, 1) := by decide +kernel
theorem dL_build_24 : decode cL_build 24 = .ok (.invokestatic 17, 3) := by decide +kernel
theorem dL_build_27 : decode cL_build 27 = .ok (.iadd, 1) := by decide +kernel
theorem dL_build_28 : decode cL_build 28 = .ok (.invokespecial 21, 3) := by decide +kernel
theorem dL_build_31 : decode cL_build 31 = .ok (.astore_n 2, 1) := by decide +kernel
theorem dL_build_32 : decode cL_build 32 = .ok (.aload_n 0, 1) := by decide +kernel
theorem dL_build_33 : decode cL_build 33 = .ok (.aload_n 2, 1) := by decide +kernel
theorem dL_build_34 : decode cL_build 34 = .ok (.getfield 24, 3) := by decide +kernel
theorem dL_build_37 : decode cL_build 37 = .ok (.aload_n 2, 1) := by decide +kernel
theorem dL_build_38 : decode cL_build 38 = .ok (.getfield 28, 3) := by decide +kernel
theorem dL_build_41 : decode cL_build 41 = .ok (.invokevirtual 31, 3) := by decide +kernel
theorem dL_build_44 : decode cL_build 44 = .ok (.aload_n 2, 1) := by decide +kernel
theorem dL_build_45 : decode cL_build 45 = .ok (.getfield 24, 3) := by decide +kernel
theorem dL_build_48 : decode cL_build 48 = .ok (.aload_n 2, 1) := by decide +kernel
theorem dL_build_49 : decode cL_build 49 = .ok (.getfield 28, 3) := by decide +kernel
theorem dL_build_52 : decode cL_build 52 = .ok (.imul, 1) := by decide +kernel
theorem dL_build_53 : decode cL_build 53 = .ok (.if_icmp .eq 5, 3) := by decide +kernel
theorem dL_build_56 : decode cL_build 56 = .ok (.aconst_null, 1) := by decide +kernel
theorem dL_build_57 : decode cL_build 57 = .ok (.areturn, 1) := by decide +kernel
theorem dL_build_58 : decode cL_build 58 = .ok (.iconst 0, 1) := by decide +kernel
theorem dL_build_59 : decode cL_build 59 = .ok (.istore_n 3, 1) := by decide +kernel
theorem dL_build_60 : decode cL_build 60 = .ok (.iload_n 3, 1) := by decide +kernel
theorem dL_build_61 : decode cL_build 61 = .ok (.bipush 30, 2) := by decide +kernel
theorem dL_build_63 : decode cL_build 63 = .ok (.if_icmp .ge 114, 3) := by decide +kernel
theorem dL_build_66 : decode cL_build 66 = .ok (.aload_n 1, 1) := by decide +kernel
theorem dL_build_67 : decode cL_build 67 = .ok (.iconst 1, 1) := by decide +kernel
theorem dL_build_68 : decode cL_build 68 = .ok (.iload_n 3, 1) := by decide +kernel
theorem dL_build_69 : decode cL_build 69 = .ok (.bipush 6, 2) := by decide +kernel
theorem dL_build_71 : decode cL_build 71 = .ok (.irem, 1) := by decide +kernel
theorem dL_build_72 : decode cL_build 72 = .ok (.iadd, 1) := by decide +kernel
theorem dL_build_73 : decode cL_build 73 = .ok (.invokestatic 11, 3) := by decide +kernel
theorem dL_build_76 : decode cL_build 76 = .ok (.iload_n 3, 1) := by decide +kernel
theorem dL_build_77 : decode cL_build 77 = .ok (.bipush 11, 2) := by decide +kernel
theorem dL_build_79 : decode cL_build 79 = .ok (.irem, 1) := by decide +kernel
theorem dL_build_80 : decode cL_build 80 = .ok (.ishr, 1) := by decide +kernel
theorem dL_build_81 : decode cL_build 81 = .ok (.istore 4, 2) := by decide +kernel
theorem dL_build_83 : decode cL_build 83 = .ok (.iconst 3, 1) := by decide +kernel
theorem dL_build_84 : decode cL_build 84 = .ok (.newarray .int, 2) := by decide +kernel
theorem dL_build_86 : decode cL_build 86 = .ok (.dup, 1) := by decide +kernel
theorem dL_build_87 : decode cL_build 87 = .ok (.iconst 0, 1) := by decide +kernel
theorem dL_build_88 : decode cL_build 88 = .ok (.iload 4, 2) := by decide +kernel
theorem dL_build_90 : decode cL_build 90 = .ok (.iconst 3, 1) := by decide +kernel
theorem dL_build_91 : decode cL_build 91 = .ok (.invokestatic 17, 3) := by decide +kernel
theorem dL_build_94 : decode cL_build 94 = .ok (.ifCond .le 7, 3) := by decide +kernel
theorem dL_build_97 : decode cL_build 97 = .ok (.iconst 0, 1) := by decide +kernel
theorem dL_build_98 : decode cL_build 98 = .ok (.goto 12, 3) := by decide +kernel
theorem dL_build_101 : decode cL_build 101 = .ok (.iload 4, 2) := by decide +kernel
theorem dL_build_103 : decode cL_build 103 = .ok (.iconst 2, 1) := by decide +kernel
theorem dL_build_104 : decode cL_build 104 = .ok (.ishr, 1) := by decide +kernel
theorem dL_build_105 : decode cL_build 105 = .ok (.bipush 61, 2) := by decide +kernel
theorem dL_build_107 : decode cL_build 107 = .ok (.invokestatic 17, 3) := by decide +kernel
theorem dL_build_110 : decode cL_build 110 = .ok (.iastore, 1) := by decide +kernel
theorem dL_build_111 : decode cL_build 111 = .ok (.dup, 1) := by decide +kernel
theorem dL_build_112 : decode cL_build 112 = .ok (.iconst 1, 1) := by decide +kernel
theorem dL_build_113 : decode cL_build 113 = .ok (.iload 4, 2) := by decide +kernel
theorem dL_build_115 : decode cL_build 115 = .ok (.iconst 4, 1) := by decide +kernel
theorem dL_build_116 : decode cL_build 116 = .ok (.ishr, 1) := by decide +kernel
theorem dL_build_117 : decode cL_build 117 = .ok (.sipush 401, 3) := by decide +kernel
theorem dL_build_120 : decode cL_build 120 = .ok (.invokestatic 17, 3) := by decide +kernel
theorem dL_build_123 : decode cL_build 123 = .ok (.iastore, 1) := by decide +kernel
theorem dL_build_124 : decode cL_build 124 = .ok (.dup, 1) := by decide +kernel
theorem dL_build_125 : decode cL_build 125 = .ok (.iconst 2, 1) := by decide +kernel
theorem dL_build_126 : decode cL_build 126 = .ok (.iload 4, 2) := by decide +kernel
theorem dL_build_128 : decode cL_build 128 = .ok (.bipush 6, 2) := by decide +kernel
theorem dL_build_130 : decode cL_build 130 = .ok (.ishr, 1) := by decide +kernel
theorem dL_build_131 : decode cL_build 131 = .ok (.bipush 21, 2) := by decide +kernel
theorem dL_build_133 : decode cL_build 133 = .ok (.invokestatic 17, 3) := by decide +kernel
theorem dL_build_136 : decode cL_build 136 = .ok (.iastore, 1) := by decide +kernel
theorem dL_build_137 : decode cL_build 137 = .ok (.astore 5, 2) := by decide +kernel
theorem dL_build_139 : decode cL_build 139 = .ok (.aload_n 0, 1) := by decide +kernel
theorem dL_build_140 : decode cL_build 140 = .ok (.iload_n 3, 1) := by decide +kernel
theorem dL_build_141 : decode cL_build 141 = .ok (.aload 5, 2) := by decide +kernel
theorem dL_build_143 : decode cL_build 143 = .ok (.iconst 0, 1) := by decide +kernel
theorem dL_build_144 : decode cL_build 144 = .ok (.iaload, 1) := by decide +kernel
theorem dL_build_145 : decode cL_build 145 = .ok (.aload 5, 2) := by decide +kernel
theorem dL_build_147 : decode cL_build 147 = .ok (.iconst 1, 1) := by decide +kernel
theorem dL_build_148 : decode cL_build 148 = .ok (.iaload, 1) := by decide +kernel
theorem dL_build_149 : decode cL_build 149 = .ok (.aload 5, 2) := by decide +kernel
theorem dL_build_151 : decode cL_build 151 = .ok (.iconst 2, 1) := by decide +kernel
theorem dL_build_152 : decode cL_build 152 = .ok (.iaload, 1) := by decide +kernel
theorem dL_build_153 : decode cL_build 153 = .ok (.invokevirtual 36, 3) := by decide +kernel
theorem dL_build_156 : decode cL_build 156 = .ok (.bipush 60, 2) := by decide +kernel
theorem dL_build_158 : decode cL_build 158 = .ok (.if_icmp .eq 5, 3) := by decide +kernel
theorem dL_build_161 : decode cL_build 161 = .ok (.aconst_null, 1) := by decide +kernel
theorem dL_build_162 : decode cL_build 162 = .ok (.areturn, 1) := by decide +kernel
theorem dL_build_163 : decode cL_build 163 = .ok (.aload_n 2, 1) := by decide +kernel
theorem dL_build_164 : decode cL_build 164 = .ok (.getfield 40, 3) := by decide +kernel
theorem dL_build_167 : decode cL_build 167 = .ok (.iload_n 3, 1) := by decide +kernel
theorem dL_build_168 : decode cL_build 168 = .ok (.aload 5, 2) := by decide +kernel
theorem dL_build_170 : decode cL_build 170 = .ok (.aastore, 1) := by decide +kernel
theorem dL_build_171 : decode cL_build 171 = .ok (.iinc 3 1, 3) := by decide +kernel
theorem dL_build_174 : decode cL_build 174 = .ok (.goto (-114), 3) := by decide +kernel
theorem dL_build_177 : decode cL_build 177 = .ok (.iconst 0, 1) := by decide +kernel
theorem dL_build_178 : decode cL_build 178 = .ok (.istore_n 3, 1) := by decide +kernel
theorem dL_build_179 : decode cL_build 179 = .ok (.iload_n 3, 1) := by decide +kernel
theorem dL_build_180 : decode cL_build 180 = .ok (.aload_n 2, 1) := by decide +kernel
theorem dL_build_181 : decode cL_build 181 = .ok (.getfield 28, 3) := by decide +kernel
theorem dL_build_184 : decode cL_build 184 = .ok (.if_icmp .ge 47, 3) := by decide +kernel
theorem dL_build_187 : decode cL_build 187 = .ok (.aload_n 2, 1) := by decide +kernel
theorem dL_build_188 : decode cL_build 188 = .ok (.getfield 44, 3) := by decide +kernel
theorem dL_build_191 : decode cL_build 191 = .ok (.iload_n 3, 1) := by decide +kernel
theorem dL_build_192 : decode cL_build 192 = .ok (.aload_n 1, 1) := by decide +kernel
theorem dL_build_193 : decode cL_build 193 = .ok (.bipush 7, 2) := by decide +kernel
theorem dL_build_195 : decode cL_build 195 = .ok (.invokestatic 11, 3) := by decide +kernel
theorem dL_build_198 : decode cL_build 198 = .ok (.iconst 3, 1) := by decide +kernel
theorem dL_build_199 : decode cL_build 199 = .ok (.iload_n 3, 1) := by decide +kernel
theorem dL_build_200 : decode cL_build 200 = .ok (.imul, 1) := by decide +kernel
theorem dL_build_201 : decode cL_build 201 = .ok (.ishr, 1) := by decide +kernel
theorem dL_build_202 : decode cL_build 202 = .ok (.bipush 10, 2) := by decide +kernel
theorem dL_build_204 : decode cL_build 204 = .ok (.invokestatic 17, 3) := by decide +kernel
theorem dL_build_207 : decode cL_build 207 = .ok (.iastore, 1) := by decide +kernel
theorem dL_build_208 : decode cL_build 208 = .ok (.aload_n 0, 1) := by decide +kernel
theorem dL_build_209 : decode cL_build 209 = .ok (.iload_n 3, 1) := by decide +kernel
theorem dL_build_210 : decode cL_build 210 = .ok (.aload_n 2, 1) := by decide +kernel
theorem dL_build_211 : decode cL_build 211 = .ok (.getfield 44, 3) := by decide +kernel
theorem dL_build_214 : decode cL_build 214 = .ok (.iload_n 3, 1) := by decide +kernel
theorem dL_build_215 : decode cL_build 215 = .ok (.iaload, 1) := by decide +kernel
theorem dL_build_216 : decode cL_build 216 = .ok (.invokevirtual 48, 3) := by decide +kernel
theorem dL_build_219 : decode cL_build 219 = .ok (.iconst 1, 1) := by decide +kernel
theorem dL_build_220 : decode cL_build 220 = .ok (.if_icmp .eq 5, 3) := by decide +kernel
theorem dL_build_223 : decode cL_build 223 = .ok (.aconst_null, 1) := by decide +kernel
theorem dL_build_224 : decode cL_build 224 = .ok (.areturn, 1) := by decide +kernel
theorem dL_build_225 : decode cL_build 225 = .ok (.iinc 3 1, 3) := by decide +kernel
theorem dL_build_228 : decode cL_build 228 = .ok (.goto (-49), 3) := by decide +kernel
theorem dL_build_231 : decode cL_build 231 = .ok (.iconst 0, 1) := by decide +kernel
theorem dL_build_232 : decode cL_build 232 = .ok (.istore_n 3, 1) := by decide +kernel
theorem dL_build_233 : decode cL_build 233 = .ok (.iload_n 3, 1) := by decide +kernel
theorem dL_build_234 : decode cL_build 234 = .ok (.aload_n 2, 1) := by decide +kernel
theorem dL_build_235 : decode cL_build 235 = .ok (.getfield 24, 3) := by decide +kernel
theorem dL_build_238 : decode cL_build 238 = .ok (.if_icmp .ge 285, 3) := by decide +kernel
theorem dL_build_241 : decode cL_build 241 = .ok (.iconst 0, 1) := by decide +kernel
theorem dL_build_242 : decode cL_build 242 = .ok (.istore 4, 2) := by decide +kernel
theorem dL_build_244 : decode cL_build 244 = .ok (.iload 4, 2) := by decide +kernel
theorem dL_build_246 : decode cL_build 246 = .ok (.aload_n 2, 1) := by decide +kernel
theorem dL_build_247 : decode cL_build 247 = .ok (.getfield 28, 3) := by decide +kernel
theorem dL_build_250 : decode cL_build 250 = .ok (.if_icmp .ge 267, 3) := by decide +kernel
theorem dL_build_253 : decode cL_build 253 = .ok (.aload_n 1, 1) := by decide +kernel
theorem dL_build_254 : decode cL_build 254 = .ok (.bipush 8, 2) := by decide +kernel
theorem dL_build_256 : decode cL_build 256 = .ok (.iload_n 3, 1) := by decide +kernel
theorem dL_build_257 : decode cL_build 257 = .ok (.iload 4, 2) := by decide +kernel
theorem dL_build_259 : decode cL_build 259 = .ok (.iadd, 1) := by decide +kernel
theorem dL_build_260 : decode cL_build 260 = .ok (.bipush 7, 2) := by decide +kernel
theorem dL_build_262 : decode cL_build 262 = .ok (.irem, 1) := by decide +kernel
theorem dL_build_263 : decode cL_build 263 = .ok (.iadd, 1) := by decide +kernel
theorem dL_build_264 : decode cL_build 264 = .ok (.invokestatic 11, 3) := by decide +kernel
theorem dL_build_267 : decode cL_build 267 = .ok (.iload_n 3, 1) := by decide +kernel
theorem dL_build_268 : decode cL_build 268 = .ok (.ishr, 1) := by decide +kernel
theorem dL_build_269 : decode cL_build 269 = .ok (.bipush 17, 2) := by decide +kernel
theorem dL_build_271 : decode cL_build 271 = .ok (.iload 4, 2) := by decide +kernel
theorem dL_build_273 : decode cL_build 273 = .ok (.imul, 1) := by decide +kernel
theorem dL_build_274 : decode cL_build 274 = .ok (.iadd, 1) := by decide +kernel
theorem dL_build_275 : decode cL_build 275 = .ok (.istore 5, 2) := by decide +kernel
theorem dL_build_277 : decode cL_build 277 = .ok (.aload_n 2, 1) := by decide +kernel
theorem dL_build_278 : decode cL_build 278 = .ok (.getfield 51, 3) := by decide +kernel
theorem dL_build_281 : decode cL_build 281 = .ok (.iload_n 3, 1) := by decide +kernel
theorem dL_build_282 : decode cL_build 282 = .ok (.aaload, 1) := by decide +kernel
theorem dL_build_283 : decode cL_build 283 = .ok (.iload 4, 2) := by decide +kernel
theorem dL_build_285 : decode cL_build 285 = .ok (.aaload, 1) := by decide +kernel
theorem dL_build_286 : decode cL_build 286 = .ok (.astore 6, 2) := by decide +kernel
theorem dL_build_288 : decode cL_build 288 = .ok (.aload 6, 2) := by decide +kernel
theorem dL_build_290 : decode cL_build 290 = .ok (.iconst 1, 1) := by decide +kernel
theorem dL_build_291 : decode cL_build 291 = .ok (.bipush 20, 2) := by decide +kernel
theorem dL_build_293 : decode cL_build 293 = .ok (.iload 5, 2) := by decide +kernel
theorem dL_build_295 : decode cL_build 295 = .ok (.bipush 101, 2) := by decide +kernel
theorem dL_build_297 : decode cL_build 297 = .ok (.invokestatic 17, 3) := by decide +kernel
theorem dL_build_300 : decode cL_build 300 = .ok (.iadd, 1) := by decide +kernel
theorem dL_build_301 : decode cL_build 301 = .ok (.iastore, 1) := by decide +kernel
theorem dL_build_302 : decode cL_build 302 = .ok (.aload 6, 2) := by decide +kernel
theorem dL_build_304 : decode cL_build 304 = .ok (.iconst 2, 1) := by decide +kernel
theorem dL_build_305 : decode cL_build 305 = .ok (.iload 5, 2) := by decide +kernel
theorem dL_build_307 : decode cL_build 307 = .ok (.iconst 3, 1) := by decide +kernel
theorem dL_build_308 : decode cL_build 308 = .ok (.ishr, 1) := by decide +kernel
theorem dL_build_309 : decode cL_build 309 = .ok (.bipush 10, 2) := by decide +kernel
theorem dL_build_311 : decode cL_build 311 = .ok (.invokestatic 17, 3) := by decide +kernel
theorem dL_build_314 : decode cL_build 314 = .ok (.iastore, 1) := by decide +kernel
theorem dL_build_315 : decode cL_build 315 = .ok (.aload 6, 2) := by decide +kernel
theorem dL_build_317 : decode cL_build 317 = .ok (.iconst 3, 1) := by decide +kernel
theorem dL_build_318 : decode cL_build 318 = .ok (.bipush 30, 2) := by decide +kernel
theorem dL_build_320 : decode cL_build 320 = .ok (.aload 6, 2) := by decide +kernel
theorem dL_build_322 : decode cL_build 322 = .ok (.iconst 1, 1) := by decide +kernel
theorem dL_build_323 : decode cL_build 323 = .ok (.iaload, 1) := by decide +kernel
theorem dL_build_324 : decode cL_build 324 = .ok (.invokestatic 55, 3) := by decide +kernel
theorem dL_build_327 : decode cL_build 327 = .ok (.iastore, 1) := by decide +kernel
theorem dL_build_328 : decode cL_build 328 = .ok (.aload 6, 2) := by decide +kernel
theorem dL_build_330 : decode cL_build 330 = .ok (.iconst 4, 1) := by decide +kernel
theorem dL_build_331 : decode cL_build 331 = .ok (.iload 5, 2) := by decide +kernel
theorem dL_build_333 : decode cL_build 333 = .ok (.iconst 5, 1) := by decide +kernel
theorem dL_build_334 : decode cL_build 334 = .ok (.ishr, 1) := by decide +kernel
theorem dL_build_335 : decode cL_build 335 = .ok (.iconst 3, 1) := by decide +kernel
theorem dL_build_336 : decode cL_build 336 = .ok (.invokestatic 17, 3) := by decide +kernel
theorem dL_build_339 : decode cL_build 339 = .ok (.iconst 1, 1) := by decide +kernel
theorem dL_build_340 : decode cL_build 340 = .ok (.isub, 1) := by decide +kernel
theorem dL_build_341 : decode cL_build 341 = .ok (.iastore, 1) := by decide +kernel
theorem dL_build_342 : decode cL_build 342 = .ok (.aload_n 0, 1) := by decide +kernel
theorem dL_build_343 : decode cL_build 343 = .ok (.iload_n 3, 1) := by decide +kernel
theorem dL_build_344 : decode cL_build 344 = .ok (.iload 4, 2) := by decide +kernel
theorem dL_build_346 : decode cL_build 346 = .ok (.aload 6, 2) := by decide +kernel
theorem dL_build_348 : decode cL_build 348 = .ok (.iconst 1, 1) := by decide +kernel
theorem dL_build_349 : decode cL_build 349 = .ok (.iaload, 1) := by decide +kernel
theorem dL_build_350 : decode cL_build 350 = .ok (.aload 6, 2) := by decide +kernel
theorem dL_build_352 : decode cL_build 352 = .ok (.iconst 2, 1) := by decide +kernel
theorem dL_build_353 : decode cL_build 353 = .ok (.iaload, 1) := by decide +kernel
theorem dL_build_354 : decode cL_build 354 = .ok (.invokevirtual 60, 3) := by decide +kernel
theorem dL_build_357 : decode cL_build 357 = .ok (.bipush 60, 2) := by decide +kernel
theorem dL_build_359 : decode cL_build 359 = .ok (.if_icmp .ne 17, 3) := by decide +kernel
theorem dL_build_362 : decode cL_build 362 = .ok (.aload_n 0, 1) := by decide +kernel
theorem dL_build_363 : decode cL_build 363 = .ok (.iload_n 3, 1) := by decide +kernel
theorem dL_build_364 : decode cL_build 364 = .ok (.iload 4, 2) := by decide +kernel
theorem dL_build_366 : decode cL_build 366 = .ok (.aload 6, 2) := by decide +kernel
theorem dL_build_368 : decode cL_build 368 = .ok (.iconst 4, 1) := by decide +kernel
theorem dL_build_369 : decode cL_build 369 = .ok (.iaload, 1) := by decide +kernel
theorem dL_build_370 : decode cL_build 370 = .ok (.invokevirtual 63, 3) := by decide +kernel
theorem dL_build_373 : decode cL_build 373 = .ok (.ifCond .eq 5, 3) := by decide +kernel
theorem dL_build_376 : decode cL_build 376 = .ok (.aconst_null, 1) := by decide +kernel
theorem dL_build_377 : decode cL_build 377 = .ok (.areturn, 1) := by decide +kernel
theorem dL_build_378 : decode cL_build 378 = .ok (.iload 5, 2) := by decide +kernel
theorem dL_build_380 : decode cL_build 380 = .ok (.bipush 7, 2) := by decide +kernel
theorem dL_build_382 : decode cL_build 382 = .ok (.ishr, 1) := by decide +kernel
theorem dL_build_383 : decode cL_build 383 = .ok (.iconst 3, 1) := by decide +kernel
theorem dL_build_384 : decode cL_build 384 = .ok (.invokestatic 17, 3) := by decide +kernel
theorem dL_build_387 : decode cL_build 387 = .ok (.ifCond .ne 6, 3) := by decide +kernel
theorem dL_build_390 : decode cL_build 390 = .ok (.goto 121, 3) := by decide +kernel
theorem dL_build_393 : decode cL_build 393 = .ok (.iload 5, 2) := by decide +kernel
theorem dL_build_395 : decode cL_build 395 = .ok (.iconst 4, 1) := by decide +kernel
theorem dL_build_396 : decode cL_build 396 = .ok (.ishr, 1) := by decide +kernel
theorem dL_build_397 : decode cL_build 397 = .ok (.aload 6, 2) := by decide +kernel
theorem dL_build_399 : decode cL_build 399 = .ok (.iconst 1, 1) := by decide +kernel
theorem dL_build_400 : decode cL_build 400 = .ok (.iaload, 1) := by decide +kernel
theorem dL_build_401 : decode cL_build 401 = .ok (.iconst 1, 1) := by decide +kernel
theorem dL_build_402 : decode cL_build 402 = .ok (.iadd, 1) := by decide +kernel
theorem dL_build_403 : decode cL_build 403 = .ok (.invokestatic 17, 3) := by decide +kernel
theorem dL_build_406 : decode cL_build 406 = .ok (.istore 7, 2) := by decide +kernel
theorem dL_build_408 : decode cL_build 408 = .ok (.aload_n 0, 1) := by decide +kernel
theorem dL_build_409 : decode cL_build 409 = .ok (.iload_n 3, 1) := by decide +kernel
theorem dL_build_410 : decode cL_build 410 = .ok (.iload 4, 2) := by decide +kernel
theorem dL_build_412 : decode cL_build 412 = .ok (.iload 7, 2) := by decide +kernel
theorem dL_build_414 : decode cL_build 414 = .ok (.invokevirtual 67, 3) := by decide +kernel
theorem dL_build_417 : decode cL_build 417 = .ok (.iload 7, 2) := by decide +kernel
theorem dL_build_419 : decode cL_build 419 = .ok (.aload 6, 2) := by decide +kernel
theorem dL_build_421 : decode cL_build 421 = .ok (.iconst 3, 1) := by decide +kernel
theorem dL_build_422 : decode cL_build 422 = .ok (.iaload, 1) := by decide +kernel
theorem dL_build_423 : decode cL_build 423 = .ok (.isub, 1) := by decide +kernel
theorem dL_build_424 : decode cL_build 424 = .ok (.if_icmp .eq 5, 3) := by decide +kernel
end
section
theorem dL_build_427 : decode cL_build 427 = .ok (.aconst_null, 1) := by decide +kernel
theorem dL_build_428 : decode cL_build 428 = .ok (.areturn, 1) := by decide +kernel
theorem dL_build_429 : decode cL_build 429 = .ok (.aload_n 2, 1) := by decide +kernel
theorem dL_build_430 : decode cL_build 430 = .ok (.dup, 1) := by decide +kernel
theorem dL_build_431 : decode cL_build 431 = .ok (.getfield 70, 3) := by decide +kernel
theorem dL_build_434 : decode cL_build 434 = .ok (.iload 7, 2) := by decide +kernel
theorem dL_build_436 : decode cL_build 436 = .ok (.aload 6, 2) := by decide +kernel
theorem dL_build_438 : decode cL_build 438 = .ok (.iconst 3, 1) := by decide +kernel
theorem dL_build_439 : decode cL_build 439 = .ok (.iaload, 1) := by decide +kernel
theorem dL_build_440 : decode cL_build 440 = .ok (.isub, 1) := by decide +kernel
theorem dL_build_441 : decode cL_build 441 = .ok (.invokestatic 73, 3) := by decide +kernel
theorem dL_build_444 : decode cL_build 444 = .ok (.iadd, 1) := by decide +kernel
theorem dL_build_445 : decode cL_build 445 = .ok (.putfield 70, 3) := by decide +kernel
theorem dL_build_448 : decode cL_build 448 = .ok (.aload 6, 2) := by decide +kernel
theorem dL_build_450 : decode cL_build 450 = .ok (.iconst 3, 1) := by decide +kernel
theorem dL_build_451 : decode cL_build 451 = .ok (.iload 7, 2) := by decide +kernel
theorem dL_build_453 : decode cL_build 453 = .ok (.iastore, 1) := by decide +kernel
theorem dL_build_454 : decode cL_build 454 = .ok (.iload 5, 2) := by decide +kernel
theorem dL_build_456 : decode cL_build 456 = .ok (.bipush 6, 2) := by decide +kernel
theorem dL_build_458 : decode cL_build 458 = .ok (.ishr, 1) := by decide +kernel
theorem dL_build_459 : decode cL_build 459 = .ok (.iconst 3, 1) := by decide +kernel
theorem dL_build_460 : decode cL_build 460 = .ok (.invokestatic 17, 3) := by decide +kernel
theorem dL_build_463 : decode cL_build 463 = .ok (.ifCond .ne 6, 3) := by decide +kernel
theorem dL_build_466 : decode cL_build 466 = .ok (.goto 45, 3) := by decide +kernel
theorem dL_build_469 : decode cL_build 469 = .ok (.aload 6, 2) := by decide +kernel
theorem dL_build_471 : decode cL_build 471 = .ok (.iconst 5, 1) := by decide +kernel
theorem dL_build_472 : decode cL_build 472 = .ok (.iconst 1, 1) := by decide +kernel
theorem dL_build_473 : decode cL_build 473 = .ok (.iastore, 1) := by decide +kernel
theorem dL_build_474 : decode cL_build 474 = .ok (.aload 6, 2) := by decide +kernel
theorem dL_build_476 : decode cL_build 476 = .ok (.bipush 6, 2) := by decide +kernel
theorem dL_build_478 : decode cL_build 478 = .ok (.iload 5, 2) := by decide +kernel
theorem dL_build_480 : decode cL_build 480 = .ok (.bipush 8, 2) := by decide +kernel
theorem dL_build_482 : decode cL_build 482 = .ok (.ishr, 1) := by decide +kernel
theorem dL_build_483 : decode cL_build 483 = .ok (.bipush 21, 2) := by decide +kernel
theorem dL_build_485 : decode cL_build 485 = .ok (.invokestatic 17, 3) := by decide +kernel
theorem dL_build_488 : decode cL_build 488 = .ok (.iastore, 1) := by decide +kernel
theorem dL_build_489 : decode cL_build 489 = .ok (.aload_n 0, 1) := by decide +kernel
theorem dL_build_490 : decode cL_build 490 = .ok (.iload_n 3, 1) := by decide +kernel
theorem dL_build_491 : decode cL_build 491 = .ok (.iload 4, 2) := by decide +kernel
theorem dL_build_493 : decode cL_build 493 = .ok (.aload 6, 2) := by decide +kernel
theorem dL_build_495 : decode cL_build 495 = .ok (.bipush 6, 2) := by decide +kernel
theorem dL_build_497 : decode cL_build 497 = .ok (.iaload, 1) := by decide +kernel
theorem dL_build_498 : decode cL_build 498 = .ok (.invokevirtual 77, 3) := by decide +kernel
theorem dL_build_501 : decode cL_build 501 = .ok (.aload_n 2, 1) := by decide +kernel
theorem dL_build_502 : decode cL_build 502 = .ok (.iconst 5, 1) := by decide +kernel
theorem dL_build_503 : decode cL_build 503 = .ok (.invokevirtual 80, 3) := by decide +kernel
theorem dL_build_506 : decode cL_build 506 = .ok (.if_icmp .eq 5, 3) := by decide +kernel
theorem dL_build_509 : decode cL_build 509 = .ok (.aconst_null, 1) := by decide +kernel
theorem dL_build_510 : decode cL_build 510 = .ok (.areturn, 1) := by decide +kernel
theorem dL_build_511 : decode cL_build 511 = .ok (.iinc 4 1, 3) := by decide +kernel
theorem dL_build_514 : decode cL_build 514 = .ok (.goto (-270), 3) := by decide +kernel
theorem dL_build_517 : decode cL_build 517 = .ok (.iinc 3 1, 3) := by decide +kernel
theorem dL_build_520 : decode cL_build 520 = .ok (.goto (-287), 3) := by decide +kernel
theorem dL_build_523 : decode cL_build 523 = .ok (.aload_n 2, 1) := by decide +kernel
theorem dL_build_524 : decode cL_build 524 = .ok (.areturn, 1) := by decide +kernel
end
section
set_option maxRecDepth 20000 in
theorem ggL_law_X3_init : GoodIn wsL_law wsX3_init := goodIn_r _ [10, 11, 12, 13, 14, 15, 16, 17, 18, 19, 20, 21, 22, 23, 24, 25, 26, 27, 28, 29, 30, 31, 32, 33, 34, 35, 36, 37, 38, 39, 40, 41, 42, 43, 44, 45, 46, 47, 48, 49, 50, 51, 52, 53, 54, 55, 56, 57, 58, 59, 60, 61, 62, 63, 64, 65, 66, 67, 68, 69, 70, 71, 72, 311, 312, 313, 295, 296, 297, 298, 299, 300, 314, 315, 316, 317, 318, 319, 320, 321, 322, 323, 324, 325, 326, 327, 328, 329, 330, 331, 332, 333, 334, 335, 336] (by decide +kernel) (by decide +kernel)
set_option maxRecDepth 20000 in
theorem gL_law_X3_init : GoodIn wsL_law (wsX3_init) := ggL_law_X3_init
set_option maxRecDepth 20000 in
theorem ggL_law_X3_count : GoodIn wsL_law wsX3_count := goodIn_ca (goodIn_r _ [187, 126, 127, 114, 115, 2, 116, 188, 189, 190, 191, 21, 192, 193, 194, 195, 112, 196, 113, 171, 172, 173, 20, 174, 49, 175, 176, 177, 178, 179, 119, 120, 121, 60, 61, 197, 198, 199, 200, 44, 295, 296, 297, 298, 299, 300, 314, 315, 316, 317, 318, 319, 320, 321, 322, 323, 324, 325, 326, 327, 328, 329, 330, 331] (by decide +kernel) (by decide +kernel)) (goodIn_sub (fun _ h => List.mem_append_left _ (List.mem_append_right _ h)) (by decide +kernel))
set_option maxRecDepth 20000 in
theorem gL_law_X3_count : GoodIn wsL_law (wsV RL 88 RX3 yX3_count wsX3_count) := goodIn_app (goodIn_of _ (by decide +kernel)) ggL_law_X3_count
set_option maxRecDepth 20000 in
theorem ggL_law_X3_field : GoodIn wsL_law wsX3_field := goodIn_ca (goodIn_r _ [204, 126, 127, 21, 136, 137, 138, 20, 139, 60, 61, 114, 115, 2, 116, 148, 149, 150, 151, 205, 206, 207, 208, 44, 45, 46, 47, 48, 49, 50, 51, 52, 53, 54, 55, 295, 296, 297, 298, 299, 300, 314, 315, 316, 317, 318, 319, 320, 321, 322, 323, 324, 325, 326, 327, 328, 329, 330, 331] (by decide +kernel) (by decide +kernel)) (goodIn_sub (fun _ h => List.mem_append_left _ (List.mem_append_right _ h)) (by decide +kernel))
set_option maxRecDepth 20000 in
theorem gL_law_X3_field : GoodIn wsL_law (wsV RL 91 RX3 yX3_field wsX3_field) := goodIn_app (goodIn_of _ (by decide +kernel)) ggL_law_X3_field
set_option maxRecDepth 20000 in
theorem ggL_law_X3_foresee : GoodIn wsL_law wsX3_foresee := goodIn_ca (goodIn_ca (goodIn_ca (goodIn_r _ [212, 110, 111, 126, 127, 166, 167, 21, 194, 22, 17, 114, 115, 2, 116, 213, 214, 215, 20, 216, 60, 61, 62, 63, 64, 43, 217, 218, 219, 220, 44, 45, 46, 47, 48, 49, 50, 51, 52, 53, 54, 55, 221, 222, 223, 224, 225, 226, 227, 228, 229, 230, 231, 232, 233, 234, 179, 119, 120, 121, 235, 236, 237, 238, 239, 240, 241, 242, 243, 244, 245, 246, 247, 248, 83, 249, 250, 82, 84, 251, 149, 150, 151, 252, 253, 254, 255, 256, 137, 138, 139, 257, 258, 259, 260, 261, 262, 263, 264, 265, 266, 267, 268, 66, 67, 68, 69, 269, 270, 271, 272, 273, 274, 275, 276, 195, 171, 172, 173, 174, 175, 176, 177, 178, 277, 278, 279, 280, 197, 198, 199, 200, 295, 296, 297, 298, 299, 300, 314, 315, 316, 317, 318, 319, 320, 321, 322, 323, 324, 325, 326, 327, 328, 329, 330, 331, 311, 312, 313] (by decide +kernel) (by decide +kernel)) (goodIn_sub (fun _ h => List.mem_append_left _ (List.mem_append_left _ (List.mem_append_right _ h))) (by decide +kernel))) (goodIn_sub (fun _ h => List.mem_append_left _ (List.mem_append_right _ h)) (by decide +kernel))) (goodIn_sub (fun _ h => List.mem_append_right _ h) (by decide +kernel))
set_option maxRecDepth 20000 in
theorem gL_law_X3_foresee : GoodIn wsL_law (wsV RL 94 RX3 yX3_foresee wsX3_foresee) := goodIn_app (goodIn_of _ (by decide +kernel)) ggL_law_X3_foresee
set_option maxRecDepth 20000 in
theorem ggL_law_X3_pass : GoodIn wsL_law wsX3_pass := goodIn_ca (goodIn_ca (goodIn_r _ [284, 110, 111, 166, 167, 21, 194, 17, 114, 115, 2, 116, 224, 225, 226, 20, 227, 62, 228, 229, 230, 231, 232, 233, 234, 44, 179, 119, 120, 121, 60, 61, 235, 236, 237, 238, 43, 239, 240, 241, 242, 243, 244, 245, 246, 47, 247, 248, 83, 249, 250, 82, 84, 54, 48, 45, 55, 251, 149, 150, 151, 252, 253, 254, 255, 63, 256, 137, 138, 139, 257, 258, 259, 260, 46, 261, 262, 263, 264, 49, 265, 266, 267, 268, 50, 52, 53, 64, 51, 66, 67, 68, 69, 269, 270, 271, 272, 171, 172, 173, 174, 175, 176, 177, 178, 295, 296, 297, 298, 299, 300, 314, 315, 316, 317, 318, 319, 320, 321, 322, 323, 324, 325, 326, 327, 328, 329, 330, 331, 311, 312, 313] (by decide +kernel) (by decide +kernel)) (goodIn_sub (fun _ h => List.mem_append_left _ (List.mem_append_left _ (List.mem_append_right _ h))) (by decide +kernel))) (goodIn_sub (fun _ h => List.mem_append_right _ h) (by decide +kernel))
set_option maxRecDepth 20000 in
theorem gL_law_X3_pass : GoodIn wsL_law (wsV RL 97 RX3 yX3_pass wsX3_pass) := goodIn_app (goodIn_of _ (by decide +kernel)) ggL_law_X3_pass
set_option maxRecDepth 20000 in
theorem ggL_law_X3_reap : GoodIn wsL_law wsX3_reap := goodIn_ca (goodIn_ca (goodIn_r _ [288, 126, 127, 166, 167, 21, 168, 170, 289, 169, 112, 136, 137, 138, 20, 139, 60, 61, 148, 149, 150, 151, 290, 67, 68, 69, 49, 50, 51, 52, 53, 295, 296, 297, 298, 299, 300, 314, 315, 316, 317, 318, 319, 320, 321, 322, 323, 324, 325, 326, 327, 328, 329, 330, 331] (by decide +kernel) (by decide +kernel)) (goodIn_sub (fun _ h => List.mem_append_left _ (List.mem_append_right _ h)) (by decide +kernel))) (goodIn_sub (fun _ h => List.mem_append_right _ h) (by decide +kernel))
set_option maxRecDepth 20000 in
theorem gL_law_X3_reap : GoodIn wsL_law (wsV RL 100 RX3 yX3_reap wsX3_reap) := goodIn_app (goodIn_of _ (by decide +kernel)) ggL_law_X3_reap
set_option maxRecDepth 20000 in
theorem ggL_law_X3_depth : GoodIn wsL_law wsX3_depth := goodIn_r _ [294, 21, 118, 119, 120, 20, 121, 60, 61, 197, 198, 199, 200, 44, 175, 176, 177, 178, 179, 295, 296, 297, 298, 299, 300, 314, 315, 316, 317, 318, 319, 320, 321, 322, 323, 324, 325, 326, 327, 328, 329, 330, 331] (by decide +kernel) (by decide +kernel)
set_option maxRecDepth 20000 in
theorem gL_law_X3_depth : GoodIn wsL_law (wsV RL 103 RX3 yX3_depth wsX3_depth) := goodIn_app (goodIn_of _ (by decide +kernel)) ggL_law_X3_depth
end
section
theorem dL_law_0 : decode cL_law 0 = .ok (.new 32, 3) := by decide +kernel
theorem dL_law_3 : decode cL_law 3 = .ok (.dup, 1) := by decide +kernel
theorem dL_law_4 : decode cL_law 4 = .ok (.invokespecial 83, 3) := by decide +kernel
theorem dL_law_7 : decode cL_law 7 = .ok (.astore_n 1, 1) := by decide +kernel
theorem dL_law_8 : decode cL_law 8 = .ok (.aload_n 1, 1) := by decide +kernel
theorem dL_law_9 : decode cL_law 9 = .ok (.aload_n 0, 1) := by decide +kernel
theorem dL_law_10 : decode cL_law 10 = .ok (.invokestatic 84, 3) := by decide +kernel
theorem dL_law_13 : decode cL_law 13 = .ok (.astore_n 2, 1) := by decide +kernel
theorem dL_law_14 : decode cL_law 14 = .ok (.aload_n 2, 1) := by decide +kernel
theorem dL_law_15 : decode cL_law 15 = .ok (.ifnonnull 5, 3) := by decide +kernel
theorem dL_law_18 : decode cL_law 18 = .ok (.iconst 0, 1) := by decide +kernel
theorem dL_law_19 : decode cL_law 19 = .ok (.ireturn, 1) := by decide +kernel
theorem dL_law_20 : decode cL_law 20 = .ok (.aload_n 2, 1) := by decide +kernel
theorem dL_law_21 : decode cL_law 21 = .ok (.getfield 24, 3) := by decide +kernel
theorem dL_law_24 : decode cL_law 24 = .ok (.istore_n 3, 1) := by decide +kernel
theorem dL_law_25 : decode cL_law 25 = .ok (.aload_n 2, 1) := by decide +kernel
theorem dL_law_26 : decode cL_law 26 = .ok (.getfield 28, 3) := by decide +kernel
theorem dL_law_29 : decode cL_law 29 = .ok (.istore 4, 2) := by decide +kernel
theorem dL_law_31 : decode cL_law 31 = .ok (.aload_n 1, 1) := by decide +kernel
theorem dL_law_32 : decode cL_law 32 = .ok (.iconst 3, 1) := by decide +kernel
theorem dL_law_33 : decode cL_law 33 = .ok (.invokevirtual 88, 3) := by decide +kernel
theorem dL_law_36 : decode cL_law 36 = .ok (.istore 5, 2) := by decide +kernel
theorem dL_law_38 : decode cL_law 38 = .ok (.iconst 0, 1) := by decide +kernel
theorem dL_law_39 : decode cL_law 39 = .ok (.istore 6, 2) := by decide +kernel
theorem dL_law_41 : decode cL_law 41 = .ok (.iconst 0, 1) := by decide +kernel
theorem dL_law_42 : decode cL_law 42 = .ok (.istore 7, 2) := by decide +kernel
theorem dL_law_44 : decode cL_law 44 = .ok (.iconst 0, 1) := by decide +kernel
theorem dL_law_45 : decode cL_law 45 = .ok (.istore 8, 2) := by decide +kernel
theorem dL_law_47 : decode cL_law 47 = .ok (.iload 8, 2) := by decide +kernel
theorem dL_law_49 : decode cL_law 49 = .ok (.bipush 40, 2) := by decide +kernel
theorem dL_law_51 : decode cL_law 51 = .ok (.if_icmp .ge 763, 3) := by decide +kernel
theorem dL_law_54 : decode cL_law 54 = .ok (.aload_n 2, 1) := by decide +kernel
theorem dL_law_55 : decode cL_law 55 = .ok (.getfield 40, 3) := by decide +kernel
theorem dL_law_58 : decode cL_law 58 = .ok (.aload_n 1, 1) := by decide +kernel
theorem dL_law_59 : decode cL_law 59 = .ok (.iconst 2, 1) := by decide +kernel
theorem dL_law_60 : decode cL_law 60 = .ok (.invokevirtual 88, 3) := by decide +kernel
theorem dL_law_63 : decode cL_law 63 = .ok (.bipush 30, 2) := by decide +kernel
theorem dL_law_65 : decode cL_law 65 = .ok (.irem, 1) := by decide +kernel
theorem dL_law_66 : decode cL_law 66 = .ok (.aaload, 1) := by decide +kernel
theorem dL_law_67 : decode cL_law 67 = .ok (.astore 9, 2) := by decide +kernel
theorem dL_law_69 : decode cL_law 69 = .ok (.iconst 0, 1) := by decide +kernel
theorem dL_law_70 : decode cL_law 70 = .ok (.istore 10, 2) := by decide +kernel
theorem dL_law_72 : decode cL_law 72 = .ok (.iconst 0, 1) := by decide +kernel
theorem dL_law_73 : decode cL_law 73 = .ok (.istore 11, 2) := by decide +kernel
theorem dL_law_75 : decode cL_law 75 = .ok (.iload 11, 2) := by decide +kernel
theorem dL_law_77 : decode cL_law 77 = .ok (.iload 4, 2) := by decide +kernel
theorem dL_law_79 : decode cL_law 79 = .ok (.if_icmp .ge 21, 3) := by decide +kernel
theorem dL_law_82 : decode cL_law 82 = .ok (.iload 10, 2) := by decide +kernel
theorem dL_law_84 : decode cL_law 84 = .ok (.aload_n 2, 1) := by decide +kernel
theorem dL_law_85 : decode cL_law 85 = .ok (.getfield 44, 3) := by decide +kernel
theorem dL_law_88 : decode cL_law 88 = .ok (.iload 11, 2) := by decide +kernel
theorem dL_law_90 : decode cL_law 90 = .ok (.iaload, 1) := by decide +kernel
theorem dL_law_91 : decode cL_law 91 = .ok (.iadd, 1) := by decide +kernel
theorem dL_law_92 : decode cL_law 92 = .ok (.istore 10, 2) := by decide +kernel
theorem dL_law_94 : decode cL_law 94 = .ok (.iinc 11 1, 3) := by decide +kernel
theorem dL_law_97 : decode cL_law 97 = .ok (.goto (-22), 3) := by decide +kernel
theorem dL_law_100 : decode cL_law 100 = .ok (.iload_n 3, 1) := by decide +kernel
theorem dL_law_101 : decode cL_law 101 = .ok (.iload 4, 2) := by decide +kernel
theorem dL_law_103 : decode cL_law 103 = .ok (.imul, 1) := by decide +kernel
theorem dL_law_104 : decode cL_law 104 = .ok (.aload 9, 2) := by decide +kernel
theorem dL_law_106 : decode cL_law 106 = .ok (.iconst 0, 1) := by decide +kernel
theorem dL_law_107 : decode cL_law 107 = .ok (.iaload, 1) := by decide +kernel
theorem dL_law_108 : decode cL_law 108 = .ok (.imul, 1) := by decide +kernel
theorem dL_law_109 : decode cL_law 109 = .ok (.istore 11, 2) := by decide +kernel
theorem dL_law_111 : decode cL_law 111 = .ok (.iconst 0, 1) := by decide +kernel
theorem dL_law_112 : decode cL_law 112 = .ok (.istore 12, 2) := by decide +kernel
theorem dL_law_114 : decode cL_law 114 = .ok (.iload 12, 2) := by decide +kernel
theorem dL_law_116 : decode cL_law 116 = .ok (.iload 4, 2) := by decide +kernel
theorem dL_law_118 : decode cL_law 118 = .ok (.if_icmp .ge 34, 3) := by decide +kernel
theorem dL_law_121 : decode cL_law 121 = .ok (.iload 10, 2) := by decide +kernel
theorem dL_law_123 : decode cL_law 123 = .ok (.ifCond .le 29, 3) := by decide +kernel
theorem dL_law_126 : decode cL_law 126 = .ok (.iload 11, 2) := by decide +kernel
theorem dL_law_128 : decode cL_law 128 = .ok (.aload 9, 2) := by decide +kernel
theorem dL_law_130 : decode cL_law 130 = .ok (.iconst 1, 1) := by decide +kernel
theorem dL_law_131 : decode cL_law 131 = .ok (.iaload, 1) := by decide +kernel
theorem dL_law_132 : decode cL_law 132 = .ok (.aload_n 2, 1) := by decide +kernel
theorem dL_law_133 : decode cL_law 133 = .ok (.getfield 44, 3) := by decide +kernel
theorem dL_law_136 : decode cL_law 136 = .ok (.iload 12, 2) := by decide +kernel
theorem dL_law_138 : decode cL_law 138 = .ok (.iaload, 1) := by decide +kernel
theorem dL_law_139 : decode cL_law 139 = .ok (.imul, 1) := by decide +kernel
theorem dL_law_140 : decode cL_law 140 = .ok (.iload 10, 2) := by decide +kernel
theorem dL_law_142 : decode cL_law 142 = .ok (.idiv, 1) := by decide +kernel
theorem dL_law_143 : decode cL_law 143 = .ok (.iadd, 1) := by decide +kernel
theorem dL_law_144 : decode cL_law 144 = .ok (.istore 11, 2) := by decide +kernel
theorem dL_law_146 : decode cL_law 146 = .ok (.iinc 12 1, 3) := by decide +kernel
theorem dL_law_149 : decode cL_law 149 = .ok (.goto (-35), 3) := by decide +kernel
theorem dL_law_152 : decode cL_law 152 = .ok (.aload_n 1, 1) := by decide +kernel
theorem dL_law_153 : decode cL_law 153 = .ok (.iconst 4, 1) := by decide +kernel
theorem dL_law_154 : decode cL_law 154 = .ok (.invokevirtual 88, 3) := by decide +kernel
theorem dL_law_157 : decode cL_law 157 = .ok (.aload_n 1, 1) := by decide +kernel
theorem dL_law_158 : decode cL_law 158 = .ok (.iconst 5, 1) := by decide +kernel
theorem dL_law_159 : decode cL_law 159 = .ok (.invokevirtual 88, 3) := by decide +kernel
theorem dL_law_162 : decode cL_law 162 = .ok (.iadd, 1) := by decide +kernel
theorem dL_law_163 : decode cL_law 163 = .ok (.istore 12, 2) := by decide +kernel
theorem dL_law_165 : decode cL_law 165 = .ok (.iconst 0, 1) := by decide +kernel
theorem dL_law_166 : decode cL_law 166 = .ok (.istore 13, 2) := by decide +kernel
theorem dL_law_168 : decode cL_law 168 = .ok (.iconst 0, 1) := by decide +kernel
theorem dL_law_169 : decode cL_law 169 = .ok (.istore 14, 2) := by decide +kernel
theorem dL_law_171 : decode cL_law 171 = .ok (.iload 14, 2) := by decide +kernel
theorem dL_law_173 : decode cL_law 173 = .ok (.iload_n 3, 1) := by decide +kernel
theorem dL_law_174 : decode cL_law 174 = .ok (.if_icmp .ge 44, 3) := by decide +kernel
theorem dL_law_177 : decode cL_law 177 = .ok (.iconst 0, 1) := by decide +kernel
theorem dL_law_178 : decode cL_law 178 = .ok (.istore 15, 2) := by decide +kernel
theorem dL_law_180 : decode cL_law 180 = .ok (.iload 15, 2) := by decide +kernel
theorem dL_law_182 : decode cL_law 182 = .ok (.iload 4, 2) := by decide +kernel
theorem dL_law_184 : decode cL_law 184 = .ok (.if_icmp .ge 28, 3) := by decide +kernel
theorem dL_law_187 : decode cL_law 187 = .ok (.iload 13, 2) := by decide +kernel
theorem dL_law_189 : decode cL_law 189 = .ok (.aload_n 1, 1) := by decide +kernel
theorem dL_law_190 : decode cL_law 190 = .ok (.iload 14, 2) := by decide +kernel
theorem dL_law_192 : decode cL_law 192 = .ok (.iload 15, 2) := by decide +kernel
theorem dL_law_194 : decode cL_law 194 = .ok (.iconst 2, 1) := by decide +kernel
theorem dL_law_195 : decode cL_law 195 = .ok (.invokevirtual 91, 3) := by decide +kernel
theorem dL_law_198 : decode cL_law 198 = .ok (.aload 9, 2) := by decide +kernel
theorem dL_law_200 : decode cL_law 200 = .ok (.iconst 2, 1) := by decide +kernel
theorem dL_law_201 : decode cL_law 201 = .ok (.iaload, 1) := by decide +kernel
theorem dL_law_202 : decode cL_law 202 = .ok (.iadd, 1) := by decide +kernel
theorem dL_law_203 : decode cL_law 203 = .ok (.iadd, 1) := by decide +kernel
theorem dL_law_204 : decode cL_law 204 = .ok (.istore 13, 2) := by decide +kernel
theorem dL_law_206 : decode cL_law 206 = .ok (.iinc 15 1, 3) := by decide +kernel
theorem dL_law_209 : decode cL_law 209 = .ok (.goto (-29), 3) := by decide +kernel
theorem dL_law_212 : decode cL_law 212 = .ok (.iinc 14 1, 3) := by decide +kernel
theorem dL_law_215 : decode cL_law 215 = .ok (.goto (-44), 3) := by decide +kernel
theorem dL_law_218 : decode cL_law 218 = .ok (.aload_n 1, 1) := by decide +kernel
theorem dL_law_219 : decode cL_law 219 = .ok (.iconst 5, 1) := by decide +kernel
theorem dL_law_220 : decode cL_law 220 = .ok (.invokevirtual 88, 3) := by decide +kernel
theorem dL_law_223 : decode cL_law 223 = .ok (.istore 14, 2) := by decide +kernel
theorem dL_law_225 : decode cL_law 225 = .ok (.aload_n 1, 1) := by decide +kernel
theorem dL_law_226 : decode cL_law 226 = .ok (.iconst 1, 1) := by decide +kernel
theorem dL_law_227 : decode cL_law 227 = .ok (.iconst 2, 1) := by decide +kernel
theorem dL_law_228 : decode cL_law 228 = .ok (.invokevirtual 94, 3) := by decide +kernel
theorem dL_law_231 : decode cL_law 231 = .ok (.istore 15, 2) := by decide +kernel
theorem dL_law_233 : decode cL_law 233 = .ok (.aload_n 1, 1) := by decide +kernel
theorem dL_law_234 : decode cL_law 234 = .ok (.iconst 1, 1) := by decide +kernel
theorem dL_law_235 : decode cL_law 235 = .ok (.invokevirtual 97, 3) := by decide +kernel
theorem dL_law_238 : decode cL_law 238 = .ok (.istore 16, 2) := by decide +kernel
theorem dL_law_240 : decode cL_law 240 = .ok (.aload_n 1, 1) := by decide +kernel
theorem dL_law_241 : decode cL_law 241 = .ok (.iconst 4, 1) := by decide +kernel
theorem dL_law_242 : decode cL_law 242 = .ok (.invokevirtual 88, 3) := by decide +kernel
theorem dL_law_245 : decode cL_law 245 = .ok (.aload_n 1, 1) := by decide +kernel
theorem dL_law_246 : decode cL_law 246 = .ok (.iconst 5, 1) := by decide +kernel
theorem dL_law_247 : decode cL_law 247 = .ok (.invokevirtual 88, 3) := by decide +kernel
theorem dL_law_250 : decode cL_law 250 = .ok (.iadd, 1) := by decide +kernel
theorem dL_law_251 : decode cL_law 251 = .ok (.istore 17, 2) := by decide +kernel
theorem dL_law_253 : decode cL_law 253 = .ok (.iload 17, 2) := by decide +kernel
theorem dL_law_255 : decode cL_law 255 = .ok (.iload 12, 2) := by decide +kernel
theorem dL_law_257 : decode cL_law 257 = .ok (.iload 11, 2) := by decide +kernel
theorem dL_law_259 : decode cL_law 259 = .ok (.iadd, 1) := by decide +kernel
theorem dL_law_260 : decode cL_law 260 = .ok (.if_icmp .gt 51, 3) := by decide +kernel
theorem dL_law_263 : decode cL_law 263 = .ok (.iload 17, 2) := by decide +kernel
theorem dL_law_265 : decode cL_law 265 = .ok (.iload 12, 2) := by decide +kernel
theorem dL_law_267 : decode cL_law 267 = .ok (.iload 11, 2) := by decide +kernel
theorem dL_law_269 : decode cL_law 269 = .ok (.iadd, 1) := by decide +kernel
theorem dL_law_270 : decode cL_law 270 = .ok (.iload 13, 2) := by decide +kernel
theorem dL_law_272 : decode cL_law 272 = .ok (.isub, 1) := by decide +kernel
theorem dL_law_273 : decode cL_law 273 = .ok (.if_icmp .lt 38, 3) := by decide +kernel
theorem dL_law_276 : decode cL_law 276 = .ok (.aload_n 1, 1) := by decide +kernel
theorem dL_law_277 : decode cL_law 277 = .ok (.iconst 5, 1) := by decide +kernel
theorem dL_law_278 : decode cL_law 278 = .ok (.invokevirtual 88, 3) := by decide +kernel
theorem dL_law_281 : decode cL_law 281 = .ok (.iload 14, 2) := by decide +kernel
theorem dL_law_283 : decode cL_law 283 = .ok (.isub, 1) := by decide +kernel
theorem dL_law_284 : decode cL_law 284 = .ok (.iload 15, 2) := by decide +kernel
theorem dL_law_286 : decode cL_law 286 = .ok (.if_icmp .ne 25, 3) := by decide +kernel
theorem dL_law_289 : decode cL_law 289 = .ok (.iload 16, 2) := by decide +kernel
theorem dL_law_291 : decode cL_law 291 = .ok (.aload_n 1, 1) := by decide +kernel
theorem dL_law_292 : decode cL_law 292 = .ok (.iconst 3, 1) := by decide +kernel
theorem dL_law_293 : decode cL_law 293 = .ok (.invokevirtual 88, 3) := by decide +kernel
theorem dL_law_296 : decode cL_law 296 = .ok (.if_icmp .ne 15, 3) := by decide +kernel
theorem dL_law_299 : decode cL_law 299 = .ok (.aload_n 1, 1) := by decide +kernel
theorem dL_law_300 : decode cL_law 300 = .ok (.iconst 2, 1) := by decide +kernel
theorem dL_law_301 : decode cL_law 301 = .ok (.invokevirtual 88, 3) := by decide +kernel
theorem dL_law_304 : decode cL_law 304 = .ok (.iload 8, 2) := by decide +kernel
theorem dL_law_306 : decode cL_law 306 = .ok (.iconst 1, 1) := by decide +kernel
theorem dL_law_307 : decode cL_law 307 = .ok (.iadd, 1) := by decide +kernel
theorem dL_law_308 : decode cL_law 308 = .ok (.if_icmp .eq 5, 3) := by decide +kernel
theorem dL_law_311 : decode cL_law 311 = .ok (.iconst 0, 1) := by decide +kernel
theorem dL_law_312 : decode cL_law 312 = .ok (.ireturn, 1) := by decide +kernel
theorem dL_law_313 : decode cL_law 313 = .ok (.iconst 0, 1) := by decide +kernel
theorem dL_law_314 : decode cL_law 314 = .ok (.istore 18, 2) := by decide +kernel
theorem dL_law_316 : decode cL_law 316 = .ok (.iconst 0, 1) := by decide +kernel
theorem dL_law_317 : decode cL_law 317 = .ok (.istore 19, 2) := by decide +kernel
theorem dL_law_319 : decode cL_law 319 = .ok (.iload 19, 2) := by decide +kernel
theorem dL_law_321 : decode cL_law 321 = .ok (.iload_n 3, 1) := by decide +kernel
theorem dL_law_322 : decode cL_law 322 = .ok (.if_icmp .ge 426, 3) := by decide +kernel
theorem dL_law_325 : decode cL_law 325 = .ok (.iconst 0, 1) := by decide +kernel
theorem dL_law_326 : decode cL_law 326 = .ok (.istore 20, 2) := by decide +kernel
theorem dL_law_328 : decode cL_law 328 = .ok (.iload 20, 2) := by decide +kernel
theorem dL_law_330 : decode cL_law 330 = .ok (.iload 4, 2) := by decide +kernel
theorem dL_law_332 : decode cL_law 332 = .ok (.if_icmp .ge 410, 3) := by decide +kernel
theorem dL_law_335 : decode cL_law 335 = .ok (.aload_n 1, 1) := by decide +kernel
theorem dL_law_336 : decode cL_law 336 = .ok (.iload 19, 2) := by decide +kernel
end
section
theorem dL_law_338 : decode cL_law 338 = .ok (.iload 20, 2) := by decide +kernel
theorem dL_law_340 : decode cL_law 340 = .ok (.iconst 0, 1) := by decide +kernel
theorem dL_law_341 : decode cL_law 341 = .ok (.invokevirtual 91, 3) := by decide +kernel
theorem dL_law_344 : decode cL_law 344 = .ok (.istore 21, 2) := by decide +kernel
theorem dL_law_346 : decode cL_law 346 = .ok (.iload 20, 2) := by decide +kernel
theorem dL_law_348 : decode cL_law 348 = .ok (.ifCond .le 18, 3) := by decide +kernel
theorem dL_law_351 : decode cL_law 351 = .ok (.aload_n 1, 1) := by decide +kernel
theorem dL_law_352 : decode cL_law 352 = .ok (.iload 19, 2) := by decide +kernel
theorem dL_law_354 : decode cL_law 354 = .ok (.iload 20, 2) := by decide +kernel
theorem dL_law_356 : decode cL_law 356 = .ok (.iconst 1, 1) := by decide +kernel
theorem dL_law_357 : decode cL_law 357 = .ok (.isub, 1) := by decide +kernel
theorem dL_law_358 : decode cL_law 358 = .ok (.bipush 11, 2) := by decide +kernel
theorem dL_law_360 : decode cL_law 360 = .ok (.invokevirtual 91, 3) := by decide +kernel
theorem dL_law_363 : decode cL_law 363 = .ok (.goto 4, 3) := by decide +kernel
theorem dL_law_366 : decode cL_law 366 = .ok (.iconst 0, 1) := by decide +kernel
theorem dL_law_367 : decode cL_law 367 = .ok (.iload 20, 2) := by decide +kernel
theorem dL_law_369 : decode cL_law 369 = .ok (.iload 4, 2) := by decide +kernel
theorem dL_law_371 : decode cL_law 371 = .ok (.iconst 1, 1) := by decide +kernel
theorem dL_law_372 : decode cL_law 372 = .ok (.isub, 1) := by decide +kernel
theorem dL_law_373 : decode cL_law 373 = .ok (.if_icmp .ge 18, 3) := by decide +kernel
theorem dL_law_376 : decode cL_law 376 = .ok (.aload_n 1, 1) := by decide +kernel
theorem dL_law_377 : decode cL_law 377 = .ok (.iload 19, 2) := by decide +kernel
theorem dL_law_379 : decode cL_law 379 = .ok (.iload 20, 2) := by decide +kernel
theorem dL_law_381 : decode cL_law 381 = .ok (.iconst 1, 1) := by decide +kernel
theorem dL_law_382 : decode cL_law 382 = .ok (.iadd, 1) := by decide +kernel
theorem dL_law_383 : decode cL_law 383 = .ok (.bipush 11, 2) := by decide +kernel
theorem dL_law_385 : decode cL_law 385 = .ok (.invokevirtual 91, 3) := by decide +kernel
theorem dL_law_388 : decode cL_law 388 = .ok (.goto 4, 3) := by decide +kernel
theorem dL_law_391 : decode cL_law 391 = .ok (.iconst 0, 1) := by decide +kernel
theorem dL_law_392 : decode cL_law 392 = .ok (.iadd, 1) := by decide +kernel
theorem dL_law_393 : decode cL_law 393 = .ok (.istore 22, 2) := by decide +kernel
theorem dL_law_395 : decode cL_law 395 = .ok (.iload 21, 2) := by decide +kernel
theorem dL_law_397 : decode cL_law 397 = .ok (.ifCond .lt 69, 3) := by decide +kernel
theorem dL_law_400 : decode cL_law 400 = .ok (.iload 21, 2) := by decide +kernel
theorem dL_law_402 : decode cL_law 402 = .ok (.sipush 200, 3) := by decide +kernel
theorem dL_law_405 : decode cL_law 405 = .ok (.if_icmp .gt 61, 3) := by decide +kernel
theorem dL_law_408 : decode cL_law 408 = .ok (.iload 21, 2) := by decide +kernel
theorem dL_law_410 : decode cL_law 410 = .ok (.aload_n 1, 1) := by decide +kernel
theorem dL_law_411 : decode cL_law 411 = .ok (.iload 19, 2) := by decide +kernel
theorem dL_law_413 : decode cL_law 413 = .ok (.iload 20, 2) := by decide +kernel
theorem dL_law_415 : decode cL_law 415 = .ok (.iconst 1, 1) := by decide +kernel
theorem dL_law_416 : decode cL_law 416 = .ok (.invokevirtual 91, 3) := by decide +kernel
theorem dL_law_419 : decode cL_law 419 = .ok (.iload 22, 2) := by decide +kernel
theorem dL_law_421 : decode cL_law 421 = .ok (.iadd, 1) := by decide +kernel
theorem dL_law_422 : decode cL_law 422 = .ok (.if_icmp .gt 44, 3) := by decide +kernel
theorem dL_law_425 : decode cL_law 425 = .ok (.aload_n 1, 1) := by decide +kernel
theorem dL_law_426 : decode cL_law 426 = .ok (.iload 19, 2) := by decide +kernel
theorem dL_law_428 : decode cL_law 428 = .ok (.iload 20, 2) := by decide +kernel
theorem dL_law_430 : decode cL_law 430 = .ok (.bipush 10, 2) := by decide +kernel
theorem dL_law_432 : decode cL_law 432 = .ok (.invokevirtual 91, 3) := by decide +kernel
theorem dL_law_435 : decode cL_law 435 = .ok (.ifCond .lt 31, 3) := by decide +kernel
theorem dL_law_438 : decode cL_law 438 = .ok (.aload_n 1, 1) := by decide +kernel
theorem dL_law_439 : decode cL_law 439 = .ok (.iload 19, 2) := by decide +kernel
theorem dL_law_441 : decode cL_law 441 = .ok (.iload 20, 2) := by decide +kernel
theorem dL_law_443 : decode cL_law 443 = .ok (.bipush 10, 2) := by decide +kernel
theorem dL_law_445 : decode cL_law 445 = .ok (.invokevirtual 91, 3) := by decide +kernel
theorem dL_law_448 : decode cL_law 448 = .ok (.bipush 40, 2) := by decide +kernel
theorem dL_law_450 : decode cL_law 450 = .ok (.if_icmp .gt 16, 3) := by decide +kernel
theorem dL_law_453 : decode cL_law 453 = .ok (.aload_n 1, 1) := by decide +kernel
theorem dL_law_454 : decode cL_law 454 = .ok (.iload 19, 2) := by decide +kernel
theorem dL_law_456 : decode cL_law 456 = .ok (.iload 20, 2) := by decide +kernel
theorem dL_law_458 : decode cL_law 458 = .ok (.bipush 11, 2) := by decide +kernel
theorem dL_law_460 : decode cL_law 460 = .ok (.invokevirtual 91, 3) := by decide +kernel
theorem dL_law_463 : decode cL_law 463 = .ok (.ifCond .ge 5, 3) := by decide +kernel
theorem dL_law_466 : decode cL_law 466 = .ok (.iconst 0, 1) := by decide +kernel
theorem dL_law_467 : decode cL_law 467 = .ok (.ireturn, 1) := by decide +kernel
theorem dL_law_468 : decode cL_law 468 = .ok (.iload 18, 2) := by decide +kernel
theorem dL_law_470 : decode cL_law 470 = .ok (.iload 21, 2) := by decide +kernel
theorem dL_law_472 : decode cL_law 472 = .ok (.iadd, 1) := by decide +kernel
theorem dL_law_473 : decode cL_law 473 = .ok (.istore 18, 2) := by decide +kernel
theorem dL_law_475 : decode cL_law 475 = .ok (.aload_n 1, 1) := by decide +kernel
theorem dL_law_476 : decode cL_law 476 = .ok (.iload 19, 2) := by decide +kernel
theorem dL_law_478 : decode cL_law 478 = .ok (.iload 20, 2) := by decide +kernel
theorem dL_law_480 : decode cL_law 480 = .ok (.iconst 5, 1) := by decide +kernel
theorem dL_law_481 : decode cL_law 481 = .ok (.invokevirtual 91, 3) := by decide +kernel
theorem dL_law_484 : decode cL_law 484 = .ok (.istore 23, 2) := by decide +kernel
theorem dL_law_486 : decode cL_law 486 = .ok (.iload 23, 2) := by decide +kernel
theorem dL_law_488 : decode cL_law 488 = .ok (.ifCond .ne 38, 3) := by decide +kernel
theorem dL_law_491 : decode cL_law 491 = .ok (.bipush 6, 2) := by decide +kernel
theorem dL_law_493 : decode cL_law 493 = .ok (.istore 24, 2) := by decide +kernel
theorem dL_law_495 : decode cL_law 495 = .ok (.iload 24, 2) := by decide +kernel
theorem dL_law_497 : decode cL_law 497 = .ok (.bipush 10, 2) := by decide +kernel
theorem dL_law_499 : decode cL_law 499 = .ok (.if_icmp .ge 24, 3) := by decide +kernel
theorem dL_law_502 : decode cL_law 502 = .ok (.aload_n 1, 1) := by decide +kernel
theorem dL_law_503 : decode cL_law 503 = .ok (.iload 19, 2) := by decide +kernel
theorem dL_law_505 : decode cL_law 505 = .ok (.iload 20, 2) := by decide +kernel
theorem dL_law_507 : decode cL_law 507 = .ok (.iload 24, 2) := by decide +kernel
theorem dL_law_509 : decode cL_law 509 = .ok (.invokevirtual 91, 3) := by decide +kernel
theorem dL_law_512 : decode cL_law 512 = .ok (.ifCond .eq 5, 3) := by decide +kernel
theorem dL_law_515 : decode cL_law 515 = .ok (.iconst 0, 1) := by decide +kernel
theorem dL_law_516 : decode cL_law 516 = .ok (.ireturn, 1) := by decide +kernel
theorem dL_law_517 : decode cL_law 517 = .ok (.iinc 24 1, 3) := by decide +kernel
theorem dL_law_520 : decode cL_law 520 = .ok (.goto (-25), 3) := by decide +kernel
theorem dL_law_523 : decode cL_law 523 = .ok (.goto 213, 3) := by decide +kernel
theorem dL_law_526 : decode cL_law 526 = .ok (.aload_n 1, 1) := by decide +kernel
theorem dL_law_527 : decode cL_law 527 = .ok (.iload 19, 2) := by decide +kernel
theorem dL_law_529 : decode cL_law 529 = .ok (.iload 20, 2) := by decide +kernel
theorem dL_law_531 : decode cL_law 531 = .ok (.bipush 7, 2) := by decide +kernel
theorem dL_law_533 : decode cL_law 533 = .ok (.invokevirtual 91, 3) := by decide +kernel
theorem dL_law_536 : decode cL_law 536 = .ok (.istore 24, 2) := by decide +kernel
theorem dL_law_538 : decode cL_law 538 = .ok (.iload 23, 2) := by decide +kernel
theorem dL_law_540 : decode cL_law 540 = .ok (.iconst 1, 1) := by decide +kernel
theorem dL_law_541 : decode cL_law 541 = .ok (.if_icmp .ne 125, 3) := by decide +kernel
theorem dL_law_544 : decode cL_law 544 = .ok (.iload 24, 2) := by decide +kernel
theorem dL_law_546 : decode cL_law 546 = .ok (.ifCond .lt 120, 3) := by decide +kernel
theorem dL_law_549 : decode cL_law 549 = .ok (.iload 24, 2) := by decide +kernel
theorem dL_law_551 : decode cL_law 551 = .ok (.bipush 100, 2) := by decide +kernel
theorem dL_law_553 : decode cL_law 553 = .ok (.if_icmp .gt 113, 3) := by decide +kernel
theorem dL_law_556 : decode cL_law 556 = .ok (.aload_n 1, 1) := by decide +kernel
theorem dL_law_557 : decode cL_law 557 = .ok (.iload 19, 2) := by decide +kernel
theorem dL_law_559 : decode cL_law 559 = .ok (.iload 20, 2) := by decide +kernel
theorem dL_law_561 : decode cL_law 561 = .ok (.bipush 8, 2) := by decide +kernel
theorem dL_law_563 : decode cL_law 563 = .ok (.invokevirtual 91, 3) := by decide +kernel
theorem dL_law_566 : decode cL_law 566 = .ok (.iconst 3, 1) := by decide +kernel
theorem dL_law_567 : decode cL_law 567 = .ok (.if_icmp .gt 99, 3) := by decide +kernel
theorem dL_law_570 : decode cL_law 570 = .ok (.aload_n 1, 1) := by decide +kernel
theorem dL_law_571 : decode cL_law 571 = .ok (.iload 19, 2) := by decide +kernel
theorem dL_law_573 : decode cL_law 573 = .ok (.iload 20, 2) := by decide +kernel
theorem dL_law_575 : decode cL_law 575 = .ok (.bipush 9, 2) := by decide +kernel
theorem dL_law_577 : decode cL_law 577 = .ok (.invokevirtual 91, 3) := by decide +kernel
theorem dL_law_580 : decode cL_law 580 = .ok (.iconst 4, 1) := by decide +kernel
theorem dL_law_581 : decode cL_law 581 = .ok (.if_icmp .gt 85, 3) := by decide +kernel
theorem dL_law_584 : decode cL_law 584 = .ok (.aload_n 1, 1) := by decide +kernel
theorem dL_law_585 : decode cL_law 585 = .ok (.iload 19, 2) := by decide +kernel
theorem dL_law_587 : decode cL_law 587 = .ok (.iload 20, 2) := by decide +kernel
theorem dL_law_589 : decode cL_law 589 = .ok (.bipush 8, 2) := by decide +kernel
theorem dL_law_591 : decode cL_law 591 = .ok (.invokevirtual 91, 3) := by decide +kernel
theorem dL_law_594 : decode cL_law 594 = .ok (.ifCond .le 16, 3) := by decide +kernel
theorem dL_law_597 : decode cL_law 597 = .ok (.aload_n 1, 1) := by decide +kernel
theorem dL_law_598 : decode cL_law 598 = .ok (.iload 19, 2) := by decide +kernel
theorem dL_law_600 : decode cL_law 600 = .ok (.iload 20, 2) := by decide +kernel
theorem dL_law_602 : decode cL_law 602 = .ok (.bipush 9, 2) := by decide +kernel
theorem dL_law_604 : decode cL_law 604 = .ok (.invokevirtual 91, 3) := by decide +kernel
theorem dL_law_607 : decode cL_law 607 = .ok (.ifCond .gt 59, 3) := by decide +kernel
theorem dL_law_610 : decode cL_law 610 = .ok (.aload_n 1, 1) := by decide +kernel
theorem dL_law_611 : decode cL_law 611 = .ok (.iload 19, 2) := by decide +kernel
theorem dL_law_613 : decode cL_law 613 = .ok (.iload 20, 2) := by decide +kernel
theorem dL_law_615 : decode cL_law 615 = .ok (.bipush 9, 2) := by decide +kernel
theorem dL_law_617 : decode cL_law 617 = .ok (.invokevirtual 91, 3) := by decide +kernel
theorem dL_law_620 : decode cL_law 620 = .ok (.ifCond .le 7, 3) := by decide +kernel
theorem dL_law_623 : decode cL_law 623 = .ok (.iconst 1, 1) := by decide +kernel
theorem dL_law_624 : decode cL_law 624 = .ok (.goto 4, 3) := by decide +kernel
theorem dL_law_627 : decode cL_law 627 = .ok (.iconst 0, 1) := by decide +kernel
theorem dL_law_628 : decode cL_law 628 = .ok (.iload 21, 2) := by decide +kernel
theorem dL_law_630 : decode cL_law 630 = .ok (.ifCond .ne 7, 3) := by decide +kernel
theorem dL_law_633 : decode cL_law 633 = .ok (.iconst 1, 1) := by decide +kernel
theorem dL_law_634 : decode cL_law 634 = .ok (.goto 4, 3) := by decide +kernel
theorem dL_law_637 : decode cL_law 637 = .ok (.iconst 0, 1) := by decide +kernel
theorem dL_law_638 : decode cL_law 638 = .ok (.if_icmp .ne 28, 3) := by decide +kernel
theorem dL_law_641 : decode cL_law 641 = .ok (.aload_n 1, 1) := by decide +kernel
theorem dL_law_642 : decode cL_law 642 = .ok (.iload 19, 2) := by decide +kernel
theorem dL_law_644 : decode cL_law 644 = .ok (.iload 20, 2) := by decide +kernel
theorem dL_law_646 : decode cL_law 646 = .ok (.bipush 6, 2) := by decide +kernel
theorem dL_law_648 : decode cL_law 648 = .ok (.invokevirtual 91, 3) := by decide +kernel
theorem dL_law_651 : decode cL_law 651 = .ok (.iconst 1, 1) := by decide +kernel
theorem dL_law_652 : decode cL_law 652 = .ok (.if_icmp .lt 14, 3) := by decide +kernel
theorem dL_law_655 : decode cL_law 655 = .ok (.iload 24, 2) := by decide +kernel
theorem dL_law_657 : decode cL_law 657 = .ok (.iconst 2, 1) := by decide +kernel
theorem dL_law_658 : decode cL_law 658 = .ok (.iload 8, 2) := by decide +kernel
theorem dL_law_660 : decode cL_law 660 = .ok (.iconst 1, 1) := by decide +kernel
theorem dL_law_661 : decode cL_law 661 = .ok (.iadd, 1) := by decide +kernel
theorem dL_law_662 : decode cL_law 662 = .ok (.imul, 1) := by decide +kernel
theorem dL_law_663 : decode cL_law 663 = .ok (.if_icmp .le 5, 3) := by decide +kernel
theorem dL_law_666 : decode cL_law 666 = .ok (.iconst 0, 1) := by decide +kernel
theorem dL_law_667 : decode cL_law 667 = .ok (.ireturn, 1) := by decide +kernel
theorem dL_law_668 : decode cL_law 668 = .ok (.aload_n 1, 1) := by decide +kernel
theorem dL_law_669 : decode cL_law 669 = .ok (.iload 19, 2) := by decide +kernel
theorem dL_law_671 : decode cL_law 671 = .ok (.iload 20, 2) := by decide +kernel
theorem dL_law_673 : decode cL_law 673 = .ok (.bipush 6, 2) := by decide +kernel
theorem dL_law_675 : decode cL_law 675 = .ok (.invokevirtual 91, 3) := by decide +kernel
theorem dL_law_678 : decode cL_law 678 = .ok (.bipush 40, 2) := by decide +kernel
theorem dL_law_680 : decode cL_law 680 = .ok (.if_icmp .ge 6, 3) := by decide +kernel
theorem dL_law_683 : decode cL_law 683 = .ok (.goto 53, 3) := by decide +kernel
theorem dL_law_686 : decode cL_law 686 = .ok (.aload_n 1, 1) := by decide +kernel
theorem dL_law_687 : decode cL_law 687 = .ok (.iload 19, 2) := by decide +kernel
theorem dL_law_689 : decode cL_law 689 = .ok (.iload 20, 2) := by decide +kernel
theorem dL_law_691 : decode cL_law 691 = .ok (.invokevirtual 100, 3) := by decide +kernel
theorem dL_law_694 : decode cL_law 694 = .ok (.istore 25, 2) := by decide +kernel
theorem dL_law_696 : decode cL_law 696 = .ok (.iload 7, 2) := by decide +kernel
theorem dL_law_698 : decode cL_law 698 = .ok (.iload 25, 2) := by decide +kernel
theorem dL_law_700 : decode cL_law 700 = .ok (.iadd, 1) := by decide +kernel
theorem dL_law_701 : decode cL_law 701 = .ok (.istore 7, 2) := by decide +kernel
theorem dL_law_703 : decode cL_law 703 = .ok (.iinc 6 1, 3) := by decide +kernel
theorem dL_law_706 : decode cL_law 706 = .ok (.iload 25, 2) := by decide +kernel
theorem dL_law_708 : decode cL_law 708 = .ok (.ifCond .lt 26, 3) := by decide +kernel
theorem dL_law_711 : decode cL_law 711 = .ok (.iload 25, 2) := by decide +kernel
theorem dL_law_713 : decode cL_law 713 = .ok (.aload_n 1, 1) := by decide +kernel
theorem dL_law_714 : decode cL_law 714 = .ok (.bipush 6, 2) := by decide +kernel
theorem dL_law_716 : decode cL_law 716 = .ok (.invokevirtual 88, 3) := by decide +kernel
theorem dL_law_719 : decode cL_law 719 = .ok (.if_icmp .gt 15, 3) := by decide +kernel
end
section
theorem dL_law_722 : decode cL_law 722 = .ok (.aload_n 1, 1) := by decide +kernel
theorem dL_law_723 : decode cL_law 723 = .ok (.iload 19, 2) := by decide +kernel
theorem dL_law_725 : decode cL_law 725 = .ok (.iload 20, 2) := by decide +kernel
theorem dL_law_727 : decode cL_law 727 = .ok (.iconst 5, 1) := by decide +kernel
theorem dL_law_728 : decode cL_law 728 = .ok (.invokevirtual 91, 3) := by decide +kernel
theorem dL_law_731 : decode cL_law 731 = .ok (.ifCond .eq 5, 3) := by decide +kernel
theorem dL_law_734 : decode cL_law 734 = .ok (.iconst 0, 1) := by decide +kernel
theorem dL_law_735 : decode cL_law 735 = .ok (.ireturn, 1) := by decide +kernel
theorem dL_law_736 : decode cL_law 736 = .ok (.iinc 20 1, 3) := by decide +kernel
theorem dL_law_739 : decode cL_law 739 = .ok (.goto (-411), 3) := by decide +kernel
theorem dL_law_742 : decode cL_law 742 = .ok (.iinc 19 1, 3) := by decide +kernel
theorem dL_law_745 : decode cL_law 745 = .ok (.goto (-426), 3) := by decide +kernel
theorem dL_law_748 : decode cL_law 748 = .ok (.aload_n 1, 1) := by decide +kernel
theorem dL_law_749 : decode cL_law 749 = .ok (.iconst 4, 1) := by decide +kernel
theorem dL_law_750 : decode cL_law 750 = .ok (.invokevirtual 88, 3) := by decide +kernel
theorem dL_law_753 : decode cL_law 753 = .ok (.iload 18, 2) := by decide +kernel
theorem dL_law_755 : decode cL_law 755 = .ok (.if_icmp .ne 51, 3) := by decide +kernel
theorem dL_law_758 : decode cL_law 758 = .ok (.aload_n 1, 1) := by decide +kernel
theorem dL_law_759 : decode cL_law 759 = .ok (.invokevirtual 103, 3) := by decide +kernel
theorem dL_law_762 : decode cL_law 762 = .ok (.iload 18, 2) := by decide +kernel
theorem dL_law_764 : decode cL_law 764 = .ok (.i2d, 1) := by decide +kernel
theorem dL_law_765 : decode cL_law 765 = .ok (.iload_n 3, 1) := by decide +kernel
theorem dL_law_766 : decode cL_law 766 = .ok (.iload 4, 2) := by decide +kernel
theorem dL_law_768 : decode cL_law 768 = .ok (.imul, 1) := by decide +kernel
theorem dL_law_769 : decode cL_law 769 = .ok (.i2d, 1) := by decide +kernel
theorem dL_law_770 : decode cL_law 770 = .ok (.ddiv, 1) := by decide +kernel
theorem dL_law_771 : decode cL_law 771 = .ok (.dcmp .l, 1) := by decide +kernel
theorem dL_law_772 : decode cL_law 772 = .ok (.ifCond .ne 34, 3) := by decide +kernel
theorem dL_law_775 : decode cL_law 775 = .ok (.iload 5, 2) := by decide +kernel
theorem dL_law_777 : decode cL_law 777 = .ok (.aload_n 1, 1) := by decide +kernel
theorem dL_law_778 : decode cL_law 778 = .ok (.iconst 3, 1) := by decide +kernel
theorem dL_law_779 : decode cL_law 779 = .ok (.invokevirtual 88, 3) := by decide +kernel
theorem dL_law_782 : decode cL_law 782 = .ok (.aload_n 1, 1) := by decide +kernel
theorem dL_law_783 : decode cL_law 783 = .ok (.bipush 7, 2) := by decide +kernel
theorem dL_law_785 : decode cL_law 785 = .ok (.invokevirtual 88, 3) := by decide +kernel
theorem dL_law_788 : decode cL_law 788 = .ok (.iadd, 1) := by decide +kernel
theorem dL_law_789 : decode cL_law 789 = .ok (.iload 6, 2) := by decide +kernel
theorem dL_law_791 : decode cL_law 791 = .ok (.iadd, 1) := by decide +kernel
theorem dL_law_792 : decode cL_law 792 = .ok (.if_icmp .ne 14, 3) := by decide +kernel
theorem dL_law_795 : decode cL_law 795 = .ok (.aload_n 1, 1) := by decide +kernel
theorem dL_law_796 : decode cL_law 796 = .ok (.bipush 6, 2) := by decide +kernel
theorem dL_law_798 : decode cL_law 798 = .ok (.invokevirtual 88, 3) := by decide +kernel
theorem dL_law_801 : decode cL_law 801 = .ok (.iload 7, 2) := by decide +kernel
theorem dL_law_803 : decode cL_law 803 = .ok (.if_icmp .eq 5, 3) := by decide +kernel
theorem dL_law_806 : decode cL_law 806 = .ok (.iconst 0, 1) := by decide +kernel
theorem dL_law_807 : decode cL_law 807 = .ok (.ireturn, 1) := by decide +kernel
theorem dL_law_808 : decode cL_law 808 = .ok (.iinc 8 1, 3) := by decide +kernel
theorem dL_law_811 : decode cL_law 811 = .ok (.goto (-764), 3) := by decide +kernel
theorem dL_law_814 : decode cL_law 814 = .ok (.aload_n 1, 1) := by decide +kernel
theorem dL_law_815 : decode cL_law 815 = .ok (.bipush 8, 2) := by decide +kernel
theorem dL_law_817 : decode cL_law 817 = .ok (.invokevirtual 88, 3) := by decide +kernel
theorem dL_law_820 : decode cL_law 820 = .ok (.aload_n 2, 1) := by decide +kernel
theorem dL_law_821 : decode cL_law 821 = .ok (.getfield 70, 3) := by decide +kernel
theorem dL_law_824 : decode cL_law 824 = .ok (.if_icmp .ne 7, 3) := by decide +kernel
theorem dL_law_827 : decode cL_law 827 = .ok (.iconst 1, 1) := by decide +kernel
theorem dL_law_828 : decode cL_law 828 = .ok (.goto 4, 3) := by decide +kernel
theorem dL_law_831 : decode cL_law 831 = .ok (.iconst 0, 1) := by decide +kernel
theorem dL_law_832 : decode cL_law 832 = .ok (.ireturn, 1) := by decide +kernel
end
section
abbrev vwCl : List vw_C := [(RX0, TX0, 3), (RX1, TX1, 5), (RX2, TX2, 18), (RX3, TX3, 6), (RX4, TX4, 10)]
end
section
/-! contracts whose end is one world and one answer: what they say, how they are begun, ended, called -/
theorem z_at {D : va_G} {cl : List vw_C} {q : Nat × va_E} {H H1 : Heap} (h : va_at D cl q H) (e : H1[q.1]? = H[q.1]?) : va_at D cl q H1 := by
  obtain ⟨a, x⟩ := q
  cases x with
  | inl x => exact e.trans h
  | inr o =>
    obtain ⟨r, h1, h2⟩ := h
    exact ⟨r, h1, h2.kept e⟩
/-- behind a call: what stands ahead of the callee's cells and behind them is as it was -/
theorem z_join {A0 : Nat → Prop} {D : va_G} {cl : List vw_C} {ws pre wc post w1 : va_W} {H H1 : Heap} (hw : ws = pre ++ wc ++ post) (hP : va_P D cl ws H) (hD : va_D A0 ws)
    (hk : ∀ q : Nat, q < H.size → ¬ va_A wc H.size q → H1[q]? = H[q]?) (hF : ∀ q, va_A wc H.size q → A0 q) (hP1 : va_P D cl w1 H1) (hD1 : va_D (va_A wc H.size) w1) : va_P D cl (pre ++ w1 ++ post) H1 ∧ va_D A0 (pre ++ w1 ++ post) := by
  subst hw
  have lt : ∀ {k : Nat} {q : Nat × va_E}, (pre ++ wc ++ post)[k]? = some q → q.1 < H.size := fun {k q} h => vx_lt hP h
  have hpre : ∀ {k : Nat}, k < pre.length → (pre ++ wc ++ post)[k]? = pre[k]? := fun {k} h => by
    rw [List.getElem?_append_left (by rw [List.length_append]; omega), List.getElem?_append_left h]
  have hpost : ∀ (k : Nat), (pre ++ wc ++ post)[pre.length + wc.length + k]? = post[k]? := fun k => by
    rw [List.getElem?_append_right (by rw [List.length_append]; omega), List.length_append]
    congr 1
    omega
  have hmid : ∀ {k : Nat}, k < wc.length → (pre ++ wc ++ post)[pre.length + k]? = wc[k]? := fun {k} h => by
    rw [List.getElem?_append_left (by rw [List.length_append]; omega), List.getElem?_append_right (by omega)]
    congr 1
    omega
  have inwc : ∀ {a : Nat} {i : Nat} {p : Nat × va_E}, (pre ++ wc ++ post)[i]? = some p → p.1 = a → va_A wc H.size a → pre.length ≤ i ∧ i < pre.length + wc.length := by
    intro a i p hp e h
    rcases h with ⟨k, x, hk⟩ | h
    · have hkl : k < wc.length := (List.getElem?_eq_some_iff.mp hk).1
      have h2 := hD.1 i (pre.length + k) p (a, x) hp (by rw [hmid hkl]; exact hk) e
      omega
    · have := lt hp
      omega
  -- a place of the new list is a place of the old one outside wc, or a place of w1
  have new : ∀ {i : Nat} {p : Nat × va_E}, (pre ++ w1 ++ post)[i]? = some p → (∃ j, (pre ++ wc ++ post)[j]? = some p ∧ (j < pre.length ∨ pre.length + wc.length ≤ j) ∧ (i < pre.length → j = i) ∧ (pre.length ≤ i → j = pre.length + wc.length + (i - (pre.length + w1.length)) ∧ pre.length + w1.length ≤ i)) ∨ (pre.length ≤ i ∧ i < pre.length + w1.length ∧ w1[i - pre.length]? = some p) := by
    intro i p h
    rcases Nat.lt_or_ge i pre.length with q | q
    · refine Or.inl ⟨i, ?_, Or.inl q, fun _ => rfl, fun h => by omega⟩
      rw [hpre q]
      rwa [List.getElem?_append_left (by rw [List.length_append]; omega), List.getElem?_append_left q] at h
    · rcases Nat.lt_or_ge i (pre.length + w1.length) with q2 | q2
      · refine Or.inr ⟨q, q2, ?_⟩
        rwa [List.getElem?_append_left (by rw [List.length_append]; omega), List.getElem?_append_right q] at h
      · refine Or.inl ⟨pre.length + wc.length + (i - (pre.length + w1.length)), ?_, Or.inr (by omega), fun h => by omega, fun _ => ⟨rfl, q2⟩⟩
        rw [hpost]
        rwa [List.getElem?_append_right (by rw [List.length_append]; omega), List.length_append] at h
  constructor
  · intro i p h
    rcases new h with ⟨j, hj, hside, -, -⟩ | ⟨-, -, h1⟩
    · refine z_at (hP j p hj) (hk _ (lt hj) (fun h => ?_))
      have := inwc hj rfl h
      omega
    · exact hP1 _ p h1
  · refine ⟨fun i j p q hp hq e => ?_, fun i p h => ?_⟩
    · rcases new hp with ⟨i1, hi1, hs1, ha1, hb1⟩ | ⟨u1, u2, h1⟩ <;> rcases new hq with ⟨j1, hj1, hs2, ha2, hb2⟩ | ⟨v1, v2, h2⟩
      · have h3 := hD.1 i1 j1 p q hi1 hj1 e
        rcases Nat.lt_or_ge i pre.length with c1 | c1 <;> rcases Nat.lt_or_ge j pre.length with c2 | c2
        · have := ha1 c1; have := ha2 c2; omega
        · have := ha1 c1; have := hb2 c2; omega
        · have := hb1 c1; have := ha2 c2; omega
        · have := hb1 c1; have := hb2 c2; omega
      · have h3 := inwc hi1 e (hD1.2 _ q h2)
        omega
      · have h3 := inwc hj1 e.symm (hD1.2 _ p h1)
        omega
      · have h3 := hD1.1 _ _ p q h1 h2 e
        omega
    · rcases new h with ⟨j, hj, -, -, -⟩ | ⟨-, -, h1⟩
      · exact hD.2 j p hj
      · exact hF _ (hD1.2 _ p h1)
theorem z_F {A0 : Nat → Prop} {ws pre wc post : va_W} {H0 H : Heap} {locs : List Loc} (hw : ws = pre ++ wc ++ post) (hD : va_D A0 ws) (hS : va_S A0 H0 H locs) (hA : ∀ q, H0.size ≤ q → A0 q) : ∀ q, va_A wc H.size q → A0 q := by
  subst hw
  intro q h
  rcases h with ⟨k, e, h⟩ | h
  · have hkl : k < wc.length := (List.getElem?_eq_some_iff.mp h).1
    refine hD.2 (pre.length + k) (q, e) ?_
    rw [List.getElem?_append_left (by rw [List.length_append]; omega), List.getElem?_append_right (by omega)]
    rw [show pre.length + k - pre.length = k by omega]
    exact h
  · exact hA q (Nat.le_trans hS.1 h)
theorem z_P {D : va_G} {cl : List vw_C} {ws pre wc post : va_W} {H : Heap} (hw : ws = pre ++ wc ++ post) (hP : va_P D cl ws H) : va_P D cl wc H := by
  subst hw
  intro k q h
  have hkl : k < wc.length := (List.getElem?_eq_some_iff.mp h).1
  refine hP (pre.length + k) q ?_
  rw [List.getElem?_append_left (by rw [List.length_append]; omega), List.getElem?_append_right (by omega)]
  rw [show pre.length + k - pre.length = k by omega]
  exact h
theorem z_D {A : Nat → Prop} {ws pre wc post : va_W} (hw : ws = pre ++ wc ++ post) (hD : va_D A ws) : va_D (fun _ => True) wc := by
  subst hw
  have h : ∀ {k : Nat} {q : Nat × va_E}, wc[k]? = some q → (pre ++ wc ++ post)[pre.length + k]? = some q := by
    intro k q h
    have hkl : k < wc.length := (List.getElem?_eq_some_iff.mp h).1
    rw [List.getElem?_append_left (by rw [List.length_append]; omega), List.getElem?_append_right (by omega)]
    rw [show pre.length + k - pre.length = k by omega]
    exact h
  refine ⟨fun i j p q hp hq e => ?_, fun _ _ _ => trivial⟩
  have := hD.1 _ _ p q (h hp) (h hq) e
  omega
-- the contract's start: the callee's cells, apart, in a heap of sz cells
/-- what the tables say of the one private method that a nest mate calls -/
def zN (U : State) : Prop := va_Nw (.methodLinkNest RX2 155 yX3_isWithin "PaddyTerraces") U ∧ va_Nw (.methodLinkNest RX3 30 yX1_init "PaddyTerraces") U
def zPre (D : va_G) (cI : ClassId) (wc : va_W) (sz : Nat) (U : State) : Prop := U.heap.size = sz ∧ va_P D vwCl wc U.heap ∧ va_K D vwCl [(cI, .int)] U ∧ va_D (fun _ => True) wc ∧ zN U
-- its end: one world
def zEnd (D : va_G) (w1 : va_W) (A : Nat → Prop) (t : State) : Prop := va_P D vwCl w1 t.heap ∧ va_D A w1
theorem zPre_blind {D : va_G} {cI : ClassId} {wc : va_W} {sz : Nat} {As : List Value} : FrameBlind (va_Pc As (zPre D cI wc sz)) := by
  intro a U g mk q
  obtain ⟨q0, q1, qP, qK, qD, qN⟩ := q
  exact ⟨q0, q1, qP, va_K.moved (u := U) (U := U.calling g mk a) (Vm.Alike.refl U.vm) qK, qD, ⟨va_Nw.same (u := U) (U := U.calling g mk a) rfl rfl qN.1, va_Nw.same (u := U) (U := U.calling g mk a) rfl rfl qN.2⟩⟩
theorem zPre_at {D : va_G} {cI : ClassId} {wc : va_W} {s U : State} {H : Heap} (hU : U.heap = H) (hW : s.WarmedH U.vm) (hK : va_K D vwCl [(cI, .int)] s) (hN : zN s) (hP : va_P D vwCl wc H) (hD : va_D (fun _ => True) wc) : zPre D cI wc H.size U := ⟨by rw [hU], by rw [hU]; exact hP, va_K.moved hW.alike hK, hD, ⟨va_Nw.warmM hW hN.1, va_Nw.warmM hW hN.2⟩⟩
def zI (l : Launch) (y : MethodName) (ws : List Cond) (rm : Room) (D : va_G) (cI : ClassId) (As : List Value) (wc w1 : va_W) (v : Int32) : Prop :=
  ∀ sz : Nat, Met l y ws rm (va_Pc As (zPre D cI wc sz)) (va_Qi (fun (r : Int32) (_ : Unit) => r = v) (fun _ t => zEnd D w1 (va_A wc sz) t) (va_A wc sz)) 0 0 (va_A wc sz)
def zV (l : Launch) (y : MethodName) (ws : List Cond) (rm : Room) (D : va_G) (cI : ClassId) (As : List Value) (wc w1 : va_W) : Prop :=
  ∀ sz : Nat, Met l y ws rm (va_Pc As (zPre D cI wc sz)) (va_Qv (fun (_ : Unit) => True) (fun _ t => zEnd D w1 (va_A wc sz) t) (va_A wc sz)) 0 0 (va_A wc sz)
def zL (l : Launch) (y : MethodName) (ws : List Cond) (rm : Room) (D : va_G) (cI : ClassId) (As : List Value) (wc w1 : va_W) (v : Int64) : Prop :=
  ∀ sz : Nat, Met l y ws rm (va_Pc As (zPre D cI wc sz)) (va_Ql (fun (r : Int64) (_ : Unit) => r = v) (fun _ t => zEnd D w1 (va_A wc sz) t) (va_A wc sz)) 0 0 (va_A wc sz)
def zIq (D : va_G) (A : Nat → Prop) (w1 : va_W) (v : Int32) (below : List Frame) (args : Array Value) (s : State) (mc ms : Nat) : State → Prop :=
  MQ below (va_Qi (fun (r : Int32) (_ : Unit) => r = v) (fun _ t => zEnd D w1 A t) A) args s mc ms A
def zVq (D : va_G) (A : Nat → Prop) (w1 : va_W) (below : List Frame) (args : Array Value) (s : State) (mc ms : Nat) : State → Prop :=
  MQ below (va_Qv (fun (_ : Unit) => True) (fun _ t => zEnd D w1 A t) A) args s mc ms A
def zLq (D : va_G) (A : Nat → Prop) (w1 : va_W) (v : Int64) (below : List Frame) (args : Array Value) (s : State) (mc ms : Nat) : State → Prop :=
  MQ below (va_Ql (fun (r : Int64) (_ : Unit) => r = v) (fun _ t => zEnd D w1 A t) A) args s mc ms A
/-- what holds at a method's entry -/
def zAt (p : Program) (s : State) (m : MethodId) (meth : Method) (c : Code) (D : va_G) (cI : ClassId) (y : MethodName) (cc : ByteArray) (maxL : Nat) (ret : Option FieldType) (ws : List Cond) (args : Array Value) (A : Nat → Prop) (wc : va_W) : Prop :=
  p.tables.exec = Jvm.exec ∧ c.code = cc ∧ meth.sig.returnType = ret ∧ c.maxLocals = maxL ∧ s.vm.findClass y.cls = some m.cls ∧ (∀ w ∈ ws, w.before args s = true) ∧ meth.locks = false ∧ va_K D vwCl [(cI, .int)] s ∧ zN s ∧ (∀ q, s.heap.size ≤ q → A q) ∧ va_P D vwCl wc s.heap ∧ va_D A wc ∧ va_S A s.heap s.heap []
section ZOF
variable {l : Launch} {y : MethodName} {ws ws' : List Cond} {rm : Room} {D : va_G} {cI : ClassId} {As : List Value} {wc w1 : va_W} {cc : ByteArray} {maxL : Nat} {ret : Option FieldType}
theorem zI_of {v : Int32} (hy : plainName y.cls = true) (hw : ws = Cond.code y cc maxL ret :: ws') (hlen : (lg_sl As).length ≤ maxL)
    (body : ∀ (p : Program) (e : Env) (s : State) (m : MethodId) (below : List Frame) (meth : Method) (c : Code) (A : Nat → Prop) (ls : Array Slot), zAt p s m meth c D cI y cc maxL ret ws As.toArray A wc → lv_has ls maxL (lv_args 0 As) → W p l e rm s m As.toArray below meth c s.heap [] 0 0 (zIq D A w1 v below As.toArray s 0 0) (F0 m 0 ls [])) : zI l y ws rm D cI As wc w1 v := by
  intro sz
  refine Met.ofW (cc := cc) (maxL := maxL) (ret := ret) hy hw ?_
  intro p e s m args below meth c s₁ B hml hv
  obtain ⟨rfl, hsz, hP, hK, hD0, hN⟩ := hv
  subst hsz
  rw [lg_entry_eq]
  exact body p e s m below meth c _ _ ⟨B.exec, B.bytes, B.returns, hml, findClass_of_methodNamed B.named, atoms_spec (ws := ws) B.pre, B.notSynchronized, hK, hN, fun q h => Or.inr h, hP, hD0.self (sz := s.heap.size), va_S.rf⟩ (lv_entry As hlen)
theorem zV_of (hy : plainName y.cls = true) (hw : ws = Cond.code y cc maxL ret :: ws') (hlen : (lg_sl As).length ≤ maxL)
    (body : ∀ (p : Program) (e : Env) (s : State) (m : MethodId) (below : List Frame) (meth : Method) (c : Code) (A : Nat → Prop) (ls : Array Slot), zAt p s m meth c D cI y cc maxL ret ws As.toArray A wc → lv_has ls maxL (lv_args 0 As) → W p l e rm s m As.toArray below meth c s.heap [] 0 0 (zVq D A w1 below As.toArray s 0 0) (F0 m 0 ls [])) : zV l y ws rm D cI As wc w1 := by
  intro sz
  refine Met.ofW (cc := cc) (maxL := maxL) (ret := ret) hy hw ?_
  intro p e s m args below meth c s₁ B hml hv
  obtain ⟨rfl, hsz, hP, hK, hD0, hN⟩ := hv
  subst hsz
  rw [lg_entry_eq]
  exact body p e s m below meth c _ _ ⟨B.exec, B.bytes, B.returns, hml, findClass_of_methodNamed B.named, atoms_spec (ws := ws) B.pre, B.notSynchronized, hK, hN, fun q h => Or.inr h, hP, hD0.self (sz := s.heap.size), va_S.rf⟩ (lv_entry As hlen)
theorem zL_of {v : Int64} (hy : plainName y.cls = true) (hw : ws = Cond.code y cc maxL ret :: ws') (hlen : (lg_sl As).length ≤ maxL)
    (body : ∀ (p : Program) (e : Env) (s : State) (m : MethodId) (below : List Frame) (meth : Method) (c : Code) (A : Nat → Prop) (ls : Array Slot), zAt p s m meth c D cI y cc maxL ret ws As.toArray A wc → lv_has ls maxL (lv_args 0 As) → W p l e rm s m As.toArray below meth c s.heap [] 0 0 (zLq D A w1 v below As.toArray s 0 0) (F0 m 0 ls [])) : zL l y ws rm D cI As wc w1 v := by
  intro sz
  refine Met.ofW (cc := cc) (maxL := maxL) (ret := ret) hy hw ?_
  intro p e s m args below meth c s₁ B hml hv
  obtain ⟨rfl, hsz, hP, hK, hD0, hN⟩ := hv
  subst hsz
  rw [lg_entry_eq]
  exact body p e s m below meth c _ _ ⟨B.exec, B.bytes, B.returns, hml, findClass_of_methodNamed B.named, atoms_spec (ws := ws) B.pre, B.notSynchronized, hK, hN, fun q h => Or.inr h, hP, hD0.self (sz := s.heap.size), va_S.rf⟩ (lv_entry As hlen)
end ZOF
section ZRET
variable {p : Program} {l : Launch} {e : Env} {R : Room} {s : State} {m : MethodId} {args : Array Value} {below : List Frame} {meth : Method} {c : Code} {H : Heap} {locs : List Loc} {cells slots : Nat}
variable {D : va_G} {A : Nat → Prop} {w1 : va_W} {cc : ByteArray} {pc : Nat} {ls : Array Slot}
theorem zI_ret {v x : Int32} {ty : FieldType} (hx : p.tables.exec = Jvm.exec) (hb : c.code = cc) (hr : meth.sig.returnType = some ty) (hlocks : meth.locks = false) (hP : va_P D vwCl w1 H) (hD : va_D A w1) (hS : va_S A s.heap H locs) (hn : narrow ty (.int x) = .int x) (hv : x = v) (hdg : decode cc pc = .ok (.ireturn, 1)) : W p l e R s m args below meth c H locs cells slots (zIq D A w1 v below args s cells slots) (F0 m pc ls [.int x]) :=
  W.zret (hlocks := hlocks) hx hb hr hn (fun t ht _ => ⟨⟨x, (), rfl, hv, by rw [ht]; exact hP, hD⟩, hS.F ht⟩) hS.2.2 hdg
theorem zV_ret (hx : p.tables.exec = Jvm.exec) (hb : c.code = cc) (hr : meth.sig.returnType = none) (hlocks : meth.locks = false) (hP : va_P D vwCl w1 H) (hD : va_D A w1) (hS : va_S A s.heap H locs) (hdg : decode cc pc = .ok (.return_, 1)) : W p l e R s m args below meth c H locs cells slots (zVq D A w1 below args s cells slots) (F0 m pc ls []) :=
  W.vret (hlocks := hlocks) hx hb hr (fun t ht _ => ⟨⟨(), rfl, trivial, by rw [ht]; exact hP, hD⟩, hS.F ht⟩) hS.2.2 hdg
theorem zL_ret {v x : Int64} (hx : p.tables.exec = Jvm.exec) (hb : c.code = cc) (hr : meth.sig.returnType = some .long) (hlocks : meth.locks = false) (hP : va_P D vwCl w1 H) (hD : va_D A w1) (hS : va_S A s.heap H locs) (hv : x = v) (hdg : decode cc pc = .ok (.lreturn, 1)) : W p l e R s m args below meth c H locs cells slots (zLq D A w1 v below args s cells slots) (F0 m pc ls [.long x]) :=
  W.lret (hlocks := hlocks) hx hb hr (fun t ht _ => ⟨⟨x, (), rfl, hv, by rw [ht]; exact hP, hD⟩, hS.F ht⟩) hS.2.2 hdg
end ZRET
section ZCALL
variable {p : Program} {l : Launch} {e : Env} {R : Room} {s : State} {m : MethodId} {args : Array Value} {below : List Frame} {meth : Method} {c : Code} {H : Heap} {locs : List Loc} {cells slots : Nat} {Q : State → Prop}
variable {D : va_G} {cI : ClassId} {A : Nat → Prop} {H0 : Heap} {pc : Nat} {ls : Array Slot} {st0 rest : List Value} {a : Array Value} {ww pre wc post w1 : va_W}
theorem zI_back {v : Int32} (hr : va_Run p l e R s m args below meth c H locs cells slots 0 0 (F0 m pc ls st0) rest (va_Qi (fun (r : Int32) (_ : Unit) => r = v) (fun _ t => zEnd D w1 (va_A wc H.size) t) (va_A wc H.size) a) (va_A wc H.size)) (hw : ww = pre ++ wc ++ post) (hP : va_P D vwCl ww H) (hD : va_D A ww) (hS : va_S A H0 H locs) (hA : ∀ q, H0.size ≤ q → A q)
    (kk : ∀ (H1 : Heap) (locs1 : List Loc), va_P D vwCl (pre ++ w1 ++ post) H1 → va_D A (pre ++ w1 ++ post) → va_S A H0 H1 locs1 → W p l e R s m args below meth c H1 locs1 cells slots Q (F0 m (pc + 3) ls (.int v :: rest))) : W p l e R s m args below meth c H locs cells slots Q (F0 m pc ls st0) := by
  have hF := z_F hw hD hS hA
  refine va_calli hr hS (fun q _ h => hF q h) hF (fun r u t H1 locs1 ht _ hp hB _ hk hS1 => ?_)
  obtain ⟨hP1, hD1⟩ := hB
  rw [ht] at hP1
  obtain ⟨hP2, hD2⟩ := z_join hw hP hD hk hF hP1 hD1
  rw [hp]
  exact kk H1 locs1 hP2 hD2 hS1
theorem zL_back {v : Int64} (hr : va_Run p l e R s m args below meth c H locs cells slots 0 0 (F0 m pc ls st0) rest (va_Ql (fun (r : Int64) (_ : Unit) => r = v) (fun _ t => zEnd D w1 (va_A wc H.size) t) (va_A wc H.size) a) (va_A wc H.size)) (hw : ww = pre ++ wc ++ post) (hP : va_P D vwCl ww H) (hD : va_D A ww) (hS : va_S A H0 H locs) (hA : ∀ q, H0.size ≤ q → A q)
    (kk : ∀ (H1 : Heap) (locs1 : List Loc), va_P D vwCl (pre ++ w1 ++ post) H1 → va_D A (pre ++ w1 ++ post) → va_S A H0 H1 locs1 → W p l e R s m args below meth c H1 locs1 cells slots Q (F0 m (pc + 3) ls (.long v :: rest))) : W p l e R s m args below meth c H locs cells slots Q (F0 m pc ls st0) := by
  have hF := z_F hw hD hS hA
  refine va_calll hr hS (fun q _ h => hF q h) hF (fun r u t H1 locs1 ht _ hp hB _ hk hS1 => ?_)
  obtain ⟨hP1, hD1⟩ := hB
  rw [ht] at hP1
  obtain ⟨hP2, hD2⟩ := z_join hw hP hD hk hF hP1 hD1
  rw [hp]
  exact kk H1 locs1 hP2 hD2 hS1
theorem zV_back (hr : va_Run p l e R s m args below meth c H locs cells slots 0 0 (F0 m pc ls st0) rest (va_Qv (fun (_ : Unit) => True) (fun _ t => zEnd D w1 (va_A wc H.size) t) (va_A wc H.size) a) (va_A wc H.size)) (hw : ww = pre ++ wc ++ post) (hP : va_P D vwCl ww H) (hD : va_D A ww) (hS : va_S A H0 H locs) (hA : ∀ q, H0.size ≤ q → A q)
    (kk : ∀ (H1 : Heap) (locs1 : List Loc), va_P D vwCl (pre ++ w1 ++ post) H1 → va_D A (pre ++ w1 ++ post) → va_S A H0 H1 locs1 → W p l e R s m args below meth c H1 locs1 cells slots Q (F0 m (pc + 3) ls rest)) : W p l e R s m args below meth c H locs cells slots Q (F0 m pc ls st0) := by
  have hF := z_F hw hD hS hA
  refine va_callv hr hS (fun q _ h => hF q h) hF (fun u t H1 locs1 ht _ _ hB _ hk hS1 => ?_)
  obtain ⟨hP1, hD1⟩ := hB
  rw [ht] at hP1
  obtain ⟨hP2, hD2⟩ := z_join hw hP hD hk hF hP1 hD1
  exact kk H1 locs1 hP2 hD2 hS1
variable {y : MethodName} {bytes cc : ByteArray} {maxL nL n index ci q0 : Nat} {ret : Option FieldType} {ws : List Cond} {rm : Room} {Ts : List Cond} {own C host : String} {b : Addr} {As : List Value} {q : vw_C} {fs : List Value}
/-- a virtual call of a method that answers an int -/
theorem zI_V {v : Int32} (S : CallFix p m c cc nL s args Ts own) (hM : zI l y ws rm D cI (.ref b :: As) wc w1 v) (cw : CallW R s args own C index y bytes maxL ret ws rm 0 0 n) (hw : ww = pre ++ wc ++ post) (hK : va_K D vwCl [(cI, .int)] s) (hN : zN s) (hc : vwCl[ci]? = some q) (hq : q.1 = C) (he : wc[q0]? = some (b, .inr (ci, fs)))
    (hP : va_P D vwCl ww H) (hD : va_D A ww) (hS : va_S A H0 H locs) (hA : ∀ q, H0.size ≤ q → A q) (hn : As.length = n) (hsize : ls.size = nL) (hst : st0 = As.reverse ++ .ref b :: rest) (hW : (rest.map fun v => v.category).sum ≤ 8) (hdg : decode cc pc = .ok (.invokevirtual index, 3)) (hcs : cells ≤ R.cells ∧ slots ≤ R.slots)
    (kk : ∀ (H1 : Heap) (locs1 : List Loc), va_P D vwCl (pre ++ w1 ++ post) H1 → va_D A (pre ++ w1 ++ post) → va_S A H0 H1 locs1 → W p l e R s m args below meth c H1 locs1 cells slots Q (F0 m (pc + 3) ls (.int v :: rest))) : W p l e R s m args below meth c H locs cells slots Q (F0 m pc ls st0) := by
  subst hst
  have hPc := z_P hw hP
  exact zI_back (va_runV (As := As) (rest := rest) S (hM H.size) cw ⟨zPre_blind, by rw [← hq]; exact va_recv hK hPc hc he, fun U hU hW => ⟨rfl, zPre_at hU hW hK hN hPc (z_D hw hD)⟩⟩ rfl hn hsize rfl (lv_room hW) hdg hcs) hw hP hD hS hA kk
theorem zV_V (S : CallFix p m c cc nL s args Ts own) (hM : zV l y ws rm D cI (.ref b :: As) wc w1) (cw : CallW R s args own C index y bytes maxL ret ws rm 0 0 n) (hw : ww = pre ++ wc ++ post) (hK : va_K D vwCl [(cI, .int)] s) (hN : zN s) (hc : vwCl[ci]? = some q) (hq : q.1 = C) (he : wc[q0]? = some (b, .inr (ci, fs)))
    (hP : va_P D vwCl ww H) (hD : va_D A ww) (hS : va_S A H0 H locs) (hA : ∀ q, H0.size ≤ q → A q) (hn : As.length = n) (hsize : ls.size = nL) (hst : st0 = As.reverse ++ .ref b :: rest) (hW : (rest.map fun v => v.category).sum ≤ 8) (hdg : decode cc pc = .ok (.invokevirtual index, 3)) (hcs : cells ≤ R.cells ∧ slots ≤ R.slots)
    (kk : ∀ (H1 : Heap) (locs1 : List Loc), va_P D vwCl (pre ++ w1 ++ post) H1 → va_D A (pre ++ w1 ++ post) → va_S A H0 H1 locs1 → W p l e R s m args below meth c H1 locs1 cells slots Q (F0 m (pc + 3) ls rest)) : W p l e R s m args below meth c H locs cells slots Q (F0 m pc ls st0) := by
  subst hst
  have hPc := z_P hw hP
  exact zV_back (va_runV (As := As) (rest := rest) S (hM H.size) cw ⟨zPre_blind, by rw [← hq]; exact va_recv hK hPc hc he, fun U hU hW => ⟨rfl, zPre_at hU hW hK hN hPc (z_D hw hD)⟩⟩ rfl hn hsize rfl (lv_room hW) hdg hcs) hw hP hD hS hA kk
theorem zL_V {v : Int64} (S : CallFix p m c cc nL s args Ts own) (hM : zL l y ws rm D cI (.ref b :: As) wc w1 v) (cw : CallW R s args own C index y bytes maxL ret ws rm 0 0 n) (hw : ww = pre ++ wc ++ post) (hK : va_K D vwCl [(cI, .int)] s) (hN : zN s) (hc : vwCl[ci]? = some q) (hq : q.1 = C) (he : wc[q0]? = some (b, .inr (ci, fs)))
    (hP : va_P D vwCl ww H) (hD : va_D A ww) (hS : va_S A H0 H locs) (hA : ∀ q, H0.size ≤ q → A q) (hn : As.length = n) (hsize : ls.size = nL) (hst : st0 = As.reverse ++ .ref b :: rest) (hW : (rest.map fun v => v.category).sum ≤ 8) (hdg : decode cc pc = .ok (.invokevirtual index, 3)) (hcs : cells ≤ R.cells ∧ slots ≤ R.slots)
    (kk : ∀ (H1 : Heap) (locs1 : List Loc), va_P D vwCl (pre ++ w1 ++ post) H1 → va_D A (pre ++ w1 ++ post) → va_S A H0 H1 locs1 → W p l e R s m args below meth c H1 locs1 cells slots Q (F0 m (pc + 3) ls (.long v :: rest))) : W p l e R s m args below meth c H locs cells slots Q (F0 m pc ls st0) := by
  subst hst
  have hPc := z_P hw hP
  exact zL_back (va_runV (As := As) (rest := rest) S (hM H.size) cw ⟨zPre_blind, by rw [← hq]; exact va_recv hK hPc hc he, fun U hU hW => ⟨rfl, zPre_at hU hW hK hN hPc (z_D hw hD)⟩⟩ rfl hn hsize rfl (lv_room hW) hdg hcs) hw hP hD hS hA kk
/-- a static call -/
theorem zI_S {v : Int32} (S : CallFix p m c cc nL s args Ts own) (hM : zI l y ws rm D cI As wc w1 v) (cw : CallB R s args own index y bytes maxL ret ws rm 0 0 n ∧ (Cond.static y).before args s = true) (hw : ww = pre ++ wc ++ post) (hK : va_K D vwCl [(cI, .int)] s) (hN : zN s)
    (hP : va_P D vwCl ww H) (hD : va_D A ww) (hS : va_S A H0 H locs) (hA : ∀ q, H0.size ≤ q → A q) (hn : As.length = n) (hsize : ls.size = nL) (hst : st0 = As.reverse ++ rest) (hW : (rest.map fun v => v.category).sum ≤ 8) (hdg : decode cc pc = .ok (.invokestatic index, 3)) (hcs : cells ≤ R.cells ∧ slots ≤ R.slots)
    (kk : ∀ (H1 : Heap) (locs1 : List Loc), va_P D vwCl (pre ++ w1 ++ post) H1 → va_D A (pre ++ w1 ++ post) → va_S A H0 H1 locs1 → W p l e R s m args below meth c H1 locs1 cells slots Q (F0 m (pc + 3) ls (.int v :: rest))) : W p l e R s m args below meth c H locs cells slots Q (F0 m pc ls st0) := by
  subst hst
  exact zI_back (va_runS (As := As) (rest := rest) S (hM H.size) cw ⟨zPre_blind, fun U hU hW => ⟨rfl, zPre_at hU hW hK hN (z_P hw hP) (z_D hw hD)⟩⟩ rfl hn hsize rfl (lv_room hW) hdg hcs) hw hP hD hS hA kk
theorem zV_S (S : CallFix p m c cc nL s args Ts own) (hM : zV l y ws rm D cI As wc w1) (cw : CallB R s args own index y bytes maxL ret ws rm 0 0 n ∧ (Cond.static y).before args s = true) (hw : ww = pre ++ wc ++ post) (hK : va_K D vwCl [(cI, .int)] s) (hN : zN s)
    (hP : va_P D vwCl ww H) (hD : va_D A ww) (hS : va_S A H0 H locs) (hA : ∀ q, H0.size ≤ q → A q) (hn : As.length = n) (hsize : ls.size = nL) (hst : st0 = As.reverse ++ rest) (hW : (rest.map fun v => v.category).sum ≤ 8) (hdg : decode cc pc = .ok (.invokestatic index, 3)) (hcs : cells ≤ R.cells ∧ slots ≤ R.slots)
    (kk : ∀ (H1 : Heap) (locs1 : List Loc), va_P D vwCl (pre ++ w1 ++ post) H1 → va_D A (pre ++ w1 ++ post) → va_S A H0 H1 locs1 → W p l e R s m args below meth c H1 locs1 cells slots Q (F0 m (pc + 3) ls rest)) : W p l e R s m args below meth c H locs cells slots Q (F0 m pc ls st0) := by
  subst hst
  exact zV_back (va_runS (As := As) (rest := rest) S (hM H.size) cw ⟨zPre_blind, fun U hU hW => ⟨rfl, zPre_at hU hW hK hN (z_P hw hP) (z_D hw hD)⟩⟩ rfl hn hsize rfl (lv_room hW) hdg hcs) hw hP hD hS hA kk
/-- a static call of a nest mate's private method, that has no world of its own -/
theorem zI_SN {v : Int32} (S : CallFix p m c cc nL s args Ts own) (hM : zI l y ws rm D cI As wc w1 v) (cw : va_CN R s args own index y host bytes maxL ret ws rm 0 0 n ∧ (Cond.static y).before args s = true ∧ True) (hw : ww = pre ++ wc ++ post) (hK : va_K D vwCl [(cI, .int)] s) (hN : zN s)
    (hP : va_P D vwCl ww H) (hD : va_D A ww) (hS : va_S A H0 H locs) (hA : ∀ q, H0.size ≤ q → A q) (hn : As.length = n) (hsize : ls.size = nL) (hst : st0 = As.reverse ++ rest) (hW : (rest.map fun v => v.category).sum ≤ 8) (hdg : decode cc pc = .ok (.invokestatic index, 3)) (hcs : cells ≤ R.cells ∧ slots ≤ R.slots)
    (kk : ∀ (H1 : Heap) (locs1 : List Loc), va_P D vwCl (pre ++ w1 ++ post) H1 → va_D A (pre ++ w1 ++ post) → va_S A H0 H1 locs1 → W p l e R s m args below meth c H1 locs1 cells slots Q (F0 m (pc + 3) ls (.int v :: rest))) : W p l e R s m args below meth c H locs cells slots Q (F0 m pc ls st0) := by
  subst hst
  exact zI_back (va_runSN (As := As) (rest := rest) S (hM H.size) cw ⟨zPre_blind, fun U hU hW => ⟨rfl, zPre_at hU hW hK hN (z_P hw hP) (z_D hw hD)⟩⟩ rfl hn hsize rfl (lv_room hW) hdg hcs) hw hP hD hS hA kk
end ZCALL
/-! contracts of methods that make cells: where they lie is said at the end -/
def zM {U : Type} (l : Launch) (y : MethodName) (ws : List Cond) (rm : Room) (D : va_G) (cI : ClassId) (As : List Value) (wc : va_W) (w1 : U → va_W) (ok : U → Prop) (mc ms : Nat) : Prop :=
  ∀ sz : Nat, Met l y ws rm (va_Pc As (zPre D cI wc sz)) (va_Qv (fun u : U => ok u) (fun u t => zEnd D (w1 u) (va_A wc sz) t) (va_A wc sz)) mc ms (va_A wc sz)
def zMq {U : Type} (D : va_G) (A : Nat → Prop) (w1 : U → va_W) (ok : U → Prop) (below : List Frame) (args : Array Value) (s : State) (mc ms : Nat) : State → Prop :=
  MQ below (va_Qv (fun u : U => ok u) (fun u t => zEnd D (w1 u) A t) A) args s mc ms A
theorem zM_of {U : Type} {l : Launch} {y : MethodName} {ws ws' : List Cond} {rm : Room} {D : va_G} {cI : ClassId} {As : List Value} {wc : va_W} {w1 : U → va_W} {ok : U → Prop} {mc ms : Nat} {cc : ByteArray} {maxL : Nat} {ret : Option FieldType} (hy : plainName y.cls = true) (hw : ws = Cond.code y cc maxL ret :: ws') (hlen : (lg_sl As).length ≤ maxL) (hni : y.name = "<init>")
    (body : ∀ (p : Program) (e : Env) (s : State) (m : MethodId) (below : List Frame) (meth : Method) (c : Code) (A : Nat → Prop) (ls : Array Slot), zAt p s m meth c D cI y cc maxL ret ws As.toArray A wc → meth.name = "<init>" → lv_has ls maxL (lv_args 0 As) → W p l e rm s m As.toArray below meth c s.heap [] 0 0 (zMq D A w1 ok below As.toArray s mc ms) (F0 m 0 ls [])) : zM l y ws rm D cI As wc w1 ok mc ms := by
  intro sz
  refine Met.ofW (cc := cc) (maxL := maxL) (ret := ret) hy hw ?_
  intro p e s m args below meth c s₁ B hml hv
  obtain ⟨rfl, hsz, hP, hK, hD0, hN⟩ := hv
  subst hsz
  rw [lg_entry_eq]
  have hin : meth.name = y.name := (name_of_methodNamed B.named B.method).1
  exact body p e s m below meth c _ _ ⟨B.exec, B.bytes, B.returns, hml, findClass_of_methodNamed B.named, atoms_spec (ws := ws) B.pre, B.notSynchronized, hK, hN, fun q h => Or.inr h, hP, hD0.self (sz := s.heap.size), va_S.rf⟩ (hin.trans hni) (lv_entry As hlen)
section ZM
variable {U : Type} {p : Program} {l : Launch} {e : Env} {R : Room} {s : State} {m : MethodId} {args : Array Value} {below : List Frame} {meth : Method} {c : Code} {H : Heap} {locs : List Loc} {cells slots : Nat} {Q : State → Prop}
variable {D : va_G} {cI : ClassId} {A : Nat → Prop} {H0 : Heap} {pc : Nat} {ls : Array Slot} {st0 rest : List Value} {ww pre wc post : va_W} {w1 : U → va_W} {ok : U → Prop}
theorem zM_ret {cc : ByteArray} (u : U) (hu : ok u) (hx : p.tables.exec = Jvm.exec) (hb : c.code = cc) (hr : meth.sig.returnType = none) (hlocks : meth.locks = false) (hP : va_P D vwCl (w1 u) H) (hD : va_D A (w1 u)) (hS : va_S A s.heap H locs) (hdg : decode cc pc = .ok (.return_, 1)) : W p l e R s m args below meth c H locs cells slots (zMq D A w1 ok below args s cells slots) (F0 m pc ls []) :=
  W.vret (hlocks := hlocks) hx hb hr (fun t ht _ => ⟨⟨u, rfl, hu, by rw [ht]; exact hP, hD⟩, hS.F ht⟩) hS.2.2 hdg
theorem zM_back {a : Array Value} {mc ms : Nat} (hr : va_Run p l e R s m args below meth c H locs cells slots mc ms (F0 m pc ls st0) rest (va_Qv (fun u : U => ok u) (fun u t => zEnd D (w1 u) (va_A wc H.size) t) (va_A wc H.size) a) (va_A wc H.size)) (hw : ww = pre ++ wc ++ post) (hP : va_P D vwCl ww H) (hD : va_D A ww) (hS : va_S A H0 H locs) (hA : ∀ q, H0.size ≤ q → A q)
    (kk : ∀ (u : U) (H1 : Heap) (locs1 : List Loc), ok u → va_P D vwCl (pre ++ w1 u ++ post) H1 → va_D A (pre ++ w1 u ++ post) → va_S A H0 H1 locs1 → W p l e R s m args below meth c H1 locs1 (cells + mc) (slots + ms) Q (F0 m (pc + 3) ls rest)) : W p l e R s m args below meth c H locs cells slots Q (F0 m pc ls st0) := by
  have hF := z_F hw hD hS hA
  refine va_callv hr hS (fun q _ h => hF q h) hF (fun u t H1 locs1 ht _ hu hB _ hk hS1 => ?_)
  obtain ⟨hP1, hD1⟩ := hB
  rw [ht] at hP1
  obtain ⟨hP2, hD2⟩ := z_join hw hP hD hk hF hP1 hD1
  exact kk u H1 locs1 hu hP2 hD2 hS1
variable {y : MethodName} {bytes cc : ByteArray} {maxL nL n index mc ms : Nat} {ws : List Cond} {rm : Room} {Ts : List Cond} {own host : String} {b : Addr} {As : List Value}
theorem zM_I (S : CallFix p m c cc nL s args Ts own) (hM : zM l y ws rm D cI (.ref b :: As) wc w1 ok mc ms) (cw : CallB R s args own index y bytes maxL none ws rm mc ms n ∧ y.name = "<init>" ∧ (Cond.instanceMethod y).before args s = true) (hw : ww = pre ++ wc ++ post) (hK : va_K D vwCl [(cI, .int)] s) (hN : zN s)
    (hP : va_P D vwCl ww H) (hD : va_D A ww) (hS : va_S A H0 H locs) (hA : ∀ q, H0.size ≤ q → A q) (hn : As.length = n) (hsize : ls.size = nL) (hst : st0 = As.reverse ++ .ref b :: rest) (hW : (rest.map fun v => v.category).sum ≤ 8) (hdg : decode cc pc = .ok (.invokespecial index, 3)) (hcs : cells + mc ≤ R.cells ∧ slots + ms ≤ R.slots)
    (kk : ∀ (u : U) (H1 : Heap) (locs1 : List Loc), ok u → va_P D vwCl (pre ++ w1 u ++ post) H1 → va_D A (pre ++ w1 u ++ post) → va_S A H0 H1 locs1 → W p l e R s m args below meth c H1 locs1 (cells + mc) (slots + ms) Q (F0 m (pc + 3) ls rest)) : W p l e R s m args below meth c H locs cells slots Q (F0 m pc ls st0) := by
  subst hst
  exact zM_back (va_runI (As := As) (rest := rest) S (hM H.size) cw ⟨zPre_blind, fun U hU hW => ⟨rfl, zPre_at hU hW hK hN (z_P hw hP) (z_D hw hD)⟩⟩ rfl hn hsize rfl (lv_room hW) hdg hcs) hw hP hD hS hA kk
theorem zM_IN (S : CallFix p m c cc nL s args Ts own) (hM : zM l y ws rm D cI (.ref b :: As) wc w1 ok mc ms) (cw : va_CN R s args own index y host bytes maxL none ws rm mc ms n ∧ y.name = "<init>" ∧ (Cond.instanceMethod y).before args s = true) (hw : ww = pre ++ wc ++ post) (hK : va_K D vwCl [(cI, .int)] s) (hN : zN s)
    (hP : va_P D vwCl ww H) (hD : va_D A ww) (hS : va_S A H0 H locs) (hA : ∀ q, H0.size ≤ q → A q) (hn : As.length = n) (hsize : ls.size = nL) (hst : st0 = As.reverse ++ .ref b :: rest) (hW : (rest.map fun v => v.category).sum ≤ 8) (hdg : decode cc pc = .ok (.invokespecial index, 3)) (hcs : cells + mc ≤ R.cells ∧ slots + ms ≤ R.slots)
    (kk : ∀ (u : U) (H1 : Heap) (locs1 : List Loc), ok u → va_P D vwCl (pre ++ w1 u ++ post) H1 → va_D A (pre ++ w1 u ++ post) → va_S A H0 H1 locs1 → W p l e R s m args below meth c H1 locs1 (cells + mc) (slots + ms) Q (F0 m (pc + 3) ls rest)) : W p l e R s m args below meth c H locs cells slots Q (F0 m pc ls st0) := by
  subst hst
  exact zM_back (va_runIN (As := As) (rest := rest) S (hM H.size) cw ⟨zPre_blind, fun U hU hW => ⟨rfl, zPre_at hU hW hK hN (z_P hw hP) (z_D hw hD)⟩⟩ rfl hn hsize rfl (lv_room hW) hdg hcs) hw hP hD hS hA kk
end ZM
/-- all rows of ints are of one class -/
theorem z_cI {D : va_G} {cl : List vw_C} {cI cA : ClassId} {U : State} (hK : va_K D cl ([(cI, .int)] ++ [(cA, .int)]) U) : cA = cI := by
  have h1 := (hK.2 0 (cI, .int) rfl).2
  have h2 := (hK.2 1 (cA, .int) rfl).2
  exact Option.some.inj (h2.symm.trans h1)
theorem z_ten (i : Nat) : nI i * 10 + Int32.ofInt 10 = nI (i + 1) * 10 := by
  have h1 : (10 : Int32) = nI 10 := rfl
  have h2 : Int32.ofInt 10 = nI 10 := rfl
  rw [h1, h2, pk_mul, pk_mul, nI_add]
  congr 1
  omega
end
section
/-! the numbers of a slope, and what each method of the class makes of them -/
abbrev sS : Type := Nat → Nat → Int32
def s_row (S : sS) (r : Nat) (g : Nat → Int32) : sS := fun a b => cond (Nat.beq a r) (g b) (S a b)
/-- the number v at place j of row r -/
def s_put (S : sS) (r j : Nat) (v : Int32) : sS := s_row S r (upd (S r) j v)
/-- a loop of n rounds -/
def itr {α : Type} (f : Int32 → α → α) : Nat → α → α
  | 0, a => a
  | n + 1, a => f (nI n) (itr f n a)
theorem itr_0 {α : Type} (f : Int32 → α → α) (a : α) : itr f 0 a = a := rfl
theorem itr_s {α : Type} (f : Int32 → α → α) (n : Nat) (a : α) : itr f (n + 1) a = f (nI n) (itr f n a) := rfl
theorem s_row_same (S : sS) (r : Nat) (g : Nat → Int32) : s_row S r g r = g := by
  funext b
  simp [s_row]
theorem s_row_ne (S : sS) {r q : Nat} (h : q ≠ r) (g : Nat → Int32) : s_row S r g q = S q := by
  funext b
  have : Nat.beq q r = false := by
    cases hb : Nat.beq q r with
    | false => rfl
    | true => exact absurd (Nat.eq_of_beq_eq_true hb) h
  simp [s_row, this]
theorem s_put_same (S : sS) (r j : Nat) (v : Int32) : s_put S r j v r = upd (S r) j v := s_row_same _ _ _
theorem s_put_ne (S : sS) {r q : Nat} (h : q ≠ r) (j : Nat) (v : Int32) : s_put S r j v q = S q := s_row_ne _ h _
theorem s_put_col (S : sS) (r : Nat) {j k : Nat} (h : k ≠ j) (v : Int32) (q : Nat) : s_put S r j v q k = S q k := by
  by_cases hq : q = r
  · subst hq
    rw [s_put_same]
    simp [upd, h]
  · rw [s_put_ne S hq]
/-- a slope's cells: the object, its thirteen rows -/
def sW (cI : ClassId) (a : Nat → Nat) (S : sS) : va_W := [(a 0, .inr (2, [.int (S 0 0), .int (S 0 1), .int (S 0 2), .int (S 0 3), .int (S 0 4), .ref (a 1), .ref (a 2), .ref (a 3), .ref (a 4), .ref (a 5), .ref (a 6), .ref (a 7), .ref (a 8), .ref (a 9), .ref (a 10), .ref (a 11), .ref (a 12), .ref (a 13)])),
  (a 1, .inl (cI, 8, .inl (S 1))), (a 2, .inl (cI, 64, .inl (S 2))), (a 3, .inl (cI, 64, .inl (S 3))), (a 4, .inl (cI, 64, .inl (S 4))), (a 5, .inl (cI, 64, .inl (S 5))), (a 6, .inl (cI, 64, .inl (S 6))), (a 7, .inl (cI, 64, .inl (S 7))), (a 8, .inl (cI, 64, .inl (S 8))), (a 9, .inl (cI, 64, .inl (S 9))), (a 10, .inl (cI, 64, .inl (S 10))), (a 11, .inl (cI, 64, .inl (S 11))), (a 12, .inl (cI, 64, .inl (S 12))), (a 13, .inl (cI, 64, .inl (S 13)))]
/-- a calendar's cells -/
def kW (cI : ClassId) (k : Nat → Nat) (M : sS) : va_W := [(k 1, .inr (0, [.ref (k 2), .ref (k 3), .ref (k 4)])), (k 2, .inl (cI, 30, .inl (M 1))), (k 3, .inl (cI, 30, .inl (M 2))), (k 4, .inl (cI, 30, .inl (M 3)))]
/-- the best move's cell -/
def bW (k : Nat → Nat) (M : sS) : va_W := [(k 5, .inr (1, [.int (M 4 0), .int (M 4 1), .int (M 4 2), .int (M 4 3), .int (M 4 4)]))]
/-- the object's own cell; b, t: where its slope and its trial slope lie -/
def oW (k b t : Nat → Nat) (M : sS) : va_W := [(k 0, .inr (3, [.ref (k 1), .ref (b 0), .ref (t 0), .ref (k 5), .int (M 0 0), .int (M 0 1)]))]
/-- the reference's cells: thrown, n, shares, fields, weather, spareCounts, spareFields -/
def mW (cI : ClassId) (d : Nat → Nat) (m : sS) : va_W := [(d 0, .inr (4, [.int (m 0 0), .ref (d 1), .ref (d 2), .ref (d 3), .ref (d 4), .ref (d 5), .ref (d 6)])), (d 1, .inl (cI, 7, .inl (m 1))), (d 2, .inl (cI, 8, .inl (m 2))), (d 3, .inl (cI, 768, .inl (m 3))), (d 4, .inl (cI, 90, .inl (m 4))), (d 5, .inl (cI, 7, .inl (m 5))), (d 6, .inl (cI, 768, .inl (m 6)))]
/-- h terraces of w fields -/
def geo (h w : Nat) (S : sS) : Prop := S 0 0 = nI h ∧ S 0 1 = nI w ∧ 2 ≤ h ∧ h ≤ 8 ∧ 2 ≤ w ∧ w ≤ 8
theorem geo_hw {h w : Nat} {S : sS} (g : geo h w S) : h * w ≤ 64 := by
  obtain ⟨-, -, h1, h2, h3, h4⟩ := g
  exact Nat.mul_le_mul h2 h4
theorem geo_put {h w : Nat} {S : sS} (g : geo h w S) {r j : Nat} (hr : r ≠ 0 ∨ 2 ≤ j) (v : Int32) : geo h w (s_put S r j v) := by
  obtain ⟨h0, h1, h2⟩ := g
  refine ⟨?_, ?_, h2⟩
  · rcases hr with hr | hr
    · rw [s_put_ne S (Ne.symm hr)]; exact h0
    · rw [s_put_col S r (by omega)]; exact h0
  · rcases hr with hr | hr
    · rw [s_put_ne S (Ne.symm hr)]; exact h1
    · rw [s_put_col S r (by omega)]; exact h1
/-- h, w and the day stay -/
def sam (S T : sS) : Prop := T 0 0 = S 0 0 ∧ T 0 1 = S 0 1 ∧ T 0 2 = S 0 2
theorem sam_rf (S : sS) : sam S S := ⟨rfl, rfl, rfl⟩
theorem sam_tr {S T U : sS} (h : sam S T) (h2 : sam T U) : sam S U := ⟨h2.1.trans h.1, h2.2.1.trans h.2.1, h2.2.2.trans h.2.2⟩
theorem sam_put {S T : sS} (h : sam S T) {r j : Nat} (hr : r ≠ 0 ∨ 3 ≤ j) (v : Int32) : sam S (s_put T r j v) := by
  refine sam_tr h ?_
  rcases hr with hr | hr
  · exact ⟨by rw [s_put_ne T (Ne.symm hr)], by rw [s_put_ne T (Ne.symm hr)], by rw [s_put_ne T (Ne.symm hr)]⟩
  · exact ⟨s_put_col T r (by omega) v 0, s_put_col T r (by omega) v 0, s_put_col T r (by omega) v 0⟩
theorem sam_itr {f : Int32 → sS → sS} (hf : ∀ i T, sam T (f i T)) (n : Nat) (S : sS) : sam S (itr f n S) := by
  induction n with
  | zero => exact sam_rf S
  | succ n ih => exact sam_tr ih (hf _ _)
theorem geo_sam {h w : Nat} {S T : sS} (g : geo h w S) (e : sam S T) : geo h w T := ⟨e.1.trans g.1, e.2.1.trans g.2.1, g.2.2⟩
def zmax (x y : Int32) : Int32 := if x < y then y else x
def zmin (x y : Int32) : Int32 := if y < x then y else x
def zabs (x : Int32) : Int32 := if 0 ≤ x then x else 0 - x
def zrem (x y : Int32) : Int32 := x - x / y * y
def is_w (x a b : Int32) : Int32 := if x < a then 0 else if b < x then 0 else 1
def sl_cells (S : sS) : Int32 := S 0 0 * S 0 1
theorem geo_cells {h w : Nat} {S : sS} (g : geo h w S) : sl_cells S = nI (h * w) := by
  unfold sl_cells
  rw [g.1, g.2.1, pk_mul]
def sl_has (S : sS) (t f : Int32) : Int32 := if t < 0 then 0 else if S 0 0 ≤ t then 0 else if f < 0 then 0 else if S 0 1 ≤ f then 0 else 1
def sl_at (S : sS) (t f : Int32) : Int32 := t * S 0 1 + f
theorem sl_has_ok {S : sS} {t f : Int32} (hh : ¬ sl_has S t f = 0) : ¬ t < 0 ∧ ¬ S 0 0 ≤ t ∧ ¬ f < 0 ∧ ¬ S 0 1 ≤ f := by
  unfold sl_has at hh
  by_cases h1 : t < 0
  · rw [if_pos h1] at hh; exact absurd rfl hh
  · rw [if_neg h1] at hh
    by_cases h2 : S 0 0 ≤ t
    · rw [if_pos h2] at hh; exact absurd rfl hh
    · rw [if_neg h2] at hh
      by_cases h3 : f < 0
      · rw [if_pos h3] at hh; exact absurd rfl hh
      · rw [if_neg h3] at hh
        by_cases h4 : S 0 1 ≤ f
        · rw [if_pos h4] at hh; exact absurd rfl hh
        · exact ⟨h1, h2, h3, h4⟩
/-- a field's place as a number -/
theorem geo_tf {h w : Nat} {S : sS} (g : geo h w S) {t f : Int32} (hh : ¬ sl_has S t f = 0) : ∃ i j : Nat, i < h ∧ j < w ∧ t = nI i ∧ f = nI j ∧ sl_at S t f = nI (i * w + j) ∧ i * w + j < h * w := by
  obtain ⟨h1, h2, h3, h4⟩ := sl_has_ok hh
  obtain ⟨g0, g1, -, hh8, -, hw8⟩ := g
  obtain ⟨i, hi, rfl⟩ := nI_of h1
  obtain ⟨j, hj, rfl⟩ := nI_of h3
  have hi2 : i < h := by
    rcases Nat.lt_or_ge i h with q | q
    · exact q
    · exact absurd (by rw [g0]; exact nI_le q hi) h2
  have hj2 : j < w := by
    rcases Nat.lt_or_ge j w with q | q
    · exact q
    · exact absurd (by rw [g1]; exact nI_le q hj) h4
  refine ⟨i, j, hi2, hj2, rfl, rfl, ?_, ?_⟩
  · unfold sl_at
    rw [g1, pk_mul, nI_add]
  · have : (i + 1) * w ≤ h * w := Nat.mul_le_mul_right w hi2
    rw [Nat.succ_mul] at this
    omega
theorem geo_in {h w : Nat} {S : sS} (g : geo h w S) {t f : Int32} (hh : ¬ sl_has S t f = 0) : vp_in (sl_at S t f) 64 := by
  obtain ⟨i, j, -, -, -, -, e, hlt⟩ := geo_tf g hh
  have := geo_hw g
  rw [e]
  exact vp_in_nI (by omega) (by decide)
def sl_bring (S : sS) (t f x : Int32) : sS := if sl_has S t f = 0 then s_put S 0 3 (S 0 3 + x) else s_put S 2 (sl_at S t f).toNatClampNeg (S 2 (sl_at S t f).toNatClampNeg + x)
theorem sam_bring (S : sS) (t f x : Int32) : sam S (sl_bring S t f x) := by
  unfold sl_bring
  split
  · exact sam_put (sam_rf S) (Or.inr (by decide)) _
  · exact sam_put (sam_rf S) (Or.inl (by decide)) _
theorem geo_has {h w : Nat} {S : sS} (g : geo h w S) {i j : Nat} (hi : i < h) (hj : j < w) : ¬ sl_has S (nI i) (nI j) = 0 := by
  obtain ⟨g0, g1, -, h8, -, w8⟩ := g
  unfold sl_has
  rw [g0, g1, if_neg (nI_pos (by omega)), if_neg (nI_ge hi (by omega)), if_neg (nI_pos (by omega)), if_neg (nI_ge hj (by omega))]
  decide
theorem geo_w {h w : Nat} {S : sS} (g : geo h w S) : w ≤ h * w := by
  obtain ⟨-, -, h2, -⟩ := g
  exact Nat.le_mul_of_pos_left w (by omega)
/-- one field's water of a day -/
def sl_out (S : sS) (k : Nat) : Int32 := zmin (zmax (S 2 k - S 5 k) 0) 40
def sl_over (S : sS) (k : Nat) : Int32 := zmax (S 2 k - S 3 k) 0
def sl_flow1 (S : sS) (k : Nat) : sS := s_put (s_put S 12 k (sl_out S k)) 2 k (S 2 k - sl_out S k)
def sl_flow2 (S : sS) (k : Nat) : sS := s_put (s_put S 13 k (sl_over S k)) 2 k (S 2 k - sl_over S k)
def sl_flowA (S : sS) (t f : Int32) : sS := sl_bring (sl_flow1 S (sl_at S t f).toNatClampNeg) (t + 1) (f + S 6 (sl_at S t f).toNatClampNeg) (sl_out S (sl_at S t f).toNatClampNeg)
def sl_flowB (S : sS) (k : Nat) (t f : Int32) : sS := sl_bring (sl_bring (sl_flow2 S k) t (f - 1) (sl_over S k / 2)) t (f + 1) (sl_over S k - sl_over S k / 2)
def sl_flow (S : sS) (t f : Int32) : sS := sl_flowB (sl_flowA S t f) (sl_at S t f).toNatClampNeg t f
theorem sam_flow (S : sS) (t f : Int32) : sam S (sl_flow S t f) := by
  unfold sl_flow sl_flowB sl_flowA
  refine sam_tr ?_ (sam_bring _ _ _ _)
  refine sam_tr ?_ (sam_bring _ _ _ _)
  unfold sl_flow2
  refine sam_put (sam_put ?_ (Or.inl (by decide)) _) (Or.inl (by decide)) _
  refine sam_tr ?_ (sam_bring _ _ _ _)
  unfold sl_flow1
  exact sam_put (sam_put (sam_rf S) (Or.inl (by decide)) _) (Or.inl (by decide)) _
def sl_flowAll (h w : Nat) (S : sS) : sS := itr (fun t T => itr (fun f U => sl_flow U t f) w T) h S
theorem sam_flowAll (h w : Nat) (S : sS) : sam S (sl_flowAll h w S) := sam_itr (fun t T => sam_itr (fun f U => sam_flow U t f) w T) h S
def sl_sum (h w : Nat) (S : sS) (r : Nat) : Int32 := itr (fun i x => x + S r i.toNatClampNeg) (h * w) 0
def sl_clear (S : sS) (i : Int32) : sS := s_put (s_put (s_put (s_put (s_put S 7 i.toNatClampNeg 0) 8 i.toNatClampNeg 0) 9 i.toNatClampNeg 0) 10 i.toNatClampNeg 0) 11 i.toNatClampNeg 0
theorem sam_clear (S : sS) (i : Int32) : sam S (sl_clear S i) := sam_put (sam_put (sam_put (sam_put (sam_put (sam_rf S) (Or.inl (by decide)) _) (Or.inl (by decide)) _) (Or.inl (by decide)) _) (Or.inl (by decide)) _) (Or.inl (by decide)) _
def sl_hard (S : sS) (i : Int32) : Int32 := if 0 < S 10 i.toNatClampNeg then -3 else if S 11 i.toNatClampNeg ≤ 0 then (if is_w (S 2 i.toNatClampNeg) 5 25 = 0 then 1 else 2) else -3
def sl_height (S : sS) (k : Nat) : Int32 := zmin (5 + S 8 k * 2 / 3) 45
def sl_wet (S : sS) (k : Nat) : sS := s_put S 10 k (if S 2 k ≤ sl_height S k then 0 else S 10 k + 1)
def sl_dry (S : sS) (k : Nat) : sS := s_put S 11 k (if S 2 k = 0 then S 11 k + 1 else 0)
def sl_die (S : sS) (i : Int32) : sS := s_put (sl_clear S i) 0 4 (sl_clear S i 0 4 + 1)
def sl_live (S : sS) (i : Int32) : sS := s_put S 9 i.toNatClampNeg (zmin (zmax (S 9 i.toNatClampNeg + sl_hard S i) 0) 100)
def sl_end (S : sS) (i : Int32) : sS := if 4 ≤ S 10 i.toNatClampNeg then sl_die S i else if S 11 i.toNatClampNeg < 5 then sl_live S i else sl_die S i
def sl_grow (S : sS) (i : Int32) : sS := sl_end (sl_dry (sl_wet (s_put S 8 i.toNatClampNeg (S 8 i.toNatClampNeg + 1)) i.toNatClampNeg) i.toNatClampNeg) i
theorem sam_die (S : sS) (i : Int32) : sam S (sl_die S i) := sam_put (sam_clear S i) (Or.inr (by decide)) _
theorem sam_end (S : sS) (i : Int32) : sam S (sl_end S i) := by
  unfold sl_end
  split
  · exact sam_die S i
  · split
    · exact sam_put (sam_rf S) (Or.inl (by decide)) _
    · exact sam_die S i
theorem sam_grow (S : sS) (i : Int32) : sam S (sl_grow S i) := by
  unfold sl_grow
  refine sam_tr ?_ (sam_end _ i)
  unfold sl_dry sl_wet
  exact sam_put (sam_put (sam_put (sam_rf S) (Or.inl (by decide)) _) (Or.inl (by decide)) _) (Or.inl (by decide)) _
def sl_rice1 (S : sS) (i : Int32) : sS := if S 7 i.toNatClampNeg = 0 then S else sl_grow S i
def sl_rice (h w : Nat) (S : sS) : sS := itr (fun i T => sl_rice1 T i) (h * w) S
theorem sam_rice (h w : Nat) (S : sS) : sam S (sl_rice h w S) := sam_itr (fun i T => by
  unfold sl_rice1
  split
  · exact sam_rf T
  · exact sam_grow T i) _ S
def sl_rain1 (S : sS) (i x : Int32) : sS := s_put S 2 i.toNatClampNeg (S 2 i.toNatClampNeg + x)
def sl_rain (h w : Nat) (S : sS) (x : Int32) : sS := itr (fun i T => sl_rain1 T i x) (h * w) S
theorem sam_rain (h w : Nat) (S : sS) (x : Int32) : sam S (sl_rain h w S x) := sam_itr (fun i T => sam_put (sam_rf T) (Or.inl (by decide)) _) _ S
def sl_shares (w : Nat) (S : sS) : Int32 := itr (fun i x => x + S 1 i.toNatClampNeg) w 0
def sl_spring1 (S : sS) (i x a : Int32) : sS := s_put S 2 i.toNatClampNeg (S 2 i.toNatClampNeg + x * S 1 i.toNatClampNeg / a)
def sl_spring (w : Nat) (S : sS) (x : Int32) : sS := if sl_shares w S = 0 then S else itr (fun i T => sl_spring1 T i x (sl_shares w S)) w S
theorem sam_spring (w : Nat) (S : sS) (x : Int32) : sam S (sl_spring w S x) := by
  unfold sl_spring
  split
  · exact sam_rf S
  · exact sam_itr (fun i T => sam_put (sam_rf T) (Or.inl (by decide)) _) _ S
def sl_left (S : sS) (k : Nat) (x : Int32) : Int32 := zmax (S 2 k - S 4 k - x) 0
def sl_loseA (S : sS) (k : Nat) (x : Int32) : sS := s_put S 2 k (zmin (sl_left S k x) 200)
def sl_lose1 (S : sS) (i x : Int32) : sS := s_put (sl_loseA S i.toNatClampNeg x) 0 3 (sl_loseA S i.toNatClampNeg x 0 3 + (sl_left S i.toNatClampNeg x - sl_loseA S i.toNatClampNeg x 2 i.toNatClampNeg))
def sl_lose (h w : Nat) (S : sS) (x : Int32) : sS := itr (fun i T => sl_lose1 T i x) (h * w) S
theorem sam_lose (h w : Nat) (S : sS) (x : Int32) : sam S (sl_lose h w S x) := sam_itr (fun i T => sam_put (sam_put (sam_rf T) (Or.inl (by decide)) _) (Or.inr (by decide)) _) _ S
def sl_date (S : sS) : Int32 := S 0 2 - S 0 2 / 30 * 30
def sl_dayA (h w : Nat) (S : sS) (r v u : Int32) : sS := sl_rice h w (sl_lose h w (sl_flowAll h w (sl_spring w (sl_rain h w S r) v)) u)
def sl_day (h w : Nat) (M S : sS) : sS := sl_dayA h w (s_put S 0 2 (S 0 2 + 1)) (M 1 (sl_date S).toNatClampNeg) (M 2 (sl_date S).toNatClampNeg) (M 3 (sl_date S).toNatClampNeg)
def sl_days (h w : Nat) (M S : sS) (n : Nat) : sS := itr (fun _ T => sl_day h w M T) n S
theorem sam_dayA (h w : Nat) (S : sS) (r v u : Int32) : sam S (sl_dayA h w S r v u) := sam_tr (sam_tr (sam_tr (sam_tr (sam_rain h w S r) (sam_spring w _ v)) (sam_flowAll h w _)) (sam_lose h w _ u)) (sam_rice h w _)
theorem geo_day {h w : Nat} {S : sS} (g : geo h w S) (M : sS) : geo h w (sl_day h w M S) := geo_sam (geo_put g (Or.inr (by decide)) _) (sam_dayA h w _ _ _ _)
theorem day_day {h w d : Nat} {S : sS} (hd : S 0 2 = nI d) (M : sS) : sl_day h w M S 0 2 = nI (d + 1) := by
  unfold sl_day
  rw [(sam_dayA h w _ _ _ _).2.2, s_put_same]
  simp only [upd, if_true]
  rw [hd, nI_1]
theorem date_in {d : Nat} {S : sS} (hd : S 0 2 = nI d) (h : d < 2 ^ 31) : vp_in (S 0 2 - S 0 2 / 30 * 30) 30 := by
  have e : S 0 2 - S 0 2 / 30 * 30 = nI (d % 30) := by
    rw [hd]
    exact pk_rem (d := 30) h (by decide) (by decide)
  rw [e]
  exact vp_in_nI (Nat.mod_lt _ (by decide)) (by decide)
theorem geo_days {h w : Nat} {S : sS} (g : geo h w S) (M : sS) (n : Nat) : geo h w (sl_days h w M S n) := by
  unfold sl_days
  induction n with
  | zero => exact g
  | succ n ih => exact geo_day ih M
theorem days_day {h w d : Nat} {S : sS} (hd : S 0 2 = nI d) (M : sS) (n : Nat) : sl_days h w M S n 0 2 = nI (d + n) := by
  unfold sl_days
  induction n with
  | zero => exact hd
  | succ n ih => exact day_day ih M
/-! worlds whose rows agree as far as they are long -/
theorem z_cell {D : va_G} {cl : List vw_C} {a : Nat} {cI : ClassId} {n : Nat} {f g : Nat → Int32} {H : Heap} (h : va_at D cl (a, .inl (cI, n, .inl f)) H) (e : ∀ j, j < n → f j = g j) : va_at D cl (a, .inl (cI, n, .inl g)) H := by
  have h1 : H[a]? = some (vp_cell cI (n, .inl f)) := h
  have h2 : vp_cell cI (n, .inl f) = vp_cell cI (n, .inl g) := by
    rw [vp_cell_i, vp_cell_i]
    unfold arrV
    congr 1
    congr 1
    funext j
    show Value.int (f j.val) = Value.int (g j.val)
    rw [e j.val j.isLt]
  rw [h2] at h1
  exact h1
theorem z_Pnil {D : va_G} {cl : List vw_C} {H : Heap} : va_P D cl [] H := fun k q h => by simp at h
theorem z_Pcons {D : va_G} {cl : List vw_C} {H : Heap} {x : Nat × va_E} {ws : va_W} (h : va_at D cl x H) (hs : va_P D cl ws H) : va_P D cl (x :: ws) H := by
  intro k q hk
  cases k with
  | zero =>
    simp at hk
    rw [← hk]
    exact h
  | succ k => exact hs k q (by simpa using hk)
theorem z_Pap {D : va_G} {cl : List vw_C} {H : Heap} {u v : va_W} (h : va_P D cl u H) (h2 : va_P D cl v H) : va_P D cl (u ++ v) H := by
  intro k q hk
  rcases Nat.lt_or_ge k u.length with c | c
  · rw [List.getElem?_append_left c] at hk
    exact h k q hk
  · rw [List.getElem?_append_right c] at hk
    exact h2 _ q hk
theorem z_Pl {D : va_G} {cl : List vw_C} {H : Heap} {u v : va_W} (h : va_P D cl (u ++ v) H) : va_P D cl u H := fun k q hk => h k q (by rw [List.getElem?_append_left (List.getElem?_eq_some_iff.mp hk).1]; exact hk)
theorem z_Pr {D : va_G} {cl : List vw_C} {H : Heap} {u v : va_W} (h : va_P D cl (u ++ v) H) : va_P D cl v H := fun k q hk => h (u.length + k) q (by rw [List.getElem?_append_right (by omega)]; rw [show u.length + k - u.length = k by omega]; exact hk)
/-- apart is a word about addresses alone -/
theorem z_Dmap {A : Nat → Prop} {ws ws' : va_W} (h : va_D A ws) (e : ws.map Prod.fst = ws'.map Prod.fst) : va_D A ws' := by
  have key : ∀ (k : Nat) (q : Nat × va_E), ws'[k]? = some q → ∃ p, ws[k]? = some p ∧ p.1 = q.1 := by
    intro k q hk
    have h1 : (ws.map Prod.fst)[k]? = some q.1 := by rw [e, List.getElem?_map, hk]; rfl
    rw [List.getElem?_map] at h1
    cases hp : ws[k]? with
    | none => rw [hp] at h1; simp at h1
    | some p =>
      rw [hp] at h1
      simp at h1
      exact ⟨p, rfl, h1⟩
  refine ⟨fun i j p q hp hq hpq => ?_, fun k q hk => ?_⟩
  · obtain ⟨p2, h1, h2⟩ := key i p hp
    obtain ⟨q2, h3, h4⟩ := key j q hq
    exact h.1 i j p2 q2 h1 h3 (by rw [h2, h4, hpq])
  · obtain ⟨p, h1, h2⟩ := key k q hk
    rw [← h2]
    exact h.2 k p h1
/-- two slopes that nobody can tell apart -/
def sEq (S T : sS) : Prop := (∀ j, j < 5 → S 0 j = T 0 j) ∧ (∀ j, j < 8 → S 1 j = T 1 j) ∧ ∀ r, 2 ≤ r → r < 14 → ∀ j, j < 64 → S r j = T r j
theorem sW_eq {D : va_G} {cl : List vw_C} {cI : ClassId} {a : Nat → Nat} {S T : sS} {H : Heap} (e : sEq S T) (h : va_P D cl (sW cI a S) H) : va_P D cl (sW cI a T) H := by
  have h0 : va_at D cl _ H := h 0 _ rfl
  rw [show S 0 0 = T 0 0 from e.1 0 (by decide), show S 0 1 = T 0 1 from e.1 1 (by decide), show S 0 2 = T 0 2 from e.1 2 (by decide), show S 0 3 = T 0 3 from e.1 3 (by decide), show S 0 4 = T 0 4 from e.1 4 (by decide)] at h0
  have hr : ∀ r, 2 ≤ r → r < 14 → ∀ j, j < 64 → S r j = T r j := e.2.2
  exact z_Pcons h0 (z_Pcons (z_cell (h 1 _ rfl) e.2.1) (z_Pcons (z_cell (h 2 _ rfl) (hr 2 (by decide) (by decide))) (z_Pcons (z_cell (h 3 _ rfl) (hr 3 (by decide) (by decide))) (z_Pcons (z_cell (h 4 _ rfl) (hr 4 (by decide) (by decide))) (z_Pcons (z_cell (h 5 _ rfl) (hr 5 (by decide) (by decide))) (z_Pcons (z_cell (h 6 _ rfl) (hr 6 (by decide) (by decide))) (z_Pcons (z_cell (h 7 _ rfl) (hr 7 (by decide) (by decide))) (z_Pcons (z_cell (h 8 _ rfl) (hr 8 (by decide) (by decide))) (z_Pcons (z_cell (h 9 _ rfl) (hr 9 (by decide) (by decide))) (z_Pcons (z_cell (h 10 _ rfl) (hr 10 (by decide) (by decide))) (z_Pcons (z_cell (h 11 _ rfl) (hr 11 (by decide) (by decide))) (z_Pcons (z_cell (h 12 _ rfl) (hr 12 (by decide) (by decide))) (z_Pcons (z_cell (h 13 _ rfl) (hr 13 (by decide) (by decide))) z_Pnil)))))))))))))
theorem sW_map (cI : ClassId) (a : Nat → Nat) (S T : sS) : (sW cI a S).map Prod.fst = (sW cI a T).map Prod.fst := rfl
/-- cells by their places -/
def zpk (ws : va_W) (is : List Nat) : va_W := is.filterMap (fun i => ws[i]?)
/-- a new slope -/
def sl_new (h w : Int32) : sS := fun r j => match r with
  | 0 => (match j with | 0 => h | 1 => w | _ => 0)
  | 1 => 1
  | 3 => 60
  | 4 => 2
  | 5 => 30
  | _ => 0
def sl_field (S : sS) (i x : Int32) : Int32 := if x = 0 then S 2 i.toNatClampNeg else if x = 1 then S 3 i.toNatClampNeg else if x = 2 then S 4 i.toNatClampNeg else if x = 3 then S 5 i.toNatClampNeg else if x = 4 then S 6 i.toNatClampNeg else if x = 5 then S 7 i.toNatClampNeg else if x = 6 then S 8 i.toNatClampNeg else if x = 7 then S 9 i.toNatClampNeg else if x = 8 then S 10 i.toNatClampNeg else if x = 9 then S 11 i.toNatClampNeg else if x = 10 then S 12 i.toNatClampNeg else S 13 i.toNatClampNeg
/-- the rows of a slope whose crops were cleared from the first place on -/
theorem clr_rows (n : Nat) (S : sS) : ∀ r, (itr (fun i T => sl_clear T i) n S) r = if 7 ≤ r ∧ r ≤ 11 then (fun j => if j < n ∧ n < 2 ^ 31 then 0 else (itr (fun i T => sl_clear T i) n S) r j) else S r := by
  induction n with
  | zero =>
    intro r
    split
    · funext j
      simp
    · rfl
  | succ n ih =>
    intro r
    have hstep : (itr (fun i T => sl_clear T i) (n + 1) S) r = if 7 ≤ r ∧ r ≤ 11 then upd ((itr (fun i T => sl_clear T i) n S) r) (nI n).toNatClampNeg 0 else (itr (fun i T => sl_clear T i) n S) r := by
      rw [itr_s]
      show sl_clear _ _ r = _
      unfold sl_clear
      by_cases h7 : r = 7
      · subst h7
        rw [s_put_ne _ (by decide), s_put_ne _ (by decide), s_put_ne _ (by decide), s_put_ne _ (by decide), s_put_same, if_pos (by decide)]
      by_cases h8 : r = 8
      · subst h8
        rw [s_put_ne _ (by decide), s_put_ne _ (by decide), s_put_ne _ (by decide), s_put_same, s_put_ne _ (by decide), if_pos (by decide)]
      by_cases h9 : r = 9
      · subst h9
        rw [s_put_ne _ (by decide), s_put_ne _ (by decide), s_put_same, s_put_ne _ (by decide), s_put_ne _ (by decide), if_pos (by decide)]
      by_cases h10 : r = 10
      · subst h10
        rw [s_put_ne _ (by decide), s_put_same, s_put_ne _ (by decide), s_put_ne _ (by decide), s_put_ne _ (by decide), if_pos (by decide)]
      by_cases h11 : r = 11
      · subst h11
        rw [s_put_same, s_put_ne _ (by decide), s_put_ne _ (by decide), s_put_ne _ (by decide), s_put_ne _ (by decide), if_pos (by decide)]
      · rw [s_put_ne _ h11, s_put_ne _ h10, s_put_ne _ h9, s_put_ne _ h8, s_put_ne _ h7, if_neg (by omega)]
    by_cases hr : 7 ≤ r ∧ r ≤ 11
    · rw [if_pos hr]
      funext j
      by_cases hj : j < n + 1 ∧ n + 1 < 2 ^ 31
      · rw [if_pos hj, hstep, if_pos hr]
        have hn : (nI n).toNatClampNeg = n := nI_clamp (by omega)
        rw [hn]
        unfold upd
        split
        · rfl
        · have := congrFun (ih r) j
          rw [if_pos hr] at this
          rw [this, if_pos ⟨by omega, by omega⟩]
      · rw [if_neg hj]
    · rw [if_neg hr, hstep, if_neg hr, ih r, if_neg hr]
theorem clr_in {n : Nat} {S : sS} {r j : Nat} (h1 : 7 ≤ r) (h2 : r ≤ 11) (hj : j < n) (hn : n < 2 ^ 31) : (itr (fun i T => sl_clear T i) n S) r j = 0 := by
  have := congrFun (clr_rows n S r) j
  rw [if_pos ⟨h1, h2⟩] at this
  rw [this, if_pos ⟨hj, hn⟩]
theorem clr_out {n : Nat} {S : sS} {r : Nat} (h : r < 7 ∨ 11 < r) : (itr (fun i T => sl_clear T i) n S) r = S r := by
  rw [clr_rows n S r, if_neg (by omega)]
end
section
set_option maxHeartbeats 4000000 in
set_option maxRecDepth 100000 in
theorem c_X3_isWithin (l : Launch) (dC : Nat → ClassId) (dI : Nat → Nat → Nat) (cI : ClassId) (x u v : Int32) : zI l yX3_isWithin wsX3_isWithin { frames := 0, cells := 0, slots := 0, locals := 0 } (dC, dI) cI [.int x, .int u, .int v] (([] : va_W)) (([] : va_W)) (is_w x u v) := by
  refine zI_of (cc := cX3_isWithin) (maxL := 3) (ret := (some .boolean)) (by decide) rfl (Nat.le_of_ble_eq_true rfl) ?_
  intro p e s m below meth c A ls C0 hl
  obtain ⟨hx, hb, hr, hml, hown, hts, hlocks, hK, hN, hA, hP, hD, hS⟩ := C0
  have hown : s.vm.findClass RX3 = some m.cls := hown
  have hl : lv_has ls 3 [(0, .int x), (1, .int u), (2, .int v)] := hl
  have hS0 := hS
  refine lv_iload_n hx hb dX3_isWithin_0 rfl (lv_at hl 0 rfl) ?_
  refine lv_iload_n hx hb dX3_isWithin_1 rfl (lv_at hl 1 rfl) ?_
  refine lv_icmp_lt (tgt := 14) hx hb dX3_isWithin_2 (by decide) (fun c_1 => ?_) (fun c_1 => ?_)
  · refine lv_iconst (v := 0) hx hb dX3_isWithin_14 (by decide) ?_
    exact zI_ret hx hb hr hlocks hP hD hS rfl (by first | done | rfl | (simp only [is_w, if_pos c_1]; done)) dX3_isWithin_15
  · refine lv_iload_n hx hb dX3_isWithin_5 rfl (lv_at hl 0 rfl) ?_
    refine lv_iload_n hx hb dX3_isWithin_6 rfl (lv_at hl 2 rfl) ?_
    refine lv_icmp_gt (tgt := 14) hx hb dX3_isWithin_7 (by decide) (fun c_2 => ?_) (fun c_2 => ?_)
    · refine lv_iconst (v := 0) hx hb dX3_isWithin_14 (by decide) ?_
      exact zI_ret hx hb hr hlocks hP hD hS rfl (by first | done | rfl | (simp only [is_w, if_neg c_1, if_pos c_2]; done)) dX3_isWithin_15
    · refine lv_iconst (v := 1) hx hb dX3_isWithin_10 (by decide) ?_
      refine lv_goto (tgt := 15) hx hb dX3_isWithin_11 (by decide) ?_
      exact zI_ret hx hb hr hlocks hP hD hS rfl (by first | done | rfl | (simp only [is_w, if_neg c_1, if_neg c_2]; done)) dX3_isWithin_15
set_option maxHeartbeats 4000000 in
set_option maxRecDepth 100000 in
theorem c_X2_cells (l : Launch) (dC : Nat → ClassId) (dI : Nat → Nat → Nat) (cI : ClassId) (a : Nat → Nat) (S : sS) : zI l yX2_cells wsX2_cells { frames := 0, cells := 0, slots := 0, locals := 0 } (dC, dI) cI [.ref (a 0)] (sW cI a S) (sW cI a S) (sl_cells S) := by
  refine zI_of (cc := cX2_cells) (maxL := 1) (ret := (some .int)) (by decide) rfl (Nat.le_of_ble_eq_true rfl) ?_
  intro p e s m below meth c A ls C0 hl
  obtain ⟨hx, hb, hr, hml, hown, hts, hlocks, hK, hN, hA, hP, hD, hS⟩ := C0
  have hown : s.vm.findClass RX2 = some m.cls := hown
  have hl : lv_has ls 1 [(0, .ref (a 0))] := hl
  have hf55 := hts (.fieldLink RX2 55 "PaddyTerraces$Slope" "h" "I") (by decide +kernel)
  have hf59 := hts (.fieldLink RX2 59 "PaddyTerraces$Slope" "w" "I") (by decide +kernel)
  have hinX2 : ∀ w ∈ wsX20, w ∈ wsX2_cells := by decide +kernel
  have hS0 := hS
  refine lv_aload_n hx hb dX2_cells_0 rfl (lv_at hl 0 rfl) ?_
  refine va_get (D := (dC, dI)) (ci := 2) (v := .int (S 0 0)) (C := RX2) (T := TX2) (N := 18) hx hb hts hinX2 hown hK hP 0 rfl rfl 0 (by decide) hf55 (fun _ h9 => h9) rfl dX2_cells_1 ?_
  refine lv_aload_n hx hb dX2_cells_4 rfl (lv_at hl 0 rfl) ?_
  refine va_get (D := (dC, dI)) (ci := 2) (v := .int (S 0 1)) (C := RX2) (T := TX2) (N := 18) hx hb hts hinX2 hown hK hP 0 rfl rfl 1 (by decide) hf59 (fun _ h9 => h9) rfl dX2_cells_5 ?_
  refine lv_imul hx hb dX2_cells_8 ?_
  exact zI_ret hx hb hr hlocks hP hD hS rfl (by first | done | rfl) dX2_cells_9
set_option maxHeartbeats 4000000 in
set_option maxRecDepth 100000 in
theorem c_X2_hasField (l : Launch) (dC : Nat → ClassId) (dI : Nat → Nat → Nat) (cI : ClassId) (a : Nat → Nat) (S : sS) (t f : Int32) : zI l yX2_hasField wsX2_hasField { frames := 0, cells := 0, slots := 0, locals := 0 } (dC, dI) cI [.ref (a 0), .int t, .int f] (sW cI a S) (sW cI a S) (sl_has S t f) := by
  refine zI_of (cc := cX2_hasField) (maxL := 3) (ret := (some .boolean)) (by decide) rfl (Nat.le_of_ble_eq_true rfl) ?_
  intro p e s m below meth c A ls C0 hl
  obtain ⟨hx, hb, hr, hml, hown, hts, hlocks, hK, hN, hA, hP, hD, hS⟩ := C0
  have hown : s.vm.findClass RX2 = some m.cls := hown
  have hl : lv_has ls 3 [(0, .ref (a 0)), (1, .int t), (2, .int f)] := hl
  have hf55 := hts (.fieldLink RX2 55 "PaddyTerraces$Slope" "h" "I") (by decide +kernel)
  have hf59 := hts (.fieldLink RX2 59 "PaddyTerraces$Slope" "w" "I") (by decide +kernel)
  have hinX2 : ∀ w ∈ wsX20, w ∈ wsX2_hasField := by decide +kernel
  have hS0 := hS
  refine lv_iload_n hx hb dX2_hasField_0 rfl (lv_at hl 1 rfl) ?_
  refine lv_if_lt (tgt := 28) hx hb dX2_hasField_1 (by decide) (fun c_1 => ?_) (fun c_1 => ?_)
  · refine lv_iconst (v := 0) hx hb dX2_hasField_28 (by decide) ?_
    exact zI_ret hx hb hr hlocks hP hD hS rfl (by first | done | rfl | (simp only [sl_has, if_pos c_1]; done)) dX2_hasField_29
  · refine lv_iload_n hx hb dX2_hasField_4 rfl (lv_at hl 1 rfl) ?_
    refine lv_aload_n hx hb dX2_hasField_5 rfl (lv_at hl 0 rfl) ?_
    refine va_get (D := (dC, dI)) (ci := 2) (v := .int (S 0 0)) (C := RX2) (T := TX2) (N := 18) hx hb hts hinX2 hown hK hP 0 rfl rfl 0 (by decide) hf55 (fun _ h9 => h9) rfl dX2_hasField_6 ?_
    refine lv_icmp_ge (tgt := 28) hx hb dX2_hasField_9 (by decide) (fun c_2 => ?_) (fun c_2 => ?_)
    · refine lv_iconst (v := 0) hx hb dX2_hasField_28 (by decide) ?_
      exact zI_ret hx hb hr hlocks hP hD hS rfl (by first | done | rfl | (simp only [sl_has, if_neg c_1, if_pos c_2]; done)) dX2_hasField_29
    · refine lv_iload_n hx hb dX2_hasField_12 rfl (lv_at hl 2 rfl) ?_
      refine lv_if_lt (tgt := 28) hx hb dX2_hasField_13 (by decide) (fun c_3 => ?_) (fun c_3 => ?_)
      · refine lv_iconst (v := 0) hx hb dX2_hasField_28 (by decide) ?_
        exact zI_ret hx hb hr hlocks hP hD hS rfl (by first | done | rfl | (simp only [sl_has, if_neg c_1, if_neg c_2, if_pos c_3]; done)) dX2_hasField_29
      · refine lv_iload_n hx hb dX2_hasField_16 rfl (lv_at hl 2 rfl) ?_
        refine lv_aload_n hx hb dX2_hasField_17 rfl (lv_at hl 0 rfl) ?_
        refine va_get (D := (dC, dI)) (ci := 2) (v := .int (S 0 1)) (C := RX2) (T := TX2) (N := 18) hx hb hts hinX2 hown hK hP 0 rfl rfl 1 (by decide) hf59 (fun _ h9 => h9) rfl dX2_hasField_18 ?_
        refine lv_icmp_ge (tgt := 28) hx hb dX2_hasField_21 (by decide) (fun c_4 => ?_) (fun c_4 => ?_)
        · refine lv_iconst (v := 0) hx hb dX2_hasField_28 (by decide) ?_
          exact zI_ret hx hb hr hlocks hP hD hS rfl (by first | done | rfl | (simp only [sl_has, if_neg c_1, if_neg c_2, if_neg c_3, if_pos c_4]; done)) dX2_hasField_29
        · refine lv_iconst (v := 1) hx hb dX2_hasField_24 (by decide) ?_
          refine lv_goto (tgt := 29) hx hb dX2_hasField_25 (by decide) ?_
          exact zI_ret hx hb hr hlocks hP hD hS rfl (by first | done | rfl | (simp only [sl_has, if_neg c_1, if_neg c_2, if_neg c_3, if_neg c_4]; done)) dX2_hasField_29
set_option maxHeartbeats 4000000 in
set_option maxRecDepth 100000 in
theorem c_X2_cellOf (l : Launch) (dC : Nat → ClassId) (dI : Nat → Nat → Nat) (cI : ClassId) (a : Nat → Nat) (S : sS) (t f : Int32) : zI l yX2_cellOf wsX2_cellOf { frames := 0, cells := 0, slots := 0, locals := 0 } (dC, dI) cI [.ref (a 0), .int t, .int f] (sW cI a S) (sW cI a S) (sl_at S t f) := by
  refine zI_of (cc := cX2_cellOf) (maxL := 3) (ret := (some .int)) (by decide) rfl (Nat.le_of_ble_eq_true rfl) ?_
  intro p e s m below meth c A ls C0 hl
  obtain ⟨hx, hb, hr, hml, hown, hts, hlocks, hK, hN, hA, hP, hD, hS⟩ := C0
  have hown : s.vm.findClass RX2 = some m.cls := hown
  have hl : lv_has ls 3 [(0, .ref (a 0)), (1, .int t), (2, .int f)] := hl
  have hf59 := hts (.fieldLink RX2 59 "PaddyTerraces$Slope" "w" "I") (by decide +kernel)
  have hinX2 : ∀ w ∈ wsX20, w ∈ wsX2_cellOf := by decide +kernel
  have hS0 := hS
  refine lv_iload_n hx hb dX2_cellOf_0 rfl (lv_at hl 1 rfl) ?_
  refine lv_aload_n hx hb dX2_cellOf_1 rfl (lv_at hl 0 rfl) ?_
  refine va_get (D := (dC, dI)) (ci := 2) (v := .int (S 0 1)) (C := RX2) (T := TX2) (N := 18) hx hb hts hinX2 hown hK hP 0 rfl rfl 1 (by decide) hf59 (fun _ h9 => h9) rfl dX2_cellOf_2 ?_
  refine lv_imul hx hb dX2_cellOf_5 ?_
  refine lv_iload_n hx hb dX2_cellOf_6 rfl (lv_at hl 2 rfl) ?_
  refine lv_iadd hx hb dX2_cellOf_7 ?_
  exact zI_ret hx hb hr hlocks hP hD hS rfl (by first | done | rfl) dX2_cellOf_8
set_option maxHeartbeats 4000000 in
set_option maxRecDepth 100000 in
theorem c_X2_bringWater (l : Launch) (dC : Nat → ClassId) (dI : Nat → Nat → Nat) (cI : ClassId) (a : Nat → Nat) (h w : Nat) (S : sS) (t f x : Int32) (hG0 : geo h w S) : zV l yX2_bringWater wsX2_bringWater { frames := 1, cells := 0, slots := 0, locals := 22 } (dC, dI) cI [.ref (a 0), .int t, .int f, .int x] (sW cI a S) (sW cI a (sl_bring S t f x)) := by
  refine zV_of (cc := cX2_bringWater) (maxL := 4) (ret := none) (by decide) rfl (Nat.le_of_ble_eq_true rfl) ?_
  intro p e s m below meth c A ls C0 hl
  obtain ⟨hx, hb, hr, hml, hown, hts, hlocks, hK, hN, hA, hP, hD, hS⟩ := C0
  have hown : s.vm.findClass RX2 = some m.cls := hown
  have hl : lv_has ls 4 [(0, .ref (a 0)), (1, .int t), (2, .int f), (3, .int x)] := hl
  have hf15 := hts (.fieldLink RX2 15 "PaddyTerraces$Slope" "depth" "[I") (by decide +kernel)
  have hf65 := hts (.fieldLink RX2 65 "PaddyTerraces$Slope" "brook" "I") (by decide +kernel)
  have hinX2 : ∀ w ∈ wsX20, w ∈ wsX2_bringWater := by decide +kernel
  have hS0 := hS
  have hN64 := geo_hw hG0
  have hW9 := geo_w hG0
  obtain ⟨-, -, hh2, hh8, hw2, hw8⟩ := id hG0
  refine lv_aload_n hx hb dX2_bringWater_0 rfl (lv_at hl 0 rfl) ?_
  refine lv_iload_n hx hb dX2_bringWater_1 rfl (lv_at hl 1 rfl) ?_
  refine lv_iload_n hx hb dX2_bringWater_2 rfl (lv_at hl 2 rfl) ?_
  refine zI_V (pre := ([] : va_W)) (wc := sW cI a S) (post := ([] : va_W)) (w1 := sW cI a S) ⟨hx, hb, hml, hown, hts⟩ (c_X2_hasField l dC dI cI a S t f) (cwV 2 hts gX2_bringWater_X2_hasField rfl rfl rfl (by decide +kernel) ⟨Nat.le_of_ble_eq_true rfl, Nat.le_of_ble_eq_true rfl⟩) (by simp only [List.append_assoc, List.append_nil, List.nil_append]) hK hN (ci := 2) (q0 := 0) rfl rfl rfl hP hD hS hA rfl hl.1 rfl (Nat.le_of_ble_eq_true rfl) dX2_bringWater_3 ⟨Nat.le_of_ble_eq_true rfl, Nat.le_of_ble_eq_true rfl⟩ (fun H locs hP hD hS => ?_)
  have hP : va_P (dC, dI) vwCl (sW cI a S) H := by simpa only [List.append_assoc, List.append_nil, List.nil_append] using hP
  have hD : va_D A (sW cI a S) := by simpa only [List.append_assoc, List.append_nil, List.nil_append] using hD
  refine lv_if_eq (tgt := 27) hx hb dX2_bringWater_6 (by decide) (fun c_1 => ?_) (fun c_1 => ?_)
  · refine lv_aload_n hx hb dX2_bringWater_27 rfl (lv_at hl 0 rfl) ?_
    refine lv_dup hx hb dX2_bringWater_28 rfl ?_
    refine va_get (D := (dC, dI)) (ci := 2) (v := .int (S 0 3)) (C := RX2) (T := TX2) (N := 18) hx hb hts hinX2 hown hK hP 0 rfl rfl 3 (by decide) hf65 (fun _ h9 => h9) rfl dX2_bringWater_29 ?_
    refine lv_iload_n hx hb dX2_bringWater_32 rfl (lv_at hl 3 rfl) ?_
    refine lv_iadd hx hb dX2_bringWater_33 ?_
    obtain ⟨S2, eS2⟩ : ∃ z : sS, z = s_put S 0 3 ((S 0 3) + x) := ⟨_, rfl⟩
    refine va_put (D := (dC, dI)) (ci := 2) (v := .int ((S 0 3) + x)) (ty := .int) (C := RX2) (T := TX2) (N := 18) hx hb hts hinX2 tyX2 tyX2_ok nmX2 hown hK hP hD hS 0 rfl rfl 3 (by decide) hf65 (fun _ h9 => h9) rfl (by decide +kernel) rfl rfl (Nat.le_of_ble_eq_true rfl) dX2_bringWater_34 (fun H locs hP hD hS => ?_)
    have hP : va_P (dC, dI) vwCl (sW cI a S2) H := by rw [eS2]; exact hP
    have hD : va_D A (sW cI a S2) := by rw [eS2]; exact hD
    have hGS2 : geo h w S2 := by rw [eS2]; exact geo_put hG0 (Or.inr (by decide)) _
    have hZ : S2 = sl_bring S t f x := (by (try rw [eS2]); first | done | rfl | (simp only [sl_bring, if_pos c_1]; done) | (unfold sl_bring; simp only [if_pos c_1]; done))
    rw [hZ] at hP hD
    exact zV_ret hx hb hr hlocks hP hD hS dX2_bringWater_37
  · refine lv_aload_n hx hb dX2_bringWater_9 rfl (lv_at hl 0 rfl) ?_
    refine va_get (D := (dC, dI)) (ci := 2) (v := .ref (a 2)) (C := RX2) (T := TX2) (N := 18) hx hb hts hinX2 hown hK hP 0 rfl rfl 6 (by decide) hf15 (fun _ h9 => h9) rfl dX2_bringWater_10 ?_
    refine lv_aload_n hx hb dX2_bringWater_13 rfl (lv_at hl 0 rfl) ?_
    refine lv_iload_n hx hb dX2_bringWater_14 rfl (lv_at hl 1 rfl) ?_
    refine lv_iload_n hx hb dX2_bringWater_15 rfl (lv_at hl 2 rfl) ?_
    refine zI_V (pre := ([] : va_W)) (wc := sW cI a S) (post := ([] : va_W)) (w1 := sW cI a S) ⟨hx, hb, hml, hown, hts⟩ (c_X2_cellOf l dC dI cI a S t f) (cwV 2 hts gX2_bringWater_X2_cellOf rfl rfl rfl (by decide +kernel) ⟨Nat.le_of_ble_eq_true rfl, Nat.le_of_ble_eq_true rfl⟩) (by simp only [List.append_assoc, List.append_nil, List.nil_append]) hK hN (ci := 2) (q0 := 0) rfl rfl rfl hP hD hS hA rfl hl.1 rfl (Nat.le_of_ble_eq_true rfl) dX2_bringWater_16 ⟨Nat.le_of_ble_eq_true rfl, Nat.le_of_ble_eq_true rfl⟩ (fun H locs hP hD hS => ?_)
    have hP : va_P (dC, dI) vwCl (sW cI a S) H := by simpa only [List.append_assoc, List.append_nil, List.nil_append] using hP
    have hD : va_D A (sW cI a S) := by simpa only [List.append_assoc, List.append_nil, List.nil_append] using hD
    refine lv_dup2_11 hx hb dX2_bringWater_19 rfl rfl ?_
    refine va_iald (cA := cI) (n := 64) (f := S 2) hx hb hK hP 2 0 rfl rfl (geo_in hG0 c_1) dX2_bringWater_20 ?_
    refine lv_iload_n hx hb dX2_bringWater_21 rfl (lv_at hl 3 rfl) ?_
    refine lv_iadd hx hb dX2_bringWater_22 ?_
    obtain ⟨S3, eS3⟩ : ∃ z : sS, z = s_put S 2 ((sl_at S t f).toNatClampNeg) ((S 2 (sl_at S t f).toNatClampNeg) + x) := ⟨_, rfl⟩
    refine va_iast (cA := cI) (n := 64) (f := S 2) hx hb hK hP hD hS 2 0 rfl rfl (geo_in hG0 c_1) dX2_bringWater_23 (fun H locs hP hD hS => ?_)
    have hP : va_P (dC, dI) vwCl (sW cI a S3) H := by rw [eS3]; exact hP
    have hD : va_D A (sW cI a S3) := by rw [eS3]; exact hD
    have hGS3 : geo h w S3 := by rw [eS3]; exact geo_put hG0 (Or.inl (by decide)) _
    refine lv_goto (tgt := 37) hx hb dX2_bringWater_24 (by decide) ?_
    have hZ : S3 = sl_bring S t f x := (by (try rw [eS3]); first | done | rfl | (simp only [sl_bring, if_neg c_1]; done) | (unfold sl_bring; simp only [if_neg c_1]; done))
    rw [hZ] at hP hD
    exact zV_ret hx hb hr hlocks hP hD hS dX2_bringWater_37
end
section
set_option maxHeartbeats 4000000 in
set_option maxRecDepth 100000 in
theorem c_X2_letFieldFlow (l : Launch) (dC : Nat → ClassId) (dI : Nat → Nat → Nat) (cI : ClassId) (a : Nat → Nat) (h w : Nat) (S : sS) (t f : Int32) (hG0 : geo h w S) (hH : ¬ sl_has S t f = 0) : zV l yX2_letFieldFlow wsX2_letFieldFlow { frames := 2, cells := 0, slots := 0, locals := 45 } (dC, dI) cI [.ref (a 0), .int t, .int f] (sW cI a S) (sW cI a (sl_flow S t f)) := by
  refine zV_of (cc := cX2_letFieldFlow) (maxL := 6) (ret := none) (by decide) rfl (Nat.le_of_ble_eq_true rfl) ?_
  intro p e s m below meth c A ls C0 hl
  obtain ⟨hx, hb, hr, hml, hown, hts, hlocks, hK, hN, hA, hP, hD, hS⟩ := C0
  have hown : s.vm.findClass RX2 = some m.cls := hown
  have hl : lv_has ls 6 [(0, .ref (a 0)), (1, .int t), (2, .int f)] := hl
  have hf15 := hts (.fieldLink RX2 15 "PaddyTerraces$Slope" "depth" "[I") (by decide +kernel)
  have hf18 := hts (.fieldLink RX2 18 "PaddyTerraces$Slope" "bank" "[I") (by decide +kernel)
  have hf24 := hts (.fieldLink RX2 24 "PaddyTerraces$Slope" "stone" "[I") (by decide +kernel)
  have hf27 := hts (.fieldLink RX2 27 "PaddyTerraces$Slope" "side" "[I") (by decide +kernel)
  have hf45 := hts (.fieldLink RX2 45 "PaddyTerraces$Slope" "wentOut" "[I") (by decide +kernel)
  have hf48 := hts (.fieldLink RX2 48 "PaddyTerraces$Slope" "spilled" "[I") (by decide +kernel)
  have hc_max := hts (.code Lib.Math.max.name Lib.Math.max.code 2 (some .int)) (by decide +kernel)
  have hc_min := hts (.code Lib.Math.min.name Lib.Math.min.code 2 (some .int)) (by decide +kernel)
  have hi_Math := hts (.initialized "java/lang/Math") (by decide +kernel)
  have hm132 := hts (.methodLink RX2 132 Lib.Math.max.name) (by decide +kernel)
  have hm137 := hts (.methodLink RX2 137 Lib.Math.min.name) (by decide +kernel)
  have hs_max := hts (.static Lib.Math.max.name) (by decide +kernel)
  have hs_min := hts (.static Lib.Math.min.name) (by decide +kernel)
  have hinX2 : ∀ w ∈ wsX20, w ∈ wsX2_letFieldFlow := by decide +kernel
  have hS0 := hS
  have hN64 := geo_hw hG0
  have hW9 := geo_w hG0
  obtain ⟨-, -, hh2, hh8, hw2, hw8⟩ := id hG0
  refine lv_aload_n hx hb dX2_letFieldFlow_0 rfl (lv_at hl 0 rfl) ?_
  refine lv_iload_n hx hb dX2_letFieldFlow_1 rfl (lv_at hl 1 rfl) ?_
  refine lv_iload_n hx hb dX2_letFieldFlow_2 rfl (lv_at hl 2 rfl) ?_
  refine zI_V (pre := ([] : va_W)) (wc := sW cI a S) (post := ([] : va_W)) (w1 := sW cI a S) ⟨hx, hb, hml, hown, hts⟩ (c_X2_cellOf l dC dI cI a S t f) (cwV 2 hts gX2_letFieldFlow_X2_cellOf rfl rfl rfl (by decide +kernel) ⟨Nat.le_of_ble_eq_true rfl, Nat.le_of_ble_eq_true rfl⟩) (by simp only [List.append_assoc, List.append_nil, List.nil_append]) hK hN (ci := 2) (q0 := 0) rfl rfl rfl hP hD hS hA rfl hl.1 rfl (Nat.le_of_ble_eq_true rfl) dX2_letFieldFlow_3 ⟨Nat.le_of_ble_eq_true rfl, Nat.le_of_ble_eq_true rfl⟩ (fun H locs hP hD hS => ?_)
  have hP : va_P (dC, dI) vwCl (sW cI a S) H := by simpa only [List.append_assoc, List.append_nil, List.nil_append] using hP
  have hD : va_D A (sW cI a S) := by simpa only [List.append_assoc, List.append_nil, List.nil_append] using hD
  refine lv_istore_n (lv' := [(3, .int (sl_at S t f)), (0, .ref (a 0)), (1, .int t), (2, .int f)]) hx hb dX2_letFieldFlow_6 rfl hl (by decide) rfl (fun ls hl => ?_)
  refine lv_aload_n hx hb dX2_letFieldFlow_7 rfl (lv_at hl 1 rfl) ?_
  refine va_get (D := (dC, dI)) (ci := 2) (v := .ref (a 2)) (C := RX2) (T := TX2) (N := 18) hx hb hts hinX2 hown hK hP 0 rfl rfl 6 (by decide) hf15 (fun _ h9 => h9) rfl dX2_letFieldFlow_8 ?_
  refine lv_iload_n hx hb dX2_letFieldFlow_11 rfl (lv_at hl 0 rfl) ?_
  refine va_iald (cA := cI) (n := 64) (f := S 2) hx hb hK hP 2 0 rfl rfl (geo_in hG0 hH) dX2_letFieldFlow_12 ?_
  refine lv_aload_n hx hb dX2_letFieldFlow_13 rfl (lv_at hl 1 rfl) ?_
  refine va_get (D := (dC, dI)) (ci := 2) (v := .ref (a 5)) (C := RX2) (T := TX2) (N := 18) hx hb hts hinX2 hown hK hP 0 rfl rfl 9 (by decide) hf24 (fun _ h9 => h9) rfl dX2_letFieldFlow_14 ?_
  refine lv_iload_n hx hb dX2_letFieldFlow_17 rfl (lv_at hl 0 rfl) ?_
  refine va_iald (cA := cI) (n := 64) (f := S 5) hx hb hK hP 5 0 rfl rfl (geo_in hG0 hH) dX2_letFieldFlow_18 ?_
  refine lv_isub hx hb dX2_letFieldFlow_19 ?_
  refine lv_iconst (v := 0) hx hb dX2_letFieldFlow_20 (by decide) ?_
  refine va_mmax hx hb (hml.trans hl.1.symm) hown hm132 hs_max hi_Math hc_max (Nat.le_of_ble_eq_true rfl) (Nat.le_of_ble_eq_true rfl) (Nat.le_of_ble_eq_true rfl) (Nat.le_of_ble_eq_true rfl) dX2_letFieldFlow_21 ?_
  refine lv_bipush (v := 40) hx hb dX2_letFieldFlow_24 (by decide) ?_
  refine va_mmin hx hb (hml.trans hl.1.symm) hown hm137 hs_min hi_Math hc_min (Nat.le_of_ble_eq_true rfl) (Nat.le_of_ble_eq_true rfl) (Nat.le_of_ble_eq_true rfl) (Nat.le_of_ble_eq_true rfl) dX2_letFieldFlow_26 ?_
  refine lv_istore (lv' := [(4, .int (zmin (zmax ((S 2 (sl_at S t f).toNatClampNeg) - (S 5 (sl_at S t f).toNatClampNeg)) 0) 40)), (3, .int (sl_at S t f)), (0, .ref (a 0)), (1, .int t), (2, .int f)]) hx hb dX2_letFieldFlow_29 hl (by decide) rfl (fun ls hl => ?_)
  refine lv_aload_n hx hb dX2_letFieldFlow_31 rfl (lv_at hl 2 rfl) ?_
  refine va_get (D := (dC, dI)) (ci := 2) (v := .ref (a 12)) (C := RX2) (T := TX2) (N := 18) hx hb hts hinX2 hown hK hP 0 rfl rfl 16 (by decide) hf45 (fun _ h9 => h9) rfl dX2_letFieldFlow_32 ?_
  refine lv_iload_n hx hb dX2_letFieldFlow_35 rfl (lv_at hl 1 rfl) ?_
  refine lv_iload hx hb dX2_letFieldFlow_36 (lv_at hl 0 rfl) ?_
  obtain ⟨S1, eS1⟩ : ∃ z : sS, z = s_put S 12 ((sl_at S t f).toNatClampNeg) (zmin (zmax ((S 2 (sl_at S t f).toNatClampNeg) - (S 5 (sl_at S t f).toNatClampNeg)) 0) 40) := ⟨_, rfl⟩
  refine va_iast (cA := cI) (n := 64) (f := S 12) hx hb hK hP hD hS 12 0 rfl rfl (geo_in hG0 hH) dX2_letFieldFlow_38 (fun H locs hP hD hS => ?_)
  have hP : va_P (dC, dI) vwCl (sW cI a S1) H := by rw [eS1]; exact hP
  have hD : va_D A (sW cI a S1) := by rw [eS1]; exact hD
  have hGS1 : geo h w S1 := by rw [eS1]; exact geo_put hG0 (Or.inl (by decide)) _
  refine lv_aload_n hx hb dX2_letFieldFlow_39 rfl (lv_at hl 2 rfl) ?_
  refine va_get (D := (dC, dI)) (ci := 2) (v := .ref (a 2)) (C := RX2) (T := TX2) (N := 18) hx hb hts hinX2 hown hK hP 0 rfl rfl 6 (by decide) hf15 (fun _ h9 => h9) rfl dX2_letFieldFlow_40 ?_
  refine lv_iload_n hx hb dX2_letFieldFlow_43 rfl (lv_at hl 1 rfl) ?_
  refine lv_dup2_11 hx hb dX2_letFieldFlow_44 rfl rfl ?_
  refine va_iald (cA := cI) (n := 64) (f := S1 2) hx hb hK hP 2 0 rfl rfl (geo_in hG0 hH) dX2_letFieldFlow_45 ?_
  refine lv_iload hx hb dX2_letFieldFlow_46 (lv_at hl 0 rfl) ?_
  refine lv_isub hx hb dX2_letFieldFlow_48 ?_
  obtain ⟨S2, eS2⟩ : ∃ z : sS, z = s_put S1 2 ((sl_at S t f).toNatClampNeg) ((S1 2 (sl_at S t f).toNatClampNeg) - (zmin (zmax ((S 2 (sl_at S t f).toNatClampNeg) - (S 5 (sl_at S t f).toNatClampNeg)) 0) 40)) := ⟨_, rfl⟩
  refine va_iast (cA := cI) (n := 64) (f := S1 2) hx hb hK hP hD hS 2 0 rfl rfl (geo_in hG0 hH) dX2_letFieldFlow_49 (fun H locs hP hD hS => ?_)
  have hP : va_P (dC, dI) vwCl (sW cI a S2) H := by rw [eS2]; exact hP
  have hD : va_D A (sW cI a S2) := by rw [eS2]; exact hD
  have hGS2 : geo h w S2 := by rw [eS2]; exact geo_put hGS1 (Or.inl (by decide)) _
  refine lv_aload_n hx hb dX2_letFieldFlow_50 rfl (lv_at hl 2 rfl) ?_
  refine lv_iload_n hx hb dX2_letFieldFlow_51 rfl (lv_at hl 3 rfl) ?_
  refine lv_iconst (v := 1) hx hb dX2_letFieldFlow_52 (by decide) ?_
  refine lv_iadd hx hb dX2_letFieldFlow_53 ?_
  refine lv_iload_n hx hb dX2_letFieldFlow_54 rfl (lv_at hl 4 rfl) ?_
  refine lv_aload_n hx hb dX2_letFieldFlow_55 rfl (lv_at hl 2 rfl) ?_
  refine va_get (D := (dC, dI)) (ci := 2) (v := .ref (a 6)) (C := RX2) (T := TX2) (N := 18) hx hb hts hinX2 hown hK hP 0 rfl rfl 10 (by decide) hf27 (fun _ h9 => h9) rfl dX2_letFieldFlow_56 ?_
  refine lv_iload_n hx hb dX2_letFieldFlow_59 rfl (lv_at hl 1 rfl) ?_
  refine va_iald (cA := cI) (n := 64) (f := S2 6) hx hb hK hP 6 0 rfl rfl (geo_in hG0 hH) dX2_letFieldFlow_60 ?_
  refine lv_iadd hx hb dX2_letFieldFlow_61 ?_
  refine lv_iload hx hb dX2_letFieldFlow_62 (lv_at hl 0 rfl) ?_
  obtain ⟨S3, eS3⟩ : ∃ z : sS, z = sl_bring S2 (t + 1) (f + (S2 6 (sl_at S t f).toNatClampNeg)) (zmin (zmax ((S 2 (sl_at S t f).toNatClampNeg) - (S 5 (sl_at S t f).toNatClampNeg)) 0) 40) := ⟨_, rfl⟩
  refine zV_V (pre := ([] : va_W)) (wc := sW cI a S2) (post := ([] : va_W)) (w1 := sW cI a S3) ⟨hx, hb, hml, hown, hts⟩ (by rw [eS3]; exact c_X2_bringWater l dC dI cI a h w S2 (t + 1) (f + (S2 6 (sl_at S t f).toNatClampNeg)) (zmin (zmax ((S 2 (sl_at S t f).toNatClampNeg) - (S 5 (sl_at S t f).toNatClampNeg)) 0) 40) hGS2) (cwV 3 hts gX2_letFieldFlow_X2_bringWater rfl rfl rfl (by decide +kernel) ⟨Nat.le_of_ble_eq_true rfl, Nat.le_of_ble_eq_true rfl⟩) (by simp only [List.append_assoc, List.append_nil, List.nil_append]) hK hN (ci := 2) (q0 := 0) rfl rfl rfl hP hD hS hA rfl hl.1 rfl (Nat.le_of_ble_eq_true rfl) dX2_letFieldFlow_64 ⟨Nat.le_of_ble_eq_true rfl, Nat.le_of_ble_eq_true rfl⟩ (fun H locs hP hD hS => ?_)
  have hP : va_P (dC, dI) vwCl (sW cI a S3) H := by simpa only [List.append_assoc, List.append_nil, List.nil_append] using hP
  have hD : va_D A (sW cI a S3) := by simpa only [List.append_assoc, List.append_nil, List.nil_append] using hD
  have hGS3 : geo h w S3 := by rw [eS3]; exact geo_sam hGS2 (sam_bring S2 (t + 1) (f + (S2 6 (sl_at S t f).toNatClampNeg)) (zmin (zmax ((S 2 (sl_at S t f).toNatClampNeg) - (S 5 (sl_at S t f).toNatClampNeg)) 0) 40))
  refine lv_aload_n hx hb dX2_letFieldFlow_67 rfl (lv_at hl 2 rfl) ?_
  refine va_get (D := (dC, dI)) (ci := 2) (v := .ref (a 2)) (C := RX2) (T := TX2) (N := 18) hx hb hts hinX2 hown hK hP 0 rfl rfl 6 (by decide) hf15 (fun _ h9 => h9) rfl dX2_letFieldFlow_68 ?_
  refine lv_iload_n hx hb dX2_letFieldFlow_71 rfl (lv_at hl 1 rfl) ?_
  refine va_iald (cA := cI) (n := 64) (f := S3 2) hx hb hK hP 2 0 rfl rfl (geo_in hG0 hH) dX2_letFieldFlow_72 ?_
  refine lv_aload_n hx hb dX2_letFieldFlow_73 rfl (lv_at hl 2 rfl) ?_
  refine va_get (D := (dC, dI)) (ci := 2) (v := .ref (a 3)) (C := RX2) (T := TX2) (N := 18) hx hb hts hinX2 hown hK hP 0 rfl rfl 7 (by decide) hf18 (fun _ h9 => h9) rfl dX2_letFieldFlow_74 ?_
  refine lv_iload_n hx hb dX2_letFieldFlow_77 rfl (lv_at hl 1 rfl) ?_
  refine va_iald (cA := cI) (n := 64) (f := S3 3) hx hb hK hP 3 0 rfl rfl (geo_in hG0 hH) dX2_letFieldFlow_78 ?_
  refine lv_isub hx hb dX2_letFieldFlow_79 ?_
  refine lv_iconst (v := 0) hx hb dX2_letFieldFlow_80 (by decide) ?_
  refine va_mmax hx hb (hml.trans hl.1.symm) hown hm132 hs_max hi_Math hc_max (Nat.le_of_ble_eq_true rfl) (Nat.le_of_ble_eq_true rfl) (Nat.le_of_ble_eq_true rfl) (Nat.le_of_ble_eq_true rfl) dX2_letFieldFlow_81 ?_
  refine lv_istore (lv' := [(5, .int (zmax ((S3 2 (sl_at S t f).toNatClampNeg) - (S3 3 (sl_at S t f).toNatClampNeg)) 0)), (4, .int (zmin (zmax ((S 2 (sl_at S t f).toNatClampNeg) - (S 5 (sl_at S t f).toNatClampNeg)) 0) 40)), (3, .int (sl_at S t f)), (0, .ref (a 0)), (1, .int t), (2, .int f)]) hx hb dX2_letFieldFlow_84 hl (by decide) rfl (fun ls hl => ?_)
  refine lv_aload_n hx hb dX2_letFieldFlow_86 rfl (lv_at hl 3 rfl) ?_
  refine va_get (D := (dC, dI)) (ci := 2) (v := .ref (a 13)) (C := RX2) (T := TX2) (N := 18) hx hb hts hinX2 hown hK hP 0 rfl rfl 17 (by decide) hf48 (fun _ h9 => h9) rfl dX2_letFieldFlow_87 ?_
  refine lv_iload_n hx hb dX2_letFieldFlow_90 rfl (lv_at hl 2 rfl) ?_
  refine lv_iload hx hb dX2_letFieldFlow_91 (lv_at hl 0 rfl) ?_
  obtain ⟨S4, eS4⟩ : ∃ z : sS, z = s_put S3 13 ((sl_at S t f).toNatClampNeg) (zmax ((S3 2 (sl_at S t f).toNatClampNeg) - (S3 3 (sl_at S t f).toNatClampNeg)) 0) := ⟨_, rfl⟩
  refine va_iast (cA := cI) (n := 64) (f := S3 13) hx hb hK hP hD hS 13 0 rfl rfl (geo_in hG0 hH) dX2_letFieldFlow_93 (fun H locs hP hD hS => ?_)
  have hP : va_P (dC, dI) vwCl (sW cI a S4) H := by rw [eS4]; exact hP
  have hD : va_D A (sW cI a S4) := by rw [eS4]; exact hD
  have hGS4 : geo h w S4 := by rw [eS4]; exact geo_put hGS3 (Or.inl (by decide)) _
  refine lv_aload_n hx hb dX2_letFieldFlow_94 rfl (lv_at hl 3 rfl) ?_
  refine va_get (D := (dC, dI)) (ci := 2) (v := .ref (a 2)) (C := RX2) (T := TX2) (N := 18) hx hb hts hinX2 hown hK hP 0 rfl rfl 6 (by decide) hf15 (fun _ h9 => h9) rfl dX2_letFieldFlow_95 ?_
  refine lv_iload_n hx hb dX2_letFieldFlow_98 rfl (lv_at hl 2 rfl) ?_
  refine lv_dup2_11 hx hb dX2_letFieldFlow_99 rfl rfl ?_
  refine va_iald (cA := cI) (n := 64) (f := S4 2) hx hb hK hP 2 0 rfl rfl (geo_in hG0 hH) dX2_letFieldFlow_100 ?_
  refine lv_iload hx hb dX2_letFieldFlow_101 (lv_at hl 0 rfl) ?_
  refine lv_isub hx hb dX2_letFieldFlow_103 ?_
  obtain ⟨S5, eS5⟩ : ∃ z : sS, z = s_put S4 2 ((sl_at S t f).toNatClampNeg) ((S4 2 (sl_at S t f).toNatClampNeg) - (zmax ((S3 2 (sl_at S t f).toNatClampNeg) - (S3 3 (sl_at S t f).toNatClampNeg)) 0)) := ⟨_, rfl⟩
  refine va_iast (cA := cI) (n := 64) (f := S4 2) hx hb hK hP hD hS 2 0 rfl rfl (geo_in hG0 hH) dX2_letFieldFlow_104 (fun H locs hP hD hS => ?_)
  have hP : va_P (dC, dI) vwCl (sW cI a S5) H := by rw [eS5]; exact hP
  have hD : va_D A (sW cI a S5) := by rw [eS5]; exact hD
  have hGS5 : geo h w S5 := by rw [eS5]; exact geo_put hGS4 (Or.inl (by decide)) _
  refine lv_aload_n hx hb dX2_letFieldFlow_105 rfl (lv_at hl 3 rfl) ?_
  refine lv_iload_n hx hb dX2_letFieldFlow_106 rfl (lv_at hl 4 rfl) ?_
  refine lv_iload_n hx hb dX2_letFieldFlow_107 rfl (lv_at hl 5 rfl) ?_
  refine lv_iconst (v := 1) hx hb dX2_letFieldFlow_108 (by decide) ?_
  refine lv_isub hx hb dX2_letFieldFlow_109 ?_
  refine lv_iload hx hb dX2_letFieldFlow_110 (lv_at hl 0 rfl) ?_
  refine lv_iconst (v := 2) hx hb dX2_letFieldFlow_112 (by decide) ?_
  refine lv_idiv hx hb dX2_letFieldFlow_113 (by decide) ?_
  obtain ⟨S6, eS6⟩ : ∃ z : sS, z = sl_bring S5 t (f - 1) ((zmax ((S3 2 (sl_at S t f).toNatClampNeg) - (S3 3 (sl_at S t f).toNatClampNeg)) 0) / 2) := ⟨_, rfl⟩
  refine zV_V (pre := ([] : va_W)) (wc := sW cI a S5) (post := ([] : va_W)) (w1 := sW cI a S6) ⟨hx, hb, hml, hown, hts⟩ (by rw [eS6]; exact c_X2_bringWater l dC dI cI a h w S5 t (f - 1) ((zmax ((S3 2 (sl_at S t f).toNatClampNeg) - (S3 3 (sl_at S t f).toNatClampNeg)) 0) / 2) hGS5) (cwV 3 hts gX2_letFieldFlow_X2_bringWater rfl rfl rfl (by decide +kernel) ⟨Nat.le_of_ble_eq_true rfl, Nat.le_of_ble_eq_true rfl⟩) (by simp only [List.append_assoc, List.append_nil, List.nil_append]) hK hN (ci := 2) (q0 := 0) rfl rfl rfl hP hD hS hA rfl hl.1 rfl (Nat.le_of_ble_eq_true rfl) dX2_letFieldFlow_114 ⟨Nat.le_of_ble_eq_true rfl, Nat.le_of_ble_eq_true rfl⟩ (fun H locs hP hD hS => ?_)
  have hP : va_P (dC, dI) vwCl (sW cI a S6) H := by simpa only [List.append_assoc, List.append_nil, List.nil_append] using hP
  have hD : va_D A (sW cI a S6) := by simpa only [List.append_assoc, List.append_nil, List.nil_append] using hD
  have hGS6 : geo h w S6 := by rw [eS6]; exact geo_sam hGS5 (sam_bring S5 t (f - 1) ((zmax ((S3 2 (sl_at S t f).toNatClampNeg) - (S3 3 (sl_at S t f).toNatClampNeg)) 0) / 2))
  refine lv_aload_n hx hb dX2_letFieldFlow_117 rfl (lv_at hl 3 rfl) ?_
  refine lv_iload_n hx hb dX2_letFieldFlow_118 rfl (lv_at hl 4 rfl) ?_
  refine lv_iload_n hx hb dX2_letFieldFlow_119 rfl (lv_at hl 5 rfl) ?_
  refine lv_iconst (v := 1) hx hb dX2_letFieldFlow_120 (by decide) ?_
  refine lv_iadd hx hb dX2_letFieldFlow_121 ?_
  refine lv_iload hx hb dX2_letFieldFlow_122 (lv_at hl 0 rfl) ?_
  refine lv_iload hx hb dX2_letFieldFlow_124 (lv_at hl 0 rfl) ?_
  refine lv_iconst (v := 2) hx hb dX2_letFieldFlow_126 (by decide) ?_
  refine lv_idiv hx hb dX2_letFieldFlow_127 (by decide) ?_
  refine lv_isub hx hb dX2_letFieldFlow_128 ?_
  obtain ⟨S7, eS7⟩ : ∃ z : sS, z = sl_bring S6 t (f + 1) ((zmax ((S3 2 (sl_at S t f).toNatClampNeg) - (S3 3 (sl_at S t f).toNatClampNeg)) 0) - ((zmax ((S3 2 (sl_at S t f).toNatClampNeg) - (S3 3 (sl_at S t f).toNatClampNeg)) 0) / 2)) := ⟨_, rfl⟩
  refine zV_V (pre := ([] : va_W)) (wc := sW cI a S6) (post := ([] : va_W)) (w1 := sW cI a S7) ⟨hx, hb, hml, hown, hts⟩ (by rw [eS7]; exact c_X2_bringWater l dC dI cI a h w S6 t (f + 1) ((zmax ((S3 2 (sl_at S t f).toNatClampNeg) - (S3 3 (sl_at S t f).toNatClampNeg)) 0) - ((zmax ((S3 2 (sl_at S t f).toNatClampNeg) - (S3 3 (sl_at S t f).toNatClampNeg)) 0) / 2)) hGS6) (cwV 3 hts gX2_letFieldFlow_X2_bringWater rfl rfl rfl (by decide +kernel) ⟨Nat.le_of_ble_eq_true rfl, Nat.le_of_ble_eq_true rfl⟩) (by simp only [List.append_assoc, List.append_nil, List.nil_append]) hK hN (ci := 2) (q0 := 0) rfl rfl rfl hP hD hS hA rfl hl.1 rfl (Nat.le_of_ble_eq_true rfl) dX2_letFieldFlow_129 ⟨Nat.le_of_ble_eq_true rfl, Nat.le_of_ble_eq_true rfl⟩ (fun H locs hP hD hS => ?_)
  have hP : va_P (dC, dI) vwCl (sW cI a S7) H := by simpa only [List.append_assoc, List.append_nil, List.nil_append] using hP
  have hD : va_D A (sW cI a S7) := by simpa only [List.append_assoc, List.append_nil, List.nil_append] using hD
  have hGS7 : geo h w S7 := by rw [eS7]; exact geo_sam hGS6 (sam_bring S6 t (f + 1) ((zmax ((S3 2 (sl_at S t f).toNatClampNeg) - (S3 3 (sl_at S t f).toNatClampNeg)) 0) - ((zmax ((S3 2 (sl_at S t f).toNatClampNeg) - (S3 3 (sl_at S t f).toNatClampNeg)) 0) / 2)))
  have hZ : S7 = sl_flow S t f := (by (try rw [eS7]); (try rw [eS6]); (try rw [eS5]); (try rw [eS4]); (try rw [eS3]); (try rw [eS2]); (try rw [eS1]); first | done | rfl | (simp only [sl_flow, sl_flowA, sl_flowB, sl_flow1, sl_flow2, sl_out, sl_over]; done))
  rw [hZ] at hP hD
  exact zV_ret hx hb hr hlocks hP hD hS dX2_letFieldFlow_132
end
section
set_option maxHeartbeats 4000000 in
set_option maxRecDepth 100000 in
theorem c_X2_sumOf_7 (l : Launch) (dC : Nat → ClassId) (dI : Nat → Nat → Nat) (cI : ClassId) (a : Nat → Nat) (h w : Nat) (S : sS) (hG0 : geo h w S) : zI l yX2_sumOf wsX2_sumOf { frames := 1, cells := 0, slots := 0, locals := 20 } (dC, dI) cI [.ref (a 0), .ref (a 7)] (sW cI a S) (sW cI a S) (sl_sum h w S 7) := by
  refine zI_of (cc := cX2_sumOf) (maxL := 4) (ret := (some .int)) (by decide) rfl (Nat.le_of_ble_eq_true rfl) ?_
  intro p e s m below meth c A ls C0 hl
  obtain ⟨hx, hb, hr, hml, hown, hts, hlocks, hK, hN, hA, hP, hD, hS⟩ := C0
  have hown : s.vm.findClass RX2 = some m.cls := hown
  have hl : lv_has ls 4 [(0, .ref (a 0)), (1, .ref (a 7))] := hl
  have hS0 := hS
  have hN64 := geo_hw hG0
  have hW9 := geo_w hG0
  obtain ⟨-, -, hh2, hh8, hw2, hw8⟩ := id hG0
  refine lv_iconst (v := 0) hx hb dX2_sumOf_0 (by decide) ?_
  refine lv_istore_n (lv' := [(2, .int 0), (0, .ref (a 0)), (1, .ref (a 7))]) hx hb dX2_sumOf_1 rfl hl (by decide) rfl (fun ls hl => ?_)
  refine lv_iconst (v := 0) hx hb dX2_sumOf_2 (by decide) ?_
  refine lv_istore_n (lv' := [(3, .int 0), (2, .int 0), (0, .ref (a 0)), (1, .ref (a 7))]) hx hb dX2_sumOf_3 rfl hl (by decide) rfl (fun ls hl => ?_)
  have lp4 : ∀ (n4 i4 : Nat) (u4_2 : Int32) (H : Heap) (locs : List Loc) (ls : Array Slot), i4 + n4 = h * w → u4_2 = itr (fun i x => x + S 7 i.toNatClampNeg) i4 0 → va_P (dC, dI) vwCl (sW cI a S) H → va_D A (sW cI a S) → va_S A s.heap H locs → lv_has ls 4 [(0, .ref (a 0)), (1, .ref (a 7)), (2, .int u4_2), (3, .int (nI i4))] → W p l e ({ frames := 1, cells := 0, slots := 0, locals := 20 } : Room) s m [.ref (a 0), .ref (a 7)].toArray below meth c H locs 0 0 (zIq (dC, dI) A (sW cI a S) (sl_sum h w S 7) below [.ref (a 0), .ref (a 7)].toArray s 0 0) (F0 m 4 ls []) := by
    intro n4
    induction n4 with
    | zero =>
      intro i4 u4_2 H locs ls hi4 eu4_2 hP hD hS hl
      have hi4 : i4 = h * w := by omega
      rw [hi4] at eu4_2
      refine lv_iload_n hx hb dX2_sumOf_4 rfl (lv_at hl 3 rfl) ?_
      refine lv_aload_n hx hb dX2_sumOf_5 rfl (lv_at hl 0 rfl) ?_
      refine zI_V (pre := ([] : va_W)) (wc := sW cI a S) (post := ([] : va_W)) (w1 := sW cI a S) ⟨hx, hb, hml, hown, hts⟩ (c_X2_cells l dC dI cI a S) (cwV 0 hts gX2_sumOf_X2_cells rfl rfl rfl (by decide +kernel) ⟨Nat.le_of_ble_eq_true rfl, Nat.le_of_ble_eq_true rfl⟩) (by simp only [List.append_assoc, List.append_nil, List.nil_append]) hK hN (ci := 2) (q0 := 0) rfl rfl rfl hP hD hS hA rfl hl.1 rfl (Nat.le_of_ble_eq_true rfl) dX2_sumOf_6 ⟨Nat.le_of_ble_eq_true rfl, Nat.le_of_ble_eq_true rfl⟩ (fun H locs hP hD hS => ?_)
      have hP : va_P (dC, dI) vwCl (sW cI a S) H := by simpa only [List.append_assoc, List.append_nil, List.nil_append] using hP
      have hD : va_D A (sW cI a S) := by simpa only [List.append_assoc, List.append_nil, List.nil_append] using hD
      refine lv_icmp_ge (tgt := 24) hx hb dX2_sumOf_9 (by decide) (fun c_1 => ?_) (fun c_1 => ?_)
      · refine lv_iload_n hx hb dX2_sumOf_24 rfl (lv_at hl 2 rfl) ?_
        exact zI_ret hx hb hr hlocks hP hD hS rfl (by (try rw [eu4_2]); first | done | rfl | (simp only [sl_sum, if_pos c_1]; done)) dX2_sumOf_25
      · exact absurd (by rw [show _ = nI (h * w) from (geo_cells hG0)]; exact nI_le (by omega) (by omega)) c_1
    | succ n4 ih4 =>
      intro i4 u4_2 H locs ls hi4 eu4_2 hP hD hS hl
      refine lv_iload_n hx hb dX2_sumOf_4 rfl (lv_at hl 3 rfl) ?_
      refine lv_aload_n hx hb dX2_sumOf_5 rfl (lv_at hl 0 rfl) ?_
      refine zI_V (pre := ([] : va_W)) (wc := sW cI a S) (post := ([] : va_W)) (w1 := sW cI a S) ⟨hx, hb, hml, hown, hts⟩ (c_X2_cells l dC dI cI a S) (cwV 0 hts gX2_sumOf_X2_cells rfl rfl rfl (by decide +kernel) ⟨Nat.le_of_ble_eq_true rfl, Nat.le_of_ble_eq_true rfl⟩) (by simp only [List.append_assoc, List.append_nil, List.nil_append]) hK hN (ci := 2) (q0 := 0) rfl rfl rfl hP hD hS hA rfl hl.1 rfl (Nat.le_of_ble_eq_true rfl) dX2_sumOf_6 ⟨Nat.le_of_ble_eq_true rfl, Nat.le_of_ble_eq_true rfl⟩ (fun H locs hP hD hS => ?_)
      have hP : va_P (dC, dI) vwCl (sW cI a S) H := by simpa only [List.append_assoc, List.append_nil, List.nil_append] using hP
      have hD : va_D A (sW cI a S) := by simpa only [List.append_assoc, List.append_nil, List.nil_append] using hD
      refine lv_icmp_ge (tgt := 24) hx hb dX2_sumOf_9 (by decide) (fun c_2 => ?_) (fun c_2 => ?_)
      · exact absurd c_2 (by rw [show _ = nI (h * w) from (geo_cells hG0)]; exact nI_ge (by omega) (by omega))
      · refine lv_iload_n hx hb dX2_sumOf_12 rfl (lv_at hl 2 rfl) ?_
        refine lv_aload_n hx hb dX2_sumOf_13 rfl (lv_at hl 1 rfl) ?_
        refine lv_iload_n hx hb dX2_sumOf_14 rfl (lv_at hl 3 rfl) ?_
        refine va_iald (cA := cI) (n := 64) (f := S 7) hx hb hK hP 7 0 rfl rfl (vp_in_nI (by omega) (by decide)) dX2_sumOf_15 ?_
        refine lv_iadd hx hb dX2_sumOf_16 ?_
        refine lv_istore_n (lv' := [(2, .int (u4_2 + (S 7 (nI i4).toNatClampNeg))), (0, .ref (a 0)), (1, .ref (a 7)), (3, .int (nI i4))]) hx hb dX2_sumOf_17 rfl hl (by decide) rfl (fun ls hl => ?_)
        refine lv_iinc (v := nI (i4 + 1)) (lv' := [(3, .int (nI (i4 + 1))), (2, .int (u4_2 + (S 7 (nI i4).toNatClampNeg))), (0, .ref (a 0)), (1, .ref (a 7))]) hx hb dX2_sumOf_18 hl (k := 3) rfl (show nI i4 + Int32.ofInt 1 = nI (i4 + 1) from nI_1 i4) (by decide) rfl (fun ls hl => ?_)
        refine lv_goto (tgt := 4) hx hb dX2_sumOf_21 (by decide) ?_
        exact ih4 (i4 + 1) (u4_2 + (S 7 (nI i4).toNatClampNeg)) _ _ ls (by omega) (by (try rw [eu4_2]); rfl) hP hD hS (lv_sub hl [2, 3, 1, 0] rfl)
  exact lp4 (h * w) 0 0 _ _ ls (by omega) rfl hP hD hS (lv_sub hl [2, 3, 1, 0] rfl)
set_option maxHeartbeats 4000000 in
set_option maxRecDepth 100000 in
theorem c_X2_sumOf_9 (l : Launch) (dC : Nat → ClassId) (dI : Nat → Nat → Nat) (cI : ClassId) (a : Nat → Nat) (h w : Nat) (S : sS) (hG0 : geo h w S) : zI l yX2_sumOf wsX2_sumOf { frames := 1, cells := 0, slots := 0, locals := 20 } (dC, dI) cI [.ref (a 0), .ref (a 9)] (sW cI a S) (sW cI a S) (sl_sum h w S 9) := by
  refine zI_of (cc := cX2_sumOf) (maxL := 4) (ret := (some .int)) (by decide) rfl (Nat.le_of_ble_eq_true rfl) ?_
  intro p e s m below meth c A ls C0 hl
  obtain ⟨hx, hb, hr, hml, hown, hts, hlocks, hK, hN, hA, hP, hD, hS⟩ := C0
  have hown : s.vm.findClass RX2 = some m.cls := hown
  have hl : lv_has ls 4 [(0, .ref (a 0)), (1, .ref (a 9))] := hl
  have hS0 := hS
  have hN64 := geo_hw hG0
  have hW9 := geo_w hG0
  obtain ⟨-, -, hh2, hh8, hw2, hw8⟩ := id hG0
  refine lv_iconst (v := 0) hx hb dX2_sumOf_0 (by decide) ?_
  refine lv_istore_n (lv' := [(2, .int 0), (0, .ref (a 0)), (1, .ref (a 9))]) hx hb dX2_sumOf_1 rfl hl (by decide) rfl (fun ls hl => ?_)
  refine lv_iconst (v := 0) hx hb dX2_sumOf_2 (by decide) ?_
  refine lv_istore_n (lv' := [(3, .int 0), (2, .int 0), (0, .ref (a 0)), (1, .ref (a 9))]) hx hb dX2_sumOf_3 rfl hl (by decide) rfl (fun ls hl => ?_)
  have lp4 : ∀ (n4 i4 : Nat) (u4_2 : Int32) (H : Heap) (locs : List Loc) (ls : Array Slot), i4 + n4 = h * w → u4_2 = itr (fun i x => x + S 9 i.toNatClampNeg) i4 0 → va_P (dC, dI) vwCl (sW cI a S) H → va_D A (sW cI a S) → va_S A s.heap H locs → lv_has ls 4 [(0, .ref (a 0)), (1, .ref (a 9)), (2, .int u4_2), (3, .int (nI i4))] → W p l e ({ frames := 1, cells := 0, slots := 0, locals := 20 } : Room) s m [.ref (a 0), .ref (a 9)].toArray below meth c H locs 0 0 (zIq (dC, dI) A (sW cI a S) (sl_sum h w S 9) below [.ref (a 0), .ref (a 9)].toArray s 0 0) (F0 m 4 ls []) := by
    intro n4
    induction n4 with
    | zero =>
      intro i4 u4_2 H locs ls hi4 eu4_2 hP hD hS hl
      have hi4 : i4 = h * w := by omega
      rw [hi4] at eu4_2
      refine lv_iload_n hx hb dX2_sumOf_4 rfl (lv_at hl 3 rfl) ?_
      refine lv_aload_n hx hb dX2_sumOf_5 rfl (lv_at hl 0 rfl) ?_
      refine zI_V (pre := ([] : va_W)) (wc := sW cI a S) (post := ([] : va_W)) (w1 := sW cI a S) ⟨hx, hb, hml, hown, hts⟩ (c_X2_cells l dC dI cI a S) (cwV 0 hts gX2_sumOf_X2_cells rfl rfl rfl (by decide +kernel) ⟨Nat.le_of_ble_eq_true rfl, Nat.le_of_ble_eq_true rfl⟩) (by simp only [List.append_assoc, List.append_nil, List.nil_append]) hK hN (ci := 2) (q0 := 0) rfl rfl rfl hP hD hS hA rfl hl.1 rfl (Nat.le_of_ble_eq_true rfl) dX2_sumOf_6 ⟨Nat.le_of_ble_eq_true rfl, Nat.le_of_ble_eq_true rfl⟩ (fun H locs hP hD hS => ?_)
      have hP : va_P (dC, dI) vwCl (sW cI a S) H := by simpa only [List.append_assoc, List.append_nil, List.nil_append] using hP
      have hD : va_D A (sW cI a S) := by simpa only [List.append_assoc, List.append_nil, List.nil_append] using hD
      refine lv_icmp_ge (tgt := 24) hx hb dX2_sumOf_9 (by decide) (fun c_1 => ?_) (fun c_1 => ?_)
      · refine lv_iload_n hx hb dX2_sumOf_24 rfl (lv_at hl 2 rfl) ?_
        exact zI_ret hx hb hr hlocks hP hD hS rfl (by (try rw [eu4_2]); first | done | rfl | (simp only [sl_sum, if_pos c_1]; done)) dX2_sumOf_25
      · exact absurd (by rw [show _ = nI (h * w) from (geo_cells hG0)]; exact nI_le (by omega) (by omega)) c_1
    | succ n4 ih4 =>
      intro i4 u4_2 H locs ls hi4 eu4_2 hP hD hS hl
      refine lv_iload_n hx hb dX2_sumOf_4 rfl (lv_at hl 3 rfl) ?_
      refine lv_aload_n hx hb dX2_sumOf_5 rfl (lv_at hl 0 rfl) ?_
      refine zI_V (pre := ([] : va_W)) (wc := sW cI a S) (post := ([] : va_W)) (w1 := sW cI a S) ⟨hx, hb, hml, hown, hts⟩ (c_X2_cells l dC dI cI a S) (cwV 0 hts gX2_sumOf_X2_cells rfl rfl rfl (by decide +kernel) ⟨Nat.le_of_ble_eq_true rfl, Nat.le_of_ble_eq_true rfl⟩) (by simp only [List.append_assoc, List.append_nil, List.nil_append]) hK hN (ci := 2) (q0 := 0) rfl rfl rfl hP hD hS hA rfl hl.1 rfl (Nat.le_of_ble_eq_true rfl) dX2_sumOf_6 ⟨Nat.le_of_ble_eq_true rfl, Nat.le_of_ble_eq_true rfl⟩ (fun H locs hP hD hS => ?_)
      have hP : va_P (dC, dI) vwCl (sW cI a S) H := by simpa only [List.append_assoc, List.append_nil, List.nil_append] using hP
      have hD : va_D A (sW cI a S) := by simpa only [List.append_assoc, List.append_nil, List.nil_append] using hD
      refine lv_icmp_ge (tgt := 24) hx hb dX2_sumOf_9 (by decide) (fun c_2 => ?_) (fun c_2 => ?_)
      · exact absurd c_2 (by rw [show _ = nI (h * w) from (geo_cells hG0)]; exact nI_ge (by omega) (by omega))
      · refine lv_iload_n hx hb dX2_sumOf_12 rfl (lv_at hl 2 rfl) ?_
        refine lv_aload_n hx hb dX2_sumOf_13 rfl (lv_at hl 1 rfl) ?_
        refine lv_iload_n hx hb dX2_sumOf_14 rfl (lv_at hl 3 rfl) ?_
        refine va_iald (cA := cI) (n := 64) (f := S 9) hx hb hK hP 9 0 rfl rfl (vp_in_nI (by omega) (by decide)) dX2_sumOf_15 ?_
        refine lv_iadd hx hb dX2_sumOf_16 ?_
        refine lv_istore_n (lv' := [(2, .int (u4_2 + (S 9 (nI i4).toNatClampNeg))), (0, .ref (a 0)), (1, .ref (a 9)), (3, .int (nI i4))]) hx hb dX2_sumOf_17 rfl hl (by decide) rfl (fun ls hl => ?_)
        refine lv_iinc (v := nI (i4 + 1)) (lv' := [(3, .int (nI (i4 + 1))), (2, .int (u4_2 + (S 9 (nI i4).toNatClampNeg))), (0, .ref (a 0)), (1, .ref (a 9))]) hx hb dX2_sumOf_18 hl (k := 3) rfl (show nI i4 + Int32.ofInt 1 = nI (i4 + 1) from nI_1 i4) (by decide) rfl (fun ls hl => ?_)
        refine lv_goto (tgt := 4) hx hb dX2_sumOf_21 (by decide) ?_
        exact ih4 (i4 + 1) (u4_2 + (S 9 (nI i4).toNatClampNeg)) _ _ ls (by omega) (by (try rw [eu4_2]); rfl) hP hD hS (lv_sub hl [2, 3, 1, 0] rfl)
  exact lp4 (h * w) 0 0 _ _ ls (by omega) rfl hP hD hS (lv_sub hl [2, 3, 1, 0] rfl)
set_option maxHeartbeats 4000000 in
set_option maxRecDepth 100000 in
theorem c_X2_sumOf_2 (l : Launch) (dC : Nat → ClassId) (dI : Nat → Nat → Nat) (cI : ClassId) (a : Nat → Nat) (h w : Nat) (S : sS) (hG0 : geo h w S) : zI l yX2_sumOf wsX2_sumOf { frames := 1, cells := 0, slots := 0, locals := 20 } (dC, dI) cI [.ref (a 0), .ref (a 2)] (sW cI a S) (sW cI a S) (sl_sum h w S 2) := by
  refine zI_of (cc := cX2_sumOf) (maxL := 4) (ret := (some .int)) (by decide) rfl (Nat.le_of_ble_eq_true rfl) ?_
  intro p e s m below meth c A ls C0 hl
  obtain ⟨hx, hb, hr, hml, hown, hts, hlocks, hK, hN, hA, hP, hD, hS⟩ := C0
  have hown : s.vm.findClass RX2 = some m.cls := hown
  have hl : lv_has ls 4 [(0, .ref (a 0)), (1, .ref (a 2))] := hl
  have hS0 := hS
  have hN64 := geo_hw hG0
  have hW9 := geo_w hG0
  obtain ⟨-, -, hh2, hh8, hw2, hw8⟩ := id hG0
  refine lv_iconst (v := 0) hx hb dX2_sumOf_0 (by decide) ?_
  refine lv_istore_n (lv' := [(2, .int 0), (0, .ref (a 0)), (1, .ref (a 2))]) hx hb dX2_sumOf_1 rfl hl (by decide) rfl (fun ls hl => ?_)
  refine lv_iconst (v := 0) hx hb dX2_sumOf_2 (by decide) ?_
  refine lv_istore_n (lv' := [(3, .int 0), (2, .int 0), (0, .ref (a 0)), (1, .ref (a 2))]) hx hb dX2_sumOf_3 rfl hl (by decide) rfl (fun ls hl => ?_)
  have lp4 : ∀ (n4 i4 : Nat) (u4_2 : Int32) (H : Heap) (locs : List Loc) (ls : Array Slot), i4 + n4 = h * w → u4_2 = itr (fun i x => x + S 2 i.toNatClampNeg) i4 0 → va_P (dC, dI) vwCl (sW cI a S) H → va_D A (sW cI a S) → va_S A s.heap H locs → lv_has ls 4 [(0, .ref (a 0)), (1, .ref (a 2)), (2, .int u4_2), (3, .int (nI i4))] → W p l e ({ frames := 1, cells := 0, slots := 0, locals := 20 } : Room) s m [.ref (a 0), .ref (a 2)].toArray below meth c H locs 0 0 (zIq (dC, dI) A (sW cI a S) (sl_sum h w S 2) below [.ref (a 0), .ref (a 2)].toArray s 0 0) (F0 m 4 ls []) := by
    intro n4
    induction n4 with
    | zero =>
      intro i4 u4_2 H locs ls hi4 eu4_2 hP hD hS hl
      have hi4 : i4 = h * w := by omega
      rw [hi4] at eu4_2
      refine lv_iload_n hx hb dX2_sumOf_4 rfl (lv_at hl 3 rfl) ?_
      refine lv_aload_n hx hb dX2_sumOf_5 rfl (lv_at hl 0 rfl) ?_
      refine zI_V (pre := ([] : va_W)) (wc := sW cI a S) (post := ([] : va_W)) (w1 := sW cI a S) ⟨hx, hb, hml, hown, hts⟩ (c_X2_cells l dC dI cI a S) (cwV 0 hts gX2_sumOf_X2_cells rfl rfl rfl (by decide +kernel) ⟨Nat.le_of_ble_eq_true rfl, Nat.le_of_ble_eq_true rfl⟩) (by simp only [List.append_assoc, List.append_nil, List.nil_append]) hK hN (ci := 2) (q0 := 0) rfl rfl rfl hP hD hS hA rfl hl.1 rfl (Nat.le_of_ble_eq_true rfl) dX2_sumOf_6 ⟨Nat.le_of_ble_eq_true rfl, Nat.le_of_ble_eq_true rfl⟩ (fun H locs hP hD hS => ?_)
      have hP : va_P (dC, dI) vwCl (sW cI a S) H := by simpa only [List.append_assoc, List.append_nil, List.nil_append] using hP
      have hD : va_D A (sW cI a S) := by simpa only [List.append_assoc, List.append_nil, List.nil_append] using hD
      refine lv_icmp_ge (tgt := 24) hx hb dX2_sumOf_9 (by decide) (fun c_1 => ?_) (fun c_1 => ?_)
      · refine lv_iload_n hx hb dX2_sumOf_24 rfl (lv_at hl 2 rfl) ?_
        exact zI_ret hx hb hr hlocks hP hD hS rfl (by (try rw [eu4_2]); first | done | rfl | (simp only [sl_sum, if_pos c_1]; done)) dX2_sumOf_25
      · exact absurd (by rw [show _ = nI (h * w) from (geo_cells hG0)]; exact nI_le (by omega) (by omega)) c_1
    | succ n4 ih4 =>
      intro i4 u4_2 H locs ls hi4 eu4_2 hP hD hS hl
      refine lv_iload_n hx hb dX2_sumOf_4 rfl (lv_at hl 3 rfl) ?_
      refine lv_aload_n hx hb dX2_sumOf_5 rfl (lv_at hl 0 rfl) ?_
      refine zI_V (pre := ([] : va_W)) (wc := sW cI a S) (post := ([] : va_W)) (w1 := sW cI a S) ⟨hx, hb, hml, hown, hts⟩ (c_X2_cells l dC dI cI a S) (cwV 0 hts gX2_sumOf_X2_cells rfl rfl rfl (by decide +kernel) ⟨Nat.le_of_ble_eq_true rfl, Nat.le_of_ble_eq_true rfl⟩) (by simp only [List.append_assoc, List.append_nil, List.nil_append]) hK hN (ci := 2) (q0 := 0) rfl rfl rfl hP hD hS hA rfl hl.1 rfl (Nat.le_of_ble_eq_true rfl) dX2_sumOf_6 ⟨Nat.le_of_ble_eq_true rfl, Nat.le_of_ble_eq_true rfl⟩ (fun H locs hP hD hS => ?_)
      have hP : va_P (dC, dI) vwCl (sW cI a S) H := by simpa only [List.append_assoc, List.append_nil, List.nil_append] using hP
      have hD : va_D A (sW cI a S) := by simpa only [List.append_assoc, List.append_nil, List.nil_append] using hD
      refine lv_icmp_ge (tgt := 24) hx hb dX2_sumOf_9 (by decide) (fun c_2 => ?_) (fun c_2 => ?_)
      · exact absurd c_2 (by rw [show _ = nI (h * w) from (geo_cells hG0)]; exact nI_ge (by omega) (by omega))
      · refine lv_iload_n hx hb dX2_sumOf_12 rfl (lv_at hl 2 rfl) ?_
        refine lv_aload_n hx hb dX2_sumOf_13 rfl (lv_at hl 1 rfl) ?_
        refine lv_iload_n hx hb dX2_sumOf_14 rfl (lv_at hl 3 rfl) ?_
        refine va_iald (cA := cI) (n := 64) (f := S 2) hx hb hK hP 2 0 rfl rfl (vp_in_nI (by omega) (by decide)) dX2_sumOf_15 ?_
        refine lv_iadd hx hb dX2_sumOf_16 ?_
        refine lv_istore_n (lv' := [(2, .int (u4_2 + (S 2 (nI i4).toNatClampNeg))), (0, .ref (a 0)), (1, .ref (a 2)), (3, .int (nI i4))]) hx hb dX2_sumOf_17 rfl hl (by decide) rfl (fun ls hl => ?_)
        refine lv_iinc (v := nI (i4 + 1)) (lv' := [(3, .int (nI (i4 + 1))), (2, .int (u4_2 + (S 2 (nI i4).toNatClampNeg))), (0, .ref (a 0)), (1, .ref (a 2))]) hx hb dX2_sumOf_18 hl (k := 3) rfl (show nI i4 + Int32.ofInt 1 = nI (i4 + 1) from nI_1 i4) (by decide) rfl (fun ls hl => ?_)
        refine lv_goto (tgt := 4) hx hb dX2_sumOf_21 (by decide) ?_
        exact ih4 (i4 + 1) (u4_2 + (S 2 (nI i4).toNatClampNeg)) _ _ ls (by omega) (by (try rw [eu4_2]); rfl) hP hD hS (lv_sub hl [2, 3, 1, 0] rfl)
  exact lp4 (h * w) 0 0 _ _ ls (by omega) rfl hP hD hS (lv_sub hl [2, 3, 1, 0] rfl)
set_option maxHeartbeats 4000000 in
set_option maxRecDepth 100000 in
theorem c_X2_crops (l : Launch) (dC : Nat → ClassId) (dI : Nat → Nat → Nat) (cI : ClassId) (a : Nat → Nat) (h w : Nat) (S : sS) (hG0 : geo h w S) : zI l yX2_crops wsX2_crops { frames := 2, cells := 0, slots := 0, locals := 43 } (dC, dI) cI [.ref (a 0)] (sW cI a S) (sW cI a S) (sl_sum h w S 7) := by
  refine zI_of (cc := cX2_crops) (maxL := 1) (ret := (some .int)) (by decide) rfl (Nat.le_of_ble_eq_true rfl) ?_
  intro p e s m below meth c A ls C0 hl
  obtain ⟨hx, hb, hr, hml, hown, hts, hlocks, hK, hN, hA, hP, hD, hS⟩ := C0
  have hown : s.vm.findClass RX2 = some m.cls := hown
  have hl : lv_has ls 1 [(0, .ref (a 0))] := hl
  have hf30 := hts (.fieldLink RX2 30 "PaddyTerraces$Slope" "crop" "[I") (by decide +kernel)
  have hinX2 : ∀ w ∈ wsX20, w ∈ wsX2_crops := by decide +kernel
  have hS0 := hS
  have hN64 := geo_hw hG0
  have hW9 := geo_w hG0
  obtain ⟨-, -, hh2, hh8, hw2, hw8⟩ := id hG0
  refine lv_aload_n hx hb dX2_crops_0 rfl (lv_at hl 0 rfl) ?_
  refine lv_aload_n hx hb dX2_crops_1 rfl (lv_at hl 0 rfl) ?_
  refine va_get (D := (dC, dI)) (ci := 2) (v := .ref (a 7)) (C := RX2) (T := TX2) (N := 18) hx hb hts hinX2 hown hK hP 0 rfl rfl 11 (by decide) hf30 (fun _ h9 => h9) rfl dX2_crops_2 ?_
  refine zI_V (pre := ([] : va_W)) (wc := sW cI a S) (post := ([] : va_W)) (w1 := sW cI a S) ⟨hx, hb, hml, hown, hts⟩ (c_X2_sumOf_7 l dC dI cI a h w S hG0) (cwV 1 hts gX2_crops_X2_sumOf rfl rfl rfl (by decide +kernel) ⟨Nat.le_of_ble_eq_true rfl, Nat.le_of_ble_eq_true rfl⟩) (by simp only [List.append_assoc, List.append_nil, List.nil_append]) hK hN (ci := 2) (q0 := 0) rfl rfl rfl hP hD hS hA rfl hl.1 rfl (Nat.le_of_ble_eq_true rfl) dX2_crops_5 ⟨Nat.le_of_ble_eq_true rfl, Nat.le_of_ble_eq_true rfl⟩ (fun H locs hP hD hS => ?_)
  have hP : va_P (dC, dI) vwCl (sW cI a S) H := by simpa only [List.append_assoc, List.append_nil, List.nil_append] using hP
  have hD : va_D A (sW cI a S) := by simpa only [List.append_assoc, List.append_nil, List.nil_append] using hD
  exact zI_ret hx hb hr hlocks hP hD hS rfl rfl dX2_crops_8
set_option maxHeartbeats 4000000 in
set_option maxRecDepth 100000 in
theorem c_X2_allHardness (l : Launch) (dC : Nat → ClassId) (dI : Nat → Nat → Nat) (cI : ClassId) (a : Nat → Nat) (h w : Nat) (S : sS) (hG0 : geo h w S) : zI l yX2_allHardness wsX2_allHardness { frames := 2, cells := 0, slots := 0, locals := 43 } (dC, dI) cI [.ref (a 0)] (sW cI a S) (sW cI a S) (sl_sum h w S 9) := by
  refine zI_of (cc := cX2_allHardness) (maxL := 1) (ret := (some .int)) (by decide) rfl (Nat.le_of_ble_eq_true rfl) ?_
  intro p e s m below meth c A ls C0 hl
  obtain ⟨hx, hb, hr, hml, hown, hts, hlocks, hK, hN, hA, hP, hD, hS⟩ := C0
  have hown : s.vm.findClass RX2 = some m.cls := hown
  have hl : lv_has ls 1 [(0, .ref (a 0))] := hl
  have hf36 := hts (.fieldLink RX2 36 "PaddyTerraces$Slope" "hardness" "[I") (by decide +kernel)
  have hinX2 : ∀ w ∈ wsX20, w ∈ wsX2_allHardness := by decide +kernel
  have hS0 := hS
  have hN64 := geo_hw hG0
  have hW9 := geo_w hG0
  obtain ⟨-, -, hh2, hh8, hw2, hw8⟩ := id hG0
  refine lv_aload_n hx hb dX2_allHardness_0 rfl (lv_at hl 0 rfl) ?_
  refine lv_aload_n hx hb dX2_allHardness_1 rfl (lv_at hl 0 rfl) ?_
  refine va_get (D := (dC, dI)) (ci := 2) (v := .ref (a 9)) (C := RX2) (T := TX2) (N := 18) hx hb hts hinX2 hown hK hP 0 rfl rfl 13 (by decide) hf36 (fun _ h9 => h9) rfl dX2_allHardness_2 ?_
  refine zI_V (pre := ([] : va_W)) (wc := sW cI a S) (post := ([] : va_W)) (w1 := sW cI a S) ⟨hx, hb, hml, hown, hts⟩ (c_X2_sumOf_9 l dC dI cI a h w S hG0) (cwV 1 hts gX2_allHardness_X2_sumOf rfl rfl rfl (by decide +kernel) ⟨Nat.le_of_ble_eq_true rfl, Nat.le_of_ble_eq_true rfl⟩) (by simp only [List.append_assoc, List.append_nil, List.nil_append]) hK hN (ci := 2) (q0 := 0) rfl rfl rfl hP hD hS hA rfl hl.1 rfl (Nat.le_of_ble_eq_true rfl) dX2_allHardness_5 ⟨Nat.le_of_ble_eq_true rfl, Nat.le_of_ble_eq_true rfl⟩ (fun H locs hP hD hS => ?_)
  have hP : va_P (dC, dI) vwCl (sW cI a S) H := by simpa only [List.append_assoc, List.append_nil, List.nil_append] using hP
  have hD : va_D A (sW cI a S) := by simpa only [List.append_assoc, List.append_nil, List.nil_append] using hD
  exact zI_ret hx hb hr hlocks hP hD hS rfl rfl dX2_allHardness_8
set_option maxHeartbeats 4000000 in
set_option maxRecDepth 100000 in
theorem c_X2_allDepths (l : Launch) (dC : Nat → ClassId) (dI : Nat → Nat → Nat) (cI : ClassId) (a : Nat → Nat) (h w : Nat) (S : sS) (hG0 : geo h w S) : zI l yX2_allDepths wsX2_allDepths { frames := 2, cells := 0, slots := 0, locals := 43 } (dC, dI) cI [.ref (a 0)] (sW cI a S) (sW cI a S) (sl_sum h w S 2) := by
  refine zI_of (cc := cX2_allDepths) (maxL := 1) (ret := (some .int)) (by decide) rfl (Nat.le_of_ble_eq_true rfl) ?_
  intro p e s m below meth c A ls C0 hl
  obtain ⟨hx, hb, hr, hml, hown, hts, hlocks, hK, hN, hA, hP, hD, hS⟩ := C0
  have hown : s.vm.findClass RX2 = some m.cls := hown
  have hl : lv_has ls 1 [(0, .ref (a 0))] := hl
  have hf15 := hts (.fieldLink RX2 15 "PaddyTerraces$Slope" "depth" "[I") (by decide +kernel)
  have hinX2 : ∀ w ∈ wsX20, w ∈ wsX2_allDepths := by decide +kernel
  have hS0 := hS
  have hN64 := geo_hw hG0
  have hW9 := geo_w hG0
  obtain ⟨-, -, hh2, hh8, hw2, hw8⟩ := id hG0
  refine lv_aload_n hx hb dX2_allDepths_0 rfl (lv_at hl 0 rfl) ?_
  refine lv_aload_n hx hb dX2_allDepths_1 rfl (lv_at hl 0 rfl) ?_
  refine va_get (D := (dC, dI)) (ci := 2) (v := .ref (a 2)) (C := RX2) (T := TX2) (N := 18) hx hb hts hinX2 hown hK hP 0 rfl rfl 6 (by decide) hf15 (fun _ h9 => h9) rfl dX2_allDepths_2 ?_
  refine zI_V (pre := ([] : va_W)) (wc := sW cI a S) (post := ([] : va_W)) (w1 := sW cI a S) ⟨hx, hb, hml, hown, hts⟩ (c_X2_sumOf_2 l dC dI cI a h w S hG0) (cwV 1 hts gX2_allDepths_X2_sumOf rfl rfl rfl (by decide +kernel) ⟨Nat.le_of_ble_eq_true rfl, Nat.le_of_ble_eq_true rfl⟩) (by simp only [List.append_assoc, List.append_nil, List.nil_append]) hK hN (ci := 2) (q0 := 0) rfl rfl rfl hP hD hS hA rfl hl.1 rfl (Nat.le_of_ble_eq_true rfl) dX2_allDepths_5 ⟨Nat.le_of_ble_eq_true rfl, Nat.le_of_ble_eq_true rfl⟩ (fun H locs hP hD hS => ?_)
  have hP : va_P (dC, dI) vwCl (sW cI a S) H := by simpa only [List.append_assoc, List.append_nil, List.nil_append] using hP
  have hD : va_D A (sW cI a S) := by simpa only [List.append_assoc, List.append_nil, List.nil_append] using hD
  exact zI_ret hx hb hr hlocks hP hD hS rfl rfl dX2_allDepths_8
set_option maxHeartbeats 4000000 in
set_option maxRecDepth 100000 in
theorem c_X2_letWaterFlow (l : Launch) (dC : Nat → ClassId) (dI : Nat → Nat → Nat) (cI : ClassId) (a : Nat → Nat) (h w : Nat) (S : sS) (hG0 : geo h w S) : zV l yX2_letWaterFlow wsX2_letWaterFlow { frames := 3, cells := 0, slots := 0, locals := 70 } (dC, dI) cI [.ref (a 0)] (sW cI a S) (sW cI a (sl_flowAll h w S)) := by
  refine zV_of (cc := cX2_letWaterFlow) (maxL := 3) (ret := none) (by decide) rfl (Nat.le_of_ble_eq_true rfl) ?_
  intro p e s m below meth c A ls C0 hl
  obtain ⟨hx, hb, hr, hml, hown, hts, hlocks, hK, hN, hA, hP, hD, hS⟩ := C0
  have hown : s.vm.findClass RX2 = some m.cls := hown
  have hl : lv_has ls 3 [(0, .ref (a 0))] := hl
  have hf55 := hts (.fieldLink RX2 55 "PaddyTerraces$Slope" "h" "I") (by decide +kernel)
  have hf59 := hts (.fieldLink RX2 59 "PaddyTerraces$Slope" "w" "I") (by decide +kernel)
  have hinX2 : ∀ w ∈ wsX20, w ∈ wsX2_letWaterFlow := by decide +kernel
  have hS0 := hS
  have hN64 := geo_hw hG0
  have hW9 := geo_w hG0
  obtain ⟨-, -, hh2, hh8, hw2, hw8⟩ := id hG0
  refine lv_iconst (v := 0) hx hb dX2_letWaterFlow_0 (by decide) ?_
  refine lv_istore_n (lv' := [(1, .int 0), (0, .ref (a 0))]) hx hb dX2_letWaterFlow_1 rfl hl (by decide) rfl (fun ls hl => ?_)
  have lp2 : ∀ (n2 i2 : Nat) (T2_0 : sS) (H : Heap) (locs : List Loc) (ls : Array Slot), i2 + n2 = h → T2_0 = itr (fun t T => itr (fun f U => sl_flow U t f) w T) i2 S → geo h w T2_0 → va_P (dC, dI) vwCl (sW cI a T2_0) H → va_D A (sW cI a T2_0) → va_S A s.heap H locs → lv_has ls 3 [(0, .ref (a 0)), (1, .int (nI i2))] → W p l e ({ frames := 3, cells := 0, slots := 0, locals := 70 } : Room) s m [.ref (a 0)].toArray below meth c H locs 0 0 (zVq (dC, dI) A (sW cI a (sl_flowAll h w S)) below [.ref (a 0)].toArray s 0 0) (F0 m 2 ls []) := by
    intro n2
    induction n2 with
    | zero =>
      intro i2 T2_0 H locs ls hi2 eT2_0 hGT2_0 hP hD hS hl
      have hi2 : i2 = h := by omega
      rw [hi2] at eT2_0
      refine lv_iload_n hx hb dX2_letWaterFlow_2 rfl (lv_at hl 1 rfl) ?_
      refine lv_aload_n hx hb dX2_letWaterFlow_3 rfl (lv_at hl 0 rfl) ?_
      refine va_get (D := (dC, dI)) (ci := 2) (v := .int (T2_0 0 0)) (C := RX2) (T := TX2) (N := 18) hx hb hts hinX2 hown hK hP 0 rfl rfl 0 (by decide) hf55 (fun _ h9 => h9) rfl dX2_letWaterFlow_4 ?_
      refine lv_icmp_ge (tgt := 38) hx hb dX2_letWaterFlow_7 (by decide) (fun c_1 => ?_) (fun c_1 => ?_)
      · have hZ : T2_0 = sl_flowAll h w S := (by (try rw [eT2_0]); first | done | rfl | (simp only [sl_flowAll, if_pos c_1]; done) | (unfold sl_flowAll; simp only [if_pos c_1]; done))
        rw [hZ] at hP hD
        exact zV_ret hx hb hr hlocks hP hD hS dX2_letWaterFlow_38
      · exact absurd (by rw [show _ = nI (h) from hGT2_0.1]; exact nI_le (by omega) (by omega)) c_1
    | succ n2 ih2 =>
      intro i2 T2_0 H locs ls hi2 eT2_0 hGT2_0 hP hD hS hl
      refine lv_iload_n hx hb dX2_letWaterFlow_2 rfl (lv_at hl 1 rfl) ?_
      refine lv_aload_n hx hb dX2_letWaterFlow_3 rfl (lv_at hl 0 rfl) ?_
      refine va_get (D := (dC, dI)) (ci := 2) (v := .int (T2_0 0 0)) (C := RX2) (T := TX2) (N := 18) hx hb hts hinX2 hown hK hP 0 rfl rfl 0 (by decide) hf55 (fun _ h9 => h9) rfl dX2_letWaterFlow_4 ?_
      refine lv_icmp_ge (tgt := 38) hx hb dX2_letWaterFlow_7 (by decide) (fun c_2 => ?_) (fun c_2 => ?_)
      · exact absurd c_2 (by rw [show _ = nI (h) from hGT2_0.1]; exact nI_ge (by omega) (by omega))
      · refine lv_iconst (v := 0) hx hb dX2_letWaterFlow_10 (by decide) ?_
        refine lv_istore_n (lv' := [(2, .int 0), (0, .ref (a 0)), (1, .int (nI i2))]) hx hb dX2_letWaterFlow_11 rfl hl (by decide) rfl (fun ls hl => ?_)
        have lp12 : ∀ (n12 i12 : Nat) (T12_0 : sS) (H : Heap) (locs : List Loc) (ls : Array Slot), i12 + n12 = w → T12_0 = itr (fun f U => sl_flow U (nI i2) f) i12 T2_0 → geo h w T12_0 → va_P (dC, dI) vwCl (sW cI a T12_0) H → va_D A (sW cI a T12_0) → va_S A s.heap H locs → lv_has ls 3 [(0, .ref (a 0)), (1, .int (nI i2)), (2, .int (nI i12))] → W p l e ({ frames := 3, cells := 0, slots := 0, locals := 70 } : Room) s m [.ref (a 0)].toArray below meth c H locs 0 0 (zVq (dC, dI) A (sW cI a (sl_flowAll h w S)) below [.ref (a 0)].toArray s 0 0) (F0 m 12 ls []) := by
          intro n12
          induction n12 with
          | zero =>
            intro i12 T12_0 H locs ls hi12 eT12_0 hGT12_0 hP hD hS hl
            have hi12 : i12 = w := by omega
            rw [hi12] at eT12_0
            refine lv_iload_n hx hb dX2_letWaterFlow_12 rfl (lv_at hl 2 rfl) ?_
            refine lv_aload_n hx hb dX2_letWaterFlow_13 rfl (lv_at hl 0 rfl) ?_
            refine va_get (D := (dC, dI)) (ci := 2) (v := .int (T12_0 0 1)) (C := RX2) (T := TX2) (N := 18) hx hb hts hinX2 hown hK hP 0 rfl rfl 1 (by decide) hf59 (fun _ h9 => h9) rfl dX2_letWaterFlow_14 ?_
            refine lv_icmp_ge (tgt := 32) hx hb dX2_letWaterFlow_17 (by decide) (fun c_3 => ?_) (fun c_3 => ?_)
            · refine lv_iinc (v := nI (i2 + 1)) (lv' := [(1, .int (nI (i2 + 1))), (0, .ref (a 0)), (2, .int (nI i12))]) hx hb dX2_letWaterFlow_32 hl (k := 1) rfl (show nI i2 + Int32.ofInt 1 = nI (i2 + 1) from nI_1 i2) (by decide) rfl (fun ls hl => ?_)
              refine lv_goto (tgt := 2) hx hb dX2_letWaterFlow_35 (by decide) ?_
              exact ih2 (i2 + 1) T12_0 _ _ ls (by omega) (by (try rw [eT12_0]); (try rw [eT2_0]); rfl) (hGT12_0) hP hD hS (lv_sub hl [1, 0] rfl)
            · exact absurd (by rw [show _ = nI (w) from hGT12_0.2.1]; exact nI_le (by omega) (by omega)) c_3
          | succ n12 ih12 =>
            intro i12 T12_0 H locs ls hi12 eT12_0 hGT12_0 hP hD hS hl
            refine lv_iload_n hx hb dX2_letWaterFlow_12 rfl (lv_at hl 2 rfl) ?_
            refine lv_aload_n hx hb dX2_letWaterFlow_13 rfl (lv_at hl 0 rfl) ?_
            refine va_get (D := (dC, dI)) (ci := 2) (v := .int (T12_0 0 1)) (C := RX2) (T := TX2) (N := 18) hx hb hts hinX2 hown hK hP 0 rfl rfl 1 (by decide) hf59 (fun _ h9 => h9) rfl dX2_letWaterFlow_14 ?_
            refine lv_icmp_ge (tgt := 32) hx hb dX2_letWaterFlow_17 (by decide) (fun c_4 => ?_) (fun c_4 => ?_)
            · exact absurd c_4 (by rw [show _ = nI (w) from hGT12_0.2.1]; exact nI_ge (by omega) (by omega))
            · refine lv_aload_n hx hb dX2_letWaterFlow_20 rfl (lv_at hl 0 rfl) ?_
              refine lv_iload_n hx hb dX2_letWaterFlow_21 rfl (lv_at hl 1 rfl) ?_
              refine lv_iload_n hx hb dX2_letWaterFlow_22 rfl (lv_at hl 2 rfl) ?_
              obtain ⟨S5, eS5⟩ : ∃ z : sS, z = sl_flow T12_0 (nI i2) (nI i12) := ⟨_, rfl⟩
              refine zV_V (pre := ([] : va_W)) (wc := sW cI a T12_0) (post := ([] : va_W)) (w1 := sW cI a S5) ⟨hx, hb, hml, hown, hts⟩ (by rw [eS5]; exact c_X2_letFieldFlow l dC dI cI a h w T12_0 (nI i2) (nI i12) hGT12_0 (geo_has hGT12_0 (by omega) (by omega))) (cwV 2 hts gX2_letWaterFlow_X2_letFieldFlow rfl rfl rfl (by decide +kernel) ⟨Nat.le_of_ble_eq_true rfl, Nat.le_of_ble_eq_true rfl⟩) (by simp only [List.append_assoc, List.append_nil, List.nil_append]) hK hN (ci := 2) (q0 := 0) rfl rfl rfl hP hD hS hA rfl hl.1 rfl (Nat.le_of_ble_eq_true rfl) dX2_letWaterFlow_23 ⟨Nat.le_of_ble_eq_true rfl, Nat.le_of_ble_eq_true rfl⟩ (fun H locs hP hD hS => ?_)
              have hP : va_P (dC, dI) vwCl (sW cI a S5) H := by simpa only [List.append_assoc, List.append_nil, List.nil_append] using hP
              have hD : va_D A (sW cI a S5) := by simpa only [List.append_assoc, List.append_nil, List.nil_append] using hD
              have hGS5 : geo h w S5 := by rw [eS5]; exact geo_sam hGT12_0 (sam_flow T12_0 (nI i2) (nI i12))
              refine lv_iinc (v := nI (i12 + 1)) (lv' := [(2, .int (nI (i12 + 1))), (0, .ref (a 0)), (1, .int (nI i2))]) hx hb dX2_letWaterFlow_26 hl (k := 2) rfl (show nI i12 + Int32.ofInt 1 = nI (i12 + 1) from nI_1 i12) (by decide) rfl (fun ls hl => ?_)
              refine lv_goto (tgt := 12) hx hb dX2_letWaterFlow_29 (by decide) ?_
              exact ih12 (i12 + 1) S5 _ _ ls (by omega) (by (try rw [eS5]); (try rw [eT12_0]); rfl) (hGS5) hP hD hS (lv_sub hl [1, 2, 0] rfl)
        exact lp12 (w) 0 T2_0 _ _ ls (by omega) rfl (hGT2_0) hP hD hS (lv_sub hl [1, 2, 0] rfl)
  exact lp2 (h) 0 S _ _ ls (by omega) rfl (hG0) hP hD hS (lv_sub hl [1, 0] rfl)
set_option maxHeartbeats 4000000 in
set_option maxRecDepth 100000 in
theorem c_X2_takeRain (l : Launch) (dC : Nat → ClassId) (dI : Nat → Nat → Nat) (cI : ClassId) (a : Nat → Nat) (h w : Nat) (S : sS) (x : Int32) (hG0 : geo h w S) : zV l yX2_takeRain wsX2_takeRain { frames := 1, cells := 0, slots := 0, locals := 20 } (dC, dI) cI [.ref (a 0), .int x] (sW cI a S) (sW cI a (sl_rain h w S x)) := by
  refine zV_of (cc := cX2_takeRain) (maxL := 3) (ret := none) (by decide) rfl (Nat.le_of_ble_eq_true rfl) ?_
  intro p e s m below meth c A ls C0 hl
  obtain ⟨hx, hb, hr, hml, hown, hts, hlocks, hK, hN, hA, hP, hD, hS⟩ := C0
  have hown : s.vm.findClass RX2 = some m.cls := hown
  have hl : lv_has ls 3 [(0, .ref (a 0)), (1, .int x)] := hl
  have hf15 := hts (.fieldLink RX2 15 "PaddyTerraces$Slope" "depth" "[I") (by decide +kernel)
  have hinX2 : ∀ w ∈ wsX20, w ∈ wsX2_takeRain := by decide +kernel
  have hS0 := hS
  have hN64 := geo_hw hG0
  have hW9 := geo_w hG0
  obtain ⟨-, -, hh2, hh8, hw2, hw8⟩ := id hG0
  refine lv_iconst (v := 0) hx hb dX2_takeRain_0 (by decide) ?_
  refine lv_istore_n (lv' := [(2, .int 0), (0, .ref (a 0)), (1, .int x)]) hx hb dX2_takeRain_1 rfl hl (by decide) rfl (fun ls hl => ?_)
  have lp2 : ∀ (n2 i2 : Nat) (T2_0 : sS) (H : Heap) (locs : List Loc) (ls : Array Slot), i2 + n2 = h * w → T2_0 = itr (fun i T => sl_rain1 T i x) i2 S → geo h w T2_0 → va_P (dC, dI) vwCl (sW cI a T2_0) H → va_D A (sW cI a T2_0) → va_S A s.heap H locs → lv_has ls 3 [(0, .ref (a 0)), (1, .int x), (2, .int (nI i2))] → W p l e ({ frames := 1, cells := 0, slots := 0, locals := 20 } : Room) s m [.ref (a 0), .int x].toArray below meth c H locs 0 0 (zVq (dC, dI) A (sW cI a (sl_rain h w S x)) below [.ref (a 0), .int x].toArray s 0 0) (F0 m 2 ls []) := by
    intro n2
    induction n2 with
    | zero =>
      intro i2 T2_0 H locs ls hi2 eT2_0 hGT2_0 hP hD hS hl
      have hi2 : i2 = h * w := by omega
      rw [hi2] at eT2_0
      refine lv_iload_n hx hb dX2_takeRain_2 rfl (lv_at hl 2 rfl) ?_
      refine lv_aload_n hx hb dX2_takeRain_3 rfl (lv_at hl 0 rfl) ?_
      refine zI_V (pre := ([] : va_W)) (wc := sW cI a T2_0) (post := ([] : va_W)) (w1 := sW cI a T2_0) ⟨hx, hb, hml, hown, hts⟩ (c_X2_cells l dC dI cI a T2_0) (cwV 0 hts gX2_takeRain_X2_cells rfl rfl rfl (by decide +kernel) ⟨Nat.le_of_ble_eq_true rfl, Nat.le_of_ble_eq_true rfl⟩) (by simp only [List.append_assoc, List.append_nil, List.nil_append]) hK hN (ci := 2) (q0 := 0) rfl rfl rfl hP hD hS hA rfl hl.1 rfl (Nat.le_of_ble_eq_true rfl) dX2_takeRain_4 ⟨Nat.le_of_ble_eq_true rfl, Nat.le_of_ble_eq_true rfl⟩ (fun H locs hP hD hS => ?_)
      have hP : va_P (dC, dI) vwCl (sW cI a T2_0) H := by simpa only [List.append_assoc, List.append_nil, List.nil_append] using hP
      have hD : va_D A (sW cI a T2_0) := by simpa only [List.append_assoc, List.append_nil, List.nil_append] using hD
      refine lv_icmp_ge (tgt := 26) hx hb dX2_takeRain_7 (by decide) (fun c_1 => ?_) (fun c_1 => ?_)
      · have hZ : T2_0 = sl_rain h w S x := (by (try rw [eT2_0]); first | done | rfl | (simp only [sl_rain, if_pos c_1]; done) | (unfold sl_rain; simp only [if_pos c_1]; done))
        rw [hZ] at hP hD
        exact zV_ret hx hb hr hlocks hP hD hS dX2_takeRain_26
      · exact absurd (by rw [show _ = nI (h * w) from (geo_cells hGT2_0)]; exact nI_le (by omega) (by omega)) c_1
    | succ n2 ih2 =>
      intro i2 T2_0 H locs ls hi2 eT2_0 hGT2_0 hP hD hS hl
      refine lv_iload_n hx hb dX2_takeRain_2 rfl (lv_at hl 2 rfl) ?_
      refine lv_aload_n hx hb dX2_takeRain_3 rfl (lv_at hl 0 rfl) ?_
      refine zI_V (pre := ([] : va_W)) (wc := sW cI a T2_0) (post := ([] : va_W)) (w1 := sW cI a T2_0) ⟨hx, hb, hml, hown, hts⟩ (c_X2_cells l dC dI cI a T2_0) (cwV 0 hts gX2_takeRain_X2_cells rfl rfl rfl (by decide +kernel) ⟨Nat.le_of_ble_eq_true rfl, Nat.le_of_ble_eq_true rfl⟩) (by simp only [List.append_assoc, List.append_nil, List.nil_append]) hK hN (ci := 2) (q0 := 0) rfl rfl rfl hP hD hS hA rfl hl.1 rfl (Nat.le_of_ble_eq_true rfl) dX2_takeRain_4 ⟨Nat.le_of_ble_eq_true rfl, Nat.le_of_ble_eq_true rfl⟩ (fun H locs hP hD hS => ?_)
      have hP : va_P (dC, dI) vwCl (sW cI a T2_0) H := by simpa only [List.append_assoc, List.append_nil, List.nil_append] using hP
      have hD : va_D A (sW cI a T2_0) := by simpa only [List.append_assoc, List.append_nil, List.nil_append] using hD
      refine lv_icmp_ge (tgt := 26) hx hb dX2_takeRain_7 (by decide) (fun c_2 => ?_) (fun c_2 => ?_)
      · exact absurd c_2 (by rw [show _ = nI (h * w) from (geo_cells hGT2_0)]; exact nI_ge (by omega) (by omega))
      · refine lv_aload_n hx hb dX2_takeRain_10 rfl (lv_at hl 0 rfl) ?_
        refine va_get (D := (dC, dI)) (ci := 2) (v := .ref (a 2)) (C := RX2) (T := TX2) (N := 18) hx hb hts hinX2 hown hK hP 0 rfl rfl 6 (by decide) hf15 (fun _ h9 => h9) rfl dX2_takeRain_11 ?_
        refine lv_iload_n hx hb dX2_takeRain_14 rfl (lv_at hl 2 rfl) ?_
        refine lv_dup2_11 hx hb dX2_takeRain_15 rfl rfl ?_
        refine va_iald (cA := cI) (n := 64) (f := T2_0 2) hx hb hK hP 2 0 rfl rfl (vp_in_nI (by omega) (by decide)) dX2_takeRain_16 ?_
        refine lv_iload_n hx hb dX2_takeRain_17 rfl (lv_at hl 1 rfl) ?_
        refine lv_iadd hx hb dX2_takeRain_18 ?_
        obtain ⟨S3, eS3⟩ : ∃ z : sS, z = s_put T2_0 2 ((nI i2).toNatClampNeg) ((T2_0 2 (nI i2).toNatClampNeg) + x) := ⟨_, rfl⟩
        refine va_iast (cA := cI) (n := 64) (f := T2_0 2) hx hb hK hP hD hS 2 0 rfl rfl (vp_in_nI (by omega) (by decide)) dX2_takeRain_19 (fun H locs hP hD hS => ?_)
        have hP : va_P (dC, dI) vwCl (sW cI a S3) H := by rw [eS3]; exact hP
        have hD : va_D A (sW cI a S3) := by rw [eS3]; exact hD
        have hGS3 : geo h w S3 := by rw [eS3]; exact geo_put hGT2_0 (Or.inl (by decide)) _
        refine lv_iinc (v := nI (i2 + 1)) (lv' := [(2, .int (nI (i2 + 1))), (0, .ref (a 0)), (1, .int x)]) hx hb dX2_takeRain_20 hl (k := 2) rfl (show nI i2 + Int32.ofInt 1 = nI (i2 + 1) from nI_1 i2) (by decide) rfl (fun ls hl => ?_)
        refine lv_goto (tgt := 2) hx hb dX2_takeRain_23 (by decide) ?_
        exact ih2 (i2 + 1) S3 _ _ ls (by omega) (by (try rw [eS3]); (try rw [eT2_0]); rfl) (hGS3) hP hD hS (lv_sub hl [1, 2, 0] rfl)
  exact lp2 (h * w) 0 S _ _ ls (by omega) rfl (hG0) hP hD hS (lv_sub hl [1, 2, 0] rfl)
set_option maxHeartbeats 4000000 in
set_option maxRecDepth 100000 in
theorem c_X2_takeSpring (l : Launch) (dC : Nat → ClassId) (dI : Nat → Nat → Nat) (cI : ClassId) (a : Nat → Nat) (h w : Nat) (S : sS) (x : Int32) (hG0 : geo h w S) : zV l yX2_takeSpring wsX2_takeSpring { frames := 0, cells := 0, slots := 0, locals := 0 } (dC, dI) cI [.ref (a 0), .int x] (sW cI a S) (sW cI a (sl_spring w S x)) := by
  refine zV_of (cc := cX2_takeSpring) (maxL := 4) (ret := none) (by decide) rfl (Nat.le_of_ble_eq_true rfl) ?_
  intro p e s m below meth c A ls C0 hl
  obtain ⟨hx, hb, hr, hml, hown, hts, hlocks, hK, hN, hA, hP, hD, hS⟩ := C0
  have hown : s.vm.findClass RX2 = some m.cls := hown
  have hl : lv_has ls 4 [(0, .ref (a 0)), (1, .int x)] := hl
  have hf9 := hts (.fieldLink RX2 9 "PaddyTerraces$Slope" "share" "[I") (by decide +kernel)
  have hf15 := hts (.fieldLink RX2 15 "PaddyTerraces$Slope" "depth" "[I") (by decide +kernel)
  have hf59 := hts (.fieldLink RX2 59 "PaddyTerraces$Slope" "w" "I") (by decide +kernel)
  have hinX2 : ∀ w ∈ wsX20, w ∈ wsX2_takeSpring := by decide +kernel
  have hS0 := hS
  have hN64 := geo_hw hG0
  have hW9 := geo_w hG0
  obtain ⟨-, -, hh2, hh8, hw2, hw8⟩ := id hG0
  refine lv_iconst (v := 0) hx hb dX2_takeSpring_0 (by decide) ?_
  refine lv_istore_n (lv' := [(2, .int 0), (0, .ref (a 0)), (1, .int x)]) hx hb dX2_takeSpring_1 rfl hl (by decide) rfl (fun ls hl => ?_)
  refine lv_iconst (v := 0) hx hb dX2_takeSpring_2 (by decide) ?_
  refine lv_istore_n (lv' := [(3, .int 0), (2, .int 0), (0, .ref (a 0)), (1, .int x)]) hx hb dX2_takeSpring_3 rfl hl (by decide) rfl (fun ls hl => ?_)
  have lp4 : ∀ (n4 i4 : Nat) (u4_2 : Int32) (H : Heap) (locs : List Loc) (ls : Array Slot), i4 + n4 = w → u4_2 = itr (fun i x => x + S 1 i.toNatClampNeg) i4 0 → va_P (dC, dI) vwCl (sW cI a S) H → va_D A (sW cI a S) → va_S A s.heap H locs → lv_has ls 4 [(0, .ref (a 0)), (1, .int x), (2, .int u4_2), (3, .int (nI i4))] → W p l e ({ frames := 0, cells := 0, slots := 0, locals := 0 } : Room) s m [.ref (a 0), .int x].toArray below meth c H locs 0 0 (zVq (dC, dI) A (sW cI a (sl_spring w S x)) below [.ref (a 0), .int x].toArray s 0 0) (F0 m 4 ls []) := by
    intro n4
    induction n4 with
    | zero =>
      intro i4 u4_2 H locs ls hi4 eu4_2 hP hD hS hl
      have hi4 : i4 = w := by omega
      rw [hi4] at eu4_2
      refine lv_iload_n hx hb dX2_takeSpring_4 rfl (lv_at hl 3 rfl) ?_
      refine lv_aload_n hx hb dX2_takeSpring_5 rfl (lv_at hl 0 rfl) ?_
      refine va_get (D := (dC, dI)) (ci := 2) (v := .int (S 0 1)) (C := RX2) (T := TX2) (N := 18) hx hb hts hinX2 hown hK hP 0 rfl rfl 1 (by decide) hf59 (fun _ h9 => h9) rfl dX2_takeSpring_6 ?_
      refine lv_icmp_ge (tgt := 27) hx hb dX2_takeSpring_9 (by decide) (fun c_1 => ?_) (fun c_1 => ?_)
      · refine lv_iload_n hx hb dX2_takeSpring_27 rfl (lv_at hl 2 rfl) ?_
        refine lv_if_ne (tgt := 32) hx hb dX2_takeSpring_28 (by decide) (fun c_2 => ?_) (fun c_2 => ?_)
        · refine lv_iconst (v := 0) hx hb dX2_takeSpring_32 (by decide) ?_
          refine lv_istore_n (lv' := [(3, .int 0), (0, .ref (a 0)), (1, .int x), (2, .int u4_2)]) hx hb dX2_takeSpring_33 rfl hl (by decide) rfl (fun ls hl => ?_)
          have lp34 : ∀ (n34 i34 : Nat) (T34_0 : sS) (H : Heap) (locs : List Loc) (ls : Array Slot), i34 + n34 = w → T34_0 = itr (fun i T => sl_spring1 T i x u4_2) i34 S → geo h w T34_0 → va_P (dC, dI) vwCl (sW cI a T34_0) H → va_D A (sW cI a T34_0) → va_S A s.heap H locs → lv_has ls 4 [(0, .ref (a 0)), (1, .int x), (2, .int u4_2), (3, .int (nI i34))] → W p l e ({ frames := 0, cells := 0, slots := 0, locals := 0 } : Room) s m [.ref (a 0), .int x].toArray below meth c H locs 0 0 (zVq (dC, dI) A (sW cI a (sl_spring w S x)) below [.ref (a 0), .int x].toArray s 0 0) (F0 m 34 ls []) := by
            intro n34
            induction n34 with
            | zero =>
              intro i34 T34_0 H locs ls hi34 eT34_0 hGT34_0 hP hD hS hl
              have hi34 : i34 = w := by omega
              rw [hi34] at eT34_0
              refine lv_iload_n hx hb dX2_takeSpring_34 rfl (lv_at hl 3 rfl) ?_
              refine lv_aload_n hx hb dX2_takeSpring_35 rfl (lv_at hl 0 rfl) ?_
              refine va_get (D := (dC, dI)) (ci := 2) (v := .int (T34_0 0 1)) (C := RX2) (T := TX2) (N := 18) hx hb hts hinX2 hown hK hP 0 rfl rfl 1 (by decide) hf59 (fun _ h9 => h9) rfl dX2_takeSpring_36 ?_
              refine lv_icmp_ge (tgt := 67) hx hb dX2_takeSpring_39 (by decide) (fun c_3 => ?_) (fun c_3 => ?_)
              · have hZ : T34_0 = sl_spring w S x := (by unfold sl_spring; rw [show sl_shares w S = u4_2 from eu4_2.symm]; simp only [if_pos c_1, if_neg c_2, if_pos c_3]; first | done | exact eT34_0)
                rw [hZ] at hP hD
                exact zV_ret hx hb hr hlocks hP hD hS dX2_takeSpring_67
              · exact absurd (by rw [show _ = nI (w) from hGT34_0.2.1]; exact nI_le (by omega) (by omega)) c_3
            | succ n34 ih34 =>
              intro i34 T34_0 H locs ls hi34 eT34_0 hGT34_0 hP hD hS hl
              refine lv_iload_n hx hb dX2_takeSpring_34 rfl (lv_at hl 3 rfl) ?_
              refine lv_aload_n hx hb dX2_takeSpring_35 rfl (lv_at hl 0 rfl) ?_
              refine va_get (D := (dC, dI)) (ci := 2) (v := .int (T34_0 0 1)) (C := RX2) (T := TX2) (N := 18) hx hb hts hinX2 hown hK hP 0 rfl rfl 1 (by decide) hf59 (fun _ h9 => h9) rfl dX2_takeSpring_36 ?_
              refine lv_icmp_ge (tgt := 67) hx hb dX2_takeSpring_39 (by decide) (fun c_4 => ?_) (fun c_4 => ?_)
              · exact absurd c_4 (by rw [show _ = nI (w) from hGT34_0.2.1]; exact nI_ge (by omega) (by omega))
              · refine lv_aload_n hx hb dX2_takeSpring_42 rfl (lv_at hl 0 rfl) ?_
                refine va_get (D := (dC, dI)) (ci := 2) (v := .ref (a 2)) (C := RX2) (T := TX2) (N := 18) hx hb hts hinX2 hown hK hP 0 rfl rfl 6 (by decide) hf15 (fun _ h9 => h9) rfl dX2_takeSpring_43 ?_
                refine lv_iload_n hx hb dX2_takeSpring_46 rfl (lv_at hl 3 rfl) ?_
                refine lv_dup2_11 hx hb dX2_takeSpring_47 rfl rfl ?_
                refine va_iald (cA := cI) (n := 64) (f := T34_0 2) hx hb hK hP 2 0 rfl rfl (vp_in_nI (by omega) (by decide)) dX2_takeSpring_48 ?_
                refine lv_iload_n hx hb dX2_takeSpring_49 rfl (lv_at hl 1 rfl) ?_
                refine lv_aload_n hx hb dX2_takeSpring_50 rfl (lv_at hl 0 rfl) ?_
                refine va_get (D := (dC, dI)) (ci := 2) (v := .ref (a 1)) (C := RX2) (T := TX2) (N := 18) hx hb hts hinX2 hown hK hP 0 rfl rfl 5 (by decide) hf9 (fun _ h9 => h9) rfl dX2_takeSpring_51 ?_
                refine lv_iload_n hx hb dX2_takeSpring_54 rfl (lv_at hl 3 rfl) ?_
                refine va_iald (cA := cI) (n := 8) (f := T34_0 1) hx hb hK hP 1 0 rfl rfl (vp_in_nI (by omega) (by decide)) dX2_takeSpring_55 ?_
                refine lv_imul hx hb dX2_takeSpring_56 ?_
                refine lv_iload_n hx hb dX2_takeSpring_57 rfl (lv_at hl 2 rfl) ?_
                refine lv_idiv hx hb dX2_takeSpring_58 c_2 ?_
                refine lv_iadd hx hb dX2_takeSpring_59 ?_
                obtain ⟨S5, eS5⟩ : ∃ z : sS, z = s_put T34_0 2 ((nI i34).toNatClampNeg) ((T34_0 2 (nI i34).toNatClampNeg) + ((x * (T34_0 1 (nI i34).toNatClampNeg)) / u4_2)) := ⟨_, rfl⟩
                refine va_iast (cA := cI) (n := 64) (f := T34_0 2) hx hb hK hP hD hS 2 0 rfl rfl (vp_in_nI (by omega) (by decide)) dX2_takeSpring_60 (fun H locs hP hD hS => ?_)
                have hP : va_P (dC, dI) vwCl (sW cI a S5) H := by rw [eS5]; exact hP
                have hD : va_D A (sW cI a S5) := by rw [eS5]; exact hD
                have hGS5 : geo h w S5 := by rw [eS5]; exact geo_put hGT34_0 (Or.inl (by decide)) _
                refine lv_iinc (v := nI (i34 + 1)) (lv' := [(3, .int (nI (i34 + 1))), (0, .ref (a 0)), (1, .int x), (2, .int u4_2)]) hx hb dX2_takeSpring_61 hl (k := 3) rfl (show nI i34 + Int32.ofInt 1 = nI (i34 + 1) from nI_1 i34) (by decide) rfl (fun ls hl => ?_)
                refine lv_goto (tgt := 34) hx hb dX2_takeSpring_64 (by decide) ?_
                exact ih34 (i34 + 1) S5 _ _ ls (by omega) (by (try rw [eS5]); (try rw [eT34_0]); rfl) (hGS5) hP hD hS (lv_sub hl [1, 2, 3, 0] rfl)
          exact lp34 (w) 0 S _ _ ls (by omega) rfl (hG0) hP hD hS (lv_sub hl [1, 2, 3, 0] rfl)
        · have hZ : S = sl_spring w S x := (by unfold sl_spring; rw [show sl_shares w S = u4_2 from eu4_2.symm]; simp only [if_pos c_1, if_pos c_2]; first | done | exact eT34_0)
          rw [hZ] at hP hD
          exact zV_ret hx hb hr hlocks hP hD hS dX2_takeSpring_31
      · exact absurd (by rw [show _ = nI (w) from hG0.2.1]; exact nI_le (by omega) (by omega)) c_1
    | succ n4 ih4 =>
      intro i4 u4_2 H locs ls hi4 eu4_2 hP hD hS hl
      refine lv_iload_n hx hb dX2_takeSpring_4 rfl (lv_at hl 3 rfl) ?_
      refine lv_aload_n hx hb dX2_takeSpring_5 rfl (lv_at hl 0 rfl) ?_
      refine va_get (D := (dC, dI)) (ci := 2) (v := .int (S 0 1)) (C := RX2) (T := TX2) (N := 18) hx hb hts hinX2 hown hK hP 0 rfl rfl 1 (by decide) hf59 (fun _ h9 => h9) rfl dX2_takeSpring_6 ?_
      refine lv_icmp_ge (tgt := 27) hx hb dX2_takeSpring_9 (by decide) (fun c_6 => ?_) (fun c_6 => ?_)
      · exact absurd c_6 (by rw [show _ = nI (w) from hG0.2.1]; exact nI_ge (by omega) (by omega))
      · refine lv_iload_n hx hb dX2_takeSpring_12 rfl (lv_at hl 2 rfl) ?_
        refine lv_aload_n hx hb dX2_takeSpring_13 rfl (lv_at hl 0 rfl) ?_
        refine va_get (D := (dC, dI)) (ci := 2) (v := .ref (a 1)) (C := RX2) (T := TX2) (N := 18) hx hb hts hinX2 hown hK hP 0 rfl rfl 5 (by decide) hf9 (fun _ h9 => h9) rfl dX2_takeSpring_14 ?_
        refine lv_iload_n hx hb dX2_takeSpring_17 rfl (lv_at hl 3 rfl) ?_
        refine va_iald (cA := cI) (n := 8) (f := S 1) hx hb hK hP 1 0 rfl rfl (vp_in_nI (by omega) (by decide)) dX2_takeSpring_18 ?_
        refine lv_iadd hx hb dX2_takeSpring_19 ?_
        refine lv_istore_n (lv' := [(2, .int (u4_2 + (S 1 (nI i4).toNatClampNeg))), (0, .ref (a 0)), (1, .int x), (3, .int (nI i4))]) hx hb dX2_takeSpring_20 rfl hl (by decide) rfl (fun ls hl => ?_)
        refine lv_iinc (v := nI (i4 + 1)) (lv' := [(3, .int (nI (i4 + 1))), (2, .int (u4_2 + (S 1 (nI i4).toNatClampNeg))), (0, .ref (a 0)), (1, .int x)]) hx hb dX2_takeSpring_21 hl (k := 3) rfl (show nI i4 + Int32.ofInt 1 = nI (i4 + 1) from nI_1 i4) (by decide) rfl (fun ls hl => ?_)
        refine lv_goto (tgt := 4) hx hb dX2_takeSpring_24 (by decide) ?_
        exact ih4 (i4 + 1) (u4_2 + (S 1 (nI i4).toNatClampNeg)) _ _ ls (by omega) (by (try rw [eu4_2]); rfl) hP hD hS (lv_sub hl [2, 3, 1, 0] rfl)
  exact lp4 (w) 0 0 _ _ ls (by omega) rfl hP hD hS (lv_sub hl [2, 3, 1, 0] rfl)
set_option maxHeartbeats 4000000 in
set_option maxRecDepth 100000 in
theorem c_X2_loseWater (l : Launch) (dC : Nat → ClassId) (dI : Nat → Nat → Nat) (cI : ClassId) (a : Nat → Nat) (h w : Nat) (S : sS) (x : Int32) (hG0 : geo h w S) : zV l yX2_loseWater wsX2_loseWater { frames := 1, cells := 0, slots := 0, locals := 20 } (dC, dI) cI [.ref (a 0), .int x] (sW cI a S) (sW cI a (sl_lose h w S x)) := by
  refine zV_of (cc := cX2_loseWater) (maxL := 4) (ret := none) (by decide) rfl (Nat.le_of_ble_eq_true rfl) ?_
  intro p e s m below meth c A ls C0 hl
  obtain ⟨hx, hb, hr, hml, hown, hts, hlocks, hK, hN, hA, hP, hD, hS⟩ := C0
  have hown : s.vm.findClass RX2 = some m.cls := hown
  have hl : lv_has ls 4 [(0, .ref (a 0)), (1, .int x)] := hl
  have hf15 := hts (.fieldLink RX2 15 "PaddyTerraces$Slope" "depth" "[I") (by decide +kernel)
  have hf21 := hts (.fieldLink RX2 21 "PaddyTerraces$Slope" "seepage" "[I") (by decide +kernel)
  have hf65 := hts (.fieldLink RX2 65 "PaddyTerraces$Slope" "brook" "I") (by decide +kernel)
  have hc_max := hts (.code Lib.Math.max.name Lib.Math.max.code 2 (some .int)) (by decide +kernel)
  have hc_min := hts (.code Lib.Math.min.name Lib.Math.min.code 2 (some .int)) (by decide +kernel)
  have hi_Math := hts (.initialized "java/lang/Math") (by decide +kernel)
  have hm132 := hts (.methodLink RX2 132 Lib.Math.max.name) (by decide +kernel)
  have hm137 := hts (.methodLink RX2 137 Lib.Math.min.name) (by decide +kernel)
  have hs_max := hts (.static Lib.Math.max.name) (by decide +kernel)
  have hs_min := hts (.static Lib.Math.min.name) (by decide +kernel)
  have hinX2 : ∀ w ∈ wsX20, w ∈ wsX2_loseWater := by decide +kernel
  have hS0 := hS
  have hN64 := geo_hw hG0
  have hW9 := geo_w hG0
  obtain ⟨-, -, hh2, hh8, hw2, hw8⟩ := id hG0
  refine lv_iconst (v := 0) hx hb dX2_loseWater_0 (by decide) ?_
  refine lv_istore_n (lv' := [(2, .int 0), (0, .ref (a 0)), (1, .int x)]) hx hb dX2_loseWater_1 rfl hl (by decide) rfl (fun ls hl => ?_)
  have lp2 : ∀ (n2 i2 : Nat) (T2_0 : sS) (H : Heap) (locs : List Loc) (ls : Array Slot), i2 + n2 = h * w → T2_0 = itr (fun i T => sl_lose1 T i x) i2 S → geo h w T2_0 → va_P (dC, dI) vwCl (sW cI a T2_0) H → va_D A (sW cI a T2_0) → va_S A s.heap H locs → lv_has ls 4 [(0, .ref (a 0)), (1, .int x), (2, .int (nI i2))] → W p l e ({ frames := 1, cells := 0, slots := 0, locals := 20 } : Room) s m [.ref (a 0), .int x].toArray below meth c H locs 0 0 (zVq (dC, dI) A (sW cI a (sl_lose h w S x)) below [.ref (a 0), .int x].toArray s 0 0) (F0 m 2 ls []) := by
    intro n2
    induction n2 with
    | zero =>
      intro i2 T2_0 H locs ls hi2 eT2_0 hGT2_0 hP hD hS hl
      have hi2 : i2 = h * w := by omega
      rw [hi2] at eT2_0
      refine lv_iload_n hx hb dX2_loseWater_2 rfl (lv_at hl 2 rfl) ?_
      refine lv_aload_n hx hb dX2_loseWater_3 rfl (lv_at hl 0 rfl) ?_
      refine zI_V (pre := ([] : va_W)) (wc := sW cI a T2_0) (post := ([] : va_W)) (w1 := sW cI a T2_0) ⟨hx, hb, hml, hown, hts⟩ (c_X2_cells l dC dI cI a T2_0) (cwV 0 hts gX2_loseWater_X2_cells rfl rfl rfl (by decide +kernel) ⟨Nat.le_of_ble_eq_true rfl, Nat.le_of_ble_eq_true rfl⟩) (by simp only [List.append_assoc, List.append_nil, List.nil_append]) hK hN (ci := 2) (q0 := 0) rfl rfl rfl hP hD hS hA rfl hl.1 rfl (Nat.le_of_ble_eq_true rfl) dX2_loseWater_4 ⟨Nat.le_of_ble_eq_true rfl, Nat.le_of_ble_eq_true rfl⟩ (fun H locs hP hD hS => ?_)
      have hP : va_P (dC, dI) vwCl (sW cI a T2_0) H := by simpa only [List.append_assoc, List.append_nil, List.nil_append] using hP
      have hD : va_D A (sW cI a T2_0) := by simpa only [List.append_assoc, List.append_nil, List.nil_append] using hD
      refine lv_icmp_ge (tgt := 66) hx hb dX2_loseWater_7 (by decide) (fun c_1 => ?_) (fun c_1 => ?_)
      · have hZ : T2_0 = sl_lose h w S x := (by (try rw [eT2_0]); first | done | rfl | (simp only [sl_lose, if_pos c_1]; done) | (unfold sl_lose; simp only [if_pos c_1]; done))
        rw [hZ] at hP hD
        exact zV_ret hx hb hr hlocks hP hD hS dX2_loseWater_66
      · exact absurd (by rw [show _ = nI (h * w) from (geo_cells hGT2_0)]; exact nI_le (by omega) (by omega)) c_1
    | succ n2 ih2 =>
      intro i2 T2_0 H locs ls hi2 eT2_0 hGT2_0 hP hD hS hl
      refine lv_iload_n hx hb dX2_loseWater_2 rfl (lv_at hl 2 rfl) ?_
      refine lv_aload_n hx hb dX2_loseWater_3 rfl (lv_at hl 0 rfl) ?_
      refine zI_V (pre := ([] : va_W)) (wc := sW cI a T2_0) (post := ([] : va_W)) (w1 := sW cI a T2_0) ⟨hx, hb, hml, hown, hts⟩ (c_X2_cells l dC dI cI a T2_0) (cwV 0 hts gX2_loseWater_X2_cells rfl rfl rfl (by decide +kernel) ⟨Nat.le_of_ble_eq_true rfl, Nat.le_of_ble_eq_true rfl⟩) (by simp only [List.append_assoc, List.append_nil, List.nil_append]) hK hN (ci := 2) (q0 := 0) rfl rfl rfl hP hD hS hA rfl hl.1 rfl (Nat.le_of_ble_eq_true rfl) dX2_loseWater_4 ⟨Nat.le_of_ble_eq_true rfl, Nat.le_of_ble_eq_true rfl⟩ (fun H locs hP hD hS => ?_)
      have hP : va_P (dC, dI) vwCl (sW cI a T2_0) H := by simpa only [List.append_assoc, List.append_nil, List.nil_append] using hP
      have hD : va_D A (sW cI a T2_0) := by simpa only [List.append_assoc, List.append_nil, List.nil_append] using hD
      refine lv_icmp_ge (tgt := 66) hx hb dX2_loseWater_7 (by decide) (fun c_2 => ?_) (fun c_2 => ?_)
      · exact absurd c_2 (by rw [show _ = nI (h * w) from (geo_cells hGT2_0)]; exact nI_ge (by omega) (by omega))
      · refine lv_aload_n hx hb dX2_loseWater_10 rfl (lv_at hl 0 rfl) ?_
        refine va_get (D := (dC, dI)) (ci := 2) (v := .ref (a 2)) (C := RX2) (T := TX2) (N := 18) hx hb hts hinX2 hown hK hP 0 rfl rfl 6 (by decide) hf15 (fun _ h9 => h9) rfl dX2_loseWater_11 ?_
        refine lv_iload_n hx hb dX2_loseWater_14 rfl (lv_at hl 2 rfl) ?_
        refine va_iald (cA := cI) (n := 64) (f := T2_0 2) hx hb hK hP 2 0 rfl rfl (vp_in_nI (by omega) (by decide)) dX2_loseWater_15 ?_
        refine lv_aload_n hx hb dX2_loseWater_16 rfl (lv_at hl 0 rfl) ?_
        refine va_get (D := (dC, dI)) (ci := 2) (v := .ref (a 4)) (C := RX2) (T := TX2) (N := 18) hx hb hts hinX2 hown hK hP 0 rfl rfl 8 (by decide) hf21 (fun _ h9 => h9) rfl dX2_loseWater_17 ?_
        refine lv_iload_n hx hb dX2_loseWater_20 rfl (lv_at hl 2 rfl) ?_
        refine va_iald (cA := cI) (n := 64) (f := T2_0 4) hx hb hK hP 4 0 rfl rfl (vp_in_nI (by omega) (by decide)) dX2_loseWater_21 ?_
        refine lv_isub hx hb dX2_loseWater_22 ?_
        refine lv_iload_n hx hb dX2_loseWater_23 rfl (lv_at hl 1 rfl) ?_
        refine lv_isub hx hb dX2_loseWater_24 ?_
        refine lv_iconst (v := 0) hx hb dX2_loseWater_25 (by decide) ?_
        refine va_mmax hx hb (hml.trans hl.1.symm) hown hm132 hs_max hi_Math hc_max (Nat.le_of_ble_eq_true rfl) (Nat.le_of_ble_eq_true rfl) (Nat.le_of_ble_eq_true rfl) (Nat.le_of_ble_eq_true rfl) dX2_loseWater_26 ?_
        refine lv_istore_n (lv' := [(3, .int (zmax (((T2_0 2 (nI i2).toNatClampNeg) - (T2_0 4 (nI i2).toNatClampNeg)) - x) 0)), (0, .ref (a 0)), (1, .int x), (2, .int (nI i2))]) hx hb dX2_loseWater_29 rfl hl (by decide) rfl (fun ls hl => ?_)
        refine lv_aload_n hx hb dX2_loseWater_30 rfl (lv_at hl 1 rfl) ?_
        refine va_get (D := (dC, dI)) (ci := 2) (v := .ref (a 2)) (C := RX2) (T := TX2) (N := 18) hx hb hts hinX2 hown hK hP 0 rfl rfl 6 (by decide) hf15 (fun _ h9 => h9) rfl dX2_loseWater_31 ?_
        refine lv_iload_n hx hb dX2_loseWater_34 rfl (lv_at hl 3 rfl) ?_
        refine lv_iload_n hx hb dX2_loseWater_35 rfl (lv_at hl 0 rfl) ?_
        refine lv_sipush (v := 200) hx hb dX2_loseWater_36 (by decide) ?_
        refine va_mmin hx hb (hml.trans hl.1.symm) hown hm137 hs_min hi_Math hc_min (Nat.le_of_ble_eq_true rfl) (Nat.le_of_ble_eq_true rfl) (Nat.le_of_ble_eq_true rfl) (Nat.le_of_ble_eq_true rfl) dX2_loseWater_39 ?_
        obtain ⟨S3, eS3⟩ : ∃ z : sS, z = s_put T2_0 2 ((nI i2).toNatClampNeg) (zmin (zmax (((T2_0 2 (nI i2).toNatClampNeg) - (T2_0 4 (nI i2).toNatClampNeg)) - x) 0) 200) := ⟨_, rfl⟩
        refine va_iast (cA := cI) (n := 64) (f := T2_0 2) hx hb hK hP hD hS 2 0 rfl rfl (vp_in_nI (by omega) (by decide)) dX2_loseWater_42 (fun H locs hP hD hS => ?_)
        have hP : va_P (dC, dI) vwCl (sW cI a S3) H := by rw [eS3]; exact hP
        have hD : va_D A (sW cI a S3) := by rw [eS3]; exact hD
        have hGS3 : geo h w S3 := by rw [eS3]; exact geo_put hGT2_0 (Or.inl (by decide)) _
        refine lv_aload_n hx hb dX2_loseWater_43 rfl (lv_at hl 1 rfl) ?_
        refine lv_dup hx hb dX2_loseWater_44 rfl ?_
        refine va_get (D := (dC, dI)) (ci := 2) (v := .int (S3 0 3)) (C := RX2) (T := TX2) (N := 18) hx hb hts hinX2 hown hK hP 0 rfl rfl 3 (by decide) hf65 (fun _ h9 => h9) rfl dX2_loseWater_45 ?_
        refine lv_iload_n hx hb dX2_loseWater_48 rfl (lv_at hl 0 rfl) ?_
        refine lv_aload_n hx hb dX2_loseWater_49 rfl (lv_at hl 1 rfl) ?_
        refine va_get (D := (dC, dI)) (ci := 2) (v := .ref (a 2)) (C := RX2) (T := TX2) (N := 18) hx hb hts hinX2 hown hK hP 0 rfl rfl 6 (by decide) hf15 (fun _ h9 => h9) rfl dX2_loseWater_50 ?_
        refine lv_iload_n hx hb dX2_loseWater_53 rfl (lv_at hl 3 rfl) ?_
        refine va_iald (cA := cI) (n := 64) (f := S3 2) hx hb hK hP 2 0 rfl rfl (vp_in_nI (by omega) (by decide)) dX2_loseWater_54 ?_
        refine lv_isub hx hb dX2_loseWater_55 ?_
        refine lv_iadd hx hb dX2_loseWater_56 ?_
        obtain ⟨S4, eS4⟩ : ∃ z : sS, z = s_put S3 0 3 ((S3 0 3) + ((zmax (((T2_0 2 (nI i2).toNatClampNeg) - (T2_0 4 (nI i2).toNatClampNeg)) - x) 0) - (S3 2 (nI i2).toNatClampNeg))) := ⟨_, rfl⟩
        refine va_put (D := (dC, dI)) (ci := 2) (v := .int ((S3 0 3) + ((zmax (((T2_0 2 (nI i2).toNatClampNeg) - (T2_0 4 (nI i2).toNatClampNeg)) - x) 0) - (S3 2 (nI i2).toNatClampNeg)))) (ty := .int) (C := RX2) (T := TX2) (N := 18) hx hb hts hinX2 tyX2 tyX2_ok nmX2 hown hK hP hD hS 0 rfl rfl 3 (by decide) hf65 (fun _ h9 => h9) rfl (by decide +kernel) rfl rfl (Nat.le_of_ble_eq_true rfl) dX2_loseWater_57 (fun H locs hP hD hS => ?_)
        have hP : va_P (dC, dI) vwCl (sW cI a S4) H := by rw [eS4]; exact hP
        have hD : va_D A (sW cI a S4) := by rw [eS4]; exact hD
        have hGS4 : geo h w S4 := by rw [eS4]; exact geo_put hGS3 (Or.inr (by decide)) _
        refine lv_iinc (v := nI (i2 + 1)) (lv' := [(2, .int (nI (i2 + 1))), (3, .int (zmax (((T2_0 2 (nI i2).toNatClampNeg) - (T2_0 4 (nI i2).toNatClampNeg)) - x) 0)), (0, .ref (a 0)), (1, .int x)]) hx hb dX2_loseWater_60 hl (k := 3) rfl (show nI i2 + Int32.ofInt 1 = nI (i2 + 1) from nI_1 i2) (by decide) rfl (fun ls hl => ?_)
        refine lv_goto (tgt := 2) hx hb dX2_loseWater_63 (by decide) ?_
        exact ih2 (i2 + 1) S4 _ _ ls (by omega) (by (try rw [eS4]); (try rw [eS3]); (try rw [eT2_0]); rfl) (hGS4) hP hD hS (lv_sub hl [2, 3, 0] rfl)
  exact lp2 (h * w) 0 S _ _ ls (by omega) rfl (hG0) hP hD hS (lv_sub hl [1, 2, 0] rfl)
end
section
set_option maxHeartbeats 4000000 in
set_option maxRecDepth 100000 in
theorem c_X2_clearCrop (l : Launch) (dC : Nat → ClassId) (dI : Nat → Nat → Nat) (cI : ClassId) (a : Nat → Nat) (S : sS) (i : Int32) (hC : vp_in i 64) : zV l yX2_clearCrop wsX2_clearCrop { frames := 0, cells := 0, slots := 0, locals := 0 } (dC, dI) cI [.ref (a 0), .int i] (sW cI a S) (sW cI a (sl_clear S i)) := by
  refine zV_of (cc := cX2_clearCrop) (maxL := 2) (ret := none) (by decide) rfl (Nat.le_of_ble_eq_true rfl) ?_
  intro p e s m below meth c A ls C0 hl
  obtain ⟨hx, hb, hr, hml, hown, hts, hlocks, hK, hN, hA, hP, hD, hS⟩ := C0
  have hown : s.vm.findClass RX2 = some m.cls := hown
  have hl : lv_has ls 2 [(0, .ref (a 0)), (1, .int i)] := hl
  have hf30 := hts (.fieldLink RX2 30 "PaddyTerraces$Slope" "crop" "[I") (by decide +kernel)
  have hf33 := hts (.fieldLink RX2 33 "PaddyTerraces$Slope" "age" "[I") (by decide +kernel)
  have hf36 := hts (.fieldLink RX2 36 "PaddyTerraces$Slope" "hardness" "[I") (by decide +kernel)
  have hf39 := hts (.fieldLink RX2 39 "PaddyTerraces$Slope" "drowned" "[I") (by decide +kernel)
  have hf42 := hts (.fieldLink RX2 42 "PaddyTerraces$Slope" "dry" "[I") (by decide +kernel)
  have hinX2 : ∀ w ∈ wsX20, w ∈ wsX2_clearCrop := by decide +kernel
  have hS0 := hS
  refine lv_aload_n hx hb dX2_clearCrop_0 rfl (lv_at hl 0 rfl) ?_
  refine va_get (D := (dC, dI)) (ci := 2) (v := .ref (a 7)) (C := RX2) (T := TX2) (N := 18) hx hb hts hinX2 hown hK hP 0 rfl rfl 11 (by decide) hf30 (fun _ h9 => h9) rfl dX2_clearCrop_1 ?_
  refine lv_iload_n hx hb dX2_clearCrop_4 rfl (lv_at hl 1 rfl) ?_
  refine lv_iconst (v := 0) hx hb dX2_clearCrop_5 (by decide) ?_
  obtain ⟨S1, eS1⟩ : ∃ z : sS, z = s_put S 7 i.toNatClampNeg 0 := ⟨_, rfl⟩
  refine va_iast (cA := cI) (n := 64) (f := S 7) hx hb hK hP hD hS 7 0 rfl rfl hC dX2_clearCrop_6 (fun H locs hP hD hS => ?_)
  have hP : va_P (dC, dI) vwCl (sW cI a S1) H := by rw [eS1]; exact hP
  have hD : va_D A (sW cI a S1) := by rw [eS1]; exact hD
  refine lv_aload_n hx hb dX2_clearCrop_7 rfl (lv_at hl 0 rfl) ?_
  refine va_get (D := (dC, dI)) (ci := 2) (v := .ref (a 8)) (C := RX2) (T := TX2) (N := 18) hx hb hts hinX2 hown hK hP 0 rfl rfl 12 (by decide) hf33 (fun _ h9 => h9) rfl dX2_clearCrop_8 ?_
  refine lv_iload_n hx hb dX2_clearCrop_11 rfl (lv_at hl 1 rfl) ?_
  refine lv_iconst (v := 0) hx hb dX2_clearCrop_12 (by decide) ?_
  obtain ⟨S2, eS2⟩ : ∃ z : sS, z = s_put S1 8 i.toNatClampNeg 0 := ⟨_, rfl⟩
  refine va_iast (cA := cI) (n := 64) (f := S1 8) hx hb hK hP hD hS 8 0 rfl rfl hC dX2_clearCrop_13 (fun H locs hP hD hS => ?_)
  have hP : va_P (dC, dI) vwCl (sW cI a S2) H := by rw [eS2]; exact hP
  have hD : va_D A (sW cI a S2) := by rw [eS2]; exact hD
  refine lv_aload_n hx hb dX2_clearCrop_14 rfl (lv_at hl 0 rfl) ?_
  refine va_get (D := (dC, dI)) (ci := 2) (v := .ref (a 9)) (C := RX2) (T := TX2) (N := 18) hx hb hts hinX2 hown hK hP 0 rfl rfl 13 (by decide) hf36 (fun _ h9 => h9) rfl dX2_clearCrop_15 ?_
  refine lv_iload_n hx hb dX2_clearCrop_18 rfl (lv_at hl 1 rfl) ?_
  refine lv_iconst (v := 0) hx hb dX2_clearCrop_19 (by decide) ?_
  obtain ⟨S3, eS3⟩ : ∃ z : sS, z = s_put S2 9 i.toNatClampNeg 0 := ⟨_, rfl⟩
  refine va_iast (cA := cI) (n := 64) (f := S2 9) hx hb hK hP hD hS 9 0 rfl rfl hC dX2_clearCrop_20 (fun H locs hP hD hS => ?_)
  have hP : va_P (dC, dI) vwCl (sW cI a S3) H := by rw [eS3]; exact hP
  have hD : va_D A (sW cI a S3) := by rw [eS3]; exact hD
  refine lv_aload_n hx hb dX2_clearCrop_21 rfl (lv_at hl 0 rfl) ?_
  refine va_get (D := (dC, dI)) (ci := 2) (v := .ref (a 10)) (C := RX2) (T := TX2) (N := 18) hx hb hts hinX2 hown hK hP 0 rfl rfl 14 (by decide) hf39 (fun _ h9 => h9) rfl dX2_clearCrop_22 ?_
  refine lv_iload_n hx hb dX2_clearCrop_25 rfl (lv_at hl 1 rfl) ?_
  refine lv_iconst (v := 0) hx hb dX2_clearCrop_26 (by decide) ?_
  obtain ⟨S4, eS4⟩ : ∃ z : sS, z = s_put S3 10 i.toNatClampNeg 0 := ⟨_, rfl⟩
  refine va_iast (cA := cI) (n := 64) (f := S3 10) hx hb hK hP hD hS 10 0 rfl rfl hC dX2_clearCrop_27 (fun H locs hP hD hS => ?_)
  have hP : va_P (dC, dI) vwCl (sW cI a S4) H := by rw [eS4]; exact hP
  have hD : va_D A (sW cI a S4) := by rw [eS4]; exact hD
  refine lv_aload_n hx hb dX2_clearCrop_28 rfl (lv_at hl 0 rfl) ?_
  refine va_get (D := (dC, dI)) (ci := 2) (v := .ref (a 11)) (C := RX2) (T := TX2) (N := 18) hx hb hts hinX2 hown hK hP 0 rfl rfl 15 (by decide) hf42 (fun _ h9 => h9) rfl dX2_clearCrop_29 ?_
  refine lv_iload_n hx hb dX2_clearCrop_32 rfl (lv_at hl 1 rfl) ?_
  refine lv_iconst (v := 0) hx hb dX2_clearCrop_33 (by decide) ?_
  obtain ⟨S5, eS5⟩ : ∃ z : sS, z = s_put S4 11 i.toNatClampNeg 0 := ⟨_, rfl⟩
  refine va_iast (cA := cI) (n := 64) (f := S4 11) hx hb hK hP hD hS 11 0 rfl rfl hC dX2_clearCrop_34 (fun H locs hP hD hS => ?_)
  have hP : va_P (dC, dI) vwCl (sW cI a S5) H := by rw [eS5]; exact hP
  have hD : va_D A (sW cI a S5) := by rw [eS5]; exact hD
  have hZ : S5 = sl_clear S i := (by (try rw [eS5]); (try rw [eS4]); (try rw [eS3]); (try rw [eS2]); (try rw [eS1]); first | done | rfl | (simp only [sl_clear]; done))
  rw [hZ] at hP hD
  exact zV_ret hx hb hr hlocks hP hD hS dX2_clearCrop_35
set_option maxHeartbeats 4000000 in
set_option maxRecDepth 100000 in
theorem c_X2_hardening (l : Launch) (dC : Nat → ClassId) (dI : Nat → Nat → Nat) (cI : ClassId) (a : Nat → Nat) (S : sS) (i : Int32) (hC : vp_in i 64) : zI l yX2_hardening wsX2_hardening { frames := 1, cells := 0, slots := 0, locals := 22 } (dC, dI) cI [.ref (a 0), .int i] (sW cI a S) (sW cI a S) (sl_hard S i) := by
  refine zI_of (cc := cX2_hardening) (maxL := 2) (ret := (some .int)) (by decide) rfl (Nat.le_of_ble_eq_true rfl) ?_
  intro p e s m below meth c A ls C0 hl
  obtain ⟨hx, hb, hr, hml, hown, hts, hlocks, hK, hN, hA, hP, hD, hS⟩ := C0
  have hown : s.vm.findClass RX2 = some m.cls := hown
  have hl : lv_has ls 2 [(0, .ref (a 0)), (1, .int i)] := hl
  have hf15 := hts (.fieldLink RX2 15 "PaddyTerraces$Slope" "depth" "[I") (by decide +kernel)
  have hf39 := hts (.fieldLink RX2 39 "PaddyTerraces$Slope" "drowned" "[I") (by decide +kernel)
  have hf42 := hts (.fieldLink RX2 42 "PaddyTerraces$Slope" "dry" "[I") (by decide +kernel)
  have hi_X3 := hts (.initialized RX3) (by decide +kernel)
  have hst_isWithin := hts (.static yX3_isWithin) (by decide +kernel)
  have hinX2 : ∀ w ∈ wsX20, w ∈ wsX2_hardening := by decide +kernel
  have hS0 := hS
  refine lv_aload_n hx hb dX2_hardening_0 rfl (lv_at hl 0 rfl) ?_
  refine va_get (D := (dC, dI)) (ci := 2) (v := .ref (a 10)) (C := RX2) (T := TX2) (N := 18) hx hb hts hinX2 hown hK hP 0 rfl rfl 14 (by decide) hf39 (fun _ h9 => h9) rfl dX2_hardening_1 ?_
  refine lv_iload_n hx hb dX2_hardening_4 rfl (lv_at hl 1 rfl) ?_
  refine va_iald (cA := cI) (n := 64) (f := S 10) hx hb hK hP 10 0 rfl rfl hC dX2_hardening_5 ?_
  refine lv_if_gt (tgt := 18) hx hb dX2_hardening_6 (by decide) (fun c_1 => ?_) (fun c_1 => ?_)
  · refine lv_bipush (v := (-3)) hx hb dX2_hardening_18 (by decide) ?_
    exact zI_ret hx hb hr hlocks hP hD hS rfl (by first | done | rfl | (simp only [sl_hard, if_pos c_1]; done)) dX2_hardening_20
  · refine lv_aload_n hx hb dX2_hardening_9 rfl (lv_at hl 0 rfl) ?_
    refine va_get (D := (dC, dI)) (ci := 2) (v := .ref (a 11)) (C := RX2) (T := TX2) (N := 18) hx hb hts hinX2 hown hK hP 0 rfl rfl 15 (by decide) hf42 (fun _ h9 => h9) rfl dX2_hardening_10 ?_
    refine lv_iload_n hx hb dX2_hardening_13 rfl (lv_at hl 1 rfl) ?_
    refine va_iald (cA := cI) (n := 64) (f := S 11) hx hb hK hP 11 0 rfl rfl hC dX2_hardening_14 ?_
    refine lv_if_le (tgt := 21) hx hb dX2_hardening_15 (by decide) (fun c_2 => ?_) (fun c_2 => ?_)
    · refine lv_aload_n hx hb dX2_hardening_21 rfl (lv_at hl 0 rfl) ?_
      refine va_get (D := (dC, dI)) (ci := 2) (v := .ref (a 2)) (C := RX2) (T := TX2) (N := 18) hx hb hts hinX2 hown hK hP 0 rfl rfl 6 (by decide) hf15 (fun _ h9 => h9) rfl dX2_hardening_22 ?_
      refine lv_iload_n hx hb dX2_hardening_25 rfl (lv_at hl 1 rfl) ?_
      refine va_iald (cA := cI) (n := 64) (f := S 2) hx hb hK hP 2 0 rfl rfl hC dX2_hardening_26 ?_
      refine lv_iconst (v := 5) hx hb dX2_hardening_27 (by decide) ?_
      refine lv_bipush (v := 25) hx hb dX2_hardening_28 (by decide) ?_
      refine zI_SN (pre := (sW cI a S)) (wc := ([] : va_W)) (post := ([] : va_W)) (w1 := ([] : va_W)) ⟨hx, hb, hml, hown, hts⟩ (c_X3_isWithin l dC dI cI (S 2 i.toNatClampNeg) 5 25) ⟨va_cnB 3 hts gX2_hardening_X3_isWithin_n155 rfl rfl rfl hN.1 hi_X3 (by decide +kernel) ⟨Nat.le_of_ble_eq_true rfl, Nat.le_of_ble_eq_true rfl⟩, hst_isWithin, trivial⟩ (by simp only [List.append_assoc, List.append_nil, List.nil_append]) hK hN hP hD hS hA rfl hl.1 rfl (Nat.le_of_ble_eq_true rfl) dX2_hardening_30 ⟨Nat.le_of_ble_eq_true rfl, Nat.le_of_ble_eq_true rfl⟩ (fun H locs hP hD hS => ?_)
      have hP : va_P (dC, dI) vwCl (sW cI a S) H := by simpa only [List.append_assoc, List.append_nil, List.nil_append] using hP
      have hD : va_D A (sW cI a S) := by simpa only [List.append_assoc, List.append_nil, List.nil_append] using hD
      refine lv_if_eq (tgt := 40) hx hb dX2_hardening_33 (by decide) (fun c_3 => ?_) (fun c_3 => ?_)
      · refine lv_iconst (v := 1) hx hb dX2_hardening_40 (by decide) ?_
        exact zI_ret hx hb hr hlocks hP hD hS rfl (by first | done | rfl | (simp only [sl_hard, if_neg c_1, if_pos c_2, if_pos c_3]; done)) dX2_hardening_41
      · refine lv_iconst (v := 2) hx hb dX2_hardening_36 (by decide) ?_
        refine lv_goto (tgt := 41) hx hb dX2_hardening_37 (by decide) ?_
        exact zI_ret hx hb hr hlocks hP hD hS rfl (by first | done | rfl | (simp only [sl_hard, if_neg c_1, if_pos c_2, if_neg c_3]; done)) dX2_hardening_41
    · refine lv_bipush (v := (-3)) hx hb dX2_hardening_18 (by decide) ?_
      exact zI_ret hx hb hr hlocks hP hD hS rfl (by first | done | rfl | (simp only [sl_hard, if_neg c_1, if_neg c_2]; done)) dX2_hardening_20
set_option maxHeartbeats 4000000 in
set_option maxRecDepth 100000 in
theorem c_X2_growCrop (l : Launch) (dC : Nat → ClassId) (dI : Nat → Nat → Nat) (cI : ClassId) (a : Nat → Nat) (h w : Nat) (S : sS) (i : Int32) (hG0 : geo h w S) (hC : vp_in i 64) : zV l yX2_growCrop wsX2_growCrop { frames := 2, cells := 0, slots := 0, locals := 43 } (dC, dI) cI [.ref (a 0), .int i] (sW cI a S) (sW cI a (sl_grow S i)) := by
  refine zV_of (cc := cX2_growCrop) (maxL := 4) (ret := none) (by decide) rfl (Nat.le_of_ble_eq_true rfl) ?_
  intro p e s m below meth c A ls C0 hl
  obtain ⟨hx, hb, hr, hml, hown, hts, hlocks, hK, hN, hA, hP, hD, hS⟩ := C0
  have hown : s.vm.findClass RX2 = some m.cls := hown
  have hl : lv_has ls 4 [(0, .ref (a 0)), (1, .int i)] := hl
  have hf15 := hts (.fieldLink RX2 15 "PaddyTerraces$Slope" "depth" "[I") (by decide +kernel)
  have hf33 := hts (.fieldLink RX2 33 "PaddyTerraces$Slope" "age" "[I") (by decide +kernel)
  have hf36 := hts (.fieldLink RX2 36 "PaddyTerraces$Slope" "hardness" "[I") (by decide +kernel)
  have hf39 := hts (.fieldLink RX2 39 "PaddyTerraces$Slope" "drowned" "[I") (by decide +kernel)
  have hf42 := hts (.fieldLink RX2 42 "PaddyTerraces$Slope" "dry" "[I") (by decide +kernel)
  have hf68 := hts (.fieldLink RX2 68 "PaddyTerraces$Slope" "died" "I") (by decide +kernel)
  have hc_max := hts (.code Lib.Math.max.name Lib.Math.max.code 2 (some .int)) (by decide +kernel)
  have hc_min := hts (.code Lib.Math.min.name Lib.Math.min.code 2 (some .int)) (by decide +kernel)
  have hi_Math := hts (.initialized "java/lang/Math") (by decide +kernel)
  have hm132 := hts (.methodLink RX2 132 Lib.Math.max.name) (by decide +kernel)
  have hm137 := hts (.methodLink RX2 137 Lib.Math.min.name) (by decide +kernel)
  have hs_max := hts (.static Lib.Math.max.name) (by decide +kernel)
  have hs_min := hts (.static Lib.Math.min.name) (by decide +kernel)
  have hinX2 : ∀ w ∈ wsX20, w ∈ wsX2_growCrop := by decide +kernel
  have hS0 := hS
  have hN64 := geo_hw hG0
  have hW9 := geo_w hG0
  obtain ⟨-, -, hh2, hh8, hw2, hw8⟩ := id hG0
  refine lv_aload_n hx hb dX2_growCrop_0 rfl (lv_at hl 0 rfl) ?_
  refine va_get (D := (dC, dI)) (ci := 2) (v := .ref (a 8)) (C := RX2) (T := TX2) (N := 18) hx hb hts hinX2 hown hK hP 0 rfl rfl 12 (by decide) hf33 (fun _ h9 => h9) rfl dX2_growCrop_1 ?_
  refine lv_iload_n hx hb dX2_growCrop_4 rfl (lv_at hl 1 rfl) ?_
  refine lv_dup2_11 hx hb dX2_growCrop_5 rfl rfl ?_
  refine va_iald (cA := cI) (n := 64) (f := S 8) hx hb hK hP 8 0 rfl rfl hC dX2_growCrop_6 ?_
  refine lv_iconst (v := 1) hx hb dX2_growCrop_7 (by decide) ?_
  refine lv_iadd hx hb dX2_growCrop_8 ?_
  obtain ⟨S1, eS1⟩ : ∃ z : sS, z = s_put S 8 i.toNatClampNeg ((S 8 i.toNatClampNeg) + 1) := ⟨_, rfl⟩
  refine va_iast (cA := cI) (n := 64) (f := S 8) hx hb hK hP hD hS 8 0 rfl rfl hC dX2_growCrop_9 (fun H locs hP hD hS => ?_)
  have hP : va_P (dC, dI) vwCl (sW cI a S1) H := by rw [eS1]; exact hP
  have hD : va_D A (sW cI a S1) := by rw [eS1]; exact hD
  have hGS1 : geo h w S1 := by rw [eS1]; exact geo_put hG0 (Or.inl (by decide)) _
  refine lv_iconst (v := 5) hx hb dX2_growCrop_10 (by decide) ?_
  refine lv_aload_n hx hb dX2_growCrop_11 rfl (lv_at hl 0 rfl) ?_
  refine va_get (D := (dC, dI)) (ci := 2) (v := .ref (a 8)) (C := RX2) (T := TX2) (N := 18) hx hb hts hinX2 hown hK hP 0 rfl rfl 12 (by decide) hf33 (fun _ h9 => h9) rfl dX2_growCrop_12 ?_
  refine lv_iload_n hx hb dX2_growCrop_15 rfl (lv_at hl 1 rfl) ?_
  refine va_iald (cA := cI) (n := 64) (f := S1 8) hx hb hK hP 8 0 rfl rfl hC dX2_growCrop_16 ?_
  refine lv_iconst (v := 2) hx hb dX2_growCrop_17 (by decide) ?_
  refine lv_imul hx hb dX2_growCrop_18 ?_
  refine lv_iconst (v := 3) hx hb dX2_growCrop_19 (by decide) ?_
  refine lv_idiv hx hb dX2_growCrop_20 (by decide) ?_
  refine lv_iadd hx hb dX2_growCrop_21 ?_
  refine lv_bipush (v := 45) hx hb dX2_growCrop_22 (by decide) ?_
  refine va_mmin hx hb (hml.trans hl.1.symm) hown hm137 hs_min hi_Math hc_min (Nat.le_of_ble_eq_true rfl) (Nat.le_of_ble_eq_true rfl) (Nat.le_of_ble_eq_true rfl) (Nat.le_of_ble_eq_true rfl) dX2_growCrop_24 ?_
  refine lv_istore_n (lv' := [(2, .int (zmin (5 + (((S1 8 i.toNatClampNeg) * 2) / 3)) 45)), (0, .ref (a 0)), (1, .int i)]) hx hb dX2_growCrop_27 rfl hl (by decide) rfl (fun ls hl => ?_)
  refine lv_aload_n hx hb dX2_growCrop_28 rfl (lv_at hl 1 rfl) ?_
  refine va_get (D := (dC, dI)) (ci := 2) (v := .ref (a 10)) (C := RX2) (T := TX2) (N := 18) hx hb hts hinX2 hown hK hP 0 rfl rfl 14 (by decide) hf39 (fun _ h9 => h9) rfl dX2_growCrop_29 ?_
  refine lv_iload_n hx hb dX2_growCrop_32 rfl (lv_at hl 2 rfl) ?_
  refine lv_aload_n hx hb dX2_growCrop_33 rfl (lv_at hl 1 rfl) ?_
  refine va_get (D := (dC, dI)) (ci := 2) (v := .ref (a 2)) (C := RX2) (T := TX2) (N := 18) hx hb hts hinX2 hown hK hP 0 rfl rfl 6 (by decide) hf15 (fun _ h9 => h9) rfl dX2_growCrop_34 ?_
  refine lv_iload_n hx hb dX2_growCrop_37 rfl (lv_at hl 2 rfl) ?_
  refine va_iald (cA := cI) (n := 64) (f := S1 2) hx hb hK hP 2 0 rfl rfl hC dX2_growCrop_38 ?_
  refine lv_iload_n hx hb dX2_growCrop_39 rfl (lv_at hl 0 rfl) ?_
  have hjv2 : ∀ (v2 : Int32) (H : Heap) (locs : List Loc), v2 = (if (S1 2 i.toNatClampNeg) ≤ (zmin (5 + (((S1 8 i.toNatClampNeg) * 2) / 3)) 45) then 0 else ((S1 10 i.toNatClampNeg) + 1)) → va_P (dC, dI) vwCl (sW cI a S1) H → va_D A (sW cI a S1) → va_S A s.heap H locs → W p l e ({ frames := 2, cells := 0, slots := 0, locals := 43 } : Room) s m [.ref (a 0), .int i].toArray below meth c H locs 0 0 (zVq (dC, dI) A (sW cI a (sl_grow S i)) below [.ref (a 0), .int i].toArray s 0 0) (F0 m 55 ls (.int v2 :: [.int i, .ref (a 10)])) := by
    intro v2 H locs ev2 hP hD hS
    obtain ⟨S3, eS3⟩ : ∃ z : sS, z = s_put S1 10 i.toNatClampNeg v2 := ⟨_, rfl⟩
    refine va_iast (cA := cI) (n := 64) (f := S1 10) hx hb hK hP hD hS 10 0 rfl rfl hC dX2_growCrop_55 (fun H locs hP hD hS => ?_)
    have hP : va_P (dC, dI) vwCl (sW cI a S3) H := by rw [eS3]; exact hP
    have hD : va_D A (sW cI a S3) := by rw [eS3]; exact hD
    have hGS3 : geo h w S3 := by rw [eS3]; exact geo_put hGS1 (Or.inl (by decide)) _
    refine lv_aload_n hx hb dX2_growCrop_56 rfl (lv_at hl 1 rfl) ?_
    refine va_get (D := (dC, dI)) (ci := 2) (v := .ref (a 11)) (C := RX2) (T := TX2) (N := 18) hx hb hts hinX2 hown hK hP 0 rfl rfl 15 (by decide) hf42 (fun _ h9 => h9) rfl dX2_growCrop_57 ?_
    refine lv_iload_n hx hb dX2_growCrop_60 rfl (lv_at hl 2 rfl) ?_
    refine lv_aload_n hx hb dX2_growCrop_61 rfl (lv_at hl 1 rfl) ?_
    refine va_get (D := (dC, dI)) (ci := 2) (v := .ref (a 2)) (C := RX2) (T := TX2) (N := 18) hx hb hts hinX2 hown hK hP 0 rfl rfl 6 (by decide) hf15 (fun _ h9 => h9) rfl dX2_growCrop_62 ?_
    refine lv_iload_n hx hb dX2_growCrop_65 rfl (lv_at hl 2 rfl) ?_
    refine va_iald (cA := cI) (n := 64) (f := S3 2) hx hb hK hP 2 0 rfl rfl hC dX2_growCrop_66 ?_
    have hjv4 : ∀ (v4 : Int32) (H : Heap) (locs : List Loc), v4 = (if (S3 2 i.toNatClampNeg) = 0 then ((S3 11 i.toNatClampNeg) + 1) else 0) → va_P (dC, dI) vwCl (sW cI a S3) H → va_D A (sW cI a S3) → va_S A s.heap H locs → W p l e ({ frames := 2, cells := 0, slots := 0, locals := 43 } : Room) s m [.ref (a 0), .int i].toArray below meth c H locs 0 0 (zVq (dC, dI) A (sW cI a (sl_grow S i)) below [.ref (a 0), .int i].toArray s 0 0) (F0 m 82 ls (.int v4 :: [.int i, .ref (a 11)])) := by
      intro v4 H locs ev4 hP hD hS
      obtain ⟨S5, eS5⟩ : ∃ z : sS, z = s_put S3 11 i.toNatClampNeg v4 := ⟨_, rfl⟩
      refine va_iast (cA := cI) (n := 64) (f := S3 11) hx hb hK hP hD hS 11 0 rfl rfl hC dX2_growCrop_82 (fun H locs hP hD hS => ?_)
      have hP : va_P (dC, dI) vwCl (sW cI a S5) H := by rw [eS5]; exact hP
      have hD : va_D A (sW cI a S5) := by rw [eS5]; exact hD
      have hGS5 : geo h w S5 := by rw [eS5]; exact geo_put hGS3 (Or.inl (by decide)) _
      refine lv_aload_n hx hb dX2_growCrop_83 rfl (lv_at hl 1 rfl) ?_
      refine va_get (D := (dC, dI)) (ci := 2) (v := .ref (a 10)) (C := RX2) (T := TX2) (N := 18) hx hb hts hinX2 hown hK hP 0 rfl rfl 14 (by decide) hf39 (fun _ h9 => h9) rfl dX2_growCrop_84 ?_
      refine lv_iload_n hx hb dX2_growCrop_87 rfl (lv_at hl 2 rfl) ?_
      refine va_iald (cA := cI) (n := 64) (f := S5 10) hx hb hK hP 10 0 rfl rfl hC dX2_growCrop_88 ?_
      refine lv_iconst (v := 4) hx hb dX2_growCrop_89 (by decide) ?_
      refine lv_icmp_ge (tgt := 103) hx hb dX2_growCrop_90 (by decide) (fun c_6 => ?_) (fun c_6 => ?_)
      · refine lv_aload_n hx hb dX2_growCrop_103 rfl (lv_at hl 1 rfl) ?_
        refine lv_iload_n hx hb dX2_growCrop_104 rfl (lv_at hl 2 rfl) ?_
        obtain ⟨S7, eS7⟩ : ∃ z : sS, z = sl_clear S5 i := ⟨_, rfl⟩
        refine zV_V (pre := ([] : va_W)) (wc := sW cI a S5) (post := ([] : va_W)) (w1 := sW cI a S7) ⟨hx, hb, hml, hown, hts⟩ (by rw [eS7]; exact c_X2_clearCrop l dC dI cI a S5 i hC) (cwV 1 hts gX2_growCrop_X2_clearCrop rfl rfl rfl (by decide +kernel) ⟨Nat.le_of_ble_eq_true rfl, Nat.le_of_ble_eq_true rfl⟩) (by simp only [List.append_assoc, List.append_nil, List.nil_append]) hK hN (ci := 2) (q0 := 0) rfl rfl rfl hP hD hS hA rfl hl.1 rfl (Nat.le_of_ble_eq_true rfl) dX2_growCrop_105 ⟨Nat.le_of_ble_eq_true rfl, Nat.le_of_ble_eq_true rfl⟩ (fun H locs hP hD hS => ?_)
        have hP : va_P (dC, dI) vwCl (sW cI a S7) H := by simpa only [List.append_assoc, List.append_nil, List.nil_append] using hP
        have hD : va_D A (sW cI a S7) := by simpa only [List.append_assoc, List.append_nil, List.nil_append] using hD
        have hGS7 : geo h w S7 := by rw [eS7]; exact geo_sam hGS5 (sam_clear S5 i)
        refine lv_aload_n hx hb dX2_growCrop_108 rfl (lv_at hl 1 rfl) ?_
        refine lv_dup hx hb dX2_growCrop_109 rfl ?_
        refine va_get (D := (dC, dI)) (ci := 2) (v := .int (S7 0 4)) (C := RX2) (T := TX2) (N := 18) hx hb hts hinX2 hown hK hP 0 rfl rfl 4 (by decide) hf68 (fun _ h9 => h9) rfl dX2_growCrop_110 ?_
        refine lv_iconst (v := 1) hx hb dX2_growCrop_113 (by decide) ?_
        refine lv_iadd hx hb dX2_growCrop_114 ?_
        obtain ⟨S8, eS8⟩ : ∃ z : sS, z = s_put S7 0 4 ((S7 0 4) + 1) := ⟨_, rfl⟩
        refine va_put (D := (dC, dI)) (ci := 2) (v := .int ((S7 0 4) + 1)) (ty := .int) (C := RX2) (T := TX2) (N := 18) hx hb hts hinX2 tyX2 tyX2_ok nmX2 hown hK hP hD hS 0 rfl rfl 4 (by decide) hf68 (fun _ h9 => h9) rfl (by decide +kernel) rfl rfl (Nat.le_of_ble_eq_true rfl) dX2_growCrop_115 (fun H locs hP hD hS => ?_)
        have hP : va_P (dC, dI) vwCl (sW cI a S8) H := by rw [eS8]; exact hP
        have hD : va_D A (sW cI a S8) := by rw [eS8]; exact hD
        have hGS8 : geo h w S8 := by rw [eS8]; exact geo_put hGS7 (Or.inr (by decide)) _
        refine lv_goto (tgt := 150) hx hb dX2_growCrop_118 (by decide) ?_
        have hZ : S8 = sl_grow S i := (by have e9 : S5 = sl_dry (sl_wet (s_put S 8 i.toNatClampNeg (S 8 i.toNatClampNeg + 1)) i.toNatClampNeg) i.toNatClampNeg := (by rw [eS5, ev4, eS3, ev2, eS1]; rfl); unfold sl_grow; rw [← e9]; unfold sl_end; simp only [if_pos c_6]; rw [eS8, eS7]; first | done | rfl)
        rw [hZ] at hP hD
        exact zV_ret hx hb hr hlocks hP hD hS dX2_growCrop_150
      · refine lv_aload_n hx hb dX2_growCrop_93 rfl (lv_at hl 1 rfl) ?_
        refine va_get (D := (dC, dI)) (ci := 2) (v := .ref (a 11)) (C := RX2) (T := TX2) (N := 18) hx hb hts hinX2 hown hK hP 0 rfl rfl 15 (by decide) hf42 (fun _ h9 => h9) rfl dX2_growCrop_94 ?_
        refine lv_iload_n hx hb dX2_growCrop_97 rfl (lv_at hl 2 rfl) ?_
        refine va_iald (cA := cI) (n := 64) (f := S5 11) hx hb hK hP 11 0 rfl rfl hC dX2_growCrop_98 ?_
        refine lv_iconst (v := 5) hx hb dX2_growCrop_99 (by decide) ?_
        refine lv_icmp_lt (tgt := 121) hx hb dX2_growCrop_100 (by decide) (fun c_9 => ?_) (fun c_9 => ?_)
        · refine lv_aload_n hx hb dX2_growCrop_121 rfl (lv_at hl 1 rfl) ?_
          refine va_get (D := (dC, dI)) (ci := 2) (v := .ref (a 9)) (C := RX2) (T := TX2) (N := 18) hx hb hts hinX2 hown hK hP 0 rfl rfl 13 (by decide) hf36 (fun _ h9 => h9) rfl dX2_growCrop_122 ?_
          refine lv_iload_n hx hb dX2_growCrop_125 rfl (lv_at hl 2 rfl) ?_
          refine va_iald (cA := cI) (n := 64) (f := S5 9) hx hb hK hP 9 0 rfl rfl hC dX2_growCrop_126 ?_
          refine lv_aload_n hx hb dX2_growCrop_127 rfl (lv_at hl 1 rfl) ?_
          refine lv_iload_n hx hb dX2_growCrop_128 rfl (lv_at hl 2 rfl) ?_
          refine zI_V (pre := ([] : va_W)) (wc := sW cI a S5) (post := ([] : va_W)) (w1 := sW cI a S5) ⟨hx, hb, hml, hown, hts⟩ (c_X2_hardening l dC dI cI a S5 i hC) (cwV 1 hts gX2_growCrop_X2_hardening rfl rfl rfl (by decide +kernel) ⟨Nat.le_of_ble_eq_true rfl, Nat.le_of_ble_eq_true rfl⟩) (by simp only [List.append_assoc, List.append_nil, List.nil_append]) hK hN (ci := 2) (q0 := 0) rfl rfl rfl hP hD hS hA rfl hl.1 rfl (Nat.le_of_ble_eq_true rfl) dX2_growCrop_129 ⟨Nat.le_of_ble_eq_true rfl, Nat.le_of_ble_eq_true rfl⟩ (fun H locs hP hD hS => ?_)
          have hP : va_P (dC, dI) vwCl (sW cI a S5) H := by simpa only [List.append_assoc, List.append_nil, List.nil_append] using hP
          have hD : va_D A (sW cI a S5) := by simpa only [List.append_assoc, List.append_nil, List.nil_append] using hD
          refine lv_iadd hx hb dX2_growCrop_132 ?_
          refine lv_istore_n (lv' := [(3, .int ((S5 9 i.toNatClampNeg) + (sl_hard S5 i))), (2, .int (zmin (5 + (((S1 8 i.toNatClampNeg) * 2) / 3)) 45)), (0, .ref (a 0)), (1, .int i)]) hx hb dX2_growCrop_133 rfl hl (by decide) rfl (fun ls hl => ?_)
          refine lv_aload_n hx hb dX2_growCrop_134 rfl (lv_at hl 2 rfl) ?_
          refine va_get (D := (dC, dI)) (ci := 2) (v := .ref (a 9)) (C := RX2) (T := TX2) (N := 18) hx hb hts hinX2 hown hK hP 0 rfl rfl 13 (by decide) hf36 (fun _ h9 => h9) rfl dX2_growCrop_135 ?_
          refine lv_iload_n hx hb dX2_growCrop_138 rfl (lv_at hl 3 rfl) ?_
          refine lv_iload_n hx hb dX2_growCrop_139 rfl (lv_at hl 0 rfl) ?_
          refine lv_iconst (v := 0) hx hb dX2_growCrop_140 (by decide) ?_
          refine va_mmax hx hb (hml.trans hl.1.symm) hown hm132 hs_max hi_Math hc_max (Nat.le_of_ble_eq_true rfl) (Nat.le_of_ble_eq_true rfl) (Nat.le_of_ble_eq_true rfl) (Nat.le_of_ble_eq_true rfl) dX2_growCrop_141 ?_
          refine lv_bipush (v := 100) hx hb dX2_growCrop_144 (by decide) ?_
          refine va_mmin hx hb (hml.trans hl.1.symm) hown hm137 hs_min hi_Math hc_min (Nat.le_of_ble_eq_true rfl) (Nat.le_of_ble_eq_true rfl) (Nat.le_of_ble_eq_true rfl) (Nat.le_of_ble_eq_true rfl) dX2_growCrop_146 ?_
          obtain ⟨S10, eS10⟩ : ∃ z : sS, z = s_put S5 9 i.toNatClampNeg (zmin (zmax ((S5 9 i.toNatClampNeg) + (sl_hard S5 i)) 0) 100) := ⟨_, rfl⟩
          refine va_iast (cA := cI) (n := 64) (f := S5 9) hx hb hK hP hD hS 9 0 rfl rfl hC dX2_growCrop_149 (fun H locs hP hD hS => ?_)
          have hP : va_P (dC, dI) vwCl (sW cI a S10) H := by rw [eS10]; exact hP
          have hD : va_D A (sW cI a S10) := by rw [eS10]; exact hD
          have hGS10 : geo h w S10 := by rw [eS10]; exact geo_put hGS5 (Or.inl (by decide)) _
          have hZ : S10 = sl_grow S i := (by have e9 : S5 = sl_dry (sl_wet (s_put S 8 i.toNatClampNeg (S 8 i.toNatClampNeg + 1)) i.toNatClampNeg) i.toNatClampNeg := (by rw [eS5, ev4, eS3, ev2, eS1]; rfl); unfold sl_grow; rw [← e9]; unfold sl_end; simp only [if_neg c_6, if_pos c_9]; rw [eS10]; first | done | rfl)
          rw [hZ] at hP hD
          exact zV_ret hx hb hr hlocks hP hD hS dX2_growCrop_150
        · refine lv_aload_n hx hb dX2_growCrop_103 rfl (lv_at hl 1 rfl) ?_
          refine lv_iload_n hx hb dX2_growCrop_104 rfl (lv_at hl 2 rfl) ?_
          obtain ⟨S11, eS11⟩ : ∃ z : sS, z = sl_clear S5 i := ⟨_, rfl⟩
          refine zV_V (pre := ([] : va_W)) (wc := sW cI a S5) (post := ([] : va_W)) (w1 := sW cI a S11) ⟨hx, hb, hml, hown, hts⟩ (by rw [eS11]; exact c_X2_clearCrop l dC dI cI a S5 i hC) (cwV 1 hts gX2_growCrop_X2_clearCrop rfl rfl rfl (by decide +kernel) ⟨Nat.le_of_ble_eq_true rfl, Nat.le_of_ble_eq_true rfl⟩) (by simp only [List.append_assoc, List.append_nil, List.nil_append]) hK hN (ci := 2) (q0 := 0) rfl rfl rfl hP hD hS hA rfl hl.1 rfl (Nat.le_of_ble_eq_true rfl) dX2_growCrop_105 ⟨Nat.le_of_ble_eq_true rfl, Nat.le_of_ble_eq_true rfl⟩ (fun H locs hP hD hS => ?_)
          have hP : va_P (dC, dI) vwCl (sW cI a S11) H := by simpa only [List.append_assoc, List.append_nil, List.nil_append] using hP
          have hD : va_D A (sW cI a S11) := by simpa only [List.append_assoc, List.append_nil, List.nil_append] using hD
          have hGS11 : geo h w S11 := by rw [eS11]; exact geo_sam hGS5 (sam_clear S5 i)
          refine lv_aload_n hx hb dX2_growCrop_108 rfl (lv_at hl 1 rfl) ?_
          refine lv_dup hx hb dX2_growCrop_109 rfl ?_
          refine va_get (D := (dC, dI)) (ci := 2) (v := .int (S11 0 4)) (C := RX2) (T := TX2) (N := 18) hx hb hts hinX2 hown hK hP 0 rfl rfl 4 (by decide) hf68 (fun _ h9 => h9) rfl dX2_growCrop_110 ?_
          refine lv_iconst (v := 1) hx hb dX2_growCrop_113 (by decide) ?_
          refine lv_iadd hx hb dX2_growCrop_114 ?_
          obtain ⟨S12, eS12⟩ : ∃ z : sS, z = s_put S11 0 4 ((S11 0 4) + 1) := ⟨_, rfl⟩
          refine va_put (D := (dC, dI)) (ci := 2) (v := .int ((S11 0 4) + 1)) (ty := .int) (C := RX2) (T := TX2) (N := 18) hx hb hts hinX2 tyX2 tyX2_ok nmX2 hown hK hP hD hS 0 rfl rfl 4 (by decide) hf68 (fun _ h9 => h9) rfl (by decide +kernel) rfl rfl (Nat.le_of_ble_eq_true rfl) dX2_growCrop_115 (fun H locs hP hD hS => ?_)
          have hP : va_P (dC, dI) vwCl (sW cI a S12) H := by rw [eS12]; exact hP
          have hD : va_D A (sW cI a S12) := by rw [eS12]; exact hD
          have hGS12 : geo h w S12 := by rw [eS12]; exact geo_put hGS11 (Or.inr (by decide)) _
          refine lv_goto (tgt := 150) hx hb dX2_growCrop_118 (by decide) ?_
          have hZ : S12 = sl_grow S i := (by have e9 : S5 = sl_dry (sl_wet (s_put S 8 i.toNatClampNeg (S 8 i.toNatClampNeg + 1)) i.toNatClampNeg) i.toNatClampNeg := (by rw [eS5, ev4, eS3, ev2, eS1]; rfl); unfold sl_grow; rw [← e9]; unfold sl_end; simp only [if_neg c_6, if_neg c_9]; rw [eS12, eS11]; first | done | rfl)
          rw [hZ] at hP hD
          exact zV_ret hx hb hr hlocks hP hD hS dX2_growCrop_150
    refine lv_if_ne (tgt := 81) hx hb dX2_growCrop_67 (by decide) (fun c_13 => ?_) (fun c_13 => ?_)
    · refine lv_iconst (v := 0) hx hb dX2_growCrop_81 (by decide) ?_
      exact hjv4 _ _ _ (by simp only [if_neg c_13]) hP hD hS
    · refine lv_aload_n hx hb dX2_growCrop_70 rfl (lv_at hl 1 rfl) ?_
      refine va_get (D := (dC, dI)) (ci := 2) (v := .ref (a 11)) (C := RX2) (T := TX2) (N := 18) hx hb hts hinX2 hown hK hP 0 rfl rfl 15 (by decide) hf42 (fun _ h9 => h9) rfl dX2_growCrop_71 ?_
      refine lv_iload_n hx hb dX2_growCrop_74 rfl (lv_at hl 2 rfl) ?_
      refine va_iald (cA := cI) (n := 64) (f := S3 11) hx hb hK hP 11 0 rfl rfl hC dX2_growCrop_75 ?_
      refine lv_iconst (v := 1) hx hb dX2_growCrop_76 (by decide) ?_
      refine lv_iadd hx hb dX2_growCrop_77 ?_
      refine lv_goto (tgt := 82) hx hb dX2_growCrop_78 (by decide) ?_
      exact hjv4 _ _ _ (by simp only [if_pos c_13]) hP hD hS
  refine lv_icmp_le (tgt := 54) hx hb dX2_growCrop_40 (by decide) (fun c_14 => ?_) (fun c_14 => ?_)
  · refine lv_iconst (v := 0) hx hb dX2_growCrop_54 (by decide) ?_
    exact hjv2 _ _ _ (by simp only [if_pos c_14]) hP hD hS
  · refine lv_aload_n hx hb dX2_growCrop_43 rfl (lv_at hl 1 rfl) ?_
    refine va_get (D := (dC, dI)) (ci := 2) (v := .ref (a 10)) (C := RX2) (T := TX2) (N := 18) hx hb hts hinX2 hown hK hP 0 rfl rfl 14 (by decide) hf39 (fun _ h9 => h9) rfl dX2_growCrop_44 ?_
    refine lv_iload_n hx hb dX2_growCrop_47 rfl (lv_at hl 2 rfl) ?_
    refine va_iald (cA := cI) (n := 64) (f := S1 10) hx hb hK hP 10 0 rfl rfl hC dX2_growCrop_48 ?_
    refine lv_iconst (v := 1) hx hb dX2_growCrop_49 (by decide) ?_
    refine lv_iadd hx hb dX2_growCrop_50 ?_
    refine lv_goto (tgt := 55) hx hb dX2_growCrop_51 (by decide) ?_
    exact hjv2 _ _ _ (by simp only [if_neg c_14]) hP hD hS
set_option maxHeartbeats 4000000 in
set_option maxRecDepth 100000 in
theorem c_X2_growRice (l : Launch) (dC : Nat → ClassId) (dI : Nat → Nat → Nat) (cI : ClassId) (a : Nat → Nat) (h w : Nat) (S : sS) (hG0 : geo h w S) : zV l yX2_growRice wsX2_growRice { frames := 3, cells := 0, slots := 0, locals := 66 } (dC, dI) cI [.ref (a 0)] (sW cI a S) (sW cI a (sl_rice h w S)) := by
  refine zV_of (cc := cX2_growRice) (maxL := 2) (ret := none) (by decide) rfl (Nat.le_of_ble_eq_true rfl) ?_
  intro p e s m below meth c A ls C0 hl
  obtain ⟨hx, hb, hr, hml, hown, hts, hlocks, hK, hN, hA, hP, hD, hS⟩ := C0
  have hown : s.vm.findClass RX2 = some m.cls := hown
  have hl : lv_has ls 2 [(0, .ref (a 0))] := hl
  have hf30 := hts (.fieldLink RX2 30 "PaddyTerraces$Slope" "crop" "[I") (by decide +kernel)
  have hinX2 : ∀ w ∈ wsX20, w ∈ wsX2_growRice := by decide +kernel
  have hS0 := hS
  have hN64 := geo_hw hG0
  have hW9 := geo_w hG0
  obtain ⟨-, -, hh2, hh8, hw2, hw8⟩ := id hG0
  refine lv_iconst (v := 0) hx hb dX2_growRice_0 (by decide) ?_
  refine lv_istore_n (lv' := [(1, .int 0), (0, .ref (a 0))]) hx hb dX2_growRice_1 rfl hl (by decide) rfl (fun ls hl => ?_)
  have lp2 : ∀ (n2 i2 : Nat) (T2_0 : sS) (H : Heap) (locs : List Loc) (ls : Array Slot), i2 + n2 = h * w → T2_0 = itr (fun i T => sl_rice1 T i) i2 S → geo h w T2_0 → va_P (dC, dI) vwCl (sW cI a T2_0) H → va_D A (sW cI a T2_0) → va_S A s.heap H locs → lv_has ls 2 [(0, .ref (a 0)), (1, .int (nI i2))] → W p l e ({ frames := 3, cells := 0, slots := 0, locals := 66 } : Room) s m [.ref (a 0)].toArray below meth c H locs 0 0 (zVq (dC, dI) A (sW cI a (sl_rice h w S)) below [.ref (a 0)].toArray s 0 0) (F0 m 2 ls []) := by
    intro n2
    induction n2 with
    | zero =>
      intro i2 T2_0 H locs ls hi2 eT2_0 hGT2_0 hP hD hS hl
      have hi2 : i2 = h * w := by omega
      rw [hi2] at eT2_0
      refine lv_iload_n hx hb dX2_growRice_2 rfl (lv_at hl 1 rfl) ?_
      refine lv_aload_n hx hb dX2_growRice_3 rfl (lv_at hl 0 rfl) ?_
      refine zI_V (pre := ([] : va_W)) (wc := sW cI a T2_0) (post := ([] : va_W)) (w1 := sW cI a T2_0) ⟨hx, hb, hml, hown, hts⟩ (c_X2_cells l dC dI cI a T2_0) (cwV 0 hts gX2_growRice_X2_cells rfl rfl rfl (by decide +kernel) ⟨Nat.le_of_ble_eq_true rfl, Nat.le_of_ble_eq_true rfl⟩) (by simp only [List.append_assoc, List.append_nil, List.nil_append]) hK hN (ci := 2) (q0 := 0) rfl rfl rfl hP hD hS hA rfl hl.1 rfl (Nat.le_of_ble_eq_true rfl) dX2_growRice_4 ⟨Nat.le_of_ble_eq_true rfl, Nat.le_of_ble_eq_true rfl⟩ (fun H locs hP hD hS => ?_)
      have hP : va_P (dC, dI) vwCl (sW cI a T2_0) H := by simpa only [List.append_assoc, List.append_nil, List.nil_append] using hP
      have hD : va_D A (sW cI a T2_0) := by simpa only [List.append_assoc, List.append_nil, List.nil_append] using hD
      refine lv_icmp_ge (tgt := 30) hx hb dX2_growRice_7 (by decide) (fun c_1 => ?_) (fun c_1 => ?_)
      · have hZ : T2_0 = sl_rice h w S := (by (try rw [eT2_0]); first | done | rfl | (simp only [sl_rice, if_pos c_1]; done) | (unfold sl_rice; simp only [if_pos c_1]; done))
        rw [hZ] at hP hD
        exact zV_ret hx hb hr hlocks hP hD hS dX2_growRice_30
      · exact absurd (by rw [show _ = nI (h * w) from (geo_cells hGT2_0)]; exact nI_le (by omega) (by omega)) c_1
    | succ n2 ih2 =>
      intro i2 T2_0 H locs ls hi2 eT2_0 hGT2_0 hP hD hS hl
      refine lv_iload_n hx hb dX2_growRice_2 rfl (lv_at hl 1 rfl) ?_
      refine lv_aload_n hx hb dX2_growRice_3 rfl (lv_at hl 0 rfl) ?_
      refine zI_V (pre := ([] : va_W)) (wc := sW cI a T2_0) (post := ([] : va_W)) (w1 := sW cI a T2_0) ⟨hx, hb, hml, hown, hts⟩ (c_X2_cells l dC dI cI a T2_0) (cwV 0 hts gX2_growRice_X2_cells rfl rfl rfl (by decide +kernel) ⟨Nat.le_of_ble_eq_true rfl, Nat.le_of_ble_eq_true rfl⟩) (by simp only [List.append_assoc, List.append_nil, List.nil_append]) hK hN (ci := 2) (q0 := 0) rfl rfl rfl hP hD hS hA rfl hl.1 rfl (Nat.le_of_ble_eq_true rfl) dX2_growRice_4 ⟨Nat.le_of_ble_eq_true rfl, Nat.le_of_ble_eq_true rfl⟩ (fun H locs hP hD hS => ?_)
      have hP : va_P (dC, dI) vwCl (sW cI a T2_0) H := by simpa only [List.append_assoc, List.append_nil, List.nil_append] using hP
      have hD : va_D A (sW cI a T2_0) := by simpa only [List.append_assoc, List.append_nil, List.nil_append] using hD
      refine lv_icmp_ge (tgt := 30) hx hb dX2_growRice_7 (by decide) (fun c_2 => ?_) (fun c_2 => ?_)
      · exact absurd c_2 (by rw [show _ = nI (h * w) from (geo_cells hGT2_0)]; exact nI_ge (by omega) (by omega))
      · refine lv_aload_n hx hb dX2_growRice_10 rfl (lv_at hl 0 rfl) ?_
        refine va_get (D := (dC, dI)) (ci := 2) (v := .ref (a 7)) (C := RX2) (T := TX2) (N := 18) hx hb hts hinX2 hown hK hP 0 rfl rfl 11 (by decide) hf30 (fun _ h9 => h9) rfl dX2_growRice_11 ?_
        refine lv_iload_n hx hb dX2_growRice_14 rfl (lv_at hl 1 rfl) ?_
        refine va_iald (cA := cI) (n := 64) (f := T2_0 7) hx hb hK hP 7 0 rfl rfl (vp_in_nI (by omega) (by decide)) dX2_growRice_15 ?_
        refine lv_if_eq (tgt := 24) hx hb dX2_growRice_16 (by decide) (fun c_3 => ?_) (fun c_3 => ?_)
        · refine lv_iinc (v := nI (i2 + 1)) (lv' := [(1, .int (nI (i2 + 1))), (0, .ref (a 0))]) hx hb dX2_growRice_24 hl (k := 1) rfl (show nI i2 + Int32.ofInt 1 = nI (i2 + 1) from nI_1 i2) (by decide) rfl (fun ls hl => ?_)
          refine lv_goto (tgt := 2) hx hb dX2_growRice_27 (by decide) ?_
          exact ih2 (i2 + 1) T2_0 _ _ ls (by omega) (by rw [itr_s, ← eT2_0]; simp only [sl_rice1, if_neg c_2, if_pos c_3]; first | done | rfl | ( first | done | rfl)) (hGT2_0) hP hD hS (lv_sub hl [1, 0] rfl)
        · refine lv_aload_n hx hb dX2_growRice_19 rfl (lv_at hl 0 rfl) ?_
          refine lv_iload_n hx hb dX2_growRice_20 rfl (lv_at hl 1 rfl) ?_
          obtain ⟨S4, eS4⟩ : ∃ z : sS, z = sl_grow T2_0 (nI i2) := ⟨_, rfl⟩
          refine zV_V (pre := ([] : va_W)) (wc := sW cI a T2_0) (post := ([] : va_W)) (w1 := sW cI a S4) ⟨hx, hb, hml, hown, hts⟩ (by rw [eS4]; exact c_X2_growCrop l dC dI cI a h w T2_0 (nI i2) hGT2_0 (vp_in_nI (by omega) (by decide))) (cwV 1 hts gX2_growRice_X2_growCrop rfl rfl rfl (by decide +kernel) ⟨Nat.le_of_ble_eq_true rfl, Nat.le_of_ble_eq_true rfl⟩) (by simp only [List.append_assoc, List.append_nil, List.nil_append]) hK hN (ci := 2) (q0 := 0) rfl rfl rfl hP hD hS hA rfl hl.1 rfl (Nat.le_of_ble_eq_true rfl) dX2_growRice_21 ⟨Nat.le_of_ble_eq_true rfl, Nat.le_of_ble_eq_true rfl⟩ (fun H locs hP hD hS => ?_)
          have hP : va_P (dC, dI) vwCl (sW cI a S4) H := by simpa only [List.append_assoc, List.append_nil, List.nil_append] using hP
          have hD : va_D A (sW cI a S4) := by simpa only [List.append_assoc, List.append_nil, List.nil_append] using hD
          have hGS4 : geo h w S4 := by rw [eS4]; exact geo_sam hGT2_0 (sam_grow T2_0 (nI i2))
          refine lv_iinc (v := nI (i2 + 1)) (lv' := [(1, .int (nI (i2 + 1))), (0, .ref (a 0))]) hx hb dX2_growRice_24 hl (k := 1) rfl (show nI i2 + Int32.ofInt 1 = nI (i2 + 1) from nI_1 i2) (by decide) rfl (fun ls hl => ?_)
          refine lv_goto (tgt := 2) hx hb dX2_growRice_27 (by decide) ?_
          exact ih2 (i2 + 1) S4 _ _ ls (by omega) (by rw [itr_s, ← eT2_0]; simp only [sl_rice1, if_neg c_2, if_neg c_3]; first | done | rfl | ((try rw [eS4]); first | done | rfl)) (hGS4) hP hD hS (lv_sub hl [1, 0] rfl)
  exact lp2 (h * w) 0 S _ _ ls (by omega) rfl (hG0) hP hD hS (lv_sub hl [1, 0] rfl)
end
section
/-! Arrays.fill, copyRow; a new slope, a copied one -/
set_option maxHeartbeats 4000000 in
set_option maxRecDepth 100000 in
theorem c_fill (l : Launch) (dC : Nat → ClassId) (dI : Nat → Nat → Nat) (cI : ClassId) (x n : Nat) (f : Nat → Int32) (v : Int32) (hn : n < 2 ^ 31) : zV l yJ7_fill_53178 wsJ7_fill_53178 { frames := 0, cells := 0, slots := 0, locals := 0 } (dC, dI) cI [.ref x, .int v] [(x, .inl (cI, n, .inl f))] [(x, .inl (cI, n, .inl (fun _ => v)))] := by
  refine zV_of (cc := cJ7_fill_53178) (maxL := 4) (ret := none) (by decide) rfl (Nat.le_of_ble_eq_true rfl) ?_
  intro p e s m below meth c A ls C0 hl
  obtain ⟨hx, hb, hr, hml, hown, hts, hlocks, hK, hN, hA, hP, hD, hS⟩ := C0
  have hl : lv_has ls 4 [(0, .ref x), (1, .int v)] := hl
  refine lv_iconst (v := 0) hx hb dJ7_fill_53178_0 (by decide) ?_
  refine lv_istore_n (lv' := [(2, .int 0), (0, .ref x), (1, .int v)]) hx hb dJ7_fill_53178_1 rfl hl (by decide) rfl (fun ls hl => ?_)
  refine lv_aload_n hx hb dJ7_fill_53178_2 rfl (lv_at hl 1 rfl) ?_
  refine va_alen (v := nI n) (ty := .int) hx hb hK hP 0 0 rfl rfl rfl dJ7_fill_53178_3 ?_
  refine lv_istore_n (lv' := [(3, .int (nI n)), (2, .int 0), (0, .ref x), (1, .int v)]) hx hb dJ7_fill_53178_4 rfl hl (by decide) rfl (fun ls hl => ?_)
  have lp : ∀ (k i : Nat) (g : Nat → Int32) (H : Heap) (locs : List Loc) (ls : Array Slot), i + k = n → (∀ j, j < i → g j = v) → va_P (dC, dI) vwCl [(x, .inl (cI, n, .inl g))] H → va_D A [(x, .inl (cI, n, .inl g))] → va_S A s.heap H locs → lv_has ls 4 [(0, .ref x), (1, .int v), (2, .int (nI i)), (3, .int (nI n))] → W p l e ({ frames := 0, cells := 0, slots := 0, locals := 0 } : Room) s m [.ref x, .int v].toArray below meth c H locs 0 0 (zVq (dC, dI) A [(x, .inl (cI, n, .inl (fun _ => v)))] below [.ref x, .int v].toArray s 0 0) (F0 m 5 ls []) := by
    intro k
    induction k with
    | zero =>
      intro i g H locs ls hi hg hP hD hS hl
      refine lv_iload_n hx hb dJ7_fill_53178_5 rfl (lv_at hl 2 rfl) ?_
      refine lv_iload_n hx hb dJ7_fill_53178_6 rfl (lv_at hl 3 rfl) ?_
      refine lv_icmp_ge (tgt := 20) hx hb dJ7_fill_53178_7 (by decide) (fun c_1 => ?_) (fun c_1 => ?_)
      · have hP9 : va_P (dC, dI) vwCl [(x, .inl (cI, n, .inl (fun _ => v)))] H := z_Pcons (z_cell (hP 0 _ rfl) (fun j hj => hg j (by omega))) z_Pnil
        have hD9 : va_D A [(x, .inl (cI, n, .inl (fun _ => v)))] := z_Dmap hD rfl
        exact zV_ret hx hb hr hlocks hP9 hD9 hS dJ7_fill_53178_20
      · exact absurd (nI_le (by omega) (by omega)) c_1
    | succ k ih =>
      intro i g H locs ls hi hg hP hD hS hl
      refine lv_iload_n hx hb dJ7_fill_53178_5 rfl (lv_at hl 2 rfl) ?_
      refine lv_iload_n hx hb dJ7_fill_53178_6 rfl (lv_at hl 3 rfl) ?_
      refine lv_icmp_ge (tgt := 20) hx hb dJ7_fill_53178_7 (by decide) (fun c_1 => ?_) (fun c_1 => ?_)
      · exact absurd c_1 (nI_ge (by omega) (by omega))
      · refine lv_aload_n hx hb dJ7_fill_53178_10 rfl (lv_at hl 0 rfl) ?_
        refine lv_iload_n hx hb dJ7_fill_53178_11 rfl (lv_at hl 2 rfl) ?_
        refine lv_iload_n hx hb dJ7_fill_53178_12 rfl (lv_at hl 1 rfl) ?_
        refine va_iast (cA := cI) (n := n) (f := g) hx hb hK hP hD hS 0 0 rfl rfl (vp_in_nI (by omega) hn) dJ7_fill_53178_13 (fun H locs hP hD hS => ?_)
        have hP : va_P (dC, dI) vwCl [(x, .inl (cI, n, .inl (upd g (nI i).toNatClampNeg v)))] H := hP
        have hD : va_D A [(x, .inl (cI, n, .inl (upd g (nI i).toNatClampNeg v)))] := hD
        refine lv_iinc (v := nI (i + 1)) (lv' := [(2, .int (nI (i + 1))), (0, .ref x), (1, .int v), (3, .int (nI n))]) hx hb dJ7_fill_53178_14 hl (k := 2) rfl (show nI i + Int32.ofInt 1 = nI (i + 1) from nI_1 i) (by decide) rfl (fun ls hl => ?_)
        refine lv_goto (tgt := 5) hx hb dJ7_fill_53178_17 (by decide) ?_
        refine ih (i + 1) _ _ _ ls (by omega) (fun j hj => ?_) hP hD hS (lv_sub hl [1, 2, 0, 3] rfl)
        rw [nI_clamp (by omega)]
        unfold upd
        split
        · rfl
        · exact hg j (by omega)
  exact lp n 0 f _ _ ls (by omega) (fun j hj => by omega) hP hD hS (lv_sub hl [2, 3, 1, 0] rfl)
set_option maxHeartbeats 4000000 in
set_option maxRecDepth 100000 in
theorem c_X2_copyRow (l : Launch) (dC : Nat → ClassId) (dI : Nat → Nat → Nat) (cI : ClassId) (x y : Nat) (f g : Nat → Int32) : zV l yX2_copyRow wsX2_copyRow { frames := 1, cells := 0, slots := 0, locals := 60 } (dC, dI) cI [.ref x, .ref y] [(x, .inl (cI, 64, .inl f)), (y, .inl (cI, 64, .inl g))] [(x, .inl (cI, 64, .inl f)), (y, .inl (cI, 64, .inl f))] := by
  refine zV_of (cc := cX2_copyRow) (maxL := 2) (ret := none) (by decide) rfl (Nat.le_of_ble_eq_true rfl) ?_
  intro p e s m below meth c A ls C0 hl
  obtain ⟨hx, hb, hr, hml, hown, hts, hlocks, hK, hN, hA, hP, hD, hS⟩ := C0
  have hown : s.vm.findClass RX2 = some m.cls := hown
  have hl : lv_has ls 2 [(0, .ref x), (1, .ref y)] := hl
  refine lv_aload_n hx hb dX2_copyRow_0 rfl (lv_at hl 0 rfl) ?_
  refine lv_iconst (v := 0) hx hb dX2_copyRow_1 (by decide) ?_
  refine lv_aload_n hx hb dX2_copyRow_2 rfl (lv_at hl 1 rfl) ?_
  refine lv_iconst (v := 0) hx hb dX2_copyRow_3 (by decide) ?_
  refine lv_bipush (v := 64) hx hb dX2_copyRow_4 (by decide) ?_
  refine va_copyi (c0 := cI) (c1 := cI) (n0 := 64) (n1 := 64) (f := f) (g := g) (ty := .int) (sp := 0) (dp := 0) (n := 64) hx hb (hml.trans hl.1.symm) hown (hts (.methodLink RX2 81 arraycopyName) (by decide +kernel)) (hts (.native arraycopyName) (by decide +kernel)) (hts (.static arraycopyName) (by decide +kernel)) (hts (.initialized "java/lang/System") (by decide +kernel)) hK hP hD hS 0 1 0 0 rfl rfl rfl rfl rfl (by decide) (by decide) (by decide) (by decide) (by decide) (fun _ _ => rfl) (Nat.le_of_ble_eq_true rfl) (Nat.le_of_ble_eq_true rfl) dX2_copyRow_6 (fun H locs hP hD hS => ?_)
  have hP9 : va_P (dC, dI) vwCl [(x, .inl (cI, 64, .inl f)), (y, .inl (cI, 64, .inl f))] H := z_Pcons (hP 0 _ rfl) (z_Pcons (z_cell (hP 1 _ rfl) (fun j hj => show va_cpy f g 0 0 64 j = f j from sb_cpy0 hj)) z_Pnil)
  have hD9 : va_D A [(x, .inl (cI, 64, .inl f)), (y, .inl (cI, 64, .inl f))] := z_Dmap hD rfl
  exact zV_ret hx hb hr hlocks hP9 hD9 hS dX2_copyRow_9
theorem new_eq {S : sS} {u v : Int32} (h0 : S 0 0 = u) (h1 : S 0 1 = v) (h2 : S 0 2 = 0) (h3 : S 0 3 = 0) (h4 : S 0 4 = 0) (r1 : S 1 = fun _ => 1) (r2 : S 2 = fun _ => 0) (r3 : S 3 = fun _ => 60) (r4 : S 4 = fun _ => 2) (r5 : S 5 = fun _ => 30) (r6 : S 6 = fun _ => 0) (r12 : S 12 = fun _ => 0) (r13 : S 13 = fun _ => 0) : sEq (itr (fun i T => sl_clear T i) 64 S) (sl_new u v) := by
  refine ⟨fun j hj => ?_, fun j hj => ?_, fun r h2 h3 j hj => ?_⟩
  · rw [clr_out (Or.inl (by decide))]
    rcases (show j = 0 ∨ j = 1 ∨ j = 2 ∨ j = 3 ∨ j = 4 by omega) with rfl | rfl | rfl | rfl | rfl
    · exact h0
    · exact h1
    · assumption
    · assumption
    · exact h4
  · rw [clr_out (Or.inl (by decide)), r1]
    rfl
  · by_cases hr : 7 ≤ r ∧ r ≤ 11
    · rw [clr_in hr.1 hr.2 hj (by decide)]
      rcases (show r = 7 ∨ r = 8 ∨ r = 9 ∨ r = 10 ∨ r = 11 by omega) with rfl | rfl | rfl | rfl | rfl <;> rfl
    · rw [clr_out (by omega)]
      rcases (show r = 2 ∨ r = 3 ∨ r = 4 ∨ r = 5 ∨ r = 6 ∨ r = 12 ∨ r = 13 by omega) with rfl | rfl | rfl | rfl | rfl | rfl | rfl
      · rw [r2]; rfl
      · rw [r3]; rfl
      · rw [r4]; rfl
      · rw [r5]; rfl
      · rw [r6]; rfl
      · rw [r12]; rfl
      · rw [r13]; rfl
theorem cpy_eq {Z S T : sS} (h : Z = s_row (s_row (s_row (s_row (s_row (s_row (s_row (s_row (s_row (s_row (s_row (s_row (s_row (s_put (s_put (s_put (s_put (s_put T 0 0 (S 0 0)) 0 1 (S 0 1)) 0 2 (S 0 2)) 0 3 (S 0 3)) 0 4 (S 0 4)) 1 (va_cpy (S 1) (T 1) 0 0 8)) 2 (S 2)) 3 (S 3)) 4 (S 4)) 5 (S 5)) 6 (S 6)) 7 (S 7)) 8 (S 8)) 9 (S 9)) 10 (S 10)) 11 (S 11)) 12 (S 12)) 13 (S 13)) : sEq Z S := by
  subst h
  refine ⟨fun j hj => ?_, fun j hj => ?_, fun r h2 h3 j hj => ?_⟩
  · rcases (show j = 0 ∨ j = 1 ∨ j = 2 ∨ j = 3 ∨ j = 4 by omega) with rfl | rfl | rfl | rfl | rfl <;> rfl
  · show va_cpy (S 1) _ 0 0 8 j = S 1 j
    exact sb_cpy0 hj
  · rcases (show r = 2 ∨ r = 3 ∨ r = 4 ∨ r = 5 ∨ r = 6 ∨ r = 7 ∨ r = 8 ∨ r = 9 ∨ r = 10 ∨ r = 11 ∨ r = 12 ∨ r = 13 by omega) with rfl | rfl | rfl | rfl | rfl | rfl | rfl | rfl | rfl | rfl | rfl | rfl <;> rfl

set_option maxHeartbeats 4000000 in
set_option maxRecDepth 100000 in
theorem c_X2_fieldNumber (l : Launch) (dC : Nat → ClassId) (dI : Nat → Nat → Nat) (cI : ClassId) (a : Nat → Nat) (S : sS) (i x : Int32) (hC : vp_in i 64) : zI l yX2_fieldNumber wsX2_fieldNumber { frames := 0, cells := 0, slots := 0, locals := 0 } (dC, dI) cI [.ref (a 0), .int i, .int x] (sW cI a S) (sW cI a S) (sl_field S i x) := by
  refine zI_of (cc := cX2_fieldNumber) (maxL := 3) (ret := (some .int)) (by decide) rfl (Nat.le_of_ble_eq_true rfl) ?_
  intro p e s m below meth c A ls C0 hl
  obtain ⟨hx, hb, hr, hml, hown, hts, hlocks, hK, hN, hA, hP, hD, hS⟩ := C0
  have hown : s.vm.findClass RX2 = some m.cls := hown
  have hl : lv_has ls 3 [(0, .ref (a 0)), (1, .int i), (2, .int x)] := hl
  have hf15 := hts (.fieldLink RX2 15 "PaddyTerraces$Slope" "depth" "[I") (by decide +kernel)
  have hf18 := hts (.fieldLink RX2 18 "PaddyTerraces$Slope" "bank" "[I") (by decide +kernel)
  have hf21 := hts (.fieldLink RX2 21 "PaddyTerraces$Slope" "seepage" "[I") (by decide +kernel)
  have hf24 := hts (.fieldLink RX2 24 "PaddyTerraces$Slope" "stone" "[I") (by decide +kernel)
  have hf27 := hts (.fieldLink RX2 27 "PaddyTerraces$Slope" "side" "[I") (by decide +kernel)
  have hf30 := hts (.fieldLink RX2 30 "PaddyTerraces$Slope" "crop" "[I") (by decide +kernel)
  have hf33 := hts (.fieldLink RX2 33 "PaddyTerraces$Slope" "age" "[I") (by decide +kernel)
  have hf36 := hts (.fieldLink RX2 36 "PaddyTerraces$Slope" "hardness" "[I") (by decide +kernel)
  have hf39 := hts (.fieldLink RX2 39 "PaddyTerraces$Slope" "drowned" "[I") (by decide +kernel)
  have hf42 := hts (.fieldLink RX2 42 "PaddyTerraces$Slope" "dry" "[I") (by decide +kernel)
  have hf45 := hts (.fieldLink RX2 45 "PaddyTerraces$Slope" "wentOut" "[I") (by decide +kernel)
  have hf48 := hts (.fieldLink RX2 48 "PaddyTerraces$Slope" "spilled" "[I") (by decide +kernel)
  have hinX2 : ∀ w ∈ wsX20, w ∈ wsX2_fieldNumber := by decide +kernel
  have hS0 := hS
  refine lv_iload_n hx hb dX2_fieldNumber_0 rfl (lv_at hl 2 rfl) ?_
  by_cases c_1 : x = 0
  · refine lv_tableIn (off := 59) (tgt := 60) hx hb dX2_fieldNumber_1 (by rw [c_1]; decide) (by rw [c_1]; decide) (by rw [c_1]; rfl) (by decide) ?_
    refine lv_aload_n hx hb dX2_fieldNumber_60 rfl (lv_at hl 0 rfl) ?_
    refine va_get (D := (dC, dI)) (ci := 2) (v := .ref (a 2)) (C := RX2) (T := TX2) (N := 18) hx hb hts hinX2 hown hK hP 0 rfl rfl 6 (by decide) hf15 (fun _ h9 => h9) rfl dX2_fieldNumber_61 ?_
    refine lv_iload_n hx hb dX2_fieldNumber_64 rfl (lv_at hl 1 rfl) ?_
    refine va_iald (cA := cI) (n := 64) (f := S 2) hx hb hK hP 2 0 rfl rfl hC dX2_fieldNumber_65 ?_
    exact zI_ret hx hb hr hlocks hP hD hS rfl (by first | done | rfl | (simp only [sl_field, if_pos c_1]; done)) dX2_fieldNumber_66
  by_cases c_2 : x = 1
  · refine lv_tableIn (off := 66) (tgt := 67) hx hb dX2_fieldNumber_1 (by rw [c_2]; decide) (by rw [c_2]; decide) (by rw [c_2]; rfl) (by decide) ?_
    refine lv_aload_n hx hb dX2_fieldNumber_67 rfl (lv_at hl 0 rfl) ?_
    refine va_get (D := (dC, dI)) (ci := 2) (v := .ref (a 3)) (C := RX2) (T := TX2) (N := 18) hx hb hts hinX2 hown hK hP 0 rfl rfl 7 (by decide) hf18 (fun _ h9 => h9) rfl dX2_fieldNumber_68 ?_
    refine lv_iload_n hx hb dX2_fieldNumber_71 rfl (lv_at hl 1 rfl) ?_
    refine va_iald (cA := cI) (n := 64) (f := S 3) hx hb hK hP 3 0 rfl rfl hC dX2_fieldNumber_72 ?_
    exact zI_ret hx hb hr hlocks hP hD hS rfl (by first | done | rfl | (simp only [sl_field, if_neg c_1, if_pos c_2]; done)) dX2_fieldNumber_73
  by_cases c_3 : x = 2
  · refine lv_tableIn (off := 73) (tgt := 74) hx hb dX2_fieldNumber_1 (by rw [c_3]; decide) (by rw [c_3]; decide) (by rw [c_3]; rfl) (by decide) ?_
    refine lv_aload_n hx hb dX2_fieldNumber_74 rfl (lv_at hl 0 rfl) ?_
    refine va_get (D := (dC, dI)) (ci := 2) (v := .ref (a 4)) (C := RX2) (T := TX2) (N := 18) hx hb hts hinX2 hown hK hP 0 rfl rfl 8 (by decide) hf21 (fun _ h9 => h9) rfl dX2_fieldNumber_75 ?_
    refine lv_iload_n hx hb dX2_fieldNumber_78 rfl (lv_at hl 1 rfl) ?_
    refine va_iald (cA := cI) (n := 64) (f := S 4) hx hb hK hP 4 0 rfl rfl hC dX2_fieldNumber_79 ?_
    exact zI_ret hx hb hr hlocks hP hD hS rfl (by first | done | rfl | (simp only [sl_field, if_neg c_1, if_neg c_2, if_pos c_3]; done)) dX2_fieldNumber_80
  by_cases c_4 : x = 3
  · refine lv_tableIn (off := 80) (tgt := 81) hx hb dX2_fieldNumber_1 (by rw [c_4]; decide) (by rw [c_4]; decide) (by rw [c_4]; rfl) (by decide) ?_
    refine lv_aload_n hx hb dX2_fieldNumber_81 rfl (lv_at hl 0 rfl) ?_
    refine va_get (D := (dC, dI)) (ci := 2) (v := .ref (a 5)) (C := RX2) (T := TX2) (N := 18) hx hb hts hinX2 hown hK hP 0 rfl rfl 9 (by decide) hf24 (fun _ h9 => h9) rfl dX2_fieldNumber_82 ?_
    refine lv_iload_n hx hb dX2_fieldNumber_85 rfl (lv_at hl 1 rfl) ?_
    refine va_iald (cA := cI) (n := 64) (f := S 5) hx hb hK hP 5 0 rfl rfl hC dX2_fieldNumber_86 ?_
    exact zI_ret hx hb hr hlocks hP hD hS rfl (by first | done | rfl | (simp only [sl_field, if_neg c_1, if_neg c_2, if_neg c_3, if_pos c_4]; done)) dX2_fieldNumber_87
  by_cases c_5 : x = 4
  · refine lv_tableIn (off := 87) (tgt := 88) hx hb dX2_fieldNumber_1 (by rw [c_5]; decide) (by rw [c_5]; decide) (by rw [c_5]; rfl) (by decide) ?_
    refine lv_aload_n hx hb dX2_fieldNumber_88 rfl (lv_at hl 0 rfl) ?_
    refine va_get (D := (dC, dI)) (ci := 2) (v := .ref (a 6)) (C := RX2) (T := TX2) (N := 18) hx hb hts hinX2 hown hK hP 0 rfl rfl 10 (by decide) hf27 (fun _ h9 => h9) rfl dX2_fieldNumber_89 ?_
    refine lv_iload_n hx hb dX2_fieldNumber_92 rfl (lv_at hl 1 rfl) ?_
    refine va_iald (cA := cI) (n := 64) (f := S 6) hx hb hK hP 6 0 rfl rfl hC dX2_fieldNumber_93 ?_
    exact zI_ret hx hb hr hlocks hP hD hS rfl (by first | done | rfl | (simp only [sl_field, if_neg c_1, if_neg c_2, if_neg c_3, if_neg c_4, if_pos c_5]; done)) dX2_fieldNumber_94
  by_cases c_6 : x = 5
  · refine lv_tableIn (off := 94) (tgt := 95) hx hb dX2_fieldNumber_1 (by rw [c_6]; decide) (by rw [c_6]; decide) (by rw [c_6]; rfl) (by decide) ?_
    refine lv_aload_n hx hb dX2_fieldNumber_95 rfl (lv_at hl 0 rfl) ?_
    refine va_get (D := (dC, dI)) (ci := 2) (v := .ref (a 7)) (C := RX2) (T := TX2) (N := 18) hx hb hts hinX2 hown hK hP 0 rfl rfl 11 (by decide) hf30 (fun _ h9 => h9) rfl dX2_fieldNumber_96 ?_
    refine lv_iload_n hx hb dX2_fieldNumber_99 rfl (lv_at hl 1 rfl) ?_
    refine va_iald (cA := cI) (n := 64) (f := S 7) hx hb hK hP 7 0 rfl rfl hC dX2_fieldNumber_100 ?_
    exact zI_ret hx hb hr hlocks hP hD hS rfl (by first | done | rfl | (simp only [sl_field, if_neg c_1, if_neg c_2, if_neg c_3, if_neg c_4, if_neg c_5, if_pos c_6]; done)) dX2_fieldNumber_101
  by_cases c_7 : x = 6
  · refine lv_tableIn (off := 101) (tgt := 102) hx hb dX2_fieldNumber_1 (by rw [c_7]; decide) (by rw [c_7]; decide) (by rw [c_7]; rfl) (by decide) ?_
    refine lv_aload_n hx hb dX2_fieldNumber_102 rfl (lv_at hl 0 rfl) ?_
    refine va_get (D := (dC, dI)) (ci := 2) (v := .ref (a 8)) (C := RX2) (T := TX2) (N := 18) hx hb hts hinX2 hown hK hP 0 rfl rfl 12 (by decide) hf33 (fun _ h9 => h9) rfl dX2_fieldNumber_103 ?_
    refine lv_iload_n hx hb dX2_fieldNumber_106 rfl (lv_at hl 1 rfl) ?_
    refine va_iald (cA := cI) (n := 64) (f := S 8) hx hb hK hP 8 0 rfl rfl hC dX2_fieldNumber_107 ?_
    exact zI_ret hx hb hr hlocks hP hD hS rfl (by first | done | rfl | (simp only [sl_field, if_neg c_1, if_neg c_2, if_neg c_3, if_neg c_4, if_neg c_5, if_neg c_6, if_pos c_7]; done)) dX2_fieldNumber_108
  by_cases c_8 : x = 7
  · refine lv_tableIn (off := 108) (tgt := 109) hx hb dX2_fieldNumber_1 (by rw [c_8]; decide) (by rw [c_8]; decide) (by rw [c_8]; rfl) (by decide) ?_
    refine lv_aload_n hx hb dX2_fieldNumber_109 rfl (lv_at hl 0 rfl) ?_
    refine va_get (D := (dC, dI)) (ci := 2) (v := .ref (a 9)) (C := RX2) (T := TX2) (N := 18) hx hb hts hinX2 hown hK hP 0 rfl rfl 13 (by decide) hf36 (fun _ h9 => h9) rfl dX2_fieldNumber_110 ?_
    refine lv_iload_n hx hb dX2_fieldNumber_113 rfl (lv_at hl 1 rfl) ?_
    refine va_iald (cA := cI) (n := 64) (f := S 9) hx hb hK hP 9 0 rfl rfl hC dX2_fieldNumber_114 ?_
    exact zI_ret hx hb hr hlocks hP hD hS rfl (by first | done | rfl | (simp only [sl_field, if_neg c_1, if_neg c_2, if_neg c_3, if_neg c_4, if_neg c_5, if_neg c_6, if_neg c_7, if_pos c_8]; done)) dX2_fieldNumber_115
  by_cases c_9 : x = 8
  · refine lv_tableIn (off := 115) (tgt := 116) hx hb dX2_fieldNumber_1 (by rw [c_9]; decide) (by rw [c_9]; decide) (by rw [c_9]; rfl) (by decide) ?_
    refine lv_aload_n hx hb dX2_fieldNumber_116 rfl (lv_at hl 0 rfl) ?_
    refine va_get (D := (dC, dI)) (ci := 2) (v := .ref (a 10)) (C := RX2) (T := TX2) (N := 18) hx hb hts hinX2 hown hK hP 0 rfl rfl 14 (by decide) hf39 (fun _ h9 => h9) rfl dX2_fieldNumber_117 ?_
    refine lv_iload_n hx hb dX2_fieldNumber_120 rfl (lv_at hl 1 rfl) ?_
    refine va_iald (cA := cI) (n := 64) (f := S 10) hx hb hK hP 10 0 rfl rfl hC dX2_fieldNumber_121 ?_
    exact zI_ret hx hb hr hlocks hP hD hS rfl (by first | done | rfl | (simp only [sl_field, if_neg c_1, if_neg c_2, if_neg c_3, if_neg c_4, if_neg c_5, if_neg c_6, if_neg c_7, if_neg c_8, if_pos c_9]; done)) dX2_fieldNumber_122
  by_cases c_10 : x = 9
  · refine lv_tableIn (off := 122) (tgt := 123) hx hb dX2_fieldNumber_1 (by rw [c_10]; decide) (by rw [c_10]; decide) (by rw [c_10]; rfl) (by decide) ?_
    refine lv_aload_n hx hb dX2_fieldNumber_123 rfl (lv_at hl 0 rfl) ?_
    refine va_get (D := (dC, dI)) (ci := 2) (v := .ref (a 11)) (C := RX2) (T := TX2) (N := 18) hx hb hts hinX2 hown hK hP 0 rfl rfl 15 (by decide) hf42 (fun _ h9 => h9) rfl dX2_fieldNumber_124 ?_
    refine lv_iload_n hx hb dX2_fieldNumber_127 rfl (lv_at hl 1 rfl) ?_
    refine va_iald (cA := cI) (n := 64) (f := S 11) hx hb hK hP 11 0 rfl rfl hC dX2_fieldNumber_128 ?_
    exact zI_ret hx hb hr hlocks hP hD hS rfl (by first | done | rfl | (simp only [sl_field, if_neg c_1, if_neg c_2, if_neg c_3, if_neg c_4, if_neg c_5, if_neg c_6, if_neg c_7, if_neg c_8, if_neg c_9, if_pos c_10]; done)) dX2_fieldNumber_129
  by_cases c_11 : x = 10
  · refine lv_tableIn (off := 129) (tgt := 130) hx hb dX2_fieldNumber_1 (by rw [c_11]; decide) (by rw [c_11]; decide) (by rw [c_11]; rfl) (by decide) ?_
    refine lv_aload_n hx hb dX2_fieldNumber_130 rfl (lv_at hl 0 rfl) ?_
    refine va_get (D := (dC, dI)) (ci := 2) (v := .ref (a 12)) (C := RX2) (T := TX2) (N := 18) hx hb hts hinX2 hown hK hP 0 rfl rfl 16 (by decide) hf45 (fun _ h9 => h9) rfl dX2_fieldNumber_131 ?_
    refine lv_iload_n hx hb dX2_fieldNumber_134 rfl (lv_at hl 1 rfl) ?_
    refine va_iald (cA := cI) (n := 64) (f := S 12) hx hb hK hP 12 0 rfl rfl hC dX2_fieldNumber_135 ?_
    exact zI_ret hx hb hr hlocks hP hD hS rfl (by first | done | rfl | (simp only [sl_field, if_neg c_1, if_neg c_2, if_neg c_3, if_neg c_4, if_neg c_5, if_neg c_6, if_neg c_7, if_neg c_8, if_neg c_9, if_neg c_10, if_pos c_11]; done)) dX2_fieldNumber_136
  refine lv_tableOut (tgt := 137) hx hb dX2_fieldNumber_1 (by have h90 := lv_neT c_1 (a := 0) rfl; have h91 := lv_neT c_2 (a := 1) rfl; have h92 := lv_neT c_3 (a := 2) rfl; have h93 := lv_neT c_4 (a := 3) rfl; have h94 := lv_neT c_5 (a := 4) rfl; have h95 := lv_neT c_6 (a := 5) rfl; have h96 := lv_neT c_7 (a := 6) rfl; have h97 := lv_neT c_8 (a := 7) rfl; have h98 := lv_neT c_9 (a := 8) rfl; have h99 := lv_neT c_10 (a := 9) rfl; have h910 := lv_neT c_11 (a := 10) rfl; omega) (by decide) ?_
  refine lv_aload_n hx hb dX2_fieldNumber_137 rfl (lv_at hl 0 rfl) ?_
  refine va_get (D := (dC, dI)) (ci := 2) (v := .ref (a 13)) (C := RX2) (T := TX2) (N := 18) hx hb hts hinX2 hown hK hP 0 rfl rfl 17 (by decide) hf48 (fun _ h9 => h9) rfl dX2_fieldNumber_138 ?_
  refine lv_iload_n hx hb dX2_fieldNumber_141 rfl (lv_at hl 1 rfl) ?_
  refine va_iald (cA := cI) (n := 64) (f := S 13) hx hb hK hP 13 0 rfl rfl hC dX2_fieldNumber_142 ?_
  exact zI_ret hx hb hr hlocks hP hD hS rfl (by first | done | rfl | (simp only [sl_field, if_neg c_1, if_neg c_2, if_neg c_3, if_neg c_4, if_neg c_5, if_neg c_6, if_neg c_7, if_neg c_8, if_neg c_9, if_neg c_10, if_neg c_11]; done)) dX2_fieldNumber_143
set_option maxHeartbeats 4000000 in
set_option maxRecDepth 100000 in
theorem c_X2_startAnew (l : Launch) (dC : Nat → ClassId) (dI : Nat → Nat → Nat) (cI : ClassId) (a : Nat → Nat) (S : sS) (u v : Int32) : zV l yX2_startAnew wsX2_startAnew { frames := 1, cells := 0, slots := 0, locals := 23 } (dC, dI) cI [.ref (a 0), .int u, .int v] (sW cI a S) (sW cI a (sl_new u v)) := by
  refine zV_of (cc := cX2_startAnew) (maxL := 4) (ret := none) (by decide) rfl (Nat.le_of_ble_eq_true rfl) ?_
  intro p e s m below meth c A ls C0 hl
  obtain ⟨hx, hb, hr, hml, hown, hts, hlocks, hK, hN, hA, hP, hD, hS⟩ := C0
  have hown : s.vm.findClass RX2 = some m.cls := hown
  have hl : lv_has ls 4 [(0, .ref (a 0)), (1, .int u), (2, .int v)] := hl
  have hf9 := hts (.fieldLink RX2 9 "PaddyTerraces$Slope" "share" "[I") (by decide +kernel)
  have hf15 := hts (.fieldLink RX2 15 "PaddyTerraces$Slope" "depth" "[I") (by decide +kernel)
  have hf18 := hts (.fieldLink RX2 18 "PaddyTerraces$Slope" "bank" "[I") (by decide +kernel)
  have hf21 := hts (.fieldLink RX2 21 "PaddyTerraces$Slope" "seepage" "[I") (by decide +kernel)
  have hf24 := hts (.fieldLink RX2 24 "PaddyTerraces$Slope" "stone" "[I") (by decide +kernel)
  have hf27 := hts (.fieldLink RX2 27 "PaddyTerraces$Slope" "side" "[I") (by decide +kernel)
  have hf45 := hts (.fieldLink RX2 45 "PaddyTerraces$Slope" "wentOut" "[I") (by decide +kernel)
  have hf48 := hts (.fieldLink RX2 48 "PaddyTerraces$Slope" "spilled" "[I") (by decide +kernel)
  have hf55 := hts (.fieldLink RX2 55 "PaddyTerraces$Slope" "h" "I") (by decide +kernel)
  have hf59 := hts (.fieldLink RX2 59 "PaddyTerraces$Slope" "w" "I") (by decide +kernel)
  have hf62 := hts (.fieldLink RX2 62 "PaddyTerraces$Slope" "day" "I") (by decide +kernel)
  have hf65 := hts (.fieldLink RX2 65 "PaddyTerraces$Slope" "brook" "I") (by decide +kernel)
  have hf68 := hts (.fieldLink RX2 68 "PaddyTerraces$Slope" "died" "I") (by decide +kernel)
  have hinX2 : ∀ w ∈ wsX20, w ∈ wsX2_startAnew := by decide +kernel
  have hS0 := hS
  refine lv_aload_n hx hb dX2_startAnew_0 rfl (lv_at hl 0 rfl) ?_
  refine lv_iload_n hx hb dX2_startAnew_1 rfl (lv_at hl 1 rfl) ?_
  obtain ⟨S1, eS1⟩ : ∃ z : sS, z = s_put S 0 0 u := ⟨_, rfl⟩
  refine va_put (D := (dC, dI)) (ci := 2) (v := .int u) (ty := .int) (C := RX2) (T := TX2) (N := 18) hx hb hts hinX2 tyX2 tyX2_ok nmX2 hown hK hP hD hS 0 rfl rfl 0 (by decide) hf55 (fun _ h9 => h9) rfl (by decide +kernel) rfl rfl (Nat.le_of_ble_eq_true rfl) dX2_startAnew_2 (fun H locs hP hD hS => ?_)
  have hP : va_P (dC, dI) vwCl (sW cI a S1) H := by rw [eS1]; exact hP
  have hD : va_D A (sW cI a S1) := by rw [eS1]; exact hD
  refine lv_aload_n hx hb dX2_startAnew_5 rfl (lv_at hl 0 rfl) ?_
  refine lv_iload_n hx hb dX2_startAnew_6 rfl (lv_at hl 2 rfl) ?_
  obtain ⟨S2, eS2⟩ : ∃ z : sS, z = s_put S1 0 1 v := ⟨_, rfl⟩
  refine va_put (D := (dC, dI)) (ci := 2) (v := .int v) (ty := .int) (C := RX2) (T := TX2) (N := 18) hx hb hts hinX2 tyX2 tyX2_ok nmX2 hown hK hP hD hS 0 rfl rfl 1 (by decide) hf59 (fun _ h9 => h9) rfl (by decide +kernel) rfl rfl (Nat.le_of_ble_eq_true rfl) dX2_startAnew_7 (fun H locs hP hD hS => ?_)
  have hP : va_P (dC, dI) vwCl (sW cI a S2) H := by rw [eS2]; exact hP
  have hD : va_D A (sW cI a S2) := by rw [eS2]; exact hD
  refine lv_aload_n hx hb dX2_startAnew_10 rfl (lv_at hl 0 rfl) ?_
  refine lv_iconst (v := 0) hx hb dX2_startAnew_11 (by decide) ?_
  obtain ⟨S3, eS3⟩ : ∃ z : sS, z = s_put S2 0 2 0 := ⟨_, rfl⟩
  refine va_put (D := (dC, dI)) (ci := 2) (v := .int 0) (ty := .int) (C := RX2) (T := TX2) (N := 18) hx hb hts hinX2 tyX2 tyX2_ok nmX2 hown hK hP hD hS 0 rfl rfl 2 (by decide) hf62 (fun _ h9 => h9) rfl (by decide +kernel) rfl rfl (Nat.le_of_ble_eq_true rfl) dX2_startAnew_12 (fun H locs hP hD hS => ?_)
  have hP : va_P (dC, dI) vwCl (sW cI a S3) H := by rw [eS3]; exact hP
  have hD : va_D A (sW cI a S3) := by rw [eS3]; exact hD
  refine lv_aload_n hx hb dX2_startAnew_15 rfl (lv_at hl 0 rfl) ?_
  refine lv_iconst (v := 0) hx hb dX2_startAnew_16 (by decide) ?_
  obtain ⟨S4, eS4⟩ : ∃ z : sS, z = s_put S3 0 3 0 := ⟨_, rfl⟩
  refine va_put (D := (dC, dI)) (ci := 2) (v := .int 0) (ty := .int) (C := RX2) (T := TX2) (N := 18) hx hb hts hinX2 tyX2 tyX2_ok nmX2 hown hK hP hD hS 0 rfl rfl 3 (by decide) hf65 (fun _ h9 => h9) rfl (by decide +kernel) rfl rfl (Nat.le_of_ble_eq_true rfl) dX2_startAnew_17 (fun H locs hP hD hS => ?_)
  have hP : va_P (dC, dI) vwCl (sW cI a S4) H := by rw [eS4]; exact hP
  have hD : va_D A (sW cI a S4) := by rw [eS4]; exact hD
  refine lv_aload_n hx hb dX2_startAnew_20 rfl (lv_at hl 0 rfl) ?_
  refine lv_iconst (v := 0) hx hb dX2_startAnew_21 (by decide) ?_
  obtain ⟨S5, eS5⟩ : ∃ z : sS, z = s_put S4 0 4 0 := ⟨_, rfl⟩
  refine va_put (D := (dC, dI)) (ci := 2) (v := .int 0) (ty := .int) (C := RX2) (T := TX2) (N := 18) hx hb hts hinX2 tyX2 tyX2_ok nmX2 hown hK hP hD hS 0 rfl rfl 4 (by decide) hf68 (fun _ h9 => h9) rfl (by decide +kernel) rfl rfl (Nat.le_of_ble_eq_true rfl) dX2_startAnew_22 (fun H locs hP hD hS => ?_)
  have hP : va_P (dC, dI) vwCl (sW cI a S5) H := by rw [eS5]; exact hP
  have hD : va_D A (sW cI a S5) := by rw [eS5]; exact hD
  refine lv_aload_n hx hb dX2_startAnew_25 rfl (lv_at hl 0 rfl) ?_
  refine va_get (D := (dC, dI)) (ci := 2) (v := .ref (a 1)) (C := RX2) (T := TX2) (N := 18) hx hb hts hinX2 hown hK hP 0 rfl rfl 5 (by decide) hf9 (fun _ h9 => h9) rfl dX2_startAnew_26 ?_
  refine lv_iconst (v := 1) hx hb dX2_startAnew_29 (by decide) ?_
  obtain ⟨S6, eS6⟩ : ∃ z : sS, z = s_row S5 1 (fun _ => 1) := ⟨_, rfl⟩
  refine zV_S (pre := (sW cI a S5).take 1) (wc := [((a 1), .inl (cI, 8, .inl (S5 1)))]) (post := (sW cI a S5).drop 2) (w1 := [((a 1), .inl (cI, 8, .inl (fun _ => 1)))]) ⟨hx, hb, hml, hown, hts⟩ (c_fill l dC dI cI (a 1) 8 (S5 1) 1 (by decide)) (va_cwS 2 hts gX2_startAnew_J7_fill_53178 rfl rfl rfl (by decide +kernel) ⟨Nat.le_of_ble_eq_true rfl, Nat.le_of_ble_eq_true rfl⟩) rfl hK hN hP hD hS hA rfl hl.1 rfl (Nat.le_of_ble_eq_true rfl) dX2_startAnew_30 ⟨Nat.le_of_ble_eq_true rfl, Nat.le_of_ble_eq_true rfl⟩ (fun H locs hP hD hS => ?_)
  have hP : va_P (dC, dI) vwCl (sW cI a S6) H := by rw [eS6]; exact hP
  have hD : va_D A (sW cI a S6) := by rw [eS6]; exact hD
  refine lv_aload_n hx hb dX2_startAnew_33 rfl (lv_at hl 0 rfl) ?_
  refine va_get (D := (dC, dI)) (ci := 2) (v := .ref (a 2)) (C := RX2) (T := TX2) (N := 18) hx hb hts hinX2 hown hK hP 0 rfl rfl 6 (by decide) hf15 (fun _ h9 => h9) rfl dX2_startAnew_34 ?_
  refine lv_iconst (v := 0) hx hb dX2_startAnew_37 (by decide) ?_
  obtain ⟨S7, eS7⟩ : ∃ z : sS, z = s_row S6 2 (fun _ => 0) := ⟨_, rfl⟩
  refine zV_S (pre := (sW cI a S6).take 2) (wc := [((a 2), .inl (cI, 64, .inl (S6 2)))]) (post := (sW cI a S6).drop 3) (w1 := [((a 2), .inl (cI, 64, .inl (fun _ => 0)))]) ⟨hx, hb, hml, hown, hts⟩ (c_fill l dC dI cI (a 2) 64 (S6 2) 0 (by decide)) (va_cwS 2 hts gX2_startAnew_J7_fill_53178 rfl rfl rfl (by decide +kernel) ⟨Nat.le_of_ble_eq_true rfl, Nat.le_of_ble_eq_true rfl⟩) rfl hK hN hP hD hS hA rfl hl.1 rfl (Nat.le_of_ble_eq_true rfl) dX2_startAnew_38 ⟨Nat.le_of_ble_eq_true rfl, Nat.le_of_ble_eq_true rfl⟩ (fun H locs hP hD hS => ?_)
  have hP : va_P (dC, dI) vwCl (sW cI a S7) H := by rw [eS7]; exact hP
  have hD : va_D A (sW cI a S7) := by rw [eS7]; exact hD
  refine lv_aload_n hx hb dX2_startAnew_41 rfl (lv_at hl 0 rfl) ?_
  refine va_get (D := (dC, dI)) (ci := 2) (v := .ref (a 3)) (C := RX2) (T := TX2) (N := 18) hx hb hts hinX2 hown hK hP 0 rfl rfl 7 (by decide) hf18 (fun _ h9 => h9) rfl dX2_startAnew_42 ?_
  refine lv_bipush (v := 60) hx hb dX2_startAnew_45 (by decide) ?_
  obtain ⟨S8, eS8⟩ : ∃ z : sS, z = s_row S7 3 (fun _ => 60) := ⟨_, rfl⟩
  refine zV_S (pre := (sW cI a S7).take 3) (wc := [((a 3), .inl (cI, 64, .inl (S7 3)))]) (post := (sW cI a S7).drop 4) (w1 := [((a 3), .inl (cI, 64, .inl (fun _ => 60)))]) ⟨hx, hb, hml, hown, hts⟩ (c_fill l dC dI cI (a 3) 64 (S7 3) 60 (by decide)) (va_cwS 2 hts gX2_startAnew_J7_fill_53178 rfl rfl rfl (by decide +kernel) ⟨Nat.le_of_ble_eq_true rfl, Nat.le_of_ble_eq_true rfl⟩) rfl hK hN hP hD hS hA rfl hl.1 rfl (Nat.le_of_ble_eq_true rfl) dX2_startAnew_47 ⟨Nat.le_of_ble_eq_true rfl, Nat.le_of_ble_eq_true rfl⟩ (fun H locs hP hD hS => ?_)
  have hP : va_P (dC, dI) vwCl (sW cI a S8) H := by rw [eS8]; exact hP
  have hD : va_D A (sW cI a S8) := by rw [eS8]; exact hD
  refine lv_aload_n hx hb dX2_startAnew_50 rfl (lv_at hl 0 rfl) ?_
  refine va_get (D := (dC, dI)) (ci := 2) (v := .ref (a 4)) (C := RX2) (T := TX2) (N := 18) hx hb hts hinX2 hown hK hP 0 rfl rfl 8 (by decide) hf21 (fun _ h9 => h9) rfl dX2_startAnew_51 ?_
  refine lv_iconst (v := 2) hx hb dX2_startAnew_54 (by decide) ?_
  obtain ⟨S9, eS9⟩ : ∃ z : sS, z = s_row S8 4 (fun _ => 2) := ⟨_, rfl⟩
  refine zV_S (pre := (sW cI a S8).take 4) (wc := [((a 4), .inl (cI, 64, .inl (S8 4)))]) (post := (sW cI a S8).drop 5) (w1 := [((a 4), .inl (cI, 64, .inl (fun _ => 2)))]) ⟨hx, hb, hml, hown, hts⟩ (c_fill l dC dI cI (a 4) 64 (S8 4) 2 (by decide)) (va_cwS 2 hts gX2_startAnew_J7_fill_53178 rfl rfl rfl (by decide +kernel) ⟨Nat.le_of_ble_eq_true rfl, Nat.le_of_ble_eq_true rfl⟩) rfl hK hN hP hD hS hA rfl hl.1 rfl (Nat.le_of_ble_eq_true rfl) dX2_startAnew_55 ⟨Nat.le_of_ble_eq_true rfl, Nat.le_of_ble_eq_true rfl⟩ (fun H locs hP hD hS => ?_)
  have hP : va_P (dC, dI) vwCl (sW cI a S9) H := by rw [eS9]; exact hP
  have hD : va_D A (sW cI a S9) := by rw [eS9]; exact hD
  refine lv_aload_n hx hb dX2_startAnew_58 rfl (lv_at hl 0 rfl) ?_
  refine va_get (D := (dC, dI)) (ci := 2) (v := .ref (a 5)) (C := RX2) (T := TX2) (N := 18) hx hb hts hinX2 hown hK hP 0 rfl rfl 9 (by decide) hf24 (fun _ h9 => h9) rfl dX2_startAnew_59 ?_
  refine lv_bipush (v := 30) hx hb dX2_startAnew_62 (by decide) ?_
  obtain ⟨S10, eS10⟩ : ∃ z : sS, z = s_row S9 5 (fun _ => 30) := ⟨_, rfl⟩
  refine zV_S (pre := (sW cI a S9).take 5) (wc := [((a 5), .inl (cI, 64, .inl (S9 5)))]) (post := (sW cI a S9).drop 6) (w1 := [((a 5), .inl (cI, 64, .inl (fun _ => 30)))]) ⟨hx, hb, hml, hown, hts⟩ (c_fill l dC dI cI (a 5) 64 (S9 5) 30 (by decide)) (va_cwS 2 hts gX2_startAnew_J7_fill_53178 rfl rfl rfl (by decide +kernel) ⟨Nat.le_of_ble_eq_true rfl, Nat.le_of_ble_eq_true rfl⟩) rfl hK hN hP hD hS hA rfl hl.1 rfl (Nat.le_of_ble_eq_true rfl) dX2_startAnew_64 ⟨Nat.le_of_ble_eq_true rfl, Nat.le_of_ble_eq_true rfl⟩ (fun H locs hP hD hS => ?_)
  have hP : va_P (dC, dI) vwCl (sW cI a S10) H := by rw [eS10]; exact hP
  have hD : va_D A (sW cI a S10) := by rw [eS10]; exact hD
  refine lv_aload_n hx hb dX2_startAnew_67 rfl (lv_at hl 0 rfl) ?_
  refine va_get (D := (dC, dI)) (ci := 2) (v := .ref (a 6)) (C := RX2) (T := TX2) (N := 18) hx hb hts hinX2 hown hK hP 0 rfl rfl 10 (by decide) hf27 (fun _ h9 => h9) rfl dX2_startAnew_68 ?_
  refine lv_iconst (v := 0) hx hb dX2_startAnew_71 (by decide) ?_
  obtain ⟨S11, eS11⟩ : ∃ z : sS, z = s_row S10 6 (fun _ => 0) := ⟨_, rfl⟩
  refine zV_S (pre := (sW cI a S10).take 6) (wc := [((a 6), .inl (cI, 64, .inl (S10 6)))]) (post := (sW cI a S10).drop 7) (w1 := [((a 6), .inl (cI, 64, .inl (fun _ => 0)))]) ⟨hx, hb, hml, hown, hts⟩ (c_fill l dC dI cI (a 6) 64 (S10 6) 0 (by decide)) (va_cwS 2 hts gX2_startAnew_J7_fill_53178 rfl rfl rfl (by decide +kernel) ⟨Nat.le_of_ble_eq_true rfl, Nat.le_of_ble_eq_true rfl⟩) rfl hK hN hP hD hS hA rfl hl.1 rfl (Nat.le_of_ble_eq_true rfl) dX2_startAnew_72 ⟨Nat.le_of_ble_eq_true rfl, Nat.le_of_ble_eq_true rfl⟩ (fun H locs hP hD hS => ?_)
  have hP : va_P (dC, dI) vwCl (sW cI a S11) H := by rw [eS11]; exact hP
  have hD : va_D A (sW cI a S11) := by rw [eS11]; exact hD
  refine lv_aload_n hx hb dX2_startAnew_75 rfl (lv_at hl 0 rfl) ?_
  refine va_get (D := (dC, dI)) (ci := 2) (v := .ref (a 12)) (C := RX2) (T := TX2) (N := 18) hx hb hts hinX2 hown hK hP 0 rfl rfl 16 (by decide) hf45 (fun _ h9 => h9) rfl dX2_startAnew_76 ?_
  refine lv_iconst (v := 0) hx hb dX2_startAnew_79 (by decide) ?_
  obtain ⟨S12, eS12⟩ : ∃ z : sS, z = s_row S11 12 (fun _ => 0) := ⟨_, rfl⟩
  refine zV_S (pre := (sW cI a S11).take 12) (wc := [((a 12), .inl (cI, 64, .inl (S11 12)))]) (post := (sW cI a S11).drop 13) (w1 := [((a 12), .inl (cI, 64, .inl (fun _ => 0)))]) ⟨hx, hb, hml, hown, hts⟩ (c_fill l dC dI cI (a 12) 64 (S11 12) 0 (by decide)) (va_cwS 2 hts gX2_startAnew_J7_fill_53178 rfl rfl rfl (by decide +kernel) ⟨Nat.le_of_ble_eq_true rfl, Nat.le_of_ble_eq_true rfl⟩) rfl hK hN hP hD hS hA rfl hl.1 rfl (Nat.le_of_ble_eq_true rfl) dX2_startAnew_80 ⟨Nat.le_of_ble_eq_true rfl, Nat.le_of_ble_eq_true rfl⟩ (fun H locs hP hD hS => ?_)
  have hP : va_P (dC, dI) vwCl (sW cI a S12) H := by rw [eS12]; exact hP
  have hD : va_D A (sW cI a S12) := by rw [eS12]; exact hD
  refine lv_aload_n hx hb dX2_startAnew_83 rfl (lv_at hl 0 rfl) ?_
  refine va_get (D := (dC, dI)) (ci := 2) (v := .ref (a 13)) (C := RX2) (T := TX2) (N := 18) hx hb hts hinX2 hown hK hP 0 rfl rfl 17 (by decide) hf48 (fun _ h9 => h9) rfl dX2_startAnew_84 ?_
  refine lv_iconst (v := 0) hx hb dX2_startAnew_87 (by decide) ?_
  obtain ⟨S13, eS13⟩ : ∃ z : sS, z = s_row S12 13 (fun _ => 0) := ⟨_, rfl⟩
  refine zV_S (pre := (sW cI a S12).take 13) (wc := [((a 13), .inl (cI, 64, .inl (S12 13)))]) (post := (sW cI a S12).drop 14) (w1 := [((a 13), .inl (cI, 64, .inl (fun _ => 0)))]) ⟨hx, hb, hml, hown, hts⟩ (c_fill l dC dI cI (a 13) 64 (S12 13) 0 (by decide)) (va_cwS 2 hts gX2_startAnew_J7_fill_53178 rfl rfl rfl (by decide +kernel) ⟨Nat.le_of_ble_eq_true rfl, Nat.le_of_ble_eq_true rfl⟩) rfl hK hN hP hD hS hA rfl hl.1 rfl (Nat.le_of_ble_eq_true rfl) dX2_startAnew_88 ⟨Nat.le_of_ble_eq_true rfl, Nat.le_of_ble_eq_true rfl⟩ (fun H locs hP hD hS => ?_)
  have hP : va_P (dC, dI) vwCl (sW cI a S13) H := by rw [eS13]; exact hP
  have hD : va_D A (sW cI a S13) := by rw [eS13]; exact hD
  refine lv_iconst (v := 0) hx hb dX2_startAnew_91 (by decide) ?_
  refine lv_istore_n (lv' := [(3, .int 0), (0, .ref (a 0)), (1, .int u), (2, .int v)]) hx hb dX2_startAnew_92 rfl hl (by decide) rfl (fun ls hl => ?_)
  have lp93 : ∀ (n93 i93 : Nat) (T93_0 : sS) (H : Heap) (locs : List Loc) (ls : Array Slot), i93 + n93 = 64 → T93_0 = itr (fun i T => sl_clear T i) i93 S13 → va_P (dC, dI) vwCl (sW cI a T93_0) H → va_D A (sW cI a T93_0) → va_S A s.heap H locs → lv_has ls 4 [(0, .ref (a 0)), (1, .int u), (2, .int v), (3, .int (nI i93))] → W p l e ({ frames := 1, cells := 0, slots := 0, locals := 23 } : Room) s m [.ref (a 0), .int u, .int v].toArray below meth c H locs 0 0 (zVq (dC, dI) A (sW cI a (sl_new u v)) below [.ref (a 0), .int u, .int v].toArray s 0 0) (F0 m 93 ls []) := by
    intro n93
    induction n93 with
    | zero =>
      intro i93 T93_0 H locs ls hi93 eT93_0 hP hD hS hl
      have hi93 : i93 = 64 := by omega
      rw [hi93] at eT93_0
      refine lv_iload_n hx hb dX2_startAnew_93 rfl (lv_at hl 3 rfl) ?_
      refine lv_bipush (v := 64) hx hb dX2_startAnew_94 (by decide) ?_
      refine lv_icmp_ge (tgt := 110) hx hb dX2_startAnew_96 (by decide) (fun c_14 => ?_) (fun c_14 => ?_)
      · have hE : sEq T93_0 (sl_new u v) := by
          rw [eT93_0]
          refine new_eq ?_ ?_ ?_ ?_ ?_ ?_ ?_ ?_ ?_ ?_ ?_ ?_ ?_
          · rw [eS13, eS12, eS11, eS10, eS9, eS8, eS7, eS6, eS5, eS4, eS3, eS2, eS1]; rfl
          · rw [eS13, eS12, eS11, eS10, eS9, eS8, eS7, eS6, eS5, eS4, eS3, eS2, eS1]; rfl
          · rw [eS13, eS12, eS11, eS10, eS9, eS8, eS7, eS6, eS5, eS4, eS3, eS2, eS1]; rfl
          · rw [eS13, eS12, eS11, eS10, eS9, eS8, eS7, eS6, eS5, eS4, eS3, eS2, eS1]; rfl
          · rw [eS13, eS12, eS11, eS10, eS9, eS8, eS7, eS6, eS5, eS4, eS3, eS2, eS1]; rfl
          · rw [eS13, eS12, eS11, eS10, eS9, eS8, eS7, eS6, eS5, eS4, eS3, eS2, eS1]; rfl
          · rw [eS13, eS12, eS11, eS10, eS9, eS8, eS7, eS6, eS5, eS4, eS3, eS2, eS1]; rfl
          · rw [eS13, eS12, eS11, eS10, eS9, eS8, eS7, eS6, eS5, eS4, eS3, eS2, eS1]; rfl
          · rw [eS13, eS12, eS11, eS10, eS9, eS8, eS7, eS6, eS5, eS4, eS3, eS2, eS1]; rfl
          · rw [eS13, eS12, eS11, eS10, eS9, eS8, eS7, eS6, eS5, eS4, eS3, eS2, eS1]; rfl
          · rw [eS13, eS12, eS11, eS10, eS9, eS8, eS7, eS6, eS5, eS4, eS3, eS2, eS1]; rfl
          · rw [eS13, eS12, eS11, eS10, eS9, eS8, eS7, eS6, eS5, eS4, eS3, eS2, eS1]; rfl
          · rw [eS13, eS12, eS11, eS10, eS9, eS8, eS7, eS6, eS5, eS4, eS3, eS2, eS1]; rfl
        have hP : va_P (dC, dI) vwCl (sW cI a (sl_new u v)) H := sW_eq hE hP
        have hD : va_D A (sW cI a (sl_new u v)) := z_Dmap hD (sW_map cI a _ _)
        exact zV_ret hx hb hr hlocks hP hD hS dX2_startAnew_110
      · exact absurd (show nI (64) ≤ nI i93 from nI_le (by omega) (by omega)) c_14
    | succ n93 ih93 =>
      intro i93 T93_0 H locs ls hi93 eT93_0 hP hD hS hl
      refine lv_iload_n hx hb dX2_startAnew_93 rfl (lv_at hl 3 rfl) ?_
      refine lv_bipush (v := 64) hx hb dX2_startAnew_94 (by decide) ?_
      refine lv_icmp_ge (tgt := 110) hx hb dX2_startAnew_96 (by decide) (fun c_15 => ?_) (fun c_15 => ?_)
      · exact absurd c_15 (show ¬ nI (64) ≤ nI i93 from nI_ge (by omega) (by omega))
      · refine lv_aload_n hx hb dX2_startAnew_99 rfl (lv_at hl 0 rfl) ?_
        refine lv_iload_n hx hb dX2_startAnew_100 rfl (lv_at hl 3 rfl) ?_
        obtain ⟨S16, eS16⟩ : ∃ z : sS, z = sl_clear T93_0 (nI i93) := ⟨_, rfl⟩
        refine zV_V (pre := ([] : va_W)) (wc := sW cI a T93_0) (post := ([] : va_W)) (w1 := sW cI a S16) ⟨hx, hb, hml, hown, hts⟩ (by rw [eS16]; exact c_X2_clearCrop l dC dI cI a T93_0 (nI i93) (vp_in_nI (by omega) (by decide))) (cwV 1 hts gX2_startAnew_X2_clearCrop rfl rfl rfl (by decide +kernel) ⟨Nat.le_of_ble_eq_true rfl, Nat.le_of_ble_eq_true rfl⟩) (by simp only [List.append_assoc, List.append_nil, List.nil_append]) hK hN (ci := 2) (q0 := 0) rfl rfl rfl hP hD hS hA rfl hl.1 rfl (Nat.le_of_ble_eq_true rfl) dX2_startAnew_101 ⟨Nat.le_of_ble_eq_true rfl, Nat.le_of_ble_eq_true rfl⟩ (fun H locs hP hD hS => ?_)
        have hP : va_P (dC, dI) vwCl (sW cI a S16) H := by simpa only [List.append_assoc, List.append_nil, List.nil_append] using hP
        have hD : va_D A (sW cI a S16) := by simpa only [List.append_assoc, List.append_nil, List.nil_append] using hD
        refine lv_iinc (v := nI (i93 + 1)) (lv' := [(3, .int (nI (i93 + 1))), (0, .ref (a 0)), (1, .int u), (2, .int v)]) hx hb dX2_startAnew_104 hl (k := 3) rfl (show nI i93 + Int32.ofInt 1 = nI (i93 + 1) from nI_1 i93) (by decide) rfl (fun ls hl => ?_)
        refine lv_goto (tgt := 93) hx hb dX2_startAnew_107 (by decide) ?_
        exact ih93 (i93 + 1) S16 _ _ ls (by omega) (by (try rw [eS16]); (try rw [eT93_0]); rfl) hP hD hS (lv_sub hl [1, 2, 3, 0] rfl)
  exact lp93 (64) 0 S13 _ _ ls (by omega) rfl hP hD hS (lv_sub hl [1, 2, 3, 0] rfl)
end
section
set_option maxHeartbeats 4000000 in
set_option maxRecDepth 100000 in
theorem c_X2_letDaysGoBy (l : Launch) (dC : Nat → ClassId) (dI : Nat → Nat → Nat) (cI : ClassId) (a k : Nat → Nat) (h w d n : Nat) (S M : sS) (hG0 : geo h w S) (hd : S 0 2 = nI d) (hdn : d + n < 1000000) : zV l yX2_letDaysGoBy wsX2_letDaysGoBy { frames := 4, cells := 0, slots := 0, locals := 92 } (dC, dI) cI [.ref (a 0), .int (nI n), .ref (k 1)] (sW cI a S ++ kW cI k M) (sW cI a (sl_days h w M S n) ++ kW cI k M) := by
  refine zV_of (cc := cX2_letDaysGoBy) (maxL := 5) (ret := none) (by decide) rfl (Nat.le_of_ble_eq_true rfl) ?_
  intro p e s m below meth c A ls C0 hl
  obtain ⟨hx, hb, hr, hml, hown, hts, hlocks, hK, hN, hA, hP, hD, hS⟩ := C0
  have hown : s.vm.findClass RX2 = some m.cls := hown
  have hl : lv_has ls 5 [(0, .ref (a 0)), (1, .int (nI n)), (2, .ref (k 1))] := hl
  have hf62 := hts (.fieldLink RX2 62 "PaddyTerraces$Slope" "day" "I") (by decide +kernel)
  have hf99 := hts (.fieldLink RX2 99 "PaddyTerraces$Calendar" "rain" "[I") (by decide +kernel)
  have hf107 := hts (.fieldLink RX2 107 "PaddyTerraces$Calendar" "spring" "[I") (by decide +kernel)
  have hf116 := hts (.fieldLink RX2 116 "PaddyTerraces$Calendar" "draught" "[I") (by decide +kernel)
  have hinX0 : ∀ w ∈ wsX00, w ∈ wsX2_letDaysGoBy := by decide +kernel
  have hinX2 : ∀ w ∈ wsX20, w ∈ wsX2_letDaysGoBy := by decide +kernel
  have hS0 := hS
  have hN64 := geo_hw hG0
  have hW9 := geo_w hG0
  obtain ⟨-, -, hh2, hh8, hw2, hw8⟩ := id hG0
  refine lv_iconst (v := 0) hx hb dX2_letDaysGoBy_0 (by decide) ?_
  refine lv_istore_n (lv' := [(3, .int 0), (0, .ref (a 0)), (1, .int (nI n)), (2, .ref (k 1))]) hx hb dX2_letDaysGoBy_1 rfl hl (by decide) rfl (fun ls hl => ?_)
  have lp2 : ∀ (n2 i2 : Nat) (T2_0 : sS) (H : Heap) (locs : List Loc) (ls : Array Slot), i2 + n2 = n → T2_0 = itr (fun _ T => sl_day h w M T) i2 S → geo h w T2_0 → T2_0 0 2 = nI (d + i2) → va_P (dC, dI) vwCl (sW cI a T2_0 ++ kW cI k M) H → va_D A (sW cI a T2_0 ++ kW cI k M) → va_S A s.heap H locs → lv_has ls 5 [(0, .ref (a 0)), (1, .int (nI n)), (2, .ref (k 1)), (3, .int (nI i2))] → W p l e ({ frames := 4, cells := 0, slots := 0, locals := 92 } : Room) s m [.ref (a 0), .int (nI n), .ref (k 1)].toArray below meth c H locs 0 0 (zVq (dC, dI) A (sW cI a (sl_days h w M S n) ++ kW cI k M) below [.ref (a 0), .int (nI n), .ref (k 1)].toArray s 0 0) (F0 m 2 ls []) := by
    intro n2
    induction n2 with
    | zero =>
      intro i2 T2_0 H locs ls hi2 eT2_0 hGT2_0 hdT2_0 hP hD hS hl
      have hi2 : i2 = n := by omega
      rw [hi2] at eT2_0
      refine lv_iload_n hx hb dX2_letDaysGoBy_2 rfl (lv_at hl 3 rfl) ?_
      refine lv_iload_n hx hb dX2_letDaysGoBy_3 rfl (lv_at hl 1 rfl) ?_
      refine lv_icmp_ge (tgt := 73) hx hb dX2_letDaysGoBy_4 (by decide) (fun c_1 => ?_) (fun c_1 => ?_)
      · have hZ : T2_0 = sl_days h w M S n := (by (try rw [eT2_0]); first | done | rfl | (simp only [sl_days, if_pos c_1]; done) | (unfold sl_days; simp only [if_pos c_1]; done))
        rw [hZ] at hP hD
        exact zV_ret hx hb hr hlocks hP hD hS dX2_letDaysGoBy_73
      · exact absurd (show nI (n) ≤ nI i2 from nI_le (by omega) (by omega)) c_1
    | succ n2 ih2 =>
      intro i2 T2_0 H locs ls hi2 eT2_0 hGT2_0 hdT2_0 hP hD hS hl
      refine lv_iload_n hx hb dX2_letDaysGoBy_2 rfl (lv_at hl 3 rfl) ?_
      refine lv_iload_n hx hb dX2_letDaysGoBy_3 rfl (lv_at hl 1 rfl) ?_
      refine lv_icmp_ge (tgt := 73) hx hb dX2_letDaysGoBy_4 (by decide) (fun c_2 => ?_) (fun c_2 => ?_)
      · exact absurd c_2 (show ¬ nI (n) ≤ nI i2 from nI_ge (by omega) (by omega))
      · refine lv_aload_n hx hb dX2_letDaysGoBy_7 rfl (lv_at hl 0 rfl) ?_
        refine va_get (D := (dC, dI)) (ci := 2) (v := .int (T2_0 0 2)) (C := RX2) (T := TX2) (N := 18) hx hb hts hinX2 hown hK hP 0 rfl rfl 2 (by decide) hf62 (fun _ h9 => h9) rfl dX2_letDaysGoBy_8 ?_
        refine lv_bipush (v := 30) hx hb dX2_letDaysGoBy_11 (by decide) ?_
        refine lv_irem hx hb dX2_letDaysGoBy_13 (by decide) ?_
        refine lv_istore (lv' := [(4, .int ((T2_0 0 2) - (T2_0 0 2) / 30 * 30)), (0, .ref (a 0)), (1, .int (nI n)), (2, .ref (k 1)), (3, .int (nI i2))]) hx hb dX2_letDaysGoBy_14 hl (by decide) rfl (fun ls hl => ?_)
        refine lv_aload_n hx hb dX2_letDaysGoBy_16 rfl (lv_at hl 1 rfl) ?_
        refine lv_dup hx hb dX2_letDaysGoBy_17 rfl ?_
        refine va_get (D := (dC, dI)) (ci := 2) (v := .int (T2_0 0 2)) (C := RX2) (T := TX2) (N := 18) hx hb hts hinX2 hown hK hP 0 rfl rfl 2 (by decide) hf62 (fun _ h9 => h9) rfl dX2_letDaysGoBy_18 ?_
        refine lv_iconst (v := 1) hx hb dX2_letDaysGoBy_21 (by decide) ?_
        refine lv_iadd hx hb dX2_letDaysGoBy_22 ?_
        obtain ⟨S3, eS3⟩ : ∃ z : sS, z = s_put T2_0 0 2 ((T2_0 0 2) + 1) := ⟨_, rfl⟩
        refine va_put (D := (dC, dI)) (ci := 2) (v := .int ((T2_0 0 2) + 1)) (ty := .int) (C := RX2) (T := TX2) (N := 18) hx hb hts hinX2 tyX2 tyX2_ok nmX2 hown hK hP hD hS 0 rfl rfl 2 (by decide) hf62 (fun _ h9 => h9) rfl (by decide +kernel) rfl rfl (Nat.le_of_ble_eq_true rfl) dX2_letDaysGoBy_23 (fun H locs hP hD hS => ?_)
        have hP : va_P (dC, dI) vwCl (sW cI a S3 ++ kW cI k M) H := by rw [eS3]; exact hP
        have hD : va_D A (sW cI a S3 ++ kW cI k M) := by rw [eS3]; exact hD
        have hGS3 : geo h w S3 := by rw [eS3]; exact geo_put hGT2_0 (Or.inr (by decide)) _
        refine lv_aload_n hx hb dX2_letDaysGoBy_26 rfl (lv_at hl 1 rfl) ?_
        refine lv_aload_n hx hb dX2_letDaysGoBy_27 rfl (lv_at hl 3 rfl) ?_
        refine va_get (D := (dC, dI)) (ci := 0) (v := .ref (k 2)) (C := RX0) (T := TX0) (N := 3) hx hb hts hinX0 hown hK hP 14 rfl rfl 0 (by decide) hf99 (fun _ h9 => h9) rfl dX2_letDaysGoBy_28 ?_
        refine lv_iload hx hb dX2_letDaysGoBy_31 (lv_at hl 0 rfl) ?_
        refine va_iald (cA := cI) (n := 30) (f := M 1) hx hb hK hP 15 0 rfl rfl (date_in hdT2_0 (by omega)) dX2_letDaysGoBy_33 ?_
        obtain ⟨S4, eS4⟩ : ∃ z : sS, z = sl_rain h w S3 (M 1 ((T2_0 0 2) - (T2_0 0 2) / 30 * 30).toNatClampNeg) := ⟨_, rfl⟩
        refine zV_V (pre := ([] : va_W)) (wc := sW cI a S3) (post := (kW cI k M)) (w1 := sW cI a S4) ⟨hx, hb, hml, hown, hts⟩ (by rw [eS4]; exact c_X2_takeRain l dC dI cI a h w S3 (M 1 ((T2_0 0 2) - (T2_0 0 2) / 30 * 30).toNatClampNeg) hGS3) (cwV 1 hts gX2_letDaysGoBy_X2_takeRain rfl rfl rfl (by decide +kernel) ⟨Nat.le_of_ble_eq_true rfl, Nat.le_of_ble_eq_true rfl⟩) (by simp only [List.append_assoc, List.append_nil, List.nil_append]) hK hN (ci := 2) (q0 := 0) rfl rfl rfl hP hD hS hA rfl hl.1 rfl (Nat.le_of_ble_eq_true rfl) dX2_letDaysGoBy_34 ⟨Nat.le_of_ble_eq_true rfl, Nat.le_of_ble_eq_true rfl⟩ (fun H locs hP hD hS => ?_)
        have hP : va_P (dC, dI) vwCl (sW cI a S4 ++ kW cI k M) H := by simpa only [List.append_assoc, List.append_nil, List.nil_append] using hP
        have hD : va_D A (sW cI a S4 ++ kW cI k M) := by simpa only [List.append_assoc, List.append_nil, List.nil_append] using hD
        have hGS4 : geo h w S4 := by rw [eS4]; exact geo_sam hGS3 (sam_rain h w S3 (M 1 ((T2_0 0 2) - (T2_0 0 2) / 30 * 30).toNatClampNeg))
        refine lv_aload_n hx hb dX2_letDaysGoBy_37 rfl (lv_at hl 1 rfl) ?_
        refine lv_aload_n hx hb dX2_letDaysGoBy_38 rfl (lv_at hl 3 rfl) ?_
        refine va_get (D := (dC, dI)) (ci := 0) (v := .ref (k 3)) (C := RX0) (T := TX0) (N := 3) hx hb hts hinX0 hown hK hP 14 rfl rfl 1 (by decide) hf107 (fun _ h9 => h9) rfl dX2_letDaysGoBy_39 ?_
        refine lv_iload hx hb dX2_letDaysGoBy_42 (lv_at hl 0 rfl) ?_
        refine va_iald (cA := cI) (n := 30) (f := M 2) hx hb hK hP 16 0 rfl rfl (date_in hdT2_0 (by omega)) dX2_letDaysGoBy_44 ?_
        obtain ⟨S5, eS5⟩ : ∃ z : sS, z = sl_spring w S4 (M 2 ((T2_0 0 2) - (T2_0 0 2) / 30 * 30).toNatClampNeg) := ⟨_, rfl⟩
        refine zV_V (pre := ([] : va_W)) (wc := sW cI a S4) (post := (kW cI k M)) (w1 := sW cI a S5) ⟨hx, hb, hml, hown, hts⟩ (by rw [eS5]; exact c_X2_takeSpring l dC dI cI a h w S4 (M 2 ((T2_0 0 2) - (T2_0 0 2) / 30 * 30).toNatClampNeg) hGS4) (cwV 1 hts gX2_letDaysGoBy_X2_takeSpring rfl rfl rfl (by decide +kernel) ⟨Nat.le_of_ble_eq_true rfl, Nat.le_of_ble_eq_true rfl⟩) (by simp only [List.append_assoc, List.append_nil, List.nil_append]) hK hN (ci := 2) (q0 := 0) rfl rfl rfl hP hD hS hA rfl hl.1 rfl (Nat.le_of_ble_eq_true rfl) dX2_letDaysGoBy_45 ⟨Nat.le_of_ble_eq_true rfl, Nat.le_of_ble_eq_true rfl⟩ (fun H locs hP hD hS => ?_)
        have hP : va_P (dC, dI) vwCl (sW cI a S5 ++ kW cI k M) H := by simpa only [List.append_assoc, List.append_nil, List.nil_append] using hP
        have hD : va_D A (sW cI a S5 ++ kW cI k M) := by simpa only [List.append_assoc, List.append_nil, List.nil_append] using hD
        have hGS5 : geo h w S5 := by rw [eS5]; exact geo_sam hGS4 (sam_spring w S4 (M 2 ((T2_0 0 2) - (T2_0 0 2) / 30 * 30).toNatClampNeg))
        refine lv_aload_n hx hb dX2_letDaysGoBy_48 rfl (lv_at hl 1 rfl) ?_
        obtain ⟨S6, eS6⟩ : ∃ z : sS, z = sl_flowAll h w S5 := ⟨_, rfl⟩
        refine zV_V (pre := ([] : va_W)) (wc := sW cI a S5) (post := (kW cI k M)) (w1 := sW cI a S6) ⟨hx, hb, hml, hown, hts⟩ (by rw [eS6]; exact c_X2_letWaterFlow l dC dI cI a h w S5 hGS5) (cwV 0 hts gX2_letDaysGoBy_X2_letWaterFlow rfl rfl rfl (by decide +kernel) ⟨Nat.le_of_ble_eq_true rfl, Nat.le_of_ble_eq_true rfl⟩) (by simp only [List.append_assoc, List.append_nil, List.nil_append]) hK hN (ci := 2) (q0 := 0) rfl rfl rfl hP hD hS hA rfl hl.1 rfl (Nat.le_of_ble_eq_true rfl) dX2_letDaysGoBy_49 ⟨Nat.le_of_ble_eq_true rfl, Nat.le_of_ble_eq_true rfl⟩ (fun H locs hP hD hS => ?_)
        have hP : va_P (dC, dI) vwCl (sW cI a S6 ++ kW cI k M) H := by simpa only [List.append_assoc, List.append_nil, List.nil_append] using hP
        have hD : va_D A (sW cI a S6 ++ kW cI k M) := by simpa only [List.append_assoc, List.append_nil, List.nil_append] using hD
        have hGS6 : geo h w S6 := by rw [eS6]; exact geo_sam hGS5 (sam_flowAll h w S5)
        refine lv_aload_n hx hb dX2_letDaysGoBy_52 rfl (lv_at hl 1 rfl) ?_
        refine lv_aload_n hx hb dX2_letDaysGoBy_53 rfl (lv_at hl 3 rfl) ?_
        refine va_get (D := (dC, dI)) (ci := 0) (v := .ref (k 4)) (C := RX0) (T := TX0) (N := 3) hx hb hts hinX0 hown hK hP 14 rfl rfl 2 (by decide) hf116 (fun _ h9 => h9) rfl dX2_letDaysGoBy_54 ?_
        refine lv_iload hx hb dX2_letDaysGoBy_57 (lv_at hl 0 rfl) ?_
        refine va_iald (cA := cI) (n := 30) (f := M 3) hx hb hK hP 17 0 rfl rfl (date_in hdT2_0 (by omega)) dX2_letDaysGoBy_59 ?_
        obtain ⟨S7, eS7⟩ : ∃ z : sS, z = sl_lose h w S6 (M 3 ((T2_0 0 2) - (T2_0 0 2) / 30 * 30).toNatClampNeg) := ⟨_, rfl⟩
        refine zV_V (pre := ([] : va_W)) (wc := sW cI a S6) (post := (kW cI k M)) (w1 := sW cI a S7) ⟨hx, hb, hml, hown, hts⟩ (by rw [eS7]; exact c_X2_loseWater l dC dI cI a h w S6 (M 3 ((T2_0 0 2) - (T2_0 0 2) / 30 * 30).toNatClampNeg) hGS6) (cwV 1 hts gX2_letDaysGoBy_X2_loseWater rfl rfl rfl (by decide +kernel) ⟨Nat.le_of_ble_eq_true rfl, Nat.le_of_ble_eq_true rfl⟩) (by simp only [List.append_assoc, List.append_nil, List.nil_append]) hK hN (ci := 2) (q0 := 0) rfl rfl rfl hP hD hS hA rfl hl.1 rfl (Nat.le_of_ble_eq_true rfl) dX2_letDaysGoBy_60 ⟨Nat.le_of_ble_eq_true rfl, Nat.le_of_ble_eq_true rfl⟩ (fun H locs hP hD hS => ?_)
        have hP : va_P (dC, dI) vwCl (sW cI a S7 ++ kW cI k M) H := by simpa only [List.append_assoc, List.append_nil, List.nil_append] using hP
        have hD : va_D A (sW cI a S7 ++ kW cI k M) := by simpa only [List.append_assoc, List.append_nil, List.nil_append] using hD
        have hGS7 : geo h w S7 := by rw [eS7]; exact geo_sam hGS6 (sam_lose h w S6 (M 3 ((T2_0 0 2) - (T2_0 0 2) / 30 * 30).toNatClampNeg))
        refine lv_aload_n hx hb dX2_letDaysGoBy_63 rfl (lv_at hl 1 rfl) ?_
        obtain ⟨S8, eS8⟩ : ∃ z : sS, z = sl_rice h w S7 := ⟨_, rfl⟩
        refine zV_V (pre := ([] : va_W)) (wc := sW cI a S7) (post := (kW cI k M)) (w1 := sW cI a S8) ⟨hx, hb, hml, hown, hts⟩ (by rw [eS8]; exact c_X2_growRice l dC dI cI a h w S7 hGS7) (cwV 0 hts gX2_letDaysGoBy_X2_growRice rfl rfl rfl (by decide +kernel) ⟨Nat.le_of_ble_eq_true rfl, Nat.le_of_ble_eq_true rfl⟩) (by simp only [List.append_assoc, List.append_nil, List.nil_append]) hK hN (ci := 2) (q0 := 0) rfl rfl rfl hP hD hS hA rfl hl.1 rfl (Nat.le_of_ble_eq_true rfl) dX2_letDaysGoBy_64 ⟨Nat.le_of_ble_eq_true rfl, Nat.le_of_ble_eq_true rfl⟩ (fun H locs hP hD hS => ?_)
        have hP : va_P (dC, dI) vwCl (sW cI a S8 ++ kW cI k M) H := by simpa only [List.append_assoc, List.append_nil, List.nil_append] using hP
        have hD : va_D A (sW cI a S8 ++ kW cI k M) := by simpa only [List.append_assoc, List.append_nil, List.nil_append] using hD
        have hGS8 : geo h w S8 := by rw [eS8]; exact geo_sam hGS7 (sam_rice h w S7)
        refine lv_iinc (v := nI (i2 + 1)) (lv' := [(3, .int (nI (i2 + 1))), (4, .int ((T2_0 0 2) - (T2_0 0 2) / 30 * 30)), (0, .ref (a 0)), (1, .int (nI n)), (2, .ref (k 1))]) hx hb dX2_letDaysGoBy_67 hl (k := 4) rfl (show nI i2 + Int32.ofInt 1 = nI (i2 + 1) from nI_1 i2) (by decide) rfl (fun ls hl => ?_)
        refine lv_goto (tgt := 2) hx hb dX2_letDaysGoBy_70 (by decide) ?_
        exact ih2 (i2 + 1) S8 _ _ ls (by omega) (by rw [show S8 = sl_day h w M T2_0 from (by rw [eS8, eS7, eS6, eS5, eS4, eS3]; rfl), eT2_0]; rfl) (by rw [show S8 = sl_day h w M T2_0 from (by rw [eS8, eS7, eS6, eS5, eS4, eS3]; rfl)]; exact geo_day hGT2_0 M) (by rw [show S8 = sl_day h w M T2_0 from (by rw [eS8, eS7, eS6, eS5, eS4, eS3]; rfl)]; exact day_day hdT2_0 M) hP hD hS (lv_sub hl [2, 3, 4, 0] rfl)
  exact lp2 (n) 0 S _ _ ls (by omega) rfl (hG0) (hd) hP hD hS (lv_sub hl [1, 2, 3, 0] rfl)
end
section
set_option maxHeartbeats 4000000 in
set_option maxRecDepth 100000 in
theorem c_X2_copyFrom (l : Launch) (dC : Nat → ClassId) (dI : Nat → Nat → Nat) (cI : ClassId) (a b : Nat → Nat) (S T : sS) : zV l yX2_copyFrom wsX2_copyFrom { frames := 2, cells := 0, slots := 0, locals := 81 } (dC, dI) cI [.ref (a 0), .ref (b 0)] (sW cI a T ++ sW cI b S) (sW cI a S ++ sW cI b S) := by
  refine zV_of (cc := cX2_copyFrom) (maxL := 2) (ret := none) (by decide) rfl (Nat.le_of_ble_eq_true rfl) ?_
  intro p e s m below meth c A ls C0 hl
  obtain ⟨hx, hb, hr, hml, hown, hts, hlocks, hK, hN, hA, hP, hD, hS⟩ := C0
  have hown : s.vm.findClass RX2 = some m.cls := hown
  have hl : lv_has ls 2 [(0, .ref (a 0)), (1, .ref (b 0))] := hl
  have hf9 := hts (.fieldLink RX2 9 "PaddyTerraces$Slope" "share" "[I") (by decide +kernel)
  have hf15 := hts (.fieldLink RX2 15 "PaddyTerraces$Slope" "depth" "[I") (by decide +kernel)
  have hf18 := hts (.fieldLink RX2 18 "PaddyTerraces$Slope" "bank" "[I") (by decide +kernel)
  have hf21 := hts (.fieldLink RX2 21 "PaddyTerraces$Slope" "seepage" "[I") (by decide +kernel)
  have hf24 := hts (.fieldLink RX2 24 "PaddyTerraces$Slope" "stone" "[I") (by decide +kernel)
  have hf27 := hts (.fieldLink RX2 27 "PaddyTerraces$Slope" "side" "[I") (by decide +kernel)
  have hf30 := hts (.fieldLink RX2 30 "PaddyTerraces$Slope" "crop" "[I") (by decide +kernel)
  have hf33 := hts (.fieldLink RX2 33 "PaddyTerraces$Slope" "age" "[I") (by decide +kernel)
  have hf36 := hts (.fieldLink RX2 36 "PaddyTerraces$Slope" "hardness" "[I") (by decide +kernel)
  have hf39 := hts (.fieldLink RX2 39 "PaddyTerraces$Slope" "drowned" "[I") (by decide +kernel)
  have hf42 := hts (.fieldLink RX2 42 "PaddyTerraces$Slope" "dry" "[I") (by decide +kernel)
  have hf45 := hts (.fieldLink RX2 45 "PaddyTerraces$Slope" "wentOut" "[I") (by decide +kernel)
  have hf48 := hts (.fieldLink RX2 48 "PaddyTerraces$Slope" "spilled" "[I") (by decide +kernel)
  have hf55 := hts (.fieldLink RX2 55 "PaddyTerraces$Slope" "h" "I") (by decide +kernel)
  have hf59 := hts (.fieldLink RX2 59 "PaddyTerraces$Slope" "w" "I") (by decide +kernel)
  have hf62 := hts (.fieldLink RX2 62 "PaddyTerraces$Slope" "day" "I") (by decide +kernel)
  have hf65 := hts (.fieldLink RX2 65 "PaddyTerraces$Slope" "brook" "I") (by decide +kernel)
  have hf68 := hts (.fieldLink RX2 68 "PaddyTerraces$Slope" "died" "I") (by decide +kernel)
  have hi_Sys := hts (.initialized "java/lang/System") (by decide +kernel)
  have hm81 := hts (.methodLink RX2 81 arraycopyName) (by decide +kernel)
  have hn_acp := hts (.native arraycopyName) (by decide +kernel)
  have hs_acp := hts (.static arraycopyName) (by decide +kernel)
  have hinX2 : ∀ w ∈ wsX20, w ∈ wsX2_copyFrom := by decide +kernel
  have hS0 := hS
  refine lv_aload_n hx hb dX2_copyFrom_0 rfl (lv_at hl 0 rfl) ?_
  refine lv_aload_n hx hb dX2_copyFrom_1 rfl (lv_at hl 1 rfl) ?_
  refine va_get (D := (dC, dI)) (ci := 2) (v := .int (S 0 0)) (C := RX2) (T := TX2) (N := 18) hx hb hts hinX2 hown hK hP 14 rfl rfl 0 (by decide) hf55 (fun _ h9 => h9) rfl dX2_copyFrom_2 ?_
  obtain ⟨S1, eS1⟩ : ∃ z : sS, z = s_put T 0 0 (S 0 0) := ⟨_, rfl⟩
  refine va_put (D := (dC, dI)) (ci := 2) (v := .int (S 0 0)) (ty := .int) (C := RX2) (T := TX2) (N := 18) hx hb hts hinX2 tyX2 tyX2_ok nmX2 hown hK hP hD hS 0 rfl rfl 0 (by decide) hf55 (fun _ h9 => h9) rfl (by decide +kernel) rfl rfl (Nat.le_of_ble_eq_true rfl) dX2_copyFrom_5 (fun H locs hP hD hS => ?_)
  have hP : va_P (dC, dI) vwCl (sW cI a S1 ++ sW cI b S) H := by rw [eS1]; exact hP
  have hD : va_D A (sW cI a S1 ++ sW cI b S) := by rw [eS1]; exact hD
  refine lv_aload_n hx hb dX2_copyFrom_8 rfl (lv_at hl 0 rfl) ?_
  refine lv_aload_n hx hb dX2_copyFrom_9 rfl (lv_at hl 1 rfl) ?_
  refine va_get (D := (dC, dI)) (ci := 2) (v := .int (S 0 1)) (C := RX2) (T := TX2) (N := 18) hx hb hts hinX2 hown hK hP 14 rfl rfl 1 (by decide) hf59 (fun _ h9 => h9) rfl dX2_copyFrom_10 ?_
  obtain ⟨S2, eS2⟩ : ∃ z : sS, z = s_put S1 0 1 (S 0 1) := ⟨_, rfl⟩
  refine va_put (D := (dC, dI)) (ci := 2) (v := .int (S 0 1)) (ty := .int) (C := RX2) (T := TX2) (N := 18) hx hb hts hinX2 tyX2 tyX2_ok nmX2 hown hK hP hD hS 0 rfl rfl 1 (by decide) hf59 (fun _ h9 => h9) rfl (by decide +kernel) rfl rfl (Nat.le_of_ble_eq_true rfl) dX2_copyFrom_13 (fun H locs hP hD hS => ?_)
  have hP : va_P (dC, dI) vwCl (sW cI a S2 ++ sW cI b S) H := by rw [eS2]; exact hP
  have hD : va_D A (sW cI a S2 ++ sW cI b S) := by rw [eS2]; exact hD
  refine lv_aload_n hx hb dX2_copyFrom_16 rfl (lv_at hl 0 rfl) ?_
  refine lv_aload_n hx hb dX2_copyFrom_17 rfl (lv_at hl 1 rfl) ?_
  refine va_get (D := (dC, dI)) (ci := 2) (v := .int (S 0 2)) (C := RX2) (T := TX2) (N := 18) hx hb hts hinX2 hown hK hP 14 rfl rfl 2 (by decide) hf62 (fun _ h9 => h9) rfl dX2_copyFrom_18 ?_
  obtain ⟨S3, eS3⟩ : ∃ z : sS, z = s_put S2 0 2 (S 0 2) := ⟨_, rfl⟩
  refine va_put (D := (dC, dI)) (ci := 2) (v := .int (S 0 2)) (ty := .int) (C := RX2) (T := TX2) (N := 18) hx hb hts hinX2 tyX2 tyX2_ok nmX2 hown hK hP hD hS 0 rfl rfl 2 (by decide) hf62 (fun _ h9 => h9) rfl (by decide +kernel) rfl rfl (Nat.le_of_ble_eq_true rfl) dX2_copyFrom_21 (fun H locs hP hD hS => ?_)
  have hP : va_P (dC, dI) vwCl (sW cI a S3 ++ sW cI b S) H := by rw [eS3]; exact hP
  have hD : va_D A (sW cI a S3 ++ sW cI b S) := by rw [eS3]; exact hD
  refine lv_aload_n hx hb dX2_copyFrom_24 rfl (lv_at hl 0 rfl) ?_
  refine lv_aload_n hx hb dX2_copyFrom_25 rfl (lv_at hl 1 rfl) ?_
  refine va_get (D := (dC, dI)) (ci := 2) (v := .int (S 0 3)) (C := RX2) (T := TX2) (N := 18) hx hb hts hinX2 hown hK hP 14 rfl rfl 3 (by decide) hf65 (fun _ h9 => h9) rfl dX2_copyFrom_26 ?_
  obtain ⟨S4, eS4⟩ : ∃ z : sS, z = s_put S3 0 3 (S 0 3) := ⟨_, rfl⟩
  refine va_put (D := (dC, dI)) (ci := 2) (v := .int (S 0 3)) (ty := .int) (C := RX2) (T := TX2) (N := 18) hx hb hts hinX2 tyX2 tyX2_ok nmX2 hown hK hP hD hS 0 rfl rfl 3 (by decide) hf65 (fun _ h9 => h9) rfl (by decide +kernel) rfl rfl (Nat.le_of_ble_eq_true rfl) dX2_copyFrom_29 (fun H locs hP hD hS => ?_)
  have hP : va_P (dC, dI) vwCl (sW cI a S4 ++ sW cI b S) H := by rw [eS4]; exact hP
  have hD : va_D A (sW cI a S4 ++ sW cI b S) := by rw [eS4]; exact hD
  refine lv_aload_n hx hb dX2_copyFrom_32 rfl (lv_at hl 0 rfl) ?_
  refine lv_aload_n hx hb dX2_copyFrom_33 rfl (lv_at hl 1 rfl) ?_
  refine va_get (D := (dC, dI)) (ci := 2) (v := .int (S 0 4)) (C := RX2) (T := TX2) (N := 18) hx hb hts hinX2 hown hK hP 14 rfl rfl 4 (by decide) hf68 (fun _ h9 => h9) rfl dX2_copyFrom_34 ?_
  obtain ⟨S5, eS5⟩ : ∃ z : sS, z = s_put S4 0 4 (S 0 4) := ⟨_, rfl⟩
  refine va_put (D := (dC, dI)) (ci := 2) (v := .int (S 0 4)) (ty := .int) (C := RX2) (T := TX2) (N := 18) hx hb hts hinX2 tyX2 tyX2_ok nmX2 hown hK hP hD hS 0 rfl rfl 4 (by decide) hf68 (fun _ h9 => h9) rfl (by decide +kernel) rfl rfl (Nat.le_of_ble_eq_true rfl) dX2_copyFrom_37 (fun H locs hP hD hS => ?_)
  have hP : va_P (dC, dI) vwCl (sW cI a S5 ++ sW cI b S) H := by rw [eS5]; exact hP
  have hD : va_D A (sW cI a S5 ++ sW cI b S) := by rw [eS5]; exact hD
  refine lv_aload_n hx hb dX2_copyFrom_40 rfl (lv_at hl 1 rfl) ?_
  refine va_get (D := (dC, dI)) (ci := 2) (v := .ref (b 1)) (C := RX2) (T := TX2) (N := 18) hx hb hts hinX2 hown hK hP 14 rfl rfl 5 (by decide) hf9 (fun _ h9 => h9) rfl dX2_copyFrom_41 ?_
  refine lv_iconst (v := 0) hx hb dX2_copyFrom_44 (by decide) ?_
  refine lv_aload_n hx hb dX2_copyFrom_45 rfl (lv_at hl 0 rfl) ?_
  refine va_get (D := (dC, dI)) (ci := 2) (v := .ref (a 1)) (C := RX2) (T := TX2) (N := 18) hx hb hts hinX2 hown hK hP 0 rfl rfl 5 (by decide) hf9 (fun _ h9 => h9) rfl dX2_copyFrom_46 ?_
  refine lv_iconst (v := 0) hx hb dX2_copyFrom_49 (by decide) ?_
  refine lv_bipush (v := 8) hx hb dX2_copyFrom_50 (by decide) ?_
  obtain ⟨S6, eS6⟩ : ∃ z : sS, z = s_row S5 1 (va_cpy (S 1) (S5 1) (0 : Int32).toNatClampNeg (0 : Int32).toNatClampNeg (8 : Int32).toNatClampNeg) := ⟨_, rfl⟩
  refine va_copyi (c0 := cI) (c1 := cI) (n0 := 8) (n1 := 8) (f := S 1) (g := S5 1) (ty := .int) (sp := 0) (dp := 0) (n := 8) hx hb (hml.trans hl.1.symm) hown hm81 hn_acp hs_acp hi_Sys hK hP hD hS 15 1 0 0 rfl rfl rfl rfl rfl (by decide) (by decide) (by decide) (by decide) (by decide) (fun _ _ => rfl) (Nat.le_of_ble_eq_true rfl) (Nat.le_of_ble_eq_true rfl) dX2_copyFrom_52 (fun H locs hP hD hS => ?_)
  have hP : va_P (dC, dI) vwCl (sW cI a S6 ++ sW cI b S) H := by rw [eS6]; exact hP
  have hD : va_D A (sW cI a S6 ++ sW cI b S) := by rw [eS6]; exact hD
  refine lv_aload_n hx hb dX2_copyFrom_55 rfl (lv_at hl 1 rfl) ?_
  refine va_get (D := (dC, dI)) (ci := 2) (v := .ref (b 2)) (C := RX2) (T := TX2) (N := 18) hx hb hts hinX2 hown hK hP 14 rfl rfl 6 (by decide) hf15 (fun _ h9 => h9) rfl dX2_copyFrom_56 ?_
  refine lv_aload_n hx hb dX2_copyFrom_59 rfl (lv_at hl 0 rfl) ?_
  refine va_get (D := (dC, dI)) (ci := 2) (v := .ref (a 2)) (C := RX2) (T := TX2) (N := 18) hx hb hts hinX2 hown hK hP 0 rfl rfl 6 (by decide) hf15 (fun _ h9 => h9) rfl dX2_copyFrom_60 ?_
  obtain ⟨S7, eS7⟩ : ∃ z : sS, z = s_row S6 2 (S 2) := ⟨_, rfl⟩
  have hP9 := hP.sub (ws' := zpk (sW cI a S6 ++ sW cI b S) [0, 1, 3, 4, 5, 6, 7, 8, 9, 10, 11, 12, 13, 14, 15, 17, 18, 19, 20, 21, 22, 23, 24, 25, 26, 27] ++ [((b 2), .inl (cI, 64, .inl (S 2))), ((a 2), .inl (cI, 64, .inl (S6 2)))]) [0, 1, 3, 4, 5, 6, 7, 8, 9, 10, 11, 12, 13, 14, 15, 17, 18, 19, 20, 21, 22, 23, 24, 25, 26, 27, 16, 2] rfl
  have hD9 := hD.sub (ws' := zpk (sW cI a S6 ++ sW cI b S) [0, 1, 3, 4, 5, 6, 7, 8, 9, 10, 11, 12, 13, 14, 15, 17, 18, 19, 20, 21, 22, 23, 24, 25, 26, 27] ++ [((b 2), .inl (cI, 64, .inl (S 2))), ((a 2), .inl (cI, 64, .inl (S6 2)))]) [0, 1, 3, 4, 5, 6, 7, 8, 9, 10, 11, 12, 13, 14, 15, 17, 18, 19, 20, 21, 22, 23, 24, 25, 26, 27, 16, 2] (by decide +kernel) rfl
  refine zV_S (pre := zpk (sW cI a S6 ++ sW cI b S) [0, 1, 3, 4, 5, 6, 7, 8, 9, 10, 11, 12, 13, 14, 15, 17, 18, 19, 20, 21, 22, 23, 24, 25, 26, 27]) (wc := [((b 2), .inl (cI, 64, .inl (S 2))), ((a 2), .inl (cI, 64, .inl (S6 2)))]) (post := []) (w1 := [((b 2), .inl (cI, 64, .inl (S 2))), ((a 2), .inl (cI, 64, .inl (S 2)))]) ⟨hx, hb, hml, hown, hts⟩ (c_X2_copyRow l dC dI cI (b 2) (a 2) (S 2) (S6 2)) (va_cwS 2 hts gX2_copyFrom_X2_copyRow rfl rfl rfl (by decide +kernel) ⟨Nat.le_of_ble_eq_true rfl, Nat.le_of_ble_eq_true rfl⟩) (List.append_nil _).symm hK hN hP9 hD9 hS hA rfl hl.1 rfl (Nat.le_of_ble_eq_true rfl) dX2_copyFrom_63 ⟨Nat.le_of_ble_eq_true rfl, Nat.le_of_ble_eq_true rfl⟩ (fun H locs hP hD hS => ?_)
  rw [List.append_nil] at hP hD
  have hP : va_P (dC, dI) vwCl (sW cI a S7 ++ sW cI b S) H := by rw [eS7]; exact hP.sub [0, 1, 27, 2, 3, 4, 5, 6, 7, 8, 9, 10, 11, 12, 13, 14, 26, 15, 16, 17, 18, 19, 20, 21, 22, 23, 24, 25] rfl
  have hD : va_D A (sW cI a S7 ++ sW cI b S) := by rw [eS7]; exact hD.sub [0, 1, 27, 2, 3, 4, 5, 6, 7, 8, 9, 10, 11, 12, 13, 14, 26, 15, 16, 17, 18, 19, 20, 21, 22, 23, 24, 25] (by decide +kernel) rfl
  refine lv_aload_n hx hb dX2_copyFrom_66 rfl (lv_at hl 1 rfl) ?_
  refine va_get (D := (dC, dI)) (ci := 2) (v := .ref (b 3)) (C := RX2) (T := TX2) (N := 18) hx hb hts hinX2 hown hK hP 14 rfl rfl 7 (by decide) hf18 (fun _ h9 => h9) rfl dX2_copyFrom_67 ?_
  refine lv_aload_n hx hb dX2_copyFrom_70 rfl (lv_at hl 0 rfl) ?_
  refine va_get (D := (dC, dI)) (ci := 2) (v := .ref (a 3)) (C := RX2) (T := TX2) (N := 18) hx hb hts hinX2 hown hK hP 0 rfl rfl 7 (by decide) hf18 (fun _ h9 => h9) rfl dX2_copyFrom_71 ?_
  obtain ⟨S8, eS8⟩ : ∃ z : sS, z = s_row S7 3 (S 3) := ⟨_, rfl⟩
  have hP9 := hP.sub (ws' := zpk (sW cI a S7 ++ sW cI b S) [0, 1, 2, 4, 5, 6, 7, 8, 9, 10, 11, 12, 13, 14, 15, 16, 18, 19, 20, 21, 22, 23, 24, 25, 26, 27] ++ [((b 3), .inl (cI, 64, .inl (S 3))), ((a 3), .inl (cI, 64, .inl (S7 3)))]) [0, 1, 2, 4, 5, 6, 7, 8, 9, 10, 11, 12, 13, 14, 15, 16, 18, 19, 20, 21, 22, 23, 24, 25, 26, 27, 17, 3] rfl
  have hD9 := hD.sub (ws' := zpk (sW cI a S7 ++ sW cI b S) [0, 1, 2, 4, 5, 6, 7, 8, 9, 10, 11, 12, 13, 14, 15, 16, 18, 19, 20, 21, 22, 23, 24, 25, 26, 27] ++ [((b 3), .inl (cI, 64, .inl (S 3))), ((a 3), .inl (cI, 64, .inl (S7 3)))]) [0, 1, 2, 4, 5, 6, 7, 8, 9, 10, 11, 12, 13, 14, 15, 16, 18, 19, 20, 21, 22, 23, 24, 25, 26, 27, 17, 3] (by decide +kernel) rfl
  refine zV_S (pre := zpk (sW cI a S7 ++ sW cI b S) [0, 1, 2, 4, 5, 6, 7, 8, 9, 10, 11, 12, 13, 14, 15, 16, 18, 19, 20, 21, 22, 23, 24, 25, 26, 27]) (wc := [((b 3), .inl (cI, 64, .inl (S 3))), ((a 3), .inl (cI, 64, .inl (S7 3)))]) (post := []) (w1 := [((b 3), .inl (cI, 64, .inl (S 3))), ((a 3), .inl (cI, 64, .inl (S 3)))]) ⟨hx, hb, hml, hown, hts⟩ (c_X2_copyRow l dC dI cI (b 3) (a 3) (S 3) (S7 3)) (va_cwS 2 hts gX2_copyFrom_X2_copyRow rfl rfl rfl (by decide +kernel) ⟨Nat.le_of_ble_eq_true rfl, Nat.le_of_ble_eq_true rfl⟩) (List.append_nil _).symm hK hN hP9 hD9 hS hA rfl hl.1 rfl (Nat.le_of_ble_eq_true rfl) dX2_copyFrom_74 ⟨Nat.le_of_ble_eq_true rfl, Nat.le_of_ble_eq_true rfl⟩ (fun H locs hP hD hS => ?_)
  rw [List.append_nil] at hP hD
  have hP : va_P (dC, dI) vwCl (sW cI a S8 ++ sW cI b S) H := by rw [eS8]; exact hP.sub [0, 1, 2, 27, 3, 4, 5, 6, 7, 8, 9, 10, 11, 12, 13, 14, 15, 26, 16, 17, 18, 19, 20, 21, 22, 23, 24, 25] rfl
  have hD : va_D A (sW cI a S8 ++ sW cI b S) := by rw [eS8]; exact hD.sub [0, 1, 2, 27, 3, 4, 5, 6, 7, 8, 9, 10, 11, 12, 13, 14, 15, 26, 16, 17, 18, 19, 20, 21, 22, 23, 24, 25] (by decide +kernel) rfl
  refine lv_aload_n hx hb dX2_copyFrom_77 rfl (lv_at hl 1 rfl) ?_
  refine va_get (D := (dC, dI)) (ci := 2) (v := .ref (b 4)) (C := RX2) (T := TX2) (N := 18) hx hb hts hinX2 hown hK hP 14 rfl rfl 8 (by decide) hf21 (fun _ h9 => h9) rfl dX2_copyFrom_78 ?_
  refine lv_aload_n hx hb dX2_copyFrom_81 rfl (lv_at hl 0 rfl) ?_
  refine va_get (D := (dC, dI)) (ci := 2) (v := .ref (a 4)) (C := RX2) (T := TX2) (N := 18) hx hb hts hinX2 hown hK hP 0 rfl rfl 8 (by decide) hf21 (fun _ h9 => h9) rfl dX2_copyFrom_82 ?_
  obtain ⟨S9, eS9⟩ : ∃ z : sS, z = s_row S8 4 (S 4) := ⟨_, rfl⟩
  have hP9 := hP.sub (ws' := zpk (sW cI a S8 ++ sW cI b S) [0, 1, 2, 3, 5, 6, 7, 8, 9, 10, 11, 12, 13, 14, 15, 16, 17, 19, 20, 21, 22, 23, 24, 25, 26, 27] ++ [((b 4), .inl (cI, 64, .inl (S 4))), ((a 4), .inl (cI, 64, .inl (S8 4)))]) [0, 1, 2, 3, 5, 6, 7, 8, 9, 10, 11, 12, 13, 14, 15, 16, 17, 19, 20, 21, 22, 23, 24, 25, 26, 27, 18, 4] rfl
  have hD9 := hD.sub (ws' := zpk (sW cI a S8 ++ sW cI b S) [0, 1, 2, 3, 5, 6, 7, 8, 9, 10, 11, 12, 13, 14, 15, 16, 17, 19, 20, 21, 22, 23, 24, 25, 26, 27] ++ [((b 4), .inl (cI, 64, .inl (S 4))), ((a 4), .inl (cI, 64, .inl (S8 4)))]) [0, 1, 2, 3, 5, 6, 7, 8, 9, 10, 11, 12, 13, 14, 15, 16, 17, 19, 20, 21, 22, 23, 24, 25, 26, 27, 18, 4] (by decide +kernel) rfl
  refine zV_S (pre := zpk (sW cI a S8 ++ sW cI b S) [0, 1, 2, 3, 5, 6, 7, 8, 9, 10, 11, 12, 13, 14, 15, 16, 17, 19, 20, 21, 22, 23, 24, 25, 26, 27]) (wc := [((b 4), .inl (cI, 64, .inl (S 4))), ((a 4), .inl (cI, 64, .inl (S8 4)))]) (post := []) (w1 := [((b 4), .inl (cI, 64, .inl (S 4))), ((a 4), .inl (cI, 64, .inl (S 4)))]) ⟨hx, hb, hml, hown, hts⟩ (c_X2_copyRow l dC dI cI (b 4) (a 4) (S 4) (S8 4)) (va_cwS 2 hts gX2_copyFrom_X2_copyRow rfl rfl rfl (by decide +kernel) ⟨Nat.le_of_ble_eq_true rfl, Nat.le_of_ble_eq_true rfl⟩) (List.append_nil _).symm hK hN hP9 hD9 hS hA rfl hl.1 rfl (Nat.le_of_ble_eq_true rfl) dX2_copyFrom_85 ⟨Nat.le_of_ble_eq_true rfl, Nat.le_of_ble_eq_true rfl⟩ (fun H locs hP hD hS => ?_)
  rw [List.append_nil] at hP hD
  have hP : va_P (dC, dI) vwCl (sW cI a S9 ++ sW cI b S) H := by rw [eS9]; exact hP.sub [0, 1, 2, 3, 27, 4, 5, 6, 7, 8, 9, 10, 11, 12, 13, 14, 15, 16, 26, 17, 18, 19, 20, 21, 22, 23, 24, 25] rfl
  have hD : va_D A (sW cI a S9 ++ sW cI b S) := by rw [eS9]; exact hD.sub [0, 1, 2, 3, 27, 4, 5, 6, 7, 8, 9, 10, 11, 12, 13, 14, 15, 16, 26, 17, 18, 19, 20, 21, 22, 23, 24, 25] (by decide +kernel) rfl
  refine lv_aload_n hx hb dX2_copyFrom_88 rfl (lv_at hl 1 rfl) ?_
  refine va_get (D := (dC, dI)) (ci := 2) (v := .ref (b 5)) (C := RX2) (T := TX2) (N := 18) hx hb hts hinX2 hown hK hP 14 rfl rfl 9 (by decide) hf24 (fun _ h9 => h9) rfl dX2_copyFrom_89 ?_
  refine lv_aload_n hx hb dX2_copyFrom_92 rfl (lv_at hl 0 rfl) ?_
  refine va_get (D := (dC, dI)) (ci := 2) (v := .ref (a 5)) (C := RX2) (T := TX2) (N := 18) hx hb hts hinX2 hown hK hP 0 rfl rfl 9 (by decide) hf24 (fun _ h9 => h9) rfl dX2_copyFrom_93 ?_
  obtain ⟨S10, eS10⟩ : ∃ z : sS, z = s_row S9 5 (S 5) := ⟨_, rfl⟩
  have hP9 := hP.sub (ws' := zpk (sW cI a S9 ++ sW cI b S) [0, 1, 2, 3, 4, 6, 7, 8, 9, 10, 11, 12, 13, 14, 15, 16, 17, 18, 20, 21, 22, 23, 24, 25, 26, 27] ++ [((b 5), .inl (cI, 64, .inl (S 5))), ((a 5), .inl (cI, 64, .inl (S9 5)))]) [0, 1, 2, 3, 4, 6, 7, 8, 9, 10, 11, 12, 13, 14, 15, 16, 17, 18, 20, 21, 22, 23, 24, 25, 26, 27, 19, 5] rfl
  have hD9 := hD.sub (ws' := zpk (sW cI a S9 ++ sW cI b S) [0, 1, 2, 3, 4, 6, 7, 8, 9, 10, 11, 12, 13, 14, 15, 16, 17, 18, 20, 21, 22, 23, 24, 25, 26, 27] ++ [((b 5), .inl (cI, 64, .inl (S 5))), ((a 5), .inl (cI, 64, .inl (S9 5)))]) [0, 1, 2, 3, 4, 6, 7, 8, 9, 10, 11, 12, 13, 14, 15, 16, 17, 18, 20, 21, 22, 23, 24, 25, 26, 27, 19, 5] (by decide +kernel) rfl
  refine zV_S (pre := zpk (sW cI a S9 ++ sW cI b S) [0, 1, 2, 3, 4, 6, 7, 8, 9, 10, 11, 12, 13, 14, 15, 16, 17, 18, 20, 21, 22, 23, 24, 25, 26, 27]) (wc := [((b 5), .inl (cI, 64, .inl (S 5))), ((a 5), .inl (cI, 64, .inl (S9 5)))]) (post := []) (w1 := [((b 5), .inl (cI, 64, .inl (S 5))), ((a 5), .inl (cI, 64, .inl (S 5)))]) ⟨hx, hb, hml, hown, hts⟩ (c_X2_copyRow l dC dI cI (b 5) (a 5) (S 5) (S9 5)) (va_cwS 2 hts gX2_copyFrom_X2_copyRow rfl rfl rfl (by decide +kernel) ⟨Nat.le_of_ble_eq_true rfl, Nat.le_of_ble_eq_true rfl⟩) (List.append_nil _).symm hK hN hP9 hD9 hS hA rfl hl.1 rfl (Nat.le_of_ble_eq_true rfl) dX2_copyFrom_96 ⟨Nat.le_of_ble_eq_true rfl, Nat.le_of_ble_eq_true rfl⟩ (fun H locs hP hD hS => ?_)
  rw [List.append_nil] at hP hD
  have hP : va_P (dC, dI) vwCl (sW cI a S10 ++ sW cI b S) H := by rw [eS10]; exact hP.sub [0, 1, 2, 3, 4, 27, 5, 6, 7, 8, 9, 10, 11, 12, 13, 14, 15, 16, 17, 26, 18, 19, 20, 21, 22, 23, 24, 25] rfl
  have hD : va_D A (sW cI a S10 ++ sW cI b S) := by rw [eS10]; exact hD.sub [0, 1, 2, 3, 4, 27, 5, 6, 7, 8, 9, 10, 11, 12, 13, 14, 15, 16, 17, 26, 18, 19, 20, 21, 22, 23, 24, 25] (by decide +kernel) rfl
  refine lv_aload_n hx hb dX2_copyFrom_99 rfl (lv_at hl 1 rfl) ?_
  refine va_get (D := (dC, dI)) (ci := 2) (v := .ref (b 6)) (C := RX2) (T := TX2) (N := 18) hx hb hts hinX2 hown hK hP 14 rfl rfl 10 (by decide) hf27 (fun _ h9 => h9) rfl dX2_copyFrom_100 ?_
  refine lv_aload_n hx hb dX2_copyFrom_103 rfl (lv_at hl 0 rfl) ?_
  refine va_get (D := (dC, dI)) (ci := 2) (v := .ref (a 6)) (C := RX2) (T := TX2) (N := 18) hx hb hts hinX2 hown hK hP 0 rfl rfl 10 (by decide) hf27 (fun _ h9 => h9) rfl dX2_copyFrom_104 ?_
  obtain ⟨S11, eS11⟩ : ∃ z : sS, z = s_row S10 6 (S 6) := ⟨_, rfl⟩
  have hP9 := hP.sub (ws' := zpk (sW cI a S10 ++ sW cI b S) [0, 1, 2, 3, 4, 5, 7, 8, 9, 10, 11, 12, 13, 14, 15, 16, 17, 18, 19, 21, 22, 23, 24, 25, 26, 27] ++ [((b 6), .inl (cI, 64, .inl (S 6))), ((a 6), .inl (cI, 64, .inl (S10 6)))]) [0, 1, 2, 3, 4, 5, 7, 8, 9, 10, 11, 12, 13, 14, 15, 16, 17, 18, 19, 21, 22, 23, 24, 25, 26, 27, 20, 6] rfl
  have hD9 := hD.sub (ws' := zpk (sW cI a S10 ++ sW cI b S) [0, 1, 2, 3, 4, 5, 7, 8, 9, 10, 11, 12, 13, 14, 15, 16, 17, 18, 19, 21, 22, 23, 24, 25, 26, 27] ++ [((b 6), .inl (cI, 64, .inl (S 6))), ((a 6), .inl (cI, 64, .inl (S10 6)))]) [0, 1, 2, 3, 4, 5, 7, 8, 9, 10, 11, 12, 13, 14, 15, 16, 17, 18, 19, 21, 22, 23, 24, 25, 26, 27, 20, 6] (by decide +kernel) rfl
  refine zV_S (pre := zpk (sW cI a S10 ++ sW cI b S) [0, 1, 2, 3, 4, 5, 7, 8, 9, 10, 11, 12, 13, 14, 15, 16, 17, 18, 19, 21, 22, 23, 24, 25, 26, 27]) (wc := [((b 6), .inl (cI, 64, .inl (S 6))), ((a 6), .inl (cI, 64, .inl (S10 6)))]) (post := []) (w1 := [((b 6), .inl (cI, 64, .inl (S 6))), ((a 6), .inl (cI, 64, .inl (S 6)))]) ⟨hx, hb, hml, hown, hts⟩ (c_X2_copyRow l dC dI cI (b 6) (a 6) (S 6) (S10 6)) (va_cwS 2 hts gX2_copyFrom_X2_copyRow rfl rfl rfl (by decide +kernel) ⟨Nat.le_of_ble_eq_true rfl, Nat.le_of_ble_eq_true rfl⟩) (List.append_nil _).symm hK hN hP9 hD9 hS hA rfl hl.1 rfl (Nat.le_of_ble_eq_true rfl) dX2_copyFrom_107 ⟨Nat.le_of_ble_eq_true rfl, Nat.le_of_ble_eq_true rfl⟩ (fun H locs hP hD hS => ?_)
  rw [List.append_nil] at hP hD
  have hP : va_P (dC, dI) vwCl (sW cI a S11 ++ sW cI b S) H := by rw [eS11]; exact hP.sub [0, 1, 2, 3, 4, 5, 27, 6, 7, 8, 9, 10, 11, 12, 13, 14, 15, 16, 17, 18, 26, 19, 20, 21, 22, 23, 24, 25] rfl
  have hD : va_D A (sW cI a S11 ++ sW cI b S) := by rw [eS11]; exact hD.sub [0, 1, 2, 3, 4, 5, 27, 6, 7, 8, 9, 10, 11, 12, 13, 14, 15, 16, 17, 18, 26, 19, 20, 21, 22, 23, 24, 25] (by decide +kernel) rfl
  refine lv_aload_n hx hb dX2_copyFrom_110 rfl (lv_at hl 1 rfl) ?_
  refine va_get (D := (dC, dI)) (ci := 2) (v := .ref (b 7)) (C := RX2) (T := TX2) (N := 18) hx hb hts hinX2 hown hK hP 14 rfl rfl 11 (by decide) hf30 (fun _ h9 => h9) rfl dX2_copyFrom_111 ?_
  refine lv_aload_n hx hb dX2_copyFrom_114 rfl (lv_at hl 0 rfl) ?_
  refine va_get (D := (dC, dI)) (ci := 2) (v := .ref (a 7)) (C := RX2) (T := TX2) (N := 18) hx hb hts hinX2 hown hK hP 0 rfl rfl 11 (by decide) hf30 (fun _ h9 => h9) rfl dX2_copyFrom_115 ?_
  obtain ⟨S12, eS12⟩ : ∃ z : sS, z = s_row S11 7 (S 7) := ⟨_, rfl⟩
  have hP9 := hP.sub (ws' := zpk (sW cI a S11 ++ sW cI b S) [0, 1, 2, 3, 4, 5, 6, 8, 9, 10, 11, 12, 13, 14, 15, 16, 17, 18, 19, 20, 22, 23, 24, 25, 26, 27] ++ [((b 7), .inl (cI, 64, .inl (S 7))), ((a 7), .inl (cI, 64, .inl (S11 7)))]) [0, 1, 2, 3, 4, 5, 6, 8, 9, 10, 11, 12, 13, 14, 15, 16, 17, 18, 19, 20, 22, 23, 24, 25, 26, 27, 21, 7] rfl
  have hD9 := hD.sub (ws' := zpk (sW cI a S11 ++ sW cI b S) [0, 1, 2, 3, 4, 5, 6, 8, 9, 10, 11, 12, 13, 14, 15, 16, 17, 18, 19, 20, 22, 23, 24, 25, 26, 27] ++ [((b 7), .inl (cI, 64, .inl (S 7))), ((a 7), .inl (cI, 64, .inl (S11 7)))]) [0, 1, 2, 3, 4, 5, 6, 8, 9, 10, 11, 12, 13, 14, 15, 16, 17, 18, 19, 20, 22, 23, 24, 25, 26, 27, 21, 7] (by decide +kernel) rfl
  refine zV_S (pre := zpk (sW cI a S11 ++ sW cI b S) [0, 1, 2, 3, 4, 5, 6, 8, 9, 10, 11, 12, 13, 14, 15, 16, 17, 18, 19, 20, 22, 23, 24, 25, 26, 27]) (wc := [((b 7), .inl (cI, 64, .inl (S 7))), ((a 7), .inl (cI, 64, .inl (S11 7)))]) (post := []) (w1 := [((b 7), .inl (cI, 64, .inl (S 7))), ((a 7), .inl (cI, 64, .inl (S 7)))]) ⟨hx, hb, hml, hown, hts⟩ (c_X2_copyRow l dC dI cI (b 7) (a 7) (S 7) (S11 7)) (va_cwS 2 hts gX2_copyFrom_X2_copyRow rfl rfl rfl (by decide +kernel) ⟨Nat.le_of_ble_eq_true rfl, Nat.le_of_ble_eq_true rfl⟩) (List.append_nil _).symm hK hN hP9 hD9 hS hA rfl hl.1 rfl (Nat.le_of_ble_eq_true rfl) dX2_copyFrom_118 ⟨Nat.le_of_ble_eq_true rfl, Nat.le_of_ble_eq_true rfl⟩ (fun H locs hP hD hS => ?_)
  rw [List.append_nil] at hP hD
  have hP : va_P (dC, dI) vwCl (sW cI a S12 ++ sW cI b S) H := by rw [eS12]; exact hP.sub [0, 1, 2, 3, 4, 5, 6, 27, 7, 8, 9, 10, 11, 12, 13, 14, 15, 16, 17, 18, 19, 26, 20, 21, 22, 23, 24, 25] rfl
  have hD : va_D A (sW cI a S12 ++ sW cI b S) := by rw [eS12]; exact hD.sub [0, 1, 2, 3, 4, 5, 6, 27, 7, 8, 9, 10, 11, 12, 13, 14, 15, 16, 17, 18, 19, 26, 20, 21, 22, 23, 24, 25] (by decide +kernel) rfl
  refine lv_aload_n hx hb dX2_copyFrom_121 rfl (lv_at hl 1 rfl) ?_
  refine va_get (D := (dC, dI)) (ci := 2) (v := .ref (b 8)) (C := RX2) (T := TX2) (N := 18) hx hb hts hinX2 hown hK hP 14 rfl rfl 12 (by decide) hf33 (fun _ h9 => h9) rfl dX2_copyFrom_122 ?_
  refine lv_aload_n hx hb dX2_copyFrom_125 rfl (lv_at hl 0 rfl) ?_
  refine va_get (D := (dC, dI)) (ci := 2) (v := .ref (a 8)) (C := RX2) (T := TX2) (N := 18) hx hb hts hinX2 hown hK hP 0 rfl rfl 12 (by decide) hf33 (fun _ h9 => h9) rfl dX2_copyFrom_126 ?_
  obtain ⟨S13, eS13⟩ : ∃ z : sS, z = s_row S12 8 (S 8) := ⟨_, rfl⟩
  have hP9 := hP.sub (ws' := zpk (sW cI a S12 ++ sW cI b S) [0, 1, 2, 3, 4, 5, 6, 7, 9, 10, 11, 12, 13, 14, 15, 16, 17, 18, 19, 20, 21, 23, 24, 25, 26, 27] ++ [((b 8), .inl (cI, 64, .inl (S 8))), ((a 8), .inl (cI, 64, .inl (S12 8)))]) [0, 1, 2, 3, 4, 5, 6, 7, 9, 10, 11, 12, 13, 14, 15, 16, 17, 18, 19, 20, 21, 23, 24, 25, 26, 27, 22, 8] rfl
  have hD9 := hD.sub (ws' := zpk (sW cI a S12 ++ sW cI b S) [0, 1, 2, 3, 4, 5, 6, 7, 9, 10, 11, 12, 13, 14, 15, 16, 17, 18, 19, 20, 21, 23, 24, 25, 26, 27] ++ [((b 8), .inl (cI, 64, .inl (S 8))), ((a 8), .inl (cI, 64, .inl (S12 8)))]) [0, 1, 2, 3, 4, 5, 6, 7, 9, 10, 11, 12, 13, 14, 15, 16, 17, 18, 19, 20, 21, 23, 24, 25, 26, 27, 22, 8] (by decide +kernel) rfl
  refine zV_S (pre := zpk (sW cI a S12 ++ sW cI b S) [0, 1, 2, 3, 4, 5, 6, 7, 9, 10, 11, 12, 13, 14, 15, 16, 17, 18, 19, 20, 21, 23, 24, 25, 26, 27]) (wc := [((b 8), .inl (cI, 64, .inl (S 8))), ((a 8), .inl (cI, 64, .inl (S12 8)))]) (post := []) (w1 := [((b 8), .inl (cI, 64, .inl (S 8))), ((a 8), .inl (cI, 64, .inl (S 8)))]) ⟨hx, hb, hml, hown, hts⟩ (c_X2_copyRow l dC dI cI (b 8) (a 8) (S 8) (S12 8)) (va_cwS 2 hts gX2_copyFrom_X2_copyRow rfl rfl rfl (by decide +kernel) ⟨Nat.le_of_ble_eq_true rfl, Nat.le_of_ble_eq_true rfl⟩) (List.append_nil _).symm hK hN hP9 hD9 hS hA rfl hl.1 rfl (Nat.le_of_ble_eq_true rfl) dX2_copyFrom_129 ⟨Nat.le_of_ble_eq_true rfl, Nat.le_of_ble_eq_true rfl⟩ (fun H locs hP hD hS => ?_)
  rw [List.append_nil] at hP hD
  have hP : va_P (dC, dI) vwCl (sW cI a S13 ++ sW cI b S) H := by rw [eS13]; exact hP.sub [0, 1, 2, 3, 4, 5, 6, 7, 27, 8, 9, 10, 11, 12, 13, 14, 15, 16, 17, 18, 19, 20, 26, 21, 22, 23, 24, 25] rfl
  have hD : va_D A (sW cI a S13 ++ sW cI b S) := by rw [eS13]; exact hD.sub [0, 1, 2, 3, 4, 5, 6, 7, 27, 8, 9, 10, 11, 12, 13, 14, 15, 16, 17, 18, 19, 20, 26, 21, 22, 23, 24, 25] (by decide +kernel) rfl
  refine lv_aload_n hx hb dX2_copyFrom_132 rfl (lv_at hl 1 rfl) ?_
  refine va_get (D := (dC, dI)) (ci := 2) (v := .ref (b 9)) (C := RX2) (T := TX2) (N := 18) hx hb hts hinX2 hown hK hP 14 rfl rfl 13 (by decide) hf36 (fun _ h9 => h9) rfl dX2_copyFrom_133 ?_
  refine lv_aload_n hx hb dX2_copyFrom_136 rfl (lv_at hl 0 rfl) ?_
  refine va_get (D := (dC, dI)) (ci := 2) (v := .ref (a 9)) (C := RX2) (T := TX2) (N := 18) hx hb hts hinX2 hown hK hP 0 rfl rfl 13 (by decide) hf36 (fun _ h9 => h9) rfl dX2_copyFrom_137 ?_
  obtain ⟨S14, eS14⟩ : ∃ z : sS, z = s_row S13 9 (S 9) := ⟨_, rfl⟩
  have hP9 := hP.sub (ws' := zpk (sW cI a S13 ++ sW cI b S) [0, 1, 2, 3, 4, 5, 6, 7, 8, 10, 11, 12, 13, 14, 15, 16, 17, 18, 19, 20, 21, 22, 24, 25, 26, 27] ++ [((b 9), .inl (cI, 64, .inl (S 9))), ((a 9), .inl (cI, 64, .inl (S13 9)))]) [0, 1, 2, 3, 4, 5, 6, 7, 8, 10, 11, 12, 13, 14, 15, 16, 17, 18, 19, 20, 21, 22, 24, 25, 26, 27, 23, 9] rfl
  have hD9 := hD.sub (ws' := zpk (sW cI a S13 ++ sW cI b S) [0, 1, 2, 3, 4, 5, 6, 7, 8, 10, 11, 12, 13, 14, 15, 16, 17, 18, 19, 20, 21, 22, 24, 25, 26, 27] ++ [((b 9), .inl (cI, 64, .inl (S 9))), ((a 9), .inl (cI, 64, .inl (S13 9)))]) [0, 1, 2, 3, 4, 5, 6, 7, 8, 10, 11, 12, 13, 14, 15, 16, 17, 18, 19, 20, 21, 22, 24, 25, 26, 27, 23, 9] (by decide +kernel) rfl
  refine zV_S (pre := zpk (sW cI a S13 ++ sW cI b S) [0, 1, 2, 3, 4, 5, 6, 7, 8, 10, 11, 12, 13, 14, 15, 16, 17, 18, 19, 20, 21, 22, 24, 25, 26, 27]) (wc := [((b 9), .inl (cI, 64, .inl (S 9))), ((a 9), .inl (cI, 64, .inl (S13 9)))]) (post := []) (w1 := [((b 9), .inl (cI, 64, .inl (S 9))), ((a 9), .inl (cI, 64, .inl (S 9)))]) ⟨hx, hb, hml, hown, hts⟩ (c_X2_copyRow l dC dI cI (b 9) (a 9) (S 9) (S13 9)) (va_cwS 2 hts gX2_copyFrom_X2_copyRow rfl rfl rfl (by decide +kernel) ⟨Nat.le_of_ble_eq_true rfl, Nat.le_of_ble_eq_true rfl⟩) (List.append_nil _).symm hK hN hP9 hD9 hS hA rfl hl.1 rfl (Nat.le_of_ble_eq_true rfl) dX2_copyFrom_140 ⟨Nat.le_of_ble_eq_true rfl, Nat.le_of_ble_eq_true rfl⟩ (fun H locs hP hD hS => ?_)
  rw [List.append_nil] at hP hD
  have hP : va_P (dC, dI) vwCl (sW cI a S14 ++ sW cI b S) H := by rw [eS14]; exact hP.sub [0, 1, 2, 3, 4, 5, 6, 7, 8, 27, 9, 10, 11, 12, 13, 14, 15, 16, 17, 18, 19, 20, 21, 26, 22, 23, 24, 25] rfl
  have hD : va_D A (sW cI a S14 ++ sW cI b S) := by rw [eS14]; exact hD.sub [0, 1, 2, 3, 4, 5, 6, 7, 8, 27, 9, 10, 11, 12, 13, 14, 15, 16, 17, 18, 19, 20, 21, 26, 22, 23, 24, 25] (by decide +kernel) rfl
  refine lv_aload_n hx hb dX2_copyFrom_143 rfl (lv_at hl 1 rfl) ?_
  refine va_get (D := (dC, dI)) (ci := 2) (v := .ref (b 10)) (C := RX2) (T := TX2) (N := 18) hx hb hts hinX2 hown hK hP 14 rfl rfl 14 (by decide) hf39 (fun _ h9 => h9) rfl dX2_copyFrom_144 ?_
  refine lv_aload_n hx hb dX2_copyFrom_147 rfl (lv_at hl 0 rfl) ?_
  refine va_get (D := (dC, dI)) (ci := 2) (v := .ref (a 10)) (C := RX2) (T := TX2) (N := 18) hx hb hts hinX2 hown hK hP 0 rfl rfl 14 (by decide) hf39 (fun _ h9 => h9) rfl dX2_copyFrom_148 ?_
  obtain ⟨S15, eS15⟩ : ∃ z : sS, z = s_row S14 10 (S 10) := ⟨_, rfl⟩
  have hP9 := hP.sub (ws' := zpk (sW cI a S14 ++ sW cI b S) [0, 1, 2, 3, 4, 5, 6, 7, 8, 9, 11, 12, 13, 14, 15, 16, 17, 18, 19, 20, 21, 22, 23, 25, 26, 27] ++ [((b 10), .inl (cI, 64, .inl (S 10))), ((a 10), .inl (cI, 64, .inl (S14 10)))]) [0, 1, 2, 3, 4, 5, 6, 7, 8, 9, 11, 12, 13, 14, 15, 16, 17, 18, 19, 20, 21, 22, 23, 25, 26, 27, 24, 10] rfl
  have hD9 := hD.sub (ws' := zpk (sW cI a S14 ++ sW cI b S) [0, 1, 2, 3, 4, 5, 6, 7, 8, 9, 11, 12, 13, 14, 15, 16, 17, 18, 19, 20, 21, 22, 23, 25, 26, 27] ++ [((b 10), .inl (cI, 64, .inl (S 10))), ((a 10), .inl (cI, 64, .inl (S14 10)))]) [0, 1, 2, 3, 4, 5, 6, 7, 8, 9, 11, 12, 13, 14, 15, 16, 17, 18, 19, 20, 21, 22, 23, 25, 26, 27, 24, 10] (by decide +kernel) rfl
  refine zV_S (pre := zpk (sW cI a S14 ++ sW cI b S) [0, 1, 2, 3, 4, 5, 6, 7, 8, 9, 11, 12, 13, 14, 15, 16, 17, 18, 19, 20, 21, 22, 23, 25, 26, 27]) (wc := [((b 10), .inl (cI, 64, .inl (S 10))), ((a 10), .inl (cI, 64, .inl (S14 10)))]) (post := []) (w1 := [((b 10), .inl (cI, 64, .inl (S 10))), ((a 10), .inl (cI, 64, .inl (S 10)))]) ⟨hx, hb, hml, hown, hts⟩ (c_X2_copyRow l dC dI cI (b 10) (a 10) (S 10) (S14 10)) (va_cwS 2 hts gX2_copyFrom_X2_copyRow rfl rfl rfl (by decide +kernel) ⟨Nat.le_of_ble_eq_true rfl, Nat.le_of_ble_eq_true rfl⟩) (List.append_nil _).symm hK hN hP9 hD9 hS hA rfl hl.1 rfl (Nat.le_of_ble_eq_true rfl) dX2_copyFrom_151 ⟨Nat.le_of_ble_eq_true rfl, Nat.le_of_ble_eq_true rfl⟩ (fun H locs hP hD hS => ?_)
  rw [List.append_nil] at hP hD
  have hP : va_P (dC, dI) vwCl (sW cI a S15 ++ sW cI b S) H := by rw [eS15]; exact hP.sub [0, 1, 2, 3, 4, 5, 6, 7, 8, 9, 27, 10, 11, 12, 13, 14, 15, 16, 17, 18, 19, 20, 21, 22, 26, 23, 24, 25] rfl
  have hD : va_D A (sW cI a S15 ++ sW cI b S) := by rw [eS15]; exact hD.sub [0, 1, 2, 3, 4, 5, 6, 7, 8, 9, 27, 10, 11, 12, 13, 14, 15, 16, 17, 18, 19, 20, 21, 22, 26, 23, 24, 25] (by decide +kernel) rfl
  refine lv_aload_n hx hb dX2_copyFrom_154 rfl (lv_at hl 1 rfl) ?_
  refine va_get (D := (dC, dI)) (ci := 2) (v := .ref (b 11)) (C := RX2) (T := TX2) (N := 18) hx hb hts hinX2 hown hK hP 14 rfl rfl 15 (by decide) hf42 (fun _ h9 => h9) rfl dX2_copyFrom_155 ?_
  refine lv_aload_n hx hb dX2_copyFrom_158 rfl (lv_at hl 0 rfl) ?_
  refine va_get (D := (dC, dI)) (ci := 2) (v := .ref (a 11)) (C := RX2) (T := TX2) (N := 18) hx hb hts hinX2 hown hK hP 0 rfl rfl 15 (by decide) hf42 (fun _ h9 => h9) rfl dX2_copyFrom_159 ?_
  obtain ⟨S16, eS16⟩ : ∃ z : sS, z = s_row S15 11 (S 11) := ⟨_, rfl⟩
  have hP9 := hP.sub (ws' := zpk (sW cI a S15 ++ sW cI b S) [0, 1, 2, 3, 4, 5, 6, 7, 8, 9, 10, 12, 13, 14, 15, 16, 17, 18, 19, 20, 21, 22, 23, 24, 26, 27] ++ [((b 11), .inl (cI, 64, .inl (S 11))), ((a 11), .inl (cI, 64, .inl (S15 11)))]) [0, 1, 2, 3, 4, 5, 6, 7, 8, 9, 10, 12, 13, 14, 15, 16, 17, 18, 19, 20, 21, 22, 23, 24, 26, 27, 25, 11] rfl
  have hD9 := hD.sub (ws' := zpk (sW cI a S15 ++ sW cI b S) [0, 1, 2, 3, 4, 5, 6, 7, 8, 9, 10, 12, 13, 14, 15, 16, 17, 18, 19, 20, 21, 22, 23, 24, 26, 27] ++ [((b 11), .inl (cI, 64, .inl (S 11))), ((a 11), .inl (cI, 64, .inl (S15 11)))]) [0, 1, 2, 3, 4, 5, 6, 7, 8, 9, 10, 12, 13, 14, 15, 16, 17, 18, 19, 20, 21, 22, 23, 24, 26, 27, 25, 11] (by decide +kernel) rfl
  refine zV_S (pre := zpk (sW cI a S15 ++ sW cI b S) [0, 1, 2, 3, 4, 5, 6, 7, 8, 9, 10, 12, 13, 14, 15, 16, 17, 18, 19, 20, 21, 22, 23, 24, 26, 27]) (wc := [((b 11), .inl (cI, 64, .inl (S 11))), ((a 11), .inl (cI, 64, .inl (S15 11)))]) (post := []) (w1 := [((b 11), .inl (cI, 64, .inl (S 11))), ((a 11), .inl (cI, 64, .inl (S 11)))]) ⟨hx, hb, hml, hown, hts⟩ (c_X2_copyRow l dC dI cI (b 11) (a 11) (S 11) (S15 11)) (va_cwS 2 hts gX2_copyFrom_X2_copyRow rfl rfl rfl (by decide +kernel) ⟨Nat.le_of_ble_eq_true rfl, Nat.le_of_ble_eq_true rfl⟩) (List.append_nil _).symm hK hN hP9 hD9 hS hA rfl hl.1 rfl (Nat.le_of_ble_eq_true rfl) dX2_copyFrom_162 ⟨Nat.le_of_ble_eq_true rfl, Nat.le_of_ble_eq_true rfl⟩ (fun H locs hP hD hS => ?_)
  rw [List.append_nil] at hP hD
  have hP : va_P (dC, dI) vwCl (sW cI a S16 ++ sW cI b S) H := by rw [eS16]; exact hP.sub [0, 1, 2, 3, 4, 5, 6, 7, 8, 9, 10, 27, 11, 12, 13, 14, 15, 16, 17, 18, 19, 20, 21, 22, 23, 26, 24, 25] rfl
  have hD : va_D A (sW cI a S16 ++ sW cI b S) := by rw [eS16]; exact hD.sub [0, 1, 2, 3, 4, 5, 6, 7, 8, 9, 10, 27, 11, 12, 13, 14, 15, 16, 17, 18, 19, 20, 21, 22, 23, 26, 24, 25] (by decide +kernel) rfl
  refine lv_aload_n hx hb dX2_copyFrom_165 rfl (lv_at hl 1 rfl) ?_
  refine va_get (D := (dC, dI)) (ci := 2) (v := .ref (b 12)) (C := RX2) (T := TX2) (N := 18) hx hb hts hinX2 hown hK hP 14 rfl rfl 16 (by decide) hf45 (fun _ h9 => h9) rfl dX2_copyFrom_166 ?_
  refine lv_aload_n hx hb dX2_copyFrom_169 rfl (lv_at hl 0 rfl) ?_
  refine va_get (D := (dC, dI)) (ci := 2) (v := .ref (a 12)) (C := RX2) (T := TX2) (N := 18) hx hb hts hinX2 hown hK hP 0 rfl rfl 16 (by decide) hf45 (fun _ h9 => h9) rfl dX2_copyFrom_170 ?_
  obtain ⟨S17, eS17⟩ : ∃ z : sS, z = s_row S16 12 (S 12) := ⟨_, rfl⟩
  have hP9 := hP.sub (ws' := zpk (sW cI a S16 ++ sW cI b S) [0, 1, 2, 3, 4, 5, 6, 7, 8, 9, 10, 11, 13, 14, 15, 16, 17, 18, 19, 20, 21, 22, 23, 24, 25, 27] ++ [((b 12), .inl (cI, 64, .inl (S 12))), ((a 12), .inl (cI, 64, .inl (S16 12)))]) [0, 1, 2, 3, 4, 5, 6, 7, 8, 9, 10, 11, 13, 14, 15, 16, 17, 18, 19, 20, 21, 22, 23, 24, 25, 27, 26, 12] rfl
  have hD9 := hD.sub (ws' := zpk (sW cI a S16 ++ sW cI b S) [0, 1, 2, 3, 4, 5, 6, 7, 8, 9, 10, 11, 13, 14, 15, 16, 17, 18, 19, 20, 21, 22, 23, 24, 25, 27] ++ [((b 12), .inl (cI, 64, .inl (S 12))), ((a 12), .inl (cI, 64, .inl (S16 12)))]) [0, 1, 2, 3, 4, 5, 6, 7, 8, 9, 10, 11, 13, 14, 15, 16, 17, 18, 19, 20, 21, 22, 23, 24, 25, 27, 26, 12] (by decide +kernel) rfl
  refine zV_S (pre := zpk (sW cI a S16 ++ sW cI b S) [0, 1, 2, 3, 4, 5, 6, 7, 8, 9, 10, 11, 13, 14, 15, 16, 17, 18, 19, 20, 21, 22, 23, 24, 25, 27]) (wc := [((b 12), .inl (cI, 64, .inl (S 12))), ((a 12), .inl (cI, 64, .inl (S16 12)))]) (post := []) (w1 := [((b 12), .inl (cI, 64, .inl (S 12))), ((a 12), .inl (cI, 64, .inl (S 12)))]) ⟨hx, hb, hml, hown, hts⟩ (c_X2_copyRow l dC dI cI (b 12) (a 12) (S 12) (S16 12)) (va_cwS 2 hts gX2_copyFrom_X2_copyRow rfl rfl rfl (by decide +kernel) ⟨Nat.le_of_ble_eq_true rfl, Nat.le_of_ble_eq_true rfl⟩) (List.append_nil _).symm hK hN hP9 hD9 hS hA rfl hl.1 rfl (Nat.le_of_ble_eq_true rfl) dX2_copyFrom_173 ⟨Nat.le_of_ble_eq_true rfl, Nat.le_of_ble_eq_true rfl⟩ (fun H locs hP hD hS => ?_)
  rw [List.append_nil] at hP hD
  have hP : va_P (dC, dI) vwCl (sW cI a S17 ++ sW cI b S) H := by rw [eS17]; exact hP.sub [0, 1, 2, 3, 4, 5, 6, 7, 8, 9, 10, 11, 27, 12, 13, 14, 15, 16, 17, 18, 19, 20, 21, 22, 23, 24, 26, 25] rfl
  have hD : va_D A (sW cI a S17 ++ sW cI b S) := by rw [eS17]; exact hD.sub [0, 1, 2, 3, 4, 5, 6, 7, 8, 9, 10, 11, 27, 12, 13, 14, 15, 16, 17, 18, 19, 20, 21, 22, 23, 24, 26, 25] (by decide +kernel) rfl
  refine lv_aload_n hx hb dX2_copyFrom_176 rfl (lv_at hl 1 rfl) ?_
  refine va_get (D := (dC, dI)) (ci := 2) (v := .ref (b 13)) (C := RX2) (T := TX2) (N := 18) hx hb hts hinX2 hown hK hP 14 rfl rfl 17 (by decide) hf48 (fun _ h9 => h9) rfl dX2_copyFrom_177 ?_
  refine lv_aload_n hx hb dX2_copyFrom_180 rfl (lv_at hl 0 rfl) ?_
  refine va_get (D := (dC, dI)) (ci := 2) (v := .ref (a 13)) (C := RX2) (T := TX2) (N := 18) hx hb hts hinX2 hown hK hP 0 rfl rfl 17 (by decide) hf48 (fun _ h9 => h9) rfl dX2_copyFrom_181 ?_
  obtain ⟨S18, eS18⟩ : ∃ z : sS, z = s_row S17 13 (S 13) := ⟨_, rfl⟩
  have hP9 := hP.sub (ws' := zpk (sW cI a S17 ++ sW cI b S) [0, 1, 2, 3, 4, 5, 6, 7, 8, 9, 10, 11, 12, 14, 15, 16, 17, 18, 19, 20, 21, 22, 23, 24, 25, 26] ++ [((b 13), .inl (cI, 64, .inl (S 13))), ((a 13), .inl (cI, 64, .inl (S17 13)))]) [0, 1, 2, 3, 4, 5, 6, 7, 8, 9, 10, 11, 12, 14, 15, 16, 17, 18, 19, 20, 21, 22, 23, 24, 25, 26, 27, 13] rfl
  have hD9 := hD.sub (ws' := zpk (sW cI a S17 ++ sW cI b S) [0, 1, 2, 3, 4, 5, 6, 7, 8, 9, 10, 11, 12, 14, 15, 16, 17, 18, 19, 20, 21, 22, 23, 24, 25, 26] ++ [((b 13), .inl (cI, 64, .inl (S 13))), ((a 13), .inl (cI, 64, .inl (S17 13)))]) [0, 1, 2, 3, 4, 5, 6, 7, 8, 9, 10, 11, 12, 14, 15, 16, 17, 18, 19, 20, 21, 22, 23, 24, 25, 26, 27, 13] (by decide +kernel) rfl
  refine zV_S (pre := zpk (sW cI a S17 ++ sW cI b S) [0, 1, 2, 3, 4, 5, 6, 7, 8, 9, 10, 11, 12, 14, 15, 16, 17, 18, 19, 20, 21, 22, 23, 24, 25, 26]) (wc := [((b 13), .inl (cI, 64, .inl (S 13))), ((a 13), .inl (cI, 64, .inl (S17 13)))]) (post := []) (w1 := [((b 13), .inl (cI, 64, .inl (S 13))), ((a 13), .inl (cI, 64, .inl (S 13)))]) ⟨hx, hb, hml, hown, hts⟩ (c_X2_copyRow l dC dI cI (b 13) (a 13) (S 13) (S17 13)) (va_cwS 2 hts gX2_copyFrom_X2_copyRow rfl rfl rfl (by decide +kernel) ⟨Nat.le_of_ble_eq_true rfl, Nat.le_of_ble_eq_true rfl⟩) (List.append_nil _).symm hK hN hP9 hD9 hS hA rfl hl.1 rfl (Nat.le_of_ble_eq_true rfl) dX2_copyFrom_184 ⟨Nat.le_of_ble_eq_true rfl, Nat.le_of_ble_eq_true rfl⟩ (fun H locs hP hD hS => ?_)
  rw [List.append_nil] at hP hD
  have hP : va_P (dC, dI) vwCl (sW cI a S18 ++ sW cI b S) H := by rw [eS18]; exact hP.sub [0, 1, 2, 3, 4, 5, 6, 7, 8, 9, 10, 11, 12, 27, 13, 14, 15, 16, 17, 18, 19, 20, 21, 22, 23, 24, 25, 26] rfl
  have hD : va_D A (sW cI a S18 ++ sW cI b S) := by rw [eS18]; exact hD.sub [0, 1, 2, 3, 4, 5, 6, 7, 8, 9, 10, 11, 12, 27, 13, 14, 15, 16, 17, 18, 19, 20, 21, 22, 23, 24, 25, 26] (by decide +kernel) rfl
  have hE : sEq S18 S := by
    refine cpy_eq (T := T) ?_
    rw [eS18, eS17, eS16, eS15, eS14, eS13, eS12, eS11, eS10, eS9, eS8, eS7, eS6, eS5, eS4, eS3, eS2, eS1]; rfl
  have hP : va_P (dC, dI) vwCl (sW cI a S ++ sW cI b S) H := z_Pap (sW_eq hE (z_Pl hP)) (z_Pr hP)
  have hD : va_D A (sW cI a S ++ sW cI b S) := z_Dmap hD rfl
  exact zV_ret hx hb hr hlocks hP hD hS dX2_copyFrom_187
end
section
/-! the calendar, the best move, the object -/
def cal_num (M : sS) (i x : Int32) : Int32 := if x = 0 then M 1 i.toNatClampNeg else if x = 1 then M 2 i.toNatClampNeg else M 3 i.toNatClampNeg
def mv_set (M : sS) (t f x c d : Int32) : sS := s_put (s_put (s_put (s_put (s_put M 4 0 t) 4 1 f) 4 2 x) 4 3 c) 4 4 d
def mv_better (M : sS) (t f x c d : Int32) : sS := if M 4 3 < c then mv_set M t f x c d else if c = M 4 3 then (if d ≤ M 4 4 then M else mv_set M t f x c d) else M
def mv_num (M : sS) (x : Int32) : Int32 := if x = 0 then M 4 0 else if x = 1 then M 4 1 else M 4 2
def x3_count (h w : Nat) (M S : sS) (x : Int32) : Int32 := if x = 0 then S 0 0 else if x = 1 then S 0 1 else if x = 2 then S 0 2 else if x = 3 then sl_sum h w S 7 else if x = 4 then sl_sum h w S 2 else if x = 5 then S 0 3 else if x = 6 then M 0 0 else if x = 7 then S 0 4 else M 0 1
def x3_fore (h w : Nat) (S T : sS) (x : Int32) : Int32 := if x = 0 then sl_sum h w T 7 else if x = 1 then sl_sum h w T 9 else if x = 2 then T 0 3 - S 0 3 else sl_sum h w T 2
/-- the slope after n days, if the stone at k is x high -/
def x3_try (h w : Nat) (M S : sS) (n k : Nat) (x : Int32) : sS := sl_days h w M (s_put S 5 k x) n
def x3_h (h w : Nat) (M S : sS) (n : Nat) (t f : Int32) (i : Int32) (p : sS × sS) : sS × sS := (mv_better p.1 t f (i * 10) (sl_sum h w (x3_try h w M S n (sl_at S t f).toNatClampNeg (i * 10)) 7) (sl_sum h w (x3_try h w M S n (sl_at S t f).toNatClampNeg (i * 10)) 9), x3_try h w M S n (sl_at S t f).toNatClampNeg (i * 10))
def x3_rounds (x : Int32) : Nat := x.toNatClampNeg / 10 + 1
def x3_f (h w : Nat) (M S : sS) (n : Nat) (t f : Int32) (p : sS × sS) : sS × sS := itr (x3_h h w M S n t f) (x3_rounds (S 3 (sl_at S t f).toNatClampNeg)) p
def x3_t (h w : Nat) (M S : sS) (n : Nat) (t : Int32) (p : sS × sS) : sS × sS := itr (x3_f h w M S n t) w p
def x3_0 (h w : Nat) (M B S : sS) (n : Nat) : sS × sS := (mv_set B (-1) (-1) (-1) (sl_sum h w (sl_days h w M S n) 7) (sl_sum h w (sl_days h w M S n) 9), sl_days h w M S n)
def x3_best (h w : Nat) (M B S : sS) (n : Nat) : sS × sS := itr (x3_t h w M S n) h (x3_0 h w M B S n)
def bkok (S : sS) : Prop := ∀ j, j < 64 → ∃ b : Nat, S 3 j = nI b ∧ b ≤ 120
theorem vp_lt {x : Int32} {n : Nat} (h : vp_in x n) (hn : n < 2 ^ 31) : x.toNatClampNeg < n := by
  obtain ⟨j, hj, rfl⟩ := vp_in_of h hn
  rw [nI_clamp (by omega)]
  exact hj
theorem ten_nI (i : Nat) : nI i * 10 = nI (i * 10) := by
  have h1 : (10 : Int32) = nI 10 := rfl
  rw [h1, pk_mul]
theorem ht_in {x : Int32} {i : Nat} (hb : ∃ b : Nat, x = nI b ∧ b ≤ 120) (hi : i < x3_rounds x) : ¬ x < nI i * 10 := by
  obtain ⟨b, rfl, hb⟩ := hb
  unfold x3_rounds at hi
  rw [nI_clamp (by omega)] at hi
  rw [ten_nI]
  exact nI_nlt (by omega) (by omega)
theorem ht_out {x : Int32} {i : Nat} (hb : ∃ b : Nat, x = nI b ∧ b ≤ 120) (hi : i = x3_rounds x) : x < nI i * 10 := by
  obtain ⟨b, rfl, hb⟩ := hb
  unfold x3_rounds at hi
  rw [nI_clamp (by omega)] at hi
  rw [ten_nI]
  exact nI_lt (by omega) (by omega)
theorem bk_at {h w : Nat} {S : sS} (g : geo h w S) (hb : bkok S) {i j : Nat} (hi : i < h) (hj : j < w) : ∃ b : Nat, S 3 (sl_at S (nI i) (nI j)).toNatClampNeg = nI b ∧ b ≤ 120 := hb _ (vp_lt (geo_in g (geo_has g hi hj)) (by decide))
end
section
set_option maxHeartbeats 4000000 in
set_option maxRecDepth 100000 in
theorem c_X3_countNumber (l : Launch) (dC : Nat → ClassId) (dI : Nat → Nat → Nat) (cI : ClassId) (k b t : Nat → Nat) (h w : Nat) (M B S T : sS) (x : Int32) (hG0 : geo h w S) : zI l yX3_countNumber wsX3_countNumber { frames := 3, cells := 0, slots := 0, locals := 63 } (dC, dI) cI [.ref (k 0), .int x] (oW k b t M ++ kW cI k M ++ bW k B ++ sW cI b S ++ sW cI t T) (oW k b t M ++ kW cI k M ++ bW k B ++ sW cI b S ++ sW cI t T) (x3_count h w M S x) := by
  refine zI_of (cc := cX3_countNumber) (maxL := 2) (ret := (some .int)) (by decide) rfl (Nat.le_of_ble_eq_true rfl) ?_
  intro p e s m below meth c A ls C0 hl
  obtain ⟨hx, hb, hr, hml, hown, hts, hlocks, hK, hN, hA, hP, hD, hS⟩ := C0
  have hown : s.vm.findClass RX3 = some m.cls := hown
  have hl : lv_has ls 2 [(0, .ref (k 0)), (1, .int x)] := hl
  have hf21 := hts (.fieldLink RX3 21 "PaddyTerraces" "slope" "LPaddyTerraces$Slope;") (by decide +kernel)
  have hf49 := hts (.fieldLink RX3 49 "PaddyTerraces" "reaped" "I") (by decide +kernel)
  have hf53 := hts (.fieldLink RX3 53 "PaddyTerraces" "moved" "I") (by decide +kernel)
  have hf151 := hts (.fieldLink RX3 151 "PaddyTerraces$Slope" "day" "I") (by decide +kernel)
  have hf203 := hts (.fieldLink RX3 203 "PaddyTerraces$Slope" "w" "I") (by decide +kernel)
  have hf206 := hts (.fieldLink RX3 206 "PaddyTerraces$Slope" "h" "I") (by decide +kernel)
  have hf209 := hts (.fieldLink RX3 209 "PaddyTerraces$Slope" "brook" "I") (by decide +kernel)
  have hf212 := hts (.fieldLink RX3 212 "PaddyTerraces$Slope" "died" "I") (by decide +kernel)
  have hinX2 : ∀ w ∈ wsX20, w ∈ wsX3_countNumber := by decide +kernel
  have hinX3 : ∀ w ∈ wsX30, w ∈ wsX3_countNumber := by decide +kernel
  have hS0 := hS
  have hN64 := geo_hw hG0
  obtain ⟨-, -, hh2, hh8, hw2, hw8⟩ := id hG0
  refine lv_iload_n hx hb dX3_countNumber_0 rfl (lv_at hl 1 rfl) ?_
  by_cases c_1 : x = 0
  · refine lv_tableIn (off := 47) (tgt := 48) hx hb dX3_countNumber_1 (by rw [c_1]; decide) (by rw [c_1]; decide) (by rw [c_1]; rfl) (by decide) ?_
    refine lv_aload_n hx hb dX3_countNumber_48 rfl (lv_at hl 0 rfl) ?_
    refine va_get (D := (dC, dI)) (ci := 3) (v := .ref (b 0)) (C := RX3) (T := TX3) (N := 6) hx hb hts hinX3 hown hK hP 0 rfl rfl 1 (by decide) hf21 (fun _ h9 => h9) rfl dX3_countNumber_49 ?_
    refine va_get (D := (dC, dI)) (ci := 2) (v := .int (S 0 0)) (C := RX2) (T := TX2) (N := 18) hx hb hts hinX2 hown hK hP 6 rfl rfl 0 (by decide) hf206 (fun _ h9 => h9) rfl dX3_countNumber_52 ?_
    exact zI_ret hx hb hr hlocks hP hD hS rfl (by first | done | rfl | (simp only [x3_count, if_pos c_1]; done)) dX3_countNumber_55
  by_cases c_2 : x = 1
  · refine lv_tableIn (off := 55) (tgt := 56) hx hb dX3_countNumber_1 (by rw [c_2]; decide) (by rw [c_2]; decide) (by rw [c_2]; rfl) (by decide) ?_
    refine lv_aload_n hx hb dX3_countNumber_56 rfl (lv_at hl 0 rfl) ?_
    refine va_get (D := (dC, dI)) (ci := 3) (v := .ref (b 0)) (C := RX3) (T := TX3) (N := 6) hx hb hts hinX3 hown hK hP 0 rfl rfl 1 (by decide) hf21 (fun _ h9 => h9) rfl dX3_countNumber_57 ?_
    refine va_get (D := (dC, dI)) (ci := 2) (v := .int (S 0 1)) (C := RX2) (T := TX2) (N := 18) hx hb hts hinX2 hown hK hP 6 rfl rfl 1 (by decide) hf203 (fun _ h9 => h9) rfl dX3_countNumber_60 ?_
    exact zI_ret hx hb hr hlocks hP hD hS rfl (by first | done | rfl | (simp only [x3_count, if_neg c_1, if_pos c_2]; done)) dX3_countNumber_63
  by_cases c_3 : x = 2
  · refine lv_tableIn (off := 63) (tgt := 64) hx hb dX3_countNumber_1 (by rw [c_3]; decide) (by rw [c_3]; decide) (by rw [c_3]; rfl) (by decide) ?_
    refine lv_aload_n hx hb dX3_countNumber_64 rfl (lv_at hl 0 rfl) ?_
    refine va_get (D := (dC, dI)) (ci := 3) (v := .ref (b 0)) (C := RX3) (T := TX3) (N := 6) hx hb hts hinX3 hown hK hP 0 rfl rfl 1 (by decide) hf21 (fun _ h9 => h9) rfl dX3_countNumber_65 ?_
    refine va_get (D := (dC, dI)) (ci := 2) (v := .int (S 0 2)) (C := RX2) (T := TX2) (N := 18) hx hb hts hinX2 hown hK hP 6 rfl rfl 2 (by decide) hf151 (fun _ h9 => h9) rfl dX3_countNumber_68 ?_
    exact zI_ret hx hb hr hlocks hP hD hS rfl (by first | done | rfl | (simp only [x3_count, if_neg c_1, if_neg c_2, if_pos c_3]; done)) dX3_countNumber_71
  by_cases c_4 : x = 3
  · refine lv_tableIn (off := 71) (tgt := 72) hx hb dX3_countNumber_1 (by rw [c_4]; decide) (by rw [c_4]; decide) (by rw [c_4]; rfl) (by decide) ?_
    refine lv_aload_n hx hb dX3_countNumber_72 rfl (lv_at hl 0 rfl) ?_
    refine va_get (D := (dC, dI)) (ci := 3) (v := .ref (b 0)) (C := RX3) (T := TX3) (N := 6) hx hb hts hinX3 hown hK hP 0 rfl rfl 1 (by decide) hf21 (fun _ h9 => h9) rfl dX3_countNumber_73 ?_
    refine zI_V (pre := (oW k b t M ++ kW cI k M ++ bW k B)) (wc := sW cI b S) (post := (sW cI t T)) (w1 := sW cI b S) ⟨hx, hb, hml, hown, hts⟩ (c_X2_crops l dC dI cI b h w S hG0) (cwV 0 hts gX3_countNumber_X2_crops rfl rfl rfl (by decide +kernel) ⟨Nat.le_of_ble_eq_true rfl, Nat.le_of_ble_eq_true rfl⟩) (by simp only [List.append_assoc, List.append_nil, List.nil_append]) hK hN (ci := 2) (q0 := 0) rfl rfl rfl hP hD hS hA rfl hl.1 rfl (Nat.le_of_ble_eq_true rfl) dX3_countNumber_76 ⟨Nat.le_of_ble_eq_true rfl, Nat.le_of_ble_eq_true rfl⟩ (fun H locs hP hD hS => ?_)
    have hP : va_P (dC, dI) vwCl (oW k b t M ++ kW cI k M ++ bW k B ++ sW cI b S ++ sW cI t T) H := by simpa only [List.append_assoc, List.append_nil, List.nil_append] using hP
    have hD : va_D A (oW k b t M ++ kW cI k M ++ bW k B ++ sW cI b S ++ sW cI t T) := by simpa only [List.append_assoc, List.append_nil, List.nil_append] using hD
    exact zI_ret hx hb hr hlocks hP hD hS rfl (by first | done | rfl | (simp only [x3_count, if_neg c_1, if_neg c_2, if_neg c_3, if_pos c_4]; done)) dX3_countNumber_79
  by_cases c_5 : x = 4
  · refine lv_tableIn (off := 79) (tgt := 80) hx hb dX3_countNumber_1 (by rw [c_5]; decide) (by rw [c_5]; decide) (by rw [c_5]; rfl) (by decide) ?_
    refine lv_aload_n hx hb dX3_countNumber_80 rfl (lv_at hl 0 rfl) ?_
    refine va_get (D := (dC, dI)) (ci := 3) (v := .ref (b 0)) (C := RX3) (T := TX3) (N := 6) hx hb hts hinX3 hown hK hP 0 rfl rfl 1 (by decide) hf21 (fun _ h9 => h9) rfl dX3_countNumber_81 ?_
    refine zI_V (pre := (oW k b t M ++ kW cI k M ++ bW k B)) (wc := sW cI b S) (post := (sW cI t T)) (w1 := sW cI b S) ⟨hx, hb, hml, hown, hts⟩ (c_X2_allDepths l dC dI cI b h w S hG0) (cwV 0 hts gX3_countNumber_X2_allDepths rfl rfl rfl (by decide +kernel) ⟨Nat.le_of_ble_eq_true rfl, Nat.le_of_ble_eq_true rfl⟩) (by simp only [List.append_assoc, List.append_nil, List.nil_append]) hK hN (ci := 2) (q0 := 0) rfl rfl rfl hP hD hS hA rfl hl.1 rfl (Nat.le_of_ble_eq_true rfl) dX3_countNumber_84 ⟨Nat.le_of_ble_eq_true rfl, Nat.le_of_ble_eq_true rfl⟩ (fun H locs hP hD hS => ?_)
    have hP : va_P (dC, dI) vwCl (oW k b t M ++ kW cI k M ++ bW k B ++ sW cI b S ++ sW cI t T) H := by simpa only [List.append_assoc, List.append_nil, List.nil_append] using hP
    have hD : va_D A (oW k b t M ++ kW cI k M ++ bW k B ++ sW cI b S ++ sW cI t T) := by simpa only [List.append_assoc, List.append_nil, List.nil_append] using hD
    exact zI_ret hx hb hr hlocks hP hD hS rfl (by first | done | rfl | (simp only [x3_count, if_neg c_1, if_neg c_2, if_neg c_3, if_neg c_4, if_pos c_5]; done)) dX3_countNumber_87
  by_cases c_6 : x = 5
  · refine lv_tableIn (off := 87) (tgt := 88) hx hb dX3_countNumber_1 (by rw [c_6]; decide) (by rw [c_6]; decide) (by rw [c_6]; rfl) (by decide) ?_
    refine lv_aload_n hx hb dX3_countNumber_88 rfl (lv_at hl 0 rfl) ?_
    refine va_get (D := (dC, dI)) (ci := 3) (v := .ref (b 0)) (C := RX3) (T := TX3) (N := 6) hx hb hts hinX3 hown hK hP 0 rfl rfl 1 (by decide) hf21 (fun _ h9 => h9) rfl dX3_countNumber_89 ?_
    refine va_get (D := (dC, dI)) (ci := 2) (v := .int (S 0 3)) (C := RX2) (T := TX2) (N := 18) hx hb hts hinX2 hown hK hP 6 rfl rfl 3 (by decide) hf209 (fun _ h9 => h9) rfl dX3_countNumber_92 ?_
    exact zI_ret hx hb hr hlocks hP hD hS rfl (by first | done | rfl | (simp only [x3_count, if_neg c_1, if_neg c_2, if_neg c_3, if_neg c_4, if_neg c_5, if_pos c_6]; done)) dX3_countNumber_95
  by_cases c_7 : x = 6
  · refine lv_tableIn (off := 95) (tgt := 96) hx hb dX3_countNumber_1 (by rw [c_7]; decide) (by rw [c_7]; decide) (by rw [c_7]; rfl) (by decide) ?_
    refine lv_aload_n hx hb dX3_countNumber_96 rfl (lv_at hl 0 rfl) ?_
    refine va_get (D := (dC, dI)) (ci := 3) (v := .int (M 0 0)) (C := RX3) (T := TX3) (N := 6) hx hb hts hinX3 hown hK hP 0 rfl rfl 4 (by decide) hf49 (fun _ h9 => h9) rfl dX3_countNumber_97 ?_
    exact zI_ret hx hb hr hlocks hP hD hS rfl (by first | done | rfl | (simp only [x3_count, if_neg c_1, if_neg c_2, if_neg c_3, if_neg c_4, if_neg c_5, if_neg c_6, if_pos c_7]; done)) dX3_countNumber_100
  by_cases c_8 : x = 7
  · refine lv_tableIn (off := 100) (tgt := 101) hx hb dX3_countNumber_1 (by rw [c_8]; decide) (by rw [c_8]; decide) (by rw [c_8]; rfl) (by decide) ?_
    refine lv_aload_n hx hb dX3_countNumber_101 rfl (lv_at hl 0 rfl) ?_
    refine va_get (D := (dC, dI)) (ci := 3) (v := .ref (b 0)) (C := RX3) (T := TX3) (N := 6) hx hb hts hinX3 hown hK hP 0 rfl rfl 1 (by decide) hf21 (fun _ h9 => h9) rfl dX3_countNumber_102 ?_
    refine va_get (D := (dC, dI)) (ci := 2) (v := .int (S 0 4)) (C := RX2) (T := TX2) (N := 18) hx hb hts hinX2 hown hK hP 6 rfl rfl 4 (by decide) hf212 (fun _ h9 => h9) rfl dX3_countNumber_105 ?_
    exact zI_ret hx hb hr hlocks hP hD hS rfl (by first | done | rfl | (simp only [x3_count, if_neg c_1, if_neg c_2, if_neg c_3, if_neg c_4, if_neg c_5, if_neg c_6, if_neg c_7, if_pos c_8]; done)) dX3_countNumber_108
  refine lv_tableOut (tgt := 109) hx hb dX3_countNumber_1 (by have h90 := lv_neT c_1 (a := 0) rfl; have h91 := lv_neT c_2 (a := 1) rfl; have h92 := lv_neT c_3 (a := 2) rfl; have h93 := lv_neT c_4 (a := 3) rfl; have h94 := lv_neT c_5 (a := 4) rfl; have h95 := lv_neT c_6 (a := 5) rfl; have h96 := lv_neT c_7 (a := 6) rfl; have h97 := lv_neT c_8 (a := 7) rfl; omega) (by decide) ?_
  refine lv_aload_n hx hb dX3_countNumber_109 rfl (lv_at hl 0 rfl) ?_
  refine va_get (D := (dC, dI)) (ci := 3) (v := .int (M 0 1)) (C := RX3) (T := TX3) (N := 6) hx hb hts hinX3 hown hK hP 0 rfl rfl 5 (by decide) hf53 (fun _ h9 => h9) rfl dX3_countNumber_110 ?_
  exact zI_ret hx hb hr hlocks hP hD hS rfl (by first | done | rfl | (simp only [x3_count, if_neg c_1, if_neg c_2, if_neg c_3, if_neg c_4, if_neg c_5, if_neg c_6, if_neg c_7, if_neg c_8]; done)) dX3_countNumber_113
set_option maxHeartbeats 4000000 in
set_option maxRecDepth 100000 in
theorem c_X3_foreseenNumber (l : Launch) (dC : Nat → ClassId) (dI : Nat → Nat → Nat) (cI : ClassId) (k b t : Nat → Nat) (h w : Nat) (M B S T : sS) (x : Int32) (hG0 : geo h w S) (hGT : geo h w T) : zI l yX3_foreseenNumber wsX3_foreseenNumber { frames := 3, cells := 0, slots := 0, locals := 63 } (dC, dI) cI [.ref (k 0), .int x] (oW k b t M ++ kW cI k M ++ bW k B ++ sW cI b S ++ sW cI t T) (oW k b t M ++ kW cI k M ++ bW k B ++ sW cI b S ++ sW cI t T) (x3_fore h w S T x) := by
  refine zI_of (cc := cX3_foreseenNumber) (maxL := 2) (ret := (some .int)) (by decide) rfl (Nat.le_of_ble_eq_true rfl) ?_
  intro p e s m below meth c A ls C0 hl
  obtain ⟨hx, hb, hr, hml, hown, hts, hlocks, hK, hN, hA, hP, hD, hS⟩ := C0
  have hown : s.vm.findClass RX3 = some m.cls := hown
  have hl : lv_has ls 2 [(0, .ref (k 0)), (1, .int x)] := hl
  have hf21 := hts (.fieldLink RX3 21 "PaddyTerraces" "slope" "LPaddyTerraces$Slope;") (by decide +kernel)
  have hf25 := hts (.fieldLink RX3 25 "PaddyTerraces" "trial" "LPaddyTerraces$Slope;") (by decide +kernel)
  have hf209 := hts (.fieldLink RX3 209 "PaddyTerraces$Slope" "brook" "I") (by decide +kernel)
  have hinX2 : ∀ w ∈ wsX20, w ∈ wsX3_foreseenNumber := by decide +kernel
  have hinX3 : ∀ w ∈ wsX30, w ∈ wsX3_foreseenNumber := by decide +kernel
  have hS0 := hS
  have hN64 := geo_hw hG0
  obtain ⟨-, -, hh2, hh8, hw2, hw8⟩ := id hG0
  refine lv_iload_n hx hb dX3_foreseenNumber_0 rfl (lv_at hl 1 rfl) ?_
  by_cases c_1 : x = 0
  · refine lv_tableIn (off := 27) (tgt := 28) hx hb dX3_foreseenNumber_1 (by rw [c_1]; decide) (by rw [c_1]; decide) (by rw [c_1]; rfl) (by decide) ?_
    refine lv_aload_n hx hb dX3_foreseenNumber_28 rfl (lv_at hl 0 rfl) ?_
    refine va_get (D := (dC, dI)) (ci := 3) (v := .ref (t 0)) (C := RX3) (T := TX3) (N := 6) hx hb hts hinX3 hown hK hP 0 rfl rfl 2 (by decide) hf25 (fun _ h9 => h9) rfl dX3_foreseenNumber_29 ?_
    refine zI_V (pre := (oW k b t M ++ kW cI k M ++ bW k B ++ sW cI b S)) (wc := sW cI t T) (post := ([] : va_W)) (w1 := sW cI t T) ⟨hx, hb, hml, hown, hts⟩ (c_X2_crops l dC dI cI t h w T hGT) (cwV 0 hts gX3_foreseenNumber_X2_crops rfl rfl rfl (by decide +kernel) ⟨Nat.le_of_ble_eq_true rfl, Nat.le_of_ble_eq_true rfl⟩) (by simp only [List.append_assoc, List.append_nil, List.nil_append]) hK hN (ci := 2) (q0 := 0) rfl rfl rfl hP hD hS hA rfl hl.1 rfl (Nat.le_of_ble_eq_true rfl) dX3_foreseenNumber_32 ⟨Nat.le_of_ble_eq_true rfl, Nat.le_of_ble_eq_true rfl⟩ (fun H locs hP hD hS => ?_)
    have hP : va_P (dC, dI) vwCl (oW k b t M ++ kW cI k M ++ bW k B ++ sW cI b S ++ sW cI t T) H := by simpa only [List.append_assoc, List.append_nil, List.nil_append] using hP
    have hD : va_D A (oW k b t M ++ kW cI k M ++ bW k B ++ sW cI b S ++ sW cI t T) := by simpa only [List.append_assoc, List.append_nil, List.nil_append] using hD
    exact zI_ret hx hb hr hlocks hP hD hS rfl (by first | done | rfl | (simp only [x3_fore, if_pos c_1]; done)) dX3_foreseenNumber_35
  by_cases c_2 : x = 1
  · refine lv_tableIn (off := 35) (tgt := 36) hx hb dX3_foreseenNumber_1 (by rw [c_2]; decide) (by rw [c_2]; decide) (by rw [c_2]; rfl) (by decide) ?_
    refine lv_aload_n hx hb dX3_foreseenNumber_36 rfl (lv_at hl 0 rfl) ?_
    refine va_get (D := (dC, dI)) (ci := 3) (v := .ref (t 0)) (C := RX3) (T := TX3) (N := 6) hx hb hts hinX3 hown hK hP 0 rfl rfl 2 (by decide) hf25 (fun _ h9 => h9) rfl dX3_foreseenNumber_37 ?_
    refine zI_V (pre := (oW k b t M ++ kW cI k M ++ bW k B ++ sW cI b S)) (wc := sW cI t T) (post := ([] : va_W)) (w1 := sW cI t T) ⟨hx, hb, hml, hown, hts⟩ (c_X2_allHardness l dC dI cI t h w T hGT) (cwV 0 hts gX3_foreseenNumber_X2_allHardness rfl rfl rfl (by decide +kernel) ⟨Nat.le_of_ble_eq_true rfl, Nat.le_of_ble_eq_true rfl⟩) (by simp only [List.append_assoc, List.append_nil, List.nil_append]) hK hN (ci := 2) (q0 := 0) rfl rfl rfl hP hD hS hA rfl hl.1 rfl (Nat.le_of_ble_eq_true rfl) dX3_foreseenNumber_40 ⟨Nat.le_of_ble_eq_true rfl, Nat.le_of_ble_eq_true rfl⟩ (fun H locs hP hD hS => ?_)
    have hP : va_P (dC, dI) vwCl (oW k b t M ++ kW cI k M ++ bW k B ++ sW cI b S ++ sW cI t T) H := by simpa only [List.append_assoc, List.append_nil, List.nil_append] using hP
    have hD : va_D A (oW k b t M ++ kW cI k M ++ bW k B ++ sW cI b S ++ sW cI t T) := by simpa only [List.append_assoc, List.append_nil, List.nil_append] using hD
    exact zI_ret hx hb hr hlocks hP hD hS rfl (by first | done | rfl | (simp only [x3_fore, if_neg c_1, if_pos c_2]; done)) dX3_foreseenNumber_43
  by_cases c_3 : x = 2
  · refine lv_tableIn (off := 43) (tgt := 44) hx hb dX3_foreseenNumber_1 (by rw [c_3]; decide) (by rw [c_3]; decide) (by rw [c_3]; rfl) (by decide) ?_
    refine lv_aload_n hx hb dX3_foreseenNumber_44 rfl (lv_at hl 0 rfl) ?_
    refine va_get (D := (dC, dI)) (ci := 3) (v := .ref (t 0)) (C := RX3) (T := TX3) (N := 6) hx hb hts hinX3 hown hK hP 0 rfl rfl 2 (by decide) hf25 (fun _ h9 => h9) rfl dX3_foreseenNumber_45 ?_
    refine va_get (D := (dC, dI)) (ci := 2) (v := .int (T 0 3)) (C := RX2) (T := TX2) (N := 18) hx hb hts hinX2 hown hK hP 20 rfl rfl 3 (by decide) hf209 (fun _ h9 => h9) rfl dX3_foreseenNumber_48 ?_
    refine lv_aload_n hx hb dX3_foreseenNumber_51 rfl (lv_at hl 0 rfl) ?_
    refine va_get (D := (dC, dI)) (ci := 3) (v := .ref (b 0)) (C := RX3) (T := TX3) (N := 6) hx hb hts hinX3 hown hK hP 0 rfl rfl 1 (by decide) hf21 (fun _ h9 => h9) rfl dX3_foreseenNumber_52 ?_
    refine va_get (D := (dC, dI)) (ci := 2) (v := .int (S 0 3)) (C := RX2) (T := TX2) (N := 18) hx hb hts hinX2 hown hK hP 6 rfl rfl 3 (by decide) hf209 (fun _ h9 => h9) rfl dX3_foreseenNumber_55 ?_
    refine lv_isub hx hb dX3_foreseenNumber_58 ?_
    exact zI_ret hx hb hr hlocks hP hD hS rfl (by first | done | rfl | (simp only [x3_fore, if_neg c_1, if_neg c_2, if_pos c_3]; done)) dX3_foreseenNumber_59
  refine lv_tableOut (tgt := 60) hx hb dX3_foreseenNumber_1 (by have h90 := lv_neT c_1 (a := 0) rfl; have h91 := lv_neT c_2 (a := 1) rfl; have h92 := lv_neT c_3 (a := 2) rfl; omega) (by decide) ?_
  refine lv_aload_n hx hb dX3_foreseenNumber_60 rfl (lv_at hl 0 rfl) ?_
  refine va_get (D := (dC, dI)) (ci := 3) (v := .ref (t 0)) (C := RX3) (T := TX3) (N := 6) hx hb hts hinX3 hown hK hP 0 rfl rfl 2 (by decide) hf25 (fun _ h9 => h9) rfl dX3_foreseenNumber_61 ?_
  refine zI_V (pre := (oW k b t M ++ kW cI k M ++ bW k B ++ sW cI b S)) (wc := sW cI t T) (post := ([] : va_W)) (w1 := sW cI t T) ⟨hx, hb, hml, hown, hts⟩ (c_X2_allDepths l dC dI cI t h w T hGT) (cwV 0 hts gX3_foreseenNumber_X2_allDepths rfl rfl rfl (by decide +kernel) ⟨Nat.le_of_ble_eq_true rfl, Nat.le_of_ble_eq_true rfl⟩) (by simp only [List.append_assoc, List.append_nil, List.nil_append]) hK hN (ci := 2) (q0 := 0) rfl rfl rfl hP hD hS hA rfl hl.1 rfl (Nat.le_of_ble_eq_true rfl) dX3_foreseenNumber_64 ⟨Nat.le_of_ble_eq_true rfl, Nat.le_of_ble_eq_true rfl⟩ (fun H locs hP hD hS => ?_)
  have hP : va_P (dC, dI) vwCl (oW k b t M ++ kW cI k M ++ bW k B ++ sW cI b S ++ sW cI t T) H := by simpa only [List.append_assoc, List.append_nil, List.nil_append] using hP
  have hD : va_D A (oW k b t M ++ kW cI k M ++ bW k B ++ sW cI b S ++ sW cI t T) := by simpa only [List.append_assoc, List.append_nil, List.nil_append] using hD
  exact zI_ret hx hb hr hlocks hP hD hS rfl (by first | done | rfl | (simp only [x3_fore, if_neg c_1, if_neg c_2, if_neg c_3]; done)) dX3_foreseenNumber_67
end
section
/-! what the calls of the class answer, and what they leave -/
abbrev sl_k (S : sS) (t f : Int32) : Nat := (sl_at S t f).toNatClampNeg
def lay_T (u v : Int32) : Int32 := if is_w u 2 8 = 0 then 1 else if is_w v 2 8 = 0 then 1 else 0
def lay_M (M : sS) : sS := s_put (s_put M 0 0 0) 0 1 0
def set_T (S : sS) (t f u v : Int32) : Int32 := if sl_has S t f = 0 then 1 else if is_w u 20 120 = 0 then 2 else if is_w v 0 9 = 0 then 2 else 0
def set_S (S : sS) (t f u v : Int32) : sS := s_put (s_put (s_put S 3 (sl_k S t f) u) 4 (sl_k S t f) v) 5 (sl_k S t f) (zmin (S 5 (sl_k S t f)) u)
def mov_T (S : sS) (t f x : Int32) : Int32 := if sl_has S t f = 0 then 1 else if is_w x 0 (S 3 (sl_k S t f)) = 0 then 2 else 0
def mov_S (S : sS) (t f x : Int32) : sS := s_put S 5 (sl_k S t f) x
def mov_V (S : sS) (t f x : Int32) : Int32 := x - S 5 (sl_k S t f)
def mov_M (M S : sS) (t f x : Int32) : sS := s_put M 0 1 (M 0 1 + zabs (mov_V S t f x))
def trn_T (S : sS) (t f x : Int32) : Int32 := if sl_has S t f = 0 then 1 else if is_w x (-1) 1 = 0 then 2 else 0
def trn_S (S : sS) (t f x : Int32) : sS := s_put S 6 (sl_k S t f) x
def shr_T (S : sS) (f x : Int32) : Int32 := if sl_has S 0 f = 0 then 1 else if is_w x 0 9 = 0 then 2 else 0
def shr_S (S : sS) (f x : Int32) : sS := s_put S 1 f.toNatClampNeg x
def day_T (i u v x : Int32) : Int32 := if is_w i 0 29 = 0 then 1 else if is_w u 0 60 = 0 then 2 else if is_w v 0 400 = 0 then 2 else if is_w x 0 20 = 0 then 2 else 0
def day_M (M : sS) (i u v x : Int32) : sS := s_put (s_put (s_put M 1 i.toNatClampNeg u) 2 i.toNatClampNeg v) 3 i.toNatClampNeg x
def pla_T (S : sS) (t f x : Int32) : Int32 := if sl_has S t f = 0 then 1 else if is_w x 0 20 = 0 then 2 else if S 7 (sl_k S t f) = 0 then (if S 2 (sl_k S t f) ≤ 40 then 0 else 3) else 3
def pla_S (S : sS) (t f x : Int32) : sS := s_put (s_put S 7 (sl_k S t f) 1) 8 (sl_k S t f) x
def rea_T (S : sS) (t f : Int32) : Int32 := if sl_has S t f = 0 then 1 else if S 7 (sl_k S t f) = 0 then 2 else if 40 ≤ S 8 (sl_k S t f) then 0 else 2
def rea_b (S : sS) (t f : Int32) : Int32 := S 8 (sl_k S t f) * S 9 (sl_k S t f) / 100
def rea_V (S : sS) (t f : Int32) : Int32 := if S 2 (sl_k S t f) = 0 then rea_b S t f + rea_b S t f / 2 else rea_b S t f
def rea_S (S : sS) (t f : Int32) : sS := sl_clear S (sl_at S t f)
def rea_M (M S : sS) (t f : Int32) : sS := s_put M 0 0 (M 0 0 + rea_V S t f)
def pas_T (S : sS) (x : Int32) : Int32 := if is_w x 1 60 = 0 then 1 else if S 0 2 + x ≤ 2000 then 0 else 2
def pas_S (h w : Nat) (M S : sS) (x : Int32) : sS := sl_days h w M S x.toNatClampNeg
def fld_T (S : sS) (t f x : Int32) : Int32 := if sl_has S t f = 0 then 1 else if is_w x 0 11 = 0 then 1 else 0
def cnt_T (x : Int32) : Int32 := if is_w x 0 8 = 0 then 1 else 0
def wea_T (i x : Int32) : Int32 := if is_w i 0 29 = 0 then 1 else if is_w x 0 2 = 0 then 1 else 0
def for_T (S : sS) (i x : Int32) : Int32 := if is_w i 1 20 = 0 then 1 else if is_w x 0 3 = 0 then 2 else if S 0 2 + i ≤ 2000 then 0 else 3
def adv_T (S : sS) (i x : Int32) : Int32 := if is_w i 1 10 = 0 then 1 else if is_w x 0 2 = 0 then 2 else if S 0 2 + i ≤ 2000 then 0 else 3
theorem isw_ok {x a b : Int32} (h : ¬ is_w x a b = 0) : ¬ x < a ∧ ¬ b < x := by
  unfold is_w at h
  by_cases h1 : x < a
  · rw [if_pos h1] at h; exact absurd rfl h
  · rw [if_neg h1] at h
    by_cases h2 : b < x
    · rw [if_pos h2] at h; exact absurd rfl h
    · exact ⟨h1, h2⟩
/-- a number from 0 (or 1) to a small bound -/
theorem isw_n {x a b : Int32} (h : ¬ is_w x a b = 0) (ha : 0 ≤ a.toInt) : x = nI x.toNatClampNeg ∧ (x.toNatClampNeg : Int) ≤ b.toInt ∧ a.toInt ≤ x.toNatClampNeg := by
  obtain ⟨h1, h2⟩ := isw_ok h
  rw [Int32.lt_iff_toInt_lt] at h1 h2
  have h0 : ¬ x < 0 := by
    rw [Int32.lt_iff_toInt_lt]
    show ¬ x.toInt < 0
    omega
  obtain ⟨j, hj, rfl⟩ := nI_of h0
  rw [nI_clamp hj]
  rw [nI_toInt hj] at h1 h2
  exact ⟨rfl, by omega, by omega⟩
theorem isw_in {x b : Int32} {n : Nat} (h : ¬ is_w x 0 b = 0) (hb : b.toInt < n) (hn : n < 2 ^ 31) : vp_in x n := by
  obtain ⟨e, h1, -⟩ := isw_n h (by decide)
  rw [e]
  exact vp_in_nI (by omega) hn
theorem has_in {h w : Nat} {S : sS} (g : geo h w S) {t f : Int32} (hh : ¬ sl_has S t f = 0) : vp_in f 8 := by
  obtain ⟨i, j, -, hj, -, rfl, -⟩ := geo_tf g hh
  obtain ⟨-, -, -, -, -, h8⟩ := g
  exact vp_in_nI (by omega) (by decide)
end
section
/-! days by a number that was looked at -/
theorem c_X2_letDaysGoByX (l : Launch) (dC : Nat → ClassId) (dI : Nat → Nat → Nat) (cI : ClassId) (a k : Nat → Nat) (h w d : Nat) (x : Int32) (S M : sS) (hG0 : geo h w S) (hd : S 0 2 = nI d) (hx : x = nI x.toNatClampNeg) (hdn : d + x.toNatClampNeg < 1000000) : zV l yX2_letDaysGoBy wsX2_letDaysGoBy { frames := 4, cells := 0, slots := 0, locals := 92 } (dC, dI) cI [.ref (a 0), .int x, .ref (k 1)] (sW cI a S ++ kW cI k M) (sW cI a (sl_days h w M S x.toNatClampNeg) ++ kW cI k M) := by
  have h9 := c_X2_letDaysGoBy l dC dI cI a k h w d x.toNatClampNeg S M hG0 hd hdn
  rw [← hx] at h9
  exact h9
end
section
set_option maxHeartbeats 4000000 in
set_option maxRecDepth 100000 in
theorem c_X3_lay (l : Launch) (dC : Nat → ClassId) (dI : Nat → Nat → Nat) (cI : ClassId) (k b t : Nat → Nat) (h w : Nat) (M B S T : sS) (u v : Int32)  (hT : lay_T u v = 0) : zI l yX3_lay wsX3_lay { frames := 2, cells := 0, slots := 0, locals := 46 } (dC, dI) cI [.ref (k 0), .int u, .int v] (oW k b t M ++ kW cI k M ++ bW k B ++ sW cI b S ++ sW cI t T) (oW k b t (lay_M M) ++ kW cI k (lay_M M) ++ bW k B ++ sW cI b (sl_new u v) ++ sW cI t T) (sl_cells (sl_new u v)) := by
  refine zI_of (cc := cX3_lay) (maxL := 3) (ret := (some .int)) (by decide) rfl (Nat.le_of_ble_eq_true rfl) ?_
  intro p e s m below meth c A ls C0 hl
  obtain ⟨hx, hb, hr, hml, hown, hts, hlocks, hK, hN, hA, hP, hD, hS⟩ := C0
  have hown : s.vm.findClass RX3 = some m.cls := hown
  have hl : lv_has ls 3 [(0, .ref (k 0)), (1, .int u), (2, .int v)] := hl
  have hf21 := hts (.fieldLink RX3 21 "PaddyTerraces" "slope" "LPaddyTerraces$Slope;") (by decide +kernel)
  have hf49 := hts (.fieldLink RX3 49 "PaddyTerraces" "reaped" "I") (by decide +kernel)
  have hf53 := hts (.fieldLink RX3 53 "PaddyTerraces" "moved" "I") (by decide +kernel)
  have hinX3 : ∀ w ∈ wsX30, w ∈ wsX3_lay := by decide +kernel
  have hS0 := hS
  refine lv_iload_n hx hb dX3_lay_0 rfl (lv_at hl 1 rfl) ?_
  refine lv_iconst (v := 2) hx hb dX3_lay_1 (by decide) ?_
  refine lv_bipush (v := 8) hx hb dX3_lay_2 (by decide) ?_
  refine zI_S (pre := (oW k b t M ++ kW cI k M ++ bW k B ++ sW cI b S ++ sW cI t T)) (wc := ([] : va_W)) (post := ([] : va_W)) (w1 := ([] : va_W)) ⟨hx, hb, hml, hown, hts⟩ (c_X3_isWithin l dC dI cI u 2 8) (va_cwS 3 hts gX3_lay_X3_isWithin rfl rfl rfl (by decide +kernel) ⟨Nat.le_of_ble_eq_true rfl, Nat.le_of_ble_eq_true rfl⟩) (by simp only [List.append_assoc, List.append_nil, List.nil_append]) hK hN hP hD hS hA rfl hl.1 rfl (Nat.le_of_ble_eq_true rfl) dX3_lay_4 ⟨Nat.le_of_ble_eq_true rfl, Nat.le_of_ble_eq_true rfl⟩ (fun H locs hP hD hS => ?_)
  have hP : va_P (dC, dI) vwCl (oW k b t M ++ kW cI k M ++ bW k B ++ sW cI b S ++ sW cI t T) H := by simpa only [List.append_assoc, List.append_nil, List.nil_append] using hP
  have hD : va_D A (oW k b t M ++ kW cI k M ++ bW k B ++ sW cI b S ++ sW cI t T) := by simpa only [List.append_assoc, List.append_nil, List.nil_append] using hD
  refine lv_if_eq (tgt := 20) hx hb dX3_lay_7 (by decide) (fun c_1 => ?_) (fun c_1 => ?_)
  · have hT9 : lay_T u v = 1 := by simp only [lay_T, if_pos c_1]
    exact absurd (hT.symm.trans hT9) (by decide)
  · refine lv_iload_n hx hb dX3_lay_10 rfl (lv_at hl 2 rfl) ?_
    refine lv_iconst (v := 2) hx hb dX3_lay_11 (by decide) ?_
    refine lv_bipush (v := 8) hx hb dX3_lay_12 (by decide) ?_
    refine zI_S (pre := (oW k b t M ++ kW cI k M ++ bW k B ++ sW cI b S ++ sW cI t T)) (wc := ([] : va_W)) (post := ([] : va_W)) (w1 := ([] : va_W)) ⟨hx, hb, hml, hown, hts⟩ (c_X3_isWithin l dC dI cI v 2 8) (va_cwS 3 hts gX3_lay_X3_isWithin rfl rfl rfl (by decide +kernel) ⟨Nat.le_of_ble_eq_true rfl, Nat.le_of_ble_eq_true rfl⟩) (by simp only [List.append_assoc, List.append_nil, List.nil_append]) hK hN hP hD hS hA rfl hl.1 rfl (Nat.le_of_ble_eq_true rfl) dX3_lay_14 ⟨Nat.le_of_ble_eq_true rfl, Nat.le_of_ble_eq_true rfl⟩ (fun H locs hP hD hS => ?_)
    have hP : va_P (dC, dI) vwCl (oW k b t M ++ kW cI k M ++ bW k B ++ sW cI b S ++ sW cI t T) H := by simpa only [List.append_assoc, List.append_nil, List.nil_append] using hP
    have hD : va_D A (oW k b t M ++ kW cI k M ++ bW k B ++ sW cI b S ++ sW cI t T) := by simpa only [List.append_assoc, List.append_nil, List.nil_append] using hD
    refine lv_if_ne (tgt := 30) hx hb dX3_lay_17 (by decide) (fun c_2 => ?_) (fun c_2 => ?_)
    · refine lv_aload_n hx hb dX3_lay_30 rfl (lv_at hl 0 rfl) ?_
      refine va_get (D := (dC, dI)) (ci := 3) (v := .ref (b 0)) (C := RX3) (T := TX3) (N := 6) hx hb hts hinX3 hown hK hP 0 rfl rfl 1 (by decide) hf21 (fun _ h9 => h9) rfl dX3_lay_31 ?_
      refine lv_iload_n hx hb dX3_lay_34 rfl (lv_at hl 1 rfl) ?_
      refine lv_iload_n hx hb dX3_lay_35 rfl (lv_at hl 2 rfl) ?_
      obtain ⟨S3, eS3⟩ : ∃ z : sS, z = sl_new u v := ⟨_, rfl⟩
      refine zV_V (pre := (oW k b t M ++ kW cI k M ++ bW k B)) (wc := sW cI b S) (post := (sW cI t T)) (w1 := sW cI b S3) ⟨hx, hb, hml, hown, hts⟩ (by rw [eS3]; exact c_X2_startAnew l dC dI cI b S u v) (cwV 2 hts gX3_lay_X2_startAnew rfl rfl rfl (by decide +kernel) ⟨Nat.le_of_ble_eq_true rfl, Nat.le_of_ble_eq_true rfl⟩) (by simp only [List.append_assoc, List.append_nil, List.nil_append]) hK hN (ci := 2) (q0 := 0) rfl rfl rfl hP hD hS hA rfl hl.1 rfl (Nat.le_of_ble_eq_true rfl) dX3_lay_36 ⟨Nat.le_of_ble_eq_true rfl, Nat.le_of_ble_eq_true rfl⟩ (fun H locs hP hD hS => ?_)
      have hP : va_P (dC, dI) vwCl (oW k b t M ++ kW cI k M ++ bW k B ++ sW cI b S3 ++ sW cI t T) H := by simpa only [List.append_assoc, List.append_nil, List.nil_append] using hP
      have hD : va_D A (oW k b t M ++ kW cI k M ++ bW k B ++ sW cI b S3 ++ sW cI t T) := by simpa only [List.append_assoc, List.append_nil, List.nil_append] using hD
      refine lv_aload_n hx hb dX3_lay_39 rfl (lv_at hl 0 rfl) ?_
      refine lv_iconst (v := 0) hx hb dX3_lay_40 (by decide) ?_
      obtain ⟨S4, eS4⟩ : ∃ z : sS, z = s_put M 0 0 0 := ⟨_, rfl⟩
      refine va_put (D := (dC, dI)) (ci := 3) (v := .int 0) (ty := .int) (C := RX3) (T := TX3) (N := 6) hx hb hts hinX3 tyX3 tyX3_ok nmX3 hown hK hP hD hS 0 rfl rfl 4 (by decide) hf49 (fun _ h9 => h9) rfl (by decide +kernel) rfl rfl (Nat.le_of_ble_eq_true rfl) dX3_lay_41 (fun H locs hP hD hS => ?_)
      have hP : va_P (dC, dI) vwCl (oW k b t S4 ++ kW cI k S4 ++ bW k B ++ sW cI b S3 ++ sW cI t T) H := by rw [eS4]; exact hP
      have hD : va_D A (oW k b t S4 ++ kW cI k S4 ++ bW k B ++ sW cI b S3 ++ sW cI t T) := by rw [eS4]; exact hD
      refine lv_aload_n hx hb dX3_lay_44 rfl (lv_at hl 0 rfl) ?_
      refine lv_iconst (v := 0) hx hb dX3_lay_45 (by decide) ?_
      obtain ⟨S5, eS5⟩ : ∃ z : sS, z = s_put S4 0 1 0 := ⟨_, rfl⟩
      refine va_put (D := (dC, dI)) (ci := 3) (v := .int 0) (ty := .int) (C := RX3) (T := TX3) (N := 6) hx hb hts hinX3 tyX3 tyX3_ok nmX3 hown hK hP hD hS 0 rfl rfl 5 (by decide) hf53 (fun _ h9 => h9) rfl (by decide +kernel) rfl rfl (Nat.le_of_ble_eq_true rfl) dX3_lay_46 (fun H locs hP hD hS => ?_)
      have hP : va_P (dC, dI) vwCl (oW k b t S5 ++ kW cI k S5 ++ bW k B ++ sW cI b S3 ++ sW cI t T) H := by rw [eS5]; exact hP
      have hD : va_D A (oW k b t S5 ++ kW cI k S5 ++ bW k B ++ sW cI b S3 ++ sW cI t T) := by rw [eS5]; exact hD
      refine lv_aload_n hx hb dX3_lay_49 rfl (lv_at hl 0 rfl) ?_
      refine va_get (D := (dC, dI)) (ci := 3) (v := .ref (b 0)) (C := RX3) (T := TX3) (N := 6) hx hb hts hinX3 hown hK hP 0 rfl rfl 1 (by decide) hf21 (fun _ h9 => h9) rfl dX3_lay_50 ?_
      refine zI_V (pre := (oW k b t S5 ++ kW cI k S5 ++ bW k B)) (wc := sW cI b S3) (post := (sW cI t T)) (w1 := sW cI b S3) ⟨hx, hb, hml, hown, hts⟩ (c_X2_cells l dC dI cI b S3) (cwV 0 hts gX3_lay_X2_cells rfl rfl rfl (by decide +kernel) ⟨Nat.le_of_ble_eq_true rfl, Nat.le_of_ble_eq_true rfl⟩) (by simp only [List.append_assoc, List.append_nil, List.nil_append]) hK hN (ci := 2) (q0 := 0) rfl rfl rfl hP hD hS hA rfl hl.1 rfl (Nat.le_of_ble_eq_true rfl) dX3_lay_53 ⟨Nat.le_of_ble_eq_true rfl, Nat.le_of_ble_eq_true rfl⟩ (fun H locs hP hD hS => ?_)
      have hP : va_P (dC, dI) vwCl (oW k b t S5 ++ kW cI k S5 ++ bW k B ++ sW cI b S3 ++ sW cI t T) H := by simpa only [List.append_assoc, List.append_nil, List.nil_append] using hP
      have hD : va_D A (oW k b t S5 ++ kW cI k S5 ++ bW k B ++ sW cI b S3 ++ sW cI t T) := by simpa only [List.append_assoc, List.append_nil, List.nil_append] using hD
      have hZ : S3 = sl_new u v := (by (try rw [eS5]); (try rw [eS4]); (try rw [eS3]); first | done | rfl | (simp only [lay_M, if_neg c_1, if_neg c_2]; done) | (unfold lay_M; simp only [if_neg c_1, if_neg c_2]; done))
      rw [hZ] at hP hD
      have hZ : S5 = lay_M M := (by (try rw [eS5]); (try rw [eS4]); (try rw [eS3]); first | done | rfl | (simp only [lay_M, if_neg c_1, if_neg c_2]; done) | (unfold lay_M; simp only [if_neg c_1, if_neg c_2]; done))
      rw [hZ] at hP hD
      exact zI_ret hx hb hr hlocks hP hD hS rfl (by (try rw [eS5]); (try rw [eS4]); (try rw [eS3]); first | done | rfl | (simp only [lay_M, if_neg c_1, if_neg c_2]; done)) dX3_lay_56
    · have hT9 : lay_T u v = 1 := by simp only [lay_T, if_neg c_1, if_pos c_2]
      exact absurd (hT.symm.trans hT9) (by decide)
set_option maxHeartbeats 4000000 in
set_option maxRecDepth 100000 in
theorem c_X3_setField (l : Launch) (dC : Nat → ClassId) (dI : Nat → Nat → Nat) (cI : ClassId) (k b t : Nat → Nat) (h w : Nat) (M B S T : sS) (y f u v : Int32) (hG0 : geo h w S) (hT : set_T S y f u v = 0) : zI l yX3_setField wsX3_setField { frames := 1, cells := 0, slots := 0, locals := 22 } (dC, dI) cI [.ref (k 0), .int y, .int f, .int u, .int v] (oW k b t M ++ kW cI k M ++ bW k B ++ sW cI b S ++ sW cI t T) (oW k b t M ++ kW cI k M ++ bW k B ++ sW cI b (set_S S y f u v) ++ sW cI t T) (S 3 (sl_k S y f)) := by
  refine zI_of (cc := cX3_setField) (maxL := 7) (ret := (some .int)) (by decide) rfl (Nat.le_of_ble_eq_true rfl) ?_
  intro p e s m below meth c A ls C0 hl
  obtain ⟨hx, hb, hr, hml, hown, hts, hlocks, hK, hN, hA, hP, hD, hS⟩ := C0
  have hown : s.vm.findClass RX3 = some m.cls := hown
  have hl : lv_has ls 7 [(0, .ref (k 0)), (1, .int y), (2, .int f), (3, .int u), (4, .int v)] := hl
  have hf21 := hts (.fieldLink RX3 21 "PaddyTerraces" "slope" "LPaddyTerraces$Slope;") (by decide +kernel)
  have hf75 := hts (.fieldLink RX3 75 "PaddyTerraces$Slope" "bank" "[I") (by decide +kernel)
  have hf79 := hts (.fieldLink RX3 79 "PaddyTerraces$Slope" "seepage" "[I") (by decide +kernel)
  have hf82 := hts (.fieldLink RX3 82 "PaddyTerraces$Slope" "stone" "[I") (by decide +kernel)
  have hc_min := hts (.code Lib.Math.min.name Lib.Math.min.code 2 (some .int)) (by decide +kernel)
  have hi_Math := hts (.initialized "java/lang/Math") (by decide +kernel)
  have hm85 := hts (.methodLink RX3 85 Lib.Math.min.name) (by decide +kernel)
  have hs_min := hts (.static Lib.Math.min.name) (by decide +kernel)
  have hinX2 : ∀ w ∈ wsX20, w ∈ wsX3_setField := by decide +kernel
  have hinX3 : ∀ w ∈ wsX30, w ∈ wsX3_setField := by decide +kernel
  have hS0 := hS
  have hN64 := geo_hw hG0
  obtain ⟨-, -, hh2, hh8, hw2, hw8⟩ := id hG0
  refine lv_aload_n hx hb dX3_setField_0 rfl (lv_at hl 0 rfl) ?_
  refine va_get (D := (dC, dI)) (ci := 3) (v := .ref (b 0)) (C := RX3) (T := TX3) (N := 6) hx hb hts hinX3 hown hK hP 0 rfl rfl 1 (by decide) hf21 (fun _ h9 => h9) rfl dX3_setField_1 ?_
  refine lv_iload_n hx hb dX3_setField_4 rfl (lv_at hl 1 rfl) ?_
  refine lv_iload_n hx hb dX3_setField_5 rfl (lv_at hl 2 rfl) ?_
  refine zI_V (pre := (oW k b t M ++ kW cI k M ++ bW k B)) (wc := sW cI b S) (post := (sW cI t T)) (w1 := sW cI b S) ⟨hx, hb, hml, hown, hts⟩ (c_X2_hasField l dC dI cI b S y f) (cwV 2 hts gX3_setField_X2_hasField rfl rfl rfl (by decide +kernel) ⟨Nat.le_of_ble_eq_true rfl, Nat.le_of_ble_eq_true rfl⟩) (by simp only [List.append_assoc, List.append_nil, List.nil_append]) hK hN (ci := 2) (q0 := 0) rfl rfl rfl hP hD hS hA rfl hl.1 rfl (Nat.le_of_ble_eq_true rfl) dX3_setField_6 ⟨Nat.le_of_ble_eq_true rfl, Nat.le_of_ble_eq_true rfl⟩ (fun H locs hP hD hS => ?_)
  have hP : va_P (dC, dI) vwCl (oW k b t M ++ kW cI k M ++ bW k B ++ sW cI b S ++ sW cI t T) H := by simpa only [List.append_assoc, List.append_nil, List.nil_append] using hP
  have hD : va_D A (oW k b t M ++ kW cI k M ++ bW k B ++ sW cI b S ++ sW cI t T) := by simpa only [List.append_assoc, List.append_nil, List.nil_append] using hD
  refine lv_if_ne (tgt := 22) hx hb dX3_setField_9 (by decide) (fun c_1 => ?_) (fun c_1 => ?_)
  · refine lv_iload_n hx hb dX3_setField_22 rfl (lv_at hl 3 rfl) ?_
    refine lv_bipush (v := 20) hx hb dX3_setField_23 (by decide) ?_
    refine lv_bipush (v := 120) hx hb dX3_setField_25 (by decide) ?_
    refine zI_S (pre := (oW k b t M ++ kW cI k M ++ bW k B ++ sW cI b S ++ sW cI t T)) (wc := ([] : va_W)) (post := ([] : va_W)) (w1 := ([] : va_W)) ⟨hx, hb, hml, hown, hts⟩ (c_X3_isWithin l dC dI cI u 20 120) (va_cwS 3 hts gX3_setField_X3_isWithin rfl rfl rfl (by decide +kernel) ⟨Nat.le_of_ble_eq_true rfl, Nat.le_of_ble_eq_true rfl⟩) (by simp only [List.append_assoc, List.append_nil, List.nil_append]) hK hN hP hD hS hA rfl hl.1 rfl (Nat.le_of_ble_eq_true rfl) dX3_setField_27 ⟨Nat.le_of_ble_eq_true rfl, Nat.le_of_ble_eq_true rfl⟩ (fun H locs hP hD hS => ?_)
    have hP : va_P (dC, dI) vwCl (oW k b t M ++ kW cI k M ++ bW k B ++ sW cI b S ++ sW cI t T) H := by simpa only [List.append_assoc, List.append_nil, List.nil_append] using hP
    have hD : va_D A (oW k b t M ++ kW cI k M ++ bW k B ++ sW cI b S ++ sW cI t T) := by simpa only [List.append_assoc, List.append_nil, List.nil_append] using hD
    refine lv_if_eq (tgt := 44) hx hb dX3_setField_30 (by decide) (fun c_2 => ?_) (fun c_2 => ?_)
    · have hT9 : set_T S y f u v = 2 := by simp only [set_T, if_neg c_1, if_pos c_2]
      exact absurd (hT.symm.trans hT9) (by decide)
    · refine lv_iload hx hb dX3_setField_33 (lv_at hl 4 rfl) ?_
      refine lv_iconst (v := 0) hx hb dX3_setField_35 (by decide) ?_
      refine lv_bipush (v := 9) hx hb dX3_setField_36 (by decide) ?_
      refine zI_S (pre := (oW k b t M ++ kW cI k M ++ bW k B ++ sW cI b S ++ sW cI t T)) (wc := ([] : va_W)) (post := ([] : va_W)) (w1 := ([] : va_W)) ⟨hx, hb, hml, hown, hts⟩ (c_X3_isWithin l dC dI cI v 0 9) (va_cwS 3 hts gX3_setField_X3_isWithin rfl rfl rfl (by decide +kernel) ⟨Nat.le_of_ble_eq_true rfl, Nat.le_of_ble_eq_true rfl⟩) (by simp only [List.append_assoc, List.append_nil, List.nil_append]) hK hN hP hD hS hA rfl hl.1 rfl (Nat.le_of_ble_eq_true rfl) dX3_setField_38 ⟨Nat.le_of_ble_eq_true rfl, Nat.le_of_ble_eq_true rfl⟩ (fun H locs hP hD hS => ?_)
      have hP : va_P (dC, dI) vwCl (oW k b t M ++ kW cI k M ++ bW k B ++ sW cI b S ++ sW cI t T) H := by simpa only [List.append_assoc, List.append_nil, List.nil_append] using hP
      have hD : va_D A (oW k b t M ++ kW cI k M ++ bW k B ++ sW cI b S ++ sW cI t T) := by simpa only [List.append_assoc, List.append_nil, List.nil_append] using hD
      refine lv_if_ne (tgt := 54) hx hb dX3_setField_41 (by decide) (fun c_3 => ?_) (fun c_3 => ?_)
      · refine lv_aload_n hx hb dX3_setField_54 rfl (lv_at hl 0 rfl) ?_
        refine va_get (D := (dC, dI)) (ci := 3) (v := .ref (b 0)) (C := RX3) (T := TX3) (N := 6) hx hb hts hinX3 hown hK hP 0 rfl rfl 1 (by decide) hf21 (fun _ h9 => h9) rfl dX3_setField_55 ?_
        refine lv_iload_n hx hb dX3_setField_58 rfl (lv_at hl 1 rfl) ?_
        refine lv_iload_n hx hb dX3_setField_59 rfl (lv_at hl 2 rfl) ?_
        refine zI_V (pre := (oW k b t M ++ kW cI k M ++ bW k B)) (wc := sW cI b S) (post := (sW cI t T)) (w1 := sW cI b S) ⟨hx, hb, hml, hown, hts⟩ (c_X2_cellOf l dC dI cI b S y f) (cwV 2 hts gX3_setField_X2_cellOf rfl rfl rfl (by decide +kernel) ⟨Nat.le_of_ble_eq_true rfl, Nat.le_of_ble_eq_true rfl⟩) (by simp only [List.append_assoc, List.append_nil, List.nil_append]) hK hN (ci := 2) (q0 := 0) rfl rfl rfl hP hD hS hA rfl hl.1 rfl (Nat.le_of_ble_eq_true rfl) dX3_setField_60 ⟨Nat.le_of_ble_eq_true rfl, Nat.le_of_ble_eq_true rfl⟩ (fun H locs hP hD hS => ?_)
        have hP : va_P (dC, dI) vwCl (oW k b t M ++ kW cI k M ++ bW k B ++ sW cI b S ++ sW cI t T) H := by simpa only [List.append_assoc, List.append_nil, List.nil_append] using hP
        have hD : va_D A (oW k b t M ++ kW cI k M ++ bW k B ++ sW cI b S ++ sW cI t T) := by simpa only [List.append_assoc, List.append_nil, List.nil_append] using hD
        refine lv_istore (lv' := [(5, .int (sl_at S y f)), (0, .ref (k 0)), (1, .int y), (2, .int f), (3, .int u), (4, .int v)]) hx hb dX3_setField_63 hl (by decide) rfl (fun ls hl => ?_)
        refine lv_aload_n hx hb dX3_setField_65 rfl (lv_at hl 1 rfl) ?_
        refine va_get (D := (dC, dI)) (ci := 3) (v := .ref (b 0)) (C := RX3) (T := TX3) (N := 6) hx hb hts hinX3 hown hK hP 0 rfl rfl 1 (by decide) hf21 (fun _ h9 => h9) rfl dX3_setField_66 ?_
        refine va_get (D := (dC, dI)) (ci := 2) (v := .ref (b 3)) (C := RX2) (T := TX2) (N := 18) hx hb hts hinX2 hown hK hP 6 rfl rfl 7 (by decide) hf75 (fun _ h9 => h9) rfl dX3_setField_69 ?_
        refine lv_iload hx hb dX3_setField_72 (lv_at hl 0 rfl) ?_
        refine va_iald (cA := cI) (n := 64) (f := S 3) hx hb hK hP 9 0 rfl rfl (geo_in hG0 c_1) dX3_setField_74 ?_
        refine lv_istore (lv' := [(6, .int (S 3 (sl_at S y f).toNatClampNeg)), (5, .int (sl_at S y f)), (0, .ref (k 0)), (1, .int y), (2, .int f), (3, .int u), (4, .int v)]) hx hb dX3_setField_75 hl (by decide) rfl (fun ls hl => ?_)
        refine lv_aload_n hx hb dX3_setField_77 rfl (lv_at hl 2 rfl) ?_
        refine va_get (D := (dC, dI)) (ci := 3) (v := .ref (b 0)) (C := RX3) (T := TX3) (N := 6) hx hb hts hinX3 hown hK hP 0 rfl rfl 1 (by decide) hf21 (fun _ h9 => h9) rfl dX3_setField_78 ?_
        refine va_get (D := (dC, dI)) (ci := 2) (v := .ref (b 3)) (C := RX2) (T := TX2) (N := 18) hx hb hts hinX2 hown hK hP 6 rfl rfl 7 (by decide) hf75 (fun _ h9 => h9) rfl dX3_setField_81 ?_
        refine lv_iload hx hb dX3_setField_84 (lv_at hl 1 rfl) ?_
        refine lv_iload_n hx hb dX3_setField_86 rfl (lv_at hl 5 rfl) ?_
        obtain ⟨S4, eS4⟩ : ∃ z : sS, z = s_put S 3 ((sl_at S y f).toNatClampNeg) u := ⟨_, rfl⟩
        refine va_iast (cA := cI) (n := 64) (f := S 3) hx hb hK hP hD hS 9 0 rfl rfl (geo_in hG0 c_1) dX3_setField_87 (fun H locs hP hD hS => ?_)
        have hP : va_P (dC, dI) vwCl (oW k b t M ++ kW cI k M ++ bW k B ++ sW cI b S4 ++ sW cI t T) H := by rw [eS4]; exact hP
        have hD : va_D A (oW k b t M ++ kW cI k M ++ bW k B ++ sW cI b S4 ++ sW cI t T) := by rw [eS4]; exact hD
        have hGS4 : geo h w S4 := by rw [eS4]; exact geo_put hG0 (Or.inl (by decide)) _
        refine lv_aload_n hx hb dX3_setField_88 rfl (lv_at hl 2 rfl) ?_
        refine va_get (D := (dC, dI)) (ci := 3) (v := .ref (b 0)) (C := RX3) (T := TX3) (N := 6) hx hb hts hinX3 hown hK hP 0 rfl rfl 1 (by decide) hf21 (fun _ h9 => h9) rfl dX3_setField_89 ?_
        refine va_get (D := (dC, dI)) (ci := 2) (v := .ref (b 4)) (C := RX2) (T := TX2) (N := 18) hx hb hts hinX2 hown hK hP 6 rfl rfl 8 (by decide) hf79 (fun _ h9 => h9) rfl dX3_setField_92 ?_
        refine lv_iload hx hb dX3_setField_95 (lv_at hl 1 rfl) ?_
        refine lv_iload hx hb dX3_setField_97 (lv_at hl 6 rfl) ?_
        obtain ⟨S5, eS5⟩ : ∃ z : sS, z = s_put S4 4 ((sl_at S y f).toNatClampNeg) v := ⟨_, rfl⟩
        refine va_iast (cA := cI) (n := 64) (f := S4 4) hx hb hK hP hD hS 10 0 rfl rfl (geo_in hG0 c_1) dX3_setField_99 (fun H locs hP hD hS => ?_)
        have hP : va_P (dC, dI) vwCl (oW k b t M ++ kW cI k M ++ bW k B ++ sW cI b S5 ++ sW cI t T) H := by rw [eS5]; exact hP
        have hD : va_D A (oW k b t M ++ kW cI k M ++ bW k B ++ sW cI b S5 ++ sW cI t T) := by rw [eS5]; exact hD
        have hGS5 : geo h w S5 := by rw [eS5]; exact geo_put hGS4 (Or.inl (by decide)) _
        refine lv_aload_n hx hb dX3_setField_100 rfl (lv_at hl 2 rfl) ?_
        refine va_get (D := (dC, dI)) (ci := 3) (v := .ref (b 0)) (C := RX3) (T := TX3) (N := 6) hx hb hts hinX3 hown hK hP 0 rfl rfl 1 (by decide) hf21 (fun _ h9 => h9) rfl dX3_setField_101 ?_
        refine va_get (D := (dC, dI)) (ci := 2) (v := .ref (b 5)) (C := RX2) (T := TX2) (N := 18) hx hb hts hinX2 hown hK hP 6 rfl rfl 9 (by decide) hf82 (fun _ h9 => h9) rfl dX3_setField_104 ?_
        refine lv_iload hx hb dX3_setField_107 (lv_at hl 1 rfl) ?_
        refine lv_aload_n hx hb dX3_setField_109 rfl (lv_at hl 2 rfl) ?_
        refine va_get (D := (dC, dI)) (ci := 3) (v := .ref (b 0)) (C := RX3) (T := TX3) (N := 6) hx hb hts hinX3 hown hK hP 0 rfl rfl 1 (by decide) hf21 (fun _ h9 => h9) rfl dX3_setField_110 ?_
        refine va_get (D := (dC, dI)) (ci := 2) (v := .ref (b 5)) (C := RX2) (T := TX2) (N := 18) hx hb hts hinX2 hown hK hP 6 rfl rfl 9 (by decide) hf82 (fun _ h9 => h9) rfl dX3_setField_113 ?_
        refine lv_iload hx hb dX3_setField_116 (lv_at hl 1 rfl) ?_
        refine va_iald (cA := cI) (n := 64) (f := S5 5) hx hb hK hP 11 0 rfl rfl (geo_in hG0 c_1) dX3_setField_118 ?_
        refine lv_iload_n hx hb dX3_setField_119 rfl (lv_at hl 5 rfl) ?_
        refine va_mmin hx hb (hml.trans hl.1.symm) hown hm85 hs_min hi_Math hc_min (Nat.le_of_ble_eq_true rfl) (Nat.le_of_ble_eq_true rfl) (Nat.le_of_ble_eq_true rfl) (Nat.le_of_ble_eq_true rfl) dX3_setField_120 ?_
        obtain ⟨S6, eS6⟩ : ∃ z : sS, z = s_put S5 5 ((sl_at S y f).toNatClampNeg) (zmin (S5 5 (sl_at S y f).toNatClampNeg) u) := ⟨_, rfl⟩
        refine va_iast (cA := cI) (n := 64) (f := S5 5) hx hb hK hP hD hS 11 0 rfl rfl (geo_in hG0 c_1) dX3_setField_123 (fun H locs hP hD hS => ?_)
        have hP : va_P (dC, dI) vwCl (oW k b t M ++ kW cI k M ++ bW k B ++ sW cI b S6 ++ sW cI t T) H := by rw [eS6]; exact hP
        have hD : va_D A (oW k b t M ++ kW cI k M ++ bW k B ++ sW cI b S6 ++ sW cI t T) := by rw [eS6]; exact hD
        have hGS6 : geo h w S6 := by rw [eS6]; exact geo_put hGS5 (Or.inl (by decide)) _
        refine lv_iload hx hb dX3_setField_124 (lv_at hl 0 rfl) ?_
        have hZ : S6 = set_S S y f u v := (by (try rw [eS6]); (try rw [eS5]); (try rw [eS4]); first | done | rfl | (simp only [set_S, if_neg c_1, if_neg c_2, if_neg c_3]; done) | (unfold set_S; simp only [if_neg c_1, if_neg c_2, if_neg c_3]; done))
        rw [hZ] at hP hD
        exact zI_ret hx hb hr hlocks hP hD hS rfl (by (try rw [eS6]); (try rw [eS5]); (try rw [eS4]); first | done | rfl | (simp only [set_S, if_neg c_1, if_neg c_2, if_neg c_3]; done)) dX3_setField_126
      · have hT9 : set_T S y f u v = 2 := by simp only [set_T, if_neg c_1, if_neg c_2, if_pos c_3]
        exact absurd (hT.symm.trans hT9) (by decide)
  · have hT9 : set_T S y f u v = 1 := by simp only [set_T, if_pos c_1]
    exact absurd (hT.symm.trans hT9) (by decide)
set_option maxHeartbeats 4000000 in
set_option maxRecDepth 100000 in
theorem c_X3_moveStone (l : Launch) (dC : Nat → ClassId) (dI : Nat → Nat → Nat) (cI : ClassId) (k b t : Nat → Nat) (h w : Nat) (M B S T : sS) (y f x : Int32) (hG0 : geo h w S) (hT : mov_T S y f x = 0) : zI l yX3_moveStone wsX3_moveStone { frames := 1, cells := 0, slots := 0, locals := 22 } (dC, dI) cI [.ref (k 0), .int y, .int f, .int x] (oW k b t M ++ kW cI k M ++ bW k B ++ sW cI b S ++ sW cI t T) (oW k b t (mov_M M S y f x) ++ kW cI k (mov_M M S y f x) ++ bW k B ++ sW cI b (mov_S S y f x) ++ sW cI t T) (mov_V S y f x) := by
  refine zI_of (cc := cX3_moveStone) (maxL := 6) (ret := (some .int)) (by decide) rfl (Nat.le_of_ble_eq_true rfl) ?_
  intro p e s m below meth c A ls C0 hl
  obtain ⟨hx, hb, hr, hml, hown, hts, hlocks, hK, hN, hA, hP, hD, hS⟩ := C0
  have hown : s.vm.findClass RX3 = some m.cls := hown
  have hl : lv_has ls 6 [(0, .ref (k 0)), (1, .int y), (2, .int f), (3, .int x)] := hl
  have hf21 := hts (.fieldLink RX3 21 "PaddyTerraces" "slope" "LPaddyTerraces$Slope;") (by decide +kernel)
  have hf53 := hts (.fieldLink RX3 53 "PaddyTerraces" "moved" "I") (by decide +kernel)
  have hf75 := hts (.fieldLink RX3 75 "PaddyTerraces$Slope" "bank" "[I") (by decide +kernel)
  have hf82 := hts (.fieldLink RX3 82 "PaddyTerraces$Slope" "stone" "[I") (by decide +kernel)
  have hc_abs := hts (.code Lib.Math.abs.name Lib.Math.abs.code 1 (some .int)) (by decide +kernel)
  have hi_Math := hts (.initialized "java/lang/Math") (by decide +kernel)
  have hm92 := hts (.methodLink RX3 92 Lib.Math.abs.name) (by decide +kernel)
  have hs_abs := hts (.static Lib.Math.abs.name) (by decide +kernel)
  have hinX2 : ∀ w ∈ wsX20, w ∈ wsX3_moveStone := by decide +kernel
  have hinX3 : ∀ w ∈ wsX30, w ∈ wsX3_moveStone := by decide +kernel
  have hS0 := hS
  have hN64 := geo_hw hG0
  obtain ⟨-, -, hh2, hh8, hw2, hw8⟩ := id hG0
  refine lv_aload_n hx hb dX3_moveStone_0 rfl (lv_at hl 0 rfl) ?_
  refine va_get (D := (dC, dI)) (ci := 3) (v := .ref (b 0)) (C := RX3) (T := TX3) (N := 6) hx hb hts hinX3 hown hK hP 0 rfl rfl 1 (by decide) hf21 (fun _ h9 => h9) rfl dX3_moveStone_1 ?_
  refine lv_iload_n hx hb dX3_moveStone_4 rfl (lv_at hl 1 rfl) ?_
  refine lv_iload_n hx hb dX3_moveStone_5 rfl (lv_at hl 2 rfl) ?_
  refine zI_V (pre := (oW k b t M ++ kW cI k M ++ bW k B)) (wc := sW cI b S) (post := (sW cI t T)) (w1 := sW cI b S) ⟨hx, hb, hml, hown, hts⟩ (c_X2_hasField l dC dI cI b S y f) (cwV 2 hts gX3_moveStone_X2_hasField rfl rfl rfl (by decide +kernel) ⟨Nat.le_of_ble_eq_true rfl, Nat.le_of_ble_eq_true rfl⟩) (by simp only [List.append_assoc, List.append_nil, List.nil_append]) hK hN (ci := 2) (q0 := 0) rfl rfl rfl hP hD hS hA rfl hl.1 rfl (Nat.le_of_ble_eq_true rfl) dX3_moveStone_6 ⟨Nat.le_of_ble_eq_true rfl, Nat.le_of_ble_eq_true rfl⟩ (fun H locs hP hD hS => ?_)
  have hP : va_P (dC, dI) vwCl (oW k b t M ++ kW cI k M ++ bW k B ++ sW cI b S ++ sW cI t T) H := by simpa only [List.append_assoc, List.append_nil, List.nil_append] using hP
  have hD : va_D A (oW k b t M ++ kW cI k M ++ bW k B ++ sW cI b S ++ sW cI t T) := by simpa only [List.append_assoc, List.append_nil, List.nil_append] using hD
  refine lv_if_ne (tgt := 22) hx hb dX3_moveStone_9 (by decide) (fun c_1 => ?_) (fun c_1 => ?_)
  · refine lv_aload_n hx hb dX3_moveStone_22 rfl (lv_at hl 0 rfl) ?_
    refine va_get (D := (dC, dI)) (ci := 3) (v := .ref (b 0)) (C := RX3) (T := TX3) (N := 6) hx hb hts hinX3 hown hK hP 0 rfl rfl 1 (by decide) hf21 (fun _ h9 => h9) rfl dX3_moveStone_23 ?_
    refine lv_iload_n hx hb dX3_moveStone_26 rfl (lv_at hl 1 rfl) ?_
    refine lv_iload_n hx hb dX3_moveStone_27 rfl (lv_at hl 2 rfl) ?_
    refine zI_V (pre := (oW k b t M ++ kW cI k M ++ bW k B)) (wc := sW cI b S) (post := (sW cI t T)) (w1 := sW cI b S) ⟨hx, hb, hml, hown, hts⟩ (c_X2_cellOf l dC dI cI b S y f) (cwV 2 hts gX3_moveStone_X2_cellOf rfl rfl rfl (by decide +kernel) ⟨Nat.le_of_ble_eq_true rfl, Nat.le_of_ble_eq_true rfl⟩) (by simp only [List.append_assoc, List.append_nil, List.nil_append]) hK hN (ci := 2) (q0 := 0) rfl rfl rfl hP hD hS hA rfl hl.1 rfl (Nat.le_of_ble_eq_true rfl) dX3_moveStone_28 ⟨Nat.le_of_ble_eq_true rfl, Nat.le_of_ble_eq_true rfl⟩ (fun H locs hP hD hS => ?_)
    have hP : va_P (dC, dI) vwCl (oW k b t M ++ kW cI k M ++ bW k B ++ sW cI b S ++ sW cI t T) H := by simpa only [List.append_assoc, List.append_nil, List.nil_append] using hP
    have hD : va_D A (oW k b t M ++ kW cI k M ++ bW k B ++ sW cI b S ++ sW cI t T) := by simpa only [List.append_assoc, List.append_nil, List.nil_append] using hD
    refine lv_istore (lv' := [(4, .int (sl_at S y f)), (0, .ref (k 0)), (1, .int y), (2, .int f), (3, .int x)]) hx hb dX3_moveStone_31 hl (by decide) rfl (fun ls hl => ?_)
    refine lv_iload_n hx hb dX3_moveStone_33 rfl (lv_at hl 4 rfl) ?_
    refine lv_iconst (v := 0) hx hb dX3_moveStone_34 (by decide) ?_
    refine lv_aload_n hx hb dX3_moveStone_35 rfl (lv_at hl 1 rfl) ?_
    refine va_get (D := (dC, dI)) (ci := 3) (v := .ref (b 0)) (C := RX3) (T := TX3) (N := 6) hx hb hts hinX3 hown hK hP 0 rfl rfl 1 (by decide) hf21 (fun _ h9 => h9) rfl dX3_moveStone_36 ?_
    refine va_get (D := (dC, dI)) (ci := 2) (v := .ref (b 3)) (C := RX2) (T := TX2) (N := 18) hx hb hts hinX2 hown hK hP 6 rfl rfl 7 (by decide) hf75 (fun _ h9 => h9) rfl dX3_moveStone_39 ?_
    refine lv_iload hx hb dX3_moveStone_42 (lv_at hl 0 rfl) ?_
    refine va_iald (cA := cI) (n := 64) (f := S 3) hx hb hK hP 9 0 rfl rfl (geo_in hG0 c_1) dX3_moveStone_44 ?_
    refine zI_S (pre := (oW k b t M ++ kW cI k M ++ bW k B ++ sW cI b S ++ sW cI t T)) (wc := ([] : va_W)) (post := ([] : va_W)) (w1 := ([] : va_W)) ⟨hx, hb, hml, hown, hts⟩ (c_X3_isWithin l dC dI cI x 0 (S 3 (sl_at S y f).toNatClampNeg)) (va_cwS 3 hts gX3_moveStone_X3_isWithin rfl rfl rfl (by decide +kernel) ⟨Nat.le_of_ble_eq_true rfl, Nat.le_of_ble_eq_true rfl⟩) (by simp only [List.append_assoc, List.append_nil, List.nil_append]) hK hN hP hD hS hA rfl hl.1 rfl (Nat.le_of_ble_eq_true rfl) dX3_moveStone_45 ⟨Nat.le_of_ble_eq_true rfl, Nat.le_of_ble_eq_true rfl⟩ (fun H locs hP hD hS => ?_)
    have hP : va_P (dC, dI) vwCl (oW k b t M ++ kW cI k M ++ bW k B ++ sW cI b S ++ sW cI t T) H := by simpa only [List.append_assoc, List.append_nil, List.nil_append] using hP
    have hD : va_D A (oW k b t M ++ kW cI k M ++ bW k B ++ sW cI b S ++ sW cI t T) := by simpa only [List.append_assoc, List.append_nil, List.nil_append] using hD
    refine lv_if_ne (tgt := 61) hx hb dX3_moveStone_48 (by decide) (fun c_2 => ?_) (fun c_2 => ?_)
    · refine lv_iload_n hx hb dX3_moveStone_61 rfl (lv_at hl 4 rfl) ?_
      refine lv_aload_n hx hb dX3_moveStone_62 rfl (lv_at hl 1 rfl) ?_
      refine va_get (D := (dC, dI)) (ci := 3) (v := .ref (b 0)) (C := RX3) (T := TX3) (N := 6) hx hb hts hinX3 hown hK hP 0 rfl rfl 1 (by decide) hf21 (fun _ h9 => h9) rfl dX3_moveStone_63 ?_
      refine va_get (D := (dC, dI)) (ci := 2) (v := .ref (b 5)) (C := RX2) (T := TX2) (N := 18) hx hb hts hinX2 hown hK hP 6 rfl rfl 9 (by decide) hf82 (fun _ h9 => h9) rfl dX3_moveStone_66 ?_
      refine lv_iload hx hb dX3_moveStone_69 (lv_at hl 0 rfl) ?_
      refine va_iald (cA := cI) (n := 64) (f := S 5) hx hb hK hP 11 0 rfl rfl (geo_in hG0 c_1) dX3_moveStone_71 ?_
      refine lv_isub hx hb dX3_moveStone_72 ?_
      refine lv_istore (lv' := [(5, .int (x - (S 5 (sl_at S y f).toNatClampNeg))), (4, .int (sl_at S y f)), (0, .ref (k 0)), (1, .int y), (2, .int f), (3, .int x)]) hx hb dX3_moveStone_73 hl (by decide) rfl (fun ls hl => ?_)
      refine lv_aload_n hx hb dX3_moveStone_75 rfl (lv_at hl 2 rfl) ?_
      refine va_get (D := (dC, dI)) (ci := 3) (v := .ref (b 0)) (C := RX3) (T := TX3) (N := 6) hx hb hts hinX3 hown hK hP 0 rfl rfl 1 (by decide) hf21 (fun _ h9 => h9) rfl dX3_moveStone_76 ?_
      refine va_get (D := (dC, dI)) (ci := 2) (v := .ref (b 5)) (C := RX2) (T := TX2) (N := 18) hx hb hts hinX2 hown hK hP 6 rfl rfl 9 (by decide) hf82 (fun _ h9 => h9) rfl dX3_moveStone_79 ?_
      refine lv_iload hx hb dX3_moveStone_82 (lv_at hl 1 rfl) ?_
      refine lv_iload_n hx hb dX3_moveStone_84 rfl (lv_at hl 5 rfl) ?_
      obtain ⟨S3, eS3⟩ : ∃ z : sS, z = s_put S 5 ((sl_at S y f).toNatClampNeg) x := ⟨_, rfl⟩
      refine va_iast (cA := cI) (n := 64) (f := S 5) hx hb hK hP hD hS 11 0 rfl rfl (geo_in hG0 c_1) dX3_moveStone_85 (fun H locs hP hD hS => ?_)
      have hP : va_P (dC, dI) vwCl (oW k b t M ++ kW cI k M ++ bW k B ++ sW cI b S3 ++ sW cI t T) H := by rw [eS3]; exact hP
      have hD : va_D A (oW k b t M ++ kW cI k M ++ bW k B ++ sW cI b S3 ++ sW cI t T) := by rw [eS3]; exact hD
      have hGS3 : geo h w S3 := by rw [eS3]; exact geo_put hG0 (Or.inl (by decide)) _
      refine lv_aload_n hx hb dX3_moveStone_86 rfl (lv_at hl 2 rfl) ?_
      refine lv_dup hx hb dX3_moveStone_87 rfl ?_
      refine va_get (D := (dC, dI)) (ci := 3) (v := .int (M 0 1)) (C := RX3) (T := TX3) (N := 6) hx hb hts hinX3 hown hK hP 0 rfl rfl 5 (by decide) hf53 (fun _ h9 => h9) rfl dX3_moveStone_88 ?_
      refine lv_iload hx hb dX3_moveStone_91 (lv_at hl 0 rfl) ?_
      refine va_mabs hx hb (hml.trans hl.1.symm) hown hm92 hs_abs hi_Math hc_abs (Nat.le_of_ble_eq_true rfl) (Nat.le_of_ble_eq_true rfl) (Nat.le_of_ble_eq_true rfl) (Nat.le_of_ble_eq_true rfl) dX3_moveStone_93 ?_
      refine lv_iadd hx hb dX3_moveStone_96 ?_
      obtain ⟨S4, eS4⟩ : ∃ z : sS, z = s_put M 0 1 ((M 0 1) + (zabs (x - (S 5 (sl_at S y f).toNatClampNeg)))) := ⟨_, rfl⟩
      refine va_put (D := (dC, dI)) (ci := 3) (v := .int ((M 0 1) + (zabs (x - (S 5 (sl_at S y f).toNatClampNeg))))) (ty := .int) (C := RX3) (T := TX3) (N := 6) hx hb hts hinX3 tyX3 tyX3_ok nmX3 hown hK hP hD hS 0 rfl rfl 5 (by decide) hf53 (fun _ h9 => h9) rfl (by decide +kernel) rfl rfl (Nat.le_of_ble_eq_true rfl) dX3_moveStone_97 (fun H locs hP hD hS => ?_)
      have hP : va_P (dC, dI) vwCl (oW k b t S4 ++ kW cI k S4 ++ bW k B ++ sW cI b S3 ++ sW cI t T) H := by rw [eS4]; exact hP
      have hD : va_D A (oW k b t S4 ++ kW cI k S4 ++ bW k B ++ sW cI b S3 ++ sW cI t T) := by rw [eS4]; exact hD
      refine lv_iload hx hb dX3_moveStone_100 (lv_at hl 0 rfl) ?_
      have hZ : S3 = mov_S S y f x := (by (try rw [eS4]); (try rw [eS3]); first | done | rfl | (simp only [mov_S, mov_M, mov_V, if_neg c_1, if_neg c_2]; done) | (unfold mov_S; simp only [if_neg c_1, if_neg c_2]; done))
      rw [hZ] at hP hD
      have hZ : S4 = mov_M M S y f x := (by (try rw [eS4]); (try rw [eS3]); first | done | rfl | (simp only [mov_S, mov_M, mov_V, if_neg c_1, if_neg c_2]; done) | (unfold mov_S; simp only [if_neg c_1, if_neg c_2]; done))
      rw [hZ] at hP hD
      exact zI_ret hx hb hr hlocks hP hD hS rfl (by (try rw [eS4]); (try rw [eS3]); first | done | rfl | (simp only [mov_S, mov_M, mov_V, if_neg c_1, if_neg c_2]; done)) dX3_moveStone_102
    · have hT9 : mov_T S y f x = 2 := by simp only [mov_T, if_neg c_1, if_pos c_2]
      exact absurd (hT.symm.trans hT9) (by decide)
  · have hT9 : mov_T S y f x = 1 := by simp only [mov_T, if_pos c_1]
    exact absurd (hT.symm.trans hT9) (by decide)
set_option maxHeartbeats 4000000 in
set_option maxRecDepth 100000 in
theorem c_X3_turn (l : Launch) (dC : Nat → ClassId) (dI : Nat → Nat → Nat) (cI : ClassId) (k b t : Nat → Nat) (h w : Nat) (M B S T : sS) (y f x : Int32) (hG0 : geo h w S) (hT : trn_T S y f x = 0) : zI l yX3_turn wsX3_turn { frames := 1, cells := 0, slots := 0, locals := 22 } (dC, dI) cI [.ref (k 0), .int y, .int f, .int x] (oW k b t M ++ kW cI k M ++ bW k B ++ sW cI b S ++ sW cI t T) (oW k b t M ++ kW cI k M ++ bW k B ++ sW cI b (trn_S S y f x) ++ sW cI t T) (S 6 (sl_k S y f)) := by
  refine zI_of (cc := cX3_turn) (maxL := 6) (ret := (some .int)) (by decide) rfl (Nat.le_of_ble_eq_true rfl) ?_
  intro p e s m below meth c A ls C0 hl
  obtain ⟨hx, hb, hr, hml, hown, hts, hlocks, hK, hN, hA, hP, hD, hS⟩ := C0
  have hown : s.vm.findClass RX3 = some m.cls := hown
  have hl : lv_has ls 6 [(0, .ref (k 0)), (1, .int y), (2, .int f), (3, .int x)] := hl
  have hf21 := hts (.fieldLink RX3 21 "PaddyTerraces" "slope" "LPaddyTerraces$Slope;") (by decide +kernel)
  have hf98 := hts (.fieldLink RX3 98 "PaddyTerraces$Slope" "side" "[I") (by decide +kernel)
  have hinX2 : ∀ w ∈ wsX20, w ∈ wsX3_turn := by decide +kernel
  have hinX3 : ∀ w ∈ wsX30, w ∈ wsX3_turn := by decide +kernel
  have hS0 := hS
  have hN64 := geo_hw hG0
  obtain ⟨-, -, hh2, hh8, hw2, hw8⟩ := id hG0
  refine lv_aload_n hx hb dX3_turn_0 rfl (lv_at hl 0 rfl) ?_
  refine va_get (D := (dC, dI)) (ci := 3) (v := .ref (b 0)) (C := RX3) (T := TX3) (N := 6) hx hb hts hinX3 hown hK hP 0 rfl rfl 1 (by decide) hf21 (fun _ h9 => h9) rfl dX3_turn_1 ?_
  refine lv_iload_n hx hb dX3_turn_4 rfl (lv_at hl 1 rfl) ?_
  refine lv_iload_n hx hb dX3_turn_5 rfl (lv_at hl 2 rfl) ?_
  refine zI_V (pre := (oW k b t M ++ kW cI k M ++ bW k B)) (wc := sW cI b S) (post := (sW cI t T)) (w1 := sW cI b S) ⟨hx, hb, hml, hown, hts⟩ (c_X2_hasField l dC dI cI b S y f) (cwV 2 hts gX3_turn_X2_hasField rfl rfl rfl (by decide +kernel) ⟨Nat.le_of_ble_eq_true rfl, Nat.le_of_ble_eq_true rfl⟩) (by simp only [List.append_assoc, List.append_nil, List.nil_append]) hK hN (ci := 2) (q0 := 0) rfl rfl rfl hP hD hS hA rfl hl.1 rfl (Nat.le_of_ble_eq_true rfl) dX3_turn_6 ⟨Nat.le_of_ble_eq_true rfl, Nat.le_of_ble_eq_true rfl⟩ (fun H locs hP hD hS => ?_)
  have hP : va_P (dC, dI) vwCl (oW k b t M ++ kW cI k M ++ bW k B ++ sW cI b S ++ sW cI t T) H := by simpa only [List.append_assoc, List.append_nil, List.nil_append] using hP
  have hD : va_D A (oW k b t M ++ kW cI k M ++ bW k B ++ sW cI b S ++ sW cI t T) := by simpa only [List.append_assoc, List.append_nil, List.nil_append] using hD
  refine lv_if_ne (tgt := 22) hx hb dX3_turn_9 (by decide) (fun c_1 => ?_) (fun c_1 => ?_)
  · refine lv_iload_n hx hb dX3_turn_22 rfl (lv_at hl 3 rfl) ?_
    refine lv_iconst (v := (-1)) hx hb dX3_turn_23 (by decide) ?_
    refine lv_iconst (v := 1) hx hb dX3_turn_24 (by decide) ?_
    refine zI_S (pre := (oW k b t M ++ kW cI k M ++ bW k B ++ sW cI b S ++ sW cI t T)) (wc := ([] : va_W)) (post := ([] : va_W)) (w1 := ([] : va_W)) ⟨hx, hb, hml, hown, hts⟩ (c_X3_isWithin l dC dI cI x (-1) 1) (va_cwS 3 hts gX3_turn_X3_isWithin rfl rfl rfl (by decide +kernel) ⟨Nat.le_of_ble_eq_true rfl, Nat.le_of_ble_eq_true rfl⟩) (by simp only [List.append_assoc, List.append_nil, List.nil_append]) hK hN hP hD hS hA rfl hl.1 rfl (Nat.le_of_ble_eq_true rfl) dX3_turn_25 ⟨Nat.le_of_ble_eq_true rfl, Nat.le_of_ble_eq_true rfl⟩ (fun H locs hP hD hS => ?_)
    have hP : va_P (dC, dI) vwCl (oW k b t M ++ kW cI k M ++ bW k B ++ sW cI b S ++ sW cI t T) H := by simpa only [List.append_assoc, List.append_nil, List.nil_append] using hP
    have hD : va_D A (oW k b t M ++ kW cI k M ++ bW k B ++ sW cI b S ++ sW cI t T) := by simpa only [List.append_assoc, List.append_nil, List.nil_append] using hD
    refine lv_if_ne (tgt := 41) hx hb dX3_turn_28 (by decide) (fun c_2 => ?_) (fun c_2 => ?_)
    · refine lv_aload_n hx hb dX3_turn_41 rfl (lv_at hl 0 rfl) ?_
      refine va_get (D := (dC, dI)) (ci := 3) (v := .ref (b 0)) (C := RX3) (T := TX3) (N := 6) hx hb hts hinX3 hown hK hP 0 rfl rfl 1 (by decide) hf21 (fun _ h9 => h9) rfl dX3_turn_42 ?_
      refine lv_iload_n hx hb dX3_turn_45 rfl (lv_at hl 1 rfl) ?_
      refine lv_iload_n hx hb dX3_turn_46 rfl (lv_at hl 2 rfl) ?_
      refine zI_V (pre := (oW k b t M ++ kW cI k M ++ bW k B)) (wc := sW cI b S) (post := (sW cI t T)) (w1 := sW cI b S) ⟨hx, hb, hml, hown, hts⟩ (c_X2_cellOf l dC dI cI b S y f) (cwV 2 hts gX3_turn_X2_cellOf rfl rfl rfl (by decide +kernel) ⟨Nat.le_of_ble_eq_true rfl, Nat.le_of_ble_eq_true rfl⟩) (by simp only [List.append_assoc, List.append_nil, List.nil_append]) hK hN (ci := 2) (q0 := 0) rfl rfl rfl hP hD hS hA rfl hl.1 rfl (Nat.le_of_ble_eq_true rfl) dX3_turn_47 ⟨Nat.le_of_ble_eq_true rfl, Nat.le_of_ble_eq_true rfl⟩ (fun H locs hP hD hS => ?_)
      have hP : va_P (dC, dI) vwCl (oW k b t M ++ kW cI k M ++ bW k B ++ sW cI b S ++ sW cI t T) H := by simpa only [List.append_assoc, List.append_nil, List.nil_append] using hP
      have hD : va_D A (oW k b t M ++ kW cI k M ++ bW k B ++ sW cI b S ++ sW cI t T) := by simpa only [List.append_assoc, List.append_nil, List.nil_append] using hD
      refine lv_istore (lv' := [(4, .int (sl_at S y f)), (0, .ref (k 0)), (1, .int y), (2, .int f), (3, .int x)]) hx hb dX3_turn_50 hl (by decide) rfl (fun ls hl => ?_)
      refine lv_aload_n hx hb dX3_turn_52 rfl (lv_at hl 1 rfl) ?_
      refine va_get (D := (dC, dI)) (ci := 3) (v := .ref (b 0)) (C := RX3) (T := TX3) (N := 6) hx hb hts hinX3 hown hK hP 0 rfl rfl 1 (by decide) hf21 (fun _ h9 => h9) rfl dX3_turn_53 ?_
      refine va_get (D := (dC, dI)) (ci := 2) (v := .ref (b 6)) (C := RX2) (T := TX2) (N := 18) hx hb hts hinX2 hown hK hP 6 rfl rfl 10 (by decide) hf98 (fun _ h9 => h9) rfl dX3_turn_56 ?_
      refine lv_iload hx hb dX3_turn_59 (lv_at hl 0 rfl) ?_
      refine va_iald (cA := cI) (n := 64) (f := S 6) hx hb hK hP 12 0 rfl rfl (geo_in hG0 c_1) dX3_turn_61 ?_
      refine lv_istore (lv' := [(5, .int (S 6 (sl_at S y f).toNatClampNeg)), (4, .int (sl_at S y f)), (0, .ref (k 0)), (1, .int y), (2, .int f), (3, .int x)]) hx hb dX3_turn_62 hl (by decide) rfl (fun ls hl => ?_)
      refine lv_aload_n hx hb dX3_turn_64 rfl (lv_at hl 2 rfl) ?_
      refine va_get (D := (dC, dI)) (ci := 3) (v := .ref (b 0)) (C := RX3) (T := TX3) (N := 6) hx hb hts hinX3 hown hK hP 0 rfl rfl 1 (by decide) hf21 (fun _ h9 => h9) rfl dX3_turn_65 ?_
      refine va_get (D := (dC, dI)) (ci := 2) (v := .ref (b 6)) (C := RX2) (T := TX2) (N := 18) hx hb hts hinX2 hown hK hP 6 rfl rfl 10 (by decide) hf98 (fun _ h9 => h9) rfl dX3_turn_68 ?_
      refine lv_iload hx hb dX3_turn_71 (lv_at hl 1 rfl) ?_
      refine lv_iload_n hx hb dX3_turn_73 rfl (lv_at hl 5 rfl) ?_
      obtain ⟨S3, eS3⟩ : ∃ z : sS, z = s_put S 6 ((sl_at S y f).toNatClampNeg) x := ⟨_, rfl⟩
      refine va_iast (cA := cI) (n := 64) (f := S 6) hx hb hK hP hD hS 12 0 rfl rfl (geo_in hG0 c_1) dX3_turn_74 (fun H locs hP hD hS => ?_)
      have hP : va_P (dC, dI) vwCl (oW k b t M ++ kW cI k M ++ bW k B ++ sW cI b S3 ++ sW cI t T) H := by rw [eS3]; exact hP
      have hD : va_D A (oW k b t M ++ kW cI k M ++ bW k B ++ sW cI b S3 ++ sW cI t T) := by rw [eS3]; exact hD
      have hGS3 : geo h w S3 := by rw [eS3]; exact geo_put hG0 (Or.inl (by decide)) _
      refine lv_iload hx hb dX3_turn_75 (lv_at hl 0 rfl) ?_
      have hZ : S3 = trn_S S y f x := (by (try rw [eS3]); first | done | rfl | (simp only [trn_S, if_neg c_1, if_neg c_2]; done) | (unfold trn_S; simp only [if_neg c_1, if_neg c_2]; done))
      rw [hZ] at hP hD
      exact zI_ret hx hb hr hlocks hP hD hS rfl (by (try rw [eS3]); first | done | rfl | (simp only [trn_S, if_neg c_1, if_neg c_2]; done)) dX3_turn_77
    · have hT9 : trn_T S y f x = 2 := by simp only [trn_T, if_neg c_1, if_pos c_2]
      exact absurd (hT.symm.trans hT9) (by decide)
  · have hT9 : trn_T S y f x = 1 := by simp only [trn_T, if_pos c_1]
    exact absurd (hT.symm.trans hT9) (by decide)
set_option maxHeartbeats 4000000 in
set_option maxRecDepth 100000 in
theorem c_X3_setShare (l : Launch) (dC : Nat → ClassId) (dI : Nat → Nat → Nat) (cI : ClassId) (k b t : Nat → Nat) (h w : Nat) (M B S T : sS) (f x : Int32) (hG0 : geo h w S) (hT : shr_T S f x = 0) : zI l yX3_setShare wsX3_setShare { frames := 1, cells := 0, slots := 0, locals := 22 } (dC, dI) cI [.ref (k 0), .int f, .int x] (oW k b t M ++ kW cI k M ++ bW k B ++ sW cI b S ++ sW cI t T) (oW k b t M ++ kW cI k M ++ bW k B ++ sW cI b (shr_S S f x) ++ sW cI t T) (S 1 f.toNatClampNeg) := by
  refine zI_of (cc := cX3_setShare) (maxL := 4) (ret := (some .int)) (by decide) rfl (Nat.le_of_ble_eq_true rfl) ?_
  intro p e s m below meth c A ls C0 hl
  obtain ⟨hx, hb, hr, hml, hown, hts, hlocks, hK, hN, hA, hP, hD, hS⟩ := C0
  have hown : s.vm.findClass RX3 = some m.cls := hown
  have hl : lv_has ls 4 [(0, .ref (k 0)), (1, .int f), (2, .int x)] := hl
  have hf21 := hts (.fieldLink RX3 21 "PaddyTerraces" "slope" "LPaddyTerraces$Slope;") (by decide +kernel)
  have hf105 := hts (.fieldLink RX3 105 "PaddyTerraces$Slope" "share" "[I") (by decide +kernel)
  have hinX2 : ∀ w ∈ wsX20, w ∈ wsX3_setShare := by decide +kernel
  have hinX3 : ∀ w ∈ wsX30, w ∈ wsX3_setShare := by decide +kernel
  have hS0 := hS
  have hN64 := geo_hw hG0
  obtain ⟨-, -, hh2, hh8, hw2, hw8⟩ := id hG0
  refine lv_aload_n hx hb dX3_setShare_0 rfl (lv_at hl 0 rfl) ?_
  refine va_get (D := (dC, dI)) (ci := 3) (v := .ref (b 0)) (C := RX3) (T := TX3) (N := 6) hx hb hts hinX3 hown hK hP 0 rfl rfl 1 (by decide) hf21 (fun _ h9 => h9) rfl dX3_setShare_1 ?_
  refine lv_iconst (v := 0) hx hb dX3_setShare_4 (by decide) ?_
  refine lv_iload_n hx hb dX3_setShare_5 rfl (lv_at hl 1 rfl) ?_
  refine zI_V (pre := (oW k b t M ++ kW cI k M ++ bW k B)) (wc := sW cI b S) (post := (sW cI t T)) (w1 := sW cI b S) ⟨hx, hb, hml, hown, hts⟩ (c_X2_hasField l dC dI cI b S 0 f) (cwV 2 hts gX3_setShare_X2_hasField rfl rfl rfl (by decide +kernel) ⟨Nat.le_of_ble_eq_true rfl, Nat.le_of_ble_eq_true rfl⟩) (by simp only [List.append_assoc, List.append_nil, List.nil_append]) hK hN (ci := 2) (q0 := 0) rfl rfl rfl hP hD hS hA rfl hl.1 rfl (Nat.le_of_ble_eq_true rfl) dX3_setShare_6 ⟨Nat.le_of_ble_eq_true rfl, Nat.le_of_ble_eq_true rfl⟩ (fun H locs hP hD hS => ?_)
  have hP : va_P (dC, dI) vwCl (oW k b t M ++ kW cI k M ++ bW k B ++ sW cI b S ++ sW cI t T) H := by simpa only [List.append_assoc, List.append_nil, List.nil_append] using hP
  have hD : va_D A (oW k b t M ++ kW cI k M ++ bW k B ++ sW cI b S ++ sW cI t T) := by simpa only [List.append_assoc, List.append_nil, List.nil_append] using hD
  refine lv_if_ne (tgt := 22) hx hb dX3_setShare_9 (by decide) (fun c_1 => ?_) (fun c_1 => ?_)
  · refine lv_iload_n hx hb dX3_setShare_22 rfl (lv_at hl 2 rfl) ?_
    refine lv_iconst (v := 0) hx hb dX3_setShare_23 (by decide) ?_
    refine lv_bipush (v := 9) hx hb dX3_setShare_24 (by decide) ?_
    refine zI_S (pre := (oW k b t M ++ kW cI k M ++ bW k B ++ sW cI b S ++ sW cI t T)) (wc := ([] : va_W)) (post := ([] : va_W)) (w1 := ([] : va_W)) ⟨hx, hb, hml, hown, hts⟩ (c_X3_isWithin l dC dI cI x 0 9) (va_cwS 3 hts gX3_setShare_X3_isWithin rfl rfl rfl (by decide +kernel) ⟨Nat.le_of_ble_eq_true rfl, Nat.le_of_ble_eq_true rfl⟩) (by simp only [List.append_assoc, List.append_nil, List.nil_append]) hK hN hP hD hS hA rfl hl.1 rfl (Nat.le_of_ble_eq_true rfl) dX3_setShare_26 ⟨Nat.le_of_ble_eq_true rfl, Nat.le_of_ble_eq_true rfl⟩ (fun H locs hP hD hS => ?_)
    have hP : va_P (dC, dI) vwCl (oW k b t M ++ kW cI k M ++ bW k B ++ sW cI b S ++ sW cI t T) H := by simpa only [List.append_assoc, List.append_nil, List.nil_append] using hP
    have hD : va_D A (oW k b t M ++ kW cI k M ++ bW k B ++ sW cI b S ++ sW cI t T) := by simpa only [List.append_assoc, List.append_nil, List.nil_append] using hD
    refine lv_if_ne (tgt := 42) hx hb dX3_setShare_29 (by decide) (fun c_2 => ?_) (fun c_2 => ?_)
    · refine lv_aload_n hx hb dX3_setShare_42 rfl (lv_at hl 0 rfl) ?_
      refine va_get (D := (dC, dI)) (ci := 3) (v := .ref (b 0)) (C := RX3) (T := TX3) (N := 6) hx hb hts hinX3 hown hK hP 0 rfl rfl 1 (by decide) hf21 (fun _ h9 => h9) rfl dX3_setShare_43 ?_
      refine va_get (D := (dC, dI)) (ci := 2) (v := .ref (b 1)) (C := RX2) (T := TX2) (N := 18) hx hb hts hinX2 hown hK hP 6 rfl rfl 5 (by decide) hf105 (fun _ h9 => h9) rfl dX3_setShare_46 ?_
      refine lv_iload_n hx hb dX3_setShare_49 rfl (lv_at hl 1 rfl) ?_
      refine va_iald (cA := cI) (n := 8) (f := S 1) hx hb hK hP 7 0 rfl rfl (has_in hG0 c_1) dX3_setShare_50 ?_
      refine lv_istore_n (lv' := [(3, .int (S 1 f.toNatClampNeg)), (0, .ref (k 0)), (1, .int f), (2, .int x)]) hx hb dX3_setShare_51 rfl hl (by decide) rfl (fun ls hl => ?_)
      refine lv_aload_n hx hb dX3_setShare_52 rfl (lv_at hl 1 rfl) ?_
      refine va_get (D := (dC, dI)) (ci := 3) (v := .ref (b 0)) (C := RX3) (T := TX3) (N := 6) hx hb hts hinX3 hown hK hP 0 rfl rfl 1 (by decide) hf21 (fun _ h9 => h9) rfl dX3_setShare_53 ?_
      refine va_get (D := (dC, dI)) (ci := 2) (v := .ref (b 1)) (C := RX2) (T := TX2) (N := 18) hx hb hts hinX2 hown hK hP 6 rfl rfl 5 (by decide) hf105 (fun _ h9 => h9) rfl dX3_setShare_56 ?_
      refine lv_iload_n hx hb dX3_setShare_59 rfl (lv_at hl 2 rfl) ?_
      refine lv_iload_n hx hb dX3_setShare_60 rfl (lv_at hl 3 rfl) ?_
      obtain ⟨S3, eS3⟩ : ∃ z : sS, z = s_put S 1 f.toNatClampNeg x := ⟨_, rfl⟩
      refine va_iast (cA := cI) (n := 8) (f := S 1) hx hb hK hP hD hS 7 0 rfl rfl (has_in hG0 c_1) dX3_setShare_61 (fun H locs hP hD hS => ?_)
      have hP : va_P (dC, dI) vwCl (oW k b t M ++ kW cI k M ++ bW k B ++ sW cI b S3 ++ sW cI t T) H := by rw [eS3]; exact hP
      have hD : va_D A (oW k b t M ++ kW cI k M ++ bW k B ++ sW cI b S3 ++ sW cI t T) := by rw [eS3]; exact hD
      have hGS3 : geo h w S3 := by rw [eS3]; exact geo_put hG0 (Or.inl (by decide)) _
      refine lv_iload_n hx hb dX3_setShare_62 rfl (lv_at hl 0 rfl) ?_
      have hZ : S3 = shr_S S f x := (by (try rw [eS3]); first | done | rfl | (simp only [shr_S, if_neg c_1, if_neg c_2]; done) | (unfold shr_S; simp only [if_neg c_1, if_neg c_2]; done))
      rw [hZ] at hP hD
      exact zI_ret hx hb hr hlocks hP hD hS rfl rfl dX3_setShare_63
    · have hT9 : shr_T S f x = 2 := by simp only [shr_T, if_neg c_1, if_pos c_2]
      exact absurd (hT.symm.trans hT9) (by decide)
  · have hT9 : shr_T S f x = 1 := by simp only [shr_T, if_pos c_1]
    exact absurd (hT.symm.trans hT9) (by decide)
set_option maxHeartbeats 4000000 in
set_option maxRecDepth 100000 in
theorem c_X3_setDay (l : Launch) (dC : Nat → ClassId) (dI : Nat → Nat → Nat) (cI : ClassId) (k b t : Nat → Nat) (h w : Nat) (M B S T : sS) (i u v x : Int32)  (hT : day_T i u v x = 0) : zI l yX3_setDay wsX3_setDay { frames := 1, cells := 0, slots := 0, locals := 22 } (dC, dI) cI [.ref (k 0), .int i, .int u, .int v, .int x] (oW k b t M ++ kW cI k M ++ bW k B ++ sW cI b S ++ sW cI t T) (oW k b t (day_M M i u v x) ++ kW cI k (day_M M i u v x) ++ bW k B ++ sW cI b S ++ sW cI t T) (M 2 i.toNatClampNeg) := by
  refine zI_of (cc := cX3_setDay) (maxL := 6) (ret := (some .int)) (by decide) rfl (Nat.le_of_ble_eq_true rfl) ?_
  intro p e s m below meth c A ls C0 hl
  obtain ⟨hx, hb, hr, hml, hown, hts, hlocks, hK, hN, hA, hP, hD, hS⟩ := C0
  have hown : s.vm.findClass RX3 = some m.cls := hown
  have hl : lv_has ls 6 [(0, .ref (k 0)), (1, .int i), (2, .int u), (3, .int v), (4, .int x)] := hl
  have hf10 := hts (.fieldLink RX3 10 "PaddyTerraces" "calendar" "LPaddyTerraces$Calendar;") (by decide +kernel)
  have hf112 := hts (.fieldLink RX3 112 "PaddyTerraces$Calendar" "spring" "[I") (by decide +kernel)
  have hf115 := hts (.fieldLink RX3 115 "PaddyTerraces$Calendar" "rain" "[I") (by decide +kernel)
  have hf118 := hts (.fieldLink RX3 118 "PaddyTerraces$Calendar" "draught" "[I") (by decide +kernel)
  have hinX0 : ∀ w ∈ wsX00, w ∈ wsX3_setDay := by decide +kernel
  have hinX3 : ∀ w ∈ wsX30, w ∈ wsX3_setDay := by decide +kernel
  have hS0 := hS
  refine lv_iload_n hx hb dX3_setDay_0 rfl (lv_at hl 1 rfl) ?_
  refine lv_iconst (v := 0) hx hb dX3_setDay_1 (by decide) ?_
  refine lv_bipush (v := 29) hx hb dX3_setDay_2 (by decide) ?_
  refine zI_S (pre := (oW k b t M ++ kW cI k M ++ bW k B ++ sW cI b S ++ sW cI t T)) (wc := ([] : va_W)) (post := ([] : va_W)) (w1 := ([] : va_W)) ⟨hx, hb, hml, hown, hts⟩ (c_X3_isWithin l dC dI cI i 0 29) (va_cwS 3 hts gX3_setDay_X3_isWithin rfl rfl rfl (by decide +kernel) ⟨Nat.le_of_ble_eq_true rfl, Nat.le_of_ble_eq_true rfl⟩) (by simp only [List.append_assoc, List.append_nil, List.nil_append]) hK hN hP hD hS hA rfl hl.1 rfl (Nat.le_of_ble_eq_true rfl) dX3_setDay_4 ⟨Nat.le_of_ble_eq_true rfl, Nat.le_of_ble_eq_true rfl⟩ (fun H locs hP hD hS => ?_)
  have hP : va_P (dC, dI) vwCl (oW k b t M ++ kW cI k M ++ bW k B ++ sW cI b S ++ sW cI t T) H := by simpa only [List.append_assoc, List.append_nil, List.nil_append] using hP
  have hD : va_D A (oW k b t M ++ kW cI k M ++ bW k B ++ sW cI b S ++ sW cI t T) := by simpa only [List.append_assoc, List.append_nil, List.nil_append] using hD
  refine lv_if_ne (tgt := 20) hx hb dX3_setDay_7 (by decide) (fun c_1 => ?_) (fun c_1 => ?_)
  · refine lv_iload_n hx hb dX3_setDay_20 rfl (lv_at hl 2 rfl) ?_
    refine lv_iconst (v := 0) hx hb dX3_setDay_21 (by decide) ?_
    refine lv_bipush (v := 60) hx hb dX3_setDay_22 (by decide) ?_
    refine zI_S (pre := (oW k b t M ++ kW cI k M ++ bW k B ++ sW cI b S ++ sW cI t T)) (wc := ([] : va_W)) (post := ([] : va_W)) (w1 := ([] : va_W)) ⟨hx, hb, hml, hown, hts⟩ (c_X3_isWithin l dC dI cI u 0 60) (va_cwS 3 hts gX3_setDay_X3_isWithin rfl rfl rfl (by decide +kernel) ⟨Nat.le_of_ble_eq_true rfl, Nat.le_of_ble_eq_true rfl⟩) (by simp only [List.append_assoc, List.append_nil, List.nil_append]) hK hN hP hD hS hA rfl hl.1 rfl (Nat.le_of_ble_eq_true rfl) dX3_setDay_24 ⟨Nat.le_of_ble_eq_true rfl, Nat.le_of_ble_eq_true rfl⟩ (fun H locs hP hD hS => ?_)
    have hP : va_P (dC, dI) vwCl (oW k b t M ++ kW cI k M ++ bW k B ++ sW cI b S ++ sW cI t T) H := by simpa only [List.append_assoc, List.append_nil, List.nil_append] using hP
    have hD : va_D A (oW k b t M ++ kW cI k M ++ bW k B ++ sW cI b S ++ sW cI t T) := by simpa only [List.append_assoc, List.append_nil, List.nil_append] using hD
    refine lv_if_eq (tgt := 52) hx hb dX3_setDay_27 (by decide) (fun c_2 => ?_) (fun c_2 => ?_)
    · have hT9 : day_T i u v x = 2 := by simp only [day_T, if_neg c_1, if_pos c_2]
      exact absurd (hT.symm.trans hT9) (by decide)
    · refine lv_iload_n hx hb dX3_setDay_30 rfl (lv_at hl 3 rfl) ?_
      refine lv_iconst (v := 0) hx hb dX3_setDay_31 (by decide) ?_
      refine lv_sipush (v := 400) hx hb dX3_setDay_32 (by decide) ?_
      refine zI_S (pre := (oW k b t M ++ kW cI k M ++ bW k B ++ sW cI b S ++ sW cI t T)) (wc := ([] : va_W)) (post := ([] : va_W)) (w1 := ([] : va_W)) ⟨hx, hb, hml, hown, hts⟩ (c_X3_isWithin l dC dI cI v 0 400) (va_cwS 3 hts gX3_setDay_X3_isWithin rfl rfl rfl (by decide +kernel) ⟨Nat.le_of_ble_eq_true rfl, Nat.le_of_ble_eq_true rfl⟩) (by simp only [List.append_assoc, List.append_nil, List.nil_append]) hK hN hP hD hS hA rfl hl.1 rfl (Nat.le_of_ble_eq_true rfl) dX3_setDay_35 ⟨Nat.le_of_ble_eq_true rfl, Nat.le_of_ble_eq_true rfl⟩ (fun H locs hP hD hS => ?_)
      have hP : va_P (dC, dI) vwCl (oW k b t M ++ kW cI k M ++ bW k B ++ sW cI b S ++ sW cI t T) H := by simpa only [List.append_assoc, List.append_nil, List.nil_append] using hP
      have hD : va_D A (oW k b t M ++ kW cI k M ++ bW k B ++ sW cI b S ++ sW cI t T) := by simpa only [List.append_assoc, List.append_nil, List.nil_append] using hD
      refine lv_if_eq (tgt := 52) hx hb dX3_setDay_38 (by decide) (fun c_3 => ?_) (fun c_3 => ?_)
      · have hT9 : day_T i u v x = 2 := by simp only [day_T, if_neg c_1, if_neg c_2, if_pos c_3]
        exact absurd (hT.symm.trans hT9) (by decide)
      · refine lv_iload hx hb dX3_setDay_41 (lv_at hl 4 rfl) ?_
        refine lv_iconst (v := 0) hx hb dX3_setDay_43 (by decide) ?_
        refine lv_bipush (v := 20) hx hb dX3_setDay_44 (by decide) ?_
        refine zI_S (pre := (oW k b t M ++ kW cI k M ++ bW k B ++ sW cI b S ++ sW cI t T)) (wc := ([] : va_W)) (post := ([] : va_W)) (w1 := ([] : va_W)) ⟨hx, hb, hml, hown, hts⟩ (c_X3_isWithin l dC dI cI x 0 20) (va_cwS 3 hts gX3_setDay_X3_isWithin rfl rfl rfl (by decide +kernel) ⟨Nat.le_of_ble_eq_true rfl, Nat.le_of_ble_eq_true rfl⟩) (by simp only [List.append_assoc, List.append_nil, List.nil_append]) hK hN hP hD hS hA rfl hl.1 rfl (Nat.le_of_ble_eq_true rfl) dX3_setDay_46 ⟨Nat.le_of_ble_eq_true rfl, Nat.le_of_ble_eq_true rfl⟩ (fun H locs hP hD hS => ?_)
        have hP : va_P (dC, dI) vwCl (oW k b t M ++ kW cI k M ++ bW k B ++ sW cI b S ++ sW cI t T) H := by simpa only [List.append_assoc, List.append_nil, List.nil_append] using hP
        have hD : va_D A (oW k b t M ++ kW cI k M ++ bW k B ++ sW cI b S ++ sW cI t T) := by simpa only [List.append_assoc, List.append_nil, List.nil_append] using hD
        refine lv_if_ne (tgt := 62) hx hb dX3_setDay_49 (by decide) (fun c_4 => ?_) (fun c_4 => ?_)
        · refine lv_aload_n hx hb dX3_setDay_62 rfl (lv_at hl 0 rfl) ?_
          refine va_get (D := (dC, dI)) (ci := 3) (v := .ref (k 1)) (C := RX3) (T := TX3) (N := 6) hx hb hts hinX3 hown hK hP 0 rfl rfl 0 (by decide) hf10 (fun _ h9 => h9) rfl dX3_setDay_63 ?_
          refine va_get (D := (dC, dI)) (ci := 0) (v := .ref (k 3)) (C := RX0) (T := TX0) (N := 3) hx hb hts hinX0 hown hK hP 1 rfl rfl 1 (by decide) hf112 (fun _ h9 => h9) rfl dX3_setDay_66 ?_
          refine lv_iload_n hx hb dX3_setDay_69 rfl (lv_at hl 1 rfl) ?_
          refine va_iald (cA := cI) (n := 30) (f := M 2) hx hb hK hP 3 0 rfl rfl (isw_in c_1 (by decide) (by decide)) dX3_setDay_70 ?_
          refine lv_istore (lv' := [(5, .int (M 2 i.toNatClampNeg)), (0, .ref (k 0)), (1, .int i), (2, .int u), (3, .int v), (4, .int x)]) hx hb dX3_setDay_71 hl (by decide) rfl (fun ls hl => ?_)
          refine lv_aload_n hx hb dX3_setDay_73 rfl (lv_at hl 1 rfl) ?_
          refine va_get (D := (dC, dI)) (ci := 3) (v := .ref (k 1)) (C := RX3) (T := TX3) (N := 6) hx hb hts hinX3 hown hK hP 0 rfl rfl 0 (by decide) hf10 (fun _ h9 => h9) rfl dX3_setDay_74 ?_
          refine va_get (D := (dC, dI)) (ci := 0) (v := .ref (k 2)) (C := RX0) (T := TX0) (N := 3) hx hb hts hinX0 hown hK hP 1 rfl rfl 0 (by decide) hf115 (fun _ h9 => h9) rfl dX3_setDay_77 ?_
          refine lv_iload_n hx hb dX3_setDay_80 rfl (lv_at hl 2 rfl) ?_
          refine lv_iload_n hx hb dX3_setDay_81 rfl (lv_at hl 3 rfl) ?_
          obtain ⟨S5, eS5⟩ : ∃ z : sS, z = s_put M 1 i.toNatClampNeg u := ⟨_, rfl⟩
          refine va_iast (cA := cI) (n := 30) (f := M 1) hx hb hK hP hD hS 2 0 rfl rfl (isw_in c_1 (by decide) (by decide)) dX3_setDay_82 (fun H locs hP hD hS => ?_)
          have hP : va_P (dC, dI) vwCl (oW k b t S5 ++ kW cI k S5 ++ bW k B ++ sW cI b S ++ sW cI t T) H := by rw [eS5]; exact hP
          have hD : va_D A (oW k b t S5 ++ kW cI k S5 ++ bW k B ++ sW cI b S ++ sW cI t T) := by rw [eS5]; exact hD
          refine lv_aload_n hx hb dX3_setDay_83 rfl (lv_at hl 1 rfl) ?_
          refine va_get (D := (dC, dI)) (ci := 3) (v := .ref (k 1)) (C := RX3) (T := TX3) (N := 6) hx hb hts hinX3 hown hK hP 0 rfl rfl 0 (by decide) hf10 (fun _ h9 => h9) rfl dX3_setDay_84 ?_
          refine va_get (D := (dC, dI)) (ci := 0) (v := .ref (k 3)) (C := RX0) (T := TX0) (N := 3) hx hb hts hinX0 hown hK hP 1 rfl rfl 1 (by decide) hf112 (fun _ h9 => h9) rfl dX3_setDay_87 ?_
          refine lv_iload_n hx hb dX3_setDay_90 rfl (lv_at hl 2 rfl) ?_
          refine lv_iload_n hx hb dX3_setDay_91 rfl (lv_at hl 4 rfl) ?_
          obtain ⟨S6, eS6⟩ : ∃ z : sS, z = s_put S5 2 i.toNatClampNeg v := ⟨_, rfl⟩
          refine va_iast (cA := cI) (n := 30) (f := S5 2) hx hb hK hP hD hS 3 0 rfl rfl (isw_in c_1 (by decide) (by decide)) dX3_setDay_92 (fun H locs hP hD hS => ?_)
          have hP : va_P (dC, dI) vwCl (oW k b t S6 ++ kW cI k S6 ++ bW k B ++ sW cI b S ++ sW cI t T) H := by rw [eS6]; exact hP
          have hD : va_D A (oW k b t S6 ++ kW cI k S6 ++ bW k B ++ sW cI b S ++ sW cI t T) := by rw [eS6]; exact hD
          refine lv_aload_n hx hb dX3_setDay_93 rfl (lv_at hl 1 rfl) ?_
          refine va_get (D := (dC, dI)) (ci := 3) (v := .ref (k 1)) (C := RX3) (T := TX3) (N := 6) hx hb hts hinX3 hown hK hP 0 rfl rfl 0 (by decide) hf10 (fun _ h9 => h9) rfl dX3_setDay_94 ?_
          refine va_get (D := (dC, dI)) (ci := 0) (v := .ref (k 4)) (C := RX0) (T := TX0) (N := 3) hx hb hts hinX0 hown hK hP 1 rfl rfl 2 (by decide) hf118 (fun _ h9 => h9) rfl dX3_setDay_97 ?_
          refine lv_iload_n hx hb dX3_setDay_100 rfl (lv_at hl 2 rfl) ?_
          refine lv_iload hx hb dX3_setDay_101 (lv_at hl 5 rfl) ?_
          obtain ⟨S7, eS7⟩ : ∃ z : sS, z = s_put S6 3 i.toNatClampNeg x := ⟨_, rfl⟩
          refine va_iast (cA := cI) (n := 30) (f := S6 3) hx hb hK hP hD hS 4 0 rfl rfl (isw_in c_1 (by decide) (by decide)) dX3_setDay_103 (fun H locs hP hD hS => ?_)
          have hP : va_P (dC, dI) vwCl (oW k b t S7 ++ kW cI k S7 ++ bW k B ++ sW cI b S ++ sW cI t T) H := by rw [eS7]; exact hP
          have hD : va_D A (oW k b t S7 ++ kW cI k S7 ++ bW k B ++ sW cI b S ++ sW cI t T) := by rw [eS7]; exact hD
          refine lv_iload hx hb dX3_setDay_104 (lv_at hl 0 rfl) ?_
          have hZ : S7 = day_M M i u v x := (by (try rw [eS7]); (try rw [eS6]); (try rw [eS5]); first | done | rfl | (simp only [day_M, if_neg c_1, if_neg c_2, if_neg c_3, if_neg c_4]; done) | (unfold day_M; simp only [if_neg c_1, if_neg c_2, if_neg c_3, if_neg c_4]; done))
          rw [hZ] at hP hD
          exact zI_ret hx hb hr hlocks hP hD hS rfl rfl dX3_setDay_106
        · have hT9 : day_T i u v x = 2 := by simp only [day_T, if_neg c_1, if_neg c_2, if_neg c_3, if_pos c_4]
          exact absurd (hT.symm.trans hT9) (by decide)
  · have hT9 : day_T i u v x = 1 := by simp only [day_T, if_pos c_1]
    exact absurd (hT.symm.trans hT9) (by decide)
set_option maxHeartbeats 4000000 in
set_option maxRecDepth 100000 in
theorem c_X3_plant (l : Launch) (dC : Nat → ClassId) (dI : Nat → Nat → Nat) (cI : ClassId) (k b t : Nat → Nat) (h w : Nat) (M B S T : sS) (y f x : Int32) (hG0 : geo h w S) (hT : pla_T S y f x = 0) : zI l yX3_plant wsX3_plant { frames := 3, cells := 0, slots := 0, locals := 63 } (dC, dI) cI [.ref (k 0), .int y, .int f, .int x] (oW k b t M ++ kW cI k M ++ bW k B ++ sW cI b S ++ sW cI t T) (oW k b t M ++ kW cI k M ++ bW k B ++ sW cI b (pla_S S y f x) ++ sW cI t T) (sl_sum h w (pla_S S y f x) 7) := by
  refine zI_of (cc := cX3_plant) (maxL := 5) (ret := (some .int)) (by decide) rfl (Nat.le_of_ble_eq_true rfl) ?_
  intro p e s m below meth c A ls C0 hl
  obtain ⟨hx, hb, hr, hml, hown, hts, hlocks, hK, hN, hA, hP, hD, hS⟩ := C0
  have hown : s.vm.findClass RX3 = some m.cls := hown
  have hl : lv_has ls 5 [(0, .ref (k 0)), (1, .int y), (2, .int f), (3, .int x)] := hl
  have hf21 := hts (.fieldLink RX3 21 "PaddyTerraces" "slope" "LPaddyTerraces$Slope;") (by decide +kernel)
  have hf123 := hts (.fieldLink RX3 123 "PaddyTerraces$Slope" "crop" "[I") (by decide +kernel)
  have hf126 := hts (.fieldLink RX3 126 "PaddyTerraces$Slope" "depth" "[I") (by decide +kernel)
  have hf134 := hts (.fieldLink RX3 134 "PaddyTerraces$Slope" "age" "[I") (by decide +kernel)
  have hinX2 : ∀ w ∈ wsX20, w ∈ wsX3_plant := by decide +kernel
  have hinX3 : ∀ w ∈ wsX30, w ∈ wsX3_plant := by decide +kernel
  have hS0 := hS
  have hN64 := geo_hw hG0
  obtain ⟨-, -, hh2, hh8, hw2, hw8⟩ := id hG0
  refine lv_aload_n hx hb dX3_plant_0 rfl (lv_at hl 0 rfl) ?_
  refine va_get (D := (dC, dI)) (ci := 3) (v := .ref (b 0)) (C := RX3) (T := TX3) (N := 6) hx hb hts hinX3 hown hK hP 0 rfl rfl 1 (by decide) hf21 (fun _ h9 => h9) rfl dX3_plant_1 ?_
  refine lv_iload_n hx hb dX3_plant_4 rfl (lv_at hl 1 rfl) ?_
  refine lv_iload_n hx hb dX3_plant_5 rfl (lv_at hl 2 rfl) ?_
  refine zI_V (pre := (oW k b t M ++ kW cI k M ++ bW k B)) (wc := sW cI b S) (post := (sW cI t T)) (w1 := sW cI b S) ⟨hx, hb, hml, hown, hts⟩ (c_X2_hasField l dC dI cI b S y f) (cwV 2 hts gX3_plant_X2_hasField rfl rfl rfl (by decide +kernel) ⟨Nat.le_of_ble_eq_true rfl, Nat.le_of_ble_eq_true rfl⟩) (by simp only [List.append_assoc, List.append_nil, List.nil_append]) hK hN (ci := 2) (q0 := 0) rfl rfl rfl hP hD hS hA rfl hl.1 rfl (Nat.le_of_ble_eq_true rfl) dX3_plant_6 ⟨Nat.le_of_ble_eq_true rfl, Nat.le_of_ble_eq_true rfl⟩ (fun H locs hP hD hS => ?_)
  have hP : va_P (dC, dI) vwCl (oW k b t M ++ kW cI k M ++ bW k B ++ sW cI b S ++ sW cI t T) H := by simpa only [List.append_assoc, List.append_nil, List.nil_append] using hP
  have hD : va_D A (oW k b t M ++ kW cI k M ++ bW k B ++ sW cI b S ++ sW cI t T) := by simpa only [List.append_assoc, List.append_nil, List.nil_append] using hD
  refine lv_if_ne (tgt := 22) hx hb dX3_plant_9 (by decide) (fun c_1 => ?_) (fun c_1 => ?_)
  · refine lv_iload_n hx hb dX3_plant_22 rfl (lv_at hl 3 rfl) ?_
    refine lv_iconst (v := 0) hx hb dX3_plant_23 (by decide) ?_
    refine lv_bipush (v := 20) hx hb dX3_plant_24 (by decide) ?_
    refine zI_S (pre := (oW k b t M ++ kW cI k M ++ bW k B ++ sW cI b S ++ sW cI t T)) (wc := ([] : va_W)) (post := ([] : va_W)) (w1 := ([] : va_W)) ⟨hx, hb, hml, hown, hts⟩ (c_X3_isWithin l dC dI cI x 0 20) (va_cwS 3 hts gX3_plant_X3_isWithin rfl rfl rfl (by decide +kernel) ⟨Nat.le_of_ble_eq_true rfl, Nat.le_of_ble_eq_true rfl⟩) (by simp only [List.append_assoc, List.append_nil, List.nil_append]) hK hN hP hD hS hA rfl hl.1 rfl (Nat.le_of_ble_eq_true rfl) dX3_plant_26 ⟨Nat.le_of_ble_eq_true rfl, Nat.le_of_ble_eq_true rfl⟩ (fun H locs hP hD hS => ?_)
    have hP : va_P (dC, dI) vwCl (oW k b t M ++ kW cI k M ++ bW k B ++ sW cI b S ++ sW cI t T) H := by simpa only [List.append_assoc, List.append_nil, List.nil_append] using hP
    have hD : va_D A (oW k b t M ++ kW cI k M ++ bW k B ++ sW cI b S ++ sW cI t T) := by simpa only [List.append_assoc, List.append_nil, List.nil_append] using hD
    refine lv_if_ne (tgt := 42) hx hb dX3_plant_29 (by decide) (fun c_2 => ?_) (fun c_2 => ?_)
    · refine lv_aload_n hx hb dX3_plant_42 rfl (lv_at hl 0 rfl) ?_
      refine va_get (D := (dC, dI)) (ci := 3) (v := .ref (b 0)) (C := RX3) (T := TX3) (N := 6) hx hb hts hinX3 hown hK hP 0 rfl rfl 1 (by decide) hf21 (fun _ h9 => h9) rfl dX3_plant_43 ?_
      refine lv_iload_n hx hb dX3_plant_46 rfl (lv_at hl 1 rfl) ?_
      refine lv_iload_n hx hb dX3_plant_47 rfl (lv_at hl 2 rfl) ?_
      refine zI_V (pre := (oW k b t M ++ kW cI k M ++ bW k B)) (wc := sW cI b S) (post := (sW cI t T)) (w1 := sW cI b S) ⟨hx, hb, hml, hown, hts⟩ (c_X2_cellOf l dC dI cI b S y f) (cwV 2 hts gX3_plant_X2_cellOf rfl rfl rfl (by decide +kernel) ⟨Nat.le_of_ble_eq_true rfl, Nat.le_of_ble_eq_true rfl⟩) (by simp only [List.append_assoc, List.append_nil, List.nil_append]) hK hN (ci := 2) (q0 := 0) rfl rfl rfl hP hD hS hA rfl hl.1 rfl (Nat.le_of_ble_eq_true rfl) dX3_plant_48 ⟨Nat.le_of_ble_eq_true rfl, Nat.le_of_ble_eq_true rfl⟩ (fun H locs hP hD hS => ?_)
      have hP : va_P (dC, dI) vwCl (oW k b t M ++ kW cI k M ++ bW k B ++ sW cI b S ++ sW cI t T) H := by simpa only [List.append_assoc, List.append_nil, List.nil_append] using hP
      have hD : va_D A (oW k b t M ++ kW cI k M ++ bW k B ++ sW cI b S ++ sW cI t T) := by simpa only [List.append_assoc, List.append_nil, List.nil_append] using hD
      refine lv_istore (lv' := [(4, .int (sl_at S y f)), (0, .ref (k 0)), (1, .int y), (2, .int f), (3, .int x)]) hx hb dX3_plant_51 hl (by decide) rfl (fun ls hl => ?_)
      refine lv_aload_n hx hb dX3_plant_53 rfl (lv_at hl 1 rfl) ?_
      refine va_get (D := (dC, dI)) (ci := 3) (v := .ref (b 0)) (C := RX3) (T := TX3) (N := 6) hx hb hts hinX3 hown hK hP 0 rfl rfl 1 (by decide) hf21 (fun _ h9 => h9) rfl dX3_plant_54 ?_
      refine va_get (D := (dC, dI)) (ci := 2) (v := .ref (b 7)) (C := RX2) (T := TX2) (N := 18) hx hb hts hinX2 hown hK hP 6 rfl rfl 11 (by decide) hf123 (fun _ h9 => h9) rfl dX3_plant_57 ?_
      refine lv_iload hx hb dX3_plant_60 (lv_at hl 0 rfl) ?_
      refine va_iald (cA := cI) (n := 64) (f := S 7) hx hb hK hP 13 0 rfl rfl (geo_in hG0 c_1) dX3_plant_62 ?_
      refine lv_if_ne (tgt := 81) hx hb dX3_plant_63 (by decide) (fun c_3 => ?_) (fun c_3 => ?_)
      · have hT9 : pla_T S y f x = 3 := by simp only [pla_T, if_neg c_1, if_neg c_2, if_neg c_3]
        exact absurd (hT.symm.trans hT9) (by decide)
      · refine lv_aload_n hx hb dX3_plant_66 rfl (lv_at hl 1 rfl) ?_
        refine va_get (D := (dC, dI)) (ci := 3) (v := .ref (b 0)) (C := RX3) (T := TX3) (N := 6) hx hb hts hinX3 hown hK hP 0 rfl rfl 1 (by decide) hf21 (fun _ h9 => h9) rfl dX3_plant_67 ?_
        refine va_get (D := (dC, dI)) (ci := 2) (v := .ref (b 2)) (C := RX2) (T := TX2) (N := 18) hx hb hts hinX2 hown hK hP 6 rfl rfl 6 (by decide) hf126 (fun _ h9 => h9) rfl dX3_plant_70 ?_
        refine lv_iload hx hb dX3_plant_73 (lv_at hl 0 rfl) ?_
        refine va_iald (cA := cI) (n := 64) (f := S 2) hx hb hK hP 8 0 rfl rfl (geo_in hG0 c_1) dX3_plant_75 ?_
        refine lv_bipush (v := 40) hx hb dX3_plant_76 (by decide) ?_
        refine lv_icmp_le (tgt := 91) hx hb dX3_plant_78 (by decide) (fun c_4 => ?_) (fun c_4 => ?_)
        · refine lv_aload_n hx hb dX3_plant_91 rfl (lv_at hl 1 rfl) ?_
          refine va_get (D := (dC, dI)) (ci := 3) (v := .ref (b 0)) (C := RX3) (T := TX3) (N := 6) hx hb hts hinX3 hown hK hP 0 rfl rfl 1 (by decide) hf21 (fun _ h9 => h9) rfl dX3_plant_92 ?_
          refine va_get (D := (dC, dI)) (ci := 2) (v := .ref (b 7)) (C := RX2) (T := TX2) (N := 18) hx hb hts hinX2 hown hK hP 6 rfl rfl 11 (by decide) hf123 (fun _ h9 => h9) rfl dX3_plant_95 ?_
          refine lv_iload hx hb dX3_plant_98 (lv_at hl 0 rfl) ?_
          refine lv_iconst (v := 1) hx hb dX3_plant_100 (by decide) ?_
          obtain ⟨S5, eS5⟩ : ∃ z : sS, z = s_put S 7 ((sl_at S y f).toNatClampNeg) 1 := ⟨_, rfl⟩
          refine va_iast (cA := cI) (n := 64) (f := S 7) hx hb hK hP hD hS 13 0 rfl rfl (geo_in hG0 c_1) dX3_plant_101 (fun H locs hP hD hS => ?_)
          have hP : va_P (dC, dI) vwCl (oW k b t M ++ kW cI k M ++ bW k B ++ sW cI b S5 ++ sW cI t T) H := by rw [eS5]; exact hP
          have hD : va_D A (oW k b t M ++ kW cI k M ++ bW k B ++ sW cI b S5 ++ sW cI t T) := by rw [eS5]; exact hD
          have hGS5 : geo h w S5 := by rw [eS5]; exact geo_put hG0 (Or.inl (by decide)) _
          refine lv_aload_n hx hb dX3_plant_102 rfl (lv_at hl 1 rfl) ?_
          refine va_get (D := (dC, dI)) (ci := 3) (v := .ref (b 0)) (C := RX3) (T := TX3) (N := 6) hx hb hts hinX3 hown hK hP 0 rfl rfl 1 (by decide) hf21 (fun _ h9 => h9) rfl dX3_plant_103 ?_
          refine va_get (D := (dC, dI)) (ci := 2) (v := .ref (b 8)) (C := RX2) (T := TX2) (N := 18) hx hb hts hinX2 hown hK hP 6 rfl rfl 12 (by decide) hf134 (fun _ h9 => h9) rfl dX3_plant_106 ?_
          refine lv_iload hx hb dX3_plant_109 (lv_at hl 0 rfl) ?_
          refine lv_iload_n hx hb dX3_plant_111 rfl (lv_at hl 4 rfl) ?_
          obtain ⟨S6, eS6⟩ : ∃ z : sS, z = s_put S5 8 ((sl_at S y f).toNatClampNeg) x := ⟨_, rfl⟩
          refine va_iast (cA := cI) (n := 64) (f := S5 8) hx hb hK hP hD hS 14 0 rfl rfl (geo_in hG0 c_1) dX3_plant_112 (fun H locs hP hD hS => ?_)
          have hP : va_P (dC, dI) vwCl (oW k b t M ++ kW cI k M ++ bW k B ++ sW cI b S6 ++ sW cI t T) H := by rw [eS6]; exact hP
          have hD : va_D A (oW k b t M ++ kW cI k M ++ bW k B ++ sW cI b S6 ++ sW cI t T) := by rw [eS6]; exact hD
          have hGS6 : geo h w S6 := by rw [eS6]; exact geo_put hGS5 (Or.inl (by decide)) _
          refine lv_aload_n hx hb dX3_plant_113 rfl (lv_at hl 1 rfl) ?_
          refine va_get (D := (dC, dI)) (ci := 3) (v := .ref (b 0)) (C := RX3) (T := TX3) (N := 6) hx hb hts hinX3 hown hK hP 0 rfl rfl 1 (by decide) hf21 (fun _ h9 => h9) rfl dX3_plant_114 ?_
          refine zI_V (pre := (oW k b t M ++ kW cI k M ++ bW k B)) (wc := sW cI b S6) (post := (sW cI t T)) (w1 := sW cI b S6) ⟨hx, hb, hml, hown, hts⟩ (c_X2_crops l dC dI cI b h w S6 hGS6) (cwV 0 hts gX3_plant_X2_crops rfl rfl rfl (by decide +kernel) ⟨Nat.le_of_ble_eq_true rfl, Nat.le_of_ble_eq_true rfl⟩) (by simp only [List.append_assoc, List.append_nil, List.nil_append]) hK hN (ci := 2) (q0 := 0) rfl rfl rfl hP hD hS hA rfl hl.1 rfl (Nat.le_of_ble_eq_true rfl) dX3_plant_117 ⟨Nat.le_of_ble_eq_true rfl, Nat.le_of_ble_eq_true rfl⟩ (fun H locs hP hD hS => ?_)
          have hP : va_P (dC, dI) vwCl (oW k b t M ++ kW cI k M ++ bW k B ++ sW cI b S6 ++ sW cI t T) H := by simpa only [List.append_assoc, List.append_nil, List.nil_append] using hP
          have hD : va_D A (oW k b t M ++ kW cI k M ++ bW k B ++ sW cI b S6 ++ sW cI t T) := by simpa only [List.append_assoc, List.append_nil, List.nil_append] using hD
          have hZ : S6 = pla_S S y f x := (by (try rw [eS6]); (try rw [eS5]); first | done | rfl | (simp only [pla_S, if_neg c_1, if_neg c_2, if_pos c_3, if_pos c_4]; done) | (unfold pla_S; simp only [if_neg c_1, if_neg c_2, if_pos c_3, if_pos c_4]; done))
          rw [hZ] at hP hD
          exact zI_ret hx hb hr hlocks hP hD hS rfl (by (try rw [eS6]); (try rw [eS5]); first | done | rfl | (simp only [pla_S, if_neg c_1, if_neg c_2, if_pos c_3, if_pos c_4]; done)) dX3_plant_120
        · have hT9 : pla_T S y f x = 3 := by simp only [pla_T, if_neg c_1, if_neg c_2, if_pos c_3, if_neg c_4]
          exact absurd (hT.symm.trans hT9) (by decide)
    · have hT9 : pla_T S y f x = 2 := by simp only [pla_T, if_neg c_1, if_pos c_2]
      exact absurd (hT.symm.trans hT9) (by decide)
  · have hT9 : pla_T S y f x = 1 := by simp only [pla_T, if_pos c_1]
    exact absurd (hT.symm.trans hT9) (by decide)
set_option maxHeartbeats 4000000 in
set_option maxRecDepth 100000 in
theorem c_X3_reap (l : Launch) (dC : Nat → ClassId) (dI : Nat → Nat → Nat) (cI : ClassId) (k b t : Nat → Nat) (h w : Nat) (M B S T : sS) (y f : Int32) (hG0 : geo h w S) (hT : rea_T S y f = 0) : zI l yX3_reap wsX3_reap { frames := 1, cells := 0, slots := 0, locals := 22 } (dC, dI) cI [.ref (k 0), .int y, .int f] (oW k b t M ++ kW cI k M ++ bW k B ++ sW cI b S ++ sW cI t T) (oW k b t (rea_M M S y f) ++ kW cI k (rea_M M S y f) ++ bW k B ++ sW cI b (rea_S S y f) ++ sW cI t T) (rea_V S y f) := by
  refine zI_of (cc := cX3_reap) (maxL := 5) (ret := (some .int)) (by decide) rfl (Nat.le_of_ble_eq_true rfl) ?_
  intro p e s m below meth c A ls C0 hl
  obtain ⟨hx, hb, hr, hml, hown, hts, hlocks, hK, hN, hA, hP, hD, hS⟩ := C0
  have hown : s.vm.findClass RX3 = some m.cls := hown
  have hl : lv_has ls 5 [(0, .ref (k 0)), (1, .int y), (2, .int f)] := hl
  have hf21 := hts (.fieldLink RX3 21 "PaddyTerraces" "slope" "LPaddyTerraces$Slope;") (by decide +kernel)
  have hf49 := hts (.fieldLink RX3 49 "PaddyTerraces" "reaped" "I") (by decide +kernel)
  have hf123 := hts (.fieldLink RX3 123 "PaddyTerraces$Slope" "crop" "[I") (by decide +kernel)
  have hf126 := hts (.fieldLink RX3 126 "PaddyTerraces$Slope" "depth" "[I") (by decide +kernel)
  have hf134 := hts (.fieldLink RX3 134 "PaddyTerraces$Slope" "age" "[I") (by decide +kernel)
  have hf142 := hts (.fieldLink RX3 142 "PaddyTerraces$Slope" "hardness" "[I") (by decide +kernel)
  have hinX2 : ∀ w ∈ wsX20, w ∈ wsX3_reap := by decide +kernel
  have hinX3 : ∀ w ∈ wsX30, w ∈ wsX3_reap := by decide +kernel
  have hS0 := hS
  have hN64 := geo_hw hG0
  obtain ⟨-, -, hh2, hh8, hw2, hw8⟩ := id hG0
  refine lv_aload_n hx hb dX3_reap_0 rfl (lv_at hl 0 rfl) ?_
  refine va_get (D := (dC, dI)) (ci := 3) (v := .ref (b 0)) (C := RX3) (T := TX3) (N := 6) hx hb hts hinX3 hown hK hP 0 rfl rfl 1 (by decide) hf21 (fun _ h9 => h9) rfl dX3_reap_1 ?_
  refine lv_iload_n hx hb dX3_reap_4 rfl (lv_at hl 1 rfl) ?_
  refine lv_iload_n hx hb dX3_reap_5 rfl (lv_at hl 2 rfl) ?_
  refine zI_V (pre := (oW k b t M ++ kW cI k M ++ bW k B)) (wc := sW cI b S) (post := (sW cI t T)) (w1 := sW cI b S) ⟨hx, hb, hml, hown, hts⟩ (c_X2_hasField l dC dI cI b S y f) (cwV 2 hts gX3_reap_X2_hasField rfl rfl rfl (by decide +kernel) ⟨Nat.le_of_ble_eq_true rfl, Nat.le_of_ble_eq_true rfl⟩) (by simp only [List.append_assoc, List.append_nil, List.nil_append]) hK hN (ci := 2) (q0 := 0) rfl rfl rfl hP hD hS hA rfl hl.1 rfl (Nat.le_of_ble_eq_true rfl) dX3_reap_6 ⟨Nat.le_of_ble_eq_true rfl, Nat.le_of_ble_eq_true rfl⟩ (fun H locs hP hD hS => ?_)
  have hP : va_P (dC, dI) vwCl (oW k b t M ++ kW cI k M ++ bW k B ++ sW cI b S ++ sW cI t T) H := by simpa only [List.append_assoc, List.append_nil, List.nil_append] using hP
  have hD : va_D A (oW k b t M ++ kW cI k M ++ bW k B ++ sW cI b S ++ sW cI t T) := by simpa only [List.append_assoc, List.append_nil, List.nil_append] using hD
  refine lv_if_ne (tgt := 22) hx hb dX3_reap_9 (by decide) (fun c_1 => ?_) (fun c_1 => ?_)
  · refine lv_aload_n hx hb dX3_reap_22 rfl (lv_at hl 0 rfl) ?_
    refine va_get (D := (dC, dI)) (ci := 3) (v := .ref (b 0)) (C := RX3) (T := TX3) (N := 6) hx hb hts hinX3 hown hK hP 0 rfl rfl 1 (by decide) hf21 (fun _ h9 => h9) rfl dX3_reap_23 ?_
    refine lv_iload_n hx hb dX3_reap_26 rfl (lv_at hl 1 rfl) ?_
    refine lv_iload_n hx hb dX3_reap_27 rfl (lv_at hl 2 rfl) ?_
    refine zI_V (pre := (oW k b t M ++ kW cI k M ++ bW k B)) (wc := sW cI b S) (post := (sW cI t T)) (w1 := sW cI b S) ⟨hx, hb, hml, hown, hts⟩ (c_X2_cellOf l dC dI cI b S y f) (cwV 2 hts gX3_reap_X2_cellOf rfl rfl rfl (by decide +kernel) ⟨Nat.le_of_ble_eq_true rfl, Nat.le_of_ble_eq_true rfl⟩) (by simp only [List.append_assoc, List.append_nil, List.nil_append]) hK hN (ci := 2) (q0 := 0) rfl rfl rfl hP hD hS hA rfl hl.1 rfl (Nat.le_of_ble_eq_true rfl) dX3_reap_28 ⟨Nat.le_of_ble_eq_true rfl, Nat.le_of_ble_eq_true rfl⟩ (fun H locs hP hD hS => ?_)
    have hP : va_P (dC, dI) vwCl (oW k b t M ++ kW cI k M ++ bW k B ++ sW cI b S ++ sW cI t T) H := by simpa only [List.append_assoc, List.append_nil, List.nil_append] using hP
    have hD : va_D A (oW k b t M ++ kW cI k M ++ bW k B ++ sW cI b S ++ sW cI t T) := by simpa only [List.append_assoc, List.append_nil, List.nil_append] using hD
    refine lv_istore_n (lv' := [(3, .int (sl_at S y f)), (0, .ref (k 0)), (1, .int y), (2, .int f)]) hx hb dX3_reap_31 rfl hl (by decide) rfl (fun ls hl => ?_)
    refine lv_aload_n hx hb dX3_reap_32 rfl (lv_at hl 1 rfl) ?_
    refine va_get (D := (dC, dI)) (ci := 3) (v := .ref (b 0)) (C := RX3) (T := TX3) (N := 6) hx hb hts hinX3 hown hK hP 0 rfl rfl 1 (by decide) hf21 (fun _ h9 => h9) rfl dX3_reap_33 ?_
    refine va_get (D := (dC, dI)) (ci := 2) (v := .ref (b 7)) (C := RX2) (T := TX2) (N := 18) hx hb hts hinX2 hown hK hP 6 rfl rfl 11 (by decide) hf123 (fun _ h9 => h9) rfl dX3_reap_36 ?_
    refine lv_iload_n hx hb dX3_reap_39 rfl (lv_at hl 0 rfl) ?_
    refine va_iald (cA := cI) (n := 64) (f := S 7) hx hb hK hP 13 0 rfl rfl (geo_in hG0 c_1) dX3_reap_40 ?_
    refine lv_if_eq (tgt := 58) hx hb dX3_reap_41 (by decide) (fun c_2 => ?_) (fun c_2 => ?_)
    · have hT9 : rea_T S y f = 2 := by simp only [rea_T, if_neg c_1, if_pos c_2]
      exact absurd (hT.symm.trans hT9) (by decide)
    · refine lv_aload_n hx hb dX3_reap_44 rfl (lv_at hl 1 rfl) ?_
      refine va_get (D := (dC, dI)) (ci := 3) (v := .ref (b 0)) (C := RX3) (T := TX3) (N := 6) hx hb hts hinX3 hown hK hP 0 rfl rfl 1 (by decide) hf21 (fun _ h9 => h9) rfl dX3_reap_45 ?_
      refine va_get (D := (dC, dI)) (ci := 2) (v := .ref (b 8)) (C := RX2) (T := TX2) (N := 18) hx hb hts hinX2 hown hK hP 6 rfl rfl 12 (by decide) hf134 (fun _ h9 => h9) rfl dX3_reap_48 ?_
      refine lv_iload_n hx hb dX3_reap_51 rfl (lv_at hl 0 rfl) ?_
      refine va_iald (cA := cI) (n := 64) (f := S 8) hx hb hK hP 14 0 rfl rfl (geo_in hG0 c_1) dX3_reap_52 ?_
      refine lv_bipush (v := 40) hx hb dX3_reap_53 (by decide) ?_
      refine lv_icmp_ge (tgt := 68) hx hb dX3_reap_55 (by decide) (fun c_3 => ?_) (fun c_3 => ?_)
      · refine lv_aload_n hx hb dX3_reap_68 rfl (lv_at hl 1 rfl) ?_
        refine va_get (D := (dC, dI)) (ci := 3) (v := .ref (b 0)) (C := RX3) (T := TX3) (N := 6) hx hb hts hinX3 hown hK hP 0 rfl rfl 1 (by decide) hf21 (fun _ h9 => h9) rfl dX3_reap_69 ?_
        refine va_get (D := (dC, dI)) (ci := 2) (v := .ref (b 8)) (C := RX2) (T := TX2) (N := 18) hx hb hts hinX2 hown hK hP 6 rfl rfl 12 (by decide) hf134 (fun _ h9 => h9) rfl dX3_reap_72 ?_
        refine lv_iload_n hx hb dX3_reap_75 rfl (lv_at hl 0 rfl) ?_
        refine va_iald (cA := cI) (n := 64) (f := S 8) hx hb hK hP 14 0 rfl rfl (geo_in hG0 c_1) dX3_reap_76 ?_
        refine lv_aload_n hx hb dX3_reap_77 rfl (lv_at hl 1 rfl) ?_
        refine va_get (D := (dC, dI)) (ci := 3) (v := .ref (b 0)) (C := RX3) (T := TX3) (N := 6) hx hb hts hinX3 hown hK hP 0 rfl rfl 1 (by decide) hf21 (fun _ h9 => h9) rfl dX3_reap_78 ?_
        refine va_get (D := (dC, dI)) (ci := 2) (v := .ref (b 9)) (C := RX2) (T := TX2) (N := 18) hx hb hts hinX2 hown hK hP 6 rfl rfl 13 (by decide) hf142 (fun _ h9 => h9) rfl dX3_reap_81 ?_
        refine lv_iload_n hx hb dX3_reap_84 rfl (lv_at hl 0 rfl) ?_
        refine va_iald (cA := cI) (n := 64) (f := S 9) hx hb hK hP 15 0 rfl rfl (geo_in hG0 c_1) dX3_reap_85 ?_
        refine lv_imul hx hb dX3_reap_86 ?_
        refine lv_bipush (v := 100) hx hb dX3_reap_87 (by decide) ?_
        refine lv_idiv hx hb dX3_reap_89 (by decide) ?_
        refine lv_istore (lv' := [(4, .int (((S 8 (sl_at S y f).toNatClampNeg) * (S 9 (sl_at S y f).toNatClampNeg)) / 100)), (3, .int (sl_at S y f)), (0, .ref (k 0)), (1, .int y), (2, .int f)]) hx hb dX3_reap_90 hl (by decide) rfl (fun ls hl => ?_)
        refine lv_aload_n hx hb dX3_reap_92 rfl (lv_at hl 2 rfl) ?_
        refine va_get (D := (dC, dI)) (ci := 3) (v := .ref (b 0)) (C := RX3) (T := TX3) (N := 6) hx hb hts hinX3 hown hK hP 0 rfl rfl 1 (by decide) hf21 (fun _ h9 => h9) rfl dX3_reap_93 ?_
        refine va_get (D := (dC, dI)) (ci := 2) (v := .ref (b 2)) (C := RX2) (T := TX2) (N := 18) hx hb hts hinX2 hown hK hP 6 rfl rfl 6 (by decide) hf126 (fun _ h9 => h9) rfl dX3_reap_96 ?_
        refine lv_iload_n hx hb dX3_reap_99 rfl (lv_at hl 1 rfl) ?_
        refine va_iald (cA := cI) (n := 64) (f := S 2) hx hb hK hP 8 0 rfl rfl (geo_in hG0 c_1) dX3_reap_100 ?_
        refine lv_if_ne (tgt := 113) hx hb dX3_reap_101 (by decide) (fun c_4 => ?_) (fun c_4 => ?_)
        · refine lv_aload_n hx hb dX3_reap_113 rfl (lv_at hl 2 rfl) ?_
          refine va_get (D := (dC, dI)) (ci := 3) (v := .ref (b 0)) (C := RX3) (T := TX3) (N := 6) hx hb hts hinX3 hown hK hP 0 rfl rfl 1 (by decide) hf21 (fun _ h9 => h9) rfl dX3_reap_114 ?_
          refine lv_iload_n hx hb dX3_reap_117 rfl (lv_at hl 1 rfl) ?_
          obtain ⟨S5, eS5⟩ : ∃ z : sS, z = sl_clear S (sl_at S y f) := ⟨_, rfl⟩
          refine zV_V (pre := (oW k b t M ++ kW cI k M ++ bW k B)) (wc := sW cI b S) (post := (sW cI t T)) (w1 := sW cI b S5) ⟨hx, hb, hml, hown, hts⟩ (by rw [eS5]; exact c_X2_clearCrop l dC dI cI b S (sl_at S y f) (geo_in hG0 c_1)) (cwV 1 hts gX3_reap_X2_clearCrop rfl rfl rfl (by decide +kernel) ⟨Nat.le_of_ble_eq_true rfl, Nat.le_of_ble_eq_true rfl⟩) (by simp only [List.append_assoc, List.append_nil, List.nil_append]) hK hN (ci := 2) (q0 := 0) rfl rfl rfl hP hD hS hA rfl hl.1 rfl (Nat.le_of_ble_eq_true rfl) dX3_reap_118 ⟨Nat.le_of_ble_eq_true rfl, Nat.le_of_ble_eq_true rfl⟩ (fun H locs hP hD hS => ?_)
          have hP : va_P (dC, dI) vwCl (oW k b t M ++ kW cI k M ++ bW k B ++ sW cI b S5 ++ sW cI t T) H := by simpa only [List.append_assoc, List.append_nil, List.nil_append] using hP
          have hD : va_D A (oW k b t M ++ kW cI k M ++ bW k B ++ sW cI b S5 ++ sW cI t T) := by simpa only [List.append_assoc, List.append_nil, List.nil_append] using hD
          have hGS5 : geo h w S5 := by rw [eS5]; exact geo_sam hG0 (sam_clear S (sl_at S y f))
          refine lv_aload_n hx hb dX3_reap_121 rfl (lv_at hl 2 rfl) ?_
          refine lv_dup hx hb dX3_reap_122 rfl ?_
          refine va_get (D := (dC, dI)) (ci := 3) (v := .int (M 0 0)) (C := RX3) (T := TX3) (N := 6) hx hb hts hinX3 hown hK hP 0 rfl rfl 4 (by decide) hf49 (fun _ h9 => h9) rfl dX3_reap_123 ?_
          refine lv_iload hx hb dX3_reap_126 (lv_at hl 0 rfl) ?_
          refine lv_iadd hx hb dX3_reap_128 ?_
          obtain ⟨S6, eS6⟩ : ∃ z : sS, z = s_put M 0 0 ((M 0 0) + (((S 8 (sl_at S y f).toNatClampNeg) * (S 9 (sl_at S y f).toNatClampNeg)) / 100)) := ⟨_, rfl⟩
          refine va_put (D := (dC, dI)) (ci := 3) (v := .int ((M 0 0) + (((S 8 (sl_at S y f).toNatClampNeg) * (S 9 (sl_at S y f).toNatClampNeg)) / 100))) (ty := .int) (C := RX3) (T := TX3) (N := 6) hx hb hts hinX3 tyX3 tyX3_ok nmX3 hown hK hP hD hS 0 rfl rfl 4 (by decide) hf49 (fun _ h9 => h9) rfl (by decide +kernel) rfl rfl (Nat.le_of_ble_eq_true rfl) dX3_reap_129 (fun H locs hP hD hS => ?_)
          have hP : va_P (dC, dI) vwCl (oW k b t S6 ++ kW cI k S6 ++ bW k B ++ sW cI b S5 ++ sW cI t T) H := by rw [eS6]; exact hP
          have hD : va_D A (oW k b t S6 ++ kW cI k S6 ++ bW k B ++ sW cI b S5 ++ sW cI t T) := by rw [eS6]; exact hD
          refine lv_iload hx hb dX3_reap_132 (lv_at hl 0 rfl) ?_
          have hZ : S5 = rea_S S y f := (by (try rw [eS6]); (try rw [eS5]); first | done | rfl | (simp only [rea_M, rea_S, rea_V, rea_b, if_neg c_1, if_neg c_2, if_pos c_3, if_neg c_4]; done) | (unfold rea_M; simp only [if_neg c_1, if_neg c_2, if_pos c_3, if_neg c_4]; done))
          rw [hZ] at hP hD
          have hZ : S6 = rea_M M S y f := (by (try rw [eS6]); (try rw [eS5]); first | done | rfl | (simp only [rea_M, rea_S, rea_V, rea_b, if_neg c_1, if_neg c_2, if_pos c_3, if_neg c_4]; done) | (unfold rea_M; simp only [if_neg c_1, if_neg c_2, if_pos c_3, if_neg c_4]; done))
          rw [hZ] at hP hD
          exact zI_ret hx hb hr hlocks hP hD hS rfl (by (try rw [eS6]); (try rw [eS5]); first | done | rfl | (simp only [rea_M, rea_S, rea_V, rea_b, if_neg c_1, if_neg c_2, if_pos c_3, if_neg c_4]; done)) dX3_reap_134
        · refine lv_iload hx hb dX3_reap_104 (lv_at hl 0 rfl) ?_
          refine lv_iload hx hb dX3_reap_106 (lv_at hl 0 rfl) ?_
          refine lv_iconst (v := 2) hx hb dX3_reap_108 (by decide) ?_
          refine lv_idiv hx hb dX3_reap_109 (by decide) ?_
          refine lv_iadd hx hb dX3_reap_110 ?_
          refine lv_istore (lv' := [(4, .int ((((S 8 (sl_at S y f).toNatClampNeg) * (S 9 (sl_at S y f).toNatClampNeg)) / 100) + ((((S 8 (sl_at S y f).toNatClampNeg) * (S 9 (sl_at S y f).toNatClampNeg)) / 100) / 2))), (3, .int (sl_at S y f)), (0, .ref (k 0)), (1, .int y), (2, .int f)]) hx hb dX3_reap_111 hl (by decide) rfl (fun ls hl => ?_)
          refine lv_aload_n hx hb dX3_reap_113 rfl (lv_at hl 2 rfl) ?_
          refine va_get (D := (dC, dI)) (ci := 3) (v := .ref (b 0)) (C := RX3) (T := TX3) (N := 6) hx hb hts hinX3 hown hK hP 0 rfl rfl 1 (by decide) hf21 (fun _ h9 => h9) rfl dX3_reap_114 ?_
          refine lv_iload_n hx hb dX3_reap_117 rfl (lv_at hl 1 rfl) ?_
          obtain ⟨S7, eS7⟩ : ∃ z : sS, z = sl_clear S (sl_at S y f) := ⟨_, rfl⟩
          refine zV_V (pre := (oW k b t M ++ kW cI k M ++ bW k B)) (wc := sW cI b S) (post := (sW cI t T)) (w1 := sW cI b S7) ⟨hx, hb, hml, hown, hts⟩ (by rw [eS7]; exact c_X2_clearCrop l dC dI cI b S (sl_at S y f) (geo_in hG0 c_1)) (cwV 1 hts gX3_reap_X2_clearCrop rfl rfl rfl (by decide +kernel) ⟨Nat.le_of_ble_eq_true rfl, Nat.le_of_ble_eq_true rfl⟩) (by simp only [List.append_assoc, List.append_nil, List.nil_append]) hK hN (ci := 2) (q0 := 0) rfl rfl rfl hP hD hS hA rfl hl.1 rfl (Nat.le_of_ble_eq_true rfl) dX3_reap_118 ⟨Nat.le_of_ble_eq_true rfl, Nat.le_of_ble_eq_true rfl⟩ (fun H locs hP hD hS => ?_)
          have hP : va_P (dC, dI) vwCl (oW k b t M ++ kW cI k M ++ bW k B ++ sW cI b S7 ++ sW cI t T) H := by simpa only [List.append_assoc, List.append_nil, List.nil_append] using hP
          have hD : va_D A (oW k b t M ++ kW cI k M ++ bW k B ++ sW cI b S7 ++ sW cI t T) := by simpa only [List.append_assoc, List.append_nil, List.nil_append] using hD
          have hGS7 : geo h w S7 := by rw [eS7]; exact geo_sam hG0 (sam_clear S (sl_at S y f))
          refine lv_aload_n hx hb dX3_reap_121 rfl (lv_at hl 2 rfl) ?_
          refine lv_dup hx hb dX3_reap_122 rfl ?_
          refine va_get (D := (dC, dI)) (ci := 3) (v := .int (M 0 0)) (C := RX3) (T := TX3) (N := 6) hx hb hts hinX3 hown hK hP 0 rfl rfl 4 (by decide) hf49 (fun _ h9 => h9) rfl dX3_reap_123 ?_
          refine lv_iload hx hb dX3_reap_126 (lv_at hl 0 rfl) ?_
          refine lv_iadd hx hb dX3_reap_128 ?_
          obtain ⟨S8, eS8⟩ : ∃ z : sS, z = s_put M 0 0 ((M 0 0) + ((((S 8 (sl_at S y f).toNatClampNeg) * (S 9 (sl_at S y f).toNatClampNeg)) / 100) + ((((S 8 (sl_at S y f).toNatClampNeg) * (S 9 (sl_at S y f).toNatClampNeg)) / 100) / 2))) := ⟨_, rfl⟩
          refine va_put (D := (dC, dI)) (ci := 3) (v := .int ((M 0 0) + ((((S 8 (sl_at S y f).toNatClampNeg) * (S 9 (sl_at S y f).toNatClampNeg)) / 100) + ((((S 8 (sl_at S y f).toNatClampNeg) * (S 9 (sl_at S y f).toNatClampNeg)) / 100) / 2)))) (ty := .int) (C := RX3) (T := TX3) (N := 6) hx hb hts hinX3 tyX3 tyX3_ok nmX3 hown hK hP hD hS 0 rfl rfl 4 (by decide) hf49 (fun _ h9 => h9) rfl (by decide +kernel) rfl rfl (Nat.le_of_ble_eq_true rfl) dX3_reap_129 (fun H locs hP hD hS => ?_)
          have hP : va_P (dC, dI) vwCl (oW k b t S8 ++ kW cI k S8 ++ bW k B ++ sW cI b S7 ++ sW cI t T) H := by rw [eS8]; exact hP
          have hD : va_D A (oW k b t S8 ++ kW cI k S8 ++ bW k B ++ sW cI b S7 ++ sW cI t T) := by rw [eS8]; exact hD
          refine lv_iload hx hb dX3_reap_132 (lv_at hl 0 rfl) ?_
          have hZ : S7 = rea_S S y f := (by (try rw [eS8]); (try rw [eS7]); first | done | rfl | (simp only [rea_M, rea_S, rea_V, rea_b, if_neg c_1, if_neg c_2, if_pos c_3, if_pos c_4]; done) | (unfold rea_M; simp only [if_neg c_1, if_neg c_2, if_pos c_3, if_pos c_4]; done))
          rw [hZ] at hP hD
          have hZ : S8 = rea_M M S y f := (by (try rw [eS8]); (try rw [eS7]); first | done | rfl | (simp only [rea_M, rea_S, rea_V, rea_b, if_neg c_1, if_neg c_2, if_pos c_3, if_pos c_4]; done) | (unfold rea_M; simp only [if_neg c_1, if_neg c_2, if_pos c_3, if_pos c_4]; done))
          rw [hZ] at hP hD
          exact zI_ret hx hb hr hlocks hP hD hS rfl (by (try rw [eS8]); (try rw [eS7]); first | done | rfl | (simp only [rea_M, rea_S, rea_V, rea_b, if_neg c_1, if_neg c_2, if_pos c_3, if_pos c_4]; done)) dX3_reap_134
      · have hT9 : rea_T S y f = 2 := by simp only [rea_T, if_neg c_1, if_neg c_2, if_neg c_3]
        exact absurd (hT.symm.trans hT9) (by decide)
  · have hT9 : rea_T S y f = 1 := by simp only [rea_T, if_pos c_1]
    exact absurd (hT.symm.trans hT9) (by decide)
set_option maxHeartbeats 4000000 in
set_option maxRecDepth 100000 in
theorem c_X3_pass (l : Launch) (dC : Nat → ClassId) (dI : Nat → Nat → Nat) (cI : ClassId) (k b t : Nat → Nat) (h w : Nat) (M B S T : sS) (x : Int32) (d : Nat) (hG0 : geo h w S) (hd : S 0 2 = nI d) (hd2 : d ≤ 2000) (hT : pas_T S x = 0) : zI l yX3_pass wsX3_pass { frames := 5, cells := 0, slots := 0, locals := 116 } (dC, dI) cI [.ref (k 0), .int x] (oW k b t M ++ kW cI k M ++ bW k B ++ sW cI b S ++ sW cI t T) (oW k b t M ++ kW cI k M ++ bW k B ++ sW cI b (pas_S h w M S x) ++ sW cI t T) (sl_sum h w (pas_S h w M S x) 7) := by
  refine zI_of (cc := cX3_pass) (maxL := 2) (ret := (some .int)) (by decide) rfl (Nat.le_of_ble_eq_true rfl) ?_
  intro p e s m below meth c A ls C0 hl
  obtain ⟨hx, hb, hr, hml, hown, hts, hlocks, hK, hN, hA, hP, hD, hS⟩ := C0
  have hown : s.vm.findClass RX3 = some m.cls := hown
  have hl : lv_has ls 2 [(0, .ref (k 0)), (1, .int x)] := hl
  have hf10 := hts (.fieldLink RX3 10 "PaddyTerraces" "calendar" "LPaddyTerraces$Calendar;") (by decide +kernel)
  have hf21 := hts (.fieldLink RX3 21 "PaddyTerraces" "slope" "LPaddyTerraces$Slope;") (by decide +kernel)
  have hf151 := hts (.fieldLink RX3 151 "PaddyTerraces$Slope" "day" "I") (by decide +kernel)
  have hinX2 : ∀ w ∈ wsX20, w ∈ wsX3_pass := by decide +kernel
  have hinX3 : ∀ w ∈ wsX30, w ∈ wsX3_pass := by decide +kernel
  have hS0 := hS
  have hN64 := geo_hw hG0
  obtain ⟨-, -, hh2, hh8, hw2, hw8⟩ := id hG0
  refine lv_iload_n hx hb dX3_pass_0 rfl (lv_at hl 1 rfl) ?_
  refine lv_iconst (v := 1) hx hb dX3_pass_1 (by decide) ?_
  refine lv_bipush (v := 60) hx hb dX3_pass_2 (by decide) ?_
  refine zI_S (pre := (oW k b t M ++ kW cI k M ++ bW k B ++ sW cI b S ++ sW cI t T)) (wc := ([] : va_W)) (post := ([] : va_W)) (w1 := ([] : va_W)) ⟨hx, hb, hml, hown, hts⟩ (c_X3_isWithin l dC dI cI x 1 60) (va_cwS 3 hts gX3_pass_X3_isWithin rfl rfl rfl (by decide +kernel) ⟨Nat.le_of_ble_eq_true rfl, Nat.le_of_ble_eq_true rfl⟩) (by simp only [List.append_assoc, List.append_nil, List.nil_append]) hK hN hP hD hS hA rfl hl.1 rfl (Nat.le_of_ble_eq_true rfl) dX3_pass_4 ⟨Nat.le_of_ble_eq_true rfl, Nat.le_of_ble_eq_true rfl⟩ (fun H locs hP hD hS => ?_)
  have hP : va_P (dC, dI) vwCl (oW k b t M ++ kW cI k M ++ bW k B ++ sW cI b S ++ sW cI t T) H := by simpa only [List.append_assoc, List.append_nil, List.nil_append] using hP
  have hD : va_D A (oW k b t M ++ kW cI k M ++ bW k B ++ sW cI b S ++ sW cI t T) := by simpa only [List.append_assoc, List.append_nil, List.nil_append] using hD
  refine lv_if_ne (tgt := 20) hx hb dX3_pass_7 (by decide) (fun c_1 => ?_) (fun c_1 => ?_)
  · refine lv_aload_n hx hb dX3_pass_20 rfl (lv_at hl 0 rfl) ?_
    refine va_get (D := (dC, dI)) (ci := 3) (v := .ref (b 0)) (C := RX3) (T := TX3) (N := 6) hx hb hts hinX3 hown hK hP 0 rfl rfl 1 (by decide) hf21 (fun _ h9 => h9) rfl dX3_pass_21 ?_
    refine va_get (D := (dC, dI)) (ci := 2) (v := .int (S 0 2)) (C := RX2) (T := TX2) (N := 18) hx hb hts hinX2 hown hK hP 6 rfl rfl 2 (by decide) hf151 (fun _ h9 => h9) rfl dX3_pass_24 ?_
    refine lv_iload_n hx hb dX3_pass_27 rfl (lv_at hl 1 rfl) ?_
    refine lv_iadd hx hb dX3_pass_28 ?_
    refine lv_sipush (v := 2000) hx hb dX3_pass_29 (by decide) ?_
    refine lv_icmp_le (tgt := 45) hx hb dX3_pass_32 (by decide) (fun c_2 => ?_) (fun c_2 => ?_)
    · refine lv_aload_n hx hb dX3_pass_45 rfl (lv_at hl 0 rfl) ?_
      refine va_get (D := (dC, dI)) (ci := 3) (v := .ref (b 0)) (C := RX3) (T := TX3) (N := 6) hx hb hts hinX3 hown hK hP 0 rfl rfl 1 (by decide) hf21 (fun _ h9 => h9) rfl dX3_pass_46 ?_
      refine lv_iload_n hx hb dX3_pass_49 rfl (lv_at hl 1 rfl) ?_
      refine lv_aload_n hx hb dX3_pass_50 rfl (lv_at hl 0 rfl) ?_
      refine va_get (D := (dC, dI)) (ci := 3) (v := .ref (k 1)) (C := RX3) (T := TX3) (N := 6) hx hb hts hinX3 hown hK hP 0 rfl rfl 0 (by decide) hf10 (fun _ h9 => h9) rfl dX3_pass_51 ?_
      have hP : va_P (dC, dI) vwCl (oW k b t M ++ bW k B ++ sW cI t T ++ sW cI b S ++ kW cI k M) _ := hP.sub (ws' := oW k b t M ++ bW k B ++ sW cI t T ++ sW cI b S ++ kW cI k M) [0, 5, 20, 21, 22, 23, 24, 25, 26, 27, 28, 29, 30, 31, 32, 33, 6, 7, 8, 9, 10, 11, 12, 13, 14, 15, 16, 17, 18, 19, 1, 2, 3, 4] rfl
      have hD : va_D A (oW k b t M ++ bW k B ++ sW cI t T ++ sW cI b S ++ kW cI k M) := hD.sub (ws' := oW k b t M ++ bW k B ++ sW cI t T ++ sW cI b S ++ kW cI k M) [0, 5, 20, 21, 22, 23, 24, 25, 26, 27, 28, 29, 30, 31, 32, 33, 6, 7, 8, 9, 10, 11, 12, 13, 14, 15, 16, 17, 18, 19, 1, 2, 3, 4] (by decide +kernel) rfl
      obtain ⟨S3, eS3⟩ : ∃ z : sS, z = sl_days h w M S x.toNatClampNeg := ⟨_, rfl⟩
      refine zV_V (pre := (oW k b t M ++ bW k B ++ sW cI t T)) (wc := sW cI b S ++ kW cI k M) (post := ([] : va_W)) (w1 := sW cI b S3 ++ kW cI k M) ⟨hx, hb, hml, hown, hts⟩ (by rw [eS3]; exact c_X2_letDaysGoByX l dC dI cI b k h w d x S M hG0 hd (isw_n c_1 (by decide)).1 (by have h9 : (x.toNatClampNeg : Int) ≤ 60 := (isw_n c_1 (by decide)).2.1; omega)) (cwV 2 hts gX3_pass_X2_letDaysGoBy rfl rfl rfl (by decide +kernel) ⟨Nat.le_of_ble_eq_true rfl, Nat.le_of_ble_eq_true rfl⟩) (by simp only [List.append_assoc, List.append_nil, List.nil_append]) hK hN (ci := 2) (q0 := 0) rfl rfl rfl hP hD hS hA rfl hl.1 rfl (Nat.le_of_ble_eq_true rfl) dX3_pass_54 ⟨Nat.le_of_ble_eq_true rfl, Nat.le_of_ble_eq_true rfl⟩ (fun H locs hP hD hS => ?_)
      have hP : va_P (dC, dI) vwCl (oW k b t M ++ bW k B ++ sW cI t T ++ sW cI b S3 ++ kW cI k M) H := by simpa only [List.append_assoc, List.append_nil, List.nil_append] using hP
      have hD : va_D A (oW k b t M ++ bW k B ++ sW cI t T ++ sW cI b S3 ++ kW cI k M) := by simpa only [List.append_assoc, List.append_nil, List.nil_append] using hD
      have hGS3 : geo h w S3 := by rw [eS3]; exact geo_days hG0 M _
      refine lv_aload_n hx hb dX3_pass_57 rfl (lv_at hl 0 rfl) ?_
      refine va_get (D := (dC, dI)) (ci := 3) (v := .ref (b 0)) (C := RX3) (T := TX3) (N := 6) hx hb hts hinX3 hown hK hP 0 rfl rfl 1 (by decide) hf21 (fun _ h9 => h9) rfl dX3_pass_58 ?_
      refine zI_V (pre := (oW k b t M ++ bW k B ++ sW cI t T)) (wc := sW cI b S3) (post := (kW cI k M)) (w1 := sW cI b S3) ⟨hx, hb, hml, hown, hts⟩ (c_X2_crops l dC dI cI b h w S3 hGS3) (cwV 0 hts gX3_pass_X2_crops rfl rfl rfl (by decide +kernel) ⟨Nat.le_of_ble_eq_true rfl, Nat.le_of_ble_eq_true rfl⟩) (by simp only [List.append_assoc, List.append_nil, List.nil_append]) hK hN (ci := 2) (q0 := 0) rfl rfl rfl hP hD hS hA rfl hl.1 rfl (Nat.le_of_ble_eq_true rfl) dX3_pass_61 ⟨Nat.le_of_ble_eq_true rfl, Nat.le_of_ble_eq_true rfl⟩ (fun H locs hP hD hS => ?_)
      have hP : va_P (dC, dI) vwCl (oW k b t M ++ bW k B ++ sW cI t T ++ sW cI b S3 ++ kW cI k M) H := by simpa only [List.append_assoc, List.append_nil, List.nil_append] using hP
      have hD : va_D A (oW k b t M ++ bW k B ++ sW cI t T ++ sW cI b S3 ++ kW cI k M) := by simpa only [List.append_assoc, List.append_nil, List.nil_append] using hD
      have hP : va_P (dC, dI) vwCl (oW k b t M ++ kW cI k M ++ bW k B ++ sW cI b S3 ++ sW cI t T) _ := hP.sub (ws' := oW k b t M ++ kW cI k M ++ bW k B ++ sW cI b S3 ++ sW cI t T) [0, 30, 31, 32, 33, 1, 16, 17, 18, 19, 20, 21, 22, 23, 24, 25, 26, 27, 28, 29, 2, 3, 4, 5, 6, 7, 8, 9, 10, 11, 12, 13, 14, 15] rfl
      have hD : va_D A (oW k b t M ++ kW cI k M ++ bW k B ++ sW cI b S3 ++ sW cI t T) := hD.sub (ws' := oW k b t M ++ kW cI k M ++ bW k B ++ sW cI b S3 ++ sW cI t T) [0, 30, 31, 32, 33, 1, 16, 17, 18, 19, 20, 21, 22, 23, 24, 25, 26, 27, 28, 29, 2, 3, 4, 5, 6, 7, 8, 9, 10, 11, 12, 13, 14, 15] (by decide +kernel) rfl
      have hZ : S3 = pas_S h w M S x := (by (try rw [eS3]); first | done | rfl | (simp only [pas_S, if_neg c_1, if_pos c_2]; done) | (unfold pas_S; simp only [if_neg c_1, if_pos c_2]; done))
      rw [hZ] at hP hD
      exact zI_ret hx hb hr hlocks hP hD hS rfl (by (try rw [eS3]); first | done | rfl | (simp only [pas_S, if_neg c_1, if_pos c_2]; done)) dX3_pass_64
    · have hT9 : pas_T S x = 2 := by simp only [pas_T, if_neg c_1, if_neg c_2]
      exact absurd (hT.symm.trans hT9) (by decide)
  · have hT9 : pas_T S x = 1 := by simp only [pas_T, if_pos c_1]
    exact absurd (hT.symm.trans hT9) (by decide)
set_option maxHeartbeats 4000000 in
set_option maxRecDepth 100000 in
theorem c_X3_field (l : Launch) (dC : Nat → ClassId) (dI : Nat → Nat → Nat) (cI : ClassId) (k b t : Nat → Nat) (h w : Nat) (M B S T : sS) (y f x : Int32) (hG0 : geo h w S) (hT : fld_T S y f x = 0) : zI l yX3_field wsX3_field { frames := 1, cells := 0, slots := 0, locals := 22 } (dC, dI) cI [.ref (k 0), .int y, .int f, .int x] (oW k b t M ++ kW cI k M ++ bW k B ++ sW cI b S ++ sW cI t T) (oW k b t M ++ kW cI k M ++ bW k B ++ sW cI b S ++ sW cI t T) (sl_field S (sl_at S y f) x) := by
  refine zI_of (cc := cX3_field) (maxL := 4) (ret := (some .int)) (by decide) rfl (Nat.le_of_ble_eq_true rfl) ?_
  intro p e s m below meth c A ls C0 hl
  obtain ⟨hx, hb, hr, hml, hown, hts, hlocks, hK, hN, hA, hP, hD, hS⟩ := C0
  have hown : s.vm.findClass RX3 = some m.cls := hown
  have hl : lv_has ls 4 [(0, .ref (k 0)), (1, .int y), (2, .int f), (3, .int x)] := hl
  have hf21 := hts (.fieldLink RX3 21 "PaddyTerraces" "slope" "LPaddyTerraces$Slope;") (by decide +kernel)
  have hinX3 : ∀ w ∈ wsX30, w ∈ wsX3_field := by decide +kernel
  have hS0 := hS
  have hN64 := geo_hw hG0
  obtain ⟨-, -, hh2, hh8, hw2, hw8⟩ := id hG0
  refine lv_aload_n hx hb dX3_field_0 rfl (lv_at hl 0 rfl) ?_
  refine va_get (D := (dC, dI)) (ci := 3) (v := .ref (b 0)) (C := RX3) (T := TX3) (N := 6) hx hb hts hinX3 hown hK hP 0 rfl rfl 1 (by decide) hf21 (fun _ h9 => h9) rfl dX3_field_1 ?_
  refine lv_iload_n hx hb dX3_field_4 rfl (lv_at hl 1 rfl) ?_
  refine lv_iload_n hx hb dX3_field_5 rfl (lv_at hl 2 rfl) ?_
  refine zI_V (pre := (oW k b t M ++ kW cI k M ++ bW k B)) (wc := sW cI b S) (post := (sW cI t T)) (w1 := sW cI b S) ⟨hx, hb, hml, hown, hts⟩ (c_X2_hasField l dC dI cI b S y f) (cwV 2 hts gX3_field_X2_hasField rfl rfl rfl (by decide +kernel) ⟨Nat.le_of_ble_eq_true rfl, Nat.le_of_ble_eq_true rfl⟩) (by simp only [List.append_assoc, List.append_nil, List.nil_append]) hK hN (ci := 2) (q0 := 0) rfl rfl rfl hP hD hS hA rfl hl.1 rfl (Nat.le_of_ble_eq_true rfl) dX3_field_6 ⟨Nat.le_of_ble_eq_true rfl, Nat.le_of_ble_eq_true rfl⟩ (fun H locs hP hD hS => ?_)
  have hP : va_P (dC, dI) vwCl (oW k b t M ++ kW cI k M ++ bW k B ++ sW cI b S ++ sW cI t T) H := by simpa only [List.append_assoc, List.append_nil, List.nil_append] using hP
  have hD : va_D A (oW k b t M ++ kW cI k M ++ bW k B ++ sW cI b S ++ sW cI t T) := by simpa only [List.append_assoc, List.append_nil, List.nil_append] using hD
  refine lv_if_eq (tgt := 22) hx hb dX3_field_9 (by decide) (fun c_1 => ?_) (fun c_1 => ?_)
  · have hT9 : fld_T S y f x = 1 := by simp only [fld_T, if_pos c_1]
    exact absurd (hT.symm.trans hT9) (by decide)
  · refine lv_iload_n hx hb dX3_field_12 rfl (lv_at hl 3 rfl) ?_
    refine lv_iconst (v := 0) hx hb dX3_field_13 (by decide) ?_
    refine lv_bipush (v := 11) hx hb dX3_field_14 (by decide) ?_
    refine zI_S (pre := (oW k b t M ++ kW cI k M ++ bW k B ++ sW cI b S ++ sW cI t T)) (wc := ([] : va_W)) (post := ([] : va_W)) (w1 := ([] : va_W)) ⟨hx, hb, hml, hown, hts⟩ (c_X3_isWithin l dC dI cI x 0 11) (va_cwS 3 hts gX3_field_X3_isWithin rfl rfl rfl (by decide +kernel) ⟨Nat.le_of_ble_eq_true rfl, Nat.le_of_ble_eq_true rfl⟩) (by simp only [List.append_assoc, List.append_nil, List.nil_append]) hK hN hP hD hS hA rfl hl.1 rfl (Nat.le_of_ble_eq_true rfl) dX3_field_16 ⟨Nat.le_of_ble_eq_true rfl, Nat.le_of_ble_eq_true rfl⟩ (fun H locs hP hD hS => ?_)
    have hP : va_P (dC, dI) vwCl (oW k b t M ++ kW cI k M ++ bW k B ++ sW cI b S ++ sW cI t T) H := by simpa only [List.append_assoc, List.append_nil, List.nil_append] using hP
    have hD : va_D A (oW k b t M ++ kW cI k M ++ bW k B ++ sW cI b S ++ sW cI t T) := by simpa only [List.append_assoc, List.append_nil, List.nil_append] using hD
    refine lv_if_ne (tgt := 32) hx hb dX3_field_19 (by decide) (fun c_2 => ?_) (fun c_2 => ?_)
    · refine lv_aload_n hx hb dX3_field_32 rfl (lv_at hl 0 rfl) ?_
      refine va_get (D := (dC, dI)) (ci := 3) (v := .ref (b 0)) (C := RX3) (T := TX3) (N := 6) hx hb hts hinX3 hown hK hP 0 rfl rfl 1 (by decide) hf21 (fun _ h9 => h9) rfl dX3_field_33 ?_
      refine lv_aload_n hx hb dX3_field_36 rfl (lv_at hl 0 rfl) ?_
      refine va_get (D := (dC, dI)) (ci := 3) (v := .ref (b 0)) (C := RX3) (T := TX3) (N := 6) hx hb hts hinX3 hown hK hP 0 rfl rfl 1 (by decide) hf21 (fun _ h9 => h9) rfl dX3_field_37 ?_
      refine lv_iload_n hx hb dX3_field_40 rfl (lv_at hl 1 rfl) ?_
      refine lv_iload_n hx hb dX3_field_41 rfl (lv_at hl 2 rfl) ?_
      refine zI_V (pre := (oW k b t M ++ kW cI k M ++ bW k B)) (wc := sW cI b S) (post := (sW cI t T)) (w1 := sW cI b S) ⟨hx, hb, hml, hown, hts⟩ (c_X2_cellOf l dC dI cI b S y f) (cwV 2 hts gX3_field_X2_cellOf rfl rfl rfl (by decide +kernel) ⟨Nat.le_of_ble_eq_true rfl, Nat.le_of_ble_eq_true rfl⟩) (by simp only [List.append_assoc, List.append_nil, List.nil_append]) hK hN (ci := 2) (q0 := 0) rfl rfl rfl hP hD hS hA rfl hl.1 rfl (Nat.le_of_ble_eq_true rfl) dX3_field_42 ⟨Nat.le_of_ble_eq_true rfl, Nat.le_of_ble_eq_true rfl⟩ (fun H locs hP hD hS => ?_)
      have hP : va_P (dC, dI) vwCl (oW k b t M ++ kW cI k M ++ bW k B ++ sW cI b S ++ sW cI t T) H := by simpa only [List.append_assoc, List.append_nil, List.nil_append] using hP
      have hD : va_D A (oW k b t M ++ kW cI k M ++ bW k B ++ sW cI b S ++ sW cI t T) := by simpa only [List.append_assoc, List.append_nil, List.nil_append] using hD
      refine lv_iload_n hx hb dX3_field_45 rfl (lv_at hl 3 rfl) ?_
      refine zI_V (pre := (oW k b t M ++ kW cI k M ++ bW k B)) (wc := sW cI b S) (post := (sW cI t T)) (w1 := sW cI b S) ⟨hx, hb, hml, hown, hts⟩ (c_X2_fieldNumber l dC dI cI b S (sl_at S y f) x (geo_in hG0 c_1)) (cwV 2 hts gX3_field_X2_fieldNumber rfl rfl rfl (by decide +kernel) ⟨Nat.le_of_ble_eq_true rfl, Nat.le_of_ble_eq_true rfl⟩) (by simp only [List.append_assoc, List.append_nil, List.nil_append]) hK hN (ci := 2) (q0 := 0) rfl rfl rfl hP hD hS hA rfl hl.1 rfl (Nat.le_of_ble_eq_true rfl) dX3_field_46 ⟨Nat.le_of_ble_eq_true rfl, Nat.le_of_ble_eq_true rfl⟩ (fun H locs hP hD hS => ?_)
      have hP : va_P (dC, dI) vwCl (oW k b t M ++ kW cI k M ++ bW k B ++ sW cI b S ++ sW cI t T) H := by simpa only [List.append_assoc, List.append_nil, List.nil_append] using hP
      have hD : va_D A (oW k b t M ++ kW cI k M ++ bW k B ++ sW cI b S ++ sW cI t T) := by simpa only [List.append_assoc, List.append_nil, List.nil_append] using hD
      exact zI_ret hx hb hr hlocks hP hD hS rfl rfl dX3_field_49
    · have hT9 : fld_T S y f x = 1 := by simp only [fld_T, if_neg c_1, if_pos c_2]
      exact absurd (hT.symm.trans hT9) (by decide)
set_option maxHeartbeats 4000000 in
set_option maxRecDepth 100000 in
theorem c_X3_count (l : Launch) (dC : Nat → ClassId) (dI : Nat → Nat → Nat) (cI : ClassId) (k b t : Nat → Nat) (h w : Nat) (M B S T : sS) (x : Int32) (hG0 : geo h w S) (hT : cnt_T x = 0) : zI l yX3_count wsX3_count { frames := 4, cells := 0, slots := 0, locals := 84 } (dC, dI) cI [.ref (k 0), .int x] (oW k b t M ++ kW cI k M ++ bW k B ++ sW cI b S ++ sW cI t T) (oW k b t M ++ kW cI k M ++ bW k B ++ sW cI b S ++ sW cI t T) (x3_count h w M S x) := by
  refine zI_of (cc := cX3_count) (maxL := 2) (ret := (some .int)) (by decide) rfl (Nat.le_of_ble_eq_true rfl) ?_
  intro p e s m below meth c A ls C0 hl
  obtain ⟨hx, hb, hr, hml, hown, hts, hlocks, hK, hN, hA, hP, hD, hS⟩ := C0
  have hown : s.vm.findClass RX3 = some m.cls := hown
  have hl : lv_has ls 2 [(0, .ref (k 0)), (1, .int x)] := hl
  have hS0 := hS
  have hN64 := geo_hw hG0
  obtain ⟨-, -, hh2, hh8, hw2, hw8⟩ := id hG0
  refine lv_iload_n hx hb dX3_count_0 rfl (lv_at hl 1 rfl) ?_
  refine lv_iconst (v := 0) hx hb dX3_count_1 (by decide) ?_
  refine lv_bipush (v := 8) hx hb dX3_count_2 (by decide) ?_
  refine zI_S (pre := (oW k b t M ++ kW cI k M ++ bW k B ++ sW cI b S ++ sW cI t T)) (wc := ([] : va_W)) (post := ([] : va_W)) (w1 := ([] : va_W)) ⟨hx, hb, hml, hown, hts⟩ (c_X3_isWithin l dC dI cI x 0 8) (va_cwS 3 hts gX3_count_X3_isWithin rfl rfl rfl (by decide +kernel) ⟨Nat.le_of_ble_eq_true rfl, Nat.le_of_ble_eq_true rfl⟩) (by simp only [List.append_assoc, List.append_nil, List.nil_append]) hK hN hP hD hS hA rfl hl.1 rfl (Nat.le_of_ble_eq_true rfl) dX3_count_4 ⟨Nat.le_of_ble_eq_true rfl, Nat.le_of_ble_eq_true rfl⟩ (fun H locs hP hD hS => ?_)
  have hP : va_P (dC, dI) vwCl (oW k b t M ++ kW cI k M ++ bW k B ++ sW cI b S ++ sW cI t T) H := by simpa only [List.append_assoc, List.append_nil, List.nil_append] using hP
  have hD : va_D A (oW k b t M ++ kW cI k M ++ bW k B ++ sW cI b S ++ sW cI t T) := by simpa only [List.append_assoc, List.append_nil, List.nil_append] using hD
  refine lv_if_ne (tgt := 20) hx hb dX3_count_7 (by decide) (fun c_1 => ?_) (fun c_1 => ?_)
  · refine lv_aload_n hx hb dX3_count_20 rfl (lv_at hl 0 rfl) ?_
    refine lv_iload_n hx hb dX3_count_21 rfl (lv_at hl 1 rfl) ?_
    refine zI_V (pre := ([] : va_W)) (wc := oW k b t M ++ kW cI k M ++ bW k B ++ sW cI b S ++ sW cI t T) (post := ([] : va_W)) (w1 := oW k b t M ++ kW cI k M ++ bW k B ++ sW cI b S ++ sW cI t T) ⟨hx, hb, hml, hown, hts⟩ (c_X3_countNumber l dC dI cI k b t h w M B S T x hG0) (cwV 1 hts gX3_count_X3_countNumber rfl rfl rfl (by decide +kernel) ⟨Nat.le_of_ble_eq_true rfl, Nat.le_of_ble_eq_true rfl⟩) (by simp only [List.append_assoc, List.append_nil, List.nil_append]) hK hN (ci := 3) (q0 := 0) rfl rfl rfl hP hD hS hA rfl hl.1 rfl (Nat.le_of_ble_eq_true rfl) dX3_count_22 ⟨Nat.le_of_ble_eq_true rfl, Nat.le_of_ble_eq_true rfl⟩ (fun H locs hP hD hS => ?_)
    have hP : va_P (dC, dI) vwCl (oW k b t M ++ kW cI k M ++ bW k B ++ sW cI b S ++ sW cI t T) H := by simpa only [List.append_assoc, List.append_nil, List.nil_append] using hP
    have hD : va_D A (oW k b t M ++ kW cI k M ++ bW k B ++ sW cI b S ++ sW cI t T) := by simpa only [List.append_assoc, List.append_nil, List.nil_append] using hD
    exact zI_ret hx hb hr hlocks hP hD hS rfl rfl dX3_count_25
  · have hT9 : cnt_T x = 1 := by simp only [cnt_T, if_pos c_1]
    exact absurd (hT.symm.trans hT9) (by decide)
set_option maxHeartbeats 4000000 in
set_option maxRecDepth 100000 in
theorem c_X3_foresee (l : Launch) (dC : Nat → ClassId) (dI : Nat → Nat → Nat) (cI : ClassId) (k b t : Nat → Nat) (h w : Nat) (M B S T : sS) (i x : Int32) (d : Nat) (hG0 : geo h w S) (hd : S 0 2 = nI d) (hd2 : d ≤ 2000) (hT : for_T S i x = 0) : zI l yX3_foresee wsX3_foresee { frames := 5, cells := 0, slots := 0, locals := 116 } (dC, dI) cI [.ref (k 0), .int i, .int x] (oW k b t M ++ kW cI k M ++ bW k B ++ sW cI b S ++ sW cI t T) (oW k b t M ++ kW cI k M ++ bW k B ++ sW cI b S ++ sW cI t (pas_S h w M S i)) (x3_fore h w S (pas_S h w M S i) x) := by
  refine zI_of (cc := cX3_foresee) (maxL := 3) (ret := (some .int)) (by decide) rfl (Nat.le_of_ble_eq_true rfl) ?_
  intro p e s m below meth c A ls C0 hl
  obtain ⟨hx, hb, hr, hml, hown, hts, hlocks, hK, hN, hA, hP, hD, hS⟩ := C0
  have hown : s.vm.findClass RX3 = some m.cls := hown
  have hl : lv_has ls 3 [(0, .ref (k 0)), (1, .int i), (2, .int x)] := hl
  have hf10 := hts (.fieldLink RX3 10 "PaddyTerraces" "calendar" "LPaddyTerraces$Calendar;") (by decide +kernel)
  have hf21 := hts (.fieldLink RX3 21 "PaddyTerraces" "slope" "LPaddyTerraces$Slope;") (by decide +kernel)
  have hf25 := hts (.fieldLink RX3 25 "PaddyTerraces" "trial" "LPaddyTerraces$Slope;") (by decide +kernel)
  have hf151 := hts (.fieldLink RX3 151 "PaddyTerraces$Slope" "day" "I") (by decide +kernel)
  have hinX2 : ∀ w ∈ wsX20, w ∈ wsX3_foresee := by decide +kernel
  have hinX3 : ∀ w ∈ wsX30, w ∈ wsX3_foresee := by decide +kernel
  have hS0 := hS
  have hN64 := geo_hw hG0
  obtain ⟨-, -, hh2, hh8, hw2, hw8⟩ := id hG0
  refine lv_iload_n hx hb dX3_foresee_0 rfl (lv_at hl 1 rfl) ?_
  refine lv_iconst (v := 1) hx hb dX3_foresee_1 (by decide) ?_
  refine lv_bipush (v := 20) hx hb dX3_foresee_2 (by decide) ?_
  refine zI_S (pre := (oW k b t M ++ kW cI k M ++ bW k B ++ sW cI b S ++ sW cI t T)) (wc := ([] : va_W)) (post := ([] : va_W)) (w1 := ([] : va_W)) ⟨hx, hb, hml, hown, hts⟩ (c_X3_isWithin l dC dI cI i 1 20) (va_cwS 3 hts gX3_foresee_X3_isWithin rfl rfl rfl (by decide +kernel) ⟨Nat.le_of_ble_eq_true rfl, Nat.le_of_ble_eq_true rfl⟩) (by simp only [List.append_assoc, List.append_nil, List.nil_append]) hK hN hP hD hS hA rfl hl.1 rfl (Nat.le_of_ble_eq_true rfl) dX3_foresee_4 ⟨Nat.le_of_ble_eq_true rfl, Nat.le_of_ble_eq_true rfl⟩ (fun H locs hP hD hS => ?_)
  have hP : va_P (dC, dI) vwCl (oW k b t M ++ kW cI k M ++ bW k B ++ sW cI b S ++ sW cI t T) H := by simpa only [List.append_assoc, List.append_nil, List.nil_append] using hP
  have hD : va_D A (oW k b t M ++ kW cI k M ++ bW k B ++ sW cI b S ++ sW cI t T) := by simpa only [List.append_assoc, List.append_nil, List.nil_append] using hD
  refine lv_if_ne (tgt := 20) hx hb dX3_foresee_7 (by decide) (fun c_1 => ?_) (fun c_1 => ?_)
  · refine lv_iload_n hx hb dX3_foresee_20 rfl (lv_at hl 2 rfl) ?_
    refine lv_iconst (v := 0) hx hb dX3_foresee_21 (by decide) ?_
    refine lv_iconst (v := 3) hx hb dX3_foresee_22 (by decide) ?_
    refine zI_S (pre := (oW k b t M ++ kW cI k M ++ bW k B ++ sW cI b S ++ sW cI t T)) (wc := ([] : va_W)) (post := ([] : va_W)) (w1 := ([] : va_W)) ⟨hx, hb, hml, hown, hts⟩ (c_X3_isWithin l dC dI cI x 0 3) (va_cwS 3 hts gX3_foresee_X3_isWithin rfl rfl rfl (by decide +kernel) ⟨Nat.le_of_ble_eq_true rfl, Nat.le_of_ble_eq_true rfl⟩) (by simp only [List.append_assoc, List.append_nil, List.nil_append]) hK hN hP hD hS hA rfl hl.1 rfl (Nat.le_of_ble_eq_true rfl) dX3_foresee_23 ⟨Nat.le_of_ble_eq_true rfl, Nat.le_of_ble_eq_true rfl⟩ (fun H locs hP hD hS => ?_)
    have hP : va_P (dC, dI) vwCl (oW k b t M ++ kW cI k M ++ bW k B ++ sW cI b S ++ sW cI t T) H := by simpa only [List.append_assoc, List.append_nil, List.nil_append] using hP
    have hD : va_D A (oW k b t M ++ kW cI k M ++ bW k B ++ sW cI b S ++ sW cI t T) := by simpa only [List.append_assoc, List.append_nil, List.nil_append] using hD
    refine lv_if_ne (tgt := 39) hx hb dX3_foresee_26 (by decide) (fun c_2 => ?_) (fun c_2 => ?_)
    · refine lv_aload_n hx hb dX3_foresee_39 rfl (lv_at hl 0 rfl) ?_
      refine va_get (D := (dC, dI)) (ci := 3) (v := .ref (b 0)) (C := RX3) (T := TX3) (N := 6) hx hb hts hinX3 hown hK hP 0 rfl rfl 1 (by decide) hf21 (fun _ h9 => h9) rfl dX3_foresee_40 ?_
      refine va_get (D := (dC, dI)) (ci := 2) (v := .int (S 0 2)) (C := RX2) (T := TX2) (N := 18) hx hb hts hinX2 hown hK hP 6 rfl rfl 2 (by decide) hf151 (fun _ h9 => h9) rfl dX3_foresee_43 ?_
      refine lv_iload_n hx hb dX3_foresee_46 rfl (lv_at hl 1 rfl) ?_
      refine lv_iadd hx hb dX3_foresee_47 ?_
      refine lv_sipush (v := 2000) hx hb dX3_foresee_48 (by decide) ?_
      refine lv_icmp_le (tgt := 64) hx hb dX3_foresee_51 (by decide) (fun c_3 => ?_) (fun c_3 => ?_)
      · refine lv_aload_n hx hb dX3_foresee_64 rfl (lv_at hl 0 rfl) ?_
        refine va_get (D := (dC, dI)) (ci := 3) (v := .ref (t 0)) (C := RX3) (T := TX3) (N := 6) hx hb hts hinX3 hown hK hP 0 rfl rfl 2 (by decide) hf25 (fun _ h9 => h9) rfl dX3_foresee_65 ?_
        refine lv_aload_n hx hb dX3_foresee_68 rfl (lv_at hl 0 rfl) ?_
        refine va_get (D := (dC, dI)) (ci := 3) (v := .ref (b 0)) (C := RX3) (T := TX3) (N := 6) hx hb hts hinX3 hown hK hP 0 rfl rfl 1 (by decide) hf21 (fun _ h9 => h9) rfl dX3_foresee_69 ?_
        have hP : va_P (dC, dI) vwCl (oW k b t M ++ kW cI k M ++ bW k B ++ sW cI t T ++ sW cI b S) _ := hP.sub (ws' := oW k b t M ++ kW cI k M ++ bW k B ++ sW cI t T ++ sW cI b S) [0, 1, 2, 3, 4, 5, 20, 21, 22, 23, 24, 25, 26, 27, 28, 29, 30, 31, 32, 33, 6, 7, 8, 9, 10, 11, 12, 13, 14, 15, 16, 17, 18, 19] rfl
        have hD : va_D A (oW k b t M ++ kW cI k M ++ bW k B ++ sW cI t T ++ sW cI b S) := hD.sub (ws' := oW k b t M ++ kW cI k M ++ bW k B ++ sW cI t T ++ sW cI b S) [0, 1, 2, 3, 4, 5, 20, 21, 22, 23, 24, 25, 26, 27, 28, 29, 30, 31, 32, 33, 6, 7, 8, 9, 10, 11, 12, 13, 14, 15, 16, 17, 18, 19] (by decide +kernel) rfl
        obtain ⟨S4, eS4⟩ : ∃ z : sS, z = S := ⟨_, rfl⟩
        refine zV_V (pre := (oW k b t M ++ kW cI k M ++ bW k B)) (wc := sW cI t T ++ sW cI b S) (post := ([] : va_W)) (w1 := sW cI t S4 ++ sW cI b S) ⟨hx, hb, hml, hown, hts⟩ (by rw [eS4]; exact c_X2_copyFrom l dC dI cI t b S T) (cwV 1 hts gX3_foresee_X2_copyFrom rfl rfl rfl (by decide +kernel) ⟨Nat.le_of_ble_eq_true rfl, Nat.le_of_ble_eq_true rfl⟩) (by simp only [List.append_assoc, List.append_nil, List.nil_append]) hK hN (ci := 2) (q0 := 0) rfl rfl rfl hP hD hS hA rfl hl.1 rfl (Nat.le_of_ble_eq_true rfl) dX3_foresee_72 ⟨Nat.le_of_ble_eq_true rfl, Nat.le_of_ble_eq_true rfl⟩ (fun H locs hP hD hS => ?_)
        have hP : va_P (dC, dI) vwCl (oW k b t M ++ kW cI k M ++ bW k B ++ sW cI t S4 ++ sW cI b S) H := by simpa only [List.append_assoc, List.append_nil, List.nil_append] using hP
        have hD : va_D A (oW k b t M ++ kW cI k M ++ bW k B ++ sW cI t S4 ++ sW cI b S) := by simpa only [List.append_assoc, List.append_nil, List.nil_append] using hD
        have hGS4 : geo h w S4 := by rw [eS4]; exact hG0
        refine lv_aload_n hx hb dX3_foresee_75 rfl (lv_at hl 0 rfl) ?_
        refine va_get (D := (dC, dI)) (ci := 3) (v := .ref (t 0)) (C := RX3) (T := TX3) (N := 6) hx hb hts hinX3 hown hK hP 0 rfl rfl 2 (by decide) hf25 (fun _ h9 => h9) rfl dX3_foresee_76 ?_
        refine lv_iload_n hx hb dX3_foresee_79 rfl (lv_at hl 1 rfl) ?_
        refine lv_aload_n hx hb dX3_foresee_80 rfl (lv_at hl 0 rfl) ?_
        refine va_get (D := (dC, dI)) (ci := 3) (v := .ref (k 1)) (C := RX3) (T := TX3) (N := 6) hx hb hts hinX3 hown hK hP 0 rfl rfl 0 (by decide) hf10 (fun _ h9 => h9) rfl dX3_foresee_81 ?_
        have hP : va_P (dC, dI) vwCl (oW k b t M ++ bW k B ++ sW cI b S ++ sW cI t S4 ++ kW cI k M) _ := hP.sub (ws' := oW k b t M ++ bW k B ++ sW cI b S ++ sW cI t S4 ++ kW cI k M) [0, 5, 20, 21, 22, 23, 24, 25, 26, 27, 28, 29, 30, 31, 32, 33, 6, 7, 8, 9, 10, 11, 12, 13, 14, 15, 16, 17, 18, 19, 1, 2, 3, 4] rfl
        have hD : va_D A (oW k b t M ++ bW k B ++ sW cI b S ++ sW cI t S4 ++ kW cI k M) := hD.sub (ws' := oW k b t M ++ bW k B ++ sW cI b S ++ sW cI t S4 ++ kW cI k M) [0, 5, 20, 21, 22, 23, 24, 25, 26, 27, 28, 29, 30, 31, 32, 33, 6, 7, 8, 9, 10, 11, 12, 13, 14, 15, 16, 17, 18, 19, 1, 2, 3, 4] (by decide +kernel) rfl
        obtain ⟨S5, eS5⟩ : ∃ z : sS, z = sl_days h w M S4 i.toNatClampNeg := ⟨_, rfl⟩
        refine zV_V (pre := (oW k b t M ++ bW k B ++ sW cI b S)) (wc := sW cI t S4 ++ kW cI k M) (post := ([] : va_W)) (w1 := sW cI t S5 ++ kW cI k M) ⟨hx, hb, hml, hown, hts⟩ (by rw [eS5]; exact c_X2_letDaysGoByX l dC dI cI t k h w d i S4 M hGS4 (by rw [eS4]; exact hd) (isw_n c_1 (by decide)).1 (by have h9 : (i.toNatClampNeg : Int) ≤ 20 := (isw_n c_1 (by decide)).2.1; omega)) (cwV 2 hts gX3_foresee_X2_letDaysGoBy rfl rfl rfl (by decide +kernel) ⟨Nat.le_of_ble_eq_true rfl, Nat.le_of_ble_eq_true rfl⟩) (by simp only [List.append_assoc, List.append_nil, List.nil_append]) hK hN (ci := 2) (q0 := 0) rfl rfl rfl hP hD hS hA rfl hl.1 rfl (Nat.le_of_ble_eq_true rfl) dX3_foresee_84 ⟨Nat.le_of_ble_eq_true rfl, Nat.le_of_ble_eq_true rfl⟩ (fun H locs hP hD hS => ?_)
        have hP : va_P (dC, dI) vwCl (oW k b t M ++ bW k B ++ sW cI b S ++ sW cI t S5 ++ kW cI k M) H := by simpa only [List.append_assoc, List.append_nil, List.nil_append] using hP
        have hD : va_D A (oW k b t M ++ bW k B ++ sW cI b S ++ sW cI t S5 ++ kW cI k M) := by simpa only [List.append_assoc, List.append_nil, List.nil_append] using hD
        have hGS5 : geo h w S5 := by rw [eS5]; exact geo_days hGS4 M _
        refine lv_aload_n hx hb dX3_foresee_87 rfl (lv_at hl 0 rfl) ?_
        refine lv_iload_n hx hb dX3_foresee_88 rfl (lv_at hl 2 rfl) ?_
        have hP : va_P (dC, dI) vwCl (oW k b t M ++ kW cI k M ++ bW k B ++ sW cI b S ++ sW cI t S5) _ := hP.sub (ws' := oW k b t M ++ kW cI k M ++ bW k B ++ sW cI b S ++ sW cI t S5) [0, 30, 31, 32, 33, 1, 2, 3, 4, 5, 6, 7, 8, 9, 10, 11, 12, 13, 14, 15, 16, 17, 18, 19, 20, 21, 22, 23, 24, 25, 26, 27, 28, 29] rfl
        have hD : va_D A (oW k b t M ++ kW cI k M ++ bW k B ++ sW cI b S ++ sW cI t S5) := hD.sub (ws' := oW k b t M ++ kW cI k M ++ bW k B ++ sW cI b S ++ sW cI t S5) [0, 30, 31, 32, 33, 1, 2, 3, 4, 5, 6, 7, 8, 9, 10, 11, 12, 13, 14, 15, 16, 17, 18, 19, 20, 21, 22, 23, 24, 25, 26, 27, 28, 29] (by decide +kernel) rfl
        refine zI_V (pre := ([] : va_W)) (wc := oW k b t M ++ kW cI k M ++ bW k B ++ sW cI b S ++ sW cI t S5) (post := ([] : va_W)) (w1 := oW k b t M ++ kW cI k M ++ bW k B ++ sW cI b S ++ sW cI t S5) ⟨hx, hb, hml, hown, hts⟩ (c_X3_foreseenNumber l dC dI cI k b t h w M B S S5 x hG0 hGS5) (cwV 1 hts gX3_foresee_X3_foreseenNumber rfl rfl rfl (by decide +kernel) ⟨Nat.le_of_ble_eq_true rfl, Nat.le_of_ble_eq_true rfl⟩) (by simp only [List.append_assoc, List.append_nil, List.nil_append]) hK hN (ci := 3) (q0 := 0) rfl rfl rfl hP hD hS hA rfl hl.1 rfl (Nat.le_of_ble_eq_true rfl) dX3_foresee_89 ⟨Nat.le_of_ble_eq_true rfl, Nat.le_of_ble_eq_true rfl⟩ (fun H locs hP hD hS => ?_)
        have hP : va_P (dC, dI) vwCl (oW k b t M ++ kW cI k M ++ bW k B ++ sW cI b S ++ sW cI t S5) H := by simpa only [List.append_assoc, List.append_nil, List.nil_append] using hP
        have hD : va_D A (oW k b t M ++ kW cI k M ++ bW k B ++ sW cI b S ++ sW cI t S5) := by simpa only [List.append_assoc, List.append_nil, List.nil_append] using hD
        have hZ : S5 = pas_S h w M S i := (by (try rw [eS5]); (try rw [eS4]); first | done | rfl | (simp only [pas_S, if_neg c_1, if_neg c_2, if_pos c_3]; done) | (unfold pas_S; simp only [if_neg c_1, if_neg c_2, if_pos c_3]; done))
        rw [hZ] at hP hD
        exact zI_ret hx hb hr hlocks hP hD hS rfl (by (try rw [eS5]); (try rw [eS4]); first | done | rfl | (simp only [pas_S, if_neg c_1, if_neg c_2, if_pos c_3]; done)) dX3_foresee_92
      · have hT9 : for_T S i x = 3 := by simp only [for_T, if_neg c_1, if_neg c_2, if_neg c_3]
        exact absurd (hT.symm.trans hT9) (by decide)
    · have hT9 : for_T S i x = 2 := by simp only [for_T, if_neg c_1, if_pos c_2]
      exact absurd (hT.symm.trans hT9) (by decide)
  · have hT9 : for_T S i x = 1 := by simp only [for_T, if_pos c_1]
    exact absurd (hT.symm.trans hT9) (by decide)
end
section
/-! contracts of methods that answer a double and may draw -/
def zD (l : Launch) (y : MethodName) (ws : List Cond) (rm : Room) (D : va_G) (cI : ClassId) (As : List Value) (wc w1 : va_W) (v : UInt64) : Prop :=
  ∀ sz : Nat, MetD lw_cs l y ws rm (va_Pc As (zPre D cI wc sz)) (va_Qd (fun (r : UInt64) (_ : Unit) => alike64 r v = true) (fun _ t => zEnd D w1 (va_A wc sz) t) (va_A wc sz)) 0 0 (va_A wc sz)
def zDq (D : va_G) (A : Nat → Prop) (w1 : va_W) (v : UInt64) (below : List Frame) (args : Array Value) (s : State) : State → Prop :=
  MQD lw_cs below (va_Qd (fun (r : UInt64) (_ : Unit) => alike64 r v = true) (fun _ t => zEnd D w1 A t) A) args s 0 0 A
theorem zN_d {s : State} (h : zN s) (d : Drawn) : zN (s.setDrawn d) := ⟨va_Nw.same (u := s) (U := s.setDrawn d) rfl rfl h.1, va_Nw.same (u := s) (U := s.setDrawn d) rfl rfl h.2⟩
theorem zD_of {l : Launch} {y : MethodName} {ws ws' : List Cond} {rm : Room} {D : va_G} {cI : ClassId} {As : List Value} {wc w1 : va_W} {cc : ByteArray} {maxL : Nat} {ret : Option FieldType} {v : UInt64} (hy : plainName y.cls = true) (hw : ws = Cond.code y cc maxL ret :: ws') (hlen : (lg_sl As).length ≤ maxL)
    (body : ∀ (p : Program) (e : Env) (s : State) (m : MethodId) (below : List Frame) (meth : Method) (c : Code) (A : Nat → Prop) (ls : Array Slot), zAt p (s.setDrawn s.drawn) m meth c D cI y cc maxL ret ws As.toArray A wc → s.drawn.sameBut s.drawn lw_cs → lv_has ls maxL (lv_args 0 As) → W p l e rm (s.setDrawn s.drawn) m As.toArray below meth c s.heap [] 0 0 (zDq D A w1 v below As.toArray s) (F0 m 0 ls [])) : zD l y ws rm D cI As wc w1 v := by
  intro sz
  refine MetD.ofW (cc := cc) (maxL := maxL) (ret := ret) hy hw ?_
  intro p e s m args below meth c s₁ B hml hv hd0
  obtain ⟨rfl, hsz, hP, hK, hD0, hN⟩ := hv
  subst hsz
  rw [lg_entry_eq]
  exact body p e s m below meth c _ _ ⟨B.exec, B.bytes, B.returns, hml, findClass_of_methodNamed B.named, dr_words (atoms_spec (ws := ws) B.pre) _, B.notSynchronized, hK, zN_d hN _, fun q h => Or.inr h, hP, hD0.self (sz := s.heap.size), va_S.rf⟩ hd0 (lv_entry As hlen)
section ZD
variable {p : Program} {l : Launch} {e : Env} {R : Room} {s : State} {m : MethodId} {args : Array Value} {below : List Frame} {meth : Method} {c : Code} {H : Heap} {locs : List Loc} {Q : State → Prop}
variable {D : va_G} {cI : ClassId} {A : Nat → Prop} {H0 : Heap} {pc : Nat} {ls : Array Slot} {st0 rest : List Value} {ww pre wc post w1 : va_W} {cc : ByteArray} {v : UInt64} {d0 : Drawn}
theorem zD_ret {x : UInt64} (hd0 : s.drawn.sameBut d0 lw_cs) (hx : p.tables.exec = Jvm.exec) (hb : c.code = cc) (hr : meth.sig.returnType = some .double) (hlocks : meth.locks = false) (hP : va_P D vwCl w1 H) (hD : va_D A w1) (hS : va_S A s.heap H locs) (hv : alike64 x v = true) (hdg : decode cc pc = .ok (.dreturn, 1)) : W p l e R (s.setDrawn d0) m args below meth c H locs 0 0 (zDq D A w1 v below args s) (F0 m pc ls [.double x]) := by
  refine W.endD hd0 ?_
  exact W.dret (hlocks := hlocks) hx hb hr (fun t ht _ => ⟨⟨x, (), rfl, hv, by rw [ht]; exact hP, hD⟩, hS.F ht⟩) hS.2.2 hdg
variable {cells slots : Nat} {y : MethodName} {bytes : ByteArray} {maxL nL n index ci q0 : Nat} {ret : Option FieldType} {ws : List Cond} {rm : Room} {Ts : List Cond} {own C : String} {b : Addr} {As : List Value} {q : vw_C} {fs : List Value}
theorem zD_V (hd0 : s.drawn.sameBut d0 lw_cs) (S : CallFix p m c cc nL (s.setDrawn d0) args Ts own) (hM : zD l y ws rm D cI (.ref b :: As) wc w1 v) (cw : CallW R (s.setDrawn d0) args own C index y bytes maxL ret ws rm 0 0 n) (hw : ww = pre ++ wc ++ post) (hK : va_K D vwCl [(cI, .int)] s) (hN : zN s) (hc : vwCl[ci]? = some q) (hq : q.1 = C) (he : wc[q0]? = some (b, .inr (ci, fs)))
    (hP : va_P D vwCl ww H) (hD : va_D A ww) (hS : va_S A H0 H locs) (hA : ∀ q, H0.size ≤ q → A q) (hn : As.length = n) (hsize : ls.size = nL) (hst : st0 = As.reverse ++ .ref b :: rest) (hW : (rest.map fun v => v.category).sum ≤ 8) (hdg : decode cc pc = .ok (.invokevirtual index, 3)) (hcs : cells ≤ R.cells ∧ slots ≤ R.slots)
    (kk : ∀ (r : UInt64) (H1 : Heap) (locs1 : List Loc), alike64 r v = true → va_P D vwCl (pre ++ w1 ++ post) H1 → va_D A (pre ++ w1 ++ post) → va_S A H0 H1 locs1 → ∀ d1 : Drawn, s.drawn.sameBut d1 lw_cs → W p l e R (s.setDrawn d1) m args below meth c H1 locs1 cells slots Q (F0 m (pc + 3) ls (.double r :: rest))) : W p l e R (s.setDrawn d0) m args below meth c H locs cells slots Q (F0 m pc ls st0) := by
  subst hst
  have hPc := z_P hw hP
  have hF := z_F hw hD hS hA
  refine va_calldD hd0 (va_runV_D (As := As) (rest := rest) S (hM H.size) cw ⟨zPre_blind, by rw [← hq]; exact va_recv (s := s) hK hPc hc he, fun U hU hW => ⟨rfl, zPre_at (s := s.setDrawn d0) hU hW hK (zN_d hN d0) hPc (z_D hw hD)⟩⟩ rfl hn hsize rfl (lv_room hW) hdg hcs) hS (fun q _ h => hF q h) hF (fun r u t H1 locs1 ht _ hp hB _ hk hS1 d1 hd1 => ?_)
  obtain ⟨hP1, hD1⟩ := hB
  rw [ht] at hP1
  obtain ⟨hP2, hD2⟩ := z_join hw hP hD hk hF hP1 hD1
  exact kk r H1 locs1 hp hP2 hD2 hS1 d1 hd1
end ZD
end
section
set_option maxHeartbeats 4000000 in
set_option maxRecDepth 100000 in
theorem c_X3_depth (l : Launch) (dC : Nat → ClassId) (dI : Nat → Nat → Nat) (cI : ClassId) (k b t : Nat → Nat) (h w : Nat) (M B S T : sS) (hG0 : geo h w S) : zD l yX3_depth wsX3_depth { frames := 3, cells := 0, slots := 0, locals := 63 } (dC, dI) cI [.ref (k 0)] (oW k b t M ++ kW cI k M ++ bW k B ++ sW cI b S ++ sW cI t T) (oW k b t M ++ kW cI k M ++ bW k B ++ sW cI b S ++ sW cI t T) (FP.ddiv (FP.i2d (sl_sum h w S 2)) (FP.i2d (sl_cells S))) := by
  refine zD_of (cc := cX3_depth) (maxL := 2) (ret := (some .double)) (by decide) rfl (Nat.le_of_ble_eq_true rfl) ?_
  intro p e s m below meth c A ls C0 hd0 hl
  obtain ⟨hx, hb, hr, hml, hown, hts, hlocks, hK, hN, hA, hP, hD, hS⟩ := C0
  have hown : s.vm.findClass RX3 = some m.cls := hown
  have hl : lv_has ls 2 [(0, .ref (k 0))] := hl
  have hf21 := hts (.fieldLink RX3 21 "PaddyTerraces" "slope" "LPaddyTerraces$Slope;") (by decide +kernel)
  have hinX3 : ∀ w ∈ wsX30, w ∈ wsX3_depth := by decide +kernel
  have hS0 := hS
  have hN64 := geo_hw hG0
  obtain ⟨-, -, hh2, hh8, hw2, hw8⟩ := id hG0
  refine lv_aload_n hx hb dX3_depth_0 rfl (lv_at hl 0 rfl) ?_
  refine va_get (D := (dC, dI)) (ci := 3) (v := .ref (b 0)) (C := RX3) (T := TX3) (N := 6) hx hb hts hinX3 hown hK hP 0 rfl rfl 1 (by decide) hf21 (fun _ h9 => h9) rfl dX3_depth_1 ?_
  refine zI_V (pre := (oW k b t M ++ kW cI k M ++ bW k B)) (wc := sW cI b S) (post := (sW cI t T)) (w1 := sW cI b S) ⟨hx, hb, hml, hown, hts⟩ (c_X2_cells l dC dI cI b S) (cwV 0 hts gX3_depth_X2_cells rfl rfl rfl (by decide +kernel) ⟨Nat.le_of_ble_eq_true rfl, Nat.le_of_ble_eq_true rfl⟩) (by simp only [List.append_assoc, List.append_nil, List.nil_append]) hK hN (ci := 2) (q0 := 0) rfl rfl rfl hP hD hS hA rfl hl.1 rfl (Nat.le_of_ble_eq_true rfl) dX3_depth_4 ⟨Nat.le_of_ble_eq_true rfl, Nat.le_of_ble_eq_true rfl⟩ (fun H locs hP hD hS => ?_)
  have hP : va_P (dC, dI) vwCl (oW k b t M ++ kW cI k M ++ bW k B ++ sW cI b S ++ sW cI t T) H := by simpa only [List.append_assoc, List.append_nil, List.nil_append] using hP
  have hD : va_D A (oW k b t M ++ kW cI k M ++ bW k B ++ sW cI b S ++ sW cI t T) := by simpa only [List.append_assoc, List.append_nil, List.nil_append] using hD
  refine lv_istore_n (lv' := [(1, .int (sl_cells S)), (0, .ref (k 0))]) hx hb dX3_depth_7 rfl hl (by decide) rfl (fun ls hl => ?_)
  refine lv_iload_n hx hb dX3_depth_8 rfl (lv_at hl 0 rfl) ?_
  refine lv_iconst (v := 1) hx hb dX3_depth_9 (by decide) ?_
  refine lv_icmp_ge (tgt := 17) hx hb dX3_depth_10 (by decide) (fun c_1 => ?_) (fun c_1 => ?_)
  · refine lv_aload_n hx hb dX3_depth_17 rfl (lv_at hl 1 rfl) ?_
    refine va_get (D := (dC, dI)) (ci := 3) (v := .ref (b 0)) (C := RX3) (T := TX3) (N := 6) hx hb hts hinX3 hown hK hP 0 rfl rfl 1 (by decide) hf21 (fun _ h9 => h9) rfl dX3_depth_18 ?_
    refine zI_V (pre := (oW k b t M ++ kW cI k M ++ bW k B)) (wc := sW cI b S) (post := (sW cI t T)) (w1 := sW cI b S) ⟨hx, hb, hml, hown, hts⟩ (c_X2_allDepths l dC dI cI b h w S hG0) (cwV 0 hts gX3_depth_X2_allDepths rfl rfl rfl (by decide +kernel) ⟨Nat.le_of_ble_eq_true rfl, Nat.le_of_ble_eq_true rfl⟩) (by simp only [List.append_assoc, List.append_nil, List.nil_append]) hK hN (ci := 2) (q0 := 0) rfl rfl rfl hP hD hS hA rfl hl.1 rfl (Nat.le_of_ble_eq_true rfl) dX3_depth_21 ⟨Nat.le_of_ble_eq_true rfl, Nat.le_of_ble_eq_true rfl⟩ (fun H locs hP hD hS => ?_)
    have hP : va_P (dC, dI) vwCl (oW k b t M ++ kW cI k M ++ bW k B ++ sW cI b S ++ sW cI t T) H := by simpa only [List.append_assoc, List.append_nil, List.nil_append] using hP
    have hD : va_D A (oW k b t M ++ kW cI k M ++ bW k B ++ sW cI b S ++ sW cI t T) := by simpa only [List.append_assoc, List.append_nil, List.nil_append] using hD
    refine lv_i2d hx hb dX3_depth_24 ?_
    refine lv_iload_n hx hb dX3_depth_25 rfl (lv_at hl 0 rfl) ?_
    refine lv_i2d hx hb dX3_depth_26 ?_
    refine lv_ddiv_any (s := s) hd0 lw_bits hx hb dX3_depth_27 (fun r d1 hal hd1 => ?_)
    exact zD_ret hd1 hx hb hr hlocks hP hD hS hal dX3_depth_28
  · exact absurd (by rw [show sl_cells S = nI (h * w) from geo_cells hG0]; exact (show nI 1 ≤ nI (h * w) from nI_le (by have := geo_w hG0; omega) (by omega))) c_1
end
section
/-! where a new object's cells lie -/
def zad (q : Nat) (u : Nat → Nat) : Nat → Nat
  | 0 => q
  | n + 1 => u (n + 1)
def kad (q : Nat) (u : Nat → Nat) : Nat → Nat
  | 1 => q
  | n => u n
def oad (h q r : Nat) (u : Nat → Nat) : Nat → Nat
  | 0 => h
  | 1 => q
  | 5 => r
  | n => u n
def cal0 : sS := fun r _ => match r with
  | 2 => 60
  | 3 => 3
  | _ => 0
def bst0 : sS := fun _ _ => 0
end
section
set_option maxHeartbeats 4000000 in
set_option maxRecDepth 100000 in
theorem c_X0_init (l : Launch) (dC : Nat → ClassId) (dI : Nat → Nat → Nat) (cI : ClassId) (q : Nat) : zM l yX0_init wsX0_init { frames := 1, cells := 3, slots := 90, locals := 23 } (dC, dI) cI [.ref q] (([(q, .inr (0, [.null, .null, .null]))] : va_W)) (fun u : Nat → Nat => kW cI (kad q u) cal0) (fun _ => True) 3 90 := by
  refine zM_of (cc := cX0_init) (maxL := 1) (ret := none) (by decide) rfl (Nat.le_of_ble_eq_true rfl) rfl ?_
  intro p e s m below meth c A ls C0 hinit hl
  obtain ⟨hx, hb, hr, hml, hown, hts, hlocks, hK, hN, hA, hP, hD, hS⟩ := C0
  have hown : s.vm.findClass RX0 = some m.cls := hown
  have hl : lv_has ls 1 [(0, .ref q)] := hl
  have hf9 := hts (.fieldLink RX0 9 "PaddyTerraces$Calendar" "rain" "[I") (by decide +kernel)
  have hf15 := hts (.fieldLink RX0 15 "PaddyTerraces$Calendar" "spring" "[I") (by decide +kernel)
  have hf18 := hts (.fieldLink RX0 18 "PaddyTerraces$Calendar" "draught" "[I") (by decide +kernel)
  have hac := hts (.arrayClass .int) (by decide +kernel)
  have hc_oi := hts (.code objectInit ⟨#[0xb1]⟩ 1 none) (by decide +kernel)
  have hm_oi := hts (.methodLink RX0 3 objectInit) (by decide +kernel)
  have hs_oi := hts (.instanceMethod objectInit) (by decide +kernel)
  have hinX0 : ∀ w ∈ wsX00, w ∈ wsX0_init := by decide +kernel
  have hS0 := hS
  refine lv_aload_n hx hb dX0_init_0 rfl (lv_at hl 0 rfl) ?_
  refine W.objInit hx hb hown hm_oi hs_oi hc_oi rfl (by rw [hml]; exact hl.1) rfl dX0_init_1 (Nat.le_of_ble_eq_true rfl) (Nat.le_of_ble_eq_true rfl) ?_
  refine W.eq (g2 := F0 m 4 ls []) rfl ?_
  refine lv_aload_n hx hb dX0_init_4 rfl (lv_at hl 0 rfl) ?_
  refine lv_bipush (v := 30) hx hb dX0_init_5 (by decide) ?_
  refine va_newa (atype := .int) (ty := .int) (n := 30) (N' := 30) (a0 := (30, .inl (fun _ => 0))) hx hb hac rfl hK hP hD hS hA (fun cA => rfl) (by decide) rfl (Nat.le_of_ble_eq_true rfl) (Nat.le_of_ble_eq_true rfl) (Nat.le_of_ble_eq_true rfl) dX0_init_7 (fun q1 cA2 H hK9 hP hD hS => ?_)
  obtain rfl : cI = cA2 := (z_cI hK9).symm
  have hP : va_P (dC, dI) vwCl (([(q, .inr (0, [.null, .null, .null])), (q1, .inl (cI, 30, .inl (fun _ => 0)))] : va_W)) H := hP
  have hD : va_D A (([(q, .inr (0, [.null, .null, .null])), (q1, .inl (cI, 30, .inl (fun _ => 0)))] : va_W)) := hD
  refine va_putF (D := (dC, dI)) (ci := 0) (v := .ref q1) (ty := (.array .int)) (C := RX0) (T := TX0) (N := 3) hx hb hts hinX0 tyX0 tyX0_ok nmX0 hown hK hP hD hS 0 rfl rfl 0 (by decide) hf9 (fun _ h9 => h9) rfl hinit rfl (by decide +kernel) rfl rfl (Nat.le_of_ble_eq_true rfl) dX0_init_9 (fun H locs hP hD hS => ?_)
  have hP : va_P (dC, dI) vwCl (([(q, .inr (0, [.ref q1, .null, .null])), (q1, .inl (cI, 30, .inl (fun _ => 0)))] : va_W)) H := hP
  have hD : va_D A (([(q, .inr (0, [.ref q1, .null, .null])), (q1, .inl (cI, 30, .inl (fun _ => 0)))] : va_W)) := hD
  refine lv_aload_n hx hb dX0_init_12 rfl (lv_at hl 0 rfl) ?_
  refine lv_bipush (v := 30) hx hb dX0_init_13 (by decide) ?_
  refine va_newa (atype := .int) (ty := .int) (n := 30) (N' := 30) (a0 := (30, .inl (fun _ => 0))) hx hb hac rfl hK hP hD hS hA (fun cA => rfl) (by decide) rfl (Nat.le_of_ble_eq_true rfl) (Nat.le_of_ble_eq_true rfl) (Nat.le_of_ble_eq_true rfl) dX0_init_15 (fun q3 cA4 H hK9 hP hD hS => ?_)
  obtain rfl : cI = cA4 := (z_cI hK9).symm
  have hP : va_P (dC, dI) vwCl (([(q, .inr (0, [.ref q1, .null, .null])), (q1, .inl (cI, 30, .inl (fun _ => 0))), (q3, .inl (cI, 30, .inl (fun _ => 0)))] : va_W)) H := hP
  have hD : va_D A (([(q, .inr (0, [.ref q1, .null, .null])), (q1, .inl (cI, 30, .inl (fun _ => 0))), (q3, .inl (cI, 30, .inl (fun _ => 0)))] : va_W)) := hD
  refine va_putF (D := (dC, dI)) (ci := 0) (v := .ref q3) (ty := (.array .int)) (C := RX0) (T := TX0) (N := 3) hx hb hts hinX0 tyX0 tyX0_ok nmX0 hown hK hP hD hS 0 rfl rfl 1 (by decide) hf15 (fun _ h9 => h9) rfl hinit rfl (by decide +kernel) rfl rfl (Nat.le_of_ble_eq_true rfl) dX0_init_17 (fun H locs hP hD hS => ?_)
  have hP : va_P (dC, dI) vwCl (([(q, .inr (0, [.ref q1, .ref q3, .null])), (q1, .inl (cI, 30, .inl (fun _ => 0))), (q3, .inl (cI, 30, .inl (fun _ => 0)))] : va_W)) H := hP
  have hD : va_D A (([(q, .inr (0, [.ref q1, .ref q3, .null])), (q1, .inl (cI, 30, .inl (fun _ => 0))), (q3, .inl (cI, 30, .inl (fun _ => 0)))] : va_W)) := hD
  refine lv_aload_n hx hb dX0_init_20 rfl (lv_at hl 0 rfl) ?_
  refine lv_bipush (v := 30) hx hb dX0_init_21 (by decide) ?_
  refine va_newa (atype := .int) (ty := .int) (n := 30) (N' := 30) (a0 := (30, .inl (fun _ => 0))) hx hb hac rfl hK hP hD hS hA (fun cA => rfl) (by decide) rfl (Nat.le_of_ble_eq_true rfl) (Nat.le_of_ble_eq_true rfl) (Nat.le_of_ble_eq_true rfl) dX0_init_23 (fun q5 cA6 H hK9 hP hD hS => ?_)
  obtain rfl : cI = cA6 := (z_cI hK9).symm
  have hP : va_P (dC, dI) vwCl (([(q, .inr (0, [.ref q1, .ref q3, .null])), (q1, .inl (cI, 30, .inl (fun _ => 0))), (q3, .inl (cI, 30, .inl (fun _ => 0))), (q5, .inl (cI, 30, .inl (fun _ => 0)))] : va_W)) H := hP
  have hD : va_D A (([(q, .inr (0, [.ref q1, .ref q3, .null])), (q1, .inl (cI, 30, .inl (fun _ => 0))), (q3, .inl (cI, 30, .inl (fun _ => 0))), (q5, .inl (cI, 30, .inl (fun _ => 0)))] : va_W)) := hD
  refine va_putF (D := (dC, dI)) (ci := 0) (v := .ref q5) (ty := (.array .int)) (C := RX0) (T := TX0) (N := 3) hx hb hts hinX0 tyX0 tyX0_ok nmX0 hown hK hP hD hS 0 rfl rfl 2 (by decide) hf18 (fun _ h9 => h9) rfl hinit rfl (by decide +kernel) rfl rfl (Nat.le_of_ble_eq_true rfl) dX0_init_25 (fun H locs hP hD hS => ?_)
  have hP : va_P (dC, dI) vwCl (([(q, .inr (0, [.ref q1, .ref q3, .ref q5])), (q1, .inl (cI, 30, .inl (fun _ => 0))), (q3, .inl (cI, 30, .inl (fun _ => 0))), (q5, .inl (cI, 30, .inl (fun _ => 0)))] : va_W)) H := hP
  have hD : va_D A (([(q, .inr (0, [.ref q1, .ref q3, .ref q5])), (q1, .inl (cI, 30, .inl (fun _ => 0))), (q3, .inl (cI, 30, .inl (fun _ => 0))), (q5, .inl (cI, 30, .inl (fun _ => 0)))] : va_W)) := hD
  refine lv_aload_n hx hb dX0_init_28 rfl (lv_at hl 0 rfl) ?_
  refine va_get (D := (dC, dI)) (ci := 0) (v := .ref q3) (C := RX0) (T := TX0) (N := 3) hx hb hts hinX0 hown hK hP 0 rfl rfl 1 (by decide) hf15 (fun _ h9 => h9) rfl dX0_init_29 ?_
  refine lv_bipush (v := 60) hx hb dX0_init_32 (by decide) ?_
  refine zV_S (pre := (([(q, .inr (0, [.ref q1, .ref q3, .ref q5])), (q1, .inl (cI, 30, .inl (fun _ => 0))), (q3, .inl (cI, 30, .inl (fun _ => 0))), (q5, .inl (cI, 30, .inl (fun _ => 0)))] : va_W)).take 2) (wc := [(q3, .inl (cI, 30, .inl ((fun _ => 0))))]) (post := (([(q, .inr (0, [.ref q1, .ref q3, .ref q5])), (q1, .inl (cI, 30, .inl (fun _ => 0))), (q3, .inl (cI, 30, .inl (fun _ => 0))), (q5, .inl (cI, 30, .inl (fun _ => 0)))] : va_W)).drop 3) (w1 := [(q3, .inl (cI, 30, .inl (fun _ => 60)))]) ⟨hx, hb, hml, hown, hts⟩ (c_fill l dC dI cI q3 30 ((fun _ => 0)) 60 (by decide)) (va_cwS 2 hts gX0_init_J7_fill_53178 rfl rfl rfl (by decide +kernel) ⟨Nat.le_of_ble_eq_true rfl, Nat.le_of_ble_eq_true rfl⟩) rfl hK hN hP hD hS hA rfl hl.1 rfl (Nat.le_of_ble_eq_true rfl) dX0_init_34 ⟨Nat.le_of_ble_eq_true rfl, Nat.le_of_ble_eq_true rfl⟩ (fun H locs hP hD hS => ?_)
  have hP : va_P (dC, dI) vwCl (([(q, .inr (0, [.ref q1, .ref q3, .ref q5])), (q1, .inl (cI, 30, .inl (fun _ => 0))), (q3, .inl (cI, 30, .inl (fun _ => 60))), (q5, .inl (cI, 30, .inl (fun _ => 0)))] : va_W)) H := hP
  have hD : va_D A (([(q, .inr (0, [.ref q1, .ref q3, .ref q5])), (q1, .inl (cI, 30, .inl (fun _ => 0))), (q3, .inl (cI, 30, .inl (fun _ => 60))), (q5, .inl (cI, 30, .inl (fun _ => 0)))] : va_W)) := hD
  refine lv_aload_n hx hb dX0_init_37 rfl (lv_at hl 0 rfl) ?_
  refine va_get (D := (dC, dI)) (ci := 0) (v := .ref q5) (C := RX0) (T := TX0) (N := 3) hx hb hts hinX0 hown hK hP 0 rfl rfl 2 (by decide) hf18 (fun _ h9 => h9) rfl dX0_init_38 ?_
  refine lv_iconst (v := 3) hx hb dX0_init_41 (by decide) ?_
  refine zV_S (pre := (([(q, .inr (0, [.ref q1, .ref q3, .ref q5])), (q1, .inl (cI, 30, .inl (fun _ => 0))), (q3, .inl (cI, 30, .inl (fun _ => 60))), (q5, .inl (cI, 30, .inl (fun _ => 0)))] : va_W)).take 3) (wc := [(q5, .inl (cI, 30, .inl ((fun _ => 0))))]) (post := (([(q, .inr (0, [.ref q1, .ref q3, .ref q5])), (q1, .inl (cI, 30, .inl (fun _ => 0))), (q3, .inl (cI, 30, .inl (fun _ => 60))), (q5, .inl (cI, 30, .inl (fun _ => 0)))] : va_W)).drop 4) (w1 := [(q5, .inl (cI, 30, .inl (fun _ => 3)))]) ⟨hx, hb, hml, hown, hts⟩ (c_fill l dC dI cI q5 30 ((fun _ => 0)) 3 (by decide)) (va_cwS 2 hts gX0_init_J7_fill_53178 rfl rfl rfl (by decide +kernel) ⟨Nat.le_of_ble_eq_true rfl, Nat.le_of_ble_eq_true rfl⟩) rfl hK hN hP hD hS hA rfl hl.1 rfl (Nat.le_of_ble_eq_true rfl) dX0_init_42 ⟨Nat.le_of_ble_eq_true rfl, Nat.le_of_ble_eq_true rfl⟩ (fun H locs hP hD hS => ?_)
  have hP : va_P (dC, dI) vwCl (([(q, .inr (0, [.ref q1, .ref q3, .ref q5])), (q1, .inl (cI, 30, .inl (fun _ => 0))), (q3, .inl (cI, 30, .inl (fun _ => 60))), (q5, .inl (cI, 30, .inl (fun _ => 3)))] : va_W)) H := hP
  have hD : va_D A (([(q, .inr (0, [.ref q1, .ref q3, .ref q5])), (q1, .inl (cI, 30, .inl (fun _ => 0))), (q3, .inl (cI, 30, .inl (fun _ => 60))), (q5, .inl (cI, 30, .inl (fun _ => 3)))] : va_W)) := hD
  exact zM_ret (fun i => [0, 0, q1, q3, q5].getD i 0) trivial hx hb hr hlocks hP hD hS dX0_init_45
set_option maxHeartbeats 4000000 in
set_option maxRecDepth 100000 in
theorem c_X1_init (l : Launch) (dC : Nat → ClassId) (dI : Nat → Nat → Nat) (cI : ClassId) (q : Nat) : zM l yX1_init wsX1_init { frames := 1, cells := 0, slots := 0, locals := 20 } (dC, dI) cI [.ref q] (([(q, .inr (1, [.int 0, .int 0, .int 0, .int 0, .int 0]))] : va_W)) (fun _ : Unit => [(q, .inr (1, [.int 0, .int 0, .int 0, .int 0, .int 0]))]) (fun _ => True) 0 0 := by
  refine zM_of (cc := cX1_init) (maxL := 1) (ret := none) (by decide) rfl (Nat.le_of_ble_eq_true rfl) rfl ?_
  intro p e s m below meth c A ls C0 hinit hl
  obtain ⟨hx, hb, hr, hml, hown, hts, hlocks, hK, hN, hA, hP, hD, hS⟩ := C0
  have hown : s.vm.findClass RX1 = some m.cls := hown
  have hl : lv_has ls 1 [(0, .ref q)] := hl
  have hc_oi := hts (.code objectInit ⟨#[0xb1]⟩ 1 none) (by decide +kernel)
  have hm_oi := hts (.methodLink RX1 3 objectInit) (by decide +kernel)
  have hs_oi := hts (.instanceMethod objectInit) (by decide +kernel)
  have hS0 := hS
  refine lv_aload_n hx hb dX1_init_0 rfl (lv_at hl 0 rfl) ?_
  refine W.objInit hx hb hown hm_oi hs_oi hc_oi rfl (by rw [hml]; exact hl.1) rfl dX1_init_1 (Nat.le_of_ble_eq_true rfl) (Nat.le_of_ble_eq_true rfl) ?_
  refine W.eq (g2 := F0 m 4 ls []) rfl ?_
  exact zM_ret () trivial hx hb hr hlocks hP hD hS dX1_init_4
set_option maxHeartbeats 4000000 in
set_option maxRecDepth 100000 in
theorem c_X2_init (l : Launch) (dC : Nat → ClassId) (dI : Nat → Nat → Nat) (cI : ClassId) (q : Nat) (u v : Int32) : zM l yX2_init wsX2_init { frames := 2, cells := 13, slots := 776, locals := 46 } (dC, dI) cI [.ref q, .int u, .int v] (([(q, .inr (2, [.int 0, .int 0, .int 0, .int 0, .int 0, .null, .null, .null, .null, .null, .null, .null, .null, .null, .null, .null, .null, .null]))] : va_W)) (fun a : Nat → Nat => sW cI (zad q a) (sl_new u v)) (fun _ => True) 13 776 := by
  refine zM_of (cc := cX2_init) (maxL := 3) (ret := none) (by decide) rfl (Nat.le_of_ble_eq_true rfl) rfl ?_
  intro p e s m below meth c A ls C0 hinit hl
  obtain ⟨hx, hb, hr, hml, hown, hts, hlocks, hK, hN, hA, hP, hD, hS⟩ := C0
  have hown : s.vm.findClass RX2 = some m.cls := hown
  have hl : lv_has ls 3 [(0, .ref q), (1, .int u), (2, .int v)] := hl
  have hf9 := hts (.fieldLink RX2 9 "PaddyTerraces$Slope" "share" "[I") (by decide +kernel)
  have hf15 := hts (.fieldLink RX2 15 "PaddyTerraces$Slope" "depth" "[I") (by decide +kernel)
  have hf18 := hts (.fieldLink RX2 18 "PaddyTerraces$Slope" "bank" "[I") (by decide +kernel)
  have hf21 := hts (.fieldLink RX2 21 "PaddyTerraces$Slope" "seepage" "[I") (by decide +kernel)
  have hf24 := hts (.fieldLink RX2 24 "PaddyTerraces$Slope" "stone" "[I") (by decide +kernel)
  have hf27 := hts (.fieldLink RX2 27 "PaddyTerraces$Slope" "side" "[I") (by decide +kernel)
  have hf30 := hts (.fieldLink RX2 30 "PaddyTerraces$Slope" "crop" "[I") (by decide +kernel)
  have hf33 := hts (.fieldLink RX2 33 "PaddyTerraces$Slope" "age" "[I") (by decide +kernel)
  have hf36 := hts (.fieldLink RX2 36 "PaddyTerraces$Slope" "hardness" "[I") (by decide +kernel)
  have hf39 := hts (.fieldLink RX2 39 "PaddyTerraces$Slope" "drowned" "[I") (by decide +kernel)
  have hf42 := hts (.fieldLink RX2 42 "PaddyTerraces$Slope" "dry" "[I") (by decide +kernel)
  have hf45 := hts (.fieldLink RX2 45 "PaddyTerraces$Slope" "wentOut" "[I") (by decide +kernel)
  have hf48 := hts (.fieldLink RX2 48 "PaddyTerraces$Slope" "spilled" "[I") (by decide +kernel)
  have hac := hts (.arrayClass .int) (by decide +kernel)
  have hc_oi := hts (.code objectInit ⟨#[0xb1]⟩ 1 none) (by decide +kernel)
  have hm_oi := hts (.methodLink RX2 3 objectInit) (by decide +kernel)
  have hs_oi := hts (.instanceMethod objectInit) (by decide +kernel)
  have hinX2 : ∀ w ∈ wsX20, w ∈ wsX2_init := by decide +kernel
  have hS0 := hS
  refine lv_aload_n hx hb dX2_init_0 rfl (lv_at hl 0 rfl) ?_
  refine W.objInit hx hb hown hm_oi hs_oi hc_oi rfl (by rw [hml]; exact hl.1) rfl dX2_init_1 (Nat.le_of_ble_eq_true rfl) (Nat.le_of_ble_eq_true rfl) ?_
  refine W.eq (g2 := F0 m 4 ls []) rfl ?_
  refine lv_aload_n hx hb dX2_init_4 rfl (lv_at hl 0 rfl) ?_
  refine lv_bipush (v := 8) hx hb dX2_init_5 (by decide) ?_
  refine va_newa (atype := .int) (ty := .int) (n := 8) (N' := 8) (a0 := (8, .inl (fun _ => 0))) hx hb hac rfl hK hP hD hS hA (fun cA => rfl) (by decide) rfl (Nat.le_of_ble_eq_true rfl) (Nat.le_of_ble_eq_true rfl) (Nat.le_of_ble_eq_true rfl) dX2_init_7 (fun q1 cA2 H hK9 hP hD hS => ?_)
  obtain rfl : cI = cA2 := (z_cI hK9).symm
  have hP : va_P (dC, dI) vwCl (([(q, .inr (2, [.int 0, .int 0, .int 0, .int 0, .int 0, .null, .null, .null, .null, .null, .null, .null, .null, .null, .null, .null, .null, .null])), (q1, .inl (cI, 8, .inl (fun _ => 0)))] : va_W)) H := hP
  have hD : va_D A (([(q, .inr (2, [.int 0, .int 0, .int 0, .int 0, .int 0, .null, .null, .null, .null, .null, .null, .null, .null, .null, .null, .null, .null, .null])), (q1, .inl (cI, 8, .inl (fun _ => 0)))] : va_W)) := hD
  refine va_putF (D := (dC, dI)) (ci := 2) (v := .ref q1) (ty := (.array .int)) (C := RX2) (T := TX2) (N := 18) hx hb hts hinX2 tyX2 tyX2_ok nmX2 hown hK hP hD hS 0 rfl rfl 5 (by decide) hf9 (fun _ h9 => h9) rfl hinit rfl (by decide +kernel) rfl rfl (Nat.le_of_ble_eq_true rfl) dX2_init_9 (fun H locs hP hD hS => ?_)
  have hP : va_P (dC, dI) vwCl (([(q, .inr (2, [.int 0, .int 0, .int 0, .int 0, .int 0, .ref q1, .null, .null, .null, .null, .null, .null, .null, .null, .null, .null, .null, .null])), (q1, .inl (cI, 8, .inl (fun _ => 0)))] : va_W)) H := hP
  have hD : va_D A (([(q, .inr (2, [.int 0, .int 0, .int 0, .int 0, .int 0, .ref q1, .null, .null, .null, .null, .null, .null, .null, .null, .null, .null, .null, .null])), (q1, .inl (cI, 8, .inl (fun _ => 0)))] : va_W)) := hD
  refine lv_aload_n hx hb dX2_init_12 rfl (lv_at hl 0 rfl) ?_
  refine lv_bipush (v := 64) hx hb dX2_init_13 (by decide) ?_
  refine va_newa (atype := .int) (ty := .int) (n := 64) (N' := 64) (a0 := (64, .inl (fun _ => 0))) hx hb hac rfl hK hP hD hS hA (fun cA => rfl) (by decide) rfl (Nat.le_of_ble_eq_true rfl) (Nat.le_of_ble_eq_true rfl) (Nat.le_of_ble_eq_true rfl) dX2_init_15 (fun q3 cA4 H hK9 hP hD hS => ?_)
  obtain rfl : cI = cA4 := (z_cI hK9).symm
  have hP : va_P (dC, dI) vwCl (([(q, .inr (2, [.int 0, .int 0, .int 0, .int 0, .int 0, .ref q1, .null, .null, .null, .null, .null, .null, .null, .null, .null, .null, .null, .null])), (q1, .inl (cI, 8, .inl (fun _ => 0))), (q3, .inl (cI, 64, .inl (fun _ => 0)))] : va_W)) H := hP
  have hD : va_D A (([(q, .inr (2, [.int 0, .int 0, .int 0, .int 0, .int 0, .ref q1, .null, .null, .null, .null, .null, .null, .null, .null, .null, .null, .null, .null])), (q1, .inl (cI, 8, .inl (fun _ => 0))), (q3, .inl (cI, 64, .inl (fun _ => 0)))] : va_W)) := hD
  refine va_putF (D := (dC, dI)) (ci := 2) (v := .ref q3) (ty := (.array .int)) (C := RX2) (T := TX2) (N := 18) hx hb hts hinX2 tyX2 tyX2_ok nmX2 hown hK hP hD hS 0 rfl rfl 6 (by decide) hf15 (fun _ h9 => h9) rfl hinit rfl (by decide +kernel) rfl rfl (Nat.le_of_ble_eq_true rfl) dX2_init_17 (fun H locs hP hD hS => ?_)
  have hP : va_P (dC, dI) vwCl (([(q, .inr (2, [.int 0, .int 0, .int 0, .int 0, .int 0, .ref q1, .ref q3, .null, .null, .null, .null, .null, .null, .null, .null, .null, .null, .null])), (q1, .inl (cI, 8, .inl (fun _ => 0))), (q3, .inl (cI, 64, .inl (fun _ => 0)))] : va_W)) H := hP
  have hD : va_D A (([(q, .inr (2, [.int 0, .int 0, .int 0, .int 0, .int 0, .ref q1, .ref q3, .null, .null, .null, .null, .null, .null, .null, .null, .null, .null, .null])), (q1, .inl (cI, 8, .inl (fun _ => 0))), (q3, .inl (cI, 64, .inl (fun _ => 0)))] : va_W)) := hD
  refine lv_aload_n hx hb dX2_init_20 rfl (lv_at hl 0 rfl) ?_
  refine lv_bipush (v := 64) hx hb dX2_init_21 (by decide) ?_
  refine va_newa (atype := .int) (ty := .int) (n := 64) (N' := 64) (a0 := (64, .inl (fun _ => 0))) hx hb hac rfl hK hP hD hS hA (fun cA => rfl) (by decide) rfl (Nat.le_of_ble_eq_true rfl) (Nat.le_of_ble_eq_true rfl) (Nat.le_of_ble_eq_true rfl) dX2_init_23 (fun q5 cA6 H hK9 hP hD hS => ?_)
  obtain rfl : cI = cA6 := (z_cI hK9).symm
  have hP : va_P (dC, dI) vwCl (([(q, .inr (2, [.int 0, .int 0, .int 0, .int 0, .int 0, .ref q1, .ref q3, .null, .null, .null, .null, .null, .null, .null, .null, .null, .null, .null])), (q1, .inl (cI, 8, .inl (fun _ => 0))), (q3, .inl (cI, 64, .inl (fun _ => 0))), (q5, .inl (cI, 64, .inl (fun _ => 0)))] : va_W)) H := hP
  have hD : va_D A (([(q, .inr (2, [.int 0, .int 0, .int 0, .int 0, .int 0, .ref q1, .ref q3, .null, .null, .null, .null, .null, .null, .null, .null, .null, .null, .null])), (q1, .inl (cI, 8, .inl (fun _ => 0))), (q3, .inl (cI, 64, .inl (fun _ => 0))), (q5, .inl (cI, 64, .inl (fun _ => 0)))] : va_W)) := hD
  refine va_putF (D := (dC, dI)) (ci := 2) (v := .ref q5) (ty := (.array .int)) (C := RX2) (T := TX2) (N := 18) hx hb hts hinX2 tyX2 tyX2_ok nmX2 hown hK hP hD hS 0 rfl rfl 7 (by decide) hf18 (fun _ h9 => h9) rfl hinit rfl (by decide +kernel) rfl rfl (Nat.le_of_ble_eq_true rfl) dX2_init_25 (fun H locs hP hD hS => ?_)
  have hP : va_P (dC, dI) vwCl (([(q, .inr (2, [.int 0, .int 0, .int 0, .int 0, .int 0, .ref q1, .ref q3, .ref q5, .null, .null, .null, .null, .null, .null, .null, .null, .null, .null])), (q1, .inl (cI, 8, .inl (fun _ => 0))), (q3, .inl (cI, 64, .inl (fun _ => 0))), (q5, .inl (cI, 64, .inl (fun _ => 0)))] : va_W)) H := hP
  have hD : va_D A (([(q, .inr (2, [.int 0, .int 0, .int 0, .int 0, .int 0, .ref q1, .ref q3, .ref q5, .null, .null, .null, .null, .null, .null, .null, .null, .null, .null])), (q1, .inl (cI, 8, .inl (fun _ => 0))), (q3, .inl (cI, 64, .inl (fun _ => 0))), (q5, .inl (cI, 64, .inl (fun _ => 0)))] : va_W)) := hD
  refine lv_aload_n hx hb dX2_init_28 rfl (lv_at hl 0 rfl) ?_
  refine lv_bipush (v := 64) hx hb dX2_init_29 (by decide) ?_
  refine va_newa (atype := .int) (ty := .int) (n := 64) (N' := 64) (a0 := (64, .inl (fun _ => 0))) hx hb hac rfl hK hP hD hS hA (fun cA => rfl) (by decide) rfl (Nat.le_of_ble_eq_true rfl) (Nat.le_of_ble_eq_true rfl) (Nat.le_of_ble_eq_true rfl) dX2_init_31 (fun q7 cA8 H hK9 hP hD hS => ?_)
  obtain rfl : cI = cA8 := (z_cI hK9).symm
  have hP : va_P (dC, dI) vwCl (([(q, .inr (2, [.int 0, .int 0, .int 0, .int 0, .int 0, .ref q1, .ref q3, .ref q5, .null, .null, .null, .null, .null, .null, .null, .null, .null, .null])), (q1, .inl (cI, 8, .inl (fun _ => 0))), (q3, .inl (cI, 64, .inl (fun _ => 0))), (q5, .inl (cI, 64, .inl (fun _ => 0))), (q7, .inl (cI, 64, .inl (fun _ => 0)))] : va_W)) H := hP
  have hD : va_D A (([(q, .inr (2, [.int 0, .int 0, .int 0, .int 0, .int 0, .ref q1, .ref q3, .ref q5, .null, .null, .null, .null, .null, .null, .null, .null, .null, .null])), (q1, .inl (cI, 8, .inl (fun _ => 0))), (q3, .inl (cI, 64, .inl (fun _ => 0))), (q5, .inl (cI, 64, .inl (fun _ => 0))), (q7, .inl (cI, 64, .inl (fun _ => 0)))] : va_W)) := hD
  refine va_putF (D := (dC, dI)) (ci := 2) (v := .ref q7) (ty := (.array .int)) (C := RX2) (T := TX2) (N := 18) hx hb hts hinX2 tyX2 tyX2_ok nmX2 hown hK hP hD hS 0 rfl rfl 8 (by decide) hf21 (fun _ h9 => h9) rfl hinit rfl (by decide +kernel) rfl rfl (Nat.le_of_ble_eq_true rfl) dX2_init_33 (fun H locs hP hD hS => ?_)
  have hP : va_P (dC, dI) vwCl (([(q, .inr (2, [.int 0, .int 0, .int 0, .int 0, .int 0, .ref q1, .ref q3, .ref q5, .ref q7, .null, .null, .null, .null, .null, .null, .null, .null, .null])), (q1, .inl (cI, 8, .inl (fun _ => 0))), (q3, .inl (cI, 64, .inl (fun _ => 0))), (q5, .inl (cI, 64, .inl (fun _ => 0))), (q7, .inl (cI, 64, .inl (fun _ => 0)))] : va_W)) H := hP
  have hD : va_D A (([(q, .inr (2, [.int 0, .int 0, .int 0, .int 0, .int 0, .ref q1, .ref q3, .ref q5, .ref q7, .null, .null, .null, .null, .null, .null, .null, .null, .null])), (q1, .inl (cI, 8, .inl (fun _ => 0))), (q3, .inl (cI, 64, .inl (fun _ => 0))), (q5, .inl (cI, 64, .inl (fun _ => 0))), (q7, .inl (cI, 64, .inl (fun _ => 0)))] : va_W)) := hD
  refine lv_aload_n hx hb dX2_init_36 rfl (lv_at hl 0 rfl) ?_
  refine lv_bipush (v := 64) hx hb dX2_init_37 (by decide) ?_
  refine va_newa (atype := .int) (ty := .int) (n := 64) (N' := 64) (a0 := (64, .inl (fun _ => 0))) hx hb hac rfl hK hP hD hS hA (fun cA => rfl) (by decide) rfl (Nat.le_of_ble_eq_true rfl) (Nat.le_of_ble_eq_true rfl) (Nat.le_of_ble_eq_true rfl) dX2_init_39 (fun q9 cA10 H hK9 hP hD hS => ?_)
  obtain rfl : cI = cA10 := (z_cI hK9).symm
  have hP : va_P (dC, dI) vwCl (([(q, .inr (2, [.int 0, .int 0, .int 0, .int 0, .int 0, .ref q1, .ref q3, .ref q5, .ref q7, .null, .null, .null, .null, .null, .null, .null, .null, .null])), (q1, .inl (cI, 8, .inl (fun _ => 0))), (q3, .inl (cI, 64, .inl (fun _ => 0))), (q5, .inl (cI, 64, .inl (fun _ => 0))), (q7, .inl (cI, 64, .inl (fun _ => 0))), (q9, .inl (cI, 64, .inl (fun _ => 0)))] : va_W)) H := hP
  have hD : va_D A (([(q, .inr (2, [.int 0, .int 0, .int 0, .int 0, .int 0, .ref q1, .ref q3, .ref q5, .ref q7, .null, .null, .null, .null, .null, .null, .null, .null, .null])), (q1, .inl (cI, 8, .inl (fun _ => 0))), (q3, .inl (cI, 64, .inl (fun _ => 0))), (q5, .inl (cI, 64, .inl (fun _ => 0))), (q7, .inl (cI, 64, .inl (fun _ => 0))), (q9, .inl (cI, 64, .inl (fun _ => 0)))] : va_W)) := hD
  refine va_putF (D := (dC, dI)) (ci := 2) (v := .ref q9) (ty := (.array .int)) (C := RX2) (T := TX2) (N := 18) hx hb hts hinX2 tyX2 tyX2_ok nmX2 hown hK hP hD hS 0 rfl rfl 9 (by decide) hf24 (fun _ h9 => h9) rfl hinit rfl (by decide +kernel) rfl rfl (Nat.le_of_ble_eq_true rfl) dX2_init_41 (fun H locs hP hD hS => ?_)
  have hP : va_P (dC, dI) vwCl (([(q, .inr (2, [.int 0, .int 0, .int 0, .int 0, .int 0, .ref q1, .ref q3, .ref q5, .ref q7, .ref q9, .null, .null, .null, .null, .null, .null, .null, .null])), (q1, .inl (cI, 8, .inl (fun _ => 0))), (q3, .inl (cI, 64, .inl (fun _ => 0))), (q5, .inl (cI, 64, .inl (fun _ => 0))), (q7, .inl (cI, 64, .inl (fun _ => 0))), (q9, .inl (cI, 64, .inl (fun _ => 0)))] : va_W)) H := hP
  have hD : va_D A (([(q, .inr (2, [.int 0, .int 0, .int 0, .int 0, .int 0, .ref q1, .ref q3, .ref q5, .ref q7, .ref q9, .null, .null, .null, .null, .null, .null, .null, .null])), (q1, .inl (cI, 8, .inl (fun _ => 0))), (q3, .inl (cI, 64, .inl (fun _ => 0))), (q5, .inl (cI, 64, .inl (fun _ => 0))), (q7, .inl (cI, 64, .inl (fun _ => 0))), (q9, .inl (cI, 64, .inl (fun _ => 0)))] : va_W)) := hD
  refine lv_aload_n hx hb dX2_init_44 rfl (lv_at hl 0 rfl) ?_
  refine lv_bipush (v := 64) hx hb dX2_init_45 (by decide) ?_
  refine va_newa (atype := .int) (ty := .int) (n := 64) (N' := 64) (a0 := (64, .inl (fun _ => 0))) hx hb hac rfl hK hP hD hS hA (fun cA => rfl) (by decide) rfl (Nat.le_of_ble_eq_true rfl) (Nat.le_of_ble_eq_true rfl) (Nat.le_of_ble_eq_true rfl) dX2_init_47 (fun q11 cA12 H hK9 hP hD hS => ?_)
  obtain rfl : cI = cA12 := (z_cI hK9).symm
  have hP : va_P (dC, dI) vwCl (([(q, .inr (2, [.int 0, .int 0, .int 0, .int 0, .int 0, .ref q1, .ref q3, .ref q5, .ref q7, .ref q9, .null, .null, .null, .null, .null, .null, .null, .null])), (q1, .inl (cI, 8, .inl (fun _ => 0))), (q3, .inl (cI, 64, .inl (fun _ => 0))), (q5, .inl (cI, 64, .inl (fun _ => 0))), (q7, .inl (cI, 64, .inl (fun _ => 0))), (q9, .inl (cI, 64, .inl (fun _ => 0))), (q11, .inl (cI, 64, .inl (fun _ => 0)))] : va_W)) H := hP
  have hD : va_D A (([(q, .inr (2, [.int 0, .int 0, .int 0, .int 0, .int 0, .ref q1, .ref q3, .ref q5, .ref q7, .ref q9, .null, .null, .null, .null, .null, .null, .null, .null])), (q1, .inl (cI, 8, .inl (fun _ => 0))), (q3, .inl (cI, 64, .inl (fun _ => 0))), (q5, .inl (cI, 64, .inl (fun _ => 0))), (q7, .inl (cI, 64, .inl (fun _ => 0))), (q9, .inl (cI, 64, .inl (fun _ => 0))), (q11, .inl (cI, 64, .inl (fun _ => 0)))] : va_W)) := hD
  refine va_putF (D := (dC, dI)) (ci := 2) (v := .ref q11) (ty := (.array .int)) (C := RX2) (T := TX2) (N := 18) hx hb hts hinX2 tyX2 tyX2_ok nmX2 hown hK hP hD hS 0 rfl rfl 10 (by decide) hf27 (fun _ h9 => h9) rfl hinit rfl (by decide +kernel) rfl rfl (Nat.le_of_ble_eq_true rfl) dX2_init_49 (fun H locs hP hD hS => ?_)
  have hP : va_P (dC, dI) vwCl (([(q, .inr (2, [.int 0, .int 0, .int 0, .int 0, .int 0, .ref q1, .ref q3, .ref q5, .ref q7, .ref q9, .ref q11, .null, .null, .null, .null, .null, .null, .null])), (q1, .inl (cI, 8, .inl (fun _ => 0))), (q3, .inl (cI, 64, .inl (fun _ => 0))), (q5, .inl (cI, 64, .inl (fun _ => 0))), (q7, .inl (cI, 64, .inl (fun _ => 0))), (q9, .inl (cI, 64, .inl (fun _ => 0))), (q11, .inl (cI, 64, .inl (fun _ => 0)))] : va_W)) H := hP
  have hD : va_D A (([(q, .inr (2, [.int 0, .int 0, .int 0, .int 0, .int 0, .ref q1, .ref q3, .ref q5, .ref q7, .ref q9, .ref q11, .null, .null, .null, .null, .null, .null, .null])), (q1, .inl (cI, 8, .inl (fun _ => 0))), (q3, .inl (cI, 64, .inl (fun _ => 0))), (q5, .inl (cI, 64, .inl (fun _ => 0))), (q7, .inl (cI, 64, .inl (fun _ => 0))), (q9, .inl (cI, 64, .inl (fun _ => 0))), (q11, .inl (cI, 64, .inl (fun _ => 0)))] : va_W)) := hD
  refine lv_aload_n hx hb dX2_init_52 rfl (lv_at hl 0 rfl) ?_
  refine lv_bipush (v := 64) hx hb dX2_init_53 (by decide) ?_
  refine va_newa (atype := .int) (ty := .int) (n := 64) (N' := 64) (a0 := (64, .inl (fun _ => 0))) hx hb hac rfl hK hP hD hS hA (fun cA => rfl) (by decide) rfl (Nat.le_of_ble_eq_true rfl) (Nat.le_of_ble_eq_true rfl) (Nat.le_of_ble_eq_true rfl) dX2_init_55 (fun q13 cA14 H hK9 hP hD hS => ?_)
  obtain rfl : cI = cA14 := (z_cI hK9).symm
  have hP : va_P (dC, dI) vwCl (([(q, .inr (2, [.int 0, .int 0, .int 0, .int 0, .int 0, .ref q1, .ref q3, .ref q5, .ref q7, .ref q9, .ref q11, .null, .null, .null, .null, .null, .null, .null])), (q1, .inl (cI, 8, .inl (fun _ => 0))), (q3, .inl (cI, 64, .inl (fun _ => 0))), (q5, .inl (cI, 64, .inl (fun _ => 0))), (q7, .inl (cI, 64, .inl (fun _ => 0))), (q9, .inl (cI, 64, .inl (fun _ => 0))), (q11, .inl (cI, 64, .inl (fun _ => 0))), (q13, .inl (cI, 64, .inl (fun _ => 0)))] : va_W)) H := hP
  have hD : va_D A (([(q, .inr (2, [.int 0, .int 0, .int 0, .int 0, .int 0, .ref q1, .ref q3, .ref q5, .ref q7, .ref q9, .ref q11, .null, .null, .null, .null, .null, .null, .null])), (q1, .inl (cI, 8, .inl (fun _ => 0))), (q3, .inl (cI, 64, .inl (fun _ => 0))), (q5, .inl (cI, 64, .inl (fun _ => 0))), (q7, .inl (cI, 64, .inl (fun _ => 0))), (q9, .inl (cI, 64, .inl (fun _ => 0))), (q11, .inl (cI, 64, .inl (fun _ => 0))), (q13, .inl (cI, 64, .inl (fun _ => 0)))] : va_W)) := hD
  refine va_putF (D := (dC, dI)) (ci := 2) (v := .ref q13) (ty := (.array .int)) (C := RX2) (T := TX2) (N := 18) hx hb hts hinX2 tyX2 tyX2_ok nmX2 hown hK hP hD hS 0 rfl rfl 11 (by decide) hf30 (fun _ h9 => h9) rfl hinit rfl (by decide +kernel) rfl rfl (Nat.le_of_ble_eq_true rfl) dX2_init_57 (fun H locs hP hD hS => ?_)
  have hP : va_P (dC, dI) vwCl (([(q, .inr (2, [.int 0, .int 0, .int 0, .int 0, .int 0, .ref q1, .ref q3, .ref q5, .ref q7, .ref q9, .ref q11, .ref q13, .null, .null, .null, .null, .null, .null])), (q1, .inl (cI, 8, .inl (fun _ => 0))), (q3, .inl (cI, 64, .inl (fun _ => 0))), (q5, .inl (cI, 64, .inl (fun _ => 0))), (q7, .inl (cI, 64, .inl (fun _ => 0))), (q9, .inl (cI, 64, .inl (fun _ => 0))), (q11, .inl (cI, 64, .inl (fun _ => 0))), (q13, .inl (cI, 64, .inl (fun _ => 0)))] : va_W)) H := hP
  have hD : va_D A (([(q, .inr (2, [.int 0, .int 0, .int 0, .int 0, .int 0, .ref q1, .ref q3, .ref q5, .ref q7, .ref q9, .ref q11, .ref q13, .null, .null, .null, .null, .null, .null])), (q1, .inl (cI, 8, .inl (fun _ => 0))), (q3, .inl (cI, 64, .inl (fun _ => 0))), (q5, .inl (cI, 64, .inl (fun _ => 0))), (q7, .inl (cI, 64, .inl (fun _ => 0))), (q9, .inl (cI, 64, .inl (fun _ => 0))), (q11, .inl (cI, 64, .inl (fun _ => 0))), (q13, .inl (cI, 64, .inl (fun _ => 0)))] : va_W)) := hD
  refine lv_aload_n hx hb dX2_init_60 rfl (lv_at hl 0 rfl) ?_
  refine lv_bipush (v := 64) hx hb dX2_init_61 (by decide) ?_
  refine va_newa (atype := .int) (ty := .int) (n := 64) (N' := 64) (a0 := (64, .inl (fun _ => 0))) hx hb hac rfl hK hP hD hS hA (fun cA => rfl) (by decide) rfl (Nat.le_of_ble_eq_true rfl) (Nat.le_of_ble_eq_true rfl) (Nat.le_of_ble_eq_true rfl) dX2_init_63 (fun q15 cA16 H hK9 hP hD hS => ?_)
  obtain rfl : cI = cA16 := (z_cI hK9).symm
  have hP : va_P (dC, dI) vwCl (([(q, .inr (2, [.int 0, .int 0, .int 0, .int 0, .int 0, .ref q1, .ref q3, .ref q5, .ref q7, .ref q9, .ref q11, .ref q13, .null, .null, .null, .null, .null, .null])), (q1, .inl (cI, 8, .inl (fun _ => 0))), (q3, .inl (cI, 64, .inl (fun _ => 0))), (q5, .inl (cI, 64, .inl (fun _ => 0))), (q7, .inl (cI, 64, .inl (fun _ => 0))), (q9, .inl (cI, 64, .inl (fun _ => 0))), (q11, .inl (cI, 64, .inl (fun _ => 0))), (q13, .inl (cI, 64, .inl (fun _ => 0))), (q15, .inl (cI, 64, .inl (fun _ => 0)))] : va_W)) H := hP
  have hD : va_D A (([(q, .inr (2, [.int 0, .int 0, .int 0, .int 0, .int 0, .ref q1, .ref q3, .ref q5, .ref q7, .ref q9, .ref q11, .ref q13, .null, .null, .null, .null, .null, .null])), (q1, .inl (cI, 8, .inl (fun _ => 0))), (q3, .inl (cI, 64, .inl (fun _ => 0))), (q5, .inl (cI, 64, .inl (fun _ => 0))), (q7, .inl (cI, 64, .inl (fun _ => 0))), (q9, .inl (cI, 64, .inl (fun _ => 0))), (q11, .inl (cI, 64, .inl (fun _ => 0))), (q13, .inl (cI, 64, .inl (fun _ => 0))), (q15, .inl (cI, 64, .inl (fun _ => 0)))] : va_W)) := hD
  refine va_putF (D := (dC, dI)) (ci := 2) (v := .ref q15) (ty := (.array .int)) (C := RX2) (T := TX2) (N := 18) hx hb hts hinX2 tyX2 tyX2_ok nmX2 hown hK hP hD hS 0 rfl rfl 12 (by decide) hf33 (fun _ h9 => h9) rfl hinit rfl (by decide +kernel) rfl rfl (Nat.le_of_ble_eq_true rfl) dX2_init_65 (fun H locs hP hD hS => ?_)
  have hP : va_P (dC, dI) vwCl (([(q, .inr (2, [.int 0, .int 0, .int 0, .int 0, .int 0, .ref q1, .ref q3, .ref q5, .ref q7, .ref q9, .ref q11, .ref q13, .ref q15, .null, .null, .null, .null, .null])), (q1, .inl (cI, 8, .inl (fun _ => 0))), (q3, .inl (cI, 64, .inl (fun _ => 0))), (q5, .inl (cI, 64, .inl (fun _ => 0))), (q7, .inl (cI, 64, .inl (fun _ => 0))), (q9, .inl (cI, 64, .inl (fun _ => 0))), (q11, .inl (cI, 64, .inl (fun _ => 0))), (q13, .inl (cI, 64, .inl (fun _ => 0))), (q15, .inl (cI, 64, .inl (fun _ => 0)))] : va_W)) H := hP
  have hD : va_D A (([(q, .inr (2, [.int 0, .int 0, .int 0, .int 0, .int 0, .ref q1, .ref q3, .ref q5, .ref q7, .ref q9, .ref q11, .ref q13, .ref q15, .null, .null, .null, .null, .null])), (q1, .inl (cI, 8, .inl (fun _ => 0))), (q3, .inl (cI, 64, .inl (fun _ => 0))), (q5, .inl (cI, 64, .inl (fun _ => 0))), (q7, .inl (cI, 64, .inl (fun _ => 0))), (q9, .inl (cI, 64, .inl (fun _ => 0))), (q11, .inl (cI, 64, .inl (fun _ => 0))), (q13, .inl (cI, 64, .inl (fun _ => 0))), (q15, .inl (cI, 64, .inl (fun _ => 0)))] : va_W)) := hD
  refine lv_aload_n hx hb dX2_init_68 rfl (lv_at hl 0 rfl) ?_
  refine lv_bipush (v := 64) hx hb dX2_init_69 (by decide) ?_
  refine va_newa (atype := .int) (ty := .int) (n := 64) (N' := 64) (a0 := (64, .inl (fun _ => 0))) hx hb hac rfl hK hP hD hS hA (fun cA => rfl) (by decide) rfl (Nat.le_of_ble_eq_true rfl) (Nat.le_of_ble_eq_true rfl) (Nat.le_of_ble_eq_true rfl) dX2_init_71 (fun q17 cA18 H hK9 hP hD hS => ?_)
  obtain rfl : cI = cA18 := (z_cI hK9).symm
  have hP : va_P (dC, dI) vwCl (([(q, .inr (2, [.int 0, .int 0, .int 0, .int 0, .int 0, .ref q1, .ref q3, .ref q5, .ref q7, .ref q9, .ref q11, .ref q13, .ref q15, .null, .null, .null, .null, .null])), (q1, .inl (cI, 8, .inl (fun _ => 0))), (q3, .inl (cI, 64, .inl (fun _ => 0))), (q5, .inl (cI, 64, .inl (fun _ => 0))), (q7, .inl (cI, 64, .inl (fun _ => 0))), (q9, .inl (cI, 64, .inl (fun _ => 0))), (q11, .inl (cI, 64, .inl (fun _ => 0))), (q13, .inl (cI, 64, .inl (fun _ => 0))), (q15, .inl (cI, 64, .inl (fun _ => 0))), (q17, .inl (cI, 64, .inl (fun _ => 0)))] : va_W)) H := hP
  have hD : va_D A (([(q, .inr (2, [.int 0, .int 0, .int 0, .int 0, .int 0, .ref q1, .ref q3, .ref q5, .ref q7, .ref q9, .ref q11, .ref q13, .ref q15, .null, .null, .null, .null, .null])), (q1, .inl (cI, 8, .inl (fun _ => 0))), (q3, .inl (cI, 64, .inl (fun _ => 0))), (q5, .inl (cI, 64, .inl (fun _ => 0))), (q7, .inl (cI, 64, .inl (fun _ => 0))), (q9, .inl (cI, 64, .inl (fun _ => 0))), (q11, .inl (cI, 64, .inl (fun _ => 0))), (q13, .inl (cI, 64, .inl (fun _ => 0))), (q15, .inl (cI, 64, .inl (fun _ => 0))), (q17, .inl (cI, 64, .inl (fun _ => 0)))] : va_W)) := hD
  refine va_putF (D := (dC, dI)) (ci := 2) (v := .ref q17) (ty := (.array .int)) (C := RX2) (T := TX2) (N := 18) hx hb hts hinX2 tyX2 tyX2_ok nmX2 hown hK hP hD hS 0 rfl rfl 13 (by decide) hf36 (fun _ h9 => h9) rfl hinit rfl (by decide +kernel) rfl rfl (Nat.le_of_ble_eq_true rfl) dX2_init_73 (fun H locs hP hD hS => ?_)
  have hP : va_P (dC, dI) vwCl (([(q, .inr (2, [.int 0, .int 0, .int 0, .int 0, .int 0, .ref q1, .ref q3, .ref q5, .ref q7, .ref q9, .ref q11, .ref q13, .ref q15, .ref q17, .null, .null, .null, .null])), (q1, .inl (cI, 8, .inl (fun _ => 0))), (q3, .inl (cI, 64, .inl (fun _ => 0))), (q5, .inl (cI, 64, .inl (fun _ => 0))), (q7, .inl (cI, 64, .inl (fun _ => 0))), (q9, .inl (cI, 64, .inl (fun _ => 0))), (q11, .inl (cI, 64, .inl (fun _ => 0))), (q13, .inl (cI, 64, .inl (fun _ => 0))), (q15, .inl (cI, 64, .inl (fun _ => 0))), (q17, .inl (cI, 64, .inl (fun _ => 0)))] : va_W)) H := hP
  have hD : va_D A (([(q, .inr (2, [.int 0, .int 0, .int 0, .int 0, .int 0, .ref q1, .ref q3, .ref q5, .ref q7, .ref q9, .ref q11, .ref q13, .ref q15, .ref q17, .null, .null, .null, .null])), (q1, .inl (cI, 8, .inl (fun _ => 0))), (q3, .inl (cI, 64, .inl (fun _ => 0))), (q5, .inl (cI, 64, .inl (fun _ => 0))), (q7, .inl (cI, 64, .inl (fun _ => 0))), (q9, .inl (cI, 64, .inl (fun _ => 0))), (q11, .inl (cI, 64, .inl (fun _ => 0))), (q13, .inl (cI, 64, .inl (fun _ => 0))), (q15, .inl (cI, 64, .inl (fun _ => 0))), (q17, .inl (cI, 64, .inl (fun _ => 0)))] : va_W)) := hD
  refine lv_aload_n hx hb dX2_init_76 rfl (lv_at hl 0 rfl) ?_
  refine lv_bipush (v := 64) hx hb dX2_init_77 (by decide) ?_
  refine va_newa (atype := .int) (ty := .int) (n := 64) (N' := 64) (a0 := (64, .inl (fun _ => 0))) hx hb hac rfl hK hP hD hS hA (fun cA => rfl) (by decide) rfl (Nat.le_of_ble_eq_true rfl) (Nat.le_of_ble_eq_true rfl) (Nat.le_of_ble_eq_true rfl) dX2_init_79 (fun q19 cA20 H hK9 hP hD hS => ?_)
  obtain rfl : cI = cA20 := (z_cI hK9).symm
  have hP : va_P (dC, dI) vwCl (([(q, .inr (2, [.int 0, .int 0, .int 0, .int 0, .int 0, .ref q1, .ref q3, .ref q5, .ref q7, .ref q9, .ref q11, .ref q13, .ref q15, .ref q17, .null, .null, .null, .null])), (q1, .inl (cI, 8, .inl (fun _ => 0))), (q3, .inl (cI, 64, .inl (fun _ => 0))), (q5, .inl (cI, 64, .inl (fun _ => 0))), (q7, .inl (cI, 64, .inl (fun _ => 0))), (q9, .inl (cI, 64, .inl (fun _ => 0))), (q11, .inl (cI, 64, .inl (fun _ => 0))), (q13, .inl (cI, 64, .inl (fun _ => 0))), (q15, .inl (cI, 64, .inl (fun _ => 0))), (q17, .inl (cI, 64, .inl (fun _ => 0))), (q19, .inl (cI, 64, .inl (fun _ => 0)))] : va_W)) H := hP
  have hD : va_D A (([(q, .inr (2, [.int 0, .int 0, .int 0, .int 0, .int 0, .ref q1, .ref q3, .ref q5, .ref q7, .ref q9, .ref q11, .ref q13, .ref q15, .ref q17, .null, .null, .null, .null])), (q1, .inl (cI, 8, .inl (fun _ => 0))), (q3, .inl (cI, 64, .inl (fun _ => 0))), (q5, .inl (cI, 64, .inl (fun _ => 0))), (q7, .inl (cI, 64, .inl (fun _ => 0))), (q9, .inl (cI, 64, .inl (fun _ => 0))), (q11, .inl (cI, 64, .inl (fun _ => 0))), (q13, .inl (cI, 64, .inl (fun _ => 0))), (q15, .inl (cI, 64, .inl (fun _ => 0))), (q17, .inl (cI, 64, .inl (fun _ => 0))), (q19, .inl (cI, 64, .inl (fun _ => 0)))] : va_W)) := hD
  refine va_putF (D := (dC, dI)) (ci := 2) (v := .ref q19) (ty := (.array .int)) (C := RX2) (T := TX2) (N := 18) hx hb hts hinX2 tyX2 tyX2_ok nmX2 hown hK hP hD hS 0 rfl rfl 14 (by decide) hf39 (fun _ h9 => h9) rfl hinit rfl (by decide +kernel) rfl rfl (Nat.le_of_ble_eq_true rfl) dX2_init_81 (fun H locs hP hD hS => ?_)
  have hP : va_P (dC, dI) vwCl (([(q, .inr (2, [.int 0, .int 0, .int 0, .int 0, .int 0, .ref q1, .ref q3, .ref q5, .ref q7, .ref q9, .ref q11, .ref q13, .ref q15, .ref q17, .ref q19, .null, .null, .null])), (q1, .inl (cI, 8, .inl (fun _ => 0))), (q3, .inl (cI, 64, .inl (fun _ => 0))), (q5, .inl (cI, 64, .inl (fun _ => 0))), (q7, .inl (cI, 64, .inl (fun _ => 0))), (q9, .inl (cI, 64, .inl (fun _ => 0))), (q11, .inl (cI, 64, .inl (fun _ => 0))), (q13, .inl (cI, 64, .inl (fun _ => 0))), (q15, .inl (cI, 64, .inl (fun _ => 0))), (q17, .inl (cI, 64, .inl (fun _ => 0))), (q19, .inl (cI, 64, .inl (fun _ => 0)))] : va_W)) H := hP
  have hD : va_D A (([(q, .inr (2, [.int 0, .int 0, .int 0, .int 0, .int 0, .ref q1, .ref q3, .ref q5, .ref q7, .ref q9, .ref q11, .ref q13, .ref q15, .ref q17, .ref q19, .null, .null, .null])), (q1, .inl (cI, 8, .inl (fun _ => 0))), (q3, .inl (cI, 64, .inl (fun _ => 0))), (q5, .inl (cI, 64, .inl (fun _ => 0))), (q7, .inl (cI, 64, .inl (fun _ => 0))), (q9, .inl (cI, 64, .inl (fun _ => 0))), (q11, .inl (cI, 64, .inl (fun _ => 0))), (q13, .inl (cI, 64, .inl (fun _ => 0))), (q15, .inl (cI, 64, .inl (fun _ => 0))), (q17, .inl (cI, 64, .inl (fun _ => 0))), (q19, .inl (cI, 64, .inl (fun _ => 0)))] : va_W)) := hD
  refine lv_aload_n hx hb dX2_init_84 rfl (lv_at hl 0 rfl) ?_
  refine lv_bipush (v := 64) hx hb dX2_init_85 (by decide) ?_
  refine va_newa (atype := .int) (ty := .int) (n := 64) (N' := 64) (a0 := (64, .inl (fun _ => 0))) hx hb hac rfl hK hP hD hS hA (fun cA => rfl) (by decide) rfl (Nat.le_of_ble_eq_true rfl) (Nat.le_of_ble_eq_true rfl) (Nat.le_of_ble_eq_true rfl) dX2_init_87 (fun q21 cA22 H hK9 hP hD hS => ?_)
  obtain rfl : cI = cA22 := (z_cI hK9).symm
  have hP : va_P (dC, dI) vwCl (([(q, .inr (2, [.int 0, .int 0, .int 0, .int 0, .int 0, .ref q1, .ref q3, .ref q5, .ref q7, .ref q9, .ref q11, .ref q13, .ref q15, .ref q17, .ref q19, .null, .null, .null])), (q1, .inl (cI, 8, .inl (fun _ => 0))), (q3, .inl (cI, 64, .inl (fun _ => 0))), (q5, .inl (cI, 64, .inl (fun _ => 0))), (q7, .inl (cI, 64, .inl (fun _ => 0))), (q9, .inl (cI, 64, .inl (fun _ => 0))), (q11, .inl (cI, 64, .inl (fun _ => 0))), (q13, .inl (cI, 64, .inl (fun _ => 0))), (q15, .inl (cI, 64, .inl (fun _ => 0))), (q17, .inl (cI, 64, .inl (fun _ => 0))), (q19, .inl (cI, 64, .inl (fun _ => 0))), (q21, .inl (cI, 64, .inl (fun _ => 0)))] : va_W)) H := hP
  have hD : va_D A (([(q, .inr (2, [.int 0, .int 0, .int 0, .int 0, .int 0, .ref q1, .ref q3, .ref q5, .ref q7, .ref q9, .ref q11, .ref q13, .ref q15, .ref q17, .ref q19, .null, .null, .null])), (q1, .inl (cI, 8, .inl (fun _ => 0))), (q3, .inl (cI, 64, .inl (fun _ => 0))), (q5, .inl (cI, 64, .inl (fun _ => 0))), (q7, .inl (cI, 64, .inl (fun _ => 0))), (q9, .inl (cI, 64, .inl (fun _ => 0))), (q11, .inl (cI, 64, .inl (fun _ => 0))), (q13, .inl (cI, 64, .inl (fun _ => 0))), (q15, .inl (cI, 64, .inl (fun _ => 0))), (q17, .inl (cI, 64, .inl (fun _ => 0))), (q19, .inl (cI, 64, .inl (fun _ => 0))), (q21, .inl (cI, 64, .inl (fun _ => 0)))] : va_W)) := hD
  refine va_putF (D := (dC, dI)) (ci := 2) (v := .ref q21) (ty := (.array .int)) (C := RX2) (T := TX2) (N := 18) hx hb hts hinX2 tyX2 tyX2_ok nmX2 hown hK hP hD hS 0 rfl rfl 15 (by decide) hf42 (fun _ h9 => h9) rfl hinit rfl (by decide +kernel) rfl rfl (Nat.le_of_ble_eq_true rfl) dX2_init_89 (fun H locs hP hD hS => ?_)
  have hP : va_P (dC, dI) vwCl (([(q, .inr (2, [.int 0, .int 0, .int 0, .int 0, .int 0, .ref q1, .ref q3, .ref q5, .ref q7, .ref q9, .ref q11, .ref q13, .ref q15, .ref q17, .ref q19, .ref q21, .null, .null])), (q1, .inl (cI, 8, .inl (fun _ => 0))), (q3, .inl (cI, 64, .inl (fun _ => 0))), (q5, .inl (cI, 64, .inl (fun _ => 0))), (q7, .inl (cI, 64, .inl (fun _ => 0))), (q9, .inl (cI, 64, .inl (fun _ => 0))), (q11, .inl (cI, 64, .inl (fun _ => 0))), (q13, .inl (cI, 64, .inl (fun _ => 0))), (q15, .inl (cI, 64, .inl (fun _ => 0))), (q17, .inl (cI, 64, .inl (fun _ => 0))), (q19, .inl (cI, 64, .inl (fun _ => 0))), (q21, .inl (cI, 64, .inl (fun _ => 0)))] : va_W)) H := hP
  have hD : va_D A (([(q, .inr (2, [.int 0, .int 0, .int 0, .int 0, .int 0, .ref q1, .ref q3, .ref q5, .ref q7, .ref q9, .ref q11, .ref q13, .ref q15, .ref q17, .ref q19, .ref q21, .null, .null])), (q1, .inl (cI, 8, .inl (fun _ => 0))), (q3, .inl (cI, 64, .inl (fun _ => 0))), (q5, .inl (cI, 64, .inl (fun _ => 0))), (q7, .inl (cI, 64, .inl (fun _ => 0))), (q9, .inl (cI, 64, .inl (fun _ => 0))), (q11, .inl (cI, 64, .inl (fun _ => 0))), (q13, .inl (cI, 64, .inl (fun _ => 0))), (q15, .inl (cI, 64, .inl (fun _ => 0))), (q17, .inl (cI, 64, .inl (fun _ => 0))), (q19, .inl (cI, 64, .inl (fun _ => 0))), (q21, .inl (cI, 64, .inl (fun _ => 0)))] : va_W)) := hD
  refine lv_aload_n hx hb dX2_init_92 rfl (lv_at hl 0 rfl) ?_
  refine lv_bipush (v := 64) hx hb dX2_init_93 (by decide) ?_
  refine va_newa (atype := .int) (ty := .int) (n := 64) (N' := 64) (a0 := (64, .inl (fun _ => 0))) hx hb hac rfl hK hP hD hS hA (fun cA => rfl) (by decide) rfl (Nat.le_of_ble_eq_true rfl) (Nat.le_of_ble_eq_true rfl) (Nat.le_of_ble_eq_true rfl) dX2_init_95 (fun q23 cA24 H hK9 hP hD hS => ?_)
  obtain rfl : cI = cA24 := (z_cI hK9).symm
  have hP : va_P (dC, dI) vwCl (([(q, .inr (2, [.int 0, .int 0, .int 0, .int 0, .int 0, .ref q1, .ref q3, .ref q5, .ref q7, .ref q9, .ref q11, .ref q13, .ref q15, .ref q17, .ref q19, .ref q21, .null, .null])), (q1, .inl (cI, 8, .inl (fun _ => 0))), (q3, .inl (cI, 64, .inl (fun _ => 0))), (q5, .inl (cI, 64, .inl (fun _ => 0))), (q7, .inl (cI, 64, .inl (fun _ => 0))), (q9, .inl (cI, 64, .inl (fun _ => 0))), (q11, .inl (cI, 64, .inl (fun _ => 0))), (q13, .inl (cI, 64, .inl (fun _ => 0))), (q15, .inl (cI, 64, .inl (fun _ => 0))), (q17, .inl (cI, 64, .inl (fun _ => 0))), (q19, .inl (cI, 64, .inl (fun _ => 0))), (q21, .inl (cI, 64, .inl (fun _ => 0))), (q23, .inl (cI, 64, .inl (fun _ => 0)))] : va_W)) H := hP
  have hD : va_D A (([(q, .inr (2, [.int 0, .int 0, .int 0, .int 0, .int 0, .ref q1, .ref q3, .ref q5, .ref q7, .ref q9, .ref q11, .ref q13, .ref q15, .ref q17, .ref q19, .ref q21, .null, .null])), (q1, .inl (cI, 8, .inl (fun _ => 0))), (q3, .inl (cI, 64, .inl (fun _ => 0))), (q5, .inl (cI, 64, .inl (fun _ => 0))), (q7, .inl (cI, 64, .inl (fun _ => 0))), (q9, .inl (cI, 64, .inl (fun _ => 0))), (q11, .inl (cI, 64, .inl (fun _ => 0))), (q13, .inl (cI, 64, .inl (fun _ => 0))), (q15, .inl (cI, 64, .inl (fun _ => 0))), (q17, .inl (cI, 64, .inl (fun _ => 0))), (q19, .inl (cI, 64, .inl (fun _ => 0))), (q21, .inl (cI, 64, .inl (fun _ => 0))), (q23, .inl (cI, 64, .inl (fun _ => 0)))] : va_W)) := hD
  refine va_putF (D := (dC, dI)) (ci := 2) (v := .ref q23) (ty := (.array .int)) (C := RX2) (T := TX2) (N := 18) hx hb hts hinX2 tyX2 tyX2_ok nmX2 hown hK hP hD hS 0 rfl rfl 16 (by decide) hf45 (fun _ h9 => h9) rfl hinit rfl (by decide +kernel) rfl rfl (Nat.le_of_ble_eq_true rfl) dX2_init_97 (fun H locs hP hD hS => ?_)
  have hP : va_P (dC, dI) vwCl (([(q, .inr (2, [.int 0, .int 0, .int 0, .int 0, .int 0, .ref q1, .ref q3, .ref q5, .ref q7, .ref q9, .ref q11, .ref q13, .ref q15, .ref q17, .ref q19, .ref q21, .ref q23, .null])), (q1, .inl (cI, 8, .inl (fun _ => 0))), (q3, .inl (cI, 64, .inl (fun _ => 0))), (q5, .inl (cI, 64, .inl (fun _ => 0))), (q7, .inl (cI, 64, .inl (fun _ => 0))), (q9, .inl (cI, 64, .inl (fun _ => 0))), (q11, .inl (cI, 64, .inl (fun _ => 0))), (q13, .inl (cI, 64, .inl (fun _ => 0))), (q15, .inl (cI, 64, .inl (fun _ => 0))), (q17, .inl (cI, 64, .inl (fun _ => 0))), (q19, .inl (cI, 64, .inl (fun _ => 0))), (q21, .inl (cI, 64, .inl (fun _ => 0))), (q23, .inl (cI, 64, .inl (fun _ => 0)))] : va_W)) H := hP
  have hD : va_D A (([(q, .inr (2, [.int 0, .int 0, .int 0, .int 0, .int 0, .ref q1, .ref q3, .ref q5, .ref q7, .ref q9, .ref q11, .ref q13, .ref q15, .ref q17, .ref q19, .ref q21, .ref q23, .null])), (q1, .inl (cI, 8, .inl (fun _ => 0))), (q3, .inl (cI, 64, .inl (fun _ => 0))), (q5, .inl (cI, 64, .inl (fun _ => 0))), (q7, .inl (cI, 64, .inl (fun _ => 0))), (q9, .inl (cI, 64, .inl (fun _ => 0))), (q11, .inl (cI, 64, .inl (fun _ => 0))), (q13, .inl (cI, 64, .inl (fun _ => 0))), (q15, .inl (cI, 64, .inl (fun _ => 0))), (q17, .inl (cI, 64, .inl (fun _ => 0))), (q19, .inl (cI, 64, .inl (fun _ => 0))), (q21, .inl (cI, 64, .inl (fun _ => 0))), (q23, .inl (cI, 64, .inl (fun _ => 0)))] : va_W)) := hD
  refine lv_aload_n hx hb dX2_init_100 rfl (lv_at hl 0 rfl) ?_
  refine lv_bipush (v := 64) hx hb dX2_init_101 (by decide) ?_
  refine va_newa (atype := .int) (ty := .int) (n := 64) (N' := 64) (a0 := (64, .inl (fun _ => 0))) hx hb hac rfl hK hP hD hS hA (fun cA => rfl) (by decide) rfl (Nat.le_of_ble_eq_true rfl) (Nat.le_of_ble_eq_true rfl) (Nat.le_of_ble_eq_true rfl) dX2_init_103 (fun q25 cA26 H hK9 hP hD hS => ?_)
  obtain rfl : cI = cA26 := (z_cI hK9).symm
  have hP : va_P (dC, dI) vwCl (([(q, .inr (2, [.int 0, .int 0, .int 0, .int 0, .int 0, .ref q1, .ref q3, .ref q5, .ref q7, .ref q9, .ref q11, .ref q13, .ref q15, .ref q17, .ref q19, .ref q21, .ref q23, .null])), (q1, .inl (cI, 8, .inl (fun _ => 0))), (q3, .inl (cI, 64, .inl (fun _ => 0))), (q5, .inl (cI, 64, .inl (fun _ => 0))), (q7, .inl (cI, 64, .inl (fun _ => 0))), (q9, .inl (cI, 64, .inl (fun _ => 0))), (q11, .inl (cI, 64, .inl (fun _ => 0))), (q13, .inl (cI, 64, .inl (fun _ => 0))), (q15, .inl (cI, 64, .inl (fun _ => 0))), (q17, .inl (cI, 64, .inl (fun _ => 0))), (q19, .inl (cI, 64, .inl (fun _ => 0))), (q21, .inl (cI, 64, .inl (fun _ => 0))), (q23, .inl (cI, 64, .inl (fun _ => 0))), (q25, .inl (cI, 64, .inl (fun _ => 0)))] : va_W)) H := hP
  have hD : va_D A (([(q, .inr (2, [.int 0, .int 0, .int 0, .int 0, .int 0, .ref q1, .ref q3, .ref q5, .ref q7, .ref q9, .ref q11, .ref q13, .ref q15, .ref q17, .ref q19, .ref q21, .ref q23, .null])), (q1, .inl (cI, 8, .inl (fun _ => 0))), (q3, .inl (cI, 64, .inl (fun _ => 0))), (q5, .inl (cI, 64, .inl (fun _ => 0))), (q7, .inl (cI, 64, .inl (fun _ => 0))), (q9, .inl (cI, 64, .inl (fun _ => 0))), (q11, .inl (cI, 64, .inl (fun _ => 0))), (q13, .inl (cI, 64, .inl (fun _ => 0))), (q15, .inl (cI, 64, .inl (fun _ => 0))), (q17, .inl (cI, 64, .inl (fun _ => 0))), (q19, .inl (cI, 64, .inl (fun _ => 0))), (q21, .inl (cI, 64, .inl (fun _ => 0))), (q23, .inl (cI, 64, .inl (fun _ => 0))), (q25, .inl (cI, 64, .inl (fun _ => 0)))] : va_W)) := hD
  refine va_putF (D := (dC, dI)) (ci := 2) (v := .ref q25) (ty := (.array .int)) (C := RX2) (T := TX2) (N := 18) hx hb hts hinX2 tyX2 tyX2_ok nmX2 hown hK hP hD hS 0 rfl rfl 17 (by decide) hf48 (fun _ h9 => h9) rfl hinit rfl (by decide +kernel) rfl rfl (Nat.le_of_ble_eq_true rfl) dX2_init_105 (fun H locs hP hD hS => ?_)
  have hP : va_P (dC, dI) vwCl (([(q, .inr (2, [.int 0, .int 0, .int 0, .int 0, .int 0, .ref q1, .ref q3, .ref q5, .ref q7, .ref q9, .ref q11, .ref q13, .ref q15, .ref q17, .ref q19, .ref q21, .ref q23, .ref q25])), (q1, .inl (cI, 8, .inl (fun _ => 0))), (q3, .inl (cI, 64, .inl (fun _ => 0))), (q5, .inl (cI, 64, .inl (fun _ => 0))), (q7, .inl (cI, 64, .inl (fun _ => 0))), (q9, .inl (cI, 64, .inl (fun _ => 0))), (q11, .inl (cI, 64, .inl (fun _ => 0))), (q13, .inl (cI, 64, .inl (fun _ => 0))), (q15, .inl (cI, 64, .inl (fun _ => 0))), (q17, .inl (cI, 64, .inl (fun _ => 0))), (q19, .inl (cI, 64, .inl (fun _ => 0))), (q21, .inl (cI, 64, .inl (fun _ => 0))), (q23, .inl (cI, 64, .inl (fun _ => 0))), (q25, .inl (cI, 64, .inl (fun _ => 0)))] : va_W)) H := hP
  have hD : va_D A (([(q, .inr (2, [.int 0, .int 0, .int 0, .int 0, .int 0, .ref q1, .ref q3, .ref q5, .ref q7, .ref q9, .ref q11, .ref q13, .ref q15, .ref q17, .ref q19, .ref q21, .ref q23, .ref q25])), (q1, .inl (cI, 8, .inl (fun _ => 0))), (q3, .inl (cI, 64, .inl (fun _ => 0))), (q5, .inl (cI, 64, .inl (fun _ => 0))), (q7, .inl (cI, 64, .inl (fun _ => 0))), (q9, .inl (cI, 64, .inl (fun _ => 0))), (q11, .inl (cI, 64, .inl (fun _ => 0))), (q13, .inl (cI, 64, .inl (fun _ => 0))), (q15, .inl (cI, 64, .inl (fun _ => 0))), (q17, .inl (cI, 64, .inl (fun _ => 0))), (q19, .inl (cI, 64, .inl (fun _ => 0))), (q21, .inl (cI, 64, .inl (fun _ => 0))), (q23, .inl (cI, 64, .inl (fun _ => 0))), (q25, .inl (cI, 64, .inl (fun _ => 0)))] : va_W)) := hD
  refine lv_aload_n hx hb dX2_init_108 rfl (lv_at hl 0 rfl) ?_
  refine lv_iload_n hx hb dX2_init_109 rfl (lv_at hl 1 rfl) ?_
  refine lv_iload_n hx hb dX2_init_110 rfl (lv_at hl 2 rfl) ?_
  have hP : va_P (dC, dI) vwCl (sW cI (zad q (fun i => [0, q1, q3, q5, q7, q9, q11, q13, q15, q17, q19, q21, q23, q25].getD i 0)) (fun _ _ => 0)) H := hP
  have hD : va_D A (sW cI (zad q (fun i => [0, q1, q3, q5, q7, q9, q11, q13, q15, q17, q19, q21, q23, q25].getD i 0)) (fun _ _ => 0)) := hD
  refine zV_V (pre := []) (wc := sW cI (zad q (fun i => [0, q1, q3, q5, q7, q9, q11, q13, q15, q17, q19, q21, q23, q25].getD i 0)) (fun _ _ => 0)) (post := []) (w1 := sW cI (zad q (fun i => [0, q1, q3, q5, q7, q9, q11, q13, q15, q17, q19, q21, q23, q25].getD i 0)) (sl_new u v)) ⟨hx, hb, hml, hown, hts⟩ (c_X2_startAnew l dC dI cI (zad q (fun i => [0, q1, q3, q5, q7, q9, q11, q13, q15, q17, q19, q21, q23, q25].getD i 0)) (fun _ _ => 0) u v) (cwV 2 hts gX2_init_X2_startAnew rfl rfl rfl (by decide +kernel) ⟨Nat.le_of_ble_eq_true rfl, Nat.le_of_ble_eq_true rfl⟩) (List.append_nil _).symm hK hN (ci := 2) (q0 := 0) rfl rfl rfl hP hD hS hA rfl hl.1 rfl (Nat.le_of_ble_eq_true rfl) dX2_init_111 ⟨Nat.le_of_ble_eq_true rfl, Nat.le_of_ble_eq_true rfl⟩ (fun H locs hP hD hS => ?_)
  rw [List.append_nil] at hP hD
  exact zM_ret (fun i => [0, q1, q3, q5, q7, q9, q11, q13, q15, q17, q19, q21, q23, q25].getD i 0) trivial hx hb hr hlocks hP hD hS dX2_init_114
end
section
set_option maxHeartbeats 4000000 in
set_option maxRecDepth 100000 in
theorem c_X3_init (l : Launch) (dC : Nat → ClassId) (dI : Nat → Nat → Nat) (cI : ClassId) (q : Nat) : zM l yX3_init wsX3_init { frames := 3, cells := 33, slots := 1686, locals := 68 } (dC, dI) cI [.ref q] (([(q, .inr (3, [.null, .null, .null, .null, .int 0, .int 0]))] : va_W)) (fun u : (Nat → Nat) × (Nat → Nat) × (Nat → Nat) => oW u.1 u.2.1 u.2.2 cal0 ++ kW cI u.1 cal0 ++ bW u.1 bst0 ++ sW cI u.2.1 (sl_new 4 4) ++ sW cI u.2.2 (sl_new 4 4)) (fun u => u.1 0 = q) 33 1686 := by
  refine zM_of (cc := cX3_init) (maxL := 1) (ret := none) (by decide) rfl (Nat.le_of_ble_eq_true rfl) rfl ?_
  intro p e s m below meth c A ls C0 hinit hl
  obtain ⟨hx, hb, hr, hml, hown, hts, hlocks, hK, hN, hA, hP, hD, hS⟩ := C0
  have hown : s.vm.findClass RX3 = some m.cls := hown
  have hl : lv_has ls 1 [(0, .ref q)] := hl
  have hf10 := hts (.fieldLink RX3 10 "PaddyTerraces" "calendar" "LPaddyTerraces$Calendar;") (by decide +kernel)
  have hf21 := hts (.fieldLink RX3 21 "PaddyTerraces" "slope" "LPaddyTerraces$Slope;") (by decide +kernel)
  have hf25 := hts (.fieldLink RX3 25 "PaddyTerraces" "trial" "LPaddyTerraces$Slope;") (by decide +kernel)
  have hf31 := hts (.fieldLink RX3 31 "PaddyTerraces" "best" "LPaddyTerraces$Move;") (by decide +kernel)
  have hc_oi := hts (.code objectInit ⟨#[0xb1]⟩ 1 none) (by decide +kernel)
  have hi16 := hts (.initialized RX2) (by decide +kernel)
  have hi28 := hts (.initialized RX1) (by decide +kernel)
  have hi7 := hts (.initialized RX0) (by decide +kernel)
  have hi_X0 := hts (.initialized RX0) (by decide +kernel)
  have hi_X1 := hts (.initialized RX1) (by decide +kernel)
  have hi_X2 := hts (.initialized RX2) (by decide +kernel)
  have him_X0 := hts (.instanceMethod yX0_init) (by decide +kernel)
  have him_X1 := hts (.instanceMethod yX1_init) (by decide +kernel)
  have him_X2 := hts (.instanceMethod yX2_init) (by decide +kernel)
  have hk16 := hts (.classLink RX3 16 RX2) (by decide +kernel)
  have hk28 := hts (.classLink RX3 28 RX1) (by decide +kernel)
  have hk7 := hts (.classLink RX3 7 RX0) (by decide +kernel)
  have hm_oi := hts (.methodLink RX3 1 objectInit) (by decide +kernel)
  have hml18 := hts (.methodLink RX3 18 yX2_init) (by decide +kernel)
  have hml9 := hts (.methodLink RX3 9 yX0_init) (by decide +kernel)
  have hn16 := hts (.instantiable RX2 18) (by decide +kernel)
  have hn28 := hts (.instantiable RX1 5) (by decide +kernel)
  have hn7 := hts (.instantiable RX0 3) (by decide +kernel)
  have hs_oi := hts (.instanceMethod objectInit) (by decide +kernel)
  have hinX0 : ∀ w ∈ wsX00, w ∈ wsX3_init := by decide +kernel
  have hinX1 : ∀ w ∈ wsX10, w ∈ wsX3_init := by decide +kernel
  have hinX2 : ∀ w ∈ wsX20, w ∈ wsX3_init := by decide +kernel
  have hinX3 : ∀ w ∈ wsX30, w ∈ wsX3_init := by decide +kernel
  have hS0 := hS
  refine lv_aload_n hx hb dX3_init_0 rfl (lv_at hl 0 rfl) ?_
  refine W.objInit hx hb hown hm_oi hs_oi hc_oi rfl (by rw [hml]; exact hl.1) rfl dX3_init_1 (Nat.le_of_ble_eq_true rfl) (Nat.le_of_ble_eq_true rfl) ?_
  refine W.eq (g2 := F0 m 4 ls []) rfl ?_
  refine lv_aload_n hx hb dX3_init_4 rfl (lv_at hl 0 rfl) ?_
  refine va_new (ci := 0) (fs := [.null, .null, .null]) (C := RX0) (T := TX0) (N := 3) hx hb hts hinX0 tyX0 tyX0_ok hown hk7 hn7 hi7 hK hP hD hS hA rfl (fun j hj => by rcases (show j = 0 ∨ j = 1 ∨ j = 2 by omega) with rfl | rfl | rfl <;> rfl) (Nat.le_of_ble_eq_true rfl) (Nat.le_of_ble_eq_true rfl) dX3_init_5 (fun q1 H hP hD hS => ?_)
  have hP : va_P (dC, dI) vwCl (([(q, .inr (3, [.null, .null, .null, .null, .int 0, .int 0]))] : va_W) ++ ([(q1, .inr (0, [.null, .null, .null]))] : va_W)) H := hP
  have hD : va_D A (([(q, .inr (3, [.null, .null, .null, .null, .int 0, .int 0]))] : va_W) ++ ([(q1, .inr (0, [.null, .null, .null]))] : va_W)) := hD
  refine lv_dup hx hb dX3_init_8 rfl ?_
  refine zM_I (pre := ([(q, .inr (3, [.null, .null, .null, .null, .int 0, .int 0]))] : va_W)) (wc := ([(q1, .inr (0, [.null, .null, .null]))] : va_W)) (post := []) ⟨hx, hb, hml, hown, hts⟩ (c_X0_init l dC dI cI q1) (cwI 0 hts gX3_init_X0_init rfl rfl rfl hi_X0 hml9 him_X0 rfl (by decide +kernel) ⟨Nat.le_of_ble_eq_true rfl, Nat.le_of_ble_eq_true rfl⟩) (List.append_nil _ |>.symm) hK hN hP hD hS hA rfl hl.1 rfl (Nat.le_of_ble_eq_true rfl) dX3_init_9 ⟨Nat.le_of_ble_eq_true rfl, Nat.le_of_ble_eq_true rfl⟩ (fun u2 H locs hu hP hD hS => ?_)
  rw [List.append_nil] at hP hD
  have hP : va_P (dC, dI) vwCl (([(q, .inr (3, [.null, .null, .null, .null, .int 0, .int 0]))] : va_W) ++ kW cI (kad q1 u2) cal0) H := hP
  have hD : va_D A (([(q, .inr (3, [.null, .null, .null, .null, .int 0, .int 0]))] : va_W) ++ kW cI (kad q1 u2) cal0) := hD
  refine va_putF (D := (dC, dI)) (ci := 3) (v := .ref q1) (ty := (.object "PaddyTerraces$Calendar")) (C := RX3) (T := TX3) (N := 6) hx hb hts hinX3 tyX3 tyX3_ok nmX3 hown hK hP hD hS 0 rfl rfl 0 (by decide) hf10 (fun _ h9 => h9) rfl hinit rfl (by decide +kernel) rfl rfl (Nat.le_of_ble_eq_true rfl) dX3_init_12 (fun H locs hP hD hS => ?_)
  have hP : va_P (dC, dI) vwCl (([(q, .inr (3, [.ref q1, .null, .null, .null, .int 0, .int 0]))] : va_W) ++ kW cI (kad q1 u2) cal0) H := hP
  have hD : va_D A (([(q, .inr (3, [.ref q1, .null, .null, .null, .int 0, .int 0]))] : va_W) ++ kW cI (kad q1 u2) cal0) := hD
  refine lv_aload_n hx hb dX3_init_15 rfl (lv_at hl 0 rfl) ?_
  refine va_new (ci := 2) (fs := [.int 0, .int 0, .int 0, .int 0, .int 0, .null, .null, .null, .null, .null, .null, .null, .null, .null, .null, .null, .null, .null]) (C := RX2) (T := TX2) (N := 18) hx hb hts hinX2 tyX2 tyX2_ok hown hk16 hn16 hi16 hK hP hD hS hA rfl (fun j hj => by rcases (show j = 0 ∨ j = 1 ∨ j = 2 ∨ j = 3 ∨ j = 4 ∨ j = 5 ∨ j = 6 ∨ j = 7 ∨ j = 8 ∨ j = 9 ∨ j = 10 ∨ j = 11 ∨ j = 12 ∨ j = 13 ∨ j = 14 ∨ j = 15 ∨ j = 16 ∨ j = 17 by omega) with rfl | rfl | rfl | rfl | rfl | rfl | rfl | rfl | rfl | rfl | rfl | rfl | rfl | rfl | rfl | rfl | rfl | rfl <;> rfl) (Nat.le_of_ble_eq_true rfl) (Nat.le_of_ble_eq_true rfl) dX3_init_16 (fun q3 H hP hD hS => ?_)
  have hP : va_P (dC, dI) vwCl (([(q, .inr (3, [.ref q1, .null, .null, .null, .int 0, .int 0]))] : va_W) ++ kW cI (kad q1 u2) cal0 ++ ([(q3, .inr (2, [.int 0, .int 0, .int 0, .int 0, .int 0, .null, .null, .null, .null, .null, .null, .null, .null, .null, .null, .null, .null, .null]))] : va_W)) H := hP
  have hD : va_D A (([(q, .inr (3, [.ref q1, .null, .null, .null, .int 0, .int 0]))] : va_W) ++ kW cI (kad q1 u2) cal0 ++ ([(q3, .inr (2, [.int 0, .int 0, .int 0, .int 0, .int 0, .null, .null, .null, .null, .null, .null, .null, .null, .null, .null, .null, .null, .null]))] : va_W)) := hD
  refine lv_dup hx hb dX3_init_19 rfl ?_
  refine lv_iconst (v := 4) hx hb dX3_init_20 (by decide) ?_
  refine lv_iconst (v := 4) hx hb dX3_init_21 (by decide) ?_
  refine zM_I (pre := ([(q, .inr (3, [.ref q1, .null, .null, .null, .int 0, .int 0]))] : va_W) ++ kW cI (kad q1 u2) cal0) (wc := ([(q3, .inr (2, [.int 0, .int 0, .int 0, .int 0, .int 0, .null, .null, .null, .null, .null, .null, .null, .null, .null, .null, .null, .null, .null]))] : va_W)) (post := []) ⟨hx, hb, hml, hown, hts⟩ (c_X2_init l dC dI cI q3 4 4) (cwI 2 hts gX3_init_X2_init rfl rfl rfl hi_X2 hml18 him_X2 rfl (by decide +kernel) ⟨Nat.le_of_ble_eq_true rfl, Nat.le_of_ble_eq_true rfl⟩) (List.append_nil _ |>.symm) hK hN hP hD hS hA rfl hl.1 rfl (Nat.le_of_ble_eq_true rfl) dX3_init_22 ⟨Nat.le_of_ble_eq_true rfl, Nat.le_of_ble_eq_true rfl⟩ (fun u4 H locs hu hP hD hS => ?_)
  rw [List.append_nil] at hP hD
  have hP : va_P (dC, dI) vwCl (([(q, .inr (3, [.ref q1, .null, .null, .null, .int 0, .int 0]))] : va_W) ++ kW cI (kad q1 u2) cal0 ++ sW cI (zad q3 u4) (sl_new 4 4)) H := hP
  have hD : va_D A (([(q, .inr (3, [.ref q1, .null, .null, .null, .int 0, .int 0]))] : va_W) ++ kW cI (kad q1 u2) cal0 ++ sW cI (zad q3 u4) (sl_new 4 4)) := hD
  refine va_putF (D := (dC, dI)) (ci := 3) (v := .ref q3) (ty := (.object "PaddyTerraces$Slope")) (C := RX3) (T := TX3) (N := 6) hx hb hts hinX3 tyX3 tyX3_ok nmX3 hown hK hP hD hS 0 rfl rfl 1 (by decide) hf21 (fun _ h9 => h9) rfl hinit rfl (by decide +kernel) rfl rfl (Nat.le_of_ble_eq_true rfl) dX3_init_25 (fun H locs hP hD hS => ?_)
  have hP : va_P (dC, dI) vwCl (([(q, .inr (3, [.ref q1, .ref q3, .null, .null, .int 0, .int 0]))] : va_W) ++ kW cI (kad q1 u2) cal0 ++ sW cI (zad q3 u4) (sl_new 4 4)) H := hP
  have hD : va_D A (([(q, .inr (3, [.ref q1, .ref q3, .null, .null, .int 0, .int 0]))] : va_W) ++ kW cI (kad q1 u2) cal0 ++ sW cI (zad q3 u4) (sl_new 4 4)) := hD
  refine lv_aload_n hx hb dX3_init_28 rfl (lv_at hl 0 rfl) ?_
  refine va_new (ci := 2) (fs := [.int 0, .int 0, .int 0, .int 0, .int 0, .null, .null, .null, .null, .null, .null, .null, .null, .null, .null, .null, .null, .null]) (C := RX2) (T := TX2) (N := 18) hx hb hts hinX2 tyX2 tyX2_ok hown hk16 hn16 hi16 hK hP hD hS hA rfl (fun j hj => by rcases (show j = 0 ∨ j = 1 ∨ j = 2 ∨ j = 3 ∨ j = 4 ∨ j = 5 ∨ j = 6 ∨ j = 7 ∨ j = 8 ∨ j = 9 ∨ j = 10 ∨ j = 11 ∨ j = 12 ∨ j = 13 ∨ j = 14 ∨ j = 15 ∨ j = 16 ∨ j = 17 by omega) with rfl | rfl | rfl | rfl | rfl | rfl | rfl | rfl | rfl | rfl | rfl | rfl | rfl | rfl | rfl | rfl | rfl | rfl <;> rfl) (Nat.le_of_ble_eq_true rfl) (Nat.le_of_ble_eq_true rfl) dX3_init_29 (fun q5 H hP hD hS => ?_)
  have hP : va_P (dC, dI) vwCl (([(q, .inr (3, [.ref q1, .ref q3, .null, .null, .int 0, .int 0]))] : va_W) ++ kW cI (kad q1 u2) cal0 ++ sW cI (zad q3 u4) (sl_new 4 4) ++ ([(q5, .inr (2, [.int 0, .int 0, .int 0, .int 0, .int 0, .null, .null, .null, .null, .null, .null, .null, .null, .null, .null, .null, .null, .null]))] : va_W)) H := hP
  have hD : va_D A (([(q, .inr (3, [.ref q1, .ref q3, .null, .null, .int 0, .int 0]))] : va_W) ++ kW cI (kad q1 u2) cal0 ++ sW cI (zad q3 u4) (sl_new 4 4) ++ ([(q5, .inr (2, [.int 0, .int 0, .int 0, .int 0, .int 0, .null, .null, .null, .null, .null, .null, .null, .null, .null, .null, .null, .null, .null]))] : va_W)) := hD
  refine lv_dup hx hb dX3_init_32 rfl ?_
  refine lv_iconst (v := 4) hx hb dX3_init_33 (by decide) ?_
  refine lv_iconst (v := 4) hx hb dX3_init_34 (by decide) ?_
  refine zM_I (pre := ([(q, .inr (3, [.ref q1, .ref q3, .null, .null, .int 0, .int 0]))] : va_W) ++ kW cI (kad q1 u2) cal0 ++ sW cI (zad q3 u4) (sl_new 4 4)) (wc := ([(q5, .inr (2, [.int 0, .int 0, .int 0, .int 0, .int 0, .null, .null, .null, .null, .null, .null, .null, .null, .null, .null, .null, .null, .null]))] : va_W)) (post := []) ⟨hx, hb, hml, hown, hts⟩ (c_X2_init l dC dI cI q5 4 4) (cwI 2 hts gX3_init_X2_init rfl rfl rfl hi_X2 hml18 him_X2 rfl (by decide +kernel) ⟨Nat.le_of_ble_eq_true rfl, Nat.le_of_ble_eq_true rfl⟩) (List.append_nil _ |>.symm) hK hN hP hD hS hA rfl hl.1 rfl (Nat.le_of_ble_eq_true rfl) dX3_init_35 ⟨Nat.le_of_ble_eq_true rfl, Nat.le_of_ble_eq_true rfl⟩ (fun u6 H locs hu hP hD hS => ?_)
  rw [List.append_nil] at hP hD
  have hP : va_P (dC, dI) vwCl (([(q, .inr (3, [.ref q1, .ref q3, .null, .null, .int 0, .int 0]))] : va_W) ++ kW cI (kad q1 u2) cal0 ++ sW cI (zad q3 u4) (sl_new 4 4) ++ sW cI (zad q5 u6) (sl_new 4 4)) H := hP
  have hD : va_D A (([(q, .inr (3, [.ref q1, .ref q3, .null, .null, .int 0, .int 0]))] : va_W) ++ kW cI (kad q1 u2) cal0 ++ sW cI (zad q3 u4) (sl_new 4 4) ++ sW cI (zad q5 u6) (sl_new 4 4)) := hD
  refine va_putF (D := (dC, dI)) (ci := 3) (v := .ref q5) (ty := (.object "PaddyTerraces$Slope")) (C := RX3) (T := TX3) (N := 6) hx hb hts hinX3 tyX3 tyX3_ok nmX3 hown hK hP hD hS 0 rfl rfl 2 (by decide) hf25 (fun _ h9 => h9) rfl hinit rfl (by decide +kernel) rfl rfl (Nat.le_of_ble_eq_true rfl) dX3_init_38 (fun H locs hP hD hS => ?_)
  have hP : va_P (dC, dI) vwCl (([(q, .inr (3, [.ref q1, .ref q3, .ref q5, .null, .int 0, .int 0]))] : va_W) ++ kW cI (kad q1 u2) cal0 ++ sW cI (zad q3 u4) (sl_new 4 4) ++ sW cI (zad q5 u6) (sl_new 4 4)) H := hP
  have hD : va_D A (([(q, .inr (3, [.ref q1, .ref q3, .ref q5, .null, .int 0, .int 0]))] : va_W) ++ kW cI (kad q1 u2) cal0 ++ sW cI (zad q3 u4) (sl_new 4 4) ++ sW cI (zad q5 u6) (sl_new 4 4)) := hD
  refine lv_aload_n hx hb dX3_init_41 rfl (lv_at hl 0 rfl) ?_
  refine va_new (ci := 1) (fs := [.int 0, .int 0, .int 0, .int 0, .int 0]) (C := RX1) (T := TX1) (N := 5) hx hb hts hinX1 tyX1 tyX1_ok hown hk28 hn28 hi28 hK hP hD hS hA rfl (fun j hj => by rcases (show j = 0 ∨ j = 1 ∨ j = 2 ∨ j = 3 ∨ j = 4 by omega) with rfl | rfl | rfl | rfl | rfl <;> rfl) (Nat.le_of_ble_eq_true rfl) (Nat.le_of_ble_eq_true rfl) dX3_init_42 (fun q7 H hP hD hS => ?_)
  have hP : va_P (dC, dI) vwCl (([(q, .inr (3, [.ref q1, .ref q3, .ref q5, .null, .int 0, .int 0]))] : va_W) ++ kW cI (kad q1 u2) cal0 ++ sW cI (zad q3 u4) (sl_new 4 4) ++ sW cI (zad q5 u6) (sl_new 4 4) ++ ([(q7, .inr (1, [.int 0, .int 0, .int 0, .int 0, .int 0]))] : va_W)) H := hP
  have hD : va_D A (([(q, .inr (3, [.ref q1, .ref q3, .ref q5, .null, .int 0, .int 0]))] : va_W) ++ kW cI (kad q1 u2) cal0 ++ sW cI (zad q3 u4) (sl_new 4 4) ++ sW cI (zad q5 u6) (sl_new 4 4) ++ ([(q7, .inr (1, [.int 0, .int 0, .int 0, .int 0, .int 0]))] : va_W)) := hD
  refine lv_dup hx hb dX3_init_45 rfl ?_
  refine zM_IN (pre := ([(q, .inr (3, [.ref q1, .ref q3, .ref q5, .null, .int 0, .int 0]))] : va_W) ++ kW cI (kad q1 u2) cal0 ++ sW cI (zad q3 u4) (sl_new 4 4) ++ sW cI (zad q5 u6) (sl_new 4 4)) (wc := ([(q7, .inr (1, [.int 0, .int 0, .int 0, .int 0, .int 0]))] : va_W)) (post := []) ⟨hx, hb, hml, hown, hts⟩ (c_X1_init l dC dI cI q7) ⟨va_cnB 0 hts gX3_init_X1_init_n30 rfl rfl rfl hN.2 hi_X1 (by decide +kernel) ⟨Nat.le_of_ble_eq_true rfl, Nat.le_of_ble_eq_true rfl⟩, rfl, him_X1⟩ (List.append_nil _ |>.symm) hK hN hP hD hS hA rfl hl.1 rfl (Nat.le_of_ble_eq_true rfl) dX3_init_46 ⟨Nat.le_of_ble_eq_true rfl, Nat.le_of_ble_eq_true rfl⟩ (fun u8 H locs hu hP hD hS => ?_)
  rw [List.append_nil] at hP hD
  have hP : va_P (dC, dI) vwCl (([(q, .inr (3, [.ref q1, .ref q3, .ref q5, .null, .int 0, .int 0]))] : va_W) ++ kW cI (kad q1 u2) cal0 ++ sW cI (zad q3 u4) (sl_new 4 4) ++ sW cI (zad q5 u6) (sl_new 4 4) ++ [(q7, .inr (1, [.int 0, .int 0, .int 0, .int 0, .int 0]))]) H := hP
  have hD : va_D A (([(q, .inr (3, [.ref q1, .ref q3, .ref q5, .null, .int 0, .int 0]))] : va_W) ++ kW cI (kad q1 u2) cal0 ++ sW cI (zad q3 u4) (sl_new 4 4) ++ sW cI (zad q5 u6) (sl_new 4 4) ++ [(q7, .inr (1, [.int 0, .int 0, .int 0, .int 0, .int 0]))]) := hD
  refine va_putF (D := (dC, dI)) (ci := 3) (v := .ref q7) (ty := (.object "PaddyTerraces$Move")) (C := RX3) (T := TX3) (N := 6) hx hb hts hinX3 tyX3 tyX3_ok nmX3 hown hK hP hD hS 0 rfl rfl 3 (by decide) hf31 (fun _ h9 => h9) rfl hinit rfl (by decide +kernel) rfl rfl (Nat.le_of_ble_eq_true rfl) dX3_init_49 (fun H locs hP hD hS => ?_)
  have hP : va_P (dC, dI) vwCl (([(q, .inr (3, [.ref q1, .ref q3, .ref q5, .ref q7, .int 0, .int 0]))] : va_W) ++ kW cI (kad q1 u2) cal0 ++ sW cI (zad q3 u4) (sl_new 4 4) ++ sW cI (zad q5 u6) (sl_new 4 4) ++ [(q7, .inr (1, [.int 0, .int 0, .int 0, .int 0, .int 0]))]) H := hP
  have hD : va_D A (([(q, .inr (3, [.ref q1, .ref q3, .ref q5, .ref q7, .int 0, .int 0]))] : va_W) ++ kW cI (kad q1 u2) cal0 ++ sW cI (zad q3 u4) (sl_new 4 4) ++ sW cI (zad q5 u6) (sl_new 4 4) ++ [(q7, .inr (1, [.int 0, .int 0, .int 0, .int 0, .int 0]))]) := hD
  have hP : va_P (dC, dI) vwCl (oW (oad q q1 q7 u2) (zad q3 u4) (zad q5 u6) cal0 ++ kW cI (oad q q1 q7 u2) cal0 ++ bW (oad q q1 q7 u2) bst0 ++ sW cI (zad q3 u4) (sl_new 4 4) ++ sW cI (zad q5 u6) (sl_new 4 4)) H := hP.sub [0, 1, 2, 3, 4, 33, 5, 6, 7, 8, 9, 10, 11, 12, 13, 14, 15, 16, 17, 18, 19, 20, 21, 22, 23, 24, 25, 26, 27, 28, 29, 30, 31, 32] rfl
  have hD : va_D A (oW (oad q q1 q7 u2) (zad q3 u4) (zad q5 u6) cal0 ++ kW cI (oad q q1 q7 u2) cal0 ++ bW (oad q q1 q7 u2) bst0 ++ sW cI (zad q3 u4) (sl_new 4 4) ++ sW cI (zad q5 u6) (sl_new 4 4)) := hD.sub [0, 1, 2, 3, 4, 33, 5, 6, 7, 8, 9, 10, 11, 12, 13, 14, 15, 16, 17, 18, 19, 20, 21, 22, 23, 24, 25, 26, 27, 28, 29, 30, 31, 32] (by decide +kernel) rfl
  exact zM_ret (w1 := fun u : (Nat → Nat) × (Nat → Nat) × (Nat → Nat) => oW u.1 u.2.1 u.2.2 cal0 ++ kW cI u.1 cal0 ++ bW u.1 bst0 ++ sW cI u.2.1 (sl_new 4 4) ++ sW cI u.2.2 (sl_new 4 4)) (oad q q1 q7 u2, zad q3 u4, zad q5 u6) rfl hx hb hr hlocks hP hD hS dX3_init_52
end
section
/-! arrays of arrays: the rows that make, read and write them; cells in any number, in their order -/
def zG (U : State) : Prop := (Cond.arrayOver (.array .int)).before #[] U = true ∧ (Cond.arrayOver (.array (.array .int))).before #[] U = true
theorem zG_moved {u U : State} (hvm : u.vm.Alike U.vm) (h : zG u) : zG U := ⟨over_moved hvm h.1, over_moved hvm h.2⟩
theorem zG_1 {U : State} {A : Array Value} (h : zG U) : (Cond.arrayOver (.array .int)).before A U = true := over_moved (Vm.Alike.refl _) h.1
theorem zG_2 {U : State} {A : Array Value} (h : zG U) : (Cond.arrayOver (.array (.array .int))).before A U = true := over_moved (Vm.Alike.refl _) h.2
theorem zG_s1 : (FieldType.array .int).toString = "[I" := by decide +kernel
theorem zG_s2 : "[" ++ (FieldType.array .int).toString = "[[I" := by decide +kernel
theorem zG_s2' : (FieldType.array (.array .int)).toString = "[[I" := by decide +kernel
theorem zG_s3 : "[" ++ (FieldType.array (.array .int)).toString = "[[[I" := by decide +kernel
theorem zG_s0 : "[" ++ FieldType.int.toString = "[I" := by decide +kernel
abbrev za_q (c : ClassId) (n : Nat) (f : Nat → Option Nat) : va_E := .inl (c, n, .inr (.inr (.inr (.inr f))))
abbrev za_i (c : ClassId) (n : Nat) (f : Nat → Int32) : va_E := .inl (c, n, .inl f)
/-- cells in any number, in their order -/
def rg (n : Nat) (c : Nat → Nat) (e : Nat → va_E) : va_W := (List.range n).map (fun i => (c i, e i))
theorem rg_len (n : Nat) (c : Nat → Nat) (e : Nat → va_E) : (rg n c e).length = n := by simp [rg]
theorem rg_at {n i : Nat} (c : Nat → Nat) (e : Nat → va_E) (h : i < n) : (rg n c e)[i]? = some (c i, e i) := by simp [rg, h]
theorem rg_get {X : va_W} {n i : Nat} (c : Nat → Nat) (e : Nat → va_E) (h : i < n) : (X ++ rg n c e)[X.length + i]? = some (c i, e i) := by
  rw [List.getElem?_append_right (by omega), show X.length + i - X.length = i by omega]
  exact rg_at c e h
theorem rg_L {X Y : va_W} {k : Nat} {x : Nat × va_E} (h : X[k]? = some x) : (X ++ Y)[k]? = some x := by
  rw [List.getElem?_append_left (List.getElem?_eq_some_iff.mp h).1]
  exact h
theorem rg_set0 {n i : Nat} (c : Nat → Nat) (e : Nat → va_E) (h : i < n) (x : va_E) : (rg n c e).set i (c i, x) = rg n c (va_up e i x) := by
  apply List.ext_getElem?
  intro j
  rw [List.getElem?_set]
  by_cases hj : i = j
  · subst hj
    rw [if_pos rfl, if_pos (by rw [rg_len]; exact h), rg_at _ _ h]
    simp [va_up]
  · rw [if_neg hj]
    by_cases hl : j < n
    · rw [rg_at _ _ hl, rg_at _ _ hl]
      simp [va_up, Ne.symm hj]
    · rw [List.getElem?_eq_none (by rw [rg_len]; omega), List.getElem?_eq_none (by rw [rg_len]; omega)]
theorem rg_set {X : va_W} {n i : Nat} (c : Nat → Nat) (e : Nat → va_E) (h : i < n) (x : va_E) : (X ++ rg n c e).set (X.length + i) (c i, x) = X ++ rg n c (va_up e i x) := by
  rw [List.set_append_right _ _ (by omega), show X.length + i - X.length = i by omega, rg_set0 _ _ h]
theorem rg_sL {X X' Y : va_W} {k : Nat} {x y : Nat × va_E} (h : X[k]? = some y) (e : X.set k x = X') : (X ++ Y).set k x = X' ++ Y := by
  rw [List.set_append_left _ _ (List.getElem?_eq_some_iff.mp h).1, e]
theorem rg_cong {n : Nat} {c c' : Nat → Nat} {e e' : Nat → va_E} (h : ∀ i, i < n → c i = c' i ∧ e i = e' i) : rg n c e = rg n c' e' := by
  unfold rg
  apply List.map_congr_left
  intro i hi
  have := h i (List.mem_range.mp hi)
  rw [this.1, this.2]
theorem rg_push (n : Nat) (c : Nat → Nat) (e : Nat → va_E) (q : Nat) (x : va_E) : rg n c e ++ [(q, x)] = rg (n + 1) (va_up c n q) (va_up e n x) := by
  have h1 : rg n c e = rg n (va_up c n q) (va_up e n x) := rg_cong (fun i hi => by simp [va_up, Nat.ne_of_lt hi])
  rw [h1]
  unfold rg
  rw [List.range_succ, List.map_append]
  simp [va_up]
theorem rg_0 (c : Nat → Nat) (e : Nat → va_E) : rg 0 c e = [] := rfl
/-- cells that change their places in the list -/
theorem z_Dsw {A : Nat → Prop} {X Y Z : va_W} (h : va_D A (X ++ Y ++ Z)) : va_D A (X ++ Z ++ Y) := by
  have q : ∀ i : Nat, (X ++ Z ++ Y)[i]? = (X ++ Y ++ Z)[if i < X.length then i else if i < X.length + Z.length then i + Y.length else if i < X.length + Z.length + Y.length then i - Z.length else i]? := by
    intro i
    by_cases h1 : i < X.length
    · rw [if_pos h1, List.append_assoc, List.append_assoc, List.getElem?_append_left h1, List.getElem?_append_left h1]
    · rw [if_neg h1]
      by_cases h2 : i < X.length + Z.length
      · rw [if_pos h2, List.getElem?_append_left (by rw [List.length_append]; exact h2), List.getElem?_append_right (by omega), List.getElem?_append_right (by rw [List.length_append]; omega), List.length_append]
        congr 1
        omega
      · rw [if_neg h2]
        by_cases h3 : i < X.length + Z.length + Y.length
        · rw [if_pos h3, List.getElem?_append_right (by rw [List.length_append]; omega), List.length_append, List.getElem?_append_left (by rw [List.length_append]; omega), List.getElem?_append_right (by omega)]
          congr 1
          omega
        · rw [if_neg h3, List.getElem?_eq_none (by simp only [List.length_append]; omega), List.getElem?_eq_none (by simp only [List.length_append]; omega)]
  refine h.by _ (fun k x hk => ?_) (fun i j hi hj e => ?_)
  · exact fun i => if i < X.length then i else if i < X.length + Z.length then i + Y.length else if i < X.length + Z.length + Y.length then i - Z.length else i
  · rw [← q]
    exact hk
  · simp only [List.length_append] at hi hj
    dsimp only at e
    split at e <;> split at e <;> (try split at e) <;> (try split at e) <;> (try split at e) <;> (try split at e) <;> omega
theorem z_Psw {D : va_G} {cl : List vw_C} {X Y Z : va_W} {H : Heap} (h : va_P D cl (X ++ Y ++ Z) H) : va_P D cl (X ++ Z ++ Y) H := z_Pap (z_Pap (z_Pl (z_Pl h)) (z_Pr h)) (z_Pr (z_Pl h))
section ZAR
variable {p : Program} {l : Launch} {e : Env} {R : Room} {s : State} {m : MethodId} {args : Array Value} {below : List Frame} {meth : Method} {c : Code} {H : Heap} {locs : List Loc} {cells slots : Nat} {Q : State → Prop}
variable {cc : ByteArray} {pc : Nat} {ls : Array Slot} {rest : List Value} {D : va_G} {cl : List vw_C} {A : Nat → Prop} {a : Nat} {tys : List (ClassId × FieldType)} {ws : va_W} {H0 : Heap}
theorem za_ald (hexec : p.tables.exec = Jvm.exec) (hb : c.code = cc) (hK : va_K D cl tys s) (hP : va_P D cl ws H) (q0 t0 : Nat) {cA : ClassId} {t : FieldType} {n v : Nat} {f : Nat → Option Nat} (ha : ws[q0]? = some (a, za_q cA n f)) (ht : tys[t0]? = some (cA, .array t)) {i : Int32} (hin : vp_in i n) (hv : f i.toNatClampNeg = some v) (hdg : decode cc pc = .ok (.aaload, 1))
    (kk : W p l e R s m args below meth c H locs cells slots Q (F0 m (pc + 1) ls (.ref v :: rest))) : W p l e R s m args below meth c H locs cells slots Q (F0 m pc ls (.int i :: .ref a :: rest)) := by
  have hlt : i.toNatClampNeg < n := Nat.not_le.mp fun q => hin (Or.inr q)
  have hr : (arrV cA n (fun j => va_rf (f j))).slots[i.toNatClampNeg]? = some (.ref v) := by rw [arrV_read _ _ hlt, hv]; rfl
  exact W.aald (v := .ref v) (ty := .array t) hexec hb (hP q0 _ ha) ((hK.2 t0 _ ht).1 n (fun j => va_rf (f j))) rfl (fun q => by cases q) (by show ¬ (i < 0 ∨ (arrV _ _ _).slots.size ≤ _); rw [arrV_size]; exact hin) hr rfl rfl hdg kk
theorem za_ast (hexec : p.tables.exec = Jvm.exec) (hb : c.code = cc) (hG : zG s) (hK : va_K D cl tys s) (hP : va_P D cl ws H) (hD : va_D A ws) (hS : va_S A H0 H locs) (q0 t0 qk t1 : Nat) {cA cB : ClassId} {n nv v : Nat} {g : Nat → Int32} {f : Nat → Option Nat} (ha : ws[q0]? = some (a, za_q cA n f)) (ht : tys[t0]? = some (cA, .array .int)) (hv : ws[qk]? = some (v, za_i cB nv g)) (ht1 : tys[t1]? = some (cB, .int)) {i : Int32} (hin : vp_in i n) (hdg : decode cc pc = .ok (.aastore, 1))
    (kk : ∀ (H1 : Heap) (locs1 : List Loc), va_P D cl (ws.set q0 (a, za_q cA n (va_up f i.toNatClampNeg (some v)))) H1 → va_D A (ws.set q0 (a, za_q cA n (va_up f i.toNatClampNeg (some v)))) → va_S A H0 H1 locs1 → W p l e R s m args below meth c H1 locs1 cells slots Q (F0 m (pc + 1) ls rest)) : W p l e R s m args below meth c H locs cells slots Q (F0 m pc ls (.ref v :: .int i :: .ref a :: rest)) := by
  have hlt : i.toNatClampNeg < n := Nat.not_le.mp fun q => hin (Or.inr q)
  have h0 : ¬ i < 0 := fun q => hin (Or.inl q)
  obtain ⟨comp, cR, kR, e1, -, e2, e3, e4⟩ := arrayOverA_spec (zG_1 (A := #[]) hG)
  have r0 : s.vm.findClass ("[" ++ (FieldType.array .int).toString) = some cA := (hK.2 t0 _ ht).2
  obtain rfl : cA = cR := Option.some.inj (r0.symm.trans e4)
  have r1 : s.vm.findClass ("[" ++ FieldType.int.toString) = some cB := (hK.2 t1 _ ht1).2
  obtain rfl : cB = comp := by
    rw [zG_s0] at r1
    rw [zG_s1] at e1
    exact Option.some.inj (r1.symm.trans e1)
  obtain ⟨-, kB, hkB, -, -⟩ := (hK.2 t1 _ ht1).1 nv (fun j => .int (g j))
  have hkB : s.vm.classes[cB]? = some kB := hkB
  refine W.aast hexec hb (hP q0 _ ha) (fun q h => by cases h) (fun h => by cases h) e2 e3 rfl hkB ⟨h0, by show _ < (arrV _ _ _).slots.size; rw [arrV_size]; exact hlt⟩ (hP qk _ hv) (fun q h => by cases h) hkB (Vm.assignable_self _ _) rfl rfl hdg fun H1 e z oq => ?_
  refine kk H1 _ (hP.set hD ha ?_ oq) (hD.set ha) (hS.put z oq (hD.2 q0 _ ha))
  show H1[a]? = some (vp_cell _ _)
  rw [e, vp_cell_q, vp_cell_q, arrV_store]
  congr 2
  funext q
  by_cases hq : q = i.toNatClampNeg
  · subst hq
    simp [updV, va_up, va_rf]
  · simp [updV, va_up, hq]
theorem za_newR (hexec : p.tables.exec = Jvm.exec) (hb : c.code = cc) {own : String} {index : Nat} (hown : s.vm.findClass own = some m.cls) (hclink : (Cond.classLink own index "[I").before args s = true) (hG : zG s) (hK : va_K D cl tys s) (t0 : Nat) {cR : ClassId} (ht : tys[t0]? = some (cR, .array .int)) (hP : va_P D cl ws H) (hD : va_D A ws) (hS : va_S A H0 H locs) (hA : ∀ q, H0.size ≤ q → A q)
    {n : Int32} {N' : Nat} (hn : ¬ n < 0) (hN : n.toNatClampNeg = N') (hbytes : N' * 4 ≤ 536870912) (hcells : cells + 1 ≤ R.cells) (hslots : slots + N' ≤ R.slots) (hdg : decode cc pc = .ok (.anewarray index, 3))
    (kk : ∀ (q : Nat) (H1 : Heap), va_P D cl (ws ++ [(q, za_q cR N' (fun _ => none))]) H1 → va_D A (ws ++ [(q, za_q cR N' (fun _ => none))]) → va_S A H0 H1 locs → W p l e R s m args below meth c H1 locs (cells + 1) (slots + N') Q (F0 m (pc + 3) ls (.ref q :: rest))) : W p l e R s m args below meth c H locs cells slots Q (F0 m pc ls (.int n :: rest)) := by
  subst hN
  refine W.anewA (t := .int) hexec hb hown (by rw [zG_s1]; exact hclink) (zG_1 hG) rfl hdg rfl hn hbytes hcells hslots fun cA kA comp f1 f2 f3 f4 => ?_
  have r0 : s.vm.findClass ("[" ++ (FieldType.array .int).toString) = some cR := (hK.2 t0 _ ht).2
  obtain rfl : cA = cR := Option.some.inj (f1.symm.trans r0)
  rw [arrV_new]
  have o1 : ∀ q : Nat, q < H.size → (H.push (arrV cA n.toNatClampNeg (fun _ => .null)))[q]? = H[q]? := fun q hq => by rw [Array.getElem?_push, if_neg (Nat.ne_of_lt hq)]
  have hk : ∀ (k : Nat) (x : Nat × va_E), ws[k]? = some x → (H.push (arrV cA n.toNatClampNeg (fun _ => .null)))[x.1]? = H[x.1]? := fun k x hx => o1 x.1 ((hP k x hx).lt)
  refine kk H.size _ ((hP.kept hk).app (fun k x hx => ?_)) (hD.push hP rfl (hA _ hS.1)) ⟨Nat.le_trans hS.1 (by rw [Array.size_push]; omega), fun x h1 h2 => (o1 x (Nat.lt_of_lt_of_le h1 hS.1)).trans (hS.2.1 x h1 h2), hS.2.2⟩
  match k, hx with
  | 0, hx =>
    cases hx
    show (H.push _)[H.size]? = some (vp_cell _ _)
    rw [Array.getElem?_push_size]
    rfl
  | k + 1, hx => simp at hx
end ZAR
/-! an array of n arrays of k places, made at once -/
def mq_out (o : ClassId) (n h0 i : Nat) : Cell := arrV o n (fun j => if j < i then .ref (h0 + 1 + j) else .null)
def mq_row (r : ClassId) (k : Nat) : Cell := arrV r k (fun _ => .null)
theorem mq_put (o : ClassId) (n h0 i : Nat) : (mq_out o n h0 i).setSlot i (.ref (h0 + 1 + i)) = mq_out o n h0 (i + 1) := by
  unfold mq_out
  rw [arrV_store]
  congr 1
  funext j
  unfold updV
  by_cases e : j = i
  · rw [if_pos e, if_pos (by omega), e]
  · rw [if_neg e]
    by_cases h : j < i
    · rw [if_pos h, if_pos (by omega)]
    · rw [if_neg h, if_neg (by omega)]
/-- the state when i of the inner arrays stand -/
def mq_st (T : State) (o r : ClassId) (n k : Nat) : Nat → State
  | 0 => T.pushCell (mq_out o n T.heap.size 0)
  | i + 1 => ((mq_st T o r n k i).pushCell (mq_row r k)).setCell T.heap.size (mq_out o n T.heap.size (i + 1))
theorem mq_facts (T : State) (o r : ClassId) (n k : Nat) : ∀ i, (mq_st T o r n k i).heap.size = T.heap.size + 1 + i ∧ (mq_st T o r n k i).heap[T.heap.size]? = some (mq_out o n T.heap.size i) ∧ (mq_st T o r n k i).vm = T.vm ∧ (mq_st T o r n k i).slotsUsed = T.slotsUsed + n + i * k ∧ (∀ a : Nat, a < T.heap.size → (mq_st T o r n k i).heap[a]? = T.heap[a]?) ∧ ∀ j, j < i → (mq_st T o r n k i).heap[T.heap.size + 1 + j]? = some (mq_row r k) := by
  intro i
  induction i with
  | zero => exact ⟨by simp [mq_st], by simp [mq_st], rfl, by simp [mq_st, mq_out, arrV_size], fun a ha => State.heap_pushCell_of_lt _ _ ha, fun j hj => absurd hj (Nat.not_lt_zero _)⟩
  | succ i ih =>
    obtain ⟨h1, h2, h3, h4, h5, h6⟩ := ih
    have b : ((mq_st T o r n k i).pushCell (mq_row r k)).heap[T.heap.size]? = some (mq_out o n T.heap.size i) := by rw [State.heap_pushCell_of_lt (h := by rw [h1]; omega)]; exact h2
    refine ⟨?_, State.heap_setCell_self b, by simp [mq_st, h3], ?_, fun a ha => ?_, fun j hj => ?_⟩
    · simp [mq_st, State.setCell, h1]
      omega
    · simp [mq_st, h4, mq_row, arrV_size, Nat.succ_mul]
      omega
    · show (((mq_st T o r n k i).pushCell (mq_row r k)).setCell T.heap.size _).heap[a]? = _
      rw [State.heap_setCell_other (Nat.ne_of_gt ha), State.heap_pushCell_of_lt (h := by rw [h1]; omega)]
      exact h5 a ha
    · show (((mq_st T o r n k i).pushCell (mq_row r k)).setCell T.heap.size _).heap[T.heap.size + 1 + j]? = _
      rw [State.heap_setCell_other (show T.heap.size ≠ T.heap.size + 1 + j by omega)]
      by_cases hl : j < i
      · rw [State.heap_pushCell_of_lt (h := by rw [h1]; omega)]
        exact h6 j hl
      · rw [show T.heap.size + 1 + j = (mq_st T o r n k i).heap.size by rw [h1]; omega]
        exact State.heap_pushCell_size _ _
theorem mq_top (s : State) (f : JFrame) (o r : ClassId) (n k : Nat) : ∀ i, mq_st (s.setTop f) o r n k i = (mq_st s o r n k i).setTop f := by
  intro i
  induction i with
  | zero => rfl
  | succ i ih => simp only [mq_st, ih, State.heap_setTop, State.pushCell_setTop, State.setCell_setTop]
theorem mq_stand {p : Program} {l : Launch} {e : Env} {R : Room} {s : State} {m : MethodId} {args : Array Value} {below : List Frame} {meth : Method} {c : Code} {T : State} {locs : List Loc} {cells slots : Nat} (X : Stand p l e R s m args below meth c T locs cells slots) (o r : ClassId) (n k : Nat) : ∀ i, Stand p l e R s m args below meth c (mq_st T o r n k i) locs (cells + 1 + i) (slots + n + i * k) := by
  intro i
  induction i with
  | zero =>
    have h := X.pushed (mq_out o n T.heap.size 0)
    rw [show (mq_out o n T.heap.size 0).slots.size = n from arrV_size _ _ _] at h
    simpa [mq_st] using h
  | succ i ih =>
    obtain ⟨h1, h2, -⟩ := mq_facts T o r n k i
    have hc : ((mq_st T o r n k i).pushCell (mq_row r k)).heap[T.heap.size]? = some (mq_out o n T.heap.size i) := by rw [State.heap_pushCell_of_lt (h := by rw [h1]; omega)]; exact h2
    have h := (ih.pushed (mq_row r k)).stored hc i (.ref (T.heap.size + 1 + i))
    rw [mq_put, show (mq_row r k).slots.size = k from arrV_size _ _ _] at h
    have h := Stand.dropFresh h (fun x hx => by rw [List.mem_singleton.mp hx]; exact X.heapGrown)
    rw [show slots + n + (i + 1) * k = slots + n + i * k + k by rw [Nat.succ_mul]; omega, show cells + 1 + (i + 1) = cells + 1 + i + 1 by omega]
    exact h
section MQW
variable {E : CtlPost} {e : Env} {d : Bool} {acts : List Action} {s : State}
theorem mq_make {o r ci : ClassId} {ko kr : Class} {n k : Int32} (hko : s.vm.classes[o]? = some ko) (hoK : ko.kind = .array r (.array (.array .int))) (hkr : s.vm.classes[r]? = some kr) (hrK : kr.kind = .array ci (.array .int)) (hn : ¬ n < 0) (hk : ¬ k < 0)
    (hl1 : ¬ n.toNatClampNeg > e.platform.arrayLengthLimit) (hh1 : ¬ n.toNatClampNeg * 4 > e.platform.maxHeapBytes) (hl2 : ¬ k.toNatClampNeg > e.platform.arrayLengthLimit) (hh2 : ¬ k.toNatClampNeg * 4 > e.platform.maxHeapBytes)
    (hc : s.heap.size + 1 + n.toNatClampNeg ≤ e.platform.maxCells) (hs : s.slotsUsed + n.toNatClampNeg + n.toNatClampNeg * k.toNatClampNeg ≤ e.platform.maxSlots)
    {Q : Addr → Pre} (hq : ∀ d' acts', Q s.heap.size d' acts' (mq_st s o r n.toNatClampNeg k.toNatClampNeg n.toNatClampNeg)) : wp (multianewarray.make o [n, k]) Q E e d acts s := by
  have hfind : ([k].find? (· < 0)) = none := by simp [hk]
  rw [multianewarray.make]
  simp only [wp_bind', W.ite, hn, if_false, wp_pure', W.theClass, hko, hoK, Option.some.injEq, exists_eq_left']
  refine W.newArray_of hko hoK hl1 hh1 (by omega) (by omega) rfl (fun acts1 => ?_)
  simp only [hfind]
  rw [ite_self, wp_bind', Std.Legacy.Range.forIn_eq_forIn_range', arrV_new]
  rw [show ([:n.toNatClampNeg] : Std.Legacy.Range).size = n.toNatClampNeg by simp [Std.Legacy.Range.size]]
  show wp (forIn (List.range' 0 n.toNatClampNeg 1) PUnit.unit _) _ E e d _ _
  refine wp_forIn_inv (fun todo s' => ∃ i, i + todo.length = n.toNatClampNeg ∧ todo = List.range' i todo.length ∧ s' = mq_st s o r n.toNatClampNeg k.toNatClampNeg i) _ _ ⟨0, by simp, by simp, ?_⟩ ?_ ?_
  · simp [mq_st, mq_out]
  · rintro x rest s' d' acts' Q' ⟨i, hi, hl, rfl⟩ hnext
    rw [List.length_cons] at hi
    rw [List.length_cons, List.range'_succ] at hl
    obtain ⟨rfl, hrest⟩ : x = i ∧ rest = List.range' (i + 1) rest.length := ⟨(List.cons.inj hl).1, (List.cons.inj hl).2⟩
    obtain ⟨f1, f2, f3, f4, -, -⟩ := mq_facts s o r n.toNatClampNeg k.toNatClampNeg x
    have hmul : x * k.toNatClampNeg + k.toNatClampNeg ≤ n.toNatClampNeg * k.toNatClampNeg := by
      have := Nat.mul_le_mul_right k.toNatClampNeg (show x + 1 ≤ n.toNatClampNeg by omega)
      rw [Nat.succ_mul] at this
      exact this
    simp only [wp_bind']
    rw [multianewarray.make]
    simp only [wp_bind', W.ite, hk, if_false, wp_pure', W.theClass, f3, hkr, hrK, Option.some.injEq, exists_eq_left']
    refine W.newArray_of (by rw [f3]; exact hkr) hrK hl2 hh2 (by rw [f1]; omega) (by rw [f4]; omega) rfl (fun acts2 => ?_)
    rw [arrV_new]
    have hlt0 : s.heap.size < (mq_st s o r n.toNatClampNeg k.toNatClampNeg x).heap.size := by rw [f1]; omega
    simp only [wp_bind', W.writeLoc, wp_pure']
    refine ⟨mq_out o n.toNatClampNeg s.heap.size x, by rw [State.heap_pushCell_of_lt (h := hlt0)]; exact f2, by simp [mq_out, arrV], by rw [show (mq_out o n.toNatClampNeg s.heap.size x).slots.size = n.toNatClampNeg from arrV_size _ _ _]; omega, ?_, hnext _ _ _ ⟨x + 1, by omega, hrest, ?_⟩⟩
    · simp [State.fitsSlot, State.slotType?, mq_out, arrV, f3, hko, hoK, fits]
    · rw [f1, mq_put]
      rfl
  · rintro s' d' acts' ⟨i, hi, -, rfl⟩
    rw [show i = n.toNatClampNeg by simpa using hi]
    simp only [wp_pure']
    exact hq _ _
end MQW
end
